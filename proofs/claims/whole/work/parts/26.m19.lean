/-- what the reference keeps of SOON while it goes through orders -/
def skI (S : Nat → Int32) (T : Nat) (Q : pP) (n0 n1 : Nat) (A : Nat → Nat → Int32) : Prop := ∀ r s a, r < n1 → s < n0 → a ≤ 361 → A 6 (2172 * r + 362 * s + a) = 0 ∨ A 6 (2172 * r + 362 * s + a) = nI (soS S T Q r s a)
theorem dX12_soonKnown_0 : decode cX12_soonKnown 0 = .ok (.sipush 2172, 3) := by decide +kernel
theorem dX12_soonKnown_3 : decode cX12_soonKnown 3 = .ok (.iload_n 1, 1) := by decide +kernel
theorem dX12_soonKnown_4 : decode cX12_soonKnown 4 = .ok (.imul, 1) := by decide +kernel
theorem dX12_soonKnown_5 : decode cX12_soonKnown 5 = .ok (.sipush 362, 3) := by decide +kernel
theorem dX12_soonKnown_8 : decode cX12_soonKnown 8 = .ok (.iload_n 2, 1) := by decide +kernel
theorem dX12_soonKnown_9 : decode cX12_soonKnown 9 = .ok (.imul, 1) := by decide +kernel
theorem dX12_soonKnown_10 : decode cX12_soonKnown 10 = .ok (.iadd, 1) := by decide +kernel
theorem dX12_soonKnown_11 : decode cX12_soonKnown 11 = .ok (.iload_n 3, 1) := by decide +kernel
theorem dX12_soonKnown_12 : decode cX12_soonKnown 12 = .ok (.iadd, 1) := by decide +kernel
theorem dX12_soonKnown_13 : decode cX12_soonKnown 13 = .ok (.istore 4, 2) := by decide +kernel
theorem dX12_soonKnown_15 : decode cX12_soonKnown 15 = .ok (.aload_n 0, 1) := by decide +kernel
theorem dX12_soonKnown_16 : decode cX12_soonKnown 16 = .ok (.getfield 28, 3) := by decide +kernel
theorem dX12_soonKnown_19 : decode cX12_soonKnown 19 = .ok (.iload 4, 2) := by decide +kernel
theorem dX12_soonKnown_21 : decode cX12_soonKnown 21 = .ok (.aload_n 0, 1) := by decide +kernel
theorem dX12_soonKnown_22 : decode cX12_soonKnown 22 = .ok (.getfield 28, 3) := by decide +kernel
theorem dX12_soonKnown_25 : decode cX12_soonKnown 25 = .ok (.iload 4, 2) := by decide +kernel
theorem dX12_soonKnown_27 : decode cX12_soonKnown 27 = .ok (.iaload, 1) := by decide +kernel
theorem dX12_soonKnown_28 : decode cX12_soonKnown 28 = .ok (.ifCond .ne 13, 3) := by decide +kernel
theorem dX12_soonKnown_31 : decode cX12_soonKnown 31 = .ok (.aload_n 0, 1) := by decide +kernel
theorem dX12_soonKnown_32 : decode cX12_soonKnown 32 = .ok (.iload_n 1, 1) := by decide +kernel
theorem dX12_soonKnown_33 : decode cX12_soonKnown 33 = .ok (.iload_n 2, 1) := by decide +kernel
theorem dX12_soonKnown_34 : decode cX12_soonKnown 34 = .ok (.iload_n 3, 1) := by decide +kernel
theorem dX12_soonKnown_35 : decode cX12_soonKnown 35 = .ok (.invokevirtual 168, 3) := by decide +kernel
theorem dX12_soonKnown_38 : decode cX12_soonKnown 38 = .ok (.goto 10, 3) := by decide +kernel
theorem dX12_soonKnown_41 : decode cX12_soonKnown 41 = .ok (.aload_n 0, 1) := by decide +kernel
theorem dX12_soonKnown_42 : decode cX12_soonKnown 42 = .ok (.getfield 28, 3) := by decide +kernel
theorem dX12_soonKnown_45 : decode cX12_soonKnown 45 = .ok (.iload 4, 2) := by decide +kernel
theorem dX12_soonKnown_47 : decode cX12_soonKnown 47 = .ok (.iaload, 1) := by decide +kernel
theorem dX12_soonKnown_48 : decode cX12_soonKnown 48 = .ok (.iastore, 1) := by decide +kernel
theorem dX12_soonKnown_49 : decode cX12_soonKnown 49 = .ok (.aload_n 0, 1) := by decide +kernel
theorem dX12_soonKnown_50 : decode cX12_soonKnown 50 = .ok (.getfield 28, 3) := by decide +kernel
theorem dX12_soonKnown_53 : decode cX12_soonKnown 53 = .ok (.iload 4, 2) := by decide +kernel
theorem dX12_soonKnown_55 : decode cX12_soonKnown 55 = .ok (.iaload, 1) := by decide +kernel
theorem dX12_soonKnown_56 : decode cX12_soonKnown 56 = .ok (.ireturn, 1) := by decide +kernel
set_option maxRecDepth 100000 in
set_option maxHeartbeats 4000000 in
theorem s_soonKnown (l : Launch) (g : zG) (h : Hp) (m : Nat) (F : Nat → Int32) (A : Nat → Nat → Int32) (T : Nat) (Q : pP) (hi : iT (A 1) T Q) (hlv : lvI T Q F A) (n0 n1 : Nat) (hR : iR (A 1) n1) (hS : iS (A 1) n0) (r s a : Nat) (hr1 : r < n1) (hs1 : s < n0) (ha : a ≤ 300) (hsk : skI (A 1) T Q n0 n1 A) : Sp l g yX12_soonKnown cX12_soonKnown 5 (some .int) (rmz 8) [.ref m, .int (nI r), .int (nI s), .int (nI a)] (hM g h m F A) (zI fun q h' => q = nI (soS (A 1) T Q r s a) ∧ mgar g h m F A [11, 12, 14] [3, 4, 5, 6] (fun F' A' => lvI T Q F' A' ∧ skI (A 1) T Q n0 n1 A') h') := by
  refine Sp.of [some (.ref m), some (.int (nI r)), some (.int (nI s)), some (.int (nI a)), none] (by decide) (Nat.le_of_ble_eq_true rfl) rfl rfl ?_
  rintro X rfl hr rfl B
  show AW X 0 0 0 _ _ _ _
  have z1 := hR.1
  have z2 := hS.1
  refine aw_sipush B 2172 (by decide) dX12_soonKnown_0 ?_
  refine aw_iload_n B 1 rfl dX12_soonKnown_3 rfl ?_
  refine aw_imul B dX12_soonKnown_4 ?_
  rw [show (2172 : Int32) * nI r = nI (2172 * r) from pk_mul 2172 r]
  refine aw_sipush B 362 (by decide) dX12_soonKnown_5 ?_
  refine aw_iload_n B 2 rfl dX12_soonKnown_8 rfl ?_
  refine aw_imul B dX12_soonKnown_9 ?_
  rw [show (362 : Int32) * nI s = nI (362 * s) from pk_mul 362 s]
  refine aw_iadd B dX12_soonKnown_10 ?_
  rw [nI_add]
  refine aw_iload_n B 3 rfl dX12_soonKnown_11 rfl ?_
  refine aw_iadd B dX12_soonKnown_12 ?_
  rw [nI_add]
  refine aw_istore4 B dX12_soonKnown_13 ?_
  refine aw_aload_n B 0 rfl dX12_soonKnown_15 rfl ?_
  refine m_get B f_X12_28 dX12_soonKnown_16 (mg_15 _ _) ?_
  refine aw_iload B dX12_soonKnown_19 rfl ?_
  refine aw_aload_n B 0 rfl dX12_soonKnown_21 rfl ?_
  refine m_get B f_X12_28 dX12_soonKnown_22 (mg_15 _ _) ?_
  refine aw_iload B dX12_soonKnown_25 rfl ?_
  refine m_ld B (2172 * r + 362 * s + a) (rfl) (by show _ < 8688; omega) dX12_soonKnown_27 (by decide) ?_
  refine aw_if_ne B 41 dX12_soonKnown_28 (fun c28 => ?_) (fun c28 => ?_)
  · refine aw_aload_n B 0 rfl dX12_soonKnown_41 rfl ?_
    refine m_get B f_X12_28 dX12_soonKnown_42 (mg_15 _ _) ?_
    refine aw_iload B dX12_soonKnown_45 rfl ?_
    refine m_ld B (2172 * r + 362 * s + a) (rfl) (by show _ < 8688; omega) dX12_soonKnown_47 (by decide) ?_
    refine m_st B (2172 * r + 362 * s + a) (rfl) (by show _ < 8688; omega) dX12_soonKnown_48 (by decide) ?_
    refine aw_aload_n B 0 rfl dX12_soonKnown_49 rfl ?_
    refine m_get B f_X12_28 dX12_soonKnown_50 (mg_15 _ _) ?_
    refine aw_iload B dX12_soonKnown_53 rfl ?_
    refine m_ld B (2172 * r + 362 * s + a) (rfl) (by show _ < 8688; omega) dX12_soonKnown_55 (by decide) ?_
    refine aw_iret B rfl rfl dX12_soonKnown_56 ?_
    have hv : A 6 (2172 * r + 362 * s + a) = nI (soS (A 1) T Q r s a) := (hsk r s a hr1 hs1 (by omega)).resolve_left c28
    refine ⟨_, rfl, ?_, F, _, rfl, eqF.rf, eqA.rf.up (by simp), ?_, ?_⟩
    · rw [mup_s, upd_s, hv]
    · obtain ⟨kn, g1, g2, g3⟩ := hlv
      exact ⟨kn, g1, g2, fun i hi => by rw [mup_n (by decide)]; exact g3 i hi⟩
    · rw [upd_i, mup_i]; exact hsk
  · refine aw_aload_n B 0 rfl dX12_soonKnown_31 rfl ?_
    refine aw_iload_n B 1 rfl dX12_soonKnown_32 rfl ?_
    refine aw_iload_n B 2 rfl dX12_soonKnown_33 rfl ?_
    refine aw_iload_n B 3 rfl dX12_soonKnown_34 rfl ?_
    refine aw_callV B 0 0 (s_soonS _ _ _ _ _ _ T Q hi hlv n0 n1 r s a hR hS hr1 hs1 (by omega)) co_X12_soonFrom k_X12_168 dX12_soonKnown_35 hM_o rfl rfl rfl rfl (Nat.le_of_ble_eq_true rfl) (zrm hr (by decide)) (Nat.le_refl _) (Nat.le_refl _) (kI fun r35 h35 hp35 => ?_)
    obtain ⟨rfl, F2, A2, rfl, hF2, hA2, hlv2⟩ := hp35
    refine aw_goto B 48 dX12_soonKnown_38 ?_
    refine m_st B (2172 * r + 362 * s + a) (rfl) (by show _ < 8688; omega) dX12_soonKnown_48 (by decide) ?_
    refine aw_aload_n B 0 rfl dX12_soonKnown_49 rfl ?_
    refine m_get B f_X12_28 dX12_soonKnown_50 (mg_15 _ _) ?_
    refine aw_iload B dX12_soonKnown_53 rfl ?_
    refine m_ld B (2172 * r + 362 * s + a) (rfl) (by show _ < 8688; omega) dX12_soonKnown_55 (by decide) ?_
    refine aw_iret B rfl rfl dX12_soonKnown_56 ?_
    refine ⟨_, rfl, by rw [mup_s, upd_s], F2, _, rfl, hF2, (hA2.mono (by simp)).up (by simp), ?_, ?_⟩
    · obtain ⟨kn, g1, g2, g3⟩ := hlv2
      exact ⟨kn, g1, g2, fun i hi => by rw [mup_n (by decide)]; exact g3 i hi⟩
    · intro r' s' a' h1 h2 h3
      rw [mup_s]
      by_cases hx : 2172 * r' + 362 * s' + a' = 2172 * r + 362 * s + a
      · have e1 : r' = r := by omega
        have e2 : s' = s := by omega
        have e3 : a' = a := by omega
        subst e1; subst e2; subst e3
        exact Or.inr upd_s
      · rw [upd_n hx, hA2 6 (by simp)]
        exact hsk r' s' a' h1 h2 h3
