def kN (x : Int32) : Nat := x.toNatClampNeg
theorem kN_nI {n : Nat} (h : n < 2 ^ 31) : kN (nI n) = n := nI_clamp h
/-- SOON, from a hours on: 100000 for none -/
def soS (S : Nat → Int32) (T : Nat) (Q : pP) (r s a : Nat) : Nat := sF T Q (kN (S (22 + r))) (kN (S (26 + r))) (kN (S (10 + s))) (p_needs (kN (S (22 + r))) (kN (S (26 + r))) (kN (S (16 + s)))) a
theorem iK_of {S : Nat → Int32} {n1 r : Nat} (h : iR S n1) (hr : r < n1) : iK S r (kN (S (22 + r))) (kN (S (26 + r))) := by
  obtain ⟨⟨k, -, hk, ek⟩, v, -, hv, ev⟩ := h.2.2 r hr
  have := h.1
  refine ⟨by omega, ?_, ?_, ?_, ?_⟩
  · rw [ek, kN_nI (by omega)]; exact hk
  · rw [ev, kN_nI (by omega)]; exact hv
  · rw [ek, kN_nI (by omega)]
  · rw [ev, kN_nI (by omega)]
theorem iZ_of {S : Nat → Int32} {n0 s : Nat} (h : iS S n0) (hs : s < n0) : iZ S s (kN (S (10 + s))) (kN (S (16 + s))) := by
  obtain ⟨⟨k, -, hk, ek⟩, v, hv1, hv, ev⟩ := h.2.2 s hs
  have := h.1
  refine ⟨by omega, ?_, ?_, ?_, ?_, ?_⟩
  · rw [ek, kN_nI (by omega)]; exact hk
  · rw [ev, kN_nI (by omega)]; exact hv1
  · rw [ev, kN_nI (by omega)]; exact hv
  · rw [ek, kN_nI (by omega)]
  · rw [ev, kN_nI (by omega)]
theorem s_soonS (l : Launch) (g : zG) (h : Hp) (m : Nat) (F : Nat → Int32) (A : Nat → Nat → Int32) (T : Nat) (Q : pP) (hi : iT (A 1) T Q) (hlv : lvI T Q F A) (n0 n1 r s a : Nat) (hR : iR (A 1) n1) (hS : iS (A 1) n0) (hr : r < n1) (hs : s < n0) (ha : a ≤ 310) : Sp l g yX12_soonFrom cX12_soonFrom 6 (some .int) (rmz 7) [.ref m, .int (nI r), .int (nI s), .int (nI a)] (hM g h m F A) (zI (lres g h m F A T Q (nI (soS (A 1) T Q r s a)))) :=
  s_soonFrom l g h m F A T Q hi hlv r s _ _ _ _ a (iK_of hR hr) (iZ_of hS hs) ha
theorem lvI_0 {T : Nat} {Q : pP} {F : Nat → Int32} {A : Nat → Nat → Int32} : lvI T Q (upd F 14 0) A := ⟨0, upd_s, by omega, fun i hi => absurd hi (by omega)⟩
def GF : List Nat := [4, 5, 6, 7, 8, 11, 12, 14, 18, 21, 22, 23]
def GA : List Nat := [3, 4, 5, 6, 7, 8]
/-- a query's end: the answer, and only the reference's own notes changed -/
def mq (g : zG) (h : Hp) (m : Nat) (F : Nat → Int32) (A : Nat → Nat → Int32) (v : Int32) : Int32 → Hp → Prop := fun r h' => r = v ∧ mgar g h m F A GF GA (fun _ _ => True) h'
theorem gar_1 {F F' : Nat → Int32} (h : eqF [11, 12, 14] F F') : eqF GF F F' := h.mono (by simp [GF])
theorem gar_2 {A A' : Nat → Nat → Int32} (h : eqA [3, 4, 5] A A') : eqA GA A A' := h.mono (by simp [GA])
theorem gar_3 {F F' : Nat → Int32} (h : eqF [11, 12] F F') : eqF GF F F' := h.mono (by simp [GF])
theorem gar_4 {A A' : Nat → Nat → Int32} (h : eqA [3, 4] A A') : eqA GA A A' := h.mono (by simp [GA])
theorem gar_5 {F : Nat → Int32} {x : Int32} : eqF GF F (upd F 14 x) := eqF.rf.up (by simp [GF])
def iA (S : Nat → Int32) (n0 n1 n3 : Nat) : Prop := n3 ≤ 8 ∧ S 3 = nI n3 ∧ ∀ k, k < n3 → (∃ r, r < n1 ∧ S (30 + k) = nI r) ∧ (∃ s, s < n0 ∧ S (38 + k) = nI s) ∧ ∃ a, a ≤ 24 ∧ S (46 + k) = nI a
def iL (S : Nat → Int32) (n0 n1 n5 : Nat) : Prop := n5 ≤ 8 ∧ S 5 = nI n5 ∧ ∀ k, k < n5 → (∃ r, r < n1 ∧ S (70 + k) = nI r) ∧ (∃ s, s < n0 ∧ S (78 + k) = nI s) ∧ ∃ a, a ≤ 60 ∧ S (86 + k) = nI a
def iE (S : Nat → Int32) (n4 : Nat) : Prop := n4 ≤ 8 ∧ S 4 = nI n4 ∧ ∀ k, k < n4 → (∃ a, a ≤ 60 ∧ S (54 + k) = nI a) ∧ (S (62 + k) = 0 ∨ S (62 + k) = 1)
def q_told (T : Nat) (Q : pP) (x : Int32) : Int32 := if x = 0 then nI T else if x = 1 then lvl T Q else if x = 2 then p10 (evL T Q).2 else -1
theorem dX12_told_0 : decode cX12_told 0 = .ok (.iload_n 1, 1) := by decide +kernel
theorem dX12_told_1 : decode cX12_told 1 = .ok (.ifCond .ne 11, 3) := by decide +kernel
theorem dX12_told_4 : decode cX12_told 4 = .ok (.aload_n 0, 1) := by decide +kernel
theorem dX12_told_5 : decode cX12_told 5 = .ok (.getfield 9, 3) := by decide +kernel
theorem dX12_told_8 : decode cX12_told 8 = .ok (.bipush 8, 2) := by decide +kernel
theorem dX12_told_10 : decode cX12_told 10 = .ok (.iaload, 1) := by decide +kernel
theorem dX12_told_11 : decode cX12_told 11 = .ok (.ireturn, 1) := by decide +kernel
theorem dX12_told_12 : decode cX12_told 12 = .ok (.iload_n 1, 1) := by decide +kernel
theorem dX12_told_13 : decode cX12_told 13 = .ok (.iconst 1, 1) := by decide +kernel
theorem dX12_told_14 : decode cX12_told 14 = .ok (.if_icmp .eq 10, 3) := by decide +kernel
theorem dX12_told_17 : decode cX12_told 17 = .ok (.iload_n 1, 1) := by decide +kernel
theorem dX12_told_18 : decode cX12_told 18 = .ok (.iconst 2, 1) := by decide +kernel
theorem dX12_told_19 : decode cX12_told 19 = .ok (.if_icmp .eq 5, 3) := by decide +kernel
theorem dX12_told_22 : decode cX12_told 22 = .ok (.iconst (-1), 1) := by decide +kernel
theorem dX12_told_23 : decode cX12_told 23 = .ok (.ireturn, 1) := by decide +kernel
theorem dX12_told_24 : decode cX12_told 24 = .ok (.aload_n 0, 1) := by decide +kernel
theorem dX12_told_25 : decode cX12_told 25 = .ok (.aload_n 0, 1) := by decide +kernel
theorem dX12_told_26 : decode cX12_told 26 = .ok (.getfield 9, 3) := by decide +kernel
theorem dX12_told_29 : decode cX12_told 29 = .ok (.bipush 8, 2) := by decide +kernel
theorem dX12_told_31 : decode cX12_told 31 = .ok (.iaload, 1) := by decide +kernel
theorem dX12_told_32 : decode cX12_told 32 = .ok (.invokevirtual 133, 3) := by decide +kernel
theorem dX12_told_35 : decode cX12_told 35 = .ok (.istore_n 2, 1) := by decide +kernel
theorem dX12_told_36 : decode cX12_told 36 = .ok (.iload_n 1, 1) := by decide +kernel
theorem dX12_told_37 : decode cX12_told 37 = .ok (.iconst 1, 1) := by decide +kernel
theorem dX12_told_38 : decode cX12_told 38 = .ok (.if_icmp .ne 7, 3) := by decide +kernel
theorem dX12_told_41 : decode cX12_told 41 = .ok (.iload_n 2, 1) := by decide +kernel
theorem dX12_told_42 : decode cX12_told 42 = .ok (.goto 7, 3) := by decide +kernel
theorem dX12_told_45 : decode cX12_told 45 = .ok (.aload_n 0, 1) := by decide +kernel
theorem dX12_told_46 : decode cX12_told 46 = .ok (.getfield 124, 3) := by decide +kernel
theorem dX12_told_49 : decode cX12_told 49 = .ok (.ireturn, 1) := by decide +kernel
set_option maxRecDepth 100000 in
set_option maxHeartbeats 4000000 in
theorem s_told (l : Launch) (g : zG) (h : Hp) (m : Nat) (F : Nat → Int32) (A : Nat → Nat → Int32) (x : Int32) (T : Nat) (Q : pP) (hi : iT (A 1) T Q) : Sp l g yX12_told cX12_told 3 (some .int) (rmz 3) [.ref m, .int x] (hM g h m F A) (zI (mq g h m F A (q_told T Q x))) := by
  refine Sp.of [some (.ref m), some (.int x), none] (by decide) (Nat.le_of_ble_eq_true rfl) rfl rfl ?_
  rintro X rfl hr rfl B
  show AW X 0 0 0 _ _ _ _
  refine aw_iload_n B 1 rfl dX12_told_0 rfl ?_
  refine aw_if_ne B 12 dX12_told_1 (fun c1 => ?_) (fun c1 => ?_)
  · refine aw_iload_n B 1 rfl dX12_told_12 rfl ?_
    refine aw_iconst B 1 (by decide) dX12_told_13 ?_
    refine aw_icmp_eq B 24 dX12_told_14 (fun c14 => ?_) (fun c14 => ?_)
    · refine aw_aload_n B 0 rfl dX12_told_24 rfl ?_
      refine aw_aload_n B 0 rfl dX12_told_25 rfl ?_
      refine m_get B f_X12_9 dX12_told_26 (mg_1 _ _) ?_
      refine aw_bipush B 8 (by decide) dX12_told_29 ?_
      refine m_ld B (8) (rfl) ((by decide)) dX12_told_31 (by decide) ?_
      rw [hi.1]
      refine aw_callV B 0 0 (s_levelAt _ _ _ _ _ _ (T) Q (by have := hi.2.1; omega) hi.2.2.1 hi.2.2.2) co_X12_levelAt k_X12_133 dX12_told_32 hM_o rfl rfl rfl rfl (Nat.le_of_ble_eq_true rfl) (zrm hr (by decide)) (Nat.le_refl _) (Nat.le_refl _) (kI fun r32 h32 hp32 => ?_)
      obtain ⟨rfl, F2, A2, rfl, hF2, hA2, hw2⟩ := hp32
      refine aw_istore2 B dX12_told_35 ?_
      refine aw_iload_n B 1 rfl dX12_told_36 rfl ?_
      refine aw_iconst B 1 (by decide) dX12_told_37 ?_
      refine aw_icmp_ne B 45 dX12_told_38 (fun c38 => absurd c14 c38) (fun c38 => ?_)
      refine aw_iload_n B 2 rfl dX12_told_41 rfl ?_
      refine aw_goto B 49 dX12_told_42 ?_
      refine aw_iret B rfl rfl dX12_told_49 ?_
      exact ⟨_, rfl, by unfold q_told; rw [if_neg c1, if_pos c14], F2, A2, rfl, gar_3 hF2, gar_4 hA2, trivial⟩
    · refine aw_iload_n B 1 rfl dX12_told_17 rfl ?_
      refine aw_iconst B 2 (by decide) dX12_told_18 ?_
      refine aw_icmp_eq B 24 dX12_told_19 (fun c19 => ?_) (fun c19 => ?_)
      · refine aw_aload_n B 0 rfl dX12_told_24 rfl ?_
        refine aw_aload_n B 0 rfl dX12_told_25 rfl ?_
        refine m_get B f_X12_9 dX12_told_26 (mg_1 _ _) ?_
        refine aw_bipush B 8 (by decide) dX12_told_29 ?_
        refine m_ld B (8) (rfl) ((by decide)) dX12_told_31 (by decide) ?_
        rw [hi.1]
        refine aw_callV B 0 0 (s_levelAt _ _ _ _ _ _ (T) Q (by have := hi.2.1; omega) hi.2.2.1 hi.2.2.2) co_X12_levelAt k_X12_133 dX12_told_32 hM_o rfl rfl rfl rfl (Nat.le_of_ble_eq_true rfl) (zrm hr (by decide)) (Nat.le_refl _) (Nat.le_refl _) (kI fun r32 h32 hp32 => ?_)
        obtain ⟨rfl, F2, A2, rfl, hF2, hA2, hw2⟩ := hp32
        refine aw_istore2 B dX12_told_35 ?_
        refine aw_iload_n B 1 rfl dX12_told_36 rfl ?_
        refine aw_iconst B 1 (by decide) dX12_told_37 ?_
        refine aw_icmp_ne B 45 dX12_told_38 (fun c38 => ?_) (fun c38 => absurd c38 c14)
        refine aw_aload_n B 0 rfl dX12_told_45 rfl ?_
        refine m_get B f_X12_124 dX12_told_46 (mg_12 _ _) ?_
        refine aw_iret B rfl rfl dX12_told_49 ?_
        exact ⟨_, rfl, by unfold q_told; rw [if_neg c1, if_neg c14, if_pos c19]; exact hw2, F2, A2, rfl, gar_3 hF2, gar_4 hA2, trivial⟩
      · refine aw_iconst B (-1) (by decide) dX12_told_22 ?_
        refine aw_iret B rfl rfl dX12_told_23 ?_
        exact ⟨_, rfl, by unfold q_told; rw [if_neg c1, if_neg c14, if_neg c19], F, A, rfl, eqF.rf, eqA.rf, trivial⟩
  · refine aw_aload_n B 0 rfl dX12_told_4 rfl ?_
    refine m_get B f_X12_9 dX12_told_5 (mg_1 _ _) ?_
    refine aw_bipush B 8 (by decide) dX12_told_8 ?_
    refine m_ld B (8) (rfl) ((by decide)) dX12_told_10 (by decide) ?_
    refine aw_iret B rfl rfl dX12_told_11 ?_
    exact ⟨_, rfl, by unfold q_told; rw [if_pos c1]; exact hi.1, F, A, rfl, eqF.rf, eqA.rf, trivial⟩
def q_level (T : Nat) (Q : pP) (x : Int32) : Int32 := if bI (0 ≤ x ∧ x ≤ 60) = 0 then -2 else lvl (T + kN x) Q
theorem dX12_level_0 : decode cX12_level 0 = .ok (.iload_n 1, 1) := by decide +kernel
theorem dX12_level_1 : decode cX12_level 1 = .ok (.iconst 0, 1) := by decide +kernel
theorem dX12_level_2 : decode cX12_level 2 = .ok (.bipush 60, 2) := by decide +kernel
theorem dX12_level_4 : decode cX12_level 4 = .ok (.invokestatic 44, 3) := by decide +kernel
theorem dX12_level_7 : decode cX12_level 7 = .ok (.ifCond .eq 19, 3) := by decide +kernel
theorem dX12_level_10 : decode cX12_level 10 = .ok (.aload_n 0, 1) := by decide +kernel
theorem dX12_level_11 : decode cX12_level 11 = .ok (.aload_n 0, 1) := by decide +kernel
theorem dX12_level_12 : decode cX12_level 12 = .ok (.getfield 9, 3) := by decide +kernel
theorem dX12_level_15 : decode cX12_level 15 = .ok (.bipush 8, 2) := by decide +kernel
theorem dX12_level_17 : decode cX12_level 17 = .ok (.iaload, 1) := by decide +kernel
theorem dX12_level_18 : decode cX12_level 18 = .ok (.iload_n 1, 1) := by decide +kernel
theorem dX12_level_19 : decode cX12_level 19 = .ok (.iadd, 1) := by decide +kernel
theorem dX12_level_20 : decode cX12_level 20 = .ok (.invokevirtual 133, 3) := by decide +kernel
theorem dX12_level_23 : decode cX12_level 23 = .ok (.goto 5, 3) := by decide +kernel
theorem dX12_level_26 : decode cX12_level 26 = .ok (.bipush (-2), 2) := by decide +kernel
theorem dX12_level_28 : decode cX12_level 28 = .ok (.ireturn, 1) := by decide +kernel
set_option maxRecDepth 100000 in
set_option maxHeartbeats 4000000 in
theorem s_level (l : Launch) (g : zG) (h : Hp) (m : Nat) (F : Nat → Int32) (A : Nat → Nat → Int32) (x : Int32) (T : Nat) (Q : pP) (hi : iT (A 1) T Q) : Sp l g yX12_level cX12_level 2 (some .int) (rmz 3) [.ref m, .int x] (hM g h m F A) (zI (mq g h m F A (q_level T Q x))) := by
  refine Sp.of [some (.ref m), some (.int x)] (by decide) (Nat.le_of_ble_eq_true rfl) rfl rfl ?_
  rintro X rfl hr rfl B
  show AW X 0 0 0 _ _ _ _
  refine aw_iload_n B 1 rfl dX12_level_0 rfl ?_
  refine aw_iconst B 0 (by decide) dX12_level_1 ?_
  refine aw_bipush B 60 (by decide) dX12_level_2 ?_
  refine aw_callS B 0 0 (s_in _ _ _ _ _ _) co_X12_in k_X12_44 dX12_level_4 rfl rfl (Nat.le_of_ble_eq_true rfl) (zrm hr (by decide)) (Nat.le_refl _) (Nat.le_refl _) (kI fun r4 h4 hp4 => ?_)
  obtain ⟨rfl, rfl⟩ := hp4
  refine aw_if_eq B 26 dX12_level_7 (fun c7 => ?_) (fun c7 => ?_)
  · refine aw_bipush B (-2) (by decide) dX12_level_26 ?_
    refine aw_iret B rfl rfl dX12_level_28 ?_
    exact ⟨_, rfl, by unfold q_level; rw [if_pos c7], F, A, rfl, eqF.rf, eqA.rf, trivial⟩
  · obtain ⟨k, -, hk, rfl⟩ := in_rng (lo := 0) (hi := 60) (of_bI c7) (by decide) (by decide)
    have ek : kN (nI k) = k := kN_nI (by omega)
    refine aw_aload_n B 0 rfl dX12_level_10 rfl ?_
    refine aw_aload_n B 0 rfl dX12_level_11 rfl ?_
    refine m_get B f_X12_9 dX12_level_12 (mg_1 _ _) ?_
    refine aw_bipush B 8 (by decide) dX12_level_15 ?_
    refine m_ld B (8) (rfl) ((by decide)) dX12_level_17 (by decide) ?_
    rw [hi.1]
    refine aw_iload_n B 1 rfl dX12_level_18 rfl ?_
    refine aw_iadd B dX12_level_19 ?_
    rw [nI_add]
    refine aw_callV B 0 0 (s_levelAt _ _ _ _ _ _ (T + k) Q (by have := hi.2.1; omega) hi.2.2.1 hi.2.2.2) co_X12_levelAt k_X12_133 dX12_level_20 hM_o rfl rfl rfl rfl (Nat.le_of_ble_eq_true rfl) (zrm hr (by decide)) (Nat.le_refl _) (Nat.le_refl _) (kI fun r20 h20 hp20 => ?_)
    obtain ⟨rfl, F2, A2, rfl, hF2, hA2, hw2⟩ := hp20
    refine aw_goto B 28 dX12_level_23 ?_
    refine aw_iret B rfl rfl dX12_level_28 ?_
    exact ⟨_, rfl, by unfold q_level; rw [if_neg c7, ek], F2, A2, rfl, gar_3 hF2, gar_4 hA2, trivial⟩
def orN (n : Nat) : Int32 := if nI n < 100000 then nI n else -5
def q_soon (S : Nat → Int32) (T : Nat) (Q : pP) (x y : Int32) : Int32 := if bI (0 ≤ x ∧ x ≤ S 1 - 1) = 0 then -1 else if bI (0 ≤ y ∧ y ≤ S 0 - 1) = 0 then -1 else orN (soS S T Q (kN x) (kN y) 0)
theorem dX12_soon_0 : decode cX12_soon 0 = .ok (.aload_n 0, 1) := by decide +kernel
theorem dX12_soon_1 : decode cX12_soon 1 = .ok (.iload_n 1, 1) := by decide +kernel
theorem dX12_soon_2 : decode cX12_soon 2 = .ok (.invokevirtual 144, 3) := by decide +kernel
theorem dX12_soon_5 : decode cX12_soon 5 = .ok (.ifCond .eq 11, 3) := by decide +kernel
theorem dX12_soon_8 : decode cX12_soon 8 = .ok (.aload_n 0, 1) := by decide +kernel
theorem dX12_soon_9 : decode cX12_soon 9 = .ok (.iload_n 2, 1) := by decide +kernel
theorem dX12_soon_10 : decode cX12_soon 10 = .ok (.invokevirtual 141, 3) := by decide +kernel
theorem dX12_soon_13 : decode cX12_soon 13 = .ok (.ifCond .ne 5, 3) := by decide +kernel
theorem dX12_soon_16 : decode cX12_soon 16 = .ok (.iconst (-1), 1) := by decide +kernel
theorem dX12_soon_17 : decode cX12_soon 17 = .ok (.ireturn, 1) := by decide +kernel
theorem dX12_soon_18 : decode cX12_soon 18 = .ok (.aload_n 0, 1) := by decide +kernel
theorem dX12_soon_19 : decode cX12_soon 19 = .ok (.invokevirtual 165, 3) := by decide +kernel
theorem dX12_soon_22 : decode cX12_soon 22 = .ok (.aload_n 0, 1) := by decide +kernel
theorem dX12_soon_23 : decode cX12_soon 23 = .ok (.iload_n 1, 1) := by decide +kernel
theorem dX12_soon_24 : decode cX12_soon 24 = .ok (.iload_n 2, 1) := by decide +kernel
theorem dX12_soon_25 : decode cX12_soon 25 = .ok (.iconst 0, 1) := by decide +kernel
theorem dX12_soon_26 : decode cX12_soon 26 = .ok (.invokevirtual 168, 3) := by decide +kernel
theorem dX12_soon_29 : decode cX12_soon 29 = .ok (.invokestatic 172, 3) := by decide +kernel
theorem dX12_soon_32 : decode cX12_soon 32 = .ok (.ireturn, 1) := by decide +kernel
set_option maxRecDepth 100000 in
set_option maxHeartbeats 4000000 in
theorem s_soon (l : Launch) (g : zG) (h : Hp) (m : Nat) (F : Nat → Int32) (A : Nat → Nat → Int32) (x y : Int32) (T : Nat) (Q : pP) (hi : iT (A 1) T Q) (n0 n1 : Nat) (hR : iR (A 1) n1) (hS : iS (A 1) n0) : Sp l g yX12_soon cX12_soon 3 (some .int) (rmz 8) [.ref m, .int x, .int y] (hM g h m F A) (zI (mq g h m F A (q_soon (A 1) T Q x y))) := by
  refine Sp.of [some (.ref m), some (.int x), some (.int y)] (by decide) (Nat.le_of_ble_eq_true rfl) rfl rfl ?_
  rintro X rfl hr rfl B
  show AW X 0 0 0 _ _ _ _
  refine aw_aload_n B 0 rfl dX12_soon_0 rfl ?_
  refine aw_iload_n B 1 rfl dX12_soon_1 rfl ?_
  refine aw_callV B 0 0 (s_isReader _ _ _ _ _ _ _) co_X12_isReader k_X12_144 dX12_soon_2 hM_o rfl rfl rfl rfl (Nat.le_of_ble_eq_true rfl) (zrm hr (by decide)) (Nat.le_refl _) (Nat.le_refl _) (kI fun r2 h2 hp2 => ?_)
  obtain ⟨rfl, rfl⟩ := hp2
  refine aw_if_eq B 16 dX12_soon_5 (fun c5 => ?_) (fun c5 => ?_)
  · refine aw_iconst B (-1) (by decide) dX12_soon_16 ?_
    refine aw_iret B rfl rfl dX12_soon_17 ?_
    exact ⟨_, rfl, by unfold q_soon; rw [if_pos c5], F, A, rfl, eqF.rf, eqA.rf, trivial⟩
  · refine aw_aload_n B 0 rfl dX12_soon_8 rfl ?_
    refine aw_iload_n B 2 rfl dX12_soon_9 rfl ?_
    refine aw_callV B 0 0 (s_isSlate _ _ _ _ _ _ _) co_X12_isSlate k_X12_141 dX12_soon_10 hM_o rfl rfl rfl rfl (Nat.le_of_ble_eq_true rfl) (zrm hr (by decide)) (Nat.le_refl _) (Nat.le_refl _) (kI fun r10 h10 hp10 => ?_)
    obtain ⟨rfl, rfl⟩ := hp10
    refine aw_if_ne B 18 dX12_soon_13 (fun c13 => ?_) (fun c13 => ?_)
    · obtain ⟨r, hr4, rfl⟩ := in_cnt (of_bI c5) (by have := hR.1; omega) hR.2.1
      obtain ⟨s, hs6, rfl⟩ := in_cnt (of_bI c13) (by have := hS.1; omega) hS.2.1
      have z1 := hR.1
      have z2 := hS.1
      have e1 : kN (nI r) = r := kN_nI (by omega)
      have e2 : kN (nI s) = s := kN_nI (by omega)
      refine aw_aload_n B 0 rfl dX12_soon_18 rfl ?_
      refine aw_callV B 0 0 (s_forgets _ _ _ _ _ _) co_X12_forgets k_X12_165 dX12_soon_19 hM_o rfl rfl rfl rfl (Nat.le_of_ble_eq_true rfl) (zrm hr (by decide)) (Nat.le_refl _) (Nat.le_refl _) (kV fun h19 hp19 => ?_)
      subst hp19
      refine aw_aload_n B 0 rfl dX12_soon_22 rfl ?_
      refine aw_iload_n B 1 rfl dX12_soon_23 rfl ?_
      refine aw_iload_n B 2 rfl dX12_soon_24 rfl ?_
      refine aw_iconst B 0 (by decide) dX12_soon_25 ?_
      refine aw_callV B 0 0 (s_soonS _ _ _ _ _ _ T Q hi lvI_0 n0 n1 (r) (s) (0) hR hS (by omega) (by omega) (by omega)) co_X12_soonFrom k_X12_168 dX12_soon_26 hM_o rfl rfl rfl rfl (Nat.le_of_ble_eq_true rfl) (zrm hr (by decide)) (Nat.le_refl _) (Nat.le_refl _) (kI fun r26 h26 hp26 => ?_)
      obtain ⟨rfl, F2, A2, rfl, hF2, hA2, hlv2⟩ := hp26
      refine aw_callS B 0 0 (s_orNone _ _ _ _) co_X12_orNone k_X12_172 dX12_soon_29 rfl rfl (Nat.le_of_ble_eq_true rfl) (zrm hr (by decide)) (Nat.le_refl _) (Nat.le_refl _) (kI fun r29 h29 hp29 => ?_)
      obtain ⟨rfl, rfl⟩ := hp29
      refine aw_iret B rfl rfl dX12_soon_32 ?_
      exact ⟨_, rfl, by unfold q_soon; rw [if_neg c5, if_neg c13, e1, e2]; rfl, F2, A2, rfl, gar_5.tr (gar_1 hF2), gar_2 hA2, trivial⟩
    · refine aw_iconst B (-1) (by decide) dX12_soon_16 ?_
      refine aw_iret B rfl rfl dX12_soon_17 ?_
      exact ⟨_, rfl, by unfold q_soon; rw [if_neg c5, if_pos c13], F, A, rfl, eqF.rf, eqA.rf, trivial⟩
def w1 (S : Nat → Int32) (T : Nat) (Q : pP) (j : Nat) : Nat := if soS S T Q (kN (S (30 + j))) (kN (S (38 + j))) (kN (S (46 + j))) < 100000 then soS S T Q (kN (S (30 + j))) (kN (S (38 + j))) (kN (S (46 + j))) else 61
def wS (S : Nat → Int32) (T : Nat) (Q : pP) : Nat → Nat
  | 0 => 0
  | j + 1 => wS S T Q j + w1 S T Q j
theorem sFb_le (T : Nat) (Q : pP) (k v sh need a : Nat) : ∀ f b, sFb T Q k v sh need a f b ≤ 60 ∨ sFb T Q k v sh need a f b = 100000 := by
  intro f
  induction f with
  | zero => intro b; exact Or.inr rfl
  | succ f ih =>
    intro b
    rw [sFb]
    split
    · split
      · exact Or.inl (by omega)
      · exact ih _
    · exact Or.inr rfl
theorem soS_le (S : Nat → Int32) (T : Nat) (Q : pP) (r s a : Nat) : soS S T Q r s a ≤ 60 ∨ soS S T Q r s a = 100000 := sFb_le ..
theorem w1_le (S : Nat → Int32) (T : Nat) (Q : pP) (j : Nat) : w1 S T Q j ≤ 61 := by
  unfold w1
  rcases soS_le S T Q (kN (S (30 + j))) (kN (S (38 + j))) (kN (S (46 + j))) with h | h
  · rw [if_pos (by omega)]; omega
  · rw [h, if_neg (by omega)]; omega
theorem wS_le (S : Nat → Int32) (T : Nat) (Q : pP) (j : Nat) : wS S T Q j ≤ 61 * j := by
  induction j with
  | zero => simp [wS]
  | succ j ih => have := w1_le S T Q j; rw [wS]; omega
theorem dX12_waitsAll_0 : decode cX12_waitsAll 0 = .ok (.iconst 0, 1) := by decide +kernel
theorem dX12_waitsAll_1 : decode cX12_waitsAll 1 = .ok (.istore_n 1, 1) := by decide +kernel
theorem dX12_waitsAll_2 : decode cX12_waitsAll 2 = .ok (.iconst 0, 1) := by decide +kernel
theorem dX12_waitsAll_3 : decode cX12_waitsAll 3 = .ok (.istore_n 2, 1) := by decide +kernel
theorem dX12_waitsAll_4 : decode cX12_waitsAll 4 = .ok (.iload_n 2, 1) := by decide +kernel
theorem dX12_waitsAll_5 : decode cX12_waitsAll 5 = .ok (.aload_n 0, 1) := by decide +kernel
theorem dX12_waitsAll_6 : decode cX12_waitsAll 6 = .ok (.getfield 9, 3) := by decide +kernel
theorem dX12_waitsAll_9 : decode cX12_waitsAll 9 = .ok (.iconst 3, 1) := by decide +kernel
theorem dX12_waitsAll_10 : decode cX12_waitsAll 10 = .ok (.iaload, 1) := by decide +kernel
theorem dX12_waitsAll_11 : decode cX12_waitsAll 11 = .ok (.if_icmp .ge 56, 3) := by decide +kernel
theorem dX12_waitsAll_14 : decode cX12_waitsAll 14 = .ok (.aload_n 0, 1) := by decide +kernel
theorem dX12_waitsAll_15 : decode cX12_waitsAll 15 = .ok (.aload_n 0, 1) := by decide +kernel
theorem dX12_waitsAll_16 : decode cX12_waitsAll 16 = .ok (.getfield 9, 3) := by decide +kernel
theorem dX12_waitsAll_19 : decode cX12_waitsAll 19 = .ok (.bipush 30, 2) := by decide +kernel
theorem dX12_waitsAll_21 : decode cX12_waitsAll 21 = .ok (.iload_n 2, 1) := by decide +kernel
theorem dX12_waitsAll_22 : decode cX12_waitsAll 22 = .ok (.iadd, 1) := by decide +kernel
theorem dX12_waitsAll_23 : decode cX12_waitsAll 23 = .ok (.iaload, 1) := by decide +kernel
theorem dX12_waitsAll_24 : decode cX12_waitsAll 24 = .ok (.aload_n 0, 1) := by decide +kernel
theorem dX12_waitsAll_25 : decode cX12_waitsAll 25 = .ok (.getfield 9, 3) := by decide +kernel
theorem dX12_waitsAll_28 : decode cX12_waitsAll 28 = .ok (.bipush 38, 2) := by decide +kernel
theorem dX12_waitsAll_30 : decode cX12_waitsAll 30 = .ok (.iload_n 2, 1) := by decide +kernel
theorem dX12_waitsAll_31 : decode cX12_waitsAll 31 = .ok (.iadd, 1) := by decide +kernel
theorem dX12_waitsAll_32 : decode cX12_waitsAll 32 = .ok (.iaload, 1) := by decide +kernel
theorem dX12_waitsAll_33 : decode cX12_waitsAll 33 = .ok (.aload_n 0, 1) := by decide +kernel
theorem dX12_waitsAll_34 : decode cX12_waitsAll 34 = .ok (.getfield 9, 3) := by decide +kernel
theorem dX12_waitsAll_37 : decode cX12_waitsAll 37 = .ok (.bipush 46, 2) := by decide +kernel
theorem dX12_waitsAll_39 : decode cX12_waitsAll 39 = .ok (.iload_n 2, 1) := by decide +kernel
theorem dX12_waitsAll_40 : decode cX12_waitsAll 40 = .ok (.iadd, 1) := by decide +kernel
theorem dX12_waitsAll_41 : decode cX12_waitsAll 41 = .ok (.iaload, 1) := by decide +kernel
theorem dX12_waitsAll_42 : decode cX12_waitsAll 42 = .ok (.invokevirtual 168, 3) := by decide +kernel
theorem dX12_waitsAll_45 : decode cX12_waitsAll 45 = .ok (.istore_n 3, 1) := by decide +kernel
theorem dX12_waitsAll_46 : decode cX12_waitsAll 46 = .ok (.iload_n 1, 1) := by decide +kernel
theorem dX12_waitsAll_47 : decode cX12_waitsAll 47 = .ok (.iload_n 3, 1) := by decide +kernel
theorem dX12_waitsAll_48 : decode cX12_waitsAll 48 = .ok (.ldc 164, 2) := by decide +kernel
theorem dX12_waitsAll_50 : decode cX12_waitsAll 50 = .ok (.if_icmp .lt 8, 3) := by decide +kernel
theorem dX12_waitsAll_53 : decode cX12_waitsAll 53 = .ok (.bipush 61, 2) := by decide +kernel
theorem dX12_waitsAll_55 : decode cX12_waitsAll 55 = .ok (.goto 4, 3) := by decide +kernel
theorem dX12_waitsAll_58 : decode cX12_waitsAll 58 = .ok (.iload_n 3, 1) := by decide +kernel
theorem dX12_waitsAll_59 : decode cX12_waitsAll 59 = .ok (.iadd, 1) := by decide +kernel
theorem dX12_waitsAll_60 : decode cX12_waitsAll 60 = .ok (.istore_n 1, 1) := by decide +kernel
theorem dX12_waitsAll_61 : decode cX12_waitsAll 61 = .ok (.iinc 2 1, 3) := by decide +kernel
theorem dX12_waitsAll_64 : decode cX12_waitsAll 64 = .ok (.goto (-60), 3) := by decide +kernel
theorem dX12_waitsAll_67 : decode cX12_waitsAll 67 = .ok (.iload_n 1, 1) := by decide +kernel
theorem dX12_waitsAll_68 : decode cX12_waitsAll 68 = .ok (.ireturn, 1) := by decide +kernel
set_option maxRecDepth 100000 in
set_option maxHeartbeats 4000000 in
theorem s_waitsAll (l : Launch) (g : zG) (h : Hp) (m : Nat) (F : Nat → Int32) (A : Nat → Nat → Int32) (T : Nat) (Q : pP) (hi : iT (A 1) T Q) (hlv : lvI T Q F A) (n0 n1 : Nat) (hR : iR (A 1) n1) (hS : iS (A 1) n0) (n3 : Nat) (hA3 : iA (A 1) n0 n1 n3) : Sp l g yX12_waitsAll cX12_waitsAll 4 (some .int) (rmz 8) [.ref m] (hM g h m F A) (zI (lres g h m F A T Q (nI (wS (A 1) T Q n3)))) := by
  refine Sp.of [some (.ref m), none, none, none] (by decide) (Nat.le_of_ble_eq_true rfl) rfl rfl ?_
  rintro X rfl hr rfl B
  show AW X 0 0 0 _ _ _ _
  have lp : ∀ (f j : Nat) (F1 : Nat → Int32) (A1 : Nat → Nat → Int32), n3 < j + f → j ≤ n3 → eqF [11, 12, 14] F F1 → eqA [3, 4, 5] A A1 → lvI T Q F1 A1 → AW X 0 0 4 [some (.ref m), some (.int (nI (wS (A 1) T Q j))), some (.int (nI j)), none] [] (hM (zXg X) h m F1 A1) (zI (lres (zXg X) h m F A T Q (nI (wS (A 1) T Q n3)))) := by
    intro f
    induction f with
    | zero => intros; omega
    | succ f ih =>
      intro j F1 A1 hf hj hF hA hlv1
      have e1 : A1 1 = A 1 := hA 1 (by simp)
      have z3 := hA3.1
      refine aw_iload_n B 2 rfl dX12_waitsAll_4 rfl ?_
      refine aw_aload_n B 0 rfl dX12_waitsAll_5 rfl ?_
      refine m_get B f_X12_9 dX12_waitsAll_6 (mg_1 _ _) ?_
      refine aw_iconst B 3 (by decide) dX12_waitsAll_9 ?_
      refine m_ld B (3) (rfl) ((by decide)) dX12_waitsAll_10 (by decide) ?_
      refine aw_icmp_ge B 67 dX12_waitsAll_11 (fun c11 => ?_) (fun c11 => ?_)
      · refine aw_iload_n B 1 rfl dX12_waitsAll_67 rfl ?_
        refine aw_iret B rfl rfl dX12_waitsAll_68 ?_
        have hje : j = n3 := Nat.le_antisymm hj ((nI_leI (by omega) (by omega)).mp (by rw [e1, hA3.2.1] at c11; exact c11))
        exact ⟨_, rfl, by rw [hje], F1, A1, rfl, hF, hA, hlv1⟩
      · have hlt : j < n3 := Nat.not_le.mp fun z => c11 (by rw [e1, hA3.2.1]; exact nI_le z (by omega))
        obtain ⟨⟨r, hr1, er⟩, ⟨s, hs, es⟩, a, ha, ea⟩ := hA3.2.2 j hlt
        have z1 := hR.1
        have z2 := hS.1
        have ew : w1 (A 1) T Q j = if soS (A 1) T Q r s a < 100000 then soS (A 1) T Q r s a else 61 := by
          unfold w1
          rw [er, es, ea, kN_nI (by omega), kN_nI (by omega), kN_nI (by omega)]
        have hsl := soS_le (A 1) T Q r s a
        have hwl := wS_le (A 1) T Q j
        refine aw_aload_n B 0 rfl dX12_waitsAll_14 rfl ?_
        refine aw_aload_n B 0 rfl dX12_waitsAll_15 rfl ?_
        refine m_get B f_X12_9 dX12_waitsAll_16 (mg_1 _ _) ?_
        refine aw_bipush B 30 (by decide) dX12_waitsAll_19 ?_
        refine aw_iload_n B 2 rfl dX12_waitsAll_21 rfl ?_
        refine aw_iadd B dX12_waitsAll_22 ?_
        refine m_ld B (30 + j) (ix_c 30 rfl) (by show _ < 899; omega) dX12_waitsAll_23 (by decide) ?_
        rw [e1, er]
        refine aw_aload_n B 0 rfl dX12_waitsAll_24 rfl ?_
        refine m_get B f_X12_9 dX12_waitsAll_25 (mg_1 _ _) ?_
        refine aw_bipush B 38 (by decide) dX12_waitsAll_28 ?_
        refine aw_iload_n B 2 rfl dX12_waitsAll_30 rfl ?_
        refine aw_iadd B dX12_waitsAll_31 ?_
        refine m_ld B (38 + j) (ix_c 38 rfl) (by show _ < 899; omega) dX12_waitsAll_32 (by decide) ?_
        rw [e1, es]
        refine aw_aload_n B 0 rfl dX12_waitsAll_33 rfl ?_
        refine m_get B f_X12_9 dX12_waitsAll_34 (mg_1 _ _) ?_
        refine aw_bipush B 46 (by decide) dX12_waitsAll_37 ?_
        refine aw_iload_n B 2 rfl dX12_waitsAll_39 rfl ?_
        refine aw_iadd B dX12_waitsAll_40 ?_
        refine m_ld B (46 + j) (ix_c 46 rfl) (by show _ < 899; omega) dX12_waitsAll_41 (by decide) ?_
        rw [e1, ea]
        refine aw_callV B 0 0 (s_soonS _ _ _ _ _ _ T Q (by rw [e1]; exact hi) hlv1 n0 n1 r s a (by rw [e1]; exact hR) (by rw [e1]; exact hS) hr1 hs (by omega)) co_X12_soonFrom k_X12_168 dX12_waitsAll_42 hM_o rfl rfl rfl rfl (Nat.le_of_ble_eq_true rfl) (zrm hr (by decide)) (Nat.le_refl _) (Nat.le_refl _) (kI fun r42 h42 hp42 => ?_)
        rw [e1] at hp42
        obtain ⟨rfl, F2, A2, rfl, hF2, hA2, hlv2⟩ := hp42
        refine aw_istore3 B dX12_waitsAll_45 ?_
        refine aw_iload_n B 1 rfl dX12_waitsAll_46 rfl ?_
        refine aw_iload_n B 3 rfl dX12_waitsAll_47 rfl ?_
        refine aw_ldc B cn_X12_164 dX12_waitsAll_48 ?_
        refine aw_icmp_lt B 58 dX12_waitsAll_50 (fun c50 => ?_) (fun c50 => ?_)
        · refine aw_iload_n B 3 rfl dX12_waitsAll_58 rfl ?_
          refine aw_iadd B dX12_waitsAll_59 ?_
          refine aw_istore1 B dX12_waitsAll_60 ?_
          refine aw_iinc2 B 1 (by decide) dX12_waitsAll_61 ?_
          refine aw_goto B 4 dX12_waitsAll_64 ?_
          first
            | (have hc : soS (A 1) T Q r s a < 100000 := by
                 rcases hsl with q | q
                 · omega
                 · rw [q] at c50; exact absurd c50 (by decide)
               rw [if_pos hc] at ew)
            | (have hc : ¬ soS (A 1) T Q r s a < 100000 := fun q => c50 (nI_lt (b := 100000) q (by decide))
               rw [if_neg hc] at ew)
          rw [nI_1]
          refine AW.weak (lv' := [some (.ref m), some (.int (nI (wS (A 1) T Q (j + 1)))), some (.int (nI (j + 1))), none]) ⟨Or.inr rfl, Or.inr ?_, Or.inr rfl, Or.inl rfl, trivial⟩ (ih (j + 1) F2 A2 (by omega) (by omega) (hF.tr hF2) (hA.tr hA2) hlv2)
          rw [wS, ew, ← nI_add]
          try rfl
        · refine aw_bipush B 61 (by decide) dX12_waitsAll_53 ?_
          refine aw_goto B 59 dX12_waitsAll_55 ?_
          refine aw_iadd B dX12_waitsAll_59 ?_
          refine aw_istore1 B dX12_waitsAll_60 ?_
          refine aw_iinc2 B 1 (by decide) dX12_waitsAll_61 ?_
          refine aw_goto B 4 dX12_waitsAll_64 ?_
          first
            | (have hc : soS (A 1) T Q r s a < 100000 := by
                 rcases hsl with q | q
                 · omega
                 · rw [q] at c50; exact absurd c50 (by decide)
               rw [if_pos hc] at ew)
            | (have hc : ¬ soS (A 1) T Q r s a < 100000 := fun q => c50 (nI_lt (b := 100000) q (by decide))
               rw [if_neg hc] at ew)
          rw [nI_1]
          refine AW.weak (lv' := [some (.ref m), some (.int (nI (wS (A 1) T Q (j + 1)))), some (.int (nI (j + 1))), none]) ⟨Or.inr rfl, Or.inr ?_, Or.inr rfl, Or.inl rfl, trivial⟩ (ih (j + 1) F2 A2 (by omega) (by omega) (hF.tr hF2) (hA.tr hA2) hlv2)
          rw [wS, ew, ← nI_add]
          try rfl
  refine aw_iconst B 0 (by decide) dX12_waitsAll_0 ?_
  refine aw_istore1 B dX12_waitsAll_1 ?_
  refine aw_iconst B 0 (by decide) dX12_waitsAll_2 ?_
  refine aw_istore2 B dX12_waitsAll_3 ?_
  exact lp 9 0 F A (by have := hA3.1; omega) (Nat.zero_le _) eqF.rf eqA.rf hlv
theorem dX12_waits_0 : decode cX12_waits 0 = .ok (.aload_n 0, 1) := by decide +kernel
theorem dX12_waits_1 : decode cX12_waits 1 = .ok (.invokevirtual 165, 3) := by decide +kernel
theorem dX12_waits_4 : decode cX12_waits 4 = .ok (.aload_n 0, 1) := by decide +kernel
theorem dX12_waits_5 : decode cX12_waits 5 = .ok (.invokevirtual 194, 3) := by decide +kernel
theorem dX12_waits_8 : decode cX12_waits 8 = .ok (.ireturn, 1) := by decide +kernel
set_option maxRecDepth 100000 in
set_option maxHeartbeats 4000000 in
theorem s_waits (l : Launch) (g : zG) (h : Hp) (m : Nat) (F : Nat → Int32) (A : Nat → Nat → Int32) (T : Nat) (Q : pP) (hi : iT (A 1) T Q) (n0 n1 : Nat) (hR : iR (A 1) n1) (hS : iS (A 1) n0) (n3 : Nat) (hA3 : iA (A 1) n0 n1 n3) : Sp l g yX12_waits cX12_waits 1 (some .int) (rmz 9) [.ref m] (hM g h m F A) (zI (mq g h m F A (nI (wS (A 1) T Q n3)))) := by
  refine Sp.of [some (.ref m)] (by decide) (Nat.le_of_ble_eq_true rfl) rfl rfl ?_
  rintro X rfl hr rfl B
  show AW X 0 0 0 _ _ _ _
  refine aw_aload_n B 0 rfl dX12_waits_0 rfl ?_
  refine aw_callV B 0 0 (s_forgets _ _ _ _ _ _) co_X12_forgets k_X12_165 dX12_waits_1 hM_o rfl rfl rfl rfl (Nat.le_of_ble_eq_true rfl) (zrm hr (by decide)) (Nat.le_refl _) (Nat.le_refl _) (kV fun h1 hp1 => ?_)
  subst hp1
  refine aw_aload_n B 0 rfl dX12_waits_4 rfl ?_
  refine aw_callV B 0 0 (s_waitsAll _ _ _ _ _ _ T Q hi lvI_0 n0 n1 hR hS n3 hA3) co_X12_waitsAll k_X12_194 dX12_waits_5 hM_o rfl rfl rfl rfl (Nat.le_of_ble_eq_true rfl) (zrm hr (by decide)) (Nat.le_refl _) (Nat.le_refl _) (kI fun r5 h5 hp5 => ?_)
  obtain ⟨rfl, F2, A2, rfl, hF2, hA2, hlv2⟩ := hp5
  refine aw_iret B rfl rfl dX12_waits_8 ?_
  exact ⟨_, rfl, rfl, F2, A2, rfl, gar_5.tr (gar_1 hF2), gar_2 hA2, trivial⟩
