theorem upd_i {f : Nat → Int32} {k : Nat} : upd f k (f k) = f := by
  funext j
  unfold upd
  by_cases h : j = k <;> simp [h]
theorem hold_up {S : Nat → Int32} {Q : pP} {s : Nat} {y : Int32} (hs : s < 6) (h : hold S Q) : hold (upd S (10 + s) y) Q := by
  rcases h with ⟨h1, h2⟩ | ⟨c, h1, h2, h3, h4, h5⟩
  · exact Or.inl ⟨by rw [upd_n (by omega)]; exact h1, h2⟩
  · exact Or.inr ⟨c, by rw [upd_n (by omega)]; exact h1, h2, h3, by rw [upd_n (by omega)]; exact h4, fun i hi => by rw [upd_n (by omega)]; exact h5 i hi⟩
theorem iT_up {S : Nat → Int32} {T : Nat} {Q : pP} {s : Nat} {y : Int32} (hs : s < 6) (h : iT S T Q) : iT (upd S (10 + s) y) T Q := ⟨by rw [upd_n (by omega)]; exact h.1, h.2.1, hold_up hs h.2.2.1, h.2.2.2⟩
theorem iR_up {S : Nat → Int32} {n1 s : Nat} {y : Int32} (hs : s < 6) (h : iR S n1) : iR (upd S (10 + s) y) n1 := by
  have := h.1
  exact ⟨h.1, by rw [upd_n (by omega)]; exact h.2.1, fun k hk => by rw [upd_n (by omega), upd_n (by omega)]; exact h.2.2 k hk⟩
theorem iS_up {S : Nat → Int32} {n0 s : Nat} {y : Int32} (hs : s < 6) (hy : rng y 0 8) (h : iS S n0) : iS (upd S (10 + s) y) n0 := by
  have := h.1
  refine ⟨h.1, by rw [upd_n (by omega)]; exact h.2.1, fun k hk => ⟨?_, by rw [upd_n (by omega)]; exact (h.2.2 k hk).2⟩⟩
  by_cases hks : k = s
  · rw [hks, upd_s]; exact hy
  · rw [upd_n (by omega)]; exact (h.2.2 k hk).1
theorem iA_up {S : Nat → Int32} {n0 n1 n3 s : Nat} {y : Int32} (hs : s < 6) (h : iA S n0 n1 n3) : iA (upd S (10 + s) y) n0 n1 n3 := by
  have := h.1
  exact ⟨h.1, by rw [upd_n (by omega)]; exact h.2.1, fun k hk => by rw [upd_n (by omega), upd_n (by omega), upd_n (by omega)]; exact h.2.2 k hk⟩
/-- the best SHELF and the least sum among the first shelves -/
def shF (S : Nat → Int32) (T : Nat) (Q : pP) (n3 s : Nat) : Nat → Int32 × Int32
  | 0 => (-1, 100000)
  | j + 1 => if nI (wS (upd S (10 + s) (nI j)) T Q n3) ≤ (shF S T Q n3 s j).2 then (nI j, nI (wS (upd S (10 + s) (nI j)) T Q n3)) else shF S T Q n3 s j
def q_shelve (S : Nat → Int32) (T : Nat) (Q : pP) (n3 : Nat) (x w : Int32) : Int32 := if bI (0 ≤ x ∧ x ≤ S 0 - 1) = 0 then -1 else if bI (0 ≤ w ∧ w ≤ 1) = 0 then -1 else if w = 0 then (shF S T Q n3 (kN x) 9).1 else (shF S T Q n3 (kN x) 9).2
theorem dX12_shelve_0 : decode cX12_shelve 0 = .ok (.aload_n 0, 1) := by decide +kernel
theorem dX12_shelve_1 : decode cX12_shelve 1 = .ok (.iload_n 1, 1) := by decide +kernel
theorem dX12_shelve_2 : decode cX12_shelve 2 = .ok (.invokevirtual 141, 3) := by decide +kernel
theorem dX12_shelve_5 : decode cX12_shelve 5 = .ok (.ifCond .eq 12, 3) := by decide +kernel
theorem dX12_shelve_8 : decode cX12_shelve 8 = .ok (.iload_n 2, 1) := by decide +kernel
theorem dX12_shelve_9 : decode cX12_shelve 9 = .ok (.iconst 0, 1) := by decide +kernel
theorem dX12_shelve_10 : decode cX12_shelve 10 = .ok (.iconst 1, 1) := by decide +kernel
theorem dX12_shelve_11 : decode cX12_shelve 11 = .ok (.invokestatic 44, 3) := by decide +kernel
theorem dX12_shelve_14 : decode cX12_shelve 14 = .ok (.ifCond .ne 5, 3) := by decide +kernel
theorem dX12_shelve_17 : decode cX12_shelve 17 = .ok (.iconst (-1), 1) := by decide +kernel
theorem dX12_shelve_18 : decode cX12_shelve 18 = .ok (.ireturn, 1) := by decide +kernel
theorem dX12_shelve_19 : decode cX12_shelve 19 = .ok (.aload_n 0, 1) := by decide +kernel
theorem dX12_shelve_20 : decode cX12_shelve 20 = .ok (.invokevirtual 165, 3) := by decide +kernel
theorem dX12_shelve_23 : decode cX12_shelve 23 = .ok (.aload_n 0, 1) := by decide +kernel
theorem dX12_shelve_24 : decode cX12_shelve 24 = .ok (.getfield 9, 3) := by decide +kernel
theorem dX12_shelve_27 : decode cX12_shelve 27 = .ok (.bipush 10, 2) := by decide +kernel
theorem dX12_shelve_29 : decode cX12_shelve 29 = .ok (.iload_n 1, 1) := by decide +kernel
theorem dX12_shelve_30 : decode cX12_shelve 30 = .ok (.iadd, 1) := by decide +kernel
theorem dX12_shelve_31 : decode cX12_shelve 31 = .ok (.iaload, 1) := by decide +kernel
theorem dX12_shelve_32 : decode cX12_shelve 32 = .ok (.istore_n 3, 1) := by decide +kernel
theorem dX12_shelve_33 : decode cX12_shelve 33 = .ok (.iconst (-1), 1) := by decide +kernel
theorem dX12_shelve_34 : decode cX12_shelve 34 = .ok (.istore 4, 2) := by decide +kernel
theorem dX12_shelve_36 : decode cX12_shelve 36 = .ok (.ldc 164, 2) := by decide +kernel
theorem dX12_shelve_38 : decode cX12_shelve 38 = .ok (.istore 5, 2) := by decide +kernel
theorem dX12_shelve_40 : decode cX12_shelve 40 = .ok (.iconst 0, 1) := by decide +kernel
theorem dX12_shelve_41 : decode cX12_shelve 41 = .ok (.istore 6, 2) := by decide +kernel
theorem dX12_shelve_43 : decode cX12_shelve 43 = .ok (.iload 6, 2) := by decide +kernel
theorem dX12_shelve_45 : decode cX12_shelve 45 = .ok (.bipush 9, 2) := by decide +kernel
theorem dX12_shelve_47 : decode cX12_shelve 47 = .ok (.if_icmp .ge 58, 3) := by decide +kernel
theorem dX12_shelve_50 : decode cX12_shelve 50 = .ok (.aload_n 0, 1) := by decide +kernel
theorem dX12_shelve_51 : decode cX12_shelve 51 = .ok (.getfield 9, 3) := by decide +kernel
theorem dX12_shelve_54 : decode cX12_shelve 54 = .ok (.bipush 10, 2) := by decide +kernel
theorem dX12_shelve_56 : decode cX12_shelve 56 = .ok (.iload_n 1, 1) := by decide +kernel
theorem dX12_shelve_57 : decode cX12_shelve 57 = .ok (.iadd, 1) := by decide +kernel
theorem dX12_shelve_58 : decode cX12_shelve 58 = .ok (.iload 6, 2) := by decide +kernel
theorem dX12_shelve_60 : decode cX12_shelve 60 = .ok (.iastore, 1) := by decide +kernel
theorem dX12_shelve_61 : decode cX12_shelve 61 = .ok (.aload_n 0, 1) := by decide +kernel
theorem dX12_shelve_62 : decode cX12_shelve 62 = .ok (.invokevirtual 194, 3) := by decide +kernel
theorem dX12_shelve_65 : decode cX12_shelve 65 = .ok (.istore 7, 2) := by decide +kernel
theorem dX12_shelve_67 : decode cX12_shelve 67 = .ok (.iload 7, 2) := by decide +kernel
theorem dX12_shelve_69 : decode cX12_shelve 69 = .ok (.iload 5, 2) := by decide +kernel
theorem dX12_shelve_71 : decode cX12_shelve 71 = .ok (.if_icmp .gt 8, 3) := by decide +kernel
theorem dX12_shelve_74 : decode cX12_shelve 74 = .ok (.iload 6, 2) := by decide +kernel
theorem dX12_shelve_76 : decode cX12_shelve 76 = .ok (.goto 5, 3) := by decide +kernel
theorem dX12_shelve_79 : decode cX12_shelve 79 = .ok (.iload 4, 2) := by decide +kernel
theorem dX12_shelve_81 : decode cX12_shelve 81 = .ok (.istore 4, 2) := by decide +kernel
theorem dX12_shelve_83 : decode cX12_shelve 83 = .ok (.iload 7, 2) := by decide +kernel
theorem dX12_shelve_85 : decode cX12_shelve 85 = .ok (.iload 5, 2) := by decide +kernel
theorem dX12_shelve_87 : decode cX12_shelve 87 = .ok (.if_icmp .gt 8, 3) := by decide +kernel
theorem dX12_shelve_90 : decode cX12_shelve 90 = .ok (.iload 7, 2) := by decide +kernel
theorem dX12_shelve_92 : decode cX12_shelve 92 = .ok (.goto 5, 3) := by decide +kernel
theorem dX12_shelve_95 : decode cX12_shelve 95 = .ok (.iload 5, 2) := by decide +kernel
theorem dX12_shelve_97 : decode cX12_shelve 97 = .ok (.istore 5, 2) := by decide +kernel
theorem dX12_shelve_99 : decode cX12_shelve 99 = .ok (.iinc 6 1, 3) := by decide +kernel
theorem dX12_shelve_102 : decode cX12_shelve 102 = .ok (.goto (-59), 3) := by decide +kernel
theorem dX12_shelve_105 : decode cX12_shelve 105 = .ok (.aload_n 0, 1) := by decide +kernel
theorem dX12_shelve_106 : decode cX12_shelve 106 = .ok (.getfield 9, 3) := by decide +kernel
theorem dX12_shelve_109 : decode cX12_shelve 109 = .ok (.bipush 10, 2) := by decide +kernel
theorem dX12_shelve_111 : decode cX12_shelve 111 = .ok (.iload_n 1, 1) := by decide +kernel
theorem dX12_shelve_112 : decode cX12_shelve 112 = .ok (.iadd, 1) := by decide +kernel
theorem dX12_shelve_113 : decode cX12_shelve 113 = .ok (.iload_n 3, 1) := by decide +kernel
theorem dX12_shelve_114 : decode cX12_shelve 114 = .ok (.iastore, 1) := by decide +kernel
theorem dX12_shelve_115 : decode cX12_shelve 115 = .ok (.iload_n 2, 1) := by decide +kernel
theorem dX12_shelve_116 : decode cX12_shelve 116 = .ok (.ifCond .ne 8, 3) := by decide +kernel
theorem dX12_shelve_119 : decode cX12_shelve 119 = .ok (.iload 4, 2) := by decide +kernel
theorem dX12_shelve_121 : decode cX12_shelve 121 = .ok (.goto 5, 3) := by decide +kernel
theorem dX12_shelve_124 : decode cX12_shelve 124 = .ok (.iload 5, 2) := by decide +kernel
theorem dX12_shelve_126 : decode cX12_shelve 126 = .ok (.ireturn, 1) := by decide +kernel
set_option maxRecDepth 100000 in
set_option maxHeartbeats 4000000 in
theorem s_shelve (l : Launch) (g : zG) (h : Hp) (m : Nat) (F : Nat → Int32) (A : Nat → Nat → Int32) (x w : Int32) (T : Nat) (Q : pP) (hi : iT (A 1) T Q) (n0 n1 : Nat) (hR : iR (A 1) n1) (hS : iS (A 1) n0) (n3 : Nat) (hA3 : iA (A 1) n0 n1 n3) : Sp l g yX12_shelve cX12_shelve 8 (some .int) (rmz 9) [.ref m, .int x, .int w] (hM g h m F A) (zI (mq g h m F A (q_shelve (A 1) T Q n3 x w))) := by
  refine Sp.of [some (.ref m), some (.int x), some (.int w), none, none, none, none, none] (by decide) (Nat.le_of_ble_eq_true rfl) rfl rfl ?_
  rintro X rfl hr rfl B
  show AW X 0 0 0 _ _ _ _
  refine aw_aload_n B 0 rfl dX12_shelve_0 rfl ?_
  refine aw_iload_n B 1 rfl dX12_shelve_1 rfl ?_
  refine aw_callV B 0 0 (s_isSlate _ _ _ _ _ _ _) co_X12_isSlate k_X12_141 dX12_shelve_2 hM_o rfl rfl rfl rfl (Nat.le_of_ble_eq_true rfl) (zrm hr (by decide)) (Nat.le_refl _) (Nat.le_refl _) (kI fun r2 h2 hp2 => ?_)
  obtain ⟨rfl, rfl⟩ := hp2
  refine aw_if_eq B 17 dX12_shelve_5 (fun c5 => ?_) (fun c5 => ?_)
  · refine aw_iconst B (-1) (by decide) dX12_shelve_17 ?_
    refine aw_iret B rfl rfl dX12_shelve_18 ?_
    exact ⟨_, rfl, by unfold q_shelve; rw [if_pos c5], F, A, rfl, eqF.rf, eqA.rf, trivial⟩
  · refine aw_iload_n B 2 rfl dX12_shelve_8 rfl ?_
    refine aw_iconst B 0 (by decide) dX12_shelve_9 ?_
    refine aw_iconst B 1 (by decide) dX12_shelve_10 ?_
    refine aw_callS B 0 0 (s_in _ _ _ _ _ _) co_X12_in k_X12_44 dX12_shelve_11 rfl rfl (Nat.le_of_ble_eq_true rfl) (zrm hr (by decide)) (Nat.le_refl _) (Nat.le_refl _) (kI fun r11 h11 hp11 => ?_)
    obtain ⟨rfl, rfl⟩ := hp11
    refine aw_if_ne B 19 dX12_shelve_14 (fun c14 => ?_) (fun c14 => ?_)
    · obtain ⟨s, hs6, rfl⟩ := in_cnt (of_bI c5) (by have := hS.1; omega) hS.2.1
      have z1 := hR.1
      have z2 := hS.1
      have z3 := hA3.1
      have e2 : kN (nI s) = s := kN_nI (by omega)
      have hs6 : s < 6 := by omega
      refine aw_aload_n B 0 rfl dX12_shelve_19 rfl ?_
      refine aw_callV B 0 0 (s_forgets _ _ _ _ _ _) co_X12_forgets k_X12_165 dX12_shelve_20 hM_o rfl rfl rfl rfl (Nat.le_of_ble_eq_true rfl) (zrm hr (by decide)) (Nat.le_refl _) (Nat.le_refl _) (kV fun h20 hp20 => ?_)
      subst hp20
      refine aw_aload_n B 0 rfl dX12_shelve_23 rfl ?_
      refine m_get B f_X12_9 dX12_shelve_24 (mg_1 _ _) ?_
      refine aw_bipush B 10 (by decide) dX12_shelve_27 ?_
      refine aw_iload_n B 1 rfl dX12_shelve_29 rfl ?_
      refine aw_iadd B dX12_shelve_30 ?_
      refine m_ld B (10 + s) (ix_c 10 rfl) (by show _ < 899; omega) dX12_shelve_31 (by decide) ?_
      refine aw_istore3 B dX12_shelve_32 ?_
      refine aw_iconst B (-1) (by decide) dX12_shelve_33 ?_
      refine aw_istore4 B dX12_shelve_34 ?_
      refine aw_ldc B cn_X12_164 dX12_shelve_36 ?_
      refine aw_istore5 B dX12_shelve_38 ?_
      refine aw_iconst B 0 (by decide) dX12_shelve_40 ?_
      refine aw_istore6 B dX12_shelve_41 ?_
      have lp : ∀ (f j : Nat) (y : Int32) (F1 : Nat → Int32) (A1 : Nat → Nat → Int32), 9 < j + f → j ≤ 9 → eqF GF F F1 → eqA (1 :: GA) A A1 → A1 1 = upd (A 1) (10 + s) y → lvI T Q F1 A1 → AW X 0 0 43 [some (.ref m), some (.int (nI s)), some (.int w), some (.int (A 1 (10 + s))), some (.int (shF (A 1) T Q n3 s j).1), some (.int (shF (A 1) T Q n3 s j).2), some (.int (nI j)), none] [] (hM (zXg X) h m F1 A1) (zI (mq (zXg X) h m F A (q_shelve (A 1) T Q n3 (nI s) w))) := by
        intro f
        induction f with
        | zero => intros; omega
        | succ f ih =>
          intro j y F1 A1 hf hj hF hA e1 hlv1
          refine aw_iload B dX12_shelve_43 rfl ?_
          refine aw_bipush B 9 (by decide) dX12_shelve_45 ?_
          refine aw_icmp_ge B 105 dX12_shelve_47 (fun c47 => ?_) (fun c47 => ?_)
          · have hje : j = 9 := by
              have := (nI_leI (a := 9) (by decide) (by omega)).mp c47
              omega
            refine aw_aload_n B 0 rfl dX12_shelve_105 rfl ?_
            refine m_get B f_X12_9 dX12_shelve_106 (mg_1 _ _) ?_
            refine aw_bipush B 10 (by decide) dX12_shelve_109 ?_
            refine aw_iload_n B 1 rfl dX12_shelve_111 rfl ?_
            refine aw_iadd B dX12_shelve_112 ?_
            refine aw_iload_n B 3 rfl dX12_shelve_113 rfl ?_
            refine m_st B (10 + s) (ix_c 10 rfl) (by show _ < 899; omega) dX12_shelve_114 (by decide) ?_
            refine aw_iload_n B 2 rfl dX12_shelve_115 rfl ?_
            refine aw_if_ne B 124 dX12_shelve_116 (fun c116 => ?_) (fun c116 => ?_)
            · refine aw_iload B dX12_shelve_124 rfl ?_
              refine aw_iret B rfl rfl dX12_shelve_126 ?_
              refine ⟨_, rfl, by unfold q_shelve; rw [if_neg c5, if_neg c14, if_neg c116, e2, hje], F1, _, rfl, hF, ?_, trivial⟩
              rw [e1, upd_u, upd_i]
              intro k hk
              by_cases h1 : k = 1
              · rw [h1, mup_s]
              · rw [mup_n h1]; exact hA k (by simp [h1, hk])
            · refine aw_iload B dX12_shelve_119 rfl ?_
              refine aw_goto B 126 dX12_shelve_121 ?_
              refine aw_iret B rfl rfl dX12_shelve_126 ?_
              refine ⟨_, rfl, by unfold q_shelve; rw [if_neg c5, if_neg c14, if_pos c116, e2, hje], F1, _, rfl, hF, ?_, trivial⟩
              rw [e1, upd_u, upd_i]
              intro k hk
              by_cases h1 : k = 1
              · rw [h1, mup_s]
              · rw [mup_n h1]; exact hA k (by simp [h1, hk])
          · have hlt : j < 9 := Nat.not_le.mp fun z => c47 (nI_le (a := 9) z (by omega))
            refine aw_aload_n B 0 rfl dX12_shelve_50 rfl ?_
            refine m_get B f_X12_9 dX12_shelve_51 (mg_1 _ _) ?_
            refine aw_bipush B 10 (by decide) dX12_shelve_54 ?_
            refine aw_iload_n B 1 rfl dX12_shelve_56 rfl ?_
            refine aw_iadd B dX12_shelve_57 ?_
            refine aw_iload B dX12_shelve_58 rfl ?_
            refine m_st B (10 + s) (ix_c 10 rfl) (by show _ < 899; omega) dX12_shelve_60 (by decide) ?_
            have e3 : upd (A1 1) (10 + s) (nI j) = upd (A 1) (10 + s) (nI j) := by rw [e1, upd_u]
            have E_iT : iT ((mup A1 1 (upd (A1 1) (10 + s) (nI j))) 1) T Q := by rw [mup_s, e3]; exact iT_up hs6 hi
            have E_iR : iR ((mup A1 1 (upd (A1 1) (10 + s) (nI j))) 1) n1 := by rw [mup_s, e3]; exact iR_up hs6 hR
            have E_iS : iS ((mup A1 1 (upd (A1 1) (10 + s) (nI j))) 1) n0 := by rw [mup_s, e3]; exact iS_up hs6 ⟨j, by omega, by omega, rfl⟩ hS
            have E_iA : iA ((mup A1 1 (upd (A1 1) (10 + s) (nI j))) 1) n0 n1 n3 := by rw [mup_s, e3]; exact iA_up hs6 hA3
            have E_lv : lvI T Q F1 (mup A1 1 (upd (A1 1) (10 + s) (nI j))) := by
              obtain ⟨kn, g1, g2, g3⟩ := hlv1
              exact ⟨kn, g1, g2, fun i hi => by rw [mup_n (by decide)]; exact g3 i hi⟩
            refine aw_aload_n B 0 rfl dX12_shelve_61 rfl ?_
            refine aw_callV B 0 0 (s_waitsAll _ _ _ _ _ _ T Q E_iT E_lv n0 n1 E_iR E_iS n3 E_iA) co_X12_waitsAll k_X12_194 dX12_shelve_62 hM_o rfl rfl rfl rfl (Nat.le_of_ble_eq_true rfl) (zrm hr (by decide)) (Nat.le_refl _) (Nat.le_refl _) (kI fun r62 h62 hp62 => ?_)
            obtain ⟨rfl, F2, A2, rfl, hF2, hA2, hlv2⟩ := hp62
            rw [mup_s, e3]
            have e4 : A2 1 = upd (A 1) (10 + s) (nI j) := (hA2 1 (by simp)).trans (by rw [mup_s, e3])
            refine aw_istore7 B dX12_shelve_65 ?_
            refine aw_iload B dX12_shelve_67 rfl ?_
            refine aw_iload B dX12_shelve_69 rfl ?_
            refine aw_icmp_gt B 79 dX12_shelve_71 (fun c71 => ?_) (fun c71 => ?_)
            · refine aw_iload B dX12_shelve_79 rfl ?_
              refine aw_istore4 B dX12_shelve_81 ?_
              refine aw_iload B dX12_shelve_83 rfl ?_
              refine aw_iload B dX12_shelve_85 rfl ?_
              refine aw_icmp_gt B 95 dX12_shelve_87 (fun c87 => ?_) (fun c87 => absurd c71 c87)
              refine aw_iload B dX12_shelve_95 rfl ?_
              refine aw_istore5 B dX12_shelve_97 ?_
              refine aw_iinc6 B 1 (by decide) dX12_shelve_99 ?_
              refine aw_goto B 43 dX12_shelve_102 ?_
              rw [nI_1]
              refine AW.weak (lv' := [some (.ref m), some (.int (nI s)), some (.int w), some (.int (A 1 (10 + s))), some (.int (shF (A 1) T Q n3 s (j + 1)).1), some (.int (shF (A 1) T Q n3 s (j + 1)).2), some (.int (nI (j + 1))), none]) ?_ (ih (j + 1) (nI j) F2 A2 (by omega) (by omega) (hF.tr (gar_1 hF2)) ?_ e4 hlv2)
              · rw [shF]
                first
                  | rw [if_pos (Int32.not_lt.mp c71)]
                  | rw [if_neg (Int32.not_le.mpr c71)]
                exact ⟨Or.inr rfl, Or.inr rfl, Or.inr rfl, Or.inr rfl, Or.inr rfl, Or.inr rfl, Or.inr rfl, Or.inl rfl, trivial⟩
              · exact (hA.up (by simp)).tr (hA2.mono (by simp [GA]))
            · refine aw_iload B dX12_shelve_74 rfl ?_
              refine aw_goto B 81 dX12_shelve_76 ?_
              refine aw_istore4 B dX12_shelve_81 ?_
              refine aw_iload B dX12_shelve_83 rfl ?_
              refine aw_iload B dX12_shelve_85 rfl ?_
              refine aw_icmp_gt B 95 dX12_shelve_87 (fun c87 => absurd c87 c71) (fun c87 => ?_)
              refine aw_iload B dX12_shelve_90 rfl ?_
              refine aw_goto B 97 dX12_shelve_92 ?_
              refine aw_istore5 B dX12_shelve_97 ?_
              refine aw_iinc6 B 1 (by decide) dX12_shelve_99 ?_
              refine aw_goto B 43 dX12_shelve_102 ?_
              rw [nI_1]
              refine AW.weak (lv' := [some (.ref m), some (.int (nI s)), some (.int w), some (.int (A 1 (10 + s))), some (.int (shF (A 1) T Q n3 s (j + 1)).1), some (.int (shF (A 1) T Q n3 s (j + 1)).2), some (.int (nI (j + 1))), none]) ?_ (ih (j + 1) (nI j) F2 A2 (by omega) (by omega) (hF.tr (gar_1 hF2)) ?_ e4 hlv2)
              · rw [shF]
                first
                  | rw [if_pos (Int32.not_lt.mp c71)]
                  | rw [if_neg (Int32.not_le.mpr c71)]
                exact ⟨Or.inr rfl, Or.inr rfl, Or.inr rfl, Or.inr rfl, Or.inr rfl, Or.inr rfl, Or.inr rfl, Or.inl rfl, trivial⟩
              · exact (hA.up (by simp)).tr (hA2.mono (by simp [GA]))
      exact lp 10 0 (A 1 (10 + s)) _ A (by omega) (Nat.zero_le _) gar_5 eqA.rf upd_i.symm lvI_0
    · refine aw_iconst B (-1) (by decide) dX12_shelve_17 ?_
      refine aw_iret B rfl rfl dX12_shelve_18 ?_
      exact ⟨_, rfl, by unfold q_shelve; rw [if_neg c5, if_pos c14], F, A, rfl, eqF.rf, eqA.rf, trivial⟩
