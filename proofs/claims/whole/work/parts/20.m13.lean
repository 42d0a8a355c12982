theorem dX12_open_0 : decode cX12_open 0 = .ok (.iload_n 1, 1) := by decide +kernel
theorem dX12_open_1 : decode cX12_open 1 = .ok (.invokestatic 137, 3) := by decide +kernel
theorem dX12_open_4 : decode cX12_open 4 = .ok (.ifCond .eq 12, 3) := by decide +kernel
theorem dX12_open_7 : decode cX12_open 7 = .ok (.iload_n 3, 1) := by decide +kernel
theorem dX12_open_8 : decode cX12_open 8 = .ok (.iconst 0, 1) := by decide +kernel
theorem dX12_open_9 : decode cX12_open 9 = .ok (.iconst 1, 1) := by decide +kernel
theorem dX12_open_10 : decode cX12_open 10 = .ok (.invokestatic 44, 3) := by decide +kernel
theorem dX12_open_13 : decode cX12_open 13 = .ok (.ifCond .ne 5, 3) := by decide +kernel
theorem dX12_open_16 : decode cX12_open 16 = .ok (.iconst (-1), 1) := by decide +kernel
theorem dX12_open_17 : decode cX12_open 17 = .ok (.ireturn, 1) := by decide +kernel
theorem dX12_open_18 : decode cX12_open 18 = .ok (.iload_n 2, 1) := by decide +kernel
theorem dX12_open_19 : decode cX12_open 19 = .ok (.iconst 0, 1) := by decide +kernel
theorem dX12_open_20 : decode cX12_open 20 = .ok (.bipush 60, 2) := by decide +kernel
theorem dX12_open_22 : decode cX12_open 22 = .ok (.invokestatic 44, 3) := by decide +kernel
theorem dX12_open_25 : decode cX12_open 25 = .ok (.ifCond .ne 6, 3) := by decide +kernel
theorem dX12_open_28 : decode cX12_open 28 = .ok (.bipush (-2), 2) := by decide +kernel
theorem dX12_open_30 : decode cX12_open 30 = .ok (.ireturn, 1) := by decide +kernel
theorem dX12_open_31 : decode cX12_open 31 = .ok (.aload_n 0, 1) := by decide +kernel
theorem dX12_open_32 : decode cX12_open 32 = .ok (.invokevirtual 165, 3) := by decide +kernel
theorem dX12_open_35 : decode cX12_open 35 = .ok (.iconst 0, 1) := by decide +kernel
theorem dX12_open_36 : decode cX12_open 36 = .ok (.istore 4, 2) := by decide +kernel
theorem dX12_open_38 : decode cX12_open 38 = .ok (.iconst 0, 1) := by decide +kernel
theorem dX12_open_39 : decode cX12_open 39 = .ok (.istore 5, 2) := by decide +kernel
theorem dX12_open_41 : decode cX12_open 41 = .ok (.iconst 0, 1) := by decide +kernel
theorem dX12_open_42 : decode cX12_open 42 = .ok (.istore 6, 2) := by decide +kernel
theorem dX12_open_44 : decode cX12_open 44 = .ok (.iconst 0, 1) := by decide +kernel
theorem dX12_open_45 : decode cX12_open 45 = .ok (.istore 7, 2) := by decide +kernel
theorem dX12_open_47 : decode cX12_open 47 = .ok (.iload 7, 2) := by decide +kernel
theorem dX12_open_49 : decode cX12_open 49 = .ok (.iload_n 2, 1) := by decide +kernel
theorem dX12_open_50 : decode cX12_open 50 = .ok (.if_icmp .ge 72, 3) := by decide +kernel
theorem dX12_open_53 : decode cX12_open 53 = .ok (.aload_n 0, 1) := by decide +kernel
theorem dX12_open_54 : decode cX12_open 54 = .ok (.iload 7, 2) := by decide +kernel
theorem dX12_open_56 : decode cX12_open 56 = .ok (.invokevirtual 151, 3) := by decide +kernel
theorem dX12_open_59 : decode cX12_open 59 = .ok (.iload_n 1, 1) := by decide +kernel
theorem dX12_open_60 : decode cX12_open 60 = .ok (.if_icmp .gt 7, 3) := by decide +kernel
theorem dX12_open_63 : decode cX12_open 63 = .ok (.iconst 1, 1) := by decide +kernel
theorem dX12_open_64 : decode cX12_open 64 = .ok (.goto 4, 3) := by decide +kernel
theorem dX12_open_67 : decode cX12_open 67 = .ok (.iconst 0, 1) := by decide +kernel
theorem dX12_open_68 : decode cX12_open 68 = .ok (.istore 8, 2) := by decide +kernel
theorem dX12_open_70 : decode cX12_open 70 = .ok (.iload 4, 2) := by decide +kernel
theorem dX12_open_72 : decode cX12_open 72 = .ok (.iload 8, 2) := by decide +kernel
theorem dX12_open_74 : decode cX12_open 74 = .ok (.ifCond .eq 7, 3) := by decide +kernel
theorem dX12_open_77 : decode cX12_open 77 = .ok (.iconst 1, 1) := by decide +kernel
theorem dX12_open_78 : decode cX12_open 78 = .ok (.goto 4, 3) := by decide +kernel
theorem dX12_open_81 : decode cX12_open 81 = .ok (.iconst 0, 1) := by decide +kernel
theorem dX12_open_82 : decode cX12_open 82 = .ok (.iadd, 1) := by decide +kernel
theorem dX12_open_83 : decode cX12_open 83 = .ok (.istore 4, 2) := by decide +kernel
theorem dX12_open_85 : decode cX12_open 85 = .ok (.iload 8, 2) := by decide +kernel
theorem dX12_open_87 : decode cX12_open 87 = .ok (.ifCond .eq 10, 3) := by decide +kernel
theorem dX12_open_90 : decode cX12_open 90 = .ok (.iload 5, 2) := by decide +kernel
theorem dX12_open_92 : decode cX12_open 92 = .ok (.iconst 1, 1) := by decide +kernel
theorem dX12_open_93 : decode cX12_open 93 = .ok (.iadd, 1) := by decide +kernel
theorem dX12_open_94 : decode cX12_open 94 = .ok (.goto 4, 3) := by decide +kernel
theorem dX12_open_97 : decode cX12_open 97 = .ok (.iconst 0, 1) := by decide +kernel
theorem dX12_open_98 : decode cX12_open 98 = .ok (.istore 5, 2) := by decide +kernel
theorem dX12_open_100 : decode cX12_open 100 = .ok (.iload 5, 2) := by decide +kernel
theorem dX12_open_102 : decode cX12_open 102 = .ok (.iload 6, 2) := by decide +kernel
theorem dX12_open_104 : decode cX12_open 104 = .ok (.if_icmp .le 8, 3) := by decide +kernel
theorem dX12_open_107 : decode cX12_open 107 = .ok (.iload 5, 2) := by decide +kernel
theorem dX12_open_109 : decode cX12_open 109 = .ok (.goto 5, 3) := by decide +kernel
theorem dX12_open_112 : decode cX12_open 112 = .ok (.iload 6, 2) := by decide +kernel
theorem dX12_open_114 : decode cX12_open 114 = .ok (.istore 6, 2) := by decide +kernel
theorem dX12_open_116 : decode cX12_open 116 = .ok (.iinc 7 1, 3) := by decide +kernel
theorem dX12_open_119 : decode cX12_open 119 = .ok (.goto (-72), 3) := by decide +kernel
theorem dX12_open_122 : decode cX12_open 122 = .ok (.iload_n 3, 1) := by decide +kernel
theorem dX12_open_123 : decode cX12_open 123 = .ok (.ifCond .ne 8, 3) := by decide +kernel
theorem dX12_open_126 : decode cX12_open 126 = .ok (.iload 4, 2) := by decide +kernel
theorem dX12_open_128 : decode cX12_open 128 = .ok (.goto 5, 3) := by decide +kernel
theorem dX12_open_131 : decode cX12_open 131 = .ok (.iload 6, 2) := by decide +kernel
theorem dX12_open_133 : decode cX12_open 133 = .ok (.ireturn, 1) := by decide +kernel
set_option maxRecDepth 100000 in
set_option maxHeartbeats 4000000 in
theorem s_open (l : Launch) (g : zG) (h : Hp) (m : Nat) (F : Nat → Int32) (A : Nat → Nat → Int32) (x n w : Int32) (T : Nat) (Q : pP) (hi : iT (A 1) T Q) : Sp l g yX12_open cX12_open 9 (some .int) (rmz 4) [.ref m, .int x, .int n, .int w] (hM g h m F A) (zI (mq g h m F A (q_open T Q x n w))) := by
  refine Sp.of [some (.ref m), some (.int x), some (.int n), some (.int w), none, none, none, none, none] (by decide) (Nat.le_of_ble_eq_true rfl) rfl rfl ?_
  rintro X rfl hr rfl B
  show AW X 0 0 0 _ _ _ _
  refine aw_iload_n B 1 rfl dX12_open_0 rfl ?_
  refine aw_callS B 0 0 (s_isShelf _ _ _ _) co_X12_isShelf k_X12_137 dX12_open_1 rfl rfl (Nat.le_of_ble_eq_true rfl) (zrm hr (by decide)) (Nat.le_refl _) (Nat.le_refl _) (kI fun r1 h1 hp1 => ?_)
  obtain ⟨rfl, rfl⟩ := hp1
  refine aw_if_eq B 16 dX12_open_4 (fun c4 => ?_) (fun c4 => ?_)
  · refine aw_iconst B (-1) (by decide) dX12_open_16 ?_
    refine aw_iret B rfl rfl dX12_open_17 ?_
    exact ⟨_, rfl, by unfold q_open; rw [if_pos c4], F, A, rfl, eqF.rf, eqA.rf, trivial⟩
  · refine aw_iload_n B 3 rfl dX12_open_7 rfl ?_
    refine aw_iconst B 0 (by decide) dX12_open_8 ?_
    refine aw_iconst B 1 (by decide) dX12_open_9 ?_
    refine aw_callS B 0 0 (s_in _ _ _ _ _ _) co_X12_in k_X12_44 dX12_open_10 rfl rfl (Nat.le_of_ble_eq_true rfl) (zrm hr (by decide)) (Nat.le_refl _) (Nat.le_refl _) (kI fun r10 h10 hp10 => ?_)
    obtain ⟨rfl, rfl⟩ := hp10
    refine aw_if_ne B 18 dX12_open_13 (fun c13 => ?_) (fun c13 => ?_)
    · refine aw_iload_n B 2 rfl dX12_open_18 rfl ?_
      refine aw_iconst B 0 (by decide) dX12_open_19 ?_
      refine aw_bipush B 60 (by decide) dX12_open_20 ?_
      refine aw_callS B 0 0 (s_in _ _ _ _ _ _) co_X12_in k_X12_44 dX12_open_22 rfl rfl (Nat.le_of_ble_eq_true rfl) (zrm hr (by decide)) (Nat.le_refl _) (Nat.le_refl _) (kI fun r22 h22 hp22 => ?_)
      obtain ⟨rfl, rfl⟩ := hp22
      refine aw_if_ne B 31 dX12_open_25 (fun c25 => ?_) (fun c25 => ?_)
      · obtain ⟨k, -, hk, rfl⟩ := in_rng (lo := 0) (hi := 60) (of_bI c25) (by decide) (by decide)
        have ek : kN (nI k) = k := kN_nI (by omega)
        refine aw_aload_n B 0 rfl dX12_open_31 rfl ?_
        refine aw_callV B 0 0 (s_forgets _ _ _ _ _ _) co_X12_forgets k_X12_165 dX12_open_32 hM_o rfl rfl rfl rfl (Nat.le_of_ble_eq_true rfl) (zrm hr (by decide)) (Nat.le_refl _) (Nat.le_refl _) (kV fun h32 hp32 => ?_)
        subst hp32
        refine aw_iconst B 0 (by decide) dX12_open_35 ?_
        refine aw_istore4 B dX12_open_36 ?_
        refine aw_iconst B 0 (by decide) dX12_open_38 ?_
        refine aw_istore5 B dX12_open_39 ?_
        refine aw_iconst B 0 (by decide) dX12_open_41 ?_
        refine aw_istore6 B dX12_open_42 ?_
        refine aw_iconst B 0 (by decide) dX12_open_44 ?_
        refine aw_istore7 B dX12_open_45 ?_
        have lp : ∀ (f j : Nat) (F1 : Nat → Int32) (A1 : Nat → Nat → Int32), k < j + f → j ≤ k → eqF GF F F1 → eqA GA A A1 → lvI T Q F1 A1 → AW X 0 0 47 [some (.ref m), some (.int x), some (.int (nI k)), some (.int w), some (.int (opF T Q x j).1), some (.int (opF T Q x j).2.1), some (.int (opF T Q x j).2.2), some (.int (nI j)), none] [] (hM (zXg X) h m F1 A1) (zI (mq (zXg X) h m F A (q_open T Q x (nI k) w))) := by
          intro f
          induction f with
          | zero => intros; omega
          | succ f ih =>
            intro j F1 A1 hf hj hF hA hlv1
            have e1 : A1 1 = A 1 := hA 1 (by simp [GA])
            refine aw_iload B dX12_open_47 rfl ?_
            refine aw_iload_n B 2 rfl dX12_open_49 rfl ?_
            refine aw_icmp_ge B 122 dX12_open_50 (fun c50 => ?_) (fun c50 => ?_)
            · refine aw_iload_n B 3 rfl dX12_open_122 rfl ?_
              refine aw_if_ne B 131 dX12_open_123 (fun c123 => ?_) (fun c123 => ?_)
              · refine aw_iload B dX12_open_131 rfl ?_
                refine aw_iret B rfl rfl dX12_open_133 ?_
                have hje : j = k := Nat.le_antisymm hj ((nI_leI (by omega) (by omega)).mp c50)
                exact ⟨_, rfl, by unfold q_open; rw [if_neg c4, if_neg c13, if_neg c25, if_neg c123, ek, hje], F1, A1, rfl, hF, hA, trivial⟩
              · refine aw_iload B dX12_open_126 rfl ?_
                refine aw_goto B 133 dX12_open_128 ?_
                refine aw_iret B rfl rfl dX12_open_133 ?_
                have hje : j = k := Nat.le_antisymm hj ((nI_leI (by omega) (by omega)).mp c50)
                exact ⟨_, rfl, by unfold q_open; rw [if_neg c4, if_neg c13, if_neg c25, if_pos c123, ek, hje], F1, A1, rfl, hF, hA, trivial⟩
            · have hlt : j < k := Nat.not_le.mp fun z => c50 (nI_le z (by omega))
              refine aw_aload_n B 0 rfl dX12_open_53 rfl ?_
              refine aw_iload B dX12_open_54 rfl ?_
              refine aw_callV B 0 0 (s_levelIn _ _ _ _ _ _ _ (j + 1) T Q (nI_1 j) (by omega) (by rw [e1]; exact hi.1) hi.2.1 (by rw [e1]; exact hi.2.2.1) hi.2.2.2 hlv1) co_X12_levelIn k_X12_151 dX12_open_56 hM_o rfl rfl rfl rfl (Nat.le_of_ble_eq_true rfl) (zrm hr (by decide)) (Nat.le_refl _) (Nat.le_refl _) (kI fun r56 h56 hp56 => ?_)
              obtain ⟨rfl, F2, A2, rfl, hF2, hA2, hlv2⟩ := hp56
              rw [hrI_s]
              refine aw_iload_n B 1 rfl dX12_open_59 rfl ?_
              refine aw_icmp_gt B 67 dX12_open_60 (fun c60 => ?_) (fun c60 => ?_)
              · refine aw_iconst B 0 (by decide) dX12_open_67 ?_
                refine aw_istore8 B dX12_open_68 ?_
                refine aw_iload B dX12_open_70 rfl ?_
                refine aw_iload B dX12_open_72 rfl ?_
                refine aw_if_eq B 81 dX12_open_74 (fun c74 => ?_) (fun c74 => absurd rfl c74)
                refine aw_iconst B 0 (by decide) dX12_open_81 ?_
                refine aw_iadd B dX12_open_82 ?_
                refine aw_istore4 B dX12_open_83 ?_
                refine aw_iload B dX12_open_85 rfl ?_
                refine aw_if_eq B 97 dX12_open_87 (fun c87 => ?_) (fun c87 => absurd rfl c87)
                refine aw_iconst B 0 (by decide) dX12_open_97 ?_
                refine aw_istore5 B dX12_open_98 ?_
                refine aw_iload B dX12_open_100 rfl ?_
                refine aw_iload B dX12_open_102 rfl ?_
                refine aw_icmp_le B 112 dX12_open_104 (fun c104 => ?_) (fun c104 => ?_)
                · refine aw_iload B dX12_open_112 rfl ?_
                  refine aw_istore6 B dX12_open_114 ?_
                  refine aw_iinc7 B 1 (by decide) dX12_open_116 ?_
                  refine aw_goto B 47 dX12_open_119 ?_
                  rw [nI_1]
                  have eo : opF T Q x (j + 1) = if lvl (T + j) Q ≤ x then ((opF T Q x j).1 + 1, (opF T Q x j).2.1 + 1, if (opF T Q x j).2.1 + 1 ≤ (opF T Q x j).2.2 then (opF T Q x j).2.2 else (opF T Q x j).2.1 + 1) else ((opF T Q x j).1 + 0, 0, if (0 : Int32) ≤ (opF T Q x j).2.2 then (opF T Q x j).2.2 else 0) := rfl
                  refine AW.weak (lv' := [some (.ref m), some (.int x), some (.int (nI k)), some (.int w), some (.int (opF T Q x (j + 1)).1), some (.int (opF T Q x (j + 1)).2.1), some (.int (opF T Q x (j + 1)).2.2), some (.int (nI (j + 1))), none]) ?_ (ih (j + 1) F2 A2 (by omega) (by omega) (hF.tr (gar_1 hF2)) (hA.tr (gar_2 hA2)) hlv2)
                  first
                    | rw [if_pos (Int32.not_lt.mp c60)] at eo
                    | rw [if_neg (Int32.not_le.mpr c60)] at eo
                  rw [eo]
                  first
                    | rw [if_pos c104]
                    | rw [if_neg c104]
                  exact ⟨Or.inr rfl, Or.inr rfl, Or.inr rfl, Or.inr rfl, Or.inr rfl, Or.inr rfl, Or.inr rfl, Or.inr rfl, Or.inl rfl, trivial⟩
                · refine aw_iload B dX12_open_107 rfl ?_
                  refine aw_goto B 114 dX12_open_109 ?_
                  refine aw_istore6 B dX12_open_114 ?_
                  refine aw_iinc7 B 1 (by decide) dX12_open_116 ?_
                  refine aw_goto B 47 dX12_open_119 ?_
                  rw [nI_1]
                  have eo : opF T Q x (j + 1) = if lvl (T + j) Q ≤ x then ((opF T Q x j).1 + 1, (opF T Q x j).2.1 + 1, if (opF T Q x j).2.1 + 1 ≤ (opF T Q x j).2.2 then (opF T Q x j).2.2 else (opF T Q x j).2.1 + 1) else ((opF T Q x j).1 + 0, 0, if (0 : Int32) ≤ (opF T Q x j).2.2 then (opF T Q x j).2.2 else 0) := rfl
                  refine AW.weak (lv' := [some (.ref m), some (.int x), some (.int (nI k)), some (.int w), some (.int (opF T Q x (j + 1)).1), some (.int (opF T Q x (j + 1)).2.1), some (.int (opF T Q x (j + 1)).2.2), some (.int (nI (j + 1))), none]) ?_ (ih (j + 1) F2 A2 (by omega) (by omega) (hF.tr (gar_1 hF2)) (hA.tr (gar_2 hA2)) hlv2)
                  first
                    | rw [if_pos (Int32.not_lt.mp c60)] at eo
                    | rw [if_neg (Int32.not_le.mpr c60)] at eo
                  rw [eo]
                  first
                    | rw [if_pos c104]
                    | rw [if_neg c104]
                  exact ⟨Or.inr rfl, Or.inr rfl, Or.inr rfl, Or.inr rfl, Or.inr rfl, Or.inr rfl, Or.inr rfl, Or.inr rfl, Or.inl rfl, trivial⟩
              · refine aw_iconst B 1 (by decide) dX12_open_63 ?_
                refine aw_goto B 68 dX12_open_64 ?_
                refine aw_istore8 B dX12_open_68 ?_
                refine aw_iload B dX12_open_70 rfl ?_
                refine aw_iload B dX12_open_72 rfl ?_
                refine aw_if_eq B 81 dX12_open_74 (fun c74 => absurd c74 (by decide)) (fun c74 => ?_)
                refine aw_iconst B 1 (by decide) dX12_open_77 ?_
                refine aw_goto B 82 dX12_open_78 ?_
                refine aw_iadd B dX12_open_82 ?_
                refine aw_istore4 B dX12_open_83 ?_
                refine aw_iload B dX12_open_85 rfl ?_
                refine aw_if_eq B 97 dX12_open_87 (fun c87 => absurd c87 (by decide)) (fun c87 => ?_)
                refine aw_iload B dX12_open_90 rfl ?_
                refine aw_iconst B 1 (by decide) dX12_open_92 ?_
                refine aw_iadd B dX12_open_93 ?_
                refine aw_goto B 98 dX12_open_94 ?_
                refine aw_istore5 B dX12_open_98 ?_
                refine aw_iload B dX12_open_100 rfl ?_
                refine aw_iload B dX12_open_102 rfl ?_
                refine aw_icmp_le B 112 dX12_open_104 (fun c104 => ?_) (fun c104 => ?_)
                · refine aw_iload B dX12_open_112 rfl ?_
                  refine aw_istore6 B dX12_open_114 ?_
                  refine aw_iinc7 B 1 (by decide) dX12_open_116 ?_
                  refine aw_goto B 47 dX12_open_119 ?_
                  rw [nI_1]
                  have eo : opF T Q x (j + 1) = if lvl (T + j) Q ≤ x then ((opF T Q x j).1 + 1, (opF T Q x j).2.1 + 1, if (opF T Q x j).2.1 + 1 ≤ (opF T Q x j).2.2 then (opF T Q x j).2.2 else (opF T Q x j).2.1 + 1) else ((opF T Q x j).1 + 0, 0, if (0 : Int32) ≤ (opF T Q x j).2.2 then (opF T Q x j).2.2 else 0) := rfl
                  refine AW.weak (lv' := [some (.ref m), some (.int x), some (.int (nI k)), some (.int w), some (.int (opF T Q x (j + 1)).1), some (.int (opF T Q x (j + 1)).2.1), some (.int (opF T Q x (j + 1)).2.2), some (.int (nI (j + 1))), none]) ?_ (ih (j + 1) F2 A2 (by omega) (by omega) (hF.tr (gar_1 hF2)) (hA.tr (gar_2 hA2)) hlv2)
                  first
                    | rw [if_pos (Int32.not_lt.mp c60)] at eo
                    | rw [if_neg (Int32.not_le.mpr c60)] at eo
                  rw [eo]
                  first
                    | rw [if_pos c104]
                    | rw [if_neg c104]
                  exact ⟨Or.inr rfl, Or.inr rfl, Or.inr rfl, Or.inr rfl, Or.inr rfl, Or.inr rfl, Or.inr rfl, Or.inr rfl, Or.inl rfl, trivial⟩
                · refine aw_iload B dX12_open_107 rfl ?_
                  refine aw_goto B 114 dX12_open_109 ?_
                  refine aw_istore6 B dX12_open_114 ?_
                  refine aw_iinc7 B 1 (by decide) dX12_open_116 ?_
                  refine aw_goto B 47 dX12_open_119 ?_
                  rw [nI_1]
                  have eo : opF T Q x (j + 1) = if lvl (T + j) Q ≤ x then ((opF T Q x j).1 + 1, (opF T Q x j).2.1 + 1, if (opF T Q x j).2.1 + 1 ≤ (opF T Q x j).2.2 then (opF T Q x j).2.2 else (opF T Q x j).2.1 + 1) else ((opF T Q x j).1 + 0, 0, if (0 : Int32) ≤ (opF T Q x j).2.2 then (opF T Q x j).2.2 else 0) := rfl
                  refine AW.weak (lv' := [some (.ref m), some (.int x), some (.int (nI k)), some (.int w), some (.int (opF T Q x (j + 1)).1), some (.int (opF T Q x (j + 1)).2.1), some (.int (opF T Q x (j + 1)).2.2), some (.int (nI (j + 1))), none]) ?_ (ih (j + 1) F2 A2 (by omega) (by omega) (hF.tr (gar_1 hF2)) (hA.tr (gar_2 hA2)) hlv2)
                  first
                    | rw [if_pos (Int32.not_lt.mp c60)] at eo
                    | rw [if_neg (Int32.not_le.mpr c60)] at eo
                  rw [eo]
                  first
                    | rw [if_pos c104]
                    | rw [if_neg c104]
                  exact ⟨Or.inr rfl, Or.inr rfl, Or.inr rfl, Or.inr rfl, Or.inr rfl, Or.inr rfl, Or.inr rfl, Or.inr rfl, Or.inl rfl, trivial⟩
        exact lp 61 0 _ A (by omega) (Nat.zero_le _) gar_5 eqA.rf lvI_0
      · refine aw_bipush B (-2) (by decide) dX12_open_28 ?_
        refine aw_iret B rfl rfl dX12_open_30 ?_
        exact ⟨_, rfl, by unfold q_open; rw [if_neg c4, if_neg c13, if_pos c25], F, A, rfl, eqF.rf, eqA.rf, trivial⟩
    · refine aw_iconst B (-1) (by decide) dX12_open_16 ?_
      refine aw_iret B rfl rfl dX12_open_17 ?_
      exact ⟨_, rfl, by unfold q_open; rw [if_neg c4, if_pos c13], F, A, rfl, eqF.rf, eqA.rf, trivial⟩
theorem dX12_stood_0 : decode cX12_stood 0 = .ok (.sipush 511, 3) := by decide +kernel
theorem dX12_stood_3 : decode cX12_stood 3 = .ok (.istore_n 1, 1) := by decide +kernel
theorem dX12_stood_4 : decode cX12_stood 4 = .ok (.iconst 0, 1) := by decide +kernel
theorem dX12_stood_5 : decode cX12_stood 5 = .ok (.istore_n 2, 1) := by decide +kernel
theorem dX12_stood_6 : decode cX12_stood 6 = .ok (.iload_n 2, 1) := by decide +kernel
theorem dX12_stood_7 : decode cX12_stood 7 = .ok (.aload_n 0, 1) := by decide +kernel
theorem dX12_stood_8 : decode cX12_stood 8 = .ok (.getfield 9, 3) := by decide +kernel
theorem dX12_stood_11 : decode cX12_stood 11 = .ok (.iconst 4, 1) := by decide +kernel
theorem dX12_stood_12 : decode cX12_stood 12 = .ok (.iaload, 1) := by decide +kernel
theorem dX12_stood_13 : decode cX12_stood 13 = .ok (.if_icmp .ge 85, 3) := by decide +kernel
theorem dX12_stood_16 : decode cX12_stood 16 = .ok (.aload_n 0, 1) := by decide +kernel
theorem dX12_stood_17 : decode cX12_stood 17 = .ok (.aload_n 0, 1) := by decide +kernel
theorem dX12_stood_18 : decode cX12_stood 18 = .ok (.getfield 9, 3) := by decide +kernel
theorem dX12_stood_21 : decode cX12_stood 21 = .ok (.bipush 8, 2) := by decide +kernel
theorem dX12_stood_23 : decode cX12_stood 23 = .ok (.iaload, 1) := by decide +kernel
theorem dX12_stood_24 : decode cX12_stood 24 = .ok (.aload_n 0, 1) := by decide +kernel
theorem dX12_stood_25 : decode cX12_stood 25 = .ok (.getfield 9, 3) := by decide +kernel
theorem dX12_stood_28 : decode cX12_stood 28 = .ok (.bipush 54, 2) := by decide +kernel
theorem dX12_stood_30 : decode cX12_stood 30 = .ok (.iload_n 2, 1) := by decide +kernel
theorem dX12_stood_31 : decode cX12_stood 31 = .ok (.iadd, 1) := by decide +kernel
theorem dX12_stood_32 : decode cX12_stood 32 = .ok (.iaload, 1) := by decide +kernel
theorem dX12_stood_33 : decode cX12_stood 33 = .ok (.iadd, 1) := by decide +kernel
theorem dX12_stood_34 : decode cX12_stood 34 = .ok (.invokevirtual 133, 3) := by decide +kernel
theorem dX12_stood_37 : decode cX12_stood 37 = .ok (.istore_n 3, 1) := by decide +kernel
theorem dX12_stood_38 : decode cX12_stood 38 = .ok (.iconst 0, 1) := by decide +kernel
theorem dX12_stood_39 : decode cX12_stood 39 = .ok (.istore 4, 2) := by decide +kernel
theorem dX12_stood_41 : decode cX12_stood 41 = .ok (.iload 4, 2) := by decide +kernel
theorem dX12_stood_43 : decode cX12_stood 43 = .ok (.bipush 9, 2) := by decide +kernel
theorem dX12_stood_45 : decode cX12_stood 45 = .ok (.if_icmp .ge 47, 3) := by decide +kernel
theorem dX12_stood_48 : decode cX12_stood 48 = .ok (.iload_n 1, 1) := by decide +kernel
theorem dX12_stood_49 : decode cX12_stood 49 = .ok (.iload_n 3, 1) := by decide +kernel
theorem dX12_stood_50 : decode cX12_stood 50 = .ok (.iload 4, 2) := by decide +kernel
theorem dX12_stood_52 : decode cX12_stood 52 = .ok (.if_icmp .gt 7, 3) := by decide +kernel
theorem dX12_stood_55 : decode cX12_stood 55 = .ok (.iconst 1, 1) := by decide +kernel
theorem dX12_stood_56 : decode cX12_stood 56 = .ok (.goto 4, 3) := by decide +kernel
theorem dX12_stood_59 : decode cX12_stood 59 = .ok (.iconst 0, 1) := by decide +kernel
theorem dX12_stood_60 : decode cX12_stood 60 = .ok (.aload_n 0, 1) := by decide +kernel
theorem dX12_stood_61 : decode cX12_stood 61 = .ok (.getfield 9, 3) := by decide +kernel
theorem dX12_stood_64 : decode cX12_stood 64 = .ok (.bipush 62, 2) := by decide +kernel
theorem dX12_stood_66 : decode cX12_stood 66 = .ok (.iload_n 2, 1) := by decide +kernel
theorem dX12_stood_67 : decode cX12_stood 67 = .ok (.iadd, 1) := by decide +kernel
theorem dX12_stood_68 : decode cX12_stood 68 = .ok (.iaload, 1) := by decide +kernel
theorem dX12_stood_69 : decode cX12_stood 69 = .ok (.if_icmp .ne 9, 3) := by decide +kernel
theorem dX12_stood_72 : decode cX12_stood 72 = .ok (.sipush 511, 3) := by decide +kernel
theorem dX12_stood_75 : decode cX12_stood 75 = .ok (.goto 9, 3) := by decide +kernel
theorem dX12_stood_78 : decode cX12_stood 78 = .ok (.iconst 1, 1) := by decide +kernel
theorem dX12_stood_79 : decode cX12_stood 79 = .ok (.iload 4, 2) := by decide +kernel
theorem dX12_stood_81 : decode cX12_stood 81 = .ok (.ishl, 1) := by decide +kernel
theorem dX12_stood_82 : decode cX12_stood 82 = .ok (.iconst (-1), 1) := by decide +kernel
theorem dX12_stood_83 : decode cX12_stood 83 = .ok (.ixor, 1) := by decide +kernel
theorem dX12_stood_84 : decode cX12_stood 84 = .ok (.iand, 1) := by decide +kernel
theorem dX12_stood_85 : decode cX12_stood 85 = .ok (.istore_n 1, 1) := by decide +kernel
theorem dX12_stood_86 : decode cX12_stood 86 = .ok (.iinc 4 1, 3) := by decide +kernel
theorem dX12_stood_89 : decode cX12_stood 89 = .ok (.goto (-48), 3) := by decide +kernel
theorem dX12_stood_92 : decode cX12_stood 92 = .ok (.iinc 2 1, 3) := by decide +kernel
theorem dX12_stood_95 : decode cX12_stood 95 = .ok (.goto (-89), 3) := by decide +kernel
theorem dX12_stood_98 : decode cX12_stood 98 = .ok (.iload_n 1, 1) := by decide +kernel
theorem dX12_stood_99 : decode cX12_stood 99 = .ok (.ireturn, 1) := by decide +kernel
set_option maxRecDepth 100000 in
set_option maxHeartbeats 4000000 in
theorem s_stood (l : Launch) (g : zG) (h : Hp) (m : Nat) (F : Nat → Int32) (A : Nat → Nat → Int32) (T : Nat) (Q : pP) (hi : iT (A 1) T Q) (n4 : Nat) (hE4 : iE (A 1) n4) : Sp l g yX12_stood cX12_stood 5 (some .int) (rmz 3) [.ref m] (hM g h m F A) (zI (mq g h m F A (stF (A 1) T Q n4))) := by
  refine Sp.of [some (.ref m), none, none, none, none] (by decide) (Nat.le_of_ble_eq_true rfl) rfl rfl ?_
  rintro X rfl hr rfl B
  show AW X 0 0 0 _ _ _ _
  have z4 := hE4.1
  have lp : ∀ (f k : Nat) (F1 : Nat → Int32) (A1 : Nat → Nat → Int32), n4 < k + f → k ≤ n4 → eqF GF F F1 → eqA GA A A1 → AW X 0 0 6 [some (.ref m), some (.int (stF (A 1) T Q k)), some (.int (nI k)), none, none] [] (hM (zXg X) h m F1 A1) (zI (mq (zXg X) h m F A (stF (A 1) T Q n4))) := by
    intro f
    induction f with
    | zero => intros; omega
    | succ f ih =>
      intro k F1 A1 hf hk hF hA
      have e1 : A1 1 = A 1 := hA 1 (by simp [GA])
      refine aw_iload_n B 2 rfl dX12_stood_6 rfl ?_
      refine aw_aload_n B 0 rfl dX12_stood_7 rfl ?_
      refine m_get B f_X12_9 dX12_stood_8 (mg_1 _ _) ?_
      refine aw_iconst B 4 (by decide) dX12_stood_11 ?_
      refine m_ld B (4) (rfl) ((by decide)) dX12_stood_12 (by decide) ?_
      refine aw_icmp_ge B 98 dX12_stood_13 (fun c13 => ?_) (fun c13 => ?_)
      · refine aw_iload_n B 1 rfl dX12_stood_98 rfl ?_
        refine aw_iret B rfl rfl dX12_stood_99 ?_
        have hje : k = n4 := Nat.le_antisymm hk ((nI_leI (by omega) (by omega)).mp (by rw [e1, hE4.2.1] at c13; exact c13))
        exact ⟨_, rfl, by rw [hje], F1, A1, rfl, hF, hA, trivial⟩
      · have hlt : k < n4 := Nat.not_le.mp fun z => c13 (by rw [e1, hE4.2.1]; exact nI_le z (by omega))
        obtain ⟨⟨a, ha, ea⟩, hd⟩ := hE4.2.2 k hlt
        refine aw_aload_n B 0 rfl dX12_stood_16 rfl ?_
        refine aw_aload_n B 0 rfl dX12_stood_17 rfl ?_
        refine m_get B f_X12_9 dX12_stood_18 (mg_1 _ _) ?_
        refine aw_bipush B 8 (by decide) dX12_stood_21 ?_
        refine m_ld B (8) (rfl) ((by decide)) dX12_stood_23 (by decide) ?_
        rw [e1, hi.1]
        refine aw_aload_n B 0 rfl dX12_stood_24 rfl ?_
        refine m_get B f_X12_9 dX12_stood_25 (mg_1 _ _) ?_
        refine aw_bipush B 54 (by decide) dX12_stood_28 ?_
        refine aw_iload_n B 2 rfl dX12_stood_30 rfl ?_
        refine aw_iadd B dX12_stood_31 ?_
        refine m_ld B (54 + k) (ix_c 54 rfl) (by show _ < 899; omega) dX12_stood_32 (by decide) ?_
        rw [e1, ea]
        refine aw_iadd B dX12_stood_33 ?_
        rw [nI_add]
        refine aw_callV B 0 0 (s_levelAt _ _ _ _ _ _ (T + a) Q (by have := hi.2.1; omega) (by rw [e1]; exact hi.2.2.1) hi.2.2.2) co_X12_levelAt k_X12_133 dX12_stood_34 hM_o rfl rfl rfl rfl (Nat.le_of_ble_eq_true rfl) (zrm hr (by decide)) (Nat.le_refl _) (Nat.le_refl _) (kI fun r34 h34 hp34 => ?_)
        obtain ⟨rfl, F2, A2, rfl, hF2, hA2, hw2⟩ := hp34
        have e2 : A2 1 = A 1 := (hA2 1 (by simp)).trans e1
        refine aw_istore3 B dX12_stood_37 ?_
        refine aw_iconst B 0 (by decide) dX12_stood_38 ?_
        refine aw_istore4 B dX12_stood_39 ?_
        have lq : ∀ (f2 sh : Nat), 9 < sh + f2 → sh ≤ 9 → AW X 0 0 41 [some (.ref m), some (.int (inF (lvl (T + a) Q) (A 1 (62 + k)) sh (stF (A 1) T Q k))), some (.int (nI k)), some (.int (lvl (T + a) Q)), some (.int (nI sh))] [] (hM (zXg X) h m F2 A2) (zI (mq (zXg X) h m F A (stF (A 1) T Q n4))) := by
          intro f2
          induction f2 with
          | zero => intros; omega
          | succ f2 ih2 =>
            intro sh hf2 hsh
            refine aw_iload B dX12_stood_41 rfl ?_
            refine aw_bipush B 9 (by decide) dX12_stood_43 ?_
            refine aw_icmp_ge B 92 dX12_stood_45 (fun c45 => ?_) (fun c45 => ?_)
            · refine aw_iinc2 B 1 (by decide) dX12_stood_92 ?_
              refine aw_goto B 6 dX12_stood_95 ?_
              have hse : sh = 9 := by
                have := (nI_leI (a := 9) (by decide) (by omega)).mp c45
                omega
              rw [nI_1]
              refine AW.weak (lv' := [some (.ref m), some (.int (stF (A 1) T Q (k + 1))), some (.int (nI (k + 1))), none, none]) ⟨Or.inr rfl, Or.inr ?_, Or.inr rfl, Or.inl rfl, Or.inl rfl, trivial⟩ (ih (k + 1) F2 A2 (by omega) (by omega) (hF.tr (gar_3 hF2)) (hA.tr (gar_4 hA2)))
              rw [hse, stF, ea, kN_nI (by omega)]
            · have hs9 : sh < 9 := Nat.not_le.mp fun z => c45 (nI_le (a := 9) z (by omega))
              refine aw_iload_n B 1 rfl dX12_stood_48 rfl ?_
              refine aw_iload_n B 3 rfl dX12_stood_49 rfl ?_
              refine aw_iload B dX12_stood_50 rfl ?_
              refine aw_icmp_gt B 59 dX12_stood_52 (fun c52 => ?_) (fun c52 => ?_)
              · refine aw_iconst B 0 (by decide) dX12_stood_59 ?_
                refine aw_aload_n B 0 rfl dX12_stood_60 rfl ?_
                refine m_get B f_X12_9 dX12_stood_61 (mg_1 _ _) ?_
                refine aw_bipush B 62 (by decide) dX12_stood_64 ?_
                refine aw_iload_n B 2 rfl dX12_stood_66 rfl ?_
                refine aw_iadd B dX12_stood_67 ?_
                refine m_ld B (62 + k) (ix_c 62 rfl) (by show _ < 899; omega) dX12_stood_68 (by decide) ?_
                rw [e2]
                refine aw_icmp_ne B 78 dX12_stood_69 (fun c69 => ?_) (fun c69 => ?_)
                · refine aw_iconst B 1 (by decide) dX12_stood_78 ?_
                  refine aw_iload B dX12_stood_79 rfl ?_
                  refine aw_ishl B dX12_stood_81 ?_
                  refine aw_iconst B (-1) (by decide) dX12_stood_82 ?_
                  refine aw_ixor B dX12_stood_83 ?_
                  refine aw_iand B dX12_stood_84 ?_
                  refine aw_istore1 B dX12_stood_85 ?_
                  refine aw_iinc4 B 1 (by decide) dX12_stood_86 ?_
                  refine aw_goto B 41 dX12_stood_89 ?_
                  rw [nI_1]
                  refine Eq.mp ?_ (ih2 (sh + 1) (by omega) (by omega))
                  rw [show inF (lvl (T + a) Q) (A 1 (62 + k)) (sh + 1) (stF (A 1) T Q k) = inF (lvl (T + a) Q) (A 1 (62 + k)) sh (stF (A 1) T Q k) &&& (if (if lvl (T + a) Q ≤ nI sh then (1 : Int32) else 0) = A 1 (62 + k) then 511 else (1 : Int32) <<< (nI sh &&& 31) ^^^ (-1)) from rfl]
                  first
                    | rw [if_pos (Int32.not_lt.mp c52)]
                    | rw [if_neg (Int32.not_le.mpr c52)]
                  first
                    | rw [if_pos c69]
                    | rw [if_neg c69]
                · refine aw_sipush B 511 (by decide) dX12_stood_72 ?_
                  refine aw_goto B 84 dX12_stood_75 ?_
                  refine aw_iand B dX12_stood_84 ?_
                  refine aw_istore1 B dX12_stood_85 ?_
                  refine aw_iinc4 B 1 (by decide) dX12_stood_86 ?_
                  refine aw_goto B 41 dX12_stood_89 ?_
                  rw [nI_1]
                  refine Eq.mp ?_ (ih2 (sh + 1) (by omega) (by omega))
                  rw [show inF (lvl (T + a) Q) (A 1 (62 + k)) (sh + 1) (stF (A 1) T Q k) = inF (lvl (T + a) Q) (A 1 (62 + k)) sh (stF (A 1) T Q k) &&& (if (if lvl (T + a) Q ≤ nI sh then (1 : Int32) else 0) = A 1 (62 + k) then 511 else (1 : Int32) <<< (nI sh &&& 31) ^^^ (-1)) from rfl]
                  first
                    | rw [if_pos (Int32.not_lt.mp c52)]
                    | rw [if_neg (Int32.not_le.mpr c52)]
                  first
                    | rw [if_pos c69]
                    | rw [if_neg c69]
              · refine aw_iconst B 1 (by decide) dX12_stood_55 ?_
                refine aw_goto B 60 dX12_stood_56 ?_
                refine aw_aload_n B 0 rfl dX12_stood_60 rfl ?_
                refine m_get B f_X12_9 dX12_stood_61 (mg_1 _ _) ?_
                refine aw_bipush B 62 (by decide) dX12_stood_64 ?_
                refine aw_iload_n B 2 rfl dX12_stood_66 rfl ?_
                refine aw_iadd B dX12_stood_67 ?_
                refine m_ld B (62 + k) (ix_c 62 rfl) (by show _ < 899; omega) dX12_stood_68 (by decide) ?_
                rw [e2]
                refine aw_icmp_ne B 78 dX12_stood_69 (fun c69 => ?_) (fun c69 => ?_)
                · refine aw_iconst B 1 (by decide) dX12_stood_78 ?_
                  refine aw_iload B dX12_stood_79 rfl ?_
                  refine aw_ishl B dX12_stood_81 ?_
                  refine aw_iconst B (-1) (by decide) dX12_stood_82 ?_
                  refine aw_ixor B dX12_stood_83 ?_
                  refine aw_iand B dX12_stood_84 ?_
                  refine aw_istore1 B dX12_stood_85 ?_
                  refine aw_iinc4 B 1 (by decide) dX12_stood_86 ?_
                  refine aw_goto B 41 dX12_stood_89 ?_
                  rw [nI_1]
                  refine Eq.mp ?_ (ih2 (sh + 1) (by omega) (by omega))
                  rw [show inF (lvl (T + a) Q) (A 1 (62 + k)) (sh + 1) (stF (A 1) T Q k) = inF (lvl (T + a) Q) (A 1 (62 + k)) sh (stF (A 1) T Q k) &&& (if (if lvl (T + a) Q ≤ nI sh then (1 : Int32) else 0) = A 1 (62 + k) then 511 else (1 : Int32) <<< (nI sh &&& 31) ^^^ (-1)) from rfl]
                  first
                    | rw [if_pos (Int32.not_lt.mp c52)]
                    | rw [if_neg (Int32.not_le.mpr c52)]
                  first
                    | rw [if_pos c69]
                    | rw [if_neg c69]
                · refine aw_sipush B 511 (by decide) dX12_stood_72 ?_
                  refine aw_goto B 84 dX12_stood_75 ?_
                  refine aw_iand B dX12_stood_84 ?_
                  refine aw_istore1 B dX12_stood_85 ?_
                  refine aw_iinc4 B 1 (by decide) dX12_stood_86 ?_
                  refine aw_goto B 41 dX12_stood_89 ?_
                  rw [nI_1]
                  refine Eq.mp ?_ (ih2 (sh + 1) (by omega) (by omega))
                  rw [show inF (lvl (T + a) Q) (A 1 (62 + k)) (sh + 1) (stF (A 1) T Q k) = inF (lvl (T + a) Q) (A 1 (62 + k)) sh (stF (A 1) T Q k) &&& (if (if lvl (T + a) Q ≤ nI sh then (1 : Int32) else 0) = A 1 (62 + k) then 511 else (1 : Int32) <<< (nI sh &&& 31) ^^^ (-1)) from rfl]
                  first
                    | rw [if_pos (Int32.not_lt.mp c52)]
                    | rw [if_neg (Int32.not_le.mpr c52)]
                  first
                    | rw [if_pos c69]
                    | rw [if_neg c69]
        exact lq 10 0 (by omega) (by omega)
  refine aw_sipush B 511 (by decide) dX12_stood_0 ?_
  refine aw_istore1 B dX12_stood_3 ?_
  refine aw_iconst B 0 (by decide) dX12_stood_4 ?_
  refine aw_istore2 B dX12_stood_5 ?_
  exact lp 9 0 F A (by omega) (by omega) eqF.rf eqA.rf
