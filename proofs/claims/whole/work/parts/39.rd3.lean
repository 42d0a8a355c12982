def muR (tp : Nat → Int32) (e x : Nat) (s : pst) : pst := emP (x, (figP tp e s).1) (soP tp e (facP tp e 5) (mustP tp e 32 (figP tp e s).2))
theorem must_w {tp : Nat → Int32} {e : Nat} {c : Int32} {s : pst} (hw : s.2.1 = true) : mustP tp e c s = s := by unfold mustP; rw [if_pos hw]
theorem sp_w {tp : Nat → Int32} {e : Nat} : ∀ (cs : List Int32) {s : pst}, s.2.1 = true → spP tp e cs s = s
  | [], _, _ => rfl
  | c :: t, s, hw => by
    show spP tp e t (mustP tp e c s) = s
    rw [must_w hw]
    exact sp_w t hw
theorem muR_f {tp : Nat → Int32} {e x : Nat} {s : pst} (hw : (figP tp e s).2.2.1 = true) : muR tp e x s = (figP tp e s).2 := by
  unfold muR
  rw [must_w hw, (so_gd (tp := tp) (fac_gd tp e 5)).1 _ hw, em_t hw]
theorem muR_w {tp : Nat → Int32} {e x : Nat} {s : pst} (hw : s.2.1 = true) : muR tp e x s = s := by
  have h1 : (figP tp e s).2 = s := by unfold figP; rw [if_pos hw]
  rw [muR_f (by rw [h1]; exact hw), h1]
theorem muP_R {tp : Nat → Int32} {e x i : Nat} {s : pst} : muP tp e x i s = muR tp e x (spP tp e (zByt.getD i []) s) := rfl
theorem cl_else {tp : Nat → Int32} {e : Nat} {s : pst} (hw : s.2.1 = false) (h1 : ¬ hre tp e s = 115) (h2 : ¬ hre tp e s = 101) : clP tp e s = muP tp e 14 2 s := by
  unfold clP
  rw [if_neg (by rw [hw]; decide), if_neg h1, if_neg h2]
  by_cases h3 : hre tp e s = 119
  · rw [if_pos h3]
  · rw [if_neg h3, muP_R, show zByt.getD 2 [] = 119 :: [97, 118, 101, 32] from rfl]
    show _ = muR tp e 14 (spP tp e [97, 118, 101, 32] (mustP tp e 119 s))
    rw [show mustP tp e 119 s = bad s from by unfold mustP; rw [if_neg (by rw [hw]; decide), if_neg h3], sp_w _ rfl, muR_w rfl]
theorem dX1_readClause_0 : decode cX1_readClause 0 = .ok (.aload_n 0, 1) := by decide +kernel
theorem dX1_readClause_1 : decode cX1_readClause 1 = .ok (.invokevirtual 80, 3) := by decide +kernel
theorem dX1_readClause_4 : decode cX1_readClause 4 = .ok (.istore_n 1, 1) := by decide +kernel
theorem dX1_readClause_5 : decode cX1_readClause 5 = .ok (.iload_n 1, 1) := by decide +kernel
theorem dX1_readClause_6 : decode cX1_readClause 6 = .ok (.bipush 115, 2) := by decide +kernel
theorem dX1_readClause_8 : decode cX1_readClause 8 = .ok (.if_icmp .ne 8, 3) := by decide +kernel
theorem dX1_readClause_11 : decode cX1_readClause 11 = .ok (.bipush 12, 2) := by decide +kernel
theorem dX1_readClause_13 : decode cX1_readClause 13 = .ok (.goto 16, 3) := by decide +kernel
theorem dX1_readClause_16 : decode cX1_readClause 16 = .ok (.iload_n 1, 1) := by decide +kernel
theorem dX1_readClause_17 : decode cX1_readClause 17 = .ok (.bipush 101, 2) := by decide +kernel
theorem dX1_readClause_19 : decode cX1_readClause 19 = .ok (.if_icmp .ne 8, 3) := by decide +kernel
theorem dX1_readClause_22 : decode cX1_readClause 22 = .ok (.bipush 13, 2) := by decide +kernel
theorem dX1_readClause_24 : decode cX1_readClause 24 = .ok (.goto 5, 3) := by decide +kernel
theorem dX1_readClause_27 : decode cX1_readClause 27 = .ok (.bipush 14, 2) := by decide +kernel
theorem dX1_readClause_29 : decode cX1_readClause 29 = .ok (.istore_n 2, 1) := by decide +kernel
theorem dX1_readClause_30 : decode cX1_readClause 30 = .ok (.iload_n 2, 1) := by decide +kernel
theorem dX1_readClause_31 : decode cX1_readClause 31 = .ok (.bipush 12, 2) := by decide +kernel
theorem dX1_readClause_33 : decode cX1_readClause 33 = .ok (.if_icmp .ne 8, 3) := by decide +kernel
theorem dX1_readClause_36 : decode cX1_readClause 36 = .ok (.ldc 84, 2) := by decide +kernel
theorem dX1_readClause_38 : decode cX1_readClause 38 = .ok (.goto 16, 3) := by decide +kernel
theorem dX1_readClause_41 : decode cX1_readClause 41 = .ok (.iload_n 2, 1) := by decide +kernel
theorem dX1_readClause_42 : decode cX1_readClause 42 = .ok (.bipush 13, 2) := by decide +kernel
theorem dX1_readClause_44 : decode cX1_readClause 44 = .ok (.if_icmp .ne 8, 3) := by decide +kernel
theorem dX1_readClause_47 : decode cX1_readClause 47 = .ok (.ldc 86, 2) := by decide +kernel
theorem dX1_readClause_49 : decode cX1_readClause 49 = .ok (.goto 5, 3) := by decide +kernel
theorem dX1_readClause_52 : decode cX1_readClause 52 = .ok (.ldc 88, 2) := by decide +kernel
theorem dX1_readClause_54 : decode cX1_readClause 54 = .ok (.astore_n 3, 1) := by decide +kernel
theorem dX1_readClause_55 : decode cX1_readClause 55 = .ok (.iconst 0, 1) := by decide +kernel
theorem dX1_readClause_56 : decode cX1_readClause 56 = .ok (.istore 4, 2) := by decide +kernel
theorem dX1_readClause_58 : decode cX1_readClause 58 = .ok (.iload 4, 2) := by decide +kernel
theorem dX1_readClause_60 : decode cX1_readClause 60 = .ok (.aload_n 3, 1) := by decide +kernel
theorem dX1_readClause_61 : decode cX1_readClause 61 = .ok (.invokevirtual 90, 3) := by decide +kernel
theorem dX1_readClause_64 : decode cX1_readClause 64 = .ok (.if_icmp .ge 24, 3) := by decide +kernel
theorem dX1_readClause_67 : decode cX1_readClause 67 = .ok (.aload_n 0, 1) := by decide +kernel
theorem dX1_readClause_68 : decode cX1_readClause 68 = .ok (.aload_n 3, 1) := by decide +kernel
theorem dX1_readClause_69 : decode cX1_readClause 69 = .ok (.iload 4, 2) := by decide +kernel
theorem dX1_readClause_71 : decode cX1_readClause 71 = .ok (.invokevirtual 95, 3) := by decide +kernel
theorem dX1_readClause_74 : decode cX1_readClause 74 = .ok (.invokevirtual 76, 3) := by decide +kernel
theorem dX1_readClause_77 : decode cX1_readClause 77 = .ok (.ifCond .ne 5, 3) := by decide +kernel
theorem dX1_readClause_80 : decode cX1_readClause 80 = .ok (.iconst 0, 1) := by decide +kernel
theorem dX1_readClause_81 : decode cX1_readClause 81 = .ok (.ireturn, 1) := by decide +kernel
theorem dX1_readClause_82 : decode cX1_readClause 82 = .ok (.iinc 4 1, 3) := by decide +kernel
theorem dX1_readClause_85 : decode cX1_readClause 85 = .ok (.goto (-27), 3) := by decide +kernel
theorem dX1_readClause_88 : decode cX1_readClause 88 = .ok (.aload_n 0, 1) := by decide +kernel
theorem dX1_readClause_89 : decode cX1_readClause 89 = .ok (.invokevirtual 99, 3) := by decide +kernel
theorem dX1_readClause_92 : decode cX1_readClause 92 = .ok (.istore 4, 2) := by decide +kernel
theorem dX1_readClause_94 : decode cX1_readClause 94 = .ok (.iload 4, 2) := by decide +kernel
theorem dX1_readClause_96 : decode cX1_readClause 96 = .ok (.ifCond .lt 20, 3) := by decide +kernel
theorem dX1_readClause_99 : decode cX1_readClause 99 = .ok (.aload_n 0, 1) := by decide +kernel
theorem dX1_readClause_100 : decode cX1_readClause 100 = .ok (.bipush 32, 2) := by decide +kernel
theorem dX1_readClause_102 : decode cX1_readClause 102 = .ok (.invokevirtual 76, 3) := by decide +kernel
theorem dX1_readClause_105 : decode cX1_readClause 105 = .ok (.ifCond .eq 11, 3) := by decide +kernel
theorem dX1_readClause_108 : decode cX1_readClause 108 = .ok (.aload_n 0, 1) := by decide +kernel
theorem dX1_readClause_109 : decode cX1_readClause 109 = .ok (.iconst 0, 1) := by decide +kernel
theorem dX1_readClause_110 : decode cX1_readClause 110 = .ok (.invokevirtual 102, 3) := by decide +kernel
theorem dX1_readClause_113 : decode cX1_readClause 113 = .ok (.ifCond .ne 5, 3) := by decide +kernel
theorem dX1_readClause_116 : decode cX1_readClause 116 = .ok (.iconst 0, 1) := by decide +kernel
theorem dX1_readClause_117 : decode cX1_readClause 117 = .ok (.ireturn, 1) := by decide +kernel
theorem dX1_readClause_118 : decode cX1_readClause 118 = .ok (.aload_n 0, 1) := by decide +kernel
theorem dX1_readClause_119 : decode cX1_readClause 119 = .ok (.iload_n 2, 1) := by decide +kernel
theorem dX1_readClause_120 : decode cX1_readClause 120 = .ok (.iload 4, 2) := by decide +kernel
theorem dX1_readClause_122 : decode cX1_readClause 122 = .ok (.invokevirtual 105, 3) := by decide +kernel
theorem dX1_readClause_125 : decode cX1_readClause 125 = .ok (.iconst 1, 1) := by decide +kernel
theorem dX1_readClause_126 : decode cX1_readClause 126 = .ok (.ireturn, 1) := by decide +kernel
set_option maxRecDepth 100000 in
set_option maxHeartbeats 4000000 in
theorem s_readClause (l : Launch) (g : zG) (h : Hp) (k t : Nat) (SF NF tf tp : Nat → Int32) (e : Nat) (s : pst) (T : tRow g h k t tp e) (hw : s.2.1 = false) (hs : s.1 ≤ e) (hl : s.2.2.length ≤ s.1) : Sp l g yX1_readClause cX1_readClause 5 (some .boolean) (rmz 22) [.ref k] (hC g h k t SF NF tf s) (zI fun r h' => r = b2 (!(clP tp e s).2.1) ∧ h' = hC g h k t SF NF tf (clP tp e s)) := by
  refine Sp.of [some (.ref k), none, none, none, none] (by decide) (Nat.le_of_ble_eq_true rfl) rfl rfl ?_
  rintro X rfl hr rfl B
  show AW X 0 0 0 _ _ _ _
  have he := T.2.2
  have r88 : ∀ (x i : Nat) (c : Int32) (v : Option Value) (s : pst), s.2.1 = false → s.1 ≤ e → s.2.2.length ≤ s.1 → AW X 0 0 88 [some (.ref k), some (.int c), some (.int (nI x)), some (.ref (sA (zXg X) i)), v] [] (hC (zXg X) h k t SF NF tf s) (zI fun r h' => r = b2 (!(muR tp e x s).2.1) ∧ h' = hC (zXg X) h k t SF NF tf (muR tp e x s)) := by
    intro x i c v s hw hs hl
    obtain ⟨g1, g2, g3, g4, -⟩ := fig_gs (tp := tp) (e := e) (s := s) hs
    have gw := fig_w (tp := tp) (e := e) (s := s) hw
    by_cases hD : bI (48 ≤ hre tp e s ∧ hre tp e s ≤ 57) = 0
    · have gw : (figP tp e s).2.2.1 = true := by rw [gw]; exact decide_eq_true hD
      rw [muR_f gw]
      refine aw_aload_n B 0 rfl dX1_readClause_88 rfl ?_
      refine aw_callV B 0 0 (s_readNumber _ _ _ k t SF NF tf tp e s T hw hs) co_X1_readNumber k_X1_99 dX1_readClause_89 hC_o rfl rfl rfl rfl (Nat.le_of_ble_eq_true rfl) (zrm hr (by omega)) (Nat.le_refl _) (Nat.le_refl _) (kI fun r89 h89 hp89 => ?_)
      obtain ⟨rfl, rfl⟩ := hp89
      rw [if_pos hD]
      refine aw_istore4 B dX1_readClause_92 ?_
      refine aw_iload B dX1_readClause_94 rfl ?_
      refine aw_if_lt B 116 dX1_readClause_96 (fun c96 => ?_) (fun c96 => absurd (by decide) c96)
      refine aw_iconst B 0 (by decide) dX1_readClause_116 ?_
      refine aw_iret B rfl rfl dX1_readClause_117 ?_
      exact ⟨_, rfl, by rw [gw]; rfl, rfl⟩
    · have gw : (figP tp e s).2.2.1 = false := by rw [gw]; exact decide_eq_false hD
      refine aw_aload_n B 0 rfl dX1_readClause_88 rfl ?_
      refine aw_callV B 0 0 (s_readNumber _ _ _ k t SF NF tf tp e s T hw hs) co_X1_readNumber k_X1_99 dX1_readClause_89 hC_o rfl rfl rfl rfl (Nat.le_of_ble_eq_true rfl) (zrm hr (by omega)) (Nat.le_refl _) (Nat.le_refl _) (kI fun r89 h89 hp89 => ?_)
      obtain ⟨rfl, rfl⟩ := hp89
      rw [if_neg hD]
      refine aw_istore4 B dX1_readClause_92 ?_
      refine aw_iload B dX1_readClause_94 rfl ?_
      refine aw_if_lt B 116 dX1_readClause_96 (fun c96 => absurd c96 (Int32.not_lt.mpr (nI_pos' (by omega)))) (fun c96 => ?_)
      refine aw_aload_n B 0 rfl dX1_readClause_99 rfl ?_
      refine aw_bipush B 32 (by decide) dX1_readClause_100 ?_
      refine aw_callV B 0 0 (s_skip _ _ _ k t SF NF tf tp e ((figP tp e s).2) 32 T g3) co_X1_skip k_X1_76 dX1_readClause_102 hC_o rfl rfl rfl rfl (Nat.le_of_ble_eq_true rfl) (zrm hr (by omega)) (Nat.le_refl _) (Nat.le_refl _) (kI fun r102 h102 hp102 => ?_)
      obtain ⟨rfl, rfl⟩ := hp102
      refine aw_if_eq B 116 dX1_readClause_105 (fun c105 => ?_) (fun c105 => ?_)
      · refine aw_iconst B 0 (by decide) dX1_readClause_116 ?_
        refine aw_iret B rfl rfl dX1_readClause_117 ?_
        have et : muR tp e x s = bad (figP tp e s).2 := by
          unfold muR
          rw [show mustP tp e 32 (figP tp e s).2 = bad (figP tp e s).2 from by unfold mustP; rw [if_neg (by rw [gw]; decide), if_neg (sk_m c105)], (so_gd (tp := tp) (fac_gd tp e 5)).1 _ rfl, em_t rfl]
        exact ⟨_, rfl, by rw [et]; rfl, by rw [if_neg (sk_m c105), et]; rfl⟩
      · have hlt : (figP tp e s).2.1 + 1 ≤ e := hr_lt (s := (figP tp e s).2) (sk_h c105) (by decide)
        have ea : (adv (figP tp e s).2) = ((figP tp e s).2.1 + 1, false, (figP tp e s).2.2.2) := by
          show ((figP tp e s).2.1 + 1, (figP tp e s).2.2.1, (figP tp e s).2.2.2) = _
          rw [gw]
        obtain ⟨q1, q2, q3⟩ := gd_ok1 (so_gd (tp := tp) (fac_gd tp e 5)) (p := (figP tp e s).2.1) (P := (figP tp e s).2.2.2) hlt (by rw [g4]; omega)
        rw [← ea] at q1 q2 q3
        rw [if_pos (sk_h c105)]
        refine aw_aload_n B 0 rfl dX1_readClause_108 rfl ?_
        refine aw_iconst B 0 (by decide) dX1_readClause_109 ?_
        refine aw_callV B 0 0 (s_rdE T (by omega) (fac_gd tp e 5) (s_readF _ _ _ k t SF NF tf tp e T 5 0 rfl) (adv (figP tp e s).2) gw hlt (by show (figP tp e s).2.2.2.length ≤ (figP tp e s).2.1 + 1; rw [g4]; omega)) co_X1_readE k_X1_102 dX1_readClause_110 hC_o rfl rfl rfl rfl (Nat.le_of_ble_eq_true rfl) (zrm hr (by omega)) (Nat.le_refl _) (Nat.le_refl _) (kI fun r110 h110 hp110 => ?_)
        obtain ⟨rfl, rfl⟩ := hp110
        refine aw_if_ne B 118 dX1_readClause_113 (fun c113 => ?_) (fun c113 => ?_)
        · refine aw_aload_n B 0 rfl dX1_readClause_118 rfl ?_
          refine aw_iload_n B 2 rfl dX1_readClause_119 rfl ?_
          refine aw_iload B dX1_readClause_120 rfl ?_
          refine aw_callV B 0 0 (s_addStep _ _ _ k t SF NF tf ((soP tp e (facP tp e 5) (adv (figP tp e s).2))) (x, (figP tp e s).1) _ _ (by omega) rfl rfl) co_X1_addStep k_X1_105 dX1_readClause_122 hC_o rfl rfl rfl rfl (Nat.le_of_ble_eq_true rfl) (zrm hr (by omega)) (Nat.le_refl _) (Nat.le_refl _) (kV fun h122 hp122 => ?_)
          subst hp122
          refine aw_iconst B 1 (by decide) dX1_readClause_125 ?_
          refine aw_iret B rfl rfl dX1_readClause_126 ?_
          have hq := bn_f c113
          have et : muR tp e x s = ((soP tp e (facP tp e 5) (adv (figP tp e s).2)).1, false, (soP tp e (facP tp e 5) (adv (figP tp e s).2)).2.2 ++ [(x, (figP tp e s).1)]) := by
            unfold muR
            rw [show mustP tp e 32 (figP tp e s).2 = (adv (figP tp e s).2) from by unfold mustP; rw [if_neg (by rw [gw]; decide), if_pos (sk_h c105)], em_f hq]
          exact ⟨_, rfl, by rw [et]; rfl, by rw [et]⟩
        · refine aw_iconst B 0 (by decide) dX1_readClause_116 ?_
          refine aw_iret B rfl rfl dX1_readClause_117 ?_
          have hq := bn_t c113
          have et : muR tp e x s = (soP tp e (facP tp e 5) (adv (figP tp e s).2)) := by
            unfold muR
            rw [show mustP tp e 32 (figP tp e s).2 = (adv (figP tp e s).2) from by unfold mustP; rw [if_neg (by rw [gw]; decide), if_pos (sk_h c105)], em_t hq]
          exact ⟨_, rfl, by rw [et, hq]; rfl, by rw [et]⟩
  have r58 : ∀ (x i : Nat) (c : Int32), i < 5 → ∀ (f j : Nat) (s : pst), j + f = zLen.getD i 0 → s.2.1 = false → s.1 ≤ e → s.2.2.length ≤ s.1 → AW X 0 0 58 [some (.ref k), some (.int c), some (.int (nI x)), some (.ref (sA (zXg X) i)), some (.int (nI j))] [] (hC (zXg X) h k t SF NF tf s) (zI fun r h' => r = b2 (!(muR tp e x (spP tp e ((zByt.getD i []).drop j) s)).2.1) ∧ h' = hC (zXg X) h k t SF NF tf (muR tp e x (spP tp e ((zByt.getD i []).drop j) s))) := by
    intro x i c hi f
    have hz := zB_len i hi
    induction f with
    | zero =>
      intro j s hj hw hs hl
      rw [drop_end hi (by omega)]
      refine aw_iload B dX1_readClause_58 rfl ?_
      refine aw_aload_n B 3 rfl dX1_readClause_60 rfl ?_
      refine aw_callStr B 0 0 (s_length _ _ _ i hi) co_J0_length_8abf5 k_X1_90 dX1_readClause_61 hi rfl rfl rfl (Nat.le_of_ble_eq_true rfl) (zrm hr (by omega)) (Nat.le_refl _) (Nat.le_refl _) (kI fun rr hh hq => ?_)
      obtain ⟨rfl, rfl⟩ := hq
      refine aw_icmp_ge B 88 dX1_readClause_64 (fun c64 => ?_) (fun c64 => absurd (nI_le (by omega) (by omega)) c64)
      exact r88 x i c _ s hw hs hl
    | succ f ih =>
      intro j s hj hw hs hl
      have hk : j < zLen.getD i 0 := by omega
      rw [drop_ch hi hk]
      refine aw_iload B dX1_readClause_58 rfl ?_
      refine aw_aload_n B 3 rfl dX1_readClause_60 rfl ?_
      refine aw_callStr B 0 0 (s_length _ _ _ i hi) co_J0_length_8abf5 k_X1_90 dX1_readClause_61 hi rfl rfl rfl (Nat.le_of_ble_eq_true rfl) (zrm hr (by omega)) (Nat.le_refl _) (Nat.le_refl _) (kI fun rr hh hq => ?_)
      obtain ⟨rfl, rfl⟩ := hq
      refine aw_icmp_ge B 88 dX1_readClause_64 (fun c64 => absurd c64 (Int32.not_le.mpr (nI_lt hk (by omega)))) (fun c64 => ?_)
      refine aw_aload_n B 0 rfl dX1_readClause_67 rfl ?_
      refine aw_aload_n B 3 rfl dX1_readClause_68 rfl ?_
      refine aw_iload B dX1_readClause_69 rfl ?_
      refine aw_callStr B 0 0 (s_charAt _ _ _ i j hi hk) co_J0_charAt_5068e k_X1_95 dX1_readClause_71 hi rfl rfl rfl (Nat.le_of_ble_eq_true rfl) (zrm hr (by omega)) (Nat.le_refl _) (Nat.le_refl _) (kI fun rr hh hq => ?_)
      obtain ⟨rfl, rfl⟩ := hq
      refine aw_callV B 0 0 (s_skip _ _ _ k t SF NF tf tp e (s) (sCh i j) T hs) co_X1_skip k_X1_76 dX1_readClause_74 hC_o rfl rfl rfl rfl (Nat.le_of_ble_eq_true rfl) (zrm hr (by omega)) (Nat.le_refl _) (Nat.le_refl _) (kI fun r74 h74 hp74 => ?_)
      obtain ⟨rfl, rfl⟩ := hp74
      refine aw_if_ne B 82 dX1_readClause_77 (fun c77 => ?_) (fun c77 => ?_)
      · refine aw_iinc4 B 1 (by decide) dX1_readClause_82 ?_
        refine aw_goto B 58 dX1_readClause_85 ?_
        have hlt : s.1 + 1 ≤ e := hr_lt (s := s) (sk_h c77) (sCh_ne hi hk)
        rw [nI_1, if_pos (sk_h c77), show spP tp e (sCh i j :: ((zByt.getD i []).drop (j + 1))) s = spP tp e ((zByt.getD i []).drop (j + 1)) (adv s) from by
          show spP tp e _ (mustP tp e (sCh i j) s) = _
          rw [show mustP tp e (sCh i j) s = adv s from by unfold mustP; rw [if_neg (by rw [hw]; decide), if_pos (sk_h c77)]]]
        exact ih (j + 1) (adv s) (by omega) hw hlt (by show s.2.2.length ≤ s.1 + 1; omega)
      · refine aw_iconst B 0 (by decide) dX1_readClause_80 ?_
        refine aw_iret B rfl rfl dX1_readClause_81 ?_
        have et : spP tp e (sCh i j :: ((zByt.getD i []).drop (j + 1))) s = bad s := by
          show spP tp e _ (mustP tp e (sCh i j) s) = bad s
          rw [show mustP tp e (sCh i j) s = bad s from by unfold mustP; rw [if_neg (by rw [hw]; decide), if_neg (sk_m c77)], sp_w _ rfl]
        exact ⟨_, rfl, by rw [et, muR_w rfl]; rfl, by rw [if_neg (sk_m c77), et, muR_w rfl]; rfl⟩
  by_cases h1 : hre tp e s = 115
  · rw [show clP tp e s = muR tp e 12 (spP tp e ((zByt.getD 0 []).drop 0) s) from by unfold clP; rw [if_neg (by rw [hw]; decide), if_pos h1]; rfl]
    refine aw_aload_n B 0 rfl dX1_readClause_0 rfl ?_
    refine aw_callV B 0 0 (s_signHere _ _ _ k t SF NF tf tp e s T hs) co_X1_signHere k_X1_80 dX1_readClause_1 hC_o rfl rfl rfl rfl (Nat.le_of_ble_eq_true rfl) (zrm hr (by omega)) (Nat.le_refl _) (Nat.le_refl _) (kI fun r1 h1 hp1 => ?_)
    obtain ⟨rfl, rfl⟩ := hp1
    refine aw_istore1 B dX1_readClause_4 ?_
    refine aw_iload_n B 1 rfl dX1_readClause_5 rfl ?_
    refine aw_bipush B 115 (by decide) dX1_readClause_6 ?_
    refine aw_icmp_ne B 16 dX1_readClause_8 (fun c8 => absurd h1 c8) (fun c8 => ?_)
    refine aw_bipush B 12 (by decide) dX1_readClause_11 ?_
    refine aw_goto B 29 dX1_readClause_13 ?_
    refine aw_istore2 B dX1_readClause_29 ?_
    refine aw_iload_n B 2 rfl dX1_readClause_30 rfl ?_
    refine aw_bipush B 12 (by decide) dX1_readClause_31 ?_
    refine aw_icmp_ne B 41 dX1_readClause_33 (fun c33 => absurd rfl c33) (fun c33 => ?_)
    refine aw_ldcS (i := 0) (tx := "swell ") B (by show ("LowWater$Cave", _, _, _) ∈ zSR; simp [zSR]) dX1_readClause_36 ?_
    refine aw_goto B 54 dX1_readClause_38 ?_
    refine aw_astore3 B dX1_readClause_54 ?_
    refine aw_iconst B 0 (by decide) dX1_readClause_55 ?_
    refine aw_istore4 B dX1_readClause_56 ?_
    exact r58 12 0 _ (by decide) _ 0 s (Nat.zero_add _) hw hs hl
  by_cases h2 : hre tp e s = 101
  · rw [show clP tp e s = muR tp e 13 (spP tp e ((zByt.getD 1 []).drop 0) s) from by unfold clP; rw [if_neg (by rw [hw]; decide), if_neg h1, if_pos h2]; rfl]
    refine aw_aload_n B 0 rfl dX1_readClause_0 rfl ?_
    refine aw_callV B 0 0 (s_signHere _ _ _ k t SF NF tf tp e s T hs) co_X1_signHere k_X1_80 dX1_readClause_1 hC_o rfl rfl rfl rfl (Nat.le_of_ble_eq_true rfl) (zrm hr (by omega)) (Nat.le_refl _) (Nat.le_refl _) (kI fun r1 h1 hp1 => ?_)
    obtain ⟨rfl, rfl⟩ := hp1
    refine aw_istore1 B dX1_readClause_4 ?_
    refine aw_iload_n B 1 rfl dX1_readClause_5 rfl ?_
    refine aw_bipush B 115 (by decide) dX1_readClause_6 ?_
    refine aw_icmp_ne B 16 dX1_readClause_8 (fun c8 => ?_) (fun c8 => absurd c8 h1)
    refine aw_iload_n B 1 rfl dX1_readClause_16 rfl ?_
    refine aw_bipush B 101 (by decide) dX1_readClause_17 ?_
    refine aw_icmp_ne B 27 dX1_readClause_19 (fun c19 => absurd h2 c19) (fun c19 => ?_)
    refine aw_bipush B 13 (by decide) dX1_readClause_22 ?_
    refine aw_goto B 29 dX1_readClause_24 ?_
    refine aw_istore2 B dX1_readClause_29 ?_
    refine aw_iload_n B 2 rfl dX1_readClause_30 rfl ?_
    refine aw_bipush B 12 (by decide) dX1_readClause_31 ?_
    refine aw_icmp_ne B 41 dX1_readClause_33 (fun c33 => ?_) (fun c33 => absurd c33 (by decide))
    refine aw_iload_n B 2 rfl dX1_readClause_41 rfl ?_
    refine aw_bipush B 13 (by decide) dX1_readClause_42 ?_
    refine aw_icmp_ne B 52 dX1_readClause_44 (fun c44 => absurd rfl c44) (fun c44 => ?_)
    refine aw_ldcS (i := 1) (tx := "ebb ") B (by show ("LowWater$Cave", _, _, _) ∈ zSR; simp [zSR]) dX1_readClause_47 ?_
    refine aw_goto B 54 dX1_readClause_49 ?_
    refine aw_astore3 B dX1_readClause_54 ?_
    refine aw_iconst B 0 (by decide) dX1_readClause_55 ?_
    refine aw_istore4 B dX1_readClause_56 ?_
    exact r58 13 1 _ (by decide) _ 0 s (Nat.zero_add _) hw hs hl
  rw [show clP tp e s = muR tp e 14 (spP tp e ((zByt.getD 2 []).drop 0) s) from cl_else hw h1 h2]
  refine aw_aload_n B 0 rfl dX1_readClause_0 rfl ?_
  refine aw_callV B 0 0 (s_signHere _ _ _ k t SF NF tf tp e s T hs) co_X1_signHere k_X1_80 dX1_readClause_1 hC_o rfl rfl rfl rfl (Nat.le_of_ble_eq_true rfl) (zrm hr (by omega)) (Nat.le_refl _) (Nat.le_refl _) (kI fun r1 h1 hp1 => ?_)
  obtain ⟨rfl, rfl⟩ := hp1
  refine aw_istore1 B dX1_readClause_4 ?_
  refine aw_iload_n B 1 rfl dX1_readClause_5 rfl ?_
  refine aw_bipush B 115 (by decide) dX1_readClause_6 ?_
  refine aw_icmp_ne B 16 dX1_readClause_8 (fun c8 => ?_) (fun c8 => absurd c8 h1)
  refine aw_iload_n B 1 rfl dX1_readClause_16 rfl ?_
  refine aw_bipush B 101 (by decide) dX1_readClause_17 ?_
  refine aw_icmp_ne B 27 dX1_readClause_19 (fun c19 => ?_) (fun c19 => absurd c19 h2)
  refine aw_bipush B 14 (by decide) dX1_readClause_27 ?_
  refine aw_istore2 B dX1_readClause_29 ?_
  refine aw_iload_n B 2 rfl dX1_readClause_30 rfl ?_
  refine aw_bipush B 12 (by decide) dX1_readClause_31 ?_
  refine aw_icmp_ne B 41 dX1_readClause_33 (fun c33 => ?_) (fun c33 => absurd c33 (by decide))
  refine aw_iload_n B 2 rfl dX1_readClause_41 rfl ?_
  refine aw_bipush B 13 (by decide) dX1_readClause_42 ?_
  refine aw_icmp_ne B 52 dX1_readClause_44 (fun c44 => ?_) (fun c44 => absurd c44 (by decide))
  refine aw_ldcS (i := 2) (tx := "wave ") B (by show ("LowWater$Cave", _, _, _) ∈ zSR; simp [zSR]) dX1_readClause_52 ?_
  refine aw_astore3 B dX1_readClause_54 ?_
  refine aw_iconst B 0 (by decide) dX1_readClause_55 ?_
  refine aw_istore4 B dX1_readClause_56 ?_
  exact r58 14 2 _ (by decide) _ 0 s (Nat.zero_add _) hw hs hl
theorem dX1_read_0 : decode cX1_read 0 = .ok (.aload_n 0, 1) := by decide +kernel
theorem dX1_read_1 : decode cX1_read 1 = .ok (.aload_n 1, 1) := by decide +kernel
theorem dX1_read_2 : decode cX1_read 2 = .ok (.putfield 25, 3) := by decide +kernel
theorem dX1_read_5 : decode cX1_read 5 = .ok (.aload_n 0, 1) := by decide +kernel
theorem dX1_read_6 : decode cX1_read 6 = .ok (.iconst 0, 1) := by decide +kernel
theorem dX1_read_7 : decode cX1_read 7 = .ok (.putfield 29, 3) := by decide +kernel
theorem dX1_read_10 : decode cX1_read 10 = .ok (.aload_n 0, 1) := by decide +kernel
theorem dX1_read_11 : decode cX1_read 11 = .ok (.iconst 0, 1) := by decide +kernel
theorem dX1_read_12 : decode cX1_read 12 = .ok (.putfield 18, 3) := by decide +kernel
theorem dX1_read_15 : decode cX1_read 15 = .ok (.aload_n 0, 1) := by decide +kernel
theorem dX1_read_16 : decode cX1_read 16 = .ok (.getfield 22, 3) := by decide +kernel
theorem dX1_read_19 : decode cX1_read 19 = .ok (.iconst 0, 1) := by decide +kernel
theorem dX1_read_20 : decode cX1_read 20 = .ok (.invokestatic 63, 3) := by decide +kernel
theorem dX1_read_23 : decode cX1_read 23 = .ok (.iconst 0, 1) := by decide +kernel
theorem dX1_read_24 : decode cX1_read 24 = .ok (.istore_n 2, 1) := by decide +kernel
theorem dX1_read_25 : decode cX1_read 25 = .ok (.iload_n 2, 1) := by decide +kernel
theorem dX1_read_26 : decode cX1_read 26 = .ok (.bipush 10, 2) := by decide +kernel
theorem dX1_read_28 : decode cX1_read 28 = .ok (.if_icmp .ge 54, 3) := by decide +kernel
theorem dX1_read_31 : decode cX1_read 31 = .ok (.aload_n 0, 1) := by decide +kernel
theorem dX1_read_32 : decode cX1_read 32 = .ok (.invokevirtual 69, 3) := by decide +kernel
theorem dX1_read_35 : decode cX1_read 35 = .ok (.ifCond .ne 8, 3) := by decide +kernel
theorem dX1_read_38 : decode cX1_read 38 = .ok (.aload_n 0, 1) := by decide +kernel
theorem dX1_read_39 : decode cX1_read 39 = .ok (.getfield 29, 3) := by decide +kernel
theorem dX1_read_42 : decode cX1_read 42 = .ok (.ireturn, 1) := by decide +kernel
theorem dX1_read_43 : decode cX1_read 43 = .ok (.aload_n 0, 1) := by decide +kernel
theorem dX1_read_44 : decode cX1_read 44 = .ok (.getfield 29, 3) := by decide +kernel
theorem dX1_read_47 : decode cX1_read 47 = .ok (.aload_n 1, 1) := by decide +kernel
theorem dX1_read_48 : decode cX1_read 48 = .ok (.getfield 73, 3) := by decide +kernel
theorem dX1_read_51 : decode cX1_read 51 = .ok (.if_icmp .ne 5, 3) := by decide +kernel
theorem dX1_read_54 : decode cX1_read 54 = .ok (.iconst (-1), 1) := by decide +kernel
theorem dX1_read_55 : decode cX1_read 55 = .ok (.ireturn, 1) := by decide +kernel
theorem dX1_read_56 : decode cX1_read 56 = .ok (.iload_n 2, 1) := by decide +kernel
theorem dX1_read_57 : decode cX1_read 57 = .ok (.bipush 9, 2) := by decide +kernel
theorem dX1_read_59 : decode cX1_read 59 = .ok (.if_icmp .eq 12, 3) := by decide +kernel
theorem dX1_read_62 : decode cX1_read 62 = .ok (.aload_n 0, 1) := by decide +kernel
theorem dX1_read_63 : decode cX1_read 63 = .ok (.bipush 59, 2) := by decide +kernel
theorem dX1_read_65 : decode cX1_read 65 = .ok (.invokevirtual 76, 3) := by decide +kernel
theorem dX1_read_68 : decode cX1_read 68 = .ok (.ifCond .ne 8, 3) := by decide +kernel
theorem dX1_read_71 : decode cX1_read 71 = .ok (.aload_n 0, 1) := by decide +kernel
theorem dX1_read_72 : decode cX1_read 72 = .ok (.getfield 29, 3) := by decide +kernel
theorem dX1_read_75 : decode cX1_read 75 = .ok (.ireturn, 1) := by decide +kernel
theorem dX1_read_76 : decode cX1_read 76 = .ok (.iinc 2 1, 3) := by decide +kernel
theorem dX1_read_79 : decode cX1_read 79 = .ok (.goto (-54), 3) := by decide +kernel
theorem dX1_read_82 : decode cX1_read 82 = .ok (.aload_n 0, 1) := by decide +kernel
theorem dX1_read_83 : decode cX1_read 83 = .ok (.getfield 29, 3) := by decide +kernel
theorem dX1_read_86 : decode cX1_read 86 = .ok (.ireturn, 1) := by decide +kernel
set_option maxRecDepth 100000 in
set_option maxHeartbeats 4000000 in
theorem s_read (l : Launch) (g : zG) (h : Hp) (k t : Nat) (SF NF tf tp : Nat → Int32) (e : Nat) (tx : Value) (sz pl : Int32) (T : tRow g h k t tp e) (pk : kvI g h k tx SF NF sz tf pl) : Sp l g yX1_read cX1_read 3 (some .int) (rmz 23) [.ref k, .ref t] (h) (zI fun r h' => r = (if (caP tp e).2.1 = true ∨ ¬ (caP tp e).1 = e then nI (caP tp e).1 else -1) ∧ h' = hC g h k t SF NF (fun i => if i < 840 then 0 else tf i) (caP tp e)) := by
  refine Sp.of [some (.ref k), some (.ref t), none] (by decide) (Nat.le_of_ble_eq_true rfl) rfl rfl ?_
  rintro X rfl hr rfl B
  show AW X 0 0 0 _ _ _ _
  have he := T.2.2
  have lp : ∀ (f i : Nat) (s : pst), i + f = 9 → s.2.1 = false → s.1 ≤ e → s.2.2.length ≤ s.1 → AW X 0 0 25 [some (.ref k), some (.ref t), some (.int (nI i))] [] (hC (zXg X) h k t SF NF (fun i => if i < 840 then 0 else tf i) s) (zI fun r h' => r = (if (caF tp e f (clP tp e s)).2.1 = true ∨ ¬ (caF tp e f (clP tp e s)).1 = e then nI (caF tp e f (clP tp e s)).1 else -1) ∧ h' = hC (zXg X) h k t SF NF (fun i => if i < 840 then 0 else tf i) (caF tp e f (clP tp e s))) := by
    intro f
    induction f with
    | zero =>
      intro i s hi hw hs hl
      obtain rfl : i = 9 := by omega
      obtain ⟨q1, q2, q3⟩ := gd_ok (cl_gd tp e) hs hl
      refine aw_iload_n B 2 rfl dX1_read_25 rfl ?_
      refine aw_bipush B 10 (by decide) dX1_read_26 ?_
      refine aw_icmp_ge B 82 dX1_read_28 (fun c28 => absurd c28 (by decide)) (fun c28 => ?_)
      refine aw_aload_n B 0 rfl dX1_read_31 rfl ?_
      refine aw_callV B 0 0 (s_readClause _ _ _ k t SF NF (fun i => if i < 840 then 0 else tf i) tp e s T hw hs hl) co_X1_readClause k_X1_69 dX1_read_32 hC_o rfl rfl rfl rfl (Nat.le_of_ble_eq_true rfl) (zrm hr (by omega)) (Nat.le_refl _) (Nat.le_refl _) (kI fun r32 h32 hp32 => ?_)
      obtain ⟨rfl, rfl⟩ := hp32
      refine aw_if_ne B 43 dX1_read_35 (fun c35 => ?_) (fun c35 => ?_)
      · refine aw_aload_n B 0 rfl dX1_read_43 rfl ?_
        refine aw_get B f_X1_29 dX1_read_44 hC_o rfl ?_
        refine aw_aload_n B 1 rfl dX1_read_47 rfl ?_
        refine aw_get B f_X1_73 dX1_read_48 (hC_t0 T) rfl ?_
        refine aw_icmp_ne B 56 dX1_read_51 (fun c51 => ?_) (fun c51 => ?_)
        · refine aw_iload_n B 2 rfl dX1_read_56 rfl ?_
          refine aw_bipush B 9 (by decide) dX1_read_57 ?_
          refine aw_icmp_eq B 71 dX1_read_59 (fun c59 => ?_) (fun c59 => absurd rfl c59)
          refine aw_aload_n B 0 rfl dX1_read_71 rfl ?_
          refine aw_get B f_X1_29 dX1_read_72 hC_o rfl ?_
          refine aw_iret B rfl rfl dX1_read_75 ?_
          have pe : ¬ (clP tp e s).1 = e := fun z => c51 (by rw [z])
          have et : caF tp e 0 (clP tp e s) = (clP tp e s) := rfl
          exact ⟨_, rfl, by rw [et, if_pos (Or.inr pe)], by rw [et]⟩
        · refine aw_iconst B (-1) (by decide) dX1_read_54 ?_
          refine aw_iret B rfl rfl dX1_read_55 ?_
          have pe : (clP tp e s).1 = e := Decidable.of_not_not fun z => nI_ne (by omega) (by omega) z c51
          have et : caF tp e 0 (clP tp e s) = (clP tp e s) := rfl
          exact ⟨_, rfl, by rw [et, if_neg (fun z => z.elim (by rw [bn_f c35]; decide) (fun z => z pe))], by rw [et]⟩
      · refine aw_aload_n B 0 rfl dX1_read_38 rfl ?_
        refine aw_get B f_X1_29 dX1_read_39 hC_o rfl ?_
        refine aw_iret B rfl rfl dX1_read_42 ?_
        have et : caF tp e 0 (clP tp e s) = (clP tp e s) := rfl
        exact ⟨_, rfl, by rw [et, if_pos (Or.inl (bn_t c35))], by rw [et]⟩
    | succ f ih =>
      intro i s hi hw hs hl
      obtain ⟨q1, q2, q3⟩ := gd_ok (cl_gd tp e) hs hl
      refine aw_iload_n B 2 rfl dX1_read_25 rfl ?_
      refine aw_bipush B 10 (by decide) dX1_read_26 ?_
      refine aw_icmp_ge B 82 dX1_read_28 (fun c28 => absurd c28 (Int32.not_le.mpr (show nI i < nI 10 from nI_lt (by omega) (by decide)))) (fun c28 => ?_)
      refine aw_aload_n B 0 rfl dX1_read_31 rfl ?_
      refine aw_callV B 0 0 (s_readClause _ _ _ k t SF NF (fun i => if i < 840 then 0 else tf i) tp e s T hw hs hl) co_X1_readClause k_X1_69 dX1_read_32 hC_o rfl rfl rfl rfl (Nat.le_of_ble_eq_true rfl) (zrm hr (by omega)) (Nat.le_refl _) (Nat.le_refl _) (kI fun r32 h32 hp32 => ?_)
      obtain ⟨rfl, rfl⟩ := hp32
      refine aw_if_ne B 43 dX1_read_35 (fun c35 => ?_) (fun c35 => ?_)
      · refine aw_aload_n B 0 rfl dX1_read_43 rfl ?_
        refine aw_get B f_X1_29 dX1_read_44 hC_o rfl ?_
        refine aw_aload_n B 1 rfl dX1_read_47 rfl ?_
        refine aw_get B f_X1_73 dX1_read_48 (hC_t0 T) rfl ?_
        refine aw_icmp_ne B 56 dX1_read_51 (fun c51 => ?_) (fun c51 => ?_)
        · refine aw_iload_n B 2 rfl dX1_read_56 rfl ?_
          refine aw_bipush B 9 (by decide) dX1_read_57 ?_
          refine aw_icmp_eq B 71 dX1_read_59 (fun c59 => absurd c59 (show ¬ nI i = nI 9 from nI_ne (by omega) (by decide) (by omega))) (fun c59 => ?_)
          refine aw_aload_n B 0 rfl dX1_read_62 rfl ?_
          refine aw_bipush B 59 (by decide) dX1_read_63 ?_
          refine aw_callV B 0 0 (s_skip _ _ _ k t SF NF (fun i => if i < 840 then 0 else tf i) tp e (clP tp e s) 59 T q1) co_X1_skip k_X1_76 dX1_read_65 hC_o rfl rfl rfl rfl (Nat.le_of_ble_eq_true rfl) (zrm hr (by omega)) (Nat.le_refl _) (Nat.le_refl _) (kI fun r65 h65 hp65 => ?_)
          obtain ⟨rfl, rfl⟩ := hp65
          refine aw_if_ne B 76 dX1_read_68 (fun c68 => ?_) (fun c68 => ?_)
          · refine aw_iinc2 B 1 (by decide) dX1_read_76 ?_
            refine aw_goto B 25 dX1_read_79 ?_
            have hlt : (clP tp e s).1 + 1 ≤ e := hr_lt (s := (clP tp e s)) (sk_h c68) (by decide)
            rw [nI_1, if_pos (sk_h c68), show caF tp e (f + 1) (clP tp e s) = caF tp e f (clP tp e (adv (clP tp e s))) from by rw [caF, if_neg (by rw [bn_f c35]; decide), if_pos (sk_h c68)]]
            exact ih (i + 1) (adv (clP tp e s)) (by omega) (bn_f c35) hlt (by show (clP tp e s).2.2.length ≤ (clP tp e s).1 + 1; omega)
          · refine aw_aload_n B 0 rfl dX1_read_71 rfl ?_
            refine aw_get B f_X1_29 dX1_read_72 hC_o rfl ?_
            refine aw_iret B rfl rfl dX1_read_75 ?_
            have pe : ¬ (clP tp e s).1 = e := fun z => c51 (by rw [z])
            have et : caF tp e (f + 1) (clP tp e s) = (clP tp e s) := by rw [caF, if_neg (by rw [bn_f c35]; decide), if_neg (sk_m c68)]
            exact ⟨_, rfl, by rw [if_neg (sk_m c68), et, if_pos (Or.inr pe)], by rw [if_neg (sk_m c68), et]⟩
        · refine aw_iconst B (-1) (by decide) dX1_read_54 ?_
          refine aw_iret B rfl rfl dX1_read_55 ?_
          have pe : (clP tp e s).1 = e := Decidable.of_not_not fun z => nI_ne (by omega) (by omega) z c51
          have et : caF tp e (f + 1) (clP tp e s) = (clP tp e s) := by rw [caF, if_neg (by rw [bn_f c35]; decide), if_neg (by unfold hre; rw [if_neg (by omega)]; decide)]
          exact ⟨_, rfl, by rw [et, if_neg (fun z => z.elim (by rw [bn_f c35]; decide) (fun z => z pe))], by rw [et]⟩
      · refine aw_aload_n B 0 rfl dX1_read_38 rfl ?_
        refine aw_get B f_X1_29 dX1_read_39 hC_o rfl ?_
        refine aw_iret B rfl rfl dX1_read_42 ?_
        have et : caF tp e (f + 1) (clP tp e s) = (clP tp e s) := by rw [caF, if_pos (bn_t c35)]
        exact ⟨_, rfl, by rw [et, if_pos (Or.inl (bn_t c35))], by rw [et]⟩
  suffices key : AW X 0 0 0 [some (.ref k), some (.ref t), none] [] (hK (zXg X) h k tx SF NF sz tf pl) (zI fun r h' => r = (if (caP tp e).2.1 = true ∨ ¬ (caP tp e).1 = e then nI (caP tp e).1 else -1) ∧ h' = hC (zXg X) h k t SF NF (fun i => if i < 840 then 0 else tf i) (caP tp e)) by
    rw [hK_id pk] at key
    exact key
  refine aw_aload_n B 0 rfl dX1_read_0 rfl ?_
  refine aw_aload_n B 1 rfl dX1_read_1 rfl ?_
  refine k_ptx B f_X1_25 dX1_read_2 ?_
  refine aw_aload_n B 0 rfl dX1_read_5 rfl ?_
  refine aw_iconst B 0 (by decide) dX1_read_6 ?_
  refine k_ppl B f_X1_29 dX1_read_7 ?_
  refine aw_aload_n B 0 rfl dX1_read_10 rfl ?_
  refine aw_iconst B 0 (by decide) dX1_read_11 ?_
  refine k_psz B f_X1_18 dX1_read_12 ?_
  refine aw_aload_n B 0 rfl dX1_read_15 rfl ?_
  refine aw_get B f_X1_22 dX1_read_16 hK_o rfl ?_
  refine aw_iconst B 0 (by decide) dX1_read_19 ?_
  refine aw_callS B 0 0 (s_fill _ _ _ (k + 3) 840 tf 0 (by decide) hK_3) co_J7_fill_53178 k_X1_63 dX1_read_20 rfl rfl (Nat.le_of_ble_eq_true rfl) (zrm hr (by omega)) (Nat.le_refl _) (Nat.le_refl _) (kV fun h20 hp20 => ?_)
  subst hp20
  rw [k_u3]
  refine aw_iconst B 0 (by decide) dX1_read_23 ?_
  refine aw_istore2 B dX1_read_24 ?_
  have h0 := lp 9 0 (0, false, []) rfl rfl (Nat.zero_le _) (Nat.le_refl _)
  unfold hC at h0
  rw [rS_nil, rS_nil] at h0
  exact h0
