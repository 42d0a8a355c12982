theorem am3_0 {a b c x : Int32} (h : x = a) : am3 a b c x = 0 := by unfold am3; rw [if_pos h]
theorem am3_1 {a b c x : Int32} (h0 : ¬ x = a) (h : x = b) : am3 a b c x = 1 := by unfold am3; rw [if_neg h0, if_pos h]
theorem am3_2 {a b c x : Int32} (h0 : ¬ x = a) (h1 : ¬ x = b) (h : x = c) : am3 a b c x = 2 := by unfold am3; rw [if_neg h0, if_neg h1, if_pos h]
theorem am3_3 {a b c x : Int32} (h0 : ¬ x = a) (h1 : ¬ x = b) (h : ¬ x = c) : am3 a b c x = 3 := by unfold am3; rw [if_neg h0, if_neg h1, if_neg h]
theorem fig_w {tp : Nat → Int32} {e : Nat} {s : pst} (hw : s.2.1 = false) : (figP tp e s).2.2.1 = decide (bI (48 ≤ hre tp e s ∧ hre tp e s ≤ 57) = 0) := by
  unfold figP
  rw [if_neg (by rw [hw]; decide)]
  by_cases h : bI (48 ≤ hre tp e s ∧ hre tp e s ≤ 57) = 0
  · rw [if_pos h]; simp [bad, h]
  · rw [if_neg h]
    simp only [h, decide_false]
    split
    · exact hw
    · split
      · exact hw
      · exact hw
theorem fac_0 {tp : Nat → Int32} {e : Nat} {s : pst} (hw : s.2.1 = false) : facP tp e 0 s = testP tp e s := by
  rw [facP, if_neg (by rw [hw]; decide)]
  by_cases h1 : hre tp e s = 33
  · rw [if_pos h1]; unfold testP; rw [h1, if_pos (by decide)]
  · rw [if_neg h1]
    by_cases h2 : hre tp e s = 40
    · rw [if_pos h2]; unfold testP; rw [h2, if_pos (by decide)]
    · rw [if_neg h2]
theorem dX1_readF_0 : decode cX1_readF 0 = .ok (.iload_n 1, 1) := by decide +kernel
theorem dX1_readF_1 : decode cX1_readF 1 = .ok (.iconst 5, 1) := by decide +kernel
theorem dX1_readF_2 : decode cX1_readF 2 = .ok (.if_icmp .ge 33, 3) := by decide +kernel
theorem dX1_readF_5 : decode cX1_readF 5 = .ok (.aload_n 0, 1) := by decide +kernel
theorem dX1_readF_6 : decode cX1_readF 6 = .ok (.bipush 33, 2) := by decide +kernel
theorem dX1_readF_8 : decode cX1_readF 8 = .ok (.invokevirtual 76, 3) := by decide +kernel
theorem dX1_readF_11 : decode cX1_readF 11 = .ok (.ifCond .eq 24, 3) := by decide +kernel
theorem dX1_readF_14 : decode cX1_readF 14 = .ok (.aload_n 0, 1) := by decide +kernel
theorem dX1_readF_15 : decode cX1_readF 15 = .ok (.iload_n 1, 1) := by decide +kernel
theorem dX1_readF_16 : decode cX1_readF 16 = .ok (.iconst 1, 1) := by decide +kernel
theorem dX1_readF_17 : decode cX1_readF 17 = .ok (.iadd, 1) := by decide +kernel
theorem dX1_readF_18 : decode cX1_readF 18 = .ok (.invokevirtual 112, 3) := by decide +kernel
theorem dX1_readF_21 : decode cX1_readF 21 = .ok (.ifCond .ne 5, 3) := by decide +kernel
theorem dX1_readF_24 : decode cX1_readF 24 = .ok (.iconst 0, 1) := by decide +kernel
theorem dX1_readF_25 : decode cX1_readF 25 = .ok (.ireturn, 1) := by decide +kernel
theorem dX1_readF_26 : decode cX1_readF 26 = .ok (.aload_n 0, 1) := by decide +kernel
theorem dX1_readF_27 : decode cX1_readF 27 = .ok (.bipush 9, 2) := by decide +kernel
theorem dX1_readF_29 : decode cX1_readF 29 = .ok (.iconst 0, 1) := by decide +kernel
theorem dX1_readF_30 : decode cX1_readF 30 = .ok (.invokevirtual 105, 3) := by decide +kernel
theorem dX1_readF_33 : decode cX1_readF 33 = .ok (.iconst 1, 1) := by decide +kernel
theorem dX1_readF_34 : decode cX1_readF 34 = .ok (.ireturn, 1) := by decide +kernel
theorem dX1_readF_35 : decode cX1_readF 35 = .ok (.iload_n 1, 1) := by decide +kernel
theorem dX1_readF_36 : decode cX1_readF 36 = .ok (.iconst 5, 1) := by decide +kernel
theorem dX1_readF_37 : decode cX1_readF 37 = .ok (.if_icmp .ge 37, 3) := by decide +kernel
theorem dX1_readF_40 : decode cX1_readF 40 = .ok (.aload_n 0, 1) := by decide +kernel
theorem dX1_readF_41 : decode cX1_readF 41 = .ok (.bipush 40, 2) := by decide +kernel
theorem dX1_readF_43 : decode cX1_readF 43 = .ok (.invokevirtual 76, 3) := by decide +kernel
theorem dX1_readF_46 : decode cX1_readF 46 = .ok (.ifCond .eq 28, 3) := by decide +kernel
theorem dX1_readF_49 : decode cX1_readF 49 = .ok (.aload_n 0, 1) := by decide +kernel
theorem dX1_readF_50 : decode cX1_readF 50 = .ok (.iload_n 1, 1) := by decide +kernel
theorem dX1_readF_51 : decode cX1_readF 51 = .ok (.iconst 1, 1) := by decide +kernel
theorem dX1_readF_52 : decode cX1_readF 52 = .ok (.iadd, 1) := by decide +kernel
theorem dX1_readF_53 : decode cX1_readF 53 = .ok (.invokevirtual 102, 3) := by decide +kernel
theorem dX1_readF_56 : decode cX1_readF 56 = .ok (.ifCond .eq 16, 3) := by decide +kernel
theorem dX1_readF_59 : decode cX1_readF 59 = .ok (.aload_n 0, 1) := by decide +kernel
theorem dX1_readF_60 : decode cX1_readF 60 = .ok (.bipush 41, 2) := by decide +kernel
theorem dX1_readF_62 : decode cX1_readF 62 = .ok (.invokevirtual 76, 3) := by decide +kernel
theorem dX1_readF_65 : decode cX1_readF 65 = .ok (.ifCond .eq 7, 3) := by decide +kernel
theorem dX1_readF_68 : decode cX1_readF 68 = .ok (.iconst 1, 1) := by decide +kernel
theorem dX1_readF_69 : decode cX1_readF 69 = .ok (.goto 4, 3) := by decide +kernel
theorem dX1_readF_72 : decode cX1_readF 72 = .ok (.iconst 0, 1) := by decide +kernel
theorem dX1_readF_73 : decode cX1_readF 73 = .ok (.ireturn, 1) := by decide +kernel
theorem dX1_readF_74 : decode cX1_readF 74 = .ok (.aload_n 0, 1) := by decide +kernel
theorem dX1_readF_75 : decode cX1_readF 75 = .ok (.bipush 104, 2) := by decide +kernel
theorem dX1_readF_77 : decode cX1_readF 77 = .ok (.invokevirtual 76, 3) := by decide +kernel
theorem dX1_readF_80 : decode cX1_readF 80 = .ok (.ifCond .eq 7, 3) := by decide +kernel
theorem dX1_readF_83 : decode cX1_readF 83 = .ok (.iconst 0, 1) := by decide +kernel
theorem dX1_readF_84 : decode cX1_readF 84 = .ok (.goto 30, 3) := by decide +kernel
theorem dX1_readF_87 : decode cX1_readF 87 = .ok (.aload_n 0, 1) := by decide +kernel
theorem dX1_readF_88 : decode cX1_readF 88 = .ok (.bipush 100, 2) := by decide +kernel
theorem dX1_readF_90 : decode cX1_readF 90 = .ok (.invokevirtual 76, 3) := by decide +kernel
theorem dX1_readF_93 : decode cX1_readF 93 = .ok (.ifCond .eq 7, 3) := by decide +kernel
theorem dX1_readF_96 : decode cX1_readF 96 = .ok (.iconst 1, 1) := by decide +kernel
theorem dX1_readF_97 : decode cX1_readF 97 = .ok (.goto 17, 3) := by decide +kernel
theorem dX1_readF_100 : decode cX1_readF 100 = .ok (.aload_n 0, 1) := by decide +kernel
theorem dX1_readF_101 : decode cX1_readF 101 = .ok (.bipush 109, 2) := by decide +kernel
theorem dX1_readF_103 : decode cX1_readF 103 = .ok (.invokevirtual 76, 3) := by decide +kernel
theorem dX1_readF_106 : decode cX1_readF 106 = .ok (.ifCond .eq 7, 3) := by decide +kernel
theorem dX1_readF_109 : decode cX1_readF 109 = .ok (.iconst 2, 1) := by decide +kernel
theorem dX1_readF_110 : decode cX1_readF 110 = .ok (.goto 4, 3) := by decide +kernel
theorem dX1_readF_113 : decode cX1_readF 113 = .ok (.iconst (-1), 1) := by decide +kernel
theorem dX1_readF_114 : decode cX1_readF 114 = .ok (.istore_n 2, 1) := by decide +kernel
theorem dX1_readF_115 : decode cX1_readF 115 = .ok (.iload_n 2, 1) := by decide +kernel
theorem dX1_readF_116 : decode cX1_readF 116 = .ok (.ifCond .ge 5, 3) := by decide +kernel
theorem dX1_readF_119 : decode cX1_readF 119 = .ok (.iconst 0, 1) := by decide +kernel
theorem dX1_readF_120 : decode cX1_readF 120 = .ok (.ireturn, 1) := by decide +kernel
theorem dX1_readF_121 : decode cX1_readF 121 = .ok (.aload_n 0, 1) := by decide +kernel
theorem dX1_readF_122 : decode cX1_readF 122 = .ok (.bipush 60, 2) := by decide +kernel
theorem dX1_readF_124 : decode cX1_readF 124 = .ok (.invokevirtual 76, 3) := by decide +kernel
theorem dX1_readF_127 : decode cX1_readF 127 = .ok (.ifCond .eq 7, 3) := by decide +kernel
theorem dX1_readF_130 : decode cX1_readF 130 = .ok (.iconst 0, 1) := by decide +kernel
theorem dX1_readF_131 : decode cX1_readF 131 = .ok (.goto 30, 3) := by decide +kernel
theorem dX1_readF_134 : decode cX1_readF 134 = .ok (.aload_n 0, 1) := by decide +kernel
theorem dX1_readF_135 : decode cX1_readF 135 = .ok (.bipush 61, 2) := by decide +kernel
theorem dX1_readF_137 : decode cX1_readF 137 = .ok (.invokevirtual 76, 3) := by decide +kernel
theorem dX1_readF_140 : decode cX1_readF 140 = .ok (.ifCond .eq 7, 3) := by decide +kernel
theorem dX1_readF_143 : decode cX1_readF 143 = .ok (.iconst 1, 1) := by decide +kernel
theorem dX1_readF_144 : decode cX1_readF 144 = .ok (.goto 17, 3) := by decide +kernel
theorem dX1_readF_147 : decode cX1_readF 147 = .ok (.aload_n 0, 1) := by decide +kernel
theorem dX1_readF_148 : decode cX1_readF 148 = .ok (.bipush 62, 2) := by decide +kernel
theorem dX1_readF_150 : decode cX1_readF 150 = .ok (.invokevirtual 76, 3) := by decide +kernel
theorem dX1_readF_153 : decode cX1_readF 153 = .ok (.ifCond .eq 7, 3) := by decide +kernel
theorem dX1_readF_156 : decode cX1_readF 156 = .ok (.iconst 2, 1) := by decide +kernel
theorem dX1_readF_157 : decode cX1_readF 157 = .ok (.goto 4, 3) := by decide +kernel
theorem dX1_readF_160 : decode cX1_readF 160 = .ok (.iconst (-1), 1) := by decide +kernel
theorem dX1_readF_161 : decode cX1_readF 161 = .ok (.istore_n 3, 1) := by decide +kernel
theorem dX1_readF_162 : decode cX1_readF 162 = .ok (.iload_n 3, 1) := by decide +kernel
theorem dX1_readF_163 : decode cX1_readF 163 = .ok (.ifCond .ge 5, 3) := by decide +kernel
theorem dX1_readF_166 : decode cX1_readF 166 = .ok (.iconst 0, 1) := by decide +kernel
theorem dX1_readF_167 : decode cX1_readF 167 = .ok (.ireturn, 1) := by decide +kernel
theorem dX1_readF_168 : decode cX1_readF 168 = .ok (.aload_n 0, 1) := by decide +kernel
theorem dX1_readF_169 : decode cX1_readF 169 = .ok (.invokevirtual 99, 3) := by decide +kernel
theorem dX1_readF_172 : decode cX1_readF 172 = .ok (.istore 4, 2) := by decide +kernel
theorem dX1_readF_174 : decode cX1_readF 174 = .ok (.iload 4, 2) := by decide +kernel
theorem dX1_readF_176 : decode cX1_readF 176 = .ok (.ifCond .ge 5, 3) := by decide +kernel
theorem dX1_readF_179 : decode cX1_readF 179 = .ok (.iconst 0, 1) := by decide +kernel
theorem dX1_readF_180 : decode cX1_readF 180 = .ok (.ireturn, 1) := by decide +kernel
theorem dX1_readF_181 : decode cX1_readF 181 = .ok (.aload_n 0, 1) := by decide +kernel
theorem dX1_readF_182 : decode cX1_readF 182 = .ok (.iconst 3, 1) := by decide +kernel
theorem dX1_readF_183 : decode cX1_readF 183 = .ok (.iload_n 2, 1) := by decide +kernel
theorem dX1_readF_184 : decode cX1_readF 184 = .ok (.imul, 1) := by decide +kernel
theorem dX1_readF_185 : decode cX1_readF 185 = .ok (.iload_n 3, 1) := by decide +kernel
theorem dX1_readF_186 : decode cX1_readF 186 = .ok (.iadd, 1) := by decide +kernel
theorem dX1_readF_187 : decode cX1_readF 187 = .ok (.iload 4, 2) := by decide +kernel
theorem dX1_readF_189 : decode cX1_readF 189 = .ok (.invokevirtual 105, 3) := by decide +kernel
theorem dX1_readF_192 : decode cX1_readF 192 = .ok (.iconst 1, 1) := by decide +kernel
theorem dX1_readF_193 : decode cX1_readF 193 = .ok (.ireturn, 1) := by decide +kernel
set_option maxRecDepth 100000 in
set_option maxHeartbeats 4000000 in
theorem s_testF {X : zX} (d o p : Nat) (P : pP) (h : Hp) (k t : Nat) (SF NF tf tp : Nat → Int32) (e : Nat) (T : tRow (zXg X) h k t tp e) (hr : zXr X = rmz (4 + 3 * d)) (B : zB X cX1_readF 5 yX1_readF.cls yX1_readF.name (some .boolean)) (hs : p ≤ e) (hl : P.length ≤ p) : AW X 0 0 74 [some (.ref k), some (.int (nI o)), none, none, none] [] (hC (zXg X) h k t SF NF tf (p, false, P)) (zI fun r h' => r = b2 (!(testP tp e (p, false, P)).2.1) ∧ h' = hC (zXg X) h k t SF NF tf (testP tp e (p, false, P))) := by
  have he := T.2.2
  have t2 : ∀ a b : Nat, a < 3 → b < 3 → p + 1 + 1 ≤ e → AW X 0 0 162 [some (.ref k), some (.int (nI o)), some (.int (nI a)), some (.int (nI b)), none] [] (hC (zXg X) h k t SF NF tf (adv (adv (p, false, P)))) (zI fun r h' => r = b2 (!(emP (3 * a + b, (figP tp e (adv (adv (p, false, P)))).1) (figP tp e (adv (adv (p, false, P)))).2).2.1) ∧ h' = hC (zXg X) h k t SF NF tf (emP (3 * a + b, (figP tp e (adv (adv (p, false, P)))).1) (figP tp e (adv (adv (p, false, P)))).2)) := by
    intro a b ha hb hp2
    obtain ⟨g1, g2, g3, g4, -⟩ := fig_gs (tp := tp) (e := e) (s := (adv (adv (p, false, P)))) hp2
    have g2 : p + 1 + 1 ≤ (figP tp e (adv (adv (p, false, P)))).2.1 := g2
    have g4 : (figP tp e (adv (adv (p, false, P)))).2.2.2 = P := g4
    have gw := fig_w (tp := tp) (e := e) (s := (adv (adv (p, false, P)))) rfl
    by_cases hD : bI (48 ≤ hre tp e (adv (adv (p, false, P))) ∧ hre tp e (adv (adv (p, false, P))) ≤ 57) = 0
    · have gw : (figP tp e (adv (adv (p, false, P)))).2.2.1 = true := by rw [gw]; exact decide_eq_true hD
      rw [em_t gw]
      refine aw_iload_n B 3 rfl dX1_readF_162 rfl ?_
      refine aw_if_ge B 168 dX1_readF_163 (fun c163 => ?_) (fun c163 => absurd (nI_pos' (by omega)) c163)
      refine aw_aload_n B 0 rfl dX1_readF_168 rfl ?_
      refine aw_callV B 0 0 (s_readNumber _ _ _ k t SF NF tf tp e (adv (adv (p, false, P))) T rfl hp2) co_X1_readNumber k_X1_99 dX1_readF_169 hC_o rfl rfl rfl rfl (Nat.le_of_ble_eq_true rfl) (zrm hr (by omega)) (Nat.le_refl _) (Nat.le_refl _) (kI fun r169 h169 hp169 => ?_)
      obtain ⟨rfl, rfl⟩ := hp169
      rw [if_pos hD]
      refine aw_istore4 B dX1_readF_172 ?_
      refine aw_iload B dX1_readF_174 rfl ?_
      refine aw_if_ge B 181 dX1_readF_176 (fun c176 => absurd c176 (by decide)) (fun c176 => ?_)
      refine aw_iconst B 0 (by decide) dX1_readF_179 ?_
      refine aw_iret B rfl rfl dX1_readF_180 ?_
      exact ⟨_, rfl, by rw [gw]; rfl, rfl⟩
    · have gw : (figP tp e (adv (adv (p, false, P)))).2.2.1 = false := by rw [gw]; exact decide_eq_false hD
      rw [em_f gw]
      refine aw_iload_n B 3 rfl dX1_readF_162 rfl ?_
      refine aw_if_ge B 168 dX1_readF_163 (fun c163 => ?_) (fun c163 => absurd (nI_pos' (by omega)) c163)
      refine aw_aload_n B 0 rfl dX1_readF_168 rfl ?_
      refine aw_callV B 0 0 (s_readNumber _ _ _ k t SF NF tf tp e (adv (adv (p, false, P))) T rfl hp2) co_X1_readNumber k_X1_99 dX1_readF_169 hC_o rfl rfl rfl rfl (Nat.le_of_ble_eq_true rfl) (zrm hr (by omega)) (Nat.le_refl _) (Nat.le_refl _) (kI fun r169 h169 hp169 => ?_)
      obtain ⟨rfl, rfl⟩ := hp169
      rw [if_neg hD]
      refine aw_istore4 B dX1_readF_172 ?_
      refine aw_iload B dX1_readF_174 rfl ?_
      refine aw_if_ge B 181 dX1_readF_176 (fun c176 => ?_) (fun c176 => absurd (nI_pos' (by omega)) c176)
      refine aw_aload_n B 0 rfl dX1_readF_181 rfl ?_
      refine aw_iconst B 3 (by decide) dX1_readF_182 ?_
      refine aw_iload_n B 2 rfl dX1_readF_183 rfl ?_
      refine aw_imul B dX1_readF_184 ?_
      refine aw_iload_n B 3 rfl dX1_readF_185 rfl ?_
      refine aw_iadd B dX1_readF_186 ?_
      refine aw_iload B dX1_readF_187 rfl ?_
      refine aw_callV B 0 0 (s_addStep _ _ _ k t SF NF tf ((figP tp e (adv (adv (p, false, P)))).2) (3 * a + b, (figP tp e (adv (adv (p, false, P)))).1) _ _ (by rw [g4]; omega) (by rw [show (3 : Int32) * nI a = nI (3 * a) from pk_mul 3 a, nI_add]) rfl) co_X1_addStep k_X1_105 dX1_readF_189 hC_o rfl rfl rfl rfl (Nat.le_of_ble_eq_true rfl) (zrm hr (by omega)) (Nat.le_refl _) (Nat.le_refl _) (kV fun h189 hp189 => ?_)
      subst hp189
      refine aw_iconst B 1 (by decide) dX1_readF_192 ?_
      refine aw_iret B rfl rfl dX1_readF_193 ?_
      exact ⟨_, rfl, rfl, rfl⟩
  have t1 : ∀ a : Nat, a < 3 → p + 1 ≤ e → AW X 0 0 115 [some (.ref k), some (.int (nI o)), some (.int (nI a)), none, none] [] (hC (zXg X) h k t SF NF tf (adv (p, false, P))) (zI fun r h' => r = b2 (!(if am3 60 61 62 (hre tp e (adv (p, false, P))) = 3 then bad (adv (p, false, P)) else emP (3 * a + am3 60 61 62 (hre tp e (adv (p, false, P))), (figP tp e (adv (adv (p, false, P)))).1) (figP tp e (adv (adv (p, false, P)))).2).2.1) ∧ h' = hC (zXg X) h k t SF NF tf (if am3 60 61 62 (hre tp e (adv (p, false, P))) = 3 then bad (adv (p, false, P)) else emP (3 * a + am3 60 61 62 (hre tp e (adv (p, false, P))), (figP tp e (adv (adv (p, false, P)))).1) (figP tp e (adv (adv (p, false, P)))).2)) := by
    intro a ha hp1
    refine aw_iload_n B 2 rfl dX1_readF_115 rfl ?_
    refine aw_if_ge B 121 dX1_readF_116 (fun c116 => ?_) (fun c116 => absurd (nI_pos' (by omega)) c116)
    refine aw_aload_n B 0 rfl dX1_readF_121 rfl ?_
    refine aw_bipush B 60 (by decide) dX1_readF_122 ?_
    refine aw_callV B 0 0 (s_skip _ _ _ k t SF NF tf tp e (adv (p, false, P)) 60 T hp1) co_X1_skip k_X1_76 dX1_readF_124 hC_o rfl rfl rfl rfl (Nat.le_of_ble_eq_true rfl) (zrm hr (by omega)) (Nat.le_refl _) (Nat.le_refl _) (kI fun r124 h124 hp124 => ?_)
    obtain ⟨rfl, rfl⟩ := hp124
    refine aw_if_eq B 134 dX1_readF_127 (fun c127 => ?_) (fun c127 => ?_)
    · rw [if_neg (sk_m c127)]
      refine aw_aload_n B 0 rfl dX1_readF_134 rfl ?_
      refine aw_bipush B 61 (by decide) dX1_readF_135 ?_
      refine aw_callV B 0 0 (s_skip _ _ _ k t SF NF tf tp e (adv (p, false, P)) 61 T hp1) co_X1_skip k_X1_76 dX1_readF_137 hC_o rfl rfl rfl rfl (Nat.le_of_ble_eq_true rfl) (zrm hr (by omega)) (Nat.le_refl _) (Nat.le_refl _) (kI fun r137 h137 hp137 => ?_)
      obtain ⟨rfl, rfl⟩ := hp137
      refine aw_if_eq B 147 dX1_readF_140 (fun c140 => ?_) (fun c140 => ?_)
      · rw [if_neg (sk_m c140)]
        refine aw_aload_n B 0 rfl dX1_readF_147 rfl ?_
        refine aw_bipush B 62 (by decide) dX1_readF_148 ?_
        refine aw_callV B 0 0 (s_skip _ _ _ k t SF NF tf tp e (adv (p, false, P)) 62 T hp1) co_X1_skip k_X1_76 dX1_readF_150 hC_o rfl rfl rfl rfl (Nat.le_of_ble_eq_true rfl) (zrm hr (by omega)) (Nat.le_refl _) (Nat.le_refl _) (kI fun r150 h150 hp150 => ?_)
        obtain ⟨rfl, rfl⟩ := hp150
        refine aw_if_eq B 160 dX1_readF_153 (fun c153 => ?_) (fun c153 => ?_)
        · rw [if_neg (sk_m c153), am3_3 (sk_m c127) (sk_m c140) (sk_m c153), if_pos rfl]
          refine aw_iconst B (-1) (by decide) dX1_readF_160 ?_
          refine aw_istore3 B dX1_readF_161 ?_
          refine aw_iload_n B 3 rfl dX1_readF_162 rfl ?_
          refine aw_if_ge B 168 dX1_readF_163 (fun c163 => absurd c163 (by decide)) (fun c163 => ?_)
          refine aw_iconst B 0 (by decide) dX1_readF_166 ?_
          refine aw_iret B rfl rfl dX1_readF_167 ?_
          exact ⟨_, rfl, rfl, rfl⟩
        · have hlt : p + 1 + 1 ≤ e := hr_lt (s := (adv (p, false, P))) (sk_h c153) (by decide)
          rw [if_pos (sk_h c153), am3_2 (sk_m c127) (sk_m c140) (sk_h c153), if_neg (show ¬ 2 = 3 by decide)]
          refine aw_iconst B 2 (by decide) dX1_readF_156 ?_
          refine aw_goto B 161 dX1_readF_157 ?_
          refine aw_istore3 B dX1_readF_161 ?_
          exact t2 a 2 ha (by decide) hlt
      · have hlt : p + 1 + 1 ≤ e := hr_lt (s := (adv (p, false, P))) (sk_h c140) (by decide)
        rw [if_pos (sk_h c140), am3_1 (sk_m c127) (sk_h c140), if_neg (show ¬ 1 = 3 by decide)]
        refine aw_iconst B 1 (by decide) dX1_readF_143 ?_
        refine aw_goto B 161 dX1_readF_144 ?_
        refine aw_istore3 B dX1_readF_161 ?_
        exact t2 a 1 ha (by decide) hlt
    · have hlt : p + 1 + 1 ≤ e := hr_lt (s := (adv (p, false, P))) (sk_h c127) (by decide)
      rw [if_pos (sk_h c127), am3_0 (sk_h c127), if_neg (show ¬ 0 = 3 by decide)]
      refine aw_iconst B 0 (by decide) dX1_readF_130 ?_
      refine aw_goto B 161 dX1_readF_131 ?_
      refine aw_istore3 B dX1_readF_161 ?_
      exact t2 a 0 ha (by decide) hlt
  refine aw_aload_n B 0 rfl dX1_readF_74 rfl ?_
  refine aw_bipush B 104 (by decide) dX1_readF_75 ?_
  refine aw_callV B 0 0 (s_skip _ _ _ k t SF NF tf tp e (p, false, P) 104 T hs) co_X1_skip k_X1_76 dX1_readF_77 hC_o rfl rfl rfl rfl (Nat.le_of_ble_eq_true rfl) (zrm hr (by omega)) (Nat.le_refl _) (Nat.le_refl _) (kI fun r77 h77 hp77 => ?_)
  obtain ⟨rfl, rfl⟩ := hp77
  refine aw_if_eq B 87 dX1_readF_80 (fun c80 => ?_) (fun c80 => ?_)
  · rw [if_neg (sk_m c80)]
    refine aw_aload_n B 0 rfl dX1_readF_87 rfl ?_
    refine aw_bipush B 100 (by decide) dX1_readF_88 ?_
    refine aw_callV B 0 0 (s_skip _ _ _ k t SF NF tf tp e (p, false, P) 100 T hs) co_X1_skip k_X1_76 dX1_readF_90 hC_o rfl rfl rfl rfl (Nat.le_of_ble_eq_true rfl) (zrm hr (by omega)) (Nat.le_refl _) (Nat.le_refl _) (kI fun r90 h90 hp90 => ?_)
    obtain ⟨rfl, rfl⟩ := hp90
    refine aw_if_eq B 100 dX1_readF_93 (fun c93 => ?_) (fun c93 => ?_)
    · rw [if_neg (sk_m c93)]
      refine aw_aload_n B 0 rfl dX1_readF_100 rfl ?_
      refine aw_bipush B 109 (by decide) dX1_readF_101 ?_
      refine aw_callV B 0 0 (s_skip _ _ _ k t SF NF tf tp e (p, false, P) 109 T hs) co_X1_skip k_X1_76 dX1_readF_103 hC_o rfl rfl rfl rfl (Nat.le_of_ble_eq_true rfl) (zrm hr (by omega)) (Nat.le_refl _) (Nat.le_refl _) (kI fun r103 h103 hp103 => ?_)
      obtain ⟨rfl, rfl⟩ := hp103
      refine aw_if_eq B 113 dX1_readF_106 (fun c106 => ?_) (fun c106 => ?_)
      · rw [if_neg (sk_m c106), show testP tp e (p, false, P) = bad (p, false, P) from by unfold testP; rw [am3_3 (sk_m c80) (sk_m c93) (sk_m c106), if_pos rfl]]
        refine aw_iconst B (-1) (by decide) dX1_readF_113 ?_
        refine aw_istore2 B dX1_readF_114 ?_
        refine aw_iload_n B 2 rfl dX1_readF_115 rfl ?_
        refine aw_if_ge B 121 dX1_readF_116 (fun c116 => absurd c116 (by decide)) (fun c116 => ?_)
        refine aw_iconst B 0 (by decide) dX1_readF_119 ?_
        refine aw_iret B rfl rfl dX1_readF_120 ?_
        exact ⟨_, rfl, rfl, rfl⟩
      · have hlt : p + 1 ≤ e := hr_lt (s := (p, false, P)) (sk_h c106) (by decide)
        rw [if_pos (sk_h c106), show testP tp e (p, false, P) = (if am3 60 61 62 (hre tp e (adv (p, false, P))) = 3 then bad (adv (p, false, P)) else emP (3 * 2 + am3 60 61 62 (hre tp e (adv (p, false, P))), (figP tp e (adv (adv (p, false, P)))).1) (figP tp e (adv (adv (p, false, P)))).2) from by unfold testP; rw [am3_2 (sk_m c80) (sk_m c93) (sk_h c106), if_neg (show ¬ 2 = 3 by decide)]]
        refine aw_iconst B 2 (by decide) dX1_readF_109 ?_
        refine aw_goto B 114 dX1_readF_110 ?_
        refine aw_istore2 B dX1_readF_114 ?_
        exact t1 2 (by decide) hlt
    · have hlt : p + 1 ≤ e := hr_lt (s := (p, false, P)) (sk_h c93) (by decide)
      rw [if_pos (sk_h c93), show testP tp e (p, false, P) = (if am3 60 61 62 (hre tp e (adv (p, false, P))) = 3 then bad (adv (p, false, P)) else emP (3 * 1 + am3 60 61 62 (hre tp e (adv (p, false, P))), (figP tp e (adv (adv (p, false, P)))).1) (figP tp e (adv (adv (p, false, P)))).2) from by unfold testP; rw [am3_1 (sk_m c80) (sk_h c93), if_neg (show ¬ 1 = 3 by decide)]]
      refine aw_iconst B 1 (by decide) dX1_readF_96 ?_
      refine aw_goto B 114 dX1_readF_97 ?_
      refine aw_istore2 B dX1_readF_114 ?_
      exact t1 1 (by decide) hlt
  · have hlt : p + 1 ≤ e := hr_lt (s := (p, false, P)) (sk_h c80) (by decide)
    rw [if_pos (sk_h c80), show testP tp e (p, false, P) = (if am3 60 61 62 (hre tp e (adv (p, false, P))) = 3 then bad (adv (p, false, P)) else emP (3 * 0 + am3 60 61 62 (hre tp e (adv (p, false, P))), (figP tp e (adv (adv (p, false, P)))).1) (figP tp e (adv (adv (p, false, P)))).2) from by unfold testP; rw [am3_0 (sk_h c80), if_neg (show ¬ 0 = 3 by decide)]]
    refine aw_iconst B 0 (by decide) dX1_readF_83 ?_
    refine aw_goto B 114 dX1_readF_84 ?_
    refine aw_istore2 B dX1_readF_114 ?_
    exact t1 0 (by decide) hlt
def RdF (l : Launch) (g : zG) (h : Hp) (k t : Nat) (SF NF tf : Nat → Int32) (e o df : Nat) (sub : pst → pst) : Prop := ∀ s : pst, s.2.1 = false → s.1 ≤ e → s.2.2.length ≤ s.1 → Sp l g yX1_readF cX1_readF 5 (some .boolean) (rmz df) [.ref k, .int (nI o)] (hC g h k t SF NF tf s) (zI fun r h' => r = b2 (!(sub s).2.1) ∧ h' = hC g h k t SF NF tf (sub s))
def RdT (l : Launch) (g : zG) (h : Hp) (k t : Nat) (SF NF tf : Nat → Int32) (e o df : Nat) (sub : pst → pst) : Prop := ∀ s : pst, s.2.1 = false → s.1 ≤ e → s.2.2.length ≤ s.1 → Sp l g yX1_readT cX1_readT 3 (some .boolean) (rmz df) [.ref k, .int (nI o)] (hC g h k t SF NF tf s) (zI fun r h' => r = b2 (!(sub s).2.1) ∧ h' = hC g h k t SF NF tf (sub s))
def RdE (l : Launch) (g : zG) (h : Hp) (k t : Nat) (SF NF tf : Nat → Int32) (e o df : Nat) (sub : pst → pst) : Prop := ∀ s : pst, s.2.1 = false → s.1 ≤ e → s.2.2.length ≤ s.1 → Sp l g yX1_readE cX1_readE 3 (some .boolean) (rmz df) [.ref k, .int (nI o)] (hC g h k t SF NF tf s) (zI fun r h' => r = b2 (!(sub s).2.1) ∧ h' = hC g h k t SF NF tf (sub s))
theorem dX1_readT_0 : decode cX1_readT 0 = .ok (.aload_n 0, 1) := by decide +kernel
theorem dX1_readT_1 : decode cX1_readT 1 = .ok (.iload_n 1, 1) := by decide +kernel
theorem dX1_readT_2 : decode cX1_readT 2 = .ok (.invokevirtual 112, 3) := by decide +kernel
theorem dX1_readT_5 : decode cX1_readT 5 = .ok (.ifCond .ne 5, 3) := by decide +kernel
theorem dX1_readT_8 : decode cX1_readT 8 = .ok (.iconst 0, 1) := by decide +kernel
theorem dX1_readT_9 : decode cX1_readT 9 = .ok (.ireturn, 1) := by decide +kernel
theorem dX1_readT_10 : decode cX1_readT 10 = .ok (.iconst 0, 1) := by decide +kernel
theorem dX1_readT_11 : decode cX1_readT 11 = .ok (.istore_n 2, 1) := by decide +kernel
theorem dX1_readT_12 : decode cX1_readT 12 = .ok (.iload_n 2, 1) := by decide +kernel
theorem dX1_readT_13 : decode cX1_readT 13 = .ok (.bipush 100, 2) := by decide +kernel
theorem dX1_readT_15 : decode cX1_readT 15 = .ok (.if_icmp .ge 35, 3) := by decide +kernel
theorem dX1_readT_18 : decode cX1_readT 18 = .ok (.aload_n 0, 1) := by decide +kernel
theorem dX1_readT_19 : decode cX1_readT 19 = .ok (.bipush 38, 2) := by decide +kernel
theorem dX1_readT_21 : decode cX1_readT 21 = .ok (.invokevirtual 76, 3) := by decide +kernel
theorem dX1_readT_24 : decode cX1_readT 24 = .ok (.ifCond .eq 26, 3) := by decide +kernel
theorem dX1_readT_27 : decode cX1_readT 27 = .ok (.aload_n 0, 1) := by decide +kernel
theorem dX1_readT_28 : decode cX1_readT 28 = .ok (.iload_n 1, 1) := by decide +kernel
theorem dX1_readT_29 : decode cX1_readT 29 = .ok (.invokevirtual 112, 3) := by decide +kernel
theorem dX1_readT_32 : decode cX1_readT 32 = .ok (.ifCond .ne 5, 3) := by decide +kernel
theorem dX1_readT_35 : decode cX1_readT 35 = .ok (.iconst 0, 1) := by decide +kernel
theorem dX1_readT_36 : decode cX1_readT 36 = .ok (.ireturn, 1) := by decide +kernel
theorem dX1_readT_37 : decode cX1_readT 37 = .ok (.aload_n 0, 1) := by decide +kernel
theorem dX1_readT_38 : decode cX1_readT 38 = .ok (.bipush 10, 2) := by decide +kernel
theorem dX1_readT_40 : decode cX1_readT 40 = .ok (.iconst 0, 1) := by decide +kernel
theorem dX1_readT_41 : decode cX1_readT 41 = .ok (.invokevirtual 105, 3) := by decide +kernel
theorem dX1_readT_44 : decode cX1_readT 44 = .ok (.iinc 2 1, 3) := by decide +kernel
theorem dX1_readT_47 : decode cX1_readT 47 = .ok (.goto (-35), 3) := by decide +kernel
theorem dX1_readT_50 : decode cX1_readT 50 = .ok (.iconst 1, 1) := by decide +kernel
theorem dX1_readT_51 : decode cX1_readT 51 = .ok (.ireturn, 1) := by decide +kernel
set_option maxRecDepth 100000 in
set_option maxHeartbeats 4000000 in
theorem s_readT (l : Launch) (g : zG) (h : Hp) (k t : Nat) (SF NF tf tp : Nat → Int32) (e : Nat) (o df j : Nat) (sub : pst → pst) (T : tRow g h k t tp e) (hd : 2 ≤ df) (hg : gd e (seg j) sub) (Hf : RdF l g h k t SF NF tf e o df sub) (s : pst) (hw : s.2.1 = false) (hs : s.1 ≤ e) (hl : s.2.2.length ≤ s.1) : Sp l g yX1_readT cX1_readT 3 (some .boolean) (rmz (df + 1)) [.ref k, .int (nI o)] (hC g h k t SF NF tf s) (zI fun r h' => r = b2 (!(tailP tp e sub 38 10 100 (sub s)).2.1) ∧ h' = hC g h k t SF NF tf (tailP tp e sub 38 10 100 (sub s))) := by
  refine Sp.of [some (.ref k), some (.int (nI o)), none] (by decide) (Nat.le_of_ble_eq_true rfl) rfl rfl ?_
  rintro X rfl hr rfl B
  show AW X 0 0 0 _ _ _ _
  have he := T.2.2
  have lp : ∀ (f i : Nat) (s : pst), i + f = 100 → s.2.1 = false → s.1 ≤ e → s.2.2.length ≤ s.1 → AW X 0 0 12 [some (.ref k), some (.int (nI o)), some (.int (nI i))] [] (hC (zXg X) h k t SF NF tf s) (zI fun r h' => r = b2 (!(tailP tp e sub 38 10 f s).2.1) ∧ h' = hC (zXg X) h k t SF NF tf (tailP tp e sub 38 10 f s)) := by
    intro f
    induction f with
    | zero =>
      intro i s hi hw hs hl
      obtain rfl : i = 100 := by omega
      refine aw_iload_n B 2 rfl dX1_readT_12 rfl ?_
      refine aw_bipush B 100 (by decide) dX1_readT_13 ?_
      refine aw_icmp_ge B 50 dX1_readT_15 (fun c15 => ?_) (fun c15 => absurd (by decide) c15)
      refine aw_iconst B 1 (by decide) dX1_readT_50 ?_
      refine aw_iret B rfl rfl dX1_readT_51 ?_
      exact ⟨_, rfl, by show _ = b2 (!s.2.1); rw [hw]; rfl, rfl⟩
    | succ f ih =>
      intro i s hi hw hs hl
      obtain ⟨p, w, P⟩ := s
      cases hw
      have hl : P.length ≤ p := hl
      refine aw_iload_n B 2 rfl dX1_readT_12 rfl ?_
      refine aw_bipush B 100 (by decide) dX1_readT_13 ?_
      refine aw_icmp_ge B 50 dX1_readT_15 (fun c15 => absurd c15 (Int32.not_le.mpr (show nI i < nI 100 from nI_lt (by omega) (by decide)))) (fun c15 => ?_)
      refine aw_aload_n B 0 rfl dX1_readT_18 rfl ?_
      refine aw_bipush B 38 (by decide) dX1_readT_19 ?_
      refine aw_callV B 0 0 (s_skip _ _ _ k t SF NF tf tp e (p, false, P) 38 T hs) co_X1_skip k_X1_76 dX1_readT_21 hC_o rfl rfl rfl rfl (Nat.le_of_ble_eq_true rfl) (zrm hr (by omega)) (Nat.le_refl _) (Nat.le_refl _) (kI fun r21 h21 hp21 => ?_)
      obtain ⟨rfl, rfl⟩ := hp21
      refine aw_if_eq B 50 dX1_readT_24 (fun c24 => ?_) (fun c24 => ?_)
      · refine aw_iconst B 1 (by decide) dX1_readT_50 ?_
        refine aw_iret B rfl rfl dX1_readT_51 ?_
        exact ⟨_, rfl, by rw [tailP, if_neg Bool.false_ne_true, if_neg (sk_m c24)]; rfl, by rw [if_neg (sk_m c24), tailP, if_neg Bool.false_ne_true, if_neg (sk_m c24)]⟩
      · have hlt : p + 1 ≤ e := hr_lt (s := (p, false, P)) (sk_h c24) (by decide)
        obtain ⟨q1, q2, q3⟩ := gd_ok1 hg hlt hl
        rw [if_pos (sk_h c24)]
        refine aw_aload_n B 0 rfl dX1_readT_27 rfl ?_
        refine aw_iload_n B 1 rfl dX1_readT_28 rfl ?_
        refine aw_callV B 0 0 (Hf (p + 1, false, P) rfl hlt (by show P.length ≤ p + 1; omega)) co_X1_readF k_X1_112 dX1_readT_29 hC_o rfl rfl rfl rfl (Nat.le_of_ble_eq_true rfl) (zrm hr (by omega)) (Nat.le_refl _) (Nat.le_refl _) (kI fun r29 h29 hp29 => ?_)
        obtain ⟨rfl, rfl⟩ := hp29
        refine aw_if_ne B 37 dX1_readT_32 (fun c32 => ?_) (fun c32 => ?_)
        · refine aw_aload_n B 0 rfl dX1_readT_37 rfl ?_
          refine aw_bipush B 10 (by decide) dX1_readT_38 ?_
          refine aw_iconst B 0 (by decide) dX1_readT_40 ?_
          refine aw_callV B 0 0 (s_addStep _ _ _ k t SF NF tf ((sub (p + 1, false, P))) (10, 0) _ _ (by omega) rfl rfl) co_X1_addStep k_X1_105 dX1_readT_41 hC_o rfl rfl rfl rfl (Nat.le_of_ble_eq_true rfl) (zrm hr (by omega)) (Nat.le_refl _) (Nat.le_refl _) (kV fun h41 hp41 => ?_)
          subst hp41
          refine aw_iinc2 B 1 (by decide) dX1_readT_44 ?_
          refine aw_goto B 12 dX1_readT_47 ?_
          have hq := bn_f c32
          rw [nI_1, show tailP tp e sub 38 10 (f + 1) (p, false, P) = tailP tp e sub 38 10 f ((sub (p + 1, false, P)).1, false, (sub (p + 1, false, P)).2.2 ++ [(10, 0)]) from by
            rw [tailP, if_neg Bool.false_ne_true, if_pos (sk_h c24)]
            show tailP tp e sub 38 10 f (emP (10, 0) (sub (p + 1, false, P))) = _
            rw [em_f hq]]
          exact ih (i + 1) ((sub (p + 1, false, P)).1, false, (sub (p + 1, false, P)).2.2 ++ [(10, 0)]) (by omega) rfl q1 (by show ((sub (p + 1, false, P)).2.2 ++ [_]).length ≤ (sub (p + 1, false, P)).1; rw [List.length_append]; exact q2)
        · refine aw_iconst B 0 (by decide) dX1_readT_35 ?_
          refine aw_iret B rfl rfl dX1_readT_36 ?_
          have hq := bn_t c32
          have et : tailP tp e sub 38 10 (f + 1) (p, false, P) = (sub (p + 1, false, P)) := by
            rw [tailP, if_neg Bool.false_ne_true, if_pos (sk_h c24)]
            show tailP tp e sub 38 10 f (emP (10, 0) (sub (p + 1, false, P))) = _
            rw [em_t hq, tail_t hq]
          exact ⟨_, rfl, by rw [et, hq]; rfl, by rw [et]⟩
  obtain ⟨q1, q2, q3⟩ := gd_ok hg hs hl
  refine aw_aload_n B 0 rfl dX1_readT_0 rfl ?_
  refine aw_iload_n B 1 rfl dX1_readT_1 rfl ?_
  refine aw_callV B 0 0 (Hf s hw hs hl) co_X1_readF k_X1_112 dX1_readT_2 hC_o rfl rfl rfl rfl (Nat.le_of_ble_eq_true rfl) (zrm hr (by omega)) (Nat.le_refl _) (Nat.le_refl _) (kI fun r2 h2 hp2 => ?_)
  obtain ⟨rfl, rfl⟩ := hp2
  refine aw_if_ne B 10 dX1_readT_5 (fun c5 => ?_) (fun c5 => ?_)
  · refine aw_iconst B 0 (by decide) dX1_readT_10 ?_
    refine aw_istore2 B dX1_readT_11 ?_
    exact lp 100 0 (sub s) rfl (bn_f c5) q1 q2
  · refine aw_iconst B 0 (by decide) dX1_readT_8 ?_
    refine aw_iret B rfl rfl dX1_readT_9 ?_
    exact ⟨_, rfl, by rw [tail_t (bn_t c5), bn_t c5]; rfl, by rw [tail_t (bn_t c5)]⟩
theorem dX1_readE_0 : decode cX1_readE 0 = .ok (.aload_n 0, 1) := by decide +kernel
theorem dX1_readE_1 : decode cX1_readE 1 = .ok (.iload_n 1, 1) := by decide +kernel
theorem dX1_readE_2 : decode cX1_readE 2 = .ok (.invokevirtual 109, 3) := by decide +kernel
theorem dX1_readE_5 : decode cX1_readE 5 = .ok (.ifCond .ne 5, 3) := by decide +kernel
theorem dX1_readE_8 : decode cX1_readE 8 = .ok (.iconst 0, 1) := by decide +kernel
theorem dX1_readE_9 : decode cX1_readE 9 = .ok (.ireturn, 1) := by decide +kernel
theorem dX1_readE_10 : decode cX1_readE 10 = .ok (.iconst 0, 1) := by decide +kernel
theorem dX1_readE_11 : decode cX1_readE 11 = .ok (.istore_n 2, 1) := by decide +kernel
theorem dX1_readE_12 : decode cX1_readE 12 = .ok (.iload_n 2, 1) := by decide +kernel
theorem dX1_readE_13 : decode cX1_readE 13 = .ok (.bipush 100, 2) := by decide +kernel
theorem dX1_readE_15 : decode cX1_readE 15 = .ok (.if_icmp .ge 35, 3) := by decide +kernel
theorem dX1_readE_18 : decode cX1_readE 18 = .ok (.aload_n 0, 1) := by decide +kernel
theorem dX1_readE_19 : decode cX1_readE 19 = .ok (.bipush 124, 2) := by decide +kernel
theorem dX1_readE_21 : decode cX1_readE 21 = .ok (.invokevirtual 76, 3) := by decide +kernel
theorem dX1_readE_24 : decode cX1_readE 24 = .ok (.ifCond .eq 26, 3) := by decide +kernel
theorem dX1_readE_27 : decode cX1_readE 27 = .ok (.aload_n 0, 1) := by decide +kernel
theorem dX1_readE_28 : decode cX1_readE 28 = .ok (.iload_n 1, 1) := by decide +kernel
theorem dX1_readE_29 : decode cX1_readE 29 = .ok (.invokevirtual 109, 3) := by decide +kernel
theorem dX1_readE_32 : decode cX1_readE 32 = .ok (.ifCond .ne 5, 3) := by decide +kernel
theorem dX1_readE_35 : decode cX1_readE 35 = .ok (.iconst 0, 1) := by decide +kernel
theorem dX1_readE_36 : decode cX1_readE 36 = .ok (.ireturn, 1) := by decide +kernel
theorem dX1_readE_37 : decode cX1_readE 37 = .ok (.aload_n 0, 1) := by decide +kernel
theorem dX1_readE_38 : decode cX1_readE 38 = .ok (.bipush 11, 2) := by decide +kernel
theorem dX1_readE_40 : decode cX1_readE 40 = .ok (.iconst 0, 1) := by decide +kernel
theorem dX1_readE_41 : decode cX1_readE 41 = .ok (.invokevirtual 105, 3) := by decide +kernel
theorem dX1_readE_44 : decode cX1_readE 44 = .ok (.iinc 2 1, 3) := by decide +kernel
theorem dX1_readE_47 : decode cX1_readE 47 = .ok (.goto (-35), 3) := by decide +kernel
theorem dX1_readE_50 : decode cX1_readE 50 = .ok (.iconst 1, 1) := by decide +kernel
theorem dX1_readE_51 : decode cX1_readE 51 = .ok (.ireturn, 1) := by decide +kernel
set_option maxRecDepth 100000 in
set_option maxHeartbeats 4000000 in
theorem s_readE (l : Launch) (g : zG) (h : Hp) (k t : Nat) (SF NF tf tp : Nat → Int32) (e : Nat) (o df j : Nat) (sub : pst → pst) (T : tRow g h k t tp e) (hd : 2 ≤ df) (hg : gd e (seg j) sub) (Hf : RdT l g h k t SF NF tf e o df sub) (s : pst) (hw : s.2.1 = false) (hs : s.1 ≤ e) (hl : s.2.2.length ≤ s.1) : Sp l g yX1_readE cX1_readE 3 (some .boolean) (rmz (df + 1)) [.ref k, .int (nI o)] (hC g h k t SF NF tf s) (zI fun r h' => r = b2 (!(tailP tp e sub 124 11 100 (sub s)).2.1) ∧ h' = hC g h k t SF NF tf (tailP tp e sub 124 11 100 (sub s))) := by
  refine Sp.of [some (.ref k), some (.int (nI o)), none] (by decide) (Nat.le_of_ble_eq_true rfl) rfl rfl ?_
  rintro X rfl hr rfl B
  show AW X 0 0 0 _ _ _ _
  have he := T.2.2
  have lp : ∀ (f i : Nat) (s : pst), i + f = 100 → s.2.1 = false → s.1 ≤ e → s.2.2.length ≤ s.1 → AW X 0 0 12 [some (.ref k), some (.int (nI o)), some (.int (nI i))] [] (hC (zXg X) h k t SF NF tf s) (zI fun r h' => r = b2 (!(tailP tp e sub 124 11 f s).2.1) ∧ h' = hC (zXg X) h k t SF NF tf (tailP tp e sub 124 11 f s)) := by
    intro f
    induction f with
    | zero =>
      intro i s hi hw hs hl
      obtain rfl : i = 100 := by omega
      refine aw_iload_n B 2 rfl dX1_readE_12 rfl ?_
      refine aw_bipush B 100 (by decide) dX1_readE_13 ?_
      refine aw_icmp_ge B 50 dX1_readE_15 (fun c15 => ?_) (fun c15 => absurd (by decide) c15)
      refine aw_iconst B 1 (by decide) dX1_readE_50 ?_
      refine aw_iret B rfl rfl dX1_readE_51 ?_
      exact ⟨_, rfl, by show _ = b2 (!s.2.1); rw [hw]; rfl, rfl⟩
    | succ f ih =>
      intro i s hi hw hs hl
      obtain ⟨p, w, P⟩ := s
      cases hw
      have hl : P.length ≤ p := hl
      refine aw_iload_n B 2 rfl dX1_readE_12 rfl ?_
      refine aw_bipush B 100 (by decide) dX1_readE_13 ?_
      refine aw_icmp_ge B 50 dX1_readE_15 (fun c15 => absurd c15 (Int32.not_le.mpr (show nI i < nI 100 from nI_lt (by omega) (by decide)))) (fun c15 => ?_)
      refine aw_aload_n B 0 rfl dX1_readE_18 rfl ?_
      refine aw_bipush B 124 (by decide) dX1_readE_19 ?_
      refine aw_callV B 0 0 (s_skip _ _ _ k t SF NF tf tp e (p, false, P) 124 T hs) co_X1_skip k_X1_76 dX1_readE_21 hC_o rfl rfl rfl rfl (Nat.le_of_ble_eq_true rfl) (zrm hr (by omega)) (Nat.le_refl _) (Nat.le_refl _) (kI fun r21 h21 hp21 => ?_)
      obtain ⟨rfl, rfl⟩ := hp21
      refine aw_if_eq B 50 dX1_readE_24 (fun c24 => ?_) (fun c24 => ?_)
      · refine aw_iconst B 1 (by decide) dX1_readE_50 ?_
        refine aw_iret B rfl rfl dX1_readE_51 ?_
        exact ⟨_, rfl, by rw [tailP, if_neg Bool.false_ne_true, if_neg (sk_m c24)]; rfl, by rw [if_neg (sk_m c24), tailP, if_neg Bool.false_ne_true, if_neg (sk_m c24)]⟩
      · have hlt : p + 1 ≤ e := hr_lt (s := (p, false, P)) (sk_h c24) (by decide)
        obtain ⟨q1, q2, q3⟩ := gd_ok1 hg hlt hl
        rw [if_pos (sk_h c24)]
        refine aw_aload_n B 0 rfl dX1_readE_27 rfl ?_
        refine aw_iload_n B 1 rfl dX1_readE_28 rfl ?_
        refine aw_callV B 0 0 (Hf (p + 1, false, P) rfl hlt (by show P.length ≤ p + 1; omega)) co_X1_readT k_X1_109 dX1_readE_29 hC_o rfl rfl rfl rfl (Nat.le_of_ble_eq_true rfl) (zrm hr (by omega)) (Nat.le_refl _) (Nat.le_refl _) (kI fun r29 h29 hp29 => ?_)
        obtain ⟨rfl, rfl⟩ := hp29
        refine aw_if_ne B 37 dX1_readE_32 (fun c32 => ?_) (fun c32 => ?_)
        · refine aw_aload_n B 0 rfl dX1_readE_37 rfl ?_
          refine aw_bipush B 11 (by decide) dX1_readE_38 ?_
          refine aw_iconst B 0 (by decide) dX1_readE_40 ?_
          refine aw_callV B 0 0 (s_addStep _ _ _ k t SF NF tf ((sub (p + 1, false, P))) (11, 0) _ _ (by omega) rfl rfl) co_X1_addStep k_X1_105 dX1_readE_41 hC_o rfl rfl rfl rfl (Nat.le_of_ble_eq_true rfl) (zrm hr (by omega)) (Nat.le_refl _) (Nat.le_refl _) (kV fun h41 hp41 => ?_)
          subst hp41
          refine aw_iinc2 B 1 (by decide) dX1_readE_44 ?_
          refine aw_goto B 12 dX1_readE_47 ?_
          have hq := bn_f c32
          rw [nI_1, show tailP tp e sub 124 11 (f + 1) (p, false, P) = tailP tp e sub 124 11 f ((sub (p + 1, false, P)).1, false, (sub (p + 1, false, P)).2.2 ++ [(11, 0)]) from by
            rw [tailP, if_neg Bool.false_ne_true, if_pos (sk_h c24)]
            show tailP tp e sub 124 11 f (emP (11, 0) (sub (p + 1, false, P))) = _
            rw [em_f hq]]
          exact ih (i + 1) ((sub (p + 1, false, P)).1, false, (sub (p + 1, false, P)).2.2 ++ [(11, 0)]) (by omega) rfl q1 (by show ((sub (p + 1, false, P)).2.2 ++ [_]).length ≤ (sub (p + 1, false, P)).1; rw [List.length_append]; exact q2)
        · refine aw_iconst B 0 (by decide) dX1_readE_35 ?_
          refine aw_iret B rfl rfl dX1_readE_36 ?_
          have hq := bn_t c32
          have et : tailP tp e sub 124 11 (f + 1) (p, false, P) = (sub (p + 1, false, P)) := by
            rw [tailP, if_neg Bool.false_ne_true, if_pos (sk_h c24)]
            show tailP tp e sub 124 11 f (emP (11, 0) (sub (p + 1, false, P))) = _
            rw [em_t hq, tail_t hq]
          exact ⟨_, rfl, by rw [et, hq]; rfl, by rw [et]⟩
  obtain ⟨q1, q2, q3⟩ := gd_ok hg hs hl
  refine aw_aload_n B 0 rfl dX1_readE_0 rfl ?_
  refine aw_iload_n B 1 rfl dX1_readE_1 rfl ?_
  refine aw_callV B 0 0 (Hf s hw hs hl) co_X1_readT k_X1_109 dX1_readE_2 hC_o rfl rfl rfl rfl (Nat.le_of_ble_eq_true rfl) (zrm hr (by omega)) (Nat.le_refl _) (Nat.le_refl _) (kI fun r2 h2 hp2 => ?_)
  obtain ⟨rfl, rfl⟩ := hp2
  refine aw_if_ne B 10 dX1_readE_5 (fun c5 => ?_) (fun c5 => ?_)
  · refine aw_iconst B 0 (by decide) dX1_readE_10 ?_
    refine aw_istore2 B dX1_readE_11 ?_
    exact lp 100 0 (sub s) rfl (bn_f c5) q1 q2
  · refine aw_iconst B 0 (by decide) dX1_readE_8 ?_
    refine aw_iret B rfl rfl dX1_readE_9 ?_
    exact ⟨_, rfl, by rw [tail_t (bn_t c5), bn_t c5]; rfl, by rw [tail_t (bn_t c5)]⟩
set_option maxRecDepth 100000 in
set_option maxHeartbeats 4000000 in
theorem s_rdE {l : Launch} {g : zG} {h : Hp} {k t : Nat} {SF NF tf tp : Nat → Int32} {e o df j : Nat} {sub : pst → pst} (T : tRow g h k t tp e) (hd : 2 ≤ df) (hg : gd e (seg j) sub) (Hf : RdF l g h k t SF NF tf e o df sub) : RdE l g h k t SF NF tf e o (df + 2) (soP tp e sub) := fun s hw hs hl =>
  s_readE l g h k t SF NF tf tp e o (df + 1) (j + 1) (evP tp e sub) T (by omega) (ev_gd hg) (fun s hw hs hl => s_readT l g h k t SF NF tf tp e o df j sub T hd hg Hf s hw hs hl) s hw hs hl
set_option maxRecDepth 100000 in
set_option maxHeartbeats 4000000 in
theorem s_readF (l : Launch) (g : zG) (h : Hp) (k t : Nat) (SF NF tf tp : Nat → Int32) (e : Nat) (T : tRow g h k t tp e) : ∀ (d o : Nat), o + d = 5 → RdF l g h k t SF NF tf e o (4 + 3 * d) (facP tp e d) := by
  intro d
  have he := T.2.2
  induction d with
  | zero =>
    intro o hod
    obtain rfl : o = 5 := by omega
    intro s hw hs hl
    refine Sp.of [some (.ref k), some (.int (nI 5)), none, none, none] (by decide) (Nat.le_of_ble_eq_true rfl) rfl rfl ?_
    rintro X rfl hr rfl B
    show AW X 0 0 0 _ _ _ _
    obtain ⟨p, w, P⟩ := s
    cases hw
    refine aw_iload_n B 1 rfl dX1_readF_0 rfl ?_
    refine aw_iconst B 5 (by decide) dX1_readF_1 ?_
    refine aw_icmp_ge B 35 dX1_readF_2 (fun c2 => ?_) (fun c2 => absurd (by decide) c2)
    refine aw_iload_n B 1 rfl dX1_readF_35 rfl ?_
    refine aw_iconst B 5 (by decide) dX1_readF_36 ?_
    refine aw_icmp_ge B 74 dX1_readF_37 (fun c37 => ?_) (fun c37 => absurd (by decide) c37)
    rw [show facP tp e 0 (p, false, P) = testP tp e (p, false, P) from fac_0 rfl]
    exact s_testF 0 5 p P h k t SF NF tf tp e T hr B hs hl
  | succ d ih =>
    intro o hod
    intro s hw hs hl
    refine Sp.of [some (.ref k), some (.int (nI o)), none, none, none] (by decide) (Nat.le_of_ble_eq_true rfl) rfl rfl ?_
    rintro X rfl hr rfl B
    show AW X 0 0 0 _ _ _ _
    obtain ⟨p, w, P⟩ := s
    cases hw
    have hs : p ≤ e := hs
    have hl : P.length ≤ p := hl
    have lo5 : ¬ (5 : Int32) ≤ nI o := Int32.not_le.mpr (show nI o < nI 5 from nI_lt (by omega) (by decide))
    refine aw_iload_n B 1 rfl dX1_readF_0 rfl ?_
    refine aw_iconst B 5 (by decide) dX1_readF_1 ?_
    refine aw_icmp_ge B 35 dX1_readF_2 (fun c2 => absurd c2 lo5) (fun c2 => ?_)
    refine aw_aload_n B 0 rfl dX1_readF_5 rfl ?_
    refine aw_bipush B 33 (by decide) dX1_readF_6 ?_
    refine aw_callV B 0 0 (s_skip _ _ _ k t SF NF tf tp e (p, false, P) 33 T hs) co_X1_skip k_X1_76 dX1_readF_8 hC_o rfl rfl rfl rfl (Nat.le_of_ble_eq_true rfl) (zrm hr (by omega)) (Nat.le_refl _) (Nat.le_refl _) (kI fun r8 h8 hp8 => ?_)
    obtain ⟨rfl, rfl⟩ := hp8
    refine aw_if_eq B 35 dX1_readF_11 (fun c11 => ?_) (fun c11 => ?_)
    · rw [if_neg (sk_m c11)]
      refine aw_iload_n B 1 rfl dX1_readF_35 rfl ?_
      refine aw_iconst B 5 (by decide) dX1_readF_36 ?_
      refine aw_icmp_ge B 74 dX1_readF_37 (fun c37 => absurd c37 lo5) (fun c37 => ?_)
      refine aw_aload_n B 0 rfl dX1_readF_40 rfl ?_
      refine aw_bipush B 40 (by decide) dX1_readF_41 ?_
      refine aw_callV B 0 0 (s_skip _ _ _ k t SF NF tf tp e (p, false, P) 40 T hs) co_X1_skip k_X1_76 dX1_readF_43 hC_o rfl rfl rfl rfl (Nat.le_of_ble_eq_true rfl) (zrm hr (by omega)) (Nat.le_refl _) (Nat.le_refl _) (kI fun r43 h43 hp43 => ?_)
      obtain ⟨rfl, rfl⟩ := hp43
      refine aw_if_eq B 74 dX1_readF_46 (fun c46 => ?_) (fun c46 => ?_)
      · rw [if_neg (sk_m c46)]
        rw [show facP tp e (d + 1) (p, false, P) = testP tp e (p, false, P) from by
          rw [facP, if_neg Bool.false_ne_true, if_neg (sk_m c11), if_neg (sk_m c46)]]
        exact s_testF (d + 1) o p P h k t SF NF tf tp e T hr B hs hl
      · have hlt : p + 1 ≤ e := hr_lt (s := (p, false, P)) (sk_h c46) (by decide)
        obtain ⟨q1, q2, q3⟩ := gd_ok1 (so_gd (tp := tp) (fac_gd tp e d)) hlt hl
        rw [if_pos (sk_h c46)]
        refine aw_aload_n B 0 rfl dX1_readF_49 rfl ?_
        refine aw_iload_n B 1 rfl dX1_readF_50 rfl ?_
        refine aw_iconst B 1 (by decide) dX1_readF_51 ?_
        refine aw_iadd B dX1_readF_52 ?_
        rw [nI_1]
        refine aw_callV B 0 0 (s_rdE T (by omega) (fac_gd tp e d) (ih (o + 1) (by omega)) (p + 1, false, P) rfl hlt (by show P.length ≤ p + 1; omega)) co_X1_readE k_X1_102 dX1_readF_53 hC_o rfl rfl rfl rfl (Nat.le_of_ble_eq_true rfl) (zrm hr (by omega)) (Nat.le_refl _) (Nat.le_refl _) (kI fun r53 h53 hp53 => ?_)
        obtain ⟨rfl, rfl⟩ := hp53
        refine aw_if_eq B 72 dX1_readF_56 (fun c56 => ?_) (fun c56 => ?_)
        · refine aw_iconst B 0 (by decide) dX1_readF_72 ?_
          refine aw_iret B rfl rfl dX1_readF_73 ?_
          have hq := bn_t c56
          have et : facP tp e (d + 1) (p, false, P) = (soP tp e (facP tp e d) (p + 1, false, P)) := by
            rw [facP, if_neg Bool.false_ne_true, if_neg (sk_m c11), if_pos (sk_h c46)]
            show mustP tp e 41 (soP tp e (facP tp e d) (p + 1, false, P)) = _
            unfold mustP
            rw [if_pos hq]
          exact ⟨_, rfl, by rw [et, hq]; rfl, by rw [et]⟩
        · refine aw_aload_n B 0 rfl dX1_readF_59 rfl ?_
          refine aw_bipush B 41 (by decide) dX1_readF_60 ?_
          refine aw_callV B 0 0 (s_skip _ _ _ k t SF NF tf tp e ((soP tp e (facP tp e d) (p + 1, false, P))) 41 T q1) co_X1_skip k_X1_76 dX1_readF_62 hC_o rfl rfl rfl rfl (Nat.le_of_ble_eq_true rfl) (zrm hr (by omega)) (Nat.le_refl _) (Nat.le_refl _) (kI fun r62 h62 hp62 => ?_)
          obtain ⟨rfl, rfl⟩ := hp62
          refine aw_if_eq B 72 dX1_readF_65 (fun c65 => ?_) (fun c65 => ?_)
          · refine aw_iconst B 0 (by decide) dX1_readF_72 ?_
            refine aw_iret B rfl rfl dX1_readF_73 ?_
            have hq := bn_f c56
            have et : facP tp e (d + 1) (p, false, P) = bad (soP tp e (facP tp e d) (p + 1, false, P)) := by
              rw [facP, if_neg Bool.false_ne_true, if_neg (sk_m c11), if_pos (sk_h c46)]
              show mustP tp e 41 (soP tp e (facP tp e d) (p + 1, false, P)) = _
              unfold mustP
              rw [if_neg (by rw [hq]; decide), if_neg (sk_m c65)]
            exact ⟨_, rfl, by rw [et]; rfl, by rw [et, if_neg (sk_m c65)]; rfl⟩
          · refine aw_iconst B 1 (by decide) dX1_readF_68 ?_
            refine aw_goto B 73 dX1_readF_69 ?_
            refine aw_iret B rfl rfl dX1_readF_73 ?_
            have hq := bn_f c56
            have et : facP tp e (d + 1) (p, false, P) = adv (soP tp e (facP tp e d) (p + 1, false, P)) := by
              rw [facP, if_neg Bool.false_ne_true, if_neg (sk_m c11), if_pos (sk_h c46)]
              show mustP tp e 41 (soP tp e (facP tp e d) (p + 1, false, P)) = _
              unfold mustP
              rw [if_neg (by rw [hq]; decide), if_pos (sk_h c65)]
            exact ⟨_, rfl, by rw [et]; show _ = b2 (!(soP tp e (facP tp e d) (p + 1, false, P)).2.1); rw [hq]; rfl, by rw [et, if_pos (sk_h c65)]⟩
    · have hlt : p + 1 ≤ e := hr_lt (s := (p, false, P)) (sk_h c11) (by decide)
      obtain ⟨q1, q2, q3⟩ := gd_ok1 (fac_gd tp e d) hlt hl
      rw [if_pos (sk_h c11)]
      refine aw_aload_n B 0 rfl dX1_readF_14 rfl ?_
      refine aw_iload_n B 1 rfl dX1_readF_15 rfl ?_
      refine aw_iconst B 1 (by decide) dX1_readF_16 ?_
      refine aw_iadd B dX1_readF_17 ?_
      rw [nI_1]
      refine aw_callV B 0 0 (ih (o + 1) (by omega) (p + 1, false, P) rfl hlt (by show P.length ≤ p + 1; omega)) co_X1_readF k_X1_112 dX1_readF_18 hC_o rfl rfl rfl rfl (Nat.le_of_ble_eq_true rfl) (zrm hr (by omega)) (Nat.le_refl _) (Nat.le_refl _) (kI fun r18 h18 hp18 => ?_)
      obtain ⟨rfl, rfl⟩ := hp18
      refine aw_if_ne B 26 dX1_readF_21 (fun c21 => ?_) (fun c21 => ?_)
      · refine aw_aload_n B 0 rfl dX1_readF_26 rfl ?_
        refine aw_bipush B 9 (by decide) dX1_readF_27 ?_
        refine aw_iconst B 0 (by decide) dX1_readF_29 ?_
        refine aw_callV B 0 0 (s_addStep _ _ _ k t SF NF tf ((facP tp e d (p + 1, false, P))) (9, 0) _ _ (by omega) rfl rfl) co_X1_addStep k_X1_105 dX1_readF_30 hC_o rfl rfl rfl rfl (Nat.le_of_ble_eq_true rfl) (zrm hr (by omega)) (Nat.le_refl _) (Nat.le_refl _) (kV fun h30 hp30 => ?_)
        subst hp30
        refine aw_iconst B 1 (by decide) dX1_readF_33 ?_
        refine aw_iret B rfl rfl dX1_readF_34 ?_
        have hq := bn_f c21
        have et : facP tp e (d + 1) (p, false, P) = ((facP tp e d (p + 1, false, P)).1, false, (facP tp e d (p + 1, false, P)).2.2 ++ [(9, 0)]) := by
          rw [facP, if_neg Bool.false_ne_true, if_pos (sk_h c11)]
          show emP (9, 0) (facP tp e d (p + 1, false, P)) = _
          rw [em_f hq]
        exact ⟨_, rfl, by rw [et]; rfl, by rw [et]⟩
      · refine aw_iconst B 0 (by decide) dX1_readF_24 ?_
        refine aw_iret B rfl rfl dX1_readF_25 ?_
        have hq := bn_t c21
        have et : facP tp e (d + 1) (p, false, P) = (facP tp e d (p + 1, false, P)) := by
          rw [facP, if_neg Bool.false_ne_true, if_pos (sk_h c11)]
          show emP (9, 0) (facP tp e d (p + 1, false, P)) = _
          rw [em_t hq]
        exact ⟨_, rfl, by rw [et, hq]; rfl, by rw [et]⟩
