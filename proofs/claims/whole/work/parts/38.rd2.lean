theorem am3_0 {a b c x : Int32} (h : x = a) : am3 a b c x = 0 := by unfold am3; rw [if_pos h]
theorem am3_1 {a b c x : Int32} (h0 : ¬ x = a) (h : x = b) : am3 a b c x = 1 := by unfold am3; rw [if_neg h0, if_pos h]
theorem am3_2 {a b c x : Int32} (h0 : ¬ x = a) (h1 : ¬ x = b) (h : x = c) : am3 a b c x = 2 := by unfold am3; rw [if_neg h0, if_neg h1, if_pos h]
theorem am3_3 {a b c x : Int32} (h0 : ¬ x = a) (h1 : ¬ x = b) (h : ¬ x = c) : am3 a b c x = 3 := by unfold am3; rw [if_neg h0, if_neg h1, if_neg h]
theorem fig_w {tp : Nat → Int32} {e : Nat} {s : pst} (hw : s.2.1 = false) : (figP tp e s).2.2.1 = decide (bI (48 ≤ hre tp e s ∧ hre tp e s ≤ 57) = 0) := by
  unfold figP
  rw [if_neg (by rw [hw]; decide)]
  by_cases h : bI (48 ≤ hre tp e s ∧ hre tp e s ≤ 57) = 0
  · rw [if_pos h]; simp [bad, h]
  · rw [if_neg h]
    simp only [h, decide_false]
    split
    · exact hw
    · split
      · exact hw
      · exact hw
theorem fac_0 {tp : Nat → Int32} {e : Nat} {s : pst} (hw : s.2.1 = false) : facP tp e 0 s = testP tp e s := by
  rw [facP, if_neg (by rw [hw]; decide)]
  by_cases h1 : hre tp e s = 33
  · rw [if_pos h1]; unfold testP; rw [h1, if_pos (by decide)]
  · rw [if_neg h1]
    by_cases h2 : hre tp e s = 40
    · rw [if_pos h2]; unfold testP; rw [h2, if_pos (by decide)]
    · rw [if_neg h2]
/-- n steps NOT behind a factor -/
def ntP : Nat → pst → pst
  | 0, s => s
  | n + 1, s => ntP n (emP (9, 0) s)
theorem nt_t {n : Nat} : ∀ {s : pst}, s.2.1 = true → ntP n s = s := by
  induction n with
  | zero => intro s _; rfl
  | succ n ih => intro s h; rw [ntP, em_t h]; exact ih h
theorem nt_b {n : Nat} {s : pst} : ntP n (bad s) = bad s := nt_t rfl
theorem dX1_readF_0 : decode cX1_readF 0 = .ok (.iload_n 1, 1) := by decide +kernel
theorem dX1_readF_1 : decode cX1_readF 1 = .ok (.istore_n 2, 1) := by decide +kernel
theorem dX1_readF_2 : decode cX1_readF 2 = .ok (.iload_n 2, 1) := by decide +kernel
theorem dX1_readF_3 : decode cX1_readF 3 = .ok (.iconst 5, 1) := by decide +kernel
theorem dX1_readF_4 : decode cX1_readF 4 = .ok (.if_icmp .ge 18, 3) := by decide +kernel
theorem dX1_readF_7 : decode cX1_readF 7 = .ok (.aload_n 0, 1) := by decide +kernel
theorem dX1_readF_8 : decode cX1_readF 8 = .ok (.bipush 33, 2) := by decide +kernel
theorem dX1_readF_10 : decode cX1_readF 10 = .ok (.invokevirtual 76, 3) := by decide +kernel
theorem dX1_readF_13 : decode cX1_readF 13 = .ok (.ifCond .eq 9, 3) := by decide +kernel
theorem dX1_readF_16 : decode cX1_readF 16 = .ok (.iinc 2 1, 3) := by decide +kernel
theorem dX1_readF_19 : decode cX1_readF 19 = .ok (.goto (-17), 3) := by decide +kernel
theorem dX1_readF_22 : decode cX1_readF 22 = .ok (.iload_n 2, 1) := by decide +kernel
theorem dX1_readF_23 : decode cX1_readF 23 = .ok (.iconst 5, 1) := by decide +kernel
theorem dX1_readF_24 : decode cX1_readF 24 = .ok (.if_icmp .ge 33, 3) := by decide +kernel
theorem dX1_readF_27 : decode cX1_readF 27 = .ok (.aload_n 0, 1) := by decide +kernel
theorem dX1_readF_28 : decode cX1_readF 28 = .ok (.bipush 40, 2) := by decide +kernel
theorem dX1_readF_30 : decode cX1_readF 30 = .ok (.invokevirtual 76, 3) := by decide +kernel
theorem dX1_readF_33 : decode cX1_readF 33 = .ok (.ifCond .eq 24, 3) := by decide +kernel
theorem dX1_readF_36 : decode cX1_readF 36 = .ok (.aload_n 0, 1) := by decide +kernel
theorem dX1_readF_37 : decode cX1_readF 37 = .ok (.iload_n 2, 1) := by decide +kernel
theorem dX1_readF_38 : decode cX1_readF 38 = .ok (.iconst 1, 1) := by decide +kernel
theorem dX1_readF_39 : decode cX1_readF 39 = .ok (.iadd, 1) := by decide +kernel
theorem dX1_readF_40 : decode cX1_readF 40 = .ok (.invokevirtual 102, 3) := by decide +kernel
theorem dX1_readF_43 : decode cX1_readF 43 = .ok (.ifCond .eq 12, 3) := by decide +kernel
theorem dX1_readF_46 : decode cX1_readF 46 = .ok (.aload_n 0, 1) := by decide +kernel
theorem dX1_readF_47 : decode cX1_readF 47 = .ok (.bipush 41, 2) := by decide +kernel
theorem dX1_readF_49 : decode cX1_readF 49 = .ok (.invokevirtual 76, 3) := by decide +kernel
theorem dX1_readF_52 : decode cX1_readF 52 = .ok (.ifCond .ne 130, 3) := by decide +kernel
theorem dX1_readF_55 : decode cX1_readF 55 = .ok (.iconst 0, 1) := by decide +kernel
theorem dX1_readF_56 : decode cX1_readF 56 = .ok (.ireturn, 1) := by decide +kernel
theorem dX1_readF_57 : decode cX1_readF 57 = .ok (.aload_n 0, 1) := by decide +kernel
theorem dX1_readF_58 : decode cX1_readF 58 = .ok (.bipush 104, 2) := by decide +kernel
theorem dX1_readF_60 : decode cX1_readF 60 = .ok (.invokevirtual 76, 3) := by decide +kernel
theorem dX1_readF_63 : decode cX1_readF 63 = .ok (.ifCond .eq 7, 3) := by decide +kernel
theorem dX1_readF_66 : decode cX1_readF 66 = .ok (.iconst 0, 1) := by decide +kernel
theorem dX1_readF_67 : decode cX1_readF 67 = .ok (.goto 30, 3) := by decide +kernel
theorem dX1_readF_70 : decode cX1_readF 70 = .ok (.aload_n 0, 1) := by decide +kernel
theorem dX1_readF_71 : decode cX1_readF 71 = .ok (.bipush 100, 2) := by decide +kernel
theorem dX1_readF_73 : decode cX1_readF 73 = .ok (.invokevirtual 76, 3) := by decide +kernel
theorem dX1_readF_76 : decode cX1_readF 76 = .ok (.ifCond .eq 7, 3) := by decide +kernel
theorem dX1_readF_79 : decode cX1_readF 79 = .ok (.iconst 1, 1) := by decide +kernel
theorem dX1_readF_80 : decode cX1_readF 80 = .ok (.goto 17, 3) := by decide +kernel
theorem dX1_readF_83 : decode cX1_readF 83 = .ok (.aload_n 0, 1) := by decide +kernel
theorem dX1_readF_84 : decode cX1_readF 84 = .ok (.bipush 109, 2) := by decide +kernel
theorem dX1_readF_86 : decode cX1_readF 86 = .ok (.invokevirtual 76, 3) := by decide +kernel
theorem dX1_readF_89 : decode cX1_readF 89 = .ok (.ifCond .eq 7, 3) := by decide +kernel
theorem dX1_readF_92 : decode cX1_readF 92 = .ok (.iconst 2, 1) := by decide +kernel
theorem dX1_readF_93 : decode cX1_readF 93 = .ok (.goto 4, 3) := by decide +kernel
theorem dX1_readF_96 : decode cX1_readF 96 = .ok (.iconst (-1), 1) := by decide +kernel
theorem dX1_readF_97 : decode cX1_readF 97 = .ok (.istore_n 3, 1) := by decide +kernel
theorem dX1_readF_98 : decode cX1_readF 98 = .ok (.iload_n 3, 1) := by decide +kernel
theorem dX1_readF_99 : decode cX1_readF 99 = .ok (.ifCond .ge 7, 3) := by decide +kernel
theorem dX1_readF_102 : decode cX1_readF 102 = .ok (.iconst (-1), 1) := by decide +kernel
theorem dX1_readF_103 : decode cX1_readF 103 = .ok (.goto 43, 3) := by decide +kernel
theorem dX1_readF_106 : decode cX1_readF 106 = .ok (.aload_n 0, 1) := by decide +kernel
theorem dX1_readF_107 : decode cX1_readF 107 = .ok (.bipush 60, 2) := by decide +kernel
theorem dX1_readF_109 : decode cX1_readF 109 = .ok (.invokevirtual 76, 3) := by decide +kernel
theorem dX1_readF_112 : decode cX1_readF 112 = .ok (.ifCond .eq 7, 3) := by decide +kernel
theorem dX1_readF_115 : decode cX1_readF 115 = .ok (.iconst 0, 1) := by decide +kernel
theorem dX1_readF_116 : decode cX1_readF 116 = .ok (.goto 30, 3) := by decide +kernel
theorem dX1_readF_119 : decode cX1_readF 119 = .ok (.aload_n 0, 1) := by decide +kernel
theorem dX1_readF_120 : decode cX1_readF 120 = .ok (.bipush 61, 2) := by decide +kernel
theorem dX1_readF_122 : decode cX1_readF 122 = .ok (.invokevirtual 76, 3) := by decide +kernel
theorem dX1_readF_125 : decode cX1_readF 125 = .ok (.ifCond .eq 7, 3) := by decide +kernel
theorem dX1_readF_128 : decode cX1_readF 128 = .ok (.iconst 1, 1) := by decide +kernel
theorem dX1_readF_129 : decode cX1_readF 129 = .ok (.goto 17, 3) := by decide +kernel
theorem dX1_readF_132 : decode cX1_readF 132 = .ok (.aload_n 0, 1) := by decide +kernel
theorem dX1_readF_133 : decode cX1_readF 133 = .ok (.bipush 62, 2) := by decide +kernel
theorem dX1_readF_135 : decode cX1_readF 135 = .ok (.invokevirtual 76, 3) := by decide +kernel
theorem dX1_readF_138 : decode cX1_readF 138 = .ok (.ifCond .eq 7, 3) := by decide +kernel
theorem dX1_readF_141 : decode cX1_readF 141 = .ok (.iconst 2, 1) := by decide +kernel
theorem dX1_readF_142 : decode cX1_readF 142 = .ok (.goto 4, 3) := by decide +kernel
theorem dX1_readF_145 : decode cX1_readF 145 = .ok (.iconst (-1), 1) := by decide +kernel
theorem dX1_readF_146 : decode cX1_readF 146 = .ok (.istore 4, 2) := by decide +kernel
theorem dX1_readF_148 : decode cX1_readF 148 = .ok (.iload 4, 2) := by decide +kernel
theorem dX1_readF_150 : decode cX1_readF 150 = .ok (.ifCond .ge 7, 3) := by decide +kernel
theorem dX1_readF_153 : decode cX1_readF 153 = .ok (.iconst (-1), 1) := by decide +kernel
theorem dX1_readF_154 : decode cX1_readF 154 = .ok (.goto 7, 3) := by decide +kernel
theorem dX1_readF_157 : decode cX1_readF 157 = .ok (.aload_n 0, 1) := by decide +kernel
theorem dX1_readF_158 : decode cX1_readF 158 = .ok (.invokevirtual 99, 3) := by decide +kernel
theorem dX1_readF_161 : decode cX1_readF 161 = .ok (.istore 5, 2) := by decide +kernel
theorem dX1_readF_163 : decode cX1_readF 163 = .ok (.iload 5, 2) := by decide +kernel
theorem dX1_readF_165 : decode cX1_readF 165 = .ok (.ifCond .ge 5, 3) := by decide +kernel
theorem dX1_readF_168 : decode cX1_readF 168 = .ok (.iconst 0, 1) := by decide +kernel
theorem dX1_readF_169 : decode cX1_readF 169 = .ok (.ireturn, 1) := by decide +kernel
theorem dX1_readF_170 : decode cX1_readF 170 = .ok (.aload_n 0, 1) := by decide +kernel
theorem dX1_readF_171 : decode cX1_readF 171 = .ok (.iconst 3, 1) := by decide +kernel
theorem dX1_readF_172 : decode cX1_readF 172 = .ok (.iload_n 3, 1) := by decide +kernel
theorem dX1_readF_173 : decode cX1_readF 173 = .ok (.imul, 1) := by decide +kernel
theorem dX1_readF_174 : decode cX1_readF 174 = .ok (.iload 4, 2) := by decide +kernel
theorem dX1_readF_176 : decode cX1_readF 176 = .ok (.iadd, 1) := by decide +kernel
theorem dX1_readF_177 : decode cX1_readF 177 = .ok (.iload 5, 2) := by decide +kernel
theorem dX1_readF_179 : decode cX1_readF 179 = .ok (.invokevirtual 105, 3) := by decide +kernel
theorem dX1_readF_182 : decode cX1_readF 182 = .ok (.iload_n 1, 1) := by decide +kernel
theorem dX1_readF_183 : decode cX1_readF 183 = .ok (.istore_n 3, 1) := by decide +kernel
theorem dX1_readF_184 : decode cX1_readF 184 = .ok (.iload_n 3, 1) := by decide +kernel
theorem dX1_readF_185 : decode cX1_readF 185 = .ok (.iload_n 2, 1) := by decide +kernel
theorem dX1_readF_186 : decode cX1_readF 186 = .ok (.if_icmp .ge 16, 3) := by decide +kernel
theorem dX1_readF_189 : decode cX1_readF 189 = .ok (.aload_n 0, 1) := by decide +kernel
theorem dX1_readF_190 : decode cX1_readF 190 = .ok (.bipush 9, 2) := by decide +kernel
theorem dX1_readF_192 : decode cX1_readF 192 = .ok (.iconst 0, 1) := by decide +kernel
theorem dX1_readF_193 : decode cX1_readF 193 = .ok (.invokevirtual 105, 3) := by decide +kernel
theorem dX1_readF_196 : decode cX1_readF 196 = .ok (.iinc 3 1, 3) := by decide +kernel
theorem dX1_readF_199 : decode cX1_readF 199 = .ok (.goto (-15), 3) := by decide +kernel
theorem dX1_readF_202 : decode cX1_readF 202 = .ok (.iconst 1, 1) := by decide +kernel
theorem dX1_readF_203 : decode cX1_readF 203 = .ok (.ireturn, 1) := by decide +kernel
set_option maxRecDepth 100000 in
set_option maxHeartbeats 4000000 in
theorem s_notF {X : zX} (d o n p : Nat) (P : pP) (h : Hp) (k t : Nat) (SF NF tf tp : Nat → Int32) (e : Nat) (T : tRow (zXg X) h k t tp e) (hr : zXr X = rmz (4 + 3 * d)) (B : zB X cX1_readF 6 yX1_readF.cls yX1_readF.name (some .boolean)) (ho : o + n ≤ 5) (hs : p ≤ e) (hl : P.length + n ≤ p) (a3 a4 a5 : Option Value) : AW X 0 0 182 [some (.ref k), some (.int (nI o)), some (.int (nI (o + n))), a3, a4, a5] [] (hC (zXg X) h k t SF NF tf (p, false, P)) (zI fun r h' => r = b2 (!(ntP n (p, false, P)).2.1) ∧ h' = hC (zXg X) h k t SF NF tf (ntP n (p, false, P))) := by
  have he := T.2.2
  have lp : ∀ (m j : Nat) (R : pP), j + m = n → R.length + m ≤ p → AW X 0 0 184 [some (.ref k), some (.int (nI o)), some (.int (nI (o + n))), some (.int (nI (o + j))), a4, a5] [] (hC (zXg X) h k t SF NF tf (p, false, R)) (zI fun r h' => r = b2 (!(ntP m (p, false, R)).2.1) ∧ h' = hC (zXg X) h k t SF NF tf (ntP m (p, false, R))) := by
    intro m
    induction m with
    | zero =>
      intro j R hj hR
      obtain rfl : j = n := by omega
      refine aw_iload_n B 3 rfl dX1_readF_184 rfl ?_
      refine aw_iload_n B 2 rfl dX1_readF_185 rfl ?_
      refine aw_icmp_ge B 202 dX1_readF_186 (fun c186 => ?_) (fun c186 => absurd (Int32.le_refl _) c186)
      refine aw_iconst B 1 (by decide) dX1_readF_202 ?_
      refine aw_iret B rfl rfl dX1_readF_203 ?_
      exact ⟨_, rfl, rfl, rfl⟩
    | succ m ih =>
      intro j R hj hR
      refine aw_iload_n B 3 rfl dX1_readF_184 rfl ?_
      refine aw_iload_n B 2 rfl dX1_readF_185 rfl ?_
      refine aw_icmp_ge B 202 dX1_readF_186 (fun c186 => absurd c186 (Int32.not_le.mpr (show nI (o + j) < nI (o + n) from nI_lt (by omega) (by omega)))) (fun c186 => ?_)
      refine aw_aload_n B 0 rfl dX1_readF_189 rfl ?_
      refine aw_bipush B 9 (by decide) dX1_readF_190 ?_
      refine aw_iconst B 0 (by decide) dX1_readF_192 ?_
      refine aw_callV B 0 0 (s_addStep _ _ _ k t SF NF tf (p, false, R) (9, 0) _ _ (by show R.length < 100; omega) rfl rfl) co_X1_addStep k_X1_105 dX1_readF_193 hC_o rfl rfl rfl rfl (Nat.le_of_ble_eq_true rfl) (zrm hr (by omega)) (Nat.le_refl _) (Nat.le_refl _) (kV fun h193 hp193 => ?_)
      subst hp193
      refine aw_iinc3 B 1 (by decide) dX1_readF_196 ?_
      refine aw_goto B 184 dX1_readF_199 ?_
      rw [nI_1]
      exact ih (j + 1) (R ++ [(9, 0)]) (by omega) (by rw [List.length_append]; show R.length + 1 + m ≤ p; omega)
  refine aw_iload_n B 1 rfl dX1_readF_182 rfl ?_
  refine aw_istore3 B dX1_readF_183 ?_
  exact lp n 0 P (by omega) hl
set_option maxRecDepth 100000 in
set_option maxHeartbeats 4000000 in
theorem s_testF {X : zX} (d o n p : Nat) (P : pP) (h : Hp) (k t : Nat) (SF NF tf tp : Nat → Int32) (e : Nat) (T : tRow (zXg X) h k t tp e) (hr : zXr X = rmz (4 + 3 * d)) (B : zB X cX1_readF 6 yX1_readF.cls yX1_readF.name (some .boolean)) (ho : o + n ≤ 5) (hs : p ≤ e) (hl : P.length + n ≤ p) : AW X 0 0 57 [some (.ref k), some (.int (nI o)), some (.int (nI (o + n))), none, none, none] [] (hC (zXg X) h k t SF NF tf (p, false, P)) (zI fun r h' => r = b2 (!(ntP n (testP tp e (p, false, P))).2.1) ∧ h' = hC (zXg X) h k t SF NF tf (ntP n (testP tp e (p, false, P)))) := by
  have he := T.2.2
  have t2 : ∀ a b : Nat, a < 3 → b < 3 → p + 1 + 1 ≤ e → AW X 0 0 148 [some (.ref k), some (.int (nI o)), some (.int (nI (o + n))), some (.int (nI a)), some (.int (nI b)), none] [] (hC (zXg X) h k t SF NF tf (adv (adv (p, false, P)))) (zI fun r h' => r = b2 (!(ntP n (emP (3 * a + b, (figP tp e (adv (adv (p, false, P)))).1) (figP tp e (adv (adv (p, false, P)))).2)).2.1) ∧ h' = hC (zXg X) h k t SF NF tf (ntP n (emP (3 * a + b, (figP tp e (adv (adv (p, false, P)))).1) (figP tp e (adv (adv (p, false, P)))).2))) := by
    intro a b ha hb hp2
    obtain ⟨g1, g2, g3, g4, -⟩ := fig_gs (tp := tp) (e := e) (s := (adv (adv (p, false, P)))) hp2
    have g2 : p + 1 + 1 ≤ (figP tp e (adv (adv (p, false, P)))).2.1 := g2
    have g4 : (figP tp e (adv (adv (p, false, P)))).2.2.2 = P := g4
    have gw := fig_w (tp := tp) (e := e) (s := (adv (adv (p, false, P)))) rfl
    by_cases hD : bI (48 ≤ hre tp e (adv (adv (p, false, P))) ∧ hre tp e (adv (adv (p, false, P))) ≤ 57) = 0
    · have gw : (figP tp e (adv (adv (p, false, P)))).2.2.1 = true := by rw [gw]; exact decide_eq_true hD
      rw [em_t gw]
      refine aw_iload B dX1_readF_148 rfl ?_
      refine aw_if_ge B 157 dX1_readF_150 (fun c150 => ?_) (fun c150 => absurd (nI_pos' (by omega)) c150)
      refine aw_aload_n B 0 rfl dX1_readF_157 rfl ?_
      refine aw_callV B 0 0 (s_readNumber _ _ _ k t SF NF tf tp e (adv (adv (p, false, P))) T rfl hp2) co_X1_readNumber k_X1_99 dX1_readF_158 hC_o rfl rfl rfl rfl (Nat.le_of_ble_eq_true rfl) (zrm hr (by omega)) (Nat.le_refl _) (Nat.le_refl _) (kI fun r158 h158 hp158 => ?_)
      obtain ⟨rfl, rfl⟩ := hp158
      rw [if_pos hD]
      refine aw_istore5 B dX1_readF_161 ?_
      refine aw_iload B dX1_readF_163 rfl ?_
      refine aw_if_ge B 170 dX1_readF_165 (fun c165 => absurd c165 (by decide)) (fun c165 => ?_)
      refine aw_iconst B 0 (by decide) dX1_readF_168 ?_
      refine aw_iret B rfl rfl dX1_readF_169 ?_
      exact ⟨_, rfl, by rw [nt_t gw, gw]; rfl, by rw [nt_t gw]⟩
    · have gw : (figP tp e (adv (adv (p, false, P)))).2.2.1 = false := by rw [gw]; exact decide_eq_false hD
      rw [em_f gw]
      refine aw_iload B dX1_readF_148 rfl ?_
      refine aw_if_ge B 157 dX1_readF_150 (fun c150 => ?_) (fun c150 => absurd (nI_pos' (by omega)) c150)
      refine aw_aload_n B 0 rfl dX1_readF_157 rfl ?_
      refine aw_callV B 0 0 (s_readNumber _ _ _ k t SF NF tf tp e (adv (adv (p, false, P))) T rfl hp2) co_X1_readNumber k_X1_99 dX1_readF_158 hC_o rfl rfl rfl rfl (Nat.le_of_ble_eq_true rfl) (zrm hr (by omega)) (Nat.le_refl _) (Nat.le_refl _) (kI fun r158 h158 hp158 => ?_)
      obtain ⟨rfl, rfl⟩ := hp158
      rw [if_neg hD]
      refine aw_istore5 B dX1_readF_161 ?_
      refine aw_iload B dX1_readF_163 rfl ?_
      refine aw_if_ge B 170 dX1_readF_165 (fun c165 => ?_) (fun c165 => absurd (nI_pos' (by omega)) c165)
      refine aw_aload_n B 0 rfl dX1_readF_170 rfl ?_
      refine aw_iconst B 3 (by decide) dX1_readF_171 ?_
      refine aw_iload_n B 3 rfl dX1_readF_172 rfl ?_
      refine aw_imul B dX1_readF_173 ?_
      refine aw_iload B dX1_readF_174 rfl ?_
      refine aw_iadd B dX1_readF_176 ?_
      refine aw_iload B dX1_readF_177 rfl ?_
      refine aw_callV B 0 0 (s_addStep _ _ _ k t SF NF tf ((figP tp e (adv (adv (p, false, P)))).2) (3 * a + b, (figP tp e (adv (adv (p, false, P)))).1) _ _ (by rw [g4]; omega) (by rw [show (3 : Int32) * nI a = nI (3 * a) from pk_mul 3 a, nI_add]) rfl) co_X1_addStep k_X1_105 dX1_readF_179 hC_o rfl rfl rfl rfl (Nat.le_of_ble_eq_true rfl) (zrm hr (by omega)) (Nat.le_refl _) (Nat.le_refl _) (kV fun h179 hp179 => ?_)
      subst hp179
      exact s_notF d o n (figP tp e (adv (adv (p, false, P)))).2.1 ((figP tp e (adv (adv (p, false, P)))).2.2.2 ++ [(3 * a + b, (figP tp e (adv (adv (p, false, P)))).1)]) h k t SF NF tf tp e T hr B ho g3 (by rw [List.length_append, g4]; show P.length + 1 + n ≤ _; omega) _ _ _
  have t1 : ∀ a : Nat, a < 3 → p + 1 ≤ e → AW X 0 0 98 [some (.ref k), some (.int (nI o)), some (.int (nI (o + n))), some (.int (nI a)), none, none] [] (hC (zXg X) h k t SF NF tf (adv (p, false, P))) (zI fun r h' => r = b2 (!(ntP n (if am3 60 61 62 (hre tp e (adv (p, false, P))) = 3 then bad (adv (p, false, P)) else emP (3 * a + am3 60 61 62 (hre tp e (adv (p, false, P))), (figP tp e (adv (adv (p, false, P)))).1) (figP tp e (adv (adv (p, false, P)))).2)).2.1) ∧ h' = hC (zXg X) h k t SF NF tf (ntP n (if am3 60 61 62 (hre tp e (adv (p, false, P))) = 3 then bad (adv (p, false, P)) else emP (3 * a + am3 60 61 62 (hre tp e (adv (p, false, P))), (figP tp e (adv (adv (p, false, P)))).1) (figP tp e (adv (adv (p, false, P)))).2))) := by
    intro a ha hp1
    refine aw_iload_n B 3 rfl dX1_readF_98 rfl ?_
    refine aw_if_ge B 106 dX1_readF_99 (fun c99 => ?_) (fun c99 => absurd (nI_pos' (by omega)) c99)
    refine aw_aload_n B 0 rfl dX1_readF_106 rfl ?_
    refine aw_bipush B 60 (by decide) dX1_readF_107 ?_
    refine aw_callV B 0 0 (s_skip _ _ _ k t SF NF tf tp e (adv (p, false, P)) 60 T hp1) co_X1_skip k_X1_76 dX1_readF_109 hC_o rfl rfl rfl rfl (Nat.le_of_ble_eq_true rfl) (zrm hr (by omega)) (Nat.le_refl _) (Nat.le_refl _) (kI fun r109 h109 hp109 => ?_)
    obtain ⟨rfl, rfl⟩ := hp109
    refine aw_if_eq B 119 dX1_readF_112 (fun c112 => ?_) (fun c112 => ?_)
    · rw [if_neg (sk_m c112)]
      refine aw_aload_n B 0 rfl dX1_readF_119 rfl ?_
      refine aw_bipush B 61 (by decide) dX1_readF_120 ?_
      refine aw_callV B 0 0 (s_skip _ _ _ k t SF NF tf tp e (adv (p, false, P)) 61 T hp1) co_X1_skip k_X1_76 dX1_readF_122 hC_o rfl rfl rfl rfl (Nat.le_of_ble_eq_true rfl) (zrm hr (by omega)) (Nat.le_refl _) (Nat.le_refl _) (kI fun r122 h122 hp122 => ?_)
      obtain ⟨rfl, rfl⟩ := hp122
      refine aw_if_eq B 132 dX1_readF_125 (fun c125 => ?_) (fun c125 => ?_)
      · rw [if_neg (sk_m c125)]
        refine aw_aload_n B 0 rfl dX1_readF_132 rfl ?_
        refine aw_bipush B 62 (by decide) dX1_readF_133 ?_
        refine aw_callV B 0 0 (s_skip _ _ _ k t SF NF tf tp e (adv (p, false, P)) 62 T hp1) co_X1_skip k_X1_76 dX1_readF_135 hC_o rfl rfl rfl rfl (Nat.le_of_ble_eq_true rfl) (zrm hr (by omega)) (Nat.le_refl _) (Nat.le_refl _) (kI fun r135 h135 hp135 => ?_)
        obtain ⟨rfl, rfl⟩ := hp135
        refine aw_if_eq B 145 dX1_readF_138 (fun c138 => ?_) (fun c138 => ?_)
        · rw [if_neg (sk_m c138), am3_3 (sk_m c112) (sk_m c125) (sk_m c138), if_pos rfl]
          refine aw_iconst B (-1) (by decide) dX1_readF_145 ?_
          refine aw_istore4 B dX1_readF_146 ?_
          refine aw_iload B dX1_readF_148 rfl ?_
          refine aw_if_ge B 157 dX1_readF_150 (fun c150 => absurd c150 (by decide)) (fun c150 => ?_)
          refine aw_iconst B (-1) (by decide) dX1_readF_153 ?_
          refine aw_goto B 161 dX1_readF_154 ?_
          refine aw_istore5 B dX1_readF_161 ?_
          refine aw_iload B dX1_readF_163 rfl ?_
          refine aw_if_ge B 170 dX1_readF_165 (fun c165 => absurd c165 (by decide)) (fun c165 => ?_)
          refine aw_iconst B 0 (by decide) dX1_readF_168 ?_
          refine aw_iret B rfl rfl dX1_readF_169 ?_
          exact ⟨_, rfl, by rw [nt_b]; rfl, by rw [nt_b]; rfl⟩
        · have hlt : p + 1 + 1 ≤ e := hr_lt (s := (adv (p, false, P))) (sk_h c138) (by decide)
          rw [if_pos (sk_h c138), am3_2 (sk_m c112) (sk_m c125) (sk_h c138), if_neg (show ¬ 2 = 3 by decide)]
          refine aw_iconst B 2 (by decide) dX1_readF_141 ?_
          refine aw_goto B 146 dX1_readF_142 ?_
          refine aw_istore4 B dX1_readF_146 ?_
          exact t2 a 2 ha (by decide) hlt
      · have hlt : p + 1 + 1 ≤ e := hr_lt (s := (adv (p, false, P))) (sk_h c125) (by decide)
        rw [if_pos (sk_h c125), am3_1 (sk_m c112) (sk_h c125), if_neg (show ¬ 1 = 3 by decide)]
        refine aw_iconst B 1 (by decide) dX1_readF_128 ?_
        refine aw_goto B 146 dX1_readF_129 ?_
        refine aw_istore4 B dX1_readF_146 ?_
        exact t2 a 1 ha (by decide) hlt
    · have hlt : p + 1 + 1 ≤ e := hr_lt (s := (adv (p, false, P))) (sk_h c112) (by decide)
      rw [if_pos (sk_h c112), am3_0 (sk_h c112), if_neg (show ¬ 0 = 3 by decide)]
      refine aw_iconst B 0 (by decide) dX1_readF_115 ?_
      refine aw_goto B 146 dX1_readF_116 ?_
      refine aw_istore4 B dX1_readF_146 ?_
      exact t2 a 0 ha (by decide) hlt
  refine aw_aload_n B 0 rfl dX1_readF_57 rfl ?_
  refine aw_bipush B 104 (by decide) dX1_readF_58 ?_
  refine aw_callV B 0 0 (s_skip _ _ _ k t SF NF tf tp e (p, false, P) 104 T hs) co_X1_skip k_X1_76 dX1_readF_60 hC_o rfl rfl rfl rfl (Nat.le_of_ble_eq_true rfl) (zrm hr (by omega)) (Nat.le_refl _) (Nat.le_refl _) (kI fun r60 h60 hp60 => ?_)
  obtain ⟨rfl, rfl⟩ := hp60
  refine aw_if_eq B 70 dX1_readF_63 (fun c63 => ?_) (fun c63 => ?_)
  · rw [if_neg (sk_m c63)]
    refine aw_aload_n B 0 rfl dX1_readF_70 rfl ?_
    refine aw_bipush B 100 (by decide) dX1_readF_71 ?_
    refine aw_callV B 0 0 (s_skip _ _ _ k t SF NF tf tp e (p, false, P) 100 T hs) co_X1_skip k_X1_76 dX1_readF_73 hC_o rfl rfl rfl rfl (Nat.le_of_ble_eq_true rfl) (zrm hr (by omega)) (Nat.le_refl _) (Nat.le_refl _) (kI fun r73 h73 hp73 => ?_)
    obtain ⟨rfl, rfl⟩ := hp73
    refine aw_if_eq B 83 dX1_readF_76 (fun c76 => ?_) (fun c76 => ?_)
    · rw [if_neg (sk_m c76)]
      refine aw_aload_n B 0 rfl dX1_readF_83 rfl ?_
      refine aw_bipush B 109 (by decide) dX1_readF_84 ?_
      refine aw_callV B 0 0 (s_skip _ _ _ k t SF NF tf tp e (p, false, P) 109 T hs) co_X1_skip k_X1_76 dX1_readF_86 hC_o rfl rfl rfl rfl (Nat.le_of_ble_eq_true rfl) (zrm hr (by omega)) (Nat.le_refl _) (Nat.le_refl _) (kI fun r86 h86 hp86 => ?_)
      obtain ⟨rfl, rfl⟩ := hp86
      refine aw_if_eq B 96 dX1_readF_89 (fun c89 => ?_) (fun c89 => ?_)
      · rw [if_neg (sk_m c89), show testP tp e (p, false, P) = bad (p, false, P) from by unfold testP; rw [am3_3 (sk_m c63) (sk_m c76) (sk_m c89), if_pos rfl]]
        refine aw_iconst B (-1) (by decide) dX1_readF_96 ?_
        refine aw_istore3 B dX1_readF_97 ?_
        refine aw_iload_n B 3 rfl dX1_readF_98 rfl ?_
        refine aw_if_ge B 106 dX1_readF_99 (fun c99 => absurd c99 (by decide)) (fun c99 => ?_)
        refine aw_iconst B (-1) (by decide) dX1_readF_102 ?_
        refine aw_goto B 146 dX1_readF_103 ?_
        refine aw_istore4 B dX1_readF_146 ?_
        refine aw_iload B dX1_readF_148 rfl ?_
        refine aw_if_ge B 157 dX1_readF_150 (fun c150 => absurd c150 (by decide)) (fun c150 => ?_)
        refine aw_iconst B (-1) (by decide) dX1_readF_153 ?_
        refine aw_goto B 161 dX1_readF_154 ?_
        refine aw_istore5 B dX1_readF_161 ?_
        refine aw_iload B dX1_readF_163 rfl ?_
        refine aw_if_ge B 170 dX1_readF_165 (fun c165 => absurd c165 (by decide)) (fun c165 => ?_)
        refine aw_iconst B 0 (by decide) dX1_readF_168 ?_
        refine aw_iret B rfl rfl dX1_readF_169 ?_
        exact ⟨_, rfl, by rw [nt_b]; rfl, by rw [nt_b]; rfl⟩
      · have hlt : p + 1 ≤ e := hr_lt (s := (p, false, P)) (sk_h c89) (by decide)
        rw [if_pos (sk_h c89), show testP tp e (p, false, P) = (if am3 60 61 62 (hre tp e (adv (p, false, P))) = 3 then bad (adv (p, false, P)) else emP (3 * 2 + am3 60 61 62 (hre tp e (adv (p, false, P))), (figP tp e (adv (adv (p, false, P)))).1) (figP tp e (adv (adv (p, false, P)))).2) from by unfold testP; rw [am3_2 (sk_m c63) (sk_m c76) (sk_h c89), if_neg (show ¬ 2 = 3 by decide)]]
        refine aw_iconst B 2 (by decide) dX1_readF_92 ?_
        refine aw_goto B 97 dX1_readF_93 ?_
        refine aw_istore3 B dX1_readF_97 ?_
        exact t1 2 (by decide) hlt
    · have hlt : p + 1 ≤ e := hr_lt (s := (p, false, P)) (sk_h c76) (by decide)
      rw [if_pos (sk_h c76), show testP tp e (p, false, P) = (if am3 60 61 62 (hre tp e (adv (p, false, P))) = 3 then bad (adv (p, false, P)) else emP (3 * 1 + am3 60 61 62 (hre tp e (adv (p, false, P))), (figP tp e (adv (adv (p, false, P)))).1) (figP tp e (adv (adv (p, false, P)))).2) from by unfold testP; rw [am3_1 (sk_m c63) (sk_h c76), if_neg (show ¬ 1 = 3 by decide)]]
      refine aw_iconst B 1 (by decide) dX1_readF_79 ?_
      refine aw_goto B 97 dX1_readF_80 ?_
      refine aw_istore3 B dX1_readF_97 ?_
      exact t1 1 (by decide) hlt
  · have hlt : p + 1 ≤ e := hr_lt (s := (p, false, P)) (sk_h c63) (by decide)
    rw [if_pos (sk_h c63), show testP tp e (p, false, P) = (if am3 60 61 62 (hre tp e (adv (p, false, P))) = 3 then bad (adv (p, false, P)) else emP (3 * 0 + am3 60 61 62 (hre tp e (adv (p, false, P))), (figP tp e (adv (adv (p, false, P)))).1) (figP tp e (adv (adv (p, false, P)))).2) from by unfold testP; rw [am3_0 (sk_h c63), if_neg (show ¬ 0 = 3 by decide)]]
    refine aw_iconst B 0 (by decide) dX1_readF_66 ?_
    refine aw_goto B 97 dX1_readF_67 ?_
    refine aw_istore3 B dX1_readF_97 ?_
    exact t1 0 (by decide) hlt
def RdF (l : Launch) (g : zG) (h : Hp) (k t : Nat) (SF NF tf : Nat → Int32) (e o df : Nat) (sub : pst → pst) : Prop := ∀ s : pst, s.2.1 = false → s.1 ≤ e → s.2.2.length ≤ s.1 → Sp l g yX1_readF cX1_readF 6 (some .boolean) (rmz df) [.ref k, .int (nI o)] (hC g h k t SF NF tf s) (zI fun r h' => r = b2 (!(sub s).2.1) ∧ h' = hC g h k t SF NF tf (sub s))
def RdT (l : Launch) (g : zG) (h : Hp) (k t : Nat) (SF NF tf : Nat → Int32) (e o df : Nat) (sub : pst → pst) : Prop := ∀ s : pst, s.2.1 = false → s.1 ≤ e → s.2.2.length ≤ s.1 → Sp l g yX1_readT cX1_readT 3 (some .boolean) (rmz df) [.ref k, .int (nI o)] (hC g h k t SF NF tf s) (zI fun r h' => r = b2 (!(sub s).2.1) ∧ h' = hC g h k t SF NF tf (sub s))
def RdE (l : Launch) (g : zG) (h : Hp) (k t : Nat) (SF NF tf : Nat → Int32) (e o df : Nat) (sub : pst → pst) : Prop := ∀ s : pst, s.2.1 = false → s.1 ≤ e → s.2.2.length ≤ s.1 → Sp l g yX1_readE cX1_readE 3 (some .boolean) (rmz df) [.ref k, .int (nI o)] (hC g h k t SF NF tf s) (zI fun r h' => r = b2 (!(sub s).2.1) ∧ h' = hC g h k t SF NF tf (sub s))
theorem dX1_readT_0 : decode cX1_readT 0 = .ok (.aload_n 0, 1) := by decide +kernel
theorem dX1_readT_1 : decode cX1_readT 1 = .ok (.iload_n 1, 1) := by decide +kernel
theorem dX1_readT_2 : decode cX1_readT 2 = .ok (.invokevirtual 112, 3) := by decide +kernel
theorem dX1_readT_5 : decode cX1_readT 5 = .ok (.ifCond .ne 5, 3) := by decide +kernel
theorem dX1_readT_8 : decode cX1_readT 8 = .ok (.iconst 0, 1) := by decide +kernel
theorem dX1_readT_9 : decode cX1_readT 9 = .ok (.ireturn, 1) := by decide +kernel
theorem dX1_readT_10 : decode cX1_readT 10 = .ok (.iconst 0, 1) := by decide +kernel
theorem dX1_readT_11 : decode cX1_readT 11 = .ok (.istore_n 2, 1) := by decide +kernel
theorem dX1_readT_12 : decode cX1_readT 12 = .ok (.iload_n 2, 1) := by decide +kernel
theorem dX1_readT_13 : decode cX1_readT 13 = .ok (.bipush 100, 2) := by decide +kernel
theorem dX1_readT_15 : decode cX1_readT 15 = .ok (.if_icmp .ge 35, 3) := by decide +kernel
theorem dX1_readT_18 : decode cX1_readT 18 = .ok (.aload_n 0, 1) := by decide +kernel
theorem dX1_readT_19 : decode cX1_readT 19 = .ok (.bipush 38, 2) := by decide +kernel
theorem dX1_readT_21 : decode cX1_readT 21 = .ok (.invokevirtual 76, 3) := by decide +kernel
theorem dX1_readT_24 : decode cX1_readT 24 = .ok (.ifCond .eq 26, 3) := by decide +kernel
theorem dX1_readT_27 : decode cX1_readT 27 = .ok (.aload_n 0, 1) := by decide +kernel
theorem dX1_readT_28 : decode cX1_readT 28 = .ok (.iload_n 1, 1) := by decide +kernel
theorem dX1_readT_29 : decode cX1_readT 29 = .ok (.invokevirtual 112, 3) := by decide +kernel
theorem dX1_readT_32 : decode cX1_readT 32 = .ok (.ifCond .ne 5, 3) := by decide +kernel
theorem dX1_readT_35 : decode cX1_readT 35 = .ok (.iconst 0, 1) := by decide +kernel
theorem dX1_readT_36 : decode cX1_readT 36 = .ok (.ireturn, 1) := by decide +kernel
theorem dX1_readT_37 : decode cX1_readT 37 = .ok (.aload_n 0, 1) := by decide +kernel
theorem dX1_readT_38 : decode cX1_readT 38 = .ok (.bipush 10, 2) := by decide +kernel
theorem dX1_readT_40 : decode cX1_readT 40 = .ok (.iconst 0, 1) := by decide +kernel
theorem dX1_readT_41 : decode cX1_readT 41 = .ok (.invokevirtual 105, 3) := by decide +kernel
theorem dX1_readT_44 : decode cX1_readT 44 = .ok (.iinc 2 1, 3) := by decide +kernel
theorem dX1_readT_47 : decode cX1_readT 47 = .ok (.goto (-35), 3) := by decide +kernel
theorem dX1_readT_50 : decode cX1_readT 50 = .ok (.iconst 1, 1) := by decide +kernel
theorem dX1_readT_51 : decode cX1_readT 51 = .ok (.ireturn, 1) := by decide +kernel
set_option maxRecDepth 100000 in
set_option maxHeartbeats 4000000 in
theorem s_readT (l : Launch) (g : zG) (h : Hp) (k t : Nat) (SF NF tf tp : Nat → Int32) (e : Nat) (o df j : Nat) (sub : pst → pst) (T : tRow g h k t tp e) (hd : 2 ≤ df) (hg : gd e (seg j) sub) (Hf : RdF l g h k t SF NF tf e o df sub) (s : pst) (hw : s.2.1 = false) (hs : s.1 ≤ e) (hl : s.2.2.length ≤ s.1) : Sp l g yX1_readT cX1_readT 3 (some .boolean) (rmz (df + 1)) [.ref k, .int (nI o)] (hC g h k t SF NF tf s) (zI fun r h' => r = b2 (!(tailP tp e sub 38 10 100 (sub s)).2.1) ∧ h' = hC g h k t SF NF tf (tailP tp e sub 38 10 100 (sub s))) := by
  refine Sp.of [some (.ref k), some (.int (nI o)), none] (by decide) (Nat.le_of_ble_eq_true rfl) rfl rfl ?_
  rintro X rfl hr rfl B
  show AW X 0 0 0 _ _ _ _
  have he := T.2.2
  have lp : ∀ (f i : Nat) (s : pst), i + f = 100 → s.2.1 = false → s.1 ≤ e → s.2.2.length ≤ s.1 → AW X 0 0 12 [some (.ref k), some (.int (nI o)), some (.int (nI i))] [] (hC (zXg X) h k t SF NF tf s) (zI fun r h' => r = b2 (!(tailP tp e sub 38 10 f s).2.1) ∧ h' = hC (zXg X) h k t SF NF tf (tailP tp e sub 38 10 f s)) := by
    intro f
    induction f with
    | zero =>
      intro i s hi hw hs hl
      obtain rfl : i = 100 := by omega
      refine aw_iload_n B 2 rfl dX1_readT_12 rfl ?_
      refine aw_bipush B 100 (by decide) dX1_readT_13 ?_
      refine aw_icmp_ge B 50 dX1_readT_15 (fun c15 => ?_) (fun c15 => absurd (by decide) c15)
      refine aw_iconst B 1 (by decide) dX1_readT_50 ?_
      refine aw_iret B rfl rfl dX1_readT_51 ?_
      exact ⟨_, rfl, by show _ = b2 (!s.2.1); rw [hw]; rfl, rfl⟩
    | succ f ih =>
      intro i s hi hw hs hl
      obtain ⟨p, w, P⟩ := s
      cases hw
      have hl : P.length ≤ p := hl
      refine aw_iload_n B 2 rfl dX1_readT_12 rfl ?_
      refine aw_bipush B 100 (by decide) dX1_readT_13 ?_
      refine aw_icmp_ge B 50 dX1_readT_15 (fun c15 => absurd c15 (Int32.not_le.mpr (show nI i < nI 100 from nI_lt (by omega) (by decide)))) (fun c15 => ?_)
      refine aw_aload_n B 0 rfl dX1_readT_18 rfl ?_
      refine aw_bipush B 38 (by decide) dX1_readT_19 ?_
      refine aw_callV B 0 0 (s_skip _ _ _ k t SF NF tf tp e (p, false, P) 38 T hs) co_X1_skip k_X1_76 dX1_readT_21 hC_o rfl rfl rfl rfl (Nat.le_of_ble_eq_true rfl) (zrm hr (by omega)) (Nat.le_refl _) (Nat.le_refl _) (kI fun r21 h21 hp21 => ?_)
      obtain ⟨rfl, rfl⟩ := hp21
      refine aw_if_eq B 50 dX1_readT_24 (fun c24 => ?_) (fun c24 => ?_)
      · refine aw_iconst B 1 (by decide) dX1_readT_50 ?_
        refine aw_iret B rfl rfl dX1_readT_51 ?_
        exact ⟨_, rfl, by rw [tailP, if_neg Bool.false_ne_true, if_neg (sk_m c24)]; rfl, by rw [if_neg (sk_m c24), tailP, if_neg Bool.false_ne_true, if_neg (sk_m c24)]⟩
      · have hlt : p + 1 ≤ e := hr_lt (s := (p, false, P)) (sk_h c24) (by decide)
        obtain ⟨q1, q2, q3⟩ := gd_ok1 hg hlt hl
        rw [if_pos (sk_h c24)]
        refine aw_aload_n B 0 rfl dX1_readT_27 rfl ?_
        refine aw_iload_n B 1 rfl dX1_readT_28 rfl ?_
        refine aw_callV B 0 0 (Hf (p + 1, false, P) rfl hlt (by show P.length ≤ p + 1; omega)) co_X1_readF k_X1_112 dX1_readT_29 hC_o rfl rfl rfl rfl (Nat.le_of_ble_eq_true rfl) (zrm hr (by omega)) (Nat.le_refl _) (Nat.le_refl _) (kI fun r29 h29 hp29 => ?_)
        obtain ⟨rfl, rfl⟩ := hp29
        refine aw_if_ne B 37 dX1_readT_32 (fun c32 => ?_) (fun c32 => ?_)
        · refine aw_aload_n B 0 rfl dX1_readT_37 rfl ?_
          refine aw_bipush B 10 (by decide) dX1_readT_38 ?_
          refine aw_iconst B 0 (by decide) dX1_readT_40 ?_
          refine aw_callV B 0 0 (s_addStep _ _ _ k t SF NF tf ((sub (p + 1, false, P))) (10, 0) _ _ (by omega) rfl rfl) co_X1_addStep k_X1_105 dX1_readT_41 hC_o rfl rfl rfl rfl (Nat.le_of_ble_eq_true rfl) (zrm hr (by omega)) (Nat.le_refl _) (Nat.le_refl _) (kV fun h41 hp41 => ?_)
          subst hp41
          refine aw_iinc2 B 1 (by decide) dX1_readT_44 ?_
          refine aw_goto B 12 dX1_readT_47 ?_
          have hq := bn_f c32
          rw [nI_1, show tailP tp e sub 38 10 (f + 1) (p, false, P) = tailP tp e sub 38 10 f ((sub (p + 1, false, P)).1, false, (sub (p + 1, false, P)).2.2 ++ [(10, 0)]) from by
            rw [tailP, if_neg Bool.false_ne_true, if_pos (sk_h c24)]
            show tailP tp e sub 38 10 f (emP (10, 0) (sub (p + 1, false, P))) = _
            rw [em_f hq]]
          exact ih (i + 1) ((sub (p + 1, false, P)).1, false, (sub (p + 1, false, P)).2.2 ++ [(10, 0)]) (by omega) rfl q1 (by show ((sub (p + 1, false, P)).2.2 ++ [_]).length ≤ (sub (p + 1, false, P)).1; rw [List.length_append]; exact q2)
        · refine aw_iconst B 0 (by decide) dX1_readT_35 ?_
          refine aw_iret B rfl rfl dX1_readT_36 ?_
          have hq := bn_t c32
          have et : tailP tp e sub 38 10 (f + 1) (p, false, P) = (sub (p + 1, false, P)) := by
            rw [tailP, if_neg Bool.false_ne_true, if_pos (sk_h c24)]
            show tailP tp e sub 38 10 f (emP (10, 0) (sub (p + 1, false, P))) = _
            rw [em_t hq, tail_t hq]
          exact ⟨_, rfl, by rw [et, hq]; rfl, by rw [et]⟩
  obtain ⟨q1, q2, q3⟩ := gd_ok hg hs hl
  refine aw_aload_n B 0 rfl dX1_readT_0 rfl ?_
  refine aw_iload_n B 1 rfl dX1_readT_1 rfl ?_
  refine aw_callV B 0 0 (Hf s hw hs hl) co_X1_readF k_X1_112 dX1_readT_2 hC_o rfl rfl rfl rfl (Nat.le_of_ble_eq_true rfl) (zrm hr (by omega)) (Nat.le_refl _) (Nat.le_refl _) (kI fun r2 h2 hp2 => ?_)
  obtain ⟨rfl, rfl⟩ := hp2
  refine aw_if_ne B 10 dX1_readT_5 (fun c5 => ?_) (fun c5 => ?_)
  · refine aw_iconst B 0 (by decide) dX1_readT_10 ?_
    refine aw_istore2 B dX1_readT_11 ?_
    exact lp 100 0 (sub s) rfl (bn_f c5) q1 q2
  · refine aw_iconst B 0 (by decide) dX1_readT_8 ?_
    refine aw_iret B rfl rfl dX1_readT_9 ?_
    exact ⟨_, rfl, by rw [tail_t (bn_t c5), bn_t c5]; rfl, by rw [tail_t (bn_t c5)]⟩
theorem dX1_readE_0 : decode cX1_readE 0 = .ok (.aload_n 0, 1) := by decide +kernel
theorem dX1_readE_1 : decode cX1_readE 1 = .ok (.iload_n 1, 1) := by decide +kernel
theorem dX1_readE_2 : decode cX1_readE 2 = .ok (.invokevirtual 109, 3) := by decide +kernel
theorem dX1_readE_5 : decode cX1_readE 5 = .ok (.ifCond .ne 5, 3) := by decide +kernel
theorem dX1_readE_8 : decode cX1_readE 8 = .ok (.iconst 0, 1) := by decide +kernel
theorem dX1_readE_9 : decode cX1_readE 9 = .ok (.ireturn, 1) := by decide +kernel
theorem dX1_readE_10 : decode cX1_readE 10 = .ok (.iconst 0, 1) := by decide +kernel
theorem dX1_readE_11 : decode cX1_readE 11 = .ok (.istore_n 2, 1) := by decide +kernel
theorem dX1_readE_12 : decode cX1_readE 12 = .ok (.iload_n 2, 1) := by decide +kernel
theorem dX1_readE_13 : decode cX1_readE 13 = .ok (.bipush 100, 2) := by decide +kernel
theorem dX1_readE_15 : decode cX1_readE 15 = .ok (.if_icmp .ge 35, 3) := by decide +kernel
theorem dX1_readE_18 : decode cX1_readE 18 = .ok (.aload_n 0, 1) := by decide +kernel
theorem dX1_readE_19 : decode cX1_readE 19 = .ok (.bipush 124, 2) := by decide +kernel
theorem dX1_readE_21 : decode cX1_readE 21 = .ok (.invokevirtual 76, 3) := by decide +kernel
theorem dX1_readE_24 : decode cX1_readE 24 = .ok (.ifCond .eq 26, 3) := by decide +kernel
theorem dX1_readE_27 : decode cX1_readE 27 = .ok (.aload_n 0, 1) := by decide +kernel
theorem dX1_readE_28 : decode cX1_readE 28 = .ok (.iload_n 1, 1) := by decide +kernel
theorem dX1_readE_29 : decode cX1_readE 29 = .ok (.invokevirtual 109, 3) := by decide +kernel
theorem dX1_readE_32 : decode cX1_readE 32 = .ok (.ifCond .ne 5, 3) := by decide +kernel
theorem dX1_readE_35 : decode cX1_readE 35 = .ok (.iconst 0, 1) := by decide +kernel
theorem dX1_readE_36 : decode cX1_readE 36 = .ok (.ireturn, 1) := by decide +kernel
theorem dX1_readE_37 : decode cX1_readE 37 = .ok (.aload_n 0, 1) := by decide +kernel
theorem dX1_readE_38 : decode cX1_readE 38 = .ok (.bipush 11, 2) := by decide +kernel
theorem dX1_readE_40 : decode cX1_readE 40 = .ok (.iconst 0, 1) := by decide +kernel
theorem dX1_readE_41 : decode cX1_readE 41 = .ok (.invokevirtual 105, 3) := by decide +kernel
theorem dX1_readE_44 : decode cX1_readE 44 = .ok (.iinc 2 1, 3) := by decide +kernel
theorem dX1_readE_47 : decode cX1_readE 47 = .ok (.goto (-35), 3) := by decide +kernel
theorem dX1_readE_50 : decode cX1_readE 50 = .ok (.iconst 1, 1) := by decide +kernel
theorem dX1_readE_51 : decode cX1_readE 51 = .ok (.ireturn, 1) := by decide +kernel
set_option maxRecDepth 100000 in
set_option maxHeartbeats 4000000 in
theorem s_readE (l : Launch) (g : zG) (h : Hp) (k t : Nat) (SF NF tf tp : Nat → Int32) (e : Nat) (o df j : Nat) (sub : pst → pst) (T : tRow g h k t tp e) (hd : 2 ≤ df) (hg : gd e (seg j) sub) (Hf : RdT l g h k t SF NF tf e o df sub) (s : pst) (hw : s.2.1 = false) (hs : s.1 ≤ e) (hl : s.2.2.length ≤ s.1) : Sp l g yX1_readE cX1_readE 3 (some .boolean) (rmz (df + 1)) [.ref k, .int (nI o)] (hC g h k t SF NF tf s) (zI fun r h' => r = b2 (!(tailP tp e sub 124 11 100 (sub s)).2.1) ∧ h' = hC g h k t SF NF tf (tailP tp e sub 124 11 100 (sub s))) := by
  refine Sp.of [some (.ref k), some (.int (nI o)), none] (by decide) (Nat.le_of_ble_eq_true rfl) rfl rfl ?_
  rintro X rfl hr rfl B
  show AW X 0 0 0 _ _ _ _
  have he := T.2.2
  have lp : ∀ (f i : Nat) (s : pst), i + f = 100 → s.2.1 = false → s.1 ≤ e → s.2.2.length ≤ s.1 → AW X 0 0 12 [some (.ref k), some (.int (nI o)), some (.int (nI i))] [] (hC (zXg X) h k t SF NF tf s) (zI fun r h' => r = b2 (!(tailP tp e sub 124 11 f s).2.1) ∧ h' = hC (zXg X) h k t SF NF tf (tailP tp e sub 124 11 f s)) := by
    intro f
    induction f with
    | zero =>
      intro i s hi hw hs hl
      obtain rfl : i = 100 := by omega
      refine aw_iload_n B 2 rfl dX1_readE_12 rfl ?_
      refine aw_bipush B 100 (by decide) dX1_readE_13 ?_
      refine aw_icmp_ge B 50 dX1_readE_15 (fun c15 => ?_) (fun c15 => absurd (by decide) c15)
      refine aw_iconst B 1 (by decide) dX1_readE_50 ?_
      refine aw_iret B rfl rfl dX1_readE_51 ?_
      exact ⟨_, rfl, by show _ = b2 (!s.2.1); rw [hw]; rfl, rfl⟩
    | succ f ih =>
      intro i s hi hw hs hl
      obtain ⟨p, w, P⟩ := s
      cases hw
      have hl : P.length ≤ p := hl
      refine aw_iload_n B 2 rfl dX1_readE_12 rfl ?_
      refine aw_bipush B 100 (by decide) dX1_readE_13 ?_
      refine aw_icmp_ge B 50 dX1_readE_15 (fun c15 => absurd c15 (Int32.not_le.mpr (show nI i < nI 100 from nI_lt (by omega) (by decide)))) (fun c15 => ?_)
      refine aw_aload_n B 0 rfl dX1_readE_18 rfl ?_
      refine aw_bipush B 124 (by decide) dX1_readE_19 ?_
      refine aw_callV B 0 0 (s_skip _ _ _ k t SF NF tf tp e (p, false, P) 124 T hs) co_X1_skip k_X1_76 dX1_readE_21 hC_o rfl rfl rfl rfl (Nat.le_of_ble_eq_true rfl) (zrm hr (by omega)) (Nat.le_refl _) (Nat.le_refl _) (kI fun r21 h21 hp21 => ?_)
      obtain ⟨rfl, rfl⟩ := hp21
      refine aw_if_eq B 50 dX1_readE_24 (fun c24 => ?_) (fun c24 => ?_)
      · refine aw_iconst B 1 (by decide) dX1_readE_50 ?_
        refine aw_iret B rfl rfl dX1_readE_51 ?_
        exact ⟨_, rfl, by rw [tailP, if_neg Bool.false_ne_true, if_neg (sk_m c24)]; rfl, by rw [if_neg (sk_m c24), tailP, if_neg Bool.false_ne_true, if_neg (sk_m c24)]⟩
      · have hlt : p + 1 ≤ e := hr_lt (s := (p, false, P)) (sk_h c24) (by decide)
        obtain ⟨q1, q2, q3⟩ := gd_ok1 hg hlt hl
        rw [if_pos (sk_h c24)]
        refine aw_aload_n B 0 rfl dX1_readE_27 rfl ?_
        refine aw_iload_n B 1 rfl dX1_readE_28 rfl ?_
        refine aw_callV B 0 0 (Hf (p + 1, false, P) rfl hlt (by show P.length ≤ p + 1; omega)) co_X1_readT k_X1_109 dX1_readE_29 hC_o rfl rfl rfl rfl (Nat.le_of_ble_eq_true rfl) (zrm hr (by omega)) (Nat.le_refl _) (Nat.le_refl _) (kI fun r29 h29 hp29 => ?_)
        obtain ⟨rfl, rfl⟩ := hp29
        refine aw_if_ne B 37 dX1_readE_32 (fun c32 => ?_) (fun c32 => ?_)
        · refine aw_aload_n B 0 rfl dX1_readE_37 rfl ?_
          refine aw_bipush B 11 (by decide) dX1_readE_38 ?_
          refine aw_iconst B 0 (by decide) dX1_readE_40 ?_
          refine aw_callV B 0 0 (s_addStep _ _ _ k t SF NF tf ((sub (p + 1, false, P))) (11, 0) _ _ (by omega) rfl rfl) co_X1_addStep k_X1_105 dX1_readE_41 hC_o rfl rfl rfl rfl (Nat.le_of_ble_eq_true rfl) (zrm hr (by omega)) (Nat.le_refl _) (Nat.le_refl _) (kV fun h41 hp41 => ?_)
          subst hp41
          refine aw_iinc2 B 1 (by decide) dX1_readE_44 ?_
          refine aw_goto B 12 dX1_readE_47 ?_
          have hq := bn_f c32
          rw [nI_1, show tailP tp e sub 124 11 (f + 1) (p, false, P) = tailP tp e sub 124 11 f ((sub (p + 1, false, P)).1, false, (sub (p + 1, false, P)).2.2 ++ [(11, 0)]) from by
            rw [tailP, if_neg Bool.false_ne_true, if_pos (sk_h c24)]
            show tailP tp e sub 124 11 f (emP (11, 0) (sub (p + 1, false, P))) = _
            rw [em_f hq]]
          exact ih (i + 1) ((sub (p + 1, false, P)).1, false, (sub (p + 1, false, P)).2.2 ++ [(11, 0)]) (by omega) rfl q1 (by show ((sub (p + 1, false, P)).2.2 ++ [_]).length ≤ (sub (p + 1, false, P)).1; rw [List.length_append]; exact q2)
        · refine aw_iconst B 0 (by decide) dX1_readE_35 ?_
          refine aw_iret B rfl rfl dX1_readE_36 ?_
          have hq := bn_t c32
          have et : tailP tp e sub 124 11 (f + 1) (p, false, P) = (sub (p + 1, false, P)) := by
            rw [tailP, if_neg Bool.false_ne_true, if_pos (sk_h c24)]
            show tailP tp e sub 124 11 f (emP (11, 0) (sub (p + 1, false, P))) = _
            rw [em_t hq, tail_t hq]
          exact ⟨_, rfl, by rw [et, hq]; rfl, by rw [et]⟩
  obtain ⟨q1, q2, q3⟩ := gd_ok hg hs hl
  refine aw_aload_n B 0 rfl dX1_readE_0 rfl ?_
  refine aw_iload_n B 1 rfl dX1_readE_1 rfl ?_
  refine aw_callV B 0 0 (Hf s hw hs hl) co_X1_readT k_X1_109 dX1_readE_2 hC_o rfl rfl rfl rfl (Nat.le_of_ble_eq_true rfl) (zrm hr (by omega)) (Nat.le_refl _) (Nat.le_refl _) (kI fun r2 h2 hp2 => ?_)
  obtain ⟨rfl, rfl⟩ := hp2
  refine aw_if_ne B 10 dX1_readE_5 (fun c5 => ?_) (fun c5 => ?_)
  · refine aw_iconst B 0 (by decide) dX1_readE_10 ?_
    refine aw_istore2 B dX1_readE_11 ?_
    exact lp 100 0 (sub s) rfl (bn_f c5) q1 q2
  · refine aw_iconst B 0 (by decide) dX1_readE_8 ?_
    refine aw_iret B rfl rfl dX1_readE_9 ?_
    exact ⟨_, rfl, by rw [tail_t (bn_t c5), bn_t c5]; rfl, by rw [tail_t (bn_t c5)]⟩
set_option maxRecDepth 100000 in
set_option maxHeartbeats 4000000 in
theorem s_rdE {l : Launch} {g : zG} {h : Hp} {k t : Nat} {SF NF tf tp : Nat → Int32} {e o df j : Nat} {sub : pst → pst} (T : tRow g h k t tp e) (hd : 2 ≤ df) (hg : gd e (seg j) sub) (Hf : RdF l g h k t SF NF tf e o df sub) : RdE l g h k t SF NF tf e o (df + 2) (soP tp e sub) := fun s hw hs hl =>
  s_readE l g h k t SF NF tf tp e o (df + 1) (j + 1) (evP tp e sub) T (by omega) (ev_gd hg) (fun s hw hs hl => s_readT l g h k t SF NF tf tp e o df j sub T hd hg Hf s hw hs hl) s hw hs hl
set_option maxRecDepth 100000 in
set_option maxHeartbeats 4000000 in
theorem s_readF (l : Launch) (g : zG) (h : Hp) (k t : Nat) (SF NF tf tp : Nat → Int32) (e : Nat) (T : tRow g h k t tp e) : ∀ (d o : Nat), o + d = 5 → RdF l g h k t SF NF tf e o (4 + 3 * d) (facP tp e d) := by
  intro d0
  have he := T.2.2
  induction d0 using Nat.strongRecOn with
  | _ d0 H =>
    intro o hod s hw hs hl
    refine Sp.of [some (.ref k), some (.int (nI o)), none, none, none, none] (by decide) (Nat.le_of_ble_eq_true rfl) rfl rfl ?_
    rintro X rfl hr rfl B
    show AW X 0 0 0 _ _ _ _
    obtain ⟨p, w, P⟩ := s
    cases hw
    have hs : p ≤ e := hs
    have hl : P.length ≤ p := hl
    have lp : ∀ (d n p : Nat) (P : pP), n + d = d0 → p ≤ e → P.length + n ≤ p → AW X 0 0 2 [some (.ref k), some (.int (nI o)), some (.int (nI (o + n))), none, none, none] [] (hC (zXg X) h k t SF NF tf (p, false, P)) (zI fun r h' => r = b2 (!(ntP n (facP tp e d (p, false, P))).2.1) ∧ h' = hC (zXg X) h k t SF NF tf (ntP n (facP tp e d (p, false, P)))) := by
      intro d
      induction d with
      | zero =>
        intro n p P hn hs hl
        have h5 : (5 : Int32) ≤ nI (o + n) := by rw [show o + n = 5 by omega]; decide
        refine aw_iload_n B 2 rfl dX1_readF_2 rfl ?_
        refine aw_iconst B 5 (by decide) dX1_readF_3 ?_
        refine aw_icmp_ge B 22 dX1_readF_4 (fun c4 => ?_) (fun c4 => absurd h5 c4)
        refine aw_iload_n B 2 rfl dX1_readF_22 rfl ?_
        refine aw_iconst B 5 (by decide) dX1_readF_23 ?_
        refine aw_icmp_ge B 57 dX1_readF_24 (fun c24 => ?_) (fun c24 => absurd h5 c24)
        rw [show facP tp e 0 (p, false, P) = testP tp e (p, false, P) from fac_0 rfl]
        exact s_testF d0 o n p P h k t SF NF tf tp e T hr B (by omega) hs hl
      | succ d ih =>
        intro n p P hn hs hl
        have lo5 : ¬ (5 : Int32) ≤ nI (o + n) := Int32.not_le.mpr (show nI (o + n) < nI 5 from nI_lt (by omega) (by decide))
        refine aw_iload_n B 2 rfl dX1_readF_2 rfl ?_
        refine aw_iconst B 5 (by decide) dX1_readF_3 ?_
        refine aw_icmp_ge B 22 dX1_readF_4 (fun c4 => absurd c4 lo5) (fun c4 => ?_)
        refine aw_aload_n B 0 rfl dX1_readF_7 rfl ?_
        refine aw_bipush B 33 (by decide) dX1_readF_8 ?_
        refine aw_callV B 0 0 (s_skip _ _ _ k t SF NF tf tp e (p, false, P) 33 T hs) co_X1_skip k_X1_76 dX1_readF_10 hC_o rfl rfl rfl rfl (Nat.le_of_ble_eq_true rfl) (zrm hr (by omega)) (Nat.le_refl _) (Nat.le_refl _) (kI fun r10 h10 hp10 => ?_)
        obtain ⟨rfl, rfl⟩ := hp10
        refine aw_if_eq B 22 dX1_readF_13 (fun c13 => ?_) (fun c13 => ?_)
        · rw [if_neg (sk_m c13)]
          refine aw_iload_n B 2 rfl dX1_readF_22 rfl ?_
          refine aw_iconst B 5 (by decide) dX1_readF_23 ?_
          refine aw_icmp_ge B 57 dX1_readF_24 (fun c24 => absurd c24 lo5) (fun c24 => ?_)
          refine aw_aload_n B 0 rfl dX1_readF_27 rfl ?_
          refine aw_bipush B 40 (by decide) dX1_readF_28 ?_
          refine aw_callV B 0 0 (s_skip _ _ _ k t SF NF tf tp e (p, false, P) 40 T hs) co_X1_skip k_X1_76 dX1_readF_30 hC_o rfl rfl rfl rfl (Nat.le_of_ble_eq_true rfl) (zrm hr (by omega)) (Nat.le_refl _) (Nat.le_refl _) (kI fun r30 h30 hp30 => ?_)
          obtain ⟨rfl, rfl⟩ := hp30
          refine aw_if_eq B 57 dX1_readF_33 (fun c33 => ?_) (fun c33 => ?_)
          · rw [if_neg (sk_m c33), show facP tp e (d + 1) (p, false, P) = testP tp e (p, false, P) from by rw [facP, if_neg Bool.false_ne_true, if_neg (sk_m c13), if_neg (sk_m c33)]]
            exact s_testF d0 o n p P h k t SF NF tf tp e T hr B (by omega) hs hl
          · have hlt : p + 1 ≤ e := hr_lt (s := (p, false, P)) (sk_h c33) (by decide)
            obtain ⟨q3, q1, R, g3, g4, -⟩ := (so_gd (tp := tp) (fac_gd tp e d)).2 (p + 1, false, P) rfl hlt
            have g3 : (soP tp e (facP tp e d) (p + 1, false, P)).2.2 = P ++ R := g3
            have g4 : R.length + (p + 1) ≤ (soP tp e (facP tp e d) (p + 1, false, P)).1 := g4
            have q2 : (soP tp e (facP tp e d) (p + 1, false, P)).2.2.length + n + 1 ≤ (soP tp e (facP tp e d) (p + 1, false, P)).1 := by
              rw [g3, List.length_append]
              omega
            rw [if_pos (sk_h c33)]
            refine aw_aload_n B 0 rfl dX1_readF_36 rfl ?_
            refine aw_iload_n B 2 rfl dX1_readF_37 rfl ?_
            refine aw_iconst B 1 (by decide) dX1_readF_38 ?_
            refine aw_iadd B dX1_readF_39 ?_
            rw [nI_1]
            refine aw_callV B 0 0 (s_rdE T (by omega) (fac_gd tp e d) (H d (by omega) (o + n + 1) (by omega)) (p + 1, false, P) rfl hlt (by show P.length ≤ p + 1; omega)) co_X1_readE k_X1_102 dX1_readF_40 hC_o rfl rfl rfl rfl (Nat.le_of_ble_eq_true rfl) (zrm hr (by omega)) (Nat.le_refl _) (Nat.le_refl _) (kI fun r40 h40 hp40 => ?_)
            obtain ⟨rfl, rfl⟩ := hp40
            refine aw_if_eq B 55 dX1_readF_43 (fun c43 => ?_) (fun c43 => ?_)
            · refine aw_iconst B 0 (by decide) dX1_readF_55 ?_
              refine aw_iret B rfl rfl dX1_readF_56 ?_
              have hq := bn_t c43
              have et : facP tp e (d + 1) (p, false, P) = (soP tp e (facP tp e d) (p + 1, false, P)) := by
                rw [facP, if_neg Bool.false_ne_true, if_neg (sk_m c13), if_pos (sk_h c33)]
                show mustP tp e 41 (soP tp e (facP tp e d) (p + 1, false, P)) = _
                unfold mustP
                rw [if_pos hq]
              exact ⟨_, rfl, by rw [et, nt_t hq, hq]; rfl, by rw [et, nt_t hq]⟩
            · refine aw_aload_n B 0 rfl dX1_readF_46 rfl ?_
              refine aw_bipush B 41 (by decide) dX1_readF_47 ?_
              refine aw_callV B 0 0 (s_skip _ _ _ k t SF NF tf tp e ((soP tp e (facP tp e d) (p + 1, false, P))) 41 T q1) co_X1_skip k_X1_76 dX1_readF_49 hC_o rfl rfl rfl rfl (Nat.le_of_ble_eq_true rfl) (zrm hr (by omega)) (Nat.le_refl _) (Nat.le_refl _) (kI fun r49 h49 hp49 => ?_)
              obtain ⟨rfl, rfl⟩ := hp49
              refine aw_if_ne B 182 dX1_readF_52 (fun c52 => ?_) (fun c52 => ?_)
              · have hq := bn_f c43
                have et : facP tp e (d + 1) (p, false, P) = adv (soP tp e (facP tp e d) (p + 1, false, P)) := by
                  rw [facP, if_neg Bool.false_ne_true, if_neg (sk_m c13), if_pos (sk_h c33)]
                  show mustP tp e 41 (soP tp e (facP tp e d) (p + 1, false, P)) = _
                  unfold mustP
                  rw [if_neg (by rw [hq]; decide), if_pos (sk_h c52)]
                have h41 : (soP tp e (facP tp e d) (p + 1, false, P)).1 + 1 ≤ e := hr_lt (s := (soP tp e (facP tp e d) (p + 1, false, P))) (sk_h c52) (by decide)
                rw [if_pos (sk_h c52), et, show adv (soP tp e (facP tp e d) (p + 1, false, P)) = ((soP tp e (facP tp e d) (p + 1, false, P)).1 + 1, false, (soP tp e (facP tp e d) (p + 1, false, P)).2.2) from by
                  show ((soP tp e (facP tp e d) (p + 1, false, P)).1 + 1, (soP tp e (facP tp e d) (p + 1, false, P)).2.1, (soP tp e (facP tp e d) (p + 1, false, P)).2.2) = _
                  rw [hq]]
                exact s_notF d0 o n ((soP tp e (facP tp e d) (p + 1, false, P)).1 + 1) (soP tp e (facP tp e d) (p + 1, false, P)).2.2 h k t SF NF tf tp e T hr B (by omega) h41 (by omega) _ _ _
              · refine aw_iconst B 0 (by decide) dX1_readF_55 ?_
                refine aw_iret B rfl rfl dX1_readF_56 ?_
                have hq := bn_f c43
                have et : facP tp e (d + 1) (p, false, P) = bad (soP tp e (facP tp e d) (p + 1, false, P)) := by
                  rw [facP, if_neg Bool.false_ne_true, if_neg (sk_m c13), if_pos (sk_h c33)]
                  show mustP tp e 41 (soP tp e (facP tp e d) (p + 1, false, P)) = _
                  unfold mustP
                  rw [if_neg (by rw [hq]; decide), if_neg (sk_m c52)]
                exact ⟨_, rfl, by rw [et, nt_b]; rfl, by rw [et, nt_b, if_neg (sk_m c52)]; rfl⟩
        · have hlt : p + 1 ≤ e := hr_lt (s := (p, false, P)) (sk_h c13) (by decide)
          rw [if_pos (sk_h c13)]
          refine aw_iinc2 B 1 (by decide) dX1_readF_16 ?_
          refine aw_goto B 2 dX1_readF_19 ?_
          rw [nI_1, show facP tp e (d + 1) (p, false, P) = emP (9, 0) (facP tp e d (p + 1, false, P)) from by rw [facP, if_neg Bool.false_ne_true, if_pos (sk_h c13)]; rfl]
          exact ih (n + 1) (p + 1) P (by omega) hlt (by omega)
    refine aw_iload_n B 1 rfl dX1_readF_0 rfl ?_
    refine aw_istore2 B dX1_readF_1 ?_
    exact lp d0 0 p P (by omega) hs hl
