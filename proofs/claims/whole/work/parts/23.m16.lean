theorem ev_w (x : Nat → Nat) : ∀ (Q : pP) (t : Nat) (st : List Bool) (sw : Int32) (w : Nat), wfp t Q → ∃ w', w' ≤ w + 99 * Q.length ∧ (ev x Q st sw (nI w)).2 = nI w' := by
  intro Q
  induction Q with
  | nil => intro t st sw w _; exact ⟨w, by simp, rfl⟩
  | cons p Q ih =>
    obtain ⟨s, n⟩ := p
    intro t st sw w hw
    obtain ⟨hn, hs, w1, w2, w3, w4⟩ := hw
    have fin : ∀ (t' : Nat) (st' : List Bool) (sw' : Int32) (w2 : Nat), w2 ≤ w + 99 → wfp t' Q → ∃ w', w' ≤ w + 99 * ((s, n) :: Q).length ∧ (ev x Q st' sw' (nI w2)).2 = nI w' := fun t' st' sw' w2 hb hq => by
      obtain ⟨w', h1, h2⟩ := ih t' st' sw' w2 hq
      refine ⟨w', ?_, h2⟩
      have : ((s, n) :: Q).length = Q.length + 1 := rfl
      rw [this]
      omega
    rw [ev]
    split
    · exact fin _ _ _ _ (by omega) (w1 (by assumption)).2
    · split
      · exact fin _ _ _ _ (by omega) (w2 (by assumption)).2
      · split
        · exact fin _ _ _ _ (by omega) (w3 (Or.inl (by assumption))).2
        · split
          · exact fin _ _ _ _ (by omega) (w3 (Or.inr (by assumption))).2
          · split
            · exact fin _ _ _ _ (by omega) (w4 (by omega)).2
            · split
              · exact fin _ _ _ _ (by omega) (w4 (by omega)).2
              · split
                · rw [nI_add]
                  exact fin _ _ _ _ (by omega) (w4 (by omega)).2
                · rw [show nI w + 0 = nI w from Int32.add_zero _]
                  exact fin _ _ _ _ (by omega) (w4 (by omega)).2
/-- WAVE at an hour -/
def wav (tm : Nat) (Q : pP) : Int32 := p10 (evL tm Q).2
theorem wav_rng {tm : Nat} {Q : pP} (hw : wfp 0 Q) (hl : Q.length ≤ 140) : rng (wav tm Q) 0 10 := by
  obtain ⟨w, h1, h2⟩ := ev_w (hx tm) Q 0 [] 0 0 hw
  have h2 : (evL tm Q).2 = nI w := h2
  unfold wav
  rw [h2]
  unfold p10
  split
  · rename_i hc
    exact ⟨w, by omega, (nI_leI (b := 10) (by omega) (by decide)).mp hc, rfl⟩
  · exact ⟨10, by omega, by omega, rfl⟩
theorem hold_len {S : Nat → Int32} {Q : pP} (h : hold S Q) : Q.length ≤ 140 := by
  rcases h with ⟨-, rfl⟩ | ⟨c, -, -, h, -⟩
  · simp
  · exact h
/-- ten to the n times the odds that the shelf stays dry -/
def sfN (T : Nat) (Q : pP) (x : Int32) : Nat → Nat
  | 0 => 1
  | j + 1 => sfN T Q x j * (if lvl (T + j) Q < x then 10 else if lvl (T + j) Q = x then 10 - kN (wav (T + j) Q) else 0)
theorem sfN_le (T : Nat) (Q : pP) (x : Int32) (j : Nat) : sfN T Q x j ≤ 10 ^ j := by
  induction j with
  | zero => simp [sfN]
  | succ j ih =>
    rw [sfN, Nat.pow_succ]
    refine Nat.mul_le_mul ih ?_
    split
    · omega
    · split <;> omega
def q_safe (T : Nat) (Q : pP) (x n p : Int32) : Int64 := if bI (0 ≤ x ∧ x ≤ 8) = 0 then -9223372036854775808 else if bI (0 ≤ n ∧ n ≤ 12) = 0 then -9223372036854775808 else if bI (0 ≤ p ∧ p ≤ 1) = 0 then -9223372036854775808 else lowL (sfN T Q x (kN n)) (10 ^ kN n) p
theorem pow12 {j : Nat} (h : j ≤ 12) : 10 ^ j ≤ 10 ^ 12 := Nat.pow_le_pow_right (by decide) h
theorem dX12_safe_0 : decode cX12_safe 0 = .ok (.iload_n 1, 1) := by decide +kernel
theorem dX12_safe_1 : decode cX12_safe 1 = .ok (.invokestatic 137, 3) := by decide +kernel
theorem dX12_safe_4 : decode cX12_safe 4 = .ok (.ifCond .eq 22, 3) := by decide +kernel
theorem dX12_safe_7 : decode cX12_safe 7 = .ok (.iload_n 2, 1) := by decide +kernel
theorem dX12_safe_8 : decode cX12_safe 8 = .ok (.iconst 0, 1) := by decide +kernel
theorem dX12_safe_9 : decode cX12_safe 9 = .ok (.bipush 12, 2) := by decide +kernel
theorem dX12_safe_11 : decode cX12_safe 11 = .ok (.invokestatic 44, 3) := by decide +kernel
theorem dX12_safe_14 : decode cX12_safe 14 = .ok (.ifCond .eq 12, 3) := by decide +kernel
theorem dX12_safe_17 : decode cX12_safe 17 = .ok (.iload_n 3, 1) := by decide +kernel
theorem dX12_safe_18 : decode cX12_safe 18 = .ok (.iconst 0, 1) := by decide +kernel
theorem dX12_safe_19 : decode cX12_safe 19 = .ok (.iconst 1, 1) := by decide +kernel
theorem dX12_safe_20 : decode cX12_safe 20 = .ok (.invokestatic 44, 3) := by decide +kernel
theorem dX12_safe_23 : decode cX12_safe 23 = .ok (.ifCond .ne 7, 3) := by decide +kernel
theorem dX12_safe_26 : decode cX12_safe 26 = .ok (.ldc2_w 201, 3) := by decide +kernel
theorem dX12_safe_29 : decode cX12_safe 29 = .ok (.lreturn, 1) := by decide +kernel
theorem dX12_safe_30 : decode cX12_safe 30 = .ok (.lconst 1, 1) := by decide +kernel
theorem dX12_safe_31 : decode cX12_safe 31 = .ok (.lstore 4, 2) := by decide +kernel
theorem dX12_safe_33 : decode cX12_safe 33 = .ok (.lconst 1, 1) := by decide +kernel
theorem dX12_safe_34 : decode cX12_safe 34 = .ok (.lstore 6, 2) := by decide +kernel
theorem dX12_safe_36 : decode cX12_safe 36 = .ok (.iconst 0, 1) := by decide +kernel
theorem dX12_safe_37 : decode cX12_safe 37 = .ok (.istore 8, 2) := by decide +kernel
theorem dX12_safe_39 : decode cX12_safe 39 = .ok (.iload 8, 2) := by decide +kernel
theorem dX12_safe_41 : decode cX12_safe 41 = .ok (.iload_n 2, 1) := by decide +kernel
theorem dX12_safe_42 : decode cX12_safe 42 = .ok (.if_icmp .ge 68, 3) := by decide +kernel
theorem dX12_safe_45 : decode cX12_safe 45 = .ok (.aload_n 0, 1) := by decide +kernel
theorem dX12_safe_46 : decode cX12_safe 46 = .ok (.aload_n 0, 1) := by decide +kernel
theorem dX12_safe_47 : decode cX12_safe 47 = .ok (.getfield 9, 3) := by decide +kernel
theorem dX12_safe_50 : decode cX12_safe 50 = .ok (.bipush 8, 2) := by decide +kernel
theorem dX12_safe_52 : decode cX12_safe 52 = .ok (.iaload, 1) := by decide +kernel
theorem dX12_safe_53 : decode cX12_safe 53 = .ok (.iload 8, 2) := by decide +kernel
theorem dX12_safe_55 : decode cX12_safe 55 = .ok (.iadd, 1) := by decide +kernel
theorem dX12_safe_56 : decode cX12_safe 56 = .ok (.invokevirtual 133, 3) := by decide +kernel
theorem dX12_safe_59 : decode cX12_safe 59 = .ok (.istore 9, 2) := by decide +kernel
theorem dX12_safe_61 : decode cX12_safe 61 = .ok (.lload 4, 2) := by decide +kernel
theorem dX12_safe_63 : decode cX12_safe 63 = .ok (.iload 9, 2) := by decide +kernel
theorem dX12_safe_65 : decode cX12_safe 65 = .ok (.iload_n 1, 1) := by decide +kernel
theorem dX12_safe_66 : decode cX12_safe 66 = .ok (.if_icmp .ge 9, 3) := by decide +kernel
theorem dX12_safe_69 : decode cX12_safe 69 = .ok (.ldc2_w 203, 3) := by decide +kernel
theorem dX12_safe_72 : decode cX12_safe 72 = .ok (.goto 21, 3) := by decide +kernel
theorem dX12_safe_75 : decode cX12_safe 75 = .ok (.iload 9, 2) := by decide +kernel
theorem dX12_safe_77 : decode cX12_safe 77 = .ok (.iload_n 1, 1) := by decide +kernel
theorem dX12_safe_78 : decode cX12_safe 78 = .ok (.if_icmp .ne 14, 3) := by decide +kernel
theorem dX12_safe_81 : decode cX12_safe 81 = .ok (.bipush 10, 2) := by decide +kernel
theorem dX12_safe_83 : decode cX12_safe 83 = .ok (.aload_n 0, 1) := by decide +kernel
theorem dX12_safe_84 : decode cX12_safe 84 = .ok (.getfield 124, 3) := by decide +kernel
theorem dX12_safe_87 : decode cX12_safe 87 = .ok (.isub, 1) := by decide +kernel
theorem dX12_safe_88 : decode cX12_safe 88 = .ok (.i2l, 1) := by decide +kernel
theorem dX12_safe_89 : decode cX12_safe 89 = .ok (.goto 4, 3) := by decide +kernel
theorem dX12_safe_92 : decode cX12_safe 92 = .ok (.lconst 0, 1) := by decide +kernel
theorem dX12_safe_93 : decode cX12_safe 93 = .ok (.lmul, 1) := by decide +kernel
theorem dX12_safe_94 : decode cX12_safe 94 = .ok (.lstore 4, 2) := by decide +kernel
theorem dX12_safe_96 : decode cX12_safe 96 = .ok (.lload 6, 2) := by decide +kernel
theorem dX12_safe_98 : decode cX12_safe 98 = .ok (.ldc2_w 203, 3) := by decide +kernel
theorem dX12_safe_101 : decode cX12_safe 101 = .ok (.lmul, 1) := by decide +kernel
theorem dX12_safe_102 : decode cX12_safe 102 = .ok (.lstore 6, 2) := by decide +kernel
theorem dX12_safe_104 : decode cX12_safe 104 = .ok (.iinc 8 1, 3) := by decide +kernel
theorem dX12_safe_107 : decode cX12_safe 107 = .ok (.goto (-68), 3) := by decide +kernel
theorem dX12_safe_110 : decode cX12_safe 110 = .ok (.lload 4, 2) := by decide +kernel
theorem dX12_safe_112 : decode cX12_safe 112 = .ok (.lload 6, 2) := by decide +kernel
theorem dX12_safe_114 : decode cX12_safe 114 = .ok (.iload_n 3, 1) := by decide +kernel
theorem dX12_safe_115 : decode cX12_safe 115 = .ok (.invokestatic 205, 3) := by decide +kernel
theorem dX12_safe_118 : decode cX12_safe 118 = .ok (.lreturn, 1) := by decide +kernel
set_option maxRecDepth 100000 in
set_option maxHeartbeats 4000000 in
theorem s_safe (l : Launch) (g : zG) (h : Hp) (m : Nat) (F : Nat → Int32) (A : Nat → Nat → Int32) (x n p : Int32) (T : Nat) (Q : pP) (hi : iT (A 1) T Q) : Sp l g yX12_safe cX12_safe 10 (some .long) (rmz 3) [.ref m, .int x, .int n, .int p] (hM g h m F A) (zJ (mqJ g h m F A (q_safe T Q x n p))) := by
  refine Sp.of [some (.ref m), some (.int x), some (.int n), some (.int p), none, none, none, none, none, none] (by decide) (Nat.le_of_ble_eq_true rfl) rfl rfl ?_
  rintro X rfl hr rfl B
  show AW X 0 0 0 _ _ _ _
  refine aw_iload_n B 1 rfl dX12_safe_0 rfl ?_
  refine aw_callS B 0 0 (s_isShelf _ _ _ _) co_X12_isShelf k_X12_137 dX12_safe_1 rfl rfl (Nat.le_of_ble_eq_true rfl) (zrm hr (by decide)) (Nat.le_refl _) (Nat.le_refl _) (kI fun r1 h1 hp1 => ?_)
  obtain ⟨rfl, rfl⟩ := hp1
  refine aw_if_eq B 26 dX12_safe_4 (fun c4 => ?_) (fun c4 => ?_)
  · refine aw_ldc2 B cn_X12_201 dX12_safe_26 ?_
    refine aw_lret B rfl dX12_safe_29 ?_
    exact ⟨_, rfl, by unfold q_safe; rw [if_pos c4], F, A, rfl, eqF.rf, eqA.rf, trivial⟩
  · refine aw_iload_n B 2 rfl dX12_safe_7 rfl ?_
    refine aw_iconst B 0 (by decide) dX12_safe_8 ?_
    refine aw_bipush B 12 (by decide) dX12_safe_9 ?_
    refine aw_callS B 0 0 (s_in _ _ _ _ _ _) co_X12_in k_X12_44 dX12_safe_11 rfl rfl (Nat.le_of_ble_eq_true rfl) (zrm hr (by decide)) (Nat.le_refl _) (Nat.le_refl _) (kI fun r11 h11 hp11 => ?_)
    obtain ⟨rfl, rfl⟩ := hp11
    refine aw_if_eq B 26 dX12_safe_14 (fun c14 => ?_) (fun c14 => ?_)
    · refine aw_ldc2 B cn_X12_201 dX12_safe_26 ?_
      refine aw_lret B rfl dX12_safe_29 ?_
      exact ⟨_, rfl, by unfold q_safe; rw [if_neg c4, if_pos c14], F, A, rfl, eqF.rf, eqA.rf, trivial⟩
    · refine aw_iload_n B 3 rfl dX12_safe_17 rfl ?_
      refine aw_iconst B 0 (by decide) dX12_safe_18 ?_
      refine aw_iconst B 1 (by decide) dX12_safe_19 ?_
      refine aw_callS B 0 0 (s_in _ _ _ _ _ _) co_X12_in k_X12_44 dX12_safe_20 rfl rfl (Nat.le_of_ble_eq_true rfl) (zrm hr (by decide)) (Nat.le_refl _) (Nat.le_refl _) (kI fun r20 h20 hp20 => ?_)
      obtain ⟨rfl, rfl⟩ := hp20
      refine aw_if_ne B 30 dX12_safe_23 (fun c23 => ?_) (fun c23 => ?_)
      · obtain ⟨n, -, hn, rfl⟩ := in_rng (lo := 0) (hi := 12) (of_bI c14) (by decide) (by decide)
        have ek : kN (nI n) = n := kN_nI (by omega)
        refine aw_lconst B 1 (by decide) dX12_safe_30 ?_
        refine aw_lstore4 B dX12_safe_31 ?_
        refine aw_lconst B 1 (by decide) dX12_safe_33 ?_
        refine aw_lstore6 B dX12_safe_34 ?_
        refine aw_iconst B 0 (by decide) dX12_safe_36 ?_
        refine aw_istore8 B dX12_safe_37 ?_
        have lp : ∀ (f j : Nat) (F1 : Nat → Int32) (A1 : Nat → Nat → Int32), n < j + f → j ≤ n → eqF GF F F1 → eqA GA A A1 → AW X 0 0 39 [some (.ref m), some (.int x), some (.int (nI n)), some (.int p), some (.long (lN (sfN T Q x j))), none, some (.long (lN (10 ^ j))), none, some (.int (nI j)), none] [] (hM (zXg X) h m F1 A1) (zJ (mqJ (zXg X) h m F A (q_safe T Q x (nI n) p))) := by
          intro f
          induction f with
          | zero => intros; omega
          | succ f ih =>
            intro j F1 A1 hf hj hF hA
            have e1 : A1 1 = A 1 := hA 1 (by simp [GA])
            have hsl := sfN_le T Q x j
            have hpw := pow12 (j := j) (by omega)
            refine aw_iload B dX12_safe_39 rfl ?_
            refine aw_iload_n B 2 rfl dX12_safe_41 rfl ?_
            refine aw_icmp_ge B 110 dX12_safe_42 (fun c42 => ?_) (fun c42 => ?_)
            · have hje : j = n := Nat.le_antisymm hj ((nI_leI (by omega) (by omega)).mp c42)
              refine aw_lload B dX12_safe_110 rfl ?_
              refine aw_lload B dX12_safe_112 rfl ?_
              refine aw_iload_n B 3 rfl dX12_safe_114 rfl ?_
              refine aw_callS B 0 0 (s_lowest _ _ _ (sfN T Q x j) (10 ^ j) p (by omega) (by omega) (Or.inr (Nat.pow_pos (by decide)))) co_X12_lowest k_X12_205 dX12_safe_115 rfl rfl (Nat.le_of_ble_eq_true rfl) (zrm hr (by decide)) (Nat.le_refl _) (Nat.le_refl _) (kJ fun r115 h115 hp115 => ?_)
              obtain ⟨rfl, rfl⟩ := hp115
              refine aw_lret B rfl dX12_safe_118 ?_
              exact ⟨_, rfl, by unfold q_safe; rw [if_neg c4, if_neg c14, if_neg c23, ek, hje], F1, A1, rfl, hF, hA, trivial⟩
            · have hlt : j < n := Nat.not_le.mp fun z => c42 (nI_le z (by omega))
              refine aw_aload_n B 0 rfl dX12_safe_45 rfl ?_
              refine aw_aload_n B 0 rfl dX12_safe_46 rfl ?_
              refine m_get B f_X12_9 dX12_safe_47 (mg_1 _ _) ?_
              refine aw_bipush B 8 (by decide) dX12_safe_50 ?_
              refine m_ld B (8) (rfl) ((by decide)) dX12_safe_52 (by decide) ?_
              rw [e1, hi.1]
              refine aw_iload B dX12_safe_53 rfl ?_
              refine aw_iadd B dX12_safe_55 ?_
              rw [nI_add]
              refine aw_callV B 0 0 (s_levelAt _ _ _ _ _ _ (T + j) Q (by have := hi.2.1; omega) (by rw [e1]; exact hi.2.2.1) hi.2.2.2) co_X12_levelAt k_X12_133 dX12_safe_56 hM_o rfl rfl rfl rfl (Nat.le_of_ble_eq_true rfl) (zrm hr (by decide)) (Nat.le_refl _) (Nat.le_refl _) (kI fun r56 h56 hp56 => ?_)
              obtain ⟨rfl, F2, A2, rfl, hF2, hA2, hw2⟩ := hp56
              obtain ⟨z, -, hz, ez⟩ := wav_rng (tm := T + j) hi.2.2.2 (hold_len hi.2.2.1)
              refine aw_istore9 B dX12_safe_59 ?_
              refine aw_lload B dX12_safe_61 rfl ?_
              refine aw_iload B dX12_safe_63 rfl ?_
              refine aw_iload_n B 1 rfl dX12_safe_65 rfl ?_
              refine aw_icmp_ge B 75 dX12_safe_66 (fun c66 => ?_) (fun c66 => ?_)
              · refine aw_iload B dX12_safe_75 rfl ?_
                refine aw_iload_n B 1 rfl dX12_safe_77 rfl ?_
                refine aw_icmp_ne B 92 dX12_safe_78 (fun c78 => ?_) (fun c78 => ?_)
                · refine aw_lconst B 0 (by decide) dX12_safe_92 ?_
                  refine aw_lmul B dX12_safe_93 ?_
                  refine aw_lstore4 B dX12_safe_94 ?_
                  refine aw_lload B dX12_safe_96 rfl ?_
                  refine aw_ldc2 B cn_X12_203 dX12_safe_98 ?_
                  refine aw_lmul B dX12_safe_101 ?_
                  refine aw_lstore6 B dX12_safe_102 ?_
                  refine aw_iinc8 B 1 (by decide) dX12_safe_104 ?_
                  refine aw_goto B 39 dX12_safe_107 ?_
                  rw [show (10 : Int64) = lN 10 from rfl, show lN (10 ^ j) * lN 10 = lN (10 ^ (j + 1)) from by rw [lN_mul, Nat.pow_succ], nI_1]
                  refine AW.weak (lv' := [some (.ref m), some (.int x), some (.int (nI n)), some (.int p), some (.long (lN (sfN T Q x (j + 1)))), none, some (.long (lN (10 ^ (j + 1)))), none, some (.int (nI (j + 1))), none]) ⟨Or.inr rfl, Or.inr rfl, Or.inr rfl, Or.inr rfl, Or.inr ?_, Or.inr rfl, Or.inr rfl, Or.inr rfl, Or.inr rfl, Or.inl rfl, trivial⟩ (ih (j + 1) F2 A2 (by omega) (by omega) (hF.tr (gar_3 hF2)) (hA.tr (gar_4 hA2)))
                  rw [sfN]
                  first
                    | rw [if_pos (Int32.not_le.mp c66), ← lN_mul]
                    | rw [if_neg (Int32.not_lt.mpr c66), if_pos c78, ez, kN_nI (by omega), ← lN_mul]
                    | (rw [if_neg (Int32.not_lt.mpr c66), if_neg c78, ← lN_mul]; rfl)
                · refine aw_bipush B 10 (by decide) dX12_safe_81 ?_
                  refine aw_aload_n B 0 rfl dX12_safe_83 rfl ?_
                  refine m_get B f_X12_124 dX12_safe_84 (mg_12 _ _) ?_
                  rw [show F2 12 = wav (T + j) Q from hw2, ez]
                  refine aw_isub B dX12_safe_87 ?_
                  rw [show (10 : Int32) - nI z = nI (10 - z) from pk_sub (a := 10) (b := z) hz]
                  refine aw_i2l B dX12_safe_88 ?_
                  rw [nI_l (by omega)]
                  refine aw_goto B 93 dX12_safe_89 ?_
                  refine aw_lmul B dX12_safe_93 ?_
                  refine aw_lstore4 B dX12_safe_94 ?_
                  refine aw_lload B dX12_safe_96 rfl ?_
                  refine aw_ldc2 B cn_X12_203 dX12_safe_98 ?_
                  refine aw_lmul B dX12_safe_101 ?_
                  refine aw_lstore6 B dX12_safe_102 ?_
                  refine aw_iinc8 B 1 (by decide) dX12_safe_104 ?_
                  refine aw_goto B 39 dX12_safe_107 ?_
                  rw [show (10 : Int64) = lN 10 from rfl, show lN (10 ^ j) * lN 10 = lN (10 ^ (j + 1)) from by rw [lN_mul, Nat.pow_succ], nI_1]
                  refine AW.weak (lv' := [some (.ref m), some (.int x), some (.int (nI n)), some (.int p), some (.long (lN (sfN T Q x (j + 1)))), none, some (.long (lN (10 ^ (j + 1)))), none, some (.int (nI (j + 1))), none]) ⟨Or.inr rfl, Or.inr rfl, Or.inr rfl, Or.inr rfl, Or.inr ?_, Or.inr rfl, Or.inr rfl, Or.inr rfl, Or.inr rfl, Or.inl rfl, trivial⟩ (ih (j + 1) F2 A2 (by omega) (by omega) (hF.tr (gar_3 hF2)) (hA.tr (gar_4 hA2)))
                  rw [sfN]
                  first
                    | rw [if_pos (Int32.not_le.mp c66), ← lN_mul]
                    | rw [if_neg (Int32.not_lt.mpr c66), if_pos c78, ez, kN_nI (by omega), ← lN_mul]
                    | (rw [if_neg (Int32.not_lt.mpr c66), if_neg c78, ← lN_mul]; rfl)
              · refine aw_ldc2 B cn_X12_203 dX12_safe_69 ?_
                refine aw_goto B 93 dX12_safe_72 ?_
                refine aw_lmul B dX12_safe_93 ?_
                refine aw_lstore4 B dX12_safe_94 ?_
                refine aw_lload B dX12_safe_96 rfl ?_
                refine aw_ldc2 B cn_X12_203 dX12_safe_98 ?_
                refine aw_lmul B dX12_safe_101 ?_
                refine aw_lstore6 B dX12_safe_102 ?_
                refine aw_iinc8 B 1 (by decide) dX12_safe_104 ?_
                refine aw_goto B 39 dX12_safe_107 ?_
                rw [show (10 : Int64) = lN 10 from rfl, show lN (10 ^ j) * lN 10 = lN (10 ^ (j + 1)) from by rw [lN_mul, Nat.pow_succ], nI_1]
                refine AW.weak (lv' := [some (.ref m), some (.int x), some (.int (nI n)), some (.int p), some (.long (lN (sfN T Q x (j + 1)))), none, some (.long (lN (10 ^ (j + 1)))), none, some (.int (nI (j + 1))), none]) ⟨Or.inr rfl, Or.inr rfl, Or.inr rfl, Or.inr rfl, Or.inr ?_, Or.inr rfl, Or.inr rfl, Or.inr rfl, Or.inr rfl, Or.inl rfl, trivial⟩ (ih (j + 1) F2 A2 (by omega) (by omega) (hF.tr (gar_3 hF2)) (hA.tr (gar_4 hA2)))
                rw [sfN]
                first
                  | rw [if_pos (Int32.not_le.mp c66), ← lN_mul]
                  | rw [if_neg (Int32.not_lt.mpr c66), if_pos c78, ez, kN_nI (by omega), ← lN_mul]
                  | (rw [if_neg (Int32.not_lt.mpr c66), if_neg c78, ← lN_mul]; rfl)
        exact lp 13 0 F A (by omega) (Nat.zero_le _) eqF.rf eqA.rf
      · refine aw_ldc2 B cn_X12_201 dX12_safe_26 ?_
        refine aw_lret B rfl dX12_safe_29 ?_
        exact ⟨_, rfl, by unfold q_safe; rw [if_neg c4, if_neg c14, if_pos c23], F, A, rfl, eqF.rf, eqA.rf, trivial⟩
