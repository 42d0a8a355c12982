theorem ordF_s {S : Nat → Int32} {T : Nat} {Q : pP} {r n0 d left k a : Nat} {st : oSt} (hl : ¬ left = 0) : ordF S T Q r n0 (d + 1) left k a st = (List.range n0).foldl (ordS S T Q r n0 d left k a) st := by
  rw [ordF, if_neg hl]
  rfl
theorem ord_fs {S : Nat → Int32} {T : Nat} {Q : pP} {r n0 d left k a j : Nat} {st : oSt} : (List.range (j + 1)).foldl (ordS S T Q r n0 d left k a) st = ordS S T Q r n0 d left k a ((List.range j).foldl (ordS S T Q r n0 d left k a) st) j := by
  rw [List.range_succ, List.foldl_append]
  rfl
set_option maxRecDepth 100000 in
set_option maxHeartbeats 4000000 in
theorem s_ordersFrom (l : Launch) (g : zG) (h : Hp) (m : Nat) (T : Nat) (Q : pP) (n0 n1 r : Nat) : ∀ (d : Nat) (F : Nat → Int32) (A : Nat → Nat → Int32) (left k a be : Nat), iT (A 1) T Q → iR (A 1) n1 → iS (A 1) n0 → r < n1 → lvI T Q F A → skI (A 1) T Q n0 n1 A → left < 64 → pcnt left ≤ d → k + d ≤ 6 → a ≤ 60 * k → be ≤ 100000 → F 18 = nI be → Sp l g yX12_ordersFrom cX12_ordersFrom 7 none (rmz (9 + d)) [.ref m, .int (nI r), .int (nI left), .int (nI k), .int (nI a)] (hM g h m F A) (zV (oG g h m F A T Q n0 n1 (ordF (A 1) T Q r n0 d left k a (be, A 8, A 7)))) := by
  intro d
  induction d with
  | zero =>
    intro F A left k a be hi hR hS hr1 hlv hsk hl64 hpc hkd ha hbe eb
    have hl0 : left = 0 := pcnt_0 left hl64 (by omega)
    subst hl0
    refine Sp.of [some (.ref m), some (.int (nI r)), some (.int 0), some (.int (nI k)), some (.int (nI a)), none, none] (by decide) (Nat.le_of_ble_eq_true rfl) rfl rfl ?_
    rintro X rfl hr rfl B
    exact ord_end B hlv hsk (by omega) (by omega) hbe eb
  | succ d ihd =>
    intro F A left k a be hi hR hS hr1 hlv hsk hl64 hpc hkd ha hbe eb
    by_cases hl0 : left = 0
    · subst hl0
      refine Sp.of [some (.ref m), some (.int (nI r)), some (.int 0), some (.int (nI k)), some (.int (nI a)), none, none] (by decide) (Nat.le_of_ble_eq_true rfl) rfl rfl ?_
      rintro X rfl hr rfl B
      exact ord_end B hlv hsk (by omega) (by omega) hbe eb
    · refine Sp.of [some (.ref m), some (.int (nI r)), some (.int (nI left)), some (.int (nI k)), some (.int (nI a)), none, none] (by decide) (Nat.le_of_ble_eq_true rfl) rfl rfl ?_
      rintro X rfl hr rfl B
      show AW X 0 0 0 _ _ _ _
      have z2 := hS.1
      rw [ordF_s hl0]
      have lp : ∀ (f j : Nat) (F1 : Nat → Int32) (A1 : Nat → Nat → Int32) (st : oSt), n0 < j + f → j ≤ n0 → st = ((List.range j).foldl (ordS (A 1) T Q r n0 d left k a) (be, A 8, A 7)) → st.1 ≤ 100000 → eqF [11, 12, 14, 18] F F1 → eqA [3, 4, 5, 6, 7, 8] A A1 → lvI T Q F1 A1 → skI (A 1) T Q n0 n1 A1 → F1 18 = nI st.1 → A1 8 = st.2.1 → A1 7 = st.2.2 → AW X 0 0 64 [some (.ref m), some (.int (nI r)), some (.int (nI left)), some (.int (nI k)), some (.int (nI a)), some (.int (nI j)), none] [] (hM (zXg X) h m F1 A1) (zV (oG (zXg X) h m F A T Q n0 n1 ((List.range n0).foldl (ordS (A 1) T Q r n0 d left k a) (be, A 8, A 7)))) := by
        intro f
        induction f with
        | zero => intros; omega
        | succ f ih =>
          intro j F1 A1 st hf hj hst hbe1 hF hA hlv1 hsk1 eb1 e8 e7
          have e1 : A1 1 = A 1 := hA 1 (by simp)
          refine aw_iload B dX12_ordersFrom_64 rfl ?_
          refine aw_aload_n B 0 rfl dX12_ordersFrom_66 rfl ?_
          refine m_get B f_X12_9 dX12_ordersFrom_67 (mg_1 _ _) ?_
          refine aw_iconst B 0 (by decide) dX12_ordersFrom_70 ?_
          refine m_ld B (0) (rfl) ((by decide)) dX12_ordersFrom_71 (by decide) ?_
          refine aw_icmp_ge B 143 dX12_ordersFrom_72 (fun c72 => ?_) (fun c72 => ?_)
          · refine aw_vret B rfl dX12_ordersFrom_143 ?_
            have hje : j = n0 := Nat.le_antisymm hj ((nI_leI (by omega) (by omega)).mp (by rw [e1, hS.2.1] at c72; exact c72))
            rw [hje] at hst
            rw [← hst]
            exact ⟨rfl, hbe1, F1, A1, rfl, hF, hA, hlv1, hsk1, eb1, e8, e7⟩
          · have hlt : j < n0 := Nat.not_le.mp fun z => c72 (by rw [e1, hS.2.1]; exact nI_le z (by omega))
            refine aw_iload_n B 2 rfl dX12_ordersFrom_75 rfl ?_
            refine aw_iload B dX12_ordersFrom_76 rfl ?_
            refine aw_ishr B dX12_ordersFrom_78 ?_
            refine aw_iconst B 1 (by decide) dX12_ordersFrom_79 ?_
            refine aw_iand B dX12_ordersFrom_80 ?_
            refine aw_iconst B 1 (by decide) dX12_ordersFrom_81 ?_
            refine aw_icmp_ne B 137 dX12_ordersFrom_82 (fun c82 => ?_) (fun c82 => ?_)
            · refine aw_iinc5 B 1 (by decide) dX12_ordersFrom_137 ?_
              refine aw_goto B 64 dX12_ordersFrom_140 ?_
              have hb : ¬ left.testBit j = true := fun z => c82 ((bit_1 left hl64 j (by omega)).mpr z)
              rw [nI_1]
              exact (ih (j + 1) F1 A1 st (by omega) (by omega) (by rw [ord_fs, ← hst, ordS, if_neg hb]) hbe1 hF hA hlv1 hsk1 eb1 e8 e7)
            · have hb : left.testBit j = true := (bit_1 left hl64 j (by omega)).mp c82
              have hbb := bit_2 left hl64 j (by omega) hb
              refine aw_aload_n B 0 rfl dX12_ordersFrom_85 rfl ?_
              refine aw_iload_n B 1 rfl dX12_ordersFrom_86 rfl ?_
              refine aw_iload B dX12_ordersFrom_87 rfl ?_
              refine aw_iload B dX12_ordersFrom_89 rfl ?_
              refine aw_callV B 0 0 (s_soonKnown _ _ _ _ _ _ T Q (by rw [e1]; exact hi) hlv1 n0 n1 (by rw [e1]; exact hR) (by rw [e1]; exact hS) r j a hr1 hlt (by omega) (by rw [e1]; exact hsk1)) co_X12_soonKnown k_X12_178 dX12_ordersFrom_91 hM_o rfl rfl rfl rfl (Nat.le_of_ble_eq_true rfl) (zrm hr (by omega)) (Nat.le_refl _) (Nat.le_refl _) (kI fun r91 h91 hp91 => ?_)
              rw [e1] at hp91
              obtain ⟨rfl, F2, A2, rfl, hF2, hA2, hlv2, hsk2⟩ := hp91
              obtain ⟨nn, hnn⟩ : ∃ nn, nn = soS (A 1) T Q r j a := ⟨_, rfl⟩
              rw [← hnn]
              have hnl : nn ≤ 60 ∨ nn = 100000 := by rw [hnn]; exact soS_le ..
              refine aw_istore6 B dX12_ordersFrom_94 ?_
              refine aw_aload_n B 0 rfl dX12_ordersFrom_96 rfl ?_
              refine m_get B f_X12_31 dX12_ordersFrom_97 (mg_16 _ _) ?_
              refine aw_iload_n B 3 rfl dX12_ordersFrom_100 rfl ?_
              refine aw_iload B dX12_ordersFrom_101 rfl ?_
              refine m_st B (k) (rfl) (by show _ < 6; omega) dX12_ordersFrom_103 (by decide) ?_
              refine aw_iload B dX12_ordersFrom_104 rfl ?_
              refine aw_iload B dX12_ordersFrom_106 rfl ?_
              refine aw_iadd B dX12_ordersFrom_108 ?_
              refine aw_aload_n B 0 rfl dX12_ordersFrom_109 rfl ?_
              refine m_get B f_X12_175 dX12_ordersFrom_110 (mg_18 _ _) ?_
              refine aw_icmp_ge B 137 dX12_ordersFrom_113 (fun c113 => ?_) (fun c113 => ?_)
              · refine aw_iinc5 B 1 (by decide) dX12_ordersFrom_137 ?_
                refine aw_goto B 64 dX12_ordersFrom_140 ?_
                have hge : ¬ a + nn < st.1 := fun z => absurd (show F2 18 ≤ nI a + nI nn from c113) (by rw [hF2 18 (by simp), eb1, nI_add, Int32.not_le]; exact nI_lt z (by omega))
                rw [nI_1]
                refine AW.weak (lv' := [some (.ref m), some (.int (nI r)), some (.int (nI left)), some (.int (nI k)), some (.int (nI a)), some (.int (nI (j + 1))), none]) ⟨Or.inr rfl, Or.inr rfl, Or.inr rfl, Or.inr rfl, Or.inr rfl, Or.inr rfl, Or.inl rfl, trivial⟩ (ih (j + 1) F2 _ (st.1, st.2.1, upd st.2.2 k (nI j)) (by omega) (by omega) (by rw [ord_fs, ← hst, ordS, if_pos hb, ← hnn, if_neg hge]) hbe1 (hF.tr (hF2.mono (by simp))) ((hA.tr (hA2.mono (by simp))).up (by simp)) ?_ ?_ ((hF2 18 (by simp)).trans eb1) (by rw [mup_n (by decide), hA2 8 (by simp)]; exact e8) (by rw [mup_s, hA2 7 (by simp), e7]))
                · obtain ⟨kn, g1, g2, g3⟩ := hlv2
                  exact ⟨kn, g1, g2, fun i hi => by rw [mup_n (by decide)]; exact g3 i hi⟩
                · intro r' s' a' h1 h2 h3
                  rw [mup_n (by decide)]
                  exact hsk2 r' s' a' h1 h2 h3
              · have hlt2 : a + nn < st.1 := Nat.not_le.mp fun z => c113 (by rw [hF2 18 (by simp), eb1, nI_add]; exact nI_le z (by omega))
                obtain ⟨AX, hAX⟩ : ∃ AX, AX = mup A2 7 (upd (A2 7) k (nI j)) := ⟨_, rfl⟩
                rw [← hAX]
                have EXA : eqA [3, 4, 5, 6, 7, 8] A AX := by rw [hAX]; exact (hA.tr (hA2.mono (by simp))).up (by simp)
                have E1 : AX 1 = A 1 := by rw [hAX, mup_n (by decide), hA2 1 (by simp), e1]
                have E8 : AX 8 = st.2.1 := by rw [hAX, mup_n (by decide), hA2 8 (by simp)]; exact e8
                have E7 : AX 7 = upd st.2.2 k (nI j) := by rw [hAX, mup_s, hA2 7 (by simp), e7]
                have EX1 : iT (AX 1) T Q := by rw [E1]; exact hi
                have EX2 : iR (AX 1) n1 := by rw [E1]; exact hR
                have EX3 : iS (AX 1) n0 := by rw [E1]; exact hS
                have EX4 : lvI T Q F2 AX := by
                  obtain ⟨kn, g1, g2, g3⟩ := hlv2
                  exact ⟨kn, g1, g2, fun i hi => by rw [hAX, mup_n (by decide)]; exact g3 i hi⟩
                have EX5 : skI (AX 1) T Q n0 n1 AX := by
                  rw [E1]
                  intro r' s' a' h1 h2 h3
                  rw [hAX, mup_n (by decide)]
                  exact hsk2 r' s' a' h1 h2 h3
                refine aw_aload_n B 0 rfl dX12_ordersFrom_116 rfl ?_
                refine aw_iload_n B 1 rfl dX12_ordersFrom_117 rfl ?_
                refine aw_iload_n B 2 rfl dX12_ordersFrom_118 rfl ?_
                refine aw_iconst B 1 (by decide) dX12_ordersFrom_119 ?_
                refine aw_iload B dX12_ordersFrom_120 rfl ?_
                refine aw_ishl B dX12_ordersFrom_122 ?_
                refine aw_iconst B (-1) (by decide) dX12_ordersFrom_123 ?_
                refine aw_ixor B dX12_ordersFrom_124 ?_
                refine aw_iand B dX12_ordersFrom_125 ?_
                rw [hbb.1]
                refine aw_iload_n B 3 rfl dX12_ordersFrom_126 rfl ?_
                refine aw_iconst B 1 (by decide) dX12_ordersFrom_127 ?_
                refine aw_iadd B dX12_ordersFrom_128 ?_
                rw [nI_1]
                refine aw_iload B dX12_ordersFrom_129 rfl ?_
                refine aw_iload B dX12_ordersFrom_131 rfl ?_
                refine aw_iadd B dX12_ordersFrom_133 ?_
                rw [nI_add]
                refine aw_callV B 0 0 (ihd F2 AX (clr left j) (k + 1) (a + nn) st.1 EX1 EX2 EX3 hr1 EX4 EX5 hbb.2.1 (by omega) (by omega) (by omega) hbe1 ((hF2 18 (by simp)).trans eb1)) co_X12_ordersFrom k_X12_181 dX12_ordersFrom_134 hM_o rfl rfl rfl rfl (Nat.le_of_ble_eq_true rfl) (zrm hr (by omega)) (Nat.le_refl _) (Nat.le_refl _) (kV fun h134 hp134 => ?_)
                rw [E1, E8, E7] at hp134
                obtain ⟨hbe3, F3, A3, rfl, hF3, hA3, hlv3, hsk3, eb3, e83, e73⟩ := hp134
                refine aw_iinc5 B 1 (by decide) dX12_ordersFrom_137 ?_
                refine aw_goto B 64 dX12_ordersFrom_140 ?_
                rw [nI_1]
                refine AW.weak (lv' := [some (.ref m), some (.int (nI r)), some (.int (nI left)), some (.int (nI k)), some (.int (nI a)), some (.int (nI (j + 1))), none]) ⟨Or.inr rfl, Or.inr rfl, Or.inr rfl, Or.inr rfl, Or.inr rfl, Or.inr rfl, Or.inl rfl, trivial⟩ (ih (j + 1) F3 A3 _ (by omega) (by omega) (by rw [ord_fs, ← hst, ordS, if_pos hb, ← hnn, if_pos hlt2, ← E8, ← E7]) hbe3 ((hF.tr (hF2.mono (by simp))).tr hF3) (EXA.tr hA3) hlv3 (by rw [← E1]; exact hsk3) eb3 e83 e73)
      refine aw_iload_n B 2 rfl dX12_ordersFrom_0 rfl ?_
      refine aw_if_ne B 61 dX12_ordersFrom_1 (fun c1 => ?_) (fun c1 => absurd c1 (fun z => hl0 ((nI_eq (b := 0) (by omega) (by decide)).mp z)))
      refine aw_iconst B 0 (by decide) dX12_ordersFrom_61 ?_
      refine aw_istore5 B dX12_ordersFrom_62 ?_
      exact lp 7 0 F A (be, A 8, A 7) (by omega) (Nat.zero_le _) rfl hbe eqF.rf eqA.rf hlv hsk eb rfl rfl
