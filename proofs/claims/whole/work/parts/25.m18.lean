def swp (S : Nat → Int32) (a b : Nat) : Nat → Int32 := upd (upd S (10 + a) (S (10 + b))) (10 + b) (S (10 + a))
theorem swp_swp {S : Nat → Int32} {a b : Nat} (h : a ≠ b) : swp (swp S a b) a b = S := by
  funext j
  unfold swp upd
  by_cases h1 : j = 10 + b
  · subst h1
    have : ¬ 10 + b = 10 + a := by omega
    have h2 : ¬ 10 + a = 10 + b := by omega
    simp [this, h2]
    exact fun e => absurd e h
  · by_cases h2 : j = 10 + a
    · subst h2
      simp [h1]
      exact fun e => absurd e h
    · simp [h1, h2]
def chB (S : Nat → Int32) (T : Nat) (Q : pP) (n3 a : Nat) : Nat → Int32 × Int32 → Int32 × Int32
  | 0, st => st
  | i + 1, st => (if nI (wS (swp S a (a + 1 + i)) T Q n3) < (chB S T Q n3 a i st).2 then nI (10 * a + (a + 1 + i)) else (chB S T Q n3 a i st).1, if nI (wS (swp S a (a + 1 + i)) T Q n3) < (chB S T Q n3 a i st).2 then nI (wS (swp S a (a + 1 + i)) T Q n3) else (chB S T Q n3 a i st).2)
def chA (S : Nat → Int32) (T : Nat) (Q : pP) (n0 n3 : Nat) : Nat → Int32 × Int32
  | 0 => (-5, nI (wS S T Q n3))
  | a + 1 => chB S T Q n3 a (n0 - (a + 1)) (chA S T Q n0 n3 a)
theorem dX12_change_0 : decode cX12_change 0 = .ok (.aload_n 0, 1) := by decide +kernel
theorem dX12_change_1 : decode cX12_change 1 = .ok (.invokevirtual 165, 3) := by decide +kernel
theorem dX12_change_4 : decode cX12_change 4 = .ok (.bipush (-5), 2) := by decide +kernel
theorem dX12_change_6 : decode cX12_change 6 = .ok (.istore_n 1, 1) := by decide +kernel
theorem dX12_change_7 : decode cX12_change 7 = .ok (.aload_n 0, 1) := by decide +kernel
theorem dX12_change_8 : decode cX12_change 8 = .ok (.invokevirtual 194, 3) := by decide +kernel
theorem dX12_change_11 : decode cX12_change 11 = .ok (.istore_n 2, 1) := by decide +kernel
theorem dX12_change_12 : decode cX12_change 12 = .ok (.iconst 0, 1) := by decide +kernel
theorem dX12_change_13 : decode cX12_change 13 = .ok (.istore_n 3, 1) := by decide +kernel
theorem dX12_change_14 : decode cX12_change 14 = .ok (.iload_n 3, 1) := by decide +kernel
theorem dX12_change_15 : decode cX12_change 15 = .ok (.aload_n 0, 1) := by decide +kernel
theorem dX12_change_16 : decode cX12_change 16 = .ok (.getfield 9, 3) := by decide +kernel
theorem dX12_change_19 : decode cX12_change 19 = .ok (.iconst 0, 1) := by decide +kernel
theorem dX12_change_20 : decode cX12_change 20 = .ok (.iaload, 1) := by decide +kernel
theorem dX12_change_21 : decode cX12_change 21 = .ok (.if_icmp .ge 82, 3) := by decide +kernel
theorem dX12_change_24 : decode cX12_change 24 = .ok (.iload_n 3, 1) := by decide +kernel
theorem dX12_change_25 : decode cX12_change 25 = .ok (.iconst 1, 1) := by decide +kernel
theorem dX12_change_26 : decode cX12_change 26 = .ok (.iadd, 1) := by decide +kernel
theorem dX12_change_27 : decode cX12_change 27 = .ok (.istore 4, 2) := by decide +kernel
theorem dX12_change_29 : decode cX12_change 29 = .ok (.iload 4, 2) := by decide +kernel
theorem dX12_change_31 : decode cX12_change 31 = .ok (.aload_n 0, 1) := by decide +kernel
theorem dX12_change_32 : decode cX12_change 32 = .ok (.getfield 9, 3) := by decide +kernel
theorem dX12_change_35 : decode cX12_change 35 = .ok (.iconst 0, 1) := by decide +kernel
theorem dX12_change_36 : decode cX12_change 36 = .ok (.iaload, 1) := by decide +kernel
theorem dX12_change_37 : decode cX12_change 37 = .ok (.if_icmp .ge 60, 3) := by decide +kernel
theorem dX12_change_40 : decode cX12_change 40 = .ok (.aload_n 0, 1) := by decide +kernel
theorem dX12_change_41 : decode cX12_change 41 = .ok (.iload_n 3, 1) := by decide +kernel
theorem dX12_change_42 : decode cX12_change 42 = .ok (.iload 4, 2) := by decide +kernel
theorem dX12_change_44 : decode cX12_change 44 = .ok (.invokevirtual 197, 3) := by decide +kernel
theorem dX12_change_47 : decode cX12_change 47 = .ok (.aload_n 0, 1) := by decide +kernel
theorem dX12_change_48 : decode cX12_change 48 = .ok (.invokevirtual 194, 3) := by decide +kernel
theorem dX12_change_51 : decode cX12_change 51 = .ok (.istore 5, 2) := by decide +kernel
theorem dX12_change_53 : decode cX12_change 53 = .ok (.aload_n 0, 1) := by decide +kernel
theorem dX12_change_54 : decode cX12_change 54 = .ok (.iload_n 3, 1) := by decide +kernel
theorem dX12_change_55 : decode cX12_change 55 = .ok (.iload 4, 2) := by decide +kernel
theorem dX12_change_57 : decode cX12_change 57 = .ok (.invokevirtual 197, 3) := by decide +kernel
theorem dX12_change_60 : decode cX12_change 60 = .ok (.iload 5, 2) := by decide +kernel
theorem dX12_change_62 : decode cX12_change 62 = .ok (.iload_n 2, 1) := by decide +kernel
theorem dX12_change_63 : decode cX12_change 63 = .ok (.if_icmp .ge 13, 3) := by decide +kernel
theorem dX12_change_66 : decode cX12_change 66 = .ok (.bipush 10, 2) := by decide +kernel
theorem dX12_change_68 : decode cX12_change 68 = .ok (.iload_n 3, 1) := by decide +kernel
theorem dX12_change_69 : decode cX12_change 69 = .ok (.imul, 1) := by decide +kernel
theorem dX12_change_70 : decode cX12_change 70 = .ok (.iload 4, 2) := by decide +kernel
theorem dX12_change_72 : decode cX12_change 72 = .ok (.iadd, 1) := by decide +kernel
theorem dX12_change_73 : decode cX12_change 73 = .ok (.goto 4, 3) := by decide +kernel
theorem dX12_change_76 : decode cX12_change 76 = .ok (.iload_n 1, 1) := by decide +kernel
theorem dX12_change_77 : decode cX12_change 77 = .ok (.istore_n 1, 1) := by decide +kernel
theorem dX12_change_78 : decode cX12_change 78 = .ok (.iload 5, 2) := by decide +kernel
theorem dX12_change_80 : decode cX12_change 80 = .ok (.iload_n 2, 1) := by decide +kernel
theorem dX12_change_81 : decode cX12_change 81 = .ok (.if_icmp .ge 8, 3) := by decide +kernel
theorem dX12_change_84 : decode cX12_change 84 = .ok (.iload 5, 2) := by decide +kernel
theorem dX12_change_86 : decode cX12_change 86 = .ok (.goto 4, 3) := by decide +kernel
theorem dX12_change_89 : decode cX12_change 89 = .ok (.iload_n 2, 1) := by decide +kernel
theorem dX12_change_90 : decode cX12_change 90 = .ok (.istore_n 2, 1) := by decide +kernel
theorem dX12_change_91 : decode cX12_change 91 = .ok (.iinc 4 1, 3) := by decide +kernel
theorem dX12_change_94 : decode cX12_change 94 = .ok (.goto (-65), 3) := by decide +kernel
theorem dX12_change_97 : decode cX12_change 97 = .ok (.iinc 3 1, 3) := by decide +kernel
theorem dX12_change_100 : decode cX12_change 100 = .ok (.goto (-86), 3) := by decide +kernel
theorem dX12_change_103 : decode cX12_change 103 = .ok (.iload_n 1, 1) := by decide +kernel
theorem dX12_change_104 : decode cX12_change 104 = .ok (.ireturn, 1) := by decide +kernel
set_option maxRecDepth 100000 in
set_option maxHeartbeats 4000000 in
theorem s_change (l : Launch) (g : zG) (h : Hp) (m : Nat) (F : Nat → Int32) (A : Nat → Nat → Int32) (T : Nat) (Q : pP) (hi : iT (A 1) T Q) (n0 n1 : Nat) (hR : iR (A 1) n1) (hS : iS (A 1) n0) (n3 : Nat) (hA3 : iA (A 1) n0 n1 n3) : Sp l g yX12_change cX12_change 6 (some .int) (rmz 9) [.ref m] (hM g h m F A) (zI (mq g h m F A ((chA (A 1) T Q n0 n3 n0).1))) := by
  refine Sp.of [some (.ref m), none, none, none, none, none] (by decide) (Nat.le_of_ble_eq_true rfl) rfl rfl ?_
  rintro X rfl hr rfl B
  show AW X 0 0 0 _ _ _ _
  have z1 := hR.1
  have z2 := hS.1
  have z3 := hA3.1
  have lp : ∀ (f a : Nat) (F1 : Nat → Int32) (A1 : Nat → Nat → Int32), n0 < a + f → a ≤ n0 → eqF GF F F1 → eqA GA A A1 → lvI T Q F1 A1 → AW X 0 0 14 [some (.ref m), some (.int (chA (A 1) T Q n0 n3 a).1), some (.int (chA (A 1) T Q n0 n3 a).2), some (.int (nI a)), none, none] [] (hM (zXg X) h m F1 A1) (zI (mq (zXg X) h m F A ((chA (A 1) T Q n0 n3 n0).1))) := by
    intro f
    induction f with
    | zero => intros; omega
    | succ f ih =>
      intro a F1 A1 hf ha hF hA hlv1
      have e1 : A1 1 = A 1 := hA 1 (by simp [GA])
      refine aw_iload_n B 3 rfl dX12_change_14 rfl ?_
      refine aw_aload_n B 0 rfl dX12_change_15 rfl ?_
      refine m_get B f_X12_9 dX12_change_16 (mg_1 _ _) ?_
      refine aw_iconst B 0 (by decide) dX12_change_19 ?_
      refine m_ld B (0) (rfl) ((by decide)) dX12_change_20 (by decide) ?_
      refine aw_icmp_ge B 103 dX12_change_21 (fun c21 => ?_) (fun c21 => ?_)
      · refine aw_iload_n B 1 rfl dX12_change_103 rfl ?_
        refine aw_iret B rfl rfl dX12_change_104 ?_
        have hje : a = n0 := Nat.le_antisymm ha ((nI_leI (by omega) (by omega)).mp (by rw [e1, hS.2.1] at c21; exact c21))
        exact ⟨_, rfl, by rw [hje], F1, A1, rfl, hF, hA, trivial⟩
      · have hlt : a < n0 := Nat.not_le.mp fun z => c21 (by rw [e1, hS.2.1]; exact nI_le z (by omega))
        refine aw_iload_n B 3 rfl dX12_change_24 rfl ?_
        refine aw_iconst B 1 (by decide) dX12_change_25 ?_
        refine aw_iadd B dX12_change_26 ?_
        rw [nI_1]
        refine aw_istore4 B dX12_change_27 ?_
        have lq : ∀ (f2 i : Nat) (F2 : Nat → Int32) (A2 : Nat → Nat → Int32), n0 < a + 1 + i + f2 → a + 1 + i ≤ n0 → eqF GF F F2 → eqA GA A A2 → lvI T Q F2 A2 → AW X 0 0 29 [some (.ref m), some (.int (chB (A 1) T Q n3 a i (chA (A 1) T Q n0 n3 a)).1), some (.int (chB (A 1) T Q n3 a i (chA (A 1) T Q n0 n3 a)).2), some (.int (nI a)), some (.int (nI (a + 1 + i))), none] [] (hM (zXg X) h m F2 A2) (zI (mq (zXg X) h m F A ((chA (A 1) T Q n0 n3 n0).1))) := by
          intro f2
          induction f2 with
          | zero => intros; omega
          | succ f2 ih2 =>
            intro i F2 A2 hf2 hi2 hF2 hA2 hlv2
            have e2 : A2 1 = A 1 := hA2 1 (by simp [GA])
            refine aw_iload B dX12_change_29 rfl ?_
            refine aw_aload_n B 0 rfl dX12_change_31 rfl ?_
            refine m_get B f_X12_9 dX12_change_32 (mg_1 _ _) ?_
            refine aw_iconst B 0 (by decide) dX12_change_35 ?_
            refine m_ld B (0) (rfl) ((by decide)) dX12_change_36 (by decide) ?_
            refine aw_icmp_ge B 97 dX12_change_37 (fun c37 => ?_) (fun c37 => ?_)
            · refine aw_iinc3 B 1 (by decide) dX12_change_97 ?_
              refine aw_goto B 14 dX12_change_100 ?_
              have hie : a + 1 + i = n0 := Nat.le_antisymm hi2 ((nI_leI (by omega) (by omega)).mp (by rw [e2, hS.2.1] at c37; exact c37))
              rw [nI_1]
              refine AW.weak (lv' := [some (.ref m), some (.int (chA (A 1) T Q n0 n3 (a + 1)).1), some (.int (chA (A 1) T Q n0 n3 (a + 1)).2), some (.int (nI (a + 1))), none, none]) ?_ (ih (a + 1) F2 A2 (by omega) (by omega) hF2 hA2 hlv2)
              rw [chA, show n0 - (a + 1) = i by omega]
              exact ⟨Or.inr rfl, Or.inr rfl, Or.inr rfl, Or.inr rfl, Or.inl rfl, Or.inl rfl, trivial⟩
            · have hlb : a + 1 + i < n0 := Nat.not_le.mp fun z => c37 (by rw [e2, hS.2.1]; exact nI_le z (by omega))
              refine aw_aload_n B 0 rfl dX12_change_40 rfl ?_
              refine aw_iload_n B 3 rfl dX12_change_41 rfl ?_
              refine aw_iload B dX12_change_42 rfl ?_
              refine aw_callV B 0 0 (s_changes _ _ _ _ _ _ a (a + 1 + i) (by omega) (by omega)) co_X12_changes k_X12_197 dX12_change_44 hM_o rfl rfl rfl rfl (Nat.le_of_ble_eq_true rfl) (zrm hr (by decide)) (Nat.le_refl _) (Nat.le_refl _) (kV fun h44 hp44 => ?_)
              subst hp44
              have E1 : (mup A2 1 (upd (upd (A2 1) (10 + a) (A2 1 (10 + (a + 1 + i)))) (10 + (a + 1 + i)) (A2 1 (10 + a)))) 1 = swp (A 1) a (a + 1 + i) := by rw [mup_s, e2]; rfl
              have E_lv : lvI T Q F2 (mup A2 1 (upd (upd (A2 1) (10 + a) (A2 1 (10 + (a + 1 + i)))) (10 + (a + 1 + i)) (A2 1 (10 + a)))) := by
                obtain ⟨kn, g1, g2, g3⟩ := hlv2
                exact ⟨kn, g1, g2, fun i hi => by rw [mup_n (by decide)]; exact g3 i hi⟩
              have ha6 : a < 6 := by omega
              have hb6 : a + 1 + i < 6 := by omega
              refine aw_aload_n B 0 rfl dX12_change_47 rfl ?_
              refine aw_callV B 0 0 (s_waitsAll _ _ _ _ _ _ T Q (by rw [E1]; exact iT_up hb6 (iT_up ha6 hi)) E_lv n0 n1 (by rw [E1]; exact iR_up hb6 (iR_up ha6 hR)) (by rw [E1]; exact iS_up hb6 (hS.2.2 a (by omega)).1 (iS_up ha6 (hS.2.2 _ hlb).1 hS)) n3 (by rw [E1]; exact iA_up hb6 (iA_up ha6 hA3))) co_X12_waitsAll k_X12_194 dX12_change_48 hM_o rfl rfl rfl rfl (Nat.le_of_ble_eq_true rfl) (zrm hr (by decide)) (Nat.le_refl _) (Nat.le_refl _) (kI fun r48 h48 hp48 => ?_)
              rw [E1] at hp48
              obtain ⟨rfl, F3, A3, rfl, hF3, hA3', hlv3⟩ := hp48
              have e3 : A3 1 = swp (A 1) a (a + 1 + i) := (hA3' 1 (by simp)).trans E1
              refine aw_istore5 B dX12_change_51 ?_
              refine aw_aload_n B 0 rfl dX12_change_53 rfl ?_
              refine aw_iload_n B 3 rfl dX12_change_54 rfl ?_
              refine aw_iload B dX12_change_55 rfl ?_
              refine aw_callV B 0 0 (s_changes _ _ _ _ _ _ a (a + 1 + i) (by omega) (by omega)) co_X12_changes k_X12_197 dX12_change_57 hM_o rfl rfl rfl rfl (Nat.le_of_ble_eq_true rfl) (zrm hr (by decide)) (Nat.le_refl _) (Nat.le_refl _) (kV fun h57 hp57 => ?_)
              subst hp57
              refine aw_iload B dX12_change_60 rfl ?_
              refine aw_iload_n B 2 rfl dX12_change_62 rfl ?_
              refine aw_icmp_ge B 76 dX12_change_63 (fun c63 => ?_) (fun c63 => ?_)
              · refine aw_iload_n B 1 rfl dX12_change_76 rfl ?_
                refine aw_istore1 B dX12_change_77 ?_
                refine aw_iload B dX12_change_78 rfl ?_
                refine aw_iload_n B 2 rfl dX12_change_80 rfl ?_
                refine aw_icmp_ge B 89 dX12_change_81 (fun c81 => ?_) (fun c81 => absurd c63 c81)
                refine aw_iload_n B 2 rfl dX12_change_89 rfl ?_
                refine aw_istore2 B dX12_change_90 ?_
                refine aw_iinc4 B 1 (by decide) dX12_change_91 ?_
                refine aw_goto B 29 dX12_change_94 ?_
                rw [nI_1]
                refine AW.weak (lv' := [some (.ref m), some (.int (chB (A 1) T Q n3 a (i + 1) (chA (A 1) T Q n0 n3 a)).1), some (.int (chB (A 1) T Q n3 a (i + 1) (chA (A 1) T Q n0 n3 a)).2), some (.int (nI a)), some (.int (nI (a + 1 + (i + 1)))), none]) ?_ (ih2 (i + 1) F3 _ (by omega) (by omega) (hF2.tr (gar_1 hF3)) ?_ ?_)
                · rw [chB]
                  first
                    | rw [if_pos (Int32.not_le.mp c63), if_pos (Int32.not_le.mp c63)]
                    | rw [if_neg (Int32.not_lt.mpr c63), if_neg (Int32.not_lt.mpr c63)]
                  exact ⟨Or.inr rfl, Or.inr rfl, Or.inr rfl, Or.inr rfl, Or.inr rfl, Or.inl rfl, trivial⟩
                · rw [e3]
                  intro k hk
                  by_cases h1 : k = 1
                  · rw [h1, mup_s]; exact swp_swp (by omega)
                  · rw [mup_n h1]
                    refine (hA3' k (fun z => hk ?_)).trans ?_
                    · simp at z; rcases z with rfl | rfl | rfl <;> simp [GA]
                    · rw [mup_n h1]; exact hA2 k hk
                · obtain ⟨kn, g1, g2, g3⟩ := hlv3
                  exact ⟨kn, g1, g2, fun i hi => by rw [mup_n (by decide)]; exact g3 i hi⟩
              · refine aw_bipush B 10 (by decide) dX12_change_66 ?_
                refine aw_iload_n B 3 rfl dX12_change_68 rfl ?_
                refine aw_imul B dX12_change_69 ?_
                refine aw_iload B dX12_change_70 rfl ?_
                refine aw_iadd B dX12_change_72 ?_
                rw [show (10 : Int32) * nI a = nI (10 * a) from pk_mul 10 a, nI_add]
                refine aw_goto B 77 dX12_change_73 ?_
                refine aw_istore1 B dX12_change_77 ?_
                refine aw_iload B dX12_change_78 rfl ?_
                refine aw_iload_n B 2 rfl dX12_change_80 rfl ?_
                refine aw_icmp_ge B 89 dX12_change_81 (fun c81 => absurd c81 c63) (fun c81 => ?_)
                refine aw_iload B dX12_change_84 rfl ?_
                refine aw_goto B 90 dX12_change_86 ?_
                refine aw_istore2 B dX12_change_90 ?_
                refine aw_iinc4 B 1 (by decide) dX12_change_91 ?_
                refine aw_goto B 29 dX12_change_94 ?_
                rw [nI_1]
                refine AW.weak (lv' := [some (.ref m), some (.int (chB (A 1) T Q n3 a (i + 1) (chA (A 1) T Q n0 n3 a)).1), some (.int (chB (A 1) T Q n3 a (i + 1) (chA (A 1) T Q n0 n3 a)).2), some (.int (nI a)), some (.int (nI (a + 1 + (i + 1)))), none]) ?_ (ih2 (i + 1) F3 _ (by omega) (by omega) (hF2.tr (gar_1 hF3)) ?_ ?_)
                · rw [chB]
                  first
                    | rw [if_pos (Int32.not_le.mp c63), if_pos (Int32.not_le.mp c63)]
                    | rw [if_neg (Int32.not_lt.mpr c63), if_neg (Int32.not_lt.mpr c63)]
                  exact ⟨Or.inr rfl, Or.inr rfl, Or.inr rfl, Or.inr rfl, Or.inr rfl, Or.inl rfl, trivial⟩
                · rw [e3]
                  intro k hk
                  by_cases h1 : k = 1
                  · rw [h1, mup_s]; exact swp_swp (by omega)
                  · rw [mup_n h1]
                    refine (hA3' k (fun z => hk ?_)).trans ?_
                    · simp at z; rcases z with rfl | rfl | rfl <;> simp [GA]
                    · rw [mup_n h1]; exact hA2 k hk
                · obtain ⟨kn, g1, g2, g3⟩ := hlv3
                  exact ⟨kn, g1, g2, fun i hi => by rw [mup_n (by decide)]; exact g3 i hi⟩
        exact lq 7 0 F1 A1 (by omega) (by omega) hF hA hlv1
  refine aw_aload_n B 0 rfl dX12_change_0 rfl ?_
  refine aw_callV B 0 0 (s_forgets _ _ _ _ _ _) co_X12_forgets k_X12_165 dX12_change_1 hM_o rfl rfl rfl rfl (Nat.le_of_ble_eq_true rfl) (zrm hr (by decide)) (Nat.le_refl _) (Nat.le_refl _) (kV fun h1 hp1 => ?_)
  subst hp1
  refine aw_bipush B (-5) (by decide) dX12_change_4 ?_
  refine aw_istore1 B dX12_change_6 ?_
  refine aw_aload_n B 0 rfl dX12_change_7 rfl ?_
  refine aw_callV B 0 0 (s_waitsAll _ _ _ _ _ _ T Q hi lvI_0 n0 n1 hR hS n3 hA3) co_X12_waitsAll k_X12_194 dX12_change_8 hM_o rfl rfl rfl rfl (Nat.le_of_ble_eq_true rfl) (zrm hr (by decide)) (Nat.le_refl _) (Nat.le_refl _) (kI fun r8 h8 hp8 => ?_)
  obtain ⟨rfl, F2, A2, rfl, hF2, hA2, hlv2⟩ := hp8
  refine aw_istore2 B dX12_change_11 ?_
  refine aw_iconst B 0 (by decide) dX12_change_12 ?_
  refine aw_istore3 B dX12_change_13 ?_
  exact lp 7 0 F2 A2 (by omega) (Nat.zero_le _) (gar_5.tr (gar_1 hF2)) (gar_2 hA2) hlv2
