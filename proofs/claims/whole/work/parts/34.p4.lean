theorem dX12_much_0 : decode cX12_much 0 = .ok (.aload_n 0, 1) := by decide +kernel
theorem dX12_much_1 : decode cX12_much 1 = .ok (.aload_n 2, 1) := by decide +kernel
theorem dX12_much_2 : decode cX12_much 2 = .ok (.invokevirtual 104, 3) := by decide +kernel
theorem dX12_much_5 : decode cX12_much 5 = .ok (.aload_n 0, 1) := by decide +kernel
theorem dX12_much_6 : decode cX12_much 6 = .ok (.invokevirtual 98, 3) := by decide +kernel
theorem dX12_much_9 : decode cX12_much 9 = .ok (.istore_n 3, 1) := by decide +kernel
theorem dX12_much_10 : decode cX12_much 10 = .ok (.aload_n 0, 1) := by decide +kernel
theorem dX12_much_11 : decode cX12_much 11 = .ok (.bipush 32, 2) := by decide +kernel
theorem dX12_much_13 : decode cX12_much 13 = .ok (.invokevirtual 71, 3) := by decide +kernel
theorem dX12_much_16 : decode cX12_much 16 = .ok (.aload_n 0, 1) := by decide +kernel
theorem dX12_much_17 : decode cX12_much 17 = .ok (.invokevirtual 87, 3) := by decide +kernel
theorem dX12_much_20 : decode cX12_much 20 = .ok (.aload_n 0, 1) := by decide +kernel
theorem dX12_much_21 : decode cX12_much 21 = .ok (.iload_n 1, 1) := by decide +kernel
theorem dX12_much_22 : decode cX12_much 22 = .ok (.iload_n 3, 1) := by decide +kernel
theorem dX12_much_23 : decode cX12_much 23 = .ok (.isub, 1) := by decide +kernel
theorem dX12_much_24 : decode cX12_much 24 = .ok (.invokevirtual 84, 3) := by decide +kernel
theorem dX12_much_27 : decode cX12_much 27 = .ok (.return_, 1) := by decide +kernel
set_option maxRecDepth 100000 in
set_option maxHeartbeats 4000000 in
theorem s_much (l : Launch) (g : zG) (h : Hp) (m : Nat) (F : Nat → Int32) (A : Nat → Nat → Int32) (c e : Nat) (s : pst) (kv : Int32) (i x : Nat) (he : e ≤ 100) (hc : c < 5) (hs : s.1 ≤ e) (hl : s.2.2.length ≤ s.1) (hi : i < 5) (hk : ∀ n, n ≤ 99 → kv - nI n = cd x n) : Sp l g yX12_much cX12_much 4 none (rmz 24) [.ref m, .int kv, .ref (sA g i)] (hP g h m F A c e 0 s) (zV fun h' => h' = hP g h m F A c e 0 (muP (tpA A) e x i s)) := by
  refine Sp.of [some (.ref m), some (.int kv), some (.ref (sA g i)), none] (by decide) (Nat.le_of_ble_eq_true rfl) rfl rfl ?_
  rintro X rfl hr rfl B
  show AW X 0 0 0 _ _ _ _
  obtain ⟨a1, a2, a3, a4, a5⟩ := sp_gs (tpA A) e (zByt.getD i []) s (zByt_ok i hi) hs
  obtain ⟨f1, f2, f3, f4, f5⟩ := fig_gs (tp := (tpA A)) a2
  obtain ⟨m1, m2, m3, m4, m5⟩ := must_gs (tp := (tpA A)) (c := 32) (by decide) f3
  have l3 : (mustP (tpA A) e 32 (figP (tpA A) e (spP (tpA A) e (zByt.getD i []) s)).2).2.2.length ≤ (mustP (tpA A) e 32 (figP (tpA A) e (spP (tpA A) e (zByt.getD i []) s)).2).1 := by rw [m3, f4, a3]; omega
  obtain ⟨g1, g2, g3⟩ := gd_ok (so_gd (tp := (tpA A)) (fac_gd (tpA A) e 5)) m2 l3
  refine aw_aload_n B 0 rfl dX12_much_0 rfl ?_
  refine aw_aload_n B 2 rfl dX12_much_1 rfl ?_
  refine aw_callV B 0 0 (s_spells _ _ _ _ _ _ c e 0 s i he hs hi) co_X12_spells k_X12_104 dX12_much_2 hP_o rfl rfl rfl rfl (Nat.le_of_ble_eq_true rfl) (zrm hr (by omega)) (Nat.le_refl _) (Nat.le_refl _) (kV fun h2 hp2 => ?_)
  subst hp2
  refine aw_aload_n B 0 rfl dX12_much_5 rfl ?_
  refine aw_callV B 0 0 (s_figures _ _ _ _ _ _ c e 0 (spP (tpA A) e (zByt.getD i []) s).1 (spP (tpA A) e (zByt.getD i []) s).2.1 (spP (tpA A) e (zByt.getD i []) s).2.2 he a2) co_X12_figures k_X12_98 dX12_much_6 hP_o rfl rfl rfl rfl (Nat.le_of_ble_eq_true rfl) (zrm hr (by omega)) (Nat.le_refl _) (Nat.le_refl _) (kI fun r6 h6 hp6 => ?_)
  obtain ⟨rfl, rfl⟩ := hp6
  refine aw_istore3 B dX12_much_9 ?_
  refine aw_aload_n B 0 rfl dX12_much_10 rfl ?_
  refine aw_bipush B 32 (by decide) dX12_much_11 ?_
  refine aw_callV B 0 0 (s_must _ _ _ _ _ _ c e 0 (figP (tpA A) e (spP (tpA A) e (zByt.getD i []) s)).2.1 (figP (tpA A) e (spP (tpA A) e (zByt.getD i []) s)).2.2.1 (figP (tpA A) e (spP (tpA A) e (zByt.getD i []) s)).2.2.2 32 he f3) co_X12_must k_X12_71 dX12_much_13 hP_o rfl rfl rfl rfl (Nat.le_of_ble_eq_true rfl) (zrm hr (by omega)) (Nat.le_refl _) (Nat.le_refl _) (kV fun h13 hp13 => ?_)
  subst hp13
  refine aw_aload_n B 0 rfl dX12_much_16 rfl ?_
  refine aw_callV B 0 0 (s_so he hc (by omega) (fac_gd (tpA A) e 5) (s_factor _ _ _ _ _ _ c e he hc 5 0 rfl) (mustP (tpA A) e 32 (figP (tpA A) e (spP (tpA A) e (zByt.getD i []) s)).2) m2 l3) co_X12_some k_X12_87 dX12_much_17 hP_o rfl rfl rfl rfl (Nat.le_of_ble_eq_true rfl) (zrm hr (by omega)) (Nat.le_refl _) (Nat.le_refl _) (kV fun h17 hp17 => ?_)
  subst hp17
  refine aw_aload_n B 0 rfl dX12_much_20 rfl ?_
  refine aw_iload_n B 1 rfl dX12_much_21 rfl ?_
  refine aw_iload_n B 3 rfl dX12_much_22 rfl ?_
  refine aw_isub B dX12_much_23 ?_
  refine aw_callV B 0 0 (s_emits _ _ _ _ _ _ c e 0 (soP (tpA A) e (facP (tpA A) e 5) (mustP (tpA A) e 32 (figP (tpA A) e (spP (tpA A) e (zByt.getD i []) s)).2)).1 (soP (tpA A) e (facP (tpA A) e 5) (mustP (tpA A) e 32 (figP (tpA A) e (spP (tpA A) e (zByt.getD i []) s)).2)).2.1 (soP (tpA A) e (facP (tpA A) e 5) (mustP (tpA A) e 32 (figP (tpA A) e (spP (tpA A) e (zByt.getD i []) s)).2)).2.2 _ (x, (figP (tpA A) e (spP (tpA A) e (zByt.getD i []) s)).1) hc (fun _ => ⟨hk _ f1, by omega⟩)) co_X12_emits k_X12_84 dX12_much_24 hP_o rfl rfl rfl rfl (Nat.le_of_ble_eq_true rfl) (zrm hr (by omega)) (Nat.le_refl _) (Nat.le_refl _) (kV fun h24 hp24 => ?_)
  subst hp24
  refine aw_vret B rfl dX12_much_27 ?_
  exact ⟨rfl, rfl⟩
theorem dX12_clauseHere_0 : decode cX12_clauseHere 0 = .ok (.aload_n 0, 1) := by decide +kernel
theorem dX12_clauseHere_1 : decode cX12_clauseHere 1 = .ok (.invokevirtual 58, 3) := by decide +kernel
theorem dX12_clauseHere_4 : decode cX12_clauseHere 4 = .ok (.lookupswitch 71 #[(101, 47), (115, 36), (119, 59)], 36) := by decide +kernel
theorem dX12_clauseHere_40 : decode cX12_clauseHere 40 = .ok (.aload_n 0, 1) := by decide +kernel
theorem dX12_clauseHere_41 : decode cX12_clauseHere 41 = .ok (.bipush (-10), 2) := by decide +kernel
theorem dX12_clauseHere_43 : decode cX12_clauseHere 43 = .ok (.ldc 108, 2) := by decide +kernel
theorem dX12_clauseHere_45 : decode cX12_clauseHere 45 = .ok (.invokevirtual 110, 3) := by decide +kernel
theorem dX12_clauseHere_48 : decode cX12_clauseHere 48 = .ok (.goto 32, 3) := by decide +kernel
theorem dX12_clauseHere_51 : decode cX12_clauseHere 51 = .ok (.aload_n 0, 1) := by decide +kernel
theorem dX12_clauseHere_52 : decode cX12_clauseHere 52 = .ok (.sipush (-200), 3) := by decide +kernel
theorem dX12_clauseHere_55 : decode cX12_clauseHere 55 = .ok (.ldc 114, 2) := by decide +kernel
theorem dX12_clauseHere_57 : decode cX12_clauseHere 57 = .ok (.invokevirtual 110, 3) := by decide +kernel
theorem dX12_clauseHere_60 : decode cX12_clauseHere 60 = .ok (.goto 20, 3) := by decide +kernel
theorem dX12_clauseHere_63 : decode cX12_clauseHere 63 = .ok (.aload_n 0, 1) := by decide +kernel
theorem dX12_clauseHere_64 : decode cX12_clauseHere 64 = .ok (.sipush (-400), 3) := by decide +kernel
theorem dX12_clauseHere_67 : decode cX12_clauseHere 67 = .ok (.ldc 116, 2) := by decide +kernel
theorem dX12_clauseHere_69 : decode cX12_clauseHere 69 = .ok (.invokevirtual 110, 3) := by decide +kernel
theorem dX12_clauseHere_72 : decode cX12_clauseHere 72 = .ok (.goto 8, 3) := by decide +kernel
theorem dX12_clauseHere_75 : decode cX12_clauseHere 75 = .ok (.aload_n 0, 1) := by decide +kernel
theorem dX12_clauseHere_76 : decode cX12_clauseHere 76 = .ok (.iconst 1, 1) := by decide +kernel
theorem dX12_clauseHere_77 : decode cX12_clauseHere 77 = .ok (.putfield 54, 3) := by decide +kernel
theorem dX12_clauseHere_80 : decode cX12_clauseHere 80 = .ok (.return_, 1) := by decide +kernel
set_option maxRecDepth 100000 in
set_option maxHeartbeats 4000000 in
theorem s_clauseHere (l : Launch) (g : zG) (h : Hp) (m : Nat) (F : Nat → Int32) (A : Nat → Nat → Int32) (c e : Nat) (p : Nat) (P : pP) (he : e ≤ 100) (hc : c < 5) (hs : p ≤ e) (hl : P.length ≤ p) : Sp l g yX12_clauseHere cX12_clauseHere 1 none (rmz 25) [.ref m] (hP g h m F A c e 0 (p, false, P)) (zV fun h' => h' = hP g h m F A c e 0 (clP (tpA A) e (p, false, P))) := by
  refine Sp.of [some (.ref m)] (by decide) (Nat.le_of_ble_eq_true rfl) rfl rfl ?_
  rintro X rfl hr rfl B
  show AW X 0 0 0 _ _ _ _
  refine aw_aload_n B 0 rfl dX12_clauseHere_0 rfl ?_
  refine aw_callV B 0 0 (s_here _ _ _ _ _ _ c e _ (p, false, P) he hs) co_X12_here k_X12_58 dX12_clauseHere_1 hP_o rfl rfl rfl rfl (Nat.le_of_ble_eq_true rfl) (zrm hr (by omega)) (Nat.le_refl _) (Nat.le_refl _) (kI fun r1 h1 hp1 => ?_)
  obtain ⟨rfl, rfl⟩ := hp1
  by_cases h1 : hre (tpA A) e (p, false, P) = 115
  · rw [h1]
    refine aw_lookup (off := 36) B 40 dX12_clauseHere_4 (by decide) ?_
    refine aw_aload_n B 0 rfl dX12_clauseHere_40 rfl ?_
    refine aw_bipush B (-10) (by decide) dX12_clauseHere_41 ?_
    refine aw_ldcS (i := 0) (tx := "swell ") B (by show ("LowWaterModel", _, _, _) ∈ zSR; simp [zSR]) dX12_clauseHere_43 ?_
    refine aw_callV B 0 0 (s_much _ _ _ _ _ _ c e (p, false, P) (-10) 0 12 he hc hs hl (by decide) (fun n _ => rfl)) co_X12_much k_X12_110 dX12_clauseHere_45 hP_o rfl rfl rfl rfl (Nat.le_of_ble_eq_true rfl) (zrm hr (by omega)) (Nat.le_refl _) (Nat.le_refl _) (kV fun h45 hp45 => ?_)
    subst hp45
    refine aw_goto B 80 dX12_clauseHere_48 ?_
    refine aw_vret B rfl dX12_clauseHere_80 ?_
    exact ⟨rfl, by unfold clP; rw [if_neg Bool.false_ne_true, if_pos h1]⟩
  by_cases h2 : hre (tpA A) e (p, false, P) = 101
  · rw [h2]
    refine aw_lookup (off := 47) B 51 dX12_clauseHere_4 (by decide) ?_
    refine aw_aload_n B 0 rfl dX12_clauseHere_51 rfl ?_
    refine aw_sipush B (-200) (by decide) dX12_clauseHere_52 ?_
    refine aw_ldcS (i := 1) (tx := "ebb ") B (by show ("LowWaterModel", _, _, _) ∈ zSR; simp [zSR]) dX12_clauseHere_55 ?_
    refine aw_callV B 0 0 (s_much _ _ _ _ _ _ c e (p, false, P) (-200) 1 13 he hc hs hl (by decide) (fun n _ => rfl)) co_X12_much k_X12_110 dX12_clauseHere_57 hP_o rfl rfl rfl rfl (Nat.le_of_ble_eq_true rfl) (zrm hr (by omega)) (Nat.le_refl _) (Nat.le_refl _) (kV fun h57 hp57 => ?_)
    subst hp57
    refine aw_goto B 80 dX12_clauseHere_60 ?_
    refine aw_vret B rfl dX12_clauseHere_80 ?_
    exact ⟨rfl, by unfold clP; rw [if_neg Bool.false_ne_true, if_neg h1, if_pos h2]⟩
  by_cases h3 : hre (tpA A) e (p, false, P) = 119
  · rw [h3]
    refine aw_lookup (off := 59) B 63 dX12_clauseHere_4 (by decide) ?_
    refine aw_aload_n B 0 rfl dX12_clauseHere_63 rfl ?_
    refine aw_sipush B (-400) (by decide) dX12_clauseHere_64 ?_
    refine aw_ldcS (i := 2) (tx := "wave ") B (by show ("LowWaterModel", _, _, _) ∈ zSR; simp [zSR]) dX12_clauseHere_67 ?_
    refine aw_callV B 0 0 (s_much _ _ _ _ _ _ c e (p, false, P) (-400) 2 14 he hc hs hl (by decide) (fun n _ => rfl)) co_X12_much k_X12_110 dX12_clauseHere_69 hP_o rfl rfl rfl rfl (Nat.le_of_ble_eq_true rfl) (zrm hr (by omega)) (Nat.le_refl _) (Nat.le_refl _) (kV fun h69 hp69 => ?_)
    subst hp69
    refine aw_goto B 80 dX12_clauseHere_72 ?_
    refine aw_vret B rfl dX12_clauseHere_80 ?_
    exact ⟨rfl, by unfold clP; rw [if_neg Bool.false_ne_true, if_neg h1, if_neg h2, if_pos h3]⟩
  refine aw_lookup (off := 71) B 75 dX12_clauseHere_4 (by show (if (101 : Int) = _ then (47 : Int) else if (115 : Int) = _ then 36 else if (119 : Int) = _ then 59 else 71) = 71; rw [if_neg (fun z => h2 (Int32.toInt_inj.mp (by rw [← z]; rfl))), if_neg (fun z => h1 (Int32.toInt_inj.mp (by rw [← z]; rfl))), if_neg (fun z => h3 (Int32.toInt_inj.mp (by rw [← z]; rfl)))]) ?_
  refine aw_aload_n B 0 rfl dX12_clauseHere_75 rfl ?_
  refine aw_iconst B 1 (by decide) dX12_clauseHere_76 ?_
  refine p_put7 B f_X12_54 (true) (rfl) dX12_clauseHere_77 ?_
  refine aw_vret B rfl dX12_clauseHere_80 ?_
  exact ⟨rfl, by unfold clP; rw [if_neg Bool.false_ne_true, if_neg h1, if_neg h2, if_neg h3]; rfl⟩
/-- what cave leaves, the text read to t -/
def CP (g : zG) (h : Hp) (m : Nat) (F : Nat → Int32) (A : Nat → Nat → Int32) (c e : Nat) (t : pst) (r : Int32) (h' : Hp) : Prop := if t.2.1 = true ∨ ¬ t.1 = e then r = -10 - nI t.1 ∧ h' = hP g h m F (mup A 1 (upd (A 1) 6 0)) c e 0 t else r = nI c ∧ h' = hM g h m (fF F c e 0 t) (mup A 1 (upd (upd (pS (upd (A 1) 6 0) c t.2.2) 2 (nI (c + 1))) 7 (nI c)))
theorem tpA_6 {A : Nat → Nat → Int32} : tpA (mup A 1 (upd (A 1) 6 0)) = tpA A := by
  funext i
  unfold tpA
  rw [mup_s, upd_n (by omega)]
theorem cave_init {g : zG} {h : Hp} {m c e : Nat} {F : Nat → Int32} {A : Nat → Nat → Int32} : hM g h m (upd (upd (upd (upd (upd F 4 (nI c)) 6 (nI e)) 5 0) 7 0) 8 0) (mup A 1 (upd (upd (A 1) 6 0) (194 + c) 0)) = hP g h m F (mup A 1 (upd (A 1) 6 0)) c e 0 (0, false, []) := by
  unfold hP
  rw [mup_s, mup_m]
  congr 1
  · funext k
    unfold upd fF
    by_cases h8 : k = 8
    · subst h8; rfl
    · by_cases h7 : k = 7
      · subst h7; rfl
      · by_cases h5 : k = 5
        · subst h5; rfl
        · by_cases h6 : k = 6
          · subst h6; rfl
          · by_cases h4 : k = 4
            · subst h4; rfl
            · rw [if_neg h8, if_neg h7, if_neg h5, if_neg h6, if_neg h4, if_neg h4, if_neg h5, if_neg h6, if_neg h7, if_neg h8]
  · congr 1
    funext j
    unfold pS
    by_cases h1 : j = 194 + c
    · rw [if_pos h1, h1, upd_s]; rfl
    · rw [if_neg h1, upd_n h1, if_neg (by show ¬ (_ ∧ j < 199 + 140 * c + 0); omega)]
theorem dX12_cave_0 : decode cX12_cave 0 = .ok (.aload_n 0, 1) := by decide +kernel
theorem dX12_cave_1 : decode cX12_cave 1 = .ok (.getfield 9, 3) := by decide +kernel
theorem dX12_cave_4 : decode cX12_cave 4 = .ok (.iconst 2, 1) := by decide +kernel
theorem dX12_cave_5 : decode cX12_cave 5 = .ok (.iaload, 1) := by decide +kernel
theorem dX12_cave_6 : decode cX12_cave 6 = .ok (.iconst 5, 1) := by decide +kernel
theorem dX12_cave_7 : decode cX12_cave 7 = .ok (.if_icmp .ne 6, 3) := by decide +kernel
theorem dX12_cave_10 : decode cX12_cave 10 = .ok (.bipush (-4), 2) := by decide +kernel
theorem dX12_cave_12 : decode cX12_cave 12 = .ok (.ireturn, 1) := by decide +kernel
theorem dX12_cave_13 : decode cX12_cave 13 = .ok (.aload_n 0, 1) := by decide +kernel
theorem dX12_cave_14 : decode cX12_cave 14 = .ok (.aload_n 0, 1) := by decide +kernel
theorem dX12_cave_15 : decode cX12_cave 15 = .ok (.getfield 9, 3) := by decide +kernel
theorem dX12_cave_18 : decode cX12_cave 18 = .ok (.iconst 2, 1) := by decide +kernel
theorem dX12_cave_19 : decode cX12_cave 19 = .ok (.iaload, 1) := by decide +kernel
theorem dX12_cave_20 : decode cX12_cave 20 = .ok (.putfield 75, 3) := by decide +kernel
theorem dX12_cave_23 : decode cX12_cave 23 = .ok (.aload_n 0, 1) := by decide +kernel
theorem dX12_cave_24 : decode cX12_cave 24 = .ok (.aload_n 0, 1) := by decide +kernel
theorem dX12_cave_25 : decode cX12_cave 25 = .ok (.getfield 9, 3) := by decide +kernel
theorem dX12_cave_28 : decode cX12_cave 28 = .ok (.bipush 6, 2) := by decide +kernel
theorem dX12_cave_30 : decode cX12_cave 30 = .ok (.iaload, 1) := by decide +kernel
theorem dX12_cave_31 : decode cX12_cave 31 = .ok (.putfield 51, 3) := by decide +kernel
theorem dX12_cave_34 : decode cX12_cave 34 = .ok (.aload_n 0, 1) := by decide +kernel
theorem dX12_cave_35 : decode cX12_cave 35 = .ok (.getfield 9, 3) := by decide +kernel
theorem dX12_cave_38 : decode cX12_cave 38 = .ok (.bipush 6, 2) := by decide +kernel
theorem dX12_cave_40 : decode cX12_cave 40 = .ok (.iconst 0, 1) := by decide +kernel
theorem dX12_cave_41 : decode cX12_cave 41 = .ok (.iastore, 1) := by decide +kernel
theorem dX12_cave_42 : decode cX12_cave 42 = .ok (.aload_n 0, 1) := by decide +kernel
theorem dX12_cave_43 : decode cX12_cave 43 = .ok (.getfield 9, 3) := by decide +kernel
theorem dX12_cave_46 : decode cX12_cave 46 = .ok (.sipush 194, 3) := by decide +kernel
theorem dX12_cave_49 : decode cX12_cave 49 = .ok (.aload_n 0, 1) := by decide +kernel
theorem dX12_cave_50 : decode cX12_cave 50 = .ok (.getfield 75, 3) := by decide +kernel
theorem dX12_cave_53 : decode cX12_cave 53 = .ok (.iadd, 1) := by decide +kernel
theorem dX12_cave_54 : decode cX12_cave 54 = .ok (.iconst 0, 1) := by decide +kernel
theorem dX12_cave_55 : decode cX12_cave 55 = .ok (.iastore, 1) := by decide +kernel
theorem dX12_cave_56 : decode cX12_cave 56 = .ok (.aload_n 0, 1) := by decide +kernel
theorem dX12_cave_57 : decode cX12_cave 57 = .ok (.iconst 0, 1) := by decide +kernel
theorem dX12_cave_58 : decode cX12_cave 58 = .ok (.putfield 48, 3) := by decide +kernel
theorem dX12_cave_61 : decode cX12_cave 61 = .ok (.aload_n 0, 1) := by decide +kernel
theorem dX12_cave_62 : decode cX12_cave 62 = .ok (.iconst 0, 1) := by decide +kernel
theorem dX12_cave_63 : decode cX12_cave 63 = .ok (.putfield 54, 3) := by decide +kernel
theorem dX12_cave_66 : decode cX12_cave 66 = .ok (.aload_n 0, 1) := by decide +kernel
theorem dX12_cave_67 : decode cX12_cave 67 = .ok (.iconst 0, 1) := by decide +kernel
theorem dX12_cave_68 : decode cX12_cave 68 = .ok (.putfield 78, 3) := by decide +kernel
theorem dX12_cave_71 : decode cX12_cave 71 = .ok (.iconst 1, 1) := by decide +kernel
theorem dX12_cave_72 : decode cX12_cave 72 = .ok (.istore_n 1, 1) := by decide +kernel
theorem dX12_cave_73 : decode cX12_cave 73 = .ok (.aload_n 0, 1) := by decide +kernel
theorem dX12_cave_74 : decode cX12_cave 74 = .ok (.invokevirtual 118, 3) := by decide +kernel
theorem dX12_cave_77 : decode cX12_cave 77 = .ok (.aload_n 0, 1) := by decide +kernel
theorem dX12_cave_78 : decode cX12_cave 78 = .ok (.getfield 54, 3) := by decide +kernel
theorem dX12_cave_81 : decode cX12_cave 81 = .ok (.ifCond .ne 38, 3) := by decide +kernel
theorem dX12_cave_84 : decode cX12_cave 84 = .ok (.iload_n 1, 1) := by decide +kernel
theorem dX12_cave_85 : decode cX12_cave 85 = .ok (.bipush 10, 2) := by decide +kernel
theorem dX12_cave_87 : decode cX12_cave 87 = .ok (.if_icmp .ge 32, 3) := by decide +kernel
theorem dX12_cave_90 : decode cX12_cave 90 = .ok (.aload_n 0, 1) := by decide +kernel
theorem dX12_cave_91 : decode cX12_cave 91 = .ok (.invokevirtual 58, 3) := by decide +kernel
theorem dX12_cave_94 : decode cX12_cave 94 = .ok (.bipush 59, 2) := by decide +kernel
theorem dX12_cave_96 : decode cX12_cave 96 = .ok (.if_icmp .ne 23, 3) := by decide +kernel
theorem dX12_cave_99 : decode cX12_cave 99 = .ok (.aload_n 0, 1) := by decide +kernel
theorem dX12_cave_100 : decode cX12_cave 100 = .ok (.dup, 1) := by decide +kernel
theorem dX12_cave_101 : decode cX12_cave 101 = .ok (.getfield 48, 3) := by decide +kernel
theorem dX12_cave_104 : decode cX12_cave 104 = .ok (.iconst 1, 1) := by decide +kernel
theorem dX12_cave_105 : decode cX12_cave 105 = .ok (.iadd, 1) := by decide +kernel
theorem dX12_cave_106 : decode cX12_cave 106 = .ok (.putfield 48, 3) := by decide +kernel
theorem dX12_cave_109 : decode cX12_cave 109 = .ok (.aload_n 0, 1) := by decide +kernel
theorem dX12_cave_110 : decode cX12_cave 110 = .ok (.invokevirtual 118, 3) := by decide +kernel
theorem dX12_cave_113 : decode cX12_cave 113 = .ok (.iinc 1 1, 3) := by decide +kernel
theorem dX12_cave_116 : decode cX12_cave 116 = .ok (.goto (-39), 3) := by decide +kernel
theorem dX12_cave_119 : decode cX12_cave 119 = .ok (.aload_n 0, 1) := by decide +kernel
theorem dX12_cave_120 : decode cX12_cave 120 = .ok (.getfield 54, 3) := by decide +kernel
theorem dX12_cave_123 : decode cX12_cave 123 = .ok (.ifCond .ne 14, 3) := by decide +kernel
theorem dX12_cave_126 : decode cX12_cave 126 = .ok (.aload_n 0, 1) := by decide +kernel
theorem dX12_cave_127 : decode cX12_cave 127 = .ok (.getfield 48, 3) := by decide +kernel
theorem dX12_cave_130 : decode cX12_cave 130 = .ok (.aload_n 0, 1) := by decide +kernel
theorem dX12_cave_131 : decode cX12_cave 131 = .ok (.getfield 51, 3) := by decide +kernel
theorem dX12_cave_134 : decode cX12_cave 134 = .ok (.if_icmp .eq 11, 3) := by decide +kernel
theorem dX12_cave_137 : decode cX12_cave 137 = .ok (.bipush (-10), 2) := by decide +kernel
theorem dX12_cave_139 : decode cX12_cave 139 = .ok (.aload_n 0, 1) := by decide +kernel
theorem dX12_cave_140 : decode cX12_cave 140 = .ok (.getfield 48, 3) := by decide +kernel
theorem dX12_cave_143 : decode cX12_cave 143 = .ok (.isub, 1) := by decide +kernel
theorem dX12_cave_144 : decode cX12_cave 144 = .ok (.ireturn, 1) := by decide +kernel
theorem dX12_cave_145 : decode cX12_cave 145 = .ok (.aload_n 0, 1) := by decide +kernel
theorem dX12_cave_146 : decode cX12_cave 146 = .ok (.getfield 9, 3) := by decide +kernel
theorem dX12_cave_149 : decode cX12_cave 149 = .ok (.iconst 2, 1) := by decide +kernel
theorem dX12_cave_150 : decode cX12_cave 150 = .ok (.dup2, 1) := by decide +kernel
theorem dX12_cave_151 : decode cX12_cave 151 = .ok (.iaload, 1) := by decide +kernel
theorem dX12_cave_152 : decode cX12_cave 152 = .ok (.iconst 1, 1) := by decide +kernel
theorem dX12_cave_153 : decode cX12_cave 153 = .ok (.iadd, 1) := by decide +kernel
theorem dX12_cave_154 : decode cX12_cave 154 = .ok (.iastore, 1) := by decide +kernel
theorem dX12_cave_155 : decode cX12_cave 155 = .ok (.aload_n 0, 1) := by decide +kernel
theorem dX12_cave_156 : decode cX12_cave 156 = .ok (.getfield 9, 3) := by decide +kernel
theorem dX12_cave_159 : decode cX12_cave 159 = .ok (.bipush 7, 2) := by decide +kernel
theorem dX12_cave_161 : decode cX12_cave 161 = .ok (.aload_n 0, 1) := by decide +kernel
theorem dX12_cave_162 : decode cX12_cave 162 = .ok (.getfield 75, 3) := by decide +kernel
theorem dX12_cave_165 : decode cX12_cave 165 = .ok (.iastore, 1) := by decide +kernel
theorem dX12_cave_166 : decode cX12_cave 166 = .ok (.aload_n 0, 1) := by decide +kernel
theorem dX12_cave_167 : decode cX12_cave 167 = .ok (.getfield 75, 3) := by decide +kernel
theorem dX12_cave_170 : decode cX12_cave 170 = .ok (.ireturn, 1) := by decide +kernel
set_option maxRecDepth 100000 in
set_option maxHeartbeats 4000000 in
theorem s_cave (l : Launch) (g : zG) (h : Hp) (m : Nat) (F : Nat → Int32) (A : Nat → Nat → Int32) (c e : Nat) (he : e ≤ 100) (hc5 : c ≤ 5) (ec : A 1 2 = nI c) (ee : A 1 6 = nI e) : Sp l g yX12_cave cX12_cave 2 (some .int) (rmz 26) [.ref m] (hM g h m F A) (zI fun r h' => if c = 5 then r = -4 ∧ h' = hM g h m F A else CP g h m F A c e (caP (tpA A) e) r h') := by
  refine Sp.of [some (.ref m), none] (by decide) (Nat.le_of_ble_eq_true rfl) rfl rfl ?_
  rintro X rfl hr rfl B
  show AW X 0 0 0 _ _ _ _
  by_cases h5 : c = 5
  · subst h5
    refine aw_aload_n B 0 rfl dX12_cave_0 rfl ?_
    refine m_get B f_X12_9 dX12_cave_1 (mg_1 _ _) ?_
    refine aw_iconst B 2 (by decide) dX12_cave_4 ?_
    refine m_ld B (2) (rfl) ((by decide)) dX12_cave_5 (by decide) ?_
    rw [ec]
    refine aw_iconst B 5 (by decide) dX12_cave_6 ?_
    refine aw_icmp_ne B 13 dX12_cave_7 (fun c7 => absurd rfl c7) (fun c7 => ?_)
    refine aw_bipush B (-4) (by decide) dX12_cave_10 ?_
    refine aw_iret B rfl rfl dX12_cave_12 ?_
    exact ⟨_, rfl, by show ite _ _ _; rw [if_pos rfl]; exact ⟨rfl, rfl⟩⟩
  · rw [← tpA_6 (A := A)]
    have tl : ∀ (n : Int32) (s : pst), s.1 ≤ e → AW X 0 0 119 [some (.ref m), some (.int n)] [] (hP (zXg X) h m F (mup A 1 (upd (A 1) 6 0)) c e 0 s) (zI fun r h' => if c = 5 then r = -4 ∧ h' = hM (zXg X) h m F A else CP (zXg X) h m F A c e s r h') := by
      intro n s hs
      obtain ⟨p, w, P⟩ := s
      cases w with
      | true =>
        refine aw_aload_n B 0 rfl dX12_cave_119 rfl ?_
        refine p_get B f_X12_54 dX12_cave_120 (pv_7) ?_
        refine aw_if_ne B 137 dX12_cave_123 (fun c123 => ?_) (fun c123 => absurd c123 b2_t)
        refine aw_bipush B (-10) (by decide) dX12_cave_137 ?_
        refine aw_aload_n B 0 rfl dX12_cave_139 rfl ?_
        refine p_get B f_X12_48 dX12_cave_140 (pv_5) ?_
        refine aw_isub B dX12_cave_143 ?_
        refine aw_iret B rfl rfl dX12_cave_144 ?_
        exact ⟨_, rfl, by show ite _ _ _; rw [if_neg h5]; unfold CP; rw [if_pos (Or.inl rfl)]; exact ⟨rfl, rfl⟩⟩
      | false =>
        have hs : p ≤ e := hs
        refine aw_aload_n B 0 rfl dX12_cave_119 rfl ?_
        refine p_get B f_X12_54 dX12_cave_120 (pv_7) ?_
        refine aw_if_ne B 137 dX12_cave_123 (fun c123 => absurd b2_f c123) (fun c123 => ?_)
        refine aw_aload_n B 0 rfl dX12_cave_126 rfl ?_
        refine p_get B f_X12_48 dX12_cave_127 (pv_5) ?_
        refine aw_aload_n B 0 rfl dX12_cave_130 rfl ?_
        refine p_get B f_X12_51 dX12_cave_131 (pv_6) ?_
        refine aw_icmp_eq B 145 dX12_cave_134 (fun c134 => ?_) (fun c134 => ?_)
        · have hpe : p = e := Decidable.of_not_not fun z => nI_ne (by omega) (by omega) z c134
          refine aw_aload_n B 0 rfl dX12_cave_145 rfl ?_
          refine p_get B f_X12_9 dX12_cave_146 (mg_1 _ _) ?_
          refine aw_iconst B 2 (by decide) dX12_cave_149 ?_
          refine aw_dup2 B rfl rfl dX12_cave_150 ?_
          refine p_ld B 2 rfl (by decide) (by rw [pS_lo (by decide), mup_s, upd_n (by decide), ec]) dX12_cave_151 ?_
          refine aw_iconst B 1 (by decide) dX12_cave_152 ?_
          refine aw_iadd B dX12_cave_153 ?_
          rw [nI_1]
          refine m_st (j := 1) B 2 rfl (by decide) dX12_cave_154 (by decide) ?_
          rw [mup_m, mup_m, mup_s, mup_s]
          refine aw_aload_n B 0 rfl dX12_cave_155 rfl ?_
          refine m_get B f_X12_9 dX12_cave_156 (mg_1 _ _) ?_
          refine aw_bipush B 7 (by decide) dX12_cave_159 ?_
          refine aw_aload_n B 0 rfl dX12_cave_161 rfl ?_
          refine m_get B f_X12_75 dX12_cave_162 (pv_4) ?_
          refine m_st (j := 1) B 7 rfl (by decide) dX12_cave_165 (by decide) ?_
          rw [mup_m, mup_s]
          refine aw_aload_n B 0 rfl dX12_cave_166 rfl ?_
          refine m_get B f_X12_75 dX12_cave_167 (pv_4) ?_
          refine aw_iret B rfl rfl dX12_cave_170 ?_
          exact ⟨_, rfl, by show ite _ _ _; rw [if_neg h5]; unfold CP; rw [if_neg (fun z => z.elim Bool.false_ne_true (fun z => z hpe))]; exact ⟨rfl, rfl⟩⟩
        · refine aw_bipush B (-10) (by decide) dX12_cave_137 ?_
          refine aw_aload_n B 0 rfl dX12_cave_139 rfl ?_
          refine p_get B f_X12_48 dX12_cave_140 (pv_5) ?_
          refine aw_isub B dX12_cave_143 ?_
          refine aw_iret B rfl rfl dX12_cave_144 ?_
          exact ⟨_, rfl, by show ite _ _ _; rw [if_neg h5]; unfold CP; rw [if_pos (Or.inr fun z => c134 (by rw [show p = e from z]))]; exact ⟨rfl, rfl⟩⟩
    have hc : c < 5 := by omega
    have lp : ∀ (f : Nat) (s : pst) (n : Nat), n + f = 10 → s.1 ≤ e → s.2.2.length ≤ s.1 → AW X 0 0 77 [some (.ref m), some (.int (nI n))] [] (hP (zXg X) h m F (mup A 1 (upd (A 1) 6 0)) c e 0 s) (zI fun r h' => if c = 5 then r = -4 ∧ h' = hM (zXg X) h m F A else CP (zXg X) h m F A c e (caF (tpA (mup A 1 (upd (A 1) 6 0))) e f s) r h') := by
      intro f
      induction f with
      | zero =>
        intro s n hn hs hl
        obtain rfl : n = 10 := by omega
        obtain ⟨p, w, P⟩ := s
        cases w with
        | true =>
          refine aw_aload_n B 0 rfl dX12_cave_77 rfl ?_
          refine p_get B f_X12_54 dX12_cave_78 (pv_7) ?_
          refine aw_if_ne B 119 dX12_cave_81 (fun c81 => ?_) (fun c81 => absurd c81 b2_t)
          exact tl _ _ hs
        | false =>
          refine aw_aload_n B 0 rfl dX12_cave_77 rfl ?_
          refine p_get B f_X12_54 dX12_cave_78 (pv_7) ?_
          refine aw_if_ne B 119 dX12_cave_81 (fun c81 => absurd b2_f c81) (fun c81 => ?_)
          refine aw_iload_n B 1 rfl dX12_cave_84 rfl ?_
          refine aw_bipush B 10 (by decide) dX12_cave_85 ?_
          refine aw_icmp_ge B 119 dX12_cave_87 (fun c87 => ?_) (fun c87 => absurd (by decide) c87)
          exact tl _ _ hs
      | succ f ih =>
        intro s n hn hs hl
        obtain ⟨p, w, P⟩ := s
        cases w with
        | true =>
          rw [show caF (tpA (mup A 1 (upd (A 1) 6 0))) e (f + 1) (p, true, P) = (p, true, P) from by rw [caF, if_pos rfl]]
          refine aw_aload_n B 0 rfl dX12_cave_77 rfl ?_
          refine p_get B f_X12_54 dX12_cave_78 (pv_7) ?_
          refine aw_if_ne B 119 dX12_cave_81 (fun c81 => ?_) (fun c81 => absurd c81 b2_t)
          exact tl _ _ hs
        | false =>
          have hl : P.length ≤ p := hl
          refine aw_aload_n B 0 rfl dX12_cave_77 rfl ?_
          refine p_get B f_X12_54 dX12_cave_78 (pv_7) ?_
          refine aw_if_ne B 119 dX12_cave_81 (fun c81 => absurd b2_f c81) (fun c81 => ?_)
          refine aw_iload_n B 1 rfl dX12_cave_84 rfl ?_
          refine aw_bipush B 10 (by decide) dX12_cave_85 ?_
          refine aw_icmp_ge B 119 dX12_cave_87 (fun c87 => absurd c87 (Int32.not_le.mpr (show nI n < nI 10 from nI_lt (by omega) (by decide)))) (fun c87 => ?_)
          refine aw_aload_n B 0 rfl dX12_cave_90 rfl ?_
          refine aw_callV B 0 0 (s_here _ _ _ _ _ _ c e _ (p, false, P) he hs) co_X12_here k_X12_58 dX12_cave_91 hP_o rfl rfl rfl rfl (Nat.le_of_ble_eq_true rfl) (zrm hr (by omega)) (Nat.le_refl _) (Nat.le_refl _) (kI fun r91 h91 hp91 => ?_)
          obtain ⟨rfl, rfl⟩ := hp91
          refine aw_bipush B 59 (by decide) dX12_cave_94 ?_
          refine aw_icmp_ne B 119 dX12_cave_96 (fun c96 => ?_) (fun c96 => ?_)
          · rw [show caF (tpA (mup A 1 (upd (A 1) 6 0))) e (f + 1) (p, false, P) = (p, false, P) from by rw [caF, if_neg Bool.false_ne_true, if_neg c96]]
            exact tl _ _ hs
          · have hlt : p + 1 ≤ e := hr_lt (s := (p, false, P)) c96 (by decide)
            obtain ⟨q1, q2, q3⟩ := gd_ok1 (cl_gd (tpA (mup A 1 (upd (A 1) 6 0))) e) hlt hl
            refine aw_aload_n B 0 rfl dX12_cave_99 rfl ?_
            refine aw_dup B rfl dX12_cave_100 ?_
            refine p_get B f_X12_48 dX12_cave_101 (pv_5) ?_
            refine aw_iconst B 1 (by decide) dX12_cave_104 ?_
            refine aw_iadd B dX12_cave_105 ?_
            refine p_put5 B f_X12_48 (p + 1) (nI_1 p) dX12_cave_106 ?_
            refine aw_aload_n B 0 rfl dX12_cave_109 rfl ?_
            refine aw_callV B 0 0 (s_clauseHere _ _ _ _ _ _ c e (p + 1) P he hc hlt (by omega)) co_X12_clauseHere k_X12_118 dX12_cave_110 hP_o rfl rfl rfl rfl (Nat.le_of_ble_eq_true rfl) (zrm hr (by omega)) (Nat.le_refl _) (Nat.le_refl _) (kV fun h110 hp110 => ?_)
            subst hp110
            refine aw_iinc1 B 1 (by decide) dX12_cave_113 ?_
            refine aw_goto B 77 dX12_cave_116 ?_
            rw [show caF (tpA (mup A 1 (upd (A 1) 6 0))) e (f + 1) (p, false, P) = caF (tpA (mup A 1 (upd (A 1) 6 0))) e f (clP (tpA (mup A 1 (upd (A 1) 6 0))) e (p + 1, false, P)) from by rw [caF, if_neg Bool.false_ne_true, if_pos c96]; rfl, nI_1]
            exact ih (clP (tpA (mup A 1 (upd (A 1) 6 0))) e (p + 1, false, P)) (n + 1) (by omega) q1 (by omega)
    refine aw_aload_n B 0 rfl dX12_cave_0 rfl ?_
    refine m_get B f_X12_9 dX12_cave_1 (mg_1 _ _) ?_
    refine aw_iconst B 2 (by decide) dX12_cave_4 ?_
    refine m_ld B (2) (rfl) ((by decide)) dX12_cave_5 (by decide) ?_
    rw [ec]
    refine aw_iconst B 5 (by decide) dX12_cave_6 ?_
    refine aw_icmp_ne B 13 dX12_cave_7 (fun c7 => ?_) (fun c7 => absurd c7 (show ¬ nI c = nI 5 from nI_ne (by omega) (by decide) h5))
    refine aw_aload_n B 0 rfl dX12_cave_13 rfl ?_
    refine aw_aload_n B 0 rfl dX12_cave_14 rfl ?_
    refine m_get B f_X12_9 dX12_cave_15 (mg_1 _ _) ?_
    refine aw_iconst B 2 (by decide) dX12_cave_18 ?_
    refine m_ld B (2) (rfl) ((by decide)) dX12_cave_19 (by decide) ?_
    rw [ec]
    refine m_put B f_X12_75 dX12_cave_20 (ms_4 _ _ _) (by decide) ?_
    refine aw_aload_n B 0 rfl dX12_cave_23 rfl ?_
    refine aw_aload_n B 0 rfl dX12_cave_24 rfl ?_
    refine m_get B f_X12_9 dX12_cave_25 (mg_1 _ _) ?_
    refine aw_bipush B 6 (by decide) dX12_cave_28 ?_
    refine m_ld B (6) (rfl) ((by decide)) dX12_cave_30 (by decide) ?_
    rw [ee]
    refine m_put B f_X12_51 dX12_cave_31 (ms_6 _ _ _) (by decide) ?_
    refine aw_aload_n B 0 rfl dX12_cave_34 rfl ?_
    refine m_get B f_X12_9 dX12_cave_35 (mg_1 _ _) ?_
    refine aw_bipush B 6 (by decide) dX12_cave_38 ?_
    refine aw_iconst B 0 (by decide) dX12_cave_40 ?_
    refine m_st B (6) (rfl) ((by decide)) dX12_cave_41 (by decide) ?_
    refine aw_aload_n B 0 rfl dX12_cave_42 rfl ?_
    refine m_get B f_X12_9 dX12_cave_43 (mg_1 _ _) ?_
    refine aw_sipush B 194 (by decide) dX12_cave_46 ?_
    refine aw_aload_n B 0 rfl dX12_cave_49 rfl ?_
    refine m_get (v := .int (nI c)) B f_X12_75 dX12_cave_50 (by rw [mg_4, upd_n (by decide), upd_s]) ?_
    refine aw_iadd B dX12_cave_53 ?_
    refine aw_iconst B 0 (by decide) dX12_cave_54 ?_
    refine m_st B (194 + c) (nI_add 194 c) ((by show _ < 899; omega)) dX12_cave_55 (by decide) ?_
    refine aw_aload_n B 0 rfl dX12_cave_56 rfl ?_
    refine aw_iconst B 0 (by decide) dX12_cave_57 ?_
    refine m_put B f_X12_48 dX12_cave_58 (ms_5 _ _ _) (by decide) ?_
    refine aw_aload_n B 0 rfl dX12_cave_61 rfl ?_
    refine aw_iconst B 0 (by decide) dX12_cave_62 ?_
    refine m_putz B f_X12_54 (by decide) dX12_cave_63 (ms_7 _ _ _) (by decide) ?_
    refine aw_aload_n B 0 rfl dX12_cave_66 rfl ?_
    refine aw_iconst B 0 (by decide) dX12_cave_67 ?_
    refine m_put B f_X12_78 dX12_cave_68 (ms_8 _ _ _) (by decide) ?_
    refine aw_iconst B 1 (by decide) dX12_cave_71 ?_
    refine aw_istore1 B dX12_cave_72 ?_
    rw [mup_m, mup_s, cave_init]
    refine aw_aload_n B 0 rfl dX12_cave_73 rfl ?_
    refine aw_callV B 0 0 (s_clauseHere _ _ _ _ _ _ c e 0 [] he hc (Nat.zero_le _) (Nat.le_refl _)) co_X12_clauseHere k_X12_118 dX12_cave_74 hP_o rfl rfl rfl rfl (Nat.le_of_ble_eq_true rfl) (zrm hr (by omega)) (Nat.le_refl _) (Nat.le_refl _) (kV fun h74 hp74 => ?_)
    subst hp74
    obtain ⟨q1, q2, -⟩ := gd_ok (cl_gd (tpA (mup A 1 (upd (A 1) 6 0))) e) (s := (0, false, [])) (Nat.zero_le _) (Nat.le_refl _)
    exact lp 9 (clP (tpA (mup A 1 (upd (A 1) 6 0))) e (0, false, [])) 1 rfl q1 q2
