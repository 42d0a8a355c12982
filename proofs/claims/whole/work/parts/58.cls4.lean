theorem sw8 (i : Int32) : i = 0 ∨ i = 1 ∨ i = 2 ∨ i = 3 ∨ i = 4 ∨ i = 5 ∨ i = 6 ∨ i = 7 ∨ (i.toInt < 0 ∨ 7 < i.toInt) := by
  by_cases h0 : i = 0
  · exact Or.inl h0
  by_cases h1 : i = 1
  · exact Or.inr (Or.inl h1)
  by_cases h2 : i = 2
  · exact Or.inr (Or.inr (Or.inl h2))
  by_cases h3 : i = 3
  · exact Or.inr (Or.inr (Or.inr (Or.inl h3)))
  by_cases h4 : i = 4
  · exact Or.inr (Or.inr (Or.inr (Or.inr (Or.inl h4))))
  by_cases h5 : i = 5
  · exact Or.inr (Or.inr (Or.inr (Or.inr (Or.inr (Or.inl h5)))))
  by_cases h6 : i = 6
  · exact Or.inr (Or.inr (Or.inr (Or.inr (Or.inr (Or.inr (Or.inl h6))))))
  by_cases h7 : i = 7
  · exact Or.inr (Or.inr (Or.inr (Or.inr (Or.inr (Or.inr (Or.inr (Or.inl h7)))))))
  refine Or.inr (Or.inr (Or.inr (Or.inr (Or.inr (Or.inr (Or.inr (Or.inr (?_))))))))
  have g0 : ¬ i.toInt = 0 := fun z => h0 (Int32.toInt_inj.mp (by rw [z]; decide))
  have g1 : ¬ i.toInt = 1 := fun z => h1 (Int32.toInt_inj.mp (by rw [z]; decide))
  have g2 : ¬ i.toInt = 2 := fun z => h2 (Int32.toInt_inj.mp (by rw [z]; decide))
  have g3 : ¬ i.toInt = 3 := fun z => h3 (Int32.toInt_inj.mp (by rw [z]; decide))
  have g4 : ¬ i.toInt = 4 := fun z => h4 (Int32.toInt_inj.mp (by rw [z]; decide))
  have g5 : ¬ i.toInt = 5 := fun z => h5 (Int32.toInt_inj.mp (by rw [z]; decide))
  have g6 : ¬ i.toInt = 6 := fun z => h6 (Int32.toInt_inj.mp (by rw [z]; decide))
  have g7 : ¬ i.toInt = 7 := fun z => h7 (Int32.toInt_inj.mp (by rw [z]; decide))
  omega
theorem cnt_o {S : Nat → Int32} {ran i : Int32} (hz : i.toInt < 0 ∨ 7 < i.toInt) : (q_count S ran i).1 = -1 := by
  have a0 : (0 : Int32).toInt = 0 := by decide
  have a6 : (6 : Int32).toInt = 6 := by decide
  have a7 : (7 : Int32).toInt = 7 := by decide
  have n7 : ¬ i = 7 := fun z => by rw [z] at hz; omega
  have n6 : ¬ (0 ≤ i ∧ i ≤ 6) := fun z => by
    rw [Int32.le_iff_toInt_le, Int32.le_iff_toInt_le] at z
    omega
  unfold q_count
  rw [if_neg n7, bI_f n6]
  rfl
theorem dX11_count_0 : decode cX11_count 0 = .ok (.iload_n 1, 1) := by decide +kernel
theorem dX11_count_1 : decode cX11_count 1 = .ok (.tableswitch 126 0 7 #[47, 58, 66, 74, 85, 96, 107, 118], 47) := by decide +kernel
theorem dX11_count_48 : decode cX11_count 48 = .ok (.aload_n 0, 1) := by decide +kernel
theorem dX11_count_49 : decode cX11_count 49 = .ok (.getfield 12, 3) := by decide +kernel
theorem dX11_count_52 : decode cX11_count 52 = .ok (.getfield 87, 3) := by decide +kernel
theorem dX11_count_55 : decode cX11_count 55 = .ok (.getfield 66, 3) := by decide +kernel
theorem dX11_count_58 : decode cX11_count 58 = .ok (.ireturn, 1) := by decide +kernel
theorem dX11_count_59 : decode cX11_count 59 = .ok (.aload_n 0, 1) := by decide +kernel
theorem dX11_count_60 : decode cX11_count 60 = .ok (.getfield 12, 3) := by decide +kernel
theorem dX11_count_63 : decode cX11_count 63 = .ok (.getfield 107, 3) := by decide +kernel
theorem dX11_count_66 : decode cX11_count 66 = .ok (.ireturn, 1) := by decide +kernel
theorem dX11_count_67 : decode cX11_count 67 = .ok (.aload_n 0, 1) := by decide +kernel
theorem dX11_count_68 : decode cX11_count 68 = .ok (.getfield 12, 3) := by decide +kernel
theorem dX11_count_71 : decode cX11_count 71 = .ok (.getfield 70, 3) := by decide +kernel
theorem dX11_count_74 : decode cX11_count 74 = .ok (.ireturn, 1) := by decide +kernel
theorem dX11_count_75 : decode cX11_count 75 = .ok (.aload_n 0, 1) := by decide +kernel
theorem dX11_count_76 : decode cX11_count 76 = .ok (.getfield 12, 3) := by decide +kernel
theorem dX11_count_79 : decode cX11_count 79 = .ok (.getfield 171, 3) := by decide +kernel
theorem dX11_count_82 : decode cX11_count 82 = .ok (.getfield 66, 3) := by decide +kernel
theorem dX11_count_85 : decode cX11_count 85 = .ok (.ireturn, 1) := by decide +kernel
theorem dX11_count_86 : decode cX11_count 86 = .ok (.aload_n 0, 1) := by decide +kernel
theorem dX11_count_87 : decode cX11_count 87 = .ok (.getfield 12, 3) := by decide +kernel
theorem dX11_count_90 : decode cX11_count 90 = .ok (.getfield 198, 3) := by decide +kernel
theorem dX11_count_93 : decode cX11_count 93 = .ok (.getfield 66, 3) := by decide +kernel
theorem dX11_count_96 : decode cX11_count 96 = .ok (.ireturn, 1) := by decide +kernel
theorem dX11_count_97 : decode cX11_count 97 = .ok (.aload_n 0, 1) := by decide +kernel
theorem dX11_count_98 : decode cX11_count 98 = .ok (.getfield 12, 3) := by decide +kernel
theorem dX11_count_101 : decode cX11_count 101 = .ok (.getfield 204, 3) := by decide +kernel
theorem dX11_count_104 : decode cX11_count 104 = .ok (.getfield 66, 3) := by decide +kernel
theorem dX11_count_107 : decode cX11_count 107 = .ok (.ireturn, 1) := by decide +kernel
theorem dX11_count_108 : decode cX11_count 108 = .ok (.aload_n 0, 1) := by decide +kernel
theorem dX11_count_109 : decode cX11_count 109 = .ok (.getfield 12, 3) := by decide +kernel
theorem dX11_count_112 : decode cX11_count 112 = .ok (.getfield 55, 3) := by decide +kernel
theorem dX11_count_115 : decode cX11_count 115 = .ok (.getfield 66, 3) := by decide +kernel
theorem dX11_count_118 : decode cX11_count 118 = .ok (.ireturn, 1) := by decide +kernel
theorem dX11_count_119 : decode cX11_count 119 = .ok (.aload_n 0, 1) := by decide +kernel
theorem dX11_count_120 : decode cX11_count 120 = .ok (.getfield 37, 3) := by decide +kernel
theorem dX11_count_123 : decode cX11_count 123 = .ok (.getfield 66, 3) := by decide +kernel
theorem dX11_count_126 : decode cX11_count 126 = .ok (.ireturn, 1) := by decide +kernel
theorem dX11_count_127 : decode cX11_count 127 = .ok (.iconst (-1), 1) := by decide +kernel
theorem dX11_count_128 : decode cX11_count 128 = .ok (.ireturn, 1) := by decide +kernel
set_option maxRecDepth 100000 in
set_option maxHeartbeats 4000000 in
theorem x_count (l : Launch) (g : zG) {h : Hp} {x ca cs N T T2 tn : Nat} {S S2 Bt : Nat → Int32} {Q Q2 : pP} {n n2 : Nat → Nat} {im : Int32} (i : Int32) (hc : cH g h x ca cs N S T Q n S2 T2 Q2 n2 im Bt tn) : Sp l g yX11_count cX11_count 2 (some .int) (rmz 1) [.ref x, .int i] (h) (zI fun r h' => r = (q_count S (nI tn) i).1 ∧ h' = h) := by
  refine Sp.of [some (.ref x), some (.int i)] (by decide) (Nat.le_of_ble_eq_true rfl) rfl rfl ?_
  rintro X rfl hr rfl B
  show AW X 0 0 0 _ _ _ _
  obtain ⟨vS, vR, vC, vA, vE, vL, vT, vH⟩ := hc.v
  have e0 := vS.2.1
  have e1 := vR.2.1
  have e2 := vC.2.1
  have e3 := vA.2.1
  have e4 := vE.2.1
  have e5 := vL.2.1
  have e6 := vT.2
  have e8 := vH.1
  have b0 := vS.1
  have b1 := vR.1
  have b2' := vC.1
  have b3 := vA.1
  have b4 := vE.1
  have b5 := vL.1
  have b6 := vT.1
  have b8 := vH.2.1
  have O : only x (x + 54) h h := only.rf
  refine aw_iload_n B 1 rfl dX11_count_0 rfl ?_
  rcases sw8 i with rfl | rfl | rfl | rfl | rfl | rfl | rfl | rfl | hz
  · 
    refine aw_tableIn (off := 47) B 48 dX11_count_1 (by decide) (by decide) (by decide) ?_
    refine aw_aload_n B 0 rfl dX11_count_48 rfl ?_
    refine aw_get B f_X11_12 dX11_count_49 hc.ox rfl ?_
    refine aw_get B f_X11_87 dX11_count_52 hc.s rfl ?_
    refine aw_get B f_X11_66 dX11_count_55 (hc.shelves).o rfl ?_
    refine aw_iret B rfl rfl dX11_count_58 ?_
    exact ⟨_, rfl, e0.symm.trans (show S 0 = (q_count S (nI tn) 0).1 from rfl), rfl⟩
  · 
    refine aw_tableIn (off := 58) B 59 dX11_count_1 (by decide) (by decide) (by decide) ?_
    refine aw_aload_n B 0 rfl dX11_count_59 rfl ?_
    refine aw_get B f_X11_12 dX11_count_60 hc.ox rfl ?_
    refine aw_get B f_X11_107 dX11_count_63 hc.s rfl ?_
    refine aw_iret B rfl rfl dX11_count_66 ?_
    exact ⟨_, rfl, (show S 1 = (q_count S (nI tn) 1).1 from rfl), rfl⟩
  · 
    refine aw_tableIn (off := 66) B 67 dX11_count_1 (by decide) (by decide) (by decide) ?_
    refine aw_aload_n B 0 rfl dX11_count_67 rfl ?_
    refine aw_get B f_X11_12 dX11_count_68 hc.ox rfl ?_
    refine aw_get B f_X11_70 dX11_count_71 hc.s rfl ?_
    refine aw_iret B rfl rfl dX11_count_74 ?_
    exact ⟨_, rfl, (show S 2 = (q_count S (nI tn) 2).1 from rfl), rfl⟩
  · 
    refine aw_tableIn (off := 74) B 75 dX11_count_1 (by decide) (by decide) (by decide) ?_
    refine aw_aload_n B 0 rfl dX11_count_75 rfl ?_
    refine aw_get B f_X11_12 dX11_count_76 hc.ox rfl ?_
    refine aw_get B f_X11_171 dX11_count_79 hc.s rfl ?_
    refine aw_get B f_X11_66 dX11_count_82 (hc.asks).o rfl ?_
    refine aw_iret B rfl rfl dX11_count_85 ?_
    exact ⟨_, rfl, e3.symm.trans (show S 3 = (q_count S (nI tn) 3).1 from rfl), rfl⟩
  · 
    refine aw_tableIn (off := 85) B 86 dX11_count_1 (by decide) (by decide) (by decide) ?_
    refine aw_aload_n B 0 rfl dX11_count_86 rfl ?_
    refine aw_get B f_X11_12 dX11_count_87 hc.ox rfl ?_
    refine aw_get B f_X11_198 dX11_count_90 hc.s rfl ?_
    refine aw_get B f_X11_66 dX11_count_93 (hc.seen).o rfl ?_
    refine aw_iret B rfl rfl dX11_count_96 ?_
    exact ⟨_, rfl, e4.symm.trans (show S 4 = (q_count S (nI tn) 4).1 from rfl), rfl⟩
  · 
    refine aw_tableIn (off := 96) B 97 dX11_count_1 (by decide) (by decide) (by decide) ?_
    refine aw_aload_n B 0 rfl dX11_count_97 rfl ?_
    refine aw_get B f_X11_12 dX11_count_98 hc.ox rfl ?_
    refine aw_get B f_X11_204 dX11_count_101 hc.s rfl ?_
    refine aw_get B f_X11_66 dX11_count_104 (hc.tales).o rfl ?_
    refine aw_iret B rfl rfl dX11_count_107 ?_
    exact ⟨_, rfl, e5.symm.trans (show S 5 = (q_count S (nI tn) 5).1 from rfl), rfl⟩
  · 
    refine aw_tableIn (off := 107) B 108 dX11_count_1 (by decide) (by decide) (by decide) ?_
    refine aw_aload_n B 0 rfl dX11_count_108 rfl ?_
    refine aw_get B f_X11_12 dX11_count_109 hc.ox rfl ?_
    refine aw_get B f_X11_55 dX11_count_112 hc.s rfl ?_
    refine aw_get B f_X11_66 dX11_count_115 (hc.tape).o rfl ?_
    refine aw_iret B rfl rfl dX11_count_118 ?_
    exact ⟨_, rfl, e6.symm.trans (show S 6 = (q_count S (nI tn) 6).1 from rfl), rfl⟩
  · 
    refine aw_tableIn (off := 118) B 119 dX11_count_1 (by decide) (by decide) (by decide) ?_
    refine aw_aload_n B 0 rfl dX11_count_119 rfl ?_
    refine aw_get B f_X11_37 dX11_count_120 hc.ox rfl ?_
    refine aw_get B f_X11_66 dX11_count_123 (hc.tr).o rfl ?_
    refine aw_iret B rfl rfl dX11_count_126 ?_
    exact ⟨_, rfl, rfl, rfl⟩
  · 
    refine aw_tableOut B 127 dX11_count_1 hz ?_
    refine aw_iconst B (-1) (by decide) dX11_count_127 ?_
    refine aw_iret B rfl rfl dX11_count_128 ?_
    exact ⟨_, rfl, (cnt_o hz).symm, rfl⟩
theorem gR_tr {V : Nat → Int32} {tn : Nat} (ht : tn < 2 ^ 20) (i : Int32) : gR V 20 tn i = if bI (0 ≤ i ∧ i ≤ (if nI tn < 20 then nI tn else 20) - 1) = 0 then -1 else V i.toNatClampNeg := by
  have e : (if nI tn < 20 then nI tn else (20 : Int32)) = nI (min tn 20) := by
    by_cases h : tn < 20
    · rw [if_pos (show nI tn < (20 : Int32) from nI_lt h (by decide)), Nat.min_eq_left (by omega)]
    · rw [if_neg (show ¬ nI tn < (20 : Int32) from fun z => h ((nI_ltI (b := 20) (by omega) (by decide)).mp z)), Nat.min_eq_right (by omega)]; rfl
  rw [e]
  unfold gR
  by_cases h0 : i < 0
  · rw [if_pos h0, bI_f (fun z => absurd z.1 (Int32.not_le.mpr h0)), if_pos rfl]
  · rw [if_neg h0]
    obtain ⟨j, hj, rfl⟩ := nI_of h0
    rw [kN_nI hj]
    by_cases h1 : j < tn ∧ j < 20
    · rw [if_pos h1, bI_t ⟨Int32.not_lt.mp h0, (lt_le1 (by omega) _).mp (nI_lt (by omega) (by omega))⟩, if_neg (by decide), nI_clamp hj]
    · rw [if_neg h1, bI_f (fun z => h1 (by
        have := (nI_ltI hj (by omega)).mp ((lt_le1 (by omega) _).mpr z.2)
        omega)), if_pos rfl]
theorem dX11_trace_0 : decode cX11_trace 0 = .ok (.aload_n 0, 1) := by decide +kernel
theorem dX11_trace_1 : decode cX11_trace 1 = .ok (.getfield 37, 3) := by decide +kernel
theorem dX11_trace_4 : decode cX11_trace 4 = .ok (.iload_n 1, 1) := by decide +kernel
theorem dX11_trace_5 : decode cX11_trace 5 = .ok (.invokevirtual 99, 3) := by decide +kernel
theorem dX11_trace_8 : decode cX11_trace 8 = .ok (.ireturn, 1) := by decide +kernel
set_option maxRecDepth 100000 in
set_option maxHeartbeats 4000000 in
theorem x_trace (l : Launch) (g : zG) {h : Hp} {x ca cs N T T2 tn : Nat} {S S2 Bt : Nat → Int32} {Q Q2 : pP} {n n2 : Nat → Nat} {im : Int32} (i : Int32) (hc : cH g h x ca cs N S T Q n S2 T2 Q2 n2 im Bt tn) : Sp l g yX11_trace cX11_trace 2 (some .int) (rmz 2) [.ref x, .int i] (h) (zI fun r h' => r = (q_trace S (nI tn) Bt i).1 ∧ h' = h) := by
  refine Sp.of [some (.ref x), some (.int i)] (by decide) (Nat.le_of_ble_eq_true rfl) rfl rfl ?_
  rintro X rfl hr rfl B
  show AW X 0 0 0 _ _ _ _
  obtain ⟨vS, vR, vC, vA, vE, vL, vT, vH⟩ := hc.v
  have e0 := vS.2.1
  have e1 := vR.2.1
  have e2 := vC.2.1
  have e3 := vA.2.1
  have e4 := vE.2.1
  have e5 := vL.2.1
  have e6 := vT.2
  have e8 := vH.1
  have b0 := vS.1
  have b1 := vR.1
  have b2' := vC.1
  have b3 := vA.1
  have b4 := vE.1
  have b5 := vL.1
  have b6 := vT.1
  have b8 := vH.2.1
  have O : only x (x + 54) h h := only.rf
  refine aw_aload_n B 0 rfl dX11_trace_0 rfl ?_
  refine aw_get B f_X11_37 dX11_trace_1 hc.ox rfl ?_
  refine aw_iload_n B 1 rfl dX11_trace_4 rfl ?_
  refine aw_callV B 0 0 (t_gett _ _ _ _ 20 _ _ i (by decide) hc.tr) co_X7_get k_X11_99 dX11_trace_5 hc.tr.o rfl rfl rfl rfl (Nat.le_of_ble_eq_true rfl) (zrm hr (by omega)) (Nat.le_refl _) (Nat.le_refl _) (kI fun r5 h5 hp5 => ?_)
  obtain ⟨rfl, eh5⟩ := hp5
  rw [eh5]
  have hx := hc.tr.1
  refine aw_iret B rfl rfl dX11_trace_8 ?_
  exact ⟨_, rfl, gR_tr (by omega) i, rfl⟩
def uK (k : Nat) (j : Int32) : Int32 := match k with
  | 0 => u0 j
  | 1 => u1 1 j
  | 2 => u1 2 j
  | 3 => u1 3 j
  | 4 => u2 4 1 j
  | 5 => u2 5 2 j
  | _ => u2 6 3 j
theorem uK_p : ∀ k, k ≤ 6 → ∀ q, q ≤ 6 → uK k (nI q) = p_under (nI k) (nI q) := by decide
set_option maxRecDepth 100000 in
set_option maxHeartbeats 4000000 in
theorem vc_X11_230 {X : zX} {cc : ByteArray} {nL pc : Nat} {nm : String} {ret : Option FieldType} {lv : List (Option Value)} {rest : List Value} {h : Hp} {Ko : Option Value → Hp → Prop} (B : zB X cc nL "LowWater" nm ret) {d k : Nat} {a : Nat} {num v j : Int32} (hr : zXr X = rmz d) (hdp : 4 ≤ d) (hk : k ≤ 6) (hR : h.2 a = some (.inr (kc k, [.int num, .int v]))) (hd : decode cc pc = .ok (.invokevirtual 230, 3)) (hw : (rest.map fun v => v.category).sum ≤ 8) (kk : AW X 0 0 (pc + 3) lv (.int (uK k j) :: rest) h Ko) : AW X 0 0 pc lv (.int j :: .ref a :: rest) (h) Ko := by
  rcases (show k = 0 ∨ k = 1 ∨ k = 2 ∨ k = 3 ∨ k = 4 ∨ k = 5 ∨ k = 6 by omega) with rfl | rfl | rfl | rfl | rfl | rfl | rfl
  · refine aw_callU B 0 0 (s_isA0 _ _ h a j) co_X6_isA ku_X11_230_X6 hd hR rfl rfl rfl rfl hw (zrm hr (by omega)) (Nat.le_refl _) (Nat.le_refl _) (kI fun r9 h9 hp => ?_)
    obtain ⟨rfl, e9⟩ := hp
    rw [e9]
    exact kk
  · refine aw_callU B 0 0 (s_isA1 _ _ h a j 3 _ _ hR rfl) co_X3_isA ku_X11_230_X3 hd hR rfl rfl rfl rfl hw (zrm hr (by omega)) (Nat.le_refl _) (Nat.le_refl _) (kI fun r9 h9 hp => ?_)
    obtain ⟨rfl, e9⟩ := hp
    rw [e9]
    exact kk
  · refine aw_callU B 0 0 (s_isA2 _ _ h a j 2 _ _ hR rfl) co_X2_isA ku_X11_230_X2 hd hR rfl rfl rfl rfl hw (zrm hr (by omega)) (Nat.le_refl _) (Nat.le_refl _) (kI fun r9 h9 hp => ?_)
    obtain ⟨rfl, e9⟩ := hp
    rw [e9]
    exact kk
  · refine aw_callU B 0 0 (s_isA3 _ _ h a j 8 _ _ hR rfl) co_X8_isA ku_X11_230_X8 hd hR rfl rfl rfl rfl hw (zrm hr (by omega)) (Nat.le_refl _) (Nat.le_refl _) (kI fun r9 h9 hp => ?_)
    obtain ⟨rfl, e9⟩ := hp
    rw [e9]
    exact kk
  · refine aw_callU B 0 0 (s_isA4 _ _ h a j 5 _ _ hR rfl) co_X5_isA ku_X11_230_X5 hd hR rfl rfl rfl rfl hw (zrm hr (by omega)) (Nat.le_refl _) (Nat.le_refl _) (kI fun r9 h9 hp => ?_)
    obtain ⟨rfl, e9⟩ := hp
    rw [e9]
    exact kk
  · refine aw_callU B 0 0 (s_isA5 _ _ h a j 0 _ _ hR rfl) co_X0_isA ku_X11_230_X0 hd hR rfl rfl rfl rfl hw (zrm hr (by omega)) (Nat.le_refl _) (Nat.le_refl _) (kI fun r9 h9 hp => ?_)
    obtain ⟨rfl, e9⟩ := hp
    rw [e9]
    exact kk
  · refine aw_callU B 0 0 (s_isA6 _ _ h a j 10 _ _ hR rfl) co_X10_isA ku_X11_230_X10 hd hR rfl rfl rfl rfl hw (zrm hr (by omega)) (Nat.le_refl _) (Nat.le_refl _) (kI fun r9 h9 hp => ?_)
    obtain ⟨rfl, e9⟩ := hp
    rw [e9]
    exact kk
theorem dX11_as_0 : decode cX11_as 0 = .ok (.aload_n 0, 1) := by decide +kernel
theorem dX11_as_1 : decode cX11_as 1 = .ok (.getfield 12, 3) := by decide +kernel
theorem dX11_as_4 : decode cX11_as 4 = .ok (.iload_n 1, 1) := by decide +kernel
theorem dX11_as_5 : decode cX11_as 5 = .ok (.invokevirtual 118, 3) := by decide +kernel
theorem dX11_as_8 : decode cX11_as 8 = .ok (.astore_n 3, 1) := by decide +kernel
theorem dX11_as_9 : decode cX11_as 9 = .ok (.aload_n 3, 1) := by decide +kernel
theorem dX11_as_10 : decode cX11_as 10 = .ok (.ifnull 13, 3) := by decide +kernel
theorem dX11_as_13 : decode cX11_as 13 = .ok (.iload_n 2, 1) := by decide +kernel
theorem dX11_as_14 : decode cX11_as 14 = .ok (.ifCond .lt 9, 3) := by decide +kernel
theorem dX11_as_17 : decode cX11_as 17 = .ok (.iload_n 2, 1) := by decide +kernel
theorem dX11_as_18 : decode cX11_as 18 = .ok (.bipush 7, 2) := by decide +kernel
theorem dX11_as_20 : decode cX11_as 20 = .ok (.if_icmp .lt 5, 3) := by decide +kernel
theorem dX11_as_23 : decode cX11_as 23 = .ok (.iconst (-1), 1) := by decide +kernel
theorem dX11_as_24 : decode cX11_as 24 = .ok (.ireturn, 1) := by decide +kernel
theorem dX11_as_25 : decode cX11_as 25 = .ok (.aload_n 3, 1) := by decide +kernel
theorem dX11_as_26 : decode cX11_as 26 = .ok (.iload_n 2, 1) := by decide +kernel
theorem dX11_as_27 : decode cX11_as 27 = .ok (.invokevirtual 230, 3) := by decide +kernel
theorem dX11_as_30 : decode cX11_as 30 = .ok (.ifCond .eq 10, 3) := by decide +kernel
theorem dX11_as_33 : decode cX11_as 33 = .ok (.aload_n 3, 1) := by decide +kernel
theorem dX11_as_34 : decode cX11_as 34 = .ok (.getfield 128, 3) := by decide +kernel
theorem dX11_as_37 : decode cX11_as 37 = .ok (.goto 5, 3) := by decide +kernel
theorem dX11_as_40 : decode cX11_as 40 = .ok (.bipush (-6), 2) := by decide +kernel
theorem dX11_as_42 : decode cX11_as 42 = .ok (.ireturn, 1) := by decide +kernel
set_option maxRecDepth 100000 in
set_option maxHeartbeats 4000000 in
theorem x_as (l : Launch) (g : zG) {h : Hp} {x ca cs N T T2 tn : Nat} {S S2 Bt : Nat → Int32} {Q Q2 : pP} {n n2 : Nat → Nat} {im : Int32} (i y : Int32) (hc : cH g h x ca cs N S T Q n S2 T2 Q2 n2 im Bt tn) : Sp l g yX11_as cX11_as 4 (some .int) (rmz 6) [.ref x, .int i, .int y] (h) (zI fun r h' => r = (q_as S i y).1 ∧ h' = h) := by
  refine Sp.of [some (.ref x), some (.int i), some (.int y), none] (by decide) (Nat.le_of_ble_eq_true rfl) rfl rfl ?_
  rintro X rfl hr rfl B
  show AW X 0 0 0 _ _ _ _
  obtain ⟨vS, vR, vC, vA, vE, vL, vT, vH⟩ := hc.v
  have e0 := vS.2.1
  have e1 := vR.2.1
  have e2 := vC.2.1
  have e3 := vA.2.1
  have e4 := vE.2.1
  have e5 := vL.2.1
  have e6 := vT.2
  have e8 := vH.1
  have b0 := vS.1
  have b1 := vR.1
  have b2' := vC.1
  have b3 := vA.1
  have b4 := vE.1
  have b5 := vL.1
  have b6 := vT.1
  have b8 := vH.2.1
  have O : only x (x + 54) h h := only.rf
  refine aw_aload_n B 0 rfl dX11_as_0 rfl ?_
  refine aw_get B f_X11_12 dX11_as_1 hc.ox rfl ?_
  refine aw_iload_n B 1 rfl dX11_as_4 rfl ?_
  refine aw_callV B 0 0 (x_readerAt _ _ i hc) co_X9_readerAt k_X11_118 dX11_as_5 hc.s rfl rfl rfl rfl (Nat.le_of_ble_eq_true rfl) (zrm hr (by omega)) (Nat.le_refl _) (Nat.le_refl _) (kO fun r5 h5 hp5 => ?_)
  obtain ⟨eh5, hv5⟩ := hp5
  rw [eh5]
  by_cases hA5 : 0 ≤ i ∧ i ≤ S 1 - 1
  · rw [if_pos hA5] at hv5
    obtain ⟨a, q, k, v, rfl, Ra⟩ := hv5
    have hqk := Ra.2.1
    have hk6 := Ra.2.2.2.1
    refine aw_astore3 B dX11_as_8 ?_
    refine aw_aload_n B 3 rfl dX11_as_9 rfl ?_
    refine aw_ifnull B dX11_as_10 ?_
    refine aw_iload_n B 2 rfl dX11_as_13 rfl ?_
    refine aw_if_lt B 23 dX11_as_14 (fun c14 => ?_) (fun c14 => ?_)
    · refine aw_iconst B (-1) (by decide) dX11_as_23 ?_
      refine aw_iret B rfl rfl dX11_as_24 ?_
      exact ⟨_, rfl, by unfold q_as; show _ = if _ then _ else _; rw [if_neg (by rw [bI_t hA5]; decide), bI_f (fun z => absurd z.1 (Int32.not_le.mpr c14)), if_pos rfl], rfl⟩
    · refine aw_iload_n B 2 rfl dX11_as_17 rfl ?_
      refine aw_bipush B 7 (by decide) dX11_as_18 ?_
      refine aw_icmp_lt B 25 dX11_as_20 (fun c20 => ?_) (fun c20 => ?_)
      · have hy6 : 0 ≤ y ∧ y ≤ 6 := ⟨Int32.not_lt.mp c14, (lt_le1 (k := 7) (by omega) y).mp c20⟩
        obtain ⟨jy, hjy, rfl⟩ := in_le (k := 6) (by decide) hy6
        refine aw_aload_n B 3 rfl dX11_as_25 rfl ?_
        refine aw_iload_n B 2 rfl dX11_as_26 rfl ?_
        refine vc_X11_230 B hr (by omega) Ra.2.2.2.1 Ra.2.2.2.2.2.2.2 dX11_as_27 (Nat.le_of_ble_eq_true rfl) ?_
        rw [uK_p k hk6 jy hjy]
        refine aw_if_eq B 40 dX11_as_30 (fun c30 => ?_) (fun c30 => ?_)
        · refine aw_bipush B (-6) (by decide) dX11_as_40 ?_
          refine aw_iret B rfl rfl dX11_as_42 ?_
          exact ⟨_, rfl, by unfold q_as; show _ = if _ then _ else _; rw [if_neg (by rw [bI_t hA5]; decide), bI_t hy6, if_neg (by decide), Ra.1, nI_clamp (by omega), Ra.2.2.2.2.2.1, if_pos c30], rfl⟩
        · refine aw_aload_n B 3 rfl dX11_as_33 rfl ?_
          refine aw_getv B Ra.2.2.2.1 dX11_as_34 Ra.2.2.2.2.2.2.2 ?_
          refine aw_goto B 42 dX11_as_37 ?_
          refine aw_iret B rfl rfl dX11_as_42 ?_
          exact ⟨_, rfl, by unfold q_as; show _ = if _ then _ else _; rw [if_neg (by rw [bI_t hA5]; decide), bI_t hy6, if_neg (by decide), Ra.1, nI_clamp (by omega), Ra.2.2.2.2.2.1, if_neg c30]; exact Ra.2.2.2.2.2.2.1.symm, rfl⟩
      · refine aw_iconst B (-1) (by decide) dX11_as_23 ?_
        refine aw_iret B rfl rfl dX11_as_24 ?_
        exact ⟨_, rfl, by unfold q_as; show _ = if _ then _ else _; rw [if_neg (by rw [bI_t hA5]; decide), bI_f (fun z => absurd ((lt_le1 (k := 7) (by omega) y).mpr z.2) c20), if_pos rfl], rfl⟩
  · rw [if_neg hA5] at hv5
    obtain rfl := hv5
    refine aw_astore_nN B 3 rfl dX11_as_8 (by decide) rfl ?_
    refine aw_aload_nN B 3 rfl dX11_as_9 rfl ?_
    refine aw_ifnullN B 23 dX11_as_10 ?_
    refine aw_iconst B (-1) (by decide) dX11_as_23 ?_
    refine aw_iret B rfl rfl dX11_as_24 ?_
    exact ⟨_, rfl, by unfold q_as; show _ = if _ then _ else _; rw [bI_f hA5, if_pos rfl], rfl⟩
theorem dX11_next_0 : decode cX11_next 0 = .ok (.iload_n 1, 1) := by decide +kernel
theorem dX11_next_1 : decode cX11_next 1 = .ok (.ifCond .lt 9, 3) := by decide +kernel
theorem dX11_next_4 : decode cX11_next 4 = .ok (.iload_n 1, 1) := by decide +kernel
theorem dX11_next_5 : decode cX11_next 5 = .ok (.bipush 9, 2) := by decide +kernel
theorem dX11_next_7 : decode cX11_next 7 = .ok (.if_icmp .le 6, 3) := by decide +kernel
theorem dX11_next_10 : decode cX11_next 10 = .ok (.bipush (-2), 2) := by decide +kernel
theorem dX11_next_12 : decode cX11_next 12 = .ok (.ireturn, 1) := by decide +kernel
theorem dX11_next_13 : decode cX11_next 13 = .ok (.iconst 0, 1) := by decide +kernel
theorem dX11_next_14 : decode cX11_next 14 = .ok (.istore_n 2, 1) := by decide +kernel
theorem dX11_next_15 : decode cX11_next 15 = .ok (.iload_n 2, 1) := by decide +kernel
theorem dX11_next_16 : decode cX11_next 16 = .ok (.bipush 60, 2) := by decide +kernel
theorem dX11_next_18 : decode cX11_next 18 = .ok (.if_icmp .gt 20, 3) := by decide +kernel
theorem dX11_next_21 : decode cX11_next 21 = .ok (.aload_n 0, 1) := by decide +kernel
theorem dX11_next_22 : decode cX11_next 22 = .ok (.iload_n 2, 1) := by decide +kernel
theorem dX11_next_23 : decode cX11_next 23 = .ok (.invokevirtual 140, 3) := by decide +kernel
theorem dX11_next_26 : decode cX11_next 26 = .ok (.iload_n 1, 1) := by decide +kernel
theorem dX11_next_27 : decode cX11_next 27 = .ok (.if_icmp .gt 5, 3) := by decide +kernel
theorem dX11_next_30 : decode cX11_next 30 = .ok (.iload_n 2, 1) := by decide +kernel
theorem dX11_next_31 : decode cX11_next 31 = .ok (.ireturn, 1) := by decide +kernel
theorem dX11_next_32 : decode cX11_next 32 = .ok (.iinc 2 1, 3) := by decide +kernel
theorem dX11_next_35 : decode cX11_next 35 = .ok (.goto (-20), 3) := by decide +kernel
theorem dX11_next_38 : decode cX11_next 38 = .ok (.bipush (-5), 2) := by decide +kernel
theorem dX11_next_40 : decode cX11_next 40 = .ok (.ireturn, 1) := by decide +kernel
set_option maxRecDepth 100000 in
set_option maxHeartbeats 4000000 in
theorem x_next (l : Launch) (g : zG) {h : Hp} {x ca cs N T T2 tn : Nat} {S S2 Bt : Nat → Int32} {Q Q2 : pP} {n n2 : Nat → Nat} {im : Int32} (i : Int32) (hc : cH g h x ca cs N S T Q n S2 T2 Q2 n2 im Bt tn) : Sp l g yX11_next cX11_next 3 (some .int) (rmz 5) [.ref x, .int i] (h) (zI fun r h' => r = q_next T Q i ∧ cH g h' x ca cs N S T Q n S2 T2 Q2 n2 im Bt tn ∧ only x (x + 54) h h') := by
  refine Sp.of [some (.ref x), some (.int i), none] (by decide) (Nat.le_of_ble_eq_true rfl) rfl rfl ?_
  rintro X rfl hr rfl B
  show AW X 0 0 0 _ _ _ _
  obtain ⟨vS, vR, vC, vA, vE, vL, vT, vH⟩ := hc.v
  have e0 := vS.2.1
  have e1 := vR.2.1
  have e2 := vC.2.1
  have e3 := vA.2.1
  have e4 := vE.2.1
  have e5 := vL.2.1
  have e6 := vT.2
  have e8 := vH.1
  have b0 := vS.1
  have b1 := vR.1
  have b2' := vC.1
  have b3 := vA.1
  have b4 := vE.1
  have b5 := vL.1
  have b6 := vT.1
  have b8 := vH.2.1
  have O : only x (x + 54) h h := only.rf
  refine aw_iload_n B 1 rfl dX11_next_0 rfl ?_
  refine aw_if_lt B 10 dX11_next_1 (fun c1 => ?_) (fun c1 => ?_)
  · refine aw_bipush B (-2) (by decide) dX11_next_10 ?_
    refine aw_iret B rfl rfl dX11_next_12 ?_
    exact ⟨_, rfl, by unfold q_next; rw [bI_f (fun z => absurd z.1 (Int32.not_le.mpr c1)), if_pos rfl], hc, O⟩
  · refine aw_iload_n B 1 rfl dX11_next_4 rfl ?_
    refine aw_bipush B 9 (by decide) dX11_next_5 ?_
    refine aw_icmp_le B 13 dX11_next_7 (fun c7 => ?_) (fun c7 => ?_)
    · have hx9 : 0 ≤ i ∧ i ≤ 9 := ⟨Int32.not_lt.mp c1, c7⟩
      refine aw_iconst B 0 (by decide) dX11_next_13 ?_
      refine aw_istore2 B dX11_next_14 ?_
      have lp : ∀ (fu : Nat) (k : Nat) (h1 : Hp), fu + k = 61 → nxF T Q i 61 0 = nxF T Q i fu k → cH (zXg X) h1 x ca cs N S T Q n S2 T2 Q2 n2 im Bt tn → only x (x + 54) h h1 → AW X 0 0 15 [some (.ref x), some (.int i), some (.int (nI k))] [] h1 (zI fun r h' => r = q_next T Q i ∧ cH (zXg X) h' x ca cs N S T Q n S2 T2 Q2 n2 im Bt tn ∧ only x (x + 54) h h') := by
        intro fu
        induction fu with
        | zero =>
          intro k h1 hb hq hc O
          refine aw_iload_n B 2 rfl dX11_next_15 rfl ?_
          refine aw_bipush B 60 (by decide) dX11_next_16 ?_
          refine aw_icmp_gt B 38 dX11_next_18 (fun c18 => ?_) (fun c18 => absurd (show nI 60 < nI k from nI_lt (by omega) (by omega)) c18)
          refine aw_bipush B (-5) (by decide) dX11_next_38 ?_
          refine aw_iret B rfl rfl dX11_next_40 ?_
          exact ⟨_, rfl, by unfold q_next; rw [bI_t hx9, if_neg (by decide), hq, nxF], hc, O⟩
        | succ fu ih =>
          intro k h1 hb hq hc O
          refine aw_iload_n B 2 rfl dX11_next_15 rfl ?_
          refine aw_bipush B 60 (by decide) dX11_next_16 ?_
          refine aw_icmp_gt B 38 dX11_next_18 (fun c18 => absurd ((nI_ltI (a := 60) (by decide) (by omega)).mp c18) (by omega)) (fun c18 => ?_)
          refine aw_aload_n B 0 rfl dX11_next_21 rfl ?_
          refine aw_iload_n B 2 rfl dX11_next_22 rfl ?_
          refine aw_callV B 0 0 (x_levelIn _ _ (k) hc (by omega)) co_X11_levelIn k_X11_140 dX11_next_23 hc.ox rfl rfl rfl rfl (Nat.le_of_ble_eq_true rfl) (zrm hr (by omega)) (Nat.le_refl _) (Nat.le_refl _) (kI fun r23 h23 hp23 => ?_)
          obtain ⟨rfl, hc, o23⟩ := hp23
          have O := O.tr o23
          refine aw_iload_n B 1 rfl dX11_next_26 rfl ?_
          refine aw_icmp_gt B 32 dX11_next_27 (fun c27 => ?_) (fun c27 => ?_)
          · refine aw_iinc2 B 1 (by decide) dX11_next_32 ?_
            refine aw_goto B 15 dX11_next_35 ?_
            rw [nI_1]
            exact ih (k + 1) _ (by omega) (by rw [hq, nxF, if_neg (Int32.not_le.mpr c27)]) hc O
          · refine aw_iload_n B 2 rfl dX11_next_30 rfl ?_
            refine aw_iret B rfl rfl dX11_next_31 ?_
            exact ⟨_, rfl, by unfold q_next; rw [bI_t hx9, if_neg (by decide), hq, nxF, if_pos (Int32.not_lt.mp c27)], hc, O⟩
      exact lp 61 0 _ (by omega) rfl hc O
    · refine aw_bipush B (-2) (by decide) dX11_next_10 ?_
      refine aw_iret B rfl rfl dX11_next_12 ?_
      exact ⟨_, rfl, by unfold q_next; rw [bI_f (fun z => absurd z.2 c7), if_pos rfl], hc, O⟩
theorem dX11_force_0 : decode cX11_force 0 = .ok (.iload_n 1, 1) := by decide +kernel
theorem dX11_force_1 : decode cX11_force 1 = .ok (.invokestatic 134, 3) := by decide +kernel
theorem dX11_force_4 : decode cX11_force 4 = .ok (.ifCond .ne 6, 3) := by decide +kernel
theorem dX11_force_7 : decode cX11_force 7 = .ok (.bipush (-2), 2) := by decide +kernel
theorem dX11_force_9 : decode cX11_force 9 = .ok (.ireturn, 1) := by decide +kernel
theorem dX11_force_10 : decode cX11_force 10 = .ok (.aload_n 0, 1) := by decide +kernel
theorem dX11_force_11 : decode cX11_force 11 = .ok (.iload_n 1, 1) := by decide +kernel
theorem dX11_force_12 : decode cX11_force 12 = .ok (.invokevirtual 140, 3) := by decide +kernel
theorem dX11_force_15 : decode cX11_force 15 = .ok (.istore_n 2, 1) := by decide +kernel
theorem dX11_force_16 : decode cX11_force 16 = .ok (.iconst 0, 1) := by decide +kernel
theorem dX11_force_17 : decode cX11_force 17 = .ok (.istore_n 3, 1) := by decide +kernel
theorem dX11_force_18 : decode cX11_force 18 = .ok (.iconst 0, 1) := by decide +kernel
theorem dX11_force_19 : decode cX11_force 19 = .ok (.istore 4, 2) := by decide +kernel
theorem dX11_force_21 : decode cX11_force 21 = .ok (.iload 4, 2) := by decide +kernel
theorem dX11_force_23 : decode cX11_force 23 = .ok (.aload_n 0, 1) := by decide +kernel
theorem dX11_force_24 : decode cX11_force 24 = .ok (.getfield 12, 3) := by decide +kernel
theorem dX11_force_27 : decode cX11_force 27 = .ok (.getfield 87, 3) := by decide +kernel
theorem dX11_force_30 : decode cX11_force 30 = .ok (.getfield 66, 3) := by decide +kernel
theorem dX11_force_33 : decode cX11_force 33 = .ok (.if_icmp .ge 32, 3) := by decide +kernel
theorem dX11_force_36 : decode cX11_force 36 = .ok (.iload_n 2, 1) := by decide +kernel
theorem dX11_force_37 : decode cX11_force 37 = .ok (.aload_n 0, 1) := by decide +kernel
theorem dX11_force_38 : decode cX11_force 38 = .ok (.getfield 12, 3) := by decide +kernel
theorem dX11_force_41 : decode cX11_force 41 = .ok (.getfield 87, 3) := by decide +kernel
theorem dX11_force_44 : decode cX11_force 44 = .ok (.iload 4, 2) := by decide +kernel
theorem dX11_force_46 : decode cX11_force 46 = .ok (.invokevirtual 99, 3) := by decide +kernel
theorem dX11_force_49 : decode cX11_force 49 = .ok (.if_icmp .gt 10, 3) := by decide +kernel
theorem dX11_force_52 : decode cX11_force 52 = .ok (.iload_n 3, 1) := by decide +kernel
theorem dX11_force_53 : decode cX11_force 53 = .ok (.iconst 1, 1) := by decide +kernel
theorem dX11_force_54 : decode cX11_force 54 = .ok (.iload 4, 2) := by decide +kernel
theorem dX11_force_56 : decode cX11_force 56 = .ok (.ishl, 1) := by decide +kernel
theorem dX11_force_57 : decode cX11_force 57 = .ok (.ior, 1) := by decide +kernel
theorem dX11_force_58 : decode cX11_force 58 = .ok (.istore_n 3, 1) := by decide +kernel
theorem dX11_force_59 : decode cX11_force 59 = .ok (.iinc 4 1, 3) := by decide +kernel
theorem dX11_force_62 : decode cX11_force 62 = .ok (.goto (-41), 3) := by decide +kernel
theorem dX11_force_65 : decode cX11_force 65 = .ok (.iload_n 3, 1) := by decide +kernel
theorem dX11_force_66 : decode cX11_force 66 = .ok (.ireturn, 1) := by decide +kernel
set_option maxRecDepth 100000 in
set_option maxHeartbeats 4000000 in
theorem x_force (l : Launch) (g : zG) {h : Hp} {x ca cs N T T2 tn : Nat} {S S2 Bt : Nat → Int32} {Q Q2 : pP} {n n2 : Nat → Nat} {im : Int32} (i : Int32) (hc : cH g h x ca cs N S T Q n S2 T2 Q2 n2 im Bt tn) : Sp l g yX11_force cX11_force 5 (some .int) (rmz 5) [.ref x, .int i] (h) (zI fun r h' => r = q_force S T Q (n 0) i ∧ cH g h' x ca cs N S T Q n S2 T2 Q2 n2 im Bt tn ∧ only x (x + 54) h h') := by
  refine Sp.of [some (.ref x), some (.int i), none, none, none] (by decide) (Nat.le_of_ble_eq_true rfl) rfl rfl ?_
  rintro X rfl hr rfl B
  show AW X 0 0 0 _ _ _ _
  obtain ⟨vS, vR, vC, vA, vE, vL, vT, vH⟩ := hc.v
  have e0 := vS.2.1
  have e1 := vR.2.1
  have e2 := vC.2.1
  have e3 := vA.2.1
  have e4 := vE.2.1
  have e5 := vL.2.1
  have e6 := vT.2
  have e8 := vH.1
  have b0 := vS.1
  have b1 := vR.1
  have b2' := vC.1
  have b3 := vA.1
  have b4 := vE.1
  have b5 := vL.1
  have b6 := vT.1
  have b8 := vH.2.1
  have O : only x (x + 54) h h := only.rf
  refine aw_iload_n B 1 rfl dX11_force_0 rfl ?_
  refine aw_callS B 0 0 (x_isNear _ _ _ i) co_X11_isNear k_X11_134 dX11_force_1 rfl rfl (Nat.le_of_ble_eq_true rfl) (zrm hr (by omega)) (Nat.le_refl _) (Nat.le_refl _) (kI fun r1 h1 hp1 => ?_)
  obtain ⟨rfl, eh1⟩ := hp1
  rw [eh1]
  refine aw_if_ne B 10 dX11_force_4 (fun c4 => ?_) (fun c4 => ?_)
  · obtain ⟨k, hk, rfl⟩ := in_le (k := 60) (by omega) (show 0 ≤ i ∧ i ≤ nI 60 from bI_n c4)
    refine aw_aload_n B 0 rfl dX11_force_10 rfl ?_
    refine aw_iload_n B 1 rfl dX11_force_11 rfl ?_
    refine aw_callV B 0 0 (x_levelIn _ _ (k) hc (by omega)) co_X11_levelIn k_X11_140 dX11_force_12 hc.ox rfl rfl rfl rfl (Nat.le_of_ble_eq_true rfl) (zrm hr (by omega)) (Nat.le_refl _) (Nat.le_refl _) (kI fun r12 h12 hp12 => ?_)
    obtain ⟨rfl, hc, o12⟩ := hp12
    have O := O.tr o12
    refine aw_istore2 B dX11_force_15 ?_
    refine aw_iconst B 0 (by decide) dX11_force_16 ?_
    refine aw_istore3 B dX11_force_17 ?_
    refine aw_iconst B 0 (by decide) dX11_force_18 ?_
    refine aw_istore4 B dX11_force_19 ?_
    have lp : ∀ (fu : Nat) (j : Nat) (h1 : Hp), fu + j = n 0 → cH (zXg X) h1 x ca cs N S T Q n S2 T2 Q2 n2 im Bt tn → only x (x + 54) h h1 → AW X 0 0 21 [some (.ref x), some (.int (nI k)), some (.int (lvl (T + k) Q)), some (.int (frF S (lvl (T + k) Q) j)), some (.int (nI j))] [] h1 (zI fun r h' => r = q_force S T Q (n 0) (nI k) ∧ cH (zXg X) h' x ca cs N S T Q n S2 T2 Q2 n2 im Bt tn ∧ only x (x + 54) h h') := by
      intro fu
      induction fu with
      | zero =>
        intro j h1 hb hc O
        obtain rfl : j = n 0 := by omega
        refine aw_iload B dX11_force_21 rfl ?_
        refine aw_aload_n B 0 rfl dX11_force_23 rfl ?_
        refine aw_get B f_X11_12 dX11_force_24 hc.ox rfl ?_
        refine aw_get B f_X11_87 dX11_force_27 hc.s rfl ?_
        refine aw_get B f_X11_66 dX11_force_30 (hc.shelves).o rfl ?_
        refine aw_icmp_ge B 65 dX11_force_33 (fun c33 => ?_) (fun c33 => absurd (Int32.le_refl _) c33)
        refine aw_iload_n B 3 rfl dX11_force_65 rfl ?_
        refine aw_iret B rfl rfl dX11_force_66 ?_
        exact ⟨_, rfl, by unfold q_force; rw [if_neg c4, kN_nI (by omega)], hc, O⟩
      | succ fu ih =>
        intro j h1 hb hc O
        refine aw_iload B dX11_force_21 rfl ?_
        refine aw_aload_n B 0 rfl dX11_force_23 rfl ?_
        refine aw_get B f_X11_12 dX11_force_24 hc.ox rfl ?_
        refine aw_get B f_X11_87 dX11_force_27 hc.s rfl ?_
        refine aw_get B f_X11_66 dX11_force_30 (hc.shelves).o rfl ?_
        refine aw_icmp_ge B 65 dX11_force_33 (fun c33 => absurd ((nI_leI (by omega) (by omega)).mp c33) (by omega)) (fun c33 => ?_)
        refine aw_iload_n B 2 rfl dX11_force_36 rfl ?_
        refine aw_aload_n B 0 rfl dX11_force_37 rfl ?_
        refine aw_get B f_X11_12 dX11_force_38 hc.ox rfl ?_
        refine aw_get B f_X11_87 dX11_force_41 hc.s rfl ?_
        refine aw_iload B dX11_force_44 rfl ?_
        refine aw_callV B 0 0 (t_get _ _ _ _ 6 _ _ (j) (by decide) (by omega) (by omega) hc.shelves) co_X7_get k_X11_99 dX11_force_46 hc.shelves.o rfl rfl rfl rfl (Nat.le_of_ble_eq_true rfl) (zrm hr (by omega)) (Nat.le_refl _) (Nat.le_refl _) (kI fun r46 h46 hp46 => ?_)
        obtain ⟨rfl, eh46⟩ := hp46
        rw [eh46]
        refine aw_icmp_gt B 59 dX11_force_49 (fun c49 => ?_) (fun c49 => ?_)
        · refine aw_iinc4 B 1 (by decide) dX11_force_59 ?_
          refine aw_goto B 21 dX11_force_62 ?_
          rw [nI_1]
          have h9 := ih (j + 1) _ (by omega) hc O
          rw [frF, if_neg (Int32.not_le.mpr c49), Int32.or_zero] at h9
          exact h9
        · refine aw_iload_n B 3 rfl dX11_force_52 rfl ?_
          refine aw_iconst B 1 (by decide) dX11_force_53 ?_
          refine aw_iload B dX11_force_54 rfl ?_
          refine aw_ishl B dX11_force_56 ?_
          refine aw_ior B dX11_force_57 ?_
          refine aw_istore3 B dX11_force_58 ?_
          refine aw_iinc4 B 1 (by decide) dX11_force_59 ?_
          refine aw_goto B 21 dX11_force_62 ?_
          rw [nI_1]
          have h9 := ih (j + 1) _ (by omega) hc O
          rw [frF, if_pos (Int32.not_lt.mp c49)] at h9
          exact h9
    exact lp (n 0) 0 _ (by omega) hc O
  · refine aw_bipush B (-2) (by decide) dX11_force_7 ?_
    refine aw_iret B rfl rfl dX11_force_9 ?_
    exact ⟨_, rfl, by unfold q_force; rw [if_pos c4], hc, O⟩
theorem opF_r (T : Nat) (Q : pP) (x : Int32) : ∀ j, j ≤ 100 → ∃ a b, a ≤ j ∧ b ≤ j ∧ (opF T Q x j).2.1 = nI a ∧ (opF T Q x j).2.2 = nI b
  | 0, _ => ⟨0, 0, Nat.le_refl _, Nat.le_refl _, rfl, rfl⟩
  | j + 1, h => by
    obtain ⟨a, b, ha, hb, e1, e2⟩ := opF_r T Q x j (by omega)
    rw [opF]
    split
    · show ∃ a b, _ ∧ _ ∧ (opF T Q x j).2.1 + 1 = _ ∧ (if (opF T Q x j).2.1 + 1 ≤ (opF T Q x j).2.2 then (opF T Q x j).2.2 else (opF T Q x j).2.1 + 1) = _
      rw [e1, e2, nI_1]
      split
      · exact ⟨a + 1, b, by omega, by omega, rfl, rfl⟩
      · exact ⟨a + 1, a + 1, by omega, by omega, rfl, rfl⟩
    · show ∃ a b, _ ∧ _ ∧ (0 : Int32) = _ ∧ (if (0 : Int32) ≤ (opF T Q x j).2.2 then (opF T Q x j).2.2 else 0) = _
      rw [e2]
      split
      · exact ⟨0, b, by omega, by omega, rfl, rfl⟩
      · exact ⟨0, 0, by omega, by omega, rfl, rfl⟩
theorem le_if {a b : Nat} (ha : a < 2 ^ 31) (hb : b < 2 ^ 31) : (if nI b < nI a then nI a else nI b) = if nI a ≤ nI b then nI b else nI a := by
  by_cases h : nI a ≤ nI b
  · rw [if_pos h, if_neg (Int32.not_lt.mpr h)]
  · rw [if_neg h, if_pos (Int32.not_le.mp h)]
theorem dX11_open_0 : decode cX11_open 0 = .ok (.iload_n 1, 1) := by decide +kernel
theorem dX11_open_1 : decode cX11_open 1 = .ok (.invokestatic 83, 3) := by decide +kernel
theorem dX11_open_4 : decode cX11_open 4 = .ok (.ifCond .eq 10, 3) := by decide +kernel
theorem dX11_open_7 : decode cX11_open 7 = .ok (.iload_n 3, 1) := by decide +kernel
theorem dX11_open_8 : decode cX11_open 8 = .ok (.invokestatic 96, 3) := by decide +kernel
theorem dX11_open_11 : decode cX11_open 11 = .ok (.ifCond .ne 5, 3) := by decide +kernel
theorem dX11_open_14 : decode cX11_open 14 = .ok (.iconst (-1), 1) := by decide +kernel
theorem dX11_open_15 : decode cX11_open 15 = .ok (.ireturn, 1) := by decide +kernel
theorem dX11_open_16 : decode cX11_open 16 = .ok (.iload_n 2, 1) := by decide +kernel
theorem dX11_open_17 : decode cX11_open 17 = .ok (.invokestatic 134, 3) := by decide +kernel
theorem dX11_open_20 : decode cX11_open 20 = .ok (.ifCond .ne 6, 3) := by decide +kernel
theorem dX11_open_23 : decode cX11_open 23 = .ok (.bipush (-2), 2) := by decide +kernel
theorem dX11_open_25 : decode cX11_open 25 = .ok (.ireturn, 1) := by decide +kernel
theorem dX11_open_26 : decode cX11_open 26 = .ok (.iconst 0, 1) := by decide +kernel
theorem dX11_open_27 : decode cX11_open 27 = .ok (.istore 4, 2) := by decide +kernel
theorem dX11_open_29 : decode cX11_open 29 = .ok (.iconst 0, 1) := by decide +kernel
theorem dX11_open_30 : decode cX11_open 30 = .ok (.istore 5, 2) := by decide +kernel
theorem dX11_open_32 : decode cX11_open 32 = .ok (.iconst 0, 1) := by decide +kernel
theorem dX11_open_33 : decode cX11_open 33 = .ok (.istore 6, 2) := by decide +kernel
theorem dX11_open_35 : decode cX11_open 35 = .ok (.iconst 0, 1) := by decide +kernel
theorem dX11_open_36 : decode cX11_open 36 = .ok (.istore 7, 2) := by decide +kernel
theorem dX11_open_38 : decode cX11_open 38 = .ok (.iload 7, 2) := by decide +kernel
theorem dX11_open_40 : decode cX11_open 40 = .ok (.iload_n 2, 1) := by decide +kernel
theorem dX11_open_41 : decode cX11_open 41 = .ok (.if_icmp .ge 40, 3) := by decide +kernel
theorem dX11_open_44 : decode cX11_open 44 = .ok (.aload_n 0, 1) := by decide +kernel
theorem dX11_open_45 : decode cX11_open 45 = .ok (.iload 7, 2) := by decide +kernel
theorem dX11_open_47 : decode cX11_open 47 = .ok (.invokevirtual 140, 3) := by decide +kernel
theorem dX11_open_50 : decode cX11_open 50 = .ok (.iload_n 1, 1) := by decide +kernel
theorem dX11_open_51 : decode cX11_open 51 = .ok (.if_icmp .gt 21, 3) := by decide +kernel
theorem dX11_open_54 : decode cX11_open 54 = .ok (.iinc 4 1, 3) := by decide +kernel
theorem dX11_open_57 : decode cX11_open 57 = .ok (.iinc 5 1, 3) := by decide +kernel
theorem dX11_open_60 : decode cX11_open 60 = .ok (.iload 6, 2) := by decide +kernel
theorem dX11_open_62 : decode cX11_open 62 = .ok (.iload 5, 2) := by decide +kernel
theorem dX11_open_64 : decode cX11_open 64 = .ok (.invokestatic 185, 3) := by decide +kernel
theorem dX11_open_67 : decode cX11_open 67 = .ok (.istore 6, 2) := by decide +kernel
theorem dX11_open_69 : decode cX11_open 69 = .ok (.goto 6, 3) := by decide +kernel
theorem dX11_open_72 : decode cX11_open 72 = .ok (.iconst 0, 1) := by decide +kernel
theorem dX11_open_73 : decode cX11_open 73 = .ok (.istore 5, 2) := by decide +kernel
theorem dX11_open_75 : decode cX11_open 75 = .ok (.iinc 7 1, 3) := by decide +kernel
theorem dX11_open_78 : decode cX11_open 78 = .ok (.goto (-40), 3) := by decide +kernel
theorem dX11_open_81 : decode cX11_open 81 = .ok (.iload_n 3, 1) := by decide +kernel
theorem dX11_open_82 : decode cX11_open 82 = .ok (.ifCond .ne 8, 3) := by decide +kernel
theorem dX11_open_85 : decode cX11_open 85 = .ok (.iload 4, 2) := by decide +kernel
theorem dX11_open_87 : decode cX11_open 87 = .ok (.goto 5, 3) := by decide +kernel
theorem dX11_open_90 : decode cX11_open 90 = .ok (.iload 6, 2) := by decide +kernel
theorem dX11_open_92 : decode cX11_open 92 = .ok (.ireturn, 1) := by decide +kernel
set_option maxRecDepth 100000 in
set_option maxHeartbeats 4000000 in
theorem x_open (l : Launch) (g : zG) {h : Hp} {x ca cs N T T2 tn : Nat} {S S2 Bt : Nat → Int32} {Q Q2 : pP} {n n2 : Nat → Nat} {im : Int32} (i z y : Int32) (hc : cH g h x ca cs N S T Q n S2 T2 Q2 n2 im Bt tn) : Sp l g yX11_open cX11_open 8 (some .int) (rmz 5) [.ref x, .int i, .int z, .int y] (h) (zI fun r h' => r = q_open T Q i z y ∧ cH g h' x ca cs N S T Q n S2 T2 Q2 n2 im Bt tn ∧ only x (x + 54) h h') := by
  refine Sp.of [some (.ref x), some (.int i), some (.int z), some (.int y), none, none, none, none] (by decide) (Nat.le_of_ble_eq_true rfl) rfl rfl ?_
  rintro X rfl hr rfl B
  show AW X 0 0 0 _ _ _ _
  obtain ⟨vS, vR, vC, vA, vE, vL, vT, vH⟩ := hc.v
  have e0 := vS.2.1
  have e1 := vR.2.1
  have e2 := vC.2.1
  have e3 := vA.2.1
  have e4 := vE.2.1
  have e5 := vL.2.1
  have e6 := vT.2
  have e8 := vH.1
  have b0 := vS.1
  have b1 := vR.1
  have b2' := vC.1
  have b3 := vA.1
  have b4 := vE.1
  have b5 := vL.1
  have b6 := vT.1
  have b8 := vH.2.1
  have O : only x (x + 54) h h := only.rf
  refine aw_iload_n B 1 rfl dX11_open_0 rfl ?_
  refine aw_callS B 0 0 (x_isShelf _ _ _ i) co_X11_isShelf k_X11_83 dX11_open_1 rfl rfl (Nat.le_of_ble_eq_true rfl) (zrm hr (by omega)) (Nat.le_refl _) (Nat.le_refl _) (kI fun r1 h1 hp1 => ?_)
  obtain ⟨rfl, eh1⟩ := hp1
  rw [eh1]
  refine aw_if_eq B 14 dX11_open_4 (fun c4 => ?_) (fun c4 => ?_)
  · refine aw_iconst B (-1) (by decide) dX11_open_14 ?_
    refine aw_iret B rfl rfl dX11_open_15 ?_
    exact ⟨_, rfl, by unfold q_open; rw [if_pos c4], hc, O⟩
  · refine aw_iload_n B 3 rfl dX11_open_7 rfl ?_
    refine aw_callS B 0 0 (x_isWhat _ _ _ y) co_X11_isWhat k_X11_96 dX11_open_8 rfl rfl (Nat.le_of_ble_eq_true rfl) (zrm hr (by omega)) (Nat.le_refl _) (Nat.le_refl _) (kI fun r8 h8 hp8 => ?_)
    obtain ⟨rfl, eh8⟩ := hp8
    rw [eh8]
    refine aw_if_ne B 16 dX11_open_11 (fun c11 => ?_) (fun c11 => ?_)
    · refine aw_iload_n B 2 rfl dX11_open_16 rfl ?_
      refine aw_callS B 0 0 (x_isNear _ _ _ z) co_X11_isNear k_X11_134 dX11_open_17 rfl rfl (Nat.le_of_ble_eq_true rfl) (zrm hr (by omega)) (Nat.le_refl _) (Nat.le_refl _) (kI fun r17 h17 hp17 => ?_)
      obtain ⟨rfl, eh17⟩ := hp17
      rw [eh17]
      refine aw_if_ne B 26 dX11_open_20 (fun c20 => ?_) (fun c20 => ?_)
      · obtain ⟨k, hk, rfl⟩ := in_le (k := 60) (by omega) (show 0 ≤ z ∧ z ≤ nI 60 from bI_n c20)
        refine aw_iconst B 0 (by decide) dX11_open_26 ?_
        refine aw_istore4 B dX11_open_27 ?_
        refine aw_iconst B 0 (by decide) dX11_open_29 ?_
        refine aw_istore5 B dX11_open_30 ?_
        refine aw_iconst B 0 (by decide) dX11_open_32 ?_
        refine aw_istore6 B dX11_open_33 ?_
        refine aw_iconst B 0 (by decide) dX11_open_35 ?_
        refine aw_istore7 B dX11_open_36 ?_
        have lp : ∀ (fu : Nat) (j : Nat) (h1 : Hp), fu + j = k → cH (zXg X) h1 x ca cs N S T Q n S2 T2 Q2 n2 im Bt tn → only x (x + 54) h h1 → AW X 0 0 38 [some (.ref x), some (.int i), some (.int (nI k)), some (.int y), some (.int (opF T Q i j).1), some (.int (opF T Q i j).2.1), some (.int (opF T Q i j).2.2), some (.int (nI j))] [] h1 (zI fun r h' => r = q_open T Q i (nI k) y ∧ cH (zXg X) h' x ca cs N S T Q n S2 T2 Q2 n2 im Bt tn ∧ only x (x + 54) h h') := by
          intro fu
          induction fu with
          | zero =>
            intro j h1 hb hc O
            obtain rfl : j = k := by omega
            refine aw_iload B dX11_open_38 rfl ?_
            refine aw_iload_n B 2 rfl dX11_open_40 rfl ?_
            refine aw_icmp_ge B 81 dX11_open_41 (fun c41 => ?_) (fun c41 => absurd (Int32.le_refl _) c41)
            refine aw_iload_n B 3 rfl dX11_open_81 rfl ?_
            refine aw_if_ne B 90 dX11_open_82 (fun c82 => ?_) (fun c82 => ?_)
            · refine aw_iload B dX11_open_90 rfl ?_
              refine aw_iret B rfl rfl dX11_open_92 ?_
              exact ⟨_, rfl, by unfold q_open; rw [if_neg c4, if_neg c11, if_neg c20, if_neg c82, kN_nI (by omega)], hc, O⟩
            · refine aw_iload B dX11_open_85 rfl ?_
              refine aw_goto B 92 dX11_open_87 ?_
              refine aw_iret B rfl rfl dX11_open_92 ?_
              exact ⟨_, rfl, by unfold q_open; rw [if_neg c4, if_neg c11, if_neg c20, if_pos c82, kN_nI (by omega)], hc, O⟩
          | succ fu ih =>
            intro j h1 hb hc O
            refine aw_iload B dX11_open_38 rfl ?_
            refine aw_iload_n B 2 rfl dX11_open_40 rfl ?_
            refine aw_icmp_ge B 81 dX11_open_41 (fun c41 => absurd ((nI_leI (by omega) (by omega)).mp c41) (by omega)) (fun c41 => ?_)
            refine aw_aload_n B 0 rfl dX11_open_44 rfl ?_
            refine aw_iload B dX11_open_45 rfl ?_
            refine aw_callV B 0 0 (x_levelIn _ _ (j) hc (by omega)) co_X11_levelIn k_X11_140 dX11_open_47 hc.ox rfl rfl rfl rfl (Nat.le_of_ble_eq_true rfl) (zrm hr (by omega)) (Nat.le_refl _) (Nat.le_refl _) (kI fun r47 h47 hp47 => ?_)
            obtain ⟨rfl, hc, o47⟩ := hp47
            have O := O.tr o47
            refine aw_iload_n B 1 rfl dX11_open_50 rfl ?_
            refine aw_icmp_gt B 72 dX11_open_51 (fun c51 => ?_) (fun c51 => ?_)
            · refine aw_iconst B 0 (by decide) dX11_open_72 ?_
              refine aw_istore5 B dX11_open_73 ?_
              refine aw_iinc7 B 1 (by decide) dX11_open_75 ?_
              refine aw_goto B 38 dX11_open_78 ?_
              rw [nI_1]
              have h9 := ih (j + 1) _ (by omega) hc O
              obtain ⟨a, b, ha, hb9, f1, f2⟩ := opF_r T Q i j (by omega)
              rw [opF, if_neg (Int32.not_le.mpr c51)] at h9
              simp only [Int32.add_zero] at h9
              rw [if_pos (by rw [f2]; exact nI_pos' (by omega))] at h9
              exact h9
            · refine aw_iinc4 B 1 (by decide) dX11_open_54 ?_
              refine aw_iinc5 B 1 (by decide) dX11_open_57 ?_
              refine aw_iload B dX11_open_60 rfl ?_
              refine aw_iload B dX11_open_62 rfl ?_
              refine aw_mmax B ma_X11_185 dX11_open_64 (Nat.le_of_ble_eq_true rfl) (mR2 hr (by omega)) ?_
              refine aw_istore6 B dX11_open_67 ?_
              refine aw_goto B 75 dX11_open_69 ?_
              refine aw_iinc7 B 1 (by decide) dX11_open_75 ?_
              refine aw_goto B 38 dX11_open_78 ?_
              rw [nI_1]
              have h9 := ih (j + 1) _ (by omega) hc O
              obtain ⟨a, b, ha, hb9, f1, f2⟩ := opF_r T Q i j (by omega)
              rw [opF, if_pos (Int32.not_lt.mp c51)] at h9
              simp only [f1, f2, nI_1] at h9 ⊢
              rw [le_if (by omega) (by omega)]
              exact h9
        exact lp k 0 _ (by omega) hc O
      · refine aw_bipush B (-2) (by decide) dX11_open_23 ?_
        refine aw_iret B rfl rfl dX11_open_25 ?_
        exact ⟨_, rfl, by unfold q_open; rw [if_neg c4, if_neg c11, if_pos c20], hc, O⟩
    · refine aw_iconst B (-1) (by decide) dX11_open_14 ?_
      refine aw_iret B rfl rfl dX11_open_15 ?_
      exact ⟨_, rfl, by unfold q_open; rw [if_neg c4, if_pos c11], hc, O⟩
