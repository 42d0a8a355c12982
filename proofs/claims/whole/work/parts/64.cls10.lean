theorem bt_2 : ∀ set, set < 64 → ∀ p, p < 64 → p &&& set = p → (set &&& (63 ^^^ p)) &&& set = (set &&& (63 ^^^ p)) := by decide +kernel
theorem bt_3 : ∀ set, set < 64 → ∀ p, p < 64 → (nI p &&& (nI set ^^^ (-1)) = 0 ↔ p &&& set = p) := by decide +kernel
theorem eoN_ok {S : Nat → Int32} {T : Nat} {Q : pP} {r n0 p : Nat} (hn : n0 ≤ 6) (hp : p < 2 ^ n0) : okN (eoN S T Q n0 r p) := by
  have h64 : p < 64 := Nat.lt_of_lt_of_le hp (Nat.pow_le_pow_right (n := 2) (by decide) hn)
  rw [← goF_best (st := (fun _ => 100000, fun _ => 0, fun _ => 0)) hn hp h64 (Nat.and_self p) rfl]
  exact goF_ok 6 0 0 0 _ rfl (by decide) (fun _ => Or.inr rfl) p
theorem orN_x {a b : Nat} (ha : okN a) (hb : okN b) : (orN a = -5 ∨ orN b = -5 → orN (max a b) = -5) ∧ (¬ orN a = -5 → ¬ orN b = -5 → (if orN a < orN b then orN b else orN a) = orN (max a b)) ∧ okN (max a b) := by
  rw [orN_5 ha, orN_5 hb]
  refine ⟨fun h => ?_, fun h1 h2 => ?_, ?_⟩
  · have e : max a b = 100000 := by
      rcases ha with y | y <;> rcases hb with z | z <;> omega
    rw [e]; decide
  · have h3 : a ≤ 360 := by
      rcases ha with y | y
      · exact y
      · exact absurd y h1
    have h4 : b ≤ 360 := by
      rcases hb with y | y
      · exact y
      · exact absurd y h2
    rw [orN_n (by omega), orN_n (by omega), orN_n (by omega)]
    by_cases c : a < b
    · rw [if_pos (nI_lt c (by omega)), Nat.max_eq_right (by omega)]
    · rw [if_neg (fun z => c ((nI_ltI (by omega) (by omega)).mp z)), Nat.max_eq_left (by omega)]
  · unfold okN at *
    omega
theorem tw_lt {m l : Nat} (hm : okN m) (hl : okN l) : (orN m = -5 → ¬ m < l) ∧ (¬ orN m = -5 → orN l = -5 → m < l) ∧ (¬ orN m = -5 → ¬ orN l = -5 → (orN l ≤ orN m ↔ ¬ m < l)) := by
  rw [orN_5 hm, orN_5 hl]
  refine ⟨fun h => ?_, fun h1 h2 => ?_, fun h1 h2 => ?_⟩
  · rcases hl with y | y <;> omega
  · rcases hm with y | y
    · omega
    · exact absurd y h1
  · have h3 : m ≤ 360 := by
      rcases hm with y | y
      · exact y
      · exact absurd y h1
    have h4 : l ≤ 360 := by
      rcases hl with y | y
      · exact y
      · exact absurd y h2
    rw [orN_n (by omega), orN_n (by omega), nI_leI (by omega) (by omega)]
    omega
theorem twF_ok {S : Nat → Int32} {T : Nat} {Q : pP} {n0 r1 r2 set : Nat} (hn : n0 ≤ 6) (hset : set < 2 ^ n0) : ∀ p, p ≤ 64 → okN (twF S T Q n0 r1 r2 set p).2
  | 0, _ => Or.inr rfl
  | p + 1, hp => by
    have ih := twF_ok (S := S) (T := T) (Q := Q) (r1 := r1) (r2 := r2) hn hset p (by omega)
    have h64 : set < 64 := Nat.lt_of_lt_of_le hset (Nat.pow_le_pow_right (n := 2) (by decide) hn)
    rw [twF]
    split
    · rename_i c
      split
      · have h1 : p < 2 ^ n0 := Nat.lt_of_le_of_lt (by rw [← c]; exact Nat.and_le_right) hset
        have h2 : set &&& (63 ^^^ p) < 2 ^ n0 := Nat.lt_of_le_of_lt Nat.and_le_left hset
        exact (orN_x (eoN_ok hn h1) (eoN_ok hn h2)).2.2
      · exact ih
    · exact ih
theorem dX11_bothDone_0 : decode cX11_bothDone 0 = .ok (.aload_n 0, 1) := by decide +kernel
theorem dX11_bothDone_1 : decode cX11_bothDone 1 = .ok (.getfield 44, 3) := by decide +kernel
theorem dX11_bothDone_4 : decode cX11_bothDone 4 = .ok (.iload_n 1, 1) := by decide +kernel
theorem dX11_bothDone_5 : decode cX11_bothDone 5 = .ok (.invokevirtual 161, 3) := by decide +kernel
theorem dX11_bothDone_8 : decode cX11_bothDone 8 = .ok (.istore_n 3, 1) := by decide +kernel
theorem dX11_bothDone_9 : decode cX11_bothDone 9 = .ok (.aload_n 0, 1) := by decide +kernel
theorem dX11_bothDone_10 : decode cX11_bothDone 10 = .ok (.getfield 48, 3) := by decide +kernel
theorem dX11_bothDone_13 : decode cX11_bothDone 13 = .ok (.iload_n 2, 1) := by decide +kernel
theorem dX11_bothDone_14 : decode cX11_bothDone 14 = .ok (.invokevirtual 161, 3) := by decide +kernel
theorem dX11_bothDone_17 : decode cX11_bothDone 17 = .ok (.istore 4, 2) := by decide +kernel
theorem dX11_bothDone_19 : decode cX11_bothDone 19 = .ok (.iload_n 3, 1) := by decide +kernel
theorem dX11_bothDone_20 : decode cX11_bothDone 20 = .ok (.bipush (-5), 2) := by decide +kernel
theorem dX11_bothDone_22 : decode cX11_bothDone 22 = .ok (.if_icmp .eq 10, 3) := by decide +kernel
theorem dX11_bothDone_25 : decode cX11_bothDone 25 = .ok (.iload 4, 2) := by decide +kernel
theorem dX11_bothDone_27 : decode cX11_bothDone 27 = .ok (.bipush (-5), 2) := by decide +kernel
theorem dX11_bothDone_29 : decode cX11_bothDone 29 = .ok (.if_icmp .ne 8, 3) := by decide +kernel
theorem dX11_bothDone_32 : decode cX11_bothDone 32 = .ok (.bipush (-5), 2) := by decide +kernel
theorem dX11_bothDone_34 : decode cX11_bothDone 34 = .ok (.goto 9, 3) := by decide +kernel
theorem dX11_bothDone_37 : decode cX11_bothDone 37 = .ok (.iload_n 3, 1) := by decide +kernel
theorem dX11_bothDone_38 : decode cX11_bothDone 38 = .ok (.iload 4, 2) := by decide +kernel
theorem dX11_bothDone_40 : decode cX11_bothDone 40 = .ok (.invokestatic 185, 3) := by decide +kernel
theorem dX11_bothDone_43 : decode cX11_bothDone 43 = .ok (.ireturn, 1) := by decide +kernel
set_option maxRecDepth 100000 in
set_option maxHeartbeats 4000000 in
theorem x_both (l : Launch) (g : zG) {h : Hp} {x ca cs N T T2 tn : Nat} {S S2 Bt : Nat → Int32} {Q Q2 : pP} {n n2 : Nat → Nat} {im : Int32} (p set a1 ask1 r1 a2 ask2 r2 : Nat) (hc : cH g h x ca cs N S T Q n S2 T2 Q2 n2 im Bt tn) (hR1 : oR g h x (x + 43) a1 ask1 S T Q r1 set) (hR2 : oR g h x (x + 48) a2 ask2 S T Q r2 set) (hset : set < 2 ^ n 0) (hp : p < 64) (hps : p &&& set = p) : Sp l g yX11_bothDone cX11_bothDone 5 (some .int) (rmz 2) [.ref x, .int (nI p), .int (nI (set &&& (63 ^^^ p)))] (h) (zI fun r h' => r = orN (max (eoN S T Q (n 0) r1 p) (eoN S T Q (n 0) r2 (set &&& (63 ^^^ p)))) ∧ h' = h) := by
  refine Sp.of [some (.ref x), some (.int (nI p)), some (.int (nI (set &&& (63 ^^^ p)))), none, none] (by decide) (Nat.le_of_ble_eq_true rfl) rfl rfl ?_
  rintro X rfl hr rfl B
  show AW X 0 0 0 _ _ _ _
  obtain ⟨vS, vR, vC, vA, vE, vL, vT, vH⟩ := hc.v
  have e0 := vS.2.1
  have e1 := vR.2.1
  have e2 := vC.2.1
  have e3 := vA.2.1
  have e4 := vE.2.1
  have e5 := vL.2.1
  have e6 := vT.2
  have e8 := vH.1
  have b0 := vS.1
  have b1 := vR.1
  have b2' := vC.1
  have b3 := vA.1
  have b4 := vE.1
  have b5 := vL.1
  have b6 := vT.1
  have b8 := vH.2.1
  have O : only x (x + 54) h h := only.rf
  have h64 : set < 64 := Nat.lt_of_lt_of_le hset (Nat.pow_le_pow_right (n := 2) (by decide) b0)
  have k1 : okN (eoN S T Q (n 0) r1 p) := eoN_ok b0 (Nat.lt_of_le_of_lt (by rw [← hps]; exact Nat.and_le_right) hset)
  have k2 : okN (eoN S T Q (n 0) r2 (set &&& (63 ^^^ p))) := eoN_ok b0 (Nat.lt_of_le_of_lt Nat.and_le_left hset)
  refine aw_aload_n B 0 rfl dX11_bothDone_0 rfl ?_
  refine aw_get B f_X11_44 dX11_bothDone_1 hc.ox rfl ?_
  refine aw_iload_n B 1 rfl dX11_bothDone_4 rfl ?_
  refine aw_callV B 0 0 (x_hoursOf _ _ (x + 43) p hR1 b0 hset hp hps) co_X4_hoursOf k_X11_161 dX11_bothDone_5 hR1.o.choose_spec rfl rfl rfl rfl (Nat.le_of_ble_eq_true rfl) (zrm hr (by omega)) (Nat.le_refl _) (Nat.le_refl _) (kI fun r5 h5 hp5 => ?_)
  obtain ⟨rfl, eh5⟩ := hp5
  rw [eh5]
  refine aw_istore3 B dX11_bothDone_8 ?_
  refine aw_aload_n B 0 rfl dX11_bothDone_9 rfl ?_
  refine aw_get B f_X11_48 dX11_bothDone_10 hc.ox rfl ?_
  refine aw_iload_n B 2 rfl dX11_bothDone_13 rfl ?_
  refine aw_callV B 0 0 (x_hoursOf _ _ (x + 48) (set &&& (63 ^^^ p)) hR2 b0 hset (bit_4 set h64 p hp).2 (bt_2 set h64 p hp hps)) co_X4_hoursOf k_X11_161 dX11_bothDone_14 hR2.o.choose_spec rfl rfl rfl rfl (Nat.le_of_ble_eq_true rfl) (zrm hr (by omega)) (Nat.le_refl _) (Nat.le_refl _) (kI fun r14 h14 hp14 => ?_)
  obtain ⟨rfl, eh14⟩ := hp14
  rw [eh14]
  refine aw_istore4 B dX11_bothDone_17 ?_
  refine aw_iload_n B 3 rfl dX11_bothDone_19 rfl ?_
  refine aw_bipush B (-5) (by decide) dX11_bothDone_20 ?_
  refine aw_icmp_eq B 32 dX11_bothDone_22 (fun c22 => ?_) (fun c22 => ?_)
  · refine aw_bipush B (-5) (by decide) dX11_bothDone_32 ?_
    refine aw_goto B 43 dX11_bothDone_34 ?_
    refine aw_iret B rfl rfl dX11_bothDone_43 ?_
    exact ⟨_, rfl, ((orN_x k1 k2).1 (Or.inl c22)).symm, rfl⟩
  · refine aw_iload B dX11_bothDone_25 rfl ?_
    refine aw_bipush B (-5) (by decide) dX11_bothDone_27 ?_
    refine aw_icmp_ne B 37 dX11_bothDone_29 (fun c29 => ?_) (fun c29 => ?_)
    · refine aw_iload_n B 3 rfl dX11_bothDone_37 rfl ?_
      refine aw_iload B dX11_bothDone_38 rfl ?_
      refine aw_mmax B ma_X11_185 dX11_bothDone_40 (Nat.le_of_ble_eq_true rfl) (mR2 hr (by omega)) ?_
      refine aw_iret B rfl rfl dX11_bothDone_43 ?_
      exact ⟨_, rfl, (orN_x k1 k2).2.1 c22 c29, rfl⟩
    · refine aw_bipush B (-5) (by decide) dX11_bothDone_32 ?_
      refine aw_goto B 43 dX11_bothDone_34 ?_
      refine aw_iret B rfl rfl dX11_bothDone_43 ?_
      exact ⟨_, rfl, ((orN_x k1 k2).1 (Or.inr c29)).symm, rfl⟩
theorem dX11_two_0 : decode cX11_two 0 = .ok (.aload_n 0, 1) := by decide +kernel
theorem dX11_two_1 : decode cX11_two 1 = .ok (.getfield 12, 3) := by decide +kernel
theorem dX11_two_4 : decode cX11_two 4 = .ok (.iload_n 1, 1) := by decide +kernel
theorem dX11_two_5 : decode cX11_two 5 = .ok (.invokevirtual 118, 3) := by decide +kernel
theorem dX11_two_8 : decode cX11_two 8 = .ok (.astore 5, 2) := by decide +kernel
theorem dX11_two_10 : decode cX11_two 10 = .ok (.aload_n 0, 1) := by decide +kernel
theorem dX11_two_11 : decode cX11_two 11 = .ok (.getfield 12, 3) := by decide +kernel
theorem dX11_two_14 : decode cX11_two 14 = .ok (.iload_n 2, 1) := by decide +kernel
theorem dX11_two_15 : decode cX11_two 15 = .ok (.invokevirtual 118, 3) := by decide +kernel
theorem dX11_two_18 : decode cX11_two 18 = .ok (.astore 6, 2) := by decide +kernel
theorem dX11_two_20 : decode cX11_two 20 = .ok (.aload 5, 2) := by decide +kernel
theorem dX11_two_22 : decode cX11_two 22 = .ok (.ifnull 16, 3) := by decide +kernel
theorem dX11_two_25 : decode cX11_two 25 = .ok (.aload 6, 2) := by decide +kernel
theorem dX11_two_27 : decode cX11_two 27 = .ok (.ifnull 11, 3) := by decide +kernel
theorem dX11_two_30 : decode cX11_two 30 = .ok (.iload 4, 2) := by decide +kernel
theorem dX11_two_32 : decode cX11_two 32 = .ok (.invokestatic 96, 3) := by decide +kernel
theorem dX11_two_35 : decode cX11_two 35 = .ok (.ifCond .ne 5, 3) := by decide +kernel
theorem dX11_two_38 : decode cX11_two 38 = .ok (.iconst (-1), 1) := by decide +kernel
theorem dX11_two_39 : decode cX11_two 39 = .ok (.ireturn, 1) := by decide +kernel
theorem dX11_two_40 : decode cX11_two 40 = .ok (.iload_n 1, 1) := by decide +kernel
theorem dX11_two_41 : decode cX11_two 41 = .ok (.iload_n 2, 1) := by decide +kernel
theorem dX11_two_42 : decode cX11_two 42 = .ok (.if_icmp .eq 11, 3) := by decide +kernel
theorem dX11_two_45 : decode cX11_two 45 = .ok (.aload_n 0, 1) := by decide +kernel
theorem dX11_two_46 : decode cX11_two 46 = .ok (.iload_n 3, 1) := by decide +kernel
theorem dX11_two_47 : decode cX11_two 47 = .ok (.invokevirtual 150, 3) := by decide +kernel
theorem dX11_two_50 : decode cX11_two 50 = .ok (.ifCond .ne 6, 3) := by decide +kernel
theorem dX11_two_53 : decode cX11_two 53 = .ok (.bipush (-2), 2) := by decide +kernel
theorem dX11_two_55 : decode cX11_two 55 = .ok (.ireturn, 1) := by decide +kernel
theorem dX11_two_56 : decode cX11_two 56 = .ok (.aload_n 0, 1) := by decide +kernel
theorem dX11_two_57 : decode cX11_two 57 = .ok (.getfield 44, 3) := by decide +kernel
theorem dX11_two_60 : decode cX11_two 60 = .ok (.aload_n 0, 1) := by decide +kernel
theorem dX11_two_61 : decode cX11_two 61 = .ok (.getfield 12, 3) := by decide +kernel
theorem dX11_two_64 : decode cX11_two 64 = .ok (.aload 5, 2) := by decide +kernel
theorem dX11_two_66 : decode cX11_two 66 = .ok (.iload_n 3, 1) := by decide +kernel
theorem dX11_two_67 : decode cX11_two 67 = .ok (.invokevirtual 153, 3) := by decide +kernel
theorem dX11_two_70 : decode cX11_two 70 = .ok (.aload_n 0, 1) := by decide +kernel
theorem dX11_two_71 : decode cX11_two 71 = .ok (.getfield 44, 3) := by decide +kernel
theorem dX11_two_74 : decode cX11_two 74 = .ok (.iconst 0, 1) := by decide +kernel
theorem dX11_two_75 : decode cX11_two 75 = .ok (.iconst 0, 1) := by decide +kernel
theorem dX11_two_76 : decode cX11_two 76 = .ok (.iconst 0, 1) := by decide +kernel
theorem dX11_two_77 : decode cX11_two 77 = .ok (.invokestatic 157, 3) := by decide +kernel
theorem dX11_two_80 : decode cX11_two 80 = .ok (.aload_n 0, 1) := by decide +kernel
theorem dX11_two_81 : decode cX11_two 81 = .ok (.getfield 48, 3) := by decide +kernel
theorem dX11_two_84 : decode cX11_two 84 = .ok (.aload_n 0, 1) := by decide +kernel
theorem dX11_two_85 : decode cX11_two 85 = .ok (.getfield 12, 3) := by decide +kernel
theorem dX11_two_88 : decode cX11_two 88 = .ok (.aload 6, 2) := by decide +kernel
theorem dX11_two_90 : decode cX11_two 90 = .ok (.iload_n 3, 1) := by decide +kernel
theorem dX11_two_91 : decode cX11_two 91 = .ok (.invokevirtual 153, 3) := by decide +kernel
theorem dX11_two_94 : decode cX11_two 94 = .ok (.aload_n 0, 1) := by decide +kernel
theorem dX11_two_95 : decode cX11_two 95 = .ok (.getfield 48, 3) := by decide +kernel
theorem dX11_two_98 : decode cX11_two 98 = .ok (.iconst 0, 1) := by decide +kernel
theorem dX11_two_99 : decode cX11_two 99 = .ok (.iconst 0, 1) := by decide +kernel
theorem dX11_two_100 : decode cX11_two 100 = .ok (.iconst 0, 1) := by decide +kernel
theorem dX11_two_101 : decode cX11_two 101 = .ok (.invokestatic 157, 3) := by decide +kernel
theorem dX11_two_104 : decode cX11_two 104 = .ok (.bipush (-5), 2) := by decide +kernel
theorem dX11_two_106 : decode cX11_two 106 = .ok (.istore 7, 2) := by decide +kernel
theorem dX11_two_108 : decode cX11_two 108 = .ok (.bipush (-5), 2) := by decide +kernel
theorem dX11_two_110 : decode cX11_two 110 = .ok (.istore 8, 2) := by decide +kernel
theorem dX11_two_112 : decode cX11_two 112 = .ok (.iconst 0, 1) := by decide +kernel
theorem dX11_two_113 : decode cX11_two 113 = .ok (.istore 9, 2) := by decide +kernel
theorem dX11_two_115 : decode cX11_two 115 = .ok (.iload 9, 2) := by decide +kernel
theorem dX11_two_117 : decode cX11_two 117 = .ok (.iload_n 3, 1) := by decide +kernel
theorem dX11_two_118 : decode cX11_two 118 = .ok (.if_icmp .gt 66, 3) := by decide +kernel
theorem dX11_two_121 : decode cX11_two 121 = .ok (.iload 9, 2) := by decide +kernel
theorem dX11_two_123 : decode cX11_two 123 = .ok (.iload_n 3, 1) := by decide +kernel
theorem dX11_two_124 : decode cX11_two 124 = .ok (.iconst (-1), 1) := by decide +kernel
theorem dX11_two_125 : decode cX11_two 125 = .ok (.ixor, 1) := by decide +kernel
theorem dX11_two_126 : decode cX11_two 126 = .ok (.iand, 1) := by decide +kernel
theorem dX11_two_127 : decode cX11_two 127 = .ok (.ifCond .eq 8, 3) := by decide +kernel
theorem dX11_two_130 : decode cX11_two 130 = .ok (.bipush (-5), 2) := by decide +kernel
theorem dX11_two_132 : decode cX11_two 132 = .ok (.goto 15, 3) := by decide +kernel
theorem dX11_two_135 : decode cX11_two 135 = .ok (.aload_n 0, 1) := by decide +kernel
theorem dX11_two_136 : decode cX11_two 136 = .ok (.iload 9, 2) := by decide +kernel
theorem dX11_two_138 : decode cX11_two 138 = .ok (.iload_n 3, 1) := by decide +kernel
theorem dX11_two_139 : decode cX11_two 139 = .ok (.iload 9, 2) := by decide +kernel
theorem dX11_two_141 : decode cX11_two 141 = .ok (.iconst (-1), 1) := by decide +kernel
theorem dX11_two_142 : decode cX11_two 142 = .ok (.ixor, 1) := by decide +kernel
theorem dX11_two_143 : decode cX11_two 143 = .ok (.iand, 1) := by decide +kernel
theorem dX11_two_144 : decode cX11_two 144 = .ok (.invokevirtual 167, 3) := by decide +kernel
theorem dX11_two_147 : decode cX11_two 147 = .ok (.istore 10, 2) := by decide +kernel
theorem dX11_two_149 : decode cX11_two 149 = .ok (.iload 10, 2) := by decide +kernel
theorem dX11_two_151 : decode cX11_two 151 = .ok (.bipush (-5), 2) := by decide +kernel
theorem dX11_two_153 : decode cX11_two 153 = .ok (.if_icmp .eq 25, 3) := by decide +kernel
theorem dX11_two_156 : decode cX11_two 156 = .ok (.iload 7, 2) := by decide +kernel
theorem dX11_two_158 : decode cX11_two 158 = .ok (.bipush (-5), 2) := by decide +kernel
theorem dX11_two_160 : decode cX11_two 160 = .ok (.if_icmp .eq 10, 3) := by decide +kernel
theorem dX11_two_163 : decode cX11_two 163 = .ok (.iload 10, 2) := by decide +kernel
theorem dX11_two_165 : decode cX11_two 165 = .ok (.iload 7, 2) := by decide +kernel
theorem dX11_two_167 : decode cX11_two 167 = .ok (.if_icmp .ge 11, 3) := by decide +kernel
theorem dX11_two_170 : decode cX11_two 170 = .ok (.iload 10, 2) := by decide +kernel
theorem dX11_two_172 : decode cX11_two 172 = .ok (.istore 7, 2) := by decide +kernel
theorem dX11_two_174 : decode cX11_two 174 = .ok (.iload 9, 2) := by decide +kernel
theorem dX11_two_176 : decode cX11_two 176 = .ok (.istore 8, 2) := by decide +kernel
theorem dX11_two_178 : decode cX11_two 178 = .ok (.iinc 9 1, 3) := by decide +kernel
theorem dX11_two_181 : decode cX11_two 181 = .ok (.goto (-66), 3) := by decide +kernel
theorem dX11_two_184 : decode cX11_two 184 = .ok (.iload 4, 2) := by decide +kernel
theorem dX11_two_186 : decode cX11_two 186 = .ok (.ifCond .ne 8, 3) := by decide +kernel
theorem dX11_two_189 : decode cX11_two 189 = .ok (.iload 7, 2) := by decide +kernel
theorem dX11_two_191 : decode cX11_two 191 = .ok (.goto 5, 3) := by decide +kernel
theorem dX11_two_194 : decode cX11_two 194 = .ok (.iload 8, 2) := by decide +kernel
theorem dX11_two_196 : decode cX11_two 196 = .ok (.ireturn, 1) := by decide +kernel
set_option maxRecDepth 100000 in
set_option maxHeartbeats 4000000 in
theorem x_two (l : Launch) (g : zG) {h : Hp} {x ca cs N T T2 tn : Nat} {S S2 Bt : Nat → Int32} {Q Q2 : pP} {n n2 : Nat → Nat} {im : Int32} (i i2 z w : Int32) (hc : cH g h x ca cs N S T Q n S2 T2 Q2 n2 im Bt tn) (hN : N ≤ 2 ^ 19) : Sp l g yX11_two cX11_two 11 (some .int) (rmz 16) [.ref x, .int i, .int i2, .int z, .int w] (h) (zI fun r h' => r = q_two S T Q (n 0) i i2 z w ∧ cH g h' x ca cs (N + 4) S T Q n S2 T2 Q2 n2 im Bt tn ∧ only x (x + 54) h h') := by
  refine Sp.of [some (.ref x), some (.int i), some (.int i2), some (.int z), some (.int w), none, none, none, none, none, none] (by decide) (Nat.le_of_ble_eq_true rfl) rfl rfl ?_
  rintro X rfl hr rfl B
  show AW X 0 0 0 _ _ _ _
  obtain ⟨vS, vR, vC, vA, vE, vL, vT, vH⟩ := hc.v
  have e0 := vS.2.1
  have e1 := vR.2.1
  have e2 := vC.2.1
  have e3 := vA.2.1
  have e4 := vE.2.1
  have e5 := vL.2.1
  have e6 := vT.2
  have e8 := vH.1
  have b0 := vS.1
  have b1 := vR.1
  have b2' := vC.1
  have b3 := vA.1
  have b4 := vE.1
  have b5 := vL.1
  have b6 := vT.1
  have b8 := vH.2.1
  have O : only x (x + 54) h h := only.rf
  refine aw_aload_n B 0 rfl dX11_two_0 rfl ?_
  refine aw_get B f_X11_12 dX11_two_1 hc.ox rfl ?_
  refine aw_iload_n B 1 rfl dX11_two_4 rfl ?_
  refine aw_callV B 0 0 (x_readerAt _ _ i hc) co_X9_readerAt k_X11_118 dX11_two_5 hc.s rfl rfl rfl rfl (Nat.le_of_ble_eq_true rfl) (zrm hr (by omega)) (Nat.le_refl _) (Nat.le_refl _) (kO fun r5 h5 hp5 => ?_)
  obtain ⟨eh5, hv5⟩ := hp5
  rw [eh5]
  by_cases hA5 : 0 ≤ i ∧ i ≤ S 1 - 1
  · rw [if_pos hA5] at hv5
    obtain ⟨a, q, k, v, rfl, Ra⟩ := hv5
    refine aw_astore5 B dX11_two_8 ?_
    refine aw_aload_n B 0 rfl dX11_two_10 rfl ?_
    refine aw_get B f_X11_12 dX11_two_11 hc.ox rfl ?_
    refine aw_iload_n B 2 rfl dX11_two_14 rfl ?_
    refine aw_callV B 0 0 (x_readerAt _ _ i2 hc) co_X9_readerAt k_X11_118 dX11_two_15 hc.s rfl rfl rfl rfl (Nat.le_of_ble_eq_true rfl) (zrm hr (by omega)) (Nat.le_refl _) (Nat.le_refl _) (kO fun r15 h15 hp15 => ?_)
    obtain ⟨eh15, hv15⟩ := hp15
    rw [eh15]
    by_cases hA15 : 0 ≤ i2 ∧ i2 ≤ S 1 - 1
    · rw [if_pos hA15] at hv15
      obtain ⟨ab, qb, kb, vb, rfl, Rab⟩ := hv15
      refine aw_astore6 B dX11_two_18 ?_
      refine aw_aload B dX11_two_20 rfl ?_
      refine aw_ifnull B dX11_two_22 ?_
      refine aw_aload B dX11_two_25 rfl ?_
      refine aw_ifnull B dX11_two_27 ?_
      refine aw_iload B dX11_two_30 rfl ?_
      refine aw_callS B 0 0 (x_isWhat _ _ _ w) co_X11_isWhat k_X11_96 dX11_two_32 rfl rfl (Nat.le_of_ble_eq_true rfl) (zrm hr (by omega)) (Nat.le_refl _) (Nat.le_refl _) (kI fun r32 h32 hp32 => ?_)
      obtain ⟨rfl, eh32⟩ := hp32
      rw [eh32]
      refine aw_if_ne B 40 dX11_two_35 (fun c35 => ?_) (fun c35 => ?_)
      · refine aw_iload_n B 1 rfl dX11_two_40 rfl ?_
        refine aw_iload_n B 2 rfl dX11_two_41 rfl ?_
        refine aw_icmp_eq B 53 dX11_two_42 (fun c42 => ?_) (fun c42 => ?_)
        · refine aw_bipush B (-2) (by decide) dX11_two_53 ?_
          refine aw_iret B rfl rfl dX11_two_55 ?_
          exact ⟨_, rfl, by unfold q_two; rw [if_neg (by rw [bI_t hA5]; decide), if_neg (by rw [bI_t hA15]; decide), if_neg c35, if_pos c42], hc.up (by omega), O⟩
        · refine aw_aload_n B 0 rfl dX11_two_45 rfl ?_
          refine aw_iload_n B 3 rfl dX11_two_46 rfl ?_
          refine aw_callV B 0 0 (x_isSet _ _ z hc) co_X11_isSet k_X11_150 dX11_two_47 hc.ox rfl rfl rfl rfl (Nat.le_of_ble_eq_true rfl) (zrm hr (by omega)) (Nat.le_refl _) (Nat.le_refl _) (kI fun r47 h47 hp47 => ?_)
          obtain ⟨rfl, eh47⟩ := hp47
          rw [eh47]
          refine aw_if_ne B 56 dX11_two_50 (fun c50 => ?_) (fun c50 => ?_)
          · rw [e0] at c50
            obtain ⟨set, hset, rfl⟩ := in_set b0 (bI_n c50)
            rw [← e0] at c50
            have h64 : set < 64 := Nat.lt_of_lt_of_le hset (Nat.pow_le_pow_right (n := 2) (by decide) b0)
            refine aw_aload_n B 0 rfl dX11_two_56 rfl ?_
            refine aw_get B f_X11_44 dX11_two_57 hc.ox rfl ?_
            refine aw_aload_n B 0 rfl dX11_two_60 rfl ?_
            refine aw_get B f_X11_12 dX11_two_61 hc.ox rfl ?_
            refine aw_aload B dX11_two_64 rfl ?_
            refine aw_iload_n B 3 rfl dX11_two_66 rfl ?_
            refine aw_callV B 0 0 (x_begin _ _ (x + 43) a set hc (Or.inl rfl)) co_X4_begin k_X11_153 dX11_two_67 hc.2.2.2.2.2.2.1.o.choose_spec rfl rfl rfl rfl (Nat.le_of_ble_eq_true rfl) (zrm hr (by omega)) (Nat.le_refl _) (Nat.le_refl _) (kV fun h67 hp67 => ?_)
            obtain ⟨o67, hc, ask67, hask67, hB⟩ := hp67
            have O := O.tr (o67.wide (lo' := x) (hi' := x + 54) (by omega) (by omega))
            have Ra := Ra.o o67 (by omega)
            have Rab := Rab.o o67 (by omega)
            refine aw_aload_n B 0 rfl dX11_two_70 rfl ?_
            refine aw_get B f_X11_44 dX11_two_71 hc.ox rfl ?_
            refine aw_iconst B 0 (by decide) dX11_two_74 ?_
            refine aw_iconst B 0 (by decide) dX11_two_75 ?_
            refine aw_iconst B 0 (by decide) dX11_two_76 ?_
            refine aw_callSN B 0 0 (x_goOn _ _ (x + 43) a set ask67 hc (Or.inl rfl) Ra hB hask67 (by omega) hset) co_X4_goOn k_X11_157 dX11_two_77 rfl rfl (Nat.le_of_ble_eq_true rfl) (zrm hr (by omega)) (Nat.le_refl _) (Nat.le_refl _) (kV fun h77 hp77 => ?_)
            obtain ⟨o77, hc, hR1⟩ := hp77
            have O := O.tr (o2_x hc.d (Or.inl rfl) o77)
            have Ra := Ra.o (o2_x hc.d (Or.inl rfl) o77) (by omega)
            have Rab := Rab.o (o2_x hc.d (Or.inl rfl) o77) (by omega)
            refine aw_aload_n B 0 rfl dX11_two_80 rfl ?_
            refine aw_get B f_X11_48 dX11_two_81 hc.ox rfl ?_
            refine aw_aload_n B 0 rfl dX11_two_84 rfl ?_
            refine aw_get B f_X11_12 dX11_two_85 hc.ox rfl ?_
            refine aw_aload B dX11_two_88 rfl ?_
            refine aw_iload_n B 3 rfl dX11_two_90 rfl ?_
            refine aw_callV B 0 0 (x_begin _ _ (x + 48) ab set hc (Or.inr rfl)) co_X4_begin k_X11_153 dX11_two_91 hc.2.2.2.2.2.2.2.1.o.choose_spec rfl rfl rfl rfl (Nat.le_of_ble_eq_true rfl) (zrm hr (by omega)) (Nat.le_refl _) (Nat.le_refl _) (kV fun h91 hp91 => ?_)
            obtain ⟨o91, hc, ask91, hask91, hB⟩ := hp91
            have O := O.tr (o91.wide (lo' := x) (hi' := x + 54) (by omega) (by omega))
            have Ra := Ra.o o91 (by omega)
            have Rab := Rab.o o91 (by omega)
            have hR1 := hR1.fr (fun a ha => o91.2 a (by omega))
            refine aw_aload_n B 0 rfl dX11_two_94 rfl ?_
            refine aw_get B f_X11_48 dX11_two_95 hc.ox rfl ?_
            refine aw_iconst B 0 (by decide) dX11_two_98 ?_
            refine aw_iconst B 0 (by decide) dX11_two_99 ?_
            refine aw_iconst B 0 (by decide) dX11_two_100 ?_
            refine aw_callSN B 0 0 (x_goOn _ _ (x + 48) ab set ask91 hc (Or.inr rfl) Rab hB hask91 (by omega) hset) co_X4_goOn k_X11_157 dX11_two_101 rfl rfl (Nat.le_of_ble_eq_true rfl) (zrm hr (by omega)) (Nat.le_refl _) (Nat.le_refl _) (kV fun h101 hp101 => ?_)
            obtain ⟨o101, hc, hR2⟩ := hp101
            have O := O.tr (o2_x hc.d (Or.inr rfl) o101)
            have Ra := Ra.o (o2_x hc.d (Or.inr rfl) o101) (by omega)
            have Rab := Rab.o (o2_x hc.d (Or.inr rfl) o101) (by omega)
            have hdd := hc.d
            have hR1 := hR1.fr (fun a ha => o101.2 a (by omega) (by omega))
            refine aw_bipush B (-5) (by decide) dX11_two_104 ?_
            refine aw_istore7 B dX11_two_106 ?_
            refine aw_bipush B (-5) (by decide) dX11_two_108 ?_
            refine aw_istore8 B dX11_two_110 ?_
            refine aw_iconst B 0 (by decide) dX11_two_112 ?_
            refine aw_istore9 B dX11_two_113 ?_
            have R1 := Ra.1
            have R2 := Rab.1
            have hqk := Ra.2.1
            have hqb := Rab.2.1
            have lp : ∀ (fu p : Nat) (o10 : Option Value), fu + p = set + 1 → AW X 0 0 115 [some (.ref x), some (.int i), some (.int i2), some (.int (nI set)), some (.int w), some (.ref a), some (.ref ab), some (.int (orN (twF S T Q (n 0) q qb set p).2)), some (.int (twF S T Q (n 0) q qb set p).1), some (.int (nI p)), o10] [] h101 (zI fun r h' => r = q_two S T Q (n 0) i i2 (nI set) w ∧ cH (zXg X) h' x ca cs (N + 4) S T Q n S2 T2 Q2 n2 im Bt tn ∧ only x (x + 54) h h') := by
              intro fu
              induction fu with
              | zero =>
                intro p o10 hb
                obtain rfl : p = set + 1 := by omega
                refine aw_iload B dX11_two_115 rfl ?_
                refine aw_iload_n B 3 rfl dX11_two_117 rfl ?_
                refine aw_icmp_gt B 184 dX11_two_118 (fun c118 => ?_) (fun c118 => absurd (show nI set < nI (set + 1) from nI_lt (by omega) (by omega)) c118)
                refine aw_iload B dX11_two_184 rfl ?_
                refine aw_if_ne B 194 dX11_two_186 (fun c186 => ?_) (fun c186 => ?_)
                · refine aw_iload B dX11_two_194 rfl ?_
                  refine aw_iret B rfl rfl dX11_two_196 ?_
                  exact ⟨_, rfl, by unfold q_two; rw [if_neg (by rw [bI_t hA5]; decide), if_neg (by rw [bI_t hA15]; decide), if_neg c35, if_neg c42, if_neg c50, if_neg c186, R1, R2, kN_nI (by omega), kN_nI (by omega), kN_nI (by omega)], hc.up (by omega), O⟩
                · refine aw_iload B dX11_two_189 rfl ?_
                  refine aw_goto B 196 dX11_two_191 ?_
                  refine aw_iret B rfl rfl dX11_two_196 ?_
                  exact ⟨_, rfl, by unfold q_two; rw [if_neg (by rw [bI_t hA5]; decide), if_neg (by rw [bI_t hA15]; decide), if_neg c35, if_neg c42, if_neg c50, if_pos c186, R1, R2, kN_nI (by omega), kN_nI (by omega), kN_nI (by omega)], hc.up (by omega), O⟩
              | succ fu ih =>
                intro p o10 hb
                have hp64 : p < 64 := by omega
                have okl := twF_ok (S := S) (T := T) (Q := Q) (r1 := q) (r2 := qb) b0 hset p (by omega)
                refine aw_iload B dX11_two_115 rfl ?_
                refine aw_iload_n B 3 rfl dX11_two_117 rfl ?_
                refine aw_icmp_gt B 184 dX11_two_118 (fun c118 => absurd ((nI_ltI (by omega) (by omega)).mp c118) (by omega)) (fun c118 => ?_)
                refine aw_iload B dX11_two_121 rfl ?_
                refine aw_iload_n B 3 rfl dX11_two_123 rfl ?_
                refine aw_iconst B (-1) (by decide) dX11_two_124 ?_
                refine aw_ixor B dX11_two_125 ?_
                refine aw_iand B dX11_two_126 ?_
                refine aw_if_eq B 135 dX11_two_127 (fun c127 => ?_) (fun c127 => ?_)
                · have hps : p &&& set = p := (bt_3 set h64 p hp64).mp c127
                  have okm : okN (max (eoN S T Q (n 0) q p) (eoN S T Q (n 0) qb (set &&& (63 ^^^ p)))) := (orN_x (eoN_ok b0 (Nat.lt_of_le_of_lt (by rw [← hps]; exact Nat.and_le_right) hset)) (eoN_ok b0 (Nat.lt_of_le_of_lt Nat.and_le_left hset))).2.2
                  refine aw_aload_n B 0 rfl dX11_two_135 rfl ?_
                  refine aw_iload B dX11_two_136 rfl ?_
                  refine aw_iload_n B 3 rfl dX11_two_138 rfl ?_
                  refine aw_iload B dX11_two_139 rfl ?_
                  refine aw_iconst B (-1) (by decide) dX11_two_141 ?_
                  refine aw_ixor B dX11_two_142 ?_
                  refine aw_iand B dX11_two_143 ?_
                  rw [(bit_4 set h64 p hp64).1]
                  refine aw_callV B 0 0 (x_both _ _ p set _ _ _ _ _ _ hc hR1 hR2 hset hp64 hps) co_X11_bothDone k_X11_167 dX11_two_144 hc.ox rfl rfl rfl rfl (Nat.le_of_ble_eq_true rfl) (zrm hr (by omega)) (Nat.le_refl _) (Nat.le_refl _) (kI fun r144 h144 hp144 => ?_)
                  obtain ⟨rfl, eh144⟩ := hp144
                  rw [eh144]
                  refine aw_istore10 B dX11_two_147 ?_
                  refine aw_iload B dX11_two_149 rfl ?_
                  refine aw_bipush B (-5) (by decide) dX11_two_151 ?_
                  refine aw_icmp_eq B 178 dX11_two_153 (fun c153 => ?_) (fun c153 => ?_)
                  · refine aw_iinc9 B 1 (by decide) dX11_two_178 ?_
                    refine aw_goto B 115 dX11_two_181 ?_
                    rw [nI_1]
                    have h9 := ih (p + 1) (some (.int (orN (max (eoN S T Q (n 0) q p) (eoN S T Q (n 0) qb (set &&& (63 ^^^ p))))))) (by omega)
                    rw [twF, if_pos hps, if_neg ((tw_lt okm okl).1 c153)] at h9
                    exact h9
                  · refine aw_iload B dX11_two_156 rfl ?_
                    refine aw_bipush B (-5) (by decide) dX11_two_158 ?_
                    refine aw_icmp_eq B 170 dX11_two_160 (fun c160 => ?_) (fun c160 => ?_)
                    · refine aw_iload B dX11_two_170 rfl ?_
                      refine aw_istore7 B dX11_two_172 ?_
                      refine aw_iload B dX11_two_174 rfl ?_
                      refine aw_istore8 B dX11_two_176 ?_
                      refine aw_iinc9 B 1 (by decide) dX11_two_178 ?_
                      refine aw_goto B 115 dX11_two_181 ?_
                      rw [nI_1]
                      have h9 := ih (p + 1) (some (.int (orN (max (eoN S T Q (n 0) q p) (eoN S T Q (n 0) qb (set &&& (63 ^^^ p))))))) (by omega)
                      rw [twF, if_pos hps, if_pos ((tw_lt okm okl).2.1 c153 c160)] at h9
                      exact h9
                    · refine aw_iload B dX11_two_163 rfl ?_
                      refine aw_iload B dX11_two_165 rfl ?_
                      refine aw_icmp_ge B 178 dX11_two_167 (fun c167 => ?_) (fun c167 => ?_)
                      · refine aw_iinc9 B 1 (by decide) dX11_two_178 ?_
                        refine aw_goto B 115 dX11_two_181 ?_
                        rw [nI_1]
                        have h9 := ih (p + 1) (some (.int (orN (max (eoN S T Q (n 0) q p) (eoN S T Q (n 0) qb (set &&& (63 ^^^ p))))))) (by omega)
                        rw [twF, if_pos hps, if_neg (((tw_lt okm okl).2.2 c153 c160).mp c167)] at h9
                        exact h9
                      · refine aw_iload B dX11_two_170 rfl ?_
                        refine aw_istore7 B dX11_two_172 ?_
                        refine aw_iload B dX11_two_174 rfl ?_
                        refine aw_istore8 B dX11_two_176 ?_
                        refine aw_iinc9 B 1 (by decide) dX11_two_178 ?_
                        refine aw_goto B 115 dX11_two_181 ?_
                        rw [nI_1]
                        have h9 := ih (p + 1) (some (.int (orN (max (eoN S T Q (n 0) q p) (eoN S T Q (n 0) qb (set &&& (63 ^^^ p))))))) (by omega)
                        rw [twF, if_pos hps, if_pos (Decidable.not_not.mp (fun y => c167 (((tw_lt okm okl).2.2 c153 c160).mpr y)))] at h9
                        exact h9
                · refine aw_bipush B (-5) (by decide) dX11_two_130 ?_
                  refine aw_goto B 147 dX11_two_132 ?_
                  refine aw_istore10 B dX11_two_147 ?_
                  refine aw_iload B dX11_two_149 rfl ?_
                  refine aw_bipush B (-5) (by decide) dX11_two_151 ?_
                  refine aw_icmp_eq B 178 dX11_two_153 (fun c153 => ?_) (fun c153 => absurd rfl c153)
                  refine aw_iinc9 B 1 (by decide) dX11_two_178 ?_
                  refine aw_goto B 115 dX11_two_181 ?_
                  rw [nI_1]
                  have h9 := ih (p + 1) (some (.int (-5))) (by omega)
                  rw [twF, if_neg (fun y => c127 ((bt_3 set h64 p hp64).mpr y))] at h9
                  exact h9
            have h0 := lp (set + 1) 0 none (by omega)
            rw [show orN (twF S T Q (n 0) q qb set 0).2 = -5 from (by rw [twF]; decide), show (twF S T Q (n 0) q qb set 0).1 = -5 from (by rw [twF])] at h0
            exact h0
          · refine aw_bipush B (-2) (by decide) dX11_two_53 ?_
            refine aw_iret B rfl rfl dX11_two_55 ?_
            exact ⟨_, rfl, by unfold q_two; rw [if_neg (by rw [bI_t hA5]; decide), if_neg (by rw [bI_t hA15]; decide), if_neg c35, if_neg c42, if_pos c50], hc.up (by omega), O⟩
      · refine aw_iconst B (-1) (by decide) dX11_two_38 ?_
        refine aw_iret B rfl rfl dX11_two_39 ?_
        exact ⟨_, rfl, by unfold q_two; rw [if_neg (by rw [bI_t hA5]; decide), if_neg (by rw [bI_t hA15]; decide), if_pos c35], hc.up (by omega), O⟩
    · rw [if_neg hA15] at hv15
      obtain rfl := hv15
      refine aw_astoreN B dX11_two_18 (by decide) rfl ?_
      refine aw_aload B dX11_two_20 rfl ?_
      refine aw_ifnull B dX11_two_22 ?_
      refine aw_aloadN B dX11_two_25 rfl ?_
      refine aw_ifnullN B 38 dX11_two_27 ?_
      refine aw_iconst B (-1) (by decide) dX11_two_38 ?_
      refine aw_iret B rfl rfl dX11_two_39 ?_
      exact ⟨_, rfl, by unfold q_two; rw [if_neg (by rw [bI_t hA5]; decide), bI_f hA15, if_pos rfl], hc.up (by omega), O⟩
  · rw [if_neg hA5] at hv5
    obtain rfl := hv5
    refine aw_astoreN B dX11_two_8 (by decide) rfl ?_
    refine aw_aload_n B 0 rfl dX11_two_10 rfl ?_
    refine aw_get B f_X11_12 dX11_two_11 hc.ox rfl ?_
    refine aw_iload_n B 2 rfl dX11_two_14 rfl ?_
    refine aw_callV B 0 0 (x_readerAt _ _ i2 hc) co_X9_readerAt k_X11_118 dX11_two_15 hc.s rfl rfl rfl rfl (Nat.le_of_ble_eq_true rfl) (zrm hr (by omega)) (Nat.le_refl _) (Nat.le_refl _) (kO fun r15 h15 hp15 => ?_)
    obtain ⟨eh15, hv15⟩ := hp15
    rw [eh15]
    by_cases hA15 : 0 ≤ i2 ∧ i2 ≤ S 1 - 1
    · rw [if_pos hA15] at hv15
      obtain ⟨ab, qb, kb, vb, rfl, Rab⟩ := hv15
      refine aw_astore6 B dX11_two_18 ?_
      refine aw_aloadN B dX11_two_20 rfl ?_
      refine aw_ifnullN B 38 dX11_two_22 ?_
      refine aw_iconst B (-1) (by decide) dX11_two_38 ?_
      refine aw_iret B rfl rfl dX11_two_39 ?_
      exact ⟨_, rfl, by unfold q_two; rw [bI_f hA5, if_pos rfl], hc.up (by omega), O⟩
    · rw [if_neg hA15] at hv15
      obtain rfl := hv15
      refine aw_astoreN B dX11_two_18 (by decide) rfl ?_
      refine aw_aloadN B dX11_two_20 rfl ?_
      refine aw_ifnullN B 38 dX11_two_22 ?_
      refine aw_iconst B (-1) (by decide) dX11_two_38 ?_
      refine aw_iret B rfl rfl dX11_two_39 ?_
      exact ⟨_, rfl, by unfold q_two; rw [bI_f hA5, if_pos rfl], hc.up (by omega), O⟩
