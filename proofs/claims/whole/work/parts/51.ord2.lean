set_option maxRecDepth 100000 in
set_option maxHeartbeats 4000000 in
theorem vc_X4_89 {X : zX} {cc : ByteArray} {nL pc : Nat} {nm : String} {ret : Option FieldType} {lv : List (Option Value)} {rest : List Value} {h : Hp} {Ko : Option Value → Hp → Prop} (B : zB X cc nL "LowWater$Orders" nm ret) {d k : Nat} {a v w sh n T a0 : Nat} {num : Int32} {Q : pP} (hr : zXr X = rmz d) (hdp : 6 ≤ d) (hk : k ≤ 6) (hv : v ≤ 9) (hR : h.2 a = some (.inr (kc k, [.int num, .int (nI v)]))) (hsh : sh ≤ 8) (h1 : 1 ≤ n) (h4 : n ≤ 4) (hT : T + a0 ≤ 20000) (ha : ¬ (w ≤ a ∧ a < w + 4)) (hC : caveI (zXg X) h w Q) (hd : decode cc pc = .ok (.invokevirtual 89, 3)) (hw : (rest.map fun v => v.category).sum ≤ 8) (kk : ∀ h', caveI (zXg X) h' w Q → only w (w + 4) h h' → AW X 0 0 (pc + 3) lv (.int (orN (sF T Q k v sh (p_needs k v n) a0)) :: rest) h' Ko) : AW X 0 0 pc lv (.int (nI (T + a0)) :: .int (nI n) :: .int (nI sh) :: .ref w :: .ref a :: rest) (h) Ko := by
  rcases (show k = 0 ∨ k = 1 ∨ k = 2 ∨ k = 3 ∨ k = 4 ∨ k = 5 ∨ k = 6 by omega) with rfl | rfl | rfl | rfl | rfl | rfl | rfl
  · refine aw_callU B 0 0 (s_soonest _ _ h a w 0 v sh n T a0 num Q hk hv hsh h1 h4 hT hR ha hC) co_X6_soonest ku_X4_89_X6 hd hR rfl rfl rfl rfl hw (zrm hr (by omega)) (Nat.le_refl _) (Nat.le_refl _) (kI fun r9 h9 hp => ?_)
    obtain ⟨rfl, C9, O9⟩ := hp
    exact kk h9 C9 O9
  · refine aw_callU B 0 0 (s_soonest _ _ h a w 1 v sh n T a0 num Q hk hv hsh h1 h4 hT hR ha hC) co_X6_soonest ku_X4_89_X3 hd hR rfl rfl rfl rfl hw (zrm hr (by omega)) (Nat.le_refl _) (Nat.le_refl _) (kI fun r9 h9 hp => ?_)
    obtain ⟨rfl, C9, O9⟩ := hp
    exact kk h9 C9 O9
  · refine aw_callU B 0 0 (s_soonest _ _ h a w 2 v sh n T a0 num Q hk hv hsh h1 h4 hT hR ha hC) co_X6_soonest ku_X4_89_X2 hd hR rfl rfl rfl rfl hw (zrm hr (by omega)) (Nat.le_refl _) (Nat.le_refl _) (kI fun r9 h9 hp => ?_)
    obtain ⟨rfl, C9, O9⟩ := hp
    exact kk h9 C9 O9
  · refine aw_callU B 0 0 (s_soonest _ _ h a w 3 v sh n T a0 num Q hk hv hsh h1 h4 hT hR ha hC) co_X6_soonest ku_X4_89_X8 hd hR rfl rfl rfl rfl hw (zrm hr (by omega)) (Nat.le_refl _) (Nat.le_refl _) (kI fun r9 h9 hp => ?_)
    obtain ⟨rfl, C9, O9⟩ := hp
    exact kk h9 C9 O9
  · refine aw_callU B 0 0 (s_soonest _ _ h a w 4 v sh n T a0 num Q hk hv hsh h1 h4 hT hR ha hC) co_X6_soonest ku_X4_89_X5 hd hR rfl rfl rfl rfl hw (zrm hr (by omega)) (Nat.le_refl _) (Nat.le_refl _) (kI fun r9 h9 hp => ?_)
    obtain ⟨rfl, C9, O9⟩ := hp
    exact kk h9 C9 O9
  · refine aw_callU B 0 0 (s_soonest _ _ h a w 5 v sh n T a0 num Q hk hv hsh h1 h4 hT hR ha hC) co_X6_soonest ku_X4_89_X0 hd hR rfl rfl rfl rfl hw (zrm hr (by omega)) (Nat.le_refl _) (Nat.le_refl _) (kI fun r9 h9 hp => ?_)
    obtain ⟨rfl, C9, O9⟩ := hp
    exact kk h9 C9 O9
  · refine aw_callU B 0 0 (s_soonest _ _ h a w 6 v sh n T a0 num Q hk hv hsh h1 h4 hT hR ha hC) co_X6_soonest ku_X4_89_X10 hd hR rfl rfl rfl rfl hw (zrm hr (by omega)) (Nat.le_refl _) (Nat.le_refl _) (kI fun r9 h9 hp => ?_)
    obtain ⟨rfl, C9, O9⟩ := hp
    exact kk h9 C9 O9
theorem orN_a {n : Nat} (h : n ≤ 60 ∨ n = 100000) (c : orN n = -5) : (61 : Int32) = nI (w61 n) := by
  unfold orN at c
  unfold w61
  by_cases h1 : n < 100000
  · rw [if_pos (show nI n < (100000 : Int32) from (show nI n < nI 100000 from nI_lt h1 (by decide)))] at c
    have := congrArg Int32.toInt c
    rw [nI_toInt (by omega)] at this
    have e : (-5 : Int32).toInt = -5 := by decide
    omega
  · rw [if_neg h1]; rfl
theorem orN_b {n : Nat} (h : n ≤ 60 ∨ n = 100000) (c : ¬ orN n = -5) : orN n = nI (w61 n) := by
  unfold orN at c ⊢
  unfold w61
  by_cases h1 : n < 100000
  · rw [if_pos (show nI n < (100000 : Int32) from (show nI n < nI 100000 from nI_lt h1 (by decide))), if_pos h1]
  · rw [if_neg (show ¬ nI n < (100000 : Int32) from (show ¬ nI n < nI 100000 from fun z => h1 ((nI_ltI (by omega) (by decide)).mp z)))] at c
    exact absurd rfl c
theorem w61_or {n : Nat} (h : n ≤ 60 ∨ n = 100000) : (w61 n = 61 → orN n = -5) ∧ (¬ w61 n = 61 → orN n = nI (w61 n)) := by
  unfold orN w61
  by_cases h1 : n < 100000
  · rw [if_pos h1, if_pos (show nI n < (100000 : Int32) from (show nI n < nI 100000 from nI_lt h1 (by decide)))]
    exact ⟨fun z => by omega, fun _ => rfl⟩
  · rw [if_neg h1, if_neg (show ¬ nI n < (100000 : Int32) from (show ¬ nI n < nI 100000 from fun z => h1 ((nI_ltI (by omega) (by decide)).mp z)))]
    exact ⟨fun _ => rfl, fun z => absurd rfl z⟩
theorem skO_up {S : Nat → Int32} {T : Nat} {Q : pP} {r n0 ask q t : Nat} {so : Nat → Int32} (h : skO S T Q r n0 so ask) (ht : t < 301) : skO S T Q r n0 (upd so (301 * q + t) (nI (256 * ask + w61 (soS S T Q r q t)))) ask := by
  intro s t' hs ht'
  by_cases e : 301 * s + t' = 301 * q + t
  · have e1 : s = q := by omega
    have e2 : t' = t := by omega
    subst e1; subst e2
    have hle := soS_le S T Q r s t'
    exact ⟨ask, _, upd_s, by unfold w61; split <;> omega, Nat.le_refl _, fun _ _ => rfl⟩
  · rw [upd_n e]
    exact h s t' hs ht'
theorem hO_re {g : zG} {h : Hp} {o : Nat} {st rd st' rd' : Value} {al ask al' ask' : Int32} {be ro br so be' ro' br' so' : Nat → Int32} : only o (o + 5) (hO g h o st rd al be ro br so ask) (hO g h o st' rd' al' be' ro' br' so' ask') := ⟨rfl, fun _ ha => (hO_n ha).trans (hO_n ha).symm⟩
theorem hO_sel {g : zG} {h : Hp} {o : Nat} {st rd : Value} {al ask : Int32} {be ro br so : Nat → Int32} (p : oI g h o st rd al be ro br so ask) : only o (o + 5) h (hO g h o st rd al be ro br so ask) := by rw [hO_id p]; exact only.rf
theorem dX4_soonFrom_0 : decode cX4_soonFrom 0 = .ok (.iload_n 1, 1) := by decide +kernel
theorem dX4_soonFrom_1 : decode cX4_soonFrom 1 = .ok (.sipush 301, 3) := by decide +kernel
theorem dX4_soonFrom_4 : decode cX4_soonFrom 4 = .ok (.imul, 1) := by decide +kernel
theorem dX4_soonFrom_5 : decode cX4_soonFrom 5 = .ok (.iload_n 2, 1) := by decide +kernel
theorem dX4_soonFrom_6 : decode cX4_soonFrom 6 = .ok (.iadd, 1) := by decide +kernel
theorem dX4_soonFrom_7 : decode cX4_soonFrom 7 = .ok (.istore_n 3, 1) := by decide +kernel
theorem dX4_soonFrom_8 : decode cX4_soonFrom 8 = .ok (.aload_n 0, 1) := by decide +kernel
theorem dX4_soonFrom_9 : decode cX4_soonFrom 9 = .ok (.getfield 15, 3) := by decide +kernel
theorem dX4_soonFrom_12 : decode cX4_soonFrom 12 = .ok (.ifnull 23, 3) := by decide +kernel
theorem dX4_soonFrom_15 : decode cX4_soonFrom 15 = .ok (.aload_n 0, 1) := by decide +kernel
theorem dX4_soonFrom_16 : decode cX4_soonFrom 16 = .ok (.getfield 9, 3) := by decide +kernel
theorem dX4_soonFrom_19 : decode cX4_soonFrom 19 = .ok (.ifnull 16, 3) := by decide +kernel
theorem dX4_soonFrom_22 : decode cX4_soonFrom 22 = .ok (.iload_n 3, 1) := by decide +kernel
theorem dX4_soonFrom_23 : decode cX4_soonFrom 23 = .ok (.ifCond .lt 12, 3) := by decide +kernel
theorem dX4_soonFrom_26 : decode cX4_soonFrom 26 = .ok (.iload_n 3, 1) := by decide +kernel
theorem dX4_soonFrom_27 : decode cX4_soonFrom 27 = .ok (.aload_n 0, 1) := by decide +kernel
theorem dX4_soonFrom_28 : decode cX4_soonFrom 28 = .ok (.getfield 33, 3) := by decide +kernel
theorem dX4_soonFrom_31 : decode cX4_soonFrom 31 = .ok (.arraylength, 1) := by decide +kernel
theorem dX4_soonFrom_32 : decode cX4_soonFrom 32 = .ok (.if_icmp .lt 6, 3) := by decide +kernel
theorem dX4_soonFrom_35 : decode cX4_soonFrom 35 = .ok (.bipush (-5), 2) := by decide +kernel
theorem dX4_soonFrom_37 : decode cX4_soonFrom 37 = .ok (.ireturn, 1) := by decide +kernel
theorem dX4_soonFrom_38 : decode cX4_soonFrom 38 = .ok (.aload_n 0, 1) := by decide +kernel
theorem dX4_soonFrom_39 : decode cX4_soonFrom 39 = .ok (.getfield 33, 3) := by decide +kernel
theorem dX4_soonFrom_42 : decode cX4_soonFrom 42 = .ok (.iload_n 3, 1) := by decide +kernel
theorem dX4_soonFrom_43 : decode cX4_soonFrom 43 = .ok (.iaload, 1) := by decide +kernel
theorem dX4_soonFrom_44 : decode cX4_soonFrom 44 = .ok (.bipush 8, 2) := by decide +kernel
theorem dX4_soonFrom_46 : decode cX4_soonFrom 46 = .ok (.ishr, 1) := by decide +kernel
theorem dX4_soonFrom_47 : decode cX4_soonFrom 47 = .ok (.aload_n 0, 1) := by decide +kernel
theorem dX4_soonFrom_48 : decode cX4_soonFrom 48 = .ok (.getfield 36, 3) := by decide +kernel
theorem dX4_soonFrom_51 : decode cX4_soonFrom 51 = .ok (.if_icmp .eq 82, 3) := by decide +kernel
theorem dX4_soonFrom_54 : decode cX4_soonFrom 54 = .ok (.aload_n 0, 1) := by decide +kernel
theorem dX4_soonFrom_55 : decode cX4_soonFrom 55 = .ok (.getfield 9, 3) := by decide +kernel
theorem dX4_soonFrom_58 : decode cX4_soonFrom 58 = .ok (.getfield 68, 3) := by decide +kernel
theorem dX4_soonFrom_61 : decode cX4_soonFrom 61 = .ok (.iload_n 1, 1) := by decide +kernel
theorem dX4_soonFrom_62 : decode cX4_soonFrom 62 = .ok (.invokevirtual 74, 3) := by decide +kernel
theorem dX4_soonFrom_65 : decode cX4_soonFrom 65 = .ok (.istore 4, 2) := by decide +kernel
theorem dX4_soonFrom_67 : decode cX4_soonFrom 67 = .ok (.aload_n 0, 1) := by decide +kernel
theorem dX4_soonFrom_68 : decode cX4_soonFrom 68 = .ok (.getfield 15, 3) := by decide +kernel
theorem dX4_soonFrom_71 : decode cX4_soonFrom 71 = .ok (.aload_n 0, 1) := by decide +kernel
theorem dX4_soonFrom_72 : decode cX4_soonFrom 72 = .ok (.getfield 9, 3) := by decide +kernel
theorem dX4_soonFrom_75 : decode cX4_soonFrom 75 = .ok (.getfield 79, 3) := by decide +kernel
theorem dX4_soonFrom_78 : decode cX4_soonFrom 78 = .ok (.aload_n 0, 1) := by decide +kernel
theorem dX4_soonFrom_79 : decode cX4_soonFrom 79 = .ok (.getfield 9, 3) := by decide +kernel
theorem dX4_soonFrom_82 : decode cX4_soonFrom 82 = .ok (.getfield 83, 3) := by decide +kernel
theorem dX4_soonFrom_85 : decode cX4_soonFrom 85 = .ok (.iload_n 1, 1) := by decide +kernel
theorem dX4_soonFrom_86 : decode cX4_soonFrom 86 = .ok (.invokevirtual 74, 3) := by decide +kernel
theorem dX4_soonFrom_89 : decode cX4_soonFrom 89 = .ok (.iload 4, 2) := by decide +kernel
theorem dX4_soonFrom_91 : decode cX4_soonFrom 91 = .ok (.aload_n 0, 1) := by decide +kernel
theorem dX4_soonFrom_92 : decode cX4_soonFrom 92 = .ok (.getfield 9, 3) := by decide +kernel
theorem dX4_soonFrom_95 : decode cX4_soonFrom 95 = .ok (.getfield 86, 3) := by decide +kernel
theorem dX4_soonFrom_98 : decode cX4_soonFrom 98 = .ok (.iload_n 2, 1) := by decide +kernel
theorem dX4_soonFrom_99 : decode cX4_soonFrom 99 = .ok (.iadd, 1) := by decide +kernel
theorem dX4_soonFrom_100 : decode cX4_soonFrom 100 = .ok (.invokevirtual 89, 3) := by decide +kernel
theorem dX4_soonFrom_103 : decode cX4_soonFrom 103 = .ok (.istore 5, 2) := by decide +kernel
theorem dX4_soonFrom_105 : decode cX4_soonFrom 105 = .ok (.aload_n 0, 1) := by decide +kernel
theorem dX4_soonFrom_106 : decode cX4_soonFrom 106 = .ok (.getfield 33, 3) := by decide +kernel
theorem dX4_soonFrom_109 : decode cX4_soonFrom 109 = .ok (.iload_n 3, 1) := by decide +kernel
theorem dX4_soonFrom_110 : decode cX4_soonFrom 110 = .ok (.aload_n 0, 1) := by decide +kernel
theorem dX4_soonFrom_111 : decode cX4_soonFrom 111 = .ok (.getfield 36, 3) := by decide +kernel
theorem dX4_soonFrom_114 : decode cX4_soonFrom 114 = .ok (.bipush 8, 2) := by decide +kernel
theorem dX4_soonFrom_116 : decode cX4_soonFrom 116 = .ok (.ishl, 1) := by decide +kernel
theorem dX4_soonFrom_117 : decode cX4_soonFrom 117 = .ok (.iload 5, 2) := by decide +kernel
theorem dX4_soonFrom_119 : decode cX4_soonFrom 119 = .ok (.bipush (-5), 2) := by decide +kernel
theorem dX4_soonFrom_121 : decode cX4_soonFrom 121 = .ok (.if_icmp .ne 8, 3) := by decide +kernel
theorem dX4_soonFrom_124 : decode cX4_soonFrom 124 = .ok (.bipush 61, 2) := by decide +kernel
theorem dX4_soonFrom_126 : decode cX4_soonFrom 126 = .ok (.goto 5, 3) := by decide +kernel
theorem dX4_soonFrom_129 : decode cX4_soonFrom 129 = .ok (.iload 5, 2) := by decide +kernel
theorem dX4_soonFrom_131 : decode cX4_soonFrom 131 = .ok (.ior, 1) := by decide +kernel
theorem dX4_soonFrom_132 : decode cX4_soonFrom 132 = .ok (.iastore, 1) := by decide +kernel
theorem dX4_soonFrom_133 : decode cX4_soonFrom 133 = .ok (.aload_n 0, 1) := by decide +kernel
theorem dX4_soonFrom_134 : decode cX4_soonFrom 134 = .ok (.getfield 33, 3) := by decide +kernel
theorem dX4_soonFrom_137 : decode cX4_soonFrom 137 = .ok (.iload_n 3, 1) := by decide +kernel
theorem dX4_soonFrom_138 : decode cX4_soonFrom 138 = .ok (.iaload, 1) := by decide +kernel
theorem dX4_soonFrom_139 : decode cX4_soonFrom 139 = .ok (.sipush 255, 3) := by decide +kernel
theorem dX4_soonFrom_142 : decode cX4_soonFrom 142 = .ok (.iand, 1) := by decide +kernel
theorem dX4_soonFrom_143 : decode cX4_soonFrom 143 = .ok (.istore 4, 2) := by decide +kernel
theorem dX4_soonFrom_145 : decode cX4_soonFrom 145 = .ok (.iload 4, 2) := by decide +kernel
theorem dX4_soonFrom_147 : decode cX4_soonFrom 147 = .ok (.bipush 61, 2) := by decide +kernel
theorem dX4_soonFrom_149 : decode cX4_soonFrom 149 = .ok (.if_icmp .ne 8, 3) := by decide +kernel
theorem dX4_soonFrom_152 : decode cX4_soonFrom 152 = .ok (.bipush (-5), 2) := by decide +kernel
theorem dX4_soonFrom_154 : decode cX4_soonFrom 154 = .ok (.goto 5, 3) := by decide +kernel
theorem dX4_soonFrom_157 : decode cX4_soonFrom 157 = .ok (.iload 4, 2) := by decide +kernel
theorem dX4_soonFrom_159 : decode cX4_soonFrom 159 = .ok (.ireturn, 1) := by decide +kernel
set_option maxRecDepth 100000 in
set_option maxHeartbeats 4000000 in
theorem s_soonO (l : Launch) (g : zG) (h : Hp) (o s ca a k v r T n0 : Nat) (num : Int32) (S : Nat → Int32) (Q : pP) (al : Int32) (be ro br so : Nat → Int32) (ask : Nat) (q t : Nat) (hI : oI g h o (.ref s) (.ref a) al be ro br so (nI ask)) (hE : oE g h o s ca a k v r T n0 num S Q) (hk : skO S T Q r n0 so ask) (hask : ask ≤ 2 ^ 20) (hq : q < n0) (ht : t ≤ 300) : Sp l g yX4_soonFrom cX4_soonFrom 6 (some .int) (rmz 7) [.ref o, .int (nI q), .int (nI t)] (h) (zI fun x h' => x = orN (soS S T Q r q t) ∧ ∃ so', oI g h' o (.ref s) (.ref a) al be ro br so' (nI ask) ∧ oE g h' o s ca a k v r T n0 num S Q ∧ skO S T Q r n0 so' ask ∧ only2 ca o h h') := by
  refine Sp.of [some (.ref o), some (.int (nI q)), some (.int (nI t)), none, none, none] (by decide) (Nat.le_of_ble_eq_true rfl) rfl rfl ?_
  rintro X rfl hr rfl B
  show AW X 0 0 0 _ _ _ _
  have hE0 := hE
  obtain ⟨⟨cv, rc, p1⟩, ⟨fs, p2, p3⟩, ⟨fl, p4, p5⟩, p6, p7, ⟨p8, p8v, p8a, p8b⟩, p9, p10, p11, p12, p13, p14⟩ := hE
  obtain ⟨hz1, hz2, hz3, hz4, hz5, hz6⟩ := iZ_of p9 hq
  have hn6 := p9.1
  have hsl : fs q = nI (kN (S (10 + q))) := (p3 q hq).trans hz5
  have hll : fl q = nI (kN (S (16 + q))) := (p5 q hq).trans hz6
  have esos : soS S T Q r q t = sF T Q k v (kN (S (10 + q))) (p_needs k v (kN (S (16 + q)))) t := by
    unfold soS
    rw [p8a, p8b, kN_nI (by omega), kN_nI (by omega)]
  obtain ⟨q0, vv, k1, k2, k3, k4⟩ := hk q t (by omega) (by omega)
  have r131 : ∀ (h1 : Hp) (l4 l5 : Option Value), oE (zXg X) (hO (zXg X) h1 o (.ref s) (.ref a) al be ro br so (nI ask)) o s ca a k v r T n0 num S Q → only2 ca o h (hO (zXg X) h1 o (.ref s) (.ref a) al be ro br so (nI ask)) → AW X 0 0 131 [some (.ref o), some (.int (nI q)), some (.int (nI t)), some (.int (nI (301 * q + t))), l4, l5] [.int (nI (w61 (soS S T Q r q t))), .int (nI (ask * 256)), .int (nI (301 * q + t)), .ref (o + 4)] (hO (zXg X) h1 o (.ref s) (.ref a) al be ro br so (nI ask)) (zI fun x h' => x = orN (soS S T Q r q t) ∧ ∃ so', oI (zXg X) h' o (.ref s) (.ref a) al be ro br so' (nI ask) ∧ oE (zXg X) h' o s ca a k v r T n0 num S Q ∧ skO S T Q r n0 so' ask ∧ only2 ca o h h') := by
    intro h1 l4 l5 hE1 hO1
    have hle := soS_le S T Q r q t
    have hw : w61 (soS S T Q r q t) < 256 := by unfold w61; split <;> omega
    refine aw_ior B dX4_soonFrom_131 ?_
    rw [b_or8 hw]
    refine o_st4 B (301 * q + t) rfl (by omega) dX4_soonFrom_132 ?_
    refine aw_aload_n B 0 rfl dX4_soonFrom_133 rfl ?_
    refine aw_get B f_X4_33 dX4_soonFrom_134 hO_o rfl ?_
    refine aw_iload_n B 3 rfl dX4_soonFrom_137 rfl ?_
    refine o_ld4 B (301 * q + t) rfl (by omega) dX4_soonFrom_138 ?_
    refine aw_sipush B 255 (by decide) dX4_soonFrom_139 ?_
    refine aw_iand B dX4_soonFrom_142 ?_
    rw [upd_s, show nI (256 * ask + w61 (soS S T Q r q t)) &&& 255 = nI (w61 (soS S T Q r q t)) from by rw [pk_andN (by omega) 8 (by decide), show (256 * ask + w61 (soS S T Q r q t)) % 2 ^ 8 = w61 (soS S T Q r q t) by omega]]
    refine aw_istore4 B dX4_soonFrom_143 ?_
    refine aw_iload B dX4_soonFrom_145 rfl ?_
    refine aw_bipush B 61 (by decide) dX4_soonFrom_147 ?_
    refine aw_icmp_ne B 157 dX4_soonFrom_149 (fun c149 => ?_) (fun c149 => ?_)
    · refine aw_iload B dX4_soonFrom_157 rfl ?_
      refine aw_iret B rfl rfl dX4_soonFrom_159 ?_
      exact ⟨_, rfl, ((w61_or hle).2 (fun z => c149 (by rw [z]; rfl))).symm, _, hO_oI, hE1.fr hO_re (by omega), skO_up hk (by omega), hO1.tr hO_re.r2⟩
    · refine aw_bipush B (-5) (by decide) dX4_soonFrom_152 ?_
      refine aw_goto B 159 dX4_soonFrom_154 ?_
      refine aw_iret B rfl rfl dX4_soonFrom_159 ?_
      exact ⟨_, rfl, ((w61_or hle).1 ((nI_eq (b := 61) (by omega) (by decide)).mp c149)).symm, _, hO_oI, hE1.fr hO_re (by omega), skO_up hk (by omega), hO1.tr hO_re.r2⟩
  suffices key : AW X 0 0 0 [some (.ref o), some (.int (nI q)), some (.int (nI t)), none, none, none] [] (hO (zXg X) h o (.ref s) (.ref a) al be ro br so (nI ask)) (zI fun x h' => x = orN (soS S T Q r q t) ∧ ∃ so', oI (zXg X) h' o (.ref s) (.ref a) al be ro br so' (nI ask) ∧ oE (zXg X) h' o s ca a k v r T n0 num S Q ∧ skO S T Q r n0 so' ask ∧ only2 ca o h h') by
    rw [hO_id hI] at key
    exact key
  refine aw_iload_n B 1 rfl dX4_soonFrom_0 rfl ?_
  refine aw_sipush B 301 (by decide) dX4_soonFrom_1 ?_
  refine aw_imul B dX4_soonFrom_4 ?_
  refine aw_iload_n B 2 rfl dX4_soonFrom_5 rfl ?_
  refine aw_iadd B dX4_soonFrom_6 ?_
  rw [show nI q * 301 + nI t = nI (301 * q + t) from by rw [show nI q * 301 = nI (q * 301) from pk_mul q 301, nI_add, Nat.mul_comm]]
  refine aw_istore3 B dX4_soonFrom_7 ?_
  refine aw_aload_n B 0 rfl dX4_soonFrom_8 rfl ?_
  refine aw_get B f_X4_15 dX4_soonFrom_9 hO_o rfl ?_
  refine aw_ifnull B dX4_soonFrom_12 ?_
  refine aw_aload_n B 0 rfl dX4_soonFrom_15 rfl ?_
  refine aw_get B f_X4_9 dX4_soonFrom_16 hO_o rfl ?_
  refine aw_ifnull B dX4_soonFrom_19 ?_
  refine aw_iload_n B 3 rfl dX4_soonFrom_22 rfl ?_
  refine aw_if_lt B 35 dX4_soonFrom_23 (fun c23 => absurd c23 (Int32.not_lt.mpr (nI_pos' (by omega)))) (fun c23 => ?_)
  refine aw_iload_n B 3 rfl dX4_soonFrom_26 rfl ?_
  refine aw_aload_n B 0 rfl dX4_soonFrom_27 rfl ?_
  refine aw_get B f_X4_33 dX4_soonFrom_28 hO_o rfl ?_
  refine aw_alen B dX4_soonFrom_31 hO_4 (Or.inl rfl) ?_
  refine aw_icmp_lt B 38 dX4_soonFrom_32 (fun c32 => ?_) (fun c32 => absurd (show nI (301 * q + t) < nI 1806 from nI_lt (by omega) (by decide)) c32)
  refine aw_aload_n B 0 rfl dX4_soonFrom_38 rfl ?_
  refine aw_get B f_X4_33 dX4_soonFrom_39 hO_o rfl ?_
  refine aw_iload_n B 3 rfl dX4_soonFrom_42 rfl ?_
  refine o_ld4 B (301 * q + t) rfl (by omega) dX4_soonFrom_43 ?_
  refine aw_bipush B 8 (by decide) dX4_soonFrom_44 ?_
  refine aw_ishr B dX4_soonFrom_46 ?_
  rw [show so (301 * q + t) >>> ((8 : Int32) &&& 31) = nI q0 from by rw [k1, pk_shrN (by omega) _ 8 (by decide), show (256 * q0 + vv) / 2 ^ 8 = q0 by omega]]
  refine aw_aload_n B 0 rfl dX4_soonFrom_47 rfl ?_
  refine aw_get B f_X4_36 dX4_soonFrom_48 hO_o rfl ?_
  refine aw_icmp_eq B 133 dX4_soonFrom_51 (fun c51 => ?_) (fun c51 => ?_)
  · refine aw_aload_n B 0 rfl dX4_soonFrom_133 rfl ?_
    refine aw_get B f_X4_33 dX4_soonFrom_134 hO_o rfl ?_
    refine aw_iload_n B 3 rfl dX4_soonFrom_137 rfl ?_
    refine o_ld4 B (301 * q + t) rfl (by omega) dX4_soonFrom_138 ?_
    refine aw_sipush B 255 (by decide) dX4_soonFrom_139 ?_
    refine aw_iand B dX4_soonFrom_142 ?_
    rw [show so (301 * q + t) &&& 255 = nI vv from by rw [k1, pk_andN (by omega) 8 (by decide), show (256 * q0 + vv) % 2 ^ 8 = vv by omega]]
    refine aw_istore4 B dX4_soonFrom_143 ?_
    refine aw_iload B dX4_soonFrom_145 rfl ?_
    refine aw_bipush B 61 (by decide) dX4_soonFrom_147 ?_
    refine aw_icmp_ne B 157 dX4_soonFrom_149 (fun c149 => ?_) (fun c149 => ?_)
    · refine aw_iload B dX4_soonFrom_157 rfl ?_
      refine aw_iret B rfl rfl dX4_soonFrom_159 ?_
      have evv : vv = w61 (soS S T Q r q t) := k4 ((nI_eq (by omega) (by omega)).mp c51) hq
      refine ⟨_, rfl, ?_, so, hO_oI, hE0.fr hO_only (by omega), hk, hO_only.r2⟩
      have hle := soS_le S T Q r q t
      unfold w61 at evv
      unfold orN
      by_cases h100 : soS S T Q r q t < 100000
      · rw [if_pos h100] at evv
        rw [if_pos (show nI (soS S T Q r q t) < (100000 : Int32) from (show nI _ < nI 100000 from nI_lt h100 (by decide))), ← evv]
      · rw [if_neg h100] at evv
        exact absurd (by rw [evv]; rfl) c149
    · refine aw_bipush B (-5) (by decide) dX4_soonFrom_152 ?_
      refine aw_goto B 159 dX4_soonFrom_154 ?_
      refine aw_iret B rfl rfl dX4_soonFrom_159 ?_
      have evv : vv = w61 (soS S T Q r q t) := k4 ((nI_eq (by omega) (by omega)).mp c51) hq
      refine ⟨_, rfl, ?_, so, hO_oI, hE0.fr hO_only (by omega), hk, hO_only.r2⟩
      have hle := soS_le S T Q r q t
      unfold w61 at evv
      unfold orN
      by_cases h100 : soS S T Q r q t < 100000
      · rw [if_pos h100] at evv
        have : vv = 61 := (nI_eq (b := 61) (by omega) (by decide)).mp c149
        omega
      · rw [if_neg (show ¬ nI (soS S T Q r q t) < (100000 : Int32) from (show ¬ nI _ < nI 100000 from fun z => h100 ((nI_ltI (by omega) (by decide)).mp z)))]
  · refine aw_aload_n B 0 rfl dX4_soonFrom_54 rfl ?_
    refine aw_get B f_X4_9 dX4_soonFrom_55 hO_o rfl ?_
    refine aw_get B f_X4_68 dX4_soonFrom_58 (hO_only.at (by omega) p1) rfl ?_
    refine aw_iload_n B 1 rfl dX4_soonFrom_61 rfl ?_
    have hr62 : rowI (zXg X) (hO (zXg X) h o (.ref s) (.ref a) al be ro br so (nI ask)) (s + 10) 6 fl (nI n0) := p4.fr hO_only (by omega)
    rw [← hW_id hr62]
    refine aw_callV B 0 0 (s_rowGet _ _ _ (s + 10) 6 n0 fl (nI q) (by decide) (by omega)) co_X7_get k_X4_74 dX4_soonFrom_62 hW_o rfl rfl rfl rfl (Nat.le_of_ble_eq_true rfl) (zrm hr (by omega)) (Nat.le_refl _) (Nat.le_refl _) (kI fun r62 h62 hp62 => ?_)
    obtain ⟨rfl, rfl⟩ := hp62
    rw [hW_id hr62, gR_q hq (by omega) (by decide)]
    rw [hll]
    refine aw_istore4 B dX4_soonFrom_65 ?_
    refine aw_aload_n B 0 rfl dX4_soonFrom_67 rfl ?_
    refine aw_get B f_X4_15 dX4_soonFrom_68 hO_o rfl ?_
    refine aw_aload_n B 0 rfl dX4_soonFrom_71 rfl ?_
    refine aw_get B f_X4_9 dX4_soonFrom_72 hO_o rfl ?_
    refine aw_get B f_X4_79 dX4_soonFrom_75 (hO_only.at (by omega) p1) rfl ?_
    refine aw_aload_n B 0 rfl dX4_soonFrom_78 rfl ?_
    refine aw_get B f_X4_9 dX4_soonFrom_79 hO_o rfl ?_
    refine aw_get B f_X4_83 dX4_soonFrom_82 (hO_only.at (by omega) p1) rfl ?_
    refine aw_iload_n B 1 rfl dX4_soonFrom_85 rfl ?_
    have hr86 : rowI (zXg X) (hO (zXg X) h o (.ref s) (.ref a) al be ro br so (nI ask)) (s + 8) 6 fs (nI n0) := p2.fr hO_only (by omega)
    rw [← hW_id hr86]
    refine aw_callV B 0 0 (s_rowGet _ _ _ (s + 8) 6 n0 fs (nI q) (by decide) (by omega)) co_X7_get k_X4_74 dX4_soonFrom_86 hW_o rfl rfl rfl rfl (Nat.le_of_ble_eq_true rfl) (zrm hr (by omega)) (Nat.le_refl _) (Nat.le_refl _) (kI fun r86 h86 hp86 => ?_)
    obtain ⟨rfl, rfl⟩ := hp86
    rw [hW_id hr86, gR_q hq (by omega) (by decide)]
    rw [hsl]
    refine aw_iload B dX4_soonFrom_89 rfl ?_
    refine aw_aload_n B 0 rfl dX4_soonFrom_91 rfl ?_
    refine aw_get B f_X4_9 dX4_soonFrom_92 hO_o rfl ?_
    refine aw_get B f_X4_86 dX4_soonFrom_95 (hO_only.at (by omega) p1) rfl ?_
    refine aw_iload_n B 2 rfl dX4_soonFrom_98 rfl ?_
    refine aw_iadd B dX4_soonFrom_99 ?_
    rw [nI_add]
    have hH := hE0.fr (hO_only (g := zXg X) (h := h) (o := o) (st := .ref s) (rd := .ref a) (al := al) (be := be) (ro := ro) (br := br) (so := so) (ask := nI ask)) (by omega)
    refine vc_X4_89 (T := T) (a0 := t) B hr (by omega) p8 p8v (hO_only.at (by omega) p6) hz2 hz3 hz4 (by omega) (by omega) (p7.fr hO_only (by omega)) dX4_soonFrom_100 (Nat.le_of_ble_eq_true rfl) (fun h100 C100 O100 => ?_)
    rw [← esos, ← hO_id (show oI (zXg X) h100 o (.ref s) (.ref a) al be ro br so (nI ask) from hO_oI.fr O100 (by omega))]
    refine aw_istore5 B dX4_soonFrom_103 ?_
    refine aw_aload_n B 0 rfl dX4_soonFrom_105 rfl ?_
    refine aw_get B f_X4_33 dX4_soonFrom_106 hO_o rfl ?_
    refine aw_iload_n B 3 rfl dX4_soonFrom_109 rfl ?_
    refine aw_aload_n B 0 rfl dX4_soonFrom_110 rfl ?_
    refine aw_get B f_X4_36 dX4_soonFrom_111 hO_o rfl ?_
    refine aw_bipush B 8 (by decide) dX4_soonFrom_114 ?_
    refine aw_ishl B dX4_soonFrom_116 ?_
    rw [show nI ask <<< ((8 : Int32) &&& 31) = nI (ask * 256) from by rw [pk_shlN _ 8 (by decide) (by omega)]]
    refine aw_iload B dX4_soonFrom_117 rfl ?_
    refine aw_bipush B (-5) (by decide) dX4_soonFrom_119 ?_
    refine aw_icmp_ne B 129 dX4_soonFrom_121 (fun c121 => ?_) (fun c121 => ?_)
    · refine aw_iload B dX4_soonFrom_129 rfl ?_
      have h9 := r131 h100 (some (.int (nI (kN (S (16 + q)))))) (some (.int (orN (soS S T Q r q t)))) ((hH.cv O100 C100).fr (hO_sel (hO_oI.fr O100 (by omega))) (by omega)) ((hO_only.r2.tr O100.l2).tr (hO_sel (hO_oI.fr O100 (by omega))).r2)
      rw [← show orN (soS S T Q r q t) = nI (w61 (soS S T Q r q t)) from orN_b (soS_le S T Q r q t) c121] at h9
      exact h9
    · refine aw_bipush B 61 (by decide) dX4_soonFrom_124 ?_
      refine aw_goto B 131 dX4_soonFrom_126 ?_
      rw [show (61 : Int32) = nI (w61 (soS S T Q r q t)) from orN_a (soS_le S T Q r q t) c121]
      exact r131 h100 _ _ ((hH.cv O100 C100).fr (hO_sel (hO_oI.fr O100 (by omega))) (by omega)) ((hO_only.r2.tr O100.l2).tr (hO_sel (hO_oI.fr O100 (by omega))).r2)
