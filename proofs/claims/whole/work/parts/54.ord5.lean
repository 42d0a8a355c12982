/-! the orders' begin, hoursOf, kth -/
def ushr (x y : Int32) : Int32 := (x.toUInt32 >>> (y.toUInt32 &&& Int32.toUInt32 31)).toInt32
def bc1 (x : Int32) : Int32 := x - (ushr x 1 &&& 1431655765)
def bc2 (x : Int32) : Int32 := (x &&& 858993459) + (ushr x 2 &&& 858993459)
def bc3 (x : Int32) : Int32 := (x + ushr x 4) &&& 252645135
def bcE (x : Int32) : Int32 := (bc3 (bc2 (bc1 x)) + ushr (bc3 (bc2 (bc1 x))) 8) + ushr (bc3 (bc2 (bc1 x)) + ushr (bc3 (bc2 (bc1 x))) 8) 16 &&& 63
theorem bcE_d : ∀ p, p < 64 → bcE (nI p) = nI (pcnt p) := by decide +kernel
theorem oI.o {g : zG} {h : Hp} {o : Nat} {st rd : Value} {al ask : Int32} {be ro br so : Nat → Int32} (p : oI g h o st rd al be ro br so ask) : h.2 o = some (.inr (4, [st, rd, .int al, .ref (o + 1), .ref (o + 2), .ref (o + 3), .ref (o + 4), .int ask])) := p 0 (by decide)
theorem oI.b {g : zG} {h : Hp} {o : Nat} {st rd : Value} {al ask : Int32} {be ro br so : Nat → Int32} (p : oI g h o st rd al be ro br so ask) : h.2 (o + 1) = some (.inl (g.2.2.1.1, 64, .inl be)) := p 1 (by decide)
theorem oI.r {g : zG} {h : Hp} {o : Nat} {st rd : Value} {al ask : Int32} {be ro br so : Nat → Int32} (p : oI g h o st rd al be ro br so ask) : h.2 (o + 3) = some (.inl (g.2.2.1.1, 6, .inl br)) := p 3 (by decide)
theorem dJ6_bitCount_0f7a4_0 : decode cJ6_bitCount_0f7a4 0 = .ok (.iload_n 0, 1) := by decide +kernel
theorem dJ6_bitCount_0f7a4_1 : decode cJ6_bitCount_0f7a4 1 = .ok (.iload_n 0, 1) := by decide +kernel
theorem dJ6_bitCount_0f7a4_2 : decode cJ6_bitCount_0f7a4 2 = .ok (.iconst 1, 1) := by decide +kernel
theorem dJ6_bitCount_0f7a4_3 : decode cJ6_bitCount_0f7a4 3 = .ok (.iushr, 1) := by decide +kernel
theorem dJ6_bitCount_0f7a4_4 : decode cJ6_bitCount_0f7a4 4 = .ok (.ldc_w 265, 3) := by decide +kernel
theorem dJ6_bitCount_0f7a4_7 : decode cJ6_bitCount_0f7a4 7 = .ok (.iand, 1) := by decide +kernel
theorem dJ6_bitCount_0f7a4_8 : decode cJ6_bitCount_0f7a4 8 = .ok (.isub, 1) := by decide +kernel
theorem dJ6_bitCount_0f7a4_9 : decode cJ6_bitCount_0f7a4 9 = .ok (.istore_n 0, 1) := by decide +kernel
theorem dJ6_bitCount_0f7a4_10 : decode cJ6_bitCount_0f7a4 10 = .ok (.iload_n 0, 1) := by decide +kernel
theorem dJ6_bitCount_0f7a4_11 : decode cJ6_bitCount_0f7a4 11 = .ok (.ldc_w 266, 3) := by decide +kernel
theorem dJ6_bitCount_0f7a4_14 : decode cJ6_bitCount_0f7a4 14 = .ok (.iand, 1) := by decide +kernel
theorem dJ6_bitCount_0f7a4_15 : decode cJ6_bitCount_0f7a4 15 = .ok (.iload_n 0, 1) := by decide +kernel
theorem dJ6_bitCount_0f7a4_16 : decode cJ6_bitCount_0f7a4 16 = .ok (.iconst 2, 1) := by decide +kernel
theorem dJ6_bitCount_0f7a4_17 : decode cJ6_bitCount_0f7a4 17 = .ok (.iushr, 1) := by decide +kernel
theorem dJ6_bitCount_0f7a4_18 : decode cJ6_bitCount_0f7a4 18 = .ok (.ldc_w 266, 3) := by decide +kernel
theorem dJ6_bitCount_0f7a4_21 : decode cJ6_bitCount_0f7a4 21 = .ok (.iand, 1) := by decide +kernel
theorem dJ6_bitCount_0f7a4_22 : decode cJ6_bitCount_0f7a4 22 = .ok (.iadd, 1) := by decide +kernel
theorem dJ6_bitCount_0f7a4_23 : decode cJ6_bitCount_0f7a4 23 = .ok (.istore_n 0, 1) := by decide +kernel
theorem dJ6_bitCount_0f7a4_24 : decode cJ6_bitCount_0f7a4 24 = .ok (.iload_n 0, 1) := by decide +kernel
theorem dJ6_bitCount_0f7a4_25 : decode cJ6_bitCount_0f7a4 25 = .ok (.iload_n 0, 1) := by decide +kernel
theorem dJ6_bitCount_0f7a4_26 : decode cJ6_bitCount_0f7a4 26 = .ok (.iconst 4, 1) := by decide +kernel
theorem dJ6_bitCount_0f7a4_27 : decode cJ6_bitCount_0f7a4 27 = .ok (.iushr, 1) := by decide +kernel
theorem dJ6_bitCount_0f7a4_28 : decode cJ6_bitCount_0f7a4 28 = .ok (.iadd, 1) := by decide +kernel
theorem dJ6_bitCount_0f7a4_29 : decode cJ6_bitCount_0f7a4 29 = .ok (.ldc_w 267, 3) := by decide +kernel
theorem dJ6_bitCount_0f7a4_32 : decode cJ6_bitCount_0f7a4 32 = .ok (.iand, 1) := by decide +kernel
theorem dJ6_bitCount_0f7a4_33 : decode cJ6_bitCount_0f7a4 33 = .ok (.istore_n 0, 1) := by decide +kernel
theorem dJ6_bitCount_0f7a4_34 : decode cJ6_bitCount_0f7a4 34 = .ok (.iload_n 0, 1) := by decide +kernel
theorem dJ6_bitCount_0f7a4_35 : decode cJ6_bitCount_0f7a4 35 = .ok (.iload_n 0, 1) := by decide +kernel
theorem dJ6_bitCount_0f7a4_36 : decode cJ6_bitCount_0f7a4 36 = .ok (.bipush 8, 2) := by decide +kernel
theorem dJ6_bitCount_0f7a4_38 : decode cJ6_bitCount_0f7a4 38 = .ok (.iushr, 1) := by decide +kernel
theorem dJ6_bitCount_0f7a4_39 : decode cJ6_bitCount_0f7a4 39 = .ok (.iadd, 1) := by decide +kernel
theorem dJ6_bitCount_0f7a4_40 : decode cJ6_bitCount_0f7a4 40 = .ok (.istore_n 0, 1) := by decide +kernel
theorem dJ6_bitCount_0f7a4_41 : decode cJ6_bitCount_0f7a4 41 = .ok (.iload_n 0, 1) := by decide +kernel
theorem dJ6_bitCount_0f7a4_42 : decode cJ6_bitCount_0f7a4 42 = .ok (.iload_n 0, 1) := by decide +kernel
theorem dJ6_bitCount_0f7a4_43 : decode cJ6_bitCount_0f7a4 43 = .ok (.bipush 16, 2) := by decide +kernel
theorem dJ6_bitCount_0f7a4_45 : decode cJ6_bitCount_0f7a4 45 = .ok (.iushr, 1) := by decide +kernel
theorem dJ6_bitCount_0f7a4_46 : decode cJ6_bitCount_0f7a4 46 = .ok (.iadd, 1) := by decide +kernel
theorem dJ6_bitCount_0f7a4_47 : decode cJ6_bitCount_0f7a4 47 = .ok (.istore_n 0, 1) := by decide +kernel
theorem dJ6_bitCount_0f7a4_48 : decode cJ6_bitCount_0f7a4 48 = .ok (.iload_n 0, 1) := by decide +kernel
theorem dJ6_bitCount_0f7a4_49 : decode cJ6_bitCount_0f7a4 49 = .ok (.bipush 63, 2) := by decide +kernel
theorem dJ6_bitCount_0f7a4_51 : decode cJ6_bitCount_0f7a4 51 = .ok (.iand, 1) := by decide +kernel
theorem dJ6_bitCount_0f7a4_52 : decode cJ6_bitCount_0f7a4 52 = .ok (.ireturn, 1) := by decide +kernel
set_option maxRecDepth 100000 in
set_option maxHeartbeats 4000000 in
theorem s_bitCount (l : Launch) (g : zG) (h : Hp) (p : Nat) (hp : p < 64) : Sp l g yJ6_bitCount_0f7a4 cJ6_bitCount_0f7a4 1 (some .int) (rmz 1) [.int (nI p)] (h) (zI fun r h' => r = nI (pcnt p) ∧ h' = h) := by
  refine Sp.of [some (.int (nI p))] (by decide) (Nat.le_of_ble_eq_true rfl) rfl rfl ?_
  rintro X rfl hr rfl B
  show AW X 0 0 0 _ _ _ _
  refine aw_iload_n B 0 rfl dJ6_bitCount_0f7a4_0 rfl ?_
  refine aw_iload_n B 0 rfl dJ6_bitCount_0f7a4_1 rfl ?_
  refine aw_iconst B 1 (by decide) dJ6_bitCount_0f7a4_2 ?_
  refine aw_iushr B _ rfl dJ6_bitCount_0f7a4_3 ?_
  refine aw_ldcw B cn_J6_265 dJ6_bitCount_0f7a4_4 ?_
  refine aw_iand B dJ6_bitCount_0f7a4_7 ?_
  refine aw_isub B dJ6_bitCount_0f7a4_8 ?_
  refine aw_istore0 B dJ6_bitCount_0f7a4_9 ?_
  refine aw_iload_n B 0 rfl dJ6_bitCount_0f7a4_10 rfl ?_
  refine aw_ldcw B cn_J6_266 dJ6_bitCount_0f7a4_11 ?_
  refine aw_iand B dJ6_bitCount_0f7a4_14 ?_
  refine aw_iload_n B 0 rfl dJ6_bitCount_0f7a4_15 rfl ?_
  refine aw_iconst B 2 (by decide) dJ6_bitCount_0f7a4_16 ?_
  refine aw_iushr B _ rfl dJ6_bitCount_0f7a4_17 ?_
  refine aw_ldcw B cn_J6_266 dJ6_bitCount_0f7a4_18 ?_
  refine aw_iand B dJ6_bitCount_0f7a4_21 ?_
  refine aw_iadd B dJ6_bitCount_0f7a4_22 ?_
  refine aw_istore0 B dJ6_bitCount_0f7a4_23 ?_
  refine aw_iload_n B 0 rfl dJ6_bitCount_0f7a4_24 rfl ?_
  refine aw_iload_n B 0 rfl dJ6_bitCount_0f7a4_25 rfl ?_
  refine aw_iconst B 4 (by decide) dJ6_bitCount_0f7a4_26 ?_
  refine aw_iushr B _ rfl dJ6_bitCount_0f7a4_27 ?_
  refine aw_iadd B dJ6_bitCount_0f7a4_28 ?_
  refine aw_ldcw B cn_J6_267 dJ6_bitCount_0f7a4_29 ?_
  refine aw_iand B dJ6_bitCount_0f7a4_32 ?_
  refine aw_istore0 B dJ6_bitCount_0f7a4_33 ?_
  refine aw_iload_n B 0 rfl dJ6_bitCount_0f7a4_34 rfl ?_
  refine aw_iload_n B 0 rfl dJ6_bitCount_0f7a4_35 rfl ?_
  refine aw_bipush B 8 (by decide) dJ6_bitCount_0f7a4_36 ?_
  refine aw_iushr B _ rfl dJ6_bitCount_0f7a4_38 ?_
  refine aw_iadd B dJ6_bitCount_0f7a4_39 ?_
  refine aw_istore0 B dJ6_bitCount_0f7a4_40 ?_
  refine aw_iload_n B 0 rfl dJ6_bitCount_0f7a4_41 rfl ?_
  refine aw_iload_n B 0 rfl dJ6_bitCount_0f7a4_42 rfl ?_
  refine aw_bipush B 16 (by decide) dJ6_bitCount_0f7a4_43 ?_
  refine aw_iushr B _ rfl dJ6_bitCount_0f7a4_45 ?_
  refine aw_iadd B dJ6_bitCount_0f7a4_46 ?_
  refine aw_istore0 B dJ6_bitCount_0f7a4_47 ?_
  refine aw_iload_n B 0 rfl dJ6_bitCount_0f7a4_48 rfl ?_
  refine aw_bipush B 63 (by decide) dJ6_bitCount_0f7a4_49 ?_
  refine aw_iand B dJ6_bitCount_0f7a4_51 ?_
  refine aw_iret B rfl rfl dJ6_bitCount_0f7a4_52 ?_
  exact ⟨_, rfl, bcE_d p hp, rfl⟩
theorem dX4_hoursOf_0 : decode cX4_hoursOf 0 = .ok (.iload_n 1, 1) := by decide +kernel
theorem dX4_hoursOf_1 : decode cX4_hoursOf 1 = .ok (.ifCond .lt 18, 3) := by decide +kernel
theorem dX4_hoursOf_4 : decode cX4_hoursOf 4 = .ok (.iload_n 1, 1) := by decide +kernel
theorem dX4_hoursOf_5 : decode cX4_hoursOf 5 = .ok (.bipush 64, 2) := by decide +kernel
theorem dX4_hoursOf_7 : decode cX4_hoursOf 7 = .ok (.if_icmp .ge 12, 3) := by decide +kernel
theorem dX4_hoursOf_10 : decode cX4_hoursOf 10 = .ok (.aload_n 0, 1) := by decide +kernel
theorem dX4_hoursOf_11 : decode cX4_hoursOf 11 = .ok (.getfield 23, 3) := by decide +kernel
theorem dX4_hoursOf_14 : decode cX4_hoursOf 14 = .ok (.iload_n 1, 1) := by decide +kernel
theorem dX4_hoursOf_15 : decode cX4_hoursOf 15 = .ok (.iaload, 1) := by decide +kernel
theorem dX4_hoursOf_16 : decode cX4_hoursOf 16 = .ok (.goto 5, 3) := by decide +kernel
theorem dX4_hoursOf_19 : decode cX4_hoursOf 19 = .ok (.bipush (-5), 2) := by decide +kernel
theorem dX4_hoursOf_21 : decode cX4_hoursOf 21 = .ok (.ireturn, 1) := by decide +kernel
set_option maxRecDepth 100000 in
set_option maxHeartbeats 4000000 in
theorem s_hoursOf (l : Launch) (g : zG) (h : Hp) (o : Nat) (st rd : Value) (al : Int32) (be ro br so : Nat → Int32) (ask : Int32) (p : Nat) (hp : p < 64) (hI : oI g h o st rd al be ro br so ask) : Sp l g yX4_hoursOf cX4_hoursOf 2 (some .int) (rmz 1) [.ref o, .int (nI p)] (h) (zI fun r h' => r = be p ∧ h' = h) := by
  refine Sp.of [some (.ref o), some (.int (nI p))] (by decide) (Nat.le_of_ble_eq_true rfl) rfl rfl ?_
  rintro X rfl hr rfl B
  show AW X 0 0 0 _ _ _ _
  refine aw_iload_n B 1 rfl dX4_hoursOf_0 rfl ?_
  refine aw_if_lt B 19 dX4_hoursOf_1 (fun c1 => absurd c1 (Int32.not_lt.mpr (nI_pos' (by omega)))) (fun c1 => ?_)
  refine aw_iload_n B 1 rfl dX4_hoursOf_4 rfl ?_
  refine aw_bipush B 64 (by decide) dX4_hoursOf_5 ?_
  refine aw_icmp_ge B 19 dX4_hoursOf_7 (fun c7 => absurd c7 (Int32.not_le.mpr (nI_lt hp (by decide)))) (fun c7 => ?_)
  refine aw_aload_n B 0 rfl dX4_hoursOf_10 rfl ?_
  refine aw_get B f_X4_23 dX4_hoursOf_11 hI.o rfl ?_
  refine aw_iload_n B 1 rfl dX4_hoursOf_14 rfl ?_
  refine aw_iald B dX4_hoursOf_15 hI.b (vp_in_nI hp (by decide)) ?_
  rw [nI_clamp (by omega)]
  refine aw_goto B 21 dX4_hoursOf_16 ?_
  refine aw_iret B rfl rfl dX4_hoursOf_21 ?_
  exact ⟨_, rfl, rfl, rfl⟩
theorem dX4_kth_0 : decode cX4_kth 0 = .ok (.iload_n 1, 1) := by decide +kernel
theorem dX4_kth_1 : decode cX4_kth 1 = .ok (.ifCond .lt 24, 3) := by decide +kernel
theorem dX4_kth_4 : decode cX4_kth 4 = .ok (.iload_n 1, 1) := by decide +kernel
theorem dX4_kth_5 : decode cX4_kth 5 = .ok (.bipush 6, 2) := by decide +kernel
theorem dX4_kth_7 : decode cX4_kth 7 = .ok (.if_icmp .ge 18, 3) := by decide +kernel
theorem dX4_kth_10 : decode cX4_kth 10 = .ok (.iload_n 1, 1) := by decide +kernel
theorem dX4_kth_11 : decode cX4_kth 11 = .ok (.aload_n 0, 1) := by decide +kernel
theorem dX4_kth_12 : decode cX4_kth 12 = .ok (.getfield 19, 3) := by decide +kernel
theorem dX4_kth_15 : decode cX4_kth 15 = .ok (.invokestatic 59, 3) := by decide +kernel
theorem dX4_kth_18 : decode cX4_kth 18 = .ok (.if_icmp .ge 7, 3) := by decide +kernel
theorem dX4_kth_21 : decode cX4_kth 21 = .ok (.iconst 1, 1) := by decide +kernel
theorem dX4_kth_22 : decode cX4_kth 22 = .ok (.goto 4, 3) := by decide +kernel
theorem dX4_kth_25 : decode cX4_kth 25 = .ok (.iconst 0, 1) := by decide +kernel
theorem dX4_kth_26 : decode cX4_kth 26 = .ok (.istore_n 2, 1) := by decide +kernel
theorem dX4_kth_27 : decode cX4_kth 27 = .ok (.iload_n 2, 1) := by decide +kernel
theorem dX4_kth_28 : decode cX4_kth 28 = .ok (.ifCond .eq 25, 3) := by decide +kernel
theorem dX4_kth_31 : decode cX4_kth 31 = .ok (.aload_n 0, 1) := by decide +kernel
theorem dX4_kth_32 : decode cX4_kth 32 = .ok (.aload_n 0, 1) := by decide +kernel
theorem dX4_kth_33 : decode cX4_kth 33 = .ok (.getfield 19, 3) := by decide +kernel
theorem dX4_kth_36 : decode cX4_kth 36 = .ok (.invokevirtual 65, 3) := by decide +kernel
theorem dX4_kth_39 : decode cX4_kth 39 = .ok (.bipush (-5), 2) := by decide +kernel
theorem dX4_kth_41 : decode cX4_kth 41 = .ok (.if_icmp .eq 12, 3) := by decide +kernel
theorem dX4_kth_44 : decode cX4_kth 44 = .ok (.aload_n 0, 1) := by decide +kernel
theorem dX4_kth_45 : decode cX4_kth 45 = .ok (.getfield 30, 3) := by decide +kernel
theorem dX4_kth_48 : decode cX4_kth 48 = .ok (.iload_n 1, 1) := by decide +kernel
theorem dX4_kth_49 : decode cX4_kth 49 = .ok (.iaload, 1) := by decide +kernel
theorem dX4_kth_50 : decode cX4_kth 50 = .ok (.goto 5, 3) := by decide +kernel
theorem dX4_kth_53 : decode cX4_kth 53 = .ok (.bipush (-5), 2) := by decide +kernel
theorem dX4_kth_55 : decode cX4_kth 55 = .ok (.ireturn, 1) := by decide +kernel
set_option maxRecDepth 100000 in
set_option maxHeartbeats 4000000 in
theorem s_kth (l : Launch) (g : zG) (h : Hp) (o : Nat) (st rd : Value) (all : Nat) (be ro br so : Nat → Int32) (ask : Int32) (j : Nat) (hp : all < 64) (hj : j < 6) (hI : oI g h o st rd (nI all) be ro br so ask) : Sp l g yX4_kth cX4_kth 3 (some .int) (rmz 2) [.ref o, .int (nI j)] (h) (zI fun r h' => r = (if j < pcnt all ∧ ¬ be all = -5 then br j else -5) ∧ h' = h) := by
  refine Sp.of [some (.ref o), some (.int (nI j)), none] (by decide) (Nat.le_of_ble_eq_true rfl) rfl rfl ?_
  rintro X rfl hr rfl B
  show AW X 0 0 0 _ _ _ _
  refine aw_iload_n B 1 rfl dX4_kth_0 rfl ?_
  refine aw_if_lt B 25 dX4_kth_1 (fun c1 => absurd c1 (Int32.not_lt.mpr (nI_pos' (by omega)))) (fun c1 => ?_)
  refine aw_iload_n B 1 rfl dX4_kth_4 rfl ?_
  refine aw_bipush B 6 (by decide) dX4_kth_5 ?_
  refine aw_icmp_ge B 25 dX4_kth_7 (fun c7 => absurd c7 (Int32.not_le.mpr (nI_lt hj (by decide)))) (fun c7 => ?_)
  refine aw_iload_n B 1 rfl dX4_kth_10 rfl ?_
  refine aw_aload_n B 0 rfl dX4_kth_11 rfl ?_
  refine aw_get B f_X4_19 dX4_kth_12 hI.o rfl ?_
  refine aw_callS B 0 0 (s_bitCount _ _ _ all hp) co_J6_bitCount_0f7a4 k_X4_59 dX4_kth_15 rfl rfl (Nat.le_of_ble_eq_true rfl) (zrm hr (by omega)) (Nat.le_refl _) (Nat.le_refl _) (kI fun r15 h15 hp15 => ?_)
  obtain ⟨rfl, e15⟩ := hp15
  rw [e15]
  refine aw_icmp_ge B 25 dX4_kth_18 (fun c18 => ?_) (fun c18 => ?_)
  · refine aw_iconst B 0 (by decide) dX4_kth_25 ?_
    refine aw_istore2 B dX4_kth_26 ?_
    refine aw_iload_n B 2 rfl dX4_kth_27 rfl ?_
    refine aw_if_eq B 53 dX4_kth_28 (fun c28 => ?_) (fun c28 => absurd rfl c28)
    refine aw_bipush B (-5) (by decide) dX4_kth_53 ?_
    refine aw_iret B rfl rfl dX4_kth_55 ?_
    exact ⟨_, rfl, by rw [if_neg (fun z => absurd z.1 (Nat.not_lt.mpr ((nI_leI (by have := pc_6 all hp; omega) (by omega)).mp c18)))], rfl⟩
  · refine aw_iconst B 1 (by decide) dX4_kth_21 ?_
    refine aw_goto B 26 dX4_kth_22 ?_
    refine aw_istore2 B dX4_kth_26 ?_
    refine aw_iload_n B 2 rfl dX4_kth_27 rfl ?_
    refine aw_if_eq B 53 dX4_kth_28 (fun c28 => absurd c28 (by decide)) (fun c28 => ?_)
    refine aw_aload_n B 0 rfl dX4_kth_31 rfl ?_
    refine aw_aload_n B 0 rfl dX4_kth_32 rfl ?_
    refine aw_get B f_X4_19 dX4_kth_33 hI.o rfl ?_
    refine aw_callV B 0 0 (s_hoursOf _ _ _ o _ _ _ _ _ _ _ _ all hp hI) co_X4_hoursOf k_X4_65 dX4_kth_36 hI.o rfl rfl rfl rfl (Nat.le_of_ble_eq_true rfl) (zrm hr (by omega)) (Nat.le_refl _) (Nat.le_refl _) (kI fun r36 h36 hp36 => ?_)
    obtain ⟨rfl, e36⟩ := hp36
    rw [e36]
    refine aw_bipush B (-5) (by decide) dX4_kth_39 ?_
    refine aw_icmp_eq B 53 dX4_kth_41 (fun c41 => ?_) (fun c41 => ?_)
    · refine aw_bipush B (-5) (by decide) dX4_kth_53 ?_
      refine aw_iret B rfl rfl dX4_kth_55 ?_
      exact ⟨_, rfl, by rw [if_neg (fun z => z.2 c41)], rfl⟩
    · refine aw_aload_n B 0 rfl dX4_kth_44 rfl ?_
      refine aw_get B f_X4_30 dX4_kth_45 hI.o rfl ?_
      refine aw_iload_n B 1 rfl dX4_kth_48 rfl ?_
      refine aw_iald B dX4_kth_49 hI.r (vp_in_nI hj (by decide)) ?_
      rw [nI_clamp (by omega)]
      refine aw_goto B 55 dX4_kth_50 ?_
      refine aw_iret B rfl rfl dX4_kth_55 ?_
      exact ⟨_, rfl, by rw [if_pos ⟨((nI_ltI (by omega) (by have := pc_6 all hp; omega)).mp (Int32.not_le.mp c18)), c41⟩], rfl⟩
theorem dX4_begin_0 : decode cX4_begin 0 = .ok (.aload_n 0, 1) := by decide +kernel
theorem dX4_begin_1 : decode cX4_begin 1 = .ok (.aload_n 1, 1) := by decide +kernel
theorem dX4_begin_2 : decode cX4_begin 2 = .ok (.putfield 9, 3) := by decide +kernel
theorem dX4_begin_5 : decode cX4_begin 5 = .ok (.aload_n 0, 1) := by decide +kernel
theorem dX4_begin_6 : decode cX4_begin 6 = .ok (.aload_n 2, 1) := by decide +kernel
theorem dX4_begin_7 : decode cX4_begin 7 = .ok (.putfield 15, 3) := by decide +kernel
theorem dX4_begin_10 : decode cX4_begin 10 = .ok (.aload_n 0, 1) := by decide +kernel
theorem dX4_begin_11 : decode cX4_begin 11 = .ok (.iload_n 3, 1) := by decide +kernel
theorem dX4_begin_12 : decode cX4_begin 12 = .ok (.putfield 19, 3) := by decide +kernel
theorem dX4_begin_15 : decode cX4_begin 15 = .ok (.aload_n 0, 1) := by decide +kernel
theorem dX4_begin_16 : decode cX4_begin 16 = .ok (.dup, 1) := by decide +kernel
theorem dX4_begin_17 : decode cX4_begin 17 = .ok (.getfield 36, 3) := by decide +kernel
theorem dX4_begin_20 : decode cX4_begin 20 = .ok (.iconst 1, 1) := by decide +kernel
theorem dX4_begin_21 : decode cX4_begin 21 = .ok (.iadd, 1) := by decide +kernel
theorem dX4_begin_22 : decode cX4_begin 22 = .ok (.putfield 36, 3) := by decide +kernel
theorem dX4_begin_25 : decode cX4_begin 25 = .ok (.aload_n 0, 1) := by decide +kernel
theorem dX4_begin_26 : decode cX4_begin 26 = .ok (.getfield 23, 3) := by decide +kernel
theorem dX4_begin_29 : decode cX4_begin 29 = .ok (.bipush (-5), 2) := by decide +kernel
theorem dX4_begin_31 : decode cX4_begin 31 = .ok (.invokestatic 39, 3) := by decide +kernel
theorem dX4_begin_34 : decode cX4_begin 34 = .ok (.return_, 1) := by decide +kernel
set_option maxRecDepth 100000 in
set_option maxHeartbeats 4000000 in
theorem s_begin (l : Launch) (g : zG) (h : Hp) (o s a : Nat) (st rd : Value) (al al2 : Int32) (be ro br so : Nat → Int32) (ask : Nat) : Sp l g yX4_begin cX4_begin 4 none (rmz 2) [.ref o, .ref s, .ref a, .int al2] (hO g h o st rd al be ro br so (nI ask)) (zV fun h' => h' = hO g h o (.ref s) (.ref a) al2 (fun i => if i < 64 then -5 else be i) ro br so (nI (ask + 1))) := by
  refine Sp.of [some (.ref o), some (.ref s), some (.ref a), some (.int al2)] (by decide) (Nat.le_of_ble_eq_true rfl) rfl rfl ?_
  rintro X rfl hr rfl B
  show AW X 0 0 0 _ _ _ _
  refine aw_aload_n B 0 rfl dX4_begin_0 rfl ?_
  refine aw_aload_n B 1 rfl dX4_begin_1 rfl ?_
  refine o_pst B f_X4_9 dX4_begin_2 ?_
  refine aw_aload_n B 0 rfl dX4_begin_5 rfl ?_
  refine aw_aload_n B 2 rfl dX4_begin_6 rfl ?_
  refine o_prd B f_X4_15 dX4_begin_7 ?_
  refine aw_aload_n B 0 rfl dX4_begin_10 rfl ?_
  refine aw_iload_n B 3 rfl dX4_begin_11 rfl ?_
  refine o_pal B f_X4_19 dX4_begin_12 ?_
  refine aw_aload_n B 0 rfl dX4_begin_15 rfl ?_
  refine aw_dup B rfl dX4_begin_16 ?_
  refine aw_get B f_X4_36 dX4_begin_17 hO_o rfl ?_
  refine aw_iconst B 1 (by decide) dX4_begin_20 ?_
  refine aw_iadd B dX4_begin_21 ?_
  rw [nI_1]
  refine o_pas B f_X4_36 dX4_begin_22 ?_
  refine aw_aload_n B 0 rfl dX4_begin_25 rfl ?_
  refine aw_get B f_X4_23 dX4_begin_26 hO_o rfl ?_
  refine aw_bipush B (-5) (by decide) dX4_begin_29 ?_
  refine aw_callS B 0 0 (s_fill _ _ _ (o + 1) 64 be (-5) (by decide) hO_1) co_J7_fill_53178 k_X4_39 dX4_begin_31 rfl rfl (Nat.le_of_ble_eq_true rfl) (zrm hr (by omega)) (Nat.le_refl _) (Nat.le_refl _) (kV fun h31 hp31 => ?_)
  rw [o_u1] at hp31
  obtain rfl := hp31
  refine aw_vret B rfl dX4_begin_34 ?_
  exact ⟨rfl, rfl⟩
