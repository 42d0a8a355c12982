theorem eu_b {fu x y : Nat} (hy : 0 < y) (hy2 : y ≤ 10 ^ 12) (h : fu + 1 = 100 ∨ (y < x ∧ x * y < 2 ^ (fu + 1))) : x % y < y ∧ y * (x % y) < 2 ^ fu := by
  have hm := Nat.mod_lt x hy
  refine ⟨hm, ?_⟩
  rcases h with h | ⟨h1, h2⟩
  · have e : fu = 99 := by omega
    rw [e]
    have a1 : y * (x % y) ≤ 10 ^ 12 * 10 ^ 12 := Nat.mul_le_mul hy2 (by omega)
    have a2 : (10 : Nat) ^ 12 * 10 ^ 12 < 2 ^ 99 := by decide
    omega
  · have hd := Nat.div_add_mod x y
    have hq : 1 ≤ x / y := (Nat.one_le_div_iff hy).mpr (by omega)
    have h3 : y * 1 ≤ y * (x / y) := Nat.mul_le_mul_left y hq
    have h4 : 2 * (x % y) ≤ x := by omega
    have h5 : y * (2 * (x % y)) ≤ y * x := Nat.mul_le_mul_left y h4
    rw [Nat.pow_succ] at h2
    have e1 : y * (2 * (x % y)) = 2 * (y * (x % y)) := by rw [Nat.mul_left_comm]
    have e2 : y * x = x * y := Nat.mul_comm _ _
    omega
theorem low_eq {a b c d : Nat} (h : a * d = c * b) (hb : 0 < b) (hd : 0 < d) (q : Int32) : lowL a b q = lowL c d q := by
  have e1 : a / Nat.gcd a b = c / Nat.gcd c d := by
    rw [← Nat.mul_div_mul_right a _ hd, ← Nat.mul_div_mul_right c _ hb, ← Nat.gcd_mul_right, ← Nat.gcd_mul_right, h, Nat.mul_comm b d]
  have e2 : b / Nat.gcd a b = d / Nat.gcd c d := by
    rw [← Nat.mul_div_mul_right b _ hd, ← Nat.mul_div_mul_right d _ hb, ← Nat.gcd_mul_right, ← Nat.gcd_mul_right, h, Nat.mul_comm b d]
  unfold lowL
  rw [e1, e2]
theorem dX11_lowestTerms_0 : decode cX11_lowestTerms 0 = .ok (.lload_n 0, 1) := by decide +kernel
theorem dX11_lowestTerms_1 : decode cX11_lowestTerms 1 = .ok (.lstore 5, 2) := by decide +kernel
theorem dX11_lowestTerms_3 : decode cX11_lowestTerms 3 = .ok (.lload_n 2, 1) := by decide +kernel
theorem dX11_lowestTerms_4 : decode cX11_lowestTerms 4 = .ok (.lstore 7, 2) := by decide +kernel
theorem dX11_lowestTerms_6 : decode cX11_lowestTerms 6 = .ok (.iconst 0, 1) := by decide +kernel
theorem dX11_lowestTerms_7 : decode cX11_lowestTerms 7 = .ok (.istore 9, 2) := by decide +kernel
theorem dX11_lowestTerms_9 : decode cX11_lowestTerms 9 = .ok (.iload 9, 2) := by decide +kernel
theorem dX11_lowestTerms_11 : decode cX11_lowestTerms 11 = .ok (.bipush 100, 2) := by decide +kernel
theorem dX11_lowestTerms_13 : decode cX11_lowestTerms 13 = .ok (.if_icmp .ge 31, 3) := by decide +kernel
theorem dX11_lowestTerms_16 : decode cX11_lowestTerms 16 = .ok (.lload 7, 2) := by decide +kernel
theorem dX11_lowestTerms_18 : decode cX11_lowestTerms 18 = .ok (.lconst 0, 1) := by decide +kernel
theorem dX11_lowestTerms_19 : decode cX11_lowestTerms 19 = .ok (.lcmp, 1) := by decide +kernel
theorem dX11_lowestTerms_20 : decode cX11_lowestTerms 20 = .ok (.ifCond .eq 24, 3) := by decide +kernel
theorem dX11_lowestTerms_23 : decode cX11_lowestTerms 23 = .ok (.lload 5, 2) := by decide +kernel
theorem dX11_lowestTerms_25 : decode cX11_lowestTerms 25 = .ok (.lload 7, 2) := by decide +kernel
theorem dX11_lowestTerms_27 : decode cX11_lowestTerms 27 = .ok (.lrem, 1) := by decide +kernel
theorem dX11_lowestTerms_28 : decode cX11_lowestTerms 28 = .ok (.lstore 10, 2) := by decide +kernel
theorem dX11_lowestTerms_30 : decode cX11_lowestTerms 30 = .ok (.lload 7, 2) := by decide +kernel
theorem dX11_lowestTerms_32 : decode cX11_lowestTerms 32 = .ok (.lstore 5, 2) := by decide +kernel
theorem dX11_lowestTerms_34 : decode cX11_lowestTerms 34 = .ok (.lload 10, 2) := by decide +kernel
theorem dX11_lowestTerms_36 : decode cX11_lowestTerms 36 = .ok (.lstore 7, 2) := by decide +kernel
theorem dX11_lowestTerms_38 : decode cX11_lowestTerms 38 = .ok (.iinc 9 1, 3) := by decide +kernel
theorem dX11_lowestTerms_41 : decode cX11_lowestTerms 41 = .ok (.goto (-32), 3) := by decide +kernel
theorem dX11_lowestTerms_44 : decode cX11_lowestTerms 44 = .ok (.lload 5, 2) := by decide +kernel
theorem dX11_lowestTerms_46 : decode cX11_lowestTerms 46 = .ok (.lconst 0, 1) := by decide +kernel
theorem dX11_lowestTerms_47 : decode cX11_lowestTerms 47 = .ok (.lcmp, 1) := by decide +kernel
theorem dX11_lowestTerms_48 : decode cX11_lowestTerms 48 = .ok (.ifCond .ne 7, 3) := by decide +kernel
theorem dX11_lowestTerms_51 : decode cX11_lowestTerms 51 = .ok (.ldc2_w 190, 3) := by decide +kernel
theorem dX11_lowestTerms_54 : decode cX11_lowestTerms 54 = .ok (.lreturn, 1) := by decide +kernel
theorem dX11_lowestTerms_55 : decode cX11_lowestTerms 55 = .ok (.iload 4, 2) := by decide +kernel
theorem dX11_lowestTerms_57 : decode cX11_lowestTerms 57 = .ok (.ifCond .ne 10, 3) := by decide +kernel
theorem dX11_lowestTerms_60 : decode cX11_lowestTerms 60 = .ok (.lload_n 0, 1) := by decide +kernel
theorem dX11_lowestTerms_61 : decode cX11_lowestTerms 61 = .ok (.lload 5, 2) := by decide +kernel
theorem dX11_lowestTerms_63 : decode cX11_lowestTerms 63 = .ok (.ldiv, 1) := by decide +kernel
theorem dX11_lowestTerms_64 : decode cX11_lowestTerms 64 = .ok (.goto 7, 3) := by decide +kernel
theorem dX11_lowestTerms_67 : decode cX11_lowestTerms 67 = .ok (.lload_n 2, 1) := by decide +kernel
theorem dX11_lowestTerms_68 : decode cX11_lowestTerms 68 = .ok (.lload 5, 2) := by decide +kernel
theorem dX11_lowestTerms_70 : decode cX11_lowestTerms 70 = .ok (.ldiv, 1) := by decide +kernel
theorem dX11_lowestTerms_71 : decode cX11_lowestTerms 71 = .ok (.lreturn, 1) := by decide +kernel
set_option maxRecDepth 100000 in
set_option maxHeartbeats 4000000 in
theorem x_low (l : Launch) (g : zG) (h : Hp) (a b : Nat) (q : Int32) (ha : a ≤ 10 ^ 12) (hb : b ≤ 10 ^ 12) (hb0 : 0 < b) : Sp l g yX11_lowestTerms cX11_lowestTerms 12 (some .long) (rmz 1) [.long (lN a), .long (lN b), .int q] (h) (zJ fun r h' => r = lowL a b q ∧ h' = h) := by
  refine Sp.of [some (.long (lN a)), none, some (.long (lN b)), none, some (.int q), none, none, none, none, none, none, none] (by decide) (Nat.le_of_ble_eq_true rfl) rfl rfl ?_
  rintro X rfl hr rfl B
  show AW X 0 0 0 _ _ _ _
  have r44 : ∀ (x y i : Nat) (o1 : Option Value), 0 < x → x ≤ 10 ^ 12 → x = Nat.gcd a b → AW X 0 0 44 [some (.long (lN a)), none, some (.long (lN b)), none, some (.int q), some (.long (lN x)), none, some (.long (lN y)), none, some (.int (nI i)), o1, none] [] h (zJ fun r h' => r = lowL a b q ∧ h' = h) := by
    intro x y i o1 hx0 hx hg
    refine aw_lload B dX11_lowestTerms_44 rfl ?_
    refine aw_lconst B 0 (by decide) dX11_lowestTerms_46 ?_
    refine aw_lcmp B dX11_lowestTerms_47 ?_
    refine aw_if_ne B 55 dX11_lowestTerms_48 (fun c48 => ?_) (fun c48 => absurd (lcmp0.mp c48) (fun z => by have := (pk_lEQ (b := 0) (by omega) (by decide)).mp z; omega))
    refine aw_iload B dX11_lowestTerms_55 rfl ?_
    refine aw_if_ne B 67 dX11_lowestTerms_57 (fun c57 => ?_) (fun c57 => ?_)
    · refine aw_lload_n B 2 rfl dX11_lowestTerms_67 rfl ?_
      refine aw_lload B dX11_lowestTerms_68 rfl ?_
      refine aw_ldiv B (fun z => by have := (pk_lEQ (b := 0) (by omega) (by decide)).mp z; omega) dX11_lowestTerms_70 ?_
      refine aw_lret B rfl dX11_lowestTerms_71 ?_
      exact ⟨_, rfl, by rw [pk_lDiv (by omega) (by omega) (by omega)]; unfold lowL; rw [if_neg c57, hg], rfl⟩
    · refine aw_lload_n B 0 rfl dX11_lowestTerms_60 rfl ?_
      refine aw_lload B dX11_lowestTerms_61 rfl ?_
      refine aw_ldiv B (fun z => by have := (pk_lEQ (b := 0) (by omega) (by decide)).mp z; omega) dX11_lowestTerms_63 ?_
      refine aw_goto B 71 dX11_lowestTerms_64 ?_
      refine aw_lret B rfl dX11_lowestTerms_71 ?_
      exact ⟨_, rfl, by rw [pk_lDiv (by omega) (by omega) (by omega)]; unfold lowL; rw [if_pos c57, hg], rfl⟩
  have lp : ∀ (fu i x y : Nat) (o1 : Option Value), fu + i = 100 → Nat.gcd x y = Nat.gcd a b → 0 < x ∨ 0 < y → x ≤ 10 ^ 12 → y ≤ 10 ^ 12 → (fu = 100 ∧ 0 < y ∨ (y < x ∧ x * y < 2 ^ fu)) → AW X 0 0 9 [some (.long (lN a)), none, some (.long (lN b)), none, some (.int q), some (.long (lN x)), none, some (.long (lN y)), none, some (.int (nI i)), o1, none] [] h (zJ fun r h' => r = lowL a b q ∧ h' = h) := by
    intro fu
    induction fu with
    | zero =>
      intro i x y o1 hb hg hp hx hy hbd
      obtain rfl : i = 100 := by omega
      have hy0 : y = 0 := by
        rcases hbd with z | ⟨z1, z2⟩
        · omega
        · rcases Nat.eq_zero_or_pos y with z | z
          · exact z
          · have : 1 * 1 ≤ x * y := Nat.mul_le_mul (by omega) z
            omega
      subst hy0
      rw [Nat.gcd_zero_right] at hg
      refine aw_iload B dX11_lowestTerms_9 rfl ?_
      refine aw_bipush B 100 (by decide) dX11_lowestTerms_11 ?_
      refine aw_icmp_ge B 44 dX11_lowestTerms_13 (fun c13 => ?_) (fun c13 => absurd (Int32.le_refl _) c13)
      exact r44 x 0 100 o1 (by omega) hx hg
    | succ fu ih =>
      intro i x y o1 hb hg hp hx hy hbd
      refine aw_iload B dX11_lowestTerms_9 rfl ?_
      refine aw_bipush B 100 (by decide) dX11_lowestTerms_11 ?_
      refine aw_icmp_ge B 44 dX11_lowestTerms_13 (fun c13 => absurd ((nI_leI (a := 100) (by decide) (by omega)).mp c13) (by omega)) (fun c13 => ?_)
      refine aw_lload B dX11_lowestTerms_16 rfl ?_
      refine aw_lconst B 0 (by decide) dX11_lowestTerms_18 ?_
      refine aw_lcmp B dX11_lowestTerms_19 ?_
      refine aw_if_eq B 44 dX11_lowestTerms_20 (fun c20 => ?_) (fun c20 => ?_)
      · have hy0 : y = 0 := (pk_lEQ (b := 0) (by omega) (by decide)).mp (lcmp0.mp c20)
        subst hy0
        rw [Nat.gcd_zero_right] at hg
        exact r44 x 0 i o1 (by omega) hx hg
      · have hy0 : 0 < y := Nat.pos_of_ne_zero fun z => c20 (lcmp0.mpr (by rw [z]; rfl))
        refine aw_lload B dX11_lowestTerms_23 rfl ?_
        refine aw_lload B dX11_lowestTerms_25 rfl ?_
        refine aw_lrem B (fun z => by have := (pk_lEQ (b := 0) (by omega) (by decide)).mp z; omega) dX11_lowestTerms_27 ?_
        refine aw_lstore B dX11_lowestTerms_28 (by decide) rfl ?_
        refine aw_lload B dX11_lowestTerms_30 rfl ?_
        refine aw_lstore5 B dX11_lowestTerms_32 ?_
        refine aw_lload B dX11_lowestTerms_34 rfl ?_
        refine aw_lstore7 B dX11_lowestTerms_36 ?_
        refine aw_iinc9 B 1 (by decide) dX11_lowestTerms_38 ?_
        refine aw_goto B 9 dX11_lowestTerms_41 ?_
        rw [pk_lRem (by omega) hy0 (by omega), nI_1]
        exact AW.weak (lv' := [some (.long (lN a)), none, some (.long (lN b)), none, some (.int q), some (.long (lN y)), none, some (.long (lN (x % y))), none, some (.int (nI (i + 1))), none, none]) ⟨Or.inr rfl, Or.inr rfl, Or.inr rfl, Or.inr rfl, Or.inr rfl, Or.inr rfl, Or.inr rfl, Or.inr rfl, Or.inr rfl, Or.inr rfl, Or.inl rfl, Or.inr rfl, trivial⟩ (ih (i + 1) y (x % y) none (by omega) (by rw [← hg, Nat.gcd_comm x y, Nat.gcd_rec y x, Nat.gcd_comm]) (Or.inl hy0) hy (by have := Nat.mod_lt x hy0; omega) (Or.inr (eu_b hy0 hy (hbd.imp (fun z => z.1) (fun z => z)))))
  refine aw_lload_n B 0 rfl dX11_lowestTerms_0 rfl ?_
  refine aw_lstore5 B dX11_lowestTerms_1 ?_
  refine aw_lload_n B 2 rfl dX11_lowestTerms_3 rfl ?_
  refine aw_lstore7 B dX11_lowestTerms_4 ?_
  refine aw_iconst B 0 (by decide) dX11_lowestTerms_6 ?_
  refine aw_istore9 B dX11_lowestTerms_7 ?_
  exact lp 100 0 a b none (by omega) rfl (Or.inr hb0) ha hb (Or.inl ⟨rfl, hb0⟩)
theorem dX11_mean_0 : decode cX11_mean 0 = .ok (.iload_n 1, 1) := by decide +kernel
theorem dX11_mean_1 : decode cX11_mean 1 = .ok (.iconst 1, 1) := by decide +kernel
theorem dX11_mean_2 : decode cX11_mean 2 = .ok (.if_icmp .lt 16, 3) := by decide +kernel
theorem dX11_mean_5 : decode cX11_mean 5 = .ok (.iload_n 1, 1) := by decide +kernel
theorem dX11_mean_6 : decode cX11_mean 6 = .ok (.bipush 60, 2) := by decide +kernel
theorem dX11_mean_8 : decode cX11_mean 8 = .ok (.if_icmp .gt 10, 3) := by decide +kernel
theorem dX11_mean_11 : decode cX11_mean 11 = .ok (.iload_n 2, 1) := by decide +kernel
theorem dX11_mean_12 : decode cX11_mean 12 = .ok (.invokestatic 96, 3) := by decide +kernel
theorem dX11_mean_15 : decode cX11_mean 15 = .ok (.ifCond .ne 7, 3) := by decide +kernel
theorem dX11_mean_18 : decode cX11_mean 18 = .ok (.ldc2_w 190, 3) := by decide +kernel
theorem dX11_mean_21 : decode cX11_mean 21 = .ok (.lreturn, 1) := by decide +kernel
theorem dX11_mean_22 : decode cX11_mean 22 = .ok (.lconst 0, 1) := by decide +kernel
theorem dX11_mean_23 : decode cX11_mean 23 = .ok (.lstore_n 3, 1) := by decide +kernel
theorem dX11_mean_24 : decode cX11_mean 24 = .ok (.iconst 0, 1) := by decide +kernel
theorem dX11_mean_25 : decode cX11_mean 25 = .ok (.istore 5, 2) := by decide +kernel
theorem dX11_mean_27 : decode cX11_mean 27 = .ok (.iload 5, 2) := by decide +kernel
theorem dX11_mean_29 : decode cX11_mean 29 = .ok (.iload_n 1, 1) := by decide +kernel
theorem dX11_mean_30 : decode cX11_mean 30 = .ok (.if_icmp .ge 19, 3) := by decide +kernel
theorem dX11_mean_33 : decode cX11_mean 33 = .ok (.lload_n 3, 1) := by decide +kernel
theorem dX11_mean_34 : decode cX11_mean 34 = .ok (.aload_n 0, 1) := by decide +kernel
theorem dX11_mean_35 : decode cX11_mean 35 = .ok (.iload 5, 2) := by decide +kernel
theorem dX11_mean_37 : decode cX11_mean 37 = .ok (.invokevirtual 140, 3) := by decide +kernel
theorem dX11_mean_40 : decode cX11_mean 40 = .ok (.i2l, 1) := by decide +kernel
theorem dX11_mean_41 : decode cX11_mean 41 = .ok (.ladd, 1) := by decide +kernel
theorem dX11_mean_42 : decode cX11_mean 42 = .ok (.lstore_n 3, 1) := by decide +kernel
theorem dX11_mean_43 : decode cX11_mean 43 = .ok (.iinc 5 1, 3) := by decide +kernel
theorem dX11_mean_46 : decode cX11_mean 46 = .ok (.goto (-19), 3) := by decide +kernel
theorem dX11_mean_49 : decode cX11_mean 49 = .ok (.lload_n 3, 1) := by decide +kernel
theorem dX11_mean_50 : decode cX11_mean 50 = .ok (.iload_n 1, 1) := by decide +kernel
theorem dX11_mean_51 : decode cX11_mean 51 = .ok (.i2l, 1) := by decide +kernel
theorem dX11_mean_52 : decode cX11_mean 52 = .ok (.iload_n 2, 1) := by decide +kernel
theorem dX11_mean_53 : decode cX11_mean 53 = .ok (.invokestatic 194, 3) := by decide +kernel
theorem dX11_mean_56 : decode cX11_mean 56 = .ok (.lreturn, 1) := by decide +kernel
set_option maxRecDepth 100000 in
set_option maxHeartbeats 4000000 in
theorem x_mean (l : Launch) (g : zG) {h : Hp} {x ca cs N T T2 tn : Nat} {S S2 Bt : Nat → Int32} {Q Q2 : pP} {n n2 : Nat → Nat} {im : Int32} (i y : Int32) (hc : cH g h x ca cs N S T Q n S2 T2 Q2 n2 im Bt tn) : Sp l g yX11_mean cX11_mean 6 (some .long) (rmz 5) [.ref x, .int i, .int y] (h) (zJ fun r h' => r = q_mean T Q i y ∧ cH g h' x ca cs N S T Q n S2 T2 Q2 n2 im Bt tn ∧ only x (x + 54) h h') := by
  refine Sp.of [some (.ref x), some (.int i), some (.int y), none, none, none] (by decide) (Nat.le_of_ble_eq_true rfl) rfl rfl ?_
  rintro X rfl hr rfl B
  show AW X 0 0 0 _ _ _ _
  obtain ⟨vS, vR, vC, vA, vE, vL, vT, vH⟩ := hc.v
  have e0 := vS.2.1
  have e1 := vR.2.1
  have e2 := vC.2.1
  have e3 := vA.2.1
  have e4 := vE.2.1
  have e5 := vL.2.1
  have e6 := vT.2
  have e8 := vH.1
  have b0 := vS.1
  have b1 := vR.1
  have b2' := vC.1
  have b3 := vA.1
  have b4 := vE.1
  have b5 := vL.1
  have b6 := vT.1
  have b8 := vH.2.1
  have O : only x (x + 54) h h := only.rf
  refine aw_iload_n B 1 rfl dX11_mean_0 rfl ?_
  refine aw_iconst B 1 (by decide) dX11_mean_1 ?_
  refine aw_icmp_lt B 18 dX11_mean_2 (fun c2 => ?_) (fun c2 => ?_)
  · refine aw_ldc2 B cn_X11_190 dX11_mean_18 ?_
    refine aw_lret B rfl dX11_mean_21 ?_
    exact ⟨_, rfl, by unfold q_mean; rw [bI_f (fun z => absurd z.1 (Int32.not_le.mpr c2)), if_pos rfl], hc, O⟩
  · refine aw_iload_n B 1 rfl dX11_mean_5 rfl ?_
    refine aw_bipush B 60 (by decide) dX11_mean_6 ?_
    refine aw_icmp_gt B 18 dX11_mean_8 (fun c8 => ?_) (fun c8 => ?_)
    · refine aw_ldc2 B cn_X11_190 dX11_mean_18 ?_
      refine aw_lret B rfl dX11_mean_21 ?_
      exact ⟨_, rfl, by unfold q_mean; rw [bI_f (fun z => absurd z.2 (Int32.not_le.mpr c8)), if_pos rfl], hc, O⟩
    · refine aw_iload_n B 2 rfl dX11_mean_11 rfl ?_
      refine aw_callS B 0 0 (x_isWhat _ _ _ y) co_X11_isWhat k_X11_96 dX11_mean_12 rfl rfl (Nat.le_of_ble_eq_true rfl) (zrm hr (by omega)) (Nat.le_refl _) (Nat.le_refl _) (kI fun r12 h12 hp12 => ?_)
      obtain ⟨rfl, eh12⟩ := hp12
      rw [eh12]
      refine aw_if_ne B 22 dX11_mean_15 (fun c15 => ?_) (fun c15 => ?_)
      · have hk1 : 1 ≤ i ∧ i ≤ 60 := ⟨Int32.not_lt.mp c2, Int32.not_lt.mp c8⟩
        obtain ⟨k, hk0, hk, rfl⟩ := in_rng (lo := 1) (hi := 60) hk1 (by decide) (by decide)
        refine aw_lconst B 0 (by decide) dX11_mean_22 ?_
        refine aw_lstore3 B dX11_mean_23 ?_
        refine aw_iconst B 0 (by decide) dX11_mean_24 ?_
        refine aw_istore5 B dX11_mean_25 ?_
        have lp : ∀ (fu : Nat) (j : Nat) (h1 : Hp), fu + j = k → cH (zXg X) h1 x ca cs N S T Q n S2 T2 Q2 n2 im Bt tn → only x (x + 54) h h1 → AW X 0 0 27 [some (.ref x), some (.int (nI k)), some (.int y), some (.long (lN (mS T Q j))), none, some (.int (nI j))] [] h1 (zJ fun r h' => r = q_mean T Q (nI k) y ∧ cH (zXg X) h' x ca cs N S T Q n S2 T2 Q2 n2 im Bt tn ∧ only x (x + 54) h h') := by
          intro fu
          induction fu with
          | zero =>
            intro j h1 hb hc O
            obtain rfl : j = k := by omega
            have hml := mS_le T Q j
            refine aw_iload B dX11_mean_27 rfl ?_
            refine aw_iload_n B 1 rfl dX11_mean_29 rfl ?_
            refine aw_icmp_ge B 49 dX11_mean_30 (fun c30 => ?_) (fun c30 => absurd (Int32.le_refl _) c30)
            refine aw_lload_n B 3 rfl dX11_mean_49 rfl ?_
            refine aw_iload_n B 1 rfl dX11_mean_50 rfl ?_
            refine aw_i2l B dX11_mean_51 ?_
            rw [nI_l (by omega)]
            refine aw_iload_n B 2 rfl dX11_mean_52 rfl ?_
            refine aw_callS B 0 0 (x_low _ _ _ (mS T Q j) (j) y (by omega) (by omega) (by omega)) co_X11_lowestTerms k_X11_194 dX11_mean_53 rfl rfl (Nat.le_of_ble_eq_true rfl) (zrm hr (by omega)) (Nat.le_refl _) (Nat.le_refl _) (kJ fun r53 h53 hp53 => ?_)
            obtain ⟨rfl, eh53⟩ := hp53
            rw [eh53]
            refine aw_lret B rfl dX11_mean_56 ?_
            exact ⟨_, rfl, by unfold q_mean; rw [bI_t hk1, if_neg (by decide), if_neg c15, kN_nI (by omega)], hc, O⟩
          | succ fu ih =>
            intro j h1 hb hc O
            refine aw_iload B dX11_mean_27 rfl ?_
            refine aw_iload_n B 1 rfl dX11_mean_29 rfl ?_
            refine aw_icmp_ge B 49 dX11_mean_30 (fun c30 => absurd ((nI_leI (by omega) (by omega)).mp c30) (by omega)) (fun c30 => ?_)
            refine aw_lload_n B 3 rfl dX11_mean_33 rfl ?_
            refine aw_aload_n B 0 rfl dX11_mean_34 rfl ?_
            refine aw_iload B dX11_mean_35 rfl ?_
            refine aw_callV B 0 0 (x_levelIn _ _ (j) hc (by omega)) co_X11_levelIn k_X11_140 dX11_mean_37 hc.ox rfl rfl rfl rfl (Nat.le_of_ble_eq_true rfl) (zrm hr (by omega)) (Nat.le_refl _) (Nat.le_refl _) (kI fun r37 h37 hp37 => ?_)
            obtain ⟨rfl, hc, o37⟩ := hp37
            have O := O.tr o37
            obtain ⟨z, -, hz, ez⟩ := lvl_rng (T + j) Q
            rw [ez]
            refine aw_i2l B dX11_mean_40 ?_
            rw [nI_l (by omega)]
            refine aw_ladd B dX11_mean_41 ?_
            refine aw_lstore3 B dX11_mean_42 ?_
            refine aw_iinc5 B 1 (by decide) dX11_mean_43 ?_
            refine aw_goto B 27 dX11_mean_46 ?_
            rw [nI_1, show lN (mS T Q j) + lN z = lN (mS T Q (j + 1)) from by rw [lN_add, mS, ez, kN_nI (by omega)]]
            exact ih (j + 1) _ (by omega) hc O
        exact lp k 0 _ (by omega) hc O
      · refine aw_ldc2 B cn_X11_190 dX11_mean_18 ?_
        refine aw_lret B rfl dX11_mean_21 ?_
        exact ⟨_, rfl, by unfold q_mean; rw [bI_t ⟨Int32.not_lt.mp c2, Int32.not_lt.mp c8⟩, if_neg (by decide), if_pos c15], hc, O⟩
theorem dX11_safe_0 : decode cX11_safe 0 = .ok (.iload_n 1, 1) := by decide +kernel
theorem dX11_safe_1 : decode cX11_safe 1 = .ok (.invokestatic 83, 3) := by decide +kernel
theorem dX11_safe_4 : decode cX11_safe 4 = .ok (.ifCond .eq 20, 3) := by decide +kernel
theorem dX11_safe_7 : decode cX11_safe 7 = .ok (.iload_n 2, 1) := by decide +kernel
theorem dX11_safe_8 : decode cX11_safe 8 = .ok (.ifCond .lt 16, 3) := by decide +kernel
theorem dX11_safe_11 : decode cX11_safe 11 = .ok (.iload_n 2, 1) := by decide +kernel
theorem dX11_safe_12 : decode cX11_safe 12 = .ok (.bipush 12, 2) := by decide +kernel
theorem dX11_safe_14 : decode cX11_safe 14 = .ok (.if_icmp .gt 10, 3) := by decide +kernel
theorem dX11_safe_17 : decode cX11_safe 17 = .ok (.iload_n 3, 1) := by decide +kernel
theorem dX11_safe_18 : decode cX11_safe 18 = .ok (.invokestatic 96, 3) := by decide +kernel
theorem dX11_safe_21 : decode cX11_safe 21 = .ok (.ifCond .ne 7, 3) := by decide +kernel
theorem dX11_safe_24 : decode cX11_safe 24 = .ok (.ldc2_w 190, 3) := by decide +kernel
theorem dX11_safe_27 : decode cX11_safe 27 = .ok (.lreturn, 1) := by decide +kernel
theorem dX11_safe_28 : decode cX11_safe 28 = .ok (.lconst 1, 1) := by decide +kernel
theorem dX11_safe_29 : decode cX11_safe 29 = .ok (.lstore 4, 2) := by decide +kernel
theorem dX11_safe_31 : decode cX11_safe 31 = .ok (.lconst 1, 1) := by decide +kernel
theorem dX11_safe_32 : decode cX11_safe 32 = .ok (.lstore 6, 2) := by decide +kernel
theorem dX11_safe_34 : decode cX11_safe 34 = .ok (.iconst 0, 1) := by decide +kernel
theorem dX11_safe_35 : decode cX11_safe 35 = .ok (.istore 8, 2) := by decide +kernel
theorem dX11_safe_37 : decode cX11_safe 37 = .ok (.iload 8, 2) := by decide +kernel
theorem dX11_safe_39 : decode cX11_safe 39 = .ok (.iload_n 2, 1) := by decide +kernel
theorem dX11_safe_40 : decode cX11_safe 40 = .ok (.if_icmp .ge 72, 3) := by decide +kernel
theorem dX11_safe_43 : decode cX11_safe 43 = .ok (.aload_n 0, 1) := by decide +kernel
theorem dX11_safe_44 : decode cX11_safe 44 = .ok (.iload 8, 2) := by decide +kernel
theorem dX11_safe_46 : decode cX11_safe 46 = .ok (.invokevirtual 140, 3) := by decide +kernel
theorem dX11_safe_49 : decode cX11_safe 49 = .ok (.istore 9, 2) := by decide +kernel
theorem dX11_safe_51 : decode cX11_safe 51 = .ok (.iload 9, 2) := by decide +kernel
theorem dX11_safe_53 : decode cX11_safe 53 = .ok (.iload_n 1, 1) := by decide +kernel
theorem dX11_safe_54 : decode cX11_safe 54 = .ok (.if_icmp .le 9, 3) := by decide +kernel
theorem dX11_safe_57 : decode cX11_safe 57 = .ok (.lconst 0, 1) := by decide +kernel
theorem dX11_safe_58 : decode cX11_safe 58 = .ok (.lstore 4, 2) := by decide +kernel
theorem dX11_safe_60 : decode cX11_safe 60 = .ok (.goto 46, 3) := by decide +kernel
theorem dX11_safe_63 : decode cX11_safe 63 = .ok (.iload 9, 2) := by decide +kernel
theorem dX11_safe_65 : decode cX11_safe 65 = .ok (.iload_n 1, 1) := by decide +kernel
theorem dX11_safe_66 : decode cX11_safe 66 = .ok (.if_icmp .ne 40, 3) := by decide +kernel
theorem dX11_safe_69 : decode cX11_safe 69 = .ok (.lload 4, 2) := by decide +kernel
theorem dX11_safe_71 : decode cX11_safe 71 = .ok (.bipush 10, 2) := by decide +kernel
theorem dX11_safe_73 : decode cX11_safe 73 = .ok (.aload_n 0, 1) := by decide +kernel
theorem dX11_safe_74 : decode cX11_safe 74 = .ok (.getfield 12, 3) := by decide +kernel
theorem dX11_safe_77 : decode cX11_safe 77 = .ok (.getfield 80, 3) := by decide +kernel
theorem dX11_safe_80 : decode cX11_safe 80 = .ok (.aload_n 0, 1) := by decide +kernel
theorem dX11_safe_81 : decode cX11_safe 81 = .ok (.getfield 12, 3) := by decide +kernel
theorem dX11_safe_84 : decode cX11_safe 84 = .ok (.getfield 137, 3) := by decide +kernel
theorem dX11_safe_87 : decode cX11_safe 87 = .ok (.iload 8, 2) := by decide +kernel
theorem dX11_safe_89 : decode cX11_safe 89 = .ok (.iadd, 1) := by decide +kernel
theorem dX11_safe_90 : decode cX11_safe 90 = .ok (.invokevirtual 143, 3) := by decide +kernel
theorem dX11_safe_93 : decode cX11_safe 93 = .ok (.isub, 1) := by decide +kernel
theorem dX11_safe_94 : decode cX11_safe 94 = .ok (.i2l, 1) := by decide +kernel
theorem dX11_safe_95 : decode cX11_safe 95 = .ok (.lmul, 1) := by decide +kernel
theorem dX11_safe_96 : decode cX11_safe 96 = .ok (.lstore 4, 2) := by decide +kernel
theorem dX11_safe_98 : decode cX11_safe 98 = .ok (.lload 6, 2) := by decide +kernel
theorem dX11_safe_100 : decode cX11_safe 100 = .ok (.ldc2_w 192, 3) := by decide +kernel
theorem dX11_safe_103 : decode cX11_safe 103 = .ok (.lmul, 1) := by decide +kernel
theorem dX11_safe_104 : decode cX11_safe 104 = .ok (.lstore 6, 2) := by decide +kernel
theorem dX11_safe_106 : decode cX11_safe 106 = .ok (.iinc 8 1, 3) := by decide +kernel
theorem dX11_safe_109 : decode cX11_safe 109 = .ok (.goto (-72), 3) := by decide +kernel
theorem dX11_safe_112 : decode cX11_safe 112 = .ok (.lload 4, 2) := by decide +kernel
theorem dX11_safe_114 : decode cX11_safe 114 = .ok (.lload 6, 2) := by decide +kernel
theorem dX11_safe_116 : decode cX11_safe 116 = .ok (.iload_n 3, 1) := by decide +kernel
theorem dX11_safe_117 : decode cX11_safe 117 = .ok (.invokestatic 194, 3) := by decide +kernel
theorem dX11_safe_120 : decode cX11_safe 120 = .ok (.lreturn, 1) := by decide +kernel
set_option maxRecDepth 100000 in
set_option maxHeartbeats 4000000 in
theorem x_safe (l : Launch) (g : zG) {h : Hp} {x ca cs N T T2 tn : Nat} {S S2 Bt : Nat → Int32} {Q Q2 : pP} {n n2 : Nat → Nat} {im : Int32} (i z y : Int32) (hc : cH g h x ca cs N S T Q n S2 T2 Q2 n2 im Bt tn) : Sp l g yX11_safe cX11_safe 10 (some .long) (rmz 5) [.ref x, .int i, .int z, .int y] (h) (zJ fun r h' => r = q_safe T Q i z y ∧ cH g h' x ca cs N S T Q n S2 T2 Q2 n2 im Bt tn ∧ only x (x + 54) h h') := by
  refine Sp.of [some (.ref x), some (.int i), some (.int z), some (.int y), none, none, none, none, none, none] (by decide) (Nat.le_of_ble_eq_true rfl) rfl rfl ?_
  rintro X rfl hr rfl B
  show AW X 0 0 0 _ _ _ _
  obtain ⟨vS, vR, vC, vA, vE, vL, vT, vH⟩ := hc.v
  have e0 := vS.2.1
  have e1 := vR.2.1
  have e2 := vC.2.1
  have e3 := vA.2.1
  have e4 := vE.2.1
  have e5 := vL.2.1
  have e6 := vT.2
  have e8 := vH.1
  have b0 := vS.1
  have b1 := vR.1
  have b2' := vC.1
  have b3 := vA.1
  have b4 := vE.1
  have b5 := vL.1
  have b6 := vT.1
  have b8 := vH.2.1
  have O : only x (x + 54) h h := only.rf
  refine aw_iload_n B 1 rfl dX11_safe_0 rfl ?_
  refine aw_callS B 0 0 (x_isShelf _ _ _ i) co_X11_isShelf k_X11_83 dX11_safe_1 rfl rfl (Nat.le_of_ble_eq_true rfl) (zrm hr (by omega)) (Nat.le_refl _) (Nat.le_refl _) (kI fun r1 h1 hp1 => ?_)
  obtain ⟨rfl, eh1⟩ := hp1
  rw [eh1]
  refine aw_if_eq B 24 dX11_safe_4 (fun c4 => ?_) (fun c4 => ?_)
  · refine aw_ldc2 B cn_X11_190 dX11_safe_24 ?_
    refine aw_lret B rfl dX11_safe_27 ?_
    exact ⟨_, rfl, by unfold q_safe; rw [if_pos c4], hc, O⟩
  · refine aw_iload_n B 2 rfl dX11_safe_7 rfl ?_
    refine aw_if_lt B 24 dX11_safe_8 (fun c8 => ?_) (fun c8 => ?_)
    · refine aw_ldc2 B cn_X11_190 dX11_safe_24 ?_
      refine aw_lret B rfl dX11_safe_27 ?_
      exact ⟨_, rfl, by unfold q_safe; rw [if_neg c4, bI_f (fun z => absurd z.1 (Int32.not_le.mpr c8)), if_pos rfl], hc, O⟩
    · refine aw_iload_n B 2 rfl dX11_safe_11 rfl ?_
      refine aw_bipush B 12 (by decide) dX11_safe_12 ?_
      refine aw_icmp_gt B 24 dX11_safe_14 (fun c14 => ?_) (fun c14 => ?_)
      · refine aw_ldc2 B cn_X11_190 dX11_safe_24 ?_
        refine aw_lret B rfl dX11_safe_27 ?_
        exact ⟨_, rfl, by unfold q_safe; rw [if_neg c4, bI_f (fun z => absurd z.2 (Int32.not_le.mpr c14)), if_pos rfl], hc, O⟩
      · refine aw_iload_n B 3 rfl dX11_safe_17 rfl ?_
        refine aw_callS B 0 0 (x_isWhat _ _ _ y) co_X11_isWhat k_X11_96 dX11_safe_18 rfl rfl (Nat.le_of_ble_eq_true rfl) (zrm hr (by omega)) (Nat.le_refl _) (Nat.le_refl _) (kI fun r18 h18 hp18 => ?_)
        obtain ⟨rfl, eh18⟩ := hp18
        rw [eh18]
        refine aw_if_ne B 28 dX11_safe_21 (fun c21 => ?_) (fun c21 => ?_)
        · have hk1 : 0 ≤ z ∧ z ≤ 12 := ⟨Int32.not_lt.mp c8, Int32.not_lt.mp c14⟩
          obtain ⟨k, hk, rfl⟩ := in_le (k := 12) (by decide) hk1
          refine aw_lconst B 1 (by decide) dX11_safe_28 ?_
          refine aw_lstore4 B dX11_safe_29 ?_
          refine aw_lconst B 1 (by decide) dX11_safe_31 ?_
          refine aw_lstore6 B dX11_safe_32 ?_
          refine aw_iconst B 0 (by decide) dX11_safe_34 ?_
          refine aw_istore8 B dX11_safe_35 ?_
          have lp : ∀ (fu : Nat) (j ab be : Nat) (o1 : Option Value) (h1 : Hp), fu + j = k → ab * 10 ^ j = sfN T Q i j * be → ab ≤ 10 ^ j → be ≤ 10 ^ j → 0 < be → cH (zXg X) h1 x ca cs N S T Q n S2 T2 Q2 n2 im Bt tn → only x (x + 54) h h1 → AW X 0 0 37 [some (.ref x), some (.int i), some (.int (nI k)), some (.int y), some (.long (lN ab)), none, some (.long (lN be)), none, some (.int (nI j)), o1] [] h1 (zJ fun r h' => r = q_safe T Q i (nI k) y ∧ cH (zXg X) h' x ca cs N S T Q n S2 T2 Q2 n2 im Bt tn ∧ only x (x + 54) h h') := by
            intro fu
            induction fu with
            | zero =>
              intro j ab be o1 h1 hb heq hab hbe hbe0 hc O
              obtain rfl : j = k := by omega
              have p10 : (10 : Nat) ^ j ≤ 10 ^ 12 := Nat.pow_le_pow_right (by decide) (by omega)
              refine aw_iload B dX11_safe_37 rfl ?_
              refine aw_iload_n B 2 rfl dX11_safe_39 rfl ?_
              refine aw_icmp_ge B 112 dX11_safe_40 (fun c40 => ?_) (fun c40 => absurd (Int32.le_refl _) c40)
              refine aw_lload B dX11_safe_112 rfl ?_
              refine aw_lload B dX11_safe_114 rfl ?_
              refine aw_iload_n B 3 rfl dX11_safe_116 rfl ?_
              refine aw_callS B 0 0 (x_low _ _ _ (ab) (be) y (by omega) (by omega) (by omega)) co_X11_lowestTerms k_X11_194 dX11_safe_117 rfl rfl (Nat.le_of_ble_eq_true rfl) (zrm hr (by omega)) (Nat.le_refl _) (Nat.le_refl _) (kJ fun r117 h117 hp117 => ?_)
              obtain ⟨rfl, eh117⟩ := hp117
              rw [eh117]
              refine aw_lret B rfl dX11_safe_120 ?_
              exact ⟨_, rfl, by unfold q_safe; rw [if_neg c4, bI_t hk1, if_neg (by decide), if_neg c21, kN_nI (by omega)]; exact low_eq heq hbe0 (Nat.pow_pos (by decide)) y, hc, O⟩
            | succ fu ih =>
              intro j ab be o1 h1 hb heq hab hbe hbe0 hc O
              have p10 : (10 : Nat) ^ j ≤ 10 ^ 12 := Nat.pow_le_pow_right (by decide) (by omega)
              refine aw_iload B dX11_safe_37 rfl ?_
              refine aw_iload_n B 2 rfl dX11_safe_39 rfl ?_
              refine aw_icmp_ge B 112 dX11_safe_40 (fun c40 => absurd ((nI_leI (by omega) (by omega)).mp c40) (by omega)) (fun c40 => ?_)
              refine aw_aload_n B 0 rfl dX11_safe_43 rfl ?_
              refine aw_iload B dX11_safe_44 rfl ?_
              refine aw_callV B 0 0 (x_levelIn _ _ (j) hc (by omega)) co_X11_levelIn k_X11_140 dX11_safe_46 hc.ox rfl rfl rfl rfl (Nat.le_of_ble_eq_true rfl) (zrm hr (by omega)) (Nat.le_refl _) (Nat.le_refl _) (kI fun r46 h46 hp46 => ?_)
              obtain ⟨rfl, hc, o46⟩ := hp46
              have O := O.tr o46
              refine aw_istore9 B dX11_safe_49 ?_
              refine aw_iload B dX11_safe_51 rfl ?_
              refine aw_iload_n B 1 rfl dX11_safe_53 rfl ?_
              refine aw_icmp_le B 63 dX11_safe_54 (fun c54 => ?_) (fun c54 => ?_)
              · refine aw_iload B dX11_safe_63 rfl ?_
                refine aw_iload_n B 1 rfl dX11_safe_65 rfl ?_
                refine aw_icmp_ne B 106 dX11_safe_66 (fun c66 => ?_) (fun c66 => ?_)
                · refine aw_iinc8 B 1 (by decide) dX11_safe_106 ?_
                  refine aw_goto B 37 dX11_safe_109 ?_
                  have hl : lvl (T + j) Q < i := Int32.lt_iff_le_and_ne.mpr ⟨c54, c66⟩
                  rw [nI_1]
                  exact ih (j + 1) (ab) (be) _ _ (by omega) (by rw [sfN, if_pos hl, Nat.pow_succ, ← Nat.mul_assoc, heq, Nat.mul_right_comm]) (by rw [Nat.pow_succ]; omega) (by rw [Nat.pow_succ]; omega) hbe0 hc O
                · refine aw_lload B dX11_safe_69 rfl ?_
                  refine aw_bipush B 10 (by decide) dX11_safe_71 ?_
                  refine aw_aload_n B 0 rfl dX11_safe_73 rfl ?_
                  refine aw_get B f_X11_12 dX11_safe_74 hc.ox rfl ?_
                  refine aw_get B f_X11_80 dX11_safe_77 hc.s rfl ?_
                  refine aw_aload_n B 0 rfl dX11_safe_80 rfl ?_
                  refine aw_get B f_X11_12 dX11_safe_81 hc.ox rfl ?_
                  refine aw_get B f_X11_137 dX11_safe_84 hc.s rfl ?_
                  refine aw_iload B dX11_safe_87 rfl ?_
                  refine aw_iadd B dX11_safe_89 ?_
                  rw [e8, nI_add]
                  refine aw_callV B 0 0 (s_cwaveAt _ _ _ ca (T + j) Q (by omega) hc.c) co_X1_waveAt k_X11_143 dX11_safe_90 hc.c.o.choose_spec rfl rfl rfl rfl (Nat.le_of_ble_eq_true rfl) (zrm hr (by omega)) (Nat.le_refl _) (Nat.le_refl _) (kI fun r90 h90 hp90 => ?_)
                  obtain ⟨rfl, c90, o90⟩ := hp90
                  have O := O.tr (hc.o o90)
                  have hc := hc.cv o90 c90
                  obtain ⟨w1, w2⟩ := wav_kN (tm := T + j) (Q := Q) vH.2.2 (by obtain ⟨_, _, _, _, _, _, q1, _⟩ := hc.c; have := q1.1; omega)
                  rw [← w1]
                  refine aw_isub B dX11_safe_93 ?_
                  rw [show (10 : Int32) - nI (kN (wav (T + j) Q)) = nI (10 - kN (wav (T + j) Q)) from (show ∀ w, w ≤ 10 → (10 : Int32) - nI w = nI (10 - w) by decide) _ w2]
                  refine aw_i2l B dX11_safe_94 ?_
                  rw [nI_l (by omega)]
                  refine aw_lmul B dX11_safe_95 ?_
                  rw [lN_mul]
                  refine aw_lstore4 B dX11_safe_96 ?_
                  refine aw_lload B dX11_safe_98 rfl ?_
                  refine aw_ldc2 B cn_X11_192 dX11_safe_100 ?_
                  refine aw_lmul B dX11_safe_103 ?_
                  rw [show lN be * 10 = lN (be * 10) from lN_mul be 10]
                  refine aw_lstore6 B dX11_safe_104 ?_
                  refine aw_iinc8 B 1 (by decide) dX11_safe_106 ?_
                  refine aw_goto B 37 dX11_safe_109 ?_
                  have hl : ¬ lvl (T + j) Q < i := by rw [c66]; exact Int32.not_lt.mpr (Int32.le_refl _)
                  rw [nI_1]
                  exact ih (j + 1) (ab * (10 - kN (wav (T + j) Q))) (be * 10) _ _ (by omega) (by rw [sfN, if_neg hl, if_pos c66, Nat.pow_succ, show ab * (10 - kN (wav (T + j) Q)) * (10 ^ j * 10) = (ab * 10 ^ j) * ((10 - kN (wav (T + j) Q)) * 10) from by ac_rfl, heq]; ac_rfl) (by rw [Nat.pow_succ]; exact Nat.mul_le_mul hab (by omega)) (by rw [Nat.pow_succ]; exact Nat.mul_le_mul hbe (by omega)) (by omega) hc O
              · refine aw_lconst B 0 (by decide) dX11_safe_57 ?_
                refine aw_lstore4 B dX11_safe_58 ?_
                refine aw_goto B 106 dX11_safe_60 ?_
                refine aw_iinc8 B 1 (by decide) dX11_safe_106 ?_
                refine aw_goto B 37 dX11_safe_109 ?_
                have hl : ¬ lvl (T + j) Q < i := fun z => c54 (Int32.le_of_lt z)
                have hl2 : ¬ lvl (T + j) Q = i := fun z => c54 (by rw [z]; exact Int32.le_refl _)
                rw [nI_1]
                exact ih (j + 1) (0) (be) _ _ (by omega) (by rw [sfN, if_neg hl, if_neg hl2]; simp) (Nat.zero_le _) (by rw [Nat.pow_succ]; omega) hbe0 hc O
          exact lp k 0 1 1 none _ (by omega) rfl (by decide) (by decide) (by decide) hc O
        · refine aw_ldc2 B cn_X11_190 dX11_safe_24 ?_
          refine aw_lret B rfl dX11_safe_27 ?_
          exact ⟨_, rfl, by unfold q_safe; rw [if_neg c4, bI_t ⟨Int32.not_lt.mp c8, Int32.not_lt.mp c14⟩, if_neg (by decide), if_pos c21], hc, O⟩
