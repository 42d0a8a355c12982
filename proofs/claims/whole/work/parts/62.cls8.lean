theorem dX11_waitsIf_0 : decode cX11_waitsIf 0 = .ok (.iconst 0, 1) := by decide +kernel
theorem dX11_waitsIf_1 : decode cX11_waitsIf 1 = .ok (.istore 5, 2) := by decide +kernel
theorem dX11_waitsIf_3 : decode cX11_waitsIf 3 = .ok (.iconst 0, 1) := by decide +kernel
theorem dX11_waitsIf_4 : decode cX11_waitsIf 4 = .ok (.istore 6, 2) := by decide +kernel
theorem dX11_waitsIf_6 : decode cX11_waitsIf 6 = .ok (.iload 6, 2) := by decide +kernel
theorem dX11_waitsIf_8 : decode cX11_waitsIf 8 = .ok (.aload_n 0, 1) := by decide +kernel
theorem dX11_waitsIf_9 : decode cX11_waitsIf 9 = .ok (.getfield 12, 3) := by decide +kernel
theorem dX11_waitsIf_12 : decode cX11_waitsIf 12 = .ok (.getfield 171, 3) := by decide +kernel
theorem dX11_waitsIf_15 : decode cX11_waitsIf 15 = .ok (.getfield 66, 3) := by decide +kernel
theorem dX11_waitsIf_18 : decode cX11_waitsIf 18 = .ok (.if_icmp .ge 95, 3) := by decide +kernel
theorem dX11_waitsIf_21 : decode cX11_waitsIf 21 = .ok (.iload 6, 2) := by decide +kernel
theorem dX11_waitsIf_23 : decode cX11_waitsIf 23 = .ok (.aload_n 0, 1) := by decide +kernel
theorem dX11_waitsIf_24 : decode cX11_waitsIf 24 = .ok (.getfield 51, 3) := by decide +kernel
theorem dX11_waitsIf_27 : decode cX11_waitsIf 27 = .ok (.arraylength, 1) := by decide +kernel
theorem dX11_waitsIf_28 : decode cX11_waitsIf 28 = .ok (.if_icmp .ge 85, 3) := by decide +kernel
theorem dX11_waitsIf_31 : decode cX11_waitsIf 31 = .ok (.aload_n 0, 1) := by decide +kernel
theorem dX11_waitsIf_32 : decode cX11_waitsIf 32 = .ok (.getfield 12, 3) := by decide +kernel
theorem dX11_waitsIf_35 : decode cX11_waitsIf 35 = .ok (.getfield 171, 3) := by decide +kernel
theorem dX11_waitsIf_38 : decode cX11_waitsIf 38 = .ok (.iload 6, 2) := by decide +kernel
theorem dX11_waitsIf_40 : decode cX11_waitsIf 40 = .ok (.invokevirtual 99, 3) := by decide +kernel
theorem dX11_waitsIf_43 : decode cX11_waitsIf 43 = .ok (.istore 7, 2) := by decide +kernel
theorem dX11_waitsIf_45 : decode cX11_waitsIf 45 = .ok (.iload 7, 2) := by decide +kernel
theorem dX11_waitsIf_47 : decode cX11_waitsIf 47 = .ok (.invokestatic 207, 3) := by decide +kernel
theorem dX11_waitsIf_50 : decode cX11_waitsIf 50 = .ok (.istore 8, 2) := by decide +kernel
theorem dX11_waitsIf_52 : decode cX11_waitsIf 52 = .ok (.iload 8, 2) := by decide +kernel
theorem dX11_waitsIf_54 : decode cX11_waitsIf 54 = .ok (.iload_n 1, 1) := by decide +kernel
theorem dX11_waitsIf_55 : decode cX11_waitsIf 55 = .ok (.if_icmp .ne 18, 3) := by decide +kernel
theorem dX11_waitsIf_58 : decode cX11_waitsIf 58 = .ok (.iload 5, 2) := by decide +kernel
theorem dX11_waitsIf_60 : decode cX11_waitsIf 60 = .ok (.aload_n 0, 1) := by decide +kernel
theorem dX11_waitsIf_61 : decode cX11_waitsIf 61 = .ok (.iload 7, 2) := by decide +kernel
theorem dX11_waitsIf_63 : decode cX11_waitsIf 63 = .ok (.iload_n 2, 1) := by decide +kernel
theorem dX11_waitsIf_64 : decode cX11_waitsIf 64 = .ok (.invokevirtual 260, 3) := by decide +kernel
theorem dX11_waitsIf_67 : decode cX11_waitsIf 67 = .ok (.iadd, 1) := by decide +kernel
theorem dX11_waitsIf_68 : decode cX11_waitsIf 68 = .ok (.istore 5, 2) := by decide +kernel
theorem dX11_waitsIf_70 : decode cX11_waitsIf 70 = .ok (.goto 37, 3) := by decide +kernel
theorem dX11_waitsIf_73 : decode cX11_waitsIf 73 = .ok (.iload 8, 2) := by decide +kernel
theorem dX11_waitsIf_75 : decode cX11_waitsIf 75 = .ok (.iload_n 3, 1) := by decide +kernel
theorem dX11_waitsIf_76 : decode cX11_waitsIf 76 = .ok (.if_icmp .ne 19, 3) := by decide +kernel
theorem dX11_waitsIf_79 : decode cX11_waitsIf 79 = .ok (.iload 5, 2) := by decide +kernel
theorem dX11_waitsIf_81 : decode cX11_waitsIf 81 = .ok (.aload_n 0, 1) := by decide +kernel
theorem dX11_waitsIf_82 : decode cX11_waitsIf 82 = .ok (.iload 7, 2) := by decide +kernel
theorem dX11_waitsIf_84 : decode cX11_waitsIf 84 = .ok (.iload 4, 2) := by decide +kernel
theorem dX11_waitsIf_86 : decode cX11_waitsIf 86 = .ok (.invokevirtual 260, 3) := by decide +kernel
theorem dX11_waitsIf_89 : decode cX11_waitsIf 89 = .ok (.iadd, 1) := by decide +kernel
theorem dX11_waitsIf_90 : decode cX11_waitsIf 90 = .ok (.istore 5, 2) := by decide +kernel
theorem dX11_waitsIf_92 : decode cX11_waitsIf 92 = .ok (.goto 15, 3) := by decide +kernel
theorem dX11_waitsIf_95 : decode cX11_waitsIf 95 = .ok (.iload 5, 2) := by decide +kernel
theorem dX11_waitsIf_97 : decode cX11_waitsIf 97 = .ok (.aload_n 0, 1) := by decide +kernel
theorem dX11_waitsIf_98 : decode cX11_waitsIf 98 = .ok (.getfield 51, 3) := by decide +kernel
theorem dX11_waitsIf_101 : decode cX11_waitsIf 101 = .ok (.iload 6, 2) := by decide +kernel
theorem dX11_waitsIf_103 : decode cX11_waitsIf 103 = .ok (.iaload, 1) := by decide +kernel
theorem dX11_waitsIf_104 : decode cX11_waitsIf 104 = .ok (.iadd, 1) := by decide +kernel
theorem dX11_waitsIf_105 : decode cX11_waitsIf 105 = .ok (.istore 5, 2) := by decide +kernel
theorem dX11_waitsIf_107 : decode cX11_waitsIf 107 = .ok (.iinc 6 1, 3) := by decide +kernel
theorem dX11_waitsIf_110 : decode cX11_waitsIf 110 = .ok (.goto (-104), 3) := by decide +kernel
theorem dX11_waitsIf_113 : decode cX11_waitsIf 113 = .ok (.iload 5, 2) := by decide +kernel
theorem dX11_waitsIf_115 : decode cX11_waitsIf 115 = .ok (.ireturn, 1) := by decide +kernel
set_option maxRecDepth 100000 in
set_option maxHeartbeats 4000000 in
theorem x_waitsIf (l : Launch) (g : zG) {h : Hp} {x ca cs N T T2 tn : Nat} {S S2 Bt : Nat → Int32} {Q Q2 : pP} {n n2 : Nat → Nat} {im : Int32} (f S' : Nat → Int32) (a onA b onB : Int32) (hc : cH g h x ca cs N S T Q n S2 T2 Q2 n2 im Bt tn) (hwf : wtd g h x f) (hwi : ∀ i, i < n 3 → f i = nI (w1 S T Q i)) (hag : ∀ k, 16 ≤ k → S' k = S k) (hsw : ∀ s, s < n 0 → ∃ sh, sh ≤ 8 ∧ S' (10 + s) = nI sh ∧ (if nI s = a then onA else if nI s = b then onB else S (10 + s)) = nI sh) : Sp l g yX11_waitsIf cX11_waitsIf 9 (some .int) (rmz 10) [.ref x, .int a, .int onA, .int b, .int onB] (h) (zI fun r h' => r = nI (wS S' T Q (n 3)) ∧ cH g h' x ca cs N S T Q n S2 T2 Q2 n2 im Bt tn ∧ only ca (ca + 4) h h') := by
  refine Sp.of [some (.ref x), some (.int a), some (.int onA), some (.int b), some (.int onB), none, none, none, none] (by decide) (Nat.le_of_ble_eq_true rfl) rfl rfl ?_
  rintro X rfl hr rfl B
  show AW X 0 0 0 _ _ _ _
  obtain ⟨vS, vR, vC, vA, vE, vL, vT, vH⟩ := hc.v
  have e0 := vS.2.1
  have e1 := vR.2.1
  have e2 := vC.2.1
  have e3 := vA.2.1
  have e4 := vE.2.1
  have e5 := vL.2.1
  have e6 := vT.2
  have e8 := vH.1
  have b0 := vS.1
  have b1 := vR.1
  have b2' := vC.1
  have b3 := vA.1
  have b4 := vE.1
  have b5 := vL.1
  have b6 := vT.1
  have b8 := vH.2.1
  have O : only x (x + 54) h h := only.rf
  have O : only ca (ca + 4) h h := only.rf
  refine aw_iconst B 0 (by decide) dX11_waitsIf_0 ?_
  refine aw_istore5 B dX11_waitsIf_1 ?_
  refine aw_iconst B 0 (by decide) dX11_waitsIf_3 ?_
  refine aw_istore6 B dX11_waitsIf_4 ?_
  have lp : ∀ (fu : Nat) (j : Nat) (o7 o8 : Option Value) (h1 : Hp), fu + j = n 3 → cH (zXg X) h1 x ca cs N S T Q n S2 T2 Q2 n2 im Bt tn → only ca (ca + 4) h h1 → AW X 0 0 6 [some (.ref x), some (.int a), some (.int onA), some (.int b), some (.int onB), some (.int (nI (wS S' T Q j))), some (.int (nI j)), o7, o8] [] h1 (zI fun r h' => r = nI (wS S' T Q (n 3)) ∧ cH (zXg X) h' x ca cs N S T Q n S2 T2 Q2 n2 im Bt tn ∧ only ca (ca + 4) h h') := by
    intro fu
    induction fu with
    | zero =>
      intro j o7 o8 h1 hb hc O
      obtain rfl : j = n 3 := by omega
      refine aw_iload B dX11_waitsIf_6 rfl ?_
      refine aw_aload_n B 0 rfl dX11_waitsIf_8 rfl ?_
      refine aw_get B f_X11_12 dX11_waitsIf_9 hc.ox rfl ?_
      refine aw_get B f_X11_171 dX11_waitsIf_12 hc.s rfl ?_
      refine aw_get B f_X11_66 dX11_waitsIf_15 (hc.asks).o rfl ?_
      refine aw_icmp_ge B 113 dX11_waitsIf_18 (fun c18 => ?_) (fun c18 => absurd (Int32.le_refl _) c18)
      refine aw_iload B dX11_waitsIf_113 rfl ?_
      refine aw_iret B rfl rfl dX11_waitsIf_115 ?_
      exact ⟨_, rfl, rfl, hc, O⟩
    | succ fu ih =>
      intro j o7 o8 h1 hb hc O
      obtain ⟨⟨rr, hrr, er⟩, ⟨ss, hss, es⟩, aa, haa, ea⟩ := vA.2.2 j (by omega)
      have ev : askV S j = nI (10000 * rr + 100 * ss + aa) := tk_v er es ea
      have tk1 := tk_r (r := rr) (s := ss) (a := aa) (by omega) (by omega) (by omega)
      obtain ⟨sh, s8, esh, ech⟩ := hsw ss hss
      have ew : w1 S' T Q j = wO S T Q rr ss aa sh := w1_wO (by omega) (by omega) (by omega) s8 (by omega) er es ea hag esh
      refine aw_iload B dX11_waitsIf_6 rfl ?_
      refine aw_aload_n B 0 rfl dX11_waitsIf_8 rfl ?_
      refine aw_get B f_X11_12 dX11_waitsIf_9 hc.ox rfl ?_
      refine aw_get B f_X11_171 dX11_waitsIf_12 hc.s rfl ?_
      refine aw_get B f_X11_66 dX11_waitsIf_15 (hc.asks).o rfl ?_
      refine aw_icmp_ge B 113 dX11_waitsIf_18 (fun c18 => absurd ((nI_leI (by omega) (by omega)).mp c18) (by omega)) (fun c18 => ?_)
      refine aw_iload B dX11_waitsIf_21 rfl ?_
      refine aw_aload_n B 0 rfl dX11_waitsIf_23 rfl ?_
      refine aw_get B f_X11_51 dX11_waitsIf_24 hc.ox rfl ?_
      refine aw_alen B dX11_waitsIf_27 (show wtd (zXg X) _ x f from (O.2 _ (by have := hc.d; omega)).trans hwf) (Or.inl rfl) ?_
      refine aw_icmp_ge B 113 dX11_waitsIf_28 (fun c28 => absurd c28 (Int32.not_le.mpr (show nI j < nI 8 from nI_lt (by omega) (by decide)))) (fun c28 => ?_)
      refine aw_aload_n B 0 rfl dX11_waitsIf_31 rfl ?_
      refine aw_get B f_X11_12 dX11_waitsIf_32 hc.ox rfl ?_
      refine aw_get B f_X11_171 dX11_waitsIf_35 hc.s rfl ?_
      refine aw_iload B dX11_waitsIf_38 rfl ?_
      refine aw_callV B 0 0 (t_get _ _ _ _ 8 _ _ (j) (by decide) (by omega) (by omega) hc.asks) co_X7_get k_X11_99 dX11_waitsIf_40 hc.asks.o rfl rfl rfl rfl (Nat.le_of_ble_eq_true rfl) (zrm hr (by omega)) (Nat.le_refl _) (Nat.le_refl _) (kI fun r40 h40 hp40 => ?_)
      obtain ⟨rfl, eh40⟩ := hp40
      rw [eh40]
      rw [ev]
      refine aw_istore7 B dX11_waitsIf_43 ?_
      refine aw_iload B dX11_waitsIf_45 rfl ?_
      refine aw_callS B 0 0 (x_slateIn _ _ _ _) co_X11_slateIn k_X11_207 dX11_waitsIf_47 rfl rfl (Nat.le_of_ble_eq_true rfl) (zrm hr (by omega)) (Nat.le_refl _) (Nat.le_refl _) (kI fun r47 h47 hp47 => ?_)
      obtain ⟨rfl, eh47⟩ := hp47
      rw [eh47]
      rw [tk1.2.1]
      refine aw_istore8 B dX11_waitsIf_50 ?_
      refine aw_iload B dX11_waitsIf_52 rfl ?_
      refine aw_iload_n B 1 rfl dX11_waitsIf_54 rfl ?_
      refine aw_icmp_ne B 73 dX11_waitsIf_55 (fun c55 => ?_) (fun c55 => ?_)
      · refine aw_iload B dX11_waitsIf_73 rfl ?_
        refine aw_iload_n B 3 rfl dX11_waitsIf_75 rfl ?_
        refine aw_icmp_ne B 95 dX11_waitsIf_76 (fun c76 => ?_) (fun c76 => ?_)
        · refine aw_iload B dX11_waitsIf_95 rfl ?_
          refine aw_aload_n B 0 rfl dX11_waitsIf_97 rfl ?_
          refine aw_get B f_X11_51 dX11_waitsIf_98 hc.ox rfl ?_
          refine aw_iload B dX11_waitsIf_101 rfl ?_
          refine aw_iald B dX11_waitsIf_103 (show wtd (zXg X) _ x f from (O.2 _ (by have := hc.d; omega)).trans hwf) (vp_in_nI (show j < 8 by omega) (by decide)) ?_
          rw [nI_clamp (by omega), hwi j (by omega)]
          refine aw_iadd B dX11_waitsIf_104 ?_
          refine aw_istore5 B dX11_waitsIf_105 ?_
          refine aw_iinc6 B 1 (by decide) dX11_waitsIf_107 ?_
          refine aw_goto B 6 dX11_waitsIf_110 ?_
          rw [if_neg c55, if_neg c76] at ech
          have e9 : w1 S T Q j = wO S T Q rr ss aa sh := w1_wO (by omega) (by omega) (by omega) s8 (by omega) er es ea (fun _ _ => rfl) ech
          rw [e9]
          rw [nI_add, nI_1]
          have h9 := ih (j + 1) (some (.int (nI (10000 * rr + 100 * ss + aa)))) (some (.int (nI ss))) _ (by omega) hc O
          rw [wS, ew] at h9
          try rw [ech] at h9
          exact h9
        · refine aw_iload B dX11_waitsIf_79 rfl ?_
          refine aw_aload_n B 0 rfl dX11_waitsIf_81 rfl ?_
          refine aw_iload B dX11_waitsIf_82 rfl ?_
          refine aw_iload B dX11_waitsIf_84 rfl ?_
          rw [if_neg c55, if_pos c76] at ech
          rw [ech]
          refine aw_callV B 0 0 (x_waitOn _ _ rr ss aa sh hc hrr hss (by omega) s8) co_X11_waitOn k_X11_260 dX11_waitsIf_86 hc.ox rfl rfl rfl rfl (Nat.le_of_ble_eq_true rfl) (zrm hr (by omega)) (Nat.le_refl _) (Nat.le_refl _) (kI fun r86 h86 hp86 => ?_)
          obtain ⟨rfl, hc, o86⟩ := hp86
          have O := O.tr o86
          refine aw_iadd B dX11_waitsIf_89 ?_
          refine aw_istore5 B dX11_waitsIf_90 ?_
          refine aw_goto B 107 dX11_waitsIf_92 ?_
          refine aw_iinc6 B 1 (by decide) dX11_waitsIf_107 ?_
          refine aw_goto B 6 dX11_waitsIf_110 ?_
          rw [nI_add, nI_1]
          have h9 := ih (j + 1) (some (.int (nI (10000 * rr + 100 * ss + aa)))) (some (.int (nI ss))) _ (by omega) hc O
          rw [wS, ew] at h9
          try rw [ech] at h9
          exact h9
      · refine aw_iload B dX11_waitsIf_58 rfl ?_
        refine aw_aload_n B 0 rfl dX11_waitsIf_60 rfl ?_
        refine aw_iload B dX11_waitsIf_61 rfl ?_
        refine aw_iload_n B 2 rfl dX11_waitsIf_63 rfl ?_
        rw [if_pos c55] at ech
        rw [ech]
        refine aw_callV B 0 0 (x_waitOn _ _ rr ss aa sh hc hrr hss (by omega) s8) co_X11_waitOn k_X11_260 dX11_waitsIf_64 hc.ox rfl rfl rfl rfl (Nat.le_of_ble_eq_true rfl) (zrm hr (by omega)) (Nat.le_refl _) (Nat.le_refl _) (kI fun r64 h64 hp64 => ?_)
        obtain ⟨rfl, hc, o64⟩ := hp64
        have O := O.tr o64
        refine aw_iadd B dX11_waitsIf_67 ?_
        refine aw_istore5 B dX11_waitsIf_68 ?_
        refine aw_goto B 107 dX11_waitsIf_70 ?_
        refine aw_iinc6 B 1 (by decide) dX11_waitsIf_107 ?_
        refine aw_goto B 6 dX11_waitsIf_110 ?_
        rw [nI_add, nI_1]
        have h9 := ih (j + 1) (some (.int (nI (10000 * rr + 100 * ss + aa)))) (some (.int (nI ss))) _ (by omega) hc O
        rw [wS, ew] at h9
        try rw [ech] at h9
        exact h9
  exact lp (n 3) 0 _ _ _ (by omega) hc O
theorem shF_s {S : Nat → Int32} {T : Nat} {Q : pP} {n3 s : Nat} (hn : n3 ≤ 8) : ∀ j, 0 < j → j ≤ 9 → (shF S T Q n3 s j).2 ≤ 488 ∧ ∀ sum : Nat, sum ≤ 488 → (nI sum ≤ (if j = 0 then (488 : Int32) else (shF S T Q n3 s j).2) ↔ nI sum ≤ (shF S T Q n3 s j).2) := by
  intro j
  induction j with
  | zero => intro h; omega
  | succ j ih =>
    intro _ hj
    have hle := wS_le (upd S (10 + s) (nI j)) T Q n3
    refine ⟨?_, fun sum _ => by rw [if_neg (by omega)]⟩
    rw [shF]
    have hb : nI (wS (upd S (10 + s) (nI j)) T Q n3) ≤ 488 := (show _ ≤ nI 488 from nI_le (by omega) (by decide))
    by_cases h0 : j = 0
    · subst h0
      rw [if_pos (show nI (wS (upd S (10 + s) (nI 0)) T Q n3) ≤ (shF S T Q n3 s 0).2 from (show _ ≤ nI 100000 from nI_le (by omega) (by decide)))]
      exact hb
    · split
      · exact hb
      · exact (ih (by omega) (by omega)).1
/-- the class's best shelf and least sum among the first j -/
def shC (S : Nat → Int32) (T : Nat) (Q : pP) (n3 s : Nat) (j : Nat) : Int32 × Int32 := if j = 0 then (0, 488) else shF S T Q n3 s j
theorem shC_s {S : Nat → Int32} {T : Nat} {Q : pP} {n3 s j : Nat} (hn : n3 ≤ 8) : shC S T Q n3 s (j + 1) = if nI (wS (upd S (10 + s) (nI j)) T Q n3) ≤ (shC S T Q n3 s j).2 then (nI j, nI (wS (upd S (10 + s) (nI j)) T Q n3)) else shC S T Q n3 s j := by
  have hle := wS_le (upd S (10 + s) (nI j)) T Q n3
  show shF S T Q n3 s (j + 1) = _
  rw [shF]
  by_cases h0 : j = 0
  · subst h0
    rw [if_pos (show nI (wS (upd S (10 + s) (nI 0)) T Q n3) ≤ (shF S T Q n3 s 0).2 from (show _ ≤ nI 100000 from nI_le (by omega) (by decide))), if_pos (show nI (wS (upd S (10 + s) (nI 0)) T Q n3) ≤ (shC S T Q n3 s 0).2 from (show _ ≤ nI 488 from nI_le (by omega) (by decide)))]
  · have e : shC S T Q n3 s j = shF S T Q n3 s j := by unfold shC; rw [if_neg h0]
    rw [e]
theorem shC_9 {S : Nat → Int32} {T : Nat} {Q : pP} {n3 s : Nat} : shC S T Q n3 s 9 = shF S T Q n3 s 9 := if_neg (by decide)
theorem dX11_shelve_0 : decode cX11_shelve 0 = .ok (.aload_n 0, 1) := by decide +kernel
theorem dX11_shelve_1 : decode cX11_shelve 1 = .ok (.iload_n 1, 1) := by decide +kernel
theorem dX11_shelve_2 : decode cX11_shelve 2 = .ok (.invokevirtual 93, 3) := by decide +kernel
theorem dX11_shelve_5 : decode cX11_shelve 5 = .ok (.ifCond .eq 10, 3) := by decide +kernel
theorem dX11_shelve_8 : decode cX11_shelve 8 = .ok (.iload_n 2, 1) := by decide +kernel
theorem dX11_shelve_9 : decode cX11_shelve 9 = .ok (.invokestatic 96, 3) := by decide +kernel
theorem dX11_shelve_12 : decode cX11_shelve 12 = .ok (.ifCond .ne 5, 3) := by decide +kernel
theorem dX11_shelve_15 : decode cX11_shelve 15 = .ok (.iconst (-1), 1) := by decide +kernel
theorem dX11_shelve_16 : decode cX11_shelve 16 = .ok (.ireturn, 1) := by decide +kernel
theorem dX11_shelve_17 : decode cX11_shelve 17 = .ok (.aload_n 0, 1) := by decide +kernel
theorem dX11_shelve_18 : decode cX11_shelve 18 = .ok (.invokevirtual 178, 3) := by decide +kernel
theorem dX11_shelve_21 : decode cX11_shelve 21 = .ok (.pop, 1) := by decide +kernel
theorem dX11_shelve_22 : decode cX11_shelve 22 = .ok (.iconst 0, 1) := by decide +kernel
theorem dX11_shelve_23 : decode cX11_shelve 23 = .ok (.istore_n 3, 1) := by decide +kernel
theorem dX11_shelve_24 : decode cX11_shelve 24 = .ok (.sipush 488, 3) := by decide +kernel
theorem dX11_shelve_27 : decode cX11_shelve 27 = .ok (.istore 4, 2) := by decide +kernel
theorem dX11_shelve_29 : decode cX11_shelve 29 = .ok (.iconst 0, 1) := by decide +kernel
theorem dX11_shelve_30 : decode cX11_shelve 30 = .ok (.istore 5, 2) := by decide +kernel
theorem dX11_shelve_32 : decode cX11_shelve 32 = .ok (.iload 5, 2) := by decide +kernel
theorem dX11_shelve_34 : decode cX11_shelve 34 = .ok (.bipush 9, 2) := by decide +kernel
theorem dX11_shelve_36 : decode cX11_shelve 36 = .ok (.if_icmp .ge 34, 3) := by decide +kernel
theorem dX11_shelve_39 : decode cX11_shelve 39 = .ok (.aload_n 0, 1) := by decide +kernel
theorem dX11_shelve_40 : decode cX11_shelve 40 = .ok (.iload_n 1, 1) := by decide +kernel
theorem dX11_shelve_41 : decode cX11_shelve 41 = .ok (.iload 5, 2) := by decide +kernel
theorem dX11_shelve_43 : decode cX11_shelve 43 = .ok (.iconst (-1), 1) := by decide +kernel
theorem dX11_shelve_44 : decode cX11_shelve 44 = .ok (.iconst (-1), 1) := by decide +kernel
theorem dX11_shelve_45 : decode cX11_shelve 45 = .ok (.invokevirtual 181, 3) := by decide +kernel
theorem dX11_shelve_48 : decode cX11_shelve 48 = .ok (.istore 6, 2) := by decide +kernel
theorem dX11_shelve_50 : decode cX11_shelve 50 = .ok (.iload 6, 2) := by decide +kernel
theorem dX11_shelve_52 : decode cX11_shelve 52 = .ok (.iload 4, 2) := by decide +kernel
theorem dX11_shelve_54 : decode cX11_shelve 54 = .ok (.if_icmp .gt 10, 3) := by decide +kernel
theorem dX11_shelve_57 : decode cX11_shelve 57 = .ok (.iload 6, 2) := by decide +kernel
theorem dX11_shelve_59 : decode cX11_shelve 59 = .ok (.istore 4, 2) := by decide +kernel
theorem dX11_shelve_61 : decode cX11_shelve 61 = .ok (.iload 5, 2) := by decide +kernel
theorem dX11_shelve_63 : decode cX11_shelve 63 = .ok (.istore_n 3, 1) := by decide +kernel
theorem dX11_shelve_64 : decode cX11_shelve 64 = .ok (.iinc 5 1, 3) := by decide +kernel
theorem dX11_shelve_67 : decode cX11_shelve 67 = .ok (.goto (-35), 3) := by decide +kernel
theorem dX11_shelve_70 : decode cX11_shelve 70 = .ok (.iload_n 2, 1) := by decide +kernel
theorem dX11_shelve_71 : decode cX11_shelve 71 = .ok (.ifCond .ne 7, 3) := by decide +kernel
theorem dX11_shelve_74 : decode cX11_shelve 74 = .ok (.iload_n 3, 1) := by decide +kernel
theorem dX11_shelve_75 : decode cX11_shelve 75 = .ok (.goto 5, 3) := by decide +kernel
theorem dX11_shelve_78 : decode cX11_shelve 78 = .ok (.iload 4, 2) := by decide +kernel
theorem dX11_shelve_80 : decode cX11_shelve 80 = .ok (.ireturn, 1) := by decide +kernel
set_option maxRecDepth 100000 in
set_option maxHeartbeats 4000000 in
theorem x_shelve (l : Launch) (g : zG) {h : Hp} {x ca cs N T T2 tn : Nat} {S S2 Bt : Nat → Int32} {Q Q2 : pP} {n n2 : Nat → Nat} {im : Int32} (i y : Int32) (hc : cH g h x ca cs N S T Q n S2 T2 Q2 n2 im Bt tn) : Sp l g yX11_shelve cX11_shelve 7 (some .int) (rmz 12) [.ref x, .int i, .int y] (h) (zI fun r h' => r = q_shelve S T Q (n 3) i y ∧ cH g h' x ca cs N S T Q n S2 T2 Q2 n2 im Bt tn ∧ only x (x + 54) h h') := by
  refine Sp.of [some (.ref x), some (.int i), some (.int y), none, none, none, none] (by decide) (Nat.le_of_ble_eq_true rfl) rfl rfl ?_
  rintro X rfl hr rfl B
  show AW X 0 0 0 _ _ _ _
  obtain ⟨vS, vR, vC, vA, vE, vL, vT, vH⟩ := hc.v
  have e0 := vS.2.1
  have e1 := vR.2.1
  have e2 := vC.2.1
  have e3 := vA.2.1
  have e4 := vE.2.1
  have e5 := vL.2.1
  have e6 := vT.2
  have e8 := vH.1
  have b0 := vS.1
  have b1 := vR.1
  have b2' := vC.1
  have b3 := vA.1
  have b4 := vE.1
  have b5 := vL.1
  have b6 := vT.1
  have b8 := vH.2.1
  have O : only x (x + 54) h h := only.rf
  refine aw_aload_n B 0 rfl dX11_shelve_0 rfl ?_
  refine aw_iload_n B 1 rfl dX11_shelve_1 rfl ?_
  refine aw_callV B 0 0 (x_isSlate _ _ i hc) co_X11_isSlate k_X11_93 dX11_shelve_2 hc.ox rfl rfl rfl rfl (Nat.le_of_ble_eq_true rfl) (zrm hr (by omega)) (Nat.le_refl _) (Nat.le_refl _) (kI fun r2 h2 hp2 => ?_)
  obtain ⟨rfl, eh2⟩ := hp2
  rw [eh2]
  refine aw_if_eq B 15 dX11_shelve_5 (fun c5 => ?_) (fun c5 => ?_)
  · refine aw_iconst B (-1) (by decide) dX11_shelve_15 ?_
    refine aw_iret B rfl rfl dX11_shelve_16 ?_
    exact ⟨_, rfl, by unfold q_shelve; rw [if_pos c5], hc, O⟩
  · refine aw_iload_n B 2 rfl dX11_shelve_8 rfl ?_
    refine aw_callS B 0 0 (x_isWhat _ _ _ y) co_X11_isWhat k_X11_96 dX11_shelve_9 rfl rfl (Nat.le_of_ble_eq_true rfl) (zrm hr (by omega)) (Nat.le_refl _) (Nat.le_refl _) (kI fun r9 h9 hp9 => ?_)
    obtain ⟨rfl, eh9⟩ := hp9
    rw [eh9]
    refine aw_if_ne B 17 dX11_shelve_12 (fun c12 => ?_) (fun c12 => ?_)
    · have hss0 : 0 ≤ i ∧ i ≤ S 0 - 1 := bI_n c5
      rw [e0] at hss0
      obtain ⟨s0, hs0, rfl⟩ := in_nI (by omega) hss0
      refine aw_aload_n B 0 rfl dX11_shelve_17 rfl ?_
      refine aw_callV B 0 0 (x_fill _ _ hc) co_X11_fillWaited k_X11_178 dX11_shelve_18 hc.ox rfl rfl rfl rfl (Nat.le_of_ble_eq_true rfl) (zrm hr (by omega)) (Nat.le_refl _) (Nat.le_refl _) (kI fun r18 h18 hp18 => ?_)
      obtain ⟨rfl, hc, o18, f, hwf, hwi⟩ := hp18
      have O := O.tr o18
      refine aw_pop B rfl dX11_shelve_21 ?_
      refine aw_iconst B 0 (by decide) dX11_shelve_22 ?_
      refine aw_istore3 B dX11_shelve_23 ?_
      refine aw_sipush B 488 (by decide) dX11_shelve_24 ?_
      refine aw_istore4 B dX11_shelve_27 ?_
      refine aw_iconst B 0 (by decide) dX11_shelve_29 ?_
      refine aw_istore5 B dX11_shelve_30 ?_
      have lp : ∀ (fu : Nat) (j : Nat) (o6 : Option Value) (h1 : Hp), fu + j = 9 → wtd (zXg X) h1 x f → cH (zXg X) h1 x ca cs N S T Q n S2 T2 Q2 n2 im Bt tn → only x (x + 54) h h1 → AW X 0 0 32 [some (.ref x), some (.int (nI s0)), some (.int y), some (.int (shC S T Q (n 3) s0 j).1), some (.int (shC S T Q (n 3) s0 j).2), some (.int (nI j)), o6] [] h1 (zI fun r h' => r = q_shelve S T Q (n 3) (nI s0) y ∧ cH (zXg X) h' x ca cs N S T Q n S2 T2 Q2 n2 im Bt tn ∧ only x (x + 54) h h') := by
        intro fu
        induction fu with
        | zero =>
          intro j o6 h1 hb hwf hc O
          obtain rfl : j = 9 := by omega
          refine aw_iload B dX11_shelve_32 rfl ?_
          refine aw_bipush B 9 (by decide) dX11_shelve_34 ?_
          refine aw_icmp_ge B 70 dX11_shelve_36 (fun c36 => ?_) (fun c36 => absurd (Int32.le_refl _) c36)
          refine aw_iload_n B 2 rfl dX11_shelve_70 rfl ?_
          refine aw_if_ne B 78 dX11_shelve_71 (fun c71 => ?_) (fun c71 => ?_)
          · refine aw_iload B dX11_shelve_78 rfl ?_
            refine aw_iret B rfl rfl dX11_shelve_80 ?_
            exact ⟨_, rfl, by unfold q_shelve; rw [if_neg c5, if_neg c12, if_neg c71, kN_nI (by omega), shC_9], hc, O⟩
          · refine aw_iload_n B 3 rfl dX11_shelve_74 rfl ?_
            refine aw_goto B 80 dX11_shelve_75 ?_
            refine aw_iret B rfl rfl dX11_shelve_80 ?_
            exact ⟨_, rfl, by unfold q_shelve; rw [if_neg c5, if_neg c12, if_pos c71, kN_nI (by omega), shC_9], hc, O⟩
        | succ fu ih =>
          intro j o6 h1 hb hwf hc O
          refine aw_iload B dX11_shelve_32 rfl ?_
          refine aw_bipush B 9 (by decide) dX11_shelve_34 ?_
          refine aw_icmp_ge B 70 dX11_shelve_36 (fun c36 => absurd ((nI_leI (a := 9) (by decide) (by omega)).mp c36) (by omega)) (fun c36 => ?_)
          refine aw_aload_n B 0 rfl dX11_shelve_39 rfl ?_
          refine aw_iload_n B 1 rfl dX11_shelve_40 rfl ?_
          refine aw_iload B dX11_shelve_41 rfl ?_
          refine aw_iconst B (-1) (by decide) dX11_shelve_43 ?_
          refine aw_iconst B (-1) (by decide) dX11_shelve_44 ?_
          have hsw := x_waitsIf X.1.2.1 (zXg X) f (upd S (10 + s0) (nI j)) (nI s0) (nI j) (-1) (-1) hc hwf hwi (fun k hk => by rw [upd_n (by omega)]) (fun s hs => by
            by_cases e : s = s0
            · exact ⟨j, by omega, by rw [e, upd_s], by rw [e, if_pos rfl]⟩
            · obtain ⟨sh, -, s8, esh⟩ := (vS.2.2 s hs).1
              exact ⟨sh, s8, by rw [upd_n (by omega)]; exact esh, by rw [if_neg (fun z => e ((nI_eq (by omega) (by omega)).mp z)), if_neg (fun z => nI_nn (a := s) (by omega) z)]; exact esh⟩)
          refine aw_callV B 0 0 (hsw) co_X11_waitsIf k_X11_181 dX11_shelve_45 hc.ox rfl rfl rfl rfl (Nat.le_of_ble_eq_true rfl) (zrm hr (by omega)) (Nat.le_refl _) (Nat.le_refl _) (kI fun r45 h45 hp45 => ?_)
          obtain ⟨rfl, hc, o45⟩ := hp45
          have O := O.tr (cvo hc.d o45)
          have hwf : wtd (zXg X) h45 x f := (o45.2 _ (by have := hc.d; omega)).trans hwf
          refine aw_istore6 B dX11_shelve_48 ?_
          refine aw_iload B dX11_shelve_50 rfl ?_
          refine aw_iload B dX11_shelve_52 rfl ?_
          refine aw_icmp_gt B 64 dX11_shelve_54 (fun c54 => ?_) (fun c54 => ?_)
          · refine aw_iinc5 B 1 (by decide) dX11_shelve_64 ?_
            refine aw_goto B 32 dX11_shelve_67 ?_
            rw [nI_1]
            have h9 := ih (j + 1) (some (.int (nI (wS (upd S (10 + s0) (nI j)) T Q (n 3))))) _ (by omega) hwf hc O
            rw [shC_s b3, if_neg (Int32.not_le.mpr c54)] at h9
            exact h9
          · refine aw_iload B dX11_shelve_57 rfl ?_
            refine aw_istore4 B dX11_shelve_59 ?_
            refine aw_iload B dX11_shelve_61 rfl ?_
            refine aw_istore3 B dX11_shelve_63 ?_
            refine aw_iinc5 B 1 (by decide) dX11_shelve_64 ?_
            refine aw_goto B 32 dX11_shelve_67 ?_
            rw [nI_1]
            have h9 := ih (j + 1) (some (.int (nI (wS (upd S (10 + s0) (nI j)) T Q (n 3))))) _ (by omega) hwf hc O
            rw [shC_s b3, if_pos (Int32.not_lt.mp c54)] at h9
            exact h9
      exact lp 9 0 _ _ (by omega) hwf hc O
    · refine aw_iconst B (-1) (by decide) dX11_shelve_15 ?_
      refine aw_iret B rfl rfl dX11_shelve_16 ?_
      exact ⟨_, rfl, by unfold q_shelve; rw [if_neg c5, if_pos c12], hc, O⟩
theorem dX11_change_0 : decode cX11_change 0 = .ok (.aload_n 0, 1) := by decide +kernel
theorem dX11_change_1 : decode cX11_change 1 = .ok (.invokevirtual 178, 3) := by decide +kernel
theorem dX11_change_4 : decode cX11_change 4 = .ok (.istore_n 1, 1) := by decide +kernel
theorem dX11_change_5 : decode cX11_change 5 = .ok (.bipush (-5), 2) := by decide +kernel
theorem dX11_change_7 : decode cX11_change 7 = .ok (.istore_n 2, 1) := by decide +kernel
theorem dX11_change_8 : decode cX11_change 8 = .ok (.iconst 0, 1) := by decide +kernel
theorem dX11_change_9 : decode cX11_change 9 = .ok (.istore_n 3, 1) := by decide +kernel
theorem dX11_change_10 : decode cX11_change 10 = .ok (.iload_n 3, 1) := by decide +kernel
theorem dX11_change_11 : decode cX11_change 11 = .ok (.aload_n 0, 1) := by decide +kernel
theorem dX11_change_12 : decode cX11_change 12 = .ok (.getfield 12, 3) := by decide +kernel
theorem dX11_change_15 : decode cX11_change 15 = .ok (.getfield 87, 3) := by decide +kernel
theorem dX11_change_18 : decode cX11_change 18 = .ok (.getfield 66, 3) := by decide +kernel
theorem dX11_change_21 : decode cX11_change 21 = .ok (.if_icmp .ge 84, 3) := by decide +kernel
theorem dX11_change_24 : decode cX11_change 24 = .ok (.iload_n 3, 1) := by decide +kernel
theorem dX11_change_25 : decode cX11_change 25 = .ok (.iconst 1, 1) := by decide +kernel
theorem dX11_change_26 : decode cX11_change 26 = .ok (.iadd, 1) := by decide +kernel
theorem dX11_change_27 : decode cX11_change 27 = .ok (.istore 4, 2) := by decide +kernel
theorem dX11_change_29 : decode cX11_change 29 = .ok (.iload 4, 2) := by decide +kernel
theorem dX11_change_31 : decode cX11_change 31 = .ok (.aload_n 0, 1) := by decide +kernel
theorem dX11_change_32 : decode cX11_change 32 = .ok (.getfield 12, 3) := by decide +kernel
theorem dX11_change_35 : decode cX11_change 35 = .ok (.getfield 87, 3) := by decide +kernel
theorem dX11_change_38 : decode cX11_change 38 = .ok (.getfield 66, 3) := by decide +kernel
theorem dX11_change_41 : decode cX11_change 41 = .ok (.if_icmp .ge 58, 3) := by decide +kernel
theorem dX11_change_44 : decode cX11_change 44 = .ok (.aload_n 0, 1) := by decide +kernel
theorem dX11_change_45 : decode cX11_change 45 = .ok (.iload_n 3, 1) := by decide +kernel
theorem dX11_change_46 : decode cX11_change 46 = .ok (.aload_n 0, 1) := by decide +kernel
theorem dX11_change_47 : decode cX11_change 47 = .ok (.getfield 12, 3) := by decide +kernel
theorem dX11_change_50 : decode cX11_change 50 = .ok (.getfield 87, 3) := by decide +kernel
theorem dX11_change_53 : decode cX11_change 53 = .ok (.iload 4, 2) := by decide +kernel
theorem dX11_change_55 : decode cX11_change 55 = .ok (.invokevirtual 99, 3) := by decide +kernel
theorem dX11_change_58 : decode cX11_change 58 = .ok (.iload 4, 2) := by decide +kernel
theorem dX11_change_60 : decode cX11_change 60 = .ok (.aload_n 0, 1) := by decide +kernel
theorem dX11_change_61 : decode cX11_change 61 = .ok (.getfield 12, 3) := by decide +kernel
theorem dX11_change_64 : decode cX11_change 64 = .ok (.getfield 87, 3) := by decide +kernel
theorem dX11_change_67 : decode cX11_change 67 = .ok (.iload_n 3, 1) := by decide +kernel
theorem dX11_change_68 : decode cX11_change 68 = .ok (.invokevirtual 99, 3) := by decide +kernel
theorem dX11_change_71 : decode cX11_change 71 = .ok (.invokevirtual 181, 3) := by decide +kernel
theorem dX11_change_74 : decode cX11_change 74 = .ok (.istore 5, 2) := by decide +kernel
theorem dX11_change_76 : decode cX11_change 76 = .ok (.iload 5, 2) := by decide +kernel
theorem dX11_change_78 : decode cX11_change 78 = .ok (.iload_n 1, 1) := by decide +kernel
theorem dX11_change_79 : decode cX11_change 79 = .ok (.if_icmp .ge 14, 3) := by decide +kernel
theorem dX11_change_82 : decode cX11_change 82 = .ok (.iload 5, 2) := by decide +kernel
theorem dX11_change_84 : decode cX11_change 84 = .ok (.istore_n 1, 1) := by decide +kernel
theorem dX11_change_85 : decode cX11_change 85 = .ok (.bipush 10, 2) := by decide +kernel
theorem dX11_change_87 : decode cX11_change 87 = .ok (.iload_n 3, 1) := by decide +kernel
theorem dX11_change_88 : decode cX11_change 88 = .ok (.imul, 1) := by decide +kernel
theorem dX11_change_89 : decode cX11_change 89 = .ok (.iload 4, 2) := by decide +kernel
theorem dX11_change_91 : decode cX11_change 91 = .ok (.iadd, 1) := by decide +kernel
theorem dX11_change_92 : decode cX11_change 92 = .ok (.istore_n 2, 1) := by decide +kernel
theorem dX11_change_93 : decode cX11_change 93 = .ok (.iinc 4 1, 3) := by decide +kernel
theorem dX11_change_96 : decode cX11_change 96 = .ok (.goto (-67), 3) := by decide +kernel
theorem dX11_change_99 : decode cX11_change 99 = .ok (.iinc 3 1, 3) := by decide +kernel
theorem dX11_change_102 : decode cX11_change 102 = .ok (.goto (-92), 3) := by decide +kernel
theorem dX11_change_105 : decode cX11_change 105 = .ok (.iload_n 2, 1) := by decide +kernel
theorem dX11_change_106 : decode cX11_change 106 = .ok (.ireturn, 1) := by decide +kernel
set_option maxRecDepth 100000 in
set_option maxHeartbeats 4000000 in
theorem x_change (l : Launch) (g : zG) {h : Hp} {x ca cs N T T2 tn : Nat} {S S2 Bt : Nat → Int32} {Q Q2 : pP} {n n2 : Nat → Nat} {im : Int32}  (hc : cH g h x ca cs N S T Q n S2 T2 Q2 n2 im Bt tn) : Sp l g yX11_change cX11_change 6 (some .int) (rmz 12) [.ref x] (h) (zI fun r h' => r = (chA S T Q (n 0) (n 3) (n 0)).1 ∧ cH g h' x ca cs N S T Q n S2 T2 Q2 n2 im Bt tn ∧ only x (x + 54) h h') := by
  refine Sp.of [some (.ref x), none, none, none, none, none] (by decide) (Nat.le_of_ble_eq_true rfl) rfl rfl ?_
  rintro X rfl hr rfl B
  show AW X 0 0 0 _ _ _ _
  obtain ⟨vS, vR, vC, vA, vE, vL, vT, vH⟩ := hc.v
  have e0 := vS.2.1
  have e1 := vR.2.1
  have e2 := vC.2.1
  have e3 := vA.2.1
  have e4 := vE.2.1
  have e5 := vL.2.1
  have e6 := vT.2
  have e8 := vH.1
  have b0 := vS.1
  have b1 := vR.1
  have b2' := vC.1
  have b3 := vA.1
  have b4 := vE.1
  have b5 := vL.1
  have b6 := vT.1
  have b8 := vH.2.1
  have O : only x (x + 54) h h := only.rf
  refine aw_aload_n B 0 rfl dX11_change_0 rfl ?_
  refine aw_callV B 0 0 (x_fill _ _ hc) co_X11_fillWaited k_X11_178 dX11_change_1 hc.ox rfl rfl rfl rfl (Nat.le_of_ble_eq_true rfl) (zrm hr (by omega)) (Nat.le_refl _) (Nat.le_refl _) (kI fun r1 h1 hp1 => ?_)
  obtain ⟨rfl, hc, o1, f, hwf, hwi⟩ := hp1
  have O := O.tr o1
  refine aw_istore1 B dX11_change_4 ?_
  refine aw_bipush B (-5) (by decide) dX11_change_5 ?_
  refine aw_istore2 B dX11_change_7 ?_
  refine aw_iconst B 0 (by decide) dX11_change_8 ?_
  refine aw_istore3 B dX11_change_9 ?_
  have lp : ∀ (fu : Nat) (a : Nat) (o4 o5 : Option Value) (h1 : Hp), fu + a = n 0 → wtd (zXg X) h1 x f → cH (zXg X) h1 x ca cs N S T Q n S2 T2 Q2 n2 im Bt tn → only x (x + 54) h h1 → AW X 0 0 10 [some (.ref x), some (.int (chA S T Q (n 0) (n 3) a).2), some (.int (chA S T Q (n 0) (n 3) a).1), some (.int (nI a)), o4, o5] [] h1 (zI fun r h' => r = (chA S T Q (n 0) (n 3) (n 0)).1 ∧ cH (zXg X) h' x ca cs N S T Q n S2 T2 Q2 n2 im Bt tn ∧ only x (x + 54) h h') := by
    intro fu
    induction fu with
    | zero =>
      intro a o4 o5 h1 hb hwf hc O
      obtain rfl : a = n 0 := by omega
      refine aw_iload_n B 3 rfl dX11_change_10 rfl ?_
      refine aw_aload_n B 0 rfl dX11_change_11 rfl ?_
      refine aw_get B f_X11_12 dX11_change_12 hc.ox rfl ?_
      refine aw_get B f_X11_87 dX11_change_15 hc.s rfl ?_
      refine aw_get B f_X11_66 dX11_change_18 (hc.shelves).o rfl ?_
      refine aw_icmp_ge B 105 dX11_change_21 (fun c21 => ?_) (fun c21 => absurd (Int32.le_refl _) c21)
      refine aw_iload_n B 2 rfl dX11_change_105 rfl ?_
      refine aw_iret B rfl rfl dX11_change_106 ?_
      exact ⟨_, rfl, rfl, hc, O⟩
    | succ fu ih =>
      intro a o4 o5 h1 hb hwf hc O
      refine aw_iload_n B 3 rfl dX11_change_10 rfl ?_
      refine aw_aload_n B 0 rfl dX11_change_11 rfl ?_
      refine aw_get B f_X11_12 dX11_change_12 hc.ox rfl ?_
      refine aw_get B f_X11_87 dX11_change_15 hc.s rfl ?_
      refine aw_get B f_X11_66 dX11_change_18 (hc.shelves).o rfl ?_
      refine aw_icmp_ge B 105 dX11_change_21 (fun c21 => absurd ((nI_leI (by omega) (by omega)).mp c21) (by omega)) (fun c21 => ?_)
      refine aw_iload_n B 3 rfl dX11_change_24 rfl ?_
      refine aw_iconst B 1 (by decide) dX11_change_25 ?_
      refine aw_iadd B dX11_change_26 ?_
      rw [nI_1]
      refine aw_istore4 B dX11_change_27 ?_
      have ihA := ih
      have lpB : ∀ (fu : Nat) (i : Nat) (o5 : Option Value) (h1 : Hp), fu + (a + 1 + i) = n 0 → wtd (zXg X) h1 x f → cH (zXg X) h1 x ca cs N S T Q n S2 T2 Q2 n2 im Bt tn → only x (x + 54) h h1 → AW X 0 0 29 [some (.ref x), some (.int (chB S T Q (n 3) a i (chA S T Q (n 0) (n 3) a)).2), some (.int (chB S T Q (n 3) a i (chA S T Q (n 0) (n 3) a)).1), some (.int (nI a)), some (.int (nI (a + 1 + i))), o5] [] h1 (zI fun r h' => r = (chA S T Q (n 0) (n 3) (n 0)).1 ∧ cH (zXg X) h' x ca cs N S T Q n S2 T2 Q2 n2 im Bt tn ∧ only x (x + 54) h h') := by
        intro fu
        induction fu with
        | zero =>
          intro i o5 h1 hb hwf hc O
          obtain rfl : i = n 0 - (a + 1) := by omega
          refine aw_iload B dX11_change_29 rfl ?_
          refine aw_aload_n B 0 rfl dX11_change_31 rfl ?_
          refine aw_get B f_X11_12 dX11_change_32 hc.ox rfl ?_
          refine aw_get B f_X11_87 dX11_change_35 hc.s rfl ?_
          refine aw_get B f_X11_66 dX11_change_38 (hc.shelves).o rfl ?_
          refine aw_icmp_ge B 99 dX11_change_41 (fun c41 => ?_) (fun c41 => absurd (show nI (n 0) ≤ nI (a + 1 + (n 0 - (a + 1))) from nI_le (by omega) (by omega)) c41)
          refine aw_iinc3 B 1 (by decide) dX11_change_99 ?_
          refine aw_goto B 10 dX11_change_102 ?_
          rw [nI_1]
          exact ihA (a + 1) _ _ _ (by omega) hwf hc O
        | succ fu ih =>
          intro i o5 h1 hb hwf hc O
          refine aw_iload B dX11_change_29 rfl ?_
          refine aw_aload_n B 0 rfl dX11_change_31 rfl ?_
          refine aw_get B f_X11_12 dX11_change_32 hc.ox rfl ?_
          refine aw_get B f_X11_87 dX11_change_35 hc.s rfl ?_
          refine aw_get B f_X11_66 dX11_change_38 (hc.shelves).o rfl ?_
          refine aw_icmp_ge B 99 dX11_change_41 (fun c41 => absurd ((nI_leI (by omega) (by omega)).mp c41) (by omega)) (fun c41 => ?_)
          refine aw_aload_n B 0 rfl dX11_change_44 rfl ?_
          refine aw_iload_n B 3 rfl dX11_change_45 rfl ?_
          refine aw_aload_n B 0 rfl dX11_change_46 rfl ?_
          refine aw_get B f_X11_12 dX11_change_47 hc.ox rfl ?_
          refine aw_get B f_X11_87 dX11_change_50 hc.s rfl ?_
          refine aw_iload B dX11_change_53 rfl ?_
          refine aw_callV B 0 0 (t_get _ _ _ _ 6 _ _ (a + 1 + i) (by decide) (by omega) (by omega) hc.shelves) co_X7_get k_X11_99 dX11_change_55 hc.shelves.o rfl rfl rfl rfl (Nat.le_of_ble_eq_true rfl) (zrm hr (by omega)) (Nat.le_refl _) (Nat.le_refl _) (kI fun r55 h55 hp55 => ?_)
          obtain ⟨rfl, eh55⟩ := hp55
          rw [eh55]
          refine aw_iload B dX11_change_58 rfl ?_
          refine aw_aload_n B 0 rfl dX11_change_60 rfl ?_
          refine aw_get B f_X11_12 dX11_change_61 hc.ox rfl ?_
          refine aw_get B f_X11_87 dX11_change_64 hc.s rfl ?_
          refine aw_iload_n B 3 rfl dX11_change_67 rfl ?_
          refine aw_callV B 0 0 (t_get _ _ _ _ 6 _ _ (a) (by decide) (by omega) (by omega) hc.shelves) co_X7_get k_X11_99 dX11_change_68 hc.shelves.o rfl rfl rfl rfl (Nat.le_of_ble_eq_true rfl) (zrm hr (by omega)) (Nat.le_refl _) (Nat.le_refl _) (kI fun r68 h68 hp68 => ?_)
          obtain ⟨rfl, eh68⟩ := hp68
          rw [eh68]
          have hsw := x_waitsIf X.1.2.1 (zXg X) f (swp S a (a + 1 + i)) (nI a) (S (10 + (a + 1 + i))) (nI (a + 1 + i)) (S (10 + a)) hc hwf hwi (fun k hk => by unfold swp; rw [upd_n (by omega), upd_n (by omega)]) (fun s hs => by
            obtain ⟨sa, -, sa8, esa⟩ := (vS.2.2 a (by omega)).1
            obtain ⟨sb, -, sb8, esb⟩ := (vS.2.2 (a + 1 + i) (by omega)).1
            unfold swp
            by_cases e : s = a
            · subst e
              exact ⟨sb, sb8, by rw [upd_n (by omega), upd_s]; exact esb, by rw [if_pos rfl]; exact esb⟩
            · by_cases e2 : s = a + 1 + i
              · subst e2
                exact ⟨sa, sa8, by rw [upd_s]; exact esa, by rw [if_neg (fun z => e ((nI_eq (by omega) (by omega)).mp z)), if_pos rfl]; exact esa⟩
              · obtain ⟨sh, -, s8, esh⟩ := (vS.2.2 s hs).1
                exact ⟨sh, s8, by rw [upd_n (by omega), upd_n (by omega)]; exact esh, by rw [if_neg (fun z => e ((nI_eq (by omega) (by omega)).mp z)), if_neg (fun z => e2 ((nI_eq (by omega) (by omega)).mp z))]; exact esh⟩)
          refine aw_callV B 0 0 (hsw) co_X11_waitsIf k_X11_181 dX11_change_71 hc.ox rfl rfl rfl rfl (Nat.le_of_ble_eq_true rfl) (zrm hr (by omega)) (Nat.le_refl _) (Nat.le_refl _) (kI fun r71 h71 hp71 => ?_)
          obtain ⟨rfl, hc, o71⟩ := hp71
          have O := O.tr (cvo hc.d o71)
          have hwf : wtd (zXg X) h71 x f := (o71.2 _ (by have := hc.d; omega)).trans hwf
          refine aw_istore5 B dX11_change_74 ?_
          refine aw_iload B dX11_change_76 rfl ?_
          refine aw_iload_n B 1 rfl dX11_change_78 rfl ?_
          refine aw_icmp_ge B 93 dX11_change_79 (fun c79 => ?_) (fun c79 => ?_)
          · refine aw_iinc4 B 1 (by decide) dX11_change_93 ?_
            refine aw_goto B 29 dX11_change_96 ?_
            rw [nI_1]
            have h9 := ih (i + 1) (some (.int (nI (wS (swp S a (a + 1 + i)) T Q (n 3))))) _ (by omega) hwf hc O
            rw [chB, if_neg (Int32.not_lt.mpr c79), if_neg (Int32.not_lt.mpr c79)] at h9
            exact h9
          · refine aw_iload B dX11_change_82 rfl ?_
            refine aw_istore1 B dX11_change_84 ?_
            refine aw_bipush B 10 (by decide) dX11_change_85 ?_
            refine aw_iload_n B 3 rfl dX11_change_87 rfl ?_
            refine aw_imul B dX11_change_88 ?_
            rw [show (10 : Int32) * nI a = nI (10 * a) from pk_mul 10 a]
            refine aw_iload B dX11_change_89 rfl ?_
            refine aw_iadd B dX11_change_91 ?_
            rw [nI_add]
            refine aw_istore2 B dX11_change_92 ?_
            refine aw_iinc4 B 1 (by decide) dX11_change_93 ?_
            refine aw_goto B 29 dX11_change_96 ?_
            rw [nI_1]
            have h9 := ih (i + 1) (some (.int (nI (wS (swp S a (a + 1 + i)) T Q (n 3))))) _ (by omega) hwf hc O
            rw [chB, if_pos (Int32.not_le.mp c79), if_pos (Int32.not_le.mp c79)] at h9
            exact h9
      exact lpB (n 0 - (a + 1)) 0 _ _ (by omega) hwf hc O
  exact lp (n 0) 0 _ _ _ (by omega) hwf hc O
