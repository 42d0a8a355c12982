theorem tk_v {S : Nat → Int32} {i1 i2 i3 r s a : Nat} (e1 : S i1 = nI r) (e2 : S i2 = nI s) (e3 : S i3 = nI a) : S i1 * 10000 + S i2 * 100 + S i3 = nI (10000 * r + 100 * s + a) := by
  rw [e1, e2, e3, show nI r * 10000 = nI (r * 10000) from pk_mul r 10000, show nI s * 100 = nI (s * 100) from pk_mul s 100, nI_add, nI_add, Nat.mul_comm r, Nat.mul_comm s]
theorem tk_r {r s a : Nat} (hr : r < 4) (hs : s < 6) (ha : a ≤ 60) : nI (10000 * r + 100 * s + a) / 10000 = nI r ∧ nI (10000 * r + 100 * s + a) / 100 - nI (10000 * r + 100 * s + a) / 100 / 100 * 100 = nI s ∧ nI (10000 * r + 100 * s + a) - nI (10000 * r + 100 * s + a) / 100 * 100 = nI a := by
  have d1 : nI (10000 * r + 100 * s + a) / 100 = nI ((10000 * r + 100 * s + a) / 100) := pk_div (d := 100) (by omega) (by decide) (by decide)
  refine ⟨?_, ?_, ?_⟩
  · rw [show nI (10000 * r + 100 * s + a) / 10000 = nI ((10000 * r + 100 * s + a) / 10000) from pk_div (d := 10000) (by omega) (by decide) (by decide)]
    congr 1; omega
  · rw [d1, show nI ((10000 * r + 100 * s + a) / 100) - nI ((10000 * r + 100 * s + a) / 100) / 100 * 100 = nI ((10000 * r + 100 * s + a) / 100 % 100) from pk_rem (d := 100) (by omega) (by decide) (by decide)]
    congr 1; omega
  · rw [show nI (10000 * r + 100 * s + a) - nI (10000 * r + 100 * s + a) / 100 * 100 = nI ((10000 * r + 100 * s + a) % 100) from pk_rem (d := 100) (by omega) (by decide) (by decide)]
    congr 1; omega
theorem rd_in {S : Nat → Int32} {r n1 : Nat} (h : r < n1) (h4 : n1 ≤ 4) (e : S 1 = nI n1) : 0 ≤ nI r ∧ nI r ≤ S 1 - 1 := by
  rw [e]
  exact ⟨nI_pos' (by omega), (lt_le1 (by omega) _).mp (nI_lt h (by omega))⟩
theorem st_in1 : ∀ lv, lv < 10 → ∀ s, s < 512 → inF (nI lv) 1 9 (nI s) = nI s &&& (((1 : Int32) <<< (nI lv &&& 31) - 1) ^^^ (-1)) ∧ nI (kN (inF (nI lv) 1 9 (nI s))) = inF (nI lv) 1 9 (nI s) ∧ kN (inF (nI lv) 1 9 (nI s)) < 512 := by decide +kernel
theorem st_in0 : ∀ lv, lv < 10 → ∀ s, s < 512 → inF (nI lv) 0 9 (nI s) = nI s &&& ((1 : Int32) <<< (nI lv &&& 31) - 1) ∧ nI (kN (inF (nI lv) 0 9 (nI s))) = inF (nI lv) 0 9 (nI s) ∧ kN (inF (nI lv) 0 9 (nI s)) < 512 := by decide +kernel
theorem stF_n {S : Nat → Int32} {T : Nat} {Q : pP} {n4 : Nat} (h : ∀ k, k < n4 → S (62 + k) = 0 ∨ S (62 + k) = 1) : ∀ j, j ≤ n4 → ∃ s, s < 512 ∧ stF S T Q j = nI s
  | 0, _ => ⟨511, by decide, rfl⟩
  | j + 1, hj => by
    obtain ⟨s, hs, e⟩ := stF_n h j (by omega)
    obtain ⟨z, -, hz, ez⟩ := lvl_rng (T + kN (S (54 + j))) Q
    rw [stF, e, ez]
    rcases h j (by omega) with e2 | e2
    · rw [e2]
      exact ⟨_, (st_in0 z (by omega) s hs).2.2, (st_in0 z (by omega) s hs).2.1.symm⟩
    · rw [e2]
      exact ⟨_, (st_in1 z (by omega) s hs).2.2, (st_in1 z (by omega) s hs).2.1.symm⟩
theorem dX11_stood_0 : decode cX11_stood 0 = .ok (.sipush 511, 3) := by decide +kernel
theorem dX11_stood_3 : decode cX11_stood 3 = .ok (.istore_n 1, 1) := by decide +kernel
theorem dX11_stood_4 : decode cX11_stood 4 = .ok (.iconst 0, 1) := by decide +kernel
theorem dX11_stood_5 : decode cX11_stood 5 = .ok (.istore_n 2, 1) := by decide +kernel
theorem dX11_stood_6 : decode cX11_stood 6 = .ok (.iload_n 2, 1) := by decide +kernel
theorem dX11_stood_7 : decode cX11_stood 7 = .ok (.aload_n 0, 1) := by decide +kernel
theorem dX11_stood_8 : decode cX11_stood 8 = .ok (.getfield 12, 3) := by decide +kernel
theorem dX11_stood_11 : decode cX11_stood 11 = .ok (.getfield 198, 3) := by decide +kernel
theorem dX11_stood_14 : decode cX11_stood 14 = .ok (.getfield 66, 3) := by decide +kernel
theorem dX11_stood_17 : decode cX11_stood 17 = .ok (.if_icmp .ge 62, 3) := by decide +kernel
theorem dX11_stood_20 : decode cX11_stood 20 = .ok (.aload_n 0, 1) := by decide +kernel
theorem dX11_stood_21 : decode cX11_stood 21 = .ok (.getfield 12, 3) := by decide +kernel
theorem dX11_stood_24 : decode cX11_stood 24 = .ok (.getfield 198, 3) := by decide +kernel
theorem dX11_stood_27 : decode cX11_stood 27 = .ok (.iload_n 2, 1) := by decide +kernel
theorem dX11_stood_28 : decode cX11_stood 28 = .ok (.invokevirtual 99, 3) := by decide +kernel
theorem dX11_stood_31 : decode cX11_stood 31 = .ok (.istore_n 3, 1) := by decide +kernel
theorem dX11_stood_32 : decode cX11_stood 32 = .ok (.aload_n 0, 1) := by decide +kernel
theorem dX11_stood_33 : decode cX11_stood 33 = .ok (.iload_n 3, 1) := by decide +kernel
theorem dX11_stood_34 : decode cX11_stood 34 = .ok (.iconst 2, 1) := by decide +kernel
theorem dX11_stood_35 : decode cX11_stood 35 = .ok (.idiv, 1) := by decide +kernel
theorem dX11_stood_36 : decode cX11_stood 36 = .ok (.invokevirtual 140, 3) := by decide +kernel
theorem dX11_stood_39 : decode cX11_stood 39 = .ok (.bipush 9, 2) := by decide +kernel
theorem dX11_stood_41 : decode cX11_stood 41 = .ok (.invokestatic 201, 3) := by decide +kernel
theorem dX11_stood_44 : decode cX11_stood 44 = .ok (.istore 4, 2) := by decide +kernel
theorem dX11_stood_46 : decode cX11_stood 46 = .ok (.iconst 1, 1) := by decide +kernel
theorem dX11_stood_47 : decode cX11_stood 47 = .ok (.iload 4, 2) := by decide +kernel
theorem dX11_stood_49 : decode cX11_stood 49 = .ok (.ishl, 1) := by decide +kernel
theorem dX11_stood_50 : decode cX11_stood 50 = .ok (.iconst 1, 1) := by decide +kernel
theorem dX11_stood_51 : decode cX11_stood 51 = .ok (.isub, 1) := by decide +kernel
theorem dX11_stood_52 : decode cX11_stood 52 = .ok (.istore 5, 2) := by decide +kernel
theorem dX11_stood_54 : decode cX11_stood 54 = .ok (.iload_n 1, 1) := by decide +kernel
theorem dX11_stood_55 : decode cX11_stood 55 = .ok (.iload_n 3, 1) := by decide +kernel
theorem dX11_stood_56 : decode cX11_stood 56 = .ok (.iconst 2, 1) := by decide +kernel
theorem dX11_stood_57 : decode cX11_stood 57 = .ok (.irem, 1) := by decide +kernel
theorem dX11_stood_58 : decode cX11_stood 58 = .ok (.iconst 1, 1) := by decide +kernel
theorem dX11_stood_59 : decode cX11_stood 59 = .ok (.if_icmp .ne 10, 3) := by decide +kernel
theorem dX11_stood_62 : decode cX11_stood 62 = .ok (.iload 5, 2) := by decide +kernel
theorem dX11_stood_64 : decode cX11_stood 64 = .ok (.iconst (-1), 1) := by decide +kernel
theorem dX11_stood_65 : decode cX11_stood 65 = .ok (.ixor, 1) := by decide +kernel
theorem dX11_stood_66 : decode cX11_stood 66 = .ok (.goto 5, 3) := by decide +kernel
theorem dX11_stood_69 : decode cX11_stood 69 = .ok (.iload 5, 2) := by decide +kernel
theorem dX11_stood_71 : decode cX11_stood 71 = .ok (.iand, 1) := by decide +kernel
theorem dX11_stood_72 : decode cX11_stood 72 = .ok (.istore_n 1, 1) := by decide +kernel
theorem dX11_stood_73 : decode cX11_stood 73 = .ok (.iinc 2 1, 3) := by decide +kernel
theorem dX11_stood_76 : decode cX11_stood 76 = .ok (.goto (-70), 3) := by decide +kernel
theorem dX11_stood_79 : decode cX11_stood 79 = .ok (.iload_n 1, 1) := by decide +kernel
theorem dX11_stood_80 : decode cX11_stood 80 = .ok (.ireturn, 1) := by decide +kernel
set_option maxRecDepth 100000 in
set_option maxHeartbeats 4000000 in
theorem x_stood (l : Launch) (g : zG) {h : Hp} {x ca cs N T T2 tn : Nat} {S S2 Bt : Nat → Int32} {Q Q2 : pP} {n n2 : Nat → Nat} {im : Int32}  (hc : cH g h x ca cs N S T Q n S2 T2 Q2 n2 im Bt tn) : Sp l g yX11_stood cX11_stood 6 (some .int) (rmz 5) [.ref x] (h) (zI fun r h' => r = stF S T Q (n 4) ∧ cH g h' x ca cs N S T Q n S2 T2 Q2 n2 im Bt tn ∧ only x (x + 54) h h') := by
  refine Sp.of [some (.ref x), none, none, none, none, none] (by decide) (Nat.le_of_ble_eq_true rfl) rfl rfl ?_
  rintro X rfl hr rfl B
  show AW X 0 0 0 _ _ _ _
  obtain ⟨vS, vR, vC, vA, vE, vL, vT, vH⟩ := hc.v
  have e0 := vS.2.1
  have e1 := vR.2.1
  have e2 := vC.2.1
  have e3 := vA.2.1
  have e4 := vE.2.1
  have e5 := vL.2.1
  have e6 := vT.2
  have e8 := vH.1
  have b0 := vS.1
  have b1 := vR.1
  have b2' := vC.1
  have b3 := vA.1
  have b4 := vE.1
  have b5 := vL.1
  have b6 := vT.1
  have b8 := vH.2.1
  have O : only x (x + 54) h h := only.rf
  refine aw_sipush B 511 (by decide) dX11_stood_0 ?_
  refine aw_istore1 B dX11_stood_3 ?_
  refine aw_iconst B 0 (by decide) dX11_stood_4 ?_
  refine aw_istore2 B dX11_stood_5 ?_
  have lp : ∀ (fu : Nat) (j : Nat) (o3 o4 o5 : Option Value) (h1 : Hp), fu + j = n 4 → cH (zXg X) h1 x ca cs N S T Q n S2 T2 Q2 n2 im Bt tn → only x (x + 54) h h1 → AW X 0 0 6 [some (.ref x), some (.int (stF S T Q j)), some (.int (nI j)), o3, o4, o5] [] h1 (zI fun r h' => r = stF S T Q (n 4) ∧ cH (zXg X) h' x ca cs N S T Q n S2 T2 Q2 n2 im Bt tn ∧ only x (x + 54) h h') := by
    intro fu
    induction fu with
    | zero =>
      intro j o3 o4 o5 h1 hb hc O
      obtain rfl : j = n 4 := by omega
      refine aw_iload_n B 2 rfl dX11_stood_6 rfl ?_
      refine aw_aload_n B 0 rfl dX11_stood_7 rfl ?_
      refine aw_get B f_X11_12 dX11_stood_8 hc.ox rfl ?_
      refine aw_get B f_X11_198 dX11_stood_11 hc.s rfl ?_
      refine aw_get B f_X11_66 dX11_stood_14 (hc.seen).o rfl ?_
      refine aw_icmp_ge B 79 dX11_stood_17 (fun c17 => ?_) (fun c17 => absurd (Int32.le_refl _) c17)
      refine aw_iload_n B 1 rfl dX11_stood_79 rfl ?_
      refine aw_iret B rfl rfl dX11_stood_80 ?_
      exact ⟨_, rfl, rfl, hc, O⟩
    | succ fu ih =>
      intro j o3 o4 o5 h1 hb hc O
      obtain ⟨⟨aa, ha, ea⟩, hd⟩ := vE.2.2 j (by omega)
      obtain ⟨sb, hsb, esb⟩ := stF_n (T := T) (Q := Q) (fun k hk => (vE.2.2 k hk).2) j (by omega)
      have hdn : ∃ dd, dd < 2 ∧ S (62 + j) = nI dd := by
        rcases hd with z | z
        · exact ⟨0, by decide, z⟩
        · exact ⟨1, by decide, z⟩
      obtain ⟨dd, hdd, ed⟩ := hdn
      have ev : seenV S j = nI (2 * aa + dd) := by unfold seenV; rw [ea, ed, show (2 : Int32) * nI aa = nI (2 * aa) from pk_mul 2 aa, nI_add]
      refine aw_iload_n B 2 rfl dX11_stood_6 rfl ?_
      refine aw_aload_n B 0 rfl dX11_stood_7 rfl ?_
      refine aw_get B f_X11_12 dX11_stood_8 hc.ox rfl ?_
      refine aw_get B f_X11_198 dX11_stood_11 hc.s rfl ?_
      refine aw_get B f_X11_66 dX11_stood_14 (hc.seen).o rfl ?_
      refine aw_icmp_ge B 79 dX11_stood_17 (fun c17 => absurd ((nI_leI (by omega) (by omega)).mp c17) (by omega)) (fun c17 => ?_)
      refine aw_aload_n B 0 rfl dX11_stood_20 rfl ?_
      refine aw_get B f_X11_12 dX11_stood_21 hc.ox rfl ?_
      refine aw_get B f_X11_198 dX11_stood_24 hc.s rfl ?_
      refine aw_iload_n B 2 rfl dX11_stood_27 rfl ?_
      refine aw_callV B 0 0 (t_get _ _ _ _ 8 _ _ (j) (by decide) (by omega) (by omega) hc.seen) co_X7_get k_X11_99 dX11_stood_28 hc.seen.o rfl rfl rfl rfl (Nat.le_of_ble_eq_true rfl) (zrm hr (by omega)) (Nat.le_refl _) (Nat.le_refl _) (kI fun r28 h28 hp28 => ?_)
      obtain ⟨rfl, eh28⟩ := hp28
      rw [eh28]
      rw [ev]
      refine aw_istore3 B dX11_stood_31 ?_
      refine aw_aload_n B 0 rfl dX11_stood_32 rfl ?_
      refine aw_iload_n B 3 rfl dX11_stood_33 rfl ?_
      refine aw_iconst B 2 (by decide) dX11_stood_34 ?_
      refine aw_idiv B (by decide) dX11_stood_35 ?_
      rw [show nI (2 * aa + dd) / 2 = nI aa from by rw [show nI (2 * aa + dd) / 2 = nI ((2 * aa + dd) / 2) from pk_div (d := 2) (by omega) (by decide) (by decide), show (2 * aa + dd) / 2 = aa by omega]]
      refine aw_callV B 0 0 (x_levelIn _ _ (aa) hc (by omega)) co_X11_levelIn k_X11_140 dX11_stood_36 hc.ox rfl rfl rfl rfl (Nat.le_of_ble_eq_true rfl) (zrm hr (by omega)) (Nat.le_refl _) (Nat.le_refl _) (kI fun r36 h36 hp36 => ?_)
      obtain ⟨rfl, hc, o36⟩ := hp36
      have O := O.tr o36
      obtain ⟨z, -, hz, ez⟩ := lvl_rng (T + aa) Q
      rw [ez]
      refine aw_bipush B 9 (by decide) dX11_stood_39 ?_
      refine aw_mmin B ma_X11_201 dX11_stood_41 (Nat.le_of_ble_eq_true rfl) (mR2 hr (by omega)) ?_
      rw [if_neg (show ¬ (9 : Int32) < nI z from Int32.not_lt.mpr (show nI z ≤ nI 9 from nI_le hz (by omega)))]
      refine aw_istore4 B dX11_stood_44 ?_
      refine aw_iconst B 1 (by decide) dX11_stood_46 ?_
      refine aw_iload B dX11_stood_47 rfl ?_
      refine aw_ishl B dX11_stood_49 ?_
      refine aw_iconst B 1 (by decide) dX11_stood_50 ?_
      refine aw_isub B dX11_stood_51 ?_
      refine aw_istore5 B dX11_stood_52 ?_
      refine aw_iload_n B 1 rfl dX11_stood_54 rfl ?_
      refine aw_iload_n B 3 rfl dX11_stood_55 rfl ?_
      refine aw_iconst B 2 (by decide) dX11_stood_56 ?_
      refine aw_irem B (by decide) dX11_stood_57 ?_
      rw [show nI (2 * aa + dd) - nI (2 * aa + dd) / 2 * 2 = nI dd from by rw [show nI (2 * aa + dd) - nI (2 * aa + dd) / 2 * 2 = nI ((2 * aa + dd) % 2) from pk_rem (d := 2) (by omega) (by decide) (by decide), show (2 * aa + dd) % 2 = dd by omega]]
      refine aw_iconst B 1 (by decide) dX11_stood_58 ?_
      refine aw_icmp_ne B 69 dX11_stood_59 (fun c59 => ?_) (fun c59 => ?_)
      · refine aw_iload B dX11_stood_69 rfl ?_
        refine aw_iand B dX11_stood_71 ?_
        refine aw_istore1 B dX11_stood_72 ?_
        refine aw_iinc2 B 1 (by decide) dX11_stood_73 ?_
        refine aw_goto B 6 dX11_stood_76 ?_
        obtain rfl : dd = 0 := by
          rcases (show dd = 0 ∨ dd = 1 by omega) with y | y
          · exact y
          · exact absurd (by rw [y]; rfl) c59
        rw [nI_1]
        have h9 := ih (j + 1) (some (.int (nI (2 * aa + 0)))) (some (.int (nI z))) (some (.int ((1 : Int32) <<< (nI z &&& 31) - 1))) _ (by omega) hc O
        rw [stF, ea, kN_nI (by omega), ez, ed, esb] at h9
        rw [show inF (nI z) (nI 0) 9 (nI sb) = nI sb &&& ((1 : Int32) <<< (nI z &&& 31) - 1) from (st_in0 z (by omega) sb hsb).1] at h9
        rw [esb]
        exact h9
      · refine aw_iload B dX11_stood_62 rfl ?_
        refine aw_iconst B (-1) (by decide) dX11_stood_64 ?_
        refine aw_ixor B dX11_stood_65 ?_
        refine aw_goto B 71 dX11_stood_66 ?_
        refine aw_iand B dX11_stood_71 ?_
        refine aw_istore1 B dX11_stood_72 ?_
        refine aw_iinc2 B 1 (by decide) dX11_stood_73 ?_
        refine aw_goto B 6 dX11_stood_76 ?_
        obtain rfl : dd = 1 := (nI_eq (b := 1) (by omega) (by decide)).mp c59
        rw [nI_1]
        have h9 := ih (j + 1) (some (.int (nI (2 * aa + 1)))) (some (.int (nI z))) (some (.int ((1 : Int32) <<< (nI z &&& 31) - 1))) _ (by omega) hc O
        rw [stF, ea, kN_nI (by omega), ez, ed, esb] at h9
        rw [show inF (nI z) (nI 1) 9 (nI sb) = nI sb &&& (((1 : Int32) <<< (nI z &&& 31) - 1) ^^^ (-1)) from (st_in1 z (by omega) sb hsb).1] at h9
        rw [esb]
        exact h9
  exact lp (n 4) 0 _ _ _ _ (by omega) hc O
set_option maxRecDepth 100000 in
set_option maxHeartbeats 4000000 in
theorem vc_X11_216 {X : zX} {cc : ByteArray} {nL pc : Nat} {nm : String} {ret : Option FieldType} {lv : List (Option Value)} {rest : List Value} {h : Hp} {Ko : Option Value → Hp → Prop} (B : zB X cc nL "LowWater" nm ret) {d k : Nat} {a v w sh n T a0 : Nat} {num : Int32} {Q : pP} (hr : zXr X = rmz d) (hdp : 6 ≤ d) (hk : k ≤ 6) (hv : v ≤ 9) (hR : h.2 a = some (.inr (kc k, [.int num, .int (nI v)]))) (hsh : sh ≤ 8) (h1 : 1 ≤ n) (h4 : n ≤ 4) (hT : T + a0 ≤ 20000) (ha : ¬ (w ≤ a ∧ a < w + 4)) (hC : caveI (zXg X) h w Q) (hd : decode cc pc = .ok (.invokevirtual 216, 3)) (hw : (rest.map fun v => v.category).sum ≤ 8) (kk : ∀ h', caveI (zXg X) h' w Q → only w (w + 4) h h' → AW X 0 0 (pc + 3) lv (.int (b2 (cB T Q k v sh (p_needs k v n) a0)) :: rest) h' Ko) : AW X 0 0 pc lv (.int (nI (T + a0)) :: .int (nI n) :: .int (nI sh) :: .ref w :: .ref a :: rest) (h) Ko := by
  rcases (show k = 0 ∨ k = 1 ∨ k = 2 ∨ k = 3 ∨ k = 4 ∨ k = 5 ∨ k = 6 by omega) with rfl | rfl | rfl | rfl | rfl | rfl | rfl
  · refine aw_callU B 0 0 (s_readsC _ _ h a w 0 v sh n T a0 num Q hk hv hsh h1 h4 hT hR ha hC) co_X6_reads ku_X11_216_X6 hd hR rfl rfl rfl rfl hw (zrm hr (by omega)) (Nat.le_refl _) (Nat.le_refl _) (kI fun r9 h9 hp => ?_)
    obtain ⟨rfl, C9, O9⟩ := hp
    exact kk h9 C9 O9
  · refine aw_callU B 0 0 (s_readsC _ _ h a w 1 v sh n T a0 num Q hk hv hsh h1 h4 hT hR ha hC) co_X6_reads ku_X11_216_X3 hd hR rfl rfl rfl rfl hw (zrm hr (by omega)) (Nat.le_refl _) (Nat.le_refl _) (kI fun r9 h9 hp => ?_)
    obtain ⟨rfl, C9, O9⟩ := hp
    exact kk h9 C9 O9
  · refine aw_callU B 0 0 (s_readsC _ _ h a w 2 v sh n T a0 num Q hk hv hsh h1 h4 hT hR ha hC) co_X6_reads ku_X11_216_X2 hd hR rfl rfl rfl rfl hw (zrm hr (by omega)) (Nat.le_refl _) (Nat.le_refl _) (kI fun r9 h9 hp => ?_)
    obtain ⟨rfl, C9, O9⟩ := hp
    exact kk h9 C9 O9
  · refine aw_callU B 0 0 (s_readsC _ _ h a w 3 v sh n T a0 num Q hk hv hsh h1 h4 hT hR ha hC) co_X6_reads ku_X11_216_X8 hd hR rfl rfl rfl rfl hw (zrm hr (by omega)) (Nat.le_refl _) (Nat.le_refl _) (kI fun r9 h9 hp => ?_)
    obtain ⟨rfl, C9, O9⟩ := hp
    exact kk h9 C9 O9
  · refine aw_callU B 0 0 (s_readsC _ _ h a w 4 v sh n T a0 num Q hk hv hsh h1 h4 hT hR ha hC) co_X6_reads ku_X11_216_X5 hd hR rfl rfl rfl rfl hw (zrm hr (by omega)) (Nat.le_refl _) (Nat.le_refl _) (kI fun r9 h9 hp => ?_)
    obtain ⟨rfl, C9, O9⟩ := hp
    exact kk h9 C9 O9
  · refine aw_callU B 0 0 (s_readsC _ _ h a w 5 v sh n T a0 num Q hk hv hsh h1 h4 hT hR ha hC) co_X6_reads ku_X11_216_X0 hd hR rfl rfl rfl rfl hw (zrm hr (by omega)) (Nat.le_refl _) (Nat.le_refl _) (kI fun r9 h9 hp => ?_)
    obtain ⟨rfl, C9, O9⟩ := hp
    exact kk h9 C9 O9
  · refine aw_callU B 0 0 (s_readsC _ _ h a w 6 v sh n T a0 num Q hk hv hsh h1 h4 hT hR ha hC) co_X6_reads ku_X11_216_X10 hd hR rfl rfl rfl rfl hw (zrm hr (by omega)) (Nat.le_refl _) (Nat.le_refl _) (kI fun r9 h9 hp => ?_)
    obtain ⟨rfl, C9, O9⟩ := hp
    exact kk h9 C9 O9
theorem b2_n {b : Bool} (h : ¬ b2 b = 0) : b = true := by
  cases b
  · exact absurd rfl h
  · rfl
theorem dX11_looked_0 : decode cX11_looked 0 = .ok (.iconst 0, 1) := by decide +kernel
theorem dX11_looked_1 : decode cX11_looked 1 = .ok (.istore_n 1, 1) := by decide +kernel
theorem dX11_looked_2 : decode cX11_looked 2 = .ok (.iload_n 1, 1) := by decide +kernel
theorem dX11_looked_3 : decode cX11_looked 3 = .ok (.aload_n 0, 1) := by decide +kernel
theorem dX11_looked_4 : decode cX11_looked 4 = .ok (.getfield 12, 3) := by decide +kernel
theorem dX11_looked_7 : decode cX11_looked 7 = .ok (.getfield 204, 3) := by decide +kernel
theorem dX11_looked_10 : decode cX11_looked 10 = .ok (.getfield 66, 3) := by decide +kernel
theorem dX11_looked_13 : decode cX11_looked 13 = .ok (.if_icmp .ge 99, 3) := by decide +kernel
theorem dX11_looked_16 : decode cX11_looked 16 = .ok (.aload_n 0, 1) := by decide +kernel
theorem dX11_looked_17 : decode cX11_looked 17 = .ok (.getfield 12, 3) := by decide +kernel
theorem dX11_looked_20 : decode cX11_looked 20 = .ok (.getfield 204, 3) := by decide +kernel
theorem dX11_looked_23 : decode cX11_looked 23 = .ok (.iload_n 1, 1) := by decide +kernel
theorem dX11_looked_24 : decode cX11_looked 24 = .ok (.invokevirtual 99, 3) := by decide +kernel
theorem dX11_looked_27 : decode cX11_looked 27 = .ok (.istore_n 2, 1) := by decide +kernel
theorem dX11_looked_28 : decode cX11_looked 28 = .ok (.iload_n 2, 1) := by decide +kernel
theorem dX11_looked_29 : decode cX11_looked 29 = .ok (.invokestatic 207, 3) := by decide +kernel
theorem dX11_looked_32 : decode cX11_looked 32 = .ok (.istore_n 3, 1) := by decide +kernel
theorem dX11_looked_33 : decode cX11_looked 33 = .ok (.aload_n 0, 1) := by decide +kernel
theorem dX11_looked_34 : decode cX11_looked 34 = .ok (.getfield 12, 3) := by decide +kernel
theorem dX11_looked_37 : decode cX11_looked 37 = .ok (.iload_n 2, 1) := by decide +kernel
theorem dX11_looked_38 : decode cX11_looked 38 = .ok (.invokestatic 210, 3) := by decide +kernel
theorem dX11_looked_41 : decode cX11_looked 41 = .ok (.invokevirtual 118, 3) := by decide +kernel
theorem dX11_looked_44 : decode cX11_looked 44 = .ok (.astore 4, 2) := by decide +kernel
theorem dX11_looked_46 : decode cX11_looked 46 = .ok (.aload_n 0, 1) := by decide +kernel
theorem dX11_looked_47 : decode cX11_looked 47 = .ok (.getfield 12, 3) := by decide +kernel
theorem dX11_looked_50 : decode cX11_looked 50 = .ok (.getfield 137, 3) := by decide +kernel
theorem dX11_looked_53 : decode cX11_looked 53 = .ok (.iload_n 2, 1) := by decide +kernel
theorem dX11_looked_54 : decode cX11_looked 54 = .ok (.invokestatic 213, 3) := by decide +kernel
theorem dX11_looked_57 : decode cX11_looked 57 = .ok (.iadd, 1) := by decide +kernel
theorem dX11_looked_58 : decode cX11_looked 58 = .ok (.istore 5, 2) := by decide +kernel
theorem dX11_looked_60 : decode cX11_looked 60 = .ok (.aload 4, 2) := by decide +kernel
theorem dX11_looked_62 : decode cX11_looked 62 = .ok (.ifnull 44, 3) := by decide +kernel
theorem dX11_looked_65 : decode cX11_looked 65 = .ok (.aload 4, 2) := by decide +kernel
theorem dX11_looked_67 : decode cX11_looked 67 = .ok (.aload_n 0, 1) := by decide +kernel
theorem dX11_looked_68 : decode cX11_looked 68 = .ok (.getfield 12, 3) := by decide +kernel
theorem dX11_looked_71 : decode cX11_looked 71 = .ok (.getfield 80, 3) := by decide +kernel
theorem dX11_looked_74 : decode cX11_looked 74 = .ok (.aload_n 0, 1) := by decide +kernel
theorem dX11_looked_75 : decode cX11_looked 75 = .ok (.getfield 12, 3) := by decide +kernel
theorem dX11_looked_78 : decode cX11_looked 78 = .ok (.getfield 87, 3) := by decide +kernel
theorem dX11_looked_81 : decode cX11_looked 81 = .ok (.iload_n 3, 1) := by decide +kernel
theorem dX11_looked_82 : decode cX11_looked 82 = .ok (.invokevirtual 99, 3) := by decide +kernel
theorem dX11_looked_85 : decode cX11_looked 85 = .ok (.aload_n 0, 1) := by decide +kernel
theorem dX11_looked_86 : decode cX11_looked 86 = .ok (.getfield 12, 3) := by decide +kernel
theorem dX11_looked_89 : decode cX11_looked 89 = .ok (.getfield 90, 3) := by decide +kernel
theorem dX11_looked_92 : decode cX11_looked 92 = .ok (.iload_n 3, 1) := by decide +kernel
theorem dX11_looked_93 : decode cX11_looked 93 = .ok (.invokevirtual 99, 3) := by decide +kernel
theorem dX11_looked_96 : decode cX11_looked 96 = .ok (.iload 5, 2) := by decide +kernel
theorem dX11_looked_98 : decode cX11_looked 98 = .ok (.invokevirtual 216, 3) := by decide +kernel
theorem dX11_looked_101 : decode cX11_looked 101 = .ok (.ifCond .ne 5, 3) := by decide +kernel
theorem dX11_looked_104 : decode cX11_looked 104 = .ok (.iload_n 1, 1) := by decide +kernel
theorem dX11_looked_105 : decode cX11_looked 105 = .ok (.ireturn, 1) := by decide +kernel
theorem dX11_looked_106 : decode cX11_looked 106 = .ok (.iinc 1 1, 3) := by decide +kernel
theorem dX11_looked_109 : decode cX11_looked 109 = .ok (.goto (-107), 3) := by decide +kernel
theorem dX11_looked_112 : decode cX11_looked 112 = .ok (.bipush (-5), 2) := by decide +kernel
theorem dX11_looked_114 : decode cX11_looked 114 = .ok (.ireturn, 1) := by decide +kernel
set_option maxRecDepth 100000 in
set_option maxHeartbeats 4000000 in
theorem x_looked (l : Launch) (g : zG) {h : Hp} {x ca cs N T T2 tn : Nat} {S S2 Bt : Nat → Int32} {Q Q2 : pP} {n n2 : Nat → Nat} {im : Int32}  (hc : cH g h x ca cs N S T Q n S2 T2 Q2 n2 im Bt tn) : Sp l g yX11_looked cX11_looked 6 (some .int) (rmz 7) [.ref x] (h) (zI fun r h' => r = lkF S T Q (n 5) 0 ∧ cH g h' x ca cs N S T Q n S2 T2 Q2 n2 im Bt tn ∧ only x (x + 54) h h') := by
  refine Sp.of [some (.ref x), none, none, none, none, none] (by decide) (Nat.le_of_ble_eq_true rfl) rfl rfl ?_
  rintro X rfl hr rfl B
  show AW X 0 0 0 _ _ _ _
  obtain ⟨vS, vR, vC, vA, vE, vL, vT, vH⟩ := hc.v
  have e0 := vS.2.1
  have e1 := vR.2.1
  have e2 := vC.2.1
  have e3 := vA.2.1
  have e4 := vE.2.1
  have e5 := vL.2.1
  have e6 := vT.2
  have e8 := vH.1
  have b0 := vS.1
  have b1 := vR.1
  have b2' := vC.1
  have b3 := vA.1
  have b4 := vE.1
  have b5 := vL.1
  have b6 := vT.1
  have b8 := vH.2.1
  have O : only x (x + 54) h h := only.rf
  refine aw_iconst B 0 (by decide) dX11_looked_0 ?_
  refine aw_istore1 B dX11_looked_1 ?_
  have lp : ∀ (fu : Nat) (j : Nat) (o2 o3 o4 o5 : Option Value) (h1 : Hp), fu + j = n 5 → lkF S T Q (n 5) 0 = lkF S T Q fu j → cH (zXg X) h1 x ca cs N S T Q n S2 T2 Q2 n2 im Bt tn → only x (x + 54) h h1 → AW X 0 0 2 [some (.ref x), some (.int (nI j)), o2, o3, o4, o5] [] h1 (zI fun r h' => r = lkF S T Q (n 5) 0 ∧ cH (zXg X) h' x ca cs N S T Q n S2 T2 Q2 n2 im Bt tn ∧ only x (x + 54) h h') := by
    intro fu
    induction fu with
    | zero =>
      intro j o2 o3 o4 o5 h1 hb hq hc O
      obtain rfl : j = n 5 := by omega
      refine aw_iload_n B 1 rfl dX11_looked_2 rfl ?_
      refine aw_aload_n B 0 rfl dX11_looked_3 rfl ?_
      refine aw_get B f_X11_12 dX11_looked_4 hc.ox rfl ?_
      refine aw_get B f_X11_204 dX11_looked_7 hc.s rfl ?_
      refine aw_get B f_X11_66 dX11_looked_10 (hc.tales).o rfl ?_
      refine aw_icmp_ge B 112 dX11_looked_13 (fun c13 => ?_) (fun c13 => absurd (Int32.le_refl _) c13)
      refine aw_bipush B (-5) (by decide) dX11_looked_112 ?_
      refine aw_iret B rfl rfl dX11_looked_114 ?_
      exact ⟨_, rfl, by rw [hq, lkF], hc, O⟩
    | succ fu ih =>
      intro j o2 o3 o4 o5 h1 hb hq hc O
      obtain ⟨⟨rr, hrr, er⟩, ⟨ss, hss, es⟩, aa, haa, ea⟩ := vL.2.2 j (by omega)
      have ev : taleV S j = nI (10000 * rr + 100 * ss + aa) := tk_v er es ea
      have tk1 := tk_r (r := rr) (s := ss) (a := aa) (by omega) (by omega) (by omega)
      obtain ⟨sh, -, s8, esh⟩ := (vS.2.2 ss hss).1
      obtain ⟨ln, l1, l4, eln⟩ := (vS.2.2 ss hss).2
      refine aw_iload_n B 1 rfl dX11_looked_2 rfl ?_
      refine aw_aload_n B 0 rfl dX11_looked_3 rfl ?_
      refine aw_get B f_X11_12 dX11_looked_4 hc.ox rfl ?_
      refine aw_get B f_X11_204 dX11_looked_7 hc.s rfl ?_
      refine aw_get B f_X11_66 dX11_looked_10 (hc.tales).o rfl ?_
      refine aw_icmp_ge B 112 dX11_looked_13 (fun c13 => absurd ((nI_leI (by omega) (by omega)).mp c13) (by omega)) (fun c13 => ?_)
      refine aw_aload_n B 0 rfl dX11_looked_16 rfl ?_
      refine aw_get B f_X11_12 dX11_looked_17 hc.ox rfl ?_
      refine aw_get B f_X11_204 dX11_looked_20 hc.s rfl ?_
      refine aw_iload_n B 1 rfl dX11_looked_23 rfl ?_
      refine aw_callV B 0 0 (t_get _ _ _ _ 8 _ _ (j) (by decide) (by omega) (by omega) hc.tales) co_X7_get k_X11_99 dX11_looked_24 hc.tales.o rfl rfl rfl rfl (Nat.le_of_ble_eq_true rfl) (zrm hr (by omega)) (Nat.le_refl _) (Nat.le_refl _) (kI fun r24 h24 hp24 => ?_)
      obtain ⟨rfl, eh24⟩ := hp24
      rw [eh24]
      rw [ev]
      refine aw_istore2 B dX11_looked_27 ?_
      refine aw_iload_n B 2 rfl dX11_looked_28 rfl ?_
      refine aw_callS B 0 0 (x_slateIn _ _ _ _) co_X11_slateIn k_X11_207 dX11_looked_29 rfl rfl (Nat.le_of_ble_eq_true rfl) (zrm hr (by omega)) (Nat.le_refl _) (Nat.le_refl _) (kI fun r29 h29 hp29 => ?_)
      obtain ⟨rfl, eh29⟩ := hp29
      rw [eh29]
      rw [tk1.2.1]
      refine aw_istore3 B dX11_looked_32 ?_
      refine aw_aload_n B 0 rfl dX11_looked_33 rfl ?_
      refine aw_get B f_X11_12 dX11_looked_34 hc.ox rfl ?_
      refine aw_iload_n B 2 rfl dX11_looked_37 rfl ?_
      refine aw_callS B 0 0 (x_readerIn _ _ _ _) co_X11_readerIn k_X11_210 dX11_looked_38 rfl rfl (Nat.le_of_ble_eq_true rfl) (zrm hr (by omega)) (Nat.le_refl _) (Nat.le_refl _) (kI fun r38 h38 hp38 => ?_)
      obtain ⟨rfl, eh38⟩ := hp38
      rw [eh38]
      rw [tk1.1]
      refine aw_callV B 0 0 (x_readerAt _ _ (nI rr) hc) co_X9_readerAt k_X11_118 dX11_looked_41 hc.s rfl rfl rfl rfl (Nat.le_of_ble_eq_true rfl) (zrm hr (by omega)) (Nat.le_refl _) (Nat.le_refl _) (kO fun r41 h41 hp41 => ?_)
      obtain ⟨eh41, hv41⟩ := hp41
      rw [if_pos (rd_in hrr b1 e1)] at hv41
      obtain ⟨a0, q0, k0, v0, rfl, Ra⟩ := hv41
      rw [eh41]
      obtain rfl : rr = q0 := (nI_eq (by omega) (by have := Ra.2.1; omega)).mp Ra.1
      have hk6 := Ra.2.2.2.1
      have hv9 := Ra.2.2.2.2.1
      refine aw_astore4 B dX11_looked_44 ?_
      refine aw_aload_n B 0 rfl dX11_looked_46 rfl ?_
      refine aw_get B f_X11_12 dX11_looked_47 hc.ox rfl ?_
      refine aw_get B f_X11_137 dX11_looked_50 hc.s rfl ?_
      refine aw_iload_n B 2 rfl dX11_looked_53 rfl ?_
      refine aw_callS B 0 0 (x_hoursIn _ _ _ _) co_X11_hoursIn k_X11_213 dX11_looked_54 rfl rfl (Nat.le_of_ble_eq_true rfl) (zrm hr (by omega)) (Nat.le_refl _) (Nat.le_refl _) (kI fun r54 h54 hp54 => ?_)
      obtain ⟨rfl, eh54⟩ := hp54
      rw [eh54]
      rw [tk1.2.2]
      refine aw_iadd B dX11_looked_57 ?_
      rw [e8, nI_add]
      refine aw_istore5 B dX11_looked_58 ?_
      refine aw_aload B dX11_looked_60 rfl ?_
      refine aw_ifnull B dX11_looked_62 ?_
      refine aw_aload B dX11_looked_65 rfl ?_
      refine aw_aload_n B 0 rfl dX11_looked_67 rfl ?_
      refine aw_get B f_X11_12 dX11_looked_68 hc.ox rfl ?_
      refine aw_get B f_X11_80 dX11_looked_71 hc.s rfl ?_
      refine aw_aload_n B 0 rfl dX11_looked_74 rfl ?_
      refine aw_get B f_X11_12 dX11_looked_75 hc.ox rfl ?_
      refine aw_get B f_X11_87 dX11_looked_78 hc.s rfl ?_
      refine aw_iload_n B 3 rfl dX11_looked_81 rfl ?_
      refine aw_callV B 0 0 (t_get _ _ _ _ 6 _ _ (ss) (by decide) (by omega) (by omega) hc.shelves) co_X7_get k_X11_99 dX11_looked_82 hc.shelves.o rfl rfl rfl rfl (Nat.le_of_ble_eq_true rfl) (zrm hr (by omega)) (Nat.le_refl _) (Nat.le_refl _) (kI fun r82 h82 hp82 => ?_)
      obtain ⟨rfl, eh82⟩ := hp82
      rw [eh82]
      rw [esh]
      refine aw_aload_n B 0 rfl dX11_looked_85 rfl ?_
      refine aw_get B f_X11_12 dX11_looked_86 hc.ox rfl ?_
      refine aw_get B f_X11_90 dX11_looked_89 hc.s rfl ?_
      refine aw_iload_n B 3 rfl dX11_looked_92 rfl ?_
      refine aw_callV B 0 0 (t_get _ _ _ _ 6 _ _ (ss) (by decide) (by omega) (by omega) hc.lines) co_X7_get k_X11_99 dX11_looked_93 hc.lines.o rfl rfl rfl rfl (Nat.le_of_ble_eq_true rfl) (zrm hr (by omega)) (Nat.le_refl _) (Nat.le_refl _) (kI fun r93 h93 hp93 => ?_)
      obtain ⟨rfl, eh93⟩ := hp93
      rw [eh93]
      rw [eln]
      refine aw_iload B dX11_looked_96 rfl ?_
      refine vc_X11_216 (T := T) (a0 := aa) B hr (by omega) Ra.2.2.2.1 Ra.2.2.2.2.1 Ra.2.2.2.2.2.2.2 s8 l1 l4 (by omega) (by have := hc.d; have := Ra.2.2.1; omega) hc.c dX11_looked_98 (Nat.le_of_ble_eq_true rfl) (fun h98 C98 O98 => ?_)
      have O := O.tr (hc.o O98)
      have hc := hc.cv O98 C98
      have hco : coS S T Q (kN (S (70 + j))) (kN (S (78 + j))) (kN (S (86 + j))) = cB T Q k0 v0 sh (p_needs k0 v0 ln) aa := by
        unfold coS
        rw [er, es, ea, kN_nI (by omega), kN_nI (by omega), kN_nI (by omega), Ra.2.2.2.2.2.1, Ra.2.2.2.2.2.2.1, esh, eln, kN_nI (by omega), kN_nI (by omega), kN_nI (by omega), kN_nI (by omega)]
      refine aw_if_ne B 106 dX11_looked_101 (fun c101 => ?_) (fun c101 => ?_)
      · refine aw_iinc1 B 1 (by decide) dX11_looked_106 ?_
        refine aw_goto B 2 dX11_looked_109 ?_
        rw [nI_1]
        exact ih (j + 1) _ _ _ _ _ (by omega) (by rw [hq, lkF, hco, if_pos (b2_n c101)]) hc O
      · refine aw_iload_n B 1 rfl dX11_looked_104 rfl ?_
        refine aw_iret B rfl rfl dX11_looked_105 ?_
        exact ⟨_, rfl, by rw [hq, lkF, hco, if_neg (by rw [b2_z c101]; exact Bool.false_ne_true)], hc, O⟩
  exact lp (n 5) 0 _ _ _ _ _ (by omega) rfl hc O
