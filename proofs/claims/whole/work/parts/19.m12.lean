def coS (S : Nat → Int32) (T : Nat) (Q : pP) (r s a : Nat) : Bool := cB T Q (kN (S (22 + r))) (kN (S (26 + r))) (kN (S (10 + s))) (p_needs (kN (S (22 + r))) (kN (S (26 + r))) (kN (S (16 + s)))) a
def lkF (S : Nat → Int32) (T : Nat) (Q : pP) : Nat → Nat → Int32
  | 0, _ => -5
  | f + 1, j => if coS S T Q (kN (S (70 + j))) (kN (S (78 + j))) (kN (S (86 + j))) then lkF S T Q f (j + 1) else nI j
def nxF (T : Nat) (Q : pP) (x : Int32) : Nat → Nat → Int32
  | 0, _ => -5
  | f + 1, k => if lvl (T + k) Q ≤ x then nI k else nxF T Q x f (k + 1)
def q_next (T : Nat) (Q : pP) (x : Int32) : Int32 := if bI (0 ≤ x ∧ x ≤ 9) = 0 then -2 else nxF T Q x 61 0
def frF (S : Nat → Int32) (lv : Int32) : Nat → Int32
  | 0 => 0
  | j + 1 => frF S lv j ||| (if lv ≤ S (10 + j) then (1 : Int32) <<< (nI j &&& 31) else 0)
def q_force (S : Nat → Int32) (T : Nat) (Q : pP) (n0 : Nat) (x : Int32) : Int32 := if bI (0 ≤ x ∧ x ≤ 60) = 0 then -2 else frF S (lvl (T + kN x) Q) n0
def opF (T : Nat) (Q : pP) (x : Int32) : Nat → Int32 × Int32 × Int32
  | 0 => (0, 0, 0)
  | j + 1 => if lvl (T + j) Q ≤ x then ((opF T Q x j).1 + 1, (opF T Q x j).2.1 + 1, if (opF T Q x j).2.1 + 1 ≤ (opF T Q x j).2.2 then (opF T Q x j).2.2 else (opF T Q x j).2.1 + 1) else ((opF T Q x j).1 + 0, 0, if (0 : Int32) ≤ (opF T Q x j).2.2 then (opF T Q x j).2.2 else 0)
def q_open (T : Nat) (Q : pP) (x n w : Int32) : Int32 := if bI (0 ≤ x ∧ x ≤ 8) = 0 then -1 else if bI (0 ≤ w ∧ w ≤ 1) = 0 then -1 else if bI (0 ≤ n ∧ n ≤ 60) = 0 then -2 else if w = 0 then (opF T Q x (kN n)).1 else (opF T Q x (kN n)).2.2
def inF (lv d : Int32) : Nat → Int32 → Int32
  | 0, s => s
  | sh + 1, s => inF lv d sh s &&& (if (if lv ≤ nI sh then (1 : Int32) else 0) = d then 511 else (1 : Int32) <<< (nI sh &&& 31) ^^^ (-1))
def stF (S : Nat → Int32) (T : Nat) (Q : pP) : Nat → Int32
  | 0 => 511
  | k + 1 => inF (lvl (T + kN (S (54 + k))) Q) (S (62 + k)) 9 (stF S T Q k)
theorem dX12_looked_0 : decode cX12_looked 0 = .ok (.aload_n 0, 1) := by decide +kernel
theorem dX12_looked_1 : decode cX12_looked 1 = .ok (.invokevirtual 165, 3) := by decide +kernel
theorem dX12_looked_4 : decode cX12_looked 4 = .ok (.iconst 0, 1) := by decide +kernel
theorem dX12_looked_5 : decode cX12_looked 5 = .ok (.istore_n 1, 1) := by decide +kernel
theorem dX12_looked_6 : decode cX12_looked 6 = .ok (.iload_n 1, 1) := by decide +kernel
theorem dX12_looked_7 : decode cX12_looked 7 = .ok (.aload_n 0, 1) := by decide +kernel
theorem dX12_looked_8 : decode cX12_looked 8 = .ok (.getfield 9, 3) := by decide +kernel
theorem dX12_looked_11 : decode cX12_looked 11 = .ok (.iconst 5, 1) := by decide +kernel
theorem dX12_looked_12 : decode cX12_looked 12 = .ok (.iaload, 1) := by decide +kernel
theorem dX12_looked_13 : decode cX12_looked 13 = .ok (.if_icmp .ge 45, 3) := by decide +kernel
theorem dX12_looked_16 : decode cX12_looked 16 = .ok (.aload_n 0, 1) := by decide +kernel
theorem dX12_looked_17 : decode cX12_looked 17 = .ok (.aload_n 0, 1) := by decide +kernel
theorem dX12_looked_18 : decode cX12_looked 18 = .ok (.getfield 9, 3) := by decide +kernel
theorem dX12_looked_21 : decode cX12_looked 21 = .ok (.bipush 70, 2) := by decide +kernel
theorem dX12_looked_23 : decode cX12_looked 23 = .ok (.iload_n 1, 1) := by decide +kernel
theorem dX12_looked_24 : decode cX12_looked 24 = .ok (.iadd, 1) := by decide +kernel
theorem dX12_looked_25 : decode cX12_looked 25 = .ok (.iaload, 1) := by decide +kernel
theorem dX12_looked_26 : decode cX12_looked 26 = .ok (.aload_n 0, 1) := by decide +kernel
theorem dX12_looked_27 : decode cX12_looked 27 = .ok (.getfield 9, 3) := by decide +kernel
theorem dX12_looked_30 : decode cX12_looked 30 = .ok (.bipush 78, 2) := by decide +kernel
theorem dX12_looked_32 : decode cX12_looked 32 = .ok (.iload_n 1, 1) := by decide +kernel
theorem dX12_looked_33 : decode cX12_looked 33 = .ok (.iadd, 1) := by decide +kernel
theorem dX12_looked_34 : decode cX12_looked 34 = .ok (.iaload, 1) := by decide +kernel
theorem dX12_looked_35 : decode cX12_looked 35 = .ok (.aload_n 0, 1) := by decide +kernel
theorem dX12_looked_36 : decode cX12_looked 36 = .ok (.getfield 9, 3) := by decide +kernel
theorem dX12_looked_39 : decode cX12_looked 39 = .ok (.bipush 86, 2) := by decide +kernel
theorem dX12_looked_41 : decode cX12_looked 41 = .ok (.iload_n 1, 1) := by decide +kernel
theorem dX12_looked_42 : decode cX12_looked 42 = .ok (.iadd, 1) := by decide +kernel
theorem dX12_looked_43 : decode cX12_looked 43 = .ok (.iaload, 1) := by decide +kernel
theorem dX12_looked_44 : decode cX12_looked 44 = .ok (.invokevirtual 161, 3) := by decide +kernel
theorem dX12_looked_47 : decode cX12_looked 47 = .ok (.ifCond .ne 5, 3) := by decide +kernel
theorem dX12_looked_50 : decode cX12_looked 50 = .ok (.iload_n 1, 1) := by decide +kernel
theorem dX12_looked_51 : decode cX12_looked 51 = .ok (.ireturn, 1) := by decide +kernel
theorem dX12_looked_52 : decode cX12_looked 52 = .ok (.iinc 1 1, 3) := by decide +kernel
theorem dX12_looked_55 : decode cX12_looked 55 = .ok (.goto (-49), 3) := by decide +kernel
theorem dX12_looked_58 : decode cX12_looked 58 = .ok (.bipush (-5), 2) := by decide +kernel
theorem dX12_looked_60 : decode cX12_looked 60 = .ok (.ireturn, 1) := by decide +kernel
set_option maxRecDepth 100000 in
set_option maxHeartbeats 4000000 in
theorem s_looked (l : Launch) (g : zG) (h : Hp) (m : Nat) (F : Nat → Int32) (A : Nat → Nat → Int32) (T : Nat) (Q : pP) (hi : iT (A 1) T Q) (n0 n1 : Nat) (hR : iR (A 1) n1) (hS : iS (A 1) n0) (n5 : Nat) (hL5 : iL (A 1) n0 n1 n5) : Sp l g yX12_looked cX12_looked 2 (some .int) (rmz 8) [.ref m] (hM g h m F A) (zI (mq g h m F A (lkF (A 1) T Q n5 0))) := by
  refine Sp.of [some (.ref m), none] (by decide) (Nat.le_of_ble_eq_true rfl) rfl rfl ?_
  rintro X rfl hr rfl B
  show AW X 0 0 0 _ _ _ _
  have lp : ∀ (f j : Nat) (F1 : Nat → Int32) (A1 : Nat → Nat → Int32), j + f = n5 → lkF (A 1) T Q f j = lkF (A 1) T Q n5 0 → eqF GF F F1 → eqA GA A A1 → lvI T Q F1 A1 → AW X 0 0 6 [some (.ref m), some (.int (nI j))] [] (hM (zXg X) h m F1 A1) (zI (mq (zXg X) h m F A (lkF (A 1) T Q n5 0))) := by
    intro f
    induction f with
    | zero =>
      intro j F1 A1 hf hs hF hA hlv1
      have e1 : A1 1 = A 1 := hA 1 (by simp [GA])
      have z5 := hL5.1
      refine aw_iload_n B 1 rfl dX12_looked_6 rfl ?_
      refine aw_aload_n B 0 rfl dX12_looked_7 rfl ?_
      refine m_get B f_X12_9 dX12_looked_8 (mg_1 _ _) ?_
      refine aw_iconst B 5 (by decide) dX12_looked_11 ?_
      refine m_ld B (5) (rfl) ((by decide)) dX12_looked_12 (by decide) ?_
      refine aw_icmp_ge B 58 dX12_looked_13 (fun c13 => ?_) (fun c13 => absurd (show A1 1 5 ≤ nI j from by rw [e1, hL5.2.1]; exact nI_le (by omega) (by omega)) c13)
      refine aw_bipush B (-5) (by decide) dX12_looked_58 ?_
      refine aw_iret B rfl rfl dX12_looked_60 ?_
      exact ⟨_, rfl, by rw [← hs]; rfl, F1, A1, rfl, hF, hA, trivial⟩
    | succ f ih =>
      intro j F1 A1 hf hs hF hA hlv1
      have e1 : A1 1 = A 1 := hA 1 (by simp [GA])
      have z5 := hL5.1
      have hlt : j < n5 := by omega
      refine aw_iload_n B 1 rfl dX12_looked_6 rfl ?_
      refine aw_aload_n B 0 rfl dX12_looked_7 rfl ?_
      refine m_get B f_X12_9 dX12_looked_8 (mg_1 _ _) ?_
      refine aw_iconst B 5 (by decide) dX12_looked_11 ?_
      refine m_ld B (5) (rfl) ((by decide)) dX12_looked_12 (by decide) ?_
      refine aw_icmp_ge B 58 dX12_looked_13 (fun c13 => absurd c13 (by rw [e1, hL5.2.1, Int32.not_le]; exact nI_lt hlt (by omega))) (fun c13 => ?_)
      obtain ⟨⟨r, hr1, er⟩, ⟨s, hs1, es⟩, a, ha, ea⟩ := hL5.2.2 j hlt
      have z1 := hR.1
      have z2 := hS.1
      have hs' : (if coS (A 1) T Q r s a then lkF (A 1) T Q f (j + 1) else nI j) = lkF (A 1) T Q n5 0 := by
        rw [← hs, lkF, er, es, ea, kN_nI (by omega), kN_nI (by omega), kN_nI (by omega)]
      refine aw_aload_n B 0 rfl dX12_looked_16 rfl ?_
      refine aw_aload_n B 0 rfl dX12_looked_17 rfl ?_
      refine m_get B f_X12_9 dX12_looked_18 (mg_1 _ _) ?_
      refine aw_bipush B 70 (by decide) dX12_looked_21 ?_
      refine aw_iload_n B 1 rfl dX12_looked_23 rfl ?_
      refine aw_iadd B dX12_looked_24 ?_
      refine m_ld B (70 + j) (ix_c 70 rfl) (by show _ < 899; omega) dX12_looked_25 (by decide) ?_
      rw [e1, er]
      refine aw_aload_n B 0 rfl dX12_looked_26 rfl ?_
      refine m_get B f_X12_9 dX12_looked_27 (mg_1 _ _) ?_
      refine aw_bipush B 78 (by decide) dX12_looked_30 ?_
      refine aw_iload_n B 1 rfl dX12_looked_32 rfl ?_
      refine aw_iadd B dX12_looked_33 ?_
      refine m_ld B (78 + j) (ix_c 78 rfl) (by show _ < 899; omega) dX12_looked_34 (by decide) ?_
      rw [e1, es]
      refine aw_aload_n B 0 rfl dX12_looked_35 rfl ?_
      refine m_get B f_X12_9 dX12_looked_36 (mg_1 _ _) ?_
      refine aw_bipush B 86 (by decide) dX12_looked_39 ?_
      refine aw_iload_n B 1 rfl dX12_looked_41 rfl ?_
      refine aw_iadd B dX12_looked_42 ?_
      refine m_ld B (86 + j) (ix_c 86 rfl) (by show _ < 899; omega) dX12_looked_43 (by decide) ?_
      rw [e1, ea]
      refine aw_callV B 0 0 (s_canRead _ _ _ _ _ _ T Q (by rw [e1]; exact hi) hlv1 r s _ _ _ _ a (by rw [e1]; exact iK_of hR hr1) (by rw [e1]; exact iZ_of hS hs1) (by omega)) co_X12_canRead k_X12_161 dX12_looked_44 hM_o rfl rfl rfl rfl (Nat.le_of_ble_eq_true rfl) (zrm hr (by decide)) (Nat.le_refl _) (Nat.le_refl _) (kI fun r44 h44 hp44 => ?_)
      obtain ⟨rfl, F2, A2, rfl, hF2, hA2, hlv2⟩ := hp44
      refine aw_if_ne B 52 dX12_looked_47 (fun c47 => ?_) (fun c47 => ?_)
      · have hc : coS (A 1) T Q r s a = true := b2_nz c47
        refine aw_iinc1 B 1 (by decide) dX12_looked_52 ?_
        refine aw_goto B 6 dX12_looked_55 ?_
        rw [nI_1]
        rw [if_pos hc] at hs'
        exact ih (j + 1) F2 A2 (by omega) hs' (hF.tr (gar_1 hF2)) (hA.tr (gar_2 hA2)) hlv2
      · have hc : coS (A 1) T Q r s a = false := b2_z c47
        refine aw_iload_n B 1 rfl dX12_looked_50 rfl ?_
        refine aw_iret B rfl rfl dX12_looked_51 ?_
        exact ⟨_, rfl, by rw [← hs', if_neg (by rw [hc]; decide)], F2, A2, rfl, hF.tr (gar_1 hF2), hA.tr (gar_2 hA2), trivial⟩
  refine aw_aload_n B 0 rfl dX12_looked_0 rfl ?_
  refine aw_callV B 0 0 (s_forgets _ _ _ _ _ _) co_X12_forgets k_X12_165 dX12_looked_1 hM_o rfl rfl rfl rfl (Nat.le_of_ble_eq_true rfl) (zrm hr (by decide)) (Nat.le_refl _) (Nat.le_refl _) (kV fun h1 hp1 => ?_)
  subst hp1
  refine aw_iconst B 0 (by decide) dX12_looked_4 ?_
  refine aw_istore1 B dX12_looked_5 ?_
  exact lp n5 0 _ A (by omega) rfl gar_5 eqA.rf lvI_0
theorem dX12_next_0 : decode cX12_next 0 = .ok (.iload_n 1, 1) := by decide +kernel
theorem dX12_next_1 : decode cX12_next 1 = .ok (.iconst 0, 1) := by decide +kernel
theorem dX12_next_2 : decode cX12_next 2 = .ok (.bipush 9, 2) := by decide +kernel
theorem dX12_next_4 : decode cX12_next 4 = .ok (.invokestatic 44, 3) := by decide +kernel
theorem dX12_next_7 : decode cX12_next 7 = .ok (.ifCond .ne 6, 3) := by decide +kernel
theorem dX12_next_10 : decode cX12_next 10 = .ok (.bipush (-2), 2) := by decide +kernel
theorem dX12_next_12 : decode cX12_next 12 = .ok (.ireturn, 1) := by decide +kernel
theorem dX12_next_13 : decode cX12_next 13 = .ok (.iconst 0, 1) := by decide +kernel
theorem dX12_next_14 : decode cX12_next 14 = .ok (.istore_n 2, 1) := by decide +kernel
theorem dX12_next_15 : decode cX12_next 15 = .ok (.iload_n 2, 1) := by decide +kernel
theorem dX12_next_16 : decode cX12_next 16 = .ok (.bipush 60, 2) := by decide +kernel
theorem dX12_next_18 : decode cX12_next 18 = .ok (.if_icmp .gt 28, 3) := by decide +kernel
theorem dX12_next_21 : decode cX12_next 21 = .ok (.aload_n 0, 1) := by decide +kernel
theorem dX12_next_22 : decode cX12_next 22 = .ok (.aload_n 0, 1) := by decide +kernel
theorem dX12_next_23 : decode cX12_next 23 = .ok (.getfield 9, 3) := by decide +kernel
theorem dX12_next_26 : decode cX12_next 26 = .ok (.bipush 8, 2) := by decide +kernel
theorem dX12_next_28 : decode cX12_next 28 = .ok (.iaload, 1) := by decide +kernel
theorem dX12_next_29 : decode cX12_next 29 = .ok (.iload_n 2, 1) := by decide +kernel
theorem dX12_next_30 : decode cX12_next 30 = .ok (.iadd, 1) := by decide +kernel
theorem dX12_next_31 : decode cX12_next 31 = .ok (.invokevirtual 133, 3) := by decide +kernel
theorem dX12_next_34 : decode cX12_next 34 = .ok (.iload_n 1, 1) := by decide +kernel
theorem dX12_next_35 : decode cX12_next 35 = .ok (.if_icmp .gt 5, 3) := by decide +kernel
theorem dX12_next_38 : decode cX12_next 38 = .ok (.iload_n 2, 1) := by decide +kernel
theorem dX12_next_39 : decode cX12_next 39 = .ok (.ireturn, 1) := by decide +kernel
theorem dX12_next_40 : decode cX12_next 40 = .ok (.iinc 2 1, 3) := by decide +kernel
theorem dX12_next_43 : decode cX12_next 43 = .ok (.goto (-28), 3) := by decide +kernel
theorem dX12_next_46 : decode cX12_next 46 = .ok (.bipush (-5), 2) := by decide +kernel
theorem dX12_next_48 : decode cX12_next 48 = .ok (.ireturn, 1) := by decide +kernel
set_option maxRecDepth 100000 in
set_option maxHeartbeats 4000000 in
theorem s_next (l : Launch) (g : zG) (h : Hp) (m : Nat) (F : Nat → Int32) (A : Nat → Nat → Int32) (x : Int32) (T : Nat) (Q : pP) (hi : iT (A 1) T Q) : Sp l g yX12_next cX12_next 3 (some .int) (rmz 3) [.ref m, .int x] (hM g h m F A) (zI (mq g h m F A (q_next T Q x))) := by
  refine Sp.of [some (.ref m), some (.int x), none] (by decide) (Nat.le_of_ble_eq_true rfl) rfl rfl ?_
  rintro X rfl hr rfl B
  show AW X 0 0 0 _ _ _ _
  have lp : ∀ (f k : Nat) (F1 : Nat → Int32) (A1 : Nat → Nat → Int32), k + f = 61 → nxF T Q x f k = nxF T Q x 61 0 → bI (0 ≤ x ∧ x ≤ 9) ≠ 0 → eqF GF F F1 → eqA GA A A1 → AW X 0 0 15 [some (.ref m), some (.int x), some (.int (nI k))] [] (hM (zXg X) h m F1 A1) (zI (mq (zXg X) h m F A (q_next T Q x))) := by
    intro f
    induction f with
    | zero =>
      intro k F1 A1 hf hs hx hF hA
      refine aw_iload_n B 2 rfl dX12_next_15 rfl ?_
      refine aw_bipush B 60 (by decide) dX12_next_16 ?_
      refine aw_icmp_gt B 46 dX12_next_18 (fun c18 => ?_) (fun c18 => absurd (show (60 : Int32) < nI k from nI_lt (a := 60) (by omega) (by omega)) c18)
      refine aw_bipush B (-5) (by decide) dX12_next_46 ?_
      refine aw_iret B rfl rfl dX12_next_48 ?_
      exact ⟨_, rfl, by unfold q_next; rw [if_neg hx, ← hs]; rfl, F1, A1, rfl, hF, hA, trivial⟩
    | succ f ih =>
      intro k F1 A1 hf hs hx hF hA
      have e1 : A1 1 = A 1 := hA 1 (by simp [GA])
      refine aw_iload_n B 2 rfl dX12_next_15 rfl ?_
      refine aw_bipush B 60 (by decide) dX12_next_16 ?_
      refine aw_icmp_gt B 46 dX12_next_18 (fun c18 => absurd c18 (by rw [Int32.not_lt]; exact nI_le (b := 60) (by omega) (by decide))) (fun c18 => ?_)
      refine aw_aload_n B 0 rfl dX12_next_21 rfl ?_
      refine aw_aload_n B 0 rfl dX12_next_22 rfl ?_
      refine m_get B f_X12_9 dX12_next_23 (mg_1 _ _) ?_
      refine aw_bipush B 8 (by decide) dX12_next_26 ?_
      refine m_ld B (8) (rfl) ((by decide)) dX12_next_28 (by decide) ?_
      rw [e1, hi.1]
      refine aw_iload_n B 2 rfl dX12_next_29 rfl ?_
      refine aw_iadd B dX12_next_30 ?_
      rw [nI_add]
      refine aw_callV B 0 0 (s_levelAt _ _ _ _ _ _ (T + k) Q (by have := hi.2.1; omega) (by rw [e1]; exact hi.2.2.1) hi.2.2.2) co_X12_levelAt k_X12_133 dX12_next_31 hM_o rfl rfl rfl rfl (Nat.le_of_ble_eq_true rfl) (zrm hr (by decide)) (Nat.le_refl _) (Nat.le_refl _) (kI fun r31 h31 hp31 => ?_)
      obtain ⟨rfl, F2, A2, rfl, hF2, hA2, hw2⟩ := hp31
      refine aw_iload_n B 1 rfl dX12_next_34 rfl ?_
      refine aw_icmp_gt B 40 dX12_next_35 (fun c35 => ?_) (fun c35 => ?_)
      · refine aw_iinc2 B 1 (by decide) dX12_next_40 ?_
        refine aw_goto B 15 dX12_next_43 ?_
        rw [nI_1]
        exact ih (k + 1) F2 A2 (by omega) (by rw [← hs, nxF, if_neg (Int32.not_le.mpr c35)]) hx (hF.tr (gar_3 hF2)) (hA.tr (gar_4 hA2))
      · refine aw_iload_n B 2 rfl dX12_next_38 rfl ?_
        refine aw_iret B rfl rfl dX12_next_39 ?_
        exact ⟨_, rfl, by unfold q_next; rw [if_neg hx, ← hs, nxF, if_pos (Int32.not_lt.mp c35)], F2, A2, rfl, hF.tr (gar_3 hF2), hA.tr (gar_4 hA2), trivial⟩
  refine aw_iload_n B 1 rfl dX12_next_0 rfl ?_
  refine aw_iconst B 0 (by decide) dX12_next_1 ?_
  refine aw_bipush B 9 (by decide) dX12_next_2 ?_
  refine aw_callS B 0 0 (s_in _ _ _ _ _ _) co_X12_in k_X12_44 dX12_next_4 rfl rfl (Nat.le_of_ble_eq_true rfl) (zrm hr (by decide)) (Nat.le_refl _) (Nat.le_refl _) (kI fun r4 h4 hp4 => ?_)
  obtain ⟨rfl, rfl⟩ := hp4
  refine aw_if_ne B 13 dX12_next_7 (fun c7 => ?_) (fun c7 => ?_)
  · refine aw_iconst B 0 (by decide) dX12_next_13 ?_
    refine aw_istore2 B dX12_next_14 ?_
    exact lp 61 0 F A (by omega) rfl c7 eqF.rf eqA.rf
  · refine aw_bipush B (-2) (by decide) dX12_next_10 ?_
    refine aw_iret B rfl rfl dX12_next_12 ?_
    exact ⟨_, rfl, by unfold q_next; rw [if_pos c7], F, A, rfl, eqF.rf, eqA.rf, trivial⟩
theorem dX12_force_0 : decode cX12_force 0 = .ok (.iload_n 1, 1) := by decide +kernel
theorem dX12_force_1 : decode cX12_force 1 = .ok (.iconst 0, 1) := by decide +kernel
theorem dX12_force_2 : decode cX12_force 2 = .ok (.bipush 60, 2) := by decide +kernel
theorem dX12_force_4 : decode cX12_force 4 = .ok (.invokestatic 44, 3) := by decide +kernel
theorem dX12_force_7 : decode cX12_force 7 = .ok (.ifCond .ne 6, 3) := by decide +kernel
theorem dX12_force_10 : decode cX12_force 10 = .ok (.bipush (-2), 2) := by decide +kernel
theorem dX12_force_12 : decode cX12_force 12 = .ok (.ireturn, 1) := by decide +kernel
theorem dX12_force_13 : decode cX12_force 13 = .ok (.aload_n 0, 1) := by decide +kernel
theorem dX12_force_14 : decode cX12_force 14 = .ok (.aload_n 0, 1) := by decide +kernel
theorem dX12_force_15 : decode cX12_force 15 = .ok (.getfield 9, 3) := by decide +kernel
theorem dX12_force_18 : decode cX12_force 18 = .ok (.bipush 8, 2) := by decide +kernel
theorem dX12_force_20 : decode cX12_force 20 = .ok (.iaload, 1) := by decide +kernel
theorem dX12_force_21 : decode cX12_force 21 = .ok (.iload_n 1, 1) := by decide +kernel
theorem dX12_force_22 : decode cX12_force 22 = .ok (.iadd, 1) := by decide +kernel
theorem dX12_force_23 : decode cX12_force 23 = .ok (.invokevirtual 133, 3) := by decide +kernel
theorem dX12_force_26 : decode cX12_force 26 = .ok (.istore_n 2, 1) := by decide +kernel
theorem dX12_force_27 : decode cX12_force 27 = .ok (.iconst 0, 1) := by decide +kernel
theorem dX12_force_28 : decode cX12_force 28 = .ok (.istore_n 3, 1) := by decide +kernel
theorem dX12_force_29 : decode cX12_force 29 = .ok (.iconst 0, 1) := by decide +kernel
theorem dX12_force_30 : decode cX12_force 30 = .ok (.istore 4, 2) := by decide +kernel
theorem dX12_force_32 : decode cX12_force 32 = .ok (.iload 4, 2) := by decide +kernel
theorem dX12_force_34 : decode cX12_force 34 = .ok (.aload_n 0, 1) := by decide +kernel
theorem dX12_force_35 : decode cX12_force 35 = .ok (.getfield 9, 3) := by decide +kernel
theorem dX12_force_38 : decode cX12_force 38 = .ok (.iconst 0, 1) := by decide +kernel
theorem dX12_force_39 : decode cX12_force 39 = .ok (.iaload, 1) := by decide +kernel
theorem dX12_force_40 : decode cX12_force 40 = .ok (.if_icmp .ge 34, 3) := by decide +kernel
theorem dX12_force_43 : decode cX12_force 43 = .ok (.iload_n 3, 1) := by decide +kernel
theorem dX12_force_44 : decode cX12_force 44 = .ok (.iload_n 2, 1) := by decide +kernel
theorem dX12_force_45 : decode cX12_force 45 = .ok (.aload_n 0, 1) := by decide +kernel
theorem dX12_force_46 : decode cX12_force 46 = .ok (.getfield 9, 3) := by decide +kernel
theorem dX12_force_49 : decode cX12_force 49 = .ok (.bipush 10, 2) := by decide +kernel
theorem dX12_force_51 : decode cX12_force 51 = .ok (.iload 4, 2) := by decide +kernel
theorem dX12_force_53 : decode cX12_force 53 = .ok (.iadd, 1) := by decide +kernel
theorem dX12_force_54 : decode cX12_force 54 = .ok (.iaload, 1) := by decide +kernel
theorem dX12_force_55 : decode cX12_force 55 = .ok (.if_icmp .gt 10, 3) := by decide +kernel
theorem dX12_force_58 : decode cX12_force 58 = .ok (.iconst 1, 1) := by decide +kernel
theorem dX12_force_59 : decode cX12_force 59 = .ok (.iload 4, 2) := by decide +kernel
theorem dX12_force_61 : decode cX12_force 61 = .ok (.ishl, 1) := by decide +kernel
theorem dX12_force_62 : decode cX12_force 62 = .ok (.goto 4, 3) := by decide +kernel
theorem dX12_force_65 : decode cX12_force 65 = .ok (.iconst 0, 1) := by decide +kernel
theorem dX12_force_66 : decode cX12_force 66 = .ok (.ior, 1) := by decide +kernel
theorem dX12_force_67 : decode cX12_force 67 = .ok (.istore_n 3, 1) := by decide +kernel
theorem dX12_force_68 : decode cX12_force 68 = .ok (.iinc 4 1, 3) := by decide +kernel
theorem dX12_force_71 : decode cX12_force 71 = .ok (.goto (-39), 3) := by decide +kernel
theorem dX12_force_74 : decode cX12_force 74 = .ok (.iload_n 3, 1) := by decide +kernel
theorem dX12_force_75 : decode cX12_force 75 = .ok (.ireturn, 1) := by decide +kernel
set_option maxRecDepth 100000 in
set_option maxHeartbeats 4000000 in
theorem s_force (l : Launch) (g : zG) (h : Hp) (m : Nat) (F : Nat → Int32) (A : Nat → Nat → Int32) (x : Int32) (T : Nat) (Q : pP) (hi : iT (A 1) T Q) (n0 : Nat) (hS : iS (A 1) n0) : Sp l g yX12_force cX12_force 5 (some .int) (rmz 3) [.ref m, .int x] (hM g h m F A) (zI (mq g h m F A (q_force (A 1) T Q n0 x))) := by
  refine Sp.of [some (.ref m), some (.int x), none, none, none] (by decide) (Nat.le_of_ble_eq_true rfl) rfl rfl ?_
  rintro X rfl hr rfl B
  show AW X 0 0 0 _ _ _ _
  refine aw_iload_n B 1 rfl dX12_force_0 rfl ?_
  refine aw_iconst B 0 (by decide) dX12_force_1 ?_
  refine aw_bipush B 60 (by decide) dX12_force_2 ?_
  refine aw_callS B 0 0 (s_in _ _ _ _ _ _) co_X12_in k_X12_44 dX12_force_4 rfl rfl (Nat.le_of_ble_eq_true rfl) (zrm hr (by decide)) (Nat.le_refl _) (Nat.le_refl _) (kI fun r4 h4 hp4 => ?_)
  obtain ⟨rfl, rfl⟩ := hp4
  refine aw_if_ne B 13 dX12_force_7 (fun c7 => ?_) (fun c7 => ?_)
  · obtain ⟨k, -, hk, rfl⟩ := in_rng (lo := 0) (hi := 60) (of_bI c7) (by decide) (by decide)
    have ek : kN (nI k) = k := kN_nI (by omega)
    refine aw_aload_n B 0 rfl dX12_force_13 rfl ?_
    refine aw_aload_n B 0 rfl dX12_force_14 rfl ?_
    refine m_get B f_X12_9 dX12_force_15 (mg_1 _ _) ?_
    refine aw_bipush B 8 (by decide) dX12_force_18 ?_
    refine m_ld B (8) (rfl) ((by decide)) dX12_force_20 (by decide) ?_
    rw [hi.1]
    refine aw_iload_n B 1 rfl dX12_force_21 rfl ?_
    refine aw_iadd B dX12_force_22 ?_
    rw [nI_add]
    refine aw_callV B 0 0 (s_levelAt _ _ _ _ _ _ (T + k) Q (by have := hi.2.1; omega) hi.2.2.1 hi.2.2.2) co_X12_levelAt k_X12_133 dX12_force_23 hM_o rfl rfl rfl rfl (Nat.le_of_ble_eq_true rfl) (zrm hr (by decide)) (Nat.le_refl _) (Nat.le_refl _) (kI fun r23 h23 hp23 => ?_)
    obtain ⟨rfl, F2, A2, rfl, hF2, hA2, hw2⟩ := hp23
    refine aw_istore2 B dX12_force_26 ?_
    refine aw_iconst B 0 (by decide) dX12_force_27 ?_
    refine aw_istore3 B dX12_force_28 ?_
    refine aw_iconst B 0 (by decide) dX12_force_29 ?_
    refine aw_istore4 B dX12_force_30 ?_
    have e1 : A2 1 = A 1 := hA2 1 (by simp)
    have z2 := hS.1
    have lp : ∀ (f j : Nat), n0 < j + f → j ≤ n0 → AW X 0 0 32 [some (.ref m), some (.int (nI k)), some (.int (lvl (T + k) Q)), some (.int (frF (A 1) (lvl (T + k) Q) j)), some (.int (nI j))] [] (hM (zXg X) h m F2 A2) (zI (mq (zXg X) h m F A (q_force (A 1) T Q n0 (nI k)))) := by
      intro f
      induction f with
      | zero => intros; omega
      | succ f ih =>
        intro j hf hj
        refine aw_iload B dX12_force_32 rfl ?_
        refine aw_aload_n B 0 rfl dX12_force_34 rfl ?_
        refine m_get B f_X12_9 dX12_force_35 (mg_1 _ _) ?_
        refine aw_iconst B 0 (by decide) dX12_force_38 ?_
        refine m_ld B (0) (rfl) ((by decide)) dX12_force_39 (by decide) ?_
        refine aw_icmp_ge B 74 dX12_force_40 (fun c40 => ?_) (fun c40 => ?_)
        · refine aw_iload_n B 3 rfl dX12_force_74 rfl ?_
          refine aw_iret B rfl rfl dX12_force_75 ?_
          have hje : j = n0 := Nat.le_antisymm hj ((nI_leI (by omega) (by omega)).mp (by rw [e1, hS.2.1] at c40; exact c40))
          exact ⟨_, rfl, by unfold q_force; rw [if_neg c7, ek, hje], F2, A2, rfl, gar_3 hF2, gar_4 hA2, trivial⟩
        · have hlt : j < n0 := Nat.not_le.mp fun z => c40 (by rw [e1, hS.2.1]; exact nI_le z (by omega))
          refine aw_iload_n B 3 rfl dX12_force_43 rfl ?_
          refine aw_iload_n B 2 rfl dX12_force_44 rfl ?_
          refine aw_aload_n B 0 rfl dX12_force_45 rfl ?_
          refine m_get B f_X12_9 dX12_force_46 (mg_1 _ _) ?_
          refine aw_bipush B 10 (by decide) dX12_force_49 ?_
          refine aw_iload B dX12_force_51 rfl ?_
          refine aw_iadd B dX12_force_53 ?_
          refine m_ld B (10 + j) (ix_c 10 rfl) (by show _ < 899; omega) dX12_force_54 (by decide) ?_
          refine aw_icmp_gt B 65 dX12_force_55 (fun c55 => ?_) (fun c55 => ?_)
          · refine aw_iconst B 0 (by decide) dX12_force_65 ?_
            refine aw_ior B dX12_force_66 ?_
            refine aw_istore3 B dX12_force_67 ?_
            refine aw_iinc4 B 1 (by decide) dX12_force_68 ?_
            refine aw_goto B 32 dX12_force_71 ?_
            rw [nI_1]
            refine Eq.mp ?_ (ih (j + 1) (by omega) (by omega))
            rw [show frF (A 1) (lvl (T + k) Q) (j + 1) = frF (A 1) (lvl (T + k) Q) j ||| (if lvl (T + k) Q ≤ A 1 (10 + j) then (1 : Int32) <<< (nI j &&& 31) else 0) from rfl]
            first
              | rw [if_pos (Int32.not_lt.mp (by rw [← e1]; exact c55))]
              | rw [if_neg (Int32.not_le.mpr (by rw [← e1]; exact c55))]
          · refine aw_iconst B 1 (by decide) dX12_force_58 ?_
            refine aw_iload B dX12_force_59 rfl ?_
            refine aw_ishl B dX12_force_61 ?_
            refine aw_goto B 66 dX12_force_62 ?_
            refine aw_ior B dX12_force_66 ?_
            refine aw_istore3 B dX12_force_67 ?_
            refine aw_iinc4 B 1 (by decide) dX12_force_68 ?_
            refine aw_goto B 32 dX12_force_71 ?_
            rw [nI_1]
            refine Eq.mp ?_ (ih (j + 1) (by omega) (by omega))
            rw [show frF (A 1) (lvl (T + k) Q) (j + 1) = frF (A 1) (lvl (T + k) Q) j ||| (if lvl (T + k) Q ≤ A 1 (10 + j) then (1 : Int32) <<< (nI j &&& 31) else 0) from rfl]
            first
              | rw [if_pos (Int32.not_lt.mp (by rw [← e1]; exact c55))]
              | rw [if_neg (Int32.not_le.mpr (by rw [← e1]; exact c55))]
    exact lp 7 0 (by omega) (Nat.zero_le _)
  · refine aw_bipush B (-2) (by decide) dX12_force_10 ?_
    refine aw_iret B rfl rfl dX12_force_12 ?_
    exact ⟨_, rfl, by unfold q_force; rw [if_pos c7], F, A, rfl, eqF.rf, eqA.rf, trivial⟩
