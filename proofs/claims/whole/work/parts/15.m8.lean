def absI (x : Int32) : Int32 := if x < 0 then -x else x
/-- LEVEL at an hour -/
def lvl (tm : Nat) (Q : pP) : Int32 := if absI (nI (tm % 12) - 6) + (evL tm Q).1 < 0 then 0 else if absI (nI (tm % 12) - 6) + (evL tm Q).1 ≤ 9 then absI (nI (tm % 12) - 6) + (evL tm Q).1 else 9
theorem lvl_rng (tm : Nat) (Q : pP) : rng (lvl tm Q) 0 9 := by
  unfold lvl
  split
  · exact ⟨0, by omega, by omega, rfl⟩
  · rename_i h0
    split
    · rename_i h9
      obtain ⟨j, hj, e⟩ := nI_of h0
      rw [e] at h9 ⊢
      exact ⟨j, by omega, (nI_leI (b := 9) hj (by decide)).mp h9, rfl⟩
    · exact ⟨9, by omega, by omega, rfl⟩
def eqF (ks : List Nat) (F F' : Nat → Int32) : Prop := ∀ k, k ∉ ks → F' k = F k
def eqA (ks : List Nat) (A A' : Nat → Nat → Int32) : Prop := ∀ k, k ∉ ks → A' k = A k
theorem eqF.rf {ks : List Nat} {F : Nat → Int32} : eqF ks F F := fun _ _ => rfl
theorem eqA.rf {ks : List Nat} {A : Nat → Nat → Int32} : eqA ks A A := fun _ _ => rfl
theorem eqF.tr {ks : List Nat} {F G H : Nat → Int32} (h1 : eqF ks F G) (h2 : eqF ks G H) : eqF ks F H := fun k hk => (h2 k hk).trans (h1 k hk)
theorem eqA.tr {ks : List Nat} {F G H : Nat → Nat → Int32} (h1 : eqA ks F G) (h2 : eqA ks G H) : eqA ks F H := fun k hk => (h2 k hk).trans (h1 k hk)
theorem eqF.mono {ks ls : List Nat} {F G : Nat → Int32} (h : eqF ks F G) (hs : ∀ k ∈ ks, k ∈ ls) : eqF ls F G := fun k hk => h k (fun z => hk (hs k z))
theorem eqA.mono {ks ls : List Nat} {F G : Nat → Nat → Int32} (h : eqA ks F G) (hs : ∀ k ∈ ks, k ∈ ls) : eqA ls F G := fun k hk => h k (fun z => hk (hs k z))
theorem eqF.up {ks : List Nat} {F G : Nat → Int32} {j : Nat} {x : Int32} (h : eqF ks F G) (hj : j ∈ ks) : eqF ks F (upd G j x) := fun k hk => by
  rw [upd_n (fun e => hk (by rw [e]; exact hj))]; exact h k hk
theorem eqA.up {ks : List Nat} {F G : Nat → Nat → Int32} {j : Nat} {x : Nat → Int32} (h : eqA ks F G) (hj : j ∈ ks) : eqA ks F (mup G j x) := fun k hk => by
  rw [mup_n (fun e => hk (by rw [e]; exact hj))]; exact h k hk
def mgar (g : zG) (h : Hp) (m : Nat) (F : Nat → Int32) (A : Nat → Nat → Int32) (fs as : List Nat) (P : (Nat → Int32) → (Nat → Nat → Int32) → Prop) : Hp → Prop := fun h' => ∃ F' A', h' = hM g h m F' A' ∧ eqF fs F F' ∧ eqA as A A' ∧ P F' A'

theorem dX12_levelAt_0 : decode cX12_levelAt 0 = .ok (.aload_n 0, 1) := by decide +kernel
theorem dX12_levelAt_1 : decode cX12_levelAt 1 = .ok (.iload_n 1, 1) := by decide +kernel
theorem dX12_levelAt_2 : decode cX12_levelAt 2 = .ok (.invokevirtual 127, 3) := by decide +kernel
theorem dX12_levelAt_5 : decode cX12_levelAt 5 = .ok (.iload_n 1, 1) := by decide +kernel
theorem dX12_levelAt_6 : decode cX12_levelAt 6 = .ok (.bipush 12, 2) := by decide +kernel
theorem dX12_levelAt_8 : decode cX12_levelAt 8 = .ok (.irem, 1) := by decide +kernel
theorem dX12_levelAt_9 : decode cX12_levelAt 9 = .ok (.bipush 6, 2) := by decide +kernel
theorem dX12_levelAt_11 : decode cX12_levelAt 11 = .ok (.isub, 1) := by decide +kernel
theorem dX12_levelAt_12 : decode cX12_levelAt 12 = .ok (.istore_n 2, 1) := by decide +kernel
theorem dX12_levelAt_13 : decode cX12_levelAt 13 = .ok (.iload_n 2, 1) := by decide +kernel
theorem dX12_levelAt_14 : decode cX12_levelAt 14 = .ok (.ifCond .ge 8, 3) := by decide +kernel
theorem dX12_levelAt_17 : decode cX12_levelAt 17 = .ok (.iload_n 2, 1) := by decide +kernel
theorem dX12_levelAt_18 : decode cX12_levelAt 18 = .ok (.ineg, 1) := by decide +kernel
theorem dX12_levelAt_19 : decode cX12_levelAt 19 = .ok (.goto 4, 3) := by decide +kernel
theorem dX12_levelAt_22 : decode cX12_levelAt 22 = .ok (.iload_n 2, 1) := by decide +kernel
theorem dX12_levelAt_23 : decode cX12_levelAt 23 = .ok (.aload_n 0, 1) := by decide +kernel
theorem dX12_levelAt_24 : decode cX12_levelAt 24 = .ok (.getfield 121, 3) := by decide +kernel
theorem dX12_levelAt_27 : decode cX12_levelAt 27 = .ok (.iadd, 1) := by decide +kernel
theorem dX12_levelAt_28 : decode cX12_levelAt 28 = .ok (.istore_n 3, 1) := by decide +kernel
theorem dX12_levelAt_29 : decode cX12_levelAt 29 = .ok (.iload_n 3, 1) := by decide +kernel
theorem dX12_levelAt_30 : decode cX12_levelAt 30 = .ok (.ifCond .ge 7, 3) := by decide +kernel
theorem dX12_levelAt_33 : decode cX12_levelAt 33 = .ok (.iconst 0, 1) := by decide +kernel
theorem dX12_levelAt_34 : decode cX12_levelAt 34 = .ok (.goto 15, 3) := by decide +kernel
theorem dX12_levelAt_37 : decode cX12_levelAt 37 = .ok (.iload_n 3, 1) := by decide +kernel
theorem dX12_levelAt_38 : decode cX12_levelAt 38 = .ok (.bipush 9, 2) := by decide +kernel
theorem dX12_levelAt_40 : decode cX12_levelAt 40 = .ok (.if_icmp .le 8, 3) := by decide +kernel
theorem dX12_levelAt_43 : decode cX12_levelAt 43 = .ok (.bipush 9, 2) := by decide +kernel
theorem dX12_levelAt_45 : decode cX12_levelAt 45 = .ok (.goto 4, 3) := by decide +kernel
theorem dX12_levelAt_48 : decode cX12_levelAt 48 = .ok (.iload_n 3, 1) := by decide +kernel
theorem dX12_levelAt_49 : decode cX12_levelAt 49 = .ok (.ireturn, 1) := by decide +kernel
set_option maxRecDepth 100000 in
set_option maxHeartbeats 4000000 in
theorem s_levelAt (l : Launch) (g : zG) (h : Hp) (m : Nat) (F : Nat → Int32) (A : Nat → Nat → Int32) (tm : Nat) (Q : pP) (htm : tm ≤ 20000) (hQ : hold (A 1) Q) (hwf : wfp 0 Q) : Sp l g yX12_levelAt cX12_levelAt 4 (some .int) (rmz 2) [.ref m, .int (nI tm)] (hM g h m F A) (zI fun r h' => r = lvl tm Q ∧ mgar g h m F A [11, 12] [3, 4] (fun F' _ => F' 12 = p10 (evL tm Q).2) h') := by
  refine Sp.of [some (.ref m), some (.int (nI tm)), none, none] (by decide) (Nat.le_of_ble_eq_true rfl) rfl rfl ?_
  rintro X rfl hr rfl B
  show AW X 0 0 0 _ _ _ _
  refine aw_aload_n B 0 rfl dX12_levelAt_0 rfl ?_
  refine aw_iload_n B 1 rfl dX12_levelAt_1 rfl ?_
  refine aw_callV B 0 0 (s_looks _ _ _ _ _ _ tm Q htm hQ hwf) co_X12_looks k_X12_127 dX12_levelAt_2 hM_o rfl rfl rfl rfl (Nat.le_of_ble_eq_true rfl) (zrm hr (by decide)) (Nat.le_refl _) (Nat.le_refl _) (kV fun h2 hp2 => ?_)
  obtain ⟨f3, f4, rfl⟩ := hp2
  refine aw_iload_n B 1 rfl dX12_levelAt_5 rfl ?_
  refine aw_bipush B 12 (by decide) dX12_levelAt_6 ?_
  refine aw_irem B (by decide) dX12_levelAt_8 ?_
  rw [show nI tm - nI tm / 12 * 12 = nI (tm % 12) from pk_rem (d := 12) (by omega) (by decide) (by decide)]
  refine aw_bipush B 6 (by decide) dX12_levelAt_9 ?_
  refine aw_isub B dX12_levelAt_11 ?_
  refine aw_istore2 B dX12_levelAt_12 ?_
  refine aw_iload_n B 2 rfl dX12_levelAt_13 rfl ?_
  refine aw_if_ge B 22 dX12_levelAt_14 (fun c14 => ?_) (fun c14 => ?_)
  · refine aw_iload_n B 2 rfl dX12_levelAt_22 rfl ?_
    refine aw_aload_n B 0 rfl dX12_levelAt_23 rfl ?_
    refine m_get B f_X12_121 dX12_levelAt_24 (mg_11 _ _) ?_
    rw [upd_n (show (11 : Nat) ≠ 12 by decide), upd_s]
    refine aw_iadd B dX12_levelAt_27 ?_
    refine aw_istore3 B dX12_levelAt_28 ?_
    refine aw_iload_n B 3 rfl dX12_levelAt_29 rfl ?_
    refine aw_if_ge B 37 dX12_levelAt_30 (fun c30 => ?_) (fun c30 => ?_)
    · refine aw_iload_n B 3 rfl dX12_levelAt_37 rfl ?_
      refine aw_bipush B 9 (by decide) dX12_levelAt_38 ?_
      refine aw_icmp_le B 48 dX12_levelAt_40 (fun c40 => ?_) (fun c40 => ?_)
      · refine aw_iload_n B 3 rfl dX12_levelAt_48 rfl ?_
        refine aw_iret B rfl rfl dX12_levelAt_49 ?_
        have ea : absI (nI (tm % 12) - 6) = nI (tm % 12) - 6 := by unfold absI; rw [if_neg (Int32.not_lt.mpr c14)]
        exact ⟨_, rfl, by unfold lvl; rw [ea, if_neg (Int32.not_lt.mpr c30), if_pos c40], _, _, rfl, (eqF.rf.up (by simp)).up (by simp), (eqA.rf.up (by simp)).up (by simp), upd_s⟩
      · refine aw_bipush B 9 (by decide) dX12_levelAt_43 ?_
        refine aw_goto B 49 dX12_levelAt_45 ?_
        refine aw_iret B rfl rfl dX12_levelAt_49 ?_
        have ea : absI (nI (tm % 12) - 6) = nI (tm % 12) - 6 := by unfold absI; rw [if_neg (Int32.not_lt.mpr c14)]
        exact ⟨_, rfl, by unfold lvl; rw [ea, if_neg (Int32.not_lt.mpr c30), if_neg c40], _, _, rfl, (eqF.rf.up (by simp)).up (by simp), (eqA.rf.up (by simp)).up (by simp), upd_s⟩
    · refine aw_iconst B 0 (by decide) dX12_levelAt_33 ?_
      refine aw_goto B 49 dX12_levelAt_34 ?_
      refine aw_iret B rfl rfl dX12_levelAt_49 ?_
      have ea : absI (nI (tm % 12) - 6) = nI (tm % 12) - 6 := by unfold absI; rw [if_neg (Int32.not_lt.mpr c14)]
      exact ⟨_, rfl, by unfold lvl; rw [ea, if_pos (Int32.not_le.mp c30)], _, _, rfl, (eqF.rf.up (by simp)).up (by simp), (eqA.rf.up (by simp)).up (by simp), upd_s⟩
  · refine aw_iload_n B 2 rfl dX12_levelAt_17 rfl ?_
    refine aw_ineg B dX12_levelAt_18 ?_
    refine aw_goto B 23 dX12_levelAt_19 ?_
    refine aw_aload_n B 0 rfl dX12_levelAt_23 rfl ?_
    refine m_get B f_X12_121 dX12_levelAt_24 (mg_11 _ _) ?_
    rw [upd_n (show (11 : Nat) ≠ 12 by decide), upd_s]
    refine aw_iadd B dX12_levelAt_27 ?_
    refine aw_istore3 B dX12_levelAt_28 ?_
    refine aw_iload_n B 3 rfl dX12_levelAt_29 rfl ?_
    refine aw_if_ge B 37 dX12_levelAt_30 (fun c30 => ?_) (fun c30 => ?_)
    · refine aw_iload_n B 3 rfl dX12_levelAt_37 rfl ?_
      refine aw_bipush B 9 (by decide) dX12_levelAt_38 ?_
      refine aw_icmp_le B 48 dX12_levelAt_40 (fun c40 => ?_) (fun c40 => ?_)
      · refine aw_iload_n B 3 rfl dX12_levelAt_48 rfl ?_
        refine aw_iret B rfl rfl dX12_levelAt_49 ?_
        have ea : absI (nI (tm % 12) - 6) = -(nI (tm % 12) - 6) := by unfold absI; rw [if_pos (Int32.not_le.mp c14)]
        exact ⟨_, rfl, by unfold lvl; rw [ea, if_neg (Int32.not_lt.mpr c30), if_pos c40], _, _, rfl, (eqF.rf.up (by simp)).up (by simp), (eqA.rf.up (by simp)).up (by simp), upd_s⟩
      · refine aw_bipush B 9 (by decide) dX12_levelAt_43 ?_
        refine aw_goto B 49 dX12_levelAt_45 ?_
        refine aw_iret B rfl rfl dX12_levelAt_49 ?_
        have ea : absI (nI (tm % 12) - 6) = -(nI (tm % 12) - 6) := by unfold absI; rw [if_pos (Int32.not_le.mp c14)]
        exact ⟨_, rfl, by unfold lvl; rw [ea, if_neg (Int32.not_lt.mpr c30), if_neg c40], _, _, rfl, (eqF.rf.up (by simp)).up (by simp), (eqA.rf.up (by simp)).up (by simp), upd_s⟩
    · refine aw_iconst B 0 (by decide) dX12_levelAt_33 ?_
      refine aw_goto B 49 dX12_levelAt_34 ?_
      refine aw_iret B rfl rfl dX12_levelAt_49 ?_
      have ea : absI (nI (tm % 12) - 6) = -(nI (tm % 12) - 6) := by unfold absI; rw [if_pos (Int32.not_le.mp c14)]
      exact ⟨_, rfl, by unfold lvl; rw [ea, if_pos (Int32.not_le.mp c30)], _, _, rfl, (eqF.rf.up (by simp)).up (by simp), (eqA.rf.up (by simp)).up (by simp), upd_s⟩
/-- the hour of place i of the row of levels -/
def hrI (T i : Nat) : Nat := if T + i = 0 then 11 else T + i - 1
def lvI (T : Nat) (Q : pP) (F : Nat → Int32) (A : Nat → Nat → Int32) : Prop := ∃ kn, F 14 = nI kn ∧ kn ≤ 402 ∧ ∀ i, i < kn → A 5 i = lvl (hrI T i) Q
theorem dX12_levelIn_0 : decode cX12_levelIn 0 = .ok (.aload_n 0, 1) := by decide +kernel
theorem dX12_levelIn_1 : decode cX12_levelIn 1 = .ok (.getfield 130, 3) := by decide +kernel
theorem dX12_levelIn_4 : decode cX12_levelIn 4 = .ok (.iload_n 1, 1) := by decide +kernel
theorem dX12_levelIn_5 : decode cX12_levelIn 5 = .ok (.iconst 1, 1) := by decide +kernel
theorem dX12_levelIn_6 : decode cX12_levelIn 6 = .ok (.iadd, 1) := by decide +kernel
theorem dX12_levelIn_7 : decode cX12_levelIn 7 = .ok (.if_icmp .gt 54, 3) := by decide +kernel
theorem dX12_levelIn_10 : decode cX12_levelIn 10 = .ok (.aload_n 0, 1) := by decide +kernel
theorem dX12_levelIn_11 : decode cX12_levelIn 11 = .ok (.getfield 9, 3) := by decide +kernel
theorem dX12_levelIn_14 : decode cX12_levelIn 14 = .ok (.bipush 8, 2) := by decide +kernel
theorem dX12_levelIn_16 : decode cX12_levelIn 16 = .ok (.iaload, 1) := by decide +kernel
theorem dX12_levelIn_17 : decode cX12_levelIn 17 = .ok (.aload_n 0, 1) := by decide +kernel
theorem dX12_levelIn_18 : decode cX12_levelIn 18 = .ok (.getfield 130, 3) := by decide +kernel
theorem dX12_levelIn_21 : decode cX12_levelIn 21 = .ok (.iadd, 1) := by decide +kernel
theorem dX12_levelIn_22 : decode cX12_levelIn 22 = .ok (.iconst 1, 1) := by decide +kernel
theorem dX12_levelIn_23 : decode cX12_levelIn 23 = .ok (.isub, 1) := by decide +kernel
theorem dX12_levelIn_24 : decode cX12_levelIn 24 = .ok (.istore_n 2, 1) := by decide +kernel
theorem dX12_levelIn_25 : decode cX12_levelIn 25 = .ok (.aload_n 0, 1) := by decide +kernel
theorem dX12_levelIn_26 : decode cX12_levelIn 26 = .ok (.getfield 25, 3) := by decide +kernel
theorem dX12_levelIn_29 : decode cX12_levelIn 29 = .ok (.aload_n 0, 1) := by decide +kernel
theorem dX12_levelIn_30 : decode cX12_levelIn 30 = .ok (.getfield 130, 3) := by decide +kernel
theorem dX12_levelIn_33 : decode cX12_levelIn 33 = .ok (.aload_n 0, 1) := by decide +kernel
theorem dX12_levelIn_34 : decode cX12_levelIn 34 = .ok (.iload_n 2, 1) := by decide +kernel
theorem dX12_levelIn_35 : decode cX12_levelIn 35 = .ok (.ifCond .ge 8, 3) := by decide +kernel
theorem dX12_levelIn_38 : decode cX12_levelIn 38 = .ok (.bipush 11, 2) := by decide +kernel
theorem dX12_levelIn_40 : decode cX12_levelIn 40 = .ok (.goto 4, 3) := by decide +kernel
theorem dX12_levelIn_43 : decode cX12_levelIn 43 = .ok (.iload_n 2, 1) := by decide +kernel
theorem dX12_levelIn_44 : decode cX12_levelIn 44 = .ok (.invokevirtual 133, 3) := by decide +kernel
theorem dX12_levelIn_47 : decode cX12_levelIn 47 = .ok (.iastore, 1) := by decide +kernel
theorem dX12_levelIn_48 : decode cX12_levelIn 48 = .ok (.aload_n 0, 1) := by decide +kernel
theorem dX12_levelIn_49 : decode cX12_levelIn 49 = .ok (.dup, 1) := by decide +kernel
theorem dX12_levelIn_50 : decode cX12_levelIn 50 = .ok (.getfield 130, 3) := by decide +kernel
theorem dX12_levelIn_53 : decode cX12_levelIn 53 = .ok (.iconst 1, 1) := by decide +kernel
theorem dX12_levelIn_54 : decode cX12_levelIn 54 = .ok (.iadd, 1) := by decide +kernel
theorem dX12_levelIn_55 : decode cX12_levelIn 55 = .ok (.putfield 130, 3) := by decide +kernel
theorem dX12_levelIn_58 : decode cX12_levelIn 58 = .ok (.goto (-58), 3) := by decide +kernel
theorem dX12_levelIn_61 : decode cX12_levelIn 61 = .ok (.aload_n 0, 1) := by decide +kernel
theorem dX12_levelIn_62 : decode cX12_levelIn 62 = .ok (.getfield 25, 3) := by decide +kernel
theorem dX12_levelIn_65 : decode cX12_levelIn 65 = .ok (.iload_n 1, 1) := by decide +kernel
theorem dX12_levelIn_66 : decode cX12_levelIn 66 = .ok (.iconst 1, 1) := by decide +kernel
theorem dX12_levelIn_67 : decode cX12_levelIn 67 = .ok (.iadd, 1) := by decide +kernel
theorem dX12_levelIn_68 : decode cX12_levelIn 68 = .ok (.iaload, 1) := by decide +kernel
theorem dX12_levelIn_69 : decode cX12_levelIn 69 = .ok (.ireturn, 1) := by decide +kernel
set_option maxRecDepth 100000 in
set_option maxHeartbeats 4000000 in
theorem s_levelIn (l : Launch) (g : zG) (h : Hp) (m : Nat) (F : Nat → Int32) (A : Nat → Nat → Int32) (x : Int32) (k1 T : Nat) (Q : pP) (ex : x + 1 = nI k1) (hk1 : k1 ≤ 401) (eT : A 1 8 = nI T) (hT : T ≤ 9999) (hQ : hold (A 1) Q) (hwf : wfp 0 Q) (hlv : lvI T Q F A) : Sp l g yX12_levelIn cX12_levelIn 3 (some .int) (rmz 3) [.ref m, .int x] (hM g h m F A) (zI fun r h' => r = lvl (hrI T k1) Q ∧ mgar g h m F A [11, 12, 14] [3, 4, 5] (fun F' A' => lvI T Q F' A') h') := by
  refine Sp.of [some (.ref m), some (.int x), none] (by decide) (Nat.le_of_ble_eq_true rfl) rfl rfl ?_
  rintro X rfl hr rfl B
  show AW X 0 0 0 _ _ _ _
  have lp : ∀ (n kn : Nat) (F1 : Nat → Int32) (A1 : Nat → Nat → Int32) (o2 : Option Value), eqF [11, 12, 14] F F1 → eqA [3, 4, 5] A A1 → F1 14 = nI kn → kn ≤ 402 → (∀ i, i < kn → A1 5 i = lvl (hrI T i) Q) → 402 < kn + n → AW X 0 0 0 [some (.ref m), some (.int x), none] [] (hM (zXg X) h m F1 A1) (zI fun r h' => r = lvl (hrI T k1) Q ∧ mgar (zXg X) h m F A [11, 12, 14] [3, 4, 5] (fun F' A' => lvI T Q F' A') h') := by
    intro n
    induction n with
    | zero => intros; omega
    | succ n ih =>
      intro kn F1 A1 o2 hF hA ek hkn hlv hn
      have e1 : A1 1 = A 1 := hA 1 (by simp)
      refine aw_aload_n B 0 rfl dX12_levelIn_0 rfl ?_
      refine m_get B f_X12_130 dX12_levelIn_1 (mg_14 _ _) ?_
      refine aw_iload_n B 1 rfl dX12_levelIn_4 rfl ?_
      refine aw_iconst B 1 (by decide) dX12_levelIn_5 ?_
      refine aw_iadd B dX12_levelIn_6 ?_
      refine aw_icmp_gt B 61 dX12_levelIn_7 (fun c7 => ?_) (fun c7 => ?_)
      · refine aw_aload_n B 0 rfl dX12_levelIn_61 rfl ?_
        refine m_get B f_X12_25 dX12_levelIn_62 (mg_13 _ _) ?_
        refine aw_iload_n B 1 rfl dX12_levelIn_65 rfl ?_
        refine aw_iconst B 1 (by decide) dX12_levelIn_66 ?_
        refine aw_iadd B dX12_levelIn_67 ?_
        refine m_ld B (k1) (ex) (by show _ < 402; omega) dX12_levelIn_68 (by decide) ?_
        refine aw_iret B rfl rfl dX12_levelIn_69 ?_
        have hlt : k1 < kn := Nat.not_le.mp fun z => absurd (show F1 14 ≤ x + 1 from by rw [ek, ex]; exact nI_le z (by omega)) (Int32.not_le.mpr c7)
        exact ⟨_, rfl, hlv k1 hlt, F1, A1, rfl, hF, hA, kn, ek, hkn, hlv⟩
      · have hle : kn ≤ k1 := (nI_leI (by omega) (by omega)).mp (by rw [← ek, ← ex]; exact Int32.not_lt.mp c7)
        refine aw_aload_n B 0 rfl dX12_levelIn_10 rfl ?_
        refine m_get B f_X12_9 dX12_levelIn_11 (mg_1 _ _) ?_
        refine aw_bipush B 8 (by decide) dX12_levelIn_14 ?_
        refine m_ld B (8) (rfl) (by decide) dX12_levelIn_16 (by decide) ?_
        refine aw_aload_n B 0 rfl dX12_levelIn_17 rfl ?_
        refine m_get B f_X12_130 dX12_levelIn_18 (mg_14 _ _) ?_
        refine aw_iadd B dX12_levelIn_21 ?_
        refine aw_iconst B 1 (by decide) dX12_levelIn_22 ?_
        refine aw_isub B dX12_levelIn_23 ?_
        rw [e1, eT, ek, nI_add]
        refine aw_istore2 B dX12_levelIn_24 ?_
        refine aw_aload_n B 0 rfl dX12_levelIn_25 rfl ?_
        refine m_get B f_X12_25 dX12_levelIn_26 (mg_13 _ _) ?_
        refine aw_aload_n B 0 rfl dX12_levelIn_29 rfl ?_
        refine m_get B f_X12_130 dX12_levelIn_30 (mg_14 _ _) ?_
        refine aw_aload_n B 0 rfl dX12_levelIn_33 rfl ?_
        refine aw_iload_n B 2 rfl dX12_levelIn_34 rfl ?_
        refine aw_if_ge B 43 dX12_levelIn_35 (fun c35 => ?_) (fun c35 => ?_)
        · have hz : ¬ T + kn = 0 := fun z => absurd c35 (by rw [z]; decide)
          have eh : hrI T kn = T + kn - 1 := by unfold hrI; rw [if_neg hz]
          refine aw_iload_n B 2 rfl dX12_levelIn_43 rfl ?_
          first
            | rw [show nI (T + kn) - 1 = nI (hrI T kn) from by rw [eh]; exact pk_sub (a := T + kn) (b := 1) (by omega)]
            | rw [show (11 : Int32) = nI (hrI T kn) from by rw [eh]; rfl]
          refine aw_callV B 0 0 (s_levelAt _ _ _ _ _ _ (hrI T kn) Q (by unfold hrI; split <;> omega) (by rw [e1]; exact hQ) hwf) co_X12_levelAt k_X12_133 dX12_levelIn_44 hM_o rfl rfl rfl rfl (Nat.le_of_ble_eq_true rfl) (zrm hr (by decide)) (Nat.le_refl _) (Nat.le_refl _) (kI fun r44 h44 hp44 => ?_)
          obtain ⟨rfl, F2, A2, rfl, hF2, hA2, -⟩ := hp44
          refine m_st B (kn) (ek) (by show _ < 402; omega) dX12_levelIn_47 (by decide) ?_
          refine aw_aload_n B 0 rfl dX12_levelIn_48 rfl ?_
          refine aw_dup B rfl dX12_levelIn_49 ?_
          refine m_get B f_X12_130 dX12_levelIn_50 (mg_14 _ _) ?_
          refine aw_iconst B 1 (by decide) dX12_levelIn_53 ?_
          refine aw_iadd B dX12_levelIn_54 ?_
          refine m_put B f_X12_130 dX12_levelIn_55 (ms_14 _ _ _) (by decide) ?_
          refine aw_goto B 0 dX12_levelIn_58 ?_
          have e2 : A2 5 = A1 5 := hA2 5 (by simp)
          have e3 : F2 14 = nI kn := (hF2 14 (by simp)).trans ek
          refine AW.weak (lv' := [some (.ref m), some (.int x), none]) ⟨Or.inr rfl, Or.inr rfl, Or.inl rfl, trivial⟩ ?_
          refine ih (kn + 1) _ _ none ?_ ?_ ?_ (by omega) ?_ (by omega)
          · exact (hF.tr (hF2.mono (by simp))).up (by simp)
          · exact (hA.tr (hA2.mono (by simp))).up (by simp)
          · rw [upd_s, e3, nI_1]
          · intro i hi
            rw [mup_s]
            by_cases hik : i = kn
            · rw [hik, upd_s]
            · rw [upd_n hik, e2]
              exact hlv i (by omega)
        · have hz : T + kn = 0 := by
            rcases Nat.eq_zero_or_pos (T + kn) with z | z
            · exact z
            · exact absurd (show (0 : Int32) ≤ nI (T + kn) - 1 from by rw [show nI (T + kn) - 1 = nI (T + kn - 1) from pk_sub (a := T + kn) (b := 1) z]; exact nI_pos' (by omega)) c35
          have eh : hrI T kn = 11 := by unfold hrI; rw [if_pos hz]
          refine aw_bipush B 11 (by decide) dX12_levelIn_38 ?_
          refine aw_goto B 44 dX12_levelIn_40 ?_
          first
            | rw [show nI (T + kn) - 1 = nI (hrI T kn) from by rw [eh]; exact pk_sub (a := T + kn) (b := 1) (by omega)]
            | rw [show (11 : Int32) = nI (hrI T kn) from by rw [eh]; rfl]
          refine aw_callV B 0 0 (s_levelAt _ _ _ _ _ _ (hrI T kn) Q (by unfold hrI; split <;> omega) (by rw [e1]; exact hQ) hwf) co_X12_levelAt k_X12_133 dX12_levelIn_44 hM_o rfl rfl rfl rfl (Nat.le_of_ble_eq_true rfl) (zrm hr (by decide)) (Nat.le_refl _) (Nat.le_refl _) (kI fun r44 h44 hp44 => ?_)
          obtain ⟨rfl, F2, A2, rfl, hF2, hA2, -⟩ := hp44
          refine m_st B (kn) (ek) (by show _ < 402; omega) dX12_levelIn_47 (by decide) ?_
          refine aw_aload_n B 0 rfl dX12_levelIn_48 rfl ?_
          refine aw_dup B rfl dX12_levelIn_49 ?_
          refine m_get B f_X12_130 dX12_levelIn_50 (mg_14 _ _) ?_
          refine aw_iconst B 1 (by decide) dX12_levelIn_53 ?_
          refine aw_iadd B dX12_levelIn_54 ?_
          refine m_put B f_X12_130 dX12_levelIn_55 (ms_14 _ _ _) (by decide) ?_
          refine aw_goto B 0 dX12_levelIn_58 ?_
          have e2 : A2 5 = A1 5 := hA2 5 (by simp)
          have e3 : F2 14 = nI kn := (hF2 14 (by simp)).trans ek
          refine AW.weak (lv' := [some (.ref m), some (.int x), none]) ⟨Or.inr rfl, Or.inr rfl, Or.inl rfl, trivial⟩ ?_
          refine ih (kn + 1) _ _ none ?_ ?_ ?_ (by omega) ?_ (by omega)
          · exact (hF.tr (hF2.mono (by simp))).up (by simp)
          · exact (hA.tr (hA2.mono (by simp))).up (by simp)
          · rw [upd_s, e3, nI_1]
          · intro i hi
            rw [mup_s]
            by_cases hik : i = kn
            · rw [hik, upd_s]
            · rw [upd_n hik, e2]
              exact hlv i (by omega)
  obtain ⟨kn, ek, hkn, hl⟩ := hlv
  exact lp 403 kn F A none eqF.rf eqA.rf ek hkn hl (by omega)
