theorem upd_u {f : Nat → Int32} {k : Nat} {x y : Int32} : upd (upd f k x) k y = upd f k y := by
  funext j
  unfold upd
  by_cases h : j = k <;> simp [h]
def p_log (n : Nat) (tr : Nat → Int32) : List Int32 → (Nat → Int32)
  | [] => tr
  | b :: bs => p_log (n + 1) (p_ran n tr b) bs
theorem p_log_app (n : Nat) (tr : Nat → Int32) (as bs : List Int32) : p_log n tr (as ++ bs) = p_log (n + as.length) (p_log n tr as) bs := by
  induction as generalizing n tr with
  | nil => rfl
  | cons a as ih =>
    show p_log (n + 1) (p_ran n tr a) (as ++ bs) = _
    rw [ih]
    show p_log (n + 1 + as.length) _ bs = p_log (n + (as.length + 1)) _ bs
    rw [show n + 1 + as.length = n + (as.length + 1) by omega]
    rfl
def ac_plain (i x : Int32) : Int32 × List Int32 := (x + i, [1])
def ac_reads (k i x : Int32) : Int32 × List Int32 := if p_under k 1 = 0 then (if k = 5 then ((ac_plain i x).1 ^^^ i, 51 :: (ac_plain i x).2) else ac_plain i x) else ((ac_plain i (x * 3)).1, 11 :: (ac_plain i (x * 3)).2)
def ac_waitsP (k i v x : Int32) : Int32 × List Int32 := ((ac_reads k i x).1 - v, 2 :: (ac_reads k i x).2)
def ac_waits (k i v x : Int32) : Int32 × List Int32 := if p_under k 2 = 0 then (if k = 6 then ((ac_waitsP k i v x).1 + v, 61 :: (ac_waitsP k i v x).2) else ac_waitsP k i v x) else (-(ac_waitsP k i v x).1, 21 :: (ac_waitsP k i v x).2)
def ac_tellsP (k i v x : Int32) : Int32 × List Int32 := ((ac_waits k i v x).1 * 2, 3 :: (ac_waits k i v x).2)
def ac_tells (k i v x : Int32) : Int32 × List Int32 := if p_under k 3 = 0 then (if k = 4 then ((ac_tellsP k i v (x - 1)).1 + (ac_reads k i 2).1, 41 :: ((ac_tellsP k i v (x - 1)).2 ++ (ac_reads k i 2).2)) else ac_tellsP k i v x) else ((ac_tellsP k i v x).1 ^^^ 7, 31 :: (ac_tellsP k i v x).2)
theorem len_reads (k i x : Int32) : (ac_reads k i x).2.length ≤ 2 := by unfold ac_reads ac_plain; split <;> (try split) <;> simp
theorem len_waitsP (k i v x : Int32) : (ac_waitsP k i v x).2.length ≤ 3 := by have := len_reads k i x; simp [ac_waitsP]; omega
theorem len_waits (k i v x : Int32) : (ac_waits k i v x).2.length ≤ 4 := by have := len_waitsP k i v x; unfold ac_waits; split <;> (try split) <;> simp <;> omega
theorem len_tellsP (k i v x : Int32) : (ac_tellsP k i v x).2.length ≤ 5 := by have := len_waits k i v x; simp [ac_tellsP]; omega
theorem len_tells (k i v x : Int32) : (ac_tells k i v x).2.length ≤ 8 := by
  have h1 := len_tellsP k i v x
  have h2 := len_tellsP k i v (x - 1)
  have h3 := len_reads k i 2
  unfold ac_tells
  split <;> (try split) <;> simp <;> omega
def ares (g : zG) (h : Hp) (m n : Nat) (F : Nat → Int32) (A : Nat → Nat → Int32) (q : Int32 × List Int32) : Int32 → Hp → Prop := fun r h' => r = q.1 ∧ h' = hM g h m (upd F 20 (nI (n + q.2.length))) (mup A 9 (p_log n (A 9) q.2))
theorem dX12_plainReads_0 : decode cX12_plainReads 0 = .ok (.aload_n 0, 1) := by decide +kernel
theorem dX12_plainReads_1 : decode cX12_plainReads 1 = .ok (.iconst 1, 1) := by decide +kernel
theorem dX12_plainReads_2 : decode cX12_plainReads 2 = .ok (.invokevirtual 212, 3) := by decide +kernel
theorem dX12_plainReads_5 : decode cX12_plainReads 5 = .ok (.iload_n 1, 1) := by decide +kernel
theorem dX12_plainReads_6 : decode cX12_plainReads 6 = .ok (.aload_n 0, 1) := by decide +kernel
theorem dX12_plainReads_7 : decode cX12_plainReads 7 = .ok (.getfield 215, 3) := by decide +kernel
theorem dX12_plainReads_10 : decode cX12_plainReads 10 = .ok (.iadd, 1) := by decide +kernel
theorem dX12_plainReads_11 : decode cX12_plainReads 11 = .ok (.ireturn, 1) := by decide +kernel
set_option maxRecDepth 100000 in
set_option maxHeartbeats 4000000 in
theorem s_plainReads (l : Launch) (g : zG) (h : Hp) (m : Nat) (F : Nat → Int32) (A : Nat → Nat → Int32) (x : Int32) (n : Nat) (hn : n ≤ 98) (en : F 20 = nI n) : Sp l g yX12_plainReads cX12_plainReads 2 (some .int) (rmz 2) [.ref m, .int x] (hM g h m F A) (zI (ares g h m n F A (ac_plain (F 22) x))) := by
  refine Sp.of [some (.ref m), some (.int x)] (by decide) (Nat.le_of_ble_eq_true rfl) rfl rfl ?_
  rintro X rfl hr rfl B
  show AW X 0 0 0 _ _ _ _
  refine aw_aload_n B 0 rfl dX12_plainReads_0 rfl ?_
  refine aw_iconst B 1 (by decide) dX12_plainReads_1 ?_
  refine aw_callV B 0 0 (s_ranBody _ _ _ _ _ _ (n) _ (by omega) (by first | exact en | rfl | simp [upd])) co_X12_ranBody k_X12_212 dX12_plainReads_2 hM_o rfl rfl rfl rfl (Nat.le_of_ble_eq_true rfl) (zrm hr (by decide)) (Nat.le_refl _) (Nat.le_refl _) (kV fun h2 hp2 => ?_)
  subst hp2
  refine aw_iload_n B 1 rfl dX12_plainReads_5 rfl ?_
  refine aw_aload_n B 0 rfl dX12_plainReads_6 rfl ?_
  refine m_get B f_X12_215 dX12_plainReads_7 rfl ?_
  refine aw_iadd B dX12_plainReads_10 ?_
  refine aw_iret B rfl rfl dX12_plainReads_11 ?_
  exact ⟨_, rfl, by unfold ac_plain; (try simp (disch := decide) [upd_n]), by unfold ac_plain; (try simp (disch := decide) [upd_u, mup_m, mup_s, p_log, p_log_app, Nat.add_assoc, Nat.add_comm, Nat.add_left_comm])⟩
theorem dX12_readsActs_0 : decode cX12_readsActs 0 = .ok (.aload_n 0, 1) := by decide +kernel
theorem dX12_readsActs_1 : decode cX12_readsActs 1 = .ok (.getfield 218, 3) := by decide +kernel
theorem dX12_readsActs_4 : decode cX12_readsActs 4 = .ok (.iconst 1, 1) := by decide +kernel
theorem dX12_readsActs_5 : decode cX12_readsActs 5 = .ok (.invokestatic 221, 3) := by decide +kernel
theorem dX12_readsActs_8 : decode cX12_readsActs 8 = .ok (.ifCond .eq 17, 3) := by decide +kernel
theorem dX12_readsActs_11 : decode cX12_readsActs 11 = .ok (.aload_n 0, 1) := by decide +kernel
theorem dX12_readsActs_12 : decode cX12_readsActs 12 = .ok (.bipush 11, 2) := by decide +kernel
theorem dX12_readsActs_14 : decode cX12_readsActs 14 = .ok (.invokevirtual 212, 3) := by decide +kernel
theorem dX12_readsActs_17 : decode cX12_readsActs 17 = .ok (.aload_n 0, 1) := by decide +kernel
theorem dX12_readsActs_18 : decode cX12_readsActs 18 = .ok (.iload_n 1, 1) := by decide +kernel
theorem dX12_readsActs_19 : decode cX12_readsActs 19 = .ok (.iconst 3, 1) := by decide +kernel
theorem dX12_readsActs_20 : decode cX12_readsActs 20 = .ok (.imul, 1) := by decide +kernel
theorem dX12_readsActs_21 : decode cX12_readsActs 21 = .ok (.invokevirtual 224, 3) := by decide +kernel
theorem dX12_readsActs_24 : decode cX12_readsActs 24 = .ok (.ireturn, 1) := by decide +kernel
theorem dX12_readsActs_25 : decode cX12_readsActs 25 = .ok (.aload_n 0, 1) := by decide +kernel
theorem dX12_readsActs_26 : decode cX12_readsActs 26 = .ok (.getfield 218, 3) := by decide +kernel
theorem dX12_readsActs_29 : decode cX12_readsActs 29 = .ok (.iconst 5, 1) := by decide +kernel
theorem dX12_readsActs_30 : decode cX12_readsActs 30 = .ok (.if_icmp .ne 20, 3) := by decide +kernel
theorem dX12_readsActs_33 : decode cX12_readsActs 33 = .ok (.aload_n 0, 1) := by decide +kernel
theorem dX12_readsActs_34 : decode cX12_readsActs 34 = .ok (.bipush 51, 2) := by decide +kernel
theorem dX12_readsActs_36 : decode cX12_readsActs 36 = .ok (.invokevirtual 212, 3) := by decide +kernel
theorem dX12_readsActs_39 : decode cX12_readsActs 39 = .ok (.aload_n 0, 1) := by decide +kernel
theorem dX12_readsActs_40 : decode cX12_readsActs 40 = .ok (.iload_n 1, 1) := by decide +kernel
theorem dX12_readsActs_41 : decode cX12_readsActs 41 = .ok (.invokevirtual 224, 3) := by decide +kernel
theorem dX12_readsActs_44 : decode cX12_readsActs 44 = .ok (.aload_n 0, 1) := by decide +kernel
theorem dX12_readsActs_45 : decode cX12_readsActs 45 = .ok (.getfield 215, 3) := by decide +kernel
theorem dX12_readsActs_48 : decode cX12_readsActs 48 = .ok (.ixor, 1) := by decide +kernel
theorem dX12_readsActs_49 : decode cX12_readsActs 49 = .ok (.ireturn, 1) := by decide +kernel
theorem dX12_readsActs_50 : decode cX12_readsActs 50 = .ok (.aload_n 0, 1) := by decide +kernel
theorem dX12_readsActs_51 : decode cX12_readsActs 51 = .ok (.iload_n 1, 1) := by decide +kernel
theorem dX12_readsActs_52 : decode cX12_readsActs 52 = .ok (.invokevirtual 224, 3) := by decide +kernel
theorem dX12_readsActs_55 : decode cX12_readsActs 55 = .ok (.ireturn, 1) := by decide +kernel
set_option maxRecDepth 100000 in
set_option maxHeartbeats 4000000 in
theorem s_readsActs (l : Launch) (g : zG) (h : Hp) (m : Nat) (F : Nat → Int32) (A : Nat → Nat → Int32) (x : Int32) (n : Nat) (hn : n ≤ 97) (en : F 20 = nI n) : Sp l g yX12_readsActs cX12_readsActs 2 (some .int) (rmz 3) [.ref m, .int x] (hM g h m F A) (zI (ares g h m n F A (ac_reads (F 21) (F 22) x))) := by
  refine Sp.of [some (.ref m), some (.int x)] (by decide) (Nat.le_of_ble_eq_true rfl) rfl rfl ?_
  rintro X rfl hr rfl B
  show AW X 0 0 0 _ _ _ _
  refine aw_aload_n B 0 rfl dX12_readsActs_0 rfl ?_
  refine m_get B f_X12_218 dX12_readsActs_1 rfl ?_
  refine aw_iconst B 1 (by decide) dX12_readsActs_4 ?_
  refine aw_callS B 0 0 (s_isUnder _ _ _ _ _) co_X12_isUnder k_X12_221 dX12_readsActs_5 rfl rfl (Nat.le_of_ble_eq_true rfl) (zrm hr (by decide)) (Nat.le_refl _) (Nat.le_refl _) (kI fun r5 h5 hp5 => ?_)
  obtain ⟨rfl, rfl⟩ := hp5
  refine aw_if_eq B 25 dX12_readsActs_8 (fun c8 => ?_) (fun c8 => ?_)
  · refine aw_aload_n B 0 rfl dX12_readsActs_25 rfl ?_
    refine m_get B f_X12_218 dX12_readsActs_26 rfl ?_
    refine aw_iconst B 5 (by decide) dX12_readsActs_29 ?_
    refine aw_icmp_ne B 50 dX12_readsActs_30 (fun c30 => ?_) (fun c30 => ?_)
    · refine aw_aload_n B 0 rfl dX12_readsActs_50 rfl ?_
      refine aw_iload_n B 1 rfl dX12_readsActs_51 rfl ?_
      refine aw_callV B 0 0 (s_plainReads _ _ _ _ _ _ _ (n) (by omega) (by first | exact en | rfl | (simp [upd_s, Nat.add_assoc]; done))) co_X12_plainReads k_X12_224 dX12_readsActs_52 hM_o rfl rfl rfl rfl (Nat.le_of_ble_eq_true rfl) (zrm hr (by decide)) (Nat.le_refl _) (Nat.le_refl _) (kI fun r52 h52 hp52 => ?_)
      obtain ⟨rfl, rfl⟩ := hp52
      try simp (disch := decide) only [upd_u, mup_m, mup_s, upd_s, upd_n]
      refine aw_iret B rfl rfl dX12_readsActs_55 ?_
      exact ⟨_, rfl, by unfold ac_reads; rw [if_pos c8, if_neg c30]; (try simp (disch := decide) [upd_n]), by unfold ac_reads; rw [if_pos c8, if_neg c30]; (try simp (disch := decide) [upd_u, mup_m, mup_s, p_log, p_log_app, Nat.add_assoc, Nat.add_comm, Nat.add_left_comm])⟩
    · refine aw_aload_n B 0 rfl dX12_readsActs_33 rfl ?_
      refine aw_bipush B 51 (by decide) dX12_readsActs_34 ?_
      refine aw_callV B 0 0 (s_ranBody _ _ _ _ _ _ (n) _ (by omega) (by first | exact en | rfl | simp [upd])) co_X12_ranBody k_X12_212 dX12_readsActs_36 hM_o rfl rfl rfl rfl (Nat.le_of_ble_eq_true rfl) (zrm hr (by decide)) (Nat.le_refl _) (Nat.le_refl _) (kV fun h36 hp36 => ?_)
      subst hp36
      refine aw_aload_n B 0 rfl dX12_readsActs_39 rfl ?_
      refine aw_iload_n B 1 rfl dX12_readsActs_40 rfl ?_
      refine aw_callV B 0 0 (s_plainReads _ _ _ _ _ _ _ (n + 1) (by omega) (by first | exact en | rfl | (simp [upd_s, Nat.add_assoc]; done))) co_X12_plainReads k_X12_224 dX12_readsActs_41 hM_o rfl rfl rfl rfl (Nat.le_of_ble_eq_true rfl) (zrm hr (by decide)) (Nat.le_refl _) (Nat.le_refl _) (kI fun r41 h41 hp41 => ?_)
      obtain ⟨rfl, rfl⟩ := hp41
      try simp (disch := decide) only [upd_u, mup_m, mup_s, upd_s, upd_n]
      refine aw_aload_n B 0 rfl dX12_readsActs_44 rfl ?_
      refine m_get B f_X12_215 dX12_readsActs_45 rfl ?_
      refine aw_ixor B dX12_readsActs_48 ?_
      refine aw_iret B rfl rfl dX12_readsActs_49 ?_
      exact ⟨_, rfl, by unfold ac_reads; rw [if_pos c8, if_pos c30]; (try simp (disch := decide) [upd_n]), by unfold ac_reads; rw [if_pos c8, if_pos c30]; (try simp (disch := decide) [upd_u, mup_m, mup_s, p_log, p_log_app, Nat.add_assoc, Nat.add_comm, Nat.add_left_comm])⟩
  · refine aw_aload_n B 0 rfl dX12_readsActs_11 rfl ?_
    refine aw_bipush B 11 (by decide) dX12_readsActs_12 ?_
    refine aw_callV B 0 0 (s_ranBody _ _ _ _ _ _ (n) _ (by omega) (by first | exact en | rfl | simp [upd])) co_X12_ranBody k_X12_212 dX12_readsActs_14 hM_o rfl rfl rfl rfl (Nat.le_of_ble_eq_true rfl) (zrm hr (by decide)) (Nat.le_refl _) (Nat.le_refl _) (kV fun h14 hp14 => ?_)
    subst hp14
    refine aw_aload_n B 0 rfl dX12_readsActs_17 rfl ?_
    refine aw_iload_n B 1 rfl dX12_readsActs_18 rfl ?_
    refine aw_iconst B 3 (by decide) dX12_readsActs_19 ?_
    refine aw_imul B dX12_readsActs_20 ?_
    refine aw_callV B 0 0 (s_plainReads _ _ _ _ _ _ _ (n + 1) (by omega) (by first | exact en | rfl | (simp [upd_s, Nat.add_assoc]; done))) co_X12_plainReads k_X12_224 dX12_readsActs_21 hM_o rfl rfl rfl rfl (Nat.le_of_ble_eq_true rfl) (zrm hr (by decide)) (Nat.le_refl _) (Nat.le_refl _) (kI fun r21 h21 hp21 => ?_)
    obtain ⟨rfl, rfl⟩ := hp21
    try simp (disch := decide) only [upd_u, mup_m, mup_s, upd_s, upd_n]
    refine aw_iret B rfl rfl dX12_readsActs_24 ?_
    exact ⟨_, rfl, by unfold ac_reads; rw [if_neg c8]; (try simp (disch := decide) [upd_n]), by unfold ac_reads; rw [if_neg c8]; (try simp (disch := decide) [upd_u, mup_m, mup_s, p_log, p_log_app, Nat.add_assoc, Nat.add_comm, Nat.add_left_comm])⟩
theorem dX12_plainWaits_0 : decode cX12_plainWaits 0 = .ok (.aload_n 0, 1) := by decide +kernel
theorem dX12_plainWaits_1 : decode cX12_plainWaits 1 = .ok (.iconst 2, 1) := by decide +kernel
theorem dX12_plainWaits_2 : decode cX12_plainWaits 2 = .ok (.invokevirtual 212, 3) := by decide +kernel
theorem dX12_plainWaits_5 : decode cX12_plainWaits 5 = .ok (.aload_n 0, 1) := by decide +kernel
theorem dX12_plainWaits_6 : decode cX12_plainWaits 6 = .ok (.iload_n 1, 1) := by decide +kernel
theorem dX12_plainWaits_7 : decode cX12_plainWaits 7 = .ok (.invokevirtual 227, 3) := by decide +kernel
theorem dX12_plainWaits_10 : decode cX12_plainWaits 10 = .ok (.aload_n 0, 1) := by decide +kernel
theorem dX12_plainWaits_11 : decode cX12_plainWaits 11 = .ok (.getfield 230, 3) := by decide +kernel
theorem dX12_plainWaits_14 : decode cX12_plainWaits 14 = .ok (.isub, 1) := by decide +kernel
theorem dX12_plainWaits_15 : decode cX12_plainWaits 15 = .ok (.ireturn, 1) := by decide +kernel
set_option maxRecDepth 100000 in
set_option maxHeartbeats 4000000 in
theorem s_plainWaits (l : Launch) (g : zG) (h : Hp) (m : Nat) (F : Nat → Int32) (A : Nat → Nat → Int32) (x : Int32) (n : Nat) (hn : n ≤ 96) (en : F 20 = nI n) : Sp l g yX12_plainWaits cX12_plainWaits 2 (some .int) (rmz 4) [.ref m, .int x] (hM g h m F A) (zI (ares g h m n F A (ac_waitsP (F 21) (F 22) (F 23) x))) := by
  refine Sp.of [some (.ref m), some (.int x)] (by decide) (Nat.le_of_ble_eq_true rfl) rfl rfl ?_
  rintro X rfl hr rfl B
  show AW X 0 0 0 _ _ _ _
  refine aw_aload_n B 0 rfl dX12_plainWaits_0 rfl ?_
  refine aw_iconst B 2 (by decide) dX12_plainWaits_1 ?_
  refine aw_callV B 0 0 (s_ranBody _ _ _ _ _ _ (n) _ (by omega) (by first | exact en | rfl | simp [upd])) co_X12_ranBody k_X12_212 dX12_plainWaits_2 hM_o rfl rfl rfl rfl (Nat.le_of_ble_eq_true rfl) (zrm hr (by decide)) (Nat.le_refl _) (Nat.le_refl _) (kV fun h2 hp2 => ?_)
  subst hp2
  refine aw_aload_n B 0 rfl dX12_plainWaits_5 rfl ?_
  refine aw_iload_n B 1 rfl dX12_plainWaits_6 rfl ?_
  refine aw_callV B 0 0 (s_readsActs _ _ _ _ _ _ _ (n + 1) (by omega) (by first | exact en | rfl | (simp [upd_s, Nat.add_assoc]; done))) co_X12_readsActs k_X12_227 dX12_plainWaits_7 hM_o rfl rfl rfl rfl (Nat.le_of_ble_eq_true rfl) (zrm hr (by decide)) (Nat.le_refl _) (Nat.le_refl _) (kI fun r7 h7 hp7 => ?_)
  obtain ⟨rfl, rfl⟩ := hp7
  try simp (disch := decide) only [upd_u, mup_m, mup_s, upd_s, upd_n]
  refine aw_aload_n B 0 rfl dX12_plainWaits_10 rfl ?_
  refine m_get B f_X12_230 dX12_plainWaits_11 rfl ?_
  refine aw_isub B dX12_plainWaits_14 ?_
  refine aw_iret B rfl rfl dX12_plainWaits_15 ?_
  exact ⟨_, rfl, by unfold ac_waitsP; (try simp (disch := decide) [upd_n]), by unfold ac_waitsP; (try simp (disch := decide) [upd_u, mup_m, mup_s, p_log, p_log_app, Nat.add_assoc, Nat.add_comm, Nat.add_left_comm])⟩
theorem dX12_waitsActs_0 : decode cX12_waitsActs 0 = .ok (.aload_n 0, 1) := by decide +kernel
theorem dX12_waitsActs_1 : decode cX12_waitsActs 1 = .ok (.getfield 218, 3) := by decide +kernel
theorem dX12_waitsActs_4 : decode cX12_waitsActs 4 = .ok (.iconst 2, 1) := by decide +kernel
theorem dX12_waitsActs_5 : decode cX12_waitsActs 5 = .ok (.invokestatic 221, 3) := by decide +kernel
theorem dX12_waitsActs_8 : decode cX12_waitsActs 8 = .ok (.ifCond .eq 16, 3) := by decide +kernel
theorem dX12_waitsActs_11 : decode cX12_waitsActs 11 = .ok (.aload_n 0, 1) := by decide +kernel
theorem dX12_waitsActs_12 : decode cX12_waitsActs 12 = .ok (.bipush 21, 2) := by decide +kernel
theorem dX12_waitsActs_14 : decode cX12_waitsActs 14 = .ok (.invokevirtual 212, 3) := by decide +kernel
theorem dX12_waitsActs_17 : decode cX12_waitsActs 17 = .ok (.aload_n 0, 1) := by decide +kernel
theorem dX12_waitsActs_18 : decode cX12_waitsActs 18 = .ok (.iload_n 1, 1) := by decide +kernel
theorem dX12_waitsActs_19 : decode cX12_waitsActs 19 = .ok (.invokevirtual 233, 3) := by decide +kernel
theorem dX12_waitsActs_22 : decode cX12_waitsActs 22 = .ok (.ineg, 1) := by decide +kernel
theorem dX12_waitsActs_23 : decode cX12_waitsActs 23 = .ok (.ireturn, 1) := by decide +kernel
theorem dX12_waitsActs_24 : decode cX12_waitsActs 24 = .ok (.aload_n 0, 1) := by decide +kernel
theorem dX12_waitsActs_25 : decode cX12_waitsActs 25 = .ok (.getfield 218, 3) := by decide +kernel
theorem dX12_waitsActs_28 : decode cX12_waitsActs 28 = .ok (.bipush 6, 2) := by decide +kernel
theorem dX12_waitsActs_30 : decode cX12_waitsActs 30 = .ok (.if_icmp .ne 20, 3) := by decide +kernel
theorem dX12_waitsActs_33 : decode cX12_waitsActs 33 = .ok (.aload_n 0, 1) := by decide +kernel
theorem dX12_waitsActs_34 : decode cX12_waitsActs 34 = .ok (.bipush 61, 2) := by decide +kernel
theorem dX12_waitsActs_36 : decode cX12_waitsActs 36 = .ok (.invokevirtual 212, 3) := by decide +kernel
theorem dX12_waitsActs_39 : decode cX12_waitsActs 39 = .ok (.aload_n 0, 1) := by decide +kernel
theorem dX12_waitsActs_40 : decode cX12_waitsActs 40 = .ok (.iload_n 1, 1) := by decide +kernel
theorem dX12_waitsActs_41 : decode cX12_waitsActs 41 = .ok (.invokevirtual 233, 3) := by decide +kernel
theorem dX12_waitsActs_44 : decode cX12_waitsActs 44 = .ok (.aload_n 0, 1) := by decide +kernel
theorem dX12_waitsActs_45 : decode cX12_waitsActs 45 = .ok (.getfield 230, 3) := by decide +kernel
theorem dX12_waitsActs_48 : decode cX12_waitsActs 48 = .ok (.iadd, 1) := by decide +kernel
theorem dX12_waitsActs_49 : decode cX12_waitsActs 49 = .ok (.ireturn, 1) := by decide +kernel
theorem dX12_waitsActs_50 : decode cX12_waitsActs 50 = .ok (.aload_n 0, 1) := by decide +kernel
theorem dX12_waitsActs_51 : decode cX12_waitsActs 51 = .ok (.iload_n 1, 1) := by decide +kernel
theorem dX12_waitsActs_52 : decode cX12_waitsActs 52 = .ok (.invokevirtual 233, 3) := by decide +kernel
theorem dX12_waitsActs_55 : decode cX12_waitsActs 55 = .ok (.ireturn, 1) := by decide +kernel
set_option maxRecDepth 100000 in
set_option maxHeartbeats 4000000 in
theorem s_waitsActs (l : Launch) (g : zG) (h : Hp) (m : Nat) (F : Nat → Int32) (A : Nat → Nat → Int32) (x : Int32) (n : Nat) (hn : n ≤ 95) (en : F 20 = nI n) : Sp l g yX12_waitsActs cX12_waitsActs 2 (some .int) (rmz 5) [.ref m, .int x] (hM g h m F A) (zI (ares g h m n F A (ac_waits (F 21) (F 22) (F 23) x))) := by
  refine Sp.of [some (.ref m), some (.int x)] (by decide) (Nat.le_of_ble_eq_true rfl) rfl rfl ?_
  rintro X rfl hr rfl B
  show AW X 0 0 0 _ _ _ _
  refine aw_aload_n B 0 rfl dX12_waitsActs_0 rfl ?_
  refine m_get B f_X12_218 dX12_waitsActs_1 rfl ?_
  refine aw_iconst B 2 (by decide) dX12_waitsActs_4 ?_
  refine aw_callS B 0 0 (s_isUnder _ _ _ _ _) co_X12_isUnder k_X12_221 dX12_waitsActs_5 rfl rfl (Nat.le_of_ble_eq_true rfl) (zrm hr (by decide)) (Nat.le_refl _) (Nat.le_refl _) (kI fun r5 h5 hp5 => ?_)
  obtain ⟨rfl, rfl⟩ := hp5
  refine aw_if_eq B 24 dX12_waitsActs_8 (fun c8 => ?_) (fun c8 => ?_)
  · refine aw_aload_n B 0 rfl dX12_waitsActs_24 rfl ?_
    refine m_get B f_X12_218 dX12_waitsActs_25 rfl ?_
    refine aw_bipush B 6 (by decide) dX12_waitsActs_28 ?_
    refine aw_icmp_ne B 50 dX12_waitsActs_30 (fun c30 => ?_) (fun c30 => ?_)
    · refine aw_aload_n B 0 rfl dX12_waitsActs_50 rfl ?_
      refine aw_iload_n B 1 rfl dX12_waitsActs_51 rfl ?_
      refine aw_callV B 0 0 (s_plainWaits _ _ _ _ _ _ _ (n) (by omega) (by first | exact en | rfl | (simp [upd_s, Nat.add_assoc]; done))) co_X12_plainWaits k_X12_233 dX12_waitsActs_52 hM_o rfl rfl rfl rfl (Nat.le_of_ble_eq_true rfl) (zrm hr (by decide)) (Nat.le_refl _) (Nat.le_refl _) (kI fun r52 h52 hp52 => ?_)
      obtain ⟨rfl, rfl⟩ := hp52
      try simp (disch := decide) only [upd_u, mup_m, mup_s, upd_s, upd_n]
      refine aw_iret B rfl rfl dX12_waitsActs_55 ?_
      exact ⟨_, rfl, by unfold ac_waits; rw [if_pos c8, if_neg c30]; (try simp (disch := decide) [upd_n]), by unfold ac_waits; rw [if_pos c8, if_neg c30]; (try simp (disch := decide) [upd_u, mup_m, mup_s, p_log, p_log_app, Nat.add_assoc, Nat.add_comm, Nat.add_left_comm])⟩
    · refine aw_aload_n B 0 rfl dX12_waitsActs_33 rfl ?_
      refine aw_bipush B 61 (by decide) dX12_waitsActs_34 ?_
      refine aw_callV B 0 0 (s_ranBody _ _ _ _ _ _ (n) _ (by omega) (by first | exact en | rfl | simp [upd])) co_X12_ranBody k_X12_212 dX12_waitsActs_36 hM_o rfl rfl rfl rfl (Nat.le_of_ble_eq_true rfl) (zrm hr (by decide)) (Nat.le_refl _) (Nat.le_refl _) (kV fun h36 hp36 => ?_)
      subst hp36
      refine aw_aload_n B 0 rfl dX12_waitsActs_39 rfl ?_
      refine aw_iload_n B 1 rfl dX12_waitsActs_40 rfl ?_
      refine aw_callV B 0 0 (s_plainWaits _ _ _ _ _ _ _ (n + 1) (by omega) (by first | exact en | rfl | (simp [upd_s, Nat.add_assoc]; done))) co_X12_plainWaits k_X12_233 dX12_waitsActs_41 hM_o rfl rfl rfl rfl (Nat.le_of_ble_eq_true rfl) (zrm hr (by decide)) (Nat.le_refl _) (Nat.le_refl _) (kI fun r41 h41 hp41 => ?_)
      obtain ⟨rfl, rfl⟩ := hp41
      try simp (disch := decide) only [upd_u, mup_m, mup_s, upd_s, upd_n]
      refine aw_aload_n B 0 rfl dX12_waitsActs_44 rfl ?_
      refine m_get B f_X12_230 dX12_waitsActs_45 rfl ?_
      refine aw_iadd B dX12_waitsActs_48 ?_
      refine aw_iret B rfl rfl dX12_waitsActs_49 ?_
      exact ⟨_, rfl, by unfold ac_waits; rw [if_pos c8, if_pos c30]; (try simp (disch := decide) [upd_n]), by unfold ac_waits; rw [if_pos c8, if_pos c30]; (try simp (disch := decide) [upd_u, mup_m, mup_s, p_log, p_log_app, Nat.add_assoc, Nat.add_comm, Nat.add_left_comm])⟩
  · refine aw_aload_n B 0 rfl dX12_waitsActs_11 rfl ?_
    refine aw_bipush B 21 (by decide) dX12_waitsActs_12 ?_
    refine aw_callV B 0 0 (s_ranBody _ _ _ _ _ _ (n) _ (by omega) (by first | exact en | rfl | simp [upd])) co_X12_ranBody k_X12_212 dX12_waitsActs_14 hM_o rfl rfl rfl rfl (Nat.le_of_ble_eq_true rfl) (zrm hr (by decide)) (Nat.le_refl _) (Nat.le_refl _) (kV fun h14 hp14 => ?_)
    subst hp14
    refine aw_aload_n B 0 rfl dX12_waitsActs_17 rfl ?_
    refine aw_iload_n B 1 rfl dX12_waitsActs_18 rfl ?_
    refine aw_callV B 0 0 (s_plainWaits _ _ _ _ _ _ _ (n + 1) (by omega) (by first | exact en | rfl | (simp [upd_s, Nat.add_assoc]; done))) co_X12_plainWaits k_X12_233 dX12_waitsActs_19 hM_o rfl rfl rfl rfl (Nat.le_of_ble_eq_true rfl) (zrm hr (by decide)) (Nat.le_refl _) (Nat.le_refl _) (kI fun r19 h19 hp19 => ?_)
    obtain ⟨rfl, rfl⟩ := hp19
    try simp (disch := decide) only [upd_u, mup_m, mup_s, upd_s, upd_n]
    refine aw_ineg B dX12_waitsActs_22 ?_
    refine aw_iret B rfl rfl dX12_waitsActs_23 ?_
    exact ⟨_, rfl, by unfold ac_waits; rw [if_neg c8]; (try simp (disch := decide) [upd_n]), by unfold ac_waits; rw [if_neg c8]; (try simp (disch := decide) [upd_u, mup_m, mup_s, p_log, p_log_app, Nat.add_assoc, Nat.add_comm, Nat.add_left_comm])⟩
theorem dX12_plainTells_0 : decode cX12_plainTells 0 = .ok (.aload_n 0, 1) := by decide +kernel
theorem dX12_plainTells_1 : decode cX12_plainTells 1 = .ok (.iconst 3, 1) := by decide +kernel
theorem dX12_plainTells_2 : decode cX12_plainTells 2 = .ok (.invokevirtual 212, 3) := by decide +kernel
theorem dX12_plainTells_5 : decode cX12_plainTells 5 = .ok (.aload_n 0, 1) := by decide +kernel
theorem dX12_plainTells_6 : decode cX12_plainTells 6 = .ok (.iload_n 1, 1) := by decide +kernel
theorem dX12_plainTells_7 : decode cX12_plainTells 7 = .ok (.invokevirtual 236, 3) := by decide +kernel
theorem dX12_plainTells_10 : decode cX12_plainTells 10 = .ok (.iconst 2, 1) := by decide +kernel
theorem dX12_plainTells_11 : decode cX12_plainTells 11 = .ok (.imul, 1) := by decide +kernel
theorem dX12_plainTells_12 : decode cX12_plainTells 12 = .ok (.ireturn, 1) := by decide +kernel
set_option maxRecDepth 100000 in
set_option maxHeartbeats 4000000 in
theorem s_plainTells (l : Launch) (g : zG) (h : Hp) (m : Nat) (F : Nat → Int32) (A : Nat → Nat → Int32) (x : Int32) (n : Nat) (hn : n ≤ 94) (en : F 20 = nI n) : Sp l g yX12_plainTells cX12_plainTells 2 (some .int) (rmz 6) [.ref m, .int x] (hM g h m F A) (zI (ares g h m n F A (ac_tellsP (F 21) (F 22) (F 23) x))) := by
  refine Sp.of [some (.ref m), some (.int x)] (by decide) (Nat.le_of_ble_eq_true rfl) rfl rfl ?_
  rintro X rfl hr rfl B
  show AW X 0 0 0 _ _ _ _
  refine aw_aload_n B 0 rfl dX12_plainTells_0 rfl ?_
  refine aw_iconst B 3 (by decide) dX12_plainTells_1 ?_
  refine aw_callV B 0 0 (s_ranBody _ _ _ _ _ _ (n) _ (by omega) (by first | exact en | rfl | simp [upd])) co_X12_ranBody k_X12_212 dX12_plainTells_2 hM_o rfl rfl rfl rfl (Nat.le_of_ble_eq_true rfl) (zrm hr (by decide)) (Nat.le_refl _) (Nat.le_refl _) (kV fun h2 hp2 => ?_)
  subst hp2
  refine aw_aload_n B 0 rfl dX12_plainTells_5 rfl ?_
  refine aw_iload_n B 1 rfl dX12_plainTells_6 rfl ?_
  refine aw_callV B 0 0 (s_waitsActs _ _ _ _ _ _ _ (n + 1) (by omega) (by first | exact en | rfl | (simp [upd_s, Nat.add_assoc]; done))) co_X12_waitsActs k_X12_236 dX12_plainTells_7 hM_o rfl rfl rfl rfl (Nat.le_of_ble_eq_true rfl) (zrm hr (by decide)) (Nat.le_refl _) (Nat.le_refl _) (kI fun r7 h7 hp7 => ?_)
  obtain ⟨rfl, rfl⟩ := hp7
  try simp (disch := decide) only [upd_u, mup_m, mup_s, upd_s, upd_n]
  refine aw_iconst B 2 (by decide) dX12_plainTells_10 ?_
  refine aw_imul B dX12_plainTells_11 ?_
  refine aw_iret B rfl rfl dX12_plainTells_12 ?_
  exact ⟨_, rfl, by unfold ac_tellsP; (try simp (disch := decide) [upd_n]), by unfold ac_tellsP; (try simp (disch := decide) [upd_u, mup_m, mup_s, p_log, p_log_app, Nat.add_assoc, Nat.add_comm, Nat.add_left_comm])⟩
theorem dX12_tellsActs_0 : decode cX12_tellsActs 0 = .ok (.aload_n 0, 1) := by decide +kernel
theorem dX12_tellsActs_1 : decode cX12_tellsActs 1 = .ok (.getfield 218, 3) := by decide +kernel
theorem dX12_tellsActs_4 : decode cX12_tellsActs 4 = .ok (.iconst 3, 1) := by decide +kernel
theorem dX12_tellsActs_5 : decode cX12_tellsActs 5 = .ok (.invokestatic 221, 3) := by decide +kernel
theorem dX12_tellsActs_8 : decode cX12_tellsActs 8 = .ok (.ifCond .eq 18, 3) := by decide +kernel
theorem dX12_tellsActs_11 : decode cX12_tellsActs 11 = .ok (.aload_n 0, 1) := by decide +kernel
theorem dX12_tellsActs_12 : decode cX12_tellsActs 12 = .ok (.bipush 31, 2) := by decide +kernel
theorem dX12_tellsActs_14 : decode cX12_tellsActs 14 = .ok (.invokevirtual 212, 3) := by decide +kernel
theorem dX12_tellsActs_17 : decode cX12_tellsActs 17 = .ok (.aload_n 0, 1) := by decide +kernel
theorem dX12_tellsActs_18 : decode cX12_tellsActs 18 = .ok (.iload_n 1, 1) := by decide +kernel
theorem dX12_tellsActs_19 : decode cX12_tellsActs 19 = .ok (.invokevirtual 239, 3) := by decide +kernel
theorem dX12_tellsActs_22 : decode cX12_tellsActs 22 = .ok (.bipush 7, 2) := by decide +kernel
theorem dX12_tellsActs_24 : decode cX12_tellsActs 24 = .ok (.ixor, 1) := by decide +kernel
theorem dX12_tellsActs_25 : decode cX12_tellsActs 25 = .ok (.ireturn, 1) := by decide +kernel
theorem dX12_tellsActs_26 : decode cX12_tellsActs 26 = .ok (.aload_n 0, 1) := by decide +kernel
theorem dX12_tellsActs_27 : decode cX12_tellsActs 27 = .ok (.getfield 218, 3) := by decide +kernel
theorem dX12_tellsActs_30 : decode cX12_tellsActs 30 = .ok (.iconst 4, 1) := by decide +kernel
theorem dX12_tellsActs_31 : decode cX12_tellsActs 31 = .ok (.if_icmp .ne 25, 3) := by decide +kernel
theorem dX12_tellsActs_34 : decode cX12_tellsActs 34 = .ok (.aload_n 0, 1) := by decide +kernel
theorem dX12_tellsActs_35 : decode cX12_tellsActs 35 = .ok (.bipush 41, 2) := by decide +kernel
theorem dX12_tellsActs_37 : decode cX12_tellsActs 37 = .ok (.invokevirtual 212, 3) := by decide +kernel
theorem dX12_tellsActs_40 : decode cX12_tellsActs 40 = .ok (.aload_n 0, 1) := by decide +kernel
theorem dX12_tellsActs_41 : decode cX12_tellsActs 41 = .ok (.iload_n 1, 1) := by decide +kernel
theorem dX12_tellsActs_42 : decode cX12_tellsActs 42 = .ok (.iconst 1, 1) := by decide +kernel
theorem dX12_tellsActs_43 : decode cX12_tellsActs 43 = .ok (.isub, 1) := by decide +kernel
theorem dX12_tellsActs_44 : decode cX12_tellsActs 44 = .ok (.invokevirtual 239, 3) := by decide +kernel
theorem dX12_tellsActs_47 : decode cX12_tellsActs 47 = .ok (.istore_n 2, 1) := by decide +kernel
theorem dX12_tellsActs_48 : decode cX12_tellsActs 48 = .ok (.iload_n 2, 1) := by decide +kernel
theorem dX12_tellsActs_49 : decode cX12_tellsActs 49 = .ok (.aload_n 0, 1) := by decide +kernel
theorem dX12_tellsActs_50 : decode cX12_tellsActs 50 = .ok (.iconst 2, 1) := by decide +kernel
theorem dX12_tellsActs_51 : decode cX12_tellsActs 51 = .ok (.invokevirtual 227, 3) := by decide +kernel
theorem dX12_tellsActs_54 : decode cX12_tellsActs 54 = .ok (.iadd, 1) := by decide +kernel
theorem dX12_tellsActs_55 : decode cX12_tellsActs 55 = .ok (.ireturn, 1) := by decide +kernel
theorem dX12_tellsActs_56 : decode cX12_tellsActs 56 = .ok (.aload_n 0, 1) := by decide +kernel
theorem dX12_tellsActs_57 : decode cX12_tellsActs 57 = .ok (.iload_n 1, 1) := by decide +kernel
theorem dX12_tellsActs_58 : decode cX12_tellsActs 58 = .ok (.invokevirtual 239, 3) := by decide +kernel
theorem dX12_tellsActs_61 : decode cX12_tellsActs 61 = .ok (.ireturn, 1) := by decide +kernel
set_option maxRecDepth 100000 in
set_option maxHeartbeats 4000000 in
theorem s_tellsActs (l : Launch) (g : zG) (h : Hp) (m : Nat) (F : Nat → Int32) (A : Nat → Nat → Int32) (x : Int32) (n : Nat) (hn : n ≤ 80) (en : F 20 = nI n) : Sp l g yX12_tellsActs cX12_tellsActs 3 (some .int) (rmz 7) [.ref m, .int x] (hM g h m F A) (zI (ares g h m n F A (ac_tells (F 21) (F 22) (F 23) x))) := by
  refine Sp.of [some (.ref m), some (.int x), none] (by decide) (Nat.le_of_ble_eq_true rfl) rfl rfl ?_
  rintro X rfl hr rfl B
  show AW X 0 0 0 _ _ _ _
  refine aw_aload_n B 0 rfl dX12_tellsActs_0 rfl ?_
  refine m_get B f_X12_218 dX12_tellsActs_1 rfl ?_
  refine aw_iconst B 3 (by decide) dX12_tellsActs_4 ?_
  refine aw_callS B 0 0 (s_isUnder _ _ _ _ _) co_X12_isUnder k_X12_221 dX12_tellsActs_5 rfl rfl (Nat.le_of_ble_eq_true rfl) (zrm hr (by decide)) (Nat.le_refl _) (Nat.le_refl _) (kI fun r5 h5 hp5 => ?_)
  obtain ⟨rfl, rfl⟩ := hp5
  refine aw_if_eq B 26 dX12_tellsActs_8 (fun c8 => ?_) (fun c8 => ?_)
  · refine aw_aload_n B 0 rfl dX12_tellsActs_26 rfl ?_
    refine m_get B f_X12_218 dX12_tellsActs_27 rfl ?_
    refine aw_iconst B 4 (by decide) dX12_tellsActs_30 ?_
    refine aw_icmp_ne B 56 dX12_tellsActs_31 (fun c31 => ?_) (fun c31 => ?_)
    · refine aw_aload_n B 0 rfl dX12_tellsActs_56 rfl ?_
      refine aw_iload_n B 1 rfl dX12_tellsActs_57 rfl ?_
      refine aw_callV B 0 0 (s_plainTells _ _ _ _ _ _ _ (n) (by omega) (by first | exact en | rfl | (simp [upd_s, Nat.add_assoc]; done))) co_X12_plainTells k_X12_239 dX12_tellsActs_58 hM_o rfl rfl rfl rfl (Nat.le_of_ble_eq_true rfl) (zrm hr (by decide)) (Nat.le_refl _) (Nat.le_refl _) (kI fun r58 h58 hp58 => ?_)
      obtain ⟨rfl, rfl⟩ := hp58
      try simp (disch := decide) only [upd_u, mup_m, mup_s, upd_s, upd_n]
      refine aw_iret B rfl rfl dX12_tellsActs_61 ?_
      exact ⟨_, rfl, by unfold ac_tells; rw [if_pos c8, if_neg c31]; (try simp (disch := decide) [upd_n]), by unfold ac_tells; rw [if_pos c8, if_neg c31]; (try simp (disch := decide) [upd_u, mup_m, mup_s, p_log, p_log_app, Nat.add_assoc, Nat.add_comm, Nat.add_left_comm])⟩
    · refine aw_aload_n B 0 rfl dX12_tellsActs_34 rfl ?_
      refine aw_bipush B 41 (by decide) dX12_tellsActs_35 ?_
      refine aw_callV B 0 0 (s_ranBody _ _ _ _ _ _ (n) _ (by omega) (by first | exact en | rfl | simp [upd])) co_X12_ranBody k_X12_212 dX12_tellsActs_37 hM_o rfl rfl rfl rfl (Nat.le_of_ble_eq_true rfl) (zrm hr (by decide)) (Nat.le_refl _) (Nat.le_refl _) (kV fun h37 hp37 => ?_)
      subst hp37
      refine aw_aload_n B 0 rfl dX12_tellsActs_40 rfl ?_
      refine aw_iload_n B 1 rfl dX12_tellsActs_41 rfl ?_
      refine aw_iconst B 1 (by decide) dX12_tellsActs_42 ?_
      refine aw_isub B dX12_tellsActs_43 ?_
      refine aw_callV B 0 0 (s_plainTells _ _ _ _ _ _ _ (n + 1) (by omega) (by first | exact en | rfl | (simp [upd_s, Nat.add_assoc]; done))) co_X12_plainTells k_X12_239 dX12_tellsActs_44 hM_o rfl rfl rfl rfl (Nat.le_of_ble_eq_true rfl) (zrm hr (by decide)) (Nat.le_refl _) (Nat.le_refl _) (kI fun r44 h44 hp44 => ?_)
      obtain ⟨rfl, rfl⟩ := hp44
      try simp (disch := decide) only [upd_u, mup_m, mup_s, upd_s, upd_n]
      refine aw_istore2 B dX12_tellsActs_47 ?_
      refine aw_iload_n B 2 rfl dX12_tellsActs_48 rfl ?_
      refine aw_aload_n B 0 rfl dX12_tellsActs_49 rfl ?_
      refine aw_iconst B 2 (by decide) dX12_tellsActs_50 ?_
      refine aw_callV B 0 0 (s_readsActs _ _ _ _ _ _ _ (n + 1 + (ac_tellsP (F 21) (F 22) (F 23) (x - 1)).2.length) (by have := len_tellsP (F 21) (F 22) (F 23) (x - 1); omega) (by first | exact en | rfl | (simp [upd_s, Nat.add_assoc]; done))) co_X12_readsActs k_X12_227 dX12_tellsActs_51 hM_o rfl rfl rfl rfl (Nat.le_of_ble_eq_true rfl) (zrm hr (by decide)) (Nat.le_refl _) (Nat.le_refl _) (kI fun r51 h51 hp51 => ?_)
      obtain ⟨rfl, rfl⟩ := hp51
      try simp (disch := decide) only [upd_u, mup_m, mup_s, upd_s, upd_n]
      refine aw_iadd B dX12_tellsActs_54 ?_
      refine aw_iret B rfl rfl dX12_tellsActs_55 ?_
      exact ⟨_, rfl, by unfold ac_tells; rw [if_pos c8, if_pos c31]; (try simp (disch := decide) [upd_n]), by unfold ac_tells; rw [if_pos c8, if_pos c31]; (try simp (disch := decide) [upd_u, mup_m, mup_s, p_log, p_log_app, Nat.add_assoc, Nat.add_comm, Nat.add_left_comm])⟩
  · refine aw_aload_n B 0 rfl dX12_tellsActs_11 rfl ?_
    refine aw_bipush B 31 (by decide) dX12_tellsActs_12 ?_
    refine aw_callV B 0 0 (s_ranBody _ _ _ _ _ _ (n) _ (by omega) (by first | exact en | rfl | simp [upd])) co_X12_ranBody k_X12_212 dX12_tellsActs_14 hM_o rfl rfl rfl rfl (Nat.le_of_ble_eq_true rfl) (zrm hr (by decide)) (Nat.le_refl _) (Nat.le_refl _) (kV fun h14 hp14 => ?_)
    subst hp14
    refine aw_aload_n B 0 rfl dX12_tellsActs_17 rfl ?_
    refine aw_iload_n B 1 rfl dX12_tellsActs_18 rfl ?_
    refine aw_callV B 0 0 (s_plainTells _ _ _ _ _ _ _ (n + 1) (by omega) (by first | exact en | rfl | (simp [upd_s, Nat.add_assoc]; done))) co_X12_plainTells k_X12_239 dX12_tellsActs_19 hM_o rfl rfl rfl rfl (Nat.le_of_ble_eq_true rfl) (zrm hr (by decide)) (Nat.le_refl _) (Nat.le_refl _) (kI fun r19 h19 hp19 => ?_)
    obtain ⟨rfl, rfl⟩ := hp19
    try simp (disch := decide) only [upd_u, mup_m, mup_s, upd_s, upd_n]
    refine aw_bipush B 7 (by decide) dX12_tellsActs_22 ?_
    refine aw_ixor B dX12_tellsActs_24 ?_
    refine aw_iret B rfl rfl dX12_tellsActs_25 ?_
    exact ⟨_, rfl, by unfold ac_tells; rw [if_neg c8]; (try simp (disch := decide) [upd_n]), by unfold ac_tells; rw [if_neg c8]; (try simp (disch := decide) [upd_u, mup_m, mup_s, p_log, p_log_app, Nat.add_assoc, Nat.add_comm, Nat.add_left_comm])⟩
def q_act (S : Nat → Int32) (a b x : Int32) : Int32 × List Int32 := if bI (0 ≤ a ∧ a ≤ S 1 - 1) = 0 then (0, []) else if bI (0 ≤ b ∧ b ≤ 2) = 0 then (0, []) else if b = 0 then ac_reads (S (22 + a.toNatClampNeg)) a x else if b = 1 then ac_waits (S (22 + a.toNatClampNeg)) a (S (26 + a.toNatClampNeg)) x else ac_tells (S (22 + a.toNatClampNeg)) a (S (26 + a.toNatClampNeg)) x
def mact (g : zG) (h : Hp) (m : Nat) (F : Nat → Int32) (A : Nat → Nat → Int32) (q : Int32 × List Int32) : Int32 → Hp → Prop := fun r h' => r = q.1 ∧ ∃ F', F' 3 = F 3 ∧ F' 20 = nI q.2.length ∧ h' = hM g h m F' (mup A 9 (p_log 0 (A 9) q.2))
theorem dX12_act_0 : decode cX12_act 0 = .ok (.aload_n 0, 1) := by decide +kernel
theorem dX12_act_1 : decode cX12_act 1 = .ok (.iconst 0, 1) := by decide +kernel
theorem dX12_act_2 : decode cX12_act 2 = .ok (.putfield 209, 3) := by decide +kernel
theorem dX12_act_5 : decode cX12_act 5 = .ok (.aload_n 0, 1) := by decide +kernel
theorem dX12_act_6 : decode cX12_act 6 = .ok (.iload_n 1, 1) := by decide +kernel
theorem dX12_act_7 : decode cX12_act 7 = .ok (.invokevirtual 144, 3) := by decide +kernel
theorem dX12_act_10 : decode cX12_act 10 = .ok (.ifCond .eq 12, 3) := by decide +kernel
theorem dX12_act_13 : decode cX12_act 13 = .ok (.iload_n 2, 1) := by decide +kernel
theorem dX12_act_14 : decode cX12_act 14 = .ok (.iconst 0, 1) := by decide +kernel
theorem dX12_act_15 : decode cX12_act 15 = .ok (.iconst 2, 1) := by decide +kernel
theorem dX12_act_16 : decode cX12_act 16 = .ok (.invokestatic 44, 3) := by decide +kernel
theorem dX12_act_19 : decode cX12_act 19 = .ok (.ifCond .ne 5, 3) := by decide +kernel
theorem dX12_act_22 : decode cX12_act 22 = .ok (.iconst 0, 1) := by decide +kernel
theorem dX12_act_23 : decode cX12_act 23 = .ok (.ireturn, 1) := by decide +kernel
theorem dX12_act_24 : decode cX12_act 24 = .ok (.aload_n 0, 1) := by decide +kernel
theorem dX12_act_25 : decode cX12_act 25 = .ok (.aload_n 0, 1) := by decide +kernel
theorem dX12_act_26 : decode cX12_act 26 = .ok (.getfield 9, 3) := by decide +kernel
theorem dX12_act_29 : decode cX12_act 29 = .ok (.bipush 22, 2) := by decide +kernel
theorem dX12_act_31 : decode cX12_act 31 = .ok (.iload_n 1, 1) := by decide +kernel
theorem dX12_act_32 : decode cX12_act 32 = .ok (.iadd, 1) := by decide +kernel
theorem dX12_act_33 : decode cX12_act 33 = .ok (.iaload, 1) := by decide +kernel
theorem dX12_act_34 : decode cX12_act 34 = .ok (.putfield 218, 3) := by decide +kernel
theorem dX12_act_37 : decode cX12_act 37 = .ok (.aload_n 0, 1) := by decide +kernel
theorem dX12_act_38 : decode cX12_act 38 = .ok (.iload_n 1, 1) := by decide +kernel
theorem dX12_act_39 : decode cX12_act 39 = .ok (.putfield 215, 3) := by decide +kernel
theorem dX12_act_42 : decode cX12_act 42 = .ok (.aload_n 0, 1) := by decide +kernel
theorem dX12_act_43 : decode cX12_act 43 = .ok (.aload_n 0, 1) := by decide +kernel
theorem dX12_act_44 : decode cX12_act 44 = .ok (.getfield 9, 3) := by decide +kernel
theorem dX12_act_47 : decode cX12_act 47 = .ok (.bipush 26, 2) := by decide +kernel
theorem dX12_act_49 : decode cX12_act 49 = .ok (.iload_n 1, 1) := by decide +kernel
theorem dX12_act_50 : decode cX12_act 50 = .ok (.iadd, 1) := by decide +kernel
theorem dX12_act_51 : decode cX12_act 51 = .ok (.iaload, 1) := by decide +kernel
theorem dX12_act_52 : decode cX12_act 52 = .ok (.putfield 230, 3) := by decide +kernel
theorem dX12_act_55 : decode cX12_act 55 = .ok (.iload_n 2, 1) := by decide +kernel
theorem dX12_act_56 : decode cX12_act 56 = .ok (.ifCond .ne 11, 3) := by decide +kernel
theorem dX12_act_59 : decode cX12_act 59 = .ok (.aload_n 0, 1) := by decide +kernel
theorem dX12_act_60 : decode cX12_act 60 = .ok (.iload_n 3, 1) := by decide +kernel
theorem dX12_act_61 : decode cX12_act 61 = .ok (.invokevirtual 227, 3) := by decide +kernel
theorem dX12_act_64 : decode cX12_act 64 = .ok (.goto 21, 3) := by decide +kernel
theorem dX12_act_67 : decode cX12_act 67 = .ok (.iload_n 2, 1) := by decide +kernel
theorem dX12_act_68 : decode cX12_act 68 = .ok (.iconst 1, 1) := by decide +kernel
theorem dX12_act_69 : decode cX12_act 69 = .ok (.if_icmp .ne 11, 3) := by decide +kernel
theorem dX12_act_72 : decode cX12_act 72 = .ok (.aload_n 0, 1) := by decide +kernel
theorem dX12_act_73 : decode cX12_act 73 = .ok (.iload_n 3, 1) := by decide +kernel
theorem dX12_act_74 : decode cX12_act 74 = .ok (.invokevirtual 236, 3) := by decide +kernel
theorem dX12_act_77 : decode cX12_act 77 = .ok (.goto 8, 3) := by decide +kernel
theorem dX12_act_80 : decode cX12_act 80 = .ok (.aload_n 0, 1) := by decide +kernel
theorem dX12_act_81 : decode cX12_act 81 = .ok (.iload_n 3, 1) := by decide +kernel
theorem dX12_act_82 : decode cX12_act 82 = .ok (.invokevirtual 242, 3) := by decide +kernel
theorem dX12_act_85 : decode cX12_act 85 = .ok (.ireturn, 1) := by decide +kernel
set_option maxRecDepth 100000 in
set_option maxHeartbeats 4000000 in
theorem s_act (l : Launch) (g : zG) (h : Hp) (m : Nat) (F : Nat → Int32) (A : Nat → Nat → Int32) (a b x : Int32) (ht : rng (A 1 1) 0 4) : Sp l g yX12_act cX12_act 4 (some .int) (rmz 8) [.ref m, .int a, .int b, .int x] (hM g h m F A) (zI (mact g h m F A (q_act (A 1) a b x))) := by
  refine Sp.of [some (.ref m), some (.int a), some (.int b), some (.int x)] (by decide) (Nat.le_of_ble_eq_true rfl) rfl rfl ?_
  rintro X rfl hr rfl B
  show AW X 0 0 0 _ _ _ _
  obtain ⟨t, -, ht, et⟩ := ht
  refine aw_aload_n B 0 rfl dX12_act_0 rfl ?_
  refine aw_iconst B 0 (by decide) dX12_act_1 ?_
  refine m_put B f_X12_209 dX12_act_2 rfl (by decide) ?_
  refine aw_aload_n B 0 rfl dX12_act_5 rfl ?_
  refine aw_iload_n B 1 rfl dX12_act_6 rfl ?_
  refine aw_callV B 0 0 (s_isReader _ _ _ _ _ _ _) co_X12_isReader k_X12_144 dX12_act_7 hM_o rfl rfl rfl rfl (Nat.le_of_ble_eq_true rfl) (zrm hr (by decide)) (Nat.le_refl _) (Nat.le_refl _) (kI fun r7 h7 hp7 => ?_)
  obtain ⟨rfl, rfl⟩ := hp7
  refine aw_if_eq B 22 dX12_act_10 (fun c10 => ?_) (fun c10 => ?_)
  · refine aw_iconst B 0 (by decide) dX12_act_22 ?_
    refine aw_iret B rfl rfl dX12_act_23 ?_
    refine ⟨_, rfl, ?_⟩
    unfold q_act
    rw [if_pos c10]
    exact ⟨rfl, upd F 20 0, rfl, rfl, by rw [show p_log 0 (A 9) [] = A 9 from rfl, mup_i]⟩
  · refine aw_iload_n B 2 rfl dX12_act_13 rfl ?_
    refine aw_iconst B 0 (by decide) dX12_act_14 ?_
    refine aw_iconst B 2 (by decide) dX12_act_15 ?_
    refine aw_callS B 0 0 (s_in _ _ _ _ _ _) co_X12_in k_X12_44 dX12_act_16 rfl rfl (Nat.le_of_ble_eq_true rfl) (zrm hr (by decide)) (Nat.le_refl _) (Nat.le_refl _) (kI fun r16 h16 hp16 => ?_)
    obtain ⟨rfl, rfl⟩ := hp16
    refine aw_if_ne B 24 dX12_act_19 (fun c19 => ?_) (fun c19 => ?_)
    · obtain ⟨k, hk, rfl⟩ := in_cnt (of_bI c10) (by omega) et
      have ek : (nI k).toNatClampNeg = k := nI_clamp (by omega)
      refine aw_aload_n B 0 rfl dX12_act_24 rfl ?_
      refine aw_aload_n B 0 rfl dX12_act_25 rfl ?_
      refine m_get B f_X12_9 dX12_act_26 rfl ?_
      refine aw_bipush B 22 (by decide) dX12_act_29 ?_
      refine aw_iload_n B 1 rfl dX12_act_31 rfl ?_
      refine aw_iadd B dX12_act_32 ?_
      refine m_ld B (22 + k) (ix_c 22 rfl) (by show _ < 899; omega) dX12_act_33 (by decide) ?_
      refine m_put B f_X12_218 dX12_act_34 rfl (by decide) ?_
      refine aw_aload_n B 0 rfl dX12_act_37 rfl ?_
      refine aw_iload_n B 1 rfl dX12_act_38 rfl ?_
      refine m_put B f_X12_215 dX12_act_39 rfl (by decide) ?_
      refine aw_aload_n B 0 rfl dX12_act_42 rfl ?_
      refine aw_aload_n B 0 rfl dX12_act_43 rfl ?_
      refine m_get B f_X12_9 dX12_act_44 rfl ?_
      refine aw_bipush B 26 (by decide) dX12_act_47 ?_
      refine aw_iload_n B 1 rfl dX12_act_49 rfl ?_
      refine aw_iadd B dX12_act_50 ?_
      refine m_ld B (26 + k) (ix_c 26 rfl) (by show _ < 899; omega) dX12_act_51 (by decide) ?_
      refine m_put B f_X12_230 dX12_act_52 rfl (by decide) ?_
      refine aw_iload_n B 2 rfl dX12_act_55 rfl ?_
      refine aw_if_ne B 67 dX12_act_56 (fun c56 => ?_) (fun c56 => ?_)
      · refine aw_iload_n B 2 rfl dX12_act_67 rfl ?_
        refine aw_iconst B 1 (by decide) dX12_act_68 ?_
        refine aw_icmp_ne B 80 dX12_act_69 (fun c69 => ?_) (fun c69 => ?_)
        · refine aw_aload_n B 0 rfl dX12_act_80 rfl ?_
          refine aw_iload_n B 3 rfl dX12_act_81 rfl ?_
          refine aw_callV B 0 0 (s_tellsActs _ _ _ _ _ _ _ 0 (by omega) (by simp [upd]; rfl)) co_X12_tellsActs k_X12_242 dX12_act_82 hM_o rfl rfl rfl rfl (Nat.le_of_ble_eq_true rfl) (zrm hr (by decide)) (Nat.le_refl _) (Nat.le_refl _) (kI fun r82 h82 hp82 => ?_)
          obtain ⟨rfl, rfl⟩ := hp82
          refine aw_iret B rfl rfl dX12_act_85 ?_
          refine ⟨_, rfl, ?_⟩
          unfold q_act
          rw [if_neg c10, if_neg c19, if_neg c56, if_neg c69, ek]
          exact ⟨rfl, upd (upd (upd (upd (upd F 20 0) 21 (A 1 (22 + k))) 22 (nI k)) 23 (A 1 (26 + k))) 20 (nI (0 + (ac_tells (A 1 (22 + k)) (nI k) (A 1 (26 + k)) x).2.length)), rfl, by rw [upd_s, Nat.zero_add], rfl⟩
        · refine aw_aload_n B 0 rfl dX12_act_72 rfl ?_
          refine aw_iload_n B 3 rfl dX12_act_73 rfl ?_
          refine aw_callV B 0 0 (s_waitsActs _ _ _ _ _ _ _ 0 (by omega) (by simp [upd]; rfl)) co_X12_waitsActs k_X12_236 dX12_act_74 hM_o rfl rfl rfl rfl (Nat.le_of_ble_eq_true rfl) (zrm hr (by decide)) (Nat.le_refl _) (Nat.le_refl _) (kI fun r74 h74 hp74 => ?_)
          obtain ⟨rfl, rfl⟩ := hp74
          refine aw_goto B 85 dX12_act_77 ?_
          refine aw_iret B rfl rfl dX12_act_85 ?_
          refine ⟨_, rfl, ?_⟩
          unfold q_act
          rw [if_neg c10, if_neg c19, if_neg c56, if_pos c69, ek]
          exact ⟨rfl, upd (upd (upd (upd (upd F 20 0) 21 (A 1 (22 + k))) 22 (nI k)) 23 (A 1 (26 + k))) 20 (nI (0 + (ac_waits (A 1 (22 + k)) (nI k) (A 1 (26 + k)) x).2.length)), rfl, by rw [upd_s, Nat.zero_add], rfl⟩
      · refine aw_aload_n B 0 rfl dX12_act_59 rfl ?_
        refine aw_iload_n B 3 rfl dX12_act_60 rfl ?_
        refine aw_callV B 0 0 (s_readsActs _ _ _ _ _ _ _ 0 (by omega) (by simp [upd]; rfl)) co_X12_readsActs k_X12_227 dX12_act_61 hM_o rfl rfl rfl rfl (Nat.le_of_ble_eq_true rfl) (zrm hr (by decide)) (Nat.le_refl _) (Nat.le_refl _) (kI fun r61 h61 hp61 => ?_)
        obtain ⟨rfl, rfl⟩ := hp61
        refine aw_goto B 85 dX12_act_64 ?_
        refine aw_iret B rfl rfl dX12_act_85 ?_
        refine ⟨_, rfl, ?_⟩
        unfold q_act
        rw [if_neg c10, if_neg c19, if_pos c56, ek]
        exact ⟨rfl, upd (upd (upd (upd (upd F 20 0) 21 (A 1 (22 + k))) 22 (nI k)) 23 (A 1 (26 + k))) 20 (nI (0 + (ac_reads (A 1 (22 + k)) (nI k) x).2.length)), rfl, by rw [upd_s, Nat.zero_add], rfl⟩
    · refine aw_iconst B 0 (by decide) dX12_act_22 ?_
      refine aw_iret B rfl rfl dX12_act_23 ?_
      refine ⟨_, rfl, ?_⟩
      unfold q_act
      rw [if_neg c10, if_pos c19]
      exact ⟨rfl, upd F 20 0, rfl, rfl, by rw [show p_log 0 (A 9) [] = A 9 from rfl, mup_i]⟩
