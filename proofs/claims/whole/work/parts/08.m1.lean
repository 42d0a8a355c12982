def bI (p : Prop) [Decidable p] : Int32 := if p then 1 else 0
theorem bI0 {p : Prop} [Decidable p] : bI p = 0 ↔ ¬ p := by unfold bI; by_cases h : p <;> simp [h]
theorem bI01 {p : Prop} [Decidable p] : bI p = 0 ∨ bI p = 1 := by unfold bI; by_cases h : p <;> simp [h]
theorem bIn {p : Prop} [Decidable p] : narrow .boolean (.int (bI p)) = .int (bI p) := by unfold bI; by_cases h : p <;> simp [h] <;> rfl
theorem dX12_in_0 : decode cX12_in 0 = .ok (.iload_n 0, 1) := by decide +kernel
theorem dX12_in_1 : decode cX12_in 1 = .ok (.iload_n 1, 1) := by decide +kernel
theorem dX12_in_2 : decode cX12_in 2 = .ok (.if_icmp .lt 12, 3) := by decide +kernel
theorem dX12_in_5 : decode cX12_in 5 = .ok (.iload_n 0, 1) := by decide +kernel
theorem dX12_in_6 : decode cX12_in 6 = .ok (.iload_n 2, 1) := by decide +kernel
theorem dX12_in_7 : decode cX12_in 7 = .ok (.if_icmp .gt 7, 3) := by decide +kernel
theorem dX12_in_10 : decode cX12_in 10 = .ok (.iconst 1, 1) := by decide +kernel
theorem dX12_in_11 : decode cX12_in 11 = .ok (.goto 4, 3) := by decide +kernel
theorem dX12_in_14 : decode cX12_in 14 = .ok (.iconst 0, 1) := by decide +kernel
theorem dX12_in_15 : decode cX12_in 15 = .ok (.ireturn, 1) := by decide +kernel
set_option maxRecDepth 100000 in
set_option maxHeartbeats 4000000 in
theorem s_in (l : Launch) (g : zG) (h : Hp) (v lo hi : Int32) : Sp l g yX12_in cX12_in 3 (some .boolean) (rmz 1) [.int v, .int lo, .int hi] (h) (zI fun r h' => r = bI (lo ≤ v ∧ v ≤ hi) ∧ h' = h) := by
  refine Sp.of [some (.int v), some (.int lo), some (.int hi)] (by decide) (Nat.le_of_ble_eq_true rfl) rfl rfl ?_
  rintro X rfl hr rfl B
  show AW X 0 0 0 _ _ _ _
  refine aw_iload_n B 0 rfl dX12_in_0 rfl ?_
  refine aw_iload_n B 1 rfl dX12_in_1 rfl ?_
  refine aw_icmp_lt B 14 dX12_in_2 (fun c2 => ?_) (fun c2 => ?_)
  · refine aw_iconst B 0 (by decide) dX12_in_14 ?_
    refine aw_iret B rfl rfl dX12_in_15 ?_
    exact ⟨_, rfl, by unfold bI; simp only [Int32.lt_iff_toInt_lt, Int32.le_iff_toInt_le] at *; split <;> first | rfl | (exfalso; omega), rfl⟩
  · refine aw_iload_n B 0 rfl dX12_in_5 rfl ?_
    refine aw_iload_n B 2 rfl dX12_in_6 rfl ?_
    refine aw_icmp_gt B 14 dX12_in_7 (fun c7 => ?_) (fun c7 => ?_)
    · refine aw_iconst B 0 (by decide) dX12_in_14 ?_
      refine aw_iret B rfl rfl dX12_in_15 ?_
      exact ⟨_, rfl, by unfold bI; simp only [Int32.lt_iff_toInt_lt, Int32.le_iff_toInt_le] at *; split <;> first | rfl | (exfalso; omega), rfl⟩
    · refine aw_iconst B 1 (by decide) dX12_in_10 ?_
      refine aw_goto B 15 dX12_in_11 ?_
      refine aw_iret B rfl rfl dX12_in_15 ?_
      exact ⟨_, rfl, by unfold bI; simp only [Int32.lt_iff_toInt_lt, Int32.le_iff_toInt_le] at *; split <;> first | rfl | (exfalso; omega), rfl⟩
theorem dX12_isShelf_0 : decode cX12_isShelf 0 = .ok (.iload_n 0, 1) := by decide +kernel
theorem dX12_isShelf_1 : decode cX12_isShelf 1 = .ok (.iconst 0, 1) := by decide +kernel
theorem dX12_isShelf_2 : decode cX12_isShelf 2 = .ok (.bipush 8, 2) := by decide +kernel
theorem dX12_isShelf_4 : decode cX12_isShelf 4 = .ok (.invokestatic 44, 3) := by decide +kernel
theorem dX12_isShelf_7 : decode cX12_isShelf 7 = .ok (.ireturn, 1) := by decide +kernel
set_option maxRecDepth 100000 in
set_option maxHeartbeats 4000000 in
theorem s_isShelf (l : Launch) (g : zG) (h : Hp) (v : Int32) : Sp l g yX12_isShelf cX12_isShelf 1 (some .boolean) (rmz 2) [.int v] (h) (zI fun r h' => r = bI (0 ≤ v ∧ v ≤ 8) ∧ h' = h) := by
  refine Sp.of [some (.int v)] (by decide) (Nat.le_of_ble_eq_true rfl) rfl rfl ?_
  rintro X rfl hr rfl B
  show AW X 0 0 0 _ _ _ _
  refine aw_iload_n B 0 rfl dX12_isShelf_0 rfl ?_
  refine aw_iconst B 0 (by decide) dX12_isShelf_1 ?_
  refine aw_bipush B 8 (by decide) dX12_isShelf_2 ?_
  refine aw_callS B 0 0 (s_in _ _ _ _ _ _) co_X12_in k_X12_44 dX12_isShelf_4 rfl rfl (Nat.le_of_ble_eq_true rfl) (zrm hr (by decide)) (Nat.le_refl _) (Nat.le_refl _) (kI fun r4 h4 hp4 => ?_)
  obtain ⟨rfl, rfl⟩ := hp4
  refine aw_iret B rfl bIn dX12_isShelf_7 ?_
  exact ⟨_, rfl, rfl, rfl⟩
theorem dX12_isSlate_0 : decode cX12_isSlate 0 = .ok (.iload_n 1, 1) := by decide +kernel
theorem dX12_isSlate_1 : decode cX12_isSlate 1 = .ok (.iconst 0, 1) := by decide +kernel
theorem dX12_isSlate_2 : decode cX12_isSlate 2 = .ok (.aload_n 0, 1) := by decide +kernel
theorem dX12_isSlate_3 : decode cX12_isSlate 3 = .ok (.getfield 9, 3) := by decide +kernel
theorem dX12_isSlate_6 : decode cX12_isSlate 6 = .ok (.iconst 0, 1) := by decide +kernel
theorem dX12_isSlate_7 : decode cX12_isSlate 7 = .ok (.iaload, 1) := by decide +kernel
theorem dX12_isSlate_8 : decode cX12_isSlate 8 = .ok (.iconst 1, 1) := by decide +kernel
theorem dX12_isSlate_9 : decode cX12_isSlate 9 = .ok (.isub, 1) := by decide +kernel
theorem dX12_isSlate_10 : decode cX12_isSlate 10 = .ok (.invokestatic 44, 3) := by decide +kernel
theorem dX12_isSlate_13 : decode cX12_isSlate 13 = .ok (.ireturn, 1) := by decide +kernel
set_option maxRecDepth 100000 in
set_option maxHeartbeats 4000000 in
theorem s_isSlate (l : Launch) (g : zG) (h : Hp) (m : Nat) (F : Nat → Int32) (A : Nat → Nat → Int32) (v : Int32) : Sp l g yX12_isSlate cX12_isSlate 2 (some .boolean) (rmz 2) [.ref m, .int v] (hM g h m F A) (zI fun r h' => r = bI (0 ≤ v ∧ v ≤ A 1 0 - 1) ∧ h' = hM g h m F A) := by
  refine Sp.of [some (.ref m), some (.int v)] (by decide) (Nat.le_of_ble_eq_true rfl) rfl rfl ?_
  rintro X rfl hr rfl B
  show AW X 0 0 0 _ _ _ _
  refine aw_iload_n B 1 rfl dX12_isSlate_0 rfl ?_
  refine aw_iconst B 0 (by decide) dX12_isSlate_1 ?_
  refine aw_aload_n B 0 rfl dX12_isSlate_2 rfl ?_
  refine m_get B f_X12_9 dX12_isSlate_3 rfl ?_
  refine aw_iconst B 0 (by decide) dX12_isSlate_6 ?_
  refine m_ld B (0) (rfl) ((by decide)) dX12_isSlate_7 (by decide) ?_
  refine aw_iconst B 1 (by decide) dX12_isSlate_8 ?_
  refine aw_isub B dX12_isSlate_9 ?_
  refine aw_callS B 0 0 (s_in _ _ _ _ _ _) co_X12_in k_X12_44 dX12_isSlate_10 rfl rfl (Nat.le_of_ble_eq_true rfl) (zrm hr (by decide)) (Nat.le_refl _) (Nat.le_refl _) (kI fun r10 h10 hp10 => ?_)
  obtain ⟨rfl, rfl⟩ := hp10
  refine aw_iret B rfl bIn dX12_isSlate_13 ?_
  exact ⟨_, rfl, rfl, rfl⟩
theorem dX12_isReader_0 : decode cX12_isReader 0 = .ok (.iload_n 1, 1) := by decide +kernel
theorem dX12_isReader_1 : decode cX12_isReader 1 = .ok (.iconst 0, 1) := by decide +kernel
theorem dX12_isReader_2 : decode cX12_isReader 2 = .ok (.aload_n 0, 1) := by decide +kernel
theorem dX12_isReader_3 : decode cX12_isReader 3 = .ok (.getfield 9, 3) := by decide +kernel
theorem dX12_isReader_6 : decode cX12_isReader 6 = .ok (.iconst 1, 1) := by decide +kernel
theorem dX12_isReader_7 : decode cX12_isReader 7 = .ok (.iaload, 1) := by decide +kernel
theorem dX12_isReader_8 : decode cX12_isReader 8 = .ok (.iconst 1, 1) := by decide +kernel
theorem dX12_isReader_9 : decode cX12_isReader 9 = .ok (.isub, 1) := by decide +kernel
theorem dX12_isReader_10 : decode cX12_isReader 10 = .ok (.invokestatic 44, 3) := by decide +kernel
theorem dX12_isReader_13 : decode cX12_isReader 13 = .ok (.ireturn, 1) := by decide +kernel
set_option maxRecDepth 100000 in
set_option maxHeartbeats 4000000 in
theorem s_isReader (l : Launch) (g : zG) (h : Hp) (m : Nat) (F : Nat → Int32) (A : Nat → Nat → Int32) (v : Int32) : Sp l g yX12_isReader cX12_isReader 2 (some .boolean) (rmz 2) [.ref m, .int v] (hM g h m F A) (zI fun r h' => r = bI (0 ≤ v ∧ v ≤ A 1 1 - 1) ∧ h' = hM g h m F A) := by
  refine Sp.of [some (.ref m), some (.int v)] (by decide) (Nat.le_of_ble_eq_true rfl) rfl rfl ?_
  rintro X rfl hr rfl B
  show AW X 0 0 0 _ _ _ _
  refine aw_iload_n B 1 rfl dX12_isReader_0 rfl ?_
  refine aw_iconst B 0 (by decide) dX12_isReader_1 ?_
  refine aw_aload_n B 0 rfl dX12_isReader_2 rfl ?_
  refine m_get B f_X12_9 dX12_isReader_3 rfl ?_
  refine aw_iconst B 1 (by decide) dX12_isReader_6 ?_
  refine m_ld B (1) (rfl) ((by decide)) dX12_isReader_7 (by decide) ?_
  refine aw_iconst B 1 (by decide) dX12_isReader_8 ?_
  refine aw_isub B dX12_isReader_9 ?_
  refine aw_callS B 0 0 (s_in _ _ _ _ _ _) co_X12_in k_X12_44 dX12_isReader_10 rfl rfl (Nat.le_of_ble_eq_true rfl) (zrm hr (by decide)) (Nat.le_refl _) (Nat.le_refl _) (kI fun r10 h10 hp10 => ?_)
  obtain ⟨rfl, rfl⟩ := hp10
  refine aw_iret B rfl bIn dX12_isReader_13 ?_
  exact ⟨_, rfl, rfl, rfl⟩
theorem upd_s {f : Nat → Int32} {k : Nat} {x : Int32} : upd f k x k = x := by simp [upd]
theorem upd_n {f : Nat → Int32} {k j : Nat} {x : Int32} (h : j ≠ k) : upd f k x j = f j := by simp [upd, h]
theorem mup_s {A : Nat → Nat → Int32} {j : Nat} {f : Nat → Int32} : mup A j f j = f := by simp [mup]
theorem mup_n {A : Nat → Nat → Int32} {j k : Nat} {f : Nat → Int32} (h : k ≠ j) : mup A j f k = A k := by simp [mup, h]
theorem mup_m {A : Nat → Nat → Int32} {j : Nat} {f f' : Nat → Int32} : mup (mup A j f) j f' = mup A j f' := by
  funext k
  by_cases h : k = j <;> simp [mup, h]
theorem mup_i {A : Nat → Nat → Int32} {j : Nat} : mup A j (A j) = A := by
  funext k
  by_cases h : k = j <;> simp [mup, h]
/-- a number between lo and hi -/
def rng (x : Int32) (lo hi : Nat) : Prop := ∃ n : Nat, lo ≤ n ∧ n ≤ hi ∧ x = nI n
def mres (g : zG) (h : Hp) (m : Nat) (F : Nat → Int32) (A : Nat → Nat → Int32) (q : Int32 × (Nat → Int32)) : Int32 → Hp → Prop := fun r h' => r = q.1 ∧ h' = hM g h m F (mup A 1 q.2)
theorem ix_c {x : Int32} {t : Nat} (c : Nat) (e : x = nI t) : nI c + x = nI (c + t) := by rw [e, nI_add]
theorem of_bI {p : Prop} [Decidable p] (h : ¬ bI p = 0) : p := Decidable.of_not_not fun z => h (bI0.mpr z)
theorem nof_bI {p : Prop} [Decidable p] (h : bI p = 0) : ¬ p := bI0.mp h
/-- an int between 0 and a count's last -/
theorem in_cnt {x c : Int32} {n : Nat} (h : 0 ≤ x ∧ x ≤ c - 1) (hn : n < 2 ^ 30) (e : c = nI n) : ∃ k : Nat, k < n ∧ x = nI k := by
  have h0 : ¬ x < 0 := Int32.not_lt.mpr h.1
  obtain ⟨j, hj, rfl⟩ := nI_of h0
  refine ⟨j, ?_, rfl⟩
  have h1 := h.2
  rw [e] at h1
  rcases Nat.eq_zero_or_pos n with z | z
  · subst z
    exact absurd h1 (by
      rw [Int32.not_le, Int32.lt_iff_toInt_lt, nI_toInt hj]
      show (nI 0 - 1 : Int32).toInt < _
      have : (nI 0 - 1 : Int32).toInt = -1 := by decide
      omega)
  · rw [show nI n - 1 = nI (n - 1) from by rw [show n = (n - 1) + 1 by omega, nI_pred]; simp] at h1
    have := (nI_leI hj (by omega)).mp h1
    omega
theorem in_rng {x : Int32} {lo hi : Nat} (h : nI lo ≤ x ∧ x ≤ nI hi) (hhi : hi < 2 ^ 31) (hl : lo < 2 ^ 31) : ∃ k : Nat, lo ≤ k ∧ k ≤ hi ∧ x = nI k := by
  have h0 : ¬ x < 0 := Int32.not_lt.mpr (Int32.le_trans (nI_pos' hl) h.1)
  obtain ⟨j, hj, rfl⟩ := nI_of h0
  exact ⟨j, (nI_leI hl hj).mp h.1, (nI_leI hj hhi).mp h.2, rfl⟩
def q_feed (S : Nat → Int32) (x : Int32) : Int32 × (Nat → Int32) := if bI (0 ≤ x ∧ x ≤ 127) = 0 then (-2, S) else if S 6 = 100 then (-4, S) else (S 6 + 1, upd (upd S (94 + (S 6).toNatClampNeg) x) 6 (S 6 + 1))
def q_slate (S : Nat → Int32) (x y : Int32) : Int32 × (Nat → Int32) := if bI (0 ≤ x ∧ x ≤ 8) = 0 then (-1, S) else if bI (1 ≤ y ∧ y ≤ 4) = 0 then (-2, S) else if S 0 = 6 then (-4, S) else (S 0, upd (upd (upd S (10 + (S 0).toNatClampNeg) x) (16 + (S 0).toNatClampNeg) y) 0 (S 0 + 1))
def q_of (S : Nat → Int32) (x y : Int32) : Int32 × (Nat → Int32) := (if bI (0 ≤ x ∧ x ≤ S 0 - 1) = 0 then -1 else if bI (0 ≤ y ∧ y ≤ 1) = 0 then -1 else S (10 + 6 * y.toNatClampNeg + x.toNatClampNeg), S)
def q_put (S : Nat → Int32) (x y : Int32) : Int32 × (Nat → Int32) := if bI (0 ≤ x ∧ x ≤ S 0 - 1) = 0 then (-1, S) else if bI (0 ≤ y ∧ y ≤ 8) = 0 then (-1, S) else (S (10 + x.toNatClampNeg), upd S (10 + x.toNatClampNeg) y)
def q_reader (S : Nat → Int32) (x y : Int32) : Int32 × (Nat → Int32) := if bI (0 ≤ x ∧ x ≤ 6) = 0 then (-1, S) else if bI (0 ≤ y ∧ y ≤ 9) = 0 then (-2, S) else if S 1 = 4 then (-4, S) else (S 1, upd (upd (upd S (22 + (S 1).toNatClampNeg) x) (26 + (S 1).toNatClampNeg) y) 1 (S 1 + 1))
def q_at (S : Nat → Int32) (x y : Int32) : Int32 × (Nat → Int32) := (if bI (0 ≤ x ∧ x ≤ S 1 - 1) = 0 then -1 else if bI (0 ≤ y ∧ y ≤ 1) = 0 then -1 else S (22 + 4 * y.toNatClampNeg + x.toNatClampNeg), S)
def q_hours (S : Nat → Int32) (x : Int32) : Int32 × (Nat → Int32) := if bI (0 ≤ x ∧ x ≤ 60) = 0 then (-2, S) else if S 8 + x ≤ 9999 then (S 8 + x, upd S 8 (S 8 + x)) else (-3, S)
def q_see (S : Nat → Int32) (x y : Int32) : Int32 × (Nat → Int32) := if x = -1 then (0, upd S 4 0) else if bI (0 ≤ x ∧ x ≤ 60) = 0 then (-2, S) else if S 4 = 8 then (-4, S) else (S 4 + 1, upd (upd (upd S (54 + (S 4).toNatClampNeg) x) (62 + (S 4).toNatClampNeg) (if y = 0 then 0 else 1)) 4 (S 4 + 1))
theorem dX12_feed_0 : decode cX12_feed 0 = .ok (.iload_n 1, 1) := by decide +kernel
theorem dX12_feed_1 : decode cX12_feed 1 = .ok (.iconst 0, 1) := by decide +kernel
theorem dX12_feed_2 : decode cX12_feed 2 = .ok (.bipush 127, 2) := by decide +kernel
theorem dX12_feed_4 : decode cX12_feed 4 = .ok (.invokestatic 44, 3) := by decide +kernel
theorem dX12_feed_7 : decode cX12_feed 7 = .ok (.ifCond .ne 6, 3) := by decide +kernel
theorem dX12_feed_10 : decode cX12_feed 10 = .ok (.bipush (-2), 2) := by decide +kernel
theorem dX12_feed_12 : decode cX12_feed 12 = .ok (.ireturn, 1) := by decide +kernel
theorem dX12_feed_13 : decode cX12_feed 13 = .ok (.aload_n 0, 1) := by decide +kernel
theorem dX12_feed_14 : decode cX12_feed 14 = .ok (.getfield 9, 3) := by decide +kernel
theorem dX12_feed_17 : decode cX12_feed 17 = .ok (.bipush 6, 2) := by decide +kernel
theorem dX12_feed_19 : decode cX12_feed 19 = .ok (.iaload, 1) := by decide +kernel
theorem dX12_feed_20 : decode cX12_feed 20 = .ok (.bipush 100, 2) := by decide +kernel
theorem dX12_feed_22 : decode cX12_feed 22 = .ok (.if_icmp .ne 6, 3) := by decide +kernel
theorem dX12_feed_25 : decode cX12_feed 25 = .ok (.bipush (-4), 2) := by decide +kernel
theorem dX12_feed_27 : decode cX12_feed 27 = .ok (.ireturn, 1) := by decide +kernel
theorem dX12_feed_28 : decode cX12_feed 28 = .ok (.aload_n 0, 1) := by decide +kernel
theorem dX12_feed_29 : decode cX12_feed 29 = .ok (.getfield 9, 3) := by decide +kernel
theorem dX12_feed_32 : decode cX12_feed 32 = .ok (.bipush 94, 2) := by decide +kernel
theorem dX12_feed_34 : decode cX12_feed 34 = .ok (.aload_n 0, 1) := by decide +kernel
theorem dX12_feed_35 : decode cX12_feed 35 = .ok (.getfield 9, 3) := by decide +kernel
theorem dX12_feed_38 : decode cX12_feed 38 = .ok (.bipush 6, 2) := by decide +kernel
theorem dX12_feed_40 : decode cX12_feed 40 = .ok (.iaload, 1) := by decide +kernel
theorem dX12_feed_41 : decode cX12_feed 41 = .ok (.iadd, 1) := by decide +kernel
theorem dX12_feed_42 : decode cX12_feed 42 = .ok (.iload_n 1, 1) := by decide +kernel
theorem dX12_feed_43 : decode cX12_feed 43 = .ok (.iastore, 1) := by decide +kernel
theorem dX12_feed_44 : decode cX12_feed 44 = .ok (.aload_n 0, 1) := by decide +kernel
theorem dX12_feed_45 : decode cX12_feed 45 = .ok (.getfield 9, 3) := by decide +kernel
theorem dX12_feed_48 : decode cX12_feed 48 = .ok (.bipush 6, 2) := by decide +kernel
theorem dX12_feed_50 : decode cX12_feed 50 = .ok (.dup2, 1) := by decide +kernel
theorem dX12_feed_51 : decode cX12_feed 51 = .ok (.iaload, 1) := by decide +kernel
theorem dX12_feed_52 : decode cX12_feed 52 = .ok (.iconst 1, 1) := by decide +kernel
theorem dX12_feed_53 : decode cX12_feed 53 = .ok (.iadd, 1) := by decide +kernel
theorem dX12_feed_54 : decode cX12_feed 54 = .ok (.iastore, 1) := by decide +kernel
theorem dX12_feed_55 : decode cX12_feed 55 = .ok (.aload_n 0, 1) := by decide +kernel
theorem dX12_feed_56 : decode cX12_feed 56 = .ok (.getfield 9, 3) := by decide +kernel
theorem dX12_feed_59 : decode cX12_feed 59 = .ok (.bipush 6, 2) := by decide +kernel
theorem dX12_feed_61 : decode cX12_feed 61 = .ok (.iaload, 1) := by decide +kernel
theorem dX12_feed_62 : decode cX12_feed 62 = .ok (.ireturn, 1) := by decide +kernel
set_option maxRecDepth 100000 in
set_option maxHeartbeats 4000000 in
theorem s_feed (l : Launch) (g : zG) (h : Hp) (m : Nat) (F : Nat → Int32) (A : Nat → Nat → Int32) (x : Int32) (ht : rng (A 1 6) 0 100) : Sp l g yX12_feed cX12_feed 2 (some .int) (rmz 2) [.ref m, .int x] (hM g h m F A) (zI (mres g h m F A (q_feed (A 1) x))) := by
  refine Sp.of [some (.ref m), some (.int x)] (by decide) (Nat.le_of_ble_eq_true rfl) rfl rfl ?_
  rintro X rfl hr rfl B
  show AW X 0 0 0 _ _ _ _
  obtain ⟨t, -, ht, et⟩ := ht
  have ek : (A 1 6).toNatClampNeg = t := by rw [et, nI_clamp (by omega)]
  refine aw_iload_n B 1 rfl dX12_feed_0 rfl ?_
  refine aw_iconst B 0 (by decide) dX12_feed_1 ?_
  refine aw_bipush B 127 (by decide) dX12_feed_2 ?_
  refine aw_callS B 0 0 (s_in _ _ _ _ _ _) co_X12_in k_X12_44 dX12_feed_4 rfl rfl (Nat.le_of_ble_eq_true rfl) (zrm hr (by decide)) (Nat.le_refl _) (Nat.le_refl _) (kI fun r4 h4 hp4 => ?_)
  obtain ⟨rfl, rfl⟩ := hp4
  refine aw_if_ne B 13 dX12_feed_7 (fun c7 => ?_) (fun c7 => ?_)
  · refine aw_aload_n B 0 rfl dX12_feed_13 rfl ?_
    refine m_get B f_X12_9 dX12_feed_14 rfl ?_
    refine aw_bipush B 6 (by decide) dX12_feed_17 ?_
    refine m_ld B (6) (rfl) ((by decide)) dX12_feed_19 (by decide) ?_
    refine aw_bipush B 100 (by decide) dX12_feed_20 ?_
    refine aw_icmp_ne B 28 dX12_feed_22 (fun c22 => ?_) (fun c22 => ?_)
    · have hlt : t < 100 := by
        rcases Nat.lt_or_ge t 100 with z | z
        · exact z
        · exact absurd (by rw [et, show t = 100 by omega]; rfl) c22
      refine aw_aload_n B 0 rfl dX12_feed_28 rfl ?_
      refine m_get B f_X12_9 dX12_feed_29 rfl ?_
      refine aw_bipush B 94 (by decide) dX12_feed_32 ?_
      refine aw_aload_n B 0 rfl dX12_feed_34 rfl ?_
      refine m_get B f_X12_9 dX12_feed_35 rfl ?_
      refine aw_bipush B 6 (by decide) dX12_feed_38 ?_
      refine m_ld B (6) (rfl) ((by decide)) dX12_feed_40 (by decide) ?_
      refine aw_iadd B dX12_feed_41 ?_
      refine aw_iload_n B 1 rfl dX12_feed_42 rfl ?_
      refine m_st B (94 + t) (ix_c 94 et) (by show _ < 899; omega) dX12_feed_43 (by decide) ?_
      refine aw_aload_n B 0 rfl dX12_feed_44 rfl ?_
      refine m_get B f_X12_9 dX12_feed_45 rfl ?_
      refine aw_bipush B 6 (by decide) dX12_feed_48 ?_
      refine aw_dup2 B rfl rfl dX12_feed_50 ?_
      refine m_ld B (6) (rfl) ((by decide)) dX12_feed_51 (by decide) ?_
      refine aw_iconst B 1 (by decide) dX12_feed_52 ?_
      refine aw_iadd B dX12_feed_53 ?_
      refine m_st B (6) (rfl) ((by decide)) dX12_feed_54 (by decide) ?_
      refine aw_aload_n B 0 rfl dX12_feed_55 rfl ?_
      refine m_get B f_X12_9 dX12_feed_56 rfl ?_
      refine aw_bipush B 6 (by decide) dX12_feed_59 ?_
      refine m_ld B (6) (rfl) ((by decide)) dX12_feed_61 (by decide) ?_
      refine aw_iret B rfl rfl dX12_feed_62 ?_
      exact ⟨_, rfl, by (try simp (disch := omega) only [mup_s, mup_m, mup_i, upd_s, upd_n]); (try simp_all [q_feed, mup_s, mup_m, mup_i, upd_s, upd_n]), by (try simp (disch := omega) only [mup_s, mup_m, mup_i, upd_s, upd_n]); (try simp_all [q_feed, mup_s, mup_m, mup_i, upd_s, upd_n])⟩
    · refine aw_bipush B (-4) (by decide) dX12_feed_25 ?_
      refine aw_iret B rfl rfl dX12_feed_27 ?_
      exact ⟨_, rfl, by (try simp (disch := omega) only [mup_s, mup_m, mup_i, upd_s, upd_n]); (try simp_all [q_feed, mup_s, mup_m, mup_i, upd_s, upd_n]), by (try simp (disch := omega) only [mup_s, mup_m, mup_i, upd_s, upd_n]); (try simp_all [q_feed, mup_s, mup_m, mup_i, upd_s, upd_n])⟩
  · refine aw_bipush B (-2) (by decide) dX12_feed_10 ?_
    refine aw_iret B rfl rfl dX12_feed_12 ?_
    exact ⟨_, rfl, by (try simp (disch := omega) only [mup_s, mup_m, mup_i, upd_s, upd_n]); (try simp_all [q_feed, mup_s, mup_m, mup_i, upd_s, upd_n]), by (try simp (disch := omega) only [mup_s, mup_m, mup_i, upd_s, upd_n]); (try simp_all [q_feed, mup_s, mup_m, mup_i, upd_s, upd_n])⟩
theorem dX12_slate_0 : decode cX12_slate 0 = .ok (.iload_n 1, 1) := by decide +kernel
theorem dX12_slate_1 : decode cX12_slate 1 = .ok (.invokestatic 137, 3) := by decide +kernel
theorem dX12_slate_4 : decode cX12_slate 4 = .ok (.ifCond .ne 5, 3) := by decide +kernel
theorem dX12_slate_7 : decode cX12_slate 7 = .ok (.iconst (-1), 1) := by decide +kernel
theorem dX12_slate_8 : decode cX12_slate 8 = .ok (.ireturn, 1) := by decide +kernel
theorem dX12_slate_9 : decode cX12_slate 9 = .ok (.iload_n 2, 1) := by decide +kernel
theorem dX12_slate_10 : decode cX12_slate 10 = .ok (.iconst 1, 1) := by decide +kernel
theorem dX12_slate_11 : decode cX12_slate 11 = .ok (.iconst 4, 1) := by decide +kernel
theorem dX12_slate_12 : decode cX12_slate 12 = .ok (.invokestatic 44, 3) := by decide +kernel
theorem dX12_slate_15 : decode cX12_slate 15 = .ok (.ifCond .ne 6, 3) := by decide +kernel
theorem dX12_slate_18 : decode cX12_slate 18 = .ok (.bipush (-2), 2) := by decide +kernel
theorem dX12_slate_20 : decode cX12_slate 20 = .ok (.ireturn, 1) := by decide +kernel
theorem dX12_slate_21 : decode cX12_slate 21 = .ok (.aload_n 0, 1) := by decide +kernel
theorem dX12_slate_22 : decode cX12_slate 22 = .ok (.getfield 9, 3) := by decide +kernel
theorem dX12_slate_25 : decode cX12_slate 25 = .ok (.iconst 0, 1) := by decide +kernel
theorem dX12_slate_26 : decode cX12_slate 26 = .ok (.iaload, 1) := by decide +kernel
theorem dX12_slate_27 : decode cX12_slate 27 = .ok (.bipush 6, 2) := by decide +kernel
theorem dX12_slate_29 : decode cX12_slate 29 = .ok (.if_icmp .ne 6, 3) := by decide +kernel
theorem dX12_slate_32 : decode cX12_slate 32 = .ok (.bipush (-4), 2) := by decide +kernel
theorem dX12_slate_34 : decode cX12_slate 34 = .ok (.ireturn, 1) := by decide +kernel
theorem dX12_slate_35 : decode cX12_slate 35 = .ok (.aload_n 0, 1) := by decide +kernel
theorem dX12_slate_36 : decode cX12_slate 36 = .ok (.getfield 9, 3) := by decide +kernel
theorem dX12_slate_39 : decode cX12_slate 39 = .ok (.iconst 0, 1) := by decide +kernel
theorem dX12_slate_40 : decode cX12_slate 40 = .ok (.iaload, 1) := by decide +kernel
theorem dX12_slate_41 : decode cX12_slate 41 = .ok (.istore_n 3, 1) := by decide +kernel
theorem dX12_slate_42 : decode cX12_slate 42 = .ok (.aload_n 0, 1) := by decide +kernel
theorem dX12_slate_43 : decode cX12_slate 43 = .ok (.getfield 9, 3) := by decide +kernel
theorem dX12_slate_46 : decode cX12_slate 46 = .ok (.bipush 10, 2) := by decide +kernel
theorem dX12_slate_48 : decode cX12_slate 48 = .ok (.iload_n 3, 1) := by decide +kernel
theorem dX12_slate_49 : decode cX12_slate 49 = .ok (.iadd, 1) := by decide +kernel
theorem dX12_slate_50 : decode cX12_slate 50 = .ok (.iload_n 1, 1) := by decide +kernel
theorem dX12_slate_51 : decode cX12_slate 51 = .ok (.iastore, 1) := by decide +kernel
theorem dX12_slate_52 : decode cX12_slate 52 = .ok (.aload_n 0, 1) := by decide +kernel
theorem dX12_slate_53 : decode cX12_slate 53 = .ok (.getfield 9, 3) := by decide +kernel
theorem dX12_slate_56 : decode cX12_slate 56 = .ok (.bipush 16, 2) := by decide +kernel
theorem dX12_slate_58 : decode cX12_slate 58 = .ok (.iload_n 3, 1) := by decide +kernel
theorem dX12_slate_59 : decode cX12_slate 59 = .ok (.iadd, 1) := by decide +kernel
theorem dX12_slate_60 : decode cX12_slate 60 = .ok (.iload_n 2, 1) := by decide +kernel
theorem dX12_slate_61 : decode cX12_slate 61 = .ok (.iastore, 1) := by decide +kernel
theorem dX12_slate_62 : decode cX12_slate 62 = .ok (.aload_n 0, 1) := by decide +kernel
theorem dX12_slate_63 : decode cX12_slate 63 = .ok (.getfield 9, 3) := by decide +kernel
theorem dX12_slate_66 : decode cX12_slate 66 = .ok (.iconst 0, 1) := by decide +kernel
theorem dX12_slate_67 : decode cX12_slate 67 = .ok (.dup2, 1) := by decide +kernel
theorem dX12_slate_68 : decode cX12_slate 68 = .ok (.iaload, 1) := by decide +kernel
theorem dX12_slate_69 : decode cX12_slate 69 = .ok (.iconst 1, 1) := by decide +kernel
theorem dX12_slate_70 : decode cX12_slate 70 = .ok (.iadd, 1) := by decide +kernel
theorem dX12_slate_71 : decode cX12_slate 71 = .ok (.iastore, 1) := by decide +kernel
theorem dX12_slate_72 : decode cX12_slate 72 = .ok (.iload_n 3, 1) := by decide +kernel
theorem dX12_slate_73 : decode cX12_slate 73 = .ok (.ireturn, 1) := by decide +kernel
set_option maxRecDepth 100000 in
set_option maxHeartbeats 4000000 in
theorem s_slate (l : Launch) (g : zG) (h : Hp) (m : Nat) (F : Nat → Int32) (A : Nat → Nat → Int32) (x y : Int32) (ht : rng (A 1 0) 0 6) : Sp l g yX12_slate cX12_slate 4 (some .int) (rmz 3) [.ref m, .int x, .int y] (hM g h m F A) (zI (mres g h m F A (q_slate (A 1) x y))) := by
  refine Sp.of [some (.ref m), some (.int x), some (.int y), none] (by decide) (Nat.le_of_ble_eq_true rfl) rfl rfl ?_
  rintro X rfl hr rfl B
  show AW X 0 0 0 _ _ _ _
  obtain ⟨t, -, ht, et⟩ := ht
  have ek : (A 1 0).toNatClampNeg = t := by rw [et, nI_clamp (by omega)]
  refine aw_iload_n B 1 rfl dX12_slate_0 rfl ?_
  refine aw_callS B 0 0 (s_isShelf _ _ _ _) co_X12_isShelf k_X12_137 dX12_slate_1 rfl rfl (Nat.le_of_ble_eq_true rfl) (zrm hr (by decide)) (Nat.le_refl _) (Nat.le_refl _) (kI fun r1 h1 hp1 => ?_)
  obtain ⟨rfl, rfl⟩ := hp1
  refine aw_if_ne B 9 dX12_slate_4 (fun c4 => ?_) (fun c4 => ?_)
  · refine aw_iload_n B 2 rfl dX12_slate_9 rfl ?_
    refine aw_iconst B 1 (by decide) dX12_slate_10 ?_
    refine aw_iconst B 4 (by decide) dX12_slate_11 ?_
    refine aw_callS B 0 0 (s_in _ _ _ _ _ _) co_X12_in k_X12_44 dX12_slate_12 rfl rfl (Nat.le_of_ble_eq_true rfl) (zrm hr (by decide)) (Nat.le_refl _) (Nat.le_refl _) (kI fun r12 h12 hp12 => ?_)
    obtain ⟨rfl, rfl⟩ := hp12
    refine aw_if_ne B 21 dX12_slate_15 (fun c15 => ?_) (fun c15 => ?_)
    · refine aw_aload_n B 0 rfl dX12_slate_21 rfl ?_
      refine m_get B f_X12_9 dX12_slate_22 rfl ?_
      refine aw_iconst B 0 (by decide) dX12_slate_25 ?_
      refine m_ld B (0) (rfl) ((by decide)) dX12_slate_26 (by decide) ?_
      refine aw_bipush B 6 (by decide) dX12_slate_27 ?_
      refine aw_icmp_ne B 35 dX12_slate_29 (fun c29 => ?_) (fun c29 => ?_)
      · have hlt : t < 6 := by
          rcases Nat.lt_or_ge t 6 with z | z
          · exact z
          · exact absurd (by rw [et, show t = 6 by omega]; rfl) c29
        refine aw_aload_n B 0 rfl dX12_slate_35 rfl ?_
        refine m_get B f_X12_9 dX12_slate_36 rfl ?_
        refine aw_iconst B 0 (by decide) dX12_slate_39 ?_
        refine m_ld B (0) (rfl) ((by decide)) dX12_slate_40 (by decide) ?_
        refine aw_istore3 B dX12_slate_41 ?_
        refine aw_aload_n B 0 rfl dX12_slate_42 rfl ?_
        refine m_get B f_X12_9 dX12_slate_43 rfl ?_
        refine aw_bipush B 10 (by decide) dX12_slate_46 ?_
        refine aw_iload_n B 3 rfl dX12_slate_48 rfl ?_
        refine aw_iadd B dX12_slate_49 ?_
        refine aw_iload_n B 1 rfl dX12_slate_50 rfl ?_
        refine m_st B (10 + t) (ix_c 10 et) (by show _ < 899; omega) dX12_slate_51 (by decide) ?_
        refine aw_aload_n B 0 rfl dX12_slate_52 rfl ?_
        refine m_get B f_X12_9 dX12_slate_53 rfl ?_
        refine aw_bipush B 16 (by decide) dX12_slate_56 ?_
        refine aw_iload_n B 3 rfl dX12_slate_58 rfl ?_
        refine aw_iadd B dX12_slate_59 ?_
        refine aw_iload_n B 2 rfl dX12_slate_60 rfl ?_
        refine m_st B (16 + t) (ix_c 16 et) (by show _ < 899; omega) dX12_slate_61 (by decide) ?_
        refine aw_aload_n B 0 rfl dX12_slate_62 rfl ?_
        refine m_get B f_X12_9 dX12_slate_63 rfl ?_
        refine aw_iconst B 0 (by decide) dX12_slate_66 ?_
        refine aw_dup2 B rfl rfl dX12_slate_67 ?_
        refine m_ld B (0) (rfl) ((by decide)) dX12_slate_68 (by decide) ?_
        refine aw_iconst B 1 (by decide) dX12_slate_69 ?_
        refine aw_iadd B dX12_slate_70 ?_
        refine m_st B (0) (rfl) ((by decide)) dX12_slate_71 (by decide) ?_
        refine aw_iload_n B 3 rfl dX12_slate_72 rfl ?_
        refine aw_iret B rfl rfl dX12_slate_73 ?_
        exact ⟨_, rfl, by (try simp (disch := omega) only [mup_s, mup_m, mup_i, upd_s, upd_n]); (try simp_all [q_slate, mup_s, mup_m, mup_i, upd_s, upd_n]), by (try simp (disch := omega) only [mup_s, mup_m, mup_i, upd_s, upd_n]); (try simp_all [q_slate, mup_s, mup_m, mup_i, upd_s, upd_n])⟩
      · refine aw_bipush B (-4) (by decide) dX12_slate_32 ?_
        refine aw_iret B rfl rfl dX12_slate_34 ?_
        exact ⟨_, rfl, by (try simp (disch := omega) only [mup_s, mup_m, mup_i, upd_s, upd_n]); (try simp_all [q_slate, mup_s, mup_m, mup_i, upd_s, upd_n]), by (try simp (disch := omega) only [mup_s, mup_m, mup_i, upd_s, upd_n]); (try simp_all [q_slate, mup_s, mup_m, mup_i, upd_s, upd_n])⟩
    · refine aw_bipush B (-2) (by decide) dX12_slate_18 ?_
      refine aw_iret B rfl rfl dX12_slate_20 ?_
      exact ⟨_, rfl, by (try simp (disch := omega) only [mup_s, mup_m, mup_i, upd_s, upd_n]); (try simp_all [q_slate, mup_s, mup_m, mup_i, upd_s, upd_n]), by (try simp (disch := omega) only [mup_s, mup_m, mup_i, upd_s, upd_n]); (try simp_all [q_slate, mup_s, mup_m, mup_i, upd_s, upd_n])⟩
  · refine aw_iconst B (-1) (by decide) dX12_slate_7 ?_
    refine aw_iret B rfl rfl dX12_slate_8 ?_
    exact ⟨_, rfl, by (try simp (disch := omega) only [mup_s, mup_m, mup_i, upd_s, upd_n]); (try simp_all [q_slate, mup_s, mup_m, mup_i, upd_s, upd_n]), by (try simp (disch := omega) only [mup_s, mup_m, mup_i, upd_s, upd_n]); (try simp_all [q_slate, mup_s, mup_m, mup_i, upd_s, upd_n])⟩
theorem dX12_reader_0 : decode cX12_reader 0 = .ok (.iload_n 1, 1) := by decide +kernel
theorem dX12_reader_1 : decode cX12_reader 1 = .ok (.iconst 0, 1) := by decide +kernel
theorem dX12_reader_2 : decode cX12_reader 2 = .ok (.bipush 6, 2) := by decide +kernel
theorem dX12_reader_4 : decode cX12_reader 4 = .ok (.invokestatic 44, 3) := by decide +kernel
theorem dX12_reader_7 : decode cX12_reader 7 = .ok (.ifCond .ne 5, 3) := by decide +kernel
theorem dX12_reader_10 : decode cX12_reader 10 = .ok (.iconst (-1), 1) := by decide +kernel
theorem dX12_reader_11 : decode cX12_reader 11 = .ok (.ireturn, 1) := by decide +kernel
theorem dX12_reader_12 : decode cX12_reader 12 = .ok (.iload_n 2, 1) := by decide +kernel
theorem dX12_reader_13 : decode cX12_reader 13 = .ok (.iconst 0, 1) := by decide +kernel
theorem dX12_reader_14 : decode cX12_reader 14 = .ok (.bipush 9, 2) := by decide +kernel
theorem dX12_reader_16 : decode cX12_reader 16 = .ok (.invokestatic 44, 3) := by decide +kernel
theorem dX12_reader_19 : decode cX12_reader 19 = .ok (.ifCond .ne 6, 3) := by decide +kernel
theorem dX12_reader_22 : decode cX12_reader 22 = .ok (.bipush (-2), 2) := by decide +kernel
theorem dX12_reader_24 : decode cX12_reader 24 = .ok (.ireturn, 1) := by decide +kernel
theorem dX12_reader_25 : decode cX12_reader 25 = .ok (.aload_n 0, 1) := by decide +kernel
theorem dX12_reader_26 : decode cX12_reader 26 = .ok (.getfield 9, 3) := by decide +kernel
theorem dX12_reader_29 : decode cX12_reader 29 = .ok (.iconst 1, 1) := by decide +kernel
theorem dX12_reader_30 : decode cX12_reader 30 = .ok (.iaload, 1) := by decide +kernel
theorem dX12_reader_31 : decode cX12_reader 31 = .ok (.iconst 4, 1) := by decide +kernel
theorem dX12_reader_32 : decode cX12_reader 32 = .ok (.if_icmp .ne 6, 3) := by decide +kernel
theorem dX12_reader_35 : decode cX12_reader 35 = .ok (.bipush (-4), 2) := by decide +kernel
theorem dX12_reader_37 : decode cX12_reader 37 = .ok (.ireturn, 1) := by decide +kernel
theorem dX12_reader_38 : decode cX12_reader 38 = .ok (.aload_n 0, 1) := by decide +kernel
theorem dX12_reader_39 : decode cX12_reader 39 = .ok (.getfield 9, 3) := by decide +kernel
theorem dX12_reader_42 : decode cX12_reader 42 = .ok (.iconst 1, 1) := by decide +kernel
theorem dX12_reader_43 : decode cX12_reader 43 = .ok (.iaload, 1) := by decide +kernel
theorem dX12_reader_44 : decode cX12_reader 44 = .ok (.istore_n 3, 1) := by decide +kernel
theorem dX12_reader_45 : decode cX12_reader 45 = .ok (.aload_n 0, 1) := by decide +kernel
theorem dX12_reader_46 : decode cX12_reader 46 = .ok (.getfield 9, 3) := by decide +kernel
theorem dX12_reader_49 : decode cX12_reader 49 = .ok (.bipush 22, 2) := by decide +kernel
theorem dX12_reader_51 : decode cX12_reader 51 = .ok (.iload_n 3, 1) := by decide +kernel
theorem dX12_reader_52 : decode cX12_reader 52 = .ok (.iadd, 1) := by decide +kernel
theorem dX12_reader_53 : decode cX12_reader 53 = .ok (.iload_n 1, 1) := by decide +kernel
theorem dX12_reader_54 : decode cX12_reader 54 = .ok (.iastore, 1) := by decide +kernel
theorem dX12_reader_55 : decode cX12_reader 55 = .ok (.aload_n 0, 1) := by decide +kernel
theorem dX12_reader_56 : decode cX12_reader 56 = .ok (.getfield 9, 3) := by decide +kernel
theorem dX12_reader_59 : decode cX12_reader 59 = .ok (.bipush 26, 2) := by decide +kernel
theorem dX12_reader_61 : decode cX12_reader 61 = .ok (.iload_n 3, 1) := by decide +kernel
theorem dX12_reader_62 : decode cX12_reader 62 = .ok (.iadd, 1) := by decide +kernel
theorem dX12_reader_63 : decode cX12_reader 63 = .ok (.iload_n 2, 1) := by decide +kernel
theorem dX12_reader_64 : decode cX12_reader 64 = .ok (.iastore, 1) := by decide +kernel
theorem dX12_reader_65 : decode cX12_reader 65 = .ok (.aload_n 0, 1) := by decide +kernel
theorem dX12_reader_66 : decode cX12_reader 66 = .ok (.getfield 9, 3) := by decide +kernel
theorem dX12_reader_69 : decode cX12_reader 69 = .ok (.iconst 1, 1) := by decide +kernel
theorem dX12_reader_70 : decode cX12_reader 70 = .ok (.dup2, 1) := by decide +kernel
theorem dX12_reader_71 : decode cX12_reader 71 = .ok (.iaload, 1) := by decide +kernel
theorem dX12_reader_72 : decode cX12_reader 72 = .ok (.iconst 1, 1) := by decide +kernel
theorem dX12_reader_73 : decode cX12_reader 73 = .ok (.iadd, 1) := by decide +kernel
theorem dX12_reader_74 : decode cX12_reader 74 = .ok (.iastore, 1) := by decide +kernel
theorem dX12_reader_75 : decode cX12_reader 75 = .ok (.iload_n 3, 1) := by decide +kernel
theorem dX12_reader_76 : decode cX12_reader 76 = .ok (.ireturn, 1) := by decide +kernel
set_option maxRecDepth 100000 in
set_option maxHeartbeats 4000000 in
theorem s_reader (l : Launch) (g : zG) (h : Hp) (m : Nat) (F : Nat → Int32) (A : Nat → Nat → Int32) (x y : Int32) (ht : rng (A 1 1) 0 4) : Sp l g yX12_reader cX12_reader 4 (some .int) (rmz 2) [.ref m, .int x, .int y] (hM g h m F A) (zI (mres g h m F A (q_reader (A 1) x y))) := by
  refine Sp.of [some (.ref m), some (.int x), some (.int y), none] (by decide) (Nat.le_of_ble_eq_true rfl) rfl rfl ?_
  rintro X rfl hr rfl B
  show AW X 0 0 0 _ _ _ _
  obtain ⟨t, -, ht, et⟩ := ht
  have ek : (A 1 1).toNatClampNeg = t := by rw [et, nI_clamp (by omega)]
  refine aw_iload_n B 1 rfl dX12_reader_0 rfl ?_
  refine aw_iconst B 0 (by decide) dX12_reader_1 ?_
  refine aw_bipush B 6 (by decide) dX12_reader_2 ?_
  refine aw_callS B 0 0 (s_in _ _ _ _ _ _) co_X12_in k_X12_44 dX12_reader_4 rfl rfl (Nat.le_of_ble_eq_true rfl) (zrm hr (by decide)) (Nat.le_refl _) (Nat.le_refl _) (kI fun r4 h4 hp4 => ?_)
  obtain ⟨rfl, rfl⟩ := hp4
  refine aw_if_ne B 12 dX12_reader_7 (fun c7 => ?_) (fun c7 => ?_)
  · refine aw_iload_n B 2 rfl dX12_reader_12 rfl ?_
    refine aw_iconst B 0 (by decide) dX12_reader_13 ?_
    refine aw_bipush B 9 (by decide) dX12_reader_14 ?_
    refine aw_callS B 0 0 (s_in _ _ _ _ _ _) co_X12_in k_X12_44 dX12_reader_16 rfl rfl (Nat.le_of_ble_eq_true rfl) (zrm hr (by decide)) (Nat.le_refl _) (Nat.le_refl _) (kI fun r16 h16 hp16 => ?_)
    obtain ⟨rfl, rfl⟩ := hp16
    refine aw_if_ne B 25 dX12_reader_19 (fun c19 => ?_) (fun c19 => ?_)
    · refine aw_aload_n B 0 rfl dX12_reader_25 rfl ?_
      refine m_get B f_X12_9 dX12_reader_26 rfl ?_
      refine aw_iconst B 1 (by decide) dX12_reader_29 ?_
      refine m_ld B (1) (rfl) ((by decide)) dX12_reader_30 (by decide) ?_
      refine aw_iconst B 4 (by decide) dX12_reader_31 ?_
      refine aw_icmp_ne B 38 dX12_reader_32 (fun c32 => ?_) (fun c32 => ?_)
      · have hlt : t < 4 := by
          rcases Nat.lt_or_ge t 4 with z | z
          · exact z
          · exact absurd (by rw [et, show t = 4 by omega]; rfl) c32
        refine aw_aload_n B 0 rfl dX12_reader_38 rfl ?_
        refine m_get B f_X12_9 dX12_reader_39 rfl ?_
        refine aw_iconst B 1 (by decide) dX12_reader_42 ?_
        refine m_ld B (1) (rfl) ((by decide)) dX12_reader_43 (by decide) ?_
        refine aw_istore3 B dX12_reader_44 ?_
        refine aw_aload_n B 0 rfl dX12_reader_45 rfl ?_
        refine m_get B f_X12_9 dX12_reader_46 rfl ?_
        refine aw_bipush B 22 (by decide) dX12_reader_49 ?_
        refine aw_iload_n B 3 rfl dX12_reader_51 rfl ?_
        refine aw_iadd B dX12_reader_52 ?_
        refine aw_iload_n B 1 rfl dX12_reader_53 rfl ?_
        refine m_st B (22 + t) (ix_c 22 et) (by show _ < 899; omega) dX12_reader_54 (by decide) ?_
        refine aw_aload_n B 0 rfl dX12_reader_55 rfl ?_
        refine m_get B f_X12_9 dX12_reader_56 rfl ?_
        refine aw_bipush B 26 (by decide) dX12_reader_59 ?_
        refine aw_iload_n B 3 rfl dX12_reader_61 rfl ?_
        refine aw_iadd B dX12_reader_62 ?_
        refine aw_iload_n B 2 rfl dX12_reader_63 rfl ?_
        refine m_st B (26 + t) (ix_c 26 et) (by show _ < 899; omega) dX12_reader_64 (by decide) ?_
        refine aw_aload_n B 0 rfl dX12_reader_65 rfl ?_
        refine m_get B f_X12_9 dX12_reader_66 rfl ?_
        refine aw_iconst B 1 (by decide) dX12_reader_69 ?_
        refine aw_dup2 B rfl rfl dX12_reader_70 ?_
        refine m_ld B (1) (rfl) ((by decide)) dX12_reader_71 (by decide) ?_
        refine aw_iconst B 1 (by decide) dX12_reader_72 ?_
        refine aw_iadd B dX12_reader_73 ?_
        refine m_st B (1) (rfl) ((by decide)) dX12_reader_74 (by decide) ?_
        refine aw_iload_n B 3 rfl dX12_reader_75 rfl ?_
        refine aw_iret B rfl rfl dX12_reader_76 ?_
        exact ⟨_, rfl, by (try simp (disch := omega) only [mup_s, mup_m, mup_i, upd_s, upd_n]); (try simp_all [q_reader, mup_s, mup_m, mup_i, upd_s, upd_n]), by (try simp (disch := omega) only [mup_s, mup_m, mup_i, upd_s, upd_n]); (try simp_all [q_reader, mup_s, mup_m, mup_i, upd_s, upd_n])⟩
      · refine aw_bipush B (-4) (by decide) dX12_reader_35 ?_
        refine aw_iret B rfl rfl dX12_reader_37 ?_
        exact ⟨_, rfl, by (try simp (disch := omega) only [mup_s, mup_m, mup_i, upd_s, upd_n]); (try simp_all [q_reader, mup_s, mup_m, mup_i, upd_s, upd_n]), by (try simp (disch := omega) only [mup_s, mup_m, mup_i, upd_s, upd_n]); (try simp_all [q_reader, mup_s, mup_m, mup_i, upd_s, upd_n])⟩
    · refine aw_bipush B (-2) (by decide) dX12_reader_22 ?_
      refine aw_iret B rfl rfl dX12_reader_24 ?_
      exact ⟨_, rfl, by (try simp (disch := omega) only [mup_s, mup_m, mup_i, upd_s, upd_n]); (try simp_all [q_reader, mup_s, mup_m, mup_i, upd_s, upd_n]), by (try simp (disch := omega) only [mup_s, mup_m, mup_i, upd_s, upd_n]); (try simp_all [q_reader, mup_s, mup_m, mup_i, upd_s, upd_n])⟩
  · refine aw_iconst B (-1) (by decide) dX12_reader_10 ?_
    refine aw_iret B rfl rfl dX12_reader_11 ?_
    exact ⟨_, rfl, by (try simp (disch := omega) only [mup_s, mup_m, mup_i, upd_s, upd_n]); (try simp_all [q_reader, mup_s, mup_m, mup_i, upd_s, upd_n]), by (try simp (disch := omega) only [mup_s, mup_m, mup_i, upd_s, upd_n]); (try simp_all [q_reader, mup_s, mup_m, mup_i, upd_s, upd_n])⟩
theorem dX12_put_0 : decode cX12_put 0 = .ok (.aload_n 0, 1) := by decide +kernel
theorem dX12_put_1 : decode cX12_put 1 = .ok (.iload_n 1, 1) := by decide +kernel
theorem dX12_put_2 : decode cX12_put 2 = .ok (.invokevirtual 141, 3) := by decide +kernel
theorem dX12_put_5 : decode cX12_put 5 = .ok (.ifCond .eq 10, 3) := by decide +kernel
theorem dX12_put_8 : decode cX12_put 8 = .ok (.iload_n 2, 1) := by decide +kernel
theorem dX12_put_9 : decode cX12_put 9 = .ok (.invokestatic 137, 3) := by decide +kernel
theorem dX12_put_12 : decode cX12_put 12 = .ok (.ifCond .ne 5, 3) := by decide +kernel
theorem dX12_put_15 : decode cX12_put 15 = .ok (.iconst (-1), 1) := by decide +kernel
theorem dX12_put_16 : decode cX12_put 16 = .ok (.ireturn, 1) := by decide +kernel
theorem dX12_put_17 : decode cX12_put 17 = .ok (.aload_n 0, 1) := by decide +kernel
theorem dX12_put_18 : decode cX12_put 18 = .ok (.getfield 9, 3) := by decide +kernel
theorem dX12_put_21 : decode cX12_put 21 = .ok (.bipush 10, 2) := by decide +kernel
theorem dX12_put_23 : decode cX12_put 23 = .ok (.iload_n 1, 1) := by decide +kernel
theorem dX12_put_24 : decode cX12_put 24 = .ok (.iadd, 1) := by decide +kernel
theorem dX12_put_25 : decode cX12_put 25 = .ok (.iaload, 1) := by decide +kernel
theorem dX12_put_26 : decode cX12_put 26 = .ok (.istore_n 3, 1) := by decide +kernel
theorem dX12_put_27 : decode cX12_put 27 = .ok (.aload_n 0, 1) := by decide +kernel
theorem dX12_put_28 : decode cX12_put 28 = .ok (.getfield 9, 3) := by decide +kernel
theorem dX12_put_31 : decode cX12_put 31 = .ok (.bipush 10, 2) := by decide +kernel
theorem dX12_put_33 : decode cX12_put 33 = .ok (.iload_n 1, 1) := by decide +kernel
theorem dX12_put_34 : decode cX12_put 34 = .ok (.iadd, 1) := by decide +kernel
theorem dX12_put_35 : decode cX12_put 35 = .ok (.iload_n 2, 1) := by decide +kernel
theorem dX12_put_36 : decode cX12_put 36 = .ok (.iastore, 1) := by decide +kernel
theorem dX12_put_37 : decode cX12_put 37 = .ok (.iload_n 3, 1) := by decide +kernel
theorem dX12_put_38 : decode cX12_put 38 = .ok (.ireturn, 1) := by decide +kernel
set_option maxRecDepth 100000 in
set_option maxHeartbeats 4000000 in
theorem s_put (l : Launch) (g : zG) (h : Hp) (m : Nat) (F : Nat → Int32) (A : Nat → Nat → Int32) (x y : Int32) (ht : rng (A 1 0) 0 6) : Sp l g yX12_put cX12_put 4 (some .int) (rmz 3) [.ref m, .int x, .int y] (hM g h m F A) (zI (mres g h m F A (q_put (A 1) x y))) := by
  refine Sp.of [some (.ref m), some (.int x), some (.int y), none] (by decide) (Nat.le_of_ble_eq_true rfl) rfl rfl ?_
  rintro X rfl hr rfl B
  show AW X 0 0 0 _ _ _ _
  obtain ⟨t, -, ht, et⟩ := ht
  refine aw_aload_n B 0 rfl dX12_put_0 rfl ?_
  refine aw_iload_n B 1 rfl dX12_put_1 rfl ?_
  refine aw_callV B 0 0 (s_isSlate _ _ _ _ _ _ _) co_X12_isSlate k_X12_141 dX12_put_2 hM_o rfl rfl rfl rfl (Nat.le_of_ble_eq_true rfl) (zrm hr (by decide)) (Nat.le_refl _) (Nat.le_refl _) (kI fun r2 h2 hp2 => ?_)
  obtain ⟨rfl, rfl⟩ := hp2
  refine aw_if_eq B 15 dX12_put_5 (fun c5 => ?_) (fun c5 => ?_)
  · refine aw_iconst B (-1) (by decide) dX12_put_15 ?_
    refine aw_iret B rfl rfl dX12_put_16 ?_
    exact ⟨_, rfl, by (try simp (disch := omega) only [mup_s, mup_m, mup_i, upd_s, upd_n]); (try simp_all [q_put, mup_s, mup_m, mup_i, upd_s, upd_n]), by (try simp (disch := omega) only [mup_s, mup_m, mup_i, upd_s, upd_n]); (try simp_all [q_put, mup_s, mup_m, mup_i, upd_s, upd_n])⟩
  · refine aw_iload_n B 2 rfl dX12_put_8 rfl ?_
    refine aw_callS B 0 0 (s_isShelf _ _ _ _) co_X12_isShelf k_X12_137 dX12_put_9 rfl rfl (Nat.le_of_ble_eq_true rfl) (zrm hr (by decide)) (Nat.le_refl _) (Nat.le_refl _) (kI fun r9 h9 hp9 => ?_)
    obtain ⟨rfl, rfl⟩ := hp9
    refine aw_if_ne B 17 dX12_put_12 (fun c12 => ?_) (fun c12 => ?_)
    · obtain ⟨k, hk, rfl⟩ := in_cnt (of_bI c5) (by omega) et
      have ek : (nI k).toNatClampNeg = k := nI_clamp (by omega)
      refine aw_aload_n B 0 rfl dX12_put_17 rfl ?_
      refine m_get B f_X12_9 dX12_put_18 rfl ?_
      refine aw_bipush B 10 (by decide) dX12_put_21 ?_
      refine aw_iload_n B 1 rfl dX12_put_23 rfl ?_
      refine aw_iadd B dX12_put_24 ?_
      refine m_ld B (10 + k) (ix_c 10 rfl) (by show _ < 899; omega) dX12_put_25 (by decide) ?_
      refine aw_istore3 B dX12_put_26 ?_
      refine aw_aload_n B 0 rfl dX12_put_27 rfl ?_
      refine m_get B f_X12_9 dX12_put_28 rfl ?_
      refine aw_bipush B 10 (by decide) dX12_put_31 ?_
      refine aw_iload_n B 1 rfl dX12_put_33 rfl ?_
      refine aw_iadd B dX12_put_34 ?_
      refine aw_iload_n B 2 rfl dX12_put_35 rfl ?_
      refine m_st B (10 + k) (ix_c 10 rfl) (by show _ < 899; omega) dX12_put_36 (by decide) ?_
      refine aw_iload_n B 3 rfl dX12_put_37 rfl ?_
      refine aw_iret B rfl rfl dX12_put_38 ?_
      exact ⟨_, rfl, by (try simp (disch := omega) only [mup_s, mup_m, mup_i, upd_s, upd_n]); (try simp_all [q_put, mup_s, mup_m, mup_i, upd_s, upd_n]), by (try simp (disch := omega) only [mup_s, mup_m, mup_i, upd_s, upd_n]); (try simp_all [q_put, mup_s, mup_m, mup_i, upd_s, upd_n])⟩
    · refine aw_iconst B (-1) (by decide) dX12_put_15 ?_
      refine aw_iret B rfl rfl dX12_put_16 ?_
      exact ⟨_, rfl, by (try simp (disch := omega) only [mup_s, mup_m, mup_i, upd_s, upd_n]); (try simp_all [q_put, mup_s, mup_m, mup_i, upd_s, upd_n]), by (try simp (disch := omega) only [mup_s, mup_m, mup_i, upd_s, upd_n]); (try simp_all [q_put, mup_s, mup_m, mup_i, upd_s, upd_n])⟩
theorem dX12_hours_0 : decode cX12_hours 0 = .ok (.iload_n 1, 1) := by decide +kernel
theorem dX12_hours_1 : decode cX12_hours 1 = .ok (.iconst 0, 1) := by decide +kernel
theorem dX12_hours_2 : decode cX12_hours 2 = .ok (.bipush 60, 2) := by decide +kernel
theorem dX12_hours_4 : decode cX12_hours 4 = .ok (.invokestatic 44, 3) := by decide +kernel
theorem dX12_hours_7 : decode cX12_hours 7 = .ok (.ifCond .ne 6, 3) := by decide +kernel
theorem dX12_hours_10 : decode cX12_hours 10 = .ok (.bipush (-2), 2) := by decide +kernel
theorem dX12_hours_12 : decode cX12_hours 12 = .ok (.ireturn, 1) := by decide +kernel
theorem dX12_hours_13 : decode cX12_hours 13 = .ok (.aload_n 0, 1) := by decide +kernel
theorem dX12_hours_14 : decode cX12_hours 14 = .ok (.getfield 9, 3) := by decide +kernel
theorem dX12_hours_17 : decode cX12_hours 17 = .ok (.bipush 8, 2) := by decide +kernel
theorem dX12_hours_19 : decode cX12_hours 19 = .ok (.iaload, 1) := by decide +kernel
theorem dX12_hours_20 : decode cX12_hours 20 = .ok (.iload_n 1, 1) := by decide +kernel
theorem dX12_hours_21 : decode cX12_hours 21 = .ok (.iadd, 1) := by decide +kernel
theorem dX12_hours_22 : decode cX12_hours 22 = .ok (.sipush 9999, 3) := by decide +kernel
theorem dX12_hours_25 : decode cX12_hours 25 = .ok (.if_icmp .le 6, 3) := by decide +kernel
theorem dX12_hours_28 : decode cX12_hours 28 = .ok (.bipush (-3), 2) := by decide +kernel
theorem dX12_hours_30 : decode cX12_hours 30 = .ok (.ireturn, 1) := by decide +kernel
theorem dX12_hours_31 : decode cX12_hours 31 = .ok (.aload_n 0, 1) := by decide +kernel
theorem dX12_hours_32 : decode cX12_hours 32 = .ok (.getfield 9, 3) := by decide +kernel
theorem dX12_hours_35 : decode cX12_hours 35 = .ok (.bipush 8, 2) := by decide +kernel
theorem dX12_hours_37 : decode cX12_hours 37 = .ok (.dup2, 1) := by decide +kernel
theorem dX12_hours_38 : decode cX12_hours 38 = .ok (.iaload, 1) := by decide +kernel
theorem dX12_hours_39 : decode cX12_hours 39 = .ok (.iload_n 1, 1) := by decide +kernel
theorem dX12_hours_40 : decode cX12_hours 40 = .ok (.iadd, 1) := by decide +kernel
theorem dX12_hours_41 : decode cX12_hours 41 = .ok (.iastore, 1) := by decide +kernel
theorem dX12_hours_42 : decode cX12_hours 42 = .ok (.aload_n 0, 1) := by decide +kernel
theorem dX12_hours_43 : decode cX12_hours 43 = .ok (.getfield 9, 3) := by decide +kernel
theorem dX12_hours_46 : decode cX12_hours 46 = .ok (.bipush 8, 2) := by decide +kernel
theorem dX12_hours_48 : decode cX12_hours 48 = .ok (.iaload, 1) := by decide +kernel
theorem dX12_hours_49 : decode cX12_hours 49 = .ok (.ireturn, 1) := by decide +kernel
set_option maxRecDepth 100000 in
set_option maxHeartbeats 4000000 in
theorem s_hours (l : Launch) (g : zG) (h : Hp) (m : Nat) (F : Nat → Int32) (A : Nat → Nat → Int32) (x : Int32) : Sp l g yX12_hours cX12_hours 2 (some .int) (rmz 2) [.ref m, .int x] (hM g h m F A) (zI (mres g h m F A (q_hours (A 1) x))) := by
  refine Sp.of [some (.ref m), some (.int x)] (by decide) (Nat.le_of_ble_eq_true rfl) rfl rfl ?_
  rintro X rfl hr rfl B
  show AW X 0 0 0 _ _ _ _
  refine aw_iload_n B 1 rfl dX12_hours_0 rfl ?_
  refine aw_iconst B 0 (by decide) dX12_hours_1 ?_
  refine aw_bipush B 60 (by decide) dX12_hours_2 ?_
  refine aw_callS B 0 0 (s_in _ _ _ _ _ _) co_X12_in k_X12_44 dX12_hours_4 rfl rfl (Nat.le_of_ble_eq_true rfl) (zrm hr (by decide)) (Nat.le_refl _) (Nat.le_refl _) (kI fun r4 h4 hp4 => ?_)
  obtain ⟨rfl, rfl⟩ := hp4
  refine aw_if_ne B 13 dX12_hours_7 (fun c7 => ?_) (fun c7 => ?_)
  · refine aw_aload_n B 0 rfl dX12_hours_13 rfl ?_
    refine m_get B f_X12_9 dX12_hours_14 rfl ?_
    refine aw_bipush B 8 (by decide) dX12_hours_17 ?_
    refine m_ld B (8) (rfl) ((by decide)) dX12_hours_19 (by decide) ?_
    refine aw_iload_n B 1 rfl dX12_hours_20 rfl ?_
    refine aw_iadd B dX12_hours_21 ?_
    refine aw_sipush B 9999 (by decide) dX12_hours_22 ?_
    refine aw_icmp_le B 31 dX12_hours_25 (fun c25 => ?_) (fun c25 => ?_)
    · refine aw_aload_n B 0 rfl dX12_hours_31 rfl ?_
      refine m_get B f_X12_9 dX12_hours_32 rfl ?_
      refine aw_bipush B 8 (by decide) dX12_hours_35 ?_
      refine aw_dup2 B rfl rfl dX12_hours_37 ?_
      refine m_ld B (8) (rfl) ((by decide)) dX12_hours_38 (by decide) ?_
      refine aw_iload_n B 1 rfl dX12_hours_39 rfl ?_
      refine aw_iadd B dX12_hours_40 ?_
      refine m_st B (8) (rfl) ((by decide)) dX12_hours_41 (by decide) ?_
      refine aw_aload_n B 0 rfl dX12_hours_42 rfl ?_
      refine m_get B f_X12_9 dX12_hours_43 rfl ?_
      refine aw_bipush B 8 (by decide) dX12_hours_46 ?_
      refine m_ld B (8) (rfl) ((by decide)) dX12_hours_48 (by decide) ?_
      refine aw_iret B rfl rfl dX12_hours_49 ?_
      exact ⟨_, rfl, by (try simp (disch := omega) only [mup_s, mup_m, mup_i, upd_s, upd_n]); (try simp_all [q_hours, mup_s, mup_m, mup_i, upd_s, upd_n]), by (try simp (disch := omega) only [mup_s, mup_m, mup_i, upd_s, upd_n]); (try simp_all [q_hours, mup_s, mup_m, mup_i, upd_s, upd_n])⟩
    · refine aw_bipush B (-3) (by decide) dX12_hours_28 ?_
      refine aw_iret B rfl rfl dX12_hours_30 ?_
      exact ⟨_, rfl, by simp only [q_hours, if_neg c7, if_neg c25], by simp only [q_hours, if_neg c7, if_neg c25, mup_i]⟩
  · refine aw_bipush B (-2) (by decide) dX12_hours_10 ?_
    refine aw_iret B rfl rfl dX12_hours_12 ?_
    exact ⟨_, rfl, by (try simp (disch := omega) only [mup_s, mup_m, mup_i, upd_s, upd_n]); (try simp_all [q_hours, mup_s, mup_m, mup_i, upd_s, upd_n]), by (try simp (disch := omega) only [mup_s, mup_m, mup_i, upd_s, upd_n]); (try simp_all [q_hours, mup_s, mup_m, mup_i, upd_s, upd_n])⟩
theorem dX12_see_0 : decode cX12_see 0 = .ok (.iload_n 1, 1) := by decide +kernel
theorem dX12_see_1 : decode cX12_see 1 = .ok (.iconst (-1), 1) := by decide +kernel
theorem dX12_see_2 : decode cX12_see 2 = .ok (.if_icmp .ne 12, 3) := by decide +kernel
theorem dX12_see_5 : decode cX12_see 5 = .ok (.aload_n 0, 1) := by decide +kernel
theorem dX12_see_6 : decode cX12_see 6 = .ok (.getfield 9, 3) := by decide +kernel
theorem dX12_see_9 : decode cX12_see 9 = .ok (.iconst 4, 1) := by decide +kernel
theorem dX12_see_10 : decode cX12_see 10 = .ok (.iconst 0, 1) := by decide +kernel
theorem dX12_see_11 : decode cX12_see 11 = .ok (.iastore, 1) := by decide +kernel
theorem dX12_see_12 : decode cX12_see 12 = .ok (.iconst 0, 1) := by decide +kernel
theorem dX12_see_13 : decode cX12_see 13 = .ok (.ireturn, 1) := by decide +kernel
theorem dX12_see_14 : decode cX12_see 14 = .ok (.iload_n 1, 1) := by decide +kernel
theorem dX12_see_15 : decode cX12_see 15 = .ok (.iconst 0, 1) := by decide +kernel
theorem dX12_see_16 : decode cX12_see 16 = .ok (.bipush 60, 2) := by decide +kernel
theorem dX12_see_18 : decode cX12_see 18 = .ok (.invokestatic 44, 3) := by decide +kernel
theorem dX12_see_21 : decode cX12_see 21 = .ok (.ifCond .ne 6, 3) := by decide +kernel
theorem dX12_see_24 : decode cX12_see 24 = .ok (.bipush (-2), 2) := by decide +kernel
theorem dX12_see_26 : decode cX12_see 26 = .ok (.ireturn, 1) := by decide +kernel
theorem dX12_see_27 : decode cX12_see 27 = .ok (.aload_n 0, 1) := by decide +kernel
theorem dX12_see_28 : decode cX12_see 28 = .ok (.getfield 9, 3) := by decide +kernel
theorem dX12_see_31 : decode cX12_see 31 = .ok (.iconst 4, 1) := by decide +kernel
theorem dX12_see_32 : decode cX12_see 32 = .ok (.iaload, 1) := by decide +kernel
theorem dX12_see_33 : decode cX12_see 33 = .ok (.bipush 8, 2) := by decide +kernel
theorem dX12_see_35 : decode cX12_see 35 = .ok (.if_icmp .ne 6, 3) := by decide +kernel
theorem dX12_see_38 : decode cX12_see 38 = .ok (.bipush (-4), 2) := by decide +kernel
theorem dX12_see_40 : decode cX12_see 40 = .ok (.ireturn, 1) := by decide +kernel
theorem dX12_see_41 : decode cX12_see 41 = .ok (.aload_n 0, 1) := by decide +kernel
theorem dX12_see_42 : decode cX12_see 42 = .ok (.getfield 9, 3) := by decide +kernel
theorem dX12_see_45 : decode cX12_see 45 = .ok (.bipush 54, 2) := by decide +kernel
theorem dX12_see_47 : decode cX12_see 47 = .ok (.aload_n 0, 1) := by decide +kernel
theorem dX12_see_48 : decode cX12_see 48 = .ok (.getfield 9, 3) := by decide +kernel
theorem dX12_see_51 : decode cX12_see 51 = .ok (.iconst 4, 1) := by decide +kernel
theorem dX12_see_52 : decode cX12_see 52 = .ok (.iaload, 1) := by decide +kernel
theorem dX12_see_53 : decode cX12_see 53 = .ok (.iadd, 1) := by decide +kernel
theorem dX12_see_54 : decode cX12_see 54 = .ok (.iload_n 1, 1) := by decide +kernel
theorem dX12_see_55 : decode cX12_see 55 = .ok (.iastore, 1) := by decide +kernel
theorem dX12_see_56 : decode cX12_see 56 = .ok (.aload_n 0, 1) := by decide +kernel
theorem dX12_see_57 : decode cX12_see 57 = .ok (.getfield 9, 3) := by decide +kernel
theorem dX12_see_60 : decode cX12_see 60 = .ok (.bipush 62, 2) := by decide +kernel
theorem dX12_see_62 : decode cX12_see 62 = .ok (.aload_n 0, 1) := by decide +kernel
theorem dX12_see_63 : decode cX12_see 63 = .ok (.getfield 9, 3) := by decide +kernel
theorem dX12_see_66 : decode cX12_see 66 = .ok (.iconst 4, 1) := by decide +kernel
theorem dX12_see_67 : decode cX12_see 67 = .ok (.iaload, 1) := by decide +kernel
theorem dX12_see_68 : decode cX12_see 68 = .ok (.iadd, 1) := by decide +kernel
theorem dX12_see_69 : decode cX12_see 69 = .ok (.iload_n 2, 1) := by decide +kernel
theorem dX12_see_70 : decode cX12_see 70 = .ok (.ifCond .eq 7, 3) := by decide +kernel
theorem dX12_see_73 : decode cX12_see 73 = .ok (.iconst 1, 1) := by decide +kernel
theorem dX12_see_74 : decode cX12_see 74 = .ok (.goto 4, 3) := by decide +kernel
theorem dX12_see_77 : decode cX12_see 77 = .ok (.iconst 0, 1) := by decide +kernel
theorem dX12_see_78 : decode cX12_see 78 = .ok (.iastore, 1) := by decide +kernel
theorem dX12_see_79 : decode cX12_see 79 = .ok (.aload_n 0, 1) := by decide +kernel
theorem dX12_see_80 : decode cX12_see 80 = .ok (.getfield 9, 3) := by decide +kernel
theorem dX12_see_83 : decode cX12_see 83 = .ok (.iconst 4, 1) := by decide +kernel
theorem dX12_see_84 : decode cX12_see 84 = .ok (.dup2, 1) := by decide +kernel
theorem dX12_see_85 : decode cX12_see 85 = .ok (.iaload, 1) := by decide +kernel
theorem dX12_see_86 : decode cX12_see 86 = .ok (.iconst 1, 1) := by decide +kernel
theorem dX12_see_87 : decode cX12_see 87 = .ok (.iadd, 1) := by decide +kernel
theorem dX12_see_88 : decode cX12_see 88 = .ok (.iastore, 1) := by decide +kernel
theorem dX12_see_89 : decode cX12_see 89 = .ok (.aload_n 0, 1) := by decide +kernel
theorem dX12_see_90 : decode cX12_see 90 = .ok (.getfield 9, 3) := by decide +kernel
theorem dX12_see_93 : decode cX12_see 93 = .ok (.iconst 4, 1) := by decide +kernel
theorem dX12_see_94 : decode cX12_see 94 = .ok (.iaload, 1) := by decide +kernel
theorem dX12_see_95 : decode cX12_see 95 = .ok (.ireturn, 1) := by decide +kernel
set_option maxRecDepth 100000 in
set_option maxHeartbeats 4000000 in
theorem s_see (l : Launch) (g : zG) (h : Hp) (m : Nat) (F : Nat → Int32) (A : Nat → Nat → Int32) (x y : Int32) (ht : rng (A 1 4) 0 8) : Sp l g yX12_see cX12_see 3 (some .int) (rmz 2) [.ref m, .int x, .int y] (hM g h m F A) (zI (mres g h m F A (q_see (A 1) x y))) := by
  refine Sp.of [some (.ref m), some (.int x), some (.int y)] (by decide) (Nat.le_of_ble_eq_true rfl) rfl rfl ?_
  rintro X rfl hr rfl B
  show AW X 0 0 0 _ _ _ _
  obtain ⟨t, -, ht, et⟩ := ht
  have ek : (A 1 4).toNatClampNeg = t := by rw [et, nI_clamp (by omega)]
  refine aw_iload_n B 1 rfl dX12_see_0 rfl ?_
  refine aw_iconst B (-1) (by decide) dX12_see_1 ?_
  refine aw_icmp_ne B 14 dX12_see_2 (fun c2 => ?_) (fun c2 => ?_)
  · refine aw_iload_n B 1 rfl dX12_see_14 rfl ?_
    refine aw_iconst B 0 (by decide) dX12_see_15 ?_
    refine aw_bipush B 60 (by decide) dX12_see_16 ?_
    refine aw_callS B 0 0 (s_in _ _ _ _ _ _) co_X12_in k_X12_44 dX12_see_18 rfl rfl (Nat.le_of_ble_eq_true rfl) (zrm hr (by decide)) (Nat.le_refl _) (Nat.le_refl _) (kI fun r18 h18 hp18 => ?_)
    obtain ⟨rfl, rfl⟩ := hp18
    refine aw_if_ne B 27 dX12_see_21 (fun c21 => ?_) (fun c21 => ?_)
    · refine aw_aload_n B 0 rfl dX12_see_27 rfl ?_
      refine m_get B f_X12_9 dX12_see_28 rfl ?_
      refine aw_iconst B 4 (by decide) dX12_see_31 ?_
      refine m_ld B (4) (rfl) ((by decide)) dX12_see_32 (by decide) ?_
      refine aw_bipush B 8 (by decide) dX12_see_33 ?_
      refine aw_icmp_ne B 41 dX12_see_35 (fun c35 => ?_) (fun c35 => ?_)
      · have hlt : t < 8 := by
          rcases Nat.lt_or_ge t 8 with z | z
          · exact z
          · exact absurd (by rw [et, show t = 8 by omega]; rfl) c35
        refine aw_aload_n B 0 rfl dX12_see_41 rfl ?_
        refine m_get B f_X12_9 dX12_see_42 rfl ?_
        refine aw_bipush B 54 (by decide) dX12_see_45 ?_
        refine aw_aload_n B 0 rfl dX12_see_47 rfl ?_
        refine m_get B f_X12_9 dX12_see_48 rfl ?_
        refine aw_iconst B 4 (by decide) dX12_see_51 ?_
        refine m_ld B (4) (rfl) ((by decide)) dX12_see_52 (by decide) ?_
        refine aw_iadd B dX12_see_53 ?_
        refine aw_iload_n B 1 rfl dX12_see_54 rfl ?_
        refine m_st B (54 + t) (ix_c 54 et) (by show _ < 899; omega) dX12_see_55 (by decide) ?_
        refine aw_aload_n B 0 rfl dX12_see_56 rfl ?_
        refine m_get B f_X12_9 dX12_see_57 rfl ?_
        refine aw_bipush B 62 (by decide) dX12_see_60 ?_
        refine aw_aload_n B 0 rfl dX12_see_62 rfl ?_
        refine m_get B f_X12_9 dX12_see_63 rfl ?_
        refine aw_iconst B 4 (by decide) dX12_see_66 ?_
        refine m_ld B (4) (rfl) ((by decide)) dX12_see_67 (by decide) ?_
        refine aw_iadd B dX12_see_68 ?_
        refine aw_iload_n B 2 rfl dX12_see_69 rfl ?_
        refine aw_if_eq B 77 dX12_see_70 (fun c70 => ?_) (fun c70 => ?_)
        · refine aw_iconst B 0 (by decide) dX12_see_77 ?_
          refine m_st B (62 + t) (by rw [mup_s, upd_n (by omega)]; exact ix_c 62 et) (by show _ < 899; omega) dX12_see_78 (by decide) ?_
          refine aw_aload_n B 0 rfl dX12_see_79 rfl ?_
          refine m_get B f_X12_9 dX12_see_80 rfl ?_
          refine aw_iconst B 4 (by decide) dX12_see_83 ?_
          refine aw_dup2 B rfl rfl dX12_see_84 ?_
          refine m_ld B (4) (rfl) ((by decide)) dX12_see_85 (by decide) ?_
          refine aw_iconst B 1 (by decide) dX12_see_86 ?_
          refine aw_iadd B dX12_see_87 ?_
          refine m_st B (4) (rfl) ((by decide)) dX12_see_88 (by decide) ?_
          refine aw_aload_n B 0 rfl dX12_see_89 rfl ?_
          refine m_get B f_X12_9 dX12_see_90 rfl ?_
          refine aw_iconst B 4 (by decide) dX12_see_93 ?_
          refine m_ld B (4) (rfl) ((by decide)) dX12_see_94 (by decide) ?_
          refine aw_iret B rfl rfl dX12_see_95 ?_
          exact ⟨_, rfl, by (try simp (disch := omega) only [mup_s, mup_m, mup_i, upd_s, upd_n]); (try simp_all [q_see, mup_s, mup_m, mup_i, upd_s, upd_n]), by (try simp (disch := omega) only [mup_s, mup_m, mup_i, upd_s, upd_n]); (try simp_all [q_see, mup_s, mup_m, mup_i, upd_s, upd_n])⟩
        · refine aw_iconst B 1 (by decide) dX12_see_73 ?_
          refine aw_goto B 78 dX12_see_74 ?_
          refine m_st B (62 + t) (by rw [mup_s, upd_n (by omega)]; exact ix_c 62 et) (by show _ < 899; omega) dX12_see_78 (by decide) ?_
          refine aw_aload_n B 0 rfl dX12_see_79 rfl ?_
          refine m_get B f_X12_9 dX12_see_80 rfl ?_
          refine aw_iconst B 4 (by decide) dX12_see_83 ?_
          refine aw_dup2 B rfl rfl dX12_see_84 ?_
          refine m_ld B (4) (rfl) ((by decide)) dX12_see_85 (by decide) ?_
          refine aw_iconst B 1 (by decide) dX12_see_86 ?_
          refine aw_iadd B dX12_see_87 ?_
          refine m_st B (4) (rfl) ((by decide)) dX12_see_88 (by decide) ?_
          refine aw_aload_n B 0 rfl dX12_see_89 rfl ?_
          refine m_get B f_X12_9 dX12_see_90 rfl ?_
          refine aw_iconst B 4 (by decide) dX12_see_93 ?_
          refine m_ld B (4) (rfl) ((by decide)) dX12_see_94 (by decide) ?_
          refine aw_iret B rfl rfl dX12_see_95 ?_
          exact ⟨_, rfl, by (try simp (disch := omega) only [mup_s, mup_m, mup_i, upd_s, upd_n]); (try simp_all [q_see, mup_s, mup_m, mup_i, upd_s, upd_n]), by (try simp (disch := omega) only [mup_s, mup_m, mup_i, upd_s, upd_n]); (try simp_all [q_see, mup_s, mup_m, mup_i, upd_s, upd_n])⟩
      · refine aw_bipush B (-4) (by decide) dX12_see_38 ?_
        refine aw_iret B rfl rfl dX12_see_40 ?_
        exact ⟨_, rfl, by (try simp (disch := omega) only [mup_s, mup_m, mup_i, upd_s, upd_n]); (try simp_all [q_see, mup_s, mup_m, mup_i, upd_s, upd_n]), by (try simp (disch := omega) only [mup_s, mup_m, mup_i, upd_s, upd_n]); (try simp_all [q_see, mup_s, mup_m, mup_i, upd_s, upd_n])⟩
    · refine aw_bipush B (-2) (by decide) dX12_see_24 ?_
      refine aw_iret B rfl rfl dX12_see_26 ?_
      exact ⟨_, rfl, by (try simp (disch := omega) only [mup_s, mup_m, mup_i, upd_s, upd_n]); (try simp_all [q_see, mup_s, mup_m, mup_i, upd_s, upd_n]), by (try simp (disch := omega) only [mup_s, mup_m, mup_i, upd_s, upd_n]); (try simp_all [q_see, mup_s, mup_m, mup_i, upd_s, upd_n])⟩
  · refine aw_aload_n B 0 rfl dX12_see_5 rfl ?_
    refine m_get B f_X12_9 dX12_see_6 rfl ?_
    refine aw_iconst B 4 (by decide) dX12_see_9 ?_
    refine aw_iconst B 0 (by decide) dX12_see_10 ?_
    refine m_st B (4) (rfl) ((by decide)) dX12_see_11 (by decide) ?_
    refine aw_iconst B 0 (by decide) dX12_see_12 ?_
    refine aw_iret B rfl rfl dX12_see_13 ?_
    exact ⟨_, rfl, by (try simp (disch := omega) only [mup_s, mup_m, mup_i, upd_s, upd_n]); (try simp_all [q_see, mup_s, mup_m, mup_i, upd_s, upd_n]), by (try simp (disch := omega) only [mup_s, mup_m, mup_i, upd_s, upd_n]); (try simp_all [q_see, mup_s, mup_m, mup_i, upd_s, upd_n])⟩
theorem dX12_of_0 : decode cX12_of 0 = .ok (.aload_n 0, 1) := by decide +kernel
theorem dX12_of_1 : decode cX12_of 1 = .ok (.iload_n 1, 1) := by decide +kernel
theorem dX12_of_2 : decode cX12_of 2 = .ok (.invokevirtual 141, 3) := by decide +kernel
theorem dX12_of_5 : decode cX12_of 5 = .ok (.ifCond .eq 29, 3) := by decide +kernel
theorem dX12_of_8 : decode cX12_of 8 = .ok (.iload_n 2, 1) := by decide +kernel
theorem dX12_of_9 : decode cX12_of 9 = .ok (.iconst 0, 1) := by decide +kernel
theorem dX12_of_10 : decode cX12_of 10 = .ok (.iconst 1, 1) := by decide +kernel
theorem dX12_of_11 : decode cX12_of 11 = .ok (.invokestatic 44, 3) := by decide +kernel
theorem dX12_of_14 : decode cX12_of 14 = .ok (.ifCond .eq 20, 3) := by decide +kernel
theorem dX12_of_17 : decode cX12_of 17 = .ok (.aload_n 0, 1) := by decide +kernel
theorem dX12_of_18 : decode cX12_of 18 = .ok (.getfield 9, 3) := by decide +kernel
theorem dX12_of_21 : decode cX12_of 21 = .ok (.bipush 10, 2) := by decide +kernel
theorem dX12_of_23 : decode cX12_of 23 = .ok (.bipush 6, 2) := by decide +kernel
theorem dX12_of_25 : decode cX12_of 25 = .ok (.iload_n 2, 1) := by decide +kernel
theorem dX12_of_26 : decode cX12_of 26 = .ok (.imul, 1) := by decide +kernel
theorem dX12_of_27 : decode cX12_of 27 = .ok (.iadd, 1) := by decide +kernel
theorem dX12_of_28 : decode cX12_of 28 = .ok (.iload_n 1, 1) := by decide +kernel
theorem dX12_of_29 : decode cX12_of 29 = .ok (.iadd, 1) := by decide +kernel
theorem dX12_of_30 : decode cX12_of 30 = .ok (.iaload, 1) := by decide +kernel
theorem dX12_of_31 : decode cX12_of 31 = .ok (.goto 4, 3) := by decide +kernel
theorem dX12_of_34 : decode cX12_of 34 = .ok (.iconst (-1), 1) := by decide +kernel
theorem dX12_of_35 : decode cX12_of 35 = .ok (.ireturn, 1) := by decide +kernel
set_option maxRecDepth 100000 in
set_option maxHeartbeats 4000000 in
theorem s_of (l : Launch) (g : zG) (h : Hp) (m : Nat) (F : Nat → Int32) (A : Nat → Nat → Int32) (x y : Int32) (ht : rng (A 1 0) 0 6) : Sp l g yX12_of cX12_of 3 (some .int) (rmz 3) [.ref m, .int x, .int y] (hM g h m F A) (zI (mres g h m F A (q_of (A 1) x y))) := by
  refine Sp.of [some (.ref m), some (.int x), some (.int y)] (by decide) (Nat.le_of_ble_eq_true rfl) rfl rfl ?_
  rintro X rfl hr rfl B
  show AW X 0 0 0 _ _ _ _
  obtain ⟨t, -, ht, et⟩ := ht
  refine aw_aload_n B 0 rfl dX12_of_0 rfl ?_
  refine aw_iload_n B 1 rfl dX12_of_1 rfl ?_
  refine aw_callV B 0 0 (s_isSlate _ _ _ _ _ _ _) co_X12_isSlate k_X12_141 dX12_of_2 hM_o rfl rfl rfl rfl (Nat.le_of_ble_eq_true rfl) (zrm hr (by decide)) (Nat.le_refl _) (Nat.le_refl _) (kI fun r2 h2 hp2 => ?_)
  obtain ⟨rfl, rfl⟩ := hp2
  refine aw_if_eq B 34 dX12_of_5 (fun c5 => ?_) (fun c5 => ?_)
  · refine aw_iconst B (-1) (by decide) dX12_of_34 ?_
    refine aw_iret B rfl rfl dX12_of_35 ?_
    exact ⟨_, rfl, by (try simp (disch := omega) only [mup_s, mup_m, mup_i, upd_s, upd_n]); (try simp_all [q_of, mup_s, mup_m, mup_i, upd_s, upd_n]), by (try simp (disch := omega) only [mup_s, mup_m, mup_i, upd_s, upd_n]); (try simp_all [q_of, mup_s, mup_m, mup_i, upd_s, upd_n])⟩
  · refine aw_iload_n B 2 rfl dX12_of_8 rfl ?_
    refine aw_iconst B 0 (by decide) dX12_of_9 ?_
    refine aw_iconst B 1 (by decide) dX12_of_10 ?_
    refine aw_callS B 0 0 (s_in _ _ _ _ _ _) co_X12_in k_X12_44 dX12_of_11 rfl rfl (Nat.le_of_ble_eq_true rfl) (zrm hr (by decide)) (Nat.le_refl _) (Nat.le_refl _) (kI fun r11 h11 hp11 => ?_)
    obtain ⟨rfl, rfl⟩ := hp11
    refine aw_if_eq B 34 dX12_of_14 (fun c14 => ?_) (fun c14 => ?_)
    · refine aw_iconst B (-1) (by decide) dX12_of_34 ?_
      refine aw_iret B rfl rfl dX12_of_35 ?_
      exact ⟨_, rfl, by (try simp (disch := omega) only [mup_s, mup_m, mup_i, upd_s, upd_n]); (try simp_all [q_of, mup_s, mup_m, mup_i, upd_s, upd_n]), by (try simp (disch := omega) only [mup_s, mup_m, mup_i, upd_s, upd_n]); (try simp_all [q_of, mup_s, mup_m, mup_i, upd_s, upd_n])⟩
    · obtain ⟨k, hk, rfl⟩ := in_cnt (of_bI c5) (by omega) et
      obtain ⟨j, -, hj, rfl⟩ := in_rng (lo := 0) (hi := 1) (of_bI c14) (by decide) (by decide)
      have ek : (nI k).toNatClampNeg = k := nI_clamp (by omega)
      have ej : (nI j).toNatClampNeg = j := nI_clamp (by omega)
      refine aw_aload_n B 0 rfl dX12_of_17 rfl ?_
      refine m_get B f_X12_9 dX12_of_18 rfl ?_
      refine aw_bipush B 10 (by decide) dX12_of_21 ?_
      refine aw_bipush B 6 (by decide) dX12_of_23 ?_
      refine aw_iload_n B 2 rfl dX12_of_25 rfl ?_
      refine aw_imul B dX12_of_26 ?_
      refine aw_iadd B dX12_of_27 ?_
      refine aw_iload_n B 1 rfl dX12_of_28 rfl ?_
      refine aw_iadd B dX12_of_29 ?_
      refine m_ld B (10 + 6 * j + k) (by rw [show (6 : Int32) * nI j = nI (6 * j) from pk_mul 6 j, show (10 : Int32) + nI (6 * j) = nI (10 + 6 * j) from nI_add 10 (6 * j), nI_add]) (by show _ < 899; omega) dX12_of_30 (by decide) ?_
      refine aw_goto B 35 dX12_of_31 ?_
      refine aw_iret B rfl rfl dX12_of_35 ?_
      exact ⟨_, rfl, by (try simp (disch := omega) only [mup_s, mup_m, mup_i, upd_s, upd_n]); (try simp_all [q_of, mup_s, mup_m, mup_i, upd_s, upd_n]), by (try simp (disch := omega) only [mup_s, mup_m, mup_i, upd_s, upd_n]); (try simp_all [q_of, mup_s, mup_m, mup_i, upd_s, upd_n])⟩
theorem dX12_at_0 : decode cX12_at 0 = .ok (.aload_n 0, 1) := by decide +kernel
theorem dX12_at_1 : decode cX12_at 1 = .ok (.iload_n 1, 1) := by decide +kernel
theorem dX12_at_2 : decode cX12_at 2 = .ok (.invokevirtual 144, 3) := by decide +kernel
theorem dX12_at_5 : decode cX12_at 5 = .ok (.ifCond .eq 28, 3) := by decide +kernel
theorem dX12_at_8 : decode cX12_at 8 = .ok (.iload_n 2, 1) := by decide +kernel
theorem dX12_at_9 : decode cX12_at 9 = .ok (.iconst 0, 1) := by decide +kernel
theorem dX12_at_10 : decode cX12_at 10 = .ok (.iconst 1, 1) := by decide +kernel
theorem dX12_at_11 : decode cX12_at 11 = .ok (.invokestatic 44, 3) := by decide +kernel
theorem dX12_at_14 : decode cX12_at 14 = .ok (.ifCond .eq 19, 3) := by decide +kernel
theorem dX12_at_17 : decode cX12_at 17 = .ok (.aload_n 0, 1) := by decide +kernel
theorem dX12_at_18 : decode cX12_at 18 = .ok (.getfield 9, 3) := by decide +kernel
theorem dX12_at_21 : decode cX12_at 21 = .ok (.bipush 22, 2) := by decide +kernel
theorem dX12_at_23 : decode cX12_at 23 = .ok (.iconst 4, 1) := by decide +kernel
theorem dX12_at_24 : decode cX12_at 24 = .ok (.iload_n 2, 1) := by decide +kernel
theorem dX12_at_25 : decode cX12_at 25 = .ok (.imul, 1) := by decide +kernel
theorem dX12_at_26 : decode cX12_at 26 = .ok (.iadd, 1) := by decide +kernel
theorem dX12_at_27 : decode cX12_at 27 = .ok (.iload_n 1, 1) := by decide +kernel
theorem dX12_at_28 : decode cX12_at 28 = .ok (.iadd, 1) := by decide +kernel
theorem dX12_at_29 : decode cX12_at 29 = .ok (.iaload, 1) := by decide +kernel
theorem dX12_at_30 : decode cX12_at 30 = .ok (.goto 4, 3) := by decide +kernel
theorem dX12_at_33 : decode cX12_at 33 = .ok (.iconst (-1), 1) := by decide +kernel
theorem dX12_at_34 : decode cX12_at 34 = .ok (.ireturn, 1) := by decide +kernel
set_option maxRecDepth 100000 in
set_option maxHeartbeats 4000000 in
theorem s_at (l : Launch) (g : zG) (h : Hp) (m : Nat) (F : Nat → Int32) (A : Nat → Nat → Int32) (x y : Int32) (ht : rng (A 1 1) 0 4) : Sp l g yX12_at cX12_at 3 (some .int) (rmz 3) [.ref m, .int x, .int y] (hM g h m F A) (zI (mres g h m F A (q_at (A 1) x y))) := by
  refine Sp.of [some (.ref m), some (.int x), some (.int y)] (by decide) (Nat.le_of_ble_eq_true rfl) rfl rfl ?_
  rintro X rfl hr rfl B
  show AW X 0 0 0 _ _ _ _
  obtain ⟨t, -, ht, et⟩ := ht
  refine aw_aload_n B 0 rfl dX12_at_0 rfl ?_
  refine aw_iload_n B 1 rfl dX12_at_1 rfl ?_
  refine aw_callV B 0 0 (s_isReader _ _ _ _ _ _ _) co_X12_isReader k_X12_144 dX12_at_2 hM_o rfl rfl rfl rfl (Nat.le_of_ble_eq_true rfl) (zrm hr (by decide)) (Nat.le_refl _) (Nat.le_refl _) (kI fun r2 h2 hp2 => ?_)
  obtain ⟨rfl, rfl⟩ := hp2
  refine aw_if_eq B 33 dX12_at_5 (fun c5 => ?_) (fun c5 => ?_)
  · refine aw_iconst B (-1) (by decide) dX12_at_33 ?_
    refine aw_iret B rfl rfl dX12_at_34 ?_
    exact ⟨_, rfl, by (try simp (disch := omega) only [mup_s, mup_m, mup_i, upd_s, upd_n]); (try simp_all [q_at, mup_s, mup_m, mup_i, upd_s, upd_n]), by (try simp (disch := omega) only [mup_s, mup_m, mup_i, upd_s, upd_n]); (try simp_all [q_at, mup_s, mup_m, mup_i, upd_s, upd_n])⟩
  · refine aw_iload_n B 2 rfl dX12_at_8 rfl ?_
    refine aw_iconst B 0 (by decide) dX12_at_9 ?_
    refine aw_iconst B 1 (by decide) dX12_at_10 ?_
    refine aw_callS B 0 0 (s_in _ _ _ _ _ _) co_X12_in k_X12_44 dX12_at_11 rfl rfl (Nat.le_of_ble_eq_true rfl) (zrm hr (by decide)) (Nat.le_refl _) (Nat.le_refl _) (kI fun r11 h11 hp11 => ?_)
    obtain ⟨rfl, rfl⟩ := hp11
    refine aw_if_eq B 33 dX12_at_14 (fun c14 => ?_) (fun c14 => ?_)
    · refine aw_iconst B (-1) (by decide) dX12_at_33 ?_
      refine aw_iret B rfl rfl dX12_at_34 ?_
      exact ⟨_, rfl, by (try simp (disch := omega) only [mup_s, mup_m, mup_i, upd_s, upd_n]); (try simp_all [q_at, mup_s, mup_m, mup_i, upd_s, upd_n]), by (try simp (disch := omega) only [mup_s, mup_m, mup_i, upd_s, upd_n]); (try simp_all [q_at, mup_s, mup_m, mup_i, upd_s, upd_n])⟩
    · obtain ⟨k, hk, rfl⟩ := in_cnt (of_bI c5) (by omega) et
      obtain ⟨j, -, hj, rfl⟩ := in_rng (lo := 0) (hi := 1) (of_bI c14) (by decide) (by decide)
      have ek : (nI k).toNatClampNeg = k := nI_clamp (by omega)
      have ej : (nI j).toNatClampNeg = j := nI_clamp (by omega)
      refine aw_aload_n B 0 rfl dX12_at_17 rfl ?_
      refine m_get B f_X12_9 dX12_at_18 rfl ?_
      refine aw_bipush B 22 (by decide) dX12_at_21 ?_
      refine aw_iconst B 4 (by decide) dX12_at_23 ?_
      refine aw_iload_n B 2 rfl dX12_at_24 rfl ?_
      refine aw_imul B dX12_at_25 ?_
      refine aw_iadd B dX12_at_26 ?_
      refine aw_iload_n B 1 rfl dX12_at_27 rfl ?_
      refine aw_iadd B dX12_at_28 ?_
      refine m_ld B (22 + 4 * j + k) (by rw [show (4 : Int32) * nI j = nI (4 * j) from pk_mul 4 j, show (22 : Int32) + nI (4 * j) = nI (22 + 4 * j) from nI_add 22 (4 * j), nI_add]) (by show _ < 899; omega) dX12_at_29 (by decide) ?_
      refine aw_goto B 34 dX12_at_30 ?_
      refine aw_iret B rfl rfl dX12_at_34 ?_
      exact ⟨_, rfl, by (try simp (disch := omega) only [mup_s, mup_m, mup_i, upd_s, upd_n]); (try simp_all [q_at, mup_s, mup_m, mup_i, upd_s, upd_n]), by (try simp (disch := omega) only [mup_s, mup_m, mup_i, upd_s, upd_n]); (try simp_all [q_at, mup_s, mup_m, mup_i, upd_s, upd_n])⟩
