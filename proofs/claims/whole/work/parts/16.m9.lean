def p_dive (k v : Nat) : Nat := if k = 2 ∨ k = 5 then v % 3 else 0
/-- is the shelf open to a reader of kind k with v, a hours from now -/
def oB (T : Nat) (Q : pP) (k v sh a : Nat) : Bool := decide (lvl (T + a) Q ≤ nI (sh + p_dive k v))
/-- may the reader begin a hours from now -/
def mB (T : Nat) (Q : pP) (k v a : Nat) : Bool := if k = 3 then decide ((T + a) % (v % 3 + 1) = 0) else if k = 6 then (decide ((T + a) % (v % 3 + 1) = 0) && decide (lvl (T + a) Q ≤ lvl (hrI T a) Q)) else true
/-- and go on so long -/
def gB (T : Nat) (Q : pP) (k v sh : Nat) : Nat → Nat → Bool
  | 0, _ => true
  | n + 1, a => oB T Q k v sh a && gB T Q k v sh n (a + 1)
theorem gB_snoc (T : Nat) (Q : pP) (k v sh : Nat) : ∀ n a, gB T Q k v sh (n + 1) a = (gB T Q k v sh n a && oB T Q k v sh (a + n)) := by
  intro n
  induction n with
  | zero => intro a; simp [gB]
  | succ n ih =>
    intro a
    rw [gB, ih, gB, Bool.and_assoc, show a + 1 + n = a + (n + 1) by omega]
def cB (T : Nat) (Q : pP) (k v sh need a : Nat) : Bool := mB T Q k v a && gB T Q k v sh need a
def sFb (T : Nat) (Q : pP) (k v sh need a : Nat) : Nat → Nat → Nat
  | 0, _ => 100000
  | n + 1, b => if b + need ≤ 60 then (if cB T Q k v sh need (a + b) then b + need else sFb T Q k v sh need a n (b + 1)) else 100000
/-- how many hours behind a the slate is read; 100000: not within 60 -/
def sF (T : Nat) (Q : pP) (k v sh need a : Nat) : Nat := sFb T Q k v sh need a 61 0
theorem hrI_s (T a : Nat) : hrI T (a + 1) = T + a := by unfold hrI; rw [if_neg (by omega)]; omega
/-- hours, program: what a query about tides takes from the state -/
def iT (S : Nat → Int32) (T : Nat) (Q : pP) : Prop := S 8 = nI T ∧ T ≤ 9999 ∧ hold S Q ∧ wfp 0 Q
def iK (S : Nat → Int32) (r k v : Nat) : Prop := r < 4 ∧ k ≤ 6 ∧ v ≤ 9 ∧ S (22 + r) = nI k ∧ S (26 + r) = nI v
def iZ (S : Nat → Int32) (s sh n : Nat) : Prop := s < 6 ∧ sh ≤ 8 ∧ 1 ≤ n ∧ n ≤ 4 ∧ S (10 + s) = nI sh ∧ S (16 + s) = nI n
def G9F : List Nat := [11, 12, 14]
def G9A : List Nat := [3, 4, 5]
def lres (g : zG) (h : Hp) (m : Nat) (F : Nat → Int32) (A : Nat → Nat → Int32) (T : Nat) (Q : pP) (v : Int32) : Int32 → Hp → Prop := fun r h' => r = v ∧ mgar g h m F A [11, 12, 14] [3, 4, 5] (fun F' A' => lvI T Q F' A') h'

theorem dX12_isOpen_0 : decode cX12_isOpen 0 = .ok (.aload_n 0, 1) := by decide +kernel
theorem dX12_isOpen_1 : decode cX12_isOpen 1 = .ok (.getfield 9, 3) := by decide +kernel
theorem dX12_isOpen_4 : decode cX12_isOpen 4 = .ok (.bipush 22, 2) := by decide +kernel
theorem dX12_isOpen_6 : decode cX12_isOpen 6 = .ok (.iload_n 1, 1) := by decide +kernel
theorem dX12_isOpen_7 : decode cX12_isOpen 7 = .ok (.iadd, 1) := by decide +kernel
theorem dX12_isOpen_8 : decode cX12_isOpen 8 = .ok (.iaload, 1) := by decide +kernel
theorem dX12_isOpen_9 : decode cX12_isOpen 9 = .ok (.iconst 2, 1) := by decide +kernel
theorem dX12_isOpen_10 : decode cX12_isOpen 10 = .ok (.if_icmp .eq 16, 3) := by decide +kernel
theorem dX12_isOpen_13 : decode cX12_isOpen 13 = .ok (.aload_n 0, 1) := by decide +kernel
theorem dX12_isOpen_14 : decode cX12_isOpen 14 = .ok (.getfield 9, 3) := by decide +kernel
theorem dX12_isOpen_17 : decode cX12_isOpen 17 = .ok (.bipush 22, 2) := by decide +kernel
theorem dX12_isOpen_19 : decode cX12_isOpen 19 = .ok (.iload_n 1, 1) := by decide +kernel
theorem dX12_isOpen_20 : decode cX12_isOpen 20 = .ok (.iadd, 1) := by decide +kernel
theorem dX12_isOpen_21 : decode cX12_isOpen 21 = .ok (.iaload, 1) := by decide +kernel
theorem dX12_isOpen_22 : decode cX12_isOpen 22 = .ok (.iconst 5, 1) := by decide +kernel
theorem dX12_isOpen_23 : decode cX12_isOpen 23 = .ok (.if_icmp .ne 7, 3) := by decide +kernel
theorem dX12_isOpen_26 : decode cX12_isOpen 26 = .ok (.iconst 1, 1) := by decide +kernel
theorem dX12_isOpen_27 : decode cX12_isOpen 27 = .ok (.goto 4, 3) := by decide +kernel
theorem dX12_isOpen_30 : decode cX12_isOpen 30 = .ok (.iconst 0, 1) := by decide +kernel
theorem dX12_isOpen_31 : decode cX12_isOpen 31 = .ok (.istore 4, 2) := by decide +kernel
theorem dX12_isOpen_33 : decode cX12_isOpen 33 = .ok (.aload_n 0, 1) := by decide +kernel
theorem dX12_isOpen_34 : decode cX12_isOpen 34 = .ok (.iload_n 3, 1) := by decide +kernel
theorem dX12_isOpen_35 : decode cX12_isOpen 35 = .ok (.invokevirtual 151, 3) := by decide +kernel
theorem dX12_isOpen_38 : decode cX12_isOpen 38 = .ok (.iload_n 2, 1) := by decide +kernel
theorem dX12_isOpen_39 : decode cX12_isOpen 39 = .ok (.iload 4, 2) := by decide +kernel
theorem dX12_isOpen_41 : decode cX12_isOpen 41 = .ok (.ifCond .eq 17, 3) := by decide +kernel
theorem dX12_isOpen_44 : decode cX12_isOpen 44 = .ok (.aload_n 0, 1) := by decide +kernel
theorem dX12_isOpen_45 : decode cX12_isOpen 45 = .ok (.getfield 9, 3) := by decide +kernel
theorem dX12_isOpen_48 : decode cX12_isOpen 48 = .ok (.bipush 26, 2) := by decide +kernel
theorem dX12_isOpen_50 : decode cX12_isOpen 50 = .ok (.iload_n 1, 1) := by decide +kernel
theorem dX12_isOpen_51 : decode cX12_isOpen 51 = .ok (.iadd, 1) := by decide +kernel
theorem dX12_isOpen_52 : decode cX12_isOpen 52 = .ok (.iaload, 1) := by decide +kernel
theorem dX12_isOpen_53 : decode cX12_isOpen 53 = .ok (.iconst 3, 1) := by decide +kernel
theorem dX12_isOpen_54 : decode cX12_isOpen 54 = .ok (.irem, 1) := by decide +kernel
theorem dX12_isOpen_55 : decode cX12_isOpen 55 = .ok (.goto 4, 3) := by decide +kernel
theorem dX12_isOpen_58 : decode cX12_isOpen 58 = .ok (.iconst 0, 1) := by decide +kernel
theorem dX12_isOpen_59 : decode cX12_isOpen 59 = .ok (.iadd, 1) := by decide +kernel
theorem dX12_isOpen_60 : decode cX12_isOpen 60 = .ok (.if_icmp .gt 7, 3) := by decide +kernel
theorem dX12_isOpen_63 : decode cX12_isOpen 63 = .ok (.iconst 1, 1) := by decide +kernel
theorem dX12_isOpen_64 : decode cX12_isOpen 64 = .ok (.goto 4, 3) := by decide +kernel
theorem dX12_isOpen_67 : decode cX12_isOpen 67 = .ok (.iconst 0, 1) := by decide +kernel
theorem dX12_isOpen_68 : decode cX12_isOpen 68 = .ok (.ireturn, 1) := by decide +kernel
set_option maxRecDepth 100000 in
set_option maxHeartbeats 4000000 in
theorem s_isOpen (l : Launch) (g : zG) (h : Hp) (m : Nat) (F : Nat → Int32) (A : Nat → Nat → Int32) (T : Nat) (Q : pP) (hi : iT (A 1) T Q) (hlv : lvI T Q F A) (r k v sh a : Nat) (hkv : iK (A 1) r k v) (hsh : sh ≤ 8) (ha : a ≤ 400) : Sp l g yX12_isOpen cX12_isOpen 5 (some .boolean) (rmz 4) [.ref m, .int (nI r), .int (nI sh), .int (nI a)] (hM g h m F A) (zI (lres g h m F A T Q (b2 (oB T Q k v sh a)))) := by
  refine Sp.of [some (.ref m), some (.int (nI r)), some (.int (nI sh)), some (.int (nI a)), none] (by decide) (Nat.le_of_ble_eq_true rfl) rfl rfl ?_
  rintro X rfl hr rfl B
  show AW X 0 0 0 _ _ _ _
  obtain ⟨hr4, hk, hv, ek, ev⟩ := hkv
  refine aw_aload_n B 0 rfl dX12_isOpen_0 rfl ?_
  refine m_get B f_X12_9 dX12_isOpen_1 (mg_1 _ _) ?_
  refine aw_bipush B 22 (by decide) dX12_isOpen_4 ?_
  refine aw_iload_n B 1 rfl dX12_isOpen_6 rfl ?_
  refine aw_iadd B dX12_isOpen_7 ?_
  refine m_ld B (22 + r) (ix_c 22 rfl) (by show _ < 899; omega) dX12_isOpen_8 (by decide) ?_
  refine aw_iconst B 2 (by decide) dX12_isOpen_9 ?_
  refine aw_icmp_eq B 26 dX12_isOpen_10 (fun c10 => ?_) (fun c10 => ?_)
  · have hd : p_dive k v = v % 3 := by
      unfold p_dive
      first
        | (have : k = 2 := (nI_eq (b := 2) (by omega) (by decide)).mp (by rw [← ek]; exact c10)
           simp [this]; done)
        | (have : k = 5 := (nI_eq (b := 5) (by omega) (by decide)).mp (by rw [← ek]; exact c23)
           simp [this]; done)
    refine aw_iconst B 1 (by decide) dX12_isOpen_26 ?_
    refine aw_goto B 31 dX12_isOpen_27 ?_
    refine aw_istore4 B dX12_isOpen_31 ?_
    refine aw_aload_n B 0 rfl dX12_isOpen_33 rfl ?_
    refine aw_iload_n B 3 rfl dX12_isOpen_34 rfl ?_
    refine aw_callV B 0 0 (s_levelIn _ _ _ _ _ _ _ (a + 1) T Q (nI_1 a) (by omega) hi.1 hi.2.1 hi.2.2.1 hi.2.2.2 hlv) co_X12_levelIn k_X12_151 dX12_isOpen_35 hM_o rfl rfl rfl rfl (Nat.le_of_ble_eq_true rfl) (zrm hr (by decide)) (Nat.le_refl _) (Nat.le_refl _) (kI fun r35 h35 hp35 => ?_)
    obtain ⟨rfl, F2, A2, rfl, hF2, hA2, hlv2⟩ := hp35
    have e1 : A2 1 = A 1 := hA2 1 (by simp)
    rw [hrI_s]
    refine aw_iload_n B 2 rfl dX12_isOpen_38 rfl ?_
    refine aw_iload B dX12_isOpen_39 rfl ?_
    refine aw_if_eq B 58 dX12_isOpen_41 (fun c41 => absurd c41 (by decide)) (fun c41 => ?_)
    refine aw_aload_n B 0 rfl dX12_isOpen_44 rfl ?_
    refine m_get B f_X12_9 dX12_isOpen_45 (mg_1 _ _) ?_
    refine aw_bipush B 26 (by decide) dX12_isOpen_48 ?_
    refine aw_iload_n B 1 rfl dX12_isOpen_50 rfl ?_
    refine aw_iadd B dX12_isOpen_51 ?_
    refine m_ld B (26 + r) (ix_c 26 rfl) (by show _ < 899; omega) dX12_isOpen_52 (by decide) ?_
    rw [e1, ev]
    refine aw_iconst B 3 (by decide) dX12_isOpen_53 ?_
    refine aw_irem B (by decide) dX12_isOpen_54 ?_
    rw [show nI v - nI v / 3 * 3 = nI (v % 3) from pk_rem (d := 3) (by omega) (by decide) (by decide)]
    rw [← hd]
    refine aw_goto B 59 dX12_isOpen_55 ?_
    refine aw_iadd B dX12_isOpen_59 ?_
    try rw [show (0 : Int32) = nI (p_dive k v) from by rw [hd]; rfl]
    rw [nI_add]
    refine aw_icmp_gt B 67 dX12_isOpen_60 (fun c60 => ?_) (fun c60 => ?_)
    · refine aw_iconst B 0 (by decide) dX12_isOpen_67 ?_
      refine aw_iret B rfl rfl dX12_isOpen_68 ?_
      exact ⟨_, rfl, by unfold oB; rw [b2f (fun z => absurd z (Int32.not_le.mpr c60))], F2, A2, rfl, hF2, hA2, hlv2⟩
    · refine aw_iconst B 1 (by decide) dX12_isOpen_63 ?_
      refine aw_goto B 68 dX12_isOpen_64 ?_
      refine aw_iret B rfl rfl dX12_isOpen_68 ?_
      exact ⟨_, rfl, by unfold oB; rw [b2t (Int32.not_lt.mp c60)], F2, A2, rfl, hF2, hA2, hlv2⟩
  · refine aw_aload_n B 0 rfl dX12_isOpen_13 rfl ?_
    refine m_get B f_X12_9 dX12_isOpen_14 (mg_1 _ _) ?_
    refine aw_bipush B 22 (by decide) dX12_isOpen_17 ?_
    refine aw_iload_n B 1 rfl dX12_isOpen_19 rfl ?_
    refine aw_iadd B dX12_isOpen_20 ?_
    refine m_ld B (22 + r) (ix_c 22 rfl) (by show _ < 899; omega) dX12_isOpen_21 (by decide) ?_
    refine aw_iconst B 5 (by decide) dX12_isOpen_22 ?_
    refine aw_icmp_ne B 30 dX12_isOpen_23 (fun c23 => ?_) (fun c23 => ?_)
    · have hd : p_dive k v = 0 := by
        unfold p_dive
        have h1 : ¬ k = 2 := fun z => c10 (by rw [ek, z]; rfl)
        have h2 : ¬ k = 5 := fun z => c23 (by rw [ek, z]; rfl)
        simp [h1, h2]
      refine aw_iconst B 0 (by decide) dX12_isOpen_30 ?_
      refine aw_istore4 B dX12_isOpen_31 ?_
      refine aw_aload_n B 0 rfl dX12_isOpen_33 rfl ?_
      refine aw_iload_n B 3 rfl dX12_isOpen_34 rfl ?_
      refine aw_callV B 0 0 (s_levelIn _ _ _ _ _ _ _ (a + 1) T Q (nI_1 a) (by omega) hi.1 hi.2.1 hi.2.2.1 hi.2.2.2 hlv) co_X12_levelIn k_X12_151 dX12_isOpen_35 hM_o rfl rfl rfl rfl (Nat.le_of_ble_eq_true rfl) (zrm hr (by decide)) (Nat.le_refl _) (Nat.le_refl _) (kI fun r35 h35 hp35 => ?_)
      obtain ⟨rfl, F2, A2, rfl, hF2, hA2, hlv2⟩ := hp35
      have e1 : A2 1 = A 1 := hA2 1 (by simp)
      rw [hrI_s]
      refine aw_iload_n B 2 rfl dX12_isOpen_38 rfl ?_
      refine aw_iload B dX12_isOpen_39 rfl ?_
      refine aw_if_eq B 58 dX12_isOpen_41 (fun c41 => ?_) (fun c41 => absurd rfl c41)
      refine aw_iconst B 0 (by decide) dX12_isOpen_58 ?_
      refine aw_iadd B dX12_isOpen_59 ?_
      try rw [show (0 : Int32) = nI (p_dive k v) from by rw [hd]; rfl]
      rw [nI_add]
      refine aw_icmp_gt B 67 dX12_isOpen_60 (fun c60 => ?_) (fun c60 => ?_)
      · refine aw_iconst B 0 (by decide) dX12_isOpen_67 ?_
        refine aw_iret B rfl rfl dX12_isOpen_68 ?_
        exact ⟨_, rfl, by unfold oB; rw [b2f (fun z => absurd z (Int32.not_le.mpr c60))], F2, A2, rfl, hF2, hA2, hlv2⟩
      · refine aw_iconst B 1 (by decide) dX12_isOpen_63 ?_
        refine aw_goto B 68 dX12_isOpen_64 ?_
        refine aw_iret B rfl rfl dX12_isOpen_68 ?_
        exact ⟨_, rfl, by unfold oB; rw [b2t (Int32.not_lt.mp c60)], F2, A2, rfl, hF2, hA2, hlv2⟩
    · have hd : p_dive k v = v % 3 := by
        unfold p_dive
        first
          | (have : k = 2 := (nI_eq (b := 2) (by omega) (by decide)).mp (by rw [← ek]; exact c10)
             simp [this]; done)
          | (have : k = 5 := (nI_eq (b := 5) (by omega) (by decide)).mp (by rw [← ek]; exact c23)
             simp [this]; done)
      refine aw_iconst B 1 (by decide) dX12_isOpen_26 ?_
      refine aw_goto B 31 dX12_isOpen_27 ?_
      refine aw_istore4 B dX12_isOpen_31 ?_
      refine aw_aload_n B 0 rfl dX12_isOpen_33 rfl ?_
      refine aw_iload_n B 3 rfl dX12_isOpen_34 rfl ?_
      refine aw_callV B 0 0 (s_levelIn _ _ _ _ _ _ _ (a + 1) T Q (nI_1 a) (by omega) hi.1 hi.2.1 hi.2.2.1 hi.2.2.2 hlv) co_X12_levelIn k_X12_151 dX12_isOpen_35 hM_o rfl rfl rfl rfl (Nat.le_of_ble_eq_true rfl) (zrm hr (by decide)) (Nat.le_refl _) (Nat.le_refl _) (kI fun r35 h35 hp35 => ?_)
      obtain ⟨rfl, F2, A2, rfl, hF2, hA2, hlv2⟩ := hp35
      have e1 : A2 1 = A 1 := hA2 1 (by simp)
      rw [hrI_s]
      refine aw_iload_n B 2 rfl dX12_isOpen_38 rfl ?_
      refine aw_iload B dX12_isOpen_39 rfl ?_
      refine aw_if_eq B 58 dX12_isOpen_41 (fun c41 => absurd c41 (by decide)) (fun c41 => ?_)
      refine aw_aload_n B 0 rfl dX12_isOpen_44 rfl ?_
      refine m_get B f_X12_9 dX12_isOpen_45 (mg_1 _ _) ?_
      refine aw_bipush B 26 (by decide) dX12_isOpen_48 ?_
      refine aw_iload_n B 1 rfl dX12_isOpen_50 rfl ?_
      refine aw_iadd B dX12_isOpen_51 ?_
      refine m_ld B (26 + r) (ix_c 26 rfl) (by show _ < 899; omega) dX12_isOpen_52 (by decide) ?_
      rw [e1, ev]
      refine aw_iconst B 3 (by decide) dX12_isOpen_53 ?_
      refine aw_irem B (by decide) dX12_isOpen_54 ?_
      rw [show nI v - nI v / 3 * 3 = nI (v % 3) from pk_rem (d := 3) (by omega) (by decide) (by decide)]
      rw [← hd]
      refine aw_goto B 59 dX12_isOpen_55 ?_
      refine aw_iadd B dX12_isOpen_59 ?_
      try rw [show (0 : Int32) = nI (p_dive k v) from by rw [hd]; rfl]
      rw [nI_add]
      refine aw_icmp_gt B 67 dX12_isOpen_60 (fun c60 => ?_) (fun c60 => ?_)
      · refine aw_iconst B 0 (by decide) dX12_isOpen_67 ?_
        refine aw_iret B rfl rfl dX12_isOpen_68 ?_
        exact ⟨_, rfl, by unfold oB; rw [b2f (fun z => absurd z (Int32.not_le.mpr c60))], F2, A2, rfl, hF2, hA2, hlv2⟩
      · refine aw_iconst B 1 (by decide) dX12_isOpen_63 ?_
        refine aw_goto B 68 dX12_isOpen_64 ?_
        refine aw_iret B rfl rfl dX12_isOpen_68 ?_
        exact ⟨_, rfl, by unfold oB; rw [b2t (Int32.not_lt.mp c60)], F2, A2, rfl, hF2, hA2, hlv2⟩
theorem dX12_mayBegin_0 : decode cX12_mayBegin 0 = .ok (.aload_n 0, 1) := by decide +kernel
theorem dX12_mayBegin_1 : decode cX12_mayBegin 1 = .ok (.getfield 9, 3) := by decide +kernel
theorem dX12_mayBegin_4 : decode cX12_mayBegin 4 = .ok (.bipush 22, 2) := by decide +kernel
theorem dX12_mayBegin_6 : decode cX12_mayBegin 6 = .ok (.iload_n 1, 1) := by decide +kernel
theorem dX12_mayBegin_7 : decode cX12_mayBegin 7 = .ok (.iadd, 1) := by decide +kernel
theorem dX12_mayBegin_8 : decode cX12_mayBegin 8 = .ok (.iaload, 1) := by decide +kernel
theorem dX12_mayBegin_9 : decode cX12_mayBegin 9 = .ok (.istore_n 3, 1) := by decide +kernel
theorem dX12_mayBegin_10 : decode cX12_mayBegin 10 = .ok (.iload_n 3, 1) := by decide +kernel
theorem dX12_mayBegin_11 : decode cX12_mayBegin 11 = .ok (.iconst 3, 1) := by decide +kernel
theorem dX12_mayBegin_12 : decode cX12_mayBegin 12 = .ok (.if_icmp .eq 11, 3) := by decide +kernel
theorem dX12_mayBegin_15 : decode cX12_mayBegin 15 = .ok (.iload_n 3, 1) := by decide +kernel
theorem dX12_mayBegin_16 : decode cX12_mayBegin 16 = .ok (.bipush 6, 2) := by decide +kernel
theorem dX12_mayBegin_18 : decode cX12_mayBegin 18 = .ok (.if_icmp .eq 5, 3) := by decide +kernel
theorem dX12_mayBegin_21 : decode cX12_mayBegin 21 = .ok (.iconst 1, 1) := by decide +kernel
theorem dX12_mayBegin_22 : decode cX12_mayBegin 22 = .ok (.ireturn, 1) := by decide +kernel
theorem dX12_mayBegin_23 : decode cX12_mayBegin 23 = .ok (.aload_n 0, 1) := by decide +kernel
theorem dX12_mayBegin_24 : decode cX12_mayBegin 24 = .ok (.getfield 9, 3) := by decide +kernel
theorem dX12_mayBegin_27 : decode cX12_mayBegin 27 = .ok (.bipush 8, 2) := by decide +kernel
theorem dX12_mayBegin_29 : decode cX12_mayBegin 29 = .ok (.iaload, 1) := by decide +kernel
theorem dX12_mayBegin_30 : decode cX12_mayBegin 30 = .ok (.iload_n 2, 1) := by decide +kernel
theorem dX12_mayBegin_31 : decode cX12_mayBegin 31 = .ok (.iadd, 1) := by decide +kernel
theorem dX12_mayBegin_32 : decode cX12_mayBegin 32 = .ok (.aload_n 0, 1) := by decide +kernel
theorem dX12_mayBegin_33 : decode cX12_mayBegin 33 = .ok (.getfield 9, 3) := by decide +kernel
theorem dX12_mayBegin_36 : decode cX12_mayBegin 36 = .ok (.bipush 26, 2) := by decide +kernel
theorem dX12_mayBegin_38 : decode cX12_mayBegin 38 = .ok (.iload_n 1, 1) := by decide +kernel
theorem dX12_mayBegin_39 : decode cX12_mayBegin 39 = .ok (.iadd, 1) := by decide +kernel
theorem dX12_mayBegin_40 : decode cX12_mayBegin 40 = .ok (.iaload, 1) := by decide +kernel
theorem dX12_mayBegin_41 : decode cX12_mayBegin 41 = .ok (.iconst 3, 1) := by decide +kernel
theorem dX12_mayBegin_42 : decode cX12_mayBegin 42 = .ok (.irem, 1) := by decide +kernel
theorem dX12_mayBegin_43 : decode cX12_mayBegin 43 = .ok (.iconst 1, 1) := by decide +kernel
theorem dX12_mayBegin_44 : decode cX12_mayBegin 44 = .ok (.iadd, 1) := by decide +kernel
theorem dX12_mayBegin_45 : decode cX12_mayBegin 45 = .ok (.irem, 1) := by decide +kernel
theorem dX12_mayBegin_46 : decode cX12_mayBegin 46 = .ok (.ifCond .ne 7, 3) := by decide +kernel
theorem dX12_mayBegin_49 : decode cX12_mayBegin 49 = .ok (.iconst 1, 1) := by decide +kernel
theorem dX12_mayBegin_50 : decode cX12_mayBegin 50 = .ok (.goto 4, 3) := by decide +kernel
theorem dX12_mayBegin_53 : decode cX12_mayBegin 53 = .ok (.iconst 0, 1) := by decide +kernel
theorem dX12_mayBegin_54 : decode cX12_mayBegin 54 = .ok (.istore 4, 2) := by decide +kernel
theorem dX12_mayBegin_56 : decode cX12_mayBegin 56 = .ok (.iload 4, 2) := by decide +kernel
theorem dX12_mayBegin_58 : decode cX12_mayBegin 58 = .ok (.ifCond .eq 27, 3) := by decide +kernel
theorem dX12_mayBegin_61 : decode cX12_mayBegin 61 = .ok (.iload_n 3, 1) := by decide +kernel
theorem dX12_mayBegin_62 : decode cX12_mayBegin 62 = .ok (.iconst 3, 1) := by decide +kernel
theorem dX12_mayBegin_63 : decode cX12_mayBegin 63 = .ok (.if_icmp .eq 18, 3) := by decide +kernel
theorem dX12_mayBegin_66 : decode cX12_mayBegin 66 = .ok (.aload_n 0, 1) := by decide +kernel
theorem dX12_mayBegin_67 : decode cX12_mayBegin 67 = .ok (.iload_n 2, 1) := by decide +kernel
theorem dX12_mayBegin_68 : decode cX12_mayBegin 68 = .ok (.invokevirtual 151, 3) := by decide +kernel
theorem dX12_mayBegin_71 : decode cX12_mayBegin 71 = .ok (.aload_n 0, 1) := by decide +kernel
theorem dX12_mayBegin_72 : decode cX12_mayBegin 72 = .ok (.iload_n 2, 1) := by decide +kernel
theorem dX12_mayBegin_73 : decode cX12_mayBegin 73 = .ok (.iconst 1, 1) := by decide +kernel
theorem dX12_mayBegin_74 : decode cX12_mayBegin 74 = .ok (.isub, 1) := by decide +kernel
theorem dX12_mayBegin_75 : decode cX12_mayBegin 75 = .ok (.invokevirtual 151, 3) := by decide +kernel
theorem dX12_mayBegin_78 : decode cX12_mayBegin 78 = .ok (.if_icmp .gt 7, 3) := by decide +kernel
theorem dX12_mayBegin_81 : decode cX12_mayBegin 81 = .ok (.iconst 1, 1) := by decide +kernel
theorem dX12_mayBegin_82 : decode cX12_mayBegin 82 = .ok (.goto 4, 3) := by decide +kernel
theorem dX12_mayBegin_85 : decode cX12_mayBegin 85 = .ok (.iconst 0, 1) := by decide +kernel
theorem dX12_mayBegin_86 : decode cX12_mayBegin 86 = .ok (.ireturn, 1) := by decide +kernel
set_option maxRecDepth 100000 in
set_option maxHeartbeats 4000000 in
theorem s_mayBegin (l : Launch) (g : zG) (h : Hp) (m : Nat) (F : Nat → Int32) (A : Nat → Nat → Int32) (T : Nat) (Q : pP) (hi : iT (A 1) T Q) (hlv : lvI T Q F A) (r k v a : Nat) (hkv : iK (A 1) r k v) (ha : a ≤ 400) : Sp l g yX12_mayBegin cX12_mayBegin 5 (some .boolean) (rmz 4) [.ref m, .int (nI r), .int (nI a)] (hM g h m F A) (zI (lres g h m F A T Q (b2 (mB T Q k v a)))) := by
  refine Sp.of [some (.ref m), some (.int (nI r)), some (.int (nI a)), none, none] (by decide) (Nat.le_of_ble_eq_true rfl) rfl rfl ?_
  rintro X rfl hr rfl B
  show AW X 0 0 0 _ _ _ _
  obtain ⟨hr4, hk, hv, ek, ev⟩ := hkv
  refine aw_aload_n B 0 rfl dX12_mayBegin_0 rfl ?_
  refine m_get B f_X12_9 dX12_mayBegin_1 (mg_1 _ _) ?_
  refine aw_bipush B 22 (by decide) dX12_mayBegin_4 ?_
  refine aw_iload_n B 1 rfl dX12_mayBegin_6 rfl ?_
  refine aw_iadd B dX12_mayBegin_7 ?_
  refine m_ld B (22 + r) (ix_c 22 rfl) (by show _ < 899; omega) dX12_mayBegin_8 (by decide) ?_
  refine aw_istore3 B dX12_mayBegin_9 ?_
  refine aw_iload_n B 3 rfl dX12_mayBegin_10 rfl ?_
  refine aw_iconst B 3 (by decide) dX12_mayBegin_11 ?_
  refine aw_icmp_eq B 23 dX12_mayBegin_12 (fun c12 => ?_) (fun c12 => ?_)
  · refine aw_aload_n B 0 rfl dX12_mayBegin_23 rfl ?_
    refine m_get B f_X12_9 dX12_mayBegin_24 (mg_1 _ _) ?_
    refine aw_bipush B 8 (by decide) dX12_mayBegin_27 ?_
    refine m_ld B (8) (rfl) ((by decide)) dX12_mayBegin_29 (by decide) ?_
    rw [hi.1]
    refine aw_iload_n B 2 rfl dX12_mayBegin_30 rfl ?_
    refine aw_iadd B dX12_mayBegin_31 ?_
    rw [nI_add]
    refine aw_aload_n B 0 rfl dX12_mayBegin_32 rfl ?_
    refine m_get B f_X12_9 dX12_mayBegin_33 (mg_1 _ _) ?_
    refine aw_bipush B 26 (by decide) dX12_mayBegin_36 ?_
    refine aw_iload_n B 1 rfl dX12_mayBegin_38 rfl ?_
    refine aw_iadd B dX12_mayBegin_39 ?_
    refine m_ld B (26 + r) (ix_c 26 rfl) (by show _ < 899; omega) dX12_mayBegin_40 (by decide) ?_
    rw [ev]
    refine aw_iconst B 3 (by decide) dX12_mayBegin_41 ?_
    refine aw_irem B (by decide) dX12_mayBegin_42 ?_
    rw [show nI v - nI v / 3 * 3 = nI (v % 3) from pk_rem (d := 3) (by omega) (by decide) (by decide)]
    refine aw_iconst B 1 (by decide) dX12_mayBegin_43 ?_
    refine aw_iadd B dX12_mayBegin_44 ?_
    rw [show nI (v % 3) + 1 = nI (v % 3 + 1) from nI_1 _]
    refine aw_irem B (fun z => by have := (nI_eq (b := 0) (by omega) (by decide)).mp z; omega) dX12_mayBegin_45 ?_
    rw [show nI (T + a) - nI (T + a) / nI (v % 3 + 1) * nI (v % 3 + 1) = nI ((T + a) % (v % 3 + 1)) from pk_rem (by have := hi.2.1; omega) (by omega) (by omega)]
    refine aw_if_ne B 53 dX12_mayBegin_46 (fun c46 => ?_) (fun c46 => ?_)
    · refine aw_iconst B 0 (by decide) dX12_mayBegin_53 ?_
      refine aw_istore4 B dX12_mayBegin_54 ?_
      refine aw_iload B dX12_mayBegin_56 rfl ?_
      refine aw_if_eq B 85 dX12_mayBegin_58 (fun c58 => ?_) (fun c58 => absurd rfl c58)
      refine aw_iconst B 0 (by decide) dX12_mayBegin_85 ?_
      refine aw_iret B rfl rfl dX12_mayBegin_86 ?_
      have h1 : k = 3 := (nI_eq (b := 3) (by omega) (by decide)).mp (by rw [← ek]; exact c12)
      have hm : ¬ (T + a) % (v % 3 + 1) = 0 := fun z => c46 (by rw [z]; rfl)
      exact ⟨_, rfl, by unfold mB; subst h1; simp [hm, b2], F, A, rfl, eqF.rf, eqA.rf, hlv⟩
    · refine aw_iconst B 1 (by decide) dX12_mayBegin_49 ?_
      refine aw_goto B 54 dX12_mayBegin_50 ?_
      refine aw_istore4 B dX12_mayBegin_54 ?_
      refine aw_iload B dX12_mayBegin_56 rfl ?_
      refine aw_if_eq B 85 dX12_mayBegin_58 (fun c58 => absurd c58 (by decide)) (fun c58 => ?_)
      refine aw_iload_n B 3 rfl dX12_mayBegin_61 rfl ?_
      refine aw_iconst B 3 (by decide) dX12_mayBegin_62 ?_
      refine aw_icmp_eq B 81 dX12_mayBegin_63 (fun c63 => ?_) (fun c63 => absurd c12 c63)
      refine aw_iconst B 1 (by decide) dX12_mayBegin_81 ?_
      refine aw_goto B 86 dX12_mayBegin_82 ?_
      refine aw_iret B rfl rfl dX12_mayBegin_86 ?_
      have h1 : k = 3 := (nI_eq (b := 3) (by omega) (by decide)).mp (by rw [← ek]; exact c12)
      have hm : (T + a) % (v % 3 + 1) = 0 := (nI_eq (b := 0) (by have := Nat.mod_lt (T + a) (show 0 < v % 3 + 1 by omega); omega) (by decide)).mp c46
      exact ⟨_, rfl, by unfold mB; subst h1; simp [hm, b2], F, A, rfl, eqF.rf, eqA.rf, hlv⟩
  · refine aw_iload_n B 3 rfl dX12_mayBegin_15 rfl ?_
    refine aw_bipush B 6 (by decide) dX12_mayBegin_16 ?_
    refine aw_icmp_eq B 23 dX12_mayBegin_18 (fun c18 => ?_) (fun c18 => ?_)
    · refine aw_aload_n B 0 rfl dX12_mayBegin_23 rfl ?_
      refine m_get B f_X12_9 dX12_mayBegin_24 (mg_1 _ _) ?_
      refine aw_bipush B 8 (by decide) dX12_mayBegin_27 ?_
      refine m_ld B (8) (rfl) ((by decide)) dX12_mayBegin_29 (by decide) ?_
      rw [hi.1]
      refine aw_iload_n B 2 rfl dX12_mayBegin_30 rfl ?_
      refine aw_iadd B dX12_mayBegin_31 ?_
      rw [nI_add]
      refine aw_aload_n B 0 rfl dX12_mayBegin_32 rfl ?_
      refine m_get B f_X12_9 dX12_mayBegin_33 (mg_1 _ _) ?_
      refine aw_bipush B 26 (by decide) dX12_mayBegin_36 ?_
      refine aw_iload_n B 1 rfl dX12_mayBegin_38 rfl ?_
      refine aw_iadd B dX12_mayBegin_39 ?_
      refine m_ld B (26 + r) (ix_c 26 rfl) (by show _ < 899; omega) dX12_mayBegin_40 (by decide) ?_
      rw [ev]
      refine aw_iconst B 3 (by decide) dX12_mayBegin_41 ?_
      refine aw_irem B (by decide) dX12_mayBegin_42 ?_
      rw [show nI v - nI v / 3 * 3 = nI (v % 3) from pk_rem (d := 3) (by omega) (by decide) (by decide)]
      refine aw_iconst B 1 (by decide) dX12_mayBegin_43 ?_
      refine aw_iadd B dX12_mayBegin_44 ?_
      rw [show nI (v % 3) + 1 = nI (v % 3 + 1) from nI_1 _]
      refine aw_irem B (fun z => by have := (nI_eq (b := 0) (by omega) (by decide)).mp z; omega) dX12_mayBegin_45 ?_
      rw [show nI (T + a) - nI (T + a) / nI (v % 3 + 1) * nI (v % 3 + 1) = nI ((T + a) % (v % 3 + 1)) from pk_rem (by have := hi.2.1; omega) (by omega) (by omega)]
      refine aw_if_ne B 53 dX12_mayBegin_46 (fun c46 => ?_) (fun c46 => ?_)
      · refine aw_iconst B 0 (by decide) dX12_mayBegin_53 ?_
        refine aw_istore4 B dX12_mayBegin_54 ?_
        refine aw_iload B dX12_mayBegin_56 rfl ?_
        refine aw_if_eq B 85 dX12_mayBegin_58 (fun c58 => ?_) (fun c58 => absurd rfl c58)
        refine aw_iconst B 0 (by decide) dX12_mayBegin_85 ?_
        refine aw_iret B rfl rfl dX12_mayBegin_86 ?_
        have h1 : k = 6 := (nI_eq (b := 6) (by omega) (by decide)).mp (by rw [← ek]; exact c18)
        have hm : ¬ (T + a) % (v % 3 + 1) = 0 := fun z => c46 (by rw [z]; rfl)
        exact ⟨_, rfl, by unfold mB; subst h1; simp [hm, b2], F, A, rfl, eqF.rf, eqA.rf, hlv⟩
      · refine aw_iconst B 1 (by decide) dX12_mayBegin_49 ?_
        refine aw_goto B 54 dX12_mayBegin_50 ?_
        refine aw_istore4 B dX12_mayBegin_54 ?_
        refine aw_iload B dX12_mayBegin_56 rfl ?_
        refine aw_if_eq B 85 dX12_mayBegin_58 (fun c58 => absurd c58 (by decide)) (fun c58 => ?_)
        refine aw_iload_n B 3 rfl dX12_mayBegin_61 rfl ?_
        refine aw_iconst B 3 (by decide) dX12_mayBegin_62 ?_
        refine aw_icmp_eq B 81 dX12_mayBegin_63 (fun c63 => absurd c63 c12) (fun c63 => ?_)
        refine aw_aload_n B 0 rfl dX12_mayBegin_66 rfl ?_
        refine aw_iload_n B 2 rfl dX12_mayBegin_67 rfl ?_
        refine aw_callV B 0 0 (s_levelIn _ _ _ _ _ _ _ (a + 1) T Q (nI_1 a) (by omega) hi.1 hi.2.1 hi.2.2.1 hi.2.2.2 hlv) co_X12_levelIn k_X12_151 dX12_mayBegin_68 hM_o rfl rfl rfl rfl (Nat.le_of_ble_eq_true rfl) (zrm hr (by decide)) (Nat.le_refl _) (Nat.le_refl _) (kI fun r68 h68 hp68 => ?_)
        obtain ⟨rfl, F2, A2, rfl, hF2, hA2, hlv2⟩ := hp68
        have e1 : A2 1 = A 1 := hA2 1 (by simp)
        rw [hrI_s]
        refine aw_aload_n B 0 rfl dX12_mayBegin_71 rfl ?_
        refine aw_iload_n B 2 rfl dX12_mayBegin_72 rfl ?_
        refine aw_iconst B 1 (by decide) dX12_mayBegin_73 ?_
        refine aw_isub B dX12_mayBegin_74 ?_
        refine aw_callV B 0 0 (s_levelIn _ _ _ _ _ _ _ a T Q (by rw [Int32.sub_add_cancel]) (by omega) (by rw [e1]; exact hi.1) hi.2.1 (by rw [e1]; exact hi.2.2.1) hi.2.2.2 hlv2) co_X12_levelIn k_X12_151 dX12_mayBegin_75 hM_o rfl rfl rfl rfl (Nat.le_of_ble_eq_true rfl) (zrm hr (by decide)) (Nat.le_refl _) (Nat.le_refl _) (kI fun r75 h75 hp75 => ?_)
        obtain ⟨rfl, F3, A3, rfl, hF3, hA3, hlv3⟩ := hp75
        refine aw_icmp_gt B 85 dX12_mayBegin_78 (fun c78 => ?_) (fun c78 => ?_)
        · refine aw_iconst B 0 (by decide) dX12_mayBegin_85 ?_
          refine aw_iret B rfl rfl dX12_mayBegin_86 ?_
          have h1 : k = 6 := (nI_eq (b := 6) (by omega) (by decide)).mp (by rw [← ek]; exact c18)
          have hm : (T + a) % (v % 3 + 1) = 0 := (nI_eq (b := 0) (by have := Nat.mod_lt (T + a) (show 0 < v % 3 + 1 by omega); omega) (by decide)).mp c46
          have hq : ¬ lvl (T + a) Q ≤ lvl (hrI T a) Q := fun z => absurd z (Int32.not_le.mpr c78)
          exact ⟨_, rfl, by unfold mB; subst h1; simp [hm, hq, b2], F3, A3, rfl, hF2.tr hF3, hA2.tr hA3, hlv3⟩
        · refine aw_iconst B 1 (by decide) dX12_mayBegin_81 ?_
          refine aw_goto B 86 dX12_mayBegin_82 ?_
          refine aw_iret B rfl rfl dX12_mayBegin_86 ?_
          have h1 : k = 6 := (nI_eq (b := 6) (by omega) (by decide)).mp (by rw [← ek]; exact c18)
          have hm : (T + a) % (v % 3 + 1) = 0 := (nI_eq (b := 0) (by have := Nat.mod_lt (T + a) (show 0 < v % 3 + 1 by omega); omega) (by decide)).mp c46
          have hq : lvl (T + a) Q ≤ lvl (hrI T a) Q := Int32.not_lt.mp c78
          exact ⟨_, rfl, by unfold mB; subst h1; simp [hm, hq, b2], F3, A3, rfl, hF2.tr hF3, hA2.tr hA3, hlv3⟩
    · refine aw_iconst B 1 (by decide) dX12_mayBegin_21 ?_
      refine aw_iret B rfl rfl dX12_mayBegin_22 ?_
      have h1 : ¬ k = 3 := fun z => c12 (by rw [ek, z]; rfl)
      have h2 : ¬ k = 6 := fun z => c18 (by rw [ek, z]; rfl)
      exact ⟨_, rfl, by unfold mB; rw [if_neg h1, if_neg h2]; rfl, F, A, rfl, eqF.rf, eqA.rf, hlv⟩
