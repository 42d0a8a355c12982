section ZLDC
variable {X : zX} {cc : ByteArray} {nL : Nat} {own nm : String} {ret : Option FieldType} {rc rs pc : Nat} {lv : List (Option Value)} {st : List Value} {h : Hp} {Ko : Option Value → Hp → Prop}
theorem aw_ldc (B : zB X cc nL own nm ret) {index : Nat} {v : Int32} (F : Cond.constant own index v ∈ zT) (hd : decode cc pc = .ok (.ldc index, 2)) (k : AW X rc rs (pc + 2) lv (.int v :: st) h Ko) : AW X rc rs pc lv st h Ko := fun H locs ls cells slots a1 a2 a3 a4 a5 => lv_ldc B.1 B.2.1 B.2.2.2.1 (B.2.2.2.2.1 _ F) hd (k H locs ls cells slots a1 a2 a3 a4 a5)
theorem aw_ldc2 (B : zB X cc nL own nm ret) {index : Nat} {v : Int64} (F : Cond.constantLong own index v ∈ zT) (hd : decode cc pc = .ok (.ldc2_w index, 3)) (k : AW X rc rs (pc + 3) lv (.long v :: st) h Ko) : AW X rc rs pc lv st h Ko := fun H locs ls cells slots a1 a2 a3 a4 a5 => lv_ldc2 B.1 B.2.1 B.2.2.2.1 (B.2.2.2.2.1 _ F) hd (k H locs ls cells slots a1 a2 a3 a4 a5)
end ZLDC
/-- the HOURS that a reader of a kind, with v, needs for so many lines -/
def p_needs (k v n : Nat) : Nat := if k = 1 then (n + 1) / 2 else if k = 4 then (if 4 < v ∧ 1 < (n + 1) / 2 then (n + 1) / 2 - 1 else (n + 1) / 2) else if k = 5 then 2 * n else n
theorem dX12_needsOf_0 : decode cX12_needsOf 0 = .ok (.aload_n 0, 1) := by decide +kernel
theorem dX12_needsOf_1 : decode cX12_needsOf 1 = .ok (.getfield 9, 3) := by decide +kernel
theorem dX12_needsOf_4 : decode cX12_needsOf 4 = .ok (.bipush 16, 2) := by decide +kernel
theorem dX12_needsOf_6 : decode cX12_needsOf 6 = .ok (.iload_n 2, 1) := by decide +kernel
theorem dX12_needsOf_7 : decode cX12_needsOf 7 = .ok (.iadd, 1) := by decide +kernel
theorem dX12_needsOf_8 : decode cX12_needsOf 8 = .ok (.iaload, 1) := by decide +kernel
theorem dX12_needsOf_9 : decode cX12_needsOf 9 = .ok (.istore_n 3, 1) := by decide +kernel
theorem dX12_needsOf_10 : decode cX12_needsOf 10 = .ok (.iload_n 3, 1) := by decide +kernel
theorem dX12_needsOf_11 : decode cX12_needsOf 11 = .ok (.iconst 1, 1) := by decide +kernel
theorem dX12_needsOf_12 : decode cX12_needsOf 12 = .ok (.iadd, 1) := by decide +kernel
theorem dX12_needsOf_13 : decode cX12_needsOf 13 = .ok (.iconst 2, 1) := by decide +kernel
theorem dX12_needsOf_14 : decode cX12_needsOf 14 = .ok (.idiv, 1) := by decide +kernel
theorem dX12_needsOf_15 : decode cX12_needsOf 15 = .ok (.istore 4, 2) := by decide +kernel
theorem dX12_needsOf_17 : decode cX12_needsOf 17 = .ok (.aload_n 0, 1) := by decide +kernel
theorem dX12_needsOf_18 : decode cX12_needsOf 18 = .ok (.getfield 9, 3) := by decide +kernel
theorem dX12_needsOf_21 : decode cX12_needsOf 21 = .ok (.bipush 22, 2) := by decide +kernel
theorem dX12_needsOf_23 : decode cX12_needsOf 23 = .ok (.iload_n 1, 1) := by decide +kernel
theorem dX12_needsOf_24 : decode cX12_needsOf 24 = .ok (.iadd, 1) := by decide +kernel
theorem dX12_needsOf_25 : decode cX12_needsOf 25 = .ok (.iaload, 1) := by decide +kernel
theorem dX12_needsOf_26 : decode cX12_needsOf 26 = .ok (.tableswitch 70 1 5 #[34, 70, 70, 37, 66], 34) := by decide +kernel
theorem dX12_needsOf_60 : decode cX12_needsOf 60 = .ok (.iload 4, 2) := by decide +kernel
theorem dX12_needsOf_62 : decode cX12_needsOf 62 = .ok (.ireturn, 1) := by decide +kernel
theorem dX12_needsOf_63 : decode cX12_needsOf 63 = .ok (.aload_n 0, 1) := by decide +kernel
theorem dX12_needsOf_64 : decode cX12_needsOf 64 = .ok (.getfield 9, 3) := by decide +kernel
theorem dX12_needsOf_67 : decode cX12_needsOf 67 = .ok (.bipush 26, 2) := by decide +kernel
theorem dX12_needsOf_69 : decode cX12_needsOf 69 = .ok (.iload_n 1, 1) := by decide +kernel
theorem dX12_needsOf_70 : decode cX12_needsOf 70 = .ok (.iadd, 1) := by decide +kernel
theorem dX12_needsOf_71 : decode cX12_needsOf 71 = .ok (.iaload, 1) := by decide +kernel
theorem dX12_needsOf_72 : decode cX12_needsOf 72 = .ok (.iconst 4, 1) := by decide +kernel
theorem dX12_needsOf_73 : decode cX12_needsOf 73 = .ok (.if_icmp .le 16, 3) := by decide +kernel
theorem dX12_needsOf_76 : decode cX12_needsOf 76 = .ok (.iload 4, 2) := by decide +kernel
theorem dX12_needsOf_78 : decode cX12_needsOf 78 = .ok (.iconst 1, 1) := by decide +kernel
theorem dX12_needsOf_79 : decode cX12_needsOf 79 = .ok (.if_icmp .le 10, 3) := by decide +kernel
theorem dX12_needsOf_82 : decode cX12_needsOf 82 = .ok (.iload 4, 2) := by decide +kernel
theorem dX12_needsOf_84 : decode cX12_needsOf 84 = .ok (.iconst 1, 1) := by decide +kernel
theorem dX12_needsOf_85 : decode cX12_needsOf 85 = .ok (.isub, 1) := by decide +kernel
theorem dX12_needsOf_86 : decode cX12_needsOf 86 = .ok (.goto 5, 3) := by decide +kernel
theorem dX12_needsOf_89 : decode cX12_needsOf 89 = .ok (.iload 4, 2) := by decide +kernel
theorem dX12_needsOf_91 : decode cX12_needsOf 91 = .ok (.ireturn, 1) := by decide +kernel
theorem dX12_needsOf_92 : decode cX12_needsOf 92 = .ok (.iconst 2, 1) := by decide +kernel
theorem dX12_needsOf_93 : decode cX12_needsOf 93 = .ok (.iload_n 3, 1) := by decide +kernel
theorem dX12_needsOf_94 : decode cX12_needsOf 94 = .ok (.imul, 1) := by decide +kernel
theorem dX12_needsOf_95 : decode cX12_needsOf 95 = .ok (.ireturn, 1) := by decide +kernel
theorem dX12_needsOf_96 : decode cX12_needsOf 96 = .ok (.iload_n 3, 1) := by decide +kernel
theorem dX12_needsOf_97 : decode cX12_needsOf 97 = .ok (.ireturn, 1) := by decide +kernel
set_option maxRecDepth 100000 in
set_option maxHeartbeats 4000000 in
theorem s_needsOf (l : Launch) (g : zG) (h : Hp) (m : Nat) (F : Nat → Int32) (A : Nat → Nat → Int32) (r s k v n : Nat) (hr4 : r < 4) (hs : s < 6) (hk : k ≤ 6) (hv : v ≤ 9) (hn : n ≤ 4) (ek : A 1 (22 + r) = nI k) (ev : A 1 (26 + r) = nI v) (en : A 1 (16 + s) = nI n) : Sp l g yX12_needsOf cX12_needsOf 5 (some .int) (rmz 1) [.ref m, .int (nI r), .int (nI s)] (hM g h m F A) (zI fun q h' => q = nI (p_needs k v n) ∧ h' = hM g h m F A) := by
  refine Sp.of [some (.ref m), some (.int (nI r)), some (.int (nI s)), none, none] (by decide) (Nat.le_of_ble_eq_true rfl) rfl rfl ?_
  rintro X rfl hr rfl B
  show AW X 0 0 0 _ _ _ _
  obtain ⟨e0⟩ : Nonempty Unit := ⟨()⟩
  have e2 : (nI n + 1) / 2 = nI ((n + 1) / 2) := by
    rw [nI_1]; exact pk_div (by omega) (by decide) (by decide)
  refine aw_aload_n B 0 rfl dX12_needsOf_0 rfl ?_
  refine m_get B f_X12_9 dX12_needsOf_1 rfl ?_
  refine aw_bipush B 16 (by decide) dX12_needsOf_4 ?_
  refine aw_iload_n B 2 rfl dX12_needsOf_6 rfl ?_
  refine aw_iadd B dX12_needsOf_7 ?_
  refine m_ld B (16 + s) (ix_c 16 rfl) (by show _ < 899; omega) dX12_needsOf_8 (by decide) ?_
  refine aw_istore3 B dX12_needsOf_9 ?_
  refine aw_iload_n B 3 rfl dX12_needsOf_10 rfl ?_
  refine aw_iconst B 1 (by decide) dX12_needsOf_11 ?_
  refine aw_iadd B dX12_needsOf_12 ?_
  refine aw_iconst B 2 (by decide) dX12_needsOf_13 ?_
  refine aw_idiv B (by decide) dX12_needsOf_14 ?_
  refine aw_istore4 B dX12_needsOf_15 ?_
  refine aw_aload_n B 0 rfl dX12_needsOf_17 rfl ?_
  refine m_get B f_X12_9 dX12_needsOf_18 rfl ?_
  refine aw_bipush B 22 (by decide) dX12_needsOf_21 ?_
  refine aw_iload_n B 1 rfl dX12_needsOf_23 rfl ?_
  refine aw_iadd B dX12_needsOf_24 ?_
  refine m_ld B (22 + r) (ix_c 22 rfl) (by show _ < 899; omega) dX12_needsOf_25 (by decide) ?_
  rcases (show k = 0 ∨ k = 1 ∨ k = 2 ∨ k = 3 ∨ k = 4 ∨ k = 5 ∨ k = 6 by omega) with rfl | rfl | rfl | rfl | rfl | rfl | rfl
  · rw [ek, show nI 0 = (0 : Int32) from rfl]
    refine aw_tableOut B 96 dX12_needsOf_26 (by decide) ?_
    refine aw_iload_n B 3 rfl dX12_needsOf_96 rfl ?_
    refine aw_iret B rfl rfl dX12_needsOf_97 ?_
    exact ⟨_, rfl, by rw [en]; rfl, rfl⟩
  · rw [ek, show nI 1 = (1 : Int32) from rfl]
    refine aw_tableIn (off := 34) B 60 dX12_needsOf_26 (by decide) (by decide) (by decide) ?_
    refine aw_iload B dX12_needsOf_60 rfl ?_
    refine aw_iret B rfl rfl dX12_needsOf_62 ?_
    exact ⟨_, rfl, by rw [en, e2]; rfl, rfl⟩
  · rw [ek, show nI 2 = (2 : Int32) from rfl]
    refine aw_tableIn (off := 70) B 96 dX12_needsOf_26 (by decide) (by decide) (by decide) ?_
    refine aw_iload_n B 3 rfl dX12_needsOf_96 rfl ?_
    refine aw_iret B rfl rfl dX12_needsOf_97 ?_
    exact ⟨_, rfl, by rw [en]; rfl, rfl⟩
  · rw [ek, show nI 3 = (3 : Int32) from rfl]
    refine aw_tableIn (off := 70) B 96 dX12_needsOf_26 (by decide) (by decide) (by decide) ?_
    refine aw_iload_n B 3 rfl dX12_needsOf_96 rfl ?_
    refine aw_iret B rfl rfl dX12_needsOf_97 ?_
    exact ⟨_, rfl, by rw [en]; rfl, rfl⟩
  · rw [ek, show nI 4 = (4 : Int32) from rfl]
    refine aw_tableIn (off := 37) B 63 dX12_needsOf_26 (by decide) (by decide) (by decide) ?_
    refine aw_aload_n B 0 rfl dX12_needsOf_63 rfl ?_
    refine m_get B f_X12_9 dX12_needsOf_64 rfl ?_
    refine aw_bipush B 26 (by decide) dX12_needsOf_67 ?_
    refine aw_iload_n B 1 rfl dX12_needsOf_69 rfl ?_
    refine aw_iadd B dX12_needsOf_70 ?_
    refine m_ld B (26 + r) (ix_c 26 rfl) (by show _ < 899; omega) dX12_needsOf_71 (by decide) ?_
    refine aw_iconst B 4 (by decide) dX12_needsOf_72 ?_
    refine aw_icmp_le B 89 dX12_needsOf_73 (fun c73 => ?_) (fun c73 => ?_)
    · refine aw_iload B dX12_needsOf_89 rfl ?_
      refine aw_iret B rfl rfl dX12_needsOf_91 ?_
      have hv4 : ¬ 4 < v := fun z => absurd ((nI_leI (a := v) (b := 4) (by omega) (by decide)).mp (by rw [← ev]; exact c73)) (by omega)
      exact ⟨_, rfl, by rw [en, e2]; simp [p_needs, hv4], rfl⟩
    · refine aw_iload B dX12_needsOf_76 rfl ?_
      refine aw_iconst B 1 (by decide) dX12_needsOf_78 ?_
      refine aw_icmp_le B 89 dX12_needsOf_79 (fun c79 => ?_) (fun c79 => ?_)
      · refine aw_iload B dX12_needsOf_89 rfl ?_
        refine aw_iret B rfl rfl dX12_needsOf_91 ?_
        have hq : ¬ 1 < (n + 1) / 2 := fun z => absurd ((nI_leI (a := (n + 1) / 2) (b := 1) (by omega) (by decide)).mp (by rw [← e2, ← en]; exact c79)) (by omega)
        exact ⟨_, rfl, by rw [en, e2]; simp [p_needs, hq], rfl⟩
      · refine aw_iload B dX12_needsOf_82 rfl ?_
        refine aw_iconst B 1 (by decide) dX12_needsOf_84 ?_
        refine aw_isub B dX12_needsOf_85 ?_
        refine aw_goto B 91 dX12_needsOf_86 ?_
        refine aw_iret B rfl rfl dX12_needsOf_91 ?_
        have hv4 : 4 < v := Nat.not_le.mp fun z => c73 (by rw [ev]; exact nI_le (b := 4) z (by decide))
        have hq : 1 < (n + 1) / 2 := Nat.not_le.mp fun z => c79 (by rw [en, e2]; exact nI_le (b := 1) z (by decide))
        exact ⟨_, rfl, by
          rw [en, e2, show nI ((n + 1) / 2) - 1 = nI ((n + 1) / 2 - 1) from pk_sub (a := (n + 1) / 2) (b := 1) (by omega)]
          simp [p_needs, hv4, hq], rfl⟩
  · rw [ek, show nI 5 = (5 : Int32) from rfl]
    refine aw_tableIn (off := 66) B 92 dX12_needsOf_26 (by decide) (by decide) (by decide) ?_
    refine aw_iconst B 2 (by decide) dX12_needsOf_92 ?_
    refine aw_iload_n B 3 rfl dX12_needsOf_93 rfl ?_
    refine aw_imul B dX12_needsOf_94 ?_
    refine aw_iret B rfl rfl dX12_needsOf_95 ?_
    exact ⟨_, rfl, by rw [en]; exact pk_mul 2 n, rfl⟩
  · rw [ek, show nI 6 = (6 : Int32) from rfl]
    refine aw_tableOut B 96 dX12_needsOf_26 (by decide) ?_
    refine aw_iload_n B 3 rfl dX12_needsOf_96 rfl ?_
    refine aw_iret B rfl rfl dX12_needsOf_97 ?_
    exact ⟨_, rfl, by rw [en]; rfl, rfl⟩
def iS (S : Nat → Int32) (n0 : Nat) : Prop := n0 ≤ 6 ∧ S 0 = nI n0 ∧ ∀ k, k < n0 → rng (S (10 + k)) 0 8 ∧ rng (S (16 + k)) 1 4
def iR (S : Nat → Int32) (n1 : Nat) : Prop := n1 ≤ 4 ∧ S 1 = nI n1 ∧ ∀ k, k < n1 → rng (S (22 + k)) 0 6 ∧ rng (S (26 + k)) 0 9
theorem iS.rng {S : Nat → Int32} {n0 : Nat} (h : iS S n0) : rng (S 0) 0 6 := ⟨n0, Nat.zero_le _, h.1, h.2.1⟩
theorem iR.rng {S : Nat → Int32} {n1 : Nat} (h : iR S n1) : rng (S 1) 0 4 := ⟨n1, Nat.zero_le _, h.1, h.2.1⟩
def q_needs (S : Nat → Int32) (x y : Int32) : Int32 × (Nat → Int32) := (if bI (0 ≤ x ∧ x ≤ S 1 - 1) = 0 then -1 else if bI (0 ≤ y ∧ y ≤ S 0 - 1) = 0 then -1 else nI (p_needs (S (22 + x.toNatClampNeg)).toNatClampNeg (S (26 + x.toNatClampNeg)).toNatClampNeg (S (16 + y.toNatClampNeg)).toNatClampNeg), S)
theorem dX12_needs_0 : decode cX12_needs 0 = .ok (.aload_n 0, 1) := by decide +kernel
theorem dX12_needs_1 : decode cX12_needs 1 = .ok (.iload_n 1, 1) := by decide +kernel
theorem dX12_needs_2 : decode cX12_needs 2 = .ok (.invokevirtual 144, 3) := by decide +kernel
theorem dX12_needs_5 : decode cX12_needs 5 = .ok (.ifCond .eq 20, 3) := by decide +kernel
theorem dX12_needs_8 : decode cX12_needs 8 = .ok (.aload_n 0, 1) := by decide +kernel
theorem dX12_needs_9 : decode cX12_needs 9 = .ok (.iload_n 2, 1) := by decide +kernel
theorem dX12_needs_10 : decode cX12_needs 10 = .ok (.invokevirtual 141, 3) := by decide +kernel
theorem dX12_needs_13 : decode cX12_needs 13 = .ok (.ifCond .eq 12, 3) := by decide +kernel
theorem dX12_needs_16 : decode cX12_needs 16 = .ok (.aload_n 0, 1) := by decide +kernel
theorem dX12_needs_17 : decode cX12_needs 17 = .ok (.iload_n 1, 1) := by decide +kernel
theorem dX12_needs_18 : decode cX12_needs 18 = .ok (.iload_n 2, 1) := by decide +kernel
theorem dX12_needs_19 : decode cX12_needs 19 = .ok (.invokevirtual 147, 3) := by decide +kernel
theorem dX12_needs_22 : decode cX12_needs 22 = .ok (.goto 4, 3) := by decide +kernel
theorem dX12_needs_25 : decode cX12_needs 25 = .ok (.iconst (-1), 1) := by decide +kernel
theorem dX12_needs_26 : decode cX12_needs 26 = .ok (.ireturn, 1) := by decide +kernel
set_option maxRecDepth 100000 in
set_option maxHeartbeats 4000000 in
theorem s_needs (l : Launch) (g : zG) (h : Hp) (m : Nat) (F : Nat → Int32) (A : Nat → Nat → Int32) (x y : Int32) (n0 n1 : Nat) (hs : iS (A 1) n0) (hq : iR (A 1) n1) : Sp l g yX12_needs cX12_needs 3 (some .int) (rmz 3) [.ref m, .int x, .int y] (hM g h m F A) (zI (mres g h m F A (q_needs (A 1) x y))) := by
  refine Sp.of [some (.ref m), some (.int x), some (.int y)] (by decide) (Nat.le_of_ble_eq_true rfl) rfl rfl ?_
  rintro X rfl hr rfl B
  show AW X 0 0 0 _ _ _ _
  refine aw_aload_n B 0 rfl dX12_needs_0 rfl ?_
  refine aw_iload_n B 1 rfl dX12_needs_1 rfl ?_
  refine aw_callV B 0 0 (s_isReader _ _ _ _ _ _ _) co_X12_isReader k_X12_144 dX12_needs_2 hM_o rfl rfl rfl rfl (Nat.le_of_ble_eq_true rfl) (zrm hr (by decide)) (Nat.le_refl _) (Nat.le_refl _) (kI fun r2 h2 hp2 => ?_)
  obtain ⟨rfl, rfl⟩ := hp2
  refine aw_if_eq B 25 dX12_needs_5 (fun c5 => ?_) (fun c5 => ?_)
  · refine aw_iconst B (-1) (by decide) dX12_needs_25 ?_
    refine aw_iret B rfl rfl dX12_needs_26 ?_
    exact ⟨_, rfl, by (try simp (disch := omega) only [mup_s, mup_m, mup_i, upd_s, upd_n]); (try simp_all [q_needs, mup_s, mup_m, mup_i, upd_s, upd_n]), by (try simp (disch := omega) only [mup_s, mup_m, mup_i, upd_s, upd_n]); (try simp_all [q_needs, mup_s, mup_m, mup_i, upd_s, upd_n])⟩
  · refine aw_aload_n B 0 rfl dX12_needs_8 rfl ?_
    refine aw_iload_n B 2 rfl dX12_needs_9 rfl ?_
    refine aw_callV B 0 0 (s_isSlate _ _ _ _ _ _ _) co_X12_isSlate k_X12_141 dX12_needs_10 hM_o rfl rfl rfl rfl (Nat.le_of_ble_eq_true rfl) (zrm hr (by decide)) (Nat.le_refl _) (Nat.le_refl _) (kI fun r10 h10 hp10 => ?_)
    obtain ⟨rfl, rfl⟩ := hp10
    refine aw_if_eq B 25 dX12_needs_13 (fun c13 => ?_) (fun c13 => ?_)
    · refine aw_iconst B (-1) (by decide) dX12_needs_25 ?_
      refine aw_iret B rfl rfl dX12_needs_26 ?_
      exact ⟨_, rfl, by (try simp (disch := omega) only [mup_s, mup_m, mup_i, upd_s, upd_n]); (try simp_all [q_needs, mup_s, mup_m, mup_i, upd_s, upd_n]), by (try simp (disch := omega) only [mup_s, mup_m, mup_i, upd_s, upd_n]); (try simp_all [q_needs, mup_s, mup_m, mup_i, upd_s, upd_n])⟩
    · obtain ⟨r, hr4, rfl⟩ := in_cnt (of_bI c5) (by have := hq.1; omega) hq.2.1
      obtain ⟨s, hs6, rfl⟩ := in_cnt (of_bI c13) (by have := hs.1; omega) hs.2.1
      obtain ⟨⟨k, -, hk, ek⟩, v, -, hv, ev⟩ := hq.2.2 r hr4
      obtain ⟨-, n, hn1, hn, en⟩ := hs.2.2 s hs6
      have z1 := hq.1
      have z2 := hs.1
      have e1 : (nI r).toNatClampNeg = r := nI_clamp (by omega)
      have e2 : (nI s).toNatClampNeg = s := nI_clamp (by omega)
      have e3 : (nI k).toNatClampNeg = k := nI_clamp (by omega)
      have e4 : (nI v).toNatClampNeg = v := nI_clamp (by omega)
      have e5 : (nI n).toNatClampNeg = n := nI_clamp (by omega)
      refine aw_aload_n B 0 rfl dX12_needs_16 rfl ?_
      refine aw_iload_n B 1 rfl dX12_needs_17 rfl ?_
      refine aw_iload_n B 2 rfl dX12_needs_18 rfl ?_
      refine aw_callV B 0 0 (s_needsOf _ _ _ _ _ _ r s k v n (by omega) (by omega) hk hv hn ek ev en) co_X12_needsOf k_X12_147 dX12_needs_19 hM_o rfl rfl rfl rfl (Nat.le_of_ble_eq_true rfl) (zrm hr (by decide)) (Nat.le_refl _) (Nat.le_refl _) (kI fun r19 h19 hp19 => ?_)
      obtain ⟨rfl, rfl⟩ := hp19
      refine aw_goto B 26 dX12_needs_22 ?_
      refine aw_iret B rfl rfl dX12_needs_26 ?_
      exact ⟨_, rfl, by (try simp (disch := omega) only [mup_s, mup_m, mup_i, upd_s, upd_n]); (try simp_all [q_needs, mup_s, mup_m, mup_i, upd_s, upd_n]), by (try simp (disch := omega) only [mup_s, mup_m, mup_i, upd_s, upd_n]); (try simp_all [q_needs, mup_s, mup_m, mup_i, upd_s, upd_n])⟩
def q_ask (S : Nat → Int32) (x y z : Int32) : Int32 × (Nat → Int32) := if x = -1 then (0, upd S 3 0) else if bI (0 ≤ x ∧ x ≤ S 1 - 1) = 0 then (-1, S) else if bI (0 ≤ y ∧ y ≤ S 0 - 1) = 0 then (-1, S) else if bI (0 ≤ z ∧ z ≤ 24) = 0 then (-2, S) else if S 3 = 8 then (-4, S) else (S 3 + 1, upd (upd (upd (upd S (30 + (S 3).toNatClampNeg) x) (38 + (S 3).toNatClampNeg) y) (46 + (S 3).toNatClampNeg) z) 3 (S 3 + 1))
theorem dX12_ask_0 : decode cX12_ask 0 = .ok (.iload_n 1, 1) := by decide +kernel
theorem dX12_ask_1 : decode cX12_ask 1 = .ok (.iconst (-1), 1) := by decide +kernel
theorem dX12_ask_2 : decode cX12_ask 2 = .ok (.if_icmp .ne 12, 3) := by decide +kernel
theorem dX12_ask_5 : decode cX12_ask 5 = .ok (.aload_n 0, 1) := by decide +kernel
theorem dX12_ask_6 : decode cX12_ask 6 = .ok (.getfield 9, 3) := by decide +kernel
theorem dX12_ask_9 : decode cX12_ask 9 = .ok (.iconst 3, 1) := by decide +kernel
theorem dX12_ask_10 : decode cX12_ask 10 = .ok (.iconst 0, 1) := by decide +kernel
theorem dX12_ask_11 : decode cX12_ask 11 = .ok (.iastore, 1) := by decide +kernel
theorem dX12_ask_12 : decode cX12_ask 12 = .ok (.iconst 0, 1) := by decide +kernel
theorem dX12_ask_13 : decode cX12_ask 13 = .ok (.ireturn, 1) := by decide +kernel
theorem dX12_ask_14 : decode cX12_ask 14 = .ok (.aload_n 0, 1) := by decide +kernel
theorem dX12_ask_15 : decode cX12_ask 15 = .ok (.iload_n 1, 1) := by decide +kernel
theorem dX12_ask_16 : decode cX12_ask 16 = .ok (.invokevirtual 144, 3) := by decide +kernel
theorem dX12_ask_19 : decode cX12_ask 19 = .ok (.ifCond .eq 11, 3) := by decide +kernel
theorem dX12_ask_22 : decode cX12_ask 22 = .ok (.aload_n 0, 1) := by decide +kernel
theorem dX12_ask_23 : decode cX12_ask 23 = .ok (.iload_n 2, 1) := by decide +kernel
theorem dX12_ask_24 : decode cX12_ask 24 = .ok (.invokevirtual 141, 3) := by decide +kernel
theorem dX12_ask_27 : decode cX12_ask 27 = .ok (.ifCond .ne 5, 3) := by decide +kernel
theorem dX12_ask_30 : decode cX12_ask 30 = .ok (.iconst (-1), 1) := by decide +kernel
theorem dX12_ask_31 : decode cX12_ask 31 = .ok (.ireturn, 1) := by decide +kernel
theorem dX12_ask_32 : decode cX12_ask 32 = .ok (.iload_n 3, 1) := by decide +kernel
theorem dX12_ask_33 : decode cX12_ask 33 = .ok (.iconst 0, 1) := by decide +kernel
theorem dX12_ask_34 : decode cX12_ask 34 = .ok (.bipush 24, 2) := by decide +kernel
theorem dX12_ask_36 : decode cX12_ask 36 = .ok (.invokestatic 44, 3) := by decide +kernel
theorem dX12_ask_39 : decode cX12_ask 39 = .ok (.ifCond .ne 6, 3) := by decide +kernel
theorem dX12_ask_42 : decode cX12_ask 42 = .ok (.bipush (-2), 2) := by decide +kernel
theorem dX12_ask_44 : decode cX12_ask 44 = .ok (.ireturn, 1) := by decide +kernel
theorem dX12_ask_45 : decode cX12_ask 45 = .ok (.aload_n 0, 1) := by decide +kernel
theorem dX12_ask_46 : decode cX12_ask 46 = .ok (.getfield 9, 3) := by decide +kernel
theorem dX12_ask_49 : decode cX12_ask 49 = .ok (.iconst 3, 1) := by decide +kernel
theorem dX12_ask_50 : decode cX12_ask 50 = .ok (.iaload, 1) := by decide +kernel
theorem dX12_ask_51 : decode cX12_ask 51 = .ok (.bipush 8, 2) := by decide +kernel
theorem dX12_ask_53 : decode cX12_ask 53 = .ok (.if_icmp .ne 6, 3) := by decide +kernel
theorem dX12_ask_56 : decode cX12_ask 56 = .ok (.bipush (-4), 2) := by decide +kernel
theorem dX12_ask_58 : decode cX12_ask 58 = .ok (.ireturn, 1) := by decide +kernel
theorem dX12_ask_59 : decode cX12_ask 59 = .ok (.aload_n 0, 1) := by decide +kernel
theorem dX12_ask_60 : decode cX12_ask 60 = .ok (.getfield 9, 3) := by decide +kernel
theorem dX12_ask_63 : decode cX12_ask 63 = .ok (.bipush 30, 2) := by decide +kernel
theorem dX12_ask_65 : decode cX12_ask 65 = .ok (.aload_n 0, 1) := by decide +kernel
theorem dX12_ask_66 : decode cX12_ask 66 = .ok (.getfield 9, 3) := by decide +kernel
theorem dX12_ask_69 : decode cX12_ask 69 = .ok (.iconst 3, 1) := by decide +kernel
theorem dX12_ask_70 : decode cX12_ask 70 = .ok (.iaload, 1) := by decide +kernel
theorem dX12_ask_71 : decode cX12_ask 71 = .ok (.iadd, 1) := by decide +kernel
theorem dX12_ask_72 : decode cX12_ask 72 = .ok (.iload_n 1, 1) := by decide +kernel
theorem dX12_ask_73 : decode cX12_ask 73 = .ok (.iastore, 1) := by decide +kernel
theorem dX12_ask_74 : decode cX12_ask 74 = .ok (.aload_n 0, 1) := by decide +kernel
theorem dX12_ask_75 : decode cX12_ask 75 = .ok (.getfield 9, 3) := by decide +kernel
theorem dX12_ask_78 : decode cX12_ask 78 = .ok (.bipush 38, 2) := by decide +kernel
theorem dX12_ask_80 : decode cX12_ask 80 = .ok (.aload_n 0, 1) := by decide +kernel
theorem dX12_ask_81 : decode cX12_ask 81 = .ok (.getfield 9, 3) := by decide +kernel
theorem dX12_ask_84 : decode cX12_ask 84 = .ok (.iconst 3, 1) := by decide +kernel
theorem dX12_ask_85 : decode cX12_ask 85 = .ok (.iaload, 1) := by decide +kernel
theorem dX12_ask_86 : decode cX12_ask 86 = .ok (.iadd, 1) := by decide +kernel
theorem dX12_ask_87 : decode cX12_ask 87 = .ok (.iload_n 2, 1) := by decide +kernel
theorem dX12_ask_88 : decode cX12_ask 88 = .ok (.iastore, 1) := by decide +kernel
theorem dX12_ask_89 : decode cX12_ask 89 = .ok (.aload_n 0, 1) := by decide +kernel
theorem dX12_ask_90 : decode cX12_ask 90 = .ok (.getfield 9, 3) := by decide +kernel
theorem dX12_ask_93 : decode cX12_ask 93 = .ok (.bipush 46, 2) := by decide +kernel
theorem dX12_ask_95 : decode cX12_ask 95 = .ok (.aload_n 0, 1) := by decide +kernel
theorem dX12_ask_96 : decode cX12_ask 96 = .ok (.getfield 9, 3) := by decide +kernel
theorem dX12_ask_99 : decode cX12_ask 99 = .ok (.iconst 3, 1) := by decide +kernel
theorem dX12_ask_100 : decode cX12_ask 100 = .ok (.iaload, 1) := by decide +kernel
theorem dX12_ask_101 : decode cX12_ask 101 = .ok (.iadd, 1) := by decide +kernel
theorem dX12_ask_102 : decode cX12_ask 102 = .ok (.iload_n 3, 1) := by decide +kernel
theorem dX12_ask_103 : decode cX12_ask 103 = .ok (.iastore, 1) := by decide +kernel
theorem dX12_ask_104 : decode cX12_ask 104 = .ok (.aload_n 0, 1) := by decide +kernel
theorem dX12_ask_105 : decode cX12_ask 105 = .ok (.getfield 9, 3) := by decide +kernel
theorem dX12_ask_108 : decode cX12_ask 108 = .ok (.iconst 3, 1) := by decide +kernel
theorem dX12_ask_109 : decode cX12_ask 109 = .ok (.dup2, 1) := by decide +kernel
theorem dX12_ask_110 : decode cX12_ask 110 = .ok (.iaload, 1) := by decide +kernel
theorem dX12_ask_111 : decode cX12_ask 111 = .ok (.iconst 1, 1) := by decide +kernel
theorem dX12_ask_112 : decode cX12_ask 112 = .ok (.iadd, 1) := by decide +kernel
theorem dX12_ask_113 : decode cX12_ask 113 = .ok (.iastore, 1) := by decide +kernel
theorem dX12_ask_114 : decode cX12_ask 114 = .ok (.aload_n 0, 1) := by decide +kernel
theorem dX12_ask_115 : decode cX12_ask 115 = .ok (.getfield 9, 3) := by decide +kernel
theorem dX12_ask_118 : decode cX12_ask 118 = .ok (.iconst 3, 1) := by decide +kernel
theorem dX12_ask_119 : decode cX12_ask 119 = .ok (.iaload, 1) := by decide +kernel
theorem dX12_ask_120 : decode cX12_ask 120 = .ok (.ireturn, 1) := by decide +kernel
set_option maxRecDepth 100000 in
set_option maxHeartbeats 4000000 in
theorem s_ask (l : Launch) (g : zG) (h : Hp) (m : Nat) (F : Nat → Int32) (A : Nat → Nat → Int32) (x y z : Int32) (ht : rng (A 1 3) 0 8) : Sp l g yX12_ask cX12_ask 4 (some .int) (rmz 3) [.ref m, .int x, .int y, .int z] (hM g h m F A) (zI (mres g h m F A (q_ask (A 1) x y z))) := by
  refine Sp.of [some (.ref m), some (.int x), some (.int y), some (.int z)] (by decide) (Nat.le_of_ble_eq_true rfl) rfl rfl ?_
  rintro X rfl hr rfl B
  show AW X 0 0 0 _ _ _ _
  obtain ⟨t, -, ht, et⟩ := ht
  have ek : (A 1 3).toNatClampNeg = t := by rw [et, nI_clamp (by omega)]
  refine aw_iload_n B 1 rfl dX12_ask_0 rfl ?_
  refine aw_iconst B (-1) (by decide) dX12_ask_1 ?_
  refine aw_icmp_ne B 14 dX12_ask_2 (fun c2 => ?_) (fun c2 => ?_)
  · refine aw_aload_n B 0 rfl dX12_ask_14 rfl ?_
    refine aw_iload_n B 1 rfl dX12_ask_15 rfl ?_
    refine aw_callV B 0 0 (s_isReader _ _ _ _ _ _ _) co_X12_isReader k_X12_144 dX12_ask_16 hM_o rfl rfl rfl rfl (Nat.le_of_ble_eq_true rfl) (zrm hr (by decide)) (Nat.le_refl _) (Nat.le_refl _) (kI fun r16 h16 hp16 => ?_)
    obtain ⟨rfl, rfl⟩ := hp16
    refine aw_if_eq B 30 dX12_ask_19 (fun c19 => ?_) (fun c19 => ?_)
    · refine aw_iconst B (-1) (by decide) dX12_ask_30 ?_
      refine aw_iret B rfl rfl dX12_ask_31 ?_
      exact ⟨_, rfl, by (try simp (disch := omega) only [mup_s, mup_m, mup_i, upd_s, upd_n]); (try simp_all [q_ask, mup_s, mup_m, mup_i, upd_s, upd_n]), by (try simp (disch := omega) only [mup_s, mup_m, mup_i, upd_s, upd_n]); (try simp_all [q_ask, mup_s, mup_m, mup_i, upd_s, upd_n])⟩
    · refine aw_aload_n B 0 rfl dX12_ask_22 rfl ?_
      refine aw_iload_n B 2 rfl dX12_ask_23 rfl ?_
      refine aw_callV B 0 0 (s_isSlate _ _ _ _ _ _ _) co_X12_isSlate k_X12_141 dX12_ask_24 hM_o rfl rfl rfl rfl (Nat.le_of_ble_eq_true rfl) (zrm hr (by decide)) (Nat.le_refl _) (Nat.le_refl _) (kI fun r24 h24 hp24 => ?_)
      obtain ⟨rfl, rfl⟩ := hp24
      refine aw_if_ne B 32 dX12_ask_27 (fun c27 => ?_) (fun c27 => ?_)
      · refine aw_iload_n B 3 rfl dX12_ask_32 rfl ?_
        refine aw_iconst B 0 (by decide) dX12_ask_33 ?_
        refine aw_bipush B 24 (by decide) dX12_ask_34 ?_
        refine aw_callS B 0 0 (s_in _ _ _ _ _ _) co_X12_in k_X12_44 dX12_ask_36 rfl rfl (Nat.le_of_ble_eq_true rfl) (zrm hr (by decide)) (Nat.le_refl _) (Nat.le_refl _) (kI fun r36 h36 hp36 => ?_)
        obtain ⟨rfl, rfl⟩ := hp36
        refine aw_if_ne B 45 dX12_ask_39 (fun c39 => ?_) (fun c39 => ?_)
        · refine aw_aload_n B 0 rfl dX12_ask_45 rfl ?_
          refine m_get B f_X12_9 dX12_ask_46 rfl ?_
          refine aw_iconst B 3 (by decide) dX12_ask_49 ?_
          refine m_ld B (3) (rfl) ((by decide)) dX12_ask_50 (by decide) ?_
          refine aw_bipush B 8 (by decide) dX12_ask_51 ?_
          refine aw_icmp_ne B 59 dX12_ask_53 (fun c53 => ?_) (fun c53 => ?_)
          · have hlt : t < 8 := by
              rcases Nat.lt_or_ge t 8 with z | z
              · exact z
              · exact absurd (by rw [et, show t = 8 by omega]; rfl) c53
            refine aw_aload_n B 0 rfl dX12_ask_59 rfl ?_
            refine m_get B f_X12_9 dX12_ask_60 rfl ?_
            refine aw_bipush B 30 (by decide) dX12_ask_63 ?_
            refine aw_aload_n B 0 rfl dX12_ask_65 rfl ?_
            refine m_get B f_X12_9 dX12_ask_66 rfl ?_
            refine aw_iconst B 3 (by decide) dX12_ask_69 ?_
            refine m_ld B (3) (rfl) ((by decide)) dX12_ask_70 (by decide) ?_
            refine aw_iadd B dX12_ask_71 ?_
            refine aw_iload_n B 1 rfl dX12_ask_72 rfl ?_
            refine m_st B (30 + t) (by (try rw [mup_s]); (try rw [mup_s]); (try rw [upd_n (by omega)]); (try rw [upd_n (by omega)]); exact ix_c 30 et) (by show _ < 899; omega) dX12_ask_73 (by decide) ?_
            refine aw_aload_n B 0 rfl dX12_ask_74 rfl ?_
            refine m_get B f_X12_9 dX12_ask_75 rfl ?_
            refine aw_bipush B 38 (by decide) dX12_ask_78 ?_
            refine aw_aload_n B 0 rfl dX12_ask_80 rfl ?_
            refine m_get B f_X12_9 dX12_ask_81 rfl ?_
            refine aw_iconst B 3 (by decide) dX12_ask_84 ?_
            refine m_ld B (3) (rfl) ((by decide)) dX12_ask_85 (by decide) ?_
            refine aw_iadd B dX12_ask_86 ?_
            refine aw_iload_n B 2 rfl dX12_ask_87 rfl ?_
            refine m_st B (38 + t) (by (try rw [mup_s]); (try rw [mup_s]); (try rw [upd_n (by omega)]); (try rw [upd_n (by omega)]); exact ix_c 38 et) (by show _ < 899; omega) dX12_ask_88 (by decide) ?_
            refine aw_aload_n B 0 rfl dX12_ask_89 rfl ?_
            refine m_get B f_X12_9 dX12_ask_90 rfl ?_
            refine aw_bipush B 46 (by decide) dX12_ask_93 ?_
            refine aw_aload_n B 0 rfl dX12_ask_95 rfl ?_
            refine m_get B f_X12_9 dX12_ask_96 rfl ?_
            refine aw_iconst B 3 (by decide) dX12_ask_99 ?_
            refine m_ld B (3) (rfl) ((by decide)) dX12_ask_100 (by decide) ?_
            refine aw_iadd B dX12_ask_101 ?_
            refine aw_iload_n B 3 rfl dX12_ask_102 rfl ?_
            refine m_st B (46 + t) (by (try rw [mup_s]); (try rw [mup_s]); (try rw [upd_n (by omega)]); (try rw [upd_n (by omega)]); exact ix_c 46 et) (by show _ < 899; omega) dX12_ask_103 (by decide) ?_
            refine aw_aload_n B 0 rfl dX12_ask_104 rfl ?_
            refine m_get B f_X12_9 dX12_ask_105 rfl ?_
            refine aw_iconst B 3 (by decide) dX12_ask_108 ?_
            refine aw_dup2 B rfl rfl dX12_ask_109 ?_
            refine m_ld B (3) (rfl) ((by decide)) dX12_ask_110 (by decide) ?_
            refine aw_iconst B 1 (by decide) dX12_ask_111 ?_
            refine aw_iadd B dX12_ask_112 ?_
            refine m_st B (3) (rfl) ((by decide)) dX12_ask_113 (by decide) ?_
            refine aw_aload_n B 0 rfl dX12_ask_114 rfl ?_
            refine m_get B f_X12_9 dX12_ask_115 rfl ?_
            refine aw_iconst B 3 (by decide) dX12_ask_118 ?_
            refine m_ld B (3) (rfl) ((by decide)) dX12_ask_119 (by decide) ?_
            refine aw_iret B rfl rfl dX12_ask_120 ?_
            exact ⟨_, rfl, by (try simp (disch := omega) only [mup_s, mup_m, mup_i, upd_s, upd_n]); (try simp_all [q_ask, mup_s, mup_m, mup_i, upd_s, upd_n]), by (try simp (disch := omega) only [mup_s, mup_m, mup_i, upd_s, upd_n]); (try simp_all [q_ask, mup_s, mup_m, mup_i, upd_s, upd_n])⟩
          · refine aw_bipush B (-4) (by decide) dX12_ask_56 ?_
            refine aw_iret B rfl rfl dX12_ask_58 ?_
            exact ⟨_, rfl, by (try simp (disch := omega) only [mup_s, mup_m, mup_i, upd_s, upd_n]); (try simp_all [q_ask, mup_s, mup_m, mup_i, upd_s, upd_n]), by (try simp (disch := omega) only [mup_s, mup_m, mup_i, upd_s, upd_n]); (try simp_all [q_ask, mup_s, mup_m, mup_i, upd_s, upd_n])⟩
        · refine aw_bipush B (-2) (by decide) dX12_ask_42 ?_
          refine aw_iret B rfl rfl dX12_ask_44 ?_
          exact ⟨_, rfl, by (try simp (disch := omega) only [mup_s, mup_m, mup_i, upd_s, upd_n]); (try simp_all [q_ask, mup_s, mup_m, mup_i, upd_s, upd_n]), by (try simp (disch := omega) only [mup_s, mup_m, mup_i, upd_s, upd_n]); (try simp_all [q_ask, mup_s, mup_m, mup_i, upd_s, upd_n])⟩
      · refine aw_iconst B (-1) (by decide) dX12_ask_30 ?_
        refine aw_iret B rfl rfl dX12_ask_31 ?_
        exact ⟨_, rfl, by (try simp (disch := omega) only [mup_s, mup_m, mup_i, upd_s, upd_n]); (try simp_all [q_ask, mup_s, mup_m, mup_i, upd_s, upd_n]), by (try simp (disch := omega) only [mup_s, mup_m, mup_i, upd_s, upd_n]); (try simp_all [q_ask, mup_s, mup_m, mup_i, upd_s, upd_n])⟩
  · refine aw_aload_n B 0 rfl dX12_ask_5 rfl ?_
    refine m_get B f_X12_9 dX12_ask_6 rfl ?_
    refine aw_iconst B 3 (by decide) dX12_ask_9 ?_
    refine aw_iconst B 0 (by decide) dX12_ask_10 ?_
    refine m_st B (3) (rfl) ((by decide)) dX12_ask_11 (by decide) ?_
    refine aw_iconst B 0 (by decide) dX12_ask_12 ?_
    refine aw_iret B rfl rfl dX12_ask_13 ?_
    exact ⟨_, rfl, by (try simp (disch := omega) only [mup_s, mup_m, mup_i, upd_s, upd_n]); (try simp_all [q_ask, mup_s, mup_m, mup_i, upd_s, upd_n]), by (try simp (disch := omega) only [mup_s, mup_m, mup_i, upd_s, upd_n]); (try simp_all [q_ask, mup_s, mup_m, mup_i, upd_s, upd_n])⟩
def q_tale (S : Nat → Int32) (x y z : Int32) : Int32 × (Nat → Int32) := if x = -1 then (0, upd S 5 0) else if bI (0 ≤ x ∧ x ≤ S 1 - 1) = 0 then (-1, S) else if bI (0 ≤ y ∧ y ≤ S 0 - 1) = 0 then (-1, S) else if bI (0 ≤ z ∧ z ≤ 60) = 0 then (-2, S) else if S 5 = 8 then (-4, S) else (S 5 + 1, upd (upd (upd (upd S (70 + (S 5).toNatClampNeg) x) (78 + (S 5).toNatClampNeg) y) (86 + (S 5).toNatClampNeg) z) 5 (S 5 + 1))
theorem dX12_tale_0 : decode cX12_tale 0 = .ok (.iload_n 1, 1) := by decide +kernel
theorem dX12_tale_1 : decode cX12_tale 1 = .ok (.iconst (-1), 1) := by decide +kernel
theorem dX12_tale_2 : decode cX12_tale 2 = .ok (.if_icmp .ne 12, 3) := by decide +kernel
theorem dX12_tale_5 : decode cX12_tale 5 = .ok (.aload_n 0, 1) := by decide +kernel
theorem dX12_tale_6 : decode cX12_tale 6 = .ok (.getfield 9, 3) := by decide +kernel
theorem dX12_tale_9 : decode cX12_tale 9 = .ok (.iconst 5, 1) := by decide +kernel
theorem dX12_tale_10 : decode cX12_tale 10 = .ok (.iconst 0, 1) := by decide +kernel
theorem dX12_tale_11 : decode cX12_tale 11 = .ok (.iastore, 1) := by decide +kernel
theorem dX12_tale_12 : decode cX12_tale 12 = .ok (.iconst 0, 1) := by decide +kernel
theorem dX12_tale_13 : decode cX12_tale 13 = .ok (.ireturn, 1) := by decide +kernel
theorem dX12_tale_14 : decode cX12_tale 14 = .ok (.aload_n 0, 1) := by decide +kernel
theorem dX12_tale_15 : decode cX12_tale 15 = .ok (.iload_n 1, 1) := by decide +kernel
theorem dX12_tale_16 : decode cX12_tale 16 = .ok (.invokevirtual 144, 3) := by decide +kernel
theorem dX12_tale_19 : decode cX12_tale 19 = .ok (.ifCond .eq 11, 3) := by decide +kernel
theorem dX12_tale_22 : decode cX12_tale 22 = .ok (.aload_n 0, 1) := by decide +kernel
theorem dX12_tale_23 : decode cX12_tale 23 = .ok (.iload_n 2, 1) := by decide +kernel
theorem dX12_tale_24 : decode cX12_tale 24 = .ok (.invokevirtual 141, 3) := by decide +kernel
theorem dX12_tale_27 : decode cX12_tale 27 = .ok (.ifCond .ne 5, 3) := by decide +kernel
theorem dX12_tale_30 : decode cX12_tale 30 = .ok (.iconst (-1), 1) := by decide +kernel
theorem dX12_tale_31 : decode cX12_tale 31 = .ok (.ireturn, 1) := by decide +kernel
theorem dX12_tale_32 : decode cX12_tale 32 = .ok (.iload_n 3, 1) := by decide +kernel
theorem dX12_tale_33 : decode cX12_tale 33 = .ok (.iconst 0, 1) := by decide +kernel
theorem dX12_tale_34 : decode cX12_tale 34 = .ok (.bipush 60, 2) := by decide +kernel
theorem dX12_tale_36 : decode cX12_tale 36 = .ok (.invokestatic 44, 3) := by decide +kernel
theorem dX12_tale_39 : decode cX12_tale 39 = .ok (.ifCond .ne 6, 3) := by decide +kernel
theorem dX12_tale_42 : decode cX12_tale 42 = .ok (.bipush (-2), 2) := by decide +kernel
theorem dX12_tale_44 : decode cX12_tale 44 = .ok (.ireturn, 1) := by decide +kernel
theorem dX12_tale_45 : decode cX12_tale 45 = .ok (.aload_n 0, 1) := by decide +kernel
theorem dX12_tale_46 : decode cX12_tale 46 = .ok (.getfield 9, 3) := by decide +kernel
theorem dX12_tale_49 : decode cX12_tale 49 = .ok (.iconst 5, 1) := by decide +kernel
theorem dX12_tale_50 : decode cX12_tale 50 = .ok (.iaload, 1) := by decide +kernel
theorem dX12_tale_51 : decode cX12_tale 51 = .ok (.bipush 8, 2) := by decide +kernel
theorem dX12_tale_53 : decode cX12_tale 53 = .ok (.if_icmp .ne 6, 3) := by decide +kernel
theorem dX12_tale_56 : decode cX12_tale 56 = .ok (.bipush (-4), 2) := by decide +kernel
theorem dX12_tale_58 : decode cX12_tale 58 = .ok (.ireturn, 1) := by decide +kernel
theorem dX12_tale_59 : decode cX12_tale 59 = .ok (.aload_n 0, 1) := by decide +kernel
theorem dX12_tale_60 : decode cX12_tale 60 = .ok (.getfield 9, 3) := by decide +kernel
theorem dX12_tale_63 : decode cX12_tale 63 = .ok (.bipush 70, 2) := by decide +kernel
theorem dX12_tale_65 : decode cX12_tale 65 = .ok (.aload_n 0, 1) := by decide +kernel
theorem dX12_tale_66 : decode cX12_tale 66 = .ok (.getfield 9, 3) := by decide +kernel
theorem dX12_tale_69 : decode cX12_tale 69 = .ok (.iconst 5, 1) := by decide +kernel
theorem dX12_tale_70 : decode cX12_tale 70 = .ok (.iaload, 1) := by decide +kernel
theorem dX12_tale_71 : decode cX12_tale 71 = .ok (.iadd, 1) := by decide +kernel
theorem dX12_tale_72 : decode cX12_tale 72 = .ok (.iload_n 1, 1) := by decide +kernel
theorem dX12_tale_73 : decode cX12_tale 73 = .ok (.iastore, 1) := by decide +kernel
theorem dX12_tale_74 : decode cX12_tale 74 = .ok (.aload_n 0, 1) := by decide +kernel
theorem dX12_tale_75 : decode cX12_tale 75 = .ok (.getfield 9, 3) := by decide +kernel
theorem dX12_tale_78 : decode cX12_tale 78 = .ok (.bipush 78, 2) := by decide +kernel
theorem dX12_tale_80 : decode cX12_tale 80 = .ok (.aload_n 0, 1) := by decide +kernel
theorem dX12_tale_81 : decode cX12_tale 81 = .ok (.getfield 9, 3) := by decide +kernel
theorem dX12_tale_84 : decode cX12_tale 84 = .ok (.iconst 5, 1) := by decide +kernel
theorem dX12_tale_85 : decode cX12_tale 85 = .ok (.iaload, 1) := by decide +kernel
theorem dX12_tale_86 : decode cX12_tale 86 = .ok (.iadd, 1) := by decide +kernel
theorem dX12_tale_87 : decode cX12_tale 87 = .ok (.iload_n 2, 1) := by decide +kernel
theorem dX12_tale_88 : decode cX12_tale 88 = .ok (.iastore, 1) := by decide +kernel
theorem dX12_tale_89 : decode cX12_tale 89 = .ok (.aload_n 0, 1) := by decide +kernel
theorem dX12_tale_90 : decode cX12_tale 90 = .ok (.getfield 9, 3) := by decide +kernel
theorem dX12_tale_93 : decode cX12_tale 93 = .ok (.bipush 86, 2) := by decide +kernel
theorem dX12_tale_95 : decode cX12_tale 95 = .ok (.aload_n 0, 1) := by decide +kernel
theorem dX12_tale_96 : decode cX12_tale 96 = .ok (.getfield 9, 3) := by decide +kernel
theorem dX12_tale_99 : decode cX12_tale 99 = .ok (.iconst 5, 1) := by decide +kernel
theorem dX12_tale_100 : decode cX12_tale 100 = .ok (.iaload, 1) := by decide +kernel
theorem dX12_tale_101 : decode cX12_tale 101 = .ok (.iadd, 1) := by decide +kernel
theorem dX12_tale_102 : decode cX12_tale 102 = .ok (.iload_n 3, 1) := by decide +kernel
theorem dX12_tale_103 : decode cX12_tale 103 = .ok (.iastore, 1) := by decide +kernel
theorem dX12_tale_104 : decode cX12_tale 104 = .ok (.aload_n 0, 1) := by decide +kernel
theorem dX12_tale_105 : decode cX12_tale 105 = .ok (.getfield 9, 3) := by decide +kernel
theorem dX12_tale_108 : decode cX12_tale 108 = .ok (.iconst 5, 1) := by decide +kernel
theorem dX12_tale_109 : decode cX12_tale 109 = .ok (.dup2, 1) := by decide +kernel
theorem dX12_tale_110 : decode cX12_tale 110 = .ok (.iaload, 1) := by decide +kernel
theorem dX12_tale_111 : decode cX12_tale 111 = .ok (.iconst 1, 1) := by decide +kernel
theorem dX12_tale_112 : decode cX12_tale 112 = .ok (.iadd, 1) := by decide +kernel
theorem dX12_tale_113 : decode cX12_tale 113 = .ok (.iastore, 1) := by decide +kernel
theorem dX12_tale_114 : decode cX12_tale 114 = .ok (.aload_n 0, 1) := by decide +kernel
theorem dX12_tale_115 : decode cX12_tale 115 = .ok (.getfield 9, 3) := by decide +kernel
theorem dX12_tale_118 : decode cX12_tale 118 = .ok (.iconst 5, 1) := by decide +kernel
theorem dX12_tale_119 : decode cX12_tale 119 = .ok (.iaload, 1) := by decide +kernel
theorem dX12_tale_120 : decode cX12_tale 120 = .ok (.ireturn, 1) := by decide +kernel
set_option maxRecDepth 100000 in
set_option maxHeartbeats 4000000 in
theorem s_tale (l : Launch) (g : zG) (h : Hp) (m : Nat) (F : Nat → Int32) (A : Nat → Nat → Int32) (x y z : Int32) (ht : rng (A 1 5) 0 8) : Sp l g yX12_tale cX12_tale 4 (some .int) (rmz 3) [.ref m, .int x, .int y, .int z] (hM g h m F A) (zI (mres g h m F A (q_tale (A 1) x y z))) := by
  refine Sp.of [some (.ref m), some (.int x), some (.int y), some (.int z)] (by decide) (Nat.le_of_ble_eq_true rfl) rfl rfl ?_
  rintro X rfl hr rfl B
  show AW X 0 0 0 _ _ _ _
  obtain ⟨t, -, ht, et⟩ := ht
  have ek : (A 1 5).toNatClampNeg = t := by rw [et, nI_clamp (by omega)]
  refine aw_iload_n B 1 rfl dX12_tale_0 rfl ?_
  refine aw_iconst B (-1) (by decide) dX12_tale_1 ?_
  refine aw_icmp_ne B 14 dX12_tale_2 (fun c2 => ?_) (fun c2 => ?_)
  · refine aw_aload_n B 0 rfl dX12_tale_14 rfl ?_
    refine aw_iload_n B 1 rfl dX12_tale_15 rfl ?_
    refine aw_callV B 0 0 (s_isReader _ _ _ _ _ _ _) co_X12_isReader k_X12_144 dX12_tale_16 hM_o rfl rfl rfl rfl (Nat.le_of_ble_eq_true rfl) (zrm hr (by decide)) (Nat.le_refl _) (Nat.le_refl _) (kI fun r16 h16 hp16 => ?_)
    obtain ⟨rfl, rfl⟩ := hp16
    refine aw_if_eq B 30 dX12_tale_19 (fun c19 => ?_) (fun c19 => ?_)
    · refine aw_iconst B (-1) (by decide) dX12_tale_30 ?_
      refine aw_iret B rfl rfl dX12_tale_31 ?_
      exact ⟨_, rfl, by (try simp (disch := omega) only [mup_s, mup_m, mup_i, upd_s, upd_n]); (try simp_all [q_tale, mup_s, mup_m, mup_i, upd_s, upd_n]), by (try simp (disch := omega) only [mup_s, mup_m, mup_i, upd_s, upd_n]); (try simp_all [q_tale, mup_s, mup_m, mup_i, upd_s, upd_n])⟩
    · refine aw_aload_n B 0 rfl dX12_tale_22 rfl ?_
      refine aw_iload_n B 2 rfl dX12_tale_23 rfl ?_
      refine aw_callV B 0 0 (s_isSlate _ _ _ _ _ _ _) co_X12_isSlate k_X12_141 dX12_tale_24 hM_o rfl rfl rfl rfl (Nat.le_of_ble_eq_true rfl) (zrm hr (by decide)) (Nat.le_refl _) (Nat.le_refl _) (kI fun r24 h24 hp24 => ?_)
      obtain ⟨rfl, rfl⟩ := hp24
      refine aw_if_ne B 32 dX12_tale_27 (fun c27 => ?_) (fun c27 => ?_)
      · refine aw_iload_n B 3 rfl dX12_tale_32 rfl ?_
        refine aw_iconst B 0 (by decide) dX12_tale_33 ?_
        refine aw_bipush B 60 (by decide) dX12_tale_34 ?_
        refine aw_callS B 0 0 (s_in _ _ _ _ _ _) co_X12_in k_X12_44 dX12_tale_36 rfl rfl (Nat.le_of_ble_eq_true rfl) (zrm hr (by decide)) (Nat.le_refl _) (Nat.le_refl _) (kI fun r36 h36 hp36 => ?_)
        obtain ⟨rfl, rfl⟩ := hp36
        refine aw_if_ne B 45 dX12_tale_39 (fun c39 => ?_) (fun c39 => ?_)
        · refine aw_aload_n B 0 rfl dX12_tale_45 rfl ?_
          refine m_get B f_X12_9 dX12_tale_46 rfl ?_
          refine aw_iconst B 5 (by decide) dX12_tale_49 ?_
          refine m_ld B (5) (rfl) ((by decide)) dX12_tale_50 (by decide) ?_
          refine aw_bipush B 8 (by decide) dX12_tale_51 ?_
          refine aw_icmp_ne B 59 dX12_tale_53 (fun c53 => ?_) (fun c53 => ?_)
          · have hlt : t < 8 := by
              rcases Nat.lt_or_ge t 8 with z | z
              · exact z
              · exact absurd (by rw [et, show t = 8 by omega]; rfl) c53
            refine aw_aload_n B 0 rfl dX12_tale_59 rfl ?_
            refine m_get B f_X12_9 dX12_tale_60 rfl ?_
            refine aw_bipush B 70 (by decide) dX12_tale_63 ?_
            refine aw_aload_n B 0 rfl dX12_tale_65 rfl ?_
            refine m_get B f_X12_9 dX12_tale_66 rfl ?_
            refine aw_iconst B 5 (by decide) dX12_tale_69 ?_
            refine m_ld B (5) (rfl) ((by decide)) dX12_tale_70 (by decide) ?_
            refine aw_iadd B dX12_tale_71 ?_
            refine aw_iload_n B 1 rfl dX12_tale_72 rfl ?_
            refine m_st B (70 + t) (by (try rw [mup_s]); (try rw [mup_s]); (try rw [upd_n (by omega)]); (try rw [upd_n (by omega)]); exact ix_c 70 et) (by show _ < 899; omega) dX12_tale_73 (by decide) ?_
            refine aw_aload_n B 0 rfl dX12_tale_74 rfl ?_
            refine m_get B f_X12_9 dX12_tale_75 rfl ?_
            refine aw_bipush B 78 (by decide) dX12_tale_78 ?_
            refine aw_aload_n B 0 rfl dX12_tale_80 rfl ?_
            refine m_get B f_X12_9 dX12_tale_81 rfl ?_
            refine aw_iconst B 5 (by decide) dX12_tale_84 ?_
            refine m_ld B (5) (rfl) ((by decide)) dX12_tale_85 (by decide) ?_
            refine aw_iadd B dX12_tale_86 ?_
            refine aw_iload_n B 2 rfl dX12_tale_87 rfl ?_
            refine m_st B (78 + t) (by (try rw [mup_s]); (try rw [mup_s]); (try rw [upd_n (by omega)]); (try rw [upd_n (by omega)]); exact ix_c 78 et) (by show _ < 899; omega) dX12_tale_88 (by decide) ?_
            refine aw_aload_n B 0 rfl dX12_tale_89 rfl ?_
            refine m_get B f_X12_9 dX12_tale_90 rfl ?_
            refine aw_bipush B 86 (by decide) dX12_tale_93 ?_
            refine aw_aload_n B 0 rfl dX12_tale_95 rfl ?_
            refine m_get B f_X12_9 dX12_tale_96 rfl ?_
            refine aw_iconst B 5 (by decide) dX12_tale_99 ?_
            refine m_ld B (5) (rfl) ((by decide)) dX12_tale_100 (by decide) ?_
            refine aw_iadd B dX12_tale_101 ?_
            refine aw_iload_n B 3 rfl dX12_tale_102 rfl ?_
            refine m_st B (86 + t) (by (try rw [mup_s]); (try rw [mup_s]); (try rw [upd_n (by omega)]); (try rw [upd_n (by omega)]); exact ix_c 86 et) (by show _ < 899; omega) dX12_tale_103 (by decide) ?_
            refine aw_aload_n B 0 rfl dX12_tale_104 rfl ?_
            refine m_get B f_X12_9 dX12_tale_105 rfl ?_
            refine aw_iconst B 5 (by decide) dX12_tale_108 ?_
            refine aw_dup2 B rfl rfl dX12_tale_109 ?_
            refine m_ld B (5) (rfl) ((by decide)) dX12_tale_110 (by decide) ?_
            refine aw_iconst B 1 (by decide) dX12_tale_111 ?_
            refine aw_iadd B dX12_tale_112 ?_
            refine m_st B (5) (rfl) ((by decide)) dX12_tale_113 (by decide) ?_
            refine aw_aload_n B 0 rfl dX12_tale_114 rfl ?_
            refine m_get B f_X12_9 dX12_tale_115 rfl ?_
            refine aw_iconst B 5 (by decide) dX12_tale_118 ?_
            refine m_ld B (5) (rfl) ((by decide)) dX12_tale_119 (by decide) ?_
            refine aw_iret B rfl rfl dX12_tale_120 ?_
            exact ⟨_, rfl, by (try simp (disch := omega) only [mup_s, mup_m, mup_i, upd_s, upd_n]); (try simp_all [q_tale, mup_s, mup_m, mup_i, upd_s, upd_n]), by (try simp (disch := omega) only [mup_s, mup_m, mup_i, upd_s, upd_n]); (try simp_all [q_tale, mup_s, mup_m, mup_i, upd_s, upd_n])⟩
          · refine aw_bipush B (-4) (by decide) dX12_tale_56 ?_
            refine aw_iret B rfl rfl dX12_tale_58 ?_
            exact ⟨_, rfl, by (try simp (disch := omega) only [mup_s, mup_m, mup_i, upd_s, upd_n]); (try simp_all [q_tale, mup_s, mup_m, mup_i, upd_s, upd_n]), by (try simp (disch := omega) only [mup_s, mup_m, mup_i, upd_s, upd_n]); (try simp_all [q_tale, mup_s, mup_m, mup_i, upd_s, upd_n])⟩
        · refine aw_bipush B (-2) (by decide) dX12_tale_42 ?_
          refine aw_iret B rfl rfl dX12_tale_44 ?_
          exact ⟨_, rfl, by (try simp (disch := omega) only [mup_s, mup_m, mup_i, upd_s, upd_n]); (try simp_all [q_tale, mup_s, mup_m, mup_i, upd_s, upd_n]), by (try simp (disch := omega) only [mup_s, mup_m, mup_i, upd_s, upd_n]); (try simp_all [q_tale, mup_s, mup_m, mup_i, upd_s, upd_n])⟩
      · refine aw_iconst B (-1) (by decide) dX12_tale_30 ?_
        refine aw_iret B rfl rfl dX12_tale_31 ?_
        exact ⟨_, rfl, by (try simp (disch := omega) only [mup_s, mup_m, mup_i, upd_s, upd_n]); (try simp_all [q_tale, mup_s, mup_m, mup_i, upd_s, upd_n]), by (try simp (disch := omega) only [mup_s, mup_m, mup_i, upd_s, upd_n]); (try simp_all [q_tale, mup_s, mup_m, mup_i, upd_s, upd_n])⟩
  · refine aw_aload_n B 0 rfl dX12_tale_5 rfl ?_
    refine m_get B f_X12_9 dX12_tale_6 rfl ?_
    refine aw_iconst B 5 (by decide) dX12_tale_9 ?_
    refine aw_iconst B 0 (by decide) dX12_tale_10 ?_
    refine m_st B (5) (rfl) ((by decide)) dX12_tale_11 (by decide) ?_
    refine aw_iconst B 0 (by decide) dX12_tale_12 ?_
    refine aw_iret B rfl rfl dX12_tale_13 ?_
    exact ⟨_, rfl, by (try simp (disch := omega) only [mup_s, mup_m, mup_i, upd_s, upd_n]); (try simp_all [q_tale, mup_s, mup_m, mup_i, upd_s, upd_n]), by (try simp (disch := omega) only [mup_s, mup_m, mup_i, upd_s, upd_n]); (try simp_all [q_tale, mup_s, mup_m, mup_i, upd_s, upd_n])⟩

def q_count (S : Nat → Int32) (ran x : Int32) : Int32 × (Nat → Int32) := (if x = 7 then ran else if bI (0 ≤ x ∧ x ≤ 6) = 0 then -1 else S x.toNatClampNeg, S)
theorem dX12_count_0 : decode cX12_count 0 = .ok (.iload_n 1, 1) := by decide +kernel
theorem dX12_count_1 : decode cX12_count 1 = .ok (.lookupswitch 24 #[(7, 19)], 19) := by decide +kernel
theorem dX12_count_20 : decode cX12_count 20 = .ok (.aload_n 0, 1) := by decide +kernel
theorem dX12_count_21 : decode cX12_count 21 = .ok (.getfield 209, 3) := by decide +kernel
theorem dX12_count_24 : decode cX12_count 24 = .ok (.ireturn, 1) := by decide +kernel
theorem dX12_count_25 : decode cX12_count 25 = .ok (.iload_n 1, 1) := by decide +kernel
theorem dX12_count_26 : decode cX12_count 26 = .ok (.iconst 0, 1) := by decide +kernel
theorem dX12_count_27 : decode cX12_count 27 = .ok (.bipush 6, 2) := by decide +kernel
theorem dX12_count_29 : decode cX12_count 29 = .ok (.invokestatic 44, 3) := by decide +kernel
theorem dX12_count_32 : decode cX12_count 32 = .ok (.ifCond .eq 12, 3) := by decide +kernel
theorem dX12_count_35 : decode cX12_count 35 = .ok (.aload_n 0, 1) := by decide +kernel
theorem dX12_count_36 : decode cX12_count 36 = .ok (.getfield 9, 3) := by decide +kernel
theorem dX12_count_39 : decode cX12_count 39 = .ok (.iload_n 1, 1) := by decide +kernel
theorem dX12_count_40 : decode cX12_count 40 = .ok (.iaload, 1) := by decide +kernel
theorem dX12_count_41 : decode cX12_count 41 = .ok (.goto 4, 3) := by decide +kernel
theorem dX12_count_44 : decode cX12_count 44 = .ok (.iconst (-1), 1) := by decide +kernel
theorem dX12_count_45 : decode cX12_count 45 = .ok (.ireturn, 1) := by decide +kernel
set_option maxRecDepth 100000 in
set_option maxHeartbeats 4000000 in
theorem s_count (l : Launch) (g : zG) (h : Hp) (m : Nat) (F : Nat → Int32) (A : Nat → Nat → Int32) (x : Int32) : Sp l g yX12_count cX12_count 2 (some .int) (rmz 2) [.ref m, .int x] (hM g h m F A) (zI (mres g h m F A (q_count (A 1) (F 20) x))) := by
  refine Sp.of [some (.ref m), some (.int x)] (by decide) (Nat.le_of_ble_eq_true rfl) rfl rfl ?_
  rintro X rfl hr rfl B
  show AW X 0 0 0 _ _ _ _
  refine aw_iload_n B 1 rfl dX12_count_0 rfl ?_
  by_cases hx : x = 7
  · subst hx
    refine aw_lookup (off := 19) B 20 dX12_count_1 (by decide) ?_
    refine aw_aload_n B 0 rfl dX12_count_20 rfl ?_
    refine m_get B f_X12_209 dX12_count_21 rfl ?_
    refine aw_iret B rfl rfl dX12_count_24 ?_
    exact ⟨_, rfl, by (try simp (disch := omega) only [mup_s, mup_m, mup_i, upd_s, upd_n]); (try simp_all [q_count, mup_s, mup_m, mup_i, upd_s, upd_n]), by (try simp (disch := omega) only [mup_s, mup_m, mup_i, upd_s, upd_n]); (try simp_all [q_count, mup_s, mup_m, mup_i, upd_s, upd_n])⟩
  · have hx7 : ¬ x.toInt = 7 := fun z => hx (Int32.toInt_inj.mp z)
    refine aw_lookup (off := 24) B 25 dX12_count_1 (by simp [Op.lookupswitch.offset, Ne.symm hx7]) ?_
    refine aw_iload_n B 1 rfl dX12_count_25 rfl ?_
    refine aw_iconst B 0 (by decide) dX12_count_26 ?_
    refine aw_bipush B 6 (by decide) dX12_count_27 ?_
    refine aw_callS B 0 0 (s_in _ _ _ _ _ _) co_X12_in k_X12_44 dX12_count_29 rfl rfl (Nat.le_of_ble_eq_true rfl) (zrm hr (by decide)) (Nat.le_refl _) (Nat.le_refl _) (kI fun r29 h29 hp29 => ?_)
    obtain ⟨rfl, rfl⟩ := hp29
    refine aw_if_eq B 44 dX12_count_32 (fun c32 => ?_) (fun c32 => ?_)
    · refine aw_iconst B (-1) (by decide) dX12_count_44 ?_
      refine aw_iret B rfl rfl dX12_count_45 ?_
      exact ⟨_, rfl, by (try simp (disch := omega) only [mup_s, mup_m, mup_i, upd_s, upd_n]); (try simp_all [q_count, mup_s, mup_m, mup_i, upd_s, upd_n]), by (try simp (disch := omega) only [mup_s, mup_m, mup_i, upd_s, upd_n]); (try simp_all [q_count, mup_s, mup_m, mup_i, upd_s, upd_n])⟩
    · obtain ⟨k, -, hk, rfl⟩ := in_rng (lo := 0) (hi := 6) (of_bI c32) (by decide) (by decide)
      have ek : (nI k).toNatClampNeg = k := nI_clamp (by omega)
      refine aw_aload_n B 0 rfl dX12_count_35 rfl ?_
      refine m_get B f_X12_9 dX12_count_36 rfl ?_
      refine aw_iload_n B 1 rfl dX12_count_39 rfl ?_
      refine m_ld B (k) (rfl) (by show _ < 899; omega) dX12_count_40 (by decide) ?_
      refine aw_goto B 45 dX12_count_41 ?_
      refine aw_iret B rfl rfl dX12_count_45 ?_
      exact ⟨_, rfl, by (try simp (disch := omega) only [mup_s, mup_m, mup_i, upd_s, upd_n]); (try simp_all [q_count, mup_s, mup_m, mup_i, upd_s, upd_n]), by (try simp (disch := omega) only [mup_s, mup_m, mup_i, upd_s, upd_n]); (try simp_all [q_count, mup_s, mup_m, mup_i, upd_s, upd_n])⟩
def q_trace (S : Nat → Int32) (ran : Int32) (tr : Nat → Int32) (x : Int32) : Int32 × (Nat → Int32) := (if bI (0 ≤ x ∧ x ≤ (if ran < 20 then ran else 20) - 1) = 0 then -1 else tr x.toNatClampNeg, S)
theorem tr_n {x : Int32} {n : Nat} (e : x = nI n) (hn : n ≤ 100) : (if x < 20 then x else 20) = nI (min n 20) := by
  subst e
  by_cases h : n < 20
  · rw [if_pos (show nI n < (20 : Int32) from nI_lt (b := 20) h (by decide)), Nat.min_eq_left (by omega)]
  · rw [if_neg (show ¬ nI n < (20 : Int32) from nI_nlt (a := n) (b := 20) (by omega) (by omega)), Nat.min_eq_right (by omega)]; rfl
theorem dX12_trace_0 : decode cX12_trace 0 = .ok (.iload_n 1, 1) := by decide +kernel
theorem dX12_trace_1 : decode cX12_trace 1 = .ok (.iconst 0, 1) := by decide +kernel
theorem dX12_trace_2 : decode cX12_trace 2 = .ok (.aload_n 0, 1) := by decide +kernel
theorem dX12_trace_3 : decode cX12_trace 3 = .ok (.getfield 209, 3) := by decide +kernel
theorem dX12_trace_6 : decode cX12_trace 6 = .ok (.bipush 20, 2) := by decide +kernel
theorem dX12_trace_8 : decode cX12_trace 8 = .ok (.if_icmp .ge 10, 3) := by decide +kernel
theorem dX12_trace_11 : decode cX12_trace 11 = .ok (.aload_n 0, 1) := by decide +kernel
theorem dX12_trace_12 : decode cX12_trace 12 = .ok (.getfield 209, 3) := by decide +kernel
theorem dX12_trace_15 : decode cX12_trace 15 = .ok (.goto 5, 3) := by decide +kernel
theorem dX12_trace_18 : decode cX12_trace 18 = .ok (.bipush 20, 2) := by decide +kernel
theorem dX12_trace_20 : decode cX12_trace 20 = .ok (.iconst 1, 1) := by decide +kernel
theorem dX12_trace_21 : decode cX12_trace 21 = .ok (.isub, 1) := by decide +kernel
theorem dX12_trace_22 : decode cX12_trace 22 = .ok (.invokestatic 44, 3) := by decide +kernel
theorem dX12_trace_25 : decode cX12_trace 25 = .ok (.ifCond .eq 12, 3) := by decide +kernel
theorem dX12_trace_28 : decode cX12_trace 28 = .ok (.aload_n 0, 1) := by decide +kernel
theorem dX12_trace_29 : decode cX12_trace 29 = .ok (.getfield 37, 3) := by decide +kernel
theorem dX12_trace_32 : decode cX12_trace 32 = .ok (.iload_n 1, 1) := by decide +kernel
theorem dX12_trace_33 : decode cX12_trace 33 = .ok (.iaload, 1) := by decide +kernel
theorem dX12_trace_34 : decode cX12_trace 34 = .ok (.goto 4, 3) := by decide +kernel
theorem dX12_trace_37 : decode cX12_trace 37 = .ok (.iconst (-1), 1) := by decide +kernel
theorem dX12_trace_38 : decode cX12_trace 38 = .ok (.ireturn, 1) := by decide +kernel
set_option maxRecDepth 100000 in
set_option maxHeartbeats 4000000 in
theorem s_trace (l : Launch) (g : zG) (h : Hp) (m : Nat) (F : Nat → Int32) (A : Nat → Nat → Int32) (x : Int32) (hn : rng (F 20) 0 100) : Sp l g yX12_trace cX12_trace 2 (some .int) (rmz 2) [.ref m, .int x] (hM g h m F A) (zI (mres g h m F A (q_trace (A 1) (F 20) (A 9) x))) := by
  refine Sp.of [some (.ref m), some (.int x)] (by decide) (Nat.le_of_ble_eq_true rfl) rfl rfl ?_
  rintro X rfl hr rfl B
  show AW X 0 0 0 _ _ _ _
  obtain ⟨n, -, hn, en⟩ := hn
  have eT := tr_n en hn
  refine aw_iload_n B 1 rfl dX12_trace_0 rfl ?_
  refine aw_iconst B 0 (by decide) dX12_trace_1 ?_
  refine aw_aload_n B 0 rfl dX12_trace_2 rfl ?_
  refine m_get B f_X12_209 dX12_trace_3 rfl ?_
  refine aw_bipush B 20 (by decide) dX12_trace_6 ?_
  refine aw_icmp_ge B 18 dX12_trace_8 (fun c8 => ?_) (fun c8 => ?_)
  · refine aw_bipush B 20 (by decide) dX12_trace_18 ?_
    refine aw_iconst B 1 (by decide) dX12_trace_20 ?_
    refine aw_isub B dX12_trace_21 ?_
    refine aw_callS B 0 0 (s_in _ _ _ _ _ _) co_X12_in k_X12_44 dX12_trace_22 rfl rfl (Nat.le_of_ble_eq_true rfl) (zrm hr (by decide)) (Nat.le_refl _) (Nat.le_refl _) (kI fun r22 h22 hp22 => ?_)
    obtain ⟨rfl, rfl⟩ := hp22
    refine aw_if_eq B 37 dX12_trace_25 (fun c25 => ?_) (fun c25 => ?_)
    · refine aw_iconst B (-1) (by decide) dX12_trace_37 ?_
      refine aw_iret B rfl rfl dX12_trace_38 ?_
      exact ⟨_, rfl, by simp only [q_trace, if_neg (Int32.not_lt.mpr c8), if_pos c25], by simp only [q_trace, if_neg (Int32.not_lt.mpr c8), if_pos c25]; rw [mup_i]⟩
    · obtain ⟨k, hk, rfl⟩ := in_cnt (n := min n 20) (of_bI c25) (by omega) (by first | (rw [if_pos (by assumption)] at eT; exact eT) | (rw [if_neg (Int32.not_lt.mpr c8)] at eT; exact eT) | (rw [if_pos (Int32.not_le.mp c8)] at eT; exact eT))
      have ek : (nI k).toNatClampNeg = k := nI_clamp (by omega)
      refine aw_aload_n B 0 rfl dX12_trace_28 rfl ?_
      refine m_get B f_X12_37 dX12_trace_29 rfl ?_
      refine aw_iload_n B 1 rfl dX12_trace_32 rfl ?_
      refine m_ld B (k) (rfl) (by show _ < 20; omega) dX12_trace_33 (by decide) ?_
      refine aw_goto B 38 dX12_trace_34 ?_
      refine aw_iret B rfl rfl dX12_trace_38 ?_
      exact ⟨_, rfl, by simp only [q_trace, if_neg (Int32.not_lt.mpr c8), if_neg c25, ek], by simp only [q_trace, if_neg (Int32.not_lt.mpr c8), if_neg c25, ek]; rw [mup_i]⟩
  · refine aw_aload_n B 0 rfl dX12_trace_11 rfl ?_
    refine m_get B f_X12_209 dX12_trace_12 rfl ?_
    refine aw_goto B 20 dX12_trace_15 ?_
    refine aw_iconst B 1 (by decide) dX12_trace_20 ?_
    refine aw_isub B dX12_trace_21 ?_
    refine aw_callS B 0 0 (s_in _ _ _ _ _ _) co_X12_in k_X12_44 dX12_trace_22 rfl rfl (Nat.le_of_ble_eq_true rfl) (zrm hr (by decide)) (Nat.le_refl _) (Nat.le_refl _) (kI fun r22 h22 hp22 => ?_)
    obtain ⟨rfl, rfl⟩ := hp22
    refine aw_if_eq B 37 dX12_trace_25 (fun c25 => ?_) (fun c25 => ?_)
    · refine aw_iconst B (-1) (by decide) dX12_trace_37 ?_
      refine aw_iret B rfl rfl dX12_trace_38 ?_
      exact ⟨_, rfl, by simp only [q_trace, if_pos (Int32.not_le.mp c8), if_pos c25], by simp only [q_trace, if_pos (Int32.not_le.mp c8), if_pos c25]; rw [mup_i]⟩
    · obtain ⟨k, hk, rfl⟩ := in_cnt (n := min n 20) (of_bI c25) (by omega) (by first | (rw [if_pos (by assumption)] at eT; exact eT) | (rw [if_neg (Int32.not_lt.mpr c8)] at eT; exact eT) | (rw [if_pos (Int32.not_le.mp c8)] at eT; exact eT))
      have ek : (nI k).toNatClampNeg = k := nI_clamp (by omega)
      refine aw_aload_n B 0 rfl dX12_trace_28 rfl ?_
      refine m_get B f_X12_37 dX12_trace_29 rfl ?_
      refine aw_iload_n B 1 rfl dX12_trace_32 rfl ?_
      refine m_ld B (k) (rfl) (by show _ < 20; omega) dX12_trace_33 (by decide) ?_
      refine aw_goto B 38 dX12_trace_34 ?_
      refine aw_iret B rfl rfl dX12_trace_38 ?_
      exact ⟨_, rfl, by simp only [q_trace, if_pos (Int32.not_le.mp c8), if_neg c25, ek], by simp only [q_trace, if_pos (Int32.not_le.mp c8), if_neg c25, ek]; rw [mup_i]⟩
def p_under (kind k : Int32) : Int32 := if k = 0 then 1 else if k = kind then 1 else if k ≤ 0 then 0 else if 4 ≤ k then 0 else if kind = k + 3 then 1 else 0
theorem dX12_isUnder_0 : decode cX12_isUnder 0 = .ok (.iload_n 1, 1) := by decide +kernel
theorem dX12_isUnder_1 : decode cX12_isUnder 1 = .ok (.ifCond .eq 24, 3) := by decide +kernel
theorem dX12_isUnder_4 : decode cX12_isUnder 4 = .ok (.iload_n 1, 1) := by decide +kernel
theorem dX12_isUnder_5 : decode cX12_isUnder 5 = .ok (.iload_n 0, 1) := by decide +kernel
theorem dX12_isUnder_6 : decode cX12_isUnder 6 = .ok (.if_icmp .eq 19, 3) := by decide +kernel
theorem dX12_isUnder_9 : decode cX12_isUnder 9 = .ok (.iload_n 1, 1) := by decide +kernel
theorem dX12_isUnder_10 : decode cX12_isUnder 10 = .ok (.ifCond .le 19, 3) := by decide +kernel
theorem dX12_isUnder_13 : decode cX12_isUnder 13 = .ok (.iload_n 1, 1) := by decide +kernel
theorem dX12_isUnder_14 : decode cX12_isUnder 14 = .ok (.iconst 4, 1) := by decide +kernel
theorem dX12_isUnder_15 : decode cX12_isUnder 15 = .ok (.if_icmp .ge 14, 3) := by decide +kernel
theorem dX12_isUnder_18 : decode cX12_isUnder 18 = .ok (.iload_n 0, 1) := by decide +kernel
theorem dX12_isUnder_19 : decode cX12_isUnder 19 = .ok (.iload_n 1, 1) := by decide +kernel
theorem dX12_isUnder_20 : decode cX12_isUnder 20 = .ok (.iconst 3, 1) := by decide +kernel
theorem dX12_isUnder_21 : decode cX12_isUnder 21 = .ok (.iadd, 1) := by decide +kernel
theorem dX12_isUnder_22 : decode cX12_isUnder 22 = .ok (.if_icmp .ne 7, 3) := by decide +kernel
theorem dX12_isUnder_25 : decode cX12_isUnder 25 = .ok (.iconst 1, 1) := by decide +kernel
theorem dX12_isUnder_26 : decode cX12_isUnder 26 = .ok (.goto 4, 3) := by decide +kernel
theorem dX12_isUnder_29 : decode cX12_isUnder 29 = .ok (.iconst 0, 1) := by decide +kernel
theorem dX12_isUnder_30 : decode cX12_isUnder 30 = .ok (.ireturn, 1) := by decide +kernel
set_option maxRecDepth 100000 in
set_option maxHeartbeats 4000000 in
theorem s_isUnder (l : Launch) (g : zG) (h : Hp) (x y : Int32) : Sp l g yX12_isUnder cX12_isUnder 2 (some .boolean) (rmz 1) [.int x, .int y] (h) (zI fun r h' => r = p_under x y ∧ h' = h) := by
  refine Sp.of [some (.int x), some (.int y)] (by decide) (Nat.le_of_ble_eq_true rfl) rfl rfl ?_
  rintro X rfl hr rfl B
  show AW X 0 0 0 _ _ _ _
  refine aw_iload_n B 1 rfl dX12_isUnder_0 rfl ?_
  refine aw_if_eq B 25 dX12_isUnder_1 (fun c1 => ?_) (fun c1 => ?_)
  · refine aw_iconst B 1 (by decide) dX12_isUnder_25 ?_
    refine aw_goto B 30 dX12_isUnder_26 ?_
    refine aw_iret B rfl rfl dX12_isUnder_30 ?_
    exact ⟨_, rfl, by simp only [p_under, *]; simp, rfl⟩
  · refine aw_iload_n B 1 rfl dX12_isUnder_4 rfl ?_
    refine aw_iload_n B 0 rfl dX12_isUnder_5 rfl ?_
    refine aw_icmp_eq B 25 dX12_isUnder_6 (fun c6 => ?_) (fun c6 => ?_)
    · refine aw_iconst B 1 (by decide) dX12_isUnder_25 ?_
      refine aw_goto B 30 dX12_isUnder_26 ?_
      refine aw_iret B rfl rfl dX12_isUnder_30 ?_
      exact ⟨_, rfl, by simp only [p_under, *]; simp, rfl⟩
    · refine aw_iload_n B 1 rfl dX12_isUnder_9 rfl ?_
      refine aw_if_le B 29 dX12_isUnder_10 (fun c10 => ?_) (fun c10 => ?_)
      · refine aw_iconst B 0 (by decide) dX12_isUnder_29 ?_
        refine aw_iret B rfl rfl dX12_isUnder_30 ?_
        exact ⟨_, rfl, by simp only [p_under, *]; simp, rfl⟩
      · refine aw_iload_n B 1 rfl dX12_isUnder_13 rfl ?_
        refine aw_iconst B 4 (by decide) dX12_isUnder_14 ?_
        refine aw_icmp_ge B 29 dX12_isUnder_15 (fun c15 => ?_) (fun c15 => ?_)
        · refine aw_iconst B 0 (by decide) dX12_isUnder_29 ?_
          refine aw_iret B rfl rfl dX12_isUnder_30 ?_
          exact ⟨_, rfl, by simp only [p_under, *]; simp, rfl⟩
        · refine aw_iload_n B 0 rfl dX12_isUnder_18 rfl ?_
          refine aw_iload_n B 1 rfl dX12_isUnder_19 rfl ?_
          refine aw_iconst B 3 (by decide) dX12_isUnder_20 ?_
          refine aw_iadd B dX12_isUnder_21 ?_
          refine aw_icmp_ne B 29 dX12_isUnder_22 (fun c22 => ?_) (fun c22 => ?_)
          · refine aw_iconst B 0 (by decide) dX12_isUnder_29 ?_
            refine aw_iret B rfl rfl dX12_isUnder_30 ?_
            exact ⟨_, rfl, by simp only [p_under, *]; simp, rfl⟩
          · refine aw_iconst B 1 (by decide) dX12_isUnder_25 ?_
            refine aw_goto B 30 dX12_isUnder_26 ?_
            refine aw_iret B rfl rfl dX12_isUnder_30 ?_
            exact ⟨_, rfl, by simp only [p_under, *]; simp, rfl⟩
def q_as (S : Nat → Int32) (x y : Int32) : Int32 × (Nat → Int32) := (if bI (0 ≤ x ∧ x ≤ S 1 - 1) = 0 then -1 else if bI (0 ≤ y ∧ y ≤ 6) = 0 then -1 else if p_under (S (22 + x.toNatClampNeg)) y = 0 then -6 else S (26 + x.toNatClampNeg), S)
theorem dX12_as_0 : decode cX12_as 0 = .ok (.aload_n 0, 1) := by decide +kernel
theorem dX12_as_1 : decode cX12_as 1 = .ok (.iload_n 1, 1) := by decide +kernel
theorem dX12_as_2 : decode cX12_as 2 = .ok (.invokevirtual 144, 3) := by decide +kernel
theorem dX12_as_5 : decode cX12_as 5 = .ok (.ifCond .eq 13, 3) := by decide +kernel
theorem dX12_as_8 : decode cX12_as 8 = .ok (.iload_n 2, 1) := by decide +kernel
theorem dX12_as_9 : decode cX12_as 9 = .ok (.iconst 0, 1) := by decide +kernel
theorem dX12_as_10 : decode cX12_as 10 = .ok (.bipush 6, 2) := by decide +kernel
theorem dX12_as_12 : decode cX12_as 12 = .ok (.invokestatic 44, 3) := by decide +kernel
theorem dX12_as_15 : decode cX12_as 15 = .ok (.ifCond .ne 5, 3) := by decide +kernel
theorem dX12_as_18 : decode cX12_as 18 = .ok (.iconst (-1), 1) := by decide +kernel
theorem dX12_as_19 : decode cX12_as 19 = .ok (.ireturn, 1) := by decide +kernel
theorem dX12_as_20 : decode cX12_as 20 = .ok (.aload_n 0, 1) := by decide +kernel
theorem dX12_as_21 : decode cX12_as 21 = .ok (.getfield 9, 3) := by decide +kernel
theorem dX12_as_24 : decode cX12_as 24 = .ok (.bipush 22, 2) := by decide +kernel
theorem dX12_as_26 : decode cX12_as 26 = .ok (.iload_n 1, 1) := by decide +kernel
theorem dX12_as_27 : decode cX12_as 27 = .ok (.iadd, 1) := by decide +kernel
theorem dX12_as_28 : decode cX12_as 28 = .ok (.iaload, 1) := by decide +kernel
theorem dX12_as_29 : decode cX12_as 29 = .ok (.iload_n 2, 1) := by decide +kernel
theorem dX12_as_30 : decode cX12_as 30 = .ok (.invokestatic 221, 3) := by decide +kernel
theorem dX12_as_33 : decode cX12_as 33 = .ok (.ifCond .eq 15, 3) := by decide +kernel
theorem dX12_as_36 : decode cX12_as 36 = .ok (.aload_n 0, 1) := by decide +kernel
theorem dX12_as_37 : decode cX12_as 37 = .ok (.getfield 9, 3) := by decide +kernel
theorem dX12_as_40 : decode cX12_as 40 = .ok (.bipush 26, 2) := by decide +kernel
theorem dX12_as_42 : decode cX12_as 42 = .ok (.iload_n 1, 1) := by decide +kernel
theorem dX12_as_43 : decode cX12_as 43 = .ok (.iadd, 1) := by decide +kernel
theorem dX12_as_44 : decode cX12_as 44 = .ok (.iaload, 1) := by decide +kernel
theorem dX12_as_45 : decode cX12_as 45 = .ok (.goto 5, 3) := by decide +kernel
theorem dX12_as_48 : decode cX12_as 48 = .ok (.bipush (-6), 2) := by decide +kernel
theorem dX12_as_50 : decode cX12_as 50 = .ok (.ireturn, 1) := by decide +kernel
set_option maxRecDepth 100000 in
set_option maxHeartbeats 4000000 in
theorem s_as (l : Launch) (g : zG) (h : Hp) (m : Nat) (F : Nat → Int32) (A : Nat → Nat → Int32) (x y : Int32) (ht : rng (A 1 1) 0 4) : Sp l g yX12_as cX12_as 3 (some .int) (rmz 3) [.ref m, .int x, .int y] (hM g h m F A) (zI (mres g h m F A (q_as (A 1) x y))) := by
  refine Sp.of [some (.ref m), some (.int x), some (.int y)] (by decide) (Nat.le_of_ble_eq_true rfl) rfl rfl ?_
  rintro X rfl hr rfl B
  show AW X 0 0 0 _ _ _ _
  obtain ⟨t, -, ht, et⟩ := ht
  refine aw_aload_n B 0 rfl dX12_as_0 rfl ?_
  refine aw_iload_n B 1 rfl dX12_as_1 rfl ?_
  refine aw_callV B 0 0 (s_isReader _ _ _ _ _ _ _) co_X12_isReader k_X12_144 dX12_as_2 hM_o rfl rfl rfl rfl (Nat.le_of_ble_eq_true rfl) (zrm hr (by decide)) (Nat.le_refl _) (Nat.le_refl _) (kI fun r2 h2 hp2 => ?_)
  obtain ⟨rfl, rfl⟩ := hp2
  refine aw_if_eq B 18 dX12_as_5 (fun c5 => ?_) (fun c5 => ?_)
  · refine aw_iconst B (-1) (by decide) dX12_as_18 ?_
    refine aw_iret B rfl rfl dX12_as_19 ?_
    exact ⟨_, rfl, by (try simp (disch := omega) only [mup_s, mup_m, mup_i, upd_s, upd_n]); (try simp_all [q_as, mup_s, mup_m, mup_i, upd_s, upd_n]), by (try simp (disch := omega) only [mup_s, mup_m, mup_i, upd_s, upd_n]); (try simp_all [q_as, mup_s, mup_m, mup_i, upd_s, upd_n])⟩
  · refine aw_iload_n B 2 rfl dX12_as_8 rfl ?_
    refine aw_iconst B 0 (by decide) dX12_as_9 ?_
    refine aw_bipush B 6 (by decide) dX12_as_10 ?_
    refine aw_callS B 0 0 (s_in _ _ _ _ _ _) co_X12_in k_X12_44 dX12_as_12 rfl rfl (Nat.le_of_ble_eq_true rfl) (zrm hr (by decide)) (Nat.le_refl _) (Nat.le_refl _) (kI fun r12 h12 hp12 => ?_)
    obtain ⟨rfl, rfl⟩ := hp12
    refine aw_if_ne B 20 dX12_as_15 (fun c15 => ?_) (fun c15 => ?_)
    · obtain ⟨k, hk, rfl⟩ := in_cnt (of_bI c5) (by omega) et
      have ek : (nI k).toNatClampNeg = k := nI_clamp (by omega)
      refine aw_aload_n B 0 rfl dX12_as_20 rfl ?_
      refine m_get B f_X12_9 dX12_as_21 rfl ?_
      refine aw_bipush B 22 (by decide) dX12_as_24 ?_
      refine aw_iload_n B 1 rfl dX12_as_26 rfl ?_
      refine aw_iadd B dX12_as_27 ?_
      refine m_ld B (22 + k) (ix_c 22 rfl) (by show _ < 899; omega) dX12_as_28 (by decide) ?_
      refine aw_iload_n B 2 rfl dX12_as_29 rfl ?_
      refine aw_callS B 0 0 (s_isUnder _ _ _ _ _) co_X12_isUnder k_X12_221 dX12_as_30 rfl rfl (Nat.le_of_ble_eq_true rfl) (zrm hr (by decide)) (Nat.le_refl _) (Nat.le_refl _) (kI fun r30 h30 hp30 => ?_)
      obtain ⟨rfl, rfl⟩ := hp30
      refine aw_if_eq B 48 dX12_as_33 (fun c33 => ?_) (fun c33 => ?_)
      · refine aw_bipush B (-6) (by decide) dX12_as_48 ?_
        refine aw_iret B rfl rfl dX12_as_50 ?_
        exact ⟨_, rfl, by (try simp (disch := omega) only [mup_s, mup_m, mup_i, upd_s, upd_n]); (try simp_all [q_as, mup_s, mup_m, mup_i, upd_s, upd_n]), by (try simp (disch := omega) only [mup_s, mup_m, mup_i, upd_s, upd_n]); (try simp_all [q_as, mup_s, mup_m, mup_i, upd_s, upd_n])⟩
      · refine aw_aload_n B 0 rfl dX12_as_36 rfl ?_
        refine m_get B f_X12_9 dX12_as_37 rfl ?_
        refine aw_bipush B 26 (by decide) dX12_as_40 ?_
        refine aw_iload_n B 1 rfl dX12_as_42 rfl ?_
        refine aw_iadd B dX12_as_43 ?_
        refine m_ld B (26 + k) (ix_c 26 rfl) (by show _ < 899; omega) dX12_as_44 (by decide) ?_
        refine aw_goto B 50 dX12_as_45 ?_
        refine aw_iret B rfl rfl dX12_as_50 ?_
        exact ⟨_, rfl, by (try simp (disch := omega) only [mup_s, mup_m, mup_i, upd_s, upd_n]); (try simp_all [q_as, mup_s, mup_m, mup_i, upd_s, upd_n]), by (try simp (disch := omega) only [mup_s, mup_m, mup_i, upd_s, upd_n]); (try simp_all [q_as, mup_s, mup_m, mup_i, upd_s, upd_n])⟩
    · refine aw_iconst B (-1) (by decide) dX12_as_18 ?_
      refine aw_iret B rfl rfl dX12_as_19 ?_
      exact ⟨_, rfl, by (try simp (disch := omega) only [mup_s, mup_m, mup_i, upd_s, upd_n]); (try simp_all [q_as, mup_s, mup_m, mup_i, upd_s, upd_n]), by (try simp (disch := omega) only [mup_s, mup_m, mup_i, upd_s, upd_n]); (try simp_all [q_as, mup_s, mup_m, mup_i, upd_s, upd_n])⟩
theorem dX12_orNone_0 : decode cX12_orNone 0 = .ok (.iload_n 0, 1) := by decide +kernel
theorem dX12_orNone_1 : decode cX12_orNone 1 = .ok (.ldc 164, 2) := by decide +kernel
theorem dX12_orNone_3 : decode cX12_orNone 3 = .ok (.if_icmp .lt 8, 3) := by decide +kernel
theorem dX12_orNone_6 : decode cX12_orNone 6 = .ok (.bipush (-5), 2) := by decide +kernel
theorem dX12_orNone_8 : decode cX12_orNone 8 = .ok (.goto 4, 3) := by decide +kernel
theorem dX12_orNone_11 : decode cX12_orNone 11 = .ok (.iload_n 0, 1) := by decide +kernel
theorem dX12_orNone_12 : decode cX12_orNone 12 = .ok (.ireturn, 1) := by decide +kernel
set_option maxRecDepth 100000 in
set_option maxHeartbeats 4000000 in
theorem s_orNone (l : Launch) (g : zG) (h : Hp) (x : Int32) : Sp l g yX12_orNone cX12_orNone 1 (some .int) (rmz 1) [.int x] (h) (zI fun r h' => r = (if x < 100000 then x else -5) ∧ h' = h) := by
  refine Sp.of [some (.int x)] (by decide) (Nat.le_of_ble_eq_true rfl) rfl rfl ?_
  rintro X rfl hr rfl B
  show AW X 0 0 0 _ _ _ _
  refine aw_iload_n B 0 rfl dX12_orNone_0 rfl ?_
  refine aw_ldc B cn_X12_164 dX12_orNone_1 ?_
  refine aw_icmp_lt B 11 dX12_orNone_3 (fun c3 => ?_) (fun c3 => ?_)
  · refine aw_iload_n B 0 rfl dX12_orNone_11 rfl ?_
    refine aw_iret B rfl rfl dX12_orNone_12 ?_
    exact ⟨_, rfl, by simp [*], rfl⟩
  · refine aw_bipush B (-5) (by decide) dX12_orNone_6 ?_
    refine aw_goto B 12 dX12_orNone_8 ?_
    refine aw_iret B rfl rfl dX12_orNone_12 ?_
    exact ⟨_, rfl, by simp [*], rfl⟩
theorem dX12_isSet_0 : decode cX12_isSet 0 = .ok (.iload_n 1, 1) := by decide +kernel
theorem dX12_isSet_1 : decode cX12_isSet 1 = .ok (.ifCond .lt 18, 3) := by decide +kernel
theorem dX12_isSet_4 : decode cX12_isSet 4 = .ok (.iload_n 1, 1) := by decide +kernel
theorem dX12_isSet_5 : decode cX12_isSet 5 = .ok (.aload_n 0, 1) := by decide +kernel
theorem dX12_isSet_6 : decode cX12_isSet 6 = .ok (.getfield 9, 3) := by decide +kernel
theorem dX12_isSet_9 : decode cX12_isSet 9 = .ok (.iconst 0, 1) := by decide +kernel
theorem dX12_isSet_10 : decode cX12_isSet 10 = .ok (.iaload, 1) := by decide +kernel
theorem dX12_isSet_11 : decode cX12_isSet 11 = .ok (.ishr, 1) := by decide +kernel
theorem dX12_isSet_12 : decode cX12_isSet 12 = .ok (.ifCond .ne 7, 3) := by decide +kernel
theorem dX12_isSet_15 : decode cX12_isSet 15 = .ok (.iconst 1, 1) := by decide +kernel
theorem dX12_isSet_16 : decode cX12_isSet 16 = .ok (.goto 4, 3) := by decide +kernel
theorem dX12_isSet_19 : decode cX12_isSet 19 = .ok (.iconst 0, 1) := by decide +kernel
theorem dX12_isSet_20 : decode cX12_isSet 20 = .ok (.ireturn, 1) := by decide +kernel
set_option maxRecDepth 100000 in
set_option maxHeartbeats 4000000 in
theorem s_isSet (l : Launch) (g : zG) (h : Hp) (m : Nat) (F : Nat → Int32) (A : Nat → Nat → Int32) (x : Int32) : Sp l g yX12_isSet cX12_isSet 2 (some .boolean) (rmz 1) [.ref m, .int x] (hM g h m F A) (zI fun r h' => r = bI (0 ≤ x ∧ x >>> (A 1 0 &&& 31) = 0) ∧ h' = hM g h m F A) := by
  refine Sp.of [some (.ref m), some (.int x)] (by decide) (Nat.le_of_ble_eq_true rfl) rfl rfl ?_
  rintro X rfl hr rfl B
  show AW X 0 0 0 _ _ _ _
  refine aw_iload_n B 1 rfl dX12_isSet_0 rfl ?_
  refine aw_if_lt B 19 dX12_isSet_1 (fun c1 => ?_) (fun c1 => ?_)
  · refine aw_iconst B 0 (by decide) dX12_isSet_19 ?_
    refine aw_iret B rfl rfl dX12_isSet_20 ?_
    exact ⟨_, rfl, by unfold bI; rw [if_neg (fun z => absurd z.1 (Int32.not_le.mpr c1))], rfl⟩
  · refine aw_iload_n B 1 rfl dX12_isSet_4 rfl ?_
    refine aw_aload_n B 0 rfl dX12_isSet_5 rfl ?_
    refine m_get B f_X12_9 dX12_isSet_6 rfl ?_
    refine aw_iconst B 0 (by decide) dX12_isSet_9 ?_
    refine m_ld B (0) (rfl) ((by decide)) dX12_isSet_10 (by decide) ?_
    refine aw_ishr B dX12_isSet_11 ?_
    refine aw_if_ne B 19 dX12_isSet_12 (fun c12 => ?_) (fun c12 => ?_)
    · refine aw_iconst B 0 (by decide) dX12_isSet_19 ?_
      refine aw_iret B rfl rfl dX12_isSet_20 ?_
      exact ⟨_, rfl, by unfold bI; simp [*, Int32.not_lt.mp c1], rfl⟩
    · refine aw_iconst B 1 (by decide) dX12_isSet_15 ?_
      refine aw_goto B 20 dX12_isSet_16 ?_
      refine aw_iret B rfl rfl dX12_isSet_20 ?_
      exact ⟨_, rfl, by unfold bI; simp [*, Int32.not_lt.mp c1], rfl⟩
theorem dX12_forgets_0 : decode cX12_forgets 0 = .ok (.aload_n 0, 1) := by decide +kernel
theorem dX12_forgets_1 : decode cX12_forgets 1 = .ok (.iconst 0, 1) := by decide +kernel
theorem dX12_forgets_2 : decode cX12_forgets 2 = .ok (.putfield 130, 3) := by decide +kernel
theorem dX12_forgets_5 : decode cX12_forgets 5 = .ok (.return_, 1) := by decide +kernel
set_option maxRecDepth 100000 in
set_option maxHeartbeats 4000000 in
theorem s_forgets (l : Launch) (g : zG) (h : Hp) (m : Nat) (F : Nat → Int32) (A : Nat → Nat → Int32) : Sp l g yX12_forgets cX12_forgets 1 none (rmz 1) [.ref m] (hM g h m F A) (zV fun h' => h' = hM g h m (upd F 14 0) A) := by
  refine Sp.of [some (.ref m)] (by decide) (Nat.le_of_ble_eq_true rfl) rfl rfl ?_
  rintro X rfl hr rfl B
  show AW X 0 0 0 _ _ _ _
  refine aw_aload_n B 0 rfl dX12_forgets_0 rfl ?_
  refine aw_iconst B 0 (by decide) dX12_forgets_1 ?_
  refine m_put B f_X12_130 dX12_forgets_2 rfl (by decide) ?_
  refine aw_vret B rfl dX12_forgets_5 ?_
  exact ⟨rfl, rfl⟩
def cpy (f k : Nat → Int32) (n : Nat) : Nat → Int32 := fun j => if j < n then f j else k j
theorem cpy_0 {f k : Nat → Int32} : cpy f k 0 = k := by funext j; simp [cpy]
theorem cpy_s {f k : Nat → Int32} {n : Nat} : upd (cpy f k n) n (f n) = cpy f k (n + 1) := by
  funext j
  unfold upd cpy
  by_cases h : j = n
  · subst h; simp
  · have : (j < n + 1) ↔ j < n := by omega
    simp [h, this]
theorem i32_1 (i : Nat) : nI i + 1 = nI (i + 1) := nI_1 i
theorem dX12_image_0 : decode cX12_image 0 = .ok (.iconst 0, 1) := by decide +kernel
theorem dX12_image_1 : decode cX12_image 1 = .ok (.istore_n 1, 1) := by decide +kernel
theorem dX12_image_2 : decode cX12_image 2 = .ok (.iload_n 1, 1) := by decide +kernel
theorem dX12_image_3 : decode cX12_image 3 = .ok (.sipush 899, 3) := by decide +kernel
theorem dX12_image_6 : decode cX12_image 6 = .ok (.if_icmp .ge 21, 3) := by decide +kernel
theorem dX12_image_9 : decode cX12_image 9 = .ok (.aload_n 0, 1) := by decide +kernel
theorem dX12_image_10 : decode cX12_image 10 = .ok (.getfield 15, 3) := by decide +kernel
theorem dX12_image_13 : decode cX12_image 13 = .ok (.iload_n 1, 1) := by decide +kernel
theorem dX12_image_14 : decode cX12_image 14 = .ok (.aload_n 0, 1) := by decide +kernel
theorem dX12_image_15 : decode cX12_image 15 = .ok (.getfield 9, 3) := by decide +kernel
theorem dX12_image_18 : decode cX12_image 18 = .ok (.iload_n 1, 1) := by decide +kernel
theorem dX12_image_19 : decode cX12_image 19 = .ok (.iaload, 1) := by decide +kernel
theorem dX12_image_20 : decode cX12_image 20 = .ok (.iastore, 1) := by decide +kernel
theorem dX12_image_21 : decode cX12_image 21 = .ok (.iinc 1 1, 3) := by decide +kernel
theorem dX12_image_24 : decode cX12_image 24 = .ok (.goto (-22), 3) := by decide +kernel
theorem dX12_image_27 : decode cX12_image 27 = .ok (.aload_n 0, 1) := by decide +kernel
theorem dX12_image_28 : decode cX12_image 28 = .ok (.iconst 1, 1) := by decide +kernel
theorem dX12_image_29 : decode cX12_image 29 = .ok (.putfield 245, 3) := by decide +kernel
theorem dX12_image_32 : decode cX12_image 32 = .ok (.aload_n 0, 1) := by decide +kernel
theorem dX12_image_33 : decode cX12_image 33 = .ok (.getfield 9, 3) := by decide +kernel
theorem dX12_image_36 : decode cX12_image 36 = .ok (.iconst 0, 1) := by decide +kernel
theorem dX12_image_37 : decode cX12_image 37 = .ok (.iaload, 1) := by decide +kernel
theorem dX12_image_38 : decode cX12_image 38 = .ok (.ireturn, 1) := by decide +kernel
set_option maxRecDepth 100000 in
set_option maxHeartbeats 4000000 in
theorem s_image (l : Launch) (g : zG) (h : Hp) (m : Nat) (F : Nat → Int32) (A : Nat → Nat → Int32) : Sp l g yX12_image cX12_image 2 (some .int) (rmz 2) [.ref m] (hM g h m F A) (zI fun r h' => r = A 1 0 ∧ h' = hM g h m (upd F 3 1) (mup A 2 (cpy (A 1) (A 2) 899))) := by
  refine Sp.of [some (.ref m), none] (by decide) (Nat.le_of_ble_eq_true rfl) rfl rfl ?_
  rintro X rfl hr rfl B
  show AW X 0 0 0 _ _ _ _
  refine aw_iconst B 0 (by decide) dX12_image_0 ?_
  refine aw_istore1 B dX12_image_1 ?_
  have lp : ∀ (n : Nat) (i : Nat), i ≤ 899 → 899 < i + n → AW X 0 0 2 [some (.ref m), some (.int (nI i))] [] (hM (zXg X) h m F (mup A 2 (cpy (A 1) (A 2) i))) (zI fun r h' => r = A 1 0 ∧ h' = hM (zXg X) h m (upd F 3 1) (mup A 2 (cpy (A 1) (A 2) 899))) := by
    intro n
    induction n with
    | zero => intros; omega
    | succ n ih =>
      intro i hi hn
      refine aw_iload_n B 1 rfl dX12_image_2 rfl ?_
      refine aw_sipush B 899 (by decide) dX12_image_3 ?_
      refine aw_icmp_ge B 27 dX12_image_6 (fun c6 => ?_) (fun c6 => ?_)
      · have hie : i = 899 := by
          have := (nI_leI (a := 899) (by decide) (by omega)).mp c6
          omega
        subst hie
        refine aw_aload_n B 0 rfl dX12_image_27 rfl ?_
        refine aw_iconst B 1 (by decide) dX12_image_28 ?_
        refine m_putz B f_X12_245 (by decide) dX12_image_29 rfl (by decide) ?_
        refine aw_aload_n B 0 rfl dX12_image_32 rfl ?_
        refine m_get B f_X12_9 dX12_image_33 rfl ?_
        refine aw_iconst B 0 (by decide) dX12_image_36 ?_
        refine m_ld B (0) (rfl) ((by decide)) dX12_image_37 (by decide) ?_
        refine aw_iret B rfl rfl dX12_image_38 ?_
        exact ⟨_, rfl, by simp (disch := omega) only [mup_n], rfl⟩
      · have hlt : i < 899 := Nat.not_le.mp fun z => c6 (nI_le (a := 899) z (by omega))
        refine aw_aload_n B 0 rfl dX12_image_9 rfl ?_
        refine m_get B f_X12_15 dX12_image_10 rfl ?_
        refine aw_iload_n B 1 rfl dX12_image_13 rfl ?_
        refine aw_aload_n B 0 rfl dX12_image_14 rfl ?_
        refine m_get B f_X12_9 dX12_image_15 rfl ?_
        refine aw_iload_n B 1 rfl dX12_image_18 rfl ?_
        refine m_ld B (i) (rfl) (by show _ < 899; omega) dX12_image_19 (by decide) ?_
        refine m_st B (i) (rfl) (by show _ < 899; omega) dX12_image_20 (by decide) ?_
        refine aw_iinc1 B 1 (by decide) dX12_image_21 ?_
        refine aw_goto B 2 dX12_image_24 ?_
        have := ih (i + 1) (by omega) (by omega)
        rw [← cpy_s, ← i32_1] at this
        refine Eq.mp ?_ this
        simp (disch := omega) only [mup_s, mup_m, mup_n]
  have := lp 900 0 (by omega) (by omega)
  rw [cpy_0, mup_i] at this
  exact this
theorem dX12_undo_0 : decode cX12_undo 0 = .ok (.aload_n 0, 1) := by decide +kernel
theorem dX12_undo_1 : decode cX12_undo 1 = .ok (.getfield 245, 3) := by decide +kernel
theorem dX12_undo_4 : decode cX12_undo 4 = .ok (.ifCond .ne 6, 3) := by decide +kernel
theorem dX12_undo_7 : decode cX12_undo 7 = .ok (.bipush (-3), 2) := by decide +kernel
theorem dX12_undo_9 : decode cX12_undo 9 = .ok (.ireturn, 1) := by decide +kernel
theorem dX12_undo_10 : decode cX12_undo 10 = .ok (.iconst 0, 1) := by decide +kernel
theorem dX12_undo_11 : decode cX12_undo 11 = .ok (.istore_n 1, 1) := by decide +kernel
theorem dX12_undo_12 : decode cX12_undo 12 = .ok (.iload_n 1, 1) := by decide +kernel
theorem dX12_undo_13 : decode cX12_undo 13 = .ok (.sipush 899, 3) := by decide +kernel
theorem dX12_undo_16 : decode cX12_undo 16 = .ok (.if_icmp .ge 21, 3) := by decide +kernel
theorem dX12_undo_19 : decode cX12_undo 19 = .ok (.aload_n 0, 1) := by decide +kernel
theorem dX12_undo_20 : decode cX12_undo 20 = .ok (.getfield 9, 3) := by decide +kernel
theorem dX12_undo_23 : decode cX12_undo 23 = .ok (.iload_n 1, 1) := by decide +kernel
theorem dX12_undo_24 : decode cX12_undo 24 = .ok (.aload_n 0, 1) := by decide +kernel
theorem dX12_undo_25 : decode cX12_undo 25 = .ok (.getfield 15, 3) := by decide +kernel
theorem dX12_undo_28 : decode cX12_undo 28 = .ok (.iload_n 1, 1) := by decide +kernel
theorem dX12_undo_29 : decode cX12_undo 29 = .ok (.iaload, 1) := by decide +kernel
theorem dX12_undo_30 : decode cX12_undo 30 = .ok (.iastore, 1) := by decide +kernel
theorem dX12_undo_31 : decode cX12_undo 31 = .ok (.iinc 1 1, 3) := by decide +kernel
theorem dX12_undo_34 : decode cX12_undo 34 = .ok (.goto (-22), 3) := by decide +kernel
theorem dX12_undo_37 : decode cX12_undo 37 = .ok (.aload_n 0, 1) := by decide +kernel
theorem dX12_undo_38 : decode cX12_undo 38 = .ok (.getfield 9, 3) := by decide +kernel
theorem dX12_undo_41 : decode cX12_undo 41 = .ok (.iconst 0, 1) := by decide +kernel
theorem dX12_undo_42 : decode cX12_undo 42 = .ok (.iaload, 1) := by decide +kernel
theorem dX12_undo_43 : decode cX12_undo 43 = .ok (.ireturn, 1) := by decide +kernel
set_option maxRecDepth 100000 in
set_option maxHeartbeats 4000000 in
theorem s_undo (l : Launch) (g : zG) (h : Hp) (m : Nat) (F : Nat → Int32) (A : Nat → Nat → Int32) : Sp l g yX12_undo cX12_undo 2 (some .int) (rmz 2) [.ref m] (hM g h m F A) (zI fun r h' => if F 3 = 0 then r = -3 ∧ h' = hM g h m F A else r = A 2 0 ∧ h' = hM g h m F (mup A 1 (cpy (A 2) (A 1) 899))) := by
  refine Sp.of [some (.ref m), none] (by decide) (Nat.le_of_ble_eq_true rfl) rfl rfl ?_
  rintro X rfl hr rfl B
  show AW X 0 0 0 _ _ _ _
  have lp : ∀ (n : Nat) (i : Nat), ¬ F 3 = 0 → i ≤ 899 → 899 < i + n → AW X 0 0 12 [some (.ref m), some (.int (nI i))] [] (hM (zXg X) h m F (mup A 1 (cpy (A 2) (A 1) i))) (zI fun r h' => if F 3 = 0 then r = -3 ∧ h' = hM (zXg X) h m F A else r = A 2 0 ∧ h' = hM (zXg X) h m F (mup A 1 (cpy (A 2) (A 1) 899))) := by
    intro n
    induction n with
    | zero => intros; omega
    | succ n ih =>
      intro i c4 hi hn
      refine aw_iload_n B 1 rfl dX12_undo_12 rfl ?_
      refine aw_sipush B 899 (by decide) dX12_undo_13 ?_
      refine aw_icmp_ge B 37 dX12_undo_16 (fun c16 => ?_) (fun c16 => ?_)
      · have hie : i = 899 := by
          have := (nI_leI (a := 899) (by decide) (by omega)).mp c16
          omega
        subst hie
        refine aw_aload_n B 0 rfl dX12_undo_37 rfl ?_
        refine m_get B f_X12_9 dX12_undo_38 rfl ?_
        refine aw_iconst B 0 (by decide) dX12_undo_41 ?_
        refine m_ld B (0) (rfl) ((by decide)) dX12_undo_42 (by decide) ?_
        refine aw_iret B rfl rfl dX12_undo_43 ?_
        refine ⟨_, rfl, ?_⟩
        show ite _ _ _
        rw [if_neg c4]
        exact ⟨by rw [mup_s]; simp [cpy], rfl⟩
      · have hlt : i < 899 := Nat.not_le.mp fun z => c16 (nI_le (a := 899) z (by omega))
        refine aw_aload_n B 0 rfl dX12_undo_19 rfl ?_
        refine m_get B f_X12_9 dX12_undo_20 rfl ?_
        refine aw_iload_n B 1 rfl dX12_undo_23 rfl ?_
        refine aw_aload_n B 0 rfl dX12_undo_24 rfl ?_
        refine m_get B f_X12_15 dX12_undo_25 rfl ?_
        refine aw_iload_n B 1 rfl dX12_undo_28 rfl ?_
        refine m_ld B (i) (rfl) (by show _ < 899; omega) dX12_undo_29 (by decide) ?_
        refine m_st B (i) (rfl) (by show _ < 899; omega) dX12_undo_30 (by decide) ?_
        refine aw_iinc1 B 1 (by decide) dX12_undo_31 ?_
        refine aw_goto B 12 dX12_undo_34 ?_
        have := ih (i + 1) c4 (by omega) (by omega)
        rw [← cpy_s, ← i32_1] at this
        refine Eq.mp ?_ this
        simp (disch := omega) only [mup_s, mup_m, mup_n]
  refine aw_aload_n B 0 rfl dX12_undo_0 rfl ?_
  refine m_get B f_X12_245 dX12_undo_1 rfl ?_
  refine aw_if_ne B 10 dX12_undo_4 (fun c4 => ?_) (fun c4 => ?_)
  · refine aw_iconst B 0 (by decide) dX12_undo_10 ?_
    refine aw_istore1 B dX12_undo_11 ?_
    have := lp 900 0 c4 (by omega) (by omega)
    rw [cpy_0, mup_i] at this
    exact this
  · refine aw_bipush B (-3) (by decide) dX12_undo_7 ?_
    refine aw_iret B rfl rfl dX12_undo_9 ?_
    refine ⟨_, rfl, ?_⟩
    show ite _ _ _
    rw [if_pos c4]
    exact ⟨rfl, rfl⟩
theorem dX12_forgetsSoons_0 : decode cX12_forgetsSoons 0 = .ok (.aload_n 0, 1) := by decide +kernel
theorem dX12_forgetsSoons_1 : decode cX12_forgetsSoons 1 = .ok (.invokevirtual 165, 3) := by decide +kernel
theorem dX12_forgetsSoons_4 : decode cX12_forgetsSoons 4 = .ok (.iconst 0, 1) := by decide +kernel
theorem dX12_forgetsSoons_5 : decode cX12_forgetsSoons 5 = .ok (.istore_n 1, 1) := by decide +kernel
theorem dX12_forgetsSoons_6 : decode cX12_forgetsSoons 6 = .ok (.iload_n 1, 1) := by decide +kernel
theorem dX12_forgetsSoons_7 : decode cX12_forgetsSoons 7 = .ok (.sipush 8688, 3) := by decide +kernel
theorem dX12_forgetsSoons_10 : decode cX12_forgetsSoons 10 = .ok (.if_icmp .ge 16, 3) := by decide +kernel
theorem dX12_forgetsSoons_13 : decode cX12_forgetsSoons 13 = .ok (.aload_n 0, 1) := by decide +kernel
theorem dX12_forgetsSoons_14 : decode cX12_forgetsSoons 14 = .ok (.getfield 28, 3) := by decide +kernel
theorem dX12_forgetsSoons_17 : decode cX12_forgetsSoons 17 = .ok (.iload_n 1, 1) := by decide +kernel
theorem dX12_forgetsSoons_18 : decode cX12_forgetsSoons 18 = .ok (.iconst 0, 1) := by decide +kernel
theorem dX12_forgetsSoons_19 : decode cX12_forgetsSoons 19 = .ok (.iastore, 1) := by decide +kernel
theorem dX12_forgetsSoons_20 : decode cX12_forgetsSoons 20 = .ok (.iinc 1 1, 3) := by decide +kernel
theorem dX12_forgetsSoons_23 : decode cX12_forgetsSoons 23 = .ok (.goto (-17), 3) := by decide +kernel
theorem dX12_forgetsSoons_26 : decode cX12_forgetsSoons 26 = .ok (.return_, 1) := by decide +kernel
set_option maxRecDepth 100000 in
set_option maxHeartbeats 4000000 in
theorem s_forgetsSoons (l : Launch) (g : zG) (h : Hp) (m : Nat) (F : Nat → Int32) (A : Nat → Nat → Int32) : Sp l g yX12_forgetsSoons cX12_forgetsSoons 2 none (rmz 2) [.ref m] (hM g h m F A) (zV fun h' => h' = hM g h m (upd F 14 0) (mup A 6 (cpy (fun _ => 0) (A 6) 8688))) := by
  refine Sp.of [some (.ref m), none] (by decide) (Nat.le_of_ble_eq_true rfl) rfl rfl ?_
  rintro X rfl hr rfl B
  show AW X 0 0 0 _ _ _ _
  have lp : ∀ (n : Nat) (i : Nat), i ≤ 8688 → 8688 < i + n → AW X 0 0 6 [some (.ref m), some (.int (nI i))] [] (hM (zXg X) h m (upd F 14 0) (mup A 6 (cpy (fun _ => 0) (A 6) i))) (zV fun h' => h' = hM (zXg X) h m (upd F 14 0) (mup A 6 (cpy (fun _ => 0) (A 6) 8688))) := by
    intro n
    induction n with
    | zero => intros; omega
    | succ n ih =>
      intro i hi hn
      refine aw_iload_n B 1 rfl dX12_forgetsSoons_6 rfl ?_
      refine aw_sipush B 8688 (by decide) dX12_forgetsSoons_7 ?_
      refine aw_icmp_ge B 26 dX12_forgetsSoons_10 (fun c10 => ?_) (fun c10 => ?_)
      · have hie : i = 8688 := by
          have := (nI_leI (a := 8688) (by decide) (by omega)).mp c10
          omega
        subst hie
        refine aw_vret B rfl dX12_forgetsSoons_26 ?_
        exact ⟨rfl, rfl⟩
      · have hlt : i < 8688 := Nat.not_le.mp fun z => c10 (nI_le (a := 8688) z (by omega))
        refine aw_aload_n B 0 rfl dX12_forgetsSoons_13 rfl ?_
        refine m_get B f_X12_28 dX12_forgetsSoons_14 rfl ?_
        refine aw_iload_n B 1 rfl dX12_forgetsSoons_17 rfl ?_
        refine aw_iconst B 0 (by decide) dX12_forgetsSoons_18 ?_
        refine m_st B (i) (rfl) (by show _ < 8688; omega) dX12_forgetsSoons_19 (by decide) ?_
        refine aw_iinc1 B 1 (by decide) dX12_forgetsSoons_20 ?_
        refine aw_goto B 6 dX12_forgetsSoons_23 ?_
        have := ih (i + 1) (by omega) (by omega)
        rw [← cpy_s, ← i32_1] at this
        refine Eq.mp ?_ this
        simp (disch := omega) only [mup_s, mup_m, mup_n]
  refine aw_aload_n B 0 rfl dX12_forgetsSoons_0 rfl ?_
  refine aw_callV B 0 0 (s_forgets _ _ _ _ _ _) co_X12_forgets k_X12_165 dX12_forgetsSoons_1 hM_o rfl rfl rfl rfl (Nat.le_of_ble_eq_true rfl) (zrm hr (by decide)) (Nat.le_refl _) (Nat.le_refl _) (kV fun h1 hp1 => ?_)
  subst hp1
  refine aw_iconst B 0 (by decide) dX12_forgetsSoons_4 ?_
  refine aw_istore1 B dX12_forgetsSoons_5 ?_
  have := lp 8689 0 (by omega) (by omega)
  rw [cpy_0, mup_i] at this
  exact this
theorem dX12_changes_0 : decode cX12_changes 0 = .ok (.aload_n 0, 1) := by decide +kernel
theorem dX12_changes_1 : decode cX12_changes 1 = .ok (.getfield 9, 3) := by decide +kernel
theorem dX12_changes_4 : decode cX12_changes 4 = .ok (.bipush 10, 2) := by decide +kernel
theorem dX12_changes_6 : decode cX12_changes 6 = .ok (.iload_n 1, 1) := by decide +kernel
theorem dX12_changes_7 : decode cX12_changes 7 = .ok (.iadd, 1) := by decide +kernel
theorem dX12_changes_8 : decode cX12_changes 8 = .ok (.iaload, 1) := by decide +kernel
theorem dX12_changes_9 : decode cX12_changes 9 = .ok (.istore_n 3, 1) := by decide +kernel
theorem dX12_changes_10 : decode cX12_changes 10 = .ok (.aload_n 0, 1) := by decide +kernel
theorem dX12_changes_11 : decode cX12_changes 11 = .ok (.getfield 9, 3) := by decide +kernel
theorem dX12_changes_14 : decode cX12_changes 14 = .ok (.bipush 10, 2) := by decide +kernel
theorem dX12_changes_16 : decode cX12_changes 16 = .ok (.iload_n 1, 1) := by decide +kernel
theorem dX12_changes_17 : decode cX12_changes 17 = .ok (.iadd, 1) := by decide +kernel
theorem dX12_changes_18 : decode cX12_changes 18 = .ok (.aload_n 0, 1) := by decide +kernel
theorem dX12_changes_19 : decode cX12_changes 19 = .ok (.getfield 9, 3) := by decide +kernel
theorem dX12_changes_22 : decode cX12_changes 22 = .ok (.bipush 10, 2) := by decide +kernel
theorem dX12_changes_24 : decode cX12_changes 24 = .ok (.iload_n 2, 1) := by decide +kernel
theorem dX12_changes_25 : decode cX12_changes 25 = .ok (.iadd, 1) := by decide +kernel
theorem dX12_changes_26 : decode cX12_changes 26 = .ok (.iaload, 1) := by decide +kernel
theorem dX12_changes_27 : decode cX12_changes 27 = .ok (.iastore, 1) := by decide +kernel
theorem dX12_changes_28 : decode cX12_changes 28 = .ok (.aload_n 0, 1) := by decide +kernel
theorem dX12_changes_29 : decode cX12_changes 29 = .ok (.getfield 9, 3) := by decide +kernel
theorem dX12_changes_32 : decode cX12_changes 32 = .ok (.bipush 10, 2) := by decide +kernel
theorem dX12_changes_34 : decode cX12_changes 34 = .ok (.iload_n 2, 1) := by decide +kernel
theorem dX12_changes_35 : decode cX12_changes 35 = .ok (.iadd, 1) := by decide +kernel
theorem dX12_changes_36 : decode cX12_changes 36 = .ok (.iload_n 3, 1) := by decide +kernel
theorem dX12_changes_37 : decode cX12_changes 37 = .ok (.iastore, 1) := by decide +kernel
theorem dX12_changes_38 : decode cX12_changes 38 = .ok (.return_, 1) := by decide +kernel
set_option maxRecDepth 100000 in
set_option maxHeartbeats 4000000 in
theorem s_changes (l : Launch) (g : zG) (h : Hp) (m : Nat) (F : Nat → Int32) (A : Nat → Nat → Int32) (a b : Nat) (ha : a < 6) (hb : b < 6) : Sp l g yX12_changes cX12_changes 4 none (rmz 1) [.ref m, .int (nI a), .int (nI b)] (hM g h m F A) (zV fun h' => h' = hM g h m F (mup A 1 (upd (upd (A 1) (10 + a) (A 1 (10 + b))) (10 + b) (A 1 (10 + a))))) := by
  refine Sp.of [some (.ref m), some (.int (nI a)), some (.int (nI b)), none] (by decide) (Nat.le_of_ble_eq_true rfl) rfl rfl ?_
  rintro X rfl hr rfl B
  show AW X 0 0 0 _ _ _ _
  refine aw_aload_n B 0 rfl dX12_changes_0 rfl ?_
  refine m_get B f_X12_9 dX12_changes_1 rfl ?_
  refine aw_bipush B 10 (by decide) dX12_changes_4 ?_
  refine aw_iload_n B 1 rfl dX12_changes_6 rfl ?_
  refine aw_iadd B dX12_changes_7 ?_
  refine m_ld B (10 + a) (ix_c 10 rfl) (by show _ < 899; omega) dX12_changes_8 (by decide) ?_
  refine aw_istore3 B dX12_changes_9 ?_
  refine aw_aload_n B 0 rfl dX12_changes_10 rfl ?_
  refine m_get B f_X12_9 dX12_changes_11 rfl ?_
  refine aw_bipush B 10 (by decide) dX12_changes_14 ?_
  refine aw_iload_n B 1 rfl dX12_changes_16 rfl ?_
  refine aw_iadd B dX12_changes_17 ?_
  refine aw_aload_n B 0 rfl dX12_changes_18 rfl ?_
  refine m_get B f_X12_9 dX12_changes_19 rfl ?_
  refine aw_bipush B 10 (by decide) dX12_changes_22 ?_
  refine aw_iload_n B 2 rfl dX12_changes_24 rfl ?_
  refine aw_iadd B dX12_changes_25 ?_
  refine m_ld B (10 + b) (ix_c 10 rfl) (by show _ < 899; omega) dX12_changes_26 (by decide) ?_
  refine m_st B (10 + a) (ix_c 10 rfl) (by show _ < 899; omega) dX12_changes_27 (by decide) ?_
  refine aw_aload_n B 0 rfl dX12_changes_28 rfl ?_
  refine m_get B f_X12_9 dX12_changes_29 rfl ?_
  refine aw_bipush B 10 (by decide) dX12_changes_32 ?_
  refine aw_iload_n B 2 rfl dX12_changes_34 rfl ?_
  refine aw_iadd B dX12_changes_35 ?_
  refine aw_iload_n B 3 rfl dX12_changes_36 rfl ?_
  refine m_st B (10 + b) (ix_c 10 rfl) (by show _ < 899; omega) dX12_changes_37 (by decide) ?_
  refine aw_vret B rfl dX12_changes_38 ?_
  exact ⟨rfl, by rw [mup_m, mup_s]⟩
def p_ran (n : Nat) (tr : Nat → Int32) (b : Int32) : Nat → Int32 := if n < 20 then upd tr n b else tr
theorem dX12_ranBody_0 : decode cX12_ranBody 0 = .ok (.aload_n 0, 1) := by decide +kernel
theorem dX12_ranBody_1 : decode cX12_ranBody 1 = .ok (.getfield 209, 3) := by decide +kernel
theorem dX12_ranBody_4 : decode cX12_ranBody 4 = .ok (.bipush 20, 2) := by decide +kernel
theorem dX12_ranBody_6 : decode cX12_ranBody 6 = .ok (.if_icmp .ge 13, 3) := by decide +kernel
theorem dX12_ranBody_9 : decode cX12_ranBody 9 = .ok (.aload_n 0, 1) := by decide +kernel
theorem dX12_ranBody_10 : decode cX12_ranBody 10 = .ok (.getfield 37, 3) := by decide +kernel
theorem dX12_ranBody_13 : decode cX12_ranBody 13 = .ok (.aload_n 0, 1) := by decide +kernel
theorem dX12_ranBody_14 : decode cX12_ranBody 14 = .ok (.getfield 209, 3) := by decide +kernel
theorem dX12_ranBody_17 : decode cX12_ranBody 17 = .ok (.iload_n 1, 1) := by decide +kernel
theorem dX12_ranBody_18 : decode cX12_ranBody 18 = .ok (.iastore, 1) := by decide +kernel
theorem dX12_ranBody_19 : decode cX12_ranBody 19 = .ok (.aload_n 0, 1) := by decide +kernel
theorem dX12_ranBody_20 : decode cX12_ranBody 20 = .ok (.dup, 1) := by decide +kernel
theorem dX12_ranBody_21 : decode cX12_ranBody 21 = .ok (.getfield 209, 3) := by decide +kernel
theorem dX12_ranBody_24 : decode cX12_ranBody 24 = .ok (.iconst 1, 1) := by decide +kernel
theorem dX12_ranBody_25 : decode cX12_ranBody 25 = .ok (.iadd, 1) := by decide +kernel
theorem dX12_ranBody_26 : decode cX12_ranBody 26 = .ok (.putfield 209, 3) := by decide +kernel
theorem dX12_ranBody_29 : decode cX12_ranBody 29 = .ok (.return_, 1) := by decide +kernel
set_option maxRecDepth 100000 in
set_option maxHeartbeats 4000000 in
theorem s_ranBody (l : Launch) (g : zG) (h : Hp) (m : Nat) (F : Nat → Int32) (A : Nat → Nat → Int32) (n : Nat) (b : Int32) (hn : n ≤ 100) (en : F 20 = nI n) : Sp l g yX12_ranBody cX12_ranBody 2 none (rmz 1) [.ref m, .int b] (hM g h m F A) (zV fun h' => h' = hM g h m (upd F 20 (nI (n + 1))) (mup A 9 (p_ran n (A 9) b))) := by
  refine Sp.of [some (.ref m), some (.int b)] (by decide) (Nat.le_of_ble_eq_true rfl) rfl rfl ?_
  rintro X rfl hr rfl B
  show AW X 0 0 0 _ _ _ _
  refine aw_aload_n B 0 rfl dX12_ranBody_0 rfl ?_
  refine m_get B f_X12_209 dX12_ranBody_1 rfl ?_
  refine aw_bipush B 20 (by decide) dX12_ranBody_4 ?_
  refine aw_icmp_ge B 19 dX12_ranBody_6 (fun c6 => ?_) (fun c6 => ?_)
  · refine aw_aload_n B 0 rfl dX12_ranBody_19 rfl ?_
    refine aw_dup B rfl dX12_ranBody_20 ?_
    refine m_get B f_X12_209 dX12_ranBody_21 rfl ?_
    refine aw_iconst B 1 (by decide) dX12_ranBody_24 ?_
    refine aw_iadd B dX12_ranBody_25 ?_
    refine m_put B f_X12_209 dX12_ranBody_26 rfl (by decide) ?_
    refine aw_vret B rfl dX12_ranBody_29 ?_
    have hn : ¬ n < 20 := fun z => absurd c6 (by rw [en, Int32.not_le]; exact nI_lt (b := 20) z (by decide))
    exact ⟨rfl, by rw [en, nI_1]; unfold p_ran; rw [if_neg hn, mup_i]⟩
  · have hlt : n < 20 := Nat.not_le.mp fun z => c6 (by rw [en]; exact nI_le (a := 20) z (by omega))
    refine aw_aload_n B 0 rfl dX12_ranBody_9 rfl ?_
    refine m_get B f_X12_37 dX12_ranBody_10 rfl ?_
    refine aw_aload_n B 0 rfl dX12_ranBody_13 rfl ?_
    refine m_get B f_X12_209 dX12_ranBody_14 rfl ?_
    refine aw_iload_n B 1 rfl dX12_ranBody_17 rfl ?_
    refine m_st B (n) (en) (by show _ < 20; exact hlt) dX12_ranBody_18 (by decide) ?_
    refine aw_aload_n B 0 rfl dX12_ranBody_19 rfl ?_
    refine aw_dup B rfl dX12_ranBody_20 ?_
    refine m_get B f_X12_209 dX12_ranBody_21 rfl ?_
    refine aw_iconst B 1 (by decide) dX12_ranBody_24 ?_
    refine aw_iadd B dX12_ranBody_25 ?_
    refine m_put B f_X12_209 dX12_ranBody_26 rfl (by decide) ?_
    refine aw_vret B rfl dX12_ranBody_29 ?_
    exact ⟨rfl, by rw [en, nI_1]; unfold p_ran; rw [if_pos hlt]⟩
