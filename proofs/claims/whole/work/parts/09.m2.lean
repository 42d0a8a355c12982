section ZLDC
variable {X : zX} {cc : ByteArray} {nL : Nat} {own nm : String} {ret : Option FieldType} {rc rs pc : Nat} {lv : List (Option Value)} {st : List Value} {h : Hp} {Ko : Option Value → Hp → Prop}
theorem aw_ldc (B : zB X cc nL own nm ret) {index : Nat} {v : Int32} (F : Cond.constant own index v ∈ zT) (hd : decode cc pc = .ok (.ldc index, 2)) (k : AW X rc rs (pc + 2) lv (.int v :: st) h Ko) : AW X rc rs pc lv st h Ko := fun H locs ls cells slots a1 a2 a3 a4 a5 => lv_ldc B.1 B.2.1 B.2.2.2.1 (B.2.2.2.2.1 _ F) hd (k H locs ls cells slots a1 a2 a3 a4 a5)
theorem aw_ldc2 (B : zB X cc nL own nm ret) {index : Nat} {v : Int64} (F : Cond.constantLong own index v ∈ zT) (hd : decode cc pc = .ok (.ldc2_w index, 3)) (k : AW X rc rs (pc + 3) lv (.long v :: st) h Ko) : AW X rc rs pc lv st h Ko := fun H locs ls cells slots a1 a2 a3 a4 a5 => lv_ldc2 B.1 B.2.1 B.2.2.2.1 (B.2.2.2.2.1 _ F) hd (k H locs ls cells slots a1 a2 a3 a4 a5)
end ZLDC
/-- the HOURS that a reader of a kind, with v, needs for so many lines -/
def p_needs (k v n : Nat) : Nat := if k = 1 then (n + 1) / 2 else if k = 4 then (if 4 < v ∧ 1 < (n + 1) / 2 then (n + 1) / 2 - 1 else (n + 1) / 2) else if k = 5 then 2 * n else n
theorem dX12_needsOf_0 : decode cX12_needsOf 0 = .ok (.aload_n 0, 1) := by decide +kernel
theorem dX12_needsOf_1 : decode cX12_needsOf 1 = .ok (.getfield 9, 3) := by decide +kernel
theorem dX12_needsOf_4 : decode cX12_needsOf 4 = .ok (.bipush 16, 2) := by decide +kernel
theorem dX12_needsOf_6 : decode cX12_needsOf 6 = .ok (.iload_n 2, 1) := by decide +kernel
theorem dX12_needsOf_7 : decode cX12_needsOf 7 = .ok (.iadd, 1) := by decide +kernel
theorem dX12_needsOf_8 : decode cX12_needsOf 8 = .ok (.iaload, 1) := by decide +kernel
theorem dX12_needsOf_9 : decode cX12_needsOf 9 = .ok (.istore_n 3, 1) := by decide +kernel
theorem dX12_needsOf_10 : decode cX12_needsOf 10 = .ok (.iload_n 3, 1) := by decide +kernel
theorem dX12_needsOf_11 : decode cX12_needsOf 11 = .ok (.iconst 1, 1) := by decide +kernel
theorem dX12_needsOf_12 : decode cX12_needsOf 12 = .ok (.iadd, 1) := by decide +kernel
theorem dX12_needsOf_13 : decode cX12_needsOf 13 = .ok (.iconst 2, 1) := by decide +kernel
theorem dX12_needsOf_14 : decode cX12_needsOf 14 = .ok (.idiv, 1) := by decide +kernel
theorem dX12_needsOf_15 : decode cX12_needsOf 15 = .ok (.istore 4, 2) := by decide +kernel
theorem dX12_needsOf_17 : decode cX12_needsOf 17 = .ok (.aload_n 0, 1) := by decide +kernel
theorem dX12_needsOf_18 : decode cX12_needsOf 18 = .ok (.getfield 9, 3) := by decide +kernel
theorem dX12_needsOf_21 : decode cX12_needsOf 21 = .ok (.bipush 22, 2) := by decide +kernel
theorem dX12_needsOf_23 : decode cX12_needsOf 23 = .ok (.iload_n 1, 1) := by decide +kernel
theorem dX12_needsOf_24 : decode cX12_needsOf 24 = .ok (.iadd, 1) := by decide +kernel
theorem dX12_needsOf_25 : decode cX12_needsOf 25 = .ok (.iaload, 1) := by decide +kernel
theorem dX12_needsOf_26 : decode cX12_needsOf 26 = .ok (.tableswitch 70 1 5 #[34, 70, 70, 37, 66], 34) := by decide +kernel
theorem dX12_needsOf_60 : decode cX12_needsOf 60 = .ok (.iload 4, 2) := by decide +kernel
theorem dX12_needsOf_62 : decode cX12_needsOf 62 = .ok (.ireturn, 1) := by decide +kernel
theorem dX12_needsOf_63 : decode cX12_needsOf 63 = .ok (.aload_n 0, 1) := by decide +kernel
theorem dX12_needsOf_64 : decode cX12_needsOf 64 = .ok (.getfield 9, 3) := by decide +kernel
theorem dX12_needsOf_67 : decode cX12_needsOf 67 = .ok (.bipush 26, 2) := by decide +kernel
theorem dX12_needsOf_69 : decode cX12_needsOf 69 = .ok (.iload_n 1, 1) := by decide +kernel
theorem dX12_needsOf_70 : decode cX12_needsOf 70 = .ok (.iadd, 1) := by decide +kernel
theorem dX12_needsOf_71 : decode cX12_needsOf 71 = .ok (.iaload, 1) := by decide +kernel
theorem dX12_needsOf_72 : decode cX12_needsOf 72 = .ok (.iconst 4, 1) := by decide +kernel
theorem dX12_needsOf_73 : decode cX12_needsOf 73 = .ok (.if_icmp .le 16, 3) := by decide +kernel
theorem dX12_needsOf_76 : decode cX12_needsOf 76 = .ok (.iload 4, 2) := by decide +kernel
theorem dX12_needsOf_78 : decode cX12_needsOf 78 = .ok (.iconst 1, 1) := by decide +kernel
theorem dX12_needsOf_79 : decode cX12_needsOf 79 = .ok (.if_icmp .le 10, 3) := by decide +kernel
theorem dX12_needsOf_82 : decode cX12_needsOf 82 = .ok (.iload 4, 2) := by decide +kernel
theorem dX12_needsOf_84 : decode cX12_needsOf 84 = .ok (.iconst 1, 1) := by decide +kernel
theorem dX12_needsOf_85 : decode cX12_needsOf 85 = .ok (.isub, 1) := by decide +kernel
theorem dX12_needsOf_86 : decode cX12_needsOf 86 = .ok (.goto 5, 3) := by decide +kernel
theorem dX12_needsOf_89 : decode cX12_needsOf 89 = .ok (.iload 4, 2) := by decide +kernel
theorem dX12_needsOf_91 : decode cX12_needsOf 91 = .ok (.ireturn, 1) := by decide +kernel
theorem dX12_needsOf_92 : decode cX12_needsOf 92 = .ok (.iconst 2, 1) := by decide +kernel
theorem dX12_needsOf_93 : decode cX12_needsOf 93 = .ok (.iload_n 3, 1) := by decide +kernel
theorem dX12_needsOf_94 : decode cX12_needsOf 94 = .ok (.imul, 1) := by decide +kernel
theorem dX12_needsOf_95 : decode cX12_needsOf 95 = .ok (.ireturn, 1) := by decide +kernel
theorem dX12_needsOf_96 : decode cX12_needsOf 96 = .ok (.iload_n 3, 1) := by decide +kernel
theorem dX12_needsOf_97 : decode cX12_needsOf 97 = .ok (.ireturn, 1) := by decide +kernel
set_option maxRecDepth 100000 in
set_option maxHeartbeats 4000000 in
theorem s_needsOf (l : Launch) (g : zG) (h : Hp) (m : Nat) (F : Nat → Int32) (A : Nat → Nat → Int32) (r s k v n : Nat) (hr4 : r < 4) (hs : s < 6) (hk : k ≤ 6) (hv : v ≤ 9) (hn : n ≤ 4) (ek : A 1 (22 + r) = nI k) (ev : A 1 (26 + r) = nI v) (en : A 1 (16 + s) = nI n) : Sp l g yX12_needsOf cX12_needsOf 5 (some .int) (rmz 1) [.ref m, .int (nI r), .int (nI s)] (hM g h m F A) (zI fun q h' => q = nI (p_needs k v n) ∧ h' = hM g h m F A) := by
  refine Sp.of [some (.ref m), some (.int (nI r)), some (.int (nI s)), none, none] (by decide) (Nat.le_of_ble_eq_true rfl) rfl rfl ?_
  rintro X rfl hr rfl B
  show AW X 0 0 0 _ _ _ _
  obtain ⟨e0⟩ : Nonempty Unit := ⟨()⟩
  have e2 : (nI n + 1) / 2 = nI ((n + 1) / 2) := by
    rw [nI_1]; exact pk_div (by omega) (by decide) (by decide)
  refine aw_aload_n B 0 rfl dX12_needsOf_0 rfl ?_
  refine m_get B f_X12_9 dX12_needsOf_1 rfl ?_
  refine aw_bipush B 16 (by decide) dX12_needsOf_4 ?_
  refine aw_iload_n B 2 rfl dX12_needsOf_6 rfl ?_
  refine aw_iadd B dX12_needsOf_7 ?_
  refine m_ld B (16 + s) (ix_c 16 rfl) (by show _ < 899; omega) dX12_needsOf_8 (by decide) ?_
  refine aw_istore3 B dX12_needsOf_9 ?_
  refine aw_iload_n B 3 rfl dX12_needsOf_10 rfl ?_
  refine aw_iconst B 1 (by decide) dX12_needsOf_11 ?_
  refine aw_iadd B dX12_needsOf_12 ?_
  refine aw_iconst B 2 (by decide) dX12_needsOf_13 ?_
  refine aw_idiv B (by decide) dX12_needsOf_14 ?_
  refine aw_istore4 B dX12_needsOf_15 ?_
  refine aw_aload_n B 0 rfl dX12_needsOf_17 rfl ?_
  refine m_get B f_X12_9 dX12_needsOf_18 rfl ?_
  refine aw_bipush B 22 (by decide) dX12_needsOf_21 ?_
  refine aw_iload_n B 1 rfl dX12_needsOf_23 rfl ?_
  refine aw_iadd B dX12_needsOf_24 ?_
  refine m_ld B (22 + r) (ix_c 22 rfl) (by show _ < 899; omega) dX12_needsOf_25 (by decide) ?_
  rcases (show k = 0 ∨ k = 1 ∨ k = 2 ∨ k = 3 ∨ k = 4 ∨ k = 5 ∨ k = 6 by omega) with rfl | rfl | rfl | rfl | rfl | rfl | rfl
  · rw [ek, show nI 0 = (0 : Int32) from rfl]
    refine aw_tableOut B 96 dX12_needsOf_26 (by decide) ?_
    refine aw_iload_n B 3 rfl dX12_needsOf_96 rfl ?_
    refine aw_iret B rfl rfl dX12_needsOf_97 ?_
    exact ⟨_, rfl, by rw [en]; rfl, rfl⟩
  · rw [ek, show nI 1 = (1 : Int32) from rfl]
    refine aw_tableIn (off := 34) B 60 dX12_needsOf_26 (by decide) (by decide) (by decide) ?_
    refine aw_iload B dX12_needsOf_60 rfl ?_
    refine aw_iret B rfl rfl dX12_needsOf_62 ?_
    exact ⟨_, rfl, by rw [en, e2]; rfl, rfl⟩
  · rw [ek, show nI 2 = (2 : Int32) from rfl]
    refine aw_tableIn (off := 70) B 96 dX12_needsOf_26 (by decide) (by decide) (by decide) ?_
    refine aw_iload_n B 3 rfl dX12_needsOf_96 rfl ?_
    refine aw_iret B rfl rfl dX12_needsOf_97 ?_
    exact ⟨_, rfl, by rw [en]; rfl, rfl⟩
  · rw [ek, show nI 3 = (3 : Int32) from rfl]
    refine aw_tableIn (off := 70) B 96 dX12_needsOf_26 (by decide) (by decide) (by decide) ?_
    refine aw_iload_n B 3 rfl dX12_needsOf_96 rfl ?_
    refine aw_iret B rfl rfl dX12_needsOf_97 ?_
    exact ⟨_, rfl, by rw [en]; rfl, rfl⟩
  · rw [ek, show nI 4 = (4 : Int32) from rfl]
    refine aw_tableIn (off := 37) B 63 dX12_needsOf_26 (by decide) (by decide) (by decide) ?_
    refine aw_aload_n B 0 rfl dX12_needsOf_63 rfl ?_
    refine m_get B f_X12_9 dX12_needsOf_64 rfl ?_
    refine aw_bipush B 26 (by decide) dX12_needsOf_67 ?_
    refine aw_iload_n B 1 rfl dX12_needsOf_69 rfl ?_
    refine aw_iadd B dX12_needsOf_70 ?_
    refine m_ld B (26 + r) (ix_c 26 rfl) (by show _ < 899; omega) dX12_needsOf_71 (by decide) ?_
    refine aw_iconst B 4 (by decide) dX12_needsOf_72 ?_
    refine aw_icmp_le B 89 dX12_needsOf_73 (fun c73 => ?_) (fun c73 => ?_)
    · refine aw_iload B dX12_needsOf_89 rfl ?_
      refine aw_iret B rfl rfl dX12_needsOf_91 ?_
      have hv4 : ¬ 4 < v := fun z => absurd ((nI_leI (a := v) (b := 4) (by omega) (by decide)).mp (by rw [← ev]; exact c73)) (by omega)
      exact ⟨_, rfl, by rw [en, e2]; simp [p_needs, hv4], rfl⟩
    · refine aw_iload B dX12_needsOf_76 rfl ?_
      refine aw_iconst B 1 (by decide) dX12_needsOf_78 ?_
      refine aw_icmp_le B 89 dX12_needsOf_79 (fun c79 => ?_) (fun c79 => ?_)
      · refine aw_iload B dX12_needsOf_89 rfl ?_
        refine aw_iret B rfl rfl dX12_needsOf_91 ?_
        have hq : ¬ 1 < (n + 1) / 2 := fun z => absurd ((nI_leI (a := (n + 1) / 2) (b := 1) (by omega) (by decide)).mp (by rw [← e2, ← en]; exact c79)) (by omega)
        exact ⟨_, rfl, by rw [en, e2]; simp [p_needs, hq], rfl⟩
      · refine aw_iload B dX12_needsOf_82 rfl ?_
        refine aw_iconst B 1 (by decide) dX12_needsOf_84 ?_
        refine aw_isub B dX12_needsOf_85 ?_
        refine aw_goto B 91 dX12_needsOf_86 ?_
        refine aw_iret B rfl rfl dX12_needsOf_91 ?_
        have hv4 : 4 < v := Nat.not_le.mp fun z => c73 (by rw [ev]; exact nI_le (b := 4) z (by decide))
        have hq : 1 < (n + 1) / 2 := Nat.not_le.mp fun z => c79 (by rw [en, e2]; exact nI_le (b := 1) z (by decide))
        exact ⟨_, rfl, by
          rw [en, e2, show nI ((n + 1) / 2) - 1 = nI ((n + 1) / 2 - 1) from pk_sub (a := (n + 1) / 2) (b := 1) (by omega)]
          simp [p_needs, hv4, hq], rfl⟩
  · rw [ek, show nI 5 = (5 : Int32) from rfl]
    refine aw_tableIn (off := 66) B 92 dX12_needsOf_26 (by decide) (by decide) (by decide) ?_
    refine aw_iconst B 2 (by decide) dX12_needsOf_92 ?_
    refine aw_iload_n B 3 rfl dX12_needsOf_93 rfl ?_
    refine aw_imul B dX12_needsOf_94 ?_
    refine aw_iret B rfl rfl dX12_needsOf_95 ?_
    exact ⟨_, rfl, by rw [en]; exact pk_mul 2 n, rfl⟩
  · rw [ek, show nI 6 = (6 : Int32) from rfl]
    refine aw_tableOut B 96 dX12_needsOf_26 (by decide) ?_
    refine aw_iload_n B 3 rfl dX12_needsOf_96 rfl ?_
    refine aw_iret B rfl rfl dX12_needsOf_97 ?_
    exact ⟨_, rfl, by rw [en]; rfl, rfl⟩
