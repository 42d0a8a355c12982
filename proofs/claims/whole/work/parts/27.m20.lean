def clr (left s : Nat) : Nat := left &&& (63 ^^^ 2 ^ s)
def pcnt (left : Nat) : Nat := (List.range 6).countP (fun s => left.testBit s)
theorem bit_1 : ∀ left, left < 64 → ∀ s, s < 6 → (((nI left >>> (nI s &&& 31)) &&& 1 = 1) ↔ left.testBit s = true) := by decide +kernel
theorem bit_2 : ∀ left, left < 64 → ∀ s, s < 6 → left.testBit s = true → nI left &&& (((1 : Int32) <<< (nI s &&& 31)) ^^^ (-1)) = nI (clr left s) ∧ clr left s < 64 ∧ pcnt (clr left s) + 1 = pcnt left := by decide +kernel
theorem pcnt_0 : ∀ left, left < 64 → pcnt left = 0 → left = 0 := by decide +kernel
abbrev oSt : Type := Nat × (Nat → Int32) × (Nat → Int32)
def oEnd (k a : Nat) (st : oSt) : oSt := if a < st.1 then (a, (fun j => if j < 6 then (if j < k then st.2.2 j else -5) else st.2.1 j), st.2.2) else st
/-- all orders of what is left, behind k read, a hours on -/
def ordF (S : Nat → Int32) (T : Nat) (Q : pP) (r n0 : Nat) : Nat → Nat → Nat → Nat → oSt → oSt
  | 0, left, k, a, st => if left = 0 then oEnd k a st else st
  | d + 1, left, k, a, st => if left = 0 then oEnd k a st else (List.range n0).foldl (fun st s => if left.testBit s = true then (if a + soS S T Q r s a < st.1 then ordF S T Q r n0 d (clr left s) (k + 1) (a + soS S T Q r s a) (st.1, st.2.1, upd st.2.2 k (nI s)) else (st.1, st.2.1, upd st.2.2 k (nI s))) else st) st
def ordS (S : Nat → Int32) (T : Nat) (Q : pP) (r n0 d left k a : Nat) (st : oSt) (s : Nat) : oSt := if left.testBit s = true then (if a + soS S T Q r s a < st.1 then ordF S T Q r n0 d (clr left s) (k + 1) (a + soS S T Q r s a) (st.1, st.2.1, upd st.2.2 k (nI s)) else (st.1, st.2.1, upd st.2.2 k (nI s))) else st
theorem oEnd_le {k a : Nat} {st : oSt} (h : a ≤ 360) (h2 : st.1 ≤ 100000) : (oEnd k a st).1 ≤ 100000 := by
  unfold oEnd
  split
  · show a ≤ 100000; omega
  · exact h2
def oG (g : zG) (h : Hp) (m : Nat) (F : Nat → Int32) (A : Nat → Nat → Int32) (T : Nat) (Q : pP) (n0 n1 : Nat) (st : oSt) : Hp → Prop := fun h' => st.1 ≤ 100000 ∧ mgar g h m F A [11, 12, 14, 18] [3, 4, 5, 6, 7, 8] (fun F' A' => lvI T Q F' A' ∧ skI (A 1) T Q n0 n1 A' ∧ F' 18 = nI st.1 ∧ A' 8 = st.2.1 ∧ A' 7 = st.2.2) h'
theorem dX12_ordersFrom_0 : decode cX12_ordersFrom 0 = .ok (.iload_n 2, 1) := by decide +kernel
theorem dX12_ordersFrom_1 : decode cX12_ordersFrom 1 = .ok (.ifCond .ne 60, 3) := by decide +kernel
theorem dX12_ordersFrom_4 : decode cX12_ordersFrom 4 = .ok (.iload 4, 2) := by decide +kernel
theorem dX12_ordersFrom_6 : decode cX12_ordersFrom 6 = .ok (.aload_n 0, 1) := by decide +kernel
theorem dX12_ordersFrom_7 : decode cX12_ordersFrom 7 = .ok (.getfield 175, 3) := by decide +kernel
theorem dX12_ordersFrom_10 : decode cX12_ordersFrom 10 = .ok (.if_icmp .ge 50, 3) := by decide +kernel
theorem dX12_ordersFrom_13 : decode cX12_ordersFrom 13 = .ok (.aload_n 0, 1) := by decide +kernel
theorem dX12_ordersFrom_14 : decode cX12_ordersFrom 14 = .ok (.iload 4, 2) := by decide +kernel
theorem dX12_ordersFrom_16 : decode cX12_ordersFrom 16 = .ok (.putfield 175, 3) := by decide +kernel
theorem dX12_ordersFrom_19 : decode cX12_ordersFrom 19 = .ok (.iconst 0, 1) := by decide +kernel
theorem dX12_ordersFrom_20 : decode cX12_ordersFrom 20 = .ok (.istore 5, 2) := by decide +kernel
theorem dX12_ordersFrom_22 : decode cX12_ordersFrom 22 = .ok (.iload 5, 2) := by decide +kernel
theorem dX12_ordersFrom_24 : decode cX12_ordersFrom 24 = .ok (.bipush 6, 2) := by decide +kernel
theorem dX12_ordersFrom_26 : decode cX12_ordersFrom 26 = .ok (.if_icmp .ge 34, 3) := by decide +kernel
theorem dX12_ordersFrom_29 : decode cX12_ordersFrom 29 = .ok (.aload_n 0, 1) := by decide +kernel
theorem dX12_ordersFrom_30 : decode cX12_ordersFrom 30 = .ok (.getfield 34, 3) := by decide +kernel
theorem dX12_ordersFrom_33 : decode cX12_ordersFrom 33 = .ok (.iload 5, 2) := by decide +kernel
theorem dX12_ordersFrom_35 : decode cX12_ordersFrom 35 = .ok (.iload 5, 2) := by decide +kernel
theorem dX12_ordersFrom_37 : decode cX12_ordersFrom 37 = .ok (.iload_n 3, 1) := by decide +kernel
theorem dX12_ordersFrom_38 : decode cX12_ordersFrom 38 = .ok (.if_icmp .ge 13, 3) := by decide +kernel
theorem dX12_ordersFrom_41 : decode cX12_ordersFrom 41 = .ok (.aload_n 0, 1) := by decide +kernel
theorem dX12_ordersFrom_42 : decode cX12_ordersFrom 42 = .ok (.getfield 31, 3) := by decide +kernel
theorem dX12_ordersFrom_45 : decode cX12_ordersFrom 45 = .ok (.iload 5, 2) := by decide +kernel
theorem dX12_ordersFrom_47 : decode cX12_ordersFrom 47 = .ok (.iaload, 1) := by decide +kernel
theorem dX12_ordersFrom_48 : decode cX12_ordersFrom 48 = .ok (.goto 5, 3) := by decide +kernel
theorem dX12_ordersFrom_51 : decode cX12_ordersFrom 51 = .ok (.bipush (-5), 2) := by decide +kernel
theorem dX12_ordersFrom_53 : decode cX12_ordersFrom 53 = .ok (.iastore, 1) := by decide +kernel
theorem dX12_ordersFrom_54 : decode cX12_ordersFrom 54 = .ok (.iinc 5 1, 3) := by decide +kernel
theorem dX12_ordersFrom_57 : decode cX12_ordersFrom 57 = .ok (.goto (-35), 3) := by decide +kernel
theorem dX12_ordersFrom_60 : decode cX12_ordersFrom 60 = .ok (.return_, 1) := by decide +kernel
theorem dX12_ordersFrom_61 : decode cX12_ordersFrom 61 = .ok (.iconst 0, 1) := by decide +kernel
theorem dX12_ordersFrom_62 : decode cX12_ordersFrom 62 = .ok (.istore 5, 2) := by decide +kernel
theorem dX12_ordersFrom_64 : decode cX12_ordersFrom 64 = .ok (.iload 5, 2) := by decide +kernel
theorem dX12_ordersFrom_66 : decode cX12_ordersFrom 66 = .ok (.aload_n 0, 1) := by decide +kernel
theorem dX12_ordersFrom_67 : decode cX12_ordersFrom 67 = .ok (.getfield 9, 3) := by decide +kernel
theorem dX12_ordersFrom_70 : decode cX12_ordersFrom 70 = .ok (.iconst 0, 1) := by decide +kernel
theorem dX12_ordersFrom_71 : decode cX12_ordersFrom 71 = .ok (.iaload, 1) := by decide +kernel
theorem dX12_ordersFrom_72 : decode cX12_ordersFrom 72 = .ok (.if_icmp .ge 71, 3) := by decide +kernel
theorem dX12_ordersFrom_75 : decode cX12_ordersFrom 75 = .ok (.iload_n 2, 1) := by decide +kernel
theorem dX12_ordersFrom_76 : decode cX12_ordersFrom 76 = .ok (.iload 5, 2) := by decide +kernel
theorem dX12_ordersFrom_78 : decode cX12_ordersFrom 78 = .ok (.ishr, 1) := by decide +kernel
theorem dX12_ordersFrom_79 : decode cX12_ordersFrom 79 = .ok (.iconst 1, 1) := by decide +kernel
theorem dX12_ordersFrom_80 : decode cX12_ordersFrom 80 = .ok (.iand, 1) := by decide +kernel
theorem dX12_ordersFrom_81 : decode cX12_ordersFrom 81 = .ok (.iconst 1, 1) := by decide +kernel
theorem dX12_ordersFrom_82 : decode cX12_ordersFrom 82 = .ok (.if_icmp .ne 55, 3) := by decide +kernel
theorem dX12_ordersFrom_85 : decode cX12_ordersFrom 85 = .ok (.aload_n 0, 1) := by decide +kernel
theorem dX12_ordersFrom_86 : decode cX12_ordersFrom 86 = .ok (.iload_n 1, 1) := by decide +kernel
theorem dX12_ordersFrom_87 : decode cX12_ordersFrom 87 = .ok (.iload 5, 2) := by decide +kernel
theorem dX12_ordersFrom_89 : decode cX12_ordersFrom 89 = .ok (.iload 4, 2) := by decide +kernel
theorem dX12_ordersFrom_91 : decode cX12_ordersFrom 91 = .ok (.invokevirtual 178, 3) := by decide +kernel
theorem dX12_ordersFrom_94 : decode cX12_ordersFrom 94 = .ok (.istore 6, 2) := by decide +kernel
theorem dX12_ordersFrom_96 : decode cX12_ordersFrom 96 = .ok (.aload_n 0, 1) := by decide +kernel
theorem dX12_ordersFrom_97 : decode cX12_ordersFrom 97 = .ok (.getfield 31, 3) := by decide +kernel
theorem dX12_ordersFrom_100 : decode cX12_ordersFrom 100 = .ok (.iload_n 3, 1) := by decide +kernel
theorem dX12_ordersFrom_101 : decode cX12_ordersFrom 101 = .ok (.iload 5, 2) := by decide +kernel
theorem dX12_ordersFrom_103 : decode cX12_ordersFrom 103 = .ok (.iastore, 1) := by decide +kernel
theorem dX12_ordersFrom_104 : decode cX12_ordersFrom 104 = .ok (.iload 4, 2) := by decide +kernel
theorem dX12_ordersFrom_106 : decode cX12_ordersFrom 106 = .ok (.iload 6, 2) := by decide +kernel
theorem dX12_ordersFrom_108 : decode cX12_ordersFrom 108 = .ok (.iadd, 1) := by decide +kernel
theorem dX12_ordersFrom_109 : decode cX12_ordersFrom 109 = .ok (.aload_n 0, 1) := by decide +kernel
theorem dX12_ordersFrom_110 : decode cX12_ordersFrom 110 = .ok (.getfield 175, 3) := by decide +kernel
theorem dX12_ordersFrom_113 : decode cX12_ordersFrom 113 = .ok (.if_icmp .ge 24, 3) := by decide +kernel
theorem dX12_ordersFrom_116 : decode cX12_ordersFrom 116 = .ok (.aload_n 0, 1) := by decide +kernel
theorem dX12_ordersFrom_117 : decode cX12_ordersFrom 117 = .ok (.iload_n 1, 1) := by decide +kernel
theorem dX12_ordersFrom_118 : decode cX12_ordersFrom 118 = .ok (.iload_n 2, 1) := by decide +kernel
theorem dX12_ordersFrom_119 : decode cX12_ordersFrom 119 = .ok (.iconst 1, 1) := by decide +kernel
theorem dX12_ordersFrom_120 : decode cX12_ordersFrom 120 = .ok (.iload 5, 2) := by decide +kernel
theorem dX12_ordersFrom_122 : decode cX12_ordersFrom 122 = .ok (.ishl, 1) := by decide +kernel
theorem dX12_ordersFrom_123 : decode cX12_ordersFrom 123 = .ok (.iconst (-1), 1) := by decide +kernel
theorem dX12_ordersFrom_124 : decode cX12_ordersFrom 124 = .ok (.ixor, 1) := by decide +kernel
theorem dX12_ordersFrom_125 : decode cX12_ordersFrom 125 = .ok (.iand, 1) := by decide +kernel
theorem dX12_ordersFrom_126 : decode cX12_ordersFrom 126 = .ok (.iload_n 3, 1) := by decide +kernel
theorem dX12_ordersFrom_127 : decode cX12_ordersFrom 127 = .ok (.iconst 1, 1) := by decide +kernel
theorem dX12_ordersFrom_128 : decode cX12_ordersFrom 128 = .ok (.iadd, 1) := by decide +kernel
theorem dX12_ordersFrom_129 : decode cX12_ordersFrom 129 = .ok (.iload 4, 2) := by decide +kernel
theorem dX12_ordersFrom_131 : decode cX12_ordersFrom 131 = .ok (.iload 6, 2) := by decide +kernel
theorem dX12_ordersFrom_133 : decode cX12_ordersFrom 133 = .ok (.iadd, 1) := by decide +kernel
theorem dX12_ordersFrom_134 : decode cX12_ordersFrom 134 = .ok (.invokevirtual 181, 3) := by decide +kernel
theorem dX12_ordersFrom_137 : decode cX12_ordersFrom 137 = .ok (.iinc 5 1, 3) := by decide +kernel
theorem dX12_ordersFrom_140 : decode cX12_ordersFrom 140 = .ok (.goto (-76), 3) := by decide +kernel
theorem dX12_ordersFrom_143 : decode cX12_ordersFrom 143 = .ok (.return_, 1) := by decide +kernel
set_option maxRecDepth 100000 in
set_option maxHeartbeats 4000000 in
theorem ord_end {X : zX} {h : Hp} {m : Nat} {F : Nat → Int32} {A : Nat → Nat → Int32} {r k a : Nat} {T : Nat} {Q : pP} {n0 n1 be : Nat} (B : zB X cX12_ordersFrom 7 yX12_ordersFrom.cls yX12_ordersFrom.name none) (hlv : lvI T Q F A) (hsk : skI (A 1) T Q n0 n1 A) (hk : k ≤ 6) (ha : a ≤ 360) (hbe : be ≤ 100000) (eb : F 18 = nI be) : AW X 0 0 0 [some (.ref m), some (.int (nI r)), some (.int 0), some (.int (nI k)), some (.int (nI a)), none, none] [] (hM (zXg X) h m F A) (zV (oG (zXg X) h m F A T Q n0 n1 (oEnd k a (be, A 8, A 7)))) := by
  refine aw_iload_n B 2 rfl dX12_ordersFrom_0 rfl ?_
  refine aw_if_ne B 61 dX12_ordersFrom_1 (fun c1 => absurd rfl c1) (fun c1 => ?_)
  refine aw_iload B dX12_ordersFrom_4 rfl ?_
  refine aw_aload_n B 0 rfl dX12_ordersFrom_6 rfl ?_
  refine m_get B f_X12_175 dX12_ordersFrom_7 (mg_18 _ _) ?_
  refine aw_icmp_ge B 60 dX12_ordersFrom_10 (fun c10 => ?_) (fun c10 => ?_)
  · refine aw_vret B rfl dX12_ordersFrom_60 ?_
    have hge : ¬ a < be := fun z => absurd (show F 18 ≤ nI a from c10) (by rw [eb, Int32.not_le]; exact nI_lt z (by omega))
    have eo : oEnd k a (be, A 8, A 7) = (be, A 8, A 7) := by unfold oEnd; rw [if_neg hge]
    rw [eo]
    exact ⟨rfl, hbe, F, A, rfl, eqF.rf, eqA.rf, hlv, hsk, eb, rfl, rfl⟩
  · have hlt : a < be := Nat.not_le.mp fun z => c10 (by rw [eb]; exact nI_le z (by omega))
    refine aw_aload_n B 0 rfl dX12_ordersFrom_13 rfl ?_
    refine aw_iload B dX12_ordersFrom_14 rfl ?_
    refine m_put B f_X12_175 dX12_ordersFrom_16 (ms_18 _ _ _) (by decide) ?_
    refine aw_iconst B 0 (by decide) dX12_ordersFrom_19 ?_
    refine aw_istore5 B dX12_ordersFrom_20 ?_
    have eo : oEnd k a (be, A 8, A 7) = (a, (fun j => if j < 6 then (if j < k then A 7 j else -5) else A 8 j), A 7) := by unfold oEnd; rw [if_pos hlt]
    rw [eo]
    have lp : ∀ (f j : Nat), 6 < j + f → j ≤ 6 → AW X 0 0 22 [some (.ref m), some (.int (nI r)), some (.int 0), some (.int (nI k)), some (.int (nI a)), some (.int (nI j)), none] [] (hM (zXg X) h m (upd F 18 (nI a)) (mup A 8 (fun i => if i < j then (if i < k then A 7 i else -5) else A 8 i))) (zV (oG (zXg X) h m F A T Q n0 n1 (a, (fun j => if j < 6 then (if j < k then A 7 j else -5) else A 8 j), A 7))) := by
      intro f
      induction f with
      | zero => intros; omega
      | succ f ih =>
        intro j hf hj
        refine aw_iload B dX12_ordersFrom_22 rfl ?_
        refine aw_bipush B 6 (by decide) dX12_ordersFrom_24 ?_
        refine aw_icmp_ge B 60 dX12_ordersFrom_26 (fun c26 => ?_) (fun c26 => ?_)
        · refine aw_vret B rfl dX12_ordersFrom_60 ?_
          have hje : j = 6 := by
            have := (nI_leI (a := 6) (by decide) (by omega)).mp c26
            omega
          subst hje
          refine ⟨rfl, by show a ≤ 100000; omega, _, _, rfl, eqF.rf.up (by simp), eqA.rf.up (by simp), ?_, ?_, upd_s, mup_s, by rw [mup_n (by decide)]⟩
          · obtain ⟨kn, g1, g2, g3⟩ := hlv
            exact ⟨kn, by rw [upd_n (by decide)]; exact g1, g2, fun i hi => by rw [mup_n (by decide)]; exact g3 i hi⟩
          · intro r' s' a' h1 h2 h3
            rw [mup_n (by decide)]
            exact hsk r' s' a' h1 h2 h3
        · have hlt6 : j < 6 := Nat.not_le.mp fun z => c26 (nI_le (a := 6) z (by omega))
          refine aw_aload_n B 0 rfl dX12_ordersFrom_29 rfl ?_
          refine m_get B f_X12_34 dX12_ordersFrom_30 (mg_17 _ _) ?_
          refine aw_iload B dX12_ordersFrom_33 rfl ?_
          refine aw_iload B dX12_ordersFrom_35 rfl ?_
          refine aw_iload_n B 3 rfl dX12_ordersFrom_37 rfl ?_
          refine aw_icmp_ge B 51 dX12_ordersFrom_38 (fun c38 => ?_) (fun c38 => ?_)
          · have hjk : ¬ j < k := fun z => absurd (show nI k ≤ nI j from c38) (by rw [Int32.not_le]; exact nI_lt z (by omega))
            refine aw_bipush B (-5) (by decide) dX12_ordersFrom_51 ?_
            refine m_st B (j) (rfl) (by show _ < 6; omega) dX12_ordersFrom_53 (by decide) ?_
            refine aw_iinc5 B 1 (by decide) dX12_ordersFrom_54 ?_
            refine aw_goto B 22 dX12_ordersFrom_57 ?_
            rw [nI_1, mup_m, mup_s]
            refine Eq.mp ?_ (ih (j + 1) (by omega) (by omega))
            congr 3
            funext i
            unfold upd
            by_cases hij : i = j
            · subst hij
              rw [if_pos (by omega : i < i + 1), if_pos rfl]
              first
                | rw [if_pos hjk]
                | rw [if_neg hjk]
            · rw [if_neg hij]
              show _ = if i < j then (if i < k then A 7 i else -5) else A 8 i
              by_cases h2 : i < j
              · rw [if_pos h2, if_pos (by omega : i < j + 1)]
              · rw [if_neg h2, if_neg (by omega : ¬ i < j + 1)]
          · have hjk : j < k := Nat.not_le.mp fun z => c38 (nI_le z (by omega))
            refine aw_aload_n B 0 rfl dX12_ordersFrom_41 rfl ?_
            refine m_get B f_X12_31 dX12_ordersFrom_42 (mg_16 _ _) ?_
            refine aw_iload B dX12_ordersFrom_45 rfl ?_
            refine m_ld B (j) (rfl) (by show _ < 6; omega) dX12_ordersFrom_47 (by decide) ?_
            rw [mup_n (by decide)]
            refine aw_goto B 53 dX12_ordersFrom_48 ?_
            refine m_st B (j) (rfl) (by show _ < 6; omega) dX12_ordersFrom_53 (by decide) ?_
            refine aw_iinc5 B 1 (by decide) dX12_ordersFrom_54 ?_
            refine aw_goto B 22 dX12_ordersFrom_57 ?_
            rw [nI_1, mup_m, mup_s]
            refine Eq.mp ?_ (ih (j + 1) (by omega) (by omega))
            congr 3
            funext i
            unfold upd
            by_cases hij : i = j
            · subst hij
              rw [if_pos (by omega : i < i + 1), if_pos rfl]
              first
                | rw [if_pos hjk]
                | rw [if_neg hjk]
            · rw [if_neg hij]
              show _ = if i < j then (if i < k then A 7 i else -5) else A 8 i
              by_cases h2 : i < j
              · rw [if_pos h2, if_pos (by omega : i < j + 1)]
              · rw [if_neg h2, if_neg (by omega : ¬ i < j + 1)]
    refine Eq.mp ?_ (lp 7 0 (by omega) (by omega))
    congr 3
    rw [show (fun i => if i < 0 then (if i < k then A 7 i else -5) else A 8 i) = A 8 from by funext i; simp, mup_i]
