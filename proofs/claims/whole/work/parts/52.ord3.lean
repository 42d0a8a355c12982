/-! all orders, as the class goes through them: (best by parts, row, best row); 100000: none -/
abbrev cSt : Type := (Nat → Nat) × (Nat → Int32) × (Nat → Int32)
def upN (f : Nat → Nat) (k x : Nat) : Nat → Nat := fun j => if j = k then x else f j
def cUp (all done time : Nat) (st : cSt) : cSt := if time < st.1 done then (upN st.1 done time, st.2.1, if done = all then va_cpy st.2.1 st.2.2 0 0 6 else st.2.2) else st
def goF (S : Nat → Int32) (T : Nat) (Q : pP) (r all : Nat) : Nat → Nat → Nat → Nat → cSt → cSt
  | 0, _, done, time, st => cUp all done time st
  | d + 1, depth, done, time, st => (List.range 6).foldl (fun st s => if (all &&& (63 ^^^ done)).testBit s = true ∧ soS S T Q r s time < 100000 then goF S T Q r all d (depth + 1) (done ||| 2 ^ s) (time + soS S T Q r s time) (st.1, upd st.2.1 depth (nI s), st.2.2) else st) (cUp all done time st)
def goS (S : Nat → Int32) (T : Nat) (Q : pP) (r all d depth done time : Nat) (st : cSt) (s : Nat) : cSt := if (all &&& (63 ^^^ done)).testBit s = true ∧ soS S T Q r s time < 100000 then goF S T Q r all d (depth + 1) (done ||| 2 ^ s) (time + soS S T Q r s time) (st.1, upd st.2.1 depth (nI s), st.2.2) else st
theorem goF_s {S : Nat → Int32} {T : Nat} {Q : pP} {r all d depth done time : Nat} {st : cSt} : goF S T Q r all (d + 1) depth done time st = (List.range 6).foldl (goS S T Q r all d depth done time) (cUp all done time st) := rfl
def okN (n : Nat) : Prop := n ≤ 360 ∨ n = 100000
theorem cUp_ok {all done time : Nat} {st : cSt} (ht : time ≤ 360) (h : ∀ p, okN (st.1 p)) : ∀ p, okN ((cUp all done time st).1 p) := by
  intro p
  unfold cUp
  split
  · show okN (if p = done then time else st.1 p)
    split
    · exact Or.inl ht
    · exact h p
  · exact h p
theorem fold_inv {α β : Type} {f : α → β → α} {R : α → Prop} (h : ∀ a b, R a → R (f a b)) : ∀ (l : List β) (a : α), R a → R (l.foldl f a)
  | [], _, q => q
  | b :: l, a, q => fold_inv h l (f a b) (h a b q)
theorem goF_ok {S : Nat → Int32} {T : Nat} {Q : pP} {r all : Nat} : ∀ (d depth done time : Nat) (st : cSt), depth + d = 6 → time ≤ 60 * depth → (∀ p, okN (st.1 p)) → ∀ p, okN ((goF S T Q r all d depth done time st).1 p) := by
  intro d
  induction d with
  | zero => intro depth done time st h1 h2 h; exact cUp_ok (by omega) h
  | succ d ih =>
    intro depth done time st h1 h2 h
    rw [goF_s]
    refine fold_inv (R := fun s : cSt => ∀ p, okN (s.1 p)) (fun a s ha => ?_) _ _ (cUp_ok (by omega) h)
    unfold goS
    split
    · rename_i hc
      have := soS_le S T Q r s time
      exact ih _ _ _ _ (by omega) (by omega) ha
    · exact ha
theorem bit_5 : ∀ left, left < 64 → ∀ s, s < 6 → ((nI left &&& ((1 : Int32) <<< (nI s &&& 31)) = 0) ↔ left.testBit s = false) := by decide +kernel
theorem bit_6 : ∀ s, s < 6 → ∀ p, p < 64 → nI p ||| ((1 : Int32) <<< (nI s &&& 31)) = nI (p ||| 2 ^ s) ∧ p ||| 2 ^ s < 64 := by decide +kernel
theorem bit_n {all n0 x j : Nat} (ha : all < 2 ^ n0) (h : (all &&& x).testBit j = true) : j < n0 := by
  rw [Nat.testBit_and, Bool.and_eq_true] at h
  refine Nat.not_le.mp fun z => ?_
  have := Nat.testBit_lt_two_pow (Nat.lt_of_lt_of_le ha (Nat.pow_le_pow_right (by decide) z))
  rw [this] at h
  exact absurd h.1 (by decide)
theorem orN_n {n : Nat} (h : n < 100000) : orN n = nI n := by
  unfold orN
  rw [if_pos (show nI n < (100000 : Int32) from (show nI n < nI 100000 from nI_lt h (by decide)))]
theorem orN_5 {n : Nat} (h : okN n) : orN n = -5 ↔ n = 100000 := by
  constructor
  · intro c
    rcases h with h | h
    · rw [orN_n (by omega)] at c
      have := congrArg Int32.toInt c
      rw [nI_toInt (by omega)] at this
      have e : (-5 : Int32).toInt = -5 := by decide
      omega
    · exact h
  · intro c
    rw [c]
    decide
theorem cUp_be {all done time : Nat} {st : cSt} (ht : time < 100000) : upd (fun p => orN (st.1 p)) done (nI time) = fun p => orN (upN st.1 done time p) := by
  funext p
  unfold upd upN
  by_cases e : p = done
  · simp only [if_pos e, orN_n ht]
  · simp only [if_neg e]
theorem dX4_goOn_0 : decode cX4_goOn 0 = .ok (.iload_n 2, 1) := by decide +kernel
theorem dX4_goOn_1 : decode cX4_goOn 1 = .ok (.ifCond .lt 9, 3) := by decide +kernel
theorem dX4_goOn_4 : decode cX4_goOn 4 = .ok (.iload_n 2, 1) := by decide +kernel
theorem dX4_goOn_5 : decode cX4_goOn 5 = .ok (.bipush 64, 2) := by decide +kernel
theorem dX4_goOn_7 : decode cX4_goOn 7 = .ok (.if_icmp .lt 4, 3) := by decide +kernel
theorem dX4_goOn_10 : decode cX4_goOn 10 = .ok (.return_, 1) := by decide +kernel
theorem dX4_goOn_11 : decode cX4_goOn 11 = .ok (.aload_n 0, 1) := by decide +kernel
theorem dX4_goOn_12 : decode cX4_goOn 12 = .ok (.getfield 23, 3) := by decide +kernel
theorem dX4_goOn_15 : decode cX4_goOn 15 = .ok (.iload_n 2, 1) := by decide +kernel
theorem dX4_goOn_16 : decode cX4_goOn 16 = .ok (.iaload, 1) := by decide +kernel
theorem dX4_goOn_17 : decode cX4_goOn 17 = .ok (.bipush (-5), 2) := by decide +kernel
theorem dX4_goOn_19 : decode cX4_goOn 19 = .ok (.if_icmp .eq 13, 3) := by decide +kernel
theorem dX4_goOn_22 : decode cX4_goOn 22 = .ok (.iload_n 3, 1) := by decide +kernel
theorem dX4_goOn_23 : decode cX4_goOn 23 = .ok (.aload_n 0, 1) := by decide +kernel
theorem dX4_goOn_24 : decode cX4_goOn 24 = .ok (.getfield 23, 3) := by decide +kernel
theorem dX4_goOn_27 : decode cX4_goOn 27 = .ok (.iload_n 2, 1) := by decide +kernel
theorem dX4_goOn_28 : decode cX4_goOn 28 = .ok (.iaload, 1) := by decide +kernel
theorem dX4_goOn_29 : decode cX4_goOn 29 = .ok (.if_icmp .ge 33, 3) := by decide +kernel
theorem dX4_goOn_32 : decode cX4_goOn 32 = .ok (.aload_n 0, 1) := by decide +kernel
theorem dX4_goOn_33 : decode cX4_goOn 33 = .ok (.getfield 23, 3) := by decide +kernel
theorem dX4_goOn_36 : decode cX4_goOn 36 = .ok (.iload_n 2, 1) := by decide +kernel
theorem dX4_goOn_37 : decode cX4_goOn 37 = .ok (.iload_n 3, 1) := by decide +kernel
theorem dX4_goOn_38 : decode cX4_goOn 38 = .ok (.iastore, 1) := by decide +kernel
theorem dX4_goOn_39 : decode cX4_goOn 39 = .ok (.iload_n 2, 1) := by decide +kernel
theorem dX4_goOn_40 : decode cX4_goOn 40 = .ok (.aload_n 0, 1) := by decide +kernel
theorem dX4_goOn_41 : decode cX4_goOn 41 = .ok (.getfield 19, 3) := by decide +kernel
theorem dX4_goOn_44 : decode cX4_goOn 44 = .ok (.if_icmp .ne 18, 3) := by decide +kernel
theorem dX4_goOn_47 : decode cX4_goOn 47 = .ok (.aload_n 0, 1) := by decide +kernel
theorem dX4_goOn_48 : decode cX4_goOn 48 = .ok (.getfield 27, 3) := by decide +kernel
theorem dX4_goOn_51 : decode cX4_goOn 51 = .ok (.iconst 0, 1) := by decide +kernel
theorem dX4_goOn_52 : decode cX4_goOn 52 = .ok (.aload_n 0, 1) := by decide +kernel
theorem dX4_goOn_53 : decode cX4_goOn 53 = .ok (.getfield 30, 3) := by decide +kernel
theorem dX4_goOn_56 : decode cX4_goOn 56 = .ok (.iconst 0, 1) := by decide +kernel
theorem dX4_goOn_57 : decode cX4_goOn 57 = .ok (.bipush 6, 2) := by decide +kernel
theorem dX4_goOn_59 : decode cX4_goOn 59 = .ok (.invokestatic 45, 3) := by decide +kernel
theorem dX4_goOn_62 : decode cX4_goOn 62 = .ok (.iload_n 1, 1) := by decide +kernel
theorem dX4_goOn_63 : decode cX4_goOn 63 = .ok (.ifCond .lt 9, 3) := by decide +kernel
theorem dX4_goOn_66 : decode cX4_goOn 66 = .ok (.iload_n 1, 1) := by decide +kernel
theorem dX4_goOn_67 : decode cX4_goOn 67 = .ok (.bipush 6, 2) := by decide +kernel
theorem dX4_goOn_69 : decode cX4_goOn 69 = .ok (.if_icmp .lt 4, 3) := by decide +kernel
theorem dX4_goOn_72 : decode cX4_goOn 72 = .ok (.return_, 1) := by decide +kernel
theorem dX4_goOn_73 : decode cX4_goOn 73 = .ok (.aload_n 0, 1) := by decide +kernel
theorem dX4_goOn_74 : decode cX4_goOn 74 = .ok (.getfield 19, 3) := by decide +kernel
theorem dX4_goOn_77 : decode cX4_goOn 77 = .ok (.iload_n 2, 1) := by decide +kernel
theorem dX4_goOn_78 : decode cX4_goOn 78 = .ok (.iconst (-1), 1) := by decide +kernel
theorem dX4_goOn_79 : decode cX4_goOn 79 = .ok (.ixor, 1) := by decide +kernel
theorem dX4_goOn_80 : decode cX4_goOn 80 = .ok (.iand, 1) := by decide +kernel
theorem dX4_goOn_81 : decode cX4_goOn 81 = .ok (.istore 4, 2) := by decide +kernel
theorem dX4_goOn_83 : decode cX4_goOn 83 = .ok (.iconst 0, 1) := by decide +kernel
theorem dX4_goOn_84 : decode cX4_goOn 84 = .ok (.istore 5, 2) := by decide +kernel
theorem dX4_goOn_86 : decode cX4_goOn 86 = .ok (.iload 5, 2) := by decide +kernel
theorem dX4_goOn_88 : decode cX4_goOn 88 = .ok (.bipush 6, 2) := by decide +kernel
theorem dX4_goOn_90 : decode cX4_goOn 90 = .ok (.if_icmp .ge 65, 3) := by decide +kernel
theorem dX4_goOn_93 : decode cX4_goOn 93 = .ok (.iload 4, 2) := by decide +kernel
theorem dX4_goOn_95 : decode cX4_goOn 95 = .ok (.iconst 1, 1) := by decide +kernel
theorem dX4_goOn_96 : decode cX4_goOn 96 = .ok (.iload 5, 2) := by decide +kernel
theorem dX4_goOn_98 : decode cX4_goOn 98 = .ok (.ishl, 1) := by decide +kernel
theorem dX4_goOn_99 : decode cX4_goOn 99 = .ok (.iand, 1) := by decide +kernel
theorem dX4_goOn_100 : decode cX4_goOn 100 = .ok (.ifCond .ne 8, 3) := by decide +kernel
theorem dX4_goOn_103 : decode cX4_goOn 103 = .ok (.bipush (-5), 2) := by decide +kernel
theorem dX4_goOn_105 : decode cX4_goOn 105 = .ok (.goto 10, 3) := by decide +kernel
theorem dX4_goOn_108 : decode cX4_goOn 108 = .ok (.aload_n 0, 1) := by decide +kernel
theorem dX4_goOn_109 : decode cX4_goOn 109 = .ok (.iload 5, 2) := by decide +kernel
theorem dX4_goOn_111 : decode cX4_goOn 111 = .ok (.iload_n 3, 1) := by decide +kernel
theorem dX4_goOn_112 : decode cX4_goOn 112 = .ok (.invokevirtual 51, 3) := by decide +kernel
theorem dX4_goOn_115 : decode cX4_goOn 115 = .ok (.istore 6, 2) := by decide +kernel
theorem dX4_goOn_117 : decode cX4_goOn 117 = .ok (.iload 6, 2) := by decide +kernel
theorem dX4_goOn_119 : decode cX4_goOn 119 = .ok (.bipush (-5), 2) := by decide +kernel
theorem dX4_goOn_121 : decode cX4_goOn 121 = .ok (.if_icmp .eq 28, 3) := by decide +kernel
theorem dX4_goOn_124 : decode cX4_goOn 124 = .ok (.aload_n 0, 1) := by decide +kernel
theorem dX4_goOn_125 : decode cX4_goOn 125 = .ok (.getfield 27, 3) := by decide +kernel
theorem dX4_goOn_128 : decode cX4_goOn 128 = .ok (.iload_n 1, 1) := by decide +kernel
theorem dX4_goOn_129 : decode cX4_goOn 129 = .ok (.iload 5, 2) := by decide +kernel
theorem dX4_goOn_131 : decode cX4_goOn 131 = .ok (.iastore, 1) := by decide +kernel
theorem dX4_goOn_132 : decode cX4_goOn 132 = .ok (.aload_n 0, 1) := by decide +kernel
theorem dX4_goOn_133 : decode cX4_goOn 133 = .ok (.iload_n 1, 1) := by decide +kernel
theorem dX4_goOn_134 : decode cX4_goOn 134 = .ok (.iconst 1, 1) := by decide +kernel
theorem dX4_goOn_135 : decode cX4_goOn 135 = .ok (.iadd, 1) := by decide +kernel
theorem dX4_goOn_136 : decode cX4_goOn 136 = .ok (.iload_n 2, 1) := by decide +kernel
theorem dX4_goOn_137 : decode cX4_goOn 137 = .ok (.iconst 1, 1) := by decide +kernel
theorem dX4_goOn_138 : decode cX4_goOn 138 = .ok (.iload 5, 2) := by decide +kernel
theorem dX4_goOn_140 : decode cX4_goOn 140 = .ok (.ishl, 1) := by decide +kernel
theorem dX4_goOn_141 : decode cX4_goOn 141 = .ok (.ior, 1) := by decide +kernel
theorem dX4_goOn_142 : decode cX4_goOn 142 = .ok (.iload_n 3, 1) := by decide +kernel
theorem dX4_goOn_143 : decode cX4_goOn 143 = .ok (.iload 6, 2) := by decide +kernel
theorem dX4_goOn_145 : decode cX4_goOn 145 = .ok (.iadd, 1) := by decide +kernel
theorem dX4_goOn_146 : decode cX4_goOn 146 = .ok (.invokestatic 55, 3) := by decide +kernel
theorem dX4_goOn_149 : decode cX4_goOn 149 = .ok (.iinc 5 1, 3) := by decide +kernel
theorem dX4_goOn_152 : decode cX4_goOn 152 = .ok (.goto (-66), 3) := by decide +kernel
theorem dX4_goOn_155 : decode cX4_goOn 155 = .ok (.return_, 1) := by decide +kernel
set_option maxRecDepth 100000 in
set_option maxHeartbeats 4000000 in
theorem s_goOn (l : Launch) (g : zG) (o s ca a k v r T n0 : Nat) (num : Int32) (S : Nat → Int32) (Q : pP) (all ask : Nat) (hask : ask ≤ 2 ^ 20) (hall : all < 2 ^ n0) : ∀ (d depth done time : Nat) (h : Hp) (st : cSt) (so : Nat → Int32), depth + d = 6 → done < 64 → time ≤ 60 * depth → (∀ p, okN (st.1 p)) → oI g h o (.ref s) (.ref a) (nI all) (fun p => orN (st.1 p)) st.2.1 st.2.2 so (nI ask) → oE g h o s ca a k v r T n0 num S Q → skO S T Q r n0 so ask → Sp l g yX4_goOn cX4_goOn 7 none (rmz (8 + d)) [.ref o, .int (nI depth), .int (nI done), .int (nI time)] h (zV fun h' => ∃ so', oI g h' o (.ref s) (.ref a) (nI all) (fun p => orN ((goF S T Q r all d depth done time st).1 p)) (goF S T Q r all d depth done time st).2.1 (goF S T Q r all d depth done time st).2.2 so' (nI ask) ∧ oE g h' o s ca a k v r T n0 num S Q ∧ skO S T Q r n0 so' ask ∧ only2 ca o h h') := by
  intro d
  induction d with
  | zero =>
    intro depth done time h st so hd6 hdn ht hok hI hE hk
    have hn6 : n0 ≤ 6 := hE.2.2.2.2.2.2.1.1
    have hall64 : all < 64 := Nat.lt_of_lt_of_le hall (Nat.pow_le_pow_right (n := 2) (by decide) hn6)
    refine Sp.of [some (.ref o), some (.int (nI depth)), some (.int (nI done)), some (.int (nI time)), none, none, none] (by decide) (Nat.le_of_ble_eq_true rfl) rfl rfl ?_
    rintro X rfl hr rfl B
    show AW X 0 0 0 _ _ _ _
    have hok1 := hok done
    have r62 : AW X 0 0 62 [some (.ref o), some (.int (nI depth)), some (.int (nI done)), some (.int (nI time)), none, none, none] [] (hO (zXg X) h o (.ref s) (.ref a) (nI all) (fun p => orN ((cUp all done time st).1 p)) (cUp all done time st).2.1 (cUp all done time st).2.2 so (nI ask)) (zV fun h' => ∃ so', oI (zXg X) h' o (.ref s) (.ref a) (nI all) (fun p => orN ((goF S T Q r all 0 depth done time st).1 p)) (goF S T Q r all 0 depth done time st).2.1 (goF S T Q r all 0 depth done time st).2.2 so' (nI ask) ∧ oE (zXg X) h' o s ca a k v r T n0 num S Q ∧ skO S T Q r n0 so' ask ∧ only2 ca o h h') := by
      have hE1 : oE (zXg X) (hO (zXg X) h o (.ref s) (.ref a) (nI all) (fun p => orN ((cUp all done time st).1 p)) (cUp all done time st).2.1 (cUp all done time st).2.2 so (nI ask)) o s ca a k v r T n0 num S Q := hE.fr hO_only ⟨Nat.le_refl _, hE.2.2.2.2.2.2.2.2.2.2.2⟩
      refine aw_iload_n B 1 rfl dX4_goOn_62 rfl ?_
      refine aw_if_lt B 72 dX4_goOn_63 (fun c63 => absurd c63 (Int32.not_lt.mpr (nI_pos' (by omega)))) (fun c63 => ?_)
      refine aw_iload_n B 1 rfl dX4_goOn_66 rfl ?_
      refine aw_bipush B 6 (by decide) dX4_goOn_67 ?_
      refine aw_icmp_lt B 73 dX4_goOn_69 (fun c69 => absurd c69 (Int32.not_lt.mpr (show nI 6 ≤ nI depth from nI_le (by omega) (by omega)))) (fun c69 => ?_)
      refine aw_vret B rfl dX4_goOn_72 ?_
      exact ⟨rfl, so, hO_oI, hE1, hk, hO_only.r2⟩
    suffices key : AW X 0 0 0 [some (.ref o), some (.int (nI depth)), some (.int (nI done)), some (.int (nI time)), none, none, none] [] (hO (zXg X) h o (.ref s) (.ref a) (nI all) (fun p => orN (st.1 p)) st.2.1 st.2.2 so (nI ask)) (zV fun h' => ∃ so', oI (zXg X) h' o (.ref s) (.ref a) (nI all) (fun p => orN ((goF S T Q r all 0 depth done time st).1 p)) (goF S T Q r all 0 depth done time st).2.1 (goF S T Q r all 0 depth done time st).2.2 so' (nI ask) ∧ oE (zXg X) h' o s ca a k v r T n0 num S Q ∧ skO S T Q r n0 so' ask ∧ only2 ca o h h') by
      rw [hO_id hI] at key
      exact key
    refine aw_iload_n B 2 rfl dX4_goOn_0 rfl ?_
    refine aw_if_lt B 10 dX4_goOn_1 (fun c1 => absurd c1 (Int32.not_lt.mpr (nI_pos' (by omega)))) (fun c1 => ?_)
    refine aw_iload_n B 2 rfl dX4_goOn_4 rfl ?_
    refine aw_bipush B 64 (by decide) dX4_goOn_5 ?_
    refine aw_icmp_lt B 11 dX4_goOn_7 (fun c7 => ?_) (fun c7 => absurd (show nI done < nI 64 from nI_lt hdn (by decide)) c7)
    refine aw_aload_n B 0 rfl dX4_goOn_11 rfl ?_
    refine aw_get B f_X4_23 dX4_goOn_12 hO_o rfl ?_
    refine aw_iload_n B 2 rfl dX4_goOn_15 rfl ?_
    refine o_ld1 B done rfl hdn dX4_goOn_16 ?_
    refine aw_bipush B (-5) (by decide) dX4_goOn_17 ?_
    refine aw_icmp_eq B 32 dX4_goOn_19 (fun c19 => ?_) (fun c19 => ?_)
    · have hlt : time < st.1 done := by
        have := (orN_5 hok1).mp c19
        omega
      refine aw_aload_n B 0 rfl dX4_goOn_32 rfl ?_
      refine aw_get B f_X4_23 dX4_goOn_33 hO_o rfl ?_
      refine aw_iload_n B 2 rfl dX4_goOn_36 rfl ?_
      refine aw_iload_n B 3 rfl dX4_goOn_37 rfl ?_
      refine o_st1 B done rfl hdn dX4_goOn_38 ?_
      rw [cUp_be (all := all) (by omega)]
      refine aw_iload_n B 2 rfl dX4_goOn_39 rfl ?_
      refine aw_aload_n B 0 rfl dX4_goOn_40 rfl ?_
      refine aw_get B f_X4_19 dX4_goOn_41 hO_o rfl ?_
      refine aw_icmp_ne B 62 dX4_goOn_44 (fun c44 => ?_) (fun c44 => ?_)
      · rw [show (cUp all done time st) = (upN st.1 done time, st.2.1, st.2.2) from by unfold cUp; rw [if_pos hlt, if_neg (fun z => c44 (by rw [z]))]] at r62
        exact r62
      · refine aw_aload_n B 0 rfl dX4_goOn_47 rfl ?_
        refine aw_get B f_X4_27 dX4_goOn_48 hO_o rfl ?_
        refine aw_iconst B 0 (by decide) dX4_goOn_51 ?_
        refine aw_aload_n B 0 rfl dX4_goOn_52 rfl ?_
        refine aw_get B f_X4_30 dX4_goOn_53 hO_o rfl ?_
        refine aw_iconst B 0 (by decide) dX4_goOn_56 ?_
        refine aw_bipush B 6 (by decide) dX4_goOn_57 ?_
        refine aw_copy B k_X4_45 dX4_goOn_59 hO_2 hO_3 (by decide) (by decide) (by decide) (by decide) (by decide) (Nat.le_of_ble_eq_true rfl) (mR hr (by omega)) ?_
        rw [o_u3]
        have ha : done = all := (nI_eq (by omega) (by omega)).mp c44
        rw [show (cUp all done time st) = (upN st.1 done time, st.2.1, va_cpy st.2.1 st.2.2 0 0 6) from by unfold cUp; rw [if_pos hlt, if_pos ha]] at r62
        exact r62
    · refine aw_iload_n B 3 rfl dX4_goOn_22 rfl ?_
      refine aw_aload_n B 0 rfl dX4_goOn_23 rfl ?_
      refine aw_get B f_X4_23 dX4_goOn_24 hO_o rfl ?_
      refine aw_iload_n B 2 rfl dX4_goOn_27 rfl ?_
      refine o_ld1 B done rfl hdn dX4_goOn_28 ?_
      refine aw_icmp_ge B 62 dX4_goOn_29 (fun c29 => ?_) (fun c29 => ?_)
      · have hge : ¬ time < st.1 done := by
          rcases hok1 with z | z
          · rw [orN_n (by omega)] at c29
            exact Nat.not_lt.mpr ((nI_leI (by omega) (by omega)).mp c29)
          · exact absurd ((orN_5 (hok done)).mpr z) c19
        rw [show (cUp all done time st) = st from by unfold cUp; rw [if_neg hge]] at r62
        exact r62
      · have hlt : time < st.1 done := by
          rcases hok1 with z | z
          · rw [orN_n (by omega)] at c29
            exact (nI_ltI (by omega) (by omega)).mp (Int32.not_le.mp c29)
          · omega
        refine aw_aload_n B 0 rfl dX4_goOn_32 rfl ?_
        refine aw_get B f_X4_23 dX4_goOn_33 hO_o rfl ?_
        refine aw_iload_n B 2 rfl dX4_goOn_36 rfl ?_
        refine aw_iload_n B 3 rfl dX4_goOn_37 rfl ?_
        refine o_st1 B done rfl hdn dX4_goOn_38 ?_
        rw [cUp_be (all := all) (by omega)]
        refine aw_iload_n B 2 rfl dX4_goOn_39 rfl ?_
        refine aw_aload_n B 0 rfl dX4_goOn_40 rfl ?_
        refine aw_get B f_X4_19 dX4_goOn_41 hO_o rfl ?_
        refine aw_icmp_ne B 62 dX4_goOn_44 (fun c44 => ?_) (fun c44 => ?_)
        · rw [show (cUp all done time st) = (upN st.1 done time, st.2.1, st.2.2) from by unfold cUp; rw [if_pos hlt, if_neg (fun z => c44 (by rw [z]))]] at r62
          exact r62
        · refine aw_aload_n B 0 rfl dX4_goOn_47 rfl ?_
          refine aw_get B f_X4_27 dX4_goOn_48 hO_o rfl ?_
          refine aw_iconst B 0 (by decide) dX4_goOn_51 ?_
          refine aw_aload_n B 0 rfl dX4_goOn_52 rfl ?_
          refine aw_get B f_X4_30 dX4_goOn_53 hO_o rfl ?_
          refine aw_iconst B 0 (by decide) dX4_goOn_56 ?_
          refine aw_bipush B 6 (by decide) dX4_goOn_57 ?_
          refine aw_copy B k_X4_45 dX4_goOn_59 hO_2 hO_3 (by decide) (by decide) (by decide) (by decide) (by decide) (Nat.le_of_ble_eq_true rfl) (mR hr (by omega)) ?_
          rw [o_u3]
          have ha : done = all := (nI_eq (by omega) (by omega)).mp c44
          rw [show (cUp all done time st) = (upN st.1 done time, st.2.1, va_cpy st.2.1 st.2.2 0 0 6) from by unfold cUp; rw [if_pos hlt, if_pos ha]] at r62
          exact r62
  | succ d ih =>
    intro depth done time h st so hd6 hdn ht hok hI hE hk
    have hn6 : n0 ≤ 6 := hE.2.2.2.2.2.2.1.1
    have hall64 : all < 64 := Nat.lt_of_lt_of_le hall (Nat.pow_le_pow_right (n := 2) (by decide) hn6)
    refine Sp.of [some (.ref o), some (.int (nI depth)), some (.int (nI done)), some (.int (nI time)), none, none, none] (by decide) (Nat.le_of_ble_eq_true rfl) rfl rfl ?_
    rintro X rfl hr rfl B
    show AW X 0 0 0 _ _ _ _
    have hok1 := hok done
    have r62 : AW X 0 0 62 [some (.ref o), some (.int (nI depth)), some (.int (nI done)), some (.int (nI time)), none, none, none] [] (hO (zXg X) h o (.ref s) (.ref a) (nI all) (fun p => orN ((cUp all done time st).1 p)) (cUp all done time st).2.1 (cUp all done time st).2.2 so (nI ask)) (zV fun h' => ∃ so', oI (zXg X) h' o (.ref s) (.ref a) (nI all) (fun p => orN ((goF S T Q r all (d + 1) depth done time st).1 p)) (goF S T Q r all (d + 1) depth done time st).2.1 (goF S T Q r all (d + 1) depth done time st).2.2 so' (nI ask) ∧ oE (zXg X) h' o s ca a k v r T n0 num S Q ∧ skO S T Q r n0 so' ask ∧ only2 ca o h h') := by
      have hE1 : oE (zXg X) (hO (zXg X) h o (.ref s) (.ref a) (nI all) (fun p => orN ((cUp all done time st).1 p)) (cUp all done time st).2.1 (cUp all done time st).2.2 so (nI ask)) o s ca a k v r T n0 num S Q := hE.fr hO_only ⟨Nat.le_refl _, hE.2.2.2.2.2.2.2.2.2.2.2⟩
      have hleft := (bit_4 all hall64 done hdn).2
      have lp : ∀ (f j : Nat) (l6 : Option Value) (h1 : Hp) (so1 : Nat → Int32), j + f = 6 → oI (zXg X) h1 o (.ref s) (.ref a) (nI all) (fun p => orN (((List.range j).foldl (goS S T Q r all d depth done time) (cUp all done time st)).1 p)) ((List.range j).foldl (goS S T Q r all d depth done time) (cUp all done time st)).2.1 ((List.range j).foldl (goS S T Q r all d depth done time) (cUp all done time st)).2.2 so1 (nI ask) → oE (zXg X) h1 o s ca a k v r T n0 num S Q → skO S T Q r n0 so1 ask → only2 ca o h h1 → AW X 0 0 86 [some (.ref o), some (.int (nI depth)), some (.int (nI done)), some (.int (nI time)), some (.int (nI (all &&& (63 ^^^ done)))), some (.int (nI j)), l6] [] h1 (zV fun h' => ∃ so', oI (zXg X) h' o (.ref s) (.ref a) (nI all) (fun p => orN ((goF S T Q r all (d + 1) depth done time st).1 p)) (goF S T Q r all (d + 1) depth done time st).2.1 (goF S T Q r all (d + 1) depth done time st).2.2 so' (nI ask) ∧ oE (zXg X) h' o s ca a k v r T n0 num S Q ∧ skO S T Q r n0 so' ask ∧ only2 ca o h h') := by
        intro f
        induction f with
        | zero =>
          intro j l6 h1 so1 hj hI1 hE1 hk1 hO1
          obtain rfl : j = 6 := by omega
          refine aw_iload B dX4_goOn_86 rfl ?_
          refine aw_bipush B 6 (by decide) dX4_goOn_88 ?_
          refine aw_icmp_ge B 155 dX4_goOn_90 (fun c90 => ?_) (fun c90 => absurd (by decide) c90)
          refine aw_vret B rfl dX4_goOn_155 ?_
          exact ⟨rfl, so1, hI1, hE1, hk1, hO1⟩
        | succ f ihf =>
          intro j l6 h1 so1 hj hI1 hE1 hk1 hO1
          have hj6 : j < 6 := by omega
          have hst : ∀ st', (List.range (j + 1)).foldl (goS S T Q r all d depth done time) st' = goS S T Q r all d depth done time ((List.range j).foldl (goS S T Q r all d depth done time) st') j := fun st' => by
            rw [List.range_succ, List.foldl_append]; rfl
          have hokj : ∀ p, okN (((List.range j).foldl (goS S T Q r all d depth done time) (cUp all done time st)).1 p) := fold_inv (R := fun s : cSt => ∀ p, okN (s.1 p)) (fun a s ha => by
            unfold goS
            split
            · have := soS_le S T Q r s time
              exact goF_ok _ _ _ _ _ (by omega) (by omega) ha
            · exact ha) _ _ (cUp_ok (by omega) hok)
          refine aw_iload B dX4_goOn_86 rfl ?_
          refine aw_bipush B 6 (by decide) dX4_goOn_88 ?_
          refine aw_icmp_ge B 155 dX4_goOn_90 (fun c90 => absurd c90 (Int32.not_le.mpr (show nI j < nI 6 from nI_lt hj6 (by decide)))) (fun c90 => ?_)
          refine aw_iload B dX4_goOn_93 rfl ?_
          refine aw_iconst B 1 (by decide) dX4_goOn_95 ?_
          refine aw_iload B dX4_goOn_96 rfl ?_
          refine aw_ishl B dX4_goOn_98 ?_
          refine aw_iand B dX4_goOn_99 ?_
          refine aw_if_ne B 108 dX4_goOn_100 (fun c100 => ?_) (fun c100 => ?_)
          · have htb : (all &&& (63 ^^^ done)).testBit j = true := by
              cases hq : (all &&& (63 ^^^ done)).testBit j
              · exact absurd ((bit_5 _ hleft j hj6).mpr hq) c100
              · rfl
            have hjn := bit_n hall htb
            have o112 := hI1 0 (by decide)
            refine aw_aload_n B 0 rfl dX4_goOn_108 rfl ?_
            refine aw_iload B dX4_goOn_109 rfl ?_
            refine aw_iload_n B 3 rfl dX4_goOn_111 rfl ?_
            refine aw_callV B 0 0 (s_soonO _ _ h1 o s ca a k v r T n0 num S Q (nI all) (fun p => orN (((List.range j).foldl (goS S T Q r all d depth done time) (cUp all done time st)).1 p)) ((List.range j).foldl (goS S T Q r all d depth done time) (cUp all done time st)).2.1 ((List.range j).foldl (goS S T Q r all d depth done time) (cUp all done time st)).2.2 so1 ask j time hI1 hE1 hk1 hask hjn (by omega)) co_X4_soonFrom k_X4_51 dX4_goOn_112 o112 rfl rfl rfl rfl (Nat.le_of_ble_eq_true rfl) (zrm hr (by omega)) (Nat.le_refl _) (Nat.le_refl _) (kI fun r112 h112 hp112 => ?_)
            obtain ⟨rfl, so2, hI2, hE2, hk2, hO2⟩ := hp112
            refine aw_istore6 B dX4_goOn_115 ?_
            refine aw_iload B dX4_goOn_117 rfl ?_
            refine aw_bipush B (-5) (by decide) dX4_goOn_119 ?_
            refine aw_icmp_eq B 149 dX4_goOn_121 (fun c121 => ?_) (fun c121 => ?_)
            · refine aw_iinc5 B 1 (by decide) dX4_goOn_149 ?_
              refine aw_goto B 86 dX4_goOn_152 ?_
              rw [nI_1]
              exact ihf (j + 1) _ h112 so2 (by omega) (by rw [hst, show goS S T Q r all d depth done time ((List.range j).foldl (goS S T Q r all d depth done time) (cUp all done time st)) j = ((List.range j).foldl (goS S T Q r all d depth done time) (cUp all done time st)) from by unfold goS; rw [if_neg (fun z => by have := (orN_5 (soS_le S T Q r j time |>.imp (fun y => by omega) id)).mp c121; omega)]]; exact hI2) hE2 hk2 (hO1.tr hO2)
            · have hlt : soS S T Q r j time < 100000 := by
                rcases soS_le S T Q r j time with z | z
                · omega
                · exact absurd (by rw [z]; decide) c121
              rw [← hO_id hI2]
              refine aw_aload_n B 0 rfl dX4_goOn_124 rfl ?_
              refine aw_get B f_X4_27 dX4_goOn_125 hO_o rfl ?_
              refine aw_iload_n B 1 rfl dX4_goOn_128 rfl ?_
              refine aw_iload B dX4_goOn_129 rfl ?_
              refine o_st2 B depth rfl (by omega) dX4_goOn_131 ?_
              refine aw_aload_n B 0 rfl dX4_goOn_132 rfl ?_
              refine aw_iload_n B 1 rfl dX4_goOn_133 rfl ?_
              refine aw_iconst B 1 (by decide) dX4_goOn_134 ?_
              refine aw_iadd B dX4_goOn_135 ?_
              rw [nI_1]
              refine aw_iload_n B 2 rfl dX4_goOn_136 rfl ?_
              refine aw_iconst B 1 (by decide) dX4_goOn_137 ?_
              refine aw_iload B dX4_goOn_138 rfl ?_
              refine aw_ishl B dX4_goOn_140 ?_
              refine aw_ior B dX4_goOn_141 ?_
              rw [(bit_6 j hj6 done hdn).1]
              refine aw_iload_n B 3 rfl dX4_goOn_142 rfl ?_
              refine aw_iload B dX4_goOn_143 rfl ?_
              refine aw_iadd B dX4_goOn_145 ?_
              rw [orN_n hlt, nI_add]
              refine aw_callS B 0 0 (ih (depth + 1) (done ||| 2 ^ j) (time + soS S T Q r j time) _ ((((List.range j).foldl (goS S T Q r all d depth done time) (cUp all done time st))).1, upd (((List.range j).foldl (goS S T Q r all d depth done time) (cUp all done time st))).2.1 depth (nI j), (((List.range j).foldl (goS S T Q r all d depth done time) (cUp all done time st))).2.2) so2 (by omega) (bit_6 j hj6 done hdn).2 (by have := soS_le S T Q r j time; omega) hokj hO_oI (hE2.fr hO_only ⟨Nat.le_refl _, hE2.2.2.2.2.2.2.2.2.2.2.2⟩) hk2) co_X4_goOn k_X4_55 dX4_goOn_146 rfl rfl (Nat.le_of_ble_eq_true rfl) (zrm hr (by omega)) (Nat.le_refl _) (Nat.le_refl _) (kV fun h146 hp146 => ?_)
              obtain ⟨so3, hI3, hE3, hk3, hO3⟩ := hp146
              refine aw_iinc5 B 1 (by decide) dX4_goOn_149 ?_
              refine aw_goto B 86 dX4_goOn_152 ?_
              rw [nI_1]
              exact ihf (j + 1) _ h146 so3 (by omega) (by rw [hst, show goS S T Q r all d depth done time ((List.range j).foldl (goS S T Q r all d depth done time) (cUp all done time st)) j = (goF S T Q r all d (depth + 1) (done ||| 2 ^ j) (time + soS S T Q r j time) ((((List.range j).foldl (goS S T Q r all d depth done time) (cUp all done time st))).1, upd (((List.range j).foldl (goS S T Q r all d depth done time) (cUp all done time st))).2.1 depth (nI j), (((List.range j).foldl (goS S T Q r all d depth done time) (cUp all done time st))).2.2)) from by unfold goS; rw [if_pos ⟨htb, hlt⟩]]; exact hI3) hE3 hk3 (hO1.tr (hO2.tr ((hO_sel hI2).r2.tr (hO_re.r2.tr hO3))))
          · refine aw_bipush B (-5) (by decide) dX4_goOn_103 ?_
            refine aw_goto B 115 dX4_goOn_105 ?_
            refine aw_istore6 B dX4_goOn_115 ?_
            refine aw_iload B dX4_goOn_117 rfl ?_
            refine aw_bipush B (-5) (by decide) dX4_goOn_119 ?_
            refine aw_icmp_eq B 149 dX4_goOn_121 (fun c121 => ?_) (fun c121 => absurd rfl c121)
            refine aw_iinc5 B 1 (by decide) dX4_goOn_149 ?_
            refine aw_goto B 86 dX4_goOn_152 ?_
            rw [nI_1]
            exact ihf (j + 1) _ h1 so1 (by omega) (by rw [hst, show goS S T Q r all d depth done time ((List.range j).foldl (goS S T Q r all d depth done time) (cUp all done time st)) j = ((List.range j).foldl (goS S T Q r all d depth done time) (cUp all done time st)) from by unfold goS; rw [if_neg (fun z => by rw [((bit_5 _ hleft j hj6).mp c100)] at z; exact absurd z.1 (by decide))]]; exact hI1) hE1 hk1 hO1
      refine aw_iload_n B 1 rfl dX4_goOn_62 rfl ?_
      refine aw_if_lt B 72 dX4_goOn_63 (fun c63 => absurd c63 (Int32.not_lt.mpr (nI_pos' (by omega)))) (fun c63 => ?_)
      refine aw_iload_n B 1 rfl dX4_goOn_66 rfl ?_
      refine aw_bipush B 6 (by decide) dX4_goOn_67 ?_
      refine aw_icmp_lt B 73 dX4_goOn_69 (fun c69 => ?_) (fun c69 => absurd (show nI depth < nI 6 from nI_lt (by omega) (by decide)) c69)
      refine aw_aload_n B 0 rfl dX4_goOn_73 rfl ?_
      refine aw_get B f_X4_19 dX4_goOn_74 hO_o rfl ?_
      refine aw_iload_n B 2 rfl dX4_goOn_77 rfl ?_
      refine aw_iconst B (-1) (by decide) dX4_goOn_78 ?_
      refine aw_ixor B dX4_goOn_79 ?_
      refine aw_iand B dX4_goOn_80 ?_
      rw [(bit_4 all hall64 done hdn).1]
      refine aw_istore4 B dX4_goOn_81 ?_
      refine aw_iconst B 0 (by decide) dX4_goOn_83 ?_
      refine aw_istore5 B dX4_goOn_84 ?_
      exact lp 6 0 _ _ so rfl hO_oI hE1 hk hO_only.r2
    suffices key : AW X 0 0 0 [some (.ref o), some (.int (nI depth)), some (.int (nI done)), some (.int (nI time)), none, none, none] [] (hO (zXg X) h o (.ref s) (.ref a) (nI all) (fun p => orN (st.1 p)) st.2.1 st.2.2 so (nI ask)) (zV fun h' => ∃ so', oI (zXg X) h' o (.ref s) (.ref a) (nI all) (fun p => orN ((goF S T Q r all (d + 1) depth done time st).1 p)) (goF S T Q r all (d + 1) depth done time st).2.1 (goF S T Q r all (d + 1) depth done time st).2.2 so' (nI ask) ∧ oE (zXg X) h' o s ca a k v r T n0 num S Q ∧ skO S T Q r n0 so' ask ∧ only2 ca o h h') by
      rw [hO_id hI] at key
      exact key
    refine aw_iload_n B 2 rfl dX4_goOn_0 rfl ?_
    refine aw_if_lt B 10 dX4_goOn_1 (fun c1 => absurd c1 (Int32.not_lt.mpr (nI_pos' (by omega)))) (fun c1 => ?_)
    refine aw_iload_n B 2 rfl dX4_goOn_4 rfl ?_
    refine aw_bipush B 64 (by decide) dX4_goOn_5 ?_
    refine aw_icmp_lt B 11 dX4_goOn_7 (fun c7 => ?_) (fun c7 => absurd (show nI done < nI 64 from nI_lt hdn (by decide)) c7)
    refine aw_aload_n B 0 rfl dX4_goOn_11 rfl ?_
    refine aw_get B f_X4_23 dX4_goOn_12 hO_o rfl ?_
    refine aw_iload_n B 2 rfl dX4_goOn_15 rfl ?_
    refine o_ld1 B done rfl hdn dX4_goOn_16 ?_
    refine aw_bipush B (-5) (by decide) dX4_goOn_17 ?_
    refine aw_icmp_eq B 32 dX4_goOn_19 (fun c19 => ?_) (fun c19 => ?_)
    · have hlt : time < st.1 done := by
        have := (orN_5 hok1).mp c19
        omega
      refine aw_aload_n B 0 rfl dX4_goOn_32 rfl ?_
      refine aw_get B f_X4_23 dX4_goOn_33 hO_o rfl ?_
      refine aw_iload_n B 2 rfl dX4_goOn_36 rfl ?_
      refine aw_iload_n B 3 rfl dX4_goOn_37 rfl ?_
      refine o_st1 B done rfl hdn dX4_goOn_38 ?_
      rw [cUp_be (all := all) (by omega)]
      refine aw_iload_n B 2 rfl dX4_goOn_39 rfl ?_
      refine aw_aload_n B 0 rfl dX4_goOn_40 rfl ?_
      refine aw_get B f_X4_19 dX4_goOn_41 hO_o rfl ?_
      refine aw_icmp_ne B 62 dX4_goOn_44 (fun c44 => ?_) (fun c44 => ?_)
      · rw [show (cUp all done time st) = (upN st.1 done time, st.2.1, st.2.2) from by unfold cUp; rw [if_pos hlt, if_neg (fun z => c44 (by rw [z]))]] at r62
        exact r62
      · refine aw_aload_n B 0 rfl dX4_goOn_47 rfl ?_
        refine aw_get B f_X4_27 dX4_goOn_48 hO_o rfl ?_
        refine aw_iconst B 0 (by decide) dX4_goOn_51 ?_
        refine aw_aload_n B 0 rfl dX4_goOn_52 rfl ?_
        refine aw_get B f_X4_30 dX4_goOn_53 hO_o rfl ?_
        refine aw_iconst B 0 (by decide) dX4_goOn_56 ?_
        refine aw_bipush B 6 (by decide) dX4_goOn_57 ?_
        refine aw_copy B k_X4_45 dX4_goOn_59 hO_2 hO_3 (by decide) (by decide) (by decide) (by decide) (by decide) (Nat.le_of_ble_eq_true rfl) (mR hr (by omega)) ?_
        rw [o_u3]
        have ha : done = all := (nI_eq (by omega) (by omega)).mp c44
        rw [show (cUp all done time st) = (upN st.1 done time, st.2.1, va_cpy st.2.1 st.2.2 0 0 6) from by unfold cUp; rw [if_pos hlt, if_pos ha]] at r62
        exact r62
    · refine aw_iload_n B 3 rfl dX4_goOn_22 rfl ?_
      refine aw_aload_n B 0 rfl dX4_goOn_23 rfl ?_
      refine aw_get B f_X4_23 dX4_goOn_24 hO_o rfl ?_
      refine aw_iload_n B 2 rfl dX4_goOn_27 rfl ?_
      refine o_ld1 B done rfl hdn dX4_goOn_28 ?_
      refine aw_icmp_ge B 62 dX4_goOn_29 (fun c29 => ?_) (fun c29 => ?_)
      · have hge : ¬ time < st.1 done := by
          rcases hok1 with z | z
          · rw [orN_n (by omega)] at c29
            exact Nat.not_lt.mpr ((nI_leI (by omega) (by omega)).mp c29)
          · exact absurd ((orN_5 (hok done)).mpr z) c19
        rw [show (cUp all done time st) = st from by unfold cUp; rw [if_neg hge]] at r62
        exact r62
      · have hlt : time < st.1 done := by
          rcases hok1 with z | z
          · rw [orN_n (by omega)] at c29
            exact (nI_ltI (by omega) (by omega)).mp (Int32.not_le.mp c29)
          · omega
        refine aw_aload_n B 0 rfl dX4_goOn_32 rfl ?_
        refine aw_get B f_X4_23 dX4_goOn_33 hO_o rfl ?_
        refine aw_iload_n B 2 rfl dX4_goOn_36 rfl ?_
        refine aw_iload_n B 3 rfl dX4_goOn_37 rfl ?_
        refine o_st1 B done rfl hdn dX4_goOn_38 ?_
        rw [cUp_be (all := all) (by omega)]
        refine aw_iload_n B 2 rfl dX4_goOn_39 rfl ?_
        refine aw_aload_n B 0 rfl dX4_goOn_40 rfl ?_
        refine aw_get B f_X4_19 dX4_goOn_41 hO_o rfl ?_
        refine aw_icmp_ne B 62 dX4_goOn_44 (fun c44 => ?_) (fun c44 => ?_)
        · rw [show (cUp all done time st) = (upN st.1 done time, st.2.1, st.2.2) from by unfold cUp; rw [if_pos hlt, if_neg (fun z => c44 (by rw [z]))]] at r62
          exact r62
        · refine aw_aload_n B 0 rfl dX4_goOn_47 rfl ?_
          refine aw_get B f_X4_27 dX4_goOn_48 hO_o rfl ?_
          refine aw_iconst B 0 (by decide) dX4_goOn_51 ?_
          refine aw_aload_n B 0 rfl dX4_goOn_52 rfl ?_
          refine aw_get B f_X4_30 dX4_goOn_53 hO_o rfl ?_
          refine aw_iconst B 0 (by decide) dX4_goOn_56 ?_
          refine aw_bipush B 6 (by decide) dX4_goOn_57 ?_
          refine aw_copy B k_X4_45 dX4_goOn_59 hO_2 hO_3 (by decide) (by decide) (by decide) (by decide) (by decide) (Nat.le_of_ble_eq_true rfl) (mR hr (by omega)) ?_
          rw [o_u3]
          have ha : done = all := (nI_eq (by omega) (by omega)).mp c44
          rw [show (cUp all done time st) = (upN st.1 done time, st.2.1, va_cpy st.2.1 st.2.2 0 0 6) from by unfold cUp; rw [if_pos hlt, if_pos ha]] at r62
          exact r62
