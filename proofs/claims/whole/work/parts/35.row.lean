/-! the class: frames and its rows -/
/-- nothing but the cells from lo to hi changed -/
def only (lo hi : Nat) (h h' : Hp) : Prop := h'.1 = h.1 ∧ ∀ a, ¬ (lo ≤ a ∧ a < hi) → h'.2 a = h.2 a
theorem only.rf {lo hi : Nat} {h : Hp} : only lo hi h h := ⟨rfl, fun _ _ => rfl⟩
theorem only.tr {lo hi : Nat} {h h1 h2 : Hp} (p : only lo hi h h1) (q : only lo hi h1 h2) : only lo hi h h2 := ⟨q.1.trans p.1, fun a ha => (q.2 a ha).trans (p.2 a ha)⟩
theorem only.wide {lo hi lo' hi' : Nat} {h h1 : Hp} (p : only lo hi h h1) (e1 : lo' ≤ lo) (e2 : hi ≤ hi') : only lo' hi' h h1 := ⟨p.1, fun a ha => p.2 a (by omega)⟩
theorem only.at {lo hi a : Nat} {h h' : Hp} {e : Option va_E} (p : only lo hi h h') (ha : ¬ (lo ≤ a ∧ a < hi)) (he : h.2 a = e) : h'.2 a = e := (p.2 a ha).trans he
theorem only.up {lo hi a : Nat} {h : Hp} {e : va_E} (h1 : lo ≤ a) (h2 : a < hi) : only lo hi h (hp_up h a e) := ⟨rfl, fun b hb => by
  show (if b = a then _ else _) = _
  rw [if_neg (by omega)]⟩
theorem hu_s {h : Hp} {a : Nat} {e : va_E} : (hp_up h a e).2 a = some e := by simp [hp_up]
theorem hu_n {h : Hp} {a b : Nat} {e : va_E} (hb : b ≠ a) : (hp_up h a e).2 b = h.2 b := by simp [hp_up, hb]
def rowI (g : zG) (h : Hp) (r n : Nat) (f : Nat → Int32) (sz : Int32) : Prop := h.2 r = some (.inr (7, [.ref (r + 1), .int sz])) ∧ h.2 (r + 1) = some (.inl (g.2.2.1.1, n, .inl f))
theorem rowI.fr {g : zG} {h h' : Hp} {r n lo hi : Nat} {f : Nat → Int32} {sz : Int32} (p : rowI g h r n f sz) (o : only lo hi h h') (d : r + 2 ≤ lo ∨ hi ≤ r) : rowI g h' r n f sz := ⟨o.at (by omega) p.1, o.at (by omega) p.2⟩
/-- the heap with a row at r -/
def hW (g : zG) (h : Hp) (r n : Nat) (f : Nat → Int32) (sz : Int32) : Hp := (h.1, fun a => if a = r then some (.inr (7, [.ref (r + 1), .int sz])) else if a = r + 1 then some (.inl (g.2.2.1.1, n, .inl f)) else h.2 a)
section ZROW
variable {X : zX} {cc : ByteArray} {nL : Nat} {own nm : String} {ret : Option FieldType} {rc rs pc : Nat} {lv : List (Option Value)} {st : List Value} {h : Hp} {Ko : Option Value → Hp → Prop} {g : zG} {r n : Nat} {f : Nat → Int32} {sz : Int32}
theorem hW_o : (hW g h r n f sz).2 r = some (.inr (7, [.ref (r + 1), .int sz])) := by simp [hW]
theorem hW_i : (hW g h r n f sz).2 (r + 1) = some (.inl (g.2.2.1.1, n, .inl f)) := by simp [hW]
theorem hW_n {a : Nat} (h1 : ¬ (r ≤ a ∧ a < r + 2)) : (hW g h r n f sz).2 a = h.2 a := by
  unfold hW
  show (if a = r then _ else if a = r + 1 then _ else _) = _
  rw [if_neg (by omega), if_neg (by omega)]
theorem hW_row : rowI g (hW g h r n f sz) r n f sz := ⟨hW_o, hW_i⟩
theorem hW_id (p : rowI g h r n f sz) : hW g h r n f sz = h := by
  refine Prod.ext rfl (funext fun a => ?_)
  show (if a = r then _ else if a = r + 1 then _ else _) = _
  by_cases h1 : a = r
  · rw [if_pos h1, h1]; exact p.1.symm
  · rw [if_neg h1]
    by_cases h2 : a = r + 1
    · rw [if_pos h2, h2]; exact p.2.symm
    · rw [if_neg h2]
theorem hW_only : only r (r + 2) h (hW g h r n f sz) := ⟨rfl, fun _ ha => hW_n ha⟩
theorem hW_upo {sz' : Int32} : hp_up (hW g h r n f sz) r (.inr (7, [.ref (r + 1), .int sz'])) = hW g h r n f sz' := by
  refine Prod.ext rfl (funext fun a => ?_)
  show (if a = r then _ else (if a = r then _ else if a = r + 1 then _ else _)) = (if a = r then _ else if a = r + 1 then _ else _)
  by_cases h1 : a = r
  · rw [if_pos h1, if_pos h1]
  · rw [if_neg h1, if_neg h1, if_neg h1]
theorem hW_upi {f' : Nat → Int32} : hp_up (hW g h r n f sz) (r + 1) (.inl (g.2.2.1.1, n, .inl f')) = hW g h r n f' sz := by
  refine Prod.ext rfl (funext fun a => ?_)
  show (if a = r + 1 then _ else (if a = r then _ else if a = r + 1 then _ else _)) = (if a = r then _ else if a = r + 1 then _ else _)
  by_cases h1 : a = r + 1
  · rw [if_pos h1, if_neg (by omega), if_pos h1]
  · rw [if_neg h1, if_neg h1, if_neg h1]
theorem hW_hW {f' : Nat → Int32} {sz' : Int32} : hW g (hW g h r n f sz) r n f' sz' = hW g h r n f' sz' := by
  refine Prod.ext rfl (funext fun a => ?_)
  show (if a = r then _ else if a = r + 1 then _ else (if a = r then _ else if a = r + 1 then _ else _)) = (if a = r then _ else if a = r + 1 then _ else _)
  by_cases h1 : a = r
  · rw [if_pos h1, if_pos h1]
  · rw [if_neg h1, if_neg h1]
    by_cases h2 : a = r + 1
    · rw [if_pos h2, if_pos h2, if_neg h1]
    · rw [if_neg h2, if_neg h2, if_neg h1, if_neg h2]
theorem w_put (B : zB X cc nL own nm ret) {idx : Nat} {dec : Bool} {x : Int32} (Fl : zFL own idx 7 1 false dec .int) (hd : decode cc pc = .ok (.putfield idx, 3)) (kk : AW X rc rs (pc + 3) lv st (hW (zXg X) h r n f x) Ko) : AW X rc rs pc lv (.int x :: .ref r :: st) (hW (zXg X) h r n f sz) Ko :=
  aw_put B Fl hd hW_o rfl rfl (by show 1 < 2; decide) (by
    show AW X rc rs (pc + 3) lv st (hp_up (hW (zXg X) h r n f sz) r (.inr (7, [.ref (r + 1), .int x]))) Ko
    rw [hW_upo]; exact kk)
theorem w_ld (B : zB X cc nL own nm ret) {i : Int32} (q : Nat) (e : i = nI q) (hb : q < n) (hn : n < 2 ^ 31) (hd : decode cc pc = .ok (.iaload, 1)) (kk : AW X rc rs (pc + 1) lv (.int (f q) :: st) (hW (zXg X) h r n f sz) Ko) : AW X rc rs pc lv (.int i :: .ref (r + 1) :: st) (hW (zXg X) h r n f sz) Ko :=
  aw_iald B hd hW_i (by rw [e]; exact vp_in_nI hb hn) (by rw [e, nI_clamp (Nat.lt_trans hb hn)]; exact kk)
theorem w_st (B : zB X cc nL own nm ret) {i x : Int32} (q : Nat) (e : i = nI q) (hb : q < n) (hn : n < 2 ^ 31) (hd : decode cc pc = .ok (.iastore, 1)) (kk : AW X rc rs (pc + 1) lv st (hW (zXg X) h r n (upd f q x) sz) Ko) : AW X rc rs pc lv (.int x :: .int i :: .ref (r + 1) :: st) (hW (zXg X) h r n f sz) Ko :=
  aw_iast B hd hW_i (by rw [e]; exact vp_in_nI hb hn) (by rw [e, nI_clamp (Nat.lt_trans hb hn), hW_upi]; exact kk)
end ZROW
/-- what a row answers -/
def gR (f : Nat → Int32) (n k : Nat) (i : Int32) : Int32 := if i < 0 then -1 else if kN i < k ∧ kN i < n then f (kN i) else -1
theorem gR_q {f : Nat → Int32} {n k q : Nat} (h1 : q < k) (h2 : q < n) (hn : n < 2 ^ 31) : gR f n k (nI q) = f q := by
  unfold gR
  rw [if_neg (Int32.not_lt.mpr (nI_pos' (by omega))), kN_nI (by omega), if_pos ⟨h1, h2⟩]
theorem dX7_isFull_0 : decode cX7_isFull 0 = .ok (.aload_n 0, 1) := by decide +kernel
theorem dX7_isFull_1 : decode cX7_isFull 1 = .ok (.getfield 9, 3) := by decide +kernel
theorem dX7_isFull_4 : decode cX7_isFull 4 = .ok (.aload_n 0, 1) := by decide +kernel
theorem dX7_isFull_5 : decode cX7_isFull 5 = .ok (.getfield 15, 3) := by decide +kernel
theorem dX7_isFull_8 : decode cX7_isFull 8 = .ok (.arraylength, 1) := by decide +kernel
theorem dX7_isFull_9 : decode cX7_isFull 9 = .ok (.if_icmp .lt 7, 3) := by decide +kernel
theorem dX7_isFull_12 : decode cX7_isFull 12 = .ok (.iconst 1, 1) := by decide +kernel
theorem dX7_isFull_13 : decode cX7_isFull 13 = .ok (.goto 4, 3) := by decide +kernel
theorem dX7_isFull_16 : decode cX7_isFull 16 = .ok (.iconst 0, 1) := by decide +kernel
theorem dX7_isFull_17 : decode cX7_isFull 17 = .ok (.ireturn, 1) := by decide +kernel
set_option maxRecDepth 100000 in
set_option maxHeartbeats 4000000 in
theorem s_isFull (l : Launch) (g : zG) (h : Hp) (r n k : Nat) (f : Nat → Int32) (hn : n < 2 ^ 31) (hk : k < 2 ^ 31) : Sp l g yX7_isFull cX7_isFull 1 (some .boolean) (rmz 1) [.ref r] (hW g h r n f (nI k)) (zI fun v h' => v = (if n ≤ k then 1 else 0) ∧ h' = hW g h r n f (nI k)) := by
  refine Sp.of [some (.ref r)] (by decide) (Nat.le_of_ble_eq_true rfl) rfl rfl ?_
  rintro X rfl hr rfl B
  show AW X 0 0 0 _ _ _ _
  refine aw_aload_n B 0 rfl dX7_isFull_0 rfl ?_
  refine aw_get B f_X7_9 dX7_isFull_1 hW_o rfl ?_
  refine aw_aload_n B 0 rfl dX7_isFull_4 rfl ?_
  refine aw_get B f_X7_15 dX7_isFull_5 hW_o rfl ?_
  refine aw_alen B dX7_isFull_8 hW_i (Or.inl rfl) ?_
  refine aw_icmp_lt B 16 dX7_isFull_9 (fun c9 => ?_) (fun c9 => ?_)
  · refine aw_iconst B 0 (by decide) dX7_isFull_16 ?_
    refine aw_iret B rfl rfl dX7_isFull_17 ?_
    exact ⟨_, rfl, by rw [if_neg (Nat.not_le.mpr ((nI_ltI hk hn).mp c9))], rfl⟩
  · refine aw_iconst B 1 (by decide) dX7_isFull_12 ?_
    refine aw_goto B 17 dX7_isFull_13 ?_
    refine aw_iret B rfl rfl dX7_isFull_17 ?_
    exact ⟨_, rfl, by rw [if_pos (Nat.not_lt.mp fun z => c9 ((nI_ltI hk hn).mpr z))], rfl⟩
theorem dX7_add_0 : decode cX7_add 0 = .ok (.aload_n 0, 1) := by decide +kernel
theorem dX7_add_1 : decode cX7_add 1 = .ok (.getfield 9, 3) := by decide +kernel
theorem dX7_add_4 : decode cX7_add 4 = .ok (.ifCond .lt 25, 3) := by decide +kernel
theorem dX7_add_7 : decode cX7_add 7 = .ok (.aload_n 0, 1) := by decide +kernel
theorem dX7_add_8 : decode cX7_add 8 = .ok (.getfield 9, 3) := by decide +kernel
theorem dX7_add_11 : decode cX7_add 11 = .ok (.aload_n 0, 1) := by decide +kernel
theorem dX7_add_12 : decode cX7_add 12 = .ok (.getfield 15, 3) := by decide +kernel
theorem dX7_add_15 : decode cX7_add 15 = .ok (.arraylength, 1) := by decide +kernel
theorem dX7_add_16 : decode cX7_add 16 = .ok (.if_icmp .ge 13, 3) := by decide +kernel
theorem dX7_add_19 : decode cX7_add 19 = .ok (.aload_n 0, 1) := by decide +kernel
theorem dX7_add_20 : decode cX7_add 20 = .ok (.getfield 15, 3) := by decide +kernel
theorem dX7_add_23 : decode cX7_add 23 = .ok (.aload_n 0, 1) := by decide +kernel
theorem dX7_add_24 : decode cX7_add 24 = .ok (.getfield 9, 3) := by decide +kernel
theorem dX7_add_27 : decode cX7_add 27 = .ok (.iload_n 1, 1) := by decide +kernel
theorem dX7_add_28 : decode cX7_add 28 = .ok (.iastore, 1) := by decide +kernel
theorem dX7_add_29 : decode cX7_add 29 = .ok (.aload_n 0, 1) := by decide +kernel
theorem dX7_add_30 : decode cX7_add 30 = .ok (.dup, 1) := by decide +kernel
theorem dX7_add_31 : decode cX7_add 31 = .ok (.getfield 9, 3) := by decide +kernel
theorem dX7_add_34 : decode cX7_add 34 = .ok (.iconst 1, 1) := by decide +kernel
theorem dX7_add_35 : decode cX7_add 35 = .ok (.iadd, 1) := by decide +kernel
theorem dX7_add_36 : decode cX7_add 36 = .ok (.putfield 9, 3) := by decide +kernel
theorem dX7_add_39 : decode cX7_add 39 = .ok (.return_, 1) := by decide +kernel
set_option maxRecDepth 100000 in
set_option maxHeartbeats 4000000 in
theorem s_rowAdd (l : Launch) (g : zG) (h : Hp) (r n k : Nat) (f : Nat → Int32) (x : Int32) (hn : n < 2 ^ 31) (hk : k < 2 ^ 31) : Sp l g yX7_add cX7_add 2 none (rmz 1) [.ref r, .int x] (hW g h r n f (nI k)) (zV fun h' => h' = hW g h r n (if k < n then upd f k x else f) (nI (k + 1))) := by
  refine Sp.of [some (.ref r), some (.int x)] (by decide) (Nat.le_of_ble_eq_true rfl) rfl rfl ?_
  rintro X rfl hr rfl B
  show AW X 0 0 0 _ _ _ _
  refine aw_aload_n B 0 rfl dX7_add_0 rfl ?_
  refine aw_get B f_X7_9 dX7_add_1 hW_o rfl ?_
  refine aw_if_lt B 29 dX7_add_4 (fun c4 => absurd c4 (Int32.not_lt.mpr (nI_pos' hk))) (fun c4 => ?_)
  refine aw_aload_n B 0 rfl dX7_add_7 rfl ?_
  refine aw_get B f_X7_9 dX7_add_8 hW_o rfl ?_
  refine aw_aload_n B 0 rfl dX7_add_11 rfl ?_
  refine aw_get B f_X7_15 dX7_add_12 hW_o rfl ?_
  refine aw_alen B dX7_add_15 hW_i (Or.inl rfl) ?_
  refine aw_icmp_ge B 29 dX7_add_16 (fun c16 => ?_) (fun c16 => ?_)
  · refine aw_aload_n B 0 rfl dX7_add_29 rfl ?_
    refine aw_dup B rfl dX7_add_30 ?_
    refine aw_get B f_X7_9 dX7_add_31 hW_o rfl ?_
    refine aw_iconst B 1 (by decide) dX7_add_34 ?_
    refine aw_iadd B dX7_add_35 ?_
    rw [nI_1]
    refine w_put B f_X7_9 dX7_add_36 ?_
    refine aw_vret B rfl dX7_add_39 ?_
    exact ⟨rfl, by rw [if_neg (Nat.not_lt.mpr ((nI_leI hn hk).mp c16))]⟩
  · refine aw_aload_n B 0 rfl dX7_add_19 rfl ?_
    refine aw_get B f_X7_15 dX7_add_20 hW_o rfl ?_
    refine aw_aload_n B 0 rfl dX7_add_23 rfl ?_
    refine aw_get B f_X7_9 dX7_add_24 hW_o rfl ?_
    refine aw_iload_n B 1 rfl dX7_add_27 rfl ?_
    refine w_st B k rfl ((nI_ltI hk hn).mp (Int32.not_le.mp c16)) hn dX7_add_28 ?_
    refine aw_aload_n B 0 rfl dX7_add_29 rfl ?_
    refine aw_dup B rfl dX7_add_30 ?_
    refine aw_get B f_X7_9 dX7_add_31 hW_o rfl ?_
    refine aw_iconst B 1 (by decide) dX7_add_34 ?_
    refine aw_iadd B dX7_add_35 ?_
    rw [nI_1]
    refine w_put B f_X7_9 dX7_add_36 ?_
    refine aw_vret B rfl dX7_add_39 ?_
    exact ⟨rfl, by rw [if_pos ((nI_ltI hk hn).mp (Int32.not_le.mp c16))]⟩
theorem dX7_get_0 : decode cX7_get 0 = .ok (.iload_n 1, 1) := by decide +kernel
theorem dX7_get_1 : decode cX7_get 1 = .ok (.ifCond .lt 29, 3) := by decide +kernel
theorem dX7_get_4 : decode cX7_get 4 = .ok (.iload_n 1, 1) := by decide +kernel
theorem dX7_get_5 : decode cX7_get 5 = .ok (.aload_n 0, 1) := by decide +kernel
theorem dX7_get_6 : decode cX7_get 6 = .ok (.getfield 9, 3) := by decide +kernel
theorem dX7_get_9 : decode cX7_get 9 = .ok (.if_icmp .ge 21, 3) := by decide +kernel
theorem dX7_get_12 : decode cX7_get 12 = .ok (.iload_n 1, 1) := by decide +kernel
theorem dX7_get_13 : decode cX7_get 13 = .ok (.aload_n 0, 1) := by decide +kernel
theorem dX7_get_14 : decode cX7_get 14 = .ok (.getfield 15, 3) := by decide +kernel
theorem dX7_get_17 : decode cX7_get 17 = .ok (.arraylength, 1) := by decide +kernel
theorem dX7_get_18 : decode cX7_get 18 = .ok (.if_icmp .ge 12, 3) := by decide +kernel
theorem dX7_get_21 : decode cX7_get 21 = .ok (.aload_n 0, 1) := by decide +kernel
theorem dX7_get_22 : decode cX7_get 22 = .ok (.getfield 15, 3) := by decide +kernel
theorem dX7_get_25 : decode cX7_get 25 = .ok (.iload_n 1, 1) := by decide +kernel
theorem dX7_get_26 : decode cX7_get 26 = .ok (.iaload, 1) := by decide +kernel
theorem dX7_get_27 : decode cX7_get 27 = .ok (.goto 4, 3) := by decide +kernel
theorem dX7_get_30 : decode cX7_get 30 = .ok (.iconst (-1), 1) := by decide +kernel
theorem dX7_get_31 : decode cX7_get 31 = .ok (.ireturn, 1) := by decide +kernel
set_option maxRecDepth 100000 in
set_option maxHeartbeats 4000000 in
theorem s_rowGet (l : Launch) (g : zG) (h : Hp) (r n k : Nat) (f : Nat → Int32) (i : Int32) (hn : n < 2 ^ 31) (hk : k < 2 ^ 31) : Sp l g yX7_get cX7_get 2 (some .int) (rmz 1) [.ref r, .int i] (hW g h r n f (nI k)) (zI fun v h' => v = gR f n k i ∧ h' = hW g h r n f (nI k)) := by
  refine Sp.of [some (.ref r), some (.int i)] (by decide) (Nat.le_of_ble_eq_true rfl) rfl rfl ?_
  rintro X rfl hr rfl B
  show AW X 0 0 0 _ _ _ _
  refine aw_iload_n B 1 rfl dX7_get_0 rfl ?_
  refine aw_if_lt B 30 dX7_get_1 (fun c1 => ?_) (fun c1 => ?_)
  · refine aw_iconst B (-1) (by decide) dX7_get_30 ?_
    refine aw_iret B rfl rfl dX7_get_31 ?_
    exact ⟨_, rfl, by unfold gR; rw [if_pos c1], rfl⟩
  · refine aw_iload_n B 1 rfl dX7_get_4 rfl ?_
    refine aw_aload_n B 0 rfl dX7_get_5 rfl ?_
    refine aw_get B f_X7_9 dX7_get_6 hW_o rfl ?_
    refine aw_icmp_ge B 30 dX7_get_9 (fun c9 => ?_) (fun c9 => ?_)
    · refine aw_iconst B (-1) (by decide) dX7_get_30 ?_
      refine aw_iret B rfl rfl dX7_get_31 ?_
      obtain ⟨j, hj, rfl⟩ := nI_of c1
      exact ⟨_, rfl, by unfold gR; rw [if_neg c1, kN_nI hj, if_neg (fun z => absurd ((nI_leI hk hj).mp c9) (Nat.not_le.mpr z.1))], rfl⟩
    · refine aw_iload_n B 1 rfl dX7_get_12 rfl ?_
      refine aw_aload_n B 0 rfl dX7_get_13 rfl ?_
      refine aw_get B f_X7_15 dX7_get_14 hW_o rfl ?_
      refine aw_alen B dX7_get_17 hW_i (Or.inl rfl) ?_
      refine aw_icmp_ge B 30 dX7_get_18 (fun c18 => ?_) (fun c18 => ?_)
      · refine aw_iconst B (-1) (by decide) dX7_get_30 ?_
        refine aw_iret B rfl rfl dX7_get_31 ?_
        obtain ⟨j, hj, rfl⟩ := nI_of c1
        exact ⟨_, rfl, by unfold gR; rw [if_neg c1, kN_nI hj, if_neg (fun z => absurd ((nI_leI hn hj).mp c18) (Nat.not_le.mpr z.2))], rfl⟩
      · have h0 : ¬ i < 0 := c1
        obtain ⟨j, hj, rfl⟩ := nI_of h0
        have hi : nI (kN (nI j)) = nI j := by rw [kN_nI hj]
        have l1 : kN (nI j) < k := by rw [kN_nI hj]; exact (nI_ltI hj hk).mp (Int32.not_le.mp c9)
        have l2 : kN (nI j) < n := by rw [kN_nI hj]; exact (nI_ltI hj hn).mp (Int32.not_le.mp c18)
        refine aw_aload_n B 0 rfl dX7_get_21 rfl ?_
        refine aw_get B f_X7_15 dX7_get_22 hW_o rfl ?_
        refine aw_iload_n B 1 rfl dX7_get_25 rfl ?_
        refine w_ld B (kN (nI j)) hi.symm l2 hn dX7_get_26 ?_
        refine aw_goto B 31 dX7_get_27 ?_
        refine aw_iret B rfl rfl dX7_get_31 ?_
        exact ⟨_, rfl, by unfold gR; rw [if_neg h0, if_pos ⟨l1, l2⟩], rfl⟩
theorem dX7_replace_0 : decode cX7_replace 0 = .ok (.iload_n 1, 1) := by decide +kernel
theorem dX7_replace_1 : decode cX7_replace 1 = .ok (.ifCond .lt 27, 3) := by decide +kernel
theorem dX7_replace_4 : decode cX7_replace 4 = .ok (.iload_n 1, 1) := by decide +kernel
theorem dX7_replace_5 : decode cX7_replace 5 = .ok (.aload_n 0, 1) := by decide +kernel
theorem dX7_replace_6 : decode cX7_replace 6 = .ok (.getfield 9, 3) := by decide +kernel
theorem dX7_replace_9 : decode cX7_replace 9 = .ok (.if_icmp .ge 19, 3) := by decide +kernel
theorem dX7_replace_12 : decode cX7_replace 12 = .ok (.iload_n 1, 1) := by decide +kernel
theorem dX7_replace_13 : decode cX7_replace 13 = .ok (.aload_n 0, 1) := by decide +kernel
theorem dX7_replace_14 : decode cX7_replace 14 = .ok (.getfield 15, 3) := by decide +kernel
theorem dX7_replace_17 : decode cX7_replace 17 = .ok (.arraylength, 1) := by decide +kernel
theorem dX7_replace_18 : decode cX7_replace 18 = .ok (.if_icmp .ge 10, 3) := by decide +kernel
theorem dX7_replace_21 : decode cX7_replace 21 = .ok (.aload_n 0, 1) := by decide +kernel
theorem dX7_replace_22 : decode cX7_replace 22 = .ok (.getfield 15, 3) := by decide +kernel
theorem dX7_replace_25 : decode cX7_replace 25 = .ok (.iload_n 1, 1) := by decide +kernel
theorem dX7_replace_26 : decode cX7_replace 26 = .ok (.iload_n 2, 1) := by decide +kernel
theorem dX7_replace_27 : decode cX7_replace 27 = .ok (.iastore, 1) := by decide +kernel
theorem dX7_replace_28 : decode cX7_replace 28 = .ok (.return_, 1) := by decide +kernel
set_option maxRecDepth 100000 in
set_option maxHeartbeats 4000000 in
theorem s_rowRep (l : Launch) (g : zG) (h : Hp) (r n k : Nat) (f : Nat → Int32) (q : Nat) (x : Int32) (hn : n < 2 ^ 31) (hk : k < 2 ^ 31) (h1 : q < k) (h2 : q < n) : Sp l g yX7_replace cX7_replace 3 none (rmz 1) [.ref r, .int (nI q), .int x] (hW g h r n f (nI k)) (zV fun h' => h' = hW g h r n (upd f q x) (nI k)) := by
  refine Sp.of [some (.ref r), some (.int (nI q)), some (.int x)] (by decide) (Nat.le_of_ble_eq_true rfl) rfl rfl ?_
  rintro X rfl hr rfl B
  show AW X 0 0 0 _ _ _ _
  refine aw_iload_n B 1 rfl dX7_replace_0 rfl ?_
  refine aw_if_lt B 28 dX7_replace_1 (fun c1 => absurd c1 (Int32.not_lt.mpr (nI_pos' (by omega)))) (fun c1 => ?_)
  refine aw_iload_n B 1 rfl dX7_replace_4 rfl ?_
  refine aw_aload_n B 0 rfl dX7_replace_5 rfl ?_
  refine aw_get B f_X7_9 dX7_replace_6 hW_o rfl ?_
  refine aw_icmp_ge B 28 dX7_replace_9 (fun c9 => absurd c9 (Int32.not_le.mpr (nI_lt h1 hk))) (fun c9 => ?_)
  refine aw_iload_n B 1 rfl dX7_replace_12 rfl ?_
  refine aw_aload_n B 0 rfl dX7_replace_13 rfl ?_
  refine aw_get B f_X7_15 dX7_replace_14 hW_o rfl ?_
  refine aw_alen B dX7_replace_17 hW_i (Or.inl rfl) ?_
  refine aw_icmp_ge B 28 dX7_replace_18 (fun c18 => absurd c18 (Int32.not_le.mpr (nI_lt h2 hn))) (fun c18 => ?_)
  refine aw_aload_n B 0 rfl dX7_replace_21 rfl ?_
  refine aw_get B f_X7_15 dX7_replace_22 hW_o rfl ?_
  refine aw_iload_n B 1 rfl dX7_replace_25 rfl ?_
  refine aw_iload_n B 2 rfl dX7_replace_26 rfl ?_
  refine w_st B q rfl h2 hn dX7_replace_27 ?_
  refine aw_vret B rfl dX7_replace_28 ?_
  exact ⟨rfl, rfl⟩
theorem dX7_clear_0 : decode cX7_clear 0 = .ok (.aload_n 0, 1) := by decide +kernel
theorem dX7_clear_1 : decode cX7_clear 1 = .ok (.iconst 0, 1) := by decide +kernel
theorem dX7_clear_2 : decode cX7_clear 2 = .ok (.putfield 9, 3) := by decide +kernel
theorem dX7_clear_5 : decode cX7_clear 5 = .ok (.return_, 1) := by decide +kernel
set_option maxRecDepth 100000 in
set_option maxHeartbeats 4000000 in
theorem s_rowClr (l : Launch) (g : zG) (h : Hp) (r n k : Nat) (f : Nat → Int32) : Sp l g yX7_clear cX7_clear 1 none (rmz 1) [.ref r] (hW g h r n f (nI k)) (zV fun h' => h' = hW g h r n f 0) := by
  refine Sp.of [some (.ref r)] (by decide) (Nat.le_of_ble_eq_true rfl) rfl rfl ?_
  rintro X rfl hr rfl B
  show AW X 0 0 0 _ _ _ _
  refine aw_aload_n B 0 rfl dX7_clear_0 rfl ?_
  refine aw_iconst B 0 (by decide) dX7_clear_1 ?_
  refine w_put B f_X7_9 dX7_clear_2 ?_
  refine aw_vret B rfl dX7_clear_5 ?_
  exact ⟨rfl, rfl⟩
theorem dX7_takeFrom_0 : decode cX7_takeFrom 0 = .ok (.aload_n 0, 1) := by decide +kernel
theorem dX7_takeFrom_1 : decode cX7_takeFrom 1 = .ok (.aload_n 1, 1) := by decide +kernel
theorem dX7_takeFrom_2 : decode cX7_takeFrom 2 = .ok (.getfield 9, 3) := by decide +kernel
theorem dX7_takeFrom_5 : decode cX7_takeFrom 5 = .ok (.putfield 9, 3) := by decide +kernel
theorem dX7_takeFrom_8 : decode cX7_takeFrom 8 = .ok (.iconst 0, 1) := by decide +kernel
theorem dX7_takeFrom_9 : decode cX7_takeFrom 9 = .ok (.istore_n 2, 1) := by decide +kernel
theorem dX7_takeFrom_10 : decode cX7_takeFrom 10 = .ok (.iload_n 2, 1) := by decide +kernel
theorem dX7_takeFrom_11 : decode cX7_takeFrom 11 = .ok (.aload_n 0, 1) := by decide +kernel
theorem dX7_takeFrom_12 : decode cX7_takeFrom 12 = .ok (.getfield 9, 3) := by decide +kernel
theorem dX7_takeFrom_15 : decode cX7_takeFrom 15 = .ok (.if_icmp .ge 39, 3) := by decide +kernel
theorem dX7_takeFrom_18 : decode cX7_takeFrom 18 = .ok (.iload_n 2, 1) := by decide +kernel
theorem dX7_takeFrom_19 : decode cX7_takeFrom 19 = .ok (.aload_n 0, 1) := by decide +kernel
theorem dX7_takeFrom_20 : decode cX7_takeFrom 20 = .ok (.getfield 15, 3) := by decide +kernel
theorem dX7_takeFrom_23 : decode cX7_takeFrom 23 = .ok (.arraylength, 1) := by decide +kernel
theorem dX7_takeFrom_24 : decode cX7_takeFrom 24 = .ok (.if_icmp .ge 30, 3) := by decide +kernel
theorem dX7_takeFrom_27 : decode cX7_takeFrom 27 = .ok (.iload_n 2, 1) := by decide +kernel
theorem dX7_takeFrom_28 : decode cX7_takeFrom 28 = .ok (.aload_n 1, 1) := by decide +kernel
theorem dX7_takeFrom_29 : decode cX7_takeFrom 29 = .ok (.getfield 15, 3) := by decide +kernel
theorem dX7_takeFrom_32 : decode cX7_takeFrom 32 = .ok (.arraylength, 1) := by decide +kernel
theorem dX7_takeFrom_33 : decode cX7_takeFrom 33 = .ok (.if_icmp .ge 21, 3) := by decide +kernel
theorem dX7_takeFrom_36 : decode cX7_takeFrom 36 = .ok (.aload_n 0, 1) := by decide +kernel
theorem dX7_takeFrom_37 : decode cX7_takeFrom 37 = .ok (.getfield 15, 3) := by decide +kernel
theorem dX7_takeFrom_40 : decode cX7_takeFrom 40 = .ok (.iload_n 2, 1) := by decide +kernel
theorem dX7_takeFrom_41 : decode cX7_takeFrom 41 = .ok (.aload_n 1, 1) := by decide +kernel
theorem dX7_takeFrom_42 : decode cX7_takeFrom 42 = .ok (.getfield 15, 3) := by decide +kernel
theorem dX7_takeFrom_45 : decode cX7_takeFrom 45 = .ok (.iload_n 2, 1) := by decide +kernel
theorem dX7_takeFrom_46 : decode cX7_takeFrom 46 = .ok (.iaload, 1) := by decide +kernel
theorem dX7_takeFrom_47 : decode cX7_takeFrom 47 = .ok (.iastore, 1) := by decide +kernel
theorem dX7_takeFrom_48 : decode cX7_takeFrom 48 = .ok (.iinc 2 1, 3) := by decide +kernel
theorem dX7_takeFrom_51 : decode cX7_takeFrom 51 = .ok (.goto (-41), 3) := by decide +kernel
theorem dX7_takeFrom_54 : decode cX7_takeFrom 54 = .ok (.return_, 1) := by decide +kernel
set_option maxRecDepth 100000 in
set_option maxHeartbeats 4000000 in
theorem s_rowTake (l : Launch) (g : zG) (h : Hp) (r n k : Nat) (f : Nat → Int32) (r2 k2 : Nat) (f2 : Nat → Int32) (hn : n < 2 ^ 31) (hk2 : k2 ≤ n) (hdis : r2 + 2 ≤ r ∨ r + 2 ≤ r2) (p2 : rowI g h r2 n f2 (nI k2)) : Sp l g yX7_takeFrom cX7_takeFrom 3 none (rmz 1) [.ref r, .ref r2] (hW g h r n f (nI k)) (zV fun h' => h' = hW g h r n (fun i => if i < k2 then f2 i else f i) (nI k2)) := by
  refine Sp.of [some (.ref r), some (.ref r2), none] (by decide) (Nat.le_of_ble_eq_true rfl) rfl rfl ?_
  rintro X rfl hr rfl B
  show AW X 0 0 0 _ _ _ _
  have hd1 : ¬ (r ≤ r2 ∧ r2 < r + 2) := by omega
  have hd2 : ¬ (r ≤ r2 + 1 ∧ r2 + 1 < r + 2) := by omega
  have lp : ∀ (fu j : Nat), k2 = j + fu → AW X 0 0 10 [some (.ref r), some (.ref r2), some (.int (nI (j)))] [] (hW (zXg X) h r n (fun i => if i < j then f2 i else f i) (nI k2)) (zV fun h' => h' = hW (zXg X) h r n (fun i => if i < k2 then f2 i else f i) (nI k2)) := by
    intro fu
    induction fu with
    | zero =>
      intro j hj
      obtain rfl : k2 = j := hj
      refine aw_iload_n B 2 rfl dX7_takeFrom_10 rfl ?_
      refine aw_aload_n B 0 rfl dX7_takeFrom_11 rfl ?_
      refine aw_get B f_X7_9 dX7_takeFrom_12 hW_o rfl ?_
      refine aw_icmp_ge B 54 dX7_takeFrom_15 (fun c15 => ?_) (fun c15 => absurd (Int32.le_refl _) c15)
      refine aw_vret B rfl dX7_takeFrom_54 ?_
      exact ⟨rfl, rfl⟩
    | succ fu ih =>
      intro j hj
      refine aw_iload_n B 2 rfl dX7_takeFrom_10 rfl ?_
      refine aw_aload_n B 0 rfl dX7_takeFrom_11 rfl ?_
      refine aw_get B f_X7_9 dX7_takeFrom_12 hW_o rfl ?_
      refine aw_icmp_ge B 54 dX7_takeFrom_15 (fun c15 => absurd c15 (Int32.not_le.mpr (nI_lt (by omega) (by omega)))) (fun c15 => ?_)
      refine aw_iload_n B 2 rfl dX7_takeFrom_18 rfl ?_
      refine aw_aload_n B 0 rfl dX7_takeFrom_19 rfl ?_
      refine aw_get B f_X7_15 dX7_takeFrom_20 hW_o rfl ?_
      refine aw_alen B dX7_takeFrom_23 hW_i (Or.inl rfl) ?_
      refine aw_icmp_ge B 54 dX7_takeFrom_24 (fun c24 => absurd c24 (Int32.not_le.mpr (nI_lt (by omega) hn))) (fun c24 => ?_)
      refine aw_iload_n B 2 rfl dX7_takeFrom_27 rfl ?_
      refine aw_aload_n B 1 rfl dX7_takeFrom_28 rfl ?_
      refine aw_get B f_X7_15 dX7_takeFrom_29 ((hW_n hd1).trans p2.1) rfl ?_
      refine aw_alen B dX7_takeFrom_32 ((hW_n hd2).trans p2.2) (Or.inl rfl) ?_
      refine aw_icmp_ge B 54 dX7_takeFrom_33 (fun c33 => absurd c33 (Int32.not_le.mpr (nI_lt (by omega) hn))) (fun c33 => ?_)
      refine aw_aload_n B 0 rfl dX7_takeFrom_36 rfl ?_
      refine aw_get B f_X7_15 dX7_takeFrom_37 hW_o rfl ?_
      refine aw_iload_n B 2 rfl dX7_takeFrom_40 rfl ?_
      refine aw_aload_n B 1 rfl dX7_takeFrom_41 rfl ?_
      refine aw_get B f_X7_15 dX7_takeFrom_42 ((hW_n hd1).trans p2.1) rfl ?_
      refine aw_iload_n B 2 rfl dX7_takeFrom_45 rfl ?_
      refine aw_iald B dX7_takeFrom_46 ((hW_n hd2).trans p2.2) (vp_in_nI (by omega) hn) ?_
      rw [nI_clamp (by omega)]
      refine w_st B j rfl (by omega) hn dX7_takeFrom_47 ?_
      refine aw_iinc2 B 1 (by decide) dX7_takeFrom_48 ?_
      refine aw_goto B 10 dX7_takeFrom_51 ?_
      rw [nI_1, show upd (fun i => if i < j then f2 i else f i) j (f2 j) = (fun i => if i < j + 1 then f2 i else f i) from by
        funext i
        unfold upd
        by_cases hi : i = j
        · subst hi
          simp
        · by_cases hi2 : i < j
          · simp [hi, hi2, Nat.lt_succ_of_lt hi2]
          · simp [hi, hi2, show ¬ i < j + 1 by omega]]
      exact ih (j + 1) (by omega)
  refine aw_aload_n B 0 rfl dX7_takeFrom_0 rfl ?_
  refine aw_aload_n B 1 rfl dX7_takeFrom_1 rfl ?_
  refine aw_get B f_X7_9 dX7_takeFrom_2 ((hW_n hd1).trans p2.1) rfl ?_
  refine w_put B f_X7_9 dX7_takeFrom_5 ?_
  refine aw_iconst B 0 (by decide) dX7_takeFrom_8 ?_
  refine aw_istore2 B dX7_takeFrom_9 ?_
  have h0 := lp k2 0 (by omega)
  rw [show (fun i => if i < 0 then f2 i else f i) = f from by funext i; simp] at h0
  exact h0
