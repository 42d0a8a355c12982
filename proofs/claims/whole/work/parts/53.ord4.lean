/-! least of some: told by its lower bounds -/
theorem fm_le {α : Type} {c : α → Prop} [DecidablePred c] {x : α → Nat} {v : Nat} : ∀ (l : List α) (m : Nat), v ≤ l.foldl (fun m s => if c s then min m (x s) else m) m ↔ v ≤ m ∧ ∀ s ∈ l, c s → v ≤ x s
  | [], m => by simp
  | b :: l, m => by
    show v ≤ l.foldl _ (if c b then min m (x b) else m) ↔ _
    rw [fm_le l]
    by_cases hc : c b
    · rw [if_pos hc]
      constructor
      · rintro ⟨h1, h2⟩
        refine ⟨by omega, fun s hs h3 => ?_⟩
        rcases List.mem_cons.mp hs with rfl | hs
        · omega
        · exact h2 s hs h3
      · rintro ⟨h1, h2⟩
        have := h2 b List.mem_cons_self hc
        exact ⟨by omega, fun s hs h3 => h2 s (List.mem_cons_of_mem _ hs) h3⟩
    · rw [if_neg hc]
      constructor
      · rintro ⟨h1, h2⟩
        refine ⟨h1, fun s hs h3 => ?_⟩
        rcases List.mem_cons.mp hs with rfl | hs
        · exact absurd h3 hc
        · exact h2 s hs h3
      · rintro ⟨h1, h2⟩
        exact ⟨h1, fun s hs h3 => h2 s (List.mem_cons_of_mem _ hs) h3⟩
theorem nat_lb {a b : Nat} (h : ∀ v, v ≤ a ↔ v ≤ b) : a = b := Nat.le_antisymm ((h a).mp (Nat.le_refl _)) ((h b).mpr (Nat.le_refl _))
theorem fm_min {α : Type} {c : α → Prop} [DecidablePred c] {x : α → Nat} (l : List α) (m m' : Nat) : l.foldl (fun m s => if c s then min m (x s) else m) (min m m') = min m (l.foldl (fun m s => if c s then min m (x s) else m) m') := by
  apply nat_lb
  intro v
  rw [fm_le, Nat.le_min, Nat.le_min, fm_le, and_assoc]
/-- the least end of all orders of what is left -/
def rF (sn : Nat → Nat → Nat) (n0 : Nat) : Nat → Nat → Nat → Nat
  | 0, left, a => if left = 0 then a else 100000
  | d + 1, left, a => if left = 0 then a else (List.range n0).foldl (fun m s => if left.testBit s = true ∧ sn s a < 100000 then min m (rF sn n0 d (clr left s) (a + sn s a)) else m) 100000
theorem rF_ge {sn : Nat → Nat → Nat} {n0 : Nat} : ∀ d left a, min a 100000 ≤ rF sn n0 d left a := by
  intro d
  induction d with
  | zero => intro left a; rw [rF]; split <;> omega
  | succ d ih =>
    intro left a
    rw [rF]
    split
    · omega
    · rw [fm_le]
      refine ⟨by omega, fun s _ _ => ?_⟩
      have := ih (clr left s) (a + sn s a)
      omega
theorem rF_le {sn : Nat → Nat → Nat} {n0 : Nat} {d left a : Nat} (ha : a ≤ 100000) : rF sn n0 d left a ≤ 100000 := by
  cases d with
  | zero => rw [rF]; split <;> omega
  | succ d =>
    rw [rF]
    split
    · exact ha
    · exact ((fm_le _ _).mp (Nat.le_refl _)).1
theorem ordF_r {S : Nat → Int32} {T : Nat} {Q : pP} {r n0 : Nat} : ∀ (d left k a : Nat) (st : oSt), st.1 ≤ 100000 → (ordF S T Q r n0 d left k a st).1 = min st.1 (rF (fun s a => soS S T Q r s a) n0 d left a) := by
  intro d
  induction d with
  | zero =>
    intro left k a st h
    rw [ordF, rF]
    by_cases h0 : left = 0
    · rw [if_pos h0, if_pos h0]
      unfold oEnd
      split
      · show a = _; omega
      · omega
    · rw [if_neg h0, if_neg h0]; omega
  | succ d ih =>
    intro left k a st h
    rw [ordF, rF]
    by_cases h0 : left = 0
    · rw [if_pos h0, if_pos h0]
      unfold oEnd
      split
      · show a = _; omega
      · omega
    · rw [if_neg h0, if_neg h0]
      have key : ∀ (l : List Nat) (st : oSt), st.1 ≤ 100000 → (l.foldl (fun st s => if left.testBit s = true then (if a + soS S T Q r s a < st.1 then ordF S T Q r n0 d (clr left s) (k + 1) (a + soS S T Q r s a) (st.1, st.2.1, upd st.2.2 k (nI s)) else (st.1, st.2.1, upd st.2.2 k (nI s))) else st) st).1 = l.foldl (fun m s => if left.testBit s = true ∧ soS S T Q r s a < 100000 then min m (rF (fun s a => soS S T Q r s a) n0 d (clr left s) (a + soS S T Q r s a)) else m) st.1 := by
        intro l
        induction l with
        | nil => intro st _; rfl
        | cons b l ihl =>
          intro st hst
          rw [List.foldl_cons, List.foldl_cons]
          have hge := rF_ge (sn := fun s a => soS S T Q r s a) (n0 := n0) d (clr left b) (a + soS S T Q r b a)
          by_cases hb : left.testBit b = true
          · rw [if_pos hb]
            by_cases hc : a + soS S T Q r b a < st.1
            · rw [if_pos hc, if_pos ⟨hb, by omega⟩]
              have e := ih (clr left b) (k + 1) (a + soS S T Q r b a) (st.1, st.2.1, upd st.2.2 k (nI b)) hst
              rw [ihl _ (by rw [e]; show min st.1 _ ≤ _; omega), e]
            · rw [if_neg hc, ihl (st.1, st.2.1, upd st.2.2 k (nI b)) hst]
              have e0 : st.1 = (if left.testBit b = true ∧ soS S T Q r b a < 100000 then min st.1 (rF (fun s a => soS S T Q r s a) n0 d (clr left b) (a + soS S T Q r b a)) else st.1) := by split <;> omega
              rw [← e0]
          · rw [if_neg hb, if_neg (fun z => hb z.1), ihl _ hst]
      rw [key _ _ h]
      have := fm_min (c := fun s => left.testBit s = true ∧ soS S T Q r s a < 100000) (x := fun s => rF (fun s a => soS S T Q r s a) n0 d (clr left s) (a + soS S T Q r s a)) (List.range n0) st.1 100000
      rw [← this, Nat.min_eq_left h]
theorem eoN_r {S : Nat → Int32} {T : Nat} {Q : pP} {r n0 left : Nat} : eoN S T Q n0 r left = rF (fun s a => soS S T Q r s a) n0 6 left 0 := by
  unfold eoN
  rw [ordF_r _ _ _ _ _ (Nat.le_refl _)]
  exact Nat.min_eq_right (rF_le (by omega))
/-- .. of the class: the least time at which just p is done -/
def mF (sn : Nat → Nat → Nat) (all : Nat) : Nat → Nat → Nat → Nat → Nat
  | 0, done, time, p => if done = p then time else 100000
  | d + 1, done, time, p => (List.range 6).foldl (fun m s => if (all &&& (63 ^^^ done)).testBit s = true ∧ sn s time < 100000 then min m (mF sn all d (done ||| 2 ^ s) (time + sn s time) p) else m) (if done = p then time else 100000)
theorem cUp_m {all done time p : Nat} {st : cSt} (h : st.1 p ≤ 100000) : (cUp all done time st).1 p = min (st.1 p) (if done = p then time else 100000) := by
  unfold cUp
  by_cases hc : time < st.1 done
  · rw [if_pos hc]
    show (if p = done then time else st.1 p) = _
    by_cases e : p = done
    · subst e
      rw [if_pos rfl, if_pos rfl]; omega
    · rw [if_neg e, if_neg (fun z => e z.symm)]; omega
  · rw [if_neg hc]
    by_cases e : done = p
    · subst e
      rw [if_pos rfl]; omega
    · rw [if_neg e]; omega
theorem goF_m {S : Nat → Int32} {T : Nat} {Q : pP} {r all p : Nat} : ∀ (d depth done time : Nat) (st : cSt), st.1 p ≤ 100000 → (goF S T Q r all d depth done time st).1 p = min (st.1 p) (mF (fun s a => soS S T Q r s a) all d done time p) := by
  intro d
  induction d with
  | zero => intro depth done time st h; exact cUp_m h
  | succ d ih =>
    intro depth done time st h
    rw [goF_s, mF]
    have key : ∀ (l : List Nat) (st : cSt), st.1 p ≤ 100000 → (l.foldl (goS S T Q r all d depth done time) st).1 p = l.foldl (fun m s => if (all &&& (63 ^^^ done)).testBit s = true ∧ soS S T Q r s time < 100000 then min m (mF (fun s a => soS S T Q r s a) all d (done ||| 2 ^ s) (time + soS S T Q r s time) p) else m) (st.1 p) := by
      intro l
      induction l with
      | nil => intro st _; rfl
      | cons b l ihl =>
        intro st hst
        rw [List.foldl_cons, List.foldl_cons]
        unfold goS
        by_cases hc : (all &&& (63 ^^^ done)).testBit b = true ∧ soS S T Q r b time < 100000
        · rw [if_pos hc, if_pos hc]
          have e := ih (depth + 1) (done ||| 2 ^ b) (time + soS S T Q r b time) (st.1, upd st.2.1 depth (nI b), st.2.2) hst
          have e' := ihl (goF S T Q r all d (depth + 1) (done ||| 2 ^ b) (time + soS S T Q r b time) (st.1, upd st.2.1 depth (nI b), st.2.2)) (by rw [e]; show min (st.1 p) _ ≤ _; omega)
          unfold goS at e'
          rw [e', e]
        · rw [if_neg hc, if_neg hc]
          have e' := ihl st hst
          unfold goS at e'
          exact e'
    rw [key _ _ (by rw [cUp_m h]; omega), cUp_m h]
    exact fm_min (c := fun s => (all &&& (63 ^^^ done)).testBit s = true ∧ soS S T Q r s time < 100000) _ _ _
theorem bt_c : ∀ p, p < 64 → ∀ dn, dn < 64 → ∀ s, s < 6 → p &&& (63 ^^^ (dn ||| 2 ^ s)) = clr (p &&& (63 ^^^ dn)) s := by decide +kernel
theorem bt_d : ∀ p, p < 64 → ∀ dn, dn < 64 → ∀ s, s < 6 → ((dn ||| 2 ^ s) &&& p = dn ||| 2 ^ s ↔ (dn &&& p = dn ∧ p.testBit s = true)) := by decide +kernel
theorem bt_e : ∀ p, p < 64 → ∀ dn, dn < 64 → dn &&& p = dn → (p &&& (63 ^^^ dn) = 0 ↔ dn = p) := by decide +kernel
theorem bt_t : ∀ p, p < 64 → ∀ dn, dn < 64 → ∀ s, s < 6 → (p &&& (63 ^^^ dn)).testBit s = (p.testBit s && !dn.testBit s) := by decide +kernel
theorem bt_s : ∀ p, p < 64 → ∀ all, all < 64 → p &&& all = p → ∀ s, s < 6 → p.testBit s = true → all.testBit s = true := by decide +kernel
theorem sn_or {S : Nat → Int32} {T : Nat} {Q : pP} {r s t : Nat} (h : soS S T Q r s t < 100000) : soS S T Q r s t ≤ 60 := by
  have := soS_le S T Q r s t
  omega
theorem mF_n {sn : Nat → Nat → Nat} (hsn : ∀ s t, sn s t < 100000 → sn s t ≤ 60) {all p : Nat} (hp : p < 64) : ∀ (d done time : Nat), done < 64 → time + 60 * d ≤ 100000 → ¬ done &&& p = done → mF sn all d done time p = 100000 := by
  intro d
  induction d with
  | zero =>
    intro done time hd ht hs
    rw [mF, if_neg (fun e => hs (by rw [e]; exact Nat.and_self p))]
  | succ d ih =>
    intro done time hd ht hs
    rw [mF, if_neg (fun e => hs (by rw [e]; exact Nat.and_self p))]
    apply nat_lb
    intro v
    rw [fm_le]
    refine ⟨fun h => h.1, fun h => ⟨h, fun s hs6 hc => ?_⟩⟩
    have h6 := List.mem_range.mp hs6
    have h60 := hsn _ _ hc.2
    rw [ih _ _ (bit_6 s h6 done hd).2 (by omega) (fun z => hs ((bt_d p hp done hd s h6).mp z).1)]
    exact h
theorem mF_r {sn : Nat → Nat → Nat} (hsn : ∀ s t, sn s t < 100000 → sn s t ≤ 60) {all n0 p : Nat} (hn : n0 ≤ 6) (hall : all < 2 ^ n0) (hp : p < 64) (hpa : p &&& all = p) : ∀ (d done time : Nat), done < 64 → time + 60 * d ≤ 100000 → done &&& p = done → mF sn all d done time p = rF sn n0 d (p &&& (63 ^^^ done)) time := by
  have ha64 : all < 64 := Nat.lt_of_lt_of_le hall (Nat.pow_le_pow_right (n := 2) (by decide) hn)
  intro d
  induction d with
  | zero =>
    intro done time hd ht hs
    rw [mF, rF]
    have := bt_e p hp done hd hs
    by_cases e : done = p
    · rw [if_pos e, if_pos (this.mpr e)]
    · rw [if_neg e, if_neg (fun z => e (this.mp z))]
  | succ d ih =>
    intro done time hd ht hs
    rw [mF, rF]
    have hE := bt_e p hp done hd hs
    by_cases e : done = p
    · rw [if_pos e, if_pos (hE.mpr e)]
      apply nat_lb
      intro v
      rw [fm_le]
      refine ⟨fun h => h.1, fun h => ⟨h, fun s hs6 hc => ?_⟩⟩
      have h6 := List.mem_range.mp hs6
      have h60 := hsn _ _ hc.2
      rw [mF_n hsn hp _ _ _ (bit_6 s h6 done hd).2 (by omega) (fun z => by
        have h1 := ((bt_d p hp done hd s h6).mp z).2
        have h2 := bt_t all ha64 done hd s h6
        rw [hc.1, e, h1] at h2
        simp at h2)]
      omega
    · rw [if_neg e, if_neg (fun z => e (hE.mp z))]
      apply nat_lb
      intro v
      rw [fm_le, fm_le]
      refine ⟨fun h => ⟨h.1, fun s hs0 hc => ?_⟩, fun h => ⟨h.1, fun s hs6 hc => ?_⟩⟩
      · have h0 := List.mem_range.mp hs0
        have h6 : s < 6 := by omega
        have h60 := hsn _ _ hc.2
        have h1 := bt_t p hp done hd s h6
        rw [hc.1] at h1
        have h1' := h1.symm
        rw [Bool.and_eq_true] at h1'
        have hal := bt_s p hp all ha64 hpa s h6 h1'.1
        have h2 := bt_t all ha64 done hd s h6
        rw [hal, h1'.2] at h2
        have h3 := h.2 s (List.mem_range.mpr h6) ⟨h2, hc.2⟩
        rw [ih _ _ (bit_6 s h6 done hd).2 (by omega) ((bt_d p hp done hd s h6).mpr ⟨hs, h1'.1⟩), bt_c p hp done hd s h6] at h3
        exact h3
      · have h6 := List.mem_range.mp hs6
        have h60 := hsn _ _ hc.2
        by_cases hsp : p.testBit s = true
        · have h2 := bt_t all ha64 done hd s h6
          rw [hc.1] at h2
          have h2' := h2.symm
          rw [Bool.and_eq_true] at h2'
          have h1 := bt_t p hp done hd s h6
          rw [hsp, h2'.2] at h1
          rw [ih _ _ (bit_6 s h6 done hd).2 (by omega) ((bt_d p hp done hd s h6).mpr ⟨hs, hsp⟩), bt_c p hp done hd s h6]
          exact h.2 s (List.mem_range.mpr (bit_n (n0 := n0) (all := all) (x := 63 ^^^ done) hall hc.1)) ⟨h1, hc.2⟩
        · rw [mF_n hsn hp _ _ _ (bit_6 s h6 done hd).2 (by omega) (fun z => hsp ((bt_d p hp done hd s h6).mp z).2)]
          exact h.1
/-- what the class keeps of a part is what the reference finds for it -/
theorem goF_best {S : Nat → Int32} {T : Nat} {Q : pP} {r all n0 p : Nat} {st : cSt} (hn : n0 ≤ 6) (hall : all < 2 ^ n0) (hp : p < 64) (hpa : p &&& all = p) (h : st.1 p = 100000) : (goF S T Q r all 6 0 0 0 st).1 p = eoN S T Q n0 r p := by
  rw [goF_m _ _ _ _ _ (by omega), h, mF_r (fun _ _ => sn_or) hn hall hp hpa 6 0 0 (by decide) (by decide) (Nat.zero_and _), eoN_r]
  rw [show p &&& (63 ^^^ 0) = p from (show ∀ p, p < 64 → p &&& (63 ^^^ 0) = p by decide +kernel) p hp]
  exact Nat.min_eq_right (rF_le (by omega))
/-! the best row -/
theorem goF_hi {S : Nat → Int32} {T : Nat} {Q : pP} {r all : Nat} : ∀ (d depth done time : Nat) (st : cSt), st.1 all ≤ time → (goF S T Q r all d depth done time st).1 all = st.1 all ∧ (goF S T Q r all d depth done time st).2.2 = st.2.2 ∧ ∀ j, j < depth → (goF S T Q r all d depth done time st).2.1 j = st.2.1 j := by
  have cu : ∀ (done time : Nat) (st : cSt), st.1 all ≤ time → (cUp all done time st).1 all = st.1 all ∧ (cUp all done time st).2.2 = st.2.2 ∧ (cUp all done time st).2.1 = st.2.1 := by
    intro done time st h
    unfold cUp
    by_cases hc : time < st.1 done
    · rw [if_pos hc]
      have ne : ¬ done = all := fun z => by rw [z] at hc; omega
      exact ⟨if_neg (fun z => ne z.symm), if_neg ne, rfl⟩
    · rw [if_neg hc]; exact ⟨rfl, rfl, rfl⟩
  intro d
  induction d with
  | zero =>
    intro depth done time st h
    have := cu done time st h
    exact ⟨this.1, this.2.1, fun j _ => by rw [goF, this.2.2]⟩
  | succ d ih =>
    intro depth done time st h
    rw [goF_s]
    have c0 := cu done time st h
    refine fold_inv (R := fun s : cSt => s.1 all = st.1 all ∧ s.2.2 = st.2.2 ∧ ∀ j, j < depth → s.2.1 j = st.2.1 j) (fun u s hu => ?_) _ _ ⟨c0.1, c0.2.1, fun j _ => by rw [c0.2.2]⟩
    unfold goS
    split
    · obtain ⟨i1, i2, i3⟩ := ih (depth + 1) (done ||| 2 ^ s) (time + soS S T Q r s time) (u.1, upd u.2.1 depth (nI s), u.2.2) (by show u.1 all ≤ _; rw [hu.1]; omega)
      refine ⟨i1.trans hu.1, i2.trans hu.2.1, fun j hj => (i3 j (by omega)).trans ?_⟩
      show upd u.2.1 depth (nI s) j = _
      unfold upd
      rw [if_neg (by omega)]
      exact hu.2.2 j hj
    · exact hu
def relB (all k : Nat) (st : cSt) (st' : oSt) : Prop := st.1 all = st'.1 ∧ st'.1 ≤ 100000 ∧ (∀ j, j < k → st.2.1 j = st'.2.2 j) ∧ (st'.1 < 100000 → ∀ j, j < pcnt all → st.2.2 j = st'.2.1 j) ∧ (∀ j, j < 6 → (st'.1 = 100000 ∨ pcnt all ≤ j) → st'.2.1 j = -5)
theorem pc_c : ∀ left, left < 64 → ∀ s, s < 6 → left.testBit s = true → pcnt (clr left s) + 1 = pcnt left := by decide +kernel
theorem pc_6 : ∀ left, left < 64 → pcnt left ≤ 6 := by decide +kernel
theorem pc_0 : pcnt 0 = 0 := by decide +kernel
theorem fold_id {α β : Type} {f : α → β → α} : ∀ (l : List β) (a : α), (∀ b ∈ l, ∀ a, f a b = a) → l.foldl f a = a
  | [], _, _ => rfl
  | b :: l, a, h => by
    rw [List.foldl_cons, h b List.mem_cons_self]
    exact fold_id l a (fun b hb => h b (List.mem_cons_of_mem _ hb))
theorem fold_rg {α : Type} {f : α → Nat → α} {n0 : Nat} (h : ∀ s, n0 ≤ s → ∀ a, f a s = a) : ∀ (m : Nat) (a : α), (List.range (n0 + m)).foldl f a = (List.range n0).foldl f a
  | 0, _ => rfl
  | m + 1, a => by
    rw [show n0 + (m + 1) = (n0 + m) + 1 from rfl, List.range_succ, List.foldl_append, fold_rg h m a]
    exact h _ (by omega) _
theorem fold_rel {α β γ : Type} {f : α → γ → α} {f' : β → γ → β} {R : α → β → Prop} : ∀ (l : List γ) (a : α) (b : β), (∀ c ∈ l, ∀ a b, R a b → R (f a c) (f' b c)) → R a b → R (l.foldl f a) (l.foldl f' b)
  | [], _, _, _, h => h
  | c :: l, a, b, q, h => fold_rel l (f a c) (f' b c) (fun c hc => q c (List.mem_cons_of_mem _ hc)) (q c List.mem_cons_self a b h)
theorem cpy6 {f f' : Nat → Int32} {j : Nat} (hj : j < 6) : va_cpy f f' 0 0 6 j = f j := by
  unfold va_cpy
  simp [hj]
theorem ordF_if {S : Nat → Int32} {T : Nat} {Q : pP} {r n0 d left k a : Nat} {st : oSt} : ordF S T Q r n0 (d + 1) left k a st = if left = 0 then oEnd k a st else (List.range n0).foldl (ordS S T Q r n0 d left k a) st := rfl
theorem goF_row {S : Nat → Int32} {T : Nat} {Q : pP} {r all n0 : Nat} (hn : n0 ≤ 6) (hall : all < 2 ^ n0) : ∀ (d k done time : Nat) (st : cSt) (st' : oSt), done < 64 → done &&& all = done → k + pcnt (all &&& (63 ^^^ done)) = pcnt all → relB all k st st' → relB all k (goF S T Q r all d k done time st) (ordF S T Q r n0 d (all &&& (63 ^^^ done)) k time st') := by
  have ha64 : all < 64 := Nat.lt_of_lt_of_le hall (Nat.pow_le_pow_right (n := 2) (by decide) hn)
  have hend : ∀ (k time : Nat) (st : cSt) (st' : oSt), k = pcnt all → relB all k st st' → relB all k (cUp all all time st) (oEnd k time st') := by
    intro k time st st' hk hr
    obtain ⟨r1, r2, r3, r4, r5⟩ := hr
    unfold cUp oEnd
    rw [r1]
    by_cases hc : time < st'.1
    · rw [if_pos hc, if_pos hc, if_pos rfl]
      refine ⟨if_pos rfl, by show time ≤ _; omega, r3, fun _ j hj => ?_, fun j h6 hj => ?_⟩
      · have h6 : j < 6 := Nat.lt_of_lt_of_le hj (pc_6 all ha64)
        show va_cpy st.2.1 st.2.2 0 0 6 j = if j < 6 then (if j < k then st'.2.2 j else -5) else st'.2.1 j
        rw [cpy6 h6, if_pos h6, if_pos (by omega)]
        exact r3 j (by omega)
      · show (if j < 6 then (if j < k then st'.2.2 j else -5) else st'.2.1 j) = -5
        have hj' : time = 100000 ∨ pcnt all ≤ j := hj
        rw [if_pos h6, if_neg (by omega)]
    · rw [if_neg hc, if_neg hc]
      exact ⟨r1, r2, r3, r4, r5⟩
  have hno : ∀ (k done time : Nat) (st : cSt) (st' : oSt), ¬ done = all → relB all k st st' → relB all k (cUp all done time st) st' := by
    intro k done time st st' hk hr
    obtain ⟨r1, r2, r3, r4, r5⟩ := hr
    unfold cUp
    split
    · refine ⟨?_, r2, r3, ?_, r5⟩
      · show (if all = done then _ else st.1 all) = _
        rw [if_neg (fun z => hk z.symm)]; exact r1
      · first
          | exact r4
          | (rw [if_neg hk]; exact r4)
    · exact ⟨r1, r2, r3, r4, r5⟩
  intro d
  induction d with
  | zero =>
    intro k done time st st' hd hs hk hr
    rw [goF, ordF]
    have hE := bt_e all ha64 done hd hs
    by_cases e : done = all
    · rw [if_pos (hE.mpr e)]
      rw [hE.mpr e, pc_0] at hk
      rw [e]
      exact hend k time st st' hk hr
    · rw [if_neg (fun z => e (hE.mp z))]
      exact hno k done time st st' e hr
  | succ d ih =>
    intro k done time st st' hd hs hk hr
    rw [goF_s, ordF_if]
    have hE := bt_e all ha64 done hd hs
    by_cases e : done = all
    · rw [if_pos (hE.mpr e)]
      have h0 := hE.mpr e
      rw [h0, pc_0] at hk
      rw [fold_id _ _ (fun b _ a => by
        unfold goS
        rw [h0, if_neg (fun z => by simp at z)])]
      rw [e]
      exact hend k time st st' hk hr
    · rw [if_neg (fun z => e (hE.mp z))]
      have hid : ∀ s, n0 ≤ s → ∀ st : oSt, ordS S T Q r n0 d (all &&& (63 ^^^ done)) k time st s = st := by
        intro s h st
        unfold ordS
        rw [if_neg (fun z => by have := bit_n (n0 := n0) (all := all) (x := 63 ^^^ done) hall z; omega)]
      have e6 := fold_rg (f := ordS S T Q r n0 d (all &&& (63 ^^^ done)) k time) hid (6 - n0) st'
      rw [show n0 + (6 - n0) = 6 by omega] at e6
      rw [← e6]
      refine fold_rel (R := relB all k) _ _ _ (fun s hs6 u u' hu => ?_) (hno k done time st st' e hr)
      have h6 := List.mem_range.mp hs6
      unfold goS ordS
      by_cases hb : (all &&& (63 ^^^ done)).testBit s = true
      · rw [if_pos hb]
        obtain ⟨r1, r2, r3, r4, r5⟩ := hu
        have h2 := bt_t all ha64 done hd s h6
        rw [hb] at h2
        have h2' := h2.symm
        rw [Bool.and_eq_true] at h2'
        by_cases hc : time + soS S T Q r s time < u'.1
        · rw [if_pos hc, if_pos ⟨hb, by omega⟩]
          have hl : all &&& (63 ^^^ done) < 64 := Nat.lt_of_le_of_lt Nat.and_le_left ha64
          have i := ih (k + 1) (done ||| 2 ^ s) (time + soS S T Q r s time) (u.1, upd u.2.1 k (nI s), u.2.2) (u'.1, u'.2.1, upd u'.2.2 k (nI s)) (bit_6 s h6 done hd).2 ((bt_d all ha64 done hd s h6).mpr ⟨hs, h2'.1⟩) (by
            rw [bt_c all ha64 done hd s h6]
            have := pc_c _ hl s h6 hb
            omega) ⟨r1, r2, fun j hj => by
              show upd u.2.1 k (nI s) j = upd u'.2.2 k (nI s) j
              unfold upd
              by_cases ejk : j = k
              · rw [if_pos ejk, if_pos ejk]
              · rw [if_neg ejk, if_neg ejk]; exact r3 j (by omega), r4, r5⟩
          rw [bt_c all ha64 done hd s h6] at i
          exact ⟨i.1, i.2.1, fun j hj => i.2.2.1 j (by omega), i.2.2.2⟩
        · rw [if_neg hc]
          have pre : ∀ j, j < k → upd u'.2.2 k (nI s) j = u'.2.2 j := fun j hj => by unfold upd; rw [if_neg (by omega)]
          by_cases hx : (all &&& (63 ^^^ done)).testBit s = true ∧ soS S T Q r s time < 100000
          · rw [if_pos hx]
            obtain ⟨i1, i2, i3⟩ := goF_hi (S := S) (T := T) (Q := Q) (r := r) (all := all) d (k + 1) (done ||| 2 ^ s) (time + soS S T Q r s time) (u.1, upd u.2.1 k (nI s), u.2.2) (by show u.1 all ≤ _; omega)
            refine ⟨i1.trans r1, r2, fun j hj => (i3 j (by omega)).trans ?_, fun h j hj => ?_, r5⟩
            · show upd u.2.1 k (nI s) j = upd u'.2.2 k (nI s) j
              rw [pre j hj]
              unfold upd
              rw [if_neg (by omega)]
              exact r3 j hj
            · rw [i2]; exact r4 h j hj
          · rw [if_neg hx]
            exact ⟨r1, r2, fun j hj => (r3 j hj).trans (pre j hj).symm, r4, r5⟩
      · rw [if_neg hb, if_neg (fun z => hb z.1)]
        exact hu
/-- what the class answers for place k of its best row is what the reference's best row holds -/
theorem goF_kth {S : Nat → Int32} {T : Nat} {Q : pP} {r all n0 j : Nat} {st : cSt} {A7 A8 : Nat → Int32} (hn : n0 ≤ 6) (hall : all < 2 ^ n0) (h : st.1 all = 100000) (hj : j < 6) : (if j < pcnt all ∧ ¬ eoN S T Q n0 r all = 100000 then (goF S T Q r all 6 0 0 0 st).2.2 j else -5) = (eoS S T Q n0 A7 A8 r all).2.1 j := by
  have ha64 : all < 64 := Nat.lt_of_lt_of_le hall (Nat.pow_le_pow_right (n := 2) (by decide) hn)
  have e0 : all &&& (63 ^^^ 0) = all := (show ∀ p, p < 64 → p &&& (63 ^^^ 0) = p by decide +kernel) all ha64
  have i := goF_row (S := S) (T := T) (Q := Q) (r := r) hn hall 6 0 0 0 st (100000, cpy (fun _ => -5) A8 6, A7) (by decide) (Nat.zero_and _) (by rw [e0]; omega) ⟨h, Nat.le_refl _, fun j hj => by omega, fun z => absurd z (by show ¬ (100000 : Nat) < 100000; omega), fun j hj _ => by show (if j < 6 then (-5 : Int32) else A8 j) = -5; rw [if_pos hj]⟩
  rw [e0] at i
  obtain ⟨i1, i2, i3, i4, i5⟩ := i
  have eb := goF_best (S := S) (T := T) (Q := Q) (r := r) (p := all) hn hall ha64 (Nat.and_self _) h
  by_cases hc : j < pcnt all ∧ ¬ eoN S T Q n0 r all = 100000
  · rw [if_pos hc]
    exact i4 (by rw [← i1, eb]; have := i2; rw [← i1, eb] at this; omega) j hc.1
  · rw [if_neg hc]
    refine (i5 j hj ?_).symm
    rw [← i1, eb]
    omega
