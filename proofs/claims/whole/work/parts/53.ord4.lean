/-! least of some: told by its lower bounds -/
theorem fm_le {α : Type} {c : α → Prop} [DecidablePred c] {x : α → Nat} {v : Nat} : ∀ (l : List α) (m : Nat), v ≤ l.foldl (fun m s => if c s then min m (x s) else m) m ↔ v ≤ m ∧ ∀ s ∈ l, c s → v ≤ x s
  | [], m => by simp
  | b :: l, m => by
    show v ≤ l.foldl _ (if c b then min m (x b) else m) ↔ _
    rw [fm_le l]
    by_cases hc : c b
    · rw [if_pos hc]
      constructor
      · rintro ⟨h1, h2⟩
        refine ⟨by omega, fun s hs h3 => ?_⟩
        rcases List.mem_cons.mp hs with rfl | hs
        · omega
        · exact h2 s hs h3
      · rintro ⟨h1, h2⟩
        have := h2 b List.mem_cons_self hc
        exact ⟨by omega, fun s hs h3 => h2 s (List.mem_cons_of_mem _ hs) h3⟩
    · rw [if_neg hc]
      constructor
      · rintro ⟨h1, h2⟩
        refine ⟨h1, fun s hs h3 => ?_⟩
        rcases List.mem_cons.mp hs with rfl | hs
        · exact absurd h3 hc
        · exact h2 s hs h3
      · rintro ⟨h1, h2⟩
        exact ⟨h1, fun s hs h3 => h2 s (List.mem_cons_of_mem _ hs) h3⟩
theorem nat_lb {a b : Nat} (h : ∀ v, v ≤ a ↔ v ≤ b) : a = b := Nat.le_antisymm ((h a).mp (Nat.le_refl _)) ((h b).mpr (Nat.le_refl _))
theorem fm_min {α : Type} {c : α → Prop} [DecidablePred c] {x : α → Nat} (l : List α) (m m' : Nat) : l.foldl (fun m s => if c s then min m (x s) else m) (min m m') = min m (l.foldl (fun m s => if c s then min m (x s) else m) m') := by
  apply nat_lb
  intro v
  rw [fm_le, Nat.le_min, Nat.le_min, fm_le, and_assoc]
/-- the least end of all orders of what is left -/
def rF (sn : Nat → Nat → Nat) (n0 : Nat) : Nat → Nat → Nat → Nat
  | 0, left, a => if left = 0 then a else 100000
  | d + 1, left, a => if left = 0 then a else (List.range n0).foldl (fun m s => if left.testBit s = true ∧ sn s a < 100000 then min m (rF sn n0 d (clr left s) (a + sn s a)) else m) 100000
theorem rF_ge {sn : Nat → Nat → Nat} {n0 : Nat} : ∀ d left a, min a 100000 ≤ rF sn n0 d left a := by
  intro d
  induction d with
  | zero => intro left a; rw [rF]; split <;> omega
  | succ d ih =>
    intro left a
    rw [rF]
    split
    · omega
    · rw [fm_le]
      refine ⟨by omega, fun s _ _ => ?_⟩
      have := ih (clr left s) (a + sn s a)
      omega
theorem rF_le {sn : Nat → Nat → Nat} {n0 : Nat} {d left a : Nat} (ha : a ≤ 100000) : rF sn n0 d left a ≤ 100000 := by
  cases d with
  | zero => rw [rF]; split <;> omega
  | succ d =>
    rw [rF]
    split
    · exact ha
    · exact ((fm_le _ _).mp (Nat.le_refl _)).1
theorem ordF_r {S : Nat → Int32} {T : Nat} {Q : pP} {r n0 : Nat} : ∀ (d left k a : Nat) (st : oSt), st.1 ≤ 100000 → (ordF S T Q r n0 d left k a st).1 = min st.1 (rF (fun s a => soS S T Q r s a) n0 d left a) := by
  intro d
  induction d with
  | zero =>
    intro left k a st h
    rw [ordF, rF]
    by_cases h0 : left = 0
    · rw [if_pos h0, if_pos h0]
      unfold oEnd
      split
      · show a = _; omega
      · omega
    · rw [if_neg h0, if_neg h0]; omega
  | succ d ih =>
    intro left k a st h
    rw [ordF, rF]
    by_cases h0 : left = 0
    · rw [if_pos h0, if_pos h0]
      unfold oEnd
      split
      · show a = _; omega
      · omega
    · rw [if_neg h0, if_neg h0]
      have key : ∀ (l : List Nat) (st : oSt), st.1 ≤ 100000 → (l.foldl (fun st s => if left.testBit s = true then (if a + soS S T Q r s a < st.1 then ordF S T Q r n0 d (clr left s) (k + 1) (a + soS S T Q r s a) (st.1, st.2.1, upd st.2.2 k (nI s)) else (st.1, st.2.1, upd st.2.2 k (nI s))) else st) st).1 = l.foldl (fun m s => if left.testBit s = true ∧ soS S T Q r s a < 100000 then min m (rF (fun s a => soS S T Q r s a) n0 d (clr left s) (a + soS S T Q r s a)) else m) st.1 := by
        intro l
        induction l with
        | nil => intro st _; rfl
        | cons b l ihl =>
          intro st hst
          rw [List.foldl_cons, List.foldl_cons]
          have hge := rF_ge (sn := fun s a => soS S T Q r s a) (n0 := n0) d (clr left b) (a + soS S T Q r b a)
          by_cases hb : left.testBit b = true
          · rw [if_pos hb]
            by_cases hc : a + soS S T Q r b a < st.1
            · rw [if_pos hc, if_pos ⟨hb, by omega⟩]
              have e := ih (clr left b) (k + 1) (a + soS S T Q r b a) (st.1, st.2.1, upd st.2.2 k (nI b)) hst
              rw [ihl _ (by rw [e]; show min st.1 _ ≤ _; omega), e]
            · rw [if_neg hc, ihl _ hst]
              show _ = l.foldl _ _
              congr 1
              show st.1 = _
              split <;> omega
          · rw [if_neg hb, if_neg (fun z => hb z.1), ihl _ hst]
      rw [key _ _ h]
      have := fm_min (c := fun s => left.testBit s = true ∧ soS S T Q r s a < 100000) (x := fun s => rF (fun s a => soS S T Q r s a) n0 d (clr left s) (a + soS S T Q r s a)) (List.range n0) st.1 100000
      rw [← this, Nat.min_eq_left h]
theorem eoN_r {S : Nat → Int32} {T : Nat} {Q : pP} {r n0 left : Nat} : eoN S T Q n0 r left = rF (fun s a => soS S T Q r s a) n0 6 left 0 := by
  unfold eoN
  rw [ordF_r _ _ _ _ _ (Nat.le_refl _)]
  exact Nat.min_eq_right (rF_le (by omega))
/-- .. of the class: the least time at which just p is done -/
def mF (sn : Nat → Nat → Nat) (all : Nat) : Nat → Nat → Nat → Nat → Nat
  | 0, done, time, p => if done = p then time else 100000
  | d + 1, done, time, p => (List.range 6).foldl (fun m s => if (all &&& (63 ^^^ done)).testBit s = true ∧ sn s time < 100000 then min m (mF sn all d (done ||| 2 ^ s) (time + sn s time) p) else m) (if done = p then time else 100000)
theorem cUp_m {all done time p : Nat} {st : cSt} (h : st.1 p ≤ 100000) : (cUp all done time st).1 p = min (st.1 p) (if done = p then time else 100000) := by
  unfold cUp
  by_cases hc : time < st.1 done
  · rw [if_pos hc]
    show (if p = done then time else st.1 p) = _
    by_cases e : p = done
    · subst e
      rw [if_pos rfl, if_pos rfl]; omega
    · rw [if_neg e, if_neg (fun z => e z.symm)]; omega
  · rw [if_neg hc]
    by_cases e : done = p
    · subst e
      rw [if_pos rfl]; omega
    · rw [if_neg e]; omega
theorem goF_m {S : Nat → Int32} {T : Nat} {Q : pP} {r all p : Nat} : ∀ (d depth done time : Nat) (st : cSt), st.1 p ≤ 100000 → (goF S T Q r all d depth done time st).1 p = min (st.1 p) (mF (fun s a => soS S T Q r s a) all d done time p) := by
  intro d
  induction d with
  | zero => intro depth done time st h; exact cUp_m h
  | succ d ih =>
    intro depth done time st h
    rw [goF_s, mF]
    have key : ∀ (l : List Nat) (st : cSt), st.1 p ≤ 100000 → (l.foldl (goS S T Q r all d depth done time) st).1 p = l.foldl (fun m s => if (all &&& (63 ^^^ done)).testBit s = true ∧ soS S T Q r s time < 100000 then min m (mF (fun s a => soS S T Q r s a) all d (done ||| 2 ^ s) (time + soS S T Q r s time) p) else m) (st.1 p) := by
      intro l
      induction l with
      | nil => intro st _; rfl
      | cons b l ihl =>
        intro st hst
        rw [List.foldl_cons, List.foldl_cons]
        unfold goS
        by_cases hc : (all &&& (63 ^^^ done)).testBit b = true ∧ soS S T Q r b time < 100000
        · rw [if_pos hc, if_pos hc]
          have e := ih (depth + 1) (done ||| 2 ^ b) (time + soS S T Q r b time) (st.1, upd st.2.1 depth (nI b), st.2.2) hst
          have e' := ihl (goF S T Q r all d (depth + 1) (done ||| 2 ^ b) (time + soS S T Q r b time) (st.1, upd st.2.1 depth (nI b), st.2.2)) (by rw [e]; show min (st.1 p) _ ≤ _; omega)
          unfold goS at e'
          rw [e', e]
        · rw [if_neg hc, if_neg hc]
          have e' := ihl st hst
          unfold goS at e'
          exact e'
    rw [key _ _ (by rw [cUp_m h]; omega), cUp_m h]
    exact fm_min (c := fun s => (all &&& (63 ^^^ done)).testBit s = true ∧ soS S T Q r s time < 100000) _ _ _
theorem bt_c : ∀ p, p < 64 → ∀ dn, dn < 64 → ∀ s, s < 6 → p &&& (63 ^^^ (dn ||| 2 ^ s)) = clr (p &&& (63 ^^^ dn)) s := by decide +kernel
theorem bt_d : ∀ p, p < 64 → ∀ dn, dn < 64 → ∀ s, s < 6 → ((dn ||| 2 ^ s) &&& p = dn ||| 2 ^ s ↔ (dn &&& p = dn ∧ p.testBit s = true)) := by decide +kernel
theorem bt_e : ∀ p, p < 64 → ∀ dn, dn < 64 → dn &&& p = dn → (p &&& (63 ^^^ dn) = 0 ↔ dn = p) := by decide +kernel
theorem bt_t : ∀ p, p < 64 → ∀ dn, dn < 64 → ∀ s, s < 6 → (p &&& (63 ^^^ dn)).testBit s = (p.testBit s && !dn.testBit s) := by decide +kernel
theorem bt_s : ∀ p, p < 64 → ∀ all, all < 64 → p &&& all = p → ∀ s, s < 6 → p.testBit s = true → all.testBit s = true := by decide +kernel
theorem mF_r {sn : Nat → Nat → Nat} {all n0 p : Nat} (hn : n0 ≤ 6) (hall : all < 2 ^ n0) (hp : p < 64) (hpa : p &&& all = p) : ∀ (d done time : Nat), done < 64 → time ≤ 100000 → (done &&& p = done → mF sn all d done time p = rF sn n0 d (p &&& (63 ^^^ done)) time) ∧ (¬ done &&& p = done → mF sn all d done time p = 100000) := by
  have ha64 : all < 64 := Nat.lt_of_lt_of_le hall (Nat.pow_le_pow_right (n := 2) (by decide) hn)
  intro d
  induction d with
  | zero =>
    intro done time hd ht
    refine ⟨fun hs => ?_, fun hs => ?_⟩
    · rw [mF, rF]
      have := bt_e p hp done hd hs
      by_cases e : done = p
      · rw [if_pos e, if_pos (this.mpr e)]
      · rw [if_neg e, if_neg (fun z => e (this.mp z))]
    · rw [mF, if_neg (fun e => hs (by rw [e]; exact Nat.and_self p))]
  | succ d ih =>
    intro done time hd ht
    have hor : ∀ s, s < 6 → done ||| 2 ^ s < 64 := fun s hs => (bit_6 s hs done hd).2
    refine ⟨fun hs => ?_, fun hs => ?_⟩
    · rw [mF, rF]
      have hE := bt_e p hp done hd hs
      by_cases e : done = p
      · rw [if_pos e, if_pos (hE.mpr e)]
        apply nat_lb
        intro v
        rw [fm_le]
        refine ⟨fun h => h.1, fun h => ⟨h, fun s hs6 hc => ?_⟩⟩
        have h6 := List.mem_range.mp hs6
        rw [(ih (done ||| 2 ^ s) (min (time + sn s time) 100000) (hor s h6) (by omega)).2 (fun z => by
          have := ((bt_d p hp done hd s h6).mp z).2
          have h2 := bt_t all ha64 done hd s h6
          rw [hc.1, e, this] at h2
          simp at h2) |> (fun (_ : _ = _) => (mF_time sn all p d (done ||| 2 ^ s) (time + sn s time) (fun z => by
          have := ((bt_d p hp done hd s h6).mp z).2
          have h2 := bt_t all ha64 done hd s h6
          rw [hc.1, e, this] at h2
          simp at h2) hp (hor s h6)))]
        omega
      · rw [if_neg e, if_neg (fun z => e (hE.mp z))]
        sorry
    · sorry
