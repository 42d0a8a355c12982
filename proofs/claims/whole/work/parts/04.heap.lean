section ZHEAP
variable {X : zX} {cc : ByteArray} {nL : Nat} {own nm : String} {ret : Option FieldType} {rc rs pc : Nat} {lv : List (Option Value)} {st : List Value} {h : Hp} {Ko : Option Value → Hp → Prop}
theorem zR.up {g : zG} {H H1 : Heap} {a : Nat} {e e0 : va_E} (r : zR g h H) (h0 : h.2 a = some e0) (hz : H1.size = H.size) (oq : ∀ q, q ≠ a → H1[q]? = H[q]?) (he : va_at g.1 vwCl (a, e) H1) : zR g (hp_up h a e) H1 := by
  obtain ⟨r1, r2, r3, r4⟩ := r
  refine ⟨hz.trans r1, r2, fun q hq => ?_, fun b e' hb => ?_⟩
  · have := (r4 a e0 h0).1
    rw [oq q (by omega)]
    exact r3 q hq
  · unfold hp_up at hb
    by_cases hba : b = a
    · simp only [hba, if_true, Option.some.injEq] at hb
      rw [hba, ← hb]
      exact ⟨(r4 a e0 h0).1, he⟩
    · simp only [if_neg hba] at hb
      exact ⟨(r4 b e' hb).1, (r4 b e' hb).2.kept (oq b hba)⟩
theorem zR.new {g : zG} {H H1 : Heap} {e : va_E} (r : zR g h H) (hz : H1.size = H.size + 1) (oq : ∀ q, q < H.size → H1[q]? = H[q]?) (he : va_at g.1 vwCl (h.1, e) H1) : zR g (hp_new h e) H1 := by
  obtain ⟨r1, r2, r3, r4⟩ := r
  refine ⟨by rw [hz, r1]; rfl, Nat.le_succ_of_le r2, fun q hq => ?_, fun b e' hb => ?_⟩
  · rw [oq q (by omega)]
    exact r3 q hq
  · unfold hp_new at hb
    by_cases hba : b = h.1
    · simp only [hba, if_true, Option.some.injEq] at hb
      rw [hba, ← hb]
      exact ⟨r2, he⟩
    · simp only [if_neg hba] at hb
      obtain ⟨q1, q2⟩ := r4 b e' hb
      exact ⟨q1, q2.kept (oq b q2.lt)⟩
theorem zP1 {g : zG} {H : Heap} {a : Nat} {e : va_E} (r : zR g h H) (h0 : h.2 a = some e) : va_P g.1 vwCl [(a, e)] H := by
  intro j q hq
  have hj : j < 1 := (List.getElem?_eq_some_iff.mp hq).1
  rw [show j = 0 by omega] at hq
  cases hq
  exact (r.2.2.2 a e h0).2
/-- a row of the pool that names a field: place k of class ci -/
def zFL (own : String) (idx ci k : Nat) (fin dec : Bool) (ty : FieldType) : Prop :=
  ∃ (C ref : String) (T : u_T) (N : Nat) (ty0 : Nat → FieldType), vwCl[ci]? = some (C, T, N) ∧ k < N ∧ (∀ w ∈ u_ws C T N, w ∈ zT) ∧ (∀ k, k < N → parseFieldDescriptor (T k).2.2.1 = some (ty0 k)) ∧ (∀ a, a < N → ∀ b, b < N → a ≠ b → (T a).2.1 ≠ (T b).2.1) ∧ ty0 k = ty ∧ (T k).2.2.2 = fin ∧ (dec = true → (T k).1 = own) ∧ (Cond.fieldLink own idx ref (T k).2.1 (T k).2.2.1 ∈ zT ∨ ∃ host, (own, idx, ref, (T k).2.1, (T k).2.2.1, host) ∈ zNF) ∧ (ref = (T k).1 ∨ Cond.sameField ref (T k).1 (T k).2.1 (T k).2.2.1 ∈ zT)
theorem aw_get (B : zB X cc nL own nm ret) {idx ci k a : Nat} {fin dec : Bool} {ty : FieldType} {fs : List Value} {v : Value} (F : zFL own idx ci k fin dec ty) (hd : decode cc pc = .ok (.getfield idx, 3)) (hh : h.2 a = some (.inr (ci, fs))) (hv : fs[k]? = some v) (kk : AW X rc rs (pc + 3) lv (v :: st) h Ko) : AW X rc rs pc lv (.ref a :: st) h Ko := by
  intro H locs ls cells slots a1 a2 a3 a4 a5
  obtain ⟨C, ref, T, N, ty0, hc, hk, hin, hty, hnm, -, -, -, hl, hs⟩ := F
  have hP := zP1 a1 hh
  have hsame : ∀ x, X.2.1.1.fieldFound? (T k).1 (T k).2.1 (T k).2.2.1 = some x → X.2.1.1.fieldFound? ref (T k).2.1 (T k).2.2.1 = some x := by
    rcases hs with rfl | hs
    · exact fun _ z => z
    · exact fun x hx => u_same (B.2.2.2.2.1 _ hs) x hx
  rcases hl with hl | ⟨host, hl⟩
  · exact va_get B.1 B.2.1 B.2.2.2.2.1 hin B.2.2.2.1 B.2.2.2.2.2.1.1 hP 0 rfl hc k hk (B.2.2.2.2.1 _ hl) hsame hv hd (kk H locs ls cells slots a1 a2 a3 a4 a5)
  · exact va_getN B.1 B.2.1 B.2.2.2.2.1 hin B.2.2.2.1 B.2.2.2.2.2.1.1 hP 0 rfl hc k hk (va_Nw.use rfl (B.2.2.2.2.2.1.2.1.1 _ hl)) hsame hv hd (kk H locs ls cells slots a1 a2 a3 a4 a5)
theorem aw_put (B : zB X cc nL own nm ret) {idx ci k a : Nat} {dec : Bool} {ty : FieldType} {fs : List Value} {v : Value} (F : zFL own idx ci k false dec ty) (hd : decode cc pc = .ok (.putfield idx, 3)) (hh : h.2 a = some (.inr (ci, fs))) (hn : narrow ty v = v) (hfit : fits ty v = true) (hl0 : k < fs.length) (kk : AW X rc rs (pc + 3) lv st (hp_up h a (.inr (ci, fs.set k v))) Ko) : AW X rc rs pc lv (v :: .ref a :: st) h Ko := by
  intro H locs ls cells slots a1 a2 a3 a4 a5
  obtain ⟨C, ref, T, N, ty0, hc, hk, hin, hty, hnm, hty1, hfin, -, hl, hs⟩ := F
  have hts := B.2.2.2.2.1
  have hK := B.2.2.2.2.2.1.1
  have hsame : ∀ x, X.2.1.1.fieldFound? (T k).1 (T k).2.1 (T k).2.2.1 = some x → X.2.1.1.fieldFound? ref (T k).2.1 (T k).2.2.1 = some x := by
    rcases hs with rfl | hs
    · exact fun _ z => z
    · exact fun x hx => u_same (hts _ hs) x hx
  have hap := va_apart (own := own) hts hin ty0 hty hnm hK hc
  obtain ⟨r, h1, cell, q1, q2, q3, q4⟩ := (a1.2.2.2 a _ hh).2
  have hr : r = (C, T, N) := Option.some.inj (h1.symm.trans hc)
  subst hr
  obtain ⟨hS, hfc, kC, hkC, hkind⟩ := hK.1 ci _ hc
  obtain ⟨cf, kf, fi, f, hi, hsl⟩ := hS k hk
  have hlay := hts _ (hin _ (u_in_lay hk))
  unfold u_lay at hlay
  rw [if_neg (by rw [hfin]; decide)] at hlay
  have hst := (u_facts hfc hkC (u_lays hts hin hk) hi).1
  have h6 := u_store hfc hkC hkind hlay hi (by rw [hty k hk, hty1]) hn hfit
  have fin : ∀ H' : Heap, H'[a]? = some (cell.setSlot f.slot v) → H'.size = H.size → (∀ q, q ≠ a → H'[q]? = H[q]?) → zR (zXg X) (hp_up h a (.inr (ci, fs.set k v))) H' := by
    intro H' e1 e2 e3
    refine a1.up hh e2 e3 ?_
    rw [hsl] at e1
    exact ⟨_, hc, t_OB.to (V := updV (vp_V fs) k v) ⟨_, e1, q2, q3, t_set q4 hap hk v⟩ (fun j _ => vp_updV_set hl0 v j)⟩
  have hlocs : ∀ q ∈ locs ++ [⟨a, f.slot⟩], zb (zXg X) ≤ q.base := fun q hq => by
    rcases List.mem_append.mp hq with hq | hq
    · exact a2 q hq
    · rw [List.mem_singleton.mp hq]; exact (a1.2.2.2 a _ hh).1
  rcases hl with hl | ⟨host, hl⟩
  · refine W.putK B.1 B.2.1 (f := f) ⟨B.2.2.2.1, hts _ hl, ⟨_, _, _, hsame _ hi⟩, hst⟩ (by rw [q2]; exact h6) q1 q3 (by rw [hsl]; exact k2_hasslot (q4 k hk)) rfl rfl hd fun H' e1 e2 e3 => ?_
    exact kk H' _ ls cells slots (fin H' e1 e2 e3) hlocs a3 a4 a5
  · refine va_WputK B.1 B.2.1 (f := f) B.2.2.2.1 (va_Nw.use rfl (B.2.2.2.2.2.1.2.1.1 _ hl)) (hsame _ hi) hst (by rw [q2]; exact h6) q1 q3 (by rw [hsl]; exact k2_hasslot (q4 k hk)) rfl rfl hd fun H' e1 e2 e3 => ?_
    exact kk H' _ ls cells slots (fin H' e1 e2 e3) hlocs a3 a4 a5
theorem aw_putF (B : zB X cc nL own nm ret) {idx ci k a : Nat} {ty : FieldType} {fs : List Value} {v : Value} (hnm : nm = "<init>") (F : zFL own idx ci k true true ty) (hlk : ∀ q ∈ zNF, ¬ (q.1 = own ∧ q.2.1 = idx)) (hd : decode cc pc = .ok (.putfield idx, 3)) (hh : h.2 a = some (.inr (ci, fs))) (hn : narrow ty v = v) (hfit : fits ty v = true) (hl0 : k < fs.length) (kk : AW X rc rs (pc + 3) lv st (hp_up h a (.inr (ci, fs.set k v))) Ko) : AW X rc rs pc lv (v :: .ref a :: st) h Ko := by
  intro H locs ls cells slots a1 a2 a3 a4 a5
  obtain ⟨C, ref, T, N, ty0, hc, hk, hin, hty, hnmT, hty1, hfin, hdec, hl, hs⟩ := F
  have hts := B.2.2.2.2.1
  have hK := B.2.2.2.2.2.1.1
  have hsame : ∀ x, X.2.1.1.fieldFound? (T k).1 (T k).2.1 (T k).2.2.1 = some x → X.2.1.1.fieldFound? ref (T k).2.1 (T k).2.2.1 = some x := by
    rcases hs with rfl | hs
    · exact fun _ z => z
    · exact fun x hx => u_same (hts _ hs) x hx
  have hap := va_apart (own := own) hts hin ty0 hty hnmT hK hc
  obtain ⟨r, h1, cell, q1, q2, q3, q4⟩ := (a1.2.2.2 a _ hh).2
  have hr : r = (C, T, N) := Option.some.inj (h1.symm.trans hc)
  subst hr
  obtain ⟨hS, hfc, kC, hkC, hkind⟩ := hK.1 ci _ hc
  obtain ⟨cf, kf, fi, f, hi, hsl⟩ := hS k hk
  have hlay := hts _ (hin _ (u_in_lay hk))
  unfold u_lay at hlay
  rw [if_pos hfin] at hlay
  have hst := (u_facts hfc hkC (u_lays hts hin hk) hi).1
  have hcf : X.2.1.2.1.cls = cf := by
    obtain ⟨_, _, c', _, _, _, -, -, hf', -, -, -, hown2, -⟩ := Cond.laysFinal_spec hlay
    have e1 : c' = cf := by have := hi.symm.trans hf'; simp at this; exact this.1.symm
    rw [hdec rfl] at hown2
    rw [← e1]; exact Option.some.inj (B.2.2.2.1.symm.trans hown2)
  have h6 := u_fits hfc hkC hkind (Or.inr hlay) hi (by rw [hty k hk, hty1]) hn hfit
  have fin : ∀ H' : Heap, H'[a]? = some (cell.setSlot f.slot v) → H'.size = H.size → (∀ q, q ≠ a → H'[q]? = H[q]?) → zR (zXg X) (hp_up h a (.inr (ci, fs.set k v))) H' := by
    intro H' e1 e2 e3
    refine a1.up hh e2 e3 ?_
    rw [hsl] at e1
    exact ⟨_, hc, t_OB.to (V := updV (vp_V fs) k v) ⟨_, e1, q2, q3, t_set q4 hap hk v⟩ (fun j _ => vp_updV_set hl0 v j)⟩
  have hlocs : ∀ q ∈ locs ++ [⟨a, f.slot⟩], zb (zXg X) ≤ q.base := fun q hq => by
    rcases List.mem_append.mp hq with hq | hq
    · exact a2 q hq
    · rw [List.mem_singleton.mp hq]; exact (a1.2.2.2 a _ hh).1
  rcases hl with hl | ⟨host, hl⟩
  · refine W.putFinK B.1 B.2.1 B.2.2.2.1 (hts _ hl) (hsame _ hi) hst hcf (B.2.2.2.2.2.2.2.2.trans hnm) (by rw [q2]; exact h6) q1 q3 (by rw [hsl]; exact k2_hasslot (q4 k hk)) rfl rfl hd fun H' e1 e2 e3 => ?_
    exact kk H' _ ls cells slots (fin H' e1 e2 e3) hlocs a3 a4 a5
  · exact absurd ⟨rfl, rfl⟩ (hlk _ hl)
theorem aw_iald (B : zB X cc nL own nm ret) {a n : Nat} {f : Nat → Int32} {i : Int32} (hd : decode cc pc = .ok (.iaload, 1)) (hh : h.2 a = some (.inl ((zXg X).2.2.1.1, n, .inl f))) (hin : vp_in i n) (kk : AW X rc rs (pc + 1) lv (.int (f i.toNatClampNeg) :: st) h Ko) : AW X rc rs pc lv (.int i :: .ref a :: st) h Ko := fun H locs ls cells slots a1 a2 a3 a4 a5 =>
  va_iald B.1 B.2.1 B.2.2.2.2.2.1.1 (zP1 a1 hh) 0 0 rfl rfl hin hd (kk H locs ls cells slots a1 a2 a3 a4 a5)
theorem aw_zald (B : zB X cc nL own nm ret) {a n : Nat} {f : Nat → Int32} {i : Int32} (hd : decode cc pc = .ok (.baload, 1)) (hh : h.2 a = some (.inl ((zXg X).2.2.1.2.1, n, .inl f))) (hin : vp_in i n) (kk : AW X rc rs (pc + 1) lv (.int (f i.toNatClampNeg) :: st) h Ko) : AW X rc rs pc lv (.int i :: .ref a :: st) h Ko := fun H locs ls cells slots a1 a2 a3 a4 a5 =>
  va_zald B.1 B.2.1 B.2.2.2.2.2.1.1 (zP1 a1 hh) 0 1 rfl rfl hin hd (kk H locs ls cells slots a1 a2 a3 a4 a5)
theorem aw_aald (B : zB X cc nL own nm ret) {a n : Nat} {f : Nat → Option Nat} {i : Int32} (hd : decode cc pc = .ok (.aaload, 1)) (hh : h.2 a = some (.inl ((zXg X).2.2.1.2.2, n, .inr (.inr (.inr (.inr f)))))) (hin : vp_in i n) (kk : AW X rc rs (pc + 1) lv (va_rf (f i.toNatClampNeg) :: st) h Ko) : AW X rc rs pc lv (.int i :: .ref a :: st) h Ko := fun H locs ls cells slots a1 a2 a3 a4 a5 =>
  va_aldq B.1 B.2.1 B.2.2.2.2.2.1.1 (zP1 a1 hh) 0 2 rfl rfl hin hd (kk H locs ls cells slots a1 a2 a3 a4 a5)
theorem aw_alen (B : zB X cc nL own nm ret) {a : Nat} {x : vp_A} {cA : ClassId} (hd : decode cc pc = .ok (.arraylength, 1)) (hh : h.2 a = some (.inl (cA, x))) (hc : cA = (zXg X).2.2.1.1 ∨ cA = (zXg X).2.2.1.2.1 ∨ cA = (zXg X).2.2.1.2.2) (kk : AW X rc rs (pc + 1) lv (.int (nI x.1) :: st) h Ko) : AW X rc rs pc lv (.ref a :: st) h Ko := by
  intro H locs ls cells slots a1 a2 a3 a4 a5
  rcases hc with rfl | rfl | rfl
  · exact va_alen B.1 B.2.1 B.2.2.2.2.2.1.1 (zP1 a1 hh) 0 0 rfl rfl rfl hd (kk H locs ls cells slots a1 a2 a3 a4 a5)
  · exact va_alen B.1 B.2.1 B.2.2.2.2.2.1.1 (zP1 a1 hh) 0 1 rfl rfl rfl hd (kk H locs ls cells slots a1 a2 a3 a4 a5)
  · exact va_alen B.1 B.2.1 B.2.2.2.2.2.1.1 (zP1 a1 hh) 0 2 rfl rfl rfl hd (kk H locs ls cells slots a1 a2 a3 a4 a5)
theorem zlocs {g : zG} {H : Heap} {a j : Nat} {e : va_E} {locs : List Loc} (a1 : zR g h H) (hh : h.2 a = some e) (a2 : ∀ q ∈ locs, zb g ≤ q.base) : ∀ q ∈ locs ++ [⟨a, j⟩], zb g ≤ q.base := fun q hq => by
  rcases List.mem_append.mp hq with hq | hq
  · exact a2 q hq
  · rw [List.mem_singleton.mp hq]; exact (a1.2.2.2 a _ hh).1
theorem aw_iast (B : zB X cc nL own nm ret) {a n : Nat} {f : Nat → Int32} {i x : Int32} (hd : decode cc pc = .ok (.iastore, 1)) (hh : h.2 a = some (.inl ((zXg X).2.2.1.1, n, .inl f))) (hin : vp_in i n) (kk : AW X rc rs (pc + 1) lv st (hp_up h a (.inl ((zXg X).2.2.1.1, n, .inl (upd f i.toNatClampNeg x)))) Ko) : AW X rc rs pc lv (.int x :: .int i :: .ref a :: st) h Ko := by
  intro H locs ls cells slots a1 a2 a3 a4 a5
  refine W.iast B.1 B.2.1 (a1.2.2.2 a _ hh).2 ((B.2.2.2.2.2.1.1.2 0 _ rfl).1 n (fun j => .int (f j))) (fun q => by cases q) (by show ¬ (i < 0 ∨ (arrV _ _ _).slots.size ≤ _); rw [arrV_size]; exact hin) rfl rfl hd fun H1 e z oq => ?_
  refine kk H1 _ ls cells slots (a1.up hh z oq ?_) (zlocs a1 hh a2) a3 a4 a5
  show H1[a]? = some (vp_cell _ _)
  rw [e]
  rw [vp_cell_i, vp_cell_i, arrV_store]
  congr 2
  funext q
  by_cases hq : q = i.toNatClampNeg
  · subst hq
    simp [updV, upd]
  · simp [updV, upd, hq]
theorem aw_zast (B : zB X cc nL own nm ret) {a n : Nat} {f : Nat → Int32} {i x : Int32} (hd : decode cc pc = .ok (.bastore, 1)) (hh : h.2 a = some (.inl ((zXg X).2.2.1.2.1, n, .inl f))) (hin : vp_in i n) (kk : AW X rc rs (pc + 1) lv st (hp_up h a (.inl ((zXg X).2.2.1.2.1, n, .inl (upd f i.toNatClampNeg (vp_nar .boolean x))))) Ko) : AW X rc rs pc lv (.int x :: .int i :: .ref a :: st) h Ko := by
  intro H locs ls cells slots a1 a2 a3 a4 a5
  refine W.zast B.1 B.2.1 (a1.2.2.2 a _ hh).2 ((B.2.2.2.2.2.1.1.2 1 _ rfl).1 n (fun j => .int (f j))) (fun q => by cases q) (by show ¬ (i < 0 ∨ (arrV _ _ _).slots.size ≤ _); rw [arrV_size]; exact hin) rfl rfl hd fun H1 e z oq => ?_
  refine kk H1 _ ls cells slots (a1.up hh z oq ?_) (zlocs a1 hh a2) a3 a4 a5
  show H1[a]? = some (vp_cell _ _)
  rw [e]
  rw [vp_cell_i, vp_cell_i, arrV_store]
  congr 2
  funext q
  by_cases hq : q = i.toNatClampNeg
  · subst hq
    simp [updV, upd, vp_nar]
    try rfl
  · simp [updV, upd, hq]
theorem aw_aast (B : zB X cc nL own nm ret) {a n v ci : Nat} {vs : List Value} {r : vw_C} {f : Nat → Option Nat} {i : Int32} (hd : decode cc pc = .ok (.aastore, 1)) (hh : h.2 a = some (.inl ((zXg X).2.2.1.2.2, n, .inr (.inr (.inr (.inr f)))))) (hin : vp_in i n) (hv : h.2 v = some (.inr (ci, vs))) (hc : vwCl[ci]? = some r) (hcast : ∃ cC comp : ClassId, X.2.1.1.vm.findClass r.1 = some cC ∧ X.2.1.1.vm.findClass "LowWater$Reader" = some comp ∧ X.2.1.1.vm.assignable cC comp = true) (kk : AW X rc rs (pc + 1) lv st (hp_up h a (.inl ((zXg X).2.2.1.2.2, n, .inr (.inr (.inr (.inr (va_up f i.toNatClampNeg (some v)))))))) Ko) : AW X rc rs pc lv (.ref v :: .int i :: .ref a :: st) h Ko := by
  intro H locs ls cells slots a1 a2 a3 a4 a5
  have hlt : i.toNatClampNeg < n := Nat.not_le.mp fun q => hin (Or.inr q)
  have h0 : ¬ i < 0 := fun q => hin (Or.inl q)
  have hK := B.2.2.2.2.2.1.1
  obtain ⟨r', hr', cellV, g1, g2, g3, -⟩ := (a1.2.2.2 v _ hv).2
  have hcls := (hK.1 ci r hc).2
  obtain ⟨kA, comp, k1, k2, k3, -⟩ := (hK.2 2 _ rfl).2
  obtain ⟨cC, comp', f1, f2, f3⟩ := hcast
  have hcomp : comp' = comp := Option.some.inj (f2.symm.trans k3)
  subst hcomp
  have hcc : cC = (zXg X).1.1 ci := Option.some.inj (f1.symm.trans hcls.1)
  subst hcc
  obtain ⟨kC, hkC, -⟩ := hcls.2
  obtain ⟨kR, hkR, -⟩ := (hK.1 6 (RX6, TX6, 2) rfl).2.2
  have hR6 : (zXg X).1.1 6 = comp' := Option.some.inj ((hK.1 6 (RX6, TX6, 2) rfl).2.1.symm.trans k3)
  rw [hR6] at hkR
  refine W.aast B.1 B.2.1 (a1.2.2.2 a _ hh).2 (fun q h => by cases h) (fun h => by cases h) k1 k2 rfl hkR ⟨h0, by show _ < (arrV _ _ _).slots.size; rw [arrV_size]; exact hlt⟩ g1 (fun q h => by rw [g3] at h; cases h) (by rw [g2]; exact hkC) (by rw [g2]; exact f3) rfl rfl hd fun H1 e z oq => ?_
  refine kk H1 _ ls cells slots (a1.up hh z oq ?_) (zlocs a1 hh a2) a3 a4 a5
  show H1[a]? = some (vp_cell _ _)
  rw [e]
  rw [vp_cell_q, vp_cell_q, arrV_store]
  congr 2
  funext q
  by_cases hq : q = i.toNatClampNeg
  · subst hq
    simp [updV, va_up, va_rf]
  · simp [updV, va_up, hq]
theorem aw_newi (B : zB X cc nL own nm ret) (N : Nat) {n : Int32} (rc' rs' : Nat) (hd : decode cc pc = .ok (.newarray .int, 2)) (harr : Cond.arrayClass .int ∈ zT) (hn : ¬ n < 0) (hN : n.toNatClampNeg = N) (hb : N * 4 ≤ 536870912) (hc : rc' + 1 ≤ rc) (hs : rs' + N ≤ rs) (kk : AW X rc' rs' (pc + 2) lv (.ref h.1 :: st) (hp_new h (.inl ((zXg X).2.2.1.1, N, .inl (fun _ => 0)))) Ko) : AW X rc rs pc lv (.int n :: st) h Ko := by
  intro H locs ls cells slots a1 a2 a3 a4 a5
  refine va_newaK (atype := .int) B.1 B.2.1 (B.2.2.2.2.1 _ harr) rfl hd rfl hn hN hb (by omega) (by omega) a1.1 fun H1 cA e1 z1 o1 hAr hNm => ?_
  have hcA : cA = (zXg X).2.2.1.1 := Option.some.inj (hNm.symm.trans (B.2.2.2.2.2.1.1.2 0 _ rfl).2)
  subst hcA
  exact kk H1 locs ls (cells + 1) (slots + N) (a1.new (by rw [z1, a1.1]) (fun q hq => o1 q (by rw [← a1.1]; exact hq)) e1) a2 a3 (by omega) (by omega)
theorem aw_newz (B : zB X cc nL own nm ret) (N : Nat) {n : Int32} (rc' rs' : Nat) (hd : decode cc pc = .ok (.newarray .boolean, 2)) (harr : Cond.arrayClass .boolean ∈ zT) (hn : ¬ n < 0) (hN : n.toNatClampNeg = N) (hb : N * 1 ≤ 536870912) (hc : rc' + 1 ≤ rc) (hs : rs' + N ≤ rs) (kk : AW X rc' rs' (pc + 2) lv (.ref h.1 :: st) (hp_new h (.inl ((zXg X).2.2.1.2.1, N, .inl (fun _ => 0)))) Ko) : AW X rc rs pc lv (.int n :: st) h Ko := by
  intro H locs ls cells slots a1 a2 a3 a4 a5
  refine va_newaK (atype := .boolean) B.1 B.2.1 (B.2.2.2.2.1 _ harr) rfl hd rfl hn hN hb (by omega) (by omega) a1.1 fun H1 cA e1 z1 o1 hAr hNm => ?_
  have hcA : cA = (zXg X).2.2.1.2.1 := Option.some.inj (hNm.symm.trans (B.2.2.2.2.2.1.1.2 1 _ rfl).2)
  subst hcA
  exact kk H1 locs ls (cells + 1) (slots + N) (a1.new (by rw [z1, a1.1]) (fun q hq => o1 q (by rw [← a1.1]; exact hq)) e1) a2 a3 (by omega) (by omega)
theorem aw_newr (B : zB X cc nL own nm ret) (N : Nat) {n : Int32} {idx : Nat} (rc' rs' : Nat) (hd : decode cc pc = .ok (.anewarray idx, 3)) (hcl : Cond.classLink own idx "LowWater$Reader" ∈ zT) (hn : ¬ n < 0) (hN : n.toNatClampNeg = N) (hb : N * 4 ≤ 536870912) (hc : rc' + 1 ≤ rc) (hs : rs' + N ≤ rs) (kk : AW X rc' rs' (pc + 3) lv (.ref h.1 :: st) (hp_new h (.inl ((zXg X).2.2.1.2.2, N, .inr (.inr (.inr (.inr (fun _ => none))))))) Ko) : AW X rc rs pc lv (.int n :: st) h Ko := by
  intro H locs ls cells slots a1 a2 a3 a4 a5
  subst hN
  refine W.anew B.1 B.2.1 B.2.2.2.1 (B.2.2.2.2.1 _ hcl) (va_AO.use B.2.2.2.2.2.1.2.2.2) rfl hd rfl hn hb (by omega) (by omega) fun cA kA comp f1 f2 f3 f4 => ?_
  obtain ⟨kA', comp', g1, g2, g3, g4⟩ := (B.2.2.2.2.2.1.1.2 2 _ rfl).2
  have hcA : cA = (zXg X).2.2.1.2.2 := Option.some.inj (f1.symm.trans g4)
  subst hcA
  rw [a1.1]
  refine kk _ locs ls (cells + 1) (slots + n.toNatClampNeg) (a1.new ?_ ?_ ?_) a2 a3 (by omega) (by omega)
  · simp
  · intro q hq
    rw [Array.getElem?_push, if_neg (Nat.ne_of_lt hq)]
  · show _ = some (vp_cell _ _)
    rw [vp_cell_q, ← a1.1, Array.getElem?_push_size, ← arrV_new]
    rfl
/-- a row of the pool that names a class of ours, for 'new' -/
def zNW (own : String) (idx ci N : Nat) (fs : List Value) : Prop :=
  ∃ (C : String) (T : u_T) (ty0 : Nat → FieldType), vwCl[ci]? = some (C, T, N) ∧ (∀ w ∈ u_ws C T N, w ∈ zT) ∧ (∀ k, k < N → parseFieldDescriptor (T k).2.2.1 = some (ty0 k)) ∧ Cond.classLink own idx C ∈ zT ∧ Cond.instantiable C N ∈ zT ∧ Cond.initialized C ∈ zT ∧ ∀ j, j < N → defaultValue (ty0 j) = vp_V fs j
theorem aw_new (B : zB X cc nL own nm ret) {idx ci N : Nat} {fs : List Value} (rc' rs' : Nat) (F : zNW own idx ci N fs) (hd : decode cc pc = .ok (.new idx, 3)) (hc : rc' + 1 ≤ rc) (hs : rs' + N ≤ rs) (kk : AW X rc' rs' (pc + 3) lv (.ref h.1 :: st) (hp_new h (.inr (ci, fs))) Ko) : AW X rc rs pc lv st h Ko := by
  intro H locs ls cells slots a1 a2 a3 a4 a5
  obtain ⟨C, T, ty0, hcl, hin, hty, w1, w2, w3, hfs⟩ := F
  have hts := B.2.2.2.2.1
  have hKn := B.2.2.2.2.2.1.1.1 ci _ hcl
  refine W.newcK B.1 B.2.1 B.2.2.2.1 (hts _ w1) (hts _ w2) (hts _ w3) rfl hd (by omega) (by omega) hKn.2.1 a1.1 fun H1 kC hkC e1 z1 o1 => ?_
  refine kk H1 locs ls (cells + 1) (slots + N) (a1.new (by rw [z1, a1.1]) (fun q hq => o1 q (by rw [← a1.1]; exact hq)) ?_) a2 a3 (by omega) (by omega)
  exact ⟨_, hcl, (u_born ty0 hts hin hKn hkC e1 hty).to hfs⟩
end ZHEAP
