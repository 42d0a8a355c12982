/-! the class's orders: five cells -/
def ocell (g : zG) (o : Nat) (st rd : Value) (al : Int32) (be ro br so : Nat → Int32) (ask : Int32) (j : Nat) : va_E := if j = 0 then .inr (4, [st, rd, .int al, .ref (o + 1), .ref (o + 2), .ref (o + 3), .ref (o + 4), .int ask]) else if j = 1 then .inl (g.2.2.1.1, 64, .inl be) else if j = 2 then .inl (g.2.2.1.1, 6, .inl ro) else if j = 3 then .inl (g.2.2.1.1, 6, .inl br) else .inl (g.2.2.1.1, 1806, .inl so)
def hO (g : zG) (h : Hp) (o : Nat) (st rd : Value) (al : Int32) (be ro br so : Nat → Int32) (ask : Int32) : Hp := (h.1, fun a => if o ≤ a ∧ a < o + 5 then some (ocell g o st rd al be ro br so ask (a - o)) else h.2 a)
def oI (g : zG) (h : Hp) (o : Nat) (st rd : Value) (al : Int32) (be ro br so : Nat → Int32) (ask : Int32) : Prop := ∀ j, j < 5 → h.2 (o + j) = some (ocell g o st rd al be ro br so ask j)
section ZORD
variable {X : zX} {cc : ByteArray} {nL : Nat} {own nm : String} {ret : Option FieldType} {rc rs pc : Nat} {lv : List (Option Value)} {stk : List Value} {h : Hp} {Ko : Option Value → Hp → Prop} {g : zG} {o : Nat} {st rd : Value} {al ask : Int32} {be ro br so : Nat → Int32}
theorem hO_j {j : Nat} (hj : j < 5) : (hO g h o st rd al be ro br so ask).2 (o + j) = some (ocell g o st rd al be ro br so ask j) := by
  unfold hO
  show (if o ≤ o + j ∧ o + j < o + 5 then _ else _) = _
  rw [if_pos ⟨by omega, by omega⟩, show o + j - o = j by omega]
theorem hO_o : (hO g h o st rd al be ro br so ask).2 o = some (.inr (4, [st, rd, .int al, .ref (o + 1), .ref (o + 2), .ref (o + 3), .ref (o + 4), .int ask])) := hO_j (j := 0) (by decide)
theorem hO_1 : (hO g h o st rd al be ro br so ask).2 (o + 1) = some (.inl (g.2.2.1.1, 64, .inl be)) := hO_j (j := 1) (by decide)
theorem hO_2 : (hO g h o st rd al be ro br so ask).2 (o + 2) = some (.inl (g.2.2.1.1, 6, .inl ro)) := hO_j (j := 2) (by decide)
theorem hO_3 : (hO g h o st rd al be ro br so ask).2 (o + 3) = some (.inl (g.2.2.1.1, 6, .inl br)) := hO_j (j := 3) (by decide)
theorem hO_4 : (hO g h o st rd al be ro br so ask).2 (o + 4) = some (.inl (g.2.2.1.1, 1806, .inl so)) := hO_j (j := 4) (by decide)
theorem hO_n {a : Nat} (h1 : ¬ (o ≤ a ∧ a < o + 5)) : (hO g h o st rd al be ro br so ask).2 a = h.2 a := by
  unfold hO
  show (if _ then _ else _) = _
  rw [if_neg h1]
theorem hO_oI : oI g (hO g h o st rd al be ro br so ask) o st rd al be ro br so ask := fun _ hj => hO_j hj
theorem hO_id (p : oI g h o st rd al be ro br so ask) : hO g h o st rd al be ro br so ask = h := by
  refine Prod.ext rfl (funext fun a => ?_)
  show (if o ≤ a ∧ a < o + 5 then _ else _) = _
  by_cases h1 : o ≤ a ∧ a < o + 5
  · rw [if_pos h1]
    have := p (a - o) (by omega)
    rw [show o + (a - o) = a by omega] at this
    exact this.symm
  · rw [if_neg h1]
theorem hO_only : only o (o + 5) h (hO g h o st rd al be ro br so ask) := ⟨rfl, fun _ ha => hO_n ha⟩
theorem oI.fr {h' : Hp} {lo hi : Nat} (p : oI g h o st rd al be ro br so ask) (q : only lo hi h h') (d : o + 5 ≤ lo ∨ hi ≤ o) : oI g h' o st rd al be ro br so ask := fun j hj => q.at (by omega) (p j hj)
theorem hO_up {st' rd' : Value} {al' ask' : Int32} {be' ro' br' so' : Nat → Int32} (j : Nat) (hj : j < 5) (e : ∀ i, i < 5 → i ≠ j → ocell g o st' rd' al' be' ro' br' so' ask' i = ocell g o st rd al be ro br so ask i) : hp_up (hO g h o st rd al be ro br so ask) (o + j) (ocell g o st' rd' al' be' ro' br' so' ask' j) = hO g h o st' rd' al' be' ro' br' so' ask' := by
  refine Prod.ext rfl (funext fun a => ?_)
  show (if a = o + j then _ else (if o ≤ a ∧ a < o + 5 then _ else _)) = (if o ≤ a ∧ a < o + 5 then _ else _)
  by_cases h1 : a = o + j
  · rw [if_pos h1, if_pos (by omega), show a - o = j by omega]
  · rw [if_neg h1]
    by_cases h2 : o ≤ a ∧ a < o + 5
    · rw [if_pos h2, if_pos h2, e (a - o) (by omega) (by omega)]
    · rw [if_neg h2, if_neg h2]
theorem o_pst (B : zB X cc nL own nm ret) {idx : Nat} {dec : Bool} {t : Nat} (Fl : zFL own idx 4 0 false dec (.object "LowWater$State")) (hd : decode cc pc = .ok (.putfield idx, 3)) (kk : AW X rc rs (pc + 3) lv stk (hO (zXg X) h o (.ref t) rd al be ro br so ask) Ko) : AW X rc rs pc lv (.ref t :: .ref o :: stk) (hO (zXg X) h o st rd al be ro br so ask) Ko :=
  aw_put B Fl hd hO_o rfl rfl (by show 0 < 8; decide) (by
    show AW X rc rs (pc + 3) lv stk (hp_up (hO (zXg X) h o st rd al be ro br so ask) (o + 0) (ocell (zXg X) o (.ref t) rd al be ro br so ask 0)) Ko
    rw [hO_up 0 (by decide) (fun i hi hn => by unfold ocell; rw [if_neg hn, if_neg hn])]; exact kk)
theorem o_prd (B : zB X cc nL own nm ret) {idx : Nat} {dec : Bool} {t : Nat} (Fl : zFL own idx 4 1 false dec (.object "LowWater$Reader")) (hd : decode cc pc = .ok (.putfield idx, 3)) (kk : AW X rc rs (pc + 3) lv stk (hO (zXg X) h o st (.ref t) al be ro br so ask) Ko) : AW X rc rs pc lv (.ref t :: .ref o :: stk) (hO (zXg X) h o st rd al be ro br so ask) Ko :=
  aw_put B Fl hd hO_o rfl rfl (by show 1 < 8; decide) (by
    show AW X rc rs (pc + 3) lv stk (hp_up (hO (zXg X) h o st rd al be ro br so ask) (o + 0) (ocell (zXg X) o st (.ref t) al be ro br so ask 0)) Ko
    rw [hO_up 0 (by decide) (fun i hi hn => by unfold ocell; rw [if_neg hn, if_neg hn])]; exact kk)
theorem o_pal (B : zB X cc nL own nm ret) {idx : Nat} {dec : Bool} {x : Int32} (Fl : zFL own idx 4 2 false dec .int) (hd : decode cc pc = .ok (.putfield idx, 3)) (kk : AW X rc rs (pc + 3) lv stk (hO (zXg X) h o st rd x be ro br so ask) Ko) : AW X rc rs pc lv (.int x :: .ref o :: stk) (hO (zXg X) h o st rd al be ro br so ask) Ko :=
  aw_put B Fl hd hO_o rfl rfl (by show 2 < 8; decide) (by
    show AW X rc rs (pc + 3) lv stk (hp_up (hO (zXg X) h o st rd al be ro br so ask) (o + 0) (ocell (zXg X) o st rd x be ro br so ask 0)) Ko
    rw [hO_up 0 (by decide) (fun i hi hn => by unfold ocell; rw [if_neg hn, if_neg hn])]; exact kk)
theorem o_pas (B : zB X cc nL own nm ret) {idx : Nat} {dec : Bool} {x : Int32} (Fl : zFL own idx 4 7 false dec .int) (hd : decode cc pc = .ok (.putfield idx, 3)) (kk : AW X rc rs (pc + 3) lv stk (hO (zXg X) h o st rd al be ro br so x) Ko) : AW X rc rs pc lv (.int x :: .ref o :: stk) (hO (zXg X) h o st rd al be ro br so ask) Ko :=
  aw_put B Fl hd hO_o rfl rfl (by show 7 < 8; decide) (by
    show AW X rc rs (pc + 3) lv stk (hp_up (hO (zXg X) h o st rd al be ro br so ask) (o + 0) (ocell (zXg X) o st rd al be ro br so x 0)) Ko
    rw [hO_up 0 (by decide) (fun i hi hn => by unfold ocell; rw [if_neg hn, if_neg hn])]; exact kk)
theorem o_u1 {f' : Nat → Int32} : hp_up (hO g h o st rd al be ro br so ask) (o + 1) (.inl (g.2.2.1.1, 64, .inl f')) = hO g h o st rd al f' ro br so ask :=
  hO_up (be' := f') 1 (by decide) (fun i hi hn => by
    rcases (show i = 0 ∨ i = 2 ∨ i = 3 ∨ i = 4 by omega) with rfl | rfl | rfl | rfl <;> rfl)
theorem o_ld1 (B : zB X cc nL own nm ret) {i : Int32} (q : Nat) (e : i = nI q) (hb : q < 64) (hd : decode cc pc = .ok (.iaload, 1)) (kk : AW X rc rs (pc + 1) lv (.int (be q) :: stk) (hO (zXg X) h o st rd al be ro br so ask) Ko) : AW X rc rs pc lv (.int i :: .ref (o + 1) :: stk) (hO (zXg X) h o st rd al be ro br so ask) Ko :=
  aw_iald B hd hO_1 (by rw [e]; exact vp_in_nI hb (by decide)) (by rw [e, nI_clamp (by omega)]; exact kk)
theorem o_st1 (B : zB X cc nL own nm ret) {i x : Int32} (q : Nat) (e : i = nI q) (hb : q < 64) (hd : decode cc pc = .ok (.iastore, 1)) (kk : AW X rc rs (pc + 1) lv stk (hO (zXg X) h o st rd al (upd be q x) ro br so ask) Ko) : AW X rc rs pc lv (.int x :: .int i :: .ref (o + 1) :: stk) (hO (zXg X) h o st rd al be ro br so ask) Ko :=
  aw_iast B hd hO_1 (by rw [e]; exact vp_in_nI hb (by decide)) (by rw [e, nI_clamp (by omega), o_u1]; exact kk)
theorem o_u2 {f' : Nat → Int32} : hp_up (hO g h o st rd al be ro br so ask) (o + 2) (.inl (g.2.2.1.1, 6, .inl f')) = hO g h o st rd al be f' br so ask :=
  hO_up (ro' := f') 2 (by decide) (fun i hi hn => by
    rcases (show i = 0 ∨ i = 1 ∨ i = 3 ∨ i = 4 by omega) with rfl | rfl | rfl | rfl <;> rfl)
theorem o_ld2 (B : zB X cc nL own nm ret) {i : Int32} (q : Nat) (e : i = nI q) (hb : q < 6) (hd : decode cc pc = .ok (.iaload, 1)) (kk : AW X rc rs (pc + 1) lv (.int (ro q) :: stk) (hO (zXg X) h o st rd al be ro br so ask) Ko) : AW X rc rs pc lv (.int i :: .ref (o + 2) :: stk) (hO (zXg X) h o st rd al be ro br so ask) Ko :=
  aw_iald B hd hO_2 (by rw [e]; exact vp_in_nI hb (by decide)) (by rw [e, nI_clamp (by omega)]; exact kk)
theorem o_st2 (B : zB X cc nL own nm ret) {i x : Int32} (q : Nat) (e : i = nI q) (hb : q < 6) (hd : decode cc pc = .ok (.iastore, 1)) (kk : AW X rc rs (pc + 1) lv stk (hO (zXg X) h o st rd al be (upd ro q x) br so ask) Ko) : AW X rc rs pc lv (.int x :: .int i :: .ref (o + 2) :: stk) (hO (zXg X) h o st rd al be ro br so ask) Ko :=
  aw_iast B hd hO_2 (by rw [e]; exact vp_in_nI hb (by decide)) (by rw [e, nI_clamp (by omega), o_u2]; exact kk)
theorem o_u3 {f' : Nat → Int32} : hp_up (hO g h o st rd al be ro br so ask) (o + 3) (.inl (g.2.2.1.1, 6, .inl f')) = hO g h o st rd al be ro f' so ask :=
  hO_up (br' := f') 3 (by decide) (fun i hi hn => by
    rcases (show i = 0 ∨ i = 1 ∨ i = 2 ∨ i = 4 by omega) with rfl | rfl | rfl | rfl <;> rfl)
theorem o_ld3 (B : zB X cc nL own nm ret) {i : Int32} (q : Nat) (e : i = nI q) (hb : q < 6) (hd : decode cc pc = .ok (.iaload, 1)) (kk : AW X rc rs (pc + 1) lv (.int (br q) :: stk) (hO (zXg X) h o st rd al be ro br so ask) Ko) : AW X rc rs pc lv (.int i :: .ref (o + 3) :: stk) (hO (zXg X) h o st rd al be ro br so ask) Ko :=
  aw_iald B hd hO_3 (by rw [e]; exact vp_in_nI hb (by decide)) (by rw [e, nI_clamp (by omega)]; exact kk)
theorem o_st3 (B : zB X cc nL own nm ret) {i x : Int32} (q : Nat) (e : i = nI q) (hb : q < 6) (hd : decode cc pc = .ok (.iastore, 1)) (kk : AW X rc rs (pc + 1) lv stk (hO (zXg X) h o st rd al be ro (upd br q x) so ask) Ko) : AW X rc rs pc lv (.int x :: .int i :: .ref (o + 3) :: stk) (hO (zXg X) h o st rd al be ro br so ask) Ko :=
  aw_iast B hd hO_3 (by rw [e]; exact vp_in_nI hb (by decide)) (by rw [e, nI_clamp (by omega), o_u3]; exact kk)
theorem o_u4 {f' : Nat → Int32} : hp_up (hO g h o st rd al be ro br so ask) (o + 4) (.inl (g.2.2.1.1, 1806, .inl f')) = hO g h o st rd al be ro br f' ask :=
  hO_up (so' := f') 4 (by decide) (fun i hi hn => by
    rcases (show i = 0 ∨ i = 1 ∨ i = 2 ∨ i = 3 by omega) with rfl | rfl | rfl | rfl <;> rfl)
theorem o_ld4 (B : zB X cc nL own nm ret) {i : Int32} (q : Nat) (e : i = nI q) (hb : q < 1806) (hd : decode cc pc = .ok (.iaload, 1)) (kk : AW X rc rs (pc + 1) lv (.int (so q) :: stk) (hO (zXg X) h o st rd al be ro br so ask) Ko) : AW X rc rs pc lv (.int i :: .ref (o + 4) :: stk) (hO (zXg X) h o st rd al be ro br so ask) Ko :=
  aw_iald B hd hO_4 (by rw [e]; exact vp_in_nI hb (by decide)) (by rw [e, nI_clamp (by omega)]; exact kk)
theorem o_st4 (B : zB X cc nL own nm ret) {i x : Int32} (q : Nat) (e : i = nI q) (hb : q < 1806) (hd : decode cc pc = .ok (.iastore, 1)) (kk : AW X rc rs (pc + 1) lv stk (hO (zXg X) h o st rd al be ro br (upd so q x) ask) Ko) : AW X rc rs pc lv (.int x :: .int i :: .ref (o + 4) :: stk) (hO (zXg X) h o st rd al be ro br so ask) Ko :=
  aw_iast B hd hO_4 (by rw [e]; exact vp_in_nI hb (by decide)) (by rw [e, nI_clamp (by omega), o_u4]; exact kk)
end ZORD
/-- a state of the class: its object -/
def stO (s ca : Nat) (hr cv rc : Int32) : List Value := [.int hr, .int cv, .int rc, .ref ca, .ref (s + 5), .ref (s + 6), .ref (s + 8), .ref (s + 10), .ref (s + 12), .ref (s + 14), .ref (s + 16)]
/-- what orders look at: state s, its cave ca, the reader a (number r, kind k, v) -/
def oE (g : zG) (h : Hp) (o s ca a k v r T n0 : Nat) (num : Int32) (S : Nat → Int32) (Q : pP) : Prop :=
  (∃ cv rc, h.2 s = some (.inr (9, stO s ca (nI T) cv rc))) ∧ (∃ fs, rowI g h (s + 8) 6 fs (nI n0) ∧ ∀ q, q < n0 → fs q = S (10 + q)) ∧ (∃ fl, rowI g h (s + 10) 6 fl (nI n0) ∧ ∀ q, q < n0 → fl q = S (16 + q)) ∧ h.2 a = some (.inr (kc k, [.int num, .int (nI v)])) ∧ caveI g h ca Q ∧ (k ≤ 6 ∧ v ≤ 9 ∧ S (22 + r) = nI k ∧ S (26 + r) = nI v) ∧ iS S n0 ∧ T ≤ 9999 ∧ ((s < ca ∧ ca + 4 ≤ s + 5) ∨ s + 18 ≤ ca) ∧ ca + 4 ≤ o ∧ s + 18 ≤ o ∧ o + 5 ≤ a
theorem oE.fr {g : zG} {h h' : Hp} {o s ca a k v r T n0 lo hi : Nat} {num : Int32} {S : Nat → Int32} {Q : pP} (p : oE g h o s ca a k v r T n0 num S Q) (q : only lo hi h h') (d : o ≤ lo ∧ hi ≤ a) : oE g h' o s ca a k v r T n0 num S Q := by
  obtain ⟨⟨cv, rc, p1⟩, ⟨fs, p2, p3⟩, ⟨fl, p4, p5⟩, p6, p7, p8, p9, p10, p11, p12, p13, p14⟩ := p
  exact ⟨⟨cv, rc, q.at (by omega) p1⟩, ⟨fs, p2.fr q (by omega), p3⟩, ⟨fl, p4.fr q (by omega), p5⟩, q.at (by omega) p6, p7.fr q (by omega), p8, p9, p10, p11, p12, p13, p14⟩
theorem oE.cv {g : zG} {h h' : Hp} {o s ca a k v r T n0 : Nat} {num : Int32} {S : Nat → Int32} {Q : pP} (p : oE g h o s ca a k v r T n0 num S Q) (q : only ca (ca + 4) h h') (c : caveI g h' ca Q) : oE g h' o s ca a k v r T n0 num S Q := by
  obtain ⟨⟨cv, rc, p1⟩, ⟨fs, p2, p3⟩, ⟨fl, p4, p5⟩, p6, p7, p8, p9, p10, p11, p12, p13, p14⟩ := p
  exact ⟨⟨cv, rc, q.at (by omega) p1⟩, ⟨fs, p2.fr q (by omega), p3⟩, ⟨fl, p4.fr q (by omega), p5⟩, q.at (by omega) p6, c, p8, p9, p10, p11, p12, p13, p14⟩
/-- soon, as orders keep it -/
def w61 (n : Nat) : Nat := if n < 100000 then n else 61
def skO (S : Nat → Int32) (T : Nat) (Q : pP) (r n0 : Nat) (so : Nat → Int32) (ask : Nat) : Prop := ∀ s t, s < 6 → t < 301 → ∃ q vv, so (301 * s + t) = nI (256 * q + vv) ∧ vv < 256 ∧ q ≤ ask ∧ (q = ask → s < n0 → vv = w61 (soS S T Q r s t))
/-- two places may have changed: the cave's and the orders' -/
def only2 (c o : Nat) (h h' : Hp) : Prop := h'.1 = h.1 ∧ ∀ a, ¬ (c ≤ a ∧ a < c + 4) → ¬ (o ≤ a ∧ a < o + 5) → h'.2 a = h.2 a
theorem only2.rf {c o : Nat} {h : Hp} : only2 c o h h := ⟨rfl, fun _ _ _ => rfl⟩
theorem only2.tr {c o : Nat} {h h1 h2 : Hp} (p : only2 c o h h1) (q : only2 c o h1 h2) : only2 c o h h2 := ⟨q.1.trans p.1, fun a x y => (q.2 a x y).trans (p.2 a x y)⟩
theorem only.l2 {c o : Nat} {h h1 : Hp} (p : only c (c + 4) h h1) : only2 c o h h1 := ⟨p.1, fun a x _ => p.2 a x⟩
theorem only.r2 {c o : Nat} {h h1 : Hp} (p : only o (o + 5) h h1) : only2 c o h h1 := ⟨p.1, fun a _ y => p.2 a y⟩
theorem b_or8 {a v : Nat} (hv : v < 256) : nI (a * 256) ||| nI v = nI (256 * a + v) := by
  apply Int32.toBitVec_inj.mp
  apply BitVec.eq_of_toNat_eq
  rw [Int32.toBitVec_or, BitVec.toNat_or]
  show a * 256 % 2 ^ 32 ||| v % 2 ^ 32 = (256 * a + v) % 2 ^ 32
  rw [show a * 256 % 2 ^ 32 = 2 ^ 8 * (a % 2 ^ 24) by omega, Nat.mod_eq_of_lt (show v < 2 ^ 32 by omega), ← Nat.two_pow_add_eq_or_of_lt (show v < 2 ^ 8 by omega)]
  omega
