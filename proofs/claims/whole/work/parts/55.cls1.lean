/-! the class as it stands for the reference's state -/
def rwI (g : zG) (h : Hp) (r N k : Nat) (V : Nat → Int32) : Prop := k < 2 ^ 20 ∧ ∃ f, rowI g h r N f (nI k) ∧ ∀ q, q < k → q < N → f q = V q
theorem rwI.same {g : zG} {h h' : Hp} {r N k : Nat} {V : Nat → Int32} (p : rwI g h r N k V) (q : ∀ a, r ≤ a ∧ a < r + 2 → h'.2 a = h.2 a) : rwI g h' r N k V := by
  obtain ⟨p0, f, ⟨p1, p2⟩, p3⟩ := p
  exact ⟨p0, f, ⟨(q _ (by omega)).trans p1, (q _ (by omega)).trans p2⟩, p3⟩
theorem caveI.same {g : zG} {h h' : Hp} {k : Nat} {Q : pP} (p : caveI g h k Q) (q : ∀ a, k ≤ a ∧ a < k + 4 → h'.2 a = h.2 a) : caveI g h' k Q := by
  obtain ⟨tx, sf, nf, tf, pl, p1, p2⟩ := p
  exact ⟨tx, sf, nf, tf, pl, fun j hj => (q _ (by omega)).trans (p1 j hj), p2⟩
theorem caveX.same {g : zG} {h h' : Hp} {k : Nat} (p : caveX g h k) (q : ∀ a, k ≤ a ∧ a < k + 4 → h'.2 a = h.2 a) : caveX g h' k := by
  obtain ⟨tx, sf, nf, sz, tf, pl, p1⟩ := p
  exact ⟨tx, sf, nf, sz, tf, pl, fun j hj => (q _ (by omega)).trans (p1 j hj)⟩
/-- the state's readers: the array behind s, each one of a kind -/
def rdI (g : zG) (h : Hp) (y s : Nat) (S : Nat → Int32) (n1 : Nat) : Prop := ∃ ra : Nat → Option Nat, h.2 (s + 5) = some (.inl (g.2.2.1.2.2, 4, .inr (.inr (.inr (.inr ra))))) ∧ (∀ r, r < 4 → ra r = none ∨ ∃ a k num v, ra r = some a ∧ y ≤ a ∧ k ≤ 6 ∧ h.2 a = some (.inr (kc k, [.int num, .int v]))) ∧ ∀ r, r < n1 → ∃ a k v, ra r = some a ∧ y ≤ a ∧ k ≤ 6 ∧ v ≤ 9 ∧ S (22 + r) = nI k ∧ S (26 + r) = nI v ∧ h.2 a = some (.inr (kc k, [.int (nI r), .int (nI v)]))
theorem rdI.same {g : zG} {h h' : Hp} {y s n1 : Nat} {S : Nat → Int32} (p : rdI g h y s S n1) (q1 : h'.2 (s + 5) = h.2 (s + 5)) (q : ∀ a e, y ≤ a → h.2 a = some e → h'.2 a = some e) : rdI g h' y s S n1 := by
  obtain ⟨ra, p1, p2, p3⟩ := p
  refine ⟨ra, q1.trans p1, fun r hr => ?_, fun r hr => ?_⟩
  · rcases p2 r hr with h0 | ⟨a, k, num, v, b1, b2, b3, b4⟩
    · exact Or.inl h0
    · exact Or.inr ⟨a, k, num, v, b1, b2, b3, q _ _ b2 b4⟩
  · obtain ⟨a, k, v, b1, b2, b3, b4, b5, b6, b7⟩ := p3 r hr
    exact ⟨a, k, v, b1, b2, b3, b4, b5, b6, q _ _ b2 b7⟩
def askV (S : Nat → Int32) (q : Nat) : Int32 := S (30 + q) * 10000 + S (38 + q) * 100 + S (46 + q)
def taleV (S : Nat → Int32) (q : Nat) : Int32 := S (70 + q) * 10000 + S (78 + q) * 100 + S (86 + q)
def seenV (S : Nat → Int32) (q : Nat) : Int32 := 2 * S (54 + q) + S (62 + q)
/-- the state at s, its cave at ca, readers from y on -/
def stI (g : zG) (h : Hp) (y s ca : Nat) (S : Nat → Int32) (Q : pP) (n : Nat → Nat) : Prop := h.2 s = some (.inr (9, stO s ca (S 8) (S 2) (S 1))) ∧ caveI g h ca Q ∧ rdI g h y s S (n 1) ∧ rwI g h (s + 6) 100 (n 6) (fun q => S (94 + q)) ∧ rwI g h (s + 8) 6 (n 0) (fun q => S (10 + q)) ∧ rwI g h (s + 10) 6 (n 0) (fun q => S (16 + q)) ∧ rwI g h (s + 12) 8 (n 3) (askV S) ∧ rwI g h (s + 14) 8 (n 4) (seenV S) ∧ rwI g h (s + 16) 8 (n 5) (taleV S)
theorem stI.same {g : zG} {h h' : Hp} {y s ca : Nat} {S : Nat → Int32} {Q : pP} {n : Nat → Nat} (p : stI g h y s ca S Q n) (q : ∀ a, (a = s ∨ (s + 5 ≤ a ∧ a < s + 18) ∨ (ca ≤ a ∧ a < ca + 4)) → h'.2 a = h.2 a) (q2 : ∀ a e, y ≤ a → h.2 a = some e → h'.2 a = some e) : stI g h' y s ca S Q n := by
  obtain ⟨p1, p2, p3, p4, p5, p6, p7, p8, p9⟩ := p
  exact ⟨(q _ (Or.inl rfl)).trans p1, p2.same (fun a ha => q a (by omega)), p3.same (q _ (by omega)) q2, p4.same (fun a ha => q a (by omega)), p5.same (fun a ha => q a (by omega)), p6.same (fun a ha => q a (by omega)), p7.same (fun a ha => q a (by omega)), p8.same (fun a ha => q a (by omega)), p9.same (fun a ha => q a (by omega))⟩
theorem stI.cv {g : zG} {h h' : Hp} {y s ca : Nat} {S : Nat → Int32} {Q : pP} {n : Nat → Nat} (p : stI g h y s ca S Q n) (o : only ca (ca + 4) h h') (c : caveI g h' ca Q) (d : (s < ca ∧ ca + 4 ≤ s + 5) ∨ s + 18 ≤ ca) (dy : ca + 4 ≤ y) : stI g h' y s ca S Q n := by
  obtain ⟨p1, p2, p3, p4, p5, p6, p7, p8, p9⟩ := p
  exact ⟨(o.2 _ (by omega)).trans p1, c, p3.same (o.2 _ (by omega)) (fun a e h1 h2 => (o.2 _ (by omega)).trans h2), p4.same (fun a ha => o.2 a (by omega)), p5.same (fun a ha => o.2 a (by omega)), p6.same (fun a ha => o.2 a (by omega)), p7.same (fun a ha => o.2 a (by omega)), p8.same (fun a ha => o.2 a (by omega)), p9.same (fun a ha => o.2 a (by omega))⟩
/-- what holds of the reference's numbers -/
def iv (S : Nat → Int32) (T : Nat) (Q : pP) (n : Nat → Nat) : Prop := iS S (n 0) ∧ iR S (n 1) ∧ (n 2 ≤ 5 ∧ S 2 = nI (n 2) ∧ ((S 7 = -1 ∧ Q = []) ∨ ∃ c, c < n 2 ∧ S 7 = nI c ∧ pAt S c Q)) ∧ iA S (n 0) (n 1) (n 3) ∧ iE S (n 4) ∧ iL S (n 0) (n 1) (n 5) ∧ (n 6 ≤ 100 ∧ S 6 = nI (n 6)) ∧ (S 8 = nI T ∧ T ≤ 9999 ∧ wfp 0 Q)
theorem iv.t {S : Nat → Int32} {T : Nat} {Q : pP} {n : Nat → Nat} (p : iv S T Q n) : iT S T Q := by
  obtain ⟨-, -, ⟨-, -, p3⟩, -, -, -, -, p8, p9, p10⟩ := p
  refine ⟨p8, p9, ?_, p10⟩
  rcases p3 with h | ⟨c, h1, h2, h3⟩
  · exact Or.inl h
  · exact Or.inr ⟨c, h2, h3⟩
/-- orders, asked N times at most -/
def oX (g : zG) (h : Hp) (o N : Nat) : Prop := ∃ (st rd : Value) (al : Int32) (bn : Nat → Nat) (ro br so : Nat → Int32) (ask : Nat), (∀ p, okN (bn p)) ∧ oI g h o st rd al (fun p => orN (bn p)) ro br so (nI ask) ∧ ask ≤ N ∧ ∀ s t, s < 6 → t < 301 → ∃ q vv, so (301 * s + t) = nI (256 * q + vv) ∧ vv < 256 ∧ q ≤ ask
theorem oX.same {g : zG} {h h' : Hp} {o N : Nat} (p : oX g h o N) (q : ∀ a, o ≤ a ∧ a < o + 5 → h'.2 a = h.2 a) : oX g h' o N := by
  obtain ⟨st, rd, al, bn, ro, br, so, ask, p1, p2, p3, p4⟩ := p
  exact ⟨st, rd, al, bn, ro, br, so, ask, p1, fun j hj => (q _ (by omega)).trans (p2 j hj), p3, p4⟩
theorem oX.le {g : zG} {h : Hp} {o N N' : Nat} (p : oX g h o N) (q : N ≤ N') : oX g h o N' := by
  obtain ⟨st, rd, al, bn, ro, br, so, ask, p1, p2, p3, p4⟩ := p
  exact ⟨st, rd, al, bn, ro, br, so, ask, p1, p2, by omega, p4⟩
def xO (x : Nat) (im : Int32) (cs : Nat) : List Value := [.ref (x + 1), .ref (x + 19), .int im, .ref cs, .ref (x + 41), .ref (x + 43), .ref (x + 48), .ref (x + 53)]
def wX (g : zG) (h : Hp) (x : Nat) : Prop := ∃ f : Nat → Int32, h.2 (x + 53) = some (.inl (g.2.2.1.1, 8, .inl f))
def cH (g : zG) (h : Hp) (x ca cs N : Nat) (S : Nat → Int32) (T : Nat) (Q : pP) (n : Nat → Nat) (S2 : Nat → Int32) (T2 : Nat) (Q2 : pP) (n2 : Nat → Nat) (im : Int32) (Bt : Nat → Int32) (tn : Nat) : Prop :=
  ((ca = x + 2 ∧ cs = x + 37) ∨ (ca = x + 37 ∧ cs = x + 2)) ∧ h.2 x = some (.inr (11, xO x im cs)) ∧ stI g h (x + 64) (x + 1) ca S Q n ∧ stI g h (x + 64) (x + 19) (x + 20) S2 Q2 n2 ∧ caveX g h cs ∧ rwI g h (x + 41) 20 tn Bt ∧ oX g h (x + 43) N ∧ oX g h (x + 48) N ∧ wX g h x ∧ iv S T Q n ∧ iv S2 T2 Q2 n2 ∧ (im = 0 ∨ im = 1)
section ZCH
variable {g : zG} {h h' : Hp} {x ca cs N T T2 tn : Nat} {S S2 Bt : Nat → Int32} {Q Q2 : pP} {n n2 : Nat → Nat} {im : Int32}
theorem cH.ox (p : cH g h x ca cs N S T Q n S2 T2 Q2 n2 im Bt tn) : h.2 x = some (.inr (11, xO x im cs)) := p.2.1
theorem cH.s (p : cH g h x ca cs N S T Q n S2 T2 Q2 n2 im Bt tn) : h.2 (x + 1) = some (.inr (9, stO (x + 1) ca (S 8) (S 2) (S 1))) := p.2.2.1.1
theorem cH.c (p : cH g h x ca cs N S T Q n S2 T2 Q2 n2 im Bt tn) : caveI g h ca Q := p.2.2.1.2.1
theorem cH.d (p : cH g h x ca cs N S T Q n S2 T2 Q2 n2 im Bt tn) : (ca = x + 2 ∧ cs = x + 37) ∨ (ca = x + 37 ∧ cs = x + 2) := p.1
theorem cH.v (p : cH g h x ca cs N S T Q n S2 T2 Q2 n2 im Bt tn) : iv S T Q n := p.2.2.2.2.2.2.2.2.2.1
theorem cH.st (p : cH g h x ca cs N S T Q n S2 T2 Q2 n2 im Bt tn) : stI g h (x + 64) (x + 1) ca S Q n := p.2.2.1
theorem cH.tape (p : cH g h x ca cs N S T Q n S2 T2 Q2 n2 im Bt tn) : rwI g h (x + 7) 100 (n 6) (fun q => S (94 + q)) := p.2.2.1.2.2.2.1
theorem cH.shelves (p : cH g h x ca cs N S T Q n S2 T2 Q2 n2 im Bt tn) : rwI g h (x + 9) 6 (n 0) (fun q => S (10 + q)) := p.2.2.1.2.2.2.2.1
theorem cH.lines (p : cH g h x ca cs N S T Q n S2 T2 Q2 n2 im Bt tn) : rwI g h (x + 11) 6 (n 0) (fun q => S (16 + q)) := p.2.2.1.2.2.2.2.2.1
theorem cH.asks (p : cH g h x ca cs N S T Q n S2 T2 Q2 n2 im Bt tn) : rwI g h (x + 13) 8 (n 3) (askV S) := p.2.2.1.2.2.2.2.2.2.1
theorem cH.seen (p : cH g h x ca cs N S T Q n S2 T2 Q2 n2 im Bt tn) : rwI g h (x + 15) 8 (n 4) (seenV S) := p.2.2.1.2.2.2.2.2.2.2.1
theorem cH.tales (p : cH g h x ca cs N S T Q n S2 T2 Q2 n2 im Bt tn) : rwI g h (x + 17) 8 (n 5) (taleV S) := p.2.2.1.2.2.2.2.2.2.2.2
theorem cH.tr (p : cH g h x ca cs N S T Q n S2 T2 Q2 n2 im Bt tn) : rwI g h (x + 41) 20 tn Bt := p.2.2.2.2.2.1
theorem rwI.o {r M k : Nat} {V : Nat → Int32} (p : rwI g h r M k V) : h.2 r = some (.inr (7, [.ref (r + 1), .int (nI k)])) := by
  obtain ⟨-, f, ⟨p1, -⟩, -⟩ := p
  exact p1
/-- nothing that the class looks at has changed -/
theorem cH.same (p : cH g h x ca cs N S T Q n S2 T2 Q2 n2 im Bt tn) (q : ∀ a, x ≤ a ∧ a < x + 54 → h'.2 a = h.2 a) (q2 : ∀ a e, x + 64 ≤ a → h.2 a = some e → h'.2 a = some e) : cH g h' x ca cs N S T Q n S2 T2 Q2 n2 im Bt tn := by
  obtain ⟨p1, p2, p3, p4, p5, p6, p7, p8, ⟨f, p9⟩, p10, p11, p12⟩ := p
  refine ⟨p1, (q _ (by omega)).trans p2, p3.same (fun a ha => q a (by omega)) q2, p4.same (fun a ha => q a (by omega)) q2, p5.same (fun a ha => q a (by omega)), p6.same (fun a ha => q a (by omega)), p7.same (fun a ha => q a (by omega)), p8.same (fun a ha => q a (by omega)), ⟨f, (q _ (by omega)).trans p9⟩, p10, p11, p12⟩
/-- the cave has told more of its tides -/
theorem cH.cv (p : cH g h x ca cs N S T Q n S2 T2 Q2 n2 im Bt tn) (o : only ca (ca + 4) h h') (c : caveI g h' ca Q) : cH g h' x ca cs N S T Q n S2 T2 Q2 n2 im Bt tn := by
  obtain ⟨p1, p2, p3, p4, p5, p6, p7, p8, ⟨f, p9⟩, p10, p11, p12⟩ := p
  refine ⟨p1, (o.2 _ (by omega)).trans p2, p3.cv o c (by omega) (by omega), p4.same (fun a ha => o.2 a (by omega)) (fun a e h1 h2 => (o.2 _ (by omega)).trans h2), p5.same (fun a ha => o.2 a (by omega)), p6.same (fun a ha => o.2 a (by omega)), p7.same (fun a ha => o.2 a (by omega)), p8.same (fun a ha => o.2 a (by omega)), ⟨f, (o.2 _ (by omega)).trans p9⟩, p10, p11, p12⟩
theorem cH.o (p : cH g h x ca cs N S T Q n S2 T2 Q2 n2 im Bt tn) (o : only ca (ca + 4) h h') : only x (x + 54) h h' := by
  have := p.1
  exact o.wide (by omega) (by omega)
/-- what is waited was written -/
theorem cH.wt (p : cH g h x ca cs N S T Q n S2 T2 Q2 n2 im Bt tn) {f : Nat → Int32} : cH g (hp_up h (x + 53) (.inl (g.2.2.1.1, 8, .inl f))) x ca cs N S T Q n S2 T2 Q2 n2 im Bt tn := by
  obtain ⟨p1, p2, p3, p4, p5, p6, p7, p8, -, p10, p11, p12⟩ := p
  have o : only (x + 53) (x + 54) h (hp_up h (x + 53) (.inl (g.2.2.1.1, 8, .inl f))) := only.up (by omega) (by omega)
  refine ⟨p1, (o.2 _ (by omega)).trans p2, p3.same (fun a ha => o.2 a (by omega)) (fun a e h1 h2 => (o.2 _ (by omega)).trans h2), p4.same (fun a ha => o.2 a (by omega)) (fun a e h1 h2 => (o.2 _ (by omega)).trans h2), p5.same (fun a ha => o.2 a (by omega)), p6.same (fun a ha => o.2 a (by omega)), p7.same (fun a ha => o.2 a (by omega)), p8.same (fun a ha => o.2 a (by omega)), ⟨f, hu_s⟩, p10, p11, p12⟩
/-- the state that is now has changed, its cave is another one perhaps -/
theorem cH.now (p : cH g h x ca cs N S T Q n S2 T2 Q2 n2 im Bt tn) {S' : Nat → Int32} {T' : Nat} {Q' : pP} {n' : Nat → Nat} (q : ∀ a, ¬ (a = x + 1 ∨ (x + 6 ≤ a ∧ a < x + 19)) → a < x + 64 → h'.2 a = h.2 a) (q2 : ∀ a e, x + 64 ≤ a → h.2 a = some e → h'.2 a = some e) (st : stI g h' (x + 64) (x + 1) ca S' Q' n') (hv : iv S' T' Q' n') : cH g h' x ca cs N S' T' Q' n' S2 T2 Q2 n2 im Bt tn := by
  obtain ⟨p1, p2, p3, p4, p5, p6, p7, p8, ⟨f, p9⟩, p10, p11, p12⟩ := p
  refine ⟨p1, (q _ (by omega) (by omega)).trans p2, st, p4.same (fun a ha => q a (by omega) (by omega)) q2, p5.same (fun a ha => q a (by omega) (by omega)), p6.same (fun a ha => q a (by omega) (by omega)), p7.same (fun a ha => q a (by omega) (by omega)), p8.same (fun a ha => q a (by omega) (by omega)), ⟨f, (q _ (by omega) (by omega)).trans p9⟩, hv, p11, p12⟩
end ZCH
/-! calls on rows and caves, on any heap -/
theorem Sp.post {l : Launch} {g : zG} {y : MethodName} {cc : ByteArray} {maxL : Nat} {ret : Option FieldType} {rm : Room} {av : List Value} {h : Hp} {Ko Ko' : Option Value → Hp → Prop} (hS : Sp l g y cc maxL ret rm av h Ko) (k : ∀ v h', Ko v h' → Ko' v h') : Sp l g y cc maxL ret rm av h Ko' := by
  unfold Sp Met at hS ⊢
  exact MetFree.mono hS (fun _ _ h => h) (fun _ _ _ _ _ h => h) (fun _ _ _ _ _ ⟨⟨v, h', e, hk, hr⟩, L⟩ => ⟨⟨v, h', e, k _ _ hk, hr⟩, L⟩)
theorem t_full (l : Launch) (g : zG) (h : Hp) (r M k : Nat) (V : Nat → Int32) (hM : M < 2 ^ 31) (p : rwI g h r M k V) : Sp l g yX7_isFull cX7_isFull 1 (some .boolean) (rmz 1) [.ref r] h (zI fun v h' => v = (if M ≤ k then 1 else 0) ∧ h' = h) := by
  obtain ⟨p0, f, p1, p2⟩ := p
  have := s_isFull l g h r M k f hM (by omega)
  rw [hW_id p1] at this
  exact this
theorem t_get (l : Launch) (g : zG) (h : Hp) (r M k : Nat) (V : Nat → Int32) (q : Nat) (hM : M < 2 ^ 20) (h1 : q < k) (h2 : q < M) (p : rwI g h r M k V) : Sp l g yX7_get cX7_get 2 (some .int) (rmz 1) [.ref r, .int (nI q)] h (zI fun v h' => v = V q ∧ h' = h) := by
  obtain ⟨p0, f, p1, p2⟩ := p
  have := s_rowGet l g h r M k f (nI q) (by omega) (by omega)
  rw [hW_id p1, gR_q h1 h2 (by omega), p2 q h1 h2] at this
  exact this
theorem t_gett (l : Launch) (g : zG) (h : Hp) (r M k : Nat) (V : Nat → Int32) (i : Int32) (hM : M < 2 ^ 20) (p : rwI g h r M k V) : Sp l g yX7_get cX7_get 2 (some .int) (rmz 1) [.ref r, .int i] h (zI fun v h' => v = gR V M k i ∧ h' = h) := by
  obtain ⟨p0, f, p1, p2⟩ := p
  have := s_rowGet l g h r M k f i (by omega) (by omega)
  rw [hW_id p1, show gR f M k i = gR V M k i from by
    unfold gR
    split
    · rfl
    · split
      · rename_i h1 h2
        exact p2 _ h2.1 h2.2
      · rfl] at this
  exact this
theorem t_add (l : Launch) (g : zG) (h : Hp) (r M k : Nat) (V : Nat → Int32) (v : Int32) (hM : M < 2 ^ 20) (hk : k < 2 ^ 19) (p : rwI g h r M k V) : Sp l g yX7_add cX7_add 2 none (rmz 1) [.ref r, .int v] h (zV fun h' => rwI g h' r M (k + 1) (upd V k v) ∧ only r (r + 2) h h') := by
  obtain ⟨p0, f, p1, p2⟩ := p
  have h9 := s_rowAdd l g h r M k f v (by omega) (by omega)
  rw [hW_id p1] at h9
  refine h9.post (fun v' h' ⟨e1, e2⟩ => ⟨e1, ?_, ?_⟩)
  · rw [e2]
    refine ⟨by omega, _, hW_row, fun q hq hm => ?_⟩
    unfold upd
    by_cases e : q = k
    · subst e
      rw [if_pos hm]
      show (if q = q then v else _) = if q = q then v else _
      rw [if_pos rfl, if_pos rfl]
    · rw [if_neg e]
      split
      · show (if q = k then v else f q) = _
        rw [if_neg e]; exact p2 q (by omega) hm
      · exact p2 q (by omega) hm
  · rw [e2]; exact hW_only
theorem t_rep (l : Launch) (g : zG) (h : Hp) (r M k : Nat) (V : Nat → Int32) (q : Nat) (v : Int32) (hM : M < 2 ^ 20) (h1 : q < k) (h2 : q < M) (p : rwI g h r M k V) : Sp l g yX7_replace cX7_replace 3 none (rmz 1) [.ref r, .int (nI q), .int v] h (zV fun h' => rwI g h' r M k (upd V q v) ∧ only r (r + 2) h h') := by
  obtain ⟨p0, f, p1, p2⟩ := p
  have h9 := s_rowRep l g h r M k f q v (by omega) (by omega) h1 h2
  rw [hW_id p1] at h9
  refine h9.post (fun v' h' ⟨e1, e2⟩ => ⟨e1, ?_, ?_⟩)
  · rw [e2]
    refine ⟨p0, _, hW_row, fun i hi hm => ?_⟩
    unfold upd
    by_cases e : i = q
    · rw [if_pos e, if_pos e]
    · rw [if_neg e, if_neg e]; exact p2 i hi hm
  · rw [e2]; exact hW_only
theorem t_clr (l : Launch) (g : zG) (h : Hp) (r M k : Nat) (V W : Nat → Int32) (p : rwI g h r M k V) : Sp l g yX7_clear cX7_clear 1 none (rmz 1) [.ref r] h (zV fun h' => rwI g h' r M 0 W ∧ only r (r + 2) h h') := by
  obtain ⟨p0, f, p1, p2⟩ := p
  have h9 := s_rowClr l g h r M k f
  rw [hW_id p1] at h9
  refine h9.post (fun v' h' ⟨e1, e2⟩ => ⟨e1, ?_, ?_⟩)
  · rw [e2]
    exact ⟨by decide, _, hW_row, fun i hi => by omega⟩
  · rw [e2]; exact hW_only
theorem t_take (l : Launch) (g : zG) (h : Hp) (r M k r2 k2 : Nat) (V V2 : Nat → Int32) (hM : M < 2 ^ 20) (hk2 : k2 ≤ M) (hdis : r2 + 2 ≤ r ∨ r + 2 ≤ r2) (p : rwI g h r M k V) (p2 : rwI g h r2 M k2 V2) : Sp l g yX7_takeFrom cX7_takeFrom 3 none (rmz 1) [.ref r, .ref r2] h (zV fun h' => rwI g h' r M k2 V2 ∧ only r (r + 2) h h') := by
  obtain ⟨p0, f, p1, -⟩ := p
  obtain ⟨q0, f2, q1, q2⟩ := p2
  have h9 := s_rowTake l g h r M k f r2 k2 f2 (by omega) hk2 hdis q1
  rw [hW_id p1] at h9
  refine h9.post (fun v' h' ⟨e1, e2⟩ => ⟨e1, ?_, ?_⟩)
  · rw [e2]
    exact ⟨q0, _, hW_row, fun i hi hm => by
      show (if i < k2 then f2 i else f i) = _
      rw [if_pos hi]; exact q2 i hi hm⟩
  · rw [e2]; exact hW_only
