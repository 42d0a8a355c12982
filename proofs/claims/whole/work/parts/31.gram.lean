/-! the grammar: s = (place, is it wrong, steps so far); tp the tape, e its end -/
abbrev pst : Type := Nat × Bool × pP
def hre (tp : Nat → Int32) (e : Nat) (s : pst) : Int32 := if s.1 < e then tp s.1 else -1
def adv (s : pst) : pst := (s.1 + 1, s.2)
def bad (s : pst) : pst := (s.1, true, s.2.2)
def mustP (tp : Nat → Int32) (e : Nat) (c : Int32) (s : pst) : pst := if s.2.1 = true then s else if hre tp e s = c then adv s else bad s
def emP (x : Nat × Nat) (s : pst) : pst := if s.2.1 = true then s else (s.1, s.2.1, s.2.2 ++ [x])
def dv (c : Int32) : Nat := kN c - 48
def figP (tp : Nat → Int32) (e : Nat) (s : pst) : Nat × pst :=
  if s.2.1 = true then (0, s) else if bI (48 ≤ hre tp e s ∧ hre tp e s ≤ 57) = 0 then (0, bad s)
  else if dv (hre tp e s) = 0 then (dv (hre tp e s), adv s) else if bI (48 ≤ hre tp e (adv s) ∧ hre tp e (adv s) ≤ 57) = 0 then (dv (hre tp e s), adv s) else (10 * dv (hre tp e s) + dv (hre tp e (adv s)), adv (adv s))
def spP (tp : Nat → Int32) (e : Nat) (cs : List Int32) (s : pst) : pst := cs.foldl (fun s c => mustP tp e c s) s
def am : List Int32 → Int32 → Nat → Option Nat
  | [], _, _ => none
  | c :: t, x, k => if x = c then some k else am t x (k + 1)
def am3 (a b c x : Int32) : Nat := if x = a then 0 else if x = b then 1 else if x = c then 2 else 3
theorem am_3 (a b c x : Int32) : am [a, b, c] x 0 = if am3 a b c x = 3 then none else some (am3 a b c x) := by
  unfold am am am am am3
  split
  · rfl
  · split
    · rfl
    · split <;> rfl
def testP (tp : Nat → Int32) (e : Nat) (s : pst) : pst :=
  if am3 104 100 109 (hre tp e s) = 3 then bad s
  else if am3 60 61 62 (hre tp e (adv s)) = 3 then bad (adv s)
  else emP (3 * am3 104 100 109 (hre tp e s) + am3 60 61 62 (hre tp e (adv s)), (figP tp e (adv (adv s))).1) (figP tp e (adv (adv s))).2
def tailP (tp : Nat → Int32) (e : Nat) (sub : pst → pst) (c : Int32) (x : Nat) : Nat → pst → pst
  | 0, s => s
  | f + 1, s => if s.2.1 = true then s else if hre tp e s = c then tailP tp e sub c x f (emP (x, 0) (sub (adv s))) else s
def evP (tp : Nat → Int32) (e : Nat) (sub : pst → pst) (s : pst) : pst := tailP tp e sub 38 10 100 (sub s)
def soP (tp : Nat → Int32) (e : Nat) (sub : pst → pst) (s : pst) : pst := tailP tp e (evP tp e sub) 124 11 100 (evP tp e sub s)
def facP (tp : Nat → Int32) (e : Nat) : Nat → pst → pst
  | 0, s => if s.2.1 = true then s else if hre tp e s = 33 then bad s else if hre tp e s = 40 then bad s else testP tp e s
  | d + 1, s => if s.2.1 = true then s else if hre tp e s = 33 then emP (9, 0) (facP tp e d (adv s)) else if hre tp e s = 40 then mustP tp e 41 (soP tp e (facP tp e d) (adv s)) else testP tp e s
def muP (tp : Nat → Int32) (e x i : Nat) (s : pst) : pst := emP (x, (figP tp e (spP tp e (zByt.getD i []) s)).1) (soP tp e (facP tp e 5) (mustP tp e 32 (figP tp e (spP tp e (zByt.getD i []) s)).2))
def clP (tp : Nat → Int32) (e : Nat) (s : pst) : pst := if s.2.1 = true then s else if hre tp e s = 115 then muP tp e 12 0 s else if hre tp e s = 101 then muP tp e 13 1 s else if hre tp e s = 119 then muP tp e 14 2 s else bad s
def caF (tp : Nat → Int32) (e : Nat) : Nat → pst → pst
  | 0, s => s
  | f + 1, s => if s.2.1 = true then s else if hre tp e s = 59 then caF tp e f (clP tp e (adv s)) else s
def caP (tp : Nat → Int32) (e : Nat) : pst := caF tp e 9 (clP tp e (0, false, []))
/-- a part that leaves one truth more -/
def seg (k : Nat) (R : pP) : Prop := ∀ (t : Nat) (Q : pP), t + k ≤ 30 → wfp (t + 1) Q → wfp t (R ++ Q)
theorem seg_test {s n : Nat} (hs : s < 9) (hn : n ≤ 99) : seg 1 [(s, n)] := by
  intro t Q ht hQ
  show wfp t ((s, n) :: Q)
  exact ⟨hn, by omega, fun _ => ⟨by omega, hQ⟩, fun q => by omega, fun q => by omega, fun q => by omega⟩
theorem seg_not {k : Nat} {R : pP} (h : seg k R) : seg k (R ++ [(9, 0)]) := by
  intro t Q ht hQ
  rw [List.append_assoc]
  refine h t _ ht ?_
  show wfp (t + 1) ((9, 0) :: Q)
  exact ⟨by omega, by omega, fun q => by omega, fun _ => ⟨by omega, hQ⟩, fun q => by omega, fun q => by omega⟩
theorem seg_bin {k x : Nat} {R R' : pP} (h : seg (k + 1) R) (h' : seg k R') (hx : x = 10 ∨ x = 11) : seg (k + 1) (R ++ (R' ++ [(x, 0)])) := by
  intro t Q ht hQ
  rw [List.append_assoc, List.append_assoc]
  refine h t _ ht (h' (t + 1) _ (by omega) ?_)
  show wfp (t + 1 + 1) ((x, 0) :: Q)
  exact ⟨by omega, by omega, fun q => by omega, fun q => by omega, fun _ => ⟨by omega, hQ⟩, fun q => by omega⟩
theorem seg_le {k k' : Nat} {R : pP} (h : seg k R) (hk : k ≤ k') : seg k' R := fun t Q ht hQ => h t Q (by omega) hQ
/-- what an operator keeps: the place goes on within e, the steps come behind, no more than the place has gone -/
def gs (e : Nat) (P : pP → Prop) (s s' : pst) : Prop := s.1 ≤ s'.1 ∧ s'.1 ≤ e ∧ ∃ R, s'.2.2 = s.2.2 ++ R ∧ R.length + s.1 ≤ s'.1 ∧ (s'.2.1 = false → P R)
def gd (e : Nat) (P : pP → Prop) (sub : pst → pst) : Prop := (∀ s, s.2.1 = true → sub s = s) ∧ ∀ s, s.2.1 = false → s.1 ≤ e → gs e P s (sub s)
theorem hr_lt {tp : Nat → Int32} {e : Nat} {s : pst} {c : Int32} (h : hre tp e s = c) (hc : ¬ c = -1) : s.1 < e := by
  unfold hre at h
  by_cases z : s.1 < e
  · exact z
  · rw [if_neg z] at h
    exact absurd h.symm hc
theorem isD_c {c : Int32} (h : ¬ bI (48 ≤ c ∧ c ≤ 57) = 0) : ∃ k, k ≤ 9 ∧ c = nI (48 + k) ∧ dv c = k := by
  obtain ⟨j, h1, h2, rfl⟩ := in_rng (lo := 48) (hi := 57) (of_bI h) (by decide) (by decide)
  refine ⟨j - 48, by omega, by congr 1; omega, ?_⟩
  unfold dv
  rw [kN_nI (by omega)]
theorem dig_lt {tp : Nat → Int32} {e : Nat} {s : pst} (h : ¬ bI (48 ≤ hre tp e s ∧ hre tp e s ≤ 57) = 0) : s.1 < e := by
  obtain ⟨k, h1, h2, -⟩ := isD_c h
  refine hr_lt h2 ?_
  intro z
  have := congrArg Int32.toInt z
  rw [nI_toInt (by omega)] at this
  have e1 : (-1 : Int32).toInt = -1 := by decide
  omega
/-- the figures: a number up to 99 -/
theorem fig_gs {tp : Nat → Int32} {e : Nat} {s : pst} (hs : s.1 ≤ e) : (figP tp e s).1 ≤ 99 ∧ s.1 ≤ (figP tp e s).2.1 ∧ (figP tp e s).2.1 ≤ e ∧ (figP tp e s).2.2.2 = s.2.2 ∧ (s.2.1 = true → (figP tp e s).2 = s) := by
  unfold figP
  by_cases h1 : s.2.1 = true
  · rw [if_pos h1]; exact ⟨by omega, Nat.le_refl _, hs, rfl, fun _ => rfl⟩
  · rw [if_neg h1]
    by_cases h2 : bI (48 ≤ hre tp e s ∧ hre tp e s ≤ 57) = 0
    · rw [if_pos h2]; exact ⟨by omega, Nat.le_refl _, hs, rfl, fun z => absurd z h1⟩
    · rw [if_neg h2]
      have hl := dig_lt h2
      obtain ⟨k, hk, -, ek⟩ := isD_c h2
      rw [ek]
      by_cases h3 : k = 0
      · rw [if_pos h3]; exact ⟨by omega, Nat.le_succ _, hl, rfl, fun z => absurd z h1⟩
      · rw [if_neg h3]
        by_cases h4 : bI (48 ≤ hre tp e (adv s) ∧ hre tp e (adv s) ≤ 57) = 0
        · rw [if_pos h4]; exact ⟨by omega, Nat.le_succ _, hl, rfl, fun z => absurd z h1⟩
        · rw [if_neg h4]
          have hl2 := dig_lt h4
          obtain ⟨k2, hk2, -, ek2⟩ := isD_c h4
          rw [ek2]
          exact ⟨by omega, by show s.1 ≤ s.1 + 1 + 1; omega, hl2, rfl, fun z => absurd z h1⟩
theorem must_gs {tp : Nat → Int32} {e : Nat} {c : Int32} {s : pst} (hc : ¬ c = -1) (hs : s.1 ≤ e) : s.1 ≤ (mustP tp e c s).1 ∧ (mustP tp e c s).1 ≤ e ∧ (mustP tp e c s).2.2 = s.2.2 ∧ (s.2.1 = true → mustP tp e c s = s) ∧ ((mustP tp e c s).2.1 = false → s.2.1 = false) := by
  unfold mustP
  by_cases h1 : s.2.1 = true
  · rw [if_pos h1]; exact ⟨Nat.le_refl _, hs, rfl, fun _ => rfl, fun z => z⟩
  · rw [if_neg h1]
    have h1' : s.2.1 = false := by simpa using h1
    by_cases h2 : hre tp e s = c
    · rw [if_pos h2]; exact ⟨Nat.le_succ _, hr_lt h2 hc, rfl, fun z => absurd z h1, fun _ => h1'⟩
    · rw [if_neg h2]; exact ⟨Nat.le_refl _, hs, rfl, fun z => absurd z h1, fun _ => h1'⟩
theorem em_f {x : Nat × Nat} {s : pst} (h : s.2.1 = false) : emP x s = (s.1, false, s.2.2 ++ [x]) := by
  unfold emP; rw [if_neg (by rw [h]; decide), h]
theorem em_t {x : Nat × Nat} {s : pst} (h : s.2.1 = true) : emP x s = s := by unfold emP; rw [if_pos h]
theorem em_w {x : Nat × Nat} {s : pst} : (emP x s).1 = s.1 ∧ (emP x s).2.1 = s.2.1 := by
  by_cases h : s.2.1 = true
  · rw [em_t h]; exact ⟨rfl, rfl⟩
  · have h : s.2.1 = false := by simpa using h
    rw [em_f h]; exact ⟨rfl, h.symm⟩
theorem test_gd (tp : Nat → Int32) (e : Nat) {s : pst} (hw : s.2.1 = false) (hs : s.1 ≤ e) : gs e (seg 1) s (testP tp e s) := by
  unfold testP
  have lt3 : ∀ a b c x, ¬ am3 a b c x = 3 → am3 a b c x < 3 ∧ (x = a ∨ x = b ∨ x = c) := by
    intro a b c x
    unfold am3
    split
    · intro _; exact ⟨by omega, by simp [*]⟩
    · split
      · intro _; exact ⟨by omega, by simp [*]⟩
      · split
        · intro _; exact ⟨by omega, by simp [*]⟩
        · intro h; exact absurd rfl h
  by_cases h1 : am3 104 100 109 (hre tp e s) = 3
  · rw [if_pos h1]
    exact ⟨Nat.le_refl _, hs, [], by simp [bad], by show 0 + s.1 ≤ s.1; omega, fun z => by cases z⟩
  · rw [if_neg h1]
    obtain ⟨w3, wx⟩ := lt3 _ _ _ _ h1
    have hl : s.1 < e := by rcases wx with z | z | z <;> exact hr_lt z (by decide)
    by_cases h2 : am3 60 61 62 (hre tp e (adv s)) = 3
    · rw [if_pos h2]
      exact ⟨Nat.le_succ _, hl, [], by simp [bad, adv], by show 0 + s.1 ≤ s.1 + 1; omega, fun z => by cases z⟩
    · rw [if_neg h2]
      obtain ⟨o3, ox⟩ := lt3 _ _ _ _ h2
      have hl2 : s.1 + 1 < e := by rcases ox with z | z | z <;> exact hr_lt z (by decide)
      obtain ⟨g1, g2, g3, g4, -⟩ := fig_gs (tp := tp) (e := e) (s := adv (adv s)) (by show s.1 + 1 + 1 ≤ e; omega)
      have g2 : s.1 + 1 + 1 ≤ (figP tp e (adv (adv s))).2.1 := g2
      have g4 : (figP tp e (adv (adv s))).2.2.2 = s.2.2 := g4
      by_cases h3 : (figP tp e (adv (adv s))).2.2.1 = true
      · rw [em_t h3]
        exact ⟨by omega, g3, [], by rw [g4]; simp, by show 0 + s.1 ≤ _; omega, fun z => by rw [h3] at z; cases z⟩
      · have h3 : (figP tp e (adv (adv s))).2.2.1 = false := by simpa using h3
        rw [em_f h3]
        exact ⟨by show s.1 ≤ _; omega, g3, [_], by show _ ++ _ = _; rw [g4], by show 1 + s.1 ≤ _; omega, fun _ => seg_test (by omega) g1⟩
theorem tail_t {tp : Nat → Int32} {e : Nat} {sub : pst → pst} {c : Int32} {x f : Nat} {s : pst} (h : s.2.1 = true) : tailP tp e sub c x f s = s := by
  cases f with
  | zero => rfl
  | succ f => rw [tailP, if_pos h]
theorem tail_gs (tp : Nat → Int32) (e : Nat) {sub : pst → pst} {k : Nat} (hsub : gd e (seg k) sub) {c : Int32} (hc : ¬ c = -1) {x : Nat} (hx : x = 10 ∨ x = 11) : ∀ (f : Nat) (s : pst) (R0 : pP), s.2.1 = false → s.1 ≤ e → seg (k + 1) R0 → gs e (fun R => seg (k + 1) (R0 ++ R)) s (tailP tp e sub c x f s) := by
  intro f
  induction f with
  | zero =>
    intro s R0 hw hs h0
    exact ⟨Nat.le_refl _, hs, [], by simp [tailP], by show 0 + s.1 ≤ s.1; omega, fun _ => by simpa using h0⟩
  | succ f ih =>
    intro s R0 hw hs h0
    rw [tailP, if_neg (by rw [hw]; decide)]
    by_cases h1 : hre tp e s = c
    · rw [if_pos h1]
      have hl := hr_lt h1 hc
      obtain ⟨g1, g2, R, g3, g4, g5⟩ := hsub.2 (adv s) hw hl
      have g1 : s.1 + 1 ≤ (sub (adv s)).1 := g1
      have g3 : (sub (adv s)).2.2 = s.2.2 ++ R := g3
      have g4 : R.length + (s.1 + 1) ≤ (sub (adv s)).1 := g4
      by_cases h2 : (sub (adv s)).2.1 = true
      · rw [em_t h2, tail_t h2]
        exact ⟨by omega, g2, R, g3, by omega, fun z => by rw [h2] at z; cases z⟩
      · have h2 : (sub (adv s)).2.1 = false := by simpa using h2
        rw [em_f h2]
        obtain ⟨j1, j2, R', j3, j4, j5⟩ := ih ((sub (adv s)).1, false, (sub (adv s)).2.2 ++ [(x, 0)]) (R0 ++ (R ++ [(x, 0)])) rfl g2 (seg_bin h0 (g5 h2) hx)
        have j1 : (sub (adv s)).1 ≤ _ := j1
        have j4 : R'.length + (sub (adv s)).1 ≤ _ := j4
        refine ⟨by omega, j2, R ++ [(x, 0)] ++ R', by rw [j3, g3]; simp [List.append_assoc], by simp only [List.length_append, List.length_cons, List.length_nil]; omega, fun z => ?_⟩
        have := j5 z
        simpa [List.append_assoc] using this
    · rw [if_neg h1]
      exact ⟨Nat.le_refl _, hs, [], by simp, by show 0 + s.1 ≤ s.1; omega, fun _ => by simpa using h0⟩
theorem tl_gd (tp : Nat → Int32) (e : Nat) {sub sub' : pst → pst} {k : Nat} (h0 : gd e (seg k) sub) (h' : gd e (seg k) sub') {c : Int32} (hc : ¬ c = -1) {x : Nat} (hx : x = 10 ∨ x = 11) : gd e (seg (k + 1)) (fun s => tailP tp e sub c x 100 (sub' s)) := by
  refine ⟨fun s hs => by show tailP _ _ _ _ _ _ (sub' s) = s; rw [h'.1 s hs, tail_t hs], fun s hw hs => ?_⟩
  obtain ⟨g1, g2, R, g3, g4, g5⟩ := h'.2 s hw hs
  by_cases h2 : (sub' s).2.1 = true
  · show gs _ _ _ (tailP _ _ _ _ _ _ (sub' s))
    rw [tail_t h2]
    exact ⟨g1, g2, R, g3, g4, fun z => by rw [h2] at z; cases z⟩
  · have h2 : (sub' s).2.1 = false := by simpa using h2
    obtain ⟨j1, j2, R', j3, j4, j5⟩ := tail_gs tp e h0 hc hx 100 (sub' s) R h2 g2 (seg_le (g5 h2) (by omega))
    have fin : gs e (seg (k + 1)) s (tailP tp e sub c x 100 (sub' s)) := ⟨by omega, j2, R ++ R', by rw [j3, g3, List.append_assoc], by rw [List.length_append]; omega, j5⟩
    exact fin
theorem ev_gd {tp : Nat → Int32} {e k : Nat} {sub : pst → pst} (h : gd e (seg k) sub) : gd e (seg (k + 1)) (evP tp e sub) := tl_gd tp e h h (by decide) (Or.inl rfl)
theorem so_gd {tp : Nat → Int32} {e k : Nat} {sub : pst → pst} (h : gd e (seg k) sub) : gd e (seg (k + 2)) (soP tp e sub) := tl_gd tp e (ev_gd h) (ev_gd h) (by decide) (Or.inr rfl)
theorem gs_bad {e : Nat} {P : pP → Prop} {s : pst} (hs : s.1 ≤ e) : gs e P s (bad s) := ⟨Nat.le_refl _, hs, [], by simp [bad], by show 0 + s.1 ≤ s.1; omega, fun z => by cases z⟩
theorem gs.le {e : Nat} {P Q : pP → Prop} {s s' : pst} (h : gs e P s s') (hq : ∀ R, P R → Q R) : gs e Q s s' := by
  obtain ⟨g1, g2, R, g3, g4, g5⟩ := h
  exact ⟨g1, g2, R, g3, g4, fun z => hq _ (g5 z)⟩
theorem fac_gd (tp : Nat → Int32) (e : Nat) : ∀ d, gd e (seg (2 * d + 1)) (facP tp e d) := by
  intro d
  induction d with
  | zero =>
    refine ⟨fun s hs => by rw [facP, if_pos hs], fun s hw hs => ?_⟩
    rw [facP, if_neg (by rw [hw]; decide)]
    split
    · exact gs_bad hs
    · split
      · exact gs_bad hs
      · exact test_gd tp e hw hs
  | succ d ih =>
    refine ⟨fun s hs => by rw [facP, if_pos hs], fun s hw hs => ?_⟩
    rw [facP, if_neg (by rw [hw]; decide)]
    by_cases h1 : hre tp e s = 33
    · rw [if_pos h1]
      obtain ⟨g1, g2, R, g3, g4, g5⟩ := ih.2 (adv s) hw (hr_lt h1 (by decide))
      have g1 : s.1 + 1 ≤ (facP tp e d (adv s)).1 := g1
      have g3 : (facP tp e d (adv s)).2.2 = s.2.2 ++ R := g3
      have g4 : R.length + (s.1 + 1) ≤ (facP tp e d (adv s)).1 := g4
      by_cases h2 : (facP tp e d (adv s)).2.1 = true
      · rw [em_t h2]
        exact ⟨by omega, g2, R, g3, by omega, fun z => by rw [h2] at z; cases z⟩
      · have h2 : (facP tp e d (adv s)).2.1 = false := by simpa using h2
        rw [em_f h2]
        exact ⟨by show s.1 ≤ _; omega, g2, R ++ [(9, 0)], by show _ ++ _ = _; rw [g3, List.append_assoc], by rw [List.length_append]; show R.length + 1 + s.1 ≤ _; omega, fun _ => seg_le (seg_not (g5 h2)) (by omega)⟩
    · rw [if_neg h1]
      by_cases h2 : hre tp e s = 40
      · rw [if_pos h2]
        obtain ⟨g1, g2, R, g3, g4, g5⟩ := (so_gd (tp := tp) ih).2 (adv s) hw (hr_lt h2 (by decide))
        have g1 : s.1 + 1 ≤ (soP tp e (facP tp e d) (adv s)).1 := g1
        have g3 : (soP tp e (facP tp e d) (adv s)).2.2 = s.2.2 ++ R := g3
        have g4 : R.length + (s.1 + 1) ≤ (soP tp e (facP tp e d) (adv s)).1 := g4
        obtain ⟨m1, m2, m3, -, m5⟩ := must_gs (tp := tp) (c := 41) (by decide) g2
        exact ⟨by omega, m2, R, by rw [m3, g3], by omega, fun z => seg_le (g5 (m5 z)) (by omega)⟩
      · rw [if_neg h2]
        exact (test_gd tp e hw hs).le fun R hR => seg_le hR (by omega)
theorem sp_gs (tp : Nat → Int32) (e : Nat) : ∀ (cs : List Int32) (s : pst), (∀ c ∈ cs, ¬ c = -1) → s.1 ≤ e → s.1 ≤ (spP tp e cs s).1 ∧ (spP tp e cs s).1 ≤ e ∧ (spP tp e cs s).2.2 = s.2.2 ∧ (s.2.1 = true → spP tp e cs s = s) ∧ ((spP tp e cs s).2.1 = false → s.1 + cs.length ≤ (spP tp e cs s).1) := by
  intro cs
  induction cs with
  | nil => intro s _ hs; exact ⟨Nat.le_refl _, hs, rfl, fun _ => rfl, fun _ => Nat.le_refl _⟩
  | cons c t ih =>
    intro s hc hs
    obtain ⟨m1, m2, m3, m4, m5⟩ := must_gs (tp := tp) (hc c List.mem_cons_self) hs
    obtain ⟨i1, i2, i3, i4, i5⟩ := ih (mustP tp e c s) (fun c h => hc c (List.mem_cons_of_mem _ h)) m2
    refine ⟨Nat.le_trans m1 i1, i2, i3.trans m3, fun z => ?_, fun z => ?_⟩
    · show spP tp e t (mustP tp e c s) = s
      rw [i4 (by rw [m4 z]; exact z), m4 z]
    · have j := i5 z
      have hm : (mustP tp e c s).1 = s.1 + 1 := by
        by_cases h1 : s.2.1 = true
        · exfalso
          have z' : (spP tp e t (mustP tp e c s)).2.1 = false := z
          rw [m4 h1, (by rw [← m4 h1]; exact i4 (by rw [m4 h1]; exact h1) : spP tp e t s = s)] at z'
          rw [h1] at z'; cases z'
        · unfold mustP
          rw [if_neg h1]
          by_cases h2 : hre tp e s = c
          · rw [if_pos h2]; rfl
          · exfalso
            have hb : mustP tp e c s = bad s := by unfold mustP; rw [if_neg h1, if_neg h2]
            have z' : (spP tp e t (mustP tp e c s)).2.1 = false := z
            rw [i4 (by rw [hb]; rfl), hb] at z'
            cases z'
      show s.1 + (t.length + 1) ≤ (spP tp e t (mustP tp e c s)).1
      omega
theorem zByt_ok : ∀ i, i < 5 → ∀ c ∈ zByt.getD i [], ¬ c = -1 := by decide
theorem mu_gs (tp : Nat → Int32) (e : Nat) {x i : Nat} {s : pst} (hi : i < 3) (hx : 12 ≤ x ∧ x ≤ 14) (hw : s.2.1 = false) (hs : s.1 ≤ e) : gs e (fun R => ∀ Q, wfp 0 Q → wfp 0 (R ++ Q)) s (muP tp e x i s) := by
  have hlen : 1 ≤ (zByt.getD i []).length := by
    rcases (show i = 0 ∨ i = 1 ∨ i = 2 by omega) with rfl | rfl | rfl <;> decide
  obtain ⟨a1, a2, a3, a4, a5⟩ := sp_gs tp e (zByt.getD i []) s (zByt_ok i (by omega)) hs
  unfold muP
  generalize hS1 : spP tp e (zByt.getD i []) s = s1 at *
  obtain ⟨b1, b2, b3, b4, b5⟩ := fig_gs (tp := tp) a2
  generalize hS2 : figP tp e s1 = q at *
  obtain ⟨m1, m2, m3, m4, m5⟩ := must_gs (tp := tp) (c := 32) (by decide) b3
  generalize hS3 : mustP tp e 32 q.2 = s3 at *
  by_cases h3 : s3.2.1 = true
  · rw [(so_gd (fac_gd tp e 5)).1 s3 h3, em_t h3]
    exact ⟨by omega, m2, [], by rw [m3, b4, a3]; simp, by show 0 + s.1 ≤ _; omega, fun z => by rw [h3] at z; cases z⟩
  · have h3 : s3.2.1 = false := by simpa using h3
    have h2 : s1.2.1 = false := by
      by_cases z : s1.2.1 = true
      · exfalso
        have := m5 h3
        rw [b5 z, z] at this; cases this
      · simpa using z
    have a5 := a5 h2
    obtain ⟨g1, g2, R, g3, g4, g5⟩ := (so_gd (fac_gd tp e 5)).2 s3 h3 m2
    by_cases h4 : (soP tp e (facP tp e 5) s3).2.1 = true
    · rw [em_t h4]
      exact ⟨by omega, g2, R, by rw [g3, m3, b4, a3], by omega, fun z => by rw [h4] at z; cases z⟩
    · have h4 : (soP tp e (facP tp e 5) s3).2.1 = false := by simpa using h4
      rw [em_f h4]
      refine ⟨by show s.1 ≤ _; omega, g2, R ++ [(x, q.1)], by show _ ++ _ = _; rw [g3, m3, b4, a3, List.append_assoc], by rw [List.length_append]; show R.length + 1 + s.1 ≤ _; omega, fun _ Q hQ => ?_⟩
      rw [List.append_assoc]
      refine g5 h4 0 _ (by omega) ?_
      show wfp 1 ((x, q.1) :: Q)
      exact ⟨b1, by omega, fun z => by omega, fun z => by omega, fun z => by omega, fun _ => ⟨rfl, hQ⟩⟩
def wf0 (R : pP) : Prop := ∀ Q, wfp 0 Q → wfp 0 (R ++ Q)
theorem cl_gd (tp : Nat → Int32) (e : Nat) : gd e wf0 (clP tp e) := by
  refine ⟨fun s hs => by unfold clP; rw [if_pos hs], fun s hw hs => ?_⟩
  unfold clP
  rw [if_neg (by rw [hw]; decide)]
  split
  · exact mu_gs tp e (by omega) (by omega) hw hs
  · split
    · exact mu_gs tp e (by omega) (by omega) hw hs
    · split
      · exact mu_gs tp e (by omega) (by omega) hw hs
      · exact gs_bad hs
theorem ca_gs (tp : Nat → Int32) (e : Nat) : ∀ (f : Nat) (s : pst), s.1 ≤ e → s.2.2.length ≤ s.1 → (s.2.1 = false → wf0 s.2.2) → (caF tp e f s).1 ≤ e ∧ (caF tp e f s).2.2.length ≤ (caF tp e f s).1 ∧ ((caF tp e f s).2.1 = false → wf0 (caF tp e f s).2.2) := by
  intro f
  induction f with
  | zero => intro s h1 h2 h3; exact ⟨h1, h2, h3⟩
  | succ f ih =>
    intro s h1 h2 h3
    rw [caF]
    split
    · exact ⟨h1, h2, h3⟩
    · rename_i hw
      have hw : s.2.1 = false := by simpa using hw
      split
      · rename_i h4
        have hl := hr_lt h4 (by decide)
        obtain ⟨g1, g2, R, g3, g4, g5⟩ := (cl_gd tp e).2 (adv s) hw hl
        have g3 : (clP tp e (adv s)).2.2 = s.2.2 ++ R := g3
        have g4 : R.length + (s.1 + 1) ≤ (clP tp e (adv s)).1 := g4
        refine ih _ g2 (by rw [g3, List.length_append]; omega) fun z Q hQ => ?_
        rw [g3, List.append_assoc]
        exact h3 hw _ (g5 z Q hQ)
      · exact ⟨h1, h2, h3⟩
theorem ca_ok (tp : Nat → Int32) (e : Nat) : (caP tp e).1 ≤ e ∧ (caP tp e).2.2.length ≤ (caP tp e).1 ∧ ((caP tp e).2.1 = false → wfp 0 (caP tp e).2.2) := by
  obtain ⟨g1, g2, R, g3, g4, g5⟩ := (cl_gd tp e).2 (0, false, []) rfl (Nat.zero_le _)
  have g3 : (clP tp e (0, false, [])).2.2 = R := by rw [g3]; rfl
  have g4 : R.length ≤ (clP tp e (0, false, [])).1 := g4
  obtain ⟨h1, h2, h3⟩ := ca_gs tp e 9 (clP tp e (0, false, [])) g2 (by rw [g3]; exact g4) (fun z => by rw [g3]; exact g5 z)
  refine ⟨h1, h2, fun z => ?_⟩
  have := h3 z [] trivial
  rw [List.append_nil] at this
  exact this
