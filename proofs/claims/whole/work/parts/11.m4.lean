theorem mg_0 (m : Nat) (F : Nat → Int32) : (mflds m F)[0]? = some (.int (F 0)) := rfl
theorem ms_0 (m : Nat) (F : Nat → Int32) (x : Int32) : (mflds m F).set 0 (.int x) = mflds m (upd F 0 x) := rfl
theorem mg_1 (m : Nat) (F : Nat → Int32) : (mflds m F)[1]? = some (.ref (m + 1)) := rfl
theorem mg_2 (m : Nat) (F : Nat → Int32) : (mflds m F)[2]? = some (.ref (m + 2)) := rfl
theorem mg_3 (m : Nat) (F : Nat → Int32) : (mflds m F)[3]? = some (.int (F 3)) := rfl
theorem ms_3 (m : Nat) (F : Nat → Int32) (x : Int32) : (mflds m F).set 3 (.int x) = mflds m (upd F 3 x) := rfl
theorem mg_4 (m : Nat) (F : Nat → Int32) : (mflds m F)[4]? = some (.int (F 4)) := rfl
theorem ms_4 (m : Nat) (F : Nat → Int32) (x : Int32) : (mflds m F).set 4 (.int x) = mflds m (upd F 4 x) := rfl
theorem mg_5 (m : Nat) (F : Nat → Int32) : (mflds m F)[5]? = some (.int (F 5)) := rfl
theorem ms_5 (m : Nat) (F : Nat → Int32) (x : Int32) : (mflds m F).set 5 (.int x) = mflds m (upd F 5 x) := rfl
theorem mg_6 (m : Nat) (F : Nat → Int32) : (mflds m F)[6]? = some (.int (F 6)) := rfl
theorem ms_6 (m : Nat) (F : Nat → Int32) (x : Int32) : (mflds m F).set 6 (.int x) = mflds m (upd F 6 x) := rfl
theorem mg_7 (m : Nat) (F : Nat → Int32) : (mflds m F)[7]? = some (.int (F 7)) := rfl
theorem ms_7 (m : Nat) (F : Nat → Int32) (x : Int32) : (mflds m F).set 7 (.int x) = mflds m (upd F 7 x) := rfl
theorem mg_8 (m : Nat) (F : Nat → Int32) : (mflds m F)[8]? = some (.int (F 8)) := rfl
theorem ms_8 (m : Nat) (F : Nat → Int32) (x : Int32) : (mflds m F).set 8 (.int x) = mflds m (upd F 8 x) := rfl
theorem mg_9 (m : Nat) (F : Nat → Int32) : (mflds m F)[9]? = some (.ref (m + 3)) := rfl
theorem mg_10 (m : Nat) (F : Nat → Int32) : (mflds m F)[10]? = some (.ref (m + 4)) := rfl
theorem mg_11 (m : Nat) (F : Nat → Int32) : (mflds m F)[11]? = some (.int (F 11)) := rfl
theorem ms_11 (m : Nat) (F : Nat → Int32) (x : Int32) : (mflds m F).set 11 (.int x) = mflds m (upd F 11 x) := rfl
theorem mg_12 (m : Nat) (F : Nat → Int32) : (mflds m F)[12]? = some (.int (F 12)) := rfl
theorem ms_12 (m : Nat) (F : Nat → Int32) (x : Int32) : (mflds m F).set 12 (.int x) = mflds m (upd F 12 x) := rfl
theorem mg_13 (m : Nat) (F : Nat → Int32) : (mflds m F)[13]? = some (.ref (m + 5)) := rfl
theorem mg_14 (m : Nat) (F : Nat → Int32) : (mflds m F)[14]? = some (.int (F 14)) := rfl
theorem ms_14 (m : Nat) (F : Nat → Int32) (x : Int32) : (mflds m F).set 14 (.int x) = mflds m (upd F 14 x) := rfl
theorem mg_15 (m : Nat) (F : Nat → Int32) : (mflds m F)[15]? = some (.ref (m + 6)) := rfl
theorem mg_16 (m : Nat) (F : Nat → Int32) : (mflds m F)[16]? = some (.ref (m + 7)) := rfl
theorem mg_17 (m : Nat) (F : Nat → Int32) : (mflds m F)[17]? = some (.ref (m + 8)) := rfl
theorem mg_18 (m : Nat) (F : Nat → Int32) : (mflds m F)[18]? = some (.int (F 18)) := rfl
theorem ms_18 (m : Nat) (F : Nat → Int32) (x : Int32) : (mflds m F).set 18 (.int x) = mflds m (upd F 18 x) := rfl
theorem mg_19 (m : Nat) (F : Nat → Int32) : (mflds m F)[19]? = some (.ref (m + 9)) := rfl
theorem mg_20 (m : Nat) (F : Nat → Int32) : (mflds m F)[20]? = some (.int (F 20)) := rfl
theorem ms_20 (m : Nat) (F : Nat → Int32) (x : Int32) : (mflds m F).set 20 (.int x) = mflds m (upd F 20 x) := rfl
theorem mg_21 (m : Nat) (F : Nat → Int32) : (mflds m F)[21]? = some (.int (F 21)) := rfl
theorem ms_21 (m : Nat) (F : Nat → Int32) (x : Int32) : (mflds m F).set 21 (.int x) = mflds m (upd F 21 x) := rfl
theorem mg_22 (m : Nat) (F : Nat → Int32) : (mflds m F)[22]? = some (.int (F 22)) := rfl
theorem ms_22 (m : Nat) (F : Nat → Int32) (x : Int32) : (mflds m F).set 22 (.int x) = mflds m (upd F 22 x) := rfl
theorem mg_23 (m : Nat) (F : Nat → Int32) : (mflds m F)[23]? = some (.int (F 23)) := rfl
theorem ms_23 (m : Nat) (F : Nat → Int32) (x : Int32) : (mflds m F).set 23 (.int x) = mflds m (upd F 23 x) := rfl
/-- fewer locals known -/
def zle : List (Option Value) → List (Option Value) → Prop
  | [], [] => True
  | a :: t, b :: u => (b = none ∨ a = b) ∧ zle t u
  | _, _ => False
theorem zle_len : ∀ {a b : List (Option Value)}, zle a b → a.length = b.length
  | [], [], _ => rfl
  | _ :: t, _ :: u, h => by simp [zle_len h.2]
theorem zle_at : ∀ {a b : List (Option Value)} {k : Nat} {v : Value}, zle a b → b[k]? = some (some v) → a[k]? = some (some v)
  | [], [], _, _, _, h => by simp at h
  | x :: t, y :: u, 0, v, h, hk => by
    simp at hk
    rcases h.1 with e | e
    · rw [e] at hk; cases hk
    · simp [e, hk]
  | x :: t, y :: u, k + 1, v, h, hk => by
    simp at hk ⊢
    exact zle_at h.2 hk
theorem AW.weak {X : zX} {rc rs pc : Nat} {lv lv' : List (Option Value)} {st : List Value} {h : Hp} {Ko : Option Value → Hp → Prop} (hl : zle lv lv') (k : AW X rc rs pc lv' st h Ko) : AW X rc rs pc lv st h Ko := by
  intro H locs ls cells slots a1 a2 a3 a4 a5
  refine k H locs ls cells slots a1 a2 ⟨(zle_len hl).symm.trans a3.1, a3.2.1, a3.2.2.1, fun q hq => a3.2.2.2 q ?_⟩ a4 a5
  obtain ⟨-, h2⟩ := zA_mem.mp hq
  exact zA_mem.mpr ⟨Nat.zero_le _, zle_at hl h2⟩
/-- a text read: its steps; 0..8 tests (3 times what, and how), 9 not, 10 and, 11 or, 12 swell, 13 ebb, 14 wave; each with a number -/
abbrev pP : Type := List (Nat × Nat)
def cd (s n : Nat) : Int32 := if s < 9 then nI (s / 3 + 8 * (s % 3) + 32 * n) else if s = 9 then -1 else if s = 10 then -2 else if s = 11 then -3 else if s = 12 then -10 - nI n else if s = 13 then -200 - nI n else -400 - nI n
def tst (x : Nat → Nat) (s n : Nat) : Bool := if s % 3 = 0 then decide (x (s / 3) < n) else if s % 3 = 1 then decide (x (s / 3) = n) else decide (n < x (s / 3))
def ev (x : Nat → Nat) : pP → List Bool → Int32 → Int32 → Int32 × Int32
  | [], _, sw, wv => (sw, wv)
  | (s, n) :: Q, st, sw, wv =>
    if s < 9 then ev x Q (tst x s n :: st) sw wv
    else if s = 9 then ev x Q ((!st.headD false) :: st.tail) sw wv
    else if s = 10 then ev x Q ((st.tail.headD false && st.headD false) :: st.tail.tail) sw wv
    else if s = 11 then ev x Q ((st.tail.headD false || st.headD false) :: st.tail.tail) sw wv
    else if s = 12 then ev x Q [] (sw + if st.headD false then nI n else 0) wv
    else if s = 13 then ev x Q [] (sw + if st.headD false then -nI n else 0) wv
    else ev x Q [] sw (wv + if st.headD false then nI n else 0)
def wfp : Nat → pP → Prop
  | _, [] => True
  | t, (s, n) :: Q => n ≤ 99 ∧ s ≤ 14 ∧ (s < 9 → t < 30 ∧ wfp (t + 1) Q) ∧ (s = 9 → 1 ≤ t ∧ wfp t Q) ∧ (s = 10 ∨ s = 11 → 2 ≤ t ∧ wfp (t - 1) Q) ∧ (12 ≤ s → t = 1 ∧ wfp 0 Q)
def hx (hr : Nat) : Nat → Nat := fun k => if k = 0 then hr % 12 else if k = 1 then hr / 12 % 14 else hr % 5
def b2 (b : Bool) : Int32 := if b then 1 else 0
theorem b2_01 (b : Bool) : b2 b = 0 ∨ b2 b = 1 := by cases b <;> simp [b2]
theorem cd12 : ∀ n, n < 100 → (-10 - nI n : Int32).toInt = -10 - n ∧ -10 - (-10 - nI n) = nI n := by decide
theorem cd13 : ∀ n, n < 100 → (-200 - nI n : Int32).toInt = -200 - n ∧ (-200 - nI n) - (-200) = -nI n := by decide
theorem cd14 : ∀ n, n < 100 → (-400 - nI n : Int32).toInt = -400 - n ∧ -400 - (-400 - nI n) = nI n := by decide
theorem upd_121 {F : Nat → Int32} {a b c : Int32} : upd (upd (upd F 11 a) 12 b) 11 c = upd (upd F 11 c) 12 b := by
  funext j
  unfold upd
  by_cases h : j = 12
  · simp [h]
  · by_cases h2 : j = 11 <;> simp [h, h2]
theorem mup_343 {A : Nat → Nat → Int32} {f f' k : Nat → Int32} : mup (mup (mup A 3 f) 4 k) 3 f' = mup (mup A 3 f') 4 k := by
  funext j
  unfold mup
  by_cases h : j = 4
  · simp [h]
  · by_cases h2 : j = 3 <;> simp [h, h2]
/-- the stack in the reference's row of truths -/
def tru (tr : Nat → Int32) (st : List Bool) : Prop := ∀ k, k < st.length → tr (st.length - 1 - k) = b2 (st.getD k false)
theorem tru_push {tr : Nat → Int32} {st : List Bool} (h : tru tr st) (b : Bool) : tru (upd tr st.length (b2 b)) (b :: st) := by
  intro k hk
  cases k with
  | zero => simp [upd]
  | succ k =>
    simp at hk
    have h1 := h k hk
    simp only [List.length_cons]
    rw [show st.length + 1 - 1 - (k + 1) = st.length - 1 - k by omega, upd_n (by omega), h1]
    rfl
theorem tru_top {tr : Nat → Int32} {b : Bool} {st : List Bool} (h : tru tr (b :: st)) : tr st.length = b2 b := by
  have := h 0 (by simp)
  simpa using this
theorem tru_pop {tr : Nat → Int32} {b : Bool} {st : List Bool} (h : tru tr (b :: st)) : tru tr st := by
  intro k hk
  have := h (k + 1) (by simp; omega)
  simp only [List.length_cons] at this
  rw [show st.length + 1 - 1 - (k + 1) = st.length - 1 - k by omega] at this
  exact this
theorem tru_set {tr : Nat → Int32} {b c : Bool} {st : List Bool} (h : tru tr (b :: st)) : tru (upd tr st.length (b2 c)) (c :: st) := tru_push (tru_pop h) c
/-- program number c in the reference's row -/
def pAt (S : Nat → Int32) (c : Nat) (Q : pP) : Prop := c < 5 ∧ Q.length ≤ 140 ∧ S (194 + c) = nI Q.length ∧ ∀ i (h : i < Q.length), S (199 + 140 * c + i) = cd Q[i].1 Q[i].2

