/-! the reference's object: int fields F by their places, arrays A by their order behind the object -/
def rmz (d : Nat) : Room := { frames := d, cells := 0, slots := 0, locals := 64 * d }
theorem zrm {X : zX} {d d' maxL : Nat} (hr : zXr X = rmz d) (h : d' + 1 ≤ d ∧ 8 + (maxL + 11) + 64 * d' ≤ 64 * d) : zRoom (rmz d') X.2.2.2.2 maxL := by
  show _ + 1 ≤ (zXr X).frames ∧ _ ≤ (zXr X).locals
  rw [hr]
  exact h
def mflds (m : Nat) (F : Nat → Int32) : List Value := [.int (F 0), .ref (m + 1), .ref (m + 2), .int (F 3), .int (F 4), .int (F 5), .int (F 6), .int (F 7), .int (F 8), .ref (m + 3), .ref (m + 4), .int (F 11), .int (F 12), .ref (m + 5), .int (F 14), .ref (m + 6), .ref (m + 7), .ref (m + 8), .int (F 18), .ref (m + 9), .int (F 20), .int (F 21), .int (F 22), .int (F 23)]
def mlen (j : Nat) : Nat := if j = 1 then 899 else if j = 2 then 899 else if j = 3 then 3 else if j = 4 then 64 else if j = 5 then 402 else if j = 6 then 8688 else if j = 7 then 6 else if j = 8 then 6 else 20
def mup (A : Nat → Nat → Int32) (j : Nat) (f : Nat → Int32) : Nat → Nat → Int32 := fun k => if k = j then f else A k
def mcell (g : zG) (m : Nat) (F : Nat → Int32) (A : Nat → Nat → Int32) (j : Nat) : va_E := if j = 0 then .inr (12, mflds m F) else if j = 4 then .inl (g.2.2.1.2.1, 64, .inl (A 4)) else .inl (g.2.2.1.1, mlen j, .inl (A j))
def hM (g : zG) (h : Hp) (m : Nat) (F : Nat → Int32) (A : Nat → Nat → Int32) : Hp := (h.1, fun a => if m ≤ a ∧ a < m + 10 then some (mcell g m F A (a - m)) else h.2 a)
theorem hM_o {g : zG} {h : Hp} {m : Nat} {F : Nat → Int32} {A : Nat → Nat → Int32} : (hM g h m F A).2 m = some (.inr (12, mflds m F)) := by
  simp [hM, mcell]
theorem hM_a {g : zG} {h : Hp} {m j : Nat} {F : Nat → Int32} {A : Nat → Nat → Int32} (h1 : 0 < j) (h2 : j < 10) (h3 : j ≠ 4) : (hM g h m F A).2 (m + j) = some (.inl (g.2.2.1.1, mlen j, .inl (A j))) := by
  have : j ≠ 0 := by omega
  simp [hM, mcell, h2, h3, this]
theorem hM_z {g : zG} {h : Hp} {m : Nat} {F : Nat → Int32} {A : Nat → Nat → Int32} : (hM g h m F A).2 (m + 4) = some (.inl (g.2.2.1.2.1, 64, .inl (A 4))) := by
  simp [hM, mcell]
theorem hM_upo {g : zG} {h : Hp} {m : Nat} {F F' : Nat → Int32} {A : Nat → Nat → Int32} : hp_up (hM g h m F A) m (.inr (12, mflds m F')) = hM g h m F' A := by
  unfold hp_up hM
  refine Prod.ext rfl (funext fun a => ?_)
  show (if a = m then _ else _) = _
  by_cases h1 : a = m
  · subst h1
    simp [mcell]
  · rw [if_neg h1]
    by_cases h2 : m ≤ a ∧ a < m + 10
    · have : a - m ≠ 0 := by omega
      simp [h2, mcell, this]
    · simp [h2]
theorem hM_upa {g : zG} {h : Hp} {m j : Nat} {F : Nat → Int32} {A : Nat → Nat → Int32} {f : Nat → Int32} (h1 : 0 < j) (h2 : j < 10) (h3 : j ≠ 4) : hp_up (hM g h m F A) (m + j) (.inl (g.2.2.1.1, mlen j, .inl f)) = hM g h m F (mup A j f) := by
  unfold hp_up hM
  refine Prod.ext rfl (funext fun a => ?_)
  show (if a = m + j then _ else _) = _
  by_cases h4 : a = m + j
  · subst h4
    have : j ≠ 0 := by omega
    simp [mcell, mup, h2, h3, this]
  · rw [if_neg h4]
    by_cases h5 : m ≤ a ∧ a < m + 10
    · have : a - m ≠ j := by omega
      have h6 : ¬ 4 = j := fun e => h3 e.symm
      simp [h5, mcell, mup, this, h6]
    · simp [h5]
theorem hM_upz {g : zG} {h : Hp} {m : Nat} {F : Nat → Int32} {A : Nat → Nat → Int32} {f : Nat → Int32} : hp_up (hM g h m F A) (m + 4) (.inl (g.2.2.1.2.1, 64, .inl f)) = hM g h m F (mup A 4 f) := by
  unfold hp_up hM
  refine Prod.ext rfl (funext fun a => ?_)
  show (if a = m + 4 then _ else _) = _
  by_cases h4 : a = m + 4
  · subst h4
    simp [mcell, mup]
  · rw [if_neg h4]
    by_cases h5 : m ≤ a ∧ a < m + 10
    · have : a - m ≠ 4 := by omega
      simp [h5, mcell, mup, this]
    · simp [h5]
theorem mlen_lt (j : Nat) : mlen j < 2 ^ 31 := by
  unfold mlen
  repeat' split
  all_goals decide
section ZMOD
variable {X : zX} {cc : ByteArray} {nL : Nat} {own nm : String} {ret : Option FieldType} {rc rs pc : Nat} {lv : List (Option Value)} {st : List Value} {h : Hp} {Ko : Option Value → Hp → Prop} {m : Nat} {F : Nat → Int32} {A : Nat → Nat → Int32}
theorem m_get (B : zB X cc nL own nm ret) {idx k : Nat} {fin dec : Bool} {ty : FieldType} {v : Value} (Fl : zFL own idx 12 k fin dec ty) (hd : decode cc pc = .ok (.getfield idx, 3)) (hv : (mflds m F)[k]? = some v) (kk : AW X rc rs (pc + 3) lv (v :: st) (hM (zXg X) h m F A) Ko) : AW X rc rs pc lv (.ref m :: st) (hM (zXg X) h m F A) Ko := aw_get B Fl hd hM_o hv kk
theorem m_put (B : zB X cc nL own nm ret) {idx k : Nat} {dec : Bool} {x : Int32} (Fl : zFL own idx 12 k false dec .int) (hd : decode cc pc = .ok (.putfield idx, 3)) (hs : (mflds m F).set k (.int x) = mflds m (upd F k x)) (hk : k < 24) (kk : AW X rc rs (pc + 3) lv st (hM (zXg X) h m (upd F k x) A) Ko) : AW X rc rs pc lv (.int x :: .ref m :: st) (hM (zXg X) h m F A) Ko :=
  aw_put B Fl hd hM_o rfl rfl hk (by rw [hs, hM_upo]; exact kk)
theorem m_putz (B : zB X cc nL own nm ret) {idx k : Nat} {dec : Bool} {x : Int32} (Fl : zFL own idx 12 k false dec .boolean) (hx : x = 0 ∨ x = 1) (hd : decode cc pc = .ok (.putfield idx, 3)) (hs : (mflds m F).set k (.int x) = mflds m (upd F k x)) (hk : k < 24) (kk : AW X rc rs (pc + 3) lv st (hM (zXg X) h m (upd F k x) A) Ko) : AW X rc rs pc lv (.int x :: .ref m :: st) (hM (zXg X) h m F A) Ko :=
  aw_put B Fl hd hM_o (by rcases hx with rfl | rfl <;> rfl) (by rcases hx with rfl | rfl <;> rfl) hk (by rw [hs, hM_upo]; exact kk)
theorem m_ld (B : zB X cc nL own nm ret) {j : Nat} {i : Int32} (q : Nat) (e : i = nI q) (hb : q < mlen j) (hd : decode cc pc = .ok (.iaload, 1)) (h1 : 0 < j ∧ j < 10 ∧ j ≠ 4) (kk : AW X rc rs (pc + 1) lv (.int (A j q) :: st) (hM (zXg X) h m F A) Ko) : AW X rc rs pc lv (.int i :: .ref (m + j) :: st) (hM (zXg X) h m F A) Ko :=
  aw_iald B hd (hM_a h1.1 h1.2.1 h1.2.2) (by rw [e]; exact vp_in_nI hb (mlen_lt j)) (by rw [e, nI_clamp (Nat.lt_trans hb (mlen_lt j))]; exact kk)
theorem m_st (B : zB X cc nL own nm ret) {j : Nat} {i x : Int32} (q : Nat) (e : i = nI q) (hb : q < mlen j) (hd : decode cc pc = .ok (.iastore, 1)) (h1 : 0 < j ∧ j < 10 ∧ j ≠ 4) (kk : AW X rc rs (pc + 1) lv st (hM (zXg X) h m F (mup A j (upd (A j) q x))) Ko) : AW X rc rs pc lv (.int x :: .int i :: .ref (m + j) :: st) (hM (zXg X) h m F A) Ko :=
  aw_iast B hd (hM_a h1.1 h1.2.1 h1.2.2) (by rw [e]; exact vp_in_nI hb (mlen_lt j)) (by rw [e, nI_clamp (Nat.lt_trans hb (mlen_lt j)), hM_upa h1.1 h1.2.1 h1.2.2]; exact kk)
theorem m_zld (B : zB X cc nL own nm ret) {i : Int32} (q : Nat) (e : i = nI q) (hb : q < 64) (hd : decode cc pc = .ok (.baload, 1)) (kk : AW X rc rs (pc + 1) lv (.int (A 4 q) :: st) (hM (zXg X) h m F A) Ko) : AW X rc rs pc lv (.int i :: .ref (m + 4) :: st) (hM (zXg X) h m F A) Ko :=
  aw_zald B hd hM_z (by rw [e]; exact vp_in_nI hb (by decide)) (by rw [e, nI_clamp (Nat.lt_trans hb (by decide))]; exact kk)
theorem m_zst (B : zB X cc nL own nm ret) {i x : Int32} (q : Nat) (hx : x = 0 ∨ x = 1) (e : i = nI q) (hb : q < 64) (hd : decode cc pc = .ok (.bastore, 1)) (kk : AW X rc rs (pc + 1) lv st (hM (zXg X) h m F (mup A 4 (upd (A 4) q x))) Ko) : AW X rc rs pc lv (.int x :: .int i :: .ref (m + 4) :: st) (hM (zXg X) h m F A) Ko :=
  aw_zast B hd hM_z (by rw [e]; exact vp_in_nI hb (by decide)) (by rw [e, nI_clamp (Nat.lt_trans hb (by decide)), show vp_nar .boolean x = x by rcases hx with rfl | rfl <;> rfl, hM_upz]; exact kk)
end ZMOD
