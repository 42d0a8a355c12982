theorem aw_lcmp {X : zX} {cc : ByteArray} {nL : Nat} {own nm : String} {ret : Option FieldType} {rc rs pc : Nat} {lv : List (Option Value)} {st : List Value} {h : Hp} {Ko : Option Value → Hp → Prop} (B : zB X cc nL own nm ret) {x y : Int64} (hd : decode cc pc = .ok (.lcmp, 1)) (k : AW X rc rs (pc + 1) lv (.int (lg_cmp x y) :: st) h Ko) : AW X rc rs pc lv (.long y :: .long x :: st) h Ko := fun H locs ls cells slots a1 a2 a3 a4 a5 => W.lcmp B.1 B.2.1 hd (k H locs ls cells slots a1 a2 a3 a4 a5)
theorem lcmp0 {x y : Int64} : lg_cmp x y = 0 ↔ x = y := by
  unfold lg_cmp
  by_cases h1 : y < x
  · rw [if_pos h1]
    constructor
    · intro h; exact absurd h (by decide)
    · intro h; rw [h] at h1; exact absurd h1 (by simp)
  · rw [if_neg h1]
    by_cases h2 : x = y
    · simp [h2]
    · rw [if_neg h2]
      constructor
      · intro h; exact absurd h (by decide)
      · intro h; exact absurd h h2
def lowN (a b p : Nat) : Nat := if p = 0 then a / Nat.gcd a b else b / Nat.gcd a b
def lowL (a b : Nat) (q : Int32) : Int64 := lN (if q = 0 then a / Nat.gcd a b else b / Nat.gcd a b)
theorem dX12_lowest_0 : decode cX12_lowest 0 = .ok (.lload_n 0, 1) := by decide +kernel
theorem dX12_lowest_1 : decode cX12_lowest 1 = .ok (.lstore 5, 2) := by decide +kernel
theorem dX12_lowest_3 : decode cX12_lowest 3 = .ok (.lload_n 2, 1) := by decide +kernel
theorem dX12_lowest_4 : decode cX12_lowest 4 = .ok (.lstore 7, 2) := by decide +kernel
theorem dX12_lowest_6 : decode cX12_lowest 6 = .ok (.lload 7, 2) := by decide +kernel
theorem dX12_lowest_8 : decode cX12_lowest 8 = .ok (.lconst 0, 1) := by decide +kernel
theorem dX12_lowest_9 : decode cX12_lowest 9 = .ok (.lcmp, 1) := by decide +kernel
theorem dX12_lowest_10 : decode cX12_lowest 10 = .ok (.ifCond .eq 21, 3) := by decide +kernel
theorem dX12_lowest_13 : decode cX12_lowest 13 = .ok (.lload 5, 2) := by decide +kernel
theorem dX12_lowest_15 : decode cX12_lowest 15 = .ok (.lload 7, 2) := by decide +kernel
theorem dX12_lowest_17 : decode cX12_lowest 17 = .ok (.lrem, 1) := by decide +kernel
theorem dX12_lowest_18 : decode cX12_lowest 18 = .ok (.lstore 9, 2) := by decide +kernel
theorem dX12_lowest_20 : decode cX12_lowest 20 = .ok (.lload 7, 2) := by decide +kernel
theorem dX12_lowest_22 : decode cX12_lowest 22 = .ok (.lstore 5, 2) := by decide +kernel
theorem dX12_lowest_24 : decode cX12_lowest 24 = .ok (.lload 9, 2) := by decide +kernel
theorem dX12_lowest_26 : decode cX12_lowest 26 = .ok (.lstore 7, 2) := by decide +kernel
theorem dX12_lowest_28 : decode cX12_lowest 28 = .ok (.goto (-22), 3) := by decide +kernel
theorem dX12_lowest_31 : decode cX12_lowest 31 = .ok (.iload 4, 2) := by decide +kernel
theorem dX12_lowest_33 : decode cX12_lowest 33 = .ok (.ifCond .ne 7, 3) := by decide +kernel
theorem dX12_lowest_36 : decode cX12_lowest 36 = .ok (.lload_n 0, 1) := by decide +kernel
theorem dX12_lowest_37 : decode cX12_lowest 37 = .ok (.goto 4, 3) := by decide +kernel
theorem dX12_lowest_40 : decode cX12_lowest 40 = .ok (.lload_n 2, 1) := by decide +kernel
theorem dX12_lowest_41 : decode cX12_lowest 41 = .ok (.lload 5, 2) := by decide +kernel
theorem dX12_lowest_43 : decode cX12_lowest 43 = .ok (.ldiv, 1) := by decide +kernel
theorem dX12_lowest_44 : decode cX12_lowest 44 = .ok (.lreturn, 1) := by decide +kernel
set_option maxRecDepth 100000 in
set_option maxHeartbeats 4000000 in
theorem s_lowest (l : Launch) (g : zG) (h : Hp) (a b : Nat) (q : Int32) (ha : a < 2 ^ 62) (hb : b < 2 ^ 62) (hp : 0 < a ∨ 0 < b) : Sp l g yX12_lowest cX12_lowest 11 (some .long) (rmz 1) [.long (lN a), .long (lN b), .int q] (h) (zJ fun r h' => r = lowL a b q ∧ h' = h) := by
  refine Sp.of [some (.long (lN a)), none, some (.long (lN b)), none, some (.int q), none, none, none, none, none, none] (by decide) (Nat.le_of_ble_eq_true rfl) rfl rfl ?_
  rintro X rfl hr rfl B
  show AW X 0 0 0 _ _ _ _
  have lp : ∀ (f x y : Nat) (o1 : Option Value), y < f → Nat.gcd x y = Nat.gcd a b → x < 2 ^ 62 → y < 2 ^ 62 → 0 < x ∨ 0 < y → AW X 0 0 6 [some (.long (lN a)), none, some (.long (lN b)), none, some (.int q), some (.long (lN x)), none, some (.long (lN y)), none, o1, none] [] h (zJ fun r h' => r = lowL a b q ∧ h' = h) := by
    intro f
    induction f with
    | zero => intros; omega
    | succ f ih =>
      intro x y o1 hf hxy hx hy hp
      refine aw_lload B dX12_lowest_6 rfl ?_
      refine aw_lconst B 0 (by decide) dX12_lowest_8 ?_
      refine aw_lcmp B dX12_lowest_9 ?_
      refine aw_if_eq B 31 dX12_lowest_10 (fun c10 => ?_) (fun c10 => ?_)
      · have hx0 : 0 < x := by
          have hy0 : y = 0 := (pk_lEQ (b := 0) (by omega) (by decide)).mp (lcmp0.mp c10)
          omega
        refine aw_iload B dX12_lowest_31 rfl ?_
        refine aw_if_ne B 40 dX12_lowest_33 (fun c33 => ?_) (fun c33 => ?_)
        · refine aw_lload_n B 2 rfl dX12_lowest_40 rfl ?_
          refine aw_lload B dX12_lowest_41 rfl ?_
          refine aw_ldiv B (fun z => by have := (pk_lEQ (b := 0) (by omega) (by decide)).mp z; omega) dX12_lowest_43 ?_
          refine aw_lret B rfl dX12_lowest_44 ?_
          have hy0 : y = 0 := (pk_lEQ (b := 0) (by omega) (by decide)).mp (lcmp0.mp c10)
          have hg : x = Nat.gcd a b := by rw [← hxy, hy0, Nat.gcd_zero_right]
          exact ⟨_, rfl, by rw [pk_lDiv (by omega) (by omega) (by omega)]; unfold lowL; rw [if_neg c33, hg], rfl⟩
        · refine aw_lload_n B 0 rfl dX12_lowest_36 rfl ?_
          refine aw_goto B 41 dX12_lowest_37 ?_
          refine aw_lload B dX12_lowest_41 rfl ?_
          refine aw_ldiv B (fun z => by have := (pk_lEQ (b := 0) (by omega) (by decide)).mp z; omega) dX12_lowest_43 ?_
          refine aw_lret B rfl dX12_lowest_44 ?_
          have hy0 : y = 0 := (pk_lEQ (b := 0) (by omega) (by decide)).mp (lcmp0.mp c10)
          have hg : x = Nat.gcd a b := by rw [← hxy, hy0, Nat.gcd_zero_right]
          exact ⟨_, rfl, by rw [pk_lDiv (by omega) (by omega) (by omega)]; unfold lowL; rw [if_pos c33, hg], rfl⟩
      · have hy0 : 0 < y := Nat.pos_of_ne_zero fun z => c10 (lcmp0.mpr (by rw [z]; rfl))
        refine aw_lload B dX12_lowest_13 rfl ?_
        refine aw_lload B dX12_lowest_15 rfl ?_
        refine aw_lrem B (fun z => by have := (pk_lEQ (b := 0) (by omega) (by decide)).mp z; omega) dX12_lowest_17 ?_
        refine aw_lstore9 B dX12_lowest_18 ?_
        refine aw_lload B dX12_lowest_20 rfl ?_
        refine aw_lstore5 B dX12_lowest_22 ?_
        refine aw_lload B dX12_lowest_24 rfl ?_
        refine aw_lstore7 B dX12_lowest_26 ?_
        refine aw_goto B 6 dX12_lowest_28 ?_
        rw [pk_lRem (by omega) hy0 (by omega)]
        exact AW.weak (lv' := [some (.long (lN a)), none, some (.long (lN b)), none, some (.int q), some (.long (lN y)), none, some (.long (lN (x % y))), none, none, none]) ⟨Or.inr rfl, Or.inr rfl, Or.inr rfl, Or.inr rfl, Or.inr rfl, Or.inr rfl, Or.inr rfl, Or.inr rfl, Or.inr rfl, Or.inl rfl, Or.inr rfl, trivial⟩ (ih y (x % y) none (by have := Nat.mod_lt x hy0; omega) (by rw [← hxy, Nat.gcd_comm x y, Nat.gcd_rec y x, Nat.gcd_comm]) hy (by have := Nat.mod_lt x hy0; omega) (Or.inl hy0))
  refine aw_lload_n B 0 rfl dX12_lowest_0 rfl ?_
  refine aw_lstore5 B dX12_lowest_1 ?_
  refine aw_lload_n B 2 rfl dX12_lowest_3 rfl ?_
  refine aw_lstore7 B dX12_lowest_4 ?_
  exact lp (b + 1) a b none (by omega) rfl ha hb hp
