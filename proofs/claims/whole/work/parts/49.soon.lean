/-- how many hours in a row the shelf has been open by then -/
def runC (T : Nat) (Q : pP) (k v sh a : Nat) : Nat → Nat
  | 0 => 0
  | i + 1 => if oB T Q k v sh (a + i) = true then runC T Q k v sh a i + 1 else 0
theorem run_le {T : Nat} {Q : pP} {k v sh a : Nat} : ∀ i, runC T Q k v sh a i ≤ i
  | 0 => Nat.le_refl _
  | i + 1 => by
    have := run_le (T := T) (Q := Q) (k := k) (v := v) (sh := sh) (a := a) i
    rw [runC]
    split <;> omega
theorem run_g {T : Nat} {Q : pP} {k v sh a : Nat} : ∀ i n, n ≤ i → (n ≤ runC T Q k v sh a i ↔ gB T Q k v sh n (a + (i - n)) = true) := by
  intro i
  induction i with
  | zero =>
    intro n hn
    obtain rfl : n = 0 := by omega
    simp [gB]
  | succ i ih =>
    intro n hn
    cases n with
    | zero => simp [gB]
    | succ m =>
      rw [show i + 1 - (m + 1) = i - m by omega, gB_snoc, show a + (i - m) + m = a + i by omega, runC]
      by_cases ho : oB T Q k v sh (a + i) = true
      · rw [if_pos ho, ho, Bool.and_true, ← ih m (by omega)]
        omega
      · rw [if_neg ho, show oB T Q k v sh (a + i) = false from by simpa using ho, Bool.and_false]
        simp
theorem sFb_skip {T : Nat} {Q : pP} {k v sh need a b0 : Nat} (h60 : b0 + need ≤ 60) (hP : cB T Q k v sh need (a + b0) = true) : ∀ f b, b ≤ b0 → f + b = 61 → (∀ c, b ≤ c → c < b0 → cB T Q k v sh need (a + c) = false) → sFb T Q k v sh need a f b = b0 + need := by
  intro f
  induction f with
  | zero => intro b h1 h2 _; omega
  | succ f ih =>
    intro b h1 h2 h3
    rw [sFb, if_pos (by omega)]
    by_cases hb : b = b0
    · subst hb
      rw [if_pos hP]
    · rw [if_neg (by rw [h3 b (Nat.le_refl _) (by omega)]; decide)]
      exact ih (b + 1) (by omega) (by omega) (fun c hc => h3 c (by omega))
theorem sFb_none {T : Nat} {Q : pP} {k v sh need a : Nat} : ∀ f b, (∀ c, b ≤ c → c + need ≤ 60 → cB T Q k v sh need (a + c) = false) → sFb T Q k v sh need a f b = 100000 := by
  intro f
  induction f with
  | zero => intro b _; rfl
  | succ f ih =>
    intro b h
    rw [sFb]
    split
    · rename_i hb
      rw [if_neg (by rw [h b (Nat.le_refl _) hb]; decide)]
      exact ih (b + 1) (fun c hc => h c (by omega))
    · rfl
theorem ne_pos {k v n : Nat} (h1 : 1 ≤ n) (h4 : n ≤ 4) : 1 ≤ p_needs k v n ∧ p_needs k v n ≤ 8 := by
  unfold p_needs
  split
  · omega
  · split
    · split <;> omega
    · split <;> omega
theorem bm_t {w : Bool} (h : ¬ b2 w = 0) : w = true := by
  cases w
  · exact absurd rfl h
  · rfl
theorem bm_f {w : Bool} (h : b2 w = 0) : w = false := by
  cases w
  · rfl
  · exact absurd h (by decide)
set_option maxRecDepth 100000 in
set_option maxHeartbeats 4000000 in
theorem vc_X6_18 {X : zX} {cc : ByteArray} {nL pc : Nat} {nm : String} {ret : Option FieldType} {lv : List (Option Value)} {rest : List Value} {h : Hp} {Ko : Option Value → Hp → Prop} (B : zB X cc nL "LowWater$Reader" nm ret) {d k : Nat} {a v n : Nat} {num : Int32} (hr : zXr X = rmz d) (hdp : 3 ≤ d) (hk : k ≤ 6) (hv : v ≤ 9) (hR : h.2 a = some (.inr (kc k, [.int num, .int (nI v)]))) (h1 : 1 ≤ n) (h4 : n ≤ 4) (hd : decode cc pc = .ok (.invokevirtual 18, 3)) (hw : (rest.map fun v => v.category).sum ≤ 8) (kk : AW X 0 0 (pc + 3) lv (.int (nI (p_needs k v n)) :: rest) h Ko) : AW X 0 0 pc lv (.int (nI n) :: .ref a :: rest) (h) Ko := by
  rcases (show k = 0 ∨ k = 1 ∨ k = 2 ∨ k = 3 ∨ k = 4 ∨ k = 5 ∨ k = 6 by omega) with rfl | rfl | rfl | rfl | rfl | rfl | rfl
  · refine aw_callU B 0 0 (s_hf0 _ _ h a n) co_X6_hoursFor ku_X6_18_X6 hd hR rfl rfl rfl rfl hw (zrm hr (by omega)) (Nat.le_refl _) (Nat.le_refl _) (kI fun r9 h9 hp => ?_)
    obtain ⟨rfl, e9⟩ := hp
    rw [e9]
    exact kk
  · refine aw_callU B 0 0 (s_hf1 _ _ h a n h1 h4) co_X3_hoursFor ku_X6_18_X3 hd hR rfl rfl rfl rfl hw (zrm hr (by omega)) (Nat.le_refl _) (Nat.le_refl _) (kI fun r9 h9 hp => ?_)
    obtain ⟨rfl, e9⟩ := hp
    rw [e9]
    exact kk
  · refine aw_callU B 0 0 (s_hf0 _ _ h a n) co_X6_hoursFor ku_X6_18_X2 hd hR rfl rfl rfl rfl hw (zrm hr (by omega)) (Nat.le_refl _) (Nat.le_refl _) (kI fun r9 h9 hp => ?_)
    obtain ⟨rfl, e9⟩ := hp
    rw [e9]
    exact kk
  · refine aw_callU B 0 0 (s_hf0 _ _ h a n) co_X6_hoursFor ku_X6_18_X8 hd hR rfl rfl rfl rfl hw (zrm hr (by omega)) (Nat.le_refl _) (Nat.le_refl _) (kI fun r9 h9 hp => ?_)
    obtain ⟨rfl, e9⟩ := hp
    rw [e9]
    exact kk
  · refine aw_callU B 0 0 (s_hf4 _ _ h a n v num hR hv h1 h4) co_X5_hoursFor ku_X6_18_X5 hd hR rfl rfl rfl rfl hw (zrm hr (by omega)) (Nat.le_refl _) (Nat.le_refl _) (kI fun r9 h9 hp => ?_)
    obtain ⟨rfl, e9⟩ := hp
    rw [e9]
    exact kk
  · refine aw_callU B 0 0 (s_hf5 _ _ h a n) co_X0_hoursFor ku_X6_18_X0 hd hR rfl rfl rfl rfl hw (zrm hr (by omega)) (Nat.le_refl _) (Nat.le_refl _) (kI fun r9 h9 hp => ?_)
    obtain ⟨rfl, e9⟩ := hp
    rw [e9]
    exact kk
  · refine aw_callU B 0 0 (s_hf0 _ _ h a n) co_X6_hoursFor ku_X6_18_X10 hd hR rfl rfl rfl rfl hw (zrm hr (by omega)) (Nat.le_refl _) (Nat.le_refl _) (kI fun r9 h9 hp => ?_)
    obtain ⟨rfl, e9⟩ := hp
    rw [e9]
    exact kk
set_option maxRecDepth 100000 in
set_option maxHeartbeats 4000000 in
theorem vc_X6_27 {X : zX} {cc : ByteArray} {nL pc : Nat} {nm : String} {ret : Option FieldType} {lv : List (Option Value)} {rest : List Value} {h : Hp} {Ko : Option Value → Hp → Prop} (B : zB X cc nL "LowWater$Reader" nm ret) {d k : Nat} {a v sh : Nat} {num lev : Int32} (hr : zXr X = rmz d) (hdp : 2 ≤ d) (hk : k ≤ 6) (hv : v ≤ 9) (hR : h.2 a = some (.inr (kc k, [.int num, .int (nI v)]))) (hd : decode cc pc = .ok (.invokevirtual 27, 3)) (hw : (rest.map fun v => v.category).sum ≤ 8) (kk : AW X 0 0 (pc + 3) lv (.int (b2 (decide (lev ≤ nI (sh + p_dive k v)))) :: rest) h Ko) : AW X 0 0 pc lv (.int lev :: .int (nI sh) :: .ref a :: rest) (h) Ko := by
  rcases (show k = 0 ∨ k = 1 ∨ k = 2 ∨ k = 3 ∨ k = 4 ∨ k = 5 ∨ k = 6 by omega) with rfl | rfl | rfl | rfl | rfl | rfl | rfl
  · refine aw_callU B 0 0 (s_re0 _ _ h a (nI sh) lev) co_X6_reaches ku_X6_27_X6 hd hR rfl rfl rfl rfl hw (zrm hr (by omega)) (Nat.le_refl _) (Nat.le_refl _) (kI fun r9 h9 hp => ?_)
    obtain ⟨rfl, e9⟩ := hp
    rw [e9]
    exact kk
  · refine aw_callU B 0 0 (s_re0 _ _ h a (nI sh) lev) co_X6_reaches ku_X6_27_X3 hd hR rfl rfl rfl rfl hw (zrm hr (by omega)) (Nat.le_refl _) (Nat.le_refl _) (kI fun r9 h9 hp => ?_)
    obtain ⟨rfl, e9⟩ := hp
    rw [e9]
    exact kk
  · refine aw_callU B 0 0 (s_re2 _ _ h a 2 sh v lev num fr_X2_11_2 hR hv) co_X2_reaches ku_X6_27_X2 hd hR rfl rfl rfl rfl hw (zrm hr (by omega)) (Nat.le_refl _) (Nat.le_refl _) (kI fun r9 h9 hp => ?_)
    obtain ⟨rfl, e9⟩ := hp
    rw [e9]
    exact kk
  · refine aw_callU B 0 0 (s_re0 _ _ h a (nI sh) lev) co_X6_reaches ku_X6_27_X8 hd hR rfl rfl rfl rfl hw (zrm hr (by omega)) (Nat.le_refl _) (Nat.le_refl _) (kI fun r9 h9 hp => ?_)
    obtain ⟨rfl, e9⟩ := hp
    rw [e9]
    exact kk
  · refine aw_callU B 0 0 (s_re0 _ _ h a (nI sh) lev) co_X6_reaches ku_X6_27_X5 hd hR rfl rfl rfl rfl hw (zrm hr (by omega)) (Nat.le_refl _) (Nat.le_refl _) (kI fun r9 h9 hp => ?_)
    obtain ⟨rfl, e9⟩ := hp
    rw [e9]
    exact kk
  · refine aw_callU B 0 0 (s_re2 _ _ h a 0 sh v lev num fr_X2_11_0 hR hv) co_X2_reaches ku_X6_27_X0 hd hR rfl rfl rfl rfl hw (zrm hr (by omega)) (Nat.le_refl _) (Nat.le_refl _) (kI fun r9 h9 hp => ?_)
    obtain ⟨rfl, e9⟩ := hp
    rw [e9]
    exact kk
  · refine aw_callU B 0 0 (s_re0 _ _ h a (nI sh) lev) co_X6_reaches ku_X6_27_X10 hd hR rfl rfl rfl rfl hw (zrm hr (by omega)) (Nat.le_refl _) (Nat.le_refl _) (kI fun r9 h9 hp => ?_)
    obtain ⟨rfl, e9⟩ := hp
    rw [e9]
    exact kk
set_option maxRecDepth 100000 in
set_option maxHeartbeats 4000000 in
theorem vc_X6_31 {X : zX} {cc : ByteArray} {nL pc : Nat} {nm : String} {ret : Option FieldType} {lv : List (Option Value)} {rest : List Value} {h : Hp} {Ko : Option Value → Hp → Prop} (B : zB X cc nL "LowWater$Reader" nm ret) {d k : Nat} {a v w tm : Nat} {num : Int32} {Q : pP} (hr : zXr X = rmz d) (hdp : 5 ≤ d) (hk : k ≤ 6) (hv : v ≤ 9) (hR : h.2 a = some (.inr (kc k, [.int num, .int (nI v)]))) (ht : tm < 2 ^ 30) (hC : caveI (zXg X) h w Q) (hd : decode cc pc = .ok (.invokevirtual 31, 3)) (hw : (rest.map fun v => v.category).sum ≤ 8) (kk : ∀ h', caveI (zXg X) h' w Q → only w (w + 4) h h' → AW X 0 0 (pc + 3) lv (.int (b2 (mBh Q k v tm)) :: rest) h' Ko) : AW X 0 0 pc lv (.int (nI tm) :: .ref w :: .ref a :: rest) (h) Ko := by
  rcases (show k = 0 ∨ k = 1 ∨ k = 2 ∨ k = 3 ∨ k = 4 ∨ k = 5 ∨ k = 6 by omega) with rfl | rfl | rfl | rfl | rfl | rfl | rfl
  · refine aw_callU B 0 0 (s_mb0 _ _ h a w tm) co_X6_mayBegin ku_X6_31_X6 hd hR rfl rfl rfl rfl hw (zrm hr (by omega)) (Nat.le_refl _) (Nat.le_refl _) (kI fun r9 h9 hp => ?_)
    obtain ⟨rfl, e9⟩ := hp
    rw [e9]
    exact kk h hC only.rf
  · refine aw_callU B 0 0 (s_mb0 _ _ h a w tm) co_X6_mayBegin ku_X6_31_X3 hd hR rfl rfl rfl rfl hw (zrm hr (by omega)) (Nat.le_refl _) (Nat.le_refl _) (kI fun r9 h9 hp => ?_)
    obtain ⟨rfl, e9⟩ := hp
    rw [e9]
    exact kk h hC only.rf
  · refine aw_callU B 0 0 (s_mb0 _ _ h a w tm) co_X6_mayBegin ku_X6_31_X2 hd hR rfl rfl rfl rfl hw (zrm hr (by omega)) (Nat.le_refl _) (Nat.le_refl _) (kI fun r9 h9 hp => ?_)
    obtain ⟨rfl, e9⟩ := hp
    rw [e9]
    exact kk h hC only.rf
  · refine aw_callU B 0 0 (s_mb3 _ _ h a 8 w tm v num fr_X8_11_8 hR hv ht) co_X8_mayBegin ku_X6_31_X8 hd hR rfl rfl rfl rfl hw (zrm hr (by omega)) (Nat.le_refl _) (Nat.le_refl _) (kI fun r9 h9 hp => ?_)
    obtain ⟨rfl, e9⟩ := hp
    rw [e9]
    exact kk h hC only.rf
  · refine aw_callU B 0 0 (s_mb0 _ _ h a w tm) co_X6_mayBegin ku_X6_31_X5 hd hR rfl rfl rfl rfl hw (zrm hr (by omega)) (Nat.le_refl _) (Nat.le_refl _) (kI fun r9 h9 hp => ?_)
    obtain ⟨rfl, e9⟩ := hp
    rw [e9]
    exact kk h hC only.rf
  · refine aw_callU B 0 0 (s_mb0 _ _ h a w tm) co_X6_mayBegin ku_X6_31_X0 hd hR rfl rfl rfl rfl hw (zrm hr (by omega)) (Nat.le_refl _) (Nat.le_refl _) (kI fun r9 h9 hp => ?_)
    obtain ⟨rfl, e9⟩ := hp
    rw [e9]
    exact kk h hC only.rf
  · refine aw_callU B 0 0 (s_mb6 _ _ h a w tm v num Q hR hv ht hC) co_X10_mayBegin ku_X6_31_X10 hd hR rfl rfl rfl rfl hw (zrm hr (by omega)) (Nat.le_refl _) (Nat.le_refl _) (kI fun r9 h9 hp => ?_)
    obtain ⟨rfl, C9, O9⟩ := hp
    exact kk h9 C9 O9
theorem dX6_soonest_0 : decode cX6_soonest 0 = .ok (.aload_n 0, 1) := by decide +kernel
theorem dX6_soonest_1 : decode cX6_soonest 1 = .ok (.iload_n 3, 1) := by decide +kernel
theorem dX6_soonest_2 : decode cX6_soonest 2 = .ok (.invokevirtual 18, 3) := by decide +kernel
theorem dX6_soonest_5 : decode cX6_soonest 5 = .ok (.istore 5, 2) := by decide +kernel
theorem dX6_soonest_7 : decode cX6_soonest 7 = .ok (.iconst 0, 1) := by decide +kernel
theorem dX6_soonest_8 : decode cX6_soonest 8 = .ok (.istore 6, 2) := by decide +kernel
theorem dX6_soonest_10 : decode cX6_soonest 10 = .ok (.iconst 0, 1) := by decide +kernel
theorem dX6_soonest_11 : decode cX6_soonest 11 = .ok (.istore 7, 2) := by decide +kernel
theorem dX6_soonest_13 : decode cX6_soonest 13 = .ok (.iload 7, 2) := by decide +kernel
theorem dX6_soonest_15 : decode cX6_soonest 15 = .ok (.bipush 60, 2) := by decide +kernel
theorem dX6_soonest_17 : decode cX6_soonest 17 = .ok (.if_icmp .ge 66, 3) := by decide +kernel
theorem dX6_soonest_20 : decode cX6_soonest 20 = .ok (.aload_n 0, 1) := by decide +kernel
theorem dX6_soonest_21 : decode cX6_soonest 21 = .ok (.iload_n 2, 1) := by decide +kernel
theorem dX6_soonest_22 : decode cX6_soonest 22 = .ok (.aload_n 1, 1) := by decide +kernel
theorem dX6_soonest_23 : decode cX6_soonest 23 = .ok (.iload 4, 2) := by decide +kernel
theorem dX6_soonest_25 : decode cX6_soonest 25 = .ok (.iload 7, 2) := by decide +kernel
theorem dX6_soonest_27 : decode cX6_soonest 27 = .ok (.iadd, 1) := by decide +kernel
theorem dX6_soonest_28 : decode cX6_soonest 28 = .ok (.invokevirtual 22, 3) := by decide +kernel
theorem dX6_soonest_31 : decode cX6_soonest 31 = .ok (.invokevirtual 27, 3) := by decide +kernel
theorem dX6_soonest_34 : decode cX6_soonest 34 = .ok (.ifCond .eq 10, 3) := by decide +kernel
theorem dX6_soonest_37 : decode cX6_soonest 37 = .ok (.iload 6, 2) := by decide +kernel
theorem dX6_soonest_39 : decode cX6_soonest 39 = .ok (.iconst 1, 1) := by decide +kernel
theorem dX6_soonest_40 : decode cX6_soonest 40 = .ok (.iadd, 1) := by decide +kernel
theorem dX6_soonest_41 : decode cX6_soonest 41 = .ok (.goto 4, 3) := by decide +kernel
theorem dX6_soonest_44 : decode cX6_soonest 44 = .ok (.iconst 0, 1) := by decide +kernel
theorem dX6_soonest_45 : decode cX6_soonest 45 = .ok (.istore 6, 2) := by decide +kernel
theorem dX6_soonest_47 : decode cX6_soonest 47 = .ok (.iload 6, 2) := by decide +kernel
theorem dX6_soonest_49 : decode cX6_soonest 49 = .ok (.iload 5, 2) := by decide +kernel
theorem dX6_soonest_51 : decode cX6_soonest 51 = .ok (.if_icmp .lt 26, 3) := by decide +kernel
theorem dX6_soonest_54 : decode cX6_soonest 54 = .ok (.aload_n 0, 1) := by decide +kernel
theorem dX6_soonest_55 : decode cX6_soonest 55 = .ok (.aload_n 1, 1) := by decide +kernel
theorem dX6_soonest_56 : decode cX6_soonest 56 = .ok (.iload 4, 2) := by decide +kernel
theorem dX6_soonest_58 : decode cX6_soonest 58 = .ok (.iload 7, 2) := by decide +kernel
theorem dX6_soonest_60 : decode cX6_soonest 60 = .ok (.iadd, 1) := by decide +kernel
theorem dX6_soonest_61 : decode cX6_soonest 61 = .ok (.iconst 1, 1) := by decide +kernel
theorem dX6_soonest_62 : decode cX6_soonest 62 = .ok (.iadd, 1) := by decide +kernel
theorem dX6_soonest_63 : decode cX6_soonest 63 = .ok (.iload 5, 2) := by decide +kernel
theorem dX6_soonest_65 : decode cX6_soonest 65 = .ok (.isub, 1) := by decide +kernel
theorem dX6_soonest_66 : decode cX6_soonest 66 = .ok (.invokevirtual 31, 3) := by decide +kernel
theorem dX6_soonest_69 : decode cX6_soonest 69 = .ok (.ifCond .eq 8, 3) := by decide +kernel
theorem dX6_soonest_72 : decode cX6_soonest 72 = .ok (.iload 7, 2) := by decide +kernel
theorem dX6_soonest_74 : decode cX6_soonest 74 = .ok (.iconst 1, 1) := by decide +kernel
theorem dX6_soonest_75 : decode cX6_soonest 75 = .ok (.iadd, 1) := by decide +kernel
theorem dX6_soonest_76 : decode cX6_soonest 76 = .ok (.ireturn, 1) := by decide +kernel
theorem dX6_soonest_77 : decode cX6_soonest 77 = .ok (.iinc 7 1, 3) := by decide +kernel
theorem dX6_soonest_80 : decode cX6_soonest 80 = .ok (.goto (-67), 3) := by decide +kernel
theorem dX6_soonest_83 : decode cX6_soonest 83 = .ok (.bipush (-5), 2) := by decide +kernel
theorem dX6_soonest_85 : decode cX6_soonest 85 = .ok (.ireturn, 1) := by decide +kernel
set_option maxRecDepth 100000 in
set_option maxHeartbeats 4000000 in
theorem s_soonest (l : Launch) (g : zG) (h : Hp) (a w k v sh n T a0 : Nat) (num : Int32) (Q : pP) (hk : k ≤ 6) (hv : v ≤ 9) (hsh : sh ≤ 8) (h1 : 1 ≤ n) (h4 : n ≤ 4) (hT : T + a0 ≤ 20000) (hR : h.2 a = some (.inr (kc k, [.int num, .int (nI v)]))) (ha : ¬ (w ≤ a ∧ a < w + 4)) (hC : caveI g h w Q) : Sp l g yX6_soonest cX6_soonest 8 (some .int) (rmz 5) [.ref a, .ref w, .int (nI sh), .int (nI n), .int (nI (T + a0))] (h) (zI fun r h' => r = orN (sF T Q k v sh (p_needs k v n) a0) ∧ caveI g h' w Q ∧ only w (w + 4) h h') := by
  refine Sp.of [some (.ref a), some (.ref w), some (.int (nI sh)), some (.int (nI n)), some (.int (nI (T + a0))), none, none, none] (by decide) (Nat.le_of_ble_eq_true rfl) rfl rfl ?_
  rintro X rfl hr rfl B
  show AW X 0 0 0 _ _ _ _
  obtain ⟨n1, n8⟩ := ne_pos (k := k) (v := v) h1 h4
  have lp : ∀ (f i u : Nat) (h1 : Hp), i + f = 60 → u = runC T Q k v sh a0 i → h1.2 a = some (.inr (kc k, [.int num, .int (nI v)])) → caveI (zXg X) h1 w Q → only w (w + 4) h h1 → (∀ b, b + (p_needs k v n) ≤ i → cB T Q k v sh (p_needs k v n) (a0 + b) = false) → AW X 0 0 13 [some (.ref a), some (.ref w), some (.int (nI sh)), some (.int (nI n)), some (.int (nI (T + a0))), some (.int (nI (p_needs k v n))), some (.int (nI u)), some (.int (nI i))] [] h1 (zI fun r h' => r = orN (sF T Q k v sh (p_needs k v n) a0) ∧ caveI (zXg X) h' w Q ∧ only w (w + 4) h h') := by
    intro f
    induction f with
    | zero =>
      intro i u h1 hi hu hR1 hC1 hO1 hno
      obtain rfl : i = 60 := by omega
      refine aw_iload B dX6_soonest_13 rfl ?_
      refine aw_bipush B 60 (by decide) dX6_soonest_15 ?_
      refine aw_icmp_ge B 83 dX6_soonest_17 (fun c17 => ?_) (fun c17 => absurd (by decide) c17)
      refine aw_bipush B (-5) (by decide) dX6_soonest_83 ?_
      refine aw_iret B rfl rfl dX6_soonest_85 ?_
      refine ⟨_, rfl, ?_, hC1, hO1⟩
      unfold sF
      rw [sFb_none 61 0 (fun c _ hc => hno c hc)]
      rfl
    | succ f ih =>
      intro i u h1 hi hu hR1 hC1 hO1 hno
      have hur := run_le (T := T) (Q := Q) (k := k) (v := v) (sh := sh) (a := a0) i
      refine aw_iload B dX6_soonest_13 rfl ?_
      refine aw_bipush B 60 (by decide) dX6_soonest_15 ?_
      refine aw_icmp_ge B 83 dX6_soonest_17 (fun c17 => absurd c17 (Int32.not_le.mpr (show nI i < nI 60 from nI_lt (by omega) (by decide)))) (fun c17 => ?_)
      refine aw_aload_n B 0 rfl dX6_soonest_20 rfl ?_
      refine aw_iload_n B 2 rfl dX6_soonest_21 rfl ?_
      refine aw_aload_n B 1 rfl dX6_soonest_22 rfl ?_
      refine aw_iload B dX6_soonest_23 rfl ?_
      refine aw_iload B dX6_soonest_25 rfl ?_
      refine aw_iadd B dX6_soonest_27 ?_
      obtain ⟨f28, o28⟩ := hC1.o
      rw [show nI (T + a0) + nI i = nI (T + (a0 + i)) from by rw [nI_add, Nat.add_assoc]]
      refine aw_callV B 0 0 (s_clevelAt _ _ h1 w (T + (a0 + i)) Q (by omega) hC1) co_X1_levelAt k_X6_22 dX6_soonest_28 o28 rfl rfl rfl rfl (Nat.le_of_ble_eq_true rfl) (zrm hr (by omega)) (Nat.le_refl _) (Nat.le_refl _) (kI fun r28 h28 hp28 => ?_)
      obtain ⟨rfl, C28, O28⟩ := hp28
      have R28 := O28.at ha hR1
      refine vc_X6_27 B hr (by omega) hk hv R28 dX6_soonest_31 (Nat.le_of_ble_eq_true rfl) ?_
      refine aw_if_eq B 44 dX6_soonest_34 (fun c34 => ?_) (fun c34 => ?_)
      · refine aw_iconst B 0 (by decide) dX6_soonest_44 ?_
        refine aw_istore6 B dX6_soonest_45 ?_
        refine aw_iload B dX6_soonest_47 rfl ?_
        refine aw_iload B dX6_soonest_49 rfl ?_
        refine aw_icmp_lt B 77 dX6_soonest_51 (fun c51 => ?_) (fun c51 => absurd (show nI 0 < nI (p_needs k v n) from nI_lt n1 (by omega)) c51)
        refine aw_iinc7 B 1 (by decide) dX6_soonest_77 ?_
        refine aw_goto B 13 dX6_soonest_80 ?_
        rw [nI_1]
        have hru : (0 : Nat) = runC T Q k v sh a0 (i + 1) := by
          rw [runC, if_neg (by rw [show oB T Q k v sh (a0 + i) = false from bm_f c34]; decide)]
        exact ih (i + 1) 0 h28 (by omega) hru R28 C28 (hO1.tr O28) (fun b hb => by
          by_cases hb2 : b + (p_needs k v n) ≤ i
          · exact hno b hb2
          · have eb : b = (i + 1 - (p_needs k v n)) := by omega
            have hg := run_g (T := T) (Q := Q) (k := k) (v := v) (sh := sh) (a := a0) (i + 1) (p_needs k v n) (by omega)
            unfold cB
            rw [eb, show gB T Q k v sh (p_needs k v n) (a0 + (i + 1 - (p_needs k v n))) = false from by
              rw [← hru] at hg
              cases hq : gB T Q k v sh (p_needs k v n) (a0 + (i + 1 - (p_needs k v n)))
              · rfl
              · have := hg.mpr hq
                omega, Bool.and_false])
      · refine aw_iload B dX6_soonest_37 rfl ?_
        refine aw_iconst B 1 (by decide) dX6_soonest_39 ?_
        refine aw_iadd B dX6_soonest_40 ?_
        refine aw_goto B 45 dX6_soonest_41 ?_
        refine aw_istore6 B dX6_soonest_45 ?_
        rw [nI_1]
        refine aw_iload B dX6_soonest_47 rfl ?_
        refine aw_iload B dX6_soonest_49 rfl ?_
        refine aw_icmp_lt B 77 dX6_soonest_51 (fun c51 => ?_) (fun c51 => ?_)
        · refine aw_iinc7 B 1 (by decide) dX6_soonest_77 ?_
          refine aw_goto B 13 dX6_soonest_80 ?_
          rw [nI_1]
          have hru : u + 1 = runC T Q k v sh a0 (i + 1) := by
            rw [runC, if_pos (show oB T Q k v sh (a0 + i) = true from bm_t c34), hu]
          have hlt : u + 1 < (p_needs k v n) := (nI_ltI (by omega) (by omega)).mp c51
          exact ih (i + 1) (u + 1) h28 (by omega) hru R28 C28 (hO1.tr O28) (fun b hb => by
            by_cases hb2 : b + (p_needs k v n) ≤ i
            · exact hno b hb2
            · have eb : b = (i + 1 - (p_needs k v n)) := by omega
              have hg := run_g (T := T) (Q := Q) (k := k) (v := v) (sh := sh) (a := a0) (i + 1) (p_needs k v n) (by omega)
              unfold cB
              rw [eb, show gB T Q k v sh (p_needs k v n) (a0 + (i + 1 - (p_needs k v n))) = false from by
                rw [← hru] at hg
                cases hq : gB T Q k v sh (p_needs k v n) (a0 + (i + 1 - (p_needs k v n)))
                · rfl
                · have := hg.mpr hq
                  omega, Bool.and_false])
        · refine aw_aload_n B 0 rfl dX6_soonest_54 rfl ?_
          refine aw_aload_n B 1 rfl dX6_soonest_55 rfl ?_
          refine aw_iload B dX6_soonest_56 rfl ?_
          refine aw_iload B dX6_soonest_58 rfl ?_
          refine aw_iadd B dX6_soonest_60 ?_
          refine aw_iconst B 1 (by decide) dX6_soonest_61 ?_
          refine aw_iadd B dX6_soonest_62 ?_
          refine aw_iload B dX6_soonest_63 rfl ?_
          refine aw_isub B dX6_soonest_65 ?_
          have hge : (p_needs k v n) ≤ u + 1 := Nat.not_lt.mp fun z => c51 (nI_lt z (by omega))
          rw [show nI (T + a0) + nI i + 1 - nI (p_needs k v n) = nI (T + (a0 + (i + 1 - (p_needs k v n)))) from by
            rw [nI_add, nI_1, pk_sub (by omega), show T + a0 + i + 1 - (p_needs k v n) = T + (a0 + (i + 1 - (p_needs k v n))) by omega]]
          refine vc_X6_31 (tm := T + (a0 + (i + 1 - (p_needs k v n)))) B hr (by omega) hk hv R28 (by omega) C28 dX6_soonest_66 (Nat.le_of_ble_eq_true rfl) (fun h66 C66 O66 => ?_)
          refine aw_if_eq B 77 dX6_soonest_69 (fun c69 => ?_) (fun c69 => ?_)
          · refine aw_iinc7 B 1 (by decide) dX6_soonest_77 ?_
            refine aw_goto B 13 dX6_soonest_80 ?_
            rw [nI_1]
            have hru : u + 1 = runC T Q k v sh a0 (i + 1) := by
              rw [runC, if_pos (show oB T Q k v sh (a0 + i) = true from bm_t c34), hu]
            exact ih (i + 1) (u + 1) h66 (by omega) hru (O66.at ha R28) C66 (hO1.tr (O28.tr O66)) (fun b hb => by
              by_cases hb2 : b + (p_needs k v n) ≤ i
              · exact hno b hb2
              · have eb : b = (i + 1 - (p_needs k v n)) := by omega
                unfold cB
                rw [eb, mB_h, show mBh Q k v (T + (a0 + (i + 1 - (p_needs k v n)))) = false from bm_f c69, Bool.false_and])
          · refine aw_iload B dX6_soonest_72 rfl ?_
            refine aw_iconst B 1 (by decide) dX6_soonest_74 ?_
            refine aw_iadd B dX6_soonest_75 ?_
            refine aw_iret B rfl rfl dX6_soonest_76 ?_
            refine ⟨_, rfl, ?_, C66, hO1.tr (O28.tr O66)⟩
            have hru : u + 1 = runC T Q k v sh a0 (i + 1) := by
              rw [runC, if_pos (show oB T Q k v sh (a0 + i) = true from bm_t c34), hu]
            have hge : (p_needs k v n) ≤ u + 1 := Nat.not_lt.mp fun z => c51 (nI_lt z (by omega))
            have hg := run_g (T := T) (Q := Q) (k := k) (v := v) (sh := sh) (a := a0) (i + 1) (p_needs k v n) (by omega)
            rw [← hru] at hg
            have hcb : cB T Q k v sh (p_needs k v n) (a0 + (i + 1 - (p_needs k v n))) = true := by
              unfold cB
              rw [mB_h, show mBh Q k v (T + (a0 + (i + 1 - (p_needs k v n)))) = true from bm_t c69, hg.mp hge, Bool.and_self]
            unfold sF
            rw [sFb_skip (b0 := (i + 1 - (p_needs k v n))) (by omega) hcb 61 0 (Nat.zero_le _) rfl (fun c _ hc => hno c (by omega)), show (i + 1 - (p_needs k v n)) + (p_needs k v n) = i + 1 by omega, nI_1]
            unfold orN
            exact (if_pos (show nI (i + 1) < (100000 : Int32) from (show nI (i + 1) < nI 100000 from nI_lt (by omega) (by decide)))).symm
  refine aw_aload_n B 0 rfl dX6_soonest_0 rfl ?_
  refine aw_iload_n B 3 rfl dX6_soonest_1 rfl ?_
  refine vc_X6_18 B hr (by omega) hk hv hR h1 h4 dX6_soonest_2 (Nat.le_of_ble_eq_true rfl) ?_
  refine aw_istore5 B dX6_soonest_5 ?_
  refine aw_iconst B 0 (by decide) dX6_soonest_7 ?_
  refine aw_istore6 B dX6_soonest_8 ?_
  refine aw_iconst B 0 (by decide) dX6_soonest_10 ?_
  refine aw_istore7 B dX6_soonest_11 ?_
  exact lp 60 0 0 h rfl rfl hR hC only.rf (fun b hb => by omega)
theorem dX6_reads_0 : decode cX6_reads 0 = .ok (.aload_n 0, 1) := by decide +kernel
theorem dX6_reads_1 : decode cX6_reads 1 = .ok (.iload_n 3, 1) := by decide +kernel
theorem dX6_reads_2 : decode cX6_reads 2 = .ok (.invokevirtual 18, 3) := by decide +kernel
theorem dX6_reads_5 : decode cX6_reads 5 = .ok (.istore 5, 2) := by decide +kernel
theorem dX6_reads_7 : decode cX6_reads 7 = .ok (.iconst 0, 1) := by decide +kernel
theorem dX6_reads_8 : decode cX6_reads 8 = .ok (.istore 6, 2) := by decide +kernel
theorem dX6_reads_10 : decode cX6_reads 10 = .ok (.iload 6, 2) := by decide +kernel
theorem dX6_reads_12 : decode cX6_reads 12 = .ok (.iload 5, 2) := by decide +kernel
theorem dX6_reads_14 : decode cX6_reads 14 = .ok (.if_icmp .ge 28, 3) := by decide +kernel
theorem dX6_reads_17 : decode cX6_reads 17 = .ok (.aload_n 0, 1) := by decide +kernel
theorem dX6_reads_18 : decode cX6_reads 18 = .ok (.iload_n 2, 1) := by decide +kernel
theorem dX6_reads_19 : decode cX6_reads 19 = .ok (.aload_n 1, 1) := by decide +kernel
theorem dX6_reads_20 : decode cX6_reads 20 = .ok (.iload 4, 2) := by decide +kernel
theorem dX6_reads_22 : decode cX6_reads 22 = .ok (.iload 6, 2) := by decide +kernel
theorem dX6_reads_24 : decode cX6_reads 24 = .ok (.iadd, 1) := by decide +kernel
theorem dX6_reads_25 : decode cX6_reads 25 = .ok (.invokevirtual 22, 3) := by decide +kernel
theorem dX6_reads_28 : decode cX6_reads 28 = .ok (.invokevirtual 27, 3) := by decide +kernel
theorem dX6_reads_31 : decode cX6_reads 31 = .ok (.ifCond .ne 5, 3) := by decide +kernel
theorem dX6_reads_34 : decode cX6_reads 34 = .ok (.iconst 0, 1) := by decide +kernel
theorem dX6_reads_35 : decode cX6_reads 35 = .ok (.ireturn, 1) := by decide +kernel
theorem dX6_reads_36 : decode cX6_reads 36 = .ok (.iinc 6 1, 3) := by decide +kernel
theorem dX6_reads_39 : decode cX6_reads 39 = .ok (.goto (-29), 3) := by decide +kernel
theorem dX6_reads_42 : decode cX6_reads 42 = .ok (.aload_n 0, 1) := by decide +kernel
theorem dX6_reads_43 : decode cX6_reads 43 = .ok (.aload_n 1, 1) := by decide +kernel
theorem dX6_reads_44 : decode cX6_reads 44 = .ok (.iload 4, 2) := by decide +kernel
theorem dX6_reads_46 : decode cX6_reads 46 = .ok (.invokevirtual 31, 3) := by decide +kernel
theorem dX6_reads_49 : decode cX6_reads 49 = .ok (.ireturn, 1) := by decide +kernel
set_option maxRecDepth 100000 in
set_option maxHeartbeats 4000000 in
theorem s_readsC (l : Launch) (g : zG) (h : Hp) (a w k v sh n T a0 : Nat) (num : Int32) (Q : pP) (hk : k ≤ 6) (hv : v ≤ 9) (hsh : sh ≤ 8) (h1 : 1 ≤ n) (h4 : n ≤ 4) (hT : T + a0 ≤ 20000) (hR : h.2 a = some (.inr (kc k, [.int num, .int (nI v)]))) (ha : ¬ (w ≤ a ∧ a < w + 4)) (hC : caveI g h w Q) : Sp l g yX6_reads cX6_reads 7 (some .boolean) (rmz 5) [.ref a, .ref w, .int (nI sh), .int (nI n), .int (nI (T + a0))] (h) (zI fun r h' => r = b2 (cB T Q k v sh (p_needs k v n) a0) ∧ caveI g h' w Q ∧ only w (w + 4) h h') := by
  refine Sp.of [some (.ref a), some (.ref w), some (.int (nI sh)), some (.int (nI n)), some (.int (nI (T + a0))), none, none] (by decide) (Nat.le_of_ble_eq_true rfl) rfl rfl ?_
  rintro X rfl hr rfl B
  show AW X 0 0 0 _ _ _ _
  obtain ⟨n1, n8⟩ := ne_pos (k := k) (v := v) h1 h4
  have lp : ∀ (f i : Nat) (h1 : Hp), i + f = (p_needs k v n) → h1.2 a = some (.inr (kc k, [.int num, .int (nI v)])) → caveI (zXg X) h1 w Q → only w (w + 4) h h1 → gB T Q k v sh i a0 = true → AW X 0 0 10 [some (.ref a), some (.ref w), some (.int (nI sh)), some (.int (nI n)), some (.int (nI (T + a0))), some (.int (nI (p_needs k v n))), some (.int (nI i))] [] h1 (zI fun r h' => r = b2 (cB T Q k v sh (p_needs k v n) a0) ∧ caveI (zXg X) h' w Q ∧ only w (w + 4) h h') := by
    intro f
    induction f with
    | zero =>
      intro i h1 hi hR1 hC1 hO1 hg
      obtain rfl : i = (p_needs k v n) := by omega
      refine aw_iload B dX6_reads_10 rfl ?_
      refine aw_iload B dX6_reads_12 rfl ?_
      refine aw_icmp_ge B 42 dX6_reads_14 (fun c14 => ?_) (fun c14 => absurd (Int32.le_refl _) c14)
      refine aw_aload_n B 0 rfl dX6_reads_42 rfl ?_
      refine aw_aload_n B 1 rfl dX6_reads_43 rfl ?_
      refine aw_iload B dX6_reads_44 rfl ?_
      refine vc_X6_31 (tm := T + a0) B hr (by omega) hk hv hR1 (by omega) hC1 dX6_reads_46 (Nat.le_of_ble_eq_true rfl) (fun h46 C46 O46 => ?_)
      refine aw_iret B rfl (by cases mBh Q k v (T + a0) <;> rfl) dX6_reads_49 ?_
      refine ⟨_, rfl, ?_, C46, hO1.tr O46⟩
      unfold cB
      rw [hg, Bool.and_true, mB_h]
    | succ f ih =>
      intro i h1 hi hR1 hC1 hO1 hg
      refine aw_iload B dX6_reads_10 rfl ?_
      refine aw_iload B dX6_reads_12 rfl ?_
      refine aw_icmp_ge B 42 dX6_reads_14 (fun c14 => absurd c14 (Int32.not_le.mpr (nI_lt (by omega) (by omega)))) (fun c14 => ?_)
      refine aw_aload_n B 0 rfl dX6_reads_17 rfl ?_
      refine aw_iload_n B 2 rfl dX6_reads_18 rfl ?_
      refine aw_aload_n B 1 rfl dX6_reads_19 rfl ?_
      refine aw_iload B dX6_reads_20 rfl ?_
      refine aw_iload B dX6_reads_22 rfl ?_
      refine aw_iadd B dX6_reads_24 ?_
      obtain ⟨f25, o25⟩ := hC1.o
      rw [show nI (T + a0) + nI i = nI (T + (a0 + i)) from by rw [nI_add, Nat.add_assoc]]
      refine aw_callV B 0 0 (s_clevelAt _ _ h1 w (T + (a0 + i)) Q (by omega) hC1) co_X1_levelAt k_X6_22 dX6_reads_25 o25 rfl rfl rfl rfl (Nat.le_of_ble_eq_true rfl) (zrm hr (by omega)) (Nat.le_refl _) (Nat.le_refl _) (kI fun r25 h25 hp25 => ?_)
      obtain ⟨rfl, C25, O25⟩ := hp25
      have R25 := O25.at ha hR1
      refine vc_X6_27 B hr (by omega) hk hv R25 dX6_reads_28 (Nat.le_of_ble_eq_true rfl) ?_
      refine aw_if_ne B 36 dX6_reads_31 (fun c31 => ?_) (fun c31 => ?_)
      · refine aw_iinc6 B 1 (by decide) dX6_reads_36 ?_
        refine aw_goto B 10 dX6_reads_39 ?_
        rw [nI_1]
        exact ih (i + 1) h25 (by omega) R25 C25 (hO1.tr O25) (by rw [gB_snoc, hg, show oB T Q k v sh (a0 + i) = true from bm_t c31]; rfl)
      · refine aw_iconst B 0 (by decide) dX6_reads_34 ?_
        refine aw_iret B rfl rfl dX6_reads_35 ?_
        refine ⟨_, rfl, ?_, C25, hO1.tr O25⟩
        unfold cB
        rw [gB_false (h := i + 1) (by omega) (show (mB T Q k v a0 && gB T Q k v sh (i + 1) a0) = false from by rw [gB_snoc, show oB T Q k v sh (a0 + i) = false from bm_f c31, Bool.and_false, Bool.and_false])]
        rfl
  refine aw_aload_n B 0 rfl dX6_reads_0 rfl ?_
  refine aw_iload_n B 3 rfl dX6_reads_1 rfl ?_
  refine vc_X6_18 B hr (by omega) hk hv hR h1 h4 dX6_reads_2 (Nat.le_of_ble_eq_true rfl) ?_
  refine aw_istore5 B dX6_reads_5 ?_
  refine aw_iconst B 0 (by decide) dX6_reads_7 ?_
  refine aw_istore6 B dX6_reads_8 ?_
  exact lp (p_needs k v n) 0 h (Nat.zero_add _) hR hC only.rf rfl
