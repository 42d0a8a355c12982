set_option maxRecDepth 100000 in
set_option maxHeartbeats 4000000 in
theorem vc_X11_220 {X : zX} {cc : ByteArray} {nL pc : Nat} {nm : String} {ret : Option FieldType} {lv : List (Option Value)} {rest : List Value} {h : Hp} {Ko : Option Value → Hp → Prop} (B : zB X cc nL "LowWater" nm ret) {d k : Nat} {a t n : Nat} {f : Nat → Int32} {num v x : Int32} (hr : zXr X = rmz d) (hdp : 4 ≤ d) (hk : k ≤ 6) (hR : h.2 a = some (.inr (kc k, [.int num, .int v]))) (ha : ¬ (t ≤ a ∧ a < t + 2)) (hn : n < 2 ^ 19) (hd : decode cc pc = .ok (.invokevirtual 220, 3)) (hw : (rest.map fun v => v.category).sum ≤ 8) (kk : AW X 0 0 (pc + 3) lv (.int (ac_reads (nI k) num x).1 :: rest) (hW (zXg X) h t 20 (p_log n f (ac_reads (nI k) num x).2) (nI (n + (ac_reads (nI k) num x).2.length))) Ko) : AW X 0 0 pc lv (.ref t :: .int x :: .ref a :: rest) (hW (zXg X) h t 20 f (nI n)) Ko := by
  rcases (show k = 0 ∨ k = 1 ∨ k = 2 ∨ k = 3 ∨ k = 4 ∨ k = 5 ∨ k = 6 by omega) with rfl | rfl | rfl | rfl | rfl | rfl | rfl
  · refine aw_callU B 0 0 (s_bR0 _ _ h a 6 t n f num v x fr_X6_9_6 hR ha (by omega)) co_X6_bodyOfReads ku_X11_220_X6 hd ((hW_n ha).trans hR) rfl rfl rfl rfl hw (zrm hr (by omega)) (Nat.le_refl _) (Nat.le_refl _) (kI fun r9 h9 hp => ?_)
    obtain ⟨rfl, rfl⟩ := hp
    rw [show ac_reads (nI 0) num x = ac_plain num x from by unfold ac_reads; rw [if_pos (by decide), if_neg (by decide)]] at kk
    exact kk
  · refine aw_callU B 0 0 (s_bR1 _ _ h a 3 t n f num v x _ fr_X6_9_3 hR rfl ha hn) co_X3_bodyOfReads ku_X11_220_X3 hd ((hW_n ha).trans hR) rfl rfl rfl rfl hw (zrm hr (by omega)) (Nat.le_refl _) (Nat.le_refl _) (kI fun r9 h9 hp => ?_)
    obtain ⟨rfl, rfl⟩ := hp
    rw [show ac_reads (nI 1) num x = ((ac_plain num (x * 3)).1, 11 :: (ac_plain num (x * 3)).2) from by unfold ac_reads; rw [if_neg (by decide)]] at kk
    exact kk
  · refine aw_callU B 0 0 (s_bR0 _ _ h a 2 t n f num v x fr_X6_9_2 hR ha (by omega)) co_X6_bodyOfReads ku_X11_220_X2 hd ((hW_n ha).trans hR) rfl rfl rfl rfl hw (zrm hr (by omega)) (Nat.le_refl _) (Nat.le_refl _) (kI fun r9 h9 hp => ?_)
    obtain ⟨rfl, rfl⟩ := hp
    rw [show ac_reads (nI 2) num x = ac_plain num x from by unfold ac_reads; rw [if_pos (by decide), if_neg (by decide)]] at kk
    exact kk
  · refine aw_callU B 0 0 (s_bR0 _ _ h a 8 t n f num v x fr_X6_9_8 hR ha (by omega)) co_X6_bodyOfReads ku_X11_220_X8 hd ((hW_n ha).trans hR) rfl rfl rfl rfl hw (zrm hr (by omega)) (Nat.le_refl _) (Nat.le_refl _) (kI fun r9 h9 hp => ?_)
    obtain ⟨rfl, rfl⟩ := hp
    rw [show ac_reads (nI 3) num x = ac_plain num x from by unfold ac_reads; rw [if_pos (by decide), if_neg (by decide)]] at kk
    exact kk
  · refine aw_callU B 0 0 (s_bR1 _ _ h a 5 t n f num v x _ fr_X6_9_5 hR rfl ha hn) co_X3_bodyOfReads ku_X11_220_X5 hd ((hW_n ha).trans hR) rfl rfl rfl rfl hw (zrm hr (by omega)) (Nat.le_refl _) (Nat.le_refl _) (kI fun r9 h9 hp => ?_)
    obtain ⟨rfl, rfl⟩ := hp
    rw [show ac_reads (nI 4) num x = ((ac_plain num (x * 3)).1, 11 :: (ac_plain num (x * 3)).2) from by unfold ac_reads; rw [if_neg (by decide)]] at kk
    exact kk
  · refine aw_callU B 0 0 (s_bR5 _ _ h a t n f num v x hR ha hn) co_X0_bodyOfReads ku_X11_220_X0 hd ((hW_n ha).trans hR) rfl rfl rfl rfl hw (zrm hr (by omega)) (Nat.le_refl _) (Nat.le_refl _) (kI fun r9 h9 hp => ?_)
    obtain ⟨rfl, rfl⟩ := hp
    rw [show ac_reads (nI 5) num x = ((ac_plain num x).1 ^^^ num, 51 :: (ac_plain num x).2) from by unfold ac_reads; rw [if_pos (by decide), if_pos (by decide)]] at kk
    exact kk
  · refine aw_callU B 0 0 (s_bR0 _ _ h a 10 t n f num v x fr_X6_9_10 hR ha (by omega)) co_X6_bodyOfReads ku_X11_220_X10 hd ((hW_n ha).trans hR) rfl rfl rfl rfl hw (zrm hr (by omega)) (Nat.le_refl _) (Nat.le_refl _) (kI fun r9 h9 hp => ?_)
    obtain ⟨rfl, rfl⟩ := hp
    rw [show ac_reads (nI 6) num x = ac_plain num x from by unfold ac_reads; rw [if_pos (by decide), if_neg (by decide)]] at kk
    exact kk
set_option maxRecDepth 100000 in
set_option maxHeartbeats 4000000 in
theorem vc_X11_224 {X : zX} {cc : ByteArray} {nL pc : Nat} {nm : String} {ret : Option FieldType} {lv : List (Option Value)} {rest : List Value} {h : Hp} {Ko : Option Value → Hp → Prop} (B : zB X cc nL "LowWater" nm ret) {d k : Nat} {a t n : Nat} {f : Nat → Int32} {num v x : Int32} (hr : zXr X = rmz d) (hdp : 7 ≤ d) (hk : k ≤ 6) (hR : h.2 a = some (.inr (kc k, [.int num, .int v]))) (ha : ¬ (t ≤ a ∧ a < t + 2)) (hn : n < 2 ^ 17) (hd : decode cc pc = .ok (.invokevirtual 224, 3)) (hw : (rest.map fun v => v.category).sum ≤ 8) (kk : AW X 0 0 (pc + 3) lv (.int (ac_waits (nI k) num v x).1 :: rest) (hW (zXg X) h t 20 (p_log n f (ac_waits (nI k) num v x).2) (nI (n + (ac_waits (nI k) num v x).2.length))) Ko) : AW X 0 0 pc lv (.ref t :: .int x :: .ref a :: rest) (hW (zXg X) h t 20 f (nI n)) Ko := by
  rcases (show k = 0 ∨ k = 1 ∨ k = 2 ∨ k = 3 ∨ k = 4 ∨ k = 5 ∨ k = 6 by omega) with rfl | rfl | rfl | rfl | rfl | rfl | rfl
  · refine aw_callU B 0 0 (s_bW0 _ _ h a 0 t n f num v x hk hR ha (by omega)) co_X6_bodyOfWaits ku_X11_224_X6 hd ((hW_n ha).trans hR) rfl rfl rfl rfl hw (zrm hr (by omega)) (Nat.le_refl _) (Nat.le_refl _) (kI fun r9 h9 hp => ?_)
    obtain ⟨rfl, rfl⟩ := hp
    rw [show ac_waits (nI 0) num v x = ac_waitsP (nI 0) num v x from by unfold ac_waits; rw [if_pos (by decide), if_neg (by decide)]] at kk
    exact kk
  · refine aw_callU B 0 0 (s_bW0 _ _ h a 1 t n f num v x hk hR ha (by omega)) co_X6_bodyOfWaits ku_X11_224_X3 hd ((hW_n ha).trans hR) rfl rfl rfl rfl hw (zrm hr (by omega)) (Nat.le_refl _) (Nat.le_refl _) (kI fun r9 h9 hp => ?_)
    obtain ⟨rfl, rfl⟩ := hp
    rw [show ac_waits (nI 1) num v x = ac_waitsP (nI 1) num v x from by unfold ac_waits; rw [if_pos (by decide), if_neg (by decide)]] at kk
    exact kk
  · refine aw_callU B 0 0 (s_bW2 _ _ h a 2 t n f num v x _ hk hR rfl ha (by omega)) co_X2_bodyOfWaits ku_X11_224_X2 hd ((hW_n ha).trans hR) rfl rfl rfl rfl hw (zrm hr (by omega)) (Nat.le_refl _) (Nat.le_refl _) (kI fun r9 h9 hp => ?_)
    obtain ⟨rfl, rfl⟩ := hp
    rw [show ac_waits (nI 2) num v x = (-(ac_waitsP (nI 2) num v x).1, 21 :: (ac_waitsP (nI 2) num v x).2) from by unfold ac_waits; rw [if_neg (by decide)]] at kk
    exact kk
  · refine aw_callU B 0 0 (s_bW0 _ _ h a 3 t n f num v x hk hR ha (by omega)) co_X6_bodyOfWaits ku_X11_224_X8 hd ((hW_n ha).trans hR) rfl rfl rfl rfl hw (zrm hr (by omega)) (Nat.le_refl _) (Nat.le_refl _) (kI fun r9 h9 hp => ?_)
    obtain ⟨rfl, rfl⟩ := hp
    rw [show ac_waits (nI 3) num v x = ac_waitsP (nI 3) num v x from by unfold ac_waits; rw [if_pos (by decide), if_neg (by decide)]] at kk
    exact kk
  · refine aw_callU B 0 0 (s_bW0 _ _ h a 4 t n f num v x hk hR ha (by omega)) co_X6_bodyOfWaits ku_X11_224_X5 hd ((hW_n ha).trans hR) rfl rfl rfl rfl hw (zrm hr (by omega)) (Nat.le_refl _) (Nat.le_refl _) (kI fun r9 h9 hp => ?_)
    obtain ⟨rfl, rfl⟩ := hp
    rw [show ac_waits (nI 4) num v x = ac_waitsP (nI 4) num v x from by unfold ac_waits; rw [if_pos (by decide), if_neg (by decide)]] at kk
    exact kk
  · refine aw_callU B 0 0 (s_bW2 _ _ h a 5 t n f num v x _ hk hR rfl ha (by omega)) co_X2_bodyOfWaits ku_X11_224_X0 hd ((hW_n ha).trans hR) rfl rfl rfl rfl hw (zrm hr (by omega)) (Nat.le_refl _) (Nat.le_refl _) (kI fun r9 h9 hp => ?_)
    obtain ⟨rfl, rfl⟩ := hp
    rw [show ac_waits (nI 5) num v x = (-(ac_waitsP (nI 5) num v x).1, 21 :: (ac_waitsP (nI 5) num v x).2) from by unfold ac_waits; rw [if_neg (by decide)]] at kk
    exact kk
  · refine aw_callU B 0 0 (s_bW6 _ _ h a t n f num v x hR ha (by omega)) co_X10_bodyOfWaits ku_X11_224_X10 hd ((hW_n ha).trans hR) rfl rfl rfl rfl hw (zrm hr (by omega)) (Nat.le_refl _) (Nat.le_refl _) (kI fun r9 h9 hp => ?_)
    obtain ⟨rfl, rfl⟩ := hp
    rw [show ac_waits (nI 6) num v x = ((ac_waitsP (nI 6) num v x).1 + v, 61 :: (ac_waitsP (nI 6) num v x).2) from by unfold ac_waits; rw [if_pos (by decide), if_pos (by decide)]] at kk
    exact kk
set_option maxRecDepth 100000 in
set_option maxHeartbeats 4000000 in
theorem vc_X11_227 {X : zX} {cc : ByteArray} {nL pc : Nat} {nm : String} {ret : Option FieldType} {lv : List (Option Value)} {rest : List Value} {h : Hp} {Ko : Option Value → Hp → Prop} (B : zB X cc nL "LowWater" nm ret) {d k : Nat} {a t n : Nat} {f : Nat → Int32} {num v x : Int32} (hr : zXr X = rmz d) (hdp : 9 ≤ d) (hk : k ≤ 6) (hR : h.2 a = some (.inr (kc k, [.int num, .int v]))) (ha : ¬ (t ≤ a ∧ a < t + 2)) (hn : n < 2 ^ 15) (hd : decode cc pc = .ok (.invokevirtual 227, 3)) (hw : (rest.map fun v => v.category).sum ≤ 8) (kk : AW X 0 0 (pc + 3) lv (.int (ac_tells (nI k) num v x).1 :: rest) (hW (zXg X) h t 20 (p_log n f (ac_tells (nI k) num v x).2) (nI (n + (ac_tells (nI k) num v x).2.length))) Ko) : AW X 0 0 pc lv (.ref t :: .int x :: .ref a :: rest) (hW (zXg X) h t 20 f (nI n)) Ko := by
  rcases (show k = 0 ∨ k = 1 ∨ k = 2 ∨ k = 3 ∨ k = 4 ∨ k = 5 ∨ k = 6 by omega) with rfl | rfl | rfl | rfl | rfl | rfl | rfl
  · refine aw_callU B 0 0 (s_bT0 _ _ h a 0 t n f num v x hk hR ha (by omega)) co_X6_bodyOfTells ku_X11_227_X6 hd ((hW_n ha).trans hR) rfl rfl rfl rfl hw (zrm hr (by omega)) (Nat.le_refl _) (Nat.le_refl _) (kI fun r9 h9 hp => ?_)
    obtain ⟨rfl, rfl⟩ := hp
    rw [show ac_tells (nI 0) num v x = ac_tellsP (nI 0) num v x from by unfold ac_tells; rw [if_pos (by decide), if_neg (by decide)]] at kk
    exact kk
  · refine aw_callU B 0 0 (s_bT0 _ _ h a 1 t n f num v x hk hR ha (by omega)) co_X6_bodyOfTells ku_X11_227_X3 hd ((hW_n ha).trans hR) rfl rfl rfl rfl hw (zrm hr (by omega)) (Nat.le_refl _) (Nat.le_refl _) (kI fun r9 h9 hp => ?_)
    obtain ⟨rfl, rfl⟩ := hp
    rw [show ac_tells (nI 1) num v x = ac_tellsP (nI 1) num v x from by unfold ac_tells; rw [if_pos (by decide), if_neg (by decide)]] at kk
    exact kk
  · refine aw_callU B 0 0 (s_bT0 _ _ h a 2 t n f num v x hk hR ha (by omega)) co_X6_bodyOfTells ku_X11_227_X2 hd ((hW_n ha).trans hR) rfl rfl rfl rfl hw (zrm hr (by omega)) (Nat.le_refl _) (Nat.le_refl _) (kI fun r9 h9 hp => ?_)
    obtain ⟨rfl, rfl⟩ := hp
    rw [show ac_tells (nI 2) num v x = ac_tellsP (nI 2) num v x from by unfold ac_tells; rw [if_pos (by decide), if_neg (by decide)]] at kk
    exact kk
  · refine aw_callU B 0 0 (s_bT3 _ _ h a 3 t n f num v x _ hk hR rfl ha (by omega)) co_X8_bodyOfTells ku_X11_227_X8 hd ((hW_n ha).trans hR) rfl rfl rfl rfl hw (zrm hr (by omega)) (Nat.le_refl _) (Nat.le_refl _) (kI fun r9 h9 hp => ?_)
    obtain ⟨rfl, rfl⟩ := hp
    rw [show ac_tells (nI 3) num v x = ((ac_tellsP (nI 3) num v x).1 ^^^ 7, 31 :: (ac_tellsP (nI 3) num v x).2) from by unfold ac_tells; rw [if_neg (by decide)]] at kk
    exact kk
  · refine aw_callU B 0 0 (s_bT4 _ _ h a t n f num v x hR ha (by omega)) co_X5_bodyOfTells ku_X11_227_X5 hd ((hW_n ha).trans hR) rfl rfl rfl rfl hw (zrm hr (by omega)) (Nat.le_refl _) (Nat.le_refl _) (kI fun r9 h9 hp => ?_)
    obtain ⟨rfl, rfl⟩ := hp
    rw [show ac_tells (nI 4) num v x = ((ac_tellsP (nI 4) num v (x - 1)).1 + (ac_reads (nI 4) num 2).1, 41 :: ((ac_tellsP (nI 4) num v (x - 1)).2 ++ (ac_reads (nI 4) num 2).2)) from by unfold ac_tells; rw [if_pos (by decide), if_pos (by decide)]] at kk
    exact kk
  · refine aw_callU B 0 0 (s_bT0 _ _ h a 5 t n f num v x hk hR ha (by omega)) co_X6_bodyOfTells ku_X11_227_X0 hd ((hW_n ha).trans hR) rfl rfl rfl rfl hw (zrm hr (by omega)) (Nat.le_refl _) (Nat.le_refl _) (kI fun r9 h9 hp => ?_)
    obtain ⟨rfl, rfl⟩ := hp
    rw [show ac_tells (nI 5) num v x = ac_tellsP (nI 5) num v x from by unfold ac_tells; rw [if_pos (by decide), if_neg (by decide)]] at kk
    exact kk
  · refine aw_callU B 0 0 (s_bT3 _ _ h a 6 t n f num v x _ hk hR rfl ha (by omega)) co_X8_bodyOfTells ku_X11_227_X10 hd ((hW_n ha).trans hR) rfl rfl rfl rfl hw (zrm hr (by omega)) (Nat.le_refl _) (Nat.le_refl _) (kI fun r9 h9 hp => ?_)
    obtain ⟨rfl, rfl⟩ := hp
    rw [show ac_tells (nI 6) num v x = ((ac_tellsP (nI 6) num v x).1 ^^^ 7, 31 :: (ac_tellsP (nI 6) num v x).2) from by unfold ac_tells; rw [if_neg (by decide)]] at kk
    exact kk
theorem p_ran_q {n : Nat} {f f2 : Nat → Int32} {b : Int32} (h : ∀ q, q < n → q < 20 → f q = f2 q) : ∀ q, q < n + 1 → q < 20 → p_ran n f b q = p_ran n f2 b q := by
  intro q h1 h2
  unfold p_ran
  by_cases hn : n < 20
  · rw [if_pos hn, if_pos hn]
    unfold upd
    by_cases e : q = n
    · rw [if_pos e, if_pos e]
    · rw [if_neg e, if_neg e]; exact h q (by omega) h2
  · rw [if_neg hn, if_neg hn]; exact h q (by omega) h2
theorem p_log_q : ∀ (l : List Int32) (n : Nat) (f f2 : Nat → Int32), (∀ q, q < n → q < 20 → f q = f2 q) → ∀ q, q < n + l.length → q < 20 → p_log n f l q = p_log n f2 l q
  | [], n, f, f2, h => h
  | b :: l, n, f, f2, h => fun q h1 h2 => p_log_q l (n + 1) _ _ (p_ran_q h) q (by have : (b :: l).length = l.length + 1 := rfl; omega) h2
theorem ac_len (S : Nat → Int32) (a b x : Int32) : (q_act S a b x).2.length ≤ 12 := by
  have r : ∀ k i x, (ac_reads k i x).2.length ≤ 2 := by
    intro k i x
    unfold ac_reads ac_plain
    split <;> (try split) <;> simp
  have wp : ∀ k i v x, (ac_waitsP k i v x).2.length ≤ 3 := by
    intro k i v x
    have := r k i x
    unfold ac_waitsP
    show ((2 : Int32) :: (ac_reads k i x).2).length ≤ 3
    rw [List.length_cons]; omega
  have w : ∀ k i v x, (ac_waits k i v x).2.length ≤ 4 := by
    intro k i v x
    have := wp k i v x
    unfold ac_waits
    split
    · split
      · show ((61 : Int32) :: (ac_waitsP k i v x).2).length ≤ 4
        rw [List.length_cons]; omega
      · omega
    · show ((21 : Int32) :: (ac_waitsP k i v x).2).length ≤ 4
      rw [List.length_cons]; omega
  have tp : ∀ k i v x, (ac_tellsP k i v x).2.length ≤ 5 := by
    intro k i v x
    have := w k i v x
    unfold ac_tellsP
    show ((3 : Int32) :: (ac_waits k i v x).2).length ≤ 5
    rw [List.length_cons]; omega
  have t : ∀ k i v x, (ac_tells k i v x).2.length ≤ 8 := by
    intro k i v x
    have h1 := tp k i v x
    have h2 := tp k i v (x - 1)
    have h3 := r k i 2
    unfold ac_tells
    split
    · split
      · show ((41 : Int32) :: ((ac_tellsP k i v (x - 1)).2 ++ (ac_reads k i 2).2)).length ≤ 8
        rw [List.length_cons, List.length_append]; omega
      · omega
    · show ((31 : Int32) :: (ac_tellsP k i v x).2).length ≤ 8
      rw [List.length_cons]; omega
  unfold q_act
  split
  · exact Nat.zero_le _
  · split
    · exact Nat.zero_le _
    · split
      · exact Nat.le_trans (r _ _ _) (by decide)
      · split
        · exact Nat.le_trans (w _ _ _ _) (by decide)
        · exact Nat.le_trans (t _ _ _ _) (by decide)
theorem cH.trc {g : zG} {h h' : Hp} {x ca cs N T T2 tn : Nat} {S S2 Bt : Nat → Int32} {Q Q2 : pP} {n n2 : Nat → Nat} {im : Int32} (p : cH g h x ca cs N S T Q n S2 T2 Q2 n2 im Bt tn) (o : only (x + 41) (x + 43) h h') {k : Nat} {V : Nat → Int32} (r : rwI g h' (x + 41) 20 k V) : cH g h' x ca cs N S T Q n S2 T2 Q2 n2 im V k := by
  obtain ⟨p1, p2, p3, p4, p5, p6, p7, p8, ⟨f, p9⟩, p10, p11, p12⟩ := p
  refine ⟨p1, (o.2 _ (by omega)).trans p2, p3.same (fun a ha => o.2 a (by omega)) (fun a e h1 h2 => (o.2 _ (by omega)).trans h2), p4.same (fun a ha => o.2 a (by omega)) (fun a e h1 h2 => (o.2 _ (by omega)).trans h2), p5.same (fun a ha => o.2 a (by omega)), r, p7.same (fun a ha => o.2 a (by omega)), p8.same (fun a ha => o.2 a (by omega)), ⟨f, (o.2 _ (by omega)).trans p9⟩, p10, p11, p12⟩
theorem dX11_act_0 : decode cX11_act 0 = .ok (.aload_n 0, 1) := by decide +kernel
theorem dX11_act_1 : decode cX11_act 1 = .ok (.getfield 37, 3) := by decide +kernel
theorem dX11_act_4 : decode cX11_act 4 = .ok (.invokevirtual 77, 3) := by decide +kernel
theorem dX11_act_7 : decode cX11_act 7 = .ok (.aload_n 0, 1) := by decide +kernel
theorem dX11_act_8 : decode cX11_act 8 = .ok (.getfield 12, 3) := by decide +kernel
theorem dX11_act_11 : decode cX11_act 11 = .ok (.iload_n 1, 1) := by decide +kernel
theorem dX11_act_12 : decode cX11_act 12 = .ok (.invokevirtual 118, 3) := by decide +kernel
theorem dX11_act_15 : decode cX11_act 15 = .ok (.astore 4, 2) := by decide +kernel
theorem dX11_act_17 : decode cX11_act 17 = .ok (.aload 4, 2) := by decide +kernel
theorem dX11_act_19 : decode cX11_act 19 = .ok (.ifnonnull 5, 3) := by decide +kernel
theorem dX11_act_22 : decode cX11_act 22 = .ok (.iconst 0, 1) := by decide +kernel
theorem dX11_act_23 : decode cX11_act 23 = .ok (.ireturn, 1) := by decide +kernel
theorem dX11_act_24 : decode cX11_act 24 = .ok (.iload_n 2, 1) := by decide +kernel
theorem dX11_act_25 : decode cX11_act 25 = .ok (.tableswitch 60 0 2 #[27, 38, 49], 27) := by decide +kernel
theorem dX11_act_52 : decode cX11_act 52 = .ok (.aload 4, 2) := by decide +kernel
theorem dX11_act_54 : decode cX11_act 54 = .ok (.iload_n 3, 1) := by decide +kernel
theorem dX11_act_55 : decode cX11_act 55 = .ok (.aload_n 0, 1) := by decide +kernel
theorem dX11_act_56 : decode cX11_act 56 = .ok (.getfield 37, 3) := by decide +kernel
theorem dX11_act_59 : decode cX11_act 59 = .ok (.invokevirtual 220, 3) := by decide +kernel
theorem dX11_act_62 : decode cX11_act 62 = .ok (.ireturn, 1) := by decide +kernel
theorem dX11_act_63 : decode cX11_act 63 = .ok (.aload 4, 2) := by decide +kernel
theorem dX11_act_65 : decode cX11_act 65 = .ok (.iload_n 3, 1) := by decide +kernel
theorem dX11_act_66 : decode cX11_act 66 = .ok (.aload_n 0, 1) := by decide +kernel
theorem dX11_act_67 : decode cX11_act 67 = .ok (.getfield 37, 3) := by decide +kernel
theorem dX11_act_70 : decode cX11_act 70 = .ok (.invokevirtual 224, 3) := by decide +kernel
theorem dX11_act_73 : decode cX11_act 73 = .ok (.ireturn, 1) := by decide +kernel
theorem dX11_act_74 : decode cX11_act 74 = .ok (.aload 4, 2) := by decide +kernel
theorem dX11_act_76 : decode cX11_act 76 = .ok (.iload_n 3, 1) := by decide +kernel
theorem dX11_act_77 : decode cX11_act 77 = .ok (.aload_n 0, 1) := by decide +kernel
theorem dX11_act_78 : decode cX11_act 78 = .ok (.getfield 37, 3) := by decide +kernel
theorem dX11_act_81 : decode cX11_act 81 = .ok (.invokevirtual 227, 3) := by decide +kernel
theorem dX11_act_84 : decode cX11_act 84 = .ok (.ireturn, 1) := by decide +kernel
theorem dX11_act_85 : decode cX11_act 85 = .ok (.iconst 0, 1) := by decide +kernel
theorem dX11_act_86 : decode cX11_act 86 = .ok (.ireturn, 1) := by decide +kernel
set_option maxRecDepth 100000 in
set_option maxHeartbeats 4000000 in
theorem x_act (l : Launch) (g : zG) {h : Hp} {x ca cs N T T2 tn : Nat} {S S2 Bt : Nat → Int32} {Q Q2 : pP} {n n2 : Nat → Nat} {im : Int32} (i b z : Int32) (hc : cH g h x ca cs N S T Q n S2 T2 Q2 n2 im Bt tn) : Sp l g yX11_act cX11_act 5 (some .int) (rmz 10) [.ref x, .int i, .int b, .int z] (h) (zI fun r h' => r = (q_act S i b z).1 ∧ cH g h' x ca cs N S T Q n S2 T2 Q2 n2 im (p_log 0 Bt (q_act S i b z).2) (q_act S i b z).2.length ∧ only x (x + 54) h h') := by
  refine Sp.of [some (.ref x), some (.int i), some (.int b), some (.int z), none] (by decide) (Nat.le_of_ble_eq_true rfl) rfl rfl ?_
  rintro X rfl hr rfl B
  show AW X 0 0 0 _ _ _ _
  obtain ⟨vS, vR, vC, vA, vE, vL, vT, vH⟩ := hc.v
  have e0 := vS.2.1
  have e1 := vR.2.1
  have e2 := vC.2.1
  have e3 := vA.2.1
  have e4 := vE.2.1
  have e5 := vL.2.1
  have e6 := vT.2
  have e8 := vH.1
  have b0 := vS.1
  have b1 := vR.1
  have b2' := vC.1
  have b3 := vA.1
  have b4 := vE.1
  have b5 := vL.1
  have b6 := vT.1
  have b8 := vH.2.1
  have O : only x (x + 54) h h := only.rf
  refine aw_aload_n B 0 rfl dX11_act_0 rfl ?_
  refine aw_get B f_X11_37 dX11_act_1 hc.ox rfl ?_
  refine aw_callV B 0 0 (t_clr _ _ _ _ 20 _ _ (Bt) hc.tr) co_X7_clear k_X11_77 dX11_act_4 hc.tr.o rfl rfl rfl rfl (Nat.le_of_ble_eq_true rfl) (zrm hr (by omega)) (Nat.le_refl _) (Nat.le_refl _) (kV fun h4 hp4 => ?_)
  obtain ⟨r4, o4⟩ := hp4
  have O := O.tr (o4.wide (lo' := x) (hi' := x + 54) (by omega) (by omega))
  have hc := hc.trc o4 r4
  refine aw_aload_n B 0 rfl dX11_act_7 rfl ?_
  refine aw_get B f_X11_12 dX11_act_8 hc.ox rfl ?_
  refine aw_iload_n B 1 rfl dX11_act_11 rfl ?_
  refine aw_callV B 0 0 (x_readerAt _ _ i hc) co_X9_readerAt k_X11_118 dX11_act_12 hc.s rfl rfl rfl rfl (Nat.le_of_ble_eq_true rfl) (zrm hr (by omega)) (Nat.le_refl _) (Nat.le_refl _) (kO fun r12 h12 hp12 => ?_)
  obtain ⟨eh12, hv12⟩ := hp12
  rw [eh12]
  by_cases hA12 : 0 ≤ i ∧ i ≤ S 1 - 1
  · rw [if_pos hA12] at hv12
    obtain ⟨a, q, k, v, rfl, Ra⟩ := hv12
    have hqk := Ra.2.1
    have hk6 := Ra.2.2.2.1
    have hy9 := Ra.2.2.1
    refine aw_astore4 B dX11_act_15 ?_
    refine aw_aload B dX11_act_17 rfl ?_
    refine aw_ifnonnull B 24 dX11_act_19 ?_
    refine aw_iload_n B 2 rfl dX11_act_24 rfl ?_
    rcases sw3 b with rfl | rfl | rfl | hz
    · obtain ⟨-, f9, p9, -⟩ := hc.tr
      rw [← hW_id p9]
      refine aw_tableIn (off := 27) B 52 dX11_act_25 (by decide) (by decide) (by decide) ?_
      refine aw_aload B dX11_act_52 rfl ?_
      refine aw_iload_n B 3 rfl dX11_act_54 rfl ?_
      refine aw_aload_n B 0 rfl dX11_act_55 rfl ?_
      refine aw_get B f_X11_37 dX11_act_56 ((hW_n (by omega)).trans hc.ox) rfl ?_
      refine vc_X11_220 B hr (by omega) Ra.2.2.2.1 Ra.2.2.2.2.2.2.2 (by omega) (by omega) dX11_act_59 (Nat.le_of_ble_eq_true rfl) ?_
      refine aw_iret B rfl rfl dX11_act_62 ?_
      have eq9 : q_act S i 0 z = ac_reads (nI k) (nI q) z := by unfold q_act; rw [if_neg (by rw [bI_t hA12]; decide), bI_t (by decide), if_neg (by decide), if_pos rfl, Ra.1, nI_clamp (by omega), Ra.2.2.2.2.2.1]
      have hl9 := ac_len S i 0 z
      rw [eq9] at hl9 ⊢
      exact ⟨_, rfl, rfl, hc.trc hW_only ⟨by omega, _, by have hx9 := hW_row (g := zXg X) (h := h4) (r := x + 41) (n := 20) (f := p_log 0 f9 (ac_reads (nI k) (nI q) z).2) (sz := nI (0 + (ac_reads (nI k) (nI q) z).2.length)); rw [Nat.zero_add] at hx9 ⊢; exact hx9, fun j1 j2 j3 => p_log_q _ 0 _ _ (fun y1 y2 => absurd y2 (Nat.not_lt_zero _)) _ (by omega) j3⟩, O.tr (hW_only.wide (by omega) (by omega))⟩
    · obtain ⟨-, f9, p9, -⟩ := hc.tr
      rw [← hW_id p9]
      refine aw_tableIn (off := 38) B 63 dX11_act_25 (by decide) (by decide) (by decide) ?_
      refine aw_aload B dX11_act_63 rfl ?_
      refine aw_iload_n B 3 rfl dX11_act_65 rfl ?_
      refine aw_aload_n B 0 rfl dX11_act_66 rfl ?_
      refine aw_get B f_X11_37 dX11_act_67 ((hW_n (by omega)).trans hc.ox) rfl ?_
      refine vc_X11_224 B hr (by omega) Ra.2.2.2.1 Ra.2.2.2.2.2.2.2 (by omega) (by omega) dX11_act_70 (Nat.le_of_ble_eq_true rfl) ?_
      refine aw_iret B rfl rfl dX11_act_73 ?_
      have eq9 : q_act S i 1 z = ac_waits (nI k) (nI q) (nI v) z := by unfold q_act; rw [if_neg (by rw [bI_t hA12]; decide), bI_t (by decide), if_neg (by decide), if_neg (by decide), if_pos rfl, Ra.1, nI_clamp (by omega), Ra.2.2.2.2.2.1, Ra.2.2.2.2.2.2.1]
      have hl9 := ac_len S i 1 z
      rw [eq9] at hl9 ⊢
      exact ⟨_, rfl, rfl, hc.trc hW_only ⟨by omega, _, by have hx9 := hW_row (g := zXg X) (h := h4) (r := x + 41) (n := 20) (f := p_log 0 f9 (ac_waits (nI k) (nI q) (nI v) z).2) (sz := nI (0 + (ac_waits (nI k) (nI q) (nI v) z).2.length)); rw [Nat.zero_add] at hx9 ⊢; exact hx9, fun j1 j2 j3 => p_log_q _ 0 _ _ (fun y1 y2 => absurd y2 (Nat.not_lt_zero _)) _ (by omega) j3⟩, O.tr (hW_only.wide (by omega) (by omega))⟩
    · obtain ⟨-, f9, p9, -⟩ := hc.tr
      rw [← hW_id p9]
      refine aw_tableIn (off := 49) B 74 dX11_act_25 (by decide) (by decide) (by decide) ?_
      refine aw_aload B dX11_act_74 rfl ?_
      refine aw_iload_n B 3 rfl dX11_act_76 rfl ?_
      refine aw_aload_n B 0 rfl dX11_act_77 rfl ?_
      refine aw_get B f_X11_37 dX11_act_78 ((hW_n (by omega)).trans hc.ox) rfl ?_
      refine vc_X11_227 B hr (by omega) Ra.2.2.2.1 Ra.2.2.2.2.2.2.2 (by omega) (by omega) dX11_act_81 (Nat.le_of_ble_eq_true rfl) ?_
      refine aw_iret B rfl rfl dX11_act_84 ?_
      have eq9 : q_act S i 2 z = ac_tells (nI k) (nI q) (nI v) z := by unfold q_act; rw [if_neg (by rw [bI_t hA12]; decide), bI_t (by decide), if_neg (by decide), if_neg (by decide), if_neg (by decide), Ra.1, nI_clamp (by omega), Ra.2.2.2.2.2.1, Ra.2.2.2.2.2.2.1]
      have hl9 := ac_len S i 2 z
      rw [eq9] at hl9 ⊢
      exact ⟨_, rfl, rfl, hc.trc hW_only ⟨by omega, _, by have hx9 := hW_row (g := zXg X) (h := h4) (r := x + 41) (n := 20) (f := p_log 0 f9 (ac_tells (nI k) (nI q) (nI v) z).2) (sz := nI (0 + (ac_tells (nI k) (nI q) (nI v) z).2.length)); rw [Nat.zero_add] at hx9 ⊢; exact hx9, fun j1 j2 j3 => p_log_q _ 0 _ _ (fun y1 y2 => absurd y2 (Nat.not_lt_zero _)) _ (by omega) j3⟩, O.tr (hW_only.wide (by omega) (by omega))⟩
    · 
      refine aw_tableOut B 85 dX11_act_25 hz ?_
      refine aw_iconst B 0 (by decide) dX11_act_85 ?_
      refine aw_iret B rfl rfl dX11_act_86 ?_
      have eq9 : q_act S i b z = (0, []) := by unfold q_act; rw [if_neg (by rw [bI_t hA12]; decide), bI_f (fun y => by rw [Int32.le_iff_toInt_le, Int32.le_iff_toInt_le] at y; have a0 : (0 : Int32).toInt = 0 := (by decide); have a2 : (2 : Int32).toInt = 2 := (by decide); omega), if_pos rfl]
      rw [eq9]
      exact ⟨_, rfl, rfl, hc, O⟩
  · rw [if_neg hA12] at hv12
    obtain rfl := hv12
    refine aw_astoreN B dX11_act_15 (by decide) rfl ?_
    refine aw_aloadN B dX11_act_17 rfl ?_
    refine aw_ifnonnullN B dX11_act_19 ?_
    refine aw_iconst B 0 (by decide) dX11_act_22 ?_
    refine aw_iret B rfl rfl dX11_act_23 ?_
    have eq9 : q_act S i b z = (0, []) := by unfold q_act; rw [bI_f hA12, if_pos rfl]
    rw [eq9]
    exact ⟨_, rfl, rfl, hc, O⟩
theorem cvo {x ca cs : Nat} {h h' : Hp} (d : (ca = x + 2 ∧ cs = x + 37) ∨ (ca = x + 37 ∧ cs = x + 2)) (o : only ca (ca + 4) h h') : only x (x + 54) h h' := o.wide (by omega) (by omega)
def wO (S : Nat → Int32) (T : Nat) (Q : pP) (r s a sh : Nat) : Nat := w61 (sF T Q (kN (S (22 + r))) (kN (S (26 + r))) sh (p_needs (kN (S (22 + r))) (kN (S (26 + r))) (kN (S (16 + s)))) a)
theorem sF_le (T : Nat) (Q : pP) (k v sh need a : Nat) : sF T Q k v sh need a ≤ 60 ∨ sF T Q k v sh need a = 100000 := sFb_le ..
theorem wO_le (S : Nat → Int32) (T : Nat) (Q : pP) (r s a sh : Nat) : wO S T Q r s a sh ≤ 61 := by
  unfold wO w61
  have := sF_le T Q (kN (S (22 + r))) (kN (S (26 + r))) sh (p_needs (kN (S (22 + r))) (kN (S (26 + r))) (kN (S (16 + s)))) a
  split <;> omega
theorem dX11_waitOn_0 : decode cX11_waitOn 0 = .ok (.aload_n 0, 1) := by decide +kernel
theorem dX11_waitOn_1 : decode cX11_waitOn 1 = .ok (.getfield 12, 3) := by decide +kernel
theorem dX11_waitOn_4 : decode cX11_waitOn 4 = .ok (.iload_n 1, 1) := by decide +kernel
theorem dX11_waitOn_5 : decode cX11_waitOn 5 = .ok (.invokestatic 210, 3) := by decide +kernel
theorem dX11_waitOn_8 : decode cX11_waitOn 8 = .ok (.invokevirtual 118, 3) := by decide +kernel
theorem dX11_waitOn_11 : decode cX11_waitOn 11 = .ok (.astore_n 3, 1) := by decide +kernel
theorem dX11_waitOn_12 : decode cX11_waitOn 12 = .ok (.aload_n 3, 1) := by decide +kernel
theorem dX11_waitOn_13 : decode cX11_waitOn 13 = .ok (.ifnonnull 6, 3) := by decide +kernel
theorem dX11_waitOn_16 : decode cX11_waitOn 16 = .ok (.bipush 61, 2) := by decide +kernel
theorem dX11_waitOn_18 : decode cX11_waitOn 18 = .ok (.ireturn, 1) := by decide +kernel
theorem dX11_waitOn_19 : decode cX11_waitOn 19 = .ok (.aload_n 0, 1) := by decide +kernel
theorem dX11_waitOn_20 : decode cX11_waitOn 20 = .ok (.getfield 12, 3) := by decide +kernel
theorem dX11_waitOn_23 : decode cX11_waitOn 23 = .ok (.getfield 90, 3) := by decide +kernel
theorem dX11_waitOn_26 : decode cX11_waitOn 26 = .ok (.iload_n 1, 1) := by decide +kernel
theorem dX11_waitOn_27 : decode cX11_waitOn 27 = .ok (.invokestatic 207, 3) := by decide +kernel
theorem dX11_waitOn_30 : decode cX11_waitOn 30 = .ok (.invokevirtual 99, 3) := by decide +kernel
theorem dX11_waitOn_33 : decode cX11_waitOn 33 = .ok (.istore 4, 2) := by decide +kernel
theorem dX11_waitOn_35 : decode cX11_waitOn 35 = .ok (.aload_n 3, 1) := by decide +kernel
theorem dX11_waitOn_36 : decode cX11_waitOn 36 = .ok (.aload_n 0, 1) := by decide +kernel
theorem dX11_waitOn_37 : decode cX11_waitOn 37 = .ok (.getfield 12, 3) := by decide +kernel
theorem dX11_waitOn_40 : decode cX11_waitOn 40 = .ok (.getfield 80, 3) := by decide +kernel
theorem dX11_waitOn_43 : decode cX11_waitOn 43 = .ok (.iload_n 2, 1) := by decide +kernel
theorem dX11_waitOn_44 : decode cX11_waitOn 44 = .ok (.iload 4, 2) := by decide +kernel
theorem dX11_waitOn_46 : decode cX11_waitOn 46 = .ok (.aload_n 0, 1) := by decide +kernel
theorem dX11_waitOn_47 : decode cX11_waitOn 47 = .ok (.getfield 12, 3) := by decide +kernel
theorem dX11_waitOn_50 : decode cX11_waitOn 50 = .ok (.getfield 137, 3) := by decide +kernel
theorem dX11_waitOn_53 : decode cX11_waitOn 53 = .ok (.iload_n 1, 1) := by decide +kernel
theorem dX11_waitOn_54 : decode cX11_waitOn 54 = .ok (.invokestatic 213, 3) := by decide +kernel
theorem dX11_waitOn_57 : decode cX11_waitOn 57 = .ok (.iadd, 1) := by decide +kernel
theorem dX11_waitOn_58 : decode cX11_waitOn 58 = .ok (.invokevirtual 146, 3) := by decide +kernel
theorem dX11_waitOn_61 : decode cX11_waitOn 61 = .ok (.istore 5, 2) := by decide +kernel
theorem dX11_waitOn_63 : decode cX11_waitOn 63 = .ok (.iload 5, 2) := by decide +kernel
theorem dX11_waitOn_65 : decode cX11_waitOn 65 = .ok (.bipush (-5), 2) := by decide +kernel
theorem dX11_waitOn_67 : decode cX11_waitOn 67 = .ok (.if_icmp .ne 8, 3) := by decide +kernel
theorem dX11_waitOn_70 : decode cX11_waitOn 70 = .ok (.bipush 61, 2) := by decide +kernel
theorem dX11_waitOn_72 : decode cX11_waitOn 72 = .ok (.goto 5, 3) := by decide +kernel
theorem dX11_waitOn_75 : decode cX11_waitOn 75 = .ok (.iload 5, 2) := by decide +kernel
theorem dX11_waitOn_77 : decode cX11_waitOn 77 = .ok (.ireturn, 1) := by decide +kernel
set_option maxRecDepth 100000 in
set_option maxHeartbeats 4000000 in
theorem x_waitOn (l : Launch) (g : zG) {h : Hp} {x ca cs N T T2 tn : Nat} {S S2 Bt : Nat → Int32} {Q Q2 : pP} {n n2 : Nat → Nat} {im : Int32} (rr ss aa sh : Nat) (hc : cH g h x ca cs N S T Q n S2 T2 Q2 n2 im Bt tn) (hrr : rr < n 1) (hss : ss < n 0) (haa : aa ≤ 60) (hsh : sh ≤ 8) : Sp l g yX11_waitOn cX11_waitOn 6 (some .int) (rmz 8) [.ref x, .int (nI (10000 * rr + 100 * ss + aa)), .int (nI sh)] (h) (zI fun r h' => r = nI (wO S T Q rr ss aa sh) ∧ cH g h' x ca cs N S T Q n S2 T2 Q2 n2 im Bt tn ∧ only ca (ca + 4) h h') := by
  refine Sp.of [some (.ref x), some (.int (nI (10000 * rr + 100 * ss + aa))), some (.int (nI sh)), none, none, none] (by decide) (Nat.le_of_ble_eq_true rfl) rfl rfl ?_
  rintro X rfl hr rfl B
  show AW X 0 0 0 _ _ _ _
  obtain ⟨vS, vR, vC, vA, vE, vL, vT, vH⟩ := hc.v
  have e0 := vS.2.1
  have e1 := vR.2.1
  have e2 := vC.2.1
  have e3 := vA.2.1
  have e4 := vE.2.1
  have e5 := vL.2.1
  have e6 := vT.2
  have e8 := vH.1
  have b0 := vS.1
  have b1 := vR.1
  have b2' := vC.1
  have b3 := vA.1
  have b4 := vE.1
  have b5 := vL.1
  have b6 := vT.1
  have b8 := vH.2.1
  have O : only x (x + 54) h h := only.rf
  have tk1 := tk_r (r := rr) (s := ss) (a := aa) (by omega) (by omega) (by omega)
  obtain ⟨ln, l1, l4, eln⟩ := (vS.2.2 ss hss).2
  refine aw_aload_n B 0 rfl dX11_waitOn_0 rfl ?_
  refine aw_get B f_X11_12 dX11_waitOn_1 hc.ox rfl ?_
  refine aw_iload_n B 1 rfl dX11_waitOn_4 rfl ?_
  refine aw_callS B 0 0 (x_readerIn _ _ _ _) co_X11_readerIn k_X11_210 dX11_waitOn_5 rfl rfl (Nat.le_of_ble_eq_true rfl) (zrm hr (by omega)) (Nat.le_refl _) (Nat.le_refl _) (kI fun r5 h5 hp5 => ?_)
  obtain ⟨rfl, eh5⟩ := hp5
  rw [eh5]
  rw [tk1.1]
  refine aw_callV B 0 0 (x_readerAt _ _ (nI rr) hc) co_X9_readerAt k_X11_118 dX11_waitOn_8 hc.s rfl rfl rfl rfl (Nat.le_of_ble_eq_true rfl) (zrm hr (by omega)) (Nat.le_refl _) (Nat.le_refl _) (kO fun r8 h8 hp8 => ?_)
  obtain ⟨eh8, hv8⟩ := hp8
  rw [if_pos (rd_in hrr b1 e1)] at hv8
  obtain ⟨a0, q0, k0, v0, rfl, Ra⟩ := hv8
  rw [eh8]
  obtain rfl : rr = q0 := (nI_eq (by omega) (by have := Ra.2.1; omega)).mp Ra.1
  have hk6 := Ra.2.2.2.1
  have hv9 := Ra.2.2.2.2.1
  refine aw_astore3 B dX11_waitOn_11 ?_
  refine aw_aload_n B 3 rfl dX11_waitOn_12 rfl ?_
  refine aw_ifnonnull B 19 dX11_waitOn_13 ?_
  refine aw_aload_n B 0 rfl dX11_waitOn_19 rfl ?_
  refine aw_get B f_X11_12 dX11_waitOn_20 hc.ox rfl ?_
  refine aw_get B f_X11_90 dX11_waitOn_23 hc.s rfl ?_
  refine aw_iload_n B 1 rfl dX11_waitOn_26 rfl ?_
  refine aw_callS B 0 0 (x_slateIn _ _ _ _) co_X11_slateIn k_X11_207 dX11_waitOn_27 rfl rfl (Nat.le_of_ble_eq_true rfl) (zrm hr (by omega)) (Nat.le_refl _) (Nat.le_refl _) (kI fun r27 h27 hp27 => ?_)
  obtain ⟨rfl, eh27⟩ := hp27
  rw [eh27]
  rw [tk1.2.1]
  refine aw_callV B 0 0 (t_get _ _ _ _ 6 _ _ (ss) (by decide) (by omega) (by omega) hc.lines) co_X7_get k_X11_99 dX11_waitOn_30 hc.lines.o rfl rfl rfl rfl (Nat.le_of_ble_eq_true rfl) (zrm hr (by omega)) (Nat.le_refl _) (Nat.le_refl _) (kI fun r30 h30 hp30 => ?_)
  obtain ⟨rfl, eh30⟩ := hp30
  rw [eh30]
  rw [eln]
  refine aw_istore4 B dX11_waitOn_33 ?_
  refine aw_aload_n B 3 rfl dX11_waitOn_35 rfl ?_
  refine aw_aload_n B 0 rfl dX11_waitOn_36 rfl ?_
  refine aw_get B f_X11_12 dX11_waitOn_37 hc.ox rfl ?_
  refine aw_get B f_X11_80 dX11_waitOn_40 hc.s rfl ?_
  refine aw_iload_n B 2 rfl dX11_waitOn_43 rfl ?_
  refine aw_iload B dX11_waitOn_44 rfl ?_
  refine aw_aload_n B 0 rfl dX11_waitOn_46 rfl ?_
  refine aw_get B f_X11_12 dX11_waitOn_47 hc.ox rfl ?_
  refine aw_get B f_X11_137 dX11_waitOn_50 hc.s rfl ?_
  refine aw_iload_n B 1 rfl dX11_waitOn_53 rfl ?_
  refine aw_callS B 0 0 (x_hoursIn _ _ _ _) co_X11_hoursIn k_X11_213 dX11_waitOn_54 rfl rfl (Nat.le_of_ble_eq_true rfl) (zrm hr (by omega)) (Nat.le_refl _) (Nat.le_refl _) (kI fun r54 h54 hp54 => ?_)
  obtain ⟨rfl, eh54⟩ := hp54
  rw [eh54]
  rw [tk1.2.2]
  refine aw_iadd B dX11_waitOn_57 ?_
  rw [e8, nI_add]
  refine vc_X11_146 (T := T) (a0 := aa) B hr (by omega) Ra.2.2.2.1 Ra.2.2.2.2.1 Ra.2.2.2.2.2.2.2 hsh l1 l4 (by omega) (by have := hc.d; have := Ra.2.2.1; omega) hc.c dX11_waitOn_58 (Nat.le_of_ble_eq_true rfl) (fun h58 C58 O58 => ?_)
  have hc := hc.cv O58 C58
  refine aw_istore5 B dX11_waitOn_61 ?_
  refine aw_iload B dX11_waitOn_63 rfl ?_
  refine aw_bipush B (-5) (by decide) dX11_waitOn_65 ?_
  refine aw_icmp_ne B 75 dX11_waitOn_67 (fun c67 => ?_) (fun c67 => ?_)
  · refine aw_iload B dX11_waitOn_75 rfl ?_
    refine aw_iret B rfl rfl dX11_waitOn_77 ?_
    exact ⟨_, rfl, by unfold wO; rw [Ra.2.2.2.2.2.1, Ra.2.2.2.2.2.2.1, eln, kN_nI (by omega), kN_nI (by omega), kN_nI (by omega)]; exact orN_b (sF_le ..) c67, hc, O58⟩
  · refine aw_bipush B 61 (by decide) dX11_waitOn_70 ?_
    refine aw_goto B 77 dX11_waitOn_72 ?_
    refine aw_iret B rfl rfl dX11_waitOn_77 ?_
    exact ⟨_, rfl, by unfold wO; rw [Ra.2.2.2.2.2.1, Ra.2.2.2.2.2.2.1, eln, kN_nI (by omega), kN_nI (by omega), kN_nI (by omega)]; exact orN_a (sF_le ..) c67, hc, O58⟩
theorem w1_wO {S S' : Nat → Int32} {T : Nat} {Q : pP} {j r s a sh : Nat} (hr : r < 4) (hs : s < 6) (ha : a ≤ 60) (hsh : sh ≤ 8) (hj : j < 8) (e1 : S (30 + j) = nI r) (e2 : S (38 + j) = nI s) (e3 : S (46 + j) = nI a) (ag : ∀ k, 16 ≤ k → S' k = S k) (e4 : S' (10 + s) = nI sh) : w1 S' T Q j = wO S T Q r s a sh := by
  unfold w1 wO w61 soS
  rw [ag (30 + j) (by omega), ag (38 + j) (by omega), ag (46 + j) (by omega), e1, e2, e3, kN_nI (by omega), kN_nI (by omega), kN_nI (by omega), ag (22 + r) (by omega), ag (26 + r) (by omega), ag (16 + s) (by omega), e4, kN_nI (n := sh) (by omega)]
def wtd (g : zG) (h : Hp) (x : Nat) (f : Nat → Int32) : Prop := h.2 (x + 53) = some (.inl (g.2.2.1.1, 8, .inl f))
theorem dX11_fillWaited_0 : decode cX11_fillWaited 0 = .ok (.iconst 0, 1) := by decide +kernel
theorem dX11_fillWaited_1 : decode cX11_fillWaited 1 = .ok (.istore_n 1, 1) := by decide +kernel
theorem dX11_fillWaited_2 : decode cX11_fillWaited 2 = .ok (.iconst 0, 1) := by decide +kernel
theorem dX11_fillWaited_3 : decode cX11_fillWaited 3 = .ok (.istore_n 2, 1) := by decide +kernel
theorem dX11_fillWaited_4 : decode cX11_fillWaited 4 = .ok (.iload_n 2, 1) := by decide +kernel
theorem dX11_fillWaited_5 : decode cX11_fillWaited 5 = .ok (.aload_n 0, 1) := by decide +kernel
theorem dX11_fillWaited_6 : decode cX11_fillWaited 6 = .ok (.getfield 12, 3) := by decide +kernel
theorem dX11_fillWaited_9 : decode cX11_fillWaited 9 = .ok (.getfield 171, 3) := by decide +kernel
theorem dX11_fillWaited_12 : decode cX11_fillWaited 12 = .ok (.getfield 66, 3) := by decide +kernel
theorem dX11_fillWaited_15 : decode cX11_fillWaited 15 = .ok (.if_icmp .ge 64, 3) := by decide +kernel
theorem dX11_fillWaited_18 : decode cX11_fillWaited 18 = .ok (.iload_n 2, 1) := by decide +kernel
theorem dX11_fillWaited_19 : decode cX11_fillWaited 19 = .ok (.aload_n 0, 1) := by decide +kernel
theorem dX11_fillWaited_20 : decode cX11_fillWaited 20 = .ok (.getfield 51, 3) := by decide +kernel
theorem dX11_fillWaited_23 : decode cX11_fillWaited 23 = .ok (.arraylength, 1) := by decide +kernel
theorem dX11_fillWaited_24 : decode cX11_fillWaited 24 = .ok (.if_icmp .ge 55, 3) := by decide +kernel
theorem dX11_fillWaited_27 : decode cX11_fillWaited 27 = .ok (.aload_n 0, 1) := by decide +kernel
theorem dX11_fillWaited_28 : decode cX11_fillWaited 28 = .ok (.getfield 12, 3) := by decide +kernel
theorem dX11_fillWaited_31 : decode cX11_fillWaited 31 = .ok (.getfield 171, 3) := by decide +kernel
theorem dX11_fillWaited_34 : decode cX11_fillWaited 34 = .ok (.iload_n 2, 1) := by decide +kernel
theorem dX11_fillWaited_35 : decode cX11_fillWaited 35 = .ok (.invokevirtual 99, 3) := by decide +kernel
theorem dX11_fillWaited_38 : decode cX11_fillWaited 38 = .ok (.istore_n 3, 1) := by decide +kernel
theorem dX11_fillWaited_39 : decode cX11_fillWaited 39 = .ok (.aload_n 0, 1) := by decide +kernel
theorem dX11_fillWaited_40 : decode cX11_fillWaited 40 = .ok (.getfield 51, 3) := by decide +kernel
theorem dX11_fillWaited_43 : decode cX11_fillWaited 43 = .ok (.iload_n 2, 1) := by decide +kernel
theorem dX11_fillWaited_44 : decode cX11_fillWaited 44 = .ok (.aload_n 0, 1) := by decide +kernel
theorem dX11_fillWaited_45 : decode cX11_fillWaited 45 = .ok (.iload_n 3, 1) := by decide +kernel
theorem dX11_fillWaited_46 : decode cX11_fillWaited 46 = .ok (.aload_n 0, 1) := by decide +kernel
theorem dX11_fillWaited_47 : decode cX11_fillWaited 47 = .ok (.getfield 12, 3) := by decide +kernel
theorem dX11_fillWaited_50 : decode cX11_fillWaited 50 = .ok (.getfield 87, 3) := by decide +kernel
theorem dX11_fillWaited_53 : decode cX11_fillWaited 53 = .ok (.iload_n 3, 1) := by decide +kernel
theorem dX11_fillWaited_54 : decode cX11_fillWaited 54 = .ok (.invokestatic 207, 3) := by decide +kernel
theorem dX11_fillWaited_57 : decode cX11_fillWaited 57 = .ok (.invokevirtual 99, 3) := by decide +kernel
theorem dX11_fillWaited_60 : decode cX11_fillWaited 60 = .ok (.invokevirtual 260, 3) := by decide +kernel
theorem dX11_fillWaited_63 : decode cX11_fillWaited 63 = .ok (.iastore, 1) := by decide +kernel
theorem dX11_fillWaited_64 : decode cX11_fillWaited 64 = .ok (.iload_n 1, 1) := by decide +kernel
theorem dX11_fillWaited_65 : decode cX11_fillWaited 65 = .ok (.aload_n 0, 1) := by decide +kernel
theorem dX11_fillWaited_66 : decode cX11_fillWaited 66 = .ok (.getfield 51, 3) := by decide +kernel
theorem dX11_fillWaited_69 : decode cX11_fillWaited 69 = .ok (.iload_n 2, 1) := by decide +kernel
theorem dX11_fillWaited_70 : decode cX11_fillWaited 70 = .ok (.iaload, 1) := by decide +kernel
theorem dX11_fillWaited_71 : decode cX11_fillWaited 71 = .ok (.iadd, 1) := by decide +kernel
theorem dX11_fillWaited_72 : decode cX11_fillWaited 72 = .ok (.istore_n 1, 1) := by decide +kernel
theorem dX11_fillWaited_73 : decode cX11_fillWaited 73 = .ok (.iinc 2 1, 3) := by decide +kernel
theorem dX11_fillWaited_76 : decode cX11_fillWaited 76 = .ok (.goto (-72), 3) := by decide +kernel
theorem dX11_fillWaited_79 : decode cX11_fillWaited 79 = .ok (.iload_n 1, 1) := by decide +kernel
theorem dX11_fillWaited_80 : decode cX11_fillWaited 80 = .ok (.ireturn, 1) := by decide +kernel
set_option maxRecDepth 100000 in
set_option maxHeartbeats 4000000 in
theorem x_fill (l : Launch) (g : zG) {h : Hp} {x ca cs N T T2 tn : Nat} {S S2 Bt : Nat → Int32} {Q Q2 : pP} {n n2 : Nat → Nat} {im : Int32}  (hc : cH g h x ca cs N S T Q n S2 T2 Q2 n2 im Bt tn) : Sp l g yX11_fillWaited cX11_fillWaited 4 (some .int) (rmz 10) [.ref x] (h) (zI fun r h' => r = nI (wS S T Q (n 3)) ∧ cH g h' x ca cs N S T Q n S2 T2 Q2 n2 im Bt tn ∧ only x (x + 54) h h' ∧ ∃ f, wtd g h' x f ∧ ∀ i, i < n 3 → f i = nI (w1 S T Q i)) := by
  refine Sp.of [some (.ref x), none, none, none] (by decide) (Nat.le_of_ble_eq_true rfl) rfl rfl ?_
  rintro X rfl hr rfl B
  show AW X 0 0 0 _ _ _ _
  obtain ⟨vS, vR, vC, vA, vE, vL, vT, vH⟩ := hc.v
  have e0 := vS.2.1
  have e1 := vR.2.1
  have e2 := vC.2.1
  have e3 := vA.2.1
  have e4 := vE.2.1
  have e5 := vL.2.1
  have e6 := vT.2
  have e8 := vH.1
  have b0 := vS.1
  have b1 := vR.1
  have b2' := vC.1
  have b3 := vA.1
  have b4 := vE.1
  have b5 := vL.1
  have b6 := vT.1
  have b8 := vH.2.1
  have O : only x (x + 54) h h := only.rf
  refine aw_iconst B 0 (by decide) dX11_fillWaited_0 ?_
  refine aw_istore1 B dX11_fillWaited_1 ?_
  refine aw_iconst B 0 (by decide) dX11_fillWaited_2 ?_
  refine aw_istore2 B dX11_fillWaited_3 ?_
  have lp : ∀ (fu : Nat) (j : Nat) (o3 : Option Value) (h1 : Hp), fu + j = n 3 → (∃ f, wtd (zXg X) h1 x f ∧ ∀ i, i < j → f i = nI (w1 S T Q i)) → cH (zXg X) h1 x ca cs N S T Q n S2 T2 Q2 n2 im Bt tn → only x (x + 54) h h1 → AW X 0 0 4 [some (.ref x), some (.int (nI (wS S T Q j))), some (.int (nI j)), o3] [] h1 (zI fun r h' => r = nI (wS S T Q (n 3)) ∧ cH (zXg X) h' x ca cs N S T Q n S2 T2 Q2 n2 im Bt tn ∧ only x (x + 54) h h' ∧ ∃ f, wtd (zXg X) h' x f ∧ ∀ i, i < n 3 → f i = nI (w1 S T Q i)) := by
    intro fu
    induction fu with
    | zero =>
      intro j o3 h1 hb hw hc O
      obtain rfl : j = n 3 := by omega
      refine aw_iload_n B 2 rfl dX11_fillWaited_4 rfl ?_
      refine aw_aload_n B 0 rfl dX11_fillWaited_5 rfl ?_
      refine aw_get B f_X11_12 dX11_fillWaited_6 hc.ox rfl ?_
      refine aw_get B f_X11_171 dX11_fillWaited_9 hc.s rfl ?_
      refine aw_get B f_X11_66 dX11_fillWaited_12 (hc.asks).o rfl ?_
      refine aw_icmp_ge B 79 dX11_fillWaited_15 (fun c15 => ?_) (fun c15 => absurd (Int32.le_refl _) c15)
      refine aw_iload_n B 1 rfl dX11_fillWaited_79 rfl ?_
      refine aw_iret B rfl rfl dX11_fillWaited_80 ?_
      exact ⟨_, rfl, rfl, hc, O, hw⟩
    | succ fu ih =>
      intro j o3 h1 hb hw hc O
      obtain ⟨⟨rr, hrr, er⟩, ⟨ss, hss, es⟩, aa, haa, ea⟩ := vA.2.2 j (by omega)
      have ev : askV S j = nI (10000 * rr + 100 * ss + aa) := tk_v er es ea
      obtain ⟨f, hwf, hwi⟩ := hw
      have tk1 := tk_r (r := rr) (s := ss) (a := aa) (by omega) (by omega) (by omega)
      obtain ⟨sh, -, s8, esh⟩ := (vS.2.2 ss hss).1
      refine aw_iload_n B 2 rfl dX11_fillWaited_4 rfl ?_
      refine aw_aload_n B 0 rfl dX11_fillWaited_5 rfl ?_
      refine aw_get B f_X11_12 dX11_fillWaited_6 hc.ox rfl ?_
      refine aw_get B f_X11_171 dX11_fillWaited_9 hc.s rfl ?_
      refine aw_get B f_X11_66 dX11_fillWaited_12 (hc.asks).o rfl ?_
      refine aw_icmp_ge B 79 dX11_fillWaited_15 (fun c15 => absurd ((nI_leI (by omega) (by omega)).mp c15) (by omega)) (fun c15 => ?_)
      refine aw_iload_n B 2 rfl dX11_fillWaited_18 rfl ?_
      refine aw_aload_n B 0 rfl dX11_fillWaited_19 rfl ?_
      refine aw_get B f_X11_51 dX11_fillWaited_20 hc.ox rfl ?_
      refine aw_alen B dX11_fillWaited_23 hwf (Or.inl rfl) ?_
      refine aw_icmp_ge B 79 dX11_fillWaited_24 (fun c24 => absurd c24 (Int32.not_le.mpr (show nI j < nI 8 from nI_lt (by omega) (by decide)))) (fun c24 => ?_)
      refine aw_aload_n B 0 rfl dX11_fillWaited_27 rfl ?_
      refine aw_get B f_X11_12 dX11_fillWaited_28 hc.ox rfl ?_
      refine aw_get B f_X11_171 dX11_fillWaited_31 hc.s rfl ?_
      refine aw_iload_n B 2 rfl dX11_fillWaited_34 rfl ?_
      refine aw_callV B 0 0 (t_get _ _ _ _ 8 _ _ (j) (by decide) (by omega) (by omega) hc.asks) co_X7_get k_X11_99 dX11_fillWaited_35 hc.asks.o rfl rfl rfl rfl (Nat.le_of_ble_eq_true rfl) (zrm hr (by omega)) (Nat.le_refl _) (Nat.le_refl _) (kI fun r35 h35 hp35 => ?_)
      obtain ⟨rfl, eh35⟩ := hp35
      rw [eh35]
      rw [ev]
      refine aw_istore3 B dX11_fillWaited_38 ?_
      refine aw_aload_n B 0 rfl dX11_fillWaited_39 rfl ?_
      refine aw_get B f_X11_51 dX11_fillWaited_40 hc.ox rfl ?_
      refine aw_iload_n B 2 rfl dX11_fillWaited_43 rfl ?_
      refine aw_aload_n B 0 rfl dX11_fillWaited_44 rfl ?_
      refine aw_iload_n B 3 rfl dX11_fillWaited_45 rfl ?_
      refine aw_aload_n B 0 rfl dX11_fillWaited_46 rfl ?_
      refine aw_get B f_X11_12 dX11_fillWaited_47 hc.ox rfl ?_
      refine aw_get B f_X11_87 dX11_fillWaited_50 hc.s rfl ?_
      refine aw_iload_n B 3 rfl dX11_fillWaited_53 rfl ?_
      refine aw_callS B 0 0 (x_slateIn _ _ _ _) co_X11_slateIn k_X11_207 dX11_fillWaited_54 rfl rfl (Nat.le_of_ble_eq_true rfl) (zrm hr (by omega)) (Nat.le_refl _) (Nat.le_refl _) (kI fun r54 h54 hp54 => ?_)
      obtain ⟨rfl, eh54⟩ := hp54
      rw [eh54]
      rw [tk1.2.1]
      refine aw_callV B 0 0 (t_get _ _ _ _ 6 _ _ (ss) (by decide) (by omega) (by omega) hc.shelves) co_X7_get k_X11_99 dX11_fillWaited_57 hc.shelves.o rfl rfl rfl rfl (Nat.le_of_ble_eq_true rfl) (zrm hr (by omega)) (Nat.le_refl _) (Nat.le_refl _) (kI fun r57 h57 hp57 => ?_)
      obtain ⟨rfl, eh57⟩ := hp57
      rw [eh57]
      rw [esh]
      refine aw_callV B 0 0 (x_waitOn _ _ rr ss aa sh hc hrr hss (by omega) s8) co_X11_waitOn k_X11_260 dX11_fillWaited_60 hc.ox rfl rfl rfl rfl (Nat.le_of_ble_eq_true rfl) (zrm hr (by omega)) (Nat.le_refl _) (Nat.le_refl _) (kI fun r60 h60 hp60 => ?_)
      obtain ⟨rfl, hc, o60⟩ := hp60
      have O := O.tr (cvo hc.d o60)
      have hwf : wtd (zXg X) h60 x f := (o60.2 _ (by have := hc.d; omega)).trans hwf
      refine aw_iast B dX11_fillWaited_63 hwf (vp_in_nI (show j < 8 by omega) (by decide)) ?_
      rw [nI_clamp (by omega)]
      have O := O.tr (only.up (h := h60) (a := x + 53) (e := .inl ((zXg X).2.2.1.1, 8, .inl (upd f j (nI (wO S T Q rr ss aa sh))))) (lo := x) (hi := x + 54) (by omega) (by omega))
      have hc := hc.wt (f := upd f j (nI (wO S T Q rr ss aa sh)))
      have hwf : wtd (zXg X) _ x _ := hu_s (h := h60) (a := x + 53) (e := .inl ((zXg X).2.2.1.1, 8, .inl (upd f j (nI (wO S T Q rr ss aa sh)))))
      refine aw_iload_n B 1 rfl dX11_fillWaited_64 rfl ?_
      refine aw_aload_n B 0 rfl dX11_fillWaited_65 rfl ?_
      refine aw_get B f_X11_51 dX11_fillWaited_66 hc.ox rfl ?_
      refine aw_iload_n B 2 rfl dX11_fillWaited_69 rfl ?_
      refine aw_iald B dX11_fillWaited_70 hwf (vp_in_nI (show j < 8 by omega) (by decide)) ?_
      rw [nI_clamp (by omega), upd_s]
      refine aw_iadd B dX11_fillWaited_71 ?_
      refine aw_istore1 B dX11_fillWaited_72 ?_
      refine aw_iinc2 B 1 (by decide) dX11_fillWaited_73 ?_
      refine aw_goto B 4 dX11_fillWaited_76 ?_
      have ew : w1 S T Q j = wO S T Q rr ss aa sh := w1_wO (by omega) (by omega) (by omega) s8 (by omega) er es ea (fun _ _ => rfl) esh
      rw [nI_add, nI_1]
      rw [← ew] at hwf hc O ⊢
      refine ih (j + 1) _ _ (by omega) ⟨_, hwf, fun i hi => ?_⟩ hc O
      unfold upd
      by_cases e : i = j
      · rw [if_pos e, e]
      · rw [if_neg e]; exact hwi i (by omega)
  obtain ⟨f, hwf⟩ := hc.2.2.2.2.2.2.2.2.1
  exact lp (n 3) 0 _ _ (by omega) ⟨f, hwf, fun i hi => absurd hi (Nat.not_lt_zero _)⟩ hc O
theorem dX11_waits_0 : decode cX11_waits 0 = .ok (.aload_n 0, 1) := by decide +kernel
theorem dX11_waits_1 : decode cX11_waits 1 = .ok (.invokevirtual 178, 3) := by decide +kernel
theorem dX11_waits_4 : decode cX11_waits 4 = .ok (.ireturn, 1) := by decide +kernel
set_option maxRecDepth 100000 in
set_option maxHeartbeats 4000000 in
theorem x_waits (l : Launch) (g : zG) {h : Hp} {x ca cs N T T2 tn : Nat} {S S2 Bt : Nat → Int32} {Q Q2 : pP} {n n2 : Nat → Nat} {im : Int32}  (hc : cH g h x ca cs N S T Q n S2 T2 Q2 n2 im Bt tn) : Sp l g yX11_waits cX11_waits 1 (some .int) (rmz 12) [.ref x] (h) (zI fun r h' => r = nI (wS S T Q (n 3)) ∧ cH g h' x ca cs N S T Q n S2 T2 Q2 n2 im Bt tn ∧ only x (x + 54) h h') := by
  refine Sp.of [some (.ref x)] (by decide) (Nat.le_of_ble_eq_true rfl) rfl rfl ?_
  rintro X rfl hr rfl B
  show AW X 0 0 0 _ _ _ _
  obtain ⟨vS, vR, vC, vA, vE, vL, vT, vH⟩ := hc.v
  have e0 := vS.2.1
  have e1 := vR.2.1
  have e2 := vC.2.1
  have e3 := vA.2.1
  have e4 := vE.2.1
  have e5 := vL.2.1
  have e6 := vT.2
  have e8 := vH.1
  have b0 := vS.1
  have b1 := vR.1
  have b2' := vC.1
  have b3 := vA.1
  have b4 := vE.1
  have b5 := vL.1
  have b6 := vT.1
  have b8 := vH.2.1
  have O : only x (x + 54) h h := only.rf
  refine aw_aload_n B 0 rfl dX11_waits_0 rfl ?_
  refine aw_callV B 0 0 (x_fill _ _ hc) co_X11_fillWaited k_X11_178 dX11_waits_1 hc.ox rfl rfl rfl rfl (Nat.le_of_ble_eq_true rfl) (zrm hr (by omega)) (Nat.le_refl _) (Nat.le_refl _) (kI fun r1 h1 hp1 => ?_)
  obtain ⟨rfl, hc, o1, -⟩ := hp1
  have O := O.tr o1
  refine aw_iret B rfl rfl dX11_waits_4 ?_
  exact ⟨_, rfl, rfl, hc, O⟩
