theorem iS.ext {S S' : Nat → Int32} {n0 : Nat} (p : iS S n0) (e : ∀ i, i = 0 ∨ (10 ≤ i ∧ i < 22) → S' i = S i) : iS S' n0 := by
  have := p.1
  exact ⟨p.1, (e 0 (by omega)).trans p.2.1, fun k hk => by rw [e (10 + k) (by omega), e (16 + k) (by omega)]; exact p.2.2 k hk⟩
theorem iR.ext {S S' : Nat → Int32} {n1 : Nat} (p : iR S n1) (e : ∀ i, i = 1 ∨ (22 ≤ i ∧ i < 30) → S' i = S i) : iR S' n1 := by
  have := p.1
  exact ⟨p.1, (e 1 (by omega)).trans p.2.1, fun k hk => by rw [e (22 + k) (by omega), e (26 + k) (by omega)]; exact p.2.2 k hk⟩
theorem iA.ext {S S' : Nat → Int32} {n0 n1 n3 : Nat} (p : iA S n0 n1 n3) (e : ∀ i, i = 3 ∨ (30 ≤ i ∧ i < 54) → S' i = S i) : iA S' n0 n1 n3 := by
  have := p.1
  exact ⟨p.1, (e 3 (by omega)).trans p.2.1, fun k hk => by rw [e (30 + k) (by omega), e (38 + k) (by omega), e (46 + k) (by omega)]; exact p.2.2 k hk⟩
theorem iE.ext {S S' : Nat → Int32} {n4 : Nat} (p : iE S n4) (e : ∀ i, i = 4 ∨ (54 ≤ i ∧ i < 70) → S' i = S i) : iE S' n4 := by
  have := p.1
  exact ⟨p.1, (e 4 (by omega)).trans p.2.1, fun k hk => by rw [e (54 + k) (by omega), e (62 + k) (by omega)]; exact p.2.2 k hk⟩
theorem iL.ext {S S' : Nat → Int32} {n0 n1 n5 : Nat} (p : iL S n0 n1 n5) (e : ∀ i, i = 5 ∨ (70 ≤ i ∧ i < 94) → S' i = S i) : iL S' n0 n1 n5 := by
  have := p.1
  exact ⟨p.1, (e 5 (by omega)).trans p.2.1, fun k hk => by rw [e (70 + k) (by omega), e (78 + k) (by omega), e (86 + k) (by omega)]; exact p.2.2 k hk⟩
theorem pAt.ext {S S' : Nat → Int32} {c : Nat} {Q : pP} (p : pAt S c Q) (e : ∀ i, 194 ≤ i ∧ i < 899 → S' i = S i) : pAt S' c Q := by
  obtain ⟨p1, p2, p3, p4⟩ := p
  exact ⟨p1, p2, (e _ (by omega)).trans p3, fun i hi => (e _ (by omega)).trans (p4 i hi)⟩
def iC (S : Nat → Int32) (Q : pP) (k : Nat) : Prop := k ≤ 5 ∧ S 2 = nI k ∧ ((S 7 = -1 ∧ Q = []) ∨ ∃ c, c < k ∧ S 7 = nI c ∧ pAt S c Q)
theorem iC.ext {S S' : Nat → Int32} {Q : pP} {k : Nat} (p : iC S Q k) (e : ∀ i, i = 2 ∨ i = 7 ∨ (194 ≤ i ∧ i < 899) → S' i = S i) : iC S' Q k := by
  obtain ⟨p1, p2, p3⟩ := p
  refine ⟨p1, (e _ (by omega)).trans p2, ?_⟩
  rcases p3 with ⟨h1, h2⟩ | ⟨c, h1, h2, h3⟩
  · exact Or.inl ⟨(e _ (by omega)).trans h1, h2⟩
  · exact Or.inr ⟨c, h1, (e _ (by omega)).trans h2, h3.ext (fun i hi => e i (by omega))⟩
theorem rwI.ext {g : zG} {h : Hp} {r M k : Nat} {V V' : Nat → Int32} (p : rwI g h r M k V) (e : ∀ q, q < k → V' q = V q) : rwI g h r M k V' := by
  obtain ⟨p0, f, p1, p2⟩ := p
  exact ⟨p0, f, p1, fun q h1 h2 => (p2 q h1 h2).trans (e q h1).symm⟩
theorem rdI.ext {g : zG} {h : Hp} {y s n1 : Nat} {S S' : Nat → Int32} (p : rdI g h y s S n1) (h4 : n1 ≤ 4) (e : ∀ i, 22 ≤ i → i < 30 → S' i = S i) : rdI g h y s S' n1 := by
  obtain ⟨ra, p1, p2, p3⟩ := p
  refine ⟨ra, p1, p2, fun r hr => ?_⟩
  obtain ⟨a, k, v, b1, b2, b3, b4, b5, b6, b7⟩ := p3 r hr
  exact ⟨a, k, v, b1, b2, b3, b4, (e _ (by omega) (by omega)).trans b5, (e _ (by omega) (by omega)).trans b6, b7⟩
theorem stI.re {g : zG} {h h' : Hp} {y s ca : Nat} {S S' : Nat → Int32} {Q : pP} {n n' : Nat → Nat} (p : stI g h y s ca S Q n) (h4 : n 1 ≤ 4) (f : ∀ a, a = s ∨ a = s + 5 ∨ (ca ≤ a ∧ a < ca + 4) → h'.2 a = h.2 a) (q2 : ∀ a e, y ≤ a → h.2 a = some e → h'.2 a = some e) (e8 : S' 8 = S 8) (e2 : S' 2 = S 2) (e1 : S' 1 = S 1) (er : ∀ i, 22 ≤ i → i < 30 → S' i = S i) (en : n' 1 = n 1)
    (w1 : rwI g h' (s + 6) 100 (n' 6) (fun q => S' (94 + q))) (w2 : rwI g h' (s + 8) 6 (n' 0) (fun q => S' (10 + q))) (w3 : rwI g h' (s + 10) 6 (n' 0) (fun q => S' (16 + q))) (w4 : rwI g h' (s + 12) 8 (n' 3) (askV S')) (w5 : rwI g h' (s + 14) 8 (n' 4) (seenV S')) (w6 : rwI g h' (s + 16) 8 (n' 5) (taleV S')) : stI g h' y s ca S' Q n' := by
  obtain ⟨p1, p2, p3, -⟩ := p
  refine ⟨by rw [e8, e2, e1]; exact (f _ (Or.inl rfl)).trans p1, p2.same (fun a ha => f a (by omega)), ?_, w1, w2, w3, w4, w5, w6⟩
  rw [en]
  exact (p3.same (f _ (by omega)) q2).ext h4 er
theorem askV.ext {S S' : Nat → Int32} {q : Nat} (h : q < 8) (e : ∀ i, 30 ≤ i ∧ i < 54 → S' i = S i) : askV S' q = askV S q := by
  unfold askV
  rw [e _ (by omega), e _ (by omega), e _ (by omega)]
theorem taleV.ext {S S' : Nat → Int32} {q : Nat} (h : q < 8) (e : ∀ i, 70 ≤ i ∧ i < 94 → S' i = S i) : taleV S' q = taleV S q := by
  unfold taleV
  rw [e _ (by omega), e _ (by omega), e _ (by omega)]
theorem seenV.ext {S S' : Nat → Int32} {q : Nat} (h : q < 8) (e : ∀ i, 54 ≤ i ∧ i < 70 → S' i = S i) : seenV S' q = seenV S q := by
  unfold seenV
  rw [e _ (by omega), e _ (by omega)]
theorem full_t {M k : Nat} (c : ¬ (if M ≤ k then (1 : Int32) else 0) = 0) (h : k ≤ M) : nI k = nI M := by
  by_cases e : M ≤ k
  · rw [show k = M by omega]
  · rw [if_neg e] at c; exact absurd rfl c
theorem full_f {M k : Nat} (c : (if M ≤ k then (1 : Int32) else 0) = 0) : k < M := by
  by_cases e : M ≤ k
  · rw [if_pos e] at c; exact absurd c (by decide)
  · omega
theorem dX11_feed_0 : decode cX11_feed 0 = .ok (.iload_n 1, 1) := by decide +kernel
theorem dX11_feed_1 : decode cX11_feed 1 = .ok (.ifCond .lt 9, 3) := by decide +kernel
theorem dX11_feed_4 : decode cX11_feed 4 = .ok (.iload_n 1, 1) := by decide +kernel
theorem dX11_feed_5 : decode cX11_feed 5 = .ok (.bipush 127, 2) := by decide +kernel
theorem dX11_feed_7 : decode cX11_feed 7 = .ok (.if_icmp .le 6, 3) := by decide +kernel
theorem dX11_feed_10 : decode cX11_feed 10 = .ok (.bipush (-2), 2) := by decide +kernel
theorem dX11_feed_12 : decode cX11_feed 12 = .ok (.ireturn, 1) := by decide +kernel
theorem dX11_feed_13 : decode cX11_feed 13 = .ok (.aload_n 0, 1) := by decide +kernel
theorem dX11_feed_14 : decode cX11_feed 14 = .ok (.getfield 12, 3) := by decide +kernel
theorem dX11_feed_17 : decode cX11_feed 17 = .ok (.getfield 55, 3) := by decide +kernel
theorem dX11_feed_20 : decode cX11_feed 20 = .ok (.invokevirtual 58, 3) := by decide +kernel
theorem dX11_feed_23 : decode cX11_feed 23 = .ok (.ifCond .eq 6, 3) := by decide +kernel
theorem dX11_feed_26 : decode cX11_feed 26 = .ok (.bipush (-4), 2) := by decide +kernel
theorem dX11_feed_28 : decode cX11_feed 28 = .ok (.ireturn, 1) := by decide +kernel
theorem dX11_feed_29 : decode cX11_feed 29 = .ok (.aload_n 0, 1) := by decide +kernel
theorem dX11_feed_30 : decode cX11_feed 30 = .ok (.getfield 12, 3) := by decide +kernel
theorem dX11_feed_33 : decode cX11_feed 33 = .ok (.getfield 55, 3) := by decide +kernel
theorem dX11_feed_36 : decode cX11_feed 36 = .ok (.iload_n 1, 1) := by decide +kernel
theorem dX11_feed_37 : decode cX11_feed 37 = .ok (.invokevirtual 62, 3) := by decide +kernel
theorem dX11_feed_40 : decode cX11_feed 40 = .ok (.aload_n 0, 1) := by decide +kernel
theorem dX11_feed_41 : decode cX11_feed 41 = .ok (.getfield 12, 3) := by decide +kernel
theorem dX11_feed_44 : decode cX11_feed 44 = .ok (.getfield 55, 3) := by decide +kernel
theorem dX11_feed_47 : decode cX11_feed 47 = .ok (.getfield 66, 3) := by decide +kernel
theorem dX11_feed_50 : decode cX11_feed 50 = .ok (.ireturn, 1) := by decide +kernel
set_option maxRecDepth 100000 in
set_option maxHeartbeats 4000000 in
theorem x_feed (l : Launch) (g : zG) {h : Hp} {x ca cs N T T2 tn : Nat} {S S2 Bt : Nat → Int32} {Q Q2 : pP} {n n2 : Nat → Nat} {im : Int32} (i : Int32) (hc : cH g h x ca cs N S T Q n S2 T2 Q2 n2 im Bt tn) : Sp l g yX11_feed cX11_feed 2 (some .int) (rmz 2) [.ref x, .int i] (h) (zI fun r h' => r = (q_feed S i).1 ∧ (∃ T' n', cH g h' x ca cs N (q_feed S i).2 T' Q n' S2 T2 Q2 n2 im Bt tn) ∧ only x (x + 54) h h') := by
  refine Sp.of [some (.ref x), some (.int i)] (by decide) (Nat.le_of_ble_eq_true rfl) rfl rfl ?_
  rintro X rfl hr rfl B
  show AW X 0 0 0 _ _ _ _
  obtain ⟨vS, vR, vC, vA, vE, vL, vT, vH⟩ := hc.v
  have e0 := vS.2.1
  have e1 := vR.2.1
  have e2 := vC.2.1
  have e3 := vA.2.1
  have e4 := vE.2.1
  have e5 := vL.2.1
  have e6 := vT.2
  have e8 := vH.1
  have b0 := vS.1
  have b1 := vR.1
  have b2' := vC.1
  have b3 := vA.1
  have b4 := vE.1
  have b5 := vL.1
  have b6 := vT.1
  have b8 := vH.2.1
  have O : only x (x + 54) h h := only.rf
  have hd := hc.d
  refine aw_iload_n B 1 rfl dX11_feed_0 rfl ?_
  refine aw_if_lt B 10 dX11_feed_1 (fun c1 => ?_) (fun c1 => ?_)
  · refine aw_bipush B (-2) (by decide) dX11_feed_10 ?_
    refine aw_iret B rfl rfl dX11_feed_12 ?_
    have hq : q_feed S i = (-2, S) := by unfold q_feed; rw [bI_f (fun z => absurd z.1 (Int32.not_le.mpr c1)), if_pos rfl]
    rw [hq]
    exact ⟨_, rfl, rfl, ⟨T, n, hc⟩, O⟩
  · refine aw_iload_n B 1 rfl dX11_feed_4 rfl ?_
    refine aw_bipush B 127 (by decide) dX11_feed_5 ?_
    refine aw_icmp_le B 13 dX11_feed_7 (fun c7 => ?_) (fun c7 => ?_)
    · refine aw_aload_n B 0 rfl dX11_feed_13 rfl ?_
      refine aw_get B f_X11_12 dX11_feed_14 hc.ox rfl ?_
      refine aw_get B f_X11_55 dX11_feed_17 hc.s rfl ?_
      refine aw_callV B 0 0 (t_full _ _ _ _ 100 _ _ (by decide) hc.tape) co_X7_isFull k_X11_58 dX11_feed_20 hc.tape.o rfl rfl rfl rfl (Nat.le_of_ble_eq_true rfl) (zrm hr (by omega)) (Nat.le_refl _) (Nat.le_refl _) (kI fun r20 h20 hp20 => ?_)
      obtain ⟨rfl, eh20⟩ := hp20
      rw [eh20]
      refine aw_if_eq B 29 dX11_feed_23 (fun c23 => ?_) (fun c23 => ?_)
      · have h6 := full_f c23
        have hin : 0 ≤ i ∧ i ≤ 127 := ⟨Int32.not_lt.mp c1, c7⟩
        have h100 : ¬ S 6 = 100 := fun z => by rw [e6] at z; have := (nI_eq (b := 100) (by omega) (by decide)).mp z; omega
        refine aw_aload_n B 0 rfl dX11_feed_29 rfl ?_
        refine aw_get B f_X11_12 dX11_feed_30 hc.ox rfl ?_
        refine aw_get B f_X11_55 dX11_feed_33 hc.s rfl ?_
        refine aw_iload_n B 1 rfl dX11_feed_36 rfl ?_
        refine aw_callV B 0 0 (t_add _ _ _ _ 100 _ _ (i) (by decide) (by omega) hc.tape) co_X7_add k_X11_62 dX11_feed_37 hc.tape.o rfl rfl rfl rfl (Nat.le_of_ble_eq_true rfl) (zrm hr (by omega)) (Nat.le_refl _) (Nat.le_refl _) (kV fun h37 hp37 => ?_)
        obtain ⟨r37, o37⟩ := hp37
        have O := O.tr (o37.wide (lo' := x) (hi' := x + 54) (by omega) (by omega))
        have ag : ∀ jj, jj ≠ 6 ∧ ¬ (94 ≤ jj ∧ jj < 194) → (upd (upd S (94 + n 6) i) 6 (nI (n 6 + 1))) jj = S jj := fun jj hi => by rw [upd_n (by omega), upd_n (by omega)]
        have hc := hc.now (S' := upd (upd S (94 + n 6) i) 6 (nI (n 6 + 1))) (T' := T) (Q' := Q) (n' := upN n 6 (n 6 + 1)) (fun a h1 h2 => o37.2 a (by omega)) (fun a e h1 h2 => (o37.2 a (by omega)).trans h2) (hc.st.re b1 (fun a ha => o37.2 a (by omega)) (fun a e h1 h2 => (o37.2 a (by omega)).trans h2) (ag _ (by omega)) (ag _ (by omega)) (ag _ (by omega)) (fun jj h1 h2 => ag jj (by omega)) rfl (show rwI (zXg X) h37 (x + 7) 100 (n 6 + 1) _ from r37.ext (fun q hq => by
          show upd (upd S (94 + n 6) i) 6 (nI (n 6 + 1)) (94 + q) = upd (fun q => S (94 + q)) (n 6) i q
          rw [upd_n (by omega)]
          by_cases e : q = n 6
          · subst e; rw [upd_s, upd_s]
          · rw [upd_n (by omega), upd_n e])) ((hc.shelves.same (fun a ha => o37.2 a (by omega))).ext (fun q hq => ag _ (by omega))) ((hc.lines.same (fun a ha => o37.2 a (by omega))).ext (fun q hq => ag _ (by omega))) ((hc.asks.same (fun a ha => o37.2 a (by omega))).ext (fun q hq => askV.ext (by omega) (fun jj hi => ag jj (by omega)))) ((hc.seen.same (fun a ha => o37.2 a (by omega))).ext (fun q hq => seenV.ext (by omega) (fun jj hi => ag jj (by omega)))) ((hc.tales.same (fun a ha => o37.2 a (by omega))).ext (fun q hq => taleV.ext (by omega) (fun jj hi => ag jj (by omega))))) ⟨vS.ext (fun jj hi => ag jj (by omega)), vR.ext (fun jj hi => ag jj (by omega)), (show iC S Q (n 2) from vC).ext (fun jj hi => ag jj (by omega)), vA.ext (fun jj hi => ag jj (by omega)), vE.ext (fun jj hi => ag jj (by omega)), vL.ext (fun jj hi => ag jj (by omega)), ⟨by show n 6 + 1 ≤ 100; omega, upd_s⟩, ⟨(ag 8 (by omega)).trans e8, b8, vH.2.2⟩⟩
        have hq : q_feed S i = (nI (n 6 + 1), upd (upd S (94 + n 6) i) 6 (nI (n 6 + 1))) := by unfold q_feed; rw [bI_t hin, if_neg (by decide), if_neg h100, e6, nI_clamp (by omega), nI_1]
        refine aw_aload_n B 0 rfl dX11_feed_40 rfl ?_
        refine aw_get B f_X11_12 dX11_feed_41 hc.ox rfl ?_
        refine aw_get B f_X11_55 dX11_feed_44 hc.s rfl ?_
        refine aw_get B f_X11_66 dX11_feed_47 (hc.tape).o rfl ?_
        refine aw_iret B rfl rfl dX11_feed_50 ?_
        rw [hq]
        exact ⟨_, rfl, rfl, ⟨T, _, hc⟩, O⟩
      · refine aw_bipush B (-4) (by decide) dX11_feed_26 ?_
        refine aw_iret B rfl rfl dX11_feed_28 ?_
        have hq : q_feed S i = (-4, S) := by unfold q_feed; rw [bI_t ⟨Int32.not_lt.mp c1, c7⟩, if_neg (by decide), e6, if_pos (show nI (n 6) = (100 : Int32) from full_t c23 b6)]
        rw [hq]
        exact ⟨_, rfl, rfl, ⟨T, n, hc⟩, O⟩
    · refine aw_bipush B (-2) (by decide) dX11_feed_10 ?_
      refine aw_iret B rfl rfl dX11_feed_12 ?_
      have hq : q_feed S i = (-2, S) := by unfold q_feed; rw [bI_f (fun z => c7 z.2), if_pos rfl]
      rw [hq]
      exact ⟨_, rfl, rfl, ⟨T, n, hc⟩, O⟩
theorem iA.mono {S : Nat → Int32} {n0 n1 n3 m0 m1 : Nat} (p : iA S n0 n1 n3) (h0 : n0 ≤ m0) (h1 : n1 ≤ m1) : iA S m0 m1 n3 := ⟨p.1, p.2.1, fun k hk => by
  obtain ⟨⟨r, a1, a2⟩, ⟨s, b1, b2⟩, c⟩ := p.2.2 k hk
  exact ⟨⟨r, by omega, a2⟩, ⟨s, by omega, b2⟩, c⟩⟩
theorem iL.mono {S : Nat → Int32} {n0 n1 n5 m0 m1 : Nat} (p : iL S n0 n1 n5) (h0 : n0 ≤ m0) (h1 : n1 ≤ m1) : iL S m0 m1 n5 := ⟨p.1, p.2.1, fun k hk => by
  obtain ⟨⟨r, a1, a2⟩, ⟨s, b1, b2⟩, c⟩ := p.2.2 k hk
  exact ⟨⟨r, by omega, a2⟩, ⟨s, by omega, b2⟩, c⟩⟩
theorem rng_b {x : Int32} {lo hi : Nat} (h : nI lo ≤ x ∧ x ≤ nI hi) (hhi : hi < 2 ^ 31) (hl : lo < 2 ^ 31) : rng x lo hi := in_rng h hhi hl
theorem stI.ob {g : zG} {h h' : Hp} {y s ca : Nat} {S S' : Nat → Int32} {Q : pP} {n : Nat → Nat} (p : stI g h y s ca S Q n) (h4 : n 1 ≤ 4) (h3 : n 3 ≤ 8 ∧ n 4 ≤ 8 ∧ n 5 ≤ 8 ∧ n 0 ≤ 6 ∧ n 6 ≤ 100) (f : ∀ a, (s + 5 ≤ a ∧ a < s + 18) ∨ (ca ≤ a ∧ a < ca + 4) → h'.2 a = h.2 a) (q2 : ∀ a e, y ≤ a → h.2 a = some e → h'.2 a = some e) (ho : h'.2 s = some (.inr (9, stO s ca (S' 8) (S' 2) (S' 1)))) (ag : ∀ i, 10 ≤ i → i < 194 → S' i = S i) : stI g h' y s ca S' Q n := by
  obtain ⟨p1, p2, p3, p4, p5, p6, p7, p8, p9⟩ := p
  exact ⟨ho, p2.same (fun a ha => f a (by omega)), (p3.same (f _ (by omega)) q2).ext h4 (fun i h1 h2 => ag i (by omega) (by omega)), (p4.same (fun a ha => f a (by omega))).ext (fun q hq => ag _ (by omega) (by omega)), (p5.same (fun a ha => f a (by omega))).ext (fun q hq => ag _ (by omega) (by omega)), (p6.same (fun a ha => f a (by omega))).ext (fun q hq => ag _ (by omega) (by omega)), (p7.same (fun a ha => f a (by omega))).ext (fun q hq => askV.ext (by omega) (fun i hi => ag i (by omega) (by omega))), (p8.same (fun a ha => f a (by omega))).ext (fun q hq => seenV.ext (by omega) (fun i hi => ag i (by omega) (by omega))), (p9.same (fun a ha => f a (by omega))).ext (fun q hq => taleV.ext (by omega) (fun i hi => ag i (by omega) (by omega)))⟩
theorem dX11_slate_0 : decode cX11_slate 0 = .ok (.iload_n 1, 1) := by decide +kernel
theorem dX11_slate_1 : decode cX11_slate 1 = .ok (.invokestatic 83, 3) := by decide +kernel
theorem dX11_slate_4 : decode cX11_slate 4 = .ok (.ifCond .ne 5, 3) := by decide +kernel
theorem dX11_slate_7 : decode cX11_slate 7 = .ok (.iconst (-1), 1) := by decide +kernel
theorem dX11_slate_8 : decode cX11_slate 8 = .ok (.ireturn, 1) := by decide +kernel
theorem dX11_slate_9 : decode cX11_slate 9 = .ok (.iload_n 2, 1) := by decide +kernel
theorem dX11_slate_10 : decode cX11_slate 10 = .ok (.iconst 1, 1) := by decide +kernel
theorem dX11_slate_11 : decode cX11_slate 11 = .ok (.if_icmp .lt 8, 3) := by decide +kernel
theorem dX11_slate_14 : decode cX11_slate 14 = .ok (.iload_n 2, 1) := by decide +kernel
theorem dX11_slate_15 : decode cX11_slate 15 = .ok (.iconst 4, 1) := by decide +kernel
theorem dX11_slate_16 : decode cX11_slate 16 = .ok (.if_icmp .le 6, 3) := by decide +kernel
theorem dX11_slate_19 : decode cX11_slate 19 = .ok (.bipush (-2), 2) := by decide +kernel
theorem dX11_slate_21 : decode cX11_slate 21 = .ok (.ireturn, 1) := by decide +kernel
theorem dX11_slate_22 : decode cX11_slate 22 = .ok (.aload_n 0, 1) := by decide +kernel
theorem dX11_slate_23 : decode cX11_slate 23 = .ok (.getfield 12, 3) := by decide +kernel
theorem dX11_slate_26 : decode cX11_slate 26 = .ok (.getfield 87, 3) := by decide +kernel
theorem dX11_slate_29 : decode cX11_slate 29 = .ok (.invokevirtual 58, 3) := by decide +kernel
theorem dX11_slate_32 : decode cX11_slate 32 = .ok (.ifCond .eq 6, 3) := by decide +kernel
theorem dX11_slate_35 : decode cX11_slate 35 = .ok (.bipush (-4), 2) := by decide +kernel
theorem dX11_slate_37 : decode cX11_slate 37 = .ok (.ireturn, 1) := by decide +kernel
theorem dX11_slate_38 : decode cX11_slate 38 = .ok (.aload_n 0, 1) := by decide +kernel
theorem dX11_slate_39 : decode cX11_slate 39 = .ok (.getfield 12, 3) := by decide +kernel
theorem dX11_slate_42 : decode cX11_slate 42 = .ok (.getfield 87, 3) := by decide +kernel
theorem dX11_slate_45 : decode cX11_slate 45 = .ok (.iload_n 1, 1) := by decide +kernel
theorem dX11_slate_46 : decode cX11_slate 46 = .ok (.invokevirtual 62, 3) := by decide +kernel
theorem dX11_slate_49 : decode cX11_slate 49 = .ok (.aload_n 0, 1) := by decide +kernel
theorem dX11_slate_50 : decode cX11_slate 50 = .ok (.getfield 12, 3) := by decide +kernel
theorem dX11_slate_53 : decode cX11_slate 53 = .ok (.getfield 90, 3) := by decide +kernel
theorem dX11_slate_56 : decode cX11_slate 56 = .ok (.iload_n 2, 1) := by decide +kernel
theorem dX11_slate_57 : decode cX11_slate 57 = .ok (.invokevirtual 62, 3) := by decide +kernel
theorem dX11_slate_60 : decode cX11_slate 60 = .ok (.aload_n 0, 1) := by decide +kernel
theorem dX11_slate_61 : decode cX11_slate 61 = .ok (.getfield 12, 3) := by decide +kernel
theorem dX11_slate_64 : decode cX11_slate 64 = .ok (.getfield 87, 3) := by decide +kernel
theorem dX11_slate_67 : decode cX11_slate 67 = .ok (.getfield 66, 3) := by decide +kernel
theorem dX11_slate_70 : decode cX11_slate 70 = .ok (.iconst 1, 1) := by decide +kernel
theorem dX11_slate_71 : decode cX11_slate 71 = .ok (.isub, 1) := by decide +kernel
theorem dX11_slate_72 : decode cX11_slate 72 = .ok (.ireturn, 1) := by decide +kernel
set_option maxRecDepth 100000 in
set_option maxHeartbeats 4000000 in
theorem x_slate (l : Launch) (g : zG) {h : Hp} {x ca cs N T T2 tn : Nat} {S S2 Bt : Nat → Int32} {Q Q2 : pP} {n n2 : Nat → Nat} {im : Int32} (u w : Int32) (hc : cH g h x ca cs N S T Q n S2 T2 Q2 n2 im Bt tn) : Sp l g yX11_slate cX11_slate 3 (some .int) (rmz 2) [.ref x, .int u, .int w] (h) (zI fun r h' => r = (q_slate S u w).1 ∧ (∃ T' n', cH g h' x ca cs N (q_slate S u w).2 T' Q n' S2 T2 Q2 n2 im Bt tn) ∧ only x (x + 54) h h') := by
  refine Sp.of [some (.ref x), some (.int u), some (.int w)] (by decide) (Nat.le_of_ble_eq_true rfl) rfl rfl ?_
  rintro X rfl hr rfl B
  show AW X 0 0 0 _ _ _ _
  obtain ⟨vS, vR, vC, vA, vE, vL, vT, vH⟩ := hc.v
  have e0 := vS.2.1
  have e1 := vR.2.1
  have e2 := vC.2.1
  have e3 := vA.2.1
  have e4 := vE.2.1
  have e5 := vL.2.1
  have e6 := vT.2
  have e8 := vH.1
  have b0 := vS.1
  have b1 := vR.1
  have b2' := vC.1
  have b3 := vA.1
  have b4 := vE.1
  have b5 := vL.1
  have b6 := vT.1
  have b8 := vH.2.1
  have O : only x (x + 54) h h := only.rf
  have hd := hc.d
  refine aw_iload_n B 1 rfl dX11_slate_0 rfl ?_
  refine aw_callS B 0 0 (x_isShelf _ _ _ u) co_X11_isShelf k_X11_83 dX11_slate_1 rfl rfl (Nat.le_of_ble_eq_true rfl) (zrm hr (by omega)) (Nat.le_refl _) (Nat.le_refl _) (kI fun r1 h1 hp1 => ?_)
  obtain ⟨rfl, eh1⟩ := hp1
  rw [eh1]
  refine aw_if_ne B 9 dX11_slate_4 (fun c4 => ?_) (fun c4 => ?_)
  · refine aw_iload_n B 2 rfl dX11_slate_9 rfl ?_
    refine aw_iconst B 1 (by decide) dX11_slate_10 ?_
    refine aw_icmp_lt B 19 dX11_slate_11 (fun c11 => ?_) (fun c11 => ?_)
    · refine aw_bipush B (-2) (by decide) dX11_slate_19 ?_
      refine aw_iret B rfl rfl dX11_slate_21 ?_
      have hq : q_slate S u w = (-2, S) := by unfold q_slate; rw [if_neg c4, bI_f (fun z => absurd z.1 (Int32.not_le.mpr c11)), if_pos rfl]
      rw [hq]
      exact ⟨_, rfl, rfl, ⟨T, n, hc⟩, O⟩
    · refine aw_iload_n B 2 rfl dX11_slate_14 rfl ?_
      refine aw_iconst B 4 (by decide) dX11_slate_15 ?_
      refine aw_icmp_le B 22 dX11_slate_16 (fun c16 => ?_) (fun c16 => ?_)
      · refine aw_aload_n B 0 rfl dX11_slate_22 rfl ?_
        refine aw_get B f_X11_12 dX11_slate_23 hc.ox rfl ?_
        refine aw_get B f_X11_87 dX11_slate_26 hc.s rfl ?_
        refine aw_callV B 0 0 (t_full _ _ _ _ 6 _ _ (by decide) hc.shelves) co_X7_isFull k_X11_58 dX11_slate_29 hc.shelves.o rfl rfl rfl rfl (Nat.le_of_ble_eq_true rfl) (zrm hr (by omega)) (Nat.le_refl _) (Nat.le_refl _) (kI fun r29 h29 hp29 => ?_)
        obtain ⟨rfl, eh29⟩ := hp29
        rw [eh29]
        refine aw_if_eq B 38 dX11_slate_32 (fun c32 => ?_) (fun c32 => ?_)
        · have h6 := full_f c32
          have hu : nI 0 ≤ u ∧ u ≤ nI 8 := bI_n c4
          have hw : 1 ≤ w ∧ w ≤ 4 := ⟨Int32.not_lt.mp c11, c16⟩
          have h60 : ¬ S 0 = 6 := fun z => by rw [e0] at z; have := (nI_eq (b := 6) (by omega) (by decide)).mp z; omega
          refine aw_aload_n B 0 rfl dX11_slate_38 rfl ?_
          refine aw_get B f_X11_12 dX11_slate_39 hc.ox rfl ?_
          refine aw_get B f_X11_87 dX11_slate_42 hc.s rfl ?_
          refine aw_iload_n B 1 rfl dX11_slate_45 rfl ?_
          refine aw_callV B 0 0 (t_add _ _ _ _ 6 _ _ (u) (by decide) (by omega) hc.shelves) co_X7_add k_X11_62 dX11_slate_46 hc.shelves.o rfl rfl rfl rfl (Nat.le_of_ble_eq_true rfl) (zrm hr (by omega)) (Nat.le_refl _) (Nat.le_refl _) (kV fun h46 hp46 => ?_)
          obtain ⟨r46, o46⟩ := hp46
          have ll := hc.lines.same (h' := h46) (fun a ha => o46.2 a (by omega))
          have s1 := (o46.2 x (by omega)).trans hc.ox
          have s2 := (o46.2 (x + 1) (by omega)).trans hc.s
          refine aw_aload_n B 0 rfl dX11_slate_49 rfl ?_
          refine aw_get B f_X11_12 dX11_slate_50 s1 rfl ?_
          refine aw_get B f_X11_90 dX11_slate_53 s2 rfl ?_
          refine aw_iload_n B 2 rfl dX11_slate_56 rfl ?_
          refine aw_callV B 0 0 (t_add _ _ _ _ 6 _ _ (w) (by decide) (by omega) ll) co_X7_add k_X11_62 dX11_slate_57 ll.o rfl rfl rfl rfl (Nat.le_of_ble_eq_true rfl) (zrm hr (by omega)) (Nat.le_refl _) (Nat.le_refl _) (kV fun h57 hp57 => ?_)
          obtain ⟨r57, o57⟩ := hp57
          have oo := (o46.wide (lo' := x + 9) (hi' := x + 13) (by omega) (by omega)).tr (o57.wide (lo' := x + 9) (hi' := x + 13) (by omega) (by omega))
          have O := O.tr (oo.wide (lo' := x) (hi' := x + 54) (by omega) (by omega))
          have r46' := r46.same (h' := h57) (fun a ha => o57.2 a (by omega))
          have ag : ∀ jj, jj ≠ 0 ∧ ¬ (10 ≤ jj ∧ jj < 22) → (upd (upd (upd S (10 + n 0) u) (16 + n 0) w) 0 (nI (n 0 + 1))) jj = S jj := fun jj hi => by rw [upd_n (by omega), upd_n (by omega), upd_n (by omega)]
          have hc := hc.now (S' := upd (upd (upd S (10 + n 0) u) (16 + n 0) w) 0 (nI (n 0 + 1))) (T' := T) (Q' := Q) (n' := upN n 0 (n 0 + 1)) (fun a h1 h2 => oo.2 a (by omega)) (fun a e h1 h2 => (oo.2 a (by omega)).trans h2) (hc.st.re b1 (fun a ha => oo.2 a (by omega)) (fun a e h1 h2 => (oo.2 a (by omega)).trans h2) (ag _ (by omega)) (ag _ (by omega)) (ag _ (by omega)) (fun jj h1 h2 => ag jj (by omega)) rfl ((hc.tape.same (fun a ha => oo.2 a (by omega))).ext (fun q hq => ag _ (by omega))) (show rwI (zXg X) h57 (x + 9) 6 (n 0 + 1) _ from r46'.ext (fun q hq => by
            show upd (upd (upd S (10 + n 0) u) (16 + n 0) w) 0 (nI (n 0 + 1)) (10 + q) = upd (fun q => S (10 + q)) (n 0) u q
            rw [upd_n (by omega), upd_n (by omega)]
            by_cases e : q = n 0
            · subst e; rw [upd_s, upd_s]
            · rw [upd_n (by omega), upd_n e])) (show rwI (zXg X) h57 (x + 11) 6 (n 0 + 1) _ from r57.ext (fun q hq => by
            show upd (upd (upd S (10 + n 0) u) (16 + n 0) w) 0 (nI (n 0 + 1)) (16 + q) = upd (fun q => S (16 + q)) (n 0) w q
            rw [upd_n (by omega)]
            by_cases e : q = n 0
            · subst e; rw [upd_s, upd_s]
            · rw [upd_n (by omega), upd_n (by omega), upd_n e])) ((hc.asks.same (fun a ha => oo.2 a (by omega))).ext (fun q hq => askV.ext (by omega) (fun jj hi => ag jj (by omega)))) ((hc.seen.same (fun a ha => oo.2 a (by omega))).ext (fun q hq => seenV.ext (by omega) (fun jj hi => ag jj (by omega)))) ((hc.tales.same (fun a ha => oo.2 a (by omega))).ext (fun q hq => taleV.ext (by omega) (fun jj hi => ag jj (by omega))))) ⟨⟨by show n 0 + 1 ≤ 6; omega, upd_s, fun k hk => by
            have hk1 : k < n 0 + 1 := hk
            by_cases e : k = n 0
            · subst e
              refine ⟨?_, ?_⟩
              · rw [upd_n (by omega), upd_n (by omega), upd_s]; exact rng_b hu (by decide) (by decide)
              · rw [upd_n (by omega), upd_s]; exact rng_b hw (by decide) (by decide)
            · rw [upd_n (by omega), upd_n (by omega), upd_n (by omega), upd_n (by omega), upd_n (by omega), upd_n (by omega)]; exact vS.2.2 k (by omega)⟩, vR.ext (fun jj hi => ag jj (by omega)), (show iC S Q (n 2) from vC).ext (fun jj hi => ag jj (by omega)), (vA.ext (fun jj hi => ag jj (by omega))).mono (Nat.le_succ _) (Nat.le_refl _), vE.ext (fun jj hi => ag jj (by omega)), (vL.ext (fun jj hi => ag jj (by omega))).mono (Nat.le_succ _) (Nat.le_refl _), ⟨b6, (ag 6 (by omega)).trans e6⟩, ⟨(ag 8 (by omega)).trans e8, b8, vH.2.2⟩⟩
          have hq : q_slate S u w = (nI (n 0), upd (upd (upd S (10 + n 0) u) (16 + n 0) w) 0 (nI (n 0 + 1))) := by unfold q_slate; rw [if_neg c4, bI_t hw, if_neg (by decide), if_neg h60, e0, nI_clamp (by omega), nI_1]
          refine aw_aload_n B 0 rfl dX11_slate_60 rfl ?_
          refine aw_get B f_X11_12 dX11_slate_61 hc.ox rfl ?_
          refine aw_get B f_X11_87 dX11_slate_64 hc.s rfl ?_
          refine aw_get B f_X11_66 dX11_slate_67 (hc.shelves).o rfl ?_
          refine aw_iconst B 1 (by decide) dX11_slate_70 ?_
          refine aw_isub B dX11_slate_71 ?_
          refine aw_iret B rfl rfl dX11_slate_72 ?_
          rw [hq]
          exact ⟨_, rfl, (show nI (n 0 + 1) - 1 = nI (n 0) from by rw [← nI_1, Int32.add_sub_cancel]), ⟨T, _, hc⟩, O⟩
        · refine aw_bipush B (-4) (by decide) dX11_slate_35 ?_
          refine aw_iret B rfl rfl dX11_slate_37 ?_
          have hq : q_slate S u w = (-4, S) := by unfold q_slate; rw [if_neg c4, bI_t ⟨Int32.not_lt.mp c11, c16⟩, if_neg (by decide), e0, if_pos (show nI (n 0) = (6 : Int32) from full_t c32 b0)]
          rw [hq]
          exact ⟨_, rfl, rfl, ⟨T, n, hc⟩, O⟩
      · refine aw_bipush B (-2) (by decide) dX11_slate_19 ?_
        refine aw_iret B rfl rfl dX11_slate_21 ?_
        have hq : q_slate S u w = (-2, S) := by unfold q_slate; rw [if_neg c4, bI_f (fun z => c16 z.2), if_pos rfl]
        rw [hq]
        exact ⟨_, rfl, rfl, ⟨T, n, hc⟩, O⟩
  · refine aw_iconst B (-1) (by decide) dX11_slate_7 ?_
    refine aw_iret B rfl rfl dX11_slate_8 ?_
    have hq : q_slate S u w = (-1, S) := by unfold q_slate; rw [if_pos c4]
    rw [hq]
    exact ⟨_, rfl, rfl, ⟨T, n, hc⟩, O⟩
theorem dX11_put_0 : decode cX11_put 0 = .ok (.aload_n 0, 1) := by decide +kernel
theorem dX11_put_1 : decode cX11_put 1 = .ok (.iload_n 1, 1) := by decide +kernel
theorem dX11_put_2 : decode cX11_put 2 = .ok (.invokevirtual 93, 3) := by decide +kernel
theorem dX11_put_5 : decode cX11_put 5 = .ok (.ifCond .eq 10, 3) := by decide +kernel
theorem dX11_put_8 : decode cX11_put 8 = .ok (.iload_n 2, 1) := by decide +kernel
theorem dX11_put_9 : decode cX11_put 9 = .ok (.invokestatic 83, 3) := by decide +kernel
theorem dX11_put_12 : decode cX11_put 12 = .ok (.ifCond .ne 5, 3) := by decide +kernel
theorem dX11_put_15 : decode cX11_put 15 = .ok (.iconst (-1), 1) := by decide +kernel
theorem dX11_put_16 : decode cX11_put 16 = .ok (.ireturn, 1) := by decide +kernel
theorem dX11_put_17 : decode cX11_put 17 = .ok (.aload_n 0, 1) := by decide +kernel
theorem dX11_put_18 : decode cX11_put 18 = .ok (.getfield 12, 3) := by decide +kernel
theorem dX11_put_21 : decode cX11_put 21 = .ok (.getfield 87, 3) := by decide +kernel
theorem dX11_put_24 : decode cX11_put 24 = .ok (.iload_n 1, 1) := by decide +kernel
theorem dX11_put_25 : decode cX11_put 25 = .ok (.invokevirtual 99, 3) := by decide +kernel
theorem dX11_put_28 : decode cX11_put 28 = .ok (.istore_n 3, 1) := by decide +kernel
theorem dX11_put_29 : decode cX11_put 29 = .ok (.aload_n 0, 1) := by decide +kernel
theorem dX11_put_30 : decode cX11_put 30 = .ok (.getfield 12, 3) := by decide +kernel
theorem dX11_put_33 : decode cX11_put 33 = .ok (.getfield 87, 3) := by decide +kernel
theorem dX11_put_36 : decode cX11_put 36 = .ok (.iload_n 1, 1) := by decide +kernel
theorem dX11_put_37 : decode cX11_put 37 = .ok (.iload_n 2, 1) := by decide +kernel
theorem dX11_put_38 : decode cX11_put 38 = .ok (.invokevirtual 103, 3) := by decide +kernel
theorem dX11_put_41 : decode cX11_put 41 = .ok (.iload_n 3, 1) := by decide +kernel
theorem dX11_put_42 : decode cX11_put 42 = .ok (.ireturn, 1) := by decide +kernel
set_option maxRecDepth 100000 in
set_option maxHeartbeats 4000000 in
theorem x_put (l : Launch) (g : zG) {h : Hp} {x ca cs N T T2 tn : Nat} {S S2 Bt : Nat → Int32} {Q Q2 : pP} {n n2 : Nat → Nat} {im : Int32} (u w : Int32) (hc : cH g h x ca cs N S T Q n S2 T2 Q2 n2 im Bt tn) : Sp l g yX11_put cX11_put 4 (some .int) (rmz 2) [.ref x, .int u, .int w] (h) (zI fun r h' => r = (q_put S u w).1 ∧ (∃ T' n', cH g h' x ca cs N (q_put S u w).2 T' Q n' S2 T2 Q2 n2 im Bt tn) ∧ only x (x + 54) h h') := by
  refine Sp.of [some (.ref x), some (.int u), some (.int w), none] (by decide) (Nat.le_of_ble_eq_true rfl) rfl rfl ?_
  rintro X rfl hr rfl B
  show AW X 0 0 0 _ _ _ _
  obtain ⟨vS, vR, vC, vA, vE, vL, vT, vH⟩ := hc.v
  have e0 := vS.2.1
  have e1 := vR.2.1
  have e2 := vC.2.1
  have e3 := vA.2.1
  have e4 := vE.2.1
  have e5 := vL.2.1
  have e6 := vT.2
  have e8 := vH.1
  have b0 := vS.1
  have b1 := vR.1
  have b2' := vC.1
  have b3 := vA.1
  have b4 := vE.1
  have b5 := vL.1
  have b6 := vT.1
  have b8 := vH.2.1
  have O : only x (x + 54) h h := only.rf
  have hd := hc.d
  refine aw_aload_n B 0 rfl dX11_put_0 rfl ?_
  refine aw_iload_n B 1 rfl dX11_put_1 rfl ?_
  refine aw_callV B 0 0 (x_isSlate _ _ u hc) co_X11_isSlate k_X11_93 dX11_put_2 hc.ox rfl rfl rfl rfl (Nat.le_of_ble_eq_true rfl) (zrm hr (by omega)) (Nat.le_refl _) (Nat.le_refl _) (kI fun r2 h2 hp2 => ?_)
  obtain ⟨rfl, eh2⟩ := hp2
  rw [eh2]
  refine aw_if_eq B 15 dX11_put_5 (fun c5 => ?_) (fun c5 => ?_)
  · refine aw_iconst B (-1) (by decide) dX11_put_15 ?_
    refine aw_iret B rfl rfl dX11_put_16 ?_
    have hq : q_put S u w = (-1, S) := by unfold q_put; rw [if_pos c5]
    rw [hq]
    exact ⟨_, rfl, rfl, ⟨T, n, hc⟩, O⟩
  · refine aw_iload_n B 2 rfl dX11_put_8 rfl ?_
    refine aw_callS B 0 0 (x_isShelf _ _ _ w) co_X11_isShelf k_X11_83 dX11_put_9 rfl rfl (Nat.le_of_ble_eq_true rfl) (zrm hr (by omega)) (Nat.le_refl _) (Nat.le_refl _) (kI fun r9 h9 hp9 => ?_)
    obtain ⟨rfl, eh9⟩ := hp9
    rw [eh9]
    refine aw_if_ne B 17 dX11_put_12 (fun c12 => ?_) (fun c12 => ?_)
    · have hsj : 0 ≤ u ∧ u ≤ S 0 - 1 := bI_n c5
      rw [e0] at hsj
      obtain ⟨j, hj, rfl⟩ := in_nI (by omega) hsj
      have hw : nI 0 ≤ w ∧ w ≤ nI 8 := bI_n c12
      refine aw_aload_n B 0 rfl dX11_put_17 rfl ?_
      refine aw_get B f_X11_12 dX11_put_18 hc.ox rfl ?_
      refine aw_get B f_X11_87 dX11_put_21 hc.s rfl ?_
      refine aw_iload_n B 1 rfl dX11_put_24 rfl ?_
      refine aw_callV B 0 0 (t_get _ _ _ _ 6 _ _ (j) (by decide) (by omega) (by omega) hc.shelves) co_X7_get k_X11_99 dX11_put_25 hc.shelves.o rfl rfl rfl rfl (Nat.le_of_ble_eq_true rfl) (zrm hr (by omega)) (Nat.le_refl _) (Nat.le_refl _) (kI fun r25 h25 hp25 => ?_)
      obtain ⟨rfl, eh25⟩ := hp25
      rw [eh25]
      refine aw_istore3 B dX11_put_28 ?_
      refine aw_aload_n B 0 rfl dX11_put_29 rfl ?_
      refine aw_get B f_X11_12 dX11_put_30 hc.ox rfl ?_
      refine aw_get B f_X11_87 dX11_put_33 hc.s rfl ?_
      refine aw_iload_n B 1 rfl dX11_put_36 rfl ?_
      refine aw_iload_n B 2 rfl dX11_put_37 rfl ?_
      refine aw_callV B 0 0 (t_rep _ _ _ _ 6 _ _ j (w) (by decide) (by omega) (by omega) hc.shelves) co_X7_replace k_X11_103 dX11_put_38 hc.shelves.o rfl rfl rfl rfl (Nat.le_of_ble_eq_true rfl) (zrm hr (by omega)) (Nat.le_refl _) (Nat.le_refl _) (kV fun h38 hp38 => ?_)
      obtain ⟨r38, o38⟩ := hp38
      have O := O.tr (o38.wide (lo' := x) (hi' := x + 54) (by omega) (by omega))
      have ag : ∀ jj, ¬ (10 ≤ jj ∧ jj < 16) → (upd S (10 + j) w) jj = S jj := fun jj hi => by rw [upd_n (by omega)]
      have hc := hc.now (S' := upd S (10 + j) w) (T' := T) (Q' := Q) (n' := n) (fun a h1 h2 => o38.2 a (by omega)) (fun a e h1 h2 => (o38.2 a (by omega)).trans h2) (hc.st.re b1 (fun a ha => o38.2 a (by omega)) (fun a e h1 h2 => (o38.2 a (by omega)).trans h2) (ag _ (by omega)) (ag _ (by omega)) (ag _ (by omega)) (fun jj h1 h2 => ag jj (by omega)) rfl ((hc.tape.same (fun a ha => o38.2 a (by omega))).ext (fun q hq => ag _ (by omega))) (r38.ext (fun q hq => by
        show upd S (10 + j) w (10 + q) = upd (fun q => S (10 + q)) j w q
        by_cases e : q = j
        · subst e; rw [upd_s, upd_s]
        · rw [upd_n (by omega), upd_n e])) ((hc.lines.same (fun a ha => o38.2 a (by omega))).ext (fun q hq => ag _ (by omega))) ((hc.asks.same (fun a ha => o38.2 a (by omega))).ext (fun q hq => askV.ext (by omega) (fun jj hi => ag jj (by omega)))) ((hc.seen.same (fun a ha => o38.2 a (by omega))).ext (fun q hq => seenV.ext (by omega) (fun jj hi => ag jj (by omega)))) ((hc.tales.same (fun a ha => o38.2 a (by omega))).ext (fun q hq => taleV.ext (by omega) (fun jj hi => ag jj (by omega))))) ⟨iS_up (by omega) (rng_b hw (by decide) (by decide)) vS, vR.ext (fun jj hi => ag jj (by omega)), (show iC S Q (n 2) from vC).ext (fun jj hi => ag jj (by omega)), vA.ext (fun jj hi => ag jj (by omega)), vE.ext (fun jj hi => ag jj (by omega)), vL.ext (fun jj hi => ag jj (by omega)), ⟨b6, (ag 6 (by omega)).trans e6⟩, ⟨(ag 8 (by omega)).trans e8, b8, vH.2.2⟩⟩
      have hq : q_put S (nI j) w = (S (10 + j), upd S (10 + j) w) := by unfold q_put; rw [if_neg c5, if_neg c12, nI_clamp (by omega)]
      refine aw_iload_n B 3 rfl dX11_put_41 rfl ?_
      refine aw_iret B rfl rfl dX11_put_42 ?_
      rw [hq]
      exact ⟨_, rfl, rfl, ⟨T, _, hc⟩, O⟩
    · refine aw_iconst B (-1) (by decide) dX11_put_15 ?_
      refine aw_iret B rfl rfl dX11_put_16 ?_
      have hq : q_put S u w = (-1, S) := by unfold q_put; rw [if_neg c5, if_pos c12]
      rw [hq]
      exact ⟨_, rfl, rfl, ⟨T, n, hc⟩, O⟩
theorem dX11_hours_0 : decode cX11_hours 0 = .ok (.iload_n 1, 1) := by decide +kernel
theorem dX11_hours_1 : decode cX11_hours 1 = .ok (.invokestatic 134, 3) := by decide +kernel
theorem dX11_hours_4 : decode cX11_hours 4 = .ok (.ifCond .ne 6, 3) := by decide +kernel
theorem dX11_hours_7 : decode cX11_hours 7 = .ok (.bipush (-2), 2) := by decide +kernel
theorem dX11_hours_9 : decode cX11_hours 9 = .ok (.ireturn, 1) := by decide +kernel
theorem dX11_hours_10 : decode cX11_hours 10 = .ok (.aload_n 0, 1) := by decide +kernel
theorem dX11_hours_11 : decode cX11_hours 11 = .ok (.getfield 12, 3) := by decide +kernel
theorem dX11_hours_14 : decode cX11_hours 14 = .ok (.getfield 137, 3) := by decide +kernel
theorem dX11_hours_17 : decode cX11_hours 17 = .ok (.iload_n 1, 1) := by decide +kernel
theorem dX11_hours_18 : decode cX11_hours 18 = .ok (.iadd, 1) := by decide +kernel
theorem dX11_hours_19 : decode cX11_hours 19 = .ok (.sipush 9999, 3) := by decide +kernel
theorem dX11_hours_22 : decode cX11_hours 22 = .ok (.if_icmp .le 6, 3) := by decide +kernel
theorem dX11_hours_25 : decode cX11_hours 25 = .ok (.bipush (-3), 2) := by decide +kernel
theorem dX11_hours_27 : decode cX11_hours 27 = .ok (.ireturn, 1) := by decide +kernel
theorem dX11_hours_28 : decode cX11_hours 28 = .ok (.aload_n 0, 1) := by decide +kernel
theorem dX11_hours_29 : decode cX11_hours 29 = .ok (.getfield 12, 3) := by decide +kernel
theorem dX11_hours_32 : decode cX11_hours 32 = .ok (.dup, 1) := by decide +kernel
theorem dX11_hours_33 : decode cX11_hours 33 = .ok (.getfield 137, 3) := by decide +kernel
theorem dX11_hours_36 : decode cX11_hours 36 = .ok (.iload_n 1, 1) := by decide +kernel
theorem dX11_hours_37 : decode cX11_hours 37 = .ok (.iadd, 1) := by decide +kernel
theorem dX11_hours_38 : decode cX11_hours 38 = .ok (.putfield 137, 3) := by decide +kernel
theorem dX11_hours_41 : decode cX11_hours 41 = .ok (.aload_n 0, 1) := by decide +kernel
theorem dX11_hours_42 : decode cX11_hours 42 = .ok (.getfield 12, 3) := by decide +kernel
theorem dX11_hours_45 : decode cX11_hours 45 = .ok (.getfield 137, 3) := by decide +kernel
theorem dX11_hours_48 : decode cX11_hours 48 = .ok (.ireturn, 1) := by decide +kernel
set_option maxRecDepth 100000 in
set_option maxHeartbeats 4000000 in
theorem x_hours (l : Launch) (g : zG) {h : Hp} {x ca cs N T T2 tn : Nat} {S S2 Bt : Nat → Int32} {Q Q2 : pP} {n n2 : Nat → Nat} {im : Int32} (u : Int32) (hc : cH g h x ca cs N S T Q n S2 T2 Q2 n2 im Bt tn) : Sp l g yX11_hours cX11_hours 2 (some .int) (rmz 2) [.ref x, .int u] (h) (zI fun r h' => r = (q_hours S u).1 ∧ (∃ T' n', cH g h' x ca cs N (q_hours S u).2 T' Q n' S2 T2 Q2 n2 im Bt tn) ∧ only x (x + 54) h h') := by
  refine Sp.of [some (.ref x), some (.int u)] (by decide) (Nat.le_of_ble_eq_true rfl) rfl rfl ?_
  rintro X rfl hr rfl B
  show AW X 0 0 0 _ _ _ _
  obtain ⟨vS, vR, vC, vA, vE, vL, vT, vH⟩ := hc.v
  have e0 := vS.2.1
  have e1 := vR.2.1
  have e2 := vC.2.1
  have e3 := vA.2.1
  have e4 := vE.2.1
  have e5 := vL.2.1
  have e6 := vT.2
  have e8 := vH.1
  have b0 := vS.1
  have b1 := vR.1
  have b2' := vC.1
  have b3 := vA.1
  have b4 := vE.1
  have b5 := vL.1
  have b6 := vT.1
  have b8 := vH.2.1
  have O : only x (x + 54) h h := only.rf
  have hd := hc.d
  refine aw_iload_n B 1 rfl dX11_hours_0 rfl ?_
  refine aw_callS B 0 0 (x_isNear _ _ _ u) co_X11_isNear k_X11_134 dX11_hours_1 rfl rfl (Nat.le_of_ble_eq_true rfl) (zrm hr (by omega)) (Nat.le_refl _) (Nat.le_refl _) (kI fun r1 h1 hp1 => ?_)
  obtain ⟨rfl, eh1⟩ := hp1
  rw [eh1]
  refine aw_if_ne B 10 dX11_hours_4 (fun c4 => ?_) (fun c4 => ?_)
  · obtain ⟨j, hj, rfl⟩ := in_le (k := 60) (by omega) (show 0 ≤ u ∧ u ≤ nI 60 from bI_n c4)
    refine aw_aload_n B 0 rfl dX11_hours_10 rfl ?_
    refine aw_get B f_X11_12 dX11_hours_11 hc.ox rfl ?_
    refine aw_get B f_X11_137 dX11_hours_14 hc.s rfl ?_
    refine aw_iload_n B 1 rfl dX11_hours_17 rfl ?_
    refine aw_iadd B dX11_hours_18 ?_
    rw [e8, nI_add]
    refine aw_sipush B 9999 (by decide) dX11_hours_19 ?_
    refine aw_icmp_le B 28 dX11_hours_22 (fun c22 => ?_) (fun c22 => ?_)
    · have hT9 : T + j ≤ 9999 := (nI_leI (a := T + j) (b := 9999) (by omega) (by decide)).mp c22
      refine aw_aload_n B 0 rfl dX11_hours_28 rfl ?_
      refine aw_get B f_X11_12 dX11_hours_29 hc.ox rfl ?_
      refine aw_dup B rfl dX11_hours_32 ?_
      refine aw_get B f_X11_137 dX11_hours_33 hc.s rfl ?_
      refine aw_iload_n B 1 rfl dX11_hours_36 rfl ?_
      refine aw_iadd B dX11_hours_37 ?_
      rw [e8, nI_add]
      refine aw_put B f_X11_137 dX11_hours_38 hc.s rfl rfl (by show 0 < 11; decide) ?_
      have o38 : only (x + 1) (x + 2) h (hp_up h (x + 1) (.inr (9, (stO (x + 1) ca (S 8) (S 2) (S 1)).set 0 (.int (nI (T + j)))))) := only.up (by omega) (by omega)
      have O := O.tr (o38.wide (lo' := x) (hi' := x + 54) (by omega) (by omega))
      have ag : ∀ jj, jj ≠ 8 → (upd S 8 (nI (T + j))) jj = S jj := fun jj hi => by rw [upd_n (by omega)]
      have hc := hc.now (S' := upd S 8 (nI (T + j))) (T' := T + j) (Q' := Q) (n' := n) (fun a h1 h2 => o38.2 a (by omega)) (fun a e h1 h2 => (o38.2 a (by omega)).trans h2) (hc.st.ob b1 ⟨b3, b4, b5, b0, b6⟩ (fun a ha => o38.2 a (by omega)) (fun a e h1 h2 => (o38.2 a (by omega)).trans h2) (by rw [upd_s, ag 2 (by omega), ag 1 (by omega)]; exact hu_s) (fun jj h1 h2 => ag jj (by omega))) ⟨vS.ext (fun jj hi => ag jj (by omega)), vR.ext (fun jj hi => ag jj (by omega)), (show iC S Q (n 2) from vC).ext (fun jj hi => ag jj (by omega)), vA.ext (fun jj hi => ag jj (by omega)), vE.ext (fun jj hi => ag jj (by omega)), vL.ext (fun jj hi => ag jj (by omega)), ⟨b6, (ag 6 (by omega)).trans e6⟩, ⟨upd_s, hT9, vH.2.2⟩⟩
      have hq : q_hours S (nI j) = (nI (T + j), upd S 8 (nI (T + j))) := by unfold q_hours; rw [if_neg c4, e8, nI_add, if_pos c22]
      refine aw_aload_n B 0 rfl dX11_hours_41 rfl ?_
      refine aw_get B f_X11_12 dX11_hours_42 hc.ox rfl ?_
      refine aw_get B f_X11_137 dX11_hours_45 hc.s rfl ?_
      refine aw_iret B rfl rfl dX11_hours_48 ?_
      rw [hq]
      exact ⟨_, rfl, upd_s, ⟨_, _, hc⟩, O⟩
    · refine aw_bipush B (-3) (by decide) dX11_hours_25 ?_
      refine aw_iret B rfl rfl dX11_hours_27 ?_
      have hq : q_hours S (nI j) = (-3, S) := by unfold q_hours; rw [if_neg c4, e8, nI_add, if_neg c22]
      rw [hq]
      exact ⟨_, rfl, rfl, ⟨T, n, hc⟩, O⟩
  · refine aw_bipush B (-2) (by decide) dX11_hours_7 ?_
    refine aw_iret B rfl rfl dX11_hours_9 ?_
    have hq : q_hours S u = (-2, S) := by unfold q_hours; rw [if_pos c4]
    rw [hq]
    exact ⟨_, rfl, rfl, ⟨T, n, hc⟩, O⟩
