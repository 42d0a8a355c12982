def bmx (bn : Nat → Nat) : Nat → Nat := fun p => if p < 64 then 100000 else bn p
theorem bmx_ok {bn : Nat → Nat} (h : ∀ p, okN (bn p)) : ∀ p, okN (bmx bn p) := fun p => by
  unfold bmx
  split
  · exact Or.inr rfl
  · exact h p
theorem bmx_f (bn : Nat → Nat) : (fun i => if i < 64 then (-5 : Int32) else orN (bn i)) = fun p => orN (bmx bn p) := by
  funext p
  unfold bmx
  by_cases h : p < 64
  · rw [if_pos h, if_pos h]; decide
  · rw [if_neg h, if_neg h]
theorem t_begin (l : Launch) (g : zG) (h : Hp) (o s a : Nat) (st rd : Value) (al al2 : Int32) (bn : Nat → Nat) (ro br so : Nat → Int32) (ask : Nat) (hI : oI g h o st rd al (fun p => orN (bn p)) ro br so (nI ask)) : Sp l g yX4_begin cX4_begin 4 none (rmz 2) [.ref o, .ref s, .ref a, .int al2] h (zV fun h' => oI g h' o (.ref s) (.ref a) al2 (fun p => orN (bmx bn p)) ro br so (nI (ask + 1)) ∧ only o (o + 5) h h') := by
  have h9 := s_begin l g h o s a st rd al al2 (fun p => orN (bn p)) ro br so ask
  rw [hO_id hI, bmx_f] at h9
  refine h9.post (fun v' h' ⟨e1, e2⟩ => ⟨e1, ?_, ?_⟩)
  · rw [e2]; exact hO_oI
  · rw [e2]; exact hO_only
theorem cH.or1 {g : zG} {h h' : Hp} {x ca cs N T T2 tn : Nat} {S S2 Bt : Nat → Int32} {Q Q2 : pP} {n n2 : Nat → Nat} {im : Int32} (p : cH g h x ca cs N S T Q n S2 T2 Q2 n2 im Bt tn) {o : Nat} (ho : o = x + 43 ∨ o = x + 48) (q : only2 ca o h h') (c : caveI g h' ca Q) (w : oX g h' o (N + 1)) : cH g h' x ca cs (N + 1) S T Q n S2 T2 Q2 n2 im Bt tn := by
  obtain ⟨p1, p2, p3, p4, p5, p6, p7, p8, ⟨f, p9⟩, p10, p11, p12⟩ := p
  have k : ∀ a, ¬ (ca ≤ a ∧ a < ca + 4) → ¬ (o ≤ a ∧ a < o + 5) → h'.2 a = h.2 a := q.2
  have q4 : stI g h' (x + 64) (x + 1) ca S Q n := by
    obtain ⟨r1, r2, r3, r4, r5, r6, r7, r8, r9⟩ := p3
    exact ⟨(k _ (by omega) (by omega)).trans r1, c, r3.same (k _ (by omega) (by omega)) (fun a e h1 h2 => (k _ (by omega) (by omega)).trans h2), r4.same (fun a ha => k a (by omega) (by omega)), r5.same (fun a ha => k a (by omega) (by omega)), r6.same (fun a ha => k a (by omega) (by omega)), r7.same (fun a ha => k a (by omega) (by omega)), r8.same (fun a ha => k a (by omega) (by omega)), r9.same (fun a ha => k a (by omega) (by omega))⟩
  refine ⟨p1, (k _ (by omega) (by omega)).trans p2, q4, p4.same (fun a ha => k a (by omega) (by omega)) (fun a e h1 h2 => (k _ (by omega) (by omega)).trans h2), p5.same (fun a ha => k a (by omega) (by omega)), p6.same (fun a ha => k a (by omega) (by omega)), ?_, ?_, ⟨f, (k _ (by omega) (by omega)).trans p9⟩, p10, p11, p12⟩
  · rcases ho with rfl | rfl
    · exact w
    · exact (p7.same (fun a ha => k a (by omega) (by omega))).le (Nat.le_succ _)
  · rcases ho with rfl | rfl
    · exact (p8.same (fun a ha => k a (by omega) (by omega))).le (Nat.le_succ _)
    · exact w
theorem cH.up {g : zG} {h : Hp} {x ca cs N T T2 tn : Nat} {S S2 Bt : Nat → Int32} {Q Q2 : pP} {n n2 : Nat → Nat} {im : Int32} (p : cH g h x ca cs N S T Q n S2 T2 Q2 n2 im Bt tn) {M : Nat} (q : N ≤ M) : cH g h x ca cs M S T Q n S2 T2 Q2 n2 im Bt tn := by
  obtain ⟨p1, p2, p3, p4, p5, p6, p7, p8, p9, p10, p11, p12⟩ := p
  exact ⟨p1, p2, p3, p4, p5, p6, p7.le q, p8.le q, p9, p10, p11, p12⟩
theorem cH.oE {g : zG} {h : Hp} {x ca cs N T T2 tn : Nat} {S S2 Bt : Nat → Int32} {Q Q2 : pP} {n n2 : Nat → Nat} {im : Int32} (p : cH g h x ca cs N S T Q n S2 T2 Q2 n2 im Bt tn) {o : Nat} (ho : o = x + 43 ∨ o = x + 48) {i : Int32} {a q k v : Nat} (R : rdK h x S (n 1) i a q k v) : oE g h o (x + 1) ca a k v q T (n 0) (nI q) S Q := by
  obtain ⟨vS, vR, vC, vA, vE, vL, vT, vH⟩ := p.v
  obtain ⟨r1, r2, r3, r4, r5, r6, r7, r8⟩ := R
  have hd := p.d
  obtain ⟨-, f1, w1, w2⟩ := p.shelves
  obtain ⟨-, f2, w3, w4⟩ := p.lines
  have b0 := vS.1
  refine ⟨⟨S 2, S 1, by rw [← vH.1]; exact p.s⟩, ⟨f1, w1, fun q hq => w2 q hq (by omega)⟩, ⟨f2, w3, fun q hq => w4 q hq (by omega)⟩, r8, p.c, ⟨r4, r5, r6, r7⟩, vS, vH.2.1, by omega, by omega, by omega, by omega⟩
theorem in_set {k : Nat} (hk : k ≤ 6) {y : Int32} (h : 0 ≤ y ∧ y >>> (nI k &&& 31) = 0) : ∃ j, j < 2 ^ k ∧ y = nI j := by
  obtain ⟨j, hj, rfl⟩ := nI_of (Int32.not_lt.mpr h.1)
  have h1 := (set_i hk hj).mpr h.2
  have e1 : ∀ n, n ≤ 6 → (1 : Int32) <<< (nI n &&& 31) = nI (2 ^ n) := by decide
  rw [e1 k hk] at h1
  have hp : 2 ^ k ≤ 2 ^ 6 := Nat.pow_le_pow_right (by decide) hk
  exact ⟨j, (nI_ltI hj (by omega)).mp h1, rfl⟩
/-- orders that have been run for a reader r and a set -/
def oR (g : zG) (h : Hp) (x o a ask : Nat) (S : Nat → Int32) (T : Nat) (Q : pP) (r set : Nat) : Prop := ∃ (bn : Nat → Nat) (ro br so : Nat → Int32), (∀ p, okN (bn p)) ∧ (∀ p, p < 64 → bn p = 100000) ∧ oI g h o (.ref (x + 1)) (.ref a) (nI set) (fun p => orN ((goF S T Q r set 6 0 0 0 (bn, ro, br)).1 p)) (goF S T Q r set 6 0 0 0 (bn, ro, br)).2.1 (goF S T Q r set 6 0 0 0 (bn, ro, br)).2.2 so (nI ask)
theorem oR.fr {g : zG} {h h' : Hp} {x o a ask T r set : Nat} {S : Nat → Int32} {Q : pP} (p : oR g h x o a ask S T Q r set) (q : ∀ a, o ≤ a ∧ a < o + 5 → h'.2 a = h.2 a) : oR g h' x o a ask S T Q r set := by
  obtain ⟨bn, ro, br, so, p1, p2, p3⟩ := p
  exact ⟨bn, ro, br, so, p1, p2, fun j hj => (q _ (by omega)).trans (p3 j hj)⟩
/-- begun orders -/
def oBg (g : zG) (h : Hp) (x o a ask set : Nat) : Prop := ∃ (bn : Nat → Nat) (ro br so : Nat → Int32), (∀ p, okN (bn p)) ∧ (∀ p, p < 64 → bn p = 100000) ∧ oI g h o (.ref (x + 1)) (.ref a) (nI set) (fun p => orN (bn p)) ro br so (nI ask) ∧ ∀ s t, s < 6 → t < 301 → ∃ q vv, so (301 * s + t) = nI (256 * q + vv) ∧ vv < 256 ∧ q < ask
theorem x_begin (l : Launch) (g : zG) {h : Hp} {x ca cs N T T2 tn : Nat} {S S2 Bt : Nat → Int32} {Q Q2 : pP} {n n2 : Nat → Nat} {im : Int32} (o a set : Nat) (hc : cH g h x ca cs N S T Q n S2 T2 Q2 n2 im Bt tn) (ho : o = x + 43 ∨ o = x + 48) : Sp l g yX4_begin cX4_begin 4 none (rmz 2) [.ref o, .ref (x + 1), .ref a, .int (nI set)] h (zV fun h' => only o (o + 5) h h' ∧ cH g h' x ca cs (N + 1) S T Q n S2 T2 Q2 n2 im Bt tn ∧ ∃ ask, ask ≤ N + 1 ∧ oBg g h' x o a ask set) := by
  have hw : oX g h o N := by
    rcases ho with rfl | rfl
    · exact hc.2.2.2.2.2.2.1
    · exact hc.2.2.2.2.2.2.2.1
  obtain ⟨st, rd, al, bn, ro, br, so, ask, p1, p2, p3, p4⟩ := hw
  refine (t_begin l g h o (x + 1) a st rd al (nI set) bn ro br so ask p2).post (fun v' h' ⟨e1, e2, e3⟩ => ⟨e1, e3, ?_, ?_⟩)
  · have hd := hc.d
    exact hc.or1 ho e3.r2 (hc.c.fr e3 (by omega)) ⟨_, _, _, _, _, _, _, _, bmx_ok p1, e2, by omega, fun s t hs ht => by
      obtain ⟨q, vv, k1, k2, k3⟩ := p4 s t hs ht
      exact ⟨q, vv, k1, k2, by omega⟩⟩
  · exact ⟨ask + 1, by omega, _, _, _, _, bmx_ok p1, fun p hp => if_pos hp, e2, fun s t hs ht => by
      obtain ⟨q, vv, k1, k2, k3⟩ := p4 s t hs ht
      exact ⟨q, vv, k1, k2, by omega⟩⟩
theorem x_goOn (l : Launch) (g : zG) {h : Hp} {x ca cs N T T2 tn : Nat} {S S2 Bt : Nat → Int32} {Q Q2 : pP} {n n2 : Nat → Nat} {im : Int32} (o a set ask : Nat) {i : Int32} {q k v : Nat} (hc : cH g h x ca cs N S T Q n S2 T2 Q2 n2 im Bt tn) (ho : o = x + 43 ∨ o = x + 48) (R : rdK h x S (n 1) i a q k v) (hB : oBg g h x o a ask set) (hask : ask ≤ N) (hN : N ≤ 2 ^ 20) (hset : set < 2 ^ n 0) : Sp l g yX4_goOn cX4_goOn 7 none (rmz 14) [.ref o, .int 0, .int 0, .int 0] h (zV fun h' => only2 ca o h h' ∧ cH g h' x ca cs (N + 1) S T Q n S2 T2 Q2 n2 im Bt tn ∧ oR g h' x o a ask S T Q q set) := by
  obtain ⟨bn, ro, br, so, p1, p2, p3, p4⟩ := hB
  have h9 := s_goOn l g o (x + 1) ca a k v q T (n 0) (nI q) S Q set ask (by omega) hset 6 0 0 0 h (bn, ro, br) so rfl (by decide) (by decide) p1 p3 (hc.oE ho R) (fun s t hs ht => by
    obtain ⟨q, vv, k1, k2, k3⟩ := p4 s t hs ht
    exact ⟨q, vv, k1, k2, by omega, fun e => by omega⟩)
  refine h9.post (fun v' h' ⟨e1, so', e2, e3, e4, e5⟩ => ⟨e1, e5, ?_, ?_⟩)
  · exact hc.or1 ho e5 e3.2.2.2.2.1 ⟨_, _, _, _, _, _, _, _, goF_ok 6 0 0 0 _ rfl (by decide) p1, e2, by omega, fun s t hs ht => by
      obtain ⟨q, vv, k1, k2, k3, -⟩ := e4 s t hs ht
      exact ⟨q, vv, k1, k2, k3⟩⟩
  · exact ⟨bn, ro, br, so', p1, p2, e2⟩
theorem x_hoursOf (l : Launch) (g : zG) {h : Hp} {x a ask T r set n0 : Nat} {S : Nat → Int32} {Q : pP} (o p : Nat) (hR : oR g h x o a ask S T Q r set) (hn : n0 ≤ 6) (hs : set < 2 ^ n0) (hp : p < 64) (hpa : p &&& set = p) : Sp l g yX4_hoursOf cX4_hoursOf 2 (some .int) (rmz 1) [.ref o, .int (nI p)] h (zI fun r' h' => r' = orN (eoN S T Q n0 r p) ∧ h' = h) := by
  obtain ⟨bn, ro, br, so, p1, p2, p3⟩ := hR
  have h9 := s_hoursOf l g h o _ _ _ _ _ _ _ _ p hp p3
  rw [goF_best hn hs hp hpa (p2 p hp)] at h9
  exact h9
theorem x_kth (l : Launch) (g : zG) {h : Hp} {x a ask T r set n0 : Nat} {S A7 A8 : Nat → Int32} {Q : pP} (o j : Nat) (hR : oR g h x o a ask S T Q r set) (hn : n0 ≤ 6) (hs : set < 2 ^ n0) (hj : j < 6) : Sp l g yX4_kth cX4_kth 3 (some .int) (rmz 2) [.ref o, .int (nI j)] h (zI fun r' h' => r' = (eoS S T Q n0 A7 A8 r set).2.1 j ∧ h' = h) := by
  obtain ⟨bn, ro, br, so, p1, p2, p3⟩ := hR
  have h64 : set < 64 := Nat.lt_of_lt_of_le hs (Nat.pow_le_pow_right (n := 2) (by decide) hn)
  have h9 := s_kth l g h o _ _ set _ _ _ _ _ j h64 hj p3
  have e : orN ((goF S T Q r set 6 0 0 0 (bn, ro, br)).1 set) = -5 ↔ eoN S T Q n0 r set = 100000 := by
    rw [orN_5 (goF_ok 6 0 0 0 _ rfl (by decide) p1 set), goF_best hn hs h64 (Nat.and_self _) (p2 set h64)]
  rw [show (if j < pcnt set ∧ ¬ orN ((goF S T Q r set 6 0 0 0 (bn, ro, br)).1 set) = -5 then (goF S T Q r set 6 0 0 0 (bn, ro, br)).2.2 j else -5) = (eoS S T Q n0 A7 A8 r set).2.1 j from by
    rw [← goF_kth hn hs (st := (bn, ro, br)) (p2 set h64) hj]
    by_cases c : j < pcnt set ∧ ¬ eoN S T Q n0 r set = 100000
    · rw [if_pos c, if_pos ⟨c.1, fun z => c.2 (e.mp z)⟩]
    · rw [if_neg c, if_neg (fun z => c ⟨z.1, fun y => z.2 (e.mpr y)⟩)]] at h9
  exact h9
theorem oR.o {g : zG} {h : Hp} {x o a ask T r set : Nat} {S : Nat → Int32} {Q : pP} (p : oR g h x o a ask S T Q r set) : ∃ fs, h.2 o = some (.inr (4, fs)) := by
  obtain ⟨bn, ro, br, so, p1, p2, p3⟩ := p
  exact ⟨_, p3.o⟩
theorem oBg.o {g : zG} {h : Hp} {x o a ask set : Nat} (p : oBg g h x o a ask set) : ∃ fs, h.2 o = some (.inr (4, fs)) := by
  obtain ⟨bn, ro, br, so, p1, p2, p3, p4⟩ := p
  exact ⟨_, p3.o⟩
theorem oX.o {g : zG} {h : Hp} {o N : Nat} (p : oX g h o N) : ∃ fs, h.2 o = some (.inr (4, fs)) := by
  obtain ⟨st, rd, al, bn, ro, br, so, ask, p1, p2, p3⟩ := p
  exact ⟨_, p2.o⟩
theorem m1_0 {z : Int32} (h : -1 ≤ z) (h2 : ¬ z = -1) : 0 ≤ z := by
  rw [Int32.le_iff_toInt_le] at h ⊢
  have a : (-1 : Int32).toInt = -1 := by decide
  have b : (0 : Int32).toInt = 0 := by decide
  have c : ¬ z.toInt = -1 := fun y => h2 (Int32.toInt_inj.mp (y.trans a.symm))
  omega
theorem o2_x {x ca cs o : Nat} {h h' : Hp} (d : (ca = x + 2 ∧ cs = x + 37) ∨ (ca = x + 37 ∧ cs = x + 2)) (ho : o = x + 43 ∨ o = x + 48) (p : only2 ca o h h') : only x (x + 54) h h' := ⟨p.1, fun a ha => p.2 a (by omega) (by omega)⟩
theorem dX11_set_0 : decode cX11_set 0 = .ok (.aload_n 0, 1) := by decide +kernel
theorem dX11_set_1 : decode cX11_set 1 = .ok (.getfield 12, 3) := by decide +kernel
theorem dX11_set_4 : decode cX11_set 4 = .ok (.iload_n 1, 1) := by decide +kernel
theorem dX11_set_5 : decode cX11_set 5 = .ok (.invokevirtual 118, 3) := by decide +kernel
theorem dX11_set_8 : decode cX11_set 8 = .ok (.astore 4, 2) := by decide +kernel
theorem dX11_set_10 : decode cX11_set 10 = .ok (.aload 4, 2) := by decide +kernel
theorem dX11_set_12 : decode cX11_set 12 = .ok (.ifnull 14, 3) := by decide +kernel
theorem dX11_set_15 : decode cX11_set 15 = .ok (.iload_n 3, 1) := by decide +kernel
theorem dX11_set_16 : decode cX11_set 16 = .ok (.iconst (-1), 1) := by decide +kernel
theorem dX11_set_17 : decode cX11_set 17 = .ok (.if_icmp .lt 9, 3) := by decide +kernel
theorem dX11_set_20 : decode cX11_set 20 = .ok (.iload_n 3, 1) := by decide +kernel
theorem dX11_set_21 : decode cX11_set 21 = .ok (.bipush 6, 2) := by decide +kernel
theorem dX11_set_23 : decode cX11_set 23 = .ok (.if_icmp .lt 5, 3) := by decide +kernel
theorem dX11_set_26 : decode cX11_set 26 = .ok (.iconst (-1), 1) := by decide +kernel
theorem dX11_set_27 : decode cX11_set 27 = .ok (.ireturn, 1) := by decide +kernel
theorem dX11_set_28 : decode cX11_set 28 = .ok (.aload_n 0, 1) := by decide +kernel
theorem dX11_set_29 : decode cX11_set 29 = .ok (.iload_n 2, 1) := by decide +kernel
theorem dX11_set_30 : decode cX11_set 30 = .ok (.invokevirtual 150, 3) := by decide +kernel
theorem dX11_set_33 : decode cX11_set 33 = .ok (.ifCond .ne 6, 3) := by decide +kernel
theorem dX11_set_36 : decode cX11_set 36 = .ok (.bipush (-2), 2) := by decide +kernel
theorem dX11_set_38 : decode cX11_set 38 = .ok (.ireturn, 1) := by decide +kernel
theorem dX11_set_39 : decode cX11_set 39 = .ok (.aload_n 0, 1) := by decide +kernel
theorem dX11_set_40 : decode cX11_set 40 = .ok (.getfield 44, 3) := by decide +kernel
theorem dX11_set_43 : decode cX11_set 43 = .ok (.aload_n 0, 1) := by decide +kernel
theorem dX11_set_44 : decode cX11_set 44 = .ok (.getfield 12, 3) := by decide +kernel
theorem dX11_set_47 : decode cX11_set 47 = .ok (.aload 4, 2) := by decide +kernel
theorem dX11_set_49 : decode cX11_set 49 = .ok (.iload_n 2, 1) := by decide +kernel
theorem dX11_set_50 : decode cX11_set 50 = .ok (.invokevirtual 153, 3) := by decide +kernel
theorem dX11_set_53 : decode cX11_set 53 = .ok (.aload_n 0, 1) := by decide +kernel
theorem dX11_set_54 : decode cX11_set 54 = .ok (.getfield 44, 3) := by decide +kernel
theorem dX11_set_57 : decode cX11_set 57 = .ok (.iconst 0, 1) := by decide +kernel
theorem dX11_set_58 : decode cX11_set 58 = .ok (.iconst 0, 1) := by decide +kernel
theorem dX11_set_59 : decode cX11_set 59 = .ok (.iconst 0, 1) := by decide +kernel
theorem dX11_set_60 : decode cX11_set 60 = .ok (.invokestatic 157, 3) := by decide +kernel
theorem dX11_set_63 : decode cX11_set 63 = .ok (.iload_n 3, 1) := by decide +kernel
theorem dX11_set_64 : decode cX11_set 64 = .ok (.iconst (-1), 1) := by decide +kernel
theorem dX11_set_65 : decode cX11_set 65 = .ok (.if_icmp .ne 14, 3) := by decide +kernel
theorem dX11_set_68 : decode cX11_set 68 = .ok (.aload_n 0, 1) := by decide +kernel
theorem dX11_set_69 : decode cX11_set 69 = .ok (.getfield 44, 3) := by decide +kernel
theorem dX11_set_72 : decode cX11_set 72 = .ok (.iload_n 2, 1) := by decide +kernel
theorem dX11_set_73 : decode cX11_set 73 = .ok (.invokevirtual 161, 3) := by decide +kernel
theorem dX11_set_76 : decode cX11_set 76 = .ok (.goto 11, 3) := by decide +kernel
theorem dX11_set_79 : decode cX11_set 79 = .ok (.aload_n 0, 1) := by decide +kernel
theorem dX11_set_80 : decode cX11_set 80 = .ok (.getfield 44, 3) := by decide +kernel
theorem dX11_set_83 : decode cX11_set 83 = .ok (.iload_n 3, 1) := by decide +kernel
theorem dX11_set_84 : decode cX11_set 84 = .ok (.invokevirtual 164, 3) := by decide +kernel
theorem dX11_set_87 : decode cX11_set 87 = .ok (.ireturn, 1) := by decide +kernel
set_option maxRecDepth 100000 in
set_option maxHeartbeats 4000000 in
theorem x_set (l : Launch) (g : zG) {h : Hp} {x ca cs N T T2 tn : Nat} {S S2 Bt : Nat → Int32} {Q Q2 : pP} {n n2 : Nat → Nat} {im : Int32} (i y z : Int32) (A7 A8 : Nat → Int32) (hc : cH g h x ca cs N S T Q n S2 T2 Q2 n2 im Bt tn) (hN : N ≤ 2 ^ 19) : Sp l g yX11_set cX11_set 5 (some .int) (rmz 16) [.ref x, .int i, .int y, .int z] (h) (zI fun r h' => r = q_set S T Q (n 0) A7 A8 i y z ∧ cH g h' x ca cs (N + 2) S T Q n S2 T2 Q2 n2 im Bt tn ∧ only x (x + 54) h h') := by
  refine Sp.of [some (.ref x), some (.int i), some (.int y), some (.int z), none] (by decide) (Nat.le_of_ble_eq_true rfl) rfl rfl ?_
  rintro X rfl hr rfl B
  show AW X 0 0 0 _ _ _ _
  obtain ⟨vS, vR, vC, vA, vE, vL, vT, vH⟩ := hc.v
  have e0 := vS.2.1
  have e1 := vR.2.1
  have e2 := vC.2.1
  have e3 := vA.2.1
  have e4 := vE.2.1
  have e5 := vL.2.1
  have e6 := vT.2
  have e8 := vH.1
  have b0 := vS.1
  have b1 := vR.1
  have b2' := vC.1
  have b3 := vA.1
  have b4 := vE.1
  have b5 := vL.1
  have b6 := vT.1
  have b8 := vH.2.1
  have O : only x (x + 54) h h := only.rf
  refine aw_aload_n B 0 rfl dX11_set_0 rfl ?_
  refine aw_get B f_X11_12 dX11_set_1 hc.ox rfl ?_
  refine aw_iload_n B 1 rfl dX11_set_4 rfl ?_
  refine aw_callV B 0 0 (x_readerAt _ _ i hc) co_X9_readerAt k_X11_118 dX11_set_5 hc.s rfl rfl rfl rfl (Nat.le_of_ble_eq_true rfl) (zrm hr (by omega)) (Nat.le_refl _) (Nat.le_refl _) (kO fun r5 h5 hp5 => ?_)
  obtain ⟨eh5, hv5⟩ := hp5
  rw [eh5]
  by_cases hA5 : 0 ≤ i ∧ i ≤ S 1 - 1
  · rw [if_pos hA5] at hv5
    obtain ⟨a, q, k, v, rfl, Ra⟩ := hv5
    have hqk := Ra.2.1
    refine aw_astore4 B dX11_set_8 ?_
    refine aw_aload B dX11_set_10 rfl ?_
    refine aw_ifnull B dX11_set_12 ?_
    refine aw_iload_n B 3 rfl dX11_set_15 rfl ?_
    refine aw_iconst B (-1) (by decide) dX11_set_16 ?_
    refine aw_icmp_lt B 26 dX11_set_17 (fun c17 => ?_) (fun c17 => ?_)
    · refine aw_iconst B (-1) (by decide) dX11_set_26 ?_
      refine aw_iret B rfl rfl dX11_set_27 ?_
      exact ⟨_, rfl, by unfold q_set; rw [if_neg (by rw [bI_t hA5]; decide), bI_f (fun z => absurd z.1 (Int32.not_le.mpr c17)), if_pos rfl], hc.up (by omega), O⟩
    · refine aw_iload_n B 3 rfl dX11_set_20 rfl ?_
      refine aw_bipush B 6 (by decide) dX11_set_21 ?_
      refine aw_icmp_lt B 28 dX11_set_23 (fun c23 => ?_) (fun c23 => ?_)
      · refine aw_aload_n B 0 rfl dX11_set_28 rfl ?_
        refine aw_iload_n B 2 rfl dX11_set_29 rfl ?_
        refine aw_callV B 0 0 (x_isSet _ _ y hc) co_X11_isSet k_X11_150 dX11_set_30 hc.ox rfl rfl rfl rfl (Nat.le_of_ble_eq_true rfl) (zrm hr (by omega)) (Nat.le_refl _) (Nat.le_refl _) (kI fun r30 h30 hp30 => ?_)
        obtain ⟨rfl, eh30⟩ := hp30
        rw [eh30]
        refine aw_if_ne B 39 dX11_set_33 (fun c33 => ?_) (fun c33 => ?_)
        · rw [e0] at c33
          obtain ⟨set, hset, rfl⟩ := in_set b0 (bI_n c33)
          rw [← e0] at c33
          have h64 : set < 64 := Nat.lt_of_lt_of_le hset (Nat.pow_le_pow_right (n := 2) (by decide) b0)
          refine aw_aload_n B 0 rfl dX11_set_39 rfl ?_
          refine aw_get B f_X11_44 dX11_set_40 hc.ox rfl ?_
          refine aw_aload_n B 0 rfl dX11_set_43 rfl ?_
          refine aw_get B f_X11_12 dX11_set_44 hc.ox rfl ?_
          refine aw_aload B dX11_set_47 rfl ?_
          refine aw_iload_n B 2 rfl dX11_set_49 rfl ?_
          refine aw_callV B 0 0 (x_begin _ _ (x + 43) a set hc (Or.inl rfl)) co_X4_begin k_X11_153 dX11_set_50 hc.2.2.2.2.2.2.1.o.choose_spec rfl rfl rfl rfl (Nat.le_of_ble_eq_true rfl) (zrm hr (by omega)) (Nat.le_refl _) (Nat.le_refl _) (kV fun h50 hp50 => ?_)
          obtain ⟨o50, hc, ask, hask, hB⟩ := hp50
          have O := O.tr (o50.wide (lo' := x) (hi' := x + 54) (by omega) (by omega))
          have Ra := Ra.o o50 (by omega)
          refine aw_aload_n B 0 rfl dX11_set_53 rfl ?_
          refine aw_get B f_X11_44 dX11_set_54 hc.ox rfl ?_
          refine aw_iconst B 0 (by decide) dX11_set_57 ?_
          refine aw_iconst B 0 (by decide) dX11_set_58 ?_
          refine aw_iconst B 0 (by decide) dX11_set_59 ?_
          refine aw_callSN B 0 0 (x_goOn _ _ (x + 43) a set ask hc (Or.inl rfl) Ra hB hask (by omega) hset) co_X4_goOn k_X11_157 dX11_set_60 rfl rfl (Nat.le_of_ble_eq_true rfl) (zrm hr (by omega)) (Nat.le_refl _) (Nat.le_refl _) (kV fun h60 hp60 => ?_)
          obtain ⟨o60, hc, hR⟩ := hp60
          have O := O.tr (o2_x hc.d (Or.inl rfl) o60)
          refine aw_iload_n B 3 rfl dX11_set_63 rfl ?_
          refine aw_iconst B (-1) (by decide) dX11_set_64 ?_
          refine aw_icmp_ne B 79 dX11_set_65 (fun c65 => ?_) (fun c65 => ?_)
          · have hz5 : z ≤ 5 := (lt_le1 (k := 6) (by omega) z).mp c23
            obtain ⟨j, hj, rfl⟩ := in_le (k := 5) (by decide) (show 0 ≤ z ∧ z ≤ nI 5 from ⟨m1_0 (Int32.not_lt.mp c17) c65, hz5⟩)
            refine aw_aload_n B 0 rfl dX11_set_79 rfl ?_
            refine aw_get B f_X11_44 dX11_set_80 hc.ox rfl ?_
            refine aw_iload_n B 3 rfl dX11_set_83 rfl ?_
            refine aw_callV B 0 0 (x_kth (A7 := A7) (A8 := A8) _ _ (x + 43) j hR b0 hset (by omega)) co_X4_kth k_X11_164 dX11_set_84 hR.o.choose_spec rfl rfl rfl rfl (Nat.le_of_ble_eq_true rfl) (zrm hr (by omega)) (Nat.le_refl _) (Nat.le_refl _) (kI fun r84 h84 hp84 => ?_)
            obtain ⟨rfl, eh84⟩ := hp84
            rw [eh84]
            refine aw_iret B rfl rfl dX11_set_87 ?_
            exact ⟨_, rfl, by unfold q_set; rw [if_neg (by rw [bI_t hA5]; decide), bI_t (show -1 ≤ nI j ∧ nI j ≤ 5 from ⟨Int32.not_lt.mp c17, (lt_le1 (k := 6) (by omega) (nI j)).mp c23⟩), if_neg (by decide), if_neg c33, if_neg c65, Ra.1, kN_nI (by omega), kN_nI (by omega), kN_nI (by omega)], hc.up (by omega), O⟩
          · refine aw_aload_n B 0 rfl dX11_set_68 rfl ?_
            refine aw_get B f_X11_44 dX11_set_69 hc.ox rfl ?_
            refine aw_iload_n B 2 rfl dX11_set_72 rfl ?_
            refine aw_callV B 0 0 (x_hoursOf _ _ (x + 43) set hR b0 hset h64 (Nat.and_self _)) co_X4_hoursOf k_X11_161 dX11_set_73 hR.o.choose_spec rfl rfl rfl rfl (Nat.le_of_ble_eq_true rfl) (zrm hr (by omega)) (Nat.le_refl _) (Nat.le_refl _) (kI fun r73 h73 hp73 => ?_)
            obtain ⟨rfl, eh73⟩ := hp73
            rw [eh73]
            refine aw_goto B 87 dX11_set_76 ?_
            refine aw_iret B rfl rfl dX11_set_87 ?_
            exact ⟨_, rfl, by unfold q_set; rw [if_neg (by rw [bI_t hA5]; decide), bI_t (show -1 ≤ z ∧ z ≤ 5 from ⟨Int32.not_lt.mp c17, (lt_le1 (k := 6) (by omega) z).mp c23⟩), if_neg (by decide), if_neg c33, if_pos c65, Ra.1, kN_nI (by omega), kN_nI (by omega)], hc.up (by omega), O⟩
        · refine aw_bipush B (-2) (by decide) dX11_set_36 ?_
          refine aw_iret B rfl rfl dX11_set_38 ?_
          exact ⟨_, rfl, by unfold q_set; rw [if_neg (by rw [bI_t hA5]; decide), bI_t (show -1 ≤ z ∧ z ≤ 5 from ⟨Int32.not_lt.mp c17, (lt_le1 (k := 6) (by omega) z).mp c23⟩), if_neg (by decide), if_pos c33], hc.up (by omega), O⟩
      · refine aw_iconst B (-1) (by decide) dX11_set_26 ?_
        refine aw_iret B rfl rfl dX11_set_27 ?_
        exact ⟨_, rfl, by unfold q_set; rw [if_neg (by rw [bI_t hA5]; decide), bI_f (fun y => c23 ((lt_le1 (k := 6) (by omega) z).mpr y.2)), if_pos rfl], hc.up (by omega), O⟩
  · rw [if_neg hA5] at hv5
    obtain rfl := hv5
    refine aw_astoreN B dX11_set_8 (by decide) rfl ?_
    refine aw_aloadN B dX11_set_10 rfl ?_
    refine aw_ifnullN B 26 dX11_set_12 ?_
    refine aw_iconst B (-1) (by decide) dX11_set_26 ?_
    refine aw_iret B rfl rfl dX11_set_27 ?_
    exact ⟨_, rfl, by unfold q_set; rw [bI_f hA5, if_pos rfl], hc.up (by omega), O⟩
