theorem dX11_reader_0 : decode cX11_reader 0 = .ok (.iload_n 1, 1) := by decide +kernel
theorem dX11_reader_1 : decode cX11_reader 1 = .ok (.ifCond .lt 9, 3) := by decide +kernel
theorem dX11_reader_4 : decode cX11_reader 4 = .ok (.iload_n 1, 1) := by decide +kernel
theorem dX11_reader_5 : decode cX11_reader 5 = .ok (.bipush 7, 2) := by decide +kernel
theorem dX11_reader_7 : decode cX11_reader 7 = .ok (.if_icmp .lt 5, 3) := by decide +kernel
theorem dX11_reader_10 : decode cX11_reader 10 = .ok (.iconst (-1), 1) := by decide +kernel
theorem dX11_reader_11 : decode cX11_reader 11 = .ok (.ireturn, 1) := by decide +kernel
theorem dX11_reader_12 : decode cX11_reader 12 = .ok (.iload_n 2, 1) := by decide +kernel
theorem dX11_reader_13 : decode cX11_reader 13 = .ok (.ifCond .lt 9, 3) := by decide +kernel
theorem dX11_reader_16 : decode cX11_reader 16 = .ok (.iload_n 2, 1) := by decide +kernel
theorem dX11_reader_17 : decode cX11_reader 17 = .ok (.bipush 9, 2) := by decide +kernel
theorem dX11_reader_19 : decode cX11_reader 19 = .ok (.if_icmp .le 6, 3) := by decide +kernel
theorem dX11_reader_22 : decode cX11_reader 22 = .ok (.bipush (-2), 2) := by decide +kernel
theorem dX11_reader_24 : decode cX11_reader 24 = .ok (.ireturn, 1) := by decide +kernel
theorem dX11_reader_25 : decode cX11_reader 25 = .ok (.aload_n 0, 1) := by decide +kernel
theorem dX11_reader_26 : decode cX11_reader 26 = .ok (.getfield 12, 3) := by decide +kernel
theorem dX11_reader_29 : decode cX11_reader 29 = .ok (.getfield 107, 3) := by decide +kernel
theorem dX11_reader_32 : decode cX11_reader 32 = .ok (.istore_n 3, 1) := by decide +kernel
theorem dX11_reader_33 : decode cX11_reader 33 = .ok (.iload_n 3, 1) := by decide +kernel
theorem dX11_reader_34 : decode cX11_reader 34 = .ok (.ifCond .lt 15, 3) := by decide +kernel
theorem dX11_reader_37 : decode cX11_reader 37 = .ok (.iload_n 3, 1) := by decide +kernel
theorem dX11_reader_38 : decode cX11_reader 38 = .ok (.aload_n 0, 1) := by decide +kernel
theorem dX11_reader_39 : decode cX11_reader 39 = .ok (.getfield 12, 3) := by decide +kernel
theorem dX11_reader_42 : decode cX11_reader 42 = .ok (.getfield 110, 3) := by decide +kernel
theorem dX11_reader_45 : decode cX11_reader 45 = .ok (.arraylength, 1) := by decide +kernel
theorem dX11_reader_46 : decode cX11_reader 46 = .ok (.if_icmp .lt 6, 3) := by decide +kernel
theorem dX11_reader_49 : decode cX11_reader 49 = .ok (.bipush (-4), 2) := by decide +kernel
theorem dX11_reader_51 : decode cX11_reader 51 = .ok (.ireturn, 1) := by decide +kernel
theorem dX11_reader_52 : decode cX11_reader 52 = .ok (.aload_n 0, 1) := by decide +kernel
theorem dX11_reader_53 : decode cX11_reader 53 = .ok (.getfield 12, 3) := by decide +kernel
theorem dX11_reader_56 : decode cX11_reader 56 = .ok (.getfield 110, 3) := by decide +kernel
theorem dX11_reader_59 : decode cX11_reader 59 = .ok (.iload_n 3, 1) := by decide +kernel
theorem dX11_reader_60 : decode cX11_reader 60 = .ok (.iload_n 1, 1) := by decide +kernel
theorem dX11_reader_61 : decode cX11_reader 61 = .ok (.iload_n 3, 1) := by decide +kernel
theorem dX11_reader_62 : decode cX11_reader 62 = .ok (.iload_n 2, 1) := by decide +kernel
theorem dX11_reader_63 : decode cX11_reader 63 = .ok (.invokestatic 114, 3) := by decide +kernel
theorem dX11_reader_66 : decode cX11_reader 66 = .ok (.aastore, 1) := by decide +kernel
theorem dX11_reader_67 : decode cX11_reader 67 = .ok (.aload_n 0, 1) := by decide +kernel
theorem dX11_reader_68 : decode cX11_reader 68 = .ok (.getfield 12, 3) := by decide +kernel
theorem dX11_reader_71 : decode cX11_reader 71 = .ok (.dup, 1) := by decide +kernel
theorem dX11_reader_72 : decode cX11_reader 72 = .ok (.getfield 107, 3) := by decide +kernel
theorem dX11_reader_75 : decode cX11_reader 75 = .ok (.iconst 1, 1) := by decide +kernel
theorem dX11_reader_76 : decode cX11_reader 76 = .ok (.iadd, 1) := by decide +kernel
theorem dX11_reader_77 : decode cX11_reader 77 = .ok (.putfield 107, 3) := by decide +kernel
theorem dX11_reader_80 : decode cX11_reader 80 = .ok (.iload_n 3, 1) := by decide +kernel
theorem dX11_reader_81 : decode cX11_reader 81 = .ok (.ireturn, 1) := by decide +kernel
theorem n1_4 {k : Nat} (h : k ≤ 4) (c : ¬ nI k < nI 4) : nI k = nI 4 := by
  have : ¬ k < 4 := fun z => c (nI_lt z (by decide))
  rw [show k = 4 by omega]
set_option maxRecDepth 100000 in
set_option maxHeartbeats 4000000 in
theorem x_reader (l : Launch) (g : zG) {h : Hp} {x ca cs N T T2 tn : Nat} {S S2 Bt : Nat → Int32} {Q Q2 : pP} {n n2 : Nat → Nat} {im : Int32} (u w : Int32) (hc : cH g h x ca cs N S T Q n S2 T2 Q2 n2 im Bt tn) (hx64 : x + 64 ≤ h.1) : Sp l g yX11_reader cX11_reader 4 (some .int) (rmc 5 1 2) [.ref x, .int u, .int w] (h) (zI fun r h' => r = (q_reader S u w).1 ∧ (∃ n', cH g h' x ca cs N (q_reader S u w).2 T Q n' S2 T2 Q2 n2 im Bt tn) ∧ h.1 ≤ h'.1 ∧ ∀ a, a < x + 64 → ¬ (x ≤ a ∧ a < x + 54) → h'.2 a = h.2 a) := by
  refine Sp.of [some (.ref x), some (.int u), some (.int w), none] (by decide) (Nat.le_of_ble_eq_true rfl) rfl rfl ?_
  rintro X rfl hr rfl B
  show AW X 1 2 0 _ _ _ _
  refine aw_wf (fun wf => ?_)
  obtain ⟨vS, vR, vC, vA, vE, vL, vT, vH⟩ := hc.v
  have e0 := vS.2.1
  have e1 := vR.2.1
  have e2 := vC.2.1
  have e3 := vA.2.1
  have e4 := vE.2.1
  have e5 := vL.2.1
  have e6 := vT.2
  have e8 := vH.1
  have b0 := vS.1
  have b1 := vR.1
  have b2' := vC.1
  have b3 := vA.1
  have b4 := vE.1
  have b5 := vL.1
  have b6 := vT.1
  have b8 := vH.2.1
  have hd := hc.d
  refine aw_iload_n B 1 rfl dX11_reader_0 rfl ?_
  refine aw_if_lt B 10 dX11_reader_1 (fun c1 => ?_) (fun c1 => ?_)
  · refine aw_iconst B (-1) (by decide) dX11_reader_10 ?_
    refine aw_iret B rfl rfl dX11_reader_11 ?_
    have hq : q_reader S u w = (-1, S) := by unfold q_reader; rw [bI_f (fun z => absurd z.1 (Int32.not_le.mpr c1)), if_pos rfl]
    rw [hq]
    exact ⟨_, rfl, rfl, ⟨n, hc⟩, Nat.le_refl _, fun _ _ _ => rfl⟩
  · refine aw_iload_n B 1 rfl dX11_reader_4 rfl ?_
    refine aw_bipush B 7 (by decide) dX11_reader_5 ?_
    refine aw_icmp_lt B 12 dX11_reader_7 (fun c7 => ?_) (fun c7 => ?_)
    · refine aw_iload_n B 2 rfl dX11_reader_12 rfl ?_
      refine aw_if_lt B 22 dX11_reader_13 (fun c13 => ?_) (fun c13 => ?_)
      · refine aw_bipush B (-2) (by decide) dX11_reader_22 ?_
        refine aw_iret B rfl rfl dX11_reader_24 ?_
        have hq : q_reader S u w = (-2, S) := by unfold q_reader; rw [bI_t (show 0 ≤ u ∧ u ≤ 6 from ⟨Int32.not_lt.mp c1, (lt_le1 (k := 7) (by omega) u).mp c7⟩), if_neg (by decide), bI_f (fun z => absurd z.1 (Int32.not_le.mpr c13)), if_pos rfl]
        rw [hq]
        exact ⟨_, rfl, rfl, ⟨n, hc⟩, Nat.le_refl _, fun _ _ _ => rfl⟩
      · refine aw_iload_n B 2 rfl dX11_reader_16 rfl ?_
        refine aw_bipush B 9 (by decide) dX11_reader_17 ?_
        refine aw_icmp_le B 25 dX11_reader_19 (fun c19 => ?_) (fun c19 => ?_)
        · refine aw_aload_n B 0 rfl dX11_reader_25 rfl ?_
          refine aw_get B f_X11_12 dX11_reader_26 hc.ox rfl ?_
          refine aw_get B f_X11_107 dX11_reader_29 hc.s rfl ?_
          refine aw_istore3 B dX11_reader_32 ?_
          rw [e1]
          refine aw_iload_n B 3 rfl dX11_reader_33 rfl ?_
          refine aw_if_lt B 49 dX11_reader_34 (fun c34 => absurd c34 (Int32.not_lt.mpr (nI_pos' (by omega)))) (fun c34 => ?_)
          refine aw_iload_n B 3 rfl dX11_reader_37 rfl ?_
          refine aw_aload_n B 0 rfl dX11_reader_38 rfl ?_
          refine aw_get B f_X11_12 dX11_reader_39 hc.ox rfl ?_
          obtain ⟨ra0, g0r, -, -⟩ := hc.st.2.2.1
          refine aw_get B f_X11_110 dX11_reader_42 hc.s rfl ?_
          refine aw_alen B dX11_reader_45 g0r (Or.inr (Or.inr rfl)) ?_
          refine aw_icmp_lt B 52 dX11_reader_46 (fun c46 => ?_) (fun c46 => ?_)
          · have hn1 : n 1 < 4 := (nI_ltI (b := 4) (by omega) (by decide)).mp c46
            have hu6 : 0 ≤ u ∧ u ≤ 6 := ⟨Int32.not_lt.mp c1, (lt_le1 (k := 7) (by omega) u).mp c7⟩
            have hw9 : 0 ≤ w ∧ w ≤ 9 := ⟨Int32.not_lt.mp c13, c19⟩
            have h14 : ¬ S 1 = 4 := fun z => by rw [e1] at z; have := (nI_eq (b := 4) (by omega) (by decide)).mp z; omega
            obtain ⟨k, hk6, rfl⟩ := in_le (k := 6) (by decide) hu6
            obtain ⟨v, hv9, rfl⟩ := in_le (k := 9) (by decide) hw9
            refine aw_aload_n B 0 rfl dX11_reader_52 rfl ?_
            refine aw_get B f_X11_12 dX11_reader_53 hc.ox rfl ?_
            refine aw_get B f_X11_110 dX11_reader_56 hc.s rfl ?_
            refine aw_iload_n B 3 rfl dX11_reader_59 rfl ?_
            refine aw_iload_n B 1 rfl dX11_reader_60 rfl ?_
            refine aw_iload_n B 3 rfl dX11_reader_61 rfl ?_
            refine aw_iload_n B 2 rfl dX11_reader_62 rfl ?_
            refine aw_callS B 0 0 (x_newReader _ _ h k (nI (n 1)) (nI v) hk6) co_X11_newReader k_X11_114 dX11_reader_63 rfl rfl (Nat.le_of_ble_eq_true rfl) (zrc hr (by omega)) (Nat.le_refl _) (Nat.le_refl _) (kO fun r63 h63 hp63 => ?_)
            obtain ⟨rfl, rfl⟩ := hp63
            obtain ⟨ra, g1, g2, g3⟩ := hc.st.2.2.1
            have gne : x + 6 ≠ h.1 := by omega
            have g9 : (hp_new h (.inr (kc k, [.int (nI (n 1)), .int (nI v)]))).2 (x + 1 + 5) = some (.inl ((zXg X).2.2.1.2.2, 4, .inr (.inr (.inr (.inr ra))))) := (hn_n (by omega)).trans g1
            refine aw_aastR B hk6 dX11_reader_66 g9 (show vp_in (nI (n 1)) 4 from vp_in_nI hn1 (by decide)) hn_s ?_
            rw [nI_clamp (by omega)]
            obtain ⟨h66, e66⟩ : ∃ h66 : Hp, h66 = hp_up (hp_new h (.inr (kc k, [.int (nI (n 1)), .int (nI v)]))) (x + 1 + 5) (.inl ((zXg X).2.2.1.2.2, 4, .inr (.inr (.inr (.inr (va_up ra (n 1) (some h.1))))))) := ⟨_, rfl⟩
            rw [← e66]
            have o66 : ∀ a, a ≠ h.1 → a ≠ x + 6 → h66.2 a = h.2 a := fun a y1 y2 => by rw [e66]; exact (hu_n y2).trans (hn_n y1)
            have f66 : h66.2 (x + 6) = some (.inl ((zXg X).2.2.1.2.2, 4, .inr (.inr (.inr (.inr (va_up ra (n 1) (some h.1))))))) := by rw [e66]; exact hu_s
            have k66 : h66.2 h.1 = some (.inr (kc k, [.int (nI (n 1)), .int (nI v)])) := by rw [e66]; exact (hu_n (by omega)).trans hn_s
            have z66 : h66.1 = h.1 + 1 := by rw [e66]; rfl
            have x66 := (o66 x (by omega) (by omega)).trans hc.ox
            have s66 := (o66 (x + 1) (by omega) (by omega)).trans hc.s
            refine aw_aload_n B 0 rfl dX11_reader_67 rfl ?_
            refine aw_get B f_X11_12 dX11_reader_68 x66 rfl ?_
            refine aw_dup B rfl dX11_reader_71 ?_
            refine aw_get B f_X11_107 dX11_reader_72 s66 rfl ?_
            refine aw_iconst B 1 (by decide) dX11_reader_75 ?_
            refine aw_iadd B dX11_reader_76 ?_
            rw [e1, nI_1]
            refine aw_put B f_X11_107 dX11_reader_77 s66 rfl rfl (by show 2 < 11; decide) ?_
            obtain ⟨h77, e77⟩ : ∃ h77 : Hp, h77 = hp_up h66 (x + 1) (.inr (9, (stO (x + 1) ca (S 8) (S 2) (S 1)).set 2 (.int (nI (n 1 + 1))))) := ⟨_, rfl⟩
            rw [← e77]
            have o77 : ∀ a, a ≠ h.1 → a ≠ x + 6 → a ≠ x + 1 → h77.2 a = h.2 a := fun a y1 y2 y3 => by rw [e77]; exact (hu_n y3).trans (o66 a y1 y2)
            have s77 : h77.2 (x + 1) = some (.inr (9, stO (x + 1) ca (S 8) (S 2) (nI (n 1 + 1)))) := by rw [e77]; exact hu_s
            have f77 : h77.2 (x + 6) = some (.inl ((zXg X).2.2.1.2.2, 4, .inr (.inr (.inr (.inr (va_up ra (n 1) (some h.1))))))) := by rw [e77]; exact (hu_n (by omega)).trans f66
            have k77 : h77.2 h.1 = some (.inr (kc k, [.int (nI (n 1)), .int (nI v)])) := by rw [e77]; exact (hu_n (by omega)).trans k66
            have z77 : h77.1 = h.1 + 1 := by rw [e77]; exact z66
            refine aw_iload_n B 3 rfl dX11_reader_80 rfl ?_
            refine aw_iret B rfl rfl dX11_reader_81 ?_
            have ag : ∀ jj, jj ≠ 1 ∧ ¬ (22 ≤ jj ∧ jj < 30) → (upd (upd (upd S (22 + n 1) (nI k)) (26 + n 1) (nI v)) 1 (nI (n 1 + 1))) jj = S jj := fun jj hi => by rw [upd_n (by omega), upd_n (by omega), upd_n (by omega)]
            have q2 : ∀ a e, x + 64 ≤ a → h.2 a = some e → h77.2 a = some e := fun a e y1 y2 => (o77 a (by have := wf a e y2; omega) (by omega) (by omega)).trans y2
            obtain ⟨p1, p2, p3, p4, p5, p6, p7, p8, p9⟩ := hc.st
            have F : ∀ a, x + 7 ≤ a ∧ a < x + 19 → h77.2 a = h.2 a := fun a ha => o77 a (by omega) (by omega) (by omega)
            have rd : rdI (zXg X) h77 (x + 64) (x + 1) (upd (upd (upd S (22 + n 1) (nI k)) (26 + n 1) (nI v)) 1 (nI (n 1 + 1))) (n 1 + 1) := ⟨_, f77, fun r hr4 => by
              unfold va_up
              by_cases e : r = n 1
              · exact Or.inr ⟨h.1, k, nI (n 1), nI v, by simp [e], hx64, hk6, k77⟩
              · rcases g2 r hr4 with y | ⟨a, k', num, v', y1, y2, y3, y4⟩
                · exact Or.inl (by simp [e, y])
                · exact Or.inr ⟨a, k', num, v', by simp [e, y1], y2, y3, q2 _ _ y2 y4⟩, fun r hr1 => by
              by_cases e : r = n 1
              · subst e
                exact ⟨h.1, k, v, by unfold va_up; simp, hx64, hk6, hv9, by rw [upd_n (by omega), upd_n (by omega), upd_s], by rw [upd_n (by omega), upd_s], k77⟩
              · obtain ⟨a, k', v', y1, y2, y3, y4, y5, y6, y7⟩ := g3 r (by omega)
                exact ⟨a, k', v', by unfold va_up; simp [e, y1], y2, y3, y4, by rw [upd_n (by omega), upd_n (by omega), upd_n (by omega)]; exact y5, by rw [upd_n (by omega), upd_n (by omega), upd_n (by omega)]; exact y6, q2 _ _ y2 y7⟩⟩
            have hc := hc.now (S' := upd (upd (upd S (22 + n 1) (nI k)) (26 + n 1) (nI v)) 1 (nI (n 1 + 1))) (T' := T) (Q' := Q) (n' := upN n 1 (n 1 + 1)) (fun a y1 y2 => o77 a (by omega) (by omega) (by omega)) q2 ⟨by rw [ag 8 (by omega), ag 2 (by omega), upd_s]; exact s77, p2.same (fun a ha => o77 a (by omega) (by omega) (by omega)), rd, (p4.same (fun a ha => F a (by omega))).ext (fun q hq => ag _ (by omega)), (p5.same (fun a ha => F a (by omega))).ext (fun q hq => ag _ (by omega)), (p6.same (fun a ha => F a (by omega))).ext (fun q hq => ag _ (by omega)), (p7.same (fun a ha => F a (by omega))).ext (fun q hq => askV.ext (by omega) (fun jj hi => ag jj (by omega))), (p8.same (fun a ha => F a (by omega))).ext (fun q hq => seenV.ext (by omega) (fun jj hi => ag jj (by omega))), (p9.same (fun a ha => F a (by omega))).ext (fun q hq => taleV.ext (by omega) (fun jj hi => ag jj (by omega)))⟩
              ⟨vS.ext (fun jj hi => ag jj (by omega)), ⟨by show n 1 + 1 ≤ 4; omega, upd_s, fun r hr1 => by
                have hr2 : r < n 1 + 1 := hr1
                by_cases e : r = n 1
                · subst e
                  exact ⟨by rw [upd_n (by omega), upd_n (by omega), upd_s]; exact ⟨k, by omega, by omega, rfl⟩, by rw [upd_n (by omega), upd_s]; exact ⟨v, by omega, by omega, rfl⟩⟩
                · rw [upd_n (by omega), upd_n (by omega), upd_n (by omega), upd_n (by omega), upd_n (by omega), upd_n (by omega)]; exact vR.2.2 r (by omega)⟩, (show iC S Q (n 2) from vC).ext (fun jj hi => ag jj (by omega)), (vA.ext (fun jj hi => ag jj (by omega))).mono (Nat.le_refl _) (Nat.le_succ _), vE.ext (fun jj hi => ag jj (by omega)), (vL.ext (fun jj hi => ag jj (by omega))).mono (Nat.le_refl _) (Nat.le_succ _), ⟨b6, (ag 6 (by omega)).trans e6⟩, ⟨(ag 8 (by omega)).trans e8, b8, vH.2.2⟩⟩
            have hq : q_reader S (nI k) (nI v) = (nI (n 1), upd (upd (upd S (22 + n 1) (nI k)) (26 + n 1) (nI v)) 1 (nI (n 1 + 1))) := by unfold q_reader; rw [bI_t hu6, if_neg (by decide), bI_t hw9, if_neg (by decide), if_neg h14, e1, nI_clamp (by omega), nI_1]
            rw [hq]
            exact ⟨_, rfl, rfl, ⟨_, hc⟩, by omega, fun a y1 y2 => o77 a (by omega) (by omega) (by omega)⟩
          · refine aw_bipush B (-4) (by decide) dX11_reader_49 ?_
            refine aw_iret B rfl rfl dX11_reader_51 ?_
            have hq : q_reader S u w = (-4, S) := by unfold q_reader; rw [bI_t (show 0 ≤ u ∧ u ≤ 6 from ⟨Int32.not_lt.mp c1, (lt_le1 (k := 7) (by omega) u).mp c7⟩), if_neg (by decide), bI_t ⟨Int32.not_lt.mp c13, c19⟩, if_neg (by decide), e1, if_pos (show nI (n 1) = (4 : Int32) from n1_4 b1 c46)]
            rw [hq]
            exact ⟨_, rfl, rfl, ⟨n, hc⟩, Nat.le_refl _, fun _ _ _ => rfl⟩
        · refine aw_bipush B (-2) (by decide) dX11_reader_22 ?_
          refine aw_iret B rfl rfl dX11_reader_24 ?_
          have hq : q_reader S u w = (-2, S) := by unfold q_reader; rw [bI_t (show 0 ≤ u ∧ u ≤ 6 from ⟨Int32.not_lt.mp c1, (lt_le1 (k := 7) (by omega) u).mp c7⟩), if_neg (by decide), bI_f (fun z => c19 z.2), if_pos rfl]
          rw [hq]
          exact ⟨_, rfl, rfl, ⟨n, hc⟩, Nat.le_refl _, fun _ _ _ => rfl⟩
    · refine aw_iconst B (-1) (by decide) dX11_reader_10 ?_
      refine aw_iret B rfl rfl dX11_reader_11 ?_
      have hq : q_reader S u w = (-1, S) := by unfold q_reader; rw [bI_f (fun z => c7 ((lt_le1 (k := 7) (by omega) u).mpr z.2)), if_pos rfl]
      rw [hq]
      exact ⟨_, rfl, rfl, ⟨n, hc⟩, Nat.le_refl _, fun _ _ _ => rfl⟩
theorem iv.ext {S S' : Nat → Int32} {T : Nat} {Q : pP} {n : Nat → Nat} (p : iv S T Q n) (e : ∀ i, i < 899 → S' i = S i) : iv S' T Q n := by
  obtain ⟨vS, vR, vC, vA, vE, vL, vT, vH⟩ := p
  exact ⟨vS.ext (fun i hi => e i (by omega)), vR.ext (fun i hi => e i (by omega)), (show iC S Q (n 2) from vC).ext (fun i hi => e i (by omega)), vA.ext (fun i hi => e i (by omega)), vE.ext (fun i hi => e i (by omega)), vL.ext (fun i hi => e i (by omega)), ⟨vT.1, (e 6 (by omega)).trans vT.2⟩, ⟨(e 8 (by omega)).trans vH.1, vH.2⟩⟩
theorem stI.e {g : zG} {h : Hp} {y s ca : Nat} {S S' : Nat → Int32} {T : Nat} {Q : pP} {n : Nat → Nat} (p : stI g h y s ca S Q n) (v : iv S T Q n) (e : ∀ i, i < 899 → S' i = S i) : stI g h y s ca S' Q n := by
  obtain ⟨vS, vR, vC, vA, vE, vL, vT, vH⟩ := v
  have b3 := vA.1
  have b4 := vE.1
  have b5 := vL.1
  have b0 := vS.1
  exact p.ob vR.1 ⟨vA.1, vE.1, vL.1, vS.1, vT.1⟩ (fun _ _ => rfl) (fun _ _ _ h => h) (by rw [e 8 (by omega), e 2 (by omega), e 1 (by omega)]; exact p.1) (fun i h1 h2 => e i (by omega))
theorem dX11_image_0 : decode cX11_image 0 = .ok (.aload_n 0, 1) := by decide +kernel
theorem dX11_image_1 : decode cX11_image 1 = .ok (.getfield 18, 3) := by decide +kernel
theorem dX11_image_4 : decode cX11_image 4 = .ok (.aload_n 0, 1) := by decide +kernel
theorem dX11_image_5 : decode cX11_image 5 = .ok (.getfield 12, 3) := by decide +kernel
theorem dX11_image_8 : decode cX11_image 8 = .ok (.invokevirtual 233, 3) := by decide +kernel
theorem dX11_image_11 : decode cX11_image 11 = .ok (.aload_n 0, 1) := by decide +kernel
theorem dX11_image_12 : decode cX11_image 12 = .ok (.iconst 1, 1) := by decide +kernel
theorem dX11_image_13 : decode cX11_image 13 = .ok (.putfield 21, 3) := by decide +kernel
theorem dX11_image_16 : decode cX11_image 16 = .ok (.aload_n 0, 1) := by decide +kernel
theorem dX11_image_17 : decode cX11_image 17 = .ok (.getfield 12, 3) := by decide +kernel
theorem dX11_image_20 : decode cX11_image 20 = .ok (.getfield 87, 3) := by decide +kernel
theorem dX11_image_23 : decode cX11_image 23 = .ok (.getfield 66, 3) := by decide +kernel
theorem dX11_image_26 : decode cX11_image 26 = .ok (.ireturn, 1) := by decide +kernel
set_option maxRecDepth 100000 in
set_option maxHeartbeats 4000000 in
theorem x_image (l : Launch) (g : zG) {h : Hp} {x ca cs N T T2 tn : Nat} {S S2 Bt : Nat → Int32} {Q Q2 : pP} {n n2 : Nat → Nat} {im : Int32}  (hc : cH g h x ca cs N S T Q n S2 T2 Q2 n2 im Bt tn) : Sp l g yX11_image cX11_image 1 (some .int) (rmz 7) [.ref x] (h) (zI fun r h' => r = S 0 ∧ cH g h' x ca cs N S T Q n S T Q n 1 Bt tn ∧ only x (x + 54) h h') := by
  refine Sp.of [some (.ref x)] (by decide) (Nat.le_of_ble_eq_true rfl) rfl rfl ?_
  rintro X rfl hr rfl B
  show AW X 0 0 0 _ _ _ _
  obtain ⟨vS, vR, vC, vA, vE, vL, vT, vH⟩ := hc.v
  have e0 := vS.2.1
  have e1 := vR.2.1
  have e2 := vC.2.1
  have e3 := vA.2.1
  have e4 := vE.2.1
  have e5 := vL.2.1
  have e6 := vT.2
  have e8 := vH.1
  have b0 := vS.1
  have b1 := vR.1
  have b2' := vC.1
  have b3 := vA.1
  have b4 := vE.1
  have b5 := vL.1
  have b6 := vT.1
  have b8 := vH.2.1
  have O : only x (x + 54) h h := only.rf
  have hd := hc.d
  refine aw_aload_n B 0 rfl dX11_image_0 rfl ?_
  refine aw_get B f_X11_18 dX11_image_1 hc.ox rfl ?_
  refine aw_aload_n B 0 rfl dX11_image_4 rfl ?_
  refine aw_get B f_X11_12 dX11_image_5 hc.ox rfl ?_
  refine aw_callV B 0 0 (x_stTake (y := x + 64) (s := x + 19) (ca := x + 20) (s2 := x + 1) (ca2 := ca) _ _ hc.2.2.2.1 hc.st hc.v (by omega) (by omega) (by omega) (by omega) (by omega) (by omega) (by omega)) co_X9_takeFrom k_X11_233 dX11_image_8 hc.2.2.2.1.1 rfl rfl rfl rfl (Nat.le_of_ble_eq_true rfl) (zrm hr (by omega)) (Nat.le_refl _) (Nat.le_refl _) (kV fun h8 hp8 => ?_)
  obtain ⟨s8, z8, o8⟩ := hp8
  have k8 : ∀ a, ¬ (x + 19 ≤ a ∧ a < x + 37) → h8.2 a = h.2 a := fun a ha => o8 a (by omega)
  have x8 := (k8 x (by omega)).trans hc.ox
  have s1 := (k8 (x + 1) (by omega)).trans hc.s
  have w9 := hc.shelves.same (h' := h8) (fun a ha => k8 a (by omega))
  refine aw_aload_n B 0 rfl dX11_image_11 rfl ?_
  refine aw_iconst B 1 (by decide) dX11_image_12 ?_
  refine aw_put B f_X11_21 dX11_image_13 x8 rfl rfl (by show 2 < 8; decide) ?_
  obtain ⟨h13, e13⟩ : ∃ h13 : Hp, h13 = hp_up h8 x (.inr (11, (xO x im cs).set 2 (.int 1))) := ⟨_, rfl⟩
  rw [← e13]
  have o13 : ∀ a, a ≠ x → h13.2 a = h8.2 a := fun a y1 => by rw [e13]; exact hu_n y1
  have x13 : h13.2 x = some (.inr (11, xO x 1 cs)) := by rw [e13]; exact hu_s
  have z13 : h13.1 = h8.1 := by rw [e13]; rfl
  have k13 : ∀ a, ¬ (x + 19 ≤ a ∧ a < x + 37) → a ≠ x → h13.2 a = h.2 a := fun a y1 y2 => (o13 a y2).trans (k8 a y1)
  have s1 := (o13 (x + 1) (by omega)).trans s1
  have w9 := w9.same (h' := h13) (fun a ha => o13 a (by omega))
  refine aw_aload_n B 0 rfl dX11_image_16 rfl ?_
  refine aw_get B f_X11_12 dX11_image_17 x13 rfl ?_
  refine aw_get B f_X11_87 dX11_image_20 s1 rfl ?_
  refine aw_get B f_X11_66 dX11_image_23 w9.o rfl ?_
  refine aw_iret B rfl rfl dX11_image_26 ?_
  obtain ⟨p1, p2, p3, p4, p5, p6, p7, p8, ⟨f, p9⟩, p10, p11, p12⟩ := hc
  exact ⟨_, rfl, e0.symm, ⟨p1, x13, p3.same (fun a ha => k13 a (by omega) (by omega)) (fun a e y1 y2 => (k13 a (by omega) (by omega)).trans y2), s8.same (fun a ha => o13 a (by omega)) (fun a e y1 y2 => (o13 a (by omega)).trans y2), p5.same (fun a ha => k13 a (by omega) (by omega)), p6.same (fun a ha => k13 a (by omega) (by omega)), p7.same (fun a ha => k13 a (by omega) (by omega)), p8.same (fun a ha => k13 a (by omega) (by omega)), ⟨f, (k13 _ (by omega) (by omega)).trans p9⟩, p10, p10, Or.inr rfl⟩, z13.trans z8, fun a ha => k13 a (by omega) (by omega)⟩
theorem dX11_undo_0 : decode cX11_undo 0 = .ok (.aload_n 0, 1) := by decide +kernel
theorem dX11_undo_1 : decode cX11_undo 1 = .ok (.getfield 21, 3) := by decide +kernel
theorem dX11_undo_4 : decode cX11_undo 4 = .ok (.ifCond .ne 6, 3) := by decide +kernel
theorem dX11_undo_7 : decode cX11_undo 7 = .ok (.bipush (-3), 2) := by decide +kernel
theorem dX11_undo_9 : decode cX11_undo 9 = .ok (.ireturn, 1) := by decide +kernel
theorem dX11_undo_10 : decode cX11_undo 10 = .ok (.aload_n 0, 1) := by decide +kernel
theorem dX11_undo_11 : decode cX11_undo 11 = .ok (.getfield 12, 3) := by decide +kernel
theorem dX11_undo_14 : decode cX11_undo 14 = .ok (.aload_n 0, 1) := by decide +kernel
theorem dX11_undo_15 : decode cX11_undo 15 = .ok (.getfield 18, 3) := by decide +kernel
theorem dX11_undo_18 : decode cX11_undo 18 = .ok (.invokevirtual 233, 3) := by decide +kernel
theorem dX11_undo_21 : decode cX11_undo 21 = .ok (.aload_n 0, 1) := by decide +kernel
theorem dX11_undo_22 : decode cX11_undo 22 = .ok (.getfield 12, 3) := by decide +kernel
theorem dX11_undo_25 : decode cX11_undo 25 = .ok (.getfield 87, 3) := by decide +kernel
theorem dX11_undo_28 : decode cX11_undo 28 = .ok (.getfield 66, 3) := by decide +kernel
theorem dX11_undo_31 : decode cX11_undo 31 = .ok (.ireturn, 1) := by decide +kernel
set_option maxRecDepth 100000 in
set_option maxHeartbeats 4000000 in
theorem x_undo (l : Launch) (g : zG) {h : Hp} {x ca cs N T T2 tn : Nat} {S S2 Bt : Nat → Int32} {Q Q2 : pP} {n n2 : Nat → Nat} {im : Int32}  (hc : cH g h x ca cs N S T Q n S2 T2 Q2 n2 im Bt tn) : Sp l g yX11_undo cX11_undo 1 (some .int) (rmz 7) [.ref x] (h) (zI fun r h' => (if im = 0 then r = -3 ∧ h' = h else r = S2 0 ∧ cH g h' x ca cs N S2 T2 Q2 n2 S2 T2 Q2 n2 im Bt tn) ∧ only x (x + 54) h h') := by
  refine Sp.of [some (.ref x)] (by decide) (Nat.le_of_ble_eq_true rfl) rfl rfl ?_
  rintro X rfl hr rfl B
  show AW X 0 0 0 _ _ _ _
  obtain ⟨vS, vR, vC, vA, vE, vL, vT, vH⟩ := hc.v
  have e0 := vS.2.1
  have e1 := vR.2.1
  have e2 := vC.2.1
  have e3 := vA.2.1
  have e4 := vE.2.1
  have e5 := vL.2.1
  have e6 := vT.2
  have e8 := vH.1
  have b0 := vS.1
  have b1 := vR.1
  have b2' := vC.1
  have b3 := vA.1
  have b4 := vE.1
  have b5 := vL.1
  have b6 := vT.1
  have b8 := vH.2.1
  have O : only x (x + 54) h h := only.rf
  have hd := hc.d
  refine aw_aload_n B 0 rfl dX11_undo_0 rfl ?_
  refine aw_get B f_X11_21 dX11_undo_1 hc.ox rfl ?_
  refine aw_if_ne B 10 dX11_undo_4 (fun c4 => ?_) (fun c4 => ?_)
  · refine aw_aload_n B 0 rfl dX11_undo_10 rfl ?_
    refine aw_get B f_X11_12 dX11_undo_11 hc.ox rfl ?_
    refine aw_aload_n B 0 rfl dX11_undo_14 rfl ?_
    refine aw_get B f_X11_18 dX11_undo_15 hc.ox rfl ?_
    refine aw_callV B 0 0 (x_stTake (y := x + 64) (s := x + 1) (ca := ca) (s2 := x + 19) (ca2 := x + 20) _ _ hc.st hc.2.2.2.1 hc.2.2.2.2.2.2.2.2.2.2.1 (by omega) (by omega) (by omega) (by omega) (by omega) (by omega) (by omega)) co_X9_takeFrom k_X11_233 dX11_undo_18 hc.s rfl rfl rfl rfl (Nat.le_of_ble_eq_true rfl) (zrm hr (by omega)) (Nat.le_refl _) (Nat.le_refl _) (kV fun h18 hp18 => ?_)
    obtain ⟨s8, z8, o8⟩ := hp18
    have k8 : ∀ a, ¬ (a = x + 1 ∨ (ca ≤ a ∧ a < ca + 4) ∨ (x + 6 ≤ a ∧ a < x + 19)) → h18.2 a = h.2 a := fun a ha => o8 a (by omega)
    have x8 := (k8 x (by omega)).trans hc.ox
    refine aw_aload_n B 0 rfl dX11_undo_21 rfl ?_
    refine aw_get B f_X11_12 dX11_undo_22 x8 rfl ?_
    refine aw_get B f_X11_87 dX11_undo_25 s8.1 rfl ?_
    refine aw_get B f_X11_66 dX11_undo_28 s8.2.2.2.2.1.o rfl ?_
    refine aw_iret B rfl rfl dX11_undo_31 ?_
    have hS2 := hc.2.2.2.2.2.2.2.2.2.2.1.1.2.1
    obtain ⟨p1, p2, p3, p4, p5, p6, p7, p8, ⟨f, p9⟩, p10, p11, p12⟩ := hc
    exact ⟨_, rfl, by rw [if_neg c4]; exact ⟨hS2.symm, p1, x8, s8, p4.same (fun a ha => k8 a (by omega)) (fun a e y1 y2 => (k8 a (by omega)).trans y2), p5.same (fun a ha => k8 a (by omega)), p6.same (fun a ha => k8 a (by omega)), p7.same (fun a ha => k8 a (by omega)), p8.same (fun a ha => k8 a (by omega)), ⟨f, (k8 _ (by omega)).trans p9⟩, p11, p11, p12⟩, z8, fun a ha => k8 a (by omega)⟩
  · refine aw_bipush B (-3) (by decide) dX11_undo_7 ?_
    refine aw_iret B rfl rfl dX11_undo_9 ?_
    exact ⟨_, rfl, by rw [if_pos c4]; exact ⟨rfl, rfl⟩, O⟩
