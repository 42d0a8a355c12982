theorem dX11_tellOf_0 : decode cX11_tellOf 0 = .ok (.iload_n 2, 1) := by decide +kernel
theorem dX11_tellOf_1 : decode cX11_tellOf 1 = .ok (.iconst (-1), 1) := by decide +kernel
theorem dX11_tellOf_2 : decode cX11_tellOf 2 = .ok (.if_icmp .ne 9, 3) := by decide +kernel
theorem dX11_tellOf_5 : decode cX11_tellOf 5 = .ok (.aload_n 1, 1) := by decide +kernel
theorem dX11_tellOf_6 : decode cX11_tellOf 6 = .ok (.invokevirtual 77, 3) := by decide +kernel
theorem dX11_tellOf_9 : decode cX11_tellOf 9 = .ok (.iconst 0, 1) := by decide +kernel
theorem dX11_tellOf_10 : decode cX11_tellOf 10 = .ok (.ireturn, 1) := by decide +kernel
theorem dX11_tellOf_11 : decode cX11_tellOf 11 = .ok (.aload_n 0, 1) := by decide +kernel
theorem dX11_tellOf_12 : decode cX11_tellOf 12 = .ok (.getfield 12, 3) := by decide +kernel
theorem dX11_tellOf_15 : decode cX11_tellOf 15 = .ok (.iload_n 2, 1) := by decide +kernel
theorem dX11_tellOf_16 : decode cX11_tellOf 16 = .ok (.invokevirtual 118, 3) := by decide +kernel
theorem dX11_tellOf_19 : decode cX11_tellOf 19 = .ok (.ifnull 11, 3) := by decide +kernel
theorem dX11_tellOf_22 : decode cX11_tellOf 22 = .ok (.aload_n 0, 1) := by decide +kernel
theorem dX11_tellOf_23 : decode cX11_tellOf 23 = .ok (.iload_n 3, 1) := by decide +kernel
theorem dX11_tellOf_24 : decode cX11_tellOf 24 = .ok (.invokevirtual 93, 3) := by decide +kernel
theorem dX11_tellOf_27 : decode cX11_tellOf 27 = .ok (.ifCond .ne 5, 3) := by decide +kernel
theorem dX11_tellOf_30 : decode cX11_tellOf 30 = .ok (.iconst (-1), 1) := by decide +kernel
theorem dX11_tellOf_31 : decode cX11_tellOf 31 = .ok (.ireturn, 1) := by decide +kernel
theorem dX11_tellOf_32 : decode cX11_tellOf 32 = .ok (.iload 4, 2) := by decide +kernel
theorem dX11_tellOf_34 : decode cX11_tellOf 34 = .ok (.ifCond .lt 10, 3) := by decide +kernel
theorem dX11_tellOf_37 : decode cX11_tellOf 37 = .ok (.iload 4, 2) := by decide +kernel
theorem dX11_tellOf_39 : decode cX11_tellOf 39 = .ok (.iload 5, 2) := by decide +kernel
theorem dX11_tellOf_41 : decode cX11_tellOf 41 = .ok (.if_icmp .le 6, 3) := by decide +kernel
theorem dX11_tellOf_44 : decode cX11_tellOf 44 = .ok (.bipush (-2), 2) := by decide +kernel
theorem dX11_tellOf_46 : decode cX11_tellOf 46 = .ok (.ireturn, 1) := by decide +kernel
theorem dX11_tellOf_47 : decode cX11_tellOf 47 = .ok (.aload_n 1, 1) := by decide +kernel
theorem dX11_tellOf_48 : decode cX11_tellOf 48 = .ok (.invokevirtual 58, 3) := by decide +kernel
theorem dX11_tellOf_51 : decode cX11_tellOf 51 = .ok (.ifCond .eq 6, 3) := by decide +kernel
theorem dX11_tellOf_54 : decode cX11_tellOf 54 = .ok (.bipush (-4), 2) := by decide +kernel
theorem dX11_tellOf_56 : decode cX11_tellOf 56 = .ok (.ireturn, 1) := by decide +kernel
theorem dX11_tellOf_57 : decode cX11_tellOf 57 = .ok (.aload_n 1, 1) := by decide +kernel
theorem dX11_tellOf_58 : decode cX11_tellOf 58 = .ok (.iload_n 2, 1) := by decide +kernel
theorem dX11_tellOf_59 : decode cX11_tellOf 59 = .ok (.sipush 10000, 3) := by decide +kernel
theorem dX11_tellOf_62 : decode cX11_tellOf 62 = .ok (.imul, 1) := by decide +kernel
theorem dX11_tellOf_63 : decode cX11_tellOf 63 = .ok (.iload_n 3, 1) := by decide +kernel
theorem dX11_tellOf_64 : decode cX11_tellOf 64 = .ok (.bipush 100, 2) := by decide +kernel
theorem dX11_tellOf_66 : decode cX11_tellOf 66 = .ok (.imul, 1) := by decide +kernel
theorem dX11_tellOf_67 : decode cX11_tellOf 67 = .ok (.iadd, 1) := by decide +kernel
theorem dX11_tellOf_68 : decode cX11_tellOf 68 = .ok (.iload 4, 2) := by decide +kernel
theorem dX11_tellOf_70 : decode cX11_tellOf 70 = .ok (.iadd, 1) := by decide +kernel
theorem dX11_tellOf_71 : decode cX11_tellOf 71 = .ok (.invokevirtual 62, 3) := by decide +kernel
theorem dX11_tellOf_74 : decode cX11_tellOf 74 = .ok (.aload_n 1, 1) := by decide +kernel
theorem dX11_tellOf_75 : decode cX11_tellOf 75 = .ok (.getfield 66, 3) := by decide +kernel
theorem dX11_tellOf_78 : decode cX11_tellOf 78 = .ok (.ireturn, 1) := by decide +kernel
set_option maxRecDepth 100000 in
set_option maxHeartbeats 4000000 in
theorem x_tellA (l : Launch) (g : zG) {h : Hp} {x ca cs N T T2 tn : Nat} {S S2 Bt : Nat → Int32} {Q Q2 : pP} {n n2 : Nat → Nat} {im : Int32} (u w z : Int32) (hc : cH g h x ca cs N S T Q n S2 T2 Q2 n2 im Bt tn) : Sp l g yX11_tellOf cX11_tellOf 6 (some .int) (rmz 3) [.ref x, .ref (x + 13), .int u, .int w, .int z, .int 24] (h) (zI fun r h' => r = (q_ask S u w z).1 ∧ (∃ T' n', cH g h' x ca cs N (q_ask S u w z).2 T' Q n' S2 T2 Q2 n2 im Bt tn) ∧ only x (x + 54) h h') := by
  refine Sp.of [some (.ref x), some (.ref (x + 13)), some (.int u), some (.int w), some (.int z), some (.int 24)] (by decide) (Nat.le_of_ble_eq_true rfl) rfl rfl ?_
  rintro X rfl hr rfl B
  show AW X 0 0 0 _ _ _ _
  obtain ⟨vS, vR, vC, vA, vE, vL, vT, vH⟩ := hc.v
  have e0 := vS.2.1
  have e1 := vR.2.1
  have e2 := vC.2.1
  have e3 := vA.2.1
  have e4 := vE.2.1
  have e5 := vL.2.1
  have e6 := vT.2
  have e8 := vH.1
  have b0 := vS.1
  have b1 := vR.1
  have b2' := vC.1
  have b3 := vA.1
  have b4 := vE.1
  have b5 := vL.1
  have b6 := vT.1
  have b8 := vH.2.1
  have O : only x (x + 54) h h := only.rf
  have hd := hc.d
  refine aw_iload_n B 2 rfl dX11_tellOf_0 rfl ?_
  refine aw_iconst B (-1) (by decide) dX11_tellOf_1 ?_
  refine aw_icmp_ne B 11 dX11_tellOf_2 (fun c2 => ?_) (fun c2 => ?_)
  · refine aw_aload_n B 0 rfl dX11_tellOf_11 rfl ?_
    refine aw_get B f_X11_12 dX11_tellOf_12 hc.ox rfl ?_
    refine aw_iload_n B 2 rfl dX11_tellOf_15 rfl ?_
    refine aw_callV B 0 0 (x_readerAt _ _ u hc) co_X9_readerAt k_X11_118 dX11_tellOf_16 hc.s rfl rfl rfl rfl (Nat.le_of_ble_eq_true rfl) (zrm hr (by omega)) (Nat.le_refl _) (Nat.le_refl _) (kO fun r16 h16 hp16 => ?_)
    obtain ⟨eh16, hv16⟩ := hp16
    rw [eh16]
    by_cases hA16 : 0 ≤ u ∧ u ≤ S 1 - 1
    · rw [if_pos hA16] at hv16
      obtain ⟨a, q, k, v, rfl, Ra⟩ := hv16
      have hqk := Ra.2.1
      refine aw_ifnull B dX11_tellOf_19 ?_
      refine aw_aload_n B 0 rfl dX11_tellOf_22 rfl ?_
      refine aw_iload_n B 3 rfl dX11_tellOf_23 rfl ?_
      refine aw_callV B 0 0 (x_isSlate _ _ w hc) co_X11_isSlate k_X11_93 dX11_tellOf_24 hc.ox rfl rfl rfl rfl (Nat.le_of_ble_eq_true rfl) (zrm hr (by omega)) (Nat.le_refl _) (Nat.le_refl _) (kI fun r24 h24 hp24 => ?_)
      obtain ⟨rfl, eh24⟩ := hp24
      rw [eh24]
      refine aw_if_ne B 32 dX11_tellOf_27 (fun c27 => ?_) (fun c27 => ?_)
      · refine aw_iload B dX11_tellOf_32 rfl ?_
        refine aw_if_lt B 44 dX11_tellOf_34 (fun c34 => ?_) (fun c34 => ?_)
        · refine aw_bipush B (-2) (by decide) dX11_tellOf_44 ?_
          refine aw_iret B rfl rfl dX11_tellOf_46 ?_
          have hq : q_ask S u w z = (-2, S) := by unfold q_ask; rw [if_neg c2, if_neg (by rw [bI_t hA16]; decide), if_neg c27, bI_f (fun y => absurd y.1 (Int32.not_le.mpr c34)), if_pos rfl]
          rw [hq]
          exact ⟨_, rfl, rfl, ⟨T, n, hc⟩, O⟩
        · refine aw_iload B dX11_tellOf_37 rfl ?_
          refine aw_iload B dX11_tellOf_39 rfl ?_
          refine aw_icmp_le B 47 dX11_tellOf_41 (fun c41 => ?_) (fun c41 => ?_)
          · refine aw_aload_n B 1 rfl dX11_tellOf_47 rfl ?_
            refine aw_callV B 0 0 (t_full _ _ _ _ 8 _ _ (by decide) hc.asks) co_X7_isFull k_X11_58 dX11_tellOf_48 hc.asks.o rfl rfl rfl rfl (Nat.le_of_ble_eq_true rfl) (zrm hr (by omega)) (Nat.le_refl _) (Nat.le_refl _) (kI fun r48 h48 hp48 => ?_)
            obtain ⟨rfl, eh48⟩ := hp48
            rw [eh48]
            refine aw_if_eq B 57 dX11_tellOf_51 (fun c51 => ?_) (fun c51 => ?_)
            · have h8 := full_f c51
              have hn8 : ¬ S 3 = 8 := fun y => by rw [e3] at y; have := (nI_eq (b := 8) (by omega) (by decide)).mp y; omega
              have hz : 0 ≤ z ∧ z ≤ 24 := ⟨Int32.not_lt.mp c34, c41⟩
              obtain ⟨aa, haa, ea⟩ := in_le (k := 24) (by decide) hz
              obtain ⟨ss, hss, es⟩ := in_nI (k := n 0) (by omega) (by have := bI_n c27; rw [e0] at this; exact this)
              have hrr := Ra.2.1
              obtain ⟨rr, hrr, er⟩ : ∃ rr, rr < n 1 ∧ u = nI rr := ⟨q, hrr, Ra.1⟩
              refine aw_aload_n B 1 rfl dX11_tellOf_57 rfl ?_
              refine aw_iload_n B 2 rfl dX11_tellOf_58 rfl ?_
              refine aw_sipush B 10000 (by decide) dX11_tellOf_59 ?_
              refine aw_imul B dX11_tellOf_62 ?_
              refine aw_iload_n B 3 rfl dX11_tellOf_63 rfl ?_
              refine aw_bipush B 100 (by decide) dX11_tellOf_64 ?_
              refine aw_imul B dX11_tellOf_66 ?_
              refine aw_iadd B dX11_tellOf_67 ?_
              refine aw_iload B dX11_tellOf_68 rfl ?_
              refine aw_iadd B dX11_tellOf_70 ?_
              refine aw_callV B 0 0 (t_add _ _ _ _ 8 _ _ (_) (by decide) (by omega) hc.asks) co_X7_add k_X11_62 dX11_tellOf_71 hc.asks.o rfl rfl rfl rfl (Nat.le_of_ble_eq_true rfl) (zrm hr (by omega)) (Nat.le_refl _) (Nat.le_refl _) (kV fun h71 hp71 => ?_)
              obtain ⟨r71, o71⟩ := hp71
              have O := O.tr (o71.wide (lo' := x) (hi' := x + 54) (by omega) (by omega))
              have ag : ∀ jj, jj ≠ 3 ∧ ¬ (30 ≤ jj ∧ jj < 54) → (upd (upd (upd (upd S (30 + n 3) u) (38 + n 3) w) (46 + n 3) z) 3 (nI (n 3 + 1))) jj = S jj := fun jj hi => by rw [upd_n (by omega), upd_n (by omega), upd_n (by omega), upd_n (by omega)]
              have hc := hc.now (S' := upd (upd (upd (upd S (30 + n 3) u) (38 + n 3) w) (46 + n 3) z) 3 (nI (n 3 + 1))) (T' := T) (Q' := Q) (n' := upN n 3 (n 3 + 1)) (fun a h1 h2 => o71.2 a (by omega)) (fun a e h1 h2 => (o71.2 a (by omega)).trans h2) (hc.st.re b1 (fun a ha => o71.2 a (by omega)) (fun a e h1 h2 => (o71.2 a (by omega)).trans h2) (ag _ (by omega)) (ag _ (by omega)) (ag _ (by omega)) (fun jj h1 h2 => ag jj (by omega)) rfl ((hc.tape.same (fun a ha => o71.2 a (by omega))).ext (fun q hq => ag _ (by omega))) ((hc.shelves.same (fun a ha => o71.2 a (by omega))).ext (fun q hq => ag _ (by omega))) ((hc.lines.same (fun a ha => o71.2 a (by omega))).ext (fun q hq => ag _ (by omega))) (show rwI (zXg X) h71 (x + 13) 8 (n 3 + 1) _ from r71.ext (fun q hq => by
                by_cases e : q = n 3
                · subst e
                  rw [upd_s]
                  unfold askV
                  rw [upd_n (by omega), upd_n (by omega), upd_n (by omega), upd_s, upd_n (by omega), upd_n (by omega), upd_s, upd_n (by omega), upd_s]
                · rw [upd_n e]
                  unfold askV
                  rw [upd_n (by omega), upd_n (by omega), upd_n (by omega), upd_n (by omega), upd_n (by omega), upd_n (by omega), upd_n (by omega), upd_n (by omega), upd_n (by omega), upd_n (by omega), upd_n (by omega), upd_n (by omega)])) ((hc.seen.same (fun a ha => o71.2 a (by omega))).ext (fun q hq => seenV.ext (by omega) (fun jj hi => ag jj (by omega)))) ((hc.tales.same (fun a ha => o71.2 a (by omega))).ext (fun q hq => taleV.ext (by omega) (fun jj hi => ag jj (by omega))))) ⟨vS.ext (fun jj hi => ag jj (by omega)), vR.ext (fun jj hi => ag jj (by omega)), (show iC S Q (n 2) from vC).ext (fun jj hi => ag jj (by omega)), ⟨by show n 3 + 1 ≤ 8; omega, upd_s, fun k hk => by
                have hk1 : k < n 3 + 1 := hk
                by_cases e : k = n 3
                · subst e
                  refine ⟨⟨rr, hrr, ?_⟩, ⟨ss, hss, ?_⟩, aa, haa, ?_⟩
                  · rw [upd_n (by omega), upd_n (by omega), upd_n (by omega), upd_s]; exact er
                  · rw [upd_n (by omega), upd_n (by omega), upd_s]; exact es
                  · rw [upd_n (by omega), upd_s]; exact ea
                · rw [upd_n (by omega), upd_n (by omega), upd_n (by omega), upd_n (by omega), upd_n (by omega), upd_n (by omega), upd_n (by omega), upd_n (by omega), upd_n (by omega), upd_n (by omega), upd_n (by omega), upd_n (by omega)]; exact vA.2.2 k (by omega)⟩, vE.ext (fun jj hi => ag jj (by omega)), vL.ext (fun jj hi => ag jj (by omega)), ⟨b6, (ag 6 (by omega)).trans e6⟩, ⟨(ag 8 (by omega)).trans e8, b8, vH.2.2⟩⟩
              have hq : q_ask S u w z = (nI (n 3 + 1), upd (upd (upd (upd S (30 + n 3) u) (38 + n 3) w) (46 + n 3) z) 3 (nI (n 3 + 1))) := by unfold q_ask; rw [if_neg c2, bI_t hA16, if_neg (by decide), if_neg c27, bI_t hz, if_neg (by decide), if_neg hn8, e3, nI_clamp (by omega), nI_1]
              refine aw_aload_n B 1 rfl dX11_tellOf_74 rfl ?_
              refine aw_get B f_X11_66 dX11_tellOf_75 hc.asks.o rfl ?_
              refine aw_iret B rfl rfl dX11_tellOf_78 ?_
              rw [hq]
              exact ⟨_, rfl, rfl, ⟨T, _, hc⟩, O⟩
            · refine aw_bipush B (-4) (by decide) dX11_tellOf_54 ?_
              refine aw_iret B rfl rfl dX11_tellOf_56 ?_
              have hq : q_ask S u w z = (-4, S) := by unfold q_ask; rw [if_neg c2, if_neg (by rw [bI_t hA16]; decide), if_neg c27, bI_t ⟨Int32.not_lt.mp c34, c41⟩, if_neg (by decide), e3, if_pos (show nI (n 3) = (8 : Int32) from full_t c51 b3)]
              rw [hq]
              exact ⟨_, rfl, rfl, ⟨T, n, hc⟩, O⟩
          · refine aw_bipush B (-2) (by decide) dX11_tellOf_44 ?_
            refine aw_iret B rfl rfl dX11_tellOf_46 ?_
            have hq : q_ask S u w z = (-2, S) := by unfold q_ask; rw [if_neg c2, if_neg (by rw [bI_t hA16]; decide), if_neg c27, bI_f (fun y => c41 y.2), if_pos rfl]
            rw [hq]
            exact ⟨_, rfl, rfl, ⟨T, n, hc⟩, O⟩
      · refine aw_iconst B (-1) (by decide) dX11_tellOf_30 ?_
        refine aw_iret B rfl rfl dX11_tellOf_31 ?_
        have hq : q_ask S u w z = (-1, S) := by unfold q_ask; rw [if_neg c2, if_neg (by rw [bI_t hA16]; decide), if_pos c27]
        rw [hq]
        exact ⟨_, rfl, rfl, ⟨T, n, hc⟩, O⟩
    · rw [if_neg hA16] at hv16
      obtain rfl := hv16
      refine aw_ifnullN B 30 dX11_tellOf_19 ?_
      refine aw_iconst B (-1) (by decide) dX11_tellOf_30 ?_
      refine aw_iret B rfl rfl dX11_tellOf_31 ?_
      have hq : q_ask S u w z = (-1, S) := by unfold q_ask; rw [if_neg c2, bI_f hA16, if_pos rfl]
      rw [hq]
      exact ⟨_, rfl, rfl, ⟨T, n, hc⟩, O⟩
  · refine aw_aload_n B 1 rfl dX11_tellOf_5 rfl ?_
    refine aw_callV B 0 0 (t_clr _ _ _ _ 8 _ _ (askV (upd S 3 0)) hc.asks) co_X7_clear k_X11_77 dX11_tellOf_6 hc.asks.o rfl rfl rfl rfl (Nat.le_of_ble_eq_true rfl) (zrm hr (by omega)) (Nat.le_refl _) (Nat.le_refl _) (kV fun h6 hp6 => ?_)
    subst c2
    obtain ⟨r6, o6⟩ := hp6
    have O := O.tr (o6.wide (lo' := x) (hi' := x + 54) (by omega) (by omega))
    have ag : ∀ jj, jj ≠ 3 → (upd S 3 0) jj = S jj := fun jj hi => by rw [upd_n (by omega)]
    have hc := hc.now (S' := upd S 3 0) (T' := T) (Q' := Q) (n' := upN n 3 0) (fun a h1 h2 => o6.2 a (by omega)) (fun a e h1 h2 => (o6.2 a (by omega)).trans h2) (hc.st.re b1 (fun a ha => o6.2 a (by omega)) (fun a e h1 h2 => (o6.2 a (by omega)).trans h2) (ag _ (by omega)) (ag _ (by omega)) (ag _ (by omega)) (fun jj h1 h2 => ag jj (by omega)) rfl ((hc.tape.same (fun a ha => o6.2 a (by omega))).ext (fun q hq => ag _ (by omega))) ((hc.shelves.same (fun a ha => o6.2 a (by omega))).ext (fun q hq => ag _ (by omega))) ((hc.lines.same (fun a ha => o6.2 a (by omega))).ext (fun q hq => ag _ (by omega))) r6 ((hc.seen.same (fun a ha => o6.2 a (by omega))).ext (fun q hq => seenV.ext (by omega) (fun jj hi => ag jj (by omega)))) ((hc.tales.same (fun a ha => o6.2 a (by omega))).ext (fun q hq => taleV.ext (by omega) (fun jj hi => ag jj (by omega))))) ⟨vS.ext (fun jj hi => ag jj (by omega)), vR.ext (fun jj hi => ag jj (by omega)), (show iC S Q (n 2) from vC).ext (fun jj hi => ag jj (by omega)), ⟨Nat.zero_le _, upd_s, fun k hk => absurd hk (Nat.not_lt_zero _)⟩, vE.ext (fun jj hi => ag jj (by omega)), vL.ext (fun jj hi => ag jj (by omega)), ⟨b6, (ag 6 (by omega)).trans e6⟩, ⟨(ag 8 (by omega)).trans e8, b8, vH.2.2⟩⟩
    have hq : q_ask S (-1) w z = (0, upd S 3 0) := by unfold q_ask; rw [if_pos rfl]
    refine aw_iconst B 0 (by decide) dX11_tellOf_9 ?_
    refine aw_iret B rfl rfl dX11_tellOf_10 ?_
    rw [hq]
    exact ⟨_, rfl, rfl, ⟨T, _, hc⟩, O⟩
theorem dX11_ask_0 : decode cX11_ask 0 = .ok (.aload_n 0, 1) := by decide +kernel
theorem dX11_ask_1 : decode cX11_ask 1 = .ok (.aload_n 0, 1) := by decide +kernel
theorem dX11_ask_2 : decode cX11_ask 2 = .ok (.getfield 12, 3) := by decide +kernel
theorem dX11_ask_5 : decode cX11_ask 5 = .ok (.getfield 171, 3) := by decide +kernel
theorem dX11_ask_8 : decode cX11_ask 8 = .ok (.iload_n 1, 1) := by decide +kernel
theorem dX11_ask_9 : decode cX11_ask 9 = .ok (.iload_n 2, 1) := by decide +kernel
theorem dX11_ask_10 : decode cX11_ask 10 = .ok (.iload_n 3, 1) := by decide +kernel
theorem dX11_ask_11 : decode cX11_ask 11 = .ok (.bipush 24, 2) := by decide +kernel
theorem dX11_ask_13 : decode cX11_ask 13 = .ok (.invokevirtual 174, 3) := by decide +kernel
theorem dX11_ask_16 : decode cX11_ask 16 = .ok (.ireturn, 1) := by decide +kernel
set_option maxRecDepth 100000 in
set_option maxHeartbeats 4000000 in
theorem x_ask (l : Launch) (g : zG) {h : Hp} {x ca cs N T T2 tn : Nat} {S S2 Bt : Nat → Int32} {Q Q2 : pP} {n n2 : Nat → Nat} {im : Int32} (u w z : Int32) (hc : cH g h x ca cs N S T Q n S2 T2 Q2 n2 im Bt tn) : Sp l g yX11_ask cX11_ask 4 (some .int) (rmz 5) [.ref x, .int u, .int w, .int z] (h) (zI fun r h' => r = (q_ask S u w z).1 ∧ (∃ T' n', cH g h' x ca cs N (q_ask S u w z).2 T' Q n' S2 T2 Q2 n2 im Bt tn) ∧ only x (x + 54) h h') := by
  refine Sp.of [some (.ref x), some (.int u), some (.int w), some (.int z)] (by decide) (Nat.le_of_ble_eq_true rfl) rfl rfl ?_
  rintro X rfl hr rfl B
  show AW X 0 0 0 _ _ _ _
  obtain ⟨vS, vR, vC, vA, vE, vL, vT, vH⟩ := hc.v
  have e0 := vS.2.1
  have e1 := vR.2.1
  have e2 := vC.2.1
  have e3 := vA.2.1
  have e4 := vE.2.1
  have e5 := vL.2.1
  have e6 := vT.2
  have e8 := vH.1
  have b0 := vS.1
  have b1 := vR.1
  have b2' := vC.1
  have b3 := vA.1
  have b4 := vE.1
  have b5 := vL.1
  have b6 := vT.1
  have b8 := vH.2.1
  have O : only x (x + 54) h h := only.rf
  refine aw_aload_n B 0 rfl dX11_ask_0 rfl ?_
  refine aw_aload_n B 0 rfl dX11_ask_1 rfl ?_
  refine aw_get B f_X11_12 dX11_ask_2 hc.ox rfl ?_
  refine aw_get B f_X11_171 dX11_ask_5 hc.s rfl ?_
  refine aw_iload_n B 1 rfl dX11_ask_8 rfl ?_
  refine aw_iload_n B 2 rfl dX11_ask_9 rfl ?_
  refine aw_iload_n B 3 rfl dX11_ask_10 rfl ?_
  refine aw_bipush B 24 (by decide) dX11_ask_11 ?_
  refine aw_callV B 0 0 (x_tellA _ _ u w z hc) co_X11_tellOf k_X11_174 dX11_ask_13 hc.ox rfl rfl rfl rfl (Nat.le_of_ble_eq_true rfl) (zrm hr (by omega)) (Nat.le_refl _) (Nat.le_refl _) (kI fun r13 h13 hp13 => ?_)
  obtain ⟨rfl, hc, O⟩ := hp13
  refine aw_iret B rfl rfl dX11_ask_16 ?_
  exact ⟨_, rfl, rfl, hc, O⟩
set_option maxRecDepth 100000 in
set_option maxHeartbeats 4000000 in
theorem x_tellL (l : Launch) (g : zG) {h : Hp} {x ca cs N T T2 tn : Nat} {S S2 Bt : Nat → Int32} {Q Q2 : pP} {n n2 : Nat → Nat} {im : Int32} (u w z : Int32) (hc : cH g h x ca cs N S T Q n S2 T2 Q2 n2 im Bt tn) : Sp l g yX11_tellOf cX11_tellOf 6 (some .int) (rmz 3) [.ref x, .ref (x + 17), .int u, .int w, .int z, .int 60] (h) (zI fun r h' => r = (q_tale S u w z).1 ∧ (∃ T' n', cH g h' x ca cs N (q_tale S u w z).2 T' Q n' S2 T2 Q2 n2 im Bt tn) ∧ only x (x + 54) h h') := by
  refine Sp.of [some (.ref x), some (.ref (x + 17)), some (.int u), some (.int w), some (.int z), some (.int 60)] (by decide) (Nat.le_of_ble_eq_true rfl) rfl rfl ?_
  rintro X rfl hr rfl B
  show AW X 0 0 0 _ _ _ _
  obtain ⟨vS, vR, vC, vA, vE, vL, vT, vH⟩ := hc.v
  have e0 := vS.2.1
  have e1 := vR.2.1
  have e2 := vC.2.1
  have e3 := vA.2.1
  have e4 := vE.2.1
  have e5 := vL.2.1
  have e6 := vT.2
  have e8 := vH.1
  have b0 := vS.1
  have b1 := vR.1
  have b2' := vC.1
  have b3 := vA.1
  have b4 := vE.1
  have b5 := vL.1
  have b6 := vT.1
  have b8 := vH.2.1
  have O : only x (x + 54) h h := only.rf
  have hd := hc.d
  refine aw_iload_n B 2 rfl dX11_tellOf_0 rfl ?_
  refine aw_iconst B (-1) (by decide) dX11_tellOf_1 ?_
  refine aw_icmp_ne B 11 dX11_tellOf_2 (fun c2 => ?_) (fun c2 => ?_)
  · refine aw_aload_n B 0 rfl dX11_tellOf_11 rfl ?_
    refine aw_get B f_X11_12 dX11_tellOf_12 hc.ox rfl ?_
    refine aw_iload_n B 2 rfl dX11_tellOf_15 rfl ?_
    refine aw_callV B 0 0 (x_readerAt _ _ u hc) co_X9_readerAt k_X11_118 dX11_tellOf_16 hc.s rfl rfl rfl rfl (Nat.le_of_ble_eq_true rfl) (zrm hr (by omega)) (Nat.le_refl _) (Nat.le_refl _) (kO fun r16 h16 hp16 => ?_)
    obtain ⟨eh16, hv16⟩ := hp16
    rw [eh16]
    by_cases hA16 : 0 ≤ u ∧ u ≤ S 1 - 1
    · rw [if_pos hA16] at hv16
      obtain ⟨a, q, k, v, rfl, Ra⟩ := hv16
      have hqk := Ra.2.1
      refine aw_ifnull B dX11_tellOf_19 ?_
      refine aw_aload_n B 0 rfl dX11_tellOf_22 rfl ?_
      refine aw_iload_n B 3 rfl dX11_tellOf_23 rfl ?_
      refine aw_callV B 0 0 (x_isSlate _ _ w hc) co_X11_isSlate k_X11_93 dX11_tellOf_24 hc.ox rfl rfl rfl rfl (Nat.le_of_ble_eq_true rfl) (zrm hr (by omega)) (Nat.le_refl _) (Nat.le_refl _) (kI fun r24 h24 hp24 => ?_)
      obtain ⟨rfl, eh24⟩ := hp24
      rw [eh24]
      refine aw_if_ne B 32 dX11_tellOf_27 (fun c27 => ?_) (fun c27 => ?_)
      · refine aw_iload B dX11_tellOf_32 rfl ?_
        refine aw_if_lt B 44 dX11_tellOf_34 (fun c34 => ?_) (fun c34 => ?_)
        · refine aw_bipush B (-2) (by decide) dX11_tellOf_44 ?_
          refine aw_iret B rfl rfl dX11_tellOf_46 ?_
          have hq : q_tale S u w z = (-2, S) := by unfold q_tale; rw [if_neg c2, if_neg (by rw [bI_t hA16]; decide), if_neg c27, bI_f (fun y => absurd y.1 (Int32.not_le.mpr c34)), if_pos rfl]
          rw [hq]
          exact ⟨_, rfl, rfl, ⟨T, n, hc⟩, O⟩
        · refine aw_iload B dX11_tellOf_37 rfl ?_
          refine aw_iload B dX11_tellOf_39 rfl ?_
          refine aw_icmp_le B 47 dX11_tellOf_41 (fun c41 => ?_) (fun c41 => ?_)
          · refine aw_aload_n B 1 rfl dX11_tellOf_47 rfl ?_
            refine aw_callV B 0 0 (t_full _ _ _ _ 8 _ _ (by decide) hc.tales) co_X7_isFull k_X11_58 dX11_tellOf_48 hc.tales.o rfl rfl rfl rfl (Nat.le_of_ble_eq_true rfl) (zrm hr (by omega)) (Nat.le_refl _) (Nat.le_refl _) (kI fun r48 h48 hp48 => ?_)
            obtain ⟨rfl, eh48⟩ := hp48
            rw [eh48]
            refine aw_if_eq B 57 dX11_tellOf_51 (fun c51 => ?_) (fun c51 => ?_)
            · have h8 := full_f c51
              have hn8 : ¬ S 5 = 8 := fun y => by rw [e5] at y; have := (nI_eq (b := 8) (by omega) (by decide)).mp y; omega
              have hz : 0 ≤ z ∧ z ≤ 60 := ⟨Int32.not_lt.mp c34, c41⟩
              obtain ⟨aa, haa, ea⟩ := in_le (k := 60) (by decide) hz
              obtain ⟨ss, hss, es⟩ := in_nI (k := n 0) (by omega) (by have := bI_n c27; rw [e0] at this; exact this)
              have hrr := Ra.2.1
              obtain ⟨rr, hrr, er⟩ : ∃ rr, rr < n 1 ∧ u = nI rr := ⟨q, hrr, Ra.1⟩
              refine aw_aload_n B 1 rfl dX11_tellOf_57 rfl ?_
              refine aw_iload_n B 2 rfl dX11_tellOf_58 rfl ?_
              refine aw_sipush B 10000 (by decide) dX11_tellOf_59 ?_
              refine aw_imul B dX11_tellOf_62 ?_
              refine aw_iload_n B 3 rfl dX11_tellOf_63 rfl ?_
              refine aw_bipush B 100 (by decide) dX11_tellOf_64 ?_
              refine aw_imul B dX11_tellOf_66 ?_
              refine aw_iadd B dX11_tellOf_67 ?_
              refine aw_iload B dX11_tellOf_68 rfl ?_
              refine aw_iadd B dX11_tellOf_70 ?_
              refine aw_callV B 0 0 (t_add _ _ _ _ 8 _ _ (_) (by decide) (by omega) hc.tales) co_X7_add k_X11_62 dX11_tellOf_71 hc.tales.o rfl rfl rfl rfl (Nat.le_of_ble_eq_true rfl) (zrm hr (by omega)) (Nat.le_refl _) (Nat.le_refl _) (kV fun h71 hp71 => ?_)
              obtain ⟨r71, o71⟩ := hp71
              have O := O.tr (o71.wide (lo' := x) (hi' := x + 54) (by omega) (by omega))
              have ag : ∀ jj, jj ≠ 5 ∧ ¬ (70 ≤ jj ∧ jj < 94) → (upd (upd (upd (upd S (70 + n 5) u) (78 + n 5) w) (86 + n 5) z) 5 (nI (n 5 + 1))) jj = S jj := fun jj hi => by rw [upd_n (by omega), upd_n (by omega), upd_n (by omega), upd_n (by omega)]
              have hc := hc.now (S' := upd (upd (upd (upd S (70 + n 5) u) (78 + n 5) w) (86 + n 5) z) 5 (nI (n 5 + 1))) (T' := T) (Q' := Q) (n' := upN n 5 (n 5 + 1)) (fun a h1 h2 => o71.2 a (by omega)) (fun a e h1 h2 => (o71.2 a (by omega)).trans h2) (hc.st.re b1 (fun a ha => o71.2 a (by omega)) (fun a e h1 h2 => (o71.2 a (by omega)).trans h2) (ag _ (by omega)) (ag _ (by omega)) (ag _ (by omega)) (fun jj h1 h2 => ag jj (by omega)) rfl ((hc.tape.same (fun a ha => o71.2 a (by omega))).ext (fun q hq => ag _ (by omega))) ((hc.shelves.same (fun a ha => o71.2 a (by omega))).ext (fun q hq => ag _ (by omega))) ((hc.lines.same (fun a ha => o71.2 a (by omega))).ext (fun q hq => ag _ (by omega))) ((hc.asks.same (fun a ha => o71.2 a (by omega))).ext (fun q hq => askV.ext (by omega) (fun jj hi => ag jj (by omega)))) ((hc.seen.same (fun a ha => o71.2 a (by omega))).ext (fun q hq => seenV.ext (by omega) (fun jj hi => ag jj (by omega)))) (show rwI (zXg X) h71 (x + 17) 8 (n 5 + 1) _ from r71.ext (fun q hq => by
                by_cases e : q = n 5
                · subst e
                  rw [upd_s]
                  unfold taleV
                  rw [upd_n (by omega), upd_n (by omega), upd_n (by omega), upd_s, upd_n (by omega), upd_n (by omega), upd_s, upd_n (by omega), upd_s]
                · rw [upd_n e]
                  unfold taleV
                  rw [upd_n (by omega), upd_n (by omega), upd_n (by omega), upd_n (by omega), upd_n (by omega), upd_n (by omega), upd_n (by omega), upd_n (by omega), upd_n (by omega), upd_n (by omega), upd_n (by omega), upd_n (by omega)]))) ⟨vS.ext (fun jj hi => ag jj (by omega)), vR.ext (fun jj hi => ag jj (by omega)), (show iC S Q (n 2) from vC).ext (fun jj hi => ag jj (by omega)), vA.ext (fun jj hi => ag jj (by omega)), vE.ext (fun jj hi => ag jj (by omega)), ⟨by show n 5 + 1 ≤ 8; omega, upd_s, fun k hk => by
                have hk1 : k < n 5 + 1 := hk
                by_cases e : k = n 5
                · subst e
                  refine ⟨⟨rr, hrr, ?_⟩, ⟨ss, hss, ?_⟩, aa, haa, ?_⟩
                  · rw [upd_n (by omega), upd_n (by omega), upd_n (by omega), upd_s]; exact er
                  · rw [upd_n (by omega), upd_n (by omega), upd_s]; exact es
                  · rw [upd_n (by omega), upd_s]; exact ea
                · rw [upd_n (by omega), upd_n (by omega), upd_n (by omega), upd_n (by omega), upd_n (by omega), upd_n (by omega), upd_n (by omega), upd_n (by omega), upd_n (by omega), upd_n (by omega), upd_n (by omega), upd_n (by omega)]; exact vL.2.2 k (by omega)⟩, ⟨b6, (ag 6 (by omega)).trans e6⟩, ⟨(ag 8 (by omega)).trans e8, b8, vH.2.2⟩⟩
              have hq : q_tale S u w z = (nI (n 5 + 1), upd (upd (upd (upd S (70 + n 5) u) (78 + n 5) w) (86 + n 5) z) 5 (nI (n 5 + 1))) := by unfold q_tale; rw [if_neg c2, bI_t hA16, if_neg (by decide), if_neg c27, bI_t hz, if_neg (by decide), if_neg hn8, e5, nI_clamp (by omega), nI_1]
              refine aw_aload_n B 1 rfl dX11_tellOf_74 rfl ?_
              refine aw_get B f_X11_66 dX11_tellOf_75 hc.tales.o rfl ?_
              refine aw_iret B rfl rfl dX11_tellOf_78 ?_
              rw [hq]
              exact ⟨_, rfl, rfl, ⟨T, _, hc⟩, O⟩
            · refine aw_bipush B (-4) (by decide) dX11_tellOf_54 ?_
              refine aw_iret B rfl rfl dX11_tellOf_56 ?_
              have hq : q_tale S u w z = (-4, S) := by unfold q_tale; rw [if_neg c2, if_neg (by rw [bI_t hA16]; decide), if_neg c27, bI_t ⟨Int32.not_lt.mp c34, c41⟩, if_neg (by decide), e5, if_pos (show nI (n 5) = (8 : Int32) from full_t c51 b5)]
              rw [hq]
              exact ⟨_, rfl, rfl, ⟨T, n, hc⟩, O⟩
          · refine aw_bipush B (-2) (by decide) dX11_tellOf_44 ?_
            refine aw_iret B rfl rfl dX11_tellOf_46 ?_
            have hq : q_tale S u w z = (-2, S) := by unfold q_tale; rw [if_neg c2, if_neg (by rw [bI_t hA16]; decide), if_neg c27, bI_f (fun y => c41 y.2), if_pos rfl]
            rw [hq]
            exact ⟨_, rfl, rfl, ⟨T, n, hc⟩, O⟩
      · refine aw_iconst B (-1) (by decide) dX11_tellOf_30 ?_
        refine aw_iret B rfl rfl dX11_tellOf_31 ?_
        have hq : q_tale S u w z = (-1, S) := by unfold q_tale; rw [if_neg c2, if_neg (by rw [bI_t hA16]; decide), if_pos c27]
        rw [hq]
        exact ⟨_, rfl, rfl, ⟨T, n, hc⟩, O⟩
    · rw [if_neg hA16] at hv16
      obtain rfl := hv16
      refine aw_ifnullN B 30 dX11_tellOf_19 ?_
      refine aw_iconst B (-1) (by decide) dX11_tellOf_30 ?_
      refine aw_iret B rfl rfl dX11_tellOf_31 ?_
      have hq : q_tale S u w z = (-1, S) := by unfold q_tale; rw [if_neg c2, bI_f hA16, if_pos rfl]
      rw [hq]
      exact ⟨_, rfl, rfl, ⟨T, n, hc⟩, O⟩
  · refine aw_aload_n B 1 rfl dX11_tellOf_5 rfl ?_
    refine aw_callV B 0 0 (t_clr _ _ _ _ 8 _ _ (taleV (upd S 5 0)) hc.tales) co_X7_clear k_X11_77 dX11_tellOf_6 hc.tales.o rfl rfl rfl rfl (Nat.le_of_ble_eq_true rfl) (zrm hr (by omega)) (Nat.le_refl _) (Nat.le_refl _) (kV fun h6 hp6 => ?_)
    subst c2
    obtain ⟨r6, o6⟩ := hp6
    have O := O.tr (o6.wide (lo' := x) (hi' := x + 54) (by omega) (by omega))
    have ag : ∀ jj, jj ≠ 5 → (upd S 5 0) jj = S jj := fun jj hi => by rw [upd_n (by omega)]
    have hc := hc.now (S' := upd S 5 0) (T' := T) (Q' := Q) (n' := upN n 5 0) (fun a h1 h2 => o6.2 a (by omega)) (fun a e h1 h2 => (o6.2 a (by omega)).trans h2) (hc.st.re b1 (fun a ha => o6.2 a (by omega)) (fun a e h1 h2 => (o6.2 a (by omega)).trans h2) (ag _ (by omega)) (ag _ (by omega)) (ag _ (by omega)) (fun jj h1 h2 => ag jj (by omega)) rfl ((hc.tape.same (fun a ha => o6.2 a (by omega))).ext (fun q hq => ag _ (by omega))) ((hc.shelves.same (fun a ha => o6.2 a (by omega))).ext (fun q hq => ag _ (by omega))) ((hc.lines.same (fun a ha => o6.2 a (by omega))).ext (fun q hq => ag _ (by omega))) ((hc.asks.same (fun a ha => o6.2 a (by omega))).ext (fun q hq => askV.ext (by omega) (fun jj hi => ag jj (by omega)))) ((hc.seen.same (fun a ha => o6.2 a (by omega))).ext (fun q hq => seenV.ext (by omega) (fun jj hi => ag jj (by omega)))) r6) ⟨vS.ext (fun jj hi => ag jj (by omega)), vR.ext (fun jj hi => ag jj (by omega)), (show iC S Q (n 2) from vC).ext (fun jj hi => ag jj (by omega)), vA.ext (fun jj hi => ag jj (by omega)), vE.ext (fun jj hi => ag jj (by omega)), ⟨Nat.zero_le _, upd_s, fun k hk => absurd hk (Nat.not_lt_zero _)⟩, ⟨b6, (ag 6 (by omega)).trans e6⟩, ⟨(ag 8 (by omega)).trans e8, b8, vH.2.2⟩⟩
    have hq : q_tale S (-1) w z = (0, upd S 5 0) := by unfold q_tale; rw [if_pos rfl]
    refine aw_iconst B 0 (by decide) dX11_tellOf_9 ?_
    refine aw_iret B rfl rfl dX11_tellOf_10 ?_
    rw [hq]
    exact ⟨_, rfl, rfl, ⟨T, _, hc⟩, O⟩
theorem dX11_tale_0 : decode cX11_tale 0 = .ok (.aload_n 0, 1) := by decide +kernel
theorem dX11_tale_1 : decode cX11_tale 1 = .ok (.aload_n 0, 1) := by decide +kernel
theorem dX11_tale_2 : decode cX11_tale 2 = .ok (.getfield 12, 3) := by decide +kernel
theorem dX11_tale_5 : decode cX11_tale 5 = .ok (.getfield 204, 3) := by decide +kernel
theorem dX11_tale_8 : decode cX11_tale 8 = .ok (.iload_n 1, 1) := by decide +kernel
theorem dX11_tale_9 : decode cX11_tale 9 = .ok (.iload_n 2, 1) := by decide +kernel
theorem dX11_tale_10 : decode cX11_tale 10 = .ok (.iload_n 3, 1) := by decide +kernel
theorem dX11_tale_11 : decode cX11_tale 11 = .ok (.bipush 60, 2) := by decide +kernel
theorem dX11_tale_13 : decode cX11_tale 13 = .ok (.invokevirtual 174, 3) := by decide +kernel
theorem dX11_tale_16 : decode cX11_tale 16 = .ok (.ireturn, 1) := by decide +kernel
set_option maxRecDepth 100000 in
set_option maxHeartbeats 4000000 in
theorem x_tale (l : Launch) (g : zG) {h : Hp} {x ca cs N T T2 tn : Nat} {S S2 Bt : Nat → Int32} {Q Q2 : pP} {n n2 : Nat → Nat} {im : Int32} (u w z : Int32) (hc : cH g h x ca cs N S T Q n S2 T2 Q2 n2 im Bt tn) : Sp l g yX11_tale cX11_tale 4 (some .int) (rmz 5) [.ref x, .int u, .int w, .int z] (h) (zI fun r h' => r = (q_tale S u w z).1 ∧ (∃ T' n', cH g h' x ca cs N (q_tale S u w z).2 T' Q n' S2 T2 Q2 n2 im Bt tn) ∧ only x (x + 54) h h') := by
  refine Sp.of [some (.ref x), some (.int u), some (.int w), some (.int z)] (by decide) (Nat.le_of_ble_eq_true rfl) rfl rfl ?_
  rintro X rfl hr rfl B
  show AW X 0 0 0 _ _ _ _
  obtain ⟨vS, vR, vC, vA, vE, vL, vT, vH⟩ := hc.v
  have e0 := vS.2.1
  have e1 := vR.2.1
  have e2 := vC.2.1
  have e3 := vA.2.1
  have e4 := vE.2.1
  have e5 := vL.2.1
  have e6 := vT.2
  have e8 := vH.1
  have b0 := vS.1
  have b1 := vR.1
  have b2' := vC.1
  have b3 := vA.1
  have b4 := vE.1
  have b5 := vL.1
  have b6 := vT.1
  have b8 := vH.2.1
  have O : only x (x + 54) h h := only.rf
  refine aw_aload_n B 0 rfl dX11_tale_0 rfl ?_
  refine aw_aload_n B 0 rfl dX11_tale_1 rfl ?_
  refine aw_get B f_X11_12 dX11_tale_2 hc.ox rfl ?_
  refine aw_get B f_X11_204 dX11_tale_5 hc.s rfl ?_
  refine aw_iload_n B 1 rfl dX11_tale_8 rfl ?_
  refine aw_iload_n B 2 rfl dX11_tale_9 rfl ?_
  refine aw_iload_n B 3 rfl dX11_tale_10 rfl ?_
  refine aw_bipush B 60 (by decide) dX11_tale_11 ?_
  refine aw_callV B 0 0 (x_tellL _ _ u w z hc) co_X11_tellOf k_X11_174 dX11_tale_13 hc.ox rfl rfl rfl rfl (Nat.le_of_ble_eq_true rfl) (zrm hr (by omega)) (Nat.le_refl _) (Nat.le_refl _) (kI fun r13 h13 hp13 => ?_)
  obtain ⟨rfl, hc, O⟩ := hp13
  refine aw_iret B rfl rfl dX11_tale_16 ?_
  exact ⟨_, rfl, rfl, hc, O⟩
theorem nI_m1 {j : Nat} (h : j < 2 ^ 31) : ¬ nI j = -1 := nI_nn h
theorem dX11_see_0 : decode cX11_see 0 = .ok (.iload_n 1, 1) := by decide +kernel
theorem dX11_see_1 : decode cX11_see 1 = .ok (.iconst (-1), 1) := by decide +kernel
theorem dX11_see_2 : decode cX11_see 2 = .ok (.if_icmp .ne 15, 3) := by decide +kernel
theorem dX11_see_5 : decode cX11_see 5 = .ok (.aload_n 0, 1) := by decide +kernel
theorem dX11_see_6 : decode cX11_see 6 = .ok (.getfield 12, 3) := by decide +kernel
theorem dX11_see_9 : decode cX11_see 9 = .ok (.getfield 198, 3) := by decide +kernel
theorem dX11_see_12 : decode cX11_see 12 = .ok (.invokevirtual 77, 3) := by decide +kernel
theorem dX11_see_15 : decode cX11_see 15 = .ok (.iconst 0, 1) := by decide +kernel
theorem dX11_see_16 : decode cX11_see 16 = .ok (.ireturn, 1) := by decide +kernel
theorem dX11_see_17 : decode cX11_see 17 = .ok (.iload_n 1, 1) := by decide +kernel
theorem dX11_see_18 : decode cX11_see 18 = .ok (.invokestatic 134, 3) := by decide +kernel
theorem dX11_see_21 : decode cX11_see 21 = .ok (.ifCond .ne 6, 3) := by decide +kernel
theorem dX11_see_24 : decode cX11_see 24 = .ok (.bipush (-2), 2) := by decide +kernel
theorem dX11_see_26 : decode cX11_see 26 = .ok (.ireturn, 1) := by decide +kernel
theorem dX11_see_27 : decode cX11_see 27 = .ok (.aload_n 0, 1) := by decide +kernel
theorem dX11_see_28 : decode cX11_see 28 = .ok (.getfield 12, 3) := by decide +kernel
theorem dX11_see_31 : decode cX11_see 31 = .ok (.getfield 198, 3) := by decide +kernel
theorem dX11_see_34 : decode cX11_see 34 = .ok (.invokevirtual 58, 3) := by decide +kernel
theorem dX11_see_37 : decode cX11_see 37 = .ok (.ifCond .eq 6, 3) := by decide +kernel
theorem dX11_see_40 : decode cX11_see 40 = .ok (.bipush (-4), 2) := by decide +kernel
theorem dX11_see_42 : decode cX11_see 42 = .ok (.ireturn, 1) := by decide +kernel
theorem dX11_see_43 : decode cX11_see 43 = .ok (.aload_n 0, 1) := by decide +kernel
theorem dX11_see_44 : decode cX11_see 44 = .ok (.getfield 12, 3) := by decide +kernel
theorem dX11_see_47 : decode cX11_see 47 = .ok (.getfield 198, 3) := by decide +kernel
theorem dX11_see_50 : decode cX11_see 50 = .ok (.iconst 2, 1) := by decide +kernel
theorem dX11_see_51 : decode cX11_see 51 = .ok (.iload_n 1, 1) := by decide +kernel
theorem dX11_see_52 : decode cX11_see 52 = .ok (.imul, 1) := by decide +kernel
theorem dX11_see_53 : decode cX11_see 53 = .ok (.iload_n 2, 1) := by decide +kernel
theorem dX11_see_54 : decode cX11_see 54 = .ok (.ifCond .eq 7, 3) := by decide +kernel
theorem dX11_see_57 : decode cX11_see 57 = .ok (.iconst 1, 1) := by decide +kernel
theorem dX11_see_58 : decode cX11_see 58 = .ok (.goto 4, 3) := by decide +kernel
theorem dX11_see_61 : decode cX11_see 61 = .ok (.iconst 0, 1) := by decide +kernel
theorem dX11_see_62 : decode cX11_see 62 = .ok (.iadd, 1) := by decide +kernel
theorem dX11_see_63 : decode cX11_see 63 = .ok (.invokevirtual 62, 3) := by decide +kernel
theorem dX11_see_66 : decode cX11_see 66 = .ok (.aload_n 0, 1) := by decide +kernel
theorem dX11_see_67 : decode cX11_see 67 = .ok (.getfield 12, 3) := by decide +kernel
theorem dX11_see_70 : decode cX11_see 70 = .ok (.getfield 198, 3) := by decide +kernel
theorem dX11_see_73 : decode cX11_see 73 = .ok (.getfield 66, 3) := by decide +kernel
theorem dX11_see_76 : decode cX11_see 76 = .ok (.ireturn, 1) := by decide +kernel
set_option maxRecDepth 100000 in
set_option maxHeartbeats 4000000 in
theorem x_see (l : Launch) (g : zG) {h : Hp} {x ca cs N T T2 tn : Nat} {S S2 Bt : Nat → Int32} {Q Q2 : pP} {n n2 : Nat → Nat} {im : Int32} (u w : Int32) (hc : cH g h x ca cs N S T Q n S2 T2 Q2 n2 im Bt tn) : Sp l g yX11_see cX11_see 3 (some .int) (rmz 2) [.ref x, .int u, .int w] (h) (zI fun r h' => r = (q_see S u w).1 ∧ (∃ T' n', cH g h' x ca cs N (q_see S u w).2 T' Q n' S2 T2 Q2 n2 im Bt tn) ∧ only x (x + 54) h h') := by
  refine Sp.of [some (.ref x), some (.int u), some (.int w)] (by decide) (Nat.le_of_ble_eq_true rfl) rfl rfl ?_
  rintro X rfl hr rfl B
  show AW X 0 0 0 _ _ _ _
  obtain ⟨vS, vR, vC, vA, vE, vL, vT, vH⟩ := hc.v
  have e0 := vS.2.1
  have e1 := vR.2.1
  have e2 := vC.2.1
  have e3 := vA.2.1
  have e4 := vE.2.1
  have e5 := vL.2.1
  have e6 := vT.2
  have e8 := vH.1
  have b0 := vS.1
  have b1 := vR.1
  have b2' := vC.1
  have b3 := vA.1
  have b4 := vE.1
  have b5 := vL.1
  have b6 := vT.1
  have b8 := vH.2.1
  have O : only x (x + 54) h h := only.rf
  have hd := hc.d
  refine aw_iload_n B 1 rfl dX11_see_0 rfl ?_
  refine aw_iconst B (-1) (by decide) dX11_see_1 ?_
  refine aw_icmp_ne B 17 dX11_see_2 (fun c2 => ?_) (fun c2 => ?_)
  · refine aw_iload_n B 1 rfl dX11_see_17 rfl ?_
    refine aw_callS B 0 0 (x_isNear _ _ _ u) co_X11_isNear k_X11_134 dX11_see_18 rfl rfl (Nat.le_of_ble_eq_true rfl) (zrm hr (by omega)) (Nat.le_refl _) (Nat.le_refl _) (kI fun r18 h18 hp18 => ?_)
    obtain ⟨rfl, eh18⟩ := hp18
    rw [eh18]
    refine aw_if_ne B 27 dX11_see_21 (fun c21 => ?_) (fun c21 => ?_)
    · refine aw_aload_n B 0 rfl dX11_see_27 rfl ?_
      refine aw_get B f_X11_12 dX11_see_28 hc.ox rfl ?_
      refine aw_get B f_X11_198 dX11_see_31 hc.s rfl ?_
      refine aw_callV B 0 0 (t_full _ _ _ _ 8 _ _ (by decide) hc.seen) co_X7_isFull k_X11_58 dX11_see_34 hc.seen.o rfl rfl rfl rfl (Nat.le_of_ble_eq_true rfl) (zrm hr (by omega)) (Nat.le_refl _) (Nat.le_refl _) (kI fun r34 h34 hp34 => ?_)
      obtain ⟨rfl, eh34⟩ := hp34
      rw [eh34]
      refine aw_if_eq B 43 dX11_see_37 (fun c37 => ?_) (fun c37 => ?_)
      · obtain ⟨j, hj, rfl⟩ := in_le (k := 60) (by omega) (show 0 ≤ u ∧ u ≤ nI 60 from bI_n c21)
        have h8 := full_f c37
        have hn8 : ¬ S 4 = 8 := fun y => by rw [e4] at y; have := (nI_eq (b := 8) (by omega) (by decide)).mp y; omega
        refine aw_aload_n B 0 rfl dX11_see_43 rfl ?_
        refine aw_get B f_X11_12 dX11_see_44 hc.ox rfl ?_
        refine aw_get B f_X11_198 dX11_see_47 hc.s rfl ?_
        refine aw_iconst B 2 (by decide) dX11_see_50 ?_
        refine aw_iload_n B 1 rfl dX11_see_51 rfl ?_
        refine aw_imul B dX11_see_52 ?_
        refine aw_iload_n B 2 rfl dX11_see_53 rfl ?_
        refine aw_if_eq B 61 dX11_see_54 (fun c54 => ?_) (fun c54 => ?_)
        · refine aw_iconst B 0 (by decide) dX11_see_61 ?_
          refine aw_iadd B dX11_see_62 ?_
          refine aw_callV B 0 0 (t_add _ _ _ _ 8 _ _ (_) (by decide) (by omega) hc.seen) co_X7_add k_X11_62 dX11_see_63 hc.seen.o rfl rfl rfl rfl (Nat.le_of_ble_eq_true rfl) (zrm hr (by omega)) (Nat.le_refl _) (Nat.le_refl _) (kV fun h63 hp63 => ?_)
          obtain ⟨r63, o63⟩ := hp63
          have O := O.tr (o63.wide (lo' := x) (hi' := x + 54) (by omega) (by omega))
          have ag : ∀ jj, jj ≠ 4 ∧ ¬ (54 ≤ jj ∧ jj < 70) → (upd (upd (upd S (54 + n 4) (nI j)) (62 + n 4) (if w = 0 then 0 else 1)) 4 (nI (n 4 + 1))) jj = S jj := fun jj hi => by rw [upd_n (by omega), upd_n (by omega), upd_n (by omega)]
          have hc := hc.now (S' := upd (upd (upd S (54 + n 4) (nI j)) (62 + n 4) (if w = 0 then 0 else 1)) 4 (nI (n 4 + 1))) (T' := T) (Q' := Q) (n' := upN n 4 (n 4 + 1)) (fun a h1 h2 => o63.2 a (by omega)) (fun a e h1 h2 => (o63.2 a (by omega)).trans h2) (hc.st.re b1 (fun a ha => o63.2 a (by omega)) (fun a e h1 h2 => (o63.2 a (by omega)).trans h2) (ag _ (by omega)) (ag _ (by omega)) (ag _ (by omega)) (fun jj h1 h2 => ag jj (by omega)) rfl ((hc.tape.same (fun a ha => o63.2 a (by omega))).ext (fun q hq => ag _ (by omega))) ((hc.shelves.same (fun a ha => o63.2 a (by omega))).ext (fun q hq => ag _ (by omega))) ((hc.lines.same (fun a ha => o63.2 a (by omega))).ext (fun q hq => ag _ (by omega))) ((hc.asks.same (fun a ha => o63.2 a (by omega))).ext (fun q hq => askV.ext (by omega) (fun jj hi => ag jj (by omega)))) (show rwI (zXg X) h63 (x + 15) 8 (n 4 + 1) _ from r63.ext (fun q hq => by
            by_cases e : q = n 4
            · subst e
              rw [upd_s]
              unfold seenV
              rw [upd_n (by omega), upd_n (by omega), upd_s, upd_n (by omega), upd_s, if_pos c54]
            · rw [upd_n e]
              unfold seenV
              rw [upd_n (by omega), upd_n (by omega), upd_n (by omega), upd_n (by omega), upd_n (by omega), upd_n (by omega)])) ((hc.tales.same (fun a ha => o63.2 a (by omega))).ext (fun q hq => taleV.ext (by omega) (fun jj hi => ag jj (by omega))))) ⟨vS.ext (fun jj hi => ag jj (by omega)), vR.ext (fun jj hi => ag jj (by omega)), (show iC S Q (n 2) from vC).ext (fun jj hi => ag jj (by omega)), vA.ext (fun jj hi => ag jj (by omega)), ⟨by show n 4 + 1 ≤ 8; omega, upd_s, fun k hk => by
            have hk1 : k < n 4 + 1 := hk
            by_cases e : k = n 4
            · subst e
              refine ⟨⟨j, hj, ?_⟩, ?_⟩
              · rw [upd_n (by omega), upd_n (by omega), upd_s]
              · rw [upd_n (by omega), upd_s]
                by_cases e9 : w = 0
                · rw [if_pos e9]; exact Or.inl rfl
                · rw [if_neg e9]; exact Or.inr rfl
            · rw [upd_n (by omega), upd_n (by omega), upd_n (by omega), upd_n (by omega), upd_n (by omega), upd_n (by omega)]; exact vE.2.2 k (by omega)⟩, vL.ext (fun jj hi => ag jj (by omega)), ⟨b6, (ag 6 (by omega)).trans e6⟩, ⟨(ag 8 (by omega)).trans e8, b8, vH.2.2⟩⟩
          have hq : q_see S (nI j) w = (nI (n 4 + 1), upd (upd (upd S (54 + n 4) (nI j)) (62 + n 4) (if w = 0 then 0 else 1)) 4 (nI (n 4 + 1))) := by unfold q_see; rw [if_neg c2, if_neg c21, if_neg hn8, e4, nI_clamp (by omega), nI_1]
          refine aw_aload_n B 0 rfl dX11_see_66 rfl ?_
          refine aw_get B f_X11_12 dX11_see_67 hc.ox rfl ?_
          refine aw_get B f_X11_198 dX11_see_70 hc.s rfl ?_
          refine aw_get B f_X11_66 dX11_see_73 (hc.seen).o rfl ?_
          refine aw_iret B rfl rfl dX11_see_76 ?_
          rw [hq]
          exact ⟨_, rfl, rfl, ⟨T, _, hc⟩, O⟩
        · refine aw_iconst B 1 (by decide) dX11_see_57 ?_
          refine aw_goto B 62 dX11_see_58 ?_
          refine aw_iadd B dX11_see_62 ?_
          refine aw_callV B 0 0 (t_add _ _ _ _ 8 _ _ (_) (by decide) (by omega) hc.seen) co_X7_add k_X11_62 dX11_see_63 hc.seen.o rfl rfl rfl rfl (Nat.le_of_ble_eq_true rfl) (zrm hr (by omega)) (Nat.le_refl _) (Nat.le_refl _) (kV fun h63 hp63 => ?_)
          obtain ⟨r63, o63⟩ := hp63
          have O := O.tr (o63.wide (lo' := x) (hi' := x + 54) (by omega) (by omega))
          have ag : ∀ jj, jj ≠ 4 ∧ ¬ (54 ≤ jj ∧ jj < 70) → (upd (upd (upd S (54 + n 4) (nI j)) (62 + n 4) (if w = 0 then 0 else 1)) 4 (nI (n 4 + 1))) jj = S jj := fun jj hi => by rw [upd_n (by omega), upd_n (by omega), upd_n (by omega)]
          have hc := hc.now (S' := upd (upd (upd S (54 + n 4) (nI j)) (62 + n 4) (if w = 0 then 0 else 1)) 4 (nI (n 4 + 1))) (T' := T) (Q' := Q) (n' := upN n 4 (n 4 + 1)) (fun a h1 h2 => o63.2 a (by omega)) (fun a e h1 h2 => (o63.2 a (by omega)).trans h2) (hc.st.re b1 (fun a ha => o63.2 a (by omega)) (fun a e h1 h2 => (o63.2 a (by omega)).trans h2) (ag _ (by omega)) (ag _ (by omega)) (ag _ (by omega)) (fun jj h1 h2 => ag jj (by omega)) rfl ((hc.tape.same (fun a ha => o63.2 a (by omega))).ext (fun q hq => ag _ (by omega))) ((hc.shelves.same (fun a ha => o63.2 a (by omega))).ext (fun q hq => ag _ (by omega))) ((hc.lines.same (fun a ha => o63.2 a (by omega))).ext (fun q hq => ag _ (by omega))) ((hc.asks.same (fun a ha => o63.2 a (by omega))).ext (fun q hq => askV.ext (by omega) (fun jj hi => ag jj (by omega)))) (show rwI (zXg X) h63 (x + 15) 8 (n 4 + 1) _ from r63.ext (fun q hq => by
            by_cases e : q = n 4
            · subst e
              rw [upd_s]
              unfold seenV
              rw [upd_n (by omega), upd_n (by omega), upd_s, upd_n (by omega), upd_s, if_neg c54]
            · rw [upd_n e]
              unfold seenV
              rw [upd_n (by omega), upd_n (by omega), upd_n (by omega), upd_n (by omega), upd_n (by omega), upd_n (by omega)])) ((hc.tales.same (fun a ha => o63.2 a (by omega))).ext (fun q hq => taleV.ext (by omega) (fun jj hi => ag jj (by omega))))) ⟨vS.ext (fun jj hi => ag jj (by omega)), vR.ext (fun jj hi => ag jj (by omega)), (show iC S Q (n 2) from vC).ext (fun jj hi => ag jj (by omega)), vA.ext (fun jj hi => ag jj (by omega)), ⟨by show n 4 + 1 ≤ 8; omega, upd_s, fun k hk => by
            have hk1 : k < n 4 + 1 := hk
            by_cases e : k = n 4
            · subst e
              refine ⟨⟨j, hj, ?_⟩, ?_⟩
              · rw [upd_n (by omega), upd_n (by omega), upd_s]
              · rw [upd_n (by omega), upd_s]
                by_cases e9 : w = 0
                · rw [if_pos e9]; exact Or.inl rfl
                · rw [if_neg e9]; exact Or.inr rfl
            · rw [upd_n (by omega), upd_n (by omega), upd_n (by omega), upd_n (by omega), upd_n (by omega), upd_n (by omega)]; exact vE.2.2 k (by omega)⟩, vL.ext (fun jj hi => ag jj (by omega)), ⟨b6, (ag 6 (by omega)).trans e6⟩, ⟨(ag 8 (by omega)).trans e8, b8, vH.2.2⟩⟩
          have hq : q_see S (nI j) w = (nI (n 4 + 1), upd (upd (upd S (54 + n 4) (nI j)) (62 + n 4) (if w = 0 then 0 else 1)) 4 (nI (n 4 + 1))) := by unfold q_see; rw [if_neg c2, if_neg c21, if_neg hn8, e4, nI_clamp (by omega), nI_1]
          refine aw_aload_n B 0 rfl dX11_see_66 rfl ?_
          refine aw_get B f_X11_12 dX11_see_67 hc.ox rfl ?_
          refine aw_get B f_X11_198 dX11_see_70 hc.s rfl ?_
          refine aw_get B f_X11_66 dX11_see_73 (hc.seen).o rfl ?_
          refine aw_iret B rfl rfl dX11_see_76 ?_
          rw [hq]
          exact ⟨_, rfl, rfl, ⟨T, _, hc⟩, O⟩
      · refine aw_bipush B (-4) (by decide) dX11_see_40 ?_
        refine aw_iret B rfl rfl dX11_see_42 ?_
        have hq : q_see S u w = (-4, S) := by unfold q_see; rw [if_neg c2, if_neg c21, e4, if_pos (show nI (n 4) = (8 : Int32) from full_t c37 b4)]
        rw [hq]
        exact ⟨_, rfl, rfl, ⟨T, n, hc⟩, O⟩
    · refine aw_bipush B (-2) (by decide) dX11_see_24 ?_
      refine aw_iret B rfl rfl dX11_see_26 ?_
      have hq : q_see S u w = (-2, S) := by unfold q_see; rw [if_neg c2, if_pos c21]
      rw [hq]
      exact ⟨_, rfl, rfl, ⟨T, n, hc⟩, O⟩
  · refine aw_aload_n B 0 rfl dX11_see_5 rfl ?_
    refine aw_get B f_X11_12 dX11_see_6 hc.ox rfl ?_
    refine aw_get B f_X11_198 dX11_see_9 hc.s rfl ?_
    refine aw_callV B 0 0 (t_clr _ _ _ _ 8 _ _ (seenV (upd S 4 0)) hc.seen) co_X7_clear k_X11_77 dX11_see_12 hc.seen.o rfl rfl rfl rfl (Nat.le_of_ble_eq_true rfl) (zrm hr (by omega)) (Nat.le_refl _) (Nat.le_refl _) (kV fun h12 hp12 => ?_)
    subst c2
    obtain ⟨r12, o12⟩ := hp12
    have O := O.tr (o12.wide (lo' := x) (hi' := x + 54) (by omega) (by omega))
    have ag : ∀ jj, jj ≠ 4 → (upd S 4 0) jj = S jj := fun jj hi => by rw [upd_n (by omega)]
    have hc := hc.now (S' := upd S 4 0) (T' := T) (Q' := Q) (n' := upN n 4 0) (fun a h1 h2 => o12.2 a (by omega)) (fun a e h1 h2 => (o12.2 a (by omega)).trans h2) (hc.st.re b1 (fun a ha => o12.2 a (by omega)) (fun a e h1 h2 => (o12.2 a (by omega)).trans h2) (ag _ (by omega)) (ag _ (by omega)) (ag _ (by omega)) (fun jj h1 h2 => ag jj (by omega)) rfl ((hc.tape.same (fun a ha => o12.2 a (by omega))).ext (fun q hq => ag _ (by omega))) ((hc.shelves.same (fun a ha => o12.2 a (by omega))).ext (fun q hq => ag _ (by omega))) ((hc.lines.same (fun a ha => o12.2 a (by omega))).ext (fun q hq => ag _ (by omega))) ((hc.asks.same (fun a ha => o12.2 a (by omega))).ext (fun q hq => askV.ext (by omega) (fun jj hi => ag jj (by omega)))) r12 ((hc.tales.same (fun a ha => o12.2 a (by omega))).ext (fun q hq => taleV.ext (by omega) (fun jj hi => ag jj (by omega))))) ⟨vS.ext (fun jj hi => ag jj (by omega)), vR.ext (fun jj hi => ag jj (by omega)), (show iC S Q (n 2) from vC).ext (fun jj hi => ag jj (by omega)), vA.ext (fun jj hi => ag jj (by omega)), ⟨Nat.zero_le _, upd_s, fun k hk => absurd hk (Nat.not_lt_zero _)⟩, vL.ext (fun jj hi => ag jj (by omega)), ⟨b6, (ag 6 (by omega)).trans e6⟩, ⟨(ag 8 (by omega)).trans e8, b8, vH.2.2⟩⟩
    have hq : q_see S (-1) w = (0, upd S 4 0) := by unfold q_see; rw [if_pos rfl]
    refine aw_iconst B 0 (by decide) dX11_see_15 ?_
    refine aw_iret B rfl rfl dX11_see_16 ?_
    rw [hq]
    exact ⟨_, rfl, rfl, ⟨T, _, hc⟩, O⟩
