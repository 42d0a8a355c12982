/-! the grammar looks at the tape ahead of its end alone -/
section ZX
variable {tp tp' : Nat → Int32} {e : Nat}
theorem x_must (hh : hre tp e = hre tp' e) : mustP tp e = mustP tp' e := by
  funext c s
  unfold mustP
  rw [hh]
theorem x_fig (hh : hre tp e = hre tp' e) : figP tp e = figP tp' e := by
  funext s
  unfold figP
  rw [hh]
theorem x_test (hh : hre tp e = hre tp' e) : testP tp e = testP tp' e := by
  funext s
  unfold testP
  rw [hh, x_fig hh]
theorem x_tail (hh : hre tp e = hre tp' e) : tailP tp e = tailP tp' e := by
  funext sub c x f
  induction f with
  | zero => rfl
  | succ f ih =>
    funext s
    show (if s.2.1 = true then s else if hre tp e s = c then tailP tp e sub c x f (emP (x, 0) (sub (adv s))) else s) = if s.2.1 = true then s else if hre tp' e s = c then tailP tp' e sub c x f (emP (x, 0) (sub (adv s))) else s
    rw [hh, ih]
theorem x_ev (hh : hre tp e = hre tp' e) : evP tp e = evP tp' e := by
  funext sub s
  unfold evP
  rw [x_tail hh]
theorem x_so (hh : hre tp e = hre tp' e) : soP tp e = soP tp' e := by
  funext sub s
  unfold soP
  rw [x_tail hh, x_ev hh]
theorem x_fac (hh : hre tp e = hre tp' e) : ∀ d, facP tp e d = facP tp' e d := by
  intro d
  induction d with
  | zero =>
    funext s
    show (if s.2.1 = true then s else if hre tp e s = 33 then bad s else if hre tp e s = 40 then bad s else testP tp e s) = (if s.2.1 = true then s else if hre tp' e s = 33 then bad s else if hre tp' e s = 40 then bad s else testP tp' e s)
    rw [hh, x_test hh]
  | succ d ih =>
    funext s
    show (if s.2.1 = true then s else if hre tp e s = 33 then emP (9, 0) (facP tp e d (adv s)) else if hre tp e s = 40 then mustP tp e 41 (soP tp e (facP tp e d) (adv s)) else testP tp e s) = (if s.2.1 = true then s else if hre tp' e s = 33 then emP (9, 0) (facP tp' e d (adv s)) else if hre tp' e s = 40 then mustP tp' e 41 (soP tp' e (facP tp' e d) (adv s)) else testP tp' e s)
    rw [hh, x_test hh, ih, x_must hh, x_so hh]
theorem x_sp (hh : hre tp e = hre tp' e) : spP tp e = spP tp' e := by
  funext cs s
  unfold spP
  rw [x_must hh]
theorem x_mu (hh : hre tp e = hre tp' e) : muP tp e = muP tp' e := by
  funext x i s
  unfold muP
  rw [x_fig hh, x_sp hh, x_so hh, x_fac hh 5, x_must hh]
theorem x_cl (hh : hre tp e = hre tp' e) : clP tp e = clP tp' e := by
  funext s
  unfold clP
  rw [hh, x_mu hh]
theorem x_caF (hh : hre tp e = hre tp' e) : ∀ f, caF tp e f = caF tp' e f := by
  intro f
  induction f with
  | zero => rfl
  | succ f ih =>
    funext s
    show (if s.2.1 = true then s else if hre tp e s = 59 then caF tp e f (clP tp e (adv s)) else s) = (if s.2.1 = true then s else if hre tp' e s = 59 then caF tp' e f (clP tp' e (adv s)) else s)
    rw [hh, ih, x_cl hh]
theorem x_caP (h : ∀ q, q < e → tp q = tp' q) : caP tp e = caP tp' e := by
  have hh : hre tp e = hre tp' e := by
    funext s
    unfold hre
    by_cases c : s.1 < e
    · rw [if_pos c, if_pos c]; exact h _ c
    · rw [if_neg c, if_neg c]
  unfold caP
  rw [x_caF hh, x_cl hh]
end ZX
theorem cdP_i {Q : pP} {i : Nat} (h : i < Q.length) : cdP Q i = cd Q[i].1 Q[i].2 := by
  unfold cdP
  rw [List.getElem?_eq_getElem h]
theorem rS_i {SF : Nat → Int32} {Q : pP} {f : Nat × Nat → Nat} {i : Nat} (h : i < Q.length) : rS SF Q f i = nI (f Q[i]) := by
  unfold rS
  rw [List.getElem?_eq_getElem h]
theorem pSx_n {S : Nat → Int32} {c j : Nat} {Q : pP} (h : ¬ j = 194 + c) (h2 : ¬ (199 + 140 * c ≤ j ∧ j < 199 + 140 * c + Q.length)) : pS S c Q j = S j := by
  unfold pS
  rw [if_neg h, if_neg h2]
theorem pS_pAt {S S' : Nat → Int32} {c : Nat} {Q : pP} (hc : c < 5) (hl : Q.length ≤ 140) (e : ∀ j, 194 ≤ j → S' j = pS S c Q j) : pAt S' c Q := by
  refine ⟨hc, hl, (e _ (by omega)).trans ?_, fun i hi => (e _ (by omega)).trans ?_⟩
  · unfold pS; rw [if_pos rfl]
  · unfold pS
    rw [if_neg (by omega), if_pos (by omega), show 199 + 140 * c + i - (199 + 140 * c) = i by omega]
    exact cdP_i hi
theorem pAt_o {S S' : Nat → Int32} {c c' : Nat} {Q Q' : pP} (p : pAt S c' Q') (hc : c' < c) (hc5 : c < 5) (hl : Q.length ≤ 140) (e : ∀ j, 194 ≤ j → S' j = pS S c Q j) : pAt S' c' Q' := by
  obtain ⟨p1, p2, p3, p4⟩ := p
  refine ⟨p1, p2, (e _ (by omega)).trans ?_, fun i hi => (e _ (by omega)).trans ?_⟩
  · rw [pSx_n (by omega) (by omega)]; exact p3
  · rw [pSx_n (by omega) (by omega)]; exact p4 i hi
theorem cH.sp {g : zG} {h h' : Hp} {x ca cs N T T2 tn : Nat} {S S2 Bt : Nat → Int32} {Q Q2 : pP} {n n2 : Nat → Nat} {im : Int32} (p : cH g h x ca cs N S T Q n S2 T2 Q2 n2 im Bt tn) (o : only cs (cs + 4) h h') (c : caveX g h' cs) : cH g h' x ca cs N S T Q n S2 T2 Q2 n2 im Bt tn := by
  obtain ⟨p1, p2, p3, p4, p5, p6, p7, p8, ⟨f, p9⟩, p10, p11, p12⟩ := p
  exact ⟨p1, (o.2 _ (by omega)).trans p2, p3.same (fun a ha => o.2 a (by omega)) (fun a e h1 h2 => (o.2 _ (by omega)).trans h2), p4.same (fun a ha => o.2 a (by omega)) (fun a e h1 h2 => (o.2 _ (by omega)).trans h2), c, p6.same (fun a ha => o.2 a (by omega)), p7.same (fun a ha => o.2 a (by omega)), p8.same (fun a ha => o.2 a (by omega)), ⟨f, (o.2 _ (by omega)).trans p9⟩, p10, p11, p12⟩
theorem nI_m10 {a : Nat} (h : a < 2 ^ 31) : ¬ nI a = (-1 : Int32) := nI_nn h
/-- the reference's numbers after a text with a fault, after one without -/
def cvF (S : Nat → Int32) (c : Nat) (P : pst) : Nat → Int32 := pS (upd S 6 0) c P.2.2
def cvG (S : Nat → Int32) (c : Nat) (P : pst) : Nat → Int32 := upd (upd (pS (upd S 6 0) c P.2.2) 2 (nI (c + 1))) 7 (nI c)
theorem cvF_n {S : Nat → Int32} {c j : Nat} {P : pst} (h : j < 194) (h6 : j ≠ 6) : cvF S c P j = S j := by
  unfold cvF
  rw [pSx_n (by omega) (by omega), upd_n h6]
theorem cvF_p {S : Nat → Int32} {c j : Nat} {P : pst} (h : 194 ≤ j) : cvF S c P j = pS S c P.2.2 j := by
  unfold cvF pS
  rw [upd_n (by omega)]
theorem cvF_6 {S : Nat → Int32} {c : Nat} {P : pst} : cvF S c P 6 = 0 := by
  unfold cvF
  rw [pSx_n (by omega) (by omega), upd_s]
theorem cvG_n {S : Nat → Int32} {c j : Nat} {P : pst} (h2 : j ≠ 2) (h7 : j ≠ 7) : cvG S c P j = cvF S c P j := by
  unfold cvG cvF
  rw [upd_n h7, upd_n h2]
theorem dX11_cave_0 : decode cX11_cave 0 = .ok (.aload_n 0, 1) := by decide +kernel
theorem dX11_cave_1 : decode cX11_cave 1 = .ok (.getfield 12, 3) := by decide +kernel
theorem dX11_cave_4 : decode cX11_cave 4 = .ok (.getfield 70, 3) := by decide +kernel
theorem dX11_cave_7 : decode cX11_cave 7 = .ok (.iconst 5, 1) := by decide +kernel
theorem dX11_cave_8 : decode cX11_cave 8 = .ok (.if_icmp .lt 6, 3) := by decide +kernel
theorem dX11_cave_11 : decode cX11_cave 11 = .ok (.bipush (-4), 2) := by decide +kernel
theorem dX11_cave_13 : decode cX11_cave 13 = .ok (.ireturn, 1) := by decide +kernel
theorem dX11_cave_14 : decode cX11_cave 14 = .ok (.aload_n 0, 1) := by decide +kernel
theorem dX11_cave_15 : decode cX11_cave 15 = .ok (.getfield 28, 3) := by decide +kernel
theorem dX11_cave_18 : decode cX11_cave 18 = .ok (.aload_n 0, 1) := by decide +kernel
theorem dX11_cave_19 : decode cX11_cave 19 = .ok (.getfield 12, 3) := by decide +kernel
theorem dX11_cave_22 : decode cX11_cave 22 = .ok (.getfield 55, 3) := by decide +kernel
theorem dX11_cave_25 : decode cX11_cave 25 = .ok (.invokevirtual 73, 3) := by decide +kernel
theorem dX11_cave_28 : decode cX11_cave 28 = .ok (.istore_n 1, 1) := by decide +kernel
theorem dX11_cave_29 : decode cX11_cave 29 = .ok (.aload_n 0, 1) := by decide +kernel
theorem dX11_cave_30 : decode cX11_cave 30 = .ok (.getfield 12, 3) := by decide +kernel
theorem dX11_cave_33 : decode cX11_cave 33 = .ok (.getfield 55, 3) := by decide +kernel
theorem dX11_cave_36 : decode cX11_cave 36 = .ok (.invokevirtual 77, 3) := by decide +kernel
theorem dX11_cave_39 : decode cX11_cave 39 = .ok (.iload_n 1, 1) := by decide +kernel
theorem dX11_cave_40 : decode cX11_cave 40 = .ok (.iconst (-1), 1) := by decide +kernel
theorem dX11_cave_41 : decode cX11_cave 41 = .ok (.if_icmp .eq 8, 3) := by decide +kernel
theorem dX11_cave_44 : decode cX11_cave 44 = .ok (.bipush (-10), 2) := by decide +kernel
theorem dX11_cave_46 : decode cX11_cave 46 = .ok (.iload_n 1, 1) := by decide +kernel
theorem dX11_cave_47 : decode cX11_cave 47 = .ok (.isub, 1) := by decide +kernel
theorem dX11_cave_48 : decode cX11_cave 48 = .ok (.ireturn, 1) := by decide +kernel
theorem dX11_cave_49 : decode cX11_cave 49 = .ok (.aload_n 0, 1) := by decide +kernel
theorem dX11_cave_50 : decode cX11_cave 50 = .ok (.getfield 12, 3) := by decide +kernel
theorem dX11_cave_53 : decode cX11_cave 53 = .ok (.getfield 80, 3) := by decide +kernel
theorem dX11_cave_56 : decode cX11_cave 56 = .ok (.astore_n 2, 1) := by decide +kernel
theorem dX11_cave_57 : decode cX11_cave 57 = .ok (.aload_n 0, 1) := by decide +kernel
theorem dX11_cave_58 : decode cX11_cave 58 = .ok (.getfield 12, 3) := by decide +kernel
theorem dX11_cave_61 : decode cX11_cave 61 = .ok (.aload_n 0, 1) := by decide +kernel
theorem dX11_cave_62 : decode cX11_cave 62 = .ok (.getfield 28, 3) := by decide +kernel
theorem dX11_cave_65 : decode cX11_cave 65 = .ok (.putfield 80, 3) := by decide +kernel
theorem dX11_cave_68 : decode cX11_cave 68 = .ok (.aload_n 0, 1) := by decide +kernel
theorem dX11_cave_69 : decode cX11_cave 69 = .ok (.aload_n 2, 1) := by decide +kernel
theorem dX11_cave_70 : decode cX11_cave 70 = .ok (.putfield 28, 3) := by decide +kernel
theorem dX11_cave_73 : decode cX11_cave 73 = .ok (.aload_n 0, 1) := by decide +kernel
theorem dX11_cave_74 : decode cX11_cave 74 = .ok (.getfield 12, 3) := by decide +kernel
theorem dX11_cave_77 : decode cX11_cave 77 = .ok (.dup, 1) := by decide +kernel
theorem dX11_cave_78 : decode cX11_cave 78 = .ok (.getfield 70, 3) := by decide +kernel
theorem dX11_cave_81 : decode cX11_cave 81 = .ok (.iconst 1, 1) := by decide +kernel
theorem dX11_cave_82 : decode cX11_cave 82 = .ok (.iadd, 1) := by decide +kernel
theorem dX11_cave_83 : decode cX11_cave 83 = .ok (.putfield 70, 3) := by decide +kernel
theorem dX11_cave_86 : decode cX11_cave 86 = .ok (.aload_n 0, 1) := by decide +kernel
theorem dX11_cave_87 : decode cX11_cave 87 = .ok (.getfield 12, 3) := by decide +kernel
theorem dX11_cave_90 : decode cX11_cave 90 = .ok (.getfield 70, 3) := by decide +kernel
theorem dX11_cave_93 : decode cX11_cave 93 = .ok (.iconst 1, 1) := by decide +kernel
theorem dX11_cave_94 : decode cX11_cave 94 = .ok (.isub, 1) := by decide +kernel
theorem dX11_cave_95 : decode cX11_cave 95 = .ok (.ireturn, 1) := by decide +kernel
set_option maxRecDepth 100000 in
set_option maxHeartbeats 4000000 in
theorem x_cave (l : Launch) (g : zG) {h : Hp} {x ca cs N T T2 tn : Nat} {S S2 Bt : Nat → Int32} {Q Q2 : pP} {n n2 : Nat → Nat} {im : Int32}  (hc : cH g h x ca cs N S T Q n S2 T2 Q2 n2 im Bt tn) : Sp l g yX11_cave cX11_cave 3 (some .int) (rmz 24) [.ref x] (h) (zI fun r h' => (if n 2 = 5 then r = -4 ∧ h' = h else if (caP (fun q => S (94 + q)) (n 6)).2.1 = true ∨ ¬ (caP (fun q => S (94 + q)) (n 6)).1 = n 6 then r = -10 - nI (caP (fun q => S (94 + q)) (n 6)).1 ∧ cH g h' x ca cs N (cvF S (n 2) (caP (fun q => S (94 + q)) (n 6))) T Q (upN n 6 0) S2 T2 Q2 n2 im Bt tn else r = nI (n 2) ∧ cH g h' x cs ca N (cvG S (n 2) (caP (fun q => S (94 + q)) (n 6))) T (caP (fun q => S (94 + q)) (n 6)).2.2 (upN (upN n 6 0) 2 (n 2 + 1)) S2 T2 Q2 n2 im Bt tn) ∧ only x (x + 54) h h') := by
  refine Sp.of [some (.ref x), none, none] (by decide) (Nat.le_of_ble_eq_true rfl) rfl rfl ?_
  rintro X rfl hr rfl B
  show AW X 0 0 0 _ _ _ _
  obtain ⟨vS, vR, vC, vA, vE, vL, vT, vH⟩ := hc.v
  have e0 := vS.2.1
  have e1 := vR.2.1
  have e2 := vC.2.1
  have e3 := vA.2.1
  have e4 := vE.2.1
  have e5 := vL.2.1
  have e6 := vT.2
  have e8 := vH.1
  have b0 := vS.1
  have b1 := vR.1
  have b2' := vC.1
  have b3 := vA.1
  have b4 := vE.1
  have b5 := vL.1
  have b6 := vT.1
  have b8 := vH.2.1
  have O : only x (x + 54) h h := only.rf
  have hd := hc.d
  refine aw_aload_n B 0 rfl dX11_cave_0 rfl ?_
  refine aw_get B f_X11_12 dX11_cave_1 hc.ox rfl ?_
  refine aw_get B f_X11_70 dX11_cave_4 hc.s rfl ?_
  rw [e2]
  refine aw_iconst B 5 (by decide) dX11_cave_7 ?_
  refine aw_icmp_lt B 14 dX11_cave_8 (fun c8 => ?_) (fun c8 => ?_)
  · have n25 : n 2 < 5 := (nI_ltI (b := 5) (by omega) (by decide)).mp c8
    have n2n : ¬ n 2 = 5 := by omega
    obtain ⟨w0, tp, w1, w2⟩ := hc.tape
    obtain ⟨tx, sf, nf, sz, tf, pl, pk⟩ := hc.2.2.2.2.1
    have ecap : caP tp (n 6) = caP (fun q => S (94 + q)) (n 6) := x_caP (fun q hq => w2 q hq (by omega))
    obtain ⟨P, eP⟩ : ∃ P, P = caP (fun q => S (94 + q)) (n 6) := ⟨_, rfl⟩
    rw [← eP]
    have ok := ca_ok (fun q => S (94 + q)) (n 6)
    rw [← eP] at ok ecap
    refine aw_aload_n B 0 rfl dX11_cave_14 rfl ?_
    refine aw_get B f_X11_28 dX11_cave_15 hc.ox rfl ?_
    refine aw_aload_n B 0 rfl dX11_cave_18 rfl ?_
    refine aw_get B f_X11_12 dX11_cave_19 hc.ox rfl ?_
    refine aw_get B f_X11_55 dX11_cave_22 hc.s rfl ?_
    refine aw_callV B 0 0 (s_read _ _ _ cs (x + 7) sf nf tf tp (n 6) tx sz pl ⟨w1, by omega, b6⟩ pk) co_X1_read k_X11_73 dX11_cave_25 hc.2.2.2.2.1.o.choose_spec rfl rfl rfl rfl (Nat.le_of_ble_eq_true rfl) (zrm hr (by omega)) (Nat.le_refl _) (Nat.le_refl _) (kI fun r25 h25 hp25 => ?_)
    obtain ⟨rfl, e25⟩ := hp25
    rw [ecap] at e25
    rw [ecap]
    have o25 : only cs (cs + 4) h h25 := by rw [e25]; exact hK_only
    have cvx : caveX (zXg X) h25 cs := by rw [e25]; exact ⟨_, _, _, _, _, _, hK_kvI⟩
    have cvi : P.2.1 = false → caveI (zXg X) h25 cs P.2.2 := fun hf => by
      rw [e25]
      exact ⟨_, _, _, _, _, hK_kvI, ⟨by omega, ok.2.2 hf, fun i hi => ⟨rS_i hi, rS_i hi⟩⟩, fun i hi => Or.inl (if_pos hi)⟩
    have O := O.tr (o25.wide (lo' := x) (hi' := x + 54) (by omega) (by omega))
    have hc := hc.sp o25 cvx
    refine aw_istore1 B dX11_cave_28 ?_
    refine aw_aload_n B 0 rfl dX11_cave_29 rfl ?_
    refine aw_get B f_X11_12 dX11_cave_30 hc.ox rfl ?_
    refine aw_get B f_X11_55 dX11_cave_33 hc.s rfl ?_
    refine aw_callV B 0 0 (t_clr _ _ _ _ 100 _ _ (fun q => cvF S (n 2) P (94 + q)) hc.tape) co_X7_clear k_X11_77 dX11_cave_36 hc.tape.o rfl rfl rfl rfl (Nat.le_of_ble_eq_true rfl) (zrm hr (by omega)) (Nat.le_refl _) (Nat.le_refl _) (kV fun h36 hp36 => ?_)
    obtain ⟨r36, o36⟩ := hp36
    have O := O.tr (o36.wide (lo' := x) (hi' := x + 54) (by omega) (by omega))
    have ag : ∀ jj, jj < 194 → jj ≠ 6 → cvF S (n 2) P jj = S jj := fun jj y1 y2 => cvF_n y1 y2
    have vC' : iC (cvF S (n 2) P) Q (n 2) := ⟨b2', (ag 2 (by omega) (by omega)).trans e2, by
      rcases vC.2.2 with ⟨y1, y2⟩ | ⟨c, y1, y2, y3⟩
      · exact Or.inl ⟨(ag 7 (by omega) (by omega)).trans y1, y2⟩
      · exact Or.inr ⟨c, y1, (ag 7 (by omega) (by omega)).trans y2, pAt_o y3 y1 n25 (by omega) (fun j hj => cvF_p hj)⟩⟩
    have cvi := fun hf => (cvi hf).fr o36 (by omega)
    have hc := hc.now (S' := cvF S (n 2) P) (T' := T) (Q' := Q) (n' := upN n 6 0) (fun a h1 h2 => o36.2 a (by omega)) (fun a e h1 h2 => (o36.2 a (by omega)).trans h2) (hc.st.re b1 (fun a ha => o36.2 a (by omega)) (fun a e h1 h2 => (o36.2 a (by omega)).trans h2) (ag 8 (by omega) (by omega)) (ag 2 (by omega) (by omega)) (ag 1 (by omega) (by omega)) (fun jj y1 y2 => ag jj (by omega) (by omega)) rfl r36 ((hc.shelves.same (fun a ha => o36.2 a (by omega))).ext (fun q hq => ag _ (by omega) (by omega))) ((hc.lines.same (fun a ha => o36.2 a (by omega))).ext (fun q hq => ag _ (by omega) (by omega))) ((hc.asks.same (fun a ha => o36.2 a (by omega))).ext (fun q hq => askV.ext (by omega) (fun jj hi => ag jj (by omega) (by omega)))) ((hc.seen.same (fun a ha => o36.2 a (by omega))).ext (fun q hq => seenV.ext (by omega) (fun jj hi => ag jj (by omega) (by omega)))) ((hc.tales.same (fun a ha => o36.2 a (by omega))).ext (fun q hq => taleV.ext (by omega) (fun jj hi => ag jj (by omega) (by omega))))) ⟨vS.ext (fun jj hi => ag jj (by omega) (by omega)), vR.ext (fun jj hi => ag jj (by omega) (by omega)), vC', vA.ext (fun jj hi => ag jj (by omega) (by omega)), vE.ext (fun jj hi => ag jj (by omega) (by omega)), vL.ext (fun jj hi => ag jj (by omega) (by omega)), ⟨Nat.zero_le _, cvF_6⟩, ⟨(ag 8 (by omega) (by omega)).trans e8, b8, vH.2.2⟩⟩
    refine aw_iload_n B 1 rfl dX11_cave_39 rfl ?_
    refine aw_iconst B (-1) (by decide) dX11_cave_40 ?_
    refine aw_icmp_eq B 49 dX11_cave_41 (fun c41 => ?_) (fun c41 => ?_)
    · refine aw_aload_n B 0 rfl dX11_cave_49 rfl ?_
      refine aw_get B f_X11_12 dX11_cave_50 hc.ox rfl ?_
      refine aw_get B f_X11_80 dX11_cave_53 hc.s rfl ?_
      refine aw_astore2 B dX11_cave_56 ?_
      refine aw_aload_n B 0 rfl dX11_cave_57 rfl ?_
      refine aw_get B f_X11_12 dX11_cave_58 hc.ox rfl ?_
      refine aw_aload_n B 0 rfl dX11_cave_61 rfl ?_
      refine aw_get B f_X11_28 dX11_cave_62 hc.ox rfl ?_
      refine aw_put B f_X11_80 dX11_cave_65 hc.s rfl rfl (by show 3 < 11; decide) ?_
      obtain ⟨h65, e65⟩ : ∃ h65 : Hp, h65 = hp_up h36 (x + 1) (.inr (9, (stO (x + 1) ca (cvF S (n 2) P 8) (cvF S (n 2) P 2) (cvF S (n 2) P 1)).set 3 (.ref cs))) := ⟨_, rfl⟩
      rw [← e65]
      have o65 : ∀ a, a ≠ x + 1 → h65.2 a = h36.2 a := fun a y1 => by rw [e65]; exact hu_n y1
      have s65 : h65.2 (x + 1) = some (.inr (9, stO (x + 1) cs (S 8) (nI (n 2)) (S 1))) := by rw [e65, ag 8 (by omega) (by omega), ag 2 (by omega) (by omega), ag 1 (by omega) (by omega), e2]; exact hu_s
      have z65 : h65.1 = h36.1 := by rw [e65]; rfl
      have x65 := (o65 x (by omega)).trans hc.ox
      refine aw_aload_n B 0 rfl dX11_cave_68 rfl ?_
      refine aw_aload_n B 2 rfl dX11_cave_69 rfl ?_
      refine aw_put B f_X11_28 dX11_cave_70 x65 rfl rfl (by show 3 < 8; decide) ?_
      obtain ⟨h70, e70⟩ : ∃ h70 : Hp, h70 = hp_up h65 x (.inr (11, (xO x im cs).set 3 (.ref ca))) := ⟨_, rfl⟩
      rw [← e70]
      have o70 : ∀ a, a ≠ x + 1 → a ≠ x → h70.2 a = h36.2 a := fun a y1 y2 => by rw [e70]; exact (hu_n y2).trans (o65 a y1)
      have x70 : h70.2 x = some (.inr (11, xO x im ca)) := by rw [e70]; exact hu_s
      have s70 : h70.2 (x + 1) = some (.inr (9, stO (x + 1) cs (S 8) (nI (n 2)) (S 1))) := by rw [e70]; exact (hu_n (by omega)).trans s65
      have z70 : h70.1 = h36.1 := by rw [e70]; exact z65
      refine aw_aload_n B 0 rfl dX11_cave_73 rfl ?_
      refine aw_get B f_X11_12 dX11_cave_74 x70 rfl ?_
      refine aw_dup B rfl dX11_cave_77 ?_
      refine aw_get B f_X11_70 dX11_cave_78 s70 rfl ?_
      refine aw_iconst B 1 (by decide) dX11_cave_81 ?_
      refine aw_iadd B dX11_cave_82 ?_
      rw [nI_1]
      refine aw_put B f_X11_70 dX11_cave_83 s70 rfl rfl (by show 1 < 11; decide) ?_
      obtain ⟨h83, e83⟩ : ∃ h83 : Hp, h83 = hp_up h70 (x + 1) (.inr (9, (stO (x + 1) cs (S 8) (nI (n 2)) (S 1)).set 1 (.int (nI (n 2 + 1))))) := ⟨_, rfl⟩
      rw [← e83]
      have o83 : ∀ a, a ≠ x + 1 → a ≠ x → h83.2 a = h36.2 a := fun a y1 y2 => by rw [e83]; exact (hu_n y1).trans (o70 a y1 y2)
      have x83 : h83.2 x = some (.inr (11, xO x im ca)) := by rw [e83]; exact (hu_n (by omega)).trans x70
      have s83 : h83.2 (x + 1) = some (.inr (9, stO (x + 1) cs (S 8) (nI (n 2 + 1)) (S 1))) := by rw [e83]; exact hu_s
      have z83 : h83.1 = h36.1 := by rw [e83]; exact z70
      refine aw_aload_n B 0 rfl dX11_cave_86 rfl ?_
      refine aw_get B f_X11_12 dX11_cave_87 x83 rfl ?_
      refine aw_get B f_X11_70 dX11_cave_90 s83 rfl ?_
      refine aw_iconst B 1 (by decide) dX11_cave_93 ?_
      refine aw_isub B dX11_cave_94 ?_
      refine aw_iret B rfl rfl dX11_cave_95 ?_
      have hnf : ¬ (P.2.1 = true ∨ ¬ P.1 = n 6) := fun y => by
        rw [if_pos y] at c41
        exact nI_m10 (by omega) c41
      have hf : P.2.1 = false := by
        rcases hb : P.2.1 with _ | _
        · rfl
        · exact absurd (Or.inl hb) hnf
      obtain ⟨p1, p2, ⟨q1, q2, q3, q4, q5, q6, q7, q8, q9⟩, p4, p5, p6, p7, p8, ⟨f, p9⟩, p10, p11, p12⟩ := hc
      have ag2 : ∀ jj, jj < 194 → jj ≠ 2 → jj ≠ 7 → cvG S (n 2) P jj = cvF S (n 2) P jj := fun jj _ y1 y2 => cvG_n y1 y2
      have E : ∀ a, x + 6 ≤ a ∧ a < x + 19 → h83.2 a = h36.2 a := fun a ha => o83 a (by omega) (by omega)
      have R : ∀ a e, x + 64 ≤ a → h36.2 a = some e → h83.2 a = some e := fun a e y1 y2 => (o83 a (by omega) (by omega)).trans y2
      obtain ⟨vS, vR, vC, vA, vE, vL, vT, vH⟩ := p10
      have A1 : h83.2 (x + 1) = some (.inr (9, stO (x + 1) cs (cvG S (n 2) P 8) (cvG S (n 2) P 2) (cvG S (n 2) P 1))) := by
        rw [ag2 8 (by omega) (by omega) (by omega), ag2 1 (by omega) (by omega) (by omega), ag 8 (by omega) (by omega), ag 1 (by omega) (by omega), show cvG S (n 2) P 2 = nI (n 2 + 1) from by unfold cvG; rw [upd_n (by omega), upd_s]]
        exact s83
      have A2 : iv (cvG S (n 2) P) T P.2.2 (upN (upN n 6 0) 2 (n 2 + 1)) := ⟨vS.ext (fun jj hi => ag2 jj (by omega) (by omega) (by omega)), vR.ext (fun jj hi => ag2 jj (by omega) (by omega) (by omega)), ⟨by show n 2 + 1 ≤ 5; omega, (show cvG S (n 2) P 2 = nI (n 2 + 1) from by unfold cvG; rw [upd_n (by omega), upd_s]), Or.inr ⟨n 2, Nat.lt_succ_self _, (show cvG S (n 2) P 7 = nI (n 2) from by unfold cvG; rw [upd_s]), pS_pAt n25 (by omega) (fun j hj => (cvG_n (by omega) (by omega)).trans (cvF_p hj))⟩⟩, vA.ext (fun jj hi => ag2 jj (by omega) (by omega) (by omega)), vE.ext (fun jj hi => ag2 jj (by omega) (by omega) (by omega)), vL.ext (fun jj hi => ag2 jj (by omega) (by omega) (by omega)), ⟨vT.1, (ag2 6 (by omega) (by omega) (by omega)).trans vT.2⟩, ⟨(ag2 8 (by omega) (by omega) (by omega)).trans vH.1, b8, ok.2.2 hf⟩⟩
      exact ⟨_, rfl, by rw [if_neg n2n, if_neg hnf]; exact ⟨by rw [← nI_1, Int32.add_sub_cancel], by omega, x83, ⟨A1, (cvi hf).same (fun a ha => o83 a (by omega) (by omega)), (q3.same (E _ (by omega)) R).ext b1 (fun jj y1 y2 => ag2 jj (by omega) (by omega) (by omega)), (q4.same (fun a ha => E a (by omega))).ext (fun q hq => ag2 _ (by have hq' : q < 0 := hq; omega) (by omega) (by omega)), (q5.same (fun a ha => E a (by omega))).ext (fun q hq => ag2 _ (by have hq' : q < n 0 := hq; omega) (by omega) (by omega)), (q6.same (fun a ha => E a (by omega))).ext (fun q hq => ag2 _ (by have hq' : q < n 0 := hq; omega) (by omega) (by omega)), (q7.same (fun a ha => E a (by omega))).ext (fun q hq => askV.ext (by have hq' : q < n 3 := hq; omega) (fun jj hi => ag2 jj (by omega) (by omega) (by omega))), (q8.same (fun a ha => E a (by omega))).ext (fun q hq => seenV.ext (by have hq' : q < n 4 := hq; omega) (fun jj hi => ag2 jj (by omega) (by omega) (by omega))), (q9.same (fun a ha => E a (by omega))).ext (fun q hq => taleV.ext (by have hq' : q < n 5 := hq; omega) (fun jj hi => ag2 jj (by omega) (by omega) (by omega)))⟩, p4.same (fun a ha => o83 a (by omega) (by omega)) R, q2.X.same (fun a ha => o83 a (by omega) (by omega)), p6.same (fun a ha => o83 a (by omega) (by omega)), p7.same (fun a ha => o83 a (by omega) (by omega)), p8.same (fun a ha => o83 a (by omega) (by omega)), ⟨f, (o83 _ (by omega) (by omega)).trans p9⟩, A2, p11, p12⟩, O.tr ⟨z83, fun a ha => o83 a (by omega) (by omega)⟩⟩
    · refine aw_bipush B (-10) (by decide) dX11_cave_44 ?_
      refine aw_iload_n B 1 rfl dX11_cave_46 rfl ?_
      refine aw_isub B dX11_cave_47 ?_
      refine aw_iret B rfl rfl dX11_cave_48 ?_
      have hyf : P.2.1 = true ∨ ¬ P.1 = n 6 := Decidable.not_not.mp (fun y => c41 (if_neg y))
      exact ⟨_, rfl, by rw [if_neg n2n, if_pos hyf, if_pos hyf]; exact ⟨rfl, hc⟩, O⟩
  · refine aw_bipush B (-4) (by decide) dX11_cave_11 ?_
    refine aw_iret B rfl rfl dX11_cave_13 ?_
    have n25 : n 2 = 5 := by
      have : ¬ n 2 < 5 := fun z => c8 (show nI (n 2) < nI 5 from nI_lt z (by decide))
      omega
    exact ⟨_, rfl, by rw [if_pos n25]; exact ⟨rfl, rfl⟩, O⟩
