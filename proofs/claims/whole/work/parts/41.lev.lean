def tI (tf : Nat → Int32) (Q : pP) : Prop := ∀ i, i < 840 → tf i = 0 ∨ tf i = tdV i Q
/-- a cave of the class -/
def caveI (g : zG) (h : Hp) (k : Nat) (Q : pP) : Prop := ∃ tx sf nf tf pl, kvI g h k tx sf nf (nI Q.length) tf pl ∧ qI sf nf Q ∧ tI tf Q
/-- .. and one of which nothing is asked but its build -/
def caveX (g : zG) (h : Hp) (k : Nat) : Prop := ∃ tx sf nf sz tf pl, kvI g h k tx sf nf sz tf pl
theorem caveI.X {g : zG} {h : Hp} {k : Nat} {Q : pP} (p : caveI g h k Q) : caveX g h k := by
  obtain ⟨tx, sf, nf, tf, pl, p1, -, -⟩ := p
  exact ⟨tx, sf, nf, _, tf, pl, p1⟩
theorem caveI.fr {g : zG} {h h' : Hp} {k lo hi : Nat} {Q : pP} (p : caveI g h k Q) (o : only lo hi h h') (d : k + 4 ≤ lo ∨ hi ≤ k) : caveI g h' k Q := by
  obtain ⟨tx, sf, nf, tf, pl, p1, p2, p3⟩ := p
  exact ⟨tx, sf, nf, tf, pl, p1.fr o d, p2, p3⟩
theorem caveX.fr {g : zG} {h h' : Hp} {k lo hi : Nat} (p : caveX g h k) (o : only lo hi h h') (d : k + 4 ≤ lo ∨ hi ≤ k) : caveX g h' k := by
  obtain ⟨tx, sf, nf, sz, tf, pl, p1⟩ := p
  exact ⟨tx, sf, nf, sz, tf, pl, p1.fr o d⟩
theorem hx_840 (hr : Nat) : hx (hr % 840) = hx hr := by
  funext k
  unfold hx
  rw [show hr % 840 % 12 = hr % 12 by omega, show hr % 840 / 12 % 14 = hr / 12 % 14 by omega, show hr % 840 % 5 = hr % 5 by omega]
theorem evL_840 (hr : Nat) (Q : pP) : evL (hr % 840) Q = evL hr Q := by unfold evL; rw [hx_840]
theorem lvl_840 (hr : Nat) (Q : pP) : lvl (hr % 840) Q = lvl hr Q := by unfold lvl; rw [evL_840, show hr % 840 % 12 = hr % 12 by omega]
theorem wav_840 (hr : Nat) (Q : pP) : wav (hr % 840) Q = wav hr Q := by unfold wav; rw [evL_840]
theorem td_1 {tm : Nat} {Q : pP} : tdV tm Q - 1 = nI (kN (lvl tm Q) + 16 * kN (wav tm Q)) := by
  unfold tdV
  rw [show 1 + kN (lvl tm Q) + 16 * kN (wav tm Q) = (kN (lvl tm Q) + 16 * kN (wav tm Q)) + 1 by omega, nI_pred]
theorem lvl_kN (tm : Nat) (Q : pP) : nI (kN (lvl tm Q)) = lvl tm Q ∧ kN (lvl tm Q) ≤ 9 := by
  obtain ⟨a, -, ha, ea⟩ := lvl_rng tm Q
  rw [ea, kN_nI (by omega)]
  exact ⟨rfl, ha⟩
theorem wav_kN {tm : Nat} {Q : pP} (hw : wfp 0 Q) (hl : Q.length ≤ 140) : nI (kN (wav tm Q)) = wav tm Q ∧ kN (wav tm Q) ≤ 10 := by
  obtain ⟨a, -, ha, ea⟩ := wav_rng (tm := tm) hw hl
  rw [ea, kN_nI (by omega)]
  exact ⟨rfl, ha⟩
theorem td_lv {hr : Nat} {Q : pP} (hw : wfp 0 Q) (hl : Q.length ≤ 140) : (tdV (hr % 840) Q - 1) &&& 15 = lvl hr Q := by
  obtain ⟨a1, a2⟩ := lvl_kN (hr % 840) Q
  obtain ⟨b1, b2⟩ := wav_kN (tm := hr % 840) hw hl
  rw [td_1, pk_andN (by omega) 4 (by decide), show (kN (lvl (hr % 840) Q) + 16 * kN (wav (hr % 840) Q)) % 2 ^ 4 = kN (lvl (hr % 840) Q) by omega, a1, lvl_840]
theorem td_wv {hr : Nat} {Q : pP} (hw : wfp 0 Q) (hl : Q.length ≤ 140) : (tdV (hr % 840) Q - 1) >>> ((4 : Int32) &&& 31) = wav hr Q := by
  obtain ⟨a1, a2⟩ := lvl_kN (hr % 840) Q
  obtain ⟨b1, b2⟩ := wav_kN (tm := hr % 840) hw hl
  rw [td_1, pk_shrN (by omega) _ 4 (by decide), show (kN (lvl (hr % 840) Q) + 16 * kN (wav (hr % 840) Q)) / 2 ^ 4 = kN (wav (hr % 840) Q) by omega, b1, wav_840]
theorem tI_up {tf : Nat → Int32} {Q : pP} {i : Nat} (h : tI tf Q) : tI (upd tf i (tdV i Q)) Q := by
  intro j hj
  by_cases e : j = i
  · subst e
    rw [upd_s]
    exact Or.inr rfl
  · rw [upd_n e]
    exact h j hj
theorem dX1_levelAt_0 : decode cX1_levelAt 0 = .ok (.iload_n 1, 1) := by decide +kernel
theorem dX1_levelAt_1 : decode cX1_levelAt 1 = .ok (.sipush 840, 3) := by decide +kernel
theorem dX1_levelAt_4 : decode cX1_levelAt 4 = .ok (.invokestatic 32, 3) := by decide +kernel
theorem dX1_levelAt_7 : decode cX1_levelAt 7 = .ok (.istore_n 2, 1) := by decide +kernel
theorem dX1_levelAt_8 : decode cX1_levelAt 8 = .ok (.aload_n 0, 1) := by decide +kernel
theorem dX1_levelAt_9 : decode cX1_levelAt 9 = .ok (.getfield 22, 3) := by decide +kernel
theorem dX1_levelAt_12 : decode cX1_levelAt 12 = .ok (.iload_n 2, 1) := by decide +kernel
theorem dX1_levelAt_13 : decode cX1_levelAt 13 = .ok (.iaload, 1) := by decide +kernel
theorem dX1_levelAt_14 : decode cX1_levelAt 14 = .ok (.ifCond .ne 8, 3) := by decide +kernel
theorem dX1_levelAt_17 : decode cX1_levelAt 17 = .ok (.aload_n 0, 1) := by decide +kernel
theorem dX1_levelAt_18 : decode cX1_levelAt 18 = .ok (.iload_n 2, 1) := by decide +kernel
theorem dX1_levelAt_19 : decode cX1_levelAt 19 = .ok (.invokevirtual 38, 3) := by decide +kernel
theorem dX1_levelAt_22 : decode cX1_levelAt 22 = .ok (.aload_n 0, 1) := by decide +kernel
theorem dX1_levelAt_23 : decode cX1_levelAt 23 = .ok (.getfield 22, 3) := by decide +kernel
theorem dX1_levelAt_26 : decode cX1_levelAt 26 = .ok (.iload_n 2, 1) := by decide +kernel
theorem dX1_levelAt_27 : decode cX1_levelAt 27 = .ok (.iaload, 1) := by decide +kernel
theorem dX1_levelAt_28 : decode cX1_levelAt 28 = .ok (.iconst 1, 1) := by decide +kernel
theorem dX1_levelAt_29 : decode cX1_levelAt 29 = .ok (.isub, 1) := by decide +kernel
theorem dX1_levelAt_30 : decode cX1_levelAt 30 = .ok (.bipush 15, 2) := by decide +kernel
theorem dX1_levelAt_32 : decode cX1_levelAt 32 = .ok (.iand, 1) := by decide +kernel
theorem dX1_levelAt_33 : decode cX1_levelAt 33 = .ok (.ireturn, 1) := by decide +kernel
set_option maxRecDepth 100000 in
set_option maxHeartbeats 4000000 in
theorem s_clevelAt (l : Launch) (g : zG) (h : Hp) (k hr : Nat) (Q : pP) (hh : hr < 2 ^ 30) (hC : caveI g h k Q) : Sp l g yX1_levelAt cX1_levelAt 3 (some .int) (rmz 3) [.ref k, .int (nI hr)] (h) (zI fun r h' => r = lvl hr Q ∧ caveI g h' k Q ∧ only k (k + 4) h h') := by
  refine Sp.of [some (.ref k), some (.int (nI hr)), none] (by decide) (Nat.le_of_ble_eq_true rfl) rfl rfl ?_
  rintro X rfl hroom rfl B
  show AW X 0 0 0 _ _ _ _
  obtain ⟨tx, sf, nf, tf, pl, p1, p2, p3⟩ := hC
  have hl140 : Q.length ≤ 140 := Nat.le_trans p2.1 (by decide)
  suffices key : AW X 0 0 0 [some (.ref k), some (.int (nI hr)), none] [] (hK (zXg X) h k tx sf nf (nI Q.length) tf pl) (zI fun r h' => r = lvl hr Q ∧ caveI (zXg X) h' k Q ∧ only k (k + 4) h h') by
    rw [hK_id p1] at key
    exact key
  refine aw_iload_n B 1 rfl dX1_levelAt_0 rfl ?_
  refine aw_sipush B 840 (by decide) dX1_levelAt_1 ?_
  refine aw_callS B 0 0 (s_floorMod _ _ _ hr 840 (by omega) (by decide) (by decide)) co_J9_floorMod_7cf53 k_X1_32 dX1_levelAt_4 rfl rfl (Nat.le_of_ble_eq_true rfl) (zrm hroom (by omega)) (Nat.le_refl _) (Nat.le_refl _) (kI fun r4 h4 hp4 => ?_)
  obtain ⟨rfl, rfl⟩ := hp4
  refine aw_istore2 B dX1_levelAt_7 ?_
  refine aw_aload_n B 0 rfl dX1_levelAt_8 rfl ?_
  refine aw_get B f_X1_22 dX1_levelAt_9 hK_o rfl ?_
  refine aw_iload_n B 2 rfl dX1_levelAt_12 rfl ?_
  refine k_ld3 B (hr % 840) rfl (by omega) dX1_levelAt_13 ?_
  refine aw_if_ne B 22 dX1_levelAt_14 (fun c14 => ?_) (fun c14 => ?_)
  · refine aw_aload_n B 0 rfl dX1_levelAt_22 rfl ?_
    refine aw_get B f_X1_22 dX1_levelAt_23 hK_o rfl ?_
    refine aw_iload_n B 2 rfl dX1_levelAt_26 rfl ?_
    refine k_ld3 B (hr % 840) rfl (by omega) dX1_levelAt_27 ?_
    rw [show tf (hr % 840) = tdV (hr % 840) Q from (p3 _ (by omega)).resolve_left c14]
    refine aw_iconst B 1 (by decide) dX1_levelAt_28 ?_
    refine aw_isub B dX1_levelAt_29 ?_
    refine aw_bipush B 15 (by decide) dX1_levelAt_30 ?_
    refine aw_iand B dX1_levelAt_32 ?_
    refine aw_iret B rfl rfl dX1_levelAt_33 ?_
    exact ⟨_, rfl, td_lv p2.2.1 hl140, ⟨tx, sf, nf, tf, pl, hK_kvI, p2, p3⟩, hK_only⟩
  · refine aw_aload_n B 0 rfl dX1_levelAt_17 rfl ?_
    refine aw_iload_n B 2 rfl dX1_levelAt_18 rfl ?_
    refine aw_callV B 0 0 (s_makeTide _ _ _ k tx sf nf tf pl (hr % 840) Q (by omega) p2) co_X1_makeTide k_X1_38 dX1_levelAt_19 hK_o rfl rfl rfl rfl (Nat.le_of_ble_eq_true rfl) (zrm hroom (by omega)) (Nat.le_refl _) (Nat.le_refl _) (kV fun h19 hp19 => ?_)
    subst hp19
    refine aw_aload_n B 0 rfl dX1_levelAt_22 rfl ?_
    refine aw_get B f_X1_22 dX1_levelAt_23 hK_o rfl ?_
    refine aw_iload_n B 2 rfl dX1_levelAt_26 rfl ?_
    refine k_ld3 B (hr % 840) rfl (by omega) dX1_levelAt_27 ?_
    rw [upd_s]
    refine aw_iconst B 1 (by decide) dX1_levelAt_28 ?_
    refine aw_isub B dX1_levelAt_29 ?_
    refine aw_bipush B 15 (by decide) dX1_levelAt_30 ?_
    refine aw_iand B dX1_levelAt_32 ?_
    refine aw_iret B rfl rfl dX1_levelAt_33 ?_
    exact ⟨_, rfl, td_lv p2.2.1 hl140, ⟨tx, sf, nf, _, pl, hK_kvI, p2, tI_up p3⟩, hK_only⟩
theorem dX1_waveAt_0 : decode cX1_waveAt 0 = .ok (.iload_n 1, 1) := by decide +kernel
theorem dX1_waveAt_1 : decode cX1_waveAt 1 = .ok (.sipush 840, 3) := by decide +kernel
theorem dX1_waveAt_4 : decode cX1_waveAt 4 = .ok (.invokestatic 32, 3) := by decide +kernel
theorem dX1_waveAt_7 : decode cX1_waveAt 7 = .ok (.istore_n 2, 1) := by decide +kernel
theorem dX1_waveAt_8 : decode cX1_waveAt 8 = .ok (.aload_n 0, 1) := by decide +kernel
theorem dX1_waveAt_9 : decode cX1_waveAt 9 = .ok (.getfield 22, 3) := by decide +kernel
theorem dX1_waveAt_12 : decode cX1_waveAt 12 = .ok (.iload_n 2, 1) := by decide +kernel
theorem dX1_waveAt_13 : decode cX1_waveAt 13 = .ok (.iaload, 1) := by decide +kernel
theorem dX1_waveAt_14 : decode cX1_waveAt 14 = .ok (.ifCond .ne 8, 3) := by decide +kernel
theorem dX1_waveAt_17 : decode cX1_waveAt 17 = .ok (.aload_n 0, 1) := by decide +kernel
theorem dX1_waveAt_18 : decode cX1_waveAt 18 = .ok (.iload_n 2, 1) := by decide +kernel
theorem dX1_waveAt_19 : decode cX1_waveAt 19 = .ok (.invokevirtual 38, 3) := by decide +kernel
theorem dX1_waveAt_22 : decode cX1_waveAt 22 = .ok (.aload_n 0, 1) := by decide +kernel
theorem dX1_waveAt_23 : decode cX1_waveAt 23 = .ok (.getfield 22, 3) := by decide +kernel
theorem dX1_waveAt_26 : decode cX1_waveAt 26 = .ok (.iload_n 2, 1) := by decide +kernel
theorem dX1_waveAt_27 : decode cX1_waveAt 27 = .ok (.iaload, 1) := by decide +kernel
theorem dX1_waveAt_28 : decode cX1_waveAt 28 = .ok (.iconst 1, 1) := by decide +kernel
theorem dX1_waveAt_29 : decode cX1_waveAt 29 = .ok (.isub, 1) := by decide +kernel
theorem dX1_waveAt_30 : decode cX1_waveAt 30 = .ok (.iconst 4, 1) := by decide +kernel
theorem dX1_waveAt_31 : decode cX1_waveAt 31 = .ok (.ishr, 1) := by decide +kernel
theorem dX1_waveAt_32 : decode cX1_waveAt 32 = .ok (.ireturn, 1) := by decide +kernel
set_option maxRecDepth 100000 in
set_option maxHeartbeats 4000000 in
theorem s_cwaveAt (l : Launch) (g : zG) (h : Hp) (k hr : Nat) (Q : pP) (hh : hr < 2 ^ 30) (hC : caveI g h k Q) : Sp l g yX1_waveAt cX1_waveAt 3 (some .int) (rmz 3) [.ref k, .int (nI hr)] (h) (zI fun r h' => r = wav hr Q ∧ caveI g h' k Q ∧ only k (k + 4) h h') := by
  refine Sp.of [some (.ref k), some (.int (nI hr)), none] (by decide) (Nat.le_of_ble_eq_true rfl) rfl rfl ?_
  rintro X rfl hroom rfl B
  show AW X 0 0 0 _ _ _ _
  obtain ⟨tx, sf, nf, tf, pl, p1, p2, p3⟩ := hC
  have hl140 : Q.length ≤ 140 := Nat.le_trans p2.1 (by decide)
  suffices key : AW X 0 0 0 [some (.ref k), some (.int (nI hr)), none] [] (hK (zXg X) h k tx sf nf (nI Q.length) tf pl) (zI fun r h' => r = wav hr Q ∧ caveI (zXg X) h' k Q ∧ only k (k + 4) h h') by
    rw [hK_id p1] at key
    exact key
  refine aw_iload_n B 1 rfl dX1_waveAt_0 rfl ?_
  refine aw_sipush B 840 (by decide) dX1_waveAt_1 ?_
  refine aw_callS B 0 0 (s_floorMod _ _ _ hr 840 (by omega) (by decide) (by decide)) co_J9_floorMod_7cf53 k_X1_32 dX1_waveAt_4 rfl rfl (Nat.le_of_ble_eq_true rfl) (zrm hroom (by omega)) (Nat.le_refl _) (Nat.le_refl _) (kI fun r4 h4 hp4 => ?_)
  obtain ⟨rfl, rfl⟩ := hp4
  refine aw_istore2 B dX1_waveAt_7 ?_
  refine aw_aload_n B 0 rfl dX1_waveAt_8 rfl ?_
  refine aw_get B f_X1_22 dX1_waveAt_9 hK_o rfl ?_
  refine aw_iload_n B 2 rfl dX1_waveAt_12 rfl ?_
  refine k_ld3 B (hr % 840) rfl (by omega) dX1_waveAt_13 ?_
  refine aw_if_ne B 22 dX1_waveAt_14 (fun c14 => ?_) (fun c14 => ?_)
  · refine aw_aload_n B 0 rfl dX1_waveAt_22 rfl ?_
    refine aw_get B f_X1_22 dX1_waveAt_23 hK_o rfl ?_
    refine aw_iload_n B 2 rfl dX1_waveAt_26 rfl ?_
    refine k_ld3 B (hr % 840) rfl (by omega) dX1_waveAt_27 ?_
    rw [show tf (hr % 840) = tdV (hr % 840) Q from (p3 _ (by omega)).resolve_left c14]
    refine aw_iconst B 1 (by decide) dX1_waveAt_28 ?_
    refine aw_isub B dX1_waveAt_29 ?_
    refine aw_iconst B 4 (by decide) dX1_waveAt_30 ?_
    refine aw_ishr B dX1_waveAt_31 ?_
    refine aw_iret B rfl rfl dX1_waveAt_32 ?_
    exact ⟨_, rfl, td_wv p2.2.1 hl140, ⟨tx, sf, nf, tf, pl, hK_kvI, p2, p3⟩, hK_only⟩
  · refine aw_aload_n B 0 rfl dX1_waveAt_17 rfl ?_
    refine aw_iload_n B 2 rfl dX1_waveAt_18 rfl ?_
    refine aw_callV B 0 0 (s_makeTide _ _ _ k tx sf nf tf pl (hr % 840) Q (by omega) p2) co_X1_makeTide k_X1_38 dX1_waveAt_19 hK_o rfl rfl rfl rfl (Nat.le_of_ble_eq_true rfl) (zrm hroom (by omega)) (Nat.le_refl _) (Nat.le_refl _) (kV fun h19 hp19 => ?_)
    subst hp19
    refine aw_aload_n B 0 rfl dX1_waveAt_22 rfl ?_
    refine aw_get B f_X1_22 dX1_waveAt_23 hK_o rfl ?_
    refine aw_iload_n B 2 rfl dX1_waveAt_26 rfl ?_
    refine k_ld3 B (hr % 840) rfl (by omega) dX1_waveAt_27 ?_
    rw [upd_s]
    refine aw_iconst B 1 (by decide) dX1_waveAt_28 ?_
    refine aw_isub B dX1_waveAt_29 ?_
    refine aw_iconst B 4 (by decide) dX1_waveAt_30 ?_
    refine aw_ishr B dX1_waveAt_31 ?_
    refine aw_iret B rfl rfl dX1_waveAt_32 ?_
    exact ⟨_, rfl, td_wv p2.2.1 hl140, ⟨tx, sf, nf, _, pl, hK_kvI, p2, tI_up p3⟩, hK_only⟩
theorem dX1_takeFrom_0 : decode cX1_takeFrom 0 = .ok (.aload_n 0, 1) := by decide +kernel
theorem dX1_takeFrom_1 : decode cX1_takeFrom 1 = .ok (.aload_n 1, 1) := by decide +kernel
theorem dX1_takeFrom_2 : decode cX1_takeFrom 2 = .ok (.getfield 18, 3) := by decide +kernel
theorem dX1_takeFrom_5 : decode cX1_takeFrom 5 = .ok (.putfield 18, 3) := by decide +kernel
theorem dX1_takeFrom_8 : decode cX1_takeFrom 8 = .ok (.iconst 0, 1) := by decide +kernel
theorem dX1_takeFrom_9 : decode cX1_takeFrom 9 = .ok (.istore_n 2, 1) := by decide +kernel
theorem dX1_takeFrom_10 : decode cX1_takeFrom 10 = .ok (.iload_n 2, 1) := by decide +kernel
theorem dX1_takeFrom_11 : decode cX1_takeFrom 11 = .ok (.aload_n 0, 1) := by decide +kernel
theorem dX1_takeFrom_12 : decode cX1_takeFrom 12 = .ok (.getfield 18, 3) := by decide +kernel
theorem dX1_takeFrom_15 : decode cX1_takeFrom 15 = .ok (.if_icmp .ge 39, 3) := by decide +kernel
theorem dX1_takeFrom_18 : decode cX1_takeFrom 18 = .ok (.iload_n 2, 1) := by decide +kernel
theorem dX1_takeFrom_19 : decode cX1_takeFrom 19 = .ok (.bipush 100, 2) := by decide +kernel
theorem dX1_takeFrom_21 : decode cX1_takeFrom 21 = .ok (.if_icmp .ge 33, 3) := by decide +kernel
theorem dX1_takeFrom_24 : decode cX1_takeFrom 24 = .ok (.aload_n 0, 1) := by decide +kernel
theorem dX1_takeFrom_25 : decode cX1_takeFrom 25 = .ok (.getfield 11, 3) := by decide +kernel
theorem dX1_takeFrom_28 : decode cX1_takeFrom 28 = .ok (.iload_n 2, 1) := by decide +kernel
theorem dX1_takeFrom_29 : decode cX1_takeFrom 29 = .ok (.aload_n 1, 1) := by decide +kernel
theorem dX1_takeFrom_30 : decode cX1_takeFrom 30 = .ok (.getfield 11, 3) := by decide +kernel
theorem dX1_takeFrom_33 : decode cX1_takeFrom 33 = .ok (.iload_n 2, 1) := by decide +kernel
theorem dX1_takeFrom_34 : decode cX1_takeFrom 34 = .ok (.iaload, 1) := by decide +kernel
theorem dX1_takeFrom_35 : decode cX1_takeFrom 35 = .ok (.iastore, 1) := by decide +kernel
theorem dX1_takeFrom_36 : decode cX1_takeFrom 36 = .ok (.aload_n 0, 1) := by decide +kernel
theorem dX1_takeFrom_37 : decode cX1_takeFrom 37 = .ok (.getfield 15, 3) := by decide +kernel
theorem dX1_takeFrom_40 : decode cX1_takeFrom 40 = .ok (.iload_n 2, 1) := by decide +kernel
theorem dX1_takeFrom_41 : decode cX1_takeFrom 41 = .ok (.aload_n 1, 1) := by decide +kernel
theorem dX1_takeFrom_42 : decode cX1_takeFrom 42 = .ok (.getfield 15, 3) := by decide +kernel
theorem dX1_takeFrom_45 : decode cX1_takeFrom 45 = .ok (.iload_n 2, 1) := by decide +kernel
theorem dX1_takeFrom_46 : decode cX1_takeFrom 46 = .ok (.iaload, 1) := by decide +kernel
theorem dX1_takeFrom_47 : decode cX1_takeFrom 47 = .ok (.iastore, 1) := by decide +kernel
theorem dX1_takeFrom_48 : decode cX1_takeFrom 48 = .ok (.iinc 2 1, 3) := by decide +kernel
theorem dX1_takeFrom_51 : decode cX1_takeFrom 51 = .ok (.goto (-41), 3) := by decide +kernel
theorem dX1_takeFrom_54 : decode cX1_takeFrom 54 = .ok (.aload_n 1, 1) := by decide +kernel
theorem dX1_takeFrom_55 : decode cX1_takeFrom 55 = .ok (.getfield 22, 3) := by decide +kernel
theorem dX1_takeFrom_58 : decode cX1_takeFrom 58 = .ok (.iconst 0, 1) := by decide +kernel
theorem dX1_takeFrom_59 : decode cX1_takeFrom 59 = .ok (.aload_n 0, 1) := by decide +kernel
theorem dX1_takeFrom_60 : decode cX1_takeFrom 60 = .ok (.getfield 22, 3) := by decide +kernel
theorem dX1_takeFrom_63 : decode cX1_takeFrom 63 = .ok (.iconst 0, 1) := by decide +kernel
theorem dX1_takeFrom_64 : decode cX1_takeFrom 64 = .ok (.sipush 840, 3) := by decide +kernel
theorem dX1_takeFrom_67 : decode cX1_takeFrom 67 = .ok (.invokestatic 42, 3) := by decide +kernel
theorem dX1_takeFrom_70 : decode cX1_takeFrom 70 = .ok (.return_, 1) := by decide +kernel
set_option maxRecDepth 100000 in
set_option maxHeartbeats 4000000 in
theorem s_caveTake (l : Launch) (g : zG) (h : Hp) (k k2 : Nat) (Q : pP) (hX : caveX g h k) (hC : caveI g h k2 Q) (hdis : k2 + 4 ≤ k ∨ k + 4 ≤ k2) : Sp l g yX1_takeFrom cX1_takeFrom 3 none (rmz 2) [.ref k, .ref k2] (h) (zV fun h' => caveI g h' k Q ∧ only k (k + 4) h h') := by
  refine Sp.of [some (.ref k), some (.ref k2), none] (by decide) (Nat.le_of_ble_eq_true rfl) rfl rfl ?_
  rintro X rfl hr rfl B
  show AW X 0 0 0 _ _ _ _
  obtain ⟨tx2, sf2, nf2, tf2, pl2, p1, p2, p3⟩ := hC
  obtain ⟨tx, sf, nf, sz, tf, pl, px⟩ := hX
  have hd0 : ¬ (k ≤ k2 ∧ k2 < k + 4) := by omega
  have hd1 : ¬ (k ≤ k2 + 1 ∧ k2 + 1 < k + 4) := by omega
  have hd2 : ¬ (k ≤ k2 + 2 ∧ k2 + 2 < k + 4) := by omega
  have hd3 : ¬ (k ≤ k2 + 3 ∧ k2 + 3 < k + 4) := by omega
  have q0 : h.2 k2 = some (.inr (1, [.ref (k2 + 1), .ref (k2 + 2), .int (nI Q.length), .ref (k2 + 3), tx2, .int pl2])) := p1 0 (by decide)
  have q1 : h.2 (k2 + 1) = some (.inl ((zXg X).2.2.1.1, 100, .inl sf2)) := p1 1 (by decide)
  have q2 : h.2 (k2 + 2) = some (.inl ((zXg X).2.2.1.1, 100, .inl nf2)) := p1 2 (by decide)
  have q3 : h.2 (k2 + 3) = some (.inl ((zXg X).2.2.1.1, 840, .inl tf2)) := p1 3 (by decide)
  have hQ1 := p2.1
  have lp : ∀ (fu j : Nat), j + fu = Q.length → AW X 0 0 10 [some (.ref k), some (.ref k2), some (.int (nI j))] [] (hK (zXg X) h k tx (fun i => if i < j then sf2 i else sf i) (fun i => if i < j then nf2 i else nf i) (nI Q.length) tf pl) (zV fun h' => caveI (zXg X) h' k Q ∧ only k (k + 4) h h') := by
    intro fu
    induction fu with
    | zero =>
      intro j hj
      obtain rfl : j = Q.length := by omega
      refine aw_iload_n B 2 rfl dX1_takeFrom_10 rfl ?_
      refine aw_aload_n B 0 rfl dX1_takeFrom_11 rfl ?_
      refine aw_get B f_X1_18 dX1_takeFrom_12 hK_o rfl ?_
      refine aw_icmp_ge B 54 dX1_takeFrom_15 (fun c15 => ?_) (fun c15 => absurd (Int32.le_refl _) c15)
      refine aw_aload_n B 1 rfl dX1_takeFrom_54 rfl ?_
      refine aw_get B f_X1_22 dX1_takeFrom_55 ((hK_n hd0).trans q0) rfl ?_
      refine aw_iconst B 0 (by decide) dX1_takeFrom_58 ?_
      refine aw_aload_n B 0 rfl dX1_takeFrom_59 rfl ?_
      refine aw_get B f_X1_22 dX1_takeFrom_60 hK_o rfl ?_
      refine aw_iconst B 0 (by decide) dX1_takeFrom_63 ?_
      refine aw_sipush B 840 (by decide) dX1_takeFrom_64 ?_
      refine aw_copy B k_X1_42 dX1_takeFrom_67 ((hK_n hd3).trans q3) hK_3 (by decide) (by decide) (by decide) (by decide) (by decide) (Nat.le_of_ble_eq_true rfl) (mR hr (by omega)) ?_
      rw [k_u3]
      refine aw_vret B rfl dX1_takeFrom_70 ?_
      refine ⟨rfl, ⟨tx, _, _, _, pl, hK_kvI, ⟨p2.1, p2.2.1, fun i hi => ?_⟩, fun i hi => ?_⟩, hK_only⟩
      · show (if i < Q.length then sf2 i else sf i) = _ ∧ (if i < Q.length then nf2 i else nf i) = _
        rw [if_pos hi, if_pos hi]
        exact p2.2.2 i hi
      · rw [show va_cpy tf2 tf (0 : Int32).toNatClampNeg (0 : Int32).toNatClampNeg (840 : Int32).toNatClampNeg i = tf2 i from by
          show va_cpy tf2 tf 0 0 840 i = _
          rw [pk_cpy_in (Nat.zero_le _) (by omega)]
          congr 1
          omega]
        exact p3 i hi
    | succ fu ih =>
      intro j hj
      refine aw_iload_n B 2 rfl dX1_takeFrom_10 rfl ?_
      refine aw_aload_n B 0 rfl dX1_takeFrom_11 rfl ?_
      refine aw_get B f_X1_18 dX1_takeFrom_12 hK_o rfl ?_
      refine aw_icmp_ge B 54 dX1_takeFrom_15 (fun c15 => absurd c15 (Int32.not_le.mpr (nI_lt (by omega) (by omega)))) (fun c15 => ?_)
      refine aw_iload_n B 2 rfl dX1_takeFrom_18 rfl ?_
      refine aw_bipush B 100 (by decide) dX1_takeFrom_19 ?_
      refine aw_icmp_ge B 54 dX1_takeFrom_21 (fun c21 => absurd c21 (Int32.not_le.mpr (show nI j < nI 100 from nI_lt (by omega) (by decide)))) (fun c21 => ?_)
      refine aw_aload_n B 0 rfl dX1_takeFrom_24 rfl ?_
      refine aw_get B f_X1_11 dX1_takeFrom_25 hK_o rfl ?_
      refine aw_iload_n B 2 rfl dX1_takeFrom_28 rfl ?_
      refine aw_aload_n B 1 rfl dX1_takeFrom_29 rfl ?_
      refine aw_get B f_X1_11 dX1_takeFrom_30 ((hK_n hd0).trans q0) rfl ?_
      refine aw_iload_n B 2 rfl dX1_takeFrom_33 rfl ?_
      refine aw_iald B dX1_takeFrom_34 ((hK_n hd1).trans q1) (vp_in_nI (by omega) (by decide)) ?_
      rw [nI_clamp (by omega)]
      refine k_st1 B j rfl (by omega) dX1_takeFrom_35 ?_
      refine aw_aload_n B 0 rfl dX1_takeFrom_36 rfl ?_
      refine aw_get B f_X1_15 dX1_takeFrom_37 hK_o rfl ?_
      refine aw_iload_n B 2 rfl dX1_takeFrom_40 rfl ?_
      refine aw_aload_n B 1 rfl dX1_takeFrom_41 rfl ?_
      refine aw_get B f_X1_15 dX1_takeFrom_42 ((hK_n hd0).trans q0) rfl ?_
      refine aw_iload_n B 2 rfl dX1_takeFrom_45 rfl ?_
      refine aw_iald B dX1_takeFrom_46 ((hK_n hd2).trans q2) (vp_in_nI (by omega) (by decide)) ?_
      rw [nI_clamp (by omega)]
      refine k_st2 B j rfl (by omega) dX1_takeFrom_47 ?_
      refine aw_iinc2 B 1 (by decide) dX1_takeFrom_48 ?_
      refine aw_goto B 10 dX1_takeFrom_51 ?_
      rw [nI_1, show upd (fun i => if i < j then sf2 i else sf i) j (sf2 j) = (fun i => if i < (j + 1) then sf2 i else sf i) from by
        funext i
        unfold upd
        by_cases hi : i = j
        · subst hi
          simp
        · by_cases hi2 : i < j
          · simp [hi, hi2, Nat.lt_succ_of_lt hi2]
          · simp [hi, hi2, show ¬ i < j + 1 by omega], show upd (fun i => if i < j then nf2 i else nf i) j (nf2 j) = (fun i => if i < (j + 1) then nf2 i else nf i) from by
        funext i
        unfold upd
        by_cases hi : i = j
        · subst hi
          simp
        · by_cases hi2 : i < j
          · simp [hi, hi2, Nat.lt_succ_of_lt hi2]
          · simp [hi, hi2, show ¬ i < j + 1 by omega]]
      exact ih (j + 1) (by omega)
  suffices key : AW X 0 0 0 [some (.ref k), some (.ref k2), none] [] (hK (zXg X) h k tx sf nf sz tf pl) (zV fun h' => caveI (zXg X) h' k Q ∧ only k (k + 4) h h') by
    rw [hK_id px] at key
    exact key
  refine aw_aload_n B 0 rfl dX1_takeFrom_0 rfl ?_
  refine aw_aload_n B 1 rfl dX1_takeFrom_1 rfl ?_
  refine aw_get B f_X1_18 dX1_takeFrom_2 ((hK_n hd0).trans q0) rfl ?_
  refine k_psz B f_X1_18 dX1_takeFrom_5 ?_
  refine aw_iconst B 0 (by decide) dX1_takeFrom_8 ?_
  refine aw_istore2 B dX1_takeFrom_9 ?_
  have h0 := lp Q.length 0 (by omega)
  rw [show (fun i => if i < 0 then sf2 i else sf i) = sf from by funext i; simp, show (fun i => if i < 0 then nf2 i else nf i) = nf from by funext i; simp] at h0
  exact h0
