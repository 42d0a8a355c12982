theorem pcnt_6 : ∀ left, left < 64 → pcnt left ≤ 6 := by decide +kernel
theorem bit_3 : ∀ s, s < 64 → ∀ p, p < 64 → ((nI p &&& (nI s ^^^ (-1)) = 0) ↔ p &&& s = p) := by decide +kernel
theorem bit_4 : ∀ s, s < 64 → ∀ p, p < 64 → nI s &&& (nI p ^^^ (-1)) = nI (s &&& (63 ^^^ p)) ∧ s &&& (63 ^^^ p) < 64 := by decide +kernel
theorem set_lt {y x : Int32} {n0 : Nat} (hn : n0 ≤ 6) (ex : x = nI n0) (h : 0 ≤ y ∧ y >>> (x &&& 31) = 0) : ∃ left, left < 2 ^ n0 ∧ left < 64 ∧ y = nI left := by
  obtain ⟨j, hj, rfl⟩ := nI_of (Int32.not_lt.mpr h.1)
  have h2 := h.2
  have hs : ((nI n0 &&& 31).toBitVec.smod 32).toNat = n0 := by
    rcases (show n0 = 0 ∨ n0 = 1 ∨ n0 = 2 ∨ n0 = 3 ∨ n0 = 4 ∨ n0 = 5 ∨ n0 = 6 by omega) with rfl | rfl | rfl | rfl | rfl | rfl | rfl <;> rfl
  rw [ex, pk_shrN hj _ n0 hs] at h2
  have h3 : j / 2 ^ n0 = 0 := (nI_eq (b := 0) (Nat.lt_of_le_of_lt (Nat.div_le_self _ _) hj) (by decide)).mp h2
  have hp : 0 < 2 ^ n0 := Nat.two_pow_pos _
  have h4 : j < 2 ^ n0 := (Nat.div_eq_zero_iff_lt hp).mp h3
  have h5 : 2 ^ n0 ≤ 2 ^ 6 := Nat.pow_le_pow_right (by decide) hn
  exact ⟨j, h4, by omega, rfl⟩
/-- SET of a reader -/
def eoS (S : Nat → Int32) (T : Nat) (Q : pP) (n0 : Nat) (A7 A8 : Nat → Int32) (r left : Nat) : oSt := ordF S T Q r n0 6 left 0 0 (100000, cpy (fun _ => -5) A8 6, A7)
theorem foldl_1 {α β : Type} {f g : α → β → α} {R : α → α → Prop} (h : ∀ a a' b, R a a' → R (f a b) (g a' b)) : ∀ (l : List β) (a a' : α), R a a' → R (l.foldl f a) (l.foldl g a') := by
  intro l
  induction l with
  | nil => intro a a' q; exact q
  | cons x t ih => intro a a' q; exact ih _ _ (h _ _ _ q)
theorem ordF_1 {S : Nat → Int32} {T : Nat} {Q : pP} {r n0 : Nat} : ∀ (d left k a : Nat) (st st' : oSt), st.1 = st'.1 → (ordF S T Q r n0 d left k a st).1 = (ordF S T Q r n0 d left k a st').1 := by
  have he : ∀ (k a : Nat) (st st' : oSt), st.1 = st'.1 → (oEnd k a st).1 = (oEnd k a st').1 := by
    intro k a st st' h
    unfold oEnd
    rw [h]
    split
    · rfl
    · exact h
  intro d
  induction d with
  | zero =>
    intro left k a st st' h
    rw [ordF, ordF]
    split
    · exact he _ _ _ _ h
    · exact h
  | succ d ih =>
    intro left k a st st' h
    rw [ordF, ordF]
    split
    · exact he _ _ _ _ h
    · refine foldl_1 (α := oSt) (β := Nat) (R := fun u v => u.1 = v.1) ?_ _ _ _ h
      intro u v s huv
      show (if _ then _ else _ : oSt).1 = (if _ then _ else _ : oSt).1
      split
      · rw [huv]
        split
        · exact ih _ _ _ _ _ rfl
        · rfl
      · exact huv
def eoN (S : Nat → Int32) (T : Nat) (Q : pP) (n0 r left : Nat) : Nat := (ordF S T Q r n0 6 left 0 0 (100000, fun _ => 0, fun _ => 0)).1
theorem eoS_1 {S : Nat → Int32} {T : Nat} {Q : pP} {n0 r left : Nat} {A7 A8 : Nat → Int32} : (eoS S T Q n0 A7 A8 r left).1 = eoN S T Q n0 r left := ordF_1 _ _ _ _ _ _ rfl
theorem skI_0 {S : Nat → Int32} {T : Nat} {Q : pP} {n0 n1 : Nat} {A A' : Nat → Nat → Int32} (hn0 : n0 ≤ 6) (hn1 : n1 ≤ 4) (h : A' 6 = cpy (fun _ => 0) (A 6) 8688) : skI S T Q n0 n1 A' := by
  intro r s a hr hs ha
  left
  rw [h]
  unfold cpy
  rw [if_pos (by omega)]
theorem dX12_endOf_0 : decode cX12_endOf 0 = .ok (.aload_n 0, 1) := by decide +kernel
theorem dX12_endOf_1 : decode cX12_endOf 1 = .ok (.ldc 164, 2) := by decide +kernel
theorem dX12_endOf_3 : decode cX12_endOf 3 = .ok (.putfield 175, 3) := by decide +kernel
theorem dX12_endOf_6 : decode cX12_endOf 6 = .ok (.iconst 0, 1) := by decide +kernel
theorem dX12_endOf_7 : decode cX12_endOf 7 = .ok (.istore_n 3, 1) := by decide +kernel
theorem dX12_endOf_8 : decode cX12_endOf 8 = .ok (.iload_n 3, 1) := by decide +kernel
theorem dX12_endOf_9 : decode cX12_endOf 9 = .ok (.bipush 6, 2) := by decide +kernel
theorem dX12_endOf_11 : decode cX12_endOf 11 = .ok (.if_icmp .ge 17, 3) := by decide +kernel
theorem dX12_endOf_14 : decode cX12_endOf 14 = .ok (.aload_n 0, 1) := by decide +kernel
theorem dX12_endOf_15 : decode cX12_endOf 15 = .ok (.getfield 34, 3) := by decide +kernel
theorem dX12_endOf_18 : decode cX12_endOf 18 = .ok (.iload_n 3, 1) := by decide +kernel
theorem dX12_endOf_19 : decode cX12_endOf 19 = .ok (.bipush (-5), 2) := by decide +kernel
theorem dX12_endOf_21 : decode cX12_endOf 21 = .ok (.iastore, 1) := by decide +kernel
theorem dX12_endOf_22 : decode cX12_endOf 22 = .ok (.iinc 3 1, 3) := by decide +kernel
theorem dX12_endOf_25 : decode cX12_endOf 25 = .ok (.goto (-17), 3) := by decide +kernel
theorem dX12_endOf_28 : decode cX12_endOf 28 = .ok (.aload_n 0, 1) := by decide +kernel
theorem dX12_endOf_29 : decode cX12_endOf 29 = .ok (.iload_n 1, 1) := by decide +kernel
theorem dX12_endOf_30 : decode cX12_endOf 30 = .ok (.iload_n 2, 1) := by decide +kernel
theorem dX12_endOf_31 : decode cX12_endOf 31 = .ok (.iconst 0, 1) := by decide +kernel
theorem dX12_endOf_32 : decode cX12_endOf 32 = .ok (.iconst 0, 1) := by decide +kernel
theorem dX12_endOf_33 : decode cX12_endOf 33 = .ok (.invokevirtual 181, 3) := by decide +kernel
theorem dX12_endOf_36 : decode cX12_endOf 36 = .ok (.aload_n 0, 1) := by decide +kernel
theorem dX12_endOf_37 : decode cX12_endOf 37 = .ok (.getfield 175, 3) := by decide +kernel
theorem dX12_endOf_40 : decode cX12_endOf 40 = .ok (.ireturn, 1) := by decide +kernel
set_option maxRecDepth 100000 in
set_option maxHeartbeats 4000000 in
theorem s_endOf (l : Launch) (g : zG) (h : Hp) (m : Nat) (F : Nat → Int32) (A : Nat → Nat → Int32) (T : Nat) (Q : pP) (hi : iT (A 1) T Q) (hlv : lvI T Q F A) (n0 n1 : Nat) (hR : iR (A 1) n1) (hS : iS (A 1) n0) (r left : Nat) (hr1 : r < n1) (hl64 : left < 64) (hsk : skI (A 1) T Q n0 n1 A) : Sp l g yX12_endOf cX12_endOf 4 (some .int) (rmz 16) [.ref m, .int (nI r), .int (nI left)] (hM g h m F A) (zI fun q h' => q = nI (eoS (A 1) T Q n0 (A 7) (A 8) r left).1 ∧ oG g h m F A T Q n0 n1 (eoS (A 1) T Q n0 (A 7) (A 8) r left) h') := by
  refine Sp.of [some (.ref m), some (.int (nI r)), some (.int (nI left)), none] (by decide) (Nat.le_of_ble_eq_true rfl) rfl rfl ?_
  rintro X rfl hr rfl B
  show AW X 0 0 0 _ _ _ _
  have lp : ∀ (f i : Nat), 6 < i + f → i ≤ 6 → AW X 0 0 8 [some (.ref m), some (.int (nI r)), some (.int (nI left)), some (.int (nI i))] [] (hM (zXg X) h m (upd F 18 100000) (mup A 8 (cpy (fun _ => -5) (A 8) i))) (zI fun q h' => q = nI (eoS (A 1) T Q n0 (A 7) (A 8) r left).1 ∧ oG (zXg X) h m F A T Q n0 n1 (eoS (A 1) T Q n0 (A 7) (A 8) r left) h') := by
    intro f
    induction f with
    | zero => intros; omega
    | succ f ih =>
      intro i hf hi6
      refine aw_iload_n B 3 rfl dX12_endOf_8 rfl ?_
      refine aw_bipush B 6 (by decide) dX12_endOf_9 ?_
      refine aw_icmp_ge B 28 dX12_endOf_11 (fun c11 => ?_) (fun c11 => ?_)
      · have hie : i = 6 := by
          have := (nI_leI (a := 6) (by decide) (by omega)).mp c11
          omega
        subst hie
        have EA : (mup A 8 (cpy (fun _ => -5) (A 8) 6)) 1 = A 1 := mup_n (by decide)
        have ELV : lvI T Q (upd F 18 100000) (mup A 8 (cpy (fun _ => -5) (A 8) 6)) := by
          obtain ⟨kn, g1, g2, g3⟩ := hlv
          exact ⟨kn, by rw [upd_n (by decide)]; exact g1, g2, fun i hi => by rw [mup_n (by decide)]; exact g3 i hi⟩
        have ESK : skI ((mup A 8 (cpy (fun _ => -5) (A 8) 6)) 1) T Q n0 n1 (mup A 8 (cpy (fun _ => -5) (A 8) 6)) := by
          rw [EA]
          intro r' s' a' h1 h2 h3
          rw [mup_n (by decide)]
          exact hsk r' s' a' h1 h2 h3
        refine aw_aload_n B 0 rfl dX12_endOf_28 rfl ?_
        refine aw_iload_n B 1 rfl dX12_endOf_29 rfl ?_
        refine aw_iload_n B 2 rfl dX12_endOf_30 rfl ?_
        refine aw_iconst B 0 (by decide) dX12_endOf_31 ?_
        refine aw_iconst B 0 (by decide) dX12_endOf_32 ?_
        refine aw_callV B 0 0 (s_ordersFrom _ _ _ _ T Q n0 n1 r 6 (upd F 18 100000) (mup A 8 (cpy (fun _ => -5) (A 8) 6)) left 0 0 100000 (by rw [EA]; exact hi) (by rw [EA]; exact hR) (by rw [EA]; exact hS) hr1 ELV ESK hl64 (pcnt_6 left hl64) (by omega) (by omega) (by omega) upd_s) co_X12_ordersFrom k_X12_181 dX12_endOf_33 hM_o rfl rfl rfl rfl (Nat.le_of_ble_eq_true rfl) (zrm hr (by omega)) (Nat.le_refl _) (Nat.le_refl _) (kV fun h33 hp33 => ?_)
        obtain ⟨hbe, F2, A2, rfl, hF2, hA2, hlv2, hsk2, eb2, e82, e72⟩ := hp33
        refine aw_aload_n B 0 rfl dX12_endOf_36 rfl ?_
        refine m_get B f_X12_175 dX12_endOf_37 (mg_18 _ _) ?_
        refine aw_iret B rfl rfl dX12_endOf_40 ?_
        have EST : ordF ((mup A 8 (cpy (fun _ => -5) (A 8) 6)) 1) T Q r n0 6 left 0 0 (100000, (mup A 8 (cpy (fun _ => -5) (A 8) 6)) 8, (mup A 8 (cpy (fun _ => -5) (A 8) 6)) 7) = eoS (A 1) T Q n0 (A 7) (A 8) r left := by
          rw [EA, mup_s, mup_n (by decide)]; rfl
        rw [EST] at hbe eb2 e82 e72
        exact ⟨_, rfl, eb2, hbe, F2, A2, rfl, (eqF.rf.up (by simp)).tr hF2, (eqA.rf.up (by simp)).tr hA2, hlv2, (by rw [← EA]; exact hsk2), eb2, e82, e72⟩
      · have hlt6 : i < 6 := Nat.not_le.mp fun z => c11 (nI_le (a := 6) z (by omega))
        refine aw_aload_n B 0 rfl dX12_endOf_14 rfl ?_
        refine m_get B f_X12_34 dX12_endOf_15 (mg_17 _ _) ?_
        refine aw_iload_n B 3 rfl dX12_endOf_18 rfl ?_
        refine aw_bipush B (-5) (by decide) dX12_endOf_19 ?_
        refine m_st B (i) (rfl) (by show _ < 6; omega) dX12_endOf_21 (by decide) ?_
        refine aw_iinc3 B 1 (by decide) dX12_endOf_22 ?_
        refine aw_goto B 8 dX12_endOf_25 ?_
        rw [nI_1, mup_m, mup_s, show upd (cpy (fun _ => -5) (A 8) i) i (-5) = cpy (fun _ => -5) (A 8) (i + 1) from cpy_s (f := fun _ => -5)]
        exact ih (i + 1) (by omega) (by omega)
  refine aw_aload_n B 0 rfl dX12_endOf_0 rfl ?_
  refine aw_ldc B cn_X12_164 dX12_endOf_1 ?_
  refine m_put B f_X12_175 dX12_endOf_3 (ms_18 _ _ _) (by decide) ?_
  refine aw_iconst B 0 (by decide) dX12_endOf_6 ?_
  refine aw_istore3 B dX12_endOf_7 ?_
  refine Eq.mp ?_ (lp 7 0 (by omega) (by omega))
  rw [cpy_0, mup_i]
  rfl
def q_set (S : Nat → Int32) (T : Nat) (Q : pP) (n0 : Nat) (A7 A8 : Nat → Int32) (x y z : Int32) : Int32 := if bI (0 ≤ x ∧ x ≤ S 1 - 1) = 0 then -1 else if bI (-1 ≤ z ∧ z ≤ 5) = 0 then -1 else if bI (0 ≤ y ∧ y >>> (S 0 &&& 31) = 0) = 0 then -2 else if z = -1 then orN (eoN S T Q n0 (kN x) (kN y)) else (eoS S T Q n0 A7 A8 (kN x) (kN y)).2.1 (kN z)
theorem in_m1 {z : Int32} (h : -1 ≤ z ∧ z ≤ 5) (hz : ¬ z = -1) : ∃ k, k ≤ 5 ∧ z = nI k := by
  have h0 : ¬ z < 0 := by
    intro q
    apply hz
    rw [← Int32.toInt_inj]
    have h1 := Int32.le_iff_toInt_le.mp h.1
    have h2 := Int32.lt_iff_toInt_lt.mp q
    have e1 : (-1 : Int32).toInt = -1 := by decide
    have e2 : (0 : Int32).toInt = 0 := by decide
    omega
  obtain ⟨k, hk, rfl⟩ := nI_of h0
  exact ⟨k, (nI_leI (b := 5) hk (by decide)).mp h.2, rfl⟩
theorem oG_mq {g : zG} {h : Hp} {m : Nat} {F F0 : Nat → Int32} {A A0 : Nat → Nat → Int32} {T : Nat} {Q : pP} {n0 n1 : Nat} {st : oSt} {h' : Hp} (hF : eqF GF F0 F) (hA : eqA GA A0 A) (q : oG g h m F A T Q n0 n1 st h') : mgar g h m F0 A0 GF GA (fun F' A' => lvI T Q F' A' ∧ skI (A 1) T Q n0 n1 A' ∧ F' 18 = nI st.1 ∧ A' 8 = st.2.1 ∧ A' 7 = st.2.2) h' := by
  obtain ⟨-, F2, A2, rfl, hF2, hA2, hh⟩ := q
  exact ⟨F2, A2, rfl, hF.tr (hF2.mono (by simp [GF])), hA.tr (hA2.mono (by simp [GA])), hh⟩
theorem dX12_set_0 : decode cX12_set 0 = .ok (.aload_n 0, 1) := by decide +kernel
theorem dX12_set_1 : decode cX12_set 1 = .ok (.iload_n 1, 1) := by decide +kernel
theorem dX12_set_2 : decode cX12_set 2 = .ok (.invokevirtual 144, 3) := by decide +kernel
theorem dX12_set_5 : decode cX12_set 5 = .ok (.ifCond .eq 12, 3) := by decide +kernel
theorem dX12_set_8 : decode cX12_set 8 = .ok (.iload_n 3, 1) := by decide +kernel
theorem dX12_set_9 : decode cX12_set 9 = .ok (.iconst (-1), 1) := by decide +kernel
theorem dX12_set_10 : decode cX12_set 10 = .ok (.iconst 5, 1) := by decide +kernel
theorem dX12_set_11 : decode cX12_set 11 = .ok (.invokestatic 44, 3) := by decide +kernel
theorem dX12_set_14 : decode cX12_set 14 = .ok (.ifCond .ne 5, 3) := by decide +kernel
theorem dX12_set_17 : decode cX12_set 17 = .ok (.iconst (-1), 1) := by decide +kernel
theorem dX12_set_18 : decode cX12_set 18 = .ok (.ireturn, 1) := by decide +kernel
theorem dX12_set_19 : decode cX12_set 19 = .ok (.aload_n 0, 1) := by decide +kernel
theorem dX12_set_20 : decode cX12_set 20 = .ok (.iload_n 2, 1) := by decide +kernel
theorem dX12_set_21 : decode cX12_set 21 = .ok (.invokevirtual 185, 3) := by decide +kernel
theorem dX12_set_24 : decode cX12_set 24 = .ok (.ifCond .ne 6, 3) := by decide +kernel
theorem dX12_set_27 : decode cX12_set 27 = .ok (.bipush (-2), 2) := by decide +kernel
theorem dX12_set_29 : decode cX12_set 29 = .ok (.ireturn, 1) := by decide +kernel
theorem dX12_set_30 : decode cX12_set 30 = .ok (.aload_n 0, 1) := by decide +kernel
theorem dX12_set_31 : decode cX12_set 31 = .ok (.invokevirtual 188, 3) := by decide +kernel
theorem dX12_set_34 : decode cX12_set 34 = .ok (.aload_n 0, 1) := by decide +kernel
theorem dX12_set_35 : decode cX12_set 35 = .ok (.iload_n 1, 1) := by decide +kernel
theorem dX12_set_36 : decode cX12_set 36 = .ok (.iload_n 2, 1) := by decide +kernel
theorem dX12_set_37 : decode cX12_set 37 = .ok (.invokevirtual 191, 3) := by decide +kernel
theorem dX12_set_40 : decode cX12_set 40 = .ok (.istore 4, 2) := by decide +kernel
theorem dX12_set_42 : decode cX12_set 42 = .ok (.iload_n 3, 1) := by decide +kernel
theorem dX12_set_43 : decode cX12_set 43 = .ok (.iconst (-1), 1) := by decide +kernel
theorem dX12_set_44 : decode cX12_set 44 = .ok (.if_icmp .ne 11, 3) := by decide +kernel
theorem dX12_set_47 : decode cX12_set 47 = .ok (.iload 4, 2) := by decide +kernel
theorem dX12_set_49 : decode cX12_set 49 = .ok (.invokestatic 172, 3) := by decide +kernel
theorem dX12_set_52 : decode cX12_set 52 = .ok (.goto 9, 3) := by decide +kernel
theorem dX12_set_55 : decode cX12_set 55 = .ok (.aload_n 0, 1) := by decide +kernel
theorem dX12_set_56 : decode cX12_set 56 = .ok (.getfield 34, 3) := by decide +kernel
theorem dX12_set_59 : decode cX12_set 59 = .ok (.iload_n 3, 1) := by decide +kernel
theorem dX12_set_60 : decode cX12_set 60 = .ok (.iaload, 1) := by decide +kernel
theorem dX12_set_61 : decode cX12_set 61 = .ok (.ireturn, 1) := by decide +kernel
set_option maxRecDepth 100000 in
set_option maxHeartbeats 4000000 in
theorem s_set (l : Launch) (g : zG) (h : Hp) (m : Nat) (F : Nat → Int32) (A : Nat → Nat → Int32) (x y z : Int32) (T : Nat) (Q : pP) (hi : iT (A 1) T Q) (n0 n1 : Nat) (hR : iR (A 1) n1) (hS : iS (A 1) n0) : Sp l g yX12_set cX12_set 5 (some .int) (rmz 17) [.ref m, .int x, .int y, .int z] (hM g h m F A) (zI (mq g h m F A (q_set (A 1) T Q n0 (A 7) (A 8) x y z))) := by
  refine Sp.of [some (.ref m), some (.int x), some (.int y), some (.int z), none] (by decide) (Nat.le_of_ble_eq_true rfl) rfl rfl ?_
  rintro X rfl hr rfl B
  show AW X 0 0 0 _ _ _ _
  refine aw_aload_n B 0 rfl dX12_set_0 rfl ?_
  refine aw_iload_n B 1 rfl dX12_set_1 rfl ?_
  refine aw_callV B 0 0 (s_isReader _ _ _ _ _ _ _) co_X12_isReader k_X12_144 dX12_set_2 hM_o rfl rfl rfl rfl (Nat.le_of_ble_eq_true rfl) (zrm hr (by omega)) (Nat.le_refl _) (Nat.le_refl _) (kI fun r2 h2 hp2 => ?_)
  obtain ⟨rfl, rfl⟩ := hp2
  refine aw_if_eq B 17 dX12_set_5 (fun c5 => ?_) (fun c5 => ?_)
  · refine aw_iconst B (-1) (by decide) dX12_set_17 ?_
    refine aw_iret B rfl rfl dX12_set_18 ?_
    exact ⟨_, rfl, by unfold q_set; rw [if_pos c5], F, A, rfl, eqF.rf, eqA.rf, trivial⟩
  · refine aw_iload_n B 3 rfl dX12_set_8 rfl ?_
    refine aw_iconst B (-1) (by decide) dX12_set_9 ?_
    refine aw_iconst B 5 (by decide) dX12_set_10 ?_
    refine aw_callS B 0 0 (s_in _ _ _ _ _ _) co_X12_in k_X12_44 dX12_set_11 rfl rfl (Nat.le_of_ble_eq_true rfl) (zrm hr (by omega)) (Nat.le_refl _) (Nat.le_refl _) (kI fun r11 h11 hp11 => ?_)
    obtain ⟨rfl, rfl⟩ := hp11
    refine aw_if_ne B 19 dX12_set_14 (fun c14 => ?_) (fun c14 => ?_)
    · refine aw_aload_n B 0 rfl dX12_set_19 rfl ?_
      refine aw_iload_n B 2 rfl dX12_set_20 rfl ?_
      refine aw_callV B 0 0 (s_isSet _ _ _ _ _ _ _) co_X12_isSet k_X12_185 dX12_set_21 hM_o rfl rfl rfl rfl (Nat.le_of_ble_eq_true rfl) (zrm hr (by omega)) (Nat.le_refl _) (Nat.le_refl _) (kI fun r21 h21 hp21 => ?_)
      obtain ⟨rfl, rfl⟩ := hp21
      refine aw_if_ne B 30 dX12_set_24 (fun c24 => ?_) (fun c24 => ?_)
      · obtain ⟨r, hr4, rfl⟩ := in_cnt (of_bI c5) (by have := hR.1; omega) hR.2.1
        obtain ⟨left, -, hl64, rfl⟩ := set_lt hS.1 hS.2.1 (of_bI c24)
        have z1 := hR.1
        have z2 := hS.1
        have e1 : kN (nI r) = r := kN_nI (by omega)
        have e2 : kN (nI left) = left := kN_nI (by omega)
        refine aw_aload_n B 0 rfl dX12_set_30 rfl ?_
        refine aw_callV B 0 0 (s_forgetsSoons _ _ _ _ _ _) co_X12_forgetsSoons k_X12_188 dX12_set_31 hM_o rfl rfl rfl rfl (Nat.le_of_ble_eq_true rfl) (zrm hr (by omega)) (Nat.le_refl _) (Nat.le_refl _) (kV fun h31 hp31 => ?_)
        subst hp31
        obtain ⟨A3, hA3⟩ : ∃ A3, A3 = mup A 6 (cpy (fun _ => 0) (A 6) 8688) := ⟨_, rfl⟩
        rw [← hA3]
        have E1 : A3 1 = A 1 := by rw [hA3]; exact mup_n (by decide)
        have E7 : A3 7 = A 7 := by rw [hA3]; exact mup_n (by decide)
        have E8 : A3 8 = A 8 := by rw [hA3]; exact mup_n (by decide)
        have E6 : A3 6 = cpy (fun _ => 0) (A 6) 8688 := by rw [hA3]; exact mup_s
        refine aw_aload_n B 0 rfl dX12_set_34 rfl ?_
        refine aw_iload_n B 1 rfl dX12_set_35 rfl ?_
        refine aw_iload_n B 2 rfl dX12_set_36 rfl ?_
        refine aw_callV B 0 0 (s_endOf _ _ _ _ (upd F 14 0) (A3) T Q (by rw [E1]; exact hi) (lvI_0) n0 n1 (by rw [E1]; exact hR) (by rw [E1]; exact hS) (r) (left) (by omega) (hl64) (skI_0 z2 z1 E6)) co_X12_endOf k_X12_191 dX12_set_37 hM_o rfl rfl rfl rfl (Nat.le_of_ble_eq_true rfl) (zrm hr (by omega)) (Nat.le_refl _) (Nat.le_refl _) (kI fun r37 h37 hp37 => ?_)
        rw [E1, E7, E8] at hp37
        obtain ⟨rfl, hg37⟩ := hp37
        have hgm := oG_mq (F0 := F) (A0 := A) gar_5 (by rw [hA3]; exact eqA.rf.up (by simp [GA])) hg37
        obtain ⟨F2, A2, rfl, hF2, hA2, hlv2, hsk2, eb2, e82, e72⟩ := hgm
        rw [eoS_1]
        refine aw_istore4 B dX12_set_40 ?_
        refine aw_iload_n B 3 rfl dX12_set_42 rfl ?_
        refine aw_iconst B (-1) (by decide) dX12_set_43 ?_
        refine aw_icmp_ne B 55 dX12_set_44 (fun c44 => ?_) (fun c44 => ?_)
        · obtain ⟨kz, hkz, rfl⟩ := in_m1 (of_bI c14) c44
          have e3 : kN (nI kz) = kz := kN_nI (by omega)
          refine aw_aload_n B 0 rfl dX12_set_55 rfl ?_
          refine m_get B f_X12_34 dX12_set_56 (mg_17 _ _) ?_
          refine aw_iload_n B 3 rfl dX12_set_59 rfl ?_
          refine m_ld B (kz) (rfl) (by show _ < 6; omega) dX12_set_60 (by decide) ?_
          refine aw_iret B rfl rfl dX12_set_61 ?_
          exact ⟨_, rfl, by unfold q_set; rw [if_neg c5, if_neg c14, if_neg c24, if_neg c44, e1, e2, e3, e82], F2, A2, rfl, hF2, hA2, trivial⟩
        · subst c44
          refine aw_iload B dX12_set_47 rfl ?_
          refine aw_callS B 0 0 (s_orNone _ _ _ _) co_X12_orNone k_X12_172 dX12_set_49 rfl rfl (Nat.le_of_ble_eq_true rfl) (zrm hr (by omega)) (Nat.le_refl _) (Nat.le_refl _) (kI fun r49 h49 hp49 => ?_)
          obtain ⟨rfl, rfl⟩ := hp49
          refine aw_goto B 61 dX12_set_52 ?_
          refine aw_iret B rfl rfl dX12_set_61 ?_
          exact ⟨_, rfl, by unfold q_set; rw [if_neg c5, if_neg c14, if_neg c24, if_pos rfl, e1, e2]; rfl, F2, A2, rfl, hF2, hA2, trivial⟩
      · refine aw_bipush B (-2) (by decide) dX12_set_27 ?_
        refine aw_iret B rfl rfl dX12_set_29 ?_
        exact ⟨_, rfl, by unfold q_set; rw [if_neg c5, if_neg c14, if_pos c24], F, A, rfl, eqF.rf, eqA.rf, trivial⟩
    · refine aw_iconst B (-1) (by decide) dX12_set_17 ?_
      refine aw_iret B rfl rfl dX12_set_18 ?_
      exact ⟨_, rfl, by unfold q_set; rw [if_neg c5, if_pos c14], F, A, rfl, eqF.rf, eqA.rf, trivial⟩
/-- TWO, the parts below p gone through: what the one reads, the HOURS -/
def twF (S : Nat → Int32) (T : Nat) (Q : pP) (n0 r1 r2 set : Nat) : Nat → Int32 × Nat
  | 0 => (-5, 100000)
  | p + 1 => if p &&& set = p then (if max (eoN S T Q n0 r1 p) (eoN S T Q n0 r2 (set &&& (63 ^^^ p))) < (twF S T Q n0 r1 r2 set p).2 then (nI p, max (eoN S T Q n0 r1 p) (eoN S T Q n0 r2 (set &&& (63 ^^^ p)))) else twF S T Q n0 r1 r2 set p) else twF S T Q n0 r1 r2 set p
def q_two (S : Nat → Int32) (T : Nat) (Q : pP) (n0 : Nat) (x y z w : Int32) : Int32 := if bI (0 ≤ x ∧ x ≤ S 1 - 1) = 0 then -1 else if bI (0 ≤ y ∧ y ≤ S 1 - 1) = 0 then -1 else if bI (0 ≤ w ∧ w ≤ 1) = 0 then -1 else if x = y then -2 else if bI (0 ≤ z ∧ z >>> (S 0 &&& 31) = 0) = 0 then -2 else if w = 0 then orN (twF S T Q n0 (kN x) (kN y) (kN z) (kN z + 1)).2 else (twF S T Q n0 (kN x) (kN y) (kN z) (kN z + 1)).1
theorem oE_le {k a : Nat} {st : oSt} (h : st.1 ≤ 100000) : (oEnd k a st).1 ≤ 100000 := by
  unfold oEnd
  split
  · show a ≤ 100000; omega
  · exact h
theorem foldl_i {α β : Type} {f : α → β → α} {R : α → Prop} (h : ∀ a b, R a → R (f a b)) : ∀ (l : List β) (a : α), R a → R (l.foldl f a) := by
  intro l
  induction l with
  | nil => intro a q; exact q
  | cons x t ih => intro a q; exact ih _ (h _ _ q)
theorem ordF_le {S : Nat → Int32} {T : Nat} {Q : pP} {r n0 : Nat} : ∀ (d left k a : Nat) (st : oSt), st.1 ≤ 100000 → (ordF S T Q r n0 d left k a st).1 ≤ 100000 := by
  intro d
  induction d with
  | zero =>
    intro left k a st h
    rw [ordF]
    split
    · exact oE_le h
    · exact h
  | succ d ih =>
    intro left k a st h
    rw [ordF]
    split
    · exact oE_le h
    · refine foldl_i (α := oSt) (β := Nat) (R := fun u => u.1 ≤ 100000) ?_ _ _ h
      intro u s hu
      show (if _ then _ else _ : oSt).1 ≤ 100000
      split
      · split
        · exact ih _ _ _ _ hu
        · exact hu
      · exact hu
theorem eoN_le {S : Nat → Int32} {T : Nat} {Q : pP} {n0 r left : Nat} : eoN S T Q n0 r left ≤ 100000 := ordF_le _ _ _ _ _ (Nat.le_refl _)
theorem twF_le {S : Nat → Int32} {T : Nat} {Q : pP} {n0 r1 r2 set : Nat} (p : Nat) : (twF S T Q n0 r1 r2 set p).2 ≤ 100000 := by
  induction p with
  | zero => exact Nat.le_refl _
  | succ p ih =>
    rw [twF]
    split
    · split
      · show max _ _ ≤ _
        have h1 := eoN_le (S := S) (T := T) (Q := Q) (n0 := n0) (r := r1) (left := p)
        have h2 := eoN_le (S := S) (T := T) (Q := Q) (n0 := n0) (r := r2) (left := set &&& (63 ^^^ p))
        omega
      · exact ih
    · exact ih
theorem pk_max {a b : Nat} (ha : a < 2 ^ 31) (hb : b < 2 ^ 31) : (¬ nI a ≤ nI b → nI a = nI (max a b)) ∧ (nI a ≤ nI b → nI b = nI (max a b)) := by
  constructor
  · intro q
    have : b < a := Nat.not_le.mp fun z => q (nI_le z hb)
    rw [Nat.max_eq_left (by omega)]
  · intro q
    have := (nI_leI ha hb).mp q
    rw [Nat.max_eq_right this]
theorem dX12_two_0 : decode cX12_two 0 = .ok (.aload_n 0, 1) := by decide +kernel
theorem dX12_two_1 : decode cX12_two 1 = .ok (.iload_n 1, 1) := by decide +kernel
theorem dX12_two_2 : decode cX12_two 2 = .ok (.invokevirtual 144, 3) := by decide +kernel
theorem dX12_two_5 : decode cX12_two 5 = .ok (.ifCond .eq 21, 3) := by decide +kernel
theorem dX12_two_8 : decode cX12_two 8 = .ok (.aload_n 0, 1) := by decide +kernel
theorem dX12_two_9 : decode cX12_two 9 = .ok (.iload_n 2, 1) := by decide +kernel
theorem dX12_two_10 : decode cX12_two 10 = .ok (.invokevirtual 144, 3) := by decide +kernel
theorem dX12_two_13 : decode cX12_two 13 = .ok (.ifCond .eq 13, 3) := by decide +kernel
theorem dX12_two_16 : decode cX12_two 16 = .ok (.iload 4, 2) := by decide +kernel
theorem dX12_two_18 : decode cX12_two 18 = .ok (.iconst 0, 1) := by decide +kernel
theorem dX12_two_19 : decode cX12_two 19 = .ok (.iconst 1, 1) := by decide +kernel
theorem dX12_two_20 : decode cX12_two 20 = .ok (.invokestatic 44, 3) := by decide +kernel
theorem dX12_two_23 : decode cX12_two 23 = .ok (.ifCond .ne 5, 3) := by decide +kernel
theorem dX12_two_26 : decode cX12_two 26 = .ok (.iconst (-1), 1) := by decide +kernel
theorem dX12_two_27 : decode cX12_two 27 = .ok (.ireturn, 1) := by decide +kernel
theorem dX12_two_28 : decode cX12_two 28 = .ok (.iload_n 1, 1) := by decide +kernel
theorem dX12_two_29 : decode cX12_two 29 = .ok (.iload_n 2, 1) := by decide +kernel
theorem dX12_two_30 : decode cX12_two 30 = .ok (.if_icmp .eq 11, 3) := by decide +kernel
theorem dX12_two_33 : decode cX12_two 33 = .ok (.aload_n 0, 1) := by decide +kernel
theorem dX12_two_34 : decode cX12_two 34 = .ok (.iload_n 3, 1) := by decide +kernel
theorem dX12_two_35 : decode cX12_two 35 = .ok (.invokevirtual 185, 3) := by decide +kernel
theorem dX12_two_38 : decode cX12_two 38 = .ok (.ifCond .ne 6, 3) := by decide +kernel
theorem dX12_two_41 : decode cX12_two 41 = .ok (.bipush (-2), 2) := by decide +kernel
theorem dX12_two_43 : decode cX12_two 43 = .ok (.ireturn, 1) := by decide +kernel
theorem dX12_two_44 : decode cX12_two 44 = .ok (.aload_n 0, 1) := by decide +kernel
theorem dX12_two_45 : decode cX12_two 45 = .ok (.invokevirtual 188, 3) := by decide +kernel
theorem dX12_two_48 : decode cX12_two 48 = .ok (.bipush (-5), 2) := by decide +kernel
theorem dX12_two_50 : decode cX12_two 50 = .ok (.istore 5, 2) := by decide +kernel
theorem dX12_two_52 : decode cX12_two 52 = .ok (.ldc 164, 2) := by decide +kernel
theorem dX12_two_54 : decode cX12_two 54 = .ok (.istore 6, 2) := by decide +kernel
theorem dX12_two_56 : decode cX12_two 56 = .ok (.iconst 0, 1) := by decide +kernel
theorem dX12_two_57 : decode cX12_two 57 = .ok (.istore 7, 2) := by decide +kernel
theorem dX12_two_59 : decode cX12_two 59 = .ok (.iload 7, 2) := by decide +kernel
theorem dX12_two_61 : decode cX12_two 61 = .ok (.iload_n 3, 1) := by decide +kernel
theorem dX12_two_62 : decode cX12_two 62 = .ok (.if_icmp .gt 88, 3) := by decide +kernel
theorem dX12_two_65 : decode cX12_two 65 = .ok (.iload 7, 2) := by decide +kernel
theorem dX12_two_67 : decode cX12_two 67 = .ok (.iload_n 3, 1) := by decide +kernel
theorem dX12_two_68 : decode cX12_two 68 = .ok (.iconst (-1), 1) := by decide +kernel
theorem dX12_two_69 : decode cX12_two 69 = .ok (.ixor, 1) := by decide +kernel
theorem dX12_two_70 : decode cX12_two 70 = .ok (.iand, 1) := by decide +kernel
theorem dX12_two_71 : decode cX12_two 71 = .ok (.ifCond .ne 73, 3) := by decide +kernel
theorem dX12_two_74 : decode cX12_two 74 = .ok (.aload_n 0, 1) := by decide +kernel
theorem dX12_two_75 : decode cX12_two 75 = .ok (.iload_n 1, 1) := by decide +kernel
theorem dX12_two_76 : decode cX12_two 76 = .ok (.iload 7, 2) := by decide +kernel
theorem dX12_two_78 : decode cX12_two 78 = .ok (.invokevirtual 191, 3) := by decide +kernel
theorem dX12_two_81 : decode cX12_two 81 = .ok (.istore 8, 2) := by decide +kernel
theorem dX12_two_83 : decode cX12_two 83 = .ok (.aload_n 0, 1) := by decide +kernel
theorem dX12_two_84 : decode cX12_two 84 = .ok (.iload_n 2, 1) := by decide +kernel
theorem dX12_two_85 : decode cX12_two 85 = .ok (.iload_n 3, 1) := by decide +kernel
theorem dX12_two_86 : decode cX12_two 86 = .ok (.iload 7, 2) := by decide +kernel
theorem dX12_two_88 : decode cX12_two 88 = .ok (.iconst (-1), 1) := by decide +kernel
theorem dX12_two_89 : decode cX12_two 89 = .ok (.ixor, 1) := by decide +kernel
theorem dX12_two_90 : decode cX12_two 90 = .ok (.iand, 1) := by decide +kernel
theorem dX12_two_91 : decode cX12_two 91 = .ok (.invokevirtual 191, 3) := by decide +kernel
theorem dX12_two_94 : decode cX12_two 94 = .ok (.istore 9, 2) := by decide +kernel
theorem dX12_two_96 : decode cX12_two 96 = .ok (.iload 8, 2) := by decide +kernel
theorem dX12_two_98 : decode cX12_two 98 = .ok (.iload 9, 2) := by decide +kernel
theorem dX12_two_100 : decode cX12_two 100 = .ok (.if_icmp .le 8, 3) := by decide +kernel
theorem dX12_two_103 : decode cX12_two 103 = .ok (.iload 8, 2) := by decide +kernel
theorem dX12_two_105 : decode cX12_two 105 = .ok (.goto 5, 3) := by decide +kernel
theorem dX12_two_108 : decode cX12_two 108 = .ok (.iload 9, 2) := by decide +kernel
theorem dX12_two_110 : decode cX12_two 110 = .ok (.istore 10, 2) := by decide +kernel
theorem dX12_two_112 : decode cX12_two 112 = .ok (.iload 10, 2) := by decide +kernel
theorem dX12_two_114 : decode cX12_two 114 = .ok (.iload 6, 2) := by decide +kernel
theorem dX12_two_116 : decode cX12_two 116 = .ok (.if_icmp .ge 8, 3) := by decide +kernel
theorem dX12_two_119 : decode cX12_two 119 = .ok (.iload 7, 2) := by decide +kernel
theorem dX12_two_121 : decode cX12_two 121 = .ok (.goto 5, 3) := by decide +kernel
theorem dX12_two_124 : decode cX12_two 124 = .ok (.iload 5, 2) := by decide +kernel
theorem dX12_two_126 : decode cX12_two 126 = .ok (.istore 5, 2) := by decide +kernel
theorem dX12_two_128 : decode cX12_two 128 = .ok (.iload 10, 2) := by decide +kernel
theorem dX12_two_130 : decode cX12_two 130 = .ok (.iload 6, 2) := by decide +kernel
theorem dX12_two_132 : decode cX12_two 132 = .ok (.if_icmp .ge 8, 3) := by decide +kernel
theorem dX12_two_135 : decode cX12_two 135 = .ok (.iload 10, 2) := by decide +kernel
theorem dX12_two_137 : decode cX12_two 137 = .ok (.goto 5, 3) := by decide +kernel
theorem dX12_two_140 : decode cX12_two 140 = .ok (.iload 6, 2) := by decide +kernel
theorem dX12_two_142 : decode cX12_two 142 = .ok (.istore 6, 2) := by decide +kernel
theorem dX12_two_144 : decode cX12_two 144 = .ok (.iinc 7 1, 3) := by decide +kernel
theorem dX12_two_147 : decode cX12_two 147 = .ok (.goto (-88), 3) := by decide +kernel
theorem dX12_two_150 : decode cX12_two 150 = .ok (.iload 4, 2) := by decide +kernel
theorem dX12_two_152 : decode cX12_two 152 = .ok (.ifCond .ne 11, 3) := by decide +kernel
theorem dX12_two_155 : decode cX12_two 155 = .ok (.iload 6, 2) := by decide +kernel
theorem dX12_two_157 : decode cX12_two 157 = .ok (.invokestatic 172, 3) := by decide +kernel
theorem dX12_two_160 : decode cX12_two 160 = .ok (.goto 5, 3) := by decide +kernel
theorem dX12_two_163 : decode cX12_two 163 = .ok (.iload 5, 2) := by decide +kernel
theorem dX12_two_165 : decode cX12_two 165 = .ok (.ireturn, 1) := by decide +kernel
set_option maxRecDepth 100000 in
set_option maxHeartbeats 4000000 in
theorem s_two (l : Launch) (g : zG) (h : Hp) (m : Nat) (F : Nat → Int32) (A : Nat → Nat → Int32) (x y z w : Int32) (T : Nat) (Q : pP) (hi : iT (A 1) T Q) (n0 n1 : Nat) (hR : iR (A 1) n1) (hS : iS (A 1) n0) : Sp l g yX12_two cX12_two 11 (some .int) (rmz 17) [.ref m, .int x, .int y, .int z, .int w] (hM g h m F A) (zI (mq g h m F A (q_two (A 1) T Q n0 x y z w))) := by
  refine Sp.of [some (.ref m), some (.int x), some (.int y), some (.int z), some (.int w), none, none, none, none, none, none] (by decide) (Nat.le_of_ble_eq_true rfl) rfl rfl ?_
  rintro X rfl hr rfl B
  show AW X 0 0 0 _ _ _ _
  refine aw_aload_n B 0 rfl dX12_two_0 rfl ?_
  refine aw_iload_n B 1 rfl dX12_two_1 rfl ?_
  refine aw_callV B 0 0 (s_isReader _ _ _ _ _ _ _) co_X12_isReader k_X12_144 dX12_two_2 hM_o rfl rfl rfl rfl (Nat.le_of_ble_eq_true rfl) (zrm hr (by omega)) (Nat.le_refl _) (Nat.le_refl _) (kI fun r2 h2 hp2 => ?_)
  obtain ⟨rfl, rfl⟩ := hp2
  refine aw_if_eq B 26 dX12_two_5 (fun c5 => ?_) (fun c5 => ?_)
  · refine aw_iconst B (-1) (by decide) dX12_two_26 ?_
    refine aw_iret B rfl rfl dX12_two_27 ?_
    exact ⟨_, rfl, by unfold q_two; rw [if_pos c5], F, A, rfl, eqF.rf, eqA.rf, trivial⟩
  · refine aw_aload_n B 0 rfl dX12_two_8 rfl ?_
    refine aw_iload_n B 2 rfl dX12_two_9 rfl ?_
    refine aw_callV B 0 0 (s_isReader _ _ _ _ _ _ _) co_X12_isReader k_X12_144 dX12_two_10 hM_o rfl rfl rfl rfl (Nat.le_of_ble_eq_true rfl) (zrm hr (by omega)) (Nat.le_refl _) (Nat.le_refl _) (kI fun r10 h10 hp10 => ?_)
    obtain ⟨rfl, rfl⟩ := hp10
    refine aw_if_eq B 26 dX12_two_13 (fun c13 => ?_) (fun c13 => ?_)
    · refine aw_iconst B (-1) (by decide) dX12_two_26 ?_
      refine aw_iret B rfl rfl dX12_two_27 ?_
      exact ⟨_, rfl, by unfold q_two; rw [if_neg c5, if_pos c13], F, A, rfl, eqF.rf, eqA.rf, trivial⟩
    · refine aw_iload B dX12_two_16 rfl ?_
      refine aw_iconst B 0 (by decide) dX12_two_18 ?_
      refine aw_iconst B 1 (by decide) dX12_two_19 ?_
      refine aw_callS B 0 0 (s_in _ _ _ _ _ _) co_X12_in k_X12_44 dX12_two_20 rfl rfl (Nat.le_of_ble_eq_true rfl) (zrm hr (by omega)) (Nat.le_refl _) (Nat.le_refl _) (kI fun r20 h20 hp20 => ?_)
      obtain ⟨rfl, rfl⟩ := hp20
      refine aw_if_ne B 28 dX12_two_23 (fun c23 => ?_) (fun c23 => ?_)
      · refine aw_iload_n B 1 rfl dX12_two_28 rfl ?_
        refine aw_iload_n B 2 rfl dX12_two_29 rfl ?_
        refine aw_icmp_eq B 41 dX12_two_30 (fun c30 => ?_) (fun c30 => ?_)
        · refine aw_bipush B (-2) (by decide) dX12_two_41 ?_
          refine aw_iret B rfl rfl dX12_two_43 ?_
          exact ⟨_, rfl, by unfold q_two; rw [if_neg c5, if_neg c13, if_neg c23, if_pos c30], F, A, rfl, eqF.rf, eqA.rf, trivial⟩
        · refine aw_aload_n B 0 rfl dX12_two_33 rfl ?_
          refine aw_iload_n B 3 rfl dX12_two_34 rfl ?_
          refine aw_callV B 0 0 (s_isSet _ _ _ _ _ _ _) co_X12_isSet k_X12_185 dX12_two_35 hM_o rfl rfl rfl rfl (Nat.le_of_ble_eq_true rfl) (zrm hr (by omega)) (Nat.le_refl _) (Nat.le_refl _) (kI fun r35 h35 hp35 => ?_)
          obtain ⟨rfl, rfl⟩ := hp35
          refine aw_if_ne B 44 dX12_two_38 (fun c38 => ?_) (fun c38 => ?_)
          · obtain ⟨r1, hr4, rfl⟩ := in_cnt (of_bI c5) (by have := hR.1; omega) hR.2.1
            obtain ⟨r2, hr5, rfl⟩ := in_cnt (of_bI c13) (by have := hR.1; omega) hR.2.1
            obtain ⟨set, -, hl64, rfl⟩ := set_lt hS.1 hS.2.1 (of_bI c38)
            have z1 := hR.1
            have z2 := hS.1
            have e1 : kN (nI r1) = r1 := kN_nI (by omega)
            have e2 : kN (nI r2) = r2 := kN_nI (by omega)
            have e3 : kN (nI set) = set := kN_nI (by omega)
            refine aw_aload_n B 0 rfl dX12_two_44 rfl ?_
            refine aw_callV B 0 0 (s_forgetsSoons _ _ _ _ _ _) co_X12_forgetsSoons k_X12_188 dX12_two_45 hM_o rfl rfl rfl rfl (Nat.le_of_ble_eq_true rfl) (zrm hr (by omega)) (Nat.le_refl _) (Nat.le_refl _) (kV fun h45 hp45 => ?_)
            subst hp45
            obtain ⟨A3, hA3⟩ : ∃ A3, A3 = mup A 6 (cpy (fun _ => 0) (A 6) 8688) := ⟨_, rfl⟩
            rw [← hA3]
            have E1 : A3 1 = A 1 := by rw [hA3]; exact mup_n (by decide)
            have E7 : A3 7 = A 7 := by rw [hA3]; exact mup_n (by decide)
            have E8 : A3 8 = A 8 := by rw [hA3]; exact mup_n (by decide)
            have E6 : A3 6 = cpy (fun _ => 0) (A 6) 8688 := by rw [hA3]; exact mup_s
            refine aw_bipush B (-5) (by decide) dX12_two_48 ?_
            refine aw_istore5 B dX12_two_50 ?_
            refine aw_ldc B cn_X12_164 dX12_two_52 ?_
            refine aw_istore6 B dX12_two_54 ?_
            refine aw_iconst B 0 (by decide) dX12_two_56 ?_
            refine aw_istore7 B dX12_two_57 ?_
            have lp : ∀ (f p : Nat) (F1 : Nat → Int32) (A1 : Nat → Nat → Int32), set + 1 < p + f → p ≤ set + 1 → eqF GF F F1 → eqA GA A A1 → lvI T Q F1 A1 → skI (A 1) T Q n0 n1 A1 → AW X 0 0 59 [some (.ref m), some (.int (nI r1)), some (.int (nI r2)), some (.int (nI set)), some (.int w), some (.int (twF (A 1) T Q n0 r1 r2 set p).1), some (.int (nI (twF (A 1) T Q n0 r1 r2 set p).2)), some (.int (nI p)), none, none, none] [] (hM (zXg X) h m F1 A1) (zI (mq (zXg X) h m F A (q_two (A 1) T Q n0 (nI r1) (nI r2) (nI set) w))) := by
              intro f
              induction f with
              | zero => intros; omega
              | succ f ih =>
                intro p F1 A1 hf hp1 hF hA hlv1 hsk1
                have e5 : A1 1 = A 1 := hA 1 (by simp [GA])
                refine aw_iload B dX12_two_59 rfl ?_
                refine aw_iload_n B 3 rfl dX12_two_61 rfl ?_
                refine aw_icmp_gt B 150 dX12_two_62 (fun c62 => ?_) (fun c62 => ?_)
                · refine aw_iload B dX12_two_150 rfl ?_
                  refine aw_if_ne B 163 dX12_two_152 (fun c152 => ?_) (fun c152 => ?_)
                  · refine aw_iload B dX12_two_163 rfl ?_
                    refine aw_iret B rfl rfl dX12_two_165 ?_
                    have hpe : p = set + 1 := by
                      have := Nat.not_le.mp fun z => absurd (show nI set < nI p from c62) (by rw [Int32.not_lt]; exact nI_le z (by omega))
                      omega
                    rw [hpe]
                    exact ⟨_, rfl, by unfold q_two; rw [if_neg c5, if_neg c13, if_neg c23, if_neg c30, if_neg c38, if_neg c152, e1, e2, e3], F1, A1, rfl, hF, hA, trivial⟩
                  · refine aw_iload B dX12_two_155 rfl ?_
                    refine aw_callS B 0 0 (s_orNone _ _ _ _) co_X12_orNone k_X12_172 dX12_two_157 rfl rfl (Nat.le_of_ble_eq_true rfl) (zrm hr (by omega)) (Nat.le_refl _) (Nat.le_refl _) (kI fun r157 h157 hp157 => ?_)
                    obtain ⟨rfl, rfl⟩ := hp157
                    refine aw_goto B 165 dX12_two_160 ?_
                    refine aw_iret B rfl rfl dX12_two_165 ?_
                    have hpe : p = set + 1 := by
                      have := Nat.not_le.mp fun z => absurd (show nI set < nI p from c62) (by rw [Int32.not_lt]; exact nI_le z (by omega))
                      omega
                    rw [hpe]
                    exact ⟨_, rfl, by unfold q_two; rw [if_neg c5, if_neg c13, if_neg c23, if_neg c30, if_neg c38, if_pos c152, e1, e2, e3]; rfl, F1, A1, rfl, hF, hA, trivial⟩
                · have hlt : p ≤ set := Nat.not_lt.mp fun z => c62 (nI_lt z (by omega))
                  refine aw_iload B dX12_two_65 rfl ?_
                  refine aw_iload_n B 3 rfl dX12_two_67 rfl ?_
                  refine aw_iconst B (-1) (by decide) dX12_two_68 ?_
                  refine aw_ixor B dX12_two_69 ?_
                  refine aw_iand B dX12_two_70 ?_
                  refine aw_if_ne B 144 dX12_two_71 (fun c71 => ?_) (fun c71 => ?_)
                  · refine aw_iinc7 B 1 (by decide) dX12_two_144 ?_
                    refine aw_goto B 59 dX12_two_147 ?_
                    have hnp : ¬ p &&& set = p := fun z => c71 ((bit_3 set hl64 p (by omega)).mpr z)
                    rw [nI_1]
                    refine AW.weak (lv' := [some (.ref m), some (.int (nI r1)), some (.int (nI r2)), some (.int (nI set)), some (.int w), some (.int (twF (A 1) T Q n0 r1 r2 set (p + 1)).1), some (.int (nI (twF (A 1) T Q n0 r1 r2 set (p + 1)).2)), some (.int (nI (p + 1))), none, none, none]) ⟨Or.inr rfl, Or.inr rfl, Or.inr rfl, Or.inr rfl, Or.inr rfl, Or.inr ?_, Or.inr ?_, Or.inr rfl, Or.inl rfl, Or.inl rfl, Or.inl rfl, trivial⟩ (ih (p + 1) F1 A1 (by omega) (by omega) hF hA hlv1 hsk1)
                    · rw [twF, if_neg hnp]
                    · rw [twF, if_neg hnp]
                  · refine aw_aload_n B 0 rfl dX12_two_74 rfl ?_
                    refine aw_iload_n B 1 rfl dX12_two_75 rfl ?_
                    refine aw_iload B dX12_two_76 rfl ?_
                    refine aw_callV B 0 0 (s_endOf _ _ _ _ F1 A1 T Q (by rw [e5]; exact hi) hlv1 n0 n1 (by rw [e5]; exact hR) (by rw [e5]; exact hS) r1 p (by omega) (by omega) (by rw [e5]; exact hsk1)) co_X12_endOf k_X12_191 dX12_two_78 hM_o rfl rfl rfl rfl (Nat.le_of_ble_eq_true rfl) (zrm hr (by omega)) (Nat.le_refl _) (Nat.le_refl _) (kI fun r78 h78 hp78 => ?_)
                    rw [e5] at hp78
                    obtain ⟨rfl, hg78⟩ := hp78
                    have hgm := oG_mq (F0 := F) (A0 := A) hF hA hg78
                    obtain ⟨F2, A2, rfl, hF2, hA2, hlv2, hsk2, eb2, e82, e72⟩ := hgm
                    rw [e5] at hsk2
                    have e6 : A2 1 = A 1 := hA2 1 (by simp [GA])
                    rw [eoS_1]
                    refine aw_istore8 B dX12_two_81 ?_
                    refine aw_aload_n B 0 rfl dX12_two_83 rfl ?_
                    refine aw_iload_n B 2 rfl dX12_two_84 rfl ?_
                    refine aw_iload_n B 3 rfl dX12_two_85 rfl ?_
                    refine aw_iload B dX12_two_86 rfl ?_
                    refine aw_iconst B (-1) (by decide) dX12_two_88 ?_
                    refine aw_ixor B dX12_two_89 ?_
                    have hb4 := bit_4 set hl64 p (by omega)
                    refine aw_iand B dX12_two_90 ?_
                    rw [hb4.1]
                    refine aw_callV B 0 0 (s_endOf _ _ _ _ F2 A2 T Q (by rw [e6]; exact hi) hlv2 n0 n1 (by rw [e6]; exact hR) (by rw [e6]; exact hS) r2 (set &&& (63 ^^^ p)) (by omega) hb4.2 (by rw [e6]; exact hsk2)) co_X12_endOf k_X12_191 dX12_two_91 hM_o rfl rfl rfl rfl (Nat.le_of_ble_eq_true rfl) (zrm hr (by omega)) (Nat.le_refl _) (Nat.le_refl _) (kI fun r91 h91 hp91 => ?_)
                    rw [e6] at hp91
                    obtain ⟨rfl, hg91⟩ := hp91
                    have hgn := oG_mq (F0 := F) (A0 := A) hF2 hA2 hg91
                    obtain ⟨F3, A3', rfl, hF3, hA3', hlv3, hsk3, eb3, e83, e73⟩ := hgn
                    rw [e6] at hsk3
                    rw [eoS_1]
                    have hn1 := eoN_le (S := A 1) (T := T) (Q := Q) (n0 := n0) (r := r1) (left := p)
                    have hn2 := eoN_le (S := A 1) (T := T) (Q := Q) (n0 := n0) (r := r2) (left := set &&& (63 ^^^ p))
                    have hm := pk_max (a := eoN (A 1) T Q n0 r1 p) (b := eoN (A 1) T Q n0 r2 (set &&& (63 ^^^ p))) (by omega) (by omega)
                    have hml : max (eoN (A 1) T Q n0 r1 p) (eoN (A 1) T Q n0 r2 (set &&& (63 ^^^ p))) ≤ 100000 := by omega
                    have htl := twF_le (S := A 1) (T := T) (Q := Q) (n0 := n0) (r1 := r1) (r2 := r2) (set := set) p
                    refine aw_istore9 B dX12_two_94 ?_
                    refine aw_iload B dX12_two_96 rfl ?_
                    refine aw_iload B dX12_two_98 rfl ?_
                    refine aw_icmp_le B 108 dX12_two_100 (fun c100 => ?_) (fun c100 => ?_)
                    · refine aw_iload B dX12_two_108 rfl ?_
                      first
                        | rw [hm.1 c100]
                        | rw [hm.2 c100]
                      refine aw_istore10 B dX12_two_110 ?_
                      refine aw_iload B dX12_two_112 rfl ?_
                      refine aw_iload B dX12_two_114 rfl ?_
                      refine aw_icmp_ge B 124 dX12_two_116 (fun c116 => ?_) (fun c116 => ?_)
                      · have hls : ¬ max (eoN (A 1) T Q n0 r1 p) (eoN (A 1) T Q n0 r2 (set &&& (63 ^^^ p))) < (twF (A 1) T Q n0 r1 r2 set p).2 := fun z => absurd (show nI (twF (A 1) T Q n0 r1 r2 set p).2 ≤ nI (max (eoN (A 1) T Q n0 r1 p) (eoN (A 1) T Q n0 r2 (set &&& (63 ^^^ p)))) from c116) (by rw [Int32.not_le]; exact nI_lt z (by omega))
                        refine aw_iload B dX12_two_124 rfl ?_
                        refine aw_istore5 B dX12_two_126 ?_
                        refine aw_iload B dX12_two_128 rfl ?_
                        refine aw_iload B dX12_two_130 rfl ?_
                        refine aw_icmp_ge B 140 dX12_two_132 (fun c132 => ?_) (fun c132 => absurd c116 c132)
                        refine aw_iload B dX12_two_140 rfl ?_
                        refine aw_istore6 B dX12_two_142 ?_
                        refine aw_iinc7 B 1 (by decide) dX12_two_144 ?_
                        refine aw_goto B 59 dX12_two_147 ?_
                        have hpp : p &&& set = p := (bit_3 set hl64 p (by omega)).mp c71
                        rw [nI_1]
                        refine AW.weak (lv' := [some (.ref m), some (.int (nI r1)), some (.int (nI r2)), some (.int (nI set)), some (.int w), some (.int (twF (A 1) T Q n0 r1 r2 set (p + 1)).1), some (.int (nI (twF (A 1) T Q n0 r1 r2 set (p + 1)).2)), some (.int (nI (p + 1))), none, none, none]) ⟨Or.inr rfl, Or.inr rfl, Or.inr rfl, Or.inr rfl, Or.inr rfl, Or.inr ?_, Or.inr ?_, Or.inr rfl, Or.inl rfl, Or.inl rfl, Or.inl rfl, trivial⟩ (ih (p + 1) F3 A3' (by omega) (by omega) hF3 hA3' hlv3 hsk3)
                        · rw [twF, if_pos hpp]
                          first
                            | rw [if_pos hls]
                            | rw [if_neg hls]
                        · rw [twF, if_pos hpp]
                          first
                            | rw [if_pos hls]
                            | rw [if_neg hls]
                      · have hls : max (eoN (A 1) T Q n0 r1 p) (eoN (A 1) T Q n0 r2 (set &&& (63 ^^^ p))) < (twF (A 1) T Q n0 r1 r2 set p).2 := Nat.not_le.mp fun z => c116 (nI_le z (by omega))
                        refine aw_iload B dX12_two_119 rfl ?_
                        refine aw_goto B 126 dX12_two_121 ?_
                        refine aw_istore5 B dX12_two_126 ?_
                        refine aw_iload B dX12_two_128 rfl ?_
                        refine aw_iload B dX12_two_130 rfl ?_
                        refine aw_icmp_ge B 140 dX12_two_132 (fun c132 => absurd c132 c116) (fun c132 => ?_)
                        refine aw_iload B dX12_two_135 rfl ?_
                        refine aw_goto B 142 dX12_two_137 ?_
                        refine aw_istore6 B dX12_two_142 ?_
                        refine aw_iinc7 B 1 (by decide) dX12_two_144 ?_
                        refine aw_goto B 59 dX12_two_147 ?_
                        have hpp : p &&& set = p := (bit_3 set hl64 p (by omega)).mp c71
                        rw [nI_1]
                        refine AW.weak (lv' := [some (.ref m), some (.int (nI r1)), some (.int (nI r2)), some (.int (nI set)), some (.int w), some (.int (twF (A 1) T Q n0 r1 r2 set (p + 1)).1), some (.int (nI (twF (A 1) T Q n0 r1 r2 set (p + 1)).2)), some (.int (nI (p + 1))), none, none, none]) ⟨Or.inr rfl, Or.inr rfl, Or.inr rfl, Or.inr rfl, Or.inr rfl, Or.inr ?_, Or.inr ?_, Or.inr rfl, Or.inl rfl, Or.inl rfl, Or.inl rfl, trivial⟩ (ih (p + 1) F3 A3' (by omega) (by omega) hF3 hA3' hlv3 hsk3)
                        · rw [twF, if_pos hpp]
                          first
                            | rw [if_pos hls]
                            | rw [if_neg hls]
                        · rw [twF, if_pos hpp]
                          first
                            | rw [if_pos hls]
                            | rw [if_neg hls]
                    · refine aw_iload B dX12_two_103 rfl ?_
                      refine aw_goto B 110 dX12_two_105 ?_
                      first
                        | rw [hm.1 c100]
                        | rw [hm.2 c100]
                      refine aw_istore10 B dX12_two_110 ?_
                      refine aw_iload B dX12_two_112 rfl ?_
                      refine aw_iload B dX12_two_114 rfl ?_
                      refine aw_icmp_ge B 124 dX12_two_116 (fun c116 => ?_) (fun c116 => ?_)
                      · have hls : ¬ max (eoN (A 1) T Q n0 r1 p) (eoN (A 1) T Q n0 r2 (set &&& (63 ^^^ p))) < (twF (A 1) T Q n0 r1 r2 set p).2 := fun z => absurd (show nI (twF (A 1) T Q n0 r1 r2 set p).2 ≤ nI (max (eoN (A 1) T Q n0 r1 p) (eoN (A 1) T Q n0 r2 (set &&& (63 ^^^ p)))) from c116) (by rw [Int32.not_le]; exact nI_lt z (by omega))
                        refine aw_iload B dX12_two_124 rfl ?_
                        refine aw_istore5 B dX12_two_126 ?_
                        refine aw_iload B dX12_two_128 rfl ?_
                        refine aw_iload B dX12_two_130 rfl ?_
                        refine aw_icmp_ge B 140 dX12_two_132 (fun c132 => ?_) (fun c132 => absurd c116 c132)
                        refine aw_iload B dX12_two_140 rfl ?_
                        refine aw_istore6 B dX12_two_142 ?_
                        refine aw_iinc7 B 1 (by decide) dX12_two_144 ?_
                        refine aw_goto B 59 dX12_two_147 ?_
                        have hpp : p &&& set = p := (bit_3 set hl64 p (by omega)).mp c71
                        rw [nI_1]
                        refine AW.weak (lv' := [some (.ref m), some (.int (nI r1)), some (.int (nI r2)), some (.int (nI set)), some (.int w), some (.int (twF (A 1) T Q n0 r1 r2 set (p + 1)).1), some (.int (nI (twF (A 1) T Q n0 r1 r2 set (p + 1)).2)), some (.int (nI (p + 1))), none, none, none]) ⟨Or.inr rfl, Or.inr rfl, Or.inr rfl, Or.inr rfl, Or.inr rfl, Or.inr ?_, Or.inr ?_, Or.inr rfl, Or.inl rfl, Or.inl rfl, Or.inl rfl, trivial⟩ (ih (p + 1) F3 A3' (by omega) (by omega) hF3 hA3' hlv3 hsk3)
                        · rw [twF, if_pos hpp]
                          first
                            | rw [if_pos hls]
                            | rw [if_neg hls]
                        · rw [twF, if_pos hpp]
                          first
                            | rw [if_pos hls]
                            | rw [if_neg hls]
                      · have hls : max (eoN (A 1) T Q n0 r1 p) (eoN (A 1) T Q n0 r2 (set &&& (63 ^^^ p))) < (twF (A 1) T Q n0 r1 r2 set p).2 := Nat.not_le.mp fun z => c116 (nI_le z (by omega))
                        refine aw_iload B dX12_two_119 rfl ?_
                        refine aw_goto B 126 dX12_two_121 ?_
                        refine aw_istore5 B dX12_two_126 ?_
                        refine aw_iload B dX12_two_128 rfl ?_
                        refine aw_iload B dX12_two_130 rfl ?_
                        refine aw_icmp_ge B 140 dX12_two_132 (fun c132 => absurd c132 c116) (fun c132 => ?_)
                        refine aw_iload B dX12_two_135 rfl ?_
                        refine aw_goto B 142 dX12_two_137 ?_
                        refine aw_istore6 B dX12_two_142 ?_
                        refine aw_iinc7 B 1 (by decide) dX12_two_144 ?_
                        refine aw_goto B 59 dX12_two_147 ?_
                        have hpp : p &&& set = p := (bit_3 set hl64 p (by omega)).mp c71
                        rw [nI_1]
                        refine AW.weak (lv' := [some (.ref m), some (.int (nI r1)), some (.int (nI r2)), some (.int (nI set)), some (.int w), some (.int (twF (A 1) T Q n0 r1 r2 set (p + 1)).1), some (.int (nI (twF (A 1) T Q n0 r1 r2 set (p + 1)).2)), some (.int (nI (p + 1))), none, none, none]) ⟨Or.inr rfl, Or.inr rfl, Or.inr rfl, Or.inr rfl, Or.inr rfl, Or.inr ?_, Or.inr ?_, Or.inr rfl, Or.inl rfl, Or.inl rfl, Or.inl rfl, trivial⟩ (ih (p + 1) F3 A3' (by omega) (by omega) hF3 hA3' hlv3 hsk3)
                        · rw [twF, if_pos hpp]
                          first
                            | rw [if_pos hls]
                            | rw [if_neg hls]
                        · rw [twF, if_pos hpp]
                          first
                            | rw [if_pos hls]
                            | rw [if_neg hls]
            refine Eq.mp ?_ (lp (set + 2) 0 (upd F 14 0) A3 (by omega) (by omega) gar_5 (by rw [hA3]; exact eqA.rf.up (by simp [GA])) lvI_0 (skI_0 z2 z1 E6))
            rfl
          · refine aw_bipush B (-2) (by decide) dX12_two_41 ?_
            refine aw_iret B rfl rfl dX12_two_43 ?_
            exact ⟨_, rfl, by unfold q_two; rw [if_neg c5, if_neg c13, if_neg c23, if_neg c30, if_pos c38], F, A, rfl, eqF.rf, eqA.rf, trivial⟩
      · refine aw_iconst B (-1) (by decide) dX12_two_26 ?_
        refine aw_iret B rfl rfl dX12_two_27 ?_
        exact ⟨_, rfl, by unfold q_two; rw [if_neg c5, if_neg c13, if_pos c23], F, A, rfl, eqF.rf, eqA.rf, trivial⟩
