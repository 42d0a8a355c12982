set_option maxRecDepth 100000 in
set_option maxHeartbeats 4000000 in
theorem looks_loop {X : zX} (h : Hp) (m : Nat) (F : Nat → Int32) (A : Nat → Nat → Int32) (tm : Nat) (Q : pP) (htm : tm ≤ 20000) (hr : zXr X = rmz 1) (B : zB X cX12_looks 10 yX12_looks.cls yX12_looks.name none) (f3 : Nat → Int32) (hf3 : ∀ k, k < 3 → f3 k = nI (hx tm k)) (fr : Nat) (hfr : fr + Q.length ≤ 899) : ∀ (R : pP) (j : Nat) (st : List Bool) (sw wv : Int32) (f4 : Nat → Int32), j + R.length = Q.length → (∀ i (hi : i < R.length), A 1 (fr + j + i) = cd R[i].1 R[i].2) → wfp st.length R → st.length ≤ 30 → tru f4 st → ev (hx tm) R st sw wv = evL tm Q →
    AW X 0 0 96 (LL m (nI tm) (nI Q.length) (nI fr) (nI st.length) (nI (fr + j))) [] (hM (zXg X) h m (upd (upd F 11 sw) 12 wv) (mup (mup A 3 f3) 4 f4)) (zV (mlook (zXg X) h m F A (evL tm Q))) := by
  intro R
  induction R with
  | nil =>
    intro j st sw wv f4 hj hR hw hl ht he
    have hj : j = Q.length := by simpa using hj
    have he : (sw, wv) = evL tm Q := he
    unfold LL
    refine aw_iload B dX12_looks_96 rfl ?_
    refine aw_iload_n B 3 rfl dX12_looks_98 rfl ?_
    refine aw_iload_n B 2 rfl dX12_looks_99 rfl ?_
    refine aw_iadd B dX12_looks_100 ?_
    refine aw_icmp_ge B 430 dX12_looks_101 (fun c101 => ?_) (fun c101 => absurd (show nI fr + nI Q.length ≤ nI (fr + j) from by rw [nI_add, hj]; exact Int32.le_refl _) c101)
    refine aw_aload_n B 0 rfl dX12_looks_430 rfl ?_
    refine aw_aload_n B 0 rfl dX12_looks_431 rfl ?_
    refine m_get B f_X12_124 dX12_looks_432 (mg_12 _ _) ?_
    refine aw_bipush B 10 (by decide) dX12_looks_435 ?_
    refine aw_icmp_le B 445 dX12_looks_437 (fun c437 => ?_) (fun c437 => ?_)
    · refine aw_aload_n B 0 rfl dX12_looks_445 rfl ?_
      refine m_get B f_X12_124 dX12_looks_446 (mg_12 _ _) ?_
      refine m_put B f_X12_124 dX12_looks_449 (ms_12 _ _ _) (by decide) ?_
      refine aw_vret B rfl dX12_looks_452 ?_
      refine ⟨rfl, f3, f4, ?_⟩
      rw [← he]
      show _ = hM _ _ _ (upd (upd F 11 sw) 12 (if wv ≤ 10 then wv else 10)) _
      rw [if_pos (show wv ≤ 10 from c437), upd_u, upd_s]
    · refine aw_bipush B 10 (by decide) dX12_looks_440 ?_
      refine aw_goto B 449 dX12_looks_442 ?_
      refine m_put B f_X12_124 dX12_looks_449 (ms_12 _ _ _) (by decide) ?_
      refine aw_vret B rfl dX12_looks_452 ?_
      refine ⟨rfl, f3, f4, ?_⟩
      rw [← he]
      show _ = hM _ _ _ (upd (upd F 11 sw) 12 (if wv ≤ 10 then wv else 10)) _
      rw [if_neg (show ¬ wv ≤ 10 from c437), upd_u]
  | cons p R ih =>
    obtain ⟨s, n⟩ := p
    intro j st sw wv f4 hj hR hw hl ht he
    obtain ⟨hn, hs, w1, w2, w3, w4⟩ := hw
    have hj : j + (R.length + 1) = Q.length := by simpa using hj
    have e0 : A 1 (fr + j) = cd s n := hR 0 (Nat.succ_pos _)
    have hR1 : ∀ i (hi : i < R.length), A 1 (fr + (j + 1) + i) = cd R[i].1 R[i].2 := fun i hi => by
      rw [show fr + (j + 1) + i = fr + j + (i + 1) by omega]
      exact hR (i + 1) (Nat.succ_lt_succ hi)
    have hn5 : nI (fr + j) + 1 = nI (fr + (j + 1)) := nI_1 _
    unfold LL
    refine aw_iload B dX12_looks_96 rfl ?_
    refine aw_iload_n B 3 rfl dX12_looks_98 rfl ?_
    refine aw_iload_n B 2 rfl dX12_looks_99 rfl ?_
    refine aw_iadd B dX12_looks_100 ?_
    refine aw_icmp_ge B 430 dX12_looks_101 (fun c101 => absurd (show nI fr + nI Q.length ≤ nI (fr + j) from c101) (by rw [nI_add, Int32.not_le]; exact nI_lt (by omega) (by omega))) (fun c101 => ?_)
    refine aw_aload_n B 0 rfl dX12_looks_104 rfl ?_
    refine m_get B f_X12_9 dX12_looks_105 (mg_1 _ _) ?_
    refine aw_iload B dX12_looks_108 rfl ?_
    refine m_ld B (fr + j) (rfl) (by show _ < 899; omega) dX12_looks_110 (by decide) ?_
    rw [show mup (mup A 3 f3) 4 f4 1 (fr + j) = cd s n from by rw [mup_n (by decide), mup_n (by decide)]; exact e0]
    have hsc : s < 9 ∨ s = 9 ∨ s = 10 ∨ s = 11 ∨ s = 12 ∨ s = 13 ∨ s = 14 := by omega
    rcases hsc with hs9 | rfl | rfl | rfl | rfl | rfl | rfl
    · obtain ⟨ht30, hw'⟩ := w1 hs9
      have hev : ev (hx tm) R (tst (hx tm) s n :: st) sw wv = evL tm Q := by rw [← he, ev, if_pos hs9]
      refine looks_test (t := st.length) (x := hx tm) B (fun k hk => by rw [mup_n (by decide), mup_s]; exact hf3 k hk) (fun k hk => ?_) hs9 hn (by omega) ?_
      · unfold hx
        split
        · omega
        · split <;> omega
      · rw [mup_m, mup_s, hn5]
        exact ih (j + 1) (tst (hx tm) s n :: st) sw wv _ (by omega) hR1 hw' (by simp; omega) (tru_push ht _) hev
    · obtain ⟨ht1, hw'⟩ := w2 rfl
      obtain ⟨b, st, rfl⟩ : ∃ b st', st = b :: st' := by
        cases st with
        | nil => simp at ht1
        | cons b st => exact ⟨b, st, rfl⟩
      have hev : ev (hx tm) R ((!b) :: st) sw wv = evL tm Q := by rw [← he, ev]; simp
      refine looks_not (t := st.length) (b := b) B (by rw [mup_s]; exact tru_top ht) (by simp at hl; omega) ?_
      rw [mup_m, mup_s, hn5]
      exact ih (j + 1) ((!b) :: st) sw wv _ (by omega) hR1 hw' hl (tru_set ht (c := !b)) hev
    · obtain ⟨ht2, hw'⟩ := w3 (by simp)
      obtain ⟨b, b', st, rfl⟩ : ∃ b b' st', st = b :: b' :: st' := by
        match st, ht2 with
        | b :: b' :: st, _ => exact ⟨b, b', st, rfl⟩
      have hev : ev (hx tm) R ((b' && b) :: st) sw wv = evL tm Q := by rw [← he, ev]; simp
      have hl2 : st.length + 1 + 1 ≤ 30 := hl
      refine looks_and (t := st.length) (b := b) (b' := b') B (by rw [mup_s]; exact tru_top (tru_pop ht)) (by rw [mup_s]; exact tru_top ht) (by omega) ?_
      rw [mup_m, mup_s, hn5]
      exact ih (j + 1) ((b' && b) :: st) sw wv _ (by omega) hR1 hw' (by simp; omega) (tru_set (tru_pop ht) (c := b' && b)) hev
    · obtain ⟨ht2, hw'⟩ := w3 (by simp)
      obtain ⟨b, b', st, rfl⟩ : ∃ b b' st', st = b :: b' :: st' := by
        match st, ht2 with
        | b :: b' :: st, _ => exact ⟨b, b', st, rfl⟩
      have hev : ev (hx tm) R ((b' || b) :: st) sw wv = evL tm Q := by rw [← he, ev]; simp
      have hl2 : st.length + 1 + 1 ≤ 30 := hl
      refine looks_or (t := st.length) (b := b) (b' := b') B (by rw [mup_s]; exact tru_top (tru_pop ht)) (by rw [mup_s]; exact tru_top ht) (by omega) ?_
      rw [mup_m, mup_s, hn5]
      exact ih (j + 1) ((b' || b) :: st) sw wv _ (by omega) hR1 hw' (by simp; omega) (tru_set (tru_pop ht) (c := b' || b)) hev
    · obtain ⟨ht1, hw'⟩ := w4 (by omega)
      obtain ⟨b, rfl⟩ : ∃ b, st = [b] := by
        match st, ht1 with
        | [b], _ => exact ⟨b, rfl⟩
      have hev : ev (hx tm) R [] (sw + cl_s 12 n b) (wv + cl_w 12 n b) = evL tm Q := by rw [← he, ev]; cases b <;> simp [cl_s, cl_w]
      refine looks_c12 (n := n) (b := b) B (by rw [mup_s]; exact tru_top ht) hn ?_
      rw [hn5, upd_121, upd_u, upd_s, upd_n (show (11 : Nat) ≠ 12 by decide), upd_s]
      exact ih (j + 1) [] _ _ f4 (by omega) hR1 hw' (by simp) (fun k hk => absurd hk (by simp)) hev
    · obtain ⟨ht1, hw'⟩ := w4 (by omega)
      obtain ⟨b, rfl⟩ : ∃ b, st = [b] := by
        match st, ht1 with
        | [b], _ => exact ⟨b, rfl⟩
      have hev : ev (hx tm) R [] (sw + cl_s 13 n b) (wv + cl_w 13 n b) = evL tm Q := by rw [← he, ev]; cases b <;> simp [cl_s, cl_w]
      refine looks_c13 (n := n) (b := b) B (by rw [mup_s]; exact tru_top ht) hn ?_
      rw [hn5, upd_121, upd_u, upd_s, upd_n (show (11 : Nat) ≠ 12 by decide), upd_s]
      exact ih (j + 1) [] _ _ f4 (by omega) hR1 hw' (by simp) (fun k hk => absurd hk (by simp)) hev
    · obtain ⟨ht1, hw'⟩ := w4 (by omega)
      obtain ⟨b, rfl⟩ : ∃ b, st = [b] := by
        match st, ht1 with
        | [b], _ => exact ⟨b, rfl⟩
      have hev : ev (hx tm) R [] (sw + cl_s 14 n b) (wv + cl_w 14 n b) = evL tm Q := by rw [← he, ev]; cases b <;> simp [cl_s, cl_w]
      refine looks_c14 (n := n) (b := b) B (by rw [mup_s]; exact tru_top ht) hn ?_
      rw [hn5, upd_121, upd_u, upd_s, upd_n (show (11 : Nat) ≠ 12 by decide), upd_s]
      exact ih (j + 1) [] _ _ f4 (by omega) hR1 hw' (by simp) (fun k hk => absurd hk (by simp)) hev

set_option maxRecDepth 100000 in
set_option maxHeartbeats 4000000 in
theorem s_looks (l : Launch) (g : zG) (h : Hp) (m : Nat) (F : Nat → Int32) (A : Nat → Nat → Int32) (tm : Nat) (Q : pP) (htm : tm ≤ 20000) (hQ : hold (A 1) Q) (hwf : wfp 0 Q) : Sp l g yX12_looks cX12_looks 10 none (rmz 1) [.ref m, .int (nI tm)] (hM g h m F A) (zV (mlook g h m F A (evL tm Q))) := by
  refine Sp.of [some (.ref m), some (.int (nI tm)), none, none, none, none, none, none, none, none] (by decide) (Nat.le_of_ble_eq_true rfl) rfl rfl ?_
  rintro X rfl hr rfl B
  show AW X 0 0 0 _ _ _ _
  obtain ⟨f3, hfx⟩ : ∃ f3 : Nat → Int32, f3 = upd (upd (upd (A 3) 0 (nI (tm % 12))) 1 (nI (tm / 12 % 14))) 2 (nI (tm % 5)) := ⟨_, rfl⟩
  have hf3 : ∀ k, k < 3 → f3 k = nI (hx tm k) := fun k hk => by
    rcases (show k = 0 ∨ k = 1 ∨ k = 2 by omega) with rfl | rfl | rfl <;> simp [hfx, upd, hx]
  have h4 : mup A 3 f3 = mup (mup A 3 f3) 4 (A 4) := by
    funext j
    by_cases h : j = 4 <;> simp [mup, h]
  rcases hQ with ⟨e7, rfl⟩ | ⟨c, e7, hc, hlen, ecnt, ecode⟩
  · refine aw_aload_n B 0 rfl dX12_looks_0 rfl ?_
    refine m_get B f_X12_18 dX12_looks_1 (mg_9 _ _) ?_
    refine aw_iconst B 0 (by decide) dX12_looks_4 ?_
    refine aw_iload_n B 1 rfl dX12_looks_5 rfl ?_
    refine aw_bipush B 12 (by decide) dX12_looks_6 ?_
    refine aw_irem B (by decide) dX12_looks_8 ?_
    rw [show nI tm - nI tm / 12 * 12 = nI (tm % 12) from pk_rem (d := 12) (by omega) (by decide) (by decide)]
    refine m_st B (0) (rfl) ((by decide)) dX12_looks_9 (by decide) ?_
    refine aw_aload_n B 0 rfl dX12_looks_10 rfl ?_
    refine m_get B f_X12_18 dX12_looks_11 (mg_9 _ _) ?_
    refine aw_iconst B 1 (by decide) dX12_looks_14 ?_
    refine aw_iload_n B 1 rfl dX12_looks_15 rfl ?_
    refine aw_bipush B 12 (by decide) dX12_looks_16 ?_
    refine aw_idiv B (by decide) dX12_looks_18 ?_
    refine aw_bipush B 14 (by decide) dX12_looks_19 ?_
    refine aw_irem B (by decide) dX12_looks_21 ?_
    rw [show nI tm / 12 = nI (tm / 12) from pk_div (d := 12) (by omega) (by decide) (by decide), show nI (tm / 12) - nI (tm / 12) / 14 * 14 = nI (tm / 12 % 14) from pk_rem (d := 14) (by omega) (by decide) (by decide)]
    refine m_st B (1) (rfl) ((by decide)) dX12_looks_22 (by decide) ?_
    refine aw_aload_n B 0 rfl dX12_looks_23 rfl ?_
    refine m_get B f_X12_18 dX12_looks_24 (mg_9 _ _) ?_
    refine aw_iconst B 2 (by decide) dX12_looks_27 ?_
    refine aw_iload_n B 1 rfl dX12_looks_28 rfl ?_
    refine aw_iconst B 5 (by decide) dX12_looks_29 ?_
    refine aw_irem B (by decide) dX12_looks_30 ?_
    rw [show nI tm - nI tm / 5 * 5 = nI (tm % 5) from pk_rem (d := 5) (by omega) (by decide) (by decide)]
    refine m_st B (2) (rfl) ((by decide)) dX12_looks_31 (by decide) ?_
    rw [mup_s, mup_m, mup_s, mup_m]
    rw [← hfx]
    refine aw_aload_n B 0 rfl dX12_looks_32 rfl ?_
    refine aw_iconst B 0 (by decide) dX12_looks_33 ?_
    refine m_put B f_X12_121 dX12_looks_34 (ms_11 _ _ _) (by decide) ?_
    refine aw_aload_n B 0 rfl dX12_looks_37 rfl ?_
    refine aw_iconst B 0 (by decide) dX12_looks_38 ?_
    refine m_put B f_X12_124 dX12_looks_39 (ms_12 _ _ _) (by decide) ?_
    refine aw_aload_n B 0 rfl dX12_looks_42 rfl ?_
    refine m_get B f_X12_9 dX12_looks_43 (mg_1 _ _) ?_
    refine aw_bipush B 7 (by decide) dX12_looks_46 ?_
    refine m_ld B (7) (rfl) ((by decide)) dX12_looks_48 (by decide) ?_
    rw [show mup A 3 f3 1 7 = -1 from by rw [mup_n (by decide)]; exact e7]
    refine aw_iconst B (-1) (by decide) dX12_looks_49 ?_
    refine aw_icmp_ne B 57 dX12_looks_50 (fun c50 => absurd rfl c50) (fun c50 => ?_)
    refine aw_iconst B 0 (by decide) dX12_looks_53 ?_
    refine aw_goto B 73 dX12_looks_54 ?_
    refine aw_istore2 B dX12_looks_73 ?_
    refine aw_sipush B 199 (by decide) dX12_looks_74 ?_
    refine aw_sipush B 140 (by decide) dX12_looks_77 ?_
    refine aw_aload_n B 0 rfl dX12_looks_80 rfl ?_
    refine m_get B f_X12_9 dX12_looks_81 (mg_1 _ _) ?_
    refine aw_bipush B 7 (by decide) dX12_looks_84 ?_
    refine m_ld B (7) (rfl) ((by decide)) dX12_looks_86 (by decide) ?_
    rw [show mup A 3 f3 1 7 = -1 from by rw [mup_n (by decide)]; exact e7]
    refine aw_imul B dX12_looks_87 ?_
    refine aw_iadd B dX12_looks_88 ?_
    rw [show (199 : Int32) + 140 * -1 = nI 59 by decide]
    refine aw_istore3 B dX12_looks_89 ?_
    refine aw_iconst B 0 (by decide) dX12_looks_90 ?_
    refine aw_istore4 B dX12_looks_91 ?_
    refine aw_iload_n B 3 rfl dX12_looks_93 rfl ?_
    refine aw_istore5 B dX12_looks_94 ?_
    rw [h4]
    refine AW.weak ?_ (looks_loop h m F A tm [] htm hr B f3 hf3 59 (by simp) [] 0 [] 0 0 (A 4) rfl (fun i hi => absurd hi (by simp)) trivial (by simp) (fun k hk => absurd hk (by simp)) rfl)
    exact ⟨Or.inr rfl, Or.inr rfl, Or.inr rfl, Or.inr rfl, Or.inr rfl, Or.inr rfl, Or.inl rfl, Or.inl rfl, Or.inl rfl, Or.inl rfl, trivial⟩
  · refine aw_aload_n B 0 rfl dX12_looks_0 rfl ?_
    refine m_get B f_X12_18 dX12_looks_1 (mg_9 _ _) ?_
    refine aw_iconst B 0 (by decide) dX12_looks_4 ?_
    refine aw_iload_n B 1 rfl dX12_looks_5 rfl ?_
    refine aw_bipush B 12 (by decide) dX12_looks_6 ?_
    refine aw_irem B (by decide) dX12_looks_8 ?_
    rw [show nI tm - nI tm / 12 * 12 = nI (tm % 12) from pk_rem (d := 12) (by omega) (by decide) (by decide)]
    refine m_st B (0) (rfl) ((by decide)) dX12_looks_9 (by decide) ?_
    refine aw_aload_n B 0 rfl dX12_looks_10 rfl ?_
    refine m_get B f_X12_18 dX12_looks_11 (mg_9 _ _) ?_
    refine aw_iconst B 1 (by decide) dX12_looks_14 ?_
    refine aw_iload_n B 1 rfl dX12_looks_15 rfl ?_
    refine aw_bipush B 12 (by decide) dX12_looks_16 ?_
    refine aw_idiv B (by decide) dX12_looks_18 ?_
    refine aw_bipush B 14 (by decide) dX12_looks_19 ?_
    refine aw_irem B (by decide) dX12_looks_21 ?_
    rw [show nI tm / 12 = nI (tm / 12) from pk_div (d := 12) (by omega) (by decide) (by decide), show nI (tm / 12) - nI (tm / 12) / 14 * 14 = nI (tm / 12 % 14) from pk_rem (d := 14) (by omega) (by decide) (by decide)]
    refine m_st B (1) (rfl) ((by decide)) dX12_looks_22 (by decide) ?_
    refine aw_aload_n B 0 rfl dX12_looks_23 rfl ?_
    refine m_get B f_X12_18 dX12_looks_24 (mg_9 _ _) ?_
    refine aw_iconst B 2 (by decide) dX12_looks_27 ?_
    refine aw_iload_n B 1 rfl dX12_looks_28 rfl ?_
    refine aw_iconst B 5 (by decide) dX12_looks_29 ?_
    refine aw_irem B (by decide) dX12_looks_30 ?_
    rw [show nI tm - nI tm / 5 * 5 = nI (tm % 5) from pk_rem (d := 5) (by omega) (by decide) (by decide)]
    refine m_st B (2) (rfl) ((by decide)) dX12_looks_31 (by decide) ?_
    rw [mup_s, mup_m, mup_s, mup_m]
    rw [← hfx]
    refine aw_aload_n B 0 rfl dX12_looks_32 rfl ?_
    refine aw_iconst B 0 (by decide) dX12_looks_33 ?_
    refine m_put B f_X12_121 dX12_looks_34 (ms_11 _ _ _) (by decide) ?_
    refine aw_aload_n B 0 rfl dX12_looks_37 rfl ?_
    refine aw_iconst B 0 (by decide) dX12_looks_38 ?_
    refine m_put B f_X12_124 dX12_looks_39 (ms_12 _ _ _) (by decide) ?_
    refine aw_aload_n B 0 rfl dX12_looks_42 rfl ?_
    refine m_get B f_X12_9 dX12_looks_43 (mg_1 _ _) ?_
    refine aw_bipush B 7 (by decide) dX12_looks_46 ?_
    refine m_ld B (7) (rfl) ((by decide)) dX12_looks_48 (by decide) ?_
    rw [show mup A 3 f3 1 7 = nI c from by rw [mup_n (by decide)]; exact e7]
    refine aw_iconst B (-1) (by decide) dX12_looks_49 ?_
    refine aw_icmp_ne B 57 dX12_looks_50 (fun c50 => ?_) (fun c50 => absurd c50 (fun z => by have z := congrArg Int32.toInt z; rw [nI_toInt (by omega), show (-1 : Int32).toInt = -1 by decide] at z; omega))
    refine aw_aload_n B 0 rfl dX12_looks_57 rfl ?_
    refine m_get B f_X12_9 dX12_looks_58 (mg_1 _ _) ?_
    refine aw_sipush B 194 (by decide) dX12_looks_61 ?_
    refine aw_aload_n B 0 rfl dX12_looks_64 rfl ?_
    refine m_get B f_X12_9 dX12_looks_65 (mg_1 _ _) ?_
    refine aw_bipush B 7 (by decide) dX12_looks_68 ?_
    refine m_ld B (7) (rfl) ((by decide)) dX12_looks_70 (by decide) ?_
    rw [show mup A 3 f3 1 7 = nI c from by rw [mup_n (by decide)]; exact e7]
    refine aw_iadd B dX12_looks_71 ?_
    refine m_ld B (194 + c) (ix_c 194 rfl) (by show _ < 899; omega) dX12_looks_72 (by decide) ?_
    rw [show mup A 3 f3 1 (194 + c) = nI Q.length from by rw [mup_n (by decide)]; exact ecnt]
    refine aw_istore2 B dX12_looks_73 ?_
    refine aw_sipush B 199 (by decide) dX12_looks_74 ?_
    refine aw_sipush B 140 (by decide) dX12_looks_77 ?_
    refine aw_aload_n B 0 rfl dX12_looks_80 rfl ?_
    refine m_get B f_X12_9 dX12_looks_81 (mg_1 _ _) ?_
    refine aw_bipush B 7 (by decide) dX12_looks_84 ?_
    refine m_ld B (7) (rfl) ((by decide)) dX12_looks_86 (by decide) ?_
    rw [show mup A 3 f3 1 7 = nI c from by rw [mup_n (by decide)]; exact e7]
    refine aw_imul B dX12_looks_87 ?_
    refine aw_iadd B dX12_looks_88 ?_
    rw [show (140 : Int32) * nI c = nI (140 * c) from pk_mul 140 c, show (199 : Int32) + nI (140 * c) = nI (199 + 140 * c) from nI_add 199 (140 * c)]
    refine aw_istore3 B dX12_looks_89 ?_
    refine aw_iconst B 0 (by decide) dX12_looks_90 ?_
    refine aw_istore4 B dX12_looks_91 ?_
    refine aw_iload_n B 3 rfl dX12_looks_93 rfl ?_
    refine aw_istore5 B dX12_looks_94 ?_
    rw [h4]
    refine AW.weak ?_ (looks_loop h m F A tm Q htm hr B f3 hf3 (199 + 140 * c) (by omega) Q 0 [] 0 0 (A 4) (by simp) ecode hwf (by simp) (fun k hk => absurd hk (by simp)) rfl)
    exact ⟨Or.inr rfl, Or.inr rfl, Or.inr rfl, Or.inr rfl, Or.inr rfl, Or.inr rfl, Or.inl rfl, Or.inl rfl, Or.inl rfl, Or.inl rfl, trivial⟩
