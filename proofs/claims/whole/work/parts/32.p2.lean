def fF (F : Nat → Int32) (c e o : Nat) (s : pst) : Nat → Int32 := fun k => if k = 4 then nI c else if k = 5 then nI s.1 else if k = 6 then nI e else if k = 7 then b2 s.2.1 else if k = 8 then nI o else F k
def cdP (P : pP) (i : Nat) : Int32 := match P[i]? with
  | some q => cd q.1 q.2
  | none => 0
def pS (S : Nat → Int32) (c : Nat) (P : pP) : Nat → Int32 := fun j => if j = 194 + c then nI P.length else if 199 + 140 * c ≤ j ∧ j < 199 + 140 * c + P.length then cdP P (j - (199 + 140 * c)) else S j
/-- the reference while it reads -/
def hP (g : zG) (h : Hp) (m : Nat) (F : Nat → Int32) (A : Nat → Nat → Int32) (c e o : Nat) (s : pst) : Hp := hM g h m (fF F c e o s) (mup A 1 (pS (A 1) c s.2.2))
def tpA (A : Nat → Nat → Int32) : Nat → Int32 := fun i => A 1 (94 + i)
theorem b2_t : ¬ b2 true = 0 := by decide
theorem b2_f : b2 false = 0 := rfl
section ZPAR
variable {X : zX} {cc : ByteArray} {nL : Nat} {own nm : String} {ret : Option FieldType} {rc rs pc : Nat} {lv : List (Option Value)} {st : List Value} {h : Hp} {Ko : Option Value → Hp → Prop} {m : Nat} {F : Nat → Int32} {A : Nat → Nat → Int32} {c e o : Nat} {s : pst} {g : zG}
theorem hP_o : (hP g h m F A c e o s).2 m = some (.inr (12, mflds m (fF F c e o s))) := hM_o
theorem pv_4 : (mflds m (fF F c e o s))[4]? = some (.int (nI c)) := rfl
theorem pv_5 : (mflds m (fF F c e o s))[5]? = some (.int (nI s.1)) := rfl
theorem pv_6 : (mflds m (fF F c e o s))[6]? = some (.int (nI e)) := rfl
theorem pv_7 : (mflds m (fF F c e o s))[7]? = some (.int (b2 s.2.1)) := rfl
theorem pv_8 : (mflds m (fF F c e o s))[8]? = some (.int (nI o)) := rfl
theorem fF_5 {k : Nat} : upd (fF F c e o s) 5 (nI k) = fF F c e o (k, s.2) := by
  funext j; unfold upd fF
  by_cases h : j = 5
  · subst h; rfl
  · simp only [if_neg h]
theorem fF_7 {b : Bool} : upd (fF F c e o s) 7 (b2 b) = fF F c e o (s.1, b, s.2.2) := by
  funext j; unfold upd fF
  by_cases h : j = 7
  · subst h; rfl
  · simp only [if_neg h]
theorem fF_8 {k : Nat} : upd (fF F c e o s) 8 (nI k) = fF F c e k s := by
  funext j; unfold upd fF
  by_cases h : j = 8
  · subst h; rfl
  · simp only [if_neg h]
theorem p_get (B : zB X cc nL own nm ret) {idx k : Nat} {fin dec : Bool} {ty : FieldType} {v : Value} (Fl : zFL own idx 12 k fin dec ty) (hd : decode cc pc = .ok (.getfield idx, 3)) (hv : (mflds m (fF F c e o s))[k]? = some v) (kk : AW X rc rs (pc + 3) lv (v :: st) (hP (zXg X) h m F A c e o s) Ko) : AW X rc rs pc lv (.ref m :: st) (hP (zXg X) h m F A c e o s) Ko := m_get B Fl hd hv kk
theorem p_put5 (B : zB X cc nL own nm ret) {idx : Nat} {dec : Bool} {x : Int32} (Fl : zFL own idx 12 5 false dec .int) (k : Nat) (hx : x = nI k) (hd : decode cc pc = .ok (.putfield idx, 3)) (kk : AW X rc rs (pc + 3) lv st (hP (zXg X) h m F A c e o (k, s.2)) Ko) : AW X rc rs pc lv (.int x :: .ref m :: st) (hP (zXg X) h m F A c e o s) Ko := by
  subst hx
  refine m_put B Fl hd (ms_5 _ _ _) (by decide) ?_
  rw [fF_5]; exact kk
theorem p_put7 (B : zB X cc nL own nm ret) {idx : Nat} {dec : Bool} {x : Int32} (Fl : zFL own idx 12 7 false dec .boolean) (b : Bool) (hx : x = b2 b) (hd : decode cc pc = .ok (.putfield idx, 3)) (kk : AW X rc rs (pc + 3) lv st (hP (zXg X) h m F A c e o (s.1, b, s.2.2)) Ko) : AW X rc rs pc lv (.int x :: .ref m :: st) (hP (zXg X) h m F A c e o s) Ko := by
  subst hx
  refine m_putz B Fl (b2_01 b) hd (ms_7 _ _ _) (by decide) ?_
  rw [fF_7]; exact kk
theorem p_put8 (B : zB X cc nL own nm ret) {idx : Nat} {dec : Bool} {x : Int32} (Fl : zFL own idx 12 8 false dec .int) (k : Nat) (hx : x = nI k) (hd : decode cc pc = .ok (.putfield idx, 3)) (kk : AW X rc rs (pc + 3) lv st (hP (zXg X) h m F A c e k s) Ko) : AW X rc rs pc lv (.int x :: .ref m :: st) (hP (zXg X) h m F A c e o s) Ko := by
  subst hx
  refine m_put B Fl hd (ms_8 _ _ _) (by decide) ?_
  rw [fF_8]; exact kk
theorem p_ld (B : zB X cc nL own nm ret) {i v : Int32} (q : Nat) (e0 : i = nI q) (hb : q < 899) (hv : pS (A 1) c s.2.2 q = v) (hd : decode cc pc = .ok (.iaload, 1)) (kk : AW X rc rs (pc + 1) lv (.int v :: st) (hP (zXg X) h m F A c e o s) Ko) : AW X rc rs pc lv (.int i :: .ref (m + 1) :: st) (hP (zXg X) h m F A c e o s) Ko := by
  refine m_ld (j := 1) B q e0 hb hd (by decide) ?_
  rw [show mup A 1 (pS (A 1) c s.2.2) 1 q = v from by rw [mup_s]; exact hv]
  exact kk
theorem pS_lo {S : Nat → Int32} {P : pP} {j : Nat} (hj : j < 194) : pS S c P j = S j := by
  unfold pS
  rw [if_neg (by omega), if_neg (by omega)]
theorem pS_n {S : Nat → Int32} {P : pP} : pS S c P (194 + c) = nI P.length := by unfold pS; rw [if_pos rfl]
theorem pS_em {S : Nat → Int32} {P : pP} {x : Nat × Nat} (hc : c < 5) : upd (upd (pS S c P) (199 + 140 * c + P.length) (cd x.1 x.2)) (194 + c) (nI (P.length + 1)) = pS S c (P ++ [x]) := by
  funext j
  unfold upd pS
  by_cases h1 : j = 194 + c
  · rw [if_pos h1, if_pos h1, List.length_append]; rfl
  · rw [if_neg h1, if_neg h1]
    by_cases h2 : j = 199 + 140 * c + P.length
    · rw [if_pos h2, if_neg h1, if_pos (by rw [List.length_append]; exact ⟨by omega, by show j < _ + (P.length + 1); omega⟩)]
      unfold cdP
      rw [show j - (199 + 140 * c) = P.length by omega, List.getElem?_append_right (Nat.le_refl _), Nat.sub_self]
      rfl
    · rw [if_neg h2, if_neg h1]
      by_cases h3 : 199 + 140 * c ≤ j ∧ j < 199 + 140 * c + P.length
      · rw [if_pos h3, if_pos (by rw [List.length_append]; exact ⟨h3.1, by show j < _ + (P.length + 1); omega⟩)]
        unfold cdP
        rw [List.getElem?_append_left (by omega)]
      · rw [if_neg h3, if_neg (by rw [List.length_append]; show ¬ (_ ∧ j < _ + (P.length + 1)); omega)]
theorem dg_1 (d : Nat) : (10 : Int32) * 0 + nI (48 + d) - 48 = nI d := by
  rw [show nI (48 + d) = nI 48 + nI d from (nI_add 48 d).symm, show (10 : Int32) * 0 = 0 by decide, Int32.zero_add, Int32.add_comm, show (48 : Int32) = nI 48 from rfl, Int32.add_sub_cancel]
theorem dg_2 (d d' : Nat) : (10 : Int32) * nI d + nI (48 + d') - 48 = nI (10 * d + d') := by
  rw [show (10 : Int32) * nI d = nI (10 * d) from pk_mul 10 d, show nI (48 + d') = nI d' + nI 48 from by rw [nI_add, Nat.add_comm], ← Int32.add_assoc, show (48 : Int32) = nI 48 from rfl, Int32.add_sub_cancel, nI_add]
end ZPAR
theorem dX12_here_0 : decode cX12_here 0 = .ok (.aload_n 0, 1) := by decide +kernel
theorem dX12_here_1 : decode cX12_here 1 = .ok (.getfield 48, 3) := by decide +kernel
theorem dX12_here_4 : decode cX12_here 4 = .ok (.aload_n 0, 1) := by decide +kernel
theorem dX12_here_5 : decode cX12_here 5 = .ok (.getfield 51, 3) := by decide +kernel
theorem dX12_here_8 : decode cX12_here 8 = .ok (.if_icmp .ge 18, 3) := by decide +kernel
theorem dX12_here_11 : decode cX12_here 11 = .ok (.aload_n 0, 1) := by decide +kernel
theorem dX12_here_12 : decode cX12_here 12 = .ok (.getfield 9, 3) := by decide +kernel
theorem dX12_here_15 : decode cX12_here 15 = .ok (.bipush 94, 2) := by decide +kernel
theorem dX12_here_17 : decode cX12_here 17 = .ok (.aload_n 0, 1) := by decide +kernel
theorem dX12_here_18 : decode cX12_here 18 = .ok (.getfield 48, 3) := by decide +kernel
theorem dX12_here_21 : decode cX12_here 21 = .ok (.iadd, 1) := by decide +kernel
theorem dX12_here_22 : decode cX12_here 22 = .ok (.iaload, 1) := by decide +kernel
theorem dX12_here_23 : decode cX12_here 23 = .ok (.goto 4, 3) := by decide +kernel
theorem dX12_here_26 : decode cX12_here 26 = .ok (.iconst (-1), 1) := by decide +kernel
theorem dX12_here_27 : decode cX12_here 27 = .ok (.ireturn, 1) := by decide +kernel
set_option maxRecDepth 100000 in
set_option maxHeartbeats 4000000 in
theorem s_here (l : Launch) (g : zG) (h : Hp) (m : Nat) (F : Nat → Int32) (A : Nat → Nat → Int32) (c e o : Nat) (s : pst) (he : e ≤ 100) (hs : s.1 ≤ e) : Sp l g yX12_here cX12_here 1 (some .int) (rmz 1) [.ref m] (hP g h m F A c e o s) (zI fun r h' => r = hre (tpA A) e s ∧ h' = hP g h m F A c e o s) := by
  refine Sp.of [some (.ref m)] (by decide) (Nat.le_of_ble_eq_true rfl) rfl rfl ?_
  rintro X rfl hr rfl B
  show AW X 0 0 0 _ _ _ _
  refine aw_aload_n B 0 rfl dX12_here_0 rfl ?_
  refine p_get B f_X12_48 dX12_here_1 (pv_5) ?_
  refine aw_aload_n B 0 rfl dX12_here_4 rfl ?_
  refine p_get B f_X12_51 dX12_here_5 (pv_6) ?_
  refine aw_icmp_ge B 26 dX12_here_8 (fun c8 => ?_) (fun c8 => ?_)
  · refine aw_iconst B (-1) (by decide) dX12_here_26 ?_
    refine aw_iret B rfl rfl dX12_here_27 ?_
    exact ⟨_, rfl, by unfold hre; rw [if_neg (by have := (nI_leI (by omega) (by omega)).mp c8; omega)], rfl⟩
  · have hlt : s.1 < e := Nat.not_le.mp fun z => c8 (nI_le z (by omega))
    refine aw_aload_n B 0 rfl dX12_here_11 rfl ?_
    refine p_get B f_X12_9 dX12_here_12 (mg_1 _ _) ?_
    refine aw_bipush B 94 (by decide) dX12_here_15 ?_
    refine aw_aload_n B 0 rfl dX12_here_17 rfl ?_
    refine p_get B f_X12_48 dX12_here_18 (pv_5) ?_
    refine aw_iadd B dX12_here_21 ?_
    refine p_ld B (94 + s.1) (nI_add 94 s.1) (by omega) (pS_lo (by omega)) dX12_here_22 ?_
    refine aw_goto B 27 dX12_here_23 ?_
    refine aw_iret B rfl rfl dX12_here_27 ?_
    exact ⟨_, rfl, by unfold hre; rw [if_pos hlt]; rfl, rfl⟩
theorem dX12_must_0 : decode cX12_must 0 = .ok (.aload_n 0, 1) := by decide +kernel
theorem dX12_must_1 : decode cX12_must 1 = .ok (.aload_n 0, 1) := by decide +kernel
theorem dX12_must_2 : decode cX12_must 2 = .ok (.getfield 54, 3) := by decide +kernel
theorem dX12_must_5 : decode cX12_must 5 = .ok (.ifCond .ne 11, 3) := by decide +kernel
theorem dX12_must_8 : decode cX12_must 8 = .ok (.aload_n 0, 1) := by decide +kernel
theorem dX12_must_9 : decode cX12_must 9 = .ok (.invokevirtual 58, 3) := by decide +kernel
theorem dX12_must_12 : decode cX12_must 12 = .ok (.iload_n 1, 1) := by decide +kernel
theorem dX12_must_13 : decode cX12_must 13 = .ok (.if_icmp .eq 7, 3) := by decide +kernel
theorem dX12_must_16 : decode cX12_must 16 = .ok (.iconst 1, 1) := by decide +kernel
theorem dX12_must_17 : decode cX12_must 17 = .ok (.goto 4, 3) := by decide +kernel
theorem dX12_must_20 : decode cX12_must 20 = .ok (.iconst 0, 1) := by decide +kernel
theorem dX12_must_21 : decode cX12_must 21 = .ok (.putfield 54, 3) := by decide +kernel
theorem dX12_must_24 : decode cX12_must 24 = .ok (.aload_n 0, 1) := by decide +kernel
theorem dX12_must_25 : decode cX12_must 25 = .ok (.dup, 1) := by decide +kernel
theorem dX12_must_26 : decode cX12_must 26 = .ok (.getfield 48, 3) := by decide +kernel
theorem dX12_must_29 : decode cX12_must 29 = .ok (.aload_n 0, 1) := by decide +kernel
theorem dX12_must_30 : decode cX12_must 30 = .ok (.getfield 54, 3) := by decide +kernel
theorem dX12_must_33 : decode cX12_must 33 = .ok (.ifCond .eq 7, 3) := by decide +kernel
theorem dX12_must_36 : decode cX12_must 36 = .ok (.iconst 0, 1) := by decide +kernel
theorem dX12_must_37 : decode cX12_must 37 = .ok (.goto 4, 3) := by decide +kernel
theorem dX12_must_40 : decode cX12_must 40 = .ok (.iconst 1, 1) := by decide +kernel
theorem dX12_must_41 : decode cX12_must 41 = .ok (.iadd, 1) := by decide +kernel
theorem dX12_must_42 : decode cX12_must 42 = .ok (.putfield 48, 3) := by decide +kernel
theorem dX12_must_45 : decode cX12_must 45 = .ok (.return_, 1) := by decide +kernel
set_option maxRecDepth 100000 in
set_option maxHeartbeats 4000000 in
theorem s_must (l : Launch) (g : zG) (h : Hp) (m : Nat) (F : Nat → Int32) (A : Nat → Nat → Int32) (c e o : Nat) (p : Nat) (w : Bool) (P : pP) (x : Int32) (he : e ≤ 100) (hs : p ≤ e) : Sp l g yX12_must cX12_must 2 none (rmz 2) [.ref m, .int x] (hP g h m F A c e o (p, w, P)) (zV fun h' => h' = hP g h m F A c e o (mustP (tpA A) e x (p, w, P))) := by
  refine Sp.of [some (.ref m), some (.int x)] (by decide) (Nat.le_of_ble_eq_true rfl) rfl rfl ?_
  rintro X rfl hr rfl B
  show AW X 0 0 0 _ _ _ _
  cases w with
  | true =>
    refine aw_aload_n B 0 rfl dX12_must_0 rfl ?_
    refine aw_aload_n B 0 rfl dX12_must_1 rfl ?_
    refine p_get B f_X12_54 dX12_must_2 (pv_7) ?_
    refine aw_if_ne B 16 dX12_must_5 (fun c5 => ?_) (fun c5 => absurd c5 b2_t)
    refine aw_iconst B 1 (by decide) dX12_must_16 ?_
    refine aw_goto B 21 dX12_must_17 ?_
    refine p_put7 B f_X12_54 (true) (rfl) dX12_must_21 ?_
    refine aw_aload_n B 0 rfl dX12_must_24 rfl ?_
    refine aw_dup B rfl dX12_must_25 ?_
    refine p_get B f_X12_48 dX12_must_26 (pv_5) ?_
    refine aw_aload_n B 0 rfl dX12_must_29 rfl ?_
    refine p_get B f_X12_54 dX12_must_30 (pv_7) ?_
    refine aw_if_eq B 40 dX12_must_33 (fun c33 => absurd c33 b2_t) (fun c33 => ?_)
    refine aw_iconst B 0 (by decide) dX12_must_36 ?_
    refine aw_goto B 41 dX12_must_37 ?_
    refine aw_iadd B dX12_must_41 ?_
    refine p_put5 B f_X12_48 (p) (Int32.add_zero _) dX12_must_42 ?_
    refine aw_vret B rfl dX12_must_45 ?_
    exact ⟨rfl, rfl⟩
  | false =>
    refine aw_aload_n B 0 rfl dX12_must_0 rfl ?_
    refine aw_aload_n B 0 rfl dX12_must_1 rfl ?_
    refine p_get B f_X12_54 dX12_must_2 (pv_7) ?_
    refine aw_if_ne B 16 dX12_must_5 (fun c5 => absurd b2_f c5) (fun c5 => ?_)
    refine aw_aload_n B 0 rfl dX12_must_8 rfl ?_
    refine aw_callV B 0 0 (s_here _ _ _ _ _ _ c e _ (p, false, P) he hs) co_X12_here k_X12_58 dX12_must_9 hP_o rfl rfl rfl rfl (Nat.le_of_ble_eq_true rfl) (zrm hr (by omega)) (Nat.le_refl _) (Nat.le_refl _) (kI fun r9 h9 hp9 => ?_)
    obtain ⟨rfl, rfl⟩ := hp9
    refine aw_iload_n B 1 rfl dX12_must_12 rfl ?_
    refine aw_icmp_eq B 20 dX12_must_13 (fun c13 => ?_) (fun c13 => ?_)
    · refine aw_iconst B 0 (by decide) dX12_must_20 ?_
      refine p_put7 B f_X12_54 (false) (rfl) dX12_must_21 ?_
      refine aw_aload_n B 0 rfl dX12_must_24 rfl ?_
      refine aw_dup B rfl dX12_must_25 ?_
      refine p_get B f_X12_48 dX12_must_26 (pv_5) ?_
      refine aw_aload_n B 0 rfl dX12_must_29 rfl ?_
      refine p_get B f_X12_54 dX12_must_30 (pv_7) ?_
      refine aw_if_eq B 40 dX12_must_33 (fun c33 => ?_) (fun c33 => absurd b2_f c33)
      refine aw_iconst B 1 (by decide) dX12_must_40 ?_
      refine aw_iadd B dX12_must_41 ?_
      refine p_put5 B f_X12_48 (p + 1) (nI_1 p) dX12_must_42 ?_
      refine aw_vret B rfl dX12_must_45 ?_
      exact ⟨rfl, by unfold mustP; rw [if_neg Bool.false_ne_true, if_pos c13]; rfl⟩
    · refine aw_iconst B 1 (by decide) dX12_must_16 ?_
      refine aw_goto B 21 dX12_must_17 ?_
      refine p_put7 B f_X12_54 (true) (rfl) dX12_must_21 ?_
      refine aw_aload_n B 0 rfl dX12_must_24 rfl ?_
      refine aw_dup B rfl dX12_must_25 ?_
      refine p_get B f_X12_48 dX12_must_26 (pv_5) ?_
      refine aw_aload_n B 0 rfl dX12_must_29 rfl ?_
      refine p_get B f_X12_54 dX12_must_30 (pv_7) ?_
      refine aw_if_eq B 40 dX12_must_33 (fun c33 => absurd c33 b2_t) (fun c33 => ?_)
      refine aw_iconst B 0 (by decide) dX12_must_36 ?_
      refine aw_goto B 41 dX12_must_37 ?_
      refine aw_iadd B dX12_must_41 ?_
      refine p_put5 B f_X12_48 (p) (Int32.add_zero _) dX12_must_42 ?_
      refine aw_vret B rfl dX12_must_45 ?_
      exact ⟨rfl, by unfold mustP; rw [if_neg Bool.false_ne_true, if_neg c13]; rfl⟩
theorem dX12_figures_0 : decode cX12_figures 0 = .ok (.aload_n 0, 1) := by decide +kernel
theorem dX12_figures_1 : decode cX12_figures 1 = .ok (.aload_n 0, 1) := by decide +kernel
theorem dX12_figures_2 : decode cX12_figures 2 = .ok (.getfield 54, 3) := by decide +kernel
theorem dX12_figures_5 : decode cX12_figures 5 = .ok (.ifCond .ne 17, 3) := by decide +kernel
theorem dX12_figures_8 : decode cX12_figures 8 = .ok (.aload_n 0, 1) := by decide +kernel
theorem dX12_figures_9 : decode cX12_figures 9 = .ok (.invokevirtual 58, 3) := by decide +kernel
theorem dX12_figures_12 : decode cX12_figures 12 = .ok (.bipush 48, 2) := by decide +kernel
theorem dX12_figures_14 : decode cX12_figures 14 = .ok (.bipush 57, 2) := by decide +kernel
theorem dX12_figures_16 : decode cX12_figures 16 = .ok (.invokestatic 44, 3) := by decide +kernel
theorem dX12_figures_19 : decode cX12_figures 19 = .ok (.ifCond .ne 7, 3) := by decide +kernel
theorem dX12_figures_22 : decode cX12_figures 22 = .ok (.iconst 1, 1) := by decide +kernel
theorem dX12_figures_23 : decode cX12_figures 23 = .ok (.goto 4, 3) := by decide +kernel
theorem dX12_figures_26 : decode cX12_figures 26 = .ok (.iconst 0, 1) := by decide +kernel
theorem dX12_figures_27 : decode cX12_figures 27 = .ok (.putfield 54, 3) := by decide +kernel
theorem dX12_figures_30 : decode cX12_figures 30 = .ok (.iconst 0, 1) := by decide +kernel
theorem dX12_figures_31 : decode cX12_figures 31 = .ok (.istore_n 1, 1) := by decide +kernel
theorem dX12_figures_32 : decode cX12_figures 32 = .ok (.iconst 0, 1) := by decide +kernel
theorem dX12_figures_33 : decode cX12_figures 33 = .ok (.istore_n 2, 1) := by decide +kernel
theorem dX12_figures_34 : decode cX12_figures 34 = .ok (.iload_n 2, 1) := by decide +kernel
theorem dX12_figures_35 : decode cX12_figures 35 = .ok (.iconst 2, 1) := by decide +kernel
theorem dX12_figures_36 : decode cX12_figures 36 = .ok (.if_icmp .ge 61, 3) := by decide +kernel
theorem dX12_figures_39 : decode cX12_figures 39 = .ok (.aload_n 0, 1) := by decide +kernel
theorem dX12_figures_40 : decode cX12_figures 40 = .ok (.getfield 54, 3) := by decide +kernel
theorem dX12_figures_43 : decode cX12_figures 43 = .ok (.ifCond .ne 54, 3) := by decide +kernel
theorem dX12_figures_46 : decode cX12_figures 46 = .ok (.aload_n 0, 1) := by decide +kernel
theorem dX12_figures_47 : decode cX12_figures 47 = .ok (.invokevirtual 58, 3) := by decide +kernel
theorem dX12_figures_50 : decode cX12_figures 50 = .ok (.bipush 48, 2) := by decide +kernel
theorem dX12_figures_52 : decode cX12_figures 52 = .ok (.bipush 57, 2) := by decide +kernel
theorem dX12_figures_54 : decode cX12_figures 54 = .ok (.invokestatic 44, 3) := by decide +kernel
theorem dX12_figures_57 : decode cX12_figures 57 = .ok (.ifCond .eq 40, 3) := by decide +kernel
theorem dX12_figures_60 : decode cX12_figures 60 = .ok (.iload_n 2, 1) := by decide +kernel
theorem dX12_figures_61 : decode cX12_figures 61 = .ok (.ifCond .eq 7, 3) := by decide +kernel
theorem dX12_figures_64 : decode cX12_figures 64 = .ok (.iload_n 1, 1) := by decide +kernel
theorem dX12_figures_65 : decode cX12_figures 65 = .ok (.ifCond .le 32, 3) := by decide +kernel
theorem dX12_figures_68 : decode cX12_figures 68 = .ok (.bipush 10, 2) := by decide +kernel
theorem dX12_figures_70 : decode cX12_figures 70 = .ok (.iload_n 1, 1) := by decide +kernel
theorem dX12_figures_71 : decode cX12_figures 71 = .ok (.imul, 1) := by decide +kernel
theorem dX12_figures_72 : decode cX12_figures 72 = .ok (.aload_n 0, 1) := by decide +kernel
theorem dX12_figures_73 : decode cX12_figures 73 = .ok (.invokevirtual 58, 3) := by decide +kernel
theorem dX12_figures_76 : decode cX12_figures 76 = .ok (.iadd, 1) := by decide +kernel
theorem dX12_figures_77 : decode cX12_figures 77 = .ok (.bipush 48, 2) := by decide +kernel
theorem dX12_figures_79 : decode cX12_figures 79 = .ok (.isub, 1) := by decide +kernel
theorem dX12_figures_80 : decode cX12_figures 80 = .ok (.istore_n 1, 1) := by decide +kernel
theorem dX12_figures_81 : decode cX12_figures 81 = .ok (.aload_n 0, 1) := by decide +kernel
theorem dX12_figures_82 : decode cX12_figures 82 = .ok (.dup, 1) := by decide +kernel
theorem dX12_figures_83 : decode cX12_figures 83 = .ok (.getfield 48, 3) := by decide +kernel
theorem dX12_figures_86 : decode cX12_figures 86 = .ok (.iconst 1, 1) := by decide +kernel
theorem dX12_figures_87 : decode cX12_figures 87 = .ok (.iadd, 1) := by decide +kernel
theorem dX12_figures_88 : decode cX12_figures 88 = .ok (.putfield 48, 3) := by decide +kernel
theorem dX12_figures_91 : decode cX12_figures 91 = .ok (.iinc 2 1, 3) := by decide +kernel
theorem dX12_figures_94 : decode cX12_figures 94 = .ok (.goto (-60), 3) := by decide +kernel
theorem dX12_figures_97 : decode cX12_figures 97 = .ok (.iload_n 1, 1) := by decide +kernel
theorem dX12_figures_98 : decode cX12_figures 98 = .ok (.ireturn, 1) := by decide +kernel
set_option maxRecDepth 100000 in
set_option maxHeartbeats 4000000 in
theorem s_figures (l : Launch) (g : zG) (h : Hp) (m : Nat) (F : Nat → Int32) (A : Nat → Nat → Int32) (c e o : Nat) (p : Nat) (w : Bool) (P : pP) (he : e ≤ 100) (hs : p ≤ e) : Sp l g yX12_figures cX12_figures 3 (some .int) (rmz 2) [.ref m] (hP g h m F A c e o (p, w, P)) (zI fun r h' => r = nI (figP (tpA A) e (p, w, P)).1 ∧ h' = hP g h m F A c e o (figP (tpA A) e (p, w, P)).2) := by
  refine Sp.of [some (.ref m), none, none] (by decide) (Nat.le_of_ble_eq_true rfl) rfl rfl ?_
  rintro X rfl hr rfl B
  show AW X 0 0 0 _ _ _ _
  cases w with
  | true =>
    refine aw_aload_n B 0 rfl dX12_figures_0 rfl ?_
    refine aw_aload_n B 0 rfl dX12_figures_1 rfl ?_
    refine p_get B f_X12_54 dX12_figures_2 (pv_7) ?_
    refine aw_if_ne B 22 dX12_figures_5 (fun c5 => ?_) (fun c5 => absurd c5 b2_t)
    refine aw_iconst B 1 (by decide) dX12_figures_22 ?_
    refine aw_goto B 27 dX12_figures_23 ?_
    refine p_put7 B f_X12_54 (true) (rfl) dX12_figures_27 ?_
    refine aw_iconst B 0 (by decide) dX12_figures_30 ?_
    refine aw_istore1 B dX12_figures_31 ?_
    refine aw_iconst B 0 (by decide) dX12_figures_32 ?_
    refine aw_istore2 B dX12_figures_33 ?_
    refine aw_iload_n B 2 rfl dX12_figures_34 rfl ?_
    refine aw_iconst B 2 (by decide) dX12_figures_35 ?_
    refine aw_icmp_ge B 97 dX12_figures_36 (fun c36 => absurd c36 (by decide)) (fun c36 => ?_)
    refine aw_aload_n B 0 rfl dX12_figures_39 rfl ?_
    refine p_get B f_X12_54 dX12_figures_40 (pv_7) ?_
    refine aw_if_ne B 97 dX12_figures_43 (fun c43 => ?_) (fun c43 => absurd c43 b2_t)
    refine aw_iload_n B 1 rfl dX12_figures_97 rfl ?_
    refine aw_iret B rfl rfl dX12_figures_98 ?_
    exact ⟨_, rfl, rfl, rfl⟩
  | false =>
    refine aw_aload_n B 0 rfl dX12_figures_0 rfl ?_
    refine aw_aload_n B 0 rfl dX12_figures_1 rfl ?_
    refine p_get B f_X12_54 dX12_figures_2 (pv_7) ?_
    refine aw_if_ne B 22 dX12_figures_5 (fun c5 => absurd b2_f c5) (fun c5 => ?_)
    refine aw_aload_n B 0 rfl dX12_figures_8 rfl ?_
    refine aw_callV B 0 0 (s_here _ _ _ _ _ _ c e _ (p, false, P) he hs) co_X12_here k_X12_58 dX12_figures_9 hP_o rfl rfl rfl rfl (Nat.le_of_ble_eq_true rfl) (zrm hr (by omega)) (Nat.le_refl _) (Nat.le_refl _) (kI fun r9 h9 hp9 => ?_)
    obtain ⟨rfl, rfl⟩ := hp9
    refine aw_bipush B 48 (by decide) dX12_figures_12 ?_
    refine aw_bipush B 57 (by decide) dX12_figures_14 ?_
    refine aw_callS B 0 0 (s_in _ _ _ _ _ _) co_X12_in k_X12_44 dX12_figures_16 rfl rfl (Nat.le_of_ble_eq_true rfl) (zrm hr (by omega)) (Nat.le_refl _) (Nat.le_refl _) (kI fun r16 h16 hp16 => ?_)
    obtain ⟨rfl, rfl⟩ := hp16
    refine aw_if_ne B 26 dX12_figures_19 (fun c19 => ?_) (fun c19 => ?_)
    · refine aw_iconst B 0 (by decide) dX12_figures_26 ?_
      refine p_put7 B f_X12_54 (false) (rfl) dX12_figures_27 ?_
      refine aw_iconst B 0 (by decide) dX12_figures_30 ?_
      refine aw_istore1 B dX12_figures_31 ?_
      refine aw_iconst B 0 (by decide) dX12_figures_32 ?_
      refine aw_istore2 B dX12_figures_33 ?_
      obtain ⟨k, hk, ek, edv⟩ := isD_c c19
      have hlt := dig_lt c19
      have hlt : p < e := hlt
      refine aw_iload_n B 2 rfl dX12_figures_34 rfl ?_
      refine aw_iconst B 2 (by decide) dX12_figures_35 ?_
      refine aw_icmp_ge B 97 dX12_figures_36 (fun c36 => absurd c36 (by decide)) (fun c36 => ?_)
      refine aw_aload_n B 0 rfl dX12_figures_39 rfl ?_
      refine p_get B f_X12_54 dX12_figures_40 (pv_7) ?_
      refine aw_if_ne B 97 dX12_figures_43 (fun c43 => absurd b2_f c43) (fun c43 => ?_)
      refine aw_aload_n B 0 rfl dX12_figures_46 rfl ?_
      refine aw_callV B 0 0 (s_here _ _ _ _ _ _ c e _ (p, false, P) he hs) co_X12_here k_X12_58 dX12_figures_47 hP_o rfl rfl rfl rfl (Nat.le_of_ble_eq_true rfl) (zrm hr (by omega)) (Nat.le_refl _) (Nat.le_refl _) (kI fun r47 h47 hp47 => ?_)
      obtain ⟨rfl, rfl⟩ := hp47
      refine aw_bipush B 48 (by decide) dX12_figures_50 ?_
      refine aw_bipush B 57 (by decide) dX12_figures_52 ?_
      refine aw_callS B 0 0 (s_in _ _ _ _ _ _) co_X12_in k_X12_44 dX12_figures_54 rfl rfl (Nat.le_of_ble_eq_true rfl) (zrm hr (by omega)) (Nat.le_refl _) (Nat.le_refl _) (kI fun r54 h54 hp54 => ?_)
      obtain ⟨rfl, rfl⟩ := hp54
      refine aw_if_eq B 97 dX12_figures_57 (fun c57 => absurd c57 c19) (fun c57 => ?_)
      refine aw_iload_n B 2 rfl dX12_figures_60 rfl ?_
      refine aw_if_eq B 68 dX12_figures_61 (fun c61 => ?_) (fun c61 => absurd rfl c61)
      refine aw_bipush B 10 (by decide) dX12_figures_68 ?_
      refine aw_iload_n B 1 rfl dX12_figures_70 rfl ?_
      refine aw_imul B dX12_figures_71 ?_
      refine aw_aload_n B 0 rfl dX12_figures_72 rfl ?_
      refine aw_callV B 0 0 (s_here _ _ _ _ _ _ c e _ (p, false, P) he hs) co_X12_here k_X12_58 dX12_figures_73 hP_o rfl rfl rfl rfl (Nat.le_of_ble_eq_true rfl) (zrm hr (by omega)) (Nat.le_refl _) (Nat.le_refl _) (kI fun r73 h73 hp73 => ?_)
      obtain ⟨rfl, rfl⟩ := hp73
      refine aw_iadd B dX12_figures_76 ?_
      refine aw_bipush B 48 (by decide) dX12_figures_77 ?_
      refine aw_isub B dX12_figures_79 ?_
      rw [ek, dg_1 k]
      refine aw_istore1 B dX12_figures_80 ?_
      refine aw_aload_n B 0 rfl dX12_figures_81 rfl ?_
      refine aw_dup B rfl dX12_figures_82 ?_
      refine p_get B f_X12_48 dX12_figures_83 (pv_5) ?_
      refine aw_iconst B 1 (by decide) dX12_figures_86 ?_
      refine aw_iadd B dX12_figures_87 ?_
      refine p_put5 B f_X12_48 (p + 1) (nI_1 p) dX12_figures_88 ?_
      refine aw_iinc2 B 1 (by decide) dX12_figures_91 ?_
      refine aw_goto B 34 dX12_figures_94 ?_
      refine aw_iload_n B 2 rfl dX12_figures_34 rfl ?_
      refine aw_iconst B 2 (by decide) dX12_figures_35 ?_
      refine aw_icmp_ge B 97 dX12_figures_36 (fun c36 => absurd c36 (by decide)) (fun c36 => ?_)
      refine aw_aload_n B 0 rfl dX12_figures_39 rfl ?_
      refine p_get B f_X12_54 dX12_figures_40 (pv_7) ?_
      refine aw_if_ne B 97 dX12_figures_43 (fun c43 => absurd b2_f c43) (fun c43 => ?_)
      refine aw_aload_n B 0 rfl dX12_figures_46 rfl ?_
      refine aw_callV B 0 0 (s_here _ _ _ _ _ _ c e _ (p + 1, false, P) he hlt) co_X12_here k_X12_58 dX12_figures_47 hP_o rfl rfl rfl rfl (Nat.le_of_ble_eq_true rfl) (zrm hr (by omega)) (Nat.le_refl _) (Nat.le_refl _) (kI fun r47 h47 hp47 => ?_)
      obtain ⟨rfl, rfl⟩ := hp47
      refine aw_bipush B 48 (by decide) dX12_figures_50 ?_
      refine aw_bipush B 57 (by decide) dX12_figures_52 ?_
      refine aw_callS B 0 0 (s_in _ _ _ _ _ _) co_X12_in k_X12_44 dX12_figures_54 rfl rfl (Nat.le_of_ble_eq_true rfl) (zrm hr (by omega)) (Nat.le_refl _) (Nat.le_refl _) (kI fun r54 h54 hp54 => ?_)
      obtain ⟨rfl, rfl⟩ := hp54
      refine aw_if_eq B 97 dX12_figures_57 (fun c57 => ?_) (fun c57 => ?_)
      · refine aw_iload_n B 1 rfl dX12_figures_97 rfl ?_
        refine aw_iret B rfl rfl dX12_figures_98 ?_
        by_cases hk0 : k = 0
        · exact ⟨_, rfl, by unfold figP; rw [if_neg Bool.false_ne_true, if_neg c19, edv, if_pos hk0], by unfold figP; rw [if_neg Bool.false_ne_true, if_neg c19, edv, if_pos hk0]; rfl⟩
        · exact ⟨_, rfl, by unfold figP; rw [if_neg Bool.false_ne_true, if_neg c19, edv, if_neg hk0, if_pos (show bI (48 ≤ hre (tpA A) e (adv (p, false, P)) ∧ hre (tpA A) e (adv (p, false, P)) ≤ 57) = 0 from c57)], by unfold figP; rw [if_neg Bool.false_ne_true, if_neg c19, edv, if_neg hk0, if_pos (show bI (48 ≤ hre (tpA A) e (adv (p, false, P)) ∧ hre (tpA A) e (adv (p, false, P)) ≤ 57) = 0 from c57)]; rfl⟩
      · refine aw_iload_n B 2 rfl dX12_figures_60 rfl ?_
        refine aw_if_eq B 68 dX12_figures_61 (fun c61 => absurd c61 (by decide)) (fun c61 => ?_)
        refine aw_iload_n B 1 rfl dX12_figures_64 rfl ?_
        refine aw_if_le B 97 dX12_figures_65 (fun c65 => ?_) (fun c65 => ?_)
        · refine aw_iload_n B 1 rfl dX12_figures_97 rfl ?_
          refine aw_iret B rfl rfl dX12_figures_98 ?_
          have hk0 : k = 0 := by
            rcases Nat.eq_zero_or_pos k with z | z
            · exact z
            · exact absurd c65 (Int32.not_le.mpr (nI_lt (a := 0) z (by omega)))
          exact ⟨_, rfl, by unfold figP; rw [if_neg Bool.false_ne_true, if_neg c19, edv, if_pos hk0], by unfold figP; rw [if_neg Bool.false_ne_true, if_neg c19, edv, if_pos hk0]; rfl⟩
        · have hk0 : ¬ k = 0 := fun z => c65 (by rw [z]; decide)
          obtain ⟨k2, hk2, ek2, edv2⟩ := isD_c c57
          have hlt2 : p + 1 < e := dig_lt c57
          refine aw_bipush B 10 (by decide) dX12_figures_68 ?_
          refine aw_iload_n B 1 rfl dX12_figures_70 rfl ?_
          refine aw_imul B dX12_figures_71 ?_
          refine aw_aload_n B 0 rfl dX12_figures_72 rfl ?_
          refine aw_callV B 0 0 (s_here _ _ _ _ _ _ c e _ (p + 1, false, P) he hlt) co_X12_here k_X12_58 dX12_figures_73 hP_o rfl rfl rfl rfl (Nat.le_of_ble_eq_true rfl) (zrm hr (by omega)) (Nat.le_refl _) (Nat.le_refl _) (kI fun r73 h73 hp73 => ?_)
          obtain ⟨rfl, rfl⟩ := hp73
          refine aw_iadd B dX12_figures_76 ?_
          refine aw_bipush B 48 (by decide) dX12_figures_77 ?_
          refine aw_isub B dX12_figures_79 ?_
          rw [show hre (tpA A) e (p + 1, false, P) = nI (48 + k2) from ek2, dg_2 k k2]
          refine aw_istore1 B dX12_figures_80 ?_
          refine aw_aload_n B 0 rfl dX12_figures_81 rfl ?_
          refine aw_dup B rfl dX12_figures_82 ?_
          refine p_get B f_X12_48 dX12_figures_83 (pv_5) ?_
          refine aw_iconst B 1 (by decide) dX12_figures_86 ?_
          refine aw_iadd B dX12_figures_87 ?_
          refine p_put5 B f_X12_48 (p + 1 + 1) (nI_1 (p + 1)) dX12_figures_88 ?_
          refine aw_iinc2 B 1 (by decide) dX12_figures_91 ?_
          refine aw_goto B 34 dX12_figures_94 ?_
          refine aw_iload_n B 2 rfl dX12_figures_34 rfl ?_
          refine aw_iconst B 2 (by decide) dX12_figures_35 ?_
          refine aw_icmp_ge B 97 dX12_figures_36 (fun c36 => ?_) (fun c36 => absurd (by decide) c36)
          refine aw_iload_n B 1 rfl dX12_figures_97 rfl ?_
          refine aw_iret B rfl rfl dX12_figures_98 ?_
          exact ⟨_, rfl, by unfold figP; rw [if_neg Bool.false_ne_true, if_neg c19, edv, if_neg hk0, if_neg (show ¬ bI (48 ≤ hre (tpA A) e (adv (p, false, P)) ∧ hre (tpA A) e (adv (p, false, P)) ≤ 57) = 0 from c57)]; show _ = nI (10 * k + dv (hre (tpA A) e (p + 1, false, P))); rw [show dv (hre (tpA A) e (p + 1, false, P)) = k2 from edv2], by unfold figP; rw [if_neg Bool.false_ne_true, if_neg c19, edv, if_neg hk0, if_neg (show ¬ bI (48 ≤ hre (tpA A) e (adv (p, false, P)) ∧ hre (tpA A) e (adv (p, false, P)) ≤ 57) = 0 from c57)]; rfl⟩
    · refine aw_iconst B 1 (by decide) dX12_figures_22 ?_
      refine aw_goto B 27 dX12_figures_23 ?_
      refine p_put7 B f_X12_54 (true) (rfl) dX12_figures_27 ?_
      refine aw_iconst B 0 (by decide) dX12_figures_30 ?_
      refine aw_istore1 B dX12_figures_31 ?_
      refine aw_iconst B 0 (by decide) dX12_figures_32 ?_
      refine aw_istore2 B dX12_figures_33 ?_
      refine aw_iload_n B 2 rfl dX12_figures_34 rfl ?_
      refine aw_iconst B 2 (by decide) dX12_figures_35 ?_
      refine aw_icmp_ge B 97 dX12_figures_36 (fun c36 => absurd c36 (by decide)) (fun c36 => ?_)
      refine aw_aload_n B 0 rfl dX12_figures_39 rfl ?_
      refine p_get B f_X12_54 dX12_figures_40 (pv_7) ?_
      refine aw_if_ne B 97 dX12_figures_43 (fun c43 => ?_) (fun c43 => absurd c43 b2_t)
      refine aw_iload_n B 1 rfl dX12_figures_97 rfl ?_
      refine aw_iret B rfl rfl dX12_figures_98 ?_
      exact ⟨_, rfl, by unfold figP; rw [if_neg Bool.false_ne_true, if_pos c19]; rfl, by unfold figP; rw [if_neg Bool.false_ne_true, if_pos c19]; rfl⟩
theorem zB_len : ∀ i, i < 5 → zLen.getD i 0 = (zByt.getD i []).length ∧ zLen.getD i 0 ≤ 6 := by decide
theorem drop_ch {i k : Nat} (hi : i < 5) (hk : k < zLen.getD i 0) : (zByt.getD i []).drop k = sCh i k :: (zByt.getD i []).drop (k + 1) := by
  rw [(zB_len i hi).1] at hk
  rw [List.drop_eq_getElem_cons hk]
  unfold sCh
  congr 1
  generalize zByt.getD i [] = L at hk ⊢
  rw [List.getD_eq_getElem?_getD, List.getElem?_eq_getElem hk]; rfl
theorem drop_end {i k : Nat} (hi : i < 5) (hk : ¬ k < zLen.getD i 0) : (zByt.getD i []).drop k = [] := by
  rw [(zB_len i hi).1] at hk
  exact List.drop_eq_nil_of_le (by omega)
theorem sCh_ne {i k : Nat} (hi : i < 5) (hk : k < zLen.getD i 0) : ¬ sCh i k = -1 := zByt_ok i hi _ (by
  have h := drop_ch hi hk
  have : sCh i k ∈ (zByt.getD i []).drop k := by rw [h]; exact List.mem_cons_self
  exact List.mem_of_mem_drop this)
theorem dX12_spells_0 : decode cX12_spells 0 = .ok (.iconst 0, 1) := by decide +kernel
theorem dX12_spells_1 : decode cX12_spells 1 = .ok (.istore_n 2, 1) := by decide +kernel
theorem dX12_spells_2 : decode cX12_spells 2 = .ok (.iload_n 2, 1) := by decide +kernel
theorem dX12_spells_3 : decode cX12_spells 3 = .ok (.aload_n 1, 1) := by decide +kernel
theorem dX12_spells_4 : decode cX12_spells 4 = .ok (.invokevirtual 62, 3) := by decide +kernel
theorem dX12_spells_7 : decode cX12_spells 7 = .ok (.if_icmp .ge 18, 3) := by decide +kernel
theorem dX12_spells_10 : decode cX12_spells 10 = .ok (.aload_n 0, 1) := by decide +kernel
theorem dX12_spells_11 : decode cX12_spells 11 = .ok (.aload_n 1, 1) := by decide +kernel
theorem dX12_spells_12 : decode cX12_spells 12 = .ok (.iload_n 2, 1) := by decide +kernel
theorem dX12_spells_13 : decode cX12_spells 13 = .ok (.invokevirtual 67, 3) := by decide +kernel
theorem dX12_spells_16 : decode cX12_spells 16 = .ok (.invokevirtual 71, 3) := by decide +kernel
theorem dX12_spells_19 : decode cX12_spells 19 = .ok (.iinc 2 1, 3) := by decide +kernel
theorem dX12_spells_22 : decode cX12_spells 22 = .ok (.goto (-20), 3) := by decide +kernel
theorem dX12_spells_25 : decode cX12_spells 25 = .ok (.return_, 1) := by decide +kernel
set_option maxRecDepth 100000 in
set_option maxHeartbeats 4000000 in
theorem s_spells (l : Launch) (g : zG) (h : Hp) (m : Nat) (F : Nat → Int32) (A : Nat → Nat → Int32) (c e o : Nat) (s : pst) (i : Nat) (he : e ≤ 100) (hs : s.1 ≤ e) (hi : i < 5) : Sp l g yX12_spells cX12_spells 3 none (rmz 5) [.ref m, .ref (sA g i)] (hP g h m F A c e o s) (zV fun h' => h' = hP g h m F A c e o (spP (tpA A) e (zByt.getD i []) s)) := by
  refine Sp.of [some (.ref m), some (.ref (sA g i)), none] (by decide) (Nat.le_of_ble_eq_true rfl) rfl rfl ?_
  rintro X rfl hr rfl B
  show AW X 0 0 0 _ _ _ _
  have hz := zB_len i hi
  have lp : ∀ (f k : Nat) (s : pst), zLen.getD i 0 < k + f → k ≤ zLen.getD i 0 → s.1 ≤ e → AW X 0 0 2 [some (.ref m), some (.ref (sA (zXg X) i)), some (.int (nI (k)))] [] (hP (zXg X) h m F A c e o s) (zV fun h' => h' = hP (zXg X) h m F A c e o (spP (tpA A) e ((zByt.getD i []).drop k) s)) := by
    intro f
    induction f with
    | zero => intros; omega
    | succ f ih =>
      intro k s hf hk6 hs
      obtain ⟨p, w, P⟩ := s
      refine aw_iload_n B 2 rfl dX12_spells_2 rfl ?_
      refine aw_aload_n B 1 rfl dX12_spells_3 rfl ?_
      refine aw_callStr B 0 0 (s_length _ _ _ i hi) co_J0_length_8abf5 k_X12_62 dX12_spells_4 hi rfl rfl rfl (Nat.le_of_ble_eq_true rfl) (zrm hr (by omega)) (Nat.le_refl _) (Nat.le_refl _) (kI fun rr hh hq => ?_)
      obtain ⟨rfl, rfl⟩ := hq
      refine aw_icmp_ge B 25 dX12_spells_7 (fun c7 => ?_) (fun c7 => ?_)
      · refine aw_vret B rfl dX12_spells_25 ?_
        have hk : ¬ k < zLen.getD i 0 := fun z => absurd (nI_lt z (by omega)) (Int32.not_lt.mpr c7)
        rw [drop_end hi hk]
        exact ⟨rfl, rfl⟩
      · have hk : k < zLen.getD i 0 := Nat.not_le.mp fun z => c7 (nI_le z (by omega))
        refine aw_aload_n B 0 rfl dX12_spells_10 rfl ?_
        refine aw_aload_n B 1 rfl dX12_spells_11 rfl ?_
        refine aw_iload_n B 2 rfl dX12_spells_12 rfl ?_
        refine aw_callStr B 0 0 (s_charAt _ _ _ i k hi hk) co_J0_charAt_5068e k_X12_67 dX12_spells_13 hi rfl rfl rfl (Nat.le_of_ble_eq_true rfl) (zrm hr (by omega)) (Nat.le_refl _) (Nat.le_refl _) (kI fun rr hh hq => ?_)
        obtain ⟨rfl, rfl⟩ := hq
        refine aw_callV B 0 0 (s_must _ _ _ _ _ _ c e _ p w P (sCh i k) he hs) co_X12_must k_X12_71 dX12_spells_16 hP_o rfl rfl rfl rfl (Nat.le_of_ble_eq_true rfl) (zrm hr (by omega)) (Nat.le_refl _) (Nat.le_refl _) (kV fun h16 hp16 => ?_)
        subst hp16
        refine aw_iinc2 B 1 (by decide) dX12_spells_19 ?_
        refine aw_goto B 2 dX12_spells_22 ?_
        rw [nI_1, drop_ch hi hk]
        exact ih (k + 1) _ (by omega) (by omega) (must_gs (sCh_ne hi hk) hs).2.1
  refine aw_iconst B 0 (by decide) dX12_spells_0 ?_
  refine aw_istore2 B dX12_spells_1 ?_
  exact lp 7 0 s (by omega) (Nat.zero_le _) hs
theorem dX12_among_0 : decode cX12_among 0 = .ok (.iconst 0, 1) := by decide +kernel
theorem dX12_among_1 : decode cX12_among 1 = .ok (.istore_n 2, 1) := by decide +kernel
theorem dX12_among_2 : decode cX12_among 2 = .ok (.iload_n 2, 1) := by decide +kernel
theorem dX12_among_3 : decode cX12_among 3 = .ok (.aload_n 1, 1) := by decide +kernel
theorem dX12_among_4 : decode cX12_among 4 = .ok (.invokevirtual 62, 3) := by decide +kernel
theorem dX12_among_7 : decode cX12_among 7 = .ok (.if_icmp .ge 33, 3) := by decide +kernel
theorem dX12_among_10 : decode cX12_among 10 = .ok (.aload_n 0, 1) := by decide +kernel
theorem dX12_among_11 : decode cX12_among 11 = .ok (.invokevirtual 58, 3) := by decide +kernel
theorem dX12_among_14 : decode cX12_among 14 = .ok (.aload_n 1, 1) := by decide +kernel
theorem dX12_among_15 : decode cX12_among 15 = .ok (.iload_n 2, 1) := by decide +kernel
theorem dX12_among_16 : decode cX12_among 16 = .ok (.invokevirtual 67, 3) := by decide +kernel
theorem dX12_among_19 : decode cX12_among 19 = .ok (.if_icmp .ne 15, 3) := by decide +kernel
theorem dX12_among_22 : decode cX12_among 22 = .ok (.aload_n 0, 1) := by decide +kernel
theorem dX12_among_23 : decode cX12_among 23 = .ok (.dup, 1) := by decide +kernel
theorem dX12_among_24 : decode cX12_among 24 = .ok (.getfield 48, 3) := by decide +kernel
theorem dX12_among_27 : decode cX12_among 27 = .ok (.iconst 1, 1) := by decide +kernel
theorem dX12_among_28 : decode cX12_among 28 = .ok (.iadd, 1) := by decide +kernel
theorem dX12_among_29 : decode cX12_among 29 = .ok (.putfield 48, 3) := by decide +kernel
theorem dX12_among_32 : decode cX12_among 32 = .ok (.iload_n 2, 1) := by decide +kernel
theorem dX12_among_33 : decode cX12_among 33 = .ok (.ireturn, 1) := by decide +kernel
theorem dX12_among_34 : decode cX12_among 34 = .ok (.iinc 2 1, 3) := by decide +kernel
theorem dX12_among_37 : decode cX12_among 37 = .ok (.goto (-35), 3) := by decide +kernel
theorem dX12_among_40 : decode cX12_among 40 = .ok (.iconst (-1), 1) := by decide +kernel
theorem dX12_among_41 : decode cX12_among 41 = .ok (.ireturn, 1) := by decide +kernel
set_option maxRecDepth 100000 in
set_option maxHeartbeats 4000000 in
theorem s_among (l : Launch) (g : zG) (h : Hp) (m : Nat) (F : Nat → Int32) (A : Nat → Nat → Int32) (c e o : Nat) (s : pst) (i : Nat) (he : e ≤ 100) (hs : s.1 ≤ e) (hi : i < 5) : Sp l g yX12_among cX12_among 3 (some .int) (rmz 5) [.ref m, .ref (sA g i)] (hP g h m F A c e o s) (zI fun r h' => match am (zByt.getD i []) (hre (tpA A) e s) 0 with | none => r = -1 ∧ h' = hP g h m F A c e o s | some j => r = nI j ∧ h' = hP g h m F A c e o (adv s)) := by
  refine Sp.of [some (.ref m), some (.ref (sA g i)), none] (by decide) (Nat.le_of_ble_eq_true rfl) rfl rfl ?_
  rintro X rfl hr rfl B
  show AW X 0 0 0 _ _ _ _
  have hz := zB_len i hi
  have lp : ∀ (f k : Nat), zLen.getD i 0 < k + f → k ≤ zLen.getD i 0 → am (zByt.getD i []) (hre (tpA A) e s) 0 = am ((zByt.getD i []).drop k) (hre (tpA A) e s) k → AW X 0 0 2 [some (.ref m), some (.ref (sA (zXg X) i)), some (.int (nI (k)))] [] (hP (zXg X) h m F A c e o s) (zI fun r h' => match am (zByt.getD i []) (hre (tpA A) e s) 0 with | none => r = -1 ∧ h' = hP (zXg X) h m F A c e o s | some j => r = nI j ∧ h' = hP (zXg X) h m F A c e o (adv s)) := by
    intro f
    induction f with
    | zero => intros; omega
    | succ f ih =>
      intro k hf hk6 ham
      refine aw_iload_n B 2 rfl dX12_among_2 rfl ?_
      refine aw_aload_n B 1 rfl dX12_among_3 rfl ?_
      refine aw_callStr B 0 0 (s_length _ _ _ i hi) co_J0_length_8abf5 k_X12_62 dX12_among_4 hi rfl rfl rfl (Nat.le_of_ble_eq_true rfl) (zrm hr (by omega)) (Nat.le_refl _) (Nat.le_refl _) (kI fun rr hh hq => ?_)
      obtain ⟨rfl, rfl⟩ := hq
      refine aw_icmp_ge B 40 dX12_among_7 (fun c7 => ?_) (fun c7 => ?_)
      · refine aw_iconst B (-1) (by decide) dX12_among_40 ?_
        refine aw_iret B rfl rfl dX12_among_41 ?_
        have hk : ¬ k < zLen.getD i 0 := fun z => absurd (nI_lt z (by omega)) (Int32.not_lt.mpr c7)
        rw [drop_end hi hk, am] at ham
        refine ⟨_, rfl, ?_⟩
        rw [ham]
        exact ⟨rfl, rfl⟩
      · have hk : k < zLen.getD i 0 := Nat.not_le.mp fun z => c7 (nI_le z (by omega))
        rw [drop_ch hi hk, am] at ham
        refine aw_aload_n B 0 rfl dX12_among_10 rfl ?_
        refine aw_callV B 0 0 (s_here _ _ _ _ _ _ c e _ s he hs) co_X12_here k_X12_58 dX12_among_11 hP_o rfl rfl rfl rfl (Nat.le_of_ble_eq_true rfl) (zrm hr (by omega)) (Nat.le_refl _) (Nat.le_refl _) (kI fun r11 h11 hp11 => ?_)
        obtain ⟨rfl, rfl⟩ := hp11
        refine aw_aload_n B 1 rfl dX12_among_14 rfl ?_
        refine aw_iload_n B 2 rfl dX12_among_15 rfl ?_
        refine aw_callStr B 0 0 (s_charAt _ _ _ i k hi hk) co_J0_charAt_5068e k_X12_67 dX12_among_16 hi rfl rfl rfl (Nat.le_of_ble_eq_true rfl) (zrm hr (by omega)) (Nat.le_refl _) (Nat.le_refl _) (kI fun rr hh hq => ?_)
        obtain ⟨rfl, rfl⟩ := hq
        refine aw_icmp_ne B 34 dX12_among_19 (fun c19 => ?_) (fun c19 => ?_)
        · refine aw_iinc2 B 1 (by decide) dX12_among_34 ?_
          refine aw_goto B 2 dX12_among_37 ?_
          rw [nI_1]
          exact ih (k + 1) (by omega) (by omega) (by rw [ham, if_neg c19])
        · refine aw_aload_n B 0 rfl dX12_among_22 rfl ?_
          refine aw_dup B rfl dX12_among_23 ?_
          refine p_get B f_X12_48 dX12_among_24 (pv_5) ?_
          refine aw_iconst B 1 (by decide) dX12_among_27 ?_
          refine aw_iadd B dX12_among_28 ?_
          refine p_put5 B f_X12_48 (s.1 + 1) (nI_1 s.1) dX12_among_29 ?_
          refine aw_iload_n B 2 rfl dX12_among_32 rfl ?_
          refine aw_iret B rfl rfl dX12_among_33 ?_
          refine ⟨_, rfl, ?_⟩
          rw [ham, if_pos c19]
          exact ⟨rfl, rfl⟩
  refine aw_iconst B 0 (by decide) dX12_among_0 ?_
  refine aw_istore2 B dX12_among_1 ?_
  exact lp 7 0 (by omega) (Nat.zero_le _) rfl
theorem dX12_emits_0 : decode cX12_emits 0 = .ok (.aload_n 0, 1) := by decide +kernel
theorem dX12_emits_1 : decode cX12_emits 1 = .ok (.getfield 54, 3) := by decide +kernel
theorem dX12_emits_4 : decode cX12_emits 4 = .ok (.ifCond .ne 52, 3) := by decide +kernel
theorem dX12_emits_7 : decode cX12_emits 7 = .ok (.aload_n 0, 1) := by decide +kernel
theorem dX12_emits_8 : decode cX12_emits 8 = .ok (.getfield 9, 3) := by decide +kernel
theorem dX12_emits_11 : decode cX12_emits 11 = .ok (.sipush 199, 3) := by decide +kernel
theorem dX12_emits_14 : decode cX12_emits 14 = .ok (.sipush 140, 3) := by decide +kernel
theorem dX12_emits_17 : decode cX12_emits 17 = .ok (.aload_n 0, 1) := by decide +kernel
theorem dX12_emits_18 : decode cX12_emits 18 = .ok (.getfield 75, 3) := by decide +kernel
theorem dX12_emits_21 : decode cX12_emits 21 = .ok (.imul, 1) := by decide +kernel
theorem dX12_emits_22 : decode cX12_emits 22 = .ok (.iadd, 1) := by decide +kernel
theorem dX12_emits_23 : decode cX12_emits 23 = .ok (.aload_n 0, 1) := by decide +kernel
theorem dX12_emits_24 : decode cX12_emits 24 = .ok (.getfield 9, 3) := by decide +kernel
theorem dX12_emits_27 : decode cX12_emits 27 = .ok (.sipush 194, 3) := by decide +kernel
theorem dX12_emits_30 : decode cX12_emits 30 = .ok (.aload_n 0, 1) := by decide +kernel
theorem dX12_emits_31 : decode cX12_emits 31 = .ok (.getfield 75, 3) := by decide +kernel
theorem dX12_emits_34 : decode cX12_emits 34 = .ok (.iadd, 1) := by decide +kernel
theorem dX12_emits_35 : decode cX12_emits 35 = .ok (.iaload, 1) := by decide +kernel
theorem dX12_emits_36 : decode cX12_emits 36 = .ok (.iadd, 1) := by decide +kernel
theorem dX12_emits_37 : decode cX12_emits 37 = .ok (.iload_n 1, 1) := by decide +kernel
theorem dX12_emits_38 : decode cX12_emits 38 = .ok (.iastore, 1) := by decide +kernel
theorem dX12_emits_39 : decode cX12_emits 39 = .ok (.aload_n 0, 1) := by decide +kernel
theorem dX12_emits_40 : decode cX12_emits 40 = .ok (.getfield 9, 3) := by decide +kernel
theorem dX12_emits_43 : decode cX12_emits 43 = .ok (.sipush 194, 3) := by decide +kernel
theorem dX12_emits_46 : decode cX12_emits 46 = .ok (.aload_n 0, 1) := by decide +kernel
theorem dX12_emits_47 : decode cX12_emits 47 = .ok (.getfield 75, 3) := by decide +kernel
theorem dX12_emits_50 : decode cX12_emits 50 = .ok (.iadd, 1) := by decide +kernel
theorem dX12_emits_51 : decode cX12_emits 51 = .ok (.dup2, 1) := by decide +kernel
theorem dX12_emits_52 : decode cX12_emits 52 = .ok (.iaload, 1) := by decide +kernel
theorem dX12_emits_53 : decode cX12_emits 53 = .ok (.iconst 1, 1) := by decide +kernel
theorem dX12_emits_54 : decode cX12_emits 54 = .ok (.iadd, 1) := by decide +kernel
theorem dX12_emits_55 : decode cX12_emits 55 = .ok (.iastore, 1) := by decide +kernel
theorem dX12_emits_56 : decode cX12_emits 56 = .ok (.return_, 1) := by decide +kernel
set_option maxRecDepth 100000 in
set_option maxHeartbeats 4000000 in
theorem s_emits (l : Launch) (g : zG) (h : Hp) (m : Nat) (F : Nat → Int32) (A : Nat → Nat → Int32) (c e o : Nat) (p : Nat) (w : Bool) (P : pP) (v : Int32) (x : Nat × Nat) (hc : c < 5) (hx : w = false → v = cd x.1 x.2 ∧ P.length < 140) : Sp l g yX12_emits cX12_emits 2 none (rmz 1) [.ref m, .int v] (hP g h m F A c e o (p, w, P)) (zV fun h' => h' = hP g h m F A c e o (emP x (p, w, P))) := by
  refine Sp.of [some (.ref m), some (.int v)] (by decide) (Nat.le_of_ble_eq_true rfl) rfl rfl ?_
  rintro X rfl hr rfl B
  show AW X 0 0 0 _ _ _ _
  cases w with
  | true =>
    refine aw_aload_n B 0 rfl dX12_emits_0 rfl ?_
    refine p_get B f_X12_54 dX12_emits_1 (pv_7) ?_
    refine aw_if_ne B 56 dX12_emits_4 (fun c4 => ?_) (fun c4 => absurd c4 b2_t)
    refine aw_vret B rfl dX12_emits_56 ?_
    exact ⟨rfl, rfl⟩
  | false =>
    obtain ⟨ev', hl⟩ := hx rfl
    subst ev'
    refine aw_aload_n B 0 rfl dX12_emits_0 rfl ?_
    refine p_get B f_X12_54 dX12_emits_1 (pv_7) ?_
    refine aw_if_ne B 56 dX12_emits_4 (fun c4 => absurd b2_f c4) (fun c4 => ?_)
    refine aw_aload_n B 0 rfl dX12_emits_7 rfl ?_
    refine p_get B f_X12_9 dX12_emits_8 (mg_1 _ _) ?_
    refine aw_sipush B 199 (by decide) dX12_emits_11 ?_
    refine aw_sipush B 140 (by decide) dX12_emits_14 ?_
    refine aw_aload_n B 0 rfl dX12_emits_17 rfl ?_
    refine p_get B f_X12_75 dX12_emits_18 (pv_4) ?_
    refine aw_imul B dX12_emits_21 ?_
    refine aw_iadd B dX12_emits_22 ?_
    refine aw_aload_n B 0 rfl dX12_emits_23 rfl ?_
    refine p_get B f_X12_9 dX12_emits_24 (mg_1 _ _) ?_
    refine aw_sipush B 194 (by decide) dX12_emits_27 ?_
    refine aw_aload_n B 0 rfl dX12_emits_30 rfl ?_
    refine p_get B f_X12_75 dX12_emits_31 (pv_4) ?_
    refine aw_iadd B dX12_emits_34 ?_
    refine p_ld B (194 + c) (nI_add 194 c) (by omega) pS_n dX12_emits_35 ?_
    refine aw_iadd B dX12_emits_36 ?_
    refine aw_iload_n B 1 rfl dX12_emits_37 rfl ?_
    rw [show (199 : Int32) + 140 * nI c + nI P.length = nI (199 + 140 * c + P.length) from by rw [show (140 : Int32) * nI c = nI (140 * c) from pk_mul 140 c, show (199 : Int32) + nI (140 * c) = nI (199 + 140 * c) from nI_add 199 _, nI_add]]
    refine m_st (j := 1) B (199 + 140 * c + P.length) rfl (by show _ < 899; omega) dX12_emits_38 (by decide) ?_
    rw [mup_m, mup_s]
    refine aw_aload_n B 0 rfl dX12_emits_39 rfl ?_
    refine m_get B f_X12_9 dX12_emits_40 (mg_1 _ _) ?_
    refine aw_sipush B 194 (by decide) dX12_emits_43 ?_
    refine aw_aload_n B 0 rfl dX12_emits_46 rfl ?_
    refine m_get B f_X12_75 dX12_emits_47 (mg_4 _ _) ?_
    refine aw_iadd B dX12_emits_50 ?_
    refine aw_dup2 B rfl rfl dX12_emits_51 ?_
    refine m_ld (j := 1) B (194 + c) (nI_add 194 c) (by show _ < 899; omega) dX12_emits_52 (by decide) ?_
    rw [mup_s, upd_n (by omega), pS_n, ]
    refine aw_iconst B 1 (by decide) dX12_emits_53 ?_
    refine aw_iadd B dX12_emits_54 ?_
    rw [nI_1]
    refine m_st (j := 1) B (194 + c) (nI_add 194 c) (by show _ < 899; omega) dX12_emits_55 (by decide) ?_
    rw [mup_m, mup_s, pS_em hc]
    refine aw_vret B rfl dX12_emits_56 ?_
    exact ⟨rfl, rfl⟩
