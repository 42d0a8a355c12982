/-! the class's cave while it reads: steps and numbers P over what was there -/
def rS (SF : Nat → Int32) (P : pP) (f : Nat × Nat → Nat) : Nat → Int32 := fun i => match P[i]? with
  | some q => nI (f q)
  | none => SF i
def hC (g : zG) (h : Hp) (k t : Nat) (SF NF tf : Nat → Int32) (s : pst) : Hp := hK g h k (.ref t) (rS SF s.2.2 Prod.fst) (rS NF s.2.2 Prod.snd) (nI s.2.2.length) tf (nI s.1)
def tRow (g : zG) (h : Hp) (k t : Nat) (tp : Nat → Int32) (e : Nat) : Prop := rowI g h t 100 tp (nI e) ∧ (t + 2 ≤ k ∨ k + 4 ≤ t) ∧ e ≤ 100
theorem rS_nil {SF : Nat → Int32} {f : Nat × Nat → Nat} : rS SF [] f = SF := by
  funext i
  unfold rS
  simp
theorem rS_em {SF : Nat → Int32} {P : pP} {x : Nat × Nat} {f : Nat × Nat → Nat} : upd (rS SF P f) P.length (nI (f x)) = rS SF (P ++ [x]) f := by
  funext i
  unfold upd rS
  by_cases h1 : i = P.length
  · rw [if_pos h1, h1, List.getElem?_append_right (Nat.le_refl _), Nat.sub_self]; rfl
  · rw [if_neg h1]
    by_cases h2 : i < P.length
    · rw [List.getElem?_append_left h2]
    · rw [List.getElem?_eq_none (by omega), List.getElem?_eq_none (by rw [List.length_append]; show P.length + 1 ≤ i; omega)]
theorem sk_h {p : Prop} [Decidable p] (h : ¬ b2 (decide p) = 0) : p := Decidable.of_not_not fun z => h (b2f z)
theorem sk_m {p : Prop} [Decidable p] (h : b2 (decide p) = 0) : ¬ p := fun z => by
  rw [b2t z] at h
  exact absurd h (by decide)
theorem bn_t {w : Bool} (h : b2 (!w) = 0) : w = true := by
  cases w
  · exact absurd h (by decide)
  · rfl
theorem bn_f {w : Bool} (h : ¬ b2 (!w) = 0) : w = false := by
  cases w
  · rfl
  · exact absurd rfl h
section ZRD
variable {X : zX} {cc : ByteArray} {nL : Nat} {own nm : String} {ret : Option FieldType} {rc rs pc : Nat} {lv : List (Option Value)} {st : List Value} {h : Hp} {Ko : Option Value → Hp → Prop} {g : zG} {k t e : Nat} {SF NF tf tp : Nat → Int32} {s : pst}
theorem hC_o : (hC g h k t SF NF tf s).2 k = some (.inr (1, [.ref (k + 1), .ref (k + 2), .int (nI s.2.2.length), .ref (k + 3), .ref t, .int (nI s.1)])) := hK_o
theorem hC_t0 (T : tRow g h k t tp e) : (hC g h k t SF NF tf s).2 t = some (.inr (7, [.ref (t + 1), .int (nI e)])) := (hK_n (by have := T.2.1; omega)).trans T.1.1
theorem hC_t1 (T : tRow g h k t tp e) : (hC g h k t SF NF tf s).2 (t + 1) = some (.inl (g.2.2.1.1, 100, .inl tp)) := (hK_n (by have := T.2.1; omega)).trans T.1.2
theorem c_ppl (B : zB X cc nL own nm ret) {idx : Nat} {dec : Bool} {x : Int32} (Fl : zFL own idx 1 5 false dec .int) (q : Nat) (hx : x = nI q) (hd : decode cc pc = .ok (.putfield idx, 3)) (kk : AW X rc rs (pc + 3) lv st (hC (zXg X) h k t SF NF tf (q, s.2)) Ko) : AW X rc rs pc lv (.int x :: .ref k :: st) (hC (zXg X) h k t SF NF tf s) Ko := by
  subst hx
  exact k_ppl B Fl hd kk
end ZRD
theorem dX1_signHere_0 : decode cX1_signHere 0 = .ok (.aload_n 0, 1) := by decide +kernel
theorem dX1_signHere_1 : decode cX1_signHere 1 = .ok (.getfield 25, 3) := by decide +kernel
theorem dX1_signHere_4 : decode cX1_signHere 4 = .ok (.ifnull 43, 3) := by decide +kernel
theorem dX1_signHere_7 : decode cX1_signHere 7 = .ok (.aload_n 0, 1) := by decide +kernel
theorem dX1_signHere_8 : decode cX1_signHere 8 = .ok (.getfield 29, 3) := by decide +kernel
theorem dX1_signHere_11 : decode cX1_signHere 11 = .ok (.ifCond .lt 36, 3) := by decide +kernel
theorem dX1_signHere_14 : decode cX1_signHere 14 = .ok (.aload_n 0, 1) := by decide +kernel
theorem dX1_signHere_15 : decode cX1_signHere 15 = .ok (.getfield 29, 3) := by decide +kernel
theorem dX1_signHere_18 : decode cX1_signHere 18 = .ok (.aload_n 0, 1) := by decide +kernel
theorem dX1_signHere_19 : decode cX1_signHere 19 = .ok (.getfield 25, 3) := by decide +kernel
theorem dX1_signHere_22 : decode cX1_signHere 22 = .ok (.getfield 73, 3) := by decide +kernel
theorem dX1_signHere_25 : decode cX1_signHere 25 = .ok (.if_icmp .ge 22, 3) := by decide +kernel
theorem dX1_signHere_28 : decode cX1_signHere 28 = .ok (.aload_n 0, 1) := by decide +kernel
theorem dX1_signHere_29 : decode cX1_signHere 29 = .ok (.getfield 29, 3) := by decide +kernel
theorem dX1_signHere_32 : decode cX1_signHere 32 = .ok (.aload_n 0, 1) := by decide +kernel
theorem dX1_signHere_33 : decode cX1_signHere 33 = .ok (.getfield 25, 3) := by decide +kernel
theorem dX1_signHere_36 : decode cX1_signHere 36 = .ok (.getfield 115, 3) := by decide +kernel
theorem dX1_signHere_39 : decode cX1_signHere 39 = .ok (.arraylength, 1) := by decide +kernel
theorem dX1_signHere_40 : decode cX1_signHere 40 = .ok (.if_icmp .ge 7, 3) := by decide +kernel
theorem dX1_signHere_43 : decode cX1_signHere 43 = .ok (.iconst 1, 1) := by decide +kernel
theorem dX1_signHere_44 : decode cX1_signHere 44 = .ok (.goto 4, 3) := by decide +kernel
theorem dX1_signHere_47 : decode cX1_signHere 47 = .ok (.iconst 0, 1) := by decide +kernel
theorem dX1_signHere_48 : decode cX1_signHere 48 = .ok (.istore_n 1, 1) := by decide +kernel
theorem dX1_signHere_49 : decode cX1_signHere 49 = .ok (.iload_n 1, 1) := by decide +kernel
theorem dX1_signHere_50 : decode cX1_signHere 50 = .ok (.ifCond .eq 18, 3) := by decide +kernel
theorem dX1_signHere_53 : decode cX1_signHere 53 = .ok (.aload_n 0, 1) := by decide +kernel
theorem dX1_signHere_54 : decode cX1_signHere 54 = .ok (.getfield 25, 3) := by decide +kernel
theorem dX1_signHere_57 : decode cX1_signHere 57 = .ok (.getfield 115, 3) := by decide +kernel
theorem dX1_signHere_60 : decode cX1_signHere 60 = .ok (.aload_n 0, 1) := by decide +kernel
theorem dX1_signHere_61 : decode cX1_signHere 61 = .ok (.getfield 29, 3) := by decide +kernel
theorem dX1_signHere_64 : decode cX1_signHere 64 = .ok (.iaload, 1) := by decide +kernel
theorem dX1_signHere_65 : decode cX1_signHere 65 = .ok (.goto 4, 3) := by decide +kernel
theorem dX1_signHere_68 : decode cX1_signHere 68 = .ok (.iconst (-1), 1) := by decide +kernel
theorem dX1_signHere_69 : decode cX1_signHere 69 = .ok (.ireturn, 1) := by decide +kernel
set_option maxRecDepth 100000 in
set_option maxHeartbeats 4000000 in
theorem s_signHere (l : Launch) (g : zG) (h : Hp) (k t : Nat) (SF NF tf tp : Nat → Int32) (e : Nat) (s : pst) (T : tRow g h k t tp e) (hs : s.1 ≤ e) : Sp l g yX1_signHere cX1_signHere 2 (some .int) (rmz 1) [.ref k] (hC g h k t SF NF tf s) (zI fun r h' => r = hre tp e s ∧ h' = hC g h k t SF NF tf s) := by
  refine Sp.of [some (.ref k), none] (by decide) (Nat.le_of_ble_eq_true rfl) rfl rfl ?_
  rintro X rfl hr rfl B
  show AW X 0 0 0 _ _ _ _
  have he := T.2.2
  obtain ⟨p, w, P⟩ := s
  have hs : p ≤ e := hs
  refine aw_aload_n B 0 rfl dX1_signHere_0 rfl ?_
  refine aw_get B f_X1_25 dX1_signHere_1 hC_o rfl ?_
  refine aw_ifnull B dX1_signHere_4 ?_
  refine aw_aload_n B 0 rfl dX1_signHere_7 rfl ?_
  refine aw_get B f_X1_29 dX1_signHere_8 hC_o rfl ?_
  refine aw_if_lt B 47 dX1_signHere_11 (fun c11 => absurd c11 (Int32.not_lt.mpr (nI_pos' (by show p < 2 ^ 31; omega)))) (fun c11 => ?_)
  refine aw_aload_n B 0 rfl dX1_signHere_14 rfl ?_
  refine aw_get B f_X1_29 dX1_signHere_15 hC_o rfl ?_
  refine aw_aload_n B 0 rfl dX1_signHere_18 rfl ?_
  refine aw_get B f_X1_25 dX1_signHere_19 hC_o rfl ?_
  refine aw_get B f_X1_73 dX1_signHere_22 (hC_t0 T) rfl ?_
  refine aw_icmp_ge B 47 dX1_signHere_25 (fun c25 => ?_) (fun c25 => ?_)
  · refine aw_iconst B 0 (by decide) dX1_signHere_47 ?_
    refine aw_istore1 B dX1_signHere_48 ?_
    refine aw_iload_n B 1 rfl dX1_signHere_49 rfl ?_
    refine aw_if_eq B 68 dX1_signHere_50 (fun c50 => ?_) (fun c50 => absurd rfl c50)
    refine aw_iconst B (-1) (by decide) dX1_signHere_68 ?_
    refine aw_iret B rfl rfl dX1_signHere_69 ?_
    exact ⟨_, rfl, by unfold hre; rw [if_neg (by have := (nI_leI (by omega) (by omega)).mp (show nI e ≤ nI p from c25); show ¬ p < e; omega)], rfl⟩
  · have hlt : p < e := Nat.not_le.mp fun z => c25 (nI_le z (by omega))
    refine aw_aload_n B 0 rfl dX1_signHere_28 rfl ?_
    refine aw_get B f_X1_29 dX1_signHere_29 hC_o rfl ?_
    refine aw_aload_n B 0 rfl dX1_signHere_32 rfl ?_
    refine aw_get B f_X1_25 dX1_signHere_33 hC_o rfl ?_
    refine aw_get B f_X1_115 dX1_signHere_36 (hC_t0 T) rfl ?_
    refine aw_alen B dX1_signHere_39 (hC_t1 T) (Or.inl rfl) ?_
    refine aw_icmp_ge B 47 dX1_signHere_40 (fun c40 => absurd c40 (Int32.not_le.mpr (show nI p < nI 100 from nI_lt (by omega) (by decide)))) (fun c40 => ?_)
    refine aw_iconst B 1 (by decide) dX1_signHere_43 ?_
    refine aw_goto B 48 dX1_signHere_44 ?_
    refine aw_istore1 B dX1_signHere_48 ?_
    refine aw_iload_n B 1 rfl dX1_signHere_49 rfl ?_
    refine aw_if_eq B 68 dX1_signHere_50 (fun c50 => absurd c50 (by decide)) (fun c50 => ?_)
    refine aw_aload_n B 0 rfl dX1_signHere_53 rfl ?_
    refine aw_get B f_X1_25 dX1_signHere_54 hC_o rfl ?_
    refine aw_get B f_X1_115 dX1_signHere_57 (hC_t0 T) rfl ?_
    refine aw_aload_n B 0 rfl dX1_signHere_60 rfl ?_
    refine aw_get B f_X1_29 dX1_signHere_61 hC_o rfl ?_
    refine aw_iald B dX1_signHere_64 (hC_t1 T) (vp_in_nI (by omega) (by decide)) ?_
    rw [nI_clamp (by omega)]
    refine aw_goto B 69 dX1_signHere_65 ?_
    refine aw_iret B rfl rfl dX1_signHere_69 ?_
    exact ⟨_, rfl, by unfold hre; rw [if_pos hlt], rfl⟩
theorem dX1_skip_0 : decode cX1_skip 0 = .ok (.aload_n 0, 1) := by decide +kernel
theorem dX1_skip_1 : decode cX1_skip 1 = .ok (.invokevirtual 80, 3) := by decide +kernel
theorem dX1_skip_4 : decode cX1_skip 4 = .ok (.iload_n 1, 1) := by decide +kernel
theorem dX1_skip_5 : decode cX1_skip 5 = .ok (.if_icmp .eq 5, 3) := by decide +kernel
theorem dX1_skip_8 : decode cX1_skip 8 = .ok (.iconst 0, 1) := by decide +kernel
theorem dX1_skip_9 : decode cX1_skip 9 = .ok (.ireturn, 1) := by decide +kernel
theorem dX1_skip_10 : decode cX1_skip 10 = .ok (.aload_n 0, 1) := by decide +kernel
theorem dX1_skip_11 : decode cX1_skip 11 = .ok (.dup, 1) := by decide +kernel
theorem dX1_skip_12 : decode cX1_skip 12 = .ok (.getfield 29, 3) := by decide +kernel
theorem dX1_skip_15 : decode cX1_skip 15 = .ok (.iconst 1, 1) := by decide +kernel
theorem dX1_skip_16 : decode cX1_skip 16 = .ok (.iadd, 1) := by decide +kernel
theorem dX1_skip_17 : decode cX1_skip 17 = .ok (.putfield 29, 3) := by decide +kernel
theorem dX1_skip_20 : decode cX1_skip 20 = .ok (.iconst 1, 1) := by decide +kernel
theorem dX1_skip_21 : decode cX1_skip 21 = .ok (.ireturn, 1) := by decide +kernel
set_option maxRecDepth 100000 in
set_option maxHeartbeats 4000000 in
theorem s_skip (l : Launch) (g : zG) (h : Hp) (k t : Nat) (SF NF tf tp : Nat → Int32) (e : Nat) (s : pst) (x : Int32) (T : tRow g h k t tp e) (hs : s.1 ≤ e) : Sp l g yX1_skip cX1_skip 2 (some .boolean) (rmz 2) [.ref k, .int x] (hC g h k t SF NF tf s) (zI fun r h' => r = b2 (decide (hre tp e s = x)) ∧ h' = hC g h k t SF NF tf (if hre tp e s = x then adv s else s)) := by
  refine Sp.of [some (.ref k), some (.int x)] (by decide) (Nat.le_of_ble_eq_true rfl) rfl rfl ?_
  rintro X rfl hr rfl B
  show AW X 0 0 0 _ _ _ _
  obtain ⟨p, w, P⟩ := s
  refine aw_aload_n B 0 rfl dX1_skip_0 rfl ?_
  refine aw_callV B 0 0 (s_signHere _ _ _ k t SF NF tf tp e (p, w, P) T hs) co_X1_signHere k_X1_80 dX1_skip_1 hC_o rfl rfl rfl rfl (Nat.le_of_ble_eq_true rfl) (zrm hr (by omega)) (Nat.le_refl _) (Nat.le_refl _) (kI fun r1 h1 hp1 => ?_)
  obtain ⟨rfl, rfl⟩ := hp1
  refine aw_iload_n B 1 rfl dX1_skip_4 rfl ?_
  refine aw_icmp_eq B 10 dX1_skip_5 (fun c5 => ?_) (fun c5 => ?_)
  · refine aw_aload_n B 0 rfl dX1_skip_10 rfl ?_
    refine aw_dup B rfl dX1_skip_11 ?_
    refine aw_get B f_X1_29 dX1_skip_12 hC_o rfl ?_
    refine aw_iconst B 1 (by decide) dX1_skip_15 ?_
    refine aw_iadd B dX1_skip_16 ?_
    refine c_ppl B f_X1_29 (p + 1) (nI_1 p) dX1_skip_17 ?_
    refine aw_iconst B 1 (by decide) dX1_skip_20 ?_
    refine aw_iret B rfl rfl dX1_skip_21 ?_
    exact ⟨_, rfl, by rw [b2t c5], by rw [if_pos c5]; rfl⟩
  · refine aw_iconst B 0 (by decide) dX1_skip_8 ?_
    refine aw_iret B rfl rfl dX1_skip_9 ?_
    exact ⟨_, rfl, by rw [b2f c5], by rw [if_neg c5]⟩
theorem dX1_addStep_0 : decode cX1_addStep 0 = .ok (.aload_n 0, 1) := by decide +kernel
theorem dX1_addStep_1 : decode cX1_addStep 1 = .ok (.getfield 18, 3) := by decide +kernel
theorem dX1_addStep_4 : decode cX1_addStep 4 = .ok (.ifCond .lt 42, 3) := by decide +kernel
theorem dX1_addStep_7 : decode cX1_addStep 7 = .ok (.aload_n 0, 1) := by decide +kernel
theorem dX1_addStep_8 : decode cX1_addStep 8 = .ok (.getfield 18, 3) := by decide +kernel
theorem dX1_addStep_11 : decode cX1_addStep 11 = .ok (.bipush 100, 2) := by decide +kernel
theorem dX1_addStep_13 : decode cX1_addStep 13 = .ok (.if_icmp .ge 33, 3) := by decide +kernel
theorem dX1_addStep_16 : decode cX1_addStep 16 = .ok (.aload_n 0, 1) := by decide +kernel
theorem dX1_addStep_17 : decode cX1_addStep 17 = .ok (.getfield 11, 3) := by decide +kernel
theorem dX1_addStep_20 : decode cX1_addStep 20 = .ok (.aload_n 0, 1) := by decide +kernel
theorem dX1_addStep_21 : decode cX1_addStep 21 = .ok (.getfield 18, 3) := by decide +kernel
theorem dX1_addStep_24 : decode cX1_addStep 24 = .ok (.iload_n 1, 1) := by decide +kernel
theorem dX1_addStep_25 : decode cX1_addStep 25 = .ok (.iastore, 1) := by decide +kernel
theorem dX1_addStep_26 : decode cX1_addStep 26 = .ok (.aload_n 0, 1) := by decide +kernel
theorem dX1_addStep_27 : decode cX1_addStep 27 = .ok (.getfield 15, 3) := by decide +kernel
theorem dX1_addStep_30 : decode cX1_addStep 30 = .ok (.aload_n 0, 1) := by decide +kernel
theorem dX1_addStep_31 : decode cX1_addStep 31 = .ok (.getfield 18, 3) := by decide +kernel
theorem dX1_addStep_34 : decode cX1_addStep 34 = .ok (.iload_n 2, 1) := by decide +kernel
theorem dX1_addStep_35 : decode cX1_addStep 35 = .ok (.iastore, 1) := by decide +kernel
theorem dX1_addStep_36 : decode cX1_addStep 36 = .ok (.aload_n 0, 1) := by decide +kernel
theorem dX1_addStep_37 : decode cX1_addStep 37 = .ok (.dup, 1) := by decide +kernel
theorem dX1_addStep_38 : decode cX1_addStep 38 = .ok (.getfield 18, 3) := by decide +kernel
theorem dX1_addStep_41 : decode cX1_addStep 41 = .ok (.iconst 1, 1) := by decide +kernel
theorem dX1_addStep_42 : decode cX1_addStep 42 = .ok (.iadd, 1) := by decide +kernel
theorem dX1_addStep_43 : decode cX1_addStep 43 = .ok (.putfield 18, 3) := by decide +kernel
theorem dX1_addStep_46 : decode cX1_addStep 46 = .ok (.return_, 1) := by decide +kernel
set_option maxRecDepth 100000 in
set_option maxHeartbeats 4000000 in
theorem s_addStep (l : Launch) (g : zG) (h : Hp) (k t : Nat) (SF NF tf : Nat → Int32) (s : pst) (x : Nat × Nat) (v u : Int32) (hl : s.2.2.length < 100) (hv : v = nI x.1) (hu : u = nI x.2) : Sp l g yX1_addStep cX1_addStep 3 none (rmz 1) [.ref k, .int v, .int u] (hC g h k t SF NF tf s) (zV fun h' => h' = hC g h k t SF NF tf (s.1, false, s.2.2 ++ [x])) := by
  refine Sp.of [some (.ref k), some (.int v), some (.int u)] (by decide) (Nat.le_of_ble_eq_true rfl) rfl rfl ?_
  rintro X rfl hr rfl B
  show AW X 0 0 0 _ _ _ _
  subst hv
  subst hu
  refine aw_aload_n B 0 rfl dX1_addStep_0 rfl ?_
  refine aw_get B f_X1_18 dX1_addStep_1 hC_o rfl ?_
  refine aw_if_lt B 46 dX1_addStep_4 (fun c4 => absurd c4 (Int32.not_lt.mpr (nI_pos' (by omega)))) (fun c4 => ?_)
  refine aw_aload_n B 0 rfl dX1_addStep_7 rfl ?_
  refine aw_get B f_X1_18 dX1_addStep_8 hC_o rfl ?_
  refine aw_bipush B 100 (by decide) dX1_addStep_11 ?_
  refine aw_icmp_ge B 46 dX1_addStep_13 (fun c13 => absurd c13 (Int32.not_le.mpr (show nI s.2.2.length < nI 100 from nI_lt hl (by decide)))) (fun c13 => ?_)
  refine aw_aload_n B 0 rfl dX1_addStep_16 rfl ?_
  refine aw_get B f_X1_11 dX1_addStep_17 hC_o rfl ?_
  refine aw_aload_n B 0 rfl dX1_addStep_20 rfl ?_
  refine aw_get B f_X1_18 dX1_addStep_21 hC_o rfl ?_
  refine aw_iload_n B 1 rfl dX1_addStep_24 rfl ?_
  show AW X 0 0 25 _ _ (hK (zXg X) h k (.ref t) (rS SF s.2.2 Prod.fst) (rS NF s.2.2 Prod.snd) (nI s.2.2.length) tf (nI s.1)) _
  refine k_st1 B s.2.2.length rfl hl dX1_addStep_25 ?_
  refine aw_aload_n B 0 rfl dX1_addStep_26 rfl ?_
  refine aw_get B f_X1_15 dX1_addStep_27 hK_o rfl ?_
  refine aw_aload_n B 0 rfl dX1_addStep_30 rfl ?_
  refine aw_get B f_X1_18 dX1_addStep_31 hK_o rfl ?_
  refine aw_iload_n B 2 rfl dX1_addStep_34 rfl ?_
  refine k_st2 B s.2.2.length rfl hl dX1_addStep_35 ?_
  refine aw_aload_n B 0 rfl dX1_addStep_36 rfl ?_
  refine aw_dup B rfl dX1_addStep_37 ?_
  refine aw_get B f_X1_18 dX1_addStep_38 hK_o rfl ?_
  refine aw_iconst B 1 (by decide) dX1_addStep_41 ?_
  refine aw_iadd B dX1_addStep_42 ?_
  rw [nI_1]
  refine k_psz B f_X1_18 dX1_addStep_43 ?_
  refine aw_vret B rfl dX1_addStep_46 ?_
  refine ⟨rfl, ?_⟩
  rw [rS_em, rS_em]
  unfold hC
  rw [show (s.2.2 ++ [x]).length = s.2.2.length + 1 from by rw [List.length_append]; rfl]
theorem nd_48 {c : Int32} (h0 : ¬ c - 48 < 0) (h9 : c - 48 ≤ 9) : ¬ bI (48 ≤ c ∧ c ≤ 57) = 0 := by
  obtain ⟨j, hj, e⟩ := nI_of h0
  rw [e] at h9
  have hj9 : j ≤ 9 := (nI_leI (b := 9) hj (by decide)).mp h9
  have ec : c = nI (48 + j) := by
    have : c = nI j + 48 := by rw [← e, Int32.sub_add_cancel]
    rw [this, show nI j + 48 = nI (j + 48) from nI_add j 48, Nat.add_comm]
  intro z
  refine bI0.mp z ?_
  rw [ec]
  exact ⟨show nI 48 ≤ nI (48 + j) from nI_le (by omega) (by omega), show nI (48 + j) ≤ nI 57 from nI_le (by omega) (by decide)⟩
theorem e_48 {c : Int32} {d : Nat} (h : c = nI (48 + d)) : c - 48 = nI d := by
  rw [h, show nI (48 + d) = nI d + 48 from by rw [show nI d + 48 = nI (d + 48) from nI_add d 48, Nat.add_comm], Int32.add_sub_cancel]
theorem dX1_readNumber_0 : decode cX1_readNumber 0 = .ok (.aload_n 0, 1) := by decide +kernel
theorem dX1_readNumber_1 : decode cX1_readNumber 1 = .ok (.invokevirtual 80, 3) := by decide +kernel
theorem dX1_readNumber_4 : decode cX1_readNumber 4 = .ok (.bipush 48, 2) := by decide +kernel
theorem dX1_readNumber_6 : decode cX1_readNumber 6 = .ok (.isub, 1) := by decide +kernel
theorem dX1_readNumber_7 : decode cX1_readNumber 7 = .ok (.istore_n 1, 1) := by decide +kernel
theorem dX1_readNumber_8 : decode cX1_readNumber 8 = .ok (.iload_n 1, 1) := by decide +kernel
theorem dX1_readNumber_9 : decode cX1_readNumber 9 = .ok (.ifCond .lt 9, 3) := by decide +kernel
theorem dX1_readNumber_12 : decode cX1_readNumber 12 = .ok (.iload_n 1, 1) := by decide +kernel
theorem dX1_readNumber_13 : decode cX1_readNumber 13 = .ok (.bipush 9, 2) := by decide +kernel
theorem dX1_readNumber_15 : decode cX1_readNumber 15 = .ok (.if_icmp .le 5, 3) := by decide +kernel
theorem dX1_readNumber_18 : decode cX1_readNumber 18 = .ok (.iconst (-1), 1) := by decide +kernel
theorem dX1_readNumber_19 : decode cX1_readNumber 19 = .ok (.ireturn, 1) := by decide +kernel
theorem dX1_readNumber_20 : decode cX1_readNumber 20 = .ok (.aload_n 0, 1) := by decide +kernel
theorem dX1_readNumber_21 : decode cX1_readNumber 21 = .ok (.dup, 1) := by decide +kernel
theorem dX1_readNumber_22 : decode cX1_readNumber 22 = .ok (.getfield 29, 3) := by decide +kernel
theorem dX1_readNumber_25 : decode cX1_readNumber 25 = .ok (.iconst 1, 1) := by decide +kernel
theorem dX1_readNumber_26 : decode cX1_readNumber 26 = .ok (.iadd, 1) := by decide +kernel
theorem dX1_readNumber_27 : decode cX1_readNumber 27 = .ok (.putfield 29, 3) := by decide +kernel
theorem dX1_readNumber_30 : decode cX1_readNumber 30 = .ok (.aload_n 0, 1) := by decide +kernel
theorem dX1_readNumber_31 : decode cX1_readNumber 31 = .ok (.invokevirtual 80, 3) := by decide +kernel
theorem dX1_readNumber_34 : decode cX1_readNumber 34 = .ok (.bipush 48, 2) := by decide +kernel
theorem dX1_readNumber_36 : decode cX1_readNumber 36 = .ok (.isub, 1) := by decide +kernel
theorem dX1_readNumber_37 : decode cX1_readNumber 37 = .ok (.istore_n 2, 1) := by decide +kernel
theorem dX1_readNumber_38 : decode cX1_readNumber 38 = .ok (.iload_n 1, 1) := by decide +kernel
theorem dX1_readNumber_39 : decode cX1_readNumber 39 = .ok (.ifCond .eq 13, 3) := by decide +kernel
theorem dX1_readNumber_42 : decode cX1_readNumber 42 = .ok (.iload_n 2, 1) := by decide +kernel
theorem dX1_readNumber_43 : decode cX1_readNumber 43 = .ok (.ifCond .lt 9, 3) := by decide +kernel
theorem dX1_readNumber_46 : decode cX1_readNumber 46 = .ok (.iload_n 2, 1) := by decide +kernel
theorem dX1_readNumber_47 : decode cX1_readNumber 47 = .ok (.bipush 9, 2) := by decide +kernel
theorem dX1_readNumber_49 : decode cX1_readNumber 49 = .ok (.if_icmp .le 5, 3) := by decide +kernel
theorem dX1_readNumber_52 : decode cX1_readNumber 52 = .ok (.iload_n 1, 1) := by decide +kernel
theorem dX1_readNumber_53 : decode cX1_readNumber 53 = .ok (.ireturn, 1) := by decide +kernel
theorem dX1_readNumber_54 : decode cX1_readNumber 54 = .ok (.aload_n 0, 1) := by decide +kernel
theorem dX1_readNumber_55 : decode cX1_readNumber 55 = .ok (.dup, 1) := by decide +kernel
theorem dX1_readNumber_56 : decode cX1_readNumber 56 = .ok (.getfield 29, 3) := by decide +kernel
theorem dX1_readNumber_59 : decode cX1_readNumber 59 = .ok (.iconst 1, 1) := by decide +kernel
theorem dX1_readNumber_60 : decode cX1_readNumber 60 = .ok (.iadd, 1) := by decide +kernel
theorem dX1_readNumber_61 : decode cX1_readNumber 61 = .ok (.putfield 29, 3) := by decide +kernel
theorem dX1_readNumber_64 : decode cX1_readNumber 64 = .ok (.bipush 10, 2) := by decide +kernel
theorem dX1_readNumber_66 : decode cX1_readNumber 66 = .ok (.iload_n 1, 1) := by decide +kernel
theorem dX1_readNumber_67 : decode cX1_readNumber 67 = .ok (.imul, 1) := by decide +kernel
theorem dX1_readNumber_68 : decode cX1_readNumber 68 = .ok (.iload_n 2, 1) := by decide +kernel
theorem dX1_readNumber_69 : decode cX1_readNumber 69 = .ok (.iadd, 1) := by decide +kernel
theorem dX1_readNumber_70 : decode cX1_readNumber 70 = .ok (.ireturn, 1) := by decide +kernel
set_option maxRecDepth 100000 in
set_option maxHeartbeats 4000000 in
theorem s_readNumber (l : Launch) (g : zG) (h : Hp) (k t : Nat) (SF NF tf tp : Nat → Int32) (e : Nat) (s : pst) (T : tRow g h k t tp e) (hw : s.2.1 = false) (hs : s.1 ≤ e) : Sp l g yX1_readNumber cX1_readNumber 3 (some .int) (rmz 2) [.ref k] (hC g h k t SF NF tf s) (zI fun r h' => r = (if bI (48 ≤ hre tp e s ∧ hre tp e s ≤ 57) = 0 then -1 else nI (figP tp e s).1) ∧ h' = hC g h k t SF NF tf (figP tp e s).2) := by
  refine Sp.of [some (.ref k), none, none] (by decide) (Nat.le_of_ble_eq_true rfl) rfl rfl ?_
  rintro X rfl hr rfl B
  show AW X 0 0 0 _ _ _ _
  obtain ⟨p, w, P⟩ := s
  cases hw
  have hs : p ≤ e := hs
  by_cases hD : bI (48 ≤ hre tp e (p, false, P) ∧ hre tp e (p, false, P) ≤ 57) = 0
  · refine aw_aload_n B 0 rfl dX1_readNumber_0 rfl ?_
    refine aw_callV B 0 0 (s_signHere _ _ _ k t SF NF tf tp e (p, false, P) T hs) co_X1_signHere k_X1_80 dX1_readNumber_1 hC_o rfl rfl rfl rfl (Nat.le_of_ble_eq_true rfl) (zrm hr (by omega)) (Nat.le_refl _) (Nat.le_refl _) (kI fun r1 h1 hp1 => ?_)
    obtain ⟨rfl, rfl⟩ := hp1
    refine aw_bipush B 48 (by decide) dX1_readNumber_4 ?_
    refine aw_isub B dX1_readNumber_6 ?_
    refine aw_istore1 B dX1_readNumber_7 ?_
    refine aw_iload_n B 1 rfl dX1_readNumber_8 rfl ?_
    refine aw_if_lt B 18 dX1_readNumber_9 (fun c9 => ?_) (fun c9 => ?_)
    · refine aw_iconst B (-1) (by decide) dX1_readNumber_18 ?_
      refine aw_iret B rfl rfl dX1_readNumber_19 ?_
      exact ⟨_, rfl, by rw [if_pos hD], by unfold figP; rw [if_neg Bool.false_ne_true, if_pos hD]; rfl⟩
    · refine aw_iload_n B 1 rfl dX1_readNumber_12 rfl ?_
      refine aw_bipush B 9 (by decide) dX1_readNumber_13 ?_
      refine aw_icmp_le B 20 dX1_readNumber_15 (fun c15 => absurd hD (nd_48 c9 c15)) (fun c15 => ?_)
      refine aw_iconst B (-1) (by decide) dX1_readNumber_18 ?_
      refine aw_iret B rfl rfl dX1_readNumber_19 ?_
      exact ⟨_, rfl, by rw [if_pos hD], by unfold figP; rw [if_neg Bool.false_ne_true, if_pos hD]; rfl⟩
  · obtain ⟨d, hd9, ed, edv⟩ := isD_c hD
    have hlt : p + 1 ≤ e := dig_lt (s := (p, false, P)) hD
    have e48 := e_48 ed
    by_cases hd0 : d = 0
    · refine aw_aload_n B 0 rfl dX1_readNumber_0 rfl ?_
      refine aw_callV B 0 0 (s_signHere _ _ _ k t SF NF tf tp e (p, false, P) T hs) co_X1_signHere k_X1_80 dX1_readNumber_1 hC_o rfl rfl rfl rfl (Nat.le_of_ble_eq_true rfl) (zrm hr (by omega)) (Nat.le_refl _) (Nat.le_refl _) (kI fun r1 h1 hp1 => ?_)
      obtain ⟨rfl, rfl⟩ := hp1
      refine aw_bipush B 48 (by decide) dX1_readNumber_4 ?_
      refine aw_isub B dX1_readNumber_6 ?_
      rw [e48]
      refine aw_istore1 B dX1_readNumber_7 ?_
      refine aw_iload_n B 1 rfl dX1_readNumber_8 rfl ?_
      refine aw_if_lt B 18 dX1_readNumber_9 (fun c9 => absurd c9 (Int32.not_lt.mpr (nI_pos' (by omega)))) (fun c9 => ?_)
      refine aw_iload_n B 1 rfl dX1_readNumber_12 rfl ?_
      refine aw_bipush B 9 (by decide) dX1_readNumber_13 ?_
      refine aw_icmp_le B 20 dX1_readNumber_15 (fun c15 => ?_) (fun c15 => absurd (show nI d ≤ nI 9 from nI_le hd9 (by decide)) c15)
      refine aw_aload_n B 0 rfl dX1_readNumber_20 rfl ?_
      refine aw_dup B rfl dX1_readNumber_21 ?_
      refine aw_get B f_X1_29 dX1_readNumber_22 hC_o rfl ?_
      refine aw_iconst B 1 (by decide) dX1_readNumber_25 ?_
      refine aw_iadd B dX1_readNumber_26 ?_
      refine c_ppl B f_X1_29 (p + 1) (nI_1 p) dX1_readNumber_27 ?_
      refine aw_aload_n B 0 rfl dX1_readNumber_30 rfl ?_
      refine aw_callV B 0 0 (s_signHere _ _ _ k t SF NF tf tp e (adv (p, false, P)) T hlt) co_X1_signHere k_X1_80 dX1_readNumber_31 hC_o rfl rfl rfl rfl (Nat.le_of_ble_eq_true rfl) (zrm hr (by omega)) (Nat.le_refl _) (Nat.le_refl _) (kI fun r31 h31 hp31 => ?_)
      obtain ⟨rfl, rfl⟩ := hp31
      refine aw_bipush B 48 (by decide) dX1_readNumber_34 ?_
      refine aw_isub B dX1_readNumber_36 ?_
      refine aw_istore2 B dX1_readNumber_37 ?_
      refine aw_iload_n B 1 rfl dX1_readNumber_38 rfl ?_
      refine aw_if_eq B 52 dX1_readNumber_39 (fun c39 => ?_) (fun c39 => absurd (by rw [hd0]; rfl) c39)
      refine aw_iload_n B 1 rfl dX1_readNumber_52 rfl ?_
      refine aw_iret B rfl rfl dX1_readNumber_53 ?_
      exact ⟨_, rfl, by rw [if_neg hD]; unfold figP; rw [if_neg Bool.false_ne_true, if_neg hD, edv, if_pos hd0], by unfold figP; rw [if_neg Bool.false_ne_true, if_neg hD, edv, if_pos hd0]⟩
    · by_cases hD2 : bI (48 ≤ hre tp e (adv (p, false, P)) ∧ hre tp e (adv (p, false, P)) ≤ 57) = 0
      · refine aw_aload_n B 0 rfl dX1_readNumber_0 rfl ?_
        refine aw_callV B 0 0 (s_signHere _ _ _ k t SF NF tf tp e (p, false, P) T hs) co_X1_signHere k_X1_80 dX1_readNumber_1 hC_o rfl rfl rfl rfl (Nat.le_of_ble_eq_true rfl) (zrm hr (by omega)) (Nat.le_refl _) (Nat.le_refl _) (kI fun r1 h1 hp1 => ?_)
        obtain ⟨rfl, rfl⟩ := hp1
        refine aw_bipush B 48 (by decide) dX1_readNumber_4 ?_
        refine aw_isub B dX1_readNumber_6 ?_
        rw [e48]
        refine aw_istore1 B dX1_readNumber_7 ?_
        refine aw_iload_n B 1 rfl dX1_readNumber_8 rfl ?_
        refine aw_if_lt B 18 dX1_readNumber_9 (fun c9 => absurd c9 (Int32.not_lt.mpr (nI_pos' (by omega)))) (fun c9 => ?_)
        refine aw_iload_n B 1 rfl dX1_readNumber_12 rfl ?_
        refine aw_bipush B 9 (by decide) dX1_readNumber_13 ?_
        refine aw_icmp_le B 20 dX1_readNumber_15 (fun c15 => ?_) (fun c15 => absurd (show nI d ≤ nI 9 from nI_le hd9 (by decide)) c15)
        refine aw_aload_n B 0 rfl dX1_readNumber_20 rfl ?_
        refine aw_dup B rfl dX1_readNumber_21 ?_
        refine aw_get B f_X1_29 dX1_readNumber_22 hC_o rfl ?_
        refine aw_iconst B 1 (by decide) dX1_readNumber_25 ?_
        refine aw_iadd B dX1_readNumber_26 ?_
        refine c_ppl B f_X1_29 (p + 1) (nI_1 p) dX1_readNumber_27 ?_
        refine aw_aload_n B 0 rfl dX1_readNumber_30 rfl ?_
        refine aw_callV B 0 0 (s_signHere _ _ _ k t SF NF tf tp e (adv (p, false, P)) T hlt) co_X1_signHere k_X1_80 dX1_readNumber_31 hC_o rfl rfl rfl rfl (Nat.le_of_ble_eq_true rfl) (zrm hr (by omega)) (Nat.le_refl _) (Nat.le_refl _) (kI fun r31 h31 hp31 => ?_)
        obtain ⟨rfl, rfl⟩ := hp31
        refine aw_bipush B 48 (by decide) dX1_readNumber_34 ?_
        refine aw_isub B dX1_readNumber_36 ?_
        refine aw_istore2 B dX1_readNumber_37 ?_
        refine aw_iload_n B 1 rfl dX1_readNumber_38 rfl ?_
        refine aw_if_eq B 52 dX1_readNumber_39 (fun c39 => absurd c39 (nI_ne0 (by omega) (by omega))) (fun c39 => ?_)
        refine aw_iload_n B 2 rfl dX1_readNumber_42 rfl ?_
        refine aw_if_lt B 52 dX1_readNumber_43 (fun c43 => ?_) (fun c43 => ?_)
        · refine aw_iload_n B 1 rfl dX1_readNumber_52 rfl ?_
          refine aw_iret B rfl rfl dX1_readNumber_53 ?_
          exact ⟨_, rfl, by rw [if_neg hD]; unfold figP; rw [if_neg Bool.false_ne_true, if_neg hD, edv, if_neg hd0, if_pos hD2], by unfold figP; rw [if_neg Bool.false_ne_true, if_neg hD, edv, if_neg hd0, if_pos hD2]⟩
        · refine aw_iload_n B 2 rfl dX1_readNumber_46 rfl ?_
          refine aw_bipush B 9 (by decide) dX1_readNumber_47 ?_
          refine aw_icmp_le B 54 dX1_readNumber_49 (fun c49 => absurd hD2 (nd_48 c43 c49)) (fun c49 => ?_)
          refine aw_iload_n B 1 rfl dX1_readNumber_52 rfl ?_
          refine aw_iret B rfl rfl dX1_readNumber_53 ?_
          exact ⟨_, rfl, by rw [if_neg hD]; unfold figP; rw [if_neg Bool.false_ne_true, if_neg hD, edv, if_neg hd0, if_pos hD2], by unfold figP; rw [if_neg Bool.false_ne_true, if_neg hD, edv, if_neg hd0, if_pos hD2]⟩
      · obtain ⟨d2, hd29, ed2, edv2⟩ := isD_c hD2
        have hlt2 : p + 1 + 1 ≤ e := dig_lt (s := adv (p, false, P)) hD2
        have e482 := e_48 ed2
        refine aw_aload_n B 0 rfl dX1_readNumber_0 rfl ?_
        refine aw_callV B 0 0 (s_signHere _ _ _ k t SF NF tf tp e (p, false, P) T hs) co_X1_signHere k_X1_80 dX1_readNumber_1 hC_o rfl rfl rfl rfl (Nat.le_of_ble_eq_true rfl) (zrm hr (by omega)) (Nat.le_refl _) (Nat.le_refl _) (kI fun r1 h1 hp1 => ?_)
        obtain ⟨rfl, rfl⟩ := hp1
        refine aw_bipush B 48 (by decide) dX1_readNumber_4 ?_
        refine aw_isub B dX1_readNumber_6 ?_
        rw [e48]
        refine aw_istore1 B dX1_readNumber_7 ?_
        refine aw_iload_n B 1 rfl dX1_readNumber_8 rfl ?_
        refine aw_if_lt B 18 dX1_readNumber_9 (fun c9 => absurd c9 (Int32.not_lt.mpr (nI_pos' (by omega)))) (fun c9 => ?_)
        refine aw_iload_n B 1 rfl dX1_readNumber_12 rfl ?_
        refine aw_bipush B 9 (by decide) dX1_readNumber_13 ?_
        refine aw_icmp_le B 20 dX1_readNumber_15 (fun c15 => ?_) (fun c15 => absurd (show nI d ≤ nI 9 from nI_le hd9 (by decide)) c15)
        refine aw_aload_n B 0 rfl dX1_readNumber_20 rfl ?_
        refine aw_dup B rfl dX1_readNumber_21 ?_
        refine aw_get B f_X1_29 dX1_readNumber_22 hC_o rfl ?_
        refine aw_iconst B 1 (by decide) dX1_readNumber_25 ?_
        refine aw_iadd B dX1_readNumber_26 ?_
        refine c_ppl B f_X1_29 (p + 1) (nI_1 p) dX1_readNumber_27 ?_
        refine aw_aload_n B 0 rfl dX1_readNumber_30 rfl ?_
        refine aw_callV B 0 0 (s_signHere _ _ _ k t SF NF tf tp e (adv (p, false, P)) T hlt) co_X1_signHere k_X1_80 dX1_readNumber_31 hC_o rfl rfl rfl rfl (Nat.le_of_ble_eq_true rfl) (zrm hr (by omega)) (Nat.le_refl _) (Nat.le_refl _) (kI fun r31 h31 hp31 => ?_)
        obtain ⟨rfl, rfl⟩ := hp31
        refine aw_bipush B 48 (by decide) dX1_readNumber_34 ?_
        refine aw_isub B dX1_readNumber_36 ?_
        rw [e482]
        refine aw_istore2 B dX1_readNumber_37 ?_
        refine aw_iload_n B 1 rfl dX1_readNumber_38 rfl ?_
        refine aw_if_eq B 52 dX1_readNumber_39 (fun c39 => absurd c39 (nI_ne0 (by omega) (by omega))) (fun c39 => ?_)
        refine aw_iload_n B 2 rfl dX1_readNumber_42 rfl ?_
        refine aw_if_lt B 52 dX1_readNumber_43 (fun c43 => absurd c43 (Int32.not_lt.mpr (nI_pos' (by omega)))) (fun c43 => ?_)
        refine aw_iload_n B 2 rfl dX1_readNumber_46 rfl ?_
        refine aw_bipush B 9 (by decide) dX1_readNumber_47 ?_
        refine aw_icmp_le B 54 dX1_readNumber_49 (fun c49 => ?_) (fun c49 => absurd (show nI d2 ≤ nI 9 from nI_le hd29 (by decide)) c49)
        refine aw_aload_n B 0 rfl dX1_readNumber_54 rfl ?_
        refine aw_dup B rfl dX1_readNumber_55 ?_
        refine aw_get B f_X1_29 dX1_readNumber_56 hC_o rfl ?_
        refine aw_iconst B 1 (by decide) dX1_readNumber_59 ?_
        refine aw_iadd B dX1_readNumber_60 ?_
        refine c_ppl B f_X1_29 (p + 1 + 1) (nI_1 (p + 1)) dX1_readNumber_61 ?_
        refine aw_bipush B 10 (by decide) dX1_readNumber_64 ?_
        refine aw_iload_n B 1 rfl dX1_readNumber_66 rfl ?_
        refine aw_imul B dX1_readNumber_67 ?_
        refine aw_iload_n B 2 rfl dX1_readNumber_68 rfl ?_
        refine aw_iadd B dX1_readNumber_69 ?_
        rw [show (10 : Int32) * nI d = nI (10 * d) from pk_mul 10 d, nI_add]
        refine aw_iret B rfl rfl dX1_readNumber_70 ?_
        exact ⟨_, rfl, by rw [if_neg hD]; unfold figP; rw [if_neg Bool.false_ne_true, if_neg hD, edv, if_neg hd0, if_neg hD2, edv2], by unfold figP; rw [if_neg Bool.false_ne_true, if_neg hD, edv, if_neg hd0, if_neg hD2]; rfl⟩
