/-! readers are made -/
def rmc (d c s : Nat) : Room := { frames := d, cells := c, slots := s, locals := 64 * d }
theorem zrc {X : zX} {d c s d' c' s' maxL : Nat} (hr : zXr X = rmc d c s) (h : d' + 1 ≤ d ∧ 8 + (maxL + 11) + 64 * d' ≤ 64 * d) : zRoom (rmc d' c' s') X.2.2.2.2 maxL := by
  show _ + 1 ≤ (zXr X).frames ∧ _ ≤ (zXr X).locals
  rw [hr]
  exact h
theorem zrz {X : zX} {d c s d' maxL : Nat} (hr : zXr X = rmc d c s) (h : d' + 1 ≤ d ∧ 8 + (maxL + 11) + 64 * d' ≤ 64 * d) : zRoom (rmz d') X.2.2.2.2 maxL := zrc (c' := 0) (s' := 0) hr h
theorem mRo {X : zX} {d c s : Nat} (hr : zXr X = rmc d c s) (h : 1 ≤ d) : 1 ≤ X.2.2.2.2.frames ∧ 20 ≤ X.2.2.2.2.locals := by
  show 1 ≤ (zXr X).frames ∧ 20 ≤ (zXr X).locals
  rw [hr]
  exact ⟨h, by show 20 ≤ 64 * d; omega⟩
theorem hp_uu {h : Hp} {a : Nat} {e e' : va_E} : hp_up (hp_up h a e) a e' = hp_up h a e' := by
  refine Prod.ext rfl (funext fun b => ?_)
  show (if b = a then _ else (if b = a then _ else h.2 b)) = if b = a then _ else h.2 b
  by_cases hb : b = a
  · rw [if_pos hb, if_pos hb]
  · rw [if_neg hb, if_neg hb, if_neg hb]
theorem hp_un {h : Hp} {e e' : va_E} : hp_up (hp_new h e) h.1 e' = hp_new h e' := by
  refine Prod.ext rfl (funext fun b => ?_)
  show (if b = h.1 then _ else (if b = h.1 then _ else h.2 b)) = if b = h.1 then _ else h.2 b
  by_cases hb : b = h.1
  · rw [if_pos hb, if_pos hb]
  · rw [if_neg hb, if_neg hb, if_neg hb]
theorem hn_s {h : Hp} {e : va_E} : (hp_new h e).2 h.1 = some e := by
  show (if h.1 = h.1 then _ else _) = _
  rw [if_pos rfl]
theorem hn_n {h : Hp} {e : va_E} {a : Nat} (ha : a ≠ h.1) : (hp_new h e).2 a = h.2 a := by
  show (if a = h.1 then _ else _) = _
  rw [if_neg ha]
theorem aw_wf {X : zX} {rc rs pc : Nat} {lv : List (Option Value)} {st : List Value} {h : Hp} {Ko : Option Value → Hp → Prop} (kk : (∀ a e, h.2 a = some e → a < h.1) → AW X rc rs pc lv st h Ko) : AW X rc rs pc lv st h Ko := by
  intro H locs ls cells slots a1 a2 a3 a4 a5
  refine kk (fun a e he => ?_) H locs ls cells slots a1 a2 a3 a4 a5
  obtain ⟨b1, b2⟩ := a1.2.2.2 a e he
  rw [← a1.1]
  rcases e with e | e
  · exact (Array.getElem?_eq_some_iff.mp b2).1
  · obtain ⟨r', -, cell, g1, -⟩ := b2
    exact (Array.getElem?_eq_some_iff.mp g1).1
theorem nlk_9 : ∀ q ∈ zNF, ¬ (q.1 = "LowWater$Reader" ∧ q.2.1 = 9) := by decide +kernel
theorem nlk_15 : ∀ q ∈ zNF, ¬ (q.1 = "LowWater$Reader" ∧ q.2.1 = 15) := by decide +kernel
theorem dX6_init_0 : decode cX6_init 0 = .ok (.aload_n 0, 1) := by decide +kernel
theorem dX6_init_1 : decode cX6_init 1 = .ok (.invokespecial 3, 3) := by decide +kernel
theorem dX6_init_4 : decode cX6_init 4 = .ok (.aload_n 0, 1) := by decide +kernel
theorem dX6_init_5 : decode cX6_init 5 = .ok (.iload_n 1, 1) := by decide +kernel
theorem dX6_init_6 : decode cX6_init 6 = .ok (.putfield 9, 3) := by decide +kernel
theorem dX6_init_9 : decode cX6_init 9 = .ok (.aload_n 0, 1) := by decide +kernel
theorem dX6_init_10 : decode cX6_init 10 = .ok (.iload_n 2, 1) := by decide +kernel
theorem dX6_init_11 : decode cX6_init 11 = .ok (.putfield 15, 3) := by decide +kernel
theorem dX6_init_14 : decode cX6_init 14 = .ok (.return_, 1) := by decide +kernel
set_option maxRecDepth 100000 in
set_option maxHeartbeats 4000000 in
theorem s_ri6 (l : Launch) (g : zG) (h : Hp) (a : Nat) (num v : Int32) (c : Nat) (F9 : zFL "LowWater$Reader" 9 c 0 true true .int) (F15 : zFL "LowWater$Reader" 15 c 1 true true .int) (hh : h.2 a = some (.inr (c, [.int 0, .int 0]))) : Sp l g yX6_init cX6_init 3 none (rmz 1) [.ref a, .int num, .int v] (h) (zV fun h' => h' = hp_up h a (.inr (c, [.int num, .int v]))) := by
  refine Sp.of [some (.ref a), some (.int num), some (.int v)] (by decide) (Nat.le_of_ble_eq_true rfl) rfl rfl ?_
  rintro X rfl hr rfl B
  show AW X 0 0 0 _ _ _ _
  refine aw_aload_n B 0 rfl dX6_init_0 rfl ?_
  refine aw_objInit B k_X6_3 dX6_init_1 (Nat.le_of_ble_eq_true rfl) (mRo (c := 0) (s := 0) hr (by omega)) ?_
  refine aw_aload_n B 0 rfl dX6_init_4 rfl ?_
  refine aw_iload_n B 1 rfl dX6_init_5 rfl ?_
  refine aw_putF B rfl F9 nlk_9 dX6_init_6 hh rfl rfl (by show 0 < 2; decide) ?_
  refine aw_aload_n B 0 rfl dX6_init_9 rfl ?_
  refine aw_iload_n B 2 rfl dX6_init_10 rfl ?_
  refine aw_putF B rfl F15 nlk_15 dX6_init_11 hu_s rfl rfl (by show 1 < 2; decide) ?_
  rw [hp_uu]
  refine aw_vret B rfl dX6_init_14 ?_
  exact ⟨rfl, rfl⟩
theorem dX3_init_0 : decode cX3_init 0 = .ok (.aload_n 0, 1) := by decide +kernel
theorem dX3_init_1 : decode cX3_init 1 = .ok (.iload_n 1, 1) := by decide +kernel
theorem dX3_init_2 : decode cX3_init 2 = .ok (.iload_n 2, 1) := by decide +kernel
theorem dX3_init_3 : decode cX3_init 3 = .ok (.invokespecial 1, 3) := by decide +kernel
theorem dX3_init_6 : decode cX3_init 6 = .ok (.return_, 1) := by decide +kernel
set_option maxRecDepth 100000 in
set_option maxHeartbeats 4000000 in
theorem s_ri3 (l : Launch) (g : zG) (h : Hp) (a : Nat) (num v : Int32) (c : Nat) (F9 : zFL "LowWater$Reader" 9 c 0 true true .int) (F15 : zFL "LowWater$Reader" 15 c 1 true true .int) (hh : h.2 a = some (.inr (c, [.int 0, .int 0]))) : Sp l g yX3_init cX3_init 3 none (rmz 2) [.ref a, .int num, .int v] (h) (zV fun h' => h' = hp_up h a (.inr (c, [.int num, .int v]))) := by
  refine Sp.of [some (.ref a), some (.int num), some (.int v)] (by decide) (Nat.le_of_ble_eq_true rfl) rfl rfl ?_
  rintro X rfl hr rfl B
  show AW X 0 0 0 _ _ _ _
  refine aw_aload_n B 0 rfl dX3_init_0 rfl ?_
  refine aw_iload_n B 1 rfl dX3_init_1 rfl ?_
  refine aw_iload_n B 2 rfl dX3_init_2 rfl ?_
  refine aw_callI B 0 0 (s_ri6 _ _ _ a num v c F9 F15 hh) co_X6_init rfl k_X3_1 dX3_init_3 rfl rfl (Nat.le_of_ble_eq_true rfl) (zrm hr (by omega)) (Nat.le_refl _) (Nat.le_refl _) (kV fun h3 hp3 => ?_)
  obtain rfl := hp3
  refine aw_vret B rfl dX3_init_6 ?_
  exact ⟨rfl, rfl⟩
theorem dX2_init_0 : decode cX2_init 0 = .ok (.aload_n 0, 1) := by decide +kernel
theorem dX2_init_1 : decode cX2_init 1 = .ok (.iload_n 1, 1) := by decide +kernel
theorem dX2_init_2 : decode cX2_init 2 = .ok (.iload_n 2, 1) := by decide +kernel
theorem dX2_init_3 : decode cX2_init 3 = .ok (.invokespecial 1, 3) := by decide +kernel
theorem dX2_init_6 : decode cX2_init 6 = .ok (.return_, 1) := by decide +kernel
set_option maxRecDepth 100000 in
set_option maxHeartbeats 4000000 in
theorem s_ri2 (l : Launch) (g : zG) (h : Hp) (a : Nat) (num v : Int32) (c : Nat) (F9 : zFL "LowWater$Reader" 9 c 0 true true .int) (F15 : zFL "LowWater$Reader" 15 c 1 true true .int) (hh : h.2 a = some (.inr (c, [.int 0, .int 0]))) : Sp l g yX2_init cX2_init 3 none (rmz 2) [.ref a, .int num, .int v] (h) (zV fun h' => h' = hp_up h a (.inr (c, [.int num, .int v]))) := by
  refine Sp.of [some (.ref a), some (.int num), some (.int v)] (by decide) (Nat.le_of_ble_eq_true rfl) rfl rfl ?_
  rintro X rfl hr rfl B
  show AW X 0 0 0 _ _ _ _
  refine aw_aload_n B 0 rfl dX2_init_0 rfl ?_
  refine aw_iload_n B 1 rfl dX2_init_1 rfl ?_
  refine aw_iload_n B 2 rfl dX2_init_2 rfl ?_
  refine aw_callI B 0 0 (s_ri6 _ _ _ a num v c F9 F15 hh) co_X6_init rfl k_X2_1 dX2_init_3 rfl rfl (Nat.le_of_ble_eq_true rfl) (zrm hr (by omega)) (Nat.le_refl _) (Nat.le_refl _) (kV fun h3 hp3 => ?_)
  obtain rfl := hp3
  refine aw_vret B rfl dX2_init_6 ?_
  exact ⟨rfl, rfl⟩
theorem dX8_init_0 : decode cX8_init 0 = .ok (.aload_n 0, 1) := by decide +kernel
theorem dX8_init_1 : decode cX8_init 1 = .ok (.iload_n 1, 1) := by decide +kernel
theorem dX8_init_2 : decode cX8_init 2 = .ok (.iload_n 2, 1) := by decide +kernel
theorem dX8_init_3 : decode cX8_init 3 = .ok (.invokespecial 1, 3) := by decide +kernel
theorem dX8_init_6 : decode cX8_init 6 = .ok (.return_, 1) := by decide +kernel
set_option maxRecDepth 100000 in
set_option maxHeartbeats 4000000 in
theorem s_ri8 (l : Launch) (g : zG) (h : Hp) (a : Nat) (num v : Int32) (c : Nat) (F9 : zFL "LowWater$Reader" 9 c 0 true true .int) (F15 : zFL "LowWater$Reader" 15 c 1 true true .int) (hh : h.2 a = some (.inr (c, [.int 0, .int 0]))) : Sp l g yX8_init cX8_init 3 none (rmz 2) [.ref a, .int num, .int v] (h) (zV fun h' => h' = hp_up h a (.inr (c, [.int num, .int v]))) := by
  refine Sp.of [some (.ref a), some (.int num), some (.int v)] (by decide) (Nat.le_of_ble_eq_true rfl) rfl rfl ?_
  rintro X rfl hr rfl B
  show AW X 0 0 0 _ _ _ _
  refine aw_aload_n B 0 rfl dX8_init_0 rfl ?_
  refine aw_iload_n B 1 rfl dX8_init_1 rfl ?_
  refine aw_iload_n B 2 rfl dX8_init_2 rfl ?_
  refine aw_callI B 0 0 (s_ri6 _ _ _ a num v c F9 F15 hh) co_X6_init rfl k_X8_1 dX8_init_3 rfl rfl (Nat.le_of_ble_eq_true rfl) (zrm hr (by omega)) (Nat.le_refl _) (Nat.le_refl _) (kV fun h3 hp3 => ?_)
  obtain rfl := hp3
  refine aw_vret B rfl dX8_init_6 ?_
  exact ⟨rfl, rfl⟩
theorem dX5_init_0 : decode cX5_init 0 = .ok (.aload_n 0, 1) := by decide +kernel
theorem dX5_init_1 : decode cX5_init 1 = .ok (.iload_n 1, 1) := by decide +kernel
theorem dX5_init_2 : decode cX5_init 2 = .ok (.iload_n 2, 1) := by decide +kernel
theorem dX5_init_3 : decode cX5_init 3 = .ok (.invokespecial 1, 3) := by decide +kernel
theorem dX5_init_6 : decode cX5_init 6 = .ok (.return_, 1) := by decide +kernel
set_option maxRecDepth 100000 in
set_option maxHeartbeats 4000000 in
theorem s_ri5 (l : Launch) (g : zG) (h : Hp) (a : Nat) (num v : Int32) (c : Nat) (F9 : zFL "LowWater$Reader" 9 c 0 true true .int) (F15 : zFL "LowWater$Reader" 15 c 1 true true .int) (hh : h.2 a = some (.inr (c, [.int 0, .int 0]))) : Sp l g yX5_init cX5_init 3 none (rmz 3) [.ref a, .int num, .int v] (h) (zV fun h' => h' = hp_up h a (.inr (c, [.int num, .int v]))) := by
  refine Sp.of [some (.ref a), some (.int num), some (.int v)] (by decide) (Nat.le_of_ble_eq_true rfl) rfl rfl ?_
  rintro X rfl hr rfl B
  show AW X 0 0 0 _ _ _ _
  refine aw_aload_n B 0 rfl dX5_init_0 rfl ?_
  refine aw_iload_n B 1 rfl dX5_init_1 rfl ?_
  refine aw_iload_n B 2 rfl dX5_init_2 rfl ?_
  refine aw_callI B 0 0 (s_ri3 _ _ _ a num v c F9 F15 hh) co_X3_init rfl k_X5_1 dX5_init_3 rfl rfl (Nat.le_of_ble_eq_true rfl) (zrm hr (by omega)) (Nat.le_refl _) (Nat.le_refl _) (kV fun h3 hp3 => ?_)
  obtain rfl := hp3
  refine aw_vret B rfl dX5_init_6 ?_
  exact ⟨rfl, rfl⟩
theorem dX0_init_0 : decode cX0_init 0 = .ok (.aload_n 0, 1) := by decide +kernel
theorem dX0_init_1 : decode cX0_init 1 = .ok (.iload_n 1, 1) := by decide +kernel
theorem dX0_init_2 : decode cX0_init 2 = .ok (.iload_n 2, 1) := by decide +kernel
theorem dX0_init_3 : decode cX0_init 3 = .ok (.invokespecial 1, 3) := by decide +kernel
theorem dX0_init_6 : decode cX0_init 6 = .ok (.return_, 1) := by decide +kernel
set_option maxRecDepth 100000 in
set_option maxHeartbeats 4000000 in
theorem s_ri0 (l : Launch) (g : zG) (h : Hp) (a : Nat) (num v : Int32) (c : Nat) (F9 : zFL "LowWater$Reader" 9 c 0 true true .int) (F15 : zFL "LowWater$Reader" 15 c 1 true true .int) (hh : h.2 a = some (.inr (c, [.int 0, .int 0]))) : Sp l g yX0_init cX0_init 3 none (rmz 3) [.ref a, .int num, .int v] (h) (zV fun h' => h' = hp_up h a (.inr (c, [.int num, .int v]))) := by
  refine Sp.of [some (.ref a), some (.int num), some (.int v)] (by decide) (Nat.le_of_ble_eq_true rfl) rfl rfl ?_
  rintro X rfl hr rfl B
  show AW X 0 0 0 _ _ _ _
  refine aw_aload_n B 0 rfl dX0_init_0 rfl ?_
  refine aw_iload_n B 1 rfl dX0_init_1 rfl ?_
  refine aw_iload_n B 2 rfl dX0_init_2 rfl ?_
  refine aw_callI B 0 0 (s_ri2 _ _ _ a num v c F9 F15 hh) co_X2_init rfl k_X0_1 dX0_init_3 rfl rfl (Nat.le_of_ble_eq_true rfl) (zrm hr (by omega)) (Nat.le_refl _) (Nat.le_refl _) (kV fun h3 hp3 => ?_)
  obtain rfl := hp3
  refine aw_vret B rfl dX0_init_6 ?_
  exact ⟨rfl, rfl⟩
theorem dX10_init_0 : decode cX10_init 0 = .ok (.aload_n 0, 1) := by decide +kernel
theorem dX10_init_1 : decode cX10_init 1 = .ok (.iload_n 1, 1) := by decide +kernel
theorem dX10_init_2 : decode cX10_init 2 = .ok (.iload_n 2, 1) := by decide +kernel
theorem dX10_init_3 : decode cX10_init 3 = .ok (.invokespecial 1, 3) := by decide +kernel
theorem dX10_init_6 : decode cX10_init 6 = .ok (.return_, 1) := by decide +kernel
set_option maxRecDepth 100000 in
set_option maxHeartbeats 4000000 in
theorem s_ri10 (l : Launch) (g : zG) (h : Hp) (a : Nat) (num v : Int32) (c : Nat) (F9 : zFL "LowWater$Reader" 9 c 0 true true .int) (F15 : zFL "LowWater$Reader" 15 c 1 true true .int) (hh : h.2 a = some (.inr (c, [.int 0, .int 0]))) : Sp l g yX10_init cX10_init 3 none (rmz 3) [.ref a, .int num, .int v] (h) (zV fun h' => h' = hp_up h a (.inr (c, [.int num, .int v]))) := by
  refine Sp.of [some (.ref a), some (.int num), some (.int v)] (by decide) (Nat.le_of_ble_eq_true rfl) rfl rfl ?_
  rintro X rfl hr rfl B
  show AW X 0 0 0 _ _ _ _
  refine aw_aload_n B 0 rfl dX10_init_0 rfl ?_
  refine aw_iload_n B 1 rfl dX10_init_1 rfl ?_
  refine aw_iload_n B 2 rfl dX10_init_2 rfl ?_
  refine aw_callI B 0 0 (s_ri8 _ _ _ a num v c F9 F15 hh) co_X8_init rfl k_X10_1 dX10_init_3 rfl rfl (Nat.le_of_ble_eq_true rfl) (zrm hr (by omega)) (Nat.le_refl _) (Nat.le_refl _) (kV fun h3 hp3 => ?_)
  obtain rfl := hp3
  refine aw_vret B rfl dX10_init_6 ?_
  exact ⟨rfl, rfl⟩
theorem dX11_newReader_0 : decode cX11_newReader 0 = .ok (.iload_n 0, 1) := by decide +kernel
theorem dX11_newReader_1 : decode cX11_newReader 1 = .ok (.tableswitch 99 1 6 #[39, 49, 59, 69, 79, 89], 39) := by decide +kernel
theorem dX11_newReader_40 : decode cX11_newReader 40 = .ok (.new 240, 3) := by decide +kernel
theorem dX11_newReader_43 : decode cX11_newReader 43 = .ok (.dup, 1) := by decide +kernel
theorem dX11_newReader_44 : decode cX11_newReader 44 = .ok (.iload_n 1, 1) := by decide +kernel
theorem dX11_newReader_45 : decode cX11_newReader 45 = .ok (.iload_n 2, 1) := by decide +kernel
theorem dX11_newReader_46 : decode cX11_newReader 46 = .ok (.invokespecial 242, 3) := by decide +kernel
theorem dX11_newReader_49 : decode cX11_newReader 49 = .ok (.areturn, 1) := by decide +kernel
theorem dX11_newReader_50 : decode cX11_newReader 50 = .ok (.new 244, 3) := by decide +kernel
theorem dX11_newReader_53 : decode cX11_newReader 53 = .ok (.dup, 1) := by decide +kernel
theorem dX11_newReader_54 : decode cX11_newReader 54 = .ok (.iload_n 1, 1) := by decide +kernel
theorem dX11_newReader_55 : decode cX11_newReader 55 = .ok (.iload_n 2, 1) := by decide +kernel
theorem dX11_newReader_56 : decode cX11_newReader 56 = .ok (.invokespecial 246, 3) := by decide +kernel
theorem dX11_newReader_59 : decode cX11_newReader 59 = .ok (.areturn, 1) := by decide +kernel
theorem dX11_newReader_60 : decode cX11_newReader 60 = .ok (.new 247, 3) := by decide +kernel
theorem dX11_newReader_63 : decode cX11_newReader 63 = .ok (.dup, 1) := by decide +kernel
theorem dX11_newReader_64 : decode cX11_newReader 64 = .ok (.iload_n 1, 1) := by decide +kernel
theorem dX11_newReader_65 : decode cX11_newReader 65 = .ok (.iload_n 2, 1) := by decide +kernel
theorem dX11_newReader_66 : decode cX11_newReader 66 = .ok (.invokespecial 249, 3) := by decide +kernel
theorem dX11_newReader_69 : decode cX11_newReader 69 = .ok (.areturn, 1) := by decide +kernel
theorem dX11_newReader_70 : decode cX11_newReader 70 = .ok (.new 250, 3) := by decide +kernel
theorem dX11_newReader_73 : decode cX11_newReader 73 = .ok (.dup, 1) := by decide +kernel
theorem dX11_newReader_74 : decode cX11_newReader 74 = .ok (.iload_n 1, 1) := by decide +kernel
theorem dX11_newReader_75 : decode cX11_newReader 75 = .ok (.iload_n 2, 1) := by decide +kernel
theorem dX11_newReader_76 : decode cX11_newReader 76 = .ok (.invokespecial 252, 3) := by decide +kernel
theorem dX11_newReader_79 : decode cX11_newReader 79 = .ok (.areturn, 1) := by decide +kernel
theorem dX11_newReader_80 : decode cX11_newReader 80 = .ok (.new 253, 3) := by decide +kernel
theorem dX11_newReader_83 : decode cX11_newReader 83 = .ok (.dup, 1) := by decide +kernel
theorem dX11_newReader_84 : decode cX11_newReader 84 = .ok (.iload_n 1, 1) := by decide +kernel
theorem dX11_newReader_85 : decode cX11_newReader 85 = .ok (.iload_n 2, 1) := by decide +kernel
theorem dX11_newReader_86 : decode cX11_newReader 86 = .ok (.invokespecial 255, 3) := by decide +kernel
theorem dX11_newReader_89 : decode cX11_newReader 89 = .ok (.areturn, 1) := by decide +kernel
theorem dX11_newReader_90 : decode cX11_newReader 90 = .ok (.new 256, 3) := by decide +kernel
theorem dX11_newReader_93 : decode cX11_newReader 93 = .ok (.dup, 1) := by decide +kernel
theorem dX11_newReader_94 : decode cX11_newReader 94 = .ok (.iload_n 1, 1) := by decide +kernel
theorem dX11_newReader_95 : decode cX11_newReader 95 = .ok (.iload_n 2, 1) := by decide +kernel
theorem dX11_newReader_96 : decode cX11_newReader 96 = .ok (.invokespecial 258, 3) := by decide +kernel
theorem dX11_newReader_99 : decode cX11_newReader 99 = .ok (.areturn, 1) := by decide +kernel
theorem dX11_newReader_100 : decode cX11_newReader 100 = .ok (.new 123, 3) := by decide +kernel
theorem dX11_newReader_103 : decode cX11_newReader 103 = .ok (.dup, 1) := by decide +kernel
theorem dX11_newReader_104 : decode cX11_newReader 104 = .ok (.iload_n 1, 1) := by decide +kernel
theorem dX11_newReader_105 : decode cX11_newReader 105 = .ok (.iload_n 2, 1) := by decide +kernel
theorem dX11_newReader_106 : decode cX11_newReader 106 = .ok (.invokespecial 259, 3) := by decide +kernel
theorem dX11_newReader_109 : decode cX11_newReader 109 = .ok (.areturn, 1) := by decide +kernel
set_option maxRecDepth 100000 in
set_option maxHeartbeats 4000000 in
theorem x_newReader (l : Launch) (g : zG) (h : Hp) (k : Nat) (num v : Int32) (hk : k ≤ 6) : Sp l g yX11_newReader cX11_newReader 3 (some (.object "LowWater$Reader")) (rmc 4 1 2) [.int (nI k), .int num, .int v] (h) (zO fun r h' => r = some h.1 ∧ h' = hp_new h (.inr (kc k, [.int num, .int v]))) := by
  refine Sp.of [some (.int (nI k)), some (.int num), some (.int v)] (by decide) (Nat.le_of_ble_eq_true rfl) rfl rfl ?_
  rintro X rfl hr rfl B
  show AW X 1 2 0 _ _ _ _
  refine aw_iload_n B 0 rfl dX11_newReader_0 rfl ?_
  rcases (show k = 0 ∨ k = 1 ∨ k = 2 ∨ k = 3 ∨ k = 4 ∨ k = 5 ∨ k = 6 by omega) with rfl | rfl | rfl | rfl | rfl | rfl | rfl
  · rw [show nI 0 = (0 : Int32) from rfl]
    refine aw_tableOut B 100 dX11_newReader_1 (by decide) ?_
    refine aw_new B 0 0 nw_X11_123 dX11_newReader_100 (Nat.le_refl _) (Nat.le_refl _) ?_
    refine aw_dup B rfl dX11_newReader_103 ?_
    refine aw_iload_n B 1 rfl dX11_newReader_104 rfl ?_
    refine aw_iload_n B 2 rfl dX11_newReader_105 rfl ?_
    refine aw_callI B 0 0 (s_ri6 _ _ _ h.1 num v 6 fr_X6_9_6 fr_X6_15_6 hn_s) co_X6_init rfl k_X11_259 dX11_newReader_106 rfl rfl (Nat.le_of_ble_eq_true rfl) (zrz hr (by omega)) (Nat.le_refl _) (Nat.le_refl _) (kV fun h3 hp3 => ?_)
    rw [hp_un] at hp3
    obtain rfl := hp3
    refine aw_aret (v := va_rf (some h.1)) B rfl (Or.inl ⟨_, rfl⟩) (Or.inr ⟨_, rfl⟩) dX11_newReader_109 ?_
    exact ⟨_, rfl, rfl, rfl⟩
  · rw [show nI 1 = (1 : Int32) from rfl]
    refine aw_tableIn (off := 39) B 40 dX11_newReader_1 (by decide) (by decide) (by decide) ?_
    refine aw_new B 0 0 nw_X11_240 dX11_newReader_40 (Nat.le_refl _) (Nat.le_refl _) ?_
    refine aw_dup B rfl dX11_newReader_43 ?_
    refine aw_iload_n B 1 rfl dX11_newReader_44 rfl ?_
    refine aw_iload_n B 2 rfl dX11_newReader_45 rfl ?_
    refine aw_callI B 0 0 (s_ri3 _ _ _ h.1 num v 3 fr_X6_9_3 fr_X6_15_3 hn_s) co_X3_init rfl k_X11_242 dX11_newReader_46 rfl rfl (Nat.le_of_ble_eq_true rfl) (zrz hr (by omega)) (Nat.le_refl _) (Nat.le_refl _) (kV fun h3 hp3 => ?_)
    rw [hp_un] at hp3
    obtain rfl := hp3
    refine aw_aret (v := va_rf (some h.1)) B rfl (Or.inl ⟨_, rfl⟩) (Or.inr ⟨_, rfl⟩) dX11_newReader_49 ?_
    exact ⟨_, rfl, rfl, rfl⟩
  · rw [show nI 2 = (2 : Int32) from rfl]
    refine aw_tableIn (off := 49) B 50 dX11_newReader_1 (by decide) (by decide) (by decide) ?_
    refine aw_new B 0 0 nw_X11_244 dX11_newReader_50 (Nat.le_refl _) (Nat.le_refl _) ?_
    refine aw_dup B rfl dX11_newReader_53 ?_
    refine aw_iload_n B 1 rfl dX11_newReader_54 rfl ?_
    refine aw_iload_n B 2 rfl dX11_newReader_55 rfl ?_
    refine aw_callI B 0 0 (s_ri2 _ _ _ h.1 num v 2 fr_X6_9_2 fr_X6_15_2 hn_s) co_X2_init rfl k_X11_246 dX11_newReader_56 rfl rfl (Nat.le_of_ble_eq_true rfl) (zrz hr (by omega)) (Nat.le_refl _) (Nat.le_refl _) (kV fun h3 hp3 => ?_)
    rw [hp_un] at hp3
    obtain rfl := hp3
    refine aw_aret (v := va_rf (some h.1)) B rfl (Or.inl ⟨_, rfl⟩) (Or.inr ⟨_, rfl⟩) dX11_newReader_59 ?_
    exact ⟨_, rfl, rfl, rfl⟩
  · rw [show nI 3 = (3 : Int32) from rfl]
    refine aw_tableIn (off := 59) B 60 dX11_newReader_1 (by decide) (by decide) (by decide) ?_
    refine aw_new B 0 0 nw_X11_247 dX11_newReader_60 (Nat.le_refl _) (Nat.le_refl _) ?_
    refine aw_dup B rfl dX11_newReader_63 ?_
    refine aw_iload_n B 1 rfl dX11_newReader_64 rfl ?_
    refine aw_iload_n B 2 rfl dX11_newReader_65 rfl ?_
    refine aw_callI B 0 0 (s_ri8 _ _ _ h.1 num v 8 fr_X6_9_8 fr_X6_15_8 hn_s) co_X8_init rfl k_X11_249 dX11_newReader_66 rfl rfl (Nat.le_of_ble_eq_true rfl) (zrz hr (by omega)) (Nat.le_refl _) (Nat.le_refl _) (kV fun h3 hp3 => ?_)
    rw [hp_un] at hp3
    obtain rfl := hp3
    refine aw_aret (v := va_rf (some h.1)) B rfl (Or.inl ⟨_, rfl⟩) (Or.inr ⟨_, rfl⟩) dX11_newReader_69 ?_
    exact ⟨_, rfl, rfl, rfl⟩
  · rw [show nI 4 = (4 : Int32) from rfl]
    refine aw_tableIn (off := 69) B 70 dX11_newReader_1 (by decide) (by decide) (by decide) ?_
    refine aw_new B 0 0 nw_X11_250 dX11_newReader_70 (Nat.le_refl _) (Nat.le_refl _) ?_
    refine aw_dup B rfl dX11_newReader_73 ?_
    refine aw_iload_n B 1 rfl dX11_newReader_74 rfl ?_
    refine aw_iload_n B 2 rfl dX11_newReader_75 rfl ?_
    refine aw_callI B 0 0 (s_ri5 _ _ _ h.1 num v 5 fr_X6_9_5 fr_X6_15_5 hn_s) co_X5_init rfl k_X11_252 dX11_newReader_76 rfl rfl (Nat.le_of_ble_eq_true rfl) (zrz hr (by omega)) (Nat.le_refl _) (Nat.le_refl _) (kV fun h3 hp3 => ?_)
    rw [hp_un] at hp3
    obtain rfl := hp3
    refine aw_aret (v := va_rf (some h.1)) B rfl (Or.inl ⟨_, rfl⟩) (Or.inr ⟨_, rfl⟩) dX11_newReader_79 ?_
    exact ⟨_, rfl, rfl, rfl⟩
  · rw [show nI 5 = (5 : Int32) from rfl]
    refine aw_tableIn (off := 79) B 80 dX11_newReader_1 (by decide) (by decide) (by decide) ?_
    refine aw_new B 0 0 nw_X11_253 dX11_newReader_80 (Nat.le_refl _) (Nat.le_refl _) ?_
    refine aw_dup B rfl dX11_newReader_83 ?_
    refine aw_iload_n B 1 rfl dX11_newReader_84 rfl ?_
    refine aw_iload_n B 2 rfl dX11_newReader_85 rfl ?_
    refine aw_callI B 0 0 (s_ri0 _ _ _ h.1 num v 0 fr_X6_9_0 fr_X6_15_0 hn_s) co_X0_init rfl k_X11_255 dX11_newReader_86 rfl rfl (Nat.le_of_ble_eq_true rfl) (zrz hr (by omega)) (Nat.le_refl _) (Nat.le_refl _) (kV fun h3 hp3 => ?_)
    rw [hp_un] at hp3
    obtain rfl := hp3
    refine aw_aret (v := va_rf (some h.1)) B rfl (Or.inl ⟨_, rfl⟩) (Or.inr ⟨_, rfl⟩) dX11_newReader_89 ?_
    exact ⟨_, rfl, rfl, rfl⟩
  · rw [show nI 6 = (6 : Int32) from rfl]
    refine aw_tableIn (off := 89) B 90 dX11_newReader_1 (by decide) (by decide) (by decide) ?_
    refine aw_new B 0 0 nw_X11_256 dX11_newReader_90 (Nat.le_refl _) (Nat.le_refl _) ?_
    refine aw_dup B rfl dX11_newReader_93 ?_
    refine aw_iload_n B 1 rfl dX11_newReader_94 rfl ?_
    refine aw_iload_n B 2 rfl dX11_newReader_95 rfl ?_
    refine aw_callI B 0 0 (s_ri10 _ _ _ h.1 num v 10 fr_X6_9_10 fr_X6_15_10 hn_s) co_X10_init rfl k_X11_258 dX11_newReader_96 rfl rfl (Nat.le_of_ble_eq_true rfl) (zrz hr (by omega)) (Nat.le_refl _) (Nat.le_refl _) (kV fun h3 hp3 => ?_)
    rw [hp_un] at hp3
    obtain rfl := hp3
    refine aw_aret (v := va_rf (some h.1)) B rfl (Or.inl ⟨_, rfl⟩) (Or.inr ⟨_, rfl⟩) dX11_newReader_99 ?_
    exact ⟨_, rfl, rfl, rfl⟩
