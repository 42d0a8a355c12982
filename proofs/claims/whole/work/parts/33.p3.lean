theorem am3_lt {a b c x : Int32} : ¬ am3 a b c x = 3 → am3 a b c x < 3 ∧ (x = a ∨ x = b ∨ x = c) := by
  unfold am3
  split
  · intro _; exact ⟨by omega, by simp [*]⟩
  · split
    · intro _; exact ⟨by omega, by simp [*]⟩
    · split
      · intro _; exact ⟨by omega, by simp [*]⟩
      · intro h; exact absurd rfl h
theorem gd_ok {e : Nat} {R : pP → Prop} {sub : pst → pst} (h : gd e R sub) {s : pst} (hs : s.1 ≤ e) (hl : s.2.2.length ≤ s.1) : (sub s).1 ≤ e ∧ (sub s).2.2.length ≤ (sub s).1 ∧ s.1 ≤ (sub s).1 := by
  by_cases w : s.2.1 = true
  · rw [h.1 s w]; exact ⟨hs, hl, Nat.le_refl _⟩
  · obtain ⟨g1, g2, R, g3, g4, -⟩ := h.2 s (by simpa using w) hs
    exact ⟨g2, by rw [g3, List.length_append]; omega, g1⟩
theorem gd_ok1 {e : Nat} {R : pP → Prop} {sub : pst → pst} (h : gd e R sub) {p : Nat} {P : pP} (hs : p + 1 ≤ e) (hl : P.length ≤ p) : (sub (p + 1, false, P)).1 ≤ e ∧ (sub (p + 1, false, P)).2.2.length + 1 ≤ (sub (p + 1, false, P)).1 ∧ p + 1 ≤ (sub (p + 1, false, P)).1 := by
  obtain ⟨g1, g2, R, g3, g4, -⟩ := h.2 (p + 1, false, P) rfl hs
  have g3 : (sub (p + 1, false, P)).2.2 = P ++ R := g3
  have g4 : R.length + (p + 1) ≤ (sub (p + 1, false, P)).1 := g4
  exact ⟨g2, by rw [g3, List.length_append]; omega, g1⟩
theorem em_len {x : Nat × Nat} {s : pst} : (emP x s).2.2.length ≤ s.2.2.length + 1 := by
  unfold emP
  split
  · omega
  · show (s.2.2 ++ [x]).length ≤ _
    rw [List.length_append]; show _ + 1 ≤ _; omega
def FacS (l : Launch) (g : zG) (h : Hp) (m : Nat) (F : Nat → Int32) (A : Nat → Nat → Int32) (c e o df : Nat) (sub : pst → pst) : Prop := ∀ s : pst, s.1 ≤ e → s.2.2.length ≤ s.1 → Sp l g yX12_factor cX12_factor 5 none (rmz df) [.ref m] (hP g h m F A c e o s) (zV fun h' => h' = hP g h m F A c e o (sub s))
def EvS (l : Launch) (g : zG) (h : Hp) (m : Nat) (F : Nat → Int32) (A : Nat → Nat → Int32) (c e o df : Nat) (sub : pst → pst) : Prop := ∀ s : pst, s.1 ≤ e → s.2.2.length ≤ s.1 → Sp l g yX12_every cX12_every 1 none (rmz df) [.ref m] (hP g h m F A c e o s) (zV fun h' => h' = hP g h m F A c e o (sub s))
def SoS (l : Launch) (g : zG) (h : Hp) (m : Nat) (F : Nat → Int32) (A : Nat → Nat → Int32) (c e o df : Nat) (sub : pst → pst) : Prop := ∀ s : pst, s.1 ≤ e → s.2.2.length ≤ s.1 → Sp l g yX12_some cX12_some 1 none (rmz df) [.ref m] (hP g h m F A c e o s) (zV fun h' => h' = hP g h m F A c e o (sub s))
theorem dX12_factor_0 : decode cX12_factor 0 = .ok (.aload_n 0, 1) := by decide +kernel
theorem dX12_factor_1 : decode cX12_factor 1 = .ok (.getfield 54, 3) := by decide +kernel
theorem dX12_factor_4 : decode cX12_factor 4 = .ok (.ifCond .eq 4, 3) := by decide +kernel
theorem dX12_factor_7 : decode cX12_factor 7 = .ok (.return_, 1) := by decide +kernel
theorem dX12_factor_8 : decode cX12_factor 8 = .ok (.aload_n 0, 1) := by decide +kernel
theorem dX12_factor_9 : decode cX12_factor 9 = .ok (.invokevirtual 58, 3) := by decide +kernel
theorem dX12_factor_12 : decode cX12_factor 12 = .ok (.istore_n 1, 1) := by decide +kernel
theorem dX12_factor_13 : decode cX12_factor 13 = .ok (.iload_n 1, 1) := by decide +kernel
theorem dX12_factor_14 : decode cX12_factor 14 = .ok (.bipush 33, 2) := by decide +kernel
theorem dX12_factor_16 : decode cX12_factor 16 = .ok (.if_icmp .eq 9, 3) := by decide +kernel
theorem dX12_factor_19 : decode cX12_factor 19 = .ok (.iload_n 1, 1) := by decide +kernel
theorem dX12_factor_20 : decode cX12_factor 20 = .ok (.bipush 40, 2) := by decide +kernel
theorem dX12_factor_22 : decode cX12_factor 22 = .ok (.if_icmp .ne 90, 3) := by decide +kernel
theorem dX12_factor_25 : decode cX12_factor 25 = .ok (.aload_n 0, 1) := by decide +kernel
theorem dX12_factor_26 : decode cX12_factor 26 = .ok (.aload_n 0, 1) := by decide +kernel
theorem dX12_factor_27 : decode cX12_factor 27 = .ok (.getfield 78, 3) := by decide +kernel
theorem dX12_factor_30 : decode cX12_factor 30 = .ok (.iconst 5, 1) := by decide +kernel
theorem dX12_factor_31 : decode cX12_factor 31 = .ok (.if_icmp .ne 7, 3) := by decide +kernel
theorem dX12_factor_34 : decode cX12_factor 34 = .ok (.iconst 1, 1) := by decide +kernel
theorem dX12_factor_35 : decode cX12_factor 35 = .ok (.goto 4, 3) := by decide +kernel
theorem dX12_factor_38 : decode cX12_factor 38 = .ok (.iconst 0, 1) := by decide +kernel
theorem dX12_factor_39 : decode cX12_factor 39 = .ok (.putfield 54, 3) := by decide +kernel
theorem dX12_factor_42 : decode cX12_factor 42 = .ok (.aload_n 0, 1) := by decide +kernel
theorem dX12_factor_43 : decode cX12_factor 43 = .ok (.dup, 1) := by decide +kernel
theorem dX12_factor_44 : decode cX12_factor 44 = .ok (.getfield 78, 3) := by decide +kernel
theorem dX12_factor_47 : decode cX12_factor 47 = .ok (.iconst 1, 1) := by decide +kernel
theorem dX12_factor_48 : decode cX12_factor 48 = .ok (.iadd, 1) := by decide +kernel
theorem dX12_factor_49 : decode cX12_factor 49 = .ok (.putfield 78, 3) := by decide +kernel
theorem dX12_factor_52 : decode cX12_factor 52 = .ok (.aload_n 0, 1) := by decide +kernel
theorem dX12_factor_53 : decode cX12_factor 53 = .ok (.dup, 1) := by decide +kernel
theorem dX12_factor_54 : decode cX12_factor 54 = .ok (.getfield 48, 3) := by decide +kernel
theorem dX12_factor_57 : decode cX12_factor 57 = .ok (.aload_n 0, 1) := by decide +kernel
theorem dX12_factor_58 : decode cX12_factor 58 = .ok (.getfield 54, 3) := by decide +kernel
theorem dX12_factor_61 : decode cX12_factor 61 = .ok (.ifCond .eq 7, 3) := by decide +kernel
theorem dX12_factor_64 : decode cX12_factor 64 = .ok (.iconst 0, 1) := by decide +kernel
theorem dX12_factor_65 : decode cX12_factor 65 = .ok (.goto 4, 3) := by decide +kernel
theorem dX12_factor_68 : decode cX12_factor 68 = .ok (.iconst 1, 1) := by decide +kernel
theorem dX12_factor_69 : decode cX12_factor 69 = .ok (.iadd, 1) := by decide +kernel
theorem dX12_factor_70 : decode cX12_factor 70 = .ok (.putfield 48, 3) := by decide +kernel
theorem dX12_factor_73 : decode cX12_factor 73 = .ok (.iload_n 1, 1) := by decide +kernel
theorem dX12_factor_74 : decode cX12_factor 74 = .ok (.bipush 33, 2) := by decide +kernel
theorem dX12_factor_76 : decode cX12_factor 76 = .ok (.if_icmp .ne 15, 3) := by decide +kernel
theorem dX12_factor_79 : decode cX12_factor 79 = .ok (.aload_n 0, 1) := by decide +kernel
theorem dX12_factor_80 : decode cX12_factor 80 = .ok (.invokevirtual 81, 3) := by decide +kernel
theorem dX12_factor_83 : decode cX12_factor 83 = .ok (.aload_n 0, 1) := by decide +kernel
theorem dX12_factor_84 : decode cX12_factor 84 = .ok (.iconst (-1), 1) := by decide +kernel
theorem dX12_factor_85 : decode cX12_factor 85 = .ok (.invokevirtual 84, 3) := by decide +kernel
theorem dX12_factor_88 : decode cX12_factor 88 = .ok (.goto 13, 3) := by decide +kernel
theorem dX12_factor_91 : decode cX12_factor 91 = .ok (.aload_n 0, 1) := by decide +kernel
theorem dX12_factor_92 : decode cX12_factor 92 = .ok (.invokevirtual 87, 3) := by decide +kernel
theorem dX12_factor_95 : decode cX12_factor 95 = .ok (.aload_n 0, 1) := by decide +kernel
theorem dX12_factor_96 : decode cX12_factor 96 = .ok (.bipush 41, 2) := by decide +kernel
theorem dX12_factor_98 : decode cX12_factor 98 = .ok (.invokevirtual 71, 3) := by decide +kernel
theorem dX12_factor_101 : decode cX12_factor 101 = .ok (.aload_n 0, 1) := by decide +kernel
theorem dX12_factor_102 : decode cX12_factor 102 = .ok (.dup, 1) := by decide +kernel
theorem dX12_factor_103 : decode cX12_factor 103 = .ok (.getfield 78, 3) := by decide +kernel
theorem dX12_factor_106 : decode cX12_factor 106 = .ok (.iconst 1, 1) := by decide +kernel
theorem dX12_factor_107 : decode cX12_factor 107 = .ok (.isub, 1) := by decide +kernel
theorem dX12_factor_108 : decode cX12_factor 108 = .ok (.putfield 78, 3) := by decide +kernel
theorem dX12_factor_111 : decode cX12_factor 111 = .ok (.return_, 1) := by decide +kernel
theorem dX12_factor_112 : decode cX12_factor 112 = .ok (.aload_n 0, 1) := by decide +kernel
theorem dX12_factor_113 : decode cX12_factor 113 = .ok (.ldc 90, 2) := by decide +kernel
theorem dX12_factor_115 : decode cX12_factor 115 = .ok (.invokevirtual 92, 3) := by decide +kernel
theorem dX12_factor_118 : decode cX12_factor 118 = .ok (.istore_n 2, 1) := by decide +kernel
theorem dX12_factor_119 : decode cX12_factor 119 = .ok (.aload_n 0, 1) := by decide +kernel
theorem dX12_factor_120 : decode cX12_factor 120 = .ok (.iload_n 2, 1) := by decide +kernel
theorem dX12_factor_121 : decode cX12_factor 121 = .ok (.iconst (-1), 1) := by decide +kernel
theorem dX12_factor_122 : decode cX12_factor 122 = .ok (.if_icmp .ne 7, 3) := by decide +kernel
theorem dX12_factor_125 : decode cX12_factor 125 = .ok (.iconst 1, 1) := by decide +kernel
theorem dX12_factor_126 : decode cX12_factor 126 = .ok (.goto 4, 3) := by decide +kernel
theorem dX12_factor_129 : decode cX12_factor 129 = .ok (.iconst 0, 1) := by decide +kernel
theorem dX12_factor_130 : decode cX12_factor 130 = .ok (.putfield 54, 3) := by decide +kernel
theorem dX12_factor_133 : decode cX12_factor 133 = .ok (.aload_n 0, 1) := by decide +kernel
theorem dX12_factor_134 : decode cX12_factor 134 = .ok (.getfield 54, 3) := by decide +kernel
theorem dX12_factor_137 : decode cX12_factor 137 = .ok (.ifCond .eq 7, 3) := by decide +kernel
theorem dX12_factor_140 : decode cX12_factor 140 = .ok (.iconst 0, 1) := by decide +kernel
theorem dX12_factor_141 : decode cX12_factor 141 = .ok (.goto 9, 3) := by decide +kernel
theorem dX12_factor_144 : decode cX12_factor 144 = .ok (.aload_n 0, 1) := by decide +kernel
theorem dX12_factor_145 : decode cX12_factor 145 = .ok (.ldc 96, 2) := by decide +kernel
theorem dX12_factor_147 : decode cX12_factor 147 = .ok (.invokevirtual 92, 3) := by decide +kernel
theorem dX12_factor_150 : decode cX12_factor 150 = .ok (.istore_n 3, 1) := by decide +kernel
theorem dX12_factor_151 : decode cX12_factor 151 = .ok (.aload_n 0, 1) := by decide +kernel
theorem dX12_factor_152 : decode cX12_factor 152 = .ok (.aload_n 0, 1) := by decide +kernel
theorem dX12_factor_153 : decode cX12_factor 153 = .ok (.getfield 54, 3) := by decide +kernel
theorem dX12_factor_156 : decode cX12_factor 156 = .ok (.ifCond .ne 8, 3) := by decide +kernel
theorem dX12_factor_159 : decode cX12_factor 159 = .ok (.iload_n 3, 1) := by decide +kernel
theorem dX12_factor_160 : decode cX12_factor 160 = .ok (.iconst (-1), 1) := by decide +kernel
theorem dX12_factor_161 : decode cX12_factor 161 = .ok (.if_icmp .ne 7, 3) := by decide +kernel
theorem dX12_factor_164 : decode cX12_factor 164 = .ok (.iconst 1, 1) := by decide +kernel
theorem dX12_factor_165 : decode cX12_factor 165 = .ok (.goto 4, 3) := by decide +kernel
theorem dX12_factor_168 : decode cX12_factor 168 = .ok (.iconst 0, 1) := by decide +kernel
theorem dX12_factor_169 : decode cX12_factor 169 = .ok (.putfield 54, 3) := by decide +kernel
theorem dX12_factor_172 : decode cX12_factor 172 = .ok (.aload_n 0, 1) := by decide +kernel
theorem dX12_factor_173 : decode cX12_factor 173 = .ok (.invokevirtual 98, 3) := by decide +kernel
theorem dX12_factor_176 : decode cX12_factor 176 = .ok (.istore 4, 2) := by decide +kernel
theorem dX12_factor_178 : decode cX12_factor 178 = .ok (.aload_n 0, 1) := by decide +kernel
theorem dX12_factor_179 : decode cX12_factor 179 = .ok (.iload_n 2, 1) := by decide +kernel
theorem dX12_factor_180 : decode cX12_factor 180 = .ok (.bipush 8, 2) := by decide +kernel
theorem dX12_factor_182 : decode cX12_factor 182 = .ok (.iload_n 3, 1) := by decide +kernel
theorem dX12_factor_183 : decode cX12_factor 183 = .ok (.imul, 1) := by decide +kernel
theorem dX12_factor_184 : decode cX12_factor 184 = .ok (.iadd, 1) := by decide +kernel
theorem dX12_factor_185 : decode cX12_factor 185 = .ok (.bipush 32, 2) := by decide +kernel
theorem dX12_factor_187 : decode cX12_factor 187 = .ok (.iload 4, 2) := by decide +kernel
theorem dX12_factor_189 : decode cX12_factor 189 = .ok (.imul, 1) := by decide +kernel
theorem dX12_factor_190 : decode cX12_factor 190 = .ok (.iadd, 1) := by decide +kernel
theorem dX12_factor_191 : decode cX12_factor 191 = .ok (.invokevirtual 84, 3) := by decide +kernel
theorem dX12_factor_194 : decode cX12_factor 194 = .ok (.return_, 1) := by decide +kernel
set_option maxRecDepth 100000 in
set_option maxHeartbeats 4000000 in
theorem s_facW (l : Launch) (g : zG) (h : Hp) (m : Nat) (F : Nat → Int32) (A : Nat → Nat → Int32) (c e o : Nat) (p : Nat) (P : pP) : Sp l g yX12_factor cX12_factor 5 none (rmz 1) [.ref m] (hP g h m F A c e o (p, true, P)) (zV fun h' => h' = hP g h m F A c e o (p, true, P)) := by
  refine Sp.of [some (.ref m), none, none, none, none] (by decide) (Nat.le_of_ble_eq_true rfl) rfl rfl ?_
  rintro X rfl hr rfl B
  show AW X 0 0 0 _ _ _ _
  refine aw_aload_n B 0 rfl dX12_factor_0 rfl ?_
  refine p_get B f_X12_54 dX12_factor_1 (pv_7) ?_
  refine aw_if_eq B 8 dX12_factor_4 (fun c4 => absurd c4 b2_t) (fun c4 => ?_)
  refine aw_vret B rfl dX12_factor_7 ?_
  exact ⟨rfl, rfl⟩
theorem dX12_every_0 : decode cX12_every 0 = .ok (.aload_n 0, 1) := by decide +kernel
theorem dX12_every_1 : decode cX12_every 1 = .ok (.invokevirtual 81, 3) := by decide +kernel
theorem dX12_every_4 : decode cX12_every 4 = .ok (.aload_n 0, 1) := by decide +kernel
theorem dX12_every_5 : decode cX12_every 5 = .ok (.getfield 54, 3) := by decide +kernel
theorem dX12_every_8 : decode cX12_every 8 = .ok (.ifCond .ne 35, 3) := by decide +kernel
theorem dX12_every_11 : decode cX12_every 11 = .ok (.aload_n 0, 1) := by decide +kernel
theorem dX12_every_12 : decode cX12_every 12 = .ok (.invokevirtual 58, 3) := by decide +kernel
theorem dX12_every_15 : decode cX12_every 15 = .ok (.bipush 38, 2) := by decide +kernel
theorem dX12_every_17 : decode cX12_every 17 = .ok (.if_icmp .ne 26, 3) := by decide +kernel
theorem dX12_every_20 : decode cX12_every 20 = .ok (.aload_n 0, 1) := by decide +kernel
theorem dX12_every_21 : decode cX12_every 21 = .ok (.dup, 1) := by decide +kernel
theorem dX12_every_22 : decode cX12_every 22 = .ok (.getfield 48, 3) := by decide +kernel
theorem dX12_every_25 : decode cX12_every 25 = .ok (.iconst 1, 1) := by decide +kernel
theorem dX12_every_26 : decode cX12_every 26 = .ok (.iadd, 1) := by decide +kernel
theorem dX12_every_27 : decode cX12_every 27 = .ok (.putfield 48, 3) := by decide +kernel
theorem dX12_every_30 : decode cX12_every 30 = .ok (.aload_n 0, 1) := by decide +kernel
theorem dX12_every_31 : decode cX12_every 31 = .ok (.invokevirtual 81, 3) := by decide +kernel
theorem dX12_every_34 : decode cX12_every 34 = .ok (.aload_n 0, 1) := by decide +kernel
theorem dX12_every_35 : decode cX12_every 35 = .ok (.bipush (-2), 2) := by decide +kernel
theorem dX12_every_37 : decode cX12_every 37 = .ok (.invokevirtual 84, 3) := by decide +kernel
theorem dX12_every_40 : decode cX12_every 40 = .ok (.goto (-36), 3) := by decide +kernel
theorem dX12_every_43 : decode cX12_every 43 = .ok (.return_, 1) := by decide +kernel
set_option maxRecDepth 100000 in
set_option maxHeartbeats 4000000 in
theorem s_evW (l : Launch) (g : zG) (h : Hp) (m : Nat) (F : Nat → Int32) (A : Nat → Nat → Int32) (c e o : Nat) (p : Nat) (P : pP) : Sp l g yX12_every cX12_every 1 none (rmz 2) [.ref m] (hP g h m F A c e o (p, true, P)) (zV fun h' => h' = hP g h m F A c e o (p, true, P)) := by
  refine Sp.of [some (.ref m)] (by decide) (Nat.le_of_ble_eq_true rfl) rfl rfl ?_
  rintro X rfl hr rfl B
  show AW X 0 0 0 _ _ _ _
  refine aw_aload_n B 0 rfl dX12_every_0 rfl ?_
  refine aw_callV B 0 0 (s_facW _ _ _ _ _ _ c e o p P) co_X12_factor k_X12_81 dX12_every_1 hP_o rfl rfl rfl rfl (Nat.le_of_ble_eq_true rfl) (zrm hr (by omega)) (Nat.le_refl _) (Nat.le_refl _) (kV fun h1 hp1 => ?_)
  subst hp1
  refine aw_aload_n B 0 rfl dX12_every_4 rfl ?_
  refine p_get B f_X12_54 dX12_every_5 (pv_7) ?_
  refine aw_if_ne B 43 dX12_every_8 (fun c8 => ?_) (fun c8 => absurd c8 b2_t)
  refine aw_vret B rfl dX12_every_43 ?_
  exact ⟨rfl, rfl⟩
theorem dX12_some_0 : decode cX12_some 0 = .ok (.aload_n 0, 1) := by decide +kernel
theorem dX12_some_1 : decode cX12_some 1 = .ok (.invokevirtual 101, 3) := by decide +kernel
theorem dX12_some_4 : decode cX12_some 4 = .ok (.aload_n 0, 1) := by decide +kernel
theorem dX12_some_5 : decode cX12_some 5 = .ok (.getfield 54, 3) := by decide +kernel
theorem dX12_some_8 : decode cX12_some 8 = .ok (.ifCond .ne 35, 3) := by decide +kernel
theorem dX12_some_11 : decode cX12_some 11 = .ok (.aload_n 0, 1) := by decide +kernel
theorem dX12_some_12 : decode cX12_some 12 = .ok (.invokevirtual 58, 3) := by decide +kernel
theorem dX12_some_15 : decode cX12_some 15 = .ok (.bipush 124, 2) := by decide +kernel
theorem dX12_some_17 : decode cX12_some 17 = .ok (.if_icmp .ne 26, 3) := by decide +kernel
theorem dX12_some_20 : decode cX12_some 20 = .ok (.aload_n 0, 1) := by decide +kernel
theorem dX12_some_21 : decode cX12_some 21 = .ok (.dup, 1) := by decide +kernel
theorem dX12_some_22 : decode cX12_some 22 = .ok (.getfield 48, 3) := by decide +kernel
theorem dX12_some_25 : decode cX12_some 25 = .ok (.iconst 1, 1) := by decide +kernel
theorem dX12_some_26 : decode cX12_some 26 = .ok (.iadd, 1) := by decide +kernel
theorem dX12_some_27 : decode cX12_some 27 = .ok (.putfield 48, 3) := by decide +kernel
theorem dX12_some_30 : decode cX12_some 30 = .ok (.aload_n 0, 1) := by decide +kernel
theorem dX12_some_31 : decode cX12_some 31 = .ok (.invokevirtual 101, 3) := by decide +kernel
theorem dX12_some_34 : decode cX12_some 34 = .ok (.aload_n 0, 1) := by decide +kernel
theorem dX12_some_35 : decode cX12_some 35 = .ok (.bipush (-3), 2) := by decide +kernel
theorem dX12_some_37 : decode cX12_some 37 = .ok (.invokevirtual 84, 3) := by decide +kernel
theorem dX12_some_40 : decode cX12_some 40 = .ok (.goto (-36), 3) := by decide +kernel
theorem dX12_some_43 : decode cX12_some 43 = .ok (.return_, 1) := by decide +kernel
set_option maxRecDepth 100000 in
set_option maxHeartbeats 4000000 in
theorem s_soW (l : Launch) (g : zG) (h : Hp) (m : Nat) (F : Nat → Int32) (A : Nat → Nat → Int32) (c e o : Nat) (p : Nat) (P : pP) : Sp l g yX12_some cX12_some 1 none (rmz 3) [.ref m] (hP g h m F A c e o (p, true, P)) (zV fun h' => h' = hP g h m F A c e o (p, true, P)) := by
  refine Sp.of [some (.ref m)] (by decide) (Nat.le_of_ble_eq_true rfl) rfl rfl ?_
  rintro X rfl hr rfl B
  show AW X 0 0 0 _ _ _ _
  refine aw_aload_n B 0 rfl dX12_some_0 rfl ?_
  refine aw_callV B 0 0 (s_evW _ _ _ _ _ _ c e o p P) co_X12_every k_X12_101 dX12_some_1 hP_o rfl rfl rfl rfl (Nat.le_of_ble_eq_true rfl) (zrm hr (by omega)) (Nat.le_refl _) (Nat.le_refl _) (kV fun h1 hp1 => ?_)
  subst hp1
  refine aw_aload_n B 0 rfl dX12_some_4 rfl ?_
  refine p_get B f_X12_54 dX12_some_5 (pv_7) ?_
  refine aw_if_ne B 43 dX12_some_8 (fun c8 => ?_) (fun c8 => absurd c8 b2_t)
  refine aw_vret B rfl dX12_some_43 ?_
  exact ⟨rfl, rfl⟩
set_option maxRecDepth 100000 in
set_option maxHeartbeats 4000000 in
theorem s_every (l : Launch) (g : zG) (h : Hp) (m : Nat) (F : Nat → Int32) (A : Nat → Nat → Int32) (c e o : Nat) (df k : Nat) (sub : pst → pst) (he : e ≤ 100) (hc : c < 5) (hd : 5 ≤ df) (hg : gd e (seg k) sub) (Hf : FacS l g h m F A c e o df sub) (s : pst) (hs : s.1 ≤ e) (hl : s.2.2.length ≤ s.1) : Sp l g yX12_every cX12_every 1 none (rmz (df + 1)) [.ref m] (hP g h m F A c e o s) (zV fun h' => h' = hP g h m F A c e o (tailP (tpA A) e sub 38 10 100 (sub s))) := by
  refine Sp.of [some (.ref m)] (by decide) (Nat.le_of_ble_eq_true rfl) rfl rfl ?_
  rintro X rfl hr rfl B
  show AW X 0 0 0 _ _ _ _
  have lp : ∀ (f : Nat) (s : pst), s.1 ≤ e → s.2.2.length ≤ s.1 → e ≤ s.1 + f → AW X 0 0 4 [some (.ref m)] [] (hP (zXg X) h m F A c e o s) (zV fun h' => h' = hP (zXg X) h m F A c e o (tailP (tpA A) e sub 38 10 f s)) := by
    intro f
    induction f with
    | zero =>
      intro s hs hl hf
      obtain ⟨p, w, P⟩ := s
      cases w with
      | true =>
        refine aw_aload_n B 0 rfl dX12_every_4 rfl ?_
        refine p_get B f_X12_54 dX12_every_5 (pv_7) ?_
        refine aw_if_ne B 43 dX12_every_8 (fun c8 => ?_) (fun c8 => absurd c8 b2_t)
        refine aw_vret B rfl dX12_every_43 ?_
        exact ⟨rfl, rfl⟩
      | false =>
        refine aw_aload_n B 0 rfl dX12_every_4 rfl ?_
        refine p_get B f_X12_54 dX12_every_5 (pv_7) ?_
        refine aw_if_ne B 43 dX12_every_8 (fun c8 => absurd b2_f c8) (fun c8 => ?_)
        refine aw_aload_n B 0 rfl dX12_every_11 rfl ?_
        refine aw_callV B 0 0 (s_here _ _ _ _ _ _ c e _ (p, false, P) he hs) co_X12_here k_X12_58 dX12_every_12 hP_o rfl rfl rfl rfl (Nat.le_of_ble_eq_true rfl) (zrm hr (by omega)) (Nat.le_refl _) (Nat.le_refl _) (kI fun r12 h12 hp12 => ?_)
        obtain ⟨rfl, rfl⟩ := hp12
        refine aw_bipush B 38 (by decide) dX12_every_15 ?_
        refine aw_icmp_ne B 43 dX12_every_17 (fun c17 => ?_) (fun c17 => absurd (Nat.lt_of_lt_of_le (hr_lt (s := (p, false, P)) c17 (by decide)) hf) (Nat.lt_irrefl _))
        refine aw_vret B rfl dX12_every_43 ?_
        exact ⟨rfl, rfl⟩
    | succ f ih =>
      intro s hs hl hf
      obtain ⟨p, w, P⟩ := s
      cases w with
      | true =>
        refine aw_aload_n B 0 rfl dX12_every_4 rfl ?_
        refine p_get B f_X12_54 dX12_every_5 (pv_7) ?_
        refine aw_if_ne B 43 dX12_every_8 (fun c8 => ?_) (fun c8 => absurd c8 b2_t)
        refine aw_vret B rfl dX12_every_43 ?_
        exact ⟨rfl, by rw [tailP, if_pos rfl]⟩
      | false =>
        have hl : P.length ≤ p := hl
        have hf : e ≤ p + (f + 1) := hf
        refine aw_aload_n B 0 rfl dX12_every_4 rfl ?_
        refine p_get B f_X12_54 dX12_every_5 (pv_7) ?_
        refine aw_if_ne B 43 dX12_every_8 (fun c8 => absurd b2_f c8) (fun c8 => ?_)
        refine aw_aload_n B 0 rfl dX12_every_11 rfl ?_
        refine aw_callV B 0 0 (s_here _ _ _ _ _ _ c e _ (p, false, P) he hs) co_X12_here k_X12_58 dX12_every_12 hP_o rfl rfl rfl rfl (Nat.le_of_ble_eq_true rfl) (zrm hr (by omega)) (Nat.le_refl _) (Nat.le_refl _) (kI fun r12 h12 hp12 => ?_)
        obtain ⟨rfl, rfl⟩ := hp12
        refine aw_bipush B 38 (by decide) dX12_every_15 ?_
        refine aw_icmp_ne B 43 dX12_every_17 (fun c17 => ?_) (fun c17 => ?_)
        · refine aw_vret B rfl dX12_every_43 ?_
          exact ⟨rfl, by rw [tailP, if_neg Bool.false_ne_true, if_neg c17]⟩
        · have hlt : p + 1 ≤ e := hr_lt (s := (p, false, P)) c17 (by decide)
          obtain ⟨q1, q2, q3⟩ := gd_ok1 hg hlt hl
          refine aw_aload_n B 0 rfl dX12_every_20 rfl ?_
          refine aw_dup B rfl dX12_every_21 ?_
          refine p_get B f_X12_48 dX12_every_22 (pv_5) ?_
          refine aw_iconst B 1 (by decide) dX12_every_25 ?_
          refine aw_iadd B dX12_every_26 ?_
          refine p_put5 B f_X12_48 (p + 1) (nI_1 p) dX12_every_27 ?_
          refine aw_aload_n B 0 rfl dX12_every_30 rfl ?_
          refine aw_callV B 0 0 (Hf (p + 1, false, P) hlt (by show P.length ≤ p + 1; omega)) co_X12_factor k_X12_81 dX12_every_31 hP_o rfl rfl rfl rfl (Nat.le_of_ble_eq_true rfl) (zrm hr (by omega)) (Nat.le_refl _) (Nat.le_refl _) (kV fun h31 hp31 => ?_)
          subst hp31
          refine aw_aload_n B 0 rfl dX12_every_34 rfl ?_
          refine aw_bipush B (-2) (by decide) dX12_every_35 ?_
          refine aw_callV B 0 0 (s_emits _ _ _ _ _ _ c e o (sub (p + 1, false, P)).1 (sub (p + 1, false, P)).2.1 (sub (p + 1, false, P)).2.2 (-2) (10, 0) hc (fun _ => ⟨by decide, by omega⟩)) co_X12_emits k_X12_84 dX12_every_37 hP_o rfl rfl rfl rfl (Nat.le_of_ble_eq_true rfl) (zrm hr (by omega)) (Nat.le_refl _) (Nat.le_refl _) (kV fun h37 hp37 => ?_)
          subst hp37
          refine aw_goto B 4 dX12_every_40 ?_
          rw [show tailP (tpA A) e sub 38 10 (f + 1) (p, false, P) = tailP (tpA A) e sub 38 10 f (emP (10, 0) (sub (p + 1, false, P))) from by rw [tailP, if_neg Bool.false_ne_true, if_pos c17]; rfl]
          exact ih (emP (10, 0) (sub (p + 1, false, P))) (by rw [em_w.1]; exact q1) (Nat.le_trans em_len (by rw [em_w.1]; exact q2)) (by rw [em_w.1]; omega)
  refine aw_aload_n B 0 rfl dX12_every_0 rfl ?_
  refine aw_callV B 0 0 (Hf s hs hl) co_X12_factor k_X12_81 dX12_every_1 hP_o rfl rfl rfl rfl (Nat.le_of_ble_eq_true rfl) (zrm hr (by omega)) (Nat.le_refl _) (Nat.le_refl _) (kV fun h1 hp1 => ?_)
  subst hp1
  obtain ⟨q1, q2, q3⟩ := gd_ok hg hs hl
  exact lp 100 _ q1 q2 (by omega)
set_option maxRecDepth 100000 in
set_option maxHeartbeats 4000000 in
theorem s_some (l : Launch) (g : zG) (h : Hp) (m : Nat) (F : Nat → Int32) (A : Nat → Nat → Int32) (c e o : Nat) (df k : Nat) (sub : pst → pst) (he : e ≤ 100) (hc : c < 5) (hd : 5 ≤ df) (hg : gd e (seg k) sub) (Hf : EvS l g h m F A c e o df sub) (s : pst) (hs : s.1 ≤ e) (hl : s.2.2.length ≤ s.1) : Sp l g yX12_some cX12_some 1 none (rmz (df + 1)) [.ref m] (hP g h m F A c e o s) (zV fun h' => h' = hP g h m F A c e o (tailP (tpA A) e sub 124 11 100 (sub s))) := by
  refine Sp.of [some (.ref m)] (by decide) (Nat.le_of_ble_eq_true rfl) rfl rfl ?_
  rintro X rfl hr rfl B
  show AW X 0 0 0 _ _ _ _
  have lp : ∀ (f : Nat) (s : pst), s.1 ≤ e → s.2.2.length ≤ s.1 → e ≤ s.1 + f → AW X 0 0 4 [some (.ref m)] [] (hP (zXg X) h m F A c e o s) (zV fun h' => h' = hP (zXg X) h m F A c e o (tailP (tpA A) e sub 124 11 f s)) := by
    intro f
    induction f with
    | zero =>
      intro s hs hl hf
      obtain ⟨p, w, P⟩ := s
      cases w with
      | true =>
        refine aw_aload_n B 0 rfl dX12_some_4 rfl ?_
        refine p_get B f_X12_54 dX12_some_5 (pv_7) ?_
        refine aw_if_ne B 43 dX12_some_8 (fun c8 => ?_) (fun c8 => absurd c8 b2_t)
        refine aw_vret B rfl dX12_some_43 ?_
        exact ⟨rfl, rfl⟩
      | false =>
        refine aw_aload_n B 0 rfl dX12_some_4 rfl ?_
        refine p_get B f_X12_54 dX12_some_5 (pv_7) ?_
        refine aw_if_ne B 43 dX12_some_8 (fun c8 => absurd b2_f c8) (fun c8 => ?_)
        refine aw_aload_n B 0 rfl dX12_some_11 rfl ?_
        refine aw_callV B 0 0 (s_here _ _ _ _ _ _ c e _ (p, false, P) he hs) co_X12_here k_X12_58 dX12_some_12 hP_o rfl rfl rfl rfl (Nat.le_of_ble_eq_true rfl) (zrm hr (by omega)) (Nat.le_refl _) (Nat.le_refl _) (kI fun r12 h12 hp12 => ?_)
        obtain ⟨rfl, rfl⟩ := hp12
        refine aw_bipush B 124 (by decide) dX12_some_15 ?_
        refine aw_icmp_ne B 43 dX12_some_17 (fun c17 => ?_) (fun c17 => absurd (Nat.lt_of_lt_of_le (hr_lt (s := (p, false, P)) c17 (by decide)) hf) (Nat.lt_irrefl _))
        refine aw_vret B rfl dX12_some_43 ?_
        exact ⟨rfl, rfl⟩
    | succ f ih =>
      intro s hs hl hf
      obtain ⟨p, w, P⟩ := s
      cases w with
      | true =>
        refine aw_aload_n B 0 rfl dX12_some_4 rfl ?_
        refine p_get B f_X12_54 dX12_some_5 (pv_7) ?_
        refine aw_if_ne B 43 dX12_some_8 (fun c8 => ?_) (fun c8 => absurd c8 b2_t)
        refine aw_vret B rfl dX12_some_43 ?_
        exact ⟨rfl, by rw [tailP, if_pos rfl]⟩
      | false =>
        have hl : P.length ≤ p := hl
        have hf : e ≤ p + (f + 1) := hf
        refine aw_aload_n B 0 rfl dX12_some_4 rfl ?_
        refine p_get B f_X12_54 dX12_some_5 (pv_7) ?_
        refine aw_if_ne B 43 dX12_some_8 (fun c8 => absurd b2_f c8) (fun c8 => ?_)
        refine aw_aload_n B 0 rfl dX12_some_11 rfl ?_
        refine aw_callV B 0 0 (s_here _ _ _ _ _ _ c e _ (p, false, P) he hs) co_X12_here k_X12_58 dX12_some_12 hP_o rfl rfl rfl rfl (Nat.le_of_ble_eq_true rfl) (zrm hr (by omega)) (Nat.le_refl _) (Nat.le_refl _) (kI fun r12 h12 hp12 => ?_)
        obtain ⟨rfl, rfl⟩ := hp12
        refine aw_bipush B 124 (by decide) dX12_some_15 ?_
        refine aw_icmp_ne B 43 dX12_some_17 (fun c17 => ?_) (fun c17 => ?_)
        · refine aw_vret B rfl dX12_some_43 ?_
          exact ⟨rfl, by rw [tailP, if_neg Bool.false_ne_true, if_neg c17]⟩
        · have hlt : p + 1 ≤ e := hr_lt (s := (p, false, P)) c17 (by decide)
          obtain ⟨q1, q2, q3⟩ := gd_ok1 hg hlt hl
          refine aw_aload_n B 0 rfl dX12_some_20 rfl ?_
          refine aw_dup B rfl dX12_some_21 ?_
          refine p_get B f_X12_48 dX12_some_22 (pv_5) ?_
          refine aw_iconst B 1 (by decide) dX12_some_25 ?_
          refine aw_iadd B dX12_some_26 ?_
          refine p_put5 B f_X12_48 (p + 1) (nI_1 p) dX12_some_27 ?_
          refine aw_aload_n B 0 rfl dX12_some_30 rfl ?_
          refine aw_callV B 0 0 (Hf (p + 1, false, P) hlt (by show P.length ≤ p + 1; omega)) co_X12_every k_X12_101 dX12_some_31 hP_o rfl rfl rfl rfl (Nat.le_of_ble_eq_true rfl) (zrm hr (by omega)) (Nat.le_refl _) (Nat.le_refl _) (kV fun h31 hp31 => ?_)
          subst hp31
          refine aw_aload_n B 0 rfl dX12_some_34 rfl ?_
          refine aw_bipush B (-3) (by decide) dX12_some_35 ?_
          refine aw_callV B 0 0 (s_emits _ _ _ _ _ _ c e o (sub (p + 1, false, P)).1 (sub (p + 1, false, P)).2.1 (sub (p + 1, false, P)).2.2 (-3) (11, 0) hc (fun _ => ⟨by decide, by omega⟩)) co_X12_emits k_X12_84 dX12_some_37 hP_o rfl rfl rfl rfl (Nat.le_of_ble_eq_true rfl) (zrm hr (by omega)) (Nat.le_refl _) (Nat.le_refl _) (kV fun h37 hp37 => ?_)
          subst hp37
          refine aw_goto B 4 dX12_some_40 ?_
          rw [show tailP (tpA A) e sub 124 11 (f + 1) (p, false, P) = tailP (tpA A) e sub 124 11 f (emP (11, 0) (sub (p + 1, false, P))) from by rw [tailP, if_neg Bool.false_ne_true, if_pos c17]; rfl]
          exact ih (emP (11, 0) (sub (p + 1, false, P))) (by rw [em_w.1]; exact q1) (Nat.le_trans em_len (by rw [em_w.1]; exact q2)) (by rw [em_w.1]; omega)
  refine aw_aload_n B 0 rfl dX12_some_0 rfl ?_
  refine aw_callV B 0 0 (Hf s hs hl) co_X12_every k_X12_101 dX12_some_1 hP_o rfl rfl rfl rfl (Nat.le_of_ble_eq_true rfl) (zrm hr (by omega)) (Nat.le_refl _) (Nat.le_refl _) (kV fun h1 hp1 => ?_)
  subst hp1
  obtain ⟨q1, q2, q3⟩ := gd_ok hg hs hl
  exact lp 100 _ q1 q2 (by omega)
set_option maxRecDepth 100000 in
set_option maxHeartbeats 4000000 in
theorem s_so {l : Launch} {g : zG} {h : Hp} {m : Nat} {F : Nat → Int32} {A : Nat → Nat → Int32} {c e o df k : Nat} {sub : pst → pst} (he : e ≤ 100) (hc : c < 5) (hd : 5 ≤ df) (hg : gd e (seg k) sub) (Hf : FacS l g h m F A c e o df sub) : SoS l g h m F A c e o (df + 2) (soP (tpA A) e sub) := fun s hs hl =>
  s_some l g h m F A c e o (df + 1) (k + 1) (evP (tpA A) e sub) he hc (by omega) (ev_gd hg) (fun s hs hl => s_every l g h m F A c e o df k sub he hc hd hg Hf s hs hl) s hs hl
theorem cd_test {a b n : Nat} (ha : a < 3) (hb : b < 3) : nI a + 8 * nI b + 32 * nI n = cd (3 * a + b) n := by
  unfold cd
  rw [if_pos (by omega), show (3 * a + b) / 3 = a by omega, show (3 * a + b) % 3 = b by omega, show (8 : Int32) * nI b = nI (8 * b) from pk_mul 8 b, show (32 : Int32) * nI n = nI (32 * n) from pk_mul 32 n, nI_add, nI_add]
theorem nI_ne {a b : Nat} (ha : a < 2 ^ 31) (hb : b < 2 ^ 31) (h : ¬ a = b) : ¬ nI a = nI b := fun z => h (by
  have := congrArg Int32.toInt z
  rw [nI_toInt ha, nI_toInt hb] at this
  omega)
theorem nI_nn {a : Nat} (ha : a < 2 ^ 31) : ¬ nI a = -1 := fun z => by
  have := congrArg Int32.toInt z
  rw [nI_toInt ha] at this
  have e1 : (-1 : Int32).toInt = -1 := by decide
  omega
set_option maxRecDepth 100000 in
set_option maxHeartbeats 4000000 in
theorem s_factor (l : Launch) (g : zG) (h : Hp) (m : Nat) (F : Nat → Int32) (A : Nat → Nat → Int32) (c e : Nat) (he : e ≤ 100) (hc : c < 5) : ∀ (d o : Nat), o + d = 5 → FacS l g h m F A c e o (6 + 3 * d) (facP (tpA A) e d) := by
  intro d
  induction d with
  | zero =>
    intro o hod
    obtain rfl : o = 5 := by omega
    intro s hs hl
    refine Sp.of [some (.ref m), none, none, none, none] (by decide) (Nat.le_of_ble_eq_true rfl) rfl rfl ?_
    rintro X rfl hr rfl B
    show AW X 0 0 0 _ _ _ _
    obtain ⟨p, w, P⟩ := s
    cases w with
    | true =>
      refine aw_aload_n B 0 rfl dX12_factor_0 rfl ?_
      refine p_get B f_X12_54 dX12_factor_1 (pv_7) ?_
      refine aw_if_eq B 8 dX12_factor_4 (fun c4 => absurd c4 b2_t) (fun c4 => ?_)
      refine aw_vret B rfl dX12_factor_7 ?_
      exact ⟨rfl, by rw [facP, if_pos rfl]⟩
    | false =>
      refine aw_aload_n B 0 rfl dX12_factor_0 rfl ?_
      refine p_get B f_X12_54 dX12_factor_1 (pv_7) ?_
      refine aw_if_eq B 8 dX12_factor_4 (fun c4 => ?_) (fun c4 => absurd b2_f c4)
      refine aw_aload_n B 0 rfl dX12_factor_8 rfl ?_
      refine aw_callV B 0 0 (s_here _ _ _ _ _ _ c e 5 (p, false, P) he hs) co_X12_here k_X12_58 dX12_factor_9 hP_o rfl rfl rfl rfl (Nat.le_of_ble_eq_true rfl) (zrm hr (by omega)) (Nat.le_refl _) (Nat.le_refl _) (kI fun r9 h9 hp9 => ?_)
      obtain ⟨rfl, rfl⟩ := hp9
      refine aw_istore1 B dX12_factor_12 ?_
      refine aw_iload_n B 1 rfl dX12_factor_13 rfl ?_
      refine aw_bipush B 33 (by decide) dX12_factor_14 ?_
      refine aw_icmp_eq B 25 dX12_factor_16 (fun c16 => ?_) (fun c16 => ?_)
      · refine aw_aload_n B 0 rfl dX12_factor_25 rfl ?_
        refine aw_aload_n B 0 rfl dX12_factor_26 rfl ?_
        refine p_get B f_X12_78 dX12_factor_27 (pv_8) ?_
        refine aw_iconst B 5 (by decide) dX12_factor_30 ?_
        refine aw_icmp_ne B 38 dX12_factor_31 (fun c31 => absurd rfl c31) (fun c31 => ?_)
        refine aw_iconst B 1 (by decide) dX12_factor_34 ?_
        refine aw_goto B 39 dX12_factor_35 ?_
        refine p_put7 B f_X12_54 (true) (rfl) dX12_factor_39 ?_
        refine aw_aload_n B 0 rfl dX12_factor_42 rfl ?_
        refine aw_dup B rfl dX12_factor_43 ?_
        refine p_get B f_X12_78 dX12_factor_44 (pv_8) ?_
        refine aw_iconst B 1 (by decide) dX12_factor_47 ?_
        refine aw_iadd B dX12_factor_48 ?_
        refine p_put8 B f_X12_78 (6) (rfl) dX12_factor_49 ?_
        refine aw_aload_n B 0 rfl dX12_factor_52 rfl ?_
        refine aw_dup B rfl dX12_factor_53 ?_
        refine p_get B f_X12_48 dX12_factor_54 (pv_5) ?_
        refine aw_aload_n B 0 rfl dX12_factor_57 rfl ?_
        refine p_get B f_X12_54 dX12_factor_58 (pv_7) ?_
        refine aw_if_eq B 68 dX12_factor_61 (fun c61 => absurd c61 b2_t) (fun c61 => ?_)
        refine aw_iconst B 0 (by decide) dX12_factor_64 ?_
        refine aw_goto B 69 dX12_factor_65 ?_
        refine aw_iadd B dX12_factor_69 ?_
        refine p_put5 B f_X12_48 (p) (Int32.add_zero _) dX12_factor_70 ?_
        refine aw_iload_n B 1 rfl dX12_factor_73 rfl ?_
        refine aw_bipush B 33 (by decide) dX12_factor_74 ?_
        refine aw_icmp_ne B 91 dX12_factor_76 (fun c76 => absurd c16 c76) (fun c76 => ?_)
        refine aw_aload_n B 0 rfl dX12_factor_79 rfl ?_
        refine aw_callV B 0 0 (s_facW _ _ _ _ _ _ c e 6 p P) co_X12_factor k_X12_81 dX12_factor_80 hP_o rfl rfl rfl rfl (Nat.le_of_ble_eq_true rfl) (zrm hr (by omega)) (Nat.le_refl _) (Nat.le_refl _) (kV fun h80 hp80 => ?_)
        subst hp80
        refine aw_aload_n B 0 rfl dX12_factor_83 rfl ?_
        refine aw_iconst B (-1) (by decide) dX12_factor_84 ?_
        refine aw_callV B 0 0 (s_emits _ _ _ _ _ _ c e 6 p true P _ (0, 0) hc (fun z => by cases z)) co_X12_emits k_X12_84 dX12_factor_85 hP_o rfl rfl rfl rfl (Nat.le_of_ble_eq_true rfl) (zrm hr (by omega)) (Nat.le_refl _) (Nat.le_refl _) (kV fun h85 hp85 => ?_)
        subst hp85
        refine aw_goto B 101 dX12_factor_88 ?_
        refine aw_aload_n B 0 rfl dX12_factor_101 rfl ?_
        refine aw_dup B rfl dX12_factor_102 ?_
        refine p_get B f_X12_78 dX12_factor_103 (pv_8) ?_
        refine aw_iconst B 1 (by decide) dX12_factor_106 ?_
        refine aw_isub B dX12_factor_107 ?_
        refine p_put8 B f_X12_78 (5) (rfl) dX12_factor_108 ?_
        refine aw_vret B rfl dX12_factor_111 ?_
        exact ⟨rfl, by rw [facP, if_neg Bool.false_ne_true]; rw [if_pos c16]; rfl⟩
      · refine aw_iload_n B 1 rfl dX12_factor_19 rfl ?_
        refine aw_bipush B 40 (by decide) dX12_factor_20 ?_
        refine aw_icmp_ne B 112 dX12_factor_22 (fun c22 => ?_) (fun c22 => ?_)
        · refine aw_aload_n B 0 rfl dX12_factor_112 rfl ?_
          refine aw_ldcS (i := 3) (tx := "hdm") B (by show ("LowWaterModel", _, _, _) ∈ zSR; simp [zSR]) dX12_factor_113 ?_
          refine aw_callV B 0 0 (s_among _ _ _ _ _ _ c e 5 (p, false, P) 3 he hs (by decide)) co_X12_among k_X12_92 dX12_factor_115 hP_o rfl rfl rfl rfl (Nat.le_of_ble_eq_true rfl) (zrm hr (by omega)) (Nat.le_refl _) (Nat.le_refl _) (kI fun r115 h115 hp115 => ?_)
          rw [show zByt.getD 3 [] = [104, 100, 109] from rfl, am_3] at hp115
          by_cases z1 : am3 104 100 109 (hre (tpA A) e (p, false, P)) = 3
          · rw [if_pos z1] at hp115
            obtain ⟨rfl, rfl⟩ := hp115
            refine aw_istore2 B dX12_factor_118 ?_
            refine aw_aload_n B 0 rfl dX12_factor_119 rfl ?_
            refine aw_iload_n B 2 rfl dX12_factor_120 rfl ?_
            refine aw_iconst B (-1) (by decide) dX12_factor_121 ?_
            refine aw_icmp_ne B 129 dX12_factor_122 (fun c122 => absurd rfl c122) (fun c122 => ?_)
            refine aw_iconst B 1 (by decide) dX12_factor_125 ?_
            refine aw_goto B 130 dX12_factor_126 ?_
            refine p_put7 B f_X12_54 (true) (rfl) dX12_factor_130 ?_
            refine aw_aload_n B 0 rfl dX12_factor_133 rfl ?_
            refine p_get B f_X12_54 dX12_factor_134 (pv_7) ?_
            refine aw_if_eq B 144 dX12_factor_137 (fun c137 => absurd c137 b2_t) (fun c137 => ?_)
            refine aw_iconst B 0 (by decide) dX12_factor_140 ?_
            refine aw_goto B 150 dX12_factor_141 ?_
            refine aw_istore3 B dX12_factor_150 ?_
            refine aw_aload_n B 0 rfl dX12_factor_151 rfl ?_
            refine aw_aload_n B 0 rfl dX12_factor_152 rfl ?_
            refine p_get B f_X12_54 dX12_factor_153 (pv_7) ?_
            refine aw_if_ne B 164 dX12_factor_156 (fun c156 => ?_) (fun c156 => absurd c156 b2_t)
            refine aw_iconst B 1 (by decide) dX12_factor_164 ?_
            refine aw_goto B 169 dX12_factor_165 ?_
            refine p_put7 B f_X12_54 (true) (rfl) dX12_factor_169 ?_
            refine aw_aload_n B 0 rfl dX12_factor_172 rfl ?_
            refine aw_callV B 0 0 (s_figures _ _ _ _ _ _ c e 5 p true P he hs) co_X12_figures k_X12_98 dX12_factor_173 hP_o rfl rfl rfl rfl (Nat.le_of_ble_eq_true rfl) (zrm hr (by omega)) (Nat.le_refl _) (Nat.le_refl _) (kI fun r173 h173 hp173 => ?_)
            obtain ⟨rfl, rfl⟩ := hp173
            refine aw_istore4 B dX12_factor_176 ?_
            refine aw_aload_n B 0 rfl dX12_factor_178 rfl ?_
            refine aw_iload_n B 2 rfl dX12_factor_179 rfl ?_
            refine aw_bipush B 8 (by decide) dX12_factor_180 ?_
            refine aw_iload_n B 3 rfl dX12_factor_182 rfl ?_
            refine aw_imul B dX12_factor_183 ?_
            refine aw_iadd B dX12_factor_184 ?_
            refine aw_bipush B 32 (by decide) dX12_factor_185 ?_
            refine aw_iload B dX12_factor_187 rfl ?_
            refine aw_imul B dX12_factor_189 ?_
            refine aw_iadd B dX12_factor_190 ?_
            refine aw_callV B 0 0 (s_emits _ _ _ _ _ _ c e 5 p true P _ (0, 0) hc (fun z => by cases z)) co_X12_emits k_X12_84 dX12_factor_191 hP_o rfl rfl rfl rfl (Nat.le_of_ble_eq_true rfl) (zrm hr (by omega)) (Nat.le_refl _) (Nat.le_refl _) (kV fun h191 hp191 => ?_)
            subst hp191
            refine aw_vret B rfl dX12_factor_194 ?_
            exact ⟨rfl, by rw [facP, if_neg Bool.false_ne_true, if_neg c16, if_neg c22]; unfold testP; rw [if_pos z1]; rfl⟩
          · rw [if_neg z1] at hp115
            obtain ⟨rfl, rfl⟩ := hp115
            obtain ⟨w3, wx⟩ := am3_lt z1
            have hl1 : p + 1 ≤ e := by
              show p < e
              rcases wx with z | z | z <;> exact hr_lt (s := (p, false, P)) z (by decide)
            refine aw_istore2 B dX12_factor_118 ?_
            refine aw_aload_n B 0 rfl dX12_factor_119 rfl ?_
            refine aw_iload_n B 2 rfl dX12_factor_120 rfl ?_
            refine aw_iconst B (-1) (by decide) dX12_factor_121 ?_
            refine aw_icmp_ne B 129 dX12_factor_122 (fun c122 => ?_) (fun c122 => absurd c122 (nI_nn (by omega)))
            refine aw_iconst B 0 (by decide) dX12_factor_129 ?_
            refine p_put7 B f_X12_54 (false) (rfl) dX12_factor_130 ?_
            refine aw_aload_n B 0 rfl dX12_factor_133 rfl ?_
            refine p_get B f_X12_54 dX12_factor_134 (pv_7) ?_
            refine aw_if_eq B 144 dX12_factor_137 (fun c137 => ?_) (fun c137 => absurd b2_f c137)
            refine aw_aload_n B 0 rfl dX12_factor_144 rfl ?_
            refine aw_ldcS (i := 4) (tx := "<=>") B (by show ("LowWaterModel", _, _, _) ∈ zSR; simp [zSR]) dX12_factor_145 ?_
            refine aw_callV B 0 0 (s_among _ _ _ _ _ _ c e 5 (adv (p, false, P)) 4 he hl1 (by decide)) co_X12_among k_X12_92 dX12_factor_147 hP_o rfl rfl rfl rfl (Nat.le_of_ble_eq_true rfl) (zrm hr (by omega)) (Nat.le_refl _) (Nat.le_refl _) (kI fun r147 h147 hp147 => ?_)
            rw [show zByt.getD 4 [] = [60, 61, 62] from rfl, am_3] at hp147
            by_cases z2 : am3 60 61 62 (hre (tpA A) e (adv (p, false, P))) = 3
            · rw [if_pos z2] at hp147
              obtain ⟨rfl, rfl⟩ := hp147
              refine aw_istore3 B dX12_factor_150 ?_
              refine aw_aload_n B 0 rfl dX12_factor_151 rfl ?_
              refine aw_aload_n B 0 rfl dX12_factor_152 rfl ?_
              refine p_get B f_X12_54 dX12_factor_153 (pv_7) ?_
              refine aw_if_ne B 164 dX12_factor_156 (fun c156 => absurd b2_f c156) (fun c156 => ?_)
              refine aw_iload_n B 3 rfl dX12_factor_159 rfl ?_
              refine aw_iconst B (-1) (by decide) dX12_factor_160 ?_
              refine aw_icmp_ne B 168 dX12_factor_161 (fun c161 => absurd rfl c161) (fun c161 => ?_)
              refine aw_iconst B 1 (by decide) dX12_factor_164 ?_
              refine aw_goto B 169 dX12_factor_165 ?_
              refine p_put7 B f_X12_54 (true) (rfl) dX12_factor_169 ?_
              refine aw_aload_n B 0 rfl dX12_factor_172 rfl ?_
              refine aw_callV B 0 0 (s_figures _ _ _ _ _ _ c e 5 (p + 1) true P he hl1) co_X12_figures k_X12_98 dX12_factor_173 hP_o rfl rfl rfl rfl (Nat.le_of_ble_eq_true rfl) (zrm hr (by omega)) (Nat.le_refl _) (Nat.le_refl _) (kI fun r173 h173 hp173 => ?_)
              obtain ⟨rfl, rfl⟩ := hp173
              refine aw_istore4 B dX12_factor_176 ?_
              refine aw_aload_n B 0 rfl dX12_factor_178 rfl ?_
              refine aw_iload_n B 2 rfl dX12_factor_179 rfl ?_
              refine aw_bipush B 8 (by decide) dX12_factor_180 ?_
              refine aw_iload_n B 3 rfl dX12_factor_182 rfl ?_
              refine aw_imul B dX12_factor_183 ?_
              refine aw_iadd B dX12_factor_184 ?_
              refine aw_bipush B 32 (by decide) dX12_factor_185 ?_
              refine aw_iload B dX12_factor_187 rfl ?_
              refine aw_imul B dX12_factor_189 ?_
              refine aw_iadd B dX12_factor_190 ?_
              refine aw_callV B 0 0 (s_emits _ _ _ _ _ _ c e 5 (p + 1) true P _ (0, 0) hc (fun z => by cases z)) co_X12_emits k_X12_84 dX12_factor_191 hP_o rfl rfl rfl rfl (Nat.le_of_ble_eq_true rfl) (zrm hr (by omega)) (Nat.le_refl _) (Nat.le_refl _) (kV fun h191 hp191 => ?_)
              subst hp191
              refine aw_vret B rfl dX12_factor_194 ?_
              exact ⟨rfl, by rw [facP, if_neg Bool.false_ne_true, if_neg c16, if_neg c22]; unfold testP; rw [if_neg z1, if_pos z2]; rfl⟩
            · rw [if_neg z2] at hp147
              obtain ⟨rfl, rfl⟩ := hp147
              obtain ⟨o3, ox⟩ := am3_lt z2
              have hl2 : p + 1 + 1 ≤ e := by
                show p + 1 < e
                rcases ox with z | z | z <;> exact hr_lt (s := (p + 1, false, P)) z (by decide)
              obtain ⟨g1, g2, g3, g4, -⟩ := fig_gs (tp := tpA A) (e := e) (s := (p + 1 + 1, false, P)) hl2
              have hl : P.length ≤ p := hl
              have g4l : (figP (tpA A) e (p + 1 + 1, false, P)).2.2.2.length < 140 := by
                rw [g4]
                show P.length < 140
                omega
              refine aw_istore3 B dX12_factor_150 ?_
              refine aw_aload_n B 0 rfl dX12_factor_151 rfl ?_
              refine aw_aload_n B 0 rfl dX12_factor_152 rfl ?_
              refine p_get B f_X12_54 dX12_factor_153 (pv_7) ?_
              refine aw_if_ne B 164 dX12_factor_156 (fun c156 => absurd b2_f c156) (fun c156 => ?_)
              refine aw_iload_n B 3 rfl dX12_factor_159 rfl ?_
              refine aw_iconst B (-1) (by decide) dX12_factor_160 ?_
              refine aw_icmp_ne B 168 dX12_factor_161 (fun c161 => ?_) (fun c161 => absurd c161 (nI_nn (by omega)))
              refine aw_iconst B 0 (by decide) dX12_factor_168 ?_
              refine p_put7 B f_X12_54 (false) (rfl) dX12_factor_169 ?_
              refine aw_aload_n B 0 rfl dX12_factor_172 rfl ?_
              refine aw_callV B 0 0 (s_figures _ _ _ _ _ _ c e 5 (p + 1 + 1) false P he hl2) co_X12_figures k_X12_98 dX12_factor_173 hP_o rfl rfl rfl rfl (Nat.le_of_ble_eq_true rfl) (zrm hr (by omega)) (Nat.le_refl _) (Nat.le_refl _) (kI fun r173 h173 hp173 => ?_)
              obtain ⟨rfl, rfl⟩ := hp173
              refine aw_istore4 B dX12_factor_176 ?_
              refine aw_aload_n B 0 rfl dX12_factor_178 rfl ?_
              refine aw_iload_n B 2 rfl dX12_factor_179 rfl ?_
              refine aw_bipush B 8 (by decide) dX12_factor_180 ?_
              refine aw_iload_n B 3 rfl dX12_factor_182 rfl ?_
              refine aw_imul B dX12_factor_183 ?_
              refine aw_iadd B dX12_factor_184 ?_
              refine aw_bipush B 32 (by decide) dX12_factor_185 ?_
              refine aw_iload B dX12_factor_187 rfl ?_
              refine aw_imul B dX12_factor_189 ?_
              refine aw_iadd B dX12_factor_190 ?_
              refine aw_callV B 0 0 (s_emits _ _ _ _ _ _ c e 5 (figP (tpA A) e (p + 1 + 1, false, P)).2.1 (figP (tpA A) e (p + 1 + 1, false, P)).2.2.1 (figP (tpA A) e (p + 1 + 1, false, P)).2.2.2 _ (3 * am3 104 100 109 (hre (tpA A) e (p, false, P)) + am3 60 61 62 (hre (tpA A) e (adv (p, false, P))), (figP (tpA A) e (p + 1 + 1, false, P)).1) hc (fun _ => ⟨cd_test w3 o3, g4l⟩)) co_X12_emits k_X12_84 dX12_factor_191 hP_o rfl rfl rfl rfl (Nat.le_of_ble_eq_true rfl) (zrm hr (by omega)) (Nat.le_refl _) (Nat.le_refl _) (kV fun h191 hp191 => ?_)
              subst hp191
              refine aw_vret B rfl dX12_factor_194 ?_
              exact ⟨rfl, by rw [facP, if_neg Bool.false_ne_true, if_neg c16, if_neg c22]; unfold testP; rw [if_neg z1, if_neg z2]; rfl⟩
        · refine aw_aload_n B 0 rfl dX12_factor_25 rfl ?_
          refine aw_aload_n B 0 rfl dX12_factor_26 rfl ?_
          refine p_get B f_X12_78 dX12_factor_27 (pv_8) ?_
          refine aw_iconst B 5 (by decide) dX12_factor_30 ?_
          refine aw_icmp_ne B 38 dX12_factor_31 (fun c31 => absurd rfl c31) (fun c31 => ?_)
          refine aw_iconst B 1 (by decide) dX12_factor_34 ?_
          refine aw_goto B 39 dX12_factor_35 ?_
          refine p_put7 B f_X12_54 (true) (rfl) dX12_factor_39 ?_
          refine aw_aload_n B 0 rfl dX12_factor_42 rfl ?_
          refine aw_dup B rfl dX12_factor_43 ?_
          refine p_get B f_X12_78 dX12_factor_44 (pv_8) ?_
          refine aw_iconst B 1 (by decide) dX12_factor_47 ?_
          refine aw_iadd B dX12_factor_48 ?_
          refine p_put8 B f_X12_78 (6) (rfl) dX12_factor_49 ?_
          refine aw_aload_n B 0 rfl dX12_factor_52 rfl ?_
          refine aw_dup B rfl dX12_factor_53 ?_
          refine p_get B f_X12_48 dX12_factor_54 (pv_5) ?_
          refine aw_aload_n B 0 rfl dX12_factor_57 rfl ?_
          refine p_get B f_X12_54 dX12_factor_58 (pv_7) ?_
          refine aw_if_eq B 68 dX12_factor_61 (fun c61 => absurd c61 b2_t) (fun c61 => ?_)
          refine aw_iconst B 0 (by decide) dX12_factor_64 ?_
          refine aw_goto B 69 dX12_factor_65 ?_
          refine aw_iadd B dX12_factor_69 ?_
          refine p_put5 B f_X12_48 (p) (Int32.add_zero _) dX12_factor_70 ?_
          refine aw_iload_n B 1 rfl dX12_factor_73 rfl ?_
          refine aw_bipush B 33 (by decide) dX12_factor_74 ?_
          refine aw_icmp_ne B 91 dX12_factor_76 (fun c76 => ?_) (fun c76 => absurd c76 c16)
          refine aw_aload_n B 0 rfl dX12_factor_91 rfl ?_
          refine aw_callV B 0 0 (s_soW _ _ _ _ _ _ c e 6 p P) co_X12_some k_X12_87 dX12_factor_92 hP_o rfl rfl rfl rfl (Nat.le_of_ble_eq_true rfl) (zrm hr (by omega)) (Nat.le_refl _) (Nat.le_refl _) (kV fun h92 hp92 => ?_)
          subst hp92
          refine aw_aload_n B 0 rfl dX12_factor_95 rfl ?_
          refine aw_bipush B 41 (by decide) dX12_factor_96 ?_
          refine aw_callV B 0 0 (s_must _ _ _ _ _ _ c e 6 p true P 41 he hs) co_X12_must k_X12_71 dX12_factor_98 hP_o rfl rfl rfl rfl (Nat.le_of_ble_eq_true rfl) (zrm hr (by omega)) (Nat.le_refl _) (Nat.le_refl _) (kV fun h98 hp98 => ?_)
          subst hp98
          refine aw_aload_n B 0 rfl dX12_factor_101 rfl ?_
          refine aw_dup B rfl dX12_factor_102 ?_
          refine p_get B f_X12_78 dX12_factor_103 (pv_8) ?_
          refine aw_iconst B 1 (by decide) dX12_factor_106 ?_
          refine aw_isub B dX12_factor_107 ?_
          refine p_put8 B f_X12_78 (5) (rfl) dX12_factor_108 ?_
          refine aw_vret B rfl dX12_factor_111 ?_
          exact ⟨rfl, by rw [facP, if_neg Bool.false_ne_true]; rw [if_neg c16, if_pos c22]; rfl⟩
  | succ d ih =>
    intro o hod
    intro s hs hl
    refine Sp.of [some (.ref m), none, none, none, none] (by decide) (Nat.le_of_ble_eq_true rfl) rfl rfl ?_
    rintro X rfl hr rfl B
    show AW X 0 0 0 _ _ _ _
    obtain ⟨p, w, P⟩ := s
    cases w with
    | true =>
      refine aw_aload_n B 0 rfl dX12_factor_0 rfl ?_
      refine p_get B f_X12_54 dX12_factor_1 (pv_7) ?_
      refine aw_if_eq B 8 dX12_factor_4 (fun c4 => absurd c4 b2_t) (fun c4 => ?_)
      refine aw_vret B rfl dX12_factor_7 ?_
      exact ⟨rfl, by rw [facP, if_pos rfl]⟩
    | false =>
      refine aw_aload_n B 0 rfl dX12_factor_0 rfl ?_
      refine p_get B f_X12_54 dX12_factor_1 (pv_7) ?_
      refine aw_if_eq B 8 dX12_factor_4 (fun c4 => ?_) (fun c4 => absurd b2_f c4)
      refine aw_aload_n B 0 rfl dX12_factor_8 rfl ?_
      refine aw_callV B 0 0 (s_here _ _ _ _ _ _ c e o (p, false, P) he hs) co_X12_here k_X12_58 dX12_factor_9 hP_o rfl rfl rfl rfl (Nat.le_of_ble_eq_true rfl) (zrm hr (by omega)) (Nat.le_refl _) (Nat.le_refl _) (kI fun r9 h9 hp9 => ?_)
      obtain ⟨rfl, rfl⟩ := hp9
      refine aw_istore1 B dX12_factor_12 ?_
      refine aw_iload_n B 1 rfl dX12_factor_13 rfl ?_
      refine aw_bipush B 33 (by decide) dX12_factor_14 ?_
      refine aw_icmp_eq B 25 dX12_factor_16 (fun c16 => ?_) (fun c16 => ?_)
      · have hlt : p + 1 ≤ e := hr_lt (s := (p, false, P)) c16 (by decide)
        have hl : P.length ≤ p := hl
        obtain ⟨q1, q2, q3⟩ := gd_ok1 (fac_gd (tpA A) e d) hlt hl
        refine aw_aload_n B 0 rfl dX12_factor_25 rfl ?_
        refine aw_aload_n B 0 rfl dX12_factor_26 rfl ?_
        refine p_get B f_X12_78 dX12_factor_27 (pv_8) ?_
        refine aw_iconst B 5 (by decide) dX12_factor_30 ?_
        refine aw_icmp_ne B 38 dX12_factor_31 (fun c31 => ?_) (fun c31 => absurd c31 (show ¬ nI o = nI 5 from nI_ne (by omega) (by decide) (by omega)))
        refine aw_iconst B 0 (by decide) dX12_factor_38 ?_
        refine p_put7 B f_X12_54 (false) (rfl) dX12_factor_39 ?_
        refine aw_aload_n B 0 rfl dX12_factor_42 rfl ?_
        refine aw_dup B rfl dX12_factor_43 ?_
        refine p_get B f_X12_78 dX12_factor_44 (pv_8) ?_
        refine aw_iconst B 1 (by decide) dX12_factor_47 ?_
        refine aw_iadd B dX12_factor_48 ?_
        refine p_put8 B f_X12_78 (o + 1) (nI_1 o) dX12_factor_49 ?_
        refine aw_aload_n B 0 rfl dX12_factor_52 rfl ?_
        refine aw_dup B rfl dX12_factor_53 ?_
        refine p_get B f_X12_48 dX12_factor_54 (pv_5) ?_
        refine aw_aload_n B 0 rfl dX12_factor_57 rfl ?_
        refine p_get B f_X12_54 dX12_factor_58 (pv_7) ?_
        refine aw_if_eq B 68 dX12_factor_61 (fun c61 => ?_) (fun c61 => absurd b2_f c61)
        refine aw_iconst B 1 (by decide) dX12_factor_68 ?_
        refine aw_iadd B dX12_factor_69 ?_
        refine p_put5 B f_X12_48 (p + 1) (nI_1 p) dX12_factor_70 ?_
        refine aw_iload_n B 1 rfl dX12_factor_73 rfl ?_
        refine aw_bipush B 33 (by decide) dX12_factor_74 ?_
        refine aw_icmp_ne B 91 dX12_factor_76 (fun c76 => absurd c16 c76) (fun c76 => ?_)
        refine aw_aload_n B 0 rfl dX12_factor_79 rfl ?_
        refine aw_callV B 0 0 (ih (o + 1) (by omega) (p + 1, false, P) hlt (by show P.length ≤ p + 1; omega)) co_X12_factor k_X12_81 dX12_factor_80 hP_o rfl rfl rfl rfl (Nat.le_of_ble_eq_true rfl) (zrm hr (by omega)) (Nat.le_refl _) (Nat.le_refl _) (kV fun h80 hp80 => ?_)
        subst hp80
        refine aw_aload_n B 0 rfl dX12_factor_83 rfl ?_
        refine aw_iconst B (-1) (by decide) dX12_factor_84 ?_
        refine aw_callV B 0 0 (s_emits _ _ _ _ _ _ c e (o + 1) (facP (tpA A) e d (p + 1, false, P)).1 (facP (tpA A) e d (p + 1, false, P)).2.1 (facP (tpA A) e d (p + 1, false, P)).2.2 _ (9, 0) hc (fun _ => ⟨rfl, by omega⟩)) co_X12_emits k_X12_84 dX12_factor_85 hP_o rfl rfl rfl rfl (Nat.le_of_ble_eq_true rfl) (zrm hr (by omega)) (Nat.le_refl _) (Nat.le_refl _) (kV fun h85 hp85 => ?_)
        subst hp85
        refine aw_goto B 101 dX12_factor_88 ?_
        refine aw_aload_n B 0 rfl dX12_factor_101 rfl ?_
        refine aw_dup B rfl dX12_factor_102 ?_
        refine p_get B f_X12_78 dX12_factor_103 (pv_8) ?_
        refine aw_iconst B 1 (by decide) dX12_factor_106 ?_
        refine aw_isub B dX12_factor_107 ?_
        refine p_put8 B f_X12_78 (o) (nI_pred o) dX12_factor_108 ?_
        refine aw_vret B rfl dX12_factor_111 ?_
        exact ⟨rfl, by rw [facP, if_neg Bool.false_ne_true]; rw [if_pos c16]; rfl⟩
      · refine aw_iload_n B 1 rfl dX12_factor_19 rfl ?_
        refine aw_bipush B 40 (by decide) dX12_factor_20 ?_
        refine aw_icmp_ne B 112 dX12_factor_22 (fun c22 => ?_) (fun c22 => ?_)
        · refine aw_aload_n B 0 rfl dX12_factor_112 rfl ?_
          refine aw_ldcS (i := 3) (tx := "hdm") B (by show ("LowWaterModel", _, _, _) ∈ zSR; simp [zSR]) dX12_factor_113 ?_
          refine aw_callV B 0 0 (s_among _ _ _ _ _ _ c e o (p, false, P) 3 he hs (by decide)) co_X12_among k_X12_92 dX12_factor_115 hP_o rfl rfl rfl rfl (Nat.le_of_ble_eq_true rfl) (zrm hr (by omega)) (Nat.le_refl _) (Nat.le_refl _) (kI fun r115 h115 hp115 => ?_)
          rw [show zByt.getD 3 [] = [104, 100, 109] from rfl, am_3] at hp115
          by_cases z1 : am3 104 100 109 (hre (tpA A) e (p, false, P)) = 3
          · rw [if_pos z1] at hp115
            obtain ⟨rfl, rfl⟩ := hp115
            refine aw_istore2 B dX12_factor_118 ?_
            refine aw_aload_n B 0 rfl dX12_factor_119 rfl ?_
            refine aw_iload_n B 2 rfl dX12_factor_120 rfl ?_
            refine aw_iconst B (-1) (by decide) dX12_factor_121 ?_
            refine aw_icmp_ne B 129 dX12_factor_122 (fun c122 => absurd rfl c122) (fun c122 => ?_)
            refine aw_iconst B 1 (by decide) dX12_factor_125 ?_
            refine aw_goto B 130 dX12_factor_126 ?_
            refine p_put7 B f_X12_54 (true) (rfl) dX12_factor_130 ?_
            refine aw_aload_n B 0 rfl dX12_factor_133 rfl ?_
            refine p_get B f_X12_54 dX12_factor_134 (pv_7) ?_
            refine aw_if_eq B 144 dX12_factor_137 (fun c137 => absurd c137 b2_t) (fun c137 => ?_)
            refine aw_iconst B 0 (by decide) dX12_factor_140 ?_
            refine aw_goto B 150 dX12_factor_141 ?_
            refine aw_istore3 B dX12_factor_150 ?_
            refine aw_aload_n B 0 rfl dX12_factor_151 rfl ?_
            refine aw_aload_n B 0 rfl dX12_factor_152 rfl ?_
            refine p_get B f_X12_54 dX12_factor_153 (pv_7) ?_
            refine aw_if_ne B 164 dX12_factor_156 (fun c156 => ?_) (fun c156 => absurd c156 b2_t)
            refine aw_iconst B 1 (by decide) dX12_factor_164 ?_
            refine aw_goto B 169 dX12_factor_165 ?_
            refine p_put7 B f_X12_54 (true) (rfl) dX12_factor_169 ?_
            refine aw_aload_n B 0 rfl dX12_factor_172 rfl ?_
            refine aw_callV B 0 0 (s_figures _ _ _ _ _ _ c e o p true P he hs) co_X12_figures k_X12_98 dX12_factor_173 hP_o rfl rfl rfl rfl (Nat.le_of_ble_eq_true rfl) (zrm hr (by omega)) (Nat.le_refl _) (Nat.le_refl _) (kI fun r173 h173 hp173 => ?_)
            obtain ⟨rfl, rfl⟩ := hp173
            refine aw_istore4 B dX12_factor_176 ?_
            refine aw_aload_n B 0 rfl dX12_factor_178 rfl ?_
            refine aw_iload_n B 2 rfl dX12_factor_179 rfl ?_
            refine aw_bipush B 8 (by decide) dX12_factor_180 ?_
            refine aw_iload_n B 3 rfl dX12_factor_182 rfl ?_
            refine aw_imul B dX12_factor_183 ?_
            refine aw_iadd B dX12_factor_184 ?_
            refine aw_bipush B 32 (by decide) dX12_factor_185 ?_
            refine aw_iload B dX12_factor_187 rfl ?_
            refine aw_imul B dX12_factor_189 ?_
            refine aw_iadd B dX12_factor_190 ?_
            refine aw_callV B 0 0 (s_emits _ _ _ _ _ _ c e o p true P _ (0, 0) hc (fun z => by cases z)) co_X12_emits k_X12_84 dX12_factor_191 hP_o rfl rfl rfl rfl (Nat.le_of_ble_eq_true rfl) (zrm hr (by omega)) (Nat.le_refl _) (Nat.le_refl _) (kV fun h191 hp191 => ?_)
            subst hp191
            refine aw_vret B rfl dX12_factor_194 ?_
            exact ⟨rfl, by rw [facP, if_neg Bool.false_ne_true, if_neg c16, if_neg c22]; unfold testP; rw [if_pos z1]; rfl⟩
          · rw [if_neg z1] at hp115
            obtain ⟨rfl, rfl⟩ := hp115
            obtain ⟨w3, wx⟩ := am3_lt z1
            have hl1 : p + 1 ≤ e := by
              show p < e
              rcases wx with z | z | z <;> exact hr_lt (s := (p, false, P)) z (by decide)
            refine aw_istore2 B dX12_factor_118 ?_
            refine aw_aload_n B 0 rfl dX12_factor_119 rfl ?_
            refine aw_iload_n B 2 rfl dX12_factor_120 rfl ?_
            refine aw_iconst B (-1) (by decide) dX12_factor_121 ?_
            refine aw_icmp_ne B 129 dX12_factor_122 (fun c122 => ?_) (fun c122 => absurd c122 (nI_nn (by omega)))
            refine aw_iconst B 0 (by decide) dX12_factor_129 ?_
            refine p_put7 B f_X12_54 (false) (rfl) dX12_factor_130 ?_
            refine aw_aload_n B 0 rfl dX12_factor_133 rfl ?_
            refine p_get B f_X12_54 dX12_factor_134 (pv_7) ?_
            refine aw_if_eq B 144 dX12_factor_137 (fun c137 => ?_) (fun c137 => absurd b2_f c137)
            refine aw_aload_n B 0 rfl dX12_factor_144 rfl ?_
            refine aw_ldcS (i := 4) (tx := "<=>") B (by show ("LowWaterModel", _, _, _) ∈ zSR; simp [zSR]) dX12_factor_145 ?_
            refine aw_callV B 0 0 (s_among _ _ _ _ _ _ c e o (adv (p, false, P)) 4 he hl1 (by decide)) co_X12_among k_X12_92 dX12_factor_147 hP_o rfl rfl rfl rfl (Nat.le_of_ble_eq_true rfl) (zrm hr (by omega)) (Nat.le_refl _) (Nat.le_refl _) (kI fun r147 h147 hp147 => ?_)
            rw [show zByt.getD 4 [] = [60, 61, 62] from rfl, am_3] at hp147
            by_cases z2 : am3 60 61 62 (hre (tpA A) e (adv (p, false, P))) = 3
            · rw [if_pos z2] at hp147
              obtain ⟨rfl, rfl⟩ := hp147
              refine aw_istore3 B dX12_factor_150 ?_
              refine aw_aload_n B 0 rfl dX12_factor_151 rfl ?_
              refine aw_aload_n B 0 rfl dX12_factor_152 rfl ?_
              refine p_get B f_X12_54 dX12_factor_153 (pv_7) ?_
              refine aw_if_ne B 164 dX12_factor_156 (fun c156 => absurd b2_f c156) (fun c156 => ?_)
              refine aw_iload_n B 3 rfl dX12_factor_159 rfl ?_
              refine aw_iconst B (-1) (by decide) dX12_factor_160 ?_
              refine aw_icmp_ne B 168 dX12_factor_161 (fun c161 => absurd rfl c161) (fun c161 => ?_)
              refine aw_iconst B 1 (by decide) dX12_factor_164 ?_
              refine aw_goto B 169 dX12_factor_165 ?_
              refine p_put7 B f_X12_54 (true) (rfl) dX12_factor_169 ?_
              refine aw_aload_n B 0 rfl dX12_factor_172 rfl ?_
              refine aw_callV B 0 0 (s_figures _ _ _ _ _ _ c e o (p + 1) true P he hl1) co_X12_figures k_X12_98 dX12_factor_173 hP_o rfl rfl rfl rfl (Nat.le_of_ble_eq_true rfl) (zrm hr (by omega)) (Nat.le_refl _) (Nat.le_refl _) (kI fun r173 h173 hp173 => ?_)
              obtain ⟨rfl, rfl⟩ := hp173
              refine aw_istore4 B dX12_factor_176 ?_
              refine aw_aload_n B 0 rfl dX12_factor_178 rfl ?_
              refine aw_iload_n B 2 rfl dX12_factor_179 rfl ?_
              refine aw_bipush B 8 (by decide) dX12_factor_180 ?_
              refine aw_iload_n B 3 rfl dX12_factor_182 rfl ?_
              refine aw_imul B dX12_factor_183 ?_
              refine aw_iadd B dX12_factor_184 ?_
              refine aw_bipush B 32 (by decide) dX12_factor_185 ?_
              refine aw_iload B dX12_factor_187 rfl ?_
              refine aw_imul B dX12_factor_189 ?_
              refine aw_iadd B dX12_factor_190 ?_
              refine aw_callV B 0 0 (s_emits _ _ _ _ _ _ c e o (p + 1) true P _ (0, 0) hc (fun z => by cases z)) co_X12_emits k_X12_84 dX12_factor_191 hP_o rfl rfl rfl rfl (Nat.le_of_ble_eq_true rfl) (zrm hr (by omega)) (Nat.le_refl _) (Nat.le_refl _) (kV fun h191 hp191 => ?_)
              subst hp191
              refine aw_vret B rfl dX12_factor_194 ?_
              exact ⟨rfl, by rw [facP, if_neg Bool.false_ne_true, if_neg c16, if_neg c22]; unfold testP; rw [if_neg z1, if_pos z2]; rfl⟩
            · rw [if_neg z2] at hp147
              obtain ⟨rfl, rfl⟩ := hp147
              obtain ⟨o3, ox⟩ := am3_lt z2
              have hl2 : p + 1 + 1 ≤ e := by
                show p + 1 < e
                rcases ox with z | z | z <;> exact hr_lt (s := (p + 1, false, P)) z (by decide)
              obtain ⟨g1, g2, g3, g4, -⟩ := fig_gs (tp := tpA A) (e := e) (s := (p + 1 + 1, false, P)) hl2
              have hl : P.length ≤ p := hl
              have g4l : (figP (tpA A) e (p + 1 + 1, false, P)).2.2.2.length < 140 := by
                rw [g4]
                show P.length < 140
                omega
              refine aw_istore3 B dX12_factor_150 ?_
              refine aw_aload_n B 0 rfl dX12_factor_151 rfl ?_
              refine aw_aload_n B 0 rfl dX12_factor_152 rfl ?_
              refine p_get B f_X12_54 dX12_factor_153 (pv_7) ?_
              refine aw_if_ne B 164 dX12_factor_156 (fun c156 => absurd b2_f c156) (fun c156 => ?_)
              refine aw_iload_n B 3 rfl dX12_factor_159 rfl ?_
              refine aw_iconst B (-1) (by decide) dX12_factor_160 ?_
              refine aw_icmp_ne B 168 dX12_factor_161 (fun c161 => ?_) (fun c161 => absurd c161 (nI_nn (by omega)))
              refine aw_iconst B 0 (by decide) dX12_factor_168 ?_
              refine p_put7 B f_X12_54 (false) (rfl) dX12_factor_169 ?_
              refine aw_aload_n B 0 rfl dX12_factor_172 rfl ?_
              refine aw_callV B 0 0 (s_figures _ _ _ _ _ _ c e o (p + 1 + 1) false P he hl2) co_X12_figures k_X12_98 dX12_factor_173 hP_o rfl rfl rfl rfl (Nat.le_of_ble_eq_true rfl) (zrm hr (by omega)) (Nat.le_refl _) (Nat.le_refl _) (kI fun r173 h173 hp173 => ?_)
              obtain ⟨rfl, rfl⟩ := hp173
              refine aw_istore4 B dX12_factor_176 ?_
              refine aw_aload_n B 0 rfl dX12_factor_178 rfl ?_
              refine aw_iload_n B 2 rfl dX12_factor_179 rfl ?_
              refine aw_bipush B 8 (by decide) dX12_factor_180 ?_
              refine aw_iload_n B 3 rfl dX12_factor_182 rfl ?_
              refine aw_imul B dX12_factor_183 ?_
              refine aw_iadd B dX12_factor_184 ?_
              refine aw_bipush B 32 (by decide) dX12_factor_185 ?_
              refine aw_iload B dX12_factor_187 rfl ?_
              refine aw_imul B dX12_factor_189 ?_
              refine aw_iadd B dX12_factor_190 ?_
              refine aw_callV B 0 0 (s_emits _ _ _ _ _ _ c e o (figP (tpA A) e (p + 1 + 1, false, P)).2.1 (figP (tpA A) e (p + 1 + 1, false, P)).2.2.1 (figP (tpA A) e (p + 1 + 1, false, P)).2.2.2 _ (3 * am3 104 100 109 (hre (tpA A) e (p, false, P)) + am3 60 61 62 (hre (tpA A) e (adv (p, false, P))), (figP (tpA A) e (p + 1 + 1, false, P)).1) hc (fun _ => ⟨cd_test w3 o3, g4l⟩)) co_X12_emits k_X12_84 dX12_factor_191 hP_o rfl rfl rfl rfl (Nat.le_of_ble_eq_true rfl) (zrm hr (by omega)) (Nat.le_refl _) (Nat.le_refl _) (kV fun h191 hp191 => ?_)
              subst hp191
              refine aw_vret B rfl dX12_factor_194 ?_
              exact ⟨rfl, by rw [facP, if_neg Bool.false_ne_true, if_neg c16, if_neg c22]; unfold testP; rw [if_neg z1, if_neg z2]; rfl⟩
        · have hlt : p + 1 ≤ e := hr_lt (s := (p, false, P)) c22 (by decide)
          have hl : P.length ≤ p := hl
          obtain ⟨q1, q2, q3⟩ := gd_ok1 (so_gd (tp := tpA A) (fac_gd (tpA A) e d)) hlt hl
          refine aw_aload_n B 0 rfl dX12_factor_25 rfl ?_
          refine aw_aload_n B 0 rfl dX12_factor_26 rfl ?_
          refine p_get B f_X12_78 dX12_factor_27 (pv_8) ?_
          refine aw_iconst B 5 (by decide) dX12_factor_30 ?_
          refine aw_icmp_ne B 38 dX12_factor_31 (fun c31 => ?_) (fun c31 => absurd c31 (show ¬ nI o = nI 5 from nI_ne (by omega) (by decide) (by omega)))
          refine aw_iconst B 0 (by decide) dX12_factor_38 ?_
          refine p_put7 B f_X12_54 (false) (rfl) dX12_factor_39 ?_
          refine aw_aload_n B 0 rfl dX12_factor_42 rfl ?_
          refine aw_dup B rfl dX12_factor_43 ?_
          refine p_get B f_X12_78 dX12_factor_44 (pv_8) ?_
          refine aw_iconst B 1 (by decide) dX12_factor_47 ?_
          refine aw_iadd B dX12_factor_48 ?_
          refine p_put8 B f_X12_78 (o + 1) (nI_1 o) dX12_factor_49 ?_
          refine aw_aload_n B 0 rfl dX12_factor_52 rfl ?_
          refine aw_dup B rfl dX12_factor_53 ?_
          refine p_get B f_X12_48 dX12_factor_54 (pv_5) ?_
          refine aw_aload_n B 0 rfl dX12_factor_57 rfl ?_
          refine p_get B f_X12_54 dX12_factor_58 (pv_7) ?_
          refine aw_if_eq B 68 dX12_factor_61 (fun c61 => ?_) (fun c61 => absurd b2_f c61)
          refine aw_iconst B 1 (by decide) dX12_factor_68 ?_
          refine aw_iadd B dX12_factor_69 ?_
          refine p_put5 B f_X12_48 (p + 1) (nI_1 p) dX12_factor_70 ?_
          refine aw_iload_n B 1 rfl dX12_factor_73 rfl ?_
          refine aw_bipush B 33 (by decide) dX12_factor_74 ?_
          refine aw_icmp_ne B 91 dX12_factor_76 (fun c76 => ?_) (fun c76 => absurd c76 c16)
          refine aw_aload_n B 0 rfl dX12_factor_91 rfl ?_
          refine aw_callV B 0 0 (s_so he hc (by omega) (fac_gd (tpA A) e d) (ih (o + 1) (by omega)) (p + 1, false, P) hlt (by show P.length ≤ p + 1; omega)) co_X12_some k_X12_87 dX12_factor_92 hP_o rfl rfl rfl rfl (Nat.le_of_ble_eq_true rfl) (zrm hr (by omega)) (Nat.le_refl _) (Nat.le_refl _) (kV fun h92 hp92 => ?_)
          subst hp92
          refine aw_aload_n B 0 rfl dX12_factor_95 rfl ?_
          refine aw_bipush B 41 (by decide) dX12_factor_96 ?_
          refine aw_callV B 0 0 (s_must _ _ _ _ _ _ c e (o + 1) (soP (tpA A) e (facP (tpA A) e d) (p + 1, false, P)).1 (soP (tpA A) e (facP (tpA A) e d) (p + 1, false, P)).2.1 (soP (tpA A) e (facP (tpA A) e d) (p + 1, false, P)).2.2 41 he q1) co_X12_must k_X12_71 dX12_factor_98 hP_o rfl rfl rfl rfl (Nat.le_of_ble_eq_true rfl) (zrm hr (by omega)) (Nat.le_refl _) (Nat.le_refl _) (kV fun h98 hp98 => ?_)
          subst hp98
          refine aw_aload_n B 0 rfl dX12_factor_101 rfl ?_
          refine aw_dup B rfl dX12_factor_102 ?_
          refine p_get B f_X12_78 dX12_factor_103 (pv_8) ?_
          refine aw_iconst B 1 (by decide) dX12_factor_106 ?_
          refine aw_isub B dX12_factor_107 ?_
          refine p_put8 B f_X12_78 (o) (nI_pred o) dX12_factor_108 ?_
          refine aw_vret B rfl dX12_factor_111 ?_
          exact ⟨rfl, by rw [facP, if_neg Bool.false_ne_true]; rw [if_neg c16, if_pos c22]; rfl⟩
