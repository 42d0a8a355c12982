/-! the constructors -/
theorem a_ne {b i j : Nat} (h : i ≠ j) : b + i ≠ b + j := by omega
theorem a_n0 {b j : Nat} (h : 0 < j) : b ≠ b + j := by omega
theorem a_0n {b j : Nat} (h : 0 < j) : b + j ≠ b := by omega
theorem a_lt {b i j : Nat} (h : i < j) : b + i < b + j := by omega
theorem a_l0 {b j : Nat} (h : 0 < j) : b < b + j := by omega
theorem a_k {a b j : Nat} (h : a < b) : a ≠ b + j := by omega
theorem a_kl {a b j : Nat} (h : a < b) : a < b + j := by omega
theorem a_jn {b k j t : Nat} (hj : j < 4) (h : k + 4 ≤ t ∨ t < k) : b + k + j ≠ b + t := by omega
theorem a_j0 {b k j : Nat} (h : 0 < k) : b + k + j ≠ b := by omega
theorem a_jl {b k j t : Nat} (hj : j < 4) (h : k + 4 ≤ t) : b + k + j < b + t := by omega
theorem a_sn {b k t a : Nat} (L : Nat) (ha : b + k ≤ a ∧ a < b + k + L) (h : k + L ≤ t ∨ t < k) : a ≠ b + t := by omega
theorem a_s0 {b k a L : Nat} (ha : b + k ≤ a ∧ a < b + k + L) (h : 0 < k) : a ≠ b := by omega
theorem a_sl {b k t a : Nat} (L : Nat) (ha : b + k ≤ a ∧ a < b + k + L) (h : k + L ≤ t) : a < b + t := by omega
theorem ari_int : Cond.arrayClass .int ∈ zT := zT_t (i := 61) (by decide +kernel) (by decide +kernel)
theorem ari_bool : Cond.arrayClass .boolean ∈ zT := zT_t (i := 922) (by decide +kernel) (by decide +kernel)
theorem dX1_init_0 : decode cX1_init 0 = .ok (.aload_n 0, 1) := by decide +kernel
theorem dX1_init_1 : decode cX1_init 1 = .ok (.invokespecial 3, 3) := by decide +kernel
theorem dX1_init_4 : decode cX1_init 4 = .ok (.aload_n 0, 1) := by decide +kernel
theorem dX1_init_5 : decode cX1_init 5 = .ok (.bipush 100, 2) := by decide +kernel
theorem dX1_init_7 : decode cX1_init 7 = .ok (.newarray .int, 2) := by decide +kernel
theorem dX1_init_9 : decode cX1_init 9 = .ok (.putfield 11, 3) := by decide +kernel
theorem dX1_init_12 : decode cX1_init 12 = .ok (.aload_n 0, 1) := by decide +kernel
theorem dX1_init_13 : decode cX1_init 13 = .ok (.bipush 100, 2) := by decide +kernel
theorem dX1_init_15 : decode cX1_init 15 = .ok (.newarray .int, 2) := by decide +kernel
theorem dX1_init_17 : decode cX1_init 17 = .ok (.putfield 15, 3) := by decide +kernel
theorem dX1_init_20 : decode cX1_init 20 = .ok (.aload_n 0, 1) := by decide +kernel
theorem dX1_init_21 : decode cX1_init 21 = .ok (.iconst 0, 1) := by decide +kernel
theorem dX1_init_22 : decode cX1_init 22 = .ok (.putfield 18, 3) := by decide +kernel
theorem dX1_init_25 : decode cX1_init 25 = .ok (.aload_n 0, 1) := by decide +kernel
theorem dX1_init_26 : decode cX1_init 26 = .ok (.sipush 840, 3) := by decide +kernel
theorem dX1_init_29 : decode cX1_init 29 = .ok (.newarray .int, 2) := by decide +kernel
theorem dX1_init_31 : decode cX1_init 31 = .ok (.putfield 22, 3) := by decide +kernel
theorem dX1_init_34 : decode cX1_init 34 = .ok (.aload_n 0, 1) := by decide +kernel
theorem dX1_init_35 : decode cX1_init 35 = .ok (.aconst_null, 1) := by decide +kernel
theorem dX1_init_36 : decode cX1_init 36 = .ok (.putfield 25, 3) := by decide +kernel
theorem dX1_init_39 : decode cX1_init 39 = .ok (.aload_n 0, 1) := by decide +kernel
theorem dX1_init_40 : decode cX1_init 40 = .ok (.iconst 0, 1) := by decide +kernel
theorem dX1_init_41 : decode cX1_init 41 = .ok (.putfield 29, 3) := by decide +kernel
theorem dX1_init_44 : decode cX1_init 44 = .ok (.return_, 1) := by decide +kernel
theorem nlk_X1_11 : ∀ q ∈ zNF, ¬ (q.1 = "LowWater$Cave" ∧ q.2.1 = 11) := by decide +kernel
theorem nlk_X1_15 : ∀ q ∈ zNF, ¬ (q.1 = "LowWater$Cave" ∧ q.2.1 = 15) := by decide +kernel
theorem nlk_X1_22 : ∀ q ∈ zNF, ¬ (q.1 = "LowWater$Cave" ∧ q.2.1 = 22) := by decide +kernel
set_option maxRecDepth 100000 in
set_option maxHeartbeats 4000000 in
theorem c_cave (l : Launch) (g : zG) (h : Hp) (k : Nat)  (Z : h.1 = k + 1) (ho : h.2 k = some (.inr (1, [.null, .null, .int 0, .null, .null, .int 0]))) : Sp l g yX1_init cX1_init 1 none (rmc 1 3 1040) [.ref k] (h) (zV fun h' => h'.1 = k + 4 ∧ kvI g h' k .null (fun _ => 0) (fun _ => 0) 0 (fun _ => 0) 0 ∧ ∀ a, a < k → h'.2 a = h.2 a) := by
  refine Sp.of [some (.ref k)] (by decide) (Nat.le_of_ble_eq_true rfl) rfl rfl ?_
  rintro X rfl hr rfl B
  show AW X 3 1040 0 _ _ _ _
  have K : ∀ a, a < k → h.2 a = h.2 a := fun _ _ => rfl
  refine aw_aload_n B 0 rfl dX1_init_0 rfl ?_
  refine aw_objInit B k_X1_3 dX1_init_1 (Nat.le_of_ble_eq_true rfl) (mRo hr (by decide)) ?_
  refine aw_aload_n B 0 rfl dX1_init_4 rfl ?_
  refine aw_bipush B 100 (by decide) dX1_init_5 ?_
  refine aw_newi B 100 2 940 dX1_init_7 ari_int (by decide) rfl (by decide) (by decide) (by decide) ?_
  rw [show h.1 = k + 1 from Z]
  obtain ⟨k1, ek1⟩ : ∃ z : Hp, z = hp_new h (.inl ((zXg X).2.2.1.1, 100, .inl (fun _ => 0))) := ⟨_, rfl⟩
  rw [← ek1]
  have ok1 : ∀ a, a ≠ k + 1 → k1.2 a = h.2 a := fun a y1 => by rw [ek1]; exact hn_n (by rw [Z]; exact y1)
  have f1 : k1.2 (k + 1) = some (.inl ((zXg X).2.2.1.1, 100, .inl (fun _ => 0))) := by rw [ek1, ← Z]; exact hn_s
  have ho := (ok1 _ (a_n0 (by decide))).trans ho
  have K : ∀ a, a < k → k1.2 a = h.2 a := fun a y1 => (ok1 a (a_k y1)).trans (K a y1)
  have Z : k1.1 = k + 2 := by rw [ek1]; show h.1 + 1 = _; rw [Z]
  refine aw_putF B rfl f_X1_11 nlk_X1_11 dX1_init_9 ho rfl rfl (by show 0 < 6; decide) ?_
  obtain ⟨k2, ek2⟩ : ∃ z : Hp, z = hp_up k1 (k) (.inr (1, [.null, .null, .int 0, .null, .null, .int 0].set 0 (.ref (k + 1)))) := ⟨_, rfl⟩
  rw [← ek2]
  have ok2 : ∀ a, a ≠ k → k2.2 a = k1.2 a := fun a y1 => by rw [ek2]; exact hu_n y1
  have ho : k2.2 (k) = some (.inr (1, [.ref (k + 1), .null, .int 0, .null, .null, .int 0])) := by rw [ek2]; exact hu_s
  have K : ∀ a, a < k → k2.2 a = h.2 a := fun a y1 => (ok2 a (Nat.ne_of_lt y1)).trans (K a y1)
  have Z : k2.1 = k + 2 := by rw [ek2]; exact Z
  have f1 := (ok2 _ (a_0n (by decide))).trans f1
  refine aw_aload_n B 0 rfl dX1_init_12 rfl ?_
  refine aw_bipush B 100 (by decide) dX1_init_13 ?_
  refine aw_newi B 100 1 840 dX1_init_15 ari_int (by decide) rfl (by decide) (by decide) (by decide) ?_
  rw [show k2.1 = k + 2 from Z]
  obtain ⟨k3, ek3⟩ : ∃ z : Hp, z = hp_new k2 (.inl ((zXg X).2.2.1.1, 100, .inl (fun _ => 0))) := ⟨_, rfl⟩
  rw [← ek3]
  have ok3 : ∀ a, a ≠ k + 2 → k3.2 a = k2.2 a := fun a y1 => by rw [ek3]; exact hn_n (by rw [Z]; exact y1)
  have f2 : k3.2 (k + 2) = some (.inl ((zXg X).2.2.1.1, 100, .inl (fun _ => 0))) := by rw [ek3, ← Z]; exact hn_s
  have ho := (ok3 _ (a_n0 (by decide))).trans ho
  have K : ∀ a, a < k → k3.2 a = h.2 a := fun a y1 => (ok3 a (a_k y1)).trans (K a y1)
  have Z : k3.1 = k + 3 := by rw [ek3]; show k2.1 + 1 = _; rw [Z]
  have f1 := (ok3 _ (a_ne (by decide))).trans f1
  refine aw_putF B rfl f_X1_15 nlk_X1_15 dX1_init_17 ho rfl rfl (by show 1 < 6; decide) ?_
  obtain ⟨k4, ek4⟩ : ∃ z : Hp, z = hp_up k3 (k) (.inr (1, [.ref (k + 1), .null, .int 0, .null, .null, .int 0].set 1 (.ref (k + 2)))) := ⟨_, rfl⟩
  rw [← ek4]
  have ok4 : ∀ a, a ≠ k → k4.2 a = k3.2 a := fun a y1 => by rw [ek4]; exact hu_n y1
  have ho : k4.2 (k) = some (.inr (1, [.ref (k + 1), .ref (k + 2), .int 0, .null, .null, .int 0])) := by rw [ek4]; exact hu_s
  have K : ∀ a, a < k → k4.2 a = h.2 a := fun a y1 => (ok4 a (Nat.ne_of_lt y1)).trans (K a y1)
  have Z : k4.1 = k + 3 := by rw [ek4]; exact Z
  have f1 := (ok4 _ (a_0n (by decide))).trans f1
  have f2 := (ok4 _ (a_0n (by decide))).trans f2
  refine aw_aload_n B 0 rfl dX1_init_20 rfl ?_
  refine aw_iconst B 0 (by decide) dX1_init_21 ?_
  refine aw_put B f_X1_18 dX1_init_22 ho rfl rfl (by show 2 < 6; decide) ?_
  obtain ⟨k5, ek5⟩ : ∃ z : Hp, z = hp_up k4 (k) (.inr (1, [.ref (k + 1), .ref (k + 2), .int 0, .null, .null, .int 0].set 2 (.int 0))) := ⟨_, rfl⟩
  rw [← ek5]
  have ok5 : ∀ a, a ≠ k → k5.2 a = k4.2 a := fun a y1 => by rw [ek5]; exact hu_n y1
  have ho : k5.2 (k) = some (.inr (1, [.ref (k + 1), .ref (k + 2), .int 0, .null, .null, .int 0])) := by rw [ek5]; exact hu_s
  have K : ∀ a, a < k → k5.2 a = h.2 a := fun a y1 => (ok5 a (Nat.ne_of_lt y1)).trans (K a y1)
  have Z : k5.1 = k + 3 := by rw [ek5]; exact Z
  have f1 := (ok5 _ (a_0n (by decide))).trans f1
  have f2 := (ok5 _ (a_0n (by decide))).trans f2
  refine aw_aload_n B 0 rfl dX1_init_25 rfl ?_
  refine aw_sipush B 840 (by decide) dX1_init_26 ?_
  refine aw_newi B 840 0 0 dX1_init_29 ari_int (by decide) rfl (by decide) (by decide) (by decide) ?_
  rw [show k5.1 = k + 3 from Z]
  obtain ⟨k6, ek6⟩ : ∃ z : Hp, z = hp_new k5 (.inl ((zXg X).2.2.1.1, 840, .inl (fun _ => 0))) := ⟨_, rfl⟩
  rw [← ek6]
  have ok6 : ∀ a, a ≠ k + 3 → k6.2 a = k5.2 a := fun a y1 => by rw [ek6]; exact hn_n (by rw [Z]; exact y1)
  have f3 : k6.2 (k + 3) = some (.inl ((zXg X).2.2.1.1, 840, .inl (fun _ => 0))) := by rw [ek6, ← Z]; exact hn_s
  have ho := (ok6 _ (a_n0 (by decide))).trans ho
  have K : ∀ a, a < k → k6.2 a = h.2 a := fun a y1 => (ok6 a (a_k y1)).trans (K a y1)
  have Z : k6.1 = k + 4 := by rw [ek6]; show k5.1 + 1 = _; rw [Z]
  have f1 := (ok6 _ (a_ne (by decide))).trans f1
  have f2 := (ok6 _ (a_ne (by decide))).trans f2
  refine aw_putF B rfl f_X1_22 nlk_X1_22 dX1_init_31 ho rfl rfl (by show 3 < 6; decide) ?_
  obtain ⟨k7, ek7⟩ : ∃ z : Hp, z = hp_up k6 (k) (.inr (1, [.ref (k + 1), .ref (k + 2), .int 0, .null, .null, .int 0].set 3 (.ref (k + 3)))) := ⟨_, rfl⟩
  rw [← ek7]
  have ok7 : ∀ a, a ≠ k → k7.2 a = k6.2 a := fun a y1 => by rw [ek7]; exact hu_n y1
  have ho : k7.2 (k) = some (.inr (1, [.ref (k + 1), .ref (k + 2), .int 0, .ref (k + 3), .null, .int 0])) := by rw [ek7]; exact hu_s
  have K : ∀ a, a < k → k7.2 a = h.2 a := fun a y1 => (ok7 a (Nat.ne_of_lt y1)).trans (K a y1)
  have Z : k7.1 = k + 4 := by rw [ek7]; exact Z
  have f1 := (ok7 _ (a_0n (by decide))).trans f1
  have f2 := (ok7 _ (a_0n (by decide))).trans f2
  have f3 := (ok7 _ (a_0n (by decide))).trans f3
  refine aw_aload_n B 0 rfl dX1_init_34 rfl ?_
  refine aw_null B dX1_init_35 ?_
  refine aw_put B f_X1_25 dX1_init_36 ho rfl rfl (by show 4 < 6; decide) ?_
  obtain ⟨k8, ek8⟩ : ∃ z : Hp, z = hp_up k7 (k) (.inr (1, [.ref (k + 1), .ref (k + 2), .int 0, .ref (k + 3), .null, .int 0].set 4 (.null))) := ⟨_, rfl⟩
  rw [← ek8]
  have ok8 : ∀ a, a ≠ k → k8.2 a = k7.2 a := fun a y1 => by rw [ek8]; exact hu_n y1
  have ho : k8.2 (k) = some (.inr (1, [.ref (k + 1), .ref (k + 2), .int 0, .ref (k + 3), .null, .int 0])) := by rw [ek8]; exact hu_s
  have K : ∀ a, a < k → k8.2 a = h.2 a := fun a y1 => (ok8 a (Nat.ne_of_lt y1)).trans (K a y1)
  have Z : k8.1 = k + 4 := by rw [ek8]; exact Z
  have f1 := (ok8 _ (a_0n (by decide))).trans f1
  have f2 := (ok8 _ (a_0n (by decide))).trans f2
  have f3 := (ok8 _ (a_0n (by decide))).trans f3
  refine aw_aload_n B 0 rfl dX1_init_39 rfl ?_
  refine aw_iconst B 0 (by decide) dX1_init_40 ?_
  refine aw_put B f_X1_29 dX1_init_41 ho rfl rfl (by show 5 < 6; decide) ?_
  obtain ⟨k9, ek9⟩ : ∃ z : Hp, z = hp_up k8 (k) (.inr (1, [.ref (k + 1), .ref (k + 2), .int 0, .ref (k + 3), .null, .int 0].set 5 (.int 0))) := ⟨_, rfl⟩
  rw [← ek9]
  have ok9 : ∀ a, a ≠ k → k9.2 a = k8.2 a := fun a y1 => by rw [ek9]; exact hu_n y1
  have ho : k9.2 (k) = some (.inr (1, [.ref (k + 1), .ref (k + 2), .int 0, .ref (k + 3), .null, .int 0])) := by rw [ek9]; exact hu_s
  have K : ∀ a, a < k → k9.2 a = h.2 a := fun a y1 => (ok9 a (Nat.ne_of_lt y1)).trans (K a y1)
  have Z : k9.1 = k + 4 := by rw [ek9]; exact Z
  have f1 := (ok9 _ (a_0n (by decide))).trans f1
  have f2 := (ok9 _ (a_0n (by decide))).trans f2
  have f3 := (ok9 _ (a_0n (by decide))).trans f3
  refine aw_vret B rfl dX1_init_44 ?_
  exact ⟨rfl, Z, fun j hj => by
    rcases (show j = 0 ∨ j = 1 ∨ j = 2 ∨ j = 3 by omega) with rfl | rfl | rfl | rfl
    · exact ho
    · exact f1
    · exact f2
    · exact f3, K⟩
theorem dX7_init_0 : decode cX7_init 0 = .ok (.aload_n 0, 1) := by decide +kernel
theorem dX7_init_1 : decode cX7_init 1 = .ok (.invokespecial 3, 3) := by decide +kernel
theorem dX7_init_4 : decode cX7_init 4 = .ok (.aload_n 0, 1) := by decide +kernel
theorem dX7_init_5 : decode cX7_init 5 = .ok (.iconst 0, 1) := by decide +kernel
theorem dX7_init_6 : decode cX7_init 6 = .ok (.putfield 9, 3) := by decide +kernel
theorem dX7_init_9 : decode cX7_init 9 = .ok (.aload_n 0, 1) := by decide +kernel
theorem dX7_init_10 : decode cX7_init 10 = .ok (.aload_n 1, 1) := by decide +kernel
theorem dX7_init_11 : decode cX7_init 11 = .ok (.putfield 15, 3) := by decide +kernel
theorem dX7_init_14 : decode cX7_init 14 = .ok (.return_, 1) := by decide +kernel
theorem nlk_X7_15 : ∀ q ∈ zNF, ¬ (q.1 = "LowWater$Row" ∧ q.2.1 = 15) := by decide +kernel
set_option maxRecDepth 100000 in
set_option maxHeartbeats 4000000 in
theorem c_row (l : Launch) (g : zG) (h : Hp) (r N : Nat) (f : Nat → Int32) (ho : h.2 r = some (.inr (7, [.null, .int 0]))) (hi : h.2 (r + 1) = some (.inl (g.2.2.1.1, N, .inl f))) : Sp l g yX7_init cX7_init 2 none (rmz 1) [.ref r, .ref (r + 1)] (h) (zV fun h' => h'.1 = h.1 ∧ rowI g h' r N f 0 ∧ ∀ a, a ≠ r → h'.2 a = h.2 a) := by
  refine Sp.of [some (.ref r), some (.ref (r + 1))] (by decide) (Nat.le_of_ble_eq_true rfl) rfl rfl ?_
  rintro X rfl hr rfl B
  show AW X 0 0 0 _ _ _ _
  refine aw_aload_n B 0 rfl dX7_init_0 rfl ?_
  refine aw_objInit B k_X7_3 dX7_init_1 (Nat.le_of_ble_eq_true rfl) (mRo (c := 0) (s := 0) hr (by omega)) ?_
  refine aw_aload_n B 0 rfl dX7_init_4 rfl ?_
  refine aw_iconst B 0 (by decide) dX7_init_5 ?_
  refine aw_put B f_X7_9 dX7_init_6 ho rfl rfl (by show 1 < 2; decide) ?_
  refine aw_aload_n B 0 rfl dX7_init_9 rfl ?_
  refine aw_aload_n B 1 rfl dX7_init_10 rfl ?_
  refine aw_putF B rfl f_X7_15 nlk_X7_15 dX7_init_11 hu_s rfl rfl (by show 0 < 2; decide) ?_
  rw [hp_uu]
  refine aw_vret B rfl dX7_init_14 ?_
  exact ⟨rfl, rfl, ⟨hu_s, (hu_n (by omega)).trans hi⟩, fun a y => hu_n y⟩
theorem dX4_init_0 : decode cX4_init 0 = .ok (.aload_n 0, 1) := by decide +kernel
theorem dX4_init_1 : decode cX4_init 1 = .ok (.invokespecial 3, 3) := by decide +kernel
theorem dX4_init_4 : decode cX4_init 4 = .ok (.aload_n 0, 1) := by decide +kernel
theorem dX4_init_5 : decode cX4_init 5 = .ok (.aconst_null, 1) := by decide +kernel
theorem dX4_init_6 : decode cX4_init 6 = .ok (.putfield 9, 3) := by decide +kernel
theorem dX4_init_9 : decode cX4_init 9 = .ok (.aload_n 0, 1) := by decide +kernel
theorem dX4_init_10 : decode cX4_init 10 = .ok (.aconst_null, 1) := by decide +kernel
theorem dX4_init_11 : decode cX4_init 11 = .ok (.putfield 15, 3) := by decide +kernel
theorem dX4_init_14 : decode cX4_init 14 = .ok (.aload_n 0, 1) := by decide +kernel
theorem dX4_init_15 : decode cX4_init 15 = .ok (.iconst 0, 1) := by decide +kernel
theorem dX4_init_16 : decode cX4_init 16 = .ok (.putfield 19, 3) := by decide +kernel
theorem dX4_init_19 : decode cX4_init 19 = .ok (.aload_n 0, 1) := by decide +kernel
theorem dX4_init_20 : decode cX4_init 20 = .ok (.bipush 64, 2) := by decide +kernel
theorem dX4_init_22 : decode cX4_init 22 = .ok (.newarray .int, 2) := by decide +kernel
theorem dX4_init_24 : decode cX4_init 24 = .ok (.putfield 23, 3) := by decide +kernel
theorem dX4_init_27 : decode cX4_init 27 = .ok (.aload_n 0, 1) := by decide +kernel
theorem dX4_init_28 : decode cX4_init 28 = .ok (.bipush 6, 2) := by decide +kernel
theorem dX4_init_30 : decode cX4_init 30 = .ok (.newarray .int, 2) := by decide +kernel
theorem dX4_init_32 : decode cX4_init 32 = .ok (.putfield 27, 3) := by decide +kernel
theorem dX4_init_35 : decode cX4_init 35 = .ok (.aload_n 0, 1) := by decide +kernel
theorem dX4_init_36 : decode cX4_init 36 = .ok (.bipush 6, 2) := by decide +kernel
theorem dX4_init_38 : decode cX4_init 38 = .ok (.newarray .int, 2) := by decide +kernel
theorem dX4_init_40 : decode cX4_init 40 = .ok (.putfield 30, 3) := by decide +kernel
theorem dX4_init_43 : decode cX4_init 43 = .ok (.aload_n 0, 1) := by decide +kernel
theorem dX4_init_44 : decode cX4_init 44 = .ok (.sipush 1806, 3) := by decide +kernel
theorem dX4_init_47 : decode cX4_init 47 = .ok (.newarray .int, 2) := by decide +kernel
theorem dX4_init_49 : decode cX4_init 49 = .ok (.putfield 33, 3) := by decide +kernel
theorem dX4_init_52 : decode cX4_init 52 = .ok (.aload_n 0, 1) := by decide +kernel
theorem dX4_init_53 : decode cX4_init 53 = .ok (.iconst 0, 1) := by decide +kernel
theorem dX4_init_54 : decode cX4_init 54 = .ok (.putfield 36, 3) := by decide +kernel
theorem dX4_init_57 : decode cX4_init 57 = .ok (.return_, 1) := by decide +kernel
theorem nlk_X4_23 : ∀ q ∈ zNF, ¬ (q.1 = "LowWater$Orders" ∧ q.2.1 = 23) := by decide +kernel
theorem nlk_X4_27 : ∀ q ∈ zNF, ¬ (q.1 = "LowWater$Orders" ∧ q.2.1 = 27) := by decide +kernel
theorem nlk_X4_30 : ∀ q ∈ zNF, ¬ (q.1 = "LowWater$Orders" ∧ q.2.1 = 30) := by decide +kernel
theorem nlk_X4_33 : ∀ q ∈ zNF, ¬ (q.1 = "LowWater$Orders" ∧ q.2.1 = 33) := by decide +kernel
set_option maxRecDepth 100000 in
set_option maxHeartbeats 4000000 in
theorem c_ord (l : Launch) (g : zG) (h : Hp) (o : Nat)  (Z : h.1 = o + 1) (ho : h.2 o = some (.inr (4, [.null, .null, .int 0, .null, .null, .null, .null, .int 0]))) : Sp l g yX4_init cX4_init 1 none (rmc 1 4 1882) [.ref o] (h) (zV fun h' => h'.1 = o + 5 ∧ oX g h' o 0 ∧ ∀ a, a < o → h'.2 a = h.2 a) := by
  refine Sp.of [some (.ref o)] (by decide) (Nat.le_of_ble_eq_true rfl) rfl rfl ?_
  rintro X rfl hr rfl B
  show AW X 4 1882 0 _ _ _ _
  have K : ∀ a, a < o → h.2 a = h.2 a := fun _ _ => rfl
  refine aw_aload_n B 0 rfl dX4_init_0 rfl ?_
  refine aw_objInit B k_X4_3 dX4_init_1 (Nat.le_of_ble_eq_true rfl) (mRo hr (by decide)) ?_
  refine aw_aload_n B 0 rfl dX4_init_4 rfl ?_
  refine aw_null B dX4_init_5 ?_
  refine aw_put B f_X4_9 dX4_init_6 ho rfl rfl (by show 0 < 8; decide) ?_
  obtain ⟨k1, ek1⟩ : ∃ z : Hp, z = hp_up h (o) (.inr (4, [.null, .null, .int 0, .null, .null, .null, .null, .int 0].set 0 (.null))) := ⟨_, rfl⟩
  rw [← ek1]
  have ok1 : ∀ a, a ≠ o → k1.2 a = h.2 a := fun a y1 => by rw [ek1]; exact hu_n y1
  have ho : k1.2 (o) = some (.inr (4, [.null, .null, .int 0, .null, .null, .null, .null, .int 0])) := by rw [ek1]; exact hu_s
  have K : ∀ a, a < o → k1.2 a = h.2 a := fun a y1 => (ok1 a (Nat.ne_of_lt y1)).trans (K a y1)
  have Z : k1.1 = o + 1 := by rw [ek1]; exact Z
  refine aw_aload_n B 0 rfl dX4_init_9 rfl ?_
  refine aw_null B dX4_init_10 ?_
  refine aw_put B f_X4_15 dX4_init_11 ho rfl rfl (by show 1 < 8; decide) ?_
  obtain ⟨k2, ek2⟩ : ∃ z : Hp, z = hp_up k1 (o) (.inr (4, [.null, .null, .int 0, .null, .null, .null, .null, .int 0].set 1 (.null))) := ⟨_, rfl⟩
  rw [← ek2]
  have ok2 : ∀ a, a ≠ o → k2.2 a = k1.2 a := fun a y1 => by rw [ek2]; exact hu_n y1
  have ho : k2.2 (o) = some (.inr (4, [.null, .null, .int 0, .null, .null, .null, .null, .int 0])) := by rw [ek2]; exact hu_s
  have K : ∀ a, a < o → k2.2 a = h.2 a := fun a y1 => (ok2 a (Nat.ne_of_lt y1)).trans (K a y1)
  have Z : k2.1 = o + 1 := by rw [ek2]; exact Z
  refine aw_aload_n B 0 rfl dX4_init_14 rfl ?_
  refine aw_iconst B 0 (by decide) dX4_init_15 ?_
  refine aw_put B f_X4_19 dX4_init_16 ho rfl rfl (by show 2 < 8; decide) ?_
  obtain ⟨k3, ek3⟩ : ∃ z : Hp, z = hp_up k2 (o) (.inr (4, [.null, .null, .int 0, .null, .null, .null, .null, .int 0].set 2 (.int 0))) := ⟨_, rfl⟩
  rw [← ek3]
  have ok3 : ∀ a, a ≠ o → k3.2 a = k2.2 a := fun a y1 => by rw [ek3]; exact hu_n y1
  have ho : k3.2 (o) = some (.inr (4, [.null, .null, .int 0, .null, .null, .null, .null, .int 0])) := by rw [ek3]; exact hu_s
  have K : ∀ a, a < o → k3.2 a = h.2 a := fun a y1 => (ok3 a (Nat.ne_of_lt y1)).trans (K a y1)
  have Z : k3.1 = o + 1 := by rw [ek3]; exact Z
  refine aw_aload_n B 0 rfl dX4_init_19 rfl ?_
  refine aw_bipush B 64 (by decide) dX4_init_20 ?_
  refine aw_newi B 64 3 1818 dX4_init_22 ari_int (by decide) rfl (by decide) (by decide) (by decide) ?_
  rw [show k3.1 = o + 1 from Z]
  obtain ⟨k4, ek4⟩ : ∃ z : Hp, z = hp_new k3 (.inl ((zXg X).2.2.1.1, 64, .inl (fun _ => 0))) := ⟨_, rfl⟩
  rw [← ek4]
  have ok4 : ∀ a, a ≠ o + 1 → k4.2 a = k3.2 a := fun a y1 => by rw [ek4]; exact hn_n (by rw [Z]; exact y1)
  have f1 : k4.2 (o + 1) = some (.inl ((zXg X).2.2.1.1, 64, .inl (fun _ => 0))) := by rw [ek4, ← Z]; exact hn_s
  have ho := (ok4 _ (a_n0 (by decide))).trans ho
  have K : ∀ a, a < o → k4.2 a = h.2 a := fun a y1 => (ok4 a (a_k y1)).trans (K a y1)
  have Z : k4.1 = o + 2 := by rw [ek4]; show k3.1 + 1 = _; rw [Z]
  refine aw_putF B rfl f_X4_23 nlk_X4_23 dX4_init_24 ho rfl rfl (by show 3 < 8; decide) ?_
  obtain ⟨k5, ek5⟩ : ∃ z : Hp, z = hp_up k4 (o) (.inr (4, [.null, .null, .int 0, .null, .null, .null, .null, .int 0].set 3 (.ref (o + 1)))) := ⟨_, rfl⟩
  rw [← ek5]
  have ok5 : ∀ a, a ≠ o → k5.2 a = k4.2 a := fun a y1 => by rw [ek5]; exact hu_n y1
  have ho : k5.2 (o) = some (.inr (4, [.null, .null, .int 0, .ref (o + 1), .null, .null, .null, .int 0])) := by rw [ek5]; exact hu_s
  have K : ∀ a, a < o → k5.2 a = h.2 a := fun a y1 => (ok5 a (Nat.ne_of_lt y1)).trans (K a y1)
  have Z : k5.1 = o + 2 := by rw [ek5]; exact Z
  have f1 := (ok5 _ (a_0n (by decide))).trans f1
  refine aw_aload_n B 0 rfl dX4_init_27 rfl ?_
  refine aw_bipush B 6 (by decide) dX4_init_28 ?_
  refine aw_newi B 6 2 1812 dX4_init_30 ari_int (by decide) rfl (by decide) (by decide) (by decide) ?_
  rw [show k5.1 = o + 2 from Z]
  obtain ⟨k6, ek6⟩ : ∃ z : Hp, z = hp_new k5 (.inl ((zXg X).2.2.1.1, 6, .inl (fun _ => 0))) := ⟨_, rfl⟩
  rw [← ek6]
  have ok6 : ∀ a, a ≠ o + 2 → k6.2 a = k5.2 a := fun a y1 => by rw [ek6]; exact hn_n (by rw [Z]; exact y1)
  have f2 : k6.2 (o + 2) = some (.inl ((zXg X).2.2.1.1, 6, .inl (fun _ => 0))) := by rw [ek6, ← Z]; exact hn_s
  have ho := (ok6 _ (a_n0 (by decide))).trans ho
  have K : ∀ a, a < o → k6.2 a = h.2 a := fun a y1 => (ok6 a (a_k y1)).trans (K a y1)
  have Z : k6.1 = o + 3 := by rw [ek6]; show k5.1 + 1 = _; rw [Z]
  have f1 := (ok6 _ (a_ne (by decide))).trans f1
  refine aw_putF B rfl f_X4_27 nlk_X4_27 dX4_init_32 ho rfl rfl (by show 4 < 8; decide) ?_
  obtain ⟨k7, ek7⟩ : ∃ z : Hp, z = hp_up k6 (o) (.inr (4, [.null, .null, .int 0, .ref (o + 1), .null, .null, .null, .int 0].set 4 (.ref (o + 2)))) := ⟨_, rfl⟩
  rw [← ek7]
  have ok7 : ∀ a, a ≠ o → k7.2 a = k6.2 a := fun a y1 => by rw [ek7]; exact hu_n y1
  have ho : k7.2 (o) = some (.inr (4, [.null, .null, .int 0, .ref (o + 1), .ref (o + 2), .null, .null, .int 0])) := by rw [ek7]; exact hu_s
  have K : ∀ a, a < o → k7.2 a = h.2 a := fun a y1 => (ok7 a (Nat.ne_of_lt y1)).trans (K a y1)
  have Z : k7.1 = o + 3 := by rw [ek7]; exact Z
  have f1 := (ok7 _ (a_0n (by decide))).trans f1
  have f2 := (ok7 _ (a_0n (by decide))).trans f2
  refine aw_aload_n B 0 rfl dX4_init_35 rfl ?_
  refine aw_bipush B 6 (by decide) dX4_init_36 ?_
  refine aw_newi B 6 1 1806 dX4_init_38 ari_int (by decide) rfl (by decide) (by decide) (by decide) ?_
  rw [show k7.1 = o + 3 from Z]
  obtain ⟨k8, ek8⟩ : ∃ z : Hp, z = hp_new k7 (.inl ((zXg X).2.2.1.1, 6, .inl (fun _ => 0))) := ⟨_, rfl⟩
  rw [← ek8]
  have ok8 : ∀ a, a ≠ o + 3 → k8.2 a = k7.2 a := fun a y1 => by rw [ek8]; exact hn_n (by rw [Z]; exact y1)
  have f3 : k8.2 (o + 3) = some (.inl ((zXg X).2.2.1.1, 6, .inl (fun _ => 0))) := by rw [ek8, ← Z]; exact hn_s
  have ho := (ok8 _ (a_n0 (by decide))).trans ho
  have K : ∀ a, a < o → k8.2 a = h.2 a := fun a y1 => (ok8 a (a_k y1)).trans (K a y1)
  have Z : k8.1 = o + 4 := by rw [ek8]; show k7.1 + 1 = _; rw [Z]
  have f1 := (ok8 _ (a_ne (by decide))).trans f1
  have f2 := (ok8 _ (a_ne (by decide))).trans f2
  refine aw_putF B rfl f_X4_30 nlk_X4_30 dX4_init_40 ho rfl rfl (by show 5 < 8; decide) ?_
  obtain ⟨k9, ek9⟩ : ∃ z : Hp, z = hp_up k8 (o) (.inr (4, [.null, .null, .int 0, .ref (o + 1), .ref (o + 2), .null, .null, .int 0].set 5 (.ref (o + 3)))) := ⟨_, rfl⟩
  rw [← ek9]
  have ok9 : ∀ a, a ≠ o → k9.2 a = k8.2 a := fun a y1 => by rw [ek9]; exact hu_n y1
  have ho : k9.2 (o) = some (.inr (4, [.null, .null, .int 0, .ref (o + 1), .ref (o + 2), .ref (o + 3), .null, .int 0])) := by rw [ek9]; exact hu_s
  have K : ∀ a, a < o → k9.2 a = h.2 a := fun a y1 => (ok9 a (Nat.ne_of_lt y1)).trans (K a y1)
  have Z : k9.1 = o + 4 := by rw [ek9]; exact Z
  have f1 := (ok9 _ (a_0n (by decide))).trans f1
  have f2 := (ok9 _ (a_0n (by decide))).trans f2
  have f3 := (ok9 _ (a_0n (by decide))).trans f3
  refine aw_aload_n B 0 rfl dX4_init_43 rfl ?_
  refine aw_sipush B 1806 (by decide) dX4_init_44 ?_
  refine aw_newi B 1806 0 0 dX4_init_47 ari_int (by decide) rfl (by decide) (by decide) (by decide) ?_
  rw [show k9.1 = o + 4 from Z]
  obtain ⟨k10, ek10⟩ : ∃ z : Hp, z = hp_new k9 (.inl ((zXg X).2.2.1.1, 1806, .inl (fun _ => 0))) := ⟨_, rfl⟩
  rw [← ek10]
  have ok10 : ∀ a, a ≠ o + 4 → k10.2 a = k9.2 a := fun a y1 => by rw [ek10]; exact hn_n (by rw [Z]; exact y1)
  have f4 : k10.2 (o + 4) = some (.inl ((zXg X).2.2.1.1, 1806, .inl (fun _ => 0))) := by rw [ek10, ← Z]; exact hn_s
  have ho := (ok10 _ (a_n0 (by decide))).trans ho
  have K : ∀ a, a < o → k10.2 a = h.2 a := fun a y1 => (ok10 a (a_k y1)).trans (K a y1)
  have Z : k10.1 = o + 5 := by rw [ek10]; show k9.1 + 1 = _; rw [Z]
  have f1 := (ok10 _ (a_ne (by decide))).trans f1
  have f2 := (ok10 _ (a_ne (by decide))).trans f2
  have f3 := (ok10 _ (a_ne (by decide))).trans f3
  refine aw_putF B rfl f_X4_33 nlk_X4_33 dX4_init_49 ho rfl rfl (by show 6 < 8; decide) ?_
  obtain ⟨k11, ek11⟩ : ∃ z : Hp, z = hp_up k10 (o) (.inr (4, [.null, .null, .int 0, .ref (o + 1), .ref (o + 2), .ref (o + 3), .null, .int 0].set 6 (.ref (o + 4)))) := ⟨_, rfl⟩
  rw [← ek11]
  have ok11 : ∀ a, a ≠ o → k11.2 a = k10.2 a := fun a y1 => by rw [ek11]; exact hu_n y1
  have ho : k11.2 (o) = some (.inr (4, [.null, .null, .int 0, .ref (o + 1), .ref (o + 2), .ref (o + 3), .ref (o + 4), .int 0])) := by rw [ek11]; exact hu_s
  have K : ∀ a, a < o → k11.2 a = h.2 a := fun a y1 => (ok11 a (Nat.ne_of_lt y1)).trans (K a y1)
  have Z : k11.1 = o + 5 := by rw [ek11]; exact Z
  have f1 := (ok11 _ (a_0n (by decide))).trans f1
  have f2 := (ok11 _ (a_0n (by decide))).trans f2
  have f3 := (ok11 _ (a_0n (by decide))).trans f3
  have f4 := (ok11 _ (a_0n (by decide))).trans f4
  refine aw_aload_n B 0 rfl dX4_init_52 rfl ?_
  refine aw_iconst B 0 (by decide) dX4_init_53 ?_
  refine aw_put B f_X4_36 dX4_init_54 ho rfl rfl (by show 7 < 8; decide) ?_
  obtain ⟨k12, ek12⟩ : ∃ z : Hp, z = hp_up k11 (o) (.inr (4, [.null, .null, .int 0, .ref (o + 1), .ref (o + 2), .ref (o + 3), .ref (o + 4), .int 0].set 7 (.int 0))) := ⟨_, rfl⟩
  rw [← ek12]
  have ok12 : ∀ a, a ≠ o → k12.2 a = k11.2 a := fun a y1 => by rw [ek12]; exact hu_n y1
  have ho : k12.2 (o) = some (.inr (4, [.null, .null, .int 0, .ref (o + 1), .ref (o + 2), .ref (o + 3), .ref (o + 4), .int 0])) := by rw [ek12]; exact hu_s
  have K : ∀ a, a < o → k12.2 a = h.2 a := fun a y1 => (ok12 a (Nat.ne_of_lt y1)).trans (K a y1)
  have Z : k12.1 = o + 5 := by rw [ek12]; exact Z
  have f1 := (ok12 _ (a_0n (by decide))).trans f1
  have f2 := (ok12 _ (a_0n (by decide))).trans f2
  have f3 := (ok12 _ (a_0n (by decide))).trans f3
  have f4 := (ok12 _ (a_0n (by decide))).trans f4
  refine aw_vret B rfl dX4_init_57 ?_
  exact ⟨rfl, Z, ⟨.null, .null, 0, fun _ => 0, fun _ => 0, fun _ => 0, fun _ => 0, 0, fun _ => Or.inl (Nat.zero_le _), fun j hj => by
    rcases (show j = 0 ∨ j = 1 ∨ j = 2 ∨ j = 3 ∨ j = 4 by omega) with rfl | rfl | rfl | rfl | rfl
    · exact ho
    · rw [show (fun p : Nat => orN ((fun _ => 0 : Nat → Nat) p)) = fun _ => 0 from funext fun _ => (show orN 0 = 0 from by decide)]
      exact f1
    · exact f2
    · exact f3
    · exact f4, Nat.le_refl _, fun s t _ _ => ⟨0, 0, rfl, by decide, Nat.le_refl _⟩⟩, K⟩
/-- a state as it is made -/
def st0 (g : zG) (h : Hp) (s : Nat) : Prop := h.2 s = some (.inr (9, stO s (s + 1) 0 0 0)) ∧ kvI g h (s + 1) .null (fun _ => 0) (fun _ => 0) 0 (fun _ => 0) 0 ∧ h.2 (s + 5) = some (.inl (g.2.2.1.2.2, 4, .inr (.inr (.inr (.inr (fun _ => none)))))) ∧ rowI g h (s + 6) 100 (fun _ => 0) 0 ∧ rowI g h (s + 8) 6 (fun _ => 0) 0 ∧ rowI g h (s + 10) 6 (fun _ => 0) 0 ∧ rowI g h (s + 12) 8 (fun _ => 0) 0 ∧ rowI g h (s + 14) 8 (fun _ => 0) 0 ∧ rowI g h (s + 16) 8 (fun _ => 0) 0
theorem rowI.same {g : zG} {h h' : Hp} {r n : Nat} {f : Nat → Int32} {sz : Int32} (p : rowI g h r n f sz) (q : ∀ a, r ≤ a ∧ a < r + 2 → h'.2 a = h.2 a) : rowI g h' r n f sz := ⟨(q _ (by omega)).trans p.1, (q _ (by omega)).trans p.2⟩
theorem st0.same {g : zG} {h h' : Hp} {s : Nat} (p : st0 g h s) (q : ∀ a, s ≤ a ∧ a < s + 18 → h'.2 a = h.2 a) : st0 g h' s := by
  obtain ⟨p1, p2, p3, p4, p5, p6, p7, p8, p9⟩ := p
  exact ⟨(q _ (by omega)).trans p1, fun j hj => (q _ (by omega)).trans (p2 j hj), (q _ (by omega)).trans p3, p4.same (fun a ha => q a (by omega)), p5.same (fun a ha => q a (by omega)), p6.same (fun a ha => q a (by omega)), p7.same (fun a ha => q a (by omega)), p8.same (fun a ha => q a (by omega)), p9.same (fun a ha => q a (by omega))⟩
def S00 : Nat → Int32 := upd (fun _ => 0) 7 (-1)
def n00 : Nat → Nat := fun _ => 0
theorem S00_n {i : Nat} (h : i ≠ 7) : S00 i = 0 := upd_n h
theorem S00_7 : S00 7 = -1 := upd_s
theorem rw0 {g : zG} {h : Hp} {r N : Nat} {V : Nat → Int32} (p : rowI g h r N (fun _ => 0) 0) : rwI g h r N 0 V := ⟨by decide, _, p, fun q hq => absurd hq (Nat.not_lt_zero _)⟩
theorem cave0 {g : zG} {h : Hp} {k : Nat} (p : kvI g h k .null (fun _ => 0) (fun _ => 0) 0 (fun _ => 0) 0) : caveI g h k [] := ⟨_, _, _, _, _, p, ⟨Nat.zero_le _, trivial, fun i hi => absurd hi (Nat.not_lt_zero _)⟩, fun i _ => Or.inl rfl⟩
theorem st0.st {g : zG} {h : Hp} {y s : Nat} (p : st0 g h s) : stI g h y s (s + 1) S00 [] n00 := by
  obtain ⟨p1, p2, p3, p4, p5, p6, p7, p8, p9⟩ := p
  refine ⟨by rw [S00_n (by decide), S00_n (by decide), S00_n (by decide)]; exact p1, cave0 p2, ⟨_, p3, fun r _ => Or.inl rfl, fun r hr => absurd hr (Nat.not_lt_zero _)⟩, rw0 p4, rw0 p5, rw0 p6, rw0 p7, rw0 p8, rw0 p9⟩
theorem iv0 : iv S00 0 [] n00 := by
  refine ⟨⟨by decide, S00_n (by decide), fun k hk => absurd hk (Nat.not_lt_zero _)⟩, ⟨by decide, S00_n (by decide), fun k hk => absurd hk (Nat.not_lt_zero _)⟩, ⟨by decide, S00_n (by decide), Or.inl ⟨S00_7, rfl⟩⟩, ⟨by decide, S00_n (by decide), fun k hk => absurd hk (Nat.not_lt_zero _)⟩, ⟨by decide, S00_n (by decide), fun k hk => absurd hk (Nat.not_lt_zero _)⟩, ⟨by decide, S00_n (by decide), fun k hk => absurd hk (Nat.not_lt_zero _)⟩, ⟨by decide, S00_n (by decide)⟩, ⟨S00_n (by decide), by decide, ?_⟩⟩
  exact trivial
theorem dX9_init_0 : decode cX9_init 0 = .ok (.aload_n 0, 1) := by decide +kernel
theorem dX9_init_1 : decode cX9_init 1 = .ok (.invokespecial 3, 3) := by decide +kernel
theorem dX9_init_4 : decode cX9_init 4 = .ok (.aload_n 0, 1) := by decide +kernel
theorem dX9_init_5 : decode cX9_init 5 = .ok (.iconst 0, 1) := by decide +kernel
theorem dX9_init_6 : decode cX9_init 6 = .ok (.putfield 9, 3) := by decide +kernel
theorem dX9_init_9 : decode cX9_init 9 = .ok (.aload_n 0, 1) := by decide +kernel
theorem dX9_init_10 : decode cX9_init 10 = .ok (.iconst 0, 1) := by decide +kernel
theorem dX9_init_11 : decode cX9_init 11 = .ok (.putfield 15, 3) := by decide +kernel
theorem dX9_init_14 : decode cX9_init 14 = .ok (.aload_n 0, 1) := by decide +kernel
theorem dX9_init_15 : decode cX9_init 15 = .ok (.iconst 0, 1) := by decide +kernel
theorem dX9_init_16 : decode cX9_init 16 = .ok (.putfield 18, 3) := by decide +kernel
theorem dX9_init_19 : decode cX9_init 19 = .ok (.aload_n 0, 1) := by decide +kernel
theorem dX9_init_20 : decode cX9_init 20 = .ok (.new 21, 3) := by decide +kernel
theorem dX9_init_23 : decode cX9_init 23 = .ok (.dup, 1) := by decide +kernel
theorem dX9_init_24 : decode cX9_init 24 = .ok (.invokespecial 23, 3) := by decide +kernel
theorem dX9_init_27 : decode cX9_init 27 = .ok (.putfield 24, 3) := by decide +kernel
theorem dX9_init_30 : decode cX9_init 30 = .ok (.aload_n 0, 1) := by decide +kernel
theorem dX9_init_31 : decode cX9_init 31 = .ok (.iconst 4, 1) := by decide +kernel
theorem dX9_init_32 : decode cX9_init 32 = .ok (.anewarray 28, 3) := by decide +kernel
theorem dX9_init_35 : decode cX9_init 35 = .ok (.putfield 30, 3) := by decide +kernel
theorem dX9_init_38 : decode cX9_init 38 = .ok (.aload_n 0, 1) := by decide +kernel
theorem dX9_init_39 : decode cX9_init 39 = .ok (.new 34, 3) := by decide +kernel
theorem dX9_init_42 : decode cX9_init 42 = .ok (.dup, 1) := by decide +kernel
theorem dX9_init_43 : decode cX9_init 43 = .ok (.bipush 100, 2) := by decide +kernel
theorem dX9_init_45 : decode cX9_init 45 = .ok (.newarray .int, 2) := by decide +kernel
theorem dX9_init_47 : decode cX9_init 47 = .ok (.invokespecial 36, 3) := by decide +kernel
theorem dX9_init_50 : decode cX9_init 50 = .ok (.putfield 39, 3) := by decide +kernel
theorem dX9_init_53 : decode cX9_init 53 = .ok (.aload_n 0, 1) := by decide +kernel
theorem dX9_init_54 : decode cX9_init 54 = .ok (.new 34, 3) := by decide +kernel
theorem dX9_init_57 : decode cX9_init 57 = .ok (.dup, 1) := by decide +kernel
theorem dX9_init_58 : decode cX9_init 58 = .ok (.bipush 6, 2) := by decide +kernel
theorem dX9_init_60 : decode cX9_init 60 = .ok (.newarray .int, 2) := by decide +kernel
theorem dX9_init_62 : decode cX9_init 62 = .ok (.invokespecial 36, 3) := by decide +kernel
theorem dX9_init_65 : decode cX9_init 65 = .ok (.putfield 43, 3) := by decide +kernel
theorem dX9_init_68 : decode cX9_init 68 = .ok (.aload_n 0, 1) := by decide +kernel
theorem dX9_init_69 : decode cX9_init 69 = .ok (.new 34, 3) := by decide +kernel
theorem dX9_init_72 : decode cX9_init 72 = .ok (.dup, 1) := by decide +kernel
theorem dX9_init_73 : decode cX9_init 73 = .ok (.bipush 6, 2) := by decide +kernel
theorem dX9_init_75 : decode cX9_init 75 = .ok (.newarray .int, 2) := by decide +kernel
theorem dX9_init_77 : decode cX9_init 77 = .ok (.invokespecial 36, 3) := by decide +kernel
theorem dX9_init_80 : decode cX9_init 80 = .ok (.putfield 46, 3) := by decide +kernel
theorem dX9_init_83 : decode cX9_init 83 = .ok (.aload_n 0, 1) := by decide +kernel
theorem dX9_init_84 : decode cX9_init 84 = .ok (.new 34, 3) := by decide +kernel
theorem dX9_init_87 : decode cX9_init 87 = .ok (.dup, 1) := by decide +kernel
theorem dX9_init_88 : decode cX9_init 88 = .ok (.bipush 8, 2) := by decide +kernel
theorem dX9_init_90 : decode cX9_init 90 = .ok (.newarray .int, 2) := by decide +kernel
theorem dX9_init_92 : decode cX9_init 92 = .ok (.invokespecial 36, 3) := by decide +kernel
theorem dX9_init_95 : decode cX9_init 95 = .ok (.putfield 49, 3) := by decide +kernel
theorem dX9_init_98 : decode cX9_init 98 = .ok (.aload_n 0, 1) := by decide +kernel
theorem dX9_init_99 : decode cX9_init 99 = .ok (.new 34, 3) := by decide +kernel
theorem dX9_init_102 : decode cX9_init 102 = .ok (.dup, 1) := by decide +kernel
theorem dX9_init_103 : decode cX9_init 103 = .ok (.bipush 8, 2) := by decide +kernel
theorem dX9_init_105 : decode cX9_init 105 = .ok (.newarray .int, 2) := by decide +kernel
theorem dX9_init_107 : decode cX9_init 107 = .ok (.invokespecial 36, 3) := by decide +kernel
theorem dX9_init_110 : decode cX9_init 110 = .ok (.putfield 52, 3) := by decide +kernel
theorem dX9_init_113 : decode cX9_init 113 = .ok (.aload_n 0, 1) := by decide +kernel
theorem dX9_init_114 : decode cX9_init 114 = .ok (.new 34, 3) := by decide +kernel
theorem dX9_init_117 : decode cX9_init 117 = .ok (.dup, 1) := by decide +kernel
theorem dX9_init_118 : decode cX9_init 118 = .ok (.bipush 8, 2) := by decide +kernel
theorem dX9_init_120 : decode cX9_init 120 = .ok (.newarray .int, 2) := by decide +kernel
theorem dX9_init_122 : decode cX9_init 122 = .ok (.invokespecial 36, 3) := by decide +kernel
theorem dX9_init_125 : decode cX9_init 125 = .ok (.putfield 55, 3) := by decide +kernel
theorem dX9_init_128 : decode cX9_init 128 = .ok (.return_, 1) := by decide +kernel
theorem nlk_X9_30 : ∀ q ∈ zNF, ¬ (q.1 = "LowWater$State" ∧ q.2.1 = 30) := by decide +kernel
theorem nlk_X9_39 : ∀ q ∈ zNF, ¬ (q.1 = "LowWater$State" ∧ q.2.1 = 39) := by decide +kernel
theorem nlk_X9_43 : ∀ q ∈ zNF, ¬ (q.1 = "LowWater$State" ∧ q.2.1 = 43) := by decide +kernel
theorem nlk_X9_46 : ∀ q ∈ zNF, ¬ (q.1 = "LowWater$State" ∧ q.2.1 = 46) := by decide +kernel
theorem nlk_X9_49 : ∀ q ∈ zNF, ¬ (q.1 = "LowWater$State" ∧ q.2.1 = 49) := by decide +kernel
theorem nlk_X9_52 : ∀ q ∈ zNF, ¬ (q.1 = "LowWater$State" ∧ q.2.1 = 52) := by decide +kernel
theorem nlk_X9_55 : ∀ q ∈ zNF, ¬ (q.1 = "LowWater$State" ∧ q.2.1 = 55) := by decide +kernel
set_option maxRecDepth 100000 in
set_option maxHeartbeats 4000000 in
theorem c_state (l : Launch) (g : zG) (h : Hp) (s : Nat)  (Z : h.1 = s + 1) (ho : h.2 s = some (.inr (9, [.int 0, .int 0, .int 0, .null, .null, .null, .null, .null, .null, .null, .null]))) : Sp l g yX9_init cX9_init 1 none (rmc 3 17 1198) [.ref s] (h) (zV fun h' => h'.1 = s + 18 ∧ st0 g h' s ∧ ∀ a, a < s → h'.2 a = h.2 a) := by
  refine Sp.of [some (.ref s)] (by decide) (Nat.le_of_ble_eq_true rfl) rfl rfl ?_
  rintro X rfl hr rfl B
  show AW X 17 1198 0 _ _ _ _
  have K : ∀ a, a < s → h.2 a = h.2 a := fun _ _ => rfl
  refine aw_aload_n B 0 rfl dX9_init_0 rfl ?_
  refine aw_objInit B k_X9_3 dX9_init_1 (Nat.le_of_ble_eq_true rfl) (mRo hr (by decide)) ?_
  refine aw_aload_n B 0 rfl dX9_init_4 rfl ?_
  refine aw_iconst B 0 (by decide) dX9_init_5 ?_
  refine aw_put B f_X9_9 dX9_init_6 ho rfl rfl (by show 0 < 11; decide) ?_
  obtain ⟨k1, ek1⟩ : ∃ z : Hp, z = hp_up h (s) (.inr (9, [.int 0, .int 0, .int 0, .null, .null, .null, .null, .null, .null, .null, .null].set 0 (.int 0))) := ⟨_, rfl⟩
  rw [← ek1]
  have ok1 : ∀ a, a ≠ s → k1.2 a = h.2 a := fun a y1 => by rw [ek1]; exact hu_n y1
  have ho : k1.2 (s) = some (.inr (9, [.int 0, .int 0, .int 0, .null, .null, .null, .null, .null, .null, .null, .null])) := by rw [ek1]; exact hu_s
  have K : ∀ a, a < s → k1.2 a = h.2 a := fun a y1 => (ok1 a (Nat.ne_of_lt y1)).trans (K a y1)
  have Z : k1.1 = s + 1 := by rw [ek1]; exact Z
  refine aw_aload_n B 0 rfl dX9_init_9 rfl ?_
  refine aw_iconst B 0 (by decide) dX9_init_10 ?_
  refine aw_put B f_X9_15 dX9_init_11 ho rfl rfl (by show 1 < 11; decide) ?_
  obtain ⟨k2, ek2⟩ : ∃ z : Hp, z = hp_up k1 (s) (.inr (9, [.int 0, .int 0, .int 0, .null, .null, .null, .null, .null, .null, .null, .null].set 1 (.int 0))) := ⟨_, rfl⟩
  rw [← ek2]
  have ok2 : ∀ a, a ≠ s → k2.2 a = k1.2 a := fun a y1 => by rw [ek2]; exact hu_n y1
  have ho : k2.2 (s) = some (.inr (9, [.int 0, .int 0, .int 0, .null, .null, .null, .null, .null, .null, .null, .null])) := by rw [ek2]; exact hu_s
  have K : ∀ a, a < s → k2.2 a = h.2 a := fun a y1 => (ok2 a (Nat.ne_of_lt y1)).trans (K a y1)
  have Z : k2.1 = s + 1 := by rw [ek2]; exact Z
  refine aw_aload_n B 0 rfl dX9_init_14 rfl ?_
  refine aw_iconst B 0 (by decide) dX9_init_15 ?_
  refine aw_put B f_X9_18 dX9_init_16 ho rfl rfl (by show 2 < 11; decide) ?_
  obtain ⟨k3, ek3⟩ : ∃ z : Hp, z = hp_up k2 (s) (.inr (9, [.int 0, .int 0, .int 0, .null, .null, .null, .null, .null, .null, .null, .null].set 2 (.int 0))) := ⟨_, rfl⟩
  rw [← ek3]
  have ok3 : ∀ a, a ≠ s → k3.2 a = k2.2 a := fun a y1 => by rw [ek3]; exact hu_n y1
  have ho : k3.2 (s) = some (.inr (9, [.int 0, .int 0, .int 0, .null, .null, .null, .null, .null, .null, .null, .null])) := by rw [ek3]; exact hu_s
  have K : ∀ a, a < s → k3.2 a = h.2 a := fun a y1 => (ok3 a (Nat.ne_of_lt y1)).trans (K a y1)
  have Z : k3.1 = s + 1 := by rw [ek3]; exact Z
  refine aw_aload_n B 0 rfl dX9_init_19 rfl ?_
  refine aw_new B 16 1192 nw_X9_21 dX9_init_20 (by decide) (by decide) ?_
  rw [show k3.1 = s + 1 from Z]
  obtain ⟨k4, ek4⟩ : ∃ z : Hp, z = hp_new k3 (.inr (1, [.null, .null, .int 0, .null, .null, .int 0])) := ⟨_, rfl⟩
  rw [← ek4]
  have ok4 : ∀ a, a ≠ s + 1 → k4.2 a = k3.2 a := fun a y1 => by rw [ek4]; exact hn_n (by rw [Z]; exact y1)
  have f1 : k4.2 (s + 1) = some (.inr (1, [.null, .null, .int 0, .null, .null, .int 0])) := by rw [ek4, ← Z]; exact hn_s
  have ho := (ok4 _ (a_n0 (by decide))).trans ho
  have K : ∀ a, a < s → k4.2 a = h.2 a := fun a y1 => (ok4 a (a_k y1)).trans (K a y1)
  have Z : k4.1 = s + 2 := by rw [ek4]; show k3.1 + 1 = _; rw [Z]
  refine aw_dup B rfl dX9_init_23 ?_
  refine aw_callIN B 13 152 (c_cave _ _ _ (s + 1) Z f1) co_X1_init rfl k_X9_23 dX9_init_24 rfl rfl (Nat.le_of_ble_eq_true rfl) (zrc hr (by decide)) (Nat.le_refl _) (Nat.le_refl _) (kV fun k5 hpk5 => ?_)
  obtain ⟨Zk5, c1, ok5⟩ := hpk5
  have ho := (ok5 _ (a_l0 (by decide))).trans ho
  have K : ∀ a, a < s → k5.2 a = h.2 a := fun a y1 => (ok5 a (a_kl y1)).trans (K a y1)
  have Z : k5.1 = s + 5 := Zk5
  refine aw_put B f_X9_24 dX9_init_27 ho rfl rfl (by show 3 < 11; decide) ?_
  obtain ⟨k6, ek6⟩ : ∃ z : Hp, z = hp_up k5 (s) (.inr (9, [.int 0, .int 0, .int 0, .null, .null, .null, .null, .null, .null, .null, .null].set 3 (.ref (s + 1)))) := ⟨_, rfl⟩
  rw [← ek6]
  have ok6 : ∀ a, a ≠ s → k6.2 a = k5.2 a := fun a y1 => by rw [ek6]; exact hu_n y1
  have ho : k6.2 (s) = some (.inr (9, [.int 0, .int 0, .int 0, .ref (s + 1), .null, .null, .null, .null, .null, .null, .null])) := by rw [ek6]; exact hu_s
  have K : ∀ a, a < s → k6.2 a = h.2 a := fun a y1 => (ok6 a (Nat.ne_of_lt y1)).trans (K a y1)
  have Z : k6.1 = s + 5 := by rw [ek6]; exact Z
  have c1 := fun j hj => (ok6 _ (a_j0 (by decide))).trans (c1 j hj)
  refine aw_aload_n B 0 rfl dX9_init_30 rfl ?_
  refine aw_iconst B 4 (by decide) dX9_init_31 ?_
  refine aw_newr B 4 12 148 dX9_init_32 ac_X9_28 (by decide) rfl (by decide) (by decide) (by decide) ?_
  rw [show k6.1 = s + 5 from Z]
  obtain ⟨k7, ek7⟩ : ∃ z : Hp, z = hp_new k6 (.inl ((zXg X).2.2.1.2.2, 4, .inr (.inr (.inr (.inr (fun _ => none)))))) := ⟨_, rfl⟩
  rw [← ek7]
  have ok7 : ∀ a, a ≠ s + 5 → k7.2 a = k6.2 a := fun a y1 => by rw [ek7]; exact hn_n (by rw [Z]; exact y1)
  have f5 : k7.2 (s + 5) = some (.inl ((zXg X).2.2.1.2.2, 4, .inr (.inr (.inr (.inr (fun _ => none)))))) := by rw [ek7, ← Z]; exact hn_s
  have ho := (ok7 _ (a_n0 (by decide))).trans ho
  have K : ∀ a, a < s → k7.2 a = h.2 a := fun a y1 => (ok7 a (a_k y1)).trans (K a y1)
  have Z : k7.1 = s + 6 := by rw [ek7]; show k6.1 + 1 = _; rw [Z]
  have c1 := fun j hj => (ok7 _ (a_jn hj (by decide))).trans (c1 j hj)
  refine aw_putF B rfl f_X9_30 nlk_X9_30 dX9_init_35 ho rfl rfl (by show 4 < 11; decide) ?_
  obtain ⟨k8, ek8⟩ : ∃ z : Hp, z = hp_up k7 (s) (.inr (9, [.int 0, .int 0, .int 0, .ref (s + 1), .null, .null, .null, .null, .null, .null, .null].set 4 (.ref (s + 5)))) := ⟨_, rfl⟩
  rw [← ek8]
  have ok8 : ∀ a, a ≠ s → k8.2 a = k7.2 a := fun a y1 => by rw [ek8]; exact hu_n y1
  have ho : k8.2 (s) = some (.inr (9, [.int 0, .int 0, .int 0, .ref (s + 1), .ref (s + 5), .null, .null, .null, .null, .null, .null])) := by rw [ek8]; exact hu_s
  have K : ∀ a, a < s → k8.2 a = h.2 a := fun a y1 => (ok8 a (Nat.ne_of_lt y1)).trans (K a y1)
  have Z : k8.1 = s + 6 := by rw [ek8]; exact Z
  have c1 := fun j hj => (ok8 _ (a_j0 (by decide))).trans (c1 j hj)
  have f5 := (ok8 _ (a_0n (by decide))).trans f5
  refine aw_aload_n B 0 rfl dX9_init_38 rfl ?_
  refine aw_new B 11 146 nw_X9_34 dX9_init_39 (by decide) (by decide) ?_
  rw [show k8.1 = s + 6 from Z]
  obtain ⟨k9, ek9⟩ : ∃ z : Hp, z = hp_new k8 (.inr (7, [.null, .int 0])) := ⟨_, rfl⟩
  rw [← ek9]
  have ok9 : ∀ a, a ≠ s + 6 → k9.2 a = k8.2 a := fun a y1 => by rw [ek9]; exact hn_n (by rw [Z]; exact y1)
  have f6 : k9.2 (s + 6) = some (.inr (7, [.null, .int 0])) := by rw [ek9, ← Z]; exact hn_s
  have ho := (ok9 _ (a_n0 (by decide))).trans ho
  have K : ∀ a, a < s → k9.2 a = h.2 a := fun a y1 => (ok9 a (a_k y1)).trans (K a y1)
  have Z : k9.1 = s + 7 := by rw [ek9]; show k8.1 + 1 = _; rw [Z]
  have c1 := fun j hj => (ok9 _ (a_jn hj (by decide))).trans (c1 j hj)
  have f5 := (ok9 _ (a_ne (by decide))).trans f5
  refine aw_dup B rfl dX9_init_42 ?_
  refine aw_bipush B 100 (by decide) dX9_init_43 ?_
  refine aw_newi B 100 10 46 dX9_init_45 ari_int (by decide) rfl (by decide) (by decide) (by decide) ?_
  rw [show k9.1 = s + 7 from Z]
  obtain ⟨k10, ek10⟩ : ∃ z : Hp, z = hp_new k9 (.inl ((zXg X).2.2.1.1, 100, .inl (fun _ => 0))) := ⟨_, rfl⟩
  rw [← ek10]
  have ok10 : ∀ a, a ≠ s + 7 → k10.2 a = k9.2 a := fun a y1 => by rw [ek10]; exact hn_n (by rw [Z]; exact y1)
  have f7 : k10.2 (s + 7) = some (.inl ((zXg X).2.2.1.1, 100, .inl (fun _ => 0))) := by rw [ek10, ← Z]; exact hn_s
  have ho := (ok10 _ (a_n0 (by decide))).trans ho
  have K : ∀ a, a < s → k10.2 a = h.2 a := fun a y1 => (ok10 a (a_k y1)).trans (K a y1)
  have Z : k10.1 = s + 8 := by rw [ek10]; show k9.1 + 1 = _; rw [Z]
  have c1 := fun j hj => (ok10 _ (a_jn hj (by decide))).trans (c1 j hj)
  have f5 := (ok10 _ (a_ne (by decide))).trans f5
  have f6 := (ok10 _ (a_ne (by decide))).trans f6
  refine aw_callI B 10 46 (c_row _ _ _ (s + 6) _ _ f6 f7) co_X7_init rfl k_X9_36 dX9_init_47 rfl rfl (Nat.le_of_ble_eq_true rfl) (zrz hr (by decide)) (Nat.le_refl _) (Nat.le_refl _) (kV fun k11 hpk11 => ?_)
  obtain ⟨Zk11, r6, ok11⟩ := hpk11
  have ho := (ok11 _ (a_n0 (by decide))).trans ho
  have K : ∀ a, a < s → k11.2 a = h.2 a := fun a y1 => (ok11 a (a_k y1)).trans (K a y1)
  have Z : k11.1 = s + 8 := Zk11.trans Z
  have c1 := fun j hj => (ok11 _ (a_jn hj (by decide))).trans (c1 j hj)
  have f5 := (ok11 _ (a_ne (by decide))).trans f5
  refine aw_putF B rfl f_X9_39 nlk_X9_39 dX9_init_50 ho rfl rfl (by show 5 < 11; decide) ?_
  obtain ⟨k12, ek12⟩ : ∃ z : Hp, z = hp_up k11 (s) (.inr (9, [.int 0, .int 0, .int 0, .ref (s + 1), .ref (s + 5), .null, .null, .null, .null, .null, .null].set 5 (.ref (s + 6)))) := ⟨_, rfl⟩
  rw [← ek12]
  have ok12 : ∀ a, a ≠ s → k12.2 a = k11.2 a := fun a y1 => by rw [ek12]; exact hu_n y1
  have ho : k12.2 (s) = some (.inr (9, [.int 0, .int 0, .int 0, .ref (s + 1), .ref (s + 5), .ref (s + 6), .null, .null, .null, .null, .null])) := by rw [ek12]; exact hu_s
  have K : ∀ a, a < s → k12.2 a = h.2 a := fun a y1 => (ok12 a (Nat.ne_of_lt y1)).trans (K a y1)
  have Z : k12.1 = s + 8 := by rw [ek12]; exact Z
  have c1 := fun j hj => (ok12 _ (a_j0 (by decide))).trans (c1 j hj)
  have f5 := (ok12 _ (a_0n (by decide))).trans f5
  have r6 := r6.same (fun a ha => ok12 a (a_s0 ha (by decide)))
  refine aw_aload_n B 0 rfl dX9_init_53 rfl ?_
  refine aw_new B 9 44 nw_X9_34 dX9_init_54 (by decide) (by decide) ?_
  rw [show k12.1 = s + 8 from Z]
  obtain ⟨k13, ek13⟩ : ∃ z : Hp, z = hp_new k12 (.inr (7, [.null, .int 0])) := ⟨_, rfl⟩
  rw [← ek13]
  have ok13 : ∀ a, a ≠ s + 8 → k13.2 a = k12.2 a := fun a y1 => by rw [ek13]; exact hn_n (by rw [Z]; exact y1)
  have f8 : k13.2 (s + 8) = some (.inr (7, [.null, .int 0])) := by rw [ek13, ← Z]; exact hn_s
  have ho := (ok13 _ (a_n0 (by decide))).trans ho
  have K : ∀ a, a < s → k13.2 a = h.2 a := fun a y1 => (ok13 a (a_k y1)).trans (K a y1)
  have Z : k13.1 = s + 9 := by rw [ek13]; show k12.1 + 1 = _; rw [Z]
  have c1 := fun j hj => (ok13 _ (a_jn hj (by decide))).trans (c1 j hj)
  have f5 := (ok13 _ (a_ne (by decide))).trans f5
  have r6 := r6.same (fun a ha => ok13 a (a_sn 2 ha (by decide)))
  refine aw_dup B rfl dX9_init_57 ?_
  refine aw_bipush B 6 (by decide) dX9_init_58 ?_
  refine aw_newi B 6 8 38 dX9_init_60 ari_int (by decide) rfl (by decide) (by decide) (by decide) ?_
  rw [show k13.1 = s + 9 from Z]
  obtain ⟨k14, ek14⟩ : ∃ z : Hp, z = hp_new k13 (.inl ((zXg X).2.2.1.1, 6, .inl (fun _ => 0))) := ⟨_, rfl⟩
  rw [← ek14]
  have ok14 : ∀ a, a ≠ s + 9 → k14.2 a = k13.2 a := fun a y1 => by rw [ek14]; exact hn_n (by rw [Z]; exact y1)
  have f9 : k14.2 (s + 9) = some (.inl ((zXg X).2.2.1.1, 6, .inl (fun _ => 0))) := by rw [ek14, ← Z]; exact hn_s
  have ho := (ok14 _ (a_n0 (by decide))).trans ho
  have K : ∀ a, a < s → k14.2 a = h.2 a := fun a y1 => (ok14 a (a_k y1)).trans (K a y1)
  have Z : k14.1 = s + 10 := by rw [ek14]; show k13.1 + 1 = _; rw [Z]
  have c1 := fun j hj => (ok14 _ (a_jn hj (by decide))).trans (c1 j hj)
  have f5 := (ok14 _ (a_ne (by decide))).trans f5
  have r6 := r6.same (fun a ha => ok14 a (a_sn 2 ha (by decide)))
  have f8 := (ok14 _ (a_ne (by decide))).trans f8
  refine aw_callI B 8 38 (c_row _ _ _ (s + 8) _ _ f8 f9) co_X7_init rfl k_X9_36 dX9_init_62 rfl rfl (Nat.le_of_ble_eq_true rfl) (zrz hr (by decide)) (Nat.le_refl _) (Nat.le_refl _) (kV fun k15 hpk15 => ?_)
  obtain ⟨Zk15, r8, ok15⟩ := hpk15
  have ho := (ok15 _ (a_n0 (by decide))).trans ho
  have K : ∀ a, a < s → k15.2 a = h.2 a := fun a y1 => (ok15 a (a_k y1)).trans (K a y1)
  have Z : k15.1 = s + 10 := Zk15.trans Z
  have c1 := fun j hj => (ok15 _ (a_jn hj (by decide))).trans (c1 j hj)
  have f5 := (ok15 _ (a_ne (by decide))).trans f5
  have r6 := r6.same (fun a ha => ok15 a (a_sn 2 ha (by decide)))
  refine aw_putF B rfl f_X9_43 nlk_X9_43 dX9_init_65 ho rfl rfl (by show 6 < 11; decide) ?_
  obtain ⟨k16, ek16⟩ : ∃ z : Hp, z = hp_up k15 (s) (.inr (9, [.int 0, .int 0, .int 0, .ref (s + 1), .ref (s + 5), .ref (s + 6), .null, .null, .null, .null, .null].set 6 (.ref (s + 8)))) := ⟨_, rfl⟩
  rw [← ek16]
  have ok16 : ∀ a, a ≠ s → k16.2 a = k15.2 a := fun a y1 => by rw [ek16]; exact hu_n y1
  have ho : k16.2 (s) = some (.inr (9, [.int 0, .int 0, .int 0, .ref (s + 1), .ref (s + 5), .ref (s + 6), .ref (s + 8), .null, .null, .null, .null])) := by rw [ek16]; exact hu_s
  have K : ∀ a, a < s → k16.2 a = h.2 a := fun a y1 => (ok16 a (Nat.ne_of_lt y1)).trans (K a y1)
  have Z : k16.1 = s + 10 := by rw [ek16]; exact Z
  have c1 := fun j hj => (ok16 _ (a_j0 (by decide))).trans (c1 j hj)
  have f5 := (ok16 _ (a_0n (by decide))).trans f5
  have r6 := r6.same (fun a ha => ok16 a (a_s0 ha (by decide)))
  have r8 := r8.same (fun a ha => ok16 a (a_s0 ha (by decide)))
  refine aw_aload_n B 0 rfl dX9_init_68 rfl ?_
  refine aw_new B 7 36 nw_X9_34 dX9_init_69 (by decide) (by decide) ?_
  rw [show k16.1 = s + 10 from Z]
  obtain ⟨k17, ek17⟩ : ∃ z : Hp, z = hp_new k16 (.inr (7, [.null, .int 0])) := ⟨_, rfl⟩
  rw [← ek17]
  have ok17 : ∀ a, a ≠ s + 10 → k17.2 a = k16.2 a := fun a y1 => by rw [ek17]; exact hn_n (by rw [Z]; exact y1)
  have f10 : k17.2 (s + 10) = some (.inr (7, [.null, .int 0])) := by rw [ek17, ← Z]; exact hn_s
  have ho := (ok17 _ (a_n0 (by decide))).trans ho
  have K : ∀ a, a < s → k17.2 a = h.2 a := fun a y1 => (ok17 a (a_k y1)).trans (K a y1)
  have Z : k17.1 = s + 11 := by rw [ek17]; show k16.1 + 1 = _; rw [Z]
  have c1 := fun j hj => (ok17 _ (a_jn hj (by decide))).trans (c1 j hj)
  have f5 := (ok17 _ (a_ne (by decide))).trans f5
  have r6 := r6.same (fun a ha => ok17 a (a_sn 2 ha (by decide)))
  have r8 := r8.same (fun a ha => ok17 a (a_sn 2 ha (by decide)))
  refine aw_dup B rfl dX9_init_72 ?_
  refine aw_bipush B 6 (by decide) dX9_init_73 ?_
  refine aw_newi B 6 6 30 dX9_init_75 ari_int (by decide) rfl (by decide) (by decide) (by decide) ?_
  rw [show k17.1 = s + 11 from Z]
  obtain ⟨k18, ek18⟩ : ∃ z : Hp, z = hp_new k17 (.inl ((zXg X).2.2.1.1, 6, .inl (fun _ => 0))) := ⟨_, rfl⟩
  rw [← ek18]
  have ok18 : ∀ a, a ≠ s + 11 → k18.2 a = k17.2 a := fun a y1 => by rw [ek18]; exact hn_n (by rw [Z]; exact y1)
  have f11 : k18.2 (s + 11) = some (.inl ((zXg X).2.2.1.1, 6, .inl (fun _ => 0))) := by rw [ek18, ← Z]; exact hn_s
  have ho := (ok18 _ (a_n0 (by decide))).trans ho
  have K : ∀ a, a < s → k18.2 a = h.2 a := fun a y1 => (ok18 a (a_k y1)).trans (K a y1)
  have Z : k18.1 = s + 12 := by rw [ek18]; show k17.1 + 1 = _; rw [Z]
  have c1 := fun j hj => (ok18 _ (a_jn hj (by decide))).trans (c1 j hj)
  have f5 := (ok18 _ (a_ne (by decide))).trans f5
  have r6 := r6.same (fun a ha => ok18 a (a_sn 2 ha (by decide)))
  have r8 := r8.same (fun a ha => ok18 a (a_sn 2 ha (by decide)))
  have f10 := (ok18 _ (a_ne (by decide))).trans f10
  refine aw_callI B 6 30 (c_row _ _ _ (s + 10) _ _ f10 f11) co_X7_init rfl k_X9_36 dX9_init_77 rfl rfl (Nat.le_of_ble_eq_true rfl) (zrz hr (by decide)) (Nat.le_refl _) (Nat.le_refl _) (kV fun k19 hpk19 => ?_)
  obtain ⟨Zk19, r10, ok19⟩ := hpk19
  have ho := (ok19 _ (a_n0 (by decide))).trans ho
  have K : ∀ a, a < s → k19.2 a = h.2 a := fun a y1 => (ok19 a (a_k y1)).trans (K a y1)
  have Z : k19.1 = s + 12 := Zk19.trans Z
  have c1 := fun j hj => (ok19 _ (a_jn hj (by decide))).trans (c1 j hj)
  have f5 := (ok19 _ (a_ne (by decide))).trans f5
  have r6 := r6.same (fun a ha => ok19 a (a_sn 2 ha (by decide)))
  have r8 := r8.same (fun a ha => ok19 a (a_sn 2 ha (by decide)))
  refine aw_putF B rfl f_X9_46 nlk_X9_46 dX9_init_80 ho rfl rfl (by show 7 < 11; decide) ?_
  obtain ⟨k20, ek20⟩ : ∃ z : Hp, z = hp_up k19 (s) (.inr (9, [.int 0, .int 0, .int 0, .ref (s + 1), .ref (s + 5), .ref (s + 6), .ref (s + 8), .null, .null, .null, .null].set 7 (.ref (s + 10)))) := ⟨_, rfl⟩
  rw [← ek20]
  have ok20 : ∀ a, a ≠ s → k20.2 a = k19.2 a := fun a y1 => by rw [ek20]; exact hu_n y1
  have ho : k20.2 (s) = some (.inr (9, [.int 0, .int 0, .int 0, .ref (s + 1), .ref (s + 5), .ref (s + 6), .ref (s + 8), .ref (s + 10), .null, .null, .null])) := by rw [ek20]; exact hu_s
  have K : ∀ a, a < s → k20.2 a = h.2 a := fun a y1 => (ok20 a (Nat.ne_of_lt y1)).trans (K a y1)
  have Z : k20.1 = s + 12 := by rw [ek20]; exact Z
  have c1 := fun j hj => (ok20 _ (a_j0 (by decide))).trans (c1 j hj)
  have f5 := (ok20 _ (a_0n (by decide))).trans f5
  have r6 := r6.same (fun a ha => ok20 a (a_s0 ha (by decide)))
  have r8 := r8.same (fun a ha => ok20 a (a_s0 ha (by decide)))
  have r10 := r10.same (fun a ha => ok20 a (a_s0 ha (by decide)))
  refine aw_aload_n B 0 rfl dX9_init_83 rfl ?_
  refine aw_new B 5 28 nw_X9_34 dX9_init_84 (by decide) (by decide) ?_
  rw [show k20.1 = s + 12 from Z]
  obtain ⟨k21, ek21⟩ : ∃ z : Hp, z = hp_new k20 (.inr (7, [.null, .int 0])) := ⟨_, rfl⟩
  rw [← ek21]
  have ok21 : ∀ a, a ≠ s + 12 → k21.2 a = k20.2 a := fun a y1 => by rw [ek21]; exact hn_n (by rw [Z]; exact y1)
  have f12 : k21.2 (s + 12) = some (.inr (7, [.null, .int 0])) := by rw [ek21, ← Z]; exact hn_s
  have ho := (ok21 _ (a_n0 (by decide))).trans ho
  have K : ∀ a, a < s → k21.2 a = h.2 a := fun a y1 => (ok21 a (a_k y1)).trans (K a y1)
  have Z : k21.1 = s + 13 := by rw [ek21]; show k20.1 + 1 = _; rw [Z]
  have c1 := fun j hj => (ok21 _ (a_jn hj (by decide))).trans (c1 j hj)
  have f5 := (ok21 _ (a_ne (by decide))).trans f5
  have r6 := r6.same (fun a ha => ok21 a (a_sn 2 ha (by decide)))
  have r8 := r8.same (fun a ha => ok21 a (a_sn 2 ha (by decide)))
  have r10 := r10.same (fun a ha => ok21 a (a_sn 2 ha (by decide)))
  refine aw_dup B rfl dX9_init_87 ?_
  refine aw_bipush B 8 (by decide) dX9_init_88 ?_
  refine aw_newi B 8 4 20 dX9_init_90 ari_int (by decide) rfl (by decide) (by decide) (by decide) ?_
  rw [show k21.1 = s + 13 from Z]
  obtain ⟨k22, ek22⟩ : ∃ z : Hp, z = hp_new k21 (.inl ((zXg X).2.2.1.1, 8, .inl (fun _ => 0))) := ⟨_, rfl⟩
  rw [← ek22]
  have ok22 : ∀ a, a ≠ s + 13 → k22.2 a = k21.2 a := fun a y1 => by rw [ek22]; exact hn_n (by rw [Z]; exact y1)
  have f13 : k22.2 (s + 13) = some (.inl ((zXg X).2.2.1.1, 8, .inl (fun _ => 0))) := by rw [ek22, ← Z]; exact hn_s
  have ho := (ok22 _ (a_n0 (by decide))).trans ho
  have K : ∀ a, a < s → k22.2 a = h.2 a := fun a y1 => (ok22 a (a_k y1)).trans (K a y1)
  have Z : k22.1 = s + 14 := by rw [ek22]; show k21.1 + 1 = _; rw [Z]
  have c1 := fun j hj => (ok22 _ (a_jn hj (by decide))).trans (c1 j hj)
  have f5 := (ok22 _ (a_ne (by decide))).trans f5
  have r6 := r6.same (fun a ha => ok22 a (a_sn 2 ha (by decide)))
  have r8 := r8.same (fun a ha => ok22 a (a_sn 2 ha (by decide)))
  have r10 := r10.same (fun a ha => ok22 a (a_sn 2 ha (by decide)))
  have f12 := (ok22 _ (a_ne (by decide))).trans f12
  refine aw_callI B 4 20 (c_row _ _ _ (s + 12) _ _ f12 f13) co_X7_init rfl k_X9_36 dX9_init_92 rfl rfl (Nat.le_of_ble_eq_true rfl) (zrz hr (by decide)) (Nat.le_refl _) (Nat.le_refl _) (kV fun k23 hpk23 => ?_)
  obtain ⟨Zk23, r12, ok23⟩ := hpk23
  have ho := (ok23 _ (a_n0 (by decide))).trans ho
  have K : ∀ a, a < s → k23.2 a = h.2 a := fun a y1 => (ok23 a (a_k y1)).trans (K a y1)
  have Z : k23.1 = s + 14 := Zk23.trans Z
  have c1 := fun j hj => (ok23 _ (a_jn hj (by decide))).trans (c1 j hj)
  have f5 := (ok23 _ (a_ne (by decide))).trans f5
  have r6 := r6.same (fun a ha => ok23 a (a_sn 2 ha (by decide)))
  have r8 := r8.same (fun a ha => ok23 a (a_sn 2 ha (by decide)))
  have r10 := r10.same (fun a ha => ok23 a (a_sn 2 ha (by decide)))
  refine aw_putF B rfl f_X9_49 nlk_X9_49 dX9_init_95 ho rfl rfl (by show 8 < 11; decide) ?_
  obtain ⟨k24, ek24⟩ : ∃ z : Hp, z = hp_up k23 (s) (.inr (9, [.int 0, .int 0, .int 0, .ref (s + 1), .ref (s + 5), .ref (s + 6), .ref (s + 8), .ref (s + 10), .null, .null, .null].set 8 (.ref (s + 12)))) := ⟨_, rfl⟩
  rw [← ek24]
  have ok24 : ∀ a, a ≠ s → k24.2 a = k23.2 a := fun a y1 => by rw [ek24]; exact hu_n y1
  have ho : k24.2 (s) = some (.inr (9, [.int 0, .int 0, .int 0, .ref (s + 1), .ref (s + 5), .ref (s + 6), .ref (s + 8), .ref (s + 10), .ref (s + 12), .null, .null])) := by rw [ek24]; exact hu_s
  have K : ∀ a, a < s → k24.2 a = h.2 a := fun a y1 => (ok24 a (Nat.ne_of_lt y1)).trans (K a y1)
  have Z : k24.1 = s + 14 := by rw [ek24]; exact Z
  have c1 := fun j hj => (ok24 _ (a_j0 (by decide))).trans (c1 j hj)
  have f5 := (ok24 _ (a_0n (by decide))).trans f5
  have r6 := r6.same (fun a ha => ok24 a (a_s0 ha (by decide)))
  have r8 := r8.same (fun a ha => ok24 a (a_s0 ha (by decide)))
  have r10 := r10.same (fun a ha => ok24 a (a_s0 ha (by decide)))
  have r12 := r12.same (fun a ha => ok24 a (a_s0 ha (by decide)))
  refine aw_aload_n B 0 rfl dX9_init_98 rfl ?_
  refine aw_new B 3 18 nw_X9_34 dX9_init_99 (by decide) (by decide) ?_
  rw [show k24.1 = s + 14 from Z]
  obtain ⟨k25, ek25⟩ : ∃ z : Hp, z = hp_new k24 (.inr (7, [.null, .int 0])) := ⟨_, rfl⟩
  rw [← ek25]
  have ok25 : ∀ a, a ≠ s + 14 → k25.2 a = k24.2 a := fun a y1 => by rw [ek25]; exact hn_n (by rw [Z]; exact y1)
  have f14 : k25.2 (s + 14) = some (.inr (7, [.null, .int 0])) := by rw [ek25, ← Z]; exact hn_s
  have ho := (ok25 _ (a_n0 (by decide))).trans ho
  have K : ∀ a, a < s → k25.2 a = h.2 a := fun a y1 => (ok25 a (a_k y1)).trans (K a y1)
  have Z : k25.1 = s + 15 := by rw [ek25]; show k24.1 + 1 = _; rw [Z]
  have c1 := fun j hj => (ok25 _ (a_jn hj (by decide))).trans (c1 j hj)
  have f5 := (ok25 _ (a_ne (by decide))).trans f5
  have r6 := r6.same (fun a ha => ok25 a (a_sn 2 ha (by decide)))
  have r8 := r8.same (fun a ha => ok25 a (a_sn 2 ha (by decide)))
  have r10 := r10.same (fun a ha => ok25 a (a_sn 2 ha (by decide)))
  have r12 := r12.same (fun a ha => ok25 a (a_sn 2 ha (by decide)))
  refine aw_dup B rfl dX9_init_102 ?_
  refine aw_bipush B 8 (by decide) dX9_init_103 ?_
  refine aw_newi B 8 2 10 dX9_init_105 ari_int (by decide) rfl (by decide) (by decide) (by decide) ?_
  rw [show k25.1 = s + 15 from Z]
  obtain ⟨k26, ek26⟩ : ∃ z : Hp, z = hp_new k25 (.inl ((zXg X).2.2.1.1, 8, .inl (fun _ => 0))) := ⟨_, rfl⟩
  rw [← ek26]
  have ok26 : ∀ a, a ≠ s + 15 → k26.2 a = k25.2 a := fun a y1 => by rw [ek26]; exact hn_n (by rw [Z]; exact y1)
  have f15 : k26.2 (s + 15) = some (.inl ((zXg X).2.2.1.1, 8, .inl (fun _ => 0))) := by rw [ek26, ← Z]; exact hn_s
  have ho := (ok26 _ (a_n0 (by decide))).trans ho
  have K : ∀ a, a < s → k26.2 a = h.2 a := fun a y1 => (ok26 a (a_k y1)).trans (K a y1)
  have Z : k26.1 = s + 16 := by rw [ek26]; show k25.1 + 1 = _; rw [Z]
  have c1 := fun j hj => (ok26 _ (a_jn hj (by decide))).trans (c1 j hj)
  have f5 := (ok26 _ (a_ne (by decide))).trans f5
  have r6 := r6.same (fun a ha => ok26 a (a_sn 2 ha (by decide)))
  have r8 := r8.same (fun a ha => ok26 a (a_sn 2 ha (by decide)))
  have r10 := r10.same (fun a ha => ok26 a (a_sn 2 ha (by decide)))
  have r12 := r12.same (fun a ha => ok26 a (a_sn 2 ha (by decide)))
  have f14 := (ok26 _ (a_ne (by decide))).trans f14
  refine aw_callI B 2 10 (c_row _ _ _ (s + 14) _ _ f14 f15) co_X7_init rfl k_X9_36 dX9_init_107 rfl rfl (Nat.le_of_ble_eq_true rfl) (zrz hr (by decide)) (Nat.le_refl _) (Nat.le_refl _) (kV fun k27 hpk27 => ?_)
  obtain ⟨Zk27, r14, ok27⟩ := hpk27
  have ho := (ok27 _ (a_n0 (by decide))).trans ho
  have K : ∀ a, a < s → k27.2 a = h.2 a := fun a y1 => (ok27 a (a_k y1)).trans (K a y1)
  have Z : k27.1 = s + 16 := Zk27.trans Z
  have c1 := fun j hj => (ok27 _ (a_jn hj (by decide))).trans (c1 j hj)
  have f5 := (ok27 _ (a_ne (by decide))).trans f5
  have r6 := r6.same (fun a ha => ok27 a (a_sn 2 ha (by decide)))
  have r8 := r8.same (fun a ha => ok27 a (a_sn 2 ha (by decide)))
  have r10 := r10.same (fun a ha => ok27 a (a_sn 2 ha (by decide)))
  have r12 := r12.same (fun a ha => ok27 a (a_sn 2 ha (by decide)))
  refine aw_putF B rfl f_X9_52 nlk_X9_52 dX9_init_110 ho rfl rfl (by show 9 < 11; decide) ?_
  obtain ⟨k28, ek28⟩ : ∃ z : Hp, z = hp_up k27 (s) (.inr (9, [.int 0, .int 0, .int 0, .ref (s + 1), .ref (s + 5), .ref (s + 6), .ref (s + 8), .ref (s + 10), .ref (s + 12), .null, .null].set 9 (.ref (s + 14)))) := ⟨_, rfl⟩
  rw [← ek28]
  have ok28 : ∀ a, a ≠ s → k28.2 a = k27.2 a := fun a y1 => by rw [ek28]; exact hu_n y1
  have ho : k28.2 (s) = some (.inr (9, [.int 0, .int 0, .int 0, .ref (s + 1), .ref (s + 5), .ref (s + 6), .ref (s + 8), .ref (s + 10), .ref (s + 12), .ref (s + 14), .null])) := by rw [ek28]; exact hu_s
  have K : ∀ a, a < s → k28.2 a = h.2 a := fun a y1 => (ok28 a (Nat.ne_of_lt y1)).trans (K a y1)
  have Z : k28.1 = s + 16 := by rw [ek28]; exact Z
  have c1 := fun j hj => (ok28 _ (a_j0 (by decide))).trans (c1 j hj)
  have f5 := (ok28 _ (a_0n (by decide))).trans f5
  have r6 := r6.same (fun a ha => ok28 a (a_s0 ha (by decide)))
  have r8 := r8.same (fun a ha => ok28 a (a_s0 ha (by decide)))
  have r10 := r10.same (fun a ha => ok28 a (a_s0 ha (by decide)))
  have r12 := r12.same (fun a ha => ok28 a (a_s0 ha (by decide)))
  have r14 := r14.same (fun a ha => ok28 a (a_s0 ha (by decide)))
  refine aw_aload_n B 0 rfl dX9_init_113 rfl ?_
  refine aw_new B 1 8 nw_X9_34 dX9_init_114 (by decide) (by decide) ?_
  rw [show k28.1 = s + 16 from Z]
  obtain ⟨k29, ek29⟩ : ∃ z : Hp, z = hp_new k28 (.inr (7, [.null, .int 0])) := ⟨_, rfl⟩
  rw [← ek29]
  have ok29 : ∀ a, a ≠ s + 16 → k29.2 a = k28.2 a := fun a y1 => by rw [ek29]; exact hn_n (by rw [Z]; exact y1)
  have f16 : k29.2 (s + 16) = some (.inr (7, [.null, .int 0])) := by rw [ek29, ← Z]; exact hn_s
  have ho := (ok29 _ (a_n0 (by decide))).trans ho
  have K : ∀ a, a < s → k29.2 a = h.2 a := fun a y1 => (ok29 a (a_k y1)).trans (K a y1)
  have Z : k29.1 = s + 17 := by rw [ek29]; show k28.1 + 1 = _; rw [Z]
  have c1 := fun j hj => (ok29 _ (a_jn hj (by decide))).trans (c1 j hj)
  have f5 := (ok29 _ (a_ne (by decide))).trans f5
  have r6 := r6.same (fun a ha => ok29 a (a_sn 2 ha (by decide)))
  have r8 := r8.same (fun a ha => ok29 a (a_sn 2 ha (by decide)))
  have r10 := r10.same (fun a ha => ok29 a (a_sn 2 ha (by decide)))
  have r12 := r12.same (fun a ha => ok29 a (a_sn 2 ha (by decide)))
  have r14 := r14.same (fun a ha => ok29 a (a_sn 2 ha (by decide)))
  refine aw_dup B rfl dX9_init_117 ?_
  refine aw_bipush B 8 (by decide) dX9_init_118 ?_
  refine aw_newi B 8 0 0 dX9_init_120 ari_int (by decide) rfl (by decide) (by decide) (by decide) ?_
  rw [show k29.1 = s + 17 from Z]
  obtain ⟨k30, ek30⟩ : ∃ z : Hp, z = hp_new k29 (.inl ((zXg X).2.2.1.1, 8, .inl (fun _ => 0))) := ⟨_, rfl⟩
  rw [← ek30]
  have ok30 : ∀ a, a ≠ s + 17 → k30.2 a = k29.2 a := fun a y1 => by rw [ek30]; exact hn_n (by rw [Z]; exact y1)
  have f17 : k30.2 (s + 17) = some (.inl ((zXg X).2.2.1.1, 8, .inl (fun _ => 0))) := by rw [ek30, ← Z]; exact hn_s
  have ho := (ok30 _ (a_n0 (by decide))).trans ho
  have K : ∀ a, a < s → k30.2 a = h.2 a := fun a y1 => (ok30 a (a_k y1)).trans (K a y1)
  have Z : k30.1 = s + 18 := by rw [ek30]; show k29.1 + 1 = _; rw [Z]
  have c1 := fun j hj => (ok30 _ (a_jn hj (by decide))).trans (c1 j hj)
  have f5 := (ok30 _ (a_ne (by decide))).trans f5
  have r6 := r6.same (fun a ha => ok30 a (a_sn 2 ha (by decide)))
  have r8 := r8.same (fun a ha => ok30 a (a_sn 2 ha (by decide)))
  have r10 := r10.same (fun a ha => ok30 a (a_sn 2 ha (by decide)))
  have r12 := r12.same (fun a ha => ok30 a (a_sn 2 ha (by decide)))
  have r14 := r14.same (fun a ha => ok30 a (a_sn 2 ha (by decide)))
  have f16 := (ok30 _ (a_ne (by decide))).trans f16
  refine aw_callI B 0 0 (c_row _ _ _ (s + 16) _ _ f16 f17) co_X7_init rfl k_X9_36 dX9_init_122 rfl rfl (Nat.le_of_ble_eq_true rfl) (zrz hr (by decide)) (Nat.le_refl _) (Nat.le_refl _) (kV fun k31 hpk31 => ?_)
  obtain ⟨Zk31, r16, ok31⟩ := hpk31
  have ho := (ok31 _ (a_n0 (by decide))).trans ho
  have K : ∀ a, a < s → k31.2 a = h.2 a := fun a y1 => (ok31 a (a_k y1)).trans (K a y1)
  have Z : k31.1 = s + 18 := Zk31.trans Z
  have c1 := fun j hj => (ok31 _ (a_jn hj (by decide))).trans (c1 j hj)
  have f5 := (ok31 _ (a_ne (by decide))).trans f5
  have r6 := r6.same (fun a ha => ok31 a (a_sn 2 ha (by decide)))
  have r8 := r8.same (fun a ha => ok31 a (a_sn 2 ha (by decide)))
  have r10 := r10.same (fun a ha => ok31 a (a_sn 2 ha (by decide)))
  have r12 := r12.same (fun a ha => ok31 a (a_sn 2 ha (by decide)))
  have r14 := r14.same (fun a ha => ok31 a (a_sn 2 ha (by decide)))
  refine aw_putF B rfl f_X9_55 nlk_X9_55 dX9_init_125 ho rfl rfl (by show 10 < 11; decide) ?_
  obtain ⟨k32, ek32⟩ : ∃ z : Hp, z = hp_up k31 (s) (.inr (9, [.int 0, .int 0, .int 0, .ref (s + 1), .ref (s + 5), .ref (s + 6), .ref (s + 8), .ref (s + 10), .ref (s + 12), .ref (s + 14), .null].set 10 (.ref (s + 16)))) := ⟨_, rfl⟩
  rw [← ek32]
  have ok32 : ∀ a, a ≠ s → k32.2 a = k31.2 a := fun a y1 => by rw [ek32]; exact hu_n y1
  have ho : k32.2 (s) = some (.inr (9, [.int 0, .int 0, .int 0, .ref (s + 1), .ref (s + 5), .ref (s + 6), .ref (s + 8), .ref (s + 10), .ref (s + 12), .ref (s + 14), .ref (s + 16)])) := by rw [ek32]; exact hu_s
  have K : ∀ a, a < s → k32.2 a = h.2 a := fun a y1 => (ok32 a (Nat.ne_of_lt y1)).trans (K a y1)
  have Z : k32.1 = s + 18 := by rw [ek32]; exact Z
  have c1 := fun j hj => (ok32 _ (a_j0 (by decide))).trans (c1 j hj)
  have f5 := (ok32 _ (a_0n (by decide))).trans f5
  have r6 := r6.same (fun a ha => ok32 a (a_s0 ha (by decide)))
  have r8 := r8.same (fun a ha => ok32 a (a_s0 ha (by decide)))
  have r10 := r10.same (fun a ha => ok32 a (a_s0 ha (by decide)))
  have r12 := r12.same (fun a ha => ok32 a (a_s0 ha (by decide)))
  have r14 := r14.same (fun a ha => ok32 a (a_s0 ha (by decide)))
  have r16 := r16.same (fun a ha => ok32 a (a_s0 ha (by decide)))
  refine aw_vret B rfl dX9_init_128 ?_
  exact ⟨rfl, Z, ⟨ho, c1, f5, r6, r8, r10, r12, r14, r16⟩, K⟩
theorem dX11_init_0 : decode cX11_init 0 = .ok (.aload_n 0, 1) := by decide +kernel
theorem dX11_init_1 : decode cX11_init 1 = .ok (.invokespecial 3, 3) := by decide +kernel
theorem dX11_init_4 : decode cX11_init 4 = .ok (.aload_n 0, 1) := by decide +kernel
theorem dX11_init_5 : decode cX11_init 5 = .ok (.new 9, 3) := by decide +kernel
theorem dX11_init_8 : decode cX11_init 8 = .ok (.dup, 1) := by decide +kernel
theorem dX11_init_9 : decode cX11_init 9 = .ok (.invokespecial 11, 3) := by decide +kernel
theorem dX11_init_12 : decode cX11_init 12 = .ok (.putfield 12, 3) := by decide +kernel
theorem dX11_init_15 : decode cX11_init 15 = .ok (.aload_n 0, 1) := by decide +kernel
theorem dX11_init_16 : decode cX11_init 16 = .ok (.new 9, 3) := by decide +kernel
theorem dX11_init_19 : decode cX11_init 19 = .ok (.dup, 1) := by decide +kernel
theorem dX11_init_20 : decode cX11_init 20 = .ok (.invokespecial 11, 3) := by decide +kernel
theorem dX11_init_23 : decode cX11_init 23 = .ok (.putfield 18, 3) := by decide +kernel
theorem dX11_init_26 : decode cX11_init 26 = .ok (.aload_n 0, 1) := by decide +kernel
theorem dX11_init_27 : decode cX11_init 27 = .ok (.iconst 0, 1) := by decide +kernel
theorem dX11_init_28 : decode cX11_init 28 = .ok (.putfield 21, 3) := by decide +kernel
theorem dX11_init_31 : decode cX11_init 31 = .ok (.aload_n 0, 1) := by decide +kernel
theorem dX11_init_32 : decode cX11_init 32 = .ok (.new 25, 3) := by decide +kernel
theorem dX11_init_35 : decode cX11_init 35 = .ok (.dup, 1) := by decide +kernel
theorem dX11_init_36 : decode cX11_init 36 = .ok (.invokespecial 27, 3) := by decide +kernel
theorem dX11_init_39 : decode cX11_init 39 = .ok (.putfield 28, 3) := by decide +kernel
theorem dX11_init_42 : decode cX11_init 42 = .ok (.aload_n 0, 1) := by decide +kernel
theorem dX11_init_43 : decode cX11_init 43 = .ok (.new 32, 3) := by decide +kernel
theorem dX11_init_46 : decode cX11_init 46 = .ok (.dup, 1) := by decide +kernel
theorem dX11_init_47 : decode cX11_init 47 = .ok (.bipush 20, 2) := by decide +kernel
theorem dX11_init_49 : decode cX11_init 49 = .ok (.newarray .int, 2) := by decide +kernel
theorem dX11_init_51 : decode cX11_init 51 = .ok (.invokespecial 34, 3) := by decide +kernel
theorem dX11_init_54 : decode cX11_init 54 = .ok (.putfield 37, 3) := by decide +kernel
theorem dX11_init_57 : decode cX11_init 57 = .ok (.aload_n 0, 1) := by decide +kernel
theorem dX11_init_58 : decode cX11_init 58 = .ok (.new 41, 3) := by decide +kernel
theorem dX11_init_61 : decode cX11_init 61 = .ok (.dup, 1) := by decide +kernel
theorem dX11_init_62 : decode cX11_init 62 = .ok (.invokespecial 43, 3) := by decide +kernel
theorem dX11_init_65 : decode cX11_init 65 = .ok (.putfield 44, 3) := by decide +kernel
theorem dX11_init_68 : decode cX11_init 68 = .ok (.aload_n 0, 1) := by decide +kernel
theorem dX11_init_69 : decode cX11_init 69 = .ok (.new 41, 3) := by decide +kernel
theorem dX11_init_72 : decode cX11_init 72 = .ok (.dup, 1) := by decide +kernel
theorem dX11_init_73 : decode cX11_init 73 = .ok (.invokespecial 43, 3) := by decide +kernel
theorem dX11_init_76 : decode cX11_init 76 = .ok (.putfield 48, 3) := by decide +kernel
theorem dX11_init_79 : decode cX11_init 79 = .ok (.aload_n 0, 1) := by decide +kernel
theorem dX11_init_80 : decode cX11_init 80 = .ok (.bipush 8, 2) := by decide +kernel
theorem dX11_init_82 : decode cX11_init 82 = .ok (.newarray .int, 2) := by decide +kernel
theorem dX11_init_84 : decode cX11_init 84 = .ok (.putfield 51, 3) := by decide +kernel
theorem dX11_init_87 : decode cX11_init 87 = .ok (.return_, 1) := by decide +kernel
theorem nlk_X11_12 : ∀ q ∈ zNF, ¬ (q.1 = "LowWater" ∧ q.2.1 = 12) := by decide +kernel
theorem nlk_X11_18 : ∀ q ∈ zNF, ¬ (q.1 = "LowWater" ∧ q.2.1 = 18) := by decide +kernel
theorem nlk_X11_37 : ∀ q ∈ zNF, ¬ (q.1 = "LowWater" ∧ q.2.1 = 37) := by decide +kernel
theorem nlk_X11_44 : ∀ q ∈ zNF, ¬ (q.1 = "LowWater" ∧ q.2.1 = 44) := by decide +kernel
theorem nlk_X11_48 : ∀ q ∈ zNF, ¬ (q.1 = "LowWater" ∧ q.2.1 = 48) := by decide +kernel
theorem nlk_X11_51 : ∀ q ∈ zNF, ¬ (q.1 = "LowWater" ∧ q.2.1 = 51) := by decide +kernel
set_option maxRecDepth 100000 in
set_option maxHeartbeats 4000000 in
theorem c_low (l : Launch) (g : zG) (h : Hp) (x : Nat)  (Z : h.1 = x + 1) (ho : h.2 x = some (.inr (11, [.null, .null, .int 0, .null, .null, .null, .null, .null]))) : Sp l g yX11_init cX11_init 1 none (rmc 5 53 7274) [.ref x] (h) (zV fun h' => h'.1 = x + 54 ∧ cH g h' x (x + 2) (x + 37) 0 S00 0 [] n00 S00 0 [] n00 0 (fun _ => 0) 0 ∧ ∀ a, a < x → h'.2 a = h.2 a) := by
  refine Sp.of [some (.ref x)] (by decide) (Nat.le_of_ble_eq_true rfl) rfl rfl ?_
  rintro X rfl hr rfl B
  show AW X 53 7274 0 _ _ _ _
  have K : ∀ a, a < x → h.2 a = h.2 a := fun _ _ => rfl
  refine aw_aload_n B 0 rfl dX11_init_0 rfl ?_
  refine aw_objInit B k_X11_3 dX11_init_1 (Nat.le_of_ble_eq_true rfl) (mRo hr (by decide)) ?_
  refine aw_aload_n B 0 rfl dX11_init_4 rfl ?_
  refine aw_new B 52 7263 nw_X11_9 dX11_init_5 (by decide) (by decide) ?_
  rw [show h.1 = x + 1 from Z]
  obtain ⟨k1, ek1⟩ : ∃ z : Hp, z = hp_new h (.inr (9, [.int 0, .int 0, .int 0, .null, .null, .null, .null, .null, .null, .null, .null])) := ⟨_, rfl⟩
  rw [← ek1]
  have ok1 : ∀ a, a ≠ x + 1 → k1.2 a = h.2 a := fun a y1 => by rw [ek1]; exact hn_n (by rw [Z]; exact y1)
  have f1 : k1.2 (x + 1) = some (.inr (9, [.int 0, .int 0, .int 0, .null, .null, .null, .null, .null, .null, .null, .null])) := by rw [ek1, ← Z]; exact hn_s
  have ho := (ok1 _ (a_n0 (by decide))).trans ho
  have K : ∀ a, a < x → k1.2 a = h.2 a := fun a y1 => (ok1 a (a_k y1)).trans (K a y1)
  have Z : k1.1 = x + 2 := by rw [ek1]; show h.1 + 1 = _; rw [Z]
  refine aw_dup B rfl dX11_init_8 ?_
  refine aw_callIN B 35 6065 (c_state _ _ _ (x + 1) Z f1) co_X9_init rfl k_X11_11 dX11_init_9 rfl rfl (Nat.le_of_ble_eq_true rfl) (zrc hr (by decide)) (Nat.le_refl _) (Nat.le_refl _) (kV fun k2 hpk2 => ?_)
  obtain ⟨Zk2, s1, ok2⟩ := hpk2
  have ho := (ok2 _ (a_l0 (by decide))).trans ho
  have K : ∀ a, a < x → k2.2 a = h.2 a := fun a y1 => (ok2 a (a_kl y1)).trans (K a y1)
  have Z : k2.1 = x + 19 := Zk2
  refine aw_putF B rfl f_X11_12 nlk_X11_12 dX11_init_12 ho rfl rfl (by show 0 < 8; decide) ?_
  obtain ⟨k3, ek3⟩ : ∃ z : Hp, z = hp_up k2 (x) (.inr (11, [.null, .null, .int 0, .null, .null, .null, .null, .null].set 0 (.ref (x + 1)))) := ⟨_, rfl⟩
  rw [← ek3]
  have ok3 : ∀ a, a ≠ x → k3.2 a = k2.2 a := fun a y1 => by rw [ek3]; exact hu_n y1
  have ho : k3.2 (x) = some (.inr (11, [.ref (x + 1), .null, .int 0, .null, .null, .null, .null, .null])) := by rw [ek3]; exact hu_s
  have K : ∀ a, a < x → k3.2 a = h.2 a := fun a y1 => (ok3 a (Nat.ne_of_lt y1)).trans (K a y1)
  have Z : k3.1 = x + 19 := by rw [ek3]; exact Z
  have s1 := s1.same (fun a ha => ok3 a (a_s0 ha (by decide)))
  refine aw_aload_n B 0 rfl dX11_init_15 rfl ?_
  refine aw_new B 34 6054 nw_X11_9 dX11_init_16 (by decide) (by decide) ?_
  rw [show k3.1 = x + 19 from Z]
  obtain ⟨k4, ek4⟩ : ∃ z : Hp, z = hp_new k3 (.inr (9, [.int 0, .int 0, .int 0, .null, .null, .null, .null, .null, .null, .null, .null])) := ⟨_, rfl⟩
  rw [← ek4]
  have ok4 : ∀ a, a ≠ x + 19 → k4.2 a = k3.2 a := fun a y1 => by rw [ek4]; exact hn_n (by rw [Z]; exact y1)
  have f19 : k4.2 (x + 19) = some (.inr (9, [.int 0, .int 0, .int 0, .null, .null, .null, .null, .null, .null, .null, .null])) := by rw [ek4, ← Z]; exact hn_s
  have ho := (ok4 _ (a_n0 (by decide))).trans ho
  have K : ∀ a, a < x → k4.2 a = h.2 a := fun a y1 => (ok4 a (a_k y1)).trans (K a y1)
  have Z : k4.1 = x + 20 := by rw [ek4]; show k3.1 + 1 = _; rw [Z]
  have s1 := s1.same (fun a ha => ok4 a (a_sn 18 ha (by decide)))
  refine aw_dup B rfl dX11_init_19 ?_
  refine aw_callIN B 17 4856 (c_state _ _ _ (x + 19) Z f19) co_X9_init rfl k_X11_11 dX11_init_20 rfl rfl (Nat.le_of_ble_eq_true rfl) (zrc hr (by decide)) (Nat.le_refl _) (Nat.le_refl _) (kV fun k5 hpk5 => ?_)
  obtain ⟨Zk5, s19, ok5⟩ := hpk5
  have ho := (ok5 _ (a_l0 (by decide))).trans ho
  have K : ∀ a, a < x → k5.2 a = h.2 a := fun a y1 => (ok5 a (a_kl y1)).trans (K a y1)
  have Z : k5.1 = x + 37 := Zk5
  have s1 := s1.same (fun a ha => ok5 a (a_sl 18 ha (by decide)))
  refine aw_putF B rfl f_X11_18 nlk_X11_18 dX11_init_23 ho rfl rfl (by show 1 < 8; decide) ?_
  obtain ⟨k6, ek6⟩ : ∃ z : Hp, z = hp_up k5 (x) (.inr (11, [.ref (x + 1), .null, .int 0, .null, .null, .null, .null, .null].set 1 (.ref (x + 19)))) := ⟨_, rfl⟩
  rw [← ek6]
  have ok6 : ∀ a, a ≠ x → k6.2 a = k5.2 a := fun a y1 => by rw [ek6]; exact hu_n y1
  have ho : k6.2 (x) = some (.inr (11, [.ref (x + 1), .ref (x + 19), .int 0, .null, .null, .null, .null, .null])) := by rw [ek6]; exact hu_s
  have K : ∀ a, a < x → k6.2 a = h.2 a := fun a y1 => (ok6 a (Nat.ne_of_lt y1)).trans (K a y1)
  have Z : k6.1 = x + 37 := by rw [ek6]; exact Z
  have s1 := s1.same (fun a ha => ok6 a (a_s0 ha (by decide)))
  have s19 := s19.same (fun a ha => ok6 a (a_s0 ha (by decide)))
  refine aw_aload_n B 0 rfl dX11_init_26 rfl ?_
  refine aw_iconst B 0 (by decide) dX11_init_27 ?_
  refine aw_put B f_X11_21 dX11_init_28 ho rfl rfl (by show 2 < 8; decide) ?_
  obtain ⟨k7, ek7⟩ : ∃ z : Hp, z = hp_up k6 (x) (.inr (11, [.ref (x + 1), .ref (x + 19), .int 0, .null, .null, .null, .null, .null].set 2 (.int 0))) := ⟨_, rfl⟩
  rw [← ek7]
  have ok7 : ∀ a, a ≠ x → k7.2 a = k6.2 a := fun a y1 => by rw [ek7]; exact hu_n y1
  have ho : k7.2 (x) = some (.inr (11, [.ref (x + 1), .ref (x + 19), .int 0, .null, .null, .null, .null, .null])) := by rw [ek7]; exact hu_s
  have K : ∀ a, a < x → k7.2 a = h.2 a := fun a y1 => (ok7 a (Nat.ne_of_lt y1)).trans (K a y1)
  have Z : k7.1 = x + 37 := by rw [ek7]; exact Z
  have s1 := s1.same (fun a ha => ok7 a (a_s0 ha (by decide)))
  have s19 := s19.same (fun a ha => ok7 a (a_s0 ha (by decide)))
  refine aw_aload_n B 0 rfl dX11_init_31 rfl ?_
  refine aw_new B 16 4850 nw_X11_25 dX11_init_32 (by decide) (by decide) ?_
  rw [show k7.1 = x + 37 from Z]
  obtain ⟨k8, ek8⟩ : ∃ z : Hp, z = hp_new k7 (.inr (1, [.null, .null, .int 0, .null, .null, .int 0])) := ⟨_, rfl⟩
  rw [← ek8]
  have ok8 : ∀ a, a ≠ x + 37 → k8.2 a = k7.2 a := fun a y1 => by rw [ek8]; exact hn_n (by rw [Z]; exact y1)
  have f37 : k8.2 (x + 37) = some (.inr (1, [.null, .null, .int 0, .null, .null, .int 0])) := by rw [ek8, ← Z]; exact hn_s
  have ho := (ok8 _ (a_n0 (by decide))).trans ho
  have K : ∀ a, a < x → k8.2 a = h.2 a := fun a y1 => (ok8 a (a_k y1)).trans (K a y1)
  have Z : k8.1 = x + 38 := by rw [ek8]; show k7.1 + 1 = _; rw [Z]
  have s1 := s1.same (fun a ha => ok8 a (a_sn 18 ha (by decide)))
  have s19 := s19.same (fun a ha => ok8 a (a_sn 18 ha (by decide)))
  refine aw_dup B rfl dX11_init_35 ?_
  refine aw_callIN B 13 3810 (c_cave _ _ _ (x + 37) Z f37) co_X1_init rfl k_X11_27 dX11_init_36 rfl rfl (Nat.le_of_ble_eq_true rfl) (zrc hr (by decide)) (Nat.le_refl _) (Nat.le_refl _) (kV fun k9 hpk9 => ?_)
  obtain ⟨Zk9, c37, ok9⟩ := hpk9
  have ho := (ok9 _ (a_l0 (by decide))).trans ho
  have K : ∀ a, a < x → k9.2 a = h.2 a := fun a y1 => (ok9 a (a_kl y1)).trans (K a y1)
  have Z : k9.1 = x + 41 := Zk9
  have s1 := s1.same (fun a ha => ok9 a (a_sl 18 ha (by decide)))
  have s19 := s19.same (fun a ha => ok9 a (a_sl 18 ha (by decide)))
  refine aw_put B f_X11_28 dX11_init_39 ho rfl rfl (by show 3 < 8; decide) ?_
  obtain ⟨k10, ek10⟩ : ∃ z : Hp, z = hp_up k9 (x) (.inr (11, [.ref (x + 1), .ref (x + 19), .int 0, .null, .null, .null, .null, .null].set 3 (.ref (x + 37)))) := ⟨_, rfl⟩
  rw [← ek10]
  have ok10 : ∀ a, a ≠ x → k10.2 a = k9.2 a := fun a y1 => by rw [ek10]; exact hu_n y1
  have ho : k10.2 (x) = some (.inr (11, [.ref (x + 1), .ref (x + 19), .int 0, .ref (x + 37), .null, .null, .null, .null])) := by rw [ek10]; exact hu_s
  have K : ∀ a, a < x → k10.2 a = h.2 a := fun a y1 => (ok10 a (Nat.ne_of_lt y1)).trans (K a y1)
  have Z : k10.1 = x + 41 := by rw [ek10]; exact Z
  have s1 := s1.same (fun a ha => ok10 a (a_s0 ha (by decide)))
  have s19 := s19.same (fun a ha => ok10 a (a_s0 ha (by decide)))
  have c37 := fun j hj => (ok10 _ (a_j0 (by decide))).trans (c37 j hj)
  refine aw_aload_n B 0 rfl dX11_init_42 rfl ?_
  refine aw_new B 12 3808 nw_X11_32 dX11_init_43 (by decide) (by decide) ?_
  rw [show k10.1 = x + 41 from Z]
  obtain ⟨k11, ek11⟩ : ∃ z : Hp, z = hp_new k10 (.inr (7, [.null, .int 0])) := ⟨_, rfl⟩
  rw [← ek11]
  have ok11 : ∀ a, a ≠ x + 41 → k11.2 a = k10.2 a := fun a y1 => by rw [ek11]; exact hn_n (by rw [Z]; exact y1)
  have f41 : k11.2 (x + 41) = some (.inr (7, [.null, .int 0])) := by rw [ek11, ← Z]; exact hn_s
  have ho := (ok11 _ (a_n0 (by decide))).trans ho
  have K : ∀ a, a < x → k11.2 a = h.2 a := fun a y1 => (ok11 a (a_k y1)).trans (K a y1)
  have Z : k11.1 = x + 42 := by rw [ek11]; show k10.1 + 1 = _; rw [Z]
  have s1 := s1.same (fun a ha => ok11 a (a_sn 18 ha (by decide)))
  have s19 := s19.same (fun a ha => ok11 a (a_sn 18 ha (by decide)))
  have c37 := fun j hj => (ok11 _ (a_jn hj (by decide))).trans (c37 j hj)
  refine aw_dup B rfl dX11_init_46 ?_
  refine aw_bipush B 20 (by decide) dX11_init_47 ?_
  refine aw_newi B 20 11 3788 dX11_init_49 ari_int (by decide) rfl (by decide) (by decide) (by decide) ?_
  rw [show k11.1 = x + 42 from Z]
  obtain ⟨k12, ek12⟩ : ∃ z : Hp, z = hp_new k11 (.inl ((zXg X).2.2.1.1, 20, .inl (fun _ => 0))) := ⟨_, rfl⟩
  rw [← ek12]
  have ok12 : ∀ a, a ≠ x + 42 → k12.2 a = k11.2 a := fun a y1 => by rw [ek12]; exact hn_n (by rw [Z]; exact y1)
  have f42 : k12.2 (x + 42) = some (.inl ((zXg X).2.2.1.1, 20, .inl (fun _ => 0))) := by rw [ek12, ← Z]; exact hn_s
  have ho := (ok12 _ (a_n0 (by decide))).trans ho
  have K : ∀ a, a < x → k12.2 a = h.2 a := fun a y1 => (ok12 a (a_k y1)).trans (K a y1)
  have Z : k12.1 = x + 43 := by rw [ek12]; show k11.1 + 1 = _; rw [Z]
  have s1 := s1.same (fun a ha => ok12 a (a_sn 18 ha (by decide)))
  have s19 := s19.same (fun a ha => ok12 a (a_sn 18 ha (by decide)))
  have c37 := fun j hj => (ok12 _ (a_jn hj (by decide))).trans (c37 j hj)
  have f41 := (ok12 _ (a_ne (by decide))).trans f41
  refine aw_callI B 11 3788 (c_row _ _ _ (x + 41) _ _ f41 f42) co_X7_init rfl k_X11_34 dX11_init_51 rfl rfl (Nat.le_of_ble_eq_true rfl) (zrz hr (by decide)) (Nat.le_refl _) (Nat.le_refl _) (kV fun k13 hpk13 => ?_)
  obtain ⟨Zk13, r41, ok13⟩ := hpk13
  have ho := (ok13 _ (a_n0 (by decide))).trans ho
  have K : ∀ a, a < x → k13.2 a = h.2 a := fun a y1 => (ok13 a (a_k y1)).trans (K a y1)
  have Z : k13.1 = x + 43 := Zk13.trans Z
  have s1 := s1.same (fun a ha => ok13 a (a_sn 18 ha (by decide)))
  have s19 := s19.same (fun a ha => ok13 a (a_sn 18 ha (by decide)))
  have c37 := fun j hj => (ok13 _ (a_jn hj (by decide))).trans (c37 j hj)
  refine aw_putF B rfl f_X11_37 nlk_X11_37 dX11_init_54 ho rfl rfl (by show 4 < 8; decide) ?_
  obtain ⟨k14, ek14⟩ : ∃ z : Hp, z = hp_up k13 (x) (.inr (11, [.ref (x + 1), .ref (x + 19), .int 0, .ref (x + 37), .null, .null, .null, .null].set 4 (.ref (x + 41)))) := ⟨_, rfl⟩
  rw [← ek14]
  have ok14 : ∀ a, a ≠ x → k14.2 a = k13.2 a := fun a y1 => by rw [ek14]; exact hu_n y1
  have ho : k14.2 (x) = some (.inr (11, [.ref (x + 1), .ref (x + 19), .int 0, .ref (x + 37), .ref (x + 41), .null, .null, .null])) := by rw [ek14]; exact hu_s
  have K : ∀ a, a < x → k14.2 a = h.2 a := fun a y1 => (ok14 a (Nat.ne_of_lt y1)).trans (K a y1)
  have Z : k14.1 = x + 43 := by rw [ek14]; exact Z
  have s1 := s1.same (fun a ha => ok14 a (a_s0 ha (by decide)))
  have s19 := s19.same (fun a ha => ok14 a (a_s0 ha (by decide)))
  have c37 := fun j hj => (ok14 _ (a_j0 (by decide))).trans (c37 j hj)
  have r41 := r41.same (fun a ha => ok14 a (a_s0 ha (by decide)))
  refine aw_aload_n B 0 rfl dX11_init_57 rfl ?_
  refine aw_new B 10 3780 nw_X11_41 dX11_init_58 (by decide) (by decide) ?_
  rw [show k14.1 = x + 43 from Z]
  obtain ⟨k15, ek15⟩ : ∃ z : Hp, z = hp_new k14 (.inr (4, [.null, .null, .int 0, .null, .null, .null, .null, .int 0])) := ⟨_, rfl⟩
  rw [← ek15]
  have ok15 : ∀ a, a ≠ x + 43 → k15.2 a = k14.2 a := fun a y1 => by rw [ek15]; exact hn_n (by rw [Z]; exact y1)
  have f43 : k15.2 (x + 43) = some (.inr (4, [.null, .null, .int 0, .null, .null, .null, .null, .int 0])) := by rw [ek15, ← Z]; exact hn_s
  have ho := (ok15 _ (a_n0 (by decide))).trans ho
  have K : ∀ a, a < x → k15.2 a = h.2 a := fun a y1 => (ok15 a (a_k y1)).trans (K a y1)
  have Z : k15.1 = x + 44 := by rw [ek15]; show k14.1 + 1 = _; rw [Z]
  have s1 := s1.same (fun a ha => ok15 a (a_sn 18 ha (by decide)))
  have s19 := s19.same (fun a ha => ok15 a (a_sn 18 ha (by decide)))
  have c37 := fun j hj => (ok15 _ (a_jn hj (by decide))).trans (c37 j hj)
  have r41 := r41.same (fun a ha => ok15 a (a_sn 2 ha (by decide)))
  refine aw_dup B rfl dX11_init_61 ?_
  refine aw_callIN B 6 1898 (c_ord _ _ _ (x + 43) Z f43) co_X4_init rfl k_X11_43 dX11_init_62 rfl rfl (Nat.le_of_ble_eq_true rfl) (zrc hr (by decide)) (Nat.le_refl _) (Nat.le_refl _) (kV fun k16 hpk16 => ?_)
  obtain ⟨Zk16, w43, ok16⟩ := hpk16
  have ho := (ok16 _ (a_l0 (by decide))).trans ho
  have K : ∀ a, a < x → k16.2 a = h.2 a := fun a y1 => (ok16 a (a_kl y1)).trans (K a y1)
  have Z : k16.1 = x + 48 := Zk16
  have s1 := s1.same (fun a ha => ok16 a (a_sl 18 ha (by decide)))
  have s19 := s19.same (fun a ha => ok16 a (a_sl 18 ha (by decide)))
  have c37 := fun j hj => (ok16 _ (a_jl hj (by decide))).trans (c37 j hj)
  have r41 := r41.same (fun a ha => ok16 a (a_sl 2 ha (by decide)))
  refine aw_putF B rfl f_X11_44 nlk_X11_44 dX11_init_65 ho rfl rfl (by show 5 < 8; decide) ?_
  obtain ⟨k17, ek17⟩ : ∃ z : Hp, z = hp_up k16 (x) (.inr (11, [.ref (x + 1), .ref (x + 19), .int 0, .ref (x + 37), .ref (x + 41), .null, .null, .null].set 5 (.ref (x + 43)))) := ⟨_, rfl⟩
  rw [← ek17]
  have ok17 : ∀ a, a ≠ x → k17.2 a = k16.2 a := fun a y1 => by rw [ek17]; exact hu_n y1
  have ho : k17.2 (x) = some (.inr (11, [.ref (x + 1), .ref (x + 19), .int 0, .ref (x + 37), .ref (x + 41), .ref (x + 43), .null, .null])) := by rw [ek17]; exact hu_s
  have K : ∀ a, a < x → k17.2 a = h.2 a := fun a y1 => (ok17 a (Nat.ne_of_lt y1)).trans (K a y1)
  have Z : k17.1 = x + 48 := by rw [ek17]; exact Z
  have s1 := s1.same (fun a ha => ok17 a (a_s0 ha (by decide)))
  have s19 := s19.same (fun a ha => ok17 a (a_s0 ha (by decide)))
  have c37 := fun j hj => (ok17 _ (a_j0 (by decide))).trans (c37 j hj)
  have r41 := r41.same (fun a ha => ok17 a (a_s0 ha (by decide)))
  have w43 := w43.same (fun a ha => ok17 a (a_s0 ha (by decide)))
  refine aw_aload_n B 0 rfl dX11_init_68 rfl ?_
  refine aw_new B 5 1890 nw_X11_41 dX11_init_69 (by decide) (by decide) ?_
  rw [show k17.1 = x + 48 from Z]
  obtain ⟨k18, ek18⟩ : ∃ z : Hp, z = hp_new k17 (.inr (4, [.null, .null, .int 0, .null, .null, .null, .null, .int 0])) := ⟨_, rfl⟩
  rw [← ek18]
  have ok18 : ∀ a, a ≠ x + 48 → k18.2 a = k17.2 a := fun a y1 => by rw [ek18]; exact hn_n (by rw [Z]; exact y1)
  have f48 : k18.2 (x + 48) = some (.inr (4, [.null, .null, .int 0, .null, .null, .null, .null, .int 0])) := by rw [ek18, ← Z]; exact hn_s
  have ho := (ok18 _ (a_n0 (by decide))).trans ho
  have K : ∀ a, a < x → k18.2 a = h.2 a := fun a y1 => (ok18 a (a_k y1)).trans (K a y1)
  have Z : k18.1 = x + 49 := by rw [ek18]; show k17.1 + 1 = _; rw [Z]
  have s1 := s1.same (fun a ha => ok18 a (a_sn 18 ha (by decide)))
  have s19 := s19.same (fun a ha => ok18 a (a_sn 18 ha (by decide)))
  have c37 := fun j hj => (ok18 _ (a_jn hj (by decide))).trans (c37 j hj)
  have r41 := r41.same (fun a ha => ok18 a (a_sn 2 ha (by decide)))
  have w43 := w43.same (fun a ha => ok18 a (a_sn 5 ha (by decide)))
  refine aw_dup B rfl dX11_init_72 ?_
  refine aw_callIN B 1 8 (c_ord _ _ _ (x + 48) Z f48) co_X4_init rfl k_X11_43 dX11_init_73 rfl rfl (Nat.le_of_ble_eq_true rfl) (zrc hr (by decide)) (Nat.le_refl _) (Nat.le_refl _) (kV fun k19 hpk19 => ?_)
  obtain ⟨Zk19, w48, ok19⟩ := hpk19
  have ho := (ok19 _ (a_l0 (by decide))).trans ho
  have K : ∀ a, a < x → k19.2 a = h.2 a := fun a y1 => (ok19 a (a_kl y1)).trans (K a y1)
  have Z : k19.1 = x + 53 := Zk19
  have s1 := s1.same (fun a ha => ok19 a (a_sl 18 ha (by decide)))
  have s19 := s19.same (fun a ha => ok19 a (a_sl 18 ha (by decide)))
  have c37 := fun j hj => (ok19 _ (a_jl hj (by decide))).trans (c37 j hj)
  have r41 := r41.same (fun a ha => ok19 a (a_sl 2 ha (by decide)))
  have w43 := w43.same (fun a ha => ok19 a (a_sl 5 ha (by decide)))
  refine aw_putF B rfl f_X11_48 nlk_X11_48 dX11_init_76 ho rfl rfl (by show 6 < 8; decide) ?_
  obtain ⟨k20, ek20⟩ : ∃ z : Hp, z = hp_up k19 (x) (.inr (11, [.ref (x + 1), .ref (x + 19), .int 0, .ref (x + 37), .ref (x + 41), .ref (x + 43), .null, .null].set 6 (.ref (x + 48)))) := ⟨_, rfl⟩
  rw [← ek20]
  have ok20 : ∀ a, a ≠ x → k20.2 a = k19.2 a := fun a y1 => by rw [ek20]; exact hu_n y1
  have ho : k20.2 (x) = some (.inr (11, [.ref (x + 1), .ref (x + 19), .int 0, .ref (x + 37), .ref (x + 41), .ref (x + 43), .ref (x + 48), .null])) := by rw [ek20]; exact hu_s
  have K : ∀ a, a < x → k20.2 a = h.2 a := fun a y1 => (ok20 a (Nat.ne_of_lt y1)).trans (K a y1)
  have Z : k20.1 = x + 53 := by rw [ek20]; exact Z
  have s1 := s1.same (fun a ha => ok20 a (a_s0 ha (by decide)))
  have s19 := s19.same (fun a ha => ok20 a (a_s0 ha (by decide)))
  have c37 := fun j hj => (ok20 _ (a_j0 (by decide))).trans (c37 j hj)
  have r41 := r41.same (fun a ha => ok20 a (a_s0 ha (by decide)))
  have w43 := w43.same (fun a ha => ok20 a (a_s0 ha (by decide)))
  have w48 := w48.same (fun a ha => ok20 a (a_s0 ha (by decide)))
  refine aw_aload_n B 0 rfl dX11_init_79 rfl ?_
  refine aw_bipush B 8 (by decide) dX11_init_80 ?_
  refine aw_newi B 8 0 0 dX11_init_82 ari_int (by decide) rfl (by decide) (by decide) (by decide) ?_
  rw [show k20.1 = x + 53 from Z]
  obtain ⟨k21, ek21⟩ : ∃ z : Hp, z = hp_new k20 (.inl ((zXg X).2.2.1.1, 8, .inl (fun _ => 0))) := ⟨_, rfl⟩
  rw [← ek21]
  have ok21 : ∀ a, a ≠ x + 53 → k21.2 a = k20.2 a := fun a y1 => by rw [ek21]; exact hn_n (by rw [Z]; exact y1)
  have f53 : k21.2 (x + 53) = some (.inl ((zXg X).2.2.1.1, 8, .inl (fun _ => 0))) := by rw [ek21, ← Z]; exact hn_s
  have ho := (ok21 _ (a_n0 (by decide))).trans ho
  have K : ∀ a, a < x → k21.2 a = h.2 a := fun a y1 => (ok21 a (a_k y1)).trans (K a y1)
  have Z : k21.1 = x + 54 := by rw [ek21]; show k20.1 + 1 = _; rw [Z]
  have s1 := s1.same (fun a ha => ok21 a (a_sn 18 ha (by decide)))
  have s19 := s19.same (fun a ha => ok21 a (a_sn 18 ha (by decide)))
  have c37 := fun j hj => (ok21 _ (a_jn hj (by decide))).trans (c37 j hj)
  have r41 := r41.same (fun a ha => ok21 a (a_sn 2 ha (by decide)))
  have w43 := w43.same (fun a ha => ok21 a (a_sn 5 ha (by decide)))
  have w48 := w48.same (fun a ha => ok21 a (a_sn 5 ha (by decide)))
  refine aw_putF B rfl f_X11_51 nlk_X11_51 dX11_init_84 ho rfl rfl (by show 7 < 8; decide) ?_
  obtain ⟨k22, ek22⟩ : ∃ z : Hp, z = hp_up k21 (x) (.inr (11, [.ref (x + 1), .ref (x + 19), .int 0, .ref (x + 37), .ref (x + 41), .ref (x + 43), .ref (x + 48), .null].set 7 (.ref (x + 53)))) := ⟨_, rfl⟩
  rw [← ek22]
  have ok22 : ∀ a, a ≠ x → k22.2 a = k21.2 a := fun a y1 => by rw [ek22]; exact hu_n y1
  have ho : k22.2 (x) = some (.inr (11, [.ref (x + 1), .ref (x + 19), .int 0, .ref (x + 37), .ref (x + 41), .ref (x + 43), .ref (x + 48), .ref (x + 53)])) := by rw [ek22]; exact hu_s
  have K : ∀ a, a < x → k22.2 a = h.2 a := fun a y1 => (ok22 a (Nat.ne_of_lt y1)).trans (K a y1)
  have Z : k22.1 = x + 54 := by rw [ek22]; exact Z
  have s1 := s1.same (fun a ha => ok22 a (a_s0 ha (by decide)))
  have s19 := s19.same (fun a ha => ok22 a (a_s0 ha (by decide)))
  have c37 := fun j hj => (ok22 _ (a_j0 (by decide))).trans (c37 j hj)
  have r41 := r41.same (fun a ha => ok22 a (a_s0 ha (by decide)))
  have w43 := w43.same (fun a ha => ok22 a (a_s0 ha (by decide)))
  have w48 := w48.same (fun a ha => ok22 a (a_s0 ha (by decide)))
  have f53 := (ok22 _ (a_0n (by decide))).trans f53
  refine aw_vret B rfl dX11_init_87 ?_
  exact ⟨rfl, Z, ⟨Or.inl ⟨rfl, rfl⟩, ho, s1.st, s19.st, (cave0 c37).X, rw0 r41, w43, w48, ⟨_, f53⟩, iv0, iv0, Or.inl rfl⟩, K⟩
def A00 : Nat → Nat → Int32 := fun j => if j = 1 then S00 else fun _ => 0
theorem hM_of {g : zG} {h : Hp} {m : Nat} {F : Nat → Int32} {A : Nat → Nat → Int32} (p : ∀ j, j < 10 → h.2 (m + j) = some (mcell g m F A j)) : hM g h m F A = h := by
  refine Prod.ext rfl (funext fun a => ?_)
  show (if m ≤ a ∧ a < m + 10 then some (mcell g m F A (a - m)) else h.2 a) = h.2 a
  by_cases c : m ≤ a ∧ a < m + 10
  · rw [if_pos c]
    have := p (a - m) (by omega)
    rw [show m + (a - m) = a by omega] at this
    exact this.symm
  · rw [if_neg c]
theorem dX12_init_0 : decode cX12_init 0 = .ok (.aload_n 0, 1) := by decide +kernel
theorem dX12_init_1 : decode cX12_init 1 = .ok (.invokespecial 3, 3) := by decide +kernel
theorem dX12_init_4 : decode cX12_init 4 = .ok (.aload_n 0, 1) := by decide +kernel
theorem dX12_init_5 : decode cX12_init 5 = .ok (.sipush 899, 3) := by decide +kernel
theorem dX12_init_8 : decode cX12_init 8 = .ok (.newarray .int, 2) := by decide +kernel
theorem dX12_init_10 : decode cX12_init 10 = .ok (.putfield 9, 3) := by decide +kernel
theorem dX12_init_13 : decode cX12_init 13 = .ok (.aload_n 0, 1) := by decide +kernel
theorem dX12_init_14 : decode cX12_init 14 = .ok (.sipush 899, 3) := by decide +kernel
theorem dX12_init_17 : decode cX12_init 17 = .ok (.newarray .int, 2) := by decide +kernel
theorem dX12_init_19 : decode cX12_init 19 = .ok (.putfield 15, 3) := by decide +kernel
theorem dX12_init_22 : decode cX12_init 22 = .ok (.aload_n 0, 1) := by decide +kernel
theorem dX12_init_23 : decode cX12_init 23 = .ok (.iconst 3, 1) := by decide +kernel
theorem dX12_init_24 : decode cX12_init 24 = .ok (.newarray .int, 2) := by decide +kernel
theorem dX12_init_26 : decode cX12_init 26 = .ok (.putfield 18, 3) := by decide +kernel
theorem dX12_init_29 : decode cX12_init 29 = .ok (.aload_n 0, 1) := by decide +kernel
theorem dX12_init_30 : decode cX12_init 30 = .ok (.bipush 64, 2) := by decide +kernel
theorem dX12_init_32 : decode cX12_init 32 = .ok (.newarray .boolean, 2) := by decide +kernel
theorem dX12_init_34 : decode cX12_init 34 = .ok (.putfield 21, 3) := by decide +kernel
theorem dX12_init_37 : decode cX12_init 37 = .ok (.aload_n 0, 1) := by decide +kernel
theorem dX12_init_38 : decode cX12_init 38 = .ok (.sipush 402, 3) := by decide +kernel
theorem dX12_init_41 : decode cX12_init 41 = .ok (.newarray .int, 2) := by decide +kernel
theorem dX12_init_43 : decode cX12_init 43 = .ok (.putfield 25, 3) := by decide +kernel
theorem dX12_init_46 : decode cX12_init 46 = .ok (.aload_n 0, 1) := by decide +kernel
theorem dX12_init_47 : decode cX12_init 47 = .ok (.sipush 8688, 3) := by decide +kernel
theorem dX12_init_50 : decode cX12_init 50 = .ok (.newarray .int, 2) := by decide +kernel
theorem dX12_init_52 : decode cX12_init 52 = .ok (.putfield 28, 3) := by decide +kernel
theorem dX12_init_55 : decode cX12_init 55 = .ok (.aload_n 0, 1) := by decide +kernel
theorem dX12_init_56 : decode cX12_init 56 = .ok (.bipush 6, 2) := by decide +kernel
theorem dX12_init_58 : decode cX12_init 58 = .ok (.newarray .int, 2) := by decide +kernel
theorem dX12_init_60 : decode cX12_init 60 = .ok (.putfield 31, 3) := by decide +kernel
theorem dX12_init_63 : decode cX12_init 63 = .ok (.aload_n 0, 1) := by decide +kernel
theorem dX12_init_64 : decode cX12_init 64 = .ok (.bipush 6, 2) := by decide +kernel
theorem dX12_init_66 : decode cX12_init 66 = .ok (.newarray .int, 2) := by decide +kernel
theorem dX12_init_68 : decode cX12_init 68 = .ok (.putfield 34, 3) := by decide +kernel
theorem dX12_init_71 : decode cX12_init 71 = .ok (.aload_n 0, 1) := by decide +kernel
theorem dX12_init_72 : decode cX12_init 72 = .ok (.bipush 20, 2) := by decide +kernel
theorem dX12_init_74 : decode cX12_init 74 = .ok (.newarray .int, 2) := by decide +kernel
theorem dX12_init_76 : decode cX12_init 76 = .ok (.putfield 37, 3) := by decide +kernel
theorem dX12_init_79 : decode cX12_init 79 = .ok (.aload_n 0, 1) := by decide +kernel
theorem dX12_init_80 : decode cX12_init 80 = .ok (.getfield 9, 3) := by decide +kernel
theorem dX12_init_83 : decode cX12_init 83 = .ok (.bipush 7, 2) := by decide +kernel
theorem dX12_init_85 : decode cX12_init 85 = .ok (.iconst (-1), 1) := by decide +kernel
theorem dX12_init_86 : decode cX12_init 86 = .ok (.iastore, 1) := by decide +kernel
theorem dX12_init_87 : decode cX12_init 87 = .ok (.return_, 1) := by decide +kernel
theorem nlk_X12_9 : ∀ q ∈ zNF, ¬ (q.1 = "LowWaterModel" ∧ q.2.1 = 9) := by decide +kernel
theorem nlk_X12_15 : ∀ q ∈ zNF, ¬ (q.1 = "LowWaterModel" ∧ q.2.1 = 15) := by decide +kernel
theorem nlk_X12_18 : ∀ q ∈ zNF, ¬ (q.1 = "LowWaterModel" ∧ q.2.1 = 18) := by decide +kernel
theorem nlk_X12_21 : ∀ q ∈ zNF, ¬ (q.1 = "LowWaterModel" ∧ q.2.1 = 21) := by decide +kernel
theorem nlk_X12_25 : ∀ q ∈ zNF, ¬ (q.1 = "LowWaterModel" ∧ q.2.1 = 25) := by decide +kernel
theorem nlk_X12_28 : ∀ q ∈ zNF, ¬ (q.1 = "LowWaterModel" ∧ q.2.1 = 28) := by decide +kernel
theorem nlk_X12_31 : ∀ q ∈ zNF, ¬ (q.1 = "LowWaterModel" ∧ q.2.1 = 31) := by decide +kernel
theorem nlk_X12_34 : ∀ q ∈ zNF, ¬ (q.1 = "LowWaterModel" ∧ q.2.1 = 34) := by decide +kernel
theorem nlk_X12_37 : ∀ q ∈ zNF, ¬ (q.1 = "LowWaterModel" ∧ q.2.1 = 37) := by decide +kernel
set_option maxRecDepth 100000 in
set_option maxHeartbeats 4000000 in
theorem c_model (l : Launch) (g : zG) (h : Hp) (m : Nat)  (Z : h.1 = m + 1) (ho : h.2 m = some (.inr (12, [.int 0, .null, .null, .int 0, .int 0, .int 0, .int 0, .int 0, .int 0, .null, .null, .int 0, .int 0, .null, .int 0, .null, .null, .null, .int 0, .null, .int 0, .int 0, .int 0, .int 0]))) : Sp l g yX12_init cX12_init 1 none (rmc 1 9 10987) [.ref m] (h) (zV fun h' => h'.1 = m + 10 ∧ hM g h' m (fun _ => 0) A00 = h' ∧ ∀ a, a < m → h'.2 a = h.2 a) := by
  refine Sp.of [some (.ref m)] (by decide) (Nat.le_of_ble_eq_true rfl) rfl rfl ?_
  rintro X rfl hr rfl B
  show AW X 9 10987 0 _ _ _ _
  have K : ∀ a, a < m → h.2 a = h.2 a := fun _ _ => rfl
  refine aw_aload_n B 0 rfl dX12_init_0 rfl ?_
  refine aw_objInit B k_X12_3 dX12_init_1 (Nat.le_of_ble_eq_true rfl) (mRo hr (by decide)) ?_
  refine aw_aload_n B 0 rfl dX12_init_4 rfl ?_
  refine aw_sipush B 899 (by decide) dX12_init_5 ?_
  refine aw_newi B 899 8 10088 dX12_init_8 ari_int (by decide) rfl (by decide) (by decide) (by decide) ?_
  rw [show h.1 = m + 1 from Z]
  obtain ⟨k1, ek1⟩ : ∃ z : Hp, z = hp_new h (.inl ((zXg X).2.2.1.1, 899, .inl (fun _ => 0))) := ⟨_, rfl⟩
  rw [← ek1]
  have ok1 : ∀ a, a ≠ m + 1 → k1.2 a = h.2 a := fun a y1 => by rw [ek1]; exact hn_n (by rw [Z]; exact y1)
  have f1 : k1.2 (m + 1) = some (.inl ((zXg X).2.2.1.1, 899, .inl (fun _ => 0))) := by rw [ek1, ← Z]; exact hn_s
  have ho := (ok1 _ (a_n0 (by decide))).trans ho
  have K : ∀ a, a < m → k1.2 a = h.2 a := fun a y1 => (ok1 a (a_k y1)).trans (K a y1)
  have Z : k1.1 = m + 2 := by rw [ek1]; show h.1 + 1 = _; rw [Z]
  refine aw_putF B rfl f_X12_9 nlk_X12_9 dX12_init_10 ho rfl rfl (by show 1 < 24; decide) ?_
  obtain ⟨k2, ek2⟩ : ∃ z : Hp, z = hp_up k1 (m) (.inr (12, [.int 0, .null, .null, .int 0, .int 0, .int 0, .int 0, .int 0, .int 0, .null, .null, .int 0, .int 0, .null, .int 0, .null, .null, .null, .int 0, .null, .int 0, .int 0, .int 0, .int 0].set 1 (.ref (m + 1)))) := ⟨_, rfl⟩
  rw [← ek2]
  have ok2 : ∀ a, a ≠ m → k2.2 a = k1.2 a := fun a y1 => by rw [ek2]; exact hu_n y1
  have ho : k2.2 (m) = some (.inr (12, [.int 0, .ref (m + 1), .null, .int 0, .int 0, .int 0, .int 0, .int 0, .int 0, .null, .null, .int 0, .int 0, .null, .int 0, .null, .null, .null, .int 0, .null, .int 0, .int 0, .int 0, .int 0])) := by rw [ek2]; exact hu_s
  have K : ∀ a, a < m → k2.2 a = h.2 a := fun a y1 => (ok2 a (Nat.ne_of_lt y1)).trans (K a y1)
  have Z : k2.1 = m + 2 := by rw [ek2]; exact Z
  have f1 := (ok2 _ (a_0n (by decide))).trans f1
  refine aw_aload_n B 0 rfl dX12_init_13 rfl ?_
  refine aw_sipush B 899 (by decide) dX12_init_14 ?_
  refine aw_newi B 899 7 9189 dX12_init_17 ari_int (by decide) rfl (by decide) (by decide) (by decide) ?_
  rw [show k2.1 = m + 2 from Z]
  obtain ⟨k3, ek3⟩ : ∃ z : Hp, z = hp_new k2 (.inl ((zXg X).2.2.1.1, 899, .inl (fun _ => 0))) := ⟨_, rfl⟩
  rw [← ek3]
  have ok3 : ∀ a, a ≠ m + 2 → k3.2 a = k2.2 a := fun a y1 => by rw [ek3]; exact hn_n (by rw [Z]; exact y1)
  have f2 : k3.2 (m + 2) = some (.inl ((zXg X).2.2.1.1, 899, .inl (fun _ => 0))) := by rw [ek3, ← Z]; exact hn_s
  have ho := (ok3 _ (a_n0 (by decide))).trans ho
  have K : ∀ a, a < m → k3.2 a = h.2 a := fun a y1 => (ok3 a (a_k y1)).trans (K a y1)
  have Z : k3.1 = m + 3 := by rw [ek3]; show k2.1 + 1 = _; rw [Z]
  have f1 := (ok3 _ (a_ne (by decide))).trans f1
  refine aw_putF B rfl f_X12_15 nlk_X12_15 dX12_init_19 ho rfl rfl (by show 2 < 24; decide) ?_
  obtain ⟨k4, ek4⟩ : ∃ z : Hp, z = hp_up k3 (m) (.inr (12, [.int 0, .ref (m + 1), .null, .int 0, .int 0, .int 0, .int 0, .int 0, .int 0, .null, .null, .int 0, .int 0, .null, .int 0, .null, .null, .null, .int 0, .null, .int 0, .int 0, .int 0, .int 0].set 2 (.ref (m + 2)))) := ⟨_, rfl⟩
  rw [← ek4]
  have ok4 : ∀ a, a ≠ m → k4.2 a = k3.2 a := fun a y1 => by rw [ek4]; exact hu_n y1
  have ho : k4.2 (m) = some (.inr (12, [.int 0, .ref (m + 1), .ref (m + 2), .int 0, .int 0, .int 0, .int 0, .int 0, .int 0, .null, .null, .int 0, .int 0, .null, .int 0, .null, .null, .null, .int 0, .null, .int 0, .int 0, .int 0, .int 0])) := by rw [ek4]; exact hu_s
  have K : ∀ a, a < m → k4.2 a = h.2 a := fun a y1 => (ok4 a (Nat.ne_of_lt y1)).trans (K a y1)
  have Z : k4.1 = m + 3 := by rw [ek4]; exact Z
  have f1 := (ok4 _ (a_0n (by decide))).trans f1
  have f2 := (ok4 _ (a_0n (by decide))).trans f2
  refine aw_aload_n B 0 rfl dX12_init_22 rfl ?_
  refine aw_iconst B 3 (by decide) dX12_init_23 ?_
  refine aw_newi B 3 6 9186 dX12_init_24 ari_int (by decide) rfl (by decide) (by decide) (by decide) ?_
  rw [show k4.1 = m + 3 from Z]
  obtain ⟨k5, ek5⟩ : ∃ z : Hp, z = hp_new k4 (.inl ((zXg X).2.2.1.1, 3, .inl (fun _ => 0))) := ⟨_, rfl⟩
  rw [← ek5]
  have ok5 : ∀ a, a ≠ m + 3 → k5.2 a = k4.2 a := fun a y1 => by rw [ek5]; exact hn_n (by rw [Z]; exact y1)
  have f3 : k5.2 (m + 3) = some (.inl ((zXg X).2.2.1.1, 3, .inl (fun _ => 0))) := by rw [ek5, ← Z]; exact hn_s
  have ho := (ok5 _ (a_n0 (by decide))).trans ho
  have K : ∀ a, a < m → k5.2 a = h.2 a := fun a y1 => (ok5 a (a_k y1)).trans (K a y1)
  have Z : k5.1 = m + 4 := by rw [ek5]; show k4.1 + 1 = _; rw [Z]
  have f1 := (ok5 _ (a_ne (by decide))).trans f1
  have f2 := (ok5 _ (a_ne (by decide))).trans f2
  refine aw_putF B rfl f_X12_18 nlk_X12_18 dX12_init_26 ho rfl rfl (by show 9 < 24; decide) ?_
  obtain ⟨k6, ek6⟩ : ∃ z : Hp, z = hp_up k5 (m) (.inr (12, [.int 0, .ref (m + 1), .ref (m + 2), .int 0, .int 0, .int 0, .int 0, .int 0, .int 0, .null, .null, .int 0, .int 0, .null, .int 0, .null, .null, .null, .int 0, .null, .int 0, .int 0, .int 0, .int 0].set 9 (.ref (m + 3)))) := ⟨_, rfl⟩
  rw [← ek6]
  have ok6 : ∀ a, a ≠ m → k6.2 a = k5.2 a := fun a y1 => by rw [ek6]; exact hu_n y1
  have ho : k6.2 (m) = some (.inr (12, [.int 0, .ref (m + 1), .ref (m + 2), .int 0, .int 0, .int 0, .int 0, .int 0, .int 0, .ref (m + 3), .null, .int 0, .int 0, .null, .int 0, .null, .null, .null, .int 0, .null, .int 0, .int 0, .int 0, .int 0])) := by rw [ek6]; exact hu_s
  have K : ∀ a, a < m → k6.2 a = h.2 a := fun a y1 => (ok6 a (Nat.ne_of_lt y1)).trans (K a y1)
  have Z : k6.1 = m + 4 := by rw [ek6]; exact Z
  have f1 := (ok6 _ (a_0n (by decide))).trans f1
  have f2 := (ok6 _ (a_0n (by decide))).trans f2
  have f3 := (ok6 _ (a_0n (by decide))).trans f3
  refine aw_aload_n B 0 rfl dX12_init_29 rfl ?_
  refine aw_bipush B 64 (by decide) dX12_init_30 ?_
  refine aw_newz B 64 5 9122 dX12_init_32 ari_bool (by decide) rfl (by decide) (by decide) (by decide) ?_
  rw [show k6.1 = m + 4 from Z]
  obtain ⟨k7, ek7⟩ : ∃ z : Hp, z = hp_new k6 (.inl ((zXg X).2.2.1.2.1, 64, .inl (fun _ => 0))) := ⟨_, rfl⟩
  rw [← ek7]
  have ok7 : ∀ a, a ≠ m + 4 → k7.2 a = k6.2 a := fun a y1 => by rw [ek7]; exact hn_n (by rw [Z]; exact y1)
  have f4 : k7.2 (m + 4) = some (.inl ((zXg X).2.2.1.2.1, 64, .inl (fun _ => 0))) := by rw [ek7, ← Z]; exact hn_s
  have ho := (ok7 _ (a_n0 (by decide))).trans ho
  have K : ∀ a, a < m → k7.2 a = h.2 a := fun a y1 => (ok7 a (a_k y1)).trans (K a y1)
  have Z : k7.1 = m + 5 := by rw [ek7]; show k6.1 + 1 = _; rw [Z]
  have f1 := (ok7 _ (a_ne (by decide))).trans f1
  have f2 := (ok7 _ (a_ne (by decide))).trans f2
  have f3 := (ok7 _ (a_ne (by decide))).trans f3
  refine aw_putF B rfl f_X12_21 nlk_X12_21 dX12_init_34 ho rfl rfl (by show 10 < 24; decide) ?_
  obtain ⟨k8, ek8⟩ : ∃ z : Hp, z = hp_up k7 (m) (.inr (12, [.int 0, .ref (m + 1), .ref (m + 2), .int 0, .int 0, .int 0, .int 0, .int 0, .int 0, .ref (m + 3), .null, .int 0, .int 0, .null, .int 0, .null, .null, .null, .int 0, .null, .int 0, .int 0, .int 0, .int 0].set 10 (.ref (m + 4)))) := ⟨_, rfl⟩
  rw [← ek8]
  have ok8 : ∀ a, a ≠ m → k8.2 a = k7.2 a := fun a y1 => by rw [ek8]; exact hu_n y1
  have ho : k8.2 (m) = some (.inr (12, [.int 0, .ref (m + 1), .ref (m + 2), .int 0, .int 0, .int 0, .int 0, .int 0, .int 0, .ref (m + 3), .ref (m + 4), .int 0, .int 0, .null, .int 0, .null, .null, .null, .int 0, .null, .int 0, .int 0, .int 0, .int 0])) := by rw [ek8]; exact hu_s
  have K : ∀ a, a < m → k8.2 a = h.2 a := fun a y1 => (ok8 a (Nat.ne_of_lt y1)).trans (K a y1)
  have Z : k8.1 = m + 5 := by rw [ek8]; exact Z
  have f1 := (ok8 _ (a_0n (by decide))).trans f1
  have f2 := (ok8 _ (a_0n (by decide))).trans f2
  have f3 := (ok8 _ (a_0n (by decide))).trans f3
  have f4 := (ok8 _ (a_0n (by decide))).trans f4
  refine aw_aload_n B 0 rfl dX12_init_37 rfl ?_
  refine aw_sipush B 402 (by decide) dX12_init_38 ?_
  refine aw_newi B 402 4 8720 dX12_init_41 ari_int (by decide) rfl (by decide) (by decide) (by decide) ?_
  rw [show k8.1 = m + 5 from Z]
  obtain ⟨k9, ek9⟩ : ∃ z : Hp, z = hp_new k8 (.inl ((zXg X).2.2.1.1, 402, .inl (fun _ => 0))) := ⟨_, rfl⟩
  rw [← ek9]
  have ok9 : ∀ a, a ≠ m + 5 → k9.2 a = k8.2 a := fun a y1 => by rw [ek9]; exact hn_n (by rw [Z]; exact y1)
  have f5 : k9.2 (m + 5) = some (.inl ((zXg X).2.2.1.1, 402, .inl (fun _ => 0))) := by rw [ek9, ← Z]; exact hn_s
  have ho := (ok9 _ (a_n0 (by decide))).trans ho
  have K : ∀ a, a < m → k9.2 a = h.2 a := fun a y1 => (ok9 a (a_k y1)).trans (K a y1)
  have Z : k9.1 = m + 6 := by rw [ek9]; show k8.1 + 1 = _; rw [Z]
  have f1 := (ok9 _ (a_ne (by decide))).trans f1
  have f2 := (ok9 _ (a_ne (by decide))).trans f2
  have f3 := (ok9 _ (a_ne (by decide))).trans f3
  have f4 := (ok9 _ (a_ne (by decide))).trans f4
  refine aw_putF B rfl f_X12_25 nlk_X12_25 dX12_init_43 ho rfl rfl (by show 13 < 24; decide) ?_
  obtain ⟨k10, ek10⟩ : ∃ z : Hp, z = hp_up k9 (m) (.inr (12, [.int 0, .ref (m + 1), .ref (m + 2), .int 0, .int 0, .int 0, .int 0, .int 0, .int 0, .ref (m + 3), .ref (m + 4), .int 0, .int 0, .null, .int 0, .null, .null, .null, .int 0, .null, .int 0, .int 0, .int 0, .int 0].set 13 (.ref (m + 5)))) := ⟨_, rfl⟩
  rw [← ek10]
  have ok10 : ∀ a, a ≠ m → k10.2 a = k9.2 a := fun a y1 => by rw [ek10]; exact hu_n y1
  have ho : k10.2 (m) = some (.inr (12, [.int 0, .ref (m + 1), .ref (m + 2), .int 0, .int 0, .int 0, .int 0, .int 0, .int 0, .ref (m + 3), .ref (m + 4), .int 0, .int 0, .ref (m + 5), .int 0, .null, .null, .null, .int 0, .null, .int 0, .int 0, .int 0, .int 0])) := by rw [ek10]; exact hu_s
  have K : ∀ a, a < m → k10.2 a = h.2 a := fun a y1 => (ok10 a (Nat.ne_of_lt y1)).trans (K a y1)
  have Z : k10.1 = m + 6 := by rw [ek10]; exact Z
  have f1 := (ok10 _ (a_0n (by decide))).trans f1
  have f2 := (ok10 _ (a_0n (by decide))).trans f2
  have f3 := (ok10 _ (a_0n (by decide))).trans f3
  have f4 := (ok10 _ (a_0n (by decide))).trans f4
  have f5 := (ok10 _ (a_0n (by decide))).trans f5
  refine aw_aload_n B 0 rfl dX12_init_46 rfl ?_
  refine aw_sipush B 8688 (by decide) dX12_init_47 ?_
  refine aw_newi B 8688 3 32 dX12_init_50 ari_int (by decide) rfl (by decide) (by decide) (by decide) ?_
  rw [show k10.1 = m + 6 from Z]
  obtain ⟨k11, ek11⟩ : ∃ z : Hp, z = hp_new k10 (.inl ((zXg X).2.2.1.1, 8688, .inl (fun _ => 0))) := ⟨_, rfl⟩
  rw [← ek11]
  have ok11 : ∀ a, a ≠ m + 6 → k11.2 a = k10.2 a := fun a y1 => by rw [ek11]; exact hn_n (by rw [Z]; exact y1)
  have f6 : k11.2 (m + 6) = some (.inl ((zXg X).2.2.1.1, 8688, .inl (fun _ => 0))) := by rw [ek11, ← Z]; exact hn_s
  have ho := (ok11 _ (a_n0 (by decide))).trans ho
  have K : ∀ a, a < m → k11.2 a = h.2 a := fun a y1 => (ok11 a (a_k y1)).trans (K a y1)
  have Z : k11.1 = m + 7 := by rw [ek11]; show k10.1 + 1 = _; rw [Z]
  have f1 := (ok11 _ (a_ne (by decide))).trans f1
  have f2 := (ok11 _ (a_ne (by decide))).trans f2
  have f3 := (ok11 _ (a_ne (by decide))).trans f3
  have f4 := (ok11 _ (a_ne (by decide))).trans f4
  have f5 := (ok11 _ (a_ne (by decide))).trans f5
  refine aw_putF B rfl f_X12_28 nlk_X12_28 dX12_init_52 ho rfl rfl (by show 15 < 24; decide) ?_
  obtain ⟨k12, ek12⟩ : ∃ z : Hp, z = hp_up k11 (m) (.inr (12, [.int 0, .ref (m + 1), .ref (m + 2), .int 0, .int 0, .int 0, .int 0, .int 0, .int 0, .ref (m + 3), .ref (m + 4), .int 0, .int 0, .ref (m + 5), .int 0, .null, .null, .null, .int 0, .null, .int 0, .int 0, .int 0, .int 0].set 15 (.ref (m + 6)))) := ⟨_, rfl⟩
  rw [← ek12]
  have ok12 : ∀ a, a ≠ m → k12.2 a = k11.2 a := fun a y1 => by rw [ek12]; exact hu_n y1
  have ho : k12.2 (m) = some (.inr (12, [.int 0, .ref (m + 1), .ref (m + 2), .int 0, .int 0, .int 0, .int 0, .int 0, .int 0, .ref (m + 3), .ref (m + 4), .int 0, .int 0, .ref (m + 5), .int 0, .ref (m + 6), .null, .null, .int 0, .null, .int 0, .int 0, .int 0, .int 0])) := by rw [ek12]; exact hu_s
  have K : ∀ a, a < m → k12.2 a = h.2 a := fun a y1 => (ok12 a (Nat.ne_of_lt y1)).trans (K a y1)
  have Z : k12.1 = m + 7 := by rw [ek12]; exact Z
  have f1 := (ok12 _ (a_0n (by decide))).trans f1
  have f2 := (ok12 _ (a_0n (by decide))).trans f2
  have f3 := (ok12 _ (a_0n (by decide))).trans f3
  have f4 := (ok12 _ (a_0n (by decide))).trans f4
  have f5 := (ok12 _ (a_0n (by decide))).trans f5
  have f6 := (ok12 _ (a_0n (by decide))).trans f6
  refine aw_aload_n B 0 rfl dX12_init_55 rfl ?_
  refine aw_bipush B 6 (by decide) dX12_init_56 ?_
  refine aw_newi B 6 2 26 dX12_init_58 ari_int (by decide) rfl (by decide) (by decide) (by decide) ?_
  rw [show k12.1 = m + 7 from Z]
  obtain ⟨k13, ek13⟩ : ∃ z : Hp, z = hp_new k12 (.inl ((zXg X).2.2.1.1, 6, .inl (fun _ => 0))) := ⟨_, rfl⟩
  rw [← ek13]
  have ok13 : ∀ a, a ≠ m + 7 → k13.2 a = k12.2 a := fun a y1 => by rw [ek13]; exact hn_n (by rw [Z]; exact y1)
  have f7 : k13.2 (m + 7) = some (.inl ((zXg X).2.2.1.1, 6, .inl (fun _ => 0))) := by rw [ek13, ← Z]; exact hn_s
  have ho := (ok13 _ (a_n0 (by decide))).trans ho
  have K : ∀ a, a < m → k13.2 a = h.2 a := fun a y1 => (ok13 a (a_k y1)).trans (K a y1)
  have Z : k13.1 = m + 8 := by rw [ek13]; show k12.1 + 1 = _; rw [Z]
  have f1 := (ok13 _ (a_ne (by decide))).trans f1
  have f2 := (ok13 _ (a_ne (by decide))).trans f2
  have f3 := (ok13 _ (a_ne (by decide))).trans f3
  have f4 := (ok13 _ (a_ne (by decide))).trans f4
  have f5 := (ok13 _ (a_ne (by decide))).trans f5
  have f6 := (ok13 _ (a_ne (by decide))).trans f6
  refine aw_putF B rfl f_X12_31 nlk_X12_31 dX12_init_60 ho rfl rfl (by show 16 < 24; decide) ?_
  obtain ⟨k14, ek14⟩ : ∃ z : Hp, z = hp_up k13 (m) (.inr (12, [.int 0, .ref (m + 1), .ref (m + 2), .int 0, .int 0, .int 0, .int 0, .int 0, .int 0, .ref (m + 3), .ref (m + 4), .int 0, .int 0, .ref (m + 5), .int 0, .ref (m + 6), .null, .null, .int 0, .null, .int 0, .int 0, .int 0, .int 0].set 16 (.ref (m + 7)))) := ⟨_, rfl⟩
  rw [← ek14]
  have ok14 : ∀ a, a ≠ m → k14.2 a = k13.2 a := fun a y1 => by rw [ek14]; exact hu_n y1
  have ho : k14.2 (m) = some (.inr (12, [.int 0, .ref (m + 1), .ref (m + 2), .int 0, .int 0, .int 0, .int 0, .int 0, .int 0, .ref (m + 3), .ref (m + 4), .int 0, .int 0, .ref (m + 5), .int 0, .ref (m + 6), .ref (m + 7), .null, .int 0, .null, .int 0, .int 0, .int 0, .int 0])) := by rw [ek14]; exact hu_s
  have K : ∀ a, a < m → k14.2 a = h.2 a := fun a y1 => (ok14 a (Nat.ne_of_lt y1)).trans (K a y1)
  have Z : k14.1 = m + 8 := by rw [ek14]; exact Z
  have f1 := (ok14 _ (a_0n (by decide))).trans f1
  have f2 := (ok14 _ (a_0n (by decide))).trans f2
  have f3 := (ok14 _ (a_0n (by decide))).trans f3
  have f4 := (ok14 _ (a_0n (by decide))).trans f4
  have f5 := (ok14 _ (a_0n (by decide))).trans f5
  have f6 := (ok14 _ (a_0n (by decide))).trans f6
  have f7 := (ok14 _ (a_0n (by decide))).trans f7
  refine aw_aload_n B 0 rfl dX12_init_63 rfl ?_
  refine aw_bipush B 6 (by decide) dX12_init_64 ?_
  refine aw_newi B 6 1 20 dX12_init_66 ari_int (by decide) rfl (by decide) (by decide) (by decide) ?_
  rw [show k14.1 = m + 8 from Z]
  obtain ⟨k15, ek15⟩ : ∃ z : Hp, z = hp_new k14 (.inl ((zXg X).2.2.1.1, 6, .inl (fun _ => 0))) := ⟨_, rfl⟩
  rw [← ek15]
  have ok15 : ∀ a, a ≠ m + 8 → k15.2 a = k14.2 a := fun a y1 => by rw [ek15]; exact hn_n (by rw [Z]; exact y1)
  have f8 : k15.2 (m + 8) = some (.inl ((zXg X).2.2.1.1, 6, .inl (fun _ => 0))) := by rw [ek15, ← Z]; exact hn_s
  have ho := (ok15 _ (a_n0 (by decide))).trans ho
  have K : ∀ a, a < m → k15.2 a = h.2 a := fun a y1 => (ok15 a (a_k y1)).trans (K a y1)
  have Z : k15.1 = m + 9 := by rw [ek15]; show k14.1 + 1 = _; rw [Z]
  have f1 := (ok15 _ (a_ne (by decide))).trans f1
  have f2 := (ok15 _ (a_ne (by decide))).trans f2
  have f3 := (ok15 _ (a_ne (by decide))).trans f3
  have f4 := (ok15 _ (a_ne (by decide))).trans f4
  have f5 := (ok15 _ (a_ne (by decide))).trans f5
  have f6 := (ok15 _ (a_ne (by decide))).trans f6
  have f7 := (ok15 _ (a_ne (by decide))).trans f7
  refine aw_putF B rfl f_X12_34 nlk_X12_34 dX12_init_68 ho rfl rfl (by show 17 < 24; decide) ?_
  obtain ⟨k16, ek16⟩ : ∃ z : Hp, z = hp_up k15 (m) (.inr (12, [.int 0, .ref (m + 1), .ref (m + 2), .int 0, .int 0, .int 0, .int 0, .int 0, .int 0, .ref (m + 3), .ref (m + 4), .int 0, .int 0, .ref (m + 5), .int 0, .ref (m + 6), .ref (m + 7), .null, .int 0, .null, .int 0, .int 0, .int 0, .int 0].set 17 (.ref (m + 8)))) := ⟨_, rfl⟩
  rw [← ek16]
  have ok16 : ∀ a, a ≠ m → k16.2 a = k15.2 a := fun a y1 => by rw [ek16]; exact hu_n y1
  have ho : k16.2 (m) = some (.inr (12, [.int 0, .ref (m + 1), .ref (m + 2), .int 0, .int 0, .int 0, .int 0, .int 0, .int 0, .ref (m + 3), .ref (m + 4), .int 0, .int 0, .ref (m + 5), .int 0, .ref (m + 6), .ref (m + 7), .ref (m + 8), .int 0, .null, .int 0, .int 0, .int 0, .int 0])) := by rw [ek16]; exact hu_s
  have K : ∀ a, a < m → k16.2 a = h.2 a := fun a y1 => (ok16 a (Nat.ne_of_lt y1)).trans (K a y1)
  have Z : k16.1 = m + 9 := by rw [ek16]; exact Z
  have f1 := (ok16 _ (a_0n (by decide))).trans f1
  have f2 := (ok16 _ (a_0n (by decide))).trans f2
  have f3 := (ok16 _ (a_0n (by decide))).trans f3
  have f4 := (ok16 _ (a_0n (by decide))).trans f4
  have f5 := (ok16 _ (a_0n (by decide))).trans f5
  have f6 := (ok16 _ (a_0n (by decide))).trans f6
  have f7 := (ok16 _ (a_0n (by decide))).trans f7
  have f8 := (ok16 _ (a_0n (by decide))).trans f8
  refine aw_aload_n B 0 rfl dX12_init_71 rfl ?_
  refine aw_bipush B 20 (by decide) dX12_init_72 ?_
  refine aw_newi B 20 0 0 dX12_init_74 ari_int (by decide) rfl (by decide) (by decide) (by decide) ?_
  rw [show k16.1 = m + 9 from Z]
  obtain ⟨k17, ek17⟩ : ∃ z : Hp, z = hp_new k16 (.inl ((zXg X).2.2.1.1, 20, .inl (fun _ => 0))) := ⟨_, rfl⟩
  rw [← ek17]
  have ok17 : ∀ a, a ≠ m + 9 → k17.2 a = k16.2 a := fun a y1 => by rw [ek17]; exact hn_n (by rw [Z]; exact y1)
  have f9 : k17.2 (m + 9) = some (.inl ((zXg X).2.2.1.1, 20, .inl (fun _ => 0))) := by rw [ek17, ← Z]; exact hn_s
  have ho := (ok17 _ (a_n0 (by decide))).trans ho
  have K : ∀ a, a < m → k17.2 a = h.2 a := fun a y1 => (ok17 a (a_k y1)).trans (K a y1)
  have Z : k17.1 = m + 10 := by rw [ek17]; show k16.1 + 1 = _; rw [Z]
  have f1 := (ok17 _ (a_ne (by decide))).trans f1
  have f2 := (ok17 _ (a_ne (by decide))).trans f2
  have f3 := (ok17 _ (a_ne (by decide))).trans f3
  have f4 := (ok17 _ (a_ne (by decide))).trans f4
  have f5 := (ok17 _ (a_ne (by decide))).trans f5
  have f6 := (ok17 _ (a_ne (by decide))).trans f6
  have f7 := (ok17 _ (a_ne (by decide))).trans f7
  have f8 := (ok17 _ (a_ne (by decide))).trans f8
  refine aw_putF B rfl f_X12_37 nlk_X12_37 dX12_init_76 ho rfl rfl (by show 19 < 24; decide) ?_
  obtain ⟨k18, ek18⟩ : ∃ z : Hp, z = hp_up k17 (m) (.inr (12, [.int 0, .ref (m + 1), .ref (m + 2), .int 0, .int 0, .int 0, .int 0, .int 0, .int 0, .ref (m + 3), .ref (m + 4), .int 0, .int 0, .ref (m + 5), .int 0, .ref (m + 6), .ref (m + 7), .ref (m + 8), .int 0, .null, .int 0, .int 0, .int 0, .int 0].set 19 (.ref (m + 9)))) := ⟨_, rfl⟩
  rw [← ek18]
  have ok18 : ∀ a, a ≠ m → k18.2 a = k17.2 a := fun a y1 => by rw [ek18]; exact hu_n y1
  have ho : k18.2 (m) = some (.inr (12, [.int 0, .ref (m + 1), .ref (m + 2), .int 0, .int 0, .int 0, .int 0, .int 0, .int 0, .ref (m + 3), .ref (m + 4), .int 0, .int 0, .ref (m + 5), .int 0, .ref (m + 6), .ref (m + 7), .ref (m + 8), .int 0, .ref (m + 9), .int 0, .int 0, .int 0, .int 0])) := by rw [ek18]; exact hu_s
  have K : ∀ a, a < m → k18.2 a = h.2 a := fun a y1 => (ok18 a (Nat.ne_of_lt y1)).trans (K a y1)
  have Z : k18.1 = m + 10 := by rw [ek18]; exact Z
  have f1 := (ok18 _ (a_0n (by decide))).trans f1
  have f2 := (ok18 _ (a_0n (by decide))).trans f2
  have f3 := (ok18 _ (a_0n (by decide))).trans f3
  have f4 := (ok18 _ (a_0n (by decide))).trans f4
  have f5 := (ok18 _ (a_0n (by decide))).trans f5
  have f6 := (ok18 _ (a_0n (by decide))).trans f6
  have f7 := (ok18 _ (a_0n (by decide))).trans f7
  have f8 := (ok18 _ (a_0n (by decide))).trans f8
  have f9 := (ok18 _ (a_0n (by decide))).trans f9
  refine aw_aload_n B 0 rfl dX12_init_79 rfl ?_
  refine aw_get B f_X12_9 dX12_init_80 ho rfl ?_
  refine aw_bipush B 7 (by decide) dX12_init_83 ?_
  refine aw_iconst B (-1) (by decide) dX12_init_85 ?_
  refine aw_iast B dX12_init_86 f1 (show vp_in (7 : Int32) 899 from (show vp_in (nI 7) 899 from vp_in_nI (show 7 < 899 by decide) (by decide))) ?_
  obtain ⟨k19, ek19⟩ : ∃ z : Hp, z = hp_up k18 (m + 1) (.inl ((zXg X).2.2.1.1, 899, .inl S00)) := ⟨_, rfl⟩
  rw [show (upd (fun _ => 0) (Int32.toNatClampNeg 7) (-1) : Nat → Int32) = S00 from rfl, ← ek19]
  have ok19 : ∀ a, a ≠ m + 1 → k19.2 a = k18.2 a := fun a y1 => by rw [ek19]; exact hu_n y1
  have g1 : k19.2 (m + 1) = some (.inl ((zXg X).2.2.1.1, 899, .inl S00)) := by rw [ek19]; exact hu_s
  have ho := (ok19 _ (a_n0 (by decide))).trans ho
  have K : ∀ a, a < m → k19.2 a = h.2 a := fun a y1 => (ok19 a (a_k y1)).trans (K a y1)
  have Z : k19.1 = m + 10 := by rw [ek19]; exact Z
  have f2 := (ok19 _ (a_ne (by decide))).trans f2
  have f3 := (ok19 _ (a_ne (by decide))).trans f3
  have f4 := (ok19 _ (a_ne (by decide))).trans f4
  have f5 := (ok19 _ (a_ne (by decide))).trans f5
  have f6 := (ok19 _ (a_ne (by decide))).trans f6
  have f7 := (ok19 _ (a_ne (by decide))).trans f7
  have f8 := (ok19 _ (a_ne (by decide))).trans f8
  have f9 := (ok19 _ (a_ne (by decide))).trans f9
  refine aw_vret B rfl dX12_init_87 ?_
  exact ⟨rfl, Z, hM_of fun j hj => by
    rcases (show j = 0 ∨ j = 1 ∨ j = 2 ∨ j = 3 ∨ j = 4 ∨ j = 5 ∨ j = 6 ∨ j = 7 ∨ j = 8 ∨ j = 9 by omega) with rfl | rfl | rfl | rfl | rfl | rfl | rfl | rfl | rfl | rfl
    · exact ho
    · exact g1
    · exact f2
    · exact f3
    · exact f4
    · exact f5
    · exact f6
    · exact f7
    · exact f8
    · exact f9, K⟩
