theorem dJ0_length_8abf5_0 : decode cJ0_length_8abf5 0 = .ok (.aload_n 0, 1) := by decide +kernel
theorem dJ0_length_8abf5_1 : decode cJ0_length_8abf5 1 = .ok (.getfield 9, 3) := by decide +kernel
theorem dJ0_length_8abf5_4 : decode cJ0_length_8abf5 4 = .ok (.arraylength, 1) := by decide +kernel
theorem dJ0_length_8abf5_5 : decode cJ0_length_8abf5 5 = .ok (.aload_n 0, 1) := by decide +kernel
theorem dJ0_length_8abf5_6 : decode cJ0_length_8abf5 6 = .ok (.invokevirtual 335, 3) := by decide +kernel
theorem dJ0_length_8abf5_9 : decode cJ0_length_8abf5 9 = .ok (.ishr, 1) := by decide +kernel
theorem dJ0_length_8abf5_10 : decode cJ0_length_8abf5 10 = .ok (.ireturn, 1) := by decide +kernel
theorem dJ0_charAt_5068e_0 : decode cJ0_charAt_5068e 0 = .ok (.aload_n 0, 1) := by decide +kernel
theorem dJ0_charAt_5068e_1 : decode cJ0_charAt_5068e 1 = .ok (.invokevirtual 492, 3) := by decide +kernel
theorem dJ0_charAt_5068e_4 : decode cJ0_charAt_5068e 4 = .ok (.ifCond .eq 12, 3) := by decide +kernel
theorem dJ0_charAt_5068e_7 : decode cJ0_charAt_5068e 7 = .ok (.aload_n 0, 1) := by decide +kernel
theorem dJ0_charAt_5068e_8 : decode cJ0_charAt_5068e 8 = .ok (.getfield 9, 3) := by decide +kernel
theorem dJ0_charAt_5068e_11 : decode cJ0_charAt_5068e 11 = .ok (.iload_n 1, 1) := by decide +kernel
theorem dJ0_charAt_5068e_12 : decode cJ0_charAt_5068e 12 = .ok (.invokestatic 495, 3) := by decide +kernel
theorem dJ0_charAt_5068e_15 : decode cJ0_charAt_5068e 15 = .ok (.ireturn, 1) := by decide +kernel
theorem dJ0_charAt_5068e_16 : decode cJ0_charAt_5068e 16 = .ok (.aload_n 0, 1) := by decide +kernel
theorem dJ0_charAt_5068e_17 : decode cJ0_charAt_5068e 17 = .ok (.getfield 9, 3) := by decide +kernel
theorem dJ0_charAt_5068e_20 : decode cJ0_charAt_5068e 20 = .ok (.iload_n 1, 1) := by decide +kernel
theorem dJ0_charAt_5068e_21 : decode cJ0_charAt_5068e 21 = .ok (.invokestatic 498, 3) := by decide +kernel
theorem dJ0_charAt_5068e_24 : decode cJ0_charAt_5068e 24 = .ok (.ireturn, 1) := by decide +kernel
theorem dJ0_coder_7d493_0 : decode cJ0_coder_7d493 0 = .ok (.getstatic 38, 3) := by decide +kernel
theorem dJ0_coder_7d493_3 : decode cJ0_coder_7d493 3 = .ok (.ifCond .eq 10, 3) := by decide +kernel
theorem dJ0_coder_7d493_6 : decode cJ0_coder_7d493 6 = .ok (.aload_n 0, 1) := by decide +kernel
theorem dJ0_coder_7d493_7 : decode cJ0_coder_7d493 7 = .ok (.getfield 15, 3) := by decide +kernel
theorem dJ0_coder_7d493_10 : decode cJ0_coder_7d493 10 = .ok (.goto 4, 3) := by decide +kernel
theorem dJ0_coder_7d493_13 : decode cJ0_coder_7d493 13 = .ok (.iconst 1, 1) := by decide +kernel
theorem dJ0_coder_7d493_14 : decode cJ0_coder_7d493 14 = .ok (.ireturn, 1) := by decide +kernel
theorem dJ0_isLatin1_aae02_0 : decode cJ0_isLatin1_aae02 0 = .ok (.getstatic 38, 3) := by decide +kernel
theorem dJ0_isLatin1_aae02_3 : decode cJ0_isLatin1_aae02 3 = .ok (.ifCond .eq 14, 3) := by decide +kernel
theorem dJ0_isLatin1_aae02_6 : decode cJ0_isLatin1_aae02 6 = .ok (.aload_n 0, 1) := by decide +kernel
theorem dJ0_isLatin1_aae02_7 : decode cJ0_isLatin1_aae02 7 = .ok (.getfield 15, 3) := by decide +kernel
theorem dJ0_isLatin1_aae02_10 : decode cJ0_isLatin1_aae02 10 = .ok (.ifCond .ne 7, 3) := by decide +kernel
theorem dJ0_isLatin1_aae02_13 : decode cJ0_isLatin1_aae02 13 = .ok (.iconst 1, 1) := by decide +kernel
theorem dJ0_isLatin1_aae02_14 : decode cJ0_isLatin1_aae02 14 = .ok (.goto 4, 3) := by decide +kernel
theorem dJ0_isLatin1_aae02_17 : decode cJ0_isLatin1_aae02 17 = .ok (.iconst 0, 1) := by decide +kernel
theorem dJ0_isLatin1_aae02_18 : decode cJ0_isLatin1_aae02 18 = .ok (.ireturn, 1) := by decide +kernel
theorem dJ0_checkIndex_df160_0 : decode cJ0_checkIndex_df160 0 = .ok (.iload_n 0, 1) := by decide +kernel
theorem dJ0_checkIndex_df160_1 : decode cJ0_checkIndex_df160 1 = .ok (.iload_n 1, 1) := by decide +kernel
theorem dJ0_checkIndex_df160_2 : decode cJ0_checkIndex_df160 2 = .ok (.getstatic 1053, 3) := by decide +kernel
theorem dJ0_checkIndex_df160_5 : decode cJ0_checkIndex_df160 5 = .ok (.invokestatic 1059, 3) := by decide +kernel
theorem dJ0_checkIndex_df160_8 : decode cJ0_checkIndex_df160 8 = .ok (.pop, 1) := by decide +kernel
theorem dJ0_checkIndex_df160_9 : decode cJ0_checkIndex_df160 9 = .ok (.return_, 1) := by decide +kernel
theorem dJ1_charAt_3b067_0 : decode cJ1_charAt_3b067 0 = .ok (.iload_n 1, 1) := by decide +kernel
theorem dJ1_charAt_3b067_1 : decode cJ1_charAt_3b067 1 = .ok (.aload_n 0, 1) := by decide +kernel
theorem dJ1_charAt_3b067_2 : decode cJ1_charAt_3b067 2 = .ok (.arraylength, 1) := by decide +kernel
theorem dJ1_charAt_3b067_3 : decode cJ1_charAt_3b067 3 = .ok (.invokestatic 9, 3) := by decide +kernel
theorem dJ1_charAt_3b067_6 : decode cJ1_charAt_3b067 6 = .ok (.aload_n 0, 1) := by decide +kernel
theorem dJ1_charAt_3b067_7 : decode cJ1_charAt_3b067 7 = .ok (.iload_n 1, 1) := by decide +kernel
theorem dJ1_charAt_3b067_8 : decode cJ1_charAt_3b067 8 = .ok (.baload, 1) := by decide +kernel
theorem dJ1_charAt_3b067_9 : decode cJ1_charAt_3b067 9 = .ok (.sipush 255, 3) := by decide +kernel
theorem dJ1_charAt_3b067_12 : decode cJ1_charAt_3b067 12 = .ok (.iand, 1) := by decide +kernel
theorem dJ1_charAt_3b067_13 : decode cJ1_charAt_3b067 13 = .ok (.i2c, 1) := by decide +kernel
theorem dJ1_charAt_3b067_14 : decode cJ1_charAt_3b067 14 = .ok (.ireturn, 1) := by decide +kernel
theorem dJ3_checkIndex_8e157_0 : decode cJ3_checkIndex_8e157 0 = .ok (.iload_n 0, 1) := by decide +kernel
theorem dJ3_checkIndex_8e157_1 : decode cJ3_checkIndex_8e157 1 = .ok (.ifCond .lt 8, 3) := by decide +kernel
theorem dJ3_checkIndex_8e157_4 : decode cJ3_checkIndex_8e157 4 = .ok (.iload_n 0, 1) := by decide +kernel
theorem dJ3_checkIndex_8e157_5 : decode cJ3_checkIndex_8e157 5 = .ok (.iload_n 1, 1) := by decide +kernel
theorem dJ3_checkIndex_8e157_6 : decode cJ3_checkIndex_8e157 6 = .ok (.if_icmp .lt 10, 3) := by decide +kernel
theorem dJ3_checkIndex_8e157_9 : decode cJ3_checkIndex_8e157 9 = .ok (.aload_n 2, 1) := by decide +kernel
theorem dJ3_checkIndex_8e157_10 : decode cJ3_checkIndex_8e157 10 = .ok (.iload_n 0, 1) := by decide +kernel
theorem dJ3_checkIndex_8e157_11 : decode cJ3_checkIndex_8e157 11 = .ok (.iload_n 1, 1) := by decide +kernel
theorem dJ3_checkIndex_8e157_12 : decode cJ3_checkIndex_8e157 12 = .ok (.invokestatic 95, 3) := by decide +kernel
theorem dJ3_checkIndex_8e157_15 : decode cJ3_checkIndex_8e157 15 = .ok (.athrow, 1) := by decide +kernel
theorem dJ3_checkIndex_8e157_16 : decode cJ3_checkIndex_8e157 16 = .ok (.iload_n 0, 1) := by decide +kernel
theorem dJ3_checkIndex_8e157_17 : decode cJ3_checkIndex_8e157 17 = .ok (.ireturn, 1) := by decide +kernel
theorem sw_val : Cond.fieldLink "java/lang/String" 9 "java/lang/String" "value" "[B" ∈ zT := zT_t (i := 1235) (by decide +kernel) (by decide +kernel)
theorem sw_cod : Cond.fieldLink "java/lang/String" 15 "java/lang/String" "coder" "B" ∈ zT := zT_t (i := 1236) (by decide +kernel) (by decide +kernel)
theorem sw_com : Cond.fieldLink "java/lang/String" 38 "java/lang/String" "COMPACT_STRINGS" "Z" ∈ zT := zT_t (i := 231) (by decide +kernel) (by decide +kernel)
theorem sw_sio : Cond.fieldLink "java/lang/String" 1053 "jdk/internal/util/Preconditions" "SIOOBE_FORMATTER" "Ljava/util/function/BiFunction;" ∈ zT := zT_t (i := 247) (by decide +kernel) (by decide +kernel)
section ZSTR
variable {X : zX} {cc : ByteArray} {nL : Nat} {own nm : String} {ret : Option FieldType} {rc rs pc : Nat} {lv : List (Option Value)} {st : List Value} {h : Hp} {Ko : Option Value → Hp → Prop}
/-- where String constant i lies -/
def sA (g : zG) (i : Nat) : Nat := g.2.2.2.1 i
def sV (g : zG) (i : Nat) : Nat := g.2.2.2.2 i
theorem strK {g : zG} {H : Heap} (a1 : zR g h H) : ∀ a : Nat, a < g.2.1.size → ¬ zb g ≤ a → H[a]? = g.2.1[a]? := fun a ha _ => a1.2.2.1 a ha
theorem aw_strV (B : zB X cc nL own nm ret) {idx i : Nat} (hi : i < 5) (hl : Cond.fieldLink own idx "java/lang/String" "value" "[B" ∈ zT) (hd : decode cc pc = .ok (.getfield idx, 3)) (kk : AW X rc rs (pc + 3) lv (.ref (sV (zXg X) i) :: st) h Ko) : AW X rc rs pc lv (.ref (sA (zXg X) i) :: st) h Ko := by
  intro H locs ls cells slots a1 a2 a3 a4 a5
  obtain ⟨cf, k, fi, f, cell, h1, h2, h3, h4, h5, h6⟩ := va_OF.kept (B.2.2.2.2.2.1.2.2.1.1.1 i hi).2.2.1 (strK a1)
  exact W.getf B.1 B.2.1 B.2.2.2.1 (B.2.2.2.2.1 _ hl) h1 h2 h3 h4 (v := .ref (sV (zXg X) i)) h5 rfl rfl hd (kk H locs ls cells slots a1 a2 a3 a4 a5)
theorem aw_strC (B : zB X cc nL own nm ret) {idx i : Nat} (hi : i < 5) (hl : Cond.fieldLink own idx "java/lang/String" "coder" "B" ∈ zT) (hd : decode cc pc = .ok (.getfield idx, 3)) (kk : AW X rc rs (pc + 3) lv (.int 0 :: st) h Ko) : AW X rc rs pc lv (.ref (sA (zXg X) i) :: st) h Ko := by
  intro H locs ls cells slots a1 a2 a3 a4 a5
  obtain ⟨cf, k, fi, f, cell, h1, h2, h3, h4, h5, h6⟩ := va_OF.kept (B.2.2.2.2.2.1.2.2.1.1.1 i hi).2.1 (strK a1)
  exact W.getf B.1 B.2.1 B.2.2.2.1 (B.2.2.2.2.1 _ hl) h1 h2 h3 h4 (v := .int 0) h5 rfl rfl hd (kk H locs ls cells slots a1 a2 a3 a4 a5)
theorem aw_strL (B : zB X cc nL own nm ret) {i : Nat} (hi : i < 5) (hd : decode cc pc = .ok (.arraylength, 1)) (kk : AW X rc rs (pc + 1) lv (.int (nI (zLen.getD i 0)) :: st) h Ko) : AW X rc rs pc lv (.ref (sV (zXg X) i) :: st) h Ko := by
  intro H locs ls cells slots a1 a2 a3 a4 a5
  obtain ⟨cell, h1, h2, h3, h4, h5, h6, h7⟩ := va_T.kept (B.2.2.2.2.2.1.2.2.1.1.1 i hi).2.2.2 (strK a1)
  exact W.alen (n := Int32.ofNat (zLen.getD i 0)) B.1 B.2.1 h1 h2 h5 rfl rfl hd (kk H locs ls cells slots a1 a2 a3 a4 a5)
theorem aw_strB (B : zB X cc nL own nm ret) {i k : Nat} (hi : i < 5) (hk : k < zLen.getD i 0) (hd : decode cc pc = .ok (.baload, 1)) (kk : AW X rc rs (pc + 1) lv (.int ((zByt.getD i []).getD k 0) :: st) h Ko) : AW X rc rs pc lv (.int (nI k) :: .ref (sV (zXg X) i) :: st) h Ko := by
  intro H locs ls cells slots a1 a2 a3 a4 a5
  obtain ⟨cell, h1, h2, h3, h4, h5, h6, h7⟩ := va_T.kept (B.2.2.2.2.2.1.2.2.1.1.1 i hi).2.2.2 (strK a1)
  have hl : zLen.getD i 0 < 10 := by
    rcases (show i = 0 ∨ i = 1 ∨ i = 2 ∨ i = 3 ∨ i = 4 by omega) with rfl | rfl | rfl | rfl | rfl <;> decide
  have ek : (nI k).toNatClampNeg = k := nI_clamp (by omega)
  have h0 : ¬ nI k < 0 := Int32.not_lt.mpr (nI_pos' (by omega))
  exact W.bald (v := .int ((zByt.getD i []).getD k 0)) B.1 B.2.1 h1 h2 h3 (by rw [ek]; intro q; rcases q with q | q; exact h0 q; omega) (by rw [ek, h6 _ hk]) rfl rfl hd (kk H locs ls cells slots a1 a2 a3 a4 a5)
theorem aw_strZ (B : zB X cc nL own nm ret) {idx : Nat} (hl : Cond.fieldLink own idx "java/lang/String" "COMPACT_STRINGS" "Z" ∈ zT) (hd : decode cc pc = .ok (.getstatic idx, 3)) (kk : AW X rc rs (pc + 3) lv (.int 1 :: st) h Ko) : AW X rc rs pc lv st h Ko := by
  intro H locs ls cells slots a1 a2 a3 a4 a5
  obtain ⟨cf, kf, fi, f, a, cell, h1, h2, h3, h4, h5, h6, h7, h8⟩ := va_Z.kept B.2.2.2.2.2.1.2.2.1.2.2.1 (strK a1)
  exact W.gets B.1 B.2.1 B.2.2.2.1 (B.2.2.2.2.1 _ hl) h1 h2 h3 h4 h5 (fun e => by rw [e] at h6; cases h6) h7 rfl hd (kk H locs ls cells slots a1 a2 a3 a4 a5)
theorem aw_strF (B : zB X cc nL own nm ret) {idx : Nat} (hl : Cond.fieldLink own idx "jdk/internal/util/Preconditions" "SIOOBE_FORMATTER" "Ljava/util/function/BiFunction;" ∈ zT) (hd : decode cc pc = .ok (.getstatic idx, 3)) (kk : ∀ r : Option Nat, AW X rc rs (pc + 3) lv (va_rf r :: st) h Ko) : AW X rc rs pc lv st h Ko := by
  intro H locs ls cells slots a1 a2 a3 a4 a5
  rcases va_Zq.kept B.2.2.2.2.2.1.2.2.1.2.2.2 (strK a1) with q | ⟨t, q⟩
  · obtain ⟨cf, kf, fi, f, a, cell, h1, h2, h3, h4, h5, h6, h7, h8⟩ := q
    exact W.gets B.1 B.2.1 B.2.2.2.1 (B.2.2.2.2.1 _ hl) h1 h2 h3 h4 h5 (fun e => by rw [e] at h6; cases h6) h7 rfl hd (kk none H locs ls cells slots a1 a2 a3 a4 a5)
  · obtain ⟨cf, kf, fi, f, a, cell, h1, h2, h3, h4, h5, h6, h7, h8⟩ := q
    exact W.gets B.1 B.2.1 B.2.2.2.1 (B.2.2.2.2.1 _ hl) h1 h2 h3 h4 h5 (fun e => by rw [e] at h6; cases h6) h7 rfl hd (kk (some t) H locs ls cells slots a1 a2 a3 a4 a5)
theorem aw_i2c (B : zB X cc nL own nm ret) {x : Int32} (v : Int32) (hv : (x.toUInt32 % 65536).toInt32 = v) (hd : decode cc pc = .ok (.i2c, 1)) (k : AW X rc rs (pc + 1) lv (.int v :: st) h Ko) : AW X rc rs pc lv (.int x :: st) h Ko := fun H locs ls cells slots a1 a2 a3 a4 a5 => lv_i2c B.1 B.2.1 hd hv (k H locs ls cells slots a1 a2 a3 a4 a5)
theorem aw_ldcS (B : zB X cc nL own nm ret) {idx i : Nat} {tx : String} (hz : (own, idx, tx, i) ∈ zSR) (hd : decode cc pc = .ok (.ldc idx, 2)) (kk : AW X rc rs (pc + 2) lv (.ref (sA (zXg X) i) :: st) h Ko) : AW X rc rs pc lv st h Ko := fun H locs ls cells slots a1 a2 a3 a4 a5 =>
  va_ldcS B.1 B.2.1 B.2.2.2.1 (B.2.2.2.2.2.1.2.2.1.2.1 _ hz) hd (kk H locs ls cells slots a1 a2 a3 a4 a5)
/-- invokevirtual on a String constant -/
theorem aw_callStr {idx n maxL i : Nat} {As rest : List Value} {y : MethodName} {cc' : ByteArray} {ret' : Option FieldType} {rm : Room} {Ko' : Option Value → Hp → Prop} (B : zB X cc nL own nm ret) (rc' rs' : Nat) (S : Sp X.1.2.1 (zXg X) y cc' maxL ret' rm (.ref (sA (zXg X) i) :: As) h Ko') (F : zCo y cc' maxL ret' n) (Lk : Cond.methodLink own idx y ∈ zT ∧ Cond.instanceMethod y ∈ zT ∧ Cond.selects y.cls y y ∈ zT) (hd : decode cc pc = .ok (.invokevirtual idx, 3)) (hi : i < 5) (hcn : y.cls = "java/lang/String") (hst : st = As.reverse ++ .ref (sA (zXg X) i) :: rest) (hn : As.length = n) (hw : (rest.map fun v => v.category).sum ≤ 8) (hR : zRoom rm X.2.2.2.2 maxL) (hc : rc' + rm.cells ≤ rc) (hs : rs' + rm.slots ≤ rs)
    (kk : ∀ v h', Ko' v h' → AW X rc' rs' (pc + 3) lv (v.toList ++ rest) h' Ko) : AW X rc rs pc lv st h Ko := by
  refine aw_run (Value.ref (sA (zXg X) i) :: As).toArray rc' rs' hc hs (fun H locs ls cells slots a1 a3 a4 a5 => ?_) kk
  refine va_runV ⟨B.1, B.2.1, B.2.2.1, B.2.2.2.1, B.2.2.2.2.1⟩ S ⟨zcb B F Lk.1 hR, B.2.2.2.2.1 _ Lk.2.1, B.2.2.2.2.1 _ Lk.2.2⟩ ⟨zPc_blind, ?_, zpc B a1⟩ rfl hn (a3.trans B.2.2.1) hst (lv_room hw) hd ⟨a4, a5⟩
  obtain ⟨cell, h1, h2, h3, -⟩ := va_O.kept (B.2.2.2.2.2.1.2.2.1.1.1 i hi).1 (strK a1)
  exact ⟨cell, h1, h2, by rw [hcn]; exact h3⟩
end ZSTR
def sCh (i k : Nat) : Int32 := (zByt.getD i []).getD k 0
theorem sCh_all : ∀ i, i < 5 → ∀ k, k < zLen.getD i 0 → ((sCh i k &&& 255).toUInt32 % 65536).toInt32 = sCh i k ∧ narrow .char (.int (sCh i k)) = .int (sCh i k) := by
  intro i hi
  rcases (show i = 0 ∨ i = 1 ∨ i = 2 ∨ i = 3 ∨ i = 4 by omega) with rfl | rfl | rfl | rfl | rfl
  all_goals
    intro k hk
    have hk : k < 6 := Nat.lt_of_lt_of_le hk (by decide)
    rcases (show k = 0 ∨ k = 1 ∨ k = 2 ∨ k = 3 ∨ k = 4 ∨ k = 5 by omega) with rfl | rfl | rfl | rfl | rfl | rfl <;> decide
theorem zLen_5 : ∀ i, i < 5 → zLen.getD i 0 < 10 ∧ nI (zLen.getD i 0) >>> ((0 : Int32) &&& 31) = nI (zLen.getD i 0) := by decide
set_option maxRecDepth 100000 in
theorem s_coder (l : Launch) (g : zG) (h : Hp) (i : Nat) (hi : i < 5) : Sp l g yJ0_coder_7d493 cJ0_coder_7d493 1 (some .byte) (rmz 1) [.ref (sA g i)] h (zI fun r h' => r = 0 ∧ h' = h) := by
  refine Sp.of [some (.ref (sA g i))] (by decide) (Nat.le_of_ble_eq_true rfl) rfl rfl ?_
  rintro X rfl hr rfl B
  show AW X 0 0 0 _ _ _ _
  refine aw_strZ B sw_com dJ0_coder_7d493_0 ?_
  refine aw_if_eq B 13 dJ0_coder_7d493_3 (fun c => absurd c (by decide)) (fun _ => ?_)
  refine aw_aload_n B 0 rfl dJ0_coder_7d493_6 rfl ?_
  refine aw_strC B hi sw_cod dJ0_coder_7d493_7 ?_
  refine aw_goto B 14 dJ0_coder_7d493_10 ?_
  refine aw_iret B rfl rfl dJ0_coder_7d493_14 ?_
  exact ⟨_, rfl, rfl, rfl⟩
set_option maxRecDepth 100000 in
theorem s_length (l : Launch) (g : zG) (h : Hp) (i : Nat) (hi : i < 5) : Sp l g yJ0_length_8abf5 cJ0_length_8abf5 1 (some .int) (rmz 2) [.ref (sA g i)] h (zI fun r h' => r = nI (zLen.getD i 0) ∧ h' = h) := by
  refine Sp.of [some (.ref (sA g i))] (by decide) (Nat.le_of_ble_eq_true rfl) rfl rfl ?_
  rintro X rfl hr rfl B
  show AW X 0 0 0 _ _ _ _
  refine aw_aload_n B 0 rfl dJ0_length_8abf5_0 rfl ?_
  refine aw_strV B hi sw_val dJ0_length_8abf5_1 ?_
  refine aw_strL B hi dJ0_length_8abf5_4 ?_
  refine aw_aload_n B 0 rfl dJ0_length_8abf5_5 rfl ?_
  refine aw_callStr B 0 0 (s_coder _ _ _ _ hi) co_J0_coder_7d493 k_J0_335 dJ0_length_8abf5_6 hi rfl rfl rfl (Nat.le_of_ble_eq_true rfl) (zrm hr (by decide)) (Nat.le_refl _) (Nat.le_refl _) (kI fun r h2 hp => ?_)
  obtain ⟨rfl, rfl⟩ := hp
  refine aw_ishr B dJ0_length_8abf5_9 ?_
  rw [(zLen_5 i hi).2]
  refine aw_iret B rfl rfl dJ0_length_8abf5_10 ?_
  exact ⟨_, rfl, rfl, rfl⟩
set_option maxRecDepth 100000 in
theorem s_isLatin1 (l : Launch) (g : zG) (h : Hp) (i : Nat) (hi : i < 5) : Sp l g yJ0_isLatin1_aae02 cJ0_isLatin1_aae02 1 (some .boolean) (rmz 1) [.ref (sA g i)] h (zI fun r h' => r = 1 ∧ h' = h) := by
  refine Sp.of [some (.ref (sA g i))] (by decide) (Nat.le_of_ble_eq_true rfl) rfl rfl ?_
  rintro X rfl hr rfl B
  show AW X 0 0 0 _ _ _ _
  refine aw_strZ B sw_com dJ0_isLatin1_aae02_0 ?_
  refine aw_if_eq B 17 dJ0_isLatin1_aae02_3 (fun c => absurd c (by decide)) (fun _ => ?_)
  refine aw_aload_n B 0 rfl dJ0_isLatin1_aae02_6 rfl ?_
  refine aw_strC B hi sw_cod dJ0_isLatin1_aae02_7 ?_
  refine aw_if_ne B 17 dJ0_isLatin1_aae02_10 (fun c => absurd rfl c) (fun _ => ?_)
  refine aw_iconst B 1 (by decide) dJ0_isLatin1_aae02_13 ?_
  refine aw_goto B 18 dJ0_isLatin1_aae02_14 ?_
  refine aw_iret B rfl rfl dJ0_isLatin1_aae02_18 ?_
  exact ⟨_, rfl, rfl, rfl⟩
set_option maxRecDepth 100000 in
theorem s_checkIndex3 (l : Launch) (g : zG) (h : Hp) (k n : Nat) (r : Option Nat) (hk : k < n) (hn : n < 2 ^ 31) : Sp l g yJ3_checkIndex_8e157 cJ3_checkIndex_8e157 3 (some .int) (rmz 1) [.int (nI k), .int (nI n), va_rf r] h (zI fun r h' => r = nI k ∧ h' = h) := by
  have h1 : ¬ nI k < 0 := Int32.not_lt.mpr (nI_pos' (by omega))
  cases r with
  | none =>
    refine Sp.of [some (.int (nI k)), some (.int (nI n)), some .null] (by decide) (Nat.le_of_ble_eq_true rfl) rfl rfl ?_
    rintro X rfl hr rfl B
    show AW X 0 0 0 _ _ _ _
    refine aw_iload_n B 0 rfl dJ3_checkIndex_8e157_0 rfl ?_
    refine aw_if_lt B 9 dJ3_checkIndex_8e157_1 (fun c => absurd c h1) (fun _ => ?_)
    refine aw_iload_n B 0 rfl dJ3_checkIndex_8e157_4 rfl ?_
    refine aw_iload_n B 1 rfl dJ3_checkIndex_8e157_5 rfl ?_
    refine aw_icmp_lt B 16 dJ3_checkIndex_8e157_6 (fun _ => ?_) (fun c => absurd (nI_lt hk hn) c)
    refine aw_iload_n B 0 rfl dJ3_checkIndex_8e157_16 rfl ?_
    refine aw_iret B rfl rfl dJ3_checkIndex_8e157_17 ?_
    exact ⟨_, rfl, rfl, rfl⟩
  | some t =>
    refine Sp.of [some (.int (nI k)), some (.int (nI n)), some (.ref t)] (by decide) (Nat.le_of_ble_eq_true rfl) rfl rfl ?_
    rintro X rfl hr rfl B
    show AW X 0 0 0 _ _ _ _
    refine aw_iload_n B 0 rfl dJ3_checkIndex_8e157_0 rfl ?_
    refine aw_if_lt B 9 dJ3_checkIndex_8e157_1 (fun c => absurd c h1) (fun _ => ?_)
    refine aw_iload_n B 0 rfl dJ3_checkIndex_8e157_4 rfl ?_
    refine aw_iload_n B 1 rfl dJ3_checkIndex_8e157_5 rfl ?_
    refine aw_icmp_lt B 16 dJ3_checkIndex_8e157_6 (fun _ => ?_) (fun c => absurd (nI_lt hk hn) c)
    refine aw_iload_n B 0 rfl dJ3_checkIndex_8e157_16 rfl ?_
    refine aw_iret B rfl rfl dJ3_checkIndex_8e157_17 ?_
    exact ⟨_, rfl, rfl, rfl⟩
set_option maxRecDepth 100000 in
theorem s_checkIndex0 (l : Launch) (g : zG) (h : Hp) (k n : Nat) (hk : k < n) (hn : n < 2 ^ 31) : Sp l g yJ0_checkIndex_df160 cJ0_checkIndex_df160 2 none (rmz 2) [.int (nI k), .int (nI n)] h (zV fun h' => h' = h) := by
  refine Sp.of [some (.int (nI k)), some (.int (nI n))] (by decide) (Nat.le_of_ble_eq_true rfl) rfl rfl ?_
  rintro X rfl hr rfl B
  show AW X 0 0 0 _ _ _ _
  refine aw_iload_n B 0 rfl dJ0_checkIndex_df160_0 rfl ?_
  refine aw_iload_n B 1 rfl dJ0_checkIndex_df160_1 rfl ?_
  refine aw_strF B sw_sio dJ0_checkIndex_df160_2 (fun r => ?_)
  refine aw_callS B 0 0 (s_checkIndex3 _ _ _ k n r hk hn) co_J3_checkIndex_8e157 k_J0_1059 dJ0_checkIndex_df160_5 rfl rfl (Nat.le_of_ble_eq_true rfl) (zrm hr (by decide)) (Nat.le_refl _) (Nat.le_refl _) (kI fun r h2 hp => ?_)
  obtain ⟨rfl, rfl⟩ := hp
  refine aw_pop B rfl dJ0_checkIndex_df160_8 ?_
  refine aw_vret B rfl dJ0_checkIndex_df160_9 ?_
  exact ⟨rfl, rfl⟩
set_option maxRecDepth 100000 in
theorem s_charAt1 (l : Launch) (g : zG) (h : Hp) (i k : Nat) (hi : i < 5) (hk : k < zLen.getD i 0) : Sp l g yJ1_charAt_3b067 cJ1_charAt_3b067 2 (some .char) (rmz 3) [.ref (sV g i), .int (nI k)] h (zI fun r h' => r = sCh i k ∧ h' = h) := by
  refine Sp.of [some (.ref (sV g i)), some (.int (nI k))] (by decide) (Nat.le_of_ble_eq_true rfl) rfl rfl ?_
  rintro X rfl hr rfl B
  show AW X 0 0 0 _ _ _ _
  have hz := zLen_5 i hi
  refine aw_iload_n B 1 rfl dJ1_charAt_3b067_0 rfl ?_
  refine aw_aload_n B 0 rfl dJ1_charAt_3b067_1 rfl ?_
  refine aw_strL B hi dJ1_charAt_3b067_2 ?_
  refine aw_callS B 0 0 (s_checkIndex0 _ _ _ k _ hk (by omega)) co_J0_checkIndex_df160 k_J1_9 dJ1_charAt_3b067_3 rfl rfl (Nat.le_of_ble_eq_true rfl) (zrm hr (by decide)) (Nat.le_refl _) (Nat.le_refl _) (kV fun h2 hp => ?_)
  subst hp
  refine aw_aload_n B 0 rfl dJ1_charAt_3b067_6 rfl ?_
  refine aw_iload_n B 1 rfl dJ1_charAt_3b067_7 rfl ?_
  refine aw_strB B hi hk dJ1_charAt_3b067_8 ?_
  refine aw_sipush B 255 (by decide) dJ1_charAt_3b067_9 ?_
  refine aw_iand B dJ1_charAt_3b067_12 ?_
  refine aw_i2c B (sCh i k) (sCh_all i hi k hk).1 dJ1_charAt_3b067_13 ?_
  refine aw_iret B rfl (sCh_all i hi k hk).2 dJ1_charAt_3b067_14 ?_
  exact ⟨_, rfl, rfl, rfl⟩
set_option maxRecDepth 100000 in
theorem s_charAt (l : Launch) (g : zG) (h : Hp) (i k : Nat) (hi : i < 5) (hk : k < zLen.getD i 0) : Sp l g yJ0_charAt_5068e cJ0_charAt_5068e 2 (some .char) (rmz 4) [.ref (sA g i), .int (nI k)] h (zI fun r h' => r = sCh i k ∧ h' = h) := by
  refine Sp.of [some (.ref (sA g i)), some (.int (nI k))] (by decide) (Nat.le_of_ble_eq_true rfl) rfl rfl ?_
  rintro X rfl hr rfl B
  show AW X 0 0 0 _ _ _ _
  refine aw_aload_n B 0 rfl dJ0_charAt_5068e_0 rfl ?_
  refine aw_callStr B 0 0 (s_isLatin1 _ _ _ _ hi) co_J0_isLatin1_aae02 k_J0_492 dJ0_charAt_5068e_1 hi rfl rfl rfl (Nat.le_of_ble_eq_true rfl) (zrm hr (by decide)) (Nat.le_refl _) (Nat.le_refl _) (kI fun r h2 hp => ?_)
  obtain ⟨rfl, rfl⟩ := hp
  refine aw_if_eq B 16 dJ0_charAt_5068e_4 (fun c => absurd c (by decide)) (fun _ => ?_)
  refine aw_aload_n B 0 rfl dJ0_charAt_5068e_7 rfl ?_
  refine aw_strV B hi sw_val dJ0_charAt_5068e_8 ?_
  refine aw_iload_n B 1 rfl dJ0_charAt_5068e_11 rfl ?_
  refine aw_callS B 0 0 (s_charAt1 _ _ _ i k hi hk) co_J1_charAt_3b067 k_J0_495 dJ0_charAt_5068e_12 rfl rfl (Nat.le_of_ble_eq_true rfl) (zrm hr (by decide)) (Nat.le_refl _) (Nat.le_refl _) (kI fun r h2 hp => ?_)
  obtain ⟨rfl, rfl⟩ := hp
  refine aw_iret B rfl (sCh_all i hi k hk).2 dJ0_charAt_5068e_15 ?_
  exact ⟨_, rfl, rfl, rfl⟩
