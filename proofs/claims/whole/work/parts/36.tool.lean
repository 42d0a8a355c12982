section ZTOOL
variable {X : zX} {cc : ByteArray} {nL : Nat} {own nm : String} {ret : Option FieldType} {rc rs pc : Nat} {lv : List (Option Value)} {st : List Value} {h : Hp} {Ko : Option Value → Hp → Prop}
theorem aw_ldcw (B : zB X cc nL own nm ret) {index : Nat} {v : Int32} (F : Cond.constant own index v ∈ zT) (hd : decode cc pc = .ok (.ldc_w index, 3)) (k : AW X rc rs (pc + 3) lv (.int v :: st) h Ko) : AW X rc rs pc lv st h Ko := fun H locs ls cells slots a1 a2 a3 a4 a5 => lv_ldcw B.1 B.2.1 B.2.2.2.1 (B.2.2.2.2.1 _ F) hd (k H locs ls cells slots a1 a2 a3 a4 a5)
theorem aw_iushr (B : zB X cc nL own nm ret) {x y : Int32} (v : Int32) (hv : (x.toUInt32 >>> (y.toUInt32 &&& Int32.toUInt32 31)).toInt32 = v) (hd : decode cc pc = .ok (.iushr, 1)) (k : AW X rc rs (pc + 1) lv (.int v :: st) h Ko) : AW X rc rs pc lv (.int y :: .int x :: st) h Ko := fun H locs ls cells slots a1 a2 a3 a4 a5 => lv_iushr B.1 B.2.1 hd hv (k H locs ls cells slots a1 a2 a3 a4 a5)
theorem aw_copy (B : zB X cc nL own nm ret) {idx a0 a n0 n1 : Nat} {f f1 : Nat → Int32} {sp dp n : Int32} (Lk : Cond.methodLink own idx arraycopyName ∈ zT ∧ Cond.native arraycopyName ∈ zT ∧ Cond.static arraycopyName ∈ zT ∧ Cond.initialized "java/lang/System" ∈ zT) (hd : decode cc pc = .ok (.invokestatic idx, 3)) (g0 : h.2 a0 = some (.inl ((zXg X).2.2.1.1, n0, .inl f))) (g1 : h.2 a = some (.inl ((zXg X).2.2.1.1, n1, .inl f1))) (h1 : ¬ sp < 0) (h2 : ¬ dp < 0) (h3 : ¬ n < 0) (h4 : sp.toNatClampNeg + n.toNatClampNeg ≤ n0) (h5 : dp.toNatClampNeg + n.toNatClampNeg ≤ n1) (hw : (st.map fun v => v.category).sum ≤ 8) (hR : 1 ≤ X.2.2.2.2.frames ∧ 26 ≤ X.2.2.2.2.locals) (kk : AW X rc rs (pc + 3) lv st (hp_up h a (.inl ((zXg X).2.2.1.1, n1, .inl (va_cpy f f1 sp.toNatClampNeg dp.toNatClampNeg n.toNatClampNeg)))) Ko) : AW X rc rs pc lv (.int n :: .int dp :: .ref a :: .int sp :: .ref a0 :: st) h Ko := by
  intro H locs ls cells slots a1 a2 a3 a4 a5
  have nn : ∀ z : Int32, ¬ z < 0 → z.toInt = (z.toNatClampNeg : Int) := by
    intro z hz
    obtain ⟨j, hj, rfl⟩ := nI_of hz
    rw [nI_toInt hj, nI_clamp hj]
  have hts := B.2.2.2.2.1
  intro T hT XX
  have hc0 : H[a0]? = some (vp_cell (zXg X).2.2.1.1 (n0, .inl f)) := (a1.2.2.2 a0 _ g0).2
  have hc1 : H[a]? = some (vp_cell (zXg X).2.2.1.1 (n1, .inl f1)) := (a1.2.2.2 a _ g1).2
  obtain ⟨-, k0, hk0, cm0, hkk0⟩ := (B.2.2.2.2.2.1.1.2 0 _ rfl).1 n0 (fun j => .int (f j))
  obtain ⟨-, k1, hk1, cm1, hkk1⟩ := (B.2.2.2.2.2.1.1.2 0 _ rfl).1 n1 (fun j => .int (f1 j))
  obtain ⟨vm', X', step⟩ := XX.arraycopy B.1 B.2.2.2.1 (hts _ Lk.1) (hts _ Lk.2.1) (hts _ Lk.2.2.1) (hts _ Lk.2.2.2) (src := a0) (dst := a) (cs := vp_cell (zXg X).2.2.1.1 (n0, .inl f)) (cd := vp_cell (zXg X).2.2.1.1 (n1, .inl f1)) (srcPos := sp) (destPos := dp) (n := n) (by rw [hT]; exact hc0) (by rw [hT]; exact hc1)
    (fun _ q => by cases q) (fun _ q => by cases q) (fun q => by cases q) (fun q => by cases q) hk0 hk1 hkk0 hkk1 (by simp [refKind]) h1 h2 h3
    (by rw [nn sp h1, nn n h3]; show ¬ _ > ((arrV _ n0 (fun j => .int (f j))).slots.size : Int); rw [arrV_size]; omega)
    (by rw [nn dp h2, nn n h3]; show ¬ _ > ((arrV _ n1 (fun j => .int (f1 j))).slots.size : Int); rw [arrV_size]; omega)
    (fun vm₁ _ i hi => by
      have e : (vp_cell (zXg X).2.2.1.1 (n0, .inl f)).slots.getD (sp.toNatClampNeg + i) .null = .int (f (sp.toNatClampNeg + i)) := by
        show (arrV _ n0 (fun j => .int (f j))).slots.getD _ _ = _
        rw [Array.getD_eq_getD_getElem?, arrV_read _ _ (by omega)]
        rfl
      rw [e]
      exact ⟨rfl, trivial⟩)
    (g := F0 X.2.1.2.1 pc ls (.int n :: .int dp :: .ref a :: .int sp :: .ref a0 :: st)) rfl (by rw [a3.size]) (rest := st) rfl (by rw [B.2.1]; exact hd) hR.1 (by
      have e7 : nativeFrameWords "java/lang/System" "arraycopy" 5 = 7 := by decide
      have := hR.2
      rw [e7]
      show 2 * 0 + _ + _ ≤ _
      omega)
  have e1 : copied (vp_cell (zXg X).2.2.1.1 (n0, .inl f)) (vp_cell (zXg X).2.2.1.1 (n1, .inl f1)) sp dp n = vp_cell (zXg X).2.2.1.1 (n1, .inl (va_cpy f f1 sp.toNatClampNeg dp.toNatClampNeg n.toNatClampNeg)) := va_copied (fun z => .int z) _ _ f f1 h4
  rw [e1] at X' step
  have hl : a < H.size := (Array.getElem?_eq_some_iff.mp hc1).1
  obtain ⟨t, b1, b2⟩ := kk (H.setIfInBounds a (vp_cell (zXg X).2.2.1.1 (n1, .inl (va_cpy f f1 sp.toNatClampNeg dp.toNatClampNeg n.toNatClampNeg)))) _ ls cells slots (a1.up g1 (by simp) (fun q hq => by simp [Array.getElem?_setIfInBounds, Ne.symm hq]) (by
      show (H.setIfInBounds a _)[a]? = some _
      simp [Array.getElem?_setIfInBounds, hl])) (fun q hq => by
      rcases List.mem_append.mp hq with z | z
      · exact a2 q z
      · obtain ⟨w, -, hw⟩ := List.mem_map.mp z
        rw [← hw]
        exact (a1.2.2.2 a _ g1).1) a3 a4 a5 _ (by rw [← hT]; rfl) X'
  exact ⟨t, step t b1, b2⟩
end ZTOOL
theorem Sp.ofF {l : Launch} {g : zG} {y : MethodName} {cc : ByteArray} {maxL : Nat} {ret : Option FieldType} {rm : Room} {av : List Value} {h : Hp} {Ko : Option Value → Hp → Prop} (lv : List (Option Value)) (hy : plainFor y = true) (hlen : (lg_sl av).length ≤ maxL) (hlv : zA 0 lv = lv_args 0 av) (hl : lv.length = maxL)
    (body : ∀ X : zX, zXg X = g → zXr X = rm → X.1.2.1 = l → zB X cc maxL y.cls y.name ret → AW X rm.cells rm.slots 0 lv [] h Ko) : Sp l g y cc maxL ret rm av h Ko := by
  unfold Sp
  refine MetFree.of_bodySF (code := cc) (maxLocals := maxL) (ret := ret) hy ?_ ?_
  · intro args s m hp hn
    obtain ⟨meth, c, h1, h2, h3, h4, h5, h6, -, -⟩ := Cond.code_spec hn (atoms_spec (ws := Cond.code y cc maxL ret :: zT) hp _ List.mem_cons_self)
    exact ⟨meth, c, h1, h2, h3, h4, h5, h6⟩
  · intro p e s m args below meth c s₁ B hml hv _
    have hh0 : s₁.heap = s.heap := by rw [B.state]; rfl
    obtain ⟨rfl, hR, hK⟩ := hv
    have hts := atoms_spec (ws := Cond.code y cc maxL ret :: zT) B.pre
    have hb := body ((p, l, e), (s, m, av.toArray), (below, meth, c), g, rm) rfl rfl rfl
      ⟨B.exec, B.bytes, hml, findClass_of_methodNamed B.named, fun w hw => hts w (List.mem_cons_of_mem _ hw), hK, B.returns, B.notSynchronized, (name_of_methodNamed B.named B.method).1⟩
    have he := lv_entry av (n := maxL) hlen
    have hk := hb s.heap [] _ 0 0 hR (fun _ h => by cases h) ⟨hl.trans hml.symm, by rw [hlv]; show lv_has _ c.maxLocals _; rw [hml]; exact he⟩ (by show 0 + rm.cells ≤ rm.cells; omega) (by show 0 + rm.slots ≤ rm.slots; omega)
    obtain ⟨t, a1, o, b1, b2, b3⟩ := hk s₁ hh0 (Stand.of_body B)
    rw [lg_entry_eq]
    exact ⟨t, o, a1, b1, b2, ⟨b3.1, b3.2⟩⟩
theorem dJ9_floorMod_7cf53_0 : decode cJ9_floorMod_7cf53 0 = .ok (.iload_n 0, 1) := by decide +kernel
theorem dJ9_floorMod_7cf53_1 : decode cJ9_floorMod_7cf53 1 = .ok (.iload_n 1, 1) := by decide +kernel
theorem dJ9_floorMod_7cf53_2 : decode cJ9_floorMod_7cf53 2 = .ok (.irem, 1) := by decide +kernel
theorem dJ9_floorMod_7cf53_3 : decode cJ9_floorMod_7cf53 3 = .ok (.istore_n 2, 1) := by decide +kernel
theorem dJ9_floorMod_7cf53_4 : decode cJ9_floorMod_7cf53 4 = .ok (.iload_n 0, 1) := by decide +kernel
theorem dJ9_floorMod_7cf53_5 : decode cJ9_floorMod_7cf53 5 = .ok (.iload_n 1, 1) := by decide +kernel
theorem dJ9_floorMod_7cf53_6 : decode cJ9_floorMod_7cf53 6 = .ok (.ixor, 1) := by decide +kernel
theorem dJ9_floorMod_7cf53_7 : decode cJ9_floorMod_7cf53 7 = .ok (.ifCond .ge 11, 3) := by decide +kernel
theorem dJ9_floorMod_7cf53_10 : decode cJ9_floorMod_7cf53 10 = .ok (.iload_n 2, 1) := by decide +kernel
theorem dJ9_floorMod_7cf53_11 : decode cJ9_floorMod_7cf53 11 = .ok (.ifCond .eq 7, 3) := by decide +kernel
theorem dJ9_floorMod_7cf53_14 : decode cJ9_floorMod_7cf53 14 = .ok (.iload_n 2, 1) := by decide +kernel
theorem dJ9_floorMod_7cf53_15 : decode cJ9_floorMod_7cf53 15 = .ok (.iload_n 1, 1) := by decide +kernel
theorem dJ9_floorMod_7cf53_16 : decode cJ9_floorMod_7cf53 16 = .ok (.iadd, 1) := by decide +kernel
theorem dJ9_floorMod_7cf53_17 : decode cJ9_floorMod_7cf53 17 = .ok (.ireturn, 1) := by decide +kernel
theorem dJ9_floorMod_7cf53_18 : decode cJ9_floorMod_7cf53 18 = .ok (.iload_n 2, 1) := by decide +kernel
theorem dJ9_floorMod_7cf53_19 : decode cJ9_floorMod_7cf53 19 = .ok (.ireturn, 1) := by decide +kernel
theorem xor_nn {a b : Nat} (ha : a < 2 ^ 31) (hb : b < 2 ^ 31) : 0 ≤ nI a ^^^ nI b := by
  have e : nI a ^^^ nI b = nI (a ^^^ b) := by
    apply Int32.toBitVec_inj.mp
    apply BitVec.eq_of_toNat_eq
    rw [Int32.toBitVec_xor, BitVec.toNat_xor, pk_tn (by omega), pk_tn (by omega), pk_tn (Nat.lt_of_lt_of_le (Nat.xor_lt_two_pow ha hb) (by decide))]
  rw [e]
  exact nI_pos' (Nat.xor_lt_two_pow ha hb)
set_option maxRecDepth 100000 in
set_option maxHeartbeats 4000000 in
theorem s_floorMod (l : Launch) (g : zG) (h : Hp) (a b : Nat) (ha : a < 2 ^ 31) (hb0 : 0 < b) (hb : b < 2 ^ 31) : Sp l g yJ9_floorMod_7cf53 cJ9_floorMod_7cf53 3 (some .int) (rmz 1) [.int (nI a), .int (nI b)] (h) (zI fun r h' => r = nI (a % b) ∧ h' = h) := by
  refine Sp.ofF [some (.int (nI a)), some (.int (nI b)), none] (by decide +kernel) (Nat.le_of_ble_eq_true rfl) rfl rfl ?_
  rintro X rfl hr rfl B
  show AW X 0 0 0 _ _ _ _
  refine aw_iload_n B 0 rfl dJ9_floorMod_7cf53_0 rfl ?_
  refine aw_iload_n B 1 rfl dJ9_floorMod_7cf53_1 rfl ?_
  refine aw_irem B (nI_ne0 hb0 hb) dJ9_floorMod_7cf53_2 ?_
  rw [pk_rem ha hb0 hb]
  refine aw_istore2 B dJ9_floorMod_7cf53_3 ?_
  refine aw_iload_n B 0 rfl dJ9_floorMod_7cf53_4 rfl ?_
  refine aw_iload_n B 1 rfl dJ9_floorMod_7cf53_5 rfl ?_
  refine aw_ixor B dJ9_floorMod_7cf53_6 ?_
  refine aw_if_ge B 18 dJ9_floorMod_7cf53_7 (fun c7 => ?_) (fun c7 => absurd (xor_nn ha hb) c7)
  refine aw_iload_n B 2 rfl dJ9_floorMod_7cf53_18 rfl ?_
  refine aw_iret B rfl rfl dJ9_floorMod_7cf53_19 ?_
  exact ⟨_, rfl, rfl, rfl⟩
theorem dJ6_compare_7cf53_0 : decode cJ6_compare_7cf53 0 = .ok (.iload_n 0, 1) := by decide +kernel
theorem dJ6_compare_7cf53_1 : decode cJ6_compare_7cf53 1 = .ok (.iload_n 1, 1) := by decide +kernel
theorem dJ6_compare_7cf53_2 : decode cJ6_compare_7cf53 2 = .ok (.if_icmp .ge 7, 3) := by decide +kernel
theorem dJ6_compare_7cf53_5 : decode cJ6_compare_7cf53 5 = .ok (.iconst (-1), 1) := by decide +kernel
theorem dJ6_compare_7cf53_6 : decode cJ6_compare_7cf53 6 = .ok (.goto 13, 3) := by decide +kernel
theorem dJ6_compare_7cf53_9 : decode cJ6_compare_7cf53 9 = .ok (.iload_n 0, 1) := by decide +kernel
theorem dJ6_compare_7cf53_10 : decode cJ6_compare_7cf53 10 = .ok (.iload_n 1, 1) := by decide +kernel
theorem dJ6_compare_7cf53_11 : decode cJ6_compare_7cf53 11 = .ok (.if_icmp .ne 7, 3) := by decide +kernel
theorem dJ6_compare_7cf53_14 : decode cJ6_compare_7cf53 14 = .ok (.iconst 0, 1) := by decide +kernel
theorem dJ6_compare_7cf53_15 : decode cJ6_compare_7cf53 15 = .ok (.goto 4, 3) := by decide +kernel
theorem dJ6_compare_7cf53_18 : decode cJ6_compare_7cf53 18 = .ok (.iconst 1, 1) := by decide +kernel
theorem dJ6_compare_7cf53_19 : decode cJ6_compare_7cf53 19 = .ok (.ireturn, 1) := by decide +kernel
set_option maxRecDepth 100000 in
set_option maxHeartbeats 4000000 in
theorem s_compare (l : Launch) (g : zG) (h : Hp) (x y : Int32) : Sp l g yJ6_compare_7cf53 cJ6_compare_7cf53 2 (some .int) (rmz 1) [.int x, .int y] (h) (zI fun r h' => r = (if y ≤ x then if x = y then 0 else 1 else -1) ∧ h' = h) := by
  refine Sp.of [some (.int x), some (.int y)] (by decide) (Nat.le_of_ble_eq_true rfl) rfl rfl ?_
  rintro X rfl hr rfl B
  show AW X 0 0 0 _ _ _ _
  refine aw_iload_n B 0 rfl dJ6_compare_7cf53_0 rfl ?_
  refine aw_iload_n B 1 rfl dJ6_compare_7cf53_1 rfl ?_
  refine aw_icmp_ge B 9 dJ6_compare_7cf53_2 (fun c2 => ?_) (fun c2 => ?_)
  · refine aw_iload_n B 0 rfl dJ6_compare_7cf53_9 rfl ?_
    refine aw_iload_n B 1 rfl dJ6_compare_7cf53_10 rfl ?_
    refine aw_icmp_ne B 18 dJ6_compare_7cf53_11 (fun c11 => ?_) (fun c11 => ?_)
    · refine aw_iconst B 1 (by decide) dJ6_compare_7cf53_18 ?_
      refine aw_iret B rfl rfl dJ6_compare_7cf53_19 ?_
      exact ⟨_, rfl, by rw [if_pos c2, if_neg c11], rfl⟩
    · refine aw_iconst B 0 (by decide) dJ6_compare_7cf53_14 ?_
      refine aw_goto B 19 dJ6_compare_7cf53_15 ?_
      refine aw_iret B rfl rfl dJ6_compare_7cf53_19 ?_
      exact ⟨_, rfl, by rw [if_pos c2, if_pos c11], rfl⟩
  · refine aw_iconst B (-1) (by decide) dJ6_compare_7cf53_5 ?_
    refine aw_goto B 19 dJ6_compare_7cf53_6 ?_
    refine aw_iret B rfl rfl dJ6_compare_7cf53_19 ?_
    exact ⟨_, rfl, by rw [if_neg c2], rfl⟩
theorem hu_u {h : Hp} {a : Nat} {e e' : va_E} : hp_up (hp_up h a e) a e' = hp_up h a e' := by
  refine Prod.ext rfl (funext fun b => ?_)
  show (if b = a then _ else (if b = a then _ else _)) = (if b = a then _ else _)
  by_cases hb : b = a
  · rw [if_pos hb, if_pos hb]
  · rw [if_neg hb, if_neg hb, if_neg hb]
theorem hu_id {h : Hp} {a : Nat} {e : va_E} (he : h.2 a = some e) : hp_up h a e = h := by
  refine Prod.ext rfl (funext fun b => ?_)
  show (if b = a then _ else _) = _
  by_cases hb : b = a
  · rw [if_pos hb, hb, he]
  · rw [if_neg hb]
theorem dJ7_fill_53178_0 : decode cJ7_fill_53178 0 = .ok (.iconst 0, 1) := by decide +kernel
theorem dJ7_fill_53178_1 : decode cJ7_fill_53178 1 = .ok (.istore_n 2, 1) := by decide +kernel
theorem dJ7_fill_53178_2 : decode cJ7_fill_53178 2 = .ok (.aload_n 0, 1) := by decide +kernel
theorem dJ7_fill_53178_3 : decode cJ7_fill_53178 3 = .ok (.arraylength, 1) := by decide +kernel
theorem dJ7_fill_53178_4 : decode cJ7_fill_53178 4 = .ok (.istore_n 3, 1) := by decide +kernel
theorem dJ7_fill_53178_5 : decode cJ7_fill_53178 5 = .ok (.iload_n 2, 1) := by decide +kernel
theorem dJ7_fill_53178_6 : decode cJ7_fill_53178 6 = .ok (.iload_n 3, 1) := by decide +kernel
theorem dJ7_fill_53178_7 : decode cJ7_fill_53178 7 = .ok (.if_icmp .ge 13, 3) := by decide +kernel
theorem dJ7_fill_53178_10 : decode cJ7_fill_53178 10 = .ok (.aload_n 0, 1) := by decide +kernel
theorem dJ7_fill_53178_11 : decode cJ7_fill_53178 11 = .ok (.iload_n 2, 1) := by decide +kernel
theorem dJ7_fill_53178_12 : decode cJ7_fill_53178 12 = .ok (.iload_n 1, 1) := by decide +kernel
theorem dJ7_fill_53178_13 : decode cJ7_fill_53178 13 = .ok (.iastore, 1) := by decide +kernel
theorem dJ7_fill_53178_14 : decode cJ7_fill_53178 14 = .ok (.iinc 2 1, 3) := by decide +kernel
theorem dJ7_fill_53178_17 : decode cJ7_fill_53178 17 = .ok (.goto (-12), 3) := by decide +kernel
theorem dJ7_fill_53178_20 : decode cJ7_fill_53178 20 = .ok (.return_, 1) := by decide +kernel
set_option maxRecDepth 100000 in
set_option maxHeartbeats 4000000 in
theorem s_fill (l : Launch) (g : zG) (h : Hp) (a n : Nat) (f : Nat → Int32) (x : Int32) (hn : n < 2 ^ 31) (hA : h.2 a = some (.inl (g.2.2.1.1, n, .inl f))) : Sp l g yJ7_fill_53178 cJ7_fill_53178 4 none (rmz 1) [.ref a, .int x] (h) (zV fun h' => h' = hp_up h a (.inl (g.2.2.1.1, n, .inl (fun i => if i < n then x else f i)))) := by
  refine Sp.of [some (.ref a), some (.int x), none, none] (by decide) (Nat.le_of_ble_eq_true rfl) rfl rfl ?_
  rintro X rfl hr rfl B
  show AW X 0 0 0 _ _ _ _
  have lp : ∀ (fu j : Nat), n = j + fu → AW X 0 0 5 [some (.ref a), some (.int x), some (.int (nI (j))), some (.int (nI n))] [] (hp_up h a (.inl ((zXg X).2.2.1.1, n, .inl (fun i => if i < j then x else f i)))) (zV fun h' => h' = hp_up h a (.inl ((zXg X).2.2.1.1, n, .inl (fun i => if i < n then x else f i)))) := by
    intro fu
    induction fu with
    | zero =>
      intro j hj
      obtain rfl : n = j := hj
      refine aw_iload_n B 2 rfl dJ7_fill_53178_5 rfl ?_
      refine aw_iload_n B 3 rfl dJ7_fill_53178_6 rfl ?_
      refine aw_icmp_ge B 20 dJ7_fill_53178_7 (fun c7 => ?_) (fun c7 => absurd (Int32.le_refl _) c7)
      refine aw_vret B rfl dJ7_fill_53178_20 ?_
      exact ⟨rfl, rfl⟩
    | succ fu ih =>
      intro j hj
      refine aw_iload_n B 2 rfl dJ7_fill_53178_5 rfl ?_
      refine aw_iload_n B 3 rfl dJ7_fill_53178_6 rfl ?_
      refine aw_icmp_ge B 20 dJ7_fill_53178_7 (fun c7 => absurd c7 (Int32.not_le.mpr (nI_lt (by omega) hn))) (fun c7 => ?_)
      refine aw_aload_n B 0 rfl dJ7_fill_53178_10 rfl ?_
      refine aw_iload_n B 2 rfl dJ7_fill_53178_11 rfl ?_
      refine aw_iload_n B 1 rfl dJ7_fill_53178_12 rfl ?_
      refine aw_iast B dJ7_fill_53178_13 hu_s (vp_in_nI (by omega) hn) ?_
      rw [nI_clamp (by omega), hu_u]
      refine aw_iinc2 B 1 (by decide) dJ7_fill_53178_14 ?_
      refine aw_goto B 5 dJ7_fill_53178_17 ?_
      rw [nI_1, show upd (fun i => if i < j then x else f i) j x = (fun i => if i < j + 1 then x else f i) from by
        funext i
        unfold upd
        by_cases hi : i = j
        · subst hi
          simp
        · by_cases hi2 : i < j
          · simp [hi, hi2, Nat.lt_succ_of_lt hi2]
          · simp [hi, hi2, show ¬ i < j + 1 by omega]]
      exact ih (j + 1) (by omega)
  refine aw_iconst B 0 (by decide) dJ7_fill_53178_0 ?_
  refine aw_istore2 B dJ7_fill_53178_1 ?_
  refine aw_aload_n B 0 rfl dJ7_fill_53178_2 rfl ?_
  refine aw_alen B dJ7_fill_53178_3 hA (Or.inl rfl) ?_
  refine aw_istore3 B dJ7_fill_53178_4 ?_
  have h0 := lp n 0 (by omega)
  rw [show (fun i => if i < 0 then x else f i) = f from by funext i; simp, hu_id hA] at h0
  exact h0
/-- the heap with a cave at k -/
def kcell (g : zG) (k : Nat) (tx : Value) (sf nf : Nat → Int32) (sz : Int32) (tf : Nat → Int32) (pl : Int32) (j : Nat) : va_E := if j = 0 then .inr (1, [.ref (k + 1), .ref (k + 2), .int sz, .ref (k + 3), tx, .int pl]) else if j = 1 then .inl (g.2.2.1.1, 100, .inl sf) else if j = 2 then .inl (g.2.2.1.1, 100, .inl nf) else .inl (g.2.2.1.1, 840, .inl tf)
def hK (g : zG) (h : Hp) (k : Nat) (tx : Value) (sf nf : Nat → Int32) (sz : Int32) (tf : Nat → Int32) (pl : Int32) : Hp := (h.1, fun a => if k ≤ a ∧ a < k + 4 then some (kcell g k tx sf nf sz tf pl (a - k)) else h.2 a)
def kvI (g : zG) (h : Hp) (k : Nat) (tx : Value) (sf nf : Nat → Int32) (sz : Int32) (tf : Nat → Int32) (pl : Int32) : Prop := ∀ j, j < 4 → h.2 (k + j) = some (kcell g k tx sf nf sz tf pl j)
section ZCAVE
variable {X : zX} {cc : ByteArray} {nL : Nat} {own nm : String} {ret : Option FieldType} {rc rs pc : Nat} {lv : List (Option Value)} {st : List Value} {h : Hp} {Ko : Option Value → Hp → Prop} {g : zG} {k : Nat} {tx : Value} {sf nf tf : Nat → Int32} {sz pl : Int32}
theorem hK_j {j : Nat} (hj : j < 4) : (hK g h k tx sf nf sz tf pl).2 (k + j) = some (kcell g k tx sf nf sz tf pl j) := by
  unfold hK
  show (if k ≤ k + j ∧ k + j < k + 4 then _ else _) = _
  rw [if_pos ⟨by omega, by omega⟩, show k + j - k = j by omega]
theorem hK_o : (hK g h k tx sf nf sz tf pl).2 k = some (.inr (1, [.ref (k + 1), .ref (k + 2), .int sz, .ref (k + 3), tx, .int pl])) := hK_j (j := 0) (by decide)
theorem hK_1 : (hK g h k tx sf nf sz tf pl).2 (k + 1) = some (.inl (g.2.2.1.1, 100, .inl sf)) := hK_j (j := 1) (by decide)
theorem hK_2 : (hK g h k tx sf nf sz tf pl).2 (k + 2) = some (.inl (g.2.2.1.1, 100, .inl nf)) := hK_j (j := 2) (by decide)
theorem hK_3 : (hK g h k tx sf nf sz tf pl).2 (k + 3) = some (.inl (g.2.2.1.1, 840, .inl tf)) := hK_j (j := 3) (by decide)
theorem hK_n {a : Nat} (h1 : ¬ (k ≤ a ∧ a < k + 4)) : (hK g h k tx sf nf sz tf pl).2 a = h.2 a := by
  unfold hK
  show (if _ then _ else _) = _
  rw [if_neg h1]
theorem hK_kvI : kvI g (hK g h k tx sf nf sz tf pl) k tx sf nf sz tf pl := fun _ hj => hK_j hj
theorem hK_id (p : kvI g h k tx sf nf sz tf pl) : hK g h k tx sf nf sz tf pl = h := by
  refine Prod.ext rfl (funext fun a => ?_)
  show (if k ≤ a ∧ a < k + 4 then _ else _) = _
  by_cases h1 : k ≤ a ∧ a < k + 4
  · rw [if_pos h1]
    have := p (a - k) (by omega)
    rw [show k + (a - k) = a by omega] at this
    exact this.symm
  · rw [if_neg h1]
theorem hK_only : only k (k + 4) h (hK g h k tx sf nf sz tf pl) := ⟨rfl, fun _ ha => hK_n ha⟩
theorem kvI.fr {h' : Hp} {lo hi : Nat} (p : kvI g h k tx sf nf sz tf pl) (o : only lo hi h h') (d : k + 4 ≤ lo ∨ hi ≤ k) : kvI g h' k tx sf nf sz tf pl := fun j hj => o.at (by omega) (p j hj)
theorem hK_up {tx' : Value} {sf' nf' tf' : Nat → Int32} {sz' pl' : Int32} (j : Nat) (hj : j < 4) (e : ∀ i, i < 4 → i ≠ j → kcell g k tx' sf' nf' sz' tf' pl' i = kcell g k tx sf nf sz tf pl i) : hp_up (hK g h k tx sf nf sz tf pl) (k + j) (kcell g k tx' sf' nf' sz' tf' pl' j) = hK g h k tx' sf' nf' sz' tf' pl' := by
  refine Prod.ext rfl (funext fun a => ?_)
  show (if a = k + j then _ else (if k ≤ a ∧ a < k + 4 then _ else _)) = (if k ≤ a ∧ a < k + 4 then _ else _)
  by_cases h1 : a = k + j
  · rw [if_pos h1, if_pos (by omega), show a - k = j by omega]
  · rw [if_neg h1]
    by_cases h2 : k ≤ a ∧ a < k + 4
    · rw [if_pos h2, if_pos h2, e (a - k) (by omega) (by omega)]
    · rw [if_neg h2, if_neg h2]
theorem hK_hK {tx' : Value} {sf' nf' tf' : Nat → Int32} {sz' pl' : Int32} : hK g (hK g h k tx sf nf sz tf pl) k tx' sf' nf' sz' tf' pl' = hK g h k tx' sf' nf' sz' tf' pl' := by
  refine Prod.ext rfl (funext fun a => ?_)
  show (if k ≤ a ∧ a < k + 4 then _ else (if k ≤ a ∧ a < k + 4 then _ else _)) = (if k ≤ a ∧ a < k + 4 then _ else _)
  by_cases h2 : k ≤ a ∧ a < k + 4
  · rw [if_pos h2, if_pos h2]
  · rw [if_neg h2, if_neg h2, if_neg h2]
theorem k_psz (B : zB X cc nL own nm ret) {idx : Nat} {dec : Bool} {x : Int32} (Fl : zFL own idx 1 2 false dec .int) (hd : decode cc pc = .ok (.putfield idx, 3)) (kk : AW X rc rs (pc + 3) lv st (hK (zXg X) h k tx sf nf x tf pl) Ko) : AW X rc rs pc lv (.int x :: .ref k :: st) (hK (zXg X) h k tx sf nf sz tf pl) Ko :=
  aw_put B Fl hd hK_o rfl rfl (by show 2 < 6; decide) (by
    show AW X rc rs (pc + 3) lv st (hp_up (hK (zXg X) h k tx sf nf sz tf pl) (k + 0) (kcell (zXg X) k tx sf nf x tf pl 0)) Ko
    rw [hK_up 0 (by decide) (fun i hi hn => by unfold kcell; rw [if_neg hn, if_neg hn])]; exact kk)
theorem k_ppl (B : zB X cc nL own nm ret) {idx : Nat} {dec : Bool} {x : Int32} (Fl : zFL own idx 1 5 false dec .int) (hd : decode cc pc = .ok (.putfield idx, 3)) (kk : AW X rc rs (pc + 3) lv st (hK (zXg X) h k tx sf nf sz tf x) Ko) : AW X rc rs pc lv (.int x :: .ref k :: st) (hK (zXg X) h k tx sf nf sz tf pl) Ko :=
  aw_put B Fl hd hK_o rfl rfl (by show 5 < 6; decide) (by
    show AW X rc rs (pc + 3) lv st (hp_up (hK (zXg X) h k tx sf nf sz tf pl) (k + 0) (kcell (zXg X) k tx sf nf sz tf x 0)) Ko
    rw [hK_up 0 (by decide) (fun i hi hn => by unfold kcell; rw [if_neg hn, if_neg hn])]; exact kk)
theorem k_ptx (B : zB X cc nL own nm ret) {idx t : Nat} {dec : Bool} (Fl : zFL own idx 1 4 false dec (.object "LowWater$Row")) (hd : decode cc pc = .ok (.putfield idx, 3)) (kk : AW X rc rs (pc + 3) lv st (hK (zXg X) h k (.ref t) sf nf sz tf pl) Ko) : AW X rc rs pc lv (.ref t :: .ref k :: st) (hK (zXg X) h k tx sf nf sz tf pl) Ko :=
  aw_put B Fl hd hK_o rfl rfl (by show 4 < 6; decide) (by
    show AW X rc rs (pc + 3) lv st (hp_up (hK (zXg X) h k tx sf nf sz tf pl) (k + 0) (kcell (zXg X) k (.ref t) sf nf sz tf pl 0)) Ko
    rw [hK_up 0 (by decide) (fun i hi hn => by unfold kcell; rw [if_neg hn, if_neg hn])]; exact kk)
theorem k_u1 {f' : Nat → Int32} : hp_up (hK g h k tx sf nf sz tf pl) (k + 1) (.inl (g.2.2.1.1, 100, .inl f')) = hK g h k tx f' nf sz tf pl :=
  hK_up (sf' := f') 1 (by decide) (fun i hi hn => by
    rcases (show i = 0 ∨ i = 2 ∨ i = 3 by omega) with rfl | rfl | rfl <;> rfl)
theorem k_u2 {f' : Nat → Int32} : hp_up (hK g h k tx sf nf sz tf pl) (k + 2) (.inl (g.2.2.1.1, 100, .inl f')) = hK g h k tx sf f' sz tf pl :=
  hK_up (nf' := f') 2 (by decide) (fun i hi hn => by
    rcases (show i = 0 ∨ i = 1 ∨ i = 3 by omega) with rfl | rfl | rfl <;> rfl)
theorem k_u3 {f' : Nat → Int32} : hp_up (hK g h k tx sf nf sz tf pl) (k + 3) (.inl (g.2.2.1.1, 840, .inl f')) = hK g h k tx sf nf sz f' pl :=
  hK_up (tf' := f') 3 (by decide) (fun i hi hn => by
    rcases (show i = 0 ∨ i = 1 ∨ i = 2 by omega) with rfl | rfl | rfl <;> rfl)
theorem k_st1 (B : zB X cc nL own nm ret) {i x : Int32} (q : Nat) (e : i = nI q) (hb : q < 100) (hd : decode cc pc = .ok (.iastore, 1)) (kk : AW X rc rs (pc + 1) lv st (hK (zXg X) h k tx (upd sf q x) nf sz tf pl) Ko) : AW X rc rs pc lv (.int x :: .int i :: .ref (k + 1) :: st) (hK (zXg X) h k tx sf nf sz tf pl) Ko :=
  aw_iast B hd hK_1 (by rw [e]; exact vp_in_nI hb (by decide)) (by rw [e, nI_clamp (by omega), k_u1]; exact kk)
theorem k_st2 (B : zB X cc nL own nm ret) {i x : Int32} (q : Nat) (e : i = nI q) (hb : q < 100) (hd : decode cc pc = .ok (.iastore, 1)) (kk : AW X rc rs (pc + 1) lv st (hK (zXg X) h k tx sf (upd nf q x) sz tf pl) Ko) : AW X rc rs pc lv (.int x :: .int i :: .ref (k + 2) :: st) (hK (zXg X) h k tx sf nf sz tf pl) Ko :=
  aw_iast B hd hK_2 (by rw [e]; exact vp_in_nI hb (by decide)) (by rw [e, nI_clamp (by omega), k_u2]; exact kk)
theorem k_st3 (B : zB X cc nL own nm ret) {i x : Int32} (q : Nat) (e : i = nI q) (hb : q < 840) (hd : decode cc pc = .ok (.iastore, 1)) (kk : AW X rc rs (pc + 1) lv st (hK (zXg X) h k tx sf nf sz (upd tf q x) pl) Ko) : AW X rc rs pc lv (.int x :: .int i :: .ref (k + 3) :: st) (hK (zXg X) h k tx sf nf sz tf pl) Ko :=
  aw_iast B hd hK_3 (by rw [e]; exact vp_in_nI hb (by decide)) (by rw [e, nI_clamp (by omega), k_u3]; exact kk)
theorem k_ld1 (B : zB X cc nL own nm ret) {i : Int32} (q : Nat) (e : i = nI q) (hb : q < 100) (hd : decode cc pc = .ok (.iaload, 1)) (kk : AW X rc rs (pc + 1) lv (.int (sf q) :: st) (hK (zXg X) h k tx sf nf sz tf pl) Ko) : AW X rc rs pc lv (.int i :: .ref (k + 1) :: st) (hK (zXg X) h k tx sf nf sz tf pl) Ko :=
  aw_iald B hd hK_1 (by rw [e]; exact vp_in_nI hb (by decide)) (by rw [e, nI_clamp (by omega)]; exact kk)
theorem k_ld2 (B : zB X cc nL own nm ret) {i : Int32} (q : Nat) (e : i = nI q) (hb : q < 100) (hd : decode cc pc = .ok (.iaload, 1)) (kk : AW X rc rs (pc + 1) lv (.int (nf q) :: st) (hK (zXg X) h k tx sf nf sz tf pl) Ko) : AW X rc rs pc lv (.int i :: .ref (k + 2) :: st) (hK (zXg X) h k tx sf nf sz tf pl) Ko :=
  aw_iald B hd hK_2 (by rw [e]; exact vp_in_nI hb (by decide)) (by rw [e, nI_clamp (by omega)]; exact kk)
theorem k_ld3 (B : zB X cc nL own nm ret) {i : Int32} (q : Nat) (e : i = nI q) (hb : q < 840) (hd : decode cc pc = .ok (.iaload, 1)) (kk : AW X rc rs (pc + 1) lv (.int (tf q) :: st) (hK (zXg X) h k tx sf nf sz tf pl) Ko) : AW X rc rs pc lv (.int i :: .ref (k + 3) :: st) (hK (zXg X) h k tx sf nf sz tf pl) Ko :=
  aw_iald B hd hK_3 (by rw [e]; exact vp_in_nI hb (by decide)) (by rw [e, nI_clamp (by omega)]; exact kk)
end ZCAVE
