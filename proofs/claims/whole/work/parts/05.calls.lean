section ZCALLS
variable {X : zX} {cc : ByteArray} {nL : Nat} {own nm : String} {ret : Option FieldType} {rc rs pc : Nat} {lv : List (Option Value)} {st : List Value} {h : Hp} {Ko : Option Value → Hp → Prop}
theorem zGood {ws : List Cond} (h : ∀ w ∈ ws, w ∈ zT) : GoodIn zT ws := fun w hw => ⟨h w hw, zT_good (h w hw)⟩
/-- what a callee asks of the tables -/
def zCo (y : MethodName) (cc : ByteArray) (maxL : Nat) (ret : Option FieldType) (n : Nat) : Prop := Cond.code y cc maxL ret ∈ zT ∧ Cond.initialized y.cls ∈ zT ∧ y.cls ≠ "java/lang/invoke/MethodHandle" ∧ y.cls ≠ "java/lang/invoke/VarHandle" ∧ (parseMethodDescriptor y.desc).map (fun d => d.parameters.length) = some n
theorem zCo.good {y : MethodName} {cc : ByteArray} {maxL n : Nat} {ret : Option FieldType} (F : zCo y cc maxL ret n) : GoodIn zT (Cond.code y cc maxL ret :: zT) := zGood fun w hw => (List.mem_cons.mp hw).elim (fun e => e ▸ F.1) id
/-- behind a call -/
theorem aw_run {mc ms : Nat} {rest : List Value} {Ko' : Option Value → Hp → Prop} (al : Array Value) (rc' rs' : Nat) (hc : rc' + mc ≤ rc) (hs : rs' + ms ≤ rs)
    (hr : ∀ (H : Heap) (locs : List Loc) (ls : Array Slot) (cells slots : Nat), zR (zXg X) h H → ls.size = X.2.2.1.2.2.maxLocals → cells + mc ≤ X.2.2.2.2.cells → slots + ms ≤ X.2.2.2.2.slots → va_Run X.1.1 X.1.2.1 X.1.2.2 X.2.2.2.2 X.2.1.1 X.2.1.2.1 X.2.1.2.2 X.2.2.1.1 X.2.2.1.2.1 X.2.2.1.2.2 H locs cells slots mc ms (F0 X.2.1.2.1 pc ls st) rest (zQ (zXg X) Ko' al) (fun q => zb (zXg X) ≤ q))
    (kk : ∀ v h', Ko' v h' → AW X rc' rs' (pc + 3) lv (v.toList ++ rest) h' Ko) : AW X rc rs pc lv st h Ko := by
  intro H locs ls cells slots a1 a2 a3 a4 a5
  intro T hT Xs
  obtain ⟨v, st₀, t, T', L, h0, X', hL, e1, e2, ⟨v', h', ho, hk, hR⟩, stp⟩ := hr H locs ls cells slots a1 a3.size (by omega) (by omega) T hT Xs
  cases ho
  obtain ⟨t2, b1, b2⟩ := kk v h' hk T'.heap (locs ++ L) ls (cells + mc) (slots + ms) (by rw [e1]; exact hR) (fun q hq => (List.mem_append.mp hq).elim (a2 q) (hL q)) a3 (by omega) (by omega) T' rfl X'
  exact ⟨t2, stp t2 b1, b2⟩
def zRoom (rm R : Room) (maxL : Nat) : Prop := rm.frames + 1 ≤ R.frames ∧ 8 + (maxL + 11) + rm.locals ≤ R.locals
theorem zrecv {H : Heap} {b ci : Nat} {fs : List Value} {r : vw_C} (B : zB X cc nL own nm ret) (a1 : zR (zXg X) h H) (hh : h.2 b = some (.inr (ci, fs))) (hc : vwCl[ci]? = some r) : ∃ cell : Cell, H[b]? = some cell ∧ cell.vm.isStatics = false ∧ X.2.1.1.vm.findClass r.1 = some cell.cls := va_recv B.2.2.2.2.2.1.1 (zP1 a1 hh) hc (q0 := 0) rfl
theorem zpc {H : Heap} {av : List Value} (B : zB X cc nL own nm ret) (a1 : zR (zXg X) h H) : ∀ U : State, U.heap = H → X.2.1.1.WarmedH U.vm → va_Pc av (fun U => zR (zXg X) h U.heap ∧ zK (zXg X) U) av.toArray U := fun U hU hW => ⟨rfl, by rw [hU]; exact a1, B.2.2.2.2.2.1.warm hW⟩
theorem zcb {y : MethodName} {cc' : ByteArray} {maxL n idx : Nat} {ret' : Option FieldType} {rm : Room} (B : zB X cc nL own nm ret) (F : zCo y cc' maxL ret' n) (hl : Cond.methodLink own idx y ∈ zT) (hR : zRoom rm X.2.2.2.2 maxL) : CallB X.2.2.2.2 X.2.1.1 X.2.1.2.2 own idx y cc' maxL ret' (Cond.code y cc' maxL ret' :: zT) rm rm.cells rm.slots n :=
  callB_of n B.2.2.2.2.1 F.good rfl rfl rfl (B.2.2.2.2.1 _ F.2.1) (B.2.2.2.2.1 _ hl) ⟨F.2.2.1, F.2.2.2.1, F.2.2.2.2⟩ hR
/-- invokevirtual, the receiver's class is the method's own -/
theorem aw_callV {idx n maxL ci : Nat} {b : Nat} {As rest fs : List Value} {y : MethodName} {cc' : ByteArray} {ret' : Option FieldType} {rm : Room} {Ko' : Option Value → Hp → Prop} {r : vw_C} (B : zB X cc nL own nm ret) (rc' rs' : Nat) (S : Sp X.1.2.1 (zXg X) y cc' maxL ret' rm (.ref b :: As) h Ko') (F : zCo y cc' maxL ret' n) (Lk : Cond.methodLink own idx y ∈ zT ∧ Cond.instanceMethod y ∈ zT ∧ Cond.selects y.cls y y ∈ zT) (hd : decode cc pc = .ok (.invokevirtual idx, 3)) (hh : h.2 b = some (.inr (ci, fs))) (hcl : vwCl[ci]? = some r) (hcn : r.1 = y.cls) (hst : st = As.reverse ++ .ref b :: rest) (hn : As.length = n) (hw : (rest.map fun v => v.category).sum ≤ 8) (hR : zRoom rm X.2.2.2.2 maxL) (hc : rc' + rm.cells ≤ rc) (hs : rs' + rm.slots ≤ rs)
    (kk : ∀ v h', Ko' v h' → AW X rc' rs' (pc + 3) lv (v.toList ++ rest) h' Ko) : AW X rc rs pc lv st h Ko := by
  refine aw_run (Value.ref b :: As).toArray rc' rs' hc hs (fun H locs ls cells slots a1 a3 a4 a5 => ?_) kk
  refine va_runV ⟨B.1, B.2.1, B.2.2.1, B.2.2.2.1, B.2.2.2.2.1⟩ S ⟨zcb B F Lk.1 hR, B.2.2.2.2.1 _ Lk.2.1, B.2.2.2.2.1 _ Lk.2.2⟩ ⟨zPc_blind, ?_, zpc B a1⟩ rfl hn (a3.trans B.2.2.1) hst (lv_room hw) hd ⟨a4, a5⟩
  obtain ⟨cell, g1, g2, g3⟩ := zrecv B a1 hh hcl
  exact ⟨cell, g1, g2, by rw [← hcn]; exact g3⟩
/-- invokestatic -/
theorem aw_callS {idx n maxL : Nat} {As rest : List Value} {y : MethodName} {cc' : ByteArray} {ret' : Option FieldType} {rm : Room} {Ko' : Option Value → Hp → Prop} (B : zB X cc nL own nm ret) (rc' rs' : Nat) (S : Sp X.1.2.1 (zXg X) y cc' maxL ret' rm As h Ko') (F : zCo y cc' maxL ret' n) (Lk : Cond.methodLink own idx y ∈ zT ∧ Cond.static y ∈ zT) (hd : decode cc pc = .ok (.invokestatic idx, 3)) (hst : st = As.reverse ++ rest) (hn : As.length = n) (hw : (rest.map fun v => v.category).sum ≤ 8) (hR : zRoom rm X.2.2.2.2 maxL) (hc : rc' + rm.cells ≤ rc) (hs : rs' + rm.slots ≤ rs)
    (kk : ∀ v h', Ko' v h' → AW X rc' rs' (pc + 3) lv (v.toList ++ rest) h' Ko) : AW X rc rs pc lv st h Ko := by
  refine aw_run As.toArray rc' rs' hc hs (fun H locs ls cells slots a1 a3 a4 a5 => ?_) kk
  exact va_runS ⟨B.1, B.2.1, B.2.2.1, B.2.2.2.1, B.2.2.2.2.1⟩ S ⟨zcb B F Lk.1 hR, B.2.2.2.2.1 _ Lk.2⟩ ⟨zPc_blind, zpc B a1⟩ rfl hn (a3.trans B.2.2.1) hst (lv_room hw) hd ⟨a4, a5⟩
/-- invokespecial of a constructor -/
theorem aw_callI {idx n maxL : Nat} {b : Nat} {As rest : List Value} {y : MethodName} {cc' : ByteArray} {rm : Room} {Ko' : Option Value → Hp → Prop} (B : zB X cc nL own nm ret) (rc' rs' : Nat) (S : Sp X.1.2.1 (zXg X) y cc' maxL none rm (.ref b :: As) h Ko') (F : zCo y cc' maxL none n) (hy : y.name = "<init>") (Lk : Cond.methodLink own idx y ∈ zT ∧ Cond.instanceMethod y ∈ zT) (hd : decode cc pc = .ok (.invokespecial idx, 3)) (hst : st = As.reverse ++ .ref b :: rest) (hn : As.length = n) (hw : (rest.map fun v => v.category).sum ≤ 8) (hR : zRoom rm X.2.2.2.2 maxL) (hc : rc' + rm.cells ≤ rc) (hs : rs' + rm.slots ≤ rs)
    (kk : ∀ v h', Ko' v h' → AW X rc' rs' (pc + 3) lv (v.toList ++ rest) h' Ko) : AW X rc rs pc lv st h Ko := by
  refine aw_run (Value.ref b :: As).toArray rc' rs' hc hs (fun H locs ls cells slots a1 a3 a4 a5 => ?_) kk
  exact va_runI ⟨B.1, B.2.1, B.2.2.1, B.2.2.2.1, B.2.2.2.2.1⟩ S ⟨zcb B F Lk.1 hR, hy, B.2.2.2.2.1 _ Lk.2⟩ ⟨zPc_blind, zpc B a1⟩ rfl hn (a3.trans B.2.2.1) hst (lv_room hw) hd ⟨a4, a5⟩
theorem zcn {y : MethodName} {cc' : ByteArray} {maxL n idx : Nat} {host : String} {ret' : Option FieldType} {rm : Room} (B : zB X cc nL own nm ret) (F : zCo y cc' maxL ret' n) (hl : (own, idx, y, host) ∈ zNM) (hR : zRoom rm X.2.2.2.2 maxL) : va_CN X.2.2.2.2 X.2.1.1 X.2.1.2.2 own idx y host cc' maxL ret' (Cond.code y cc' maxL ret' :: zT) rm rm.cells rm.slots n :=
  va_cnB n B.2.2.2.2.1 F.good rfl rfl rfl (B.2.2.2.2.2.1.2.1.2 _ hl) (B.2.2.2.2.1 _ F.2.1) ⟨F.2.2.1, F.2.2.2.1, F.2.2.2.2⟩ hR
/-- the private constructor of a nest mate -/
theorem aw_callIN {idx n maxL : Nat} {host : String} {b : Nat} {As rest : List Value} {y : MethodName} {cc' : ByteArray} {rm : Room} {Ko' : Option Value → Hp → Prop} (B : zB X cc nL own nm ret) (rc' rs' : Nat) (S : Sp X.1.2.1 (zXg X) y cc' maxL none rm (.ref b :: As) h Ko') (F : zCo y cc' maxL none n) (hy : y.name = "<init>") (Lk : (own, idx, y, host) ∈ zNM ∧ Cond.instanceMethod y ∈ zT) (hd : decode cc pc = .ok (.invokespecial idx, 3)) (hst : st = As.reverse ++ .ref b :: rest) (hn : As.length = n) (hw : (rest.map fun v => v.category).sum ≤ 8) (hR : zRoom rm X.2.2.2.2 maxL) (hc : rc' + rm.cells ≤ rc) (hs : rs' + rm.slots ≤ rs)
    (kk : ∀ v h', Ko' v h' → AW X rc' rs' (pc + 3) lv (v.toList ++ rest) h' Ko) : AW X rc rs pc lv st h Ko := by
  refine aw_run (Value.ref b :: As).toArray rc' rs' hc hs (fun H locs ls cells slots a1 a3 a4 a5 => ?_) kk
  exact va_runIN ⟨B.1, B.2.1, B.2.2.1, B.2.2.2.1, B.2.2.2.2.1⟩ S ⟨zcn B F Lk.1 hR, hy, B.2.2.2.2.1 _ Lk.2⟩ ⟨zPc_blind, zpc B a1⟩ rfl hn (a3.trans B.2.2.1) hst (lv_room hw) hd ⟨a4, a5⟩
/-- a private method of a nest mate -/
theorem aw_callVN {idx n maxL ci : Nat} {host : String} {b : Nat} {As rest fs : List Value} {y : MethodName} {cc' : ByteArray} {ret' : Option FieldType} {rm : Room} {Ko' : Option Value → Hp → Prop} {r : vw_C} (B : zB X cc nL own nm ret) (rc' rs' : Nat) (S : Sp X.1.2.1 (zXg X) y cc' maxL ret' rm (.ref b :: As) h Ko') (F : zCo y cc' maxL ret' n) (Lk : (own, idx, y, host) ∈ zNM ∧ Cond.instanceMethod y ∈ zT ∧ Cond.selects y.cls y y ∈ zT) (hd : decode cc pc = .ok (.invokevirtual idx, 3)) (hh : h.2 b = some (.inr (ci, fs))) (hcl : vwCl[ci]? = some r) (hcn : r.1 = y.cls) (hst : st = As.reverse ++ .ref b :: rest) (hn : As.length = n) (hw : (rest.map fun v => v.category).sum ≤ 8) (hR : zRoom rm X.2.2.2.2 maxL) (hc : rc' + rm.cells ≤ rc) (hs : rs' + rm.slots ≤ rs)
    (kk : ∀ v h', Ko' v h' → AW X rc' rs' (pc + 3) lv (v.toList ++ rest) h' Ko) : AW X rc rs pc lv st h Ko := by
  refine aw_run (Value.ref b :: As).toArray rc' rs' hc hs (fun H locs ls cells slots a1 a3 a4 a5 => ?_) kk
  refine va_runVN ⟨B.1, B.2.1, B.2.2.1, B.2.2.2.1, B.2.2.2.2.1⟩ S ⟨zcn B F Lk.1 hR, B.2.2.2.2.1 _ Lk.2.1, B.2.2.2.2.1 _ Lk.2.2⟩ ⟨zPc_blind, ?_, zpc B a1⟩ rfl hn (a3.trans B.2.2.1) hst (lv_room hw) hd ⟨a4, a5⟩
  obtain ⟨cell, g1, g2, g3⟩ := zrecv B a1 hh hcl
  exact ⟨cell, g1, g2, by rw [← hcn]; exact g3⟩
/-- a private static method of a nest mate -/
theorem aw_callSN {idx n maxL : Nat} {host : String} {As rest : List Value} {y : MethodName} {cc' : ByteArray} {ret' : Option FieldType} {rm : Room} {Ko' : Option Value → Hp → Prop} (B : zB X cc nL own nm ret) (rc' rs' : Nat) (S : Sp X.1.2.1 (zXg X) y cc' maxL ret' rm As h Ko') (F : zCo y cc' maxL ret' n) (Lk : (own, idx, y, host) ∈ zNM ∧ Cond.static y ∈ zT) (hd : decode cc pc = .ok (.invokestatic idx, 3)) (hst : st = As.reverse ++ rest) (hn : As.length = n) (hw : (rest.map fun v => v.category).sum ≤ 8) (hR : zRoom rm X.2.2.2.2 maxL) (hc : rc' + rm.cells ≤ rc) (hs : rs' + rm.slots ≤ rs)
    (kk : ∀ v h', Ko' v h' → AW X rc' rs' (pc + 3) lv (v.toList ++ rest) h' Ko) : AW X rc rs pc lv st h Ko := by
  refine aw_run As.toArray rc' rs' hc hs (fun H locs ls cells slots a1 a3 a4 a5 => ?_) kk
  exact va_runSN ⟨B.1, B.2.1, B.2.2.1, B.2.2.2.1, B.2.2.2.2.1⟩ S ⟨zcn B F Lk.1 hR, B.2.2.2.2.1 _ Lk.2, trivial⟩ ⟨zPc_blind, zpc B a1⟩ rfl hn (a3.trans B.2.2.1) hst (lv_room hw) hd ⟨a4, a5⟩
/-- invokevirtual of x on a receiver of class C, where y's body is run -/
theorem aw_callU {idx n maxL ci m0 : Nat} {C owner : String} {b : Nat} {As rest fs : List Value} {x y : MethodName} {cc' b0 : ByteArray} {ret' r0 : Option FieldType} {rm : Room} {Ko' : Option Value → Hp → Prop} {r : vw_C} (B : zB X cc nL own nm ret) (rc' rs' : Nat) (S : Sp X.1.2.1 (zXg X) y cc' maxL ret' rm (.ref b :: As) h Ko') (F : zCo y cc' maxL ret' n)
    (Lk : Cond.methodLink own idx x ∈ zT ∧ Cond.sameMethod x.cls owner x.name x.desc ∈ zT ∧ Cond.instanceMethod ⟨owner, x.name, x.desc⟩ ∈ zT ∧ Cond.code ⟨owner, x.name, x.desc⟩ b0 m0 r0 ∈ zT ∧ Cond.selects C x y ∈ zT ∧ Cond.instanceMethod y ∈ zT ∧ owner ≠ "java/lang/invoke/MethodHandle" ∧ owner ≠ "java/lang/invoke/VarHandle" ∧ (parseMethodDescriptor x.desc).map (fun d => d.parameters.length) = some n) (hd : decode cc pc = .ok (.invokevirtual idx, 3)) (hh : h.2 b = some (.inr (ci, fs))) (hcl : vwCl[ci]? = some r) (hcn : r.1 = C) (hst : st = As.reverse ++ .ref b :: rest) (hn : As.length = n) (hw : (rest.map fun v => v.category).sum ≤ 8) (hR : zRoom rm X.2.2.2.2 maxL) (hc : rc' + rm.cells ≤ rc) (hs : rs' + rm.slots ≤ rs)
    (kk : ∀ v h', Ko' v h' → AW X rc' rs' (pc + 3) lv (v.toList ++ rest) h' Ko) : AW X rc rs pc lv st h Ko := by
  refine aw_run (Value.ref b :: As).toArray rc' rs' hc hs (fun H locs ls cells slots a1 a3 a4 a5 => ?_) kk
  obtain ⟨l1, l2, l3, l4, l5, l6, l7, l8, l9⟩ := Lk
  have hts := B.2.2.2.2.1
  refine va_runU (owner := owner) (x := x) ⟨B.1, B.2.1, B.2.2.1, B.2.2.2.1, B.2.2.2.2.1⟩ S ⟨⟨rfl, rfl, hR.1, hR.2, pay_in hts F.good, List.mem_cons_self⟩, hts _ F.1, hts _ F.2.1, ⟨l7, l8⟩, fun sig h2 => ?_, hts _ l1, hts _ l2, va_Decl.of (hts _ l3) (hts _ l4), hts _ l5, hts _ l6⟩ ⟨zPc_blind, ?_, zpc B a1⟩ rfl hn (a3.trans B.2.2.1) hst (lv_room hw) hd ⟨a4, a5⟩
  · rw [h2] at l9
    exact (Option.some.inj l9).symm
  · obtain ⟨cell, g1, g2, g3⟩ := zrecv B a1 hh hcl
    exact ⟨cell, g1, g2, by rw [← hcn]; exact g3⟩
/-- super.m(..) -/
theorem aw_callSU {idx n maxL ci : Nat} {b : Nat} {As rest fs : List Value} {y : MethodName} {cc' : ByteArray} {ret' : Option FieldType} {rm : Room} {Ko' : Option Value → Hp → Prop} {r : vw_C} (B : zB X cc nL own nm ret) (rc' rs' : Nat) (S : Sp X.1.2.1 (zXg X) y cc' maxL ret' rm (.ref b :: As) h Ko') (F : zCo y cc' maxL ret' n) (Lk : Cond.methodLink own idx y ∈ zT ∧ Cond.sameMethod y.cls y.cls y.name y.desc ∈ zT ∧ Cond.superclass own y.cls ∈ zT ∧ Cond.instanceMethod y ∈ zT ∧ y.name ≠ "<init>") (hd : decode cc pc = .ok (.invokespecial idx, 3)) (hh : h.2 b = some (.inr (ci, fs))) (hcl : vwCl[ci]? = some r) (hst : st = As.reverse ++ .ref b :: rest) (hn : As.length = n) (hw : (rest.map fun v => v.category).sum ≤ 8) (hR : zRoom rm X.2.2.2.2 maxL) (hc : rc' + rm.cells ≤ rc) (hs : rs' + rm.slots ≤ rs)
    (kk : ∀ v h', Ko' v h' → AW X rc' rs' (pc + 3) lv (v.toList ++ rest) h' Ko) : AW X rc rs pc lv st h Ko := by
  refine aw_run (Value.ref b :: As).toArray rc' rs' hc hs (fun H locs ls cells slots a1 a3 a4 a5 => ?_) kk
  obtain ⟨l1, l2, l3, l4, l5⟩ := Lk
  have hts := B.2.2.2.2.1
  refine va_runSU (C := r.1) (B.2.2.2.2.2.1.1.1 ci r hcl).2 ⟨B.1, B.2.1, B.2.2.1, B.2.2.2.1, B.2.2.2.2.1⟩ S ⟨⟨rfl, rfl, hR.1, hR.2, pay_in hts F.good, List.mem_cons_self⟩, hts _ l1, hts _ l2, hts _ l3, hts _ l4, hts _ F.2.1, hts _ F.1, l5, fun sig h2 => ?_⟩ ⟨zPc_blind, zrecv B a1 hh hcl, zpc B a1⟩ rfl hn (a3.trans B.2.2.1) hst (lv_room hw) hd ⟨a4, a5⟩
  have l9 := F.2.2.2.2
  rw [h2] at l9
  exact (Option.some.inj l9).symm
/-- Object.<init> -/
theorem aw_objInit (B : zB X cc nL own nm ret) {idx a : Nat} (Lk : Cond.methodLink own idx objectInit ∈ zT ∧ Cond.instanceMethod objectInit ∈ zT ∧ Cond.code objectInit ⟨#[0xb1]⟩ 1 none ∈ zT) (hd : decode cc pc = .ok (.invokespecial idx, 3)) (hw : (st.map fun v => v.category).sum ≤ 8) (hR : 1 ≤ X.2.2.2.2.frames ∧ 20 ≤ X.2.2.2.2.locals) (kk : AW X rc rs (pc + 3) lv st h Ko) : AW X rc rs pc lv (.ref a :: st) h Ko := by
  intro H locs ls cells slots a1 a2 a3 a4 a5
  have hts := B.2.2.2.2.1
  have := hR.2
  refine W.objInit B.1 B.2.1 B.2.2.2.1 (hts _ Lk.1) (hts _ Lk.2.1) (hts _ Lk.2.2) rfl (by exact a3.size) rfl hd hR.1 ?_ (kk H locs ls cells slots a1 a2 a3 a4 a5)
  have := lv_room (pc := pc) (ls := ls) (rest := .ref a :: st) (m := X.2.1.2.1) hw
  omega
def zMa (own : String) (idx : Nat) (y : MethodName) (cc : ByteArray) (n : Nat) : Prop := Cond.methodLink own idx y ∈ zT ∧ Cond.static y ∈ zT ∧ Cond.initialized "java/lang/Math" ∈ zT ∧ Cond.code y cc n (some .int) ∈ zT
theorem aw_mmax (B : zB X cc nL own nm ret) {idx : Nat} {x y : Int32} (F : zMa own idx Lib.Math.max.name Lib.Math.max.code 2) (hd : decode cc pc = .ok (.invokestatic idx, 3)) (hw : (st.map fun v => v.category).sum ≤ 8) (hR : 1 ≤ X.2.2.2.2.frames ∧ 21 ≤ X.2.2.2.2.locals) (kk : AW X rc rs (pc + 3) lv (.int (if x < y then y else x) :: st) h Ko) : AW X rc rs pc lv (.int y :: .int x :: st) h Ko := fun H locs ls cells slots a1 a2 a3 a4 a5 =>
  va_mmax B.1 B.2.1 a3.size.symm B.2.2.2.1 (B.2.2.2.2.1 _ F.1) (B.2.2.2.2.1 _ F.2.1) (B.2.2.2.2.1 _ F.2.2.1) (B.2.2.2.2.1 _ F.2.2.2) hR.1 (by have := hR.2; omega) (by omega) (by omega) hd (kk H locs ls cells slots a1 a2 a3 a4 a5)
theorem aw_mmin (B : zB X cc nL own nm ret) {idx : Nat} {x y : Int32} (F : zMa own idx Lib.Math.min.name Lib.Math.min.code 2) (hd : decode cc pc = .ok (.invokestatic idx, 3)) (hw : (st.map fun v => v.category).sum ≤ 8) (hR : 1 ≤ X.2.2.2.2.frames ∧ 21 ≤ X.2.2.2.2.locals) (kk : AW X rc rs (pc + 3) lv (.int (if y < x then y else x) :: st) h Ko) : AW X rc rs pc lv (.int y :: .int x :: st) h Ko := fun H locs ls cells slots a1 a2 a3 a4 a5 =>
  va_mmin B.1 B.2.1 a3.size.symm B.2.2.2.1 (B.2.2.2.2.1 _ F.1) (B.2.2.2.2.1 _ F.2.1) (B.2.2.2.2.1 _ F.2.2.1) (B.2.2.2.2.1 _ F.2.2.2) hR.1 (by have := hR.2; omega) (by omega) (by omega) hd (kk H locs ls cells slots a1 a2 a3 a4 a5)
theorem aw_mabs (B : zB X cc nL own nm ret) {idx : Nat} {x : Int32} (F : zMa own idx Lib.Math.abs.name Lib.Math.abs.code 1) (hd : decode cc pc = .ok (.invokestatic idx, 3)) (hw : (st.map fun v => v.category).sum ≤ 8) (hR : 1 ≤ X.2.2.2.2.frames ∧ 21 ≤ X.2.2.2.2.locals) (kk : AW X rc rs (pc + 3) lv (.int (if 0 ≤ x then x else 0 - x) :: st) h Ko) : AW X rc rs pc lv (.int x :: st) h Ko := fun H locs ls cells slots a1 a2 a3 a4 a5 =>
  va_mabs B.1 B.2.1 a3.size.symm B.2.2.2.1 (B.2.2.2.2.1 _ F.1) (B.2.2.2.2.1 _ F.2.1) (B.2.2.2.2.1 _ F.2.2.1) (B.2.2.2.2.1 _ F.2.2.2) hR.1 (by have := hR.2; omega) (by omega) (by omega) hd (kk H locs ls cells slots a1 a2 a3 a4 a5)
/-- answers -/
def zI (P : Int32 → Hp → Prop) : Option Value → Hp → Prop := fun v h' => ∃ r : Int32, v = some (.int r) ∧ P r h'
def zJ (P : Int64 → Hp → Prop) : Option Value → Hp → Prop := fun v h' => ∃ r : Int64, v = some (.long r) ∧ P r h'
def zV (P : Hp → Prop) : Option Value → Hp → Prop := fun v h' => v = none ∧ P h'
def zO (P : Option Nat → Hp → Prop) : Option Value → Hp → Prop := fun v h' => ∃ r : Option Nat, v = some (va_rf r) ∧ P r h'
theorem kI {P : Int32 → Hp → Prop} {rest : List Value} (k : ∀ r h', P r h' → AW X rc rs pc lv (.int r :: rest) h' Ko) : ∀ v h', zI P v h' → AW X rc rs pc lv (v.toList ++ rest) h' Ko := fun _ h' ⟨r, e, hp⟩ => by subst e; exact k r h' hp
theorem kJ {P : Int64 → Hp → Prop} {rest : List Value} (k : ∀ r h', P r h' → AW X rc rs pc lv (.long r :: rest) h' Ko) : ∀ v h', zJ P v h' → AW X rc rs pc lv (v.toList ++ rest) h' Ko := fun _ h' ⟨r, e, hp⟩ => by subst e; exact k r h' hp
theorem kV {P : Hp → Prop} {rest : List Value} (k : ∀ h', P h' → AW X rc rs pc lv rest h' Ko) : ∀ v h', zV P v h' → AW X rc rs pc lv (v.toList ++ rest) h' Ko := fun _ h' ⟨e, hp⟩ => by subst e; exact k h' hp
theorem kO {P : Option Nat → Hp → Prop} {rest : List Value} (k : ∀ r h', P r h' → AW X rc rs pc lv (va_rf r :: rest) h' Ko) : ∀ v h', zO P v h' → AW X rc rs pc lv (v.toList ++ rest) h' Ko := fun _ h' ⟨r, e, hp⟩ => by subst e; exact k r h' hp
end ZCALLS
