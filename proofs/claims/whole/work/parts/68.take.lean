/-! arrays of readers -/
theorem W_aastN {p : Program} {l : Launch} {e : Env} {R : Room} {s : State} {m : MethodId} {args : Array Value} {below : List Frame} {meth : Method} {c : Code} {H : Heap} {locs : List Loc} {cells slots : Nat} {Q : State → Prop} {cc : ByteArray} (hexec : p.tables.exec = Jvm.exec) (hb : c.code = cc) {a : Addr} {cell : Cell} {j : Int32} {k : Class} {comp : ClassId} {t : FieldType}
    (hcell : H[a]? = some cell) (hobj : ∀ q, cell.vm ≠ .statics q) (hknown : cell.vm ≠ .unknown) (hk : s.vm.classes[cell.cls]? = some k) (hkind : k.kind = .array comp t) (href : t.isReference = true) (hin : ¬ j < 0 ∧ j.toNatClampNeg < cell.slots.size)
    {g : JFrame} (hg : g.method = m) {rest : List Value} (hstack : g.stack = .null :: .int j :: .ref a :: rest) (hdg : decode cc g.pc = .ok (.aastore, 1))
    (kk : ∀ H' : Heap, H'[a]? = some (cell.setSlot j.toNatClampNeg .null) → H'.size = H.size → (∀ q, q ≠ a → H'[q]? = H[q]?) → W p l e R s m args below meth c H' (locs ++ [⟨a, j.toNatClampNeg⟩]) cells slots Q { g with pc := g.pc + 1, stack := rest }) : W p l e R s m args below meth c H locs cells slots Q g := by
  intro T hT X
  have hT' : T.heap[a]? = some cell := by rw [hT]; exact hcell
  obtain ⟨X', st⟩ := X.aastoreNullInK hexec hT' hobj hknown hk hkind href hin hg hstack (by rw [hb]; exact hdg)
  have hlt : a < T.heap.size := (Array.getElem?_eq_some_iff.mp hT').1
  obtain ⟨t', a1, b1⟩ := kk _ (heapAt_setCell_self _ hlt) (by rw [size_setCell, hT]) (fun q hq => by rw [heapAt_setCell_ne _ (Ne.symm hq), hT]) (T.setCell a (cell.setSlot j.toNatClampNeg .null)) rfl X'
  exact ⟨t', st t' a1, b1⟩
section ZAA
variable {X : zX} {cc : ByteArray} {nL : Nat} {own nm : String} {ret : Option FieldType} {rc rs pc : Nat} {lv : List (Option Value)} {st : List Value} {h : Hp} {Ko : Option Value → Hp → Prop}
theorem aw_aastN (B : zB X cc nL own nm ret) {a n : Nat} {f : Nat → Option Nat} {i : Int32} (hd : decode cc pc = .ok (.aastore, 1)) (hh : h.2 a = some (.inl ((zXg X).2.2.1.2.2, n, .inr (.inr (.inr (.inr f)))))) (hin : vp_in i n) (kk : AW X rc rs (pc + 1) lv st (hp_up h a (.inl ((zXg X).2.2.1.2.2, n, .inr (.inr (.inr (.inr (va_up f i.toNatClampNeg none))))))) Ko) : AW X rc rs pc lv (.null :: .int i :: .ref a :: st) h Ko := by
  intro H locs ls cells slots a1 a2 a3 a4 a5
  have hlt : i.toNatClampNeg < n := Nat.not_le.mp fun q => hin (Or.inr q)
  have h0 : ¬ i < 0 := fun q => hin (Or.inl q)
  have hK := B.2.2.2.2.2.1.1
  obtain ⟨kA, comp, k1, k2, k3, -⟩ := (hK.2 2 _ rfl).2
  refine W_aastN B.1 B.2.1 (a1.2.2.2 a _ hh).2 (fun q h => by cases h) (fun h => by cases h) k1 k2 rfl ⟨h0, by show _ < (arrV _ _ _).slots.size; rw [arrV_size]; exact hlt⟩ rfl rfl hd fun H1 e z oq => ?_
  refine kk H1 _ ls cells slots (a1.up hh z oq ?_) (zlocs a1 hh a2) a3 a4 a5
  show H1[a]? = some (vp_cell _ _)
  rw [e]
  rw [vp_cell_q, vp_cell_q, arrV_store]
  congr 2
  funext q
  by_cases hq : q = i.toNatClampNeg
  · subst hq
    simp [updV, va_up, va_rf]
  · simp [updV, va_up, hq]

theorem asg_self (vm : Vm) (c : ClassId) : vm.assignable c c = true := by
  show vm.assignableAux _ c c = true
  unfold Vm.assignableAux
  simp

theorem spw_Fast : Cond.superclass "LowWater$Fast" "LowWater$Reader" ∈ zT := zT_t (i := 363) (by decide +kernel) (by decide +kernel)
theorem spw_Diver : Cond.superclass "LowWater$Diver" "LowWater$Reader" ∈ zT := zT_t (i := 372) (by decide +kernel) (by decide +kernel)
theorem spw_Rowed : Cond.superclass "LowWater$Rowed" "LowWater$Reader" ∈ zT := zT_t (i := 381) (by decide +kernel) (by decide +kernel)
theorem spw_Quick : Cond.superclass "LowWater$Quick" "LowWater$Fast" ∈ zT := zT_t (i := 390) (by decide +kernel) (by decide +kernel)
theorem spw_Blind : Cond.superclass "LowWater$Blind" "LowWater$Diver" ∈ zT := zT_t (i := 399) (by decide +kernel) (by decide +kernel)
theorem spw_Waiting : Cond.superclass "LowWater$Waiting" "LowWater$Rowed" ∈ zT := zT_t (i := 408) (by decide +kernel) (by decide +kernel)
theorem spw_Reader : Cond.superclass "LowWater$Reader" "java/lang/Object" ∈ zT := zT_t (i := 414) (by decide +kernel) (by decide +kernel)
theorem sub_s {vm : Vm} {c p : ClassId} {k : Class} (hk : vm.classes[c]? = some k) (hs : k.super = some p) (n : Nat) (t : ClassId) (h : vm.isSubclassAux n p t = true) : vm.isSubclassAux (n + 1) c t = true := by
  unfold Vm.isSubclassAux
  simp [hk, hs, h]
theorem sub_r (vm : Vm) (n : Nat) (t : ClassId) : vm.isSubclassAux (n + 1) t t = true := by
  unfold Vm.isSubclassAux
  simp
theorem asg_o {vm : Vm} {c t : ClassId} {kc kt : Class} (hc : vm.classes[c]? = some kc) (ht : vm.classes[t]? = some kt) (k1 : kc.kind = .ordinary) (k2 : kt.kind = .ordinary) (hi : kt.isInterface = false) (hs : vm.isSubclass c t = true) : vm.assignable c t = true := by
  show vm.assignableAux 256 c t = true
  unfold Vm.assignableAux
  simp [hc, ht, k1, k2, hi, hs]
theorem asg_two {vm : Vm} {c p t : ClassId} {kc kp kt : Class} (hc : vm.classes[c]? = some kc) (hp : vm.classes[p]? = some kp) (ht : vm.classes[t]? = some kt) (s1 : kc.super = some p) (s2 : kp.super = some t) (k1 : kc.kind = .ordinary) (k2 : kt.kind = .ordinary) (hi : kt.isInterface = false) : vm.assignable c t = true := by
  by_cases e : c = t
  · rw [e]; exact asg_self _ _
  · refine asg_o hc ht k1 k2 hi ?_
    have l1 : c < vm.classes.size := (Array.getElem?_eq_some_iff.mp hc).1
    have l2 : t < vm.classes.size := (Array.getElem?_eq_some_iff.mp ht).1
    obtain ⟨n, hn⟩ : ∃ n, vm.classes.size = n + 2 := by
      rcases hz : vm.classes.size with _ | _ | n
      · rw [hz] at l1; exact absurd l1 (Nat.not_lt_zero _)
      · rw [hz] at l1 l2; exact absurd ((Nat.lt_one_iff.mp l1).trans (Nat.lt_one_iff.mp l2).symm) e
      · exact ⟨n, rfl⟩
    unfold Vm.isSubclass
    rw [hn]
    exact sub_s hc s1 _ _ (sub_s hp s2 _ _ (sub_r _ _ _))
theorem asg_one {vm : Vm} {c t : ClassId} {kc kt : Class} (hc : vm.classes[c]? = some kc) (ht : vm.classes[t]? = some kt) (s1 : kc.super = some t) (k1 : kc.kind = .ordinary) (k2 : kt.kind = .ordinary) (hi : kt.isInterface = false) : vm.assignable c t = true := by
  refine asg_o hc ht k1 k2 hi ?_
  have l1 : c < vm.classes.size := (Array.getElem?_eq_some_iff.mp hc).1
  obtain ⟨n, hn⟩ : ∃ n, vm.classes.size = n + 1 := by
    rcases hz : vm.classes.size with _ | n
    · rw [hz] at l1; exact absurd l1 (Nat.not_lt_zero _)
    · exact ⟨n, rfl⟩
  unfold Vm.isSubclass
  rw [hn]
  exact sub_s hc s1 _ _ (sub_r _ _ _)
theorem cs_0 (B : zB X cc nL own nm ret) : ∃ comp kt, X.2.1.1.vm.findClass "LowWater$Reader" = some comp ∧ X.2.1.1.vm.classes[comp]? = some kt ∧ kt.kind = .ordinary ∧ kt.isInterface = false := by
  have f0 := (B.2.2.2.2.2.1.1.1 6 (RX6, TX6, 2) rfl).2.1
  obtain ⟨p, k, kp, a1, a2, a3, a4, a5, a6, a7⟩ := Cond.superclass_spec f0 (B.2.2.2.2.1 _ spw_Reader)
  exact ⟨_, k, f0, a2, a5, a7⟩
theorem cs_1 (B : zB X cc nL own nm ret) : ∃ cC comp : ClassId, X.2.1.1.vm.findClass RX3 = some cC ∧ X.2.1.1.vm.findClass "LowWater$Reader" = some comp ∧ X.2.1.1.vm.assignable cC comp = true := by
  obtain ⟨comp, kt, t1, t2, t3, t4⟩ := cs_0 B
  have f0 := (B.2.2.2.2.2.1.1.1 3 (RX3, TX3, 2) rfl).2.1
  obtain ⟨p, k, kp, a1, a2, a3, a4, a5, a6, a7⟩ := Cond.superclass_spec f0 (B.2.2.2.2.1 _ spw_Fast)
  have e1 : p = comp := Option.some.inj (a1.symm.trans t1)
  subst e1
  exact ⟨_, p, f0, t1, asg_one a2 t2 a4 a5 t3 t4⟩
theorem cs_2 (B : zB X cc nL own nm ret) : ∃ cC comp : ClassId, X.2.1.1.vm.findClass RX2 = some cC ∧ X.2.1.1.vm.findClass "LowWater$Reader" = some comp ∧ X.2.1.1.vm.assignable cC comp = true := by
  obtain ⟨comp, kt, t1, t2, t3, t4⟩ := cs_0 B
  have f0 := (B.2.2.2.2.2.1.1.1 2 (RX2, TX2, 2) rfl).2.1
  obtain ⟨p, k, kp, a1, a2, a3, a4, a5, a6, a7⟩ := Cond.superclass_spec f0 (B.2.2.2.2.1 _ spw_Diver)
  have e1 : p = comp := Option.some.inj (a1.symm.trans t1)
  subst e1
  exact ⟨_, p, f0, t1, asg_one a2 t2 a4 a5 t3 t4⟩
theorem cs_3 (B : zB X cc nL own nm ret) : ∃ cC comp : ClassId, X.2.1.1.vm.findClass RX8 = some cC ∧ X.2.1.1.vm.findClass "LowWater$Reader" = some comp ∧ X.2.1.1.vm.assignable cC comp = true := by
  obtain ⟨comp, kt, t1, t2, t3, t4⟩ := cs_0 B
  have f0 := (B.2.2.2.2.2.1.1.1 8 (RX8, TX8, 2) rfl).2.1
  obtain ⟨p, k, kp, a1, a2, a3, a4, a5, a6, a7⟩ := Cond.superclass_spec f0 (B.2.2.2.2.1 _ spw_Rowed)
  have e1 : p = comp := Option.some.inj (a1.symm.trans t1)
  subst e1
  exact ⟨_, p, f0, t1, asg_one a2 t2 a4 a5 t3 t4⟩
theorem cs_4 (B : zB X cc nL own nm ret) : ∃ cC comp : ClassId, X.2.1.1.vm.findClass RX5 = some cC ∧ X.2.1.1.vm.findClass "LowWater$Reader" = some comp ∧ X.2.1.1.vm.assignable cC comp = true := by
  obtain ⟨comp, kt, t1, t2, t3, t4⟩ := cs_0 B
  have f0 := (B.2.2.2.2.2.1.1.1 5 (RX5, TX5, 2) rfl).2.1
  obtain ⟨p, k, kp, a1, a2, a3, a4, a5, a6, a7⟩ := Cond.superclass_spec f0 (B.2.2.2.2.1 _ spw_Quick)
  obtain ⟨p2, k2, kp2, b1, b2, b3, b4, b5, b6, b7⟩ := Cond.superclass_spec a1 (B.2.2.2.2.1 _ spw_Fast)
  have e1 : p2 = comp := Option.some.inj (b1.symm.trans t1)
  subst e1
  exact ⟨_, p2, f0, t1, asg_two a2 b2 t2 a4 b4 a5 t3 t4⟩
theorem cs_5 (B : zB X cc nL own nm ret) : ∃ cC comp : ClassId, X.2.1.1.vm.findClass RX0 = some cC ∧ X.2.1.1.vm.findClass "LowWater$Reader" = some comp ∧ X.2.1.1.vm.assignable cC comp = true := by
  obtain ⟨comp, kt, t1, t2, t3, t4⟩ := cs_0 B
  have f0 := (B.2.2.2.2.2.1.1.1 0 (RX0, TX0, 2) rfl).2.1
  obtain ⟨p, k, kp, a1, a2, a3, a4, a5, a6, a7⟩ := Cond.superclass_spec f0 (B.2.2.2.2.1 _ spw_Blind)
  obtain ⟨p2, k2, kp2, b1, b2, b3, b4, b5, b6, b7⟩ := Cond.superclass_spec a1 (B.2.2.2.2.1 _ spw_Diver)
  have e1 : p2 = comp := Option.some.inj (b1.symm.trans t1)
  subst e1
  exact ⟨_, p2, f0, t1, asg_two a2 b2 t2 a4 b4 a5 t3 t4⟩
theorem cs_6 (B : zB X cc nL own nm ret) : ∃ cC comp : ClassId, X.2.1.1.vm.findClass RX10 = some cC ∧ X.2.1.1.vm.findClass "LowWater$Reader" = some comp ∧ X.2.1.1.vm.assignable cC comp = true := by
  obtain ⟨comp, kt, t1, t2, t3, t4⟩ := cs_0 B
  have f0 := (B.2.2.2.2.2.1.1.1 10 (RX10, TX10, 2) rfl).2.1
  obtain ⟨p, k, kp, a1, a2, a3, a4, a5, a6, a7⟩ := Cond.superclass_spec f0 (B.2.2.2.2.1 _ spw_Waiting)
  obtain ⟨p2, k2, kp2, b1, b2, b3, b4, b5, b6, b7⟩ := Cond.superclass_spec a1 (B.2.2.2.2.1 _ spw_Rowed)
  have e1 : p2 = comp := Option.some.inj (b1.symm.trans t1)
  subst e1
  exact ⟨_, p2, f0, t1, asg_two a2 b2 t2 a4 b4 a5 t3 t4⟩
theorem aw_aastR (B : zB X cc nL own nm ret) {a n v k : Nat} {num vv : Int32} {f : Nat → Option Nat} {i : Int32} (hk : k ≤ 6) (hd : decode cc pc = .ok (.aastore, 1)) (hh : h.2 a = some (.inl ((zXg X).2.2.1.2.2, n, .inr (.inr (.inr (.inr f)))))) (hin : vp_in i n) (hv : h.2 v = some (.inr (kc k, [.int num, .int vv]))) (kk : AW X rc rs (pc + 1) lv st (hp_up h a (.inl ((zXg X).2.2.1.2.2, n, .inr (.inr (.inr (.inr (va_up f i.toNatClampNeg (some v)))))))) Ko) : AW X rc rs pc lv (.ref v :: .int i :: .ref a :: st) h Ko := by
  rcases (show k = 0 ∨ k = 1 ∨ k = 2 ∨ k = 3 ∨ k = 4 ∨ k = 5 ∨ k = 6 by omega) with rfl | rfl | rfl | rfl | rfl | rfl | rfl
  · refine aw_aast B hd hh hin hv (r := (RX6, TX6, 2)) rfl ?_ kk
    obtain ⟨kA, comp, k1, k2, k3, -⟩ := (B.2.2.2.2.2.1.1.2 2 _ rfl).2
    exact ⟨comp, comp, k3, k3, asg_self _ _⟩
  · exact aw_aast B hd hh hin hv (r := (RX3, TX3, 2)) rfl (cs_1 B) kk
  · exact aw_aast B hd hh hin hv (r := (RX2, TX2, 2)) rfl (cs_2 B) kk
  · exact aw_aast B hd hh hin hv (r := (RX8, TX8, 2)) rfl (cs_3 B) kk
  · exact aw_aast B hd hh hin hv (r := (RX5, TX5, 2)) rfl (cs_4 B) kk
  · exact aw_aast B hd hh hin hv (r := (RX0, TX0, 2)) rfl (cs_5 B) kk
  · exact aw_aast B hd hh hin hv (r := (RX10, TX10, 2)) rfl (cs_6 B) kk
end ZAA
theorem stI.o {g : zG} {h : Hp} {y s ca : Nat} {S : Nat → Int32} {Q : pP} {n : Nat → Nat} (p : stI g h y s ca S Q n) : h.2 s = some (.inr (9, stO s ca (S 8) (S 2) (S 1))) := p.1
theorem caveX.o {g : zG} {h : Hp} {k : Nat} (p : caveX g h k) : ∃ fs, h.2 k = some (.inr (1, fs)) := by
  obtain ⟨tx, sf, nf, sz, tf, pl, p1⟩ := p
  exact ⟨_, p1 0 (by decide)⟩
theorem dX9_takeFrom_0 : decode cX9_takeFrom 0 = .ok (.aload_n 0, 1) := by decide +kernel
theorem dX9_takeFrom_1 : decode cX9_takeFrom 1 = .ok (.aload_n 1, 1) := by decide +kernel
theorem dX9_takeFrom_2 : decode cX9_takeFrom 2 = .ok (.getfield 9, 3) := by decide +kernel
theorem dX9_takeFrom_5 : decode cX9_takeFrom 5 = .ok (.putfield 9, 3) := by decide +kernel
theorem dX9_takeFrom_8 : decode cX9_takeFrom 8 = .ok (.aload_n 0, 1) := by decide +kernel
theorem dX9_takeFrom_9 : decode cX9_takeFrom 9 = .ok (.aload_n 1, 1) := by decide +kernel
theorem dX9_takeFrom_10 : decode cX9_takeFrom 10 = .ok (.getfield 15, 3) := by decide +kernel
theorem dX9_takeFrom_13 : decode cX9_takeFrom 13 = .ok (.putfield 15, 3) := by decide +kernel
theorem dX9_takeFrom_16 : decode cX9_takeFrom 16 = .ok (.aload_n 0, 1) := by decide +kernel
theorem dX9_takeFrom_17 : decode cX9_takeFrom 17 = .ok (.aload_n 1, 1) := by decide +kernel
theorem dX9_takeFrom_18 : decode cX9_takeFrom 18 = .ok (.getfield 18, 3) := by decide +kernel
theorem dX9_takeFrom_21 : decode cX9_takeFrom 21 = .ok (.putfield 18, 3) := by decide +kernel
theorem dX9_takeFrom_24 : decode cX9_takeFrom 24 = .ok (.aload_n 0, 1) := by decide +kernel
theorem dX9_takeFrom_25 : decode cX9_takeFrom 25 = .ok (.getfield 24, 3) := by decide +kernel
theorem dX9_takeFrom_28 : decode cX9_takeFrom 28 = .ok (.aload_n 1, 1) := by decide +kernel
theorem dX9_takeFrom_29 : decode cX9_takeFrom 29 = .ok (.getfield 24, 3) := by decide +kernel
theorem dX9_takeFrom_32 : decode cX9_takeFrom 32 = .ok (.invokevirtual 58, 3) := by decide +kernel
theorem dX9_takeFrom_35 : decode cX9_takeFrom 35 = .ok (.iconst 0, 1) := by decide +kernel
theorem dX9_takeFrom_36 : decode cX9_takeFrom 36 = .ok (.istore_n 2, 1) := by decide +kernel
theorem dX9_takeFrom_37 : decode cX9_takeFrom 37 = .ok (.iload_n 2, 1) := by decide +kernel
theorem dX9_takeFrom_38 : decode cX9_takeFrom 38 = .ok (.iconst 4, 1) := by decide +kernel
theorem dX9_takeFrom_39 : decode cX9_takeFrom 39 = .ok (.if_icmp .ge 21, 3) := by decide +kernel
theorem dX9_takeFrom_42 : decode cX9_takeFrom 42 = .ok (.aload_n 0, 1) := by decide +kernel
theorem dX9_takeFrom_43 : decode cX9_takeFrom 43 = .ok (.getfield 30, 3) := by decide +kernel
theorem dX9_takeFrom_46 : decode cX9_takeFrom 46 = .ok (.iload_n 2, 1) := by decide +kernel
theorem dX9_takeFrom_47 : decode cX9_takeFrom 47 = .ok (.aload_n 1, 1) := by decide +kernel
theorem dX9_takeFrom_48 : decode cX9_takeFrom 48 = .ok (.getfield 30, 3) := by decide +kernel
theorem dX9_takeFrom_51 : decode cX9_takeFrom 51 = .ok (.iload_n 2, 1) := by decide +kernel
theorem dX9_takeFrom_52 : decode cX9_takeFrom 52 = .ok (.aaload, 1) := by decide +kernel
theorem dX9_takeFrom_53 : decode cX9_takeFrom 53 = .ok (.aastore, 1) := by decide +kernel
theorem dX9_takeFrom_54 : decode cX9_takeFrom 54 = .ok (.iinc 2 1, 3) := by decide +kernel
theorem dX9_takeFrom_57 : decode cX9_takeFrom 57 = .ok (.goto (-20), 3) := by decide +kernel
theorem dX9_takeFrom_60 : decode cX9_takeFrom 60 = .ok (.aload_n 0, 1) := by decide +kernel
theorem dX9_takeFrom_61 : decode cX9_takeFrom 61 = .ok (.getfield 39, 3) := by decide +kernel
theorem dX9_takeFrom_64 : decode cX9_takeFrom 64 = .ok (.aload_n 1, 1) := by decide +kernel
theorem dX9_takeFrom_65 : decode cX9_takeFrom 65 = .ok (.getfield 39, 3) := by decide +kernel
theorem dX9_takeFrom_68 : decode cX9_takeFrom 68 = .ok (.invokevirtual 62, 3) := by decide +kernel
theorem dX9_takeFrom_71 : decode cX9_takeFrom 71 = .ok (.aload_n 0, 1) := by decide +kernel
theorem dX9_takeFrom_72 : decode cX9_takeFrom 72 = .ok (.getfield 43, 3) := by decide +kernel
theorem dX9_takeFrom_75 : decode cX9_takeFrom 75 = .ok (.aload_n 1, 1) := by decide +kernel
theorem dX9_takeFrom_76 : decode cX9_takeFrom 76 = .ok (.getfield 43, 3) := by decide +kernel
theorem dX9_takeFrom_79 : decode cX9_takeFrom 79 = .ok (.invokevirtual 62, 3) := by decide +kernel
theorem dX9_takeFrom_82 : decode cX9_takeFrom 82 = .ok (.aload_n 0, 1) := by decide +kernel
theorem dX9_takeFrom_83 : decode cX9_takeFrom 83 = .ok (.getfield 46, 3) := by decide +kernel
theorem dX9_takeFrom_86 : decode cX9_takeFrom 86 = .ok (.aload_n 1, 1) := by decide +kernel
theorem dX9_takeFrom_87 : decode cX9_takeFrom 87 = .ok (.getfield 46, 3) := by decide +kernel
theorem dX9_takeFrom_90 : decode cX9_takeFrom 90 = .ok (.invokevirtual 62, 3) := by decide +kernel
theorem dX9_takeFrom_93 : decode cX9_takeFrom 93 = .ok (.aload_n 0, 1) := by decide +kernel
theorem dX9_takeFrom_94 : decode cX9_takeFrom 94 = .ok (.getfield 49, 3) := by decide +kernel
theorem dX9_takeFrom_97 : decode cX9_takeFrom 97 = .ok (.aload_n 1, 1) := by decide +kernel
theorem dX9_takeFrom_98 : decode cX9_takeFrom 98 = .ok (.getfield 49, 3) := by decide +kernel
theorem dX9_takeFrom_101 : decode cX9_takeFrom 101 = .ok (.invokevirtual 62, 3) := by decide +kernel
theorem dX9_takeFrom_104 : decode cX9_takeFrom 104 = .ok (.aload_n 0, 1) := by decide +kernel
theorem dX9_takeFrom_105 : decode cX9_takeFrom 105 = .ok (.getfield 52, 3) := by decide +kernel
theorem dX9_takeFrom_108 : decode cX9_takeFrom 108 = .ok (.aload_n 1, 1) := by decide +kernel
theorem dX9_takeFrom_109 : decode cX9_takeFrom 109 = .ok (.getfield 52, 3) := by decide +kernel
theorem dX9_takeFrom_112 : decode cX9_takeFrom 112 = .ok (.invokevirtual 62, 3) := by decide +kernel
theorem dX9_takeFrom_115 : decode cX9_takeFrom 115 = .ok (.aload_n 0, 1) := by decide +kernel
theorem dX9_takeFrom_116 : decode cX9_takeFrom 116 = .ok (.getfield 55, 3) := by decide +kernel
theorem dX9_takeFrom_119 : decode cX9_takeFrom 119 = .ok (.aload_n 1, 1) := by decide +kernel
theorem dX9_takeFrom_120 : decode cX9_takeFrom 120 = .ok (.getfield 55, 3) := by decide +kernel
theorem dX9_takeFrom_123 : decode cX9_takeFrom 123 = .ok (.invokevirtual 62, 3) := by decide +kernel
theorem dX9_takeFrom_126 : decode cX9_takeFrom 126 = .ok (.return_, 1) := by decide +kernel
set_option maxRecDepth 100000 in
set_option maxHeartbeats 4000000 in
theorem x_stTake (l : Launch) (g : zG) {h : Hp} {y s ca s2 ca2 T2 : Nat} {S S2 : Nat → Int32} {Q Q2 : pP} {n n2 : Nat → Nat} (p : stI g h y s ca S Q n) (q : stI g h y s2 ca2 S2 Q2 n2) (v2 : iv S2 T2 Q2 n2) (d1 : s2 + 18 ≤ s ∨ s + 18 ≤ s2) (d2 : (s < ca ∧ ca + 4 ≤ s + 5) ∨ s + 18 ≤ ca) (d3 : (s2 < ca2 ∧ ca2 + 4 ≤ s2 + 5) ∨ s2 + 18 ≤ ca2) (d4 : ca + 4 ≤ s2 ∨ s2 + 18 ≤ ca ∨ (s2 < ca ∧ ca + 4 ≤ s2 + 5)) (d5 : ca2 + 4 ≤ s ∨ s + 18 ≤ ca2 ∨ (s < ca2 ∧ ca2 + 4 ≤ s + 5)) (d6 : ca + 4 ≤ ca2 ∨ ca2 + 4 ≤ ca) (d7 : s + 18 ≤ y ∧ ca + 4 ≤ y) : Sp l g yX9_takeFrom cX9_takeFrom 3 none (rmz 5) [.ref s, .ref s2] (h) (zV fun h' => stI g h' y s ca S2 Q2 n2 ∧ h'.1 = h.1 ∧ ∀ a, ¬ (a = s ∨ (ca ≤ a ∧ a < ca + 4) ∨ (s + 5 ≤ a ∧ a < s + 18)) → h'.2 a = h.2 a) := by
  refine Sp.of [some (.ref s), some (.ref s2), none] (by decide) (Nat.le_of_ble_eq_true rfl) rfl rfl ?_
  rintro X rfl hr rfl B
  show AW X 0 0 0 _ _ _ _
  obtain ⟨p1, p2, p3, p4, p5, p6, p7, p8, p9⟩ := p
  obtain ⟨q1, q2, q3, q4, q5, q6, q7, q8, q9⟩ := q
  obtain ⟨v0, v1, v2c, v3, v4, v5, v6, -⟩ := v2
  have w0 := v0.1
  have w1 := v1.1
  have w3 := v3.1
  have w4 := v4.1
  have w5 := v5.1
  have w6 := v6.1
  have ho := p1
  have D : ∀ a, ¬ (a = s ∨ (ca ≤ a ∧ a < ca + 4) ∨ (s + 5 ≤ a ∧ a < s + 5)) → h.2 a = h.2 a := fun a _ => rfl
  have E1 : h.1 = h.1 := rfl
  refine aw_aload_n B 0 rfl dX9_takeFrom_0 rfl ?_
  refine aw_aload_n B 1 rfl dX9_takeFrom_1 rfl ?_
  refine aw_get B f_X9_9 dX9_takeFrom_2 ((D _ (by omega)).trans q1) rfl ?_
  refine aw_put B f_X9_9 dX9_takeFrom_5 ho rfl rfl (by show 0 < 11; decide) ?_
  obtain ⟨hA1, eA1⟩ : ∃ hA : Hp, hA = hp_up h s (.inr (9, (stO s ca (S 8) (S 2) (S 1)).set 0 (.int (S2 8)))) := ⟨_, rfl⟩
  rw [← eA1]
  have o5 : only s (s + 1) h hA1 := by rw [eA1]; exact only.up (by omega) (by omega)
  have ho : hA1.2 s = some (.inr (9, stO s ca (S2 8) (S 2) (S 1))) := by rw [eA1]; exact hu_s
  have D : ∀ a, ¬ (a = s ∨ (ca ≤ a ∧ a < ca + 4) ∨ (s + 5 ≤ a ∧ a < s + 5)) → hA1.2 a = h.2 a := fun a ha => (o5.2 a (by omega)).trans (D a ha)
  have E1 : hA1.1 = h.1 := o5.1.trans E1
  refine aw_aload_n B 0 rfl dX9_takeFrom_8 rfl ?_
  refine aw_aload_n B 1 rfl dX9_takeFrom_9 rfl ?_
  refine aw_get B f_X9_15 dX9_takeFrom_10 ((D _ (by omega)).trans q1) rfl ?_
  refine aw_put B f_X9_15 dX9_takeFrom_13 ho rfl rfl (by show 1 < 11; decide) ?_
  obtain ⟨hA2, eA2⟩ : ∃ hA : Hp, hA = hp_up hA1 s (.inr (9, (stO s ca (S2 8) (S 2) (S 1)).set 1 (.int (S2 2)))) := ⟨_, rfl⟩
  rw [← eA2]
  have o13 : only s (s + 1) hA1 hA2 := by rw [eA2]; exact only.up (by omega) (by omega)
  have ho : hA2.2 s = some (.inr (9, stO s ca (S2 8) (S2 2) (S 1))) := by rw [eA2]; exact hu_s
  have D : ∀ a, ¬ (a = s ∨ (ca ≤ a ∧ a < ca + 4) ∨ (s + 5 ≤ a ∧ a < s + 5)) → hA2.2 a = h.2 a := fun a ha => (o13.2 a (by omega)).trans (D a ha)
  have E1 : hA2.1 = h.1 := o13.1.trans E1
  refine aw_aload_n B 0 rfl dX9_takeFrom_16 rfl ?_
  refine aw_aload_n B 1 rfl dX9_takeFrom_17 rfl ?_
  refine aw_get B f_X9_18 dX9_takeFrom_18 ((D _ (by omega)).trans q1) rfl ?_
  refine aw_put B f_X9_18 dX9_takeFrom_21 ho rfl rfl (by show 2 < 11; decide) ?_
  obtain ⟨hA3, eA3⟩ : ∃ hA : Hp, hA = hp_up hA2 s (.inr (9, (stO s ca (S2 8) (S2 2) (S 1)).set 2 (.int (S2 1)))) := ⟨_, rfl⟩
  rw [← eA3]
  have o21 : only s (s + 1) hA2 hA3 := by rw [eA3]; exact only.up (by omega) (by omega)
  have ho : hA3.2 s = some (.inr (9, stO s ca (S2 8) (S2 2) (S2 1))) := by rw [eA3]; exact hu_s
  have D : ∀ a, ¬ (a = s ∨ (ca ≤ a ∧ a < ca + 4) ∨ (s + 5 ≤ a ∧ a < s + 5)) → hA3.2 a = h.2 a := fun a ha => (o21.2 a (by omega)).trans (D a ha)
  have E1 : hA3.1 = h.1 := o21.1.trans E1
  have ho : hA3.2 s = some (.inr (9, stO s ca (S2 8) (S2 2) (S2 1))) := ho
  have o5a : ∀ a, ca ≤ a ∧ a < ca + 4 → hA3.2 a = h.2 a := fun a ha => (o21.2 a (by omega)).trans ((o13.2 a (by omega)).trans (o5.2 a (by omega)))
  have cvx : caveX (zXg X) hA3 ca := p2.X.same (fun a ha => o5a a ha)
  refine aw_aload_n B 0 rfl dX9_takeFrom_24 rfl ?_
  refine aw_get B f_X9_24 dX9_takeFrom_25 ho rfl ?_
  refine aw_aload_n B 1 rfl dX9_takeFrom_28 rfl ?_
  refine aw_get B f_X9_24 dX9_takeFrom_29 ((D _ (by omega)).trans q1) rfl ?_
  refine aw_callV B 0 0 (s_caveTake _ _ _ ca ca2 Q2 cvx (q2.same (fun a ha => D a (by omega))) (by omega)) co_X1_takeFrom k_X9_58 dX9_takeFrom_32 cvx.o.choose_spec rfl rfl rfl rfl (Nat.le_of_ble_eq_true rfl) (zrm hr (by omega)) (Nat.le_refl _) (Nat.le_refl _) (kV fun h32 hp32 => ?_)
  obtain ⟨c32, o32⟩ := hp32
  have ho := (o32.2 _ (by omega)).trans ho
  have D : ∀ a, ¬ (a = s ∨ (ca ≤ a ∧ a < ca + 4) ∨ (s + 5 ≤ a ∧ a < s + 5)) → h32.2 a = h.2 a := fun a ha => (o32.2 a (by omega)).trans (D a ha)
  have E1 : h32.1 = h.1 := o32.1.trans E1
  refine aw_iconst B 0 (by decide) dX9_takeFrom_35 ?_
  refine aw_istore2 B dX9_takeFrom_36 ?_
  obtain ⟨rt, g1, -, -⟩ := p3
  obtain ⟨ra, g2, g3, g4⟩ := q3
  have lp : ∀ (fu i : Nat) (h1 : Hp) (f : Nat → Option Nat), fu + i = 4 → h1.2 (s + 5) = some (.inl ((zXg X).2.2.1.2.2, 4, .inr (.inr (.inr (.inr f))))) → (∀ r, r < i → f r = ra r) → (∀ a, a ≠ s + 5 → h1.2 a = h32.2 a) → h1.1 = h32.1 → AW X 0 0 37 [some (.ref s), some (.ref s2), some (.int (nI i))] [] h1 (zV fun h' => stI (zXg X) h' y s ca S2 Q2 n2 ∧ h'.1 = h.1 ∧ ∀ a, ¬ (a = s ∨ (ca ≤ a ∧ a < ca + 4) ∨ (s + 5 ≤ a ∧ a < s + 18)) → h'.2 a = h.2 a) := by
    intro fu
    induction fu with
    | zero =>
      intro i h1 f hb hf hfi D1 E2
      obtain rfl : i = 4 := by omega
      have ho := (D1 s (by omega)).trans ho
      have c32 := c32.same (h' := h1) (fun a ha => D1 a (by omega))
      have D : ∀ a, ¬ (a = s ∨ (ca ≤ a ∧ a < ca + 4) ∨ (s + 5 ≤ a ∧ a < s + 6)) → h1.2 a = h.2 a := fun a ha => (D1 a (by omega)).trans (D a (by omega))
      have E1 : h1.1 = h.1 := E2.trans E1
      have rd : rdI (zXg X) h1 y s S2 (n2 1) := ⟨f, hf, fun r hr => by
        rw [hfi r hr]
        rcases g3 r hr with z | ⟨a, k, num, v, z1, z2, z3, z4⟩
        · exact Or.inl z
        · exact Or.inr ⟨a, k, num, v, z1, z2, z3, (D a (by omega)).trans z4⟩, fun r hr => by
        obtain ⟨a, k, v, z1, z2, z3, z4, z5, z6, z7⟩ := g4 r hr
        exact ⟨a, k, v, (hfi r (by omega)).trans z1, z2, z3, z4, z5, z6, (D a (by omega)).trans z7⟩⟩
      refine aw_iload_n B 2 rfl dX9_takeFrom_37 rfl ?_
      refine aw_iconst B 4 (by decide) dX9_takeFrom_38 ?_
      refine aw_icmp_ge B 60 dX9_takeFrom_39 (fun c39 => ?_) (fun c39 => absurd (Int32.le_refl _) c39)
      refine aw_aload_n B 0 rfl dX9_takeFrom_60 rfl ?_
      refine aw_get B f_X9_39 dX9_takeFrom_61 ho rfl ?_
      refine aw_aload_n B 1 rfl dX9_takeFrom_64 rfl ?_
      refine aw_get B f_X9_39 dX9_takeFrom_65 ((D _ (by omega)).trans q1) rfl ?_
      refine aw_callV B 0 0 (t_take _ _ _ (s + 6) 100 _ (s2 + 6) _ _ _ (by decide) (by omega) (by omega) (p4.same (fun a ha => D a (by omega))) (q4.same (fun a ha => D a (by omega)))) co_X7_takeFrom k_X9_62 dX9_takeFrom_68 (p4.same (fun a ha => D a (by omega))).o rfl rfl rfl rfl (Nat.le_of_ble_eq_true rfl) (zrm hr (by omega)) (Nat.le_refl _) (Nat.le_refl _) (kV fun h68 hp68 => ?_)
      obtain ⟨r0, o68⟩ := hp68
      have ho := (o68.2 _ (by omega)).trans ho
      have c32 := c32.same (h' := h68) (fun a ha => o68.2 a (by omega))
      have rd := rd.same (h' := h68) (o68.2 _ (by omega)) (fun a e h1 h2 => (o68.2 _ (by omega)).trans h2)
      have D : ∀ a, ¬ (a = s ∨ (ca ≤ a ∧ a < ca + 4) ∨ (s + 5 ≤ a ∧ a < s + 8)) → h68.2 a = h.2 a := fun a ha => (o68.2 a (by omega)).trans (D a (by omega))
      have E1 : h68.1 = h.1 := o68.1.trans E1
      refine aw_aload_n B 0 rfl dX9_takeFrom_71 rfl ?_
      refine aw_get B f_X9_43 dX9_takeFrom_72 ho rfl ?_
      refine aw_aload_n B 1 rfl dX9_takeFrom_75 rfl ?_
      refine aw_get B f_X9_43 dX9_takeFrom_76 ((D _ (by omega)).trans q1) rfl ?_
      refine aw_callV B 0 0 (t_take _ _ _ (s + 8) 6 _ (s2 + 8) _ _ _ (by decide) (by omega) (by omega) (p5.same (fun a ha => D a (by omega))) (q5.same (fun a ha => D a (by omega)))) co_X7_takeFrom k_X9_62 dX9_takeFrom_79 (p5.same (fun a ha => D a (by omega))).o rfl rfl rfl rfl (Nat.le_of_ble_eq_true rfl) (zrm hr (by omega)) (Nat.le_refl _) (Nat.le_refl _) (kV fun h79 hp79 => ?_)
      obtain ⟨r1, o79⟩ := hp79
      have ho := (o79.2 _ (by omega)).trans ho
      have c32 := c32.same (h' := h79) (fun a ha => o79.2 a (by omega))
      have rd := rd.same (h' := h79) (o79.2 _ (by omega)) (fun a e h1 h2 => (o79.2 _ (by omega)).trans h2)
      have r0 := r0.same (h' := h79) (fun a ha => o79.2 a (by omega))
      have D : ∀ a, ¬ (a = s ∨ (ca ≤ a ∧ a < ca + 4) ∨ (s + 5 ≤ a ∧ a < s + 10)) → h79.2 a = h.2 a := fun a ha => (o79.2 a (by omega)).trans (D a (by omega))
      have E1 : h79.1 = h.1 := o79.1.trans E1
      refine aw_aload_n B 0 rfl dX9_takeFrom_82 rfl ?_
      refine aw_get B f_X9_46 dX9_takeFrom_83 ho rfl ?_
      refine aw_aload_n B 1 rfl dX9_takeFrom_86 rfl ?_
      refine aw_get B f_X9_46 dX9_takeFrom_87 ((D _ (by omega)).trans q1) rfl ?_
      refine aw_callV B 0 0 (t_take _ _ _ (s + 10) 6 _ (s2 + 10) _ _ _ (by decide) (by omega) (by omega) (p6.same (fun a ha => D a (by omega))) (q6.same (fun a ha => D a (by omega)))) co_X7_takeFrom k_X9_62 dX9_takeFrom_90 (p6.same (fun a ha => D a (by omega))).o rfl rfl rfl rfl (Nat.le_of_ble_eq_true rfl) (zrm hr (by omega)) (Nat.le_refl _) (Nat.le_refl _) (kV fun h90 hp90 => ?_)
      obtain ⟨r2, o90⟩ := hp90
      have ho := (o90.2 _ (by omega)).trans ho
      have c32 := c32.same (h' := h90) (fun a ha => o90.2 a (by omega))
      have rd := rd.same (h' := h90) (o90.2 _ (by omega)) (fun a e h1 h2 => (o90.2 _ (by omega)).trans h2)
      have r0 := r0.same (h' := h90) (fun a ha => o90.2 a (by omega))
      have r1 := r1.same (h' := h90) (fun a ha => o90.2 a (by omega))
      have D : ∀ a, ¬ (a = s ∨ (ca ≤ a ∧ a < ca + 4) ∨ (s + 5 ≤ a ∧ a < s + 12)) → h90.2 a = h.2 a := fun a ha => (o90.2 a (by omega)).trans (D a (by omega))
      have E1 : h90.1 = h.1 := o90.1.trans E1
      refine aw_aload_n B 0 rfl dX9_takeFrom_93 rfl ?_
      refine aw_get B f_X9_49 dX9_takeFrom_94 ho rfl ?_
      refine aw_aload_n B 1 rfl dX9_takeFrom_97 rfl ?_
      refine aw_get B f_X9_49 dX9_takeFrom_98 ((D _ (by omega)).trans q1) rfl ?_
      refine aw_callV B 0 0 (t_take _ _ _ (s + 12) 8 _ (s2 + 12) _ _ _ (by decide) (by omega) (by omega) (p7.same (fun a ha => D a (by omega))) (q7.same (fun a ha => D a (by omega)))) co_X7_takeFrom k_X9_62 dX9_takeFrom_101 (p7.same (fun a ha => D a (by omega))).o rfl rfl rfl rfl (Nat.le_of_ble_eq_true rfl) (zrm hr (by omega)) (Nat.le_refl _) (Nat.le_refl _) (kV fun h101 hp101 => ?_)
      obtain ⟨r3, o101⟩ := hp101
      have ho := (o101.2 _ (by omega)).trans ho
      have c32 := c32.same (h' := h101) (fun a ha => o101.2 a (by omega))
      have rd := rd.same (h' := h101) (o101.2 _ (by omega)) (fun a e h1 h2 => (o101.2 _ (by omega)).trans h2)
      have r0 := r0.same (h' := h101) (fun a ha => o101.2 a (by omega))
      have r1 := r1.same (h' := h101) (fun a ha => o101.2 a (by omega))
      have r2 := r2.same (h' := h101) (fun a ha => o101.2 a (by omega))
      have D : ∀ a, ¬ (a = s ∨ (ca ≤ a ∧ a < ca + 4) ∨ (s + 5 ≤ a ∧ a < s + 14)) → h101.2 a = h.2 a := fun a ha => (o101.2 a (by omega)).trans (D a (by omega))
      have E1 : h101.1 = h.1 := o101.1.trans E1
      refine aw_aload_n B 0 rfl dX9_takeFrom_104 rfl ?_
      refine aw_get B f_X9_52 dX9_takeFrom_105 ho rfl ?_
      refine aw_aload_n B 1 rfl dX9_takeFrom_108 rfl ?_
      refine aw_get B f_X9_52 dX9_takeFrom_109 ((D _ (by omega)).trans q1) rfl ?_
      refine aw_callV B 0 0 (t_take _ _ _ (s + 14) 8 _ (s2 + 14) _ _ _ (by decide) (by omega) (by omega) (p8.same (fun a ha => D a (by omega))) (q8.same (fun a ha => D a (by omega)))) co_X7_takeFrom k_X9_62 dX9_takeFrom_112 (p8.same (fun a ha => D a (by omega))).o rfl rfl rfl rfl (Nat.le_of_ble_eq_true rfl) (zrm hr (by omega)) (Nat.le_refl _) (Nat.le_refl _) (kV fun h112 hp112 => ?_)
      obtain ⟨r4, o112⟩ := hp112
      have ho := (o112.2 _ (by omega)).trans ho
      have c32 := c32.same (h' := h112) (fun a ha => o112.2 a (by omega))
      have rd := rd.same (h' := h112) (o112.2 _ (by omega)) (fun a e h1 h2 => (o112.2 _ (by omega)).trans h2)
      have r0 := r0.same (h' := h112) (fun a ha => o112.2 a (by omega))
      have r1 := r1.same (h' := h112) (fun a ha => o112.2 a (by omega))
      have r2 := r2.same (h' := h112) (fun a ha => o112.2 a (by omega))
      have r3 := r3.same (h' := h112) (fun a ha => o112.2 a (by omega))
      have D : ∀ a, ¬ (a = s ∨ (ca ≤ a ∧ a < ca + 4) ∨ (s + 5 ≤ a ∧ a < s + 16)) → h112.2 a = h.2 a := fun a ha => (o112.2 a (by omega)).trans (D a (by omega))
      have E1 : h112.1 = h.1 := o112.1.trans E1
      refine aw_aload_n B 0 rfl dX9_takeFrom_115 rfl ?_
      refine aw_get B f_X9_55 dX9_takeFrom_116 ho rfl ?_
      refine aw_aload_n B 1 rfl dX9_takeFrom_119 rfl ?_
      refine aw_get B f_X9_55 dX9_takeFrom_120 ((D _ (by omega)).trans q1) rfl ?_
      refine aw_callV B 0 0 (t_take _ _ _ (s + 16) 8 _ (s2 + 16) _ _ _ (by decide) (by omega) (by omega) (p9.same (fun a ha => D a (by omega))) (q9.same (fun a ha => D a (by omega)))) co_X7_takeFrom k_X9_62 dX9_takeFrom_123 (p9.same (fun a ha => D a (by omega))).o rfl rfl rfl rfl (Nat.le_of_ble_eq_true rfl) (zrm hr (by omega)) (Nat.le_refl _) (Nat.le_refl _) (kV fun h123 hp123 => ?_)
      obtain ⟨r5, o123⟩ := hp123
      have ho := (o123.2 _ (by omega)).trans ho
      have c32 := c32.same (h' := h123) (fun a ha => o123.2 a (by omega))
      have rd := rd.same (h' := h123) (o123.2 _ (by omega)) (fun a e h1 h2 => (o123.2 _ (by omega)).trans h2)
      have r0 := r0.same (h' := h123) (fun a ha => o123.2 a (by omega))
      have r1 := r1.same (h' := h123) (fun a ha => o123.2 a (by omega))
      have r2 := r2.same (h' := h123) (fun a ha => o123.2 a (by omega))
      have r3 := r3.same (h' := h123) (fun a ha => o123.2 a (by omega))
      have r4 := r4.same (h' := h123) (fun a ha => o123.2 a (by omega))
      have D : ∀ a, ¬ (a = s ∨ (ca ≤ a ∧ a < ca + 4) ∨ (s + 5 ≤ a ∧ a < s + 18)) → h123.2 a = h.2 a := fun a ha => (o123.2 a (by omega)).trans (D a (by omega))
      have E1 : h123.1 = h.1 := o123.1.trans E1
      refine aw_vret B rfl dX9_takeFrom_126 ?_
      exact ⟨rfl, ⟨ho, c32, rd, r0, r1, r2, r3, r4, r5⟩, E1, D⟩
    | succ fu ih =>
      intro i h1 f hb hf hfi D1 E2
      have hi4 : i < 4 := by omega
      have ho := (D1 s (by omega)).trans ho
      have D : ∀ a, ¬ (a = s ∨ (ca ≤ a ∧ a < ca + 4) ∨ (s + 5 ≤ a ∧ a < s + 6)) → h1.2 a = h.2 a := fun a ha => (D1 a (by omega)).trans (D a (by omega))
      refine aw_iload_n B 2 rfl dX9_takeFrom_37 rfl ?_
      refine aw_iconst B 4 (by decide) dX9_takeFrom_38 ?_
      refine aw_icmp_ge B 60 dX9_takeFrom_39 (fun c39 => absurd ((nI_leI (a := 4) (by decide) (by omega)).mp c39) (by omega)) (fun c39 => ?_)
      refine aw_aload_n B 0 rfl dX9_takeFrom_42 rfl ?_
      refine aw_get B f_X9_30 dX9_takeFrom_43 ho rfl ?_
      refine aw_iload_n B 2 rfl dX9_takeFrom_46 rfl ?_
      refine aw_aload_n B 1 rfl dX9_takeFrom_47 rfl ?_
      refine aw_get B f_X9_30 dX9_takeFrom_48 ((D _ (by omega)).trans q1) rfl ?_
      refine aw_iload_n B 2 rfl dX9_takeFrom_51 rfl ?_
      refine aw_aald B dX9_takeFrom_52 ((D _ (by omega)).trans g2) (show vp_in (nI i) 4 from vp_in_nI hi4 (by decide)) ?_
      rw [nI_clamp (by omega)]
      rcases g3 i hi4 with z0 | ⟨a0, k0, num0, v0', z0, z1, z2, z3⟩
      · rw [z0]
        refine aw_aastN B dX9_takeFrom_53 hf (show vp_in (nI i) 4 from vp_in_nI hi4 (by decide)) ?_
        rw [nI_clamp (by omega)]
        refine aw_iinc2 B 1 (by decide) dX9_takeFrom_54 ?_
        refine aw_goto B 37 dX9_takeFrom_57 ?_
        rw [nI_1]
        refine ih (i + 1) _ (va_up f i (none)) (by omega) hu_s (fun r hr => ?_) (fun a ha => (hu_n ha).trans (D1 a ha)) E2
        unfold va_up
        by_cases e : r = i
        · subst e; simp [z0]
        · simp [e, hfi r (by omega)]
      · rw [z0]
        refine aw_aastR B z2 dX9_takeFrom_53 hf (show vp_in (nI i) 4 from vp_in_nI hi4 (by decide)) ((D _ (by omega)).trans z3) ?_
        rw [nI_clamp (by omega)]
        refine aw_iinc2 B 1 (by decide) dX9_takeFrom_54 ?_
        refine aw_goto B 37 dX9_takeFrom_57 ?_
        rw [nI_1]
        refine ih (i + 1) _ (va_up f i (some a0)) (by omega) hu_s (fun r hr => ?_) (fun a ha => (hu_n ha).trans (D1 a ha)) E2
        unfold va_up
        by_cases e : r = i
        · subst e; simp [z0]
        · simp [e, hfi r (by omega)]
  exact lp 4 0 h32 rt (by omega) ((D _ (by omega)).trans g1) (fun r hr => absurd hr (Nat.not_lt_zero _)) (fun _ _ => rfl) rfl
