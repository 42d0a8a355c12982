theorem sub_up {vm : Vm} {a b : ClassId} {k : Class} (hk : vm.classes[a]? = some k) (hs : k.super = some b) : vm.isSubclass a b = true := by
  have hlt : a < vm.classes.size := (Array.getElem?_eq_some_iff.mp hk).1
  obtain ⟨n, hn⟩ : ∃ n, vm.classes.size = n + 1 := by
    cases hsz : vm.classes.size with
    | zero => rw [hsz] at hlt; exact absurd hlt (Nat.not_lt_zero _)
    | succ n => exact ⟨n, rfl⟩
  unfold Vm.isSubclass
  rw [hn]
  simp [Vm.isSubclassAux, hk, hs]
section ZSG
variable {X : zX} {cc : ByteArray} {nL : Nat} {own nm : String} {ret : Option FieldType} {rc rs pc : Nat} {lv : List (Option Value)} {st : List Value} {h : Hp} {Ko : Option Value → Hp → Prop}
/-- super.x(..), where x is declared by the superclass's superclass -/
theorem aw_callSG {idx n maxL ci : Nat} {b : Nat} {As rest fs : List Value} {x y : MethodName} {cc' : ByteArray} {ret' : Option FieldType} {rm : Room} {Ko' : Option Value → Hp → Prop} {r : vw_C} (B : zB X cc nL own nm ret) (rc' rs' : Nat) (S : Sp X.1.2.1 (zXg X) y cc' maxL ret' rm (.ref b :: As) h Ko') (F : zCo y cc' maxL ret' n) (Lk : Cond.methodLink own idx x ∈ zT ∧ Cond.sameMethod x.cls y.cls x.name x.desc ∈ zT ∧ Cond.superclass own x.cls ∈ zT ∧ Cond.superclass x.cls y.cls ∈ zT ∧ Cond.instanceMethod y ∈ zT ∧ y.name = x.name ∧ y.desc = x.desc ∧ x.name ≠ "<init>") (hd : decode cc pc = .ok (.invokespecial idx, 3)) (hh : h.2 b = some (.inr (ci, fs))) (hcl : vwCl[ci]? = some r) (hst : st = As.reverse ++ .ref b :: rest) (hn : As.length = n) (hw : (rest.map fun v => v.category).sum ≤ 8) (hR : zRoom rm X.2.2.2.2 maxL) (hc : rc' + rm.cells ≤ rc) (hs : rs' + rm.slots ≤ rs)
    (kk : ∀ v h', Ko' v h' → AW X rc' rs' (pc + 3) lv (v.toList ++ rest) h' Ko) : AW X rc rs pc lv st h Ko := by
  refine aw_run (Value.ref b :: As).toArray rc' rs' hc hs (fun H locs ls cells slots a1 a3 a4 a5 => ?_) kk
  obtain ⟨l1, l2, l3, l4, l5, l6, l7, l8⟩ := Lk
  have hts := B.2.2.2.2.1
  have hG := B.2.2.2.2.2.1
  obtain ⟨cellB, hcB, hoB, hclB⟩ := zrecv B a1 hh hcl
  obtain ⟨hfc, kB, hkB, -⟩ := (hG.1.1 ci r hcl).2
  have hcc : cellB.cls = (zXg X).1.1 ci := (Option.some.inj (hfc.symm.trans hclB)).symm
  rw [← hcc] at hkB
  have hcode := hts _ F.1
  have hini := hts _ F.2.1
  have hK : Back X.1.2.1 X.2.2.2.2 X.1.1 X.1.2.2 X.2.2.1.1 X.2.1.1 X.2.1.2.2 y 3 8 (PreOf X.2.2.2.2 rm.cells rm.slots (va_Pc (Value.ref b :: As) (fun U => zR (zXg X) h U.heap ∧ zK (zXg X) U))) (PostOf (zQ (zXg X) Ko') rm.cells rm.slots (fun q => zb (zXg X) ≤ q)) := back_of (bytes := cc') (maxL := maxL) (ret := ret') (free := fun q => zb (zXg X) ≤ q) S zPc_blind rfl rfl hR.1 hR.2 (pay_in hts F.good) List.mem_cons_self (fun a' U hW => word_at hW (Or.inl (by first | rfl | simp [Cond.onTables, Cond.keeps, Cond.steady])) hini)
  have hPc := zpc (av := Value.ref b :: As) B a1
  intro T hT XX
  obtain ⟨mk, methM, hnamed, hmethM, hstM, habM⟩ := Cond.instanceMethod_spec (hts _ l5)
  obtain ⟨methM', cM, hmethM', -, -, -, -, -, -, hsigM⟩ := Cond.code_spec hnamed hcode
  cases hmethM.symm.trans hmethM'
  obtain ⟨ps, dk, kp, hps, hdk, hkp, hsuper, -, -, hnid⟩ := Cond.superclass_spec B.2.2.2.1 (hts _ l3)
  obtain ⟨pq, dq, kq, hpq, hdq, -, hsuq, -, -, -⟩ := Cond.superclass_spec hps (hts _ l4)
  have hpm : pq = mk.cls := Option.some.inj (hpq.symm.trans (findClass_of_methodNamed hnamed))
  have hn : X.2.1.1.methodNamed? ⟨y.cls, x.name, x.desc⟩ = some mk := by rw [← l6, ← l7]; exact hnamed
  have hsub : X.2.1.1.vm.isSubclass ps mk.cls = true := by rw [← hpm]; exact sub_up hdq hsuq
  have l9 := F.2.2.2.2
  have hlen : As.length = methM.sig.parameters.length := by
    rw [hsigM] at l9
    exact ‹As.length = n›.trans (Option.some.inj l9).symm
  obtain ⟨vm₁, X₁, hstep₁⟩ := XX.invokespecialUp B.1 B.2.2.2.1 (hts _ l1) (hts _ l2) hn hmethM hstM habM l8 hdk hnid hps hsuper hsub (a := b) (cell := cellB) (by rw [hT]; exact hcB)
    (fun z h => by rw [h] at hoB; cases hoB) hkB (g := F0 X.2.1.2.1 pc ls st) rfl (argsL := As) (rest := rest) hlen hst (by rw [B.2.1]; exact hd)
  obtain ⟨v, ⟨U', l2', c2, s2⟩, X', ⟨g', mk', t, L, e1, e2, hq, h1, hL, h2, h3⟩, hsteps⟩ := hK X.2.1.2.1 X.2.2.1.2.1 X.2.2.1.2.2 ⟨T.setVm vm₁, locs, cells, slots⟩ { F0 X.2.1.2.1 pc ls st with stack := rest } (.invokespecial idx) mk (Value.ref b :: As).toArray X₁ rfl a3 (by rw [B.2.1]; exact hd) (lv_room (pc := pc) (ls := ls) (m := X.2.1.2.1) hw) (X₁.named hnamed) ⟨a4, a5, hPc (T.setVm vm₁) hT X₁.warmed⟩
  dsimp only [Pt.U, Pt.locs, Pt.cells, Pt.slots] at X' e1 e2 h1 h2 h3 hsteps
  subst h1; subst h2; subst h3
  exact ⟨v, (T.setVm vm₁).calling g' mk' (Value.ref b :: As).toArray, t, U', L, hT, X', hL, e1, e2, hq, fun target hz => hstep₁ _ (by rw [doInvoke_state]; exact hsteps.trans hz)⟩
end ZSG
theorem kg_X5_33 : Cond.methodLink "LowWater$Quick" 33 ⟨"LowWater$Fast", "bodyOfTells", "(ILLowWater$Row;)I"⟩ ∈ zT ∧ Cond.sameMethod "LowWater$Fast" "LowWater$Reader" "bodyOfTells" "(ILLowWater$Row;)I" ∈ zT ∧ Cond.superclass "LowWater$Quick" "LowWater$Fast" ∈ zT ∧ Cond.superclass "LowWater$Fast" "LowWater$Reader" ∈ zT ∧ Cond.instanceMethod yX6_bodyOfTells ∈ zT ∧ yX6_bodyOfTells.name = "bodyOfTells" ∧ yX6_bodyOfTells.desc = "(ILLowWater$Row;)I" ∧ ("bodyOfTells" : String) ≠ "<init>" := ⟨zT_t (i := 767) (by decide +kernel) (by decide +kernel), zT_t (i := 768) (by decide +kernel) (by decide +kernel), zT_t (i := 390) (by decide +kernel) (by decide +kernel), zT_t (i := 363) (by decide +kernel) (by decide +kernel), zT_t (i := 757) (by decide +kernel) (by decide +kernel), rfl, rfl, by decide⟩
theorem kg_X0_17 : Cond.methodLink "LowWater$Blind" 17 ⟨"LowWater$Diver", "bodyOfReads", "(ILLowWater$Row;)I"⟩ ∈ zT ∧ Cond.sameMethod "LowWater$Diver" "LowWater$Reader" "bodyOfReads" "(ILLowWater$Row;)I" ∈ zT ∧ Cond.superclass "LowWater$Blind" "LowWater$Diver" ∈ zT ∧ Cond.superclass "LowWater$Diver" "LowWater$Reader" ∈ zT ∧ Cond.instanceMethod yX6_bodyOfReads ∈ zT ∧ yX6_bodyOfReads.name = "bodyOfReads" ∧ yX6_bodyOfReads.desc = "(ILLowWater$Row;)I" ∧ ("bodyOfReads" : String) ≠ "<init>" := ⟨zT_t (i := 720) (by decide +kernel) (by decide +kernel), zT_t (i := 721) (by decide +kernel) (by decide +kernel), zT_t (i := 399) (by decide +kernel) (by decide +kernel), zT_t (i := 372) (by decide +kernel) (by decide +kernel), zT_t (i := 713) (by decide +kernel) (by decide +kernel), rfl, rfl, by decide⟩
theorem kg_X10_27 : Cond.methodLink "LowWater$Waiting" 27 ⟨"LowWater$Rowed", "bodyOfWaits", "(ILLowWater$Row;)I"⟩ ∈ zT ∧ Cond.sameMethod "LowWater$Rowed" "LowWater$Reader" "bodyOfWaits" "(ILLowWater$Row;)I" ∈ zT ∧ Cond.superclass "LowWater$Waiting" "LowWater$Rowed" ∈ zT ∧ Cond.superclass "LowWater$Rowed" "LowWater$Reader" ∈ zT ∧ Cond.instanceMethod yX6_bodyOfWaits ∈ zT ∧ yX6_bodyOfWaits.name = "bodyOfWaits" ∧ yX6_bodyOfWaits.desc = "(ILLowWater$Row;)I" ∧ ("bodyOfWaits" : String) ≠ "<init>" := ⟨zT_t (i := 751) (by decide +kernel) (by decide +kernel), zT_t (i := 752) (by decide +kernel) (by decide +kernel), zT_t (i := 408) (by decide +kernel) (by decide +kernel), zT_t (i := 381) (by decide +kernel) (by decide +kernel), zT_t (i := 735) (by decide +kernel) (by decide +kernel), rfl, rfl, by decide⟩
theorem fr_X6_9_0 : zFL "LowWater$Reader" 9 0 0 true true .int := ⟨RX0, "LowWater$Reader", TX0, 2, tyX0, rfl, by decide, in_X0, tyX0_ok, nmX0, rfl, rfl, (fun _ => rfl), Or.inl zw_346, Or.inl rfl⟩
theorem fr_X6_9_2 : zFL "LowWater$Reader" 9 2 0 true true .int := ⟨RX2, "LowWater$Reader", TX2, 2, tyX2, rfl, by decide, in_X2, tyX2_ok, nmX2, rfl, rfl, (fun _ => rfl), Or.inl zw_346, Or.inl rfl⟩
theorem fr_X6_9_3 : zFL "LowWater$Reader" 9 3 0 true true .int := ⟨RX3, "LowWater$Reader", TX3, 2, tyX3, rfl, by decide, in_X3, tyX3_ok, nmX3, rfl, rfl, (fun _ => rfl), Or.inl zw_346, Or.inl rfl⟩
theorem fr_X6_9_5 : zFL "LowWater$Reader" 9 5 0 true true .int := ⟨RX5, "LowWater$Reader", TX5, 2, tyX5, rfl, by decide, in_X5, tyX5_ok, nmX5, rfl, rfl, (fun _ => rfl), Or.inl zw_346, Or.inl rfl⟩
theorem fr_X6_9_6 : zFL "LowWater$Reader" 9 6 0 true true .int := ⟨RX6, "LowWater$Reader", TX6, 2, tyX6, rfl, by decide, in_X6, tyX6_ok, nmX6, rfl, rfl, (fun _ => rfl), Or.inl zw_346, Or.inl rfl⟩
theorem fr_X6_9_8 : zFL "LowWater$Reader" 9 8 0 true true .int := ⟨RX8, "LowWater$Reader", TX8, 2, tyX8, rfl, by decide, in_X8, tyX8_ok, nmX8, rfl, rfl, (fun _ => rfl), Or.inl zw_346, Or.inl rfl⟩
theorem fr_X6_9_10 : zFL "LowWater$Reader" 9 10 0 true true .int := ⟨RX10, "LowWater$Reader", TX10, 2, tyX10, rfl, by decide, in_X10, tyX10_ok, nmX10, rfl, rfl, (fun _ => rfl), Or.inl zw_346, Or.inl rfl⟩
theorem fr_X6_15_0 : zFL "LowWater$Reader" 15 0 1 true true .int := ⟨RX0, "LowWater$Reader", TX0, 2, tyX0, rfl, by decide, in_X0, tyX0_ok, nmX0, rfl, rfl, (fun _ => rfl), Or.inl zw_349, Or.inl rfl⟩
theorem fr_X6_15_2 : zFL "LowWater$Reader" 15 2 1 true true .int := ⟨RX2, "LowWater$Reader", TX2, 2, tyX2, rfl, by decide, in_X2, tyX2_ok, nmX2, rfl, rfl, (fun _ => rfl), Or.inl zw_349, Or.inl rfl⟩
theorem fr_X6_15_3 : zFL "LowWater$Reader" 15 3 1 true true .int := ⟨RX3, "LowWater$Reader", TX3, 2, tyX3, rfl, by decide, in_X3, tyX3_ok, nmX3, rfl, rfl, (fun _ => rfl), Or.inl zw_349, Or.inl rfl⟩
theorem fr_X6_15_5 : zFL "LowWater$Reader" 15 5 1 true true .int := ⟨RX5, "LowWater$Reader", TX5, 2, tyX5, rfl, by decide, in_X5, tyX5_ok, nmX5, rfl, rfl, (fun _ => rfl), Or.inl zw_349, Or.inl rfl⟩
theorem fr_X6_15_6 : zFL "LowWater$Reader" 15 6 1 true true .int := ⟨RX6, "LowWater$Reader", TX6, 2, tyX6, rfl, by decide, in_X6, tyX6_ok, nmX6, rfl, rfl, (fun _ => rfl), Or.inl zw_349, Or.inl rfl⟩
theorem fr_X6_15_8 : zFL "LowWater$Reader" 15 8 1 true true .int := ⟨RX8, "LowWater$Reader", TX8, 2, tyX8, rfl, by decide, in_X8, tyX8_ok, nmX8, rfl, rfl, (fun _ => rfl), Or.inl zw_349, Or.inl rfl⟩
theorem fr_X6_15_10 : zFL "LowWater$Reader" 15 10 1 true true .int := ⟨RX10, "LowWater$Reader", TX10, 2, tyX10, rfl, by decide, in_X10, tyX10_ok, nmX10, rfl, rfl, (fun _ => rfl), Or.inl zw_349, Or.inl rfl⟩
theorem fr_X2_11_2 : zFL "LowWater$Diver" 11 2 1 true false .int := ⟨RX2, "LowWater$Diver", TX2, 2, tyX2, rfl, by decide, in_X2, tyX2_ok, nmX2, rfl, rfl, (fun h => Bool.noConfusion h), Or.inl zw_350, Or.inr zw_351⟩
theorem fr_X2_11_0 : zFL "LowWater$Diver" 11 0 1 true false .int := ⟨RX0, "LowWater$Diver", TX0, 2, tyX0, rfl, by decide, in_X0, tyX0_ok, nmX0, rfl, rfl, (fun h => Bool.noConfusion h), Or.inl zw_350, Or.inr zw_351⟩
theorem fr_X8_11_8 : zFL "LowWater$Rowed" 11 8 1 true false .int := ⟨RX8, "LowWater$Rowed", TX8, 2, tyX8, rfl, by decide, in_X8, tyX8_ok, nmX8, rfl, rfl, (fun h => Bool.noConfusion h), Or.inl zw_352, Or.inr zw_353⟩
theorem fr_X8_11_10 : zFL "LowWater$Rowed" 11 10 1 true false .int := ⟨RX10, "LowWater$Rowed", TX10, 2, tyX10, rfl, by decide, in_X10, tyX10_ok, nmX10, rfl, rfl, (fun h => Bool.noConfusion h), Or.inl zw_352, Or.inr zw_353⟩
