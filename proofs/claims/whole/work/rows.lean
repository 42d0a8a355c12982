section
-- ===== PART A: goes FIRST, ahead of the names: the tables' words, and 'selects' of the private methods out of them =====
/-- a private method of a class that the tables say can be made, by its rows of tables_1 -/
def lw_okq (q : MethodName × Nat) : Prop := (q.1.cls ≠ "java/lang/invoke/MethodHandle" ∧ q.1.cls ≠ "java/lang/invoke/VarHandle") ∧ Cond.instantiable q.1.cls q.2 ∈ tables_1 ∧ Cond.privateMethod q.1 ∈ tables_1 ∧ Cond.instanceMethod q.1 ∈ tables_1
theorem lw_p0 : lw_okq (⟨"LowWater$Cave", "readClause", "()Z"⟩, 6) := ⟨⟨by decide +kernel, by decide +kernel⟩, List.mem_of_getElem? (i := 37) (by decide +kernel), List.mem_of_getElem? (i := 213) (by decide +kernel), List.mem_of_getElem? (i := 214) (by decide +kernel)⟩
theorem lw_p1 : lw_okq (⟨"LowWater$Cave", "signHere", "()I"⟩, 6) := ⟨⟨by decide +kernel, by decide +kernel⟩, List.mem_of_getElem? (i := 37) (by decide +kernel), List.mem_of_getElem? (i := 217) (by decide +kernel), List.mem_of_getElem? (i := 218) (by decide +kernel)⟩
theorem lw_p2 : lw_okq (⟨"LowWater$Cave", "skip", "(I)Z"⟩, 6) := ⟨⟨by decide +kernel, by decide +kernel⟩, List.mem_of_getElem? (i := 37) (by decide +kernel), List.mem_of_getElem? (i := 272) (by decide +kernel), List.mem_of_getElem? (i := 273) (by decide +kernel)⟩
theorem lw_p3 : lw_okq (⟨"LowWater$Cave", "readNumber", "()I"⟩, 6) := ⟨⟨by decide +kernel, by decide +kernel⟩, List.mem_of_getElem? (i := 37) (by decide +kernel), List.mem_of_getElem? (i := 276) (by decide +kernel), List.mem_of_getElem? (i := 277) (by decide +kernel)⟩
theorem lw_p4 : lw_okq (⟨"LowWater$Cave", "readE", "(I)Z"⟩, 6) := ⟨⟨by decide +kernel, by decide +kernel⟩, List.mem_of_getElem? (i := 37) (by decide +kernel), List.mem_of_getElem? (i := 280) (by decide +kernel), List.mem_of_getElem? (i := 281) (by decide +kernel)⟩
theorem lw_p5 : lw_okq (⟨"LowWater$Cave", "readT", "(I)Z"⟩, 6) := ⟨⟨by decide +kernel, by decide +kernel⟩, List.mem_of_getElem? (i := 37) (by decide +kernel), List.mem_of_getElem? (i := 284) (by decide +kernel), List.mem_of_getElem? (i := 285) (by decide +kernel)⟩
theorem lw_p6 : lw_okq (⟨"LowWater$Cave", "readF", "(I)Z"⟩, 6) := ⟨⟨by decide +kernel, by decide +kernel⟩, List.mem_of_getElem? (i := 37) (by decide +kernel), List.mem_of_getElem? (i := 288) (by decide +kernel), List.mem_of_getElem? (i := 289) (by decide +kernel)⟩
theorem lw_p7 : lw_okq (⟨"LowWater$Cave", "addStep", "(II)V"⟩, 6) := ⟨⟨by decide +kernel, by decide +kernel⟩, List.mem_of_getElem? (i := 37) (by decide +kernel), List.mem_of_getElem? (i := 292) (by decide +kernel), List.mem_of_getElem? (i := 293) (by decide +kernel)⟩
theorem lw_p8 : lw_okq (⟨"LowWater$Cave", "readTest", "()Z"⟩, 6) := ⟨⟨by decide +kernel, by decide +kernel⟩, List.mem_of_getElem? (i := 37) (by decide +kernel), List.mem_of_getElem? (i := 296) (by decide +kernel), List.mem_of_getElem? (i := 297) (by decide +kernel)⟩
theorem lw_p9 : lw_okq (⟨"LowWater", "isSlate", "(I)Z"⟩, 8) := ⟨⟨by decide +kernel, by decide +kernel⟩, List.mem_of_getElem? (i := 23) (by decide +kernel), List.mem_of_getElem? (i := 316) (by decide +kernel), List.mem_of_getElem? (i := 317) (by decide +kernel)⟩
theorem lw_p10 : lw_okq (⟨"LowWater", "levelIn", "(I)I"⟩, 8) := ⟨⟨by decide +kernel, by decide +kernel⟩, List.mem_of_getElem? (i := 23) (by decide +kernel), List.mem_of_getElem? (i := 487) (by decide +kernel), List.mem_of_getElem? (i := 488) (by decide +kernel)⟩
theorem lw_p11 : lw_okq (⟨"LowWater$Cave", "makeTide", "(I)V"⟩, 6) := ⟨⟨by decide +kernel, by decide +kernel⟩, List.mem_of_getElem? (i := 37) (by decide +kernel), List.mem_of_getElem? (i := 498) (by decide +kernel), List.mem_of_getElem? (i := 499) (by decide +kernel)⟩
theorem lw_p12 : lw_okq (⟨"LowWater", "isSet", "(I)Z"⟩, 8) := ⟨⟨by decide +kernel, by decide +kernel⟩, List.mem_of_getElem? (i := 23) (by decide +kernel), List.mem_of_getElem? (i := 573) (by decide +kernel), List.mem_of_getElem? (i := 574) (by decide +kernel)⟩
theorem lw_p13 : lw_okq (⟨"LowWater$Orders", "goOn", "(III)V"⟩, 8) := ⟨⟨by decide +kernel, by decide +kernel⟩, List.mem_of_getElem? (i := 134) (by decide +kernel), List.mem_of_getElem? (i := 582) (by decide +kernel), List.mem_of_getElem? (i := 583) (by decide +kernel)⟩
theorem lw_p14 : lw_okq (⟨"LowWater$Orders", "soonFrom", "(II)I"⟩, 8) := ⟨⟨by decide +kernel, by decide +kernel⟩, List.mem_of_getElem? (i := 134) (by decide +kernel), List.mem_of_getElem? (i := 589) (by decide +kernel), List.mem_of_getElem? (i := 590) (by decide +kernel)⟩
theorem lw_p15 : lw_okq (⟨"LowWater", "bothDone", "(II)I"⟩, 8) := ⟨⟨by decide +kernel, by decide +kernel⟩, List.mem_of_getElem? (i := 23) (by decide +kernel), List.mem_of_getElem? (i := 615) (by decide +kernel), List.mem_of_getElem? (i := 616) (by decide +kernel)⟩
def lw_privs_1 : List (MethodName × Nat) := [(⟨"LowWater$Cave", "readClause", "()Z"⟩, 6), (⟨"LowWater$Cave", "signHere", "()I"⟩, 6), (⟨"LowWater$Cave", "skip", "(I)Z"⟩, 6), (⟨"LowWater$Cave", "readNumber", "()I"⟩, 6), (⟨"LowWater$Cave", "readE", "(I)Z"⟩, 6), (⟨"LowWater$Cave", "readT", "(I)Z"⟩, 6), (⟨"LowWater$Cave", "readF", "(I)Z"⟩, 6), (⟨"LowWater$Cave", "addStep", "(II)V"⟩, 6), (⟨"LowWater$Cave", "readTest", "()Z"⟩, 6), (⟨"LowWater", "isSlate", "(I)Z"⟩, 8), (⟨"LowWater", "levelIn", "(I)I"⟩, 8), (⟨"LowWater$Cave", "makeTide", "(I)V"⟩, 6), (⟨"LowWater", "isSet", "(I)Z"⟩, 8), (⟨"LowWater$Orders", "goOn", "(III)V"⟩, 8), (⟨"LowWater$Orders", "soonFrom", "(II)I"⟩, 8), (⟨"LowWater", "bothDone", "(II)I"⟩, 8)]
theorem lw_r1 : ∀ q ∈ lw_privs_1, lw_okq q := List.forall_mem_cons.mpr ⟨lw_p0, List.forall_mem_cons.mpr ⟨lw_p1, List.forall_mem_cons.mpr ⟨lw_p2, List.forall_mem_cons.mpr ⟨lw_p3, List.forall_mem_cons.mpr ⟨lw_p4, List.forall_mem_cons.mpr ⟨lw_p5, List.forall_mem_cons.mpr ⟨lw_p6, List.forall_mem_cons.mpr ⟨lw_p7, List.forall_mem_cons.mpr ⟨lw_p8, List.forall_mem_cons.mpr ⟨lw_p9, List.forall_mem_cons.mpr ⟨lw_p10, List.forall_mem_cons.mpr ⟨lw_p11, List.forall_mem_cons.mpr ⟨lw_p12, List.forall_mem_cons.mpr ⟨lw_p13, List.forall_mem_cons.mpr ⟨lw_p14, List.forall_mem_cons.mpr ⟨lw_p15, fun _ h => absurd h List.not_mem_nil⟩⟩⟩⟩⟩⟩⟩⟩⟩⟩⟩⟩⟩⟩⟩⟩
theorem lw_p16 : lw_okq (⟨"LowWater", "tellOf", "(LLowWater$Row;IIII)I"⟩, 8) := ⟨⟨by decide +kernel, by decide +kernel⟩, List.mem_of_getElem? (i := 23) (by decide +kernel), List.mem_of_getElem? (i := 624) (by decide +kernel), List.mem_of_getElem? (i := 625) (by decide +kernel)⟩
theorem lw_p17 : lw_okq (⟨"LowWater", "fillWaited", "()I"⟩, 8) := ⟨⟨by decide +kernel, by decide +kernel⟩, List.mem_of_getElem? (i := 23) (by decide +kernel), List.mem_of_getElem? (i := 632) (by decide +kernel), List.mem_of_getElem? (i := 633) (by decide +kernel)⟩
theorem lw_p18 : lw_okq (⟨"LowWater", "waitOn", "(II)I"⟩, 8) := ⟨⟨by decide +kernel, by decide +kernel⟩, List.mem_of_getElem? (i := 23) (by decide +kernel), List.mem_of_getElem? (i := 639) (by decide +kernel), List.mem_of_getElem? (i := 640) (by decide +kernel)⟩
theorem lw_p19 : lw_okq (⟨"LowWater", "waitsIf", "(IIII)I"⟩, 8) := ⟨⟨by decide +kernel, by decide +kernel⟩, List.mem_of_getElem? (i := 23) (by decide +kernel), List.mem_of_getElem? (i := 653) (by decide +kernel), List.mem_of_getElem? (i := 654) (by decide +kernel)⟩
theorem lw_p20 : lw_okq (⟨"LowWaterModel", "clauseHere", "()V"⟩, 24) := ⟨⟨by decide +kernel, by decide +kernel⟩, List.mem_of_getElem? (i := 850) (by decide +kernel), List.mem_of_getElem? (i := 940) (by decide +kernel), List.mem_of_getElem? (i := 941) (by decide +kernel)⟩
theorem lw_p21 : lw_okq (⟨"LowWaterModel", "here", "()I"⟩, 24) := ⟨⟨by decide +kernel, by decide +kernel⟩, List.mem_of_getElem? (i := 850) (by decide +kernel), List.mem_of_getElem? (i := 944) (by decide +kernel), List.mem_of_getElem? (i := 945) (by decide +kernel)⟩
theorem lw_p22 : lw_okq (⟨"LowWaterModel", "much", "(ILjava/lang/String;)V"⟩, 24) := ⟨⟨by decide +kernel, by decide +kernel⟩, List.mem_of_getElem? (i := 850) (by decide +kernel), List.mem_of_getElem? (i := 949) (by decide +kernel), List.mem_of_getElem? (i := 950) (by decide +kernel)⟩
theorem lw_p23 : lw_okq (⟨"LowWaterModel", "spells", "(Ljava/lang/String;)V"⟩, 24) := ⟨⟨by decide +kernel, by decide +kernel⟩, List.mem_of_getElem? (i := 850) (by decide +kernel), List.mem_of_getElem? (i := 953) (by decide +kernel), List.mem_of_getElem? (i := 954) (by decide +kernel)⟩
theorem lw_p24 : lw_okq (⟨"LowWaterModel", "must", "(I)V"⟩, 24) := ⟨⟨by decide +kernel, by decide +kernel⟩, List.mem_of_getElem? (i := 850) (by decide +kernel), List.mem_of_getElem? (i := 959) (by decide +kernel), List.mem_of_getElem? (i := 960) (by decide +kernel)⟩
theorem lw_p25 : lw_okq (⟨"LowWaterModel", "figures", "()I"⟩, 24) := ⟨⟨by decide +kernel, by decide +kernel⟩, List.mem_of_getElem? (i := 850) (by decide +kernel), List.mem_of_getElem? (i := 963) (by decide +kernel), List.mem_of_getElem? (i := 964) (by decide +kernel)⟩
theorem lw_p26 : lw_okq (⟨"LowWaterModel", "some", "()V"⟩, 24) := ⟨⟨by decide +kernel, by decide +kernel⟩, List.mem_of_getElem? (i := 850) (by decide +kernel), List.mem_of_getElem? (i := 967) (by decide +kernel), List.mem_of_getElem? (i := 968) (by decide +kernel)⟩
theorem lw_p27 : lw_okq (⟨"LowWaterModel", "every", "()V"⟩, 24) := ⟨⟨by decide +kernel, by decide +kernel⟩, List.mem_of_getElem? (i := 850) (by decide +kernel), List.mem_of_getElem? (i := 971) (by decide +kernel), List.mem_of_getElem? (i := 972) (by decide +kernel)⟩
theorem lw_p28 : lw_okq (⟨"LowWaterModel", "factor", "()V"⟩, 24) := ⟨⟨by decide +kernel, by decide +kernel⟩, List.mem_of_getElem? (i := 850) (by decide +kernel), List.mem_of_getElem? (i := 975) (by decide +kernel), List.mem_of_getElem? (i := 976) (by decide +kernel)⟩
theorem lw_p29 : lw_okq (⟨"LowWaterModel", "emits", "(I)V"⟩, 24) := ⟨⟨by decide +kernel, by decide +kernel⟩, List.mem_of_getElem? (i := 850) (by decide +kernel), List.mem_of_getElem? (i := 979) (by decide +kernel), List.mem_of_getElem? (i := 980) (by decide +kernel)⟩
theorem lw_p30 : lw_okq (⟨"LowWaterModel", "among", "(Ljava/lang/String;)I"⟩, 24) := ⟨⟨by decide +kernel, by decide +kernel⟩, List.mem_of_getElem? (i := 850) (by decide +kernel), List.mem_of_getElem? (i := 984) (by decide +kernel), List.mem_of_getElem? (i := 985) (by decide +kernel)⟩
theorem lw_p31 : lw_okq (⟨"LowWaterModel", "isSlate", "(I)Z"⟩, 24) := ⟨⟨by decide +kernel, by decide +kernel⟩, List.mem_of_getElem? (i := 850) (by decide +kernel), List.mem_of_getElem? (i := 1002) (by decide +kernel), List.mem_of_getElem? (i := 1003) (by decide +kernel)⟩
def lw_privs_2 : List (MethodName × Nat) := [(⟨"LowWater", "tellOf", "(LLowWater$Row;IIII)I"⟩, 8), (⟨"LowWater", "fillWaited", "()I"⟩, 8), (⟨"LowWater", "waitOn", "(II)I"⟩, 8), (⟨"LowWater", "waitsIf", "(IIII)I"⟩, 8), (⟨"LowWaterModel", "clauseHere", "()V"⟩, 24), (⟨"LowWaterModel", "here", "()I"⟩, 24), (⟨"LowWaterModel", "much", "(ILjava/lang/String;)V"⟩, 24), (⟨"LowWaterModel", "spells", "(Ljava/lang/String;)V"⟩, 24), (⟨"LowWaterModel", "must", "(I)V"⟩, 24), (⟨"LowWaterModel", "figures", "()I"⟩, 24), (⟨"LowWaterModel", "some", "()V"⟩, 24), (⟨"LowWaterModel", "every", "()V"⟩, 24), (⟨"LowWaterModel", "factor", "()V"⟩, 24), (⟨"LowWaterModel", "emits", "(I)V"⟩, 24), (⟨"LowWaterModel", "among", "(Ljava/lang/String;)I"⟩, 24), (⟨"LowWaterModel", "isSlate", "(I)Z"⟩, 24)]
theorem lw_r2 : ∀ q ∈ lw_privs_2, lw_okq q := List.forall_mem_cons.mpr ⟨lw_p16, List.forall_mem_cons.mpr ⟨lw_p17, List.forall_mem_cons.mpr ⟨lw_p18, List.forall_mem_cons.mpr ⟨lw_p19, List.forall_mem_cons.mpr ⟨lw_p20, List.forall_mem_cons.mpr ⟨lw_p21, List.forall_mem_cons.mpr ⟨lw_p22, List.forall_mem_cons.mpr ⟨lw_p23, List.forall_mem_cons.mpr ⟨lw_p24, List.forall_mem_cons.mpr ⟨lw_p25, List.forall_mem_cons.mpr ⟨lw_p26, List.forall_mem_cons.mpr ⟨lw_p27, List.forall_mem_cons.mpr ⟨lw_p28, List.forall_mem_cons.mpr ⟨lw_p29, List.forall_mem_cons.mpr ⟨lw_p30, List.forall_mem_cons.mpr ⟨lw_p31, fun _ h => absurd h List.not_mem_nil⟩⟩⟩⟩⟩⟩⟩⟩⟩⟩⟩⟩⟩⟩⟩⟩
theorem lw_p32 : lw_okq (⟨"LowWaterModel", "isReader", "(I)Z"⟩, 24) := ⟨⟨by decide +kernel, by decide +kernel⟩, List.mem_of_getElem? (i := 850) (by decide +kernel), List.mem_of_getElem? (i := 1018) (by decide +kernel), List.mem_of_getElem? (i := 1019) (by decide +kernel)⟩
theorem lw_p33 : lw_okq (⟨"LowWaterModel", "needsOf", "(II)I"⟩, 24) := ⟨⟨by decide +kernel, by decide +kernel⟩, List.mem_of_getElem? (i := 850) (by decide +kernel), List.mem_of_getElem? (i := 1026) (by decide +kernel), List.mem_of_getElem? (i := 1027) (by decide +kernel)⟩
theorem lw_p34 : lw_okq (⟨"LowWaterModel", "levelAt", "(I)I"⟩, 24) := ⟨⟨by decide +kernel, by decide +kernel⟩, List.mem_of_getElem? (i := 850) (by decide +kernel), List.mem_of_getElem? (i := 1038) (by decide +kernel), List.mem_of_getElem? (i := 1039) (by decide +kernel)⟩
theorem lw_p35 : lw_okq (⟨"LowWaterModel", "looks", "(I)V"⟩, 24) := ⟨⟨by decide +kernel, by decide +kernel⟩, List.mem_of_getElem? (i := 850) (by decide +kernel), List.mem_of_getElem? (i := 1042) (by decide +kernel), List.mem_of_getElem? (i := 1043) (by decide +kernel)⟩
theorem lw_p36 : lw_okq (⟨"LowWaterModel", "forgets", "()V"⟩, 24) := ⟨⟨by decide +kernel, by decide +kernel⟩, List.mem_of_getElem? (i := 850) (by decide +kernel), List.mem_of_getElem? (i := 1054) (by decide +kernel), List.mem_of_getElem? (i := 1055) (by decide +kernel)⟩
theorem lw_p37 : lw_okq (⟨"LowWaterModel", "soonFrom", "(III)I"⟩, 24) := ⟨⟨by decide +kernel, by decide +kernel⟩, List.mem_of_getElem? (i := 850) (by decide +kernel), List.mem_of_getElem? (i := 1058) (by decide +kernel), List.mem_of_getElem? (i := 1059) (by decide +kernel)⟩
theorem lw_p38 : lw_okq (⟨"LowWaterModel", "canRead", "(III)Z"⟩, 24) := ⟨⟨by decide +kernel, by decide +kernel⟩, List.mem_of_getElem? (i := 850) (by decide +kernel), List.mem_of_getElem? (i := 1062) (by decide +kernel), List.mem_of_getElem? (i := 1063) (by decide +kernel)⟩
theorem lw_p39 : lw_okq (⟨"LowWaterModel", "mayBegin", "(II)Z"⟩, 24) := ⟨⟨by decide +kernel, by decide +kernel⟩, List.mem_of_getElem? (i := 850) (by decide +kernel), List.mem_of_getElem? (i := 1066) (by decide +kernel), List.mem_of_getElem? (i := 1067) (by decide +kernel)⟩
theorem lw_p40 : lw_okq (⟨"LowWaterModel", "levelIn", "(I)I"⟩, 24) := ⟨⟨by decide +kernel, by decide +kernel⟩, List.mem_of_getElem? (i := 850) (by decide +kernel), List.mem_of_getElem? (i := 1070) (by decide +kernel), List.mem_of_getElem? (i := 1071) (by decide +kernel)⟩
theorem lw_p41 : lw_okq (⟨"LowWaterModel", "isOpen", "(III)Z"⟩, 24) := ⟨⟨by decide +kernel, by decide +kernel⟩, List.mem_of_getElem? (i := 850) (by decide +kernel), List.mem_of_getElem? (i := 1074) (by decide +kernel), List.mem_of_getElem? (i := 1075) (by decide +kernel)⟩
theorem lw_p42 : lw_okq (⟨"LowWaterModel", "isSet", "(I)Z"⟩, 24) := ⟨⟨by decide +kernel, by decide +kernel⟩, List.mem_of_getElem? (i := 850) (by decide +kernel), List.mem_of_getElem? (i := 1086) (by decide +kernel), List.mem_of_getElem? (i := 1087) (by decide +kernel)⟩
theorem lw_p43 : lw_okq (⟨"LowWaterModel", "forgetsSoons", "()V"⟩, 24) := ⟨⟨by decide +kernel, by decide +kernel⟩, List.mem_of_getElem? (i := 850) (by decide +kernel), List.mem_of_getElem? (i := 1090) (by decide +kernel), List.mem_of_getElem? (i := 1091) (by decide +kernel)⟩
theorem lw_p44 : lw_okq (⟨"LowWaterModel", "endOf", "(II)I"⟩, 24) := ⟨⟨by decide +kernel, by decide +kernel⟩, List.mem_of_getElem? (i := 850) (by decide +kernel), List.mem_of_getElem? (i := 1094) (by decide +kernel), List.mem_of_getElem? (i := 1095) (by decide +kernel)⟩
theorem lw_p45 : lw_okq (⟨"LowWaterModel", "ordersFrom", "(IIII)V"⟩, 24) := ⟨⟨by decide +kernel, by decide +kernel⟩, List.mem_of_getElem? (i := 850) (by decide +kernel), List.mem_of_getElem? (i := 1098) (by decide +kernel), List.mem_of_getElem? (i := 1099) (by decide +kernel)⟩
theorem lw_p46 : lw_okq (⟨"LowWaterModel", "soonKnown", "(III)I"⟩, 24) := ⟨⟨by decide +kernel, by decide +kernel⟩, List.mem_of_getElem? (i := 850) (by decide +kernel), List.mem_of_getElem? (i := 1102) (by decide +kernel), List.mem_of_getElem? (i := 1103) (by decide +kernel)⟩
theorem lw_p47 : lw_okq (⟨"LowWaterModel", "waitsAll", "()I"⟩, 24) := ⟨⟨by decide +kernel, by decide +kernel⟩, List.mem_of_getElem? (i := 850) (by decide +kernel), List.mem_of_getElem? (i := 1118) (by decide +kernel), List.mem_of_getElem? (i := 1119) (by decide +kernel)⟩
def lw_privs_3 : List (MethodName × Nat) := [(⟨"LowWaterModel", "isReader", "(I)Z"⟩, 24), (⟨"LowWaterModel", "needsOf", "(II)I"⟩, 24), (⟨"LowWaterModel", "levelAt", "(I)I"⟩, 24), (⟨"LowWaterModel", "looks", "(I)V"⟩, 24), (⟨"LowWaterModel", "forgets", "()V"⟩, 24), (⟨"LowWaterModel", "soonFrom", "(III)I"⟩, 24), (⟨"LowWaterModel", "canRead", "(III)Z"⟩, 24), (⟨"LowWaterModel", "mayBegin", "(II)Z"⟩, 24), (⟨"LowWaterModel", "levelIn", "(I)I"⟩, 24), (⟨"LowWaterModel", "isOpen", "(III)Z"⟩, 24), (⟨"LowWaterModel", "isSet", "(I)Z"⟩, 24), (⟨"LowWaterModel", "forgetsSoons", "()V"⟩, 24), (⟨"LowWaterModel", "endOf", "(II)I"⟩, 24), (⟨"LowWaterModel", "ordersFrom", "(IIII)V"⟩, 24), (⟨"LowWaterModel", "soonKnown", "(III)I"⟩, 24), (⟨"LowWaterModel", "waitsAll", "()I"⟩, 24)]
theorem lw_r3 : ∀ q ∈ lw_privs_3, lw_okq q := List.forall_mem_cons.mpr ⟨lw_p32, List.forall_mem_cons.mpr ⟨lw_p33, List.forall_mem_cons.mpr ⟨lw_p34, List.forall_mem_cons.mpr ⟨lw_p35, List.forall_mem_cons.mpr ⟨lw_p36, List.forall_mem_cons.mpr ⟨lw_p37, List.forall_mem_cons.mpr ⟨lw_p38, List.forall_mem_cons.mpr ⟨lw_p39, List.forall_mem_cons.mpr ⟨lw_p40, List.forall_mem_cons.mpr ⟨lw_p41, List.forall_mem_cons.mpr ⟨lw_p42, List.forall_mem_cons.mpr ⟨lw_p43, List.forall_mem_cons.mpr ⟨lw_p44, List.forall_mem_cons.mpr ⟨lw_p45, List.forall_mem_cons.mpr ⟨lw_p46, List.forall_mem_cons.mpr ⟨lw_p47, fun _ h => absurd h List.not_mem_nil⟩⟩⟩⟩⟩⟩⟩⟩⟩⟩⟩⟩⟩⟩⟩⟩
theorem lw_p48 : lw_okq (⟨"LowWaterModel", "changes", "(II)V"⟩, 24) := ⟨⟨by decide +kernel, by decide +kernel⟩, List.mem_of_getElem? (i := 850) (by decide +kernel), List.mem_of_getElem? (i := 1130) (by decide +kernel), List.mem_of_getElem? (i := 1131) (by decide +kernel)⟩
theorem lw_p49 : lw_okq (⟨"LowWaterModel", "readsActs", "(I)I"⟩, 24) := ⟨⟨by decide +kernel, by decide +kernel⟩, List.mem_of_getElem? (i := 850) (by decide +kernel), List.mem_of_getElem? (i := 1179) (by decide +kernel), List.mem_of_getElem? (i := 1180) (by decide +kernel)⟩
theorem lw_p50 : lw_okq (⟨"LowWaterModel", "ranBody", "(I)V"⟩, 24) := ⟨⟨by decide +kernel, by decide +kernel⟩, List.mem_of_getElem? (i := 850) (by decide +kernel), List.mem_of_getElem? (i := 1186) (by decide +kernel), List.mem_of_getElem? (i := 1187) (by decide +kernel)⟩
theorem lw_p51 : lw_okq (⟨"LowWaterModel", "plainReads", "(I)I"⟩, 24) := ⟨⟨by decide +kernel, by decide +kernel⟩, List.mem_of_getElem? (i := 850) (by decide +kernel), List.mem_of_getElem? (i := 1190) (by decide +kernel), List.mem_of_getElem? (i := 1191) (by decide +kernel)⟩
theorem lw_p52 : lw_okq (⟨"LowWaterModel", "waitsActs", "(I)I"⟩, 24) := ⟨⟨by decide +kernel, by decide +kernel⟩, List.mem_of_getElem? (i := 850) (by decide +kernel), List.mem_of_getElem? (i := 1194) (by decide +kernel), List.mem_of_getElem? (i := 1195) (by decide +kernel)⟩
theorem lw_p53 : lw_okq (⟨"LowWaterModel", "plainWaits", "(I)I"⟩, 24) := ⟨⟨by decide +kernel, by decide +kernel⟩, List.mem_of_getElem? (i := 850) (by decide +kernel), List.mem_of_getElem? (i := 1198) (by decide +kernel), List.mem_of_getElem? (i := 1199) (by decide +kernel)⟩
theorem lw_p54 : lw_okq (⟨"LowWaterModel", "tellsActs", "(I)I"⟩, 24) := ⟨⟨by decide +kernel, by decide +kernel⟩, List.mem_of_getElem? (i := 850) (by decide +kernel), List.mem_of_getElem? (i := 1202) (by decide +kernel), List.mem_of_getElem? (i := 1203) (by decide +kernel)⟩
theorem lw_p55 : lw_okq (⟨"LowWaterModel", "plainTells", "(I)I"⟩, 24) := ⟨⟨by decide +kernel, by decide +kernel⟩, List.mem_of_getElem? (i := 850) (by decide +kernel), List.mem_of_getElem? (i := 1206) (by decide +kernel), List.mem_of_getElem? (i := 1207) (by decide +kernel)⟩
def lw_privs_4 : List (MethodName × Nat) := [(⟨"LowWaterModel", "changes", "(II)V"⟩, 24), (⟨"LowWaterModel", "readsActs", "(I)I"⟩, 24), (⟨"LowWaterModel", "ranBody", "(I)V"⟩, 24), (⟨"LowWaterModel", "plainReads", "(I)I"⟩, 24), (⟨"LowWaterModel", "waitsActs", "(I)I"⟩, 24), (⟨"LowWaterModel", "plainWaits", "(I)I"⟩, 24), (⟨"LowWaterModel", "tellsActs", "(I)I"⟩, 24), (⟨"LowWaterModel", "plainTells", "(I)I"⟩, 24)]
theorem lw_r4 : ∀ q ∈ lw_privs_4, lw_okq q := List.forall_mem_cons.mpr ⟨lw_p48, List.forall_mem_cons.mpr ⟨lw_p49, List.forall_mem_cons.mpr ⟨lw_p50, List.forall_mem_cons.mpr ⟨lw_p51, List.forall_mem_cons.mpr ⟨lw_p52, List.forall_mem_cons.mpr ⟨lw_p53, List.forall_mem_cons.mpr ⟨lw_p54, List.forall_mem_cons.mpr ⟨lw_p55, fun _ h => absurd h List.not_mem_nil⟩⟩⟩⟩⟩⟩⟩⟩
def lw_privs : List (MethodName × Nat) := lw_privs_1 ++ (lw_privs_2 ++ (lw_privs_3 ++ (lw_privs_4)))
def lw_tbl : List Cond := k2_sels lw_privs ++ tables_1
theorem lw_privs_ok : ∀ q ∈ lw_privs, lw_okq q := by
  show ∀ q ∈ lw_privs_1 ++ (lw_privs_2 ++ (lw_privs_3 ++ (lw_privs_4))), lw_okq q
  exact List.forall_mem_append.mpr ⟨lw_r1, List.forall_mem_append.mpr ⟨lw_r2, List.forall_mem_append.mpr ⟨lw_r3, lw_r4⟩⟩⟩

def RX0 : String := "LowWater$Blind"
def TX0 : u_T := fun k => match k with
  | 0 => ("LowWater$Reader", "number", "I", true)
  | _ => ("LowWater$Reader", "v", "I", true)
def tyX0 : Nat → FieldType := fun k => match k with
  | 0 => .int
  | _ => .int
abbrev wsX00 : List Cond := u_ws RX0 TX0 2
theorem nmX0 : ∀ a, a < 2 → ∀ b, b < 2 → a ≠ b → (TX0 a).2.1 ≠ (TX0 b).2.1 := by decide +kernel
theorem tyX0_ok : ∀ k, k < 2 → parseFieldDescriptor (TX0 k).2.2.1 = some (tyX0 k) := by decide +kernel
abbrev cX0_init : ByteArray := prog_2_method_1_code
def yX0_init : MethodName := ⟨RX0, "<init>", "(II)V"⟩
abbrev cX0_kind : ByteArray := prog_2_method_2_code
def yX0_kind : MethodName := ⟨RX0, "kind", "()I"⟩
abbrev cX0_isA : ByteArray := prog_2_method_3_code
def yX0_isA : MethodName := ⟨RX0, "isA", "(I)Z"⟩
abbrev cX0_hoursFor : ByteArray := prog_2_method_4_code
def yX0_hoursFor : MethodName := ⟨RX0, "hoursFor", "(I)I"⟩
abbrev cX0_bodyOfReads : ByteArray := prog_2_method_5_code
def yX0_bodyOfReads : MethodName := ⟨RX0, "bodyOfReads", "(ILLowWater$Row;)I"⟩
def RX1 : String := "LowWater$Cave"
def TX1 : u_T := fun k => match k with
  | 0 => ("LowWater$Cave", "steps", "[I", true)
  | 1 => ("LowWater$Cave", "numbers", "[I", true)
  | 2 => ("LowWater$Cave", "size", "I", false)
  | 3 => ("LowWater$Cave", "tides", "[I", true)
  | 4 => ("LowWater$Cave", "text", "LLowWater$Row;", false)
  | _ => ("LowWater$Cave", "place", "I", false)
def tyX1 : Nat → FieldType := fun k => match k with
  | 0 => .array .int
  | 1 => .array .int
  | 2 => .int
  | 3 => .array .int
  | 4 => .object "LowWater$Row"
  | _ => .int
abbrev wsX10 : List Cond := u_ws RX1 TX1 6
theorem nmX1 : ∀ a, a < 6 → ∀ b, b < 6 → a ≠ b → (TX1 a).2.1 ≠ (TX1 b).2.1 := by decide +kernel
theorem tyX1_ok : ∀ k, k < 6 → parseFieldDescriptor (TX1 k).2.2.1 = some (tyX1 k) := by decide +kernel
abbrev cX1_init : ByteArray := prog_3_method_1_code
def yX1_init : MethodName := ⟨RX1, "<init>", "()V"⟩
abbrev cX1_levelAt : ByteArray := prog_3_method_2_code
def yX1_levelAt : MethodName := ⟨RX1, "levelAt", "(I)I"⟩
abbrev cX1_waveAt : ByteArray := prog_3_method_3_code
def yX1_waveAt : MethodName := ⟨RX1, "waveAt", "(I)I"⟩
abbrev cX1_takeFrom : ByteArray := prog_3_method_4_code
def yX1_takeFrom : MethodName := ⟨RX1, "takeFrom", "(LLowWater$Cave;)V"⟩
abbrev cX1_makeTide : ByteArray := prog_3_method_5_code
def yX1_makeTide : MethodName := ⟨RX1, "makeTide", "(I)V"⟩
abbrev cX1_read : ByteArray := prog_3_method_6_code
def yX1_read : MethodName := ⟨RX1, "read", "(LLowWater$Row;)I"⟩
abbrev cX1_readClause : ByteArray := prog_3_method_7_code
def yX1_readClause : MethodName := ⟨RX1, "readClause", "()Z"⟩
abbrev cX1_readE : ByteArray := prog_3_method_8_code
def yX1_readE : MethodName := ⟨RX1, "readE", "(I)Z"⟩
abbrev cX1_readT : ByteArray := prog_3_method_9_code
def yX1_readT : MethodName := ⟨RX1, "readT", "(I)Z"⟩
abbrev cX1_readF : ByteArray := prog_3_method_10_code
def yX1_readF : MethodName := ⟨RX1, "readF", "(I)Z"⟩
abbrev cX1_readTest : ByteArray := prog_3_method_11_code
def yX1_readTest : MethodName := ⟨RX1, "readTest", "()Z"⟩
abbrev cX1_readNumber : ByteArray := prog_3_method_12_code
def yX1_readNumber : MethodName := ⟨RX1, "readNumber", "()I"⟩
abbrev cX1_skip : ByteArray := prog_3_method_13_code
def yX1_skip : MethodName := ⟨RX1, "skip", "(I)Z"⟩
abbrev cX1_signHere : ByteArray := prog_3_method_14_code
def yX1_signHere : MethodName := ⟨RX1, "signHere", "()I"⟩
abbrev cX1_addStep : ByteArray := prog_3_method_15_code
def yX1_addStep : MethodName := ⟨RX1, "addStep", "(II)V"⟩
def RX2 : String := "LowWater$Diver"
def TX2 : u_T := fun k => match k with
  | 0 => ("LowWater$Reader", "number", "I", true)
  | _ => ("LowWater$Reader", "v", "I", true)
def tyX2 : Nat → FieldType := fun k => match k with
  | 0 => .int
  | _ => .int
abbrev wsX20 : List Cond := u_ws RX2 TX2 2
theorem nmX2 : ∀ a, a < 2 → ∀ b, b < 2 → a ≠ b → (TX2 a).2.1 ≠ (TX2 b).2.1 := by decide +kernel
theorem tyX2_ok : ∀ k, k < 2 → parseFieldDescriptor (TX2 k).2.2.1 = some (tyX2 k) := by decide +kernel
abbrev cX2_init : ByteArray := prog_4_method_1_code
def yX2_init : MethodName := ⟨RX2, "<init>", "(II)V"⟩
abbrev cX2_kind : ByteArray := prog_4_method_2_code
def yX2_kind : MethodName := ⟨RX2, "kind", "()I"⟩
abbrev cX2_isA : ByteArray := prog_4_method_3_code
def yX2_isA : MethodName := ⟨RX2, "isA", "(I)Z"⟩
abbrev cX2_reaches : ByteArray := prog_4_method_4_code
def yX2_reaches : MethodName := ⟨RX2, "reaches", "(II)Z"⟩
abbrev cX2_bodyOfWaits : ByteArray := prog_4_method_5_code
def yX2_bodyOfWaits : MethodName := ⟨RX2, "bodyOfWaits", "(ILLowWater$Row;)I"⟩
def RX3 : String := "LowWater$Fast"
def TX3 : u_T := fun k => match k with
  | 0 => ("LowWater$Reader", "number", "I", true)
  | _ => ("LowWater$Reader", "v", "I", true)
def tyX3 : Nat → FieldType := fun k => match k with
  | 0 => .int
  | _ => .int
abbrev wsX30 : List Cond := u_ws RX3 TX3 2
theorem nmX3 : ∀ a, a < 2 → ∀ b, b < 2 → a ≠ b → (TX3 a).2.1 ≠ (TX3 b).2.1 := by decide +kernel
theorem tyX3_ok : ∀ k, k < 2 → parseFieldDescriptor (TX3 k).2.2.1 = some (tyX3 k) := by decide +kernel
abbrev cX3_init : ByteArray := prog_5_method_1_code
def yX3_init : MethodName := ⟨RX3, "<init>", "(II)V"⟩
abbrev cX3_kind : ByteArray := prog_5_method_2_code
def yX3_kind : MethodName := ⟨RX3, "kind", "()I"⟩
abbrev cX3_isA : ByteArray := prog_5_method_3_code
def yX3_isA : MethodName := ⟨RX3, "isA", "(I)Z"⟩
abbrev cX3_hoursFor : ByteArray := prog_5_method_4_code
def yX3_hoursFor : MethodName := ⟨RX3, "hoursFor", "(I)I"⟩
abbrev cX3_bodyOfReads : ByteArray := prog_5_method_5_code
def yX3_bodyOfReads : MethodName := ⟨RX3, "bodyOfReads", "(ILLowWater$Row;)I"⟩
def RX4 : String := "LowWater$Orders"
def TX4 : u_T := fun k => match k with
  | 0 => ("LowWater$Orders", "state", "LLowWater$State;", false)
  | 1 => ("LowWater$Orders", "reader", "LLowWater$Reader;", false)
  | 2 => ("LowWater$Orders", "all", "I", false)
  | 3 => ("LowWater$Orders", "best", "[I", true)
  | 4 => ("LowWater$Orders", "row", "[I", true)
  | 5 => ("LowWater$Orders", "bestRow", "[I", true)
  | 6 => ("LowWater$Orders", "soons", "[I", true)
  | _ => ("LowWater$Orders", "asking", "I", false)
def tyX4 : Nat → FieldType := fun k => match k with
  | 0 => .object "LowWater$State"
  | 1 => .object "LowWater$Reader"
  | 2 => .int
  | 3 => .array .int
  | 4 => .array .int
  | 5 => .array .int
  | 6 => .array .int
  | _ => .int
abbrev wsX40 : List Cond := u_ws RX4 TX4 8
theorem nmX4 : ∀ a, a < 8 → ∀ b, b < 8 → a ≠ b → (TX4 a).2.1 ≠ (TX4 b).2.1 := by decide +kernel
theorem tyX4_ok : ∀ k, k < 8 → parseFieldDescriptor (TX4 k).2.2.1 = some (tyX4 k) := by decide +kernel
abbrev cX4_init : ByteArray := prog_6_method_1_code
def yX4_init : MethodName := ⟨RX4, "<init>", "()V"⟩
abbrev cX4_begin : ByteArray := prog_6_method_2_code
def yX4_begin : MethodName := ⟨RX4, "begin", "(LLowWater$State;LLowWater$Reader;I)V"⟩
abbrev cX4_goOn : ByteArray := prog_6_method_3_code
def yX4_goOn : MethodName := ⟨RX4, "goOn", "(III)V"⟩
abbrev cX4_hoursOf : ByteArray := prog_6_method_4_code
def yX4_hoursOf : MethodName := ⟨RX4, "hoursOf", "(I)I"⟩
abbrev cX4_kth : ByteArray := prog_6_method_5_code
def yX4_kth : MethodName := ⟨RX4, "kth", "(I)I"⟩
abbrev cX4_soonFrom : ByteArray := prog_6_method_6_code
def yX4_soonFrom : MethodName := ⟨RX4, "soonFrom", "(II)I"⟩
def RX5 : String := "LowWater$Quick"
def TX5 : u_T := fun k => match k with
  | 0 => ("LowWater$Reader", "number", "I", true)
  | _ => ("LowWater$Reader", "v", "I", true)
def tyX5 : Nat → FieldType := fun k => match k with
  | 0 => .int
  | _ => .int
abbrev wsX50 : List Cond := u_ws RX5 TX5 2
theorem nmX5 : ∀ a, a < 2 → ∀ b, b < 2 → a ≠ b → (TX5 a).2.1 ≠ (TX5 b).2.1 := by decide +kernel
theorem tyX5_ok : ∀ k, k < 2 → parseFieldDescriptor (TX5 k).2.2.1 = some (tyX5 k) := by decide +kernel
abbrev cX5_init : ByteArray := prog_7_method_1_code
def yX5_init : MethodName := ⟨RX5, "<init>", "(II)V"⟩
abbrev cX5_kind : ByteArray := prog_7_method_2_code
def yX5_kind : MethodName := ⟨RX5, "kind", "()I"⟩
abbrev cX5_isA : ByteArray := prog_7_method_3_code
def yX5_isA : MethodName := ⟨RX5, "isA", "(I)Z"⟩
abbrev cX5_hoursFor : ByteArray := prog_7_method_4_code
def yX5_hoursFor : MethodName := ⟨RX5, "hoursFor", "(I)I"⟩
abbrev cX5_bodyOfTells : ByteArray := prog_7_method_5_code
def yX5_bodyOfTells : MethodName := ⟨RX5, "bodyOfTells", "(ILLowWater$Row;)I"⟩
def RX6 : String := "LowWater$Reader"
def TX6 : u_T := fun k => match k with
  | 0 => ("LowWater$Reader", "number", "I", true)
  | _ => ("LowWater$Reader", "v", "I", true)
def tyX6 : Nat → FieldType := fun k => match k with
  | 0 => .int
  | _ => .int
abbrev wsX60 : List Cond := u_ws RX6 TX6 2
theorem nmX6 : ∀ a, a < 2 → ∀ b, b < 2 → a ≠ b → (TX6 a).2.1 ≠ (TX6 b).2.1 := by decide +kernel
theorem tyX6_ok : ∀ k, k < 2 → parseFieldDescriptor (TX6 k).2.2.1 = some (tyX6 k) := by decide +kernel
abbrev cX6_init : ByteArray := prog_8_method_1_code
def yX6_init : MethodName := ⟨RX6, "<init>", "(II)V"⟩
abbrev cX6_kind : ByteArray := prog_8_method_2_code
def yX6_kind : MethodName := ⟨RX6, "kind", "()I"⟩
abbrev cX6_isA : ByteArray := prog_8_method_3_code
def yX6_isA : MethodName := ⟨RX6, "isA", "(I)Z"⟩
abbrev cX6_hoursFor : ByteArray := prog_8_method_4_code
def yX6_hoursFor : MethodName := ⟨RX6, "hoursFor", "(I)I"⟩
abbrev cX6_reaches : ByteArray := prog_8_method_5_code
def yX6_reaches : MethodName := ⟨RX6, "reaches", "(II)Z"⟩
abbrev cX6_mayBegin : ByteArray := prog_8_method_6_code
def yX6_mayBegin : MethodName := ⟨RX6, "mayBegin", "(LLowWater$Cave;I)Z"⟩
abbrev cX6_reads : ByteArray := prog_8_method_7_code
def yX6_reads : MethodName := ⟨RX6, "reads", "(LLowWater$Cave;III)Z"⟩
abbrev cX6_soonest : ByteArray := prog_8_method_8_code
def yX6_soonest : MethodName := ⟨RX6, "soonest", "(LLowWater$Cave;III)I"⟩
abbrev cX6_bodyOfReads : ByteArray := prog_8_method_9_code
def yX6_bodyOfReads : MethodName := ⟨RX6, "bodyOfReads", "(ILLowWater$Row;)I"⟩
abbrev cX6_bodyOfWaits : ByteArray := prog_8_method_10_code
def yX6_bodyOfWaits : MethodName := ⟨RX6, "bodyOfWaits", "(ILLowWater$Row;)I"⟩
abbrev cX6_bodyOfTells : ByteArray := prog_8_method_11_code
def yX6_bodyOfTells : MethodName := ⟨RX6, "bodyOfTells", "(ILLowWater$Row;)I"⟩
def RX7 : String := "LowWater$Row"
def TX7 : u_T := fun k => match k with
  | 0 => ("LowWater$Row", "items", "[I", true)
  | _ => ("LowWater$Row", "size", "I", false)
def tyX7 : Nat → FieldType := fun k => match k with
  | 0 => .array .int
  | _ => .int
abbrev wsX70 : List Cond := u_ws RX7 TX7 2
theorem nmX7 : ∀ a, a < 2 → ∀ b, b < 2 → a ≠ b → (TX7 a).2.1 ≠ (TX7 b).2.1 := by decide +kernel
theorem tyX7_ok : ∀ k, k < 2 → parseFieldDescriptor (TX7 k).2.2.1 = some (tyX7 k) := by decide +kernel
abbrev cX7_init : ByteArray := prog_9_method_1_code
def yX7_init : MethodName := ⟨RX7, "<init>", "([I)V"⟩
abbrev cX7_isFull : ByteArray := prog_9_method_2_code
def yX7_isFull : MethodName := ⟨RX7, "isFull", "()Z"⟩
abbrev cX7_add : ByteArray := prog_9_method_3_code
def yX7_add : MethodName := ⟨RX7, "add", "(I)V"⟩
abbrev cX7_get : ByteArray := prog_9_method_4_code
def yX7_get : MethodName := ⟨RX7, "get", "(I)I"⟩
abbrev cX7_replace : ByteArray := prog_9_method_5_code
def yX7_replace : MethodName := ⟨RX7, "replace", "(II)V"⟩
abbrev cX7_clear : ByteArray := prog_9_method_6_code
def yX7_clear : MethodName := ⟨RX7, "clear", "()V"⟩
abbrev cX7_takeFrom : ByteArray := prog_9_method_7_code
def yX7_takeFrom : MethodName := ⟨RX7, "takeFrom", "(LLowWater$Row;)V"⟩
def RX8 : String := "LowWater$Rowed"
def TX8 : u_T := fun k => match k with
  | 0 => ("LowWater$Reader", "number", "I", true)
  | _ => ("LowWater$Reader", "v", "I", true)
def tyX8 : Nat → FieldType := fun k => match k with
  | 0 => .int
  | _ => .int
abbrev wsX80 : List Cond := u_ws RX8 TX8 2
theorem nmX8 : ∀ a, a < 2 → ∀ b, b < 2 → a ≠ b → (TX8 a).2.1 ≠ (TX8 b).2.1 := by decide +kernel
theorem tyX8_ok : ∀ k, k < 2 → parseFieldDescriptor (TX8 k).2.2.1 = some (tyX8 k) := by decide +kernel
abbrev cX8_init : ByteArray := prog_10_method_1_code
def yX8_init : MethodName := ⟨RX8, "<init>", "(II)V"⟩
abbrev cX8_kind : ByteArray := prog_10_method_2_code
def yX8_kind : MethodName := ⟨RX8, "kind", "()I"⟩
abbrev cX8_isA : ByteArray := prog_10_method_3_code
def yX8_isA : MethodName := ⟨RX8, "isA", "(I)Z"⟩
abbrev cX8_mayBegin : ByteArray := prog_10_method_4_code
def yX8_mayBegin : MethodName := ⟨RX8, "mayBegin", "(LLowWater$Cave;I)Z"⟩
abbrev cX8_bodyOfTells : ByteArray := prog_10_method_5_code
def yX8_bodyOfTells : MethodName := ⟨RX8, "bodyOfTells", "(ILLowWater$Row;)I"⟩
def RX9 : String := "LowWater$State"
def TX9 : u_T := fun k => match k with
  | 0 => ("LowWater$State", "hour", "I", false)
  | 1 => ("LowWater$State", "caves", "I", false)
  | 2 => ("LowWater$State", "readerCount", "I", false)
  | 3 => ("LowWater$State", "cave", "LLowWater$Cave;", false)
  | 4 => ("LowWater$State", "readers", "[LLowWater$Reader;", true)
  | 5 => ("LowWater$State", "tape", "LLowWater$Row;", true)
  | 6 => ("LowWater$State", "shelves", "LLowWater$Row;", true)
  | 7 => ("LowWater$State", "lines", "LLowWater$Row;", true)
  | 8 => ("LowWater$State", "asks", "LLowWater$Row;", true)
  | 9 => ("LowWater$State", "seen", "LLowWater$Row;", true)
  | _ => ("LowWater$State", "tales", "LLowWater$Row;", true)
def tyX9 : Nat → FieldType := fun k => match k with
  | 0 => .int
  | 1 => .int
  | 2 => .int
  | 3 => .object "LowWater$Cave"
  | 4 => .array (.object "LowWater$Reader")
  | 5 => .object "LowWater$Row"
  | 6 => .object "LowWater$Row"
  | 7 => .object "LowWater$Row"
  | 8 => .object "LowWater$Row"
  | 9 => .object "LowWater$Row"
  | _ => .object "LowWater$Row"
abbrev wsX90 : List Cond := u_ws RX9 TX9 11
theorem nmX9 : ∀ a, a < 11 → ∀ b, b < 11 → a ≠ b → (TX9 a).2.1 ≠ (TX9 b).2.1 := by decide +kernel
theorem tyX9_ok : ∀ k, k < 11 → parseFieldDescriptor (TX9 k).2.2.1 = some (tyX9 k) := by decide +kernel
abbrev cX9_init : ByteArray := prog_11_method_1_code
def yX9_init : MethodName := ⟨RX9, "<init>", "()V"⟩
abbrev cX9_readerAt : ByteArray := prog_11_method_2_code
def yX9_readerAt : MethodName := ⟨RX9, "readerAt", "(I)LLowWater$Reader;"⟩
abbrev cX9_takeFrom : ByteArray := prog_11_method_3_code
def yX9_takeFrom : MethodName := ⟨RX9, "takeFrom", "(LLowWater$State;)V"⟩
def RX10 : String := "LowWater$Waiting"
def TX10 : u_T := fun k => match k with
  | 0 => ("LowWater$Reader", "number", "I", true)
  | _ => ("LowWater$Reader", "v", "I", true)
def tyX10 : Nat → FieldType := fun k => match k with
  | 0 => .int
  | _ => .int
abbrev wsX100 : List Cond := u_ws RX10 TX10 2
theorem nmX10 : ∀ a, a < 2 → ∀ b, b < 2 → a ≠ b → (TX10 a).2.1 ≠ (TX10 b).2.1 := by decide +kernel
theorem tyX10_ok : ∀ k, k < 2 → parseFieldDescriptor (TX10 k).2.2.1 = some (tyX10 k) := by decide +kernel
abbrev cX10_init : ByteArray := prog_12_method_1_code
def yX10_init : MethodName := ⟨RX10, "<init>", "(II)V"⟩
abbrev cX10_kind : ByteArray := prog_12_method_2_code
def yX10_kind : MethodName := ⟨RX10, "kind", "()I"⟩
abbrev cX10_isA : ByteArray := prog_12_method_3_code
def yX10_isA : MethodName := ⟨RX10, "isA", "(I)Z"⟩
abbrev cX10_mayBegin : ByteArray := prog_12_method_4_code
def yX10_mayBegin : MethodName := ⟨RX10, "mayBegin", "(LLowWater$Cave;I)Z"⟩
abbrev cX10_bodyOfWaits : ByteArray := prog_12_method_5_code
def yX10_bodyOfWaits : MethodName := ⟨RX10, "bodyOfWaits", "(ILLowWater$Row;)I"⟩
def RX11 : String := "LowWater"
def TX11 : u_T := fun k => match k with
  | 0 => ("LowWater", "now", "LLowWater$State;", true)
  | 1 => ("LowWater", "kept", "LLowWater$State;", true)
  | 2 => ("LowWater", "imageTaken", "Z", false)
  | 3 => ("LowWater", "spare", "LLowWater$Cave;", false)
  | 4 => ("LowWater", "trace", "LLowWater$Row;", true)
  | 5 => ("LowWater", "orders", "LLowWater$Orders;", true)
  | 6 => ("LowWater", "othersOrders", "LLowWater$Orders;", true)
  | _ => ("LowWater", "waited", "[I", true)
def tyX11 : Nat → FieldType := fun k => match k with
  | 0 => .object "LowWater$State"
  | 1 => .object "LowWater$State"
  | 2 => .boolean
  | 3 => .object "LowWater$Cave"
  | 4 => .object "LowWater$Row"
  | 5 => .object "LowWater$Orders"
  | 6 => .object "LowWater$Orders"
  | _ => .array .int
abbrev wsX110 : List Cond := u_ws RX11 TX11 8
theorem nmX11 : ∀ a, a < 8 → ∀ b, b < 8 → a ≠ b → (TX11 a).2.1 ≠ (TX11 b).2.1 := by decide +kernel
theorem tyX11_ok : ∀ k, k < 8 → parseFieldDescriptor (TX11 k).2.2.1 = some (tyX11 k) := by decide +kernel
abbrev cX11_init : ByteArray := prog_1_method_1_code
def yX11_init : MethodName := ⟨RX11, "<init>", "()V"⟩
abbrev cX11_feed : ByteArray := prog_1_method_2_code
def yX11_feed : MethodName := ⟨RX11, "feed", "(I)I"⟩
abbrev cX11_cave : ByteArray := prog_1_method_3_code
def yX11_cave : MethodName := ⟨RX11, "cave", "()I"⟩
abbrev cX11_slate : ByteArray := prog_1_method_4_code
def yX11_slate : MethodName := ⟨RX11, "slate", "(II)I"⟩
abbrev cX11_of : ByteArray := prog_1_method_5_code
def yX11_of : MethodName := ⟨RX11, "of", "(II)I"⟩
abbrev cX11_put : ByteArray := prog_1_method_6_code
def yX11_put : MethodName := ⟨RX11, "put", "(II)I"⟩
abbrev cX11_reader : ByteArray := prog_1_method_7_code
def yX11_reader : MethodName := ⟨RX11, "reader", "(II)I"⟩
abbrev cX11_at : ByteArray := prog_1_method_8_code
def yX11_at : MethodName := ⟨RX11, "at", "(II)I"⟩
abbrev cX11_needs : ByteArray := prog_1_method_9_code
def yX11_needs : MethodName := ⟨RX11, "needs", "(II)I"⟩
abbrev cX11_hours : ByteArray := prog_1_method_10_code
def yX11_hours : MethodName := ⟨RX11, "hours", "(I)I"⟩
abbrev cX11_told : ByteArray := prog_1_method_11_code
def yX11_told : MethodName := ⟨RX11, "told", "(I)I"⟩
abbrev cX11_level : ByteArray := prog_1_method_12_code
def yX11_level : MethodName := ⟨RX11, "level", "(I)I"⟩
abbrev cX11_soon : ByteArray := prog_1_method_13_code
def yX11_soon : MethodName := ⟨RX11, "soon", "(II)I"⟩
abbrev cX11_set : ByteArray := prog_1_method_14_code
def yX11_set : MethodName := ⟨RX11, "set", "(III)I"⟩
abbrev cX11_two : ByteArray := prog_1_method_15_code
def yX11_two : MethodName := ⟨RX11, "two", "(IIII)I"⟩
abbrev cX11_ask : ByteArray := prog_1_method_16_code
def yX11_ask : MethodName := ⟨RX11, "ask", "(III)I"⟩
abbrev cX11_waits : ByteArray := prog_1_method_17_code
def yX11_waits : MethodName := ⟨RX11, "waits", "()I"⟩
abbrev cX11_shelve : ByteArray := prog_1_method_18_code
def yX11_shelve : MethodName := ⟨RX11, "shelve", "(II)I"⟩
abbrev cX11_change : ByteArray := prog_1_method_19_code
def yX11_change : MethodName := ⟨RX11, "change", "()I"⟩
abbrev cX11_force : ByteArray := prog_1_method_20_code
def yX11_force : MethodName := ⟨RX11, "force", "(I)I"⟩
abbrev cX11_open : ByteArray := prog_1_method_21_code
def yX11_open : MethodName := ⟨RX11, "open", "(III)I"⟩
abbrev cX11_next : ByteArray := prog_1_method_22_code
def yX11_next : MethodName := ⟨RX11, "next", "(I)I"⟩
abbrev cX11_safe : ByteArray := prog_1_method_23_code
def yX11_safe : MethodName := ⟨RX11, "safe", "(III)J"⟩
abbrev cX11_mean : ByteArray := prog_1_method_24_code
def yX11_mean : MethodName := ⟨RX11, "mean", "(II)J"⟩
abbrev cX11_see : ByteArray := prog_1_method_25_code
def yX11_see : MethodName := ⟨RX11, "see", "(IZ)I"⟩
abbrev cX11_stood : ByteArray := prog_1_method_26_code
def yX11_stood : MethodName := ⟨RX11, "stood", "()I"⟩
abbrev cX11_tale : ByteArray := prog_1_method_27_code
def yX11_tale : MethodName := ⟨RX11, "tale", "(III)I"⟩
abbrev cX11_looked : ByteArray := prog_1_method_28_code
def yX11_looked : MethodName := ⟨RX11, "looked", "()I"⟩
abbrev cX11_act : ByteArray := prog_1_method_29_code
def yX11_act : MethodName := ⟨RX11, "act", "(III)I"⟩
abbrev cX11_trace : ByteArray := prog_1_method_30_code
def yX11_trace : MethodName := ⟨RX11, "trace", "(I)I"⟩
abbrev cX11_as : ByteArray := prog_1_method_31_code
def yX11_as : MethodName := ⟨RX11, "as", "(II)I"⟩
abbrev cX11_image : ByteArray := prog_1_method_32_code
def yX11_image : MethodName := ⟨RX11, "image", "()I"⟩
abbrev cX11_undo : ByteArray := prog_1_method_33_code
def yX11_undo : MethodName := ⟨RX11, "undo", "()I"⟩
abbrev cX11_count : ByteArray := prog_1_method_34_code
def yX11_count : MethodName := ⟨RX11, "count", "(I)I"⟩
abbrev cX11_isSlate : ByteArray := prog_1_method_35_code
def yX11_isSlate : MethodName := ⟨RX11, "isSlate", "(I)Z"⟩
abbrev cX11_isShelf : ByteArray := prog_1_method_36_code
def yX11_isShelf : MethodName := ⟨RX11, "isShelf", "(I)Z"⟩
abbrev cX11_isWhat : ByteArray := prog_1_method_37_code
def yX11_isWhat : MethodName := ⟨RX11, "isWhat", "(I)Z"⟩
abbrev cX11_isNear : ByteArray := prog_1_method_38_code
def yX11_isNear : MethodName := ⟨RX11, "isNear", "(I)Z"⟩
abbrev cX11_isSet : ByteArray := prog_1_method_39_code
def yX11_isSet : MethodName := ⟨RX11, "isSet", "(I)Z"⟩
abbrev cX11_levelIn : ByteArray := prog_1_method_40_code
def yX11_levelIn : MethodName := ⟨RX11, "levelIn", "(I)I"⟩
abbrev cX11_newReader : ByteArray := prog_1_method_41_code
def yX11_newReader : MethodName := ⟨RX11, "newReader", "(III)LLowWater$Reader;"⟩
abbrev cX11_bothDone : ByteArray := prog_1_method_42_code
def yX11_bothDone : MethodName := ⟨RX11, "bothDone", "(II)I"⟩
abbrev cX11_tellOf : ByteArray := prog_1_method_43_code
def yX11_tellOf : MethodName := ⟨RX11, "tellOf", "(LLowWater$Row;IIII)I"⟩
abbrev cX11_readerIn : ByteArray := prog_1_method_44_code
def yX11_readerIn : MethodName := ⟨RX11, "readerIn", "(I)I"⟩
abbrev cX11_slateIn : ByteArray := prog_1_method_45_code
def yX11_slateIn : MethodName := ⟨RX11, "slateIn", "(I)I"⟩
abbrev cX11_hoursIn : ByteArray := prog_1_method_46_code
def yX11_hoursIn : MethodName := ⟨RX11, "hoursIn", "(I)I"⟩
abbrev cX11_waitOn : ByteArray := prog_1_method_47_code
def yX11_waitOn : MethodName := ⟨RX11, "waitOn", "(II)I"⟩
abbrev cX11_fillWaited : ByteArray := prog_1_method_48_code
def yX11_fillWaited : MethodName := ⟨RX11, "fillWaited", "()I"⟩
abbrev cX11_waitsIf : ByteArray := prog_1_method_49_code
def yX11_waitsIf : MethodName := ⟨RX11, "waitsIf", "(IIII)I"⟩
abbrev cX11_lowestTerms : ByteArray := prog_1_method_50_code
def yX11_lowestTerms : MethodName := ⟨RX11, "lowestTerms", "(JJI)J"⟩
def RX12 : String := "LowWaterModel"
def TX12 : u_T := fun k => match k with
  | 0 => ("LowWaterModel", "thrown", "I", false)
  | 1 => ("LowWaterModel", "s", "[I", true)
  | 2 => ("LowWaterModel", "image", "[I", true)
  | 3 => ("LowWaterModel", "hasImage", "Z", false)
  | 4 => ("LowWaterModel", "act", "I", false)
  | 5 => ("LowWaterModel", "spot", "I", false)
  | 6 => ("LowWaterModel", "end", "I", false)
  | 7 => ("LowWaterModel", "isWrong", "Z", false)
  | 8 => ("LowWaterModel", "opened", "I", false)
  | 9 => ("LowWaterModel", "by", "[I", true)
  | 10 => ("LowWaterModel", "truths", "[Z", true)
  | 11 => ("LowWaterModel", "swelling", "I", false)
  | 12 => ("LowWaterModel", "waving", "I", false)
  | 13 => ("LowWaterModel", "levels", "[I", true)
  | 14 => ("LowWaterModel", "known", "I", false)
  | 15 => ("LowWaterModel", "soons", "[I", true)
  | 16 => ("LowWaterModel", "row", "[I", true)
  | 17 => ("LowWaterModel", "bestRow", "[I", true)
  | 18 => ("LowWaterModel", "bestEnd", "I", false)
  | 19 => ("LowWaterModel", "bodies", "[I", true)
  | 20 => ("LowWaterModel", "ran", "I", false)
  | 21 => ("LowWaterModel", "kind", "I", false)
  | 22 => ("LowWaterModel", "number", "I", false)
  | _ => ("LowWaterModel", "tellsV", "I", false)
def tyX12 : Nat → FieldType := fun k => match k with
  | 0 => .int
  | 1 => .array .int
  | 2 => .array .int
  | 3 => .boolean
  | 4 => .int
  | 5 => .int
  | 6 => .int
  | 7 => .boolean
  | 8 => .int
  | 9 => .array .int
  | 10 => .array .boolean
  | 11 => .int
  | 12 => .int
  | 13 => .array .int
  | 14 => .int
  | 15 => .array .int
  | 16 => .array .int
  | 17 => .array .int
  | 18 => .int
  | 19 => .array .int
  | 20 => .int
  | 21 => .int
  | 22 => .int
  | _ => .int
abbrev wsX120 : List Cond := u_ws RX12 TX12 24
theorem nmX12 : ∀ a, a < 24 → ∀ b, b < 24 → a ≠ b → (TX12 a).2.1 ≠ (TX12 b).2.1 := by decide +kernel
theorem tyX12_ok : ∀ k, k < 24 → parseFieldDescriptor (TX12 k).2.2.1 = some (tyX12 k) := by decide +kernel
abbrev cX12_init : ByteArray := prog_14_method_1_code
def yX12_init : MethodName := ⟨RX12, "<init>", "()V"⟩
abbrev cX12_in : ByteArray := prog_14_method_3_code
def yX12_in : MethodName := ⟨RX12, "in", "(III)Z"⟩
abbrev cX12_isShelf : ByteArray := prog_14_method_4_code
def yX12_isShelf : MethodName := ⟨RX12, "isShelf", "(I)Z"⟩
abbrev cX12_isSlate : ByteArray := prog_14_method_5_code
def yX12_isSlate : MethodName := ⟨RX12, "isSlate", "(I)Z"⟩
abbrev cX12_isReader : ByteArray := prog_14_method_6_code
def yX12_isReader : MethodName := ⟨RX12, "isReader", "(I)Z"⟩
abbrev cX12_feed : ByteArray := prog_14_method_7_code
def yX12_feed : MethodName := ⟨RX12, "feed", "(I)I"⟩
abbrev cX12_here : ByteArray := prog_14_method_8_code
def yX12_here : MethodName := ⟨RX12, "here", "()I"⟩
abbrev cX12_must : ByteArray := prog_14_method_9_code
def yX12_must : MethodName := ⟨RX12, "must", "(I)V"⟩
abbrev cX12_spells : ByteArray := prog_14_method_10_code
def yX12_spells : MethodName := ⟨RX12, "spells", "(Ljava/lang/String;)V"⟩
abbrev cX12_figures : ByteArray := prog_14_method_11_code
def yX12_figures : MethodName := ⟨RX12, "figures", "()I"⟩
abbrev cX12_among : ByteArray := prog_14_method_12_code
def yX12_among : MethodName := ⟨RX12, "among", "(Ljava/lang/String;)I"⟩
abbrev cX12_emits : ByteArray := prog_14_method_13_code
def yX12_emits : MethodName := ⟨RX12, "emits", "(I)V"⟩
abbrev cX12_factor : ByteArray := prog_14_method_14_code
def yX12_factor : MethodName := ⟨RX12, "factor", "()V"⟩
abbrev cX12_every : ByteArray := prog_14_method_15_code
def yX12_every : MethodName := ⟨RX12, "every", "()V"⟩
abbrev cX12_some : ByteArray := prog_14_method_16_code
def yX12_some : MethodName := ⟨RX12, "some", "()V"⟩
abbrev cX12_much : ByteArray := prog_14_method_17_code
def yX12_much : MethodName := ⟨RX12, "much", "(ILjava/lang/String;)V"⟩
abbrev cX12_clauseHere : ByteArray := prog_14_method_18_code
def yX12_clauseHere : MethodName := ⟨RX12, "clauseHere", "()V"⟩
abbrev cX12_cave : ByteArray := prog_14_method_19_code
def yX12_cave : MethodName := ⟨RX12, "cave", "()I"⟩
abbrev cX12_looks : ByteArray := prog_14_method_20_code
def yX12_looks : MethodName := ⟨RX12, "looks", "(I)V"⟩
abbrev cX12_levelAt : ByteArray := prog_14_method_21_code
def yX12_levelAt : MethodName := ⟨RX12, "levelAt", "(I)I"⟩
abbrev cX12_forgets : ByteArray := prog_14_method_22_code
def yX12_forgets : MethodName := ⟨RX12, "forgets", "()V"⟩
abbrev cX12_levelIn : ByteArray := prog_14_method_23_code
def yX12_levelIn : MethodName := ⟨RX12, "levelIn", "(I)I"⟩
abbrev cX12_slate : ByteArray := prog_14_method_24_code
def yX12_slate : MethodName := ⟨RX12, "slate", "(II)I"⟩
abbrev cX12_of : ByteArray := prog_14_method_25_code
def yX12_of : MethodName := ⟨RX12, "of", "(II)I"⟩
abbrev cX12_put : ByteArray := prog_14_method_26_code
def yX12_put : MethodName := ⟨RX12, "put", "(II)I"⟩
abbrev cX12_reader : ByteArray := prog_14_method_27_code
def yX12_reader : MethodName := ⟨RX12, "reader", "(II)I"⟩
abbrev cX12_at : ByteArray := prog_14_method_28_code
def yX12_at : MethodName := ⟨RX12, "at", "(II)I"⟩
abbrev cX12_needsOf : ByteArray := prog_14_method_29_code
def yX12_needsOf : MethodName := ⟨RX12, "needsOf", "(II)I"⟩
abbrev cX12_needs : ByteArray := prog_14_method_30_code
def yX12_needs : MethodName := ⟨RX12, "needs", "(II)I"⟩
abbrev cX12_hours : ByteArray := prog_14_method_31_code
def yX12_hours : MethodName := ⟨RX12, "hours", "(I)I"⟩
abbrev cX12_told : ByteArray := prog_14_method_32_code
def yX12_told : MethodName := ⟨RX12, "told", "(I)I"⟩
abbrev cX12_level : ByteArray := prog_14_method_33_code
def yX12_level : MethodName := ⟨RX12, "level", "(I)I"⟩
abbrev cX12_isOpen : ByteArray := prog_14_method_34_code
def yX12_isOpen : MethodName := ⟨RX12, "isOpen", "(III)Z"⟩
abbrev cX12_mayBegin : ByteArray := prog_14_method_35_code
def yX12_mayBegin : MethodName := ⟨RX12, "mayBegin", "(II)Z"⟩
abbrev cX12_canRead : ByteArray := prog_14_method_36_code
def yX12_canRead : MethodName := ⟨RX12, "canRead", "(III)Z"⟩
abbrev cX12_soonFrom : ByteArray := prog_14_method_37_code
def yX12_soonFrom : MethodName := ⟨RX12, "soonFrom", "(III)I"⟩
abbrev cX12_orNone : ByteArray := prog_14_method_38_code
def yX12_orNone : MethodName := ⟨RX12, "orNone", "(I)I"⟩
abbrev cX12_soon : ByteArray := prog_14_method_39_code
def yX12_soon : MethodName := ⟨RX12, "soon", "(II)I"⟩
abbrev cX12_forgetsSoons : ByteArray := prog_14_method_40_code
def yX12_forgetsSoons : MethodName := ⟨RX12, "forgetsSoons", "()V"⟩
abbrev cX12_soonKnown : ByteArray := prog_14_method_41_code
def yX12_soonKnown : MethodName := ⟨RX12, "soonKnown", "(III)I"⟩
abbrev cX12_ordersFrom : ByteArray := prog_14_method_42_code
def yX12_ordersFrom : MethodName := ⟨RX12, "ordersFrom", "(IIII)V"⟩
abbrev cX12_endOf : ByteArray := prog_14_method_43_code
def yX12_endOf : MethodName := ⟨RX12, "endOf", "(II)I"⟩
abbrev cX12_isSet : ByteArray := prog_14_method_44_code
def yX12_isSet : MethodName := ⟨RX12, "isSet", "(I)Z"⟩
abbrev cX12_set : ByteArray := prog_14_method_45_code
def yX12_set : MethodName := ⟨RX12, "set", "(III)I"⟩
abbrev cX12_two : ByteArray := prog_14_method_46_code
def yX12_two : MethodName := ⟨RX12, "two", "(IIII)I"⟩
abbrev cX12_ask : ByteArray := prog_14_method_47_code
def yX12_ask : MethodName := ⟨RX12, "ask", "(III)I"⟩
abbrev cX12_waitsAll : ByteArray := prog_14_method_48_code
def yX12_waitsAll : MethodName := ⟨RX12, "waitsAll", "()I"⟩
abbrev cX12_waits : ByteArray := prog_14_method_49_code
def yX12_waits : MethodName := ⟨RX12, "waits", "()I"⟩
abbrev cX12_shelve : ByteArray := prog_14_method_50_code
def yX12_shelve : MethodName := ⟨RX12, "shelve", "(II)I"⟩
abbrev cX12_changes : ByteArray := prog_14_method_51_code
def yX12_changes : MethodName := ⟨RX12, "changes", "(II)V"⟩
abbrev cX12_change : ByteArray := prog_14_method_52_code
def yX12_change : MethodName := ⟨RX12, "change", "()I"⟩
abbrev cX12_force : ByteArray := prog_14_method_53_code
def yX12_force : MethodName := ⟨RX12, "force", "(I)I"⟩
abbrev cX12_open : ByteArray := prog_14_method_54_code
def yX12_open : MethodName := ⟨RX12, "open", "(III)I"⟩
abbrev cX12_next : ByteArray := prog_14_method_55_code
def yX12_next : MethodName := ⟨RX12, "next", "(I)I"⟩
abbrev cX12_lowest : ByteArray := prog_14_method_56_code
def yX12_lowest : MethodName := ⟨RX12, "lowest", "(JJI)J"⟩
abbrev cX12_safe : ByteArray := prog_14_method_57_code
def yX12_safe : MethodName := ⟨RX12, "safe", "(III)J"⟩
abbrev cX12_mean : ByteArray := prog_14_method_58_code
def yX12_mean : MethodName := ⟨RX12, "mean", "(II)J"⟩
abbrev cX12_see : ByteArray := prog_14_method_59_code
def yX12_see : MethodName := ⟨RX12, "see", "(IZ)I"⟩
abbrev cX12_stood : ByteArray := prog_14_method_60_code
def yX12_stood : MethodName := ⟨RX12, "stood", "()I"⟩
abbrev cX12_tale : ByteArray := prog_14_method_61_code
def yX12_tale : MethodName := ⟨RX12, "tale", "(III)I"⟩
abbrev cX12_looked : ByteArray := prog_14_method_62_code
def yX12_looked : MethodName := ⟨RX12, "looked", "()I"⟩
abbrev cX12_ranBody : ByteArray := prog_14_method_63_code
def yX12_ranBody : MethodName := ⟨RX12, "ranBody", "(I)V"⟩
abbrev cX12_isUnder : ByteArray := prog_14_method_64_code
def yX12_isUnder : MethodName := ⟨RX12, "isUnder", "(II)Z"⟩
abbrev cX12_plainReads : ByteArray := prog_14_method_65_code
def yX12_plainReads : MethodName := ⟨RX12, "plainReads", "(I)I"⟩
abbrev cX12_readsActs : ByteArray := prog_14_method_66_code
def yX12_readsActs : MethodName := ⟨RX12, "readsActs", "(I)I"⟩
abbrev cX12_plainWaits : ByteArray := prog_14_method_67_code
def yX12_plainWaits : MethodName := ⟨RX12, "plainWaits", "(I)I"⟩
abbrev cX12_waitsActs : ByteArray := prog_14_method_68_code
def yX12_waitsActs : MethodName := ⟨RX12, "waitsActs", "(I)I"⟩
abbrev cX12_plainTells : ByteArray := prog_14_method_69_code
def yX12_plainTells : MethodName := ⟨RX12, "plainTells", "(I)I"⟩
abbrev cX12_tellsActs : ByteArray := prog_14_method_70_code
def yX12_tellsActs : MethodName := ⟨RX12, "tellsActs", "(I)I"⟩
abbrev cX12_act : ByteArray := prog_14_method_71_code
def yX12_act : MethodName := ⟨RX12, "act", "(III)I"⟩
abbrev cX12_trace : ByteArray := prog_14_method_72_code
def yX12_trace : MethodName := ⟨RX12, "trace", "(I)I"⟩
abbrev cX12_as : ByteArray := prog_14_method_73_code
def yX12_as : MethodName := ⟨RX12, "as", "(II)I"⟩
abbrev cX12_image : ByteArray := prog_14_method_74_code
def yX12_image : MethodName := ⟨RX12, "image", "()I"⟩
abbrev cX12_undo : ByteArray := prog_14_method_75_code
def yX12_undo : MethodName := ⟨RX12, "undo", "()I"⟩
abbrev cX12_count : ByteArray := prog_14_method_76_code
def yX12_count : MethodName := ⟨RX12, "count", "(I)I"⟩
def RJ6 : String := "java/lang/Integer"
def TJ6 : u_T := fun k => match k with
  | _ => ("", "", "", false)
def tyJ6 : Nat → FieldType := fun k => match k with
  | _ => .int
abbrev wsJ60 : List Cond := u_ws RJ6 TJ6 0
theorem nmJ6 : ∀ a, a < 0 → ∀ b, b < 0 → a ≠ b → (TJ6 a).2.1 ≠ (TJ6 b).2.1 := by decide +kernel
theorem tyJ6_ok : ∀ k, k < 0 → parseFieldDescriptor (TJ6 k).2.2.1 = some (tyJ6 k) := by decide +kernel
abbrev cJ6_compare_7cf53 : ByteArray := prog_15_method_40_code
def yJ6_compare_7cf53 : MethodName := ⟨RJ6, "compare", "(II)I"⟩
abbrev cJ6_bitCount_0f7a4 : ByteArray := prog_15_method_49_code
def yJ6_bitCount_0f7a4 : MethodName := ⟨RJ6, "bitCount", "(I)I"⟩
def RJ9 : String := "java/lang/Math"
def TJ9 : u_T := fun k => match k with
  | _ => ("", "", "", false)
def tyJ9 : Nat → FieldType := fun k => match k with
  | _ => .int
abbrev wsJ90 : List Cond := u_ws RJ9 TJ9 0
theorem nmJ9 : ∀ a, a < 0 → ∀ b, b < 0 → a ≠ b → (TJ9 a).2.1 ≠ (TJ9 b).2.1 := by decide +kernel
theorem tyJ9_ok : ∀ k, k < 0 → parseFieldDescriptor (TJ9 k).2.2.1 = some (tyJ9 k) := by decide +kernel
abbrev cJ9_floorMod_7cf53 : ByteArray := prog_16_method_50_code
def yJ9_floorMod_7cf53 : MethodName := ⟨RJ9, "floorMod", "(II)I"⟩
abbrev cJ9_abs_0f7a4 : ByteArray := prog_16_method_59_code
def yJ9_abs_0f7a4 : MethodName := ⟨RJ9, "abs", "(I)I"⟩
abbrev cJ9_max_7cf53 : ByteArray := prog_16_method_65_code
def yJ9_max_7cf53 : MethodName := ⟨RJ9, "max", "(II)I"⟩
abbrev cJ9_min_7cf53 : ByteArray := prog_16_method_69_code
def yJ9_min_7cf53 : MethodName := ⟨RJ9, "min", "(II)I"⟩
def RJ0 : String := "java/lang/String"
def TJ0 : u_T := fun k => match k with
  | _ => ("", "", "", false)
def tyJ0 : Nat → FieldType := fun k => match k with
  | _ => .int
abbrev wsJ00 : List Cond := u_ws RJ0 TJ0 0
theorem nmJ0 : ∀ a, a < 0 → ∀ b, b < 0 → a ≠ b → (TJ0 a).2.1 ≠ (TJ0 b).2.1 := by decide +kernel
theorem tyJ0_ok : ∀ k, k < 0 → parseFieldDescriptor (TJ0 k).2.2.1 = some (tyJ0 k) := by decide +kernel
abbrev cJ0_length_8abf5 : ByteArray := prog_17_method_54_code
def yJ0_length_8abf5 : MethodName := ⟨RJ0, "length", "()I"⟩
abbrev cJ0_charAt_5068e : ByteArray := prog_17_method_56_code
def yJ0_charAt_5068e : MethodName := ⟨RJ0, "charAt", "(I)C"⟩
abbrev cJ0_coder_7d493 : ByteArray := prog_17_method_152_code
def yJ0_coder_7d493 : MethodName := ⟨RJ0, "coder", "()B"⟩
abbrev cJ0_isLatin1_aae02 : ByteArray := prog_17_method_154_code
def yJ0_isLatin1_aae02 : MethodName := ⟨RJ0, "isLatin1", "()Z"⟩
abbrev cJ0_checkIndex_df160 : ByteArray := prog_17_method_155_code
def yJ0_checkIndex_df160 : MethodName := ⟨RJ0, "checkIndex", "(II)V"⟩
def RJ1 : String := "java/lang/StringLatin1"
def TJ1 : u_T := fun k => match k with
  | _ => ("", "", "", false)
def tyJ1 : Nat → FieldType := fun k => match k with
  | _ => .int
abbrev wsJ10 : List Cond := u_ws RJ1 TJ1 0
theorem nmJ1 : ∀ a, a < 0 → ∀ b, b < 0 → a ≠ b → (TJ1 a).2.1 ≠ (TJ1 b).2.1 := by decide +kernel
theorem tyJ1_ok : ∀ k, k < 0 → parseFieldDescriptor (TJ1 k).2.2.1 = some (tyJ1 k) := by decide +kernel
abbrev cJ1_charAt_3b067 : ByteArray := prog_18_method_2_code
def yJ1_charAt_3b067 : MethodName := ⟨RJ1, "charAt", "([BI)C"⟩
def RJ2 : String := "java/lang/StringUTF16"
def TJ2 : u_T := fun k => match k with
  | _ => ("", "", "", false)
def tyJ2 : Nat → FieldType := fun k => match k with
  | _ => .int
abbrev wsJ20 : List Cond := u_ws RJ2 TJ2 0
theorem nmJ2 : ∀ a, a < 0 → ∀ b, b < 0 → a ≠ b → (TJ2 a).2.1 ≠ (TJ2 b).2.1 := by decide +kernel
theorem tyJ2_ok : ∀ k, k < 0 → parseFieldDescriptor (TJ2 k).2.2.1 = some (tyJ2 k) := by decide +kernel
abbrev cJ2_getChar_3b067 : ByteArray := prog_19_method_5_code
def yJ2_getChar_3b067 : MethodName := ⟨RJ2, "getChar", "([BI)C"⟩
abbrev cJ2_length_9d52b : ByteArray := prog_19_method_6_code
def yJ2_length_9d52b : MethodName := ⟨RJ2, "length", "([B)I"⟩
abbrev cJ2_charAt_3b067 : ByteArray := prog_19_method_83_code
def yJ2_charAt_3b067 : MethodName := ⟨RJ2, "charAt", "([BI)C"⟩
abbrev cJ2_checkIndex_2214a : ByteArray := prog_19_method_91_code
def yJ2_checkIndex_2214a : MethodName := ⟨RJ2, "checkIndex", "(I[B)V"⟩
def RJ10 : String := "java/lang/System"
def TJ10 : u_T := fun k => match k with
  | _ => ("", "", "", false)
def tyJ10 : Nat → FieldType := fun k => match k with
  | _ => .int
abbrev wsJ100 : List Cond := u_ws RJ10 TJ10 0
theorem nmJ10 : ∀ a, a < 0 → ∀ b, b < 0 → a ≠ b → (TJ10 a).2.1 ≠ (TJ10 b).2.1 := by decide +kernel
theorem tyJ10_ok : ∀ k, k < 0 → parseFieldDescriptor (TJ10 k).2.2.1 = some (tyJ10 k) := by decide +kernel
def RJ7 : String := "java/util/Arrays"
def TJ7 : u_T := fun k => match k with
  | _ => ("", "", "", false)
def tyJ7 : Nat → FieldType := fun k => match k with
  | _ => .int
abbrev wsJ70 : List Cond := u_ws RJ7 TJ7 0
theorem nmJ7 : ∀ a, a < 0 → ∀ b, b < 0 → a ≠ b → (TJ7 a).2.1 ≠ (TJ7 b).2.1 := by decide +kernel
theorem tyJ7_ok : ∀ k, k < 0 → parseFieldDescriptor (TJ7 k).2.2.1 = some (tyJ7 k) := by decide +kernel
abbrev cJ7_fill_53178 : ByteArray := prog_21_method_103_code
def yJ7_fill_53178 : MethodName := ⟨RJ7, "fill", "([II)V"⟩
def RJ3 : String := "jdk/internal/util/Preconditions"
def TJ3 : u_T := fun k => match k with
  | _ => ("", "", "", false)
def tyJ3 : Nat → FieldType := fun k => match k with
  | _ => .int
abbrev wsJ30 : List Cond := u_ws RJ3 TJ3 0
theorem nmJ3 : ∀ a, a < 0 → ∀ b, b < 0 → a ≠ b → (TJ3 a).2.1 ≠ (TJ3 b).2.1 := by decide +kernel
theorem tyJ3_ok : ∀ k, k < 0 → parseFieldDescriptor (TJ3 k).2.2.1 = some (tyJ3 k) := by decide +kernel
abbrev cJ3_checkIndex_8e157 : ByteArray := prog_22_method_11_code
def yJ3_checkIndex_8e157 : MethodName := ⟨RJ3, "checkIndex", "(IILjava/util/function/BiFunction;)I"⟩
def RL : String := "LowWaterLaw"
abbrev cL_law : ByteArray := code
def yL_law : MethodName := ⟨RL, "law", "([I)Z"⟩
abbrev vwCl : List vw_C := [(RX0, TX0, 2), (RX1, TX1, 6), (RX2, TX2, 2), (RX3, TX3, 2), (RX4, TX4, 8), (RX5, TX5, 2), (RX6, TX6, 2), (RX7, TX7, 2), (RX8, TX8, 2), (RX9, TX9, 11), (RX10, TX10, 2), (RX11, TX11, 8), (RX12, TX12, 24)]
/-- the words that keep, of all the tables' words -/
def zT : List Cond := lw_tbl.filter goodWord
theorem zT_all : zT.all goodWord = true := by
  unfold zT
  exact List.all_eq_true.mpr fun w h => (List.mem_filter.mp h).2
theorem zT_good {w : Cond} (h : w ∈ zT) : (w.onTables && w.keeps) = true ∨ ∃ ty, w = .arrayClass ty := good_of_word (List.all_eq_true.mp zT_all w h)
theorem zT_t {w : Cond} {i : Nat} (h : tables_1[i]? = some w) (hg : goodWord w = true) : w ∈ zT :=
  List.mem_filter.mpr ⟨List.mem_append_right _ (List.mem_of_getElem? h), hg⟩
theorem zT_s {w : Cond} {i : Nat} (h : (k2_sels lw_privs)[i]? = some w) (hg : goodWord w = true) : w ∈ zT :=
  List.mem_filter.mpr ⟨List.mem_append_left _ (List.mem_of_getElem? h), hg⟩
end
section
/-! my own logic over the kit's: an abstract heap (next address, cells), a method's run as AW, a method's promise as Sp -/
abbrev Hp : Type := Nat × (Nat → Option va_E)
def hp_up (h : Hp) (a : Nat) (e : va_E) : Hp := (h.1, fun j => if j = a then some e else h.2 j)
def hp_new (h : Hp) (e : va_E) : Hp := (h.1 + 1, fun j => if j = h.1 then some e else h.2 j)
/-- what stays the same through the whole run: classes and slots, the heap below, the array classes, the String constants -/
abbrev zG : Type := va_G × Heap × (ClassId × ClassId × ClassId) × (Nat → Nat) × (Nat → Nat)
def zb (g : zG) : Nat := g.2.1.size
def zR (g : zG) (h : Hp) (H : Heap) : Prop := H.size = h.1 ∧ zb g ≤ h.1 ∧ (∀ q, q < zb g → H[q]? = g.2.1[q]?) ∧ ∀ a e, h.2 a = some e → zb g ≤ a ∧ va_at g.1 vwCl (a, e) H
def zNF : List (String × Nat × String × String × String × String) := [("LowWater$Cave", 118, "LowWater$Row", "items", "[I", "LowWater"), ("LowWater", 66, "LowWater$Row", "size", "I", "LowWater"), ("LowWater$Cave", 73, "LowWater$Row", "size", "I", "LowWater"), ("LowWater$Orders", 86, "LowWater$State", "hour", "I", "LowWater"), ("LowWater", 137, "LowWater$State", "hour", "I", "LowWater"), ("LowWater", 70, "LowWater$State", "caves", "I", "LowWater"), ("LowWater", 107, "LowWater$State", "readerCount", "I", "LowWater"), ("LowWater", 80, "LowWater$State", "cave", "LLowWater$Cave;", "LowWater"), ("LowWater$Orders", 79, "LowWater$State", "cave", "LLowWater$Cave;", "LowWater"), ("LowWater", 110, "LowWater$State", "readers", "[LLowWater$Reader;", "LowWater"), ("LowWater", 55, "LowWater$State", "tape", "LLowWater$Row;", "LowWater"), ("LowWater", 87, "LowWater$State", "shelves", "LLowWater$Row;", "LowWater"), ("LowWater$Orders", 83, "LowWater$State", "shelves", "LLowWater$Row;", "LowWater"), ("LowWater", 90, "LowWater$State", "lines", "LLowWater$Row;", "LowWater"), ("LowWater$Orders", 68, "LowWater$State", "lines", "LLowWater$Row;", "LowWater"), ("LowWater", 171, "LowWater$State", "asks", "LLowWater$Row;", "LowWater"), ("LowWater", 198, "LowWater$State", "seen", "LLowWater$Row;", "LowWater"), ("LowWater", 204, "LowWater$State", "tales", "LLowWater$Row;", "LowWater")]
def zNM : List (String × Nat × MethodName × String) := [("LowWater", 11, ⟨"LowWater$State", "<init>", "()V"⟩, "LowWater"), ("LowWater$State", 23, ⟨"LowWater$Cave", "<init>", "()V"⟩, "LowWater"), ("LowWater", 27, ⟨"LowWater$Cave", "<init>", "()V"⟩, "LowWater"), ("LowWater", 43, ⟨"LowWater$Orders", "<init>", "()V"⟩, "LowWater"), ("LowWater", 157, ⟨"LowWater$Orders", "goOn", "(III)V"⟩, "LowWater")]
def zN (U : State) : Prop := (∀ q ∈ zNF, va_Nw (.fieldLinkNest q.1 q.2.1 q.2.2.1 q.2.2.2.1 q.2.2.2.2.1 q.2.2.2.2.2) U) ∧ ∀ q ∈ zNM, va_Nw (.methodLinkNest q.1 q.2.1 q.2.2.1 q.2.2.2) U
def zLen : List Nat := [6, 4, 5, 3, 3]
def zByt : List (List Int32) := [[115, 119, 101, 108, 108, 32], [101, 98, 98, 32], [119, 97, 118, 101, 32], [104, 100, 109], [60, 61, 62]]
def zSR : List (String × Nat × String × Nat) := [("LowWater$Cave", 84, "swell ", 0), ("LowWater$Cave", 86, "ebb ", 1), ("LowWater$Cave", 88, "wave ", 2), ("LowWaterModel", 108, "swell ", 0), ("LowWaterModel", 114, "ebb ", 1), ("LowWaterModel", 116, "wave ", 2), ("LowWaterModel", 90, "hdm", 3), ("LowWaterModel", 96, "<=>", 4)]
def zStr (g : zG) (U : State) : Prop := vk_S 5 zLen zByt g.2.2.2.1 g.2.2.2.2 (fun q => zb g ≤ q) U g.2.1 ∧ (∀ q ∈ zSR, vk_R q.1 q.2.1 q.2.2.1 (g.2.2.2.1 q.2.2.2) U) ∧ va_Z "java/lang/String" "COMPACT_STRINGS" "Z" (.int 1) (fun q => zb g ≤ q) U g.2.1 ∧ va_Zq "jdk/internal/util/Preconditions" "SIOOBE_FORMATTER" "Ljava/util/function/BiFunction;" (fun q => zb g ≤ q) U g.2.1
def zK (g : zG) (U : State) : Prop := va_K g.1 vwCl [(g.2.2.1.1, .int), (g.2.2.1.2.1, .boolean), (g.2.2.1.2.2, .object "LowWater$Reader")] U ∧ zN U ∧ zStr g U ∧ va_AO "LowWater$Reader" U
theorem zK.same {g : zG} {u U : State} (hv : u.vm = U.vm) (h : zK g u) : zK g U := by
  obtain ⟨h1, ⟨h2, h3⟩, ⟨h4, h5, h6, h7⟩, h8⟩ := h
  have ha : u.vm.Alike U.vm := by rw [hv]; exact Vm.Alike.refl _
  exact ⟨h1.moved ha, ⟨fun q hq => (h2 q hq).same rfl hv, fun q hq => (h3 q hq).same rfl hv⟩, ⟨h4.moved ha, fun q hq => vk_R.same hv.symm (h5 q hq), h6.moved ha, h7.moved ha⟩, h8.moved ha⟩
theorem zK.warm {g : zG} {s U : State} (hW : s.WarmedH U.vm) (h : zK g s) : zK g U := by
  obtain ⟨h1, ⟨h2, h3⟩, ⟨h4, h5, h6, h7⟩, h8⟩ := h
  have ha : s.vm.Alike U.vm := hW.alike
  exact ⟨h1.moved ha, ⟨fun q hq => va_Nw.warmF hW (h2 q hq), fun q hq => va_Nw.warmM hW (h3 q hq)⟩, ⟨h4.moved ha, fun q hq => vk_R.warm hW (h5 q hq), h6.moved ha, h7.moved ha⟩, h8.moved ha⟩
abbrev zX : Type := (Program × Launch × Env) × (State × MethodId × Array Value) × (List Frame × Method × Code) × zG × Room
abbrev zXg (X : zX) : zG := X.2.2.2.1
abbrev zXr (X : zX) : Room := X.2.2.2.2
def zB (X : zX) (cc : ByteArray) (nL : Nat) (own nm : String) (ret : Option FieldType) : Prop :=
  X.1.1.tables.exec = Jvm.exec ∧ X.2.2.1.2.2.code = cc ∧ X.2.2.1.2.2.maxLocals = nL ∧ X.2.1.1.vm.findClass own = some X.2.1.2.1.cls ∧ (∀ w ∈ zT, w.before X.2.1.2.2 X.2.1.1 = true) ∧ zK (zXg X) X.2.1.1 ∧ X.2.2.1.2.1.sig.returnType = ret ∧ X.2.2.1.2.1.locks = false ∧ X.2.2.1.2.1.name = nm
/-- locals: by their places, none where nothing is said -/
def zA : Nat → List (Option Value) → List (Nat × Value)
  | _, [] => []
  | i, none :: t => zA (i + 1) t
  | i, some v :: t => (i, v) :: zA (i + 1) t
theorem zA_mem {lv : List (Option Value)} : ∀ {i : Nat} {q : Nat × Value}, q ∈ zA i lv ↔ i ≤ q.1 ∧ lv[q.1 - i]? = some (some q.2) := by
  induction lv with
  | nil => intro i q; simp [zA]
  | cons x t ih =>
    intro i q
    have hs : ∀ (y : Option Value), (i ≤ q.1 ∧ (y :: t)[q.1 - i]? = some (some q.2)) ↔ ((q.1 = i ∧ y = some q.2) ∨ (i + 1 ≤ q.1 ∧ t[q.1 - (i + 1)]? = some (some q.2))) := by
      intro y
      constructor
      · rintro ⟨h1, h2⟩
        rcases Nat.eq_or_lt_of_le h1 with h | h
        · left
          rw [← h] at h2
          simp at h2
          exact ⟨h.symm, h2⟩
        · right
          refine ⟨h, ?_⟩
          rw [show q.1 - i = (q.1 - (i + 1)) + 1 by omega] at h2
          simpa using h2
      · rintro (⟨h1, h2⟩ | ⟨h1, h2⟩)
        · refine ⟨by omega, ?_⟩
          rw [h1, Nat.sub_self]
          simp [h2]
        · refine ⟨by omega, ?_⟩
          rw [show q.1 - i = (q.1 - (i + 1)) + 1 by omega]
          simpa using h2
    rw [hs x]
    cases x with
    | none =>
      rw [show zA i (none :: t) = zA (i + 1) t from rfl, ih]
      simp
    | some v =>
      rw [show zA i (some v :: t) = (i, v) :: zA (i + 1) t from rfl, List.mem_cons, ih]
      constructor
      · rintro (h | h)
        · exact Or.inl ⟨by rw [h], by rw [h]⟩
        · exact Or.inr h
      · rintro (⟨h1, h2⟩ | h)
        · left
          cases h2
          rw [← h1]
        · exact Or.inr h
def zL (ls : Array Slot) (nL : Nat) (lv : List (Option Value)) : Prop := lv.length = nL ∧ lv_has ls nL (zA 0 lv)
theorem zL.at {ls : Array Slot} {nL : Nat} {lv : List (Option Value)} (h : zL ls nL lv) {k : Nat} {v : Value} (hk : lv[k]? = some (some v)) : ls[k]? = some (.val v) :=
  h.2.2.2 (k, v) (zA_mem.mpr ⟨Nat.zero_le _, by simpa using hk⟩)
theorem zL.size {ls : Array Slot} {nL : Nat} {lv : List (Option Value)} (h : zL ls nL lv) : ls.size = nL := h.2.1
/-- is the place ahead of k no long's first half -/
def zok (lv : List (Option Value)) : Nat → Bool
  | 0 => true
  | k + 1 => match lv[k]? with
    | some (some v) => v.category == 1
    | _ => true
theorem zL.set1 {ls ls' : Array Slot} {nL k : Nat} {v : Value} {lv : List (Option Value)} (h : zL ls nL lv) (hn : k < nL) (hz : zok lv k = true)
    (h' : lv_has ls' nL ((k, v) :: (zA 0 lv).filter (fun q => !(q.1 == k) && !(q.1 + 1 == k && q.2.category == 2)))) : zL ls' nL (lv.set k (some v)) := by
  refine ⟨by rw [List.length_set]; exact h.1, h'.1, h'.2.1, fun q hq => h'.2.2 q ?_⟩
  obtain ⟨-, h2⟩ := zA_mem.mp hq
  rw [Nat.sub_zero] at h2
  by_cases hk : q.1 = k
  · rw [hk, List.getElem?_set_self (by rw [h.1]; exact hn)] at h2
    have : q = (k, v) := by
      cases q; simp at hk h2; rw [hk, h2]
    rw [this]
    exact List.mem_cons_self
  · rw [List.getElem?_set_ne (Ne.symm hk)] at h2
    refine List.mem_cons_of_mem _ (List.mem_filter.mpr ⟨zA_mem.mpr ⟨Nat.zero_le _, by simpa using h2⟩, ?_⟩)
    simp only [Bool.and_eq_true, Bool.not_eq_true', beq_eq_false_iff_ne, ne_eq, Bool.and_eq_false_iff]
    refine ⟨hk, ?_⟩
    by_cases h3 : q.1 + 1 = k
    · right
      subst h3
      simp only [zok, h2] at hz
      have := beq_iff_eq.mp hz
      omega
    · exact Or.inl h3
theorem zL.set2 {ls ls' : Array Slot} {nL k : Nat} {v : Value} {lv : List (Option Value)} (h : zL ls nL lv) (hn : k + 1 < nL) (hz : zok lv k = true)
    (h' : lv_has ls' nL ((k, v) :: (zA 0 lv).filter (fun q => !(q.1 == k) && (!(q.1 == k + 1) && !(q.1 + 1 == k && q.2.category == 2))))) : zL ls' nL ((lv.set k (some v)).set (k + 1) none) := by
  refine ⟨by rw [List.length_set, List.length_set]; exact h.1, h'.1, h'.2.1, fun q hq => h'.2.2 q ?_⟩
  obtain ⟨-, h2⟩ := zA_mem.mp hq
  rw [Nat.sub_zero] at h2
  have hk1 : ¬ q.1 = k + 1 := by
    intro e
    rw [e, List.getElem?_set_self (by rw [List.length_set, h.1]; exact hn)] at h2
    cases h2
  rw [List.getElem?_set_ne (Ne.symm hk1)] at h2
  by_cases hk : q.1 = k
  · rw [hk, List.getElem?_set_self (by rw [h.1]; omega)] at h2
    have : q = (k, v) := by
      cases q; simp at hk h2; rw [hk, h2]
    rw [this]
    exact List.mem_cons_self
  · rw [List.getElem?_set_ne (Ne.symm hk)] at h2
    refine List.mem_cons_of_mem _ (List.mem_filter.mpr ⟨zA_mem.mpr ⟨Nat.zero_le _, by simpa using h2⟩, ?_⟩)
    simp only [Bool.and_eq_true, Bool.not_eq_true', beq_eq_false_iff_ne, ne_eq, Bool.and_eq_false_iff]
    refine ⟨hk, hk1, ?_⟩
    by_cases h3 : q.1 + 1 = k
    · right
      subst h3
      simp only [zok, h2] at hz
      have := beq_iff_eq.mp hz
      omega
    · exact Or.inl h3
def zQ (g : zG) (Ko : Option Value → Hp → Prop) : Array Value → State → Outcome → State → Prop := fun _ _ o t => ∃ (v : Option Value) (h' : Hp), o = .returned v ∧ Ko v h' ∧ zR g h' t.heap
def zW (X : zX) (H : Heap) (locs : List Loc) (cells slots : Nat) (Ko : Option Value → Hp → Prop) (k n : Nat) (f : JFrame) : Prop :=
  W X.1.1 X.1.2.1 X.1.2.2 X.2.2.2.2 X.2.1.1 X.2.1.2.1 X.2.1.2.2 X.2.2.1.1 X.2.2.1.2.1 X.2.2.1.2.2 H locs cells slots (MQ X.2.2.1.1 (zQ X.2.2.2.1 Ko) X.2.1.2.2 X.2.1.1 k n (fun q => zb X.2.2.2.1 ≤ q)) f
/-- from pc on, with these locals, stack and heap, and rc cells, rs slots still to be made: the method comes to its end with Ko -/
def AW (X : zX) (rc rs pc : Nat) (lv : List (Option Value)) (st : List Value) (h : Hp) (Ko : Option Value → Hp → Prop) : Prop :=
  ∀ (H : Heap) (locs : List Loc) (ls : Array Slot) (cells slots : Nat), zR X.2.2.2.1 h H → (∀ q ∈ locs, zb X.2.2.2.1 ≤ q.base) → zL ls X.2.2.1.2.2.maxLocals lv → cells + rc ≤ X.2.2.2.2.cells → slots + rs ≤ X.2.2.2.2.slots →
    zW X H locs cells slots Ko X.2.2.2.2.cells X.2.2.2.2.slots (F0 X.2.1.2.1 pc ls st)
def Sp (l : Launch) (g : zG) (y : MethodName) (cc : ByteArray) (maxL : Nat) (ret : Option FieldType) (rm : Room) (av : List Value) (h : Hp) (Ko : Option Value → Hp → Prop) : Prop :=
  Met l y (Cond.code y cc maxL ret :: zT) rm (va_Pc av (fun U => zR g h U.heap ∧ zK g U)) (zQ g Ko) rm.cells rm.slots (fun q => zb g ≤ q)
theorem Sp.of {l : Launch} {g : zG} {y : MethodName} {cc : ByteArray} {maxL : Nat} {ret : Option FieldType} {rm : Room} {av : List Value} {h : Hp} {Ko : Option Value → Hp → Prop} (lv : List (Option Value)) (hy : plainName y.cls = true) (hlen : (lg_sl av).length ≤ maxL) (hlv : zA 0 lv = lv_args 0 av) (hl : lv.length = maxL)
    (body : ∀ X : zX, zXg X = g → zXr X = rm → X.1.2.1 = l → zB X cc maxL y.cls y.name ret → AW X rm.cells rm.slots 0 lv [] h Ko) : Sp l g y cc maxL ret rm av h Ko := by
  unfold Sp
  refine Met.ofW (cc := cc) (maxL := maxL) (ret := ret) hy rfl ?_
  intro p e s m args below meth c s₁ B hml hv
  obtain ⟨rfl, hR, hK⟩ := hv
  have hts := atoms_spec (ws := Cond.code y cc maxL ret :: zT) B.pre
  have hb := body ((p, l, e), (s, m, av.toArray), (below, meth, c), g, rm) rfl rfl rfl
    ⟨B.exec, B.bytes, hml, findClass_of_methodNamed B.named, fun w hw => hts w (List.mem_cons_of_mem _ hw), hK, B.returns, B.notSynchronized, (name_of_methodNamed B.named B.method).1⟩
  rw [lg_entry_eq]
  have he := lv_entry av (n := maxL) hlen
  exact hb s.heap [] _ 0 0 hR (fun _ h => by cases h) ⟨hl.trans hml.symm, by rw [hlv]; show lv_has _ c.maxLocals _; rw [hml]; exact he⟩ (by show 0 + rm.cells ≤ rm.cells; omega) (by show 0 + rm.slots ≤ rm.slots; omega)
theorem zPc_blind {g : zG} {h : Hp} {av : List Value} : FrameBlind (va_Pc av (fun U => zR g h U.heap ∧ zK g U)) := fun _ U g' mk q => ⟨q.1, q.2.1, zK.same (u := U) rfl q.2.2⟩
end
section
section ZRULES
/-! one rule an instruction, over AW -/
variable {X : zX} {cc : ByteArray} {nL : Nat} {own nm : String} {ret : Option FieldType} {rc rs pc : Nat} {lv : List (Option Value)} {st : List Value} {h : Hp} {Ko : Option Value → Hp → Prop}
theorem aw_iadd (B : zB X cc nL own nm ret) {x y : Int32} (hd : decode cc pc = .ok (.iadd, 1)) (k : AW X rc rs (pc + 1) lv (.int (x + y) :: st) h Ko) : AW X rc rs pc lv (.int y :: .int x :: st) h Ko := fun H locs ls cells slots a1 a2 a3 a4 a5 => lv_iadd B.1 B.2.1 hd (k H locs ls cells slots a1 a2 a3 a4 a5)
theorem aw_isub (B : zB X cc nL own nm ret) {x y : Int32} (hd : decode cc pc = .ok (.isub, 1)) (k : AW X rc rs (pc + 1) lv (.int (x - y) :: st) h Ko) : AW X rc rs pc lv (.int y :: .int x :: st) h Ko := fun H locs ls cells slots a1 a2 a3 a4 a5 => lv_isub B.1 B.2.1 hd (k H locs ls cells slots a1 a2 a3 a4 a5)
theorem aw_imul (B : zB X cc nL own nm ret) {x y : Int32} (hd : decode cc pc = .ok (.imul, 1)) (k : AW X rc rs (pc + 1) lv (.int (x * y) :: st) h Ko) : AW X rc rs pc lv (.int y :: .int x :: st) h Ko := fun H locs ls cells slots a1 a2 a3 a4 a5 => lv_imul B.1 B.2.1 hd (k H locs ls cells slots a1 a2 a3 a4 a5)
theorem aw_iand (B : zB X cc nL own nm ret) {x y : Int32} (hd : decode cc pc = .ok (.iand, 1)) (k : AW X rc rs (pc + 1) lv (.int (x &&& y) :: st) h Ko) : AW X rc rs pc lv (.int y :: .int x :: st) h Ko := fun H locs ls cells slots a1 a2 a3 a4 a5 => lv_iand B.1 B.2.1 hd (k H locs ls cells slots a1 a2 a3 a4 a5)
theorem aw_ior (B : zB X cc nL own nm ret) {x y : Int32} (hd : decode cc pc = .ok (.ior, 1)) (k : AW X rc rs (pc + 1) lv (.int (x ||| y) :: st) h Ko) : AW X rc rs pc lv (.int y :: .int x :: st) h Ko := fun H locs ls cells slots a1 a2 a3 a4 a5 => lv_ior B.1 B.2.1 hd (k H locs ls cells slots a1 a2 a3 a4 a5)
theorem aw_ixor (B : zB X cc nL own nm ret) {x y : Int32} (hd : decode cc pc = .ok (.ixor, 1)) (k : AW X rc rs (pc + 1) lv (.int (x ^^^ y) :: st) h Ko) : AW X rc rs pc lv (.int y :: .int x :: st) h Ko := fun H locs ls cells slots a1 a2 a3 a4 a5 => lv_ixor B.1 B.2.1 hd (k H locs ls cells slots a1 a2 a3 a4 a5)
theorem aw_ishl (B : zB X cc nL own nm ret) {x y : Int32} (hd : decode cc pc = .ok (.ishl, 1)) (k : AW X rc rs (pc + 1) lv (.int (x <<< (y &&& 31)) :: st) h Ko) : AW X rc rs pc lv (.int y :: .int x :: st) h Ko := fun H locs ls cells slots a1 a2 a3 a4 a5 => lv_ishl B.1 B.2.1 hd (k H locs ls cells slots a1 a2 a3 a4 a5)
theorem aw_ishr (B : zB X cc nL own nm ret) {x y : Int32} (hd : decode cc pc = .ok (.ishr, 1)) (k : AW X rc rs (pc + 1) lv (.int (x >>> (y &&& 31)) :: st) h Ko) : AW X rc rs pc lv (.int y :: .int x :: st) h Ko := fun H locs ls cells slots a1 a2 a3 a4 a5 => lv_ishr B.1 B.2.1 hd (k H locs ls cells slots a1 a2 a3 a4 a5)
theorem aw_idiv (B : zB X cc nL own nm ret) {x y : Int32} (hne : ¬ y = 0) (hd : decode cc pc = .ok (.idiv, 1)) (k : AW X rc rs (pc + 1) lv (.int (x / y) :: st) h Ko) : AW X rc rs pc lv (.int y :: .int x :: st) h Ko := fun H locs ls cells slots a1 a2 a3 a4 a5 => lv_idiv B.1 B.2.1 hd hne (k H locs ls cells slots a1 a2 a3 a4 a5)
theorem aw_irem (B : zB X cc nL own nm ret) {x y : Int32} (hne : ¬ y = 0) (hd : decode cc pc = .ok (.irem, 1)) (k : AW X rc rs (pc + 1) lv (.int (x - x / y * y) :: st) h Ko) : AW X rc rs pc lv (.int y :: .int x :: st) h Ko := fun H locs ls cells slots a1 a2 a3 a4 a5 => lv_irem B.1 B.2.1 hd hne (k H locs ls cells slots a1 a2 a3 a4 a5)
theorem aw_ineg (B : zB X cc nL own nm ret) {x : Int32} (hd : decode cc pc = .ok (.ineg, 1)) (k : AW X rc rs (pc + 1) lv (.int (-x) :: st) h Ko) : AW X rc rs pc lv (.int x :: st) h Ko := fun H locs ls cells slots a1 a2 a3 a4 a5 => lv_ineg B.1 B.2.1 hd (k H locs ls cells slots a1 a2 a3 a4 a5)
theorem aw_ladd (B : zB X cc nL own nm ret) {x y : Int64} (hd : decode cc pc = .ok (.ladd, 1)) (k : AW X rc rs (pc + 1) lv (.long (x + y) :: st) h Ko) : AW X rc rs pc lv (.long y :: .long x :: st) h Ko := fun H locs ls cells slots a1 a2 a3 a4 a5 => lv_ladd B.1 B.2.1 hd (k H locs ls cells slots a1 a2 a3 a4 a5)
theorem aw_lmul (B : zB X cc nL own nm ret) {x y : Int64} (hd : decode cc pc = .ok (.lmul, 1)) (k : AW X rc rs (pc + 1) lv (.long (x * y) :: st) h Ko) : AW X rc rs pc lv (.long y :: .long x :: st) h Ko := fun H locs ls cells slots a1 a2 a3 a4 a5 => lv_lmul B.1 B.2.1 hd (k H locs ls cells slots a1 a2 a3 a4 a5)
theorem aw_ldiv (B : zB X cc nL own nm ret) {x y : Int64} (hne : ¬ y = 0) (hd : decode cc pc = .ok (.ldiv, 1)) (k : AW X rc rs (pc + 1) lv (.long (x / y) :: st) h Ko) : AW X rc rs pc lv (.long y :: .long x :: st) h Ko := fun H locs ls cells slots a1 a2 a3 a4 a5 => lv_ldiv B.1 B.2.1 hd hne (k H locs ls cells slots a1 a2 a3 a4 a5)
theorem aw_lrem (B : zB X cc nL own nm ret) {x y : Int64} (hne : ¬ y = 0) (hd : decode cc pc = .ok (.lrem, 1)) (k : AW X rc rs (pc + 1) lv (.long (x - x / y * y) :: st) h Ko) : AW X rc rs pc lv (.long y :: .long x :: st) h Ko := fun H locs ls cells slots a1 a2 a3 a4 a5 => lv_lrem B.1 B.2.1 hd hne (k H locs ls cells slots a1 a2 a3 a4 a5)
theorem aw_i2l (B : zB X cc nL own nm ret) {x : Int32} (hd : decode cc pc = .ok (.i2l, 1)) (k : AW X rc rs (pc + 1) lv (.long x.toInt64 :: st) h Ko) : AW X rc rs pc lv (.int x :: st) h Ko := fun H locs ls cells slots a1 a2 a3 a4 a5 => lv_i2l B.1 B.2.1 hd rfl (k H locs ls cells slots a1 a2 a3 a4 a5)
theorem aw_iconst (B : zB X cc nL own nm ret) {n : Int} (v : Int32) (hv : Int32.ofInt n = v) (hd : decode cc pc = .ok (.iconst n, 1)) (k : AW X rc rs (pc + 1) lv (.int v :: st) h Ko) : AW X rc rs pc lv (st) h Ko := fun H locs ls cells slots a1 a2 a3 a4 a5 => lv_iconst B.1 B.2.1 hd hv (k H locs ls cells slots a1 a2 a3 a4 a5)
theorem aw_bipush (B : zB X cc nL own nm ret) {n : Int} (v : Int32) (hv : (Int8.ofInt n).toInt32 = v) (hd : decode cc pc = .ok (.bipush n, 2)) (k : AW X rc rs (pc + 2) lv (.int v :: st) h Ko) : AW X rc rs pc lv (st) h Ko := fun H locs ls cells slots a1 a2 a3 a4 a5 => lv_bipush B.1 B.2.1 hd hv (k H locs ls cells slots a1 a2 a3 a4 a5)
theorem aw_sipush (B : zB X cc nL own nm ret) {n : Int} (v : Int32) (hv : (Int16.ofInt n).toInt32 = v) (hd : decode cc pc = .ok (.sipush n, 3)) (k : AW X rc rs (pc + 3) lv (.int v :: st) h Ko) : AW X rc rs pc lv (st) h Ko := fun H locs ls cells slots a1 a2 a3 a4 a5 => lv_sipush B.1 B.2.1 hd hv (k H locs ls cells slots a1 a2 a3 a4 a5)
theorem aw_lconst (B : zB X cc nL own nm ret) {n : Fin 2} (v : Int64) (hv : Int64.ofNat (n : Nat) = v) (hd : decode cc pc = .ok (.lconst n, 1)) (k : AW X rc rs (pc + 1) lv (.long v :: st) h Ko) : AW X rc rs pc lv (st) h Ko := fun H locs ls cells slots a1 a2 a3 a4 a5 => lv_lconst B.1 B.2.1 hd hv (k H locs ls cells slots a1 a2 a3 a4 a5)
theorem aw_null (B : zB X cc nL own nm ret)  (hd : decode cc pc = .ok (.aconst_null, 1)) (k : AW X rc rs (pc + 1) lv (.null :: st) h Ko) : AW X rc rs pc lv (st) h Ko := fun H locs ls cells slots a1 a2 a3 a4 a5 => lv_null B.1 B.2.1 hd (k H locs ls cells slots a1 a2 a3 a4 a5)
theorem aw_dup (B : zB X cc nL own nm ret) {va : Value} (hva : va.category = 1) (hd : decode cc pc = .ok (.dup, 1)) (k : AW X rc rs (pc + 1) lv (va :: va :: st) h Ko) : AW X rc rs pc lv (va :: st) h Ko := fun H locs ls cells slots a1 a2 a3 a4 a5 => lv_dup B.1 B.2.1 hd hva (k H locs ls cells slots a1 a2 a3 a4 a5)
theorem aw_dup_x1 (B : zB X cc nL own nm ret) {va vb : Value} (hva : va.category = 1) (hvb : vb.category = 1) (hd : decode cc pc = .ok (.dup_x1, 1)) (k : AW X rc rs (pc + 1) lv (va :: vb :: va :: st) h Ko) : AW X rc rs pc lv (va :: vb :: st) h Ko := fun H locs ls cells slots a1 a2 a3 a4 a5 => lv_dup_x1 B.1 B.2.1 hd hva hvb (k H locs ls cells slots a1 a2 a3 a4 a5)
theorem aw_dup2 (B : zB X cc nL own nm ret) {va vb : Value} (hva : va.category = 1) (hvb : vb.category = 1) (hd : decode cc pc = .ok (.dup2, 1)) (k : AW X rc rs (pc + 1) lv (va :: vb :: va :: vb :: st) h Ko) : AW X rc rs pc lv (va :: vb :: st) h Ko := fun H locs ls cells slots a1 a2 a3 a4 a5 => lv_dup2_11 B.1 B.2.1 hd hva hvb (k H locs ls cells slots a1 a2 a3 a4 a5)
theorem aw_pop (B : zB X cc nL own nm ret) {va : Value} (hva : va.category = 1) (hd : decode cc pc = .ok (.pop, 1)) (k : AW X rc rs (pc + 1) lv (st) h Ko) : AW X rc rs pc lv (va :: st) h Ko := fun H locs ls cells slots a1 a2 a3 a4 a5 => lv_pop B.1 B.2.1 hd hva (k H locs ls cells slots a1 a2 a3 a4 a5)
theorem aw_iload_n (B : zB X cc nL own nm ret) {q : Fin 4} {x : Int32} (i : Nat) (hq : (q : Nat) = i) (hd : decode cc pc = .ok (.iload_n q, 1)) (hv : lv[i]? = some (some (.int x))) (k : AW X rc rs (pc + 1) lv (.int x :: st) h Ko) : AW X rc rs pc lv st h Ko := fun H locs ls cells slots a1 a2 a3 a4 a5 => lv_iload_n B.1 B.2.1 hd hq (a3.at hv) (k H locs ls cells slots a1 a2 a3 a4 a5)
theorem aw_iload (B : zB X cc nL own nm ret) {i : Nat} {x : Int32} (hd : decode cc pc = .ok (.iload i, 2)) (hv : lv[i]? = some (some (.int x))) (k : AW X rc rs (pc + 2) lv (.int x :: st) h Ko) : AW X rc rs pc lv st h Ko := fun H locs ls cells slots a1 a2 a3 a4 a5 => lv_iload B.1 B.2.1 hd (a3.at hv) (k H locs ls cells slots a1 a2 a3 a4 a5)
theorem aw_aload_n (B : zB X cc nL own nm ret) {q : Fin 4} {x : Nat} (i : Nat) (hq : (q : Nat) = i) (hd : decode cc pc = .ok (.aload_n q, 1)) (hv : lv[i]? = some (some (.ref x))) (k : AW X rc rs (pc + 1) lv (.ref x :: st) h Ko) : AW X rc rs pc lv st h Ko := fun H locs ls cells slots a1 a2 a3 a4 a5 => lv_aload_n B.1 B.2.1 hd hq (a3.at hv) (k H locs ls cells slots a1 a2 a3 a4 a5)
theorem aw_aload (B : zB X cc nL own nm ret) {i : Nat} {x : Nat} (hd : decode cc pc = .ok (.aload i, 2)) (hv : lv[i]? = some (some (.ref x))) (k : AW X rc rs (pc + 2) lv (.ref x :: st) h Ko) : AW X rc rs pc lv st h Ko := fun H locs ls cells slots a1 a2 a3 a4 a5 => lv_aload B.1 B.2.1 hd (a3.at hv) (k H locs ls cells slots a1 a2 a3 a4 a5)
theorem aw_lload_n (B : zB X cc nL own nm ret) {q : Fin 4} {x : Int64} (i : Nat) (hq : (q : Nat) = i) (hd : decode cc pc = .ok (.lload_n q, 1)) (hv : lv[i]? = some (some (.long x))) (k : AW X rc rs (pc + 1) lv (.long x :: st) h Ko) : AW X rc rs pc lv st h Ko := fun H locs ls cells slots a1 a2 a3 a4 a5 => lv_lload_n B.1 B.2.1 hd hq (a3.at hv) (k H locs ls cells slots a1 a2 a3 a4 a5)
theorem aw_lload (B : zB X cc nL own nm ret) {i : Nat} {x : Int64} (hd : decode cc pc = .ok (.lload i, 2)) (hv : lv[i]? = some (some (.long x))) (k : AW X rc rs (pc + 2) lv (.long x :: st) h Ko) : AW X rc rs pc lv st h Ko := fun H locs ls cells slots a1 a2 a3 a4 a5 => lv_lload B.1 B.2.1 hd (a3.at hv) (k H locs ls cells slots a1 a2 a3 a4 a5)
theorem aw_aload_nN (B : zB X cc nL own nm ret) {q : Fin 4} (i : Nat) (hq : (q : Nat) = i) (hd : decode cc pc = .ok (.aload_n q, 1)) (hv : lv[i]? = some (some (.null))) (k : AW X rc rs (pc + 1) lv (.null :: st) h Ko) : AW X rc rs pc lv st h Ko := fun H locs ls cells slots a1 a2 a3 a4 a5 => lv_aload_nN B.1 B.2.1 hd hq (a3.at hv) (k H locs ls cells slots a1 a2 a3 a4 a5)
theorem aw_aloadN (B : zB X cc nL own nm ret) {i : Nat} (hd : decode cc pc = .ok (.aload i, 2)) (hv : lv[i]? = some (some (.null))) (k : AW X rc rs (pc + 2) lv (.null :: st) h Ko) : AW X rc rs pc lv st h Ko := fun H locs ls cells slots a1 a2 a3 a4 a5 => lv_aloadN B.1 B.2.1 hd (a3.at hv) (k H locs ls cells slots a1 a2 a3 a4 a5)
theorem aw_istore_n (B : zB X cc nL own nm ret) {q : Fin 4} {x : Int32} (i : Nat) (hq : (q : Nat) = i) (hd : decode cc pc = .ok (.istore_n q, 1)) (hi : i < nL) (hz : zok lv i = true) (k : AW X rc rs (pc + 1) (lv.set i (some (.int x))) st h Ko) : AW X rc rs pc lv (.int x :: st) h Ko := fun H locs ls cells slots a1 a2 a3 a4 a5 => lv_istore_n B.1 B.2.1 hd hq a3.2 (by rw [B.2.2.1]; exact hi) rfl fun ls1 h1 => k H locs ls1 cells slots a1 a2 (a3.set1 (by rw [B.2.2.1]; exact hi) hz h1) a4 a5
theorem aw_istore (B : zB X cc nL own nm ret) {i : Nat} {x : Int32} (hd : decode cc pc = .ok (.istore i, 2)) (hi : i < nL) (hz : zok lv i = true) (k : AW X rc rs (pc + 2) (lv.set i (some (.int x))) st h Ko) : AW X rc rs pc lv (.int x :: st) h Ko := fun H locs ls cells slots a1 a2 a3 a4 a5 => lv_istore B.1 B.2.1 hd a3.2 (by rw [B.2.2.1]; exact hi) rfl fun ls1 h1 => k H locs ls1 cells slots a1 a2 (a3.set1 (by rw [B.2.2.1]; exact hi) hz h1) a4 a5
theorem aw_astore_n (B : zB X cc nL own nm ret) {q : Fin 4} {x : Nat} (i : Nat) (hq : (q : Nat) = i) (hd : decode cc pc = .ok (.astore_n q, 1)) (hi : i < nL) (hz : zok lv i = true) (k : AW X rc rs (pc + 1) (lv.set i (some (.ref x))) st h Ko) : AW X rc rs pc lv (.ref x :: st) h Ko := fun H locs ls cells slots a1 a2 a3 a4 a5 => lv_astore_n B.1 B.2.1 hd hq a3.2 (by rw [B.2.2.1]; exact hi) rfl fun ls1 h1 => k H locs ls1 cells slots a1 a2 (a3.set1 (by rw [B.2.2.1]; exact hi) hz h1) a4 a5
theorem aw_astore (B : zB X cc nL own nm ret) {i : Nat} {x : Nat} (hd : decode cc pc = .ok (.astore i, 2)) (hi : i < nL) (hz : zok lv i = true) (k : AW X rc rs (pc + 2) (lv.set i (some (.ref x))) st h Ko) : AW X rc rs pc lv (.ref x :: st) h Ko := fun H locs ls cells slots a1 a2 a3 a4 a5 => lv_astore B.1 B.2.1 hd a3.2 (by rw [B.2.2.1]; exact hi) rfl fun ls1 h1 => k H locs ls1 cells slots a1 a2 (a3.set1 (by rw [B.2.2.1]; exact hi) hz h1) a4 a5
theorem aw_astore_nN (B : zB X cc nL own nm ret) {q : Fin 4} (i : Nat) (hq : (q : Nat) = i) (hd : decode cc pc = .ok (.astore_n q, 1)) (hi : i < nL) (hz : zok lv i = true) (k : AW X rc rs (pc + 1) (lv.set i (some (.null))) st h Ko) : AW X rc rs pc lv (.null :: st) h Ko := fun H locs ls cells slots a1 a2 a3 a4 a5 => lv_astore_nN B.1 B.2.1 hd hq a3.2 (by rw [B.2.2.1]; exact hi) rfl fun ls1 h1 => k H locs ls1 cells slots a1 a2 (a3.set1 (by rw [B.2.2.1]; exact hi) hz h1) a4 a5
theorem aw_astoreN (B : zB X cc nL own nm ret) {i : Nat} (hd : decode cc pc = .ok (.astore i, 2)) (hi : i < nL) (hz : zok lv i = true) (k : AW X rc rs (pc + 2) (lv.set i (some (.null))) st h Ko) : AW X rc rs pc lv (.null :: st) h Ko := fun H locs ls cells slots a1 a2 a3 a4 a5 => lv_astoreN B.1 B.2.1 hd a3.2 (by rw [B.2.2.1]; exact hi) rfl fun ls1 h1 => k H locs ls1 cells slots a1 a2 (a3.set1 (by rw [B.2.2.1]; exact hi) hz h1) a4 a5
theorem aw_lstore_n (B : zB X cc nL own nm ret) {q : Fin 4} {x : Int64} (i : Nat) (hq : (q : Nat) = i) (hd : decode cc pc = .ok (.lstore_n q, 1)) (hi : i + 1 < nL) (hz : zok lv i = true) (k : AW X rc rs (pc + 1) ((lv.set i (some (.long x))).set (i + 1) none) st h Ko) : AW X rc rs pc lv (.long x :: st) h Ko := fun H locs ls cells slots a1 a2 a3 a4 a5 => lv_lstore_n B.1 B.2.1 hd hq a3.2 (by rw [B.2.2.1]; exact hi) rfl fun ls1 h1 => k H locs ls1 cells slots a1 a2 (a3.set2 (by rw [B.2.2.1]; exact hi) hz h1) a4 a5
theorem aw_lstore (B : zB X cc nL own nm ret) {i : Nat} {x : Int64} (hd : decode cc pc = .ok (.lstore i, 2)) (hi : i + 1 < nL) (hz : zok lv i = true) (k : AW X rc rs (pc + 2) ((lv.set i (some (.long x))).set (i + 1) none) st h Ko) : AW X rc rs pc lv (.long x :: st) h Ko := fun H locs ls cells slots a1 a2 a3 a4 a5 => lv_lstore B.1 B.2.1 hd a3.2 (by rw [B.2.2.1]; exact hi) rfl fun ls1 h1 => k H locs ls1 cells slots a1 a2 (a3.set2 (by rw [B.2.2.1]; exact hi) hz h1) a4 a5
theorem aw_iinc (B : zB X cc nL own nm ret) {i : Nat} {n : Int} {x : Int32} (c : Int32) (hc : Int32.ofInt n = c) (hd : decode cc pc = .ok (.iinc i n, 3)) (hv : lv[i]? = some (some (.int x))) (hi : i < nL) (hz : zok lv i = true) (k : AW X rc rs (pc + 3) (lv.set i (some (.int (x + c)))) st h Ko) : AW X rc rs pc lv st h Ko := by
  intro H locs ls cells slots a1 a2 a3 a4 a5
  have hm : (i, Value.int x) ∈ zA 0 lv := zA_mem.mpr ⟨Nat.zero_le _, by simpa using hv⟩
  obtain ⟨j, hj⟩ := List.getElem?_of_mem hm
  exact lv_iinc (v := x + c) B.1 B.2.1 hd a3.2 (k := j) hj (by rw [hc]) (by rw [B.2.2.1]; exact hi) rfl fun ls1 h1 => k H locs ls1 cells slots a1 a2 (a3.set1 (by rw [B.2.2.1]; exact hi) hz h1) a4 a5
theorem aw_istore0 (B : zB X cc nL own nm ret) {y : Option Value} {t : List (Option Value)} {x : Int32} (hd : decode cc pc = .ok (.istore_n 0, 1)) (k : AW X rc rs (pc + 1) (some (.int x) :: t) st h Ko) (hi : 0 < nL := by decide) : AW X rc rs pc (y :: t) (.int x :: st) h Ko := aw_istore_n B 0 rfl hd hi rfl k
theorem aw_astore0 (B : zB X cc nL own nm ret) {y : Option Value} {t : List (Option Value)} {x : Nat} (hd : decode cc pc = .ok (.astore_n 0, 1)) (k : AW X rc rs (pc + 1) (some (.ref x) :: t) st h Ko) (hi : 0 < nL := by decide) : AW X rc rs pc (y :: t) (.ref x :: st) h Ko := aw_astore_n B 0 rfl hd hi rfl k
theorem aw_iinc0 (B : zB X cc nL own nm ret) {t : List (Option Value)} {x : Int32} {n : Int} (c : Int32) (hc : Int32.ofInt n = c) (hd : decode cc pc = .ok (.iinc 0 n, 3)) (k : AW X rc rs (pc + 3) (some (.int (x + c)) :: t) st h Ko) (hi : 0 < nL := by decide) : AW X rc rs pc (some (.int x) :: t) st h Ko := aw_iinc B c hc hd rfl hi rfl k
theorem aw_istore1 (B : zB X cc nL own nm ret) {z0 : Option Value} {y : Option Value} {t : List (Option Value)} {x : Int32} (hd : decode cc pc = .ok (.istore_n 1, 1)) (k : AW X rc rs (pc + 1) (z0 :: some (.int x) :: t) st h Ko) (hi : 1 < nL := by decide) (hz : zok (z0 :: y :: t) 1 = true := by rfl) : AW X rc rs pc (z0 :: y :: t) (.int x :: st) h Ko := aw_istore_n B 1 rfl hd hi hz k
theorem aw_astore1 (B : zB X cc nL own nm ret) {z0 : Option Value} {y : Option Value} {t : List (Option Value)} {x : Nat} (hd : decode cc pc = .ok (.astore_n 1, 1)) (k : AW X rc rs (pc + 1) (z0 :: some (.ref x) :: t) st h Ko) (hi : 1 < nL := by decide) (hz : zok (z0 :: y :: t) 1 = true := by rfl) : AW X rc rs pc (z0 :: y :: t) (.ref x :: st) h Ko := aw_astore_n B 1 rfl hd hi hz k
theorem aw_iinc1 (B : zB X cc nL own nm ret) {z0 : Option Value} {t : List (Option Value)} {x : Int32} {n : Int} (c : Int32) (hc : Int32.ofInt n = c) (hd : decode cc pc = .ok (.iinc 1 n, 3)) (k : AW X rc rs (pc + 3) (z0 :: some (.int (x + c)) :: t) st h Ko) (hi : 1 < nL := by decide) (hz : zok (z0 :: some (.int x) :: t) 1 = true := by rfl) : AW X rc rs pc (z0 :: some (.int x) :: t) st h Ko := aw_iinc B c hc hd rfl hi hz k
theorem aw_istore2 (B : zB X cc nL own nm ret) {z0 z1 : Option Value} {y : Option Value} {t : List (Option Value)} {x : Int32} (hd : decode cc pc = .ok (.istore_n 2, 1)) (k : AW X rc rs (pc + 1) (z0 :: z1 :: some (.int x) :: t) st h Ko) (hi : 2 < nL := by decide) (hz : zok (z0 :: z1 :: y :: t) 2 = true := by rfl) : AW X rc rs pc (z0 :: z1 :: y :: t) (.int x :: st) h Ko := aw_istore_n B 2 rfl hd hi hz k
theorem aw_astore2 (B : zB X cc nL own nm ret) {z0 z1 : Option Value} {y : Option Value} {t : List (Option Value)} {x : Nat} (hd : decode cc pc = .ok (.astore_n 2, 1)) (k : AW X rc rs (pc + 1) (z0 :: z1 :: some (.ref x) :: t) st h Ko) (hi : 2 < nL := by decide) (hz : zok (z0 :: z1 :: y :: t) 2 = true := by rfl) : AW X rc rs pc (z0 :: z1 :: y :: t) (.ref x :: st) h Ko := aw_astore_n B 2 rfl hd hi hz k
theorem aw_iinc2 (B : zB X cc nL own nm ret) {z0 z1 : Option Value} {t : List (Option Value)} {x : Int32} {n : Int} (c : Int32) (hc : Int32.ofInt n = c) (hd : decode cc pc = .ok (.iinc 2 n, 3)) (k : AW X rc rs (pc + 3) (z0 :: z1 :: some (.int (x + c)) :: t) st h Ko) (hi : 2 < nL := by decide) (hz : zok (z0 :: z1 :: some (.int x) :: t) 2 = true := by rfl) : AW X rc rs pc (z0 :: z1 :: some (.int x) :: t) st h Ko := aw_iinc B c hc hd rfl hi hz k
theorem aw_istore3 (B : zB X cc nL own nm ret) {z0 z1 z2 : Option Value} {y : Option Value} {t : List (Option Value)} {x : Int32} (hd : decode cc pc = .ok (.istore_n 3, 1)) (k : AW X rc rs (pc + 1) (z0 :: z1 :: z2 :: some (.int x) :: t) st h Ko) (hi : 3 < nL := by decide) (hz : zok (z0 :: z1 :: z2 :: y :: t) 3 = true := by rfl) : AW X rc rs pc (z0 :: z1 :: z2 :: y :: t) (.int x :: st) h Ko := aw_istore_n B 3 rfl hd hi hz k
theorem aw_astore3 (B : zB X cc nL own nm ret) {z0 z1 z2 : Option Value} {y : Option Value} {t : List (Option Value)} {x : Nat} (hd : decode cc pc = .ok (.astore_n 3, 1)) (k : AW X rc rs (pc + 1) (z0 :: z1 :: z2 :: some (.ref x) :: t) st h Ko) (hi : 3 < nL := by decide) (hz : zok (z0 :: z1 :: z2 :: y :: t) 3 = true := by rfl) : AW X rc rs pc (z0 :: z1 :: z2 :: y :: t) (.ref x :: st) h Ko := aw_astore_n B 3 rfl hd hi hz k
theorem aw_iinc3 (B : zB X cc nL own nm ret) {z0 z1 z2 : Option Value} {t : List (Option Value)} {x : Int32} {n : Int} (c : Int32) (hc : Int32.ofInt n = c) (hd : decode cc pc = .ok (.iinc 3 n, 3)) (k : AW X rc rs (pc + 3) (z0 :: z1 :: z2 :: some (.int (x + c)) :: t) st h Ko) (hi : 3 < nL := by decide) (hz : zok (z0 :: z1 :: z2 :: some (.int x) :: t) 3 = true := by rfl) : AW X rc rs pc (z0 :: z1 :: z2 :: some (.int x) :: t) st h Ko := aw_iinc B c hc hd rfl hi hz k
theorem aw_istore4 (B : zB X cc nL own nm ret) {z0 z1 z2 z3 : Option Value} {y : Option Value} {t : List (Option Value)} {x : Int32} (hd : decode cc pc = .ok (.istore 4, 2)) (k : AW X rc rs (pc + 2) (z0 :: z1 :: z2 :: z3 :: some (.int x) :: t) st h Ko) (hi : 4 < nL := by decide) (hz : zok (z0 :: z1 :: z2 :: z3 :: y :: t) 4 = true := by rfl) : AW X rc rs pc (z0 :: z1 :: z2 :: z3 :: y :: t) (.int x :: st) h Ko := aw_istore B hd hi hz k
theorem aw_astore4 (B : zB X cc nL own nm ret) {z0 z1 z2 z3 : Option Value} {y : Option Value} {t : List (Option Value)} {x : Nat} (hd : decode cc pc = .ok (.astore 4, 2)) (k : AW X rc rs (pc + 2) (z0 :: z1 :: z2 :: z3 :: some (.ref x) :: t) st h Ko) (hi : 4 < nL := by decide) (hz : zok (z0 :: z1 :: z2 :: z3 :: y :: t) 4 = true := by rfl) : AW X rc rs pc (z0 :: z1 :: z2 :: z3 :: y :: t) (.ref x :: st) h Ko := aw_astore B hd hi hz k
theorem aw_iinc4 (B : zB X cc nL own nm ret) {z0 z1 z2 z3 : Option Value} {t : List (Option Value)} {x : Int32} {n : Int} (c : Int32) (hc : Int32.ofInt n = c) (hd : decode cc pc = .ok (.iinc 4 n, 3)) (k : AW X rc rs (pc + 3) (z0 :: z1 :: z2 :: z3 :: some (.int (x + c)) :: t) st h Ko) (hi : 4 < nL := by decide) (hz : zok (z0 :: z1 :: z2 :: z3 :: some (.int x) :: t) 4 = true := by rfl) : AW X rc rs pc (z0 :: z1 :: z2 :: z3 :: some (.int x) :: t) st h Ko := aw_iinc B c hc hd rfl hi hz k
theorem aw_istore5 (B : zB X cc nL own nm ret) {z0 z1 z2 z3 z4 : Option Value} {y : Option Value} {t : List (Option Value)} {x : Int32} (hd : decode cc pc = .ok (.istore 5, 2)) (k : AW X rc rs (pc + 2) (z0 :: z1 :: z2 :: z3 :: z4 :: some (.int x) :: t) st h Ko) (hi : 5 < nL := by decide) (hz : zok (z0 :: z1 :: z2 :: z3 :: z4 :: y :: t) 5 = true := by rfl) : AW X rc rs pc (z0 :: z1 :: z2 :: z3 :: z4 :: y :: t) (.int x :: st) h Ko := aw_istore B hd hi hz k
theorem aw_astore5 (B : zB X cc nL own nm ret) {z0 z1 z2 z3 z4 : Option Value} {y : Option Value} {t : List (Option Value)} {x : Nat} (hd : decode cc pc = .ok (.astore 5, 2)) (k : AW X rc rs (pc + 2) (z0 :: z1 :: z2 :: z3 :: z4 :: some (.ref x) :: t) st h Ko) (hi : 5 < nL := by decide) (hz : zok (z0 :: z1 :: z2 :: z3 :: z4 :: y :: t) 5 = true := by rfl) : AW X rc rs pc (z0 :: z1 :: z2 :: z3 :: z4 :: y :: t) (.ref x :: st) h Ko := aw_astore B hd hi hz k
theorem aw_iinc5 (B : zB X cc nL own nm ret) {z0 z1 z2 z3 z4 : Option Value} {t : List (Option Value)} {x : Int32} {n : Int} (c : Int32) (hc : Int32.ofInt n = c) (hd : decode cc pc = .ok (.iinc 5 n, 3)) (k : AW X rc rs (pc + 3) (z0 :: z1 :: z2 :: z3 :: z4 :: some (.int (x + c)) :: t) st h Ko) (hi : 5 < nL := by decide) (hz : zok (z0 :: z1 :: z2 :: z3 :: z4 :: some (.int x) :: t) 5 = true := by rfl) : AW X rc rs pc (z0 :: z1 :: z2 :: z3 :: z4 :: some (.int x) :: t) st h Ko := aw_iinc B c hc hd rfl hi hz k
theorem aw_istore6 (B : zB X cc nL own nm ret) {z0 z1 z2 z3 z4 z5 : Option Value} {y : Option Value} {t : List (Option Value)} {x : Int32} (hd : decode cc pc = .ok (.istore 6, 2)) (k : AW X rc rs (pc + 2) (z0 :: z1 :: z2 :: z3 :: z4 :: z5 :: some (.int x) :: t) st h Ko) (hi : 6 < nL := by decide) (hz : zok (z0 :: z1 :: z2 :: z3 :: z4 :: z5 :: y :: t) 6 = true := by rfl) : AW X rc rs pc (z0 :: z1 :: z2 :: z3 :: z4 :: z5 :: y :: t) (.int x :: st) h Ko := aw_istore B hd hi hz k
theorem aw_astore6 (B : zB X cc nL own nm ret) {z0 z1 z2 z3 z4 z5 : Option Value} {y : Option Value} {t : List (Option Value)} {x : Nat} (hd : decode cc pc = .ok (.astore 6, 2)) (k : AW X rc rs (pc + 2) (z0 :: z1 :: z2 :: z3 :: z4 :: z5 :: some (.ref x) :: t) st h Ko) (hi : 6 < nL := by decide) (hz : zok (z0 :: z1 :: z2 :: z3 :: z4 :: z5 :: y :: t) 6 = true := by rfl) : AW X rc rs pc (z0 :: z1 :: z2 :: z3 :: z4 :: z5 :: y :: t) (.ref x :: st) h Ko := aw_astore B hd hi hz k
theorem aw_iinc6 (B : zB X cc nL own nm ret) {z0 z1 z2 z3 z4 z5 : Option Value} {t : List (Option Value)} {x : Int32} {n : Int} (c : Int32) (hc : Int32.ofInt n = c) (hd : decode cc pc = .ok (.iinc 6 n, 3)) (k : AW X rc rs (pc + 3) (z0 :: z1 :: z2 :: z3 :: z4 :: z5 :: some (.int (x + c)) :: t) st h Ko) (hi : 6 < nL := by decide) (hz : zok (z0 :: z1 :: z2 :: z3 :: z4 :: z5 :: some (.int x) :: t) 6 = true := by rfl) : AW X rc rs pc (z0 :: z1 :: z2 :: z3 :: z4 :: z5 :: some (.int x) :: t) st h Ko := aw_iinc B c hc hd rfl hi hz k
theorem aw_istore7 (B : zB X cc nL own nm ret) {z0 z1 z2 z3 z4 z5 z6 : Option Value} {y : Option Value} {t : List (Option Value)} {x : Int32} (hd : decode cc pc = .ok (.istore 7, 2)) (k : AW X rc rs (pc + 2) (z0 :: z1 :: z2 :: z3 :: z4 :: z5 :: z6 :: some (.int x) :: t) st h Ko) (hi : 7 < nL := by decide) (hz : zok (z0 :: z1 :: z2 :: z3 :: z4 :: z5 :: z6 :: y :: t) 7 = true := by rfl) : AW X rc rs pc (z0 :: z1 :: z2 :: z3 :: z4 :: z5 :: z6 :: y :: t) (.int x :: st) h Ko := aw_istore B hd hi hz k
theorem aw_astore7 (B : zB X cc nL own nm ret) {z0 z1 z2 z3 z4 z5 z6 : Option Value} {y : Option Value} {t : List (Option Value)} {x : Nat} (hd : decode cc pc = .ok (.astore 7, 2)) (k : AW X rc rs (pc + 2) (z0 :: z1 :: z2 :: z3 :: z4 :: z5 :: z6 :: some (.ref x) :: t) st h Ko) (hi : 7 < nL := by decide) (hz : zok (z0 :: z1 :: z2 :: z3 :: z4 :: z5 :: z6 :: y :: t) 7 = true := by rfl) : AW X rc rs pc (z0 :: z1 :: z2 :: z3 :: z4 :: z5 :: z6 :: y :: t) (.ref x :: st) h Ko := aw_astore B hd hi hz k
theorem aw_iinc7 (B : zB X cc nL own nm ret) {z0 z1 z2 z3 z4 z5 z6 : Option Value} {t : List (Option Value)} {x : Int32} {n : Int} (c : Int32) (hc : Int32.ofInt n = c) (hd : decode cc pc = .ok (.iinc 7 n, 3)) (k : AW X rc rs (pc + 3) (z0 :: z1 :: z2 :: z3 :: z4 :: z5 :: z6 :: some (.int (x + c)) :: t) st h Ko) (hi : 7 < nL := by decide) (hz : zok (z0 :: z1 :: z2 :: z3 :: z4 :: z5 :: z6 :: some (.int x) :: t) 7 = true := by rfl) : AW X rc rs pc (z0 :: z1 :: z2 :: z3 :: z4 :: z5 :: z6 :: some (.int x) :: t) st h Ko := aw_iinc B c hc hd rfl hi hz k
theorem aw_istore8 (B : zB X cc nL own nm ret) {z0 z1 z2 z3 z4 z5 z6 z7 : Option Value} {y : Option Value} {t : List (Option Value)} {x : Int32} (hd : decode cc pc = .ok (.istore 8, 2)) (k : AW X rc rs (pc + 2) (z0 :: z1 :: z2 :: z3 :: z4 :: z5 :: z6 :: z7 :: some (.int x) :: t) st h Ko) (hi : 8 < nL := by decide) (hz : zok (z0 :: z1 :: z2 :: z3 :: z4 :: z5 :: z6 :: z7 :: y :: t) 8 = true := by rfl) : AW X rc rs pc (z0 :: z1 :: z2 :: z3 :: z4 :: z5 :: z6 :: z7 :: y :: t) (.int x :: st) h Ko := aw_istore B hd hi hz k
theorem aw_iinc8 (B : zB X cc nL own nm ret) {z0 z1 z2 z3 z4 z5 z6 z7 : Option Value} {t : List (Option Value)} {x : Int32} {n : Int} (c : Int32) (hc : Int32.ofInt n = c) (hd : decode cc pc = .ok (.iinc 8 n, 3)) (k : AW X rc rs (pc + 3) (z0 :: z1 :: z2 :: z3 :: z4 :: z5 :: z6 :: z7 :: some (.int (x + c)) :: t) st h Ko) (hi : 8 < nL := by decide) (hz : zok (z0 :: z1 :: z2 :: z3 :: z4 :: z5 :: z6 :: z7 :: some (.int x) :: t) 8 = true := by rfl) : AW X rc rs pc (z0 :: z1 :: z2 :: z3 :: z4 :: z5 :: z6 :: z7 :: some (.int x) :: t) st h Ko := aw_iinc B c hc hd rfl hi hz k
theorem aw_istore9 (B : zB X cc nL own nm ret) {z0 z1 z2 z3 z4 z5 z6 z7 z8 : Option Value} {y : Option Value} {t : List (Option Value)} {x : Int32} (hd : decode cc pc = .ok (.istore 9, 2)) (k : AW X rc rs (pc + 2) (z0 :: z1 :: z2 :: z3 :: z4 :: z5 :: z6 :: z7 :: z8 :: some (.int x) :: t) st h Ko) (hi : 9 < nL := by decide) (hz : zok (z0 :: z1 :: z2 :: z3 :: z4 :: z5 :: z6 :: z7 :: z8 :: y :: t) 9 = true := by rfl) : AW X rc rs pc (z0 :: z1 :: z2 :: z3 :: z4 :: z5 :: z6 :: z7 :: z8 :: y :: t) (.int x :: st) h Ko := aw_istore B hd hi hz k
theorem aw_iinc9 (B : zB X cc nL own nm ret) {z0 z1 z2 z3 z4 z5 z6 z7 z8 : Option Value} {t : List (Option Value)} {x : Int32} {n : Int} (c : Int32) (hc : Int32.ofInt n = c) (hd : decode cc pc = .ok (.iinc 9 n, 3)) (k : AW X rc rs (pc + 3) (z0 :: z1 :: z2 :: z3 :: z4 :: z5 :: z6 :: z7 :: z8 :: some (.int (x + c)) :: t) st h Ko) (hi : 9 < nL := by decide) (hz : zok (z0 :: z1 :: z2 :: z3 :: z4 :: z5 :: z6 :: z7 :: z8 :: some (.int x) :: t) 9 = true := by rfl) : AW X rc rs pc (z0 :: z1 :: z2 :: z3 :: z4 :: z5 :: z6 :: z7 :: z8 :: some (.int x) :: t) st h Ko := aw_iinc B c hc hd rfl hi hz k
theorem aw_istore10 (B : zB X cc nL own nm ret) {z0 z1 z2 z3 z4 z5 z6 z7 z8 z9 : Option Value} {y : Option Value} {t : List (Option Value)} {x : Int32} (hd : decode cc pc = .ok (.istore 10, 2)) (k : AW X rc rs (pc + 2) (z0 :: z1 :: z2 :: z3 :: z4 :: z5 :: z6 :: z7 :: z8 :: z9 :: some (.int x) :: t) st h Ko) (hi : 10 < nL := by decide) (hz : zok (z0 :: z1 :: z2 :: z3 :: z4 :: z5 :: z6 :: z7 :: z8 :: z9 :: y :: t) 10 = true := by rfl) : AW X rc rs pc (z0 :: z1 :: z2 :: z3 :: z4 :: z5 :: z6 :: z7 :: z8 :: z9 :: y :: t) (.int x :: st) h Ko := aw_istore B hd hi hz k
theorem aw_iinc10 (B : zB X cc nL own nm ret) {z0 z1 z2 z3 z4 z5 z6 z7 z8 z9 : Option Value} {t : List (Option Value)} {x : Int32} {n : Int} (c : Int32) (hc : Int32.ofInt n = c) (hd : decode cc pc = .ok (.iinc 10 n, 3)) (k : AW X rc rs (pc + 3) (z0 :: z1 :: z2 :: z3 :: z4 :: z5 :: z6 :: z7 :: z8 :: z9 :: some (.int (x + c)) :: t) st h Ko) (hi : 10 < nL := by decide) (hz : zok (z0 :: z1 :: z2 :: z3 :: z4 :: z5 :: z6 :: z7 :: z8 :: z9 :: some (.int x) :: t) 10 = true := by rfl) : AW X rc rs pc (z0 :: z1 :: z2 :: z3 :: z4 :: z5 :: z6 :: z7 :: z8 :: z9 :: some (.int x) :: t) st h Ko := aw_iinc B c hc hd rfl hi hz k
theorem aw_istore11 (B : zB X cc nL own nm ret) {z0 z1 z2 z3 z4 z5 z6 z7 z8 z9 z10 : Option Value} {y : Option Value} {t : List (Option Value)} {x : Int32} (hd : decode cc pc = .ok (.istore 11, 2)) (k : AW X rc rs (pc + 2) (z0 :: z1 :: z2 :: z3 :: z4 :: z5 :: z6 :: z7 :: z8 :: z9 :: z10 :: some (.int x) :: t) st h Ko) (hi : 11 < nL := by decide) (hz : zok (z0 :: z1 :: z2 :: z3 :: z4 :: z5 :: z6 :: z7 :: z8 :: z9 :: z10 :: y :: t) 11 = true := by rfl) : AW X rc rs pc (z0 :: z1 :: z2 :: z3 :: z4 :: z5 :: z6 :: z7 :: z8 :: z9 :: z10 :: y :: t) (.int x :: st) h Ko := aw_istore B hd hi hz k
theorem aw_iinc11 (B : zB X cc nL own nm ret) {z0 z1 z2 z3 z4 z5 z6 z7 z8 z9 z10 : Option Value} {t : List (Option Value)} {x : Int32} {n : Int} (c : Int32) (hc : Int32.ofInt n = c) (hd : decode cc pc = .ok (.iinc 11 n, 3)) (k : AW X rc rs (pc + 3) (z0 :: z1 :: z2 :: z3 :: z4 :: z5 :: z6 :: z7 :: z8 :: z9 :: z10 :: some (.int (x + c)) :: t) st h Ko) (hi : 11 < nL := by decide) (hz : zok (z0 :: z1 :: z2 :: z3 :: z4 :: z5 :: z6 :: z7 :: z8 :: z9 :: z10 :: some (.int x) :: t) 11 = true := by rfl) : AW X rc rs pc (z0 :: z1 :: z2 :: z3 :: z4 :: z5 :: z6 :: z7 :: z8 :: z9 :: z10 :: some (.int x) :: t) st h Ko := aw_iinc B c hc hd rfl hi hz k
theorem aw_istore12 (B : zB X cc nL own nm ret) {z0 z1 z2 z3 z4 z5 z6 z7 z8 z9 z10 z11 : Option Value} {y : Option Value} {t : List (Option Value)} {x : Int32} (hd : decode cc pc = .ok (.istore 12, 2)) (k : AW X rc rs (pc + 2) (z0 :: z1 :: z2 :: z3 :: z4 :: z5 :: z6 :: z7 :: z8 :: z9 :: z10 :: z11 :: some (.int x) :: t) st h Ko) (hi : 12 < nL := by decide) (hz : zok (z0 :: z1 :: z2 :: z3 :: z4 :: z5 :: z6 :: z7 :: z8 :: z9 :: z10 :: z11 :: y :: t) 12 = true := by rfl) : AW X rc rs pc (z0 :: z1 :: z2 :: z3 :: z4 :: z5 :: z6 :: z7 :: z8 :: z9 :: z10 :: z11 :: y :: t) (.int x :: st) h Ko := aw_istore B hd hi hz k
theorem aw_iinc12 (B : zB X cc nL own nm ret) {z0 z1 z2 z3 z4 z5 z6 z7 z8 z9 z10 z11 : Option Value} {t : List (Option Value)} {x : Int32} {n : Int} (c : Int32) (hc : Int32.ofInt n = c) (hd : decode cc pc = .ok (.iinc 12 n, 3)) (k : AW X rc rs (pc + 3) (z0 :: z1 :: z2 :: z3 :: z4 :: z5 :: z6 :: z7 :: z8 :: z9 :: z10 :: z11 :: some (.int (x + c)) :: t) st h Ko) (hi : 12 < nL := by decide) (hz : zok (z0 :: z1 :: z2 :: z3 :: z4 :: z5 :: z6 :: z7 :: z8 :: z9 :: z10 :: z11 :: some (.int x) :: t) 12 = true := by rfl) : AW X rc rs pc (z0 :: z1 :: z2 :: z3 :: z4 :: z5 :: z6 :: z7 :: z8 :: z9 :: z10 :: z11 :: some (.int x) :: t) st h Ko := aw_iinc B c hc hd rfl hi hz k
theorem aw_lstore0 (B : zB X cc nL own nm ret) {y y2 : Option Value} {t : List (Option Value)} {x : Int64} (hd : decode cc pc = .ok (.lstore_n 0, 1)) (k : AW X rc rs (pc + 1) (some (.long x) :: none :: t) st h Ko) (hi : 0 + 1 < nL := by decide) : AW X rc rs pc (y :: y2 :: t) (.long x :: st) h Ko := aw_lstore_n B 0 rfl hd hi rfl k
theorem aw_lstore1 (B : zB X cc nL own nm ret) {z0 : Option Value} {y y2 : Option Value} {t : List (Option Value)} {x : Int64} (hd : decode cc pc = .ok (.lstore_n 1, 1)) (k : AW X rc rs (pc + 1) (z0 :: some (.long x) :: none :: t) st h Ko) (hi : 1 + 1 < nL := by decide) (hz : zok (z0 :: y :: y2 :: t) 1 = true := by rfl) : AW X rc rs pc (z0 :: y :: y2 :: t) (.long x :: st) h Ko := aw_lstore_n B 1 rfl hd hi hz k
theorem aw_lstore2 (B : zB X cc nL own nm ret) {z0 z1 : Option Value} {y y2 : Option Value} {t : List (Option Value)} {x : Int64} (hd : decode cc pc = .ok (.lstore_n 2, 1)) (k : AW X rc rs (pc + 1) (z0 :: z1 :: some (.long x) :: none :: t) st h Ko) (hi : 2 + 1 < nL := by decide) (hz : zok (z0 :: z1 :: y :: y2 :: t) 2 = true := by rfl) : AW X rc rs pc (z0 :: z1 :: y :: y2 :: t) (.long x :: st) h Ko := aw_lstore_n B 2 rfl hd hi hz k
theorem aw_lstore3 (B : zB X cc nL own nm ret) {z0 z1 z2 : Option Value} {y y2 : Option Value} {t : List (Option Value)} {x : Int64} (hd : decode cc pc = .ok (.lstore_n 3, 1)) (k : AW X rc rs (pc + 1) (z0 :: z1 :: z2 :: some (.long x) :: none :: t) st h Ko) (hi : 3 + 1 < nL := by decide) (hz : zok (z0 :: z1 :: z2 :: y :: y2 :: t) 3 = true := by rfl) : AW X rc rs pc (z0 :: z1 :: z2 :: y :: y2 :: t) (.long x :: st) h Ko := aw_lstore_n B 3 rfl hd hi hz k
theorem aw_lstore4 (B : zB X cc nL own nm ret) {z0 z1 z2 z3 : Option Value} {y y2 : Option Value} {t : List (Option Value)} {x : Int64} (hd : decode cc pc = .ok (.lstore 4, 2)) (k : AW X rc rs (pc + 2) (z0 :: z1 :: z2 :: z3 :: some (.long x) :: none :: t) st h Ko) (hi : 4 + 1 < nL := by decide) (hz : zok (z0 :: z1 :: z2 :: z3 :: y :: y2 :: t) 4 = true := by rfl) : AW X rc rs pc (z0 :: z1 :: z2 :: z3 :: y :: y2 :: t) (.long x :: st) h Ko := aw_lstore B hd hi hz k
theorem aw_lstore5 (B : zB X cc nL own nm ret) {z0 z1 z2 z3 z4 : Option Value} {y y2 : Option Value} {t : List (Option Value)} {x : Int64} (hd : decode cc pc = .ok (.lstore 5, 2)) (k : AW X rc rs (pc + 2) (z0 :: z1 :: z2 :: z3 :: z4 :: some (.long x) :: none :: t) st h Ko) (hi : 5 + 1 < nL := by decide) (hz : zok (z0 :: z1 :: z2 :: z3 :: z4 :: y :: y2 :: t) 5 = true := by rfl) : AW X rc rs pc (z0 :: z1 :: z2 :: z3 :: z4 :: y :: y2 :: t) (.long x :: st) h Ko := aw_lstore B hd hi hz k
theorem aw_lstore6 (B : zB X cc nL own nm ret) {z0 z1 z2 z3 z4 z5 : Option Value} {y y2 : Option Value} {t : List (Option Value)} {x : Int64} (hd : decode cc pc = .ok (.lstore 6, 2)) (k : AW X rc rs (pc + 2) (z0 :: z1 :: z2 :: z3 :: z4 :: z5 :: some (.long x) :: none :: t) st h Ko) (hi : 6 + 1 < nL := by decide) (hz : zok (z0 :: z1 :: z2 :: z3 :: z4 :: z5 :: y :: y2 :: t) 6 = true := by rfl) : AW X rc rs pc (z0 :: z1 :: z2 :: z3 :: z4 :: z5 :: y :: y2 :: t) (.long x :: st) h Ko := aw_lstore B hd hi hz k
theorem aw_lstore7 (B : zB X cc nL own nm ret) {z0 z1 z2 z3 z4 z5 z6 : Option Value} {y y2 : Option Value} {t : List (Option Value)} {x : Int64} (hd : decode cc pc = .ok (.lstore 7, 2)) (k : AW X rc rs (pc + 2) (z0 :: z1 :: z2 :: z3 :: z4 :: z5 :: z6 :: some (.long x) :: none :: t) st h Ko) (hi : 7 + 1 < nL := by decide) (hz : zok (z0 :: z1 :: z2 :: z3 :: z4 :: z5 :: z6 :: y :: y2 :: t) 7 = true := by rfl) : AW X rc rs pc (z0 :: z1 :: z2 :: z3 :: z4 :: z5 :: z6 :: y :: y2 :: t) (.long x :: st) h Ko := aw_lstore B hd hi hz k
theorem aw_lstore8 (B : zB X cc nL own nm ret) {z0 z1 z2 z3 z4 z5 z6 z7 : Option Value} {y y2 : Option Value} {t : List (Option Value)} {x : Int64} (hd : decode cc pc = .ok (.lstore 8, 2)) (k : AW X rc rs (pc + 2) (z0 :: z1 :: z2 :: z3 :: z4 :: z5 :: z6 :: z7 :: some (.long x) :: none :: t) st h Ko) (hi : 8 + 1 < nL := by decide) (hz : zok (z0 :: z1 :: z2 :: z3 :: z4 :: z5 :: z6 :: z7 :: y :: y2 :: t) 8 = true := by rfl) : AW X rc rs pc (z0 :: z1 :: z2 :: z3 :: z4 :: z5 :: z6 :: z7 :: y :: y2 :: t) (.long x :: st) h Ko := aw_lstore B hd hi hz k
theorem aw_lstore9 (B : zB X cc nL own nm ret) {z0 z1 z2 z3 z4 z5 z6 z7 z8 : Option Value} {y y2 : Option Value} {t : List (Option Value)} {x : Int64} (hd : decode cc pc = .ok (.lstore 9, 2)) (k : AW X rc rs (pc + 2) (z0 :: z1 :: z2 :: z3 :: z4 :: z5 :: z6 :: z7 :: z8 :: some (.long x) :: none :: t) st h Ko) (hi : 9 + 1 < nL := by decide) (hz : zok (z0 :: z1 :: z2 :: z3 :: z4 :: z5 :: z6 :: z7 :: z8 :: y :: y2 :: t) 9 = true := by rfl) : AW X rc rs pc (z0 :: z1 :: z2 :: z3 :: z4 :: z5 :: z6 :: z7 :: z8 :: y :: y2 :: t) (.long x :: st) h Ko := aw_lstore B hd hi hz k
theorem aw_icmp_eq (B : zB X cc nL own nm ret) {x y : Int32} {off : Int} (tgt : Nat) (hd : decode cc pc = .ok (.if_icmp .eq off, 3)) (kt : x = y → AW X rc rs tgt lv st h Ko) (kf : ¬ x = y → AW X rc rs (pc + 3) lv st h Ko) (ht : (pc : Int) + off = (tgt : Int) := by decide) : AW X rc rs pc lv (.int y :: .int x :: st) h Ko := fun H locs ls cells slots a1 a2 a3 a4 a5 => lv_icmp_eq B.1 B.2.1 hd ht (fun c => kt c H locs ls cells slots a1 a2 a3 a4 a5) (fun c => kf c H locs ls cells slots a1 a2 a3 a4 a5)
theorem aw_icmp_ne (B : zB X cc nL own nm ret) {x y : Int32} {off : Int} (tgt : Nat) (hd : decode cc pc = .ok (.if_icmp .ne off, 3)) (kt : ¬ x = y → AW X rc rs tgt lv st h Ko) (kf : x = y → AW X rc rs (pc + 3) lv st h Ko) (ht : (pc : Int) + off = (tgt : Int) := by decide) : AW X rc rs pc lv (.int y :: .int x :: st) h Ko := fun H locs ls cells slots a1 a2 a3 a4 a5 => lv_icmp_ne B.1 B.2.1 hd ht (fun c => kt c H locs ls cells slots a1 a2 a3 a4 a5) (fun c => kf c H locs ls cells slots a1 a2 a3 a4 a5)
theorem aw_icmp_lt (B : zB X cc nL own nm ret) {x y : Int32} {off : Int} (tgt : Nat) (hd : decode cc pc = .ok (.if_icmp .lt off, 3)) (kt : x < y → AW X rc rs tgt lv st h Ko) (kf : ¬ x < y → AW X rc rs (pc + 3) lv st h Ko) (ht : (pc : Int) + off = (tgt : Int) := by decide) : AW X rc rs pc lv (.int y :: .int x :: st) h Ko := fun H locs ls cells slots a1 a2 a3 a4 a5 => lv_icmp_lt B.1 B.2.1 hd ht (fun c => kt c H locs ls cells slots a1 a2 a3 a4 a5) (fun c => kf c H locs ls cells slots a1 a2 a3 a4 a5)
theorem aw_icmp_ge (B : zB X cc nL own nm ret) {x y : Int32} {off : Int} (tgt : Nat) (hd : decode cc pc = .ok (.if_icmp .ge off, 3)) (kt : y ≤ x → AW X rc rs tgt lv st h Ko) (kf : ¬ y ≤ x → AW X rc rs (pc + 3) lv st h Ko) (ht : (pc : Int) + off = (tgt : Int) := by decide) : AW X rc rs pc lv (.int y :: .int x :: st) h Ko := fun H locs ls cells slots a1 a2 a3 a4 a5 => lv_icmp_ge B.1 B.2.1 hd ht (fun c => kt c H locs ls cells slots a1 a2 a3 a4 a5) (fun c => kf c H locs ls cells slots a1 a2 a3 a4 a5)
theorem aw_icmp_gt (B : zB X cc nL own nm ret) {x y : Int32} {off : Int} (tgt : Nat) (hd : decode cc pc = .ok (.if_icmp .gt off, 3)) (kt : y < x → AW X rc rs tgt lv st h Ko) (kf : ¬ y < x → AW X rc rs (pc + 3) lv st h Ko) (ht : (pc : Int) + off = (tgt : Int) := by decide) : AW X rc rs pc lv (.int y :: .int x :: st) h Ko := fun H locs ls cells slots a1 a2 a3 a4 a5 => lv_icmp_gt B.1 B.2.1 hd ht (fun c => kt c H locs ls cells slots a1 a2 a3 a4 a5) (fun c => kf c H locs ls cells slots a1 a2 a3 a4 a5)
theorem aw_icmp_le (B : zB X cc nL own nm ret) {x y : Int32} {off : Int} (tgt : Nat) (hd : decode cc pc = .ok (.if_icmp .le off, 3)) (kt : x ≤ y → AW X rc rs tgt lv st h Ko) (kf : ¬ x ≤ y → AW X rc rs (pc + 3) lv st h Ko) (ht : (pc : Int) + off = (tgt : Int) := by decide) : AW X rc rs pc lv (.int y :: .int x :: st) h Ko := fun H locs ls cells slots a1 a2 a3 a4 a5 => lv_icmp_le B.1 B.2.1 hd ht (fun c => kt c H locs ls cells slots a1 a2 a3 a4 a5) (fun c => kf c H locs ls cells slots a1 a2 a3 a4 a5)
theorem aw_if_eq (B : zB X cc nL own nm ret) {x : Int32} {off : Int} (tgt : Nat) (hd : decode cc pc = .ok (.ifCond .eq off, 3)) (kt : x = 0 → AW X rc rs tgt lv st h Ko) (kf : ¬ x = 0 → AW X rc rs (pc + 3) lv st h Ko) (ht : (pc : Int) + off = (tgt : Int) := by decide) : AW X rc rs pc lv (.int x :: st) h Ko := fun H locs ls cells slots a1 a2 a3 a4 a5 => lv_if_eq B.1 B.2.1 hd ht (fun c => kt c H locs ls cells slots a1 a2 a3 a4 a5) (fun c => kf c H locs ls cells slots a1 a2 a3 a4 a5)
theorem aw_if_ne (B : zB X cc nL own nm ret) {x : Int32} {off : Int} (tgt : Nat) (hd : decode cc pc = .ok (.ifCond .ne off, 3)) (kt : ¬ x = 0 → AW X rc rs tgt lv st h Ko) (kf : x = 0 → AW X rc rs (pc + 3) lv st h Ko) (ht : (pc : Int) + off = (tgt : Int) := by decide) : AW X rc rs pc lv (.int x :: st) h Ko := fun H locs ls cells slots a1 a2 a3 a4 a5 => lv_if_ne B.1 B.2.1 hd ht (fun c => kt c H locs ls cells slots a1 a2 a3 a4 a5) (fun c => kf c H locs ls cells slots a1 a2 a3 a4 a5)
theorem aw_if_lt (B : zB X cc nL own nm ret) {x : Int32} {off : Int} (tgt : Nat) (hd : decode cc pc = .ok (.ifCond .lt off, 3)) (kt : x < 0 → AW X rc rs tgt lv st h Ko) (kf : ¬ x < 0 → AW X rc rs (pc + 3) lv st h Ko) (ht : (pc : Int) + off = (tgt : Int) := by decide) : AW X rc rs pc lv (.int x :: st) h Ko := fun H locs ls cells slots a1 a2 a3 a4 a5 => lv_if_lt B.1 B.2.1 hd ht (fun c => kt c H locs ls cells slots a1 a2 a3 a4 a5) (fun c => kf c H locs ls cells slots a1 a2 a3 a4 a5)
theorem aw_if_ge (B : zB X cc nL own nm ret) {x : Int32} {off : Int} (tgt : Nat) (hd : decode cc pc = .ok (.ifCond .ge off, 3)) (kt : 0 ≤ x → AW X rc rs tgt lv st h Ko) (kf : ¬ 0 ≤ x → AW X rc rs (pc + 3) lv st h Ko) (ht : (pc : Int) + off = (tgt : Int) := by decide) : AW X rc rs pc lv (.int x :: st) h Ko := fun H locs ls cells slots a1 a2 a3 a4 a5 => lv_if_ge B.1 B.2.1 hd ht (fun c => kt c H locs ls cells slots a1 a2 a3 a4 a5) (fun c => kf c H locs ls cells slots a1 a2 a3 a4 a5)
theorem aw_if_gt (B : zB X cc nL own nm ret) {x : Int32} {off : Int} (tgt : Nat) (hd : decode cc pc = .ok (.ifCond .gt off, 3)) (kt : 0 < x → AW X rc rs tgt lv st h Ko) (kf : ¬ 0 < x → AW X rc rs (pc + 3) lv st h Ko) (ht : (pc : Int) + off = (tgt : Int) := by decide) : AW X rc rs pc lv (.int x :: st) h Ko := fun H locs ls cells slots a1 a2 a3 a4 a5 => lv_if_gt B.1 B.2.1 hd ht (fun c => kt c H locs ls cells slots a1 a2 a3 a4 a5) (fun c => kf c H locs ls cells slots a1 a2 a3 a4 a5)
theorem aw_if_le (B : zB X cc nL own nm ret) {x : Int32} {off : Int} (tgt : Nat) (hd : decode cc pc = .ok (.ifCond .le off, 3)) (kt : x ≤ 0 → AW X rc rs tgt lv st h Ko) (kf : ¬ x ≤ 0 → AW X rc rs (pc + 3) lv st h Ko) (ht : (pc : Int) + off = (tgt : Int) := by decide) : AW X rc rs pc lv (.int x :: st) h Ko := fun H locs ls cells slots a1 a2 a3 a4 a5 => lv_if_le B.1 B.2.1 hd ht (fun c => kt c H locs ls cells slots a1 a2 a3 a4 a5) (fun c => kf c H locs ls cells slots a1 a2 a3 a4 a5)
theorem aw_goto (B : zB X cc nL own nm ret) {off : Int} (tgt : Nat) (hd : decode cc pc = .ok (.goto off, 3)) (k : AW X rc rs tgt lv st h Ko) (ht : (pc : Int) + off = (tgt : Int) := by decide) : AW X rc rs pc lv st h Ko := fun H locs ls cells slots a1 a2 a3 a4 a5 => lv_goto B.1 B.2.1 hd ht (k H locs ls cells slots a1 a2 a3 a4 a5)
theorem aw_ifnull (B : zB X cc nL own nm ret) {x : Nat} {off : Int} (hd : decode cc pc = .ok (.ifnull off, 3)) (k : AW X rc rs (pc + 3) lv st h Ko) : AW X rc rs pc lv (.ref x :: st) h Ko := fun H locs ls cells slots a1 a2 a3 a4 a5 => lv_ifnull B.1 B.2.1 hd (k H locs ls cells slots a1 a2 a3 a4 a5)
theorem aw_ifnullN (B : zB X cc nL own nm ret) {off : Int} (tgt : Nat) (hd : decode cc pc = .ok (.ifnull off, 3)) (k : AW X rc rs tgt lv st h Ko) (ht : (pc : Int) + off = (tgt : Int) := by decide) : AW X rc rs pc lv (.null :: st) h Ko := fun H locs ls cells slots a1 a2 a3 a4 a5 => lv_ifnullN B.1 B.2.1 hd ht (k H locs ls cells slots a1 a2 a3 a4 a5)
theorem aw_ifnonnull (B : zB X cc nL own nm ret) {x : Nat} {off : Int} (tgt : Nat) (hd : decode cc pc = .ok (.ifnonnull off, 3)) (k : AW X rc rs tgt lv st h Ko) (ht : (pc : Int) + off = (tgt : Int) := by decide) : AW X rc rs pc lv (.ref x :: st) h Ko := fun H locs ls cells slots a1 a2 a3 a4 a5 => lv_ifnonnull B.1 B.2.1 hd ht (k H locs ls cells slots a1 a2 a3 a4 a5)
theorem aw_ifnonnullN (B : zB X cc nL own nm ret) {off : Int} (hd : decode cc pc = .ok (.ifnonnull off, 3)) (k : AW X rc rs (pc + 3) lv st h Ko) : AW X rc rs pc lv (.null :: st) h Ko := fun H locs ls cells slots a1 a2 a3 a4 a5 => lv_ifnonnullN B.1 B.2.1 hd (k H locs ls cells slots a1 a2 a3 a4 a5)
theorem aw_tableIn (B : zB X cc nL own nm ret) {dflt lo hi : Int} {offs : Array Int} {len : Nat} {x : Int32} {off : Int} (tgt : Nat) (hd : decode cc pc = .ok (.tableswitch dflt lo hi offs, len)) (h1 : ¬ x.toInt < lo) (h2 : ¬ hi < x.toInt) (ho : offs[(x.toInt - lo).toNat]? = some off) (k : AW X rc rs tgt lv st h Ko) (ht : (pc : Int) + off = (tgt : Int) := by decide) : AW X rc rs pc lv (.int x :: st) h Ko := fun H locs ls cells slots a1 a2 a3 a4 a5 => lv_tableIn B.1 B.2.1 hd h1 h2 ho ht (k H locs ls cells slots a1 a2 a3 a4 a5)
theorem aw_tableOut (B : zB X cc nL own nm ret) {dflt lo hi : Int} {offs : Array Int} {len : Nat} {x : Int32} (tgt : Nat) (hd : decode cc pc = .ok (.tableswitch dflt lo hi offs, len)) (h1 : x.toInt < lo ∨ hi < x.toInt) (k : AW X rc rs tgt lv st h Ko) (ht : (pc : Int) + dflt = (tgt : Int) := by decide) : AW X rc rs pc lv (.int x :: st) h Ko := fun H locs ls cells slots a1 a2 a3 a4 a5 => lv_tableOut B.1 B.2.1 hd h1 ht (k H locs ls cells slots a1 a2 a3 a4 a5)
theorem aw_lookup (B : zB X cc nL own nm ret) {dflt : Int} {ps : Array (Int × Int)} {len : Nat} {x : Int32} {off : Int} (tgt : Nat) (hd : decode cc pc = .ok (.lookupswitch dflt ps, len)) (ho : Op.lookupswitch.offset ps.toList dflt x.toInt = off) (k : AW X rc rs tgt lv st h Ko) (hp : (ps.toList.zip (ps.toList.drop 1)).all (fun (a, next) => a.1 < next.1) = true := by decide) (ht : (pc : Int) + off = (tgt : Int) := by decide) : AW X rc rs pc lv (.int x :: st) h Ko := fun H locs ls cells slots a1 a2 a3 a4 a5 => lv_lookup B.1 B.2.1 hd hp ho ht (k H locs ls cells slots a1 a2 a3 a4 a5)
theorem aw_iret (B : zB X cc nL own nm ret) {v : Int32} {ty : FieldType} (hr : ret = some ty) (hn : narrow ty (.int v) = .int v) (hd : decode cc pc = .ok (.ireturn, 1)) (k : Ko (some (.int v)) h) : AW X rc rs pc lv [.int v] h Ko := by
  intro H locs ls cells slots a1 a2 a3 a4 a5
  refine W.widen (Nat.le_trans (Nat.le_add_right _ _) a4) (Nat.le_trans (Nat.le_add_right _ _) a5) ?_
  exact W.zret (ty := ty) B.1 B.2.1 (by rw [B.2.2.2.2.2.2.1]; exact hr) hn (fun t ht hW => ⟨_, h, rfl, k, by rw [ht]; exact a1⟩) a2 hd B.2.2.2.2.2.2.2.1
theorem aw_lret (B : zB X cc nL own nm ret) {v : Int64} (hr : ret = some .long) (hd : decode cc pc = .ok (.lreturn, 1)) (k : Ko (some (.long v)) h) : AW X rc rs pc lv [.long v] h Ko := by
  intro H locs ls cells slots a1 a2 a3 a4 a5
  refine W.widen (Nat.le_trans (Nat.le_add_right _ _) a4) (Nat.le_trans (Nat.le_add_right _ _) a5) ?_
  exact W.lret B.1 B.2.1 (by rw [B.2.2.2.2.2.2.1]; exact hr) (fun t ht hW => ⟨_, h, rfl, k, by rw [ht]; exact a1⟩) a2 hd B.2.2.2.2.2.2.2.1
theorem aw_vret (B : zB X cc nL own nm ret) (hr : ret = none) (hd : decode cc pc = .ok (.return_, 1)) (k : Ko none h) : AW X rc rs pc lv [] h Ko := by
  intro H locs ls cells slots a1 a2 a3 a4 a5
  refine W.widen (Nat.le_trans (Nat.le_add_right _ _) a4) (Nat.le_trans (Nat.le_add_right _ _) a5) ?_
  exact W.vret B.1 B.2.1 (by rw [B.2.2.2.2.2.2.1]; exact hr) (fun t ht hW => ⟨_, h, rfl, k, by rw [ht]; exact a1⟩) a2 hd B.2.2.2.2.2.2.2.1
theorem aw_aret (B : zB X cc nL own nm ret) {v : Value} {rt : FieldType} (hr : ret = some rt) (hrt : (∃ n, rt = .object n) ∨ ∃ t, rt = .array t) (hv : v = .null ∨ ∃ a, v = .ref a) (hd : decode cc pc = .ok (.areturn, 1)) (k : Ko (some v) h) : AW X rc rs pc lv [v] h Ko := by
  intro H locs ls cells slots a1 a2 a3 a4 a5
  refine W.widen (Nat.le_trans (Nat.le_add_right _ _) a4) (Nat.le_trans (Nat.le_add_right _ _) a5) ?_
  exact W.aret B.1 B.2.1 (by rw [B.2.2.2.2.2.2.1]; exact hr) hrt hv (fun t ht hW => ⟨_, h, rfl, k, by rw [ht]; exact a1⟩) a2 hd B.2.2.2.2.2.2.2.1
end ZRULES
end
section
section ZHEAP
variable {X : zX} {cc : ByteArray} {nL : Nat} {own nm : String} {ret : Option FieldType} {rc rs pc : Nat} {lv : List (Option Value)} {st : List Value} {h : Hp} {Ko : Option Value → Hp → Prop}
theorem zR.up {g : zG} {H H1 : Heap} {a : Nat} {e e0 : va_E} (r : zR g h H) (h0 : h.2 a = some e0) (hz : H1.size = H.size) (oq : ∀ q, q ≠ a → H1[q]? = H[q]?) (he : va_at g.1 vwCl (a, e) H1) : zR g (hp_up h a e) H1 := by
  obtain ⟨r1, r2, r3, r4⟩ := r
  refine ⟨hz.trans r1, r2, fun q hq => ?_, fun b e' hb => ?_⟩
  · have := (r4 a e0 h0).1
    rw [oq q (by omega)]
    exact r3 q hq
  · unfold hp_up at hb
    by_cases hba : b = a
    · simp only [hba, if_true, Option.some.injEq] at hb
      rw [hba, ← hb]
      exact ⟨(r4 a e0 h0).1, he⟩
    · simp only [if_neg hba] at hb
      exact ⟨(r4 b e' hb).1, (r4 b e' hb).2.kept (oq b hba)⟩
theorem zR.new {g : zG} {H H1 : Heap} {e : va_E} (r : zR g h H) (hz : H1.size = H.size + 1) (oq : ∀ q, q < H.size → H1[q]? = H[q]?) (he : va_at g.1 vwCl (h.1, e) H1) : zR g (hp_new h e) H1 := by
  obtain ⟨r1, r2, r3, r4⟩ := r
  refine ⟨by rw [hz, r1]; rfl, Nat.le_succ_of_le r2, fun q hq => ?_, fun b e' hb => ?_⟩
  · rw [oq q (by omega)]
    exact r3 q hq
  · unfold hp_new at hb
    by_cases hba : b = h.1
    · simp only [hba, if_true, Option.some.injEq] at hb
      rw [hba, ← hb]
      exact ⟨r2, he⟩
    · simp only [if_neg hba] at hb
      obtain ⟨q1, q2⟩ := r4 b e' hb
      exact ⟨q1, q2.kept (oq b q2.lt)⟩
theorem zP1 {g : zG} {H : Heap} {a : Nat} {e : va_E} (r : zR g h H) (h0 : h.2 a = some e) : va_P g.1 vwCl [(a, e)] H := by
  intro j q hq
  have hj : j < 1 := (List.getElem?_eq_some_iff.mp hq).1
  rw [show j = 0 by omega] at hq
  cases hq
  exact (r.2.2.2 a e h0).2
/-- a row of the pool that names a field: place k of class ci -/
def zFL (own : String) (idx ci k : Nat) (fin dec : Bool) (ty : FieldType) : Prop :=
  ∃ (C ref : String) (T : u_T) (N : Nat) (ty0 : Nat → FieldType), vwCl[ci]? = some (C, T, N) ∧ k < N ∧ (∀ w ∈ u_ws C T N, w ∈ zT) ∧ (∀ k, k < N → parseFieldDescriptor (T k).2.2.1 = some (ty0 k)) ∧ (∀ a, a < N → ∀ b, b < N → a ≠ b → (T a).2.1 ≠ (T b).2.1) ∧ ty0 k = ty ∧ (T k).2.2.2 = fin ∧ (dec = true → (T k).1 = own) ∧ (Cond.fieldLink own idx ref (T k).2.1 (T k).2.2.1 ∈ zT ∨ ∃ host, (own, idx, ref, (T k).2.1, (T k).2.2.1, host) ∈ zNF) ∧ (ref = (T k).1 ∨ Cond.sameField ref (T k).1 (T k).2.1 (T k).2.2.1 ∈ zT)
theorem aw_get (B : zB X cc nL own nm ret) {idx ci k a : Nat} {fin dec : Bool} {ty : FieldType} {fs : List Value} {v : Value} (F : zFL own idx ci k fin dec ty) (hd : decode cc pc = .ok (.getfield idx, 3)) (hh : h.2 a = some (.inr (ci, fs))) (hv : fs[k]? = some v) (kk : AW X rc rs (pc + 3) lv (v :: st) h Ko) : AW X rc rs pc lv (.ref a :: st) h Ko := by
  intro H locs ls cells slots a1 a2 a3 a4 a5
  obtain ⟨C, ref, T, N, ty0, hc, hk, hin, hty, hnm, -, -, -, hl, hs⟩ := F
  have hP := zP1 a1 hh
  have hsame : ∀ x, X.2.1.1.fieldFound? (T k).1 (T k).2.1 (T k).2.2.1 = some x → X.2.1.1.fieldFound? ref (T k).2.1 (T k).2.2.1 = some x := by
    rcases hs with rfl | hs
    · exact fun _ z => z
    · exact fun x hx => u_same (B.2.2.2.2.1 _ hs) x hx
  rcases hl with hl | ⟨host, hl⟩
  · exact va_get B.1 B.2.1 B.2.2.2.2.1 hin B.2.2.2.1 B.2.2.2.2.2.1.1 hP 0 rfl hc k hk (B.2.2.2.2.1 _ hl) hsame hv hd (kk H locs ls cells slots a1 a2 a3 a4 a5)
  · exact va_getN B.1 B.2.1 B.2.2.2.2.1 hin B.2.2.2.1 B.2.2.2.2.2.1.1 hP 0 rfl hc k hk (va_Nw.use rfl (B.2.2.2.2.2.1.2.1.1 _ hl)) hsame hv hd (kk H locs ls cells slots a1 a2 a3 a4 a5)
theorem aw_put (B : zB X cc nL own nm ret) {idx ci k a : Nat} {dec : Bool} {ty : FieldType} {fs : List Value} {v : Value} (F : zFL own idx ci k false dec ty) (hd : decode cc pc = .ok (.putfield idx, 3)) (hh : h.2 a = some (.inr (ci, fs))) (hn : narrow ty v = v) (hfit : fits ty v = true) (hl0 : k < fs.length) (kk : AW X rc rs (pc + 3) lv st (hp_up h a (.inr (ci, fs.set k v))) Ko) : AW X rc rs pc lv (v :: .ref a :: st) h Ko := by
  intro H locs ls cells slots a1 a2 a3 a4 a5
  obtain ⟨C, ref, T, N, ty0, hc, hk, hin, hty, hnm, hty1, hfin, -, hl, hs⟩ := F
  have hts := B.2.2.2.2.1
  have hK := B.2.2.2.2.2.1.1
  have hsame : ∀ x, X.2.1.1.fieldFound? (T k).1 (T k).2.1 (T k).2.2.1 = some x → X.2.1.1.fieldFound? ref (T k).2.1 (T k).2.2.1 = some x := by
    rcases hs with rfl | hs
    · exact fun _ z => z
    · exact fun x hx => u_same (hts _ hs) x hx
  have hap := va_apart (own := own) hts hin ty0 hty hnm hK hc
  obtain ⟨r, h1, cell, q1, q2, q3, q4⟩ := (a1.2.2.2 a _ hh).2
  have hr : r = (C, T, N) := Option.some.inj (h1.symm.trans hc)
  subst hr
  obtain ⟨hS, hfc, kC, hkC, hkind⟩ := hK.1 ci _ hc
  obtain ⟨cf, kf, fi, f, hi, hsl⟩ := hS k hk
  have hlay := hts _ (hin _ (u_in_lay hk))
  unfold u_lay at hlay
  rw [if_neg (by rw [hfin]; decide)] at hlay
  have hst := (u_facts hfc hkC (u_lays hts hin hk) hi).1
  have h6 := u_store hfc hkC hkind hlay hi (by rw [hty k hk, hty1]) hn hfit
  have fin : ∀ H' : Heap, H'[a]? = some (cell.setSlot f.slot v) → H'.size = H.size → (∀ q, q ≠ a → H'[q]? = H[q]?) → zR (zXg X) (hp_up h a (.inr (ci, fs.set k v))) H' := by
    intro H' e1 e2 e3
    refine a1.up hh e2 e3 ?_
    rw [hsl] at e1
    exact ⟨_, hc, t_OB.to (V := updV (vp_V fs) k v) ⟨_, e1, q2, q3, t_set q4 hap hk v⟩ (fun j _ => vp_updV_set hl0 v j)⟩
  have hlocs : ∀ q ∈ locs ++ [⟨a, f.slot⟩], zb (zXg X) ≤ q.base := fun q hq => by
    rcases List.mem_append.mp hq with hq | hq
    · exact a2 q hq
    · rw [List.mem_singleton.mp hq]; exact (a1.2.2.2 a _ hh).1
  rcases hl with hl | ⟨host, hl⟩
  · refine W.putK B.1 B.2.1 (f := f) ⟨B.2.2.2.1, hts _ hl, ⟨_, _, _, hsame _ hi⟩, hst⟩ (by rw [q2]; exact h6) q1 q3 (by rw [hsl]; exact k2_hasslot (q4 k hk)) rfl rfl hd fun H' e1 e2 e3 => ?_
    exact kk H' _ ls cells slots (fin H' e1 e2 e3) hlocs a3 a4 a5
  · refine va_WputK B.1 B.2.1 (f := f) B.2.2.2.1 (va_Nw.use rfl (B.2.2.2.2.2.1.2.1.1 _ hl)) (hsame _ hi) hst (by rw [q2]; exact h6) q1 q3 (by rw [hsl]; exact k2_hasslot (q4 k hk)) rfl rfl hd fun H' e1 e2 e3 => ?_
    exact kk H' _ ls cells slots (fin H' e1 e2 e3) hlocs a3 a4 a5
theorem aw_putF (B : zB X cc nL own nm ret) {idx ci k a : Nat} {ty : FieldType} {fs : List Value} {v : Value} (hnm : nm = "<init>") (F : zFL own idx ci k true true ty) (hlk : ∀ q ∈ zNF, ¬ (q.1 = own ∧ q.2.1 = idx)) (hd : decode cc pc = .ok (.putfield idx, 3)) (hh : h.2 a = some (.inr (ci, fs))) (hn : narrow ty v = v) (hfit : fits ty v = true) (hl0 : k < fs.length) (kk : AW X rc rs (pc + 3) lv st (hp_up h a (.inr (ci, fs.set k v))) Ko) : AW X rc rs pc lv (v :: .ref a :: st) h Ko := by
  intro H locs ls cells slots a1 a2 a3 a4 a5
  obtain ⟨C, ref, T, N, ty0, hc, hk, hin, hty, hnmT, hty1, hfin, hdec, hl, hs⟩ := F
  have hts := B.2.2.2.2.1
  have hK := B.2.2.2.2.2.1.1
  have hsame : ∀ x, X.2.1.1.fieldFound? (T k).1 (T k).2.1 (T k).2.2.1 = some x → X.2.1.1.fieldFound? ref (T k).2.1 (T k).2.2.1 = some x := by
    rcases hs with rfl | hs
    · exact fun _ z => z
    · exact fun x hx => u_same (hts _ hs) x hx
  have hap := va_apart (own := own) hts hin ty0 hty hnmT hK hc
  obtain ⟨r, h1, cell, q1, q2, q3, q4⟩ := (a1.2.2.2 a _ hh).2
  have hr : r = (C, T, N) := Option.some.inj (h1.symm.trans hc)
  subst hr
  obtain ⟨hS, hfc, kC, hkC, hkind⟩ := hK.1 ci _ hc
  obtain ⟨cf, kf, fi, f, hi, hsl⟩ := hS k hk
  have hlay := hts _ (hin _ (u_in_lay hk))
  unfold u_lay at hlay
  rw [if_pos hfin] at hlay
  have hst := (u_facts hfc hkC (u_lays hts hin hk) hi).1
  have hcf : X.2.1.2.1.cls = cf := by
    obtain ⟨_, _, c', _, _, _, -, -, hf', -, -, -, hown2, -⟩ := Cond.laysFinal_spec hlay
    have e1 : c' = cf := by have := hi.symm.trans hf'; simp at this; exact this.1.symm
    rw [hdec rfl] at hown2
    rw [← e1]; exact Option.some.inj (B.2.2.2.1.symm.trans hown2)
  have h6 := u_fits hfc hkC hkind (Or.inr hlay) hi (by rw [hty k hk, hty1]) hn hfit
  have fin : ∀ H' : Heap, H'[a]? = some (cell.setSlot f.slot v) → H'.size = H.size → (∀ q, q ≠ a → H'[q]? = H[q]?) → zR (zXg X) (hp_up h a (.inr (ci, fs.set k v))) H' := by
    intro H' e1 e2 e3
    refine a1.up hh e2 e3 ?_
    rw [hsl] at e1
    exact ⟨_, hc, t_OB.to (V := updV (vp_V fs) k v) ⟨_, e1, q2, q3, t_set q4 hap hk v⟩ (fun j _ => vp_updV_set hl0 v j)⟩
  have hlocs : ∀ q ∈ locs ++ [⟨a, f.slot⟩], zb (zXg X) ≤ q.base := fun q hq => by
    rcases List.mem_append.mp hq with hq | hq
    · exact a2 q hq
    · rw [List.mem_singleton.mp hq]; exact (a1.2.2.2 a _ hh).1
  rcases hl with hl | ⟨host, hl⟩
  · refine W.putFinK B.1 B.2.1 B.2.2.2.1 (hts _ hl) (hsame _ hi) hst hcf (B.2.2.2.2.2.2.2.2.trans hnm) (by rw [q2]; exact h6) q1 q3 (by rw [hsl]; exact k2_hasslot (q4 k hk)) rfl rfl hd fun H' e1 e2 e3 => ?_
    exact kk H' _ ls cells slots (fin H' e1 e2 e3) hlocs a3 a4 a5
  · exact absurd ⟨rfl, rfl⟩ (hlk _ hl)
theorem aw_iald (B : zB X cc nL own nm ret) {a n : Nat} {f : Nat → Int32} {i : Int32} (hd : decode cc pc = .ok (.iaload, 1)) (hh : h.2 a = some (.inl ((zXg X).2.2.1.1, n, .inl f))) (hin : vp_in i n) (kk : AW X rc rs (pc + 1) lv (.int (f i.toNatClampNeg) :: st) h Ko) : AW X rc rs pc lv (.int i :: .ref a :: st) h Ko := fun H locs ls cells slots a1 a2 a3 a4 a5 =>
  va_iald B.1 B.2.1 B.2.2.2.2.2.1.1 (zP1 a1 hh) 0 0 rfl rfl hin hd (kk H locs ls cells slots a1 a2 a3 a4 a5)
theorem aw_zald (B : zB X cc nL own nm ret) {a n : Nat} {f : Nat → Int32} {i : Int32} (hd : decode cc pc = .ok (.baload, 1)) (hh : h.2 a = some (.inl ((zXg X).2.2.1.2.1, n, .inl f))) (hin : vp_in i n) (kk : AW X rc rs (pc + 1) lv (.int (f i.toNatClampNeg) :: st) h Ko) : AW X rc rs pc lv (.int i :: .ref a :: st) h Ko := fun H locs ls cells slots a1 a2 a3 a4 a5 =>
  va_zald B.1 B.2.1 B.2.2.2.2.2.1.1 (zP1 a1 hh) 0 1 rfl rfl hin hd (kk H locs ls cells slots a1 a2 a3 a4 a5)
theorem aw_aald (B : zB X cc nL own nm ret) {a n : Nat} {f : Nat → Option Nat} {i : Int32} (hd : decode cc pc = .ok (.aaload, 1)) (hh : h.2 a = some (.inl ((zXg X).2.2.1.2.2, n, .inr (.inr (.inr (.inr f)))))) (hin : vp_in i n) (kk : AW X rc rs (pc + 1) lv (va_rf (f i.toNatClampNeg) :: st) h Ko) : AW X rc rs pc lv (.int i :: .ref a :: st) h Ko := fun H locs ls cells slots a1 a2 a3 a4 a5 =>
  va_aldq B.1 B.2.1 B.2.2.2.2.2.1.1 (zP1 a1 hh) 0 2 rfl rfl hin hd (kk H locs ls cells slots a1 a2 a3 a4 a5)
theorem aw_alen (B : zB X cc nL own nm ret) {a : Nat} {x : vp_A} {cA : ClassId} (hd : decode cc pc = .ok (.arraylength, 1)) (hh : h.2 a = some (.inl (cA, x))) (hc : cA = (zXg X).2.2.1.1 ∨ cA = (zXg X).2.2.1.2.1 ∨ cA = (zXg X).2.2.1.2.2) (kk : AW X rc rs (pc + 1) lv (.int (nI x.1) :: st) h Ko) : AW X rc rs pc lv (.ref a :: st) h Ko := by
  intro H locs ls cells slots a1 a2 a3 a4 a5
  rcases hc with rfl | rfl | rfl
  · exact va_alen B.1 B.2.1 B.2.2.2.2.2.1.1 (zP1 a1 hh) 0 0 rfl rfl rfl hd (kk H locs ls cells slots a1 a2 a3 a4 a5)
  · exact va_alen B.1 B.2.1 B.2.2.2.2.2.1.1 (zP1 a1 hh) 0 1 rfl rfl rfl hd (kk H locs ls cells slots a1 a2 a3 a4 a5)
  · exact va_alen B.1 B.2.1 B.2.2.2.2.2.1.1 (zP1 a1 hh) 0 2 rfl rfl rfl hd (kk H locs ls cells slots a1 a2 a3 a4 a5)
theorem zlocs {g : zG} {H : Heap} {a j : Nat} {e : va_E} {locs : List Loc} (a1 : zR g h H) (hh : h.2 a = some e) (a2 : ∀ q ∈ locs, zb g ≤ q.base) : ∀ q ∈ locs ++ [⟨a, j⟩], zb g ≤ q.base := fun q hq => by
  rcases List.mem_append.mp hq with hq | hq
  · exact a2 q hq
  · rw [List.mem_singleton.mp hq]; exact (a1.2.2.2 a _ hh).1
theorem aw_iast (B : zB X cc nL own nm ret) {a n : Nat} {f : Nat → Int32} {i x : Int32} (hd : decode cc pc = .ok (.iastore, 1)) (hh : h.2 a = some (.inl ((zXg X).2.2.1.1, n, .inl f))) (hin : vp_in i n) (kk : AW X rc rs (pc + 1) lv st (hp_up h a (.inl ((zXg X).2.2.1.1, n, .inl (upd f i.toNatClampNeg x)))) Ko) : AW X rc rs pc lv (.int x :: .int i :: .ref a :: st) h Ko := by
  intro H locs ls cells slots a1 a2 a3 a4 a5
  refine W.iast B.1 B.2.1 (a1.2.2.2 a _ hh).2 ((B.2.2.2.2.2.1.1.2 0 _ rfl).1 n (fun j => .int (f j))) (fun q => by cases q) (by show ¬ (i < 0 ∨ (arrV _ _ _).slots.size ≤ _); rw [arrV_size]; exact hin) rfl rfl hd fun H1 e z oq => ?_
  refine kk H1 _ ls cells slots (a1.up hh z oq ?_) (zlocs a1 hh a2) a3 a4 a5
  show H1[a]? = some (vp_cell _ _)
  rw [e]
  rw [vp_cell_i, vp_cell_i, arrV_store]
  congr 2
  funext q
  by_cases hq : q = i.toNatClampNeg
  · subst hq
    simp [updV, upd]
  · simp [updV, upd, hq]
theorem aw_zast (B : zB X cc nL own nm ret) {a n : Nat} {f : Nat → Int32} {i x : Int32} (hd : decode cc pc = .ok (.bastore, 1)) (hh : h.2 a = some (.inl ((zXg X).2.2.1.2.1, n, .inl f))) (hin : vp_in i n) (kk : AW X rc rs (pc + 1) lv st (hp_up h a (.inl ((zXg X).2.2.1.2.1, n, .inl (upd f i.toNatClampNeg (vp_nar .boolean x))))) Ko) : AW X rc rs pc lv (.int x :: .int i :: .ref a :: st) h Ko := by
  intro H locs ls cells slots a1 a2 a3 a4 a5
  refine W.zast B.1 B.2.1 (a1.2.2.2 a _ hh).2 ((B.2.2.2.2.2.1.1.2 1 _ rfl).1 n (fun j => .int (f j))) (fun q => by cases q) (by show ¬ (i < 0 ∨ (arrV _ _ _).slots.size ≤ _); rw [arrV_size]; exact hin) rfl rfl hd fun H1 e z oq => ?_
  refine kk H1 _ ls cells slots (a1.up hh z oq ?_) (zlocs a1 hh a2) a3 a4 a5
  show H1[a]? = some (vp_cell _ _)
  rw [e]
  rw [vp_cell_i, vp_cell_i, arrV_store]
  congr 2
  funext q
  by_cases hq : q = i.toNatClampNeg
  · subst hq
    simp [updV, upd, vp_nar]
    try rfl
  · simp [updV, upd, hq]
theorem aw_aast (B : zB X cc nL own nm ret) {a n v ci : Nat} {vs : List Value} {r : vw_C} {f : Nat → Option Nat} {i : Int32} (hd : decode cc pc = .ok (.aastore, 1)) (hh : h.2 a = some (.inl ((zXg X).2.2.1.2.2, n, .inr (.inr (.inr (.inr f)))))) (hin : vp_in i n) (hv : h.2 v = some (.inr (ci, vs))) (hc : vwCl[ci]? = some r) (hcast : ∃ cC comp : ClassId, X.2.1.1.vm.findClass r.1 = some cC ∧ X.2.1.1.vm.findClass "LowWater$Reader" = some comp ∧ X.2.1.1.vm.assignable cC comp = true) (kk : AW X rc rs (pc + 1) lv st (hp_up h a (.inl ((zXg X).2.2.1.2.2, n, .inr (.inr (.inr (.inr (va_up f i.toNatClampNeg (some v)))))))) Ko) : AW X rc rs pc lv (.ref v :: .int i :: .ref a :: st) h Ko := by
  intro H locs ls cells slots a1 a2 a3 a4 a5
  have hlt : i.toNatClampNeg < n := Nat.not_le.mp fun q => hin (Or.inr q)
  have h0 : ¬ i < 0 := fun q => hin (Or.inl q)
  have hK := B.2.2.2.2.2.1.1
  obtain ⟨r', hr', cellV, g1, g2, g3, -⟩ := (a1.2.2.2 v _ hv).2
  have hcls := (hK.1 ci r hc).2
  obtain ⟨kA, comp, k1, k2, k3, -⟩ := (hK.2 2 _ rfl).2
  obtain ⟨cC, comp', f1, f2, f3⟩ := hcast
  have hcomp : comp' = comp := Option.some.inj (f2.symm.trans k3)
  subst hcomp
  have hcc : cC = (zXg X).1.1 ci := Option.some.inj (f1.symm.trans hcls.1)
  subst hcc
  obtain ⟨kC, hkC, -⟩ := hcls.2
  obtain ⟨kR, hkR, -⟩ := (hK.1 6 (RX6, TX6, 2) rfl).2.2
  have hR6 : (zXg X).1.1 6 = comp' := Option.some.inj ((hK.1 6 (RX6, TX6, 2) rfl).2.1.symm.trans k3)
  rw [hR6] at hkR
  refine W.aast B.1 B.2.1 (a1.2.2.2 a _ hh).2 (fun q h => by cases h) (fun h => by cases h) k1 k2 rfl hkR ⟨h0, by show _ < (arrV _ _ _).slots.size; rw [arrV_size]; exact hlt⟩ g1 (fun q h => by rw [g3] at h; cases h) (by rw [g2]; exact hkC) (by rw [g2]; exact f3) rfl rfl hd fun H1 e z oq => ?_
  refine kk H1 _ ls cells slots (a1.up hh z oq ?_) (zlocs a1 hh a2) a3 a4 a5
  show H1[a]? = some (vp_cell _ _)
  rw [e]
  rw [vp_cell_q, vp_cell_q, arrV_store]
  congr 2
  funext q
  by_cases hq : q = i.toNatClampNeg
  · subst hq
    simp [updV, va_up, va_rf]
  · simp [updV, va_up, hq]
theorem aw_newi (B : zB X cc nL own nm ret) (N : Nat) {n : Int32} (rc' rs' : Nat) (hd : decode cc pc = .ok (.newarray .int, 2)) (harr : Cond.arrayClass .int ∈ zT) (hn : ¬ n < 0) (hN : n.toNatClampNeg = N) (hb : N * 4 ≤ 536870912) (hc : rc' + 1 ≤ rc) (hs : rs' + N ≤ rs) (kk : AW X rc' rs' (pc + 2) lv (.ref h.1 :: st) (hp_new h (.inl ((zXg X).2.2.1.1, N, .inl (fun _ => 0)))) Ko) : AW X rc rs pc lv (.int n :: st) h Ko := by
  intro H locs ls cells slots a1 a2 a3 a4 a5
  refine va_newaK (atype := .int) B.1 B.2.1 (B.2.2.2.2.1 _ harr) rfl hd rfl hn hN hb (by omega) (by omega) a1.1 fun H1 cA e1 z1 o1 hAr hNm => ?_
  have hcA : cA = (zXg X).2.2.1.1 := Option.some.inj (hNm.symm.trans (B.2.2.2.2.2.1.1.2 0 _ rfl).2)
  subst hcA
  exact kk H1 locs ls (cells + 1) (slots + N) (a1.new (by rw [z1, a1.1]) (fun q hq => o1 q (by rw [← a1.1]; exact hq)) e1) a2 a3 (by omega) (by omega)
theorem aw_newz (B : zB X cc nL own nm ret) (N : Nat) {n : Int32} (rc' rs' : Nat) (hd : decode cc pc = .ok (.newarray .boolean, 2)) (harr : Cond.arrayClass .boolean ∈ zT) (hn : ¬ n < 0) (hN : n.toNatClampNeg = N) (hb : N * 1 ≤ 536870912) (hc : rc' + 1 ≤ rc) (hs : rs' + N ≤ rs) (kk : AW X rc' rs' (pc + 2) lv (.ref h.1 :: st) (hp_new h (.inl ((zXg X).2.2.1.2.1, N, .inl (fun _ => 0)))) Ko) : AW X rc rs pc lv (.int n :: st) h Ko := by
  intro H locs ls cells slots a1 a2 a3 a4 a5
  refine va_newaK (atype := .boolean) B.1 B.2.1 (B.2.2.2.2.1 _ harr) rfl hd rfl hn hN hb (by omega) (by omega) a1.1 fun H1 cA e1 z1 o1 hAr hNm => ?_
  have hcA : cA = (zXg X).2.2.1.2.1 := Option.some.inj (hNm.symm.trans (B.2.2.2.2.2.1.1.2 1 _ rfl).2)
  subst hcA
  exact kk H1 locs ls (cells + 1) (slots + N) (a1.new (by rw [z1, a1.1]) (fun q hq => o1 q (by rw [← a1.1]; exact hq)) e1) a2 a3 (by omega) (by omega)
theorem aw_newr (B : zB X cc nL own nm ret) (N : Nat) {n : Int32} {idx : Nat} (rc' rs' : Nat) (hd : decode cc pc = .ok (.anewarray idx, 3)) (hcl : Cond.classLink own idx "LowWater$Reader" ∈ zT) (hn : ¬ n < 0) (hN : n.toNatClampNeg = N) (hb : N * 4 ≤ 536870912) (hc : rc' + 1 ≤ rc) (hs : rs' + N ≤ rs) (kk : AW X rc' rs' (pc + 3) lv (.ref h.1 :: st) (hp_new h (.inl ((zXg X).2.2.1.2.2, N, .inr (.inr (.inr (.inr (fun _ => none))))))) Ko) : AW X rc rs pc lv (.int n :: st) h Ko := by
  intro H locs ls cells slots a1 a2 a3 a4 a5
  subst hN
  refine W.anew B.1 B.2.1 B.2.2.2.1 (B.2.2.2.2.1 _ hcl) (va_AO.use B.2.2.2.2.2.1.2.2.2) rfl hd rfl hn hb (by omega) (by omega) fun cA kA comp f1 f2 f3 f4 => ?_
  obtain ⟨kA', comp', g1, g2, g3, g4⟩ := (B.2.2.2.2.2.1.1.2 2 _ rfl).2
  have hcA : cA = (zXg X).2.2.1.2.2 := Option.some.inj (f1.symm.trans g4)
  subst hcA
  rw [a1.1]
  refine kk _ locs ls (cells + 1) (slots + n.toNatClampNeg) (a1.new ?_ ?_ ?_) a2 a3 (by omega) (by omega)
  · simp
  · intro q hq
    rw [Array.getElem?_push, if_neg (Nat.ne_of_lt hq)]
  · show _ = some (vp_cell _ _)
    rw [vp_cell_q, ← a1.1, Array.getElem?_push_size, ← arrV_new]
    rfl
/-- a row of the pool that names a class of ours, for 'new' -/
def zNW (own : String) (idx ci N : Nat) (fs : List Value) : Prop :=
  ∃ (C : String) (T : u_T) (ty0 : Nat → FieldType), vwCl[ci]? = some (C, T, N) ∧ (∀ w ∈ u_ws C T N, w ∈ zT) ∧ (∀ k, k < N → parseFieldDescriptor (T k).2.2.1 = some (ty0 k)) ∧ Cond.classLink own idx C ∈ zT ∧ Cond.instantiable C N ∈ zT ∧ Cond.initialized C ∈ zT ∧ ∀ j, j < N → defaultValue (ty0 j) = vp_V fs j
theorem aw_new (B : zB X cc nL own nm ret) {idx ci N : Nat} {fs : List Value} (rc' rs' : Nat) (F : zNW own idx ci N fs) (hd : decode cc pc = .ok (.new idx, 3)) (hc : rc' + 1 ≤ rc) (hs : rs' + N ≤ rs) (kk : AW X rc' rs' (pc + 3) lv (.ref h.1 :: st) (hp_new h (.inr (ci, fs))) Ko) : AW X rc rs pc lv st h Ko := by
  intro H locs ls cells slots a1 a2 a3 a4 a5
  obtain ⟨C, T, ty0, hcl, hin, hty, w1, w2, w3, hfs⟩ := F
  have hts := B.2.2.2.2.1
  have hKn := B.2.2.2.2.2.1.1.1 ci _ hcl
  refine W.newcK B.1 B.2.1 B.2.2.2.1 (hts _ w1) (hts _ w2) (hts _ w3) rfl hd (by omega) (by omega) hKn.2.1 a1.1 fun H1 kC hkC e1 z1 o1 => ?_
  refine kk H1 locs ls (cells + 1) (slots + N) (a1.new (by rw [z1, a1.1]) (fun q hq => o1 q (by rw [← a1.1]; exact hq)) ?_) a2 a3 (by omega) (by omega)
  exact ⟨_, hcl, (u_born ty0 hts hin hKn hkC e1 hty).to hfs⟩
end ZHEAP
end
section
section ZCALLS
variable {X : zX} {cc : ByteArray} {nL : Nat} {own nm : String} {ret : Option FieldType} {rc rs pc : Nat} {lv : List (Option Value)} {st : List Value} {h : Hp} {Ko : Option Value → Hp → Prop}
theorem zGood {ws : List Cond} (h : ∀ w ∈ ws, w ∈ zT) : GoodIn zT ws := fun w hw => ⟨h w hw, zT_good (h w hw)⟩
/-- what a callee asks of the tables -/
def zCo (y : MethodName) (cc : ByteArray) (maxL : Nat) (ret : Option FieldType) (n : Nat) : Prop := Cond.code y cc maxL ret ∈ zT ∧ Cond.initialized y.cls ∈ zT ∧ y.cls ≠ "java/lang/invoke/MethodHandle" ∧ y.cls ≠ "java/lang/invoke/VarHandle" ∧ (parseMethodDescriptor y.desc).map (fun d => d.parameters.length) = some n
theorem zCo.good {y : MethodName} {cc : ByteArray} {maxL n : Nat} {ret : Option FieldType} (F : zCo y cc maxL ret n) : GoodIn zT (Cond.code y cc maxL ret :: zT) := zGood fun w hw => (List.mem_cons.mp hw).elim (fun e => e ▸ F.1) id
/-- behind a call -/
theorem aw_run {mc ms : Nat} {rest : List Value} {Ko' : Option Value → Hp → Prop} (al : Array Value) (rc' rs' : Nat) (hc : rc' + mc ≤ rc) (hs : rs' + ms ≤ rs)
    (hr : ∀ (H : Heap) (locs : List Loc) (ls : Array Slot) (cells slots : Nat), zR (zXg X) h H → ls.size = X.2.2.1.2.2.maxLocals → cells + mc ≤ X.2.2.2.2.cells → slots + ms ≤ X.2.2.2.2.slots → va_Run X.1.1 X.1.2.1 X.1.2.2 X.2.2.2.2 X.2.1.1 X.2.1.2.1 X.2.1.2.2 X.2.2.1.1 X.2.2.1.2.1 X.2.2.1.2.2 H locs cells slots mc ms (F0 X.2.1.2.1 pc ls st) rest (zQ (zXg X) Ko' al) (fun q => zb (zXg X) ≤ q))
    (kk : ∀ v h', Ko' v h' → AW X rc' rs' (pc + 3) lv (v.toList ++ rest) h' Ko) : AW X rc rs pc lv st h Ko := by
  intro H locs ls cells slots a1 a2 a3 a4 a5
  intro T hT Xs
  obtain ⟨v, st₀, t, T', L, h0, X', hL, e1, e2, ⟨v', h', ho, hk, hR⟩, stp⟩ := hr H locs ls cells slots a1 a3.size (by omega) (by omega) T hT Xs
  cases ho
  obtain ⟨t2, b1, b2⟩ := kk v h' hk T'.heap (locs ++ L) ls (cells + mc) (slots + ms) (by rw [e1]; exact hR) (fun q hq => (List.mem_append.mp hq).elim (a2 q) (hL q)) a3 (by omega) (by omega) T' rfl X'
  exact ⟨t2, stp t2 b1, b2⟩
def zRoom (rm R : Room) (maxL : Nat) : Prop := rm.frames + 1 ≤ R.frames ∧ 8 + (maxL + 11) + rm.locals ≤ R.locals
theorem zrecv {H : Heap} {b ci : Nat} {fs : List Value} {r : vw_C} (B : zB X cc nL own nm ret) (a1 : zR (zXg X) h H) (hh : h.2 b = some (.inr (ci, fs))) (hc : vwCl[ci]? = some r) : ∃ cell : Cell, H[b]? = some cell ∧ cell.vm.isStatics = false ∧ X.2.1.1.vm.findClass r.1 = some cell.cls := va_recv B.2.2.2.2.2.1.1 (zP1 a1 hh) hc (q0 := 0) rfl
theorem zpc {H : Heap} {av : List Value} (B : zB X cc nL own nm ret) (a1 : zR (zXg X) h H) : ∀ U : State, U.heap = H → X.2.1.1.WarmedH U.vm → va_Pc av (fun U => zR (zXg X) h U.heap ∧ zK (zXg X) U) av.toArray U := fun U hU hW => ⟨rfl, by rw [hU]; exact a1, B.2.2.2.2.2.1.warm hW⟩
theorem zcb {y : MethodName} {cc' : ByteArray} {maxL n idx : Nat} {ret' : Option FieldType} {rm : Room} (B : zB X cc nL own nm ret) (F : zCo y cc' maxL ret' n) (hl : Cond.methodLink own idx y ∈ zT) (hR : zRoom rm X.2.2.2.2 maxL) : CallB X.2.2.2.2 X.2.1.1 X.2.1.2.2 own idx y cc' maxL ret' (Cond.code y cc' maxL ret' :: zT) rm rm.cells rm.slots n :=
  callB_of n B.2.2.2.2.1 F.good rfl rfl rfl (B.2.2.2.2.1 _ F.2.1) (B.2.2.2.2.1 _ hl) ⟨F.2.2.1, F.2.2.2.1, F.2.2.2.2⟩ hR
/-- invokevirtual, the receiver's class is the method's own -/
theorem aw_callV {idx n maxL ci : Nat} {b : Nat} {As rest fs : List Value} {y : MethodName} {cc' : ByteArray} {ret' : Option FieldType} {rm : Room} {Ko' : Option Value → Hp → Prop} {r : vw_C} (B : zB X cc nL own nm ret) (rc' rs' : Nat) (S : Sp X.1.2.1 (zXg X) y cc' maxL ret' rm (.ref b :: As) h Ko') (F : zCo y cc' maxL ret' n) (Lk : Cond.methodLink own idx y ∈ zT ∧ Cond.instanceMethod y ∈ zT ∧ Cond.selects y.cls y y ∈ zT) (hd : decode cc pc = .ok (.invokevirtual idx, 3)) (hh : h.2 b = some (.inr (ci, fs))) (hcl : vwCl[ci]? = some r) (hcn : r.1 = y.cls) (hst : st = As.reverse ++ .ref b :: rest) (hn : As.length = n) (hw : (rest.map fun v => v.category).sum ≤ 8) (hR : zRoom rm X.2.2.2.2 maxL) (hc : rc' + rm.cells ≤ rc) (hs : rs' + rm.slots ≤ rs)
    (kk : ∀ v h', Ko' v h' → AW X rc' rs' (pc + 3) lv (v.toList ++ rest) h' Ko) : AW X rc rs pc lv st h Ko := by
  refine aw_run (Value.ref b :: As).toArray rc' rs' hc hs (fun H locs ls cells slots a1 a3 a4 a5 => ?_) kk
  refine va_runV ⟨B.1, B.2.1, B.2.2.1, B.2.2.2.1, B.2.2.2.2.1⟩ S ⟨zcb B F Lk.1 hR, B.2.2.2.2.1 _ Lk.2.1, B.2.2.2.2.1 _ Lk.2.2⟩ ⟨zPc_blind, ?_, zpc B a1⟩ rfl hn (a3.trans B.2.2.1) hst (lv_room hw) hd ⟨a4, a5⟩
  obtain ⟨cell, g1, g2, g3⟩ := zrecv B a1 hh hcl
  exact ⟨cell, g1, g2, by rw [← hcn]; exact g3⟩
/-- invokestatic -/
theorem aw_callS {idx n maxL : Nat} {As rest : List Value} {y : MethodName} {cc' : ByteArray} {ret' : Option FieldType} {rm : Room} {Ko' : Option Value → Hp → Prop} (B : zB X cc nL own nm ret) (rc' rs' : Nat) (S : Sp X.1.2.1 (zXg X) y cc' maxL ret' rm As h Ko') (F : zCo y cc' maxL ret' n) (Lk : Cond.methodLink own idx y ∈ zT ∧ Cond.static y ∈ zT) (hd : decode cc pc = .ok (.invokestatic idx, 3)) (hst : st = As.reverse ++ rest) (hn : As.length = n) (hw : (rest.map fun v => v.category).sum ≤ 8) (hR : zRoom rm X.2.2.2.2 maxL) (hc : rc' + rm.cells ≤ rc) (hs : rs' + rm.slots ≤ rs)
    (kk : ∀ v h', Ko' v h' → AW X rc' rs' (pc + 3) lv (v.toList ++ rest) h' Ko) : AW X rc rs pc lv st h Ko := by
  refine aw_run As.toArray rc' rs' hc hs (fun H locs ls cells slots a1 a3 a4 a5 => ?_) kk
  exact va_runS ⟨B.1, B.2.1, B.2.2.1, B.2.2.2.1, B.2.2.2.2.1⟩ S ⟨zcb B F Lk.1 hR, B.2.2.2.2.1 _ Lk.2⟩ ⟨zPc_blind, zpc B a1⟩ rfl hn (a3.trans B.2.2.1) hst (lv_room hw) hd ⟨a4, a5⟩
/-- invokespecial of a constructor -/
theorem aw_callI {idx n maxL : Nat} {b : Nat} {As rest : List Value} {y : MethodName} {cc' : ByteArray} {rm : Room} {Ko' : Option Value → Hp → Prop} (B : zB X cc nL own nm ret) (rc' rs' : Nat) (S : Sp X.1.2.1 (zXg X) y cc' maxL none rm (.ref b :: As) h Ko') (F : zCo y cc' maxL none n) (hy : y.name = "<init>") (Lk : Cond.methodLink own idx y ∈ zT ∧ Cond.instanceMethod y ∈ zT) (hd : decode cc pc = .ok (.invokespecial idx, 3)) (hst : st = As.reverse ++ .ref b :: rest) (hn : As.length = n) (hw : (rest.map fun v => v.category).sum ≤ 8) (hR : zRoom rm X.2.2.2.2 maxL) (hc : rc' + rm.cells ≤ rc) (hs : rs' + rm.slots ≤ rs)
    (kk : ∀ v h', Ko' v h' → AW X rc' rs' (pc + 3) lv (v.toList ++ rest) h' Ko) : AW X rc rs pc lv st h Ko := by
  refine aw_run (Value.ref b :: As).toArray rc' rs' hc hs (fun H locs ls cells slots a1 a3 a4 a5 => ?_) kk
  exact va_runI ⟨B.1, B.2.1, B.2.2.1, B.2.2.2.1, B.2.2.2.2.1⟩ S ⟨zcb B F Lk.1 hR, hy, B.2.2.2.2.1 _ Lk.2⟩ ⟨zPc_blind, zpc B a1⟩ rfl hn (a3.trans B.2.2.1) hst (lv_room hw) hd ⟨a4, a5⟩
theorem zcn {y : MethodName} {cc' : ByteArray} {maxL n idx : Nat} {host : String} {ret' : Option FieldType} {rm : Room} (B : zB X cc nL own nm ret) (F : zCo y cc' maxL ret' n) (hl : (own, idx, y, host) ∈ zNM) (hR : zRoom rm X.2.2.2.2 maxL) : va_CN X.2.2.2.2 X.2.1.1 X.2.1.2.2 own idx y host cc' maxL ret' (Cond.code y cc' maxL ret' :: zT) rm rm.cells rm.slots n :=
  va_cnB n B.2.2.2.2.1 F.good rfl rfl rfl (B.2.2.2.2.2.1.2.1.2 _ hl) (B.2.2.2.2.1 _ F.2.1) ⟨F.2.2.1, F.2.2.2.1, F.2.2.2.2⟩ hR
/-- the private constructor of a nest mate -/
theorem aw_callIN {idx n maxL : Nat} {host : String} {b : Nat} {As rest : List Value} {y : MethodName} {cc' : ByteArray} {rm : Room} {Ko' : Option Value → Hp → Prop} (B : zB X cc nL own nm ret) (rc' rs' : Nat) (S : Sp X.1.2.1 (zXg X) y cc' maxL none rm (.ref b :: As) h Ko') (F : zCo y cc' maxL none n) (hy : y.name = "<init>") (Lk : (own, idx, y, host) ∈ zNM ∧ Cond.instanceMethod y ∈ zT) (hd : decode cc pc = .ok (.invokespecial idx, 3)) (hst : st = As.reverse ++ .ref b :: rest) (hn : As.length = n) (hw : (rest.map fun v => v.category).sum ≤ 8) (hR : zRoom rm X.2.2.2.2 maxL) (hc : rc' + rm.cells ≤ rc) (hs : rs' + rm.slots ≤ rs)
    (kk : ∀ v h', Ko' v h' → AW X rc' rs' (pc + 3) lv (v.toList ++ rest) h' Ko) : AW X rc rs pc lv st h Ko := by
  refine aw_run (Value.ref b :: As).toArray rc' rs' hc hs (fun H locs ls cells slots a1 a3 a4 a5 => ?_) kk
  exact va_runIN ⟨B.1, B.2.1, B.2.2.1, B.2.2.2.1, B.2.2.2.2.1⟩ S ⟨zcn B F Lk.1 hR, hy, B.2.2.2.2.1 _ Lk.2⟩ ⟨zPc_blind, zpc B a1⟩ rfl hn (a3.trans B.2.2.1) hst (lv_room hw) hd ⟨a4, a5⟩
/-- a private method of a nest mate -/
theorem aw_callVN {idx n maxL ci : Nat} {host : String} {b : Nat} {As rest fs : List Value} {y : MethodName} {cc' : ByteArray} {ret' : Option FieldType} {rm : Room} {Ko' : Option Value → Hp → Prop} {r : vw_C} (B : zB X cc nL own nm ret) (rc' rs' : Nat) (S : Sp X.1.2.1 (zXg X) y cc' maxL ret' rm (.ref b :: As) h Ko') (F : zCo y cc' maxL ret' n) (Lk : (own, idx, y, host) ∈ zNM ∧ Cond.instanceMethod y ∈ zT ∧ Cond.selects y.cls y y ∈ zT) (hd : decode cc pc = .ok (.invokevirtual idx, 3)) (hh : h.2 b = some (.inr (ci, fs))) (hcl : vwCl[ci]? = some r) (hcn : r.1 = y.cls) (hst : st = As.reverse ++ .ref b :: rest) (hn : As.length = n) (hw : (rest.map fun v => v.category).sum ≤ 8) (hR : zRoom rm X.2.2.2.2 maxL) (hc : rc' + rm.cells ≤ rc) (hs : rs' + rm.slots ≤ rs)
    (kk : ∀ v h', Ko' v h' → AW X rc' rs' (pc + 3) lv (v.toList ++ rest) h' Ko) : AW X rc rs pc lv st h Ko := by
  refine aw_run (Value.ref b :: As).toArray rc' rs' hc hs (fun H locs ls cells slots a1 a3 a4 a5 => ?_) kk
  refine va_runVN ⟨B.1, B.2.1, B.2.2.1, B.2.2.2.1, B.2.2.2.2.1⟩ S ⟨zcn B F Lk.1 hR, B.2.2.2.2.1 _ Lk.2.1, B.2.2.2.2.1 _ Lk.2.2⟩ ⟨zPc_blind, ?_, zpc B a1⟩ rfl hn (a3.trans B.2.2.1) hst (lv_room hw) hd ⟨a4, a5⟩
  obtain ⟨cell, g1, g2, g3⟩ := zrecv B a1 hh hcl
  exact ⟨cell, g1, g2, by rw [← hcn]; exact g3⟩
/-- invokevirtual of x on a receiver of class C, where y's body is run -/
theorem aw_callU {idx n maxL ci m0 : Nat} {C owner : String} {b : Nat} {As rest fs : List Value} {x y : MethodName} {cc' b0 : ByteArray} {ret' r0 : Option FieldType} {rm : Room} {Ko' : Option Value → Hp → Prop} {r : vw_C} (B : zB X cc nL own nm ret) (rc' rs' : Nat) (S : Sp X.1.2.1 (zXg X) y cc' maxL ret' rm (.ref b :: As) h Ko') (F : zCo y cc' maxL ret' n)
    (Lk : Cond.methodLink own idx x ∈ zT ∧ Cond.sameMethod x.cls owner x.name x.desc ∈ zT ∧ Cond.instanceMethod ⟨owner, x.name, x.desc⟩ ∈ zT ∧ Cond.code ⟨owner, x.name, x.desc⟩ b0 m0 r0 ∈ zT ∧ Cond.selects C x y ∈ zT ∧ Cond.instanceMethod y ∈ zT ∧ owner ≠ "java/lang/invoke/MethodHandle" ∧ owner ≠ "java/lang/invoke/VarHandle" ∧ (parseMethodDescriptor x.desc).map (fun d => d.parameters.length) = some n) (hd : decode cc pc = .ok (.invokevirtual idx, 3)) (hh : h.2 b = some (.inr (ci, fs))) (hcl : vwCl[ci]? = some r) (hcn : r.1 = C) (hst : st = As.reverse ++ .ref b :: rest) (hn : As.length = n) (hw : (rest.map fun v => v.category).sum ≤ 8) (hR : zRoom rm X.2.2.2.2 maxL) (hc : rc' + rm.cells ≤ rc) (hs : rs' + rm.slots ≤ rs)
    (kk : ∀ v h', Ko' v h' → AW X rc' rs' (pc + 3) lv (v.toList ++ rest) h' Ko) : AW X rc rs pc lv st h Ko := by
  refine aw_run (Value.ref b :: As).toArray rc' rs' hc hs (fun H locs ls cells slots a1 a3 a4 a5 => ?_) kk
  obtain ⟨l1, l2, l3, l4, l5, l6, l7, l8, l9⟩ := Lk
  have hts := B.2.2.2.2.1
  refine va_runU (owner := owner) (x := x) ⟨B.1, B.2.1, B.2.2.1, B.2.2.2.1, B.2.2.2.2.1⟩ S ⟨⟨rfl, rfl, hR.1, hR.2, pay_in hts F.good, List.mem_cons_self⟩, hts _ F.1, hts _ F.2.1, ⟨l7, l8⟩, fun sig h2 => ?_, hts _ l1, hts _ l2, va_Decl.of (hts _ l3) (hts _ l4), hts _ l5, hts _ l6⟩ ⟨zPc_blind, ?_, zpc B a1⟩ rfl hn (a3.trans B.2.2.1) hst (lv_room hw) hd ⟨a4, a5⟩
  · rw [h2] at l9
    exact (Option.some.inj l9).symm
  · obtain ⟨cell, g1, g2, g3⟩ := zrecv B a1 hh hcl
    exact ⟨cell, g1, g2, by rw [← hcn]; exact g3⟩
/-- super.m(..) -/
theorem aw_callSU {idx n maxL ci : Nat} {b : Nat} {As rest fs : List Value} {y : MethodName} {cc' : ByteArray} {ret' : Option FieldType} {rm : Room} {Ko' : Option Value → Hp → Prop} {r : vw_C} (B : zB X cc nL own nm ret) (rc' rs' : Nat) (S : Sp X.1.2.1 (zXg X) y cc' maxL ret' rm (.ref b :: As) h Ko') (F : zCo y cc' maxL ret' n) (Lk : Cond.methodLink own idx y ∈ zT ∧ Cond.sameMethod y.cls y.cls y.name y.desc ∈ zT ∧ Cond.superclass own y.cls ∈ zT ∧ Cond.instanceMethod y ∈ zT ∧ y.name ≠ "<init>") (hd : decode cc pc = .ok (.invokespecial idx, 3)) (hh : h.2 b = some (.inr (ci, fs))) (hcl : vwCl[ci]? = some r) (hst : st = As.reverse ++ .ref b :: rest) (hn : As.length = n) (hw : (rest.map fun v => v.category).sum ≤ 8) (hR : zRoom rm X.2.2.2.2 maxL) (hc : rc' + rm.cells ≤ rc) (hs : rs' + rm.slots ≤ rs)
    (kk : ∀ v h', Ko' v h' → AW X rc' rs' (pc + 3) lv (v.toList ++ rest) h' Ko) : AW X rc rs pc lv st h Ko := by
  refine aw_run (Value.ref b :: As).toArray rc' rs' hc hs (fun H locs ls cells slots a1 a3 a4 a5 => ?_) kk
  obtain ⟨l1, l2, l3, l4, l5⟩ := Lk
  have hts := B.2.2.2.2.1
  refine va_runSU (C := r.1) (B.2.2.2.2.2.1.1.1 ci r hcl).2 ⟨B.1, B.2.1, B.2.2.1, B.2.2.2.1, B.2.2.2.2.1⟩ S ⟨⟨rfl, rfl, hR.1, hR.2, pay_in hts F.good, List.mem_cons_self⟩, hts _ l1, hts _ l2, hts _ l3, hts _ l4, hts _ F.2.1, hts _ F.1, l5, fun sig h2 => ?_⟩ ⟨zPc_blind, zrecv B a1 hh hcl, zpc B a1⟩ rfl hn (a3.trans B.2.2.1) hst (lv_room hw) hd ⟨a4, a5⟩
  have l9 := F.2.2.2.2
  rw [h2] at l9
  exact (Option.some.inj l9).symm
/-- Object.<init> -/
theorem aw_objInit (B : zB X cc nL own nm ret) {idx a : Nat} (Lk : Cond.methodLink own idx objectInit ∈ zT ∧ Cond.instanceMethod objectInit ∈ zT ∧ Cond.code objectInit ⟨#[0xb1]⟩ 1 none ∈ zT) (hd : decode cc pc = .ok (.invokespecial idx, 3)) (hw : (st.map fun v => v.category).sum ≤ 8) (hR : 1 ≤ X.2.2.2.2.frames ∧ 20 ≤ X.2.2.2.2.locals) (kk : AW X rc rs (pc + 3) lv st h Ko) : AW X rc rs pc lv (.ref a :: st) h Ko := by
  intro H locs ls cells slots a1 a2 a3 a4 a5
  have hts := B.2.2.2.2.1
  have := hR.2
  refine W.objInit B.1 B.2.1 B.2.2.2.1 (hts _ Lk.1) (hts _ Lk.2.1) (hts _ Lk.2.2) rfl (by exact a3.size) rfl hd hR.1 ?_ (kk H locs ls cells slots a1 a2 a3 a4 a5)
  have := lv_room (pc := pc) (ls := ls) (rest := .ref a :: st) (m := X.2.1.2.1) hw
  omega
def zMa (own : String) (idx : Nat) (y : MethodName) (cc : ByteArray) (n : Nat) : Prop := Cond.methodLink own idx y ∈ zT ∧ Cond.static y ∈ zT ∧ Cond.initialized "java/lang/Math" ∈ zT ∧ Cond.code y cc n (some .int) ∈ zT
theorem aw_mmax (B : zB X cc nL own nm ret) {idx : Nat} {x y : Int32} (F : zMa own idx Lib.Math.max.name Lib.Math.max.code 2) (hd : decode cc pc = .ok (.invokestatic idx, 3)) (hw : (st.map fun v => v.category).sum ≤ 8) (hR : 1 ≤ X.2.2.2.2.frames ∧ 21 ≤ X.2.2.2.2.locals) (kk : AW X rc rs (pc + 3) lv (.int (if x < y then y else x) :: st) h Ko) : AW X rc rs pc lv (.int y :: .int x :: st) h Ko := fun H locs ls cells slots a1 a2 a3 a4 a5 =>
  va_mmax B.1 B.2.1 a3.size.symm B.2.2.2.1 (B.2.2.2.2.1 _ F.1) (B.2.2.2.2.1 _ F.2.1) (B.2.2.2.2.1 _ F.2.2.1) (B.2.2.2.2.1 _ F.2.2.2) hR.1 (by have := hR.2; omega) (by omega) (by omega) hd (kk H locs ls cells slots a1 a2 a3 a4 a5)
theorem aw_mmin (B : zB X cc nL own nm ret) {idx : Nat} {x y : Int32} (F : zMa own idx Lib.Math.min.name Lib.Math.min.code 2) (hd : decode cc pc = .ok (.invokestatic idx, 3)) (hw : (st.map fun v => v.category).sum ≤ 8) (hR : 1 ≤ X.2.2.2.2.frames ∧ 21 ≤ X.2.2.2.2.locals) (kk : AW X rc rs (pc + 3) lv (.int (if y < x then y else x) :: st) h Ko) : AW X rc rs pc lv (.int y :: .int x :: st) h Ko := fun H locs ls cells slots a1 a2 a3 a4 a5 =>
  va_mmin B.1 B.2.1 a3.size.symm B.2.2.2.1 (B.2.2.2.2.1 _ F.1) (B.2.2.2.2.1 _ F.2.1) (B.2.2.2.2.1 _ F.2.2.1) (B.2.2.2.2.1 _ F.2.2.2) hR.1 (by have := hR.2; omega) (by omega) (by omega) hd (kk H locs ls cells slots a1 a2 a3 a4 a5)
theorem aw_mabs (B : zB X cc nL own nm ret) {idx : Nat} {x : Int32} (F : zMa own idx Lib.Math.abs.name Lib.Math.abs.code 1) (hd : decode cc pc = .ok (.invokestatic idx, 3)) (hw : (st.map fun v => v.category).sum ≤ 8) (hR : 1 ≤ X.2.2.2.2.frames ∧ 21 ≤ X.2.2.2.2.locals) (kk : AW X rc rs (pc + 3) lv (.int (if 0 ≤ x then x else 0 - x) :: st) h Ko) : AW X rc rs pc lv (.int x :: st) h Ko := fun H locs ls cells slots a1 a2 a3 a4 a5 =>
  va_mabs B.1 B.2.1 a3.size.symm B.2.2.2.1 (B.2.2.2.2.1 _ F.1) (B.2.2.2.2.1 _ F.2.1) (B.2.2.2.2.1 _ F.2.2.1) (B.2.2.2.2.1 _ F.2.2.2) hR.1 (by have := hR.2; omega) (by omega) (by omega) hd (kk H locs ls cells slots a1 a2 a3 a4 a5)
/-- answers -/
def zI (P : Int32 → Hp → Prop) : Option Value → Hp → Prop := fun v h' => ∃ r : Int32, v = some (.int r) ∧ P r h'
def zJ (P : Int64 → Hp → Prop) : Option Value → Hp → Prop := fun v h' => ∃ r : Int64, v = some (.long r) ∧ P r h'
def zV (P : Hp → Prop) : Option Value → Hp → Prop := fun v h' => v = none ∧ P h'
def zO (P : Option Nat → Hp → Prop) : Option Value → Hp → Prop := fun v h' => ∃ r : Option Nat, v = some (va_rf r) ∧ P r h'
theorem kI {P : Int32 → Hp → Prop} {rest : List Value} (k : ∀ r h', P r h' → AW X rc rs pc lv (.int r :: rest) h' Ko) : ∀ v h', zI P v h' → AW X rc rs pc lv (v.toList ++ rest) h' Ko := fun _ h' ⟨r, e, hp⟩ => by subst e; exact k r h' hp
theorem kJ {P : Int64 → Hp → Prop} {rest : List Value} (k : ∀ r h', P r h' → AW X rc rs pc lv (.long r :: rest) h' Ko) : ∀ v h', zJ P v h' → AW X rc rs pc lv (v.toList ++ rest) h' Ko := fun _ h' ⟨r, e, hp⟩ => by subst e; exact k r h' hp
theorem kV {P : Hp → Prop} {rest : List Value} (k : ∀ h', P h' → AW X rc rs pc lv rest h' Ko) : ∀ v h', zV P v h' → AW X rc rs pc lv (v.toList ++ rest) h' Ko := fun _ h' ⟨e, hp⟩ => by subst e; exact k h' hp
theorem kO {P : Option Nat → Hp → Prop} {rest : List Value} (k : ∀ r h', P r h' → AW X rc rs pc lv (va_rf r :: rest) h' Ko) : ∀ v h', zO P v h' → AW X rc rs pc lv (v.toList ++ rest) h' Ko := fun _ h' ⟨r, e, hp⟩ => by subst e; exact k r h' hp
end ZCALLS
end
section
theorem zT_l {ws : List Cond} (ps : List Nat) (hp : ws = ps.filterMap (fun i => tables_1[i]?)) (h : ws.all goodWord = true) : ∀ w ∈ ws, w ∈ zT := by
  intro w hw
  have h1 := List.all_eq_true.mp h w hw
  rw [hp] at hw
  obtain ⟨i, -, hi⟩ := List.mem_filterMap.mp hw
  exact zT_t hi h1
theorem in_X0 : ∀ w ∈ u_ws RX0 TX0 2, w ∈ zT := zT_l [401, 402] (by decide +kernel) (by decide +kernel)
theorem in_X1 : ∀ w ∈ u_ws RX1 TX1 6, w ∈ zT := zT_l [48, 50, 52, 54, 56, 58] (by decide +kernel) (by decide +kernel)
theorem in_X2 : ∀ w ∈ u_ws RX2 TX2 2, w ∈ zT := zT_l [374, 375] (by decide +kernel) (by decide +kernel)
theorem in_X3 : ∀ w ∈ u_ws RX3 TX3 2, w ∈ zT := zT_l [363, 365] (by decide +kernel) (by decide +kernel)
theorem in_X4 : ∀ w ∈ u_ws RX4 TX4 8, w ∈ zT := zT_l [147, 149, 151, 153, 155, 157, 159, 161] (by decide +kernel) (by decide +kernel)
theorem in_X5 : ∀ w ∈ u_ws RX5 TX5 2, w ∈ zT := zT_l [392, 393] (by decide +kernel) (by decide +kernel)
theorem in_X6 : ∀ w ∈ u_ws RX6 TX6 2, w ∈ zT := zT_l [416, 417] (by decide +kernel) (by decide +kernel)
theorem in_X7 : ∀ w ∈ u_ws RX7 TX7 2, w ∈ zT := zT_l [75, 77] (by decide +kernel) (by decide +kernel)
theorem in_X8 : ∀ w ∈ u_ws RX8 TX8 2, w ∈ zT := zT_l [383, 384] (by decide +kernel) (by decide +kernel)
theorem in_X9 : ∀ w ∈ u_ws RX9 TX9 11, w ∈ zT := zT_l [106, 108, 110, 112, 114, 116, 118, 120, 122, 124, 126] (by decide +kernel) (by decide +kernel)
theorem in_X10 : ∀ w ∈ u_ws RX10 TX10 2, w ∈ zT := zT_l [410, 411] (by decide +kernel) (by decide +kernel)
theorem in_X11 : ∀ w ∈ u_ws RX11 TX11 8, w ∈ zT := zT_l [172, 174, 176, 178, 180, 182, 184, 186] (by decide +kernel) (by decide +kernel)
theorem in_X12 : ∀ w ∈ u_ws RX12 TX12 24, w ∈ zT := zT_l [878, 880, 882, 884, 886, 888, 890, 892, 894, 896, 898, 900, 902, 904, 906, 908, 910, 912, 914, 916, 918, 920, 922, 924] (by decide +kernel) (by decide +kernel)
theorem zw_372 : Cond.code yX2_init cX2_init 3 none ∈ zT := zT_t (i := 372) (by decide +kernel) (by decide +kernel)
theorem zw_14 : Cond.initialized "LowWater$Diver" ∈ zT := zT_t (i := 14) (by decide +kernel) (by decide +kernel)
theorem co_X2_init : zCo yX2_init cX2_init 3 none 2 := ⟨zw_372, zw_14, by decide +kernel, by decide +kernel, by decide +kernel⟩
theorem zw_400 : Cond.methodLink "LowWater$Blind" 1 yX2_init ∈ zT := zT_t (i := 400) (by decide +kernel) (by decide +kernel)
theorem zw_371 : Cond.instanceMethod yX2_init ∈ zT := zT_t (i := 371) (by decide +kernel) (by decide +kernel)
theorem k_X0_1 : Cond.methodLink "LowWater$Blind" 1 yX2_init ∈ zT ∧ Cond.instanceMethod yX2_init ∈ zT := ⟨zw_400, zw_371⟩
theorem zw_804 : Cond.code yX2_isA cX2_isA 2 (some .boolean) ∈ zT := zT_t (i := 804) (by decide +kernel) (by decide +kernel)
theorem co_X2_isA : zCo yX2_isA cX2_isA 2 (some .boolean) 1 := ⟨zw_804, zw_14, by decide +kernel, by decide +kernel, by decide +kernel⟩
theorem zw_802 : Cond.methodLink "LowWater$Blind" 7 yX2_isA ∈ zT := zT_t (i := 802) (by decide +kernel) (by decide +kernel)
theorem zw_1231 : Cond.sameMethod "LowWater$Diver" "LowWater$Diver" "isA" "(I)Z" ∈ zT := zT_t (i := 1231) (by decide +kernel) (by decide +kernel)
theorem zw_403 : Cond.superclass "LowWater$Blind" "LowWater$Diver" ∈ zT := zT_t (i := 403) (by decide +kernel) (by decide +kernel)
theorem zw_803 : Cond.instanceMethod yX2_isA ∈ zT := zT_t (i := 803) (by decide +kernel) (by decide +kernel)
theorem k_X0_7 : Cond.methodLink "LowWater$Blind" 7 yX2_isA ∈ zT ∧ Cond.sameMethod yX2_isA.cls yX2_isA.cls yX2_isA.name yX2_isA.desc ∈ zT ∧ Cond.superclass "LowWater$Blind" yX2_isA.cls ∈ zT ∧ Cond.instanceMethod yX2_isA ∈ zT ∧ yX2_isA.name ≠ "<init>" := ⟨zw_802, zw_1231, zw_403, zw_803, by decide +kernel⟩
theorem zw_200 : Cond.code yX7_add cX7_add 2 none ∈ zT := zT_t (i := 200) (by decide +kernel) (by decide +kernel)
theorem zw_4 : Cond.initialized "LowWater$Row" ∈ zT := zT_t (i := 4) (by decide +kernel) (by decide +kernel)
theorem co_X7_add : zCo yX7_add cX7_add 2 none 1 := ⟨zw_200, zw_4, by decide +kernel, by decide +kernel, by decide +kernel⟩
theorem zw_724 : Cond.methodLink "LowWater$Blind" 11 yX7_add ∈ zT := zT_t (i := 724) (by decide +kernel) (by decide +kernel)
theorem zw_198 : Cond.instanceMethod yX7_add ∈ zT := zT_t (i := 198) (by decide +kernel) (by decide +kernel)
theorem zw_199 : Cond.selects "LowWater$Row" yX7_add yX7_add ∈ zT := zT_t (i := 199) (by decide +kernel) (by decide +kernel)
theorem k_X0_11 : Cond.methodLink "LowWater$Blind" 11 yX7_add ∈ zT ∧ Cond.instanceMethod yX7_add ∈ zT ∧ Cond.selects yX7_add.cls yX7_add yX7_add ∈ zT := ⟨zw_724, zw_198, zw_199⟩
theorem zw_737 : Cond.code yX6_bodyOfReads cX6_bodyOfReads 3 (some .int) ∈ zT := zT_t (i := 737) (by decide +kernel) (by decide +kernel)
theorem zw_12 : Cond.initialized "LowWater$Reader" ∈ zT := zT_t (i := 12) (by decide +kernel) (by decide +kernel)
theorem co_X6_bodyOfReads : zCo yX6_bodyOfReads cX6_bodyOfReads 3 (some .int) 2 := ⟨zw_737, zw_12, by decide +kernel, by decide +kernel, by decide +kernel⟩
theorem zw_351 : Cond.fieldLink "LowWater$Blind" 21 "LowWater$Blind" "number" "I" ∈ zT := zT_t (i := 351) (by decide +kernel) (by decide +kernel)
theorem zw_352 : Cond.sameField "LowWater$Blind" "LowWater$Reader" "number" "I" ∈ zT := zT_t (i := 352) (by decide +kernel) (by decide +kernel)
theorem f_X0_21 : zFL "LowWater$Blind" 21 0 0 true false .int := ⟨RX0, "LowWater$Blind", TX0, 2, tyX0, rfl, by decide, in_X0, tyX0_ok, nmX0, rfl, rfl, (fun h => Bool.noConfusion h), Or.inl zw_351, Or.inr zw_352⟩
theorem zw_41 : Cond.methodLink "LowWater$Cave" 3 objectInit ∈ zT := zT_t (i := 41) (by decide +kernel) (by decide +kernel)
theorem zw_28 : Cond.instanceMethod objectInit ∈ zT := zT_t (i := 28) (by decide +kernel) (by decide +kernel)
theorem zw_29 : Cond.code objectInit ⟨#[0xb1]⟩ 1 none ∈ zT := zT_t (i := 29) (by decide +kernel) (by decide +kernel)
theorem k_X1_3 : Cond.methodLink "LowWater$Cave" 3 objectInit ∈ zT ∧ Cond.instanceMethod objectInit ∈ zT ∧ Cond.code objectInit ⟨#[0xb1]⟩ 1 none ∈ zT := ⟨zw_41, zw_28, zw_29⟩
theorem zw_42 : Cond.fieldLink "LowWater$Cave" 11 "LowWater$Cave" "steps" "[I" ∈ zT := zT_t (i := 42) (by decide +kernel) (by decide +kernel)
theorem f_X1_11 : zFL "LowWater$Cave" 11 1 0 true true (.array .int) := ⟨RX1, "LowWater$Cave", TX1, 6, tyX1, rfl, by decide, in_X1, tyX1_ok, nmX1, rfl, rfl, (fun _ => rfl), Or.inl zw_42, Or.inl rfl⟩
theorem zw_43 : Cond.fieldLink "LowWater$Cave" 15 "LowWater$Cave" "numbers" "[I" ∈ zT := zT_t (i := 43) (by decide +kernel) (by decide +kernel)
theorem f_X1_15 : zFL "LowWater$Cave" 15 1 1 true true (.array .int) := ⟨RX1, "LowWater$Cave", TX1, 6, tyX1, rfl, by decide, in_X1, tyX1_ok, nmX1, rfl, rfl, (fun _ => rfl), Or.inl zw_43, Or.inl rfl⟩
theorem zw_44 : Cond.fieldLink "LowWater$Cave" 18 "LowWater$Cave" "size" "I" ∈ zT := zT_t (i := 44) (by decide +kernel) (by decide +kernel)
theorem f_X1_18 : zFL "LowWater$Cave" 18 1 2 false true .int := ⟨RX1, "LowWater$Cave", TX1, 6, tyX1, rfl, by decide, in_X1, tyX1_ok, nmX1, rfl, rfl, (fun _ => rfl), Or.inl zw_44, Or.inl rfl⟩
theorem zw_45 : Cond.fieldLink "LowWater$Cave" 22 "LowWater$Cave" "tides" "[I" ∈ zT := zT_t (i := 45) (by decide +kernel) (by decide +kernel)
theorem f_X1_22 : zFL "LowWater$Cave" 22 1 3 true true (.array .int) := ⟨RX1, "LowWater$Cave", TX1, 6, tyX1, rfl, by decide, in_X1, tyX1_ok, nmX1, rfl, rfl, (fun _ => rfl), Or.inl zw_45, Or.inl rfl⟩
theorem zw_46 : Cond.fieldLink "LowWater$Cave" 25 "LowWater$Cave" "text" "LLowWater$Row;" ∈ zT := zT_t (i := 46) (by decide +kernel) (by decide +kernel)
theorem f_X1_25 : zFL "LowWater$Cave" 25 1 4 false true (.object "LowWater$Row") := ⟨RX1, "LowWater$Cave", TX1, 6, tyX1, rfl, by decide, in_X1, tyX1_ok, nmX1, rfl, rfl, (fun _ => rfl), Or.inl zw_46, Or.inl rfl⟩
theorem zw_47 : Cond.fieldLink "LowWater$Cave" 29 "LowWater$Cave" "place" "I" ∈ zT := zT_t (i := 47) (by decide +kernel) (by decide +kernel)
theorem f_X1_29 : zFL "LowWater$Cave" 29 1 5 false true .int := ⟨RX1, "LowWater$Cave", TX1, 6, tyX1, rfl, by decide, in_X1, tyX1_ok, nmX1, rfl, rfl, (fun _ => rfl), Or.inl zw_47, Or.inl rfl⟩
theorem zw_496 : Cond.code yJ9_floorMod_7cf53 cJ9_floorMod_7cf53 3 (some .int) ∈ zT := zT_t (i := 496) (by decide +kernel) (by decide +kernel)
theorem zw_19 : Cond.initialized "java/lang/Math" ∈ zT := zT_t (i := 19) (by decide +kernel) (by decide +kernel)
theorem co_J9_floorMod_7cf53 : zCo yJ9_floorMod_7cf53 cJ9_floorMod_7cf53 3 (some .int) 2 := ⟨zw_496, zw_19, by decide +kernel, by decide +kernel, by decide +kernel⟩
theorem zw_494 : Cond.methodLink "LowWater$Cave" 32 yJ9_floorMod_7cf53 ∈ zT := zT_t (i := 494) (by decide +kernel) (by decide +kernel)
theorem zw_495 : Cond.static yJ9_floorMod_7cf53 ∈ zT := zT_t (i := 495) (by decide +kernel) (by decide +kernel)
theorem k_X1_32 : Cond.methodLink "LowWater$Cave" 32 yJ9_floorMod_7cf53 ∈ zT ∧ Cond.static yJ9_floorMod_7cf53 ∈ zT := ⟨zw_494, zw_495⟩
theorem zw_500 : Cond.code yX1_makeTide cX1_makeTide 13 none ∈ zT := zT_t (i := 500) (by decide +kernel) (by decide +kernel)
theorem zw_3 : Cond.initialized "LowWater$Cave" ∈ zT := zT_t (i := 3) (by decide +kernel) (by decide +kernel)
theorem co_X1_makeTide : zCo yX1_makeTide cX1_makeTide 13 none 1 := ⟨zw_500, zw_3, by decide +kernel, by decide +kernel, by decide +kernel⟩
theorem zw_497 : Cond.methodLink "LowWater$Cave" 38 yX1_makeTide ∈ zT := zT_t (i := 497) (by decide +kernel) (by decide +kernel)
theorem zw_499 : Cond.instanceMethod yX1_makeTide ∈ zT := zT_t (i := 499) (by decide +kernel) (by decide +kernel)
theorem zw_s11 : Cond.selects "LowWater$Cave" yX1_makeTide yX1_makeTide ∈ zT := zT_s (i := 11) (by decide +kernel) (by decide +kernel)
theorem k_X1_38 : Cond.methodLink "LowWater$Cave" 38 yX1_makeTide ∈ zT ∧ Cond.instanceMethod yX1_makeTide ∈ zT ∧ Cond.selects yX1_makeTide.cls yX1_makeTide yX1_makeTide ∈ zT := ⟨zw_497, zw_499, zw_s11⟩
theorem zw_836 : Cond.methodLink "LowWater$Cave" 42 arraycopyName ∈ zT := zT_t (i := 836) (by decide +kernel) (by decide +kernel)
theorem zw_587 : Cond.native arraycopyName ∈ zT := zT_t (i := 587) (by decide +kernel) (by decide +kernel)
theorem zw_586 : Cond.static arraycopyName ∈ zT := zT_t (i := 586) (by decide +kernel) (by decide +kernel)
theorem zw_21 : Cond.initialized "java/lang/System" ∈ zT := zT_t (i := 21) (by decide +kernel) (by decide +kernel)
theorem k_X1_42 : Cond.methodLink "LowWater$Cave" 42 arraycopyName ∈ zT ∧ Cond.native arraycopyName ∈ zT ∧ Cond.static arraycopyName ∈ zT ∧ Cond.initialized "java/lang/System" ∈ zT := ⟨zw_836, zw_587, zw_586, zw_21⟩
theorem zw_501 : Cond.methodLink "LowWater$Cave" 48 Lib.Math.abs.name ∈ zT := zT_t (i := 501) (by decide +kernel) (by decide +kernel)
theorem zw_502 : Cond.static Lib.Math.abs.name ∈ zT := zT_t (i := 502) (by decide +kernel) (by decide +kernel)
theorem zw_503 : Cond.code Lib.Math.abs.name Lib.Math.abs.code 1 (some .int) ∈ zT := zT_t (i := 503) (by decide +kernel) (by decide +kernel)
theorem ma_X1_48 : zMa "LowWater$Cave" 48 Lib.Math.abs.name Lib.Math.abs.code 1 := ⟨zw_501, zw_502, zw_19, zw_503⟩
theorem zw_506 : Cond.code yJ6_compare_7cf53 cJ6_compare_7cf53 2 (some .int) ∈ zT := zT_t (i := 506) (by decide +kernel) (by decide +kernel)
theorem zw_20 : Cond.initialized "java/lang/Integer" ∈ zT := zT_t (i := 20) (by decide +kernel) (by decide +kernel)
theorem co_J6_compare_7cf53 : zCo yJ6_compare_7cf53 cJ6_compare_7cf53 2 (some .int) 2 := ⟨zw_506, zw_20, by decide +kernel, by decide +kernel, by decide +kernel⟩
theorem zw_504 : Cond.methodLink "LowWater$Cave" 52 yJ6_compare_7cf53 ∈ zT := zT_t (i := 504) (by decide +kernel) (by decide +kernel)
theorem zw_505 : Cond.static yJ6_compare_7cf53 ∈ zT := zT_t (i := 505) (by decide +kernel) (by decide +kernel)
theorem k_X1_52 : Cond.methodLink "LowWater$Cave" 52 yJ6_compare_7cf53 ∈ zT ∧ Cond.static yJ6_compare_7cf53 ∈ zT := ⟨zw_504, zw_505⟩
theorem zw_507 : Cond.methodLink "LowWater$Cave" 57 Lib.Math.min.name ∈ zT := zT_t (i := 507) (by decide +kernel) (by decide +kernel)
theorem zw_508 : Cond.static Lib.Math.min.name ∈ zT := zT_t (i := 508) (by decide +kernel) (by decide +kernel)
theorem zw_509 : Cond.code Lib.Math.min.name Lib.Math.min.code 2 (some .int) ∈ zT := zT_t (i := 509) (by decide +kernel) (by decide +kernel)
theorem ma_X1_57 : zMa "LowWater$Cave" 57 Lib.Math.min.name Lib.Math.min.code 2 := ⟨zw_507, zw_508, zw_19, zw_509⟩
theorem zw_510 : Cond.methodLink "LowWater$Cave" 60 Lib.Math.max.name ∈ zT := zT_t (i := 510) (by decide +kernel) (by decide +kernel)
theorem zw_470 : Cond.static Lib.Math.max.name ∈ zT := zT_t (i := 470) (by decide +kernel) (by decide +kernel)
theorem zw_471 : Cond.code Lib.Math.max.name Lib.Math.max.code 2 (some .int) ∈ zT := zT_t (i := 471) (by decide +kernel) (by decide +kernel)
theorem ma_X1_60 : zMa "LowWater$Cave" 60 Lib.Math.max.name Lib.Math.max.code 2 := ⟨zw_510, zw_470, zw_19, zw_471⟩
theorem zw_211 : Cond.code yJ7_fill_53178 cJ7_fill_53178 4 none ∈ zT := zT_t (i := 211) (by decide +kernel) (by decide +kernel)
theorem zw_7 : Cond.initialized "java/util/Arrays" ∈ zT := zT_t (i := 7) (by decide +kernel) (by decide +kernel)
theorem co_J7_fill_53178 : zCo yJ7_fill_53178 cJ7_fill_53178 4 none 2 := ⟨zw_211, zw_7, by decide +kernel, by decide +kernel, by decide +kernel⟩
theorem zw_209 : Cond.methodLink "LowWater$Cave" 63 yJ7_fill_53178 ∈ zT := zT_t (i := 209) (by decide +kernel) (by decide +kernel)
theorem zw_210 : Cond.static yJ7_fill_53178 ∈ zT := zT_t (i := 210) (by decide +kernel) (by decide +kernel)
theorem k_X1_63 : Cond.methodLink "LowWater$Cave" 63 yJ7_fill_53178 ∈ zT ∧ Cond.static yJ7_fill_53178 ∈ zT := ⟨zw_209, zw_210⟩
theorem zw_215 : Cond.code yX1_readClause cX1_readClause 5 (some .boolean) ∈ zT := zT_t (i := 215) (by decide +kernel) (by decide +kernel)
theorem co_X1_readClause : zCo yX1_readClause cX1_readClause 5 (some .boolean) 0 := ⟨zw_215, zw_3, by decide +kernel, by decide +kernel, by decide +kernel⟩
theorem zw_212 : Cond.methodLink "LowWater$Cave" 69 yX1_readClause ∈ zT := zT_t (i := 212) (by decide +kernel) (by decide +kernel)
theorem zw_214 : Cond.instanceMethod yX1_readClause ∈ zT := zT_t (i := 214) (by decide +kernel) (by decide +kernel)
theorem zw_s0 : Cond.selects "LowWater$Cave" yX1_readClause yX1_readClause ∈ zT := zT_s (i := 0) (by decide +kernel) (by decide +kernel)
theorem k_X1_69 : Cond.methodLink "LowWater$Cave" 69 yX1_readClause ∈ zT ∧ Cond.instanceMethod yX1_readClause ∈ zT ∧ Cond.selects yX1_readClause.cls yX1_readClause yX1_readClause ∈ zT := ⟨zw_212, zw_214, zw_s0⟩
theorem f_X1_73 : zFL "LowWater$Cave" 73 7 1 false false .int := ⟨RX7, "LowWater$Row", TX7, 2, tyX7, rfl, by decide, in_X7, tyX7_ok, nmX7, rfl, rfl, (fun h => Bool.noConfusion h), Or.inr ⟨"LowWater", by decide +kernel⟩, Or.inl rfl⟩
theorem zw_274 : Cond.code yX1_skip cX1_skip 2 (some .boolean) ∈ zT := zT_t (i := 274) (by decide +kernel) (by decide +kernel)
theorem co_X1_skip : zCo yX1_skip cX1_skip 2 (some .boolean) 1 := ⟨zw_274, zw_3, by decide +kernel, by decide +kernel, by decide +kernel⟩
theorem zw_271 : Cond.methodLink "LowWater$Cave" 76 yX1_skip ∈ zT := zT_t (i := 271) (by decide +kernel) (by decide +kernel)
theorem zw_273 : Cond.instanceMethod yX1_skip ∈ zT := zT_t (i := 273) (by decide +kernel) (by decide +kernel)
theorem zw_s2 : Cond.selects "LowWater$Cave" yX1_skip yX1_skip ∈ zT := zT_s (i := 2) (by decide +kernel) (by decide +kernel)
theorem k_X1_76 : Cond.methodLink "LowWater$Cave" 76 yX1_skip ∈ zT ∧ Cond.instanceMethod yX1_skip ∈ zT ∧ Cond.selects yX1_skip.cls yX1_skip yX1_skip ∈ zT := ⟨zw_271, zw_273, zw_s2⟩
theorem zw_219 : Cond.code yX1_signHere cX1_signHere 2 (some .int) ∈ zT := zT_t (i := 219) (by decide +kernel) (by decide +kernel)
theorem co_X1_signHere : zCo yX1_signHere cX1_signHere 2 (some .int) 0 := ⟨zw_219, zw_3, by decide +kernel, by decide +kernel, by decide +kernel⟩
theorem zw_216 : Cond.methodLink "LowWater$Cave" 80 yX1_signHere ∈ zT := zT_t (i := 216) (by decide +kernel) (by decide +kernel)
theorem zw_218 : Cond.instanceMethod yX1_signHere ∈ zT := zT_t (i := 218) (by decide +kernel) (by decide +kernel)
theorem zw_s1 : Cond.selects "LowWater$Cave" yX1_signHere yX1_signHere ∈ zT := zT_s (i := 1) (by decide +kernel) (by decide +kernel)
theorem k_X1_80 : Cond.methodLink "LowWater$Cave" 80 yX1_signHere ∈ zT ∧ Cond.instanceMethod yX1_signHere ∈ zT ∧ Cond.selects yX1_signHere.cls yX1_signHere yX1_signHere ∈ zT := ⟨zw_216, zw_218, zw_s1⟩
theorem zw_226 : Cond.code yJ0_length_8abf5 cJ0_length_8abf5 1 (some .int) ∈ zT := zT_t (i := 226) (by decide +kernel) (by decide +kernel)
theorem zw_8 : Cond.initialized "java/lang/String" ∈ zT := zT_t (i := 8) (by decide +kernel) (by decide +kernel)
theorem co_J0_length_8abf5 : zCo yJ0_length_8abf5 cJ0_length_8abf5 1 (some .int) 0 := ⟨zw_226, zw_8, by decide +kernel, by decide +kernel, by decide +kernel⟩
theorem zw_223 : Cond.methodLink "LowWater$Cave" 90 yJ0_length_8abf5 ∈ zT := zT_t (i := 223) (by decide +kernel) (by decide +kernel)
theorem zw_224 : Cond.instanceMethod yJ0_length_8abf5 ∈ zT := zT_t (i := 224) (by decide +kernel) (by decide +kernel)
theorem zw_225 : Cond.selects "java/lang/String" yJ0_length_8abf5 yJ0_length_8abf5 ∈ zT := zT_t (i := 225) (by decide +kernel) (by decide +kernel)
theorem k_X1_90 : Cond.methodLink "LowWater$Cave" 90 yJ0_length_8abf5 ∈ zT ∧ Cond.instanceMethod yJ0_length_8abf5 ∈ zT ∧ Cond.selects yJ0_length_8abf5.cls yJ0_length_8abf5 yJ0_length_8abf5 ∈ zT := ⟨zw_223, zw_224, zw_225⟩
theorem zw_236 : Cond.code yJ0_charAt_5068e cJ0_charAt_5068e 2 (some .char) ∈ zT := zT_t (i := 236) (by decide +kernel) (by decide +kernel)
theorem co_J0_charAt_5068e : zCo yJ0_charAt_5068e cJ0_charAt_5068e 2 (some .char) 1 := ⟨zw_236, zw_8, by decide +kernel, by decide +kernel, by decide +kernel⟩
theorem zw_233 : Cond.methodLink "LowWater$Cave" 95 yJ0_charAt_5068e ∈ zT := zT_t (i := 233) (by decide +kernel) (by decide +kernel)
theorem zw_234 : Cond.instanceMethod yJ0_charAt_5068e ∈ zT := zT_t (i := 234) (by decide +kernel) (by decide +kernel)
theorem zw_235 : Cond.selects "java/lang/String" yJ0_charAt_5068e yJ0_charAt_5068e ∈ zT := zT_t (i := 235) (by decide +kernel) (by decide +kernel)
theorem k_X1_95 : Cond.methodLink "LowWater$Cave" 95 yJ0_charAt_5068e ∈ zT ∧ Cond.instanceMethod yJ0_charAt_5068e ∈ zT ∧ Cond.selects yJ0_charAt_5068e.cls yJ0_charAt_5068e yJ0_charAt_5068e ∈ zT := ⟨zw_233, zw_234, zw_235⟩
theorem zw_278 : Cond.code yX1_readNumber cX1_readNumber 3 (some .int) ∈ zT := zT_t (i := 278) (by decide +kernel) (by decide +kernel)
theorem co_X1_readNumber : zCo yX1_readNumber cX1_readNumber 3 (some .int) 0 := ⟨zw_278, zw_3, by decide +kernel, by decide +kernel, by decide +kernel⟩
theorem zw_275 : Cond.methodLink "LowWater$Cave" 99 yX1_readNumber ∈ zT := zT_t (i := 275) (by decide +kernel) (by decide +kernel)
theorem zw_277 : Cond.instanceMethod yX1_readNumber ∈ zT := zT_t (i := 277) (by decide +kernel) (by decide +kernel)
theorem zw_s3 : Cond.selects "LowWater$Cave" yX1_readNumber yX1_readNumber ∈ zT := zT_s (i := 3) (by decide +kernel) (by decide +kernel)
theorem k_X1_99 : Cond.methodLink "LowWater$Cave" 99 yX1_readNumber ∈ zT ∧ Cond.instanceMethod yX1_readNumber ∈ zT ∧ Cond.selects yX1_readNumber.cls yX1_readNumber yX1_readNumber ∈ zT := ⟨zw_275, zw_277, zw_s3⟩
theorem zw_282 : Cond.code yX1_readE cX1_readE 3 (some .boolean) ∈ zT := zT_t (i := 282) (by decide +kernel) (by decide +kernel)
theorem co_X1_readE : zCo yX1_readE cX1_readE 3 (some .boolean) 1 := ⟨zw_282, zw_3, by decide +kernel, by decide +kernel, by decide +kernel⟩
theorem zw_279 : Cond.methodLink "LowWater$Cave" 102 yX1_readE ∈ zT := zT_t (i := 279) (by decide +kernel) (by decide +kernel)
theorem zw_281 : Cond.instanceMethod yX1_readE ∈ zT := zT_t (i := 281) (by decide +kernel) (by decide +kernel)
theorem zw_s4 : Cond.selects "LowWater$Cave" yX1_readE yX1_readE ∈ zT := zT_s (i := 4) (by decide +kernel) (by decide +kernel)
theorem k_X1_102 : Cond.methodLink "LowWater$Cave" 102 yX1_readE ∈ zT ∧ Cond.instanceMethod yX1_readE ∈ zT ∧ Cond.selects yX1_readE.cls yX1_readE yX1_readE ∈ zT := ⟨zw_279, zw_281, zw_s4⟩
theorem zw_294 : Cond.code yX1_addStep cX1_addStep 3 none ∈ zT := zT_t (i := 294) (by decide +kernel) (by decide +kernel)
theorem co_X1_addStep : zCo yX1_addStep cX1_addStep 3 none 2 := ⟨zw_294, zw_3, by decide +kernel, by decide +kernel, by decide +kernel⟩
theorem zw_291 : Cond.methodLink "LowWater$Cave" 105 yX1_addStep ∈ zT := zT_t (i := 291) (by decide +kernel) (by decide +kernel)
theorem zw_293 : Cond.instanceMethod yX1_addStep ∈ zT := zT_t (i := 293) (by decide +kernel) (by decide +kernel)
theorem zw_s7 : Cond.selects "LowWater$Cave" yX1_addStep yX1_addStep ∈ zT := zT_s (i := 7) (by decide +kernel) (by decide +kernel)
theorem k_X1_105 : Cond.methodLink "LowWater$Cave" 105 yX1_addStep ∈ zT ∧ Cond.instanceMethod yX1_addStep ∈ zT ∧ Cond.selects yX1_addStep.cls yX1_addStep yX1_addStep ∈ zT := ⟨zw_291, zw_293, zw_s7⟩
theorem zw_286 : Cond.code yX1_readT cX1_readT 3 (some .boolean) ∈ zT := zT_t (i := 286) (by decide +kernel) (by decide +kernel)
theorem co_X1_readT : zCo yX1_readT cX1_readT 3 (some .boolean) 1 := ⟨zw_286, zw_3, by decide +kernel, by decide +kernel, by decide +kernel⟩
theorem zw_283 : Cond.methodLink "LowWater$Cave" 109 yX1_readT ∈ zT := zT_t (i := 283) (by decide +kernel) (by decide +kernel)
theorem zw_285 : Cond.instanceMethod yX1_readT ∈ zT := zT_t (i := 285) (by decide +kernel) (by decide +kernel)
theorem zw_s5 : Cond.selects "LowWater$Cave" yX1_readT yX1_readT ∈ zT := zT_s (i := 5) (by decide +kernel) (by decide +kernel)
theorem k_X1_109 : Cond.methodLink "LowWater$Cave" 109 yX1_readT ∈ zT ∧ Cond.instanceMethod yX1_readT ∈ zT ∧ Cond.selects yX1_readT.cls yX1_readT yX1_readT ∈ zT := ⟨zw_283, zw_285, zw_s5⟩
theorem zw_290 : Cond.code yX1_readF cX1_readF 2 (some .boolean) ∈ zT := zT_t (i := 290) (by decide +kernel) (by decide +kernel)
theorem co_X1_readF : zCo yX1_readF cX1_readF 2 (some .boolean) 1 := ⟨zw_290, zw_3, by decide +kernel, by decide +kernel, by decide +kernel⟩
theorem zw_287 : Cond.methodLink "LowWater$Cave" 112 yX1_readF ∈ zT := zT_t (i := 287) (by decide +kernel) (by decide +kernel)
theorem zw_289 : Cond.instanceMethod yX1_readF ∈ zT := zT_t (i := 289) (by decide +kernel) (by decide +kernel)
theorem zw_s6 : Cond.selects "LowWater$Cave" yX1_readF yX1_readF ∈ zT := zT_s (i := 6) (by decide +kernel) (by decide +kernel)
theorem k_X1_112 : Cond.methodLink "LowWater$Cave" 112 yX1_readF ∈ zT ∧ Cond.instanceMethod yX1_readF ∈ zT ∧ Cond.selects yX1_readF.cls yX1_readF yX1_readF ∈ zT := ⟨zw_287, zw_289, zw_s6⟩
theorem zw_298 : Cond.code yX1_readTest cX1_readTest 4 (some .boolean) ∈ zT := zT_t (i := 298) (by decide +kernel) (by decide +kernel)
theorem co_X1_readTest : zCo yX1_readTest cX1_readTest 4 (some .boolean) 0 := ⟨zw_298, zw_3, by decide +kernel, by decide +kernel, by decide +kernel⟩
theorem zw_295 : Cond.methodLink "LowWater$Cave" 115 yX1_readTest ∈ zT := zT_t (i := 295) (by decide +kernel) (by decide +kernel)
theorem zw_297 : Cond.instanceMethod yX1_readTest ∈ zT := zT_t (i := 297) (by decide +kernel) (by decide +kernel)
theorem zw_s8 : Cond.selects "LowWater$Cave" yX1_readTest yX1_readTest ∈ zT := zT_s (i := 8) (by decide +kernel) (by decide +kernel)
theorem k_X1_115 : Cond.methodLink "LowWater$Cave" 115 yX1_readTest ∈ zT ∧ Cond.instanceMethod yX1_readTest ∈ zT ∧ Cond.selects yX1_readTest.cls yX1_readTest yX1_readTest ∈ zT := ⟨zw_295, zw_297, zw_s8⟩
theorem f_X1_118 : zFL "LowWater$Cave" 118 7 0 true false (.array .int) := ⟨RX7, "LowWater$Row", TX7, 2, tyX7, rfl, by decide, in_X7, tyX7_ok, nmX7, rfl, rfl, (fun h => Bool.noConfusion h), Or.inr ⟨"LowWater", by decide +kernel⟩, Or.inl rfl⟩
theorem zw_348 : Cond.code yX6_init cX6_init 3 none ∈ zT := zT_t (i := 348) (by decide +kernel) (by decide +kernel)
theorem co_X6_init : zCo yX6_init cX6_init 3 none 2 := ⟨zw_348, zw_12, by decide +kernel, by decide +kernel, by decide +kernel⟩
theorem zw_373 : Cond.methodLink "LowWater$Diver" 1 yX6_init ∈ zT := zT_t (i := 373) (by decide +kernel) (by decide +kernel)
theorem zw_347 : Cond.instanceMethod yX6_init ∈ zT := zT_t (i := 347) (by decide +kernel) (by decide +kernel)
theorem k_X2_1 : Cond.methodLink "LowWater$Diver" 1 yX6_init ∈ zT ∧ Cond.instanceMethod yX6_init ∈ zT := ⟨zw_373, zw_347⟩
theorem zw_823 : Cond.code yX6_isA cX6_isA 2 (some .boolean) ∈ zT := zT_t (i := 823) (by decide +kernel) (by decide +kernel)
theorem co_X6_isA : zCo yX6_isA cX6_isA 2 (some .boolean) 1 := ⟨zw_823, zw_12, by decide +kernel, by decide +kernel, by decide +kernel⟩
theorem zw_805 : Cond.methodLink "LowWater$Diver" 7 yX6_isA ∈ zT := zT_t (i := 805) (by decide +kernel) (by decide +kernel)
theorem zw_798 : Cond.sameMethod "LowWater$Reader" "LowWater$Reader" "isA" "(I)Z" ∈ zT := zT_t (i := 798) (by decide +kernel) (by decide +kernel)
theorem zw_376 : Cond.superclass "LowWater$Diver" "LowWater$Reader" ∈ zT := zT_t (i := 376) (by decide +kernel) (by decide +kernel)
theorem zw_796 : Cond.instanceMethod yX6_isA ∈ zT := zT_t (i := 796) (by decide +kernel) (by decide +kernel)
theorem k_X2_7 : Cond.methodLink "LowWater$Diver" 7 yX6_isA ∈ zT ∧ Cond.sameMethod yX6_isA.cls yX6_isA.cls yX6_isA.name yX6_isA.desc ∈ zT ∧ Cond.superclass "LowWater$Diver" yX6_isA.cls ∈ zT ∧ Cond.instanceMethod yX6_isA ∈ zT ∧ yX6_isA.name ≠ "<init>" := ⟨zw_805, zw_798, zw_376, zw_796, by decide +kernel⟩
theorem zw_354 : Cond.fieldLink "LowWater$Diver" 11 "LowWater$Diver" "v" "I" ∈ zT := zT_t (i := 354) (by decide +kernel) (by decide +kernel)
theorem zw_355 : Cond.sameField "LowWater$Diver" "LowWater$Reader" "v" "I" ∈ zT := zT_t (i := 355) (by decide +kernel) (by decide +kernel)
theorem f_X2_11 : zFL "LowWater$Diver" 11 2 1 true false .int := ⟨RX2, "LowWater$Diver", TX2, 2, tyX2, rfl, by decide, in_X2, tyX2_ok, nmX2, rfl, rfl, (fun h => Bool.noConfusion h), Or.inl zw_354, Or.inr zw_355⟩
theorem zw_746 : Cond.methodLink "LowWater$Diver" 17 yX7_add ∈ zT := zT_t (i := 746) (by decide +kernel) (by decide +kernel)
theorem k_X2_17 : Cond.methodLink "LowWater$Diver" 17 yX7_add ∈ zT ∧ Cond.instanceMethod yX7_add ∈ zT ∧ Cond.selects yX7_add.cls yX7_add yX7_add ∈ zT := ⟨zw_746, zw_198, zw_199⟩
theorem zw_759 : Cond.code yX6_bodyOfWaits cX6_bodyOfWaits 3 (some .int) ∈ zT := zT_t (i := 759) (by decide +kernel) (by decide +kernel)
theorem co_X6_bodyOfWaits : zCo yX6_bodyOfWaits cX6_bodyOfWaits 3 (some .int) 2 := ⟨zw_759, zw_12, by decide +kernel, by decide +kernel, by decide +kernel⟩
theorem zw_747 : Cond.methodLink "LowWater$Diver" 23 yX6_bodyOfWaits ∈ zT := zT_t (i := 747) (by decide +kernel) (by decide +kernel)
theorem zw_742 : Cond.sameMethod "LowWater$Reader" "LowWater$Reader" "bodyOfWaits" "(ILLowWater$Row;)I" ∈ zT := zT_t (i := 742) (by decide +kernel) (by decide +kernel)
theorem zw_740 : Cond.instanceMethod yX6_bodyOfWaits ∈ zT := zT_t (i := 740) (by decide +kernel) (by decide +kernel)
theorem k_X2_23 : Cond.methodLink "LowWater$Diver" 23 yX6_bodyOfWaits ∈ zT ∧ Cond.sameMethod yX6_bodyOfWaits.cls yX6_bodyOfWaits.cls yX6_bodyOfWaits.name yX6_bodyOfWaits.desc ∈ zT ∧ Cond.superclass "LowWater$Diver" yX6_bodyOfWaits.cls ∈ zT ∧ Cond.instanceMethod yX6_bodyOfWaits ∈ zT ∧ yX6_bodyOfWaits.name ≠ "<init>" := ⟨zw_747, zw_742, zw_376, zw_740, by decide +kernel⟩
theorem zw_346 : Cond.methodLink "LowWater$Fast" 1 yX6_init ∈ zT := zT_t (i := 346) (by decide +kernel) (by decide +kernel)
theorem k_X3_1 : Cond.methodLink "LowWater$Fast" 1 yX6_init ∈ zT ∧ Cond.instanceMethod yX6_init ∈ zT := ⟨zw_346, zw_347⟩
theorem zw_810 : Cond.methodLink "LowWater$Fast" 7 yX6_isA ∈ zT := zT_t (i := 810) (by decide +kernel) (by decide +kernel)
theorem zw_367 : Cond.superclass "LowWater$Fast" "LowWater$Reader" ∈ zT := zT_t (i := 367) (by decide +kernel) (by decide +kernel)
theorem k_X3_7 : Cond.methodLink "LowWater$Fast" 7 yX6_isA ∈ zT ∧ Cond.sameMethod yX6_isA.cls yX6_isA.cls yX6_isA.name yX6_isA.desc ∈ zT ∧ Cond.superclass "LowWater$Fast" yX6_isA.cls ∈ zT ∧ Cond.instanceMethod yX6_isA ∈ zT ∧ yX6_isA.name ≠ "<init>" := ⟨zw_810, zw_798, zw_367, zw_796, by decide +kernel⟩
theorem zw_732 : Cond.methodLink "LowWater$Fast" 11 yX7_add ∈ zT := zT_t (i := 732) (by decide +kernel) (by decide +kernel)
theorem k_X3_11 : Cond.methodLink "LowWater$Fast" 11 yX7_add ∈ zT ∧ Cond.instanceMethod yX7_add ∈ zT ∧ Cond.selects yX7_add.cls yX7_add yX7_add ∈ zT := ⟨zw_732, zw_198, zw_199⟩
theorem zw_733 : Cond.methodLink "LowWater$Fast" 17 yX6_bodyOfReads ∈ zT := zT_t (i := 733) (by decide +kernel) (by decide +kernel)
theorem zw_720 : Cond.sameMethod "LowWater$Reader" "LowWater$Reader" "bodyOfReads" "(ILLowWater$Row;)I" ∈ zT := zT_t (i := 720) (by decide +kernel) (by decide +kernel)
theorem zw_718 : Cond.instanceMethod yX6_bodyOfReads ∈ zT := zT_t (i := 718) (by decide +kernel) (by decide +kernel)
theorem k_X3_17 : Cond.methodLink "LowWater$Fast" 17 yX6_bodyOfReads ∈ zT ∧ Cond.sameMethod yX6_bodyOfReads.cls yX6_bodyOfReads.cls yX6_bodyOfReads.name yX6_bodyOfReads.desc ∈ zT ∧ Cond.superclass "LowWater$Fast" yX6_bodyOfReads.cls ∈ zT ∧ Cond.instanceMethod yX6_bodyOfReads ∈ zT ∧ yX6_bodyOfReads.name ≠ "<init>" := ⟨zw_733, zw_720, zw_367, zw_718, by decide +kernel⟩
theorem zw_138 : Cond.methodLink "LowWater$Orders" 3 objectInit ∈ zT := zT_t (i := 138) (by decide +kernel) (by decide +kernel)
theorem k_X4_3 : Cond.methodLink "LowWater$Orders" 3 objectInit ∈ zT ∧ Cond.instanceMethod objectInit ∈ zT ∧ Cond.code objectInit ⟨#[0xb1]⟩ 1 none ∈ zT := ⟨zw_138, zw_28, zw_29⟩
theorem zw_139 : Cond.fieldLink "LowWater$Orders" 9 "LowWater$Orders" "state" "LLowWater$State;" ∈ zT := zT_t (i := 139) (by decide +kernel) (by decide +kernel)
theorem f_X4_9 : zFL "LowWater$Orders" 9 4 0 false true (.object "LowWater$State") := ⟨RX4, "LowWater$Orders", TX4, 8, tyX4, rfl, by decide, in_X4, tyX4_ok, nmX4, rfl, rfl, (fun _ => rfl), Or.inl zw_139, Or.inl rfl⟩
theorem zw_140 : Cond.fieldLink "LowWater$Orders" 15 "LowWater$Orders" "reader" "LLowWater$Reader;" ∈ zT := zT_t (i := 140) (by decide +kernel) (by decide +kernel)
theorem f_X4_15 : zFL "LowWater$Orders" 15 4 1 false true (.object "LowWater$Reader") := ⟨RX4, "LowWater$Orders", TX4, 8, tyX4, rfl, by decide, in_X4, tyX4_ok, nmX4, rfl, rfl, (fun _ => rfl), Or.inl zw_140, Or.inl rfl⟩
theorem zw_141 : Cond.fieldLink "LowWater$Orders" 19 "LowWater$Orders" "all" "I" ∈ zT := zT_t (i := 141) (by decide +kernel) (by decide +kernel)
theorem f_X4_19 : zFL "LowWater$Orders" 19 4 2 false true .int := ⟨RX4, "LowWater$Orders", TX4, 8, tyX4, rfl, by decide, in_X4, tyX4_ok, nmX4, rfl, rfl, (fun _ => rfl), Or.inl zw_141, Or.inl rfl⟩
theorem zw_142 : Cond.fieldLink "LowWater$Orders" 23 "LowWater$Orders" "best" "[I" ∈ zT := zT_t (i := 142) (by decide +kernel) (by decide +kernel)
theorem f_X4_23 : zFL "LowWater$Orders" 23 4 3 true true (.array .int) := ⟨RX4, "LowWater$Orders", TX4, 8, tyX4, rfl, by decide, in_X4, tyX4_ok, nmX4, rfl, rfl, (fun _ => rfl), Or.inl zw_142, Or.inl rfl⟩
theorem zw_143 : Cond.fieldLink "LowWater$Orders" 27 "LowWater$Orders" "row" "[I" ∈ zT := zT_t (i := 143) (by decide +kernel) (by decide +kernel)
theorem f_X4_27 : zFL "LowWater$Orders" 27 4 4 true true (.array .int) := ⟨RX4, "LowWater$Orders", TX4, 8, tyX4, rfl, by decide, in_X4, tyX4_ok, nmX4, rfl, rfl, (fun _ => rfl), Or.inl zw_143, Or.inl rfl⟩
theorem zw_144 : Cond.fieldLink "LowWater$Orders" 30 "LowWater$Orders" "bestRow" "[I" ∈ zT := zT_t (i := 144) (by decide +kernel) (by decide +kernel)
theorem f_X4_30 : zFL "LowWater$Orders" 30 4 5 true true (.array .int) := ⟨RX4, "LowWater$Orders", TX4, 8, tyX4, rfl, by decide, in_X4, tyX4_ok, nmX4, rfl, rfl, (fun _ => rfl), Or.inl zw_144, Or.inl rfl⟩
theorem zw_145 : Cond.fieldLink "LowWater$Orders" 33 "LowWater$Orders" "soons" "[I" ∈ zT := zT_t (i := 145) (by decide +kernel) (by decide +kernel)
theorem f_X4_33 : zFL "LowWater$Orders" 33 4 6 true true (.array .int) := ⟨RX4, "LowWater$Orders", TX4, 8, tyX4, rfl, by decide, in_X4, tyX4_ok, nmX4, rfl, rfl, (fun _ => rfl), Or.inl zw_145, Or.inl rfl⟩
theorem zw_146 : Cond.fieldLink "LowWater$Orders" 36 "LowWater$Orders" "asking" "I" ∈ zT := zT_t (i := 146) (by decide +kernel) (by decide +kernel)
theorem f_X4_36 : zFL "LowWater$Orders" 36 4 7 false true .int := ⟨RX4, "LowWater$Orders", TX4, 8, tyX4, rfl, by decide, in_X4, tyX4_ok, nmX4, rfl, rfl, (fun _ => rfl), Or.inl zw_146, Or.inl rfl⟩
theorem zw_580 : Cond.methodLink "LowWater$Orders" 39 yJ7_fill_53178 ∈ zT := zT_t (i := 580) (by decide +kernel) (by decide +kernel)
theorem k_X4_39 : Cond.methodLink "LowWater$Orders" 39 yJ7_fill_53178 ∈ zT ∧ Cond.static yJ7_fill_53178 ∈ zT := ⟨zw_580, zw_210⟩
theorem zw_585 : Cond.methodLink "LowWater$Orders" 45 arraycopyName ∈ zT := zT_t (i := 585) (by decide +kernel) (by decide +kernel)
theorem k_X4_45 : Cond.methodLink "LowWater$Orders" 45 arraycopyName ∈ zT ∧ Cond.native arraycopyName ∈ zT ∧ Cond.static arraycopyName ∈ zT ∧ Cond.initialized "java/lang/System" ∈ zT := ⟨zw_585, zw_587, zw_586, zw_21⟩
theorem zw_591 : Cond.code yX4_soonFrom cX4_soonFrom 6 (some .int) ∈ zT := zT_t (i := 591) (by decide +kernel) (by decide +kernel)
theorem zw_5 : Cond.initialized "LowWater$Orders" ∈ zT := zT_t (i := 5) (by decide +kernel) (by decide +kernel)
theorem co_X4_soonFrom : zCo yX4_soonFrom cX4_soonFrom 6 (some .int) 2 := ⟨zw_591, zw_5, by decide +kernel, by decide +kernel, by decide +kernel⟩
theorem zw_588 : Cond.methodLink "LowWater$Orders" 51 yX4_soonFrom ∈ zT := zT_t (i := 588) (by decide +kernel) (by decide +kernel)
theorem zw_590 : Cond.instanceMethod yX4_soonFrom ∈ zT := zT_t (i := 590) (by decide +kernel) (by decide +kernel)
theorem zw_s14 : Cond.selects "LowWater$Orders" yX4_soonFrom yX4_soonFrom ∈ zT := zT_s (i := 14) (by decide +kernel) (by decide +kernel)
theorem k_X4_51 : Cond.methodLink "LowWater$Orders" 51 yX4_soonFrom ∈ zT ∧ Cond.instanceMethod yX4_soonFrom ∈ zT ∧ Cond.selects yX4_soonFrom.cls yX4_soonFrom yX4_soonFrom ∈ zT := ⟨zw_588, zw_590, zw_s14⟩
theorem zw_584 : Cond.code yX4_goOn cX4_goOn 7 none ∈ zT := zT_t (i := 584) (by decide +kernel) (by decide +kernel)
theorem co_X4_goOn : zCo yX4_goOn cX4_goOn 7 none 3 := ⟨zw_584, zw_5, by decide +kernel, by decide +kernel, by decide +kernel⟩
theorem zw_594 : Cond.methodLink "LowWater$Orders" 55 yX4_goOn ∈ zT := zT_t (i := 594) (by decide +kernel) (by decide +kernel)
theorem zw_583 : Cond.instanceMethod yX4_goOn ∈ zT := zT_t (i := 583) (by decide +kernel) (by decide +kernel)
theorem zw_s13 : Cond.selects "LowWater$Orders" yX4_goOn yX4_goOn ∈ zT := zT_s (i := 13) (by decide +kernel) (by decide +kernel)
theorem k_X4_55 : Cond.methodLink "LowWater$Orders" 55 yX4_goOn ∈ zT ∧ Cond.instanceMethod yX4_goOn ∈ zT ∧ Cond.selects yX4_goOn.cls yX4_goOn yX4_goOn ∈ zT := ⟨zw_594, zw_583, zw_s13⟩
theorem zw_605 : Cond.code yJ6_bitCount_0f7a4 cJ6_bitCount_0f7a4 1 (some .int) ∈ zT := zT_t (i := 605) (by decide +kernel) (by decide +kernel)
theorem co_J6_bitCount_0f7a4 : zCo yJ6_bitCount_0f7a4 cJ6_bitCount_0f7a4 1 (some .int) 1 := ⟨zw_605, zw_20, by decide +kernel, by decide +kernel, by decide +kernel⟩
theorem zw_603 : Cond.methodLink "LowWater$Orders" 59 yJ6_bitCount_0f7a4 ∈ zT := zT_t (i := 603) (by decide +kernel) (by decide +kernel)
theorem zw_604 : Cond.static yJ6_bitCount_0f7a4 ∈ zT := zT_t (i := 604) (by decide +kernel) (by decide +kernel)
theorem k_X4_59 : Cond.methodLink "LowWater$Orders" 59 yJ6_bitCount_0f7a4 ∈ zT ∧ Cond.static yJ6_bitCount_0f7a4 ∈ zT := ⟨zw_603, zw_604⟩
theorem zw_598 : Cond.code yX4_hoursOf cX4_hoursOf 2 (some .int) ∈ zT := zT_t (i := 598) (by decide +kernel) (by decide +kernel)
theorem co_X4_hoursOf : zCo yX4_hoursOf cX4_hoursOf 2 (some .int) 1 := ⟨zw_598, zw_5, by decide +kernel, by decide +kernel, by decide +kernel⟩
theorem zw_609 : Cond.methodLink "LowWater$Orders" 65 yX4_hoursOf ∈ zT := zT_t (i := 609) (by decide +kernel) (by decide +kernel)
theorem zw_596 : Cond.instanceMethod yX4_hoursOf ∈ zT := zT_t (i := 596) (by decide +kernel) (by decide +kernel)
theorem zw_597 : Cond.selects "LowWater$Orders" yX4_hoursOf yX4_hoursOf ∈ zT := zT_t (i := 597) (by decide +kernel) (by decide +kernel)
theorem k_X4_65 : Cond.methodLink "LowWater$Orders" 65 yX4_hoursOf ∈ zT ∧ Cond.instanceMethod yX4_hoursOf ∈ zT ∧ Cond.selects yX4_hoursOf.cls yX4_hoursOf yX4_hoursOf ∈ zT := ⟨zw_609, zw_596, zw_597⟩
theorem f_X4_68 : zFL "LowWater$Orders" 68 9 7 true false (.object "LowWater$Row") := ⟨RX9, "LowWater$State", TX9, 11, tyX9, rfl, by decide, in_X9, tyX9_ok, nmX9, rfl, rfl, (fun h => Bool.noConfusion h), Or.inr ⟨"LowWater", by decide +kernel⟩, Or.inl rfl⟩
theorem zw_325 : Cond.code yX7_get cX7_get 2 (some .int) ∈ zT := zT_t (i := 325) (by decide +kernel) (by decide +kernel)
theorem co_X7_get : zCo yX7_get cX7_get 2 (some .int) 1 := ⟨zw_325, zw_4, by decide +kernel, by decide +kernel, by decide +kernel⟩
theorem zw_592 : Cond.methodLink "LowWater$Orders" 74 yX7_get ∈ zT := zT_t (i := 592) (by decide +kernel) (by decide +kernel)
theorem zw_323 : Cond.instanceMethod yX7_get ∈ zT := zT_t (i := 323) (by decide +kernel) (by decide +kernel)
theorem zw_324 : Cond.selects "LowWater$Row" yX7_get yX7_get ∈ zT := zT_t (i := 324) (by decide +kernel) (by decide +kernel)
theorem k_X4_74 : Cond.methodLink "LowWater$Orders" 74 yX7_get ∈ zT ∧ Cond.instanceMethod yX7_get ∈ zT ∧ Cond.selects yX7_get.cls yX7_get yX7_get ∈ zT := ⟨zw_592, zw_323, zw_324⟩
theorem f_X4_79 : zFL "LowWater$Orders" 79 9 3 false false (.object "LowWater$Cave") := ⟨RX9, "LowWater$State", TX9, 11, tyX9, rfl, by decide, in_X9, tyX9_ok, nmX9, rfl, rfl, (fun h => Bool.noConfusion h), Or.inr ⟨"LowWater", by decide +kernel⟩, Or.inl rfl⟩
theorem f_X4_83 : zFL "LowWater$Orders" 83 9 6 true false (.object "LowWater$Row") := ⟨RX9, "LowWater$State", TX9, 11, tyX9, rfl, by decide, in_X9, tyX9_ok, nmX9, rfl, rfl, (fun h => Bool.noConfusion h), Or.inr ⟨"LowWater", by decide +kernel⟩, Or.inl rfl⟩
theorem f_X4_86 : zFL "LowWater$Orders" 86 9 0 false false .int := ⟨RX9, "LowWater$State", TX9, 11, tyX9, rfl, by decide, in_X9, tyX9_ok, nmX9, rfl, rfl, (fun h => Bool.noConfusion h), Or.inr ⟨"LowWater", by decide +kernel⟩, Or.inl rfl⟩
theorem zw_533 : Cond.code yX6_soonest cX6_soonest 8 (some .int) ∈ zT := zT_t (i := 533) (by decide +kernel) (by decide +kernel)
theorem co_X6_soonest : zCo yX6_soonest cX6_soonest 8 (some .int) 4 := ⟨zw_533, zw_12, by decide +kernel, by decide +kernel, by decide +kernel⟩
theorem zw_593 : Cond.methodLink "LowWater$Orders" 89 yX6_soonest ∈ zT := zT_t (i := 593) (by decide +kernel) (by decide +kernel)
theorem zw_526 : Cond.sameMethod "LowWater$Reader" "LowWater$Reader" "soonest" "(LLowWater$Cave;III)I" ∈ zT := zT_t (i := 526) (by decide +kernel) (by decide +kernel)
theorem zw_524 : Cond.instanceMethod yX6_soonest ∈ zT := zT_t (i := 524) (by decide +kernel) (by decide +kernel)
theorem zw_527 : Cond.selects "LowWater$Blind" yX6_soonest yX6_soonest ∈ zT := zT_t (i := 527) (by decide +kernel) (by decide +kernel)
theorem ku_X4_89_X0 : Cond.methodLink "LowWater$Orders" 89 ⟨"LowWater$Reader", "soonest", "(LLowWater$Cave;III)I"⟩ ∈ zT ∧ Cond.sameMethod "LowWater$Reader" "LowWater$Reader" "soonest" "(LLowWater$Cave;III)I" ∈ zT ∧ Cond.instanceMethod ⟨"LowWater$Reader", "soonest", "(LLowWater$Cave;III)I"⟩ ∈ zT ∧ Cond.code ⟨"LowWater$Reader", "soonest", "(LLowWater$Cave;III)I"⟩ cX6_soonest 8 (some .int) ∈ zT ∧ Cond.selects "LowWater$Blind" ⟨"LowWater$Reader", "soonest", "(LLowWater$Cave;III)I"⟩ yX6_soonest ∈ zT ∧ Cond.instanceMethod yX6_soonest ∈ zT ∧ "LowWater$Reader" ≠ "java/lang/invoke/MethodHandle" ∧ "LowWater$Reader" ≠ "java/lang/invoke/VarHandle" ∧ (parseMethodDescriptor "(LLowWater$Cave;III)I").map (fun d => d.parameters.length) = some 4 := ⟨zw_593, zw_526, zw_524, zw_533, zw_527, zw_524, by decide +kernel, by decide +kernel, by decide +kernel⟩
theorem zw_528 : Cond.selects "LowWater$Diver" yX6_soonest yX6_soonest ∈ zT := zT_t (i := 528) (by decide +kernel) (by decide +kernel)
theorem ku_X4_89_X2 : Cond.methodLink "LowWater$Orders" 89 ⟨"LowWater$Reader", "soonest", "(LLowWater$Cave;III)I"⟩ ∈ zT ∧ Cond.sameMethod "LowWater$Reader" "LowWater$Reader" "soonest" "(LLowWater$Cave;III)I" ∈ zT ∧ Cond.instanceMethod ⟨"LowWater$Reader", "soonest", "(LLowWater$Cave;III)I"⟩ ∈ zT ∧ Cond.code ⟨"LowWater$Reader", "soonest", "(LLowWater$Cave;III)I"⟩ cX6_soonest 8 (some .int) ∈ zT ∧ Cond.selects "LowWater$Diver" ⟨"LowWater$Reader", "soonest", "(LLowWater$Cave;III)I"⟩ yX6_soonest ∈ zT ∧ Cond.instanceMethod yX6_soonest ∈ zT ∧ "LowWater$Reader" ≠ "java/lang/invoke/MethodHandle" ∧ "LowWater$Reader" ≠ "java/lang/invoke/VarHandle" ∧ (parseMethodDescriptor "(LLowWater$Cave;III)I").map (fun d => d.parameters.length) = some 4 := ⟨zw_593, zw_526, zw_524, zw_533, zw_528, zw_524, by decide +kernel, by decide +kernel, by decide +kernel⟩
theorem zw_529 : Cond.selects "LowWater$Fast" yX6_soonest yX6_soonest ∈ zT := zT_t (i := 529) (by decide +kernel) (by decide +kernel)
theorem ku_X4_89_X3 : Cond.methodLink "LowWater$Orders" 89 ⟨"LowWater$Reader", "soonest", "(LLowWater$Cave;III)I"⟩ ∈ zT ∧ Cond.sameMethod "LowWater$Reader" "LowWater$Reader" "soonest" "(LLowWater$Cave;III)I" ∈ zT ∧ Cond.instanceMethod ⟨"LowWater$Reader", "soonest", "(LLowWater$Cave;III)I"⟩ ∈ zT ∧ Cond.code ⟨"LowWater$Reader", "soonest", "(LLowWater$Cave;III)I"⟩ cX6_soonest 8 (some .int) ∈ zT ∧ Cond.selects "LowWater$Fast" ⟨"LowWater$Reader", "soonest", "(LLowWater$Cave;III)I"⟩ yX6_soonest ∈ zT ∧ Cond.instanceMethod yX6_soonest ∈ zT ∧ "LowWater$Reader" ≠ "java/lang/invoke/MethodHandle" ∧ "LowWater$Reader" ≠ "java/lang/invoke/VarHandle" ∧ (parseMethodDescriptor "(LLowWater$Cave;III)I").map (fun d => d.parameters.length) = some 4 := ⟨zw_593, zw_526, zw_524, zw_533, zw_529, zw_524, by decide +kernel, by decide +kernel, by decide +kernel⟩
theorem zw_530 : Cond.selects "LowWater$Quick" yX6_soonest yX6_soonest ∈ zT := zT_t (i := 530) (by decide +kernel) (by decide +kernel)
theorem ku_X4_89_X5 : Cond.methodLink "LowWater$Orders" 89 ⟨"LowWater$Reader", "soonest", "(LLowWater$Cave;III)I"⟩ ∈ zT ∧ Cond.sameMethod "LowWater$Reader" "LowWater$Reader" "soonest" "(LLowWater$Cave;III)I" ∈ zT ∧ Cond.instanceMethod ⟨"LowWater$Reader", "soonest", "(LLowWater$Cave;III)I"⟩ ∈ zT ∧ Cond.code ⟨"LowWater$Reader", "soonest", "(LLowWater$Cave;III)I"⟩ cX6_soonest 8 (some .int) ∈ zT ∧ Cond.selects "LowWater$Quick" ⟨"LowWater$Reader", "soonest", "(LLowWater$Cave;III)I"⟩ yX6_soonest ∈ zT ∧ Cond.instanceMethod yX6_soonest ∈ zT ∧ "LowWater$Reader" ≠ "java/lang/invoke/MethodHandle" ∧ "LowWater$Reader" ≠ "java/lang/invoke/VarHandle" ∧ (parseMethodDescriptor "(LLowWater$Cave;III)I").map (fun d => d.parameters.length) = some 4 := ⟨zw_593, zw_526, zw_524, zw_533, zw_530, zw_524, by decide +kernel, by decide +kernel, by decide +kernel⟩
theorem zw_525 : Cond.selects "LowWater$Reader" yX6_soonest yX6_soonest ∈ zT := zT_t (i := 525) (by decide +kernel) (by decide +kernel)
theorem k_X4_89_X6 : Cond.methodLink "LowWater$Orders" 89 yX6_soonest ∈ zT ∧ Cond.instanceMethod yX6_soonest ∈ zT ∧ Cond.selects yX6_soonest.cls yX6_soonest yX6_soonest ∈ zT := ⟨zw_593, zw_524, zw_525⟩
theorem ku_X4_89_X6 : Cond.methodLink "LowWater$Orders" 89 ⟨"LowWater$Reader", "soonest", "(LLowWater$Cave;III)I"⟩ ∈ zT ∧ Cond.sameMethod "LowWater$Reader" "LowWater$Reader" "soonest" "(LLowWater$Cave;III)I" ∈ zT ∧ Cond.instanceMethod ⟨"LowWater$Reader", "soonest", "(LLowWater$Cave;III)I"⟩ ∈ zT ∧ Cond.code ⟨"LowWater$Reader", "soonest", "(LLowWater$Cave;III)I"⟩ cX6_soonest 8 (some .int) ∈ zT ∧ Cond.selects "LowWater$Reader" ⟨"LowWater$Reader", "soonest", "(LLowWater$Cave;III)I"⟩ yX6_soonest ∈ zT ∧ Cond.instanceMethod yX6_soonest ∈ zT ∧ "LowWater$Reader" ≠ "java/lang/invoke/MethodHandle" ∧ "LowWater$Reader" ≠ "java/lang/invoke/VarHandle" ∧ (parseMethodDescriptor "(LLowWater$Cave;III)I").map (fun d => d.parameters.length) = some 4 := ⟨zw_593, zw_526, zw_524, zw_533, zw_525, zw_524, by decide +kernel, by decide +kernel, by decide +kernel⟩
theorem zw_531 : Cond.selects "LowWater$Rowed" yX6_soonest yX6_soonest ∈ zT := zT_t (i := 531) (by decide +kernel) (by decide +kernel)
theorem ku_X4_89_X8 : Cond.methodLink "LowWater$Orders" 89 ⟨"LowWater$Reader", "soonest", "(LLowWater$Cave;III)I"⟩ ∈ zT ∧ Cond.sameMethod "LowWater$Reader" "LowWater$Reader" "soonest" "(LLowWater$Cave;III)I" ∈ zT ∧ Cond.instanceMethod ⟨"LowWater$Reader", "soonest", "(LLowWater$Cave;III)I"⟩ ∈ zT ∧ Cond.code ⟨"LowWater$Reader", "soonest", "(LLowWater$Cave;III)I"⟩ cX6_soonest 8 (some .int) ∈ zT ∧ Cond.selects "LowWater$Rowed" ⟨"LowWater$Reader", "soonest", "(LLowWater$Cave;III)I"⟩ yX6_soonest ∈ zT ∧ Cond.instanceMethod yX6_soonest ∈ zT ∧ "LowWater$Reader" ≠ "java/lang/invoke/MethodHandle" ∧ "LowWater$Reader" ≠ "java/lang/invoke/VarHandle" ∧ (parseMethodDescriptor "(LLowWater$Cave;III)I").map (fun d => d.parameters.length) = some 4 := ⟨zw_593, zw_526, zw_524, zw_533, zw_531, zw_524, by decide +kernel, by decide +kernel, by decide +kernel⟩
theorem zw_532 : Cond.selects "LowWater$Waiting" yX6_soonest yX6_soonest ∈ zT := zT_t (i := 532) (by decide +kernel) (by decide +kernel)
theorem ku_X4_89_X10 : Cond.methodLink "LowWater$Orders" 89 ⟨"LowWater$Reader", "soonest", "(LLowWater$Cave;III)I"⟩ ∈ zT ∧ Cond.sameMethod "LowWater$Reader" "LowWater$Reader" "soonest" "(LLowWater$Cave;III)I" ∈ zT ∧ Cond.instanceMethod ⟨"LowWater$Reader", "soonest", "(LLowWater$Cave;III)I"⟩ ∈ zT ∧ Cond.code ⟨"LowWater$Reader", "soonest", "(LLowWater$Cave;III)I"⟩ cX6_soonest 8 (some .int) ∈ zT ∧ Cond.selects "LowWater$Waiting" ⟨"LowWater$Reader", "soonest", "(LLowWater$Cave;III)I"⟩ yX6_soonest ∈ zT ∧ Cond.instanceMethod yX6_soonest ∈ zT ∧ "LowWater$Reader" ≠ "java/lang/invoke/MethodHandle" ∧ "LowWater$Reader" ≠ "java/lang/invoke/VarHandle" ∧ (parseMethodDescriptor "(LLowWater$Cave;III)I").map (fun d => d.parameters.length) = some 4 := ⟨zw_593, zw_526, zw_524, zw_533, zw_532, zw_524, by decide +kernel, by decide +kernel, by decide +kernel⟩
theorem zw_345 : Cond.code yX3_init cX3_init 3 none ∈ zT := zT_t (i := 345) (by decide +kernel) (by decide +kernel)
theorem zw_13 : Cond.initialized "LowWater$Fast" ∈ zT := zT_t (i := 13) (by decide +kernel) (by decide +kernel)
theorem co_X3_init : zCo yX3_init cX3_init 3 none 2 := ⟨zw_345, zw_13, by decide +kernel, by decide +kernel, by decide +kernel⟩
theorem zw_391 : Cond.methodLink "LowWater$Quick" 1 yX3_init ∈ zT := zT_t (i := 391) (by decide +kernel) (by decide +kernel)
theorem zw_344 : Cond.instanceMethod yX3_init ∈ zT := zT_t (i := 344) (by decide +kernel) (by decide +kernel)
theorem k_X5_1 : Cond.methodLink "LowWater$Quick" 1 yX3_init ∈ zT ∧ Cond.instanceMethod yX3_init ∈ zT := ⟨zw_391, zw_344⟩
theorem zw_809 : Cond.code yX3_isA cX3_isA 2 (some .boolean) ∈ zT := zT_t (i := 809) (by decide +kernel) (by decide +kernel)
theorem co_X3_isA : zCo yX3_isA cX3_isA 2 (some .boolean) 1 := ⟨zw_809, zw_13, by decide +kernel, by decide +kernel, by decide +kernel⟩
theorem zw_814 : Cond.methodLink "LowWater$Quick" 7 yX3_isA ∈ zT := zT_t (i := 814) (by decide +kernel) (by decide +kernel)
theorem zw_1232 : Cond.sameMethod "LowWater$Fast" "LowWater$Fast" "isA" "(I)Z" ∈ zT := zT_t (i := 1232) (by decide +kernel) (by decide +kernel)
theorem zw_394 : Cond.superclass "LowWater$Quick" "LowWater$Fast" ∈ zT := zT_t (i := 394) (by decide +kernel) (by decide +kernel)
theorem zw_808 : Cond.instanceMethod yX3_isA ∈ zT := zT_t (i := 808) (by decide +kernel) (by decide +kernel)
theorem k_X5_7 : Cond.methodLink "LowWater$Quick" 7 yX3_isA ∈ zT ∧ Cond.sameMethod yX3_isA.cls yX3_isA.cls yX3_isA.name yX3_isA.desc ∈ zT ∧ Cond.superclass "LowWater$Quick" yX3_isA.cls ∈ zT ∧ Cond.instanceMethod yX3_isA ∈ zT ∧ yX3_isA.name ≠ "<init>" := ⟨zw_814, zw_1232, zw_394, zw_808, by decide +kernel⟩
theorem zw_464 : Cond.code yX3_hoursFor cX3_hoursFor 2 (some .int) ∈ zT := zT_t (i := 464) (by decide +kernel) (by decide +kernel)
theorem co_X3_hoursFor : zCo yX3_hoursFor cX3_hoursFor 2 (some .int) 1 := ⟨zw_464, zw_13, by decide +kernel, by decide +kernel, by decide +kernel⟩
theorem zw_468 : Cond.methodLink "LowWater$Quick" 11 yX3_hoursFor ∈ zT := zT_t (i := 468) (by decide +kernel) (by decide +kernel)
theorem zw_1229 : Cond.sameMethod "LowWater$Fast" "LowWater$Fast" "hoursFor" "(I)I" ∈ zT := zT_t (i := 1229) (by decide +kernel) (by decide +kernel)
theorem zw_463 : Cond.instanceMethod yX3_hoursFor ∈ zT := zT_t (i := 463) (by decide +kernel) (by decide +kernel)
theorem k_X5_11 : Cond.methodLink "LowWater$Quick" 11 yX3_hoursFor ∈ zT ∧ Cond.sameMethod yX3_hoursFor.cls yX3_hoursFor.cls yX3_hoursFor.name yX3_hoursFor.desc ∈ zT ∧ Cond.superclass "LowWater$Quick" yX3_hoursFor.cls ∈ zT ∧ Cond.instanceMethod yX3_hoursFor ∈ zT ∧ yX3_hoursFor.name ≠ "<init>" := ⟨zw_468, zw_1229, zw_394, zw_463, by decide +kernel⟩
theorem zw_358 : Cond.fieldLink "LowWater$Quick" 15 "LowWater$Quick" "v" "I" ∈ zT := zT_t (i := 358) (by decide +kernel) (by decide +kernel)
theorem zw_359 : Cond.sameField "LowWater$Quick" "LowWater$Reader" "v" "I" ∈ zT := zT_t (i := 359) (by decide +kernel) (by decide +kernel)
theorem f_X5_15 : zFL "LowWater$Quick" 15 5 1 true false .int := ⟨RX5, "LowWater$Quick", TX5, 2, tyX5, rfl, by decide, in_X5, tyX5_ok, nmX5, rfl, rfl, (fun h => Bool.noConfusion h), Or.inl zw_358, Or.inr zw_359⟩
theorem zw_469 : Cond.methodLink "LowWater$Quick" 21 Lib.Math.max.name ∈ zT := zT_t (i := 469) (by decide +kernel) (by decide +kernel)
theorem ma_X5_21 : zMa "LowWater$Quick" 21 Lib.Math.max.name Lib.Math.max.code 2 := ⟨zw_469, zw_470, zw_19, zw_471⟩
theorem zw_771 : Cond.methodLink "LowWater$Quick" 27 yX7_add ∈ zT := zT_t (i := 771) (by decide +kernel) (by decide +kernel)
theorem k_X5_27 : Cond.methodLink "LowWater$Quick" 27 yX7_add ∈ zT ∧ Cond.instanceMethod yX7_add ∈ zT ∧ Cond.selects yX7_add.cls yX7_add yX7_add ∈ zT := ⟨zw_771, zw_198, zw_199⟩
theorem zw_785 : Cond.code yX6_bodyOfTells cX6_bodyOfTells 3 (some .int) ∈ zT := zT_t (i := 785) (by decide +kernel) (by decide +kernel)
theorem co_X6_bodyOfTells : zCo yX6_bodyOfTells cX6_bodyOfTells 3 (some .int) 2 := ⟨zw_785, zw_12, by decide +kernel, by decide +kernel, by decide +kernel⟩
theorem zw_731 : Cond.code yX3_bodyOfReads cX3_bodyOfReads 3 (some .int) ∈ zT := zT_t (i := 731) (by decide +kernel) (by decide +kernel)
theorem co_X3_bodyOfReads : zCo yX3_bodyOfReads cX3_bodyOfReads 3 (some .int) 2 := ⟨zw_731, zw_13, by decide +kernel, by decide +kernel, by decide +kernel⟩
theorem zw_775 : Cond.methodLink "LowWater$Quick" 37 ⟨"LowWater$Quick", "bodyOfReads", "(ILLowWater$Row;)I"⟩ ∈ zT := zT_t (i := 775) (by decide +kernel) (by decide +kernel)
theorem zw_776 : Cond.sameMethod "LowWater$Quick" "LowWater$Fast" "bodyOfReads" "(ILLowWater$Row;)I" ∈ zT := zT_t (i := 776) (by decide +kernel) (by decide +kernel)
theorem zw_730 : Cond.instanceMethod yX3_bodyOfReads ∈ zT := zT_t (i := 730) (by decide +kernel) (by decide +kernel)
theorem zw_778 : Cond.selects "LowWater$Quick" ⟨"LowWater$Quick", "bodyOfReads", "(ILLowWater$Row;)I"⟩ yX3_bodyOfReads ∈ zT := zT_t (i := 778) (by decide +kernel) (by decide +kernel)
theorem ku_X5_37_X5 : Cond.methodLink "LowWater$Quick" 37 ⟨"LowWater$Quick", "bodyOfReads", "(ILLowWater$Row;)I"⟩ ∈ zT ∧ Cond.sameMethod "LowWater$Quick" "LowWater$Fast" "bodyOfReads" "(ILLowWater$Row;)I" ∈ zT ∧ Cond.instanceMethod ⟨"LowWater$Fast", "bodyOfReads", "(ILLowWater$Row;)I"⟩ ∈ zT ∧ Cond.code ⟨"LowWater$Fast", "bodyOfReads", "(ILLowWater$Row;)I"⟩ cX3_bodyOfReads 3 (some .int) ∈ zT ∧ Cond.selects "LowWater$Quick" ⟨"LowWater$Quick", "bodyOfReads", "(ILLowWater$Row;)I"⟩ yX3_bodyOfReads ∈ zT ∧ Cond.instanceMethod yX3_bodyOfReads ∈ zT ∧ "LowWater$Fast" ≠ "java/lang/invoke/MethodHandle" ∧ "LowWater$Fast" ≠ "java/lang/invoke/VarHandle" ∧ (parseMethodDescriptor "(ILLowWater$Row;)I").map (fun d => d.parameters.length) = some 2 := ⟨zw_775, zw_776, zw_730, zw_731, zw_778, zw_730, by decide +kernel, by decide +kernel, by decide +kernel⟩
theorem zw_349 : Cond.methodLink "LowWater$Reader" 3 objectInit ∈ zT := zT_t (i := 349) (by decide +kernel) (by decide +kernel)
theorem k_X6_3 : Cond.methodLink "LowWater$Reader" 3 objectInit ∈ zT ∧ Cond.instanceMethod objectInit ∈ zT ∧ Cond.code objectInit ⟨#[0xb1]⟩ 1 none ∈ zT := ⟨zw_349, zw_28, zw_29⟩
theorem zw_350 : Cond.fieldLink "LowWater$Reader" 9 "LowWater$Reader" "number" "I" ∈ zT := zT_t (i := 350) (by decide +kernel) (by decide +kernel)
theorem f_X6_9 : zFL "LowWater$Reader" 9 6 0 true true .int := ⟨RX6, "LowWater$Reader", TX6, 2, tyX6, rfl, by decide, in_X6, tyX6_ok, nmX6, rfl, rfl, (fun _ => rfl), Or.inl zw_350, Or.inl rfl⟩
theorem zw_353 : Cond.fieldLink "LowWater$Reader" 15 "LowWater$Reader" "v" "I" ∈ zT := zT_t (i := 353) (by decide +kernel) (by decide +kernel)
theorem f_X6_15 : zFL "LowWater$Reader" 15 6 1 true true .int := ⟨RX6, "LowWater$Reader", TX6, 2, tyX6, rfl, by decide, in_X6, tyX6_ok, nmX6, rfl, rfl, (fun _ => rfl), Or.inl zw_353, Or.inl rfl⟩
theorem zw_460 : Cond.code yX0_hoursFor cX0_hoursFor 2 (some .int) ∈ zT := zT_t (i := 460) (by decide +kernel) (by decide +kernel)
theorem zw_17 : Cond.initialized "LowWater$Blind" ∈ zT := zT_t (i := 17) (by decide +kernel) (by decide +kernel)
theorem co_X0_hoursFor : zCo yX0_hoursFor cX0_hoursFor 2 (some .int) 1 := ⟨zw_460, zw_17, by decide +kernel, by decide +kernel, by decide +kernel⟩
theorem zw_534 : Cond.methodLink "LowWater$Reader" 18 yX6_hoursFor ∈ zT := zT_t (i := 534) (by decide +kernel) (by decide +kernel)
theorem zw_457 : Cond.sameMethod "LowWater$Reader" "LowWater$Reader" "hoursFor" "(I)I" ∈ zT := zT_t (i := 457) (by decide +kernel) (by decide +kernel)
theorem zw_455 : Cond.instanceMethod yX6_hoursFor ∈ zT := zT_t (i := 455) (by decide +kernel) (by decide +kernel)
theorem zw_474 : Cond.code yX6_hoursFor cX6_hoursFor 2 (some .int) ∈ zT := zT_t (i := 474) (by decide +kernel) (by decide +kernel)
theorem zw_458 : Cond.selects "LowWater$Blind" yX6_hoursFor yX0_hoursFor ∈ zT := zT_t (i := 458) (by decide +kernel) (by decide +kernel)
theorem zw_459 : Cond.instanceMethod yX0_hoursFor ∈ zT := zT_t (i := 459) (by decide +kernel) (by decide +kernel)
theorem ku_X6_18_X0 : Cond.methodLink "LowWater$Reader" 18 ⟨"LowWater$Reader", "hoursFor", "(I)I"⟩ ∈ zT ∧ Cond.sameMethod "LowWater$Reader" "LowWater$Reader" "hoursFor" "(I)I" ∈ zT ∧ Cond.instanceMethod ⟨"LowWater$Reader", "hoursFor", "(I)I"⟩ ∈ zT ∧ Cond.code ⟨"LowWater$Reader", "hoursFor", "(I)I"⟩ cX6_hoursFor 2 (some .int) ∈ zT ∧ Cond.selects "LowWater$Blind" ⟨"LowWater$Reader", "hoursFor", "(I)I"⟩ yX0_hoursFor ∈ zT ∧ Cond.instanceMethod yX0_hoursFor ∈ zT ∧ "LowWater$Reader" ≠ "java/lang/invoke/MethodHandle" ∧ "LowWater$Reader" ≠ "java/lang/invoke/VarHandle" ∧ (parseMethodDescriptor "(I)I").map (fun d => d.parameters.length) = some 1 := ⟨zw_534, zw_457, zw_455, zw_474, zw_458, zw_459, by decide +kernel, by decide +kernel, by decide +kernel⟩
theorem co_X6_hoursFor : zCo yX6_hoursFor cX6_hoursFor 2 (some .int) 1 := ⟨zw_474, zw_12, by decide +kernel, by decide +kernel, by decide +kernel⟩
theorem zw_461 : Cond.selects "LowWater$Diver" yX6_hoursFor yX6_hoursFor ∈ zT := zT_t (i := 461) (by decide +kernel) (by decide +kernel)
theorem ku_X6_18_X2 : Cond.methodLink "LowWater$Reader" 18 ⟨"LowWater$Reader", "hoursFor", "(I)I"⟩ ∈ zT ∧ Cond.sameMethod "LowWater$Reader" "LowWater$Reader" "hoursFor" "(I)I" ∈ zT ∧ Cond.instanceMethod ⟨"LowWater$Reader", "hoursFor", "(I)I"⟩ ∈ zT ∧ Cond.code ⟨"LowWater$Reader", "hoursFor", "(I)I"⟩ cX6_hoursFor 2 (some .int) ∈ zT ∧ Cond.selects "LowWater$Diver" ⟨"LowWater$Reader", "hoursFor", "(I)I"⟩ yX6_hoursFor ∈ zT ∧ Cond.instanceMethod yX6_hoursFor ∈ zT ∧ "LowWater$Reader" ≠ "java/lang/invoke/MethodHandle" ∧ "LowWater$Reader" ≠ "java/lang/invoke/VarHandle" ∧ (parseMethodDescriptor "(I)I").map (fun d => d.parameters.length) = some 1 := ⟨zw_534, zw_457, zw_455, zw_474, zw_461, zw_455, by decide +kernel, by decide +kernel, by decide +kernel⟩
theorem zw_462 : Cond.selects "LowWater$Fast" yX6_hoursFor yX3_hoursFor ∈ zT := zT_t (i := 462) (by decide +kernel) (by decide +kernel)
theorem ku_X6_18_X3 : Cond.methodLink "LowWater$Reader" 18 ⟨"LowWater$Reader", "hoursFor", "(I)I"⟩ ∈ zT ∧ Cond.sameMethod "LowWater$Reader" "LowWater$Reader" "hoursFor" "(I)I" ∈ zT ∧ Cond.instanceMethod ⟨"LowWater$Reader", "hoursFor", "(I)I"⟩ ∈ zT ∧ Cond.code ⟨"LowWater$Reader", "hoursFor", "(I)I"⟩ cX6_hoursFor 2 (some .int) ∈ zT ∧ Cond.selects "LowWater$Fast" ⟨"LowWater$Reader", "hoursFor", "(I)I"⟩ yX3_hoursFor ∈ zT ∧ Cond.instanceMethod yX3_hoursFor ∈ zT ∧ "LowWater$Reader" ≠ "java/lang/invoke/MethodHandle" ∧ "LowWater$Reader" ≠ "java/lang/invoke/VarHandle" ∧ (parseMethodDescriptor "(I)I").map (fun d => d.parameters.length) = some 1 := ⟨zw_534, zw_457, zw_455, zw_474, zw_462, zw_463, by decide +kernel, by decide +kernel, by decide +kernel⟩
theorem zw_467 : Cond.code yX5_hoursFor cX5_hoursFor 3 (some .int) ∈ zT := zT_t (i := 467) (by decide +kernel) (by decide +kernel)
theorem zw_16 : Cond.initialized "LowWater$Quick" ∈ zT := zT_t (i := 16) (by decide +kernel) (by decide +kernel)
theorem co_X5_hoursFor : zCo yX5_hoursFor cX5_hoursFor 3 (some .int) 1 := ⟨zw_467, zw_16, by decide +kernel, by decide +kernel, by decide +kernel⟩
theorem zw_465 : Cond.selects "LowWater$Quick" yX6_hoursFor yX5_hoursFor ∈ zT := zT_t (i := 465) (by decide +kernel) (by decide +kernel)
theorem zw_466 : Cond.instanceMethod yX5_hoursFor ∈ zT := zT_t (i := 466) (by decide +kernel) (by decide +kernel)
theorem ku_X6_18_X5 : Cond.methodLink "LowWater$Reader" 18 ⟨"LowWater$Reader", "hoursFor", "(I)I"⟩ ∈ zT ∧ Cond.sameMethod "LowWater$Reader" "LowWater$Reader" "hoursFor" "(I)I" ∈ zT ∧ Cond.instanceMethod ⟨"LowWater$Reader", "hoursFor", "(I)I"⟩ ∈ zT ∧ Cond.code ⟨"LowWater$Reader", "hoursFor", "(I)I"⟩ cX6_hoursFor 2 (some .int) ∈ zT ∧ Cond.selects "LowWater$Quick" ⟨"LowWater$Reader", "hoursFor", "(I)I"⟩ yX5_hoursFor ∈ zT ∧ Cond.instanceMethod yX5_hoursFor ∈ zT ∧ "LowWater$Reader" ≠ "java/lang/invoke/MethodHandle" ∧ "LowWater$Reader" ≠ "java/lang/invoke/VarHandle" ∧ (parseMethodDescriptor "(I)I").map (fun d => d.parameters.length) = some 1 := ⟨zw_534, zw_457, zw_455, zw_474, zw_465, zw_466, by decide +kernel, by decide +kernel, by decide +kernel⟩
theorem zw_456 : Cond.selects "LowWater$Reader" yX6_hoursFor yX6_hoursFor ∈ zT := zT_t (i := 456) (by decide +kernel) (by decide +kernel)
theorem k_X6_18_X6 : Cond.methodLink "LowWater$Reader" 18 yX6_hoursFor ∈ zT ∧ Cond.instanceMethod yX6_hoursFor ∈ zT ∧ Cond.selects yX6_hoursFor.cls yX6_hoursFor yX6_hoursFor ∈ zT := ⟨zw_534, zw_455, zw_456⟩
theorem ku_X6_18_X6 : Cond.methodLink "LowWater$Reader" 18 ⟨"LowWater$Reader", "hoursFor", "(I)I"⟩ ∈ zT ∧ Cond.sameMethod "LowWater$Reader" "LowWater$Reader" "hoursFor" "(I)I" ∈ zT ∧ Cond.instanceMethod ⟨"LowWater$Reader", "hoursFor", "(I)I"⟩ ∈ zT ∧ Cond.code ⟨"LowWater$Reader", "hoursFor", "(I)I"⟩ cX6_hoursFor 2 (some .int) ∈ zT ∧ Cond.selects "LowWater$Reader" ⟨"LowWater$Reader", "hoursFor", "(I)I"⟩ yX6_hoursFor ∈ zT ∧ Cond.instanceMethod yX6_hoursFor ∈ zT ∧ "LowWater$Reader" ≠ "java/lang/invoke/MethodHandle" ∧ "LowWater$Reader" ≠ "java/lang/invoke/VarHandle" ∧ (parseMethodDescriptor "(I)I").map (fun d => d.parameters.length) = some 1 := ⟨zw_534, zw_457, zw_455, zw_474, zw_456, zw_455, by decide +kernel, by decide +kernel, by decide +kernel⟩
theorem zw_472 : Cond.selects "LowWater$Rowed" yX6_hoursFor yX6_hoursFor ∈ zT := zT_t (i := 472) (by decide +kernel) (by decide +kernel)
theorem ku_X6_18_X8 : Cond.methodLink "LowWater$Reader" 18 ⟨"LowWater$Reader", "hoursFor", "(I)I"⟩ ∈ zT ∧ Cond.sameMethod "LowWater$Reader" "LowWater$Reader" "hoursFor" "(I)I" ∈ zT ∧ Cond.instanceMethod ⟨"LowWater$Reader", "hoursFor", "(I)I"⟩ ∈ zT ∧ Cond.code ⟨"LowWater$Reader", "hoursFor", "(I)I"⟩ cX6_hoursFor 2 (some .int) ∈ zT ∧ Cond.selects "LowWater$Rowed" ⟨"LowWater$Reader", "hoursFor", "(I)I"⟩ yX6_hoursFor ∈ zT ∧ Cond.instanceMethod yX6_hoursFor ∈ zT ∧ "LowWater$Reader" ≠ "java/lang/invoke/MethodHandle" ∧ "LowWater$Reader" ≠ "java/lang/invoke/VarHandle" ∧ (parseMethodDescriptor "(I)I").map (fun d => d.parameters.length) = some 1 := ⟨zw_534, zw_457, zw_455, zw_474, zw_472, zw_455, by decide +kernel, by decide +kernel, by decide +kernel⟩
theorem zw_473 : Cond.selects "LowWater$Waiting" yX6_hoursFor yX6_hoursFor ∈ zT := zT_t (i := 473) (by decide +kernel) (by decide +kernel)
theorem ku_X6_18_X10 : Cond.methodLink "LowWater$Reader" 18 ⟨"LowWater$Reader", "hoursFor", "(I)I"⟩ ∈ zT ∧ Cond.sameMethod "LowWater$Reader" "LowWater$Reader" "hoursFor" "(I)I" ∈ zT ∧ Cond.instanceMethod ⟨"LowWater$Reader", "hoursFor", "(I)I"⟩ ∈ zT ∧ Cond.code ⟨"LowWater$Reader", "hoursFor", "(I)I"⟩ cX6_hoursFor 2 (some .int) ∈ zT ∧ Cond.selects "LowWater$Waiting" ⟨"LowWater$Reader", "hoursFor", "(I)I"⟩ yX6_hoursFor ∈ zT ∧ Cond.instanceMethod yX6_hoursFor ∈ zT ∧ "LowWater$Reader" ≠ "java/lang/invoke/MethodHandle" ∧ "LowWater$Reader" ≠ "java/lang/invoke/VarHandle" ∧ (parseMethodDescriptor "(I)I").map (fun d => d.parameters.length) = some 1 := ⟨zw_534, zw_457, zw_455, zw_474, zw_473, zw_455, by decide +kernel, by decide +kernel, by decide +kernel⟩
theorem zw_493 : Cond.code yX1_levelAt cX1_levelAt 3 (some .int) ∈ zT := zT_t (i := 493) (by decide +kernel) (by decide +kernel)
theorem co_X1_levelAt : zCo yX1_levelAt cX1_levelAt 3 (some .int) 1 := ⟨zw_493, zw_3, by decide +kernel, by decide +kernel, by decide +kernel⟩
theorem zw_535 : Cond.methodLink "LowWater$Reader" 22 yX1_levelAt ∈ zT := zT_t (i := 535) (by decide +kernel) (by decide +kernel)
theorem zw_491 : Cond.instanceMethod yX1_levelAt ∈ zT := zT_t (i := 491) (by decide +kernel) (by decide +kernel)
theorem zw_492 : Cond.selects "LowWater$Cave" yX1_levelAt yX1_levelAt ∈ zT := zT_t (i := 492) (by decide +kernel) (by decide +kernel)
theorem k_X6_22 : Cond.methodLink "LowWater$Reader" 22 yX1_levelAt ∈ zT ∧ Cond.instanceMethod yX1_levelAt ∈ zT ∧ Cond.selects yX1_levelAt.cls yX1_levelAt yX1_levelAt ∈ zT := ⟨zw_535, zw_491, zw_492⟩
theorem zw_542 : Cond.code yX2_reaches cX2_reaches 3 (some .boolean) ∈ zT := zT_t (i := 542) (by decide +kernel) (by decide +kernel)
theorem co_X2_reaches : zCo yX2_reaches cX2_reaches 3 (some .boolean) 2 := ⟨zw_542, zw_14, by decide +kernel, by decide +kernel, by decide +kernel⟩
theorem zw_536 : Cond.methodLink "LowWater$Reader" 27 yX6_reaches ∈ zT := zT_t (i := 536) (by decide +kernel) (by decide +kernel)
theorem zw_539 : Cond.sameMethod "LowWater$Reader" "LowWater$Reader" "reaches" "(II)Z" ∈ zT := zT_t (i := 539) (by decide +kernel) (by decide +kernel)
theorem zw_537 : Cond.instanceMethod yX6_reaches ∈ zT := zT_t (i := 537) (by decide +kernel) (by decide +kernel)
theorem zw_548 : Cond.code yX6_reaches cX6_reaches 3 (some .boolean) ∈ zT := zT_t (i := 548) (by decide +kernel) (by decide +kernel)
theorem zw_540 : Cond.selects "LowWater$Blind" yX6_reaches yX2_reaches ∈ zT := zT_t (i := 540) (by decide +kernel) (by decide +kernel)
theorem zw_541 : Cond.instanceMethod yX2_reaches ∈ zT := zT_t (i := 541) (by decide +kernel) (by decide +kernel)
theorem ku_X6_27_X0 : Cond.methodLink "LowWater$Reader" 27 ⟨"LowWater$Reader", "reaches", "(II)Z"⟩ ∈ zT ∧ Cond.sameMethod "LowWater$Reader" "LowWater$Reader" "reaches" "(II)Z" ∈ zT ∧ Cond.instanceMethod ⟨"LowWater$Reader", "reaches", "(II)Z"⟩ ∈ zT ∧ Cond.code ⟨"LowWater$Reader", "reaches", "(II)Z"⟩ cX6_reaches 3 (some .boolean) ∈ zT ∧ Cond.selects "LowWater$Blind" ⟨"LowWater$Reader", "reaches", "(II)Z"⟩ yX2_reaches ∈ zT ∧ Cond.instanceMethod yX2_reaches ∈ zT ∧ "LowWater$Reader" ≠ "java/lang/invoke/MethodHandle" ∧ "LowWater$Reader" ≠ "java/lang/invoke/VarHandle" ∧ (parseMethodDescriptor "(II)Z").map (fun d => d.parameters.length) = some 2 := ⟨zw_536, zw_539, zw_537, zw_548, zw_540, zw_541, by decide +kernel, by decide +kernel, by decide +kernel⟩
theorem zw_543 : Cond.selects "LowWater$Diver" yX6_reaches yX2_reaches ∈ zT := zT_t (i := 543) (by decide +kernel) (by decide +kernel)
theorem ku_X6_27_X2 : Cond.methodLink "LowWater$Reader" 27 ⟨"LowWater$Reader", "reaches", "(II)Z"⟩ ∈ zT ∧ Cond.sameMethod "LowWater$Reader" "LowWater$Reader" "reaches" "(II)Z" ∈ zT ∧ Cond.instanceMethod ⟨"LowWater$Reader", "reaches", "(II)Z"⟩ ∈ zT ∧ Cond.code ⟨"LowWater$Reader", "reaches", "(II)Z"⟩ cX6_reaches 3 (some .boolean) ∈ zT ∧ Cond.selects "LowWater$Diver" ⟨"LowWater$Reader", "reaches", "(II)Z"⟩ yX2_reaches ∈ zT ∧ Cond.instanceMethod yX2_reaches ∈ zT ∧ "LowWater$Reader" ≠ "java/lang/invoke/MethodHandle" ∧ "LowWater$Reader" ≠ "java/lang/invoke/VarHandle" ∧ (parseMethodDescriptor "(II)Z").map (fun d => d.parameters.length) = some 2 := ⟨zw_536, zw_539, zw_537, zw_548, zw_543, zw_541, by decide +kernel, by decide +kernel, by decide +kernel⟩
theorem co_X6_reaches : zCo yX6_reaches cX6_reaches 3 (some .boolean) 2 := ⟨zw_548, zw_12, by decide +kernel, by decide +kernel, by decide +kernel⟩
theorem zw_544 : Cond.selects "LowWater$Fast" yX6_reaches yX6_reaches ∈ zT := zT_t (i := 544) (by decide +kernel) (by decide +kernel)
theorem ku_X6_27_X3 : Cond.methodLink "LowWater$Reader" 27 ⟨"LowWater$Reader", "reaches", "(II)Z"⟩ ∈ zT ∧ Cond.sameMethod "LowWater$Reader" "LowWater$Reader" "reaches" "(II)Z" ∈ zT ∧ Cond.instanceMethod ⟨"LowWater$Reader", "reaches", "(II)Z"⟩ ∈ zT ∧ Cond.code ⟨"LowWater$Reader", "reaches", "(II)Z"⟩ cX6_reaches 3 (some .boolean) ∈ zT ∧ Cond.selects "LowWater$Fast" ⟨"LowWater$Reader", "reaches", "(II)Z"⟩ yX6_reaches ∈ zT ∧ Cond.instanceMethod yX6_reaches ∈ zT ∧ "LowWater$Reader" ≠ "java/lang/invoke/MethodHandle" ∧ "LowWater$Reader" ≠ "java/lang/invoke/VarHandle" ∧ (parseMethodDescriptor "(II)Z").map (fun d => d.parameters.length) = some 2 := ⟨zw_536, zw_539, zw_537, zw_548, zw_544, zw_537, by decide +kernel, by decide +kernel, by decide +kernel⟩
theorem zw_545 : Cond.selects "LowWater$Quick" yX6_reaches yX6_reaches ∈ zT := zT_t (i := 545) (by decide +kernel) (by decide +kernel)
theorem ku_X6_27_X5 : Cond.methodLink "LowWater$Reader" 27 ⟨"LowWater$Reader", "reaches", "(II)Z"⟩ ∈ zT ∧ Cond.sameMethod "LowWater$Reader" "LowWater$Reader" "reaches" "(II)Z" ∈ zT ∧ Cond.instanceMethod ⟨"LowWater$Reader", "reaches", "(II)Z"⟩ ∈ zT ∧ Cond.code ⟨"LowWater$Reader", "reaches", "(II)Z"⟩ cX6_reaches 3 (some .boolean) ∈ zT ∧ Cond.selects "LowWater$Quick" ⟨"LowWater$Reader", "reaches", "(II)Z"⟩ yX6_reaches ∈ zT ∧ Cond.instanceMethod yX6_reaches ∈ zT ∧ "LowWater$Reader" ≠ "java/lang/invoke/MethodHandle" ∧ "LowWater$Reader" ≠ "java/lang/invoke/VarHandle" ∧ (parseMethodDescriptor "(II)Z").map (fun d => d.parameters.length) = some 2 := ⟨zw_536, zw_539, zw_537, zw_548, zw_545, zw_537, by decide +kernel, by decide +kernel, by decide +kernel⟩
theorem zw_538 : Cond.selects "LowWater$Reader" yX6_reaches yX6_reaches ∈ zT := zT_t (i := 538) (by decide +kernel) (by decide +kernel)
theorem k_X6_27_X6 : Cond.methodLink "LowWater$Reader" 27 yX6_reaches ∈ zT ∧ Cond.instanceMethod yX6_reaches ∈ zT ∧ Cond.selects yX6_reaches.cls yX6_reaches yX6_reaches ∈ zT := ⟨zw_536, zw_537, zw_538⟩
theorem ku_X6_27_X6 : Cond.methodLink "LowWater$Reader" 27 ⟨"LowWater$Reader", "reaches", "(II)Z"⟩ ∈ zT ∧ Cond.sameMethod "LowWater$Reader" "LowWater$Reader" "reaches" "(II)Z" ∈ zT ∧ Cond.instanceMethod ⟨"LowWater$Reader", "reaches", "(II)Z"⟩ ∈ zT ∧ Cond.code ⟨"LowWater$Reader", "reaches", "(II)Z"⟩ cX6_reaches 3 (some .boolean) ∈ zT ∧ Cond.selects "LowWater$Reader" ⟨"LowWater$Reader", "reaches", "(II)Z"⟩ yX6_reaches ∈ zT ∧ Cond.instanceMethod yX6_reaches ∈ zT ∧ "LowWater$Reader" ≠ "java/lang/invoke/MethodHandle" ∧ "LowWater$Reader" ≠ "java/lang/invoke/VarHandle" ∧ (parseMethodDescriptor "(II)Z").map (fun d => d.parameters.length) = some 2 := ⟨zw_536, zw_539, zw_537, zw_548, zw_538, zw_537, by decide +kernel, by decide +kernel, by decide +kernel⟩
theorem zw_546 : Cond.selects "LowWater$Rowed" yX6_reaches yX6_reaches ∈ zT := zT_t (i := 546) (by decide +kernel) (by decide +kernel)
theorem ku_X6_27_X8 : Cond.methodLink "LowWater$Reader" 27 ⟨"LowWater$Reader", "reaches", "(II)Z"⟩ ∈ zT ∧ Cond.sameMethod "LowWater$Reader" "LowWater$Reader" "reaches" "(II)Z" ∈ zT ∧ Cond.instanceMethod ⟨"LowWater$Reader", "reaches", "(II)Z"⟩ ∈ zT ∧ Cond.code ⟨"LowWater$Reader", "reaches", "(II)Z"⟩ cX6_reaches 3 (some .boolean) ∈ zT ∧ Cond.selects "LowWater$Rowed" ⟨"LowWater$Reader", "reaches", "(II)Z"⟩ yX6_reaches ∈ zT ∧ Cond.instanceMethod yX6_reaches ∈ zT ∧ "LowWater$Reader" ≠ "java/lang/invoke/MethodHandle" ∧ "LowWater$Reader" ≠ "java/lang/invoke/VarHandle" ∧ (parseMethodDescriptor "(II)Z").map (fun d => d.parameters.length) = some 2 := ⟨zw_536, zw_539, zw_537, zw_548, zw_546, zw_537, by decide +kernel, by decide +kernel, by decide +kernel⟩
theorem zw_547 : Cond.selects "LowWater$Waiting" yX6_reaches yX6_reaches ∈ zT := zT_t (i := 547) (by decide +kernel) (by decide +kernel)
theorem ku_X6_27_X10 : Cond.methodLink "LowWater$Reader" 27 ⟨"LowWater$Reader", "reaches", "(II)Z"⟩ ∈ zT ∧ Cond.sameMethod "LowWater$Reader" "LowWater$Reader" "reaches" "(II)Z" ∈ zT ∧ Cond.instanceMethod ⟨"LowWater$Reader", "reaches", "(II)Z"⟩ ∈ zT ∧ Cond.code ⟨"LowWater$Reader", "reaches", "(II)Z"⟩ cX6_reaches 3 (some .boolean) ∈ zT ∧ Cond.selects "LowWater$Waiting" ⟨"LowWater$Reader", "reaches", "(II)Z"⟩ yX6_reaches ∈ zT ∧ Cond.instanceMethod yX6_reaches ∈ zT ∧ "LowWater$Reader" ≠ "java/lang/invoke/MethodHandle" ∧ "LowWater$Reader" ≠ "java/lang/invoke/VarHandle" ∧ (parseMethodDescriptor "(II)Z").map (fun d => d.parameters.length) = some 2 := ⟨zw_536, zw_539, zw_537, zw_548, zw_547, zw_537, by decide +kernel, by decide +kernel, by decide +kernel⟩
theorem zw_567 : Cond.code yX6_mayBegin cX6_mayBegin 3 (some .boolean) ∈ zT := zT_t (i := 567) (by decide +kernel) (by decide +kernel)
theorem co_X6_mayBegin : zCo yX6_mayBegin cX6_mayBegin 3 (some .boolean) 2 := ⟨zw_567, zw_12, by decide +kernel, by decide +kernel, by decide +kernel⟩
theorem zw_549 : Cond.methodLink "LowWater$Reader" 31 yX6_mayBegin ∈ zT := zT_t (i := 549) (by decide +kernel) (by decide +kernel)
theorem zw_552 : Cond.sameMethod "LowWater$Reader" "LowWater$Reader" "mayBegin" "(LLowWater$Cave;I)Z" ∈ zT := zT_t (i := 552) (by decide +kernel) (by decide +kernel)
theorem zw_550 : Cond.instanceMethod yX6_mayBegin ∈ zT := zT_t (i := 550) (by decide +kernel) (by decide +kernel)
theorem zw_553 : Cond.selects "LowWater$Blind" yX6_mayBegin yX6_mayBegin ∈ zT := zT_t (i := 553) (by decide +kernel) (by decide +kernel)
theorem ku_X6_31_X0 : Cond.methodLink "LowWater$Reader" 31 ⟨"LowWater$Reader", "mayBegin", "(LLowWater$Cave;I)Z"⟩ ∈ zT ∧ Cond.sameMethod "LowWater$Reader" "LowWater$Reader" "mayBegin" "(LLowWater$Cave;I)Z" ∈ zT ∧ Cond.instanceMethod ⟨"LowWater$Reader", "mayBegin", "(LLowWater$Cave;I)Z"⟩ ∈ zT ∧ Cond.code ⟨"LowWater$Reader", "mayBegin", "(LLowWater$Cave;I)Z"⟩ cX6_mayBegin 3 (some .boolean) ∈ zT ∧ Cond.selects "LowWater$Blind" ⟨"LowWater$Reader", "mayBegin", "(LLowWater$Cave;I)Z"⟩ yX6_mayBegin ∈ zT ∧ Cond.instanceMethod yX6_mayBegin ∈ zT ∧ "LowWater$Reader" ≠ "java/lang/invoke/MethodHandle" ∧ "LowWater$Reader" ≠ "java/lang/invoke/VarHandle" ∧ (parseMethodDescriptor "(LLowWater$Cave;I)Z").map (fun d => d.parameters.length) = some 2 := ⟨zw_549, zw_552, zw_550, zw_567, zw_553, zw_550, by decide +kernel, by decide +kernel, by decide +kernel⟩
theorem zw_554 : Cond.selects "LowWater$Diver" yX6_mayBegin yX6_mayBegin ∈ zT := zT_t (i := 554) (by decide +kernel) (by decide +kernel)
theorem ku_X6_31_X2 : Cond.methodLink "LowWater$Reader" 31 ⟨"LowWater$Reader", "mayBegin", "(LLowWater$Cave;I)Z"⟩ ∈ zT ∧ Cond.sameMethod "LowWater$Reader" "LowWater$Reader" "mayBegin" "(LLowWater$Cave;I)Z" ∈ zT ∧ Cond.instanceMethod ⟨"LowWater$Reader", "mayBegin", "(LLowWater$Cave;I)Z"⟩ ∈ zT ∧ Cond.code ⟨"LowWater$Reader", "mayBegin", "(LLowWater$Cave;I)Z"⟩ cX6_mayBegin 3 (some .boolean) ∈ zT ∧ Cond.selects "LowWater$Diver" ⟨"LowWater$Reader", "mayBegin", "(LLowWater$Cave;I)Z"⟩ yX6_mayBegin ∈ zT ∧ Cond.instanceMethod yX6_mayBegin ∈ zT ∧ "LowWater$Reader" ≠ "java/lang/invoke/MethodHandle" ∧ "LowWater$Reader" ≠ "java/lang/invoke/VarHandle" ∧ (parseMethodDescriptor "(LLowWater$Cave;I)Z").map (fun d => d.parameters.length) = some 2 := ⟨zw_549, zw_552, zw_550, zw_567, zw_554, zw_550, by decide +kernel, by decide +kernel, by decide +kernel⟩
theorem zw_555 : Cond.selects "LowWater$Fast" yX6_mayBegin yX6_mayBegin ∈ zT := zT_t (i := 555) (by decide +kernel) (by decide +kernel)
theorem ku_X6_31_X3 : Cond.methodLink "LowWater$Reader" 31 ⟨"LowWater$Reader", "mayBegin", "(LLowWater$Cave;I)Z"⟩ ∈ zT ∧ Cond.sameMethod "LowWater$Reader" "LowWater$Reader" "mayBegin" "(LLowWater$Cave;I)Z" ∈ zT ∧ Cond.instanceMethod ⟨"LowWater$Reader", "mayBegin", "(LLowWater$Cave;I)Z"⟩ ∈ zT ∧ Cond.code ⟨"LowWater$Reader", "mayBegin", "(LLowWater$Cave;I)Z"⟩ cX6_mayBegin 3 (some .boolean) ∈ zT ∧ Cond.selects "LowWater$Fast" ⟨"LowWater$Reader", "mayBegin", "(LLowWater$Cave;I)Z"⟩ yX6_mayBegin ∈ zT ∧ Cond.instanceMethod yX6_mayBegin ∈ zT ∧ "LowWater$Reader" ≠ "java/lang/invoke/MethodHandle" ∧ "LowWater$Reader" ≠ "java/lang/invoke/VarHandle" ∧ (parseMethodDescriptor "(LLowWater$Cave;I)Z").map (fun d => d.parameters.length) = some 2 := ⟨zw_549, zw_552, zw_550, zw_567, zw_555, zw_550, by decide +kernel, by decide +kernel, by decide +kernel⟩
theorem zw_556 : Cond.selects "LowWater$Quick" yX6_mayBegin yX6_mayBegin ∈ zT := zT_t (i := 556) (by decide +kernel) (by decide +kernel)
theorem ku_X6_31_X5 : Cond.methodLink "LowWater$Reader" 31 ⟨"LowWater$Reader", "mayBegin", "(LLowWater$Cave;I)Z"⟩ ∈ zT ∧ Cond.sameMethod "LowWater$Reader" "LowWater$Reader" "mayBegin" "(LLowWater$Cave;I)Z" ∈ zT ∧ Cond.instanceMethod ⟨"LowWater$Reader", "mayBegin", "(LLowWater$Cave;I)Z"⟩ ∈ zT ∧ Cond.code ⟨"LowWater$Reader", "mayBegin", "(LLowWater$Cave;I)Z"⟩ cX6_mayBegin 3 (some .boolean) ∈ zT ∧ Cond.selects "LowWater$Quick" ⟨"LowWater$Reader", "mayBegin", "(LLowWater$Cave;I)Z"⟩ yX6_mayBegin ∈ zT ∧ Cond.instanceMethod yX6_mayBegin ∈ zT ∧ "LowWater$Reader" ≠ "java/lang/invoke/MethodHandle" ∧ "LowWater$Reader" ≠ "java/lang/invoke/VarHandle" ∧ (parseMethodDescriptor "(LLowWater$Cave;I)Z").map (fun d => d.parameters.length) = some 2 := ⟨zw_549, zw_552, zw_550, zw_567, zw_556, zw_550, by decide +kernel, by decide +kernel, by decide +kernel⟩
theorem zw_551 : Cond.selects "LowWater$Reader" yX6_mayBegin yX6_mayBegin ∈ zT := zT_t (i := 551) (by decide +kernel) (by decide +kernel)
theorem k_X6_31_X6 : Cond.methodLink "LowWater$Reader" 31 yX6_mayBegin ∈ zT ∧ Cond.instanceMethod yX6_mayBegin ∈ zT ∧ Cond.selects yX6_mayBegin.cls yX6_mayBegin yX6_mayBegin ∈ zT := ⟨zw_549, zw_550, zw_551⟩
theorem ku_X6_31_X6 : Cond.methodLink "LowWater$Reader" 31 ⟨"LowWater$Reader", "mayBegin", "(LLowWater$Cave;I)Z"⟩ ∈ zT ∧ Cond.sameMethod "LowWater$Reader" "LowWater$Reader" "mayBegin" "(LLowWater$Cave;I)Z" ∈ zT ∧ Cond.instanceMethod ⟨"LowWater$Reader", "mayBegin", "(LLowWater$Cave;I)Z"⟩ ∈ zT ∧ Cond.code ⟨"LowWater$Reader", "mayBegin", "(LLowWater$Cave;I)Z"⟩ cX6_mayBegin 3 (some .boolean) ∈ zT ∧ Cond.selects "LowWater$Reader" ⟨"LowWater$Reader", "mayBegin", "(LLowWater$Cave;I)Z"⟩ yX6_mayBegin ∈ zT ∧ Cond.instanceMethod yX6_mayBegin ∈ zT ∧ "LowWater$Reader" ≠ "java/lang/invoke/MethodHandle" ∧ "LowWater$Reader" ≠ "java/lang/invoke/VarHandle" ∧ (parseMethodDescriptor "(LLowWater$Cave;I)Z").map (fun d => d.parameters.length) = some 2 := ⟨zw_549, zw_552, zw_550, zw_567, zw_551, zw_550, by decide +kernel, by decide +kernel, by decide +kernel⟩
theorem zw_559 : Cond.code yX8_mayBegin cX8_mayBegin 3 (some .boolean) ∈ zT := zT_t (i := 559) (by decide +kernel) (by decide +kernel)
theorem zw_15 : Cond.initialized "LowWater$Rowed" ∈ zT := zT_t (i := 15) (by decide +kernel) (by decide +kernel)
theorem co_X8_mayBegin : zCo yX8_mayBegin cX8_mayBegin 3 (some .boolean) 2 := ⟨zw_559, zw_15, by decide +kernel, by decide +kernel, by decide +kernel⟩
theorem zw_557 : Cond.selects "LowWater$Rowed" yX6_mayBegin yX8_mayBegin ∈ zT := zT_t (i := 557) (by decide +kernel) (by decide +kernel)
theorem zw_558 : Cond.instanceMethod yX8_mayBegin ∈ zT := zT_t (i := 558) (by decide +kernel) (by decide +kernel)
theorem ku_X6_31_X8 : Cond.methodLink "LowWater$Reader" 31 ⟨"LowWater$Reader", "mayBegin", "(LLowWater$Cave;I)Z"⟩ ∈ zT ∧ Cond.sameMethod "LowWater$Reader" "LowWater$Reader" "mayBegin" "(LLowWater$Cave;I)Z" ∈ zT ∧ Cond.instanceMethod ⟨"LowWater$Reader", "mayBegin", "(LLowWater$Cave;I)Z"⟩ ∈ zT ∧ Cond.code ⟨"LowWater$Reader", "mayBegin", "(LLowWater$Cave;I)Z"⟩ cX6_mayBegin 3 (some .boolean) ∈ zT ∧ Cond.selects "LowWater$Rowed" ⟨"LowWater$Reader", "mayBegin", "(LLowWater$Cave;I)Z"⟩ yX8_mayBegin ∈ zT ∧ Cond.instanceMethod yX8_mayBegin ∈ zT ∧ "LowWater$Reader" ≠ "java/lang/invoke/MethodHandle" ∧ "LowWater$Reader" ≠ "java/lang/invoke/VarHandle" ∧ (parseMethodDescriptor "(LLowWater$Cave;I)Z").map (fun d => d.parameters.length) = some 2 := ⟨zw_549, zw_552, zw_550, zw_567, zw_557, zw_558, by decide +kernel, by decide +kernel, by decide +kernel⟩
theorem zw_564 : Cond.code yX10_mayBegin cX10_mayBegin 4 (some .boolean) ∈ zT := zT_t (i := 564) (by decide +kernel) (by decide +kernel)
theorem zw_18 : Cond.initialized "LowWater$Waiting" ∈ zT := zT_t (i := 18) (by decide +kernel) (by decide +kernel)
theorem co_X10_mayBegin : zCo yX10_mayBegin cX10_mayBegin 4 (some .boolean) 2 := ⟨zw_564, zw_18, by decide +kernel, by decide +kernel, by decide +kernel⟩
theorem zw_562 : Cond.selects "LowWater$Waiting" yX6_mayBegin yX10_mayBegin ∈ zT := zT_t (i := 562) (by decide +kernel) (by decide +kernel)
theorem zw_563 : Cond.instanceMethod yX10_mayBegin ∈ zT := zT_t (i := 563) (by decide +kernel) (by decide +kernel)
theorem ku_X6_31_X10 : Cond.methodLink "LowWater$Reader" 31 ⟨"LowWater$Reader", "mayBegin", "(LLowWater$Cave;I)Z"⟩ ∈ zT ∧ Cond.sameMethod "LowWater$Reader" "LowWater$Reader" "mayBegin" "(LLowWater$Cave;I)Z" ∈ zT ∧ Cond.instanceMethod ⟨"LowWater$Reader", "mayBegin", "(LLowWater$Cave;I)Z"⟩ ∈ zT ∧ Cond.code ⟨"LowWater$Reader", "mayBegin", "(LLowWater$Cave;I)Z"⟩ cX6_mayBegin 3 (some .boolean) ∈ zT ∧ Cond.selects "LowWater$Waiting" ⟨"LowWater$Reader", "mayBegin", "(LLowWater$Cave;I)Z"⟩ yX10_mayBegin ∈ zT ∧ Cond.instanceMethod yX10_mayBegin ∈ zT ∧ "LowWater$Reader" ≠ "java/lang/invoke/MethodHandle" ∧ "LowWater$Reader" ≠ "java/lang/invoke/VarHandle" ∧ (parseMethodDescriptor "(LLowWater$Cave;I)Z").map (fun d => d.parameters.length) = some 2 := ⟨zw_549, zw_552, zw_550, zw_567, zw_562, zw_563, by decide +kernel, by decide +kernel, by decide +kernel⟩
theorem zw_738 : Cond.methodLink "LowWater$Reader" 35 yX7_add ∈ zT := zT_t (i := 738) (by decide +kernel) (by decide +kernel)
theorem k_X6_35 : Cond.methodLink "LowWater$Reader" 35 yX7_add ∈ zT ∧ Cond.instanceMethod yX7_add ∈ zT ∧ Cond.selects yX7_add.cls yX7_add yX7_add ∈ zT := ⟨zw_738, zw_198, zw_199⟩
theorem zw_723 : Cond.code yX0_bodyOfReads cX0_bodyOfReads 3 (some .int) ∈ zT := zT_t (i := 723) (by decide +kernel) (by decide +kernel)
theorem co_X0_bodyOfReads : zCo yX0_bodyOfReads cX0_bodyOfReads 3 (some .int) 2 := ⟨zw_723, zw_17, by decide +kernel, by decide +kernel, by decide +kernel⟩
theorem zw_760 : Cond.methodLink "LowWater$Reader" 41 yX6_bodyOfReads ∈ zT := zT_t (i := 760) (by decide +kernel) (by decide +kernel)
theorem zw_721 : Cond.selects "LowWater$Blind" yX6_bodyOfReads yX0_bodyOfReads ∈ zT := zT_t (i := 721) (by decide +kernel) (by decide +kernel)
theorem zw_722 : Cond.instanceMethod yX0_bodyOfReads ∈ zT := zT_t (i := 722) (by decide +kernel) (by decide +kernel)
theorem ku_X6_41_X0 : Cond.methodLink "LowWater$Reader" 41 ⟨"LowWater$Reader", "bodyOfReads", "(ILLowWater$Row;)I"⟩ ∈ zT ∧ Cond.sameMethod "LowWater$Reader" "LowWater$Reader" "bodyOfReads" "(ILLowWater$Row;)I" ∈ zT ∧ Cond.instanceMethod ⟨"LowWater$Reader", "bodyOfReads", "(ILLowWater$Row;)I"⟩ ∈ zT ∧ Cond.code ⟨"LowWater$Reader", "bodyOfReads", "(ILLowWater$Row;)I"⟩ cX6_bodyOfReads 3 (some .int) ∈ zT ∧ Cond.selects "LowWater$Blind" ⟨"LowWater$Reader", "bodyOfReads", "(ILLowWater$Row;)I"⟩ yX0_bodyOfReads ∈ zT ∧ Cond.instanceMethod yX0_bodyOfReads ∈ zT ∧ "LowWater$Reader" ≠ "java/lang/invoke/MethodHandle" ∧ "LowWater$Reader" ≠ "java/lang/invoke/VarHandle" ∧ (parseMethodDescriptor "(ILLowWater$Row;)I").map (fun d => d.parameters.length) = some 2 := ⟨zw_760, zw_720, zw_718, zw_737, zw_721, zw_722, by decide +kernel, by decide +kernel, by decide +kernel⟩
theorem zw_728 : Cond.selects "LowWater$Diver" yX6_bodyOfReads yX6_bodyOfReads ∈ zT := zT_t (i := 728) (by decide +kernel) (by decide +kernel)
theorem ku_X6_41_X2 : Cond.methodLink "LowWater$Reader" 41 ⟨"LowWater$Reader", "bodyOfReads", "(ILLowWater$Row;)I"⟩ ∈ zT ∧ Cond.sameMethod "LowWater$Reader" "LowWater$Reader" "bodyOfReads" "(ILLowWater$Row;)I" ∈ zT ∧ Cond.instanceMethod ⟨"LowWater$Reader", "bodyOfReads", "(ILLowWater$Row;)I"⟩ ∈ zT ∧ Cond.code ⟨"LowWater$Reader", "bodyOfReads", "(ILLowWater$Row;)I"⟩ cX6_bodyOfReads 3 (some .int) ∈ zT ∧ Cond.selects "LowWater$Diver" ⟨"LowWater$Reader", "bodyOfReads", "(ILLowWater$Row;)I"⟩ yX6_bodyOfReads ∈ zT ∧ Cond.instanceMethod yX6_bodyOfReads ∈ zT ∧ "LowWater$Reader" ≠ "java/lang/invoke/MethodHandle" ∧ "LowWater$Reader" ≠ "java/lang/invoke/VarHandle" ∧ (parseMethodDescriptor "(ILLowWater$Row;)I").map (fun d => d.parameters.length) = some 2 := ⟨zw_760, zw_720, zw_718, zw_737, zw_728, zw_718, by decide +kernel, by decide +kernel, by decide +kernel⟩
theorem zw_729 : Cond.selects "LowWater$Fast" yX6_bodyOfReads yX3_bodyOfReads ∈ zT := zT_t (i := 729) (by decide +kernel) (by decide +kernel)
theorem ku_X6_41_X3 : Cond.methodLink "LowWater$Reader" 41 ⟨"LowWater$Reader", "bodyOfReads", "(ILLowWater$Row;)I"⟩ ∈ zT ∧ Cond.sameMethod "LowWater$Reader" "LowWater$Reader" "bodyOfReads" "(ILLowWater$Row;)I" ∈ zT ∧ Cond.instanceMethod ⟨"LowWater$Reader", "bodyOfReads", "(ILLowWater$Row;)I"⟩ ∈ zT ∧ Cond.code ⟨"LowWater$Reader", "bodyOfReads", "(ILLowWater$Row;)I"⟩ cX6_bodyOfReads 3 (some .int) ∈ zT ∧ Cond.selects "LowWater$Fast" ⟨"LowWater$Reader", "bodyOfReads", "(ILLowWater$Row;)I"⟩ yX3_bodyOfReads ∈ zT ∧ Cond.instanceMethod yX3_bodyOfReads ∈ zT ∧ "LowWater$Reader" ≠ "java/lang/invoke/MethodHandle" ∧ "LowWater$Reader" ≠ "java/lang/invoke/VarHandle" ∧ (parseMethodDescriptor "(ILLowWater$Row;)I").map (fun d => d.parameters.length) = some 2 := ⟨zw_760, zw_720, zw_718, zw_737, zw_729, zw_730, by decide +kernel, by decide +kernel, by decide +kernel⟩
theorem zw_734 : Cond.selects "LowWater$Quick" yX6_bodyOfReads yX3_bodyOfReads ∈ zT := zT_t (i := 734) (by decide +kernel) (by decide +kernel)
theorem ku_X6_41_X5 : Cond.methodLink "LowWater$Reader" 41 ⟨"LowWater$Reader", "bodyOfReads", "(ILLowWater$Row;)I"⟩ ∈ zT ∧ Cond.sameMethod "LowWater$Reader" "LowWater$Reader" "bodyOfReads" "(ILLowWater$Row;)I" ∈ zT ∧ Cond.instanceMethod ⟨"LowWater$Reader", "bodyOfReads", "(ILLowWater$Row;)I"⟩ ∈ zT ∧ Cond.code ⟨"LowWater$Reader", "bodyOfReads", "(ILLowWater$Row;)I"⟩ cX6_bodyOfReads 3 (some .int) ∈ zT ∧ Cond.selects "LowWater$Quick" ⟨"LowWater$Reader", "bodyOfReads", "(ILLowWater$Row;)I"⟩ yX3_bodyOfReads ∈ zT ∧ Cond.instanceMethod yX3_bodyOfReads ∈ zT ∧ "LowWater$Reader" ≠ "java/lang/invoke/MethodHandle" ∧ "LowWater$Reader" ≠ "java/lang/invoke/VarHandle" ∧ (parseMethodDescriptor "(ILLowWater$Row;)I").map (fun d => d.parameters.length) = some 2 := ⟨zw_760, zw_720, zw_718, zw_737, zw_734, zw_730, by decide +kernel, by decide +kernel, by decide +kernel⟩
theorem zw_719 : Cond.selects "LowWater$Reader" yX6_bodyOfReads yX6_bodyOfReads ∈ zT := zT_t (i := 719) (by decide +kernel) (by decide +kernel)
theorem k_X6_41_X6 : Cond.methodLink "LowWater$Reader" 41 yX6_bodyOfReads ∈ zT ∧ Cond.instanceMethod yX6_bodyOfReads ∈ zT ∧ Cond.selects yX6_bodyOfReads.cls yX6_bodyOfReads yX6_bodyOfReads ∈ zT := ⟨zw_760, zw_718, zw_719⟩
theorem ku_X6_41_X6 : Cond.methodLink "LowWater$Reader" 41 ⟨"LowWater$Reader", "bodyOfReads", "(ILLowWater$Row;)I"⟩ ∈ zT ∧ Cond.sameMethod "LowWater$Reader" "LowWater$Reader" "bodyOfReads" "(ILLowWater$Row;)I" ∈ zT ∧ Cond.instanceMethod ⟨"LowWater$Reader", "bodyOfReads", "(ILLowWater$Row;)I"⟩ ∈ zT ∧ Cond.code ⟨"LowWater$Reader", "bodyOfReads", "(ILLowWater$Row;)I"⟩ cX6_bodyOfReads 3 (some .int) ∈ zT ∧ Cond.selects "LowWater$Reader" ⟨"LowWater$Reader", "bodyOfReads", "(ILLowWater$Row;)I"⟩ yX6_bodyOfReads ∈ zT ∧ Cond.instanceMethod yX6_bodyOfReads ∈ zT ∧ "LowWater$Reader" ≠ "java/lang/invoke/MethodHandle" ∧ "LowWater$Reader" ≠ "java/lang/invoke/VarHandle" ∧ (parseMethodDescriptor "(ILLowWater$Row;)I").map (fun d => d.parameters.length) = some 2 := ⟨zw_760, zw_720, zw_718, zw_737, zw_719, zw_718, by decide +kernel, by decide +kernel, by decide +kernel⟩
theorem zw_735 : Cond.selects "LowWater$Rowed" yX6_bodyOfReads yX6_bodyOfReads ∈ zT := zT_t (i := 735) (by decide +kernel) (by decide +kernel)
theorem ku_X6_41_X8 : Cond.methodLink "LowWater$Reader" 41 ⟨"LowWater$Reader", "bodyOfReads", "(ILLowWater$Row;)I"⟩ ∈ zT ∧ Cond.sameMethod "LowWater$Reader" "LowWater$Reader" "bodyOfReads" "(ILLowWater$Row;)I" ∈ zT ∧ Cond.instanceMethod ⟨"LowWater$Reader", "bodyOfReads", "(ILLowWater$Row;)I"⟩ ∈ zT ∧ Cond.code ⟨"LowWater$Reader", "bodyOfReads", "(ILLowWater$Row;)I"⟩ cX6_bodyOfReads 3 (some .int) ∈ zT ∧ Cond.selects "LowWater$Rowed" ⟨"LowWater$Reader", "bodyOfReads", "(ILLowWater$Row;)I"⟩ yX6_bodyOfReads ∈ zT ∧ Cond.instanceMethod yX6_bodyOfReads ∈ zT ∧ "LowWater$Reader" ≠ "java/lang/invoke/MethodHandle" ∧ "LowWater$Reader" ≠ "java/lang/invoke/VarHandle" ∧ (parseMethodDescriptor "(ILLowWater$Row;)I").map (fun d => d.parameters.length) = some 2 := ⟨zw_760, zw_720, zw_718, zw_737, zw_735, zw_718, by decide +kernel, by decide +kernel, by decide +kernel⟩
theorem zw_736 : Cond.selects "LowWater$Waiting" yX6_bodyOfReads yX6_bodyOfReads ∈ zT := zT_t (i := 736) (by decide +kernel) (by decide +kernel)
theorem ku_X6_41_X10 : Cond.methodLink "LowWater$Reader" 41 ⟨"LowWater$Reader", "bodyOfReads", "(ILLowWater$Row;)I"⟩ ∈ zT ∧ Cond.sameMethod "LowWater$Reader" "LowWater$Reader" "bodyOfReads" "(ILLowWater$Row;)I" ∈ zT ∧ Cond.instanceMethod ⟨"LowWater$Reader", "bodyOfReads", "(ILLowWater$Row;)I"⟩ ∈ zT ∧ Cond.code ⟨"LowWater$Reader", "bodyOfReads", "(ILLowWater$Row;)I"⟩ cX6_bodyOfReads 3 (some .int) ∈ zT ∧ Cond.selects "LowWater$Waiting" ⟨"LowWater$Reader", "bodyOfReads", "(ILLowWater$Row;)I"⟩ yX6_bodyOfReads ∈ zT ∧ Cond.instanceMethod yX6_bodyOfReads ∈ zT ∧ "LowWater$Reader" ≠ "java/lang/invoke/MethodHandle" ∧ "LowWater$Reader" ≠ "java/lang/invoke/VarHandle" ∧ (parseMethodDescriptor "(ILLowWater$Row;)I").map (fun d => d.parameters.length) = some 2 := ⟨zw_760, zw_720, zw_718, zw_737, zw_736, zw_718, by decide +kernel, by decide +kernel, by decide +kernel⟩
theorem zw_745 : Cond.code yX2_bodyOfWaits cX2_bodyOfWaits 3 (some .int) ∈ zT := zT_t (i := 745) (by decide +kernel) (by decide +kernel)
theorem co_X2_bodyOfWaits : zCo yX2_bodyOfWaits cX2_bodyOfWaits 3 (some .int) 2 := ⟨zw_745, zw_14, by decide +kernel, by decide +kernel, by decide +kernel⟩
theorem zw_786 : Cond.methodLink "LowWater$Reader" 45 yX6_bodyOfWaits ∈ zT := zT_t (i := 786) (by decide +kernel) (by decide +kernel)
theorem zw_743 : Cond.selects "LowWater$Blind" yX6_bodyOfWaits yX2_bodyOfWaits ∈ zT := zT_t (i := 743) (by decide +kernel) (by decide +kernel)
theorem zw_744 : Cond.instanceMethod yX2_bodyOfWaits ∈ zT := zT_t (i := 744) (by decide +kernel) (by decide +kernel)
theorem ku_X6_45_X0 : Cond.methodLink "LowWater$Reader" 45 ⟨"LowWater$Reader", "bodyOfWaits", "(ILLowWater$Row;)I"⟩ ∈ zT ∧ Cond.sameMethod "LowWater$Reader" "LowWater$Reader" "bodyOfWaits" "(ILLowWater$Row;)I" ∈ zT ∧ Cond.instanceMethod ⟨"LowWater$Reader", "bodyOfWaits", "(ILLowWater$Row;)I"⟩ ∈ zT ∧ Cond.code ⟨"LowWater$Reader", "bodyOfWaits", "(ILLowWater$Row;)I"⟩ cX6_bodyOfWaits 3 (some .int) ∈ zT ∧ Cond.selects "LowWater$Blind" ⟨"LowWater$Reader", "bodyOfWaits", "(ILLowWater$Row;)I"⟩ yX2_bodyOfWaits ∈ zT ∧ Cond.instanceMethod yX2_bodyOfWaits ∈ zT ∧ "LowWater$Reader" ≠ "java/lang/invoke/MethodHandle" ∧ "LowWater$Reader" ≠ "java/lang/invoke/VarHandle" ∧ (parseMethodDescriptor "(ILLowWater$Row;)I").map (fun d => d.parameters.length) = some 2 := ⟨zw_786, zw_742, zw_740, zw_759, zw_743, zw_744, by decide +kernel, by decide +kernel, by decide +kernel⟩
theorem zw_748 : Cond.selects "LowWater$Diver" yX6_bodyOfWaits yX2_bodyOfWaits ∈ zT := zT_t (i := 748) (by decide +kernel) (by decide +kernel)
theorem ku_X6_45_X2 : Cond.methodLink "LowWater$Reader" 45 ⟨"LowWater$Reader", "bodyOfWaits", "(ILLowWater$Row;)I"⟩ ∈ zT ∧ Cond.sameMethod "LowWater$Reader" "LowWater$Reader" "bodyOfWaits" "(ILLowWater$Row;)I" ∈ zT ∧ Cond.instanceMethod ⟨"LowWater$Reader", "bodyOfWaits", "(ILLowWater$Row;)I"⟩ ∈ zT ∧ Cond.code ⟨"LowWater$Reader", "bodyOfWaits", "(ILLowWater$Row;)I"⟩ cX6_bodyOfWaits 3 (some .int) ∈ zT ∧ Cond.selects "LowWater$Diver" ⟨"LowWater$Reader", "bodyOfWaits", "(ILLowWater$Row;)I"⟩ yX2_bodyOfWaits ∈ zT ∧ Cond.instanceMethod yX2_bodyOfWaits ∈ zT ∧ "LowWater$Reader" ≠ "java/lang/invoke/MethodHandle" ∧ "LowWater$Reader" ≠ "java/lang/invoke/VarHandle" ∧ (parseMethodDescriptor "(ILLowWater$Row;)I").map (fun d => d.parameters.length) = some 2 := ⟨zw_786, zw_742, zw_740, zw_759, zw_748, zw_744, by decide +kernel, by decide +kernel, by decide +kernel⟩
theorem zw_749 : Cond.selects "LowWater$Fast" yX6_bodyOfWaits yX6_bodyOfWaits ∈ zT := zT_t (i := 749) (by decide +kernel) (by decide +kernel)
theorem ku_X6_45_X3 : Cond.methodLink "LowWater$Reader" 45 ⟨"LowWater$Reader", "bodyOfWaits", "(ILLowWater$Row;)I"⟩ ∈ zT ∧ Cond.sameMethod "LowWater$Reader" "LowWater$Reader" "bodyOfWaits" "(ILLowWater$Row;)I" ∈ zT ∧ Cond.instanceMethod ⟨"LowWater$Reader", "bodyOfWaits", "(ILLowWater$Row;)I"⟩ ∈ zT ∧ Cond.code ⟨"LowWater$Reader", "bodyOfWaits", "(ILLowWater$Row;)I"⟩ cX6_bodyOfWaits 3 (some .int) ∈ zT ∧ Cond.selects "LowWater$Fast" ⟨"LowWater$Reader", "bodyOfWaits", "(ILLowWater$Row;)I"⟩ yX6_bodyOfWaits ∈ zT ∧ Cond.instanceMethod yX6_bodyOfWaits ∈ zT ∧ "LowWater$Reader" ≠ "java/lang/invoke/MethodHandle" ∧ "LowWater$Reader" ≠ "java/lang/invoke/VarHandle" ∧ (parseMethodDescriptor "(ILLowWater$Row;)I").map (fun d => d.parameters.length) = some 2 := ⟨zw_786, zw_742, zw_740, zw_759, zw_749, zw_740, by decide +kernel, by decide +kernel, by decide +kernel⟩
theorem zw_750 : Cond.selects "LowWater$Quick" yX6_bodyOfWaits yX6_bodyOfWaits ∈ zT := zT_t (i := 750) (by decide +kernel) (by decide +kernel)
theorem ku_X6_45_X5 : Cond.methodLink "LowWater$Reader" 45 ⟨"LowWater$Reader", "bodyOfWaits", "(ILLowWater$Row;)I"⟩ ∈ zT ∧ Cond.sameMethod "LowWater$Reader" "LowWater$Reader" "bodyOfWaits" "(ILLowWater$Row;)I" ∈ zT ∧ Cond.instanceMethod ⟨"LowWater$Reader", "bodyOfWaits", "(ILLowWater$Row;)I"⟩ ∈ zT ∧ Cond.code ⟨"LowWater$Reader", "bodyOfWaits", "(ILLowWater$Row;)I"⟩ cX6_bodyOfWaits 3 (some .int) ∈ zT ∧ Cond.selects "LowWater$Quick" ⟨"LowWater$Reader", "bodyOfWaits", "(ILLowWater$Row;)I"⟩ yX6_bodyOfWaits ∈ zT ∧ Cond.instanceMethod yX6_bodyOfWaits ∈ zT ∧ "LowWater$Reader" ≠ "java/lang/invoke/MethodHandle" ∧ "LowWater$Reader" ≠ "java/lang/invoke/VarHandle" ∧ (parseMethodDescriptor "(ILLowWater$Row;)I").map (fun d => d.parameters.length) = some 2 := ⟨zw_786, zw_742, zw_740, zw_759, zw_750, zw_740, by decide +kernel, by decide +kernel, by decide +kernel⟩
theorem zw_741 : Cond.selects "LowWater$Reader" yX6_bodyOfWaits yX6_bodyOfWaits ∈ zT := zT_t (i := 741) (by decide +kernel) (by decide +kernel)
theorem k_X6_45_X6 : Cond.methodLink "LowWater$Reader" 45 yX6_bodyOfWaits ∈ zT ∧ Cond.instanceMethod yX6_bodyOfWaits ∈ zT ∧ Cond.selects yX6_bodyOfWaits.cls yX6_bodyOfWaits yX6_bodyOfWaits ∈ zT := ⟨zw_786, zw_740, zw_741⟩
theorem ku_X6_45_X6 : Cond.methodLink "LowWater$Reader" 45 ⟨"LowWater$Reader", "bodyOfWaits", "(ILLowWater$Row;)I"⟩ ∈ zT ∧ Cond.sameMethod "LowWater$Reader" "LowWater$Reader" "bodyOfWaits" "(ILLowWater$Row;)I" ∈ zT ∧ Cond.instanceMethod ⟨"LowWater$Reader", "bodyOfWaits", "(ILLowWater$Row;)I"⟩ ∈ zT ∧ Cond.code ⟨"LowWater$Reader", "bodyOfWaits", "(ILLowWater$Row;)I"⟩ cX6_bodyOfWaits 3 (some .int) ∈ zT ∧ Cond.selects "LowWater$Reader" ⟨"LowWater$Reader", "bodyOfWaits", "(ILLowWater$Row;)I"⟩ yX6_bodyOfWaits ∈ zT ∧ Cond.instanceMethod yX6_bodyOfWaits ∈ zT ∧ "LowWater$Reader" ≠ "java/lang/invoke/MethodHandle" ∧ "LowWater$Reader" ≠ "java/lang/invoke/VarHandle" ∧ (parseMethodDescriptor "(ILLowWater$Row;)I").map (fun d => d.parameters.length) = some 2 := ⟨zw_786, zw_742, zw_740, zw_759, zw_741, zw_740, by decide +kernel, by decide +kernel, by decide +kernel⟩
theorem zw_751 : Cond.selects "LowWater$Rowed" yX6_bodyOfWaits yX6_bodyOfWaits ∈ zT := zT_t (i := 751) (by decide +kernel) (by decide +kernel)
theorem ku_X6_45_X8 : Cond.methodLink "LowWater$Reader" 45 ⟨"LowWater$Reader", "bodyOfWaits", "(ILLowWater$Row;)I"⟩ ∈ zT ∧ Cond.sameMethod "LowWater$Reader" "LowWater$Reader" "bodyOfWaits" "(ILLowWater$Row;)I" ∈ zT ∧ Cond.instanceMethod ⟨"LowWater$Reader", "bodyOfWaits", "(ILLowWater$Row;)I"⟩ ∈ zT ∧ Cond.code ⟨"LowWater$Reader", "bodyOfWaits", "(ILLowWater$Row;)I"⟩ cX6_bodyOfWaits 3 (some .int) ∈ zT ∧ Cond.selects "LowWater$Rowed" ⟨"LowWater$Reader", "bodyOfWaits", "(ILLowWater$Row;)I"⟩ yX6_bodyOfWaits ∈ zT ∧ Cond.instanceMethod yX6_bodyOfWaits ∈ zT ∧ "LowWater$Reader" ≠ "java/lang/invoke/MethodHandle" ∧ "LowWater$Reader" ≠ "java/lang/invoke/VarHandle" ∧ (parseMethodDescriptor "(ILLowWater$Row;)I").map (fun d => d.parameters.length) = some 2 := ⟨zw_786, zw_742, zw_740, zw_759, zw_751, zw_740, by decide +kernel, by decide +kernel, by decide +kernel⟩
theorem zw_754 : Cond.code yX10_bodyOfWaits cX10_bodyOfWaits 3 (some .int) ∈ zT := zT_t (i := 754) (by decide +kernel) (by decide +kernel)
theorem co_X10_bodyOfWaits : zCo yX10_bodyOfWaits cX10_bodyOfWaits 3 (some .int) 2 := ⟨zw_754, zw_18, by decide +kernel, by decide +kernel, by decide +kernel⟩
theorem zw_752 : Cond.selects "LowWater$Waiting" yX6_bodyOfWaits yX10_bodyOfWaits ∈ zT := zT_t (i := 752) (by decide +kernel) (by decide +kernel)
theorem zw_753 : Cond.instanceMethod yX10_bodyOfWaits ∈ zT := zT_t (i := 753) (by decide +kernel) (by decide +kernel)
theorem ku_X6_45_X10 : Cond.methodLink "LowWater$Reader" 45 ⟨"LowWater$Reader", "bodyOfWaits", "(ILLowWater$Row;)I"⟩ ∈ zT ∧ Cond.sameMethod "LowWater$Reader" "LowWater$Reader" "bodyOfWaits" "(ILLowWater$Row;)I" ∈ zT ∧ Cond.instanceMethod ⟨"LowWater$Reader", "bodyOfWaits", "(ILLowWater$Row;)I"⟩ ∈ zT ∧ Cond.code ⟨"LowWater$Reader", "bodyOfWaits", "(ILLowWater$Row;)I"⟩ cX6_bodyOfWaits 3 (some .int) ∈ zT ∧ Cond.selects "LowWater$Waiting" ⟨"LowWater$Reader", "bodyOfWaits", "(ILLowWater$Row;)I"⟩ yX10_bodyOfWaits ∈ zT ∧ Cond.instanceMethod yX10_bodyOfWaits ∈ zT ∧ "LowWater$Reader" ≠ "java/lang/invoke/MethodHandle" ∧ "LowWater$Reader" ≠ "java/lang/invoke/VarHandle" ∧ (parseMethodDescriptor "(ILLowWater$Row;)I").map (fun d => d.parameters.length) = some 2 := ⟨zw_786, zw_742, zw_740, zw_759, zw_752, zw_753, by decide +kernel, by decide +kernel, by decide +kernel⟩
theorem zw_69 : Cond.methodLink "LowWater$Row" 3 objectInit ∈ zT := zT_t (i := 69) (by decide +kernel) (by decide +kernel)
theorem k_X7_3 : Cond.methodLink "LowWater$Row" 3 objectInit ∈ zT ∧ Cond.instanceMethod objectInit ∈ zT ∧ Cond.code objectInit ⟨#[0xb1]⟩ 1 none ∈ zT := ⟨zw_69, zw_28, zw_29⟩
theorem zw_72 : Cond.fieldLink "LowWater$Row" 9 "LowWater$Row" "size" "I" ∈ zT := zT_t (i := 72) (by decide +kernel) (by decide +kernel)
theorem f_X7_9 : zFL "LowWater$Row" 9 7 1 false true .int := ⟨RX7, "LowWater$Row", TX7, 2, tyX7, rfl, by decide, in_X7, tyX7_ok, nmX7, rfl, rfl, (fun _ => rfl), Or.inl zw_72, Or.inl rfl⟩
theorem zw_70 : Cond.fieldLink "LowWater$Row" 15 "LowWater$Row" "items" "[I" ∈ zT := zT_t (i := 70) (by decide +kernel) (by decide +kernel)
theorem f_X7_15 : zFL "LowWater$Row" 15 7 0 true true (.array .int) := ⟨RX7, "LowWater$Row", TX7, 2, tyX7, rfl, by decide, in_X7, tyX7_ok, nmX7, rfl, rfl, (fun _ => rfl), Or.inl zw_70, Or.inl rfl⟩
theorem zw_382 : Cond.methodLink "LowWater$Rowed" 1 yX6_init ∈ zT := zT_t (i := 382) (by decide +kernel) (by decide +kernel)
theorem k_X8_1 : Cond.methodLink "LowWater$Rowed" 1 yX6_init ∈ zT ∧ Cond.instanceMethod yX6_init ∈ zT := ⟨zw_382, zw_347⟩
theorem zw_818 : Cond.methodLink "LowWater$Rowed" 7 yX6_isA ∈ zT := zT_t (i := 818) (by decide +kernel) (by decide +kernel)
theorem zw_385 : Cond.superclass "LowWater$Rowed" "LowWater$Reader" ∈ zT := zT_t (i := 385) (by decide +kernel) (by decide +kernel)
theorem k_X8_7 : Cond.methodLink "LowWater$Rowed" 7 yX6_isA ∈ zT ∧ Cond.sameMethod yX6_isA.cls yX6_isA.cls yX6_isA.name yX6_isA.desc ∈ zT ∧ Cond.superclass "LowWater$Rowed" yX6_isA.cls ∈ zT ∧ Cond.instanceMethod yX6_isA ∈ zT ∧ yX6_isA.name ≠ "<init>" := ⟨zw_818, zw_798, zw_385, zw_796, by decide +kernel⟩
theorem zw_356 : Cond.fieldLink "LowWater$Rowed" 11 "LowWater$Rowed" "v" "I" ∈ zT := zT_t (i := 356) (by decide +kernel) (by decide +kernel)
theorem zw_357 : Cond.sameField "LowWater$Rowed" "LowWater$Reader" "v" "I" ∈ zT := zT_t (i := 357) (by decide +kernel) (by decide +kernel)
theorem f_X8_11 : zFL "LowWater$Rowed" 11 8 1 true false .int := ⟨RX8, "LowWater$Rowed", TX8, 2, tyX8, rfl, by decide, in_X8, tyX8_ok, nmX8, rfl, rfl, (fun h => Bool.noConfusion h), Or.inl zw_356, Or.inr zw_357⟩
theorem zw_560 : Cond.methodLink "LowWater$Rowed" 17 Lib.Math.max.name ∈ zT := zT_t (i := 560) (by decide +kernel) (by decide +kernel)
theorem ma_X8_17 : zMa "LowWater$Rowed" 17 Lib.Math.max.name Lib.Math.max.code 2 := ⟨zw_560, zw_470, zw_19, zw_471⟩
theorem zw_561 : Cond.methodLink "LowWater$Rowed" 23 yJ9_floorMod_7cf53 ∈ zT := zT_t (i := 561) (by decide +kernel) (by decide +kernel)
theorem k_X8_23 : Cond.methodLink "LowWater$Rowed" 23 yJ9_floorMod_7cf53 ∈ zT ∧ Cond.static yJ9_floorMod_7cf53 ∈ zT := ⟨zw_561, zw_495⟩
theorem zw_782 : Cond.methodLink "LowWater$Rowed" 26 yX7_add ∈ zT := zT_t (i := 782) (by decide +kernel) (by decide +kernel)
theorem k_X8_26 : Cond.methodLink "LowWater$Rowed" 26 yX7_add ∈ zT ∧ Cond.instanceMethod yX7_add ∈ zT ∧ Cond.selects yX7_add.cls yX7_add yX7_add ∈ zT := ⟨zw_782, zw_198, zw_199⟩
theorem zw_783 : Cond.methodLink "LowWater$Rowed" 32 yX6_bodyOfTells ∈ zT := zT_t (i := 783) (by decide +kernel) (by decide +kernel)
theorem zw_764 : Cond.sameMethod "LowWater$Reader" "LowWater$Reader" "bodyOfTells" "(ILLowWater$Row;)I" ∈ zT := zT_t (i := 764) (by decide +kernel) (by decide +kernel)
theorem zw_762 : Cond.instanceMethod yX6_bodyOfTells ∈ zT := zT_t (i := 762) (by decide +kernel) (by decide +kernel)
theorem k_X8_32 : Cond.methodLink "LowWater$Rowed" 32 yX6_bodyOfTells ∈ zT ∧ Cond.sameMethod yX6_bodyOfTells.cls yX6_bodyOfTells.cls yX6_bodyOfTells.name yX6_bodyOfTells.desc ∈ zT ∧ Cond.superclass "LowWater$Rowed" yX6_bodyOfTells.cls ∈ zT ∧ Cond.instanceMethod yX6_bodyOfTells ∈ zT ∧ yX6_bodyOfTells.name ≠ "<init>" := ⟨zw_783, zw_764, zw_385, zw_762, by decide +kernel⟩
theorem zw_35 : Cond.methodLink "LowWater$State" 3 objectInit ∈ zT := zT_t (i := 35) (by decide +kernel) (by decide +kernel)
theorem k_X9_3 : Cond.methodLink "LowWater$State" 3 objectInit ∈ zT ∧ Cond.instanceMethod objectInit ∈ zT ∧ Cond.code objectInit ⟨#[0xb1]⟩ 1 none ∈ zT := ⟨zw_35, zw_28, zw_29⟩
theorem zw_80 : Cond.fieldLink "LowWater$State" 9 "LowWater$State" "hour" "I" ∈ zT := zT_t (i := 80) (by decide +kernel) (by decide +kernel)
theorem f_X9_9 : zFL "LowWater$State" 9 9 0 false true .int := ⟨RX9, "LowWater$State", TX9, 11, tyX9, rfl, by decide, in_X9, tyX9_ok, nmX9, rfl, rfl, (fun _ => rfl), Or.inl zw_80, Or.inl rfl⟩
theorem zw_83 : Cond.fieldLink "LowWater$State" 15 "LowWater$State" "caves" "I" ∈ zT := zT_t (i := 83) (by decide +kernel) (by decide +kernel)
theorem f_X9_15 : zFL "LowWater$State" 15 9 1 false true .int := ⟨RX9, "LowWater$State", TX9, 11, tyX9, rfl, by decide, in_X9, tyX9_ok, nmX9, rfl, rfl, (fun _ => rfl), Or.inl zw_83, Or.inl rfl⟩
theorem zw_85 : Cond.fieldLink "LowWater$State" 18 "LowWater$State" "readerCount" "I" ∈ zT := zT_t (i := 85) (by decide +kernel) (by decide +kernel)
theorem f_X9_18 : zFL "LowWater$State" 18 9 2 false true .int := ⟨RX9, "LowWater$State", TX9, 11, tyX9, rfl, by decide, in_X9, tyX9_ok, nmX9, rfl, rfl, (fun _ => rfl), Or.inl zw_85, Or.inl rfl⟩
theorem zw_36 : Cond.classLink "LowWater$State" 21 "LowWater$Cave" ∈ zT := zT_t (i := 36) (by decide +kernel) (by decide +kernel)
theorem zw_37 : Cond.instantiable "LowWater$Cave" 6 ∈ zT := zT_t (i := 37) (by decide +kernel) (by decide +kernel)
theorem nw_X9_21 : zNW "LowWater$State" 21 1 6 [.null, .null, .int 0, .null, .null, .int 0] := ⟨RX1, TX1, tyX1, rfl, in_X1, tyX1_ok, zw_36, zw_37, zw_3, by decide +kernel⟩
theorem zw_40 : Cond.code yX1_init cX1_init 1 none ∈ zT := zT_t (i := 40) (by decide +kernel) (by decide +kernel)
theorem co_X1_init : zCo yX1_init cX1_init 1 none 0 := ⟨zw_40, zw_3, by decide +kernel, by decide +kernel, by decide +kernel⟩
theorem zw_39 : Cond.instanceMethod yX1_init ∈ zT := zT_t (i := 39) (by decide +kernel) (by decide +kernel)
theorem k_X9_23 : ("LowWater$State", 23, yX1_init, "LowWater") ∈ zNM ∧ Cond.instanceMethod yX1_init ∈ zT := ⟨by decide +kernel, zw_39⟩
theorem zw_87 : Cond.fieldLink "LowWater$State" 24 "LowWater$State" "cave" "LLowWater$Cave;" ∈ zT := zT_t (i := 87) (by decide +kernel) (by decide +kernel)
theorem f_X9_24 : zFL "LowWater$State" 24 9 3 false true (.object "LowWater$Cave") := ⟨RX9, "LowWater$State", TX9, 11, tyX9, rfl, by decide, in_X9, tyX9_ok, nmX9, rfl, rfl, (fun _ => rfl), Or.inl zw_87, Or.inl rfl⟩
theorem zw_62 : Cond.classLink "LowWater$State" 28 "LowWater$Reader" ∈ zT := zT_t (i := 62) (by decide +kernel) (by decide +kernel)
theorem ac_X9_28 : Cond.classLink "LowWater$State" 28 "LowWater$Reader" ∈ zT := zw_62
theorem zw_90 : Cond.fieldLink "LowWater$State" 30 "LowWater$State" "readers" "[LLowWater$Reader;" ∈ zT := zT_t (i := 90) (by decide +kernel) (by decide +kernel)
theorem f_X9_30 : zFL "LowWater$State" 30 9 4 true true (.array (.object "LowWater$Reader")) := ⟨RX9, "LowWater$State", TX9, 11, tyX9, rfl, by decide, in_X9, tyX9_ok, nmX9, rfl, rfl, (fun _ => rfl), Or.inl zw_90, Or.inl rfl⟩
theorem zw_64 : Cond.classLink "LowWater$State" 34 "LowWater$Row" ∈ zT := zT_t (i := 64) (by decide +kernel) (by decide +kernel)
theorem zw_65 : Cond.instantiable "LowWater$Row" 2 ∈ zT := zT_t (i := 65) (by decide +kernel) (by decide +kernel)
theorem nw_X9_34 : zNW "LowWater$State" 34 7 2 [.null, .int 0] := ⟨RX7, TX7, tyX7, rfl, in_X7, tyX7_ok, zw_64, zw_65, zw_4, by decide +kernel⟩
theorem zw_68 : Cond.code yX7_init cX7_init 2 none ∈ zT := zT_t (i := 68) (by decide +kernel) (by decide +kernel)
theorem co_X7_init : zCo yX7_init cX7_init 2 none 1 := ⟨zw_68, zw_4, by decide +kernel, by decide +kernel, by decide +kernel⟩
theorem zw_66 : Cond.methodLink "LowWater$State" 36 yX7_init ∈ zT := zT_t (i := 66) (by decide +kernel) (by decide +kernel)
theorem zw_67 : Cond.instanceMethod yX7_init ∈ zT := zT_t (i := 67) (by decide +kernel) (by decide +kernel)
theorem k_X9_36 : Cond.methodLink "LowWater$State" 36 yX7_init ∈ zT ∧ Cond.instanceMethod yX7_init ∈ zT := ⟨zw_66, zw_67⟩
theorem zw_92 : Cond.fieldLink "LowWater$State" 39 "LowWater$State" "tape" "LLowWater$Row;" ∈ zT := zT_t (i := 92) (by decide +kernel) (by decide +kernel)
theorem f_X9_39 : zFL "LowWater$State" 39 9 5 true true (.object "LowWater$Row") := ⟨RX9, "LowWater$State", TX9, 11, tyX9, rfl, by decide, in_X9, tyX9_ok, nmX9, rfl, rfl, (fun _ => rfl), Or.inl zw_92, Or.inl rfl⟩
theorem zw_94 : Cond.fieldLink "LowWater$State" 43 "LowWater$State" "shelves" "LLowWater$Row;" ∈ zT := zT_t (i := 94) (by decide +kernel) (by decide +kernel)
theorem f_X9_43 : zFL "LowWater$State" 43 9 6 true true (.object "LowWater$Row") := ⟨RX9, "LowWater$State", TX9, 11, tyX9, rfl, by decide, in_X9, tyX9_ok, nmX9, rfl, rfl, (fun _ => rfl), Or.inl zw_94, Or.inl rfl⟩
theorem zw_97 : Cond.fieldLink "LowWater$State" 46 "LowWater$State" "lines" "LLowWater$Row;" ∈ zT := zT_t (i := 97) (by decide +kernel) (by decide +kernel)
theorem f_X9_46 : zFL "LowWater$State" 46 9 7 true true (.object "LowWater$Row") := ⟨RX9, "LowWater$State", TX9, 11, tyX9, rfl, by decide, in_X9, tyX9_ok, nmX9, rfl, rfl, (fun _ => rfl), Or.inl zw_97, Or.inl rfl⟩
theorem zw_100 : Cond.fieldLink "LowWater$State" 49 "LowWater$State" "asks" "LLowWater$Row;" ∈ zT := zT_t (i := 100) (by decide +kernel) (by decide +kernel)
theorem f_X9_49 : zFL "LowWater$State" 49 9 8 true true (.object "LowWater$Row") := ⟨RX9, "LowWater$State", TX9, 11, tyX9, rfl, by decide, in_X9, tyX9_ok, nmX9, rfl, rfl, (fun _ => rfl), Or.inl zw_100, Or.inl rfl⟩
theorem zw_102 : Cond.fieldLink "LowWater$State" 52 "LowWater$State" "seen" "LLowWater$Row;" ∈ zT := zT_t (i := 102) (by decide +kernel) (by decide +kernel)
theorem f_X9_52 : zFL "LowWater$State" 52 9 9 true true (.object "LowWater$Row") := ⟨RX9, "LowWater$State", TX9, 11, tyX9, rfl, by decide, in_X9, tyX9_ok, nmX9, rfl, rfl, (fun _ => rfl), Or.inl zw_102, Or.inl rfl⟩
theorem zw_104 : Cond.fieldLink "LowWater$State" 55 "LowWater$State" "tales" "LLowWater$Row;" ∈ zT := zT_t (i := 104) (by decide +kernel) (by decide +kernel)
theorem f_X9_55 : zFL "LowWater$State" 55 9 10 true true (.object "LowWater$Row") := ⟨RX9, "LowWater$State", TX9, 11, tyX9, rfl, by decide, in_X9, tyX9_ok, nmX9, rfl, rfl, (fun _ => rfl), Or.inl zw_104, Or.inl rfl⟩
theorem zw_835 : Cond.code yX1_takeFrom cX1_takeFrom 3 none ∈ zT := zT_t (i := 835) (by decide +kernel) (by decide +kernel)
theorem co_X1_takeFrom : zCo yX1_takeFrom cX1_takeFrom 3 none 1 := ⟨zw_835, zw_3, by decide +kernel, by decide +kernel, by decide +kernel⟩
theorem zw_832 : Cond.methodLink "LowWater$State" 58 yX1_takeFrom ∈ zT := zT_t (i := 832) (by decide +kernel) (by decide +kernel)
theorem zw_833 : Cond.instanceMethod yX1_takeFrom ∈ zT := zT_t (i := 833) (by decide +kernel) (by decide +kernel)
theorem zw_834 : Cond.selects "LowWater$Cave" yX1_takeFrom yX1_takeFrom ∈ zT := zT_t (i := 834) (by decide +kernel) (by decide +kernel)
theorem k_X9_58 : Cond.methodLink "LowWater$State" 58 yX1_takeFrom ∈ zT ∧ Cond.instanceMethod yX1_takeFrom ∈ zT ∧ Cond.selects yX1_takeFrom.cls yX1_takeFrom yX1_takeFrom ∈ zT := ⟨zw_832, zw_833, zw_834⟩
theorem zw_840 : Cond.code yX7_takeFrom cX7_takeFrom 3 none ∈ zT := zT_t (i := 840) (by decide +kernel) (by decide +kernel)
theorem co_X7_takeFrom : zCo yX7_takeFrom cX7_takeFrom 3 none 1 := ⟨zw_840, zw_4, by decide +kernel, by decide +kernel, by decide +kernel⟩
theorem zw_837 : Cond.methodLink "LowWater$State" 62 yX7_takeFrom ∈ zT := zT_t (i := 837) (by decide +kernel) (by decide +kernel)
theorem zw_838 : Cond.instanceMethod yX7_takeFrom ∈ zT := zT_t (i := 838) (by decide +kernel) (by decide +kernel)
theorem zw_839 : Cond.selects "LowWater$Row" yX7_takeFrom yX7_takeFrom ∈ zT := zT_t (i := 839) (by decide +kernel) (by decide +kernel)
theorem k_X9_62 : Cond.methodLink "LowWater$State" 62 yX7_takeFrom ∈ zT ∧ Cond.instanceMethod yX7_takeFrom ∈ zT ∧ Cond.selects yX7_takeFrom.cls yX7_takeFrom yX7_takeFrom ∈ zT := ⟨zw_837, zw_838, zw_839⟩
theorem zw_381 : Cond.code yX8_init cX8_init 3 none ∈ zT := zT_t (i := 381) (by decide +kernel) (by decide +kernel)
theorem co_X8_init : zCo yX8_init cX8_init 3 none 2 := ⟨zw_381, zw_15, by decide +kernel, by decide +kernel, by decide +kernel⟩
theorem zw_409 : Cond.methodLink "LowWater$Waiting" 1 yX8_init ∈ zT := zT_t (i := 409) (by decide +kernel) (by decide +kernel)
theorem zw_380 : Cond.instanceMethod yX8_init ∈ zT := zT_t (i := 380) (by decide +kernel) (by decide +kernel)
theorem k_X10_1 : Cond.methodLink "LowWater$Waiting" 1 yX8_init ∈ zT ∧ Cond.instanceMethod yX8_init ∈ zT := ⟨zw_409, zw_380⟩
theorem zw_817 : Cond.code yX8_isA cX8_isA 2 (some .boolean) ∈ zT := zT_t (i := 817) (by decide +kernel) (by decide +kernel)
theorem co_X8_isA : zCo yX8_isA cX8_isA 2 (some .boolean) 1 := ⟨zw_817, zw_15, by decide +kernel, by decide +kernel, by decide +kernel⟩
theorem zw_822 : Cond.methodLink "LowWater$Waiting" 7 yX8_isA ∈ zT := zT_t (i := 822) (by decide +kernel) (by decide +kernel)
theorem zw_1233 : Cond.sameMethod "LowWater$Rowed" "LowWater$Rowed" "isA" "(I)Z" ∈ zT := zT_t (i := 1233) (by decide +kernel) (by decide +kernel)
theorem zw_412 : Cond.superclass "LowWater$Waiting" "LowWater$Rowed" ∈ zT := zT_t (i := 412) (by decide +kernel) (by decide +kernel)
theorem zw_816 : Cond.instanceMethod yX8_isA ∈ zT := zT_t (i := 816) (by decide +kernel) (by decide +kernel)
theorem k_X10_7 : Cond.methodLink "LowWater$Waiting" 7 yX8_isA ∈ zT ∧ Cond.sameMethod yX8_isA.cls yX8_isA.cls yX8_isA.name yX8_isA.desc ∈ zT ∧ Cond.superclass "LowWater$Waiting" yX8_isA.cls ∈ zT ∧ Cond.instanceMethod yX8_isA ∈ zT ∧ yX8_isA.name ≠ "<init>" := ⟨zw_822, zw_1233, zw_412, zw_816, by decide +kernel⟩
theorem zw_565 : Cond.methodLink "LowWater$Waiting" 11 yX8_mayBegin ∈ zT := zT_t (i := 565) (by decide +kernel) (by decide +kernel)
theorem zw_1230 : Cond.sameMethod "LowWater$Rowed" "LowWater$Rowed" "mayBegin" "(LLowWater$Cave;I)Z" ∈ zT := zT_t (i := 1230) (by decide +kernel) (by decide +kernel)
theorem k_X10_11 : Cond.methodLink "LowWater$Waiting" 11 yX8_mayBegin ∈ zT ∧ Cond.sameMethod yX8_mayBegin.cls yX8_mayBegin.cls yX8_mayBegin.name yX8_mayBegin.desc ∈ zT ∧ Cond.superclass "LowWater$Waiting" yX8_mayBegin.cls ∈ zT ∧ Cond.instanceMethod yX8_mayBegin ∈ zT ∧ yX8_mayBegin.name ≠ "<init>" := ⟨zw_565, zw_1230, zw_412, zw_558, by decide +kernel⟩
theorem zw_566 : Cond.methodLink "LowWater$Waiting" 15 yX1_levelAt ∈ zT := zT_t (i := 566) (by decide +kernel) (by decide +kernel)
theorem k_X10_15 : Cond.methodLink "LowWater$Waiting" 15 yX1_levelAt ∈ zT ∧ Cond.instanceMethod yX1_levelAt ∈ zT ∧ Cond.selects yX1_levelAt.cls yX1_levelAt yX1_levelAt ∈ zT := ⟨zw_566, zw_491, zw_492⟩
theorem zw_755 : Cond.methodLink "LowWater$Waiting" 21 yX7_add ∈ zT := zT_t (i := 755) (by decide +kernel) (by decide +kernel)
theorem k_X10_21 : Cond.methodLink "LowWater$Waiting" 21 yX7_add ∈ zT ∧ Cond.instanceMethod yX7_add ∈ zT ∧ Cond.selects yX7_add.cls yX7_add yX7_add ∈ zT := ⟨zw_755, zw_198, zw_199⟩
theorem zw_360 : Cond.fieldLink "LowWater$Waiting" 31 "LowWater$Waiting" "v" "I" ∈ zT := zT_t (i := 360) (by decide +kernel) (by decide +kernel)
theorem zw_361 : Cond.sameField "LowWater$Waiting" "LowWater$Reader" "v" "I" ∈ zT := zT_t (i := 361) (by decide +kernel) (by decide +kernel)
theorem f_X10_31 : zFL "LowWater$Waiting" 31 10 1 true false .int := ⟨RX10, "LowWater$Waiting", TX10, 2, tyX10, rfl, by decide, in_X10, tyX10_ok, nmX10, rfl, rfl, (fun h => Bool.noConfusion h), Or.inl zw_360, Or.inr zw_361⟩
theorem zw_27 : Cond.methodLink "LowWater" 3 objectInit ∈ zT := zT_t (i := 27) (by decide +kernel) (by decide +kernel)
theorem k_X11_3 : Cond.methodLink "LowWater" 3 objectInit ∈ zT ∧ Cond.instanceMethod objectInit ∈ zT ∧ Cond.code objectInit ⟨#[0xb1]⟩ 1 none ∈ zT := ⟨zw_27, zw_28, zw_29⟩
theorem zw_30 : Cond.classLink "LowWater" 9 "LowWater$State" ∈ zT := zT_t (i := 30) (by decide +kernel) (by decide +kernel)
theorem zw_31 : Cond.instantiable "LowWater$State" 11 ∈ zT := zT_t (i := 31) (by decide +kernel) (by decide +kernel)
theorem zw_2 : Cond.initialized "LowWater$State" ∈ zT := zT_t (i := 2) (by decide +kernel) (by decide +kernel)
theorem nw_X11_9 : zNW "LowWater" 9 9 11 [.int 0, .int 0, .int 0, .null, .null, .null, .null, .null, .null, .null, .null] := ⟨RX9, TX9, tyX9, rfl, in_X9, tyX9_ok, zw_30, zw_31, zw_2, by decide +kernel⟩
theorem zw_34 : Cond.code yX9_init cX9_init 1 none ∈ zT := zT_t (i := 34) (by decide +kernel) (by decide +kernel)
theorem co_X9_init : zCo yX9_init cX9_init 1 none 0 := ⟨zw_34, zw_2, by decide +kernel, by decide +kernel, by decide +kernel⟩
theorem zw_33 : Cond.instanceMethod yX9_init ∈ zT := zT_t (i := 33) (by decide +kernel) (by decide +kernel)
theorem k_X11_11 : ("LowWater", 11, yX9_init, "LowWater") ∈ zNM ∧ Cond.instanceMethod yX9_init ∈ zT := ⟨by decide +kernel, zw_33⟩
theorem zw_164 : Cond.fieldLink "LowWater" 12 "LowWater" "now" "LLowWater$State;" ∈ zT := zT_t (i := 164) (by decide +kernel) (by decide +kernel)
theorem f_X11_12 : zFL "LowWater" 12 11 0 true true (.object "LowWater$State") := ⟨RX11, "LowWater", TX11, 8, tyX11, rfl, by decide, in_X11, tyX11_ok, nmX11, rfl, rfl, (fun _ => rfl), Or.inl zw_164, Or.inl rfl⟩
theorem zw_165 : Cond.fieldLink "LowWater" 18 "LowWater" "kept" "LLowWater$State;" ∈ zT := zT_t (i := 165) (by decide +kernel) (by decide +kernel)
theorem f_X11_18 : zFL "LowWater" 18 11 1 true true (.object "LowWater$State") := ⟨RX11, "LowWater", TX11, 8, tyX11, rfl, by decide, in_X11, tyX11_ok, nmX11, rfl, rfl, (fun _ => rfl), Or.inl zw_165, Or.inl rfl⟩
theorem zw_166 : Cond.fieldLink "LowWater" 21 "LowWater" "imageTaken" "Z" ∈ zT := zT_t (i := 166) (by decide +kernel) (by decide +kernel)
theorem f_X11_21 : zFL "LowWater" 21 11 2 false true .boolean := ⟨RX11, "LowWater", TX11, 8, tyX11, rfl, by decide, in_X11, tyX11_ok, nmX11, rfl, rfl, (fun _ => rfl), Or.inl zw_166, Or.inl rfl⟩
theorem zw_129 : Cond.classLink "LowWater" 25 "LowWater$Cave" ∈ zT := zT_t (i := 129) (by decide +kernel) (by decide +kernel)
theorem nw_X11_25 : zNW "LowWater" 25 1 6 [.null, .null, .int 0, .null, .null, .int 0] := ⟨RX1, TX1, tyX1, rfl, in_X1, tyX1_ok, zw_129, zw_37, zw_3, by decide +kernel⟩
theorem k_X11_27 : ("LowWater", 27, yX1_init, "LowWater") ∈ zNM ∧ Cond.instanceMethod yX1_init ∈ zT := ⟨by decide +kernel, zw_39⟩
theorem zw_167 : Cond.fieldLink "LowWater" 28 "LowWater" "spare" "LLowWater$Cave;" ∈ zT := zT_t (i := 167) (by decide +kernel) (by decide +kernel)
theorem f_X11_28 : zFL "LowWater" 28 11 3 false true (.object "LowWater$Cave") := ⟨RX11, "LowWater", TX11, 8, tyX11, rfl, by decide, in_X11, tyX11_ok, nmX11, rfl, rfl, (fun _ => rfl), Or.inl zw_167, Or.inl rfl⟩
theorem zw_131 : Cond.classLink "LowWater" 32 "LowWater$Row" ∈ zT := zT_t (i := 131) (by decide +kernel) (by decide +kernel)
theorem nw_X11_32 : zNW "LowWater" 32 7 2 [.null, .int 0] := ⟨RX7, TX7, tyX7, rfl, in_X7, tyX7_ok, zw_131, zw_65, zw_4, by decide +kernel⟩
theorem zw_132 : Cond.methodLink "LowWater" 34 yX7_init ∈ zT := zT_t (i := 132) (by decide +kernel) (by decide +kernel)
theorem k_X11_34 : Cond.methodLink "LowWater" 34 yX7_init ∈ zT ∧ Cond.instanceMethod yX7_init ∈ zT := ⟨zw_132, zw_67⟩
theorem zw_168 : Cond.fieldLink "LowWater" 37 "LowWater" "trace" "LLowWater$Row;" ∈ zT := zT_t (i := 168) (by decide +kernel) (by decide +kernel)
theorem f_X11_37 : zFL "LowWater" 37 11 4 true true (.object "LowWater$Row") := ⟨RX11, "LowWater", TX11, 8, tyX11, rfl, by decide, in_X11, tyX11_ok, nmX11, rfl, rfl, (fun _ => rfl), Or.inl zw_168, Or.inl rfl⟩
theorem zw_133 : Cond.classLink "LowWater" 41 "LowWater$Orders" ∈ zT := zT_t (i := 133) (by decide +kernel) (by decide +kernel)
theorem zw_134 : Cond.instantiable "LowWater$Orders" 8 ∈ zT := zT_t (i := 134) (by decide +kernel) (by decide +kernel)
theorem nw_X11_41 : zNW "LowWater" 41 4 8 [.null, .null, .int 0, .null, .null, .null, .null, .int 0] := ⟨RX4, TX4, tyX4, rfl, in_X4, tyX4_ok, zw_133, zw_134, zw_5, by decide +kernel⟩
theorem zw_137 : Cond.code yX4_init cX4_init 1 none ∈ zT := zT_t (i := 137) (by decide +kernel) (by decide +kernel)
theorem co_X4_init : zCo yX4_init cX4_init 1 none 0 := ⟨zw_137, zw_5, by decide +kernel, by decide +kernel, by decide +kernel⟩
theorem zw_136 : Cond.instanceMethod yX4_init ∈ zT := zT_t (i := 136) (by decide +kernel) (by decide +kernel)
theorem k_X11_43 : ("LowWater", 43, yX4_init, "LowWater") ∈ zNM ∧ Cond.instanceMethod yX4_init ∈ zT := ⟨by decide +kernel, zw_136⟩
theorem zw_169 : Cond.fieldLink "LowWater" 44 "LowWater" "orders" "LLowWater$Orders;" ∈ zT := zT_t (i := 169) (by decide +kernel) (by decide +kernel)
theorem f_X11_44 : zFL "LowWater" 44 11 5 true true (.object "LowWater$Orders") := ⟨RX11, "LowWater", TX11, 8, tyX11, rfl, by decide, in_X11, tyX11_ok, nmX11, rfl, rfl, (fun _ => rfl), Or.inl zw_169, Or.inl rfl⟩
theorem zw_170 : Cond.fieldLink "LowWater" 48 "LowWater" "othersOrders" "LLowWater$Orders;" ∈ zT := zT_t (i := 170) (by decide +kernel) (by decide +kernel)
theorem f_X11_48 : zFL "LowWater" 48 11 6 true true (.object "LowWater$Orders") := ⟨RX11, "LowWater", TX11, 8, tyX11, rfl, by decide, in_X11, tyX11_ok, nmX11, rfl, rfl, (fun _ => rfl), Or.inl zw_170, Or.inl rfl⟩
theorem zw_171 : Cond.fieldLink "LowWater" 51 "LowWater" "waited" "[I" ∈ zT := zT_t (i := 171) (by decide +kernel) (by decide +kernel)
theorem f_X11_51 : zFL "LowWater" 51 11 7 true true (.array .int) := ⟨RX11, "LowWater", TX11, 8, tyX11, rfl, by decide, in_X11, tyX11_ok, nmX11, rfl, rfl, (fun _ => rfl), Or.inl zw_171, Or.inl rfl⟩
theorem f_X11_55 : zFL "LowWater" 55 9 5 true false (.object "LowWater$Row") := ⟨RX9, "LowWater$State", TX9, 11, tyX9, rfl, by decide, in_X9, tyX9_ok, nmX9, rfl, rfl, (fun h => Bool.noConfusion h), Or.inr ⟨"LowWater", by decide +kernel⟩, Or.inl rfl⟩
theorem zw_196 : Cond.code yX7_isFull cX7_isFull 1 (some .boolean) ∈ zT := zT_t (i := 196) (by decide +kernel) (by decide +kernel)
theorem co_X7_isFull : zCo yX7_isFull cX7_isFull 1 (some .boolean) 0 := ⟨zw_196, zw_4, by decide +kernel, by decide +kernel, by decide +kernel⟩
theorem zw_193 : Cond.methodLink "LowWater" 58 yX7_isFull ∈ zT := zT_t (i := 193) (by decide +kernel) (by decide +kernel)
theorem zw_194 : Cond.instanceMethod yX7_isFull ∈ zT := zT_t (i := 194) (by decide +kernel) (by decide +kernel)
theorem zw_195 : Cond.selects "LowWater$Row" yX7_isFull yX7_isFull ∈ zT := zT_t (i := 195) (by decide +kernel) (by decide +kernel)
theorem k_X11_58 : Cond.methodLink "LowWater" 58 yX7_isFull ∈ zT ∧ Cond.instanceMethod yX7_isFull ∈ zT ∧ Cond.selects yX7_isFull.cls yX7_isFull yX7_isFull ∈ zT := ⟨zw_193, zw_194, zw_195⟩
theorem zw_197 : Cond.methodLink "LowWater" 62 yX7_add ∈ zT := zT_t (i := 197) (by decide +kernel) (by decide +kernel)
theorem k_X11_62 : Cond.methodLink "LowWater" 62 yX7_add ∈ zT ∧ Cond.instanceMethod yX7_add ∈ zT ∧ Cond.selects yX7_add.cls yX7_add yX7_add ∈ zT := ⟨zw_197, zw_198, zw_199⟩
theorem f_X11_66 : zFL "LowWater" 66 7 1 false false .int := ⟨RX7, "LowWater$Row", TX7, 2, tyX7, rfl, by decide, in_X7, tyX7_ok, nmX7, rfl, rfl, (fun h => Bool.noConfusion h), Or.inr ⟨"LowWater", by decide +kernel⟩, Or.inl rfl⟩
theorem f_X11_70 : zFL "LowWater" 70 9 1 false false .int := ⟨RX9, "LowWater$State", TX9, 11, tyX9, rfl, by decide, in_X9, tyX9_ok, nmX9, rfl, rfl, (fun h => Bool.noConfusion h), Or.inr ⟨"LowWater", by decide +kernel⟩, Or.inl rfl⟩
theorem zw_208 : Cond.code yX1_read cX1_read 3 (some .int) ∈ zT := zT_t (i := 208) (by decide +kernel) (by decide +kernel)
theorem co_X1_read : zCo yX1_read cX1_read 3 (some .int) 1 := ⟨zw_208, zw_3, by decide +kernel, by decide +kernel, by decide +kernel⟩
theorem zw_205 : Cond.methodLink "LowWater" 73 yX1_read ∈ zT := zT_t (i := 205) (by decide +kernel) (by decide +kernel)
theorem zw_206 : Cond.instanceMethod yX1_read ∈ zT := zT_t (i := 206) (by decide +kernel) (by decide +kernel)
theorem zw_207 : Cond.selects "LowWater$Cave" yX1_read yX1_read ∈ zT := zT_t (i := 207) (by decide +kernel) (by decide +kernel)
theorem k_X11_73 : Cond.methodLink "LowWater" 73 yX1_read ∈ zT ∧ Cond.instanceMethod yX1_read ∈ zT ∧ Cond.selects yX1_read.cls yX1_read yX1_read ∈ zT := ⟨zw_205, zw_206, zw_207⟩
theorem zw_302 : Cond.code yX7_clear cX7_clear 1 none ∈ zT := zT_t (i := 302) (by decide +kernel) (by decide +kernel)
theorem co_X7_clear : zCo yX7_clear cX7_clear 1 none 0 := ⟨zw_302, zw_4, by decide +kernel, by decide +kernel, by decide +kernel⟩
theorem zw_299 : Cond.methodLink "LowWater" 77 yX7_clear ∈ zT := zT_t (i := 299) (by decide +kernel) (by decide +kernel)
theorem zw_300 : Cond.instanceMethod yX7_clear ∈ zT := zT_t (i := 300) (by decide +kernel) (by decide +kernel)
theorem zw_301 : Cond.selects "LowWater$Row" yX7_clear yX7_clear ∈ zT := zT_t (i := 301) (by decide +kernel) (by decide +kernel)
theorem k_X11_77 : Cond.methodLink "LowWater" 77 yX7_clear ∈ zT ∧ Cond.instanceMethod yX7_clear ∈ zT ∧ Cond.selects yX7_clear.cls yX7_clear yX7_clear ∈ zT := ⟨zw_299, zw_300, zw_301⟩
theorem f_X11_80 : zFL "LowWater" 80 9 3 false false (.object "LowWater$Cave") := ⟨RX9, "LowWater$State", TX9, 11, tyX9, rfl, by decide, in_X9, tyX9_ok, nmX9, rfl, rfl, (fun h => Bool.noConfusion h), Or.inr ⟨"LowWater", by decide +kernel⟩, Or.inl rfl⟩
theorem zw_310 : Cond.code yX11_isShelf cX11_isShelf 1 (some .boolean) ∈ zT := zT_t (i := 310) (by decide +kernel) (by decide +kernel)
theorem zw_1 : Cond.initialized "LowWater" ∈ zT := zT_t (i := 1) (by decide +kernel) (by decide +kernel)
theorem co_X11_isShelf : zCo yX11_isShelf cX11_isShelf 1 (some .boolean) 1 := ⟨zw_310, zw_1, by decide +kernel, by decide +kernel, by decide +kernel⟩
theorem zw_308 : Cond.methodLink "LowWater" 83 yX11_isShelf ∈ zT := zT_t (i := 308) (by decide +kernel) (by decide +kernel)
theorem zw_309 : Cond.static yX11_isShelf ∈ zT := zT_t (i := 309) (by decide +kernel) (by decide +kernel)
theorem k_X11_83 : Cond.methodLink "LowWater" 83 yX11_isShelf ∈ zT ∧ Cond.static yX11_isShelf ∈ zT := ⟨zw_308, zw_309⟩
theorem f_X11_87 : zFL "LowWater" 87 9 6 true false (.object "LowWater$Row") := ⟨RX9, "LowWater$State", TX9, 11, tyX9, rfl, by decide, in_X9, tyX9_ok, nmX9, rfl, rfl, (fun h => Bool.noConfusion h), Or.inr ⟨"LowWater", by decide +kernel⟩, Or.inl rfl⟩
theorem f_X11_90 : zFL "LowWater" 90 9 7 true false (.object "LowWater$Row") := ⟨RX9, "LowWater$State", TX9, 11, tyX9, rfl, by decide, in_X9, tyX9_ok, nmX9, rfl, rfl, (fun h => Bool.noConfusion h), Or.inr ⟨"LowWater", by decide +kernel⟩, Or.inl rfl⟩
theorem zw_318 : Cond.code yX11_isSlate cX11_isSlate 2 (some .boolean) ∈ zT := zT_t (i := 318) (by decide +kernel) (by decide +kernel)
theorem co_X11_isSlate : zCo yX11_isSlate cX11_isSlate 2 (some .boolean) 1 := ⟨zw_318, zw_1, by decide +kernel, by decide +kernel, by decide +kernel⟩
theorem zw_315 : Cond.methodLink "LowWater" 93 yX11_isSlate ∈ zT := zT_t (i := 315) (by decide +kernel) (by decide +kernel)
theorem zw_317 : Cond.instanceMethod yX11_isSlate ∈ zT := zT_t (i := 317) (by decide +kernel) (by decide +kernel)
theorem zw_s9 : Cond.selects "LowWater" yX11_isSlate yX11_isSlate ∈ zT := zT_s (i := 9) (by decide +kernel) (by decide +kernel)
theorem k_X11_93 : Cond.methodLink "LowWater" 93 yX11_isSlate ∈ zT ∧ Cond.instanceMethod yX11_isSlate ∈ zT ∧ Cond.selects yX11_isSlate.cls yX11_isSlate yX11_isSlate ∈ zT := ⟨zw_315, zw_317, zw_s9⟩
theorem zw_321 : Cond.code yX11_isWhat cX11_isWhat 1 (some .boolean) ∈ zT := zT_t (i := 321) (by decide +kernel) (by decide +kernel)
theorem co_X11_isWhat : zCo yX11_isWhat cX11_isWhat 1 (some .boolean) 1 := ⟨zw_321, zw_1, by decide +kernel, by decide +kernel, by decide +kernel⟩
theorem zw_319 : Cond.methodLink "LowWater" 96 yX11_isWhat ∈ zT := zT_t (i := 319) (by decide +kernel) (by decide +kernel)
theorem zw_320 : Cond.static yX11_isWhat ∈ zT := zT_t (i := 320) (by decide +kernel) (by decide +kernel)
theorem k_X11_96 : Cond.methodLink "LowWater" 96 yX11_isWhat ∈ zT ∧ Cond.static yX11_isWhat ∈ zT := ⟨zw_319, zw_320⟩
theorem zw_322 : Cond.methodLink "LowWater" 99 yX7_get ∈ zT := zT_t (i := 322) (by decide +kernel) (by decide +kernel)
theorem k_X11_99 : Cond.methodLink "LowWater" 99 yX7_get ∈ zT ∧ Cond.instanceMethod yX7_get ∈ zT ∧ Cond.selects yX7_get.cls yX7_get yX7_get ∈ zT := ⟨zw_322, zw_323, zw_324⟩
theorem zw_333 : Cond.code yX7_replace cX7_replace 3 none ∈ zT := zT_t (i := 333) (by decide +kernel) (by decide +kernel)
theorem co_X7_replace : zCo yX7_replace cX7_replace 3 none 2 := ⟨zw_333, zw_4, by decide +kernel, by decide +kernel, by decide +kernel⟩
theorem zw_330 : Cond.methodLink "LowWater" 103 yX7_replace ∈ zT := zT_t (i := 330) (by decide +kernel) (by decide +kernel)
theorem zw_331 : Cond.instanceMethod yX7_replace ∈ zT := zT_t (i := 331) (by decide +kernel) (by decide +kernel)
theorem zw_332 : Cond.selects "LowWater$Row" yX7_replace yX7_replace ∈ zT := zT_t (i := 332) (by decide +kernel) (by decide +kernel)
theorem k_X11_103 : Cond.methodLink "LowWater" 103 yX7_replace ∈ zT ∧ Cond.instanceMethod yX7_replace ∈ zT ∧ Cond.selects yX7_replace.cls yX7_replace yX7_replace ∈ zT := ⟨zw_330, zw_331, zw_332⟩
theorem f_X11_107 : zFL "LowWater" 107 9 2 false false .int := ⟨RX9, "LowWater$State", TX9, 11, tyX9, rfl, by decide, in_X9, tyX9_ok, nmX9, rfl, rfl, (fun h => Bool.noConfusion h), Or.inr ⟨"LowWater", by decide +kernel⟩, Or.inl rfl⟩
theorem f_X11_110 : zFL "LowWater" 110 9 4 true false (.array (.object "LowWater$Reader")) := ⟨RX9, "LowWater$State", TX9, 11, tyX9, rfl, by decide, in_X9, tyX9_ok, nmX9, rfl, rfl, (fun h => Bool.noConfusion h), Or.inr ⟨"LowWater", by decide +kernel⟩, Or.inl rfl⟩
theorem zw_340 : Cond.code yX11_newReader cX11_newReader 3 (some (.object "LowWater$Reader")) ∈ zT := zT_t (i := 340) (by decide +kernel) (by decide +kernel)
theorem co_X11_newReader : zCo yX11_newReader cX11_newReader 3 (some (.object "LowWater$Reader")) 3 := ⟨zw_340, zw_1, by decide +kernel, by decide +kernel, by decide +kernel⟩
theorem zw_338 : Cond.methodLink "LowWater" 114 yX11_newReader ∈ zT := zT_t (i := 338) (by decide +kernel) (by decide +kernel)
theorem zw_339 : Cond.static yX11_newReader ∈ zT := zT_t (i := 339) (by decide +kernel) (by decide +kernel)
theorem k_X11_114 : Cond.methodLink "LowWater" 114 yX11_newReader ∈ zT ∧ Cond.static yX11_newReader ∈ zT := ⟨zw_338, zw_339⟩
theorem zw_426 : Cond.code yX9_readerAt cX9_readerAt 2 (some (.object "LowWater$Reader")) ∈ zT := zT_t (i := 426) (by decide +kernel) (by decide +kernel)
theorem co_X9_readerAt : zCo yX9_readerAt cX9_readerAt 2 (some (.object "LowWater$Reader")) 1 := ⟨zw_426, zw_2, by decide +kernel, by decide +kernel, by decide +kernel⟩
theorem zw_423 : Cond.methodLink "LowWater" 118 yX9_readerAt ∈ zT := zT_t (i := 423) (by decide +kernel) (by decide +kernel)
theorem zw_424 : Cond.instanceMethod yX9_readerAt ∈ zT := zT_t (i := 424) (by decide +kernel) (by decide +kernel)
theorem zw_425 : Cond.selects "LowWater$State" yX9_readerAt yX9_readerAt ∈ zT := zT_t (i := 425) (by decide +kernel) (by decide +kernel)
theorem k_X11_118 : Cond.methodLink "LowWater" 118 yX9_readerAt ∈ zT ∧ Cond.instanceMethod yX9_readerAt ∈ zT ∧ Cond.selects yX9_readerAt.cls yX9_readerAt yX9_readerAt ∈ zT := ⟨zw_423, zw_424, zw_425⟩
theorem zw_433 : Cond.code yX0_kind cX0_kind 1 (some .int) ∈ zT := zT_t (i := 433) (by decide +kernel) (by decide +kernel)
theorem co_X0_kind : zCo yX0_kind cX0_kind 1 (some .int) 0 := ⟨zw_433, zw_17, by decide +kernel, by decide +kernel, by decide +kernel⟩
theorem zw_427 : Cond.methodLink "LowWater" 122 yX6_kind ∈ zT := zT_t (i := 427) (by decide +kernel) (by decide +kernel)
theorem zw_430 : Cond.sameMethod "LowWater$Reader" "LowWater$Reader" "kind" "()I" ∈ zT := zT_t (i := 430) (by decide +kernel) (by decide +kernel)
theorem zw_428 : Cond.instanceMethod yX6_kind ∈ zT := zT_t (i := 428) (by decide +kernel) (by decide +kernel)
theorem zw_449 : Cond.code yX6_kind cX6_kind 1 (some .int) ∈ zT := zT_t (i := 449) (by decide +kernel) (by decide +kernel)
theorem zw_431 : Cond.selects "LowWater$Blind" yX6_kind yX0_kind ∈ zT := zT_t (i := 431) (by decide +kernel) (by decide +kernel)
theorem zw_432 : Cond.instanceMethod yX0_kind ∈ zT := zT_t (i := 432) (by decide +kernel) (by decide +kernel)
theorem ku_X11_122_X0 : Cond.methodLink "LowWater" 122 ⟨"LowWater$Reader", "kind", "()I"⟩ ∈ zT ∧ Cond.sameMethod "LowWater$Reader" "LowWater$Reader" "kind" "()I" ∈ zT ∧ Cond.instanceMethod ⟨"LowWater$Reader", "kind", "()I"⟩ ∈ zT ∧ Cond.code ⟨"LowWater$Reader", "kind", "()I"⟩ cX6_kind 1 (some .int) ∈ zT ∧ Cond.selects "LowWater$Blind" ⟨"LowWater$Reader", "kind", "()I"⟩ yX0_kind ∈ zT ∧ Cond.instanceMethod yX0_kind ∈ zT ∧ "LowWater$Reader" ≠ "java/lang/invoke/MethodHandle" ∧ "LowWater$Reader" ≠ "java/lang/invoke/VarHandle" ∧ (parseMethodDescriptor "()I").map (fun d => d.parameters.length) = some 0 := ⟨zw_427, zw_430, zw_428, zw_449, zw_431, zw_432, by decide +kernel, by decide +kernel, by decide +kernel⟩
theorem zw_436 : Cond.code yX2_kind cX2_kind 1 (some .int) ∈ zT := zT_t (i := 436) (by decide +kernel) (by decide +kernel)
theorem co_X2_kind : zCo yX2_kind cX2_kind 1 (some .int) 0 := ⟨zw_436, zw_14, by decide +kernel, by decide +kernel, by decide +kernel⟩
theorem zw_434 : Cond.selects "LowWater$Diver" yX6_kind yX2_kind ∈ zT := zT_t (i := 434) (by decide +kernel) (by decide +kernel)
theorem zw_435 : Cond.instanceMethod yX2_kind ∈ zT := zT_t (i := 435) (by decide +kernel) (by decide +kernel)
theorem ku_X11_122_X2 : Cond.methodLink "LowWater" 122 ⟨"LowWater$Reader", "kind", "()I"⟩ ∈ zT ∧ Cond.sameMethod "LowWater$Reader" "LowWater$Reader" "kind" "()I" ∈ zT ∧ Cond.instanceMethod ⟨"LowWater$Reader", "kind", "()I"⟩ ∈ zT ∧ Cond.code ⟨"LowWater$Reader", "kind", "()I"⟩ cX6_kind 1 (some .int) ∈ zT ∧ Cond.selects "LowWater$Diver" ⟨"LowWater$Reader", "kind", "()I"⟩ yX2_kind ∈ zT ∧ Cond.instanceMethod yX2_kind ∈ zT ∧ "LowWater$Reader" ≠ "java/lang/invoke/MethodHandle" ∧ "LowWater$Reader" ≠ "java/lang/invoke/VarHandle" ∧ (parseMethodDescriptor "()I").map (fun d => d.parameters.length) = some 0 := ⟨zw_427, zw_430, zw_428, zw_449, zw_434, zw_435, by decide +kernel, by decide +kernel, by decide +kernel⟩
theorem zw_439 : Cond.code yX3_kind cX3_kind 1 (some .int) ∈ zT := zT_t (i := 439) (by decide +kernel) (by decide +kernel)
theorem co_X3_kind : zCo yX3_kind cX3_kind 1 (some .int) 0 := ⟨zw_439, zw_13, by decide +kernel, by decide +kernel, by decide +kernel⟩
theorem zw_437 : Cond.selects "LowWater$Fast" yX6_kind yX3_kind ∈ zT := zT_t (i := 437) (by decide +kernel) (by decide +kernel)
theorem zw_438 : Cond.instanceMethod yX3_kind ∈ zT := zT_t (i := 438) (by decide +kernel) (by decide +kernel)
theorem ku_X11_122_X3 : Cond.methodLink "LowWater" 122 ⟨"LowWater$Reader", "kind", "()I"⟩ ∈ zT ∧ Cond.sameMethod "LowWater$Reader" "LowWater$Reader" "kind" "()I" ∈ zT ∧ Cond.instanceMethod ⟨"LowWater$Reader", "kind", "()I"⟩ ∈ zT ∧ Cond.code ⟨"LowWater$Reader", "kind", "()I"⟩ cX6_kind 1 (some .int) ∈ zT ∧ Cond.selects "LowWater$Fast" ⟨"LowWater$Reader", "kind", "()I"⟩ yX3_kind ∈ zT ∧ Cond.instanceMethod yX3_kind ∈ zT ∧ "LowWater$Reader" ≠ "java/lang/invoke/MethodHandle" ∧ "LowWater$Reader" ≠ "java/lang/invoke/VarHandle" ∧ (parseMethodDescriptor "()I").map (fun d => d.parameters.length) = some 0 := ⟨zw_427, zw_430, zw_428, zw_449, zw_437, zw_438, by decide +kernel, by decide +kernel, by decide +kernel⟩
theorem zw_442 : Cond.code yX5_kind cX5_kind 1 (some .int) ∈ zT := zT_t (i := 442) (by decide +kernel) (by decide +kernel)
theorem co_X5_kind : zCo yX5_kind cX5_kind 1 (some .int) 0 := ⟨zw_442, zw_16, by decide +kernel, by decide +kernel, by decide +kernel⟩
theorem zw_440 : Cond.selects "LowWater$Quick" yX6_kind yX5_kind ∈ zT := zT_t (i := 440) (by decide +kernel) (by decide +kernel)
theorem zw_441 : Cond.instanceMethod yX5_kind ∈ zT := zT_t (i := 441) (by decide +kernel) (by decide +kernel)
theorem ku_X11_122_X5 : Cond.methodLink "LowWater" 122 ⟨"LowWater$Reader", "kind", "()I"⟩ ∈ zT ∧ Cond.sameMethod "LowWater$Reader" "LowWater$Reader" "kind" "()I" ∈ zT ∧ Cond.instanceMethod ⟨"LowWater$Reader", "kind", "()I"⟩ ∈ zT ∧ Cond.code ⟨"LowWater$Reader", "kind", "()I"⟩ cX6_kind 1 (some .int) ∈ zT ∧ Cond.selects "LowWater$Quick" ⟨"LowWater$Reader", "kind", "()I"⟩ yX5_kind ∈ zT ∧ Cond.instanceMethod yX5_kind ∈ zT ∧ "LowWater$Reader" ≠ "java/lang/invoke/MethodHandle" ∧ "LowWater$Reader" ≠ "java/lang/invoke/VarHandle" ∧ (parseMethodDescriptor "()I").map (fun d => d.parameters.length) = some 0 := ⟨zw_427, zw_430, zw_428, zw_449, zw_440, zw_441, by decide +kernel, by decide +kernel, by decide +kernel⟩
theorem co_X6_kind : zCo yX6_kind cX6_kind 1 (some .int) 0 := ⟨zw_449, zw_12, by decide +kernel, by decide +kernel, by decide +kernel⟩
theorem zw_429 : Cond.selects "LowWater$Reader" yX6_kind yX6_kind ∈ zT := zT_t (i := 429) (by decide +kernel) (by decide +kernel)
theorem k_X11_122_X6 : Cond.methodLink "LowWater" 122 yX6_kind ∈ zT ∧ Cond.instanceMethod yX6_kind ∈ zT ∧ Cond.selects yX6_kind.cls yX6_kind yX6_kind ∈ zT := ⟨zw_427, zw_428, zw_429⟩
theorem ku_X11_122_X6 : Cond.methodLink "LowWater" 122 ⟨"LowWater$Reader", "kind", "()I"⟩ ∈ zT ∧ Cond.sameMethod "LowWater$Reader" "LowWater$Reader" "kind" "()I" ∈ zT ∧ Cond.instanceMethod ⟨"LowWater$Reader", "kind", "()I"⟩ ∈ zT ∧ Cond.code ⟨"LowWater$Reader", "kind", "()I"⟩ cX6_kind 1 (some .int) ∈ zT ∧ Cond.selects "LowWater$Reader" ⟨"LowWater$Reader", "kind", "()I"⟩ yX6_kind ∈ zT ∧ Cond.instanceMethod yX6_kind ∈ zT ∧ "LowWater$Reader" ≠ "java/lang/invoke/MethodHandle" ∧ "LowWater$Reader" ≠ "java/lang/invoke/VarHandle" ∧ (parseMethodDescriptor "()I").map (fun d => d.parameters.length) = some 0 := ⟨zw_427, zw_430, zw_428, zw_449, zw_429, zw_428, by decide +kernel, by decide +kernel, by decide +kernel⟩
theorem zw_445 : Cond.code yX8_kind cX8_kind 1 (some .int) ∈ zT := zT_t (i := 445) (by decide +kernel) (by decide +kernel)
theorem co_X8_kind : zCo yX8_kind cX8_kind 1 (some .int) 0 := ⟨zw_445, zw_15, by decide +kernel, by decide +kernel, by decide +kernel⟩
theorem zw_443 : Cond.selects "LowWater$Rowed" yX6_kind yX8_kind ∈ zT := zT_t (i := 443) (by decide +kernel) (by decide +kernel)
theorem zw_444 : Cond.instanceMethod yX8_kind ∈ zT := zT_t (i := 444) (by decide +kernel) (by decide +kernel)
theorem ku_X11_122_X8 : Cond.methodLink "LowWater" 122 ⟨"LowWater$Reader", "kind", "()I"⟩ ∈ zT ∧ Cond.sameMethod "LowWater$Reader" "LowWater$Reader" "kind" "()I" ∈ zT ∧ Cond.instanceMethod ⟨"LowWater$Reader", "kind", "()I"⟩ ∈ zT ∧ Cond.code ⟨"LowWater$Reader", "kind", "()I"⟩ cX6_kind 1 (some .int) ∈ zT ∧ Cond.selects "LowWater$Rowed" ⟨"LowWater$Reader", "kind", "()I"⟩ yX8_kind ∈ zT ∧ Cond.instanceMethod yX8_kind ∈ zT ∧ "LowWater$Reader" ≠ "java/lang/invoke/MethodHandle" ∧ "LowWater$Reader" ≠ "java/lang/invoke/VarHandle" ∧ (parseMethodDescriptor "()I").map (fun d => d.parameters.length) = some 0 := ⟨zw_427, zw_430, zw_428, zw_449, zw_443, zw_444, by decide +kernel, by decide +kernel, by decide +kernel⟩
theorem zw_448 : Cond.code yX10_kind cX10_kind 1 (some .int) ∈ zT := zT_t (i := 448) (by decide +kernel) (by decide +kernel)
theorem co_X10_kind : zCo yX10_kind cX10_kind 1 (some .int) 0 := ⟨zw_448, zw_18, by decide +kernel, by decide +kernel, by decide +kernel⟩
theorem zw_446 : Cond.selects "LowWater$Waiting" yX6_kind yX10_kind ∈ zT := zT_t (i := 446) (by decide +kernel) (by decide +kernel)
theorem zw_447 : Cond.instanceMethod yX10_kind ∈ zT := zT_t (i := 447) (by decide +kernel) (by decide +kernel)
theorem ku_X11_122_X10 : Cond.methodLink "LowWater" 122 ⟨"LowWater$Reader", "kind", "()I"⟩ ∈ zT ∧ Cond.sameMethod "LowWater$Reader" "LowWater$Reader" "kind" "()I" ∈ zT ∧ Cond.instanceMethod ⟨"LowWater$Reader", "kind", "()I"⟩ ∈ zT ∧ Cond.code ⟨"LowWater$Reader", "kind", "()I"⟩ cX6_kind 1 (some .int) ∈ zT ∧ Cond.selects "LowWater$Waiting" ⟨"LowWater$Reader", "kind", "()I"⟩ yX10_kind ∈ zT ∧ Cond.instanceMethod yX10_kind ∈ zT ∧ "LowWater$Reader" ≠ "java/lang/invoke/MethodHandle" ∧ "LowWater$Reader" ≠ "java/lang/invoke/VarHandle" ∧ (parseMethodDescriptor "()I").map (fun d => d.parameters.length) = some 0 := ⟨zw_427, zw_430, zw_428, zw_449, zw_446, zw_447, by decide +kernel, by decide +kernel, by decide +kernel⟩
theorem zw_362 : Cond.fieldLink "LowWater" 128 "LowWater$Reader" "v" "I" ∈ zT := zT_t (i := 362) (by decide +kernel) (by decide +kernel)
theorem f_X11_128 : zFL "LowWater" 128 6 1 true false .int := ⟨RX6, "LowWater$Reader", TX6, 2, tyX6, rfl, by decide, in_X6, tyX6_ok, nmX6, rfl, rfl, (fun h => Bool.noConfusion h), Or.inl zw_362, Or.inl rfl⟩
theorem zw_454 : Cond.methodLink "LowWater" 131 yX6_hoursFor ∈ zT := zT_t (i := 454) (by decide +kernel) (by decide +kernel)
theorem ku_X11_131_X0 : Cond.methodLink "LowWater" 131 ⟨"LowWater$Reader", "hoursFor", "(I)I"⟩ ∈ zT ∧ Cond.sameMethod "LowWater$Reader" "LowWater$Reader" "hoursFor" "(I)I" ∈ zT ∧ Cond.instanceMethod ⟨"LowWater$Reader", "hoursFor", "(I)I"⟩ ∈ zT ∧ Cond.code ⟨"LowWater$Reader", "hoursFor", "(I)I"⟩ cX6_hoursFor 2 (some .int) ∈ zT ∧ Cond.selects "LowWater$Blind" ⟨"LowWater$Reader", "hoursFor", "(I)I"⟩ yX0_hoursFor ∈ zT ∧ Cond.instanceMethod yX0_hoursFor ∈ zT ∧ "LowWater$Reader" ≠ "java/lang/invoke/MethodHandle" ∧ "LowWater$Reader" ≠ "java/lang/invoke/VarHandle" ∧ (parseMethodDescriptor "(I)I").map (fun d => d.parameters.length) = some 1 := ⟨zw_454, zw_457, zw_455, zw_474, zw_458, zw_459, by decide +kernel, by decide +kernel, by decide +kernel⟩
theorem ku_X11_131_X2 : Cond.methodLink "LowWater" 131 ⟨"LowWater$Reader", "hoursFor", "(I)I"⟩ ∈ zT ∧ Cond.sameMethod "LowWater$Reader" "LowWater$Reader" "hoursFor" "(I)I" ∈ zT ∧ Cond.instanceMethod ⟨"LowWater$Reader", "hoursFor", "(I)I"⟩ ∈ zT ∧ Cond.code ⟨"LowWater$Reader", "hoursFor", "(I)I"⟩ cX6_hoursFor 2 (some .int) ∈ zT ∧ Cond.selects "LowWater$Diver" ⟨"LowWater$Reader", "hoursFor", "(I)I"⟩ yX6_hoursFor ∈ zT ∧ Cond.instanceMethod yX6_hoursFor ∈ zT ∧ "LowWater$Reader" ≠ "java/lang/invoke/MethodHandle" ∧ "LowWater$Reader" ≠ "java/lang/invoke/VarHandle" ∧ (parseMethodDescriptor "(I)I").map (fun d => d.parameters.length) = some 1 := ⟨zw_454, zw_457, zw_455, zw_474, zw_461, zw_455, by decide +kernel, by decide +kernel, by decide +kernel⟩
theorem ku_X11_131_X3 : Cond.methodLink "LowWater" 131 ⟨"LowWater$Reader", "hoursFor", "(I)I"⟩ ∈ zT ∧ Cond.sameMethod "LowWater$Reader" "LowWater$Reader" "hoursFor" "(I)I" ∈ zT ∧ Cond.instanceMethod ⟨"LowWater$Reader", "hoursFor", "(I)I"⟩ ∈ zT ∧ Cond.code ⟨"LowWater$Reader", "hoursFor", "(I)I"⟩ cX6_hoursFor 2 (some .int) ∈ zT ∧ Cond.selects "LowWater$Fast" ⟨"LowWater$Reader", "hoursFor", "(I)I"⟩ yX3_hoursFor ∈ zT ∧ Cond.instanceMethod yX3_hoursFor ∈ zT ∧ "LowWater$Reader" ≠ "java/lang/invoke/MethodHandle" ∧ "LowWater$Reader" ≠ "java/lang/invoke/VarHandle" ∧ (parseMethodDescriptor "(I)I").map (fun d => d.parameters.length) = some 1 := ⟨zw_454, zw_457, zw_455, zw_474, zw_462, zw_463, by decide +kernel, by decide +kernel, by decide +kernel⟩
theorem ku_X11_131_X5 : Cond.methodLink "LowWater" 131 ⟨"LowWater$Reader", "hoursFor", "(I)I"⟩ ∈ zT ∧ Cond.sameMethod "LowWater$Reader" "LowWater$Reader" "hoursFor" "(I)I" ∈ zT ∧ Cond.instanceMethod ⟨"LowWater$Reader", "hoursFor", "(I)I"⟩ ∈ zT ∧ Cond.code ⟨"LowWater$Reader", "hoursFor", "(I)I"⟩ cX6_hoursFor 2 (some .int) ∈ zT ∧ Cond.selects "LowWater$Quick" ⟨"LowWater$Reader", "hoursFor", "(I)I"⟩ yX5_hoursFor ∈ zT ∧ Cond.instanceMethod yX5_hoursFor ∈ zT ∧ "LowWater$Reader" ≠ "java/lang/invoke/MethodHandle" ∧ "LowWater$Reader" ≠ "java/lang/invoke/VarHandle" ∧ (parseMethodDescriptor "(I)I").map (fun d => d.parameters.length) = some 1 := ⟨zw_454, zw_457, zw_455, zw_474, zw_465, zw_466, by decide +kernel, by decide +kernel, by decide +kernel⟩
theorem k_X11_131_X6 : Cond.methodLink "LowWater" 131 yX6_hoursFor ∈ zT ∧ Cond.instanceMethod yX6_hoursFor ∈ zT ∧ Cond.selects yX6_hoursFor.cls yX6_hoursFor yX6_hoursFor ∈ zT := ⟨zw_454, zw_455, zw_456⟩
theorem ku_X11_131_X6 : Cond.methodLink "LowWater" 131 ⟨"LowWater$Reader", "hoursFor", "(I)I"⟩ ∈ zT ∧ Cond.sameMethod "LowWater$Reader" "LowWater$Reader" "hoursFor" "(I)I" ∈ zT ∧ Cond.instanceMethod ⟨"LowWater$Reader", "hoursFor", "(I)I"⟩ ∈ zT ∧ Cond.code ⟨"LowWater$Reader", "hoursFor", "(I)I"⟩ cX6_hoursFor 2 (some .int) ∈ zT ∧ Cond.selects "LowWater$Reader" ⟨"LowWater$Reader", "hoursFor", "(I)I"⟩ yX6_hoursFor ∈ zT ∧ Cond.instanceMethod yX6_hoursFor ∈ zT ∧ "LowWater$Reader" ≠ "java/lang/invoke/MethodHandle" ∧ "LowWater$Reader" ≠ "java/lang/invoke/VarHandle" ∧ (parseMethodDescriptor "(I)I").map (fun d => d.parameters.length) = some 1 := ⟨zw_454, zw_457, zw_455, zw_474, zw_456, zw_455, by decide +kernel, by decide +kernel, by decide +kernel⟩
theorem ku_X11_131_X8 : Cond.methodLink "LowWater" 131 ⟨"LowWater$Reader", "hoursFor", "(I)I"⟩ ∈ zT ∧ Cond.sameMethod "LowWater$Reader" "LowWater$Reader" "hoursFor" "(I)I" ∈ zT ∧ Cond.instanceMethod ⟨"LowWater$Reader", "hoursFor", "(I)I"⟩ ∈ zT ∧ Cond.code ⟨"LowWater$Reader", "hoursFor", "(I)I"⟩ cX6_hoursFor 2 (some .int) ∈ zT ∧ Cond.selects "LowWater$Rowed" ⟨"LowWater$Reader", "hoursFor", "(I)I"⟩ yX6_hoursFor ∈ zT ∧ Cond.instanceMethod yX6_hoursFor ∈ zT ∧ "LowWater$Reader" ≠ "java/lang/invoke/MethodHandle" ∧ "LowWater$Reader" ≠ "java/lang/invoke/VarHandle" ∧ (parseMethodDescriptor "(I)I").map (fun d => d.parameters.length) = some 1 := ⟨zw_454, zw_457, zw_455, zw_474, zw_472, zw_455, by decide +kernel, by decide +kernel, by decide +kernel⟩
theorem ku_X11_131_X10 : Cond.methodLink "LowWater" 131 ⟨"LowWater$Reader", "hoursFor", "(I)I"⟩ ∈ zT ∧ Cond.sameMethod "LowWater$Reader" "LowWater$Reader" "hoursFor" "(I)I" ∈ zT ∧ Cond.instanceMethod ⟨"LowWater$Reader", "hoursFor", "(I)I"⟩ ∈ zT ∧ Cond.code ⟨"LowWater$Reader", "hoursFor", "(I)I"⟩ cX6_hoursFor 2 (some .int) ∈ zT ∧ Cond.selects "LowWater$Waiting" ⟨"LowWater$Reader", "hoursFor", "(I)I"⟩ yX6_hoursFor ∈ zT ∧ Cond.instanceMethod yX6_hoursFor ∈ zT ∧ "LowWater$Reader" ≠ "java/lang/invoke/MethodHandle" ∧ "LowWater$Reader" ≠ "java/lang/invoke/VarHandle" ∧ (parseMethodDescriptor "(I)I").map (fun d => d.parameters.length) = some 1 := ⟨zw_454, zw_457, zw_455, zw_474, zw_473, zw_455, by decide +kernel, by decide +kernel, by decide +kernel⟩
theorem zw_481 : Cond.code yX11_isNear cX11_isNear 1 (some .boolean) ∈ zT := zT_t (i := 481) (by decide +kernel) (by decide +kernel)
theorem co_X11_isNear : zCo yX11_isNear cX11_isNear 1 (some .boolean) 1 := ⟨zw_481, zw_1, by decide +kernel, by decide +kernel, by decide +kernel⟩
theorem zw_479 : Cond.methodLink "LowWater" 134 yX11_isNear ∈ zT := zT_t (i := 479) (by decide +kernel) (by decide +kernel)
theorem zw_480 : Cond.static yX11_isNear ∈ zT := zT_t (i := 480) (by decide +kernel) (by decide +kernel)
theorem k_X11_134 : Cond.methodLink "LowWater" 134 yX11_isNear ∈ zT ∧ Cond.static yX11_isNear ∈ zT := ⟨zw_479, zw_480⟩
theorem f_X11_137 : zFL "LowWater" 137 9 0 false false .int := ⟨RX9, "LowWater$State", TX9, 11, tyX9, rfl, by decide, in_X9, tyX9_ok, nmX9, rfl, rfl, (fun h => Bool.noConfusion h), Or.inr ⟨"LowWater", by decide +kernel⟩, Or.inl rfl⟩
theorem zw_489 : Cond.code yX11_levelIn cX11_levelIn 2 (some .int) ∈ zT := zT_t (i := 489) (by decide +kernel) (by decide +kernel)
theorem co_X11_levelIn : zCo yX11_levelIn cX11_levelIn 2 (some .int) 1 := ⟨zw_489, zw_1, by decide +kernel, by decide +kernel, by decide +kernel⟩
theorem zw_486 : Cond.methodLink "LowWater" 140 yX11_levelIn ∈ zT := zT_t (i := 486) (by decide +kernel) (by decide +kernel)
theorem zw_488 : Cond.instanceMethod yX11_levelIn ∈ zT := zT_t (i := 488) (by decide +kernel) (by decide +kernel)
theorem zw_s10 : Cond.selects "LowWater" yX11_levelIn yX11_levelIn ∈ zT := zT_s (i := 10) (by decide +kernel) (by decide +kernel)
theorem k_X11_140 : Cond.methodLink "LowWater" 140 yX11_levelIn ∈ zT ∧ Cond.instanceMethod yX11_levelIn ∈ zT ∧ Cond.selects yX11_levelIn.cls yX11_levelIn yX11_levelIn ∈ zT := ⟨zw_486, zw_488, zw_s10⟩
theorem zw_514 : Cond.code yX1_waveAt cX1_waveAt 3 (some .int) ∈ zT := zT_t (i := 514) (by decide +kernel) (by decide +kernel)
theorem co_X1_waveAt : zCo yX1_waveAt cX1_waveAt 3 (some .int) 1 := ⟨zw_514, zw_3, by decide +kernel, by decide +kernel, by decide +kernel⟩
theorem zw_511 : Cond.methodLink "LowWater" 143 yX1_waveAt ∈ zT := zT_t (i := 511) (by decide +kernel) (by decide +kernel)
theorem zw_512 : Cond.instanceMethod yX1_waveAt ∈ zT := zT_t (i := 512) (by decide +kernel) (by decide +kernel)
theorem zw_513 : Cond.selects "LowWater$Cave" yX1_waveAt yX1_waveAt ∈ zT := zT_t (i := 513) (by decide +kernel) (by decide +kernel)
theorem k_X11_143 : Cond.methodLink "LowWater" 143 yX1_waveAt ∈ zT ∧ Cond.instanceMethod yX1_waveAt ∈ zT ∧ Cond.selects yX1_waveAt.cls yX1_waveAt yX1_waveAt ∈ zT := ⟨zw_511, zw_512, zw_513⟩
theorem zw_523 : Cond.methodLink "LowWater" 146 yX6_soonest ∈ zT := zT_t (i := 523) (by decide +kernel) (by decide +kernel)
theorem ku_X11_146_X0 : Cond.methodLink "LowWater" 146 ⟨"LowWater$Reader", "soonest", "(LLowWater$Cave;III)I"⟩ ∈ zT ∧ Cond.sameMethod "LowWater$Reader" "LowWater$Reader" "soonest" "(LLowWater$Cave;III)I" ∈ zT ∧ Cond.instanceMethod ⟨"LowWater$Reader", "soonest", "(LLowWater$Cave;III)I"⟩ ∈ zT ∧ Cond.code ⟨"LowWater$Reader", "soonest", "(LLowWater$Cave;III)I"⟩ cX6_soonest 8 (some .int) ∈ zT ∧ Cond.selects "LowWater$Blind" ⟨"LowWater$Reader", "soonest", "(LLowWater$Cave;III)I"⟩ yX6_soonest ∈ zT ∧ Cond.instanceMethod yX6_soonest ∈ zT ∧ "LowWater$Reader" ≠ "java/lang/invoke/MethodHandle" ∧ "LowWater$Reader" ≠ "java/lang/invoke/VarHandle" ∧ (parseMethodDescriptor "(LLowWater$Cave;III)I").map (fun d => d.parameters.length) = some 4 := ⟨zw_523, zw_526, zw_524, zw_533, zw_527, zw_524, by decide +kernel, by decide +kernel, by decide +kernel⟩
theorem ku_X11_146_X2 : Cond.methodLink "LowWater" 146 ⟨"LowWater$Reader", "soonest", "(LLowWater$Cave;III)I"⟩ ∈ zT ∧ Cond.sameMethod "LowWater$Reader" "LowWater$Reader" "soonest" "(LLowWater$Cave;III)I" ∈ zT ∧ Cond.instanceMethod ⟨"LowWater$Reader", "soonest", "(LLowWater$Cave;III)I"⟩ ∈ zT ∧ Cond.code ⟨"LowWater$Reader", "soonest", "(LLowWater$Cave;III)I"⟩ cX6_soonest 8 (some .int) ∈ zT ∧ Cond.selects "LowWater$Diver" ⟨"LowWater$Reader", "soonest", "(LLowWater$Cave;III)I"⟩ yX6_soonest ∈ zT ∧ Cond.instanceMethod yX6_soonest ∈ zT ∧ "LowWater$Reader" ≠ "java/lang/invoke/MethodHandle" ∧ "LowWater$Reader" ≠ "java/lang/invoke/VarHandle" ∧ (parseMethodDescriptor "(LLowWater$Cave;III)I").map (fun d => d.parameters.length) = some 4 := ⟨zw_523, zw_526, zw_524, zw_533, zw_528, zw_524, by decide +kernel, by decide +kernel, by decide +kernel⟩
theorem ku_X11_146_X3 : Cond.methodLink "LowWater" 146 ⟨"LowWater$Reader", "soonest", "(LLowWater$Cave;III)I"⟩ ∈ zT ∧ Cond.sameMethod "LowWater$Reader" "LowWater$Reader" "soonest" "(LLowWater$Cave;III)I" ∈ zT ∧ Cond.instanceMethod ⟨"LowWater$Reader", "soonest", "(LLowWater$Cave;III)I"⟩ ∈ zT ∧ Cond.code ⟨"LowWater$Reader", "soonest", "(LLowWater$Cave;III)I"⟩ cX6_soonest 8 (some .int) ∈ zT ∧ Cond.selects "LowWater$Fast" ⟨"LowWater$Reader", "soonest", "(LLowWater$Cave;III)I"⟩ yX6_soonest ∈ zT ∧ Cond.instanceMethod yX6_soonest ∈ zT ∧ "LowWater$Reader" ≠ "java/lang/invoke/MethodHandle" ∧ "LowWater$Reader" ≠ "java/lang/invoke/VarHandle" ∧ (parseMethodDescriptor "(LLowWater$Cave;III)I").map (fun d => d.parameters.length) = some 4 := ⟨zw_523, zw_526, zw_524, zw_533, zw_529, zw_524, by decide +kernel, by decide +kernel, by decide +kernel⟩
theorem ku_X11_146_X5 : Cond.methodLink "LowWater" 146 ⟨"LowWater$Reader", "soonest", "(LLowWater$Cave;III)I"⟩ ∈ zT ∧ Cond.sameMethod "LowWater$Reader" "LowWater$Reader" "soonest" "(LLowWater$Cave;III)I" ∈ zT ∧ Cond.instanceMethod ⟨"LowWater$Reader", "soonest", "(LLowWater$Cave;III)I"⟩ ∈ zT ∧ Cond.code ⟨"LowWater$Reader", "soonest", "(LLowWater$Cave;III)I"⟩ cX6_soonest 8 (some .int) ∈ zT ∧ Cond.selects "LowWater$Quick" ⟨"LowWater$Reader", "soonest", "(LLowWater$Cave;III)I"⟩ yX6_soonest ∈ zT ∧ Cond.instanceMethod yX6_soonest ∈ zT ∧ "LowWater$Reader" ≠ "java/lang/invoke/MethodHandle" ∧ "LowWater$Reader" ≠ "java/lang/invoke/VarHandle" ∧ (parseMethodDescriptor "(LLowWater$Cave;III)I").map (fun d => d.parameters.length) = some 4 := ⟨zw_523, zw_526, zw_524, zw_533, zw_530, zw_524, by decide +kernel, by decide +kernel, by decide +kernel⟩
theorem k_X11_146_X6 : Cond.methodLink "LowWater" 146 yX6_soonest ∈ zT ∧ Cond.instanceMethod yX6_soonest ∈ zT ∧ Cond.selects yX6_soonest.cls yX6_soonest yX6_soonest ∈ zT := ⟨zw_523, zw_524, zw_525⟩
theorem ku_X11_146_X6 : Cond.methodLink "LowWater" 146 ⟨"LowWater$Reader", "soonest", "(LLowWater$Cave;III)I"⟩ ∈ zT ∧ Cond.sameMethod "LowWater$Reader" "LowWater$Reader" "soonest" "(LLowWater$Cave;III)I" ∈ zT ∧ Cond.instanceMethod ⟨"LowWater$Reader", "soonest", "(LLowWater$Cave;III)I"⟩ ∈ zT ∧ Cond.code ⟨"LowWater$Reader", "soonest", "(LLowWater$Cave;III)I"⟩ cX6_soonest 8 (some .int) ∈ zT ∧ Cond.selects "LowWater$Reader" ⟨"LowWater$Reader", "soonest", "(LLowWater$Cave;III)I"⟩ yX6_soonest ∈ zT ∧ Cond.instanceMethod yX6_soonest ∈ zT ∧ "LowWater$Reader" ≠ "java/lang/invoke/MethodHandle" ∧ "LowWater$Reader" ≠ "java/lang/invoke/VarHandle" ∧ (parseMethodDescriptor "(LLowWater$Cave;III)I").map (fun d => d.parameters.length) = some 4 := ⟨zw_523, zw_526, zw_524, zw_533, zw_525, zw_524, by decide +kernel, by decide +kernel, by decide +kernel⟩
theorem ku_X11_146_X8 : Cond.methodLink "LowWater" 146 ⟨"LowWater$Reader", "soonest", "(LLowWater$Cave;III)I"⟩ ∈ zT ∧ Cond.sameMethod "LowWater$Reader" "LowWater$Reader" "soonest" "(LLowWater$Cave;III)I" ∈ zT ∧ Cond.instanceMethod ⟨"LowWater$Reader", "soonest", "(LLowWater$Cave;III)I"⟩ ∈ zT ∧ Cond.code ⟨"LowWater$Reader", "soonest", "(LLowWater$Cave;III)I"⟩ cX6_soonest 8 (some .int) ∈ zT ∧ Cond.selects "LowWater$Rowed" ⟨"LowWater$Reader", "soonest", "(LLowWater$Cave;III)I"⟩ yX6_soonest ∈ zT ∧ Cond.instanceMethod yX6_soonest ∈ zT ∧ "LowWater$Reader" ≠ "java/lang/invoke/MethodHandle" ∧ "LowWater$Reader" ≠ "java/lang/invoke/VarHandle" ∧ (parseMethodDescriptor "(LLowWater$Cave;III)I").map (fun d => d.parameters.length) = some 4 := ⟨zw_523, zw_526, zw_524, zw_533, zw_531, zw_524, by decide +kernel, by decide +kernel, by decide +kernel⟩
theorem ku_X11_146_X10 : Cond.methodLink "LowWater" 146 ⟨"LowWater$Reader", "soonest", "(LLowWater$Cave;III)I"⟩ ∈ zT ∧ Cond.sameMethod "LowWater$Reader" "LowWater$Reader" "soonest" "(LLowWater$Cave;III)I" ∈ zT ∧ Cond.instanceMethod ⟨"LowWater$Reader", "soonest", "(LLowWater$Cave;III)I"⟩ ∈ zT ∧ Cond.code ⟨"LowWater$Reader", "soonest", "(LLowWater$Cave;III)I"⟩ cX6_soonest 8 (some .int) ∈ zT ∧ Cond.selects "LowWater$Waiting" ⟨"LowWater$Reader", "soonest", "(LLowWater$Cave;III)I"⟩ yX6_soonest ∈ zT ∧ Cond.instanceMethod yX6_soonest ∈ zT ∧ "LowWater$Reader" ≠ "java/lang/invoke/MethodHandle" ∧ "LowWater$Reader" ≠ "java/lang/invoke/VarHandle" ∧ (parseMethodDescriptor "(LLowWater$Cave;III)I").map (fun d => d.parameters.length) = some 4 := ⟨zw_523, zw_526, zw_524, zw_533, zw_532, zw_524, by decide +kernel, by decide +kernel, by decide +kernel⟩
theorem zw_575 : Cond.code yX11_isSet cX11_isSet 2 (some .boolean) ∈ zT := zT_t (i := 575) (by decide +kernel) (by decide +kernel)
theorem co_X11_isSet : zCo yX11_isSet cX11_isSet 2 (some .boolean) 1 := ⟨zw_575, zw_1, by decide +kernel, by decide +kernel, by decide +kernel⟩
theorem zw_572 : Cond.methodLink "LowWater" 150 yX11_isSet ∈ zT := zT_t (i := 572) (by decide +kernel) (by decide +kernel)
theorem zw_574 : Cond.instanceMethod yX11_isSet ∈ zT := zT_t (i := 574) (by decide +kernel) (by decide +kernel)
theorem zw_s12 : Cond.selects "LowWater" yX11_isSet yX11_isSet ∈ zT := zT_s (i := 12) (by decide +kernel) (by decide +kernel)
theorem k_X11_150 : Cond.methodLink "LowWater" 150 yX11_isSet ∈ zT ∧ Cond.instanceMethod yX11_isSet ∈ zT ∧ Cond.selects yX11_isSet.cls yX11_isSet yX11_isSet ∈ zT := ⟨zw_572, zw_574, zw_s12⟩
theorem zw_579 : Cond.code yX4_begin cX4_begin 4 none ∈ zT := zT_t (i := 579) (by decide +kernel) (by decide +kernel)
theorem co_X4_begin : zCo yX4_begin cX4_begin 4 none 3 := ⟨zw_579, zw_5, by decide +kernel, by decide +kernel, by decide +kernel⟩
theorem zw_576 : Cond.methodLink "LowWater" 153 yX4_begin ∈ zT := zT_t (i := 576) (by decide +kernel) (by decide +kernel)
theorem zw_577 : Cond.instanceMethod yX4_begin ∈ zT := zT_t (i := 577) (by decide +kernel) (by decide +kernel)
theorem zw_578 : Cond.selects "LowWater$Orders" yX4_begin yX4_begin ∈ zT := zT_t (i := 578) (by decide +kernel) (by decide +kernel)
theorem k_X11_153 : Cond.methodLink "LowWater" 153 yX4_begin ∈ zT ∧ Cond.instanceMethod yX4_begin ∈ zT ∧ Cond.selects yX4_begin.cls yX4_begin yX4_begin ∈ zT := ⟨zw_576, zw_577, zw_578⟩
theorem k_X11_157 : ("LowWater", 157, yX4_goOn, "LowWater") ∈ zNM ∧ Cond.instanceMethod yX4_goOn ∈ zT ∧ Cond.selects yX4_goOn.cls yX4_goOn yX4_goOn ∈ zT := ⟨by decide +kernel, zw_583, zw_s13⟩
theorem zw_595 : Cond.methodLink "LowWater" 161 yX4_hoursOf ∈ zT := zT_t (i := 595) (by decide +kernel) (by decide +kernel)
theorem k_X11_161 : Cond.methodLink "LowWater" 161 yX4_hoursOf ∈ zT ∧ Cond.instanceMethod yX4_hoursOf ∈ zT ∧ Cond.selects yX4_hoursOf.cls yX4_hoursOf yX4_hoursOf ∈ zT := ⟨zw_595, zw_596, zw_597⟩
theorem zw_602 : Cond.code yX4_kth cX4_kth 3 (some .int) ∈ zT := zT_t (i := 602) (by decide +kernel) (by decide +kernel)
theorem co_X4_kth : zCo yX4_kth cX4_kth 3 (some .int) 1 := ⟨zw_602, zw_5, by decide +kernel, by decide +kernel, by decide +kernel⟩
theorem zw_599 : Cond.methodLink "LowWater" 164 yX4_kth ∈ zT := zT_t (i := 599) (by decide +kernel) (by decide +kernel)
theorem zw_600 : Cond.instanceMethod yX4_kth ∈ zT := zT_t (i := 600) (by decide +kernel) (by decide +kernel)
theorem zw_601 : Cond.selects "LowWater$Orders" yX4_kth yX4_kth ∈ zT := zT_t (i := 601) (by decide +kernel) (by decide +kernel)
theorem k_X11_164 : Cond.methodLink "LowWater" 164 yX4_kth ∈ zT ∧ Cond.instanceMethod yX4_kth ∈ zT ∧ Cond.selects yX4_kth.cls yX4_kth yX4_kth ∈ zT := ⟨zw_599, zw_600, zw_601⟩
theorem zw_617 : Cond.code yX11_bothDone cX11_bothDone 5 (some .int) ∈ zT := zT_t (i := 617) (by decide +kernel) (by decide +kernel)
theorem co_X11_bothDone : zCo yX11_bothDone cX11_bothDone 5 (some .int) 2 := ⟨zw_617, zw_1, by decide +kernel, by decide +kernel, by decide +kernel⟩
theorem zw_614 : Cond.methodLink "LowWater" 167 yX11_bothDone ∈ zT := zT_t (i := 614) (by decide +kernel) (by decide +kernel)
theorem zw_616 : Cond.instanceMethod yX11_bothDone ∈ zT := zT_t (i := 616) (by decide +kernel) (by decide +kernel)
theorem zw_s15 : Cond.selects "LowWater" yX11_bothDone yX11_bothDone ∈ zT := zT_s (i := 15) (by decide +kernel) (by decide +kernel)
theorem k_X11_167 : Cond.methodLink "LowWater" 167 yX11_bothDone ∈ zT ∧ Cond.instanceMethod yX11_bothDone ∈ zT ∧ Cond.selects yX11_bothDone.cls yX11_bothDone yX11_bothDone ∈ zT := ⟨zw_614, zw_616, zw_s15⟩
theorem f_X11_171 : zFL "LowWater" 171 9 8 true false (.object "LowWater$Row") := ⟨RX9, "LowWater$State", TX9, 11, tyX9, rfl, by decide, in_X9, tyX9_ok, nmX9, rfl, rfl, (fun h => Bool.noConfusion h), Or.inr ⟨"LowWater", by decide +kernel⟩, Or.inl rfl⟩
theorem zw_626 : Cond.code yX11_tellOf cX11_tellOf 6 (some .int) ∈ zT := zT_t (i := 626) (by decide +kernel) (by decide +kernel)
theorem co_X11_tellOf : zCo yX11_tellOf cX11_tellOf 6 (some .int) 5 := ⟨zw_626, zw_1, by decide +kernel, by decide +kernel, by decide +kernel⟩
theorem zw_623 : Cond.methodLink "LowWater" 174 yX11_tellOf ∈ zT := zT_t (i := 623) (by decide +kernel) (by decide +kernel)
theorem zw_625 : Cond.instanceMethod yX11_tellOf ∈ zT := zT_t (i := 625) (by decide +kernel) (by decide +kernel)
theorem zw_s16 : Cond.selects "LowWater" yX11_tellOf yX11_tellOf ∈ zT := zT_s (i := 16) (by decide +kernel) (by decide +kernel)
theorem k_X11_174 : Cond.methodLink "LowWater" 174 yX11_tellOf ∈ zT ∧ Cond.instanceMethod yX11_tellOf ∈ zT ∧ Cond.selects yX11_tellOf.cls yX11_tellOf yX11_tellOf ∈ zT := ⟨zw_623, zw_625, zw_s16⟩
theorem zw_634 : Cond.code yX11_fillWaited cX11_fillWaited 4 (some .int) ∈ zT := zT_t (i := 634) (by decide +kernel) (by decide +kernel)
theorem co_X11_fillWaited : zCo yX11_fillWaited cX11_fillWaited 4 (some .int) 0 := ⟨zw_634, zw_1, by decide +kernel, by decide +kernel, by decide +kernel⟩
theorem zw_631 : Cond.methodLink "LowWater" 178 yX11_fillWaited ∈ zT := zT_t (i := 631) (by decide +kernel) (by decide +kernel)
theorem zw_633 : Cond.instanceMethod yX11_fillWaited ∈ zT := zT_t (i := 633) (by decide +kernel) (by decide +kernel)
theorem zw_s17 : Cond.selects "LowWater" yX11_fillWaited yX11_fillWaited ∈ zT := zT_s (i := 17) (by decide +kernel) (by decide +kernel)
theorem k_X11_178 : Cond.methodLink "LowWater" 178 yX11_fillWaited ∈ zT ∧ Cond.instanceMethod yX11_fillWaited ∈ zT ∧ Cond.selects yX11_fillWaited.cls yX11_fillWaited yX11_fillWaited ∈ zT := ⟨zw_631, zw_633, zw_s17⟩
theorem zw_655 : Cond.code yX11_waitsIf cX11_waitsIf 9 (some .int) ∈ zT := zT_t (i := 655) (by decide +kernel) (by decide +kernel)
theorem co_X11_waitsIf : zCo yX11_waitsIf cX11_waitsIf 9 (some .int) 4 := ⟨zw_655, zw_1, by decide +kernel, by decide +kernel, by decide +kernel⟩
theorem zw_652 : Cond.methodLink "LowWater" 181 yX11_waitsIf ∈ zT := zT_t (i := 652) (by decide +kernel) (by decide +kernel)
theorem zw_654 : Cond.instanceMethod yX11_waitsIf ∈ zT := zT_t (i := 654) (by decide +kernel) (by decide +kernel)
theorem zw_s19 : Cond.selects "LowWater" yX11_waitsIf yX11_waitsIf ∈ zT := zT_s (i := 19) (by decide +kernel) (by decide +kernel)
theorem k_X11_181 : Cond.methodLink "LowWater" 181 yX11_waitsIf ∈ zT ∧ Cond.instanceMethod yX11_waitsIf ∈ zT ∧ Cond.selects yX11_waitsIf.cls yX11_waitsIf yX11_waitsIf ∈ zT := ⟨zw_652, zw_654, zw_s19⟩
theorem zw_618 : Cond.methodLink "LowWater" 185 Lib.Math.max.name ∈ zT := zT_t (i := 618) (by decide +kernel) (by decide +kernel)
theorem ma_X11_185 : zMa "LowWater" 185 Lib.Math.max.name Lib.Math.max.code 2 := ⟨zw_618, zw_470, zw_19, zw_471⟩
theorem zw_676 : Cond.constantLong "LowWater" 190 (-9223372036854775808) ∈ zT := zT_t (i := 676) (by decide +kernel) (by decide +kernel)
theorem cn_X11_190 : Cond.constantLong "LowWater" 190 (-9223372036854775808) ∈ zT := zw_676
theorem zw_677 : Cond.constantLong "LowWater" 192 10 ∈ zT := zT_t (i := 677) (by decide +kernel) (by decide +kernel)
theorem cn_X11_192 : Cond.constantLong "LowWater" 192 10 ∈ zT := zw_677
theorem zw_680 : Cond.code yX11_lowestTerms cX11_lowestTerms 12 (some .long) ∈ zT := zT_t (i := 680) (by decide +kernel) (by decide +kernel)
theorem co_X11_lowestTerms : zCo yX11_lowestTerms cX11_lowestTerms 12 (some .long) 3 := ⟨zw_680, zw_1, by decide +kernel, by decide +kernel, by decide +kernel⟩
theorem zw_678 : Cond.methodLink "LowWater" 194 yX11_lowestTerms ∈ zT := zT_t (i := 678) (by decide +kernel) (by decide +kernel)
theorem zw_679 : Cond.static yX11_lowestTerms ∈ zT := zT_t (i := 679) (by decide +kernel) (by decide +kernel)
theorem k_X11_194 : Cond.methodLink "LowWater" 194 yX11_lowestTerms ∈ zT ∧ Cond.static yX11_lowestTerms ∈ zT := ⟨zw_678, zw_679⟩
theorem f_X11_198 : zFL "LowWater" 198 9 9 true false (.object "LowWater$Row") := ⟨RX9, "LowWater$State", TX9, 11, tyX9, rfl, by decide, in_X9, tyX9_ok, nmX9, rfl, rfl, (fun h => Bool.noConfusion h), Or.inr ⟨"LowWater", by decide +kernel⟩, Or.inl rfl⟩
theorem zw_693 : Cond.methodLink "LowWater" 201 Lib.Math.min.name ∈ zT := zT_t (i := 693) (by decide +kernel) (by decide +kernel)
theorem ma_X11_201 : zMa "LowWater" 201 Lib.Math.min.name Lib.Math.min.code 2 := ⟨zw_693, zw_508, zw_19, zw_509⟩
theorem f_X11_204 : zFL "LowWater" 204 9 10 true false (.object "LowWater$Row") := ⟨RX9, "LowWater$State", TX9, 11, tyX9, rfl, by decide, in_X9, tyX9_ok, nmX9, rfl, rfl, (fun h => Bool.noConfusion h), Or.inr ⟨"LowWater", by decide +kernel⟩, Or.inl rfl⟩
theorem zw_637 : Cond.code yX11_slateIn cX11_slateIn 1 (some .int) ∈ zT := zT_t (i := 637) (by decide +kernel) (by decide +kernel)
theorem co_X11_slateIn : zCo yX11_slateIn cX11_slateIn 1 (some .int) 1 := ⟨zw_637, zw_1, by decide +kernel, by decide +kernel, by decide +kernel⟩
theorem zw_635 : Cond.methodLink "LowWater" 207 yX11_slateIn ∈ zT := zT_t (i := 635) (by decide +kernel) (by decide +kernel)
theorem zw_636 : Cond.static yX11_slateIn ∈ zT := zT_t (i := 636) (by decide +kernel) (by decide +kernel)
theorem k_X11_207 : Cond.methodLink "LowWater" 207 yX11_slateIn ∈ zT ∧ Cond.static yX11_slateIn ∈ zT := ⟨zw_635, zw_636⟩
theorem zw_644 : Cond.code yX11_readerIn cX11_readerIn 1 (some .int) ∈ zT := zT_t (i := 644) (by decide +kernel) (by decide +kernel)
theorem co_X11_readerIn : zCo yX11_readerIn cX11_readerIn 1 (some .int) 1 := ⟨zw_644, zw_1, by decide +kernel, by decide +kernel, by decide +kernel⟩
theorem zw_642 : Cond.methodLink "LowWater" 210 yX11_readerIn ∈ zT := zT_t (i := 642) (by decide +kernel) (by decide +kernel)
theorem zw_643 : Cond.static yX11_readerIn ∈ zT := zT_t (i := 643) (by decide +kernel) (by decide +kernel)
theorem k_X11_210 : Cond.methodLink "LowWater" 210 yX11_readerIn ∈ zT ∧ Cond.static yX11_readerIn ∈ zT := ⟨zw_642, zw_643⟩
theorem zw_647 : Cond.code yX11_hoursIn cX11_hoursIn 1 (some .int) ∈ zT := zT_t (i := 647) (by decide +kernel) (by decide +kernel)
theorem co_X11_hoursIn : zCo yX11_hoursIn cX11_hoursIn 1 (some .int) 1 := ⟨zw_647, zw_1, by decide +kernel, by decide +kernel, by decide +kernel⟩
theorem zw_645 : Cond.methodLink "LowWater" 213 yX11_hoursIn ∈ zT := zT_t (i := 645) (by decide +kernel) (by decide +kernel)
theorem zw_646 : Cond.static yX11_hoursIn ∈ zT := zT_t (i := 646) (by decide +kernel) (by decide +kernel)
theorem k_X11_213 : Cond.methodLink "LowWater" 213 yX11_hoursIn ∈ zT ∧ Cond.static yX11_hoursIn ∈ zT := ⟨zw_645, zw_646⟩
theorem zw_712 : Cond.code yX6_reads cX6_reads 7 (some .boolean) ∈ zT := zT_t (i := 712) (by decide +kernel) (by decide +kernel)
theorem co_X6_reads : zCo yX6_reads cX6_reads 7 (some .boolean) 4 := ⟨zw_712, zw_12, by decide +kernel, by decide +kernel, by decide +kernel⟩
theorem zw_702 : Cond.methodLink "LowWater" 216 yX6_reads ∈ zT := zT_t (i := 702) (by decide +kernel) (by decide +kernel)
theorem zw_705 : Cond.sameMethod "LowWater$Reader" "LowWater$Reader" "reads" "(LLowWater$Cave;III)Z" ∈ zT := zT_t (i := 705) (by decide +kernel) (by decide +kernel)
theorem zw_703 : Cond.instanceMethod yX6_reads ∈ zT := zT_t (i := 703) (by decide +kernel) (by decide +kernel)
theorem zw_706 : Cond.selects "LowWater$Blind" yX6_reads yX6_reads ∈ zT := zT_t (i := 706) (by decide +kernel) (by decide +kernel)
theorem ku_X11_216_X0 : Cond.methodLink "LowWater" 216 ⟨"LowWater$Reader", "reads", "(LLowWater$Cave;III)Z"⟩ ∈ zT ∧ Cond.sameMethod "LowWater$Reader" "LowWater$Reader" "reads" "(LLowWater$Cave;III)Z" ∈ zT ∧ Cond.instanceMethod ⟨"LowWater$Reader", "reads", "(LLowWater$Cave;III)Z"⟩ ∈ zT ∧ Cond.code ⟨"LowWater$Reader", "reads", "(LLowWater$Cave;III)Z"⟩ cX6_reads 7 (some .boolean) ∈ zT ∧ Cond.selects "LowWater$Blind" ⟨"LowWater$Reader", "reads", "(LLowWater$Cave;III)Z"⟩ yX6_reads ∈ zT ∧ Cond.instanceMethod yX6_reads ∈ zT ∧ "LowWater$Reader" ≠ "java/lang/invoke/MethodHandle" ∧ "LowWater$Reader" ≠ "java/lang/invoke/VarHandle" ∧ (parseMethodDescriptor "(LLowWater$Cave;III)Z").map (fun d => d.parameters.length) = some 4 := ⟨zw_702, zw_705, zw_703, zw_712, zw_706, zw_703, by decide +kernel, by decide +kernel, by decide +kernel⟩
theorem zw_707 : Cond.selects "LowWater$Diver" yX6_reads yX6_reads ∈ zT := zT_t (i := 707) (by decide +kernel) (by decide +kernel)
theorem ku_X11_216_X2 : Cond.methodLink "LowWater" 216 ⟨"LowWater$Reader", "reads", "(LLowWater$Cave;III)Z"⟩ ∈ zT ∧ Cond.sameMethod "LowWater$Reader" "LowWater$Reader" "reads" "(LLowWater$Cave;III)Z" ∈ zT ∧ Cond.instanceMethod ⟨"LowWater$Reader", "reads", "(LLowWater$Cave;III)Z"⟩ ∈ zT ∧ Cond.code ⟨"LowWater$Reader", "reads", "(LLowWater$Cave;III)Z"⟩ cX6_reads 7 (some .boolean) ∈ zT ∧ Cond.selects "LowWater$Diver" ⟨"LowWater$Reader", "reads", "(LLowWater$Cave;III)Z"⟩ yX6_reads ∈ zT ∧ Cond.instanceMethod yX6_reads ∈ zT ∧ "LowWater$Reader" ≠ "java/lang/invoke/MethodHandle" ∧ "LowWater$Reader" ≠ "java/lang/invoke/VarHandle" ∧ (parseMethodDescriptor "(LLowWater$Cave;III)Z").map (fun d => d.parameters.length) = some 4 := ⟨zw_702, zw_705, zw_703, zw_712, zw_707, zw_703, by decide +kernel, by decide +kernel, by decide +kernel⟩
theorem zw_708 : Cond.selects "LowWater$Fast" yX6_reads yX6_reads ∈ zT := zT_t (i := 708) (by decide +kernel) (by decide +kernel)
theorem ku_X11_216_X3 : Cond.methodLink "LowWater" 216 ⟨"LowWater$Reader", "reads", "(LLowWater$Cave;III)Z"⟩ ∈ zT ∧ Cond.sameMethod "LowWater$Reader" "LowWater$Reader" "reads" "(LLowWater$Cave;III)Z" ∈ zT ∧ Cond.instanceMethod ⟨"LowWater$Reader", "reads", "(LLowWater$Cave;III)Z"⟩ ∈ zT ∧ Cond.code ⟨"LowWater$Reader", "reads", "(LLowWater$Cave;III)Z"⟩ cX6_reads 7 (some .boolean) ∈ zT ∧ Cond.selects "LowWater$Fast" ⟨"LowWater$Reader", "reads", "(LLowWater$Cave;III)Z"⟩ yX6_reads ∈ zT ∧ Cond.instanceMethod yX6_reads ∈ zT ∧ "LowWater$Reader" ≠ "java/lang/invoke/MethodHandle" ∧ "LowWater$Reader" ≠ "java/lang/invoke/VarHandle" ∧ (parseMethodDescriptor "(LLowWater$Cave;III)Z").map (fun d => d.parameters.length) = some 4 := ⟨zw_702, zw_705, zw_703, zw_712, zw_708, zw_703, by decide +kernel, by decide +kernel, by decide +kernel⟩
theorem zw_709 : Cond.selects "LowWater$Quick" yX6_reads yX6_reads ∈ zT := zT_t (i := 709) (by decide +kernel) (by decide +kernel)
theorem ku_X11_216_X5 : Cond.methodLink "LowWater" 216 ⟨"LowWater$Reader", "reads", "(LLowWater$Cave;III)Z"⟩ ∈ zT ∧ Cond.sameMethod "LowWater$Reader" "LowWater$Reader" "reads" "(LLowWater$Cave;III)Z" ∈ zT ∧ Cond.instanceMethod ⟨"LowWater$Reader", "reads", "(LLowWater$Cave;III)Z"⟩ ∈ zT ∧ Cond.code ⟨"LowWater$Reader", "reads", "(LLowWater$Cave;III)Z"⟩ cX6_reads 7 (some .boolean) ∈ zT ∧ Cond.selects "LowWater$Quick" ⟨"LowWater$Reader", "reads", "(LLowWater$Cave;III)Z"⟩ yX6_reads ∈ zT ∧ Cond.instanceMethod yX6_reads ∈ zT ∧ "LowWater$Reader" ≠ "java/lang/invoke/MethodHandle" ∧ "LowWater$Reader" ≠ "java/lang/invoke/VarHandle" ∧ (parseMethodDescriptor "(LLowWater$Cave;III)Z").map (fun d => d.parameters.length) = some 4 := ⟨zw_702, zw_705, zw_703, zw_712, zw_709, zw_703, by decide +kernel, by decide +kernel, by decide +kernel⟩
theorem zw_704 : Cond.selects "LowWater$Reader" yX6_reads yX6_reads ∈ zT := zT_t (i := 704) (by decide +kernel) (by decide +kernel)
theorem k_X11_216_X6 : Cond.methodLink "LowWater" 216 yX6_reads ∈ zT ∧ Cond.instanceMethod yX6_reads ∈ zT ∧ Cond.selects yX6_reads.cls yX6_reads yX6_reads ∈ zT := ⟨zw_702, zw_703, zw_704⟩
theorem ku_X11_216_X6 : Cond.methodLink "LowWater" 216 ⟨"LowWater$Reader", "reads", "(LLowWater$Cave;III)Z"⟩ ∈ zT ∧ Cond.sameMethod "LowWater$Reader" "LowWater$Reader" "reads" "(LLowWater$Cave;III)Z" ∈ zT ∧ Cond.instanceMethod ⟨"LowWater$Reader", "reads", "(LLowWater$Cave;III)Z"⟩ ∈ zT ∧ Cond.code ⟨"LowWater$Reader", "reads", "(LLowWater$Cave;III)Z"⟩ cX6_reads 7 (some .boolean) ∈ zT ∧ Cond.selects "LowWater$Reader" ⟨"LowWater$Reader", "reads", "(LLowWater$Cave;III)Z"⟩ yX6_reads ∈ zT ∧ Cond.instanceMethod yX6_reads ∈ zT ∧ "LowWater$Reader" ≠ "java/lang/invoke/MethodHandle" ∧ "LowWater$Reader" ≠ "java/lang/invoke/VarHandle" ∧ (parseMethodDescriptor "(LLowWater$Cave;III)Z").map (fun d => d.parameters.length) = some 4 := ⟨zw_702, zw_705, zw_703, zw_712, zw_704, zw_703, by decide +kernel, by decide +kernel, by decide +kernel⟩
theorem zw_710 : Cond.selects "LowWater$Rowed" yX6_reads yX6_reads ∈ zT := zT_t (i := 710) (by decide +kernel) (by decide +kernel)
theorem ku_X11_216_X8 : Cond.methodLink "LowWater" 216 ⟨"LowWater$Reader", "reads", "(LLowWater$Cave;III)Z"⟩ ∈ zT ∧ Cond.sameMethod "LowWater$Reader" "LowWater$Reader" "reads" "(LLowWater$Cave;III)Z" ∈ zT ∧ Cond.instanceMethod ⟨"LowWater$Reader", "reads", "(LLowWater$Cave;III)Z"⟩ ∈ zT ∧ Cond.code ⟨"LowWater$Reader", "reads", "(LLowWater$Cave;III)Z"⟩ cX6_reads 7 (some .boolean) ∈ zT ∧ Cond.selects "LowWater$Rowed" ⟨"LowWater$Reader", "reads", "(LLowWater$Cave;III)Z"⟩ yX6_reads ∈ zT ∧ Cond.instanceMethod yX6_reads ∈ zT ∧ "LowWater$Reader" ≠ "java/lang/invoke/MethodHandle" ∧ "LowWater$Reader" ≠ "java/lang/invoke/VarHandle" ∧ (parseMethodDescriptor "(LLowWater$Cave;III)Z").map (fun d => d.parameters.length) = some 4 := ⟨zw_702, zw_705, zw_703, zw_712, zw_710, zw_703, by decide +kernel, by decide +kernel, by decide +kernel⟩
theorem zw_711 : Cond.selects "LowWater$Waiting" yX6_reads yX6_reads ∈ zT := zT_t (i := 711) (by decide +kernel) (by decide +kernel)
theorem ku_X11_216_X10 : Cond.methodLink "LowWater" 216 ⟨"LowWater$Reader", "reads", "(LLowWater$Cave;III)Z"⟩ ∈ zT ∧ Cond.sameMethod "LowWater$Reader" "LowWater$Reader" "reads" "(LLowWater$Cave;III)Z" ∈ zT ∧ Cond.instanceMethod ⟨"LowWater$Reader", "reads", "(LLowWater$Cave;III)Z"⟩ ∈ zT ∧ Cond.code ⟨"LowWater$Reader", "reads", "(LLowWater$Cave;III)Z"⟩ cX6_reads 7 (some .boolean) ∈ zT ∧ Cond.selects "LowWater$Waiting" ⟨"LowWater$Reader", "reads", "(LLowWater$Cave;III)Z"⟩ yX6_reads ∈ zT ∧ Cond.instanceMethod yX6_reads ∈ zT ∧ "LowWater$Reader" ≠ "java/lang/invoke/MethodHandle" ∧ "LowWater$Reader" ≠ "java/lang/invoke/VarHandle" ∧ (parseMethodDescriptor "(LLowWater$Cave;III)Z").map (fun d => d.parameters.length) = some 4 := ⟨zw_702, zw_705, zw_703, zw_712, zw_711, zw_703, by decide +kernel, by decide +kernel, by decide +kernel⟩
theorem zw_717 : Cond.methodLink "LowWater" 220 yX6_bodyOfReads ∈ zT := zT_t (i := 717) (by decide +kernel) (by decide +kernel)
theorem ku_X11_220_X0 : Cond.methodLink "LowWater" 220 ⟨"LowWater$Reader", "bodyOfReads", "(ILLowWater$Row;)I"⟩ ∈ zT ∧ Cond.sameMethod "LowWater$Reader" "LowWater$Reader" "bodyOfReads" "(ILLowWater$Row;)I" ∈ zT ∧ Cond.instanceMethod ⟨"LowWater$Reader", "bodyOfReads", "(ILLowWater$Row;)I"⟩ ∈ zT ∧ Cond.code ⟨"LowWater$Reader", "bodyOfReads", "(ILLowWater$Row;)I"⟩ cX6_bodyOfReads 3 (some .int) ∈ zT ∧ Cond.selects "LowWater$Blind" ⟨"LowWater$Reader", "bodyOfReads", "(ILLowWater$Row;)I"⟩ yX0_bodyOfReads ∈ zT ∧ Cond.instanceMethod yX0_bodyOfReads ∈ zT ∧ "LowWater$Reader" ≠ "java/lang/invoke/MethodHandle" ∧ "LowWater$Reader" ≠ "java/lang/invoke/VarHandle" ∧ (parseMethodDescriptor "(ILLowWater$Row;)I").map (fun d => d.parameters.length) = some 2 := ⟨zw_717, zw_720, zw_718, zw_737, zw_721, zw_722, by decide +kernel, by decide +kernel, by decide +kernel⟩
theorem ku_X11_220_X2 : Cond.methodLink "LowWater" 220 ⟨"LowWater$Reader", "bodyOfReads", "(ILLowWater$Row;)I"⟩ ∈ zT ∧ Cond.sameMethod "LowWater$Reader" "LowWater$Reader" "bodyOfReads" "(ILLowWater$Row;)I" ∈ zT ∧ Cond.instanceMethod ⟨"LowWater$Reader", "bodyOfReads", "(ILLowWater$Row;)I"⟩ ∈ zT ∧ Cond.code ⟨"LowWater$Reader", "bodyOfReads", "(ILLowWater$Row;)I"⟩ cX6_bodyOfReads 3 (some .int) ∈ zT ∧ Cond.selects "LowWater$Diver" ⟨"LowWater$Reader", "bodyOfReads", "(ILLowWater$Row;)I"⟩ yX6_bodyOfReads ∈ zT ∧ Cond.instanceMethod yX6_bodyOfReads ∈ zT ∧ "LowWater$Reader" ≠ "java/lang/invoke/MethodHandle" ∧ "LowWater$Reader" ≠ "java/lang/invoke/VarHandle" ∧ (parseMethodDescriptor "(ILLowWater$Row;)I").map (fun d => d.parameters.length) = some 2 := ⟨zw_717, zw_720, zw_718, zw_737, zw_728, zw_718, by decide +kernel, by decide +kernel, by decide +kernel⟩
theorem ku_X11_220_X3 : Cond.methodLink "LowWater" 220 ⟨"LowWater$Reader", "bodyOfReads", "(ILLowWater$Row;)I"⟩ ∈ zT ∧ Cond.sameMethod "LowWater$Reader" "LowWater$Reader" "bodyOfReads" "(ILLowWater$Row;)I" ∈ zT ∧ Cond.instanceMethod ⟨"LowWater$Reader", "bodyOfReads", "(ILLowWater$Row;)I"⟩ ∈ zT ∧ Cond.code ⟨"LowWater$Reader", "bodyOfReads", "(ILLowWater$Row;)I"⟩ cX6_bodyOfReads 3 (some .int) ∈ zT ∧ Cond.selects "LowWater$Fast" ⟨"LowWater$Reader", "bodyOfReads", "(ILLowWater$Row;)I"⟩ yX3_bodyOfReads ∈ zT ∧ Cond.instanceMethod yX3_bodyOfReads ∈ zT ∧ "LowWater$Reader" ≠ "java/lang/invoke/MethodHandle" ∧ "LowWater$Reader" ≠ "java/lang/invoke/VarHandle" ∧ (parseMethodDescriptor "(ILLowWater$Row;)I").map (fun d => d.parameters.length) = some 2 := ⟨zw_717, zw_720, zw_718, zw_737, zw_729, zw_730, by decide +kernel, by decide +kernel, by decide +kernel⟩
theorem ku_X11_220_X5 : Cond.methodLink "LowWater" 220 ⟨"LowWater$Reader", "bodyOfReads", "(ILLowWater$Row;)I"⟩ ∈ zT ∧ Cond.sameMethod "LowWater$Reader" "LowWater$Reader" "bodyOfReads" "(ILLowWater$Row;)I" ∈ zT ∧ Cond.instanceMethod ⟨"LowWater$Reader", "bodyOfReads", "(ILLowWater$Row;)I"⟩ ∈ zT ∧ Cond.code ⟨"LowWater$Reader", "bodyOfReads", "(ILLowWater$Row;)I"⟩ cX6_bodyOfReads 3 (some .int) ∈ zT ∧ Cond.selects "LowWater$Quick" ⟨"LowWater$Reader", "bodyOfReads", "(ILLowWater$Row;)I"⟩ yX3_bodyOfReads ∈ zT ∧ Cond.instanceMethod yX3_bodyOfReads ∈ zT ∧ "LowWater$Reader" ≠ "java/lang/invoke/MethodHandle" ∧ "LowWater$Reader" ≠ "java/lang/invoke/VarHandle" ∧ (parseMethodDescriptor "(ILLowWater$Row;)I").map (fun d => d.parameters.length) = some 2 := ⟨zw_717, zw_720, zw_718, zw_737, zw_734, zw_730, by decide +kernel, by decide +kernel, by decide +kernel⟩
theorem k_X11_220_X6 : Cond.methodLink "LowWater" 220 yX6_bodyOfReads ∈ zT ∧ Cond.instanceMethod yX6_bodyOfReads ∈ zT ∧ Cond.selects yX6_bodyOfReads.cls yX6_bodyOfReads yX6_bodyOfReads ∈ zT := ⟨zw_717, zw_718, zw_719⟩
theorem ku_X11_220_X6 : Cond.methodLink "LowWater" 220 ⟨"LowWater$Reader", "bodyOfReads", "(ILLowWater$Row;)I"⟩ ∈ zT ∧ Cond.sameMethod "LowWater$Reader" "LowWater$Reader" "bodyOfReads" "(ILLowWater$Row;)I" ∈ zT ∧ Cond.instanceMethod ⟨"LowWater$Reader", "bodyOfReads", "(ILLowWater$Row;)I"⟩ ∈ zT ∧ Cond.code ⟨"LowWater$Reader", "bodyOfReads", "(ILLowWater$Row;)I"⟩ cX6_bodyOfReads 3 (some .int) ∈ zT ∧ Cond.selects "LowWater$Reader" ⟨"LowWater$Reader", "bodyOfReads", "(ILLowWater$Row;)I"⟩ yX6_bodyOfReads ∈ zT ∧ Cond.instanceMethod yX6_bodyOfReads ∈ zT ∧ "LowWater$Reader" ≠ "java/lang/invoke/MethodHandle" ∧ "LowWater$Reader" ≠ "java/lang/invoke/VarHandle" ∧ (parseMethodDescriptor "(ILLowWater$Row;)I").map (fun d => d.parameters.length) = some 2 := ⟨zw_717, zw_720, zw_718, zw_737, zw_719, zw_718, by decide +kernel, by decide +kernel, by decide +kernel⟩
theorem ku_X11_220_X8 : Cond.methodLink "LowWater" 220 ⟨"LowWater$Reader", "bodyOfReads", "(ILLowWater$Row;)I"⟩ ∈ zT ∧ Cond.sameMethod "LowWater$Reader" "LowWater$Reader" "bodyOfReads" "(ILLowWater$Row;)I" ∈ zT ∧ Cond.instanceMethod ⟨"LowWater$Reader", "bodyOfReads", "(ILLowWater$Row;)I"⟩ ∈ zT ∧ Cond.code ⟨"LowWater$Reader", "bodyOfReads", "(ILLowWater$Row;)I"⟩ cX6_bodyOfReads 3 (some .int) ∈ zT ∧ Cond.selects "LowWater$Rowed" ⟨"LowWater$Reader", "bodyOfReads", "(ILLowWater$Row;)I"⟩ yX6_bodyOfReads ∈ zT ∧ Cond.instanceMethod yX6_bodyOfReads ∈ zT ∧ "LowWater$Reader" ≠ "java/lang/invoke/MethodHandle" ∧ "LowWater$Reader" ≠ "java/lang/invoke/VarHandle" ∧ (parseMethodDescriptor "(ILLowWater$Row;)I").map (fun d => d.parameters.length) = some 2 := ⟨zw_717, zw_720, zw_718, zw_737, zw_735, zw_718, by decide +kernel, by decide +kernel, by decide +kernel⟩
theorem ku_X11_220_X10 : Cond.methodLink "LowWater" 220 ⟨"LowWater$Reader", "bodyOfReads", "(ILLowWater$Row;)I"⟩ ∈ zT ∧ Cond.sameMethod "LowWater$Reader" "LowWater$Reader" "bodyOfReads" "(ILLowWater$Row;)I" ∈ zT ∧ Cond.instanceMethod ⟨"LowWater$Reader", "bodyOfReads", "(ILLowWater$Row;)I"⟩ ∈ zT ∧ Cond.code ⟨"LowWater$Reader", "bodyOfReads", "(ILLowWater$Row;)I"⟩ cX6_bodyOfReads 3 (some .int) ∈ zT ∧ Cond.selects "LowWater$Waiting" ⟨"LowWater$Reader", "bodyOfReads", "(ILLowWater$Row;)I"⟩ yX6_bodyOfReads ∈ zT ∧ Cond.instanceMethod yX6_bodyOfReads ∈ zT ∧ "LowWater$Reader" ≠ "java/lang/invoke/MethodHandle" ∧ "LowWater$Reader" ≠ "java/lang/invoke/VarHandle" ∧ (parseMethodDescriptor "(ILLowWater$Row;)I").map (fun d => d.parameters.length) = some 2 := ⟨zw_717, zw_720, zw_718, zw_737, zw_736, zw_718, by decide +kernel, by decide +kernel, by decide +kernel⟩
theorem zw_739 : Cond.methodLink "LowWater" 224 yX6_bodyOfWaits ∈ zT := zT_t (i := 739) (by decide +kernel) (by decide +kernel)
theorem ku_X11_224_X0 : Cond.methodLink "LowWater" 224 ⟨"LowWater$Reader", "bodyOfWaits", "(ILLowWater$Row;)I"⟩ ∈ zT ∧ Cond.sameMethod "LowWater$Reader" "LowWater$Reader" "bodyOfWaits" "(ILLowWater$Row;)I" ∈ zT ∧ Cond.instanceMethod ⟨"LowWater$Reader", "bodyOfWaits", "(ILLowWater$Row;)I"⟩ ∈ zT ∧ Cond.code ⟨"LowWater$Reader", "bodyOfWaits", "(ILLowWater$Row;)I"⟩ cX6_bodyOfWaits 3 (some .int) ∈ zT ∧ Cond.selects "LowWater$Blind" ⟨"LowWater$Reader", "bodyOfWaits", "(ILLowWater$Row;)I"⟩ yX2_bodyOfWaits ∈ zT ∧ Cond.instanceMethod yX2_bodyOfWaits ∈ zT ∧ "LowWater$Reader" ≠ "java/lang/invoke/MethodHandle" ∧ "LowWater$Reader" ≠ "java/lang/invoke/VarHandle" ∧ (parseMethodDescriptor "(ILLowWater$Row;)I").map (fun d => d.parameters.length) = some 2 := ⟨zw_739, zw_742, zw_740, zw_759, zw_743, zw_744, by decide +kernel, by decide +kernel, by decide +kernel⟩
theorem ku_X11_224_X2 : Cond.methodLink "LowWater" 224 ⟨"LowWater$Reader", "bodyOfWaits", "(ILLowWater$Row;)I"⟩ ∈ zT ∧ Cond.sameMethod "LowWater$Reader" "LowWater$Reader" "bodyOfWaits" "(ILLowWater$Row;)I" ∈ zT ∧ Cond.instanceMethod ⟨"LowWater$Reader", "bodyOfWaits", "(ILLowWater$Row;)I"⟩ ∈ zT ∧ Cond.code ⟨"LowWater$Reader", "bodyOfWaits", "(ILLowWater$Row;)I"⟩ cX6_bodyOfWaits 3 (some .int) ∈ zT ∧ Cond.selects "LowWater$Diver" ⟨"LowWater$Reader", "bodyOfWaits", "(ILLowWater$Row;)I"⟩ yX2_bodyOfWaits ∈ zT ∧ Cond.instanceMethod yX2_bodyOfWaits ∈ zT ∧ "LowWater$Reader" ≠ "java/lang/invoke/MethodHandle" ∧ "LowWater$Reader" ≠ "java/lang/invoke/VarHandle" ∧ (parseMethodDescriptor "(ILLowWater$Row;)I").map (fun d => d.parameters.length) = some 2 := ⟨zw_739, zw_742, zw_740, zw_759, zw_748, zw_744, by decide +kernel, by decide +kernel, by decide +kernel⟩
theorem ku_X11_224_X3 : Cond.methodLink "LowWater" 224 ⟨"LowWater$Reader", "bodyOfWaits", "(ILLowWater$Row;)I"⟩ ∈ zT ∧ Cond.sameMethod "LowWater$Reader" "LowWater$Reader" "bodyOfWaits" "(ILLowWater$Row;)I" ∈ zT ∧ Cond.instanceMethod ⟨"LowWater$Reader", "bodyOfWaits", "(ILLowWater$Row;)I"⟩ ∈ zT ∧ Cond.code ⟨"LowWater$Reader", "bodyOfWaits", "(ILLowWater$Row;)I"⟩ cX6_bodyOfWaits 3 (some .int) ∈ zT ∧ Cond.selects "LowWater$Fast" ⟨"LowWater$Reader", "bodyOfWaits", "(ILLowWater$Row;)I"⟩ yX6_bodyOfWaits ∈ zT ∧ Cond.instanceMethod yX6_bodyOfWaits ∈ zT ∧ "LowWater$Reader" ≠ "java/lang/invoke/MethodHandle" ∧ "LowWater$Reader" ≠ "java/lang/invoke/VarHandle" ∧ (parseMethodDescriptor "(ILLowWater$Row;)I").map (fun d => d.parameters.length) = some 2 := ⟨zw_739, zw_742, zw_740, zw_759, zw_749, zw_740, by decide +kernel, by decide +kernel, by decide +kernel⟩
theorem ku_X11_224_X5 : Cond.methodLink "LowWater" 224 ⟨"LowWater$Reader", "bodyOfWaits", "(ILLowWater$Row;)I"⟩ ∈ zT ∧ Cond.sameMethod "LowWater$Reader" "LowWater$Reader" "bodyOfWaits" "(ILLowWater$Row;)I" ∈ zT ∧ Cond.instanceMethod ⟨"LowWater$Reader", "bodyOfWaits", "(ILLowWater$Row;)I"⟩ ∈ zT ∧ Cond.code ⟨"LowWater$Reader", "bodyOfWaits", "(ILLowWater$Row;)I"⟩ cX6_bodyOfWaits 3 (some .int) ∈ zT ∧ Cond.selects "LowWater$Quick" ⟨"LowWater$Reader", "bodyOfWaits", "(ILLowWater$Row;)I"⟩ yX6_bodyOfWaits ∈ zT ∧ Cond.instanceMethod yX6_bodyOfWaits ∈ zT ∧ "LowWater$Reader" ≠ "java/lang/invoke/MethodHandle" ∧ "LowWater$Reader" ≠ "java/lang/invoke/VarHandle" ∧ (parseMethodDescriptor "(ILLowWater$Row;)I").map (fun d => d.parameters.length) = some 2 := ⟨zw_739, zw_742, zw_740, zw_759, zw_750, zw_740, by decide +kernel, by decide +kernel, by decide +kernel⟩
theorem k_X11_224_X6 : Cond.methodLink "LowWater" 224 yX6_bodyOfWaits ∈ zT ∧ Cond.instanceMethod yX6_bodyOfWaits ∈ zT ∧ Cond.selects yX6_bodyOfWaits.cls yX6_bodyOfWaits yX6_bodyOfWaits ∈ zT := ⟨zw_739, zw_740, zw_741⟩
theorem ku_X11_224_X6 : Cond.methodLink "LowWater" 224 ⟨"LowWater$Reader", "bodyOfWaits", "(ILLowWater$Row;)I"⟩ ∈ zT ∧ Cond.sameMethod "LowWater$Reader" "LowWater$Reader" "bodyOfWaits" "(ILLowWater$Row;)I" ∈ zT ∧ Cond.instanceMethod ⟨"LowWater$Reader", "bodyOfWaits", "(ILLowWater$Row;)I"⟩ ∈ zT ∧ Cond.code ⟨"LowWater$Reader", "bodyOfWaits", "(ILLowWater$Row;)I"⟩ cX6_bodyOfWaits 3 (some .int) ∈ zT ∧ Cond.selects "LowWater$Reader" ⟨"LowWater$Reader", "bodyOfWaits", "(ILLowWater$Row;)I"⟩ yX6_bodyOfWaits ∈ zT ∧ Cond.instanceMethod yX6_bodyOfWaits ∈ zT ∧ "LowWater$Reader" ≠ "java/lang/invoke/MethodHandle" ∧ "LowWater$Reader" ≠ "java/lang/invoke/VarHandle" ∧ (parseMethodDescriptor "(ILLowWater$Row;)I").map (fun d => d.parameters.length) = some 2 := ⟨zw_739, zw_742, zw_740, zw_759, zw_741, zw_740, by decide +kernel, by decide +kernel, by decide +kernel⟩
theorem ku_X11_224_X8 : Cond.methodLink "LowWater" 224 ⟨"LowWater$Reader", "bodyOfWaits", "(ILLowWater$Row;)I"⟩ ∈ zT ∧ Cond.sameMethod "LowWater$Reader" "LowWater$Reader" "bodyOfWaits" "(ILLowWater$Row;)I" ∈ zT ∧ Cond.instanceMethod ⟨"LowWater$Reader", "bodyOfWaits", "(ILLowWater$Row;)I"⟩ ∈ zT ∧ Cond.code ⟨"LowWater$Reader", "bodyOfWaits", "(ILLowWater$Row;)I"⟩ cX6_bodyOfWaits 3 (some .int) ∈ zT ∧ Cond.selects "LowWater$Rowed" ⟨"LowWater$Reader", "bodyOfWaits", "(ILLowWater$Row;)I"⟩ yX6_bodyOfWaits ∈ zT ∧ Cond.instanceMethod yX6_bodyOfWaits ∈ zT ∧ "LowWater$Reader" ≠ "java/lang/invoke/MethodHandle" ∧ "LowWater$Reader" ≠ "java/lang/invoke/VarHandle" ∧ (parseMethodDescriptor "(ILLowWater$Row;)I").map (fun d => d.parameters.length) = some 2 := ⟨zw_739, zw_742, zw_740, zw_759, zw_751, zw_740, by decide +kernel, by decide +kernel, by decide +kernel⟩
theorem ku_X11_224_X10 : Cond.methodLink "LowWater" 224 ⟨"LowWater$Reader", "bodyOfWaits", "(ILLowWater$Row;)I"⟩ ∈ zT ∧ Cond.sameMethod "LowWater$Reader" "LowWater$Reader" "bodyOfWaits" "(ILLowWater$Row;)I" ∈ zT ∧ Cond.instanceMethod ⟨"LowWater$Reader", "bodyOfWaits", "(ILLowWater$Row;)I"⟩ ∈ zT ∧ Cond.code ⟨"LowWater$Reader", "bodyOfWaits", "(ILLowWater$Row;)I"⟩ cX6_bodyOfWaits 3 (some .int) ∈ zT ∧ Cond.selects "LowWater$Waiting" ⟨"LowWater$Reader", "bodyOfWaits", "(ILLowWater$Row;)I"⟩ yX10_bodyOfWaits ∈ zT ∧ Cond.instanceMethod yX10_bodyOfWaits ∈ zT ∧ "LowWater$Reader" ≠ "java/lang/invoke/MethodHandle" ∧ "LowWater$Reader" ≠ "java/lang/invoke/VarHandle" ∧ (parseMethodDescriptor "(ILLowWater$Row;)I").map (fun d => d.parameters.length) = some 2 := ⟨zw_739, zw_742, zw_740, zw_759, zw_752, zw_753, by decide +kernel, by decide +kernel, by decide +kernel⟩
theorem zw_761 : Cond.methodLink "LowWater" 227 yX6_bodyOfTells ∈ zT := zT_t (i := 761) (by decide +kernel) (by decide +kernel)
theorem zw_765 : Cond.selects "LowWater$Blind" yX6_bodyOfTells yX6_bodyOfTells ∈ zT := zT_t (i := 765) (by decide +kernel) (by decide +kernel)
theorem ku_X11_227_X0 : Cond.methodLink "LowWater" 227 ⟨"LowWater$Reader", "bodyOfTells", "(ILLowWater$Row;)I"⟩ ∈ zT ∧ Cond.sameMethod "LowWater$Reader" "LowWater$Reader" "bodyOfTells" "(ILLowWater$Row;)I" ∈ zT ∧ Cond.instanceMethod ⟨"LowWater$Reader", "bodyOfTells", "(ILLowWater$Row;)I"⟩ ∈ zT ∧ Cond.code ⟨"LowWater$Reader", "bodyOfTells", "(ILLowWater$Row;)I"⟩ cX6_bodyOfTells 3 (some .int) ∈ zT ∧ Cond.selects "LowWater$Blind" ⟨"LowWater$Reader", "bodyOfTells", "(ILLowWater$Row;)I"⟩ yX6_bodyOfTells ∈ zT ∧ Cond.instanceMethod yX6_bodyOfTells ∈ zT ∧ "LowWater$Reader" ≠ "java/lang/invoke/MethodHandle" ∧ "LowWater$Reader" ≠ "java/lang/invoke/VarHandle" ∧ (parseMethodDescriptor "(ILLowWater$Row;)I").map (fun d => d.parameters.length) = some 2 := ⟨zw_761, zw_764, zw_762, zw_785, zw_765, zw_762, by decide +kernel, by decide +kernel, by decide +kernel⟩
theorem zw_766 : Cond.selects "LowWater$Diver" yX6_bodyOfTells yX6_bodyOfTells ∈ zT := zT_t (i := 766) (by decide +kernel) (by decide +kernel)
theorem ku_X11_227_X2 : Cond.methodLink "LowWater" 227 ⟨"LowWater$Reader", "bodyOfTells", "(ILLowWater$Row;)I"⟩ ∈ zT ∧ Cond.sameMethod "LowWater$Reader" "LowWater$Reader" "bodyOfTells" "(ILLowWater$Row;)I" ∈ zT ∧ Cond.instanceMethod ⟨"LowWater$Reader", "bodyOfTells", "(ILLowWater$Row;)I"⟩ ∈ zT ∧ Cond.code ⟨"LowWater$Reader", "bodyOfTells", "(ILLowWater$Row;)I"⟩ cX6_bodyOfTells 3 (some .int) ∈ zT ∧ Cond.selects "LowWater$Diver" ⟨"LowWater$Reader", "bodyOfTells", "(ILLowWater$Row;)I"⟩ yX6_bodyOfTells ∈ zT ∧ Cond.instanceMethod yX6_bodyOfTells ∈ zT ∧ "LowWater$Reader" ≠ "java/lang/invoke/MethodHandle" ∧ "LowWater$Reader" ≠ "java/lang/invoke/VarHandle" ∧ (parseMethodDescriptor "(ILLowWater$Row;)I").map (fun d => d.parameters.length) = some 2 := ⟨zw_761, zw_764, zw_762, zw_785, zw_766, zw_762, by decide +kernel, by decide +kernel, by decide +kernel⟩
theorem zw_767 : Cond.selects "LowWater$Fast" yX6_bodyOfTells yX6_bodyOfTells ∈ zT := zT_t (i := 767) (by decide +kernel) (by decide +kernel)
theorem ku_X11_227_X3 : Cond.methodLink "LowWater" 227 ⟨"LowWater$Reader", "bodyOfTells", "(ILLowWater$Row;)I"⟩ ∈ zT ∧ Cond.sameMethod "LowWater$Reader" "LowWater$Reader" "bodyOfTells" "(ILLowWater$Row;)I" ∈ zT ∧ Cond.instanceMethod ⟨"LowWater$Reader", "bodyOfTells", "(ILLowWater$Row;)I"⟩ ∈ zT ∧ Cond.code ⟨"LowWater$Reader", "bodyOfTells", "(ILLowWater$Row;)I"⟩ cX6_bodyOfTells 3 (some .int) ∈ zT ∧ Cond.selects "LowWater$Fast" ⟨"LowWater$Reader", "bodyOfTells", "(ILLowWater$Row;)I"⟩ yX6_bodyOfTells ∈ zT ∧ Cond.instanceMethod yX6_bodyOfTells ∈ zT ∧ "LowWater$Reader" ≠ "java/lang/invoke/MethodHandle" ∧ "LowWater$Reader" ≠ "java/lang/invoke/VarHandle" ∧ (parseMethodDescriptor "(ILLowWater$Row;)I").map (fun d => d.parameters.length) = some 2 := ⟨zw_761, zw_764, zw_762, zw_785, zw_767, zw_762, by decide +kernel, by decide +kernel, by decide +kernel⟩
theorem zw_770 : Cond.code yX5_bodyOfTells cX5_bodyOfTells 3 (some .int) ∈ zT := zT_t (i := 770) (by decide +kernel) (by decide +kernel)
theorem co_X5_bodyOfTells : zCo yX5_bodyOfTells cX5_bodyOfTells 3 (some .int) 2 := ⟨zw_770, zw_16, by decide +kernel, by decide +kernel, by decide +kernel⟩
theorem zw_768 : Cond.selects "LowWater$Quick" yX6_bodyOfTells yX5_bodyOfTells ∈ zT := zT_t (i := 768) (by decide +kernel) (by decide +kernel)
theorem zw_769 : Cond.instanceMethod yX5_bodyOfTells ∈ zT := zT_t (i := 769) (by decide +kernel) (by decide +kernel)
theorem ku_X11_227_X5 : Cond.methodLink "LowWater" 227 ⟨"LowWater$Reader", "bodyOfTells", "(ILLowWater$Row;)I"⟩ ∈ zT ∧ Cond.sameMethod "LowWater$Reader" "LowWater$Reader" "bodyOfTells" "(ILLowWater$Row;)I" ∈ zT ∧ Cond.instanceMethod ⟨"LowWater$Reader", "bodyOfTells", "(ILLowWater$Row;)I"⟩ ∈ zT ∧ Cond.code ⟨"LowWater$Reader", "bodyOfTells", "(ILLowWater$Row;)I"⟩ cX6_bodyOfTells 3 (some .int) ∈ zT ∧ Cond.selects "LowWater$Quick" ⟨"LowWater$Reader", "bodyOfTells", "(ILLowWater$Row;)I"⟩ yX5_bodyOfTells ∈ zT ∧ Cond.instanceMethod yX5_bodyOfTells ∈ zT ∧ "LowWater$Reader" ≠ "java/lang/invoke/MethodHandle" ∧ "LowWater$Reader" ≠ "java/lang/invoke/VarHandle" ∧ (parseMethodDescriptor "(ILLowWater$Row;)I").map (fun d => d.parameters.length) = some 2 := ⟨zw_761, zw_764, zw_762, zw_785, zw_768, zw_769, by decide +kernel, by decide +kernel, by decide +kernel⟩
theorem zw_763 : Cond.selects "LowWater$Reader" yX6_bodyOfTells yX6_bodyOfTells ∈ zT := zT_t (i := 763) (by decide +kernel) (by decide +kernel)
theorem k_X11_227_X6 : Cond.methodLink "LowWater" 227 yX6_bodyOfTells ∈ zT ∧ Cond.instanceMethod yX6_bodyOfTells ∈ zT ∧ Cond.selects yX6_bodyOfTells.cls yX6_bodyOfTells yX6_bodyOfTells ∈ zT := ⟨zw_761, zw_762, zw_763⟩
theorem ku_X11_227_X6 : Cond.methodLink "LowWater" 227 ⟨"LowWater$Reader", "bodyOfTells", "(ILLowWater$Row;)I"⟩ ∈ zT ∧ Cond.sameMethod "LowWater$Reader" "LowWater$Reader" "bodyOfTells" "(ILLowWater$Row;)I" ∈ zT ∧ Cond.instanceMethod ⟨"LowWater$Reader", "bodyOfTells", "(ILLowWater$Row;)I"⟩ ∈ zT ∧ Cond.code ⟨"LowWater$Reader", "bodyOfTells", "(ILLowWater$Row;)I"⟩ cX6_bodyOfTells 3 (some .int) ∈ zT ∧ Cond.selects "LowWater$Reader" ⟨"LowWater$Reader", "bodyOfTells", "(ILLowWater$Row;)I"⟩ yX6_bodyOfTells ∈ zT ∧ Cond.instanceMethod yX6_bodyOfTells ∈ zT ∧ "LowWater$Reader" ≠ "java/lang/invoke/MethodHandle" ∧ "LowWater$Reader" ≠ "java/lang/invoke/VarHandle" ∧ (parseMethodDescriptor "(ILLowWater$Row;)I").map (fun d => d.parameters.length) = some 2 := ⟨zw_761, zw_764, zw_762, zw_785, zw_763, zw_762, by decide +kernel, by decide +kernel, by decide +kernel⟩
theorem zw_781 : Cond.code yX8_bodyOfTells cX8_bodyOfTells 3 (some .int) ∈ zT := zT_t (i := 781) (by decide +kernel) (by decide +kernel)
theorem co_X8_bodyOfTells : zCo yX8_bodyOfTells cX8_bodyOfTells 3 (some .int) 2 := ⟨zw_781, zw_15, by decide +kernel, by decide +kernel, by decide +kernel⟩
theorem zw_779 : Cond.selects "LowWater$Rowed" yX6_bodyOfTells yX8_bodyOfTells ∈ zT := zT_t (i := 779) (by decide +kernel) (by decide +kernel)
theorem zw_780 : Cond.instanceMethod yX8_bodyOfTells ∈ zT := zT_t (i := 780) (by decide +kernel) (by decide +kernel)
theorem ku_X11_227_X8 : Cond.methodLink "LowWater" 227 ⟨"LowWater$Reader", "bodyOfTells", "(ILLowWater$Row;)I"⟩ ∈ zT ∧ Cond.sameMethod "LowWater$Reader" "LowWater$Reader" "bodyOfTells" "(ILLowWater$Row;)I" ∈ zT ∧ Cond.instanceMethod ⟨"LowWater$Reader", "bodyOfTells", "(ILLowWater$Row;)I"⟩ ∈ zT ∧ Cond.code ⟨"LowWater$Reader", "bodyOfTells", "(ILLowWater$Row;)I"⟩ cX6_bodyOfTells 3 (some .int) ∈ zT ∧ Cond.selects "LowWater$Rowed" ⟨"LowWater$Reader", "bodyOfTells", "(ILLowWater$Row;)I"⟩ yX8_bodyOfTells ∈ zT ∧ Cond.instanceMethod yX8_bodyOfTells ∈ zT ∧ "LowWater$Reader" ≠ "java/lang/invoke/MethodHandle" ∧ "LowWater$Reader" ≠ "java/lang/invoke/VarHandle" ∧ (parseMethodDescriptor "(ILLowWater$Row;)I").map (fun d => d.parameters.length) = some 2 := ⟨zw_761, zw_764, zw_762, zw_785, zw_779, zw_780, by decide +kernel, by decide +kernel, by decide +kernel⟩
theorem zw_784 : Cond.selects "LowWater$Waiting" yX6_bodyOfTells yX8_bodyOfTells ∈ zT := zT_t (i := 784) (by decide +kernel) (by decide +kernel)
theorem ku_X11_227_X10 : Cond.methodLink "LowWater" 227 ⟨"LowWater$Reader", "bodyOfTells", "(ILLowWater$Row;)I"⟩ ∈ zT ∧ Cond.sameMethod "LowWater$Reader" "LowWater$Reader" "bodyOfTells" "(ILLowWater$Row;)I" ∈ zT ∧ Cond.instanceMethod ⟨"LowWater$Reader", "bodyOfTells", "(ILLowWater$Row;)I"⟩ ∈ zT ∧ Cond.code ⟨"LowWater$Reader", "bodyOfTells", "(ILLowWater$Row;)I"⟩ cX6_bodyOfTells 3 (some .int) ∈ zT ∧ Cond.selects "LowWater$Waiting" ⟨"LowWater$Reader", "bodyOfTells", "(ILLowWater$Row;)I"⟩ yX8_bodyOfTells ∈ zT ∧ Cond.instanceMethod yX8_bodyOfTells ∈ zT ∧ "LowWater$Reader" ≠ "java/lang/invoke/MethodHandle" ∧ "LowWater$Reader" ≠ "java/lang/invoke/VarHandle" ∧ (parseMethodDescriptor "(ILLowWater$Row;)I").map (fun d => d.parameters.length) = some 2 := ⟨zw_761, zw_764, zw_762, zw_785, zw_784, zw_780, by decide +kernel, by decide +kernel, by decide +kernel⟩
theorem zw_801 : Cond.code yX0_isA cX0_isA 2 (some .boolean) ∈ zT := zT_t (i := 801) (by decide +kernel) (by decide +kernel)
theorem co_X0_isA : zCo yX0_isA cX0_isA 2 (some .boolean) 1 := ⟨zw_801, zw_17, by decide +kernel, by decide +kernel, by decide +kernel⟩
theorem zw_795 : Cond.methodLink "LowWater" 230 yX6_isA ∈ zT := zT_t (i := 795) (by decide +kernel) (by decide +kernel)
theorem zw_799 : Cond.selects "LowWater$Blind" yX6_isA yX0_isA ∈ zT := zT_t (i := 799) (by decide +kernel) (by decide +kernel)
theorem zw_800 : Cond.instanceMethod yX0_isA ∈ zT := zT_t (i := 800) (by decide +kernel) (by decide +kernel)
theorem ku_X11_230_X0 : Cond.methodLink "LowWater" 230 ⟨"LowWater$Reader", "isA", "(I)Z"⟩ ∈ zT ∧ Cond.sameMethod "LowWater$Reader" "LowWater$Reader" "isA" "(I)Z" ∈ zT ∧ Cond.instanceMethod ⟨"LowWater$Reader", "isA", "(I)Z"⟩ ∈ zT ∧ Cond.code ⟨"LowWater$Reader", "isA", "(I)Z"⟩ cX6_isA 2 (some .boolean) ∈ zT ∧ Cond.selects "LowWater$Blind" ⟨"LowWater$Reader", "isA", "(I)Z"⟩ yX0_isA ∈ zT ∧ Cond.instanceMethod yX0_isA ∈ zT ∧ "LowWater$Reader" ≠ "java/lang/invoke/MethodHandle" ∧ "LowWater$Reader" ≠ "java/lang/invoke/VarHandle" ∧ (parseMethodDescriptor "(I)Z").map (fun d => d.parameters.length) = some 1 := ⟨zw_795, zw_798, zw_796, zw_823, zw_799, zw_800, by decide +kernel, by decide +kernel, by decide +kernel⟩
theorem zw_806 : Cond.selects "LowWater$Diver" yX6_isA yX2_isA ∈ zT := zT_t (i := 806) (by decide +kernel) (by decide +kernel)
theorem ku_X11_230_X2 : Cond.methodLink "LowWater" 230 ⟨"LowWater$Reader", "isA", "(I)Z"⟩ ∈ zT ∧ Cond.sameMethod "LowWater$Reader" "LowWater$Reader" "isA" "(I)Z" ∈ zT ∧ Cond.instanceMethod ⟨"LowWater$Reader", "isA", "(I)Z"⟩ ∈ zT ∧ Cond.code ⟨"LowWater$Reader", "isA", "(I)Z"⟩ cX6_isA 2 (some .boolean) ∈ zT ∧ Cond.selects "LowWater$Diver" ⟨"LowWater$Reader", "isA", "(I)Z"⟩ yX2_isA ∈ zT ∧ Cond.instanceMethod yX2_isA ∈ zT ∧ "LowWater$Reader" ≠ "java/lang/invoke/MethodHandle" ∧ "LowWater$Reader" ≠ "java/lang/invoke/VarHandle" ∧ (parseMethodDescriptor "(I)Z").map (fun d => d.parameters.length) = some 1 := ⟨zw_795, zw_798, zw_796, zw_823, zw_806, zw_803, by decide +kernel, by decide +kernel, by decide +kernel⟩
theorem zw_807 : Cond.selects "LowWater$Fast" yX6_isA yX3_isA ∈ zT := zT_t (i := 807) (by decide +kernel) (by decide +kernel)
theorem ku_X11_230_X3 : Cond.methodLink "LowWater" 230 ⟨"LowWater$Reader", "isA", "(I)Z"⟩ ∈ zT ∧ Cond.sameMethod "LowWater$Reader" "LowWater$Reader" "isA" "(I)Z" ∈ zT ∧ Cond.instanceMethod ⟨"LowWater$Reader", "isA", "(I)Z"⟩ ∈ zT ∧ Cond.code ⟨"LowWater$Reader", "isA", "(I)Z"⟩ cX6_isA 2 (some .boolean) ∈ zT ∧ Cond.selects "LowWater$Fast" ⟨"LowWater$Reader", "isA", "(I)Z"⟩ yX3_isA ∈ zT ∧ Cond.instanceMethod yX3_isA ∈ zT ∧ "LowWater$Reader" ≠ "java/lang/invoke/MethodHandle" ∧ "LowWater$Reader" ≠ "java/lang/invoke/VarHandle" ∧ (parseMethodDescriptor "(I)Z").map (fun d => d.parameters.length) = some 1 := ⟨zw_795, zw_798, zw_796, zw_823, zw_807, zw_808, by decide +kernel, by decide +kernel, by decide +kernel⟩
theorem zw_813 : Cond.code yX5_isA cX5_isA 2 (some .boolean) ∈ zT := zT_t (i := 813) (by decide +kernel) (by decide +kernel)
theorem co_X5_isA : zCo yX5_isA cX5_isA 2 (some .boolean) 1 := ⟨zw_813, zw_16, by decide +kernel, by decide +kernel, by decide +kernel⟩
theorem zw_811 : Cond.selects "LowWater$Quick" yX6_isA yX5_isA ∈ zT := zT_t (i := 811) (by decide +kernel) (by decide +kernel)
theorem zw_812 : Cond.instanceMethod yX5_isA ∈ zT := zT_t (i := 812) (by decide +kernel) (by decide +kernel)
theorem ku_X11_230_X5 : Cond.methodLink "LowWater" 230 ⟨"LowWater$Reader", "isA", "(I)Z"⟩ ∈ zT ∧ Cond.sameMethod "LowWater$Reader" "LowWater$Reader" "isA" "(I)Z" ∈ zT ∧ Cond.instanceMethod ⟨"LowWater$Reader", "isA", "(I)Z"⟩ ∈ zT ∧ Cond.code ⟨"LowWater$Reader", "isA", "(I)Z"⟩ cX6_isA 2 (some .boolean) ∈ zT ∧ Cond.selects "LowWater$Quick" ⟨"LowWater$Reader", "isA", "(I)Z"⟩ yX5_isA ∈ zT ∧ Cond.instanceMethod yX5_isA ∈ zT ∧ "LowWater$Reader" ≠ "java/lang/invoke/MethodHandle" ∧ "LowWater$Reader" ≠ "java/lang/invoke/VarHandle" ∧ (parseMethodDescriptor "(I)Z").map (fun d => d.parameters.length) = some 1 := ⟨zw_795, zw_798, zw_796, zw_823, zw_811, zw_812, by decide +kernel, by decide +kernel, by decide +kernel⟩
theorem zw_797 : Cond.selects "LowWater$Reader" yX6_isA yX6_isA ∈ zT := zT_t (i := 797) (by decide +kernel) (by decide +kernel)
theorem k_X11_230_X6 : Cond.methodLink "LowWater" 230 yX6_isA ∈ zT ∧ Cond.instanceMethod yX6_isA ∈ zT ∧ Cond.selects yX6_isA.cls yX6_isA yX6_isA ∈ zT := ⟨zw_795, zw_796, zw_797⟩
theorem ku_X11_230_X6 : Cond.methodLink "LowWater" 230 ⟨"LowWater$Reader", "isA", "(I)Z"⟩ ∈ zT ∧ Cond.sameMethod "LowWater$Reader" "LowWater$Reader" "isA" "(I)Z" ∈ zT ∧ Cond.instanceMethod ⟨"LowWater$Reader", "isA", "(I)Z"⟩ ∈ zT ∧ Cond.code ⟨"LowWater$Reader", "isA", "(I)Z"⟩ cX6_isA 2 (some .boolean) ∈ zT ∧ Cond.selects "LowWater$Reader" ⟨"LowWater$Reader", "isA", "(I)Z"⟩ yX6_isA ∈ zT ∧ Cond.instanceMethod yX6_isA ∈ zT ∧ "LowWater$Reader" ≠ "java/lang/invoke/MethodHandle" ∧ "LowWater$Reader" ≠ "java/lang/invoke/VarHandle" ∧ (parseMethodDescriptor "(I)Z").map (fun d => d.parameters.length) = some 1 := ⟨zw_795, zw_798, zw_796, zw_823, zw_797, zw_796, by decide +kernel, by decide +kernel, by decide +kernel⟩
theorem zw_815 : Cond.selects "LowWater$Rowed" yX6_isA yX8_isA ∈ zT := zT_t (i := 815) (by decide +kernel) (by decide +kernel)
theorem ku_X11_230_X8 : Cond.methodLink "LowWater" 230 ⟨"LowWater$Reader", "isA", "(I)Z"⟩ ∈ zT ∧ Cond.sameMethod "LowWater$Reader" "LowWater$Reader" "isA" "(I)Z" ∈ zT ∧ Cond.instanceMethod ⟨"LowWater$Reader", "isA", "(I)Z"⟩ ∈ zT ∧ Cond.code ⟨"LowWater$Reader", "isA", "(I)Z"⟩ cX6_isA 2 (some .boolean) ∈ zT ∧ Cond.selects "LowWater$Rowed" ⟨"LowWater$Reader", "isA", "(I)Z"⟩ yX8_isA ∈ zT ∧ Cond.instanceMethod yX8_isA ∈ zT ∧ "LowWater$Reader" ≠ "java/lang/invoke/MethodHandle" ∧ "LowWater$Reader" ≠ "java/lang/invoke/VarHandle" ∧ (parseMethodDescriptor "(I)Z").map (fun d => d.parameters.length) = some 1 := ⟨zw_795, zw_798, zw_796, zw_823, zw_815, zw_816, by decide +kernel, by decide +kernel, by decide +kernel⟩
theorem zw_821 : Cond.code yX10_isA cX10_isA 2 (some .boolean) ∈ zT := zT_t (i := 821) (by decide +kernel) (by decide +kernel)
theorem co_X10_isA : zCo yX10_isA cX10_isA 2 (some .boolean) 1 := ⟨zw_821, zw_18, by decide +kernel, by decide +kernel, by decide +kernel⟩
theorem zw_819 : Cond.selects "LowWater$Waiting" yX6_isA yX10_isA ∈ zT := zT_t (i := 819) (by decide +kernel) (by decide +kernel)
theorem zw_820 : Cond.instanceMethod yX10_isA ∈ zT := zT_t (i := 820) (by decide +kernel) (by decide +kernel)
theorem ku_X11_230_X10 : Cond.methodLink "LowWater" 230 ⟨"LowWater$Reader", "isA", "(I)Z"⟩ ∈ zT ∧ Cond.sameMethod "LowWater$Reader" "LowWater$Reader" "isA" "(I)Z" ∈ zT ∧ Cond.instanceMethod ⟨"LowWater$Reader", "isA", "(I)Z"⟩ ∈ zT ∧ Cond.code ⟨"LowWater$Reader", "isA", "(I)Z"⟩ cX6_isA 2 (some .boolean) ∈ zT ∧ Cond.selects "LowWater$Waiting" ⟨"LowWater$Reader", "isA", "(I)Z"⟩ yX10_isA ∈ zT ∧ Cond.instanceMethod yX10_isA ∈ zT ∧ "LowWater$Reader" ≠ "java/lang/invoke/MethodHandle" ∧ "LowWater$Reader" ≠ "java/lang/invoke/VarHandle" ∧ (parseMethodDescriptor "(I)Z").map (fun d => d.parameters.length) = some 1 := ⟨zw_795, zw_798, zw_796, zw_823, zw_819, zw_820, by decide +kernel, by decide +kernel, by decide +kernel⟩
theorem zw_831 : Cond.code yX9_takeFrom cX9_takeFrom 3 none ∈ zT := zT_t (i := 831) (by decide +kernel) (by decide +kernel)
theorem co_X9_takeFrom : zCo yX9_takeFrom cX9_takeFrom 3 none 1 := ⟨zw_831, zw_2, by decide +kernel, by decide +kernel, by decide +kernel⟩
theorem zw_828 : Cond.methodLink "LowWater" 233 yX9_takeFrom ∈ zT := zT_t (i := 828) (by decide +kernel) (by decide +kernel)
theorem zw_829 : Cond.instanceMethod yX9_takeFrom ∈ zT := zT_t (i := 829) (by decide +kernel) (by decide +kernel)
theorem zw_830 : Cond.selects "LowWater$State" yX9_takeFrom yX9_takeFrom ∈ zT := zT_t (i := 830) (by decide +kernel) (by decide +kernel)
theorem k_X11_233 : Cond.methodLink "LowWater" 233 yX9_takeFrom ∈ zT ∧ Cond.instanceMethod yX9_takeFrom ∈ zT ∧ Cond.selects yX9_takeFrom.cls yX9_takeFrom yX9_takeFrom ∈ zT := ⟨zw_828, zw_829, zw_830⟩
theorem zw_490 : Cond.methodLink "LowWater" 237 yX1_levelAt ∈ zT := zT_t (i := 490) (by decide +kernel) (by decide +kernel)
theorem k_X11_237 : Cond.methodLink "LowWater" 237 yX1_levelAt ∈ zT ∧ Cond.instanceMethod yX1_levelAt ∈ zT ∧ Cond.selects yX1_levelAt.cls yX1_levelAt yX1_levelAt ∈ zT := ⟨zw_490, zw_491, zw_492⟩
theorem zw_341 : Cond.classLink "LowWater" 240 "LowWater$Fast" ∈ zT := zT_t (i := 341) (by decide +kernel) (by decide +kernel)
theorem zw_342 : Cond.instantiable "LowWater$Fast" 2 ∈ zT := zT_t (i := 342) (by decide +kernel) (by decide +kernel)
theorem nw_X11_240 : zNW "LowWater" 240 3 2 [.int 0, .int 0] := ⟨RX3, TX3, tyX3, rfl, in_X3, tyX3_ok, zw_341, zw_342, zw_13, by decide +kernel⟩
theorem zw_343 : Cond.methodLink "LowWater" 242 yX3_init ∈ zT := zT_t (i := 343) (by decide +kernel) (by decide +kernel)
theorem k_X11_242 : Cond.methodLink "LowWater" 242 yX3_init ∈ zT ∧ Cond.instanceMethod yX3_init ∈ zT := ⟨zw_343, zw_344⟩
theorem zw_368 : Cond.classLink "LowWater" 244 "LowWater$Diver" ∈ zT := zT_t (i := 368) (by decide +kernel) (by decide +kernel)
theorem zw_369 : Cond.instantiable "LowWater$Diver" 2 ∈ zT := zT_t (i := 369) (by decide +kernel) (by decide +kernel)
theorem nw_X11_244 : zNW "LowWater" 244 2 2 [.int 0, .int 0] := ⟨RX2, TX2, tyX2, rfl, in_X2, tyX2_ok, zw_368, zw_369, zw_14, by decide +kernel⟩
theorem zw_370 : Cond.methodLink "LowWater" 246 yX2_init ∈ zT := zT_t (i := 370) (by decide +kernel) (by decide +kernel)
theorem k_X11_246 : Cond.methodLink "LowWater" 246 yX2_init ∈ zT ∧ Cond.instanceMethod yX2_init ∈ zT := ⟨zw_370, zw_371⟩
theorem zw_377 : Cond.classLink "LowWater" 247 "LowWater$Rowed" ∈ zT := zT_t (i := 377) (by decide +kernel) (by decide +kernel)
theorem zw_378 : Cond.instantiable "LowWater$Rowed" 2 ∈ zT := zT_t (i := 378) (by decide +kernel) (by decide +kernel)
theorem nw_X11_247 : zNW "LowWater" 247 8 2 [.int 0, .int 0] := ⟨RX8, TX8, tyX8, rfl, in_X8, tyX8_ok, zw_377, zw_378, zw_15, by decide +kernel⟩
theorem zw_379 : Cond.methodLink "LowWater" 249 yX8_init ∈ zT := zT_t (i := 379) (by decide +kernel) (by decide +kernel)
theorem k_X11_249 : Cond.methodLink "LowWater" 249 yX8_init ∈ zT ∧ Cond.instanceMethod yX8_init ∈ zT := ⟨zw_379, zw_380⟩
theorem zw_386 : Cond.classLink "LowWater" 250 "LowWater$Quick" ∈ zT := zT_t (i := 386) (by decide +kernel) (by decide +kernel)
theorem zw_387 : Cond.instantiable "LowWater$Quick" 2 ∈ zT := zT_t (i := 387) (by decide +kernel) (by decide +kernel)
theorem nw_X11_250 : zNW "LowWater" 250 5 2 [.int 0, .int 0] := ⟨RX5, TX5, tyX5, rfl, in_X5, tyX5_ok, zw_386, zw_387, zw_16, by decide +kernel⟩
theorem zw_390 : Cond.code yX5_init cX5_init 3 none ∈ zT := zT_t (i := 390) (by decide +kernel) (by decide +kernel)
theorem co_X5_init : zCo yX5_init cX5_init 3 none 2 := ⟨zw_390, zw_16, by decide +kernel, by decide +kernel, by decide +kernel⟩
theorem zw_388 : Cond.methodLink "LowWater" 252 yX5_init ∈ zT := zT_t (i := 388) (by decide +kernel) (by decide +kernel)
theorem zw_389 : Cond.instanceMethod yX5_init ∈ zT := zT_t (i := 389) (by decide +kernel) (by decide +kernel)
theorem k_X11_252 : Cond.methodLink "LowWater" 252 yX5_init ∈ zT ∧ Cond.instanceMethod yX5_init ∈ zT := ⟨zw_388, zw_389⟩
theorem zw_395 : Cond.classLink "LowWater" 253 "LowWater$Blind" ∈ zT := zT_t (i := 395) (by decide +kernel) (by decide +kernel)
theorem zw_396 : Cond.instantiable "LowWater$Blind" 2 ∈ zT := zT_t (i := 396) (by decide +kernel) (by decide +kernel)
theorem nw_X11_253 : zNW "LowWater" 253 0 2 [.int 0, .int 0] := ⟨RX0, TX0, tyX0, rfl, in_X0, tyX0_ok, zw_395, zw_396, zw_17, by decide +kernel⟩
theorem zw_399 : Cond.code yX0_init cX0_init 3 none ∈ zT := zT_t (i := 399) (by decide +kernel) (by decide +kernel)
theorem co_X0_init : zCo yX0_init cX0_init 3 none 2 := ⟨zw_399, zw_17, by decide +kernel, by decide +kernel, by decide +kernel⟩
theorem zw_397 : Cond.methodLink "LowWater" 255 yX0_init ∈ zT := zT_t (i := 397) (by decide +kernel) (by decide +kernel)
theorem zw_398 : Cond.instanceMethod yX0_init ∈ zT := zT_t (i := 398) (by decide +kernel) (by decide +kernel)
theorem k_X11_255 : Cond.methodLink "LowWater" 255 yX0_init ∈ zT ∧ Cond.instanceMethod yX0_init ∈ zT := ⟨zw_397, zw_398⟩
theorem zw_404 : Cond.classLink "LowWater" 256 "LowWater$Waiting" ∈ zT := zT_t (i := 404) (by decide +kernel) (by decide +kernel)
theorem zw_405 : Cond.instantiable "LowWater$Waiting" 2 ∈ zT := zT_t (i := 405) (by decide +kernel) (by decide +kernel)
theorem nw_X11_256 : zNW "LowWater" 256 10 2 [.int 0, .int 0] := ⟨RX10, TX10, tyX10, rfl, in_X10, tyX10_ok, zw_404, zw_405, zw_18, by decide +kernel⟩
theorem zw_408 : Cond.code yX10_init cX10_init 3 none ∈ zT := zT_t (i := 408) (by decide +kernel) (by decide +kernel)
theorem co_X10_init : zCo yX10_init cX10_init 3 none 2 := ⟨zw_408, zw_18, by decide +kernel, by decide +kernel, by decide +kernel⟩
theorem zw_406 : Cond.methodLink "LowWater" 258 yX10_init ∈ zT := zT_t (i := 406) (by decide +kernel) (by decide +kernel)
theorem zw_407 : Cond.instanceMethod yX10_init ∈ zT := zT_t (i := 407) (by decide +kernel) (by decide +kernel)
theorem k_X11_258 : Cond.methodLink "LowWater" 258 yX10_init ∈ zT ∧ Cond.instanceMethod yX10_init ∈ zT := ⟨zw_406, zw_407⟩
theorem zw_413 : Cond.classLink "LowWater" 123 "LowWater$Reader" ∈ zT := zT_t (i := 413) (by decide +kernel) (by decide +kernel)
theorem zw_414 : Cond.instantiable "LowWater$Reader" 2 ∈ zT := zT_t (i := 414) (by decide +kernel) (by decide +kernel)
theorem nw_X11_123 : zNW "LowWater" 123 6 2 [.int 0, .int 0] := ⟨RX6, TX6, tyX6, rfl, in_X6, tyX6_ok, zw_413, zw_414, zw_12, by decide +kernel⟩
theorem zw_415 : Cond.methodLink "LowWater" 259 yX6_init ∈ zT := zT_t (i := 415) (by decide +kernel) (by decide +kernel)
theorem k_X11_259 : Cond.methodLink "LowWater" 259 yX6_init ∈ zT ∧ Cond.instanceMethod yX6_init ∈ zT := ⟨zw_415, zw_347⟩
theorem zw_641 : Cond.code yX11_waitOn cX11_waitOn 6 (some .int) ∈ zT := zT_t (i := 641) (by decide +kernel) (by decide +kernel)
theorem co_X11_waitOn : zCo yX11_waitOn cX11_waitOn 6 (some .int) 2 := ⟨zw_641, zw_1, by decide +kernel, by decide +kernel, by decide +kernel⟩
theorem zw_638 : Cond.methodLink "LowWater" 260 yX11_waitOn ∈ zT := zT_t (i := 638) (by decide +kernel) (by decide +kernel)
theorem zw_640 : Cond.instanceMethod yX11_waitOn ∈ zT := zT_t (i := 640) (by decide +kernel) (by decide +kernel)
theorem zw_s18 : Cond.selects "LowWater" yX11_waitOn yX11_waitOn ∈ zT := zT_s (i := 18) (by decide +kernel) (by decide +kernel)
theorem k_X11_260 : Cond.methodLink "LowWater" 260 yX11_waitOn ∈ zT ∧ Cond.instanceMethod yX11_waitOn ∈ zT ∧ Cond.selects yX11_waitOn.cls yX11_waitOn yX11_waitOn ∈ zT := ⟨zw_638, zw_640, zw_s18⟩
theorem zw_854 : Cond.methodLink "LowWaterModel" 3 objectInit ∈ zT := zT_t (i := 854) (by decide +kernel) (by decide +kernel)
theorem k_X12_3 : Cond.methodLink "LowWaterModel" 3 objectInit ∈ zT ∧ Cond.instanceMethod objectInit ∈ zT ∧ Cond.code objectInit ⟨#[0xb1]⟩ 1 none ∈ zT := ⟨zw_854, zw_28, zw_29⟩
theorem zw_855 : Cond.fieldLink "LowWaterModel" 9 "LowWaterModel" "s" "[I" ∈ zT := zT_t (i := 855) (by decide +kernel) (by decide +kernel)
theorem f_X12_9 : zFL "LowWaterModel" 9 12 1 true true (.array .int) := ⟨RX12, "LowWaterModel", TX12, 24, tyX12, rfl, by decide, in_X12, tyX12_ok, nmX12, rfl, rfl, (fun _ => rfl), Or.inl zw_855, Or.inl rfl⟩
theorem zw_856 : Cond.fieldLink "LowWaterModel" 15 "LowWaterModel" "image" "[I" ∈ zT := zT_t (i := 856) (by decide +kernel) (by decide +kernel)
theorem f_X12_15 : zFL "LowWaterModel" 15 12 2 true true (.array .int) := ⟨RX12, "LowWaterModel", TX12, 24, tyX12, rfl, by decide, in_X12, tyX12_ok, nmX12, rfl, rfl, (fun _ => rfl), Or.inl zw_856, Or.inl rfl⟩
theorem zw_863 : Cond.fieldLink "LowWaterModel" 18 "LowWaterModel" "by" "[I" ∈ zT := zT_t (i := 863) (by decide +kernel) (by decide +kernel)
theorem f_X12_18 : zFL "LowWaterModel" 18 12 9 true true (.array .int) := ⟨RX12, "LowWaterModel", TX12, 24, tyX12, rfl, by decide, in_X12, tyX12_ok, nmX12, rfl, rfl, (fun _ => rfl), Or.inl zw_863, Or.inl rfl⟩
theorem zw_864 : Cond.fieldLink "LowWaterModel" 21 "LowWaterModel" "truths" "[Z" ∈ zT := zT_t (i := 864) (by decide +kernel) (by decide +kernel)
theorem f_X12_21 : zFL "LowWaterModel" 21 12 10 true true (.array .boolean) := ⟨RX12, "LowWaterModel", TX12, 24, tyX12, rfl, by decide, in_X12, tyX12_ok, nmX12, rfl, rfl, (fun _ => rfl), Or.inl zw_864, Or.inl rfl⟩
theorem zw_867 : Cond.fieldLink "LowWaterModel" 25 "LowWaterModel" "levels" "[I" ∈ zT := zT_t (i := 867) (by decide +kernel) (by decide +kernel)
theorem f_X12_25 : zFL "LowWaterModel" 25 12 13 true true (.array .int) := ⟨RX12, "LowWaterModel", TX12, 24, tyX12, rfl, by decide, in_X12, tyX12_ok, nmX12, rfl, rfl, (fun _ => rfl), Or.inl zw_867, Or.inl rfl⟩
theorem zw_869 : Cond.fieldLink "LowWaterModel" 28 "LowWaterModel" "soons" "[I" ∈ zT := zT_t (i := 869) (by decide +kernel) (by decide +kernel)
theorem f_X12_28 : zFL "LowWaterModel" 28 12 15 true true (.array .int) := ⟨RX12, "LowWaterModel", TX12, 24, tyX12, rfl, by decide, in_X12, tyX12_ok, nmX12, rfl, rfl, (fun _ => rfl), Or.inl zw_869, Or.inl rfl⟩
theorem zw_870 : Cond.fieldLink "LowWaterModel" 31 "LowWaterModel" "row" "[I" ∈ zT := zT_t (i := 870) (by decide +kernel) (by decide +kernel)
theorem f_X12_31 : zFL "LowWaterModel" 31 12 16 true true (.array .int) := ⟨RX12, "LowWaterModel", TX12, 24, tyX12, rfl, by decide, in_X12, tyX12_ok, nmX12, rfl, rfl, (fun _ => rfl), Or.inl zw_870, Or.inl rfl⟩
theorem zw_871 : Cond.fieldLink "LowWaterModel" 34 "LowWaterModel" "bestRow" "[I" ∈ zT := zT_t (i := 871) (by decide +kernel) (by decide +kernel)
theorem f_X12_34 : zFL "LowWaterModel" 34 12 17 true true (.array .int) := ⟨RX12, "LowWaterModel", TX12, 24, tyX12, rfl, by decide, in_X12, tyX12_ok, nmX12, rfl, rfl, (fun _ => rfl), Or.inl zw_871, Or.inl rfl⟩
theorem zw_873 : Cond.fieldLink "LowWaterModel" 37 "LowWaterModel" "bodies" "[I" ∈ zT := zT_t (i := 873) (by decide +kernel) (by decide +kernel)
theorem f_X12_37 : zFL "LowWaterModel" 37 12 19 true true (.array .int) := ⟨RX12, "LowWaterModel", TX12, 24, tyX12, rfl, by decide, in_X12, tyX12_ok, nmX12, rfl, rfl, (fun _ => rfl), Or.inl zw_873, Or.inl rfl⟩
theorem zw_934 : Cond.code yX12_in cX12_in 3 (some .boolean) ∈ zT := zT_t (i := 934) (by decide +kernel) (by decide +kernel)
theorem zw_6 : Cond.initialized "LowWaterModel" ∈ zT := zT_t (i := 6) (by decide +kernel) (by decide +kernel)
theorem co_X12_in : zCo yX12_in cX12_in 3 (some .boolean) 3 := ⟨zw_934, zw_6, by decide +kernel, by decide +kernel, by decide +kernel⟩
theorem zw_932 : Cond.methodLink "LowWaterModel" 44 yX12_in ∈ zT := zT_t (i := 932) (by decide +kernel) (by decide +kernel)
theorem zw_933 : Cond.static yX12_in ∈ zT := zT_t (i := 933) (by decide +kernel) (by decide +kernel)
theorem k_X12_44 : Cond.methodLink "LowWaterModel" 44 yX12_in ∈ zT ∧ Cond.static yX12_in ∈ zT := ⟨zw_932, zw_933⟩
theorem zw_859 : Cond.fieldLink "LowWaterModel" 48 "LowWaterModel" "spot" "I" ∈ zT := zT_t (i := 859) (by decide +kernel) (by decide +kernel)
theorem f_X12_48 : zFL "LowWaterModel" 48 12 5 false true .int := ⟨RX12, "LowWaterModel", TX12, 24, tyX12, rfl, by decide, in_X12, tyX12_ok, nmX12, rfl, rfl, (fun _ => rfl), Or.inl zw_859, Or.inl rfl⟩
theorem zw_860 : Cond.fieldLink "LowWaterModel" 51 "LowWaterModel" "end" "I" ∈ zT := zT_t (i := 860) (by decide +kernel) (by decide +kernel)
theorem f_X12_51 : zFL "LowWaterModel" 51 12 6 false true .int := ⟨RX12, "LowWaterModel", TX12, 24, tyX12, rfl, by decide, in_X12, tyX12_ok, nmX12, rfl, rfl, (fun _ => rfl), Or.inl zw_860, Or.inl rfl⟩
theorem zw_861 : Cond.fieldLink "LowWaterModel" 54 "LowWaterModel" "isWrong" "Z" ∈ zT := zT_t (i := 861) (by decide +kernel) (by decide +kernel)
theorem f_X12_54 : zFL "LowWaterModel" 54 12 7 false true .boolean := ⟨RX12, "LowWaterModel", TX12, 24, tyX12, rfl, by decide, in_X12, tyX12_ok, nmX12, rfl, rfl, (fun _ => rfl), Or.inl zw_861, Or.inl rfl⟩
theorem zw_946 : Cond.code yX12_here cX12_here 1 (some .int) ∈ zT := zT_t (i := 946) (by decide +kernel) (by decide +kernel)
theorem co_X12_here : zCo yX12_here cX12_here 1 (some .int) 0 := ⟨zw_946, zw_6, by decide +kernel, by decide +kernel, by decide +kernel⟩
theorem zw_943 : Cond.methodLink "LowWaterModel" 58 yX12_here ∈ zT := zT_t (i := 943) (by decide +kernel) (by decide +kernel)
theorem zw_945 : Cond.instanceMethod yX12_here ∈ zT := zT_t (i := 945) (by decide +kernel) (by decide +kernel)
theorem zw_s21 : Cond.selects "LowWaterModel" yX12_here yX12_here ∈ zT := zT_s (i := 21) (by decide +kernel) (by decide +kernel)
theorem k_X12_58 : Cond.methodLink "LowWaterModel" 58 yX12_here ∈ zT ∧ Cond.instanceMethod yX12_here ∈ zT ∧ Cond.selects yX12_here.cls yX12_here yX12_here ∈ zT := ⟨zw_943, zw_945, zw_s21⟩
theorem zw_956 : Cond.methodLink "LowWaterModel" 62 yJ0_length_8abf5 ∈ zT := zT_t (i := 956) (by decide +kernel) (by decide +kernel)
theorem k_X12_62 : Cond.methodLink "LowWaterModel" 62 yJ0_length_8abf5 ∈ zT ∧ Cond.instanceMethod yJ0_length_8abf5 ∈ zT ∧ Cond.selects yJ0_length_8abf5.cls yJ0_length_8abf5 yJ0_length_8abf5 ∈ zT := ⟨zw_956, zw_224, zw_225⟩
theorem zw_957 : Cond.methodLink "LowWaterModel" 67 yJ0_charAt_5068e ∈ zT := zT_t (i := 957) (by decide +kernel) (by decide +kernel)
theorem k_X12_67 : Cond.methodLink "LowWaterModel" 67 yJ0_charAt_5068e ∈ zT ∧ Cond.instanceMethod yJ0_charAt_5068e ∈ zT ∧ Cond.selects yJ0_charAt_5068e.cls yJ0_charAt_5068e yJ0_charAt_5068e ∈ zT := ⟨zw_957, zw_234, zw_235⟩
theorem zw_961 : Cond.code yX12_must cX12_must 2 none ∈ zT := zT_t (i := 961) (by decide +kernel) (by decide +kernel)
theorem co_X12_must : zCo yX12_must cX12_must 2 none 1 := ⟨zw_961, zw_6, by decide +kernel, by decide +kernel, by decide +kernel⟩
theorem zw_958 : Cond.methodLink "LowWaterModel" 71 yX12_must ∈ zT := zT_t (i := 958) (by decide +kernel) (by decide +kernel)
theorem zw_960 : Cond.instanceMethod yX12_must ∈ zT := zT_t (i := 960) (by decide +kernel) (by decide +kernel)
theorem zw_s24 : Cond.selects "LowWaterModel" yX12_must yX12_must ∈ zT := zT_s (i := 24) (by decide +kernel) (by decide +kernel)
theorem k_X12_71 : Cond.methodLink "LowWaterModel" 71 yX12_must ∈ zT ∧ Cond.instanceMethod yX12_must ∈ zT ∧ Cond.selects yX12_must.cls yX12_must yX12_must ∈ zT := ⟨zw_958, zw_960, zw_s24⟩
theorem zw_858 : Cond.fieldLink "LowWaterModel" 75 "LowWaterModel" "act" "I" ∈ zT := zT_t (i := 858) (by decide +kernel) (by decide +kernel)
theorem f_X12_75 : zFL "LowWaterModel" 75 12 4 false true .int := ⟨RX12, "LowWaterModel", TX12, 24, tyX12, rfl, by decide, in_X12, tyX12_ok, nmX12, rfl, rfl, (fun _ => rfl), Or.inl zw_858, Or.inl rfl⟩
theorem zw_862 : Cond.fieldLink "LowWaterModel" 78 "LowWaterModel" "opened" "I" ∈ zT := zT_t (i := 862) (by decide +kernel) (by decide +kernel)
theorem f_X12_78 : zFL "LowWaterModel" 78 12 8 false true .int := ⟨RX12, "LowWaterModel", TX12, 24, tyX12, rfl, by decide, in_X12, tyX12_ok, nmX12, rfl, rfl, (fun _ => rfl), Or.inl zw_862, Or.inl rfl⟩
theorem zw_977 : Cond.code yX12_factor cX12_factor 5 none ∈ zT := zT_t (i := 977) (by decide +kernel) (by decide +kernel)
theorem co_X12_factor : zCo yX12_factor cX12_factor 5 none 0 := ⟨zw_977, zw_6, by decide +kernel, by decide +kernel, by decide +kernel⟩
theorem zw_974 : Cond.methodLink "LowWaterModel" 81 yX12_factor ∈ zT := zT_t (i := 974) (by decide +kernel) (by decide +kernel)
theorem zw_976 : Cond.instanceMethod yX12_factor ∈ zT := zT_t (i := 976) (by decide +kernel) (by decide +kernel)
theorem zw_s28 : Cond.selects "LowWaterModel" yX12_factor yX12_factor ∈ zT := zT_s (i := 28) (by decide +kernel) (by decide +kernel)
theorem k_X12_81 : Cond.methodLink "LowWaterModel" 81 yX12_factor ∈ zT ∧ Cond.instanceMethod yX12_factor ∈ zT ∧ Cond.selects yX12_factor.cls yX12_factor yX12_factor ∈ zT := ⟨zw_974, zw_976, zw_s28⟩
theorem zw_981 : Cond.code yX12_emits cX12_emits 2 none ∈ zT := zT_t (i := 981) (by decide +kernel) (by decide +kernel)
theorem co_X12_emits : zCo yX12_emits cX12_emits 2 none 1 := ⟨zw_981, zw_6, by decide +kernel, by decide +kernel, by decide +kernel⟩
theorem zw_978 : Cond.methodLink "LowWaterModel" 84 yX12_emits ∈ zT := zT_t (i := 978) (by decide +kernel) (by decide +kernel)
theorem zw_980 : Cond.instanceMethod yX12_emits ∈ zT := zT_t (i := 980) (by decide +kernel) (by decide +kernel)
theorem zw_s29 : Cond.selects "LowWaterModel" yX12_emits yX12_emits ∈ zT := zT_s (i := 29) (by decide +kernel) (by decide +kernel)
theorem k_X12_84 : Cond.methodLink "LowWaterModel" 84 yX12_emits ∈ zT ∧ Cond.instanceMethod yX12_emits ∈ zT ∧ Cond.selects yX12_emits.cls yX12_emits yX12_emits ∈ zT := ⟨zw_978, zw_980, zw_s29⟩
theorem zw_969 : Cond.code yX12_some cX12_some 1 none ∈ zT := zT_t (i := 969) (by decide +kernel) (by decide +kernel)
theorem co_X12_some : zCo yX12_some cX12_some 1 none 0 := ⟨zw_969, zw_6, by decide +kernel, by decide +kernel, by decide +kernel⟩
theorem zw_966 : Cond.methodLink "LowWaterModel" 87 yX12_some ∈ zT := zT_t (i := 966) (by decide +kernel) (by decide +kernel)
theorem zw_968 : Cond.instanceMethod yX12_some ∈ zT := zT_t (i := 968) (by decide +kernel) (by decide +kernel)
theorem zw_s26 : Cond.selects "LowWaterModel" yX12_some yX12_some ∈ zT := zT_s (i := 26) (by decide +kernel) (by decide +kernel)
theorem k_X12_87 : Cond.methodLink "LowWaterModel" 87 yX12_some ∈ zT ∧ Cond.instanceMethod yX12_some ∈ zT ∧ Cond.selects yX12_some.cls yX12_some yX12_some ∈ zT := ⟨zw_966, zw_968, zw_s26⟩
theorem zw_986 : Cond.code yX12_among cX12_among 3 (some .int) ∈ zT := zT_t (i := 986) (by decide +kernel) (by decide +kernel)
theorem co_X12_among : zCo yX12_among cX12_among 3 (some .int) 1 := ⟨zw_986, zw_6, by decide +kernel, by decide +kernel, by decide +kernel⟩
theorem zw_983 : Cond.methodLink "LowWaterModel" 92 yX12_among ∈ zT := zT_t (i := 983) (by decide +kernel) (by decide +kernel)
theorem zw_985 : Cond.instanceMethod yX12_among ∈ zT := zT_t (i := 985) (by decide +kernel) (by decide +kernel)
theorem zw_s30 : Cond.selects "LowWaterModel" yX12_among yX12_among ∈ zT := zT_s (i := 30) (by decide +kernel) (by decide +kernel)
theorem k_X12_92 : Cond.methodLink "LowWaterModel" 92 yX12_among ∈ zT ∧ Cond.instanceMethod yX12_among ∈ zT ∧ Cond.selects yX12_among.cls yX12_among yX12_among ∈ zT := ⟨zw_983, zw_985, zw_s30⟩
theorem zw_965 : Cond.code yX12_figures cX12_figures 3 (some .int) ∈ zT := zT_t (i := 965) (by decide +kernel) (by decide +kernel)
theorem co_X12_figures : zCo yX12_figures cX12_figures 3 (some .int) 0 := ⟨zw_965, zw_6, by decide +kernel, by decide +kernel, by decide +kernel⟩
theorem zw_962 : Cond.methodLink "LowWaterModel" 98 yX12_figures ∈ zT := zT_t (i := 962) (by decide +kernel) (by decide +kernel)
theorem zw_964 : Cond.instanceMethod yX12_figures ∈ zT := zT_t (i := 964) (by decide +kernel) (by decide +kernel)
theorem zw_s25 : Cond.selects "LowWaterModel" yX12_figures yX12_figures ∈ zT := zT_s (i := 25) (by decide +kernel) (by decide +kernel)
theorem k_X12_98 : Cond.methodLink "LowWaterModel" 98 yX12_figures ∈ zT ∧ Cond.instanceMethod yX12_figures ∈ zT ∧ Cond.selects yX12_figures.cls yX12_figures yX12_figures ∈ zT := ⟨zw_962, zw_964, zw_s25⟩
theorem zw_973 : Cond.code yX12_every cX12_every 1 none ∈ zT := zT_t (i := 973) (by decide +kernel) (by decide +kernel)
theorem co_X12_every : zCo yX12_every cX12_every 1 none 0 := ⟨zw_973, zw_6, by decide +kernel, by decide +kernel, by decide +kernel⟩
theorem zw_970 : Cond.methodLink "LowWaterModel" 101 yX12_every ∈ zT := zT_t (i := 970) (by decide +kernel) (by decide +kernel)
theorem zw_972 : Cond.instanceMethod yX12_every ∈ zT := zT_t (i := 972) (by decide +kernel) (by decide +kernel)
theorem zw_s27 : Cond.selects "LowWaterModel" yX12_every yX12_every ∈ zT := zT_s (i := 27) (by decide +kernel) (by decide +kernel)
theorem k_X12_101 : Cond.methodLink "LowWaterModel" 101 yX12_every ∈ zT ∧ Cond.instanceMethod yX12_every ∈ zT ∧ Cond.selects yX12_every.cls yX12_every yX12_every ∈ zT := ⟨zw_970, zw_972, zw_s27⟩
theorem zw_955 : Cond.code yX12_spells cX12_spells 3 none ∈ zT := zT_t (i := 955) (by decide +kernel) (by decide +kernel)
theorem co_X12_spells : zCo yX12_spells cX12_spells 3 none 1 := ⟨zw_955, zw_6, by decide +kernel, by decide +kernel, by decide +kernel⟩
theorem zw_952 : Cond.methodLink "LowWaterModel" 104 yX12_spells ∈ zT := zT_t (i := 952) (by decide +kernel) (by decide +kernel)
theorem zw_954 : Cond.instanceMethod yX12_spells ∈ zT := zT_t (i := 954) (by decide +kernel) (by decide +kernel)
theorem zw_s23 : Cond.selects "LowWaterModel" yX12_spells yX12_spells ∈ zT := zT_s (i := 23) (by decide +kernel) (by decide +kernel)
theorem k_X12_104 : Cond.methodLink "LowWaterModel" 104 yX12_spells ∈ zT ∧ Cond.instanceMethod yX12_spells ∈ zT ∧ Cond.selects yX12_spells.cls yX12_spells yX12_spells ∈ zT := ⟨zw_952, zw_954, zw_s23⟩
theorem zw_951 : Cond.code yX12_much cX12_much 4 none ∈ zT := zT_t (i := 951) (by decide +kernel) (by decide +kernel)
theorem co_X12_much : zCo yX12_much cX12_much 4 none 2 := ⟨zw_951, zw_6, by decide +kernel, by decide +kernel, by decide +kernel⟩
theorem zw_948 : Cond.methodLink "LowWaterModel" 110 yX12_much ∈ zT := zT_t (i := 948) (by decide +kernel) (by decide +kernel)
theorem zw_950 : Cond.instanceMethod yX12_much ∈ zT := zT_t (i := 950) (by decide +kernel) (by decide +kernel)
theorem zw_s22 : Cond.selects "LowWaterModel" yX12_much yX12_much ∈ zT := zT_s (i := 22) (by decide +kernel) (by decide +kernel)
theorem k_X12_110 : Cond.methodLink "LowWaterModel" 110 yX12_much ∈ zT ∧ Cond.instanceMethod yX12_much ∈ zT ∧ Cond.selects yX12_much.cls yX12_much yX12_much ∈ zT := ⟨zw_948, zw_950, zw_s22⟩
theorem zw_942 : Cond.code yX12_clauseHere cX12_clauseHere 1 none ∈ zT := zT_t (i := 942) (by decide +kernel) (by decide +kernel)
theorem co_X12_clauseHere : zCo yX12_clauseHere cX12_clauseHere 1 none 0 := ⟨zw_942, zw_6, by decide +kernel, by decide +kernel, by decide +kernel⟩
theorem zw_939 : Cond.methodLink "LowWaterModel" 118 yX12_clauseHere ∈ zT := zT_t (i := 939) (by decide +kernel) (by decide +kernel)
theorem zw_941 : Cond.instanceMethod yX12_clauseHere ∈ zT := zT_t (i := 941) (by decide +kernel) (by decide +kernel)
theorem zw_s20 : Cond.selects "LowWaterModel" yX12_clauseHere yX12_clauseHere ∈ zT := zT_s (i := 20) (by decide +kernel) (by decide +kernel)
theorem k_X12_118 : Cond.methodLink "LowWaterModel" 118 yX12_clauseHere ∈ zT ∧ Cond.instanceMethod yX12_clauseHere ∈ zT ∧ Cond.selects yX12_clauseHere.cls yX12_clauseHere yX12_clauseHere ∈ zT := ⟨zw_939, zw_941, zw_s20⟩
theorem zw_865 : Cond.fieldLink "LowWaterModel" 121 "LowWaterModel" "swelling" "I" ∈ zT := zT_t (i := 865) (by decide +kernel) (by decide +kernel)
theorem f_X12_121 : zFL "LowWaterModel" 121 12 11 false true .int := ⟨RX12, "LowWaterModel", TX12, 24, tyX12, rfl, by decide, in_X12, tyX12_ok, nmX12, rfl, rfl, (fun _ => rfl), Or.inl zw_865, Or.inl rfl⟩
theorem zw_866 : Cond.fieldLink "LowWaterModel" 124 "LowWaterModel" "waving" "I" ∈ zT := zT_t (i := 866) (by decide +kernel) (by decide +kernel)
theorem f_X12_124 : zFL "LowWaterModel" 124 12 12 false true .int := ⟨RX12, "LowWaterModel", TX12, 24, tyX12, rfl, by decide, in_X12, tyX12_ok, nmX12, rfl, rfl, (fun _ => rfl), Or.inl zw_866, Or.inl rfl⟩
theorem zw_1044 : Cond.code yX12_looks cX12_looks 10 none ∈ zT := zT_t (i := 1044) (by decide +kernel) (by decide +kernel)
theorem co_X12_looks : zCo yX12_looks cX12_looks 10 none 1 := ⟨zw_1044, zw_6, by decide +kernel, by decide +kernel, by decide +kernel⟩
theorem zw_1041 : Cond.methodLink "LowWaterModel" 127 yX12_looks ∈ zT := zT_t (i := 1041) (by decide +kernel) (by decide +kernel)
theorem zw_1043 : Cond.instanceMethod yX12_looks ∈ zT := zT_t (i := 1043) (by decide +kernel) (by decide +kernel)
theorem zw_s35 : Cond.selects "LowWaterModel" yX12_looks yX12_looks ∈ zT := zT_s (i := 35) (by decide +kernel) (by decide +kernel)
theorem k_X12_127 : Cond.methodLink "LowWaterModel" 127 yX12_looks ∈ zT ∧ Cond.instanceMethod yX12_looks ∈ zT ∧ Cond.selects yX12_looks.cls yX12_looks yX12_looks ∈ zT := ⟨zw_1041, zw_1043, zw_s35⟩
theorem zw_868 : Cond.fieldLink "LowWaterModel" 130 "LowWaterModel" "known" "I" ∈ zT := zT_t (i := 868) (by decide +kernel) (by decide +kernel)
theorem f_X12_130 : zFL "LowWaterModel" 130 12 14 false true .int := ⟨RX12, "LowWaterModel", TX12, 24, tyX12, rfl, by decide, in_X12, tyX12_ok, nmX12, rfl, rfl, (fun _ => rfl), Or.inl zw_868, Or.inl rfl⟩
theorem zw_1040 : Cond.code yX12_levelAt cX12_levelAt 4 (some .int) ∈ zT := zT_t (i := 1040) (by decide +kernel) (by decide +kernel)
theorem co_X12_levelAt : zCo yX12_levelAt cX12_levelAt 4 (some .int) 1 := ⟨zw_1040, zw_6, by decide +kernel, by decide +kernel, by decide +kernel⟩
theorem zw_1037 : Cond.methodLink "LowWaterModel" 133 yX12_levelAt ∈ zT := zT_t (i := 1037) (by decide +kernel) (by decide +kernel)
theorem zw_1039 : Cond.instanceMethod yX12_levelAt ∈ zT := zT_t (i := 1039) (by decide +kernel) (by decide +kernel)
theorem zw_s34 : Cond.selects "LowWaterModel" yX12_levelAt yX12_levelAt ∈ zT := zT_s (i := 34) (by decide +kernel) (by decide +kernel)
theorem k_X12_133 : Cond.methodLink "LowWaterModel" 133 yX12_levelAt ∈ zT ∧ Cond.instanceMethod yX12_levelAt ∈ zT ∧ Cond.selects yX12_levelAt.cls yX12_levelAt yX12_levelAt ∈ zT := ⟨zw_1037, zw_1039, zw_s34⟩
theorem zw_996 : Cond.code yX12_isShelf cX12_isShelf 1 (some .boolean) ∈ zT := zT_t (i := 996) (by decide +kernel) (by decide +kernel)
theorem co_X12_isShelf : zCo yX12_isShelf cX12_isShelf 1 (some .boolean) 1 := ⟨zw_996, zw_6, by decide +kernel, by decide +kernel, by decide +kernel⟩
theorem zw_994 : Cond.methodLink "LowWaterModel" 137 yX12_isShelf ∈ zT := zT_t (i := 994) (by decide +kernel) (by decide +kernel)
theorem zw_995 : Cond.static yX12_isShelf ∈ zT := zT_t (i := 995) (by decide +kernel) (by decide +kernel)
theorem k_X12_137 : Cond.methodLink "LowWaterModel" 137 yX12_isShelf ∈ zT ∧ Cond.static yX12_isShelf ∈ zT := ⟨zw_994, zw_995⟩
theorem zw_1004 : Cond.code yX12_isSlate cX12_isSlate 2 (some .boolean) ∈ zT := zT_t (i := 1004) (by decide +kernel) (by decide +kernel)
theorem co_X12_isSlate : zCo yX12_isSlate cX12_isSlate 2 (some .boolean) 1 := ⟨zw_1004, zw_6, by decide +kernel, by decide +kernel, by decide +kernel⟩
theorem zw_1001 : Cond.methodLink "LowWaterModel" 141 yX12_isSlate ∈ zT := zT_t (i := 1001) (by decide +kernel) (by decide +kernel)
theorem zw_1003 : Cond.instanceMethod yX12_isSlate ∈ zT := zT_t (i := 1003) (by decide +kernel) (by decide +kernel)
theorem zw_s31 : Cond.selects "LowWaterModel" yX12_isSlate yX12_isSlate ∈ zT := zT_s (i := 31) (by decide +kernel) (by decide +kernel)
theorem k_X12_141 : Cond.methodLink "LowWaterModel" 141 yX12_isSlate ∈ zT ∧ Cond.instanceMethod yX12_isSlate ∈ zT ∧ Cond.selects yX12_isSlate.cls yX12_isSlate yX12_isSlate ∈ zT := ⟨zw_1001, zw_1003, zw_s31⟩
theorem zw_1020 : Cond.code yX12_isReader cX12_isReader 2 (some .boolean) ∈ zT := zT_t (i := 1020) (by decide +kernel) (by decide +kernel)
theorem co_X12_isReader : zCo yX12_isReader cX12_isReader 2 (some .boolean) 1 := ⟨zw_1020, zw_6, by decide +kernel, by decide +kernel, by decide +kernel⟩
theorem zw_1017 : Cond.methodLink "LowWaterModel" 144 yX12_isReader ∈ zT := zT_t (i := 1017) (by decide +kernel) (by decide +kernel)
theorem zw_1019 : Cond.instanceMethod yX12_isReader ∈ zT := zT_t (i := 1019) (by decide +kernel) (by decide +kernel)
theorem zw_s32 : Cond.selects "LowWaterModel" yX12_isReader yX12_isReader ∈ zT := zT_s (i := 32) (by decide +kernel) (by decide +kernel)
theorem k_X12_144 : Cond.methodLink "LowWaterModel" 144 yX12_isReader ∈ zT ∧ Cond.instanceMethod yX12_isReader ∈ zT ∧ Cond.selects yX12_isReader.cls yX12_isReader yX12_isReader ∈ zT := ⟨zw_1017, zw_1019, zw_s32⟩
theorem zw_1028 : Cond.code yX12_needsOf cX12_needsOf 5 (some .int) ∈ zT := zT_t (i := 1028) (by decide +kernel) (by decide +kernel)
theorem co_X12_needsOf : zCo yX12_needsOf cX12_needsOf 5 (some .int) 2 := ⟨zw_1028, zw_6, by decide +kernel, by decide +kernel, by decide +kernel⟩
theorem zw_1025 : Cond.methodLink "LowWaterModel" 147 yX12_needsOf ∈ zT := zT_t (i := 1025) (by decide +kernel) (by decide +kernel)
theorem zw_1027 : Cond.instanceMethod yX12_needsOf ∈ zT := zT_t (i := 1027) (by decide +kernel) (by decide +kernel)
theorem zw_s33 : Cond.selects "LowWaterModel" yX12_needsOf yX12_needsOf ∈ zT := zT_s (i := 33) (by decide +kernel) (by decide +kernel)
theorem k_X12_147 : Cond.methodLink "LowWaterModel" 147 yX12_needsOf ∈ zT ∧ Cond.instanceMethod yX12_needsOf ∈ zT ∧ Cond.selects yX12_needsOf.cls yX12_needsOf yX12_needsOf ∈ zT := ⟨zw_1025, zw_1027, zw_s33⟩
theorem zw_1072 : Cond.code yX12_levelIn cX12_levelIn 3 (some .int) ∈ zT := zT_t (i := 1072) (by decide +kernel) (by decide +kernel)
theorem co_X12_levelIn : zCo yX12_levelIn cX12_levelIn 3 (some .int) 1 := ⟨zw_1072, zw_6, by decide +kernel, by decide +kernel, by decide +kernel⟩
theorem zw_1069 : Cond.methodLink "LowWaterModel" 151 yX12_levelIn ∈ zT := zT_t (i := 1069) (by decide +kernel) (by decide +kernel)
theorem zw_1071 : Cond.instanceMethod yX12_levelIn ∈ zT := zT_t (i := 1071) (by decide +kernel) (by decide +kernel)
theorem zw_s40 : Cond.selects "LowWaterModel" yX12_levelIn yX12_levelIn ∈ zT := zT_s (i := 40) (by decide +kernel) (by decide +kernel)
theorem k_X12_151 : Cond.methodLink "LowWaterModel" 151 yX12_levelIn ∈ zT ∧ Cond.instanceMethod yX12_levelIn ∈ zT ∧ Cond.selects yX12_levelIn.cls yX12_levelIn yX12_levelIn ∈ zT := ⟨zw_1069, zw_1071, zw_s40⟩
theorem zw_1068 : Cond.code yX12_mayBegin cX12_mayBegin 5 (some .boolean) ∈ zT := zT_t (i := 1068) (by decide +kernel) (by decide +kernel)
theorem co_X12_mayBegin : zCo yX12_mayBegin cX12_mayBegin 5 (some .boolean) 2 := ⟨zw_1068, zw_6, by decide +kernel, by decide +kernel, by decide +kernel⟩
theorem zw_1065 : Cond.methodLink "LowWaterModel" 154 yX12_mayBegin ∈ zT := zT_t (i := 1065) (by decide +kernel) (by decide +kernel)
theorem zw_1067 : Cond.instanceMethod yX12_mayBegin ∈ zT := zT_t (i := 1067) (by decide +kernel) (by decide +kernel)
theorem zw_s39 : Cond.selects "LowWaterModel" yX12_mayBegin yX12_mayBegin ∈ zT := zT_s (i := 39) (by decide +kernel) (by decide +kernel)
theorem k_X12_154 : Cond.methodLink "LowWaterModel" 154 yX12_mayBegin ∈ zT ∧ Cond.instanceMethod yX12_mayBegin ∈ zT ∧ Cond.selects yX12_mayBegin.cls yX12_mayBegin yX12_mayBegin ∈ zT := ⟨zw_1065, zw_1067, zw_s39⟩
theorem zw_1076 : Cond.code yX12_isOpen cX12_isOpen 5 (some .boolean) ∈ zT := zT_t (i := 1076) (by decide +kernel) (by decide +kernel)
theorem co_X12_isOpen : zCo yX12_isOpen cX12_isOpen 5 (some .boolean) 3 := ⟨zw_1076, zw_6, by decide +kernel, by decide +kernel, by decide +kernel⟩
theorem zw_1073 : Cond.methodLink "LowWaterModel" 158 yX12_isOpen ∈ zT := zT_t (i := 1073) (by decide +kernel) (by decide +kernel)
theorem zw_1075 : Cond.instanceMethod yX12_isOpen ∈ zT := zT_t (i := 1075) (by decide +kernel) (by decide +kernel)
theorem zw_s41 : Cond.selects "LowWaterModel" yX12_isOpen yX12_isOpen ∈ zT := zT_s (i := 41) (by decide +kernel) (by decide +kernel)
theorem k_X12_158 : Cond.methodLink "LowWaterModel" 158 yX12_isOpen ∈ zT ∧ Cond.instanceMethod yX12_isOpen ∈ zT ∧ Cond.selects yX12_isOpen.cls yX12_isOpen yX12_isOpen ∈ zT := ⟨zw_1073, zw_1075, zw_s41⟩
theorem zw_1064 : Cond.code yX12_canRead cX12_canRead 6 (some .boolean) ∈ zT := zT_t (i := 1064) (by decide +kernel) (by decide +kernel)
theorem co_X12_canRead : zCo yX12_canRead cX12_canRead 6 (some .boolean) 3 := ⟨zw_1064, zw_6, by decide +kernel, by decide +kernel, by decide +kernel⟩
theorem zw_1061 : Cond.methodLink "LowWaterModel" 161 yX12_canRead ∈ zT := zT_t (i := 1061) (by decide +kernel) (by decide +kernel)
theorem zw_1063 : Cond.instanceMethod yX12_canRead ∈ zT := zT_t (i := 1063) (by decide +kernel) (by decide +kernel)
theorem zw_s38 : Cond.selects "LowWaterModel" yX12_canRead yX12_canRead ∈ zT := zT_s (i := 38) (by decide +kernel) (by decide +kernel)
theorem k_X12_161 : Cond.methodLink "LowWaterModel" 161 yX12_canRead ∈ zT ∧ Cond.instanceMethod yX12_canRead ∈ zT ∧ Cond.selects yX12_canRead.cls yX12_canRead yX12_canRead ∈ zT := ⟨zw_1061, zw_1063, zw_s38⟩
theorem zw_1077 : Cond.constant "LowWaterModel" 164 100000 ∈ zT := zT_t (i := 1077) (by decide +kernel) (by decide +kernel)
theorem cn_X12_164 : Cond.constant "LowWaterModel" 164 100000 ∈ zT := zw_1077
theorem zw_1056 : Cond.code yX12_forgets cX12_forgets 1 none ∈ zT := zT_t (i := 1056) (by decide +kernel) (by decide +kernel)
theorem co_X12_forgets : zCo yX12_forgets cX12_forgets 1 none 0 := ⟨zw_1056, zw_6, by decide +kernel, by decide +kernel, by decide +kernel⟩
theorem zw_1053 : Cond.methodLink "LowWaterModel" 165 yX12_forgets ∈ zT := zT_t (i := 1053) (by decide +kernel) (by decide +kernel)
theorem zw_1055 : Cond.instanceMethod yX12_forgets ∈ zT := zT_t (i := 1055) (by decide +kernel) (by decide +kernel)
theorem zw_s36 : Cond.selects "LowWaterModel" yX12_forgets yX12_forgets ∈ zT := zT_s (i := 36) (by decide +kernel) (by decide +kernel)
theorem k_X12_165 : Cond.methodLink "LowWaterModel" 165 yX12_forgets ∈ zT ∧ Cond.instanceMethod yX12_forgets ∈ zT ∧ Cond.selects yX12_forgets.cls yX12_forgets yX12_forgets ∈ zT := ⟨zw_1053, zw_1055, zw_s36⟩
theorem zw_1060 : Cond.code yX12_soonFrom cX12_soonFrom 6 (some .int) ∈ zT := zT_t (i := 1060) (by decide +kernel) (by decide +kernel)
theorem co_X12_soonFrom : zCo yX12_soonFrom cX12_soonFrom 6 (some .int) 3 := ⟨zw_1060, zw_6, by decide +kernel, by decide +kernel, by decide +kernel⟩
theorem zw_1057 : Cond.methodLink "LowWaterModel" 168 yX12_soonFrom ∈ zT := zT_t (i := 1057) (by decide +kernel) (by decide +kernel)
theorem zw_1059 : Cond.instanceMethod yX12_soonFrom ∈ zT := zT_t (i := 1059) (by decide +kernel) (by decide +kernel)
theorem zw_s37 : Cond.selects "LowWaterModel" yX12_soonFrom yX12_soonFrom ∈ zT := zT_s (i := 37) (by decide +kernel) (by decide +kernel)
theorem k_X12_168 : Cond.methodLink "LowWaterModel" 168 yX12_soonFrom ∈ zT ∧ Cond.instanceMethod yX12_soonFrom ∈ zT ∧ Cond.selects yX12_soonFrom.cls yX12_soonFrom yX12_soonFrom ∈ zT := ⟨zw_1057, zw_1059, zw_s37⟩
theorem zw_1080 : Cond.code yX12_orNone cX12_orNone 1 (some .int) ∈ zT := zT_t (i := 1080) (by decide +kernel) (by decide +kernel)
theorem co_X12_orNone : zCo yX12_orNone cX12_orNone 1 (some .int) 1 := ⟨zw_1080, zw_6, by decide +kernel, by decide +kernel, by decide +kernel⟩
theorem zw_1078 : Cond.methodLink "LowWaterModel" 172 yX12_orNone ∈ zT := zT_t (i := 1078) (by decide +kernel) (by decide +kernel)
theorem zw_1079 : Cond.static yX12_orNone ∈ zT := zT_t (i := 1079) (by decide +kernel) (by decide +kernel)
theorem k_X12_172 : Cond.methodLink "LowWaterModel" 172 yX12_orNone ∈ zT ∧ Cond.static yX12_orNone ∈ zT := ⟨zw_1078, zw_1079⟩
theorem zw_872 : Cond.fieldLink "LowWaterModel" 175 "LowWaterModel" "bestEnd" "I" ∈ zT := zT_t (i := 872) (by decide +kernel) (by decide +kernel)
theorem f_X12_175 : zFL "LowWaterModel" 175 12 18 false true .int := ⟨RX12, "LowWaterModel", TX12, 24, tyX12, rfl, by decide, in_X12, tyX12_ok, nmX12, rfl, rfl, (fun _ => rfl), Or.inl zw_872, Or.inl rfl⟩
theorem zw_1104 : Cond.code yX12_soonKnown cX12_soonKnown 5 (some .int) ∈ zT := zT_t (i := 1104) (by decide +kernel) (by decide +kernel)
theorem co_X12_soonKnown : zCo yX12_soonKnown cX12_soonKnown 5 (some .int) 3 := ⟨zw_1104, zw_6, by decide +kernel, by decide +kernel, by decide +kernel⟩
theorem zw_1101 : Cond.methodLink "LowWaterModel" 178 yX12_soonKnown ∈ zT := zT_t (i := 1101) (by decide +kernel) (by decide +kernel)
theorem zw_1103 : Cond.instanceMethod yX12_soonKnown ∈ zT := zT_t (i := 1103) (by decide +kernel) (by decide +kernel)
theorem zw_s46 : Cond.selects "LowWaterModel" yX12_soonKnown yX12_soonKnown ∈ zT := zT_s (i := 46) (by decide +kernel) (by decide +kernel)
theorem k_X12_178 : Cond.methodLink "LowWaterModel" 178 yX12_soonKnown ∈ zT ∧ Cond.instanceMethod yX12_soonKnown ∈ zT ∧ Cond.selects yX12_soonKnown.cls yX12_soonKnown yX12_soonKnown ∈ zT := ⟨zw_1101, zw_1103, zw_s46⟩
theorem zw_1100 : Cond.code yX12_ordersFrom cX12_ordersFrom 7 none ∈ zT := zT_t (i := 1100) (by decide +kernel) (by decide +kernel)
theorem co_X12_ordersFrom : zCo yX12_ordersFrom cX12_ordersFrom 7 none 4 := ⟨zw_1100, zw_6, by decide +kernel, by decide +kernel, by decide +kernel⟩
theorem zw_1097 : Cond.methodLink "LowWaterModel" 181 yX12_ordersFrom ∈ zT := zT_t (i := 1097) (by decide +kernel) (by decide +kernel)
theorem zw_1099 : Cond.instanceMethod yX12_ordersFrom ∈ zT := zT_t (i := 1099) (by decide +kernel) (by decide +kernel)
theorem zw_s45 : Cond.selects "LowWaterModel" yX12_ordersFrom yX12_ordersFrom ∈ zT := zT_s (i := 45) (by decide +kernel) (by decide +kernel)
theorem k_X12_181 : Cond.methodLink "LowWaterModel" 181 yX12_ordersFrom ∈ zT ∧ Cond.instanceMethod yX12_ordersFrom ∈ zT ∧ Cond.selects yX12_ordersFrom.cls yX12_ordersFrom yX12_ordersFrom ∈ zT := ⟨zw_1097, zw_1099, zw_s45⟩
theorem zw_1088 : Cond.code yX12_isSet cX12_isSet 2 (some .boolean) ∈ zT := zT_t (i := 1088) (by decide +kernel) (by decide +kernel)
theorem co_X12_isSet : zCo yX12_isSet cX12_isSet 2 (some .boolean) 1 := ⟨zw_1088, zw_6, by decide +kernel, by decide +kernel, by decide +kernel⟩
theorem zw_1085 : Cond.methodLink "LowWaterModel" 185 yX12_isSet ∈ zT := zT_t (i := 1085) (by decide +kernel) (by decide +kernel)
theorem zw_1087 : Cond.instanceMethod yX12_isSet ∈ zT := zT_t (i := 1087) (by decide +kernel) (by decide +kernel)
theorem zw_s42 : Cond.selects "LowWaterModel" yX12_isSet yX12_isSet ∈ zT := zT_s (i := 42) (by decide +kernel) (by decide +kernel)
theorem k_X12_185 : Cond.methodLink "LowWaterModel" 185 yX12_isSet ∈ zT ∧ Cond.instanceMethod yX12_isSet ∈ zT ∧ Cond.selects yX12_isSet.cls yX12_isSet yX12_isSet ∈ zT := ⟨zw_1085, zw_1087, zw_s42⟩
theorem zw_1092 : Cond.code yX12_forgetsSoons cX12_forgetsSoons 2 none ∈ zT := zT_t (i := 1092) (by decide +kernel) (by decide +kernel)
theorem co_X12_forgetsSoons : zCo yX12_forgetsSoons cX12_forgetsSoons 2 none 0 := ⟨zw_1092, zw_6, by decide +kernel, by decide +kernel, by decide +kernel⟩
theorem zw_1089 : Cond.methodLink "LowWaterModel" 188 yX12_forgetsSoons ∈ zT := zT_t (i := 1089) (by decide +kernel) (by decide +kernel)
theorem zw_1091 : Cond.instanceMethod yX12_forgetsSoons ∈ zT := zT_t (i := 1091) (by decide +kernel) (by decide +kernel)
theorem zw_s43 : Cond.selects "LowWaterModel" yX12_forgetsSoons yX12_forgetsSoons ∈ zT := zT_s (i := 43) (by decide +kernel) (by decide +kernel)
theorem k_X12_188 : Cond.methodLink "LowWaterModel" 188 yX12_forgetsSoons ∈ zT ∧ Cond.instanceMethod yX12_forgetsSoons ∈ zT ∧ Cond.selects yX12_forgetsSoons.cls yX12_forgetsSoons yX12_forgetsSoons ∈ zT := ⟨zw_1089, zw_1091, zw_s43⟩
theorem zw_1096 : Cond.code yX12_endOf cX12_endOf 4 (some .int) ∈ zT := zT_t (i := 1096) (by decide +kernel) (by decide +kernel)
theorem co_X12_endOf : zCo yX12_endOf cX12_endOf 4 (some .int) 2 := ⟨zw_1096, zw_6, by decide +kernel, by decide +kernel, by decide +kernel⟩
theorem zw_1093 : Cond.methodLink "LowWaterModel" 191 yX12_endOf ∈ zT := zT_t (i := 1093) (by decide +kernel) (by decide +kernel)
theorem zw_1095 : Cond.instanceMethod yX12_endOf ∈ zT := zT_t (i := 1095) (by decide +kernel) (by decide +kernel)
theorem zw_s44 : Cond.selects "LowWaterModel" yX12_endOf yX12_endOf ∈ zT := zT_s (i := 44) (by decide +kernel) (by decide +kernel)
theorem k_X12_191 : Cond.methodLink "LowWaterModel" 191 yX12_endOf ∈ zT ∧ Cond.instanceMethod yX12_endOf ∈ zT ∧ Cond.selects yX12_endOf.cls yX12_endOf yX12_endOf ∈ zT := ⟨zw_1093, zw_1095, zw_s44⟩
theorem zw_1120 : Cond.code yX12_waitsAll cX12_waitsAll 4 (some .int) ∈ zT := zT_t (i := 1120) (by decide +kernel) (by decide +kernel)
theorem co_X12_waitsAll : zCo yX12_waitsAll cX12_waitsAll 4 (some .int) 0 := ⟨zw_1120, zw_6, by decide +kernel, by decide +kernel, by decide +kernel⟩
theorem zw_1117 : Cond.methodLink "LowWaterModel" 194 yX12_waitsAll ∈ zT := zT_t (i := 1117) (by decide +kernel) (by decide +kernel)
theorem zw_1119 : Cond.instanceMethod yX12_waitsAll ∈ zT := zT_t (i := 1119) (by decide +kernel) (by decide +kernel)
theorem zw_s47 : Cond.selects "LowWaterModel" yX12_waitsAll yX12_waitsAll ∈ zT := zT_s (i := 47) (by decide +kernel) (by decide +kernel)
theorem k_X12_194 : Cond.methodLink "LowWaterModel" 194 yX12_waitsAll ∈ zT ∧ Cond.instanceMethod yX12_waitsAll ∈ zT ∧ Cond.selects yX12_waitsAll.cls yX12_waitsAll yX12_waitsAll ∈ zT := ⟨zw_1117, zw_1119, zw_s47⟩
theorem zw_1132 : Cond.code yX12_changes cX12_changes 4 none ∈ zT := zT_t (i := 1132) (by decide +kernel) (by decide +kernel)
theorem co_X12_changes : zCo yX12_changes cX12_changes 4 none 2 := ⟨zw_1132, zw_6, by decide +kernel, by decide +kernel, by decide +kernel⟩
theorem zw_1129 : Cond.methodLink "LowWaterModel" 197 yX12_changes ∈ zT := zT_t (i := 1129) (by decide +kernel) (by decide +kernel)
theorem zw_1131 : Cond.instanceMethod yX12_changes ∈ zT := zT_t (i := 1131) (by decide +kernel) (by decide +kernel)
theorem zw_s48 : Cond.selects "LowWaterModel" yX12_changes yX12_changes ∈ zT := zT_s (i := 48) (by decide +kernel) (by decide +kernel)
theorem k_X12_197 : Cond.methodLink "LowWaterModel" 197 yX12_changes ∈ zT ∧ Cond.instanceMethod yX12_changes ∈ zT ∧ Cond.selects yX12_changes.cls yX12_changes yX12_changes ∈ zT := ⟨zw_1129, zw_1131, zw_s48⟩
theorem zw_1149 : Cond.constantLong "LowWaterModel" 201 (-9223372036854775808) ∈ zT := zT_t (i := 1149) (by decide +kernel) (by decide +kernel)
theorem cn_X12_201 : Cond.constantLong "LowWaterModel" 201 (-9223372036854775808) ∈ zT := zw_1149
theorem zw_1150 : Cond.constantLong "LowWaterModel" 203 10 ∈ zT := zT_t (i := 1150) (by decide +kernel) (by decide +kernel)
theorem cn_X12_203 : Cond.constantLong "LowWaterModel" 203 10 ∈ zT := zw_1150
theorem zw_1153 : Cond.code yX12_lowest cX12_lowest 11 (some .long) ∈ zT := zT_t (i := 1153) (by decide +kernel) (by decide +kernel)
theorem co_X12_lowest : zCo yX12_lowest cX12_lowest 11 (some .long) 3 := ⟨zw_1153, zw_6, by decide +kernel, by decide +kernel, by decide +kernel⟩
theorem zw_1151 : Cond.methodLink "LowWaterModel" 205 yX12_lowest ∈ zT := zT_t (i := 1151) (by decide +kernel) (by decide +kernel)
theorem zw_1152 : Cond.static yX12_lowest ∈ zT := zT_t (i := 1152) (by decide +kernel) (by decide +kernel)
theorem k_X12_205 : Cond.methodLink "LowWaterModel" 205 yX12_lowest ∈ zT ∧ Cond.static yX12_lowest ∈ zT := ⟨zw_1151, zw_1152⟩
theorem zw_874 : Cond.fieldLink "LowWaterModel" 209 "LowWaterModel" "ran" "I" ∈ zT := zT_t (i := 874) (by decide +kernel) (by decide +kernel)
theorem f_X12_209 : zFL "LowWaterModel" 209 12 20 false true .int := ⟨RX12, "LowWaterModel", TX12, 24, tyX12, rfl, by decide, in_X12, tyX12_ok, nmX12, rfl, rfl, (fun _ => rfl), Or.inl zw_874, Or.inl rfl⟩
theorem zw_1188 : Cond.code yX12_ranBody cX12_ranBody 2 none ∈ zT := zT_t (i := 1188) (by decide +kernel) (by decide +kernel)
theorem co_X12_ranBody : zCo yX12_ranBody cX12_ranBody 2 none 1 := ⟨zw_1188, zw_6, by decide +kernel, by decide +kernel, by decide +kernel⟩
theorem zw_1185 : Cond.methodLink "LowWaterModel" 212 yX12_ranBody ∈ zT := zT_t (i := 1185) (by decide +kernel) (by decide +kernel)
theorem zw_1187 : Cond.instanceMethod yX12_ranBody ∈ zT := zT_t (i := 1187) (by decide +kernel) (by decide +kernel)
theorem zw_s50 : Cond.selects "LowWaterModel" yX12_ranBody yX12_ranBody ∈ zT := zT_s (i := 50) (by decide +kernel) (by decide +kernel)
theorem k_X12_212 : Cond.methodLink "LowWaterModel" 212 yX12_ranBody ∈ zT ∧ Cond.instanceMethod yX12_ranBody ∈ zT ∧ Cond.selects yX12_ranBody.cls yX12_ranBody yX12_ranBody ∈ zT := ⟨zw_1185, zw_1187, zw_s50⟩
theorem zw_876 : Cond.fieldLink "LowWaterModel" 215 "LowWaterModel" "number" "I" ∈ zT := zT_t (i := 876) (by decide +kernel) (by decide +kernel)
theorem f_X12_215 : zFL "LowWaterModel" 215 12 22 false true .int := ⟨RX12, "LowWaterModel", TX12, 24, tyX12, rfl, by decide, in_X12, tyX12_ok, nmX12, rfl, rfl, (fun _ => rfl), Or.inl zw_876, Or.inl rfl⟩
theorem zw_875 : Cond.fieldLink "LowWaterModel" 218 "LowWaterModel" "kind" "I" ∈ zT := zT_t (i := 875) (by decide +kernel) (by decide +kernel)
theorem f_X12_218 : zFL "LowWaterModel" 218 12 21 false true .int := ⟨RX12, "LowWaterModel", TX12, 24, tyX12, rfl, by decide, in_X12, tyX12_ok, nmX12, rfl, rfl, (fun _ => rfl), Or.inl zw_875, Or.inl rfl⟩
theorem zw_1184 : Cond.code yX12_isUnder cX12_isUnder 2 (some .boolean) ∈ zT := zT_t (i := 1184) (by decide +kernel) (by decide +kernel)
theorem co_X12_isUnder : zCo yX12_isUnder cX12_isUnder 2 (some .boolean) 2 := ⟨zw_1184, zw_6, by decide +kernel, by decide +kernel, by decide +kernel⟩
theorem zw_1182 : Cond.methodLink "LowWaterModel" 221 yX12_isUnder ∈ zT := zT_t (i := 1182) (by decide +kernel) (by decide +kernel)
theorem zw_1183 : Cond.static yX12_isUnder ∈ zT := zT_t (i := 1183) (by decide +kernel) (by decide +kernel)
theorem k_X12_221 : Cond.methodLink "LowWaterModel" 221 yX12_isUnder ∈ zT ∧ Cond.static yX12_isUnder ∈ zT := ⟨zw_1182, zw_1183⟩
theorem zw_1192 : Cond.code yX12_plainReads cX12_plainReads 2 (some .int) ∈ zT := zT_t (i := 1192) (by decide +kernel) (by decide +kernel)
theorem co_X12_plainReads : zCo yX12_plainReads cX12_plainReads 2 (some .int) 1 := ⟨zw_1192, zw_6, by decide +kernel, by decide +kernel, by decide +kernel⟩
theorem zw_1189 : Cond.methodLink "LowWaterModel" 224 yX12_plainReads ∈ zT := zT_t (i := 1189) (by decide +kernel) (by decide +kernel)
theorem zw_1191 : Cond.instanceMethod yX12_plainReads ∈ zT := zT_t (i := 1191) (by decide +kernel) (by decide +kernel)
theorem zw_s51 : Cond.selects "LowWaterModel" yX12_plainReads yX12_plainReads ∈ zT := zT_s (i := 51) (by decide +kernel) (by decide +kernel)
theorem k_X12_224 : Cond.methodLink "LowWaterModel" 224 yX12_plainReads ∈ zT ∧ Cond.instanceMethod yX12_plainReads ∈ zT ∧ Cond.selects yX12_plainReads.cls yX12_plainReads yX12_plainReads ∈ zT := ⟨zw_1189, zw_1191, zw_s51⟩
theorem zw_1181 : Cond.code yX12_readsActs cX12_readsActs 2 (some .int) ∈ zT := zT_t (i := 1181) (by decide +kernel) (by decide +kernel)
theorem co_X12_readsActs : zCo yX12_readsActs cX12_readsActs 2 (some .int) 1 := ⟨zw_1181, zw_6, by decide +kernel, by decide +kernel, by decide +kernel⟩
theorem zw_1178 : Cond.methodLink "LowWaterModel" 227 yX12_readsActs ∈ zT := zT_t (i := 1178) (by decide +kernel) (by decide +kernel)
theorem zw_1180 : Cond.instanceMethod yX12_readsActs ∈ zT := zT_t (i := 1180) (by decide +kernel) (by decide +kernel)
theorem zw_s49 : Cond.selects "LowWaterModel" yX12_readsActs yX12_readsActs ∈ zT := zT_s (i := 49) (by decide +kernel) (by decide +kernel)
theorem k_X12_227 : Cond.methodLink "LowWaterModel" 227 yX12_readsActs ∈ zT ∧ Cond.instanceMethod yX12_readsActs ∈ zT ∧ Cond.selects yX12_readsActs.cls yX12_readsActs yX12_readsActs ∈ zT := ⟨zw_1178, zw_1180, zw_s49⟩
theorem zw_877 : Cond.fieldLink "LowWaterModel" 230 "LowWaterModel" "tellsV" "I" ∈ zT := zT_t (i := 877) (by decide +kernel) (by decide +kernel)
theorem f_X12_230 : zFL "LowWaterModel" 230 12 23 false true .int := ⟨RX12, "LowWaterModel", TX12, 24, tyX12, rfl, by decide, in_X12, tyX12_ok, nmX12, rfl, rfl, (fun _ => rfl), Or.inl zw_877, Or.inl rfl⟩
theorem zw_1200 : Cond.code yX12_plainWaits cX12_plainWaits 2 (some .int) ∈ zT := zT_t (i := 1200) (by decide +kernel) (by decide +kernel)
theorem co_X12_plainWaits : zCo yX12_plainWaits cX12_plainWaits 2 (some .int) 1 := ⟨zw_1200, zw_6, by decide +kernel, by decide +kernel, by decide +kernel⟩
theorem zw_1197 : Cond.methodLink "LowWaterModel" 233 yX12_plainWaits ∈ zT := zT_t (i := 1197) (by decide +kernel) (by decide +kernel)
theorem zw_1199 : Cond.instanceMethod yX12_plainWaits ∈ zT := zT_t (i := 1199) (by decide +kernel) (by decide +kernel)
theorem zw_s53 : Cond.selects "LowWaterModel" yX12_plainWaits yX12_plainWaits ∈ zT := zT_s (i := 53) (by decide +kernel) (by decide +kernel)
theorem k_X12_233 : Cond.methodLink "LowWaterModel" 233 yX12_plainWaits ∈ zT ∧ Cond.instanceMethod yX12_plainWaits ∈ zT ∧ Cond.selects yX12_plainWaits.cls yX12_plainWaits yX12_plainWaits ∈ zT := ⟨zw_1197, zw_1199, zw_s53⟩
theorem zw_1196 : Cond.code yX12_waitsActs cX12_waitsActs 2 (some .int) ∈ zT := zT_t (i := 1196) (by decide +kernel) (by decide +kernel)
theorem co_X12_waitsActs : zCo yX12_waitsActs cX12_waitsActs 2 (some .int) 1 := ⟨zw_1196, zw_6, by decide +kernel, by decide +kernel, by decide +kernel⟩
theorem zw_1193 : Cond.methodLink "LowWaterModel" 236 yX12_waitsActs ∈ zT := zT_t (i := 1193) (by decide +kernel) (by decide +kernel)
theorem zw_1195 : Cond.instanceMethod yX12_waitsActs ∈ zT := zT_t (i := 1195) (by decide +kernel) (by decide +kernel)
theorem zw_s52 : Cond.selects "LowWaterModel" yX12_waitsActs yX12_waitsActs ∈ zT := zT_s (i := 52) (by decide +kernel) (by decide +kernel)
theorem k_X12_236 : Cond.methodLink "LowWaterModel" 236 yX12_waitsActs ∈ zT ∧ Cond.instanceMethod yX12_waitsActs ∈ zT ∧ Cond.selects yX12_waitsActs.cls yX12_waitsActs yX12_waitsActs ∈ zT := ⟨zw_1193, zw_1195, zw_s52⟩
theorem zw_1208 : Cond.code yX12_plainTells cX12_plainTells 2 (some .int) ∈ zT := zT_t (i := 1208) (by decide +kernel) (by decide +kernel)
theorem co_X12_plainTells : zCo yX12_plainTells cX12_plainTells 2 (some .int) 1 := ⟨zw_1208, zw_6, by decide +kernel, by decide +kernel, by decide +kernel⟩
theorem zw_1205 : Cond.methodLink "LowWaterModel" 239 yX12_plainTells ∈ zT := zT_t (i := 1205) (by decide +kernel) (by decide +kernel)
theorem zw_1207 : Cond.instanceMethod yX12_plainTells ∈ zT := zT_t (i := 1207) (by decide +kernel) (by decide +kernel)
theorem zw_s55 : Cond.selects "LowWaterModel" yX12_plainTells yX12_plainTells ∈ zT := zT_s (i := 55) (by decide +kernel) (by decide +kernel)
theorem k_X12_239 : Cond.methodLink "LowWaterModel" 239 yX12_plainTells ∈ zT ∧ Cond.instanceMethod yX12_plainTells ∈ zT ∧ Cond.selects yX12_plainTells.cls yX12_plainTells yX12_plainTells ∈ zT := ⟨zw_1205, zw_1207, zw_s55⟩
theorem zw_1204 : Cond.code yX12_tellsActs cX12_tellsActs 3 (some .int) ∈ zT := zT_t (i := 1204) (by decide +kernel) (by decide +kernel)
theorem co_X12_tellsActs : zCo yX12_tellsActs cX12_tellsActs 3 (some .int) 1 := ⟨zw_1204, zw_6, by decide +kernel, by decide +kernel, by decide +kernel⟩
theorem zw_1201 : Cond.methodLink "LowWaterModel" 242 yX12_tellsActs ∈ zT := zT_t (i := 1201) (by decide +kernel) (by decide +kernel)
theorem zw_1203 : Cond.instanceMethod yX12_tellsActs ∈ zT := zT_t (i := 1203) (by decide +kernel) (by decide +kernel)
theorem zw_s54 : Cond.selects "LowWaterModel" yX12_tellsActs yX12_tellsActs ∈ zT := zT_s (i := 54) (by decide +kernel) (by decide +kernel)
theorem k_X12_242 : Cond.methodLink "LowWaterModel" 242 yX12_tellsActs ∈ zT ∧ Cond.instanceMethod yX12_tellsActs ∈ zT ∧ Cond.selects yX12_tellsActs.cls yX12_tellsActs yX12_tellsActs ∈ zT := ⟨zw_1201, zw_1203, zw_s54⟩
theorem zw_857 : Cond.fieldLink "LowWaterModel" 245 "LowWaterModel" "hasImage" "Z" ∈ zT := zT_t (i := 857) (by decide +kernel) (by decide +kernel)
theorem f_X12_245 : zFL "LowWaterModel" 245 12 3 false true .boolean := ⟨RX12, "LowWaterModel", TX12, 24, tyX12, rfl, by decide, in_X12, tyX12_ok, nmX12, rfl, rfl, (fun _ => rfl), Or.inl zw_857, Or.inl rfl⟩
theorem zw_606 : Cond.constant "java/lang/Integer" 265 1431655765 ∈ zT := zT_t (i := 606) (by decide +kernel) (by decide +kernel)
theorem cn_J6_265 : Cond.constant "java/lang/Integer" 265 1431655765 ∈ zT := zw_606
theorem zw_607 : Cond.constant "java/lang/Integer" 266 858993459 ∈ zT := zT_t (i := 607) (by decide +kernel) (by decide +kernel)
theorem cn_J6_266 : Cond.constant "java/lang/Integer" 266 858993459 ∈ zT := zw_607
theorem zw_608 : Cond.constant "java/lang/Integer" 267 252645135 ∈ zT := zT_t (i := 608) (by decide +kernel) (by decide +kernel)
theorem cn_J6_267 : Cond.constant "java/lang/Integer" 267 252645135 ∈ zT := zw_608
theorem zw_230 : Cond.code yJ0_coder_7d493 cJ0_coder_7d493 1 (some .byte) ∈ zT := zT_t (i := 230) (by decide +kernel) (by decide +kernel)
theorem co_J0_coder_7d493 : zCo yJ0_coder_7d493 cJ0_coder_7d493 1 (some .byte) 0 := ⟨zw_230, zw_8, by decide +kernel, by decide +kernel, by decide +kernel⟩
theorem zw_227 : Cond.methodLink "java/lang/String" 335 yJ0_coder_7d493 ∈ zT := zT_t (i := 227) (by decide +kernel) (by decide +kernel)
theorem zw_228 : Cond.instanceMethod yJ0_coder_7d493 ∈ zT := zT_t (i := 228) (by decide +kernel) (by decide +kernel)
theorem zw_229 : Cond.selects "java/lang/String" yJ0_coder_7d493 yJ0_coder_7d493 ∈ zT := zT_t (i := 229) (by decide +kernel) (by decide +kernel)
theorem k_J0_335 : Cond.methodLink "java/lang/String" 335 yJ0_coder_7d493 ∈ zT ∧ Cond.instanceMethod yJ0_coder_7d493 ∈ zT ∧ Cond.selects yJ0_coder_7d493.cls yJ0_coder_7d493 yJ0_coder_7d493 ∈ zT := ⟨zw_227, zw_228, zw_229⟩
theorem zw_240 : Cond.code yJ0_isLatin1_aae02 cJ0_isLatin1_aae02 1 (some .boolean) ∈ zT := zT_t (i := 240) (by decide +kernel) (by decide +kernel)
theorem co_J0_isLatin1_aae02 : zCo yJ0_isLatin1_aae02 cJ0_isLatin1_aae02 1 (some .boolean) 0 := ⟨zw_240, zw_8, by decide +kernel, by decide +kernel, by decide +kernel⟩
theorem zw_237 : Cond.methodLink "java/lang/String" 492 yJ0_isLatin1_aae02 ∈ zT := zT_t (i := 237) (by decide +kernel) (by decide +kernel)
theorem zw_238 : Cond.instanceMethod yJ0_isLatin1_aae02 ∈ zT := zT_t (i := 238) (by decide +kernel) (by decide +kernel)
theorem zw_239 : Cond.selects "java/lang/String" yJ0_isLatin1_aae02 yJ0_isLatin1_aae02 ∈ zT := zT_t (i := 239) (by decide +kernel) (by decide +kernel)
theorem k_J0_492 : Cond.methodLink "java/lang/String" 492 yJ0_isLatin1_aae02 ∈ zT ∧ Cond.instanceMethod yJ0_isLatin1_aae02 ∈ zT ∧ Cond.selects yJ0_isLatin1_aae02.cls yJ0_isLatin1_aae02 yJ0_isLatin1_aae02 ∈ zT := ⟨zw_237, zw_238, zw_239⟩
theorem zw_243 : Cond.code yJ1_charAt_3b067 cJ1_charAt_3b067 2 (some .char) ∈ zT := zT_t (i := 243) (by decide +kernel) (by decide +kernel)
theorem zw_9 : Cond.initialized "java/lang/StringLatin1" ∈ zT := zT_t (i := 9) (by decide +kernel) (by decide +kernel)
theorem co_J1_charAt_3b067 : zCo yJ1_charAt_3b067 cJ1_charAt_3b067 2 (some .char) 2 := ⟨zw_243, zw_9, by decide +kernel, by decide +kernel, by decide +kernel⟩
theorem zw_241 : Cond.methodLink "java/lang/String" 495 yJ1_charAt_3b067 ∈ zT := zT_t (i := 241) (by decide +kernel) (by decide +kernel)
theorem zw_242 : Cond.static yJ1_charAt_3b067 ∈ zT := zT_t (i := 242) (by decide +kernel) (by decide +kernel)
theorem k_J0_495 : Cond.methodLink "java/lang/String" 495 yJ1_charAt_3b067 ∈ zT ∧ Cond.static yJ1_charAt_3b067 ∈ zT := ⟨zw_241, zw_242⟩
theorem zw_254 : Cond.code yJ2_charAt_3b067 cJ2_charAt_3b067 2 (some .char) ∈ zT := zT_t (i := 254) (by decide +kernel) (by decide +kernel)
theorem zw_11 : Cond.initialized "java/lang/StringUTF16" ∈ zT := zT_t (i := 11) (by decide +kernel) (by decide +kernel)
theorem co_J2_charAt_3b067 : zCo yJ2_charAt_3b067 cJ2_charAt_3b067 2 (some .char) 2 := ⟨zw_254, zw_11, by decide +kernel, by decide +kernel, by decide +kernel⟩
theorem zw_252 : Cond.methodLink "java/lang/String" 498 yJ2_charAt_3b067 ∈ zT := zT_t (i := 252) (by decide +kernel) (by decide +kernel)
theorem zw_253 : Cond.static yJ2_charAt_3b067 ∈ zT := zT_t (i := 253) (by decide +kernel) (by decide +kernel)
theorem k_J0_498 : Cond.methodLink "java/lang/String" 498 yJ2_charAt_3b067 ∈ zT ∧ Cond.static yJ2_charAt_3b067 ∈ zT := ⟨zw_252, zw_253⟩
theorem zw_251 : Cond.code yJ3_checkIndex_8e157 cJ3_checkIndex_8e157 3 (some .int) ∈ zT := zT_t (i := 251) (by decide +kernel) (by decide +kernel)
theorem zw_10 : Cond.initialized "jdk/internal/util/Preconditions" ∈ zT := zT_t (i := 10) (by decide +kernel) (by decide +kernel)
theorem co_J3_checkIndex_8e157 : zCo yJ3_checkIndex_8e157 cJ3_checkIndex_8e157 3 (some .int) 3 := ⟨zw_251, zw_10, by decide +kernel, by decide +kernel, by decide +kernel⟩
theorem zw_249 : Cond.methodLink "java/lang/String" 1059 yJ3_checkIndex_8e157 ∈ zT := zT_t (i := 249) (by decide +kernel) (by decide +kernel)
theorem zw_250 : Cond.static yJ3_checkIndex_8e157 ∈ zT := zT_t (i := 250) (by decide +kernel) (by decide +kernel)
theorem k_J0_1059 : Cond.methodLink "java/lang/String" 1059 yJ3_checkIndex_8e157 ∈ zT ∧ Cond.static yJ3_checkIndex_8e157 ∈ zT := ⟨zw_249, zw_250⟩
theorem zw_246 : Cond.code yJ0_checkIndex_df160 cJ0_checkIndex_df160 2 none ∈ zT := zT_t (i := 246) (by decide +kernel) (by decide +kernel)
theorem co_J0_checkIndex_df160 : zCo yJ0_checkIndex_df160 cJ0_checkIndex_df160 2 none 2 := ⟨zw_246, zw_8, by decide +kernel, by decide +kernel, by decide +kernel⟩
theorem zw_244 : Cond.methodLink "java/lang/StringLatin1" 9 yJ0_checkIndex_df160 ∈ zT := zT_t (i := 244) (by decide +kernel) (by decide +kernel)
theorem zw_245 : Cond.static yJ0_checkIndex_df160 ∈ zT := zT_t (i := 245) (by decide +kernel) (by decide +kernel)
theorem k_J1_9 : Cond.methodLink "java/lang/StringLatin1" 9 yJ0_checkIndex_df160 ∈ zT ∧ Cond.static yJ0_checkIndex_df160 ∈ zT := ⟨zw_244, zw_245⟩
theorem zw_260 : Cond.code yJ2_length_9d52b cJ2_length_9d52b 1 (some .int) ∈ zT := zT_t (i := 260) (by decide +kernel) (by decide +kernel)
theorem co_J2_length_9d52b : zCo yJ2_length_9d52b cJ2_length_9d52b 1 (some .int) 1 := ⟨zw_260, zw_11, by decide +kernel, by decide +kernel, by decide +kernel⟩
theorem zw_258 : Cond.methodLink "java/lang/StringUTF16" 48 yJ2_length_9d52b ∈ zT := zT_t (i := 258) (by decide +kernel) (by decide +kernel)
theorem zw_259 : Cond.static yJ2_length_9d52b ∈ zT := zT_t (i := 259) (by decide +kernel) (by decide +kernel)
theorem k_J2_48 : Cond.methodLink "java/lang/StringUTF16" 48 yJ2_length_9d52b ∈ zT ∧ Cond.static yJ2_length_9d52b ∈ zT := ⟨zw_258, zw_259⟩
theorem zw_257 : Cond.code yJ2_checkIndex_2214a cJ2_checkIndex_2214a 2 none ∈ zT := zT_t (i := 257) (by decide +kernel) (by decide +kernel)
theorem co_J2_checkIndex_2214a : zCo yJ2_checkIndex_2214a cJ2_checkIndex_2214a 2 none 2 := ⟨zw_257, zw_11, by decide +kernel, by decide +kernel, by decide +kernel⟩
theorem zw_255 : Cond.methodLink "java/lang/StringUTF16" 67 yJ2_checkIndex_2214a ∈ zT := zT_t (i := 255) (by decide +kernel) (by decide +kernel)
theorem zw_256 : Cond.static yJ2_checkIndex_2214a ∈ zT := zT_t (i := 256) (by decide +kernel) (by decide +kernel)
theorem k_J2_67 : Cond.methodLink "java/lang/StringUTF16" 67 yJ2_checkIndex_2214a ∈ zT ∧ Cond.static yJ2_checkIndex_2214a ∈ zT := ⟨zw_255, zw_256⟩
theorem zw_264 : Cond.code yJ2_getChar_3b067 cJ2_getChar_3b067 2 (some .char) ∈ zT := zT_t (i := 264) (by decide +kernel) (by decide +kernel)
theorem co_J2_getChar_3b067 : zCo yJ2_getChar_3b067 cJ2_getChar_3b067 2 (some .char) 2 := ⟨zw_264, zw_11, by decide +kernel, by decide +kernel, by decide +kernel⟩
theorem zw_262 : Cond.methodLink "java/lang/StringUTF16" 71 yJ2_getChar_3b067 ∈ zT := zT_t (i := 262) (by decide +kernel) (by decide +kernel)
theorem zw_263 : Cond.static yJ2_getChar_3b067 ∈ zT := zT_t (i := 263) (by decide +kernel) (by decide +kernel)
theorem k_J2_71 : Cond.methodLink "java/lang/StringUTF16" 71 yJ2_getChar_3b067 ∈ zT ∧ Cond.static yJ2_getChar_3b067 ∈ zT := ⟨zw_262, zw_263⟩
theorem zw_261 : Cond.methodLink "java/lang/StringUTF16" 414 yJ0_checkIndex_df160 ∈ zT := zT_t (i := 261) (by decide +kernel) (by decide +kernel)
theorem k_J2_414 : Cond.methodLink "java/lang/StringUTF16" 414 yJ0_checkIndex_df160 ∈ zT ∧ Cond.static yJ0_checkIndex_df160 ∈ zT := ⟨zw_261, zw_245⟩
theorem zw_22 : Cond.classLink "LowWaterLaw" 7 "LowWater" ∈ zT := zT_t (i := 22) (by decide +kernel) (by decide +kernel)
theorem zw_23 : Cond.instantiable "LowWater" 8 ∈ zT := zT_t (i := 23) (by decide +kernel) (by decide +kernel)
theorem nw_L_7 : zNW "LowWaterLaw" 7 11 8 [.null, .null, .int 0, .null, .null, .null, .null, .null] := ⟨RX11, TX11, tyX11, rfl, in_X11, tyX11_ok, zw_22, zw_23, zw_1, by decide +kernel⟩
theorem zw_26 : Cond.code yX11_init cX11_init 1 none ∈ zT := zT_t (i := 26) (by decide +kernel) (by decide +kernel)
theorem co_X11_init : zCo yX11_init cX11_init 1 none 0 := ⟨zw_26, zw_1, by decide +kernel, by decide +kernel, by decide +kernel⟩
theorem zw_24 : Cond.methodLink "LowWaterLaw" 9 yX11_init ∈ zT := zT_t (i := 24) (by decide +kernel) (by decide +kernel)
theorem zw_25 : Cond.instanceMethod yX11_init ∈ zT := zT_t (i := 25) (by decide +kernel) (by decide +kernel)
theorem k_L_9 : Cond.methodLink "LowWaterLaw" 9 yX11_init ∈ zT ∧ Cond.instanceMethod yX11_init ∈ zT := ⟨zw_24, zw_25⟩
theorem zw_849 : Cond.classLink "LowWaterLaw" 10 "LowWaterModel" ∈ zT := zT_t (i := 849) (by decide +kernel) (by decide +kernel)
theorem zw_850 : Cond.instantiable "LowWaterModel" 24 ∈ zT := zT_t (i := 850) (by decide +kernel) (by decide +kernel)
theorem nw_L_10 : zNW "LowWaterLaw" 10 12 24 [.int 0, .null, .null, .int 0, .int 0, .int 0, .int 0, .int 0, .int 0, .null, .null, .int 0, .int 0, .null, .int 0, .null, .null, .null, .int 0, .null, .int 0, .int 0, .int 0, .int 0] := ⟨RX12, TX12, tyX12, rfl, in_X12, tyX12_ok, zw_849, zw_850, zw_6, by decide +kernel⟩
theorem zw_853 : Cond.code yX12_init cX12_init 1 none ∈ zT := zT_t (i := 853) (by decide +kernel) (by decide +kernel)
theorem co_X12_init : zCo yX12_init cX12_init 1 none 0 := ⟨zw_853, zw_6, by decide +kernel, by decide +kernel, by decide +kernel⟩
theorem zw_851 : Cond.methodLink "LowWaterLaw" 12 yX12_init ∈ zT := zT_t (i := 851) (by decide +kernel) (by decide +kernel)
theorem zw_852 : Cond.instanceMethod yX12_init ∈ zT := zT_t (i := 852) (by decide +kernel) (by decide +kernel)
theorem k_L_12 : Cond.methodLink "LowWaterLaw" 12 yX12_init ∈ zT ∧ Cond.instanceMethod yX12_init ∈ zT := ⟨zw_851, zw_852⟩
theorem zw_192 : Cond.code yX11_feed cX11_feed 2 (some .int) ∈ zT := zT_t (i := 192) (by decide +kernel) (by decide +kernel)
theorem co_X11_feed : zCo yX11_feed cX11_feed 2 (some .int) 1 := ⟨zw_192, zw_1, by decide +kernel, by decide +kernel, by decide +kernel⟩
theorem zw_189 : Cond.methodLink "LowWaterLaw" 13 yX11_feed ∈ zT := zT_t (i := 189) (by decide +kernel) (by decide +kernel)
theorem zw_190 : Cond.instanceMethod yX11_feed ∈ zT := zT_t (i := 190) (by decide +kernel) (by decide +kernel)
theorem zw_191 : Cond.selects "LowWater" yX11_feed yX11_feed ∈ zT := zT_t (i := 191) (by decide +kernel) (by decide +kernel)
theorem k_L_13 : Cond.methodLink "LowWaterLaw" 13 yX11_feed ∈ zT ∧ Cond.instanceMethod yX11_feed ∈ zT ∧ Cond.selects yX11_feed.cls yX11_feed yX11_feed ∈ zT := ⟨zw_189, zw_190, zw_191⟩
theorem zw_931 : Cond.code yX12_feed cX12_feed 2 (some .int) ∈ zT := zT_t (i := 931) (by decide +kernel) (by decide +kernel)
theorem co_X12_feed : zCo yX12_feed cX12_feed 2 (some .int) 1 := ⟨zw_931, zw_6, by decide +kernel, by decide +kernel, by decide +kernel⟩
theorem zw_928 : Cond.methodLink "LowWaterLaw" 17 yX12_feed ∈ zT := zT_t (i := 928) (by decide +kernel) (by decide +kernel)
theorem zw_929 : Cond.instanceMethod yX12_feed ∈ zT := zT_t (i := 929) (by decide +kernel) (by decide +kernel)
theorem zw_930 : Cond.selects "LowWaterModel" yX12_feed yX12_feed ∈ zT := zT_t (i := 930) (by decide +kernel) (by decide +kernel)
theorem k_L_17 : Cond.methodLink "LowWaterLaw" 17 yX12_feed ∈ zT ∧ Cond.instanceMethod yX12_feed ∈ zT ∧ Cond.selects yX12_feed.cls yX12_feed yX12_feed ∈ zT := ⟨zw_928, zw_929, zw_930⟩
theorem zw_204 : Cond.code yX11_cave cX11_cave 3 (some .int) ∈ zT := zT_t (i := 204) (by decide +kernel) (by decide +kernel)
theorem co_X11_cave : zCo yX11_cave cX11_cave 3 (some .int) 0 := ⟨zw_204, zw_1, by decide +kernel, by decide +kernel, by decide +kernel⟩
theorem zw_201 : Cond.methodLink "LowWaterLaw" 18 yX11_cave ∈ zT := zT_t (i := 201) (by decide +kernel) (by decide +kernel)
theorem zw_202 : Cond.instanceMethod yX11_cave ∈ zT := zT_t (i := 202) (by decide +kernel) (by decide +kernel)
theorem zw_203 : Cond.selects "LowWater" yX11_cave yX11_cave ∈ zT := zT_t (i := 203) (by decide +kernel) (by decide +kernel)
theorem k_L_18 : Cond.methodLink "LowWaterLaw" 18 yX11_cave ∈ zT ∧ Cond.instanceMethod yX11_cave ∈ zT ∧ Cond.selects yX11_cave.cls yX11_cave yX11_cave ∈ zT := ⟨zw_201, zw_202, zw_203⟩
theorem zw_938 : Cond.code yX12_cave cX12_cave 2 (some .int) ∈ zT := zT_t (i := 938) (by decide +kernel) (by decide +kernel)
theorem co_X12_cave : zCo yX12_cave cX12_cave 2 (some .int) 0 := ⟨zw_938, zw_6, by decide +kernel, by decide +kernel, by decide +kernel⟩
theorem zw_935 : Cond.methodLink "LowWaterLaw" 22 yX12_cave ∈ zT := zT_t (i := 935) (by decide +kernel) (by decide +kernel)
theorem zw_936 : Cond.instanceMethod yX12_cave ∈ zT := zT_t (i := 936) (by decide +kernel) (by decide +kernel)
theorem zw_937 : Cond.selects "LowWaterModel" yX12_cave yX12_cave ∈ zT := zT_t (i := 937) (by decide +kernel) (by decide +kernel)
theorem k_L_22 : Cond.methodLink "LowWaterLaw" 22 yX12_cave ∈ zT ∧ Cond.instanceMethod yX12_cave ∈ zT ∧ Cond.selects yX12_cave.cls yX12_cave yX12_cave ∈ zT := ⟨zw_935, zw_936, zw_937⟩
theorem zw_307 : Cond.code yX11_slate cX11_slate 3 (some .int) ∈ zT := zT_t (i := 307) (by decide +kernel) (by decide +kernel)
theorem co_X11_slate : zCo yX11_slate cX11_slate 3 (some .int) 2 := ⟨zw_307, zw_1, by decide +kernel, by decide +kernel, by decide +kernel⟩
theorem zw_304 : Cond.methodLink "LowWaterLaw" 23 yX11_slate ∈ zT := zT_t (i := 304) (by decide +kernel) (by decide +kernel)
theorem zw_305 : Cond.instanceMethod yX11_slate ∈ zT := zT_t (i := 305) (by decide +kernel) (by decide +kernel)
theorem zw_306 : Cond.selects "LowWater" yX11_slate yX11_slate ∈ zT := zT_t (i := 306) (by decide +kernel) (by decide +kernel)
theorem k_L_23 : Cond.methodLink "LowWaterLaw" 23 yX11_slate ∈ zT ∧ Cond.instanceMethod yX11_slate ∈ zT ∧ Cond.selects yX11_slate.cls yX11_slate yX11_slate ∈ zT := ⟨zw_304, zw_305, zw_306⟩
theorem zw_993 : Cond.code yX12_slate cX12_slate 4 (some .int) ∈ zT := zT_t (i := 993) (by decide +kernel) (by decide +kernel)
theorem co_X12_slate : zCo yX12_slate cX12_slate 4 (some .int) 2 := ⟨zw_993, zw_6, by decide +kernel, by decide +kernel, by decide +kernel⟩
theorem zw_990 : Cond.methodLink "LowWaterLaw" 27 yX12_slate ∈ zT := zT_t (i := 990) (by decide +kernel) (by decide +kernel)
theorem zw_991 : Cond.instanceMethod yX12_slate ∈ zT := zT_t (i := 991) (by decide +kernel) (by decide +kernel)
theorem zw_992 : Cond.selects "LowWaterModel" yX12_slate yX12_slate ∈ zT := zT_t (i := 992) (by decide +kernel) (by decide +kernel)
theorem k_L_27 : Cond.methodLink "LowWaterLaw" 27 yX12_slate ∈ zT ∧ Cond.instanceMethod yX12_slate ∈ zT ∧ Cond.selects yX12_slate.cls yX12_slate yX12_slate ∈ zT := ⟨zw_990, zw_991, zw_992⟩
theorem zw_314 : Cond.code yX11_of cX11_of 3 (some .int) ∈ zT := zT_t (i := 314) (by decide +kernel) (by decide +kernel)
theorem co_X11_of : zCo yX11_of cX11_of 3 (some .int) 2 := ⟨zw_314, zw_1, by decide +kernel, by decide +kernel, by decide +kernel⟩
theorem zw_311 : Cond.methodLink "LowWaterLaw" 28 yX11_of ∈ zT := zT_t (i := 311) (by decide +kernel) (by decide +kernel)
theorem zw_312 : Cond.instanceMethod yX11_of ∈ zT := zT_t (i := 312) (by decide +kernel) (by decide +kernel)
theorem zw_313 : Cond.selects "LowWater" yX11_of yX11_of ∈ zT := zT_t (i := 313) (by decide +kernel) (by decide +kernel)
theorem k_L_28 : Cond.methodLink "LowWaterLaw" 28 yX11_of ∈ zT ∧ Cond.instanceMethod yX11_of ∈ zT ∧ Cond.selects yX11_of.cls yX11_of yX11_of ∈ zT := ⟨zw_311, zw_312, zw_313⟩
theorem zw_1000 : Cond.code yX12_of cX12_of 3 (some .int) ∈ zT := zT_t (i := 1000) (by decide +kernel) (by decide +kernel)
theorem co_X12_of : zCo yX12_of cX12_of 3 (some .int) 2 := ⟨zw_1000, zw_6, by decide +kernel, by decide +kernel, by decide +kernel⟩
theorem zw_997 : Cond.methodLink "LowWaterLaw" 31 yX12_of ∈ zT := zT_t (i := 997) (by decide +kernel) (by decide +kernel)
theorem zw_998 : Cond.instanceMethod yX12_of ∈ zT := zT_t (i := 998) (by decide +kernel) (by decide +kernel)
theorem zw_999 : Cond.selects "LowWaterModel" yX12_of yX12_of ∈ zT := zT_t (i := 999) (by decide +kernel) (by decide +kernel)
theorem k_L_31 : Cond.methodLink "LowWaterLaw" 31 yX12_of ∈ zT ∧ Cond.instanceMethod yX12_of ∈ zT ∧ Cond.selects yX12_of.cls yX12_of yX12_of ∈ zT := ⟨zw_997, zw_998, zw_999⟩
theorem zw_329 : Cond.code yX11_put cX11_put 4 (some .int) ∈ zT := zT_t (i := 329) (by decide +kernel) (by decide +kernel)
theorem co_X11_put : zCo yX11_put cX11_put 4 (some .int) 2 := ⟨zw_329, zw_1, by decide +kernel, by decide +kernel, by decide +kernel⟩
theorem zw_326 : Cond.methodLink "LowWaterLaw" 32 yX11_put ∈ zT := zT_t (i := 326) (by decide +kernel) (by decide +kernel)
theorem zw_327 : Cond.instanceMethod yX11_put ∈ zT := zT_t (i := 327) (by decide +kernel) (by decide +kernel)
theorem zw_328 : Cond.selects "LowWater" yX11_put yX11_put ∈ zT := zT_t (i := 328) (by decide +kernel) (by decide +kernel)
theorem k_L_32 : Cond.methodLink "LowWaterLaw" 32 yX11_put ∈ zT ∧ Cond.instanceMethod yX11_put ∈ zT ∧ Cond.selects yX11_put.cls yX11_put yX11_put ∈ zT := ⟨zw_326, zw_327, zw_328⟩
theorem zw_1008 : Cond.code yX12_put cX12_put 4 (some .int) ∈ zT := zT_t (i := 1008) (by decide +kernel) (by decide +kernel)
theorem co_X12_put : zCo yX12_put cX12_put 4 (some .int) 2 := ⟨zw_1008, zw_6, by decide +kernel, by decide +kernel, by decide +kernel⟩
theorem zw_1005 : Cond.methodLink "LowWaterLaw" 35 yX12_put ∈ zT := zT_t (i := 1005) (by decide +kernel) (by decide +kernel)
theorem zw_1006 : Cond.instanceMethod yX12_put ∈ zT := zT_t (i := 1006) (by decide +kernel) (by decide +kernel)
theorem zw_1007 : Cond.selects "LowWaterModel" yX12_put yX12_put ∈ zT := zT_t (i := 1007) (by decide +kernel) (by decide +kernel)
theorem k_L_35 : Cond.methodLink "LowWaterLaw" 35 yX12_put ∈ zT ∧ Cond.instanceMethod yX12_put ∈ zT ∧ Cond.selects yX12_put.cls yX12_put yX12_put ∈ zT := ⟨zw_1005, zw_1006, zw_1007⟩
theorem zw_337 : Cond.code yX11_reader cX11_reader 4 (some .int) ∈ zT := zT_t (i := 337) (by decide +kernel) (by decide +kernel)
theorem co_X11_reader : zCo yX11_reader cX11_reader 4 (some .int) 2 := ⟨zw_337, zw_1, by decide +kernel, by decide +kernel, by decide +kernel⟩
theorem zw_334 : Cond.methodLink "LowWaterLaw" 36 yX11_reader ∈ zT := zT_t (i := 334) (by decide +kernel) (by decide +kernel)
theorem zw_335 : Cond.instanceMethod yX11_reader ∈ zT := zT_t (i := 335) (by decide +kernel) (by decide +kernel)
theorem zw_336 : Cond.selects "LowWater" yX11_reader yX11_reader ∈ zT := zT_t (i := 336) (by decide +kernel) (by decide +kernel)
theorem k_L_36 : Cond.methodLink "LowWaterLaw" 36 yX11_reader ∈ zT ∧ Cond.instanceMethod yX11_reader ∈ zT ∧ Cond.selects yX11_reader.cls yX11_reader yX11_reader ∈ zT := ⟨zw_334, zw_335, zw_336⟩
theorem zw_1012 : Cond.code yX12_reader cX12_reader 4 (some .int) ∈ zT := zT_t (i := 1012) (by decide +kernel) (by decide +kernel)
theorem co_X12_reader : zCo yX12_reader cX12_reader 4 (some .int) 2 := ⟨zw_1012, zw_6, by decide +kernel, by decide +kernel, by decide +kernel⟩
theorem zw_1009 : Cond.methodLink "LowWaterLaw" 39 yX12_reader ∈ zT := zT_t (i := 1009) (by decide +kernel) (by decide +kernel)
theorem zw_1010 : Cond.instanceMethod yX12_reader ∈ zT := zT_t (i := 1010) (by decide +kernel) (by decide +kernel)
theorem zw_1011 : Cond.selects "LowWaterModel" yX12_reader yX12_reader ∈ zT := zT_t (i := 1011) (by decide +kernel) (by decide +kernel)
theorem k_L_39 : Cond.methodLink "LowWaterLaw" 39 yX12_reader ∈ zT ∧ Cond.instanceMethod yX12_reader ∈ zT ∧ Cond.selects yX12_reader.cls yX12_reader yX12_reader ∈ zT := ⟨zw_1009, zw_1010, zw_1011⟩
theorem zw_422 : Cond.code yX11_at cX11_at 4 (some .int) ∈ zT := zT_t (i := 422) (by decide +kernel) (by decide +kernel)
theorem co_X11_at : zCo yX11_at cX11_at 4 (some .int) 2 := ⟨zw_422, zw_1, by decide +kernel, by decide +kernel, by decide +kernel⟩
theorem zw_419 : Cond.methodLink "LowWaterLaw" 40 yX11_at ∈ zT := zT_t (i := 419) (by decide +kernel) (by decide +kernel)
theorem zw_420 : Cond.instanceMethod yX11_at ∈ zT := zT_t (i := 420) (by decide +kernel) (by decide +kernel)
theorem zw_421 : Cond.selects "LowWater" yX11_at yX11_at ∈ zT := zT_t (i := 421) (by decide +kernel) (by decide +kernel)
theorem k_L_40 : Cond.methodLink "LowWaterLaw" 40 yX11_at ∈ zT ∧ Cond.instanceMethod yX11_at ∈ zT ∧ Cond.selects yX11_at.cls yX11_at yX11_at ∈ zT := ⟨zw_419, zw_420, zw_421⟩
theorem zw_1016 : Cond.code yX12_at cX12_at 3 (some .int) ∈ zT := zT_t (i := 1016) (by decide +kernel) (by decide +kernel)
theorem co_X12_at : zCo yX12_at cX12_at 3 (some .int) 2 := ⟨zw_1016, zw_6, by decide +kernel, by decide +kernel, by decide +kernel⟩
theorem zw_1013 : Cond.methodLink "LowWaterLaw" 43 yX12_at ∈ zT := zT_t (i := 1013) (by decide +kernel) (by decide +kernel)
theorem zw_1014 : Cond.instanceMethod yX12_at ∈ zT := zT_t (i := 1014) (by decide +kernel) (by decide +kernel)
theorem zw_1015 : Cond.selects "LowWaterModel" yX12_at yX12_at ∈ zT := zT_t (i := 1015) (by decide +kernel) (by decide +kernel)
theorem k_L_43 : Cond.methodLink "LowWaterLaw" 43 yX12_at ∈ zT ∧ Cond.instanceMethod yX12_at ∈ zT ∧ Cond.selects yX12_at.cls yX12_at yX12_at ∈ zT := ⟨zw_1013, zw_1014, zw_1015⟩
theorem zw_453 : Cond.code yX11_needs cX11_needs 4 (some .int) ∈ zT := zT_t (i := 453) (by decide +kernel) (by decide +kernel)
theorem co_X11_needs : zCo yX11_needs cX11_needs 4 (some .int) 2 := ⟨zw_453, zw_1, by decide +kernel, by decide +kernel, by decide +kernel⟩
theorem zw_450 : Cond.methodLink "LowWaterLaw" 44 yX11_needs ∈ zT := zT_t (i := 450) (by decide +kernel) (by decide +kernel)
theorem zw_451 : Cond.instanceMethod yX11_needs ∈ zT := zT_t (i := 451) (by decide +kernel) (by decide +kernel)
theorem zw_452 : Cond.selects "LowWater" yX11_needs yX11_needs ∈ zT := zT_t (i := 452) (by decide +kernel) (by decide +kernel)
theorem k_L_44 : Cond.methodLink "LowWaterLaw" 44 yX11_needs ∈ zT ∧ Cond.instanceMethod yX11_needs ∈ zT ∧ Cond.selects yX11_needs.cls yX11_needs yX11_needs ∈ zT := ⟨zw_450, zw_451, zw_452⟩
theorem zw_1024 : Cond.code yX12_needs cX12_needs 3 (some .int) ∈ zT := zT_t (i := 1024) (by decide +kernel) (by decide +kernel)
theorem co_X12_needs : zCo yX12_needs cX12_needs 3 (some .int) 2 := ⟨zw_1024, zw_6, by decide +kernel, by decide +kernel, by decide +kernel⟩
theorem zw_1021 : Cond.methodLink "LowWaterLaw" 47 yX12_needs ∈ zT := zT_t (i := 1021) (by decide +kernel) (by decide +kernel)
theorem zw_1022 : Cond.instanceMethod yX12_needs ∈ zT := zT_t (i := 1022) (by decide +kernel) (by decide +kernel)
theorem zw_1023 : Cond.selects "LowWaterModel" yX12_needs yX12_needs ∈ zT := zT_t (i := 1023) (by decide +kernel) (by decide +kernel)
theorem k_L_47 : Cond.methodLink "LowWaterLaw" 47 yX12_needs ∈ zT ∧ Cond.instanceMethod yX12_needs ∈ zT ∧ Cond.selects yX12_needs.cls yX12_needs yX12_needs ∈ zT := ⟨zw_1021, zw_1022, zw_1023⟩
theorem zw_478 : Cond.code yX11_hours cX11_hours 2 (some .int) ∈ zT := zT_t (i := 478) (by decide +kernel) (by decide +kernel)
theorem co_X11_hours : zCo yX11_hours cX11_hours 2 (some .int) 1 := ⟨zw_478, zw_1, by decide +kernel, by decide +kernel, by decide +kernel⟩
theorem zw_475 : Cond.methodLink "LowWaterLaw" 48 yX11_hours ∈ zT := zT_t (i := 475) (by decide +kernel) (by decide +kernel)
theorem zw_476 : Cond.instanceMethod yX11_hours ∈ zT := zT_t (i := 476) (by decide +kernel) (by decide +kernel)
theorem zw_477 : Cond.selects "LowWater" yX11_hours yX11_hours ∈ zT := zT_t (i := 477) (by decide +kernel) (by decide +kernel)
theorem k_L_48 : Cond.methodLink "LowWaterLaw" 48 yX11_hours ∈ zT ∧ Cond.instanceMethod yX11_hours ∈ zT ∧ Cond.selects yX11_hours.cls yX11_hours yX11_hours ∈ zT := ⟨zw_475, zw_476, zw_477⟩
theorem zw_1032 : Cond.code yX12_hours cX12_hours 2 (some .int) ∈ zT := zT_t (i := 1032) (by decide +kernel) (by decide +kernel)
theorem co_X12_hours : zCo yX12_hours cX12_hours 2 (some .int) 1 := ⟨zw_1032, zw_6, by decide +kernel, by decide +kernel, by decide +kernel⟩
theorem zw_1029 : Cond.methodLink "LowWaterLaw" 51 yX12_hours ∈ zT := zT_t (i := 1029) (by decide +kernel) (by decide +kernel)
theorem zw_1030 : Cond.instanceMethod yX12_hours ∈ zT := zT_t (i := 1030) (by decide +kernel) (by decide +kernel)
theorem zw_1031 : Cond.selects "LowWaterModel" yX12_hours yX12_hours ∈ zT := zT_t (i := 1031) (by decide +kernel) (by decide +kernel)
theorem k_L_51 : Cond.methodLink "LowWaterLaw" 51 yX12_hours ∈ zT ∧ Cond.instanceMethod yX12_hours ∈ zT ∧ Cond.selects yX12_hours.cls yX12_hours yX12_hours ∈ zT := ⟨zw_1029, zw_1030, zw_1031⟩
theorem zw_485 : Cond.code yX11_told cX11_told 2 (some .int) ∈ zT := zT_t (i := 485) (by decide +kernel) (by decide +kernel)
theorem co_X11_told : zCo yX11_told cX11_told 2 (some .int) 1 := ⟨zw_485, zw_1, by decide +kernel, by decide +kernel, by decide +kernel⟩
theorem zw_482 : Cond.methodLink "LowWaterLaw" 52 yX11_told ∈ zT := zT_t (i := 482) (by decide +kernel) (by decide +kernel)
theorem zw_483 : Cond.instanceMethod yX11_told ∈ zT := zT_t (i := 483) (by decide +kernel) (by decide +kernel)
theorem zw_484 : Cond.selects "LowWater" yX11_told yX11_told ∈ zT := zT_t (i := 484) (by decide +kernel) (by decide +kernel)
theorem k_L_52 : Cond.methodLink "LowWaterLaw" 52 yX11_told ∈ zT ∧ Cond.instanceMethod yX11_told ∈ zT ∧ Cond.selects yX11_told.cls yX11_told yX11_told ∈ zT := ⟨zw_482, zw_483, zw_484⟩
theorem zw_1036 : Cond.code yX12_told cX12_told 3 (some .int) ∈ zT := zT_t (i := 1036) (by decide +kernel) (by decide +kernel)
theorem co_X12_told : zCo yX12_told cX12_told 3 (some .int) 1 := ⟨zw_1036, zw_6, by decide +kernel, by decide +kernel, by decide +kernel⟩
theorem zw_1033 : Cond.methodLink "LowWaterLaw" 55 yX12_told ∈ zT := zT_t (i := 1033) (by decide +kernel) (by decide +kernel)
theorem zw_1034 : Cond.instanceMethod yX12_told ∈ zT := zT_t (i := 1034) (by decide +kernel) (by decide +kernel)
theorem zw_1035 : Cond.selects "LowWaterModel" yX12_told yX12_told ∈ zT := zT_t (i := 1035) (by decide +kernel) (by decide +kernel)
theorem k_L_55 : Cond.methodLink "LowWaterLaw" 55 yX12_told ∈ zT ∧ Cond.instanceMethod yX12_told ∈ zT ∧ Cond.selects yX12_told.cls yX12_told yX12_told ∈ zT := ⟨zw_1033, zw_1034, zw_1035⟩
theorem zw_518 : Cond.code yX11_level cX11_level 2 (some .int) ∈ zT := zT_t (i := 518) (by decide +kernel) (by decide +kernel)
theorem co_X11_level : zCo yX11_level cX11_level 2 (some .int) 1 := ⟨zw_518, zw_1, by decide +kernel, by decide +kernel, by decide +kernel⟩
theorem zw_515 : Cond.methodLink "LowWaterLaw" 56 yX11_level ∈ zT := zT_t (i := 515) (by decide +kernel) (by decide +kernel)
theorem zw_516 : Cond.instanceMethod yX11_level ∈ zT := zT_t (i := 516) (by decide +kernel) (by decide +kernel)
theorem zw_517 : Cond.selects "LowWater" yX11_level yX11_level ∈ zT := zT_t (i := 517) (by decide +kernel) (by decide +kernel)
theorem k_L_56 : Cond.methodLink "LowWaterLaw" 56 yX11_level ∈ zT ∧ Cond.instanceMethod yX11_level ∈ zT ∧ Cond.selects yX11_level.cls yX11_level yX11_level ∈ zT := ⟨zw_515, zw_516, zw_517⟩
theorem zw_1048 : Cond.code yX12_level cX12_level 2 (some .int) ∈ zT := zT_t (i := 1048) (by decide +kernel) (by decide +kernel)
theorem co_X12_level : zCo yX12_level cX12_level 2 (some .int) 1 := ⟨zw_1048, zw_6, by decide +kernel, by decide +kernel, by decide +kernel⟩
theorem zw_1045 : Cond.methodLink "LowWaterLaw" 59 yX12_level ∈ zT := zT_t (i := 1045) (by decide +kernel) (by decide +kernel)
theorem zw_1046 : Cond.instanceMethod yX12_level ∈ zT := zT_t (i := 1046) (by decide +kernel) (by decide +kernel)
theorem zw_1047 : Cond.selects "LowWaterModel" yX12_level yX12_level ∈ zT := zT_t (i := 1047) (by decide +kernel) (by decide +kernel)
theorem k_L_59 : Cond.methodLink "LowWaterLaw" 59 yX12_level ∈ zT ∧ Cond.instanceMethod yX12_level ∈ zT ∧ Cond.selects yX12_level.cls yX12_level yX12_level ∈ zT := ⟨zw_1045, zw_1046, zw_1047⟩
theorem zw_522 : Cond.code yX11_soon cX11_soon 4 (some .int) ∈ zT := zT_t (i := 522) (by decide +kernel) (by decide +kernel)
theorem co_X11_soon : zCo yX11_soon cX11_soon 4 (some .int) 2 := ⟨zw_522, zw_1, by decide +kernel, by decide +kernel, by decide +kernel⟩
theorem zw_519 : Cond.methodLink "LowWaterLaw" 60 yX11_soon ∈ zT := zT_t (i := 519) (by decide +kernel) (by decide +kernel)
theorem zw_520 : Cond.instanceMethod yX11_soon ∈ zT := zT_t (i := 520) (by decide +kernel) (by decide +kernel)
theorem zw_521 : Cond.selects "LowWater" yX11_soon yX11_soon ∈ zT := zT_t (i := 521) (by decide +kernel) (by decide +kernel)
theorem k_L_60 : Cond.methodLink "LowWaterLaw" 60 yX11_soon ∈ zT ∧ Cond.instanceMethod yX11_soon ∈ zT ∧ Cond.selects yX11_soon.cls yX11_soon yX11_soon ∈ zT := ⟨zw_519, zw_520, zw_521⟩
theorem zw_1052 : Cond.code yX12_soon cX12_soon 3 (some .int) ∈ zT := zT_t (i := 1052) (by decide +kernel) (by decide +kernel)
theorem co_X12_soon : zCo yX12_soon cX12_soon 3 (some .int) 2 := ⟨zw_1052, zw_6, by decide +kernel, by decide +kernel, by decide +kernel⟩
theorem zw_1049 : Cond.methodLink "LowWaterLaw" 63 yX12_soon ∈ zT := zT_t (i := 1049) (by decide +kernel) (by decide +kernel)
theorem zw_1050 : Cond.instanceMethod yX12_soon ∈ zT := zT_t (i := 1050) (by decide +kernel) (by decide +kernel)
theorem zw_1051 : Cond.selects "LowWaterModel" yX12_soon yX12_soon ∈ zT := zT_t (i := 1051) (by decide +kernel) (by decide +kernel)
theorem k_L_63 : Cond.methodLink "LowWaterLaw" 63 yX12_soon ∈ zT ∧ Cond.instanceMethod yX12_soon ∈ zT ∧ Cond.selects yX12_soon.cls yX12_soon yX12_soon ∈ zT := ⟨zw_1049, zw_1050, zw_1051⟩
theorem zw_571 : Cond.code yX11_set cX11_set 5 (some .int) ∈ zT := zT_t (i := 571) (by decide +kernel) (by decide +kernel)
theorem co_X11_set : zCo yX11_set cX11_set 5 (some .int) 3 := ⟨zw_571, zw_1, by decide +kernel, by decide +kernel, by decide +kernel⟩
theorem zw_568 : Cond.methodLink "LowWaterLaw" 64 yX11_set ∈ zT := zT_t (i := 568) (by decide +kernel) (by decide +kernel)
theorem zw_569 : Cond.instanceMethod yX11_set ∈ zT := zT_t (i := 569) (by decide +kernel) (by decide +kernel)
theorem zw_570 : Cond.selects "LowWater" yX11_set yX11_set ∈ zT := zT_t (i := 570) (by decide +kernel) (by decide +kernel)
theorem k_L_64 : Cond.methodLink "LowWaterLaw" 64 yX11_set ∈ zT ∧ Cond.instanceMethod yX11_set ∈ zT ∧ Cond.selects yX11_set.cls yX11_set yX11_set ∈ zT := ⟨zw_568, zw_569, zw_570⟩
theorem zw_1084 : Cond.code yX12_set cX12_set 5 (some .int) ∈ zT := zT_t (i := 1084) (by decide +kernel) (by decide +kernel)
theorem co_X12_set : zCo yX12_set cX12_set 5 (some .int) 3 := ⟨zw_1084, zw_6, by decide +kernel, by decide +kernel, by decide +kernel⟩
theorem zw_1081 : Cond.methodLink "LowWaterLaw" 68 yX12_set ∈ zT := zT_t (i := 1081) (by decide +kernel) (by decide +kernel)
theorem zw_1082 : Cond.instanceMethod yX12_set ∈ zT := zT_t (i := 1082) (by decide +kernel) (by decide +kernel)
theorem zw_1083 : Cond.selects "LowWaterModel" yX12_set yX12_set ∈ zT := zT_t (i := 1083) (by decide +kernel) (by decide +kernel)
theorem k_L_68 : Cond.methodLink "LowWaterLaw" 68 yX12_set ∈ zT ∧ Cond.instanceMethod yX12_set ∈ zT ∧ Cond.selects yX12_set.cls yX12_set yX12_set ∈ zT := ⟨zw_1081, zw_1082, zw_1083⟩
theorem zw_613 : Cond.code yX11_two cX11_two 11 (some .int) ∈ zT := zT_t (i := 613) (by decide +kernel) (by decide +kernel)
theorem co_X11_two : zCo yX11_two cX11_two 11 (some .int) 4 := ⟨zw_613, zw_1, by decide +kernel, by decide +kernel, by decide +kernel⟩
theorem zw_610 : Cond.methodLink "LowWaterLaw" 69 yX11_two ∈ zT := zT_t (i := 610) (by decide +kernel) (by decide +kernel)
theorem zw_611 : Cond.instanceMethod yX11_two ∈ zT := zT_t (i := 611) (by decide +kernel) (by decide +kernel)
theorem zw_612 : Cond.selects "LowWater" yX11_two yX11_two ∈ zT := zT_t (i := 612) (by decide +kernel) (by decide +kernel)
theorem k_L_69 : Cond.methodLink "LowWaterLaw" 69 yX11_two ∈ zT ∧ Cond.instanceMethod yX11_two ∈ zT ∧ Cond.selects yX11_two.cls yX11_two yX11_two ∈ zT := ⟨zw_610, zw_611, zw_612⟩
theorem zw_1108 : Cond.code yX12_two cX12_two 11 (some .int) ∈ zT := zT_t (i := 1108) (by decide +kernel) (by decide +kernel)
theorem co_X12_two : zCo yX12_two cX12_two 11 (some .int) 4 := ⟨zw_1108, zw_6, by decide +kernel, by decide +kernel, by decide +kernel⟩
theorem zw_1105 : Cond.methodLink "LowWaterLaw" 73 yX12_two ∈ zT := zT_t (i := 1105) (by decide +kernel) (by decide +kernel)
theorem zw_1106 : Cond.instanceMethod yX12_two ∈ zT := zT_t (i := 1106) (by decide +kernel) (by decide +kernel)
theorem zw_1107 : Cond.selects "LowWaterModel" yX12_two yX12_two ∈ zT := zT_t (i := 1107) (by decide +kernel) (by decide +kernel)
theorem k_L_73 : Cond.methodLink "LowWaterLaw" 73 yX12_two ∈ zT ∧ Cond.instanceMethod yX12_two ∈ zT ∧ Cond.selects yX12_two.cls yX12_two yX12_two ∈ zT := ⟨zw_1105, zw_1106, zw_1107⟩
theorem zw_622 : Cond.code yX11_ask cX11_ask 4 (some .int) ∈ zT := zT_t (i := 622) (by decide +kernel) (by decide +kernel)
theorem co_X11_ask : zCo yX11_ask cX11_ask 4 (some .int) 3 := ⟨zw_622, zw_1, by decide +kernel, by decide +kernel, by decide +kernel⟩
theorem zw_619 : Cond.methodLink "LowWaterLaw" 74 yX11_ask ∈ zT := zT_t (i := 619) (by decide +kernel) (by decide +kernel)
theorem zw_620 : Cond.instanceMethod yX11_ask ∈ zT := zT_t (i := 620) (by decide +kernel) (by decide +kernel)
theorem zw_621 : Cond.selects "LowWater" yX11_ask yX11_ask ∈ zT := zT_t (i := 621) (by decide +kernel) (by decide +kernel)
theorem k_L_74 : Cond.methodLink "LowWaterLaw" 74 yX11_ask ∈ zT ∧ Cond.instanceMethod yX11_ask ∈ zT ∧ Cond.selects yX11_ask.cls yX11_ask yX11_ask ∈ zT := ⟨zw_619, zw_620, zw_621⟩
theorem zw_1112 : Cond.code yX12_ask cX12_ask 4 (some .int) ∈ zT := zT_t (i := 1112) (by decide +kernel) (by decide +kernel)
theorem co_X12_ask : zCo yX12_ask cX12_ask 4 (some .int) 3 := ⟨zw_1112, zw_6, by decide +kernel, by decide +kernel, by decide +kernel⟩
theorem zw_1109 : Cond.methodLink "LowWaterLaw" 77 yX12_ask ∈ zT := zT_t (i := 1109) (by decide +kernel) (by decide +kernel)
theorem zw_1110 : Cond.instanceMethod yX12_ask ∈ zT := zT_t (i := 1110) (by decide +kernel) (by decide +kernel)
theorem zw_1111 : Cond.selects "LowWaterModel" yX12_ask yX12_ask ∈ zT := zT_t (i := 1111) (by decide +kernel) (by decide +kernel)
theorem k_L_77 : Cond.methodLink "LowWaterLaw" 77 yX12_ask ∈ zT ∧ Cond.instanceMethod yX12_ask ∈ zT ∧ Cond.selects yX12_ask.cls yX12_ask yX12_ask ∈ zT := ⟨zw_1109, zw_1110, zw_1111⟩
theorem zw_630 : Cond.code yX11_waits cX11_waits 1 (some .int) ∈ zT := zT_t (i := 630) (by decide +kernel) (by decide +kernel)
theorem co_X11_waits : zCo yX11_waits cX11_waits 1 (some .int) 0 := ⟨zw_630, zw_1, by decide +kernel, by decide +kernel, by decide +kernel⟩
theorem zw_627 : Cond.methodLink "LowWaterLaw" 78 yX11_waits ∈ zT := zT_t (i := 627) (by decide +kernel) (by decide +kernel)
theorem zw_628 : Cond.instanceMethod yX11_waits ∈ zT := zT_t (i := 628) (by decide +kernel) (by decide +kernel)
theorem zw_629 : Cond.selects "LowWater" yX11_waits yX11_waits ∈ zT := zT_t (i := 629) (by decide +kernel) (by decide +kernel)
theorem k_L_78 : Cond.methodLink "LowWaterLaw" 78 yX11_waits ∈ zT ∧ Cond.instanceMethod yX11_waits ∈ zT ∧ Cond.selects yX11_waits.cls yX11_waits yX11_waits ∈ zT := ⟨zw_627, zw_628, zw_629⟩
theorem zw_1116 : Cond.code yX12_waits cX12_waits 1 (some .int) ∈ zT := zT_t (i := 1116) (by decide +kernel) (by decide +kernel)
theorem co_X12_waits : zCo yX12_waits cX12_waits 1 (some .int) 0 := ⟨zw_1116, zw_6, by decide +kernel, by decide +kernel, by decide +kernel⟩
theorem zw_1113 : Cond.methodLink "LowWaterLaw" 81 yX12_waits ∈ zT := zT_t (i := 1113) (by decide +kernel) (by decide +kernel)
theorem zw_1114 : Cond.instanceMethod yX12_waits ∈ zT := zT_t (i := 1114) (by decide +kernel) (by decide +kernel)
theorem zw_1115 : Cond.selects "LowWaterModel" yX12_waits yX12_waits ∈ zT := zT_t (i := 1115) (by decide +kernel) (by decide +kernel)
theorem k_L_81 : Cond.methodLink "LowWaterLaw" 81 yX12_waits ∈ zT ∧ Cond.instanceMethod yX12_waits ∈ zT ∧ Cond.selects yX12_waits.cls yX12_waits yX12_waits ∈ zT := ⟨zw_1113, zw_1114, zw_1115⟩
theorem zw_651 : Cond.code yX11_shelve cX11_shelve 7 (some .int) ∈ zT := zT_t (i := 651) (by decide +kernel) (by decide +kernel)
theorem co_X11_shelve : zCo yX11_shelve cX11_shelve 7 (some .int) 2 := ⟨zw_651, zw_1, by decide +kernel, by decide +kernel, by decide +kernel⟩
theorem zw_648 : Cond.methodLink "LowWaterLaw" 82 yX11_shelve ∈ zT := zT_t (i := 648) (by decide +kernel) (by decide +kernel)
theorem zw_649 : Cond.instanceMethod yX11_shelve ∈ zT := zT_t (i := 649) (by decide +kernel) (by decide +kernel)
theorem zw_650 : Cond.selects "LowWater" yX11_shelve yX11_shelve ∈ zT := zT_t (i := 650) (by decide +kernel) (by decide +kernel)
theorem k_L_82 : Cond.methodLink "LowWaterLaw" 82 yX11_shelve ∈ zT ∧ Cond.instanceMethod yX11_shelve ∈ zT ∧ Cond.selects yX11_shelve.cls yX11_shelve yX11_shelve ∈ zT := ⟨zw_648, zw_649, zw_650⟩
theorem zw_1124 : Cond.code yX12_shelve cX12_shelve 8 (some .int) ∈ zT := zT_t (i := 1124) (by decide +kernel) (by decide +kernel)
theorem co_X12_shelve : zCo yX12_shelve cX12_shelve 8 (some .int) 2 := ⟨zw_1124, zw_6, by decide +kernel, by decide +kernel, by decide +kernel⟩
theorem zw_1121 : Cond.methodLink "LowWaterLaw" 85 yX12_shelve ∈ zT := zT_t (i := 1121) (by decide +kernel) (by decide +kernel)
theorem zw_1122 : Cond.instanceMethod yX12_shelve ∈ zT := zT_t (i := 1122) (by decide +kernel) (by decide +kernel)
theorem zw_1123 : Cond.selects "LowWaterModel" yX12_shelve yX12_shelve ∈ zT := zT_t (i := 1123) (by decide +kernel) (by decide +kernel)
theorem k_L_85 : Cond.methodLink "LowWaterLaw" 85 yX12_shelve ∈ zT ∧ Cond.instanceMethod yX12_shelve ∈ zT ∧ Cond.selects yX12_shelve.cls yX12_shelve yX12_shelve ∈ zT := ⟨zw_1121, zw_1122, zw_1123⟩
theorem zw_659 : Cond.code yX11_change cX11_change 6 (some .int) ∈ zT := zT_t (i := 659) (by decide +kernel) (by decide +kernel)
theorem co_X11_change : zCo yX11_change cX11_change 6 (some .int) 0 := ⟨zw_659, zw_1, by decide +kernel, by decide +kernel, by decide +kernel⟩
theorem zw_656 : Cond.methodLink "LowWaterLaw" 86 yX11_change ∈ zT := zT_t (i := 656) (by decide +kernel) (by decide +kernel)
theorem zw_657 : Cond.instanceMethod yX11_change ∈ zT := zT_t (i := 657) (by decide +kernel) (by decide +kernel)
theorem zw_658 : Cond.selects "LowWater" yX11_change yX11_change ∈ zT := zT_t (i := 658) (by decide +kernel) (by decide +kernel)
theorem k_L_86 : Cond.methodLink "LowWaterLaw" 86 yX11_change ∈ zT ∧ Cond.instanceMethod yX11_change ∈ zT ∧ Cond.selects yX11_change.cls yX11_change yX11_change ∈ zT := ⟨zw_656, zw_657, zw_658⟩
theorem zw_1128 : Cond.code yX12_change cX12_change 6 (some .int) ∈ zT := zT_t (i := 1128) (by decide +kernel) (by decide +kernel)
theorem co_X12_change : zCo yX12_change cX12_change 6 (some .int) 0 := ⟨zw_1128, zw_6, by decide +kernel, by decide +kernel, by decide +kernel⟩
theorem zw_1125 : Cond.methodLink "LowWaterLaw" 89 yX12_change ∈ zT := zT_t (i := 1125) (by decide +kernel) (by decide +kernel)
theorem zw_1126 : Cond.instanceMethod yX12_change ∈ zT := zT_t (i := 1126) (by decide +kernel) (by decide +kernel)
theorem zw_1127 : Cond.selects "LowWaterModel" yX12_change yX12_change ∈ zT := zT_t (i := 1127) (by decide +kernel) (by decide +kernel)
theorem k_L_89 : Cond.methodLink "LowWaterLaw" 89 yX12_change ∈ zT ∧ Cond.instanceMethod yX12_change ∈ zT ∧ Cond.selects yX12_change.cls yX12_change yX12_change ∈ zT := ⟨zw_1125, zw_1126, zw_1127⟩
theorem zw_663 : Cond.code yX11_force cX11_force 5 (some .int) ∈ zT := zT_t (i := 663) (by decide +kernel) (by decide +kernel)
theorem co_X11_force : zCo yX11_force cX11_force 5 (some .int) 1 := ⟨zw_663, zw_1, by decide +kernel, by decide +kernel, by decide +kernel⟩
theorem zw_660 : Cond.methodLink "LowWaterLaw" 90 yX11_force ∈ zT := zT_t (i := 660) (by decide +kernel) (by decide +kernel)
theorem zw_661 : Cond.instanceMethod yX11_force ∈ zT := zT_t (i := 661) (by decide +kernel) (by decide +kernel)
theorem zw_662 : Cond.selects "LowWater" yX11_force yX11_force ∈ zT := zT_t (i := 662) (by decide +kernel) (by decide +kernel)
theorem k_L_90 : Cond.methodLink "LowWaterLaw" 90 yX11_force ∈ zT ∧ Cond.instanceMethod yX11_force ∈ zT ∧ Cond.selects yX11_force.cls yX11_force yX11_force ∈ zT := ⟨zw_660, zw_661, zw_662⟩
theorem zw_1136 : Cond.code yX12_force cX12_force 5 (some .int) ∈ zT := zT_t (i := 1136) (by decide +kernel) (by decide +kernel)
theorem co_X12_force : zCo yX12_force cX12_force 5 (some .int) 1 := ⟨zw_1136, zw_6, by decide +kernel, by decide +kernel, by decide +kernel⟩
theorem zw_1133 : Cond.methodLink "LowWaterLaw" 93 yX12_force ∈ zT := zT_t (i := 1133) (by decide +kernel) (by decide +kernel)
theorem zw_1134 : Cond.instanceMethod yX12_force ∈ zT := zT_t (i := 1134) (by decide +kernel) (by decide +kernel)
theorem zw_1135 : Cond.selects "LowWaterModel" yX12_force yX12_force ∈ zT := zT_t (i := 1135) (by decide +kernel) (by decide +kernel)
theorem k_L_93 : Cond.methodLink "LowWaterLaw" 93 yX12_force ∈ zT ∧ Cond.instanceMethod yX12_force ∈ zT ∧ Cond.selects yX12_force.cls yX12_force yX12_force ∈ zT := ⟨zw_1133, zw_1134, zw_1135⟩
theorem zw_667 : Cond.code yX11_open cX11_open 8 (some .int) ∈ zT := zT_t (i := 667) (by decide +kernel) (by decide +kernel)
theorem co_X11_open : zCo yX11_open cX11_open 8 (some .int) 3 := ⟨zw_667, zw_1, by decide +kernel, by decide +kernel, by decide +kernel⟩
theorem zw_664 : Cond.methodLink "LowWaterLaw" 94 yX11_open ∈ zT := zT_t (i := 664) (by decide +kernel) (by decide +kernel)
theorem zw_665 : Cond.instanceMethod yX11_open ∈ zT := zT_t (i := 665) (by decide +kernel) (by decide +kernel)
theorem zw_666 : Cond.selects "LowWater" yX11_open yX11_open ∈ zT := zT_t (i := 666) (by decide +kernel) (by decide +kernel)
theorem k_L_94 : Cond.methodLink "LowWaterLaw" 94 yX11_open ∈ zT ∧ Cond.instanceMethod yX11_open ∈ zT ∧ Cond.selects yX11_open.cls yX11_open yX11_open ∈ zT := ⟨zw_664, zw_665, zw_666⟩
theorem zw_1140 : Cond.code yX12_open cX12_open 9 (some .int) ∈ zT := zT_t (i := 1140) (by decide +kernel) (by decide +kernel)
theorem co_X12_open : zCo yX12_open cX12_open 9 (some .int) 3 := ⟨zw_1140, zw_6, by decide +kernel, by decide +kernel, by decide +kernel⟩
theorem zw_1137 : Cond.methodLink "LowWaterLaw" 97 yX12_open ∈ zT := zT_t (i := 1137) (by decide +kernel) (by decide +kernel)
theorem zw_1138 : Cond.instanceMethod yX12_open ∈ zT := zT_t (i := 1138) (by decide +kernel) (by decide +kernel)
theorem zw_1139 : Cond.selects "LowWaterModel" yX12_open yX12_open ∈ zT := zT_t (i := 1139) (by decide +kernel) (by decide +kernel)
theorem k_L_97 : Cond.methodLink "LowWaterLaw" 97 yX12_open ∈ zT ∧ Cond.instanceMethod yX12_open ∈ zT ∧ Cond.selects yX12_open.cls yX12_open yX12_open ∈ zT := ⟨zw_1137, zw_1138, zw_1139⟩
theorem zw_671 : Cond.code yX11_next cX11_next 3 (some .int) ∈ zT := zT_t (i := 671) (by decide +kernel) (by decide +kernel)
theorem co_X11_next : zCo yX11_next cX11_next 3 (some .int) 1 := ⟨zw_671, zw_1, by decide +kernel, by decide +kernel, by decide +kernel⟩
theorem zw_668 : Cond.methodLink "LowWaterLaw" 98 yX11_next ∈ zT := zT_t (i := 668) (by decide +kernel) (by decide +kernel)
theorem zw_669 : Cond.instanceMethod yX11_next ∈ zT := zT_t (i := 669) (by decide +kernel) (by decide +kernel)
theorem zw_670 : Cond.selects "LowWater" yX11_next yX11_next ∈ zT := zT_t (i := 670) (by decide +kernel) (by decide +kernel)
theorem k_L_98 : Cond.methodLink "LowWaterLaw" 98 yX11_next ∈ zT ∧ Cond.instanceMethod yX11_next ∈ zT ∧ Cond.selects yX11_next.cls yX11_next yX11_next ∈ zT := ⟨zw_668, zw_669, zw_670⟩
theorem zw_1144 : Cond.code yX12_next cX12_next 3 (some .int) ∈ zT := zT_t (i := 1144) (by decide +kernel) (by decide +kernel)
theorem co_X12_next : zCo yX12_next cX12_next 3 (some .int) 1 := ⟨zw_1144, zw_6, by decide +kernel, by decide +kernel, by decide +kernel⟩
theorem zw_1141 : Cond.methodLink "LowWaterLaw" 101 yX12_next ∈ zT := zT_t (i := 1141) (by decide +kernel) (by decide +kernel)
theorem zw_1142 : Cond.instanceMethod yX12_next ∈ zT := zT_t (i := 1142) (by decide +kernel) (by decide +kernel)
theorem zw_1143 : Cond.selects "LowWaterModel" yX12_next yX12_next ∈ zT := zT_t (i := 1143) (by decide +kernel) (by decide +kernel)
theorem k_L_101 : Cond.methodLink "LowWaterLaw" 101 yX12_next ∈ zT ∧ Cond.instanceMethod yX12_next ∈ zT ∧ Cond.selects yX12_next.cls yX12_next yX12_next ∈ zT := ⟨zw_1141, zw_1142, zw_1143⟩
theorem zw_675 : Cond.code yX11_safe cX11_safe 10 (some .long) ∈ zT := zT_t (i := 675) (by decide +kernel) (by decide +kernel)
theorem co_X11_safe : zCo yX11_safe cX11_safe 10 (some .long) 3 := ⟨zw_675, zw_1, by decide +kernel, by decide +kernel, by decide +kernel⟩
theorem zw_672 : Cond.methodLink "LowWaterLaw" 102 yX11_safe ∈ zT := zT_t (i := 672) (by decide +kernel) (by decide +kernel)
theorem zw_673 : Cond.instanceMethod yX11_safe ∈ zT := zT_t (i := 673) (by decide +kernel) (by decide +kernel)
theorem zw_674 : Cond.selects "LowWater" yX11_safe yX11_safe ∈ zT := zT_t (i := 674) (by decide +kernel) (by decide +kernel)
theorem k_L_102 : Cond.methodLink "LowWaterLaw" 102 yX11_safe ∈ zT ∧ Cond.instanceMethod yX11_safe ∈ zT ∧ Cond.selects yX11_safe.cls yX11_safe yX11_safe ∈ zT := ⟨zw_672, zw_673, zw_674⟩
theorem zw_1148 : Cond.code yX12_safe cX12_safe 10 (some .long) ∈ zT := zT_t (i := 1148) (by decide +kernel) (by decide +kernel)
theorem co_X12_safe : zCo yX12_safe cX12_safe 10 (some .long) 3 := ⟨zw_1148, zw_6, by decide +kernel, by decide +kernel, by decide +kernel⟩
theorem zw_1145 : Cond.methodLink "LowWaterLaw" 106 yX12_safe ∈ zT := zT_t (i := 1145) (by decide +kernel) (by decide +kernel)
theorem zw_1146 : Cond.instanceMethod yX12_safe ∈ zT := zT_t (i := 1146) (by decide +kernel) (by decide +kernel)
theorem zw_1147 : Cond.selects "LowWaterModel" yX12_safe yX12_safe ∈ zT := zT_t (i := 1147) (by decide +kernel) (by decide +kernel)
theorem k_L_106 : Cond.methodLink "LowWaterLaw" 106 yX12_safe ∈ zT ∧ Cond.instanceMethod yX12_safe ∈ zT ∧ Cond.selects yX12_safe.cls yX12_safe yX12_safe ∈ zT := ⟨zw_1145, zw_1146, zw_1147⟩
theorem zw_684 : Cond.code yX11_mean cX11_mean 6 (some .long) ∈ zT := zT_t (i := 684) (by decide +kernel) (by decide +kernel)
theorem co_X11_mean : zCo yX11_mean cX11_mean 6 (some .long) 2 := ⟨zw_684, zw_1, by decide +kernel, by decide +kernel, by decide +kernel⟩
theorem zw_681 : Cond.methodLink "LowWaterLaw" 107 yX11_mean ∈ zT := zT_t (i := 681) (by decide +kernel) (by decide +kernel)
theorem zw_682 : Cond.instanceMethod yX11_mean ∈ zT := zT_t (i := 682) (by decide +kernel) (by decide +kernel)
theorem zw_683 : Cond.selects "LowWater" yX11_mean yX11_mean ∈ zT := zT_t (i := 683) (by decide +kernel) (by decide +kernel)
theorem k_L_107 : Cond.methodLink "LowWaterLaw" 107 yX11_mean ∈ zT ∧ Cond.instanceMethod yX11_mean ∈ zT ∧ Cond.selects yX11_mean.cls yX11_mean yX11_mean ∈ zT := ⟨zw_681, zw_682, zw_683⟩
theorem zw_1157 : Cond.code yX12_mean cX12_mean 6 (some .long) ∈ zT := zT_t (i := 1157) (by decide +kernel) (by decide +kernel)
theorem co_X12_mean : zCo yX12_mean cX12_mean 6 (some .long) 2 := ⟨zw_1157, zw_6, by decide +kernel, by decide +kernel, by decide +kernel⟩
theorem zw_1154 : Cond.methodLink "LowWaterLaw" 111 yX12_mean ∈ zT := zT_t (i := 1154) (by decide +kernel) (by decide +kernel)
theorem zw_1155 : Cond.instanceMethod yX12_mean ∈ zT := zT_t (i := 1155) (by decide +kernel) (by decide +kernel)
theorem zw_1156 : Cond.selects "LowWaterModel" yX12_mean yX12_mean ∈ zT := zT_t (i := 1156) (by decide +kernel) (by decide +kernel)
theorem k_L_111 : Cond.methodLink "LowWaterLaw" 111 yX12_mean ∈ zT ∧ Cond.instanceMethod yX12_mean ∈ zT ∧ Cond.selects yX12_mean.cls yX12_mean yX12_mean ∈ zT := ⟨zw_1154, zw_1155, zw_1156⟩
theorem zw_688 : Cond.code yX11_see cX11_see 3 (some .int) ∈ zT := zT_t (i := 688) (by decide +kernel) (by decide +kernel)
theorem co_X11_see : zCo yX11_see cX11_see 3 (some .int) 2 := ⟨zw_688, zw_1, by decide +kernel, by decide +kernel, by decide +kernel⟩
theorem zw_685 : Cond.methodLink "LowWaterLaw" 112 yX11_see ∈ zT := zT_t (i := 685) (by decide +kernel) (by decide +kernel)
theorem zw_686 : Cond.instanceMethod yX11_see ∈ zT := zT_t (i := 686) (by decide +kernel) (by decide +kernel)
theorem zw_687 : Cond.selects "LowWater" yX11_see yX11_see ∈ zT := zT_t (i := 687) (by decide +kernel) (by decide +kernel)
theorem k_L_112 : Cond.methodLink "LowWaterLaw" 112 yX11_see ∈ zT ∧ Cond.instanceMethod yX11_see ∈ zT ∧ Cond.selects yX11_see.cls yX11_see yX11_see ∈ zT := ⟨zw_685, zw_686, zw_687⟩
theorem zw_1161 : Cond.code yX12_see cX12_see 3 (some .int) ∈ zT := zT_t (i := 1161) (by decide +kernel) (by decide +kernel)
theorem co_X12_see : zCo yX12_see cX12_see 3 (some .int) 2 := ⟨zw_1161, zw_6, by decide +kernel, by decide +kernel, by decide +kernel⟩
theorem zw_1158 : Cond.methodLink "LowWaterLaw" 116 yX12_see ∈ zT := zT_t (i := 1158) (by decide +kernel) (by decide +kernel)
theorem zw_1159 : Cond.instanceMethod yX12_see ∈ zT := zT_t (i := 1159) (by decide +kernel) (by decide +kernel)
theorem zw_1160 : Cond.selects "LowWaterModel" yX12_see yX12_see ∈ zT := zT_t (i := 1160) (by decide +kernel) (by decide +kernel)
theorem k_L_116 : Cond.methodLink "LowWaterLaw" 116 yX12_see ∈ zT ∧ Cond.instanceMethod yX12_see ∈ zT ∧ Cond.selects yX12_see.cls yX12_see yX12_see ∈ zT := ⟨zw_1158, zw_1159, zw_1160⟩
theorem zw_692 : Cond.code yX11_stood cX11_stood 6 (some .int) ∈ zT := zT_t (i := 692) (by decide +kernel) (by decide +kernel)
theorem co_X11_stood : zCo yX11_stood cX11_stood 6 (some .int) 0 := ⟨zw_692, zw_1, by decide +kernel, by decide +kernel, by decide +kernel⟩
theorem zw_689 : Cond.methodLink "LowWaterLaw" 117 yX11_stood ∈ zT := zT_t (i := 689) (by decide +kernel) (by decide +kernel)
theorem zw_690 : Cond.instanceMethod yX11_stood ∈ zT := zT_t (i := 690) (by decide +kernel) (by decide +kernel)
theorem zw_691 : Cond.selects "LowWater" yX11_stood yX11_stood ∈ zT := zT_t (i := 691) (by decide +kernel) (by decide +kernel)
theorem k_L_117 : Cond.methodLink "LowWaterLaw" 117 yX11_stood ∈ zT ∧ Cond.instanceMethod yX11_stood ∈ zT ∧ Cond.selects yX11_stood.cls yX11_stood yX11_stood ∈ zT := ⟨zw_689, zw_690, zw_691⟩
theorem zw_1165 : Cond.code yX12_stood cX12_stood 5 (some .int) ∈ zT := zT_t (i := 1165) (by decide +kernel) (by decide +kernel)
theorem co_X12_stood : zCo yX12_stood cX12_stood 5 (some .int) 0 := ⟨zw_1165, zw_6, by decide +kernel, by decide +kernel, by decide +kernel⟩
theorem zw_1162 : Cond.methodLink "LowWaterLaw" 120 yX12_stood ∈ zT := zT_t (i := 1162) (by decide +kernel) (by decide +kernel)
theorem zw_1163 : Cond.instanceMethod yX12_stood ∈ zT := zT_t (i := 1163) (by decide +kernel) (by decide +kernel)
theorem zw_1164 : Cond.selects "LowWaterModel" yX12_stood yX12_stood ∈ zT := zT_t (i := 1164) (by decide +kernel) (by decide +kernel)
theorem k_L_120 : Cond.methodLink "LowWaterLaw" 120 yX12_stood ∈ zT ∧ Cond.instanceMethod yX12_stood ∈ zT ∧ Cond.selects yX12_stood.cls yX12_stood yX12_stood ∈ zT := ⟨zw_1162, zw_1163, zw_1164⟩
theorem zw_697 : Cond.code yX11_tale cX11_tale 4 (some .int) ∈ zT := zT_t (i := 697) (by decide +kernel) (by decide +kernel)
theorem co_X11_tale : zCo yX11_tale cX11_tale 4 (some .int) 3 := ⟨zw_697, zw_1, by decide +kernel, by decide +kernel, by decide +kernel⟩
theorem zw_694 : Cond.methodLink "LowWaterLaw" 121 yX11_tale ∈ zT := zT_t (i := 694) (by decide +kernel) (by decide +kernel)
theorem zw_695 : Cond.instanceMethod yX11_tale ∈ zT := zT_t (i := 695) (by decide +kernel) (by decide +kernel)
theorem zw_696 : Cond.selects "LowWater" yX11_tale yX11_tale ∈ zT := zT_t (i := 696) (by decide +kernel) (by decide +kernel)
theorem k_L_121 : Cond.methodLink "LowWaterLaw" 121 yX11_tale ∈ zT ∧ Cond.instanceMethod yX11_tale ∈ zT ∧ Cond.selects yX11_tale.cls yX11_tale yX11_tale ∈ zT := ⟨zw_694, zw_695, zw_696⟩
theorem zw_1169 : Cond.code yX12_tale cX12_tale 4 (some .int) ∈ zT := zT_t (i := 1169) (by decide +kernel) (by decide +kernel)
theorem co_X12_tale : zCo yX12_tale cX12_tale 4 (some .int) 3 := ⟨zw_1169, zw_6, by decide +kernel, by decide +kernel, by decide +kernel⟩
theorem zw_1166 : Cond.methodLink "LowWaterLaw" 124 yX12_tale ∈ zT := zT_t (i := 1166) (by decide +kernel) (by decide +kernel)
theorem zw_1167 : Cond.instanceMethod yX12_tale ∈ zT := zT_t (i := 1167) (by decide +kernel) (by decide +kernel)
theorem zw_1168 : Cond.selects "LowWaterModel" yX12_tale yX12_tale ∈ zT := zT_t (i := 1168) (by decide +kernel) (by decide +kernel)
theorem k_L_124 : Cond.methodLink "LowWaterLaw" 124 yX12_tale ∈ zT ∧ Cond.instanceMethod yX12_tale ∈ zT ∧ Cond.selects yX12_tale.cls yX12_tale yX12_tale ∈ zT := ⟨zw_1166, zw_1167, zw_1168⟩
theorem zw_701 : Cond.code yX11_looked cX11_looked 6 (some .int) ∈ zT := zT_t (i := 701) (by decide +kernel) (by decide +kernel)
theorem co_X11_looked : zCo yX11_looked cX11_looked 6 (some .int) 0 := ⟨zw_701, zw_1, by decide +kernel, by decide +kernel, by decide +kernel⟩
theorem zw_698 : Cond.methodLink "LowWaterLaw" 125 yX11_looked ∈ zT := zT_t (i := 698) (by decide +kernel) (by decide +kernel)
theorem zw_699 : Cond.instanceMethod yX11_looked ∈ zT := zT_t (i := 699) (by decide +kernel) (by decide +kernel)
theorem zw_700 : Cond.selects "LowWater" yX11_looked yX11_looked ∈ zT := zT_t (i := 700) (by decide +kernel) (by decide +kernel)
theorem k_L_125 : Cond.methodLink "LowWaterLaw" 125 yX11_looked ∈ zT ∧ Cond.instanceMethod yX11_looked ∈ zT ∧ Cond.selects yX11_looked.cls yX11_looked yX11_looked ∈ zT := ⟨zw_698, zw_699, zw_700⟩
theorem zw_1173 : Cond.code yX12_looked cX12_looked 2 (some .int) ∈ zT := zT_t (i := 1173) (by decide +kernel) (by decide +kernel)
theorem co_X12_looked : zCo yX12_looked cX12_looked 2 (some .int) 0 := ⟨zw_1173, zw_6, by decide +kernel, by decide +kernel, by decide +kernel⟩
theorem zw_1170 : Cond.methodLink "LowWaterLaw" 128 yX12_looked ∈ zT := zT_t (i := 1170) (by decide +kernel) (by decide +kernel)
theorem zw_1171 : Cond.instanceMethod yX12_looked ∈ zT := zT_t (i := 1171) (by decide +kernel) (by decide +kernel)
theorem zw_1172 : Cond.selects "LowWaterModel" yX12_looked yX12_looked ∈ zT := zT_t (i := 1172) (by decide +kernel) (by decide +kernel)
theorem k_L_128 : Cond.methodLink "LowWaterLaw" 128 yX12_looked ∈ zT ∧ Cond.instanceMethod yX12_looked ∈ zT ∧ Cond.selects yX12_looked.cls yX12_looked yX12_looked ∈ zT := ⟨zw_1170, zw_1171, zw_1172⟩
theorem zw_716 : Cond.code yX11_act cX11_act 5 (some .int) ∈ zT := zT_t (i := 716) (by decide +kernel) (by decide +kernel)
theorem co_X11_act : zCo yX11_act cX11_act 5 (some .int) 3 := ⟨zw_716, zw_1, by decide +kernel, by decide +kernel, by decide +kernel⟩
theorem zw_713 : Cond.methodLink "LowWaterLaw" 129 yX11_act ∈ zT := zT_t (i := 713) (by decide +kernel) (by decide +kernel)
theorem zw_714 : Cond.instanceMethod yX11_act ∈ zT := zT_t (i := 714) (by decide +kernel) (by decide +kernel)
theorem zw_715 : Cond.selects "LowWater" yX11_act yX11_act ∈ zT := zT_t (i := 715) (by decide +kernel) (by decide +kernel)
theorem k_L_129 : Cond.methodLink "LowWaterLaw" 129 yX11_act ∈ zT ∧ Cond.instanceMethod yX11_act ∈ zT ∧ Cond.selects yX11_act.cls yX11_act yX11_act ∈ zT := ⟨zw_713, zw_714, zw_715⟩
theorem zw_1177 : Cond.code yX12_act cX12_act 4 (some .int) ∈ zT := zT_t (i := 1177) (by decide +kernel) (by decide +kernel)
theorem co_X12_act : zCo yX12_act cX12_act 4 (some .int) 3 := ⟨zw_1177, zw_6, by decide +kernel, by decide +kernel, by decide +kernel⟩
theorem zw_1174 : Cond.methodLink "LowWaterLaw" 132 yX12_act ∈ zT := zT_t (i := 1174) (by decide +kernel) (by decide +kernel)
theorem zw_1175 : Cond.instanceMethod yX12_act ∈ zT := zT_t (i := 1175) (by decide +kernel) (by decide +kernel)
theorem zw_1176 : Cond.selects "LowWaterModel" yX12_act yX12_act ∈ zT := zT_t (i := 1176) (by decide +kernel) (by decide +kernel)
theorem k_L_132 : Cond.methodLink "LowWaterLaw" 132 yX12_act ∈ zT ∧ Cond.instanceMethod yX12_act ∈ zT ∧ Cond.selects yX12_act.cls yX12_act yX12_act ∈ zT := ⟨zw_1174, zw_1175, zw_1176⟩
theorem zw_790 : Cond.code yX11_trace cX11_trace 2 (some .int) ∈ zT := zT_t (i := 790) (by decide +kernel) (by decide +kernel)
theorem co_X11_trace : zCo yX11_trace cX11_trace 2 (some .int) 1 := ⟨zw_790, zw_1, by decide +kernel, by decide +kernel, by decide +kernel⟩
theorem zw_787 : Cond.methodLink "LowWaterLaw" 133 yX11_trace ∈ zT := zT_t (i := 787) (by decide +kernel) (by decide +kernel)
theorem zw_788 : Cond.instanceMethod yX11_trace ∈ zT := zT_t (i := 788) (by decide +kernel) (by decide +kernel)
theorem zw_789 : Cond.selects "LowWater" yX11_trace yX11_trace ∈ zT := zT_t (i := 789) (by decide +kernel) (by decide +kernel)
theorem k_L_133 : Cond.methodLink "LowWaterLaw" 133 yX11_trace ∈ zT ∧ Cond.instanceMethod yX11_trace ∈ zT ∧ Cond.selects yX11_trace.cls yX11_trace yX11_trace ∈ zT := ⟨zw_787, zw_788, zw_789⟩
theorem zw_1212 : Cond.code yX12_trace cX12_trace 2 (some .int) ∈ zT := zT_t (i := 1212) (by decide +kernel) (by decide +kernel)
theorem co_X12_trace : zCo yX12_trace cX12_trace 2 (some .int) 1 := ⟨zw_1212, zw_6, by decide +kernel, by decide +kernel, by decide +kernel⟩
theorem zw_1209 : Cond.methodLink "LowWaterLaw" 136 yX12_trace ∈ zT := zT_t (i := 1209) (by decide +kernel) (by decide +kernel)
theorem zw_1210 : Cond.instanceMethod yX12_trace ∈ zT := zT_t (i := 1210) (by decide +kernel) (by decide +kernel)
theorem zw_1211 : Cond.selects "LowWaterModel" yX12_trace yX12_trace ∈ zT := zT_t (i := 1211) (by decide +kernel) (by decide +kernel)
theorem k_L_136 : Cond.methodLink "LowWaterLaw" 136 yX12_trace ∈ zT ∧ Cond.instanceMethod yX12_trace ∈ zT ∧ Cond.selects yX12_trace.cls yX12_trace yX12_trace ∈ zT := ⟨zw_1209, zw_1210, zw_1211⟩
theorem zw_794 : Cond.code yX11_as cX11_as 4 (some .int) ∈ zT := zT_t (i := 794) (by decide +kernel) (by decide +kernel)
theorem co_X11_as : zCo yX11_as cX11_as 4 (some .int) 2 := ⟨zw_794, zw_1, by decide +kernel, by decide +kernel, by decide +kernel⟩
theorem zw_791 : Cond.methodLink "LowWaterLaw" 137 yX11_as ∈ zT := zT_t (i := 791) (by decide +kernel) (by decide +kernel)
theorem zw_792 : Cond.instanceMethod yX11_as ∈ zT := zT_t (i := 792) (by decide +kernel) (by decide +kernel)
theorem zw_793 : Cond.selects "LowWater" yX11_as yX11_as ∈ zT := zT_t (i := 793) (by decide +kernel) (by decide +kernel)
theorem k_L_137 : Cond.methodLink "LowWaterLaw" 137 yX11_as ∈ zT ∧ Cond.instanceMethod yX11_as ∈ zT ∧ Cond.selects yX11_as.cls yX11_as yX11_as ∈ zT := ⟨zw_791, zw_792, zw_793⟩
theorem zw_1216 : Cond.code yX12_as cX12_as 3 (some .int) ∈ zT := zT_t (i := 1216) (by decide +kernel) (by decide +kernel)
theorem co_X12_as : zCo yX12_as cX12_as 3 (some .int) 2 := ⟨zw_1216, zw_6, by decide +kernel, by decide +kernel, by decide +kernel⟩
theorem zw_1213 : Cond.methodLink "LowWaterLaw" 140 yX12_as ∈ zT := zT_t (i := 1213) (by decide +kernel) (by decide +kernel)
theorem zw_1214 : Cond.instanceMethod yX12_as ∈ zT := zT_t (i := 1214) (by decide +kernel) (by decide +kernel)
theorem zw_1215 : Cond.selects "LowWaterModel" yX12_as yX12_as ∈ zT := zT_t (i := 1215) (by decide +kernel) (by decide +kernel)
theorem k_L_140 : Cond.methodLink "LowWaterLaw" 140 yX12_as ∈ zT ∧ Cond.instanceMethod yX12_as ∈ zT ∧ Cond.selects yX12_as.cls yX12_as yX12_as ∈ zT := ⟨zw_1213, zw_1214, zw_1215⟩
theorem zw_827 : Cond.code yX11_image cX11_image 1 (some .int) ∈ zT := zT_t (i := 827) (by decide +kernel) (by decide +kernel)
theorem co_X11_image : zCo yX11_image cX11_image 1 (some .int) 0 := ⟨zw_827, zw_1, by decide +kernel, by decide +kernel, by decide +kernel⟩
theorem zw_824 : Cond.methodLink "LowWaterLaw" 141 yX11_image ∈ zT := zT_t (i := 824) (by decide +kernel) (by decide +kernel)
theorem zw_825 : Cond.instanceMethod yX11_image ∈ zT := zT_t (i := 825) (by decide +kernel) (by decide +kernel)
theorem zw_826 : Cond.selects "LowWater" yX11_image yX11_image ∈ zT := zT_t (i := 826) (by decide +kernel) (by decide +kernel)
theorem k_L_141 : Cond.methodLink "LowWaterLaw" 141 yX11_image ∈ zT ∧ Cond.instanceMethod yX11_image ∈ zT ∧ Cond.selects yX11_image.cls yX11_image yX11_image ∈ zT := ⟨zw_824, zw_825, zw_826⟩
theorem zw_1220 : Cond.code yX12_image cX12_image 2 (some .int) ∈ zT := zT_t (i := 1220) (by decide +kernel) (by decide +kernel)
theorem co_X12_image : zCo yX12_image cX12_image 2 (some .int) 0 := ⟨zw_1220, zw_6, by decide +kernel, by decide +kernel, by decide +kernel⟩
theorem zw_1217 : Cond.methodLink "LowWaterLaw" 144 yX12_image ∈ zT := zT_t (i := 1217) (by decide +kernel) (by decide +kernel)
theorem zw_1218 : Cond.instanceMethod yX12_image ∈ zT := zT_t (i := 1218) (by decide +kernel) (by decide +kernel)
theorem zw_1219 : Cond.selects "LowWaterModel" yX12_image yX12_image ∈ zT := zT_t (i := 1219) (by decide +kernel) (by decide +kernel)
theorem k_L_144 : Cond.methodLink "LowWaterLaw" 144 yX12_image ∈ zT ∧ Cond.instanceMethod yX12_image ∈ zT ∧ Cond.selects yX12_image.cls yX12_image yX12_image ∈ zT := ⟨zw_1217, zw_1218, zw_1219⟩
theorem zw_844 : Cond.code yX11_undo cX11_undo 1 (some .int) ∈ zT := zT_t (i := 844) (by decide +kernel) (by decide +kernel)
theorem co_X11_undo : zCo yX11_undo cX11_undo 1 (some .int) 0 := ⟨zw_844, zw_1, by decide +kernel, by decide +kernel, by decide +kernel⟩
theorem zw_841 : Cond.methodLink "LowWaterLaw" 145 yX11_undo ∈ zT := zT_t (i := 841) (by decide +kernel) (by decide +kernel)
theorem zw_842 : Cond.instanceMethod yX11_undo ∈ zT := zT_t (i := 842) (by decide +kernel) (by decide +kernel)
theorem zw_843 : Cond.selects "LowWater" yX11_undo yX11_undo ∈ zT := zT_t (i := 843) (by decide +kernel) (by decide +kernel)
theorem k_L_145 : Cond.methodLink "LowWaterLaw" 145 yX11_undo ∈ zT ∧ Cond.instanceMethod yX11_undo ∈ zT ∧ Cond.selects yX11_undo.cls yX11_undo yX11_undo ∈ zT := ⟨zw_841, zw_842, zw_843⟩
theorem zw_1224 : Cond.code yX12_undo cX12_undo 2 (some .int) ∈ zT := zT_t (i := 1224) (by decide +kernel) (by decide +kernel)
theorem co_X12_undo : zCo yX12_undo cX12_undo 2 (some .int) 0 := ⟨zw_1224, zw_6, by decide +kernel, by decide +kernel, by decide +kernel⟩
theorem zw_1221 : Cond.methodLink "LowWaterLaw" 148 yX12_undo ∈ zT := zT_t (i := 1221) (by decide +kernel) (by decide +kernel)
theorem zw_1222 : Cond.instanceMethod yX12_undo ∈ zT := zT_t (i := 1222) (by decide +kernel) (by decide +kernel)
theorem zw_1223 : Cond.selects "LowWaterModel" yX12_undo yX12_undo ∈ zT := zT_t (i := 1223) (by decide +kernel) (by decide +kernel)
theorem k_L_148 : Cond.methodLink "LowWaterLaw" 148 yX12_undo ∈ zT ∧ Cond.instanceMethod yX12_undo ∈ zT ∧ Cond.selects yX12_undo.cls yX12_undo yX12_undo ∈ zT := ⟨zw_1221, zw_1222, zw_1223⟩
theorem zw_848 : Cond.code yX11_count cX11_count 2 (some .int) ∈ zT := zT_t (i := 848) (by decide +kernel) (by decide +kernel)
theorem co_X11_count : zCo yX11_count cX11_count 2 (some .int) 1 := ⟨zw_848, zw_1, by decide +kernel, by decide +kernel, by decide +kernel⟩
theorem zw_845 : Cond.methodLink "LowWaterLaw" 149 yX11_count ∈ zT := zT_t (i := 845) (by decide +kernel) (by decide +kernel)
theorem zw_846 : Cond.instanceMethod yX11_count ∈ zT := zT_t (i := 846) (by decide +kernel) (by decide +kernel)
theorem zw_847 : Cond.selects "LowWater" yX11_count yX11_count ∈ zT := zT_t (i := 847) (by decide +kernel) (by decide +kernel)
theorem k_L_149 : Cond.methodLink "LowWaterLaw" 149 yX11_count ∈ zT ∧ Cond.instanceMethod yX11_count ∈ zT ∧ Cond.selects yX11_count.cls yX11_count yX11_count ∈ zT := ⟨zw_845, zw_846, zw_847⟩
theorem zw_1228 : Cond.code yX12_count cX12_count 2 (some .int) ∈ zT := zT_t (i := 1228) (by decide +kernel) (by decide +kernel)
theorem co_X12_count : zCo yX12_count cX12_count 2 (some .int) 1 := ⟨zw_1228, zw_6, by decide +kernel, by decide +kernel, by decide +kernel⟩
theorem zw_1225 : Cond.methodLink "LowWaterLaw" 152 yX12_count ∈ zT := zT_t (i := 1225) (by decide +kernel) (by decide +kernel)
theorem zw_1226 : Cond.instanceMethod yX12_count ∈ zT := zT_t (i := 1226) (by decide +kernel) (by decide +kernel)
theorem zw_1227 : Cond.selects "LowWaterModel" yX12_count yX12_count ∈ zT := zT_t (i := 1227) (by decide +kernel) (by decide +kernel)
theorem k_L_152 : Cond.methodLink "LowWaterLaw" 152 yX12_count ∈ zT ∧ Cond.instanceMethod yX12_count ∈ zT ∧ Cond.selects yX12_count.cls yX12_count yX12_count ∈ zT := ⟨zw_1225, zw_1226, zw_1227⟩
theorem zw_61 : Cond.arrayClass .int ∈ zT := zT_t (i := 61) (by decide +kernel) (by decide +kernel)
theorem ar_int : Cond.arrayClass .int ∈ zT := zw_61
theorem zw_303 : Cond.arrayClass .byte ∈ zT := zT_t (i := 303) (by decide +kernel) (by decide +kernel)
theorem ar_byte : Cond.arrayClass .byte ∈ zT := zw_303
theorem zw_927 : Cond.arrayClass .boolean ∈ zT := zT_t (i := 927) (by decide +kernel) (by decide +kernel)
theorem ar_boolean : Cond.arrayClass .boolean ∈ zT := zw_927
end
section
/-! the reference's object: int fields F by their places, arrays A by their order behind the object -/
def rmz (d : Nat) : Room := { frames := d, cells := 0, slots := 0, locals := 64 * d }
theorem zrm {X : zX} {d d' maxL : Nat} (hr : zXr X = rmz d) (h : d' + 1 ≤ d ∧ 8 + (maxL + 11) + 64 * d' ≤ 64 * d) : zRoom (rmz d') X.2.2.2.2 maxL := by
  show _ + 1 ≤ (zXr X).frames ∧ _ ≤ (zXr X).locals
  rw [hr]
  exact h
def mflds (m : Nat) (F : Nat → Int32) : List Value := [.int (F 0), .ref (m + 1), .ref (m + 2), .int (F 3), .int (F 4), .int (F 5), .int (F 6), .int (F 7), .int (F 8), .ref (m + 3), .ref (m + 4), .int (F 11), .int (F 12), .ref (m + 5), .int (F 14), .ref (m + 6), .ref (m + 7), .ref (m + 8), .int (F 18), .ref (m + 9), .int (F 20), .int (F 21), .int (F 22), .int (F 23)]
def mlen (j : Nat) : Nat := if j = 1 then 899 else if j = 2 then 899 else if j = 3 then 3 else if j = 4 then 64 else if j = 5 then 402 else if j = 6 then 8688 else if j = 7 then 6 else if j = 8 then 6 else 20
def mup (A : Nat → Nat → Int32) (j : Nat) (f : Nat → Int32) : Nat → Nat → Int32 := fun k => if k = j then f else A k
def mcell (g : zG) (m : Nat) (F : Nat → Int32) (A : Nat → Nat → Int32) (j : Nat) : va_E := if j = 0 then .inr (12, mflds m F) else if j = 4 then .inl (g.2.2.1.2.1, 64, .inl (A 4)) else .inl (g.2.2.1.1, mlen j, .inl (A j))
def hM (g : zG) (h : Hp) (m : Nat) (F : Nat → Int32) (A : Nat → Nat → Int32) : Hp := (h.1, fun a => if m ≤ a ∧ a < m + 10 then some (mcell g m F A (a - m)) else h.2 a)
theorem hM_o {g : zG} {h : Hp} {m : Nat} {F : Nat → Int32} {A : Nat → Nat → Int32} : (hM g h m F A).2 m = some (.inr (12, mflds m F)) := by
  simp [hM, mcell]
theorem hM_a {g : zG} {h : Hp} {m j : Nat} {F : Nat → Int32} {A : Nat → Nat → Int32} (h1 : 0 < j) (h2 : j < 10) (h3 : j ≠ 4) : (hM g h m F A).2 (m + j) = some (.inl (g.2.2.1.1, mlen j, .inl (A j))) := by
  have : j ≠ 0 := by omega
  simp [hM, mcell, h2, h3, this]
theorem hM_z {g : zG} {h : Hp} {m : Nat} {F : Nat → Int32} {A : Nat → Nat → Int32} : (hM g h m F A).2 (m + 4) = some (.inl (g.2.2.1.2.1, 64, .inl (A 4))) := by
  simp [hM, mcell]
theorem hM_upo {g : zG} {h : Hp} {m : Nat} {F F' : Nat → Int32} {A : Nat → Nat → Int32} : hp_up (hM g h m F A) m (.inr (12, mflds m F')) = hM g h m F' A := by
  unfold hp_up hM
  refine Prod.ext rfl (funext fun a => ?_)
  show (if a = m then _ else _) = _
  by_cases h1 : a = m
  · subst h1
    simp [mcell]
  · rw [if_neg h1]
    by_cases h2 : m ≤ a ∧ a < m + 10
    · have : a - m ≠ 0 := by omega
      simp [h2, mcell, this]
    · simp [h2]
theorem hM_upa {g : zG} {h : Hp} {m j : Nat} {F : Nat → Int32} {A : Nat → Nat → Int32} {f : Nat → Int32} (h1 : 0 < j) (h2 : j < 10) (h3 : j ≠ 4) : hp_up (hM g h m F A) (m + j) (.inl (g.2.2.1.1, mlen j, .inl f)) = hM g h m F (mup A j f) := by
  unfold hp_up hM
  refine Prod.ext rfl (funext fun a => ?_)
  show (if a = m + j then _ else _) = _
  by_cases h4 : a = m + j
  · subst h4
    have : j ≠ 0 := by omega
    simp [mcell, mup, h2, h3, this]
  · rw [if_neg h4]
    by_cases h5 : m ≤ a ∧ a < m + 10
    · have : a - m ≠ j := by omega
      have h6 : ¬ 4 = j := fun e => h3 e.symm
      simp [h5, mcell, mup, this, h6]
    · simp [h5]
theorem hM_upz {g : zG} {h : Hp} {m : Nat} {F : Nat → Int32} {A : Nat → Nat → Int32} {f : Nat → Int32} : hp_up (hM g h m F A) (m + 4) (.inl (g.2.2.1.2.1, 64, .inl f)) = hM g h m F (mup A 4 f) := by
  unfold hp_up hM
  refine Prod.ext rfl (funext fun a => ?_)
  show (if a = m + 4 then _ else _) = _
  by_cases h4 : a = m + 4
  · subst h4
    simp [mcell, mup]
  · rw [if_neg h4]
    by_cases h5 : m ≤ a ∧ a < m + 10
    · have : a - m ≠ 4 := by omega
      simp [h5, mcell, mup, this]
    · simp [h5]
theorem mlen_lt (j : Nat) : mlen j < 2 ^ 31 := by
  unfold mlen
  repeat' split
  all_goals decide
section ZMOD
variable {X : zX} {cc : ByteArray} {nL : Nat} {own nm : String} {ret : Option FieldType} {rc rs pc : Nat} {lv : List (Option Value)} {st : List Value} {h : Hp} {Ko : Option Value → Hp → Prop} {m : Nat} {F : Nat → Int32} {A : Nat → Nat → Int32}
theorem m_get (B : zB X cc nL own nm ret) {idx k : Nat} {fin dec : Bool} {ty : FieldType} {v : Value} (Fl : zFL own idx 12 k fin dec ty) (hd : decode cc pc = .ok (.getfield idx, 3)) (hv : (mflds m F)[k]? = some v) (kk : AW X rc rs (pc + 3) lv (v :: st) (hM (zXg X) h m F A) Ko) : AW X rc rs pc lv (.ref m :: st) (hM (zXg X) h m F A) Ko := aw_get B Fl hd hM_o hv kk
theorem m_put (B : zB X cc nL own nm ret) {idx k : Nat} {dec : Bool} {x : Int32} (Fl : zFL own idx 12 k false dec .int) (hd : decode cc pc = .ok (.putfield idx, 3)) (hs : (mflds m F).set k (.int x) = mflds m (upd F k x)) (hk : k < 24) (kk : AW X rc rs (pc + 3) lv st (hM (zXg X) h m (upd F k x) A) Ko) : AW X rc rs pc lv (.int x :: .ref m :: st) (hM (zXg X) h m F A) Ko :=
  aw_put B Fl hd hM_o rfl rfl hk (by rw [hs, hM_upo]; exact kk)
theorem m_putz (B : zB X cc nL own nm ret) {idx k : Nat} {dec : Bool} {x : Int32} (Fl : zFL own idx 12 k false dec .boolean) (hx : x = 0 ∨ x = 1) (hd : decode cc pc = .ok (.putfield idx, 3)) (hs : (mflds m F).set k (.int x) = mflds m (upd F k x)) (hk : k < 24) (kk : AW X rc rs (pc + 3) lv st (hM (zXg X) h m (upd F k x) A) Ko) : AW X rc rs pc lv (.int x :: .ref m :: st) (hM (zXg X) h m F A) Ko :=
  aw_put B Fl hd hM_o (by rcases hx with rfl | rfl <;> rfl) (by rcases hx with rfl | rfl <;> rfl) hk (by rw [hs, hM_upo]; exact kk)
theorem m_ld (B : zB X cc nL own nm ret) {j : Nat} {i : Int32} (q : Nat) (e : i = nI q) (hb : q < mlen j) (hd : decode cc pc = .ok (.iaload, 1)) (h1 : 0 < j ∧ j < 10 ∧ j ≠ 4) (kk : AW X rc rs (pc + 1) lv (.int (A j q) :: st) (hM (zXg X) h m F A) Ko) : AW X rc rs pc lv (.int i :: .ref (m + j) :: st) (hM (zXg X) h m F A) Ko :=
  aw_iald B hd (hM_a h1.1 h1.2.1 h1.2.2) (by rw [e]; exact vp_in_nI hb (mlen_lt j)) (by rw [e, nI_clamp (Nat.lt_trans hb (mlen_lt j))]; exact kk)
theorem m_st (B : zB X cc nL own nm ret) {j : Nat} {i x : Int32} (q : Nat) (e : i = nI q) (hb : q < mlen j) (hd : decode cc pc = .ok (.iastore, 1)) (h1 : 0 < j ∧ j < 10 ∧ j ≠ 4) (kk : AW X rc rs (pc + 1) lv st (hM (zXg X) h m F (mup A j (upd (A j) q x))) Ko) : AW X rc rs pc lv (.int x :: .int i :: .ref (m + j) :: st) (hM (zXg X) h m F A) Ko :=
  aw_iast B hd (hM_a h1.1 h1.2.1 h1.2.2) (by rw [e]; exact vp_in_nI hb (mlen_lt j)) (by rw [e, nI_clamp (Nat.lt_trans hb (mlen_lt j)), hM_upa h1.1 h1.2.1 h1.2.2]; exact kk)
theorem m_zld (B : zB X cc nL own nm ret) {i : Int32} (q : Nat) (e : i = nI q) (hb : q < 64) (hd : decode cc pc = .ok (.baload, 1)) (kk : AW X rc rs (pc + 1) lv (.int (A 4 q) :: st) (hM (zXg X) h m F A) Ko) : AW X rc rs pc lv (.int i :: .ref (m + 4) :: st) (hM (zXg X) h m F A) Ko :=
  aw_zald B hd hM_z (by rw [e]; exact vp_in_nI hb (by decide)) (by rw [e, nI_clamp (Nat.lt_trans hb (by decide))]; exact kk)
theorem m_zst (B : zB X cc nL own nm ret) {i x : Int32} (q : Nat) (hx : x = 0 ∨ x = 1) (e : i = nI q) (hb : q < 64) (hd : decode cc pc = .ok (.bastore, 1)) (kk : AW X rc rs (pc + 1) lv st (hM (zXg X) h m F (mup A 4 (upd (A 4) q x))) Ko) : AW X rc rs pc lv (.int x :: .int i :: .ref (m + 4) :: st) (hM (zXg X) h m F A) Ko :=
  aw_zast B hd hM_z (by rw [e]; exact vp_in_nI hb (by decide)) (by rw [e, nI_clamp (Nat.lt_trans hb (by decide)), show vp_nar .boolean x = x by rcases hx with rfl | rfl <;> rfl, hM_upz]; exact kk)
end ZMOD
end
section
def bI (p : Prop) [Decidable p] : Int32 := if p then 1 else 0
theorem bI0 {p : Prop} [Decidable p] : bI p = 0 ↔ ¬ p := by unfold bI; by_cases h : p <;> simp [h]
theorem bI01 {p : Prop} [Decidable p] : bI p = 0 ∨ bI p = 1 := by unfold bI; by_cases h : p <;> simp [h]
theorem bIn {p : Prop} [Decidable p] : narrow .boolean (.int (bI p)) = .int (bI p) := by unfold bI; by_cases h : p <;> simp [h] <;> rfl
theorem dX12_in_0 : decode cX12_in 0 = .ok (.iload_n 0, 1) := by decide +kernel
theorem dX12_in_1 : decode cX12_in 1 = .ok (.iload_n 1, 1) := by decide +kernel
theorem dX12_in_2 : decode cX12_in 2 = .ok (.if_icmp .lt 12, 3) := by decide +kernel
theorem dX12_in_5 : decode cX12_in 5 = .ok (.iload_n 0, 1) := by decide +kernel
theorem dX12_in_6 : decode cX12_in 6 = .ok (.iload_n 2, 1) := by decide +kernel
theorem dX12_in_7 : decode cX12_in 7 = .ok (.if_icmp .gt 7, 3) := by decide +kernel
theorem dX12_in_10 : decode cX12_in 10 = .ok (.iconst 1, 1) := by decide +kernel
theorem dX12_in_11 : decode cX12_in 11 = .ok (.goto 4, 3) := by decide +kernel
theorem dX12_in_14 : decode cX12_in 14 = .ok (.iconst 0, 1) := by decide +kernel
theorem dX12_in_15 : decode cX12_in 15 = .ok (.ireturn, 1) := by decide +kernel
set_option maxRecDepth 100000 in
set_option maxHeartbeats 4000000 in
theorem s_in (l : Launch) (g : zG) (h : Hp) (v lo hi : Int32) : Sp l g yX12_in cX12_in 3 (some .boolean) (rmz 1) [.int v, .int lo, .int hi] (h) (zI fun r h' => r = bI (lo ≤ v ∧ v ≤ hi) ∧ h' = h) := by
  refine Sp.of [some (.int v), some (.int lo), some (.int hi)] (by decide) (Nat.le_of_ble_eq_true rfl) rfl rfl ?_
  rintro X rfl hr rfl B
  show AW X 0 0 0 _ _ _ _
  refine aw_iload_n B 0 rfl dX12_in_0 rfl ?_
  refine aw_iload_n B 1 rfl dX12_in_1 rfl ?_
  refine aw_icmp_lt B 14 dX12_in_2 (fun c2 => ?_) (fun c2 => ?_)
  · refine aw_iconst B 0 (by decide) dX12_in_14 ?_
    refine aw_iret B rfl rfl dX12_in_15 ?_
    exact ⟨_, rfl, by unfold bI; simp only [Int32.lt_iff_toInt_lt, Int32.le_iff_toInt_le] at *; split <;> first | rfl | (exfalso; omega), rfl⟩
  · refine aw_iload_n B 0 rfl dX12_in_5 rfl ?_
    refine aw_iload_n B 2 rfl dX12_in_6 rfl ?_
    refine aw_icmp_gt B 14 dX12_in_7 (fun c7 => ?_) (fun c7 => ?_)
    · refine aw_iconst B 0 (by decide) dX12_in_14 ?_
      refine aw_iret B rfl rfl dX12_in_15 ?_
      exact ⟨_, rfl, by unfold bI; simp only [Int32.lt_iff_toInt_lt, Int32.le_iff_toInt_le] at *; split <;> first | rfl | (exfalso; omega), rfl⟩
    · refine aw_iconst B 1 (by decide) dX12_in_10 ?_
      refine aw_goto B 15 dX12_in_11 ?_
      refine aw_iret B rfl rfl dX12_in_15 ?_
      exact ⟨_, rfl, by unfold bI; simp only [Int32.lt_iff_toInt_lt, Int32.le_iff_toInt_le] at *; split <;> first | rfl | (exfalso; omega), rfl⟩
theorem dX12_isShelf_0 : decode cX12_isShelf 0 = .ok (.iload_n 0, 1) := by decide +kernel
theorem dX12_isShelf_1 : decode cX12_isShelf 1 = .ok (.iconst 0, 1) := by decide +kernel
theorem dX12_isShelf_2 : decode cX12_isShelf 2 = .ok (.bipush 8, 2) := by decide +kernel
theorem dX12_isShelf_4 : decode cX12_isShelf 4 = .ok (.invokestatic 44, 3) := by decide +kernel
theorem dX12_isShelf_7 : decode cX12_isShelf 7 = .ok (.ireturn, 1) := by decide +kernel
set_option maxRecDepth 100000 in
set_option maxHeartbeats 4000000 in
theorem s_isShelf (l : Launch) (g : zG) (h : Hp) (v : Int32) : Sp l g yX12_isShelf cX12_isShelf 1 (some .boolean) (rmz 2) [.int v] (h) (zI fun r h' => r = bI (0 ≤ v ∧ v ≤ 8) ∧ h' = h) := by
  refine Sp.of [some (.int v)] (by decide) (Nat.le_of_ble_eq_true rfl) rfl rfl ?_
  rintro X rfl hr rfl B
  show AW X 0 0 0 _ _ _ _
  refine aw_iload_n B 0 rfl dX12_isShelf_0 rfl ?_
  refine aw_iconst B 0 (by decide) dX12_isShelf_1 ?_
  refine aw_bipush B 8 (by decide) dX12_isShelf_2 ?_
  refine aw_callS B 0 0 (s_in _ _ _ _ _ _) co_X12_in k_X12_44 dX12_isShelf_4 rfl rfl (Nat.le_of_ble_eq_true rfl) (zrm hr (by decide)) (Nat.le_refl _) (Nat.le_refl _) (kI fun r4 h4 hp4 => ?_)
  obtain ⟨rfl, rfl⟩ := hp4
  refine aw_iret B rfl bIn dX12_isShelf_7 ?_
  exact ⟨_, rfl, rfl, rfl⟩
theorem dX12_isSlate_0 : decode cX12_isSlate 0 = .ok (.iload_n 1, 1) := by decide +kernel
theorem dX12_isSlate_1 : decode cX12_isSlate 1 = .ok (.iconst 0, 1) := by decide +kernel
theorem dX12_isSlate_2 : decode cX12_isSlate 2 = .ok (.aload_n 0, 1) := by decide +kernel
theorem dX12_isSlate_3 : decode cX12_isSlate 3 = .ok (.getfield 9, 3) := by decide +kernel
theorem dX12_isSlate_6 : decode cX12_isSlate 6 = .ok (.iconst 0, 1) := by decide +kernel
theorem dX12_isSlate_7 : decode cX12_isSlate 7 = .ok (.iaload, 1) := by decide +kernel
theorem dX12_isSlate_8 : decode cX12_isSlate 8 = .ok (.iconst 1, 1) := by decide +kernel
theorem dX12_isSlate_9 : decode cX12_isSlate 9 = .ok (.isub, 1) := by decide +kernel
theorem dX12_isSlate_10 : decode cX12_isSlate 10 = .ok (.invokestatic 44, 3) := by decide +kernel
theorem dX12_isSlate_13 : decode cX12_isSlate 13 = .ok (.ireturn, 1) := by decide +kernel
set_option maxRecDepth 100000 in
set_option maxHeartbeats 4000000 in
theorem s_isSlate (l : Launch) (g : zG) (h : Hp) (m : Nat) (F : Nat → Int32) (A : Nat → Nat → Int32) (v : Int32) : Sp l g yX12_isSlate cX12_isSlate 2 (some .boolean) (rmz 2) [.ref m, .int v] (hM g h m F A) (zI fun r h' => r = bI (0 ≤ v ∧ v ≤ A 1 0 - 1) ∧ h' = hM g h m F A) := by
  refine Sp.of [some (.ref m), some (.int v)] (by decide) (Nat.le_of_ble_eq_true rfl) rfl rfl ?_
  rintro X rfl hr rfl B
  show AW X 0 0 0 _ _ _ _
  refine aw_iload_n B 1 rfl dX12_isSlate_0 rfl ?_
  refine aw_iconst B 0 (by decide) dX12_isSlate_1 ?_
  refine aw_aload_n B 0 rfl dX12_isSlate_2 rfl ?_
  refine m_get B f_X12_9 dX12_isSlate_3 rfl ?_
  refine aw_iconst B 0 (by decide) dX12_isSlate_6 ?_
  refine m_ld B (0) (rfl) ((by decide)) dX12_isSlate_7 (by decide) ?_
  refine aw_iconst B 1 (by decide) dX12_isSlate_8 ?_
  refine aw_isub B dX12_isSlate_9 ?_
  refine aw_callS B 0 0 (s_in _ _ _ _ _ _) co_X12_in k_X12_44 dX12_isSlate_10 rfl rfl (Nat.le_of_ble_eq_true rfl) (zrm hr (by decide)) (Nat.le_refl _) (Nat.le_refl _) (kI fun r10 h10 hp10 => ?_)
  obtain ⟨rfl, rfl⟩ := hp10
  refine aw_iret B rfl bIn dX12_isSlate_13 ?_
  exact ⟨_, rfl, rfl, rfl⟩
theorem dX12_isReader_0 : decode cX12_isReader 0 = .ok (.iload_n 1, 1) := by decide +kernel
theorem dX12_isReader_1 : decode cX12_isReader 1 = .ok (.iconst 0, 1) := by decide +kernel
theorem dX12_isReader_2 : decode cX12_isReader 2 = .ok (.aload_n 0, 1) := by decide +kernel
theorem dX12_isReader_3 : decode cX12_isReader 3 = .ok (.getfield 9, 3) := by decide +kernel
theorem dX12_isReader_6 : decode cX12_isReader 6 = .ok (.iconst 1, 1) := by decide +kernel
theorem dX12_isReader_7 : decode cX12_isReader 7 = .ok (.iaload, 1) := by decide +kernel
theorem dX12_isReader_8 : decode cX12_isReader 8 = .ok (.iconst 1, 1) := by decide +kernel
theorem dX12_isReader_9 : decode cX12_isReader 9 = .ok (.isub, 1) := by decide +kernel
theorem dX12_isReader_10 : decode cX12_isReader 10 = .ok (.invokestatic 44, 3) := by decide +kernel
theorem dX12_isReader_13 : decode cX12_isReader 13 = .ok (.ireturn, 1) := by decide +kernel
set_option maxRecDepth 100000 in
set_option maxHeartbeats 4000000 in
theorem s_isReader (l : Launch) (g : zG) (h : Hp) (m : Nat) (F : Nat → Int32) (A : Nat → Nat → Int32) (v : Int32) : Sp l g yX12_isReader cX12_isReader 2 (some .boolean) (rmz 2) [.ref m, .int v] (hM g h m F A) (zI fun r h' => r = bI (0 ≤ v ∧ v ≤ A 1 1 - 1) ∧ h' = hM g h m F A) := by
  refine Sp.of [some (.ref m), some (.int v)] (by decide) (Nat.le_of_ble_eq_true rfl) rfl rfl ?_
  rintro X rfl hr rfl B
  show AW X 0 0 0 _ _ _ _
  refine aw_iload_n B 1 rfl dX12_isReader_0 rfl ?_
  refine aw_iconst B 0 (by decide) dX12_isReader_1 ?_
  refine aw_aload_n B 0 rfl dX12_isReader_2 rfl ?_
  refine m_get B f_X12_9 dX12_isReader_3 rfl ?_
  refine aw_iconst B 1 (by decide) dX12_isReader_6 ?_
  refine m_ld B (1) (rfl) ((by decide)) dX12_isReader_7 (by decide) ?_
  refine aw_iconst B 1 (by decide) dX12_isReader_8 ?_
  refine aw_isub B dX12_isReader_9 ?_
  refine aw_callS B 0 0 (s_in _ _ _ _ _ _) co_X12_in k_X12_44 dX12_isReader_10 rfl rfl (Nat.le_of_ble_eq_true rfl) (zrm hr (by decide)) (Nat.le_refl _) (Nat.le_refl _) (kI fun r10 h10 hp10 => ?_)
  obtain ⟨rfl, rfl⟩ := hp10
  refine aw_iret B rfl bIn dX12_isReader_13 ?_
  exact ⟨_, rfl, rfl, rfl⟩
theorem upd_s {f : Nat → Int32} {k : Nat} {x : Int32} : upd f k x k = x := by simp [upd]
theorem upd_n {f : Nat → Int32} {k j : Nat} {x : Int32} (h : j ≠ k) : upd f k x j = f j := by simp [upd, h]
theorem mup_s {A : Nat → Nat → Int32} {j : Nat} {f : Nat → Int32} : mup A j f j = f := by simp [mup]
theorem mup_n {A : Nat → Nat → Int32} {j k : Nat} {f : Nat → Int32} (h : k ≠ j) : mup A j f k = A k := by simp [mup, h]
theorem mup_m {A : Nat → Nat → Int32} {j : Nat} {f f' : Nat → Int32} : mup (mup A j f) j f' = mup A j f' := by
  funext k
  by_cases h : k = j <;> simp [mup, h]
theorem mup_i {A : Nat → Nat → Int32} {j : Nat} : mup A j (A j) = A := by
  funext k
  by_cases h : k = j <;> simp [mup, h]
/-- a number between lo and hi -/
def rng (x : Int32) (lo hi : Nat) : Prop := ∃ n : Nat, lo ≤ n ∧ n ≤ hi ∧ x = nI n
def mres (g : zG) (h : Hp) (m : Nat) (F : Nat → Int32) (A : Nat → Nat → Int32) (q : Int32 × (Nat → Int32)) : Int32 → Hp → Prop := fun r h' => r = q.1 ∧ h' = hM g h m F (mup A 1 q.2)
theorem ix_c {x : Int32} {t : Nat} (c : Nat) (e : x = nI t) : nI c + x = nI (c + t) := by rw [e, nI_add]
theorem of_bI {p : Prop} [Decidable p] (h : ¬ bI p = 0) : p := Decidable.of_not_not fun z => h (bI0.mpr z)
theorem nof_bI {p : Prop} [Decidable p] (h : bI p = 0) : ¬ p := bI0.mp h
/-- an int between 0 and a count's last -/
theorem in_cnt {x c : Int32} {n : Nat} (h : 0 ≤ x ∧ x ≤ c - 1) (hn : n < 2 ^ 30) (e : c = nI n) : ∃ k : Nat, k < n ∧ x = nI k := by
  have h0 : ¬ x < 0 := Int32.not_lt.mpr h.1
  obtain ⟨j, hj, rfl⟩ := nI_of h0
  refine ⟨j, ?_, rfl⟩
  have h1 := h.2
  rw [e] at h1
  rcases Nat.eq_zero_or_pos n with z | z
  · subst z
    exact absurd h1 (by
      rw [Int32.not_le, Int32.lt_iff_toInt_lt, nI_toInt hj]
      show (nI 0 - 1 : Int32).toInt < _
      have : (nI 0 - 1 : Int32).toInt = -1 := by decide
      omega)
  · rw [show nI n - 1 = nI (n - 1) from by rw [show n = (n - 1) + 1 by omega, nI_pred]; simp] at h1
    have := (nI_leI hj (by omega)).mp h1
    omega
theorem in_rng {x : Int32} {lo hi : Nat} (h : nI lo ≤ x ∧ x ≤ nI hi) (hhi : hi < 2 ^ 31) (hl : lo < 2 ^ 31) : ∃ k : Nat, lo ≤ k ∧ k ≤ hi ∧ x = nI k := by
  have h0 : ¬ x < 0 := Int32.not_lt.mpr (Int32.le_trans (nI_pos' hl) h.1)
  obtain ⟨j, hj, rfl⟩ := nI_of h0
  exact ⟨j, (nI_leI hl hj).mp h.1, (nI_leI hj hhi).mp h.2, rfl⟩
def q_feed (S : Nat → Int32) (x : Int32) : Int32 × (Nat → Int32) := if bI (0 ≤ x ∧ x ≤ 127) = 0 then (-2, S) else if S 6 = 100 then (-4, S) else (S 6 + 1, upd (upd S (94 + (S 6).toNatClampNeg) x) 6 (S 6 + 1))
def q_slate (S : Nat → Int32) (x y : Int32) : Int32 × (Nat → Int32) := if bI (0 ≤ x ∧ x ≤ 8) = 0 then (-1, S) else if bI (1 ≤ y ∧ y ≤ 4) = 0 then (-2, S) else if S 0 = 6 then (-4, S) else (S 0, upd (upd (upd S (10 + (S 0).toNatClampNeg) x) (16 + (S 0).toNatClampNeg) y) 0 (S 0 + 1))
def q_of (S : Nat → Int32) (x y : Int32) : Int32 × (Nat → Int32) := (if bI (0 ≤ x ∧ x ≤ S 0 - 1) = 0 then -1 else if bI (0 ≤ y ∧ y ≤ 1) = 0 then -1 else S (10 + 6 * y.toNatClampNeg + x.toNatClampNeg), S)
def q_put (S : Nat → Int32) (x y : Int32) : Int32 × (Nat → Int32) := if bI (0 ≤ x ∧ x ≤ S 0 - 1) = 0 then (-1, S) else if bI (0 ≤ y ∧ y ≤ 8) = 0 then (-1, S) else (S (10 + x.toNatClampNeg), upd S (10 + x.toNatClampNeg) y)
def q_reader (S : Nat → Int32) (x y : Int32) : Int32 × (Nat → Int32) := if bI (0 ≤ x ∧ x ≤ 6) = 0 then (-1, S) else if bI (0 ≤ y ∧ y ≤ 9) = 0 then (-2, S) else if S 1 = 4 then (-4, S) else (S 1, upd (upd (upd S (22 + (S 1).toNatClampNeg) x) (26 + (S 1).toNatClampNeg) y) 1 (S 1 + 1))
def q_at (S : Nat → Int32) (x y : Int32) : Int32 × (Nat → Int32) := (if bI (0 ≤ x ∧ x ≤ S 1 - 1) = 0 then -1 else if bI (0 ≤ y ∧ y ≤ 1) = 0 then -1 else S (22 + 4 * y.toNatClampNeg + x.toNatClampNeg), S)
def q_hours (S : Nat → Int32) (x : Int32) : Int32 × (Nat → Int32) := if bI (0 ≤ x ∧ x ≤ 60) = 0 then (-2, S) else if S 8 + x ≤ 9999 then (S 8 + x, upd S 8 (S 8 + x)) else (-3, S)
def q_see (S : Nat → Int32) (x y : Int32) : Int32 × (Nat → Int32) := if x = -1 then (0, upd S 4 0) else if bI (0 ≤ x ∧ x ≤ 60) = 0 then (-2, S) else if S 4 = 8 then (-4, S) else (S 4 + 1, upd (upd (upd S (54 + (S 4).toNatClampNeg) x) (62 + (S 4).toNatClampNeg) (if y = 0 then 0 else 1)) 4 (S 4 + 1))
theorem dX12_feed_0 : decode cX12_feed 0 = .ok (.iload_n 1, 1) := by decide +kernel
theorem dX12_feed_1 : decode cX12_feed 1 = .ok (.iconst 0, 1) := by decide +kernel
theorem dX12_feed_2 : decode cX12_feed 2 = .ok (.bipush 127, 2) := by decide +kernel
theorem dX12_feed_4 : decode cX12_feed 4 = .ok (.invokestatic 44, 3) := by decide +kernel
theorem dX12_feed_7 : decode cX12_feed 7 = .ok (.ifCond .ne 6, 3) := by decide +kernel
theorem dX12_feed_10 : decode cX12_feed 10 = .ok (.bipush (-2), 2) := by decide +kernel
theorem dX12_feed_12 : decode cX12_feed 12 = .ok (.ireturn, 1) := by decide +kernel
theorem dX12_feed_13 : decode cX12_feed 13 = .ok (.aload_n 0, 1) := by decide +kernel
theorem dX12_feed_14 : decode cX12_feed 14 = .ok (.getfield 9, 3) := by decide +kernel
theorem dX12_feed_17 : decode cX12_feed 17 = .ok (.bipush 6, 2) := by decide +kernel
theorem dX12_feed_19 : decode cX12_feed 19 = .ok (.iaload, 1) := by decide +kernel
theorem dX12_feed_20 : decode cX12_feed 20 = .ok (.bipush 100, 2) := by decide +kernel
theorem dX12_feed_22 : decode cX12_feed 22 = .ok (.if_icmp .ne 6, 3) := by decide +kernel
theorem dX12_feed_25 : decode cX12_feed 25 = .ok (.bipush (-4), 2) := by decide +kernel
theorem dX12_feed_27 : decode cX12_feed 27 = .ok (.ireturn, 1) := by decide +kernel
theorem dX12_feed_28 : decode cX12_feed 28 = .ok (.aload_n 0, 1) := by decide +kernel
theorem dX12_feed_29 : decode cX12_feed 29 = .ok (.getfield 9, 3) := by decide +kernel
theorem dX12_feed_32 : decode cX12_feed 32 = .ok (.bipush 94, 2) := by decide +kernel
theorem dX12_feed_34 : decode cX12_feed 34 = .ok (.aload_n 0, 1) := by decide +kernel
theorem dX12_feed_35 : decode cX12_feed 35 = .ok (.getfield 9, 3) := by decide +kernel
theorem dX12_feed_38 : decode cX12_feed 38 = .ok (.bipush 6, 2) := by decide +kernel
theorem dX12_feed_40 : decode cX12_feed 40 = .ok (.iaload, 1) := by decide +kernel
theorem dX12_feed_41 : decode cX12_feed 41 = .ok (.iadd, 1) := by decide +kernel
theorem dX12_feed_42 : decode cX12_feed 42 = .ok (.iload_n 1, 1) := by decide +kernel
theorem dX12_feed_43 : decode cX12_feed 43 = .ok (.iastore, 1) := by decide +kernel
theorem dX12_feed_44 : decode cX12_feed 44 = .ok (.aload_n 0, 1) := by decide +kernel
theorem dX12_feed_45 : decode cX12_feed 45 = .ok (.getfield 9, 3) := by decide +kernel
theorem dX12_feed_48 : decode cX12_feed 48 = .ok (.bipush 6, 2) := by decide +kernel
theorem dX12_feed_50 : decode cX12_feed 50 = .ok (.dup2, 1) := by decide +kernel
theorem dX12_feed_51 : decode cX12_feed 51 = .ok (.iaload, 1) := by decide +kernel
theorem dX12_feed_52 : decode cX12_feed 52 = .ok (.iconst 1, 1) := by decide +kernel
theorem dX12_feed_53 : decode cX12_feed 53 = .ok (.iadd, 1) := by decide +kernel
theorem dX12_feed_54 : decode cX12_feed 54 = .ok (.iastore, 1) := by decide +kernel
theorem dX12_feed_55 : decode cX12_feed 55 = .ok (.aload_n 0, 1) := by decide +kernel
theorem dX12_feed_56 : decode cX12_feed 56 = .ok (.getfield 9, 3) := by decide +kernel
theorem dX12_feed_59 : decode cX12_feed 59 = .ok (.bipush 6, 2) := by decide +kernel
theorem dX12_feed_61 : decode cX12_feed 61 = .ok (.iaload, 1) := by decide +kernel
theorem dX12_feed_62 : decode cX12_feed 62 = .ok (.ireturn, 1) := by decide +kernel
set_option maxRecDepth 100000 in
set_option maxHeartbeats 4000000 in
theorem s_feed (l : Launch) (g : zG) (h : Hp) (m : Nat) (F : Nat → Int32) (A : Nat → Nat → Int32) (x : Int32) (ht : rng (A 1 6) 0 100) : Sp l g yX12_feed cX12_feed 2 (some .int) (rmz 2) [.ref m, .int x] (hM g h m F A) (zI (mres g h m F A (q_feed (A 1) x))) := by
  refine Sp.of [some (.ref m), some (.int x)] (by decide) (Nat.le_of_ble_eq_true rfl) rfl rfl ?_
  rintro X rfl hr rfl B
  show AW X 0 0 0 _ _ _ _
  obtain ⟨t, -, ht, et⟩ := ht
  have ek : (A 1 6).toNatClampNeg = t := by rw [et, nI_clamp (by omega)]
  refine aw_iload_n B 1 rfl dX12_feed_0 rfl ?_
  refine aw_iconst B 0 (by decide) dX12_feed_1 ?_
  refine aw_bipush B 127 (by decide) dX12_feed_2 ?_
  refine aw_callS B 0 0 (s_in _ _ _ _ _ _) co_X12_in k_X12_44 dX12_feed_4 rfl rfl (Nat.le_of_ble_eq_true rfl) (zrm hr (by decide)) (Nat.le_refl _) (Nat.le_refl _) (kI fun r4 h4 hp4 => ?_)
  obtain ⟨rfl, rfl⟩ := hp4
  refine aw_if_ne B 13 dX12_feed_7 (fun c7 => ?_) (fun c7 => ?_)
  · refine aw_aload_n B 0 rfl dX12_feed_13 rfl ?_
    refine m_get B f_X12_9 dX12_feed_14 rfl ?_
    refine aw_bipush B 6 (by decide) dX12_feed_17 ?_
    refine m_ld B (6) (rfl) ((by decide)) dX12_feed_19 (by decide) ?_
    refine aw_bipush B 100 (by decide) dX12_feed_20 ?_
    refine aw_icmp_ne B 28 dX12_feed_22 (fun c22 => ?_) (fun c22 => ?_)
    · have hlt : t < 100 := by
        rcases Nat.lt_or_ge t 100 with z | z
        · exact z
        · exact absurd (by rw [et, show t = 100 by omega]; rfl) c22
      refine aw_aload_n B 0 rfl dX12_feed_28 rfl ?_
      refine m_get B f_X12_9 dX12_feed_29 rfl ?_
      refine aw_bipush B 94 (by decide) dX12_feed_32 ?_
      refine aw_aload_n B 0 rfl dX12_feed_34 rfl ?_
      refine m_get B f_X12_9 dX12_feed_35 rfl ?_
      refine aw_bipush B 6 (by decide) dX12_feed_38 ?_
      refine m_ld B (6) (rfl) ((by decide)) dX12_feed_40 (by decide) ?_
      refine aw_iadd B dX12_feed_41 ?_
      refine aw_iload_n B 1 rfl dX12_feed_42 rfl ?_
      refine m_st B (94 + t) (ix_c 94 et) (by show _ < 899; omega) dX12_feed_43 (by decide) ?_
      refine aw_aload_n B 0 rfl dX12_feed_44 rfl ?_
      refine m_get B f_X12_9 dX12_feed_45 rfl ?_
      refine aw_bipush B 6 (by decide) dX12_feed_48 ?_
      refine aw_dup2 B rfl rfl dX12_feed_50 ?_
      refine m_ld B (6) (rfl) ((by decide)) dX12_feed_51 (by decide) ?_
      refine aw_iconst B 1 (by decide) dX12_feed_52 ?_
      refine aw_iadd B dX12_feed_53 ?_
      refine m_st B (6) (rfl) ((by decide)) dX12_feed_54 (by decide) ?_
      refine aw_aload_n B 0 rfl dX12_feed_55 rfl ?_
      refine m_get B f_X12_9 dX12_feed_56 rfl ?_
      refine aw_bipush B 6 (by decide) dX12_feed_59 ?_
      refine m_ld B (6) (rfl) ((by decide)) dX12_feed_61 (by decide) ?_
      refine aw_iret B rfl rfl dX12_feed_62 ?_
      exact ⟨_, rfl, by (try simp (disch := omega) only [mup_s, mup_m, mup_i, upd_s, upd_n]); (try simp_all [q_feed, mup_s, mup_m, mup_i, upd_s, upd_n]), by (try simp (disch := omega) only [mup_s, mup_m, mup_i, upd_s, upd_n]); (try simp_all [q_feed, mup_s, mup_m, mup_i, upd_s, upd_n])⟩
    · refine aw_bipush B (-4) (by decide) dX12_feed_25 ?_
      refine aw_iret B rfl rfl dX12_feed_27 ?_
      exact ⟨_, rfl, by (try simp (disch := omega) only [mup_s, mup_m, mup_i, upd_s, upd_n]); (try simp_all [q_feed, mup_s, mup_m, mup_i, upd_s, upd_n]), by (try simp (disch := omega) only [mup_s, mup_m, mup_i, upd_s, upd_n]); (try simp_all [q_feed, mup_s, mup_m, mup_i, upd_s, upd_n])⟩
  · refine aw_bipush B (-2) (by decide) dX12_feed_10 ?_
    refine aw_iret B rfl rfl dX12_feed_12 ?_
    exact ⟨_, rfl, by (try simp (disch := omega) only [mup_s, mup_m, mup_i, upd_s, upd_n]); (try simp_all [q_feed, mup_s, mup_m, mup_i, upd_s, upd_n]), by (try simp (disch := omega) only [mup_s, mup_m, mup_i, upd_s, upd_n]); (try simp_all [q_feed, mup_s, mup_m, mup_i, upd_s, upd_n])⟩
theorem dX12_slate_0 : decode cX12_slate 0 = .ok (.iload_n 1, 1) := by decide +kernel
theorem dX12_slate_1 : decode cX12_slate 1 = .ok (.invokestatic 137, 3) := by decide +kernel
theorem dX12_slate_4 : decode cX12_slate 4 = .ok (.ifCond .ne 5, 3) := by decide +kernel
theorem dX12_slate_7 : decode cX12_slate 7 = .ok (.iconst (-1), 1) := by decide +kernel
theorem dX12_slate_8 : decode cX12_slate 8 = .ok (.ireturn, 1) := by decide +kernel
theorem dX12_slate_9 : decode cX12_slate 9 = .ok (.iload_n 2, 1) := by decide +kernel
theorem dX12_slate_10 : decode cX12_slate 10 = .ok (.iconst 1, 1) := by decide +kernel
theorem dX12_slate_11 : decode cX12_slate 11 = .ok (.iconst 4, 1) := by decide +kernel
theorem dX12_slate_12 : decode cX12_slate 12 = .ok (.invokestatic 44, 3) := by decide +kernel
theorem dX12_slate_15 : decode cX12_slate 15 = .ok (.ifCond .ne 6, 3) := by decide +kernel
theorem dX12_slate_18 : decode cX12_slate 18 = .ok (.bipush (-2), 2) := by decide +kernel
theorem dX12_slate_20 : decode cX12_slate 20 = .ok (.ireturn, 1) := by decide +kernel
theorem dX12_slate_21 : decode cX12_slate 21 = .ok (.aload_n 0, 1) := by decide +kernel
theorem dX12_slate_22 : decode cX12_slate 22 = .ok (.getfield 9, 3) := by decide +kernel
theorem dX12_slate_25 : decode cX12_slate 25 = .ok (.iconst 0, 1) := by decide +kernel
theorem dX12_slate_26 : decode cX12_slate 26 = .ok (.iaload, 1) := by decide +kernel
theorem dX12_slate_27 : decode cX12_slate 27 = .ok (.bipush 6, 2) := by decide +kernel
theorem dX12_slate_29 : decode cX12_slate 29 = .ok (.if_icmp .ne 6, 3) := by decide +kernel
theorem dX12_slate_32 : decode cX12_slate 32 = .ok (.bipush (-4), 2) := by decide +kernel
theorem dX12_slate_34 : decode cX12_slate 34 = .ok (.ireturn, 1) := by decide +kernel
theorem dX12_slate_35 : decode cX12_slate 35 = .ok (.aload_n 0, 1) := by decide +kernel
theorem dX12_slate_36 : decode cX12_slate 36 = .ok (.getfield 9, 3) := by decide +kernel
theorem dX12_slate_39 : decode cX12_slate 39 = .ok (.iconst 0, 1) := by decide +kernel
theorem dX12_slate_40 : decode cX12_slate 40 = .ok (.iaload, 1) := by decide +kernel
theorem dX12_slate_41 : decode cX12_slate 41 = .ok (.istore_n 3, 1) := by decide +kernel
theorem dX12_slate_42 : decode cX12_slate 42 = .ok (.aload_n 0, 1) := by decide +kernel
theorem dX12_slate_43 : decode cX12_slate 43 = .ok (.getfield 9, 3) := by decide +kernel
theorem dX12_slate_46 : decode cX12_slate 46 = .ok (.bipush 10, 2) := by decide +kernel
theorem dX12_slate_48 : decode cX12_slate 48 = .ok (.iload_n 3, 1) := by decide +kernel
theorem dX12_slate_49 : decode cX12_slate 49 = .ok (.iadd, 1) := by decide +kernel
theorem dX12_slate_50 : decode cX12_slate 50 = .ok (.iload_n 1, 1) := by decide +kernel
theorem dX12_slate_51 : decode cX12_slate 51 = .ok (.iastore, 1) := by decide +kernel
theorem dX12_slate_52 : decode cX12_slate 52 = .ok (.aload_n 0, 1) := by decide +kernel
theorem dX12_slate_53 : decode cX12_slate 53 = .ok (.getfield 9, 3) := by decide +kernel
theorem dX12_slate_56 : decode cX12_slate 56 = .ok (.bipush 16, 2) := by decide +kernel
theorem dX12_slate_58 : decode cX12_slate 58 = .ok (.iload_n 3, 1) := by decide +kernel
theorem dX12_slate_59 : decode cX12_slate 59 = .ok (.iadd, 1) := by decide +kernel
theorem dX12_slate_60 : decode cX12_slate 60 = .ok (.iload_n 2, 1) := by decide +kernel
theorem dX12_slate_61 : decode cX12_slate 61 = .ok (.iastore, 1) := by decide +kernel
theorem dX12_slate_62 : decode cX12_slate 62 = .ok (.aload_n 0, 1) := by decide +kernel
theorem dX12_slate_63 : decode cX12_slate 63 = .ok (.getfield 9, 3) := by decide +kernel
theorem dX12_slate_66 : decode cX12_slate 66 = .ok (.iconst 0, 1) := by decide +kernel
theorem dX12_slate_67 : decode cX12_slate 67 = .ok (.dup2, 1) := by decide +kernel
theorem dX12_slate_68 : decode cX12_slate 68 = .ok (.iaload, 1) := by decide +kernel
theorem dX12_slate_69 : decode cX12_slate 69 = .ok (.iconst 1, 1) := by decide +kernel
theorem dX12_slate_70 : decode cX12_slate 70 = .ok (.iadd, 1) := by decide +kernel
theorem dX12_slate_71 : decode cX12_slate 71 = .ok (.iastore, 1) := by decide +kernel
theorem dX12_slate_72 : decode cX12_slate 72 = .ok (.iload_n 3, 1) := by decide +kernel
theorem dX12_slate_73 : decode cX12_slate 73 = .ok (.ireturn, 1) := by decide +kernel
set_option maxRecDepth 100000 in
set_option maxHeartbeats 4000000 in
theorem s_slate (l : Launch) (g : zG) (h : Hp) (m : Nat) (F : Nat → Int32) (A : Nat → Nat → Int32) (x y : Int32) (ht : rng (A 1 0) 0 6) : Sp l g yX12_slate cX12_slate 4 (some .int) (rmz 3) [.ref m, .int x, .int y] (hM g h m F A) (zI (mres g h m F A (q_slate (A 1) x y))) := by
  refine Sp.of [some (.ref m), some (.int x), some (.int y), none] (by decide) (Nat.le_of_ble_eq_true rfl) rfl rfl ?_
  rintro X rfl hr rfl B
  show AW X 0 0 0 _ _ _ _
  obtain ⟨t, -, ht, et⟩ := ht
  have ek : (A 1 0).toNatClampNeg = t := by rw [et, nI_clamp (by omega)]
  refine aw_iload_n B 1 rfl dX12_slate_0 rfl ?_
  refine aw_callS B 0 0 (s_isShelf _ _ _ _) co_X12_isShelf k_X12_137 dX12_slate_1 rfl rfl (Nat.le_of_ble_eq_true rfl) (zrm hr (by decide)) (Nat.le_refl _) (Nat.le_refl _) (kI fun r1 h1 hp1 => ?_)
  obtain ⟨rfl, rfl⟩ := hp1
  refine aw_if_ne B 9 dX12_slate_4 (fun c4 => ?_) (fun c4 => ?_)
  · refine aw_iload_n B 2 rfl dX12_slate_9 rfl ?_
    refine aw_iconst B 1 (by decide) dX12_slate_10 ?_
    refine aw_iconst B 4 (by decide) dX12_slate_11 ?_
    refine aw_callS B 0 0 (s_in _ _ _ _ _ _) co_X12_in k_X12_44 dX12_slate_12 rfl rfl (Nat.le_of_ble_eq_true rfl) (zrm hr (by decide)) (Nat.le_refl _) (Nat.le_refl _) (kI fun r12 h12 hp12 => ?_)
    obtain ⟨rfl, rfl⟩ := hp12
    refine aw_if_ne B 21 dX12_slate_15 (fun c15 => ?_) (fun c15 => ?_)
    · refine aw_aload_n B 0 rfl dX12_slate_21 rfl ?_
      refine m_get B f_X12_9 dX12_slate_22 rfl ?_
      refine aw_iconst B 0 (by decide) dX12_slate_25 ?_
      refine m_ld B (0) (rfl) ((by decide)) dX12_slate_26 (by decide) ?_
      refine aw_bipush B 6 (by decide) dX12_slate_27 ?_
      refine aw_icmp_ne B 35 dX12_slate_29 (fun c29 => ?_) (fun c29 => ?_)
      · have hlt : t < 6 := by
          rcases Nat.lt_or_ge t 6 with z | z
          · exact z
          · exact absurd (by rw [et, show t = 6 by omega]; rfl) c29
        refine aw_aload_n B 0 rfl dX12_slate_35 rfl ?_
        refine m_get B f_X12_9 dX12_slate_36 rfl ?_
        refine aw_iconst B 0 (by decide) dX12_slate_39 ?_
        refine m_ld B (0) (rfl) ((by decide)) dX12_slate_40 (by decide) ?_
        refine aw_istore3 B dX12_slate_41 ?_
        refine aw_aload_n B 0 rfl dX12_slate_42 rfl ?_
        refine m_get B f_X12_9 dX12_slate_43 rfl ?_
        refine aw_bipush B 10 (by decide) dX12_slate_46 ?_
        refine aw_iload_n B 3 rfl dX12_slate_48 rfl ?_
        refine aw_iadd B dX12_slate_49 ?_
        refine aw_iload_n B 1 rfl dX12_slate_50 rfl ?_
        refine m_st B (10 + t) (ix_c 10 et) (by show _ < 899; omega) dX12_slate_51 (by decide) ?_
        refine aw_aload_n B 0 rfl dX12_slate_52 rfl ?_
        refine m_get B f_X12_9 dX12_slate_53 rfl ?_
        refine aw_bipush B 16 (by decide) dX12_slate_56 ?_
        refine aw_iload_n B 3 rfl dX12_slate_58 rfl ?_
        refine aw_iadd B dX12_slate_59 ?_
        refine aw_iload_n B 2 rfl dX12_slate_60 rfl ?_
        refine m_st B (16 + t) (ix_c 16 et) (by show _ < 899; omega) dX12_slate_61 (by decide) ?_
        refine aw_aload_n B 0 rfl dX12_slate_62 rfl ?_
        refine m_get B f_X12_9 dX12_slate_63 rfl ?_
        refine aw_iconst B 0 (by decide) dX12_slate_66 ?_
        refine aw_dup2 B rfl rfl dX12_slate_67 ?_
        refine m_ld B (0) (rfl) ((by decide)) dX12_slate_68 (by decide) ?_
        refine aw_iconst B 1 (by decide) dX12_slate_69 ?_
        refine aw_iadd B dX12_slate_70 ?_
        refine m_st B (0) (rfl) ((by decide)) dX12_slate_71 (by decide) ?_
        refine aw_iload_n B 3 rfl dX12_slate_72 rfl ?_
        refine aw_iret B rfl rfl dX12_slate_73 ?_
        exact ⟨_, rfl, by (try simp (disch := omega) only [mup_s, mup_m, mup_i, upd_s, upd_n]); (try simp_all [q_slate, mup_s, mup_m, mup_i, upd_s, upd_n]), by (try simp (disch := omega) only [mup_s, mup_m, mup_i, upd_s, upd_n]); (try simp_all [q_slate, mup_s, mup_m, mup_i, upd_s, upd_n])⟩
      · refine aw_bipush B (-4) (by decide) dX12_slate_32 ?_
        refine aw_iret B rfl rfl dX12_slate_34 ?_
        exact ⟨_, rfl, by (try simp (disch := omega) only [mup_s, mup_m, mup_i, upd_s, upd_n]); (try simp_all [q_slate, mup_s, mup_m, mup_i, upd_s, upd_n]), by (try simp (disch := omega) only [mup_s, mup_m, mup_i, upd_s, upd_n]); (try simp_all [q_slate, mup_s, mup_m, mup_i, upd_s, upd_n])⟩
    · refine aw_bipush B (-2) (by decide) dX12_slate_18 ?_
      refine aw_iret B rfl rfl dX12_slate_20 ?_
      exact ⟨_, rfl, by (try simp (disch := omega) only [mup_s, mup_m, mup_i, upd_s, upd_n]); (try simp_all [q_slate, mup_s, mup_m, mup_i, upd_s, upd_n]), by (try simp (disch := omega) only [mup_s, mup_m, mup_i, upd_s, upd_n]); (try simp_all [q_slate, mup_s, mup_m, mup_i, upd_s, upd_n])⟩
  · refine aw_iconst B (-1) (by decide) dX12_slate_7 ?_
    refine aw_iret B rfl rfl dX12_slate_8 ?_
    exact ⟨_, rfl, by (try simp (disch := omega) only [mup_s, mup_m, mup_i, upd_s, upd_n]); (try simp_all [q_slate, mup_s, mup_m, mup_i, upd_s, upd_n]), by (try simp (disch := omega) only [mup_s, mup_m, mup_i, upd_s, upd_n]); (try simp_all [q_slate, mup_s, mup_m, mup_i, upd_s, upd_n])⟩
theorem dX12_reader_0 : decode cX12_reader 0 = .ok (.iload_n 1, 1) := by decide +kernel
theorem dX12_reader_1 : decode cX12_reader 1 = .ok (.iconst 0, 1) := by decide +kernel
theorem dX12_reader_2 : decode cX12_reader 2 = .ok (.bipush 6, 2) := by decide +kernel
theorem dX12_reader_4 : decode cX12_reader 4 = .ok (.invokestatic 44, 3) := by decide +kernel
theorem dX12_reader_7 : decode cX12_reader 7 = .ok (.ifCond .ne 5, 3) := by decide +kernel
theorem dX12_reader_10 : decode cX12_reader 10 = .ok (.iconst (-1), 1) := by decide +kernel
theorem dX12_reader_11 : decode cX12_reader 11 = .ok (.ireturn, 1) := by decide +kernel
theorem dX12_reader_12 : decode cX12_reader 12 = .ok (.iload_n 2, 1) := by decide +kernel
theorem dX12_reader_13 : decode cX12_reader 13 = .ok (.iconst 0, 1) := by decide +kernel
theorem dX12_reader_14 : decode cX12_reader 14 = .ok (.bipush 9, 2) := by decide +kernel
theorem dX12_reader_16 : decode cX12_reader 16 = .ok (.invokestatic 44, 3) := by decide +kernel
theorem dX12_reader_19 : decode cX12_reader 19 = .ok (.ifCond .ne 6, 3) := by decide +kernel
theorem dX12_reader_22 : decode cX12_reader 22 = .ok (.bipush (-2), 2) := by decide +kernel
theorem dX12_reader_24 : decode cX12_reader 24 = .ok (.ireturn, 1) := by decide +kernel
theorem dX12_reader_25 : decode cX12_reader 25 = .ok (.aload_n 0, 1) := by decide +kernel
theorem dX12_reader_26 : decode cX12_reader 26 = .ok (.getfield 9, 3) := by decide +kernel
theorem dX12_reader_29 : decode cX12_reader 29 = .ok (.iconst 1, 1) := by decide +kernel
theorem dX12_reader_30 : decode cX12_reader 30 = .ok (.iaload, 1) := by decide +kernel
theorem dX12_reader_31 : decode cX12_reader 31 = .ok (.iconst 4, 1) := by decide +kernel
theorem dX12_reader_32 : decode cX12_reader 32 = .ok (.if_icmp .ne 6, 3) := by decide +kernel
theorem dX12_reader_35 : decode cX12_reader 35 = .ok (.bipush (-4), 2) := by decide +kernel
theorem dX12_reader_37 : decode cX12_reader 37 = .ok (.ireturn, 1) := by decide +kernel
theorem dX12_reader_38 : decode cX12_reader 38 = .ok (.aload_n 0, 1) := by decide +kernel
theorem dX12_reader_39 : decode cX12_reader 39 = .ok (.getfield 9, 3) := by decide +kernel
theorem dX12_reader_42 : decode cX12_reader 42 = .ok (.iconst 1, 1) := by decide +kernel
theorem dX12_reader_43 : decode cX12_reader 43 = .ok (.iaload, 1) := by decide +kernel
theorem dX12_reader_44 : decode cX12_reader 44 = .ok (.istore_n 3, 1) := by decide +kernel
theorem dX12_reader_45 : decode cX12_reader 45 = .ok (.aload_n 0, 1) := by decide +kernel
theorem dX12_reader_46 : decode cX12_reader 46 = .ok (.getfield 9, 3) := by decide +kernel
theorem dX12_reader_49 : decode cX12_reader 49 = .ok (.bipush 22, 2) := by decide +kernel
theorem dX12_reader_51 : decode cX12_reader 51 = .ok (.iload_n 3, 1) := by decide +kernel
theorem dX12_reader_52 : decode cX12_reader 52 = .ok (.iadd, 1) := by decide +kernel
theorem dX12_reader_53 : decode cX12_reader 53 = .ok (.iload_n 1, 1) := by decide +kernel
theorem dX12_reader_54 : decode cX12_reader 54 = .ok (.iastore, 1) := by decide +kernel
theorem dX12_reader_55 : decode cX12_reader 55 = .ok (.aload_n 0, 1) := by decide +kernel
theorem dX12_reader_56 : decode cX12_reader 56 = .ok (.getfield 9, 3) := by decide +kernel
theorem dX12_reader_59 : decode cX12_reader 59 = .ok (.bipush 26, 2) := by decide +kernel
theorem dX12_reader_61 : decode cX12_reader 61 = .ok (.iload_n 3, 1) := by decide +kernel
theorem dX12_reader_62 : decode cX12_reader 62 = .ok (.iadd, 1) := by decide +kernel
theorem dX12_reader_63 : decode cX12_reader 63 = .ok (.iload_n 2, 1) := by decide +kernel
theorem dX12_reader_64 : decode cX12_reader 64 = .ok (.iastore, 1) := by decide +kernel
theorem dX12_reader_65 : decode cX12_reader 65 = .ok (.aload_n 0, 1) := by decide +kernel
theorem dX12_reader_66 : decode cX12_reader 66 = .ok (.getfield 9, 3) := by decide +kernel
theorem dX12_reader_69 : decode cX12_reader 69 = .ok (.iconst 1, 1) := by decide +kernel
theorem dX12_reader_70 : decode cX12_reader 70 = .ok (.dup2, 1) := by decide +kernel
theorem dX12_reader_71 : decode cX12_reader 71 = .ok (.iaload, 1) := by decide +kernel
theorem dX12_reader_72 : decode cX12_reader 72 = .ok (.iconst 1, 1) := by decide +kernel
theorem dX12_reader_73 : decode cX12_reader 73 = .ok (.iadd, 1) := by decide +kernel
theorem dX12_reader_74 : decode cX12_reader 74 = .ok (.iastore, 1) := by decide +kernel
theorem dX12_reader_75 : decode cX12_reader 75 = .ok (.iload_n 3, 1) := by decide +kernel
theorem dX12_reader_76 : decode cX12_reader 76 = .ok (.ireturn, 1) := by decide +kernel
set_option maxRecDepth 100000 in
set_option maxHeartbeats 4000000 in
theorem s_reader (l : Launch) (g : zG) (h : Hp) (m : Nat) (F : Nat → Int32) (A : Nat → Nat → Int32) (x y : Int32) (ht : rng (A 1 1) 0 4) : Sp l g yX12_reader cX12_reader 4 (some .int) (rmz 2) [.ref m, .int x, .int y] (hM g h m F A) (zI (mres g h m F A (q_reader (A 1) x y))) := by
  refine Sp.of [some (.ref m), some (.int x), some (.int y), none] (by decide) (Nat.le_of_ble_eq_true rfl) rfl rfl ?_
  rintro X rfl hr rfl B
  show AW X 0 0 0 _ _ _ _
  obtain ⟨t, -, ht, et⟩ := ht
  have ek : (A 1 1).toNatClampNeg = t := by rw [et, nI_clamp (by omega)]
  refine aw_iload_n B 1 rfl dX12_reader_0 rfl ?_
  refine aw_iconst B 0 (by decide) dX12_reader_1 ?_
  refine aw_bipush B 6 (by decide) dX12_reader_2 ?_
  refine aw_callS B 0 0 (s_in _ _ _ _ _ _) co_X12_in k_X12_44 dX12_reader_4 rfl rfl (Nat.le_of_ble_eq_true rfl) (zrm hr (by decide)) (Nat.le_refl _) (Nat.le_refl _) (kI fun r4 h4 hp4 => ?_)
  obtain ⟨rfl, rfl⟩ := hp4
  refine aw_if_ne B 12 dX12_reader_7 (fun c7 => ?_) (fun c7 => ?_)
  · refine aw_iload_n B 2 rfl dX12_reader_12 rfl ?_
    refine aw_iconst B 0 (by decide) dX12_reader_13 ?_
    refine aw_bipush B 9 (by decide) dX12_reader_14 ?_
    refine aw_callS B 0 0 (s_in _ _ _ _ _ _) co_X12_in k_X12_44 dX12_reader_16 rfl rfl (Nat.le_of_ble_eq_true rfl) (zrm hr (by decide)) (Nat.le_refl _) (Nat.le_refl _) (kI fun r16 h16 hp16 => ?_)
    obtain ⟨rfl, rfl⟩ := hp16
    refine aw_if_ne B 25 dX12_reader_19 (fun c19 => ?_) (fun c19 => ?_)
    · refine aw_aload_n B 0 rfl dX12_reader_25 rfl ?_
      refine m_get B f_X12_9 dX12_reader_26 rfl ?_
      refine aw_iconst B 1 (by decide) dX12_reader_29 ?_
      refine m_ld B (1) (rfl) ((by decide)) dX12_reader_30 (by decide) ?_
      refine aw_iconst B 4 (by decide) dX12_reader_31 ?_
      refine aw_icmp_ne B 38 dX12_reader_32 (fun c32 => ?_) (fun c32 => ?_)
      · have hlt : t < 4 := by
          rcases Nat.lt_or_ge t 4 with z | z
          · exact z
          · exact absurd (by rw [et, show t = 4 by omega]; rfl) c32
        refine aw_aload_n B 0 rfl dX12_reader_38 rfl ?_
        refine m_get B f_X12_9 dX12_reader_39 rfl ?_
        refine aw_iconst B 1 (by decide) dX12_reader_42 ?_
        refine m_ld B (1) (rfl) ((by decide)) dX12_reader_43 (by decide) ?_
        refine aw_istore3 B dX12_reader_44 ?_
        refine aw_aload_n B 0 rfl dX12_reader_45 rfl ?_
        refine m_get B f_X12_9 dX12_reader_46 rfl ?_
        refine aw_bipush B 22 (by decide) dX12_reader_49 ?_
        refine aw_iload_n B 3 rfl dX12_reader_51 rfl ?_
        refine aw_iadd B dX12_reader_52 ?_
        refine aw_iload_n B 1 rfl dX12_reader_53 rfl ?_
        refine m_st B (22 + t) (ix_c 22 et) (by show _ < 899; omega) dX12_reader_54 (by decide) ?_
        refine aw_aload_n B 0 rfl dX12_reader_55 rfl ?_
        refine m_get B f_X12_9 dX12_reader_56 rfl ?_
        refine aw_bipush B 26 (by decide) dX12_reader_59 ?_
        refine aw_iload_n B 3 rfl dX12_reader_61 rfl ?_
        refine aw_iadd B dX12_reader_62 ?_
        refine aw_iload_n B 2 rfl dX12_reader_63 rfl ?_
        refine m_st B (26 + t) (ix_c 26 et) (by show _ < 899; omega) dX12_reader_64 (by decide) ?_
        refine aw_aload_n B 0 rfl dX12_reader_65 rfl ?_
        refine m_get B f_X12_9 dX12_reader_66 rfl ?_
        refine aw_iconst B 1 (by decide) dX12_reader_69 ?_
        refine aw_dup2 B rfl rfl dX12_reader_70 ?_
        refine m_ld B (1) (rfl) ((by decide)) dX12_reader_71 (by decide) ?_
        refine aw_iconst B 1 (by decide) dX12_reader_72 ?_
        refine aw_iadd B dX12_reader_73 ?_
        refine m_st B (1) (rfl) ((by decide)) dX12_reader_74 (by decide) ?_
        refine aw_iload_n B 3 rfl dX12_reader_75 rfl ?_
        refine aw_iret B rfl rfl dX12_reader_76 ?_
        exact ⟨_, rfl, by (try simp (disch := omega) only [mup_s, mup_m, mup_i, upd_s, upd_n]); (try simp_all [q_reader, mup_s, mup_m, mup_i, upd_s, upd_n]), by (try simp (disch := omega) only [mup_s, mup_m, mup_i, upd_s, upd_n]); (try simp_all [q_reader, mup_s, mup_m, mup_i, upd_s, upd_n])⟩
      · refine aw_bipush B (-4) (by decide) dX12_reader_35 ?_
        refine aw_iret B rfl rfl dX12_reader_37 ?_
        exact ⟨_, rfl, by (try simp (disch := omega) only [mup_s, mup_m, mup_i, upd_s, upd_n]); (try simp_all [q_reader, mup_s, mup_m, mup_i, upd_s, upd_n]), by (try simp (disch := omega) only [mup_s, mup_m, mup_i, upd_s, upd_n]); (try simp_all [q_reader, mup_s, mup_m, mup_i, upd_s, upd_n])⟩
    · refine aw_bipush B (-2) (by decide) dX12_reader_22 ?_
      refine aw_iret B rfl rfl dX12_reader_24 ?_
      exact ⟨_, rfl, by (try simp (disch := omega) only [mup_s, mup_m, mup_i, upd_s, upd_n]); (try simp_all [q_reader, mup_s, mup_m, mup_i, upd_s, upd_n]), by (try simp (disch := omega) only [mup_s, mup_m, mup_i, upd_s, upd_n]); (try simp_all [q_reader, mup_s, mup_m, mup_i, upd_s, upd_n])⟩
  · refine aw_iconst B (-1) (by decide) dX12_reader_10 ?_
    refine aw_iret B rfl rfl dX12_reader_11 ?_
    exact ⟨_, rfl, by (try simp (disch := omega) only [mup_s, mup_m, mup_i, upd_s, upd_n]); (try simp_all [q_reader, mup_s, mup_m, mup_i, upd_s, upd_n]), by (try simp (disch := omega) only [mup_s, mup_m, mup_i, upd_s, upd_n]); (try simp_all [q_reader, mup_s, mup_m, mup_i, upd_s, upd_n])⟩
theorem dX12_put_0 : decode cX12_put 0 = .ok (.aload_n 0, 1) := by decide +kernel
theorem dX12_put_1 : decode cX12_put 1 = .ok (.iload_n 1, 1) := by decide +kernel
theorem dX12_put_2 : decode cX12_put 2 = .ok (.invokevirtual 141, 3) := by decide +kernel
theorem dX12_put_5 : decode cX12_put 5 = .ok (.ifCond .eq 10, 3) := by decide +kernel
theorem dX12_put_8 : decode cX12_put 8 = .ok (.iload_n 2, 1) := by decide +kernel
theorem dX12_put_9 : decode cX12_put 9 = .ok (.invokestatic 137, 3) := by decide +kernel
theorem dX12_put_12 : decode cX12_put 12 = .ok (.ifCond .ne 5, 3) := by decide +kernel
theorem dX12_put_15 : decode cX12_put 15 = .ok (.iconst (-1), 1) := by decide +kernel
theorem dX12_put_16 : decode cX12_put 16 = .ok (.ireturn, 1) := by decide +kernel
theorem dX12_put_17 : decode cX12_put 17 = .ok (.aload_n 0, 1) := by decide +kernel
theorem dX12_put_18 : decode cX12_put 18 = .ok (.getfield 9, 3) := by decide +kernel
theorem dX12_put_21 : decode cX12_put 21 = .ok (.bipush 10, 2) := by decide +kernel
theorem dX12_put_23 : decode cX12_put 23 = .ok (.iload_n 1, 1) := by decide +kernel
theorem dX12_put_24 : decode cX12_put 24 = .ok (.iadd, 1) := by decide +kernel
theorem dX12_put_25 : decode cX12_put 25 = .ok (.iaload, 1) := by decide +kernel
theorem dX12_put_26 : decode cX12_put 26 = .ok (.istore_n 3, 1) := by decide +kernel
theorem dX12_put_27 : decode cX12_put 27 = .ok (.aload_n 0, 1) := by decide +kernel
theorem dX12_put_28 : decode cX12_put 28 = .ok (.getfield 9, 3) := by decide +kernel
theorem dX12_put_31 : decode cX12_put 31 = .ok (.bipush 10, 2) := by decide +kernel
theorem dX12_put_33 : decode cX12_put 33 = .ok (.iload_n 1, 1) := by decide +kernel
theorem dX12_put_34 : decode cX12_put 34 = .ok (.iadd, 1) := by decide +kernel
theorem dX12_put_35 : decode cX12_put 35 = .ok (.iload_n 2, 1) := by decide +kernel
theorem dX12_put_36 : decode cX12_put 36 = .ok (.iastore, 1) := by decide +kernel
theorem dX12_put_37 : decode cX12_put 37 = .ok (.iload_n 3, 1) := by decide +kernel
theorem dX12_put_38 : decode cX12_put 38 = .ok (.ireturn, 1) := by decide +kernel
set_option maxRecDepth 100000 in
set_option maxHeartbeats 4000000 in
theorem s_put (l : Launch) (g : zG) (h : Hp) (m : Nat) (F : Nat → Int32) (A : Nat → Nat → Int32) (x y : Int32) (ht : rng (A 1 0) 0 6) : Sp l g yX12_put cX12_put 4 (some .int) (rmz 3) [.ref m, .int x, .int y] (hM g h m F A) (zI (mres g h m F A (q_put (A 1) x y))) := by
  refine Sp.of [some (.ref m), some (.int x), some (.int y), none] (by decide) (Nat.le_of_ble_eq_true rfl) rfl rfl ?_
  rintro X rfl hr rfl B
  show AW X 0 0 0 _ _ _ _
  obtain ⟨t, -, ht, et⟩ := ht
  refine aw_aload_n B 0 rfl dX12_put_0 rfl ?_
  refine aw_iload_n B 1 rfl dX12_put_1 rfl ?_
  refine aw_callV B 0 0 (s_isSlate _ _ _ _ _ _ _) co_X12_isSlate k_X12_141 dX12_put_2 hM_o rfl rfl rfl rfl (Nat.le_of_ble_eq_true rfl) (zrm hr (by decide)) (Nat.le_refl _) (Nat.le_refl _) (kI fun r2 h2 hp2 => ?_)
  obtain ⟨rfl, rfl⟩ := hp2
  refine aw_if_eq B 15 dX12_put_5 (fun c5 => ?_) (fun c5 => ?_)
  · refine aw_iconst B (-1) (by decide) dX12_put_15 ?_
    refine aw_iret B rfl rfl dX12_put_16 ?_
    exact ⟨_, rfl, by (try simp (disch := omega) only [mup_s, mup_m, mup_i, upd_s, upd_n]); (try simp_all [q_put, mup_s, mup_m, mup_i, upd_s, upd_n]), by (try simp (disch := omega) only [mup_s, mup_m, mup_i, upd_s, upd_n]); (try simp_all [q_put, mup_s, mup_m, mup_i, upd_s, upd_n])⟩
  · refine aw_iload_n B 2 rfl dX12_put_8 rfl ?_
    refine aw_callS B 0 0 (s_isShelf _ _ _ _) co_X12_isShelf k_X12_137 dX12_put_9 rfl rfl (Nat.le_of_ble_eq_true rfl) (zrm hr (by decide)) (Nat.le_refl _) (Nat.le_refl _) (kI fun r9 h9 hp9 => ?_)
    obtain ⟨rfl, rfl⟩ := hp9
    refine aw_if_ne B 17 dX12_put_12 (fun c12 => ?_) (fun c12 => ?_)
    · obtain ⟨k, hk, rfl⟩ := in_cnt (of_bI c5) (by omega) et
      have ek : (nI k).toNatClampNeg = k := nI_clamp (by omega)
      refine aw_aload_n B 0 rfl dX12_put_17 rfl ?_
      refine m_get B f_X12_9 dX12_put_18 rfl ?_
      refine aw_bipush B 10 (by decide) dX12_put_21 ?_
      refine aw_iload_n B 1 rfl dX12_put_23 rfl ?_
      refine aw_iadd B dX12_put_24 ?_
      refine m_ld B (10 + k) (ix_c 10 rfl) (by show _ < 899; omega) dX12_put_25 (by decide) ?_
      refine aw_istore3 B dX12_put_26 ?_
      refine aw_aload_n B 0 rfl dX12_put_27 rfl ?_
      refine m_get B f_X12_9 dX12_put_28 rfl ?_
      refine aw_bipush B 10 (by decide) dX12_put_31 ?_
      refine aw_iload_n B 1 rfl dX12_put_33 rfl ?_
      refine aw_iadd B dX12_put_34 ?_
      refine aw_iload_n B 2 rfl dX12_put_35 rfl ?_
      refine m_st B (10 + k) (ix_c 10 rfl) (by show _ < 899; omega) dX12_put_36 (by decide) ?_
      refine aw_iload_n B 3 rfl dX12_put_37 rfl ?_
      refine aw_iret B rfl rfl dX12_put_38 ?_
      exact ⟨_, rfl, by (try simp (disch := omega) only [mup_s, mup_m, mup_i, upd_s, upd_n]); (try simp_all [q_put, mup_s, mup_m, mup_i, upd_s, upd_n]), by (try simp (disch := omega) only [mup_s, mup_m, mup_i, upd_s, upd_n]); (try simp_all [q_put, mup_s, mup_m, mup_i, upd_s, upd_n])⟩
    · refine aw_iconst B (-1) (by decide) dX12_put_15 ?_
      refine aw_iret B rfl rfl dX12_put_16 ?_
      exact ⟨_, rfl, by (try simp (disch := omega) only [mup_s, mup_m, mup_i, upd_s, upd_n]); (try simp_all [q_put, mup_s, mup_m, mup_i, upd_s, upd_n]), by (try simp (disch := omega) only [mup_s, mup_m, mup_i, upd_s, upd_n]); (try simp_all [q_put, mup_s, mup_m, mup_i, upd_s, upd_n])⟩
theorem dX12_hours_0 : decode cX12_hours 0 = .ok (.iload_n 1, 1) := by decide +kernel
theorem dX12_hours_1 : decode cX12_hours 1 = .ok (.iconst 0, 1) := by decide +kernel
theorem dX12_hours_2 : decode cX12_hours 2 = .ok (.bipush 60, 2) := by decide +kernel
theorem dX12_hours_4 : decode cX12_hours 4 = .ok (.invokestatic 44, 3) := by decide +kernel
theorem dX12_hours_7 : decode cX12_hours 7 = .ok (.ifCond .ne 6, 3) := by decide +kernel
theorem dX12_hours_10 : decode cX12_hours 10 = .ok (.bipush (-2), 2) := by decide +kernel
theorem dX12_hours_12 : decode cX12_hours 12 = .ok (.ireturn, 1) := by decide +kernel
theorem dX12_hours_13 : decode cX12_hours 13 = .ok (.aload_n 0, 1) := by decide +kernel
theorem dX12_hours_14 : decode cX12_hours 14 = .ok (.getfield 9, 3) := by decide +kernel
theorem dX12_hours_17 : decode cX12_hours 17 = .ok (.bipush 8, 2) := by decide +kernel
theorem dX12_hours_19 : decode cX12_hours 19 = .ok (.iaload, 1) := by decide +kernel
theorem dX12_hours_20 : decode cX12_hours 20 = .ok (.iload_n 1, 1) := by decide +kernel
theorem dX12_hours_21 : decode cX12_hours 21 = .ok (.iadd, 1) := by decide +kernel
theorem dX12_hours_22 : decode cX12_hours 22 = .ok (.sipush 9999, 3) := by decide +kernel
theorem dX12_hours_25 : decode cX12_hours 25 = .ok (.if_icmp .le 6, 3) := by decide +kernel
theorem dX12_hours_28 : decode cX12_hours 28 = .ok (.bipush (-3), 2) := by decide +kernel
theorem dX12_hours_30 : decode cX12_hours 30 = .ok (.ireturn, 1) := by decide +kernel
theorem dX12_hours_31 : decode cX12_hours 31 = .ok (.aload_n 0, 1) := by decide +kernel
theorem dX12_hours_32 : decode cX12_hours 32 = .ok (.getfield 9, 3) := by decide +kernel
theorem dX12_hours_35 : decode cX12_hours 35 = .ok (.bipush 8, 2) := by decide +kernel
theorem dX12_hours_37 : decode cX12_hours 37 = .ok (.dup2, 1) := by decide +kernel
theorem dX12_hours_38 : decode cX12_hours 38 = .ok (.iaload, 1) := by decide +kernel
theorem dX12_hours_39 : decode cX12_hours 39 = .ok (.iload_n 1, 1) := by decide +kernel
theorem dX12_hours_40 : decode cX12_hours 40 = .ok (.iadd, 1) := by decide +kernel
theorem dX12_hours_41 : decode cX12_hours 41 = .ok (.iastore, 1) := by decide +kernel
theorem dX12_hours_42 : decode cX12_hours 42 = .ok (.aload_n 0, 1) := by decide +kernel
theorem dX12_hours_43 : decode cX12_hours 43 = .ok (.getfield 9, 3) := by decide +kernel
theorem dX12_hours_46 : decode cX12_hours 46 = .ok (.bipush 8, 2) := by decide +kernel
theorem dX12_hours_48 : decode cX12_hours 48 = .ok (.iaload, 1) := by decide +kernel
theorem dX12_hours_49 : decode cX12_hours 49 = .ok (.ireturn, 1) := by decide +kernel
set_option maxRecDepth 100000 in
set_option maxHeartbeats 4000000 in
theorem s_hours (l : Launch) (g : zG) (h : Hp) (m : Nat) (F : Nat → Int32) (A : Nat → Nat → Int32) (x : Int32) : Sp l g yX12_hours cX12_hours 2 (some .int) (rmz 2) [.ref m, .int x] (hM g h m F A) (zI (mres g h m F A (q_hours (A 1) x))) := by
  refine Sp.of [some (.ref m), some (.int x)] (by decide) (Nat.le_of_ble_eq_true rfl) rfl rfl ?_
  rintro X rfl hr rfl B
  show AW X 0 0 0 _ _ _ _
  refine aw_iload_n B 1 rfl dX12_hours_0 rfl ?_
  refine aw_iconst B 0 (by decide) dX12_hours_1 ?_
  refine aw_bipush B 60 (by decide) dX12_hours_2 ?_
  refine aw_callS B 0 0 (s_in _ _ _ _ _ _) co_X12_in k_X12_44 dX12_hours_4 rfl rfl (Nat.le_of_ble_eq_true rfl) (zrm hr (by decide)) (Nat.le_refl _) (Nat.le_refl _) (kI fun r4 h4 hp4 => ?_)
  obtain ⟨rfl, rfl⟩ := hp4
  refine aw_if_ne B 13 dX12_hours_7 (fun c7 => ?_) (fun c7 => ?_)
  · refine aw_aload_n B 0 rfl dX12_hours_13 rfl ?_
    refine m_get B f_X12_9 dX12_hours_14 rfl ?_
    refine aw_bipush B 8 (by decide) dX12_hours_17 ?_
    refine m_ld B (8) (rfl) ((by decide)) dX12_hours_19 (by decide) ?_
    refine aw_iload_n B 1 rfl dX12_hours_20 rfl ?_
    refine aw_iadd B dX12_hours_21 ?_
    refine aw_sipush B 9999 (by decide) dX12_hours_22 ?_
    refine aw_icmp_le B 31 dX12_hours_25 (fun c25 => ?_) (fun c25 => ?_)
    · refine aw_aload_n B 0 rfl dX12_hours_31 rfl ?_
      refine m_get B f_X12_9 dX12_hours_32 rfl ?_
      refine aw_bipush B 8 (by decide) dX12_hours_35 ?_
      refine aw_dup2 B rfl rfl dX12_hours_37 ?_
      refine m_ld B (8) (rfl) ((by decide)) dX12_hours_38 (by decide) ?_
      refine aw_iload_n B 1 rfl dX12_hours_39 rfl ?_
      refine aw_iadd B dX12_hours_40 ?_
      refine m_st B (8) (rfl) ((by decide)) dX12_hours_41 (by decide) ?_
      refine aw_aload_n B 0 rfl dX12_hours_42 rfl ?_
      refine m_get B f_X12_9 dX12_hours_43 rfl ?_
      refine aw_bipush B 8 (by decide) dX12_hours_46 ?_
      refine m_ld B (8) (rfl) ((by decide)) dX12_hours_48 (by decide) ?_
      refine aw_iret B rfl rfl dX12_hours_49 ?_
      exact ⟨_, rfl, by (try simp (disch := omega) only [mup_s, mup_m, mup_i, upd_s, upd_n]); (try simp_all [q_hours, mup_s, mup_m, mup_i, upd_s, upd_n]), by (try simp (disch := omega) only [mup_s, mup_m, mup_i, upd_s, upd_n]); (try simp_all [q_hours, mup_s, mup_m, mup_i, upd_s, upd_n])⟩
    · refine aw_bipush B (-3) (by decide) dX12_hours_28 ?_
      refine aw_iret B rfl rfl dX12_hours_30 ?_
      exact ⟨_, rfl, by simp only [q_hours, if_neg c7, if_neg c25], by simp only [q_hours, if_neg c7, if_neg c25, mup_i]⟩
  · refine aw_bipush B (-2) (by decide) dX12_hours_10 ?_
    refine aw_iret B rfl rfl dX12_hours_12 ?_
    exact ⟨_, rfl, by (try simp (disch := omega) only [mup_s, mup_m, mup_i, upd_s, upd_n]); (try simp_all [q_hours, mup_s, mup_m, mup_i, upd_s, upd_n]), by (try simp (disch := omega) only [mup_s, mup_m, mup_i, upd_s, upd_n]); (try simp_all [q_hours, mup_s, mup_m, mup_i, upd_s, upd_n])⟩
theorem dX12_see_0 : decode cX12_see 0 = .ok (.iload_n 1, 1) := by decide +kernel
theorem dX12_see_1 : decode cX12_see 1 = .ok (.iconst (-1), 1) := by decide +kernel
theorem dX12_see_2 : decode cX12_see 2 = .ok (.if_icmp .ne 12, 3) := by decide +kernel
theorem dX12_see_5 : decode cX12_see 5 = .ok (.aload_n 0, 1) := by decide +kernel
theorem dX12_see_6 : decode cX12_see 6 = .ok (.getfield 9, 3) := by decide +kernel
theorem dX12_see_9 : decode cX12_see 9 = .ok (.iconst 4, 1) := by decide +kernel
theorem dX12_see_10 : decode cX12_see 10 = .ok (.iconst 0, 1) := by decide +kernel
theorem dX12_see_11 : decode cX12_see 11 = .ok (.iastore, 1) := by decide +kernel
theorem dX12_see_12 : decode cX12_see 12 = .ok (.iconst 0, 1) := by decide +kernel
theorem dX12_see_13 : decode cX12_see 13 = .ok (.ireturn, 1) := by decide +kernel
theorem dX12_see_14 : decode cX12_see 14 = .ok (.iload_n 1, 1) := by decide +kernel
theorem dX12_see_15 : decode cX12_see 15 = .ok (.iconst 0, 1) := by decide +kernel
theorem dX12_see_16 : decode cX12_see 16 = .ok (.bipush 60, 2) := by decide +kernel
theorem dX12_see_18 : decode cX12_see 18 = .ok (.invokestatic 44, 3) := by decide +kernel
theorem dX12_see_21 : decode cX12_see 21 = .ok (.ifCond .ne 6, 3) := by decide +kernel
theorem dX12_see_24 : decode cX12_see 24 = .ok (.bipush (-2), 2) := by decide +kernel
theorem dX12_see_26 : decode cX12_see 26 = .ok (.ireturn, 1) := by decide +kernel
theorem dX12_see_27 : decode cX12_see 27 = .ok (.aload_n 0, 1) := by decide +kernel
theorem dX12_see_28 : decode cX12_see 28 = .ok (.getfield 9, 3) := by decide +kernel
theorem dX12_see_31 : decode cX12_see 31 = .ok (.iconst 4, 1) := by decide +kernel
theorem dX12_see_32 : decode cX12_see 32 = .ok (.iaload, 1) := by decide +kernel
theorem dX12_see_33 : decode cX12_see 33 = .ok (.bipush 8, 2) := by decide +kernel
theorem dX12_see_35 : decode cX12_see 35 = .ok (.if_icmp .ne 6, 3) := by decide +kernel
theorem dX12_see_38 : decode cX12_see 38 = .ok (.bipush (-4), 2) := by decide +kernel
theorem dX12_see_40 : decode cX12_see 40 = .ok (.ireturn, 1) := by decide +kernel
theorem dX12_see_41 : decode cX12_see 41 = .ok (.aload_n 0, 1) := by decide +kernel
theorem dX12_see_42 : decode cX12_see 42 = .ok (.getfield 9, 3) := by decide +kernel
theorem dX12_see_45 : decode cX12_see 45 = .ok (.bipush 54, 2) := by decide +kernel
theorem dX12_see_47 : decode cX12_see 47 = .ok (.aload_n 0, 1) := by decide +kernel
theorem dX12_see_48 : decode cX12_see 48 = .ok (.getfield 9, 3) := by decide +kernel
theorem dX12_see_51 : decode cX12_see 51 = .ok (.iconst 4, 1) := by decide +kernel
theorem dX12_see_52 : decode cX12_see 52 = .ok (.iaload, 1) := by decide +kernel
theorem dX12_see_53 : decode cX12_see 53 = .ok (.iadd, 1) := by decide +kernel
theorem dX12_see_54 : decode cX12_see 54 = .ok (.iload_n 1, 1) := by decide +kernel
theorem dX12_see_55 : decode cX12_see 55 = .ok (.iastore, 1) := by decide +kernel
theorem dX12_see_56 : decode cX12_see 56 = .ok (.aload_n 0, 1) := by decide +kernel
theorem dX12_see_57 : decode cX12_see 57 = .ok (.getfield 9, 3) := by decide +kernel
theorem dX12_see_60 : decode cX12_see 60 = .ok (.bipush 62, 2) := by decide +kernel
theorem dX12_see_62 : decode cX12_see 62 = .ok (.aload_n 0, 1) := by decide +kernel
theorem dX12_see_63 : decode cX12_see 63 = .ok (.getfield 9, 3) := by decide +kernel
theorem dX12_see_66 : decode cX12_see 66 = .ok (.iconst 4, 1) := by decide +kernel
theorem dX12_see_67 : decode cX12_see 67 = .ok (.iaload, 1) := by decide +kernel
theorem dX12_see_68 : decode cX12_see 68 = .ok (.iadd, 1) := by decide +kernel
theorem dX12_see_69 : decode cX12_see 69 = .ok (.iload_n 2, 1) := by decide +kernel
theorem dX12_see_70 : decode cX12_see 70 = .ok (.ifCond .eq 7, 3) := by decide +kernel
theorem dX12_see_73 : decode cX12_see 73 = .ok (.iconst 1, 1) := by decide +kernel
theorem dX12_see_74 : decode cX12_see 74 = .ok (.goto 4, 3) := by decide +kernel
theorem dX12_see_77 : decode cX12_see 77 = .ok (.iconst 0, 1) := by decide +kernel
theorem dX12_see_78 : decode cX12_see 78 = .ok (.iastore, 1) := by decide +kernel
theorem dX12_see_79 : decode cX12_see 79 = .ok (.aload_n 0, 1) := by decide +kernel
theorem dX12_see_80 : decode cX12_see 80 = .ok (.getfield 9, 3) := by decide +kernel
theorem dX12_see_83 : decode cX12_see 83 = .ok (.iconst 4, 1) := by decide +kernel
theorem dX12_see_84 : decode cX12_see 84 = .ok (.dup2, 1) := by decide +kernel
theorem dX12_see_85 : decode cX12_see 85 = .ok (.iaload, 1) := by decide +kernel
theorem dX12_see_86 : decode cX12_see 86 = .ok (.iconst 1, 1) := by decide +kernel
theorem dX12_see_87 : decode cX12_see 87 = .ok (.iadd, 1) := by decide +kernel
theorem dX12_see_88 : decode cX12_see 88 = .ok (.iastore, 1) := by decide +kernel
theorem dX12_see_89 : decode cX12_see 89 = .ok (.aload_n 0, 1) := by decide +kernel
theorem dX12_see_90 : decode cX12_see 90 = .ok (.getfield 9, 3) := by decide +kernel
theorem dX12_see_93 : decode cX12_see 93 = .ok (.iconst 4, 1) := by decide +kernel
theorem dX12_see_94 : decode cX12_see 94 = .ok (.iaload, 1) := by decide +kernel
theorem dX12_see_95 : decode cX12_see 95 = .ok (.ireturn, 1) := by decide +kernel
set_option maxRecDepth 100000 in
set_option maxHeartbeats 4000000 in
theorem s_see (l : Launch) (g : zG) (h : Hp) (m : Nat) (F : Nat → Int32) (A : Nat → Nat → Int32) (x y : Int32) (ht : rng (A 1 4) 0 8) : Sp l g yX12_see cX12_see 3 (some .int) (rmz 2) [.ref m, .int x, .int y] (hM g h m F A) (zI (mres g h m F A (q_see (A 1) x y))) := by
  refine Sp.of [some (.ref m), some (.int x), some (.int y)] (by decide) (Nat.le_of_ble_eq_true rfl) rfl rfl ?_
  rintro X rfl hr rfl B
  show AW X 0 0 0 _ _ _ _
  obtain ⟨t, -, ht, et⟩ := ht
  have ek : (A 1 4).toNatClampNeg = t := by rw [et, nI_clamp (by omega)]
  refine aw_iload_n B 1 rfl dX12_see_0 rfl ?_
  refine aw_iconst B (-1) (by decide) dX12_see_1 ?_
  refine aw_icmp_ne B 14 dX12_see_2 (fun c2 => ?_) (fun c2 => ?_)
  · refine aw_iload_n B 1 rfl dX12_see_14 rfl ?_
    refine aw_iconst B 0 (by decide) dX12_see_15 ?_
    refine aw_bipush B 60 (by decide) dX12_see_16 ?_
    refine aw_callS B 0 0 (s_in _ _ _ _ _ _) co_X12_in k_X12_44 dX12_see_18 rfl rfl (Nat.le_of_ble_eq_true rfl) (zrm hr (by decide)) (Nat.le_refl _) (Nat.le_refl _) (kI fun r18 h18 hp18 => ?_)
    obtain ⟨rfl, rfl⟩ := hp18
    refine aw_if_ne B 27 dX12_see_21 (fun c21 => ?_) (fun c21 => ?_)
    · refine aw_aload_n B 0 rfl dX12_see_27 rfl ?_
      refine m_get B f_X12_9 dX12_see_28 rfl ?_
      refine aw_iconst B 4 (by decide) dX12_see_31 ?_
      refine m_ld B (4) (rfl) ((by decide)) dX12_see_32 (by decide) ?_
      refine aw_bipush B 8 (by decide) dX12_see_33 ?_
      refine aw_icmp_ne B 41 dX12_see_35 (fun c35 => ?_) (fun c35 => ?_)
      · have hlt : t < 8 := by
          rcases Nat.lt_or_ge t 8 with z | z
          · exact z
          · exact absurd (by rw [et, show t = 8 by omega]; rfl) c35
        refine aw_aload_n B 0 rfl dX12_see_41 rfl ?_
        refine m_get B f_X12_9 dX12_see_42 rfl ?_
        refine aw_bipush B 54 (by decide) dX12_see_45 ?_
        refine aw_aload_n B 0 rfl dX12_see_47 rfl ?_
        refine m_get B f_X12_9 dX12_see_48 rfl ?_
        refine aw_iconst B 4 (by decide) dX12_see_51 ?_
        refine m_ld B (4) (rfl) ((by decide)) dX12_see_52 (by decide) ?_
        refine aw_iadd B dX12_see_53 ?_
        refine aw_iload_n B 1 rfl dX12_see_54 rfl ?_
        refine m_st B (54 + t) (ix_c 54 et) (by show _ < 899; omega) dX12_see_55 (by decide) ?_
        refine aw_aload_n B 0 rfl dX12_see_56 rfl ?_
        refine m_get B f_X12_9 dX12_see_57 rfl ?_
        refine aw_bipush B 62 (by decide) dX12_see_60 ?_
        refine aw_aload_n B 0 rfl dX12_see_62 rfl ?_
        refine m_get B f_X12_9 dX12_see_63 rfl ?_
        refine aw_iconst B 4 (by decide) dX12_see_66 ?_
        refine m_ld B (4) (rfl) ((by decide)) dX12_see_67 (by decide) ?_
        refine aw_iadd B dX12_see_68 ?_
        refine aw_iload_n B 2 rfl dX12_see_69 rfl ?_
        refine aw_if_eq B 77 dX12_see_70 (fun c70 => ?_) (fun c70 => ?_)
        · refine aw_iconst B 0 (by decide) dX12_see_77 ?_
          refine m_st B (62 + t) (by rw [mup_s, upd_n (by omega)]; exact ix_c 62 et) (by show _ < 899; omega) dX12_see_78 (by decide) ?_
          refine aw_aload_n B 0 rfl dX12_see_79 rfl ?_
          refine m_get B f_X12_9 dX12_see_80 rfl ?_
          refine aw_iconst B 4 (by decide) dX12_see_83 ?_
          refine aw_dup2 B rfl rfl dX12_see_84 ?_
          refine m_ld B (4) (rfl) ((by decide)) dX12_see_85 (by decide) ?_
          refine aw_iconst B 1 (by decide) dX12_see_86 ?_
          refine aw_iadd B dX12_see_87 ?_
          refine m_st B (4) (rfl) ((by decide)) dX12_see_88 (by decide) ?_
          refine aw_aload_n B 0 rfl dX12_see_89 rfl ?_
          refine m_get B f_X12_9 dX12_see_90 rfl ?_
          refine aw_iconst B 4 (by decide) dX12_see_93 ?_
          refine m_ld B (4) (rfl) ((by decide)) dX12_see_94 (by decide) ?_
          refine aw_iret B rfl rfl dX12_see_95 ?_
          exact ⟨_, rfl, by (try simp (disch := omega) only [mup_s, mup_m, mup_i, upd_s, upd_n]); (try simp_all [q_see, mup_s, mup_m, mup_i, upd_s, upd_n]), by (try simp (disch := omega) only [mup_s, mup_m, mup_i, upd_s, upd_n]); (try simp_all [q_see, mup_s, mup_m, mup_i, upd_s, upd_n])⟩
        · refine aw_iconst B 1 (by decide) dX12_see_73 ?_
          refine aw_goto B 78 dX12_see_74 ?_
          refine m_st B (62 + t) (by rw [mup_s, upd_n (by omega)]; exact ix_c 62 et) (by show _ < 899; omega) dX12_see_78 (by decide) ?_
          refine aw_aload_n B 0 rfl dX12_see_79 rfl ?_
          refine m_get B f_X12_9 dX12_see_80 rfl ?_
          refine aw_iconst B 4 (by decide) dX12_see_83 ?_
          refine aw_dup2 B rfl rfl dX12_see_84 ?_
          refine m_ld B (4) (rfl) ((by decide)) dX12_see_85 (by decide) ?_
          refine aw_iconst B 1 (by decide) dX12_see_86 ?_
          refine aw_iadd B dX12_see_87 ?_
          refine m_st B (4) (rfl) ((by decide)) dX12_see_88 (by decide) ?_
          refine aw_aload_n B 0 rfl dX12_see_89 rfl ?_
          refine m_get B f_X12_9 dX12_see_90 rfl ?_
          refine aw_iconst B 4 (by decide) dX12_see_93 ?_
          refine m_ld B (4) (rfl) ((by decide)) dX12_see_94 (by decide) ?_
          refine aw_iret B rfl rfl dX12_see_95 ?_
          exact ⟨_, rfl, by (try simp (disch := omega) only [mup_s, mup_m, mup_i, upd_s, upd_n]); (try simp_all [q_see, mup_s, mup_m, mup_i, upd_s, upd_n]), by (try simp (disch := omega) only [mup_s, mup_m, mup_i, upd_s, upd_n]); (try simp_all [q_see, mup_s, mup_m, mup_i, upd_s, upd_n])⟩
      · refine aw_bipush B (-4) (by decide) dX12_see_38 ?_
        refine aw_iret B rfl rfl dX12_see_40 ?_
        exact ⟨_, rfl, by (try simp (disch := omega) only [mup_s, mup_m, mup_i, upd_s, upd_n]); (try simp_all [q_see, mup_s, mup_m, mup_i, upd_s, upd_n]), by (try simp (disch := omega) only [mup_s, mup_m, mup_i, upd_s, upd_n]); (try simp_all [q_see, mup_s, mup_m, mup_i, upd_s, upd_n])⟩
    · refine aw_bipush B (-2) (by decide) dX12_see_24 ?_
      refine aw_iret B rfl rfl dX12_see_26 ?_
      exact ⟨_, rfl, by (try simp (disch := omega) only [mup_s, mup_m, mup_i, upd_s, upd_n]); (try simp_all [q_see, mup_s, mup_m, mup_i, upd_s, upd_n]), by (try simp (disch := omega) only [mup_s, mup_m, mup_i, upd_s, upd_n]); (try simp_all [q_see, mup_s, mup_m, mup_i, upd_s, upd_n])⟩
  · refine aw_aload_n B 0 rfl dX12_see_5 rfl ?_
    refine m_get B f_X12_9 dX12_see_6 rfl ?_
    refine aw_iconst B 4 (by decide) dX12_see_9 ?_
    refine aw_iconst B 0 (by decide) dX12_see_10 ?_
    refine m_st B (4) (rfl) ((by decide)) dX12_see_11 (by decide) ?_
    refine aw_iconst B 0 (by decide) dX12_see_12 ?_
    refine aw_iret B rfl rfl dX12_see_13 ?_
    exact ⟨_, rfl, by (try simp (disch := omega) only [mup_s, mup_m, mup_i, upd_s, upd_n]); (try simp_all [q_see, mup_s, mup_m, mup_i, upd_s, upd_n]), by (try simp (disch := omega) only [mup_s, mup_m, mup_i, upd_s, upd_n]); (try simp_all [q_see, mup_s, mup_m, mup_i, upd_s, upd_n])⟩
theorem dX12_of_0 : decode cX12_of 0 = .ok (.aload_n 0, 1) := by decide +kernel
theorem dX12_of_1 : decode cX12_of 1 = .ok (.iload_n 1, 1) := by decide +kernel
theorem dX12_of_2 : decode cX12_of 2 = .ok (.invokevirtual 141, 3) := by decide +kernel
theorem dX12_of_5 : decode cX12_of 5 = .ok (.ifCond .eq 29, 3) := by decide +kernel
theorem dX12_of_8 : decode cX12_of 8 = .ok (.iload_n 2, 1) := by decide +kernel
theorem dX12_of_9 : decode cX12_of 9 = .ok (.iconst 0, 1) := by decide +kernel
theorem dX12_of_10 : decode cX12_of 10 = .ok (.iconst 1, 1) := by decide +kernel
theorem dX12_of_11 : decode cX12_of 11 = .ok (.invokestatic 44, 3) := by decide +kernel
theorem dX12_of_14 : decode cX12_of 14 = .ok (.ifCond .eq 20, 3) := by decide +kernel
theorem dX12_of_17 : decode cX12_of 17 = .ok (.aload_n 0, 1) := by decide +kernel
theorem dX12_of_18 : decode cX12_of 18 = .ok (.getfield 9, 3) := by decide +kernel
theorem dX12_of_21 : decode cX12_of 21 = .ok (.bipush 10, 2) := by decide +kernel
theorem dX12_of_23 : decode cX12_of 23 = .ok (.bipush 6, 2) := by decide +kernel
theorem dX12_of_25 : decode cX12_of 25 = .ok (.iload_n 2, 1) := by decide +kernel
theorem dX12_of_26 : decode cX12_of 26 = .ok (.imul, 1) := by decide +kernel
theorem dX12_of_27 : decode cX12_of 27 = .ok (.iadd, 1) := by decide +kernel
theorem dX12_of_28 : decode cX12_of 28 = .ok (.iload_n 1, 1) := by decide +kernel
theorem dX12_of_29 : decode cX12_of 29 = .ok (.iadd, 1) := by decide +kernel
theorem dX12_of_30 : decode cX12_of 30 = .ok (.iaload, 1) := by decide +kernel
theorem dX12_of_31 : decode cX12_of 31 = .ok (.goto 4, 3) := by decide +kernel
theorem dX12_of_34 : decode cX12_of 34 = .ok (.iconst (-1), 1) := by decide +kernel
theorem dX12_of_35 : decode cX12_of 35 = .ok (.ireturn, 1) := by decide +kernel
set_option maxRecDepth 100000 in
set_option maxHeartbeats 4000000 in
theorem s_of (l : Launch) (g : zG) (h : Hp) (m : Nat) (F : Nat → Int32) (A : Nat → Nat → Int32) (x y : Int32) (ht : rng (A 1 0) 0 6) : Sp l g yX12_of cX12_of 3 (some .int) (rmz 3) [.ref m, .int x, .int y] (hM g h m F A) (zI (mres g h m F A (q_of (A 1) x y))) := by
  refine Sp.of [some (.ref m), some (.int x), some (.int y)] (by decide) (Nat.le_of_ble_eq_true rfl) rfl rfl ?_
  rintro X rfl hr rfl B
  show AW X 0 0 0 _ _ _ _
  obtain ⟨t, -, ht, et⟩ := ht
  refine aw_aload_n B 0 rfl dX12_of_0 rfl ?_
  refine aw_iload_n B 1 rfl dX12_of_1 rfl ?_
  refine aw_callV B 0 0 (s_isSlate _ _ _ _ _ _ _) co_X12_isSlate k_X12_141 dX12_of_2 hM_o rfl rfl rfl rfl (Nat.le_of_ble_eq_true rfl) (zrm hr (by decide)) (Nat.le_refl _) (Nat.le_refl _) (kI fun r2 h2 hp2 => ?_)
  obtain ⟨rfl, rfl⟩ := hp2
  refine aw_if_eq B 34 dX12_of_5 (fun c5 => ?_) (fun c5 => ?_)
  · refine aw_iconst B (-1) (by decide) dX12_of_34 ?_
    refine aw_iret B rfl rfl dX12_of_35 ?_
    exact ⟨_, rfl, by (try simp (disch := omega) only [mup_s, mup_m, mup_i, upd_s, upd_n]); (try simp_all [q_of, mup_s, mup_m, mup_i, upd_s, upd_n]), by (try simp (disch := omega) only [mup_s, mup_m, mup_i, upd_s, upd_n]); (try simp_all [q_of, mup_s, mup_m, mup_i, upd_s, upd_n])⟩
  · refine aw_iload_n B 2 rfl dX12_of_8 rfl ?_
    refine aw_iconst B 0 (by decide) dX12_of_9 ?_
    refine aw_iconst B 1 (by decide) dX12_of_10 ?_
    refine aw_callS B 0 0 (s_in _ _ _ _ _ _) co_X12_in k_X12_44 dX12_of_11 rfl rfl (Nat.le_of_ble_eq_true rfl) (zrm hr (by decide)) (Nat.le_refl _) (Nat.le_refl _) (kI fun r11 h11 hp11 => ?_)
    obtain ⟨rfl, rfl⟩ := hp11
    refine aw_if_eq B 34 dX12_of_14 (fun c14 => ?_) (fun c14 => ?_)
    · refine aw_iconst B (-1) (by decide) dX12_of_34 ?_
      refine aw_iret B rfl rfl dX12_of_35 ?_
      exact ⟨_, rfl, by (try simp (disch := omega) only [mup_s, mup_m, mup_i, upd_s, upd_n]); (try simp_all [q_of, mup_s, mup_m, mup_i, upd_s, upd_n]), by (try simp (disch := omega) only [mup_s, mup_m, mup_i, upd_s, upd_n]); (try simp_all [q_of, mup_s, mup_m, mup_i, upd_s, upd_n])⟩
    · obtain ⟨k, hk, rfl⟩ := in_cnt (of_bI c5) (by omega) et
      obtain ⟨j, -, hj, rfl⟩ := in_rng (lo := 0) (hi := 1) (of_bI c14) (by decide) (by decide)
      have ek : (nI k).toNatClampNeg = k := nI_clamp (by omega)
      have ej : (nI j).toNatClampNeg = j := nI_clamp (by omega)
      refine aw_aload_n B 0 rfl dX12_of_17 rfl ?_
      refine m_get B f_X12_9 dX12_of_18 rfl ?_
      refine aw_bipush B 10 (by decide) dX12_of_21 ?_
      refine aw_bipush B 6 (by decide) dX12_of_23 ?_
      refine aw_iload_n B 2 rfl dX12_of_25 rfl ?_
      refine aw_imul B dX12_of_26 ?_
      refine aw_iadd B dX12_of_27 ?_
      refine aw_iload_n B 1 rfl dX12_of_28 rfl ?_
      refine aw_iadd B dX12_of_29 ?_
      refine m_ld B (10 + 6 * j + k) (by rw [show (6 : Int32) * nI j = nI (6 * j) from pk_mul 6 j, show (10 : Int32) + nI (6 * j) = nI (10 + 6 * j) from nI_add 10 (6 * j), nI_add]) (by show _ < 899; omega) dX12_of_30 (by decide) ?_
      refine aw_goto B 35 dX12_of_31 ?_
      refine aw_iret B rfl rfl dX12_of_35 ?_
      exact ⟨_, rfl, by (try simp (disch := omega) only [mup_s, mup_m, mup_i, upd_s, upd_n]); (try simp_all [q_of, mup_s, mup_m, mup_i, upd_s, upd_n]), by (try simp (disch := omega) only [mup_s, mup_m, mup_i, upd_s, upd_n]); (try simp_all [q_of, mup_s, mup_m, mup_i, upd_s, upd_n])⟩
theorem dX12_at_0 : decode cX12_at 0 = .ok (.aload_n 0, 1) := by decide +kernel
theorem dX12_at_1 : decode cX12_at 1 = .ok (.iload_n 1, 1) := by decide +kernel
theorem dX12_at_2 : decode cX12_at 2 = .ok (.invokevirtual 144, 3) := by decide +kernel
theorem dX12_at_5 : decode cX12_at 5 = .ok (.ifCond .eq 28, 3) := by decide +kernel
theorem dX12_at_8 : decode cX12_at 8 = .ok (.iload_n 2, 1) := by decide +kernel
theorem dX12_at_9 : decode cX12_at 9 = .ok (.iconst 0, 1) := by decide +kernel
theorem dX12_at_10 : decode cX12_at 10 = .ok (.iconst 1, 1) := by decide +kernel
theorem dX12_at_11 : decode cX12_at 11 = .ok (.invokestatic 44, 3) := by decide +kernel
theorem dX12_at_14 : decode cX12_at 14 = .ok (.ifCond .eq 19, 3) := by decide +kernel
theorem dX12_at_17 : decode cX12_at 17 = .ok (.aload_n 0, 1) := by decide +kernel
theorem dX12_at_18 : decode cX12_at 18 = .ok (.getfield 9, 3) := by decide +kernel
theorem dX12_at_21 : decode cX12_at 21 = .ok (.bipush 22, 2) := by decide +kernel
theorem dX12_at_23 : decode cX12_at 23 = .ok (.iconst 4, 1) := by decide +kernel
theorem dX12_at_24 : decode cX12_at 24 = .ok (.iload_n 2, 1) := by decide +kernel
theorem dX12_at_25 : decode cX12_at 25 = .ok (.imul, 1) := by decide +kernel
theorem dX12_at_26 : decode cX12_at 26 = .ok (.iadd, 1) := by decide +kernel
theorem dX12_at_27 : decode cX12_at 27 = .ok (.iload_n 1, 1) := by decide +kernel
theorem dX12_at_28 : decode cX12_at 28 = .ok (.iadd, 1) := by decide +kernel
theorem dX12_at_29 : decode cX12_at 29 = .ok (.iaload, 1) := by decide +kernel
theorem dX12_at_30 : decode cX12_at 30 = .ok (.goto 4, 3) := by decide +kernel
theorem dX12_at_33 : decode cX12_at 33 = .ok (.iconst (-1), 1) := by decide +kernel
theorem dX12_at_34 : decode cX12_at 34 = .ok (.ireturn, 1) := by decide +kernel
set_option maxRecDepth 100000 in
set_option maxHeartbeats 4000000 in
theorem s_at (l : Launch) (g : zG) (h : Hp) (m : Nat) (F : Nat → Int32) (A : Nat → Nat → Int32) (x y : Int32) (ht : rng (A 1 1) 0 4) : Sp l g yX12_at cX12_at 3 (some .int) (rmz 3) [.ref m, .int x, .int y] (hM g h m F A) (zI (mres g h m F A (q_at (A 1) x y))) := by
  refine Sp.of [some (.ref m), some (.int x), some (.int y)] (by decide) (Nat.le_of_ble_eq_true rfl) rfl rfl ?_
  rintro X rfl hr rfl B
  show AW X 0 0 0 _ _ _ _
  obtain ⟨t, -, ht, et⟩ := ht
  refine aw_aload_n B 0 rfl dX12_at_0 rfl ?_
  refine aw_iload_n B 1 rfl dX12_at_1 rfl ?_
  refine aw_callV B 0 0 (s_isReader _ _ _ _ _ _ _) co_X12_isReader k_X12_144 dX12_at_2 hM_o rfl rfl rfl rfl (Nat.le_of_ble_eq_true rfl) (zrm hr (by decide)) (Nat.le_refl _) (Nat.le_refl _) (kI fun r2 h2 hp2 => ?_)
  obtain ⟨rfl, rfl⟩ := hp2
  refine aw_if_eq B 33 dX12_at_5 (fun c5 => ?_) (fun c5 => ?_)
  · refine aw_iconst B (-1) (by decide) dX12_at_33 ?_
    refine aw_iret B rfl rfl dX12_at_34 ?_
    exact ⟨_, rfl, by (try simp (disch := omega) only [mup_s, mup_m, mup_i, upd_s, upd_n]); (try simp_all [q_at, mup_s, mup_m, mup_i, upd_s, upd_n]), by (try simp (disch := omega) only [mup_s, mup_m, mup_i, upd_s, upd_n]); (try simp_all [q_at, mup_s, mup_m, mup_i, upd_s, upd_n])⟩
  · refine aw_iload_n B 2 rfl dX12_at_8 rfl ?_
    refine aw_iconst B 0 (by decide) dX12_at_9 ?_
    refine aw_iconst B 1 (by decide) dX12_at_10 ?_
    refine aw_callS B 0 0 (s_in _ _ _ _ _ _) co_X12_in k_X12_44 dX12_at_11 rfl rfl (Nat.le_of_ble_eq_true rfl) (zrm hr (by decide)) (Nat.le_refl _) (Nat.le_refl _) (kI fun r11 h11 hp11 => ?_)
    obtain ⟨rfl, rfl⟩ := hp11
    refine aw_if_eq B 33 dX12_at_14 (fun c14 => ?_) (fun c14 => ?_)
    · refine aw_iconst B (-1) (by decide) dX12_at_33 ?_
      refine aw_iret B rfl rfl dX12_at_34 ?_
      exact ⟨_, rfl, by (try simp (disch := omega) only [mup_s, mup_m, mup_i, upd_s, upd_n]); (try simp_all [q_at, mup_s, mup_m, mup_i, upd_s, upd_n]), by (try simp (disch := omega) only [mup_s, mup_m, mup_i, upd_s, upd_n]); (try simp_all [q_at, mup_s, mup_m, mup_i, upd_s, upd_n])⟩
    · obtain ⟨k, hk, rfl⟩ := in_cnt (of_bI c5) (by omega) et
      obtain ⟨j, -, hj, rfl⟩ := in_rng (lo := 0) (hi := 1) (of_bI c14) (by decide) (by decide)
      have ek : (nI k).toNatClampNeg = k := nI_clamp (by omega)
      have ej : (nI j).toNatClampNeg = j := nI_clamp (by omega)
      refine aw_aload_n B 0 rfl dX12_at_17 rfl ?_
      refine m_get B f_X12_9 dX12_at_18 rfl ?_
      refine aw_bipush B 22 (by decide) dX12_at_21 ?_
      refine aw_iconst B 4 (by decide) dX12_at_23 ?_
      refine aw_iload_n B 2 rfl dX12_at_24 rfl ?_
      refine aw_imul B dX12_at_25 ?_
      refine aw_iadd B dX12_at_26 ?_
      refine aw_iload_n B 1 rfl dX12_at_27 rfl ?_
      refine aw_iadd B dX12_at_28 ?_
      refine m_ld B (22 + 4 * j + k) (by rw [show (4 : Int32) * nI j = nI (4 * j) from pk_mul 4 j, show (22 : Int32) + nI (4 * j) = nI (22 + 4 * j) from nI_add 22 (4 * j), nI_add]) (by show _ < 899; omega) dX12_at_29 (by decide) ?_
      refine aw_goto B 34 dX12_at_30 ?_
      refine aw_iret B rfl rfl dX12_at_34 ?_
      exact ⟨_, rfl, by (try simp (disch := omega) only [mup_s, mup_m, mup_i, upd_s, upd_n]); (try simp_all [q_at, mup_s, mup_m, mup_i, upd_s, upd_n]), by (try simp (disch := omega) only [mup_s, mup_m, mup_i, upd_s, upd_n]); (try simp_all [q_at, mup_s, mup_m, mup_i, upd_s, upd_n])⟩
end
section
section ZLDC
variable {X : zX} {cc : ByteArray} {nL : Nat} {own nm : String} {ret : Option FieldType} {rc rs pc : Nat} {lv : List (Option Value)} {st : List Value} {h : Hp} {Ko : Option Value → Hp → Prop}
theorem aw_ldc (B : zB X cc nL own nm ret) {index : Nat} {v : Int32} (F : Cond.constant own index v ∈ zT) (hd : decode cc pc = .ok (.ldc index, 2)) (k : AW X rc rs (pc + 2) lv (.int v :: st) h Ko) : AW X rc rs pc lv st h Ko := fun H locs ls cells slots a1 a2 a3 a4 a5 => lv_ldc B.1 B.2.1 B.2.2.2.1 (B.2.2.2.2.1 _ F) hd (k H locs ls cells slots a1 a2 a3 a4 a5)
theorem aw_ldc2 (B : zB X cc nL own nm ret) {index : Nat} {v : Int64} (F : Cond.constantLong own index v ∈ zT) (hd : decode cc pc = .ok (.ldc2_w index, 3)) (k : AW X rc rs (pc + 3) lv (.long v :: st) h Ko) : AW X rc rs pc lv st h Ko := fun H locs ls cells slots a1 a2 a3 a4 a5 => lv_ldc2 B.1 B.2.1 B.2.2.2.1 (B.2.2.2.2.1 _ F) hd (k H locs ls cells slots a1 a2 a3 a4 a5)
end ZLDC
/-- the HOURS that a reader of a kind, with v, needs for so many lines -/
def p_needs (k v n : Nat) : Nat := if k = 1 then (n + 1) / 2 else if k = 4 then (if 4 < v ∧ 1 < (n + 1) / 2 then (n + 1) / 2 - 1 else (n + 1) / 2) else if k = 5 then 2 * n else n
theorem dX12_needsOf_0 : decode cX12_needsOf 0 = .ok (.aload_n 0, 1) := by decide +kernel
theorem dX12_needsOf_1 : decode cX12_needsOf 1 = .ok (.getfield 9, 3) := by decide +kernel
theorem dX12_needsOf_4 : decode cX12_needsOf 4 = .ok (.bipush 16, 2) := by decide +kernel
theorem dX12_needsOf_6 : decode cX12_needsOf 6 = .ok (.iload_n 2, 1) := by decide +kernel
theorem dX12_needsOf_7 : decode cX12_needsOf 7 = .ok (.iadd, 1) := by decide +kernel
theorem dX12_needsOf_8 : decode cX12_needsOf 8 = .ok (.iaload, 1) := by decide +kernel
theorem dX12_needsOf_9 : decode cX12_needsOf 9 = .ok (.istore_n 3, 1) := by decide +kernel
theorem dX12_needsOf_10 : decode cX12_needsOf 10 = .ok (.iload_n 3, 1) := by decide +kernel
theorem dX12_needsOf_11 : decode cX12_needsOf 11 = .ok (.iconst 1, 1) := by decide +kernel
theorem dX12_needsOf_12 : decode cX12_needsOf 12 = .ok (.iadd, 1) := by decide +kernel
theorem dX12_needsOf_13 : decode cX12_needsOf 13 = .ok (.iconst 2, 1) := by decide +kernel
theorem dX12_needsOf_14 : decode cX12_needsOf 14 = .ok (.idiv, 1) := by decide +kernel
theorem dX12_needsOf_15 : decode cX12_needsOf 15 = .ok (.istore 4, 2) := by decide +kernel
theorem dX12_needsOf_17 : decode cX12_needsOf 17 = .ok (.aload_n 0, 1) := by decide +kernel
theorem dX12_needsOf_18 : decode cX12_needsOf 18 = .ok (.getfield 9, 3) := by decide +kernel
theorem dX12_needsOf_21 : decode cX12_needsOf 21 = .ok (.bipush 22, 2) := by decide +kernel
theorem dX12_needsOf_23 : decode cX12_needsOf 23 = .ok (.iload_n 1, 1) := by decide +kernel
theorem dX12_needsOf_24 : decode cX12_needsOf 24 = .ok (.iadd, 1) := by decide +kernel
theorem dX12_needsOf_25 : decode cX12_needsOf 25 = .ok (.iaload, 1) := by decide +kernel
theorem dX12_needsOf_26 : decode cX12_needsOf 26 = .ok (.tableswitch 70 1 5 #[34, 70, 70, 37, 66], 34) := by decide +kernel
theorem dX12_needsOf_60 : decode cX12_needsOf 60 = .ok (.iload 4, 2) := by decide +kernel
theorem dX12_needsOf_62 : decode cX12_needsOf 62 = .ok (.ireturn, 1) := by decide +kernel
theorem dX12_needsOf_63 : decode cX12_needsOf 63 = .ok (.aload_n 0, 1) := by decide +kernel
theorem dX12_needsOf_64 : decode cX12_needsOf 64 = .ok (.getfield 9, 3) := by decide +kernel
theorem dX12_needsOf_67 : decode cX12_needsOf 67 = .ok (.bipush 26, 2) := by decide +kernel
theorem dX12_needsOf_69 : decode cX12_needsOf 69 = .ok (.iload_n 1, 1) := by decide +kernel
theorem dX12_needsOf_70 : decode cX12_needsOf 70 = .ok (.iadd, 1) := by decide +kernel
theorem dX12_needsOf_71 : decode cX12_needsOf 71 = .ok (.iaload, 1) := by decide +kernel
theorem dX12_needsOf_72 : decode cX12_needsOf 72 = .ok (.iconst 4, 1) := by decide +kernel
theorem dX12_needsOf_73 : decode cX12_needsOf 73 = .ok (.if_icmp .le 16, 3) := by decide +kernel
theorem dX12_needsOf_76 : decode cX12_needsOf 76 = .ok (.iload 4, 2) := by decide +kernel
theorem dX12_needsOf_78 : decode cX12_needsOf 78 = .ok (.iconst 1, 1) := by decide +kernel
theorem dX12_needsOf_79 : decode cX12_needsOf 79 = .ok (.if_icmp .le 10, 3) := by decide +kernel
theorem dX12_needsOf_82 : decode cX12_needsOf 82 = .ok (.iload 4, 2) := by decide +kernel
theorem dX12_needsOf_84 : decode cX12_needsOf 84 = .ok (.iconst 1, 1) := by decide +kernel
theorem dX12_needsOf_85 : decode cX12_needsOf 85 = .ok (.isub, 1) := by decide +kernel
theorem dX12_needsOf_86 : decode cX12_needsOf 86 = .ok (.goto 5, 3) := by decide +kernel
theorem dX12_needsOf_89 : decode cX12_needsOf 89 = .ok (.iload 4, 2) := by decide +kernel
theorem dX12_needsOf_91 : decode cX12_needsOf 91 = .ok (.ireturn, 1) := by decide +kernel
theorem dX12_needsOf_92 : decode cX12_needsOf 92 = .ok (.iconst 2, 1) := by decide +kernel
theorem dX12_needsOf_93 : decode cX12_needsOf 93 = .ok (.iload_n 3, 1) := by decide +kernel
theorem dX12_needsOf_94 : decode cX12_needsOf 94 = .ok (.imul, 1) := by decide +kernel
theorem dX12_needsOf_95 : decode cX12_needsOf 95 = .ok (.ireturn, 1) := by decide +kernel
theorem dX12_needsOf_96 : decode cX12_needsOf 96 = .ok (.iload_n 3, 1) := by decide +kernel
theorem dX12_needsOf_97 : decode cX12_needsOf 97 = .ok (.ireturn, 1) := by decide +kernel
set_option maxRecDepth 100000 in
set_option maxHeartbeats 4000000 in
theorem s_needsOf (l : Launch) (g : zG) (h : Hp) (m : Nat) (F : Nat → Int32) (A : Nat → Nat → Int32) (r s k v n : Nat) (hr4 : r < 4) (hs : s < 6) (hk : k ≤ 6) (hv : v ≤ 9) (hn : n ≤ 4) (ek : A 1 (22 + r) = nI k) (ev : A 1 (26 + r) = nI v) (en : A 1 (16 + s) = nI n) : Sp l g yX12_needsOf cX12_needsOf 5 (some .int) (rmz 1) [.ref m, .int (nI r), .int (nI s)] (hM g h m F A) (zI fun q h' => q = nI (p_needs k v n) ∧ h' = hM g h m F A) := by
  refine Sp.of [some (.ref m), some (.int (nI r)), some (.int (nI s)), none, none] (by decide) (Nat.le_of_ble_eq_true rfl) rfl rfl ?_
  rintro X rfl hr rfl B
  show AW X 0 0 0 _ _ _ _
  obtain ⟨e0⟩ : Nonempty Unit := ⟨()⟩
  have e2 : (nI n + 1) / 2 = nI ((n + 1) / 2) := by
    rw [nI_1]; exact pk_div (by omega) (by decide) (by decide)
  refine aw_aload_n B 0 rfl dX12_needsOf_0 rfl ?_
  refine m_get B f_X12_9 dX12_needsOf_1 rfl ?_
  refine aw_bipush B 16 (by decide) dX12_needsOf_4 ?_
  refine aw_iload_n B 2 rfl dX12_needsOf_6 rfl ?_
  refine aw_iadd B dX12_needsOf_7 ?_
  refine m_ld B (16 + s) (ix_c 16 rfl) (by show _ < 899; omega) dX12_needsOf_8 (by decide) ?_
  refine aw_istore3 B dX12_needsOf_9 ?_
  refine aw_iload_n B 3 rfl dX12_needsOf_10 rfl ?_
  refine aw_iconst B 1 (by decide) dX12_needsOf_11 ?_
  refine aw_iadd B dX12_needsOf_12 ?_
  refine aw_iconst B 2 (by decide) dX12_needsOf_13 ?_
  refine aw_idiv B (by decide) dX12_needsOf_14 ?_
  refine aw_istore4 B dX12_needsOf_15 ?_
  refine aw_aload_n B 0 rfl dX12_needsOf_17 rfl ?_
  refine m_get B f_X12_9 dX12_needsOf_18 rfl ?_
  refine aw_bipush B 22 (by decide) dX12_needsOf_21 ?_
  refine aw_iload_n B 1 rfl dX12_needsOf_23 rfl ?_
  refine aw_iadd B dX12_needsOf_24 ?_
  refine m_ld B (22 + r) (ix_c 22 rfl) (by show _ < 899; omega) dX12_needsOf_25 (by decide) ?_
  rcases (show k = 0 ∨ k = 1 ∨ k = 2 ∨ k = 3 ∨ k = 4 ∨ k = 5 ∨ k = 6 by omega) with rfl | rfl | rfl | rfl | rfl | rfl | rfl
  · rw [ek, show nI 0 = (0 : Int32) from rfl]
    refine aw_tableOut B 96 dX12_needsOf_26 (by decide) ?_
    refine aw_iload_n B 3 rfl dX12_needsOf_96 rfl ?_
    refine aw_iret B rfl rfl dX12_needsOf_97 ?_
    exact ⟨_, rfl, by rw [en]; rfl, rfl⟩
  · rw [ek, show nI 1 = (1 : Int32) from rfl]
    refine aw_tableIn (off := 34) B 60 dX12_needsOf_26 (by decide) (by decide) (by decide) ?_
    refine aw_iload B dX12_needsOf_60 rfl ?_
    refine aw_iret B rfl rfl dX12_needsOf_62 ?_
    exact ⟨_, rfl, by rw [en, e2]; rfl, rfl⟩
  · rw [ek, show nI 2 = (2 : Int32) from rfl]
    refine aw_tableIn (off := 70) B 96 dX12_needsOf_26 (by decide) (by decide) (by decide) ?_
    refine aw_iload_n B 3 rfl dX12_needsOf_96 rfl ?_
    refine aw_iret B rfl rfl dX12_needsOf_97 ?_
    exact ⟨_, rfl, by rw [en]; rfl, rfl⟩
  · rw [ek, show nI 3 = (3 : Int32) from rfl]
    refine aw_tableIn (off := 70) B 96 dX12_needsOf_26 (by decide) (by decide) (by decide) ?_
    refine aw_iload_n B 3 rfl dX12_needsOf_96 rfl ?_
    refine aw_iret B rfl rfl dX12_needsOf_97 ?_
    exact ⟨_, rfl, by rw [en]; rfl, rfl⟩
  · rw [ek, show nI 4 = (4 : Int32) from rfl]
    refine aw_tableIn (off := 37) B 63 dX12_needsOf_26 (by decide) (by decide) (by decide) ?_
    refine aw_aload_n B 0 rfl dX12_needsOf_63 rfl ?_
    refine m_get B f_X12_9 dX12_needsOf_64 rfl ?_
    refine aw_bipush B 26 (by decide) dX12_needsOf_67 ?_
    refine aw_iload_n B 1 rfl dX12_needsOf_69 rfl ?_
    refine aw_iadd B dX12_needsOf_70 ?_
    refine m_ld B (26 + r) (ix_c 26 rfl) (by show _ < 899; omega) dX12_needsOf_71 (by decide) ?_
    refine aw_iconst B 4 (by decide) dX12_needsOf_72 ?_
    refine aw_icmp_le B 89 dX12_needsOf_73 (fun c73 => ?_) (fun c73 => ?_)
    · refine aw_iload B dX12_needsOf_89 rfl ?_
      refine aw_iret B rfl rfl dX12_needsOf_91 ?_
      have hv4 : ¬ 4 < v := fun z => absurd ((nI_leI (a := v) (b := 4) (by omega) (by decide)).mp (by rw [← ev]; exact c73)) (by omega)
      exact ⟨_, rfl, by rw [en, e2]; simp [p_needs, hv4], rfl⟩
    · refine aw_iload B dX12_needsOf_76 rfl ?_
      refine aw_iconst B 1 (by decide) dX12_needsOf_78 ?_
      refine aw_icmp_le B 89 dX12_needsOf_79 (fun c79 => ?_) (fun c79 => ?_)
      · refine aw_iload B dX12_needsOf_89 rfl ?_
        refine aw_iret B rfl rfl dX12_needsOf_91 ?_
        have hq : ¬ 1 < (n + 1) / 2 := fun z => absurd ((nI_leI (a := (n + 1) / 2) (b := 1) (by omega) (by decide)).mp (by rw [← e2, ← en]; exact c79)) (by omega)
        exact ⟨_, rfl, by rw [en, e2]; simp [p_needs, hq], rfl⟩
      · refine aw_iload B dX12_needsOf_82 rfl ?_
        refine aw_iconst B 1 (by decide) dX12_needsOf_84 ?_
        refine aw_isub B dX12_needsOf_85 ?_
        refine aw_goto B 91 dX12_needsOf_86 ?_
        refine aw_iret B rfl rfl dX12_needsOf_91 ?_
        have hv4 : 4 < v := Nat.not_le.mp fun z => c73 (by rw [ev]; exact nI_le (b := 4) z (by decide))
        have hq : 1 < (n + 1) / 2 := Nat.not_le.mp fun z => c79 (by rw [en, e2]; exact nI_le (b := 1) z (by decide))
        exact ⟨_, rfl, by
          rw [en, e2, show nI ((n + 1) / 2) - 1 = nI ((n + 1) / 2 - 1) from pk_sub (a := (n + 1) / 2) (b := 1) (by omega)]
          simp [p_needs, hv4, hq], rfl⟩
  · rw [ek, show nI 5 = (5 : Int32) from rfl]
    refine aw_tableIn (off := 66) B 92 dX12_needsOf_26 (by decide) (by decide) (by decide) ?_
    refine aw_iconst B 2 (by decide) dX12_needsOf_92 ?_
    refine aw_iload_n B 3 rfl dX12_needsOf_93 rfl ?_
    refine aw_imul B dX12_needsOf_94 ?_
    refine aw_iret B rfl rfl dX12_needsOf_95 ?_
    exact ⟨_, rfl, by rw [en]; exact pk_mul 2 n, rfl⟩
  · rw [ek, show nI 6 = (6 : Int32) from rfl]
    refine aw_tableOut B 96 dX12_needsOf_26 (by decide) ?_
    refine aw_iload_n B 3 rfl dX12_needsOf_96 rfl ?_
    refine aw_iret B rfl rfl dX12_needsOf_97 ?_
    exact ⟨_, rfl, by rw [en]; rfl, rfl⟩
def iS (S : Nat → Int32) (n0 : Nat) : Prop := n0 ≤ 6 ∧ S 0 = nI n0 ∧ ∀ k, k < n0 → rng (S (10 + k)) 0 8 ∧ rng (S (16 + k)) 1 4
def iR (S : Nat → Int32) (n1 : Nat) : Prop := n1 ≤ 4 ∧ S 1 = nI n1 ∧ ∀ k, k < n1 → rng (S (22 + k)) 0 6 ∧ rng (S (26 + k)) 0 9
theorem iS.rng {S : Nat → Int32} {n0 : Nat} (h : iS S n0) : rng (S 0) 0 6 := ⟨n0, Nat.zero_le _, h.1, h.2.1⟩
theorem iR.rng {S : Nat → Int32} {n1 : Nat} (h : iR S n1) : rng (S 1) 0 4 := ⟨n1, Nat.zero_le _, h.1, h.2.1⟩
def q_needs (S : Nat → Int32) (x y : Int32) : Int32 × (Nat → Int32) := (if bI (0 ≤ x ∧ x ≤ S 1 - 1) = 0 then -1 else if bI (0 ≤ y ∧ y ≤ S 0 - 1) = 0 then -1 else nI (p_needs (S (22 + x.toNatClampNeg)).toNatClampNeg (S (26 + x.toNatClampNeg)).toNatClampNeg (S (16 + y.toNatClampNeg)).toNatClampNeg), S)
theorem dX12_needs_0 : decode cX12_needs 0 = .ok (.aload_n 0, 1) := by decide +kernel
theorem dX12_needs_1 : decode cX12_needs 1 = .ok (.iload_n 1, 1) := by decide +kernel
theorem dX12_needs_2 : decode cX12_needs 2 = .ok (.invokevirtual 144, 3) := by decide +kernel
theorem dX12_needs_5 : decode cX12_needs 5 = .ok (.ifCond .eq 20, 3) := by decide +kernel
theorem dX12_needs_8 : decode cX12_needs 8 = .ok (.aload_n 0, 1) := by decide +kernel
theorem dX12_needs_9 : decode cX12_needs 9 = .ok (.iload_n 2, 1) := by decide +kernel
theorem dX12_needs_10 : decode cX12_needs 10 = .ok (.invokevirtual 141, 3) := by decide +kernel
theorem dX12_needs_13 : decode cX12_needs 13 = .ok (.ifCond .eq 12, 3) := by decide +kernel
theorem dX12_needs_16 : decode cX12_needs 16 = .ok (.aload_n 0, 1) := by decide +kernel
theorem dX12_needs_17 : decode cX12_needs 17 = .ok (.iload_n 1, 1) := by decide +kernel
theorem dX12_needs_18 : decode cX12_needs 18 = .ok (.iload_n 2, 1) := by decide +kernel
theorem dX12_needs_19 : decode cX12_needs 19 = .ok (.invokevirtual 147, 3) := by decide +kernel
theorem dX12_needs_22 : decode cX12_needs 22 = .ok (.goto 4, 3) := by decide +kernel
theorem dX12_needs_25 : decode cX12_needs 25 = .ok (.iconst (-1), 1) := by decide +kernel
theorem dX12_needs_26 : decode cX12_needs 26 = .ok (.ireturn, 1) := by decide +kernel
set_option maxRecDepth 100000 in
set_option maxHeartbeats 4000000 in
theorem s_needs (l : Launch) (g : zG) (h : Hp) (m : Nat) (F : Nat → Int32) (A : Nat → Nat → Int32) (x y : Int32) (n0 n1 : Nat) (hs : iS (A 1) n0) (hq : iR (A 1) n1) : Sp l g yX12_needs cX12_needs 3 (some .int) (rmz 3) [.ref m, .int x, .int y] (hM g h m F A) (zI (mres g h m F A (q_needs (A 1) x y))) := by
  refine Sp.of [some (.ref m), some (.int x), some (.int y)] (by decide) (Nat.le_of_ble_eq_true rfl) rfl rfl ?_
  rintro X rfl hr rfl B
  show AW X 0 0 0 _ _ _ _
  refine aw_aload_n B 0 rfl dX12_needs_0 rfl ?_
  refine aw_iload_n B 1 rfl dX12_needs_1 rfl ?_
  refine aw_callV B 0 0 (s_isReader _ _ _ _ _ _ _) co_X12_isReader k_X12_144 dX12_needs_2 hM_o rfl rfl rfl rfl (Nat.le_of_ble_eq_true rfl) (zrm hr (by decide)) (Nat.le_refl _) (Nat.le_refl _) (kI fun r2 h2 hp2 => ?_)
  obtain ⟨rfl, rfl⟩ := hp2
  refine aw_if_eq B 25 dX12_needs_5 (fun c5 => ?_) (fun c5 => ?_)
  · refine aw_iconst B (-1) (by decide) dX12_needs_25 ?_
    refine aw_iret B rfl rfl dX12_needs_26 ?_
    exact ⟨_, rfl, by (try simp (disch := omega) only [mup_s, mup_m, mup_i, upd_s, upd_n]); (try simp_all [q_needs, mup_s, mup_m, mup_i, upd_s, upd_n]), by (try simp (disch := omega) only [mup_s, mup_m, mup_i, upd_s, upd_n]); (try simp_all [q_needs, mup_s, mup_m, mup_i, upd_s, upd_n])⟩
  · refine aw_aload_n B 0 rfl dX12_needs_8 rfl ?_
    refine aw_iload_n B 2 rfl dX12_needs_9 rfl ?_
    refine aw_callV B 0 0 (s_isSlate _ _ _ _ _ _ _) co_X12_isSlate k_X12_141 dX12_needs_10 hM_o rfl rfl rfl rfl (Nat.le_of_ble_eq_true rfl) (zrm hr (by decide)) (Nat.le_refl _) (Nat.le_refl _) (kI fun r10 h10 hp10 => ?_)
    obtain ⟨rfl, rfl⟩ := hp10
    refine aw_if_eq B 25 dX12_needs_13 (fun c13 => ?_) (fun c13 => ?_)
    · refine aw_iconst B (-1) (by decide) dX12_needs_25 ?_
      refine aw_iret B rfl rfl dX12_needs_26 ?_
      exact ⟨_, rfl, by (try simp (disch := omega) only [mup_s, mup_m, mup_i, upd_s, upd_n]); (try simp_all [q_needs, mup_s, mup_m, mup_i, upd_s, upd_n]), by (try simp (disch := omega) only [mup_s, mup_m, mup_i, upd_s, upd_n]); (try simp_all [q_needs, mup_s, mup_m, mup_i, upd_s, upd_n])⟩
    · obtain ⟨r, hr4, rfl⟩ := in_cnt (of_bI c5) (by have := hq.1; omega) hq.2.1
      obtain ⟨s, hs6, rfl⟩ := in_cnt (of_bI c13) (by have := hs.1; omega) hs.2.1
      obtain ⟨⟨k, -, hk, ek⟩, v, -, hv, ev⟩ := hq.2.2 r hr4
      obtain ⟨-, n, hn1, hn, en⟩ := hs.2.2 s hs6
      have z1 := hq.1
      have z2 := hs.1
      have e1 : (nI r).toNatClampNeg = r := nI_clamp (by omega)
      have e2 : (nI s).toNatClampNeg = s := nI_clamp (by omega)
      have e3 : (nI k).toNatClampNeg = k := nI_clamp (by omega)
      have e4 : (nI v).toNatClampNeg = v := nI_clamp (by omega)
      have e5 : (nI n).toNatClampNeg = n := nI_clamp (by omega)
      refine aw_aload_n B 0 rfl dX12_needs_16 rfl ?_
      refine aw_iload_n B 1 rfl dX12_needs_17 rfl ?_
      refine aw_iload_n B 2 rfl dX12_needs_18 rfl ?_
      refine aw_callV B 0 0 (s_needsOf _ _ _ _ _ _ r s k v n (by omega) (by omega) hk hv hn ek ev en) co_X12_needsOf k_X12_147 dX12_needs_19 hM_o rfl rfl rfl rfl (Nat.le_of_ble_eq_true rfl) (zrm hr (by decide)) (Nat.le_refl _) (Nat.le_refl _) (kI fun r19 h19 hp19 => ?_)
      obtain ⟨rfl, rfl⟩ := hp19
      refine aw_goto B 26 dX12_needs_22 ?_
      refine aw_iret B rfl rfl dX12_needs_26 ?_
      exact ⟨_, rfl, by (try simp (disch := omega) only [mup_s, mup_m, mup_i, upd_s, upd_n]); (try simp_all [q_needs, mup_s, mup_m, mup_i, upd_s, upd_n]), by (try simp (disch := omega) only [mup_s, mup_m, mup_i, upd_s, upd_n]); (try simp_all [q_needs, mup_s, mup_m, mup_i, upd_s, upd_n])⟩
def q_ask (S : Nat → Int32) (x y z : Int32) : Int32 × (Nat → Int32) := if x = -1 then (0, upd S 3 0) else if bI (0 ≤ x ∧ x ≤ S 1 - 1) = 0 then (-1, S) else if bI (0 ≤ y ∧ y ≤ S 0 - 1) = 0 then (-1, S) else if bI (0 ≤ z ∧ z ≤ 24) = 0 then (-2, S) else if S 3 = 8 then (-4, S) else (S 3 + 1, upd (upd (upd (upd S (30 + (S 3).toNatClampNeg) x) (38 + (S 3).toNatClampNeg) y) (46 + (S 3).toNatClampNeg) z) 3 (S 3 + 1))
theorem dX12_ask_0 : decode cX12_ask 0 = .ok (.iload_n 1, 1) := by decide +kernel
theorem dX12_ask_1 : decode cX12_ask 1 = .ok (.iconst (-1), 1) := by decide +kernel
theorem dX12_ask_2 : decode cX12_ask 2 = .ok (.if_icmp .ne 12, 3) := by decide +kernel
theorem dX12_ask_5 : decode cX12_ask 5 = .ok (.aload_n 0, 1) := by decide +kernel
theorem dX12_ask_6 : decode cX12_ask 6 = .ok (.getfield 9, 3) := by decide +kernel
theorem dX12_ask_9 : decode cX12_ask 9 = .ok (.iconst 3, 1) := by decide +kernel
theorem dX12_ask_10 : decode cX12_ask 10 = .ok (.iconst 0, 1) := by decide +kernel
theorem dX12_ask_11 : decode cX12_ask 11 = .ok (.iastore, 1) := by decide +kernel
theorem dX12_ask_12 : decode cX12_ask 12 = .ok (.iconst 0, 1) := by decide +kernel
theorem dX12_ask_13 : decode cX12_ask 13 = .ok (.ireturn, 1) := by decide +kernel
theorem dX12_ask_14 : decode cX12_ask 14 = .ok (.aload_n 0, 1) := by decide +kernel
theorem dX12_ask_15 : decode cX12_ask 15 = .ok (.iload_n 1, 1) := by decide +kernel
theorem dX12_ask_16 : decode cX12_ask 16 = .ok (.invokevirtual 144, 3) := by decide +kernel
theorem dX12_ask_19 : decode cX12_ask 19 = .ok (.ifCond .eq 11, 3) := by decide +kernel
theorem dX12_ask_22 : decode cX12_ask 22 = .ok (.aload_n 0, 1) := by decide +kernel
theorem dX12_ask_23 : decode cX12_ask 23 = .ok (.iload_n 2, 1) := by decide +kernel
theorem dX12_ask_24 : decode cX12_ask 24 = .ok (.invokevirtual 141, 3) := by decide +kernel
theorem dX12_ask_27 : decode cX12_ask 27 = .ok (.ifCond .ne 5, 3) := by decide +kernel
theorem dX12_ask_30 : decode cX12_ask 30 = .ok (.iconst (-1), 1) := by decide +kernel
theorem dX12_ask_31 : decode cX12_ask 31 = .ok (.ireturn, 1) := by decide +kernel
theorem dX12_ask_32 : decode cX12_ask 32 = .ok (.iload_n 3, 1) := by decide +kernel
theorem dX12_ask_33 : decode cX12_ask 33 = .ok (.iconst 0, 1) := by decide +kernel
theorem dX12_ask_34 : decode cX12_ask 34 = .ok (.bipush 24, 2) := by decide +kernel
theorem dX12_ask_36 : decode cX12_ask 36 = .ok (.invokestatic 44, 3) := by decide +kernel
theorem dX12_ask_39 : decode cX12_ask 39 = .ok (.ifCond .ne 6, 3) := by decide +kernel
theorem dX12_ask_42 : decode cX12_ask 42 = .ok (.bipush (-2), 2) := by decide +kernel
theorem dX12_ask_44 : decode cX12_ask 44 = .ok (.ireturn, 1) := by decide +kernel
theorem dX12_ask_45 : decode cX12_ask 45 = .ok (.aload_n 0, 1) := by decide +kernel
theorem dX12_ask_46 : decode cX12_ask 46 = .ok (.getfield 9, 3) := by decide +kernel
theorem dX12_ask_49 : decode cX12_ask 49 = .ok (.iconst 3, 1) := by decide +kernel
theorem dX12_ask_50 : decode cX12_ask 50 = .ok (.iaload, 1) := by decide +kernel
theorem dX12_ask_51 : decode cX12_ask 51 = .ok (.bipush 8, 2) := by decide +kernel
theorem dX12_ask_53 : decode cX12_ask 53 = .ok (.if_icmp .ne 6, 3) := by decide +kernel
theorem dX12_ask_56 : decode cX12_ask 56 = .ok (.bipush (-4), 2) := by decide +kernel
theorem dX12_ask_58 : decode cX12_ask 58 = .ok (.ireturn, 1) := by decide +kernel
theorem dX12_ask_59 : decode cX12_ask 59 = .ok (.aload_n 0, 1) := by decide +kernel
theorem dX12_ask_60 : decode cX12_ask 60 = .ok (.getfield 9, 3) := by decide +kernel
theorem dX12_ask_63 : decode cX12_ask 63 = .ok (.bipush 30, 2) := by decide +kernel
theorem dX12_ask_65 : decode cX12_ask 65 = .ok (.aload_n 0, 1) := by decide +kernel
theorem dX12_ask_66 : decode cX12_ask 66 = .ok (.getfield 9, 3) := by decide +kernel
theorem dX12_ask_69 : decode cX12_ask 69 = .ok (.iconst 3, 1) := by decide +kernel
theorem dX12_ask_70 : decode cX12_ask 70 = .ok (.iaload, 1) := by decide +kernel
theorem dX12_ask_71 : decode cX12_ask 71 = .ok (.iadd, 1) := by decide +kernel
theorem dX12_ask_72 : decode cX12_ask 72 = .ok (.iload_n 1, 1) := by decide +kernel
theorem dX12_ask_73 : decode cX12_ask 73 = .ok (.iastore, 1) := by decide +kernel
theorem dX12_ask_74 : decode cX12_ask 74 = .ok (.aload_n 0, 1) := by decide +kernel
theorem dX12_ask_75 : decode cX12_ask 75 = .ok (.getfield 9, 3) := by decide +kernel
theorem dX12_ask_78 : decode cX12_ask 78 = .ok (.bipush 38, 2) := by decide +kernel
theorem dX12_ask_80 : decode cX12_ask 80 = .ok (.aload_n 0, 1) := by decide +kernel
theorem dX12_ask_81 : decode cX12_ask 81 = .ok (.getfield 9, 3) := by decide +kernel
theorem dX12_ask_84 : decode cX12_ask 84 = .ok (.iconst 3, 1) := by decide +kernel
theorem dX12_ask_85 : decode cX12_ask 85 = .ok (.iaload, 1) := by decide +kernel
theorem dX12_ask_86 : decode cX12_ask 86 = .ok (.iadd, 1) := by decide +kernel
theorem dX12_ask_87 : decode cX12_ask 87 = .ok (.iload_n 2, 1) := by decide +kernel
theorem dX12_ask_88 : decode cX12_ask 88 = .ok (.iastore, 1) := by decide +kernel
theorem dX12_ask_89 : decode cX12_ask 89 = .ok (.aload_n 0, 1) := by decide +kernel
theorem dX12_ask_90 : decode cX12_ask 90 = .ok (.getfield 9, 3) := by decide +kernel
theorem dX12_ask_93 : decode cX12_ask 93 = .ok (.bipush 46, 2) := by decide +kernel
theorem dX12_ask_95 : decode cX12_ask 95 = .ok (.aload_n 0, 1) := by decide +kernel
theorem dX12_ask_96 : decode cX12_ask 96 = .ok (.getfield 9, 3) := by decide +kernel
theorem dX12_ask_99 : decode cX12_ask 99 = .ok (.iconst 3, 1) := by decide +kernel
theorem dX12_ask_100 : decode cX12_ask 100 = .ok (.iaload, 1) := by decide +kernel
theorem dX12_ask_101 : decode cX12_ask 101 = .ok (.iadd, 1) := by decide +kernel
theorem dX12_ask_102 : decode cX12_ask 102 = .ok (.iload_n 3, 1) := by decide +kernel
theorem dX12_ask_103 : decode cX12_ask 103 = .ok (.iastore, 1) := by decide +kernel
theorem dX12_ask_104 : decode cX12_ask 104 = .ok (.aload_n 0, 1) := by decide +kernel
theorem dX12_ask_105 : decode cX12_ask 105 = .ok (.getfield 9, 3) := by decide +kernel
theorem dX12_ask_108 : decode cX12_ask 108 = .ok (.iconst 3, 1) := by decide +kernel
theorem dX12_ask_109 : decode cX12_ask 109 = .ok (.dup2, 1) := by decide +kernel
theorem dX12_ask_110 : decode cX12_ask 110 = .ok (.iaload, 1) := by decide +kernel
theorem dX12_ask_111 : decode cX12_ask 111 = .ok (.iconst 1, 1) := by decide +kernel
theorem dX12_ask_112 : decode cX12_ask 112 = .ok (.iadd, 1) := by decide +kernel
theorem dX12_ask_113 : decode cX12_ask 113 = .ok (.iastore, 1) := by decide +kernel
theorem dX12_ask_114 : decode cX12_ask 114 = .ok (.aload_n 0, 1) := by decide +kernel
theorem dX12_ask_115 : decode cX12_ask 115 = .ok (.getfield 9, 3) := by decide +kernel
theorem dX12_ask_118 : decode cX12_ask 118 = .ok (.iconst 3, 1) := by decide +kernel
theorem dX12_ask_119 : decode cX12_ask 119 = .ok (.iaload, 1) := by decide +kernel
theorem dX12_ask_120 : decode cX12_ask 120 = .ok (.ireturn, 1) := by decide +kernel
set_option maxRecDepth 100000 in
set_option maxHeartbeats 4000000 in
theorem s_ask (l : Launch) (g : zG) (h : Hp) (m : Nat) (F : Nat → Int32) (A : Nat → Nat → Int32) (x y z : Int32) (ht : rng (A 1 3) 0 8) : Sp l g yX12_ask cX12_ask 4 (some .int) (rmz 3) [.ref m, .int x, .int y, .int z] (hM g h m F A) (zI (mres g h m F A (q_ask (A 1) x y z))) := by
  refine Sp.of [some (.ref m), some (.int x), some (.int y), some (.int z)] (by decide) (Nat.le_of_ble_eq_true rfl) rfl rfl ?_
  rintro X rfl hr rfl B
  show AW X 0 0 0 _ _ _ _
  obtain ⟨t, -, ht, et⟩ := ht
  have ek : (A 1 3).toNatClampNeg = t := by rw [et, nI_clamp (by omega)]
  refine aw_iload_n B 1 rfl dX12_ask_0 rfl ?_
  refine aw_iconst B (-1) (by decide) dX12_ask_1 ?_
  refine aw_icmp_ne B 14 dX12_ask_2 (fun c2 => ?_) (fun c2 => ?_)
  · refine aw_aload_n B 0 rfl dX12_ask_14 rfl ?_
    refine aw_iload_n B 1 rfl dX12_ask_15 rfl ?_
    refine aw_callV B 0 0 (s_isReader _ _ _ _ _ _ _) co_X12_isReader k_X12_144 dX12_ask_16 hM_o rfl rfl rfl rfl (Nat.le_of_ble_eq_true rfl) (zrm hr (by decide)) (Nat.le_refl _) (Nat.le_refl _) (kI fun r16 h16 hp16 => ?_)
    obtain ⟨rfl, rfl⟩ := hp16
    refine aw_if_eq B 30 dX12_ask_19 (fun c19 => ?_) (fun c19 => ?_)
    · refine aw_iconst B (-1) (by decide) dX12_ask_30 ?_
      refine aw_iret B rfl rfl dX12_ask_31 ?_
      exact ⟨_, rfl, by (try simp (disch := omega) only [mup_s, mup_m, mup_i, upd_s, upd_n]); (try simp_all [q_ask, mup_s, mup_m, mup_i, upd_s, upd_n]), by (try simp (disch := omega) only [mup_s, mup_m, mup_i, upd_s, upd_n]); (try simp_all [q_ask, mup_s, mup_m, mup_i, upd_s, upd_n])⟩
    · refine aw_aload_n B 0 rfl dX12_ask_22 rfl ?_
      refine aw_iload_n B 2 rfl dX12_ask_23 rfl ?_
      refine aw_callV B 0 0 (s_isSlate _ _ _ _ _ _ _) co_X12_isSlate k_X12_141 dX12_ask_24 hM_o rfl rfl rfl rfl (Nat.le_of_ble_eq_true rfl) (zrm hr (by decide)) (Nat.le_refl _) (Nat.le_refl _) (kI fun r24 h24 hp24 => ?_)
      obtain ⟨rfl, rfl⟩ := hp24
      refine aw_if_ne B 32 dX12_ask_27 (fun c27 => ?_) (fun c27 => ?_)
      · refine aw_iload_n B 3 rfl dX12_ask_32 rfl ?_
        refine aw_iconst B 0 (by decide) dX12_ask_33 ?_
        refine aw_bipush B 24 (by decide) dX12_ask_34 ?_
        refine aw_callS B 0 0 (s_in _ _ _ _ _ _) co_X12_in k_X12_44 dX12_ask_36 rfl rfl (Nat.le_of_ble_eq_true rfl) (zrm hr (by decide)) (Nat.le_refl _) (Nat.le_refl _) (kI fun r36 h36 hp36 => ?_)
        obtain ⟨rfl, rfl⟩ := hp36
        refine aw_if_ne B 45 dX12_ask_39 (fun c39 => ?_) (fun c39 => ?_)
        · refine aw_aload_n B 0 rfl dX12_ask_45 rfl ?_
          refine m_get B f_X12_9 dX12_ask_46 rfl ?_
          refine aw_iconst B 3 (by decide) dX12_ask_49 ?_
          refine m_ld B (3) (rfl) ((by decide)) dX12_ask_50 (by decide) ?_
          refine aw_bipush B 8 (by decide) dX12_ask_51 ?_
          refine aw_icmp_ne B 59 dX12_ask_53 (fun c53 => ?_) (fun c53 => ?_)
          · have hlt : t < 8 := by
              rcases Nat.lt_or_ge t 8 with z | z
              · exact z
              · exact absurd (by rw [et, show t = 8 by omega]; rfl) c53
            refine aw_aload_n B 0 rfl dX12_ask_59 rfl ?_
            refine m_get B f_X12_9 dX12_ask_60 rfl ?_
            refine aw_bipush B 30 (by decide) dX12_ask_63 ?_
            refine aw_aload_n B 0 rfl dX12_ask_65 rfl ?_
            refine m_get B f_X12_9 dX12_ask_66 rfl ?_
            refine aw_iconst B 3 (by decide) dX12_ask_69 ?_
            refine m_ld B (3) (rfl) ((by decide)) dX12_ask_70 (by decide) ?_
            refine aw_iadd B dX12_ask_71 ?_
            refine aw_iload_n B 1 rfl dX12_ask_72 rfl ?_
            refine m_st B (30 + t) (by (try rw [mup_s]); (try rw [mup_s]); (try rw [upd_n (by omega)]); (try rw [upd_n (by omega)]); exact ix_c 30 et) (by show _ < 899; omega) dX12_ask_73 (by decide) ?_
            refine aw_aload_n B 0 rfl dX12_ask_74 rfl ?_
            refine m_get B f_X12_9 dX12_ask_75 rfl ?_
            refine aw_bipush B 38 (by decide) dX12_ask_78 ?_
            refine aw_aload_n B 0 rfl dX12_ask_80 rfl ?_
            refine m_get B f_X12_9 dX12_ask_81 rfl ?_
            refine aw_iconst B 3 (by decide) dX12_ask_84 ?_
            refine m_ld B (3) (rfl) ((by decide)) dX12_ask_85 (by decide) ?_
            refine aw_iadd B dX12_ask_86 ?_
            refine aw_iload_n B 2 rfl dX12_ask_87 rfl ?_
            refine m_st B (38 + t) (by (try rw [mup_s]); (try rw [mup_s]); (try rw [upd_n (by omega)]); (try rw [upd_n (by omega)]); exact ix_c 38 et) (by show _ < 899; omega) dX12_ask_88 (by decide) ?_
            refine aw_aload_n B 0 rfl dX12_ask_89 rfl ?_
            refine m_get B f_X12_9 dX12_ask_90 rfl ?_
            refine aw_bipush B 46 (by decide) dX12_ask_93 ?_
            refine aw_aload_n B 0 rfl dX12_ask_95 rfl ?_
            refine m_get B f_X12_9 dX12_ask_96 rfl ?_
            refine aw_iconst B 3 (by decide) dX12_ask_99 ?_
            refine m_ld B (3) (rfl) ((by decide)) dX12_ask_100 (by decide) ?_
            refine aw_iadd B dX12_ask_101 ?_
            refine aw_iload_n B 3 rfl dX12_ask_102 rfl ?_
            refine m_st B (46 + t) (by (try rw [mup_s]); (try rw [mup_s]); (try rw [upd_n (by omega)]); (try rw [upd_n (by omega)]); exact ix_c 46 et) (by show _ < 899; omega) dX12_ask_103 (by decide) ?_
            refine aw_aload_n B 0 rfl dX12_ask_104 rfl ?_
            refine m_get B f_X12_9 dX12_ask_105 rfl ?_
            refine aw_iconst B 3 (by decide) dX12_ask_108 ?_
            refine aw_dup2 B rfl rfl dX12_ask_109 ?_
            refine m_ld B (3) (rfl) ((by decide)) dX12_ask_110 (by decide) ?_
            refine aw_iconst B 1 (by decide) dX12_ask_111 ?_
            refine aw_iadd B dX12_ask_112 ?_
            refine m_st B (3) (rfl) ((by decide)) dX12_ask_113 (by decide) ?_
            refine aw_aload_n B 0 rfl dX12_ask_114 rfl ?_
            refine m_get B f_X12_9 dX12_ask_115 rfl ?_
            refine aw_iconst B 3 (by decide) dX12_ask_118 ?_
            refine m_ld B (3) (rfl) ((by decide)) dX12_ask_119 (by decide) ?_
            refine aw_iret B rfl rfl dX12_ask_120 ?_
            exact ⟨_, rfl, by (try simp (disch := omega) only [mup_s, mup_m, mup_i, upd_s, upd_n]); (try simp_all [q_ask, mup_s, mup_m, mup_i, upd_s, upd_n]), by (try simp (disch := omega) only [mup_s, mup_m, mup_i, upd_s, upd_n]); (try simp_all [q_ask, mup_s, mup_m, mup_i, upd_s, upd_n])⟩
          · refine aw_bipush B (-4) (by decide) dX12_ask_56 ?_
            refine aw_iret B rfl rfl dX12_ask_58 ?_
            exact ⟨_, rfl, by (try simp (disch := omega) only [mup_s, mup_m, mup_i, upd_s, upd_n]); (try simp_all [q_ask, mup_s, mup_m, mup_i, upd_s, upd_n]), by (try simp (disch := omega) only [mup_s, mup_m, mup_i, upd_s, upd_n]); (try simp_all [q_ask, mup_s, mup_m, mup_i, upd_s, upd_n])⟩
        · refine aw_bipush B (-2) (by decide) dX12_ask_42 ?_
          refine aw_iret B rfl rfl dX12_ask_44 ?_
          exact ⟨_, rfl, by (try simp (disch := omega) only [mup_s, mup_m, mup_i, upd_s, upd_n]); (try simp_all [q_ask, mup_s, mup_m, mup_i, upd_s, upd_n]), by (try simp (disch := omega) only [mup_s, mup_m, mup_i, upd_s, upd_n]); (try simp_all [q_ask, mup_s, mup_m, mup_i, upd_s, upd_n])⟩
      · refine aw_iconst B (-1) (by decide) dX12_ask_30 ?_
        refine aw_iret B rfl rfl dX12_ask_31 ?_
        exact ⟨_, rfl, by (try simp (disch := omega) only [mup_s, mup_m, mup_i, upd_s, upd_n]); (try simp_all [q_ask, mup_s, mup_m, mup_i, upd_s, upd_n]), by (try simp (disch := omega) only [mup_s, mup_m, mup_i, upd_s, upd_n]); (try simp_all [q_ask, mup_s, mup_m, mup_i, upd_s, upd_n])⟩
  · refine aw_aload_n B 0 rfl dX12_ask_5 rfl ?_
    refine m_get B f_X12_9 dX12_ask_6 rfl ?_
    refine aw_iconst B 3 (by decide) dX12_ask_9 ?_
    refine aw_iconst B 0 (by decide) dX12_ask_10 ?_
    refine m_st B (3) (rfl) ((by decide)) dX12_ask_11 (by decide) ?_
    refine aw_iconst B 0 (by decide) dX12_ask_12 ?_
    refine aw_iret B rfl rfl dX12_ask_13 ?_
    exact ⟨_, rfl, by (try simp (disch := omega) only [mup_s, mup_m, mup_i, upd_s, upd_n]); (try simp_all [q_ask, mup_s, mup_m, mup_i, upd_s, upd_n]), by (try simp (disch := omega) only [mup_s, mup_m, mup_i, upd_s, upd_n]); (try simp_all [q_ask, mup_s, mup_m, mup_i, upd_s, upd_n])⟩
def q_tale (S : Nat → Int32) (x y z : Int32) : Int32 × (Nat → Int32) := if x = -1 then (0, upd S 5 0) else if bI (0 ≤ x ∧ x ≤ S 1 - 1) = 0 then (-1, S) else if bI (0 ≤ y ∧ y ≤ S 0 - 1) = 0 then (-1, S) else if bI (0 ≤ z ∧ z ≤ 60) = 0 then (-2, S) else if S 5 = 8 then (-4, S) else (S 5 + 1, upd (upd (upd (upd S (70 + (S 5).toNatClampNeg) x) (78 + (S 5).toNatClampNeg) y) (86 + (S 5).toNatClampNeg) z) 5 (S 5 + 1))
theorem dX12_tale_0 : decode cX12_tale 0 = .ok (.iload_n 1, 1) := by decide +kernel
theorem dX12_tale_1 : decode cX12_tale 1 = .ok (.iconst (-1), 1) := by decide +kernel
theorem dX12_tale_2 : decode cX12_tale 2 = .ok (.if_icmp .ne 12, 3) := by decide +kernel
theorem dX12_tale_5 : decode cX12_tale 5 = .ok (.aload_n 0, 1) := by decide +kernel
theorem dX12_tale_6 : decode cX12_tale 6 = .ok (.getfield 9, 3) := by decide +kernel
theorem dX12_tale_9 : decode cX12_tale 9 = .ok (.iconst 5, 1) := by decide +kernel
theorem dX12_tale_10 : decode cX12_tale 10 = .ok (.iconst 0, 1) := by decide +kernel
theorem dX12_tale_11 : decode cX12_tale 11 = .ok (.iastore, 1) := by decide +kernel
theorem dX12_tale_12 : decode cX12_tale 12 = .ok (.iconst 0, 1) := by decide +kernel
theorem dX12_tale_13 : decode cX12_tale 13 = .ok (.ireturn, 1) := by decide +kernel
theorem dX12_tale_14 : decode cX12_tale 14 = .ok (.aload_n 0, 1) := by decide +kernel
theorem dX12_tale_15 : decode cX12_tale 15 = .ok (.iload_n 1, 1) := by decide +kernel
theorem dX12_tale_16 : decode cX12_tale 16 = .ok (.invokevirtual 144, 3) := by decide +kernel
theorem dX12_tale_19 : decode cX12_tale 19 = .ok (.ifCond .eq 11, 3) := by decide +kernel
theorem dX12_tale_22 : decode cX12_tale 22 = .ok (.aload_n 0, 1) := by decide +kernel
theorem dX12_tale_23 : decode cX12_tale 23 = .ok (.iload_n 2, 1) := by decide +kernel
theorem dX12_tale_24 : decode cX12_tale 24 = .ok (.invokevirtual 141, 3) := by decide +kernel
theorem dX12_tale_27 : decode cX12_tale 27 = .ok (.ifCond .ne 5, 3) := by decide +kernel
theorem dX12_tale_30 : decode cX12_tale 30 = .ok (.iconst (-1), 1) := by decide +kernel
theorem dX12_tale_31 : decode cX12_tale 31 = .ok (.ireturn, 1) := by decide +kernel
theorem dX12_tale_32 : decode cX12_tale 32 = .ok (.iload_n 3, 1) := by decide +kernel
theorem dX12_tale_33 : decode cX12_tale 33 = .ok (.iconst 0, 1) := by decide +kernel
theorem dX12_tale_34 : decode cX12_tale 34 = .ok (.bipush 60, 2) := by decide +kernel
theorem dX12_tale_36 : decode cX12_tale 36 = .ok (.invokestatic 44, 3) := by decide +kernel
theorem dX12_tale_39 : decode cX12_tale 39 = .ok (.ifCond .ne 6, 3) := by decide +kernel
theorem dX12_tale_42 : decode cX12_tale 42 = .ok (.bipush (-2), 2) := by decide +kernel
theorem dX12_tale_44 : decode cX12_tale 44 = .ok (.ireturn, 1) := by decide +kernel
theorem dX12_tale_45 : decode cX12_tale 45 = .ok (.aload_n 0, 1) := by decide +kernel
theorem dX12_tale_46 : decode cX12_tale 46 = .ok (.getfield 9, 3) := by decide +kernel
theorem dX12_tale_49 : decode cX12_tale 49 = .ok (.iconst 5, 1) := by decide +kernel
theorem dX12_tale_50 : decode cX12_tale 50 = .ok (.iaload, 1) := by decide +kernel
theorem dX12_tale_51 : decode cX12_tale 51 = .ok (.bipush 8, 2) := by decide +kernel
theorem dX12_tale_53 : decode cX12_tale 53 = .ok (.if_icmp .ne 6, 3) := by decide +kernel
theorem dX12_tale_56 : decode cX12_tale 56 = .ok (.bipush (-4), 2) := by decide +kernel
theorem dX12_tale_58 : decode cX12_tale 58 = .ok (.ireturn, 1) := by decide +kernel
theorem dX12_tale_59 : decode cX12_tale 59 = .ok (.aload_n 0, 1) := by decide +kernel
theorem dX12_tale_60 : decode cX12_tale 60 = .ok (.getfield 9, 3) := by decide +kernel
theorem dX12_tale_63 : decode cX12_tale 63 = .ok (.bipush 70, 2) := by decide +kernel
theorem dX12_tale_65 : decode cX12_tale 65 = .ok (.aload_n 0, 1) := by decide +kernel
theorem dX12_tale_66 : decode cX12_tale 66 = .ok (.getfield 9, 3) := by decide +kernel
theorem dX12_tale_69 : decode cX12_tale 69 = .ok (.iconst 5, 1) := by decide +kernel
theorem dX12_tale_70 : decode cX12_tale 70 = .ok (.iaload, 1) := by decide +kernel
theorem dX12_tale_71 : decode cX12_tale 71 = .ok (.iadd, 1) := by decide +kernel
theorem dX12_tale_72 : decode cX12_tale 72 = .ok (.iload_n 1, 1) := by decide +kernel
theorem dX12_tale_73 : decode cX12_tale 73 = .ok (.iastore, 1) := by decide +kernel
theorem dX12_tale_74 : decode cX12_tale 74 = .ok (.aload_n 0, 1) := by decide +kernel
theorem dX12_tale_75 : decode cX12_tale 75 = .ok (.getfield 9, 3) := by decide +kernel
theorem dX12_tale_78 : decode cX12_tale 78 = .ok (.bipush 78, 2) := by decide +kernel
theorem dX12_tale_80 : decode cX12_tale 80 = .ok (.aload_n 0, 1) := by decide +kernel
theorem dX12_tale_81 : decode cX12_tale 81 = .ok (.getfield 9, 3) := by decide +kernel
theorem dX12_tale_84 : decode cX12_tale 84 = .ok (.iconst 5, 1) := by decide +kernel
theorem dX12_tale_85 : decode cX12_tale 85 = .ok (.iaload, 1) := by decide +kernel
theorem dX12_tale_86 : decode cX12_tale 86 = .ok (.iadd, 1) := by decide +kernel
theorem dX12_tale_87 : decode cX12_tale 87 = .ok (.iload_n 2, 1) := by decide +kernel
theorem dX12_tale_88 : decode cX12_tale 88 = .ok (.iastore, 1) := by decide +kernel
theorem dX12_tale_89 : decode cX12_tale 89 = .ok (.aload_n 0, 1) := by decide +kernel
theorem dX12_tale_90 : decode cX12_tale 90 = .ok (.getfield 9, 3) := by decide +kernel
theorem dX12_tale_93 : decode cX12_tale 93 = .ok (.bipush 86, 2) := by decide +kernel
theorem dX12_tale_95 : decode cX12_tale 95 = .ok (.aload_n 0, 1) := by decide +kernel
theorem dX12_tale_96 : decode cX12_tale 96 = .ok (.getfield 9, 3) := by decide +kernel
theorem dX12_tale_99 : decode cX12_tale 99 = .ok (.iconst 5, 1) := by decide +kernel
theorem dX12_tale_100 : decode cX12_tale 100 = .ok (.iaload, 1) := by decide +kernel
theorem dX12_tale_101 : decode cX12_tale 101 = .ok (.iadd, 1) := by decide +kernel
theorem dX12_tale_102 : decode cX12_tale 102 = .ok (.iload_n 3, 1) := by decide +kernel
theorem dX12_tale_103 : decode cX12_tale 103 = .ok (.iastore, 1) := by decide +kernel
theorem dX12_tale_104 : decode cX12_tale 104 = .ok (.aload_n 0, 1) := by decide +kernel
theorem dX12_tale_105 : decode cX12_tale 105 = .ok (.getfield 9, 3) := by decide +kernel
theorem dX12_tale_108 : decode cX12_tale 108 = .ok (.iconst 5, 1) := by decide +kernel
theorem dX12_tale_109 : decode cX12_tale 109 = .ok (.dup2, 1) := by decide +kernel
theorem dX12_tale_110 : decode cX12_tale 110 = .ok (.iaload, 1) := by decide +kernel
theorem dX12_tale_111 : decode cX12_tale 111 = .ok (.iconst 1, 1) := by decide +kernel
theorem dX12_tale_112 : decode cX12_tale 112 = .ok (.iadd, 1) := by decide +kernel
theorem dX12_tale_113 : decode cX12_tale 113 = .ok (.iastore, 1) := by decide +kernel
theorem dX12_tale_114 : decode cX12_tale 114 = .ok (.aload_n 0, 1) := by decide +kernel
theorem dX12_tale_115 : decode cX12_tale 115 = .ok (.getfield 9, 3) := by decide +kernel
theorem dX12_tale_118 : decode cX12_tale 118 = .ok (.iconst 5, 1) := by decide +kernel
theorem dX12_tale_119 : decode cX12_tale 119 = .ok (.iaload, 1) := by decide +kernel
theorem dX12_tale_120 : decode cX12_tale 120 = .ok (.ireturn, 1) := by decide +kernel
set_option maxRecDepth 100000 in
set_option maxHeartbeats 4000000 in
theorem s_tale (l : Launch) (g : zG) (h : Hp) (m : Nat) (F : Nat → Int32) (A : Nat → Nat → Int32) (x y z : Int32) (ht : rng (A 1 5) 0 8) : Sp l g yX12_tale cX12_tale 4 (some .int) (rmz 3) [.ref m, .int x, .int y, .int z] (hM g h m F A) (zI (mres g h m F A (q_tale (A 1) x y z))) := by
  refine Sp.of [some (.ref m), some (.int x), some (.int y), some (.int z)] (by decide) (Nat.le_of_ble_eq_true rfl) rfl rfl ?_
  rintro X rfl hr rfl B
  show AW X 0 0 0 _ _ _ _
  obtain ⟨t, -, ht, et⟩ := ht
  have ek : (A 1 5).toNatClampNeg = t := by rw [et, nI_clamp (by omega)]
  refine aw_iload_n B 1 rfl dX12_tale_0 rfl ?_
  refine aw_iconst B (-1) (by decide) dX12_tale_1 ?_
  refine aw_icmp_ne B 14 dX12_tale_2 (fun c2 => ?_) (fun c2 => ?_)
  · refine aw_aload_n B 0 rfl dX12_tale_14 rfl ?_
    refine aw_iload_n B 1 rfl dX12_tale_15 rfl ?_
    refine aw_callV B 0 0 (s_isReader _ _ _ _ _ _ _) co_X12_isReader k_X12_144 dX12_tale_16 hM_o rfl rfl rfl rfl (Nat.le_of_ble_eq_true rfl) (zrm hr (by decide)) (Nat.le_refl _) (Nat.le_refl _) (kI fun r16 h16 hp16 => ?_)
    obtain ⟨rfl, rfl⟩ := hp16
    refine aw_if_eq B 30 dX12_tale_19 (fun c19 => ?_) (fun c19 => ?_)
    · refine aw_iconst B (-1) (by decide) dX12_tale_30 ?_
      refine aw_iret B rfl rfl dX12_tale_31 ?_
      exact ⟨_, rfl, by (try simp (disch := omega) only [mup_s, mup_m, mup_i, upd_s, upd_n]); (try simp_all [q_tale, mup_s, mup_m, mup_i, upd_s, upd_n]), by (try simp (disch := omega) only [mup_s, mup_m, mup_i, upd_s, upd_n]); (try simp_all [q_tale, mup_s, mup_m, mup_i, upd_s, upd_n])⟩
    · refine aw_aload_n B 0 rfl dX12_tale_22 rfl ?_
      refine aw_iload_n B 2 rfl dX12_tale_23 rfl ?_
      refine aw_callV B 0 0 (s_isSlate _ _ _ _ _ _ _) co_X12_isSlate k_X12_141 dX12_tale_24 hM_o rfl rfl rfl rfl (Nat.le_of_ble_eq_true rfl) (zrm hr (by decide)) (Nat.le_refl _) (Nat.le_refl _) (kI fun r24 h24 hp24 => ?_)
      obtain ⟨rfl, rfl⟩ := hp24
      refine aw_if_ne B 32 dX12_tale_27 (fun c27 => ?_) (fun c27 => ?_)
      · refine aw_iload_n B 3 rfl dX12_tale_32 rfl ?_
        refine aw_iconst B 0 (by decide) dX12_tale_33 ?_
        refine aw_bipush B 60 (by decide) dX12_tale_34 ?_
        refine aw_callS B 0 0 (s_in _ _ _ _ _ _) co_X12_in k_X12_44 dX12_tale_36 rfl rfl (Nat.le_of_ble_eq_true rfl) (zrm hr (by decide)) (Nat.le_refl _) (Nat.le_refl _) (kI fun r36 h36 hp36 => ?_)
        obtain ⟨rfl, rfl⟩ := hp36
        refine aw_if_ne B 45 dX12_tale_39 (fun c39 => ?_) (fun c39 => ?_)
        · refine aw_aload_n B 0 rfl dX12_tale_45 rfl ?_
          refine m_get B f_X12_9 dX12_tale_46 rfl ?_
          refine aw_iconst B 5 (by decide) dX12_tale_49 ?_
          refine m_ld B (5) (rfl) ((by decide)) dX12_tale_50 (by decide) ?_
          refine aw_bipush B 8 (by decide) dX12_tale_51 ?_
          refine aw_icmp_ne B 59 dX12_tale_53 (fun c53 => ?_) (fun c53 => ?_)
          · have hlt : t < 8 := by
              rcases Nat.lt_or_ge t 8 with z | z
              · exact z
              · exact absurd (by rw [et, show t = 8 by omega]; rfl) c53
            refine aw_aload_n B 0 rfl dX12_tale_59 rfl ?_
            refine m_get B f_X12_9 dX12_tale_60 rfl ?_
            refine aw_bipush B 70 (by decide) dX12_tale_63 ?_
            refine aw_aload_n B 0 rfl dX12_tale_65 rfl ?_
            refine m_get B f_X12_9 dX12_tale_66 rfl ?_
            refine aw_iconst B 5 (by decide) dX12_tale_69 ?_
            refine m_ld B (5) (rfl) ((by decide)) dX12_tale_70 (by decide) ?_
            refine aw_iadd B dX12_tale_71 ?_
            refine aw_iload_n B 1 rfl dX12_tale_72 rfl ?_
            refine m_st B (70 + t) (by (try rw [mup_s]); (try rw [mup_s]); (try rw [upd_n (by omega)]); (try rw [upd_n (by omega)]); exact ix_c 70 et) (by show _ < 899; omega) dX12_tale_73 (by decide) ?_
            refine aw_aload_n B 0 rfl dX12_tale_74 rfl ?_
            refine m_get B f_X12_9 dX12_tale_75 rfl ?_
            refine aw_bipush B 78 (by decide) dX12_tale_78 ?_
            refine aw_aload_n B 0 rfl dX12_tale_80 rfl ?_
            refine m_get B f_X12_9 dX12_tale_81 rfl ?_
            refine aw_iconst B 5 (by decide) dX12_tale_84 ?_
            refine m_ld B (5) (rfl) ((by decide)) dX12_tale_85 (by decide) ?_
            refine aw_iadd B dX12_tale_86 ?_
            refine aw_iload_n B 2 rfl dX12_tale_87 rfl ?_
            refine m_st B (78 + t) (by (try rw [mup_s]); (try rw [mup_s]); (try rw [upd_n (by omega)]); (try rw [upd_n (by omega)]); exact ix_c 78 et) (by show _ < 899; omega) dX12_tale_88 (by decide) ?_
            refine aw_aload_n B 0 rfl dX12_tale_89 rfl ?_
            refine m_get B f_X12_9 dX12_tale_90 rfl ?_
            refine aw_bipush B 86 (by decide) dX12_tale_93 ?_
            refine aw_aload_n B 0 rfl dX12_tale_95 rfl ?_
            refine m_get B f_X12_9 dX12_tale_96 rfl ?_
            refine aw_iconst B 5 (by decide) dX12_tale_99 ?_
            refine m_ld B (5) (rfl) ((by decide)) dX12_tale_100 (by decide) ?_
            refine aw_iadd B dX12_tale_101 ?_
            refine aw_iload_n B 3 rfl dX12_tale_102 rfl ?_
            refine m_st B (86 + t) (by (try rw [mup_s]); (try rw [mup_s]); (try rw [upd_n (by omega)]); (try rw [upd_n (by omega)]); exact ix_c 86 et) (by show _ < 899; omega) dX12_tale_103 (by decide) ?_
            refine aw_aload_n B 0 rfl dX12_tale_104 rfl ?_
            refine m_get B f_X12_9 dX12_tale_105 rfl ?_
            refine aw_iconst B 5 (by decide) dX12_tale_108 ?_
            refine aw_dup2 B rfl rfl dX12_tale_109 ?_
            refine m_ld B (5) (rfl) ((by decide)) dX12_tale_110 (by decide) ?_
            refine aw_iconst B 1 (by decide) dX12_tale_111 ?_
            refine aw_iadd B dX12_tale_112 ?_
            refine m_st B (5) (rfl) ((by decide)) dX12_tale_113 (by decide) ?_
            refine aw_aload_n B 0 rfl dX12_tale_114 rfl ?_
            refine m_get B f_X12_9 dX12_tale_115 rfl ?_
            refine aw_iconst B 5 (by decide) dX12_tale_118 ?_
            refine m_ld B (5) (rfl) ((by decide)) dX12_tale_119 (by decide) ?_
            refine aw_iret B rfl rfl dX12_tale_120 ?_
            exact ⟨_, rfl, by (try simp (disch := omega) only [mup_s, mup_m, mup_i, upd_s, upd_n]); (try simp_all [q_tale, mup_s, mup_m, mup_i, upd_s, upd_n]), by (try simp (disch := omega) only [mup_s, mup_m, mup_i, upd_s, upd_n]); (try simp_all [q_tale, mup_s, mup_m, mup_i, upd_s, upd_n])⟩
          · refine aw_bipush B (-4) (by decide) dX12_tale_56 ?_
            refine aw_iret B rfl rfl dX12_tale_58 ?_
            exact ⟨_, rfl, by (try simp (disch := omega) only [mup_s, mup_m, mup_i, upd_s, upd_n]); (try simp_all [q_tale, mup_s, mup_m, mup_i, upd_s, upd_n]), by (try simp (disch := omega) only [mup_s, mup_m, mup_i, upd_s, upd_n]); (try simp_all [q_tale, mup_s, mup_m, mup_i, upd_s, upd_n])⟩
        · refine aw_bipush B (-2) (by decide) dX12_tale_42 ?_
          refine aw_iret B rfl rfl dX12_tale_44 ?_
          exact ⟨_, rfl, by (try simp (disch := omega) only [mup_s, mup_m, mup_i, upd_s, upd_n]); (try simp_all [q_tale, mup_s, mup_m, mup_i, upd_s, upd_n]), by (try simp (disch := omega) only [mup_s, mup_m, mup_i, upd_s, upd_n]); (try simp_all [q_tale, mup_s, mup_m, mup_i, upd_s, upd_n])⟩
      · refine aw_iconst B (-1) (by decide) dX12_tale_30 ?_
        refine aw_iret B rfl rfl dX12_tale_31 ?_
        exact ⟨_, rfl, by (try simp (disch := omega) only [mup_s, mup_m, mup_i, upd_s, upd_n]); (try simp_all [q_tale, mup_s, mup_m, mup_i, upd_s, upd_n]), by (try simp (disch := omega) only [mup_s, mup_m, mup_i, upd_s, upd_n]); (try simp_all [q_tale, mup_s, mup_m, mup_i, upd_s, upd_n])⟩
  · refine aw_aload_n B 0 rfl dX12_tale_5 rfl ?_
    refine m_get B f_X12_9 dX12_tale_6 rfl ?_
    refine aw_iconst B 5 (by decide) dX12_tale_9 ?_
    refine aw_iconst B 0 (by decide) dX12_tale_10 ?_
    refine m_st B (5) (rfl) ((by decide)) dX12_tale_11 (by decide) ?_
    refine aw_iconst B 0 (by decide) dX12_tale_12 ?_
    refine aw_iret B rfl rfl dX12_tale_13 ?_
    exact ⟨_, rfl, by (try simp (disch := omega) only [mup_s, mup_m, mup_i, upd_s, upd_n]); (try simp_all [q_tale, mup_s, mup_m, mup_i, upd_s, upd_n]), by (try simp (disch := omega) only [mup_s, mup_m, mup_i, upd_s, upd_n]); (try simp_all [q_tale, mup_s, mup_m, mup_i, upd_s, upd_n])⟩

def q_count (S : Nat → Int32) (ran x : Int32) : Int32 × (Nat → Int32) := (if x = 7 then ran else if bI (0 ≤ x ∧ x ≤ 6) = 0 then -1 else S x.toNatClampNeg, S)
theorem dX12_count_0 : decode cX12_count 0 = .ok (.iload_n 1, 1) := by decide +kernel
theorem dX12_count_1 : decode cX12_count 1 = .ok (.lookupswitch 24 #[(7, 19)], 19) := by decide +kernel
theorem dX12_count_20 : decode cX12_count 20 = .ok (.aload_n 0, 1) := by decide +kernel
theorem dX12_count_21 : decode cX12_count 21 = .ok (.getfield 209, 3) := by decide +kernel
theorem dX12_count_24 : decode cX12_count 24 = .ok (.ireturn, 1) := by decide +kernel
theorem dX12_count_25 : decode cX12_count 25 = .ok (.iload_n 1, 1) := by decide +kernel
theorem dX12_count_26 : decode cX12_count 26 = .ok (.iconst 0, 1) := by decide +kernel
theorem dX12_count_27 : decode cX12_count 27 = .ok (.bipush 6, 2) := by decide +kernel
theorem dX12_count_29 : decode cX12_count 29 = .ok (.invokestatic 44, 3) := by decide +kernel
theorem dX12_count_32 : decode cX12_count 32 = .ok (.ifCond .eq 12, 3) := by decide +kernel
theorem dX12_count_35 : decode cX12_count 35 = .ok (.aload_n 0, 1) := by decide +kernel
theorem dX12_count_36 : decode cX12_count 36 = .ok (.getfield 9, 3) := by decide +kernel
theorem dX12_count_39 : decode cX12_count 39 = .ok (.iload_n 1, 1) := by decide +kernel
theorem dX12_count_40 : decode cX12_count 40 = .ok (.iaload, 1) := by decide +kernel
theorem dX12_count_41 : decode cX12_count 41 = .ok (.goto 4, 3) := by decide +kernel
theorem dX12_count_44 : decode cX12_count 44 = .ok (.iconst (-1), 1) := by decide +kernel
theorem dX12_count_45 : decode cX12_count 45 = .ok (.ireturn, 1) := by decide +kernel
set_option maxRecDepth 100000 in
set_option maxHeartbeats 4000000 in
theorem s_count (l : Launch) (g : zG) (h : Hp) (m : Nat) (F : Nat → Int32) (A : Nat → Nat → Int32) (x : Int32) : Sp l g yX12_count cX12_count 2 (some .int) (rmz 2) [.ref m, .int x] (hM g h m F A) (zI (mres g h m F A (q_count (A 1) (F 20) x))) := by
  refine Sp.of [some (.ref m), some (.int x)] (by decide) (Nat.le_of_ble_eq_true rfl) rfl rfl ?_
  rintro X rfl hr rfl B
  show AW X 0 0 0 _ _ _ _
  refine aw_iload_n B 1 rfl dX12_count_0 rfl ?_
  by_cases hx : x = 7
  · subst hx
    refine aw_lookup (off := 19) B 20 dX12_count_1 (by decide) ?_
    refine aw_aload_n B 0 rfl dX12_count_20 rfl ?_
    refine m_get B f_X12_209 dX12_count_21 rfl ?_
    refine aw_iret B rfl rfl dX12_count_24 ?_
    exact ⟨_, rfl, by (try simp (disch := omega) only [mup_s, mup_m, mup_i, upd_s, upd_n]); (try simp_all [q_count, mup_s, mup_m, mup_i, upd_s, upd_n]), by (try simp (disch := omega) only [mup_s, mup_m, mup_i, upd_s, upd_n]); (try simp_all [q_count, mup_s, mup_m, mup_i, upd_s, upd_n])⟩
  · have hx7 : ¬ x.toInt = 7 := fun z => hx (Int32.toInt_inj.mp z)
    refine aw_lookup (off := 24) B 25 dX12_count_1 (by simp [Op.lookupswitch.offset, Ne.symm hx7]) ?_
    refine aw_iload_n B 1 rfl dX12_count_25 rfl ?_
    refine aw_iconst B 0 (by decide) dX12_count_26 ?_
    refine aw_bipush B 6 (by decide) dX12_count_27 ?_
    refine aw_callS B 0 0 (s_in _ _ _ _ _ _) co_X12_in k_X12_44 dX12_count_29 rfl rfl (Nat.le_of_ble_eq_true rfl) (zrm hr (by decide)) (Nat.le_refl _) (Nat.le_refl _) (kI fun r29 h29 hp29 => ?_)
    obtain ⟨rfl, rfl⟩ := hp29
    refine aw_if_eq B 44 dX12_count_32 (fun c32 => ?_) (fun c32 => ?_)
    · refine aw_iconst B (-1) (by decide) dX12_count_44 ?_
      refine aw_iret B rfl rfl dX12_count_45 ?_
      exact ⟨_, rfl, by (try simp (disch := omega) only [mup_s, mup_m, mup_i, upd_s, upd_n]); (try simp_all [q_count, mup_s, mup_m, mup_i, upd_s, upd_n]), by (try simp (disch := omega) only [mup_s, mup_m, mup_i, upd_s, upd_n]); (try simp_all [q_count, mup_s, mup_m, mup_i, upd_s, upd_n])⟩
    · obtain ⟨k, -, hk, rfl⟩ := in_rng (lo := 0) (hi := 6) (of_bI c32) (by decide) (by decide)
      have ek : (nI k).toNatClampNeg = k := nI_clamp (by omega)
      refine aw_aload_n B 0 rfl dX12_count_35 rfl ?_
      refine m_get B f_X12_9 dX12_count_36 rfl ?_
      refine aw_iload_n B 1 rfl dX12_count_39 rfl ?_
      refine m_ld B (k) (rfl) (by show _ < 899; omega) dX12_count_40 (by decide) ?_
      refine aw_goto B 45 dX12_count_41 ?_
      refine aw_iret B rfl rfl dX12_count_45 ?_
      exact ⟨_, rfl, by (try simp (disch := omega) only [mup_s, mup_m, mup_i, upd_s, upd_n]); (try simp_all [q_count, mup_s, mup_m, mup_i, upd_s, upd_n]), by (try simp (disch := omega) only [mup_s, mup_m, mup_i, upd_s, upd_n]); (try simp_all [q_count, mup_s, mup_m, mup_i, upd_s, upd_n])⟩
def q_trace (S : Nat → Int32) (ran : Int32) (tr : Nat → Int32) (x : Int32) : Int32 × (Nat → Int32) := (if bI (0 ≤ x ∧ x ≤ (if ran < 20 then ran else 20) - 1) = 0 then -1 else tr x.toNatClampNeg, S)
theorem tr_n {x : Int32} {n : Nat} (e : x = nI n) (hn : n ≤ 100) : (if x < 20 then x else 20) = nI (min n 20) := by
  subst e
  by_cases h : n < 20
  · rw [if_pos (show nI n < (20 : Int32) from nI_lt (b := 20) h (by decide)), Nat.min_eq_left (by omega)]
  · rw [if_neg (show ¬ nI n < (20 : Int32) from nI_nlt (a := n) (b := 20) (by omega) (by omega)), Nat.min_eq_right (by omega)]; rfl
theorem dX12_trace_0 : decode cX12_trace 0 = .ok (.iload_n 1, 1) := by decide +kernel
theorem dX12_trace_1 : decode cX12_trace 1 = .ok (.iconst 0, 1) := by decide +kernel
theorem dX12_trace_2 : decode cX12_trace 2 = .ok (.aload_n 0, 1) := by decide +kernel
theorem dX12_trace_3 : decode cX12_trace 3 = .ok (.getfield 209, 3) := by decide +kernel
theorem dX12_trace_6 : decode cX12_trace 6 = .ok (.bipush 20, 2) := by decide +kernel
theorem dX12_trace_8 : decode cX12_trace 8 = .ok (.if_icmp .ge 10, 3) := by decide +kernel
theorem dX12_trace_11 : decode cX12_trace 11 = .ok (.aload_n 0, 1) := by decide +kernel
theorem dX12_trace_12 : decode cX12_trace 12 = .ok (.getfield 209, 3) := by decide +kernel
theorem dX12_trace_15 : decode cX12_trace 15 = .ok (.goto 5, 3) := by decide +kernel
theorem dX12_trace_18 : decode cX12_trace 18 = .ok (.bipush 20, 2) := by decide +kernel
theorem dX12_trace_20 : decode cX12_trace 20 = .ok (.iconst 1, 1) := by decide +kernel
theorem dX12_trace_21 : decode cX12_trace 21 = .ok (.isub, 1) := by decide +kernel
theorem dX12_trace_22 : decode cX12_trace 22 = .ok (.invokestatic 44, 3) := by decide +kernel
theorem dX12_trace_25 : decode cX12_trace 25 = .ok (.ifCond .eq 12, 3) := by decide +kernel
theorem dX12_trace_28 : decode cX12_trace 28 = .ok (.aload_n 0, 1) := by decide +kernel
theorem dX12_trace_29 : decode cX12_trace 29 = .ok (.getfield 37, 3) := by decide +kernel
theorem dX12_trace_32 : decode cX12_trace 32 = .ok (.iload_n 1, 1) := by decide +kernel
theorem dX12_trace_33 : decode cX12_trace 33 = .ok (.iaload, 1) := by decide +kernel
theorem dX12_trace_34 : decode cX12_trace 34 = .ok (.goto 4, 3) := by decide +kernel
theorem dX12_trace_37 : decode cX12_trace 37 = .ok (.iconst (-1), 1) := by decide +kernel
theorem dX12_trace_38 : decode cX12_trace 38 = .ok (.ireturn, 1) := by decide +kernel
set_option maxRecDepth 100000 in
set_option maxHeartbeats 4000000 in
theorem s_trace (l : Launch) (g : zG) (h : Hp) (m : Nat) (F : Nat → Int32) (A : Nat → Nat → Int32) (x : Int32) (hn : rng (F 20) 0 100) : Sp l g yX12_trace cX12_trace 2 (some .int) (rmz 2) [.ref m, .int x] (hM g h m F A) (zI (mres g h m F A (q_trace (A 1) (F 20) (A 9) x))) := by
  refine Sp.of [some (.ref m), some (.int x)] (by decide) (Nat.le_of_ble_eq_true rfl) rfl rfl ?_
  rintro X rfl hr rfl B
  show AW X 0 0 0 _ _ _ _
  obtain ⟨n, -, hn, en⟩ := hn
  have eT := tr_n en hn
  refine aw_iload_n B 1 rfl dX12_trace_0 rfl ?_
  refine aw_iconst B 0 (by decide) dX12_trace_1 ?_
  refine aw_aload_n B 0 rfl dX12_trace_2 rfl ?_
  refine m_get B f_X12_209 dX12_trace_3 rfl ?_
  refine aw_bipush B 20 (by decide) dX12_trace_6 ?_
  refine aw_icmp_ge B 18 dX12_trace_8 (fun c8 => ?_) (fun c8 => ?_)
  · refine aw_bipush B 20 (by decide) dX12_trace_18 ?_
    refine aw_iconst B 1 (by decide) dX12_trace_20 ?_
    refine aw_isub B dX12_trace_21 ?_
    refine aw_callS B 0 0 (s_in _ _ _ _ _ _) co_X12_in k_X12_44 dX12_trace_22 rfl rfl (Nat.le_of_ble_eq_true rfl) (zrm hr (by decide)) (Nat.le_refl _) (Nat.le_refl _) (kI fun r22 h22 hp22 => ?_)
    obtain ⟨rfl, rfl⟩ := hp22
    refine aw_if_eq B 37 dX12_trace_25 (fun c25 => ?_) (fun c25 => ?_)
    · refine aw_iconst B (-1) (by decide) dX12_trace_37 ?_
      refine aw_iret B rfl rfl dX12_trace_38 ?_
      exact ⟨_, rfl, by simp only [q_trace, if_neg (Int32.not_lt.mpr c8), if_pos c25], by simp only [q_trace, if_neg (Int32.not_lt.mpr c8), if_pos c25]; rw [mup_i]⟩
    · obtain ⟨k, hk, rfl⟩ := in_cnt (n := min n 20) (of_bI c25) (by omega) (by first | (rw [if_pos (by assumption)] at eT; exact eT) | (rw [if_neg (Int32.not_lt.mpr c8)] at eT; exact eT) | (rw [if_pos (Int32.not_le.mp c8)] at eT; exact eT))
      have ek : (nI k).toNatClampNeg = k := nI_clamp (by omega)
      refine aw_aload_n B 0 rfl dX12_trace_28 rfl ?_
      refine m_get B f_X12_37 dX12_trace_29 rfl ?_
      refine aw_iload_n B 1 rfl dX12_trace_32 rfl ?_
      refine m_ld B (k) (rfl) (by show _ < 20; omega) dX12_trace_33 (by decide) ?_
      refine aw_goto B 38 dX12_trace_34 ?_
      refine aw_iret B rfl rfl dX12_trace_38 ?_
      exact ⟨_, rfl, by simp only [q_trace, if_neg (Int32.not_lt.mpr c8), if_neg c25, ek], by simp only [q_trace, if_neg (Int32.not_lt.mpr c8), if_neg c25, ek]; rw [mup_i]⟩
  · refine aw_aload_n B 0 rfl dX12_trace_11 rfl ?_
    refine m_get B f_X12_209 dX12_trace_12 rfl ?_
    refine aw_goto B 20 dX12_trace_15 ?_
    refine aw_iconst B 1 (by decide) dX12_trace_20 ?_
    refine aw_isub B dX12_trace_21 ?_
    refine aw_callS B 0 0 (s_in _ _ _ _ _ _) co_X12_in k_X12_44 dX12_trace_22 rfl rfl (Nat.le_of_ble_eq_true rfl) (zrm hr (by decide)) (Nat.le_refl _) (Nat.le_refl _) (kI fun r22 h22 hp22 => ?_)
    obtain ⟨rfl, rfl⟩ := hp22
    refine aw_if_eq B 37 dX12_trace_25 (fun c25 => ?_) (fun c25 => ?_)
    · refine aw_iconst B (-1) (by decide) dX12_trace_37 ?_
      refine aw_iret B rfl rfl dX12_trace_38 ?_
      exact ⟨_, rfl, by simp only [q_trace, if_pos (Int32.not_le.mp c8), if_pos c25], by simp only [q_trace, if_pos (Int32.not_le.mp c8), if_pos c25]; rw [mup_i]⟩
    · obtain ⟨k, hk, rfl⟩ := in_cnt (n := min n 20) (of_bI c25) (by omega) (by first | (rw [if_pos (by assumption)] at eT; exact eT) | (rw [if_neg (Int32.not_lt.mpr c8)] at eT; exact eT) | (rw [if_pos (Int32.not_le.mp c8)] at eT; exact eT))
      have ek : (nI k).toNatClampNeg = k := nI_clamp (by omega)
      refine aw_aload_n B 0 rfl dX12_trace_28 rfl ?_
      refine m_get B f_X12_37 dX12_trace_29 rfl ?_
      refine aw_iload_n B 1 rfl dX12_trace_32 rfl ?_
      refine m_ld B (k) (rfl) (by show _ < 20; omega) dX12_trace_33 (by decide) ?_
      refine aw_goto B 38 dX12_trace_34 ?_
      refine aw_iret B rfl rfl dX12_trace_38 ?_
      exact ⟨_, rfl, by simp only [q_trace, if_pos (Int32.not_le.mp c8), if_neg c25, ek], by simp only [q_trace, if_pos (Int32.not_le.mp c8), if_neg c25, ek]; rw [mup_i]⟩
def p_under (kind k : Int32) : Int32 := if k = 0 then 1 else if k = kind then 1 else if k ≤ 0 then 0 else if 4 ≤ k then 0 else if kind = k + 3 then 1 else 0
theorem dX12_isUnder_0 : decode cX12_isUnder 0 = .ok (.iload_n 1, 1) := by decide +kernel
theorem dX12_isUnder_1 : decode cX12_isUnder 1 = .ok (.ifCond .eq 24, 3) := by decide +kernel
theorem dX12_isUnder_4 : decode cX12_isUnder 4 = .ok (.iload_n 1, 1) := by decide +kernel
theorem dX12_isUnder_5 : decode cX12_isUnder 5 = .ok (.iload_n 0, 1) := by decide +kernel
theorem dX12_isUnder_6 : decode cX12_isUnder 6 = .ok (.if_icmp .eq 19, 3) := by decide +kernel
theorem dX12_isUnder_9 : decode cX12_isUnder 9 = .ok (.iload_n 1, 1) := by decide +kernel
theorem dX12_isUnder_10 : decode cX12_isUnder 10 = .ok (.ifCond .le 19, 3) := by decide +kernel
theorem dX12_isUnder_13 : decode cX12_isUnder 13 = .ok (.iload_n 1, 1) := by decide +kernel
theorem dX12_isUnder_14 : decode cX12_isUnder 14 = .ok (.iconst 4, 1) := by decide +kernel
theorem dX12_isUnder_15 : decode cX12_isUnder 15 = .ok (.if_icmp .ge 14, 3) := by decide +kernel
theorem dX12_isUnder_18 : decode cX12_isUnder 18 = .ok (.iload_n 0, 1) := by decide +kernel
theorem dX12_isUnder_19 : decode cX12_isUnder 19 = .ok (.iload_n 1, 1) := by decide +kernel
theorem dX12_isUnder_20 : decode cX12_isUnder 20 = .ok (.iconst 3, 1) := by decide +kernel
theorem dX12_isUnder_21 : decode cX12_isUnder 21 = .ok (.iadd, 1) := by decide +kernel
theorem dX12_isUnder_22 : decode cX12_isUnder 22 = .ok (.if_icmp .ne 7, 3) := by decide +kernel
theorem dX12_isUnder_25 : decode cX12_isUnder 25 = .ok (.iconst 1, 1) := by decide +kernel
theorem dX12_isUnder_26 : decode cX12_isUnder 26 = .ok (.goto 4, 3) := by decide +kernel
theorem dX12_isUnder_29 : decode cX12_isUnder 29 = .ok (.iconst 0, 1) := by decide +kernel
theorem dX12_isUnder_30 : decode cX12_isUnder 30 = .ok (.ireturn, 1) := by decide +kernel
set_option maxRecDepth 100000 in
set_option maxHeartbeats 4000000 in
theorem s_isUnder (l : Launch) (g : zG) (h : Hp) (x y : Int32) : Sp l g yX12_isUnder cX12_isUnder 2 (some .boolean) (rmz 1) [.int x, .int y] (h) (zI fun r h' => r = p_under x y ∧ h' = h) := by
  refine Sp.of [some (.int x), some (.int y)] (by decide) (Nat.le_of_ble_eq_true rfl) rfl rfl ?_
  rintro X rfl hr rfl B
  show AW X 0 0 0 _ _ _ _
  refine aw_iload_n B 1 rfl dX12_isUnder_0 rfl ?_
  refine aw_if_eq B 25 dX12_isUnder_1 (fun c1 => ?_) (fun c1 => ?_)
  · refine aw_iconst B 1 (by decide) dX12_isUnder_25 ?_
    refine aw_goto B 30 dX12_isUnder_26 ?_
    refine aw_iret B rfl rfl dX12_isUnder_30 ?_
    exact ⟨_, rfl, by simp only [p_under, *]; simp, rfl⟩
  · refine aw_iload_n B 1 rfl dX12_isUnder_4 rfl ?_
    refine aw_iload_n B 0 rfl dX12_isUnder_5 rfl ?_
    refine aw_icmp_eq B 25 dX12_isUnder_6 (fun c6 => ?_) (fun c6 => ?_)
    · refine aw_iconst B 1 (by decide) dX12_isUnder_25 ?_
      refine aw_goto B 30 dX12_isUnder_26 ?_
      refine aw_iret B rfl rfl dX12_isUnder_30 ?_
      exact ⟨_, rfl, by simp only [p_under, *]; simp, rfl⟩
    · refine aw_iload_n B 1 rfl dX12_isUnder_9 rfl ?_
      refine aw_if_le B 29 dX12_isUnder_10 (fun c10 => ?_) (fun c10 => ?_)
      · refine aw_iconst B 0 (by decide) dX12_isUnder_29 ?_
        refine aw_iret B rfl rfl dX12_isUnder_30 ?_
        exact ⟨_, rfl, by simp only [p_under, *]; simp, rfl⟩
      · refine aw_iload_n B 1 rfl dX12_isUnder_13 rfl ?_
        refine aw_iconst B 4 (by decide) dX12_isUnder_14 ?_
        refine aw_icmp_ge B 29 dX12_isUnder_15 (fun c15 => ?_) (fun c15 => ?_)
        · refine aw_iconst B 0 (by decide) dX12_isUnder_29 ?_
          refine aw_iret B rfl rfl dX12_isUnder_30 ?_
          exact ⟨_, rfl, by simp only [p_under, *]; simp, rfl⟩
        · refine aw_iload_n B 0 rfl dX12_isUnder_18 rfl ?_
          refine aw_iload_n B 1 rfl dX12_isUnder_19 rfl ?_
          refine aw_iconst B 3 (by decide) dX12_isUnder_20 ?_
          refine aw_iadd B dX12_isUnder_21 ?_
          refine aw_icmp_ne B 29 dX12_isUnder_22 (fun c22 => ?_) (fun c22 => ?_)
          · refine aw_iconst B 0 (by decide) dX12_isUnder_29 ?_
            refine aw_iret B rfl rfl dX12_isUnder_30 ?_
            exact ⟨_, rfl, by simp only [p_under, *]; simp, rfl⟩
          · refine aw_iconst B 1 (by decide) dX12_isUnder_25 ?_
            refine aw_goto B 30 dX12_isUnder_26 ?_
            refine aw_iret B rfl rfl dX12_isUnder_30 ?_
            exact ⟨_, rfl, by simp only [p_under, *]; simp, rfl⟩
def q_as (S : Nat → Int32) (x y : Int32) : Int32 × (Nat → Int32) := (if bI (0 ≤ x ∧ x ≤ S 1 - 1) = 0 then -1 else if bI (0 ≤ y ∧ y ≤ 6) = 0 then -1 else if p_under (S (22 + x.toNatClampNeg)) y = 0 then -6 else S (26 + x.toNatClampNeg), S)
theorem dX12_as_0 : decode cX12_as 0 = .ok (.aload_n 0, 1) := by decide +kernel
theorem dX12_as_1 : decode cX12_as 1 = .ok (.iload_n 1, 1) := by decide +kernel
theorem dX12_as_2 : decode cX12_as 2 = .ok (.invokevirtual 144, 3) := by decide +kernel
theorem dX12_as_5 : decode cX12_as 5 = .ok (.ifCond .eq 13, 3) := by decide +kernel
theorem dX12_as_8 : decode cX12_as 8 = .ok (.iload_n 2, 1) := by decide +kernel
theorem dX12_as_9 : decode cX12_as 9 = .ok (.iconst 0, 1) := by decide +kernel
theorem dX12_as_10 : decode cX12_as 10 = .ok (.bipush 6, 2) := by decide +kernel
theorem dX12_as_12 : decode cX12_as 12 = .ok (.invokestatic 44, 3) := by decide +kernel
theorem dX12_as_15 : decode cX12_as 15 = .ok (.ifCond .ne 5, 3) := by decide +kernel
theorem dX12_as_18 : decode cX12_as 18 = .ok (.iconst (-1), 1) := by decide +kernel
theorem dX12_as_19 : decode cX12_as 19 = .ok (.ireturn, 1) := by decide +kernel
theorem dX12_as_20 : decode cX12_as 20 = .ok (.aload_n 0, 1) := by decide +kernel
theorem dX12_as_21 : decode cX12_as 21 = .ok (.getfield 9, 3) := by decide +kernel
theorem dX12_as_24 : decode cX12_as 24 = .ok (.bipush 22, 2) := by decide +kernel
theorem dX12_as_26 : decode cX12_as 26 = .ok (.iload_n 1, 1) := by decide +kernel
theorem dX12_as_27 : decode cX12_as 27 = .ok (.iadd, 1) := by decide +kernel
theorem dX12_as_28 : decode cX12_as 28 = .ok (.iaload, 1) := by decide +kernel
theorem dX12_as_29 : decode cX12_as 29 = .ok (.iload_n 2, 1) := by decide +kernel
theorem dX12_as_30 : decode cX12_as 30 = .ok (.invokestatic 221, 3) := by decide +kernel
theorem dX12_as_33 : decode cX12_as 33 = .ok (.ifCond .eq 15, 3) := by decide +kernel
theorem dX12_as_36 : decode cX12_as 36 = .ok (.aload_n 0, 1) := by decide +kernel
theorem dX12_as_37 : decode cX12_as 37 = .ok (.getfield 9, 3) := by decide +kernel
theorem dX12_as_40 : decode cX12_as 40 = .ok (.bipush 26, 2) := by decide +kernel
theorem dX12_as_42 : decode cX12_as 42 = .ok (.iload_n 1, 1) := by decide +kernel
theorem dX12_as_43 : decode cX12_as 43 = .ok (.iadd, 1) := by decide +kernel
theorem dX12_as_44 : decode cX12_as 44 = .ok (.iaload, 1) := by decide +kernel
theorem dX12_as_45 : decode cX12_as 45 = .ok (.goto 5, 3) := by decide +kernel
theorem dX12_as_48 : decode cX12_as 48 = .ok (.bipush (-6), 2) := by decide +kernel
theorem dX12_as_50 : decode cX12_as 50 = .ok (.ireturn, 1) := by decide +kernel
set_option maxRecDepth 100000 in
set_option maxHeartbeats 4000000 in
theorem s_as (l : Launch) (g : zG) (h : Hp) (m : Nat) (F : Nat → Int32) (A : Nat → Nat → Int32) (x y : Int32) (ht : rng (A 1 1) 0 4) : Sp l g yX12_as cX12_as 3 (some .int) (rmz 3) [.ref m, .int x, .int y] (hM g h m F A) (zI (mres g h m F A (q_as (A 1) x y))) := by
  refine Sp.of [some (.ref m), some (.int x), some (.int y)] (by decide) (Nat.le_of_ble_eq_true rfl) rfl rfl ?_
  rintro X rfl hr rfl B
  show AW X 0 0 0 _ _ _ _
  obtain ⟨t, -, ht, et⟩ := ht
  refine aw_aload_n B 0 rfl dX12_as_0 rfl ?_
  refine aw_iload_n B 1 rfl dX12_as_1 rfl ?_
  refine aw_callV B 0 0 (s_isReader _ _ _ _ _ _ _) co_X12_isReader k_X12_144 dX12_as_2 hM_o rfl rfl rfl rfl (Nat.le_of_ble_eq_true rfl) (zrm hr (by decide)) (Nat.le_refl _) (Nat.le_refl _) (kI fun r2 h2 hp2 => ?_)
  obtain ⟨rfl, rfl⟩ := hp2
  refine aw_if_eq B 18 dX12_as_5 (fun c5 => ?_) (fun c5 => ?_)
  · refine aw_iconst B (-1) (by decide) dX12_as_18 ?_
    refine aw_iret B rfl rfl dX12_as_19 ?_
    exact ⟨_, rfl, by (try simp (disch := omega) only [mup_s, mup_m, mup_i, upd_s, upd_n]); (try simp_all [q_as, mup_s, mup_m, mup_i, upd_s, upd_n]), by (try simp (disch := omega) only [mup_s, mup_m, mup_i, upd_s, upd_n]); (try simp_all [q_as, mup_s, mup_m, mup_i, upd_s, upd_n])⟩
  · refine aw_iload_n B 2 rfl dX12_as_8 rfl ?_
    refine aw_iconst B 0 (by decide) dX12_as_9 ?_
    refine aw_bipush B 6 (by decide) dX12_as_10 ?_
    refine aw_callS B 0 0 (s_in _ _ _ _ _ _) co_X12_in k_X12_44 dX12_as_12 rfl rfl (Nat.le_of_ble_eq_true rfl) (zrm hr (by decide)) (Nat.le_refl _) (Nat.le_refl _) (kI fun r12 h12 hp12 => ?_)
    obtain ⟨rfl, rfl⟩ := hp12
    refine aw_if_ne B 20 dX12_as_15 (fun c15 => ?_) (fun c15 => ?_)
    · obtain ⟨k, hk, rfl⟩ := in_cnt (of_bI c5) (by omega) et
      have ek : (nI k).toNatClampNeg = k := nI_clamp (by omega)
      refine aw_aload_n B 0 rfl dX12_as_20 rfl ?_
      refine m_get B f_X12_9 dX12_as_21 rfl ?_
      refine aw_bipush B 22 (by decide) dX12_as_24 ?_
      refine aw_iload_n B 1 rfl dX12_as_26 rfl ?_
      refine aw_iadd B dX12_as_27 ?_
      refine m_ld B (22 + k) (ix_c 22 rfl) (by show _ < 899; omega) dX12_as_28 (by decide) ?_
      refine aw_iload_n B 2 rfl dX12_as_29 rfl ?_
      refine aw_callS B 0 0 (s_isUnder _ _ _ _ _) co_X12_isUnder k_X12_221 dX12_as_30 rfl rfl (Nat.le_of_ble_eq_true rfl) (zrm hr (by decide)) (Nat.le_refl _) (Nat.le_refl _) (kI fun r30 h30 hp30 => ?_)
      obtain ⟨rfl, rfl⟩ := hp30
      refine aw_if_eq B 48 dX12_as_33 (fun c33 => ?_) (fun c33 => ?_)
      · refine aw_bipush B (-6) (by decide) dX12_as_48 ?_
        refine aw_iret B rfl rfl dX12_as_50 ?_
        exact ⟨_, rfl, by (try simp (disch := omega) only [mup_s, mup_m, mup_i, upd_s, upd_n]); (try simp_all [q_as, mup_s, mup_m, mup_i, upd_s, upd_n]), by (try simp (disch := omega) only [mup_s, mup_m, mup_i, upd_s, upd_n]); (try simp_all [q_as, mup_s, mup_m, mup_i, upd_s, upd_n])⟩
      · refine aw_aload_n B 0 rfl dX12_as_36 rfl ?_
        refine m_get B f_X12_9 dX12_as_37 rfl ?_
        refine aw_bipush B 26 (by decide) dX12_as_40 ?_
        refine aw_iload_n B 1 rfl dX12_as_42 rfl ?_
        refine aw_iadd B dX12_as_43 ?_
        refine m_ld B (26 + k) (ix_c 26 rfl) (by show _ < 899; omega) dX12_as_44 (by decide) ?_
        refine aw_goto B 50 dX12_as_45 ?_
        refine aw_iret B rfl rfl dX12_as_50 ?_
        exact ⟨_, rfl, by (try simp (disch := omega) only [mup_s, mup_m, mup_i, upd_s, upd_n]); (try simp_all [q_as, mup_s, mup_m, mup_i, upd_s, upd_n]), by (try simp (disch := omega) only [mup_s, mup_m, mup_i, upd_s, upd_n]); (try simp_all [q_as, mup_s, mup_m, mup_i, upd_s, upd_n])⟩
    · refine aw_iconst B (-1) (by decide) dX12_as_18 ?_
      refine aw_iret B rfl rfl dX12_as_19 ?_
      exact ⟨_, rfl, by (try simp (disch := omega) only [mup_s, mup_m, mup_i, upd_s, upd_n]); (try simp_all [q_as, mup_s, mup_m, mup_i, upd_s, upd_n]), by (try simp (disch := omega) only [mup_s, mup_m, mup_i, upd_s, upd_n]); (try simp_all [q_as, mup_s, mup_m, mup_i, upd_s, upd_n])⟩
theorem dX12_orNone_0 : decode cX12_orNone 0 = .ok (.iload_n 0, 1) := by decide +kernel
theorem dX12_orNone_1 : decode cX12_orNone 1 = .ok (.ldc 164, 2) := by decide +kernel
theorem dX12_orNone_3 : decode cX12_orNone 3 = .ok (.if_icmp .lt 8, 3) := by decide +kernel
theorem dX12_orNone_6 : decode cX12_orNone 6 = .ok (.bipush (-5), 2) := by decide +kernel
theorem dX12_orNone_8 : decode cX12_orNone 8 = .ok (.goto 4, 3) := by decide +kernel
theorem dX12_orNone_11 : decode cX12_orNone 11 = .ok (.iload_n 0, 1) := by decide +kernel
theorem dX12_orNone_12 : decode cX12_orNone 12 = .ok (.ireturn, 1) := by decide +kernel
set_option maxRecDepth 100000 in
set_option maxHeartbeats 4000000 in
theorem s_orNone (l : Launch) (g : zG) (h : Hp) (x : Int32) : Sp l g yX12_orNone cX12_orNone 1 (some .int) (rmz 1) [.int x] (h) (zI fun r h' => r = (if x < 100000 then x else -5) ∧ h' = h) := by
  refine Sp.of [some (.int x)] (by decide) (Nat.le_of_ble_eq_true rfl) rfl rfl ?_
  rintro X rfl hr rfl B
  show AW X 0 0 0 _ _ _ _
  refine aw_iload_n B 0 rfl dX12_orNone_0 rfl ?_
  refine aw_ldc B cn_X12_164 dX12_orNone_1 ?_
  refine aw_icmp_lt B 11 dX12_orNone_3 (fun c3 => ?_) (fun c3 => ?_)
  · refine aw_iload_n B 0 rfl dX12_orNone_11 rfl ?_
    refine aw_iret B rfl rfl dX12_orNone_12 ?_
    exact ⟨_, rfl, by simp [*], rfl⟩
  · refine aw_bipush B (-5) (by decide) dX12_orNone_6 ?_
    refine aw_goto B 12 dX12_orNone_8 ?_
    refine aw_iret B rfl rfl dX12_orNone_12 ?_
    exact ⟨_, rfl, by simp [*], rfl⟩
theorem dX12_isSet_0 : decode cX12_isSet 0 = .ok (.iload_n 1, 1) := by decide +kernel
theorem dX12_isSet_1 : decode cX12_isSet 1 = .ok (.ifCond .lt 18, 3) := by decide +kernel
theorem dX12_isSet_4 : decode cX12_isSet 4 = .ok (.iload_n 1, 1) := by decide +kernel
theorem dX12_isSet_5 : decode cX12_isSet 5 = .ok (.aload_n 0, 1) := by decide +kernel
theorem dX12_isSet_6 : decode cX12_isSet 6 = .ok (.getfield 9, 3) := by decide +kernel
theorem dX12_isSet_9 : decode cX12_isSet 9 = .ok (.iconst 0, 1) := by decide +kernel
theorem dX12_isSet_10 : decode cX12_isSet 10 = .ok (.iaload, 1) := by decide +kernel
theorem dX12_isSet_11 : decode cX12_isSet 11 = .ok (.ishr, 1) := by decide +kernel
theorem dX12_isSet_12 : decode cX12_isSet 12 = .ok (.ifCond .ne 7, 3) := by decide +kernel
theorem dX12_isSet_15 : decode cX12_isSet 15 = .ok (.iconst 1, 1) := by decide +kernel
theorem dX12_isSet_16 : decode cX12_isSet 16 = .ok (.goto 4, 3) := by decide +kernel
theorem dX12_isSet_19 : decode cX12_isSet 19 = .ok (.iconst 0, 1) := by decide +kernel
theorem dX12_isSet_20 : decode cX12_isSet 20 = .ok (.ireturn, 1) := by decide +kernel
set_option maxRecDepth 100000 in
set_option maxHeartbeats 4000000 in
theorem s_isSet (l : Launch) (g : zG) (h : Hp) (m : Nat) (F : Nat → Int32) (A : Nat → Nat → Int32) (x : Int32) : Sp l g yX12_isSet cX12_isSet 2 (some .boolean) (rmz 1) [.ref m, .int x] (hM g h m F A) (zI fun r h' => r = bI (0 ≤ x ∧ x >>> (A 1 0 &&& 31) = 0) ∧ h' = hM g h m F A) := by
  refine Sp.of [some (.ref m), some (.int x)] (by decide) (Nat.le_of_ble_eq_true rfl) rfl rfl ?_
  rintro X rfl hr rfl B
  show AW X 0 0 0 _ _ _ _
  refine aw_iload_n B 1 rfl dX12_isSet_0 rfl ?_
  refine aw_if_lt B 19 dX12_isSet_1 (fun c1 => ?_) (fun c1 => ?_)
  · refine aw_iconst B 0 (by decide) dX12_isSet_19 ?_
    refine aw_iret B rfl rfl dX12_isSet_20 ?_
    exact ⟨_, rfl, by unfold bI; rw [if_neg (fun z => absurd z.1 (Int32.not_le.mpr c1))], rfl⟩
  · refine aw_iload_n B 1 rfl dX12_isSet_4 rfl ?_
    refine aw_aload_n B 0 rfl dX12_isSet_5 rfl ?_
    refine m_get B f_X12_9 dX12_isSet_6 rfl ?_
    refine aw_iconst B 0 (by decide) dX12_isSet_9 ?_
    refine m_ld B (0) (rfl) ((by decide)) dX12_isSet_10 (by decide) ?_
    refine aw_ishr B dX12_isSet_11 ?_
    refine aw_if_ne B 19 dX12_isSet_12 (fun c12 => ?_) (fun c12 => ?_)
    · refine aw_iconst B 0 (by decide) dX12_isSet_19 ?_
      refine aw_iret B rfl rfl dX12_isSet_20 ?_
      exact ⟨_, rfl, by unfold bI; simp [*, Int32.not_lt.mp c1], rfl⟩
    · refine aw_iconst B 1 (by decide) dX12_isSet_15 ?_
      refine aw_goto B 20 dX12_isSet_16 ?_
      refine aw_iret B rfl rfl dX12_isSet_20 ?_
      exact ⟨_, rfl, by unfold bI; simp [*, Int32.not_lt.mp c1], rfl⟩
theorem dX12_forgets_0 : decode cX12_forgets 0 = .ok (.aload_n 0, 1) := by decide +kernel
theorem dX12_forgets_1 : decode cX12_forgets 1 = .ok (.iconst 0, 1) := by decide +kernel
theorem dX12_forgets_2 : decode cX12_forgets 2 = .ok (.putfield 130, 3) := by decide +kernel
theorem dX12_forgets_5 : decode cX12_forgets 5 = .ok (.return_, 1) := by decide +kernel
set_option maxRecDepth 100000 in
set_option maxHeartbeats 4000000 in
theorem s_forgets (l : Launch) (g : zG) (h : Hp) (m : Nat) (F : Nat → Int32) (A : Nat → Nat → Int32) : Sp l g yX12_forgets cX12_forgets 1 none (rmz 1) [.ref m] (hM g h m F A) (zV fun h' => h' = hM g h m (upd F 14 0) A) := by
  refine Sp.of [some (.ref m)] (by decide) (Nat.le_of_ble_eq_true rfl) rfl rfl ?_
  rintro X rfl hr rfl B
  show AW X 0 0 0 _ _ _ _
  refine aw_aload_n B 0 rfl dX12_forgets_0 rfl ?_
  refine aw_iconst B 0 (by decide) dX12_forgets_1 ?_
  refine m_put B f_X12_130 dX12_forgets_2 rfl (by decide) ?_
  refine aw_vret B rfl dX12_forgets_5 ?_
  exact ⟨rfl, rfl⟩
def cpy (f k : Nat → Int32) (n : Nat) : Nat → Int32 := fun j => if j < n then f j else k j
theorem cpy_0 {f k : Nat → Int32} : cpy f k 0 = k := by funext j; simp [cpy]
theorem cpy_s {f k : Nat → Int32} {n : Nat} : upd (cpy f k n) n (f n) = cpy f k (n + 1) := by
  funext j
  unfold upd cpy
  by_cases h : j = n
  · subst h; simp
  · have : (j < n + 1) ↔ j < n := by omega
    simp [h, this]
theorem i32_1 (i : Nat) : nI i + 1 = nI (i + 1) := nI_1 i
theorem dX12_image_0 : decode cX12_image 0 = .ok (.iconst 0, 1) := by decide +kernel
theorem dX12_image_1 : decode cX12_image 1 = .ok (.istore_n 1, 1) := by decide +kernel
theorem dX12_image_2 : decode cX12_image 2 = .ok (.iload_n 1, 1) := by decide +kernel
theorem dX12_image_3 : decode cX12_image 3 = .ok (.sipush 899, 3) := by decide +kernel
theorem dX12_image_6 : decode cX12_image 6 = .ok (.if_icmp .ge 21, 3) := by decide +kernel
theorem dX12_image_9 : decode cX12_image 9 = .ok (.aload_n 0, 1) := by decide +kernel
theorem dX12_image_10 : decode cX12_image 10 = .ok (.getfield 15, 3) := by decide +kernel
theorem dX12_image_13 : decode cX12_image 13 = .ok (.iload_n 1, 1) := by decide +kernel
theorem dX12_image_14 : decode cX12_image 14 = .ok (.aload_n 0, 1) := by decide +kernel
theorem dX12_image_15 : decode cX12_image 15 = .ok (.getfield 9, 3) := by decide +kernel
theorem dX12_image_18 : decode cX12_image 18 = .ok (.iload_n 1, 1) := by decide +kernel
theorem dX12_image_19 : decode cX12_image 19 = .ok (.iaload, 1) := by decide +kernel
theorem dX12_image_20 : decode cX12_image 20 = .ok (.iastore, 1) := by decide +kernel
theorem dX12_image_21 : decode cX12_image 21 = .ok (.iinc 1 1, 3) := by decide +kernel
theorem dX12_image_24 : decode cX12_image 24 = .ok (.goto (-22), 3) := by decide +kernel
theorem dX12_image_27 : decode cX12_image 27 = .ok (.aload_n 0, 1) := by decide +kernel
theorem dX12_image_28 : decode cX12_image 28 = .ok (.iconst 1, 1) := by decide +kernel
theorem dX12_image_29 : decode cX12_image 29 = .ok (.putfield 245, 3) := by decide +kernel
theorem dX12_image_32 : decode cX12_image 32 = .ok (.aload_n 0, 1) := by decide +kernel
theorem dX12_image_33 : decode cX12_image 33 = .ok (.getfield 9, 3) := by decide +kernel
theorem dX12_image_36 : decode cX12_image 36 = .ok (.iconst 0, 1) := by decide +kernel
theorem dX12_image_37 : decode cX12_image 37 = .ok (.iaload, 1) := by decide +kernel
theorem dX12_image_38 : decode cX12_image 38 = .ok (.ireturn, 1) := by decide +kernel
set_option maxRecDepth 100000 in
set_option maxHeartbeats 4000000 in
theorem s_image (l : Launch) (g : zG) (h : Hp) (m : Nat) (F : Nat → Int32) (A : Nat → Nat → Int32) : Sp l g yX12_image cX12_image 2 (some .int) (rmz 2) [.ref m] (hM g h m F A) (zI fun r h' => r = A 1 0 ∧ h' = hM g h m (upd F 3 1) (mup A 2 (cpy (A 1) (A 2) 899))) := by
  refine Sp.of [some (.ref m), none] (by decide) (Nat.le_of_ble_eq_true rfl) rfl rfl ?_
  rintro X rfl hr rfl B
  show AW X 0 0 0 _ _ _ _
  refine aw_iconst B 0 (by decide) dX12_image_0 ?_
  refine aw_istore1 B dX12_image_1 ?_
  have lp : ∀ (n : Nat) (i : Nat), i ≤ 899 → 899 < i + n → AW X 0 0 2 [some (.ref m), some (.int (nI i))] [] (hM (zXg X) h m F (mup A 2 (cpy (A 1) (A 2) i))) (zI fun r h' => r = A 1 0 ∧ h' = hM (zXg X) h m (upd F 3 1) (mup A 2 (cpy (A 1) (A 2) 899))) := by
    intro n
    induction n with
    | zero => intros; omega
    | succ n ih =>
      intro i hi hn
      refine aw_iload_n B 1 rfl dX12_image_2 rfl ?_
      refine aw_sipush B 899 (by decide) dX12_image_3 ?_
      refine aw_icmp_ge B 27 dX12_image_6 (fun c6 => ?_) (fun c6 => ?_)
      · have hie : i = 899 := by
          have := (nI_leI (a := 899) (by decide) (by omega)).mp c6
          omega
        subst hie
        refine aw_aload_n B 0 rfl dX12_image_27 rfl ?_
        refine aw_iconst B 1 (by decide) dX12_image_28 ?_
        refine m_putz B f_X12_245 (by decide) dX12_image_29 rfl (by decide) ?_
        refine aw_aload_n B 0 rfl dX12_image_32 rfl ?_
        refine m_get B f_X12_9 dX12_image_33 rfl ?_
        refine aw_iconst B 0 (by decide) dX12_image_36 ?_
        refine m_ld B (0) (rfl) ((by decide)) dX12_image_37 (by decide) ?_
        refine aw_iret B rfl rfl dX12_image_38 ?_
        exact ⟨_, rfl, by simp (disch := omega) only [mup_n], rfl⟩
      · have hlt : i < 899 := Nat.not_le.mp fun z => c6 (nI_le (a := 899) z (by omega))
        refine aw_aload_n B 0 rfl dX12_image_9 rfl ?_
        refine m_get B f_X12_15 dX12_image_10 rfl ?_
        refine aw_iload_n B 1 rfl dX12_image_13 rfl ?_
        refine aw_aload_n B 0 rfl dX12_image_14 rfl ?_
        refine m_get B f_X12_9 dX12_image_15 rfl ?_
        refine aw_iload_n B 1 rfl dX12_image_18 rfl ?_
        refine m_ld B (i) (rfl) (by show _ < 899; omega) dX12_image_19 (by decide) ?_
        refine m_st B (i) (rfl) (by show _ < 899; omega) dX12_image_20 (by decide) ?_
        refine aw_iinc1 B 1 (by decide) dX12_image_21 ?_
        refine aw_goto B 2 dX12_image_24 ?_
        have := ih (i + 1) (by omega) (by omega)
        rw [← cpy_s, ← i32_1] at this
        refine Eq.mp ?_ this
        simp (disch := omega) only [mup_s, mup_m, mup_n]
  have := lp 900 0 (by omega) (by omega)
  rw [cpy_0, mup_i] at this
  exact this
theorem dX12_undo_0 : decode cX12_undo 0 = .ok (.aload_n 0, 1) := by decide +kernel
theorem dX12_undo_1 : decode cX12_undo 1 = .ok (.getfield 245, 3) := by decide +kernel
theorem dX12_undo_4 : decode cX12_undo 4 = .ok (.ifCond .ne 6, 3) := by decide +kernel
theorem dX12_undo_7 : decode cX12_undo 7 = .ok (.bipush (-3), 2) := by decide +kernel
theorem dX12_undo_9 : decode cX12_undo 9 = .ok (.ireturn, 1) := by decide +kernel
theorem dX12_undo_10 : decode cX12_undo 10 = .ok (.iconst 0, 1) := by decide +kernel
theorem dX12_undo_11 : decode cX12_undo 11 = .ok (.istore_n 1, 1) := by decide +kernel
theorem dX12_undo_12 : decode cX12_undo 12 = .ok (.iload_n 1, 1) := by decide +kernel
theorem dX12_undo_13 : decode cX12_undo 13 = .ok (.sipush 899, 3) := by decide +kernel
theorem dX12_undo_16 : decode cX12_undo 16 = .ok (.if_icmp .ge 21, 3) := by decide +kernel
theorem dX12_undo_19 : decode cX12_undo 19 = .ok (.aload_n 0, 1) := by decide +kernel
theorem dX12_undo_20 : decode cX12_undo 20 = .ok (.getfield 9, 3) := by decide +kernel
theorem dX12_undo_23 : decode cX12_undo 23 = .ok (.iload_n 1, 1) := by decide +kernel
theorem dX12_undo_24 : decode cX12_undo 24 = .ok (.aload_n 0, 1) := by decide +kernel
theorem dX12_undo_25 : decode cX12_undo 25 = .ok (.getfield 15, 3) := by decide +kernel
theorem dX12_undo_28 : decode cX12_undo 28 = .ok (.iload_n 1, 1) := by decide +kernel
theorem dX12_undo_29 : decode cX12_undo 29 = .ok (.iaload, 1) := by decide +kernel
theorem dX12_undo_30 : decode cX12_undo 30 = .ok (.iastore, 1) := by decide +kernel
theorem dX12_undo_31 : decode cX12_undo 31 = .ok (.iinc 1 1, 3) := by decide +kernel
theorem dX12_undo_34 : decode cX12_undo 34 = .ok (.goto (-22), 3) := by decide +kernel
theorem dX12_undo_37 : decode cX12_undo 37 = .ok (.aload_n 0, 1) := by decide +kernel
theorem dX12_undo_38 : decode cX12_undo 38 = .ok (.getfield 9, 3) := by decide +kernel
theorem dX12_undo_41 : decode cX12_undo 41 = .ok (.iconst 0, 1) := by decide +kernel
theorem dX12_undo_42 : decode cX12_undo 42 = .ok (.iaload, 1) := by decide +kernel
theorem dX12_undo_43 : decode cX12_undo 43 = .ok (.ireturn, 1) := by decide +kernel
set_option maxRecDepth 100000 in
set_option maxHeartbeats 4000000 in
theorem s_undo (l : Launch) (g : zG) (h : Hp) (m : Nat) (F : Nat → Int32) (A : Nat → Nat → Int32) : Sp l g yX12_undo cX12_undo 2 (some .int) (rmz 2) [.ref m] (hM g h m F A) (zI fun r h' => if F 3 = 0 then r = -3 ∧ h' = hM g h m F A else r = A 2 0 ∧ h' = hM g h m F (mup A 1 (cpy (A 2) (A 1) 899))) := by
  refine Sp.of [some (.ref m), none] (by decide) (Nat.le_of_ble_eq_true rfl) rfl rfl ?_
  rintro X rfl hr rfl B
  show AW X 0 0 0 _ _ _ _
  have lp : ∀ (n : Nat) (i : Nat), ¬ F 3 = 0 → i ≤ 899 → 899 < i + n → AW X 0 0 12 [some (.ref m), some (.int (nI i))] [] (hM (zXg X) h m F (mup A 1 (cpy (A 2) (A 1) i))) (zI fun r h' => if F 3 = 0 then r = -3 ∧ h' = hM (zXg X) h m F A else r = A 2 0 ∧ h' = hM (zXg X) h m F (mup A 1 (cpy (A 2) (A 1) 899))) := by
    intro n
    induction n with
    | zero => intros; omega
    | succ n ih =>
      intro i c4 hi hn
      refine aw_iload_n B 1 rfl dX12_undo_12 rfl ?_
      refine aw_sipush B 899 (by decide) dX12_undo_13 ?_
      refine aw_icmp_ge B 37 dX12_undo_16 (fun c16 => ?_) (fun c16 => ?_)
      · have hie : i = 899 := by
          have := (nI_leI (a := 899) (by decide) (by omega)).mp c16
          omega
        subst hie
        refine aw_aload_n B 0 rfl dX12_undo_37 rfl ?_
        refine m_get B f_X12_9 dX12_undo_38 rfl ?_
        refine aw_iconst B 0 (by decide) dX12_undo_41 ?_
        refine m_ld B (0) (rfl) ((by decide)) dX12_undo_42 (by decide) ?_
        refine aw_iret B rfl rfl dX12_undo_43 ?_
        refine ⟨_, rfl, ?_⟩
        show ite _ _ _
        rw [if_neg c4]
        exact ⟨by rw [mup_s]; simp [cpy], rfl⟩
      · have hlt : i < 899 := Nat.not_le.mp fun z => c16 (nI_le (a := 899) z (by omega))
        refine aw_aload_n B 0 rfl dX12_undo_19 rfl ?_
        refine m_get B f_X12_9 dX12_undo_20 rfl ?_
        refine aw_iload_n B 1 rfl dX12_undo_23 rfl ?_
        refine aw_aload_n B 0 rfl dX12_undo_24 rfl ?_
        refine m_get B f_X12_15 dX12_undo_25 rfl ?_
        refine aw_iload_n B 1 rfl dX12_undo_28 rfl ?_
        refine m_ld B (i) (rfl) (by show _ < 899; omega) dX12_undo_29 (by decide) ?_
        refine m_st B (i) (rfl) (by show _ < 899; omega) dX12_undo_30 (by decide) ?_
        refine aw_iinc1 B 1 (by decide) dX12_undo_31 ?_
        refine aw_goto B 12 dX12_undo_34 ?_
        have := ih (i + 1) c4 (by omega) (by omega)
        rw [← cpy_s, ← i32_1] at this
        refine Eq.mp ?_ this
        simp (disch := omega) only [mup_s, mup_m, mup_n]
  refine aw_aload_n B 0 rfl dX12_undo_0 rfl ?_
  refine m_get B f_X12_245 dX12_undo_1 rfl ?_
  refine aw_if_ne B 10 dX12_undo_4 (fun c4 => ?_) (fun c4 => ?_)
  · refine aw_iconst B 0 (by decide) dX12_undo_10 ?_
    refine aw_istore1 B dX12_undo_11 ?_
    have := lp 900 0 c4 (by omega) (by omega)
    rw [cpy_0, mup_i] at this
    exact this
  · refine aw_bipush B (-3) (by decide) dX12_undo_7 ?_
    refine aw_iret B rfl rfl dX12_undo_9 ?_
    refine ⟨_, rfl, ?_⟩
    show ite _ _ _
    rw [if_pos c4]
    exact ⟨rfl, rfl⟩
theorem dX12_forgetsSoons_0 : decode cX12_forgetsSoons 0 = .ok (.aload_n 0, 1) := by decide +kernel
theorem dX12_forgetsSoons_1 : decode cX12_forgetsSoons 1 = .ok (.invokevirtual 165, 3) := by decide +kernel
theorem dX12_forgetsSoons_4 : decode cX12_forgetsSoons 4 = .ok (.iconst 0, 1) := by decide +kernel
theorem dX12_forgetsSoons_5 : decode cX12_forgetsSoons 5 = .ok (.istore_n 1, 1) := by decide +kernel
theorem dX12_forgetsSoons_6 : decode cX12_forgetsSoons 6 = .ok (.iload_n 1, 1) := by decide +kernel
theorem dX12_forgetsSoons_7 : decode cX12_forgetsSoons 7 = .ok (.sipush 8688, 3) := by decide +kernel
theorem dX12_forgetsSoons_10 : decode cX12_forgetsSoons 10 = .ok (.if_icmp .ge 16, 3) := by decide +kernel
theorem dX12_forgetsSoons_13 : decode cX12_forgetsSoons 13 = .ok (.aload_n 0, 1) := by decide +kernel
theorem dX12_forgetsSoons_14 : decode cX12_forgetsSoons 14 = .ok (.getfield 28, 3) := by decide +kernel
theorem dX12_forgetsSoons_17 : decode cX12_forgetsSoons 17 = .ok (.iload_n 1, 1) := by decide +kernel
theorem dX12_forgetsSoons_18 : decode cX12_forgetsSoons 18 = .ok (.iconst 0, 1) := by decide +kernel
theorem dX12_forgetsSoons_19 : decode cX12_forgetsSoons 19 = .ok (.iastore, 1) := by decide +kernel
theorem dX12_forgetsSoons_20 : decode cX12_forgetsSoons 20 = .ok (.iinc 1 1, 3) := by decide +kernel
theorem dX12_forgetsSoons_23 : decode cX12_forgetsSoons 23 = .ok (.goto (-17), 3) := by decide +kernel
theorem dX12_forgetsSoons_26 : decode cX12_forgetsSoons 26 = .ok (.return_, 1) := by decide +kernel
set_option maxRecDepth 100000 in
set_option maxHeartbeats 4000000 in
theorem s_forgetsSoons (l : Launch) (g : zG) (h : Hp) (m : Nat) (F : Nat → Int32) (A : Nat → Nat → Int32) : Sp l g yX12_forgetsSoons cX12_forgetsSoons 2 none (rmz 2) [.ref m] (hM g h m F A) (zV fun h' => h' = hM g h m (upd F 14 0) (mup A 6 (cpy (fun _ => 0) (A 6) 8688))) := by
  refine Sp.of [some (.ref m), none] (by decide) (Nat.le_of_ble_eq_true rfl) rfl rfl ?_
  rintro X rfl hr rfl B
  show AW X 0 0 0 _ _ _ _
  have lp : ∀ (n : Nat) (i : Nat), i ≤ 8688 → 8688 < i + n → AW X 0 0 6 [some (.ref m), some (.int (nI i))] [] (hM (zXg X) h m (upd F 14 0) (mup A 6 (cpy (fun _ => 0) (A 6) i))) (zV fun h' => h' = hM (zXg X) h m (upd F 14 0) (mup A 6 (cpy (fun _ => 0) (A 6) 8688))) := by
    intro n
    induction n with
    | zero => intros; omega
    | succ n ih =>
      intro i hi hn
      refine aw_iload_n B 1 rfl dX12_forgetsSoons_6 rfl ?_
      refine aw_sipush B 8688 (by decide) dX12_forgetsSoons_7 ?_
      refine aw_icmp_ge B 26 dX12_forgetsSoons_10 (fun c10 => ?_) (fun c10 => ?_)
      · have hie : i = 8688 := by
          have := (nI_leI (a := 8688) (by decide) (by omega)).mp c10
          omega
        subst hie
        refine aw_vret B rfl dX12_forgetsSoons_26 ?_
        exact ⟨rfl, rfl⟩
      · have hlt : i < 8688 := Nat.not_le.mp fun z => c10 (nI_le (a := 8688) z (by omega))
        refine aw_aload_n B 0 rfl dX12_forgetsSoons_13 rfl ?_
        refine m_get B f_X12_28 dX12_forgetsSoons_14 rfl ?_
        refine aw_iload_n B 1 rfl dX12_forgetsSoons_17 rfl ?_
        refine aw_iconst B 0 (by decide) dX12_forgetsSoons_18 ?_
        refine m_st B (i) (rfl) (by show _ < 8688; omega) dX12_forgetsSoons_19 (by decide) ?_
        refine aw_iinc1 B 1 (by decide) dX12_forgetsSoons_20 ?_
        refine aw_goto B 6 dX12_forgetsSoons_23 ?_
        have := ih (i + 1) (by omega) (by omega)
        rw [← cpy_s, ← i32_1] at this
        refine Eq.mp ?_ this
        simp (disch := omega) only [mup_s, mup_m, mup_n]
  refine aw_aload_n B 0 rfl dX12_forgetsSoons_0 rfl ?_
  refine aw_callV B 0 0 (s_forgets _ _ _ _ _ _) co_X12_forgets k_X12_165 dX12_forgetsSoons_1 hM_o rfl rfl rfl rfl (Nat.le_of_ble_eq_true rfl) (zrm hr (by decide)) (Nat.le_refl _) (Nat.le_refl _) (kV fun h1 hp1 => ?_)
  subst hp1
  refine aw_iconst B 0 (by decide) dX12_forgetsSoons_4 ?_
  refine aw_istore1 B dX12_forgetsSoons_5 ?_
  have := lp 8689 0 (by omega) (by omega)
  rw [cpy_0, mup_i] at this
  exact this
theorem dX12_changes_0 : decode cX12_changes 0 = .ok (.aload_n 0, 1) := by decide +kernel
theorem dX12_changes_1 : decode cX12_changes 1 = .ok (.getfield 9, 3) := by decide +kernel
theorem dX12_changes_4 : decode cX12_changes 4 = .ok (.bipush 10, 2) := by decide +kernel
theorem dX12_changes_6 : decode cX12_changes 6 = .ok (.iload_n 1, 1) := by decide +kernel
theorem dX12_changes_7 : decode cX12_changes 7 = .ok (.iadd, 1) := by decide +kernel
theorem dX12_changes_8 : decode cX12_changes 8 = .ok (.iaload, 1) := by decide +kernel
theorem dX12_changes_9 : decode cX12_changes 9 = .ok (.istore_n 3, 1) := by decide +kernel
theorem dX12_changes_10 : decode cX12_changes 10 = .ok (.aload_n 0, 1) := by decide +kernel
theorem dX12_changes_11 : decode cX12_changes 11 = .ok (.getfield 9, 3) := by decide +kernel
theorem dX12_changes_14 : decode cX12_changes 14 = .ok (.bipush 10, 2) := by decide +kernel
theorem dX12_changes_16 : decode cX12_changes 16 = .ok (.iload_n 1, 1) := by decide +kernel
theorem dX12_changes_17 : decode cX12_changes 17 = .ok (.iadd, 1) := by decide +kernel
theorem dX12_changes_18 : decode cX12_changes 18 = .ok (.aload_n 0, 1) := by decide +kernel
theorem dX12_changes_19 : decode cX12_changes 19 = .ok (.getfield 9, 3) := by decide +kernel
theorem dX12_changes_22 : decode cX12_changes 22 = .ok (.bipush 10, 2) := by decide +kernel
theorem dX12_changes_24 : decode cX12_changes 24 = .ok (.iload_n 2, 1) := by decide +kernel
theorem dX12_changes_25 : decode cX12_changes 25 = .ok (.iadd, 1) := by decide +kernel
theorem dX12_changes_26 : decode cX12_changes 26 = .ok (.iaload, 1) := by decide +kernel
theorem dX12_changes_27 : decode cX12_changes 27 = .ok (.iastore, 1) := by decide +kernel
theorem dX12_changes_28 : decode cX12_changes 28 = .ok (.aload_n 0, 1) := by decide +kernel
theorem dX12_changes_29 : decode cX12_changes 29 = .ok (.getfield 9, 3) := by decide +kernel
theorem dX12_changes_32 : decode cX12_changes 32 = .ok (.bipush 10, 2) := by decide +kernel
theorem dX12_changes_34 : decode cX12_changes 34 = .ok (.iload_n 2, 1) := by decide +kernel
theorem dX12_changes_35 : decode cX12_changes 35 = .ok (.iadd, 1) := by decide +kernel
theorem dX12_changes_36 : decode cX12_changes 36 = .ok (.iload_n 3, 1) := by decide +kernel
theorem dX12_changes_37 : decode cX12_changes 37 = .ok (.iastore, 1) := by decide +kernel
theorem dX12_changes_38 : decode cX12_changes 38 = .ok (.return_, 1) := by decide +kernel
set_option maxRecDepth 100000 in
set_option maxHeartbeats 4000000 in
theorem s_changes (l : Launch) (g : zG) (h : Hp) (m : Nat) (F : Nat → Int32) (A : Nat → Nat → Int32) (a b : Nat) (ha : a < 6) (hb : b < 6) : Sp l g yX12_changes cX12_changes 4 none (rmz 1) [.ref m, .int (nI a), .int (nI b)] (hM g h m F A) (zV fun h' => h' = hM g h m F (mup A 1 (upd (upd (A 1) (10 + a) (A 1 (10 + b))) (10 + b) (A 1 (10 + a))))) := by
  refine Sp.of [some (.ref m), some (.int (nI a)), some (.int (nI b)), none] (by decide) (Nat.le_of_ble_eq_true rfl) rfl rfl ?_
  rintro X rfl hr rfl B
  show AW X 0 0 0 _ _ _ _
  refine aw_aload_n B 0 rfl dX12_changes_0 rfl ?_
  refine m_get B f_X12_9 dX12_changes_1 rfl ?_
  refine aw_bipush B 10 (by decide) dX12_changes_4 ?_
  refine aw_iload_n B 1 rfl dX12_changes_6 rfl ?_
  refine aw_iadd B dX12_changes_7 ?_
  refine m_ld B (10 + a) (ix_c 10 rfl) (by show _ < 899; omega) dX12_changes_8 (by decide) ?_
  refine aw_istore3 B dX12_changes_9 ?_
  refine aw_aload_n B 0 rfl dX12_changes_10 rfl ?_
  refine m_get B f_X12_9 dX12_changes_11 rfl ?_
  refine aw_bipush B 10 (by decide) dX12_changes_14 ?_
  refine aw_iload_n B 1 rfl dX12_changes_16 rfl ?_
  refine aw_iadd B dX12_changes_17 ?_
  refine aw_aload_n B 0 rfl dX12_changes_18 rfl ?_
  refine m_get B f_X12_9 dX12_changes_19 rfl ?_
  refine aw_bipush B 10 (by decide) dX12_changes_22 ?_
  refine aw_iload_n B 2 rfl dX12_changes_24 rfl ?_
  refine aw_iadd B dX12_changes_25 ?_
  refine m_ld B (10 + b) (ix_c 10 rfl) (by show _ < 899; omega) dX12_changes_26 (by decide) ?_
  refine m_st B (10 + a) (ix_c 10 rfl) (by show _ < 899; omega) dX12_changes_27 (by decide) ?_
  refine aw_aload_n B 0 rfl dX12_changes_28 rfl ?_
  refine m_get B f_X12_9 dX12_changes_29 rfl ?_
  refine aw_bipush B 10 (by decide) dX12_changes_32 ?_
  refine aw_iload_n B 2 rfl dX12_changes_34 rfl ?_
  refine aw_iadd B dX12_changes_35 ?_
  refine aw_iload_n B 3 rfl dX12_changes_36 rfl ?_
  refine m_st B (10 + b) (ix_c 10 rfl) (by show _ < 899; omega) dX12_changes_37 (by decide) ?_
  refine aw_vret B rfl dX12_changes_38 ?_
  exact ⟨rfl, by rw [mup_m, mup_s]⟩
def p_ran (n : Nat) (tr : Nat → Int32) (b : Int32) : Nat → Int32 := if n < 20 then upd tr n b else tr
theorem dX12_ranBody_0 : decode cX12_ranBody 0 = .ok (.aload_n 0, 1) := by decide +kernel
theorem dX12_ranBody_1 : decode cX12_ranBody 1 = .ok (.getfield 209, 3) := by decide +kernel
theorem dX12_ranBody_4 : decode cX12_ranBody 4 = .ok (.bipush 20, 2) := by decide +kernel
theorem dX12_ranBody_6 : decode cX12_ranBody 6 = .ok (.if_icmp .ge 13, 3) := by decide +kernel
theorem dX12_ranBody_9 : decode cX12_ranBody 9 = .ok (.aload_n 0, 1) := by decide +kernel
theorem dX12_ranBody_10 : decode cX12_ranBody 10 = .ok (.getfield 37, 3) := by decide +kernel
theorem dX12_ranBody_13 : decode cX12_ranBody 13 = .ok (.aload_n 0, 1) := by decide +kernel
theorem dX12_ranBody_14 : decode cX12_ranBody 14 = .ok (.getfield 209, 3) := by decide +kernel
theorem dX12_ranBody_17 : decode cX12_ranBody 17 = .ok (.iload_n 1, 1) := by decide +kernel
theorem dX12_ranBody_18 : decode cX12_ranBody 18 = .ok (.iastore, 1) := by decide +kernel
theorem dX12_ranBody_19 : decode cX12_ranBody 19 = .ok (.aload_n 0, 1) := by decide +kernel
theorem dX12_ranBody_20 : decode cX12_ranBody 20 = .ok (.dup, 1) := by decide +kernel
theorem dX12_ranBody_21 : decode cX12_ranBody 21 = .ok (.getfield 209, 3) := by decide +kernel
theorem dX12_ranBody_24 : decode cX12_ranBody 24 = .ok (.iconst 1, 1) := by decide +kernel
theorem dX12_ranBody_25 : decode cX12_ranBody 25 = .ok (.iadd, 1) := by decide +kernel
theorem dX12_ranBody_26 : decode cX12_ranBody 26 = .ok (.putfield 209, 3) := by decide +kernel
theorem dX12_ranBody_29 : decode cX12_ranBody 29 = .ok (.return_, 1) := by decide +kernel
set_option maxRecDepth 100000 in
set_option maxHeartbeats 4000000 in
theorem s_ranBody (l : Launch) (g : zG) (h : Hp) (m : Nat) (F : Nat → Int32) (A : Nat → Nat → Int32) (n : Nat) (b : Int32) (hn : n ≤ 100) (en : F 20 = nI n) : Sp l g yX12_ranBody cX12_ranBody 2 none (rmz 1) [.ref m, .int b] (hM g h m F A) (zV fun h' => h' = hM g h m (upd F 20 (nI (n + 1))) (mup A 9 (p_ran n (A 9) b))) := by
  refine Sp.of [some (.ref m), some (.int b)] (by decide) (Nat.le_of_ble_eq_true rfl) rfl rfl ?_
  rintro X rfl hr rfl B
  show AW X 0 0 0 _ _ _ _
  refine aw_aload_n B 0 rfl dX12_ranBody_0 rfl ?_
  refine m_get B f_X12_209 dX12_ranBody_1 rfl ?_
  refine aw_bipush B 20 (by decide) dX12_ranBody_4 ?_
  refine aw_icmp_ge B 19 dX12_ranBody_6 (fun c6 => ?_) (fun c6 => ?_)
  · refine aw_aload_n B 0 rfl dX12_ranBody_19 rfl ?_
    refine aw_dup B rfl dX12_ranBody_20 ?_
    refine m_get B f_X12_209 dX12_ranBody_21 rfl ?_
    refine aw_iconst B 1 (by decide) dX12_ranBody_24 ?_
    refine aw_iadd B dX12_ranBody_25 ?_
    refine m_put B f_X12_209 dX12_ranBody_26 rfl (by decide) ?_
    refine aw_vret B rfl dX12_ranBody_29 ?_
    have hn : ¬ n < 20 := fun z => absurd c6 (by rw [en, Int32.not_le]; exact nI_lt (b := 20) z (by decide))
    exact ⟨rfl, by rw [en, nI_1]; unfold p_ran; rw [if_neg hn, mup_i]⟩
  · have hlt : n < 20 := Nat.not_le.mp fun z => c6 (by rw [en]; exact nI_le (a := 20) z (by omega))
    refine aw_aload_n B 0 rfl dX12_ranBody_9 rfl ?_
    refine m_get B f_X12_37 dX12_ranBody_10 rfl ?_
    refine aw_aload_n B 0 rfl dX12_ranBody_13 rfl ?_
    refine m_get B f_X12_209 dX12_ranBody_14 rfl ?_
    refine aw_iload_n B 1 rfl dX12_ranBody_17 rfl ?_
    refine m_st B (n) (en) (by show _ < 20; exact hlt) dX12_ranBody_18 (by decide) ?_
    refine aw_aload_n B 0 rfl dX12_ranBody_19 rfl ?_
    refine aw_dup B rfl dX12_ranBody_20 ?_
    refine m_get B f_X12_209 dX12_ranBody_21 rfl ?_
    refine aw_iconst B 1 (by decide) dX12_ranBody_24 ?_
    refine aw_iadd B dX12_ranBody_25 ?_
    refine m_put B f_X12_209 dX12_ranBody_26 rfl (by decide) ?_
    refine aw_vret B rfl dX12_ranBody_29 ?_
    exact ⟨rfl, by rw [en, nI_1]; unfold p_ran; rw [if_pos hlt]⟩
end
section
theorem upd_u {f : Nat → Int32} {k : Nat} {x y : Int32} : upd (upd f k x) k y = upd f k y := by
  funext j
  unfold upd
  by_cases h : j = k <;> simp [h]
def p_log (n : Nat) (tr : Nat → Int32) : List Int32 → (Nat → Int32)
  | [] => tr
  | b :: bs => p_log (n + 1) (p_ran n tr b) bs
theorem p_log_app (n : Nat) (tr : Nat → Int32) (as bs : List Int32) : p_log n tr (as ++ bs) = p_log (n + as.length) (p_log n tr as) bs := by
  induction as generalizing n tr with
  | nil => rfl
  | cons a as ih =>
    show p_log (n + 1) (p_ran n tr a) (as ++ bs) = _
    rw [ih]
    show p_log (n + 1 + as.length) _ bs = p_log (n + (as.length + 1)) _ bs
    rw [show n + 1 + as.length = n + (as.length + 1) by omega]
    rfl
def ac_plain (i x : Int32) : Int32 × List Int32 := (x + i, [1])
def ac_reads (k i x : Int32) : Int32 × List Int32 := if p_under k 1 = 0 then (if k = 5 then ((ac_plain i x).1 ^^^ i, 51 :: (ac_plain i x).2) else ac_plain i x) else ((ac_plain i (x * 3)).1, 11 :: (ac_plain i (x * 3)).2)
def ac_waitsP (k i v x : Int32) : Int32 × List Int32 := ((ac_reads k i x).1 - v, 2 :: (ac_reads k i x).2)
def ac_waits (k i v x : Int32) : Int32 × List Int32 := if p_under k 2 = 0 then (if k = 6 then ((ac_waitsP k i v x).1 + v, 61 :: (ac_waitsP k i v x).2) else ac_waitsP k i v x) else (-(ac_waitsP k i v x).1, 21 :: (ac_waitsP k i v x).2)
def ac_tellsP (k i v x : Int32) : Int32 × List Int32 := ((ac_waits k i v x).1 * 2, 3 :: (ac_waits k i v x).2)
def ac_tells (k i v x : Int32) : Int32 × List Int32 := if p_under k 3 = 0 then (if k = 4 then ((ac_tellsP k i v (x - 1)).1 + (ac_reads k i 2).1, 41 :: ((ac_tellsP k i v (x - 1)).2 ++ (ac_reads k i 2).2)) else ac_tellsP k i v x) else ((ac_tellsP k i v x).1 ^^^ 7, 31 :: (ac_tellsP k i v x).2)
theorem len_reads (k i x : Int32) : (ac_reads k i x).2.length ≤ 2 := by unfold ac_reads ac_plain; split <;> (try split) <;> simp
theorem len_waitsP (k i v x : Int32) : (ac_waitsP k i v x).2.length ≤ 3 := by have := len_reads k i x; simp [ac_waitsP]; omega
theorem len_waits (k i v x : Int32) : (ac_waits k i v x).2.length ≤ 4 := by have := len_waitsP k i v x; unfold ac_waits; split <;> (try split) <;> simp <;> omega
theorem len_tellsP (k i v x : Int32) : (ac_tellsP k i v x).2.length ≤ 5 := by have := len_waits k i v x; simp [ac_tellsP]; omega
theorem len_tells (k i v x : Int32) : (ac_tells k i v x).2.length ≤ 8 := by
  have h1 := len_tellsP k i v x
  have h2 := len_tellsP k i v (x - 1)
  have h3 := len_reads k i 2
  unfold ac_tells
  split <;> (try split) <;> simp <;> omega
def ares (g : zG) (h : Hp) (m n : Nat) (F : Nat → Int32) (A : Nat → Nat → Int32) (q : Int32 × List Int32) : Int32 → Hp → Prop := fun r h' => r = q.1 ∧ h' = hM g h m (upd F 20 (nI (n + q.2.length))) (mup A 9 (p_log n (A 9) q.2))
theorem dX12_plainReads_0 : decode cX12_plainReads 0 = .ok (.aload_n 0, 1) := by decide +kernel
theorem dX12_plainReads_1 : decode cX12_plainReads 1 = .ok (.iconst 1, 1) := by decide +kernel
theorem dX12_plainReads_2 : decode cX12_plainReads 2 = .ok (.invokevirtual 212, 3) := by decide +kernel
theorem dX12_plainReads_5 : decode cX12_plainReads 5 = .ok (.iload_n 1, 1) := by decide +kernel
theorem dX12_plainReads_6 : decode cX12_plainReads 6 = .ok (.aload_n 0, 1) := by decide +kernel
theorem dX12_plainReads_7 : decode cX12_plainReads 7 = .ok (.getfield 215, 3) := by decide +kernel
theorem dX12_plainReads_10 : decode cX12_plainReads 10 = .ok (.iadd, 1) := by decide +kernel
theorem dX12_plainReads_11 : decode cX12_plainReads 11 = .ok (.ireturn, 1) := by decide +kernel
set_option maxRecDepth 100000 in
set_option maxHeartbeats 4000000 in
theorem s_plainReads (l : Launch) (g : zG) (h : Hp) (m : Nat) (F : Nat → Int32) (A : Nat → Nat → Int32) (x : Int32) (n : Nat) (hn : n ≤ 98) (en : F 20 = nI n) : Sp l g yX12_plainReads cX12_plainReads 2 (some .int) (rmz 2) [.ref m, .int x] (hM g h m F A) (zI (ares g h m n F A (ac_plain (F 22) x))) := by
  refine Sp.of [some (.ref m), some (.int x)] (by decide) (Nat.le_of_ble_eq_true rfl) rfl rfl ?_
  rintro X rfl hr rfl B
  show AW X 0 0 0 _ _ _ _
  refine aw_aload_n B 0 rfl dX12_plainReads_0 rfl ?_
  refine aw_iconst B 1 (by decide) dX12_plainReads_1 ?_
  refine aw_callV B 0 0 (s_ranBody _ _ _ _ _ _ (n) _ (by omega) (by first | exact en | rfl | simp [upd])) co_X12_ranBody k_X12_212 dX12_plainReads_2 hM_o rfl rfl rfl rfl (Nat.le_of_ble_eq_true rfl) (zrm hr (by decide)) (Nat.le_refl _) (Nat.le_refl _) (kV fun h2 hp2 => ?_)
  subst hp2
  refine aw_iload_n B 1 rfl dX12_plainReads_5 rfl ?_
  refine aw_aload_n B 0 rfl dX12_plainReads_6 rfl ?_
  refine m_get B f_X12_215 dX12_plainReads_7 rfl ?_
  refine aw_iadd B dX12_plainReads_10 ?_
  refine aw_iret B rfl rfl dX12_plainReads_11 ?_
  exact ⟨_, rfl, by unfold ac_plain; (try simp (disch := decide) [upd_n]), by unfold ac_plain; (try simp (disch := decide) [upd_u, mup_m, mup_s, p_log, p_log_app, Nat.add_assoc, Nat.add_comm, Nat.add_left_comm])⟩
theorem dX12_readsActs_0 : decode cX12_readsActs 0 = .ok (.aload_n 0, 1) := by decide +kernel
theorem dX12_readsActs_1 : decode cX12_readsActs 1 = .ok (.getfield 218, 3) := by decide +kernel
theorem dX12_readsActs_4 : decode cX12_readsActs 4 = .ok (.iconst 1, 1) := by decide +kernel
theorem dX12_readsActs_5 : decode cX12_readsActs 5 = .ok (.invokestatic 221, 3) := by decide +kernel
theorem dX12_readsActs_8 : decode cX12_readsActs 8 = .ok (.ifCond .eq 17, 3) := by decide +kernel
theorem dX12_readsActs_11 : decode cX12_readsActs 11 = .ok (.aload_n 0, 1) := by decide +kernel
theorem dX12_readsActs_12 : decode cX12_readsActs 12 = .ok (.bipush 11, 2) := by decide +kernel
theorem dX12_readsActs_14 : decode cX12_readsActs 14 = .ok (.invokevirtual 212, 3) := by decide +kernel
theorem dX12_readsActs_17 : decode cX12_readsActs 17 = .ok (.aload_n 0, 1) := by decide +kernel
theorem dX12_readsActs_18 : decode cX12_readsActs 18 = .ok (.iload_n 1, 1) := by decide +kernel
theorem dX12_readsActs_19 : decode cX12_readsActs 19 = .ok (.iconst 3, 1) := by decide +kernel
theorem dX12_readsActs_20 : decode cX12_readsActs 20 = .ok (.imul, 1) := by decide +kernel
theorem dX12_readsActs_21 : decode cX12_readsActs 21 = .ok (.invokevirtual 224, 3) := by decide +kernel
theorem dX12_readsActs_24 : decode cX12_readsActs 24 = .ok (.ireturn, 1) := by decide +kernel
theorem dX12_readsActs_25 : decode cX12_readsActs 25 = .ok (.aload_n 0, 1) := by decide +kernel
theorem dX12_readsActs_26 : decode cX12_readsActs 26 = .ok (.getfield 218, 3) := by decide +kernel
theorem dX12_readsActs_29 : decode cX12_readsActs 29 = .ok (.iconst 5, 1) := by decide +kernel
theorem dX12_readsActs_30 : decode cX12_readsActs 30 = .ok (.if_icmp .ne 20, 3) := by decide +kernel
theorem dX12_readsActs_33 : decode cX12_readsActs 33 = .ok (.aload_n 0, 1) := by decide +kernel
theorem dX12_readsActs_34 : decode cX12_readsActs 34 = .ok (.bipush 51, 2) := by decide +kernel
theorem dX12_readsActs_36 : decode cX12_readsActs 36 = .ok (.invokevirtual 212, 3) := by decide +kernel
theorem dX12_readsActs_39 : decode cX12_readsActs 39 = .ok (.aload_n 0, 1) := by decide +kernel
theorem dX12_readsActs_40 : decode cX12_readsActs 40 = .ok (.iload_n 1, 1) := by decide +kernel
theorem dX12_readsActs_41 : decode cX12_readsActs 41 = .ok (.invokevirtual 224, 3) := by decide +kernel
theorem dX12_readsActs_44 : decode cX12_readsActs 44 = .ok (.aload_n 0, 1) := by decide +kernel
theorem dX12_readsActs_45 : decode cX12_readsActs 45 = .ok (.getfield 215, 3) := by decide +kernel
theorem dX12_readsActs_48 : decode cX12_readsActs 48 = .ok (.ixor, 1) := by decide +kernel
theorem dX12_readsActs_49 : decode cX12_readsActs 49 = .ok (.ireturn, 1) := by decide +kernel
theorem dX12_readsActs_50 : decode cX12_readsActs 50 = .ok (.aload_n 0, 1) := by decide +kernel
theorem dX12_readsActs_51 : decode cX12_readsActs 51 = .ok (.iload_n 1, 1) := by decide +kernel
theorem dX12_readsActs_52 : decode cX12_readsActs 52 = .ok (.invokevirtual 224, 3) := by decide +kernel
theorem dX12_readsActs_55 : decode cX12_readsActs 55 = .ok (.ireturn, 1) := by decide +kernel
set_option maxRecDepth 100000 in
set_option maxHeartbeats 4000000 in
theorem s_readsActs (l : Launch) (g : zG) (h : Hp) (m : Nat) (F : Nat → Int32) (A : Nat → Nat → Int32) (x : Int32) (n : Nat) (hn : n ≤ 97) (en : F 20 = nI n) : Sp l g yX12_readsActs cX12_readsActs 2 (some .int) (rmz 3) [.ref m, .int x] (hM g h m F A) (zI (ares g h m n F A (ac_reads (F 21) (F 22) x))) := by
  refine Sp.of [some (.ref m), some (.int x)] (by decide) (Nat.le_of_ble_eq_true rfl) rfl rfl ?_
  rintro X rfl hr rfl B
  show AW X 0 0 0 _ _ _ _
  refine aw_aload_n B 0 rfl dX12_readsActs_0 rfl ?_
  refine m_get B f_X12_218 dX12_readsActs_1 rfl ?_
  refine aw_iconst B 1 (by decide) dX12_readsActs_4 ?_
  refine aw_callS B 0 0 (s_isUnder _ _ _ _ _) co_X12_isUnder k_X12_221 dX12_readsActs_5 rfl rfl (Nat.le_of_ble_eq_true rfl) (zrm hr (by decide)) (Nat.le_refl _) (Nat.le_refl _) (kI fun r5 h5 hp5 => ?_)
  obtain ⟨rfl, rfl⟩ := hp5
  refine aw_if_eq B 25 dX12_readsActs_8 (fun c8 => ?_) (fun c8 => ?_)
  · refine aw_aload_n B 0 rfl dX12_readsActs_25 rfl ?_
    refine m_get B f_X12_218 dX12_readsActs_26 rfl ?_
    refine aw_iconst B 5 (by decide) dX12_readsActs_29 ?_
    refine aw_icmp_ne B 50 dX12_readsActs_30 (fun c30 => ?_) (fun c30 => ?_)
    · refine aw_aload_n B 0 rfl dX12_readsActs_50 rfl ?_
      refine aw_iload_n B 1 rfl dX12_readsActs_51 rfl ?_
      refine aw_callV B 0 0 (s_plainReads _ _ _ _ _ _ _ (n) (by omega) (by first | exact en | rfl | (simp [upd_s, Nat.add_assoc]; done))) co_X12_plainReads k_X12_224 dX12_readsActs_52 hM_o rfl rfl rfl rfl (Nat.le_of_ble_eq_true rfl) (zrm hr (by decide)) (Nat.le_refl _) (Nat.le_refl _) (kI fun r52 h52 hp52 => ?_)
      obtain ⟨rfl, rfl⟩ := hp52
      try simp (disch := decide) only [upd_u, mup_m, mup_s, upd_s, upd_n]
      refine aw_iret B rfl rfl dX12_readsActs_55 ?_
      exact ⟨_, rfl, by unfold ac_reads; rw [if_pos c8, if_neg c30]; (try simp (disch := decide) [upd_n]), by unfold ac_reads; rw [if_pos c8, if_neg c30]; (try simp (disch := decide) [upd_u, mup_m, mup_s, p_log, p_log_app, Nat.add_assoc, Nat.add_comm, Nat.add_left_comm])⟩
    · refine aw_aload_n B 0 rfl dX12_readsActs_33 rfl ?_
      refine aw_bipush B 51 (by decide) dX12_readsActs_34 ?_
      refine aw_callV B 0 0 (s_ranBody _ _ _ _ _ _ (n) _ (by omega) (by first | exact en | rfl | simp [upd])) co_X12_ranBody k_X12_212 dX12_readsActs_36 hM_o rfl rfl rfl rfl (Nat.le_of_ble_eq_true rfl) (zrm hr (by decide)) (Nat.le_refl _) (Nat.le_refl _) (kV fun h36 hp36 => ?_)
      subst hp36
      refine aw_aload_n B 0 rfl dX12_readsActs_39 rfl ?_
      refine aw_iload_n B 1 rfl dX12_readsActs_40 rfl ?_
      refine aw_callV B 0 0 (s_plainReads _ _ _ _ _ _ _ (n + 1) (by omega) (by first | exact en | rfl | (simp [upd_s, Nat.add_assoc]; done))) co_X12_plainReads k_X12_224 dX12_readsActs_41 hM_o rfl rfl rfl rfl (Nat.le_of_ble_eq_true rfl) (zrm hr (by decide)) (Nat.le_refl _) (Nat.le_refl _) (kI fun r41 h41 hp41 => ?_)
      obtain ⟨rfl, rfl⟩ := hp41
      try simp (disch := decide) only [upd_u, mup_m, mup_s, upd_s, upd_n]
      refine aw_aload_n B 0 rfl dX12_readsActs_44 rfl ?_
      refine m_get B f_X12_215 dX12_readsActs_45 rfl ?_
      refine aw_ixor B dX12_readsActs_48 ?_
      refine aw_iret B rfl rfl dX12_readsActs_49 ?_
      exact ⟨_, rfl, by unfold ac_reads; rw [if_pos c8, if_pos c30]; (try simp (disch := decide) [upd_n]), by unfold ac_reads; rw [if_pos c8, if_pos c30]; (try simp (disch := decide) [upd_u, mup_m, mup_s, p_log, p_log_app, Nat.add_assoc, Nat.add_comm, Nat.add_left_comm])⟩
  · refine aw_aload_n B 0 rfl dX12_readsActs_11 rfl ?_
    refine aw_bipush B 11 (by decide) dX12_readsActs_12 ?_
    refine aw_callV B 0 0 (s_ranBody _ _ _ _ _ _ (n) _ (by omega) (by first | exact en | rfl | simp [upd])) co_X12_ranBody k_X12_212 dX12_readsActs_14 hM_o rfl rfl rfl rfl (Nat.le_of_ble_eq_true rfl) (zrm hr (by decide)) (Nat.le_refl _) (Nat.le_refl _) (kV fun h14 hp14 => ?_)
    subst hp14
    refine aw_aload_n B 0 rfl dX12_readsActs_17 rfl ?_
    refine aw_iload_n B 1 rfl dX12_readsActs_18 rfl ?_
    refine aw_iconst B 3 (by decide) dX12_readsActs_19 ?_
    refine aw_imul B dX12_readsActs_20 ?_
    refine aw_callV B 0 0 (s_plainReads _ _ _ _ _ _ _ (n + 1) (by omega) (by first | exact en | rfl | (simp [upd_s, Nat.add_assoc]; done))) co_X12_plainReads k_X12_224 dX12_readsActs_21 hM_o rfl rfl rfl rfl (Nat.le_of_ble_eq_true rfl) (zrm hr (by decide)) (Nat.le_refl _) (Nat.le_refl _) (kI fun r21 h21 hp21 => ?_)
    obtain ⟨rfl, rfl⟩ := hp21
    try simp (disch := decide) only [upd_u, mup_m, mup_s, upd_s, upd_n]
    refine aw_iret B rfl rfl dX12_readsActs_24 ?_
    exact ⟨_, rfl, by unfold ac_reads; rw [if_neg c8]; (try simp (disch := decide) [upd_n]), by unfold ac_reads; rw [if_neg c8]; (try simp (disch := decide) [upd_u, mup_m, mup_s, p_log, p_log_app, Nat.add_assoc, Nat.add_comm, Nat.add_left_comm])⟩
theorem dX12_plainWaits_0 : decode cX12_plainWaits 0 = .ok (.aload_n 0, 1) := by decide +kernel
theorem dX12_plainWaits_1 : decode cX12_plainWaits 1 = .ok (.iconst 2, 1) := by decide +kernel
theorem dX12_plainWaits_2 : decode cX12_plainWaits 2 = .ok (.invokevirtual 212, 3) := by decide +kernel
theorem dX12_plainWaits_5 : decode cX12_plainWaits 5 = .ok (.aload_n 0, 1) := by decide +kernel
theorem dX12_plainWaits_6 : decode cX12_plainWaits 6 = .ok (.iload_n 1, 1) := by decide +kernel
theorem dX12_plainWaits_7 : decode cX12_plainWaits 7 = .ok (.invokevirtual 227, 3) := by decide +kernel
theorem dX12_plainWaits_10 : decode cX12_plainWaits 10 = .ok (.aload_n 0, 1) := by decide +kernel
theorem dX12_plainWaits_11 : decode cX12_plainWaits 11 = .ok (.getfield 230, 3) := by decide +kernel
theorem dX12_plainWaits_14 : decode cX12_plainWaits 14 = .ok (.isub, 1) := by decide +kernel
theorem dX12_plainWaits_15 : decode cX12_plainWaits 15 = .ok (.ireturn, 1) := by decide +kernel
set_option maxRecDepth 100000 in
set_option maxHeartbeats 4000000 in
theorem s_plainWaits (l : Launch) (g : zG) (h : Hp) (m : Nat) (F : Nat → Int32) (A : Nat → Nat → Int32) (x : Int32) (n : Nat) (hn : n ≤ 96) (en : F 20 = nI n) : Sp l g yX12_plainWaits cX12_plainWaits 2 (some .int) (rmz 4) [.ref m, .int x] (hM g h m F A) (zI (ares g h m n F A (ac_waitsP (F 21) (F 22) (F 23) x))) := by
  refine Sp.of [some (.ref m), some (.int x)] (by decide) (Nat.le_of_ble_eq_true rfl) rfl rfl ?_
  rintro X rfl hr rfl B
  show AW X 0 0 0 _ _ _ _
  refine aw_aload_n B 0 rfl dX12_plainWaits_0 rfl ?_
  refine aw_iconst B 2 (by decide) dX12_plainWaits_1 ?_
  refine aw_callV B 0 0 (s_ranBody _ _ _ _ _ _ (n) _ (by omega) (by first | exact en | rfl | simp [upd])) co_X12_ranBody k_X12_212 dX12_plainWaits_2 hM_o rfl rfl rfl rfl (Nat.le_of_ble_eq_true rfl) (zrm hr (by decide)) (Nat.le_refl _) (Nat.le_refl _) (kV fun h2 hp2 => ?_)
  subst hp2
  refine aw_aload_n B 0 rfl dX12_plainWaits_5 rfl ?_
  refine aw_iload_n B 1 rfl dX12_plainWaits_6 rfl ?_
  refine aw_callV B 0 0 (s_readsActs _ _ _ _ _ _ _ (n + 1) (by omega) (by first | exact en | rfl | (simp [upd_s, Nat.add_assoc]; done))) co_X12_readsActs k_X12_227 dX12_plainWaits_7 hM_o rfl rfl rfl rfl (Nat.le_of_ble_eq_true rfl) (zrm hr (by decide)) (Nat.le_refl _) (Nat.le_refl _) (kI fun r7 h7 hp7 => ?_)
  obtain ⟨rfl, rfl⟩ := hp7
  try simp (disch := decide) only [upd_u, mup_m, mup_s, upd_s, upd_n]
  refine aw_aload_n B 0 rfl dX12_plainWaits_10 rfl ?_
  refine m_get B f_X12_230 dX12_plainWaits_11 rfl ?_
  refine aw_isub B dX12_plainWaits_14 ?_
  refine aw_iret B rfl rfl dX12_plainWaits_15 ?_
  exact ⟨_, rfl, by unfold ac_waitsP; (try simp (disch := decide) [upd_n]), by unfold ac_waitsP; (try simp (disch := decide) [upd_u, mup_m, mup_s, p_log, p_log_app, Nat.add_assoc, Nat.add_comm, Nat.add_left_comm])⟩
theorem dX12_waitsActs_0 : decode cX12_waitsActs 0 = .ok (.aload_n 0, 1) := by decide +kernel
theorem dX12_waitsActs_1 : decode cX12_waitsActs 1 = .ok (.getfield 218, 3) := by decide +kernel
theorem dX12_waitsActs_4 : decode cX12_waitsActs 4 = .ok (.iconst 2, 1) := by decide +kernel
theorem dX12_waitsActs_5 : decode cX12_waitsActs 5 = .ok (.invokestatic 221, 3) := by decide +kernel
theorem dX12_waitsActs_8 : decode cX12_waitsActs 8 = .ok (.ifCond .eq 16, 3) := by decide +kernel
theorem dX12_waitsActs_11 : decode cX12_waitsActs 11 = .ok (.aload_n 0, 1) := by decide +kernel
theorem dX12_waitsActs_12 : decode cX12_waitsActs 12 = .ok (.bipush 21, 2) := by decide +kernel
theorem dX12_waitsActs_14 : decode cX12_waitsActs 14 = .ok (.invokevirtual 212, 3) := by decide +kernel
theorem dX12_waitsActs_17 : decode cX12_waitsActs 17 = .ok (.aload_n 0, 1) := by decide +kernel
theorem dX12_waitsActs_18 : decode cX12_waitsActs 18 = .ok (.iload_n 1, 1) := by decide +kernel
theorem dX12_waitsActs_19 : decode cX12_waitsActs 19 = .ok (.invokevirtual 233, 3) := by decide +kernel
theorem dX12_waitsActs_22 : decode cX12_waitsActs 22 = .ok (.ineg, 1) := by decide +kernel
theorem dX12_waitsActs_23 : decode cX12_waitsActs 23 = .ok (.ireturn, 1) := by decide +kernel
theorem dX12_waitsActs_24 : decode cX12_waitsActs 24 = .ok (.aload_n 0, 1) := by decide +kernel
theorem dX12_waitsActs_25 : decode cX12_waitsActs 25 = .ok (.getfield 218, 3) := by decide +kernel
theorem dX12_waitsActs_28 : decode cX12_waitsActs 28 = .ok (.bipush 6, 2) := by decide +kernel
theorem dX12_waitsActs_30 : decode cX12_waitsActs 30 = .ok (.if_icmp .ne 20, 3) := by decide +kernel
theorem dX12_waitsActs_33 : decode cX12_waitsActs 33 = .ok (.aload_n 0, 1) := by decide +kernel
theorem dX12_waitsActs_34 : decode cX12_waitsActs 34 = .ok (.bipush 61, 2) := by decide +kernel
theorem dX12_waitsActs_36 : decode cX12_waitsActs 36 = .ok (.invokevirtual 212, 3) := by decide +kernel
theorem dX12_waitsActs_39 : decode cX12_waitsActs 39 = .ok (.aload_n 0, 1) := by decide +kernel
theorem dX12_waitsActs_40 : decode cX12_waitsActs 40 = .ok (.iload_n 1, 1) := by decide +kernel
theorem dX12_waitsActs_41 : decode cX12_waitsActs 41 = .ok (.invokevirtual 233, 3) := by decide +kernel
theorem dX12_waitsActs_44 : decode cX12_waitsActs 44 = .ok (.aload_n 0, 1) := by decide +kernel
theorem dX12_waitsActs_45 : decode cX12_waitsActs 45 = .ok (.getfield 230, 3) := by decide +kernel
theorem dX12_waitsActs_48 : decode cX12_waitsActs 48 = .ok (.iadd, 1) := by decide +kernel
theorem dX12_waitsActs_49 : decode cX12_waitsActs 49 = .ok (.ireturn, 1) := by decide +kernel
theorem dX12_waitsActs_50 : decode cX12_waitsActs 50 = .ok (.aload_n 0, 1) := by decide +kernel
theorem dX12_waitsActs_51 : decode cX12_waitsActs 51 = .ok (.iload_n 1, 1) := by decide +kernel
theorem dX12_waitsActs_52 : decode cX12_waitsActs 52 = .ok (.invokevirtual 233, 3) := by decide +kernel
theorem dX12_waitsActs_55 : decode cX12_waitsActs 55 = .ok (.ireturn, 1) := by decide +kernel
set_option maxRecDepth 100000 in
set_option maxHeartbeats 4000000 in
theorem s_waitsActs (l : Launch) (g : zG) (h : Hp) (m : Nat) (F : Nat → Int32) (A : Nat → Nat → Int32) (x : Int32) (n : Nat) (hn : n ≤ 95) (en : F 20 = nI n) : Sp l g yX12_waitsActs cX12_waitsActs 2 (some .int) (rmz 5) [.ref m, .int x] (hM g h m F A) (zI (ares g h m n F A (ac_waits (F 21) (F 22) (F 23) x))) := by
  refine Sp.of [some (.ref m), some (.int x)] (by decide) (Nat.le_of_ble_eq_true rfl) rfl rfl ?_
  rintro X rfl hr rfl B
  show AW X 0 0 0 _ _ _ _
  refine aw_aload_n B 0 rfl dX12_waitsActs_0 rfl ?_
  refine m_get B f_X12_218 dX12_waitsActs_1 rfl ?_
  refine aw_iconst B 2 (by decide) dX12_waitsActs_4 ?_
  refine aw_callS B 0 0 (s_isUnder _ _ _ _ _) co_X12_isUnder k_X12_221 dX12_waitsActs_5 rfl rfl (Nat.le_of_ble_eq_true rfl) (zrm hr (by decide)) (Nat.le_refl _) (Nat.le_refl _) (kI fun r5 h5 hp5 => ?_)
  obtain ⟨rfl, rfl⟩ := hp5
  refine aw_if_eq B 24 dX12_waitsActs_8 (fun c8 => ?_) (fun c8 => ?_)
  · refine aw_aload_n B 0 rfl dX12_waitsActs_24 rfl ?_
    refine m_get B f_X12_218 dX12_waitsActs_25 rfl ?_
    refine aw_bipush B 6 (by decide) dX12_waitsActs_28 ?_
    refine aw_icmp_ne B 50 dX12_waitsActs_30 (fun c30 => ?_) (fun c30 => ?_)
    · refine aw_aload_n B 0 rfl dX12_waitsActs_50 rfl ?_
      refine aw_iload_n B 1 rfl dX12_waitsActs_51 rfl ?_
      refine aw_callV B 0 0 (s_plainWaits _ _ _ _ _ _ _ (n) (by omega) (by first | exact en | rfl | (simp [upd_s, Nat.add_assoc]; done))) co_X12_plainWaits k_X12_233 dX12_waitsActs_52 hM_o rfl rfl rfl rfl (Nat.le_of_ble_eq_true rfl) (zrm hr (by decide)) (Nat.le_refl _) (Nat.le_refl _) (kI fun r52 h52 hp52 => ?_)
      obtain ⟨rfl, rfl⟩ := hp52
      try simp (disch := decide) only [upd_u, mup_m, mup_s, upd_s, upd_n]
      refine aw_iret B rfl rfl dX12_waitsActs_55 ?_
      exact ⟨_, rfl, by unfold ac_waits; rw [if_pos c8, if_neg c30]; (try simp (disch := decide) [upd_n]), by unfold ac_waits; rw [if_pos c8, if_neg c30]; (try simp (disch := decide) [upd_u, mup_m, mup_s, p_log, p_log_app, Nat.add_assoc, Nat.add_comm, Nat.add_left_comm])⟩
    · refine aw_aload_n B 0 rfl dX12_waitsActs_33 rfl ?_
      refine aw_bipush B 61 (by decide) dX12_waitsActs_34 ?_
      refine aw_callV B 0 0 (s_ranBody _ _ _ _ _ _ (n) _ (by omega) (by first | exact en | rfl | simp [upd])) co_X12_ranBody k_X12_212 dX12_waitsActs_36 hM_o rfl rfl rfl rfl (Nat.le_of_ble_eq_true rfl) (zrm hr (by decide)) (Nat.le_refl _) (Nat.le_refl _) (kV fun h36 hp36 => ?_)
      subst hp36
      refine aw_aload_n B 0 rfl dX12_waitsActs_39 rfl ?_
      refine aw_iload_n B 1 rfl dX12_waitsActs_40 rfl ?_
      refine aw_callV B 0 0 (s_plainWaits _ _ _ _ _ _ _ (n + 1) (by omega) (by first | exact en | rfl | (simp [upd_s, Nat.add_assoc]; done))) co_X12_plainWaits k_X12_233 dX12_waitsActs_41 hM_o rfl rfl rfl rfl (Nat.le_of_ble_eq_true rfl) (zrm hr (by decide)) (Nat.le_refl _) (Nat.le_refl _) (kI fun r41 h41 hp41 => ?_)
      obtain ⟨rfl, rfl⟩ := hp41
      try simp (disch := decide) only [upd_u, mup_m, mup_s, upd_s, upd_n]
      refine aw_aload_n B 0 rfl dX12_waitsActs_44 rfl ?_
      refine m_get B f_X12_230 dX12_waitsActs_45 rfl ?_
      refine aw_iadd B dX12_waitsActs_48 ?_
      refine aw_iret B rfl rfl dX12_waitsActs_49 ?_
      exact ⟨_, rfl, by unfold ac_waits; rw [if_pos c8, if_pos c30]; (try simp (disch := decide) [upd_n]), by unfold ac_waits; rw [if_pos c8, if_pos c30]; (try simp (disch := decide) [upd_u, mup_m, mup_s, p_log, p_log_app, Nat.add_assoc, Nat.add_comm, Nat.add_left_comm])⟩
  · refine aw_aload_n B 0 rfl dX12_waitsActs_11 rfl ?_
    refine aw_bipush B 21 (by decide) dX12_waitsActs_12 ?_
    refine aw_callV B 0 0 (s_ranBody _ _ _ _ _ _ (n) _ (by omega) (by first | exact en | rfl | simp [upd])) co_X12_ranBody k_X12_212 dX12_waitsActs_14 hM_o rfl rfl rfl rfl (Nat.le_of_ble_eq_true rfl) (zrm hr (by decide)) (Nat.le_refl _) (Nat.le_refl _) (kV fun h14 hp14 => ?_)
    subst hp14
    refine aw_aload_n B 0 rfl dX12_waitsActs_17 rfl ?_
    refine aw_iload_n B 1 rfl dX12_waitsActs_18 rfl ?_
    refine aw_callV B 0 0 (s_plainWaits _ _ _ _ _ _ _ (n + 1) (by omega) (by first | exact en | rfl | (simp [upd_s, Nat.add_assoc]; done))) co_X12_plainWaits k_X12_233 dX12_waitsActs_19 hM_o rfl rfl rfl rfl (Nat.le_of_ble_eq_true rfl) (zrm hr (by decide)) (Nat.le_refl _) (Nat.le_refl _) (kI fun r19 h19 hp19 => ?_)
    obtain ⟨rfl, rfl⟩ := hp19
    try simp (disch := decide) only [upd_u, mup_m, mup_s, upd_s, upd_n]
    refine aw_ineg B dX12_waitsActs_22 ?_
    refine aw_iret B rfl rfl dX12_waitsActs_23 ?_
    exact ⟨_, rfl, by unfold ac_waits; rw [if_neg c8]; (try simp (disch := decide) [upd_n]), by unfold ac_waits; rw [if_neg c8]; (try simp (disch := decide) [upd_u, mup_m, mup_s, p_log, p_log_app, Nat.add_assoc, Nat.add_comm, Nat.add_left_comm])⟩
theorem dX12_plainTells_0 : decode cX12_plainTells 0 = .ok (.aload_n 0, 1) := by decide +kernel
theorem dX12_plainTells_1 : decode cX12_plainTells 1 = .ok (.iconst 3, 1) := by decide +kernel
theorem dX12_plainTells_2 : decode cX12_plainTells 2 = .ok (.invokevirtual 212, 3) := by decide +kernel
theorem dX12_plainTells_5 : decode cX12_plainTells 5 = .ok (.aload_n 0, 1) := by decide +kernel
theorem dX12_plainTells_6 : decode cX12_plainTells 6 = .ok (.iload_n 1, 1) := by decide +kernel
theorem dX12_plainTells_7 : decode cX12_plainTells 7 = .ok (.invokevirtual 236, 3) := by decide +kernel
theorem dX12_plainTells_10 : decode cX12_plainTells 10 = .ok (.iconst 2, 1) := by decide +kernel
theorem dX12_plainTells_11 : decode cX12_plainTells 11 = .ok (.imul, 1) := by decide +kernel
theorem dX12_plainTells_12 : decode cX12_plainTells 12 = .ok (.ireturn, 1) := by decide +kernel
set_option maxRecDepth 100000 in
set_option maxHeartbeats 4000000 in
theorem s_plainTells (l : Launch) (g : zG) (h : Hp) (m : Nat) (F : Nat → Int32) (A : Nat → Nat → Int32) (x : Int32) (n : Nat) (hn : n ≤ 94) (en : F 20 = nI n) : Sp l g yX12_plainTells cX12_plainTells 2 (some .int) (rmz 6) [.ref m, .int x] (hM g h m F A) (zI (ares g h m n F A (ac_tellsP (F 21) (F 22) (F 23) x))) := by
  refine Sp.of [some (.ref m), some (.int x)] (by decide) (Nat.le_of_ble_eq_true rfl) rfl rfl ?_
  rintro X rfl hr rfl B
  show AW X 0 0 0 _ _ _ _
  refine aw_aload_n B 0 rfl dX12_plainTells_0 rfl ?_
  refine aw_iconst B 3 (by decide) dX12_plainTells_1 ?_
  refine aw_callV B 0 0 (s_ranBody _ _ _ _ _ _ (n) _ (by omega) (by first | exact en | rfl | simp [upd])) co_X12_ranBody k_X12_212 dX12_plainTells_2 hM_o rfl rfl rfl rfl (Nat.le_of_ble_eq_true rfl) (zrm hr (by decide)) (Nat.le_refl _) (Nat.le_refl _) (kV fun h2 hp2 => ?_)
  subst hp2
  refine aw_aload_n B 0 rfl dX12_plainTells_5 rfl ?_
  refine aw_iload_n B 1 rfl dX12_plainTells_6 rfl ?_
  refine aw_callV B 0 0 (s_waitsActs _ _ _ _ _ _ _ (n + 1) (by omega) (by first | exact en | rfl | (simp [upd_s, Nat.add_assoc]; done))) co_X12_waitsActs k_X12_236 dX12_plainTells_7 hM_o rfl rfl rfl rfl (Nat.le_of_ble_eq_true rfl) (zrm hr (by decide)) (Nat.le_refl _) (Nat.le_refl _) (kI fun r7 h7 hp7 => ?_)
  obtain ⟨rfl, rfl⟩ := hp7
  try simp (disch := decide) only [upd_u, mup_m, mup_s, upd_s, upd_n]
  refine aw_iconst B 2 (by decide) dX12_plainTells_10 ?_
  refine aw_imul B dX12_plainTells_11 ?_
  refine aw_iret B rfl rfl dX12_plainTells_12 ?_
  exact ⟨_, rfl, by unfold ac_tellsP; (try simp (disch := decide) [upd_n]), by unfold ac_tellsP; (try simp (disch := decide) [upd_u, mup_m, mup_s, p_log, p_log_app, Nat.add_assoc, Nat.add_comm, Nat.add_left_comm])⟩
theorem dX12_tellsActs_0 : decode cX12_tellsActs 0 = .ok (.aload_n 0, 1) := by decide +kernel
theorem dX12_tellsActs_1 : decode cX12_tellsActs 1 = .ok (.getfield 218, 3) := by decide +kernel
theorem dX12_tellsActs_4 : decode cX12_tellsActs 4 = .ok (.iconst 3, 1) := by decide +kernel
theorem dX12_tellsActs_5 : decode cX12_tellsActs 5 = .ok (.invokestatic 221, 3) := by decide +kernel
theorem dX12_tellsActs_8 : decode cX12_tellsActs 8 = .ok (.ifCond .eq 18, 3) := by decide +kernel
theorem dX12_tellsActs_11 : decode cX12_tellsActs 11 = .ok (.aload_n 0, 1) := by decide +kernel
theorem dX12_tellsActs_12 : decode cX12_tellsActs 12 = .ok (.bipush 31, 2) := by decide +kernel
theorem dX12_tellsActs_14 : decode cX12_tellsActs 14 = .ok (.invokevirtual 212, 3) := by decide +kernel
theorem dX12_tellsActs_17 : decode cX12_tellsActs 17 = .ok (.aload_n 0, 1) := by decide +kernel
theorem dX12_tellsActs_18 : decode cX12_tellsActs 18 = .ok (.iload_n 1, 1) := by decide +kernel
theorem dX12_tellsActs_19 : decode cX12_tellsActs 19 = .ok (.invokevirtual 239, 3) := by decide +kernel
theorem dX12_tellsActs_22 : decode cX12_tellsActs 22 = .ok (.bipush 7, 2) := by decide +kernel
theorem dX12_tellsActs_24 : decode cX12_tellsActs 24 = .ok (.ixor, 1) := by decide +kernel
theorem dX12_tellsActs_25 : decode cX12_tellsActs 25 = .ok (.ireturn, 1) := by decide +kernel
theorem dX12_tellsActs_26 : decode cX12_tellsActs 26 = .ok (.aload_n 0, 1) := by decide +kernel
theorem dX12_tellsActs_27 : decode cX12_tellsActs 27 = .ok (.getfield 218, 3) := by decide +kernel
theorem dX12_tellsActs_30 : decode cX12_tellsActs 30 = .ok (.iconst 4, 1) := by decide +kernel
theorem dX12_tellsActs_31 : decode cX12_tellsActs 31 = .ok (.if_icmp .ne 25, 3) := by decide +kernel
theorem dX12_tellsActs_34 : decode cX12_tellsActs 34 = .ok (.aload_n 0, 1) := by decide +kernel
theorem dX12_tellsActs_35 : decode cX12_tellsActs 35 = .ok (.bipush 41, 2) := by decide +kernel
theorem dX12_tellsActs_37 : decode cX12_tellsActs 37 = .ok (.invokevirtual 212, 3) := by decide +kernel
theorem dX12_tellsActs_40 : decode cX12_tellsActs 40 = .ok (.aload_n 0, 1) := by decide +kernel
theorem dX12_tellsActs_41 : decode cX12_tellsActs 41 = .ok (.iload_n 1, 1) := by decide +kernel
theorem dX12_tellsActs_42 : decode cX12_tellsActs 42 = .ok (.iconst 1, 1) := by decide +kernel
theorem dX12_tellsActs_43 : decode cX12_tellsActs 43 = .ok (.isub, 1) := by decide +kernel
theorem dX12_tellsActs_44 : decode cX12_tellsActs 44 = .ok (.invokevirtual 239, 3) := by decide +kernel
theorem dX12_tellsActs_47 : decode cX12_tellsActs 47 = .ok (.istore_n 2, 1) := by decide +kernel
theorem dX12_tellsActs_48 : decode cX12_tellsActs 48 = .ok (.iload_n 2, 1) := by decide +kernel
theorem dX12_tellsActs_49 : decode cX12_tellsActs 49 = .ok (.aload_n 0, 1) := by decide +kernel
theorem dX12_tellsActs_50 : decode cX12_tellsActs 50 = .ok (.iconst 2, 1) := by decide +kernel
theorem dX12_tellsActs_51 : decode cX12_tellsActs 51 = .ok (.invokevirtual 227, 3) := by decide +kernel
theorem dX12_tellsActs_54 : decode cX12_tellsActs 54 = .ok (.iadd, 1) := by decide +kernel
theorem dX12_tellsActs_55 : decode cX12_tellsActs 55 = .ok (.ireturn, 1) := by decide +kernel
theorem dX12_tellsActs_56 : decode cX12_tellsActs 56 = .ok (.aload_n 0, 1) := by decide +kernel
theorem dX12_tellsActs_57 : decode cX12_tellsActs 57 = .ok (.iload_n 1, 1) := by decide +kernel
theorem dX12_tellsActs_58 : decode cX12_tellsActs 58 = .ok (.invokevirtual 239, 3) := by decide +kernel
theorem dX12_tellsActs_61 : decode cX12_tellsActs 61 = .ok (.ireturn, 1) := by decide +kernel
set_option maxRecDepth 100000 in
set_option maxHeartbeats 4000000 in
theorem s_tellsActs (l : Launch) (g : zG) (h : Hp) (m : Nat) (F : Nat → Int32) (A : Nat → Nat → Int32) (x : Int32) (n : Nat) (hn : n ≤ 80) (en : F 20 = nI n) : Sp l g yX12_tellsActs cX12_tellsActs 3 (some .int) (rmz 7) [.ref m, .int x] (hM g h m F A) (zI (ares g h m n F A (ac_tells (F 21) (F 22) (F 23) x))) := by
  refine Sp.of [some (.ref m), some (.int x), none] (by decide) (Nat.le_of_ble_eq_true rfl) rfl rfl ?_
  rintro X rfl hr rfl B
  show AW X 0 0 0 _ _ _ _
  refine aw_aload_n B 0 rfl dX12_tellsActs_0 rfl ?_
  refine m_get B f_X12_218 dX12_tellsActs_1 rfl ?_
  refine aw_iconst B 3 (by decide) dX12_tellsActs_4 ?_
  refine aw_callS B 0 0 (s_isUnder _ _ _ _ _) co_X12_isUnder k_X12_221 dX12_tellsActs_5 rfl rfl (Nat.le_of_ble_eq_true rfl) (zrm hr (by decide)) (Nat.le_refl _) (Nat.le_refl _) (kI fun r5 h5 hp5 => ?_)
  obtain ⟨rfl, rfl⟩ := hp5
  refine aw_if_eq B 26 dX12_tellsActs_8 (fun c8 => ?_) (fun c8 => ?_)
  · refine aw_aload_n B 0 rfl dX12_tellsActs_26 rfl ?_
    refine m_get B f_X12_218 dX12_tellsActs_27 rfl ?_
    refine aw_iconst B 4 (by decide) dX12_tellsActs_30 ?_
    refine aw_icmp_ne B 56 dX12_tellsActs_31 (fun c31 => ?_) (fun c31 => ?_)
    · refine aw_aload_n B 0 rfl dX12_tellsActs_56 rfl ?_
      refine aw_iload_n B 1 rfl dX12_tellsActs_57 rfl ?_
      refine aw_callV B 0 0 (s_plainTells _ _ _ _ _ _ _ (n) (by omega) (by first | exact en | rfl | (simp [upd_s, Nat.add_assoc]; done))) co_X12_plainTells k_X12_239 dX12_tellsActs_58 hM_o rfl rfl rfl rfl (Nat.le_of_ble_eq_true rfl) (zrm hr (by decide)) (Nat.le_refl _) (Nat.le_refl _) (kI fun r58 h58 hp58 => ?_)
      obtain ⟨rfl, rfl⟩ := hp58
      try simp (disch := decide) only [upd_u, mup_m, mup_s, upd_s, upd_n]
      refine aw_iret B rfl rfl dX12_tellsActs_61 ?_
      exact ⟨_, rfl, by unfold ac_tells; rw [if_pos c8, if_neg c31]; (try simp (disch := decide) [upd_n]), by unfold ac_tells; rw [if_pos c8, if_neg c31]; (try simp (disch := decide) [upd_u, mup_m, mup_s, p_log, p_log_app, Nat.add_assoc, Nat.add_comm, Nat.add_left_comm])⟩
    · refine aw_aload_n B 0 rfl dX12_tellsActs_34 rfl ?_
      refine aw_bipush B 41 (by decide) dX12_tellsActs_35 ?_
      refine aw_callV B 0 0 (s_ranBody _ _ _ _ _ _ (n) _ (by omega) (by first | exact en | rfl | simp [upd])) co_X12_ranBody k_X12_212 dX12_tellsActs_37 hM_o rfl rfl rfl rfl (Nat.le_of_ble_eq_true rfl) (zrm hr (by decide)) (Nat.le_refl _) (Nat.le_refl _) (kV fun h37 hp37 => ?_)
      subst hp37
      refine aw_aload_n B 0 rfl dX12_tellsActs_40 rfl ?_
      refine aw_iload_n B 1 rfl dX12_tellsActs_41 rfl ?_
      refine aw_iconst B 1 (by decide) dX12_tellsActs_42 ?_
      refine aw_isub B dX12_tellsActs_43 ?_
      refine aw_callV B 0 0 (s_plainTells _ _ _ _ _ _ _ (n + 1) (by omega) (by first | exact en | rfl | (simp [upd_s, Nat.add_assoc]; done))) co_X12_plainTells k_X12_239 dX12_tellsActs_44 hM_o rfl rfl rfl rfl (Nat.le_of_ble_eq_true rfl) (zrm hr (by decide)) (Nat.le_refl _) (Nat.le_refl _) (kI fun r44 h44 hp44 => ?_)
      obtain ⟨rfl, rfl⟩ := hp44
      try simp (disch := decide) only [upd_u, mup_m, mup_s, upd_s, upd_n]
      refine aw_istore2 B dX12_tellsActs_47 ?_
      refine aw_iload_n B 2 rfl dX12_tellsActs_48 rfl ?_
      refine aw_aload_n B 0 rfl dX12_tellsActs_49 rfl ?_
      refine aw_iconst B 2 (by decide) dX12_tellsActs_50 ?_
      refine aw_callV B 0 0 (s_readsActs _ _ _ _ _ _ _ (n + 1 + (ac_tellsP (F 21) (F 22) (F 23) (x - 1)).2.length) (by have := len_tellsP (F 21) (F 22) (F 23) (x - 1); omega) (by first | exact en | rfl | (simp [upd_s, Nat.add_assoc]; done))) co_X12_readsActs k_X12_227 dX12_tellsActs_51 hM_o rfl rfl rfl rfl (Nat.le_of_ble_eq_true rfl) (zrm hr (by decide)) (Nat.le_refl _) (Nat.le_refl _) (kI fun r51 h51 hp51 => ?_)
      obtain ⟨rfl, rfl⟩ := hp51
      try simp (disch := decide) only [upd_u, mup_m, mup_s, upd_s, upd_n]
      refine aw_iadd B dX12_tellsActs_54 ?_
      refine aw_iret B rfl rfl dX12_tellsActs_55 ?_
      exact ⟨_, rfl, by unfold ac_tells; rw [if_pos c8, if_pos c31]; (try simp (disch := decide) [upd_n]), by unfold ac_tells; rw [if_pos c8, if_pos c31]; (try simp (disch := decide) [upd_u, mup_m, mup_s, p_log, p_log_app, Nat.add_assoc, Nat.add_comm, Nat.add_left_comm])⟩
  · refine aw_aload_n B 0 rfl dX12_tellsActs_11 rfl ?_
    refine aw_bipush B 31 (by decide) dX12_tellsActs_12 ?_
    refine aw_callV B 0 0 (s_ranBody _ _ _ _ _ _ (n) _ (by omega) (by first | exact en | rfl | simp [upd])) co_X12_ranBody k_X12_212 dX12_tellsActs_14 hM_o rfl rfl rfl rfl (Nat.le_of_ble_eq_true rfl) (zrm hr (by decide)) (Nat.le_refl _) (Nat.le_refl _) (kV fun h14 hp14 => ?_)
    subst hp14
    refine aw_aload_n B 0 rfl dX12_tellsActs_17 rfl ?_
    refine aw_iload_n B 1 rfl dX12_tellsActs_18 rfl ?_
    refine aw_callV B 0 0 (s_plainTells _ _ _ _ _ _ _ (n + 1) (by omega) (by first | exact en | rfl | (simp [upd_s, Nat.add_assoc]; done))) co_X12_plainTells k_X12_239 dX12_tellsActs_19 hM_o rfl rfl rfl rfl (Nat.le_of_ble_eq_true rfl) (zrm hr (by decide)) (Nat.le_refl _) (Nat.le_refl _) (kI fun r19 h19 hp19 => ?_)
    obtain ⟨rfl, rfl⟩ := hp19
    try simp (disch := decide) only [upd_u, mup_m, mup_s, upd_s, upd_n]
    refine aw_bipush B 7 (by decide) dX12_tellsActs_22 ?_
    refine aw_ixor B dX12_tellsActs_24 ?_
    refine aw_iret B rfl rfl dX12_tellsActs_25 ?_
    exact ⟨_, rfl, by unfold ac_tells; rw [if_neg c8]; (try simp (disch := decide) [upd_n]), by unfold ac_tells; rw [if_neg c8]; (try simp (disch := decide) [upd_u, mup_m, mup_s, p_log, p_log_app, Nat.add_assoc, Nat.add_comm, Nat.add_left_comm])⟩
def q_act (S : Nat → Int32) (a b x : Int32) : Int32 × List Int32 := if bI (0 ≤ a ∧ a ≤ S 1 - 1) = 0 then (0, []) else if bI (0 ≤ b ∧ b ≤ 2) = 0 then (0, []) else if b = 0 then ac_reads (S (22 + a.toNatClampNeg)) a x else if b = 1 then ac_waits (S (22 + a.toNatClampNeg)) a (S (26 + a.toNatClampNeg)) x else ac_tells (S (22 + a.toNatClampNeg)) a (S (26 + a.toNatClampNeg)) x
def mact (g : zG) (h : Hp) (m : Nat) (F : Nat → Int32) (A : Nat → Nat → Int32) (q : Int32 × List Int32) : Int32 → Hp → Prop := fun r h' => r = q.1 ∧ ∃ F', F' 3 = F 3 ∧ F' 20 = nI q.2.length ∧ h' = hM g h m F' (mup A 9 (p_log 0 (A 9) q.2))
theorem dX12_act_0 : decode cX12_act 0 = .ok (.aload_n 0, 1) := by decide +kernel
theorem dX12_act_1 : decode cX12_act 1 = .ok (.iconst 0, 1) := by decide +kernel
theorem dX12_act_2 : decode cX12_act 2 = .ok (.putfield 209, 3) := by decide +kernel
theorem dX12_act_5 : decode cX12_act 5 = .ok (.aload_n 0, 1) := by decide +kernel
theorem dX12_act_6 : decode cX12_act 6 = .ok (.iload_n 1, 1) := by decide +kernel
theorem dX12_act_7 : decode cX12_act 7 = .ok (.invokevirtual 144, 3) := by decide +kernel
theorem dX12_act_10 : decode cX12_act 10 = .ok (.ifCond .eq 12, 3) := by decide +kernel
theorem dX12_act_13 : decode cX12_act 13 = .ok (.iload_n 2, 1) := by decide +kernel
theorem dX12_act_14 : decode cX12_act 14 = .ok (.iconst 0, 1) := by decide +kernel
theorem dX12_act_15 : decode cX12_act 15 = .ok (.iconst 2, 1) := by decide +kernel
theorem dX12_act_16 : decode cX12_act 16 = .ok (.invokestatic 44, 3) := by decide +kernel
theorem dX12_act_19 : decode cX12_act 19 = .ok (.ifCond .ne 5, 3) := by decide +kernel
theorem dX12_act_22 : decode cX12_act 22 = .ok (.iconst 0, 1) := by decide +kernel
theorem dX12_act_23 : decode cX12_act 23 = .ok (.ireturn, 1) := by decide +kernel
theorem dX12_act_24 : decode cX12_act 24 = .ok (.aload_n 0, 1) := by decide +kernel
theorem dX12_act_25 : decode cX12_act 25 = .ok (.aload_n 0, 1) := by decide +kernel
theorem dX12_act_26 : decode cX12_act 26 = .ok (.getfield 9, 3) := by decide +kernel
theorem dX12_act_29 : decode cX12_act 29 = .ok (.bipush 22, 2) := by decide +kernel
theorem dX12_act_31 : decode cX12_act 31 = .ok (.iload_n 1, 1) := by decide +kernel
theorem dX12_act_32 : decode cX12_act 32 = .ok (.iadd, 1) := by decide +kernel
theorem dX12_act_33 : decode cX12_act 33 = .ok (.iaload, 1) := by decide +kernel
theorem dX12_act_34 : decode cX12_act 34 = .ok (.putfield 218, 3) := by decide +kernel
theorem dX12_act_37 : decode cX12_act 37 = .ok (.aload_n 0, 1) := by decide +kernel
theorem dX12_act_38 : decode cX12_act 38 = .ok (.iload_n 1, 1) := by decide +kernel
theorem dX12_act_39 : decode cX12_act 39 = .ok (.putfield 215, 3) := by decide +kernel
theorem dX12_act_42 : decode cX12_act 42 = .ok (.aload_n 0, 1) := by decide +kernel
theorem dX12_act_43 : decode cX12_act 43 = .ok (.aload_n 0, 1) := by decide +kernel
theorem dX12_act_44 : decode cX12_act 44 = .ok (.getfield 9, 3) := by decide +kernel
theorem dX12_act_47 : decode cX12_act 47 = .ok (.bipush 26, 2) := by decide +kernel
theorem dX12_act_49 : decode cX12_act 49 = .ok (.iload_n 1, 1) := by decide +kernel
theorem dX12_act_50 : decode cX12_act 50 = .ok (.iadd, 1) := by decide +kernel
theorem dX12_act_51 : decode cX12_act 51 = .ok (.iaload, 1) := by decide +kernel
theorem dX12_act_52 : decode cX12_act 52 = .ok (.putfield 230, 3) := by decide +kernel
theorem dX12_act_55 : decode cX12_act 55 = .ok (.iload_n 2, 1) := by decide +kernel
theorem dX12_act_56 : decode cX12_act 56 = .ok (.ifCond .ne 11, 3) := by decide +kernel
theorem dX12_act_59 : decode cX12_act 59 = .ok (.aload_n 0, 1) := by decide +kernel
theorem dX12_act_60 : decode cX12_act 60 = .ok (.iload_n 3, 1) := by decide +kernel
theorem dX12_act_61 : decode cX12_act 61 = .ok (.invokevirtual 227, 3) := by decide +kernel
theorem dX12_act_64 : decode cX12_act 64 = .ok (.goto 21, 3) := by decide +kernel
theorem dX12_act_67 : decode cX12_act 67 = .ok (.iload_n 2, 1) := by decide +kernel
theorem dX12_act_68 : decode cX12_act 68 = .ok (.iconst 1, 1) := by decide +kernel
theorem dX12_act_69 : decode cX12_act 69 = .ok (.if_icmp .ne 11, 3) := by decide +kernel
theorem dX12_act_72 : decode cX12_act 72 = .ok (.aload_n 0, 1) := by decide +kernel
theorem dX12_act_73 : decode cX12_act 73 = .ok (.iload_n 3, 1) := by decide +kernel
theorem dX12_act_74 : decode cX12_act 74 = .ok (.invokevirtual 236, 3) := by decide +kernel
theorem dX12_act_77 : decode cX12_act 77 = .ok (.goto 8, 3) := by decide +kernel
theorem dX12_act_80 : decode cX12_act 80 = .ok (.aload_n 0, 1) := by decide +kernel
theorem dX12_act_81 : decode cX12_act 81 = .ok (.iload_n 3, 1) := by decide +kernel
theorem dX12_act_82 : decode cX12_act 82 = .ok (.invokevirtual 242, 3) := by decide +kernel
theorem dX12_act_85 : decode cX12_act 85 = .ok (.ireturn, 1) := by decide +kernel
set_option maxRecDepth 100000 in
set_option maxHeartbeats 4000000 in
theorem s_act (l : Launch) (g : zG) (h : Hp) (m : Nat) (F : Nat → Int32) (A : Nat → Nat → Int32) (a b x : Int32) (ht : rng (A 1 1) 0 4) : Sp l g yX12_act cX12_act 4 (some .int) (rmz 8) [.ref m, .int a, .int b, .int x] (hM g h m F A) (zI (mact g h m F A (q_act (A 1) a b x))) := by
  refine Sp.of [some (.ref m), some (.int a), some (.int b), some (.int x)] (by decide) (Nat.le_of_ble_eq_true rfl) rfl rfl ?_
  rintro X rfl hr rfl B
  show AW X 0 0 0 _ _ _ _
  obtain ⟨t, -, ht, et⟩ := ht
  refine aw_aload_n B 0 rfl dX12_act_0 rfl ?_
  refine aw_iconst B 0 (by decide) dX12_act_1 ?_
  refine m_put B f_X12_209 dX12_act_2 rfl (by decide) ?_
  refine aw_aload_n B 0 rfl dX12_act_5 rfl ?_
  refine aw_iload_n B 1 rfl dX12_act_6 rfl ?_
  refine aw_callV B 0 0 (s_isReader _ _ _ _ _ _ _) co_X12_isReader k_X12_144 dX12_act_7 hM_o rfl rfl rfl rfl (Nat.le_of_ble_eq_true rfl) (zrm hr (by decide)) (Nat.le_refl _) (Nat.le_refl _) (kI fun r7 h7 hp7 => ?_)
  obtain ⟨rfl, rfl⟩ := hp7
  refine aw_if_eq B 22 dX12_act_10 (fun c10 => ?_) (fun c10 => ?_)
  · refine aw_iconst B 0 (by decide) dX12_act_22 ?_
    refine aw_iret B rfl rfl dX12_act_23 ?_
    refine ⟨_, rfl, ?_⟩
    unfold q_act
    rw [if_pos c10]
    exact ⟨rfl, upd F 20 0, rfl, rfl, by rw [show p_log 0 (A 9) [] = A 9 from rfl, mup_i]⟩
  · refine aw_iload_n B 2 rfl dX12_act_13 rfl ?_
    refine aw_iconst B 0 (by decide) dX12_act_14 ?_
    refine aw_iconst B 2 (by decide) dX12_act_15 ?_
    refine aw_callS B 0 0 (s_in _ _ _ _ _ _) co_X12_in k_X12_44 dX12_act_16 rfl rfl (Nat.le_of_ble_eq_true rfl) (zrm hr (by decide)) (Nat.le_refl _) (Nat.le_refl _) (kI fun r16 h16 hp16 => ?_)
    obtain ⟨rfl, rfl⟩ := hp16
    refine aw_if_ne B 24 dX12_act_19 (fun c19 => ?_) (fun c19 => ?_)
    · obtain ⟨k, hk, rfl⟩ := in_cnt (of_bI c10) (by omega) et
      have ek : (nI k).toNatClampNeg = k := nI_clamp (by omega)
      refine aw_aload_n B 0 rfl dX12_act_24 rfl ?_
      refine aw_aload_n B 0 rfl dX12_act_25 rfl ?_
      refine m_get B f_X12_9 dX12_act_26 rfl ?_
      refine aw_bipush B 22 (by decide) dX12_act_29 ?_
      refine aw_iload_n B 1 rfl dX12_act_31 rfl ?_
      refine aw_iadd B dX12_act_32 ?_
      refine m_ld B (22 + k) (ix_c 22 rfl) (by show _ < 899; omega) dX12_act_33 (by decide) ?_
      refine m_put B f_X12_218 dX12_act_34 rfl (by decide) ?_
      refine aw_aload_n B 0 rfl dX12_act_37 rfl ?_
      refine aw_iload_n B 1 rfl dX12_act_38 rfl ?_
      refine m_put B f_X12_215 dX12_act_39 rfl (by decide) ?_
      refine aw_aload_n B 0 rfl dX12_act_42 rfl ?_
      refine aw_aload_n B 0 rfl dX12_act_43 rfl ?_
      refine m_get B f_X12_9 dX12_act_44 rfl ?_
      refine aw_bipush B 26 (by decide) dX12_act_47 ?_
      refine aw_iload_n B 1 rfl dX12_act_49 rfl ?_
      refine aw_iadd B dX12_act_50 ?_
      refine m_ld B (26 + k) (ix_c 26 rfl) (by show _ < 899; omega) dX12_act_51 (by decide) ?_
      refine m_put B f_X12_230 dX12_act_52 rfl (by decide) ?_
      refine aw_iload_n B 2 rfl dX12_act_55 rfl ?_
      refine aw_if_ne B 67 dX12_act_56 (fun c56 => ?_) (fun c56 => ?_)
      · refine aw_iload_n B 2 rfl dX12_act_67 rfl ?_
        refine aw_iconst B 1 (by decide) dX12_act_68 ?_
        refine aw_icmp_ne B 80 dX12_act_69 (fun c69 => ?_) (fun c69 => ?_)
        · refine aw_aload_n B 0 rfl dX12_act_80 rfl ?_
          refine aw_iload_n B 3 rfl dX12_act_81 rfl ?_
          refine aw_callV B 0 0 (s_tellsActs _ _ _ _ _ _ _ 0 (by omega) (by simp [upd]; rfl)) co_X12_tellsActs k_X12_242 dX12_act_82 hM_o rfl rfl rfl rfl (Nat.le_of_ble_eq_true rfl) (zrm hr (by decide)) (Nat.le_refl _) (Nat.le_refl _) (kI fun r82 h82 hp82 => ?_)
          obtain ⟨rfl, rfl⟩ := hp82
          refine aw_iret B rfl rfl dX12_act_85 ?_
          refine ⟨_, rfl, ?_⟩
          unfold q_act
          rw [if_neg c10, if_neg c19, if_neg c56, if_neg c69, ek]
          exact ⟨rfl, upd (upd (upd (upd (upd F 20 0) 21 (A 1 (22 + k))) 22 (nI k)) 23 (A 1 (26 + k))) 20 (nI (0 + (ac_tells (A 1 (22 + k)) (nI k) (A 1 (26 + k)) x).2.length)), rfl, by rw [upd_s, Nat.zero_add], rfl⟩
        · refine aw_aload_n B 0 rfl dX12_act_72 rfl ?_
          refine aw_iload_n B 3 rfl dX12_act_73 rfl ?_
          refine aw_callV B 0 0 (s_waitsActs _ _ _ _ _ _ _ 0 (by omega) (by simp [upd]; rfl)) co_X12_waitsActs k_X12_236 dX12_act_74 hM_o rfl rfl rfl rfl (Nat.le_of_ble_eq_true rfl) (zrm hr (by decide)) (Nat.le_refl _) (Nat.le_refl _) (kI fun r74 h74 hp74 => ?_)
          obtain ⟨rfl, rfl⟩ := hp74
          refine aw_goto B 85 dX12_act_77 ?_
          refine aw_iret B rfl rfl dX12_act_85 ?_
          refine ⟨_, rfl, ?_⟩
          unfold q_act
          rw [if_neg c10, if_neg c19, if_neg c56, if_pos c69, ek]
          exact ⟨rfl, upd (upd (upd (upd (upd F 20 0) 21 (A 1 (22 + k))) 22 (nI k)) 23 (A 1 (26 + k))) 20 (nI (0 + (ac_waits (A 1 (22 + k)) (nI k) (A 1 (26 + k)) x).2.length)), rfl, by rw [upd_s, Nat.zero_add], rfl⟩
      · refine aw_aload_n B 0 rfl dX12_act_59 rfl ?_
        refine aw_iload_n B 3 rfl dX12_act_60 rfl ?_
        refine aw_callV B 0 0 (s_readsActs _ _ _ _ _ _ _ 0 (by omega) (by simp [upd]; rfl)) co_X12_readsActs k_X12_227 dX12_act_61 hM_o rfl rfl rfl rfl (Nat.le_of_ble_eq_true rfl) (zrm hr (by decide)) (Nat.le_refl _) (Nat.le_refl _) (kI fun r61 h61 hp61 => ?_)
        obtain ⟨rfl, rfl⟩ := hp61
        refine aw_goto B 85 dX12_act_64 ?_
        refine aw_iret B rfl rfl dX12_act_85 ?_
        refine ⟨_, rfl, ?_⟩
        unfold q_act
        rw [if_neg c10, if_neg c19, if_pos c56, ek]
        exact ⟨rfl, upd (upd (upd (upd (upd F 20 0) 21 (A 1 (22 + k))) 22 (nI k)) 23 (A 1 (26 + k))) 20 (nI (0 + (ac_reads (A 1 (22 + k)) (nI k) x).2.length)), rfl, by rw [upd_s, Nat.zero_add], rfl⟩
    · refine aw_iconst B 0 (by decide) dX12_act_22 ?_
      refine aw_iret B rfl rfl dX12_act_23 ?_
      refine ⟨_, rfl, ?_⟩
      unfold q_act
      rw [if_neg c10, if_pos c19]
      exact ⟨rfl, upd F 20 0, rfl, rfl, by rw [show p_log 0 (A 9) [] = A 9 from rfl, mup_i]⟩
end
section
theorem mg_0 (m : Nat) (F : Nat → Int32) : (mflds m F)[0]? = some (.int (F 0)) := rfl
theorem ms_0 (m : Nat) (F : Nat → Int32) (x : Int32) : (mflds m F).set 0 (.int x) = mflds m (upd F 0 x) := rfl
theorem mg_1 (m : Nat) (F : Nat → Int32) : (mflds m F)[1]? = some (.ref (m + 1)) := rfl
theorem mg_2 (m : Nat) (F : Nat → Int32) : (mflds m F)[2]? = some (.ref (m + 2)) := rfl
theorem mg_3 (m : Nat) (F : Nat → Int32) : (mflds m F)[3]? = some (.int (F 3)) := rfl
theorem ms_3 (m : Nat) (F : Nat → Int32) (x : Int32) : (mflds m F).set 3 (.int x) = mflds m (upd F 3 x) := rfl
theorem mg_4 (m : Nat) (F : Nat → Int32) : (mflds m F)[4]? = some (.int (F 4)) := rfl
theorem ms_4 (m : Nat) (F : Nat → Int32) (x : Int32) : (mflds m F).set 4 (.int x) = mflds m (upd F 4 x) := rfl
theorem mg_5 (m : Nat) (F : Nat → Int32) : (mflds m F)[5]? = some (.int (F 5)) := rfl
theorem ms_5 (m : Nat) (F : Nat → Int32) (x : Int32) : (mflds m F).set 5 (.int x) = mflds m (upd F 5 x) := rfl
theorem mg_6 (m : Nat) (F : Nat → Int32) : (mflds m F)[6]? = some (.int (F 6)) := rfl
theorem ms_6 (m : Nat) (F : Nat → Int32) (x : Int32) : (mflds m F).set 6 (.int x) = mflds m (upd F 6 x) := rfl
theorem mg_7 (m : Nat) (F : Nat → Int32) : (mflds m F)[7]? = some (.int (F 7)) := rfl
theorem ms_7 (m : Nat) (F : Nat → Int32) (x : Int32) : (mflds m F).set 7 (.int x) = mflds m (upd F 7 x) := rfl
theorem mg_8 (m : Nat) (F : Nat → Int32) : (mflds m F)[8]? = some (.int (F 8)) := rfl
theorem ms_8 (m : Nat) (F : Nat → Int32) (x : Int32) : (mflds m F).set 8 (.int x) = mflds m (upd F 8 x) := rfl
theorem mg_9 (m : Nat) (F : Nat → Int32) : (mflds m F)[9]? = some (.ref (m + 3)) := rfl
theorem mg_10 (m : Nat) (F : Nat → Int32) : (mflds m F)[10]? = some (.ref (m + 4)) := rfl
theorem mg_11 (m : Nat) (F : Nat → Int32) : (mflds m F)[11]? = some (.int (F 11)) := rfl
theorem ms_11 (m : Nat) (F : Nat → Int32) (x : Int32) : (mflds m F).set 11 (.int x) = mflds m (upd F 11 x) := rfl
theorem mg_12 (m : Nat) (F : Nat → Int32) : (mflds m F)[12]? = some (.int (F 12)) := rfl
theorem ms_12 (m : Nat) (F : Nat → Int32) (x : Int32) : (mflds m F).set 12 (.int x) = mflds m (upd F 12 x) := rfl
theorem mg_13 (m : Nat) (F : Nat → Int32) : (mflds m F)[13]? = some (.ref (m + 5)) := rfl
theorem mg_14 (m : Nat) (F : Nat → Int32) : (mflds m F)[14]? = some (.int (F 14)) := rfl
theorem ms_14 (m : Nat) (F : Nat → Int32) (x : Int32) : (mflds m F).set 14 (.int x) = mflds m (upd F 14 x) := rfl
theorem mg_15 (m : Nat) (F : Nat → Int32) : (mflds m F)[15]? = some (.ref (m + 6)) := rfl
theorem mg_16 (m : Nat) (F : Nat → Int32) : (mflds m F)[16]? = some (.ref (m + 7)) := rfl
theorem mg_17 (m : Nat) (F : Nat → Int32) : (mflds m F)[17]? = some (.ref (m + 8)) := rfl
theorem mg_18 (m : Nat) (F : Nat → Int32) : (mflds m F)[18]? = some (.int (F 18)) := rfl
theorem ms_18 (m : Nat) (F : Nat → Int32) (x : Int32) : (mflds m F).set 18 (.int x) = mflds m (upd F 18 x) := rfl
theorem mg_19 (m : Nat) (F : Nat → Int32) : (mflds m F)[19]? = some (.ref (m + 9)) := rfl
theorem mg_20 (m : Nat) (F : Nat → Int32) : (mflds m F)[20]? = some (.int (F 20)) := rfl
theorem ms_20 (m : Nat) (F : Nat → Int32) (x : Int32) : (mflds m F).set 20 (.int x) = mflds m (upd F 20 x) := rfl
theorem mg_21 (m : Nat) (F : Nat → Int32) : (mflds m F)[21]? = some (.int (F 21)) := rfl
theorem ms_21 (m : Nat) (F : Nat → Int32) (x : Int32) : (mflds m F).set 21 (.int x) = mflds m (upd F 21 x) := rfl
theorem mg_22 (m : Nat) (F : Nat → Int32) : (mflds m F)[22]? = some (.int (F 22)) := rfl
theorem ms_22 (m : Nat) (F : Nat → Int32) (x : Int32) : (mflds m F).set 22 (.int x) = mflds m (upd F 22 x) := rfl
theorem mg_23 (m : Nat) (F : Nat → Int32) : (mflds m F)[23]? = some (.int (F 23)) := rfl
theorem ms_23 (m : Nat) (F : Nat → Int32) (x : Int32) : (mflds m F).set 23 (.int x) = mflds m (upd F 23 x) := rfl
/-- fewer locals known -/
def zle : List (Option Value) → List (Option Value) → Prop
  | [], [] => True
  | a :: t, b :: u => (b = none ∨ a = b) ∧ zle t u
  | _, _ => False
theorem zle_len : ∀ {a b : List (Option Value)}, zle a b → a.length = b.length
  | [], [], _ => rfl
  | _ :: t, _ :: u, h => by simp [zle_len h.2]
theorem zle_at : ∀ {a b : List (Option Value)} {k : Nat} {v : Value}, zle a b → b[k]? = some (some v) → a[k]? = some (some v)
  | [], [], _, _, _, h => by simp at h
  | x :: t, y :: u, 0, v, h, hk => by
    simp at hk
    rcases h.1 with e | e
    · rw [e] at hk; cases hk
    · simp [e, hk]
  | x :: t, y :: u, k + 1, v, h, hk => by
    simp at hk ⊢
    exact zle_at h.2 hk
theorem AW.weak {X : zX} {rc rs pc : Nat} {lv lv' : List (Option Value)} {st : List Value} {h : Hp} {Ko : Option Value → Hp → Prop} (hl : zle lv lv') (k : AW X rc rs pc lv' st h Ko) : AW X rc rs pc lv st h Ko := by
  intro H locs ls cells slots a1 a2 a3 a4 a5
  refine k H locs ls cells slots a1 a2 ⟨(zle_len hl).symm.trans a3.1, a3.2.1, a3.2.2.1, fun q hq => a3.2.2.2 q ?_⟩ a4 a5
  obtain ⟨-, h2⟩ := zA_mem.mp hq
  exact zA_mem.mpr ⟨Nat.zero_le _, zle_at hl h2⟩
/-- a text read: its steps; 0..8 tests (3 times what, and how), 9 not, 10 and, 11 or, 12 swell, 13 ebb, 14 wave; each with a number -/
abbrev pP : Type := List (Nat × Nat)
def cd (s n : Nat) : Int32 := if s < 9 then nI (s / 3 + 8 * (s % 3) + 32 * n) else if s = 9 then -1 else if s = 10 then -2 else if s = 11 then -3 else if s = 12 then -10 - nI n else if s = 13 then -200 - nI n else -400 - nI n
def tst (x : Nat → Nat) (s n : Nat) : Bool := if s % 3 = 0 then decide (x (s / 3) < n) else if s % 3 = 1 then decide (x (s / 3) = n) else decide (n < x (s / 3))
def ev (x : Nat → Nat) : pP → List Bool → Int32 → Int32 → Int32 × Int32
  | [], _, sw, wv => (sw, wv)
  | (s, n) :: Q, st, sw, wv =>
    if s < 9 then ev x Q (tst x s n :: st) sw wv
    else if s = 9 then ev x Q ((!st.headD false) :: st.tail) sw wv
    else if s = 10 then ev x Q ((st.tail.headD false && st.headD false) :: st.tail.tail) sw wv
    else if s = 11 then ev x Q ((st.tail.headD false || st.headD false) :: st.tail.tail) sw wv
    else if s = 12 then ev x Q [] (sw + if st.headD false then nI n else 0) wv
    else if s = 13 then ev x Q [] (sw + if st.headD false then -nI n else 0) wv
    else ev x Q [] sw (wv + if st.headD false then nI n else 0)
def wfp : Nat → pP → Prop
  | _, [] => True
  | t, (s, n) :: Q => n ≤ 99 ∧ s ≤ 14 ∧ (s < 9 → t < 30 ∧ wfp (t + 1) Q) ∧ (s = 9 → 1 ≤ t ∧ wfp t Q) ∧ (s = 10 ∨ s = 11 → 2 ≤ t ∧ wfp (t - 1) Q) ∧ (12 ≤ s → t = 1 ∧ wfp 0 Q)
def hx (hr : Nat) : Nat → Nat := fun k => if k = 0 then hr % 12 else if k = 1 then hr / 12 % 14 else hr % 5
def b2 (b : Bool) : Int32 := if b then 1 else 0
theorem b2_01 (b : Bool) : b2 b = 0 ∨ b2 b = 1 := by cases b <;> simp [b2]
theorem cd12 : ∀ n, n < 100 → (-10 - nI n : Int32).toInt = -10 - n ∧ -10 - (-10 - nI n) = nI n := by decide
theorem cd13 : ∀ n, n < 100 → (-200 - nI n : Int32).toInt = -200 - n ∧ (-200 - nI n) - (-200) = -nI n := by decide
theorem cd14 : ∀ n, n < 100 → (-400 - nI n : Int32).toInt = -400 - n ∧ -400 - (-400 - nI n) = nI n := by decide
theorem upd_121 {F : Nat → Int32} {a b c : Int32} : upd (upd (upd F 11 a) 12 b) 11 c = upd (upd F 11 c) 12 b := by
  funext j
  unfold upd
  by_cases h : j = 12
  · simp [h]
  · by_cases h2 : j = 11 <;> simp [h, h2]
theorem mup_343 {A : Nat → Nat → Int32} {f f' k : Nat → Int32} : mup (mup (mup A 3 f) 4 k) 3 f' = mup (mup A 3 f') 4 k := by
  funext j
  unfold mup
  by_cases h : j = 4
  · simp [h]
  · by_cases h2 : j = 3 <;> simp [h, h2]
/-- the stack in the reference's row of truths -/
def tru (tr : Nat → Int32) (st : List Bool) : Prop := ∀ k, k < st.length → tr (st.length - 1 - k) = b2 (st.getD k false)
theorem tru_push {tr : Nat → Int32} {st : List Bool} (h : tru tr st) (b : Bool) : tru (upd tr st.length (b2 b)) (b :: st) := by
  intro k hk
  cases k with
  | zero => simp [upd]
  | succ k =>
    simp at hk
    have h1 := h k hk
    simp only [List.length_cons]
    rw [show st.length + 1 - 1 - (k + 1) = st.length - 1 - k by omega, upd_n (by omega), h1]
    rfl
theorem tru_top {tr : Nat → Int32} {b : Bool} {st : List Bool} (h : tru tr (b :: st)) : tr st.length = b2 b := by
  have := h 0 (by simp)
  simpa using this
theorem tru_pop {tr : Nat → Int32} {b : Bool} {st : List Bool} (h : tru tr (b :: st)) : tru tr st := by
  intro k hk
  have := h (k + 1) (by simp; omega)
  simp only [List.length_cons] at this
  rw [show st.length + 1 - 1 - (k + 1) = st.length - 1 - k by omega] at this
  exact this
theorem tru_set {tr : Nat → Int32} {b c : Bool} {st : List Bool} (h : tru tr (b :: st)) : tru (upd tr st.length (b2 c)) (c :: st) := tru_push (tru_pop h) c
/-- program number c in the reference's row -/
def pAt (S : Nat → Int32) (c : Nat) (Q : pP) : Prop := c < 5 ∧ Q.length ≤ 140 ∧ S (194 + c) = nI Q.length ∧ ∀ i (h : i < Q.length), S (199 + 140 * c + i) = cd Q[i].1 Q[i].2
end
section
theorem b2t {p : Prop} [Decidable p] (h : p) : b2 (decide p) = 1 := by simp [b2, h]
theorem b2f {p : Prop} [Decidable p] (h : ¬ p) : b2 (decide p) = 0 := by simp [b2, h]
def evL (hr : Nat) (Q : pP) : Int32 × Int32 := ev (hx hr) Q [] 0 0
def p10 (w : Int32) : Int32 := if w ≤ 10 then w else 10
def hold (S : Nat → Int32) (Q : pP) : Prop := (S 7 = -1 ∧ Q = []) ∨ ∃ c, S 7 = nI c ∧ pAt S c Q
def mlook (g : zG) (h : Hp) (m : Nat) (F : Nat → Int32) (A : Nat → Nat → Int32) (e : Int32 × Int32) : Hp → Prop := fun h' => ∃ f3 f4, h' = hM g h m (upd (upd F 11 e.1) 12 (p10 e.2)) (mup (mup A 3 f3) 4 f4)
def LL (m : Nat) (a1 a2 a3 t i : Int32) : List (Option Value) := [some (.ref m), some (.int a1), some (.int a2), some (.int a3), some (.int t), some (.int i), none, none, none, none]
theorem dX12_looks_0 : decode cX12_looks 0 = .ok (.aload_n 0, 1) := by decide +kernel
theorem dX12_looks_1 : decode cX12_looks 1 = .ok (.getfield 18, 3) := by decide +kernel
theorem dX12_looks_4 : decode cX12_looks 4 = .ok (.iconst 0, 1) := by decide +kernel
theorem dX12_looks_5 : decode cX12_looks 5 = .ok (.iload_n 1, 1) := by decide +kernel
theorem dX12_looks_6 : decode cX12_looks 6 = .ok (.bipush 12, 2) := by decide +kernel
theorem dX12_looks_8 : decode cX12_looks 8 = .ok (.irem, 1) := by decide +kernel
theorem dX12_looks_9 : decode cX12_looks 9 = .ok (.iastore, 1) := by decide +kernel
theorem dX12_looks_10 : decode cX12_looks 10 = .ok (.aload_n 0, 1) := by decide +kernel
theorem dX12_looks_11 : decode cX12_looks 11 = .ok (.getfield 18, 3) := by decide +kernel
theorem dX12_looks_14 : decode cX12_looks 14 = .ok (.iconst 1, 1) := by decide +kernel
theorem dX12_looks_15 : decode cX12_looks 15 = .ok (.iload_n 1, 1) := by decide +kernel
theorem dX12_looks_16 : decode cX12_looks 16 = .ok (.bipush 12, 2) := by decide +kernel
theorem dX12_looks_18 : decode cX12_looks 18 = .ok (.idiv, 1) := by decide +kernel
theorem dX12_looks_19 : decode cX12_looks 19 = .ok (.bipush 14, 2) := by decide +kernel
theorem dX12_looks_21 : decode cX12_looks 21 = .ok (.irem, 1) := by decide +kernel
theorem dX12_looks_22 : decode cX12_looks 22 = .ok (.iastore, 1) := by decide +kernel
theorem dX12_looks_23 : decode cX12_looks 23 = .ok (.aload_n 0, 1) := by decide +kernel
theorem dX12_looks_24 : decode cX12_looks 24 = .ok (.getfield 18, 3) := by decide +kernel
theorem dX12_looks_27 : decode cX12_looks 27 = .ok (.iconst 2, 1) := by decide +kernel
theorem dX12_looks_28 : decode cX12_looks 28 = .ok (.iload_n 1, 1) := by decide +kernel
theorem dX12_looks_29 : decode cX12_looks 29 = .ok (.iconst 5, 1) := by decide +kernel
theorem dX12_looks_30 : decode cX12_looks 30 = .ok (.irem, 1) := by decide +kernel
theorem dX12_looks_31 : decode cX12_looks 31 = .ok (.iastore, 1) := by decide +kernel
theorem dX12_looks_32 : decode cX12_looks 32 = .ok (.aload_n 0, 1) := by decide +kernel
theorem dX12_looks_33 : decode cX12_looks 33 = .ok (.iconst 0, 1) := by decide +kernel
theorem dX12_looks_34 : decode cX12_looks 34 = .ok (.putfield 121, 3) := by decide +kernel
theorem dX12_looks_37 : decode cX12_looks 37 = .ok (.aload_n 0, 1) := by decide +kernel
theorem dX12_looks_38 : decode cX12_looks 38 = .ok (.iconst 0, 1) := by decide +kernel
theorem dX12_looks_39 : decode cX12_looks 39 = .ok (.putfield 124, 3) := by decide +kernel
theorem dX12_looks_42 : decode cX12_looks 42 = .ok (.aload_n 0, 1) := by decide +kernel
theorem dX12_looks_43 : decode cX12_looks 43 = .ok (.getfield 9, 3) := by decide +kernel
theorem dX12_looks_46 : decode cX12_looks 46 = .ok (.bipush 7, 2) := by decide +kernel
theorem dX12_looks_48 : decode cX12_looks 48 = .ok (.iaload, 1) := by decide +kernel
theorem dX12_looks_49 : decode cX12_looks 49 = .ok (.iconst (-1), 1) := by decide +kernel
theorem dX12_looks_50 : decode cX12_looks 50 = .ok (.if_icmp .ne 7, 3) := by decide +kernel
theorem dX12_looks_53 : decode cX12_looks 53 = .ok (.iconst 0, 1) := by decide +kernel
theorem dX12_looks_54 : decode cX12_looks 54 = .ok (.goto 19, 3) := by decide +kernel
theorem dX12_looks_57 : decode cX12_looks 57 = .ok (.aload_n 0, 1) := by decide +kernel
theorem dX12_looks_58 : decode cX12_looks 58 = .ok (.getfield 9, 3) := by decide +kernel
theorem dX12_looks_61 : decode cX12_looks 61 = .ok (.sipush 194, 3) := by decide +kernel
theorem dX12_looks_64 : decode cX12_looks 64 = .ok (.aload_n 0, 1) := by decide +kernel
theorem dX12_looks_65 : decode cX12_looks 65 = .ok (.getfield 9, 3) := by decide +kernel
theorem dX12_looks_68 : decode cX12_looks 68 = .ok (.bipush 7, 2) := by decide +kernel
theorem dX12_looks_70 : decode cX12_looks 70 = .ok (.iaload, 1) := by decide +kernel
theorem dX12_looks_71 : decode cX12_looks 71 = .ok (.iadd, 1) := by decide +kernel
theorem dX12_looks_72 : decode cX12_looks 72 = .ok (.iaload, 1) := by decide +kernel
theorem dX12_looks_73 : decode cX12_looks 73 = .ok (.istore_n 2, 1) := by decide +kernel
theorem dX12_looks_74 : decode cX12_looks 74 = .ok (.sipush 199, 3) := by decide +kernel
theorem dX12_looks_77 : decode cX12_looks 77 = .ok (.sipush 140, 3) := by decide +kernel
theorem dX12_looks_80 : decode cX12_looks 80 = .ok (.aload_n 0, 1) := by decide +kernel
theorem dX12_looks_81 : decode cX12_looks 81 = .ok (.getfield 9, 3) := by decide +kernel
theorem dX12_looks_84 : decode cX12_looks 84 = .ok (.bipush 7, 2) := by decide +kernel
theorem dX12_looks_86 : decode cX12_looks 86 = .ok (.iaload, 1) := by decide +kernel
theorem dX12_looks_87 : decode cX12_looks 87 = .ok (.imul, 1) := by decide +kernel
theorem dX12_looks_88 : decode cX12_looks 88 = .ok (.iadd, 1) := by decide +kernel
theorem dX12_looks_89 : decode cX12_looks 89 = .ok (.istore_n 3, 1) := by decide +kernel
theorem dX12_looks_90 : decode cX12_looks 90 = .ok (.iconst 0, 1) := by decide +kernel
theorem dX12_looks_91 : decode cX12_looks 91 = .ok (.istore 4, 2) := by decide +kernel
theorem dX12_looks_93 : decode cX12_looks 93 = .ok (.iload_n 3, 1) := by decide +kernel
theorem dX12_looks_94 : decode cX12_looks 94 = .ok (.istore 5, 2) := by decide +kernel
theorem dX12_looks_96 : decode cX12_looks 96 = .ok (.iload 5, 2) := by decide +kernel
theorem dX12_looks_98 : decode cX12_looks 98 = .ok (.iload_n 3, 1) := by decide +kernel
theorem dX12_looks_99 : decode cX12_looks 99 = .ok (.iload_n 2, 1) := by decide +kernel
theorem dX12_looks_100 : decode cX12_looks 100 = .ok (.iadd, 1) := by decide +kernel
theorem dX12_looks_101 : decode cX12_looks 101 = .ok (.if_icmp .ge 329, 3) := by decide +kernel
theorem dX12_looks_104 : decode cX12_looks 104 = .ok (.aload_n 0, 1) := by decide +kernel
theorem dX12_looks_105 : decode cX12_looks 105 = .ok (.getfield 9, 3) := by decide +kernel
theorem dX12_looks_108 : decode cX12_looks 108 = .ok (.iload 5, 2) := by decide +kernel
theorem dX12_looks_110 : decode cX12_looks 110 = .ok (.iaload, 1) := by decide +kernel
theorem dX12_looks_111 : decode cX12_looks 111 = .ok (.istore 6, 2) := by decide +kernel
theorem dX12_looks_113 : decode cX12_looks 113 = .ok (.iload 6, 2) := by decide +kernel
theorem dX12_looks_115 : decode cX12_looks 115 = .ok (.ifCond .lt 97, 3) := by decide +kernel
theorem dX12_looks_118 : decode cX12_looks 118 = .ok (.aload_n 0, 1) := by decide +kernel
theorem dX12_looks_119 : decode cX12_looks 119 = .ok (.getfield 18, 3) := by decide +kernel
theorem dX12_looks_122 : decode cX12_looks 122 = .ok (.iload 6, 2) := by decide +kernel
theorem dX12_looks_124 : decode cX12_looks 124 = .ok (.bipush 8, 2) := by decide +kernel
theorem dX12_looks_126 : decode cX12_looks 126 = .ok (.irem, 1) := by decide +kernel
theorem dX12_looks_127 : decode cX12_looks 127 = .ok (.iaload, 1) := by decide +kernel
theorem dX12_looks_128 : decode cX12_looks 128 = .ok (.istore 7, 2) := by decide +kernel
theorem dX12_looks_130 : decode cX12_looks 130 = .ok (.iload 6, 2) := by decide +kernel
theorem dX12_looks_132 : decode cX12_looks 132 = .ok (.bipush 8, 2) := by decide +kernel
theorem dX12_looks_134 : decode cX12_looks 134 = .ok (.idiv, 1) := by decide +kernel
theorem dX12_looks_135 : decode cX12_looks 135 = .ok (.iconst 4, 1) := by decide +kernel
theorem dX12_looks_136 : decode cX12_looks 136 = .ok (.irem, 1) := by decide +kernel
theorem dX12_looks_137 : decode cX12_looks 137 = .ok (.istore 8, 2) := by decide +kernel
theorem dX12_looks_139 : decode cX12_looks 139 = .ok (.iload 6, 2) := by decide +kernel
theorem dX12_looks_141 : decode cX12_looks 141 = .ok (.bipush 32, 2) := by decide +kernel
theorem dX12_looks_143 : decode cX12_looks 143 = .ok (.idiv, 1) := by decide +kernel
theorem dX12_looks_144 : decode cX12_looks 144 = .ok (.istore 9, 2) := by decide +kernel
theorem dX12_looks_146 : decode cX12_looks 146 = .ok (.aload_n 0, 1) := by decide +kernel
theorem dX12_looks_147 : decode cX12_looks 147 = .ok (.getfield 21, 3) := by decide +kernel
theorem dX12_looks_150 : decode cX12_looks 150 = .ok (.iload 4, 2) := by decide +kernel
theorem dX12_looks_152 : decode cX12_looks 152 = .ok (.iload 8, 2) := by decide +kernel
theorem dX12_looks_154 : decode cX12_looks 154 = .ok (.ifCond .ne 18, 3) := by decide +kernel
theorem dX12_looks_157 : decode cX12_looks 157 = .ok (.iload 7, 2) := by decide +kernel
theorem dX12_looks_159 : decode cX12_looks 159 = .ok (.iload 9, 2) := by decide +kernel
theorem dX12_looks_161 : decode cX12_looks 161 = .ok (.if_icmp .ge 7, 3) := by decide +kernel
theorem dX12_looks_164 : decode cX12_looks 164 = .ok (.iconst 1, 1) := by decide +kernel
theorem dX12_looks_165 : decode cX12_looks 165 = .ok (.goto 40, 3) := by decide +kernel
theorem dX12_looks_168 : decode cX12_looks 168 = .ok (.iconst 0, 1) := by decide +kernel
theorem dX12_looks_169 : decode cX12_looks 169 = .ok (.goto 36, 3) := by decide +kernel
theorem dX12_looks_172 : decode cX12_looks 172 = .ok (.iload 8, 2) := by decide +kernel
theorem dX12_looks_174 : decode cX12_looks 174 = .ok (.iconst 1, 1) := by decide +kernel
theorem dX12_looks_175 : decode cX12_looks 175 = .ok (.if_icmp .ne 18, 3) := by decide +kernel
theorem dX12_looks_178 : decode cX12_looks 178 = .ok (.iload 7, 2) := by decide +kernel
theorem dX12_looks_180 : decode cX12_looks 180 = .ok (.iload 9, 2) := by decide +kernel
theorem dX12_looks_182 : decode cX12_looks 182 = .ok (.if_icmp .ne 7, 3) := by decide +kernel
theorem dX12_looks_185 : decode cX12_looks 185 = .ok (.iconst 1, 1) := by decide +kernel
theorem dX12_looks_186 : decode cX12_looks 186 = .ok (.goto 19, 3) := by decide +kernel
theorem dX12_looks_189 : decode cX12_looks 189 = .ok (.iconst 0, 1) := by decide +kernel
theorem dX12_looks_190 : decode cX12_looks 190 = .ok (.goto 15, 3) := by decide +kernel
theorem dX12_looks_193 : decode cX12_looks 193 = .ok (.iload 7, 2) := by decide +kernel
theorem dX12_looks_195 : decode cX12_looks 195 = .ok (.iload 9, 2) := by decide +kernel
theorem dX12_looks_197 : decode cX12_looks 197 = .ok (.if_icmp .le 7, 3) := by decide +kernel
theorem dX12_looks_200 : decode cX12_looks 200 = .ok (.iconst 1, 1) := by decide +kernel
theorem dX12_looks_201 : decode cX12_looks 201 = .ok (.goto 4, 3) := by decide +kernel
theorem dX12_looks_204 : decode cX12_looks 204 = .ok (.iconst 0, 1) := by decide +kernel
theorem dX12_looks_205 : decode cX12_looks 205 = .ok (.bastore, 1) := by decide +kernel
theorem dX12_looks_206 : decode cX12_looks 206 = .ok (.iinc 4 1, 3) := by decide +kernel
theorem dX12_looks_209 : decode cX12_looks 209 = .ok (.goto 215, 3) := by decide +kernel
theorem dX12_looks_212 : decode cX12_looks 212 = .ok (.iload 6, 2) := by decide +kernel
theorem dX12_looks_214 : decode cX12_looks 214 = .ok (.iconst (-1), 1) := by decide +kernel
theorem dX12_looks_215 : decode cX12_looks 215 = .ok (.if_icmp .ne 32, 3) := by decide +kernel
theorem dX12_looks_218 : decode cX12_looks 218 = .ok (.aload_n 0, 1) := by decide +kernel
theorem dX12_looks_219 : decode cX12_looks 219 = .ok (.getfield 21, 3) := by decide +kernel
theorem dX12_looks_222 : decode cX12_looks 222 = .ok (.iload 4, 2) := by decide +kernel
theorem dX12_looks_224 : decode cX12_looks 224 = .ok (.iconst 1, 1) := by decide +kernel
theorem dX12_looks_225 : decode cX12_looks 225 = .ok (.isub, 1) := by decide +kernel
theorem dX12_looks_226 : decode cX12_looks 226 = .ok (.aload_n 0, 1) := by decide +kernel
theorem dX12_looks_227 : decode cX12_looks 227 = .ok (.getfield 21, 3) := by decide +kernel
theorem dX12_looks_230 : decode cX12_looks 230 = .ok (.iload 4, 2) := by decide +kernel
theorem dX12_looks_232 : decode cX12_looks 232 = .ok (.iconst 1, 1) := by decide +kernel
theorem dX12_looks_233 : decode cX12_looks 233 = .ok (.isub, 1) := by decide +kernel
theorem dX12_looks_234 : decode cX12_looks 234 = .ok (.baload, 1) := by decide +kernel
theorem dX12_looks_235 : decode cX12_looks 235 = .ok (.ifCond .ne 7, 3) := by decide +kernel
theorem dX12_looks_238 : decode cX12_looks 238 = .ok (.iconst 1, 1) := by decide +kernel
theorem dX12_looks_239 : decode cX12_looks 239 = .ok (.goto 4, 3) := by decide +kernel
theorem dX12_looks_242 : decode cX12_looks 242 = .ok (.iconst 0, 1) := by decide +kernel
theorem dX12_looks_243 : decode cX12_looks 243 = .ok (.bastore, 1) := by decide +kernel
theorem dX12_looks_244 : decode cX12_looks 244 = .ok (.goto 180, 3) := by decide +kernel
theorem dX12_looks_247 : decode cX12_looks 247 = .ok (.iload 6, 2) := by decide +kernel
theorem dX12_looks_249 : decode cX12_looks 249 = .ok (.bipush (-10), 2) := by decide +kernel
theorem dX12_looks_251 : decode cX12_looks 251 = .ok (.if_icmp .le 82, 3) := by decide +kernel
theorem dX12_looks_254 : decode cX12_looks 254 = .ok (.iinc 4 (-1), 3) := by decide +kernel
theorem dX12_looks_257 : decode cX12_looks 257 = .ok (.aload_n 0, 1) := by decide +kernel
theorem dX12_looks_258 : decode cX12_looks 258 = .ok (.getfield 21, 3) := by decide +kernel
theorem dX12_looks_261 : decode cX12_looks 261 = .ok (.iload 4, 2) := by decide +kernel
theorem dX12_looks_263 : decode cX12_looks 263 = .ok (.iconst 1, 1) := by decide +kernel
theorem dX12_looks_264 : decode cX12_looks 264 = .ok (.isub, 1) := by decide +kernel
theorem dX12_looks_265 : decode cX12_looks 265 = .ok (.iload 6, 2) := by decide +kernel
theorem dX12_looks_267 : decode cX12_looks 267 = .ok (.bipush (-2), 2) := by decide +kernel
theorem dX12_looks_269 : decode cX12_looks 269 = .ok (.if_icmp .ne 33, 3) := by decide +kernel
theorem dX12_looks_272 : decode cX12_looks 272 = .ok (.aload_n 0, 1) := by decide +kernel
theorem dX12_looks_273 : decode cX12_looks 273 = .ok (.getfield 21, 3) := by decide +kernel
theorem dX12_looks_276 : decode cX12_looks 276 = .ok (.iload 4, 2) := by decide +kernel
theorem dX12_looks_278 : decode cX12_looks 278 = .ok (.iconst 1, 1) := by decide +kernel
theorem dX12_looks_279 : decode cX12_looks 279 = .ok (.isub, 1) := by decide +kernel
theorem dX12_looks_280 : decode cX12_looks 280 = .ok (.baload, 1) := by decide +kernel
theorem dX12_looks_281 : decode cX12_looks 281 = .ok (.ifCond .eq 17, 3) := by decide +kernel
theorem dX12_looks_284 : decode cX12_looks 284 = .ok (.aload_n 0, 1) := by decide +kernel
theorem dX12_looks_285 : decode cX12_looks 285 = .ok (.getfield 21, 3) := by decide +kernel
theorem dX12_looks_288 : decode cX12_looks 288 = .ok (.iload 4, 2) := by decide +kernel
theorem dX12_looks_290 : decode cX12_looks 290 = .ok (.baload, 1) := by decide +kernel
theorem dX12_looks_291 : decode cX12_looks 291 = .ok (.ifCond .eq 7, 3) := by decide +kernel
theorem dX12_looks_294 : decode cX12_looks 294 = .ok (.iconst 1, 1) := by decide +kernel
theorem dX12_looks_295 : decode cX12_looks 295 = .ok (.goto 34, 3) := by decide +kernel
theorem dX12_looks_298 : decode cX12_looks 298 = .ok (.iconst 0, 1) := by decide +kernel
theorem dX12_looks_299 : decode cX12_looks 299 = .ok (.goto 30, 3) := by decide +kernel
theorem dX12_looks_302 : decode cX12_looks 302 = .ok (.aload_n 0, 1) := by decide +kernel
theorem dX12_looks_303 : decode cX12_looks 303 = .ok (.getfield 21, 3) := by decide +kernel
theorem dX12_looks_306 : decode cX12_looks 306 = .ok (.iload 4, 2) := by decide +kernel
theorem dX12_looks_308 : decode cX12_looks 308 = .ok (.iconst 1, 1) := by decide +kernel
theorem dX12_looks_309 : decode cX12_looks 309 = .ok (.isub, 1) := by decide +kernel
theorem dX12_looks_310 : decode cX12_looks 310 = .ok (.baload, 1) := by decide +kernel
theorem dX12_looks_311 : decode cX12_looks 311 = .ok (.ifCond .ne 13, 3) := by decide +kernel
theorem dX12_looks_314 : decode cX12_looks 314 = .ok (.aload_n 0, 1) := by decide +kernel
theorem dX12_looks_315 : decode cX12_looks 315 = .ok (.getfield 21, 3) := by decide +kernel
theorem dX12_looks_318 : decode cX12_looks 318 = .ok (.iload 4, 2) := by decide +kernel
theorem dX12_looks_320 : decode cX12_looks 320 = .ok (.baload, 1) := by decide +kernel
theorem dX12_looks_321 : decode cX12_looks 321 = .ok (.ifCond .eq 7, 3) := by decide +kernel
theorem dX12_looks_324 : decode cX12_looks 324 = .ok (.iconst 1, 1) := by decide +kernel
theorem dX12_looks_325 : decode cX12_looks 325 = .ok (.goto 4, 3) := by decide +kernel
theorem dX12_looks_328 : decode cX12_looks 328 = .ok (.iconst 0, 1) := by decide +kernel
theorem dX12_looks_329 : decode cX12_looks 329 = .ok (.bastore, 1) := by decide +kernel
theorem dX12_looks_330 : decode cX12_looks 330 = .ok (.goto 94, 3) := by decide +kernel
theorem dX12_looks_333 : decode cX12_looks 333 = .ok (.iconst 0, 1) := by decide +kernel
theorem dX12_looks_334 : decode cX12_looks 334 = .ok (.istore 4, 2) := by decide +kernel
theorem dX12_looks_336 : decode cX12_looks 336 = .ok (.aload_n 0, 1) := by decide +kernel
theorem dX12_looks_337 : decode cX12_looks 337 = .ok (.getfield 21, 3) := by decide +kernel
theorem dX12_looks_340 : decode cX12_looks 340 = .ok (.iconst 0, 1) := by decide +kernel
theorem dX12_looks_341 : decode cX12_looks 341 = .ok (.baload, 1) := by decide +kernel
theorem dX12_looks_342 : decode cX12_looks 342 = .ok (.istore 7, 2) := by decide +kernel
theorem dX12_looks_344 : decode cX12_looks 344 = .ok (.aload_n 0, 1) := by decide +kernel
theorem dX12_looks_345 : decode cX12_looks 345 = .ok (.dup, 1) := by decide +kernel
theorem dX12_looks_346 : decode cX12_looks 346 = .ok (.getfield 121, 3) := by decide +kernel
theorem dX12_looks_349 : decode cX12_looks 349 = .ok (.iload 7, 2) := by decide +kernel
theorem dX12_looks_351 : decode cX12_looks 351 = .ok (.ifCond .eq 11, 3) := by decide +kernel
theorem dX12_looks_354 : decode cX12_looks 354 = .ok (.iload 6, 2) := by decide +kernel
theorem dX12_looks_356 : decode cX12_looks 356 = .ok (.sipush (-400), 3) := by decide +kernel
theorem dX12_looks_359 : decode cX12_looks 359 = .ok (.if_icmp .gt 7, 3) := by decide +kernel
theorem dX12_looks_362 : decode cX12_looks 362 = .ok (.iconst 0, 1) := by decide +kernel
theorem dX12_looks_363 : decode cX12_looks 363 = .ok (.goto 25, 3) := by decide +kernel
theorem dX12_looks_366 : decode cX12_looks 366 = .ok (.iload 6, 2) := by decide +kernel
theorem dX12_looks_368 : decode cX12_looks 368 = .ok (.sipush (-200), 3) := by decide +kernel
theorem dX12_looks_371 : decode cX12_looks 371 = .ok (.if_icmp .le 11, 3) := by decide +kernel
theorem dX12_looks_374 : decode cX12_looks 374 = .ok (.bipush (-10), 2) := by decide +kernel
theorem dX12_looks_376 : decode cX12_looks 376 = .ok (.iload 6, 2) := by decide +kernel
theorem dX12_looks_378 : decode cX12_looks 378 = .ok (.isub, 1) := by decide +kernel
theorem dX12_looks_379 : decode cX12_looks 379 = .ok (.goto 9, 3) := by decide +kernel
theorem dX12_looks_382 : decode cX12_looks 382 = .ok (.iload 6, 2) := by decide +kernel
theorem dX12_looks_384 : decode cX12_looks 384 = .ok (.sipush (-200), 3) := by decide +kernel
theorem dX12_looks_387 : decode cX12_looks 387 = .ok (.isub, 1) := by decide +kernel
theorem dX12_looks_388 : decode cX12_looks 388 = .ok (.iadd, 1) := by decide +kernel
theorem dX12_looks_389 : decode cX12_looks 389 = .ok (.putfield 121, 3) := by decide +kernel
theorem dX12_looks_392 : decode cX12_looks 392 = .ok (.aload_n 0, 1) := by decide +kernel
theorem dX12_looks_393 : decode cX12_looks 393 = .ok (.dup, 1) := by decide +kernel
theorem dX12_looks_394 : decode cX12_looks 394 = .ok (.getfield 124, 3) := by decide +kernel
theorem dX12_looks_397 : decode cX12_looks 397 = .ok (.iload 7, 2) := by decide +kernel
theorem dX12_looks_399 : decode cX12_looks 399 = .ok (.ifCond .eq 20, 3) := by decide +kernel
theorem dX12_looks_402 : decode cX12_looks 402 = .ok (.iload 6, 2) := by decide +kernel
theorem dX12_looks_404 : decode cX12_looks 404 = .ok (.sipush (-400), 3) := by decide +kernel
theorem dX12_looks_407 : decode cX12_looks 407 = .ok (.if_icmp .gt 12, 3) := by decide +kernel
theorem dX12_looks_410 : decode cX12_looks 410 = .ok (.sipush (-400), 3) := by decide +kernel
theorem dX12_looks_413 : decode cX12_looks 413 = .ok (.iload 6, 2) := by decide +kernel
theorem dX12_looks_415 : decode cX12_looks 415 = .ok (.isub, 1) := by decide +kernel
theorem dX12_looks_416 : decode cX12_looks 416 = .ok (.goto 4, 3) := by decide +kernel
theorem dX12_looks_419 : decode cX12_looks 419 = .ok (.iconst 0, 1) := by decide +kernel
theorem dX12_looks_420 : decode cX12_looks 420 = .ok (.iadd, 1) := by decide +kernel
theorem dX12_looks_421 : decode cX12_looks 421 = .ok (.putfield 124, 3) := by decide +kernel
theorem dX12_looks_424 : decode cX12_looks 424 = .ok (.iinc 5 1, 3) := by decide +kernel
theorem dX12_looks_427 : decode cX12_looks 427 = .ok (.goto (-331), 3) := by decide +kernel
theorem dX12_looks_430 : decode cX12_looks 430 = .ok (.aload_n 0, 1) := by decide +kernel
theorem dX12_looks_431 : decode cX12_looks 431 = .ok (.aload_n 0, 1) := by decide +kernel
theorem dX12_looks_432 : decode cX12_looks 432 = .ok (.getfield 124, 3) := by decide +kernel
theorem dX12_looks_435 : decode cX12_looks 435 = .ok (.bipush 10, 2) := by decide +kernel
theorem dX12_looks_437 : decode cX12_looks 437 = .ok (.if_icmp .le 8, 3) := by decide +kernel
theorem dX12_looks_440 : decode cX12_looks 440 = .ok (.bipush 10, 2) := by decide +kernel
theorem dX12_looks_442 : decode cX12_looks 442 = .ok (.goto 7, 3) := by decide +kernel
theorem dX12_looks_445 : decode cX12_looks 445 = .ok (.aload_n 0, 1) := by decide +kernel
theorem dX12_looks_446 : decode cX12_looks 446 = .ok (.getfield 124, 3) := by decide +kernel
theorem dX12_looks_449 : decode cX12_looks 449 = .ok (.putfield 124, 3) := by decide +kernel
theorem dX12_looks_452 : decode cX12_looks 452 = .ok (.return_, 1) := by decide +kernel
set_option maxRecDepth 100000 in
set_option maxHeartbeats 4000000 in
theorem looks_test {X : zX} {Ko : Option Value → Hp → Prop} {h : Hp} {m : Nat} {F : Nat → Int32} {A : Nat → Nat → Int32} {a1 a2 a3 i5 : Int32} (B : zB X cX12_looks 10 yX12_looks.cls yX12_looks.name none) {s n t : Nat} {x : Nat → Nat} (hx3 : ∀ k, k < 3 → A 3 k = nI (x k)) (hxb : ∀ k, k < 3 → x k < 2 ^ 30) (hs9 : s < 9) (hn : n ≤ 99) (ht : t < 64) (k : AW X 0 0 96 (LL m a1 a2 a3 (nI (t + 1)) (i5 + 1)) [] (hM (zXg X) h m (F) (mup A 4 (upd (A 4) t (b2 (tst x s n))))) Ko) : AW X 0 0 111 (LL m a1 a2 a3 (nI t) i5) [.int (cd s n)] (hM (zXg X) h m F A) Ko := by
  unfold LL
  have ec : cd s n = nI (s / 3 + 8 * (s % 3) + 32 * n) := by unfold cd; rw [if_pos hs9]
  rw [ec]
  generalize hc0 : s / 3 + 8 * (s % 3) + 32 * n = c0
  have hcl : c0 < 5000 := by omega
  have e8 : nI c0 - nI c0 / 8 * 8 = nI (s / 3) := by
    rw [show nI c0 - nI c0 / 8 * 8 = nI (c0 % 8) from pk_rem (d := 8) (by omega) (by decide) (by decide)]
    congr 1; omega
  have e84 : nI c0 / 8 - nI c0 / 8 / 4 * 4 = nI (s % 3) := by
    rw [show nI c0 / 8 = nI (c0 / 8) from pk_div (d := 8) (by omega) (by decide) (by decide), show nI (c0 / 8) - nI (c0 / 8) / 4 * 4 = nI (c0 / 8 % 4) from pk_rem (d := 4) (by omega) (by decide) (by decide)]
    have k1 : c0 / 8 = s % 3 + 4 * n := by omega
    rw [k1]; congr 1; omega
  have e32 : nI c0 / 32 = nI n := by
    rw [show nI c0 / 32 = nI (c0 / 32) from pk_div (d := 32) (by omega) (by decide) (by decide)]
    congr 1; omega
  have hxb : x (s / 3) < 2 ^ 30 := hxb _ (by omega)
  have q0 : nI (s % 3) = 0 ↔ s % 3 = 0 := nI_eq (b := 0) (by omega) (by decide)
  have q1 : nI (s % 3) = 1 ↔ s % 3 = 1 := nI_eq (b := 1) (by omega) (by decide)
  have q2 : nI n ≤ nI (x (s / 3)) ↔ n ≤ x (s / 3) := nI_leI (by omega) (by omega)
  have q3 : nI (x (s / 3)) = nI n ↔ x (s / 3) = n := nI_eq (by omega) (by omega)
  have q4 : nI (x (s / 3)) ≤ nI n ↔ x (s / 3) ≤ n := nI_leI (by omega) (by omega)
  have t205 : AW X 0 0 205 [some (.ref m), some (.int a1), some (.int a2), some (.int a3), some (.int (nI t)), some (.int i5), some (.int (nI c0)), some (.int (nI (x (s / 3)))), some (.int (nI (s % 3))), some (.int (nI n))] [.int (b2 (tst x s n)), .int (nI t), .ref (m + 4)] (hM (zXg X) h m F A) Ko := by
    refine m_zst B (t) (b2_01 _) (rfl) (by omega) dX12_looks_205 ?_
    refine aw_iinc4 B 1 (by decide) dX12_looks_206 ?_
    refine aw_goto B 424 dX12_looks_209 ?_
    refine aw_iinc5 B 1 (by decide) dX12_looks_424 ?_
    refine aw_goto B 96 dX12_looks_427 ?_
    rw [nI_1]
    refine AW.weak ?_ k
    exact ⟨Or.inr rfl, Or.inr rfl, Or.inr rfl, Or.inr rfl, Or.inr rfl, Or.inr rfl, Or.inl rfl, Or.inl rfl, Or.inl rfl, Or.inl rfl, trivial⟩
  refine aw_istore6 B dX12_looks_111 ?_
  refine aw_iload B dX12_looks_113 rfl ?_
  refine aw_if_lt B 212 dX12_looks_115 (fun c115 => absurd c115 (by rw [Int32.not_lt]; exact nI_pos' (by omega))) (fun c115 => ?_)
  refine aw_aload_n B 0 rfl dX12_looks_118 rfl ?_
  refine m_get B f_X12_18 dX12_looks_119 (mg_9 _ _) ?_
  refine aw_iload B dX12_looks_122 rfl ?_
  refine aw_bipush B 8 (by decide) dX12_looks_124 ?_
  refine aw_irem B (by decide) dX12_looks_126 ?_
  rw [e8]
  refine m_ld B (s / 3) (rfl) (by show _ < 3; omega) dX12_looks_127 (by decide) ?_
  rw [hx3 (s / 3) (by omega)]
  refine aw_istore7 B dX12_looks_128 ?_
  refine aw_iload B dX12_looks_130 rfl ?_
  refine aw_bipush B 8 (by decide) dX12_looks_132 ?_
  refine aw_idiv B (by decide) dX12_looks_134 ?_
  refine aw_iconst B 4 (by decide) dX12_looks_135 ?_
  refine aw_irem B (by decide) dX12_looks_136 ?_
  rw [e84]
  refine aw_istore8 B dX12_looks_137 ?_
  refine aw_iload B dX12_looks_139 rfl ?_
  refine aw_bipush B 32 (by decide) dX12_looks_141 ?_
  refine aw_idiv B (by decide) dX12_looks_143 ?_
  rw [e32]
  refine aw_istore9 B dX12_looks_144 ?_
  refine aw_aload_n B 0 rfl dX12_looks_146 rfl ?_
  refine m_get B f_X12_21 dX12_looks_147 (mg_10 _ _) ?_
  refine aw_iload B dX12_looks_150 rfl ?_
  refine aw_iload B dX12_looks_152 rfl ?_
  refine aw_if_ne B 172 dX12_looks_154 (fun c154 => ?_) (fun c154 => ?_)
  · refine aw_iload B dX12_looks_172 rfl ?_
    refine aw_iconst B 1 (by decide) dX12_looks_174 ?_
    refine aw_icmp_ne B 193 dX12_looks_175 (fun c175 => ?_) (fun c175 => ?_)
    · refine aw_iload B dX12_looks_193 rfl ?_
      refine aw_iload B dX12_looks_195 rfl ?_
      refine aw_icmp_le B 204 dX12_looks_197 (fun c197 => ?_) (fun c197 => ?_)
      · refine aw_iconst B 0 (by decide) dX12_looks_204 ?_
        have hb : b2 (tst x s n) = 0 := by unfold tst; rw [if_neg (fun z => c154 (q0.mpr z)), if_neg (fun z => c175 (q1.mpr z)), b2f (Nat.not_lt.mpr (q4.mp c197))]
        rw [hb] at t205
        exact t205
      · refine aw_iconst B 1 (by decide) dX12_looks_200 ?_
        refine aw_goto B 205 dX12_looks_201 ?_
        have hb : b2 (tst x s n) = 1 := by unfold tst; rw [if_neg (fun z => c154 (q0.mpr z)), if_neg (fun z => c175 (q1.mpr z)), b2t (Nat.not_le.mp (fun z => c197 (q4.mpr z)))]
        rw [hb] at t205
        exact t205
    · refine aw_iload B dX12_looks_178 rfl ?_
      refine aw_iload B dX12_looks_180 rfl ?_
      refine aw_icmp_ne B 189 dX12_looks_182 (fun c182 => ?_) (fun c182 => ?_)
      · refine aw_iconst B 0 (by decide) dX12_looks_189 ?_
        refine aw_goto B 205 dX12_looks_190 ?_
        have hb : b2 (tst x s n) = 0 := by unfold tst; rw [if_neg (fun z => c154 (q0.mpr z)), if_pos (q1.mp c175), b2f (fun z => c182 (q3.mpr z))]
        rw [hb] at t205
        exact t205
      · refine aw_iconst B 1 (by decide) dX12_looks_185 ?_
        refine aw_goto B 205 dX12_looks_186 ?_
        have hb : b2 (tst x s n) = 1 := by unfold tst; rw [if_neg (fun z => c154 (q0.mpr z)), if_pos (q1.mp c175), b2t (q3.mp c182)]
        rw [hb] at t205
        exact t205
  · refine aw_iload B dX12_looks_157 rfl ?_
    refine aw_iload B dX12_looks_159 rfl ?_
    refine aw_icmp_ge B 168 dX12_looks_161 (fun c161 => ?_) (fun c161 => ?_)
    · refine aw_iconst B 0 (by decide) dX12_looks_168 ?_
      refine aw_goto B 205 dX12_looks_169 ?_
      have hb : b2 (tst x s n) = 0 := by unfold tst; rw [if_pos (q0.mp c154), b2f (Nat.not_lt.mpr (q2.mp c161))]
      rw [hb] at t205
      exact t205
    · refine aw_iconst B 1 (by decide) dX12_looks_164 ?_
      refine aw_goto B 205 dX12_looks_165 ?_
      have hb : b2 (tst x s n) = 1 := by unfold tst; rw [if_pos (q0.mp c154), b2t (Nat.not_le.mp (fun z => c161 (q2.mpr z)))]
      rw [hb] at t205
      exact t205
set_option maxRecDepth 100000 in
set_option maxHeartbeats 4000000 in
theorem looks_not {X : zX} {Ko : Option Value → Hp → Prop} {h : Hp} {m : Nat} {F : Nat → Int32} {A : Nat → Nat → Int32} {a1 a2 a3 i5 : Int32} (B : zB X cX12_looks 10 yX12_looks.cls yX12_looks.name none) {t : Nat} {b : Bool} (e4 : A 4 t = b2 b) (ht : t < 64) (k : AW X 0 0 96 (LL m a1 a2 a3 (nI (t + 1)) (i5 + 1)) [] (hM (zXg X) h m (F) (mup A 4 (upd (A 4) t (b2 (!b))))) Ko) : AW X 0 0 111 (LL m a1 a2 a3 (nI (t + 1)) i5) [.int (-1)] (hM (zXg X) h m F A) Ko := by
  unfold LL
  refine aw_istore6 B dX12_looks_111 ?_
  refine aw_iload B dX12_looks_113 rfl ?_
  refine aw_if_lt B 212 dX12_looks_115 (fun c115 => ?_) (fun c115 => absurd (by decide) c115)
  refine aw_iload B dX12_looks_212 rfl ?_
  refine aw_iconst B (-1) (by decide) dX12_looks_214 ?_
  refine aw_icmp_ne B 247 dX12_looks_215 (fun c215 => absurd rfl c215) (fun c215 => ?_)
  refine aw_aload_n B 0 rfl dX12_looks_218 rfl ?_
  refine m_get B f_X12_21 dX12_looks_219 (mg_10 _ _) ?_
  refine aw_iload B dX12_looks_222 rfl ?_
  refine aw_iconst B 1 (by decide) dX12_looks_224 ?_
  refine aw_isub B dX12_looks_225 ?_
  refine aw_aload_n B 0 rfl dX12_looks_226 rfl ?_
  refine m_get B f_X12_21 dX12_looks_227 (mg_10 _ _) ?_
  refine aw_iload B dX12_looks_230 rfl ?_
  refine aw_iconst B 1 (by decide) dX12_looks_232 ?_
  refine aw_isub B dX12_looks_233 ?_
  refine m_zld B (t) (nI_pred _) (by omega) dX12_looks_234 ?_
  rw [e4]
  refine aw_if_ne B 242 dX12_looks_235 (fun c235 => ?_) (fun c235 => ?_)
  · refine aw_iconst B 0 (by decide) dX12_looks_242 ?_
    refine m_zst B (t) (by decide) (nI_pred _) (by omega) dX12_looks_243 ?_
    refine aw_goto B 424 dX12_looks_244 ?_
    refine aw_iinc5 B 1 (by decide) dX12_looks_424 ?_
    refine aw_goto B 96 dX12_looks_427 ?_
    have hb : b2 (!b) = 0 := by cases b <;> simp_all [b2]
    rw [hb] at k
    refine AW.weak ?_ k
    exact ⟨Or.inr rfl, Or.inr rfl, Or.inr rfl, Or.inr rfl, Or.inr rfl, Or.inr rfl, Or.inl rfl, Or.inl rfl, Or.inl rfl, Or.inl rfl, trivial⟩
  · refine aw_iconst B 1 (by decide) dX12_looks_238 ?_
    refine aw_goto B 243 dX12_looks_239 ?_
    refine m_zst B (t) (by decide) (nI_pred _) (by omega) dX12_looks_243 ?_
    refine aw_goto B 424 dX12_looks_244 ?_
    refine aw_iinc5 B 1 (by decide) dX12_looks_424 ?_
    refine aw_goto B 96 dX12_looks_427 ?_
    have hb : b2 (!b) = 1 := by cases b <;> simp_all [b2]
    rw [hb] at k
    refine AW.weak ?_ k
    exact ⟨Or.inr rfl, Or.inr rfl, Or.inr rfl, Or.inr rfl, Or.inr rfl, Or.inr rfl, Or.inl rfl, Or.inl rfl, Or.inl rfl, Or.inl rfl, trivial⟩
set_option maxRecDepth 100000 in
set_option maxHeartbeats 4000000 in
theorem looks_and {X : zX} {Ko : Option Value → Hp → Prop} {h : Hp} {m : Nat} {F : Nat → Int32} {A : Nat → Nat → Int32} {a1 a2 a3 i5 : Int32} (B : zB X cX12_looks 10 yX12_looks.cls yX12_looks.name none) {t : Nat} {b b' : Bool} (e4 : A 4 t = b2 b') (e5 : A 4 (t + 1) = b2 b) (ht : t < 60) (k : AW X 0 0 96 (LL m a1 a2 a3 (nI (t + 1)) (i5 + 1)) [] (hM (zXg X) h m (F) (mup A 4 (upd (A 4) t (b2 (b' && b))))) Ko) : AW X 0 0 111 (LL m a1 a2 a3 (nI (t + 2)) i5) [.int (-2)] (hM (zXg X) h m F A) Ko := by
  unfold LL
  have em1 : nI (t + 2) + -1 = nI (t + 1) := pk_m1 _
  have em2 : nI (t + 1) - 1 = nI t := nI_pred _
  refine aw_istore6 B dX12_looks_111 ?_
  refine aw_iload B dX12_looks_113 rfl ?_
  refine aw_if_lt B 212 dX12_looks_115 (fun c115 => ?_) (fun c115 => absurd (by decide) c115)
  refine aw_iload B dX12_looks_212 rfl ?_
  refine aw_iconst B (-1) (by decide) dX12_looks_214 ?_
  refine aw_icmp_ne B 247 dX12_looks_215 (fun c215 => ?_) (fun c215 => absurd c215 (by decide))
  refine aw_iload B dX12_looks_247 rfl ?_
  refine aw_bipush B (-10) (by decide) dX12_looks_249 ?_
  refine aw_icmp_le B 333 dX12_looks_251 (fun c251 => absurd c251 (by decide)) (fun c251 => ?_)
  refine aw_iinc4 B (-1) (by decide) dX12_looks_254 ?_
  rw [em1]
  refine aw_aload_n B 0 rfl dX12_looks_257 rfl ?_
  refine m_get B f_X12_21 dX12_looks_258 (mg_10 _ _) ?_
  refine aw_iload B dX12_looks_261 rfl ?_
  refine aw_iconst B 1 (by decide) dX12_looks_263 ?_
  refine aw_isub B dX12_looks_264 ?_
  refine aw_iload B dX12_looks_265 rfl ?_
  refine aw_bipush B (-2) (by decide) dX12_looks_267 ?_
  refine aw_icmp_ne B 302 dX12_looks_269 (fun c269 => absurd rfl c269) (fun c269 => ?_)
  refine aw_aload_n B 0 rfl dX12_looks_272 rfl ?_
  refine m_get B f_X12_21 dX12_looks_273 (mg_10 _ _) ?_
  refine aw_iload B dX12_looks_276 rfl ?_
  refine aw_iconst B 1 (by decide) dX12_looks_278 ?_
  refine aw_isub B dX12_looks_279 ?_
  refine m_zld B (t) (em2) (by omega) dX12_looks_280 ?_
  rw [e4]
  refine aw_if_eq B 298 dX12_looks_281 (fun c281 => ?_) (fun c281 => ?_)
  · refine aw_iconst B 0 (by decide) dX12_looks_298 ?_
    refine aw_goto B 329 dX12_looks_299 ?_
    refine m_zst B (t) (by decide) (em2) (by omega) dX12_looks_329 ?_
    refine aw_goto B 424 dX12_looks_330 ?_
    refine aw_iinc5 B 1 (by decide) dX12_looks_424 ?_
    refine aw_goto B 96 dX12_looks_427 ?_
    have hb : b2 (b' && b) = 0 := by cases b <;> cases b' <;> simp_all [b2]
    rw [hb] at k
    refine AW.weak ?_ k
    exact ⟨Or.inr rfl, Or.inr rfl, Or.inr rfl, Or.inr rfl, Or.inr rfl, Or.inr rfl, Or.inl rfl, Or.inl rfl, Or.inl rfl, Or.inl rfl, trivial⟩
  · refine aw_aload_n B 0 rfl dX12_looks_284 rfl ?_
    refine m_get B f_X12_21 dX12_looks_285 (mg_10 _ _) ?_
    refine aw_iload B dX12_looks_288 rfl ?_
    refine m_zld B (t + 1) (rfl) (by omega) dX12_looks_290 ?_
    rw [e5]
    refine aw_if_eq B 298 dX12_looks_291 (fun c291 => ?_) (fun c291 => ?_)
    · refine aw_iconst B 0 (by decide) dX12_looks_298 ?_
      refine aw_goto B 329 dX12_looks_299 ?_
      refine m_zst B (t) (by decide) (em2) (by omega) dX12_looks_329 ?_
      refine aw_goto B 424 dX12_looks_330 ?_
      refine aw_iinc5 B 1 (by decide) dX12_looks_424 ?_
      refine aw_goto B 96 dX12_looks_427 ?_
      have hb : b2 (b' && b) = 0 := by cases b <;> cases b' <;> simp_all [b2]
      rw [hb] at k
      refine AW.weak ?_ k
      exact ⟨Or.inr rfl, Or.inr rfl, Or.inr rfl, Or.inr rfl, Or.inr rfl, Or.inr rfl, Or.inl rfl, Or.inl rfl, Or.inl rfl, Or.inl rfl, trivial⟩
    · refine aw_iconst B 1 (by decide) dX12_looks_294 ?_
      refine aw_goto B 329 dX12_looks_295 ?_
      refine m_zst B (t) (by decide) (em2) (by omega) dX12_looks_329 ?_
      refine aw_goto B 424 dX12_looks_330 ?_
      refine aw_iinc5 B 1 (by decide) dX12_looks_424 ?_
      refine aw_goto B 96 dX12_looks_427 ?_
      have hb : b2 (b' && b) = 1 := by cases b <;> cases b' <;> simp_all [b2]
      rw [hb] at k
      refine AW.weak ?_ k
      exact ⟨Or.inr rfl, Or.inr rfl, Or.inr rfl, Or.inr rfl, Or.inr rfl, Or.inr rfl, Or.inl rfl, Or.inl rfl, Or.inl rfl, Or.inl rfl, trivial⟩
set_option maxRecDepth 100000 in
set_option maxHeartbeats 4000000 in
theorem looks_or {X : zX} {Ko : Option Value → Hp → Prop} {h : Hp} {m : Nat} {F : Nat → Int32} {A : Nat → Nat → Int32} {a1 a2 a3 i5 : Int32} (B : zB X cX12_looks 10 yX12_looks.cls yX12_looks.name none) {t : Nat} {b b' : Bool} (e4 : A 4 t = b2 b') (e5 : A 4 (t + 1) = b2 b) (ht : t < 60) (k : AW X 0 0 96 (LL m a1 a2 a3 (nI (t + 1)) (i5 + 1)) [] (hM (zXg X) h m (F) (mup A 4 (upd (A 4) t (b2 (b' || b))))) Ko) : AW X 0 0 111 (LL m a1 a2 a3 (nI (t + 2)) i5) [.int (-3)] (hM (zXg X) h m F A) Ko := by
  unfold LL
  have em1 : nI (t + 2) + -1 = nI (t + 1) := pk_m1 _
  have em2 : nI (t + 1) - 1 = nI t := nI_pred _
  refine aw_istore6 B dX12_looks_111 ?_
  refine aw_iload B dX12_looks_113 rfl ?_
  refine aw_if_lt B 212 dX12_looks_115 (fun c115 => ?_) (fun c115 => absurd (by decide) c115)
  refine aw_iload B dX12_looks_212 rfl ?_
  refine aw_iconst B (-1) (by decide) dX12_looks_214 ?_
  refine aw_icmp_ne B 247 dX12_looks_215 (fun c215 => ?_) (fun c215 => absurd c215 (by decide))
  refine aw_iload B dX12_looks_247 rfl ?_
  refine aw_bipush B (-10) (by decide) dX12_looks_249 ?_
  refine aw_icmp_le B 333 dX12_looks_251 (fun c251 => absurd c251 (by decide)) (fun c251 => ?_)
  refine aw_iinc4 B (-1) (by decide) dX12_looks_254 ?_
  rw [em1]
  refine aw_aload_n B 0 rfl dX12_looks_257 rfl ?_
  refine m_get B f_X12_21 dX12_looks_258 (mg_10 _ _) ?_
  refine aw_iload B dX12_looks_261 rfl ?_
  refine aw_iconst B 1 (by decide) dX12_looks_263 ?_
  refine aw_isub B dX12_looks_264 ?_
  refine aw_iload B dX12_looks_265 rfl ?_
  refine aw_bipush B (-2) (by decide) dX12_looks_267 ?_
  refine aw_icmp_ne B 302 dX12_looks_269 (fun c269 => ?_) (fun c269 => absurd c269 (by decide))
  refine aw_aload_n B 0 rfl dX12_looks_302 rfl ?_
  refine m_get B f_X12_21 dX12_looks_303 (mg_10 _ _) ?_
  refine aw_iload B dX12_looks_306 rfl ?_
  refine aw_iconst B 1 (by decide) dX12_looks_308 ?_
  refine aw_isub B dX12_looks_309 ?_
  refine m_zld B (t) (em2) (by omega) dX12_looks_310 ?_
  rw [e4]
  refine aw_if_ne B 324 dX12_looks_311 (fun c311 => ?_) (fun c311 => ?_)
  · refine aw_iconst B 1 (by decide) dX12_looks_324 ?_
    refine aw_goto B 329 dX12_looks_325 ?_
    refine m_zst B (t) (by decide) (em2) (by omega) dX12_looks_329 ?_
    refine aw_goto B 424 dX12_looks_330 ?_
    refine aw_iinc5 B 1 (by decide) dX12_looks_424 ?_
    refine aw_goto B 96 dX12_looks_427 ?_
    have hb : b2 (b' || b) = 1 := by cases b <;> cases b' <;> simp_all [b2]
    rw [hb] at k
    refine AW.weak ?_ k
    exact ⟨Or.inr rfl, Or.inr rfl, Or.inr rfl, Or.inr rfl, Or.inr rfl, Or.inr rfl, Or.inl rfl, Or.inl rfl, Or.inl rfl, Or.inl rfl, trivial⟩
  · refine aw_aload_n B 0 rfl dX12_looks_314 rfl ?_
    refine m_get B f_X12_21 dX12_looks_315 (mg_10 _ _) ?_
    refine aw_iload B dX12_looks_318 rfl ?_
    refine m_zld B (t + 1) (rfl) (by omega) dX12_looks_320 ?_
    rw [e5]
    refine aw_if_eq B 328 dX12_looks_321 (fun c321 => ?_) (fun c321 => ?_)
    · refine aw_iconst B 0 (by decide) dX12_looks_328 ?_
      refine m_zst B (t) (by decide) (em2) (by omega) dX12_looks_329 ?_
      refine aw_goto B 424 dX12_looks_330 ?_
      refine aw_iinc5 B 1 (by decide) dX12_looks_424 ?_
      refine aw_goto B 96 dX12_looks_427 ?_
      have hb : b2 (b' || b) = 0 := by cases b <;> cases b' <;> simp_all [b2]
      rw [hb] at k
      refine AW.weak ?_ k
      exact ⟨Or.inr rfl, Or.inr rfl, Or.inr rfl, Or.inr rfl, Or.inr rfl, Or.inr rfl, Or.inl rfl, Or.inl rfl, Or.inl rfl, Or.inl rfl, trivial⟩
    · refine aw_iconst B 1 (by decide) dX12_looks_324 ?_
      refine aw_goto B 329 dX12_looks_325 ?_
      refine m_zst B (t) (by decide) (em2) (by omega) dX12_looks_329 ?_
      refine aw_goto B 424 dX12_looks_330 ?_
      refine aw_iinc5 B 1 (by decide) dX12_looks_424 ?_
      refine aw_goto B 96 dX12_looks_427 ?_
      have hb : b2 (b' || b) = 1 := by cases b <;> cases b' <;> simp_all [b2]
      rw [hb] at k
      refine AW.weak ?_ k
      exact ⟨Or.inr rfl, Or.inr rfl, Or.inr rfl, Or.inr rfl, Or.inr rfl, Or.inr rfl, Or.inl rfl, Or.inl rfl, Or.inl rfl, Or.inl rfl, trivial⟩
end
section
def cl_s (s n : Nat) (b : Bool) : Int32 := if b = false then 0 else if s = 12 then nI n else if s = 13 then -nI n else 0
def cl_w (s n : Nat) (b : Bool) : Int32 := if b = false then 0 else if s = 14 then nI n else 0
set_option maxRecDepth 100000 in
set_option maxHeartbeats 4000000 in
theorem looks_c12 {X : zX} {Ko : Option Value → Hp → Prop} {h : Hp} {m : Nat} {F : Nat → Int32} {A : Nat → Nat → Int32} {a1 a2 a3 i5 : Int32} (B : zB X cX12_looks 10 yX12_looks.cls yX12_looks.name none) {t : Int32} {n : Nat} {b : Bool} (e4 : A 4 0 = b2 b) (hn : n ≤ 99) (k : AW X 0 0 96 (LL m a1 a2 a3 (0) (i5 + 1)) [] (hM (zXg X) h m (upd (upd F 11 (F 11 + cl_s 12 n b)) 12 (F 12 + cl_w 12 n b)) (A)) Ko) : AW X 0 0 111 (LL m a1 a2 a3 (t) i5) [.int (cd 12 n)] (hM (zXg X) h m F A) Ko := by
  unfold LL
  obtain ⟨ei, es⟩ := cd12 n (by omega)
  rw [show cd 12 n = -10 - nI n from rfl]
  generalize hxx : -10 - nI n = x at ei es ⊢
  have t0 : (0 : Int32).toInt = 0 := by decide
  have t1 : (-1 : Int32).toInt = -1 := by decide
  have t10 : (-10 : Int32).toInt = -10 := by decide
  have t200 : (-200 : Int32).toInt = -200 := by decide
  have t400 : (-400 : Int32).toInt = -400 := by decide
  have c1 : x < 0 := by rw [Int32.lt_iff_toInt_lt, ei, t0]; omega
  have c2 : ¬ x = -1 := fun z => by rw [z, t1] at ei; omega
  have c3 : x ≤ -10 := by rw [Int32.le_iff_toInt_le, ei, t10]; omega
  have c4 : (-400 : Int32) < x := by rw [Int32.lt_iff_toInt_lt, ei, t400]; omega
  have c5 : ¬ x ≤ -200 := by rw [Int32.le_iff_toInt_le, ei, t200]; omega
  cases b
  · refine aw_istore6 B dX12_looks_111 ?_
    refine aw_iload B dX12_looks_113 rfl ?_
    refine aw_if_lt B 212 dX12_looks_115 (fun c115 => ?_) (fun c115 => absurd c1 c115)
    refine aw_iload B dX12_looks_212 rfl ?_
    refine aw_iconst B (-1) (by decide) dX12_looks_214 ?_
    refine aw_icmp_ne B 247 dX12_looks_215 (fun c215 => ?_) (fun c215 => absurd c215 c2)
    refine aw_iload B dX12_looks_247 rfl ?_
    refine aw_bipush B (-10) (by decide) dX12_looks_249 ?_
    refine aw_icmp_le B 333 dX12_looks_251 (fun c251 => ?_) (fun c251 => absurd c3 c251)
    refine aw_iconst B 0 (by decide) dX12_looks_333 ?_
    refine aw_istore4 B dX12_looks_334 ?_
    refine aw_aload_n B 0 rfl dX12_looks_336 rfl ?_
    refine m_get B f_X12_21 dX12_looks_337 (mg_10 _ _) ?_
    refine aw_iconst B 0 (by decide) dX12_looks_340 ?_
    refine m_zld B (0) (rfl) ((by decide)) dX12_looks_341 ?_
    rw [e4]
    refine aw_istore7 B dX12_looks_342 ?_
    refine aw_aload_n B 0 rfl dX12_looks_344 rfl ?_
    refine aw_dup B rfl dX12_looks_345 ?_
    refine m_get B f_X12_121 dX12_looks_346 (mg_11 _ _) ?_
    refine aw_iload B dX12_looks_349 rfl ?_
    refine aw_if_eq B 362 dX12_looks_351 (fun c351 => ?_) (fun c351 => absurd rfl c351)
    refine aw_iconst B 0 (by decide) dX12_looks_362 ?_
    refine aw_goto B 388 dX12_looks_363 ?_
    refine aw_iadd B dX12_looks_388 ?_
    refine m_put B f_X12_121 dX12_looks_389 (ms_11 _ _ _) (by decide) ?_
    refine aw_aload_n B 0 rfl dX12_looks_392 rfl ?_
    refine aw_dup B rfl dX12_looks_393 ?_
    refine m_get B f_X12_124 dX12_looks_394 (mg_12 _ _) ?_
    refine aw_iload B dX12_looks_397 rfl ?_
    refine aw_if_eq B 419 dX12_looks_399 (fun c399 => ?_) (fun c399 => absurd rfl c399)
    refine aw_iconst B 0 (by decide) dX12_looks_419 ?_
    refine aw_iadd B dX12_looks_420 ?_
    refine m_put B f_X12_124 dX12_looks_421 (ms_12 _ _ _) (by decide) ?_
    refine aw_iinc5 B 1 (by decide) dX12_looks_424 ?_
    refine aw_goto B 96 dX12_looks_427 ?_
    rw [show cl_s 12 n false = 0 from rfl, show cl_w 12 n false = 0 from rfl] at k
    refine AW.weak ?_ k
    exact ⟨Or.inr rfl, Or.inr rfl, Or.inr rfl, Or.inr rfl, Or.inr rfl, Or.inr rfl, Or.inl rfl, Or.inl rfl, Or.inl rfl, Or.inl rfl, trivial⟩
  · refine aw_istore6 B dX12_looks_111 ?_
    refine aw_iload B dX12_looks_113 rfl ?_
    refine aw_if_lt B 212 dX12_looks_115 (fun c115 => ?_) (fun c115 => absurd c1 c115)
    refine aw_iload B dX12_looks_212 rfl ?_
    refine aw_iconst B (-1) (by decide) dX12_looks_214 ?_
    refine aw_icmp_ne B 247 dX12_looks_215 (fun c215 => ?_) (fun c215 => absurd c215 c2)
    refine aw_iload B dX12_looks_247 rfl ?_
    refine aw_bipush B (-10) (by decide) dX12_looks_249 ?_
    refine aw_icmp_le B 333 dX12_looks_251 (fun c251 => ?_) (fun c251 => absurd c3 c251)
    refine aw_iconst B 0 (by decide) dX12_looks_333 ?_
    refine aw_istore4 B dX12_looks_334 ?_
    refine aw_aload_n B 0 rfl dX12_looks_336 rfl ?_
    refine m_get B f_X12_21 dX12_looks_337 (mg_10 _ _) ?_
    refine aw_iconst B 0 (by decide) dX12_looks_340 ?_
    refine m_zld B (0) (rfl) ((by decide)) dX12_looks_341 ?_
    rw [e4]
    refine aw_istore7 B dX12_looks_342 ?_
    refine aw_aload_n B 0 rfl dX12_looks_344 rfl ?_
    refine aw_dup B rfl dX12_looks_345 ?_
    refine m_get B f_X12_121 dX12_looks_346 (mg_11 _ _) ?_
    refine aw_iload B dX12_looks_349 rfl ?_
    refine aw_if_eq B 362 dX12_looks_351 (fun c351 => absurd c351 (by decide)) (fun c351 => ?_)
    refine aw_iload B dX12_looks_354 rfl ?_
    refine aw_sipush B (-400) (by decide) dX12_looks_356 ?_
    refine aw_icmp_gt B 366 dX12_looks_359 (fun c359 => ?_) (fun c359 => absurd c4 c359)
    refine aw_iload B dX12_looks_366 rfl ?_
    refine aw_sipush B (-200) (by decide) dX12_looks_368 ?_
    refine aw_icmp_le B 382 dX12_looks_371 (fun c371 => absurd c371 c5) (fun c371 => ?_)
    refine aw_bipush B (-10) (by decide) dX12_looks_374 ?_
    refine aw_iload B dX12_looks_376 rfl ?_
    refine aw_isub B dX12_looks_378 ?_
    refine aw_goto B 388 dX12_looks_379 ?_
    refine aw_iadd B dX12_looks_388 ?_
    refine m_put B f_X12_121 dX12_looks_389 (ms_11 _ _ _) (by decide) ?_
    refine aw_aload_n B 0 rfl dX12_looks_392 rfl ?_
    refine aw_dup B rfl dX12_looks_393 ?_
    refine m_get B f_X12_124 dX12_looks_394 (mg_12 _ _) ?_
    refine aw_iload B dX12_looks_397 rfl ?_
    refine aw_if_eq B 419 dX12_looks_399 (fun c399 => absurd c399 (by decide)) (fun c399 => ?_)
    refine aw_iload B dX12_looks_402 rfl ?_
    refine aw_sipush B (-400) (by decide) dX12_looks_404 ?_
    refine aw_icmp_gt B 419 dX12_looks_407 (fun c407 => ?_) (fun c407 => absurd c4 c407)
    refine aw_iconst B 0 (by decide) dX12_looks_419 ?_
    refine aw_iadd B dX12_looks_420 ?_
    refine m_put B f_X12_124 dX12_looks_421 (ms_12 _ _ _) (by decide) ?_
    refine aw_iinc5 B 1 (by decide) dX12_looks_424 ?_
    refine aw_goto B 96 dX12_looks_427 ?_
    rw [show cl_s 12 n true = nI n from rfl, show cl_w 12 n true = 0 from rfl] at k
    rw [← es] at k
    refine AW.weak ?_ k
    exact ⟨Or.inr rfl, Or.inr rfl, Or.inr rfl, Or.inr rfl, Or.inr rfl, Or.inr rfl, Or.inl rfl, Or.inl rfl, Or.inl rfl, Or.inl rfl, trivial⟩
set_option maxRecDepth 100000 in
set_option maxHeartbeats 4000000 in
theorem looks_c13 {X : zX} {Ko : Option Value → Hp → Prop} {h : Hp} {m : Nat} {F : Nat → Int32} {A : Nat → Nat → Int32} {a1 a2 a3 i5 : Int32} (B : zB X cX12_looks 10 yX12_looks.cls yX12_looks.name none) {t : Int32} {n : Nat} {b : Bool} (e4 : A 4 0 = b2 b) (hn : n ≤ 99) (k : AW X 0 0 96 (LL m a1 a2 a3 (0) (i5 + 1)) [] (hM (zXg X) h m (upd (upd F 11 (F 11 + cl_s 13 n b)) 12 (F 12 + cl_w 13 n b)) (A)) Ko) : AW X 0 0 111 (LL m a1 a2 a3 (t) i5) [.int (cd 13 n)] (hM (zXg X) h m F A) Ko := by
  unfold LL
  obtain ⟨ei, es⟩ := cd13 n (by omega)
  rw [show cd 13 n = -200 - nI n from rfl]
  generalize hxx : -200 - nI n = x at ei es ⊢
  have t0 : (0 : Int32).toInt = 0 := by decide
  have t1 : (-1 : Int32).toInt = -1 := by decide
  have t10 : (-10 : Int32).toInt = -10 := by decide
  have t200 : (-200 : Int32).toInt = -200 := by decide
  have t400 : (-400 : Int32).toInt = -400 := by decide
  have c1 : x < 0 := by rw [Int32.lt_iff_toInt_lt, ei, t0]; omega
  have c2 : ¬ x = -1 := fun z => by rw [z, t1] at ei; omega
  have c3 : x ≤ -10 := by rw [Int32.le_iff_toInt_le, ei, t10]; omega
  have c4 : (-400 : Int32) < x := by rw [Int32.lt_iff_toInt_lt, ei, t400]; omega
  have c5 : x ≤ -200 := by rw [Int32.le_iff_toInt_le, ei, t200]; omega
  cases b
  · refine aw_istore6 B dX12_looks_111 ?_
    refine aw_iload B dX12_looks_113 rfl ?_
    refine aw_if_lt B 212 dX12_looks_115 (fun c115 => ?_) (fun c115 => absurd c1 c115)
    refine aw_iload B dX12_looks_212 rfl ?_
    refine aw_iconst B (-1) (by decide) dX12_looks_214 ?_
    refine aw_icmp_ne B 247 dX12_looks_215 (fun c215 => ?_) (fun c215 => absurd c215 c2)
    refine aw_iload B dX12_looks_247 rfl ?_
    refine aw_bipush B (-10) (by decide) dX12_looks_249 ?_
    refine aw_icmp_le B 333 dX12_looks_251 (fun c251 => ?_) (fun c251 => absurd c3 c251)
    refine aw_iconst B 0 (by decide) dX12_looks_333 ?_
    refine aw_istore4 B dX12_looks_334 ?_
    refine aw_aload_n B 0 rfl dX12_looks_336 rfl ?_
    refine m_get B f_X12_21 dX12_looks_337 (mg_10 _ _) ?_
    refine aw_iconst B 0 (by decide) dX12_looks_340 ?_
    refine m_zld B (0) (rfl) ((by decide)) dX12_looks_341 ?_
    rw [e4]
    refine aw_istore7 B dX12_looks_342 ?_
    refine aw_aload_n B 0 rfl dX12_looks_344 rfl ?_
    refine aw_dup B rfl dX12_looks_345 ?_
    refine m_get B f_X12_121 dX12_looks_346 (mg_11 _ _) ?_
    refine aw_iload B dX12_looks_349 rfl ?_
    refine aw_if_eq B 362 dX12_looks_351 (fun c351 => ?_) (fun c351 => absurd rfl c351)
    refine aw_iconst B 0 (by decide) dX12_looks_362 ?_
    refine aw_goto B 388 dX12_looks_363 ?_
    refine aw_iadd B dX12_looks_388 ?_
    refine m_put B f_X12_121 dX12_looks_389 (ms_11 _ _ _) (by decide) ?_
    refine aw_aload_n B 0 rfl dX12_looks_392 rfl ?_
    refine aw_dup B rfl dX12_looks_393 ?_
    refine m_get B f_X12_124 dX12_looks_394 (mg_12 _ _) ?_
    refine aw_iload B dX12_looks_397 rfl ?_
    refine aw_if_eq B 419 dX12_looks_399 (fun c399 => ?_) (fun c399 => absurd rfl c399)
    refine aw_iconst B 0 (by decide) dX12_looks_419 ?_
    refine aw_iadd B dX12_looks_420 ?_
    refine m_put B f_X12_124 dX12_looks_421 (ms_12 _ _ _) (by decide) ?_
    refine aw_iinc5 B 1 (by decide) dX12_looks_424 ?_
    refine aw_goto B 96 dX12_looks_427 ?_
    rw [show cl_s 13 n false = 0 from rfl, show cl_w 13 n false = 0 from rfl] at k
    refine AW.weak ?_ k
    exact ⟨Or.inr rfl, Or.inr rfl, Or.inr rfl, Or.inr rfl, Or.inr rfl, Or.inr rfl, Or.inl rfl, Or.inl rfl, Or.inl rfl, Or.inl rfl, trivial⟩
  · refine aw_istore6 B dX12_looks_111 ?_
    refine aw_iload B dX12_looks_113 rfl ?_
    refine aw_if_lt B 212 dX12_looks_115 (fun c115 => ?_) (fun c115 => absurd c1 c115)
    refine aw_iload B dX12_looks_212 rfl ?_
    refine aw_iconst B (-1) (by decide) dX12_looks_214 ?_
    refine aw_icmp_ne B 247 dX12_looks_215 (fun c215 => ?_) (fun c215 => absurd c215 c2)
    refine aw_iload B dX12_looks_247 rfl ?_
    refine aw_bipush B (-10) (by decide) dX12_looks_249 ?_
    refine aw_icmp_le B 333 dX12_looks_251 (fun c251 => ?_) (fun c251 => absurd c3 c251)
    refine aw_iconst B 0 (by decide) dX12_looks_333 ?_
    refine aw_istore4 B dX12_looks_334 ?_
    refine aw_aload_n B 0 rfl dX12_looks_336 rfl ?_
    refine m_get B f_X12_21 dX12_looks_337 (mg_10 _ _) ?_
    refine aw_iconst B 0 (by decide) dX12_looks_340 ?_
    refine m_zld B (0) (rfl) ((by decide)) dX12_looks_341 ?_
    rw [e4]
    refine aw_istore7 B dX12_looks_342 ?_
    refine aw_aload_n B 0 rfl dX12_looks_344 rfl ?_
    refine aw_dup B rfl dX12_looks_345 ?_
    refine m_get B f_X12_121 dX12_looks_346 (mg_11 _ _) ?_
    refine aw_iload B dX12_looks_349 rfl ?_
    refine aw_if_eq B 362 dX12_looks_351 (fun c351 => absurd c351 (by decide)) (fun c351 => ?_)
    refine aw_iload B dX12_looks_354 rfl ?_
    refine aw_sipush B (-400) (by decide) dX12_looks_356 ?_
    refine aw_icmp_gt B 366 dX12_looks_359 (fun c359 => ?_) (fun c359 => absurd c4 c359)
    refine aw_iload B dX12_looks_366 rfl ?_
    refine aw_sipush B (-200) (by decide) dX12_looks_368 ?_
    refine aw_icmp_le B 382 dX12_looks_371 (fun c371 => ?_) (fun c371 => absurd c5 c371)
    refine aw_iload B dX12_looks_382 rfl ?_
    refine aw_sipush B (-200) (by decide) dX12_looks_384 ?_
    refine aw_isub B dX12_looks_387 ?_
    refine aw_iadd B dX12_looks_388 ?_
    refine m_put B f_X12_121 dX12_looks_389 (ms_11 _ _ _) (by decide) ?_
    refine aw_aload_n B 0 rfl dX12_looks_392 rfl ?_
    refine aw_dup B rfl dX12_looks_393 ?_
    refine m_get B f_X12_124 dX12_looks_394 (mg_12 _ _) ?_
    refine aw_iload B dX12_looks_397 rfl ?_
    refine aw_if_eq B 419 dX12_looks_399 (fun c399 => absurd c399 (by decide)) (fun c399 => ?_)
    refine aw_iload B dX12_looks_402 rfl ?_
    refine aw_sipush B (-400) (by decide) dX12_looks_404 ?_
    refine aw_icmp_gt B 419 dX12_looks_407 (fun c407 => ?_) (fun c407 => absurd c4 c407)
    refine aw_iconst B 0 (by decide) dX12_looks_419 ?_
    refine aw_iadd B dX12_looks_420 ?_
    refine m_put B f_X12_124 dX12_looks_421 (ms_12 _ _ _) (by decide) ?_
    refine aw_iinc5 B 1 (by decide) dX12_looks_424 ?_
    refine aw_goto B 96 dX12_looks_427 ?_
    rw [show cl_s 13 n true = -nI n from rfl, show cl_w 13 n true = 0 from rfl] at k
    rw [← es] at k
    refine AW.weak ?_ k
    exact ⟨Or.inr rfl, Or.inr rfl, Or.inr rfl, Or.inr rfl, Or.inr rfl, Or.inr rfl, Or.inl rfl, Or.inl rfl, Or.inl rfl, Or.inl rfl, trivial⟩
set_option maxRecDepth 100000 in
set_option maxHeartbeats 4000000 in
theorem looks_c14 {X : zX} {Ko : Option Value → Hp → Prop} {h : Hp} {m : Nat} {F : Nat → Int32} {A : Nat → Nat → Int32} {a1 a2 a3 i5 : Int32} (B : zB X cX12_looks 10 yX12_looks.cls yX12_looks.name none) {t : Int32} {n : Nat} {b : Bool} (e4 : A 4 0 = b2 b) (hn : n ≤ 99) (k : AW X 0 0 96 (LL m a1 a2 a3 (0) (i5 + 1)) [] (hM (zXg X) h m (upd (upd F 11 (F 11 + cl_s 14 n b)) 12 (F 12 + cl_w 14 n b)) (A)) Ko) : AW X 0 0 111 (LL m a1 a2 a3 (t) i5) [.int (cd 14 n)] (hM (zXg X) h m F A) Ko := by
  unfold LL
  obtain ⟨ei, es⟩ := cd14 n (by omega)
  rw [show cd 14 n = -400 - nI n from rfl]
  generalize hxx : -400 - nI n = x at ei es ⊢
  have t0 : (0 : Int32).toInt = 0 := by decide
  have t1 : (-1 : Int32).toInt = -1 := by decide
  have t10 : (-10 : Int32).toInt = -10 := by decide
  have t200 : (-200 : Int32).toInt = -200 := by decide
  have t400 : (-400 : Int32).toInt = -400 := by decide
  have c1 : x < 0 := by rw [Int32.lt_iff_toInt_lt, ei, t0]; omega
  have c2 : ¬ x = -1 := fun z => by rw [z, t1] at ei; omega
  have c3 : x ≤ -10 := by rw [Int32.le_iff_toInt_le, ei, t10]; omega
  have c4 : ¬ -400 < x := by rw [Int32.lt_iff_toInt_lt, ei, t400]; omega
  have c5 : x ≤ -200 := by rw [Int32.le_iff_toInt_le, ei, t200]; omega
  cases b
  · refine aw_istore6 B dX12_looks_111 ?_
    refine aw_iload B dX12_looks_113 rfl ?_
    refine aw_if_lt B 212 dX12_looks_115 (fun c115 => ?_) (fun c115 => absurd c1 c115)
    refine aw_iload B dX12_looks_212 rfl ?_
    refine aw_iconst B (-1) (by decide) dX12_looks_214 ?_
    refine aw_icmp_ne B 247 dX12_looks_215 (fun c215 => ?_) (fun c215 => absurd c215 c2)
    refine aw_iload B dX12_looks_247 rfl ?_
    refine aw_bipush B (-10) (by decide) dX12_looks_249 ?_
    refine aw_icmp_le B 333 dX12_looks_251 (fun c251 => ?_) (fun c251 => absurd c3 c251)
    refine aw_iconst B 0 (by decide) dX12_looks_333 ?_
    refine aw_istore4 B dX12_looks_334 ?_
    refine aw_aload_n B 0 rfl dX12_looks_336 rfl ?_
    refine m_get B f_X12_21 dX12_looks_337 (mg_10 _ _) ?_
    refine aw_iconst B 0 (by decide) dX12_looks_340 ?_
    refine m_zld B (0) (rfl) ((by decide)) dX12_looks_341 ?_
    rw [e4]
    refine aw_istore7 B dX12_looks_342 ?_
    refine aw_aload_n B 0 rfl dX12_looks_344 rfl ?_
    refine aw_dup B rfl dX12_looks_345 ?_
    refine m_get B f_X12_121 dX12_looks_346 (mg_11 _ _) ?_
    refine aw_iload B dX12_looks_349 rfl ?_
    refine aw_if_eq B 362 dX12_looks_351 (fun c351 => ?_) (fun c351 => absurd rfl c351)
    refine aw_iconst B 0 (by decide) dX12_looks_362 ?_
    refine aw_goto B 388 dX12_looks_363 ?_
    refine aw_iadd B dX12_looks_388 ?_
    refine m_put B f_X12_121 dX12_looks_389 (ms_11 _ _ _) (by decide) ?_
    refine aw_aload_n B 0 rfl dX12_looks_392 rfl ?_
    refine aw_dup B rfl dX12_looks_393 ?_
    refine m_get B f_X12_124 dX12_looks_394 (mg_12 _ _) ?_
    refine aw_iload B dX12_looks_397 rfl ?_
    refine aw_if_eq B 419 dX12_looks_399 (fun c399 => ?_) (fun c399 => absurd rfl c399)
    refine aw_iconst B 0 (by decide) dX12_looks_419 ?_
    refine aw_iadd B dX12_looks_420 ?_
    refine m_put B f_X12_124 dX12_looks_421 (ms_12 _ _ _) (by decide) ?_
    refine aw_iinc5 B 1 (by decide) dX12_looks_424 ?_
    refine aw_goto B 96 dX12_looks_427 ?_
    rw [show cl_s 14 n false = 0 from rfl, show cl_w 14 n false = 0 from rfl] at k
    refine AW.weak ?_ k
    exact ⟨Or.inr rfl, Or.inr rfl, Or.inr rfl, Or.inr rfl, Or.inr rfl, Or.inr rfl, Or.inl rfl, Or.inl rfl, Or.inl rfl, Or.inl rfl, trivial⟩
  · refine aw_istore6 B dX12_looks_111 ?_
    refine aw_iload B dX12_looks_113 rfl ?_
    refine aw_if_lt B 212 dX12_looks_115 (fun c115 => ?_) (fun c115 => absurd c1 c115)
    refine aw_iload B dX12_looks_212 rfl ?_
    refine aw_iconst B (-1) (by decide) dX12_looks_214 ?_
    refine aw_icmp_ne B 247 dX12_looks_215 (fun c215 => ?_) (fun c215 => absurd c215 c2)
    refine aw_iload B dX12_looks_247 rfl ?_
    refine aw_bipush B (-10) (by decide) dX12_looks_249 ?_
    refine aw_icmp_le B 333 dX12_looks_251 (fun c251 => ?_) (fun c251 => absurd c3 c251)
    refine aw_iconst B 0 (by decide) dX12_looks_333 ?_
    refine aw_istore4 B dX12_looks_334 ?_
    refine aw_aload_n B 0 rfl dX12_looks_336 rfl ?_
    refine m_get B f_X12_21 dX12_looks_337 (mg_10 _ _) ?_
    refine aw_iconst B 0 (by decide) dX12_looks_340 ?_
    refine m_zld B (0) (rfl) ((by decide)) dX12_looks_341 ?_
    rw [e4]
    refine aw_istore7 B dX12_looks_342 ?_
    refine aw_aload_n B 0 rfl dX12_looks_344 rfl ?_
    refine aw_dup B rfl dX12_looks_345 ?_
    refine m_get B f_X12_121 dX12_looks_346 (mg_11 _ _) ?_
    refine aw_iload B dX12_looks_349 rfl ?_
    refine aw_if_eq B 362 dX12_looks_351 (fun c351 => absurd c351 (by decide)) (fun c351 => ?_)
    refine aw_iload B dX12_looks_354 rfl ?_
    refine aw_sipush B (-400) (by decide) dX12_looks_356 ?_
    refine aw_icmp_gt B 366 dX12_looks_359 (fun c359 => absurd c359 c4) (fun c359 => ?_)
    refine aw_iconst B 0 (by decide) dX12_looks_362 ?_
    refine aw_goto B 388 dX12_looks_363 ?_
    refine aw_iadd B dX12_looks_388 ?_
    refine m_put B f_X12_121 dX12_looks_389 (ms_11 _ _ _) (by decide) ?_
    refine aw_aload_n B 0 rfl dX12_looks_392 rfl ?_
    refine aw_dup B rfl dX12_looks_393 ?_
    refine m_get B f_X12_124 dX12_looks_394 (mg_12 _ _) ?_
    refine aw_iload B dX12_looks_397 rfl ?_
    refine aw_if_eq B 419 dX12_looks_399 (fun c399 => absurd c399 (by decide)) (fun c399 => ?_)
    refine aw_iload B dX12_looks_402 rfl ?_
    refine aw_sipush B (-400) (by decide) dX12_looks_404 ?_
    refine aw_icmp_gt B 419 dX12_looks_407 (fun c407 => absurd c407 c4) (fun c407 => ?_)
    refine aw_sipush B (-400) (by decide) dX12_looks_410 ?_
    refine aw_iload B dX12_looks_413 rfl ?_
    refine aw_isub B dX12_looks_415 ?_
    refine aw_goto B 420 dX12_looks_416 ?_
    refine aw_iadd B dX12_looks_420 ?_
    refine m_put B f_X12_124 dX12_looks_421 (ms_12 _ _ _) (by decide) ?_
    refine aw_iinc5 B 1 (by decide) dX12_looks_424 ?_
    refine aw_goto B 96 dX12_looks_427 ?_
    rw [show cl_s 14 n true = 0 from rfl, show cl_w 14 n true = nI n from rfl] at k
    rw [← es] at k
    refine AW.weak ?_ k
    exact ⟨Or.inr rfl, Or.inr rfl, Or.inr rfl, Or.inr rfl, Or.inr rfl, Or.inr rfl, Or.inl rfl, Or.inl rfl, Or.inl rfl, Or.inl rfl, trivial⟩
end
section
set_option maxRecDepth 100000 in
set_option maxHeartbeats 4000000 in
theorem looks_loop {X : zX} (h : Hp) (m : Nat) (F : Nat → Int32) (A : Nat → Nat → Int32) (tm : Nat) (Q : pP) (htm : tm ≤ 20000) (hr : zXr X = rmz 1) (B : zB X cX12_looks 10 yX12_looks.cls yX12_looks.name none) (f3 : Nat → Int32) (hf3 : ∀ k, k < 3 → f3 k = nI (hx tm k)) (fr : Nat) (hfr : fr + Q.length ≤ 899) : ∀ (R : pP) (j : Nat) (st : List Bool) (sw wv : Int32) (f4 : Nat → Int32), j + R.length = Q.length → (∀ i (hi : i < R.length), A 1 (fr + j + i) = cd R[i].1 R[i].2) → wfp st.length R → st.length ≤ 30 → tru f4 st → ev (hx tm) R st sw wv = evL tm Q →
    AW X 0 0 96 (LL m (nI tm) (nI Q.length) (nI fr) (nI st.length) (nI (fr + j))) [] (hM (zXg X) h m (upd (upd F 11 sw) 12 wv) (mup (mup A 3 f3) 4 f4)) (zV (mlook (zXg X) h m F A (evL tm Q))) := by
  intro R
  induction R with
  | nil =>
    intro j st sw wv f4 hj hR hw hl ht he
    have hj : j = Q.length := by simpa using hj
    have he : (sw, wv) = evL tm Q := he
    unfold LL
    refine aw_iload B dX12_looks_96 rfl ?_
    refine aw_iload_n B 3 rfl dX12_looks_98 rfl ?_
    refine aw_iload_n B 2 rfl dX12_looks_99 rfl ?_
    refine aw_iadd B dX12_looks_100 ?_
    refine aw_icmp_ge B 430 dX12_looks_101 (fun c101 => ?_) (fun c101 => absurd (show nI fr + nI Q.length ≤ nI (fr + j) from by rw [nI_add, hj]; exact Int32.le_refl _) c101)
    refine aw_aload_n B 0 rfl dX12_looks_430 rfl ?_
    refine aw_aload_n B 0 rfl dX12_looks_431 rfl ?_
    refine m_get B f_X12_124 dX12_looks_432 (mg_12 _ _) ?_
    refine aw_bipush B 10 (by decide) dX12_looks_435 ?_
    refine aw_icmp_le B 445 dX12_looks_437 (fun c437 => ?_) (fun c437 => ?_)
    · refine aw_aload_n B 0 rfl dX12_looks_445 rfl ?_
      refine m_get B f_X12_124 dX12_looks_446 (mg_12 _ _) ?_
      refine m_put B f_X12_124 dX12_looks_449 (ms_12 _ _ _) (by decide) ?_
      refine aw_vret B rfl dX12_looks_452 ?_
      refine ⟨rfl, f3, f4, ?_⟩
      rw [← he]
      show _ = hM _ _ _ (upd (upd F 11 sw) 12 (if wv ≤ 10 then wv else 10)) _
      rw [if_pos (show wv ≤ 10 from c437), upd_u, upd_s]
    · refine aw_bipush B 10 (by decide) dX12_looks_440 ?_
      refine aw_goto B 449 dX12_looks_442 ?_
      refine m_put B f_X12_124 dX12_looks_449 (ms_12 _ _ _) (by decide) ?_
      refine aw_vret B rfl dX12_looks_452 ?_
      refine ⟨rfl, f3, f4, ?_⟩
      rw [← he]
      show _ = hM _ _ _ (upd (upd F 11 sw) 12 (if wv ≤ 10 then wv else 10)) _
      rw [if_neg (show ¬ wv ≤ 10 from c437), upd_u]
  | cons p R ih =>
    obtain ⟨s, n⟩ := p
    intro j st sw wv f4 hj hR hw hl ht he
    obtain ⟨hn, hs, w1, w2, w3, w4⟩ := hw
    have hj : j + (R.length + 1) = Q.length := by simpa using hj
    have e0 : A 1 (fr + j) = cd s n := hR 0 (Nat.succ_pos _)
    have hR1 : ∀ i (hi : i < R.length), A 1 (fr + (j + 1) + i) = cd R[i].1 R[i].2 := fun i hi => by
      rw [show fr + (j + 1) + i = fr + j + (i + 1) by omega]
      exact hR (i + 1) (Nat.succ_lt_succ hi)
    have hn5 : nI (fr + j) + 1 = nI (fr + (j + 1)) := nI_1 _
    unfold LL
    refine aw_iload B dX12_looks_96 rfl ?_
    refine aw_iload_n B 3 rfl dX12_looks_98 rfl ?_
    refine aw_iload_n B 2 rfl dX12_looks_99 rfl ?_
    refine aw_iadd B dX12_looks_100 ?_
    refine aw_icmp_ge B 430 dX12_looks_101 (fun c101 => absurd (show nI fr + nI Q.length ≤ nI (fr + j) from c101) (by rw [nI_add, Int32.not_le]; exact nI_lt (by omega) (by omega))) (fun c101 => ?_)
    refine aw_aload_n B 0 rfl dX12_looks_104 rfl ?_
    refine m_get B f_X12_9 dX12_looks_105 (mg_1 _ _) ?_
    refine aw_iload B dX12_looks_108 rfl ?_
    refine m_ld B (fr + j) (rfl) (by show _ < 899; omega) dX12_looks_110 (by decide) ?_
    rw [show mup (mup A 3 f3) 4 f4 1 (fr + j) = cd s n from by rw [mup_n (by decide), mup_n (by decide)]; exact e0]
    have hsc : s < 9 ∨ s = 9 ∨ s = 10 ∨ s = 11 ∨ s = 12 ∨ s = 13 ∨ s = 14 := by omega
    rcases hsc with hs9 | rfl | rfl | rfl | rfl | rfl | rfl
    · obtain ⟨ht30, hw'⟩ := w1 hs9
      have hev : ev (hx tm) R (tst (hx tm) s n :: st) sw wv = evL tm Q := by rw [← he, ev, if_pos hs9]
      refine looks_test (t := st.length) (x := hx tm) B (fun k hk => by rw [mup_n (by decide), mup_s]; exact hf3 k hk) (fun k hk => ?_) hs9 hn (by omega) ?_
      · unfold hx
        split
        · omega
        · split <;> omega
      · rw [mup_m, mup_s, hn5]
        exact ih (j + 1) (tst (hx tm) s n :: st) sw wv _ (by omega) hR1 hw' (by simp; omega) (tru_push ht _) hev
    · obtain ⟨ht1, hw'⟩ := w2 rfl
      obtain ⟨b, st, rfl⟩ : ∃ b st', st = b :: st' := by
        cases st with
        | nil => simp at ht1
        | cons b st => exact ⟨b, st, rfl⟩
      have hev : ev (hx tm) R ((!b) :: st) sw wv = evL tm Q := by rw [← he, ev]; simp
      refine looks_not (t := st.length) (b := b) B (by rw [mup_s]; exact tru_top ht) (by simp at hl; omega) ?_
      rw [mup_m, mup_s, hn5]
      exact ih (j + 1) ((!b) :: st) sw wv _ (by omega) hR1 hw' hl (tru_set ht (c := !b)) hev
    · obtain ⟨ht2, hw'⟩ := w3 (by simp)
      obtain ⟨b, b', st, rfl⟩ : ∃ b b' st', st = b :: b' :: st' := by
        match st, ht2 with
        | b :: b' :: st, _ => exact ⟨b, b', st, rfl⟩
      have hev : ev (hx tm) R ((b' && b) :: st) sw wv = evL tm Q := by rw [← he, ev]; simp
      have hl2 : st.length + 1 + 1 ≤ 30 := hl
      refine looks_and (t := st.length) (b := b) (b' := b') B (by rw [mup_s]; exact tru_top (tru_pop ht)) (by rw [mup_s]; exact tru_top ht) (by omega) ?_
      rw [mup_m, mup_s, hn5]
      exact ih (j + 1) ((b' && b) :: st) sw wv _ (by omega) hR1 hw' (by simp; omega) (tru_set (tru_pop ht) (c := b' && b)) hev
    · obtain ⟨ht2, hw'⟩ := w3 (by simp)
      obtain ⟨b, b', st, rfl⟩ : ∃ b b' st', st = b :: b' :: st' := by
        match st, ht2 with
        | b :: b' :: st, _ => exact ⟨b, b', st, rfl⟩
      have hev : ev (hx tm) R ((b' || b) :: st) sw wv = evL tm Q := by rw [← he, ev]; simp
      have hl2 : st.length + 1 + 1 ≤ 30 := hl
      refine looks_or (t := st.length) (b := b) (b' := b') B (by rw [mup_s]; exact tru_top (tru_pop ht)) (by rw [mup_s]; exact tru_top ht) (by omega) ?_
      rw [mup_m, mup_s, hn5]
      exact ih (j + 1) ((b' || b) :: st) sw wv _ (by omega) hR1 hw' (by simp; omega) (tru_set (tru_pop ht) (c := b' || b)) hev
    · obtain ⟨ht1, hw'⟩ := w4 (by omega)
      obtain ⟨b, rfl⟩ : ∃ b, st = [b] := by
        match st, ht1 with
        | [b], _ => exact ⟨b, rfl⟩
      have hev : ev (hx tm) R [] (sw + cl_s 12 n b) (wv + cl_w 12 n b) = evL tm Q := by rw [← he, ev]; cases b <;> simp [cl_s, cl_w]
      refine looks_c12 (n := n) (b := b) B (by rw [mup_s]; exact tru_top ht) hn ?_
      rw [hn5, upd_121, upd_u, upd_s, upd_n (show (11 : Nat) ≠ 12 by decide), upd_s]
      exact ih (j + 1) [] _ _ f4 (by omega) hR1 hw' (by simp) (fun k hk => absurd hk (by simp)) hev
    · obtain ⟨ht1, hw'⟩ := w4 (by omega)
      obtain ⟨b, rfl⟩ : ∃ b, st = [b] := by
        match st, ht1 with
        | [b], _ => exact ⟨b, rfl⟩
      have hev : ev (hx tm) R [] (sw + cl_s 13 n b) (wv + cl_w 13 n b) = evL tm Q := by rw [← he, ev]; cases b <;> simp [cl_s, cl_w]
      refine looks_c13 (n := n) (b := b) B (by rw [mup_s]; exact tru_top ht) hn ?_
      rw [hn5, upd_121, upd_u, upd_s, upd_n (show (11 : Nat) ≠ 12 by decide), upd_s]
      exact ih (j + 1) [] _ _ f4 (by omega) hR1 hw' (by simp) (fun k hk => absurd hk (by simp)) hev
    · obtain ⟨ht1, hw'⟩ := w4 (by omega)
      obtain ⟨b, rfl⟩ : ∃ b, st = [b] := by
        match st, ht1 with
        | [b], _ => exact ⟨b, rfl⟩
      have hev : ev (hx tm) R [] (sw + cl_s 14 n b) (wv + cl_w 14 n b) = evL tm Q := by rw [← he, ev]; cases b <;> simp [cl_s, cl_w]
      refine looks_c14 (n := n) (b := b) B (by rw [mup_s]; exact tru_top ht) hn ?_
      rw [hn5, upd_121, upd_u, upd_s, upd_n (show (11 : Nat) ≠ 12 by decide), upd_s]
      exact ih (j + 1) [] _ _ f4 (by omega) hR1 hw' (by simp) (fun k hk => absurd hk (by simp)) hev

set_option maxRecDepth 100000 in
set_option maxHeartbeats 4000000 in
theorem s_looks (l : Launch) (g : zG) (h : Hp) (m : Nat) (F : Nat → Int32) (A : Nat → Nat → Int32) (tm : Nat) (Q : pP) (htm : tm ≤ 20000) (hQ : hold (A 1) Q) (hwf : wfp 0 Q) : Sp l g yX12_looks cX12_looks 10 none (rmz 1) [.ref m, .int (nI tm)] (hM g h m F A) (zV (mlook g h m F A (evL tm Q))) := by
  refine Sp.of [some (.ref m), some (.int (nI tm)), none, none, none, none, none, none, none, none] (by decide) (Nat.le_of_ble_eq_true rfl) rfl rfl ?_
  rintro X rfl hr rfl B
  show AW X 0 0 0 _ _ _ _
  obtain ⟨f3, hfx⟩ : ∃ f3 : Nat → Int32, f3 = upd (upd (upd (A 3) 0 (nI (tm % 12))) 1 (nI (tm / 12 % 14))) 2 (nI (tm % 5)) := ⟨_, rfl⟩
  have hf3 : ∀ k, k < 3 → f3 k = nI (hx tm k) := fun k hk => by
    rcases (show k = 0 ∨ k = 1 ∨ k = 2 by omega) with rfl | rfl | rfl <;> simp [hfx, upd, hx]
  have h4 : mup A 3 f3 = mup (mup A 3 f3) 4 (A 4) := by
    funext j
    by_cases h : j = 4 <;> simp [mup, h]
  rcases hQ with ⟨e7, rfl⟩ | ⟨c, e7, hc, hlen, ecnt, ecode⟩
  · refine aw_aload_n B 0 rfl dX12_looks_0 rfl ?_
    refine m_get B f_X12_18 dX12_looks_1 (mg_9 _ _) ?_
    refine aw_iconst B 0 (by decide) dX12_looks_4 ?_
    refine aw_iload_n B 1 rfl dX12_looks_5 rfl ?_
    refine aw_bipush B 12 (by decide) dX12_looks_6 ?_
    refine aw_irem B (by decide) dX12_looks_8 ?_
    rw [show nI tm - nI tm / 12 * 12 = nI (tm % 12) from pk_rem (d := 12) (by omega) (by decide) (by decide)]
    refine m_st B (0) (rfl) ((by decide)) dX12_looks_9 (by decide) ?_
    refine aw_aload_n B 0 rfl dX12_looks_10 rfl ?_
    refine m_get B f_X12_18 dX12_looks_11 (mg_9 _ _) ?_
    refine aw_iconst B 1 (by decide) dX12_looks_14 ?_
    refine aw_iload_n B 1 rfl dX12_looks_15 rfl ?_
    refine aw_bipush B 12 (by decide) dX12_looks_16 ?_
    refine aw_idiv B (by decide) dX12_looks_18 ?_
    refine aw_bipush B 14 (by decide) dX12_looks_19 ?_
    refine aw_irem B (by decide) dX12_looks_21 ?_
    rw [show nI tm / 12 = nI (tm / 12) from pk_div (d := 12) (by omega) (by decide) (by decide), show nI (tm / 12) - nI (tm / 12) / 14 * 14 = nI (tm / 12 % 14) from pk_rem (d := 14) (by omega) (by decide) (by decide)]
    refine m_st B (1) (rfl) ((by decide)) dX12_looks_22 (by decide) ?_
    refine aw_aload_n B 0 rfl dX12_looks_23 rfl ?_
    refine m_get B f_X12_18 dX12_looks_24 (mg_9 _ _) ?_
    refine aw_iconst B 2 (by decide) dX12_looks_27 ?_
    refine aw_iload_n B 1 rfl dX12_looks_28 rfl ?_
    refine aw_iconst B 5 (by decide) dX12_looks_29 ?_
    refine aw_irem B (by decide) dX12_looks_30 ?_
    rw [show nI tm - nI tm / 5 * 5 = nI (tm % 5) from pk_rem (d := 5) (by omega) (by decide) (by decide)]
    refine m_st B (2) (rfl) ((by decide)) dX12_looks_31 (by decide) ?_
    rw [mup_s, mup_m, mup_s, mup_m]
    rw [← hfx]
    refine aw_aload_n B 0 rfl dX12_looks_32 rfl ?_
    refine aw_iconst B 0 (by decide) dX12_looks_33 ?_
    refine m_put B f_X12_121 dX12_looks_34 (ms_11 _ _ _) (by decide) ?_
    refine aw_aload_n B 0 rfl dX12_looks_37 rfl ?_
    refine aw_iconst B 0 (by decide) dX12_looks_38 ?_
    refine m_put B f_X12_124 dX12_looks_39 (ms_12 _ _ _) (by decide) ?_
    refine aw_aload_n B 0 rfl dX12_looks_42 rfl ?_
    refine m_get B f_X12_9 dX12_looks_43 (mg_1 _ _) ?_
    refine aw_bipush B 7 (by decide) dX12_looks_46 ?_
    refine m_ld B (7) (rfl) ((by decide)) dX12_looks_48 (by decide) ?_
    rw [show mup A 3 f3 1 7 = -1 from by rw [mup_n (by decide)]; exact e7]
    refine aw_iconst B (-1) (by decide) dX12_looks_49 ?_
    refine aw_icmp_ne B 57 dX12_looks_50 (fun c50 => absurd rfl c50) (fun c50 => ?_)
    refine aw_iconst B 0 (by decide) dX12_looks_53 ?_
    refine aw_goto B 73 dX12_looks_54 ?_
    refine aw_istore2 B dX12_looks_73 ?_
    refine aw_sipush B 199 (by decide) dX12_looks_74 ?_
    refine aw_sipush B 140 (by decide) dX12_looks_77 ?_
    refine aw_aload_n B 0 rfl dX12_looks_80 rfl ?_
    refine m_get B f_X12_9 dX12_looks_81 (mg_1 _ _) ?_
    refine aw_bipush B 7 (by decide) dX12_looks_84 ?_
    refine m_ld B (7) (rfl) ((by decide)) dX12_looks_86 (by decide) ?_
    rw [show mup A 3 f3 1 7 = -1 from by rw [mup_n (by decide)]; exact e7]
    refine aw_imul B dX12_looks_87 ?_
    refine aw_iadd B dX12_looks_88 ?_
    rw [show (199 : Int32) + 140 * -1 = nI 59 by decide]
    refine aw_istore3 B dX12_looks_89 ?_
    refine aw_iconst B 0 (by decide) dX12_looks_90 ?_
    refine aw_istore4 B dX12_looks_91 ?_
    refine aw_iload_n B 3 rfl dX12_looks_93 rfl ?_
    refine aw_istore5 B dX12_looks_94 ?_
    rw [h4]
    refine AW.weak ?_ (looks_loop h m F A tm [] htm hr B f3 hf3 59 (by simp) [] 0 [] 0 0 (A 4) rfl (fun i hi => absurd hi (by simp)) trivial (by simp) (fun k hk => absurd hk (by simp)) rfl)
    exact ⟨Or.inr rfl, Or.inr rfl, Or.inr rfl, Or.inr rfl, Or.inr rfl, Or.inr rfl, Or.inl rfl, Or.inl rfl, Or.inl rfl, Or.inl rfl, trivial⟩
  · refine aw_aload_n B 0 rfl dX12_looks_0 rfl ?_
    refine m_get B f_X12_18 dX12_looks_1 (mg_9 _ _) ?_
    refine aw_iconst B 0 (by decide) dX12_looks_4 ?_
    refine aw_iload_n B 1 rfl dX12_looks_5 rfl ?_
    refine aw_bipush B 12 (by decide) dX12_looks_6 ?_
    refine aw_irem B (by decide) dX12_looks_8 ?_
    rw [show nI tm - nI tm / 12 * 12 = nI (tm % 12) from pk_rem (d := 12) (by omega) (by decide) (by decide)]
    refine m_st B (0) (rfl) ((by decide)) dX12_looks_9 (by decide) ?_
    refine aw_aload_n B 0 rfl dX12_looks_10 rfl ?_
    refine m_get B f_X12_18 dX12_looks_11 (mg_9 _ _) ?_
    refine aw_iconst B 1 (by decide) dX12_looks_14 ?_
    refine aw_iload_n B 1 rfl dX12_looks_15 rfl ?_
    refine aw_bipush B 12 (by decide) dX12_looks_16 ?_
    refine aw_idiv B (by decide) dX12_looks_18 ?_
    refine aw_bipush B 14 (by decide) dX12_looks_19 ?_
    refine aw_irem B (by decide) dX12_looks_21 ?_
    rw [show nI tm / 12 = nI (tm / 12) from pk_div (d := 12) (by omega) (by decide) (by decide), show nI (tm / 12) - nI (tm / 12) / 14 * 14 = nI (tm / 12 % 14) from pk_rem (d := 14) (by omega) (by decide) (by decide)]
    refine m_st B (1) (rfl) ((by decide)) dX12_looks_22 (by decide) ?_
    refine aw_aload_n B 0 rfl dX12_looks_23 rfl ?_
    refine m_get B f_X12_18 dX12_looks_24 (mg_9 _ _) ?_
    refine aw_iconst B 2 (by decide) dX12_looks_27 ?_
    refine aw_iload_n B 1 rfl dX12_looks_28 rfl ?_
    refine aw_iconst B 5 (by decide) dX12_looks_29 ?_
    refine aw_irem B (by decide) dX12_looks_30 ?_
    rw [show nI tm - nI tm / 5 * 5 = nI (tm % 5) from pk_rem (d := 5) (by omega) (by decide) (by decide)]
    refine m_st B (2) (rfl) ((by decide)) dX12_looks_31 (by decide) ?_
    rw [mup_s, mup_m, mup_s, mup_m]
    rw [← hfx]
    refine aw_aload_n B 0 rfl dX12_looks_32 rfl ?_
    refine aw_iconst B 0 (by decide) dX12_looks_33 ?_
    refine m_put B f_X12_121 dX12_looks_34 (ms_11 _ _ _) (by decide) ?_
    refine aw_aload_n B 0 rfl dX12_looks_37 rfl ?_
    refine aw_iconst B 0 (by decide) dX12_looks_38 ?_
    refine m_put B f_X12_124 dX12_looks_39 (ms_12 _ _ _) (by decide) ?_
    refine aw_aload_n B 0 rfl dX12_looks_42 rfl ?_
    refine m_get B f_X12_9 dX12_looks_43 (mg_1 _ _) ?_
    refine aw_bipush B 7 (by decide) dX12_looks_46 ?_
    refine m_ld B (7) (rfl) ((by decide)) dX12_looks_48 (by decide) ?_
    rw [show mup A 3 f3 1 7 = nI c from by rw [mup_n (by decide)]; exact e7]
    refine aw_iconst B (-1) (by decide) dX12_looks_49 ?_
    refine aw_icmp_ne B 57 dX12_looks_50 (fun c50 => ?_) (fun c50 => absurd c50 (fun z => by have z := congrArg Int32.toInt z; rw [nI_toInt (by omega), show (-1 : Int32).toInt = -1 by decide] at z; omega))
    refine aw_aload_n B 0 rfl dX12_looks_57 rfl ?_
    refine m_get B f_X12_9 dX12_looks_58 (mg_1 _ _) ?_
    refine aw_sipush B 194 (by decide) dX12_looks_61 ?_
    refine aw_aload_n B 0 rfl dX12_looks_64 rfl ?_
    refine m_get B f_X12_9 dX12_looks_65 (mg_1 _ _) ?_
    refine aw_bipush B 7 (by decide) dX12_looks_68 ?_
    refine m_ld B (7) (rfl) ((by decide)) dX12_looks_70 (by decide) ?_
    rw [show mup A 3 f3 1 7 = nI c from by rw [mup_n (by decide)]; exact e7]
    refine aw_iadd B dX12_looks_71 ?_
    refine m_ld B (194 + c) (ix_c 194 rfl) (by show _ < 899; omega) dX12_looks_72 (by decide) ?_
    rw [show mup A 3 f3 1 (194 + c) = nI Q.length from by rw [mup_n (by decide)]; exact ecnt]
    refine aw_istore2 B dX12_looks_73 ?_
    refine aw_sipush B 199 (by decide) dX12_looks_74 ?_
    refine aw_sipush B 140 (by decide) dX12_looks_77 ?_
    refine aw_aload_n B 0 rfl dX12_looks_80 rfl ?_
    refine m_get B f_X12_9 dX12_looks_81 (mg_1 _ _) ?_
    refine aw_bipush B 7 (by decide) dX12_looks_84 ?_
    refine m_ld B (7) (rfl) ((by decide)) dX12_looks_86 (by decide) ?_
    rw [show mup A 3 f3 1 7 = nI c from by rw [mup_n (by decide)]; exact e7]
    refine aw_imul B dX12_looks_87 ?_
    refine aw_iadd B dX12_looks_88 ?_
    rw [show (140 : Int32) * nI c = nI (140 * c) from pk_mul 140 c, show (199 : Int32) + nI (140 * c) = nI (199 + 140 * c) from nI_add 199 (140 * c)]
    refine aw_istore3 B dX12_looks_89 ?_
    refine aw_iconst B 0 (by decide) dX12_looks_90 ?_
    refine aw_istore4 B dX12_looks_91 ?_
    refine aw_iload_n B 3 rfl dX12_looks_93 rfl ?_
    refine aw_istore5 B dX12_looks_94 ?_
    rw [h4]
    refine AW.weak ?_ (looks_loop h m F A tm Q htm hr B f3 hf3 (199 + 140 * c) (by omega) Q 0 [] 0 0 (A 4) (by simp) ecode hwf (by simp) (fun k hk => absurd hk (by simp)) rfl)
    exact ⟨Or.inr rfl, Or.inr rfl, Or.inr rfl, Or.inr rfl, Or.inr rfl, Or.inr rfl, Or.inl rfl, Or.inl rfl, Or.inl rfl, Or.inl rfl, trivial⟩
end
section
def absI (x : Int32) : Int32 := if x < 0 then -x else x
/-- LEVEL at an hour -/
def lvl (tm : Nat) (Q : pP) : Int32 := if absI (nI (tm % 12) - 6) + (evL tm Q).1 < 0 then 0 else if absI (nI (tm % 12) - 6) + (evL tm Q).1 ≤ 9 then absI (nI (tm % 12) - 6) + (evL tm Q).1 else 9
theorem lvl_rng (tm : Nat) (Q : pP) : rng (lvl tm Q) 0 9 := by
  unfold lvl
  split
  · exact ⟨0, by omega, by omega, rfl⟩
  · rename_i h0
    split
    · rename_i h9
      obtain ⟨j, hj, e⟩ := nI_of h0
      rw [e] at h9 ⊢
      exact ⟨j, by omega, (nI_leI (b := 9) hj (by decide)).mp h9, rfl⟩
    · exact ⟨9, by omega, by omega, rfl⟩
def eqF (ks : List Nat) (F F' : Nat → Int32) : Prop := ∀ k, k ∉ ks → F' k = F k
def eqA (ks : List Nat) (A A' : Nat → Nat → Int32) : Prop := ∀ k, k ∉ ks → A' k = A k
theorem eqF.rf {ks : List Nat} {F : Nat → Int32} : eqF ks F F := fun _ _ => rfl
theorem eqA.rf {ks : List Nat} {A : Nat → Nat → Int32} : eqA ks A A := fun _ _ => rfl
theorem eqF.tr {ks : List Nat} {F G H : Nat → Int32} (h1 : eqF ks F G) (h2 : eqF ks G H) : eqF ks F H := fun k hk => (h2 k hk).trans (h1 k hk)
theorem eqA.tr {ks : List Nat} {F G H : Nat → Nat → Int32} (h1 : eqA ks F G) (h2 : eqA ks G H) : eqA ks F H := fun k hk => (h2 k hk).trans (h1 k hk)
theorem eqF.mono {ks ls : List Nat} {F G : Nat → Int32} (h : eqF ks F G) (hs : ∀ k ∈ ks, k ∈ ls) : eqF ls F G := fun k hk => h k (fun z => hk (hs k z))
theorem eqA.mono {ks ls : List Nat} {F G : Nat → Nat → Int32} (h : eqA ks F G) (hs : ∀ k ∈ ks, k ∈ ls) : eqA ls F G := fun k hk => h k (fun z => hk (hs k z))
theorem eqF.up {ks : List Nat} {F G : Nat → Int32} {j : Nat} {x : Int32} (h : eqF ks F G) (hj : j ∈ ks) : eqF ks F (upd G j x) := fun k hk => by
  rw [upd_n (fun e => hk (by rw [e]; exact hj))]; exact h k hk
theorem eqA.up {ks : List Nat} {F G : Nat → Nat → Int32} {j : Nat} {x : Nat → Int32} (h : eqA ks F G) (hj : j ∈ ks) : eqA ks F (mup G j x) := fun k hk => by
  rw [mup_n (fun e => hk (by rw [e]; exact hj))]; exact h k hk
def mgar (g : zG) (h : Hp) (m : Nat) (F : Nat → Int32) (A : Nat → Nat → Int32) (fs as : List Nat) (P : (Nat → Int32) → (Nat → Nat → Int32) → Prop) : Hp → Prop := fun h' => ∃ F' A', h' = hM g h m F' A' ∧ eqF fs F F' ∧ eqA as A A' ∧ P F' A'

theorem dX12_levelAt_0 : decode cX12_levelAt 0 = .ok (.aload_n 0, 1) := by decide +kernel
theorem dX12_levelAt_1 : decode cX12_levelAt 1 = .ok (.iload_n 1, 1) := by decide +kernel
theorem dX12_levelAt_2 : decode cX12_levelAt 2 = .ok (.invokevirtual 127, 3) := by decide +kernel
theorem dX12_levelAt_5 : decode cX12_levelAt 5 = .ok (.iload_n 1, 1) := by decide +kernel
theorem dX12_levelAt_6 : decode cX12_levelAt 6 = .ok (.bipush 12, 2) := by decide +kernel
theorem dX12_levelAt_8 : decode cX12_levelAt 8 = .ok (.irem, 1) := by decide +kernel
theorem dX12_levelAt_9 : decode cX12_levelAt 9 = .ok (.bipush 6, 2) := by decide +kernel
theorem dX12_levelAt_11 : decode cX12_levelAt 11 = .ok (.isub, 1) := by decide +kernel
theorem dX12_levelAt_12 : decode cX12_levelAt 12 = .ok (.istore_n 2, 1) := by decide +kernel
theorem dX12_levelAt_13 : decode cX12_levelAt 13 = .ok (.iload_n 2, 1) := by decide +kernel
theorem dX12_levelAt_14 : decode cX12_levelAt 14 = .ok (.ifCond .ge 8, 3) := by decide +kernel
theorem dX12_levelAt_17 : decode cX12_levelAt 17 = .ok (.iload_n 2, 1) := by decide +kernel
theorem dX12_levelAt_18 : decode cX12_levelAt 18 = .ok (.ineg, 1) := by decide +kernel
theorem dX12_levelAt_19 : decode cX12_levelAt 19 = .ok (.goto 4, 3) := by decide +kernel
theorem dX12_levelAt_22 : decode cX12_levelAt 22 = .ok (.iload_n 2, 1) := by decide +kernel
theorem dX12_levelAt_23 : decode cX12_levelAt 23 = .ok (.aload_n 0, 1) := by decide +kernel
theorem dX12_levelAt_24 : decode cX12_levelAt 24 = .ok (.getfield 121, 3) := by decide +kernel
theorem dX12_levelAt_27 : decode cX12_levelAt 27 = .ok (.iadd, 1) := by decide +kernel
theorem dX12_levelAt_28 : decode cX12_levelAt 28 = .ok (.istore_n 3, 1) := by decide +kernel
theorem dX12_levelAt_29 : decode cX12_levelAt 29 = .ok (.iload_n 3, 1) := by decide +kernel
theorem dX12_levelAt_30 : decode cX12_levelAt 30 = .ok (.ifCond .ge 7, 3) := by decide +kernel
theorem dX12_levelAt_33 : decode cX12_levelAt 33 = .ok (.iconst 0, 1) := by decide +kernel
theorem dX12_levelAt_34 : decode cX12_levelAt 34 = .ok (.goto 15, 3) := by decide +kernel
theorem dX12_levelAt_37 : decode cX12_levelAt 37 = .ok (.iload_n 3, 1) := by decide +kernel
theorem dX12_levelAt_38 : decode cX12_levelAt 38 = .ok (.bipush 9, 2) := by decide +kernel
theorem dX12_levelAt_40 : decode cX12_levelAt 40 = .ok (.if_icmp .le 8, 3) := by decide +kernel
theorem dX12_levelAt_43 : decode cX12_levelAt 43 = .ok (.bipush 9, 2) := by decide +kernel
theorem dX12_levelAt_45 : decode cX12_levelAt 45 = .ok (.goto 4, 3) := by decide +kernel
theorem dX12_levelAt_48 : decode cX12_levelAt 48 = .ok (.iload_n 3, 1) := by decide +kernel
theorem dX12_levelAt_49 : decode cX12_levelAt 49 = .ok (.ireturn, 1) := by decide +kernel
set_option maxRecDepth 100000 in
set_option maxHeartbeats 4000000 in
theorem s_levelAt (l : Launch) (g : zG) (h : Hp) (m : Nat) (F : Nat → Int32) (A : Nat → Nat → Int32) (tm : Nat) (Q : pP) (htm : tm ≤ 20000) (hQ : hold (A 1) Q) (hwf : wfp 0 Q) : Sp l g yX12_levelAt cX12_levelAt 4 (some .int) (rmz 2) [.ref m, .int (nI tm)] (hM g h m F A) (zI fun r h' => r = lvl tm Q ∧ mgar g h m F A [11, 12] [3, 4] (fun F' _ => F' 12 = p10 (evL tm Q).2) h') := by
  refine Sp.of [some (.ref m), some (.int (nI tm)), none, none] (by decide) (Nat.le_of_ble_eq_true rfl) rfl rfl ?_
  rintro X rfl hr rfl B
  show AW X 0 0 0 _ _ _ _
  refine aw_aload_n B 0 rfl dX12_levelAt_0 rfl ?_
  refine aw_iload_n B 1 rfl dX12_levelAt_1 rfl ?_
  refine aw_callV B 0 0 (s_looks _ _ _ _ _ _ tm Q htm hQ hwf) co_X12_looks k_X12_127 dX12_levelAt_2 hM_o rfl rfl rfl rfl (Nat.le_of_ble_eq_true rfl) (zrm hr (by decide)) (Nat.le_refl _) (Nat.le_refl _) (kV fun h2 hp2 => ?_)
  obtain ⟨f3, f4, rfl⟩ := hp2
  refine aw_iload_n B 1 rfl dX12_levelAt_5 rfl ?_
  refine aw_bipush B 12 (by decide) dX12_levelAt_6 ?_
  refine aw_irem B (by decide) dX12_levelAt_8 ?_
  rw [show nI tm - nI tm / 12 * 12 = nI (tm % 12) from pk_rem (d := 12) (by omega) (by decide) (by decide)]
  refine aw_bipush B 6 (by decide) dX12_levelAt_9 ?_
  refine aw_isub B dX12_levelAt_11 ?_
  refine aw_istore2 B dX12_levelAt_12 ?_
  refine aw_iload_n B 2 rfl dX12_levelAt_13 rfl ?_
  refine aw_if_ge B 22 dX12_levelAt_14 (fun c14 => ?_) (fun c14 => ?_)
  · refine aw_iload_n B 2 rfl dX12_levelAt_22 rfl ?_
    refine aw_aload_n B 0 rfl dX12_levelAt_23 rfl ?_
    refine m_get B f_X12_121 dX12_levelAt_24 (mg_11 _ _) ?_
    rw [upd_n (show (11 : Nat) ≠ 12 by decide), upd_s]
    refine aw_iadd B dX12_levelAt_27 ?_
    refine aw_istore3 B dX12_levelAt_28 ?_
    refine aw_iload_n B 3 rfl dX12_levelAt_29 rfl ?_
    refine aw_if_ge B 37 dX12_levelAt_30 (fun c30 => ?_) (fun c30 => ?_)
    · refine aw_iload_n B 3 rfl dX12_levelAt_37 rfl ?_
      refine aw_bipush B 9 (by decide) dX12_levelAt_38 ?_
      refine aw_icmp_le B 48 dX12_levelAt_40 (fun c40 => ?_) (fun c40 => ?_)
      · refine aw_iload_n B 3 rfl dX12_levelAt_48 rfl ?_
        refine aw_iret B rfl rfl dX12_levelAt_49 ?_
        have ea : absI (nI (tm % 12) - 6) = nI (tm % 12) - 6 := by unfold absI; rw [if_neg (Int32.not_lt.mpr c14)]
        exact ⟨_, rfl, by unfold lvl; rw [ea, if_neg (Int32.not_lt.mpr c30), if_pos c40], _, _, rfl, (eqF.rf.up (by simp)).up (by simp), (eqA.rf.up (by simp)).up (by simp), upd_s⟩
      · refine aw_bipush B 9 (by decide) dX12_levelAt_43 ?_
        refine aw_goto B 49 dX12_levelAt_45 ?_
        refine aw_iret B rfl rfl dX12_levelAt_49 ?_
        have ea : absI (nI (tm % 12) - 6) = nI (tm % 12) - 6 := by unfold absI; rw [if_neg (Int32.not_lt.mpr c14)]
        exact ⟨_, rfl, by unfold lvl; rw [ea, if_neg (Int32.not_lt.mpr c30), if_neg c40], _, _, rfl, (eqF.rf.up (by simp)).up (by simp), (eqA.rf.up (by simp)).up (by simp), upd_s⟩
    · refine aw_iconst B 0 (by decide) dX12_levelAt_33 ?_
      refine aw_goto B 49 dX12_levelAt_34 ?_
      refine aw_iret B rfl rfl dX12_levelAt_49 ?_
      have ea : absI (nI (tm % 12) - 6) = nI (tm % 12) - 6 := by unfold absI; rw [if_neg (Int32.not_lt.mpr c14)]
      exact ⟨_, rfl, by unfold lvl; rw [ea, if_pos (Int32.not_le.mp c30)], _, _, rfl, (eqF.rf.up (by simp)).up (by simp), (eqA.rf.up (by simp)).up (by simp), upd_s⟩
  · refine aw_iload_n B 2 rfl dX12_levelAt_17 rfl ?_
    refine aw_ineg B dX12_levelAt_18 ?_
    refine aw_goto B 23 dX12_levelAt_19 ?_
    refine aw_aload_n B 0 rfl dX12_levelAt_23 rfl ?_
    refine m_get B f_X12_121 dX12_levelAt_24 (mg_11 _ _) ?_
    rw [upd_n (show (11 : Nat) ≠ 12 by decide), upd_s]
    refine aw_iadd B dX12_levelAt_27 ?_
    refine aw_istore3 B dX12_levelAt_28 ?_
    refine aw_iload_n B 3 rfl dX12_levelAt_29 rfl ?_
    refine aw_if_ge B 37 dX12_levelAt_30 (fun c30 => ?_) (fun c30 => ?_)
    · refine aw_iload_n B 3 rfl dX12_levelAt_37 rfl ?_
      refine aw_bipush B 9 (by decide) dX12_levelAt_38 ?_
      refine aw_icmp_le B 48 dX12_levelAt_40 (fun c40 => ?_) (fun c40 => ?_)
      · refine aw_iload_n B 3 rfl dX12_levelAt_48 rfl ?_
        refine aw_iret B rfl rfl dX12_levelAt_49 ?_
        have ea : absI (nI (tm % 12) - 6) = -(nI (tm % 12) - 6) := by unfold absI; rw [if_pos (Int32.not_le.mp c14)]
        exact ⟨_, rfl, by unfold lvl; rw [ea, if_neg (Int32.not_lt.mpr c30), if_pos c40], _, _, rfl, (eqF.rf.up (by simp)).up (by simp), (eqA.rf.up (by simp)).up (by simp), upd_s⟩
      · refine aw_bipush B 9 (by decide) dX12_levelAt_43 ?_
        refine aw_goto B 49 dX12_levelAt_45 ?_
        refine aw_iret B rfl rfl dX12_levelAt_49 ?_
        have ea : absI (nI (tm % 12) - 6) = -(nI (tm % 12) - 6) := by unfold absI; rw [if_pos (Int32.not_le.mp c14)]
        exact ⟨_, rfl, by unfold lvl; rw [ea, if_neg (Int32.not_lt.mpr c30), if_neg c40], _, _, rfl, (eqF.rf.up (by simp)).up (by simp), (eqA.rf.up (by simp)).up (by simp), upd_s⟩
    · refine aw_iconst B 0 (by decide) dX12_levelAt_33 ?_
      refine aw_goto B 49 dX12_levelAt_34 ?_
      refine aw_iret B rfl rfl dX12_levelAt_49 ?_
      have ea : absI (nI (tm % 12) - 6) = -(nI (tm % 12) - 6) := by unfold absI; rw [if_pos (Int32.not_le.mp c14)]
      exact ⟨_, rfl, by unfold lvl; rw [ea, if_pos (Int32.not_le.mp c30)], _, _, rfl, (eqF.rf.up (by simp)).up (by simp), (eqA.rf.up (by simp)).up (by simp), upd_s⟩
/-- the hour of place i of the row of levels -/
def hrI (T i : Nat) : Nat := if T + i = 0 then 11 else T + i - 1
def lvI (T : Nat) (Q : pP) (F : Nat → Int32) (A : Nat → Nat → Int32) : Prop := ∃ kn, F 14 = nI kn ∧ kn ≤ 402 ∧ ∀ i, i < kn → A 5 i = lvl (hrI T i) Q
theorem dX12_levelIn_0 : decode cX12_levelIn 0 = .ok (.aload_n 0, 1) := by decide +kernel
theorem dX12_levelIn_1 : decode cX12_levelIn 1 = .ok (.getfield 130, 3) := by decide +kernel
theorem dX12_levelIn_4 : decode cX12_levelIn 4 = .ok (.iload_n 1, 1) := by decide +kernel
theorem dX12_levelIn_5 : decode cX12_levelIn 5 = .ok (.iconst 1, 1) := by decide +kernel
theorem dX12_levelIn_6 : decode cX12_levelIn 6 = .ok (.iadd, 1) := by decide +kernel
theorem dX12_levelIn_7 : decode cX12_levelIn 7 = .ok (.if_icmp .gt 54, 3) := by decide +kernel
theorem dX12_levelIn_10 : decode cX12_levelIn 10 = .ok (.aload_n 0, 1) := by decide +kernel
theorem dX12_levelIn_11 : decode cX12_levelIn 11 = .ok (.getfield 9, 3) := by decide +kernel
theorem dX12_levelIn_14 : decode cX12_levelIn 14 = .ok (.bipush 8, 2) := by decide +kernel
theorem dX12_levelIn_16 : decode cX12_levelIn 16 = .ok (.iaload, 1) := by decide +kernel
theorem dX12_levelIn_17 : decode cX12_levelIn 17 = .ok (.aload_n 0, 1) := by decide +kernel
theorem dX12_levelIn_18 : decode cX12_levelIn 18 = .ok (.getfield 130, 3) := by decide +kernel
theorem dX12_levelIn_21 : decode cX12_levelIn 21 = .ok (.iadd, 1) := by decide +kernel
theorem dX12_levelIn_22 : decode cX12_levelIn 22 = .ok (.iconst 1, 1) := by decide +kernel
theorem dX12_levelIn_23 : decode cX12_levelIn 23 = .ok (.isub, 1) := by decide +kernel
theorem dX12_levelIn_24 : decode cX12_levelIn 24 = .ok (.istore_n 2, 1) := by decide +kernel
theorem dX12_levelIn_25 : decode cX12_levelIn 25 = .ok (.aload_n 0, 1) := by decide +kernel
theorem dX12_levelIn_26 : decode cX12_levelIn 26 = .ok (.getfield 25, 3) := by decide +kernel
theorem dX12_levelIn_29 : decode cX12_levelIn 29 = .ok (.aload_n 0, 1) := by decide +kernel
theorem dX12_levelIn_30 : decode cX12_levelIn 30 = .ok (.getfield 130, 3) := by decide +kernel
theorem dX12_levelIn_33 : decode cX12_levelIn 33 = .ok (.aload_n 0, 1) := by decide +kernel
theorem dX12_levelIn_34 : decode cX12_levelIn 34 = .ok (.iload_n 2, 1) := by decide +kernel
theorem dX12_levelIn_35 : decode cX12_levelIn 35 = .ok (.ifCond .ge 8, 3) := by decide +kernel
theorem dX12_levelIn_38 : decode cX12_levelIn 38 = .ok (.bipush 11, 2) := by decide +kernel
theorem dX12_levelIn_40 : decode cX12_levelIn 40 = .ok (.goto 4, 3) := by decide +kernel
theorem dX12_levelIn_43 : decode cX12_levelIn 43 = .ok (.iload_n 2, 1) := by decide +kernel
theorem dX12_levelIn_44 : decode cX12_levelIn 44 = .ok (.invokevirtual 133, 3) := by decide +kernel
theorem dX12_levelIn_47 : decode cX12_levelIn 47 = .ok (.iastore, 1) := by decide +kernel
theorem dX12_levelIn_48 : decode cX12_levelIn 48 = .ok (.aload_n 0, 1) := by decide +kernel
theorem dX12_levelIn_49 : decode cX12_levelIn 49 = .ok (.dup, 1) := by decide +kernel
theorem dX12_levelIn_50 : decode cX12_levelIn 50 = .ok (.getfield 130, 3) := by decide +kernel
theorem dX12_levelIn_53 : decode cX12_levelIn 53 = .ok (.iconst 1, 1) := by decide +kernel
theorem dX12_levelIn_54 : decode cX12_levelIn 54 = .ok (.iadd, 1) := by decide +kernel
theorem dX12_levelIn_55 : decode cX12_levelIn 55 = .ok (.putfield 130, 3) := by decide +kernel
theorem dX12_levelIn_58 : decode cX12_levelIn 58 = .ok (.goto (-58), 3) := by decide +kernel
theorem dX12_levelIn_61 : decode cX12_levelIn 61 = .ok (.aload_n 0, 1) := by decide +kernel
theorem dX12_levelIn_62 : decode cX12_levelIn 62 = .ok (.getfield 25, 3) := by decide +kernel
theorem dX12_levelIn_65 : decode cX12_levelIn 65 = .ok (.iload_n 1, 1) := by decide +kernel
theorem dX12_levelIn_66 : decode cX12_levelIn 66 = .ok (.iconst 1, 1) := by decide +kernel
theorem dX12_levelIn_67 : decode cX12_levelIn 67 = .ok (.iadd, 1) := by decide +kernel
theorem dX12_levelIn_68 : decode cX12_levelIn 68 = .ok (.iaload, 1) := by decide +kernel
theorem dX12_levelIn_69 : decode cX12_levelIn 69 = .ok (.ireturn, 1) := by decide +kernel
set_option maxRecDepth 100000 in
set_option maxHeartbeats 4000000 in
theorem s_levelIn (l : Launch) (g : zG) (h : Hp) (m : Nat) (F : Nat → Int32) (A : Nat → Nat → Int32) (x : Int32) (k1 T : Nat) (Q : pP) (ex : x + 1 = nI k1) (hk1 : k1 ≤ 401) (eT : A 1 8 = nI T) (hT : T ≤ 9999) (hQ : hold (A 1) Q) (hwf : wfp 0 Q) (hlv : lvI T Q F A) : Sp l g yX12_levelIn cX12_levelIn 3 (some .int) (rmz 3) [.ref m, .int x] (hM g h m F A) (zI fun r h' => r = lvl (hrI T k1) Q ∧ mgar g h m F A [11, 12, 14] [3, 4, 5] (fun F' A' => lvI T Q F' A') h') := by
  refine Sp.of [some (.ref m), some (.int x), none] (by decide) (Nat.le_of_ble_eq_true rfl) rfl rfl ?_
  rintro X rfl hr rfl B
  show AW X 0 0 0 _ _ _ _
  have lp : ∀ (n kn : Nat) (F1 : Nat → Int32) (A1 : Nat → Nat → Int32) (o2 : Option Value), eqF [11, 12, 14] F F1 → eqA [3, 4, 5] A A1 → F1 14 = nI kn → kn ≤ 402 → (∀ i, i < kn → A1 5 i = lvl (hrI T i) Q) → 402 < kn + n → AW X 0 0 0 [some (.ref m), some (.int x), none] [] (hM (zXg X) h m F1 A1) (zI fun r h' => r = lvl (hrI T k1) Q ∧ mgar (zXg X) h m F A [11, 12, 14] [3, 4, 5] (fun F' A' => lvI T Q F' A') h') := by
    intro n
    induction n with
    | zero => intros; omega
    | succ n ih =>
      intro kn F1 A1 o2 hF hA ek hkn hlv hn
      have e1 : A1 1 = A 1 := hA 1 (by simp)
      refine aw_aload_n B 0 rfl dX12_levelIn_0 rfl ?_
      refine m_get B f_X12_130 dX12_levelIn_1 (mg_14 _ _) ?_
      refine aw_iload_n B 1 rfl dX12_levelIn_4 rfl ?_
      refine aw_iconst B 1 (by decide) dX12_levelIn_5 ?_
      refine aw_iadd B dX12_levelIn_6 ?_
      refine aw_icmp_gt B 61 dX12_levelIn_7 (fun c7 => ?_) (fun c7 => ?_)
      · refine aw_aload_n B 0 rfl dX12_levelIn_61 rfl ?_
        refine m_get B f_X12_25 dX12_levelIn_62 (mg_13 _ _) ?_
        refine aw_iload_n B 1 rfl dX12_levelIn_65 rfl ?_
        refine aw_iconst B 1 (by decide) dX12_levelIn_66 ?_
        refine aw_iadd B dX12_levelIn_67 ?_
        refine m_ld B (k1) (ex) (by show _ < 402; omega) dX12_levelIn_68 (by decide) ?_
        refine aw_iret B rfl rfl dX12_levelIn_69 ?_
        have hlt : k1 < kn := Nat.not_le.mp fun z => absurd (show F1 14 ≤ x + 1 from by rw [ek, ex]; exact nI_le z (by omega)) (Int32.not_le.mpr c7)
        exact ⟨_, rfl, hlv k1 hlt, F1, A1, rfl, hF, hA, kn, ek, hkn, hlv⟩
      · have hle : kn ≤ k1 := (nI_leI (by omega) (by omega)).mp (by rw [← ek, ← ex]; exact Int32.not_lt.mp c7)
        refine aw_aload_n B 0 rfl dX12_levelIn_10 rfl ?_
        refine m_get B f_X12_9 dX12_levelIn_11 (mg_1 _ _) ?_
        refine aw_bipush B 8 (by decide) dX12_levelIn_14 ?_
        refine m_ld B (8) (rfl) (by decide) dX12_levelIn_16 (by decide) ?_
        refine aw_aload_n B 0 rfl dX12_levelIn_17 rfl ?_
        refine m_get B f_X12_130 dX12_levelIn_18 (mg_14 _ _) ?_
        refine aw_iadd B dX12_levelIn_21 ?_
        refine aw_iconst B 1 (by decide) dX12_levelIn_22 ?_
        refine aw_isub B dX12_levelIn_23 ?_
        rw [e1, eT, ek, nI_add]
        refine aw_istore2 B dX12_levelIn_24 ?_
        refine aw_aload_n B 0 rfl dX12_levelIn_25 rfl ?_
        refine m_get B f_X12_25 dX12_levelIn_26 (mg_13 _ _) ?_
        refine aw_aload_n B 0 rfl dX12_levelIn_29 rfl ?_
        refine m_get B f_X12_130 dX12_levelIn_30 (mg_14 _ _) ?_
        refine aw_aload_n B 0 rfl dX12_levelIn_33 rfl ?_
        refine aw_iload_n B 2 rfl dX12_levelIn_34 rfl ?_
        refine aw_if_ge B 43 dX12_levelIn_35 (fun c35 => ?_) (fun c35 => ?_)
        · have hz : ¬ T + kn = 0 := fun z => absurd c35 (by rw [z]; decide)
          have eh : hrI T kn = T + kn - 1 := by unfold hrI; rw [if_neg hz]
          refine aw_iload_n B 2 rfl dX12_levelIn_43 rfl ?_
          first
            | rw [show nI (T + kn) - 1 = nI (hrI T kn) from by rw [eh]; exact pk_sub (a := T + kn) (b := 1) (by omega)]
            | rw [show (11 : Int32) = nI (hrI T kn) from by rw [eh]; rfl]
          refine aw_callV B 0 0 (s_levelAt _ _ _ _ _ _ (hrI T kn) Q (by unfold hrI; split <;> omega) (by rw [e1]; exact hQ) hwf) co_X12_levelAt k_X12_133 dX12_levelIn_44 hM_o rfl rfl rfl rfl (Nat.le_of_ble_eq_true rfl) (zrm hr (by decide)) (Nat.le_refl _) (Nat.le_refl _) (kI fun r44 h44 hp44 => ?_)
          obtain ⟨rfl, F2, A2, rfl, hF2, hA2, -⟩ := hp44
          refine m_st B (kn) (ek) (by show _ < 402; omega) dX12_levelIn_47 (by decide) ?_
          refine aw_aload_n B 0 rfl dX12_levelIn_48 rfl ?_
          refine aw_dup B rfl dX12_levelIn_49 ?_
          refine m_get B f_X12_130 dX12_levelIn_50 (mg_14 _ _) ?_
          refine aw_iconst B 1 (by decide) dX12_levelIn_53 ?_
          refine aw_iadd B dX12_levelIn_54 ?_
          refine m_put B f_X12_130 dX12_levelIn_55 (ms_14 _ _ _) (by decide) ?_
          refine aw_goto B 0 dX12_levelIn_58 ?_
          have e2 : A2 5 = A1 5 := hA2 5 (by simp)
          have e3 : F2 14 = nI kn := (hF2 14 (by simp)).trans ek
          refine AW.weak (lv' := [some (.ref m), some (.int x), none]) ⟨Or.inr rfl, Or.inr rfl, Or.inl rfl, trivial⟩ ?_
          refine ih (kn + 1) _ _ none ?_ ?_ ?_ (by omega) ?_ (by omega)
          · exact (hF.tr (hF2.mono (by simp))).up (by simp)
          · exact (hA.tr (hA2.mono (by simp))).up (by simp)
          · rw [upd_s, e3, nI_1]
          · intro i hi
            rw [mup_s]
            by_cases hik : i = kn
            · rw [hik, upd_s]
            · rw [upd_n hik, e2]
              exact hlv i (by omega)
        · have hz : T + kn = 0 := by
            rcases Nat.eq_zero_or_pos (T + kn) with z | z
            · exact z
            · exact absurd (show (0 : Int32) ≤ nI (T + kn) - 1 from by rw [show nI (T + kn) - 1 = nI (T + kn - 1) from pk_sub (a := T + kn) (b := 1) z]; exact nI_pos' (by omega)) c35
          have eh : hrI T kn = 11 := by unfold hrI; rw [if_pos hz]
          refine aw_bipush B 11 (by decide) dX12_levelIn_38 ?_
          refine aw_goto B 44 dX12_levelIn_40 ?_
          first
            | rw [show nI (T + kn) - 1 = nI (hrI T kn) from by rw [eh]; exact pk_sub (a := T + kn) (b := 1) (by omega)]
            | rw [show (11 : Int32) = nI (hrI T kn) from by rw [eh]; rfl]
          refine aw_callV B 0 0 (s_levelAt _ _ _ _ _ _ (hrI T kn) Q (by unfold hrI; split <;> omega) (by rw [e1]; exact hQ) hwf) co_X12_levelAt k_X12_133 dX12_levelIn_44 hM_o rfl rfl rfl rfl (Nat.le_of_ble_eq_true rfl) (zrm hr (by decide)) (Nat.le_refl _) (Nat.le_refl _) (kI fun r44 h44 hp44 => ?_)
          obtain ⟨rfl, F2, A2, rfl, hF2, hA2, -⟩ := hp44
          refine m_st B (kn) (ek) (by show _ < 402; omega) dX12_levelIn_47 (by decide) ?_
          refine aw_aload_n B 0 rfl dX12_levelIn_48 rfl ?_
          refine aw_dup B rfl dX12_levelIn_49 ?_
          refine m_get B f_X12_130 dX12_levelIn_50 (mg_14 _ _) ?_
          refine aw_iconst B 1 (by decide) dX12_levelIn_53 ?_
          refine aw_iadd B dX12_levelIn_54 ?_
          refine m_put B f_X12_130 dX12_levelIn_55 (ms_14 _ _ _) (by decide) ?_
          refine aw_goto B 0 dX12_levelIn_58 ?_
          have e2 : A2 5 = A1 5 := hA2 5 (by simp)
          have e3 : F2 14 = nI kn := (hF2 14 (by simp)).trans ek
          refine AW.weak (lv' := [some (.ref m), some (.int x), none]) ⟨Or.inr rfl, Or.inr rfl, Or.inl rfl, trivial⟩ ?_
          refine ih (kn + 1) _ _ none ?_ ?_ ?_ (by omega) ?_ (by omega)
          · exact (hF.tr (hF2.mono (by simp))).up (by simp)
          · exact (hA.tr (hA2.mono (by simp))).up (by simp)
          · rw [upd_s, e3, nI_1]
          · intro i hi
            rw [mup_s]
            by_cases hik : i = kn
            · rw [hik, upd_s]
            · rw [upd_n hik, e2]
              exact hlv i (by omega)
  obtain ⟨kn, ek, hkn, hl⟩ := hlv
  exact lp 403 kn F A none eqF.rf eqA.rf ek hkn hl (by omega)
end
section
def p_dive (k v : Nat) : Nat := if k = 2 ∨ k = 5 then v % 3 else 0
/-- is the shelf open to a reader of kind k with v, a hours from now -/
def oB (T : Nat) (Q : pP) (k v sh a : Nat) : Bool := decide (lvl (T + a) Q ≤ nI (sh + p_dive k v))
/-- may the reader begin a hours from now -/
def mB (T : Nat) (Q : pP) (k v a : Nat) : Bool := if k = 3 then decide ((T + a) % (v % 3 + 1) = 0) else if k = 6 then (decide ((T + a) % (v % 3 + 1) = 0) && decide (lvl (T + a) Q ≤ lvl (hrI T a) Q)) else true
/-- and go on so long -/
def gB (T : Nat) (Q : pP) (k v sh : Nat) : Nat → Nat → Bool
  | 0, _ => true
  | n + 1, a => oB T Q k v sh a && gB T Q k v sh n (a + 1)
theorem gB_snoc (T : Nat) (Q : pP) (k v sh : Nat) : ∀ n a, gB T Q k v sh (n + 1) a = (gB T Q k v sh n a && oB T Q k v sh (a + n)) := by
  intro n
  induction n with
  | zero => intro a; simp [gB]
  | succ n ih =>
    intro a
    rw [gB, ih, gB, Bool.and_assoc, show a + 1 + n = a + (n + 1) by omega]
def cB (T : Nat) (Q : pP) (k v sh need a : Nat) : Bool := mB T Q k v a && gB T Q k v sh need a
def sFb (T : Nat) (Q : pP) (k v sh need a : Nat) : Nat → Nat → Nat
  | 0, _ => 100000
  | n + 1, b => if b + need ≤ 60 then (if cB T Q k v sh need (a + b) then b + need else sFb T Q k v sh need a n (b + 1)) else 100000
/-- how many hours behind a the slate is read; 100000: not within 60 -/
def sF (T : Nat) (Q : pP) (k v sh need a : Nat) : Nat := sFb T Q k v sh need a 61 0
theorem hrI_s (T a : Nat) : hrI T (a + 1) = T + a := by unfold hrI; rw [if_neg (by omega)]; omega
/-- hours, program: what a query about tides takes from the state -/
def iT (S : Nat → Int32) (T : Nat) (Q : pP) : Prop := S 8 = nI T ∧ T ≤ 9999 ∧ hold S Q ∧ wfp 0 Q
def iK (S : Nat → Int32) (r k v : Nat) : Prop := r < 4 ∧ k ≤ 6 ∧ v ≤ 9 ∧ S (22 + r) = nI k ∧ S (26 + r) = nI v
def iZ (S : Nat → Int32) (s sh n : Nat) : Prop := s < 6 ∧ sh ≤ 8 ∧ 1 ≤ n ∧ n ≤ 4 ∧ S (10 + s) = nI sh ∧ S (16 + s) = nI n
def G9F : List Nat := [11, 12, 14]
def G9A : List Nat := [3, 4, 5]
def lres (g : zG) (h : Hp) (m : Nat) (F : Nat → Int32) (A : Nat → Nat → Int32) (T : Nat) (Q : pP) (v : Int32) : Int32 → Hp → Prop := fun r h' => r = v ∧ mgar g h m F A [11, 12, 14] [3, 4, 5] (fun F' A' => lvI T Q F' A') h'

theorem dX12_isOpen_0 : decode cX12_isOpen 0 = .ok (.aload_n 0, 1) := by decide +kernel
theorem dX12_isOpen_1 : decode cX12_isOpen 1 = .ok (.getfield 9, 3) := by decide +kernel
theorem dX12_isOpen_4 : decode cX12_isOpen 4 = .ok (.bipush 22, 2) := by decide +kernel
theorem dX12_isOpen_6 : decode cX12_isOpen 6 = .ok (.iload_n 1, 1) := by decide +kernel
theorem dX12_isOpen_7 : decode cX12_isOpen 7 = .ok (.iadd, 1) := by decide +kernel
theorem dX12_isOpen_8 : decode cX12_isOpen 8 = .ok (.iaload, 1) := by decide +kernel
theorem dX12_isOpen_9 : decode cX12_isOpen 9 = .ok (.iconst 2, 1) := by decide +kernel
theorem dX12_isOpen_10 : decode cX12_isOpen 10 = .ok (.if_icmp .eq 16, 3) := by decide +kernel
theorem dX12_isOpen_13 : decode cX12_isOpen 13 = .ok (.aload_n 0, 1) := by decide +kernel
theorem dX12_isOpen_14 : decode cX12_isOpen 14 = .ok (.getfield 9, 3) := by decide +kernel
theorem dX12_isOpen_17 : decode cX12_isOpen 17 = .ok (.bipush 22, 2) := by decide +kernel
theorem dX12_isOpen_19 : decode cX12_isOpen 19 = .ok (.iload_n 1, 1) := by decide +kernel
theorem dX12_isOpen_20 : decode cX12_isOpen 20 = .ok (.iadd, 1) := by decide +kernel
theorem dX12_isOpen_21 : decode cX12_isOpen 21 = .ok (.iaload, 1) := by decide +kernel
theorem dX12_isOpen_22 : decode cX12_isOpen 22 = .ok (.iconst 5, 1) := by decide +kernel
theorem dX12_isOpen_23 : decode cX12_isOpen 23 = .ok (.if_icmp .ne 7, 3) := by decide +kernel
theorem dX12_isOpen_26 : decode cX12_isOpen 26 = .ok (.iconst 1, 1) := by decide +kernel
theorem dX12_isOpen_27 : decode cX12_isOpen 27 = .ok (.goto 4, 3) := by decide +kernel
theorem dX12_isOpen_30 : decode cX12_isOpen 30 = .ok (.iconst 0, 1) := by decide +kernel
theorem dX12_isOpen_31 : decode cX12_isOpen 31 = .ok (.istore 4, 2) := by decide +kernel
theorem dX12_isOpen_33 : decode cX12_isOpen 33 = .ok (.aload_n 0, 1) := by decide +kernel
theorem dX12_isOpen_34 : decode cX12_isOpen 34 = .ok (.iload_n 3, 1) := by decide +kernel
theorem dX12_isOpen_35 : decode cX12_isOpen 35 = .ok (.invokevirtual 151, 3) := by decide +kernel
theorem dX12_isOpen_38 : decode cX12_isOpen 38 = .ok (.iload_n 2, 1) := by decide +kernel
theorem dX12_isOpen_39 : decode cX12_isOpen 39 = .ok (.iload 4, 2) := by decide +kernel
theorem dX12_isOpen_41 : decode cX12_isOpen 41 = .ok (.ifCond .eq 17, 3) := by decide +kernel
theorem dX12_isOpen_44 : decode cX12_isOpen 44 = .ok (.aload_n 0, 1) := by decide +kernel
theorem dX12_isOpen_45 : decode cX12_isOpen 45 = .ok (.getfield 9, 3) := by decide +kernel
theorem dX12_isOpen_48 : decode cX12_isOpen 48 = .ok (.bipush 26, 2) := by decide +kernel
theorem dX12_isOpen_50 : decode cX12_isOpen 50 = .ok (.iload_n 1, 1) := by decide +kernel
theorem dX12_isOpen_51 : decode cX12_isOpen 51 = .ok (.iadd, 1) := by decide +kernel
theorem dX12_isOpen_52 : decode cX12_isOpen 52 = .ok (.iaload, 1) := by decide +kernel
theorem dX12_isOpen_53 : decode cX12_isOpen 53 = .ok (.iconst 3, 1) := by decide +kernel
theorem dX12_isOpen_54 : decode cX12_isOpen 54 = .ok (.irem, 1) := by decide +kernel
theorem dX12_isOpen_55 : decode cX12_isOpen 55 = .ok (.goto 4, 3) := by decide +kernel
theorem dX12_isOpen_58 : decode cX12_isOpen 58 = .ok (.iconst 0, 1) := by decide +kernel
theorem dX12_isOpen_59 : decode cX12_isOpen 59 = .ok (.iadd, 1) := by decide +kernel
theorem dX12_isOpen_60 : decode cX12_isOpen 60 = .ok (.if_icmp .gt 7, 3) := by decide +kernel
theorem dX12_isOpen_63 : decode cX12_isOpen 63 = .ok (.iconst 1, 1) := by decide +kernel
theorem dX12_isOpen_64 : decode cX12_isOpen 64 = .ok (.goto 4, 3) := by decide +kernel
theorem dX12_isOpen_67 : decode cX12_isOpen 67 = .ok (.iconst 0, 1) := by decide +kernel
theorem dX12_isOpen_68 : decode cX12_isOpen 68 = .ok (.ireturn, 1) := by decide +kernel
set_option maxRecDepth 100000 in
set_option maxHeartbeats 4000000 in
theorem s_isOpen (l : Launch) (g : zG) (h : Hp) (m : Nat) (F : Nat → Int32) (A : Nat → Nat → Int32) (T : Nat) (Q : pP) (hi : iT (A 1) T Q) (hlv : lvI T Q F A) (r k v sh a : Nat) (hkv : iK (A 1) r k v) (hsh : sh ≤ 8) (ha : a ≤ 400) : Sp l g yX12_isOpen cX12_isOpen 5 (some .boolean) (rmz 4) [.ref m, .int (nI r), .int (nI sh), .int (nI a)] (hM g h m F A) (zI (lres g h m F A T Q (b2 (oB T Q k v sh a)))) := by
  refine Sp.of [some (.ref m), some (.int (nI r)), some (.int (nI sh)), some (.int (nI a)), none] (by decide) (Nat.le_of_ble_eq_true rfl) rfl rfl ?_
  rintro X rfl hr rfl B
  show AW X 0 0 0 _ _ _ _
  obtain ⟨hr4, hk, hv, ek, ev⟩ := hkv
  refine aw_aload_n B 0 rfl dX12_isOpen_0 rfl ?_
  refine m_get B f_X12_9 dX12_isOpen_1 (mg_1 _ _) ?_
  refine aw_bipush B 22 (by decide) dX12_isOpen_4 ?_
  refine aw_iload_n B 1 rfl dX12_isOpen_6 rfl ?_
  refine aw_iadd B dX12_isOpen_7 ?_
  refine m_ld B (22 + r) (ix_c 22 rfl) (by show _ < 899; omega) dX12_isOpen_8 (by decide) ?_
  refine aw_iconst B 2 (by decide) dX12_isOpen_9 ?_
  refine aw_icmp_eq B 26 dX12_isOpen_10 (fun c10 => ?_) (fun c10 => ?_)
  · have hd : p_dive k v = v % 3 := by
      unfold p_dive
      first
        | (have : k = 2 := (nI_eq (b := 2) (by omega) (by decide)).mp (by rw [← ek]; exact c10)
           simp [this]; done)
        | (have : k = 5 := (nI_eq (b := 5) (by omega) (by decide)).mp (by rw [← ek]; exact c23)
           simp [this]; done)
    refine aw_iconst B 1 (by decide) dX12_isOpen_26 ?_
    refine aw_goto B 31 dX12_isOpen_27 ?_
    refine aw_istore4 B dX12_isOpen_31 ?_
    refine aw_aload_n B 0 rfl dX12_isOpen_33 rfl ?_
    refine aw_iload_n B 3 rfl dX12_isOpen_34 rfl ?_
    refine aw_callV B 0 0 (s_levelIn _ _ _ _ _ _ _ (a + 1) T Q (nI_1 a) (by omega) hi.1 hi.2.1 hi.2.2.1 hi.2.2.2 hlv) co_X12_levelIn k_X12_151 dX12_isOpen_35 hM_o rfl rfl rfl rfl (Nat.le_of_ble_eq_true rfl) (zrm hr (by decide)) (Nat.le_refl _) (Nat.le_refl _) (kI fun r35 h35 hp35 => ?_)
    obtain ⟨rfl, F2, A2, rfl, hF2, hA2, hlv2⟩ := hp35
    have e1 : A2 1 = A 1 := hA2 1 (by simp)
    rw [hrI_s]
    refine aw_iload_n B 2 rfl dX12_isOpen_38 rfl ?_
    refine aw_iload B dX12_isOpen_39 rfl ?_
    refine aw_if_eq B 58 dX12_isOpen_41 (fun c41 => absurd c41 (by decide)) (fun c41 => ?_)
    refine aw_aload_n B 0 rfl dX12_isOpen_44 rfl ?_
    refine m_get B f_X12_9 dX12_isOpen_45 (mg_1 _ _) ?_
    refine aw_bipush B 26 (by decide) dX12_isOpen_48 ?_
    refine aw_iload_n B 1 rfl dX12_isOpen_50 rfl ?_
    refine aw_iadd B dX12_isOpen_51 ?_
    refine m_ld B (26 + r) (ix_c 26 rfl) (by show _ < 899; omega) dX12_isOpen_52 (by decide) ?_
    rw [e1, ev]
    refine aw_iconst B 3 (by decide) dX12_isOpen_53 ?_
    refine aw_irem B (by decide) dX12_isOpen_54 ?_
    rw [show nI v - nI v / 3 * 3 = nI (v % 3) from pk_rem (d := 3) (by omega) (by decide) (by decide)]
    rw [← hd]
    refine aw_goto B 59 dX12_isOpen_55 ?_
    refine aw_iadd B dX12_isOpen_59 ?_
    try rw [show (0 : Int32) = nI (p_dive k v) from by rw [hd]; rfl]
    rw [nI_add]
    refine aw_icmp_gt B 67 dX12_isOpen_60 (fun c60 => ?_) (fun c60 => ?_)
    · refine aw_iconst B 0 (by decide) dX12_isOpen_67 ?_
      refine aw_iret B rfl rfl dX12_isOpen_68 ?_
      exact ⟨_, rfl, by unfold oB; rw [b2f (fun z => absurd z (Int32.not_le.mpr c60))], F2, A2, rfl, hF2, hA2, hlv2⟩
    · refine aw_iconst B 1 (by decide) dX12_isOpen_63 ?_
      refine aw_goto B 68 dX12_isOpen_64 ?_
      refine aw_iret B rfl rfl dX12_isOpen_68 ?_
      exact ⟨_, rfl, by unfold oB; rw [b2t (Int32.not_lt.mp c60)], F2, A2, rfl, hF2, hA2, hlv2⟩
  · refine aw_aload_n B 0 rfl dX12_isOpen_13 rfl ?_
    refine m_get B f_X12_9 dX12_isOpen_14 (mg_1 _ _) ?_
    refine aw_bipush B 22 (by decide) dX12_isOpen_17 ?_
    refine aw_iload_n B 1 rfl dX12_isOpen_19 rfl ?_
    refine aw_iadd B dX12_isOpen_20 ?_
    refine m_ld B (22 + r) (ix_c 22 rfl) (by show _ < 899; omega) dX12_isOpen_21 (by decide) ?_
    refine aw_iconst B 5 (by decide) dX12_isOpen_22 ?_
    refine aw_icmp_ne B 30 dX12_isOpen_23 (fun c23 => ?_) (fun c23 => ?_)
    · have hd : p_dive k v = 0 := by
        unfold p_dive
        have h1 : ¬ k = 2 := fun z => c10 (by rw [ek, z]; rfl)
        have h2 : ¬ k = 5 := fun z => c23 (by rw [ek, z]; rfl)
        simp [h1, h2]
      refine aw_iconst B 0 (by decide) dX12_isOpen_30 ?_
      refine aw_istore4 B dX12_isOpen_31 ?_
      refine aw_aload_n B 0 rfl dX12_isOpen_33 rfl ?_
      refine aw_iload_n B 3 rfl dX12_isOpen_34 rfl ?_
      refine aw_callV B 0 0 (s_levelIn _ _ _ _ _ _ _ (a + 1) T Q (nI_1 a) (by omega) hi.1 hi.2.1 hi.2.2.1 hi.2.2.2 hlv) co_X12_levelIn k_X12_151 dX12_isOpen_35 hM_o rfl rfl rfl rfl (Nat.le_of_ble_eq_true rfl) (zrm hr (by decide)) (Nat.le_refl _) (Nat.le_refl _) (kI fun r35 h35 hp35 => ?_)
      obtain ⟨rfl, F2, A2, rfl, hF2, hA2, hlv2⟩ := hp35
      have e1 : A2 1 = A 1 := hA2 1 (by simp)
      rw [hrI_s]
      refine aw_iload_n B 2 rfl dX12_isOpen_38 rfl ?_
      refine aw_iload B dX12_isOpen_39 rfl ?_
      refine aw_if_eq B 58 dX12_isOpen_41 (fun c41 => ?_) (fun c41 => absurd rfl c41)
      refine aw_iconst B 0 (by decide) dX12_isOpen_58 ?_
      refine aw_iadd B dX12_isOpen_59 ?_
      try rw [show (0 : Int32) = nI (p_dive k v) from by rw [hd]; rfl]
      rw [nI_add]
      refine aw_icmp_gt B 67 dX12_isOpen_60 (fun c60 => ?_) (fun c60 => ?_)
      · refine aw_iconst B 0 (by decide) dX12_isOpen_67 ?_
        refine aw_iret B rfl rfl dX12_isOpen_68 ?_
        exact ⟨_, rfl, by unfold oB; rw [b2f (fun z => absurd z (Int32.not_le.mpr c60))], F2, A2, rfl, hF2, hA2, hlv2⟩
      · refine aw_iconst B 1 (by decide) dX12_isOpen_63 ?_
        refine aw_goto B 68 dX12_isOpen_64 ?_
        refine aw_iret B rfl rfl dX12_isOpen_68 ?_
        exact ⟨_, rfl, by unfold oB; rw [b2t (Int32.not_lt.mp c60)], F2, A2, rfl, hF2, hA2, hlv2⟩
    · have hd : p_dive k v = v % 3 := by
        unfold p_dive
        first
          | (have : k = 2 := (nI_eq (b := 2) (by omega) (by decide)).mp (by rw [← ek]; exact c10)
             simp [this]; done)
          | (have : k = 5 := (nI_eq (b := 5) (by omega) (by decide)).mp (by rw [← ek]; exact c23)
             simp [this]; done)
      refine aw_iconst B 1 (by decide) dX12_isOpen_26 ?_
      refine aw_goto B 31 dX12_isOpen_27 ?_
      refine aw_istore4 B dX12_isOpen_31 ?_
      refine aw_aload_n B 0 rfl dX12_isOpen_33 rfl ?_
      refine aw_iload_n B 3 rfl dX12_isOpen_34 rfl ?_
      refine aw_callV B 0 0 (s_levelIn _ _ _ _ _ _ _ (a + 1) T Q (nI_1 a) (by omega) hi.1 hi.2.1 hi.2.2.1 hi.2.2.2 hlv) co_X12_levelIn k_X12_151 dX12_isOpen_35 hM_o rfl rfl rfl rfl (Nat.le_of_ble_eq_true rfl) (zrm hr (by decide)) (Nat.le_refl _) (Nat.le_refl _) (kI fun r35 h35 hp35 => ?_)
      obtain ⟨rfl, F2, A2, rfl, hF2, hA2, hlv2⟩ := hp35
      have e1 : A2 1 = A 1 := hA2 1 (by simp)
      rw [hrI_s]
      refine aw_iload_n B 2 rfl dX12_isOpen_38 rfl ?_
      refine aw_iload B dX12_isOpen_39 rfl ?_
      refine aw_if_eq B 58 dX12_isOpen_41 (fun c41 => absurd c41 (by decide)) (fun c41 => ?_)
      refine aw_aload_n B 0 rfl dX12_isOpen_44 rfl ?_
      refine m_get B f_X12_9 dX12_isOpen_45 (mg_1 _ _) ?_
      refine aw_bipush B 26 (by decide) dX12_isOpen_48 ?_
      refine aw_iload_n B 1 rfl dX12_isOpen_50 rfl ?_
      refine aw_iadd B dX12_isOpen_51 ?_
      refine m_ld B (26 + r) (ix_c 26 rfl) (by show _ < 899; omega) dX12_isOpen_52 (by decide) ?_
      rw [e1, ev]
      refine aw_iconst B 3 (by decide) dX12_isOpen_53 ?_
      refine aw_irem B (by decide) dX12_isOpen_54 ?_
      rw [show nI v - nI v / 3 * 3 = nI (v % 3) from pk_rem (d := 3) (by omega) (by decide) (by decide)]
      rw [← hd]
      refine aw_goto B 59 dX12_isOpen_55 ?_
      refine aw_iadd B dX12_isOpen_59 ?_
      try rw [show (0 : Int32) = nI (p_dive k v) from by rw [hd]; rfl]
      rw [nI_add]
      refine aw_icmp_gt B 67 dX12_isOpen_60 (fun c60 => ?_) (fun c60 => ?_)
      · refine aw_iconst B 0 (by decide) dX12_isOpen_67 ?_
        refine aw_iret B rfl rfl dX12_isOpen_68 ?_
        exact ⟨_, rfl, by unfold oB; rw [b2f (fun z => absurd z (Int32.not_le.mpr c60))], F2, A2, rfl, hF2, hA2, hlv2⟩
      · refine aw_iconst B 1 (by decide) dX12_isOpen_63 ?_
        refine aw_goto B 68 dX12_isOpen_64 ?_
        refine aw_iret B rfl rfl dX12_isOpen_68 ?_
        exact ⟨_, rfl, by unfold oB; rw [b2t (Int32.not_lt.mp c60)], F2, A2, rfl, hF2, hA2, hlv2⟩
theorem dX12_mayBegin_0 : decode cX12_mayBegin 0 = .ok (.aload_n 0, 1) := by decide +kernel
theorem dX12_mayBegin_1 : decode cX12_mayBegin 1 = .ok (.getfield 9, 3) := by decide +kernel
theorem dX12_mayBegin_4 : decode cX12_mayBegin 4 = .ok (.bipush 22, 2) := by decide +kernel
theorem dX12_mayBegin_6 : decode cX12_mayBegin 6 = .ok (.iload_n 1, 1) := by decide +kernel
theorem dX12_mayBegin_7 : decode cX12_mayBegin 7 = .ok (.iadd, 1) := by decide +kernel
theorem dX12_mayBegin_8 : decode cX12_mayBegin 8 = .ok (.iaload, 1) := by decide +kernel
theorem dX12_mayBegin_9 : decode cX12_mayBegin 9 = .ok (.istore_n 3, 1) := by decide +kernel
theorem dX12_mayBegin_10 : decode cX12_mayBegin 10 = .ok (.iload_n 3, 1) := by decide +kernel
theorem dX12_mayBegin_11 : decode cX12_mayBegin 11 = .ok (.iconst 3, 1) := by decide +kernel
theorem dX12_mayBegin_12 : decode cX12_mayBegin 12 = .ok (.if_icmp .eq 11, 3) := by decide +kernel
theorem dX12_mayBegin_15 : decode cX12_mayBegin 15 = .ok (.iload_n 3, 1) := by decide +kernel
theorem dX12_mayBegin_16 : decode cX12_mayBegin 16 = .ok (.bipush 6, 2) := by decide +kernel
theorem dX12_mayBegin_18 : decode cX12_mayBegin 18 = .ok (.if_icmp .eq 5, 3) := by decide +kernel
theorem dX12_mayBegin_21 : decode cX12_mayBegin 21 = .ok (.iconst 1, 1) := by decide +kernel
theorem dX12_mayBegin_22 : decode cX12_mayBegin 22 = .ok (.ireturn, 1) := by decide +kernel
theorem dX12_mayBegin_23 : decode cX12_mayBegin 23 = .ok (.aload_n 0, 1) := by decide +kernel
theorem dX12_mayBegin_24 : decode cX12_mayBegin 24 = .ok (.getfield 9, 3) := by decide +kernel
theorem dX12_mayBegin_27 : decode cX12_mayBegin 27 = .ok (.bipush 8, 2) := by decide +kernel
theorem dX12_mayBegin_29 : decode cX12_mayBegin 29 = .ok (.iaload, 1) := by decide +kernel
theorem dX12_mayBegin_30 : decode cX12_mayBegin 30 = .ok (.iload_n 2, 1) := by decide +kernel
theorem dX12_mayBegin_31 : decode cX12_mayBegin 31 = .ok (.iadd, 1) := by decide +kernel
theorem dX12_mayBegin_32 : decode cX12_mayBegin 32 = .ok (.aload_n 0, 1) := by decide +kernel
theorem dX12_mayBegin_33 : decode cX12_mayBegin 33 = .ok (.getfield 9, 3) := by decide +kernel
theorem dX12_mayBegin_36 : decode cX12_mayBegin 36 = .ok (.bipush 26, 2) := by decide +kernel
theorem dX12_mayBegin_38 : decode cX12_mayBegin 38 = .ok (.iload_n 1, 1) := by decide +kernel
theorem dX12_mayBegin_39 : decode cX12_mayBegin 39 = .ok (.iadd, 1) := by decide +kernel
theorem dX12_mayBegin_40 : decode cX12_mayBegin 40 = .ok (.iaload, 1) := by decide +kernel
theorem dX12_mayBegin_41 : decode cX12_mayBegin 41 = .ok (.iconst 3, 1) := by decide +kernel
theorem dX12_mayBegin_42 : decode cX12_mayBegin 42 = .ok (.irem, 1) := by decide +kernel
theorem dX12_mayBegin_43 : decode cX12_mayBegin 43 = .ok (.iconst 1, 1) := by decide +kernel
theorem dX12_mayBegin_44 : decode cX12_mayBegin 44 = .ok (.iadd, 1) := by decide +kernel
theorem dX12_mayBegin_45 : decode cX12_mayBegin 45 = .ok (.irem, 1) := by decide +kernel
theorem dX12_mayBegin_46 : decode cX12_mayBegin 46 = .ok (.ifCond .ne 7, 3) := by decide +kernel
theorem dX12_mayBegin_49 : decode cX12_mayBegin 49 = .ok (.iconst 1, 1) := by decide +kernel
theorem dX12_mayBegin_50 : decode cX12_mayBegin 50 = .ok (.goto 4, 3) := by decide +kernel
theorem dX12_mayBegin_53 : decode cX12_mayBegin 53 = .ok (.iconst 0, 1) := by decide +kernel
theorem dX12_mayBegin_54 : decode cX12_mayBegin 54 = .ok (.istore 4, 2) := by decide +kernel
theorem dX12_mayBegin_56 : decode cX12_mayBegin 56 = .ok (.iload 4, 2) := by decide +kernel
theorem dX12_mayBegin_58 : decode cX12_mayBegin 58 = .ok (.ifCond .eq 27, 3) := by decide +kernel
theorem dX12_mayBegin_61 : decode cX12_mayBegin 61 = .ok (.iload_n 3, 1) := by decide +kernel
theorem dX12_mayBegin_62 : decode cX12_mayBegin 62 = .ok (.iconst 3, 1) := by decide +kernel
theorem dX12_mayBegin_63 : decode cX12_mayBegin 63 = .ok (.if_icmp .eq 18, 3) := by decide +kernel
theorem dX12_mayBegin_66 : decode cX12_mayBegin 66 = .ok (.aload_n 0, 1) := by decide +kernel
theorem dX12_mayBegin_67 : decode cX12_mayBegin 67 = .ok (.iload_n 2, 1) := by decide +kernel
theorem dX12_mayBegin_68 : decode cX12_mayBegin 68 = .ok (.invokevirtual 151, 3) := by decide +kernel
theorem dX12_mayBegin_71 : decode cX12_mayBegin 71 = .ok (.aload_n 0, 1) := by decide +kernel
theorem dX12_mayBegin_72 : decode cX12_mayBegin 72 = .ok (.iload_n 2, 1) := by decide +kernel
theorem dX12_mayBegin_73 : decode cX12_mayBegin 73 = .ok (.iconst 1, 1) := by decide +kernel
theorem dX12_mayBegin_74 : decode cX12_mayBegin 74 = .ok (.isub, 1) := by decide +kernel
theorem dX12_mayBegin_75 : decode cX12_mayBegin 75 = .ok (.invokevirtual 151, 3) := by decide +kernel
theorem dX12_mayBegin_78 : decode cX12_mayBegin 78 = .ok (.if_icmp .gt 7, 3) := by decide +kernel
theorem dX12_mayBegin_81 : decode cX12_mayBegin 81 = .ok (.iconst 1, 1) := by decide +kernel
theorem dX12_mayBegin_82 : decode cX12_mayBegin 82 = .ok (.goto 4, 3) := by decide +kernel
theorem dX12_mayBegin_85 : decode cX12_mayBegin 85 = .ok (.iconst 0, 1) := by decide +kernel
theorem dX12_mayBegin_86 : decode cX12_mayBegin 86 = .ok (.ireturn, 1) := by decide +kernel
set_option maxRecDepth 100000 in
set_option maxHeartbeats 4000000 in
theorem s_mayBegin (l : Launch) (g : zG) (h : Hp) (m : Nat) (F : Nat → Int32) (A : Nat → Nat → Int32) (T : Nat) (Q : pP) (hi : iT (A 1) T Q) (hlv : lvI T Q F A) (r k v a : Nat) (hkv : iK (A 1) r k v) (ha : a ≤ 400) : Sp l g yX12_mayBegin cX12_mayBegin 5 (some .boolean) (rmz 4) [.ref m, .int (nI r), .int (nI a)] (hM g h m F A) (zI (lres g h m F A T Q (b2 (mB T Q k v a)))) := by
  refine Sp.of [some (.ref m), some (.int (nI r)), some (.int (nI a)), none, none] (by decide) (Nat.le_of_ble_eq_true rfl) rfl rfl ?_
  rintro X rfl hr rfl B
  show AW X 0 0 0 _ _ _ _
  obtain ⟨hr4, hk, hv, ek, ev⟩ := hkv
  refine aw_aload_n B 0 rfl dX12_mayBegin_0 rfl ?_
  refine m_get B f_X12_9 dX12_mayBegin_1 (mg_1 _ _) ?_
  refine aw_bipush B 22 (by decide) dX12_mayBegin_4 ?_
  refine aw_iload_n B 1 rfl dX12_mayBegin_6 rfl ?_
  refine aw_iadd B dX12_mayBegin_7 ?_
  refine m_ld B (22 + r) (ix_c 22 rfl) (by show _ < 899; omega) dX12_mayBegin_8 (by decide) ?_
  refine aw_istore3 B dX12_mayBegin_9 ?_
  refine aw_iload_n B 3 rfl dX12_mayBegin_10 rfl ?_
  refine aw_iconst B 3 (by decide) dX12_mayBegin_11 ?_
  refine aw_icmp_eq B 23 dX12_mayBegin_12 (fun c12 => ?_) (fun c12 => ?_)
  · refine aw_aload_n B 0 rfl dX12_mayBegin_23 rfl ?_
    refine m_get B f_X12_9 dX12_mayBegin_24 (mg_1 _ _) ?_
    refine aw_bipush B 8 (by decide) dX12_mayBegin_27 ?_
    refine m_ld B (8) (rfl) ((by decide)) dX12_mayBegin_29 (by decide) ?_
    rw [hi.1]
    refine aw_iload_n B 2 rfl dX12_mayBegin_30 rfl ?_
    refine aw_iadd B dX12_mayBegin_31 ?_
    rw [nI_add]
    refine aw_aload_n B 0 rfl dX12_mayBegin_32 rfl ?_
    refine m_get B f_X12_9 dX12_mayBegin_33 (mg_1 _ _) ?_
    refine aw_bipush B 26 (by decide) dX12_mayBegin_36 ?_
    refine aw_iload_n B 1 rfl dX12_mayBegin_38 rfl ?_
    refine aw_iadd B dX12_mayBegin_39 ?_
    refine m_ld B (26 + r) (ix_c 26 rfl) (by show _ < 899; omega) dX12_mayBegin_40 (by decide) ?_
    rw [ev]
    refine aw_iconst B 3 (by decide) dX12_mayBegin_41 ?_
    refine aw_irem B (by decide) dX12_mayBegin_42 ?_
    rw [show nI v - nI v / 3 * 3 = nI (v % 3) from pk_rem (d := 3) (by omega) (by decide) (by decide)]
    refine aw_iconst B 1 (by decide) dX12_mayBegin_43 ?_
    refine aw_iadd B dX12_mayBegin_44 ?_
    rw [show nI (v % 3) + 1 = nI (v % 3 + 1) from nI_1 _]
    refine aw_irem B (fun z => by have := (nI_eq (b := 0) (by omega) (by decide)).mp z; omega) dX12_mayBegin_45 ?_
    rw [show nI (T + a) - nI (T + a) / nI (v % 3 + 1) * nI (v % 3 + 1) = nI ((T + a) % (v % 3 + 1)) from pk_rem (by have := hi.2.1; omega) (by omega) (by omega)]
    refine aw_if_ne B 53 dX12_mayBegin_46 (fun c46 => ?_) (fun c46 => ?_)
    · refine aw_iconst B 0 (by decide) dX12_mayBegin_53 ?_
      refine aw_istore4 B dX12_mayBegin_54 ?_
      refine aw_iload B dX12_mayBegin_56 rfl ?_
      refine aw_if_eq B 85 dX12_mayBegin_58 (fun c58 => ?_) (fun c58 => absurd rfl c58)
      refine aw_iconst B 0 (by decide) dX12_mayBegin_85 ?_
      refine aw_iret B rfl rfl dX12_mayBegin_86 ?_
      have h1 : k = 3 := (nI_eq (b := 3) (by omega) (by decide)).mp (by rw [← ek]; exact c12)
      have hm : ¬ (T + a) % (v % 3 + 1) = 0 := fun z => c46 (by rw [z]; rfl)
      exact ⟨_, rfl, by unfold mB; subst h1; simp [hm, b2], F, A, rfl, eqF.rf, eqA.rf, hlv⟩
    · refine aw_iconst B 1 (by decide) dX12_mayBegin_49 ?_
      refine aw_goto B 54 dX12_mayBegin_50 ?_
      refine aw_istore4 B dX12_mayBegin_54 ?_
      refine aw_iload B dX12_mayBegin_56 rfl ?_
      refine aw_if_eq B 85 dX12_mayBegin_58 (fun c58 => absurd c58 (by decide)) (fun c58 => ?_)
      refine aw_iload_n B 3 rfl dX12_mayBegin_61 rfl ?_
      refine aw_iconst B 3 (by decide) dX12_mayBegin_62 ?_
      refine aw_icmp_eq B 81 dX12_mayBegin_63 (fun c63 => ?_) (fun c63 => absurd c12 c63)
      refine aw_iconst B 1 (by decide) dX12_mayBegin_81 ?_
      refine aw_goto B 86 dX12_mayBegin_82 ?_
      refine aw_iret B rfl rfl dX12_mayBegin_86 ?_
      have h1 : k = 3 := (nI_eq (b := 3) (by omega) (by decide)).mp (by rw [← ek]; exact c12)
      have hm : (T + a) % (v % 3 + 1) = 0 := (nI_eq (b := 0) (by have := Nat.mod_lt (T + a) (show 0 < v % 3 + 1 by omega); omega) (by decide)).mp c46
      exact ⟨_, rfl, by unfold mB; subst h1; simp [hm, b2], F, A, rfl, eqF.rf, eqA.rf, hlv⟩
  · refine aw_iload_n B 3 rfl dX12_mayBegin_15 rfl ?_
    refine aw_bipush B 6 (by decide) dX12_mayBegin_16 ?_
    refine aw_icmp_eq B 23 dX12_mayBegin_18 (fun c18 => ?_) (fun c18 => ?_)
    · refine aw_aload_n B 0 rfl dX12_mayBegin_23 rfl ?_
      refine m_get B f_X12_9 dX12_mayBegin_24 (mg_1 _ _) ?_
      refine aw_bipush B 8 (by decide) dX12_mayBegin_27 ?_
      refine m_ld B (8) (rfl) ((by decide)) dX12_mayBegin_29 (by decide) ?_
      rw [hi.1]
      refine aw_iload_n B 2 rfl dX12_mayBegin_30 rfl ?_
      refine aw_iadd B dX12_mayBegin_31 ?_
      rw [nI_add]
      refine aw_aload_n B 0 rfl dX12_mayBegin_32 rfl ?_
      refine m_get B f_X12_9 dX12_mayBegin_33 (mg_1 _ _) ?_
      refine aw_bipush B 26 (by decide) dX12_mayBegin_36 ?_
      refine aw_iload_n B 1 rfl dX12_mayBegin_38 rfl ?_
      refine aw_iadd B dX12_mayBegin_39 ?_
      refine m_ld B (26 + r) (ix_c 26 rfl) (by show _ < 899; omega) dX12_mayBegin_40 (by decide) ?_
      rw [ev]
      refine aw_iconst B 3 (by decide) dX12_mayBegin_41 ?_
      refine aw_irem B (by decide) dX12_mayBegin_42 ?_
      rw [show nI v - nI v / 3 * 3 = nI (v % 3) from pk_rem (d := 3) (by omega) (by decide) (by decide)]
      refine aw_iconst B 1 (by decide) dX12_mayBegin_43 ?_
      refine aw_iadd B dX12_mayBegin_44 ?_
      rw [show nI (v % 3) + 1 = nI (v % 3 + 1) from nI_1 _]
      refine aw_irem B (fun z => by have := (nI_eq (b := 0) (by omega) (by decide)).mp z; omega) dX12_mayBegin_45 ?_
      rw [show nI (T + a) - nI (T + a) / nI (v % 3 + 1) * nI (v % 3 + 1) = nI ((T + a) % (v % 3 + 1)) from pk_rem (by have := hi.2.1; omega) (by omega) (by omega)]
      refine aw_if_ne B 53 dX12_mayBegin_46 (fun c46 => ?_) (fun c46 => ?_)
      · refine aw_iconst B 0 (by decide) dX12_mayBegin_53 ?_
        refine aw_istore4 B dX12_mayBegin_54 ?_
        refine aw_iload B dX12_mayBegin_56 rfl ?_
        refine aw_if_eq B 85 dX12_mayBegin_58 (fun c58 => ?_) (fun c58 => absurd rfl c58)
        refine aw_iconst B 0 (by decide) dX12_mayBegin_85 ?_
        refine aw_iret B rfl rfl dX12_mayBegin_86 ?_
        have h1 : k = 6 := (nI_eq (b := 6) (by omega) (by decide)).mp (by rw [← ek]; exact c18)
        have hm : ¬ (T + a) % (v % 3 + 1) = 0 := fun z => c46 (by rw [z]; rfl)
        exact ⟨_, rfl, by unfold mB; subst h1; simp [hm, b2], F, A, rfl, eqF.rf, eqA.rf, hlv⟩
      · refine aw_iconst B 1 (by decide) dX12_mayBegin_49 ?_
        refine aw_goto B 54 dX12_mayBegin_50 ?_
        refine aw_istore4 B dX12_mayBegin_54 ?_
        refine aw_iload B dX12_mayBegin_56 rfl ?_
        refine aw_if_eq B 85 dX12_mayBegin_58 (fun c58 => absurd c58 (by decide)) (fun c58 => ?_)
        refine aw_iload_n B 3 rfl dX12_mayBegin_61 rfl ?_
        refine aw_iconst B 3 (by decide) dX12_mayBegin_62 ?_
        refine aw_icmp_eq B 81 dX12_mayBegin_63 (fun c63 => absurd c63 c12) (fun c63 => ?_)
        refine aw_aload_n B 0 rfl dX12_mayBegin_66 rfl ?_
        refine aw_iload_n B 2 rfl dX12_mayBegin_67 rfl ?_
        refine aw_callV B 0 0 (s_levelIn _ _ _ _ _ _ _ (a + 1) T Q (nI_1 a) (by omega) hi.1 hi.2.1 hi.2.2.1 hi.2.2.2 hlv) co_X12_levelIn k_X12_151 dX12_mayBegin_68 hM_o rfl rfl rfl rfl (Nat.le_of_ble_eq_true rfl) (zrm hr (by decide)) (Nat.le_refl _) (Nat.le_refl _) (kI fun r68 h68 hp68 => ?_)
        obtain ⟨rfl, F2, A2, rfl, hF2, hA2, hlv2⟩ := hp68
        have e1 : A2 1 = A 1 := hA2 1 (by simp)
        rw [hrI_s]
        refine aw_aload_n B 0 rfl dX12_mayBegin_71 rfl ?_
        refine aw_iload_n B 2 rfl dX12_mayBegin_72 rfl ?_
        refine aw_iconst B 1 (by decide) dX12_mayBegin_73 ?_
        refine aw_isub B dX12_mayBegin_74 ?_
        refine aw_callV B 0 0 (s_levelIn _ _ _ _ _ _ _ a T Q (by rw [Int32.sub_add_cancel]) (by omega) (by rw [e1]; exact hi.1) hi.2.1 (by rw [e1]; exact hi.2.2.1) hi.2.2.2 hlv2) co_X12_levelIn k_X12_151 dX12_mayBegin_75 hM_o rfl rfl rfl rfl (Nat.le_of_ble_eq_true rfl) (zrm hr (by decide)) (Nat.le_refl _) (Nat.le_refl _) (kI fun r75 h75 hp75 => ?_)
        obtain ⟨rfl, F3, A3, rfl, hF3, hA3, hlv3⟩ := hp75
        refine aw_icmp_gt B 85 dX12_mayBegin_78 (fun c78 => ?_) (fun c78 => ?_)
        · refine aw_iconst B 0 (by decide) dX12_mayBegin_85 ?_
          refine aw_iret B rfl rfl dX12_mayBegin_86 ?_
          have h1 : k = 6 := (nI_eq (b := 6) (by omega) (by decide)).mp (by rw [← ek]; exact c18)
          have hm : (T + a) % (v % 3 + 1) = 0 := (nI_eq (b := 0) (by have := Nat.mod_lt (T + a) (show 0 < v % 3 + 1 by omega); omega) (by decide)).mp c46
          have hq : ¬ lvl (T + a) Q ≤ lvl (hrI T a) Q := fun z => absurd z (Int32.not_le.mpr c78)
          exact ⟨_, rfl, by unfold mB; subst h1; simp [hm, hq, b2], F3, A3, rfl, hF2.tr hF3, hA2.tr hA3, hlv3⟩
        · refine aw_iconst B 1 (by decide) dX12_mayBegin_81 ?_
          refine aw_goto B 86 dX12_mayBegin_82 ?_
          refine aw_iret B rfl rfl dX12_mayBegin_86 ?_
          have h1 : k = 6 := (nI_eq (b := 6) (by omega) (by decide)).mp (by rw [← ek]; exact c18)
          have hm : (T + a) % (v % 3 + 1) = 0 := (nI_eq (b := 0) (by have := Nat.mod_lt (T + a) (show 0 < v % 3 + 1 by omega); omega) (by decide)).mp c46
          have hq : lvl (T + a) Q ≤ lvl (hrI T a) Q := Int32.not_lt.mp c78
          exact ⟨_, rfl, by unfold mB; subst h1; simp [hm, hq, b2], F3, A3, rfl, hF2.tr hF3, hA2.tr hA3, hlv3⟩
    · refine aw_iconst B 1 (by decide) dX12_mayBegin_21 ?_
      refine aw_iret B rfl rfl dX12_mayBegin_22 ?_
      have h1 : ¬ k = 3 := fun z => c12 (by rw [ek, z]; rfl)
      have h2 : ¬ k = 6 := fun z => c18 (by rw [ek, z]; rfl)
      exact ⟨_, rfl, by unfold mB; rw [if_neg h1, if_neg h2]; rfl, F, A, rfl, eqF.rf, eqA.rf, hlv⟩
end
section
theorem b2_z {b : Bool} (h : b2 b = 0) : b = false := by
  cases b
  · rfl
  · exact absurd h (by decide)
theorem b2_nz {b : Bool} (h : ¬ b2 b = 0) : b = true := by
  cases b
  · exact absurd rfl h
  · rfl
theorem p_needs_le (k v n : Nat) (h : n ≤ 4) : p_needs k v n ≤ 8 := by
  unfold p_needs
  repeat' split
  all_goals omega
theorem p_needs_pos (k v n : Nat) (h : 1 ≤ n) : 1 ≤ p_needs k v n := by
  unfold p_needs
  repeat' split
  all_goals omega
theorem gB_false {T : Nat} {Q : pP} {k v sh a : Nat} {x : Bool} {h n : Nat} (hh : h ≤ n) (e : (x && gB T Q k v sh h a) = false) : (x && gB T Q k v sh n a) = false := by
  obtain ⟨d, rfl⟩ : ∃ d, n = h + d := ⟨n - h, by omega⟩
  clear hh
  induction d with
  | zero => exact e
  | succ d ih => rw [show h + (d + 1) = (h + d) + 1 by omega, gB_snoc, ← Bool.and_assoc, ih]; rfl
theorem dX12_canRead_0 : decode cX12_canRead 0 = .ok (.aload_n 0, 1) := by decide +kernel
theorem dX12_canRead_1 : decode cX12_canRead 1 = .ok (.iload_n 1, 1) := by decide +kernel
theorem dX12_canRead_2 : decode cX12_canRead 2 = .ok (.iload_n 3, 1) := by decide +kernel
theorem dX12_canRead_3 : decode cX12_canRead 3 = .ok (.invokevirtual 154, 3) := by decide +kernel
theorem dX12_canRead_6 : decode cX12_canRead 6 = .ok (.istore 4, 2) := by decide +kernel
theorem dX12_canRead_8 : decode cX12_canRead 8 = .ok (.iconst 0, 1) := by decide +kernel
theorem dX12_canRead_9 : decode cX12_canRead 9 = .ok (.istore 5, 2) := by decide +kernel
theorem dX12_canRead_11 : decode cX12_canRead 11 = .ok (.iload 5, 2) := by decide +kernel
theorem dX12_canRead_13 : decode cX12_canRead 13 = .ok (.aload_n 0, 1) := by decide +kernel
theorem dX12_canRead_14 : decode cX12_canRead 14 = .ok (.iload_n 1, 1) := by decide +kernel
theorem dX12_canRead_15 : decode cX12_canRead 15 = .ok (.iload_n 2, 1) := by decide +kernel
theorem dX12_canRead_16 : decode cX12_canRead 16 = .ok (.invokevirtual 147, 3) := by decide +kernel
theorem dX12_canRead_19 : decode cX12_canRead 19 = .ok (.if_icmp .ge 34, 3) := by decide +kernel
theorem dX12_canRead_22 : decode cX12_canRead 22 = .ok (.iload 4, 2) := by decide +kernel
theorem dX12_canRead_24 : decode cX12_canRead 24 = .ok (.ifCond .eq 29, 3) := by decide +kernel
theorem dX12_canRead_27 : decode cX12_canRead 27 = .ok (.aload_n 0, 1) := by decide +kernel
theorem dX12_canRead_28 : decode cX12_canRead 28 = .ok (.iload_n 1, 1) := by decide +kernel
theorem dX12_canRead_29 : decode cX12_canRead 29 = .ok (.aload_n 0, 1) := by decide +kernel
theorem dX12_canRead_30 : decode cX12_canRead 30 = .ok (.getfield 9, 3) := by decide +kernel
theorem dX12_canRead_33 : decode cX12_canRead 33 = .ok (.bipush 10, 2) := by decide +kernel
theorem dX12_canRead_35 : decode cX12_canRead 35 = .ok (.iload_n 2, 1) := by decide +kernel
theorem dX12_canRead_36 : decode cX12_canRead 36 = .ok (.iadd, 1) := by decide +kernel
theorem dX12_canRead_37 : decode cX12_canRead 37 = .ok (.iaload, 1) := by decide +kernel
theorem dX12_canRead_38 : decode cX12_canRead 38 = .ok (.iload_n 3, 1) := by decide +kernel
theorem dX12_canRead_39 : decode cX12_canRead 39 = .ok (.iload 5, 2) := by decide +kernel
theorem dX12_canRead_41 : decode cX12_canRead 41 = .ok (.iadd, 1) := by decide +kernel
theorem dX12_canRead_42 : decode cX12_canRead 42 = .ok (.invokevirtual 158, 3) := by decide +kernel
theorem dX12_canRead_45 : decode cX12_canRead 45 = .ok (.istore 4, 2) := by decide +kernel
theorem dX12_canRead_47 : decode cX12_canRead 47 = .ok (.iinc 5 1, 3) := by decide +kernel
theorem dX12_canRead_50 : decode cX12_canRead 50 = .ok (.goto (-39), 3) := by decide +kernel
theorem dX12_canRead_53 : decode cX12_canRead 53 = .ok (.iload 4, 2) := by decide +kernel
theorem dX12_canRead_55 : decode cX12_canRead 55 = .ok (.ireturn, 1) := by decide +kernel
set_option maxRecDepth 100000 in
set_option maxHeartbeats 4000000 in
theorem s_canRead (l : Launch) (g : zG) (h : Hp) (m : Nat) (F : Nat → Int32) (A : Nat → Nat → Int32) (T : Nat) (Q : pP) (hi : iT (A 1) T Q) (hlv : lvI T Q F A) (r s k v sh n a : Nat) (hkv : iK (A 1) r k v) (hz : iZ (A 1) s sh n) (ha : a ≤ 380) : Sp l g yX12_canRead cX12_canRead 6 (some .boolean) (rmz 6) [.ref m, .int (nI r), .int (nI s), .int (nI a)] (hM g h m F A) (zI (lres g h m F A T Q (b2 (cB T Q k v sh (p_needs k v n) a)))) := by
  refine Sp.of [some (.ref m), some (.int (nI r)), some (.int (nI s)), some (.int (nI a)), none, none] (by decide) (Nat.le_of_ble_eq_true rfl) rfl rfl ?_
  rintro X rfl hr rfl B
  show AW X 0 0 0 _ _ _ _
  have hn8 := p_needs_le k v n hz.2.2.2.1
  have lp : ∀ (f h0 : Nat) (c0 : Bool) (F1 : Nat → Int32) (A1 : Nat → Nat → Int32), h0 ≤ p_needs k v n → p_needs k v n < h0 + f → c0 = (mB T Q k v a && gB T Q k v sh h0 a) → eqF [11, 12, 14] F F1 → eqA [3, 4, 5] A A1 → lvI T Q F1 A1 → AW X 0 0 11 [some (.ref m), some (.int (nI r)), some (.int (nI s)), some (.int (nI a)), some (.int (b2 (c0))), some (.int (nI (h0)))] [] (hM (zXg X) h m F1 A1) (zI (lres (zXg X) h m F A T Q (b2 (cB T Q k v sh (p_needs k v n) a)))) := by
    intro f
    induction f with
    | zero => intros; omega
    | succ f ih =>
      intro h0 c0 F1 A1 hh0 hf hc hF hA hlv1
      have e1 : A1 1 = A 1 := hA 1 (by simp)
      refine aw_iload B dX12_canRead_11 rfl ?_
      refine aw_aload_n B 0 rfl dX12_canRead_13 rfl ?_
      refine aw_iload_n B 1 rfl dX12_canRead_14 rfl ?_
      refine aw_iload_n B 2 rfl dX12_canRead_15 rfl ?_
      refine aw_callV B 0 0 (s_needsOf _ _ _ _ _ _ r s k v n hkv.1 hz.1 hkv.2.1 hkv.2.2.1 hz.2.2.2.1 (by rw [e1]; exact hkv.2.2.2.1) (by rw [e1]; exact hkv.2.2.2.2) (by rw [e1]; exact hz.2.2.2.2.2)) co_X12_needsOf k_X12_147 dX12_canRead_16 hM_o rfl rfl rfl rfl (Nat.le_of_ble_eq_true rfl) (zrm hr (by decide)) (Nat.le_refl _) (Nat.le_refl _) (kI fun r16 h16 hp16 => ?_)
      obtain ⟨rfl, rfl⟩ := hp16
      refine aw_icmp_ge B 53 dX12_canRead_19 (fun c19 => ?_) (fun c19 => ?_)
      · refine aw_iload B dX12_canRead_53 rfl ?_
        refine aw_iret B rfl (by cases c0 <;> rfl) dX12_canRead_55 ?_
        have hh : h0 = p_needs k v n := Nat.le_antisymm hh0 ((nI_leI (by omega) (by omega)).mp c19)
        exact ⟨_, rfl, by rw [hc, hh]; rfl, F1, A1, rfl, hF, hA, hlv1⟩
      · refine aw_iload B dX12_canRead_22 rfl ?_
        refine aw_if_eq B 53 dX12_canRead_24 (fun c24 => ?_) (fun c24 => ?_)
        · refine aw_iload B dX12_canRead_53 rfl ?_
          refine aw_iret B rfl (by cases c0 <;> rfl) dX12_canRead_55 ?_
          have hf0 : c0 = false := b2_z c24
          refine ⟨_, rfl, ?_, F1, A1, rfl, hF, hA, hlv1⟩
          have hx : cB T Q k v sh (p_needs k v n) a = false := by
            unfold cB
            rw [hf0] at hc
            exact gB_false hh0 hc.symm
          rw [hf0, hx]
        · refine aw_aload_n B 0 rfl dX12_canRead_27 rfl ?_
          refine aw_iload_n B 1 rfl dX12_canRead_28 rfl ?_
          refine aw_aload_n B 0 rfl dX12_canRead_29 rfl ?_
          refine m_get B f_X12_9 dX12_canRead_30 (mg_1 _ _) ?_
          refine aw_bipush B 10 (by decide) dX12_canRead_33 ?_
          refine aw_iload_n B 2 rfl dX12_canRead_35 rfl ?_
          refine aw_iadd B dX12_canRead_36 ?_
          refine m_ld B (10 + s) (ix_c 10 rfl) (by show _ < 899; have := hz.1; omega) dX12_canRead_37 (by decide) ?_
          rw [e1, hz.2.2.2.2.1]
          refine aw_iload_n B 3 rfl dX12_canRead_38 rfl ?_
          refine aw_iload B dX12_canRead_39 rfl ?_
          refine aw_iadd B dX12_canRead_41 ?_
          rw [nI_add]
          refine aw_callV B 0 0 (s_isOpen _ _ _ _ _ _ T Q (by rw [e1]; exact hi) hlv1 r k v sh (a + h0) (by rw [e1]; exact hkv) hz.2.1 (by omega)) co_X12_isOpen k_X12_158 dX12_canRead_42 hM_o rfl rfl rfl rfl (Nat.le_of_ble_eq_true rfl) (zrm hr (by decide)) (Nat.le_refl _) (Nat.le_refl _) (kI fun r42 h42 hp42 => ?_)
          obtain ⟨rfl, F2, A2, rfl, hF2, hA2, hlv2⟩ := hp42
          refine aw_istore4 B dX12_canRead_45 ?_
          refine aw_iinc5 B 1 (by decide) dX12_canRead_47 ?_
          refine aw_goto B 11 dX12_canRead_50 ?_
          have hlt : h0 < p_needs k v n := Nat.not_le.mp fun z => c19 (nI_le z (by omega))
          have ht0 : c0 = true := b2_nz c24
          rw [nI_1]
          refine ih (h0 + 1) _ F2 A2 (by omega) (by omega) ?_ (hF.tr hF2) (hA.tr hA2) hlv2
          rw [ht0] at hc
          rw [gB_snoc, ← Bool.and_assoc, ← hc, Bool.true_and]
  refine aw_aload_n B 0 rfl dX12_canRead_0 rfl ?_
  refine aw_iload_n B 1 rfl dX12_canRead_1 rfl ?_
  refine aw_iload_n B 3 rfl dX12_canRead_2 rfl ?_
  refine aw_callV B 0 0 (s_mayBegin _ _ _ _ _ _ T Q hi hlv r k v a hkv (by omega)) co_X12_mayBegin k_X12_154 dX12_canRead_3 hM_o rfl rfl rfl rfl (Nat.le_of_ble_eq_true rfl) (zrm hr (by decide)) (Nat.le_refl _) (Nat.le_refl _) (kI fun r3 h3 hp3 => ?_)
  obtain ⟨rfl, F2, A2, rfl, hF2, hA2, hlv2⟩ := hp3
  refine aw_istore4 B dX12_canRead_6 ?_
  refine aw_iconst B 0 (by decide) dX12_canRead_8 ?_
  refine aw_istore5 B dX12_canRead_9 ?_
  exact lp 9 0 _ F2 A2 (Nat.zero_le _) (by omega) (by simp [gB]) hF2 hA2 hlv2
theorem dX12_soonFrom_0 : decode cX12_soonFrom 0 = .ok (.aload_n 0, 1) := by decide +kernel
theorem dX12_soonFrom_1 : decode cX12_soonFrom 1 = .ok (.iload_n 1, 1) := by decide +kernel
theorem dX12_soonFrom_2 : decode cX12_soonFrom 2 = .ok (.iload_n 2, 1) := by decide +kernel
theorem dX12_soonFrom_3 : decode cX12_soonFrom 3 = .ok (.invokevirtual 147, 3) := by decide +kernel
theorem dX12_soonFrom_6 : decode cX12_soonFrom 6 = .ok (.istore 4, 2) := by decide +kernel
theorem dX12_soonFrom_8 : decode cX12_soonFrom 8 = .ok (.iconst 0, 1) := by decide +kernel
theorem dX12_soonFrom_9 : decode cX12_soonFrom 9 = .ok (.istore 5, 2) := by decide +kernel
theorem dX12_soonFrom_11 : decode cX12_soonFrom 11 = .ok (.iload 5, 2) := by decide +kernel
theorem dX12_soonFrom_13 : decode cX12_soonFrom 13 = .ok (.iload 4, 2) := by decide +kernel
theorem dX12_soonFrom_15 : decode cX12_soonFrom 15 = .ok (.iadd, 1) := by decide +kernel
theorem dX12_soonFrom_16 : decode cX12_soonFrom 16 = .ok (.bipush 60, 2) := by decide +kernel
theorem dX12_soonFrom_18 : decode cX12_soonFrom 18 = .ok (.if_icmp .gt 28, 3) := by decide +kernel
theorem dX12_soonFrom_21 : decode cX12_soonFrom 21 = .ok (.aload_n 0, 1) := by decide +kernel
theorem dX12_soonFrom_22 : decode cX12_soonFrom 22 = .ok (.iload_n 1, 1) := by decide +kernel
theorem dX12_soonFrom_23 : decode cX12_soonFrom 23 = .ok (.iload_n 2, 1) := by decide +kernel
theorem dX12_soonFrom_24 : decode cX12_soonFrom 24 = .ok (.iload_n 3, 1) := by decide +kernel
theorem dX12_soonFrom_25 : decode cX12_soonFrom 25 = .ok (.iload 5, 2) := by decide +kernel
theorem dX12_soonFrom_27 : decode cX12_soonFrom 27 = .ok (.iadd, 1) := by decide +kernel
theorem dX12_soonFrom_28 : decode cX12_soonFrom 28 = .ok (.invokevirtual 161, 3) := by decide +kernel
theorem dX12_soonFrom_31 : decode cX12_soonFrom 31 = .ok (.ifCond .eq 9, 3) := by decide +kernel
theorem dX12_soonFrom_34 : decode cX12_soonFrom 34 = .ok (.iload 5, 2) := by decide +kernel
theorem dX12_soonFrom_36 : decode cX12_soonFrom 36 = .ok (.iload 4, 2) := by decide +kernel
theorem dX12_soonFrom_38 : decode cX12_soonFrom 38 = .ok (.iadd, 1) := by decide +kernel
theorem dX12_soonFrom_39 : decode cX12_soonFrom 39 = .ok (.ireturn, 1) := by decide +kernel
theorem dX12_soonFrom_40 : decode cX12_soonFrom 40 = .ok (.iinc 5 1, 3) := by decide +kernel
theorem dX12_soonFrom_43 : decode cX12_soonFrom 43 = .ok (.goto (-32), 3) := by decide +kernel
theorem dX12_soonFrom_46 : decode cX12_soonFrom 46 = .ok (.ldc 164, 2) := by decide +kernel
theorem dX12_soonFrom_48 : decode cX12_soonFrom 48 = .ok (.ireturn, 1) := by decide +kernel
set_option maxRecDepth 100000 in
set_option maxHeartbeats 4000000 in
theorem s_soonFrom (l : Launch) (g : zG) (h : Hp) (m : Nat) (F : Nat → Int32) (A : Nat → Nat → Int32) (T : Nat) (Q : pP) (hi : iT (A 1) T Q) (hlv : lvI T Q F A) (r s k v sh n a : Nat) (hkv : iK (A 1) r k v) (hz : iZ (A 1) s sh n) (ha : a ≤ 310) : Sp l g yX12_soonFrom cX12_soonFrom 6 (some .int) (rmz 7) [.ref m, .int (nI r), .int (nI s), .int (nI a)] (hM g h m F A) (zI (lres g h m F A T Q (nI (sF T Q k v sh (p_needs k v n) a)))) := by
  refine Sp.of [some (.ref m), some (.int (nI r)), some (.int (nI s)), some (.int (nI a)), none, none] (by decide) (Nat.le_of_ble_eq_true rfl) rfl rfl ?_
  rintro X rfl hr rfl B
  show AW X 0 0 0 _ _ _ _
  have hn8 := p_needs_le k v n hz.2.2.2.1
  have hn1 := p_needs_pos k v n hz.2.2.1
  have lp : ∀ (f b : Nat) (F1 : Nat → Int32) (A1 : Nat → Nat → Int32), 61 ≤ b + f → b ≤ 61 → sFb T Q k v sh (p_needs k v n) a f b = sF T Q k v sh (p_needs k v n) a → eqF [11, 12, 14] F F1 → eqA [3, 4, 5] A A1 → lvI T Q F1 A1 → AW X 0 0 11 [some (.ref m), some (.int (nI r)), some (.int (nI s)), some (.int (nI a)), some (.int (nI (p_needs k v n))), some (.int (nI (b)))] [] (hM (zXg X) h m F1 A1) (zI (lres (zXg X) h m F A T Q (nI (sF T Q k v sh (p_needs k v n) a)))) := by
    intro f
    induction f with
    | zero =>
      intro b F1 A1 hf hb hs hF hA hlv1
      refine aw_iload B dX12_soonFrom_11 rfl ?_
      refine aw_iload B dX12_soonFrom_13 rfl ?_
      refine aw_iadd B dX12_soonFrom_15 ?_
      refine aw_bipush B 60 (by decide) dX12_soonFrom_16 ?_
      refine aw_icmp_gt B 46 dX12_soonFrom_18 (fun c18 => ?_) (fun c18 => absurd (show (60 : Int32) < nI b + nI (p_needs k v n) from by rw [nI_add]; exact nI_lt (a := 60) (by omega) (by omega)) c18)
      refine aw_ldc B cn_X12_164 dX12_soonFrom_46 ?_
      refine aw_iret B rfl rfl dX12_soonFrom_48 ?_
      exact ⟨_, rfl, by rw [← hs]; rfl, F1, A1, rfl, hF, hA, hlv1⟩
    | succ f ih =>
      intro b F1 A1 hf hb hs hF hA hlv1
      have e1 : A1 1 = A 1 := hA 1 (by simp)
      refine aw_iload B dX12_soonFrom_11 rfl ?_
      refine aw_iload B dX12_soonFrom_13 rfl ?_
      refine aw_iadd B dX12_soonFrom_15 ?_
      refine aw_bipush B 60 (by decide) dX12_soonFrom_16 ?_
      refine aw_icmp_gt B 46 dX12_soonFrom_18 (fun c18 => ?_) (fun c18 => ?_)
      · refine aw_ldc B cn_X12_164 dX12_soonFrom_46 ?_
        refine aw_iret B rfl rfl dX12_soonFrom_48 ?_
        have hle : ¬ b + p_needs k v n ≤ 60 := fun z => absurd (nI_le (b := 60) z (by decide)) (Int32.not_le.mpr (by rw [← nI_add]; exact c18))
        exact ⟨_, rfl, by rw [← hs, sFb, if_neg hle]; rfl, F1, A1, rfl, hF, hA, hlv1⟩
      · have hle : b + p_needs k v n ≤ 60 := (nI_leI (b := 60) (by omega) (by decide)).mp (by rw [← nI_add]; exact Int32.not_lt.mp c18)
        refine aw_aload_n B 0 rfl dX12_soonFrom_21 rfl ?_
        refine aw_iload_n B 1 rfl dX12_soonFrom_22 rfl ?_
        refine aw_iload_n B 2 rfl dX12_soonFrom_23 rfl ?_
        refine aw_iload_n B 3 rfl dX12_soonFrom_24 rfl ?_
        refine aw_iload B dX12_soonFrom_25 rfl ?_
        refine aw_iadd B dX12_soonFrom_27 ?_
        rw [nI_add]
        refine aw_callV B 0 0 (s_canRead _ _ _ _ _ _ T Q (by rw [e1]; exact hi) hlv1 r s k v sh n (a + b) (by rw [e1]; exact hkv) (by rw [e1]; exact hz) (by omega)) co_X12_canRead k_X12_161 dX12_soonFrom_28 hM_o rfl rfl rfl rfl (Nat.le_of_ble_eq_true rfl) (zrm hr (by decide)) (Nat.le_refl _) (Nat.le_refl _) (kI fun r28 h28 hp28 => ?_)
        obtain ⟨rfl, F2, A2, rfl, hF2, hA2, hlv2⟩ := hp28
        refine aw_if_eq B 40 dX12_soonFrom_31 (fun c31 => ?_) (fun c31 => ?_)
        · refine aw_iinc5 B 1 (by decide) dX12_soonFrom_40 ?_
          refine aw_goto B 11 dX12_soonFrom_43 ?_
          have hc : cB T Q k v sh (p_needs k v n) (a + b) = false := by
            cases hq : cB T Q k v sh (p_needs k v n) (a + b)
            · rfl
            · rw [hq] at c31; exact absurd c31 (by decide)
          rw [nI_1]
          exact ih (b + 1) F2 A2 (by omega) (by omega) (by rw [← hs, sFb, if_pos hle, hc]; rfl) (hF.tr hF2) (hA.tr hA2) hlv2
        · refine aw_iload B dX12_soonFrom_34 rfl ?_
          refine aw_iload B dX12_soonFrom_36 rfl ?_
          refine aw_iadd B dX12_soonFrom_38 ?_
          refine aw_iret B rfl rfl dX12_soonFrom_39 ?_
          have hc : cB T Q k v sh (p_needs k v n) (a + b) = true := by
            cases hq : cB T Q k v sh (p_needs k v n) (a + b)
            · rw [hq] at c31; exact absurd rfl c31
            · rfl
          exact ⟨_, rfl, by rw [← hs, sFb, if_pos hle, if_pos hc, nI_add], F2, A2, rfl, hF.tr hF2, hA.tr hA2, hlv2⟩
  refine aw_aload_n B 0 rfl dX12_soonFrom_0 rfl ?_
  refine aw_iload_n B 1 rfl dX12_soonFrom_1 rfl ?_
  refine aw_iload_n B 2 rfl dX12_soonFrom_2 rfl ?_
  refine aw_callV B 0 0 (s_needsOf _ _ _ _ _ _ r s k v n hkv.1 hz.1 hkv.2.1 hkv.2.2.1 hz.2.2.2.1 hkv.2.2.2.1 hkv.2.2.2.2 hz.2.2.2.2.2) co_X12_needsOf k_X12_147 dX12_soonFrom_3 hM_o rfl rfl rfl rfl (Nat.le_of_ble_eq_true rfl) (zrm hr (by decide)) (Nat.le_refl _) (Nat.le_refl _) (kI fun r3 h3 hp3 => ?_)
  obtain ⟨rfl, rfl⟩ := hp3
  refine aw_istore4 B dX12_soonFrom_6 ?_
  refine aw_iconst B 0 (by decide) dX12_soonFrom_8 ?_
  refine aw_istore5 B dX12_soonFrom_9 ?_
  exact lp 61 0 F A (by omega) (by omega) rfl eqF.rf eqA.rf hlv
end
section
def kN (x : Int32) : Nat := x.toNatClampNeg
theorem kN_nI {n : Nat} (h : n < 2 ^ 31) : kN (nI n) = n := nI_clamp h
/-- SOON, from a hours on: 100000 for none -/
def soS (S : Nat → Int32) (T : Nat) (Q : pP) (r s a : Nat) : Nat := sF T Q (kN (S (22 + r))) (kN (S (26 + r))) (kN (S (10 + s))) (p_needs (kN (S (22 + r))) (kN (S (26 + r))) (kN (S (16 + s)))) a
theorem iK_of {S : Nat → Int32} {n1 r : Nat} (h : iR S n1) (hr : r < n1) : iK S r (kN (S (22 + r))) (kN (S (26 + r))) := by
  obtain ⟨⟨k, -, hk, ek⟩, v, -, hv, ev⟩ := h.2.2 r hr
  have := h.1
  refine ⟨by omega, ?_, ?_, ?_, ?_⟩
  · rw [ek, kN_nI (by omega)]; exact hk
  · rw [ev, kN_nI (by omega)]; exact hv
  · rw [ek, kN_nI (by omega)]
  · rw [ev, kN_nI (by omega)]
theorem iZ_of {S : Nat → Int32} {n0 s : Nat} (h : iS S n0) (hs : s < n0) : iZ S s (kN (S (10 + s))) (kN (S (16 + s))) := by
  obtain ⟨⟨k, -, hk, ek⟩, v, hv1, hv, ev⟩ := h.2.2 s hs
  have := h.1
  refine ⟨by omega, ?_, ?_, ?_, ?_, ?_⟩
  · rw [ek, kN_nI (by omega)]; exact hk
  · rw [ev, kN_nI (by omega)]; exact hv1
  · rw [ev, kN_nI (by omega)]; exact hv
  · rw [ek, kN_nI (by omega)]
  · rw [ev, kN_nI (by omega)]
theorem s_soonS (l : Launch) (g : zG) (h : Hp) (m : Nat) (F : Nat → Int32) (A : Nat → Nat → Int32) (T : Nat) (Q : pP) (hi : iT (A 1) T Q) (hlv : lvI T Q F A) (n0 n1 r s a : Nat) (hR : iR (A 1) n1) (hS : iS (A 1) n0) (hr : r < n1) (hs : s < n0) (ha : a ≤ 310) : Sp l g yX12_soonFrom cX12_soonFrom 6 (some .int) (rmz 7) [.ref m, .int (nI r), .int (nI s), .int (nI a)] (hM g h m F A) (zI (lres g h m F A T Q (nI (soS (A 1) T Q r s a)))) :=
  s_soonFrom l g h m F A T Q hi hlv r s _ _ _ _ a (iK_of hR hr) (iZ_of hS hs) ha
theorem lvI_0 {T : Nat} {Q : pP} {F : Nat → Int32} {A : Nat → Nat → Int32} : lvI T Q (upd F 14 0) A := ⟨0, upd_s, by omega, fun i hi => absurd hi (by omega)⟩
def GF : List Nat := [4, 5, 6, 7, 8, 11, 12, 14, 18, 21, 22, 23]
def GA : List Nat := [3, 4, 5, 6, 7, 8]
/-- a query's end: the answer, and only the reference's own notes changed -/
def mq (g : zG) (h : Hp) (m : Nat) (F : Nat → Int32) (A : Nat → Nat → Int32) (v : Int32) : Int32 → Hp → Prop := fun r h' => r = v ∧ mgar g h m F A GF GA (fun _ _ => True) h'
theorem gar_1 {F F' : Nat → Int32} (h : eqF [11, 12, 14] F F') : eqF GF F F' := h.mono (by simp [GF])
theorem gar_2 {A A' : Nat → Nat → Int32} (h : eqA [3, 4, 5] A A') : eqA GA A A' := h.mono (by simp [GA])
theorem gar_3 {F F' : Nat → Int32} (h : eqF [11, 12] F F') : eqF GF F F' := h.mono (by simp [GF])
theorem gar_4 {A A' : Nat → Nat → Int32} (h : eqA [3, 4] A A') : eqA GA A A' := h.mono (by simp [GA])
theorem gar_5 {F : Nat → Int32} {x : Int32} : eqF GF F (upd F 14 x) := eqF.rf.up (by simp [GF])
def iA (S : Nat → Int32) (n0 n1 n3 : Nat) : Prop := n3 ≤ 8 ∧ S 3 = nI n3 ∧ ∀ k, k < n3 → (∃ r, r < n1 ∧ S (30 + k) = nI r) ∧ (∃ s, s < n0 ∧ S (38 + k) = nI s) ∧ ∃ a, a ≤ 24 ∧ S (46 + k) = nI a
def iL (S : Nat → Int32) (n0 n1 n5 : Nat) : Prop := n5 ≤ 8 ∧ S 5 = nI n5 ∧ ∀ k, k < n5 → (∃ r, r < n1 ∧ S (70 + k) = nI r) ∧ (∃ s, s < n0 ∧ S (78 + k) = nI s) ∧ ∃ a, a ≤ 60 ∧ S (86 + k) = nI a
def iE (S : Nat → Int32) (n4 : Nat) : Prop := n4 ≤ 8 ∧ S 4 = nI n4 ∧ ∀ k, k < n4 → (∃ a, a ≤ 60 ∧ S (54 + k) = nI a) ∧ (S (62 + k) = 0 ∨ S (62 + k) = 1)
def q_told (T : Nat) (Q : pP) (x : Int32) : Int32 := if x = 0 then nI T else if x = 1 then lvl T Q else if x = 2 then p10 (evL T Q).2 else -1
theorem dX12_told_0 : decode cX12_told 0 = .ok (.iload_n 1, 1) := by decide +kernel
theorem dX12_told_1 : decode cX12_told 1 = .ok (.ifCond .ne 11, 3) := by decide +kernel
theorem dX12_told_4 : decode cX12_told 4 = .ok (.aload_n 0, 1) := by decide +kernel
theorem dX12_told_5 : decode cX12_told 5 = .ok (.getfield 9, 3) := by decide +kernel
theorem dX12_told_8 : decode cX12_told 8 = .ok (.bipush 8, 2) := by decide +kernel
theorem dX12_told_10 : decode cX12_told 10 = .ok (.iaload, 1) := by decide +kernel
theorem dX12_told_11 : decode cX12_told 11 = .ok (.ireturn, 1) := by decide +kernel
theorem dX12_told_12 : decode cX12_told 12 = .ok (.iload_n 1, 1) := by decide +kernel
theorem dX12_told_13 : decode cX12_told 13 = .ok (.iconst 1, 1) := by decide +kernel
theorem dX12_told_14 : decode cX12_told 14 = .ok (.if_icmp .eq 10, 3) := by decide +kernel
theorem dX12_told_17 : decode cX12_told 17 = .ok (.iload_n 1, 1) := by decide +kernel
theorem dX12_told_18 : decode cX12_told 18 = .ok (.iconst 2, 1) := by decide +kernel
theorem dX12_told_19 : decode cX12_told 19 = .ok (.if_icmp .eq 5, 3) := by decide +kernel
theorem dX12_told_22 : decode cX12_told 22 = .ok (.iconst (-1), 1) := by decide +kernel
theorem dX12_told_23 : decode cX12_told 23 = .ok (.ireturn, 1) := by decide +kernel
theorem dX12_told_24 : decode cX12_told 24 = .ok (.aload_n 0, 1) := by decide +kernel
theorem dX12_told_25 : decode cX12_told 25 = .ok (.aload_n 0, 1) := by decide +kernel
theorem dX12_told_26 : decode cX12_told 26 = .ok (.getfield 9, 3) := by decide +kernel
theorem dX12_told_29 : decode cX12_told 29 = .ok (.bipush 8, 2) := by decide +kernel
theorem dX12_told_31 : decode cX12_told 31 = .ok (.iaload, 1) := by decide +kernel
theorem dX12_told_32 : decode cX12_told 32 = .ok (.invokevirtual 133, 3) := by decide +kernel
theorem dX12_told_35 : decode cX12_told 35 = .ok (.istore_n 2, 1) := by decide +kernel
theorem dX12_told_36 : decode cX12_told 36 = .ok (.iload_n 1, 1) := by decide +kernel
theorem dX12_told_37 : decode cX12_told 37 = .ok (.iconst 1, 1) := by decide +kernel
theorem dX12_told_38 : decode cX12_told 38 = .ok (.if_icmp .ne 7, 3) := by decide +kernel
theorem dX12_told_41 : decode cX12_told 41 = .ok (.iload_n 2, 1) := by decide +kernel
theorem dX12_told_42 : decode cX12_told 42 = .ok (.goto 7, 3) := by decide +kernel
theorem dX12_told_45 : decode cX12_told 45 = .ok (.aload_n 0, 1) := by decide +kernel
theorem dX12_told_46 : decode cX12_told 46 = .ok (.getfield 124, 3) := by decide +kernel
theorem dX12_told_49 : decode cX12_told 49 = .ok (.ireturn, 1) := by decide +kernel
set_option maxRecDepth 100000 in
set_option maxHeartbeats 4000000 in
theorem s_told (l : Launch) (g : zG) (h : Hp) (m : Nat) (F : Nat → Int32) (A : Nat → Nat → Int32) (x : Int32) (T : Nat) (Q : pP) (hi : iT (A 1) T Q) : Sp l g yX12_told cX12_told 3 (some .int) (rmz 3) [.ref m, .int x] (hM g h m F A) (zI (mq g h m F A (q_told T Q x))) := by
  refine Sp.of [some (.ref m), some (.int x), none] (by decide) (Nat.le_of_ble_eq_true rfl) rfl rfl ?_
  rintro X rfl hr rfl B
  show AW X 0 0 0 _ _ _ _
  refine aw_iload_n B 1 rfl dX12_told_0 rfl ?_
  refine aw_if_ne B 12 dX12_told_1 (fun c1 => ?_) (fun c1 => ?_)
  · refine aw_iload_n B 1 rfl dX12_told_12 rfl ?_
    refine aw_iconst B 1 (by decide) dX12_told_13 ?_
    refine aw_icmp_eq B 24 dX12_told_14 (fun c14 => ?_) (fun c14 => ?_)
    · refine aw_aload_n B 0 rfl dX12_told_24 rfl ?_
      refine aw_aload_n B 0 rfl dX12_told_25 rfl ?_
      refine m_get B f_X12_9 dX12_told_26 (mg_1 _ _) ?_
      refine aw_bipush B 8 (by decide) dX12_told_29 ?_
      refine m_ld B (8) (rfl) ((by decide)) dX12_told_31 (by decide) ?_
      rw [hi.1]
      refine aw_callV B 0 0 (s_levelAt _ _ _ _ _ _ (T) Q (by have := hi.2.1; omega) hi.2.2.1 hi.2.2.2) co_X12_levelAt k_X12_133 dX12_told_32 hM_o rfl rfl rfl rfl (Nat.le_of_ble_eq_true rfl) (zrm hr (by decide)) (Nat.le_refl _) (Nat.le_refl _) (kI fun r32 h32 hp32 => ?_)
      obtain ⟨rfl, F2, A2, rfl, hF2, hA2, hw2⟩ := hp32
      refine aw_istore2 B dX12_told_35 ?_
      refine aw_iload_n B 1 rfl dX12_told_36 rfl ?_
      refine aw_iconst B 1 (by decide) dX12_told_37 ?_
      refine aw_icmp_ne B 45 dX12_told_38 (fun c38 => absurd c14 c38) (fun c38 => ?_)
      refine aw_iload_n B 2 rfl dX12_told_41 rfl ?_
      refine aw_goto B 49 dX12_told_42 ?_
      refine aw_iret B rfl rfl dX12_told_49 ?_
      exact ⟨_, rfl, by unfold q_told; rw [if_neg c1, if_pos c14], F2, A2, rfl, gar_3 hF2, gar_4 hA2, trivial⟩
    · refine aw_iload_n B 1 rfl dX12_told_17 rfl ?_
      refine aw_iconst B 2 (by decide) dX12_told_18 ?_
      refine aw_icmp_eq B 24 dX12_told_19 (fun c19 => ?_) (fun c19 => ?_)
      · refine aw_aload_n B 0 rfl dX12_told_24 rfl ?_
        refine aw_aload_n B 0 rfl dX12_told_25 rfl ?_
        refine m_get B f_X12_9 dX12_told_26 (mg_1 _ _) ?_
        refine aw_bipush B 8 (by decide) dX12_told_29 ?_
        refine m_ld B (8) (rfl) ((by decide)) dX12_told_31 (by decide) ?_
        rw [hi.1]
        refine aw_callV B 0 0 (s_levelAt _ _ _ _ _ _ (T) Q (by have := hi.2.1; omega) hi.2.2.1 hi.2.2.2) co_X12_levelAt k_X12_133 dX12_told_32 hM_o rfl rfl rfl rfl (Nat.le_of_ble_eq_true rfl) (zrm hr (by decide)) (Nat.le_refl _) (Nat.le_refl _) (kI fun r32 h32 hp32 => ?_)
        obtain ⟨rfl, F2, A2, rfl, hF2, hA2, hw2⟩ := hp32
        refine aw_istore2 B dX12_told_35 ?_
        refine aw_iload_n B 1 rfl dX12_told_36 rfl ?_
        refine aw_iconst B 1 (by decide) dX12_told_37 ?_
        refine aw_icmp_ne B 45 dX12_told_38 (fun c38 => ?_) (fun c38 => absurd c38 c14)
        refine aw_aload_n B 0 rfl dX12_told_45 rfl ?_
        refine m_get B f_X12_124 dX12_told_46 (mg_12 _ _) ?_
        refine aw_iret B rfl rfl dX12_told_49 ?_
        exact ⟨_, rfl, by unfold q_told; rw [if_neg c1, if_neg c14, if_pos c19]; exact hw2, F2, A2, rfl, gar_3 hF2, gar_4 hA2, trivial⟩
      · refine aw_iconst B (-1) (by decide) dX12_told_22 ?_
        refine aw_iret B rfl rfl dX12_told_23 ?_
        exact ⟨_, rfl, by unfold q_told; rw [if_neg c1, if_neg c14, if_neg c19], F, A, rfl, eqF.rf, eqA.rf, trivial⟩
  · refine aw_aload_n B 0 rfl dX12_told_4 rfl ?_
    refine m_get B f_X12_9 dX12_told_5 (mg_1 _ _) ?_
    refine aw_bipush B 8 (by decide) dX12_told_8 ?_
    refine m_ld B (8) (rfl) ((by decide)) dX12_told_10 (by decide) ?_
    refine aw_iret B rfl rfl dX12_told_11 ?_
    exact ⟨_, rfl, by unfold q_told; rw [if_pos c1]; exact hi.1, F, A, rfl, eqF.rf, eqA.rf, trivial⟩
def q_level (T : Nat) (Q : pP) (x : Int32) : Int32 := if bI (0 ≤ x ∧ x ≤ 60) = 0 then -2 else lvl (T + kN x) Q
theorem dX12_level_0 : decode cX12_level 0 = .ok (.iload_n 1, 1) := by decide +kernel
theorem dX12_level_1 : decode cX12_level 1 = .ok (.iconst 0, 1) := by decide +kernel
theorem dX12_level_2 : decode cX12_level 2 = .ok (.bipush 60, 2) := by decide +kernel
theorem dX12_level_4 : decode cX12_level 4 = .ok (.invokestatic 44, 3) := by decide +kernel
theorem dX12_level_7 : decode cX12_level 7 = .ok (.ifCond .eq 19, 3) := by decide +kernel
theorem dX12_level_10 : decode cX12_level 10 = .ok (.aload_n 0, 1) := by decide +kernel
theorem dX12_level_11 : decode cX12_level 11 = .ok (.aload_n 0, 1) := by decide +kernel
theorem dX12_level_12 : decode cX12_level 12 = .ok (.getfield 9, 3) := by decide +kernel
theorem dX12_level_15 : decode cX12_level 15 = .ok (.bipush 8, 2) := by decide +kernel
theorem dX12_level_17 : decode cX12_level 17 = .ok (.iaload, 1) := by decide +kernel
theorem dX12_level_18 : decode cX12_level 18 = .ok (.iload_n 1, 1) := by decide +kernel
theorem dX12_level_19 : decode cX12_level 19 = .ok (.iadd, 1) := by decide +kernel
theorem dX12_level_20 : decode cX12_level 20 = .ok (.invokevirtual 133, 3) := by decide +kernel
theorem dX12_level_23 : decode cX12_level 23 = .ok (.goto 5, 3) := by decide +kernel
theorem dX12_level_26 : decode cX12_level 26 = .ok (.bipush (-2), 2) := by decide +kernel
theorem dX12_level_28 : decode cX12_level 28 = .ok (.ireturn, 1) := by decide +kernel
set_option maxRecDepth 100000 in
set_option maxHeartbeats 4000000 in
theorem s_level (l : Launch) (g : zG) (h : Hp) (m : Nat) (F : Nat → Int32) (A : Nat → Nat → Int32) (x : Int32) (T : Nat) (Q : pP) (hi : iT (A 1) T Q) : Sp l g yX12_level cX12_level 2 (some .int) (rmz 3) [.ref m, .int x] (hM g h m F A) (zI (mq g h m F A (q_level T Q x))) := by
  refine Sp.of [some (.ref m), some (.int x)] (by decide) (Nat.le_of_ble_eq_true rfl) rfl rfl ?_
  rintro X rfl hr rfl B
  show AW X 0 0 0 _ _ _ _
  refine aw_iload_n B 1 rfl dX12_level_0 rfl ?_
  refine aw_iconst B 0 (by decide) dX12_level_1 ?_
  refine aw_bipush B 60 (by decide) dX12_level_2 ?_
  refine aw_callS B 0 0 (s_in _ _ _ _ _ _) co_X12_in k_X12_44 dX12_level_4 rfl rfl (Nat.le_of_ble_eq_true rfl) (zrm hr (by decide)) (Nat.le_refl _) (Nat.le_refl _) (kI fun r4 h4 hp4 => ?_)
  obtain ⟨rfl, rfl⟩ := hp4
  refine aw_if_eq B 26 dX12_level_7 (fun c7 => ?_) (fun c7 => ?_)
  · refine aw_bipush B (-2) (by decide) dX12_level_26 ?_
    refine aw_iret B rfl rfl dX12_level_28 ?_
    exact ⟨_, rfl, by unfold q_level; rw [if_pos c7], F, A, rfl, eqF.rf, eqA.rf, trivial⟩
  · obtain ⟨k, -, hk, rfl⟩ := in_rng (lo := 0) (hi := 60) (of_bI c7) (by decide) (by decide)
    have ek : kN (nI k) = k := kN_nI (by omega)
    refine aw_aload_n B 0 rfl dX12_level_10 rfl ?_
    refine aw_aload_n B 0 rfl dX12_level_11 rfl ?_
    refine m_get B f_X12_9 dX12_level_12 (mg_1 _ _) ?_
    refine aw_bipush B 8 (by decide) dX12_level_15 ?_
    refine m_ld B (8) (rfl) ((by decide)) dX12_level_17 (by decide) ?_
    rw [hi.1]
    refine aw_iload_n B 1 rfl dX12_level_18 rfl ?_
    refine aw_iadd B dX12_level_19 ?_
    rw [nI_add]
    refine aw_callV B 0 0 (s_levelAt _ _ _ _ _ _ (T + k) Q (by have := hi.2.1; omega) hi.2.2.1 hi.2.2.2) co_X12_levelAt k_X12_133 dX12_level_20 hM_o rfl rfl rfl rfl (Nat.le_of_ble_eq_true rfl) (zrm hr (by decide)) (Nat.le_refl _) (Nat.le_refl _) (kI fun r20 h20 hp20 => ?_)
    obtain ⟨rfl, F2, A2, rfl, hF2, hA2, hw2⟩ := hp20
    refine aw_goto B 28 dX12_level_23 ?_
    refine aw_iret B rfl rfl dX12_level_28 ?_
    exact ⟨_, rfl, by unfold q_level; rw [if_neg c7, ek], F2, A2, rfl, gar_3 hF2, gar_4 hA2, trivial⟩
def orN (n : Nat) : Int32 := if nI n < 100000 then nI n else -5
def q_soon (S : Nat → Int32) (T : Nat) (Q : pP) (x y : Int32) : Int32 := if bI (0 ≤ x ∧ x ≤ S 1 - 1) = 0 then -1 else if bI (0 ≤ y ∧ y ≤ S 0 - 1) = 0 then -1 else orN (soS S T Q (kN x) (kN y) 0)
theorem dX12_soon_0 : decode cX12_soon 0 = .ok (.aload_n 0, 1) := by decide +kernel
theorem dX12_soon_1 : decode cX12_soon 1 = .ok (.iload_n 1, 1) := by decide +kernel
theorem dX12_soon_2 : decode cX12_soon 2 = .ok (.invokevirtual 144, 3) := by decide +kernel
theorem dX12_soon_5 : decode cX12_soon 5 = .ok (.ifCond .eq 11, 3) := by decide +kernel
theorem dX12_soon_8 : decode cX12_soon 8 = .ok (.aload_n 0, 1) := by decide +kernel
theorem dX12_soon_9 : decode cX12_soon 9 = .ok (.iload_n 2, 1) := by decide +kernel
theorem dX12_soon_10 : decode cX12_soon 10 = .ok (.invokevirtual 141, 3) := by decide +kernel
theorem dX12_soon_13 : decode cX12_soon 13 = .ok (.ifCond .ne 5, 3) := by decide +kernel
theorem dX12_soon_16 : decode cX12_soon 16 = .ok (.iconst (-1), 1) := by decide +kernel
theorem dX12_soon_17 : decode cX12_soon 17 = .ok (.ireturn, 1) := by decide +kernel
theorem dX12_soon_18 : decode cX12_soon 18 = .ok (.aload_n 0, 1) := by decide +kernel
theorem dX12_soon_19 : decode cX12_soon 19 = .ok (.invokevirtual 165, 3) := by decide +kernel
theorem dX12_soon_22 : decode cX12_soon 22 = .ok (.aload_n 0, 1) := by decide +kernel
theorem dX12_soon_23 : decode cX12_soon 23 = .ok (.iload_n 1, 1) := by decide +kernel
theorem dX12_soon_24 : decode cX12_soon 24 = .ok (.iload_n 2, 1) := by decide +kernel
theorem dX12_soon_25 : decode cX12_soon 25 = .ok (.iconst 0, 1) := by decide +kernel
theorem dX12_soon_26 : decode cX12_soon 26 = .ok (.invokevirtual 168, 3) := by decide +kernel
theorem dX12_soon_29 : decode cX12_soon 29 = .ok (.invokestatic 172, 3) := by decide +kernel
theorem dX12_soon_32 : decode cX12_soon 32 = .ok (.ireturn, 1) := by decide +kernel
set_option maxRecDepth 100000 in
set_option maxHeartbeats 4000000 in
theorem s_soon (l : Launch) (g : zG) (h : Hp) (m : Nat) (F : Nat → Int32) (A : Nat → Nat → Int32) (x y : Int32) (T : Nat) (Q : pP) (hi : iT (A 1) T Q) (n0 n1 : Nat) (hR : iR (A 1) n1) (hS : iS (A 1) n0) : Sp l g yX12_soon cX12_soon 3 (some .int) (rmz 8) [.ref m, .int x, .int y] (hM g h m F A) (zI (mq g h m F A (q_soon (A 1) T Q x y))) := by
  refine Sp.of [some (.ref m), some (.int x), some (.int y)] (by decide) (Nat.le_of_ble_eq_true rfl) rfl rfl ?_
  rintro X rfl hr rfl B
  show AW X 0 0 0 _ _ _ _
  refine aw_aload_n B 0 rfl dX12_soon_0 rfl ?_
  refine aw_iload_n B 1 rfl dX12_soon_1 rfl ?_
  refine aw_callV B 0 0 (s_isReader _ _ _ _ _ _ _) co_X12_isReader k_X12_144 dX12_soon_2 hM_o rfl rfl rfl rfl (Nat.le_of_ble_eq_true rfl) (zrm hr (by decide)) (Nat.le_refl _) (Nat.le_refl _) (kI fun r2 h2 hp2 => ?_)
  obtain ⟨rfl, rfl⟩ := hp2
  refine aw_if_eq B 16 dX12_soon_5 (fun c5 => ?_) (fun c5 => ?_)
  · refine aw_iconst B (-1) (by decide) dX12_soon_16 ?_
    refine aw_iret B rfl rfl dX12_soon_17 ?_
    exact ⟨_, rfl, by unfold q_soon; rw [if_pos c5], F, A, rfl, eqF.rf, eqA.rf, trivial⟩
  · refine aw_aload_n B 0 rfl dX12_soon_8 rfl ?_
    refine aw_iload_n B 2 rfl dX12_soon_9 rfl ?_
    refine aw_callV B 0 0 (s_isSlate _ _ _ _ _ _ _) co_X12_isSlate k_X12_141 dX12_soon_10 hM_o rfl rfl rfl rfl (Nat.le_of_ble_eq_true rfl) (zrm hr (by decide)) (Nat.le_refl _) (Nat.le_refl _) (kI fun r10 h10 hp10 => ?_)
    obtain ⟨rfl, rfl⟩ := hp10
    refine aw_if_ne B 18 dX12_soon_13 (fun c13 => ?_) (fun c13 => ?_)
    · obtain ⟨r, hr4, rfl⟩ := in_cnt (of_bI c5) (by have := hR.1; omega) hR.2.1
      obtain ⟨s, hs6, rfl⟩ := in_cnt (of_bI c13) (by have := hS.1; omega) hS.2.1
      have z1 := hR.1
      have z2 := hS.1
      have e1 : kN (nI r) = r := kN_nI (by omega)
      have e2 : kN (nI s) = s := kN_nI (by omega)
      refine aw_aload_n B 0 rfl dX12_soon_18 rfl ?_
      refine aw_callV B 0 0 (s_forgets _ _ _ _ _ _) co_X12_forgets k_X12_165 dX12_soon_19 hM_o rfl rfl rfl rfl (Nat.le_of_ble_eq_true rfl) (zrm hr (by decide)) (Nat.le_refl _) (Nat.le_refl _) (kV fun h19 hp19 => ?_)
      subst hp19
      refine aw_aload_n B 0 rfl dX12_soon_22 rfl ?_
      refine aw_iload_n B 1 rfl dX12_soon_23 rfl ?_
      refine aw_iload_n B 2 rfl dX12_soon_24 rfl ?_
      refine aw_iconst B 0 (by decide) dX12_soon_25 ?_
      refine aw_callV B 0 0 (s_soonS _ _ _ _ _ _ T Q hi lvI_0 n0 n1 (r) (s) (0) hR hS (by omega) (by omega) (by omega)) co_X12_soonFrom k_X12_168 dX12_soon_26 hM_o rfl rfl rfl rfl (Nat.le_of_ble_eq_true rfl) (zrm hr (by decide)) (Nat.le_refl _) (Nat.le_refl _) (kI fun r26 h26 hp26 => ?_)
      obtain ⟨rfl, F2, A2, rfl, hF2, hA2, hlv2⟩ := hp26
      refine aw_callS B 0 0 (s_orNone _ _ _ _) co_X12_orNone k_X12_172 dX12_soon_29 rfl rfl (Nat.le_of_ble_eq_true rfl) (zrm hr (by decide)) (Nat.le_refl _) (Nat.le_refl _) (kI fun r29 h29 hp29 => ?_)
      obtain ⟨rfl, rfl⟩ := hp29
      refine aw_iret B rfl rfl dX12_soon_32 ?_
      exact ⟨_, rfl, by unfold q_soon; rw [if_neg c5, if_neg c13, e1, e2]; rfl, F2, A2, rfl, gar_5.tr (gar_1 hF2), gar_2 hA2, trivial⟩
    · refine aw_iconst B (-1) (by decide) dX12_soon_16 ?_
      refine aw_iret B rfl rfl dX12_soon_17 ?_
      exact ⟨_, rfl, by unfold q_soon; rw [if_neg c5, if_pos c13], F, A, rfl, eqF.rf, eqA.rf, trivial⟩
def w1 (S : Nat → Int32) (T : Nat) (Q : pP) (j : Nat) : Nat := if soS S T Q (kN (S (30 + j))) (kN (S (38 + j))) (kN (S (46 + j))) < 100000 then soS S T Q (kN (S (30 + j))) (kN (S (38 + j))) (kN (S (46 + j))) else 61
def wS (S : Nat → Int32) (T : Nat) (Q : pP) : Nat → Nat
  | 0 => 0
  | j + 1 => wS S T Q j + w1 S T Q j
theorem sFb_le (T : Nat) (Q : pP) (k v sh need a : Nat) : ∀ f b, sFb T Q k v sh need a f b ≤ 60 ∨ sFb T Q k v sh need a f b = 100000 := by
  intro f
  induction f with
  | zero => intro b; exact Or.inr rfl
  | succ f ih =>
    intro b
    rw [sFb]
    split
    · split
      · exact Or.inl (by omega)
      · exact ih _
    · exact Or.inr rfl
theorem soS_le (S : Nat → Int32) (T : Nat) (Q : pP) (r s a : Nat) : soS S T Q r s a ≤ 60 ∨ soS S T Q r s a = 100000 := sFb_le ..
theorem w1_le (S : Nat → Int32) (T : Nat) (Q : pP) (j : Nat) : w1 S T Q j ≤ 61 := by
  unfold w1
  rcases soS_le S T Q (kN (S (30 + j))) (kN (S (38 + j))) (kN (S (46 + j))) with h | h
  · rw [if_pos (by omega)]; omega
  · rw [h, if_neg (by omega)]; omega
theorem wS_le (S : Nat → Int32) (T : Nat) (Q : pP) (j : Nat) : wS S T Q j ≤ 61 * j := by
  induction j with
  | zero => simp [wS]
  | succ j ih => have := w1_le S T Q j; rw [wS]; omega
theorem dX12_waitsAll_0 : decode cX12_waitsAll 0 = .ok (.iconst 0, 1) := by decide +kernel
theorem dX12_waitsAll_1 : decode cX12_waitsAll 1 = .ok (.istore_n 1, 1) := by decide +kernel
theorem dX12_waitsAll_2 : decode cX12_waitsAll 2 = .ok (.iconst 0, 1) := by decide +kernel
theorem dX12_waitsAll_3 : decode cX12_waitsAll 3 = .ok (.istore_n 2, 1) := by decide +kernel
theorem dX12_waitsAll_4 : decode cX12_waitsAll 4 = .ok (.iload_n 2, 1) := by decide +kernel
theorem dX12_waitsAll_5 : decode cX12_waitsAll 5 = .ok (.aload_n 0, 1) := by decide +kernel
theorem dX12_waitsAll_6 : decode cX12_waitsAll 6 = .ok (.getfield 9, 3) := by decide +kernel
theorem dX12_waitsAll_9 : decode cX12_waitsAll 9 = .ok (.iconst 3, 1) := by decide +kernel
theorem dX12_waitsAll_10 : decode cX12_waitsAll 10 = .ok (.iaload, 1) := by decide +kernel
theorem dX12_waitsAll_11 : decode cX12_waitsAll 11 = .ok (.if_icmp .ge 56, 3) := by decide +kernel
theorem dX12_waitsAll_14 : decode cX12_waitsAll 14 = .ok (.aload_n 0, 1) := by decide +kernel
theorem dX12_waitsAll_15 : decode cX12_waitsAll 15 = .ok (.aload_n 0, 1) := by decide +kernel
theorem dX12_waitsAll_16 : decode cX12_waitsAll 16 = .ok (.getfield 9, 3) := by decide +kernel
theorem dX12_waitsAll_19 : decode cX12_waitsAll 19 = .ok (.bipush 30, 2) := by decide +kernel
theorem dX12_waitsAll_21 : decode cX12_waitsAll 21 = .ok (.iload_n 2, 1) := by decide +kernel
theorem dX12_waitsAll_22 : decode cX12_waitsAll 22 = .ok (.iadd, 1) := by decide +kernel
theorem dX12_waitsAll_23 : decode cX12_waitsAll 23 = .ok (.iaload, 1) := by decide +kernel
theorem dX12_waitsAll_24 : decode cX12_waitsAll 24 = .ok (.aload_n 0, 1) := by decide +kernel
theorem dX12_waitsAll_25 : decode cX12_waitsAll 25 = .ok (.getfield 9, 3) := by decide +kernel
theorem dX12_waitsAll_28 : decode cX12_waitsAll 28 = .ok (.bipush 38, 2) := by decide +kernel
theorem dX12_waitsAll_30 : decode cX12_waitsAll 30 = .ok (.iload_n 2, 1) := by decide +kernel
theorem dX12_waitsAll_31 : decode cX12_waitsAll 31 = .ok (.iadd, 1) := by decide +kernel
theorem dX12_waitsAll_32 : decode cX12_waitsAll 32 = .ok (.iaload, 1) := by decide +kernel
theorem dX12_waitsAll_33 : decode cX12_waitsAll 33 = .ok (.aload_n 0, 1) := by decide +kernel
theorem dX12_waitsAll_34 : decode cX12_waitsAll 34 = .ok (.getfield 9, 3) := by decide +kernel
theorem dX12_waitsAll_37 : decode cX12_waitsAll 37 = .ok (.bipush 46, 2) := by decide +kernel
theorem dX12_waitsAll_39 : decode cX12_waitsAll 39 = .ok (.iload_n 2, 1) := by decide +kernel
theorem dX12_waitsAll_40 : decode cX12_waitsAll 40 = .ok (.iadd, 1) := by decide +kernel
theorem dX12_waitsAll_41 : decode cX12_waitsAll 41 = .ok (.iaload, 1) := by decide +kernel
theorem dX12_waitsAll_42 : decode cX12_waitsAll 42 = .ok (.invokevirtual 168, 3) := by decide +kernel
theorem dX12_waitsAll_45 : decode cX12_waitsAll 45 = .ok (.istore_n 3, 1) := by decide +kernel
theorem dX12_waitsAll_46 : decode cX12_waitsAll 46 = .ok (.iload_n 1, 1) := by decide +kernel
theorem dX12_waitsAll_47 : decode cX12_waitsAll 47 = .ok (.iload_n 3, 1) := by decide +kernel
theorem dX12_waitsAll_48 : decode cX12_waitsAll 48 = .ok (.ldc 164, 2) := by decide +kernel
theorem dX12_waitsAll_50 : decode cX12_waitsAll 50 = .ok (.if_icmp .lt 8, 3) := by decide +kernel
theorem dX12_waitsAll_53 : decode cX12_waitsAll 53 = .ok (.bipush 61, 2) := by decide +kernel
theorem dX12_waitsAll_55 : decode cX12_waitsAll 55 = .ok (.goto 4, 3) := by decide +kernel
theorem dX12_waitsAll_58 : decode cX12_waitsAll 58 = .ok (.iload_n 3, 1) := by decide +kernel
theorem dX12_waitsAll_59 : decode cX12_waitsAll 59 = .ok (.iadd, 1) := by decide +kernel
theorem dX12_waitsAll_60 : decode cX12_waitsAll 60 = .ok (.istore_n 1, 1) := by decide +kernel
theorem dX12_waitsAll_61 : decode cX12_waitsAll 61 = .ok (.iinc 2 1, 3) := by decide +kernel
theorem dX12_waitsAll_64 : decode cX12_waitsAll 64 = .ok (.goto (-60), 3) := by decide +kernel
theorem dX12_waitsAll_67 : decode cX12_waitsAll 67 = .ok (.iload_n 1, 1) := by decide +kernel
theorem dX12_waitsAll_68 : decode cX12_waitsAll 68 = .ok (.ireturn, 1) := by decide +kernel
set_option maxRecDepth 100000 in
set_option maxHeartbeats 4000000 in
theorem s_waitsAll (l : Launch) (g : zG) (h : Hp) (m : Nat) (F : Nat → Int32) (A : Nat → Nat → Int32) (T : Nat) (Q : pP) (hi : iT (A 1) T Q) (hlv : lvI T Q F A) (n0 n1 : Nat) (hR : iR (A 1) n1) (hS : iS (A 1) n0) (n3 : Nat) (hA3 : iA (A 1) n0 n1 n3) : Sp l g yX12_waitsAll cX12_waitsAll 4 (some .int) (rmz 8) [.ref m] (hM g h m F A) (zI (lres g h m F A T Q (nI (wS (A 1) T Q n3)))) := by
  refine Sp.of [some (.ref m), none, none, none] (by decide) (Nat.le_of_ble_eq_true rfl) rfl rfl ?_
  rintro X rfl hr rfl B
  show AW X 0 0 0 _ _ _ _
  have lp : ∀ (f j : Nat) (F1 : Nat → Int32) (A1 : Nat → Nat → Int32), n3 < j + f → j ≤ n3 → eqF [11, 12, 14] F F1 → eqA [3, 4, 5] A A1 → lvI T Q F1 A1 → AW X 0 0 4 [some (.ref m), some (.int (nI (wS (A 1) T Q j))), some (.int (nI j)), none] [] (hM (zXg X) h m F1 A1) (zI (lres (zXg X) h m F A T Q (nI (wS (A 1) T Q n3)))) := by
    intro f
    induction f with
    | zero => intros; omega
    | succ f ih =>
      intro j F1 A1 hf hj hF hA hlv1
      have e1 : A1 1 = A 1 := hA 1 (by simp)
      have z3 := hA3.1
      refine aw_iload_n B 2 rfl dX12_waitsAll_4 rfl ?_
      refine aw_aload_n B 0 rfl dX12_waitsAll_5 rfl ?_
      refine m_get B f_X12_9 dX12_waitsAll_6 (mg_1 _ _) ?_
      refine aw_iconst B 3 (by decide) dX12_waitsAll_9 ?_
      refine m_ld B (3) (rfl) ((by decide)) dX12_waitsAll_10 (by decide) ?_
      refine aw_icmp_ge B 67 dX12_waitsAll_11 (fun c11 => ?_) (fun c11 => ?_)
      · refine aw_iload_n B 1 rfl dX12_waitsAll_67 rfl ?_
        refine aw_iret B rfl rfl dX12_waitsAll_68 ?_
        have hje : j = n3 := Nat.le_antisymm hj ((nI_leI (by omega) (by omega)).mp (by rw [e1, hA3.2.1] at c11; exact c11))
        exact ⟨_, rfl, by rw [hje], F1, A1, rfl, hF, hA, hlv1⟩
      · have hlt : j < n3 := Nat.not_le.mp fun z => c11 (by rw [e1, hA3.2.1]; exact nI_le z (by omega))
        obtain ⟨⟨r, hr1, er⟩, ⟨s, hs, es⟩, a, ha, ea⟩ := hA3.2.2 j hlt
        have z1 := hR.1
        have z2 := hS.1
        have ew : w1 (A 1) T Q j = if soS (A 1) T Q r s a < 100000 then soS (A 1) T Q r s a else 61 := by
          unfold w1
          rw [er, es, ea, kN_nI (by omega), kN_nI (by omega), kN_nI (by omega)]
        have hsl := soS_le (A 1) T Q r s a
        have hwl := wS_le (A 1) T Q j
        refine aw_aload_n B 0 rfl dX12_waitsAll_14 rfl ?_
        refine aw_aload_n B 0 rfl dX12_waitsAll_15 rfl ?_
        refine m_get B f_X12_9 dX12_waitsAll_16 (mg_1 _ _) ?_
        refine aw_bipush B 30 (by decide) dX12_waitsAll_19 ?_
        refine aw_iload_n B 2 rfl dX12_waitsAll_21 rfl ?_
        refine aw_iadd B dX12_waitsAll_22 ?_
        refine m_ld B (30 + j) (ix_c 30 rfl) (by show _ < 899; omega) dX12_waitsAll_23 (by decide) ?_
        rw [e1, er]
        refine aw_aload_n B 0 rfl dX12_waitsAll_24 rfl ?_
        refine m_get B f_X12_9 dX12_waitsAll_25 (mg_1 _ _) ?_
        refine aw_bipush B 38 (by decide) dX12_waitsAll_28 ?_
        refine aw_iload_n B 2 rfl dX12_waitsAll_30 rfl ?_
        refine aw_iadd B dX12_waitsAll_31 ?_
        refine m_ld B (38 + j) (ix_c 38 rfl) (by show _ < 899; omega) dX12_waitsAll_32 (by decide) ?_
        rw [e1, es]
        refine aw_aload_n B 0 rfl dX12_waitsAll_33 rfl ?_
        refine m_get B f_X12_9 dX12_waitsAll_34 (mg_1 _ _) ?_
        refine aw_bipush B 46 (by decide) dX12_waitsAll_37 ?_
        refine aw_iload_n B 2 rfl dX12_waitsAll_39 rfl ?_
        refine aw_iadd B dX12_waitsAll_40 ?_
        refine m_ld B (46 + j) (ix_c 46 rfl) (by show _ < 899; omega) dX12_waitsAll_41 (by decide) ?_
        rw [e1, ea]
        refine aw_callV B 0 0 (s_soonS _ _ _ _ _ _ T Q (by rw [e1]; exact hi) hlv1 n0 n1 r s a (by rw [e1]; exact hR) (by rw [e1]; exact hS) hr1 hs (by omega)) co_X12_soonFrom k_X12_168 dX12_waitsAll_42 hM_o rfl rfl rfl rfl (Nat.le_of_ble_eq_true rfl) (zrm hr (by decide)) (Nat.le_refl _) (Nat.le_refl _) (kI fun r42 h42 hp42 => ?_)
        rw [e1] at hp42
        obtain ⟨rfl, F2, A2, rfl, hF2, hA2, hlv2⟩ := hp42
        refine aw_istore3 B dX12_waitsAll_45 ?_
        refine aw_iload_n B 1 rfl dX12_waitsAll_46 rfl ?_
        refine aw_iload_n B 3 rfl dX12_waitsAll_47 rfl ?_
        refine aw_ldc B cn_X12_164 dX12_waitsAll_48 ?_
        refine aw_icmp_lt B 58 dX12_waitsAll_50 (fun c50 => ?_) (fun c50 => ?_)
        · refine aw_iload_n B 3 rfl dX12_waitsAll_58 rfl ?_
          refine aw_iadd B dX12_waitsAll_59 ?_
          refine aw_istore1 B dX12_waitsAll_60 ?_
          refine aw_iinc2 B 1 (by decide) dX12_waitsAll_61 ?_
          refine aw_goto B 4 dX12_waitsAll_64 ?_
          first
            | (have hc : soS (A 1) T Q r s a < 100000 := by
                 rcases hsl with q | q
                 · omega
                 · rw [q] at c50; exact absurd c50 (by decide)
               rw [if_pos hc] at ew)
            | (have hc : ¬ soS (A 1) T Q r s a < 100000 := fun q => c50 (nI_lt (b := 100000) q (by decide))
               rw [if_neg hc] at ew)
          rw [nI_1]
          refine AW.weak (lv' := [some (.ref m), some (.int (nI (wS (A 1) T Q (j + 1)))), some (.int (nI (j + 1))), none]) ⟨Or.inr rfl, Or.inr ?_, Or.inr rfl, Or.inl rfl, trivial⟩ (ih (j + 1) F2 A2 (by omega) (by omega) (hF.tr hF2) (hA.tr hA2) hlv2)
          rw [wS, ew, ← nI_add]
          try rfl
        · refine aw_bipush B 61 (by decide) dX12_waitsAll_53 ?_
          refine aw_goto B 59 dX12_waitsAll_55 ?_
          refine aw_iadd B dX12_waitsAll_59 ?_
          refine aw_istore1 B dX12_waitsAll_60 ?_
          refine aw_iinc2 B 1 (by decide) dX12_waitsAll_61 ?_
          refine aw_goto B 4 dX12_waitsAll_64 ?_
          first
            | (have hc : soS (A 1) T Q r s a < 100000 := by
                 rcases hsl with q | q
                 · omega
                 · rw [q] at c50; exact absurd c50 (by decide)
               rw [if_pos hc] at ew)
            | (have hc : ¬ soS (A 1) T Q r s a < 100000 := fun q => c50 (nI_lt (b := 100000) q (by decide))
               rw [if_neg hc] at ew)
          rw [nI_1]
          refine AW.weak (lv' := [some (.ref m), some (.int (nI (wS (A 1) T Q (j + 1)))), some (.int (nI (j + 1))), none]) ⟨Or.inr rfl, Or.inr ?_, Or.inr rfl, Or.inl rfl, trivial⟩ (ih (j + 1) F2 A2 (by omega) (by omega) (hF.tr hF2) (hA.tr hA2) hlv2)
          rw [wS, ew, ← nI_add]
          try rfl
  refine aw_iconst B 0 (by decide) dX12_waitsAll_0 ?_
  refine aw_istore1 B dX12_waitsAll_1 ?_
  refine aw_iconst B 0 (by decide) dX12_waitsAll_2 ?_
  refine aw_istore2 B dX12_waitsAll_3 ?_
  exact lp 9 0 F A (by have := hA3.1; omega) (Nat.zero_le _) eqF.rf eqA.rf hlv
theorem dX12_waits_0 : decode cX12_waits 0 = .ok (.aload_n 0, 1) := by decide +kernel
theorem dX12_waits_1 : decode cX12_waits 1 = .ok (.invokevirtual 165, 3) := by decide +kernel
theorem dX12_waits_4 : decode cX12_waits 4 = .ok (.aload_n 0, 1) := by decide +kernel
theorem dX12_waits_5 : decode cX12_waits 5 = .ok (.invokevirtual 194, 3) := by decide +kernel
theorem dX12_waits_8 : decode cX12_waits 8 = .ok (.ireturn, 1) := by decide +kernel
set_option maxRecDepth 100000 in
set_option maxHeartbeats 4000000 in
theorem s_waits (l : Launch) (g : zG) (h : Hp) (m : Nat) (F : Nat → Int32) (A : Nat → Nat → Int32) (T : Nat) (Q : pP) (hi : iT (A 1) T Q) (n0 n1 : Nat) (hR : iR (A 1) n1) (hS : iS (A 1) n0) (n3 : Nat) (hA3 : iA (A 1) n0 n1 n3) : Sp l g yX12_waits cX12_waits 1 (some .int) (rmz 9) [.ref m] (hM g h m F A) (zI (mq g h m F A (nI (wS (A 1) T Q n3)))) := by
  refine Sp.of [some (.ref m)] (by decide) (Nat.le_of_ble_eq_true rfl) rfl rfl ?_
  rintro X rfl hr rfl B
  show AW X 0 0 0 _ _ _ _
  refine aw_aload_n B 0 rfl dX12_waits_0 rfl ?_
  refine aw_callV B 0 0 (s_forgets _ _ _ _ _ _) co_X12_forgets k_X12_165 dX12_waits_1 hM_o rfl rfl rfl rfl (Nat.le_of_ble_eq_true rfl) (zrm hr (by decide)) (Nat.le_refl _) (Nat.le_refl _) (kV fun h1 hp1 => ?_)
  subst hp1
  refine aw_aload_n B 0 rfl dX12_waits_4 rfl ?_
  refine aw_callV B 0 0 (s_waitsAll _ _ _ _ _ _ T Q hi lvI_0 n0 n1 hR hS n3 hA3) co_X12_waitsAll k_X12_194 dX12_waits_5 hM_o rfl rfl rfl rfl (Nat.le_of_ble_eq_true rfl) (zrm hr (by decide)) (Nat.le_refl _) (Nat.le_refl _) (kI fun r5 h5 hp5 => ?_)
  obtain ⟨rfl, F2, A2, rfl, hF2, hA2, hlv2⟩ := hp5
  refine aw_iret B rfl rfl dX12_waits_8 ?_
  exact ⟨_, rfl, rfl, F2, A2, rfl, gar_5.tr (gar_1 hF2), gar_2 hA2, trivial⟩
end
section
def coS (S : Nat → Int32) (T : Nat) (Q : pP) (r s a : Nat) : Bool := cB T Q (kN (S (22 + r))) (kN (S (26 + r))) (kN (S (10 + s))) (p_needs (kN (S (22 + r))) (kN (S (26 + r))) (kN (S (16 + s)))) a
def lkF (S : Nat → Int32) (T : Nat) (Q : pP) : Nat → Nat → Int32
  | 0, _ => -5
  | f + 1, j => if coS S T Q (kN (S (70 + j))) (kN (S (78 + j))) (kN (S (86 + j))) then lkF S T Q f (j + 1) else nI j
def nxF (T : Nat) (Q : pP) (x : Int32) : Nat → Nat → Int32
  | 0, _ => -5
  | f + 1, k => if lvl (T + k) Q ≤ x then nI k else nxF T Q x f (k + 1)
def q_next (T : Nat) (Q : pP) (x : Int32) : Int32 := if bI (0 ≤ x ∧ x ≤ 9) = 0 then -2 else nxF T Q x 61 0
def frF (S : Nat → Int32) (lv : Int32) : Nat → Int32
  | 0 => 0
  | j + 1 => frF S lv j ||| (if lv ≤ S (10 + j) then (1 : Int32) <<< (nI j &&& 31) else 0)
def q_force (S : Nat → Int32) (T : Nat) (Q : pP) (n0 : Nat) (x : Int32) : Int32 := if bI (0 ≤ x ∧ x ≤ 60) = 0 then -2 else frF S (lvl (T + kN x) Q) n0
def opF (T : Nat) (Q : pP) (x : Int32) : Nat → Int32 × Int32 × Int32
  | 0 => (0, 0, 0)
  | j + 1 => if lvl (T + j) Q ≤ x then ((opF T Q x j).1 + 1, (opF T Q x j).2.1 + 1, if (opF T Q x j).2.1 + 1 ≤ (opF T Q x j).2.2 then (opF T Q x j).2.2 else (opF T Q x j).2.1 + 1) else ((opF T Q x j).1 + 0, 0, if (0 : Int32) ≤ (opF T Q x j).2.2 then (opF T Q x j).2.2 else 0)
def q_open (T : Nat) (Q : pP) (x n w : Int32) : Int32 := if bI (0 ≤ x ∧ x ≤ 8) = 0 then -1 else if bI (0 ≤ w ∧ w ≤ 1) = 0 then -1 else if bI (0 ≤ n ∧ n ≤ 60) = 0 then -2 else if w = 0 then (opF T Q x (kN n)).1 else (opF T Q x (kN n)).2.2
def inF (lv d : Int32) : Nat → Int32 → Int32
  | 0, s => s
  | sh + 1, s => inF lv d sh s &&& (if (if lv ≤ nI sh then (1 : Int32) else 0) = d then 511 else (1 : Int32) <<< (nI sh &&& 31) ^^^ (-1))
def stF (S : Nat → Int32) (T : Nat) (Q : pP) : Nat → Int32
  | 0 => 511
  | k + 1 => inF (lvl (T + kN (S (54 + k))) Q) (S (62 + k)) 9 (stF S T Q k)
theorem dX12_looked_0 : decode cX12_looked 0 = .ok (.aload_n 0, 1) := by decide +kernel
theorem dX12_looked_1 : decode cX12_looked 1 = .ok (.invokevirtual 165, 3) := by decide +kernel
theorem dX12_looked_4 : decode cX12_looked 4 = .ok (.iconst 0, 1) := by decide +kernel
theorem dX12_looked_5 : decode cX12_looked 5 = .ok (.istore_n 1, 1) := by decide +kernel
theorem dX12_looked_6 : decode cX12_looked 6 = .ok (.iload_n 1, 1) := by decide +kernel
theorem dX12_looked_7 : decode cX12_looked 7 = .ok (.aload_n 0, 1) := by decide +kernel
theorem dX12_looked_8 : decode cX12_looked 8 = .ok (.getfield 9, 3) := by decide +kernel
theorem dX12_looked_11 : decode cX12_looked 11 = .ok (.iconst 5, 1) := by decide +kernel
theorem dX12_looked_12 : decode cX12_looked 12 = .ok (.iaload, 1) := by decide +kernel
theorem dX12_looked_13 : decode cX12_looked 13 = .ok (.if_icmp .ge 45, 3) := by decide +kernel
theorem dX12_looked_16 : decode cX12_looked 16 = .ok (.aload_n 0, 1) := by decide +kernel
theorem dX12_looked_17 : decode cX12_looked 17 = .ok (.aload_n 0, 1) := by decide +kernel
theorem dX12_looked_18 : decode cX12_looked 18 = .ok (.getfield 9, 3) := by decide +kernel
theorem dX12_looked_21 : decode cX12_looked 21 = .ok (.bipush 70, 2) := by decide +kernel
theorem dX12_looked_23 : decode cX12_looked 23 = .ok (.iload_n 1, 1) := by decide +kernel
theorem dX12_looked_24 : decode cX12_looked 24 = .ok (.iadd, 1) := by decide +kernel
theorem dX12_looked_25 : decode cX12_looked 25 = .ok (.iaload, 1) := by decide +kernel
theorem dX12_looked_26 : decode cX12_looked 26 = .ok (.aload_n 0, 1) := by decide +kernel
theorem dX12_looked_27 : decode cX12_looked 27 = .ok (.getfield 9, 3) := by decide +kernel
theorem dX12_looked_30 : decode cX12_looked 30 = .ok (.bipush 78, 2) := by decide +kernel
theorem dX12_looked_32 : decode cX12_looked 32 = .ok (.iload_n 1, 1) := by decide +kernel
theorem dX12_looked_33 : decode cX12_looked 33 = .ok (.iadd, 1) := by decide +kernel
theorem dX12_looked_34 : decode cX12_looked 34 = .ok (.iaload, 1) := by decide +kernel
theorem dX12_looked_35 : decode cX12_looked 35 = .ok (.aload_n 0, 1) := by decide +kernel
theorem dX12_looked_36 : decode cX12_looked 36 = .ok (.getfield 9, 3) := by decide +kernel
theorem dX12_looked_39 : decode cX12_looked 39 = .ok (.bipush 86, 2) := by decide +kernel
theorem dX12_looked_41 : decode cX12_looked 41 = .ok (.iload_n 1, 1) := by decide +kernel
theorem dX12_looked_42 : decode cX12_looked 42 = .ok (.iadd, 1) := by decide +kernel
theorem dX12_looked_43 : decode cX12_looked 43 = .ok (.iaload, 1) := by decide +kernel
theorem dX12_looked_44 : decode cX12_looked 44 = .ok (.invokevirtual 161, 3) := by decide +kernel
theorem dX12_looked_47 : decode cX12_looked 47 = .ok (.ifCond .ne 5, 3) := by decide +kernel
theorem dX12_looked_50 : decode cX12_looked 50 = .ok (.iload_n 1, 1) := by decide +kernel
theorem dX12_looked_51 : decode cX12_looked 51 = .ok (.ireturn, 1) := by decide +kernel
theorem dX12_looked_52 : decode cX12_looked 52 = .ok (.iinc 1 1, 3) := by decide +kernel
theorem dX12_looked_55 : decode cX12_looked 55 = .ok (.goto (-49), 3) := by decide +kernel
theorem dX12_looked_58 : decode cX12_looked 58 = .ok (.bipush (-5), 2) := by decide +kernel
theorem dX12_looked_60 : decode cX12_looked 60 = .ok (.ireturn, 1) := by decide +kernel
set_option maxRecDepth 100000 in
set_option maxHeartbeats 4000000 in
theorem s_looked (l : Launch) (g : zG) (h : Hp) (m : Nat) (F : Nat → Int32) (A : Nat → Nat → Int32) (T : Nat) (Q : pP) (hi : iT (A 1) T Q) (n0 n1 : Nat) (hR : iR (A 1) n1) (hS : iS (A 1) n0) (n5 : Nat) (hL5 : iL (A 1) n0 n1 n5) : Sp l g yX12_looked cX12_looked 2 (some .int) (rmz 8) [.ref m] (hM g h m F A) (zI (mq g h m F A (lkF (A 1) T Q n5 0))) := by
  refine Sp.of [some (.ref m), none] (by decide) (Nat.le_of_ble_eq_true rfl) rfl rfl ?_
  rintro X rfl hr rfl B
  show AW X 0 0 0 _ _ _ _
  have lp : ∀ (f j : Nat) (F1 : Nat → Int32) (A1 : Nat → Nat → Int32), j + f = n5 → lkF (A 1) T Q f j = lkF (A 1) T Q n5 0 → eqF GF F F1 → eqA GA A A1 → lvI T Q F1 A1 → AW X 0 0 6 [some (.ref m), some (.int (nI j))] [] (hM (zXg X) h m F1 A1) (zI (mq (zXg X) h m F A (lkF (A 1) T Q n5 0))) := by
    intro f
    induction f with
    | zero =>
      intro j F1 A1 hf hs hF hA hlv1
      have e1 : A1 1 = A 1 := hA 1 (by simp [GA])
      have z5 := hL5.1
      refine aw_iload_n B 1 rfl dX12_looked_6 rfl ?_
      refine aw_aload_n B 0 rfl dX12_looked_7 rfl ?_
      refine m_get B f_X12_9 dX12_looked_8 (mg_1 _ _) ?_
      refine aw_iconst B 5 (by decide) dX12_looked_11 ?_
      refine m_ld B (5) (rfl) ((by decide)) dX12_looked_12 (by decide) ?_
      refine aw_icmp_ge B 58 dX12_looked_13 (fun c13 => ?_) (fun c13 => absurd (show A1 1 5 ≤ nI j from by rw [e1, hL5.2.1]; exact nI_le (by omega) (by omega)) c13)
      refine aw_bipush B (-5) (by decide) dX12_looked_58 ?_
      refine aw_iret B rfl rfl dX12_looked_60 ?_
      exact ⟨_, rfl, by rw [← hs]; rfl, F1, A1, rfl, hF, hA, trivial⟩
    | succ f ih =>
      intro j F1 A1 hf hs hF hA hlv1
      have e1 : A1 1 = A 1 := hA 1 (by simp [GA])
      have z5 := hL5.1
      have hlt : j < n5 := by omega
      refine aw_iload_n B 1 rfl dX12_looked_6 rfl ?_
      refine aw_aload_n B 0 rfl dX12_looked_7 rfl ?_
      refine m_get B f_X12_9 dX12_looked_8 (mg_1 _ _) ?_
      refine aw_iconst B 5 (by decide) dX12_looked_11 ?_
      refine m_ld B (5) (rfl) ((by decide)) dX12_looked_12 (by decide) ?_
      refine aw_icmp_ge B 58 dX12_looked_13 (fun c13 => absurd c13 (by rw [e1, hL5.2.1, Int32.not_le]; exact nI_lt hlt (by omega))) (fun c13 => ?_)
      obtain ⟨⟨r, hr1, er⟩, ⟨s, hs1, es⟩, a, ha, ea⟩ := hL5.2.2 j hlt
      have z1 := hR.1
      have z2 := hS.1
      have hs' : (if coS (A 1) T Q r s a then lkF (A 1) T Q f (j + 1) else nI j) = lkF (A 1) T Q n5 0 := by
        rw [← hs, lkF, er, es, ea, kN_nI (by omega), kN_nI (by omega), kN_nI (by omega)]
      refine aw_aload_n B 0 rfl dX12_looked_16 rfl ?_
      refine aw_aload_n B 0 rfl dX12_looked_17 rfl ?_
      refine m_get B f_X12_9 dX12_looked_18 (mg_1 _ _) ?_
      refine aw_bipush B 70 (by decide) dX12_looked_21 ?_
      refine aw_iload_n B 1 rfl dX12_looked_23 rfl ?_
      refine aw_iadd B dX12_looked_24 ?_
      refine m_ld B (70 + j) (ix_c 70 rfl) (by show _ < 899; omega) dX12_looked_25 (by decide) ?_
      rw [e1, er]
      refine aw_aload_n B 0 rfl dX12_looked_26 rfl ?_
      refine m_get B f_X12_9 dX12_looked_27 (mg_1 _ _) ?_
      refine aw_bipush B 78 (by decide) dX12_looked_30 ?_
      refine aw_iload_n B 1 rfl dX12_looked_32 rfl ?_
      refine aw_iadd B dX12_looked_33 ?_
      refine m_ld B (78 + j) (ix_c 78 rfl) (by show _ < 899; omega) dX12_looked_34 (by decide) ?_
      rw [e1, es]
      refine aw_aload_n B 0 rfl dX12_looked_35 rfl ?_
      refine m_get B f_X12_9 dX12_looked_36 (mg_1 _ _) ?_
      refine aw_bipush B 86 (by decide) dX12_looked_39 ?_
      refine aw_iload_n B 1 rfl dX12_looked_41 rfl ?_
      refine aw_iadd B dX12_looked_42 ?_
      refine m_ld B (86 + j) (ix_c 86 rfl) (by show _ < 899; omega) dX12_looked_43 (by decide) ?_
      rw [e1, ea]
      refine aw_callV B 0 0 (s_canRead _ _ _ _ _ _ T Q (by rw [e1]; exact hi) hlv1 r s _ _ _ _ a (by rw [e1]; exact iK_of hR hr1) (by rw [e1]; exact iZ_of hS hs1) (by omega)) co_X12_canRead k_X12_161 dX12_looked_44 hM_o rfl rfl rfl rfl (Nat.le_of_ble_eq_true rfl) (zrm hr (by decide)) (Nat.le_refl _) (Nat.le_refl _) (kI fun r44 h44 hp44 => ?_)
      obtain ⟨rfl, F2, A2, rfl, hF2, hA2, hlv2⟩ := hp44
      refine aw_if_ne B 52 dX12_looked_47 (fun c47 => ?_) (fun c47 => ?_)
      · have hc : coS (A 1) T Q r s a = true := b2_nz c47
        refine aw_iinc1 B 1 (by decide) dX12_looked_52 ?_
        refine aw_goto B 6 dX12_looked_55 ?_
        rw [nI_1]
        rw [if_pos hc] at hs'
        exact ih (j + 1) F2 A2 (by omega) hs' (hF.tr (gar_1 hF2)) (hA.tr (gar_2 hA2)) hlv2
      · have hc : coS (A 1) T Q r s a = false := b2_z c47
        refine aw_iload_n B 1 rfl dX12_looked_50 rfl ?_
        refine aw_iret B rfl rfl dX12_looked_51 ?_
        exact ⟨_, rfl, by rw [← hs', if_neg (by rw [hc]; decide)], F2, A2, rfl, hF.tr (gar_1 hF2), hA.tr (gar_2 hA2), trivial⟩
  refine aw_aload_n B 0 rfl dX12_looked_0 rfl ?_
  refine aw_callV B 0 0 (s_forgets _ _ _ _ _ _) co_X12_forgets k_X12_165 dX12_looked_1 hM_o rfl rfl rfl rfl (Nat.le_of_ble_eq_true rfl) (zrm hr (by decide)) (Nat.le_refl _) (Nat.le_refl _) (kV fun h1 hp1 => ?_)
  subst hp1
  refine aw_iconst B 0 (by decide) dX12_looked_4 ?_
  refine aw_istore1 B dX12_looked_5 ?_
  exact lp n5 0 _ A (by omega) rfl gar_5 eqA.rf lvI_0
theorem dX12_next_0 : decode cX12_next 0 = .ok (.iload_n 1, 1) := by decide +kernel
theorem dX12_next_1 : decode cX12_next 1 = .ok (.iconst 0, 1) := by decide +kernel
theorem dX12_next_2 : decode cX12_next 2 = .ok (.bipush 9, 2) := by decide +kernel
theorem dX12_next_4 : decode cX12_next 4 = .ok (.invokestatic 44, 3) := by decide +kernel
theorem dX12_next_7 : decode cX12_next 7 = .ok (.ifCond .ne 6, 3) := by decide +kernel
theorem dX12_next_10 : decode cX12_next 10 = .ok (.bipush (-2), 2) := by decide +kernel
theorem dX12_next_12 : decode cX12_next 12 = .ok (.ireturn, 1) := by decide +kernel
theorem dX12_next_13 : decode cX12_next 13 = .ok (.iconst 0, 1) := by decide +kernel
theorem dX12_next_14 : decode cX12_next 14 = .ok (.istore_n 2, 1) := by decide +kernel
theorem dX12_next_15 : decode cX12_next 15 = .ok (.iload_n 2, 1) := by decide +kernel
theorem dX12_next_16 : decode cX12_next 16 = .ok (.bipush 60, 2) := by decide +kernel
theorem dX12_next_18 : decode cX12_next 18 = .ok (.if_icmp .gt 28, 3) := by decide +kernel
theorem dX12_next_21 : decode cX12_next 21 = .ok (.aload_n 0, 1) := by decide +kernel
theorem dX12_next_22 : decode cX12_next 22 = .ok (.aload_n 0, 1) := by decide +kernel
theorem dX12_next_23 : decode cX12_next 23 = .ok (.getfield 9, 3) := by decide +kernel
theorem dX12_next_26 : decode cX12_next 26 = .ok (.bipush 8, 2) := by decide +kernel
theorem dX12_next_28 : decode cX12_next 28 = .ok (.iaload, 1) := by decide +kernel
theorem dX12_next_29 : decode cX12_next 29 = .ok (.iload_n 2, 1) := by decide +kernel
theorem dX12_next_30 : decode cX12_next 30 = .ok (.iadd, 1) := by decide +kernel
theorem dX12_next_31 : decode cX12_next 31 = .ok (.invokevirtual 133, 3) := by decide +kernel
theorem dX12_next_34 : decode cX12_next 34 = .ok (.iload_n 1, 1) := by decide +kernel
theorem dX12_next_35 : decode cX12_next 35 = .ok (.if_icmp .gt 5, 3) := by decide +kernel
theorem dX12_next_38 : decode cX12_next 38 = .ok (.iload_n 2, 1) := by decide +kernel
theorem dX12_next_39 : decode cX12_next 39 = .ok (.ireturn, 1) := by decide +kernel
theorem dX12_next_40 : decode cX12_next 40 = .ok (.iinc 2 1, 3) := by decide +kernel
theorem dX12_next_43 : decode cX12_next 43 = .ok (.goto (-28), 3) := by decide +kernel
theorem dX12_next_46 : decode cX12_next 46 = .ok (.bipush (-5), 2) := by decide +kernel
theorem dX12_next_48 : decode cX12_next 48 = .ok (.ireturn, 1) := by decide +kernel
set_option maxRecDepth 100000 in
set_option maxHeartbeats 4000000 in
theorem s_next (l : Launch) (g : zG) (h : Hp) (m : Nat) (F : Nat → Int32) (A : Nat → Nat → Int32) (x : Int32) (T : Nat) (Q : pP) (hi : iT (A 1) T Q) : Sp l g yX12_next cX12_next 3 (some .int) (rmz 3) [.ref m, .int x] (hM g h m F A) (zI (mq g h m F A (q_next T Q x))) := by
  refine Sp.of [some (.ref m), some (.int x), none] (by decide) (Nat.le_of_ble_eq_true rfl) rfl rfl ?_
  rintro X rfl hr rfl B
  show AW X 0 0 0 _ _ _ _
  have lp : ∀ (f k : Nat) (F1 : Nat → Int32) (A1 : Nat → Nat → Int32), k + f = 61 → nxF T Q x f k = nxF T Q x 61 0 → bI (0 ≤ x ∧ x ≤ 9) ≠ 0 → eqF GF F F1 → eqA GA A A1 → AW X 0 0 15 [some (.ref m), some (.int x), some (.int (nI k))] [] (hM (zXg X) h m F1 A1) (zI (mq (zXg X) h m F A (q_next T Q x))) := by
    intro f
    induction f with
    | zero =>
      intro k F1 A1 hf hs hx hF hA
      refine aw_iload_n B 2 rfl dX12_next_15 rfl ?_
      refine aw_bipush B 60 (by decide) dX12_next_16 ?_
      refine aw_icmp_gt B 46 dX12_next_18 (fun c18 => ?_) (fun c18 => absurd (show (60 : Int32) < nI k from nI_lt (a := 60) (by omega) (by omega)) c18)
      refine aw_bipush B (-5) (by decide) dX12_next_46 ?_
      refine aw_iret B rfl rfl dX12_next_48 ?_
      exact ⟨_, rfl, by unfold q_next; rw [if_neg hx, ← hs]; rfl, F1, A1, rfl, hF, hA, trivial⟩
    | succ f ih =>
      intro k F1 A1 hf hs hx hF hA
      have e1 : A1 1 = A 1 := hA 1 (by simp [GA])
      refine aw_iload_n B 2 rfl dX12_next_15 rfl ?_
      refine aw_bipush B 60 (by decide) dX12_next_16 ?_
      refine aw_icmp_gt B 46 dX12_next_18 (fun c18 => absurd c18 (by rw [Int32.not_lt]; exact nI_le (b := 60) (by omega) (by decide))) (fun c18 => ?_)
      refine aw_aload_n B 0 rfl dX12_next_21 rfl ?_
      refine aw_aload_n B 0 rfl dX12_next_22 rfl ?_
      refine m_get B f_X12_9 dX12_next_23 (mg_1 _ _) ?_
      refine aw_bipush B 8 (by decide) dX12_next_26 ?_
      refine m_ld B (8) (rfl) ((by decide)) dX12_next_28 (by decide) ?_
      rw [e1, hi.1]
      refine aw_iload_n B 2 rfl dX12_next_29 rfl ?_
      refine aw_iadd B dX12_next_30 ?_
      rw [nI_add]
      refine aw_callV B 0 0 (s_levelAt _ _ _ _ _ _ (T + k) Q (by have := hi.2.1; omega) (by rw [e1]; exact hi.2.2.1) hi.2.2.2) co_X12_levelAt k_X12_133 dX12_next_31 hM_o rfl rfl rfl rfl (Nat.le_of_ble_eq_true rfl) (zrm hr (by decide)) (Nat.le_refl _) (Nat.le_refl _) (kI fun r31 h31 hp31 => ?_)
      obtain ⟨rfl, F2, A2, rfl, hF2, hA2, hw2⟩ := hp31
      refine aw_iload_n B 1 rfl dX12_next_34 rfl ?_
      refine aw_icmp_gt B 40 dX12_next_35 (fun c35 => ?_) (fun c35 => ?_)
      · refine aw_iinc2 B 1 (by decide) dX12_next_40 ?_
        refine aw_goto B 15 dX12_next_43 ?_
        rw [nI_1]
        exact ih (k + 1) F2 A2 (by omega) (by rw [← hs, nxF, if_neg (Int32.not_le.mpr c35)]) hx (hF.tr (gar_3 hF2)) (hA.tr (gar_4 hA2))
      · refine aw_iload_n B 2 rfl dX12_next_38 rfl ?_
        refine aw_iret B rfl rfl dX12_next_39 ?_
        exact ⟨_, rfl, by unfold q_next; rw [if_neg hx, ← hs, nxF, if_pos (Int32.not_lt.mp c35)], F2, A2, rfl, hF.tr (gar_3 hF2), hA.tr (gar_4 hA2), trivial⟩
  refine aw_iload_n B 1 rfl dX12_next_0 rfl ?_
  refine aw_iconst B 0 (by decide) dX12_next_1 ?_
  refine aw_bipush B 9 (by decide) dX12_next_2 ?_
  refine aw_callS B 0 0 (s_in _ _ _ _ _ _) co_X12_in k_X12_44 dX12_next_4 rfl rfl (Nat.le_of_ble_eq_true rfl) (zrm hr (by decide)) (Nat.le_refl _) (Nat.le_refl _) (kI fun r4 h4 hp4 => ?_)
  obtain ⟨rfl, rfl⟩ := hp4
  refine aw_if_ne B 13 dX12_next_7 (fun c7 => ?_) (fun c7 => ?_)
  · refine aw_iconst B 0 (by decide) dX12_next_13 ?_
    refine aw_istore2 B dX12_next_14 ?_
    exact lp 61 0 F A (by omega) rfl c7 eqF.rf eqA.rf
  · refine aw_bipush B (-2) (by decide) dX12_next_10 ?_
    refine aw_iret B rfl rfl dX12_next_12 ?_
    exact ⟨_, rfl, by unfold q_next; rw [if_pos c7], F, A, rfl, eqF.rf, eqA.rf, trivial⟩
theorem dX12_force_0 : decode cX12_force 0 = .ok (.iload_n 1, 1) := by decide +kernel
theorem dX12_force_1 : decode cX12_force 1 = .ok (.iconst 0, 1) := by decide +kernel
theorem dX12_force_2 : decode cX12_force 2 = .ok (.bipush 60, 2) := by decide +kernel
theorem dX12_force_4 : decode cX12_force 4 = .ok (.invokestatic 44, 3) := by decide +kernel
theorem dX12_force_7 : decode cX12_force 7 = .ok (.ifCond .ne 6, 3) := by decide +kernel
theorem dX12_force_10 : decode cX12_force 10 = .ok (.bipush (-2), 2) := by decide +kernel
theorem dX12_force_12 : decode cX12_force 12 = .ok (.ireturn, 1) := by decide +kernel
theorem dX12_force_13 : decode cX12_force 13 = .ok (.aload_n 0, 1) := by decide +kernel
theorem dX12_force_14 : decode cX12_force 14 = .ok (.aload_n 0, 1) := by decide +kernel
theorem dX12_force_15 : decode cX12_force 15 = .ok (.getfield 9, 3) := by decide +kernel
theorem dX12_force_18 : decode cX12_force 18 = .ok (.bipush 8, 2) := by decide +kernel
theorem dX12_force_20 : decode cX12_force 20 = .ok (.iaload, 1) := by decide +kernel
theorem dX12_force_21 : decode cX12_force 21 = .ok (.iload_n 1, 1) := by decide +kernel
theorem dX12_force_22 : decode cX12_force 22 = .ok (.iadd, 1) := by decide +kernel
theorem dX12_force_23 : decode cX12_force 23 = .ok (.invokevirtual 133, 3) := by decide +kernel
theorem dX12_force_26 : decode cX12_force 26 = .ok (.istore_n 2, 1) := by decide +kernel
theorem dX12_force_27 : decode cX12_force 27 = .ok (.iconst 0, 1) := by decide +kernel
theorem dX12_force_28 : decode cX12_force 28 = .ok (.istore_n 3, 1) := by decide +kernel
theorem dX12_force_29 : decode cX12_force 29 = .ok (.iconst 0, 1) := by decide +kernel
theorem dX12_force_30 : decode cX12_force 30 = .ok (.istore 4, 2) := by decide +kernel
theorem dX12_force_32 : decode cX12_force 32 = .ok (.iload 4, 2) := by decide +kernel
theorem dX12_force_34 : decode cX12_force 34 = .ok (.aload_n 0, 1) := by decide +kernel
theorem dX12_force_35 : decode cX12_force 35 = .ok (.getfield 9, 3) := by decide +kernel
theorem dX12_force_38 : decode cX12_force 38 = .ok (.iconst 0, 1) := by decide +kernel
theorem dX12_force_39 : decode cX12_force 39 = .ok (.iaload, 1) := by decide +kernel
theorem dX12_force_40 : decode cX12_force 40 = .ok (.if_icmp .ge 34, 3) := by decide +kernel
theorem dX12_force_43 : decode cX12_force 43 = .ok (.iload_n 3, 1) := by decide +kernel
theorem dX12_force_44 : decode cX12_force 44 = .ok (.iload_n 2, 1) := by decide +kernel
theorem dX12_force_45 : decode cX12_force 45 = .ok (.aload_n 0, 1) := by decide +kernel
theorem dX12_force_46 : decode cX12_force 46 = .ok (.getfield 9, 3) := by decide +kernel
theorem dX12_force_49 : decode cX12_force 49 = .ok (.bipush 10, 2) := by decide +kernel
theorem dX12_force_51 : decode cX12_force 51 = .ok (.iload 4, 2) := by decide +kernel
theorem dX12_force_53 : decode cX12_force 53 = .ok (.iadd, 1) := by decide +kernel
theorem dX12_force_54 : decode cX12_force 54 = .ok (.iaload, 1) := by decide +kernel
theorem dX12_force_55 : decode cX12_force 55 = .ok (.if_icmp .gt 10, 3) := by decide +kernel
theorem dX12_force_58 : decode cX12_force 58 = .ok (.iconst 1, 1) := by decide +kernel
theorem dX12_force_59 : decode cX12_force 59 = .ok (.iload 4, 2) := by decide +kernel
theorem dX12_force_61 : decode cX12_force 61 = .ok (.ishl, 1) := by decide +kernel
theorem dX12_force_62 : decode cX12_force 62 = .ok (.goto 4, 3) := by decide +kernel
theorem dX12_force_65 : decode cX12_force 65 = .ok (.iconst 0, 1) := by decide +kernel
theorem dX12_force_66 : decode cX12_force 66 = .ok (.ior, 1) := by decide +kernel
theorem dX12_force_67 : decode cX12_force 67 = .ok (.istore_n 3, 1) := by decide +kernel
theorem dX12_force_68 : decode cX12_force 68 = .ok (.iinc 4 1, 3) := by decide +kernel
theorem dX12_force_71 : decode cX12_force 71 = .ok (.goto (-39), 3) := by decide +kernel
theorem dX12_force_74 : decode cX12_force 74 = .ok (.iload_n 3, 1) := by decide +kernel
theorem dX12_force_75 : decode cX12_force 75 = .ok (.ireturn, 1) := by decide +kernel
set_option maxRecDepth 100000 in
set_option maxHeartbeats 4000000 in
theorem s_force (l : Launch) (g : zG) (h : Hp) (m : Nat) (F : Nat → Int32) (A : Nat → Nat → Int32) (x : Int32) (T : Nat) (Q : pP) (hi : iT (A 1) T Q) (n0 : Nat) (hS : iS (A 1) n0) : Sp l g yX12_force cX12_force 5 (some .int) (rmz 3) [.ref m, .int x] (hM g h m F A) (zI (mq g h m F A (q_force (A 1) T Q n0 x))) := by
  refine Sp.of [some (.ref m), some (.int x), none, none, none] (by decide) (Nat.le_of_ble_eq_true rfl) rfl rfl ?_
  rintro X rfl hr rfl B
  show AW X 0 0 0 _ _ _ _
  refine aw_iload_n B 1 rfl dX12_force_0 rfl ?_
  refine aw_iconst B 0 (by decide) dX12_force_1 ?_
  refine aw_bipush B 60 (by decide) dX12_force_2 ?_
  refine aw_callS B 0 0 (s_in _ _ _ _ _ _) co_X12_in k_X12_44 dX12_force_4 rfl rfl (Nat.le_of_ble_eq_true rfl) (zrm hr (by decide)) (Nat.le_refl _) (Nat.le_refl _) (kI fun r4 h4 hp4 => ?_)
  obtain ⟨rfl, rfl⟩ := hp4
  refine aw_if_ne B 13 dX12_force_7 (fun c7 => ?_) (fun c7 => ?_)
  · obtain ⟨k, -, hk, rfl⟩ := in_rng (lo := 0) (hi := 60) (of_bI c7) (by decide) (by decide)
    have ek : kN (nI k) = k := kN_nI (by omega)
    refine aw_aload_n B 0 rfl dX12_force_13 rfl ?_
    refine aw_aload_n B 0 rfl dX12_force_14 rfl ?_
    refine m_get B f_X12_9 dX12_force_15 (mg_1 _ _) ?_
    refine aw_bipush B 8 (by decide) dX12_force_18 ?_
    refine m_ld B (8) (rfl) ((by decide)) dX12_force_20 (by decide) ?_
    rw [hi.1]
    refine aw_iload_n B 1 rfl dX12_force_21 rfl ?_
    refine aw_iadd B dX12_force_22 ?_
    rw [nI_add]
    refine aw_callV B 0 0 (s_levelAt _ _ _ _ _ _ (T + k) Q (by have := hi.2.1; omega) hi.2.2.1 hi.2.2.2) co_X12_levelAt k_X12_133 dX12_force_23 hM_o rfl rfl rfl rfl (Nat.le_of_ble_eq_true rfl) (zrm hr (by decide)) (Nat.le_refl _) (Nat.le_refl _) (kI fun r23 h23 hp23 => ?_)
    obtain ⟨rfl, F2, A2, rfl, hF2, hA2, hw2⟩ := hp23
    refine aw_istore2 B dX12_force_26 ?_
    refine aw_iconst B 0 (by decide) dX12_force_27 ?_
    refine aw_istore3 B dX12_force_28 ?_
    refine aw_iconst B 0 (by decide) dX12_force_29 ?_
    refine aw_istore4 B dX12_force_30 ?_
    have e1 : A2 1 = A 1 := hA2 1 (by simp)
    have z2 := hS.1
    have lp : ∀ (f j : Nat), n0 < j + f → j ≤ n0 → AW X 0 0 32 [some (.ref m), some (.int (nI k)), some (.int (lvl (T + k) Q)), some (.int (frF (A 1) (lvl (T + k) Q) j)), some (.int (nI j))] [] (hM (zXg X) h m F2 A2) (zI (mq (zXg X) h m F A (q_force (A 1) T Q n0 (nI k)))) := by
      intro f
      induction f with
      | zero => intros; omega
      | succ f ih =>
        intro j hf hj
        refine aw_iload B dX12_force_32 rfl ?_
        refine aw_aload_n B 0 rfl dX12_force_34 rfl ?_
        refine m_get B f_X12_9 dX12_force_35 (mg_1 _ _) ?_
        refine aw_iconst B 0 (by decide) dX12_force_38 ?_
        refine m_ld B (0) (rfl) ((by decide)) dX12_force_39 (by decide) ?_
        refine aw_icmp_ge B 74 dX12_force_40 (fun c40 => ?_) (fun c40 => ?_)
        · refine aw_iload_n B 3 rfl dX12_force_74 rfl ?_
          refine aw_iret B rfl rfl dX12_force_75 ?_
          have hje : j = n0 := Nat.le_antisymm hj ((nI_leI (by omega) (by omega)).mp (by rw [e1, hS.2.1] at c40; exact c40))
          exact ⟨_, rfl, by unfold q_force; rw [if_neg c7, ek, hje], F2, A2, rfl, gar_3 hF2, gar_4 hA2, trivial⟩
        · have hlt : j < n0 := Nat.not_le.mp fun z => c40 (by rw [e1, hS.2.1]; exact nI_le z (by omega))
          refine aw_iload_n B 3 rfl dX12_force_43 rfl ?_
          refine aw_iload_n B 2 rfl dX12_force_44 rfl ?_
          refine aw_aload_n B 0 rfl dX12_force_45 rfl ?_
          refine m_get B f_X12_9 dX12_force_46 (mg_1 _ _) ?_
          refine aw_bipush B 10 (by decide) dX12_force_49 ?_
          refine aw_iload B dX12_force_51 rfl ?_
          refine aw_iadd B dX12_force_53 ?_
          refine m_ld B (10 + j) (ix_c 10 rfl) (by show _ < 899; omega) dX12_force_54 (by decide) ?_
          refine aw_icmp_gt B 65 dX12_force_55 (fun c55 => ?_) (fun c55 => ?_)
          · refine aw_iconst B 0 (by decide) dX12_force_65 ?_
            refine aw_ior B dX12_force_66 ?_
            refine aw_istore3 B dX12_force_67 ?_
            refine aw_iinc4 B 1 (by decide) dX12_force_68 ?_
            refine aw_goto B 32 dX12_force_71 ?_
            rw [nI_1]
            refine Eq.mp ?_ (ih (j + 1) (by omega) (by omega))
            rw [show frF (A 1) (lvl (T + k) Q) (j + 1) = frF (A 1) (lvl (T + k) Q) j ||| (if lvl (T + k) Q ≤ A 1 (10 + j) then (1 : Int32) <<< (nI j &&& 31) else 0) from rfl]
            first
              | rw [if_pos (Int32.not_lt.mp (by rw [← e1]; exact c55))]
              | rw [if_neg (Int32.not_le.mpr (by rw [← e1]; exact c55))]
          · refine aw_iconst B 1 (by decide) dX12_force_58 ?_
            refine aw_iload B dX12_force_59 rfl ?_
            refine aw_ishl B dX12_force_61 ?_
            refine aw_goto B 66 dX12_force_62 ?_
            refine aw_ior B dX12_force_66 ?_
            refine aw_istore3 B dX12_force_67 ?_
            refine aw_iinc4 B 1 (by decide) dX12_force_68 ?_
            refine aw_goto B 32 dX12_force_71 ?_
            rw [nI_1]
            refine Eq.mp ?_ (ih (j + 1) (by omega) (by omega))
            rw [show frF (A 1) (lvl (T + k) Q) (j + 1) = frF (A 1) (lvl (T + k) Q) j ||| (if lvl (T + k) Q ≤ A 1 (10 + j) then (1 : Int32) <<< (nI j &&& 31) else 0) from rfl]
            first
              | rw [if_pos (Int32.not_lt.mp (by rw [← e1]; exact c55))]
              | rw [if_neg (Int32.not_le.mpr (by rw [← e1]; exact c55))]
    exact lp 7 0 (by omega) (Nat.zero_le _)
  · refine aw_bipush B (-2) (by decide) dX12_force_10 ?_
    refine aw_iret B rfl rfl dX12_force_12 ?_
    exact ⟨_, rfl, by unfold q_force; rw [if_pos c7], F, A, rfl, eqF.rf, eqA.rf, trivial⟩
end
section
theorem dX12_open_0 : decode cX12_open 0 = .ok (.iload_n 1, 1) := by decide +kernel
theorem dX12_open_1 : decode cX12_open 1 = .ok (.invokestatic 137, 3) := by decide +kernel
theorem dX12_open_4 : decode cX12_open 4 = .ok (.ifCond .eq 12, 3) := by decide +kernel
theorem dX12_open_7 : decode cX12_open 7 = .ok (.iload_n 3, 1) := by decide +kernel
theorem dX12_open_8 : decode cX12_open 8 = .ok (.iconst 0, 1) := by decide +kernel
theorem dX12_open_9 : decode cX12_open 9 = .ok (.iconst 1, 1) := by decide +kernel
theorem dX12_open_10 : decode cX12_open 10 = .ok (.invokestatic 44, 3) := by decide +kernel
theorem dX12_open_13 : decode cX12_open 13 = .ok (.ifCond .ne 5, 3) := by decide +kernel
theorem dX12_open_16 : decode cX12_open 16 = .ok (.iconst (-1), 1) := by decide +kernel
theorem dX12_open_17 : decode cX12_open 17 = .ok (.ireturn, 1) := by decide +kernel
theorem dX12_open_18 : decode cX12_open 18 = .ok (.iload_n 2, 1) := by decide +kernel
theorem dX12_open_19 : decode cX12_open 19 = .ok (.iconst 0, 1) := by decide +kernel
theorem dX12_open_20 : decode cX12_open 20 = .ok (.bipush 60, 2) := by decide +kernel
theorem dX12_open_22 : decode cX12_open 22 = .ok (.invokestatic 44, 3) := by decide +kernel
theorem dX12_open_25 : decode cX12_open 25 = .ok (.ifCond .ne 6, 3) := by decide +kernel
theorem dX12_open_28 : decode cX12_open 28 = .ok (.bipush (-2), 2) := by decide +kernel
theorem dX12_open_30 : decode cX12_open 30 = .ok (.ireturn, 1) := by decide +kernel
theorem dX12_open_31 : decode cX12_open 31 = .ok (.aload_n 0, 1) := by decide +kernel
theorem dX12_open_32 : decode cX12_open 32 = .ok (.invokevirtual 165, 3) := by decide +kernel
theorem dX12_open_35 : decode cX12_open 35 = .ok (.iconst 0, 1) := by decide +kernel
theorem dX12_open_36 : decode cX12_open 36 = .ok (.istore 4, 2) := by decide +kernel
theorem dX12_open_38 : decode cX12_open 38 = .ok (.iconst 0, 1) := by decide +kernel
theorem dX12_open_39 : decode cX12_open 39 = .ok (.istore 5, 2) := by decide +kernel
theorem dX12_open_41 : decode cX12_open 41 = .ok (.iconst 0, 1) := by decide +kernel
theorem dX12_open_42 : decode cX12_open 42 = .ok (.istore 6, 2) := by decide +kernel
theorem dX12_open_44 : decode cX12_open 44 = .ok (.iconst 0, 1) := by decide +kernel
theorem dX12_open_45 : decode cX12_open 45 = .ok (.istore 7, 2) := by decide +kernel
theorem dX12_open_47 : decode cX12_open 47 = .ok (.iload 7, 2) := by decide +kernel
theorem dX12_open_49 : decode cX12_open 49 = .ok (.iload_n 2, 1) := by decide +kernel
theorem dX12_open_50 : decode cX12_open 50 = .ok (.if_icmp .ge 72, 3) := by decide +kernel
theorem dX12_open_53 : decode cX12_open 53 = .ok (.aload_n 0, 1) := by decide +kernel
theorem dX12_open_54 : decode cX12_open 54 = .ok (.iload 7, 2) := by decide +kernel
theorem dX12_open_56 : decode cX12_open 56 = .ok (.invokevirtual 151, 3) := by decide +kernel
theorem dX12_open_59 : decode cX12_open 59 = .ok (.iload_n 1, 1) := by decide +kernel
theorem dX12_open_60 : decode cX12_open 60 = .ok (.if_icmp .gt 7, 3) := by decide +kernel
theorem dX12_open_63 : decode cX12_open 63 = .ok (.iconst 1, 1) := by decide +kernel
theorem dX12_open_64 : decode cX12_open 64 = .ok (.goto 4, 3) := by decide +kernel
theorem dX12_open_67 : decode cX12_open 67 = .ok (.iconst 0, 1) := by decide +kernel
theorem dX12_open_68 : decode cX12_open 68 = .ok (.istore 8, 2) := by decide +kernel
theorem dX12_open_70 : decode cX12_open 70 = .ok (.iload 4, 2) := by decide +kernel
theorem dX12_open_72 : decode cX12_open 72 = .ok (.iload 8, 2) := by decide +kernel
theorem dX12_open_74 : decode cX12_open 74 = .ok (.ifCond .eq 7, 3) := by decide +kernel
theorem dX12_open_77 : decode cX12_open 77 = .ok (.iconst 1, 1) := by decide +kernel
theorem dX12_open_78 : decode cX12_open 78 = .ok (.goto 4, 3) := by decide +kernel
theorem dX12_open_81 : decode cX12_open 81 = .ok (.iconst 0, 1) := by decide +kernel
theorem dX12_open_82 : decode cX12_open 82 = .ok (.iadd, 1) := by decide +kernel
theorem dX12_open_83 : decode cX12_open 83 = .ok (.istore 4, 2) := by decide +kernel
theorem dX12_open_85 : decode cX12_open 85 = .ok (.iload 8, 2) := by decide +kernel
theorem dX12_open_87 : decode cX12_open 87 = .ok (.ifCond .eq 10, 3) := by decide +kernel
theorem dX12_open_90 : decode cX12_open 90 = .ok (.iload 5, 2) := by decide +kernel
theorem dX12_open_92 : decode cX12_open 92 = .ok (.iconst 1, 1) := by decide +kernel
theorem dX12_open_93 : decode cX12_open 93 = .ok (.iadd, 1) := by decide +kernel
theorem dX12_open_94 : decode cX12_open 94 = .ok (.goto 4, 3) := by decide +kernel
theorem dX12_open_97 : decode cX12_open 97 = .ok (.iconst 0, 1) := by decide +kernel
theorem dX12_open_98 : decode cX12_open 98 = .ok (.istore 5, 2) := by decide +kernel
theorem dX12_open_100 : decode cX12_open 100 = .ok (.iload 5, 2) := by decide +kernel
theorem dX12_open_102 : decode cX12_open 102 = .ok (.iload 6, 2) := by decide +kernel
theorem dX12_open_104 : decode cX12_open 104 = .ok (.if_icmp .le 8, 3) := by decide +kernel
theorem dX12_open_107 : decode cX12_open 107 = .ok (.iload 5, 2) := by decide +kernel
theorem dX12_open_109 : decode cX12_open 109 = .ok (.goto 5, 3) := by decide +kernel
theorem dX12_open_112 : decode cX12_open 112 = .ok (.iload 6, 2) := by decide +kernel
theorem dX12_open_114 : decode cX12_open 114 = .ok (.istore 6, 2) := by decide +kernel
theorem dX12_open_116 : decode cX12_open 116 = .ok (.iinc 7 1, 3) := by decide +kernel
theorem dX12_open_119 : decode cX12_open 119 = .ok (.goto (-72), 3) := by decide +kernel
theorem dX12_open_122 : decode cX12_open 122 = .ok (.iload_n 3, 1) := by decide +kernel
theorem dX12_open_123 : decode cX12_open 123 = .ok (.ifCond .ne 8, 3) := by decide +kernel
theorem dX12_open_126 : decode cX12_open 126 = .ok (.iload 4, 2) := by decide +kernel
theorem dX12_open_128 : decode cX12_open 128 = .ok (.goto 5, 3) := by decide +kernel
theorem dX12_open_131 : decode cX12_open 131 = .ok (.iload 6, 2) := by decide +kernel
theorem dX12_open_133 : decode cX12_open 133 = .ok (.ireturn, 1) := by decide +kernel
set_option maxRecDepth 100000 in
set_option maxHeartbeats 4000000 in
theorem s_open (l : Launch) (g : zG) (h : Hp) (m : Nat) (F : Nat → Int32) (A : Nat → Nat → Int32) (x n w : Int32) (T : Nat) (Q : pP) (hi : iT (A 1) T Q) : Sp l g yX12_open cX12_open 9 (some .int) (rmz 4) [.ref m, .int x, .int n, .int w] (hM g h m F A) (zI (mq g h m F A (q_open T Q x n w))) := by
  refine Sp.of [some (.ref m), some (.int x), some (.int n), some (.int w), none, none, none, none, none] (by decide) (Nat.le_of_ble_eq_true rfl) rfl rfl ?_
  rintro X rfl hr rfl B
  show AW X 0 0 0 _ _ _ _
  refine aw_iload_n B 1 rfl dX12_open_0 rfl ?_
  refine aw_callS B 0 0 (s_isShelf _ _ _ _) co_X12_isShelf k_X12_137 dX12_open_1 rfl rfl (Nat.le_of_ble_eq_true rfl) (zrm hr (by decide)) (Nat.le_refl _) (Nat.le_refl _) (kI fun r1 h1 hp1 => ?_)
  obtain ⟨rfl, rfl⟩ := hp1
  refine aw_if_eq B 16 dX12_open_4 (fun c4 => ?_) (fun c4 => ?_)
  · refine aw_iconst B (-1) (by decide) dX12_open_16 ?_
    refine aw_iret B rfl rfl dX12_open_17 ?_
    exact ⟨_, rfl, by unfold q_open; rw [if_pos c4], F, A, rfl, eqF.rf, eqA.rf, trivial⟩
  · refine aw_iload_n B 3 rfl dX12_open_7 rfl ?_
    refine aw_iconst B 0 (by decide) dX12_open_8 ?_
    refine aw_iconst B 1 (by decide) dX12_open_9 ?_
    refine aw_callS B 0 0 (s_in _ _ _ _ _ _) co_X12_in k_X12_44 dX12_open_10 rfl rfl (Nat.le_of_ble_eq_true rfl) (zrm hr (by decide)) (Nat.le_refl _) (Nat.le_refl _) (kI fun r10 h10 hp10 => ?_)
    obtain ⟨rfl, rfl⟩ := hp10
    refine aw_if_ne B 18 dX12_open_13 (fun c13 => ?_) (fun c13 => ?_)
    · refine aw_iload_n B 2 rfl dX12_open_18 rfl ?_
      refine aw_iconst B 0 (by decide) dX12_open_19 ?_
      refine aw_bipush B 60 (by decide) dX12_open_20 ?_
      refine aw_callS B 0 0 (s_in _ _ _ _ _ _) co_X12_in k_X12_44 dX12_open_22 rfl rfl (Nat.le_of_ble_eq_true rfl) (zrm hr (by decide)) (Nat.le_refl _) (Nat.le_refl _) (kI fun r22 h22 hp22 => ?_)
      obtain ⟨rfl, rfl⟩ := hp22
      refine aw_if_ne B 31 dX12_open_25 (fun c25 => ?_) (fun c25 => ?_)
      · obtain ⟨k, -, hk, rfl⟩ := in_rng (lo := 0) (hi := 60) (of_bI c25) (by decide) (by decide)
        have ek : kN (nI k) = k := kN_nI (by omega)
        refine aw_aload_n B 0 rfl dX12_open_31 rfl ?_
        refine aw_callV B 0 0 (s_forgets _ _ _ _ _ _) co_X12_forgets k_X12_165 dX12_open_32 hM_o rfl rfl rfl rfl (Nat.le_of_ble_eq_true rfl) (zrm hr (by decide)) (Nat.le_refl _) (Nat.le_refl _) (kV fun h32 hp32 => ?_)
        subst hp32
        refine aw_iconst B 0 (by decide) dX12_open_35 ?_
        refine aw_istore4 B dX12_open_36 ?_
        refine aw_iconst B 0 (by decide) dX12_open_38 ?_
        refine aw_istore5 B dX12_open_39 ?_
        refine aw_iconst B 0 (by decide) dX12_open_41 ?_
        refine aw_istore6 B dX12_open_42 ?_
        refine aw_iconst B 0 (by decide) dX12_open_44 ?_
        refine aw_istore7 B dX12_open_45 ?_
        have lp : ∀ (f j : Nat) (F1 : Nat → Int32) (A1 : Nat → Nat → Int32), k < j + f → j ≤ k → eqF GF F F1 → eqA GA A A1 → lvI T Q F1 A1 → AW X 0 0 47 [some (.ref m), some (.int x), some (.int (nI k)), some (.int w), some (.int (opF T Q x j).1), some (.int (opF T Q x j).2.1), some (.int (opF T Q x j).2.2), some (.int (nI j)), none] [] (hM (zXg X) h m F1 A1) (zI (mq (zXg X) h m F A (q_open T Q x (nI k) w))) := by
          intro f
          induction f with
          | zero => intros; omega
          | succ f ih =>
            intro j F1 A1 hf hj hF hA hlv1
            have e1 : A1 1 = A 1 := hA 1 (by simp [GA])
            refine aw_iload B dX12_open_47 rfl ?_
            refine aw_iload_n B 2 rfl dX12_open_49 rfl ?_
            refine aw_icmp_ge B 122 dX12_open_50 (fun c50 => ?_) (fun c50 => ?_)
            · refine aw_iload_n B 3 rfl dX12_open_122 rfl ?_
              refine aw_if_ne B 131 dX12_open_123 (fun c123 => ?_) (fun c123 => ?_)
              · refine aw_iload B dX12_open_131 rfl ?_
                refine aw_iret B rfl rfl dX12_open_133 ?_
                have hje : j = k := Nat.le_antisymm hj ((nI_leI (by omega) (by omega)).mp c50)
                exact ⟨_, rfl, by unfold q_open; rw [if_neg c4, if_neg c13, if_neg c25, if_neg c123, ek, hje], F1, A1, rfl, hF, hA, trivial⟩
              · refine aw_iload B dX12_open_126 rfl ?_
                refine aw_goto B 133 dX12_open_128 ?_
                refine aw_iret B rfl rfl dX12_open_133 ?_
                have hje : j = k := Nat.le_antisymm hj ((nI_leI (by omega) (by omega)).mp c50)
                exact ⟨_, rfl, by unfold q_open; rw [if_neg c4, if_neg c13, if_neg c25, if_pos c123, ek, hje], F1, A1, rfl, hF, hA, trivial⟩
            · have hlt : j < k := Nat.not_le.mp fun z => c50 (nI_le z (by omega))
              refine aw_aload_n B 0 rfl dX12_open_53 rfl ?_
              refine aw_iload B dX12_open_54 rfl ?_
              refine aw_callV B 0 0 (s_levelIn _ _ _ _ _ _ _ (j + 1) T Q (nI_1 j) (by omega) (by rw [e1]; exact hi.1) hi.2.1 (by rw [e1]; exact hi.2.2.1) hi.2.2.2 hlv1) co_X12_levelIn k_X12_151 dX12_open_56 hM_o rfl rfl rfl rfl (Nat.le_of_ble_eq_true rfl) (zrm hr (by decide)) (Nat.le_refl _) (Nat.le_refl _) (kI fun r56 h56 hp56 => ?_)
              obtain ⟨rfl, F2, A2, rfl, hF2, hA2, hlv2⟩ := hp56
              rw [hrI_s]
              refine aw_iload_n B 1 rfl dX12_open_59 rfl ?_
              refine aw_icmp_gt B 67 dX12_open_60 (fun c60 => ?_) (fun c60 => ?_)
              · refine aw_iconst B 0 (by decide) dX12_open_67 ?_
                refine aw_istore8 B dX12_open_68 ?_
                refine aw_iload B dX12_open_70 rfl ?_
                refine aw_iload B dX12_open_72 rfl ?_
                refine aw_if_eq B 81 dX12_open_74 (fun c74 => ?_) (fun c74 => absurd rfl c74)
                refine aw_iconst B 0 (by decide) dX12_open_81 ?_
                refine aw_iadd B dX12_open_82 ?_
                refine aw_istore4 B dX12_open_83 ?_
                refine aw_iload B dX12_open_85 rfl ?_
                refine aw_if_eq B 97 dX12_open_87 (fun c87 => ?_) (fun c87 => absurd rfl c87)
                refine aw_iconst B 0 (by decide) dX12_open_97 ?_
                refine aw_istore5 B dX12_open_98 ?_
                refine aw_iload B dX12_open_100 rfl ?_
                refine aw_iload B dX12_open_102 rfl ?_
                refine aw_icmp_le B 112 dX12_open_104 (fun c104 => ?_) (fun c104 => ?_)
                · refine aw_iload B dX12_open_112 rfl ?_
                  refine aw_istore6 B dX12_open_114 ?_
                  refine aw_iinc7 B 1 (by decide) dX12_open_116 ?_
                  refine aw_goto B 47 dX12_open_119 ?_
                  rw [nI_1]
                  have eo : opF T Q x (j + 1) = if lvl (T + j) Q ≤ x then ((opF T Q x j).1 + 1, (opF T Q x j).2.1 + 1, if (opF T Q x j).2.1 + 1 ≤ (opF T Q x j).2.2 then (opF T Q x j).2.2 else (opF T Q x j).2.1 + 1) else ((opF T Q x j).1 + 0, 0, if (0 : Int32) ≤ (opF T Q x j).2.2 then (opF T Q x j).2.2 else 0) := rfl
                  refine AW.weak (lv' := [some (.ref m), some (.int x), some (.int (nI k)), some (.int w), some (.int (opF T Q x (j + 1)).1), some (.int (opF T Q x (j + 1)).2.1), some (.int (opF T Q x (j + 1)).2.2), some (.int (nI (j + 1))), none]) ?_ (ih (j + 1) F2 A2 (by omega) (by omega) (hF.tr (gar_1 hF2)) (hA.tr (gar_2 hA2)) hlv2)
                  first
                    | rw [if_pos (Int32.not_lt.mp c60)] at eo
                    | rw [if_neg (Int32.not_le.mpr c60)] at eo
                  rw [eo]
                  first
                    | rw [if_pos c104]
                    | rw [if_neg c104]
                  exact ⟨Or.inr rfl, Or.inr rfl, Or.inr rfl, Or.inr rfl, Or.inr rfl, Or.inr rfl, Or.inr rfl, Or.inr rfl, Or.inl rfl, trivial⟩
                · refine aw_iload B dX12_open_107 rfl ?_
                  refine aw_goto B 114 dX12_open_109 ?_
                  refine aw_istore6 B dX12_open_114 ?_
                  refine aw_iinc7 B 1 (by decide) dX12_open_116 ?_
                  refine aw_goto B 47 dX12_open_119 ?_
                  rw [nI_1]
                  have eo : opF T Q x (j + 1) = if lvl (T + j) Q ≤ x then ((opF T Q x j).1 + 1, (opF T Q x j).2.1 + 1, if (opF T Q x j).2.1 + 1 ≤ (opF T Q x j).2.2 then (opF T Q x j).2.2 else (opF T Q x j).2.1 + 1) else ((opF T Q x j).1 + 0, 0, if (0 : Int32) ≤ (opF T Q x j).2.2 then (opF T Q x j).2.2 else 0) := rfl
                  refine AW.weak (lv' := [some (.ref m), some (.int x), some (.int (nI k)), some (.int w), some (.int (opF T Q x (j + 1)).1), some (.int (opF T Q x (j + 1)).2.1), some (.int (opF T Q x (j + 1)).2.2), some (.int (nI (j + 1))), none]) ?_ (ih (j + 1) F2 A2 (by omega) (by omega) (hF.tr (gar_1 hF2)) (hA.tr (gar_2 hA2)) hlv2)
                  first
                    | rw [if_pos (Int32.not_lt.mp c60)] at eo
                    | rw [if_neg (Int32.not_le.mpr c60)] at eo
                  rw [eo]
                  first
                    | rw [if_pos c104]
                    | rw [if_neg c104]
                  exact ⟨Or.inr rfl, Or.inr rfl, Or.inr rfl, Or.inr rfl, Or.inr rfl, Or.inr rfl, Or.inr rfl, Or.inr rfl, Or.inl rfl, trivial⟩
              · refine aw_iconst B 1 (by decide) dX12_open_63 ?_
                refine aw_goto B 68 dX12_open_64 ?_
                refine aw_istore8 B dX12_open_68 ?_
                refine aw_iload B dX12_open_70 rfl ?_
                refine aw_iload B dX12_open_72 rfl ?_
                refine aw_if_eq B 81 dX12_open_74 (fun c74 => absurd c74 (by decide)) (fun c74 => ?_)
                refine aw_iconst B 1 (by decide) dX12_open_77 ?_
                refine aw_goto B 82 dX12_open_78 ?_
                refine aw_iadd B dX12_open_82 ?_
                refine aw_istore4 B dX12_open_83 ?_
                refine aw_iload B dX12_open_85 rfl ?_
                refine aw_if_eq B 97 dX12_open_87 (fun c87 => absurd c87 (by decide)) (fun c87 => ?_)
                refine aw_iload B dX12_open_90 rfl ?_
                refine aw_iconst B 1 (by decide) dX12_open_92 ?_
                refine aw_iadd B dX12_open_93 ?_
                refine aw_goto B 98 dX12_open_94 ?_
                refine aw_istore5 B dX12_open_98 ?_
                refine aw_iload B dX12_open_100 rfl ?_
                refine aw_iload B dX12_open_102 rfl ?_
                refine aw_icmp_le B 112 dX12_open_104 (fun c104 => ?_) (fun c104 => ?_)
                · refine aw_iload B dX12_open_112 rfl ?_
                  refine aw_istore6 B dX12_open_114 ?_
                  refine aw_iinc7 B 1 (by decide) dX12_open_116 ?_
                  refine aw_goto B 47 dX12_open_119 ?_
                  rw [nI_1]
                  have eo : opF T Q x (j + 1) = if lvl (T + j) Q ≤ x then ((opF T Q x j).1 + 1, (opF T Q x j).2.1 + 1, if (opF T Q x j).2.1 + 1 ≤ (opF T Q x j).2.2 then (opF T Q x j).2.2 else (opF T Q x j).2.1 + 1) else ((opF T Q x j).1 + 0, 0, if (0 : Int32) ≤ (opF T Q x j).2.2 then (opF T Q x j).2.2 else 0) := rfl
                  refine AW.weak (lv' := [some (.ref m), some (.int x), some (.int (nI k)), some (.int w), some (.int (opF T Q x (j + 1)).1), some (.int (opF T Q x (j + 1)).2.1), some (.int (opF T Q x (j + 1)).2.2), some (.int (nI (j + 1))), none]) ?_ (ih (j + 1) F2 A2 (by omega) (by omega) (hF.tr (gar_1 hF2)) (hA.tr (gar_2 hA2)) hlv2)
                  first
                    | rw [if_pos (Int32.not_lt.mp c60)] at eo
                    | rw [if_neg (Int32.not_le.mpr c60)] at eo
                  rw [eo]
                  first
                    | rw [if_pos c104]
                    | rw [if_neg c104]
                  exact ⟨Or.inr rfl, Or.inr rfl, Or.inr rfl, Or.inr rfl, Or.inr rfl, Or.inr rfl, Or.inr rfl, Or.inr rfl, Or.inl rfl, trivial⟩
                · refine aw_iload B dX12_open_107 rfl ?_
                  refine aw_goto B 114 dX12_open_109 ?_
                  refine aw_istore6 B dX12_open_114 ?_
                  refine aw_iinc7 B 1 (by decide) dX12_open_116 ?_
                  refine aw_goto B 47 dX12_open_119 ?_
                  rw [nI_1]
                  have eo : opF T Q x (j + 1) = if lvl (T + j) Q ≤ x then ((opF T Q x j).1 + 1, (opF T Q x j).2.1 + 1, if (opF T Q x j).2.1 + 1 ≤ (opF T Q x j).2.2 then (opF T Q x j).2.2 else (opF T Q x j).2.1 + 1) else ((opF T Q x j).1 + 0, 0, if (0 : Int32) ≤ (opF T Q x j).2.2 then (opF T Q x j).2.2 else 0) := rfl
                  refine AW.weak (lv' := [some (.ref m), some (.int x), some (.int (nI k)), some (.int w), some (.int (opF T Q x (j + 1)).1), some (.int (opF T Q x (j + 1)).2.1), some (.int (opF T Q x (j + 1)).2.2), some (.int (nI (j + 1))), none]) ?_ (ih (j + 1) F2 A2 (by omega) (by omega) (hF.tr (gar_1 hF2)) (hA.tr (gar_2 hA2)) hlv2)
                  first
                    | rw [if_pos (Int32.not_lt.mp c60)] at eo
                    | rw [if_neg (Int32.not_le.mpr c60)] at eo
                  rw [eo]
                  first
                    | rw [if_pos c104]
                    | rw [if_neg c104]
                  exact ⟨Or.inr rfl, Or.inr rfl, Or.inr rfl, Or.inr rfl, Or.inr rfl, Or.inr rfl, Or.inr rfl, Or.inr rfl, Or.inl rfl, trivial⟩
        exact lp 61 0 _ A (by omega) (Nat.zero_le _) gar_5 eqA.rf lvI_0
      · refine aw_bipush B (-2) (by decide) dX12_open_28 ?_
        refine aw_iret B rfl rfl dX12_open_30 ?_
        exact ⟨_, rfl, by unfold q_open; rw [if_neg c4, if_neg c13, if_pos c25], F, A, rfl, eqF.rf, eqA.rf, trivial⟩
    · refine aw_iconst B (-1) (by decide) dX12_open_16 ?_
      refine aw_iret B rfl rfl dX12_open_17 ?_
      exact ⟨_, rfl, by unfold q_open; rw [if_neg c4, if_pos c13], F, A, rfl, eqF.rf, eqA.rf, trivial⟩
theorem dX12_stood_0 : decode cX12_stood 0 = .ok (.sipush 511, 3) := by decide +kernel
theorem dX12_stood_3 : decode cX12_stood 3 = .ok (.istore_n 1, 1) := by decide +kernel
theorem dX12_stood_4 : decode cX12_stood 4 = .ok (.iconst 0, 1) := by decide +kernel
theorem dX12_stood_5 : decode cX12_stood 5 = .ok (.istore_n 2, 1) := by decide +kernel
theorem dX12_stood_6 : decode cX12_stood 6 = .ok (.iload_n 2, 1) := by decide +kernel
theorem dX12_stood_7 : decode cX12_stood 7 = .ok (.aload_n 0, 1) := by decide +kernel
theorem dX12_stood_8 : decode cX12_stood 8 = .ok (.getfield 9, 3) := by decide +kernel
theorem dX12_stood_11 : decode cX12_stood 11 = .ok (.iconst 4, 1) := by decide +kernel
theorem dX12_stood_12 : decode cX12_stood 12 = .ok (.iaload, 1) := by decide +kernel
theorem dX12_stood_13 : decode cX12_stood 13 = .ok (.if_icmp .ge 85, 3) := by decide +kernel
theorem dX12_stood_16 : decode cX12_stood 16 = .ok (.aload_n 0, 1) := by decide +kernel
theorem dX12_stood_17 : decode cX12_stood 17 = .ok (.aload_n 0, 1) := by decide +kernel
theorem dX12_stood_18 : decode cX12_stood 18 = .ok (.getfield 9, 3) := by decide +kernel
theorem dX12_stood_21 : decode cX12_stood 21 = .ok (.bipush 8, 2) := by decide +kernel
theorem dX12_stood_23 : decode cX12_stood 23 = .ok (.iaload, 1) := by decide +kernel
theorem dX12_stood_24 : decode cX12_stood 24 = .ok (.aload_n 0, 1) := by decide +kernel
theorem dX12_stood_25 : decode cX12_stood 25 = .ok (.getfield 9, 3) := by decide +kernel
theorem dX12_stood_28 : decode cX12_stood 28 = .ok (.bipush 54, 2) := by decide +kernel
theorem dX12_stood_30 : decode cX12_stood 30 = .ok (.iload_n 2, 1) := by decide +kernel
theorem dX12_stood_31 : decode cX12_stood 31 = .ok (.iadd, 1) := by decide +kernel
theorem dX12_stood_32 : decode cX12_stood 32 = .ok (.iaload, 1) := by decide +kernel
theorem dX12_stood_33 : decode cX12_stood 33 = .ok (.iadd, 1) := by decide +kernel
theorem dX12_stood_34 : decode cX12_stood 34 = .ok (.invokevirtual 133, 3) := by decide +kernel
theorem dX12_stood_37 : decode cX12_stood 37 = .ok (.istore_n 3, 1) := by decide +kernel
theorem dX12_stood_38 : decode cX12_stood 38 = .ok (.iconst 0, 1) := by decide +kernel
theorem dX12_stood_39 : decode cX12_stood 39 = .ok (.istore 4, 2) := by decide +kernel
theorem dX12_stood_41 : decode cX12_stood 41 = .ok (.iload 4, 2) := by decide +kernel
theorem dX12_stood_43 : decode cX12_stood 43 = .ok (.bipush 9, 2) := by decide +kernel
theorem dX12_stood_45 : decode cX12_stood 45 = .ok (.if_icmp .ge 47, 3) := by decide +kernel
theorem dX12_stood_48 : decode cX12_stood 48 = .ok (.iload_n 1, 1) := by decide +kernel
theorem dX12_stood_49 : decode cX12_stood 49 = .ok (.iload_n 3, 1) := by decide +kernel
theorem dX12_stood_50 : decode cX12_stood 50 = .ok (.iload 4, 2) := by decide +kernel
theorem dX12_stood_52 : decode cX12_stood 52 = .ok (.if_icmp .gt 7, 3) := by decide +kernel
theorem dX12_stood_55 : decode cX12_stood 55 = .ok (.iconst 1, 1) := by decide +kernel
theorem dX12_stood_56 : decode cX12_stood 56 = .ok (.goto 4, 3) := by decide +kernel
theorem dX12_stood_59 : decode cX12_stood 59 = .ok (.iconst 0, 1) := by decide +kernel
theorem dX12_stood_60 : decode cX12_stood 60 = .ok (.aload_n 0, 1) := by decide +kernel
theorem dX12_stood_61 : decode cX12_stood 61 = .ok (.getfield 9, 3) := by decide +kernel
theorem dX12_stood_64 : decode cX12_stood 64 = .ok (.bipush 62, 2) := by decide +kernel
theorem dX12_stood_66 : decode cX12_stood 66 = .ok (.iload_n 2, 1) := by decide +kernel
theorem dX12_stood_67 : decode cX12_stood 67 = .ok (.iadd, 1) := by decide +kernel
theorem dX12_stood_68 : decode cX12_stood 68 = .ok (.iaload, 1) := by decide +kernel
theorem dX12_stood_69 : decode cX12_stood 69 = .ok (.if_icmp .ne 9, 3) := by decide +kernel
theorem dX12_stood_72 : decode cX12_stood 72 = .ok (.sipush 511, 3) := by decide +kernel
theorem dX12_stood_75 : decode cX12_stood 75 = .ok (.goto 9, 3) := by decide +kernel
theorem dX12_stood_78 : decode cX12_stood 78 = .ok (.iconst 1, 1) := by decide +kernel
theorem dX12_stood_79 : decode cX12_stood 79 = .ok (.iload 4, 2) := by decide +kernel
theorem dX12_stood_81 : decode cX12_stood 81 = .ok (.ishl, 1) := by decide +kernel
theorem dX12_stood_82 : decode cX12_stood 82 = .ok (.iconst (-1), 1) := by decide +kernel
theorem dX12_stood_83 : decode cX12_stood 83 = .ok (.ixor, 1) := by decide +kernel
theorem dX12_stood_84 : decode cX12_stood 84 = .ok (.iand, 1) := by decide +kernel
theorem dX12_stood_85 : decode cX12_stood 85 = .ok (.istore_n 1, 1) := by decide +kernel
theorem dX12_stood_86 : decode cX12_stood 86 = .ok (.iinc 4 1, 3) := by decide +kernel
theorem dX12_stood_89 : decode cX12_stood 89 = .ok (.goto (-48), 3) := by decide +kernel
theorem dX12_stood_92 : decode cX12_stood 92 = .ok (.iinc 2 1, 3) := by decide +kernel
theorem dX12_stood_95 : decode cX12_stood 95 = .ok (.goto (-89), 3) := by decide +kernel
theorem dX12_stood_98 : decode cX12_stood 98 = .ok (.iload_n 1, 1) := by decide +kernel
theorem dX12_stood_99 : decode cX12_stood 99 = .ok (.ireturn, 1) := by decide +kernel
set_option maxRecDepth 100000 in
set_option maxHeartbeats 4000000 in
theorem s_stood (l : Launch) (g : zG) (h : Hp) (m : Nat) (F : Nat → Int32) (A : Nat → Nat → Int32) (T : Nat) (Q : pP) (hi : iT (A 1) T Q) (n4 : Nat) (hE4 : iE (A 1) n4) : Sp l g yX12_stood cX12_stood 5 (some .int) (rmz 3) [.ref m] (hM g h m F A) (zI (mq g h m F A (stF (A 1) T Q n4))) := by
  refine Sp.of [some (.ref m), none, none, none, none] (by decide) (Nat.le_of_ble_eq_true rfl) rfl rfl ?_
  rintro X rfl hr rfl B
  show AW X 0 0 0 _ _ _ _
  have z4 := hE4.1
  have lp : ∀ (f k : Nat) (F1 : Nat → Int32) (A1 : Nat → Nat → Int32), n4 < k + f → k ≤ n4 → eqF GF F F1 → eqA GA A A1 → AW X 0 0 6 [some (.ref m), some (.int (stF (A 1) T Q k)), some (.int (nI k)), none, none] [] (hM (zXg X) h m F1 A1) (zI (mq (zXg X) h m F A (stF (A 1) T Q n4))) := by
    intro f
    induction f with
    | zero => intros; omega
    | succ f ih =>
      intro k F1 A1 hf hk hF hA
      have e1 : A1 1 = A 1 := hA 1 (by simp [GA])
      refine aw_iload_n B 2 rfl dX12_stood_6 rfl ?_
      refine aw_aload_n B 0 rfl dX12_stood_7 rfl ?_
      refine m_get B f_X12_9 dX12_stood_8 (mg_1 _ _) ?_
      refine aw_iconst B 4 (by decide) dX12_stood_11 ?_
      refine m_ld B (4) (rfl) ((by decide)) dX12_stood_12 (by decide) ?_
      refine aw_icmp_ge B 98 dX12_stood_13 (fun c13 => ?_) (fun c13 => ?_)
      · refine aw_iload_n B 1 rfl dX12_stood_98 rfl ?_
        refine aw_iret B rfl rfl dX12_stood_99 ?_
        have hje : k = n4 := Nat.le_antisymm hk ((nI_leI (by omega) (by omega)).mp (by rw [e1, hE4.2.1] at c13; exact c13))
        exact ⟨_, rfl, by rw [hje], F1, A1, rfl, hF, hA, trivial⟩
      · have hlt : k < n4 := Nat.not_le.mp fun z => c13 (by rw [e1, hE4.2.1]; exact nI_le z (by omega))
        obtain ⟨⟨a, ha, ea⟩, hd⟩ := hE4.2.2 k hlt
        refine aw_aload_n B 0 rfl dX12_stood_16 rfl ?_
        refine aw_aload_n B 0 rfl dX12_stood_17 rfl ?_
        refine m_get B f_X12_9 dX12_stood_18 (mg_1 _ _) ?_
        refine aw_bipush B 8 (by decide) dX12_stood_21 ?_
        refine m_ld B (8) (rfl) ((by decide)) dX12_stood_23 (by decide) ?_
        rw [e1, hi.1]
        refine aw_aload_n B 0 rfl dX12_stood_24 rfl ?_
        refine m_get B f_X12_9 dX12_stood_25 (mg_1 _ _) ?_
        refine aw_bipush B 54 (by decide) dX12_stood_28 ?_
        refine aw_iload_n B 2 rfl dX12_stood_30 rfl ?_
        refine aw_iadd B dX12_stood_31 ?_
        refine m_ld B (54 + k) (ix_c 54 rfl) (by show _ < 899; omega) dX12_stood_32 (by decide) ?_
        rw [e1, ea]
        refine aw_iadd B dX12_stood_33 ?_
        rw [nI_add]
        refine aw_callV B 0 0 (s_levelAt _ _ _ _ _ _ (T + a) Q (by have := hi.2.1; omega) (by rw [e1]; exact hi.2.2.1) hi.2.2.2) co_X12_levelAt k_X12_133 dX12_stood_34 hM_o rfl rfl rfl rfl (Nat.le_of_ble_eq_true rfl) (zrm hr (by decide)) (Nat.le_refl _) (Nat.le_refl _) (kI fun r34 h34 hp34 => ?_)
        obtain ⟨rfl, F2, A2, rfl, hF2, hA2, hw2⟩ := hp34
        have e2 : A2 1 = A 1 := (hA2 1 (by simp)).trans e1
        refine aw_istore3 B dX12_stood_37 ?_
        refine aw_iconst B 0 (by decide) dX12_stood_38 ?_
        refine aw_istore4 B dX12_stood_39 ?_
        have lq : ∀ (f2 sh : Nat), 9 < sh + f2 → sh ≤ 9 → AW X 0 0 41 [some (.ref m), some (.int (inF (lvl (T + a) Q) (A 1 (62 + k)) sh (stF (A 1) T Q k))), some (.int (nI k)), some (.int (lvl (T + a) Q)), some (.int (nI sh))] [] (hM (zXg X) h m F2 A2) (zI (mq (zXg X) h m F A (stF (A 1) T Q n4))) := by
          intro f2
          induction f2 with
          | zero => intros; omega
          | succ f2 ih2 =>
            intro sh hf2 hsh
            refine aw_iload B dX12_stood_41 rfl ?_
            refine aw_bipush B 9 (by decide) dX12_stood_43 ?_
            refine aw_icmp_ge B 92 dX12_stood_45 (fun c45 => ?_) (fun c45 => ?_)
            · refine aw_iinc2 B 1 (by decide) dX12_stood_92 ?_
              refine aw_goto B 6 dX12_stood_95 ?_
              have hse : sh = 9 := by
                have := (nI_leI (a := 9) (by decide) (by omega)).mp c45
                omega
              rw [nI_1]
              refine AW.weak (lv' := [some (.ref m), some (.int (stF (A 1) T Q (k + 1))), some (.int (nI (k + 1))), none, none]) ⟨Or.inr rfl, Or.inr ?_, Or.inr rfl, Or.inl rfl, Or.inl rfl, trivial⟩ (ih (k + 1) F2 A2 (by omega) (by omega) (hF.tr (gar_3 hF2)) (hA.tr (gar_4 hA2)))
              rw [hse, stF, ea, kN_nI (by omega)]
            · have hs9 : sh < 9 := Nat.not_le.mp fun z => c45 (nI_le (a := 9) z (by omega))
              refine aw_iload_n B 1 rfl dX12_stood_48 rfl ?_
              refine aw_iload_n B 3 rfl dX12_stood_49 rfl ?_
              refine aw_iload B dX12_stood_50 rfl ?_
              refine aw_icmp_gt B 59 dX12_stood_52 (fun c52 => ?_) (fun c52 => ?_)
              · refine aw_iconst B 0 (by decide) dX12_stood_59 ?_
                refine aw_aload_n B 0 rfl dX12_stood_60 rfl ?_
                refine m_get B f_X12_9 dX12_stood_61 (mg_1 _ _) ?_
                refine aw_bipush B 62 (by decide) dX12_stood_64 ?_
                refine aw_iload_n B 2 rfl dX12_stood_66 rfl ?_
                refine aw_iadd B dX12_stood_67 ?_
                refine m_ld B (62 + k) (ix_c 62 rfl) (by show _ < 899; omega) dX12_stood_68 (by decide) ?_
                rw [e2]
                refine aw_icmp_ne B 78 dX12_stood_69 (fun c69 => ?_) (fun c69 => ?_)
                · refine aw_iconst B 1 (by decide) dX12_stood_78 ?_
                  refine aw_iload B dX12_stood_79 rfl ?_
                  refine aw_ishl B dX12_stood_81 ?_
                  refine aw_iconst B (-1) (by decide) dX12_stood_82 ?_
                  refine aw_ixor B dX12_stood_83 ?_
                  refine aw_iand B dX12_stood_84 ?_
                  refine aw_istore1 B dX12_stood_85 ?_
                  refine aw_iinc4 B 1 (by decide) dX12_stood_86 ?_
                  refine aw_goto B 41 dX12_stood_89 ?_
                  rw [nI_1]
                  refine Eq.mp ?_ (ih2 (sh + 1) (by omega) (by omega))
                  rw [show inF (lvl (T + a) Q) (A 1 (62 + k)) (sh + 1) (stF (A 1) T Q k) = inF (lvl (T + a) Q) (A 1 (62 + k)) sh (stF (A 1) T Q k) &&& (if (if lvl (T + a) Q ≤ nI sh then (1 : Int32) else 0) = A 1 (62 + k) then 511 else (1 : Int32) <<< (nI sh &&& 31) ^^^ (-1)) from rfl]
                  first
                    | rw [if_pos (Int32.not_lt.mp c52)]
                    | rw [if_neg (Int32.not_le.mpr c52)]
                  first
                    | rw [if_pos c69]
                    | rw [if_neg c69]
                · refine aw_sipush B 511 (by decide) dX12_stood_72 ?_
                  refine aw_goto B 84 dX12_stood_75 ?_
                  refine aw_iand B dX12_stood_84 ?_
                  refine aw_istore1 B dX12_stood_85 ?_
                  refine aw_iinc4 B 1 (by decide) dX12_stood_86 ?_
                  refine aw_goto B 41 dX12_stood_89 ?_
                  rw [nI_1]
                  refine Eq.mp ?_ (ih2 (sh + 1) (by omega) (by omega))
                  rw [show inF (lvl (T + a) Q) (A 1 (62 + k)) (sh + 1) (stF (A 1) T Q k) = inF (lvl (T + a) Q) (A 1 (62 + k)) sh (stF (A 1) T Q k) &&& (if (if lvl (T + a) Q ≤ nI sh then (1 : Int32) else 0) = A 1 (62 + k) then 511 else (1 : Int32) <<< (nI sh &&& 31) ^^^ (-1)) from rfl]
                  first
                    | rw [if_pos (Int32.not_lt.mp c52)]
                    | rw [if_neg (Int32.not_le.mpr c52)]
                  first
                    | rw [if_pos c69]
                    | rw [if_neg c69]
              · refine aw_iconst B 1 (by decide) dX12_stood_55 ?_
                refine aw_goto B 60 dX12_stood_56 ?_
                refine aw_aload_n B 0 rfl dX12_stood_60 rfl ?_
                refine m_get B f_X12_9 dX12_stood_61 (mg_1 _ _) ?_
                refine aw_bipush B 62 (by decide) dX12_stood_64 ?_
                refine aw_iload_n B 2 rfl dX12_stood_66 rfl ?_
                refine aw_iadd B dX12_stood_67 ?_
                refine m_ld B (62 + k) (ix_c 62 rfl) (by show _ < 899; omega) dX12_stood_68 (by decide) ?_
                rw [e2]
                refine aw_icmp_ne B 78 dX12_stood_69 (fun c69 => ?_) (fun c69 => ?_)
                · refine aw_iconst B 1 (by decide) dX12_stood_78 ?_
                  refine aw_iload B dX12_stood_79 rfl ?_
                  refine aw_ishl B dX12_stood_81 ?_
                  refine aw_iconst B (-1) (by decide) dX12_stood_82 ?_
                  refine aw_ixor B dX12_stood_83 ?_
                  refine aw_iand B dX12_stood_84 ?_
                  refine aw_istore1 B dX12_stood_85 ?_
                  refine aw_iinc4 B 1 (by decide) dX12_stood_86 ?_
                  refine aw_goto B 41 dX12_stood_89 ?_
                  rw [nI_1]
                  refine Eq.mp ?_ (ih2 (sh + 1) (by omega) (by omega))
                  rw [show inF (lvl (T + a) Q) (A 1 (62 + k)) (sh + 1) (stF (A 1) T Q k) = inF (lvl (T + a) Q) (A 1 (62 + k)) sh (stF (A 1) T Q k) &&& (if (if lvl (T + a) Q ≤ nI sh then (1 : Int32) else 0) = A 1 (62 + k) then 511 else (1 : Int32) <<< (nI sh &&& 31) ^^^ (-1)) from rfl]
                  first
                    | rw [if_pos (Int32.not_lt.mp c52)]
                    | rw [if_neg (Int32.not_le.mpr c52)]
                  first
                    | rw [if_pos c69]
                    | rw [if_neg c69]
                · refine aw_sipush B 511 (by decide) dX12_stood_72 ?_
                  refine aw_goto B 84 dX12_stood_75 ?_
                  refine aw_iand B dX12_stood_84 ?_
                  refine aw_istore1 B dX12_stood_85 ?_
                  refine aw_iinc4 B 1 (by decide) dX12_stood_86 ?_
                  refine aw_goto B 41 dX12_stood_89 ?_
                  rw [nI_1]
                  refine Eq.mp ?_ (ih2 (sh + 1) (by omega) (by omega))
                  rw [show inF (lvl (T + a) Q) (A 1 (62 + k)) (sh + 1) (stF (A 1) T Q k) = inF (lvl (T + a) Q) (A 1 (62 + k)) sh (stF (A 1) T Q k) &&& (if (if lvl (T + a) Q ≤ nI sh then (1 : Int32) else 0) = A 1 (62 + k) then 511 else (1 : Int32) <<< (nI sh &&& 31) ^^^ (-1)) from rfl]
                  first
                    | rw [if_pos (Int32.not_lt.mp c52)]
                    | rw [if_neg (Int32.not_le.mpr c52)]
                  first
                    | rw [if_pos c69]
                    | rw [if_neg c69]
        exact lq 10 0 (by omega) (by omega)
  refine aw_sipush B 511 (by decide) dX12_stood_0 ?_
  refine aw_istore1 B dX12_stood_3 ?_
  refine aw_iconst B 0 (by decide) dX12_stood_4 ?_
  refine aw_istore2 B dX12_stood_5 ?_
  exact lp 9 0 F A (by omega) (by omega) eqF.rf eqA.rf
end
section
theorem aw_lcmp {X : zX} {cc : ByteArray} {nL : Nat} {own nm : String} {ret : Option FieldType} {rc rs pc : Nat} {lv : List (Option Value)} {st : List Value} {h : Hp} {Ko : Option Value → Hp → Prop} (B : zB X cc nL own nm ret) {x y : Int64} (hd : decode cc pc = .ok (.lcmp, 1)) (k : AW X rc rs (pc + 1) lv (.int (lg_cmp x y) :: st) h Ko) : AW X rc rs pc lv (.long y :: .long x :: st) h Ko := fun H locs ls cells slots a1 a2 a3 a4 a5 => W.lcmp B.1 B.2.1 hd (k H locs ls cells slots a1 a2 a3 a4 a5)
theorem lcmp0 {x y : Int64} : lg_cmp x y = 0 ↔ x = y := by
  unfold lg_cmp
  by_cases h1 : y < x
  · rw [if_pos h1]
    constructor
    · intro h; exact absurd h (by decide)
    · intro h; rw [h] at h1; exact absurd h1 (by simp)
  · rw [if_neg h1]
    by_cases h2 : x = y
    · simp [h2]
    · rw [if_neg h2]
      constructor
      · intro h; exact absurd h (by decide)
      · intro h; exact absurd h h2
def lowN (a b p : Nat) : Nat := if p = 0 then a / Nat.gcd a b else b / Nat.gcd a b
def lowL (a b : Nat) (q : Int32) : Int64 := lN (if q = 0 then a / Nat.gcd a b else b / Nat.gcd a b)
theorem dX12_lowest_0 : decode cX12_lowest 0 = .ok (.lload_n 0, 1) := by decide +kernel
theorem dX12_lowest_1 : decode cX12_lowest 1 = .ok (.lstore 5, 2) := by decide +kernel
theorem dX12_lowest_3 : decode cX12_lowest 3 = .ok (.lload_n 2, 1) := by decide +kernel
theorem dX12_lowest_4 : decode cX12_lowest 4 = .ok (.lstore 7, 2) := by decide +kernel
theorem dX12_lowest_6 : decode cX12_lowest 6 = .ok (.lload 7, 2) := by decide +kernel
theorem dX12_lowest_8 : decode cX12_lowest 8 = .ok (.lconst 0, 1) := by decide +kernel
theorem dX12_lowest_9 : decode cX12_lowest 9 = .ok (.lcmp, 1) := by decide +kernel
theorem dX12_lowest_10 : decode cX12_lowest 10 = .ok (.ifCond .eq 21, 3) := by decide +kernel
theorem dX12_lowest_13 : decode cX12_lowest 13 = .ok (.lload 5, 2) := by decide +kernel
theorem dX12_lowest_15 : decode cX12_lowest 15 = .ok (.lload 7, 2) := by decide +kernel
theorem dX12_lowest_17 : decode cX12_lowest 17 = .ok (.lrem, 1) := by decide +kernel
theorem dX12_lowest_18 : decode cX12_lowest 18 = .ok (.lstore 9, 2) := by decide +kernel
theorem dX12_lowest_20 : decode cX12_lowest 20 = .ok (.lload 7, 2) := by decide +kernel
theorem dX12_lowest_22 : decode cX12_lowest 22 = .ok (.lstore 5, 2) := by decide +kernel
theorem dX12_lowest_24 : decode cX12_lowest 24 = .ok (.lload 9, 2) := by decide +kernel
theorem dX12_lowest_26 : decode cX12_lowest 26 = .ok (.lstore 7, 2) := by decide +kernel
theorem dX12_lowest_28 : decode cX12_lowest 28 = .ok (.goto (-22), 3) := by decide +kernel
theorem dX12_lowest_31 : decode cX12_lowest 31 = .ok (.iload 4, 2) := by decide +kernel
theorem dX12_lowest_33 : decode cX12_lowest 33 = .ok (.ifCond .ne 7, 3) := by decide +kernel
theorem dX12_lowest_36 : decode cX12_lowest 36 = .ok (.lload_n 0, 1) := by decide +kernel
theorem dX12_lowest_37 : decode cX12_lowest 37 = .ok (.goto 4, 3) := by decide +kernel
theorem dX12_lowest_40 : decode cX12_lowest 40 = .ok (.lload_n 2, 1) := by decide +kernel
theorem dX12_lowest_41 : decode cX12_lowest 41 = .ok (.lload 5, 2) := by decide +kernel
theorem dX12_lowest_43 : decode cX12_lowest 43 = .ok (.ldiv, 1) := by decide +kernel
theorem dX12_lowest_44 : decode cX12_lowest 44 = .ok (.lreturn, 1) := by decide +kernel
set_option maxRecDepth 100000 in
set_option maxHeartbeats 4000000 in
theorem s_lowest (l : Launch) (g : zG) (h : Hp) (a b : Nat) (q : Int32) (ha : a < 2 ^ 62) (hb : b < 2 ^ 62) (hp : 0 < a ∨ 0 < b) : Sp l g yX12_lowest cX12_lowest 11 (some .long) (rmz 1) [.long (lN a), .long (lN b), .int q] (h) (zJ fun r h' => r = lowL a b q ∧ h' = h) := by
  refine Sp.of [some (.long (lN a)), none, some (.long (lN b)), none, some (.int q), none, none, none, none, none, none] (by decide) (Nat.le_of_ble_eq_true rfl) rfl rfl ?_
  rintro X rfl hr rfl B
  show AW X 0 0 0 _ _ _ _
  have lp : ∀ (f x y : Nat) (o1 : Option Value), y < f → Nat.gcd x y = Nat.gcd a b → x < 2 ^ 62 → y < 2 ^ 62 → 0 < x ∨ 0 < y → AW X 0 0 6 [some (.long (lN a)), none, some (.long (lN b)), none, some (.int q), some (.long (lN x)), none, some (.long (lN y)), none, o1, none] [] h (zJ fun r h' => r = lowL a b q ∧ h' = h) := by
    intro f
    induction f with
    | zero => intros; omega
    | succ f ih =>
      intro x y o1 hf hxy hx hy hp
      refine aw_lload B dX12_lowest_6 rfl ?_
      refine aw_lconst B 0 (by decide) dX12_lowest_8 ?_
      refine aw_lcmp B dX12_lowest_9 ?_
      refine aw_if_eq B 31 dX12_lowest_10 (fun c10 => ?_) (fun c10 => ?_)
      · have hx0 : 0 < x := by
          have hy0 : y = 0 := (pk_lEQ (b := 0) (by omega) (by decide)).mp (lcmp0.mp c10)
          omega
        refine aw_iload B dX12_lowest_31 rfl ?_
        refine aw_if_ne B 40 dX12_lowest_33 (fun c33 => ?_) (fun c33 => ?_)
        · refine aw_lload_n B 2 rfl dX12_lowest_40 rfl ?_
          refine aw_lload B dX12_lowest_41 rfl ?_
          refine aw_ldiv B (fun z => by have := (pk_lEQ (b := 0) (by omega) (by decide)).mp z; omega) dX12_lowest_43 ?_
          refine aw_lret B rfl dX12_lowest_44 ?_
          have hy0 : y = 0 := (pk_lEQ (b := 0) (by omega) (by decide)).mp (lcmp0.mp c10)
          have hg : x = Nat.gcd a b := by rw [← hxy, hy0, Nat.gcd_zero_right]
          exact ⟨_, rfl, by rw [pk_lDiv (by omega) (by omega) (by omega)]; unfold lowL; rw [if_neg c33, hg], rfl⟩
        · refine aw_lload_n B 0 rfl dX12_lowest_36 rfl ?_
          refine aw_goto B 41 dX12_lowest_37 ?_
          refine aw_lload B dX12_lowest_41 rfl ?_
          refine aw_ldiv B (fun z => by have := (pk_lEQ (b := 0) (by omega) (by decide)).mp z; omega) dX12_lowest_43 ?_
          refine aw_lret B rfl dX12_lowest_44 ?_
          have hy0 : y = 0 := (pk_lEQ (b := 0) (by omega) (by decide)).mp (lcmp0.mp c10)
          have hg : x = Nat.gcd a b := by rw [← hxy, hy0, Nat.gcd_zero_right]
          exact ⟨_, rfl, by rw [pk_lDiv (by omega) (by omega) (by omega)]; unfold lowL; rw [if_pos c33, hg], rfl⟩
      · have hy0 : 0 < y := Nat.pos_of_ne_zero fun z => c10 (lcmp0.mpr (by rw [z]; rfl))
        refine aw_lload B dX12_lowest_13 rfl ?_
        refine aw_lload B dX12_lowest_15 rfl ?_
        refine aw_lrem B (fun z => by have := (pk_lEQ (b := 0) (by omega) (by decide)).mp z; omega) dX12_lowest_17 ?_
        refine aw_lstore9 B dX12_lowest_18 ?_
        refine aw_lload B dX12_lowest_20 rfl ?_
        refine aw_lstore5 B dX12_lowest_22 ?_
        refine aw_lload B dX12_lowest_24 rfl ?_
        refine aw_lstore7 B dX12_lowest_26 ?_
        refine aw_goto B 6 dX12_lowest_28 ?_
        rw [pk_lRem (by omega) hy0 (by omega)]
        exact AW.weak (lv' := [some (.long (lN a)), none, some (.long (lN b)), none, some (.int q), some (.long (lN y)), none, some (.long (lN (x % y))), none, none, none]) ⟨Or.inr rfl, Or.inr rfl, Or.inr rfl, Or.inr rfl, Or.inr rfl, Or.inr rfl, Or.inr rfl, Or.inr rfl, Or.inr rfl, Or.inl rfl, Or.inr rfl, trivial⟩ (ih y (x % y) none (by have := Nat.mod_lt x hy0; omega) (by rw [← hxy, Nat.gcd_comm x y, Nat.gcd_rec y x, Nat.gcd_comm]) hy (by have := Nat.mod_lt x hy0; omega) (Or.inl hy0))
  refine aw_lload_n B 0 rfl dX12_lowest_0 rfl ?_
  refine aw_lstore5 B dX12_lowest_1 ?_
  refine aw_lload_n B 2 rfl dX12_lowest_3 rfl ?_
  refine aw_lstore7 B dX12_lowest_4 ?_
  exact lp (b + 1) a b none (by omega) rfl ha hb hp
end
section
def mqJ (g : zG) (h : Hp) (m : Nat) (F : Nat → Int32) (A : Nat → Nat → Int32) (v : Int64) : Int64 → Hp → Prop := fun r h' => r = v ∧ mgar g h m F A GF GA (fun _ _ => True) h'
def mS (T : Nat) (Q : pP) : Nat → Nat
  | 0 => 0
  | j + 1 => mS T Q j + kN (lvl (T + j) Q)
theorem mS_le (T : Nat) (Q : pP) (j : Nat) : mS T Q j ≤ 9 * j := by
  induction j with
  | zero => simp [mS]
  | succ j ih =>
    obtain ⟨n, -, hn, e⟩ := lvl_rng (T + j) Q
    rw [mS, e, kN_nI (by omega)]
    omega
def q_mean (T : Nat) (Q : pP) (x p : Int32) : Int64 := if bI (1 ≤ x ∧ x ≤ 60) = 0 then -9223372036854775808 else if bI (0 ≤ p ∧ p ≤ 1) = 0 then -9223372036854775808 else lowL (mS T Q (kN x)) (kN x) p
theorem dX12_mean_0 : decode cX12_mean 0 = .ok (.iload_n 1, 1) := by decide +kernel
theorem dX12_mean_1 : decode cX12_mean 1 = .ok (.iconst 1, 1) := by decide +kernel
theorem dX12_mean_2 : decode cX12_mean 2 = .ok (.bipush 60, 2) := by decide +kernel
theorem dX12_mean_4 : decode cX12_mean 4 = .ok (.invokestatic 44, 3) := by decide +kernel
theorem dX12_mean_7 : decode cX12_mean 7 = .ok (.ifCond .eq 12, 3) := by decide +kernel
theorem dX12_mean_10 : decode cX12_mean 10 = .ok (.iload_n 2, 1) := by decide +kernel
theorem dX12_mean_11 : decode cX12_mean 11 = .ok (.iconst 0, 1) := by decide +kernel
theorem dX12_mean_12 : decode cX12_mean 12 = .ok (.iconst 1, 1) := by decide +kernel
theorem dX12_mean_13 : decode cX12_mean 13 = .ok (.invokestatic 44, 3) := by decide +kernel
theorem dX12_mean_16 : decode cX12_mean 16 = .ok (.ifCond .ne 7, 3) := by decide +kernel
theorem dX12_mean_19 : decode cX12_mean 19 = .ok (.ldc2_w 201, 3) := by decide +kernel
theorem dX12_mean_22 : decode cX12_mean 22 = .ok (.lreturn, 1) := by decide +kernel
theorem dX12_mean_23 : decode cX12_mean 23 = .ok (.lconst 0, 1) := by decide +kernel
theorem dX12_mean_24 : decode cX12_mean 24 = .ok (.lstore_n 3, 1) := by decide +kernel
theorem dX12_mean_25 : decode cX12_mean 25 = .ok (.iconst 0, 1) := by decide +kernel
theorem dX12_mean_26 : decode cX12_mean 26 = .ok (.istore 5, 2) := by decide +kernel
theorem dX12_mean_28 : decode cX12_mean 28 = .ok (.iload 5, 2) := by decide +kernel
theorem dX12_mean_30 : decode cX12_mean 30 = .ok (.iload_n 1, 1) := by decide +kernel
theorem dX12_mean_31 : decode cX12_mean 31 = .ok (.if_icmp .ge 27, 3) := by decide +kernel
theorem dX12_mean_34 : decode cX12_mean 34 = .ok (.lload_n 3, 1) := by decide +kernel
theorem dX12_mean_35 : decode cX12_mean 35 = .ok (.aload_n 0, 1) := by decide +kernel
theorem dX12_mean_36 : decode cX12_mean 36 = .ok (.aload_n 0, 1) := by decide +kernel
theorem dX12_mean_37 : decode cX12_mean 37 = .ok (.getfield 9, 3) := by decide +kernel
theorem dX12_mean_40 : decode cX12_mean 40 = .ok (.bipush 8, 2) := by decide +kernel
theorem dX12_mean_42 : decode cX12_mean 42 = .ok (.iaload, 1) := by decide +kernel
theorem dX12_mean_43 : decode cX12_mean 43 = .ok (.iload 5, 2) := by decide +kernel
theorem dX12_mean_45 : decode cX12_mean 45 = .ok (.iadd, 1) := by decide +kernel
theorem dX12_mean_46 : decode cX12_mean 46 = .ok (.invokevirtual 133, 3) := by decide +kernel
theorem dX12_mean_49 : decode cX12_mean 49 = .ok (.i2l, 1) := by decide +kernel
theorem dX12_mean_50 : decode cX12_mean 50 = .ok (.ladd, 1) := by decide +kernel
theorem dX12_mean_51 : decode cX12_mean 51 = .ok (.lstore_n 3, 1) := by decide +kernel
theorem dX12_mean_52 : decode cX12_mean 52 = .ok (.iinc 5 1, 3) := by decide +kernel
theorem dX12_mean_55 : decode cX12_mean 55 = .ok (.goto (-27), 3) := by decide +kernel
theorem dX12_mean_58 : decode cX12_mean 58 = .ok (.lload_n 3, 1) := by decide +kernel
theorem dX12_mean_59 : decode cX12_mean 59 = .ok (.iload_n 1, 1) := by decide +kernel
theorem dX12_mean_60 : decode cX12_mean 60 = .ok (.i2l, 1) := by decide +kernel
theorem dX12_mean_61 : decode cX12_mean 61 = .ok (.iload_n 2, 1) := by decide +kernel
theorem dX12_mean_62 : decode cX12_mean 62 = .ok (.invokestatic 205, 3) := by decide +kernel
theorem dX12_mean_65 : decode cX12_mean 65 = .ok (.lreturn, 1) := by decide +kernel
set_option maxRecDepth 100000 in
set_option maxHeartbeats 4000000 in
theorem s_mean (l : Launch) (g : zG) (h : Hp) (m : Nat) (F : Nat → Int32) (A : Nat → Nat → Int32) (x p : Int32) (T : Nat) (Q : pP) (hi : iT (A 1) T Q) : Sp l g yX12_mean cX12_mean 6 (some .long) (rmz 3) [.ref m, .int x, .int p] (hM g h m F A) (zJ (mqJ g h m F A (q_mean T Q x p))) := by
  refine Sp.of [some (.ref m), some (.int x), some (.int p), none, none, none] (by decide) (Nat.le_of_ble_eq_true rfl) rfl rfl ?_
  rintro X rfl hr rfl B
  show AW X 0 0 0 _ _ _ _
  refine aw_iload_n B 1 rfl dX12_mean_0 rfl ?_
  refine aw_iconst B 1 (by decide) dX12_mean_1 ?_
  refine aw_bipush B 60 (by decide) dX12_mean_2 ?_
  refine aw_callS B 0 0 (s_in _ _ _ _ _ _) co_X12_in k_X12_44 dX12_mean_4 rfl rfl (Nat.le_of_ble_eq_true rfl) (zrm hr (by decide)) (Nat.le_refl _) (Nat.le_refl _) (kI fun r4 h4 hp4 => ?_)
  obtain ⟨rfl, rfl⟩ := hp4
  refine aw_if_eq B 19 dX12_mean_7 (fun c7 => ?_) (fun c7 => ?_)
  · refine aw_ldc2 B cn_X12_201 dX12_mean_19 ?_
    refine aw_lret B rfl dX12_mean_22 ?_
    exact ⟨_, rfl, by unfold q_mean; rw [if_pos c7], F, A, rfl, eqF.rf, eqA.rf, trivial⟩
  · refine aw_iload_n B 2 rfl dX12_mean_10 rfl ?_
    refine aw_iconst B 0 (by decide) dX12_mean_11 ?_
    refine aw_iconst B 1 (by decide) dX12_mean_12 ?_
    refine aw_callS B 0 0 (s_in _ _ _ _ _ _) co_X12_in k_X12_44 dX12_mean_13 rfl rfl (Nat.le_of_ble_eq_true rfl) (zrm hr (by decide)) (Nat.le_refl _) (Nat.le_refl _) (kI fun r13 h13 hp13 => ?_)
    obtain ⟨rfl, rfl⟩ := hp13
    refine aw_if_ne B 23 dX12_mean_16 (fun c16 => ?_) (fun c16 => ?_)
    · obtain ⟨n, hn1, hn, rfl⟩ := in_rng (lo := 1) (hi := 60) (of_bI c7) (by decide) (by decide)
      have ek : kN (nI n) = n := kN_nI (by omega)
      refine aw_lconst B 0 (by decide) dX12_mean_23 ?_
      refine aw_lstore3 B dX12_mean_24 ?_
      refine aw_iconst B 0 (by decide) dX12_mean_25 ?_
      refine aw_istore5 B dX12_mean_26 ?_
      have lp : ∀ (f j : Nat) (F1 : Nat → Int32) (A1 : Nat → Nat → Int32), n < j + f → j ≤ n → eqF GF F F1 → eqA GA A A1 → AW X 0 0 28 [some (.ref m), some (.int (nI n)), some (.int p), some (.long (lN (mS T Q j))), none, some (.int (nI j))] [] (hM (zXg X) h m F1 A1) (zJ (mqJ (zXg X) h m F A (q_mean T Q (nI n) p))) := by
        intro f
        induction f with
        | zero => intros; omega
        | succ f ih =>
          intro j F1 A1 hf hj hF hA
          have e1 : A1 1 = A 1 := hA 1 (by simp [GA])
          have hml := mS_le T Q j
          refine aw_iload B dX12_mean_28 rfl ?_
          refine aw_iload_n B 1 rfl dX12_mean_30 rfl ?_
          refine aw_icmp_ge B 58 dX12_mean_31 (fun c31 => ?_) (fun c31 => ?_)
          · have hje : j = n := Nat.le_antisymm hj ((nI_leI (by omega) (by omega)).mp c31)
            refine aw_lload_n B 3 rfl dX12_mean_58 rfl ?_
            refine aw_iload_n B 1 rfl dX12_mean_59 rfl ?_
            refine aw_i2l B dX12_mean_60 ?_
            rw [nI_l (by omega)]
            refine aw_iload_n B 2 rfl dX12_mean_61 rfl ?_
            refine aw_callS B 0 0 (s_lowest _ _ _ (mS T Q j) n p (by omega) (by omega) (by omega)) co_X12_lowest k_X12_205 dX12_mean_62 rfl rfl (Nat.le_of_ble_eq_true rfl) (zrm hr (by decide)) (Nat.le_refl _) (Nat.le_refl _) (kJ fun r62 h62 hp62 => ?_)
            obtain ⟨rfl, rfl⟩ := hp62
            refine aw_lret B rfl dX12_mean_65 ?_
            exact ⟨_, rfl, by unfold q_mean; rw [if_neg c7, if_neg c16, ek, hje], F1, A1, rfl, hF, hA, trivial⟩
          · have hlt : j < n := Nat.not_le.mp fun z => c31 (nI_le z (by omega))
            refine aw_lload_n B 3 rfl dX12_mean_34 rfl ?_
            refine aw_aload_n B 0 rfl dX12_mean_35 rfl ?_
            refine aw_aload_n B 0 rfl dX12_mean_36 rfl ?_
            refine m_get B f_X12_9 dX12_mean_37 (mg_1 _ _) ?_
            refine aw_bipush B 8 (by decide) dX12_mean_40 ?_
            refine m_ld B (8) (rfl) ((by decide)) dX12_mean_42 (by decide) ?_
            rw [e1, hi.1]
            refine aw_iload B dX12_mean_43 rfl ?_
            refine aw_iadd B dX12_mean_45 ?_
            rw [nI_add]
            refine aw_callV B 0 0 (s_levelAt _ _ _ _ _ _ (T + j) Q (by have := hi.2.1; omega) (by rw [e1]; exact hi.2.2.1) hi.2.2.2) co_X12_levelAt k_X12_133 dX12_mean_46 hM_o rfl rfl rfl rfl (Nat.le_of_ble_eq_true rfl) (zrm hr (by decide)) (Nat.le_refl _) (Nat.le_refl _) (kI fun r46 h46 hp46 => ?_)
            obtain ⟨rfl, F2, A2, rfl, hF2, hA2, hw2⟩ := hp46
            obtain ⟨z, -, hz, ez⟩ := lvl_rng (T + j) Q
            refine aw_i2l B dX12_mean_49 ?_
            rw [ez, nI_l (by omega)]
            refine aw_ladd B dX12_mean_50 ?_
            refine aw_lstore3 B dX12_mean_51 ?_
            refine aw_iinc5 B 1 (by decide) dX12_mean_52 ?_
            refine aw_goto B 28 dX12_mean_55 ?_
            rw [nI_1, show lN (mS T Q j) + lN z = lN (mS T Q (j + 1)) from by rw [lN_add, mS, ez, kN_nI (by omega)]]
            exact ih (j + 1) F2 A2 (by omega) (by omega) (hF.tr (gar_3 hF2)) (hA.tr (gar_4 hA2))
      exact lp 61 0 F A (by omega) (Nat.zero_le _) eqF.rf eqA.rf
    · refine aw_ldc2 B cn_X12_201 dX12_mean_19 ?_
      refine aw_lret B rfl dX12_mean_22 ?_
      exact ⟨_, rfl, by unfold q_mean; rw [if_neg c7, if_pos c16], F, A, rfl, eqF.rf, eqA.rf, trivial⟩
end
section
theorem ev_w (x : Nat → Nat) : ∀ (Q : pP) (t : Nat) (st : List Bool) (sw : Int32) (w : Nat), wfp t Q → ∃ w', w' ≤ w + 99 * Q.length ∧ (ev x Q st sw (nI w)).2 = nI w' := by
  intro Q
  induction Q with
  | nil => intro t st sw w _; exact ⟨w, by simp, rfl⟩
  | cons p Q ih =>
    obtain ⟨s, n⟩ := p
    intro t st sw w hw
    obtain ⟨hn, hs, w1, w2, w3, w4⟩ := hw
    have fin : ∀ (t' : Nat) (st' : List Bool) (sw' : Int32) (w2 : Nat), w2 ≤ w + 99 → wfp t' Q → ∃ w', w' ≤ w + 99 * ((s, n) :: Q).length ∧ (ev x Q st' sw' (nI w2)).2 = nI w' := fun t' st' sw' w2 hb hq => by
      obtain ⟨w', h1, h2⟩ := ih t' st' sw' w2 hq
      refine ⟨w', ?_, h2⟩
      have : ((s, n) :: Q).length = Q.length + 1 := rfl
      rw [this]
      omega
    rw [ev]
    split
    · exact fin _ _ _ _ (by omega) (w1 (by assumption)).2
    · split
      · exact fin _ _ _ _ (by omega) (w2 (by assumption)).2
      · split
        · exact fin _ _ _ _ (by omega) (w3 (Or.inl (by assumption))).2
        · split
          · exact fin _ _ _ _ (by omega) (w3 (Or.inr (by assumption))).2
          · split
            · exact fin _ _ _ _ (by omega) (w4 (by omega)).2
            · split
              · exact fin _ _ _ _ (by omega) (w4 (by omega)).2
              · split
                · rw [nI_add]
                  exact fin _ _ _ _ (by omega) (w4 (by omega)).2
                · rw [show nI w + 0 = nI w from Int32.add_zero _]
                  exact fin _ _ _ _ (by omega) (w4 (by omega)).2
/-- WAVE at an hour -/
def wav (tm : Nat) (Q : pP) : Int32 := p10 (evL tm Q).2
theorem wav_rng {tm : Nat} {Q : pP} (hw : wfp 0 Q) (hl : Q.length ≤ 140) : rng (wav tm Q) 0 10 := by
  obtain ⟨w, h1, h2⟩ := ev_w (hx tm) Q 0 [] 0 0 hw
  have h2 : (evL tm Q).2 = nI w := h2
  unfold wav
  rw [h2]
  unfold p10
  split
  · rename_i hc
    exact ⟨w, by omega, (nI_leI (b := 10) (by omega) (by decide)).mp hc, rfl⟩
  · exact ⟨10, by omega, by omega, rfl⟩
theorem hold_len {S : Nat → Int32} {Q : pP} (h : hold S Q) : Q.length ≤ 140 := by
  rcases h with ⟨-, rfl⟩ | ⟨c, -, -, h, -⟩
  · simp
  · exact h
/-- ten to the n times the odds that the shelf stays dry -/
def sfN (T : Nat) (Q : pP) (x : Int32) : Nat → Nat
  | 0 => 1
  | j + 1 => sfN T Q x j * (if lvl (T + j) Q < x then 10 else if lvl (T + j) Q = x then 10 - kN (wav (T + j) Q) else 0)
theorem sfN_le (T : Nat) (Q : pP) (x : Int32) (j : Nat) : sfN T Q x j ≤ 10 ^ j := by
  induction j with
  | zero => simp [sfN]
  | succ j ih =>
    rw [sfN, Nat.pow_succ]
    refine Nat.mul_le_mul ih ?_
    split
    · omega
    · split <;> omega
def q_safe (T : Nat) (Q : pP) (x n p : Int32) : Int64 := if bI (0 ≤ x ∧ x ≤ 8) = 0 then -9223372036854775808 else if bI (0 ≤ n ∧ n ≤ 12) = 0 then -9223372036854775808 else if bI (0 ≤ p ∧ p ≤ 1) = 0 then -9223372036854775808 else lowL (sfN T Q x (kN n)) (10 ^ kN n) p
theorem pow12 {j : Nat} (h : j ≤ 12) : 10 ^ j ≤ 10 ^ 12 := Nat.pow_le_pow_right (by decide) h
theorem dX12_safe_0 : decode cX12_safe 0 = .ok (.iload_n 1, 1) := by decide +kernel
theorem dX12_safe_1 : decode cX12_safe 1 = .ok (.invokestatic 137, 3) := by decide +kernel
theorem dX12_safe_4 : decode cX12_safe 4 = .ok (.ifCond .eq 22, 3) := by decide +kernel
theorem dX12_safe_7 : decode cX12_safe 7 = .ok (.iload_n 2, 1) := by decide +kernel
theorem dX12_safe_8 : decode cX12_safe 8 = .ok (.iconst 0, 1) := by decide +kernel
theorem dX12_safe_9 : decode cX12_safe 9 = .ok (.bipush 12, 2) := by decide +kernel
theorem dX12_safe_11 : decode cX12_safe 11 = .ok (.invokestatic 44, 3) := by decide +kernel
theorem dX12_safe_14 : decode cX12_safe 14 = .ok (.ifCond .eq 12, 3) := by decide +kernel
theorem dX12_safe_17 : decode cX12_safe 17 = .ok (.iload_n 3, 1) := by decide +kernel
theorem dX12_safe_18 : decode cX12_safe 18 = .ok (.iconst 0, 1) := by decide +kernel
theorem dX12_safe_19 : decode cX12_safe 19 = .ok (.iconst 1, 1) := by decide +kernel
theorem dX12_safe_20 : decode cX12_safe 20 = .ok (.invokestatic 44, 3) := by decide +kernel
theorem dX12_safe_23 : decode cX12_safe 23 = .ok (.ifCond .ne 7, 3) := by decide +kernel
theorem dX12_safe_26 : decode cX12_safe 26 = .ok (.ldc2_w 201, 3) := by decide +kernel
theorem dX12_safe_29 : decode cX12_safe 29 = .ok (.lreturn, 1) := by decide +kernel
theorem dX12_safe_30 : decode cX12_safe 30 = .ok (.lconst 1, 1) := by decide +kernel
theorem dX12_safe_31 : decode cX12_safe 31 = .ok (.lstore 4, 2) := by decide +kernel
theorem dX12_safe_33 : decode cX12_safe 33 = .ok (.lconst 1, 1) := by decide +kernel
theorem dX12_safe_34 : decode cX12_safe 34 = .ok (.lstore 6, 2) := by decide +kernel
theorem dX12_safe_36 : decode cX12_safe 36 = .ok (.iconst 0, 1) := by decide +kernel
theorem dX12_safe_37 : decode cX12_safe 37 = .ok (.istore 8, 2) := by decide +kernel
theorem dX12_safe_39 : decode cX12_safe 39 = .ok (.iload 8, 2) := by decide +kernel
theorem dX12_safe_41 : decode cX12_safe 41 = .ok (.iload_n 2, 1) := by decide +kernel
theorem dX12_safe_42 : decode cX12_safe 42 = .ok (.if_icmp .ge 68, 3) := by decide +kernel
theorem dX12_safe_45 : decode cX12_safe 45 = .ok (.aload_n 0, 1) := by decide +kernel
theorem dX12_safe_46 : decode cX12_safe 46 = .ok (.aload_n 0, 1) := by decide +kernel
theorem dX12_safe_47 : decode cX12_safe 47 = .ok (.getfield 9, 3) := by decide +kernel
theorem dX12_safe_50 : decode cX12_safe 50 = .ok (.bipush 8, 2) := by decide +kernel
theorem dX12_safe_52 : decode cX12_safe 52 = .ok (.iaload, 1) := by decide +kernel
theorem dX12_safe_53 : decode cX12_safe 53 = .ok (.iload 8, 2) := by decide +kernel
theorem dX12_safe_55 : decode cX12_safe 55 = .ok (.iadd, 1) := by decide +kernel
theorem dX12_safe_56 : decode cX12_safe 56 = .ok (.invokevirtual 133, 3) := by decide +kernel
theorem dX12_safe_59 : decode cX12_safe 59 = .ok (.istore 9, 2) := by decide +kernel
theorem dX12_safe_61 : decode cX12_safe 61 = .ok (.lload 4, 2) := by decide +kernel
theorem dX12_safe_63 : decode cX12_safe 63 = .ok (.iload 9, 2) := by decide +kernel
theorem dX12_safe_65 : decode cX12_safe 65 = .ok (.iload_n 1, 1) := by decide +kernel
theorem dX12_safe_66 : decode cX12_safe 66 = .ok (.if_icmp .ge 9, 3) := by decide +kernel
theorem dX12_safe_69 : decode cX12_safe 69 = .ok (.ldc2_w 203, 3) := by decide +kernel
theorem dX12_safe_72 : decode cX12_safe 72 = .ok (.goto 21, 3) := by decide +kernel
theorem dX12_safe_75 : decode cX12_safe 75 = .ok (.iload 9, 2) := by decide +kernel
theorem dX12_safe_77 : decode cX12_safe 77 = .ok (.iload_n 1, 1) := by decide +kernel
theorem dX12_safe_78 : decode cX12_safe 78 = .ok (.if_icmp .ne 14, 3) := by decide +kernel
theorem dX12_safe_81 : decode cX12_safe 81 = .ok (.bipush 10, 2) := by decide +kernel
theorem dX12_safe_83 : decode cX12_safe 83 = .ok (.aload_n 0, 1) := by decide +kernel
theorem dX12_safe_84 : decode cX12_safe 84 = .ok (.getfield 124, 3) := by decide +kernel
theorem dX12_safe_87 : decode cX12_safe 87 = .ok (.isub, 1) := by decide +kernel
theorem dX12_safe_88 : decode cX12_safe 88 = .ok (.i2l, 1) := by decide +kernel
theorem dX12_safe_89 : decode cX12_safe 89 = .ok (.goto 4, 3) := by decide +kernel
theorem dX12_safe_92 : decode cX12_safe 92 = .ok (.lconst 0, 1) := by decide +kernel
theorem dX12_safe_93 : decode cX12_safe 93 = .ok (.lmul, 1) := by decide +kernel
theorem dX12_safe_94 : decode cX12_safe 94 = .ok (.lstore 4, 2) := by decide +kernel
theorem dX12_safe_96 : decode cX12_safe 96 = .ok (.lload 6, 2) := by decide +kernel
theorem dX12_safe_98 : decode cX12_safe 98 = .ok (.ldc2_w 203, 3) := by decide +kernel
theorem dX12_safe_101 : decode cX12_safe 101 = .ok (.lmul, 1) := by decide +kernel
theorem dX12_safe_102 : decode cX12_safe 102 = .ok (.lstore 6, 2) := by decide +kernel
theorem dX12_safe_104 : decode cX12_safe 104 = .ok (.iinc 8 1, 3) := by decide +kernel
theorem dX12_safe_107 : decode cX12_safe 107 = .ok (.goto (-68), 3) := by decide +kernel
theorem dX12_safe_110 : decode cX12_safe 110 = .ok (.lload 4, 2) := by decide +kernel
theorem dX12_safe_112 : decode cX12_safe 112 = .ok (.lload 6, 2) := by decide +kernel
theorem dX12_safe_114 : decode cX12_safe 114 = .ok (.iload_n 3, 1) := by decide +kernel
theorem dX12_safe_115 : decode cX12_safe 115 = .ok (.invokestatic 205, 3) := by decide +kernel
theorem dX12_safe_118 : decode cX12_safe 118 = .ok (.lreturn, 1) := by decide +kernel
set_option maxRecDepth 100000 in
set_option maxHeartbeats 4000000 in
theorem s_safe (l : Launch) (g : zG) (h : Hp) (m : Nat) (F : Nat → Int32) (A : Nat → Nat → Int32) (x n p : Int32) (T : Nat) (Q : pP) (hi : iT (A 1) T Q) : Sp l g yX12_safe cX12_safe 10 (some .long) (rmz 3) [.ref m, .int x, .int n, .int p] (hM g h m F A) (zJ (mqJ g h m F A (q_safe T Q x n p))) := by
  refine Sp.of [some (.ref m), some (.int x), some (.int n), some (.int p), none, none, none, none, none, none] (by decide) (Nat.le_of_ble_eq_true rfl) rfl rfl ?_
  rintro X rfl hr rfl B
  show AW X 0 0 0 _ _ _ _
  refine aw_iload_n B 1 rfl dX12_safe_0 rfl ?_
  refine aw_callS B 0 0 (s_isShelf _ _ _ _) co_X12_isShelf k_X12_137 dX12_safe_1 rfl rfl (Nat.le_of_ble_eq_true rfl) (zrm hr (by decide)) (Nat.le_refl _) (Nat.le_refl _) (kI fun r1 h1 hp1 => ?_)
  obtain ⟨rfl, rfl⟩ := hp1
  refine aw_if_eq B 26 dX12_safe_4 (fun c4 => ?_) (fun c4 => ?_)
  · refine aw_ldc2 B cn_X12_201 dX12_safe_26 ?_
    refine aw_lret B rfl dX12_safe_29 ?_
    exact ⟨_, rfl, by unfold q_safe; rw [if_pos c4], F, A, rfl, eqF.rf, eqA.rf, trivial⟩
  · refine aw_iload_n B 2 rfl dX12_safe_7 rfl ?_
    refine aw_iconst B 0 (by decide) dX12_safe_8 ?_
    refine aw_bipush B 12 (by decide) dX12_safe_9 ?_
    refine aw_callS B 0 0 (s_in _ _ _ _ _ _) co_X12_in k_X12_44 dX12_safe_11 rfl rfl (Nat.le_of_ble_eq_true rfl) (zrm hr (by decide)) (Nat.le_refl _) (Nat.le_refl _) (kI fun r11 h11 hp11 => ?_)
    obtain ⟨rfl, rfl⟩ := hp11
    refine aw_if_eq B 26 dX12_safe_14 (fun c14 => ?_) (fun c14 => ?_)
    · refine aw_ldc2 B cn_X12_201 dX12_safe_26 ?_
      refine aw_lret B rfl dX12_safe_29 ?_
      exact ⟨_, rfl, by unfold q_safe; rw [if_neg c4, if_pos c14], F, A, rfl, eqF.rf, eqA.rf, trivial⟩
    · refine aw_iload_n B 3 rfl dX12_safe_17 rfl ?_
      refine aw_iconst B 0 (by decide) dX12_safe_18 ?_
      refine aw_iconst B 1 (by decide) dX12_safe_19 ?_
      refine aw_callS B 0 0 (s_in _ _ _ _ _ _) co_X12_in k_X12_44 dX12_safe_20 rfl rfl (Nat.le_of_ble_eq_true rfl) (zrm hr (by decide)) (Nat.le_refl _) (Nat.le_refl _) (kI fun r20 h20 hp20 => ?_)
      obtain ⟨rfl, rfl⟩ := hp20
      refine aw_if_ne B 30 dX12_safe_23 (fun c23 => ?_) (fun c23 => ?_)
      · obtain ⟨n, -, hn, rfl⟩ := in_rng (lo := 0) (hi := 12) (of_bI c14) (by decide) (by decide)
        have ek : kN (nI n) = n := kN_nI (by omega)
        refine aw_lconst B 1 (by decide) dX12_safe_30 ?_
        refine aw_lstore4 B dX12_safe_31 ?_
        refine aw_lconst B 1 (by decide) dX12_safe_33 ?_
        refine aw_lstore6 B dX12_safe_34 ?_
        refine aw_iconst B 0 (by decide) dX12_safe_36 ?_
        refine aw_istore8 B dX12_safe_37 ?_
        have lp : ∀ (f j : Nat) (F1 : Nat → Int32) (A1 : Nat → Nat → Int32), n < j + f → j ≤ n → eqF GF F F1 → eqA GA A A1 → AW X 0 0 39 [some (.ref m), some (.int x), some (.int (nI n)), some (.int p), some (.long (lN (sfN T Q x j))), none, some (.long (lN (10 ^ j))), none, some (.int (nI j)), none] [] (hM (zXg X) h m F1 A1) (zJ (mqJ (zXg X) h m F A (q_safe T Q x (nI n) p))) := by
          intro f
          induction f with
          | zero => intros; omega
          | succ f ih =>
            intro j F1 A1 hf hj hF hA
            have e1 : A1 1 = A 1 := hA 1 (by simp [GA])
            have hsl := sfN_le T Q x j
            have hpw := pow12 (j := j) (by omega)
            refine aw_iload B dX12_safe_39 rfl ?_
            refine aw_iload_n B 2 rfl dX12_safe_41 rfl ?_
            refine aw_icmp_ge B 110 dX12_safe_42 (fun c42 => ?_) (fun c42 => ?_)
            · have hje : j = n := Nat.le_antisymm hj ((nI_leI (by omega) (by omega)).mp c42)
              refine aw_lload B dX12_safe_110 rfl ?_
              refine aw_lload B dX12_safe_112 rfl ?_
              refine aw_iload_n B 3 rfl dX12_safe_114 rfl ?_
              refine aw_callS B 0 0 (s_lowest _ _ _ (sfN T Q x j) (10 ^ j) p (by omega) (by omega) (Or.inr (Nat.pow_pos (by decide)))) co_X12_lowest k_X12_205 dX12_safe_115 rfl rfl (Nat.le_of_ble_eq_true rfl) (zrm hr (by decide)) (Nat.le_refl _) (Nat.le_refl _) (kJ fun r115 h115 hp115 => ?_)
              obtain ⟨rfl, rfl⟩ := hp115
              refine aw_lret B rfl dX12_safe_118 ?_
              exact ⟨_, rfl, by unfold q_safe; rw [if_neg c4, if_neg c14, if_neg c23, ek, hje], F1, A1, rfl, hF, hA, trivial⟩
            · have hlt : j < n := Nat.not_le.mp fun z => c42 (nI_le z (by omega))
              refine aw_aload_n B 0 rfl dX12_safe_45 rfl ?_
              refine aw_aload_n B 0 rfl dX12_safe_46 rfl ?_
              refine m_get B f_X12_9 dX12_safe_47 (mg_1 _ _) ?_
              refine aw_bipush B 8 (by decide) dX12_safe_50 ?_
              refine m_ld B (8) (rfl) ((by decide)) dX12_safe_52 (by decide) ?_
              rw [e1, hi.1]
              refine aw_iload B dX12_safe_53 rfl ?_
              refine aw_iadd B dX12_safe_55 ?_
              rw [nI_add]
              refine aw_callV B 0 0 (s_levelAt _ _ _ _ _ _ (T + j) Q (by have := hi.2.1; omega) (by rw [e1]; exact hi.2.2.1) hi.2.2.2) co_X12_levelAt k_X12_133 dX12_safe_56 hM_o rfl rfl rfl rfl (Nat.le_of_ble_eq_true rfl) (zrm hr (by decide)) (Nat.le_refl _) (Nat.le_refl _) (kI fun r56 h56 hp56 => ?_)
              obtain ⟨rfl, F2, A2, rfl, hF2, hA2, hw2⟩ := hp56
              obtain ⟨z, -, hz, ez⟩ := wav_rng (tm := T + j) hi.2.2.2 (hold_len hi.2.2.1)
              refine aw_istore9 B dX12_safe_59 ?_
              refine aw_lload B dX12_safe_61 rfl ?_
              refine aw_iload B dX12_safe_63 rfl ?_
              refine aw_iload_n B 1 rfl dX12_safe_65 rfl ?_
              refine aw_icmp_ge B 75 dX12_safe_66 (fun c66 => ?_) (fun c66 => ?_)
              · refine aw_iload B dX12_safe_75 rfl ?_
                refine aw_iload_n B 1 rfl dX12_safe_77 rfl ?_
                refine aw_icmp_ne B 92 dX12_safe_78 (fun c78 => ?_) (fun c78 => ?_)
                · refine aw_lconst B 0 (by decide) dX12_safe_92 ?_
                  refine aw_lmul B dX12_safe_93 ?_
                  refine aw_lstore4 B dX12_safe_94 ?_
                  refine aw_lload B dX12_safe_96 rfl ?_
                  refine aw_ldc2 B cn_X12_203 dX12_safe_98 ?_
                  refine aw_lmul B dX12_safe_101 ?_
                  refine aw_lstore6 B dX12_safe_102 ?_
                  refine aw_iinc8 B 1 (by decide) dX12_safe_104 ?_
                  refine aw_goto B 39 dX12_safe_107 ?_
                  rw [show (10 : Int64) = lN 10 from rfl, show lN (10 ^ j) * lN 10 = lN (10 ^ (j + 1)) from by rw [lN_mul, Nat.pow_succ], nI_1]
                  refine AW.weak (lv' := [some (.ref m), some (.int x), some (.int (nI n)), some (.int p), some (.long (lN (sfN T Q x (j + 1)))), none, some (.long (lN (10 ^ (j + 1)))), none, some (.int (nI (j + 1))), none]) ⟨Or.inr rfl, Or.inr rfl, Or.inr rfl, Or.inr rfl, Or.inr ?_, Or.inr rfl, Or.inr rfl, Or.inr rfl, Or.inr rfl, Or.inl rfl, trivial⟩ (ih (j + 1) F2 A2 (by omega) (by omega) (hF.tr (gar_3 hF2)) (hA.tr (gar_4 hA2)))
                  rw [sfN]
                  first
                    | rw [if_pos (Int32.not_le.mp c66), ← lN_mul]
                    | rw [if_neg (Int32.not_lt.mpr c66), if_pos c78, ez, kN_nI (by omega), ← lN_mul]
                    | (rw [if_neg (Int32.not_lt.mpr c66), if_neg c78, ← lN_mul]; rfl)
                · refine aw_bipush B 10 (by decide) dX12_safe_81 ?_
                  refine aw_aload_n B 0 rfl dX12_safe_83 rfl ?_
                  refine m_get B f_X12_124 dX12_safe_84 (mg_12 _ _) ?_
                  rw [show F2 12 = wav (T + j) Q from hw2, ez]
                  refine aw_isub B dX12_safe_87 ?_
                  rw [show (10 : Int32) - nI z = nI (10 - z) from pk_sub (a := 10) (b := z) hz]
                  refine aw_i2l B dX12_safe_88 ?_
                  rw [nI_l (by omega)]
                  refine aw_goto B 93 dX12_safe_89 ?_
                  refine aw_lmul B dX12_safe_93 ?_
                  refine aw_lstore4 B dX12_safe_94 ?_
                  refine aw_lload B dX12_safe_96 rfl ?_
                  refine aw_ldc2 B cn_X12_203 dX12_safe_98 ?_
                  refine aw_lmul B dX12_safe_101 ?_
                  refine aw_lstore6 B dX12_safe_102 ?_
                  refine aw_iinc8 B 1 (by decide) dX12_safe_104 ?_
                  refine aw_goto B 39 dX12_safe_107 ?_
                  rw [show (10 : Int64) = lN 10 from rfl, show lN (10 ^ j) * lN 10 = lN (10 ^ (j + 1)) from by rw [lN_mul, Nat.pow_succ], nI_1]
                  refine AW.weak (lv' := [some (.ref m), some (.int x), some (.int (nI n)), some (.int p), some (.long (lN (sfN T Q x (j + 1)))), none, some (.long (lN (10 ^ (j + 1)))), none, some (.int (nI (j + 1))), none]) ⟨Or.inr rfl, Or.inr rfl, Or.inr rfl, Or.inr rfl, Or.inr ?_, Or.inr rfl, Or.inr rfl, Or.inr rfl, Or.inr rfl, Or.inl rfl, trivial⟩ (ih (j + 1) F2 A2 (by omega) (by omega) (hF.tr (gar_3 hF2)) (hA.tr (gar_4 hA2)))
                  rw [sfN]
                  first
                    | rw [if_pos (Int32.not_le.mp c66), ← lN_mul]
                    | rw [if_neg (Int32.not_lt.mpr c66), if_pos c78, ez, kN_nI (by omega), ← lN_mul]
                    | (rw [if_neg (Int32.not_lt.mpr c66), if_neg c78, ← lN_mul]; rfl)
              · refine aw_ldc2 B cn_X12_203 dX12_safe_69 ?_
                refine aw_goto B 93 dX12_safe_72 ?_
                refine aw_lmul B dX12_safe_93 ?_
                refine aw_lstore4 B dX12_safe_94 ?_
                refine aw_lload B dX12_safe_96 rfl ?_
                refine aw_ldc2 B cn_X12_203 dX12_safe_98 ?_
                refine aw_lmul B dX12_safe_101 ?_
                refine aw_lstore6 B dX12_safe_102 ?_
                refine aw_iinc8 B 1 (by decide) dX12_safe_104 ?_
                refine aw_goto B 39 dX12_safe_107 ?_
                rw [show (10 : Int64) = lN 10 from rfl, show lN (10 ^ j) * lN 10 = lN (10 ^ (j + 1)) from by rw [lN_mul, Nat.pow_succ], nI_1]
                refine AW.weak (lv' := [some (.ref m), some (.int x), some (.int (nI n)), some (.int p), some (.long (lN (sfN T Q x (j + 1)))), none, some (.long (lN (10 ^ (j + 1)))), none, some (.int (nI (j + 1))), none]) ⟨Or.inr rfl, Or.inr rfl, Or.inr rfl, Or.inr rfl, Or.inr ?_, Or.inr rfl, Or.inr rfl, Or.inr rfl, Or.inr rfl, Or.inl rfl, trivial⟩ (ih (j + 1) F2 A2 (by omega) (by omega) (hF.tr (gar_3 hF2)) (hA.tr (gar_4 hA2)))
                rw [sfN]
                first
                  | rw [if_pos (Int32.not_le.mp c66), ← lN_mul]
                  | rw [if_neg (Int32.not_lt.mpr c66), if_pos c78, ez, kN_nI (by omega), ← lN_mul]
                  | (rw [if_neg (Int32.not_lt.mpr c66), if_neg c78, ← lN_mul]; rfl)
        exact lp 13 0 F A (by omega) (Nat.zero_le _) eqF.rf eqA.rf
      · refine aw_ldc2 B cn_X12_201 dX12_safe_26 ?_
        refine aw_lret B rfl dX12_safe_29 ?_
        exact ⟨_, rfl, by unfold q_safe; rw [if_neg c4, if_neg c14, if_pos c23], F, A, rfl, eqF.rf, eqA.rf, trivial⟩
end
section
theorem upd_i {f : Nat → Int32} {k : Nat} : upd f k (f k) = f := by
  funext j
  unfold upd
  by_cases h : j = k <;> simp [h]
theorem hold_up {S : Nat → Int32} {Q : pP} {s : Nat} {y : Int32} (hs : s < 6) (h : hold S Q) : hold (upd S (10 + s) y) Q := by
  rcases h with ⟨h1, h2⟩ | ⟨c, h1, h2, h3, h4, h5⟩
  · exact Or.inl ⟨by rw [upd_n (by omega)]; exact h1, h2⟩
  · exact Or.inr ⟨c, by rw [upd_n (by omega)]; exact h1, h2, h3, by rw [upd_n (by omega)]; exact h4, fun i hi => by rw [upd_n (by omega)]; exact h5 i hi⟩
theorem iT_up {S : Nat → Int32} {T : Nat} {Q : pP} {s : Nat} {y : Int32} (hs : s < 6) (h : iT S T Q) : iT (upd S (10 + s) y) T Q := ⟨by rw [upd_n (by omega)]; exact h.1, h.2.1, hold_up hs h.2.2.1, h.2.2.2⟩
theorem iR_up {S : Nat → Int32} {n1 s : Nat} {y : Int32} (hs : s < 6) (h : iR S n1) : iR (upd S (10 + s) y) n1 := by
  have := h.1
  exact ⟨h.1, by rw [upd_n (by omega)]; exact h.2.1, fun k hk => by rw [upd_n (by omega), upd_n (by omega)]; exact h.2.2 k hk⟩
theorem iS_up {S : Nat → Int32} {n0 s : Nat} {y : Int32} (hs : s < 6) (hy : rng y 0 8) (h : iS S n0) : iS (upd S (10 + s) y) n0 := by
  have := h.1
  refine ⟨h.1, by rw [upd_n (by omega)]; exact h.2.1, fun k hk => ⟨?_, by rw [upd_n (by omega)]; exact (h.2.2 k hk).2⟩⟩
  by_cases hks : k = s
  · rw [hks, upd_s]; exact hy
  · rw [upd_n (by omega)]; exact (h.2.2 k hk).1
theorem iA_up {S : Nat → Int32} {n0 n1 n3 s : Nat} {y : Int32} (hs : s < 6) (h : iA S n0 n1 n3) : iA (upd S (10 + s) y) n0 n1 n3 := by
  have := h.1
  exact ⟨h.1, by rw [upd_n (by omega)]; exact h.2.1, fun k hk => by rw [upd_n (by omega), upd_n (by omega), upd_n (by omega)]; exact h.2.2 k hk⟩
/-- the best SHELF and the least sum among the first shelves -/
def shF (S : Nat → Int32) (T : Nat) (Q : pP) (n3 s : Nat) : Nat → Int32 × Int32
  | 0 => (-1, 100000)
  | j + 1 => if nI (wS (upd S (10 + s) (nI j)) T Q n3) ≤ (shF S T Q n3 s j).2 then (nI j, nI (wS (upd S (10 + s) (nI j)) T Q n3)) else shF S T Q n3 s j
def q_shelve (S : Nat → Int32) (T : Nat) (Q : pP) (n3 : Nat) (x w : Int32) : Int32 := if bI (0 ≤ x ∧ x ≤ S 0 - 1) = 0 then -1 else if bI (0 ≤ w ∧ w ≤ 1) = 0 then -1 else if w = 0 then (shF S T Q n3 (kN x) 9).1 else (shF S T Q n3 (kN x) 9).2
theorem dX12_shelve_0 : decode cX12_shelve 0 = .ok (.aload_n 0, 1) := by decide +kernel
theorem dX12_shelve_1 : decode cX12_shelve 1 = .ok (.iload_n 1, 1) := by decide +kernel
theorem dX12_shelve_2 : decode cX12_shelve 2 = .ok (.invokevirtual 141, 3) := by decide +kernel
theorem dX12_shelve_5 : decode cX12_shelve 5 = .ok (.ifCond .eq 12, 3) := by decide +kernel
theorem dX12_shelve_8 : decode cX12_shelve 8 = .ok (.iload_n 2, 1) := by decide +kernel
theorem dX12_shelve_9 : decode cX12_shelve 9 = .ok (.iconst 0, 1) := by decide +kernel
theorem dX12_shelve_10 : decode cX12_shelve 10 = .ok (.iconst 1, 1) := by decide +kernel
theorem dX12_shelve_11 : decode cX12_shelve 11 = .ok (.invokestatic 44, 3) := by decide +kernel
theorem dX12_shelve_14 : decode cX12_shelve 14 = .ok (.ifCond .ne 5, 3) := by decide +kernel
theorem dX12_shelve_17 : decode cX12_shelve 17 = .ok (.iconst (-1), 1) := by decide +kernel
theorem dX12_shelve_18 : decode cX12_shelve 18 = .ok (.ireturn, 1) := by decide +kernel
theorem dX12_shelve_19 : decode cX12_shelve 19 = .ok (.aload_n 0, 1) := by decide +kernel
theorem dX12_shelve_20 : decode cX12_shelve 20 = .ok (.invokevirtual 165, 3) := by decide +kernel
theorem dX12_shelve_23 : decode cX12_shelve 23 = .ok (.aload_n 0, 1) := by decide +kernel
theorem dX12_shelve_24 : decode cX12_shelve 24 = .ok (.getfield 9, 3) := by decide +kernel
theorem dX12_shelve_27 : decode cX12_shelve 27 = .ok (.bipush 10, 2) := by decide +kernel
theorem dX12_shelve_29 : decode cX12_shelve 29 = .ok (.iload_n 1, 1) := by decide +kernel
theorem dX12_shelve_30 : decode cX12_shelve 30 = .ok (.iadd, 1) := by decide +kernel
theorem dX12_shelve_31 : decode cX12_shelve 31 = .ok (.iaload, 1) := by decide +kernel
theorem dX12_shelve_32 : decode cX12_shelve 32 = .ok (.istore_n 3, 1) := by decide +kernel
theorem dX12_shelve_33 : decode cX12_shelve 33 = .ok (.iconst (-1), 1) := by decide +kernel
theorem dX12_shelve_34 : decode cX12_shelve 34 = .ok (.istore 4, 2) := by decide +kernel
theorem dX12_shelve_36 : decode cX12_shelve 36 = .ok (.ldc 164, 2) := by decide +kernel
theorem dX12_shelve_38 : decode cX12_shelve 38 = .ok (.istore 5, 2) := by decide +kernel
theorem dX12_shelve_40 : decode cX12_shelve 40 = .ok (.iconst 0, 1) := by decide +kernel
theorem dX12_shelve_41 : decode cX12_shelve 41 = .ok (.istore 6, 2) := by decide +kernel
theorem dX12_shelve_43 : decode cX12_shelve 43 = .ok (.iload 6, 2) := by decide +kernel
theorem dX12_shelve_45 : decode cX12_shelve 45 = .ok (.bipush 9, 2) := by decide +kernel
theorem dX12_shelve_47 : decode cX12_shelve 47 = .ok (.if_icmp .ge 58, 3) := by decide +kernel
theorem dX12_shelve_50 : decode cX12_shelve 50 = .ok (.aload_n 0, 1) := by decide +kernel
theorem dX12_shelve_51 : decode cX12_shelve 51 = .ok (.getfield 9, 3) := by decide +kernel
theorem dX12_shelve_54 : decode cX12_shelve 54 = .ok (.bipush 10, 2) := by decide +kernel
theorem dX12_shelve_56 : decode cX12_shelve 56 = .ok (.iload_n 1, 1) := by decide +kernel
theorem dX12_shelve_57 : decode cX12_shelve 57 = .ok (.iadd, 1) := by decide +kernel
theorem dX12_shelve_58 : decode cX12_shelve 58 = .ok (.iload 6, 2) := by decide +kernel
theorem dX12_shelve_60 : decode cX12_shelve 60 = .ok (.iastore, 1) := by decide +kernel
theorem dX12_shelve_61 : decode cX12_shelve 61 = .ok (.aload_n 0, 1) := by decide +kernel
theorem dX12_shelve_62 : decode cX12_shelve 62 = .ok (.invokevirtual 194, 3) := by decide +kernel
theorem dX12_shelve_65 : decode cX12_shelve 65 = .ok (.istore 7, 2) := by decide +kernel
theorem dX12_shelve_67 : decode cX12_shelve 67 = .ok (.iload 7, 2) := by decide +kernel
theorem dX12_shelve_69 : decode cX12_shelve 69 = .ok (.iload 5, 2) := by decide +kernel
theorem dX12_shelve_71 : decode cX12_shelve 71 = .ok (.if_icmp .gt 8, 3) := by decide +kernel
theorem dX12_shelve_74 : decode cX12_shelve 74 = .ok (.iload 6, 2) := by decide +kernel
theorem dX12_shelve_76 : decode cX12_shelve 76 = .ok (.goto 5, 3) := by decide +kernel
theorem dX12_shelve_79 : decode cX12_shelve 79 = .ok (.iload 4, 2) := by decide +kernel
theorem dX12_shelve_81 : decode cX12_shelve 81 = .ok (.istore 4, 2) := by decide +kernel
theorem dX12_shelve_83 : decode cX12_shelve 83 = .ok (.iload 7, 2) := by decide +kernel
theorem dX12_shelve_85 : decode cX12_shelve 85 = .ok (.iload 5, 2) := by decide +kernel
theorem dX12_shelve_87 : decode cX12_shelve 87 = .ok (.if_icmp .gt 8, 3) := by decide +kernel
theorem dX12_shelve_90 : decode cX12_shelve 90 = .ok (.iload 7, 2) := by decide +kernel
theorem dX12_shelve_92 : decode cX12_shelve 92 = .ok (.goto 5, 3) := by decide +kernel
theorem dX12_shelve_95 : decode cX12_shelve 95 = .ok (.iload 5, 2) := by decide +kernel
theorem dX12_shelve_97 : decode cX12_shelve 97 = .ok (.istore 5, 2) := by decide +kernel
theorem dX12_shelve_99 : decode cX12_shelve 99 = .ok (.iinc 6 1, 3) := by decide +kernel
theorem dX12_shelve_102 : decode cX12_shelve 102 = .ok (.goto (-59), 3) := by decide +kernel
theorem dX12_shelve_105 : decode cX12_shelve 105 = .ok (.aload_n 0, 1) := by decide +kernel
theorem dX12_shelve_106 : decode cX12_shelve 106 = .ok (.getfield 9, 3) := by decide +kernel
theorem dX12_shelve_109 : decode cX12_shelve 109 = .ok (.bipush 10, 2) := by decide +kernel
theorem dX12_shelve_111 : decode cX12_shelve 111 = .ok (.iload_n 1, 1) := by decide +kernel
theorem dX12_shelve_112 : decode cX12_shelve 112 = .ok (.iadd, 1) := by decide +kernel
theorem dX12_shelve_113 : decode cX12_shelve 113 = .ok (.iload_n 3, 1) := by decide +kernel
theorem dX12_shelve_114 : decode cX12_shelve 114 = .ok (.iastore, 1) := by decide +kernel
theorem dX12_shelve_115 : decode cX12_shelve 115 = .ok (.iload_n 2, 1) := by decide +kernel
theorem dX12_shelve_116 : decode cX12_shelve 116 = .ok (.ifCond .ne 8, 3) := by decide +kernel
theorem dX12_shelve_119 : decode cX12_shelve 119 = .ok (.iload 4, 2) := by decide +kernel
theorem dX12_shelve_121 : decode cX12_shelve 121 = .ok (.goto 5, 3) := by decide +kernel
theorem dX12_shelve_124 : decode cX12_shelve 124 = .ok (.iload 5, 2) := by decide +kernel
theorem dX12_shelve_126 : decode cX12_shelve 126 = .ok (.ireturn, 1) := by decide +kernel
set_option maxRecDepth 100000 in
set_option maxHeartbeats 4000000 in
theorem s_shelve (l : Launch) (g : zG) (h : Hp) (m : Nat) (F : Nat → Int32) (A : Nat → Nat → Int32) (x w : Int32) (T : Nat) (Q : pP) (hi : iT (A 1) T Q) (n0 n1 : Nat) (hR : iR (A 1) n1) (hS : iS (A 1) n0) (n3 : Nat) (hA3 : iA (A 1) n0 n1 n3) : Sp l g yX12_shelve cX12_shelve 8 (some .int) (rmz 9) [.ref m, .int x, .int w] (hM g h m F A) (zI (mq g h m F A (q_shelve (A 1) T Q n3 x w))) := by
  refine Sp.of [some (.ref m), some (.int x), some (.int w), none, none, none, none, none] (by decide) (Nat.le_of_ble_eq_true rfl) rfl rfl ?_
  rintro X rfl hr rfl B
  show AW X 0 0 0 _ _ _ _
  refine aw_aload_n B 0 rfl dX12_shelve_0 rfl ?_
  refine aw_iload_n B 1 rfl dX12_shelve_1 rfl ?_
  refine aw_callV B 0 0 (s_isSlate _ _ _ _ _ _ _) co_X12_isSlate k_X12_141 dX12_shelve_2 hM_o rfl rfl rfl rfl (Nat.le_of_ble_eq_true rfl) (zrm hr (by decide)) (Nat.le_refl _) (Nat.le_refl _) (kI fun r2 h2 hp2 => ?_)
  obtain ⟨rfl, rfl⟩ := hp2
  refine aw_if_eq B 17 dX12_shelve_5 (fun c5 => ?_) (fun c5 => ?_)
  · refine aw_iconst B (-1) (by decide) dX12_shelve_17 ?_
    refine aw_iret B rfl rfl dX12_shelve_18 ?_
    exact ⟨_, rfl, by unfold q_shelve; rw [if_pos c5], F, A, rfl, eqF.rf, eqA.rf, trivial⟩
  · refine aw_iload_n B 2 rfl dX12_shelve_8 rfl ?_
    refine aw_iconst B 0 (by decide) dX12_shelve_9 ?_
    refine aw_iconst B 1 (by decide) dX12_shelve_10 ?_
    refine aw_callS B 0 0 (s_in _ _ _ _ _ _) co_X12_in k_X12_44 dX12_shelve_11 rfl rfl (Nat.le_of_ble_eq_true rfl) (zrm hr (by decide)) (Nat.le_refl _) (Nat.le_refl _) (kI fun r11 h11 hp11 => ?_)
    obtain ⟨rfl, rfl⟩ := hp11
    refine aw_if_ne B 19 dX12_shelve_14 (fun c14 => ?_) (fun c14 => ?_)
    · obtain ⟨s, hs6, rfl⟩ := in_cnt (of_bI c5) (by have := hS.1; omega) hS.2.1
      have z1 := hR.1
      have z2 := hS.1
      have z3 := hA3.1
      have e2 : kN (nI s) = s := kN_nI (by omega)
      have hs6 : s < 6 := by omega
      refine aw_aload_n B 0 rfl dX12_shelve_19 rfl ?_
      refine aw_callV B 0 0 (s_forgets _ _ _ _ _ _) co_X12_forgets k_X12_165 dX12_shelve_20 hM_o rfl rfl rfl rfl (Nat.le_of_ble_eq_true rfl) (zrm hr (by decide)) (Nat.le_refl _) (Nat.le_refl _) (kV fun h20 hp20 => ?_)
      subst hp20
      refine aw_aload_n B 0 rfl dX12_shelve_23 rfl ?_
      refine m_get B f_X12_9 dX12_shelve_24 (mg_1 _ _) ?_
      refine aw_bipush B 10 (by decide) dX12_shelve_27 ?_
      refine aw_iload_n B 1 rfl dX12_shelve_29 rfl ?_
      refine aw_iadd B dX12_shelve_30 ?_
      refine m_ld B (10 + s) (ix_c 10 rfl) (by show _ < 899; omega) dX12_shelve_31 (by decide) ?_
      refine aw_istore3 B dX12_shelve_32 ?_
      refine aw_iconst B (-1) (by decide) dX12_shelve_33 ?_
      refine aw_istore4 B dX12_shelve_34 ?_
      refine aw_ldc B cn_X12_164 dX12_shelve_36 ?_
      refine aw_istore5 B dX12_shelve_38 ?_
      refine aw_iconst B 0 (by decide) dX12_shelve_40 ?_
      refine aw_istore6 B dX12_shelve_41 ?_
      have lp : ∀ (f j : Nat) (y : Int32) (F1 : Nat → Int32) (A1 : Nat → Nat → Int32), 9 < j + f → j ≤ 9 → eqF GF F F1 → eqA (1 :: GA) A A1 → A1 1 = upd (A 1) (10 + s) y → lvI T Q F1 A1 → AW X 0 0 43 [some (.ref m), some (.int (nI s)), some (.int w), some (.int (A 1 (10 + s))), some (.int (shF (A 1) T Q n3 s j).1), some (.int (shF (A 1) T Q n3 s j).2), some (.int (nI j)), none] [] (hM (zXg X) h m F1 A1) (zI (mq (zXg X) h m F A (q_shelve (A 1) T Q n3 (nI s) w))) := by
        intro f
        induction f with
        | zero => intros; omega
        | succ f ih =>
          intro j y F1 A1 hf hj hF hA e1 hlv1
          refine aw_iload B dX12_shelve_43 rfl ?_
          refine aw_bipush B 9 (by decide) dX12_shelve_45 ?_
          refine aw_icmp_ge B 105 dX12_shelve_47 (fun c47 => ?_) (fun c47 => ?_)
          · have hje : j = 9 := by
              have := (nI_leI (a := 9) (by decide) (by omega)).mp c47
              omega
            refine aw_aload_n B 0 rfl dX12_shelve_105 rfl ?_
            refine m_get B f_X12_9 dX12_shelve_106 (mg_1 _ _) ?_
            refine aw_bipush B 10 (by decide) dX12_shelve_109 ?_
            refine aw_iload_n B 1 rfl dX12_shelve_111 rfl ?_
            refine aw_iadd B dX12_shelve_112 ?_
            refine aw_iload_n B 3 rfl dX12_shelve_113 rfl ?_
            refine m_st B (10 + s) (ix_c 10 rfl) (by show _ < 899; omega) dX12_shelve_114 (by decide) ?_
            refine aw_iload_n B 2 rfl dX12_shelve_115 rfl ?_
            refine aw_if_ne B 124 dX12_shelve_116 (fun c116 => ?_) (fun c116 => ?_)
            · refine aw_iload B dX12_shelve_124 rfl ?_
              refine aw_iret B rfl rfl dX12_shelve_126 ?_
              refine ⟨_, rfl, by unfold q_shelve; rw [if_neg c5, if_neg c14, if_neg c116, e2, hje], F1, _, rfl, hF, ?_, trivial⟩
              rw [e1, upd_u, upd_i]
              intro k hk
              by_cases h1 : k = 1
              · rw [h1, mup_s]
              · rw [mup_n h1]; exact hA k (by simp [h1, hk])
            · refine aw_iload B dX12_shelve_119 rfl ?_
              refine aw_goto B 126 dX12_shelve_121 ?_
              refine aw_iret B rfl rfl dX12_shelve_126 ?_
              refine ⟨_, rfl, by unfold q_shelve; rw [if_neg c5, if_neg c14, if_pos c116, e2, hje], F1, _, rfl, hF, ?_, trivial⟩
              rw [e1, upd_u, upd_i]
              intro k hk
              by_cases h1 : k = 1
              · rw [h1, mup_s]
              · rw [mup_n h1]; exact hA k (by simp [h1, hk])
          · have hlt : j < 9 := Nat.not_le.mp fun z => c47 (nI_le (a := 9) z (by omega))
            refine aw_aload_n B 0 rfl dX12_shelve_50 rfl ?_
            refine m_get B f_X12_9 dX12_shelve_51 (mg_1 _ _) ?_
            refine aw_bipush B 10 (by decide) dX12_shelve_54 ?_
            refine aw_iload_n B 1 rfl dX12_shelve_56 rfl ?_
            refine aw_iadd B dX12_shelve_57 ?_
            refine aw_iload B dX12_shelve_58 rfl ?_
            refine m_st B (10 + s) (ix_c 10 rfl) (by show _ < 899; omega) dX12_shelve_60 (by decide) ?_
            have e3 : upd (A1 1) (10 + s) (nI j) = upd (A 1) (10 + s) (nI j) := by rw [e1, upd_u]
            have E_iT : iT ((mup A1 1 (upd (A1 1) (10 + s) (nI j))) 1) T Q := by rw [mup_s, e3]; exact iT_up hs6 hi
            have E_iR : iR ((mup A1 1 (upd (A1 1) (10 + s) (nI j))) 1) n1 := by rw [mup_s, e3]; exact iR_up hs6 hR
            have E_iS : iS ((mup A1 1 (upd (A1 1) (10 + s) (nI j))) 1) n0 := by rw [mup_s, e3]; exact iS_up hs6 ⟨j, by omega, by omega, rfl⟩ hS
            have E_iA : iA ((mup A1 1 (upd (A1 1) (10 + s) (nI j))) 1) n0 n1 n3 := by rw [mup_s, e3]; exact iA_up hs6 hA3
            have E_lv : lvI T Q F1 (mup A1 1 (upd (A1 1) (10 + s) (nI j))) := by
              obtain ⟨kn, g1, g2, g3⟩ := hlv1
              exact ⟨kn, g1, g2, fun i hi => by rw [mup_n (by decide)]; exact g3 i hi⟩
            refine aw_aload_n B 0 rfl dX12_shelve_61 rfl ?_
            refine aw_callV B 0 0 (s_waitsAll _ _ _ _ _ _ T Q E_iT E_lv n0 n1 E_iR E_iS n3 E_iA) co_X12_waitsAll k_X12_194 dX12_shelve_62 hM_o rfl rfl rfl rfl (Nat.le_of_ble_eq_true rfl) (zrm hr (by decide)) (Nat.le_refl _) (Nat.le_refl _) (kI fun r62 h62 hp62 => ?_)
            obtain ⟨rfl, F2, A2, rfl, hF2, hA2, hlv2⟩ := hp62
            rw [mup_s, e3]
            have e4 : A2 1 = upd (A 1) (10 + s) (nI j) := (hA2 1 (by simp)).trans (by rw [mup_s, e3])
            refine aw_istore7 B dX12_shelve_65 ?_
            refine aw_iload B dX12_shelve_67 rfl ?_
            refine aw_iload B dX12_shelve_69 rfl ?_
            refine aw_icmp_gt B 79 dX12_shelve_71 (fun c71 => ?_) (fun c71 => ?_)
            · refine aw_iload B dX12_shelve_79 rfl ?_
              refine aw_istore4 B dX12_shelve_81 ?_
              refine aw_iload B dX12_shelve_83 rfl ?_
              refine aw_iload B dX12_shelve_85 rfl ?_
              refine aw_icmp_gt B 95 dX12_shelve_87 (fun c87 => ?_) (fun c87 => absurd c71 c87)
              refine aw_iload B dX12_shelve_95 rfl ?_
              refine aw_istore5 B dX12_shelve_97 ?_
              refine aw_iinc6 B 1 (by decide) dX12_shelve_99 ?_
              refine aw_goto B 43 dX12_shelve_102 ?_
              rw [nI_1]
              refine AW.weak (lv' := [some (.ref m), some (.int (nI s)), some (.int w), some (.int (A 1 (10 + s))), some (.int (shF (A 1) T Q n3 s (j + 1)).1), some (.int (shF (A 1) T Q n3 s (j + 1)).2), some (.int (nI (j + 1))), none]) ?_ (ih (j + 1) (nI j) F2 A2 (by omega) (by omega) (hF.tr (gar_1 hF2)) ?_ e4 hlv2)
              · rw [shF]
                first
                  | rw [if_pos (Int32.not_lt.mp c71)]
                  | rw [if_neg (Int32.not_le.mpr c71)]
                exact ⟨Or.inr rfl, Or.inr rfl, Or.inr rfl, Or.inr rfl, Or.inr rfl, Or.inr rfl, Or.inr rfl, Or.inl rfl, trivial⟩
              · exact (hA.up (by simp)).tr (hA2.mono (by simp [GA]))
            · refine aw_iload B dX12_shelve_74 rfl ?_
              refine aw_goto B 81 dX12_shelve_76 ?_
              refine aw_istore4 B dX12_shelve_81 ?_
              refine aw_iload B dX12_shelve_83 rfl ?_
              refine aw_iload B dX12_shelve_85 rfl ?_
              refine aw_icmp_gt B 95 dX12_shelve_87 (fun c87 => absurd c87 c71) (fun c87 => ?_)
              refine aw_iload B dX12_shelve_90 rfl ?_
              refine aw_goto B 97 dX12_shelve_92 ?_
              refine aw_istore5 B dX12_shelve_97 ?_
              refine aw_iinc6 B 1 (by decide) dX12_shelve_99 ?_
              refine aw_goto B 43 dX12_shelve_102 ?_
              rw [nI_1]
              refine AW.weak (lv' := [some (.ref m), some (.int (nI s)), some (.int w), some (.int (A 1 (10 + s))), some (.int (shF (A 1) T Q n3 s (j + 1)).1), some (.int (shF (A 1) T Q n3 s (j + 1)).2), some (.int (nI (j + 1))), none]) ?_ (ih (j + 1) (nI j) F2 A2 (by omega) (by omega) (hF.tr (gar_1 hF2)) ?_ e4 hlv2)
              · rw [shF]
                first
                  | rw [if_pos (Int32.not_lt.mp c71)]
                  | rw [if_neg (Int32.not_le.mpr c71)]
                exact ⟨Or.inr rfl, Or.inr rfl, Or.inr rfl, Or.inr rfl, Or.inr rfl, Or.inr rfl, Or.inr rfl, Or.inl rfl, trivial⟩
              · exact (hA.up (by simp)).tr (hA2.mono (by simp [GA]))
      exact lp 10 0 (A 1 (10 + s)) _ A (by omega) (Nat.zero_le _) gar_5 eqA.rf upd_i.symm lvI_0
    · refine aw_iconst B (-1) (by decide) dX12_shelve_17 ?_
      refine aw_iret B rfl rfl dX12_shelve_18 ?_
      exact ⟨_, rfl, by unfold q_shelve; rw [if_neg c5, if_pos c14], F, A, rfl, eqF.rf, eqA.rf, trivial⟩
end
