section
-- ===== PART A: goes FIRST, ahead of the names: the tables' words, and 'selects' of the private methods out of them =====
/-- a private method of a class that the tables say can be made, by its rows of tables_1 -/
def lw_okq (q : MethodName × Nat) : Prop := (q.1.cls ≠ "java/lang/invoke/MethodHandle" ∧ q.1.cls ≠ "java/lang/invoke/VarHandle") ∧ Cond.instantiable q.1.cls q.2 ∈ tables_1 ∧ Cond.privateMethod q.1 ∈ tables_1 ∧ Cond.instanceMethod q.1 ∈ tables_1
theorem lw_p0 : lw_okq (⟨"LowWater$Cave", "readClause", "()Z"⟩, 6) := ⟨⟨by decide +kernel, by decide +kernel⟩, List.mem_of_getElem? (i := 37) (by decide +kernel), List.mem_of_getElem? (i := 213) (by decide +kernel), List.mem_of_getElem? (i := 214) (by decide +kernel)⟩
theorem lw_p1 : lw_okq (⟨"LowWater$Cave", "signHere", "()I"⟩, 6) := ⟨⟨by decide +kernel, by decide +kernel⟩, List.mem_of_getElem? (i := 37) (by decide +kernel), List.mem_of_getElem? (i := 217) (by decide +kernel), List.mem_of_getElem? (i := 218) (by decide +kernel)⟩
theorem lw_p2 : lw_okq (⟨"LowWater$Cave", "skip", "(I)Z"⟩, 6) := ⟨⟨by decide +kernel, by decide +kernel⟩, List.mem_of_getElem? (i := 37) (by decide +kernel), List.mem_of_getElem? (i := 272) (by decide +kernel), List.mem_of_getElem? (i := 273) (by decide +kernel)⟩
theorem lw_p3 : lw_okq (⟨"LowWater$Cave", "readNumber", "()I"⟩, 6) := ⟨⟨by decide +kernel, by decide +kernel⟩, List.mem_of_getElem? (i := 37) (by decide +kernel), List.mem_of_getElem? (i := 276) (by decide +kernel), List.mem_of_getElem? (i := 277) (by decide +kernel)⟩
theorem lw_p4 : lw_okq (⟨"LowWater$Cave", "readE", "(I)Z"⟩, 6) := ⟨⟨by decide +kernel, by decide +kernel⟩, List.mem_of_getElem? (i := 37) (by decide +kernel), List.mem_of_getElem? (i := 280) (by decide +kernel), List.mem_of_getElem? (i := 281) (by decide +kernel)⟩
theorem lw_p5 : lw_okq (⟨"LowWater$Cave", "readT", "(I)Z"⟩, 6) := ⟨⟨by decide +kernel, by decide +kernel⟩, List.mem_of_getElem? (i := 37) (by decide +kernel), List.mem_of_getElem? (i := 284) (by decide +kernel), List.mem_of_getElem? (i := 285) (by decide +kernel)⟩
theorem lw_p6 : lw_okq (⟨"LowWater$Cave", "readF", "(I)Z"⟩, 6) := ⟨⟨by decide +kernel, by decide +kernel⟩, List.mem_of_getElem? (i := 37) (by decide +kernel), List.mem_of_getElem? (i := 288) (by decide +kernel), List.mem_of_getElem? (i := 289) (by decide +kernel)⟩
theorem lw_p7 : lw_okq (⟨"LowWater$Cave", "addStep", "(II)V"⟩, 6) := ⟨⟨by decide +kernel, by decide +kernel⟩, List.mem_of_getElem? (i := 37) (by decide +kernel), List.mem_of_getElem? (i := 292) (by decide +kernel), List.mem_of_getElem? (i := 293) (by decide +kernel)⟩
theorem lw_p8 : lw_okq (⟨"LowWater$Cave", "readTest", "()Z"⟩, 6) := ⟨⟨by decide +kernel, by decide +kernel⟩, List.mem_of_getElem? (i := 37) (by decide +kernel), List.mem_of_getElem? (i := 296) (by decide +kernel), List.mem_of_getElem? (i := 297) (by decide +kernel)⟩
theorem lw_p9 : lw_okq (⟨"LowWater", "isSlate", "(I)Z"⟩, 8) := ⟨⟨by decide +kernel, by decide +kernel⟩, List.mem_of_getElem? (i := 23) (by decide +kernel), List.mem_of_getElem? (i := 316) (by decide +kernel), List.mem_of_getElem? (i := 317) (by decide +kernel)⟩
theorem lw_p10 : lw_okq (⟨"LowWater", "levelIn", "(I)I"⟩, 8) := ⟨⟨by decide +kernel, by decide +kernel⟩, List.mem_of_getElem? (i := 23) (by decide +kernel), List.mem_of_getElem? (i := 487) (by decide +kernel), List.mem_of_getElem? (i := 488) (by decide +kernel)⟩
theorem lw_p11 : lw_okq (⟨"LowWater$Cave", "makeTide", "(I)V"⟩, 6) := ⟨⟨by decide +kernel, by decide +kernel⟩, List.mem_of_getElem? (i := 37) (by decide +kernel), List.mem_of_getElem? (i := 498) (by decide +kernel), List.mem_of_getElem? (i := 499) (by decide +kernel)⟩
theorem lw_p12 : lw_okq (⟨"LowWater", "isSet", "(I)Z"⟩, 8) := ⟨⟨by decide +kernel, by decide +kernel⟩, List.mem_of_getElem? (i := 23) (by decide +kernel), List.mem_of_getElem? (i := 573) (by decide +kernel), List.mem_of_getElem? (i := 574) (by decide +kernel)⟩
theorem lw_p13 : lw_okq (⟨"LowWater$Orders", "goOn", "(III)V"⟩, 8) := ⟨⟨by decide +kernel, by decide +kernel⟩, List.mem_of_getElem? (i := 134) (by decide +kernel), List.mem_of_getElem? (i := 582) (by decide +kernel), List.mem_of_getElem? (i := 583) (by decide +kernel)⟩
theorem lw_p14 : lw_okq (⟨"LowWater$Orders", "soonFrom", "(II)I"⟩, 8) := ⟨⟨by decide +kernel, by decide +kernel⟩, List.mem_of_getElem? (i := 134) (by decide +kernel), List.mem_of_getElem? (i := 589) (by decide +kernel), List.mem_of_getElem? (i := 590) (by decide +kernel)⟩
theorem lw_p15 : lw_okq (⟨"LowWater", "bothDone", "(II)I"⟩, 8) := ⟨⟨by decide +kernel, by decide +kernel⟩, List.mem_of_getElem? (i := 23) (by decide +kernel), List.mem_of_getElem? (i := 615) (by decide +kernel), List.mem_of_getElem? (i := 616) (by decide +kernel)⟩
def lw_privs_1 : List (MethodName × Nat) := [(⟨"LowWater$Cave", "readClause", "()Z"⟩, 6), (⟨"LowWater$Cave", "signHere", "()I"⟩, 6), (⟨"LowWater$Cave", "skip", "(I)Z"⟩, 6), (⟨"LowWater$Cave", "readNumber", "()I"⟩, 6), (⟨"LowWater$Cave", "readE", "(I)Z"⟩, 6), (⟨"LowWater$Cave", "readT", "(I)Z"⟩, 6), (⟨"LowWater$Cave", "readF", "(I)Z"⟩, 6), (⟨"LowWater$Cave", "addStep", "(II)V"⟩, 6), (⟨"LowWater$Cave", "readTest", "()Z"⟩, 6), (⟨"LowWater", "isSlate", "(I)Z"⟩, 8), (⟨"LowWater", "levelIn", "(I)I"⟩, 8), (⟨"LowWater$Cave", "makeTide", "(I)V"⟩, 6), (⟨"LowWater", "isSet", "(I)Z"⟩, 8), (⟨"LowWater$Orders", "goOn", "(III)V"⟩, 8), (⟨"LowWater$Orders", "soonFrom", "(II)I"⟩, 8), (⟨"LowWater", "bothDone", "(II)I"⟩, 8)]
theorem lw_r1 : ∀ q ∈ lw_privs_1, lw_okq q := List.forall_mem_cons.mpr ⟨lw_p0, List.forall_mem_cons.mpr ⟨lw_p1, List.forall_mem_cons.mpr ⟨lw_p2, List.forall_mem_cons.mpr ⟨lw_p3, List.forall_mem_cons.mpr ⟨lw_p4, List.forall_mem_cons.mpr ⟨lw_p5, List.forall_mem_cons.mpr ⟨lw_p6, List.forall_mem_cons.mpr ⟨lw_p7, List.forall_mem_cons.mpr ⟨lw_p8, List.forall_mem_cons.mpr ⟨lw_p9, List.forall_mem_cons.mpr ⟨lw_p10, List.forall_mem_cons.mpr ⟨lw_p11, List.forall_mem_cons.mpr ⟨lw_p12, List.forall_mem_cons.mpr ⟨lw_p13, List.forall_mem_cons.mpr ⟨lw_p14, List.forall_mem_cons.mpr ⟨lw_p15, fun _ h => absurd h List.not_mem_nil⟩⟩⟩⟩⟩⟩⟩⟩⟩⟩⟩⟩⟩⟩⟩⟩
theorem lw_p16 : lw_okq (⟨"LowWater", "tellOf", "(LLowWater$Row;IIII)I"⟩, 8) := ⟨⟨by decide +kernel, by decide +kernel⟩, List.mem_of_getElem? (i := 23) (by decide +kernel), List.mem_of_getElem? (i := 624) (by decide +kernel), List.mem_of_getElem? (i := 625) (by decide +kernel)⟩
theorem lw_p17 : lw_okq (⟨"LowWater", "fillWaited", "()I"⟩, 8) := ⟨⟨by decide +kernel, by decide +kernel⟩, List.mem_of_getElem? (i := 23) (by decide +kernel), List.mem_of_getElem? (i := 632) (by decide +kernel), List.mem_of_getElem? (i := 633) (by decide +kernel)⟩
theorem lw_p18 : lw_okq (⟨"LowWater", "waitOn", "(II)I"⟩, 8) := ⟨⟨by decide +kernel, by decide +kernel⟩, List.mem_of_getElem? (i := 23) (by decide +kernel), List.mem_of_getElem? (i := 639) (by decide +kernel), List.mem_of_getElem? (i := 640) (by decide +kernel)⟩
theorem lw_p19 : lw_okq (⟨"LowWater", "waitsIf", "(IIII)I"⟩, 8) := ⟨⟨by decide +kernel, by decide +kernel⟩, List.mem_of_getElem? (i := 23) (by decide +kernel), List.mem_of_getElem? (i := 653) (by decide +kernel), List.mem_of_getElem? (i := 654) (by decide +kernel)⟩
theorem lw_p20 : lw_okq (⟨"LowWaterModel", "clauseHere", "()V"⟩, 24) := ⟨⟨by decide +kernel, by decide +kernel⟩, List.mem_of_getElem? (i := 850) (by decide +kernel), List.mem_of_getElem? (i := 940) (by decide +kernel), List.mem_of_getElem? (i := 941) (by decide +kernel)⟩
theorem lw_p21 : lw_okq (⟨"LowWaterModel", "here", "()I"⟩, 24) := ⟨⟨by decide +kernel, by decide +kernel⟩, List.mem_of_getElem? (i := 850) (by decide +kernel), List.mem_of_getElem? (i := 944) (by decide +kernel), List.mem_of_getElem? (i := 945) (by decide +kernel)⟩
theorem lw_p22 : lw_okq (⟨"LowWaterModel", "much", "(ILjava/lang/String;)V"⟩, 24) := ⟨⟨by decide +kernel, by decide +kernel⟩, List.mem_of_getElem? (i := 850) (by decide +kernel), List.mem_of_getElem? (i := 949) (by decide +kernel), List.mem_of_getElem? (i := 950) (by decide +kernel)⟩
theorem lw_p23 : lw_okq (⟨"LowWaterModel", "spells", "(Ljava/lang/String;)V"⟩, 24) := ⟨⟨by decide +kernel, by decide +kernel⟩, List.mem_of_getElem? (i := 850) (by decide +kernel), List.mem_of_getElem? (i := 953) (by decide +kernel), List.mem_of_getElem? (i := 954) (by decide +kernel)⟩
theorem lw_p24 : lw_okq (⟨"LowWaterModel", "must", "(I)V"⟩, 24) := ⟨⟨by decide +kernel, by decide +kernel⟩, List.mem_of_getElem? (i := 850) (by decide +kernel), List.mem_of_getElem? (i := 959) (by decide +kernel), List.mem_of_getElem? (i := 960) (by decide +kernel)⟩
theorem lw_p25 : lw_okq (⟨"LowWaterModel", "figures", "()I"⟩, 24) := ⟨⟨by decide +kernel, by decide +kernel⟩, List.mem_of_getElem? (i := 850) (by decide +kernel), List.mem_of_getElem? (i := 963) (by decide +kernel), List.mem_of_getElem? (i := 964) (by decide +kernel)⟩
theorem lw_p26 : lw_okq (⟨"LowWaterModel", "some", "()V"⟩, 24) := ⟨⟨by decide +kernel, by decide +kernel⟩, List.mem_of_getElem? (i := 850) (by decide +kernel), List.mem_of_getElem? (i := 967) (by decide +kernel), List.mem_of_getElem? (i := 968) (by decide +kernel)⟩
theorem lw_p27 : lw_okq (⟨"LowWaterModel", "every", "()V"⟩, 24) := ⟨⟨by decide +kernel, by decide +kernel⟩, List.mem_of_getElem? (i := 850) (by decide +kernel), List.mem_of_getElem? (i := 971) (by decide +kernel), List.mem_of_getElem? (i := 972) (by decide +kernel)⟩
theorem lw_p28 : lw_okq (⟨"LowWaterModel", "factor", "()V"⟩, 24) := ⟨⟨by decide +kernel, by decide +kernel⟩, List.mem_of_getElem? (i := 850) (by decide +kernel), List.mem_of_getElem? (i := 975) (by decide +kernel), List.mem_of_getElem? (i := 976) (by decide +kernel)⟩
theorem lw_p29 : lw_okq (⟨"LowWaterModel", "emits", "(I)V"⟩, 24) := ⟨⟨by decide +kernel, by decide +kernel⟩, List.mem_of_getElem? (i := 850) (by decide +kernel), List.mem_of_getElem? (i := 979) (by decide +kernel), List.mem_of_getElem? (i := 980) (by decide +kernel)⟩
theorem lw_p30 : lw_okq (⟨"LowWaterModel", "among", "(Ljava/lang/String;)I"⟩, 24) := ⟨⟨by decide +kernel, by decide +kernel⟩, List.mem_of_getElem? (i := 850) (by decide +kernel), List.mem_of_getElem? (i := 984) (by decide +kernel), List.mem_of_getElem? (i := 985) (by decide +kernel)⟩
theorem lw_p31 : lw_okq (⟨"LowWaterModel", "isSlate", "(I)Z"⟩, 24) := ⟨⟨by decide +kernel, by decide +kernel⟩, List.mem_of_getElem? (i := 850) (by decide +kernel), List.mem_of_getElem? (i := 1002) (by decide +kernel), List.mem_of_getElem? (i := 1003) (by decide +kernel)⟩
def lw_privs_2 : List (MethodName × Nat) := [(⟨"LowWater", "tellOf", "(LLowWater$Row;IIII)I"⟩, 8), (⟨"LowWater", "fillWaited", "()I"⟩, 8), (⟨"LowWater", "waitOn", "(II)I"⟩, 8), (⟨"LowWater", "waitsIf", "(IIII)I"⟩, 8), (⟨"LowWaterModel", "clauseHere", "()V"⟩, 24), (⟨"LowWaterModel", "here", "()I"⟩, 24), (⟨"LowWaterModel", "much", "(ILjava/lang/String;)V"⟩, 24), (⟨"LowWaterModel", "spells", "(Ljava/lang/String;)V"⟩, 24), (⟨"LowWaterModel", "must", "(I)V"⟩, 24), (⟨"LowWaterModel", "figures", "()I"⟩, 24), (⟨"LowWaterModel", "some", "()V"⟩, 24), (⟨"LowWaterModel", "every", "()V"⟩, 24), (⟨"LowWaterModel", "factor", "()V"⟩, 24), (⟨"LowWaterModel", "emits", "(I)V"⟩, 24), (⟨"LowWaterModel", "among", "(Ljava/lang/String;)I"⟩, 24), (⟨"LowWaterModel", "isSlate", "(I)Z"⟩, 24)]
theorem lw_r2 : ∀ q ∈ lw_privs_2, lw_okq q := List.forall_mem_cons.mpr ⟨lw_p16, List.forall_mem_cons.mpr ⟨lw_p17, List.forall_mem_cons.mpr ⟨lw_p18, List.forall_mem_cons.mpr ⟨lw_p19, List.forall_mem_cons.mpr ⟨lw_p20, List.forall_mem_cons.mpr ⟨lw_p21, List.forall_mem_cons.mpr ⟨lw_p22, List.forall_mem_cons.mpr ⟨lw_p23, List.forall_mem_cons.mpr ⟨lw_p24, List.forall_mem_cons.mpr ⟨lw_p25, List.forall_mem_cons.mpr ⟨lw_p26, List.forall_mem_cons.mpr ⟨lw_p27, List.forall_mem_cons.mpr ⟨lw_p28, List.forall_mem_cons.mpr ⟨lw_p29, List.forall_mem_cons.mpr ⟨lw_p30, List.forall_mem_cons.mpr ⟨lw_p31, fun _ h => absurd h List.not_mem_nil⟩⟩⟩⟩⟩⟩⟩⟩⟩⟩⟩⟩⟩⟩⟩⟩
theorem lw_p32 : lw_okq (⟨"LowWaterModel", "isReader", "(I)Z"⟩, 24) := ⟨⟨by decide +kernel, by decide +kernel⟩, List.mem_of_getElem? (i := 850) (by decide +kernel), List.mem_of_getElem? (i := 1018) (by decide +kernel), List.mem_of_getElem? (i := 1019) (by decide +kernel)⟩
theorem lw_p33 : lw_okq (⟨"LowWaterModel", "needsOf", "(II)I"⟩, 24) := ⟨⟨by decide +kernel, by decide +kernel⟩, List.mem_of_getElem? (i := 850) (by decide +kernel), List.mem_of_getElem? (i := 1026) (by decide +kernel), List.mem_of_getElem? (i := 1027) (by decide +kernel)⟩
theorem lw_p34 : lw_okq (⟨"LowWaterModel", "levelAt", "(I)I"⟩, 24) := ⟨⟨by decide +kernel, by decide +kernel⟩, List.mem_of_getElem? (i := 850) (by decide +kernel), List.mem_of_getElem? (i := 1038) (by decide +kernel), List.mem_of_getElem? (i := 1039) (by decide +kernel)⟩
theorem lw_p35 : lw_okq (⟨"LowWaterModel", "looks", "(I)V"⟩, 24) := ⟨⟨by decide +kernel, by decide +kernel⟩, List.mem_of_getElem? (i := 850) (by decide +kernel), List.mem_of_getElem? (i := 1042) (by decide +kernel), List.mem_of_getElem? (i := 1043) (by decide +kernel)⟩
theorem lw_p36 : lw_okq (⟨"LowWaterModel", "forgets", "()V"⟩, 24) := ⟨⟨by decide +kernel, by decide +kernel⟩, List.mem_of_getElem? (i := 850) (by decide +kernel), List.mem_of_getElem? (i := 1054) (by decide +kernel), List.mem_of_getElem? (i := 1055) (by decide +kernel)⟩
theorem lw_p37 : lw_okq (⟨"LowWaterModel", "soonFrom", "(III)I"⟩, 24) := ⟨⟨by decide +kernel, by decide +kernel⟩, List.mem_of_getElem? (i := 850) (by decide +kernel), List.mem_of_getElem? (i := 1058) (by decide +kernel), List.mem_of_getElem? (i := 1059) (by decide +kernel)⟩
theorem lw_p38 : lw_okq (⟨"LowWaterModel", "canRead", "(III)Z"⟩, 24) := ⟨⟨by decide +kernel, by decide +kernel⟩, List.mem_of_getElem? (i := 850) (by decide +kernel), List.mem_of_getElem? (i := 1062) (by decide +kernel), List.mem_of_getElem? (i := 1063) (by decide +kernel)⟩
theorem lw_p39 : lw_okq (⟨"LowWaterModel", "mayBegin", "(II)Z"⟩, 24) := ⟨⟨by decide +kernel, by decide +kernel⟩, List.mem_of_getElem? (i := 850) (by decide +kernel), List.mem_of_getElem? (i := 1066) (by decide +kernel), List.mem_of_getElem? (i := 1067) (by decide +kernel)⟩
theorem lw_p40 : lw_okq (⟨"LowWaterModel", "levelIn", "(I)I"⟩, 24) := ⟨⟨by decide +kernel, by decide +kernel⟩, List.mem_of_getElem? (i := 850) (by decide +kernel), List.mem_of_getElem? (i := 1070) (by decide +kernel), List.mem_of_getElem? (i := 1071) (by decide +kernel)⟩
theorem lw_p41 : lw_okq (⟨"LowWaterModel", "isOpen", "(III)Z"⟩, 24) := ⟨⟨by decide +kernel, by decide +kernel⟩, List.mem_of_getElem? (i := 850) (by decide +kernel), List.mem_of_getElem? (i := 1074) (by decide +kernel), List.mem_of_getElem? (i := 1075) (by decide +kernel)⟩
theorem lw_p42 : lw_okq (⟨"LowWaterModel", "isSet", "(I)Z"⟩, 24) := ⟨⟨by decide +kernel, by decide +kernel⟩, List.mem_of_getElem? (i := 850) (by decide +kernel), List.mem_of_getElem? (i := 1086) (by decide +kernel), List.mem_of_getElem? (i := 1087) (by decide +kernel)⟩
theorem lw_p43 : lw_okq (⟨"LowWaterModel", "forgetsSoons", "()V"⟩, 24) := ⟨⟨by decide +kernel, by decide +kernel⟩, List.mem_of_getElem? (i := 850) (by decide +kernel), List.mem_of_getElem? (i := 1090) (by decide +kernel), List.mem_of_getElem? (i := 1091) (by decide +kernel)⟩
theorem lw_p44 : lw_okq (⟨"LowWaterModel", "endOf", "(II)I"⟩, 24) := ⟨⟨by decide +kernel, by decide +kernel⟩, List.mem_of_getElem? (i := 850) (by decide +kernel), List.mem_of_getElem? (i := 1094) (by decide +kernel), List.mem_of_getElem? (i := 1095) (by decide +kernel)⟩
theorem lw_p45 : lw_okq (⟨"LowWaterModel", "ordersFrom", "(IIII)V"⟩, 24) := ⟨⟨by decide +kernel, by decide +kernel⟩, List.mem_of_getElem? (i := 850) (by decide +kernel), List.mem_of_getElem? (i := 1098) (by decide +kernel), List.mem_of_getElem? (i := 1099) (by decide +kernel)⟩
theorem lw_p46 : lw_okq (⟨"LowWaterModel", "soonKnown", "(III)I"⟩, 24) := ⟨⟨by decide +kernel, by decide +kernel⟩, List.mem_of_getElem? (i := 850) (by decide +kernel), List.mem_of_getElem? (i := 1102) (by decide +kernel), List.mem_of_getElem? (i := 1103) (by decide +kernel)⟩
theorem lw_p47 : lw_okq (⟨"LowWaterModel", "waitsAll", "()I"⟩, 24) := ⟨⟨by decide +kernel, by decide +kernel⟩, List.mem_of_getElem? (i := 850) (by decide +kernel), List.mem_of_getElem? (i := 1118) (by decide +kernel), List.mem_of_getElem? (i := 1119) (by decide +kernel)⟩
def lw_privs_3 : List (MethodName × Nat) := [(⟨"LowWaterModel", "isReader", "(I)Z"⟩, 24), (⟨"LowWaterModel", "needsOf", "(II)I"⟩, 24), (⟨"LowWaterModel", "levelAt", "(I)I"⟩, 24), (⟨"LowWaterModel", "looks", "(I)V"⟩, 24), (⟨"LowWaterModel", "forgets", "()V"⟩, 24), (⟨"LowWaterModel", "soonFrom", "(III)I"⟩, 24), (⟨"LowWaterModel", "canRead", "(III)Z"⟩, 24), (⟨"LowWaterModel", "mayBegin", "(II)Z"⟩, 24), (⟨"LowWaterModel", "levelIn", "(I)I"⟩, 24), (⟨"LowWaterModel", "isOpen", "(III)Z"⟩, 24), (⟨"LowWaterModel", "isSet", "(I)Z"⟩, 24), (⟨"LowWaterModel", "forgetsSoons", "()V"⟩, 24), (⟨"LowWaterModel", "endOf", "(II)I"⟩, 24), (⟨"LowWaterModel", "ordersFrom", "(IIII)V"⟩, 24), (⟨"LowWaterModel", "soonKnown", "(III)I"⟩, 24), (⟨"LowWaterModel", "waitsAll", "()I"⟩, 24)]
theorem lw_r3 : ∀ q ∈ lw_privs_3, lw_okq q := List.forall_mem_cons.mpr ⟨lw_p32, List.forall_mem_cons.mpr ⟨lw_p33, List.forall_mem_cons.mpr ⟨lw_p34, List.forall_mem_cons.mpr ⟨lw_p35, List.forall_mem_cons.mpr ⟨lw_p36, List.forall_mem_cons.mpr ⟨lw_p37, List.forall_mem_cons.mpr ⟨lw_p38, List.forall_mem_cons.mpr ⟨lw_p39, List.forall_mem_cons.mpr ⟨lw_p40, List.forall_mem_cons.mpr ⟨lw_p41, List.forall_mem_cons.mpr ⟨lw_p42, List.forall_mem_cons.mpr ⟨lw_p43, List.forall_mem_cons.mpr ⟨lw_p44, List.forall_mem_cons.mpr ⟨lw_p45, List.forall_mem_cons.mpr ⟨lw_p46, List.forall_mem_cons.mpr ⟨lw_p47, fun _ h => absurd h List.not_mem_nil⟩⟩⟩⟩⟩⟩⟩⟩⟩⟩⟩⟩⟩⟩⟩⟩
theorem lw_p48 : lw_okq (⟨"LowWaterModel", "changes", "(II)V"⟩, 24) := ⟨⟨by decide +kernel, by decide +kernel⟩, List.mem_of_getElem? (i := 850) (by decide +kernel), List.mem_of_getElem? (i := 1130) (by decide +kernel), List.mem_of_getElem? (i := 1131) (by decide +kernel)⟩
theorem lw_p49 : lw_okq (⟨"LowWaterModel", "readsActs", "(I)I"⟩, 24) := ⟨⟨by decide +kernel, by decide +kernel⟩, List.mem_of_getElem? (i := 850) (by decide +kernel), List.mem_of_getElem? (i := 1179) (by decide +kernel), List.mem_of_getElem? (i := 1180) (by decide +kernel)⟩
theorem lw_p50 : lw_okq (⟨"LowWaterModel", "ranBody", "(I)V"⟩, 24) := ⟨⟨by decide +kernel, by decide +kernel⟩, List.mem_of_getElem? (i := 850) (by decide +kernel), List.mem_of_getElem? (i := 1186) (by decide +kernel), List.mem_of_getElem? (i := 1187) (by decide +kernel)⟩
theorem lw_p51 : lw_okq (⟨"LowWaterModel", "plainReads", "(I)I"⟩, 24) := ⟨⟨by decide +kernel, by decide +kernel⟩, List.mem_of_getElem? (i := 850) (by decide +kernel), List.mem_of_getElem? (i := 1190) (by decide +kernel), List.mem_of_getElem? (i := 1191) (by decide +kernel)⟩
theorem lw_p52 : lw_okq (⟨"LowWaterModel", "waitsActs", "(I)I"⟩, 24) := ⟨⟨by decide +kernel, by decide +kernel⟩, List.mem_of_getElem? (i := 850) (by decide +kernel), List.mem_of_getElem? (i := 1194) (by decide +kernel), List.mem_of_getElem? (i := 1195) (by decide +kernel)⟩
theorem lw_p53 : lw_okq (⟨"LowWaterModel", "plainWaits", "(I)I"⟩, 24) := ⟨⟨by decide +kernel, by decide +kernel⟩, List.mem_of_getElem? (i := 850) (by decide +kernel), List.mem_of_getElem? (i := 1198) (by decide +kernel), List.mem_of_getElem? (i := 1199) (by decide +kernel)⟩
theorem lw_p54 : lw_okq (⟨"LowWaterModel", "tellsActs", "(I)I"⟩, 24) := ⟨⟨by decide +kernel, by decide +kernel⟩, List.mem_of_getElem? (i := 850) (by decide +kernel), List.mem_of_getElem? (i := 1202) (by decide +kernel), List.mem_of_getElem? (i := 1203) (by decide +kernel)⟩
theorem lw_p55 : lw_okq (⟨"LowWaterModel", "plainTells", "(I)I"⟩, 24) := ⟨⟨by decide +kernel, by decide +kernel⟩, List.mem_of_getElem? (i := 850) (by decide +kernel), List.mem_of_getElem? (i := 1206) (by decide +kernel), List.mem_of_getElem? (i := 1207) (by decide +kernel)⟩
def lw_privs_4 : List (MethodName × Nat) := [(⟨"LowWaterModel", "changes", "(II)V"⟩, 24), (⟨"LowWaterModel", "readsActs", "(I)I"⟩, 24), (⟨"LowWaterModel", "ranBody", "(I)V"⟩, 24), (⟨"LowWaterModel", "plainReads", "(I)I"⟩, 24), (⟨"LowWaterModel", "waitsActs", "(I)I"⟩, 24), (⟨"LowWaterModel", "plainWaits", "(I)I"⟩, 24), (⟨"LowWaterModel", "tellsActs", "(I)I"⟩, 24), (⟨"LowWaterModel", "plainTells", "(I)I"⟩, 24)]
theorem lw_r4 : ∀ q ∈ lw_privs_4, lw_okq q := List.forall_mem_cons.mpr ⟨lw_p48, List.forall_mem_cons.mpr ⟨lw_p49, List.forall_mem_cons.mpr ⟨lw_p50, List.forall_mem_cons.mpr ⟨lw_p51, List.forall_mem_cons.mpr ⟨lw_p52, List.forall_mem_cons.mpr ⟨lw_p53, List.forall_mem_cons.mpr ⟨lw_p54, List.forall_mem_cons.mpr ⟨lw_p55, fun _ h => absurd h List.not_mem_nil⟩⟩⟩⟩⟩⟩⟩⟩
def lw_privs : List (MethodName × Nat) := lw_privs_1 ++ (lw_privs_2 ++ (lw_privs_3 ++ (lw_privs_4)))
def lw_tbl : List Cond := k2_sels lw_privs ++ tables_1
theorem lw_privs_ok : ∀ q ∈ lw_privs, lw_okq q := by
  show ∀ q ∈ lw_privs_1 ++ (lw_privs_2 ++ (lw_privs_3 ++ (lw_privs_4))), lw_okq q
  exact List.forall_mem_append.mpr ⟨lw_r1, List.forall_mem_append.mpr ⟨lw_r2, List.forall_mem_append.mpr ⟨lw_r3, lw_r4⟩⟩⟩

def RX0 : String := "LowWater$Blind"
def TX0 : u_T := fun k => match k with
  | 0 => ("LowWater$Reader", "number", "I", true)
  | _ => ("LowWater$Reader", "v", "I", true)
def tyX0 : Nat → FieldType := fun k => match k with
  | 0 => .int
  | _ => .int
abbrev wsX00 : List Cond := u_ws RX0 TX0 2
theorem nmX0 : ∀ a, a < 2 → ∀ b, b < 2 → a ≠ b → (TX0 a).2.1 ≠ (TX0 b).2.1 := by decide +kernel
theorem tyX0_ok : ∀ k, k < 2 → parseFieldDescriptor (TX0 k).2.2.1 = some (tyX0 k) := by decide +kernel
abbrev cX0_init : ByteArray := prog_2_method_1_code
def yX0_init : MethodName := ⟨RX0, "<init>", "(II)V"⟩
abbrev cX0_kind : ByteArray := prog_2_method_2_code
def yX0_kind : MethodName := ⟨RX0, "kind", "()I"⟩
abbrev cX0_isA : ByteArray := prog_2_method_3_code
def yX0_isA : MethodName := ⟨RX0, "isA", "(I)Z"⟩
abbrev cX0_hoursFor : ByteArray := prog_2_method_4_code
def yX0_hoursFor : MethodName := ⟨RX0, "hoursFor", "(I)I"⟩
abbrev cX0_bodyOfReads : ByteArray := prog_2_method_5_code
def yX0_bodyOfReads : MethodName := ⟨RX0, "bodyOfReads", "(ILLowWater$Row;)I"⟩
def RX1 : String := "LowWater$Cave"
def TX1 : u_T := fun k => match k with
  | 0 => ("LowWater$Cave", "steps", "[I", true)
  | 1 => ("LowWater$Cave", "numbers", "[I", true)
  | 2 => ("LowWater$Cave", "size", "I", false)
  | 3 => ("LowWater$Cave", "tides", "[I", true)
  | 4 => ("LowWater$Cave", "text", "LLowWater$Row;", false)
  | _ => ("LowWater$Cave", "place", "I", false)
def tyX1 : Nat → FieldType := fun k => match k with
  | 0 => .array .int
  | 1 => .array .int
  | 2 => .int
  | 3 => .array .int
  | 4 => .object "LowWater$Row"
  | _ => .int
abbrev wsX10 : List Cond := u_ws RX1 TX1 6
theorem nmX1 : ∀ a, a < 6 → ∀ b, b < 6 → a ≠ b → (TX1 a).2.1 ≠ (TX1 b).2.1 := by decide +kernel
theorem tyX1_ok : ∀ k, k < 6 → parseFieldDescriptor (TX1 k).2.2.1 = some (tyX1 k) := by decide +kernel
abbrev cX1_init : ByteArray := prog_3_method_1_code
def yX1_init : MethodName := ⟨RX1, "<init>", "()V"⟩
abbrev cX1_levelAt : ByteArray := prog_3_method_2_code
def yX1_levelAt : MethodName := ⟨RX1, "levelAt", "(I)I"⟩
abbrev cX1_waveAt : ByteArray := prog_3_method_3_code
def yX1_waveAt : MethodName := ⟨RX1, "waveAt", "(I)I"⟩
abbrev cX1_takeFrom : ByteArray := prog_3_method_4_code
def yX1_takeFrom : MethodName := ⟨RX1, "takeFrom", "(LLowWater$Cave;)V"⟩
abbrev cX1_makeTide : ByteArray := prog_3_method_5_code
def yX1_makeTide : MethodName := ⟨RX1, "makeTide", "(I)V"⟩
abbrev cX1_read : ByteArray := prog_3_method_6_code
def yX1_read : MethodName := ⟨RX1, "read", "(LLowWater$Row;)I"⟩
abbrev cX1_readClause : ByteArray := prog_3_method_7_code
def yX1_readClause : MethodName := ⟨RX1, "readClause", "()Z"⟩
abbrev cX1_readE : ByteArray := prog_3_method_8_code
def yX1_readE : MethodName := ⟨RX1, "readE", "(I)Z"⟩
abbrev cX1_readT : ByteArray := prog_3_method_9_code
def yX1_readT : MethodName := ⟨RX1, "readT", "(I)Z"⟩
abbrev cX1_readF : ByteArray := prog_3_method_10_code
def yX1_readF : MethodName := ⟨RX1, "readF", "(I)Z"⟩
abbrev cX1_readTest : ByteArray := prog_3_method_11_code
def yX1_readTest : MethodName := ⟨RX1, "readTest", "()Z"⟩
abbrev cX1_readNumber : ByteArray := prog_3_method_12_code
def yX1_readNumber : MethodName := ⟨RX1, "readNumber", "()I"⟩
abbrev cX1_skip : ByteArray := prog_3_method_13_code
def yX1_skip : MethodName := ⟨RX1, "skip", "(I)Z"⟩
abbrev cX1_signHere : ByteArray := prog_3_method_14_code
def yX1_signHere : MethodName := ⟨RX1, "signHere", "()I"⟩
abbrev cX1_addStep : ByteArray := prog_3_method_15_code
def yX1_addStep : MethodName := ⟨RX1, "addStep", "(II)V"⟩
def RX2 : String := "LowWater$Diver"
def TX2 : u_T := fun k => match k with
  | 0 => ("LowWater$Reader", "number", "I", true)
  | _ => ("LowWater$Reader", "v", "I", true)
def tyX2 : Nat → FieldType := fun k => match k with
  | 0 => .int
  | _ => .int
abbrev wsX20 : List Cond := u_ws RX2 TX2 2
theorem nmX2 : ∀ a, a < 2 → ∀ b, b < 2 → a ≠ b → (TX2 a).2.1 ≠ (TX2 b).2.1 := by decide +kernel
theorem tyX2_ok : ∀ k, k < 2 → parseFieldDescriptor (TX2 k).2.2.1 = some (tyX2 k) := by decide +kernel
abbrev cX2_init : ByteArray := prog_4_method_1_code
def yX2_init : MethodName := ⟨RX2, "<init>", "(II)V"⟩
abbrev cX2_kind : ByteArray := prog_4_method_2_code
def yX2_kind : MethodName := ⟨RX2, "kind", "()I"⟩
abbrev cX2_isA : ByteArray := prog_4_method_3_code
def yX2_isA : MethodName := ⟨RX2, "isA", "(I)Z"⟩
abbrev cX2_reaches : ByteArray := prog_4_method_4_code
def yX2_reaches : MethodName := ⟨RX2, "reaches", "(II)Z"⟩
abbrev cX2_bodyOfWaits : ByteArray := prog_4_method_5_code
def yX2_bodyOfWaits : MethodName := ⟨RX2, "bodyOfWaits", "(ILLowWater$Row;)I"⟩
def RX3 : String := "LowWater$Fast"
def TX3 : u_T := fun k => match k with
  | 0 => ("LowWater$Reader", "number", "I", true)
  | _ => ("LowWater$Reader", "v", "I", true)
def tyX3 : Nat → FieldType := fun k => match k with
  | 0 => .int
  | _ => .int
abbrev wsX30 : List Cond := u_ws RX3 TX3 2
theorem nmX3 : ∀ a, a < 2 → ∀ b, b < 2 → a ≠ b → (TX3 a).2.1 ≠ (TX3 b).2.1 := by decide +kernel
theorem tyX3_ok : ∀ k, k < 2 → parseFieldDescriptor (TX3 k).2.2.1 = some (tyX3 k) := by decide +kernel
abbrev cX3_init : ByteArray := prog_5_method_1_code
def yX3_init : MethodName := ⟨RX3, "<init>", "(II)V"⟩
abbrev cX3_kind : ByteArray := prog_5_method_2_code
def yX3_kind : MethodName := ⟨RX3, "kind", "()I"⟩
abbrev cX3_isA : ByteArray := prog_5_method_3_code
def yX3_isA : MethodName := ⟨RX3, "isA", "(I)Z"⟩
abbrev cX3_hoursFor : ByteArray := prog_5_method_4_code
def yX3_hoursFor : MethodName := ⟨RX3, "hoursFor", "(I)I"⟩
abbrev cX3_bodyOfReads : ByteArray := prog_5_method_5_code
def yX3_bodyOfReads : MethodName := ⟨RX3, "bodyOfReads", "(ILLowWater$Row;)I"⟩
def RX4 : String := "LowWater$Orders"
def TX4 : u_T := fun k => match k with
  | 0 => ("LowWater$Orders", "state", "LLowWater$State;", false)
  | 1 => ("LowWater$Orders", "reader", "LLowWater$Reader;", false)
  | 2 => ("LowWater$Orders", "all", "I", false)
  | 3 => ("LowWater$Orders", "best", "[I", true)
  | 4 => ("LowWater$Orders", "row", "[I", true)
  | 5 => ("LowWater$Orders", "bestRow", "[I", true)
  | 6 => ("LowWater$Orders", "soons", "[I", true)
  | _ => ("LowWater$Orders", "asking", "I", false)
def tyX4 : Nat → FieldType := fun k => match k with
  | 0 => .object "LowWater$State"
  | 1 => .object "LowWater$Reader"
  | 2 => .int
  | 3 => .array .int
  | 4 => .array .int
  | 5 => .array .int
  | 6 => .array .int
  | _ => .int
abbrev wsX40 : List Cond := u_ws RX4 TX4 8
theorem nmX4 : ∀ a, a < 8 → ∀ b, b < 8 → a ≠ b → (TX4 a).2.1 ≠ (TX4 b).2.1 := by decide +kernel
theorem tyX4_ok : ∀ k, k < 8 → parseFieldDescriptor (TX4 k).2.2.1 = some (tyX4 k) := by decide +kernel
abbrev cX4_init : ByteArray := prog_6_method_1_code
def yX4_init : MethodName := ⟨RX4, "<init>", "()V"⟩
abbrev cX4_begin : ByteArray := prog_6_method_2_code
def yX4_begin : MethodName := ⟨RX4, "begin", "(LLowWater$State;LLowWater$Reader;I)V"⟩
abbrev cX4_goOn : ByteArray := prog_6_method_3_code
def yX4_goOn : MethodName := ⟨RX4, "goOn", "(III)V"⟩
abbrev cX4_hoursOf : ByteArray := prog_6_method_4_code
def yX4_hoursOf : MethodName := ⟨RX4, "hoursOf", "(I)I"⟩
abbrev cX4_kth : ByteArray := prog_6_method_5_code
def yX4_kth : MethodName := ⟨RX4, "kth", "(I)I"⟩
abbrev cX4_soonFrom : ByteArray := prog_6_method_6_code
def yX4_soonFrom : MethodName := ⟨RX4, "soonFrom", "(II)I"⟩
def RX5 : String := "LowWater$Quick"
def TX5 : u_T := fun k => match k with
  | 0 => ("LowWater$Reader", "number", "I", true)
  | _ => ("LowWater$Reader", "v", "I", true)
def tyX5 : Nat → FieldType := fun k => match k with
  | 0 => .int
  | _ => .int
abbrev wsX50 : List Cond := u_ws RX5 TX5 2
theorem nmX5 : ∀ a, a < 2 → ∀ b, b < 2 → a ≠ b → (TX5 a).2.1 ≠ (TX5 b).2.1 := by decide +kernel
theorem tyX5_ok : ∀ k, k < 2 → parseFieldDescriptor (TX5 k).2.2.1 = some (tyX5 k) := by decide +kernel
abbrev cX5_init : ByteArray := prog_7_method_1_code
def yX5_init : MethodName := ⟨RX5, "<init>", "(II)V"⟩
abbrev cX5_kind : ByteArray := prog_7_method_2_code
def yX5_kind : MethodName := ⟨RX5, "kind", "()I"⟩
abbrev cX5_isA : ByteArray := prog_7_method_3_code
def yX5_isA : MethodName := ⟨RX5, "isA", "(I)Z"⟩
abbrev cX5_hoursFor : ByteArray := prog_7_method_4_code
def yX5_hoursFor : MethodName := ⟨RX5, "hoursFor", "(I)I"⟩
abbrev cX5_bodyOfTells : ByteArray := prog_7_method_5_code
def yX5_bodyOfTells : MethodName := ⟨RX5, "bodyOfTells", "(ILLowWater$Row;)I"⟩
def RX6 : String := "LowWater$Reader"
def TX6 : u_T := fun k => match k with
  | 0 => ("LowWater$Reader", "number", "I", true)
  | _ => ("LowWater$Reader", "v", "I", true)
def tyX6 : Nat → FieldType := fun k => match k with
  | 0 => .int
  | _ => .int
abbrev wsX60 : List Cond := u_ws RX6 TX6 2
theorem nmX6 : ∀ a, a < 2 → ∀ b, b < 2 → a ≠ b → (TX6 a).2.1 ≠ (TX6 b).2.1 := by decide +kernel
theorem tyX6_ok : ∀ k, k < 2 → parseFieldDescriptor (TX6 k).2.2.1 = some (tyX6 k) := by decide +kernel
abbrev cX6_init : ByteArray := prog_8_method_1_code
def yX6_init : MethodName := ⟨RX6, "<init>", "(II)V"⟩
abbrev cX6_kind : ByteArray := prog_8_method_2_code
def yX6_kind : MethodName := ⟨RX6, "kind", "()I"⟩
abbrev cX6_isA : ByteArray := prog_8_method_3_code
def yX6_isA : MethodName := ⟨RX6, "isA", "(I)Z"⟩
abbrev cX6_hoursFor : ByteArray := prog_8_method_4_code
def yX6_hoursFor : MethodName := ⟨RX6, "hoursFor", "(I)I"⟩
abbrev cX6_reaches : ByteArray := prog_8_method_5_code
def yX6_reaches : MethodName := ⟨RX6, "reaches", "(II)Z"⟩
abbrev cX6_mayBegin : ByteArray := prog_8_method_6_code
def yX6_mayBegin : MethodName := ⟨RX6, "mayBegin", "(LLowWater$Cave;I)Z"⟩
abbrev cX6_reads : ByteArray := prog_8_method_7_code
def yX6_reads : MethodName := ⟨RX6, "reads", "(LLowWater$Cave;III)Z"⟩
abbrev cX6_soonest : ByteArray := prog_8_method_8_code
def yX6_soonest : MethodName := ⟨RX6, "soonest", "(LLowWater$Cave;III)I"⟩
abbrev cX6_bodyOfReads : ByteArray := prog_8_method_9_code
def yX6_bodyOfReads : MethodName := ⟨RX6, "bodyOfReads", "(ILLowWater$Row;)I"⟩
abbrev cX6_bodyOfWaits : ByteArray := prog_8_method_10_code
def yX6_bodyOfWaits : MethodName := ⟨RX6, "bodyOfWaits", "(ILLowWater$Row;)I"⟩
abbrev cX6_bodyOfTells : ByteArray := prog_8_method_11_code
def yX6_bodyOfTells : MethodName := ⟨RX6, "bodyOfTells", "(ILLowWater$Row;)I"⟩
def RX7 : String := "LowWater$Row"
def TX7 : u_T := fun k => match k with
  | 0 => ("LowWater$Row", "items", "[I", true)
  | _ => ("LowWater$Row", "size", "I", false)
def tyX7 : Nat → FieldType := fun k => match k with
  | 0 => .array .int
  | _ => .int
abbrev wsX70 : List Cond := u_ws RX7 TX7 2
theorem nmX7 : ∀ a, a < 2 → ∀ b, b < 2 → a ≠ b → (TX7 a).2.1 ≠ (TX7 b).2.1 := by decide +kernel
theorem tyX7_ok : ∀ k, k < 2 → parseFieldDescriptor (TX7 k).2.2.1 = some (tyX7 k) := by decide +kernel
abbrev cX7_init : ByteArray := prog_9_method_1_code
def yX7_init : MethodName := ⟨RX7, "<init>", "([I)V"⟩
abbrev cX7_isFull : ByteArray := prog_9_method_2_code
def yX7_isFull : MethodName := ⟨RX7, "isFull", "()Z"⟩
abbrev cX7_add : ByteArray := prog_9_method_3_code
def yX7_add : MethodName := ⟨RX7, "add", "(I)V"⟩
abbrev cX7_get : ByteArray := prog_9_method_4_code
def yX7_get : MethodName := ⟨RX7, "get", "(I)I"⟩
abbrev cX7_replace : ByteArray := prog_9_method_5_code
def yX7_replace : MethodName := ⟨RX7, "replace", "(II)V"⟩
abbrev cX7_clear : ByteArray := prog_9_method_6_code
def yX7_clear : MethodName := ⟨RX7, "clear", "()V"⟩
abbrev cX7_takeFrom : ByteArray := prog_9_method_7_code
def yX7_takeFrom : MethodName := ⟨RX7, "takeFrom", "(LLowWater$Row;)V"⟩
def RX8 : String := "LowWater$Rowed"
def TX8 : u_T := fun k => match k with
  | 0 => ("LowWater$Reader", "number", "I", true)
  | _ => ("LowWater$Reader", "v", "I", true)
def tyX8 : Nat → FieldType := fun k => match k with
  | 0 => .int
  | _ => .int
abbrev wsX80 : List Cond := u_ws RX8 TX8 2
theorem nmX8 : ∀ a, a < 2 → ∀ b, b < 2 → a ≠ b → (TX8 a).2.1 ≠ (TX8 b).2.1 := by decide +kernel
theorem tyX8_ok : ∀ k, k < 2 → parseFieldDescriptor (TX8 k).2.2.1 = some (tyX8 k) := by decide +kernel
abbrev cX8_init : ByteArray := prog_10_method_1_code
def yX8_init : MethodName := ⟨RX8, "<init>", "(II)V"⟩
abbrev cX8_kind : ByteArray := prog_10_method_2_code
def yX8_kind : MethodName := ⟨RX8, "kind", "()I"⟩
abbrev cX8_isA : ByteArray := prog_10_method_3_code
def yX8_isA : MethodName := ⟨RX8, "isA", "(I)Z"⟩
abbrev cX8_mayBegin : ByteArray := prog_10_method_4_code
def yX8_mayBegin : MethodName := ⟨RX8, "mayBegin", "(LLowWater$Cave;I)Z"⟩
abbrev cX8_bodyOfTells : ByteArray := prog_10_method_5_code
def yX8_bodyOfTells : MethodName := ⟨RX8, "bodyOfTells", "(ILLowWater$Row;)I"⟩
def RX9 : String := "LowWater$State"
def TX9 : u_T := fun k => match k with
  | 0 => ("LowWater$State", "hour", "I", false)
  | 1 => ("LowWater$State", "caves", "I", false)
  | 2 => ("LowWater$State", "readerCount", "I", false)
  | 3 => ("LowWater$State", "cave", "LLowWater$Cave;", false)
  | 4 => ("LowWater$State", "readers", "[LLowWater$Reader;", true)
  | 5 => ("LowWater$State", "tape", "LLowWater$Row;", true)
  | 6 => ("LowWater$State", "shelves", "LLowWater$Row;", true)
  | 7 => ("LowWater$State", "lines", "LLowWater$Row;", true)
  | 8 => ("LowWater$State", "asks", "LLowWater$Row;", true)
  | 9 => ("LowWater$State", "seen", "LLowWater$Row;", true)
  | _ => ("LowWater$State", "tales", "LLowWater$Row;", true)
def tyX9 : Nat → FieldType := fun k => match k with
  | 0 => .int
  | 1 => .int
  | 2 => .int
  | 3 => .object "LowWater$Cave"
  | 4 => .array (.object "LowWater$Reader")
  | 5 => .object "LowWater$Row"
  | 6 => .object "LowWater$Row"
  | 7 => .object "LowWater$Row"
  | 8 => .object "LowWater$Row"
  | 9 => .object "LowWater$Row"
  | _ => .object "LowWater$Row"
abbrev wsX90 : List Cond := u_ws RX9 TX9 11
theorem nmX9 : ∀ a, a < 11 → ∀ b, b < 11 → a ≠ b → (TX9 a).2.1 ≠ (TX9 b).2.1 := by decide +kernel
theorem tyX9_ok : ∀ k, k < 11 → parseFieldDescriptor (TX9 k).2.2.1 = some (tyX9 k) := by decide +kernel
abbrev cX9_init : ByteArray := prog_11_method_1_code
def yX9_init : MethodName := ⟨RX9, "<init>", "()V"⟩
abbrev cX9_readerAt : ByteArray := prog_11_method_2_code
def yX9_readerAt : MethodName := ⟨RX9, "readerAt", "(I)LLowWater$Reader;"⟩
abbrev cX9_takeFrom : ByteArray := prog_11_method_3_code
def yX9_takeFrom : MethodName := ⟨RX9, "takeFrom", "(LLowWater$State;)V"⟩
def RX10 : String := "LowWater$Waiting"
def TX10 : u_T := fun k => match k with
  | 0 => ("LowWater$Reader", "number", "I", true)
  | _ => ("LowWater$Reader", "v", "I", true)
def tyX10 : Nat → FieldType := fun k => match k with
  | 0 => .int
  | _ => .int
abbrev wsX100 : List Cond := u_ws RX10 TX10 2
theorem nmX10 : ∀ a, a < 2 → ∀ b, b < 2 → a ≠ b → (TX10 a).2.1 ≠ (TX10 b).2.1 := by decide +kernel
theorem tyX10_ok : ∀ k, k < 2 → parseFieldDescriptor (TX10 k).2.2.1 = some (tyX10 k) := by decide +kernel
abbrev cX10_init : ByteArray := prog_12_method_1_code
def yX10_init : MethodName := ⟨RX10, "<init>", "(II)V"⟩
abbrev cX10_kind : ByteArray := prog_12_method_2_code
def yX10_kind : MethodName := ⟨RX10, "kind", "()I"⟩
abbrev cX10_isA : ByteArray := prog_12_method_3_code
def yX10_isA : MethodName := ⟨RX10, "isA", "(I)Z"⟩
abbrev cX10_mayBegin : ByteArray := prog_12_method_4_code
def yX10_mayBegin : MethodName := ⟨RX10, "mayBegin", "(LLowWater$Cave;I)Z"⟩
abbrev cX10_bodyOfWaits : ByteArray := prog_12_method_5_code
def yX10_bodyOfWaits : MethodName := ⟨RX10, "bodyOfWaits", "(ILLowWater$Row;)I"⟩
def RX11 : String := "LowWater"
def TX11 : u_T := fun k => match k with
  | 0 => ("LowWater", "now", "LLowWater$State;", true)
  | 1 => ("LowWater", "kept", "LLowWater$State;", true)
  | 2 => ("LowWater", "imageTaken", "Z", false)
  | 3 => ("LowWater", "spare", "LLowWater$Cave;", false)
  | 4 => ("LowWater", "trace", "LLowWater$Row;", true)
  | 5 => ("LowWater", "orders", "LLowWater$Orders;", true)
  | 6 => ("LowWater", "othersOrders", "LLowWater$Orders;", true)
  | _ => ("LowWater", "waited", "[I", true)
def tyX11 : Nat → FieldType := fun k => match k with
  | 0 => .object "LowWater$State"
  | 1 => .object "LowWater$State"
  | 2 => .boolean
  | 3 => .object "LowWater$Cave"
  | 4 => .object "LowWater$Row"
  | 5 => .object "LowWater$Orders"
  | 6 => .object "LowWater$Orders"
  | _ => .array .int
abbrev wsX110 : List Cond := u_ws RX11 TX11 8
theorem nmX11 : ∀ a, a < 8 → ∀ b, b < 8 → a ≠ b → (TX11 a).2.1 ≠ (TX11 b).2.1 := by decide +kernel
theorem tyX11_ok : ∀ k, k < 8 → parseFieldDescriptor (TX11 k).2.2.1 = some (tyX11 k) := by decide +kernel
abbrev cX11_init : ByteArray := prog_1_method_1_code
def yX11_init : MethodName := ⟨RX11, "<init>", "()V"⟩
abbrev cX11_feed : ByteArray := prog_1_method_2_code
def yX11_feed : MethodName := ⟨RX11, "feed", "(I)I"⟩
abbrev cX11_cave : ByteArray := prog_1_method_3_code
def yX11_cave : MethodName := ⟨RX11, "cave", "()I"⟩
abbrev cX11_slate : ByteArray := prog_1_method_4_code
def yX11_slate : MethodName := ⟨RX11, "slate", "(II)I"⟩
abbrev cX11_of : ByteArray := prog_1_method_5_code
def yX11_of : MethodName := ⟨RX11, "of", "(II)I"⟩
abbrev cX11_put : ByteArray := prog_1_method_6_code
def yX11_put : MethodName := ⟨RX11, "put", "(II)I"⟩
abbrev cX11_reader : ByteArray := prog_1_method_7_code
def yX11_reader : MethodName := ⟨RX11, "reader", "(II)I"⟩
abbrev cX11_at : ByteArray := prog_1_method_8_code
def yX11_at : MethodName := ⟨RX11, "at", "(II)I"⟩
abbrev cX11_needs : ByteArray := prog_1_method_9_code
def yX11_needs : MethodName := ⟨RX11, "needs", "(II)I"⟩
abbrev cX11_hours : ByteArray := prog_1_method_10_code
def yX11_hours : MethodName := ⟨RX11, "hours", "(I)I"⟩
abbrev cX11_told : ByteArray := prog_1_method_11_code
def yX11_told : MethodName := ⟨RX11, "told", "(I)I"⟩
abbrev cX11_level : ByteArray := prog_1_method_12_code
def yX11_level : MethodName := ⟨RX11, "level", "(I)I"⟩
abbrev cX11_soon : ByteArray := prog_1_method_13_code
def yX11_soon : MethodName := ⟨RX11, "soon", "(II)I"⟩
abbrev cX11_set : ByteArray := prog_1_method_14_code
def yX11_set : MethodName := ⟨RX11, "set", "(III)I"⟩
abbrev cX11_two : ByteArray := prog_1_method_15_code
def yX11_two : MethodName := ⟨RX11, "two", "(IIII)I"⟩
abbrev cX11_ask : ByteArray := prog_1_method_16_code
def yX11_ask : MethodName := ⟨RX11, "ask", "(III)I"⟩
abbrev cX11_waits : ByteArray := prog_1_method_17_code
def yX11_waits : MethodName := ⟨RX11, "waits", "()I"⟩
abbrev cX11_shelve : ByteArray := prog_1_method_18_code
def yX11_shelve : MethodName := ⟨RX11, "shelve", "(II)I"⟩
abbrev cX11_change : ByteArray := prog_1_method_19_code
def yX11_change : MethodName := ⟨RX11, "change", "()I"⟩
abbrev cX11_force : ByteArray := prog_1_method_20_code
def yX11_force : MethodName := ⟨RX11, "force", "(I)I"⟩
abbrev cX11_open : ByteArray := prog_1_method_21_code
def yX11_open : MethodName := ⟨RX11, "open", "(III)I"⟩
abbrev cX11_next : ByteArray := prog_1_method_22_code
def yX11_next : MethodName := ⟨RX11, "next", "(I)I"⟩
abbrev cX11_safe : ByteArray := prog_1_method_23_code
def yX11_safe : MethodName := ⟨RX11, "safe", "(III)J"⟩
abbrev cX11_mean : ByteArray := prog_1_method_24_code
def yX11_mean : MethodName := ⟨RX11, "mean", "(II)J"⟩
abbrev cX11_see : ByteArray := prog_1_method_25_code
def yX11_see : MethodName := ⟨RX11, "see", "(IZ)I"⟩
abbrev cX11_stood : ByteArray := prog_1_method_26_code
def yX11_stood : MethodName := ⟨RX11, "stood", "()I"⟩
abbrev cX11_tale : ByteArray := prog_1_method_27_code
def yX11_tale : MethodName := ⟨RX11, "tale", "(III)I"⟩
abbrev cX11_looked : ByteArray := prog_1_method_28_code
def yX11_looked : MethodName := ⟨RX11, "looked", "()I"⟩
abbrev cX11_act : ByteArray := prog_1_method_29_code
def yX11_act : MethodName := ⟨RX11, "act", "(III)I"⟩
abbrev cX11_trace : ByteArray := prog_1_method_30_code
def yX11_trace : MethodName := ⟨RX11, "trace", "(I)I"⟩
abbrev cX11_as : ByteArray := prog_1_method_31_code
def yX11_as : MethodName := ⟨RX11, "as", "(II)I"⟩
abbrev cX11_image : ByteArray := prog_1_method_32_code
def yX11_image : MethodName := ⟨RX11, "image", "()I"⟩
abbrev cX11_undo : ByteArray := prog_1_method_33_code
def yX11_undo : MethodName := ⟨RX11, "undo", "()I"⟩
abbrev cX11_count : ByteArray := prog_1_method_34_code
def yX11_count : MethodName := ⟨RX11, "count", "(I)I"⟩
abbrev cX11_isSlate : ByteArray := prog_1_method_35_code
def yX11_isSlate : MethodName := ⟨RX11, "isSlate", "(I)Z"⟩
abbrev cX11_isShelf : ByteArray := prog_1_method_36_code
def yX11_isShelf : MethodName := ⟨RX11, "isShelf", "(I)Z"⟩
abbrev cX11_isWhat : ByteArray := prog_1_method_37_code
def yX11_isWhat : MethodName := ⟨RX11, "isWhat", "(I)Z"⟩
abbrev cX11_isNear : ByteArray := prog_1_method_38_code
def yX11_isNear : MethodName := ⟨RX11, "isNear", "(I)Z"⟩
abbrev cX11_isSet : ByteArray := prog_1_method_39_code
def yX11_isSet : MethodName := ⟨RX11, "isSet", "(I)Z"⟩
abbrev cX11_levelIn : ByteArray := prog_1_method_40_code
def yX11_levelIn : MethodName := ⟨RX11, "levelIn", "(I)I"⟩
abbrev cX11_newReader : ByteArray := prog_1_method_41_code
def yX11_newReader : MethodName := ⟨RX11, "newReader", "(III)LLowWater$Reader;"⟩
abbrev cX11_bothDone : ByteArray := prog_1_method_42_code
def yX11_bothDone : MethodName := ⟨RX11, "bothDone", "(II)I"⟩
abbrev cX11_tellOf : ByteArray := prog_1_method_43_code
def yX11_tellOf : MethodName := ⟨RX11, "tellOf", "(LLowWater$Row;IIII)I"⟩
abbrev cX11_readerIn : ByteArray := prog_1_method_44_code
def yX11_readerIn : MethodName := ⟨RX11, "readerIn", "(I)I"⟩
abbrev cX11_slateIn : ByteArray := prog_1_method_45_code
def yX11_slateIn : MethodName := ⟨RX11, "slateIn", "(I)I"⟩
abbrev cX11_hoursIn : ByteArray := prog_1_method_46_code
def yX11_hoursIn : MethodName := ⟨RX11, "hoursIn", "(I)I"⟩
abbrev cX11_waitOn : ByteArray := prog_1_method_47_code
def yX11_waitOn : MethodName := ⟨RX11, "waitOn", "(II)I"⟩
abbrev cX11_fillWaited : ByteArray := prog_1_method_48_code
def yX11_fillWaited : MethodName := ⟨RX11, "fillWaited", "()I"⟩
abbrev cX11_waitsIf : ByteArray := prog_1_method_49_code
def yX11_waitsIf : MethodName := ⟨RX11, "waitsIf", "(IIII)I"⟩
abbrev cX11_lowestTerms : ByteArray := prog_1_method_50_code
def yX11_lowestTerms : MethodName := ⟨RX11, "lowestTerms", "(JJI)J"⟩
def RX12 : String := "LowWaterModel"
def TX12 : u_T := fun k => match k with
  | 0 => ("LowWaterModel", "thrown", "I", false)
  | 1 => ("LowWaterModel", "s", "[I", true)
  | 2 => ("LowWaterModel", "image", "[I", true)
  | 3 => ("LowWaterModel", "hasImage", "Z", false)
  | 4 => ("LowWaterModel", "act", "I", false)
  | 5 => ("LowWaterModel", "spot", "I", false)
  | 6 => ("LowWaterModel", "end", "I", false)
  | 7 => ("LowWaterModel", "isWrong", "Z", false)
  | 8 => ("LowWaterModel", "opened", "I", false)
  | 9 => ("LowWaterModel", "by", "[I", true)
  | 10 => ("LowWaterModel", "truths", "[Z", true)
  | 11 => ("LowWaterModel", "swelling", "I", false)
  | 12 => ("LowWaterModel", "waving", "I", false)
  | 13 => ("LowWaterModel", "levels", "[I", true)
  | 14 => ("LowWaterModel", "known", "I", false)
  | 15 => ("LowWaterModel", "soons", "[I", true)
  | 16 => ("LowWaterModel", "row", "[I", true)
  | 17 => ("LowWaterModel", "bestRow", "[I", true)
  | 18 => ("LowWaterModel", "bestEnd", "I", false)
  | 19 => ("LowWaterModel", "bodies", "[I", true)
  | 20 => ("LowWaterModel", "ran", "I", false)
  | 21 => ("LowWaterModel", "kind", "I", false)
  | 22 => ("LowWaterModel", "number", "I", false)
  | _ => ("LowWaterModel", "tellsV", "I", false)
def tyX12 : Nat → FieldType := fun k => match k with
  | 0 => .int
  | 1 => .array .int
  | 2 => .array .int
  | 3 => .boolean
  | 4 => .int
  | 5 => .int
  | 6 => .int
  | 7 => .boolean
  | 8 => .int
  | 9 => .array .int
  | 10 => .array .boolean
  | 11 => .int
  | 12 => .int
  | 13 => .array .int
  | 14 => .int
  | 15 => .array .int
  | 16 => .array .int
  | 17 => .array .int
  | 18 => .int
  | 19 => .array .int
  | 20 => .int
  | 21 => .int
  | 22 => .int
  | _ => .int
abbrev wsX120 : List Cond := u_ws RX12 TX12 24
theorem nmX12 : ∀ a, a < 24 → ∀ b, b < 24 → a ≠ b → (TX12 a).2.1 ≠ (TX12 b).2.1 := by decide +kernel
theorem tyX12_ok : ∀ k, k < 24 → parseFieldDescriptor (TX12 k).2.2.1 = some (tyX12 k) := by decide +kernel
abbrev cX12_init : ByteArray := prog_14_method_1_code
def yX12_init : MethodName := ⟨RX12, "<init>", "()V"⟩
abbrev cX12_in : ByteArray := prog_14_method_3_code
def yX12_in : MethodName := ⟨RX12, "in", "(III)Z"⟩
abbrev cX12_isShelf : ByteArray := prog_14_method_4_code
def yX12_isShelf : MethodName := ⟨RX12, "isShelf", "(I)Z"⟩
abbrev cX12_isSlate : ByteArray := prog_14_method_5_code
def yX12_isSlate : MethodName := ⟨RX12, "isSlate", "(I)Z"⟩
abbrev cX12_isReader : ByteArray := prog_14_method_6_code
def yX12_isReader : MethodName := ⟨RX12, "isReader", "(I)Z"⟩
abbrev cX12_feed : ByteArray := prog_14_method_7_code
def yX12_feed : MethodName := ⟨RX12, "feed", "(I)I"⟩
abbrev cX12_here : ByteArray := prog_14_method_8_code
def yX12_here : MethodName := ⟨RX12, "here", "()I"⟩
abbrev cX12_must : ByteArray := prog_14_method_9_code
def yX12_must : MethodName := ⟨RX12, "must", "(I)V"⟩
abbrev cX12_spells : ByteArray := prog_14_method_10_code
def yX12_spells : MethodName := ⟨RX12, "spells", "(Ljava/lang/String;)V"⟩
abbrev cX12_figures : ByteArray := prog_14_method_11_code
def yX12_figures : MethodName := ⟨RX12, "figures", "()I"⟩
abbrev cX12_among : ByteArray := prog_14_method_12_code
def yX12_among : MethodName := ⟨RX12, "among", "(Ljava/lang/String;)I"⟩
abbrev cX12_emits : ByteArray := prog_14_method_13_code
def yX12_emits : MethodName := ⟨RX12, "emits", "(I)V"⟩
abbrev cX12_factor : ByteArray := prog_14_method_14_code
def yX12_factor : MethodName := ⟨RX12, "factor", "()V"⟩
abbrev cX12_every : ByteArray := prog_14_method_15_code
def yX12_every : MethodName := ⟨RX12, "every", "()V"⟩
abbrev cX12_some : ByteArray := prog_14_method_16_code
def yX12_some : MethodName := ⟨RX12, "some", "()V"⟩
abbrev cX12_much : ByteArray := prog_14_method_17_code
def yX12_much : MethodName := ⟨RX12, "much", "(ILjava/lang/String;)V"⟩
abbrev cX12_clauseHere : ByteArray := prog_14_method_18_code
def yX12_clauseHere : MethodName := ⟨RX12, "clauseHere", "()V"⟩
abbrev cX12_cave : ByteArray := prog_14_method_19_code
def yX12_cave : MethodName := ⟨RX12, "cave", "()I"⟩
abbrev cX12_looks : ByteArray := prog_14_method_20_code
def yX12_looks : MethodName := ⟨RX12, "looks", "(I)V"⟩
abbrev cX12_levelAt : ByteArray := prog_14_method_21_code
def yX12_levelAt : MethodName := ⟨RX12, "levelAt", "(I)I"⟩
abbrev cX12_forgets : ByteArray := prog_14_method_22_code
def yX12_forgets : MethodName := ⟨RX12, "forgets", "()V"⟩
abbrev cX12_levelIn : ByteArray := prog_14_method_23_code
def yX12_levelIn : MethodName := ⟨RX12, "levelIn", "(I)I"⟩
abbrev cX12_slate : ByteArray := prog_14_method_24_code
def yX12_slate : MethodName := ⟨RX12, "slate", "(II)I"⟩
abbrev cX12_of : ByteArray := prog_14_method_25_code
def yX12_of : MethodName := ⟨RX12, "of", "(II)I"⟩
abbrev cX12_put : ByteArray := prog_14_method_26_code
def yX12_put : MethodName := ⟨RX12, "put", "(II)I"⟩
abbrev cX12_reader : ByteArray := prog_14_method_27_code
def yX12_reader : MethodName := ⟨RX12, "reader", "(II)I"⟩
abbrev cX12_at : ByteArray := prog_14_method_28_code
def yX12_at : MethodName := ⟨RX12, "at", "(II)I"⟩
abbrev cX12_needsOf : ByteArray := prog_14_method_29_code
def yX12_needsOf : MethodName := ⟨RX12, "needsOf", "(II)I"⟩
abbrev cX12_needs : ByteArray := prog_14_method_30_code
def yX12_needs : MethodName := ⟨RX12, "needs", "(II)I"⟩
abbrev cX12_hours : ByteArray := prog_14_method_31_code
def yX12_hours : MethodName := ⟨RX12, "hours", "(I)I"⟩
abbrev cX12_told : ByteArray := prog_14_method_32_code
def yX12_told : MethodName := ⟨RX12, "told", "(I)I"⟩
abbrev cX12_level : ByteArray := prog_14_method_33_code
def yX12_level : MethodName := ⟨RX12, "level", "(I)I"⟩
abbrev cX12_isOpen : ByteArray := prog_14_method_34_code
def yX12_isOpen : MethodName := ⟨RX12, "isOpen", "(III)Z"⟩
abbrev cX12_mayBegin : ByteArray := prog_14_method_35_code
def yX12_mayBegin : MethodName := ⟨RX12, "mayBegin", "(II)Z"⟩
abbrev cX12_canRead : ByteArray := prog_14_method_36_code
def yX12_canRead : MethodName := ⟨RX12, "canRead", "(III)Z"⟩
abbrev cX12_soonFrom : ByteArray := prog_14_method_37_code
def yX12_soonFrom : MethodName := ⟨RX12, "soonFrom", "(III)I"⟩
abbrev cX12_orNone : ByteArray := prog_14_method_38_code
def yX12_orNone : MethodName := ⟨RX12, "orNone", "(I)I"⟩
abbrev cX12_soon : ByteArray := prog_14_method_39_code
def yX12_soon : MethodName := ⟨RX12, "soon", "(II)I"⟩
abbrev cX12_forgetsSoons : ByteArray := prog_14_method_40_code
def yX12_forgetsSoons : MethodName := ⟨RX12, "forgetsSoons", "()V"⟩
abbrev cX12_soonKnown : ByteArray := prog_14_method_41_code
def yX12_soonKnown : MethodName := ⟨RX12, "soonKnown", "(III)I"⟩
abbrev cX12_ordersFrom : ByteArray := prog_14_method_42_code
def yX12_ordersFrom : MethodName := ⟨RX12, "ordersFrom", "(IIII)V"⟩
abbrev cX12_endOf : ByteArray := prog_14_method_43_code
def yX12_endOf : MethodName := ⟨RX12, "endOf", "(II)I"⟩
abbrev cX12_isSet : ByteArray := prog_14_method_44_code
def yX12_isSet : MethodName := ⟨RX12, "isSet", "(I)Z"⟩
abbrev cX12_set : ByteArray := prog_14_method_45_code
def yX12_set : MethodName := ⟨RX12, "set", "(III)I"⟩
abbrev cX12_two : ByteArray := prog_14_method_46_code
def yX12_two : MethodName := ⟨RX12, "two", "(IIII)I"⟩
abbrev cX12_ask : ByteArray := prog_14_method_47_code
def yX12_ask : MethodName := ⟨RX12, "ask", "(III)I"⟩
abbrev cX12_waitsAll : ByteArray := prog_14_method_48_code
def yX12_waitsAll : MethodName := ⟨RX12, "waitsAll", "()I"⟩
abbrev cX12_waits : ByteArray := prog_14_method_49_code
def yX12_waits : MethodName := ⟨RX12, "waits", "()I"⟩
abbrev cX12_shelve : ByteArray := prog_14_method_50_code
def yX12_shelve : MethodName := ⟨RX12, "shelve", "(II)I"⟩
abbrev cX12_changes : ByteArray := prog_14_method_51_code
def yX12_changes : MethodName := ⟨RX12, "changes", "(II)V"⟩
abbrev cX12_change : ByteArray := prog_14_method_52_code
def yX12_change : MethodName := ⟨RX12, "change", "()I"⟩
abbrev cX12_force : ByteArray := prog_14_method_53_code
def yX12_force : MethodName := ⟨RX12, "force", "(I)I"⟩
abbrev cX12_open : ByteArray := prog_14_method_54_code
def yX12_open : MethodName := ⟨RX12, "open", "(III)I"⟩
abbrev cX12_next : ByteArray := prog_14_method_55_code
def yX12_next : MethodName := ⟨RX12, "next", "(I)I"⟩
abbrev cX12_lowest : ByteArray := prog_14_method_56_code
def yX12_lowest : MethodName := ⟨RX12, "lowest", "(JJI)J"⟩
abbrev cX12_safe : ByteArray := prog_14_method_57_code
def yX12_safe : MethodName := ⟨RX12, "safe", "(III)J"⟩
abbrev cX12_mean : ByteArray := prog_14_method_58_code
def yX12_mean : MethodName := ⟨RX12, "mean", "(II)J"⟩
abbrev cX12_see : ByteArray := prog_14_method_59_code
def yX12_see : MethodName := ⟨RX12, "see", "(IZ)I"⟩
abbrev cX12_stood : ByteArray := prog_14_method_60_code
def yX12_stood : MethodName := ⟨RX12, "stood", "()I"⟩
abbrev cX12_tale : ByteArray := prog_14_method_61_code
def yX12_tale : MethodName := ⟨RX12, "tale", "(III)I"⟩
abbrev cX12_looked : ByteArray := prog_14_method_62_code
def yX12_looked : MethodName := ⟨RX12, "looked", "()I"⟩
abbrev cX12_ranBody : ByteArray := prog_14_method_63_code
def yX12_ranBody : MethodName := ⟨RX12, "ranBody", "(I)V"⟩
abbrev cX12_isUnder : ByteArray := prog_14_method_64_code
def yX12_isUnder : MethodName := ⟨RX12, "isUnder", "(II)Z"⟩
abbrev cX12_plainReads : ByteArray := prog_14_method_65_code
def yX12_plainReads : MethodName := ⟨RX12, "plainReads", "(I)I"⟩
abbrev cX12_readsActs : ByteArray := prog_14_method_66_code
def yX12_readsActs : MethodName := ⟨RX12, "readsActs", "(I)I"⟩
abbrev cX12_plainWaits : ByteArray := prog_14_method_67_code
def yX12_plainWaits : MethodName := ⟨RX12, "plainWaits", "(I)I"⟩
abbrev cX12_waitsActs : ByteArray := prog_14_method_68_code
def yX12_waitsActs : MethodName := ⟨RX12, "waitsActs", "(I)I"⟩
abbrev cX12_plainTells : ByteArray := prog_14_method_69_code
def yX12_plainTells : MethodName := ⟨RX12, "plainTells", "(I)I"⟩
abbrev cX12_tellsActs : ByteArray := prog_14_method_70_code
def yX12_tellsActs : MethodName := ⟨RX12, "tellsActs", "(I)I"⟩
abbrev cX12_act : ByteArray := prog_14_method_71_code
def yX12_act : MethodName := ⟨RX12, "act", "(III)I"⟩
abbrev cX12_trace : ByteArray := prog_14_method_72_code
def yX12_trace : MethodName := ⟨RX12, "trace", "(I)I"⟩
abbrev cX12_as : ByteArray := prog_14_method_73_code
def yX12_as : MethodName := ⟨RX12, "as", "(II)I"⟩
abbrev cX12_image : ByteArray := prog_14_method_74_code
def yX12_image : MethodName := ⟨RX12, "image", "()I"⟩
abbrev cX12_undo : ByteArray := prog_14_method_75_code
def yX12_undo : MethodName := ⟨RX12, "undo", "()I"⟩
abbrev cX12_count : ByteArray := prog_14_method_76_code
def yX12_count : MethodName := ⟨RX12, "count", "(I)I"⟩
def RJ6 : String := "java/lang/Integer"
def TJ6 : u_T := fun k => match k with
  | _ => ("", "", "", false)
def tyJ6 : Nat → FieldType := fun k => match k with
  | _ => .int
abbrev wsJ60 : List Cond := u_ws RJ6 TJ6 0
theorem nmJ6 : ∀ a, a < 0 → ∀ b, b < 0 → a ≠ b → (TJ6 a).2.1 ≠ (TJ6 b).2.1 := by decide +kernel
theorem tyJ6_ok : ∀ k, k < 0 → parseFieldDescriptor (TJ6 k).2.2.1 = some (tyJ6 k) := by decide +kernel
abbrev cJ6_compare_7cf53 : ByteArray := prog_15_method_40_code
def yJ6_compare_7cf53 : MethodName := ⟨RJ6, "compare", "(II)I"⟩
abbrev cJ6_bitCount_0f7a4 : ByteArray := prog_15_method_49_code
def yJ6_bitCount_0f7a4 : MethodName := ⟨RJ6, "bitCount", "(I)I"⟩
def RJ9 : String := "java/lang/Math"
def TJ9 : u_T := fun k => match k with
  | _ => ("", "", "", false)
def tyJ9 : Nat → FieldType := fun k => match k with
  | _ => .int
abbrev wsJ90 : List Cond := u_ws RJ9 TJ9 0
theorem nmJ9 : ∀ a, a < 0 → ∀ b, b < 0 → a ≠ b → (TJ9 a).2.1 ≠ (TJ9 b).2.1 := by decide +kernel
theorem tyJ9_ok : ∀ k, k < 0 → parseFieldDescriptor (TJ9 k).2.2.1 = some (tyJ9 k) := by decide +kernel
abbrev cJ9_floorMod_7cf53 : ByteArray := prog_16_method_50_code
def yJ9_floorMod_7cf53 : MethodName := ⟨RJ9, "floorMod", "(II)I"⟩
abbrev cJ9_abs_0f7a4 : ByteArray := prog_16_method_59_code
def yJ9_abs_0f7a4 : MethodName := ⟨RJ9, "abs", "(I)I"⟩
abbrev cJ9_max_7cf53 : ByteArray := prog_16_method_65_code
def yJ9_max_7cf53 : MethodName := ⟨RJ9, "max", "(II)I"⟩
abbrev cJ9_min_7cf53 : ByteArray := prog_16_method_69_code
def yJ9_min_7cf53 : MethodName := ⟨RJ9, "min", "(II)I"⟩
def RJ0 : String := "java/lang/String"
def TJ0 : u_T := fun k => match k with
  | _ => ("", "", "", false)
def tyJ0 : Nat → FieldType := fun k => match k with
  | _ => .int
abbrev wsJ00 : List Cond := u_ws RJ0 TJ0 0
theorem nmJ0 : ∀ a, a < 0 → ∀ b, b < 0 → a ≠ b → (TJ0 a).2.1 ≠ (TJ0 b).2.1 := by decide +kernel
theorem tyJ0_ok : ∀ k, k < 0 → parseFieldDescriptor (TJ0 k).2.2.1 = some (tyJ0 k) := by decide +kernel
abbrev cJ0_length_8abf5 : ByteArray := prog_17_method_54_code
def yJ0_length_8abf5 : MethodName := ⟨RJ0, "length", "()I"⟩
abbrev cJ0_charAt_5068e : ByteArray := prog_17_method_56_code
def yJ0_charAt_5068e : MethodName := ⟨RJ0, "charAt", "(I)C"⟩
abbrev cJ0_coder_7d493 : ByteArray := prog_17_method_152_code
def yJ0_coder_7d493 : MethodName := ⟨RJ0, "coder", "()B"⟩
abbrev cJ0_isLatin1_aae02 : ByteArray := prog_17_method_154_code
def yJ0_isLatin1_aae02 : MethodName := ⟨RJ0, "isLatin1", "()Z"⟩
abbrev cJ0_checkIndex_df160 : ByteArray := prog_17_method_155_code
def yJ0_checkIndex_df160 : MethodName := ⟨RJ0, "checkIndex", "(II)V"⟩
def RJ1 : String := "java/lang/StringLatin1"
def TJ1 : u_T := fun k => match k with
  | _ => ("", "", "", false)
def tyJ1 : Nat → FieldType := fun k => match k with
  | _ => .int
abbrev wsJ10 : List Cond := u_ws RJ1 TJ1 0
theorem nmJ1 : ∀ a, a < 0 → ∀ b, b < 0 → a ≠ b → (TJ1 a).2.1 ≠ (TJ1 b).2.1 := by decide +kernel
theorem tyJ1_ok : ∀ k, k < 0 → parseFieldDescriptor (TJ1 k).2.2.1 = some (tyJ1 k) := by decide +kernel
abbrev cJ1_charAt_3b067 : ByteArray := prog_18_method_2_code
def yJ1_charAt_3b067 : MethodName := ⟨RJ1, "charAt", "([BI)C"⟩
def RJ2 : String := "java/lang/StringUTF16"
def TJ2 : u_T := fun k => match k with
  | _ => ("", "", "", false)
def tyJ2 : Nat → FieldType := fun k => match k with
  | _ => .int
abbrev wsJ20 : List Cond := u_ws RJ2 TJ2 0
theorem nmJ2 : ∀ a, a < 0 → ∀ b, b < 0 → a ≠ b → (TJ2 a).2.1 ≠ (TJ2 b).2.1 := by decide +kernel
theorem tyJ2_ok : ∀ k, k < 0 → parseFieldDescriptor (TJ2 k).2.2.1 = some (tyJ2 k) := by decide +kernel
abbrev cJ2_getChar_3b067 : ByteArray := prog_19_method_5_code
def yJ2_getChar_3b067 : MethodName := ⟨RJ2, "getChar", "([BI)C"⟩
abbrev cJ2_length_9d52b : ByteArray := prog_19_method_6_code
def yJ2_length_9d52b : MethodName := ⟨RJ2, "length", "([B)I"⟩
abbrev cJ2_charAt_3b067 : ByteArray := prog_19_method_83_code
def yJ2_charAt_3b067 : MethodName := ⟨RJ2, "charAt", "([BI)C"⟩
abbrev cJ2_checkIndex_2214a : ByteArray := prog_19_method_91_code
def yJ2_checkIndex_2214a : MethodName := ⟨RJ2, "checkIndex", "(I[B)V"⟩
def RJ10 : String := "java/lang/System"
def TJ10 : u_T := fun k => match k with
  | _ => ("", "", "", false)
def tyJ10 : Nat → FieldType := fun k => match k with
  | _ => .int
abbrev wsJ100 : List Cond := u_ws RJ10 TJ10 0
theorem nmJ10 : ∀ a, a < 0 → ∀ b, b < 0 → a ≠ b → (TJ10 a).2.1 ≠ (TJ10 b).2.1 := by decide +kernel
theorem tyJ10_ok : ∀ k, k < 0 → parseFieldDescriptor (TJ10 k).2.2.1 = some (tyJ10 k) := by decide +kernel
def RJ7 : String := "java/util/Arrays"
def TJ7 : u_T := fun k => match k with
  | _ => ("", "", "", false)
def tyJ7 : Nat → FieldType := fun k => match k with
  | _ => .int
abbrev wsJ70 : List Cond := u_ws RJ7 TJ7 0
theorem nmJ7 : ∀ a, a < 0 → ∀ b, b < 0 → a ≠ b → (TJ7 a).2.1 ≠ (TJ7 b).2.1 := by decide +kernel
theorem tyJ7_ok : ∀ k, k < 0 → parseFieldDescriptor (TJ7 k).2.2.1 = some (tyJ7 k) := by decide +kernel
abbrev cJ7_fill_53178 : ByteArray := prog_21_method_103_code
def yJ7_fill_53178 : MethodName := ⟨RJ7, "fill", "([II)V"⟩
def RJ3 : String := "jdk/internal/util/Preconditions"
def TJ3 : u_T := fun k => match k with
  | _ => ("", "", "", false)
def tyJ3 : Nat → FieldType := fun k => match k with
  | _ => .int
abbrev wsJ30 : List Cond := u_ws RJ3 TJ3 0
theorem nmJ3 : ∀ a, a < 0 → ∀ b, b < 0 → a ≠ b → (TJ3 a).2.1 ≠ (TJ3 b).2.1 := by decide +kernel
theorem tyJ3_ok : ∀ k, k < 0 → parseFieldDescriptor (TJ3 k).2.2.1 = some (tyJ3 k) := by decide +kernel
abbrev cJ3_checkIndex_8e157 : ByteArray := prog_22_method_11_code
def yJ3_checkIndex_8e157 : MethodName := ⟨RJ3, "checkIndex", "(IILjava/util/function/BiFunction;)I"⟩
def RL : String := "LowWaterLaw"
abbrev cL_law : ByteArray := code
def yL_law : MethodName := ⟨RL, "law", "([I)Z"⟩
abbrev vwCl : List vw_C := [(RX0, TX0, 2), (RX1, TX1, 6), (RX2, TX2, 2), (RX3, TX3, 2), (RX4, TX4, 8), (RX5, TX5, 2), (RX6, TX6, 2), (RX7, TX7, 2), (RX8, TX8, 2), (RX9, TX9, 11), (RX10, TX10, 2), (RX11, TX11, 8), (RX12, TX12, 24)]
/-- the words that keep, of all the tables' words -/
def zT : List Cond := lw_tbl.filter goodWord
theorem zT_all : zT.all goodWord = true := by
  unfold zT
  exact List.all_eq_true.mpr fun w h => (List.mem_filter.mp h).2
theorem zT_good {w : Cond} (h : w ∈ zT) : (w.onTables && w.keeps) = true ∨ ∃ ty, w = .arrayClass ty := good_of_word (List.all_eq_true.mp zT_all w h)
theorem zT_t {w : Cond} {i : Nat} (h : tables_1[i]? = some w) (hg : goodWord w = true) : w ∈ zT :=
  List.mem_filter.mpr ⟨List.mem_append_right _ (List.mem_of_getElem? h), hg⟩
theorem zT_s {w : Cond} {i : Nat} (h : (k2_sels lw_privs)[i]? = some w) (hg : goodWord w = true) : w ∈ zT :=
  List.mem_filter.mpr ⟨List.mem_append_left _ (List.mem_of_getElem? h), hg⟩
end
section
/-! my own logic over the kit's: an abstract heap (next address, cells), a method's run as AW, a method's promise as Sp -/
abbrev Hp : Type := Nat × (Nat → Option va_E)
def hp_up (h : Hp) (a : Nat) (e : va_E) : Hp := (h.1, fun j => if j = a then some e else h.2 j)
def hp_new (h : Hp) (e : va_E) : Hp := (h.1 + 1, fun j => if j = h.1 then some e else h.2 j)
/-- what stays the same through the whole run: classes and slots, the heap below, the array classes, the String constants -/
abbrev zG : Type := va_G × Heap × (ClassId × ClassId × ClassId) × (Nat → Nat) × (Nat → Nat)
def zb (g : zG) : Nat := g.2.1.size
def zR (g : zG) (h : Hp) (H : Heap) : Prop := H.size = h.1 ∧ zb g ≤ h.1 ∧ (∀ q, q < zb g → H[q]? = g.2.1[q]?) ∧ ∀ a e, h.2 a = some e → zb g ≤ a ∧ va_at g.1 vwCl (a, e) H
def zNF : List (String × Nat × String × String × String × String) := [("LowWater$Cave", 118, "LowWater$Row", "items", "[I", "LowWater"), ("LowWater", 66, "LowWater$Row", "size", "I", "LowWater"), ("LowWater$Cave", 73, "LowWater$Row", "size", "I", "LowWater"), ("LowWater$Orders", 86, "LowWater$State", "hour", "I", "LowWater"), ("LowWater", 137, "LowWater$State", "hour", "I", "LowWater"), ("LowWater", 70, "LowWater$State", "caves", "I", "LowWater"), ("LowWater", 107, "LowWater$State", "readerCount", "I", "LowWater"), ("LowWater", 80, "LowWater$State", "cave", "LLowWater$Cave;", "LowWater"), ("LowWater$Orders", 79, "LowWater$State", "cave", "LLowWater$Cave;", "LowWater"), ("LowWater", 110, "LowWater$State", "readers", "[LLowWater$Reader;", "LowWater"), ("LowWater", 55, "LowWater$State", "tape", "LLowWater$Row;", "LowWater"), ("LowWater", 87, "LowWater$State", "shelves", "LLowWater$Row;", "LowWater"), ("LowWater$Orders", 83, "LowWater$State", "shelves", "LLowWater$Row;", "LowWater"), ("LowWater", 90, "LowWater$State", "lines", "LLowWater$Row;", "LowWater"), ("LowWater$Orders", 68, "LowWater$State", "lines", "LLowWater$Row;", "LowWater"), ("LowWater", 171, "LowWater$State", "asks", "LLowWater$Row;", "LowWater"), ("LowWater", 198, "LowWater$State", "seen", "LLowWater$Row;", "LowWater"), ("LowWater", 204, "LowWater$State", "tales", "LLowWater$Row;", "LowWater")]
def zNM : List (String × Nat × MethodName × String) := [("LowWater", 11, ⟨"LowWater$State", "<init>", "()V"⟩, "LowWater"), ("LowWater$State", 23, ⟨"LowWater$Cave", "<init>", "()V"⟩, "LowWater"), ("LowWater", 27, ⟨"LowWater$Cave", "<init>", "()V"⟩, "LowWater"), ("LowWater", 43, ⟨"LowWater$Orders", "<init>", "()V"⟩, "LowWater"), ("LowWater", 157, ⟨"LowWater$Orders", "goOn", "(III)V"⟩, "LowWater")]
def zN (U : State) : Prop := (∀ q ∈ zNF, va_Nw (.fieldLinkNest q.1 q.2.1 q.2.2.1 q.2.2.2.1 q.2.2.2.2.1 q.2.2.2.2.2) U) ∧ ∀ q ∈ zNM, va_Nw (.methodLinkNest q.1 q.2.1 q.2.2.1 q.2.2.2) U
def zLen : List Nat := [6, 4, 5, 3, 3]
def zByt : List (List Int32) := [[115, 119, 101, 108, 108, 32], [101, 98, 98, 32], [119, 97, 118, 101, 32], [104, 100, 109], [60, 61, 62]]
def zSR : List (String × Nat × String × Nat) := [("LowWater$Cave", 84, "swell ", 0), ("LowWater$Cave", 86, "ebb ", 1), ("LowWater$Cave", 88, "wave ", 2), ("LowWaterModel", 108, "swell ", 0), ("LowWaterModel", 114, "ebb ", 1), ("LowWaterModel", 116, "wave ", 2), ("LowWaterModel", 90, "hdm", 3), ("LowWaterModel", 96, "<=>", 4)]
def zStr (g : zG) (U : State) : Prop := vk_S 5 zLen zByt g.2.2.2.1 g.2.2.2.2 (fun q => zb g ≤ q) U g.2.1 ∧ (∀ q ∈ zSR, vk_R q.1 q.2.1 q.2.2.1 (g.2.2.2.1 q.2.2.2) U) ∧ va_Z "java/lang/String" "COMPACT_STRINGS" "Z" (.int 1) (fun q => zb g ≤ q) U g.2.1 ∧ va_Zq "jdk/internal/util/Preconditions" "SIOOBE_FORMATTER" "Ljava/util/function/BiFunction;" (fun q => zb g ≤ q) U g.2.1
def zK (g : zG) (U : State) : Prop := va_K g.1 vwCl [(g.2.2.1.1, .int), (g.2.2.1.2.1, .boolean), (g.2.2.1.2.2, .object "LowWater$Reader")] U ∧ zN U ∧ zStr g U ∧ va_AO "LowWater$Reader" U
theorem zK.same {g : zG} {u U : State} (hv : u.vm = U.vm) (h : zK g u) : zK g U := by
  obtain ⟨h1, ⟨h2, h3⟩, ⟨h4, h5, h6, h7⟩, h8⟩ := h
  have ha : u.vm.Alike U.vm := by rw [hv]; exact Vm.Alike.refl _
  exact ⟨h1.moved ha, ⟨fun q hq => (h2 q hq).same rfl hv, fun q hq => (h3 q hq).same rfl hv⟩, ⟨h4.moved ha, fun q hq => vk_R.same hv.symm (h5 q hq), h6.moved ha, h7.moved ha⟩, h8.moved ha⟩
theorem zK.warm {g : zG} {s U : State} (hW : s.WarmedH U.vm) (h : zK g s) : zK g U := by
  obtain ⟨h1, ⟨h2, h3⟩, ⟨h4, h5, h6, h7⟩, h8⟩ := h
  have ha : s.vm.Alike U.vm := hW.alike
  exact ⟨h1.moved ha, ⟨fun q hq => va_Nw.warmF hW (h2 q hq), fun q hq => va_Nw.warmM hW (h3 q hq)⟩, ⟨h4.moved ha, fun q hq => vk_R.warm hW (h5 q hq), h6.moved ha, h7.moved ha⟩, h8.moved ha⟩
abbrev zX : Type := (Program × Launch × Env) × (State × MethodId × Array Value) × (List Frame × Method × Code) × zG × Room
abbrev zXg (X : zX) : zG := X.2.2.2.1
abbrev zXr (X : zX) : Room := X.2.2.2.2
def zB (X : zX) (cc : ByteArray) (nL : Nat) (own nm : String) (ret : Option FieldType) : Prop :=
  X.1.1.tables.exec = Jvm.exec ∧ X.2.2.1.2.2.code = cc ∧ X.2.2.1.2.2.maxLocals = nL ∧ X.2.1.1.vm.findClass own = some X.2.1.2.1.cls ∧ (∀ w ∈ zT, w.before X.2.1.2.2 X.2.1.1 = true) ∧ zK (zXg X) X.2.1.1 ∧ X.2.2.1.2.1.sig.returnType = ret ∧ X.2.2.1.2.1.locks = false ∧ X.2.2.1.2.1.name = nm
/-- locals: by their places, none where nothing is said -/
def zA : Nat → List (Option Value) → List (Nat × Value)
  | _, [] => []
  | i, none :: t => zA (i + 1) t
  | i, some v :: t => (i, v) :: zA (i + 1) t
theorem zA_mem {lv : List (Option Value)} : ∀ {i : Nat} {q : Nat × Value}, q ∈ zA i lv ↔ i ≤ q.1 ∧ lv[q.1 - i]? = some (some q.2) := by
  induction lv with
  | nil => intro i q; simp [zA]
  | cons x t ih =>
    intro i q
    have hs : ∀ (y : Option Value), (i ≤ q.1 ∧ (y :: t)[q.1 - i]? = some (some q.2)) ↔ ((q.1 = i ∧ y = some q.2) ∨ (i + 1 ≤ q.1 ∧ t[q.1 - (i + 1)]? = some (some q.2))) := by
      intro y
      constructor
      · rintro ⟨h1, h2⟩
        rcases Nat.eq_or_lt_of_le h1 with h | h
        · left
          rw [← h] at h2
          simp at h2
          exact ⟨h.symm, h2⟩
        · right
          refine ⟨h, ?_⟩
          rw [show q.1 - i = (q.1 - (i + 1)) + 1 by omega] at h2
          simpa using h2
      · rintro (⟨h1, h2⟩ | ⟨h1, h2⟩)
        · refine ⟨by omega, ?_⟩
          rw [h1, Nat.sub_self]
          simp [h2]
        · refine ⟨by omega, ?_⟩
          rw [show q.1 - i = (q.1 - (i + 1)) + 1 by omega]
          simpa using h2
    rw [hs x]
    cases x with
    | none =>
      rw [show zA i (none :: t) = zA (i + 1) t from rfl, ih]
      simp
    | some v =>
      rw [show zA i (some v :: t) = (i, v) :: zA (i + 1) t from rfl, List.mem_cons, ih]
      constructor
      · rintro (h | h)
        · exact Or.inl ⟨by rw [h], by rw [h]⟩
        · exact Or.inr h
      · rintro (⟨h1, h2⟩ | h)
        · left
          cases h2
          rw [← h1]
        · exact Or.inr h
def zL (ls : Array Slot) (nL : Nat) (lv : List (Option Value)) : Prop := lv.length = nL ∧ lv_has ls nL (zA 0 lv)
theorem zL.at {ls : Array Slot} {nL : Nat} {lv : List (Option Value)} (h : zL ls nL lv) {k : Nat} {v : Value} (hk : lv[k]? = some (some v)) : ls[k]? = some (.val v) :=
  h.2.2.2 (k, v) (zA_mem.mpr ⟨Nat.zero_le _, by simpa using hk⟩)
theorem zL.size {ls : Array Slot} {nL : Nat} {lv : List (Option Value)} (h : zL ls nL lv) : ls.size = nL := h.2.1
/-- is the place ahead of k no long's first half -/
def zok (lv : List (Option Value)) : Nat → Bool
  | 0 => true
  | k + 1 => match lv[k]? with
    | some (some v) => v.category == 1
    | _ => true
theorem zL.set1 {ls ls' : Array Slot} {nL k : Nat} {v : Value} {lv : List (Option Value)} (h : zL ls nL lv) (hn : k < nL) (hz : zok lv k = true)
    (h' : lv_has ls' nL ((k, v) :: (zA 0 lv).filter (fun q => !(q.1 == k) && !(q.1 + 1 == k && q.2.category == 2)))) : zL ls' nL (lv.set k (some v)) := by
  refine ⟨by rw [List.length_set]; exact h.1, h'.1, h'.2.1, fun q hq => h'.2.2 q ?_⟩
  obtain ⟨-, h2⟩ := zA_mem.mp hq
  rw [Nat.sub_zero] at h2
  by_cases hk : q.1 = k
  · rw [hk, List.getElem?_set_self (by rw [h.1]; exact hn)] at h2
    have : q = (k, v) := by
      cases q; simp at hk h2; rw [hk, h2]
    rw [this]
    exact List.mem_cons_self
  · rw [List.getElem?_set_ne (Ne.symm hk)] at h2
    refine List.mem_cons_of_mem _ (List.mem_filter.mpr ⟨zA_mem.mpr ⟨Nat.zero_le _, by simpa using h2⟩, ?_⟩)
    simp only [Bool.and_eq_true, Bool.not_eq_true', beq_eq_false_iff_ne, ne_eq, Bool.and_eq_false_iff]
    refine ⟨hk, ?_⟩
    by_cases h3 : q.1 + 1 = k
    · right
      subst h3
      simp only [zok, h2] at hz
      have := beq_iff_eq.mp hz
      omega
    · exact Or.inl h3
theorem zL.set2 {ls ls' : Array Slot} {nL k : Nat} {v : Value} {lv : List (Option Value)} (h : zL ls nL lv) (hn : k + 1 < nL) (hz : zok lv k = true)
    (h' : lv_has ls' nL ((k, v) :: (zA 0 lv).filter (fun q => !(q.1 == k) && (!(q.1 == k + 1) && !(q.1 + 1 == k && q.2.category == 2))))) : zL ls' nL ((lv.set k (some v)).set (k + 1) none) := by
  refine ⟨by rw [List.length_set, List.length_set]; exact h.1, h'.1, h'.2.1, fun q hq => h'.2.2 q ?_⟩
  obtain ⟨-, h2⟩ := zA_mem.mp hq
  rw [Nat.sub_zero] at h2
  have hk1 : ¬ q.1 = k + 1 := by
    intro e
    rw [e, List.getElem?_set_self (by rw [List.length_set, h.1]; exact hn)] at h2
    cases h2
  rw [List.getElem?_set_ne (Ne.symm hk1)] at h2
  by_cases hk : q.1 = k
  · rw [hk, List.getElem?_set_self (by rw [h.1]; omega)] at h2
    have : q = (k, v) := by
      cases q; simp at hk h2; rw [hk, h2]
    rw [this]
    exact List.mem_cons_self
  · rw [List.getElem?_set_ne (Ne.symm hk)] at h2
    refine List.mem_cons_of_mem _ (List.mem_filter.mpr ⟨zA_mem.mpr ⟨Nat.zero_le _, by simpa using h2⟩, ?_⟩)
    simp only [Bool.and_eq_true, Bool.not_eq_true', beq_eq_false_iff_ne, ne_eq, Bool.and_eq_false_iff]
    refine ⟨hk, hk1, ?_⟩
    by_cases h3 : q.1 + 1 = k
    · right
      subst h3
      simp only [zok, h2] at hz
      have := beq_iff_eq.mp hz
      omega
    · exact Or.inl h3
def zQ (g : zG) (Ko : Option Value → Hp → Prop) : Array Value → State → Outcome → State → Prop := fun _ _ o t => ∃ (v : Option Value) (h' : Hp), o = .returned v ∧ Ko v h' ∧ zR g h' t.heap
def zW (X : zX) (H : Heap) (locs : List Loc) (cells slots : Nat) (Ko : Option Value → Hp → Prop) (k n : Nat) (f : JFrame) : Prop :=
  W X.1.1 X.1.2.1 X.1.2.2 X.2.2.2.2 X.2.1.1 X.2.1.2.1 X.2.1.2.2 X.2.2.1.1 X.2.2.1.2.1 X.2.2.1.2.2 H locs cells slots (MQ X.2.2.1.1 (zQ X.2.2.2.1 Ko) X.2.1.2.2 X.2.1.1 k n (fun q => zb X.2.2.2.1 ≤ q)) f
/-- from pc on, with these locals, stack and heap, and rc cells, rs slots still to be made: the method comes to its end with Ko -/
def AW (X : zX) (rc rs pc : Nat) (lv : List (Option Value)) (st : List Value) (h : Hp) (Ko : Option Value → Hp → Prop) : Prop :=
  ∀ (H : Heap) (locs : List Loc) (ls : Array Slot) (cells slots : Nat), zR X.2.2.2.1 h H → (∀ q ∈ locs, zb X.2.2.2.1 ≤ q.base) → zL ls X.2.2.1.2.2.maxLocals lv → cells + rc ≤ X.2.2.2.2.cells → slots + rs ≤ X.2.2.2.2.slots →
    zW X H locs cells slots Ko X.2.2.2.2.cells X.2.2.2.2.slots (F0 X.2.1.2.1 pc ls st)
def Sp (l : Launch) (g : zG) (y : MethodName) (cc : ByteArray) (maxL : Nat) (ret : Option FieldType) (rm : Room) (av : List Value) (h : Hp) (Ko : Option Value → Hp → Prop) : Prop :=
  Met l y (Cond.code y cc maxL ret :: zT) rm (va_Pc av (fun U => zR g h U.heap ∧ zK g U)) (zQ g Ko) rm.cells rm.slots (fun q => zb g ≤ q)
theorem Sp.of {l : Launch} {g : zG} {y : MethodName} {cc : ByteArray} {maxL : Nat} {ret : Option FieldType} {rm : Room} {av : List Value} {h : Hp} {Ko : Option Value → Hp → Prop} (lv : List (Option Value)) (hy : plainName y.cls = true) (hlen : (lg_sl av).length ≤ maxL) (hlv : zA 0 lv = lv_args 0 av) (hl : lv.length = maxL)
    (body : ∀ X : zX, zXg X = g → zXr X = rm → X.1.2.1 = l → zB X cc maxL y.cls y.name ret → AW X rm.cells rm.slots 0 lv [] h Ko) : Sp l g y cc maxL ret rm av h Ko := by
  unfold Sp
  refine Met.ofW (cc := cc) (maxL := maxL) (ret := ret) hy rfl ?_
  intro p e s m args below meth c s₁ B hml hv
  obtain ⟨rfl, hR, hK⟩ := hv
  have hts := atoms_spec (ws := Cond.code y cc maxL ret :: zT) B.pre
  have hb := body ((p, l, e), (s, m, av.toArray), (below, meth, c), g, rm) rfl rfl rfl
    ⟨B.exec, B.bytes, hml, findClass_of_methodNamed B.named, fun w hw => hts w (List.mem_cons_of_mem _ hw), hK, B.returns, B.notSynchronized, (name_of_methodNamed B.named B.method).1⟩
  rw [lg_entry_eq]
  have he := lv_entry av (n := maxL) hlen
  exact hb s.heap [] _ 0 0 hR (fun _ h => by cases h) ⟨hl.trans hml.symm, by rw [hlv]; show lv_has _ c.maxLocals _; rw [hml]; exact he⟩ (by show 0 + rm.cells ≤ rm.cells; omega) (by show 0 + rm.slots ≤ rm.slots; omega)
theorem zPc_blind {g : zG} {h : Hp} {av : List Value} : FrameBlind (va_Pc av (fun U => zR g h U.heap ∧ zK g U)) := fun _ U g' mk q => ⟨q.1, q.2.1, zK.same (u := U) rfl q.2.2⟩
end
section
section ZRULES
/-! one rule an instruction, over AW -/
variable {X : zX} {cc : ByteArray} {nL : Nat} {own nm : String} {ret : Option FieldType} {rc rs pc : Nat} {lv : List (Option Value)} {st : List Value} {h : Hp} {Ko : Option Value → Hp → Prop}
theorem aw_iadd (B : zB X cc nL own nm ret) {x y : Int32} (hd : decode cc pc = .ok (.iadd, 1)) (k : AW X rc rs (pc + 1) lv (.int (x + y) :: st) h Ko) : AW X rc rs pc lv (.int y :: .int x :: st) h Ko := fun H locs ls cells slots a1 a2 a3 a4 a5 => lv_iadd B.1 B.2.1 hd (k H locs ls cells slots a1 a2 a3 a4 a5)
theorem aw_isub (B : zB X cc nL own nm ret) {x y : Int32} (hd : decode cc pc = .ok (.isub, 1)) (k : AW X rc rs (pc + 1) lv (.int (x - y) :: st) h Ko) : AW X rc rs pc lv (.int y :: .int x :: st) h Ko := fun H locs ls cells slots a1 a2 a3 a4 a5 => lv_isub B.1 B.2.1 hd (k H locs ls cells slots a1 a2 a3 a4 a5)
theorem aw_imul (B : zB X cc nL own nm ret) {x y : Int32} (hd : decode cc pc = .ok (.imul, 1)) (k : AW X rc rs (pc + 1) lv (.int (x * y) :: st) h Ko) : AW X rc rs pc lv (.int y :: .int x :: st) h Ko := fun H locs ls cells slots a1 a2 a3 a4 a5 => lv_imul B.1 B.2.1 hd (k H locs ls cells slots a1 a2 a3 a4 a5)
theorem aw_iand (B : zB X cc nL own nm ret) {x y : Int32} (hd : decode cc pc = .ok (.iand, 1)) (k : AW X rc rs (pc + 1) lv (.int (x &&& y) :: st) h Ko) : AW X rc rs pc lv (.int y :: .int x :: st) h Ko := fun H locs ls cells slots a1 a2 a3 a4 a5 => lv_iand B.1 B.2.1 hd (k H locs ls cells slots a1 a2 a3 a4 a5)
theorem aw_ior (B : zB X cc nL own nm ret) {x y : Int32} (hd : decode cc pc = .ok (.ior, 1)) (k : AW X rc rs (pc + 1) lv (.int (x ||| y) :: st) h Ko) : AW X rc rs pc lv (.int y :: .int x :: st) h Ko := fun H locs ls cells slots a1 a2 a3 a4 a5 => lv_ior B.1 B.2.1 hd (k H locs ls cells slots a1 a2 a3 a4 a5)
theorem aw_ixor (B : zB X cc nL own nm ret) {x y : Int32} (hd : decode cc pc = .ok (.ixor, 1)) (k : AW X rc rs (pc + 1) lv (.int (x ^^^ y) :: st) h Ko) : AW X rc rs pc lv (.int y :: .int x :: st) h Ko := fun H locs ls cells slots a1 a2 a3 a4 a5 => lv_ixor B.1 B.2.1 hd (k H locs ls cells slots a1 a2 a3 a4 a5)
theorem aw_ishl (B : zB X cc nL own nm ret) {x y : Int32} (hd : decode cc pc = .ok (.ishl, 1)) (k : AW X rc rs (pc + 1) lv (.int (x <<< (y &&& 31)) :: st) h Ko) : AW X rc rs pc lv (.int y :: .int x :: st) h Ko := fun H locs ls cells slots a1 a2 a3 a4 a5 => lv_ishl B.1 B.2.1 hd (k H locs ls cells slots a1 a2 a3 a4 a5)
theorem aw_ishr (B : zB X cc nL own nm ret) {x y : Int32} (hd : decode cc pc = .ok (.ishr, 1)) (k : AW X rc rs (pc + 1) lv (.int (x >>> (y &&& 31)) :: st) h Ko) : AW X rc rs pc lv (.int y :: .int x :: st) h Ko := fun H locs ls cells slots a1 a2 a3 a4 a5 => lv_ishr B.1 B.2.1 hd (k H locs ls cells slots a1 a2 a3 a4 a5)
theorem aw_idiv (B : zB X cc nL own nm ret) {x y : Int32} (hne : ¬ y = 0) (hd : decode cc pc = .ok (.idiv, 1)) (k : AW X rc rs (pc + 1) lv (.int (x / y) :: st) h Ko) : AW X rc rs pc lv (.int y :: .int x :: st) h Ko := fun H locs ls cells slots a1 a2 a3 a4 a5 => lv_idiv B.1 B.2.1 hd hne (k H locs ls cells slots a1 a2 a3 a4 a5)
theorem aw_irem (B : zB X cc nL own nm ret) {x y : Int32} (hne : ¬ y = 0) (hd : decode cc pc = .ok (.irem, 1)) (k : AW X rc rs (pc + 1) lv (.int (x - x / y * y) :: st) h Ko) : AW X rc rs pc lv (.int y :: .int x :: st) h Ko := fun H locs ls cells slots a1 a2 a3 a4 a5 => lv_irem B.1 B.2.1 hd hne (k H locs ls cells slots a1 a2 a3 a4 a5)
theorem aw_ineg (B : zB X cc nL own nm ret) {x : Int32} (hd : decode cc pc = .ok (.ineg, 1)) (k : AW X rc rs (pc + 1) lv (.int (-x) :: st) h Ko) : AW X rc rs pc lv (.int x :: st) h Ko := fun H locs ls cells slots a1 a2 a3 a4 a5 => lv_ineg B.1 B.2.1 hd (k H locs ls cells slots a1 a2 a3 a4 a5)
theorem aw_ladd (B : zB X cc nL own nm ret) {x y : Int64} (hd : decode cc pc = .ok (.ladd, 1)) (k : AW X rc rs (pc + 1) lv (.long (x + y) :: st) h Ko) : AW X rc rs pc lv (.long y :: .long x :: st) h Ko := fun H locs ls cells slots a1 a2 a3 a4 a5 => lv_ladd B.1 B.2.1 hd (k H locs ls cells slots a1 a2 a3 a4 a5)
theorem aw_lmul (B : zB X cc nL own nm ret) {x y : Int64} (hd : decode cc pc = .ok (.lmul, 1)) (k : AW X rc rs (pc + 1) lv (.long (x * y) :: st) h Ko) : AW X rc rs pc lv (.long y :: .long x :: st) h Ko := fun H locs ls cells slots a1 a2 a3 a4 a5 => lv_lmul B.1 B.2.1 hd (k H locs ls cells slots a1 a2 a3 a4 a5)
theorem aw_ldiv (B : zB X cc nL own nm ret) {x y : Int64} (hne : ¬ y = 0) (hd : decode cc pc = .ok (.ldiv, 1)) (k : AW X rc rs (pc + 1) lv (.long (x / y) :: st) h Ko) : AW X rc rs pc lv (.long y :: .long x :: st) h Ko := fun H locs ls cells slots a1 a2 a3 a4 a5 => lv_ldiv B.1 B.2.1 hd hne (k H locs ls cells slots a1 a2 a3 a4 a5)
theorem aw_lrem (B : zB X cc nL own nm ret) {x y : Int64} (hne : ¬ y = 0) (hd : decode cc pc = .ok (.lrem, 1)) (k : AW X rc rs (pc + 1) lv (.long (x - x / y * y) :: st) h Ko) : AW X rc rs pc lv (.long y :: .long x :: st) h Ko := fun H locs ls cells slots a1 a2 a3 a4 a5 => lv_lrem B.1 B.2.1 hd hne (k H locs ls cells slots a1 a2 a3 a4 a5)
theorem aw_i2l (B : zB X cc nL own nm ret) {x : Int32} (hd : decode cc pc = .ok (.i2l, 1)) (k : AW X rc rs (pc + 1) lv (.long x.toInt64 :: st) h Ko) : AW X rc rs pc lv (.int x :: st) h Ko := fun H locs ls cells slots a1 a2 a3 a4 a5 => lv_i2l B.1 B.2.1 hd rfl (k H locs ls cells slots a1 a2 a3 a4 a5)
theorem aw_iconst (B : zB X cc nL own nm ret) {n : Int} (v : Int32) (hv : Int32.ofInt n = v) (hd : decode cc pc = .ok (.iconst n, 1)) (k : AW X rc rs (pc + 1) lv (.int v :: st) h Ko) : AW X rc rs pc lv (st) h Ko := fun H locs ls cells slots a1 a2 a3 a4 a5 => lv_iconst B.1 B.2.1 hd hv (k H locs ls cells slots a1 a2 a3 a4 a5)
theorem aw_bipush (B : zB X cc nL own nm ret) {n : Int} (v : Int32) (hv : (Int8.ofInt n).toInt32 = v) (hd : decode cc pc = .ok (.bipush n, 2)) (k : AW X rc rs (pc + 2) lv (.int v :: st) h Ko) : AW X rc rs pc lv (st) h Ko := fun H locs ls cells slots a1 a2 a3 a4 a5 => lv_bipush B.1 B.2.1 hd hv (k H locs ls cells slots a1 a2 a3 a4 a5)
theorem aw_sipush (B : zB X cc nL own nm ret) {n : Int} (v : Int32) (hv : (Int16.ofInt n).toInt32 = v) (hd : decode cc pc = .ok (.sipush n, 3)) (k : AW X rc rs (pc + 3) lv (.int v :: st) h Ko) : AW X rc rs pc lv (st) h Ko := fun H locs ls cells slots a1 a2 a3 a4 a5 => lv_sipush B.1 B.2.1 hd hv (k H locs ls cells slots a1 a2 a3 a4 a5)
theorem aw_lconst (B : zB X cc nL own nm ret) {n : Fin 2} (v : Int64) (hv : Int64.ofNat (n : Nat) = v) (hd : decode cc pc = .ok (.lconst n, 1)) (k : AW X rc rs (pc + 1) lv (.long v :: st) h Ko) : AW X rc rs pc lv (st) h Ko := fun H locs ls cells slots a1 a2 a3 a4 a5 => lv_lconst B.1 B.2.1 hd hv (k H locs ls cells slots a1 a2 a3 a4 a5)
theorem aw_null (B : zB X cc nL own nm ret)  (hd : decode cc pc = .ok (.aconst_null, 1)) (k : AW X rc rs (pc + 1) lv (.null :: st) h Ko) : AW X rc rs pc lv (st) h Ko := fun H locs ls cells slots a1 a2 a3 a4 a5 => lv_null B.1 B.2.1 hd (k H locs ls cells slots a1 a2 a3 a4 a5)
theorem aw_dup (B : zB X cc nL own nm ret) {va : Value} (hva : va.category = 1) (hd : decode cc pc = .ok (.dup, 1)) (k : AW X rc rs (pc + 1) lv (va :: va :: st) h Ko) : AW X rc rs pc lv (va :: st) h Ko := fun H locs ls cells slots a1 a2 a3 a4 a5 => lv_dup B.1 B.2.1 hd hva (k H locs ls cells slots a1 a2 a3 a4 a5)
theorem aw_dup_x1 (B : zB X cc nL own nm ret) {va vb : Value} (hva : va.category = 1) (hvb : vb.category = 1) (hd : decode cc pc = .ok (.dup_x1, 1)) (k : AW X rc rs (pc + 1) lv (va :: vb :: va :: st) h Ko) : AW X rc rs pc lv (va :: vb :: st) h Ko := fun H locs ls cells slots a1 a2 a3 a4 a5 => lv_dup_x1 B.1 B.2.1 hd hva hvb (k H locs ls cells slots a1 a2 a3 a4 a5)
theorem aw_dup2 (B : zB X cc nL own nm ret) {va vb : Value} (hva : va.category = 1) (hvb : vb.category = 1) (hd : decode cc pc = .ok (.dup2, 1)) (k : AW X rc rs (pc + 1) lv (va :: vb :: va :: vb :: st) h Ko) : AW X rc rs pc lv (va :: vb :: st) h Ko := fun H locs ls cells slots a1 a2 a3 a4 a5 => lv_dup2_11 B.1 B.2.1 hd hva hvb (k H locs ls cells slots a1 a2 a3 a4 a5)
theorem aw_pop (B : zB X cc nL own nm ret) {va : Value} (hva : va.category = 1) (hd : decode cc pc = .ok (.pop, 1)) (k : AW X rc rs (pc + 1) lv (st) h Ko) : AW X rc rs pc lv (va :: st) h Ko := fun H locs ls cells slots a1 a2 a3 a4 a5 => lv_pop B.1 B.2.1 hd hva (k H locs ls cells slots a1 a2 a3 a4 a5)
theorem aw_iload_n (B : zB X cc nL own nm ret) {q : Fin 4} {x : Int32} (i : Nat) (hq : (q : Nat) = i) (hd : decode cc pc = .ok (.iload_n q, 1)) (hv : lv[i]? = some (some (.int x))) (k : AW X rc rs (pc + 1) lv (.int x :: st) h Ko) : AW X rc rs pc lv st h Ko := fun H locs ls cells slots a1 a2 a3 a4 a5 => lv_iload_n B.1 B.2.1 hd hq (a3.at hv) (k H locs ls cells slots a1 a2 a3 a4 a5)
theorem aw_iload (B : zB X cc nL own nm ret) {i : Nat} {x : Int32} (hd : decode cc pc = .ok (.iload i, 2)) (hv : lv[i]? = some (some (.int x))) (k : AW X rc rs (pc + 2) lv (.int x :: st) h Ko) : AW X rc rs pc lv st h Ko := fun H locs ls cells slots a1 a2 a3 a4 a5 => lv_iload B.1 B.2.1 hd (a3.at hv) (k H locs ls cells slots a1 a2 a3 a4 a5)
theorem aw_aload_n (B : zB X cc nL own nm ret) {q : Fin 4} {x : Nat} (i : Nat) (hq : (q : Nat) = i) (hd : decode cc pc = .ok (.aload_n q, 1)) (hv : lv[i]? = some (some (.ref x))) (k : AW X rc rs (pc + 1) lv (.ref x :: st) h Ko) : AW X rc rs pc lv st h Ko := fun H locs ls cells slots a1 a2 a3 a4 a5 => lv_aload_n B.1 B.2.1 hd hq (a3.at hv) (k H locs ls cells slots a1 a2 a3 a4 a5)
theorem aw_aload (B : zB X cc nL own nm ret) {i : Nat} {x : Nat} (hd : decode cc pc = .ok (.aload i, 2)) (hv : lv[i]? = some (some (.ref x))) (k : AW X rc rs (pc + 2) lv (.ref x :: st) h Ko) : AW X rc rs pc lv st h Ko := fun H locs ls cells slots a1 a2 a3 a4 a5 => lv_aload B.1 B.2.1 hd (a3.at hv) (k H locs ls cells slots a1 a2 a3 a4 a5)
theorem aw_lload_n (B : zB X cc nL own nm ret) {q : Fin 4} {x : Int64} (i : Nat) (hq : (q : Nat) = i) (hd : decode cc pc = .ok (.lload_n q, 1)) (hv : lv[i]? = some (some (.long x))) (k : AW X rc rs (pc + 1) lv (.long x :: st) h Ko) : AW X rc rs pc lv st h Ko := fun H locs ls cells slots a1 a2 a3 a4 a5 => lv_lload_n B.1 B.2.1 hd hq (a3.at hv) (k H locs ls cells slots a1 a2 a3 a4 a5)
theorem aw_lload (B : zB X cc nL own nm ret) {i : Nat} {x : Int64} (hd : decode cc pc = .ok (.lload i, 2)) (hv : lv[i]? = some (some (.long x))) (k : AW X rc rs (pc + 2) lv (.long x :: st) h Ko) : AW X rc rs pc lv st h Ko := fun H locs ls cells slots a1 a2 a3 a4 a5 => lv_lload B.1 B.2.1 hd (a3.at hv) (k H locs ls cells slots a1 a2 a3 a4 a5)
theorem aw_aload_nN (B : zB X cc nL own nm ret) {q : Fin 4} (i : Nat) (hq : (q : Nat) = i) (hd : decode cc pc = .ok (.aload_n q, 1)) (hv : lv[i]? = some (some (.null))) (k : AW X rc rs (pc + 1) lv (.null :: st) h Ko) : AW X rc rs pc lv st h Ko := fun H locs ls cells slots a1 a2 a3 a4 a5 => lv_aload_nN B.1 B.2.1 hd hq (a3.at hv) (k H locs ls cells slots a1 a2 a3 a4 a5)
theorem aw_aloadN (B : zB X cc nL own nm ret) {i : Nat} (hd : decode cc pc = .ok (.aload i, 2)) (hv : lv[i]? = some (some (.null))) (k : AW X rc rs (pc + 2) lv (.null :: st) h Ko) : AW X rc rs pc lv st h Ko := fun H locs ls cells slots a1 a2 a3 a4 a5 => lv_aloadN B.1 B.2.1 hd (a3.at hv) (k H locs ls cells slots a1 a2 a3 a4 a5)
theorem aw_istore_n (B : zB X cc nL own nm ret) {q : Fin 4} {x : Int32} (i : Nat) (hq : (q : Nat) = i) (hd : decode cc pc = .ok (.istore_n q, 1)) (hi : i < nL) (hz : zok lv i = true) (k : AW X rc rs (pc + 1) (lv.set i (some (.int x))) st h Ko) : AW X rc rs pc lv (.int x :: st) h Ko := fun H locs ls cells slots a1 a2 a3 a4 a5 => lv_istore_n B.1 B.2.1 hd hq a3.2 (by rw [B.2.2.1]; exact hi) rfl fun ls1 h1 => k H locs ls1 cells slots a1 a2 (a3.set1 (by rw [B.2.2.1]; exact hi) hz h1) a4 a5
theorem aw_istore (B : zB X cc nL own nm ret) {i : Nat} {x : Int32} (hd : decode cc pc = .ok (.istore i, 2)) (hi : i < nL) (hz : zok lv i = true) (k : AW X rc rs (pc + 2) (lv.set i (some (.int x))) st h Ko) : AW X rc rs pc lv (.int x :: st) h Ko := fun H locs ls cells slots a1 a2 a3 a4 a5 => lv_istore B.1 B.2.1 hd a3.2 (by rw [B.2.2.1]; exact hi) rfl fun ls1 h1 => k H locs ls1 cells slots a1 a2 (a3.set1 (by rw [B.2.2.1]; exact hi) hz h1) a4 a5
theorem aw_astore_n (B : zB X cc nL own nm ret) {q : Fin 4} {x : Nat} (i : Nat) (hq : (q : Nat) = i) (hd : decode cc pc = .ok (.astore_n q, 1)) (hi : i < nL) (hz : zok lv i = true) (k : AW X rc rs (pc + 1) (lv.set i (some (.ref x))) st h Ko) : AW X rc rs pc lv (.ref x :: st) h Ko := fun H locs ls cells slots a1 a2 a3 a4 a5 => lv_astore_n B.1 B.2.1 hd hq a3.2 (by rw [B.2.2.1]; exact hi) rfl fun ls1 h1 => k H locs ls1 cells slots a1 a2 (a3.set1 (by rw [B.2.2.1]; exact hi) hz h1) a4 a5
theorem aw_astore (B : zB X cc nL own nm ret) {i : Nat} {x : Nat} (hd : decode cc pc = .ok (.astore i, 2)) (hi : i < nL) (hz : zok lv i = true) (k : AW X rc rs (pc + 2) (lv.set i (some (.ref x))) st h Ko) : AW X rc rs pc lv (.ref x :: st) h Ko := fun H locs ls cells slots a1 a2 a3 a4 a5 => lv_astore B.1 B.2.1 hd a3.2 (by rw [B.2.2.1]; exact hi) rfl fun ls1 h1 => k H locs ls1 cells slots a1 a2 (a3.set1 (by rw [B.2.2.1]; exact hi) hz h1) a4 a5
theorem aw_astore_nN (B : zB X cc nL own nm ret) {q : Fin 4} (i : Nat) (hq : (q : Nat) = i) (hd : decode cc pc = .ok (.astore_n q, 1)) (hi : i < nL) (hz : zok lv i = true) (k : AW X rc rs (pc + 1) (lv.set i (some (.null))) st h Ko) : AW X rc rs pc lv (.null :: st) h Ko := fun H locs ls cells slots a1 a2 a3 a4 a5 => lv_astore_nN B.1 B.2.1 hd hq a3.2 (by rw [B.2.2.1]; exact hi) rfl fun ls1 h1 => k H locs ls1 cells slots a1 a2 (a3.set1 (by rw [B.2.2.1]; exact hi) hz h1) a4 a5
theorem aw_astoreN (B : zB X cc nL own nm ret) {i : Nat} (hd : decode cc pc = .ok (.astore i, 2)) (hi : i < nL) (hz : zok lv i = true) (k : AW X rc rs (pc + 2) (lv.set i (some (.null))) st h Ko) : AW X rc rs pc lv (.null :: st) h Ko := fun H locs ls cells slots a1 a2 a3 a4 a5 => lv_astoreN B.1 B.2.1 hd a3.2 (by rw [B.2.2.1]; exact hi) rfl fun ls1 h1 => k H locs ls1 cells slots a1 a2 (a3.set1 (by rw [B.2.2.1]; exact hi) hz h1) a4 a5
theorem aw_lstore_n (B : zB X cc nL own nm ret) {q : Fin 4} {x : Int64} (i : Nat) (hq : (q : Nat) = i) (hd : decode cc pc = .ok (.lstore_n q, 1)) (hi : i + 1 < nL) (hz : zok lv i = true) (k : AW X rc rs (pc + 1) ((lv.set i (some (.long x))).set (i + 1) none) st h Ko) : AW X rc rs pc lv (.long x :: st) h Ko := fun H locs ls cells slots a1 a2 a3 a4 a5 => lv_lstore_n B.1 B.2.1 hd hq a3.2 (by rw [B.2.2.1]; exact hi) rfl fun ls1 h1 => k H locs ls1 cells slots a1 a2 (a3.set2 (by rw [B.2.2.1]; exact hi) hz h1) a4 a5
theorem aw_lstore (B : zB X cc nL own nm ret) {i : Nat} {x : Int64} (hd : decode cc pc = .ok (.lstore i, 2)) (hi : i + 1 < nL) (hz : zok lv i = true) (k : AW X rc rs (pc + 2) ((lv.set i (some (.long x))).set (i + 1) none) st h Ko) : AW X rc rs pc lv (.long x :: st) h Ko := fun H locs ls cells slots a1 a2 a3 a4 a5 => lv_lstore B.1 B.2.1 hd a3.2 (by rw [B.2.2.1]; exact hi) rfl fun ls1 h1 => k H locs ls1 cells slots a1 a2 (a3.set2 (by rw [B.2.2.1]; exact hi) hz h1) a4 a5
theorem aw_iinc (B : zB X cc nL own nm ret) {i : Nat} {n : Int} {x : Int32} (c : Int32) (hc : Int32.ofInt n = c) (hd : decode cc pc = .ok (.iinc i n, 3)) (hv : lv[i]? = some (some (.int x))) (hi : i < nL) (hz : zok lv i = true) (k : AW X rc rs (pc + 3) (lv.set i (some (.int (x + c)))) st h Ko) : AW X rc rs pc lv st h Ko := by
  intro H locs ls cells slots a1 a2 a3 a4 a5
  have hm : (i, Value.int x) ∈ zA 0 lv := zA_mem.mpr ⟨Nat.zero_le _, by simpa using hv⟩
  obtain ⟨j, hj⟩ := List.getElem?_of_mem hm
  exact lv_iinc (v := x + c) B.1 B.2.1 hd a3.2 (k := j) hj (by rw [hc]) (by rw [B.2.2.1]; exact hi) rfl fun ls1 h1 => k H locs ls1 cells slots a1 a2 (a3.set1 (by rw [B.2.2.1]; exact hi) hz h1) a4 a5
theorem aw_istore0 (B : zB X cc nL own nm ret) {y : Option Value} {t : List (Option Value)} {x : Int32} (hd : decode cc pc = .ok (.istore_n 0, 1)) (k : AW X rc rs (pc + 1) (some (.int x) :: t) st h Ko) (hi : 0 < nL := by decide) : AW X rc rs pc (y :: t) (.int x :: st) h Ko := aw_istore_n B 0 rfl hd hi rfl k
theorem aw_astore0 (B : zB X cc nL own nm ret) {y : Option Value} {t : List (Option Value)} {x : Nat} (hd : decode cc pc = .ok (.astore_n 0, 1)) (k : AW X rc rs (pc + 1) (some (.ref x) :: t) st h Ko) (hi : 0 < nL := by decide) : AW X rc rs pc (y :: t) (.ref x :: st) h Ko := aw_astore_n B 0 rfl hd hi rfl k
theorem aw_iinc0 (B : zB X cc nL own nm ret) {t : List (Option Value)} {x : Int32} {n : Int} (c : Int32) (hc : Int32.ofInt n = c) (hd : decode cc pc = .ok (.iinc 0 n, 3)) (k : AW X rc rs (pc + 3) (some (.int (x + c)) :: t) st h Ko) (hi : 0 < nL := by decide) : AW X rc rs pc (some (.int x) :: t) st h Ko := aw_iinc B c hc hd rfl hi rfl k
theorem aw_istore1 (B : zB X cc nL own nm ret) {z0 : Option Value} {y : Option Value} {t : List (Option Value)} {x : Int32} (hd : decode cc pc = .ok (.istore_n 1, 1)) (k : AW X rc rs (pc + 1) (z0 :: some (.int x) :: t) st h Ko) (hi : 1 < nL := by decide) (hz : zok (z0 :: y :: t) 1 = true := by rfl) : AW X rc rs pc (z0 :: y :: t) (.int x :: st) h Ko := aw_istore_n B 1 rfl hd hi hz k
theorem aw_astore1 (B : zB X cc nL own nm ret) {z0 : Option Value} {y : Option Value} {t : List (Option Value)} {x : Nat} (hd : decode cc pc = .ok (.astore_n 1, 1)) (k : AW X rc rs (pc + 1) (z0 :: some (.ref x) :: t) st h Ko) (hi : 1 < nL := by decide) (hz : zok (z0 :: y :: t) 1 = true := by rfl) : AW X rc rs pc (z0 :: y :: t) (.ref x :: st) h Ko := aw_astore_n B 1 rfl hd hi hz k
theorem aw_iinc1 (B : zB X cc nL own nm ret) {z0 : Option Value} {t : List (Option Value)} {x : Int32} {n : Int} (c : Int32) (hc : Int32.ofInt n = c) (hd : decode cc pc = .ok (.iinc 1 n, 3)) (k : AW X rc rs (pc + 3) (z0 :: some (.int (x + c)) :: t) st h Ko) (hi : 1 < nL := by decide) (hz : zok (z0 :: some (.int x) :: t) 1 = true := by rfl) : AW X rc rs pc (z0 :: some (.int x) :: t) st h Ko := aw_iinc B c hc hd rfl hi hz k
theorem aw_istore2 (B : zB X cc nL own nm ret) {z0 z1 : Option Value} {y : Option Value} {t : List (Option Value)} {x : Int32} (hd : decode cc pc = .ok (.istore_n 2, 1)) (k : AW X rc rs (pc + 1) (z0 :: z1 :: some (.int x) :: t) st h Ko) (hi : 2 < nL := by decide) (hz : zok (z0 :: z1 :: y :: t) 2 = true := by rfl) : AW X rc rs pc (z0 :: z1 :: y :: t) (.int x :: st) h Ko := aw_istore_n B 2 rfl hd hi hz k
theorem aw_astore2 (B : zB X cc nL own nm ret) {z0 z1 : Option Value} {y : Option Value} {t : List (Option Value)} {x : Nat} (hd : decode cc pc = .ok (.astore_n 2, 1)) (k : AW X rc rs (pc + 1) (z0 :: z1 :: some (.ref x) :: t) st h Ko) (hi : 2 < nL := by decide) (hz : zok (z0 :: z1 :: y :: t) 2 = true := by rfl) : AW X rc rs pc (z0 :: z1 :: y :: t) (.ref x :: st) h Ko := aw_astore_n B 2 rfl hd hi hz k
theorem aw_iinc2 (B : zB X cc nL own nm ret) {z0 z1 : Option Value} {t : List (Option Value)} {x : Int32} {n : Int} (c : Int32) (hc : Int32.ofInt n = c) (hd : decode cc pc = .ok (.iinc 2 n, 3)) (k : AW X rc rs (pc + 3) (z0 :: z1 :: some (.int (x + c)) :: t) st h Ko) (hi : 2 < nL := by decide) (hz : zok (z0 :: z1 :: some (.int x) :: t) 2 = true := by rfl) : AW X rc rs pc (z0 :: z1 :: some (.int x) :: t) st h Ko := aw_iinc B c hc hd rfl hi hz k
theorem aw_istore3 (B : zB X cc nL own nm ret) {z0 z1 z2 : Option Value} {y : Option Value} {t : List (Option Value)} {x : Int32} (hd : decode cc pc = .ok (.istore_n 3, 1)) (k : AW X rc rs (pc + 1) (z0 :: z1 :: z2 :: some (.int x) :: t) st h Ko) (hi : 3 < nL := by decide) (hz : zok (z0 :: z1 :: z2 :: y :: t) 3 = true := by rfl) : AW X rc rs pc (z0 :: z1 :: z2 :: y :: t) (.int x :: st) h Ko := aw_istore_n B 3 rfl hd hi hz k
theorem aw_astore3 (B : zB X cc nL own nm ret) {z0 z1 z2 : Option Value} {y : Option Value} {t : List (Option Value)} {x : Nat} (hd : decode cc pc = .ok (.astore_n 3, 1)) (k : AW X rc rs (pc + 1) (z0 :: z1 :: z2 :: some (.ref x) :: t) st h Ko) (hi : 3 < nL := by decide) (hz : zok (z0 :: z1 :: z2 :: y :: t) 3 = true := by rfl) : AW X rc rs pc (z0 :: z1 :: z2 :: y :: t) (.ref x :: st) h Ko := aw_astore_n B 3 rfl hd hi hz k
theorem aw_iinc3 (B : zB X cc nL own nm ret) {z0 z1 z2 : Option Value} {t : List (Option Value)} {x : Int32} {n : Int} (c : Int32) (hc : Int32.ofInt n = c) (hd : decode cc pc = .ok (.iinc 3 n, 3)) (k : AW X rc rs (pc + 3) (z0 :: z1 :: z2 :: some (.int (x + c)) :: t) st h Ko) (hi : 3 < nL := by decide) (hz : zok (z0 :: z1 :: z2 :: some (.int x) :: t) 3 = true := by rfl) : AW X rc rs pc (z0 :: z1 :: z2 :: some (.int x) :: t) st h Ko := aw_iinc B c hc hd rfl hi hz k
theorem aw_istore4 (B : zB X cc nL own nm ret) {z0 z1 z2 z3 : Option Value} {y : Option Value} {t : List (Option Value)} {x : Int32} (hd : decode cc pc = .ok (.istore 4, 2)) (k : AW X rc rs (pc + 2) (z0 :: z1 :: z2 :: z3 :: some (.int x) :: t) st h Ko) (hi : 4 < nL := by decide) (hz : zok (z0 :: z1 :: z2 :: z3 :: y :: t) 4 = true := by rfl) : AW X rc rs pc (z0 :: z1 :: z2 :: z3 :: y :: t) (.int x :: st) h Ko := aw_istore B hd hi hz k
theorem aw_astore4 (B : zB X cc nL own nm ret) {z0 z1 z2 z3 : Option Value} {y : Option Value} {t : List (Option Value)} {x : Nat} (hd : decode cc pc = .ok (.astore 4, 2)) (k : AW X rc rs (pc + 2) (z0 :: z1 :: z2 :: z3 :: some (.ref x) :: t) st h Ko) (hi : 4 < nL := by decide) (hz : zok (z0 :: z1 :: z2 :: z3 :: y :: t) 4 = true := by rfl) : AW X rc rs pc (z0 :: z1 :: z2 :: z3 :: y :: t) (.ref x :: st) h Ko := aw_astore B hd hi hz k
theorem aw_iinc4 (B : zB X cc nL own nm ret) {z0 z1 z2 z3 : Option Value} {t : List (Option Value)} {x : Int32} {n : Int} (c : Int32) (hc : Int32.ofInt n = c) (hd : decode cc pc = .ok (.iinc 4 n, 3)) (k : AW X rc rs (pc + 3) (z0 :: z1 :: z2 :: z3 :: some (.int (x + c)) :: t) st h Ko) (hi : 4 < nL := by decide) (hz : zok (z0 :: z1 :: z2 :: z3 :: some (.int x) :: t) 4 = true := by rfl) : AW X rc rs pc (z0 :: z1 :: z2 :: z3 :: some (.int x) :: t) st h Ko := aw_iinc B c hc hd rfl hi hz k
theorem aw_istore5 (B : zB X cc nL own nm ret) {z0 z1 z2 z3 z4 : Option Value} {y : Option Value} {t : List (Option Value)} {x : Int32} (hd : decode cc pc = .ok (.istore 5, 2)) (k : AW X rc rs (pc + 2) (z0 :: z1 :: z2 :: z3 :: z4 :: some (.int x) :: t) st h Ko) (hi : 5 < nL := by decide) (hz : zok (z0 :: z1 :: z2 :: z3 :: z4 :: y :: t) 5 = true := by rfl) : AW X rc rs pc (z0 :: z1 :: z2 :: z3 :: z4 :: y :: t) (.int x :: st) h Ko := aw_istore B hd hi hz k
theorem aw_astore5 (B : zB X cc nL own nm ret) {z0 z1 z2 z3 z4 : Option Value} {y : Option Value} {t : List (Option Value)} {x : Nat} (hd : decode cc pc = .ok (.astore 5, 2)) (k : AW X rc rs (pc + 2) (z0 :: z1 :: z2 :: z3 :: z4 :: some (.ref x) :: t) st h Ko) (hi : 5 < nL := by decide) (hz : zok (z0 :: z1 :: z2 :: z3 :: z4 :: y :: t) 5 = true := by rfl) : AW X rc rs pc (z0 :: z1 :: z2 :: z3 :: z4 :: y :: t) (.ref x :: st) h Ko := aw_astore B hd hi hz k
theorem aw_iinc5 (B : zB X cc nL own nm ret) {z0 z1 z2 z3 z4 : Option Value} {t : List (Option Value)} {x : Int32} {n : Int} (c : Int32) (hc : Int32.ofInt n = c) (hd : decode cc pc = .ok (.iinc 5 n, 3)) (k : AW X rc rs (pc + 3) (z0 :: z1 :: z2 :: z3 :: z4 :: some (.int (x + c)) :: t) st h Ko) (hi : 5 < nL := by decide) (hz : zok (z0 :: z1 :: z2 :: z3 :: z4 :: some (.int x) :: t) 5 = true := by rfl) : AW X rc rs pc (z0 :: z1 :: z2 :: z3 :: z4 :: some (.int x) :: t) st h Ko := aw_iinc B c hc hd rfl hi hz k
theorem aw_istore6 (B : zB X cc nL own nm ret) {z0 z1 z2 z3 z4 z5 : Option Value} {y : Option Value} {t : List (Option Value)} {x : Int32} (hd : decode cc pc = .ok (.istore 6, 2)) (k : AW X rc rs (pc + 2) (z0 :: z1 :: z2 :: z3 :: z4 :: z5 :: some (.int x) :: t) st h Ko) (hi : 6 < nL := by decide) (hz : zok (z0 :: z1 :: z2 :: z3 :: z4 :: z5 :: y :: t) 6 = true := by rfl) : AW X rc rs pc (z0 :: z1 :: z2 :: z3 :: z4 :: z5 :: y :: t) (.int x :: st) h Ko := aw_istore B hd hi hz k
theorem aw_astore6 (B : zB X cc nL own nm ret) {z0 z1 z2 z3 z4 z5 : Option Value} {y : Option Value} {t : List (Option Value)} {x : Nat} (hd : decode cc pc = .ok (.astore 6, 2)) (k : AW X rc rs (pc + 2) (z0 :: z1 :: z2 :: z3 :: z4 :: z5 :: some (.ref x) :: t) st h Ko) (hi : 6 < nL := by decide) (hz : zok (z0 :: z1 :: z2 :: z3 :: z4 :: z5 :: y :: t) 6 = true := by rfl) : AW X rc rs pc (z0 :: z1 :: z2 :: z3 :: z4 :: z5 :: y :: t) (.ref x :: st) h Ko := aw_astore B hd hi hz k
theorem aw_iinc6 (B : zB X cc nL own nm ret) {z0 z1 z2 z3 z4 z5 : Option Value} {t : List (Option Value)} {x : Int32} {n : Int} (c : Int32) (hc : Int32.ofInt n = c) (hd : decode cc pc = .ok (.iinc 6 n, 3)) (k : AW X rc rs (pc + 3) (z0 :: z1 :: z2 :: z3 :: z4 :: z5 :: some (.int (x + c)) :: t) st h Ko) (hi : 6 < nL := by decide) (hz : zok (z0 :: z1 :: z2 :: z3 :: z4 :: z5 :: some (.int x) :: t) 6 = true := by rfl) : AW X rc rs pc (z0 :: z1 :: z2 :: z3 :: z4 :: z5 :: some (.int x) :: t) st h Ko := aw_iinc B c hc hd rfl hi hz k
theorem aw_istore7 (B : zB X cc nL own nm ret) {z0 z1 z2 z3 z4 z5 z6 : Option Value} {y : Option Value} {t : List (Option Value)} {x : Int32} (hd : decode cc pc = .ok (.istore 7, 2)) (k : AW X rc rs (pc + 2) (z0 :: z1 :: z2 :: z3 :: z4 :: z5 :: z6 :: some (.int x) :: t) st h Ko) (hi : 7 < nL := by decide) (hz : zok (z0 :: z1 :: z2 :: z3 :: z4 :: z5 :: z6 :: y :: t) 7 = true := by rfl) : AW X rc rs pc (z0 :: z1 :: z2 :: z3 :: z4 :: z5 :: z6 :: y :: t) (.int x :: st) h Ko := aw_istore B hd hi hz k
theorem aw_astore7 (B : zB X cc nL own nm ret) {z0 z1 z2 z3 z4 z5 z6 : Option Value} {y : Option Value} {t : List (Option Value)} {x : Nat} (hd : decode cc pc = .ok (.astore 7, 2)) (k : AW X rc rs (pc + 2) (z0 :: z1 :: z2 :: z3 :: z4 :: z5 :: z6 :: some (.ref x) :: t) st h Ko) (hi : 7 < nL := by decide) (hz : zok (z0 :: z1 :: z2 :: z3 :: z4 :: z5 :: z6 :: y :: t) 7 = true := by rfl) : AW X rc rs pc (z0 :: z1 :: z2 :: z3 :: z4 :: z5 :: z6 :: y :: t) (.ref x :: st) h Ko := aw_astore B hd hi hz k
theorem aw_iinc7 (B : zB X cc nL own nm ret) {z0 z1 z2 z3 z4 z5 z6 : Option Value} {t : List (Option Value)} {x : Int32} {n : Int} (c : Int32) (hc : Int32.ofInt n = c) (hd : decode cc pc = .ok (.iinc 7 n, 3)) (k : AW X rc rs (pc + 3) (z0 :: z1 :: z2 :: z3 :: z4 :: z5 :: z6 :: some (.int (x + c)) :: t) st h Ko) (hi : 7 < nL := by decide) (hz : zok (z0 :: z1 :: z2 :: z3 :: z4 :: z5 :: z6 :: some (.int x) :: t) 7 = true := by rfl) : AW X rc rs pc (z0 :: z1 :: z2 :: z3 :: z4 :: z5 :: z6 :: some (.int x) :: t) st h Ko := aw_iinc B c hc hd rfl hi hz k
theorem aw_istore8 (B : zB X cc nL own nm ret) {z0 z1 z2 z3 z4 z5 z6 z7 : Option Value} {y : Option Value} {t : List (Option Value)} {x : Int32} (hd : decode cc pc = .ok (.istore 8, 2)) (k : AW X rc rs (pc + 2) (z0 :: z1 :: z2 :: z3 :: z4 :: z5 :: z6 :: z7 :: some (.int x) :: t) st h Ko) (hi : 8 < nL := by decide) (hz : zok (z0 :: z1 :: z2 :: z3 :: z4 :: z5 :: z6 :: z7 :: y :: t) 8 = true := by rfl) : AW X rc rs pc (z0 :: z1 :: z2 :: z3 :: z4 :: z5 :: z6 :: z7 :: y :: t) (.int x :: st) h Ko := aw_istore B hd hi hz k
theorem aw_iinc8 (B : zB X cc nL own nm ret) {z0 z1 z2 z3 z4 z5 z6 z7 : Option Value} {t : List (Option Value)} {x : Int32} {n : Int} (c : Int32) (hc : Int32.ofInt n = c) (hd : decode cc pc = .ok (.iinc 8 n, 3)) (k : AW X rc rs (pc + 3) (z0 :: z1 :: z2 :: z3 :: z4 :: z5 :: z6 :: z7 :: some (.int (x + c)) :: t) st h Ko) (hi : 8 < nL := by decide) (hz : zok (z0 :: z1 :: z2 :: z3 :: z4 :: z5 :: z6 :: z7 :: some (.int x) :: t) 8 = true := by rfl) : AW X rc rs pc (z0 :: z1 :: z2 :: z3 :: z4 :: z5 :: z6 :: z7 :: some (.int x) :: t) st h Ko := aw_iinc B c hc hd rfl hi hz k
theorem aw_istore9 (B : zB X cc nL own nm ret) {z0 z1 z2 z3 z4 z5 z6 z7 z8 : Option Value} {y : Option Value} {t : List (Option Value)} {x : Int32} (hd : decode cc pc = .ok (.istore 9, 2)) (k : AW X rc rs (pc + 2) (z0 :: z1 :: z2 :: z3 :: z4 :: z5 :: z6 :: z7 :: z8 :: some (.int x) :: t) st h Ko) (hi : 9 < nL := by decide) (hz : zok (z0 :: z1 :: z2 :: z3 :: z4 :: z5 :: z6 :: z7 :: z8 :: y :: t) 9 = true := by rfl) : AW X rc rs pc (z0 :: z1 :: z2 :: z3 :: z4 :: z5 :: z6 :: z7 :: z8 :: y :: t) (.int x :: st) h Ko := aw_istore B hd hi hz k
theorem aw_iinc9 (B : zB X cc nL own nm ret) {z0 z1 z2 z3 z4 z5 z6 z7 z8 : Option Value} {t : List (Option Value)} {x : Int32} {n : Int} (c : Int32) (hc : Int32.ofInt n = c) (hd : decode cc pc = .ok (.iinc 9 n, 3)) (k : AW X rc rs (pc + 3) (z0 :: z1 :: z2 :: z3 :: z4 :: z5 :: z6 :: z7 :: z8 :: some (.int (x + c)) :: t) st h Ko) (hi : 9 < nL := by decide) (hz : zok (z0 :: z1 :: z2 :: z3 :: z4 :: z5 :: z6 :: z7 :: z8 :: some (.int x) :: t) 9 = true := by rfl) : AW X rc rs pc (z0 :: z1 :: z2 :: z3 :: z4 :: z5 :: z6 :: z7 :: z8 :: some (.int x) :: t) st h Ko := aw_iinc B c hc hd rfl hi hz k
theorem aw_istore10 (B : zB X cc nL own nm ret) {z0 z1 z2 z3 z4 z5 z6 z7 z8 z9 : Option Value} {y : Option Value} {t : List (Option Value)} {x : Int32} (hd : decode cc pc = .ok (.istore 10, 2)) (k : AW X rc rs (pc + 2) (z0 :: z1 :: z2 :: z3 :: z4 :: z5 :: z6 :: z7 :: z8 :: z9 :: some (.int x) :: t) st h Ko) (hi : 10 < nL := by decide) (hz : zok (z0 :: z1 :: z2 :: z3 :: z4 :: z5 :: z6 :: z7 :: z8 :: z9 :: y :: t) 10 = true := by rfl) : AW X rc rs pc (z0 :: z1 :: z2 :: z3 :: z4 :: z5 :: z6 :: z7 :: z8 :: z9 :: y :: t) (.int x :: st) h Ko := aw_istore B hd hi hz k
theorem aw_iinc10 (B : zB X cc nL own nm ret) {z0 z1 z2 z3 z4 z5 z6 z7 z8 z9 : Option Value} {t : List (Option Value)} {x : Int32} {n : Int} (c : Int32) (hc : Int32.ofInt n = c) (hd : decode cc pc = .ok (.iinc 10 n, 3)) (k : AW X rc rs (pc + 3) (z0 :: z1 :: z2 :: z3 :: z4 :: z5 :: z6 :: z7 :: z8 :: z9 :: some (.int (x + c)) :: t) st h Ko) (hi : 10 < nL := by decide) (hz : zok (z0 :: z1 :: z2 :: z3 :: z4 :: z5 :: z6 :: z7 :: z8 :: z9 :: some (.int x) :: t) 10 = true := by rfl) : AW X rc rs pc (z0 :: z1 :: z2 :: z3 :: z4 :: z5 :: z6 :: z7 :: z8 :: z9 :: some (.int x) :: t) st h Ko := aw_iinc B c hc hd rfl hi hz k
theorem aw_istore11 (B : zB X cc nL own nm ret) {z0 z1 z2 z3 z4 z5 z6 z7 z8 z9 z10 : Option Value} {y : Option Value} {t : List (Option Value)} {x : Int32} (hd : decode cc pc = .ok (.istore 11, 2)) (k : AW X rc rs (pc + 2) (z0 :: z1 :: z2 :: z3 :: z4 :: z5 :: z6 :: z7 :: z8 :: z9 :: z10 :: some (.int x) :: t) st h Ko) (hi : 11 < nL := by decide) (hz : zok (z0 :: z1 :: z2 :: z3 :: z4 :: z5 :: z6 :: z7 :: z8 :: z9 :: z10 :: y :: t) 11 = true := by rfl) : AW X rc rs pc (z0 :: z1 :: z2 :: z3 :: z4 :: z5 :: z6 :: z7 :: z8 :: z9 :: z10 :: y :: t) (.int x :: st) h Ko := aw_istore B hd hi hz k
theorem aw_iinc11 (B : zB X cc nL own nm ret) {z0 z1 z2 z3 z4 z5 z6 z7 z8 z9 z10 : Option Value} {t : List (Option Value)} {x : Int32} {n : Int} (c : Int32) (hc : Int32.ofInt n = c) (hd : decode cc pc = .ok (.iinc 11 n, 3)) (k : AW X rc rs (pc + 3) (z0 :: z1 :: z2 :: z3 :: z4 :: z5 :: z6 :: z7 :: z8 :: z9 :: z10 :: some (.int (x + c)) :: t) st h Ko) (hi : 11 < nL := by decide) (hz : zok (z0 :: z1 :: z2 :: z3 :: z4 :: z5 :: z6 :: z7 :: z8 :: z9 :: z10 :: some (.int x) :: t) 11 = true := by rfl) : AW X rc rs pc (z0 :: z1 :: z2 :: z3 :: z4 :: z5 :: z6 :: z7 :: z8 :: z9 :: z10 :: some (.int x) :: t) st h Ko := aw_iinc B c hc hd rfl hi hz k
theorem aw_istore12 (B : zB X cc nL own nm ret) {z0 z1 z2 z3 z4 z5 z6 z7 z8 z9 z10 z11 : Option Value} {y : Option Value} {t : List (Option Value)} {x : Int32} (hd : decode cc pc = .ok (.istore 12, 2)) (k : AW X rc rs (pc + 2) (z0 :: z1 :: z2 :: z3 :: z4 :: z5 :: z6 :: z7 :: z8 :: z9 :: z10 :: z11 :: some (.int x) :: t) st h Ko) (hi : 12 < nL := by decide) (hz : zok (z0 :: z1 :: z2 :: z3 :: z4 :: z5 :: z6 :: z7 :: z8 :: z9 :: z10 :: z11 :: y :: t) 12 = true := by rfl) : AW X rc rs pc (z0 :: z1 :: z2 :: z3 :: z4 :: z5 :: z6 :: z7 :: z8 :: z9 :: z10 :: z11 :: y :: t) (.int x :: st) h Ko := aw_istore B hd hi hz k
theorem aw_iinc12 (B : zB X cc nL own nm ret) {z0 z1 z2 z3 z4 z5 z6 z7 z8 z9 z10 z11 : Option Value} {t : List (Option Value)} {x : Int32} {n : Int} (c : Int32) (hc : Int32.ofInt n = c) (hd : decode cc pc = .ok (.iinc 12 n, 3)) (k : AW X rc rs (pc + 3) (z0 :: z1 :: z2 :: z3 :: z4 :: z5 :: z6 :: z7 :: z8 :: z9 :: z10 :: z11 :: some (.int (x + c)) :: t) st h Ko) (hi : 12 < nL := by decide) (hz : zok (z0 :: z1 :: z2 :: z3 :: z4 :: z5 :: z6 :: z7 :: z8 :: z9 :: z10 :: z11 :: some (.int x) :: t) 12 = true := by rfl) : AW X rc rs pc (z0 :: z1 :: z2 :: z3 :: z4 :: z5 :: z6 :: z7 :: z8 :: z9 :: z10 :: z11 :: some (.int x) :: t) st h Ko := aw_iinc B c hc hd rfl hi hz k
theorem aw_lstore0 (B : zB X cc nL own nm ret) {y y2 : Option Value} {t : List (Option Value)} {x : Int64} (hd : decode cc pc = .ok (.lstore_n 0, 1)) (k : AW X rc rs (pc + 1) (some (.long x) :: none :: t) st h Ko) (hi : 0 + 1 < nL := by decide) : AW X rc rs pc (y :: y2 :: t) (.long x :: st) h Ko := aw_lstore_n B 0 rfl hd hi rfl k
theorem aw_lstore1 (B : zB X cc nL own nm ret) {z0 : Option Value} {y y2 : Option Value} {t : List (Option Value)} {x : Int64} (hd : decode cc pc = .ok (.lstore_n 1, 1)) (k : AW X rc rs (pc + 1) (z0 :: some (.long x) :: none :: t) st h Ko) (hi : 1 + 1 < nL := by decide) (hz : zok (z0 :: y :: y2 :: t) 1 = true := by rfl) : AW X rc rs pc (z0 :: y :: y2 :: t) (.long x :: st) h Ko := aw_lstore_n B 1 rfl hd hi hz k
theorem aw_lstore2 (B : zB X cc nL own nm ret) {z0 z1 : Option Value} {y y2 : Option Value} {t : List (Option Value)} {x : Int64} (hd : decode cc pc = .ok (.lstore_n 2, 1)) (k : AW X rc rs (pc + 1) (z0 :: z1 :: some (.long x) :: none :: t) st h Ko) (hi : 2 + 1 < nL := by decide) (hz : zok (z0 :: z1 :: y :: y2 :: t) 2 = true := by rfl) : AW X rc rs pc (z0 :: z1 :: y :: y2 :: t) (.long x :: st) h Ko := aw_lstore_n B 2 rfl hd hi hz k
theorem aw_lstore3 (B : zB X cc nL own nm ret) {z0 z1 z2 : Option Value} {y y2 : Option Value} {t : List (Option Value)} {x : Int64} (hd : decode cc pc = .ok (.lstore_n 3, 1)) (k : AW X rc rs (pc + 1) (z0 :: z1 :: z2 :: some (.long x) :: none :: t) st h Ko) (hi : 3 + 1 < nL := by decide) (hz : zok (z0 :: z1 :: z2 :: y :: y2 :: t) 3 = true := by rfl) : AW X rc rs pc (z0 :: z1 :: z2 :: y :: y2 :: t) (.long x :: st) h Ko := aw_lstore_n B 3 rfl hd hi hz k
theorem aw_lstore4 (B : zB X cc nL own nm ret) {z0 z1 z2 z3 : Option Value} {y y2 : Option Value} {t : List (Option Value)} {x : Int64} (hd : decode cc pc = .ok (.lstore 4, 2)) (k : AW X rc rs (pc + 2) (z0 :: z1 :: z2 :: z3 :: some (.long x) :: none :: t) st h Ko) (hi : 4 + 1 < nL := by decide) (hz : zok (z0 :: z1 :: z2 :: z3 :: y :: y2 :: t) 4 = true := by rfl) : AW X rc rs pc (z0 :: z1 :: z2 :: z3 :: y :: y2 :: t) (.long x :: st) h Ko := aw_lstore B hd hi hz k
theorem aw_lstore5 (B : zB X cc nL own nm ret) {z0 z1 z2 z3 z4 : Option Value} {y y2 : Option Value} {t : List (Option Value)} {x : Int64} (hd : decode cc pc = .ok (.lstore 5, 2)) (k : AW X rc rs (pc + 2) (z0 :: z1 :: z2 :: z3 :: z4 :: some (.long x) :: none :: t) st h Ko) (hi : 5 + 1 < nL := by decide) (hz : zok (z0 :: z1 :: z2 :: z3 :: z4 :: y :: y2 :: t) 5 = true := by rfl) : AW X rc rs pc (z0 :: z1 :: z2 :: z3 :: z4 :: y :: y2 :: t) (.long x :: st) h Ko := aw_lstore B hd hi hz k
theorem aw_lstore6 (B : zB X cc nL own nm ret) {z0 z1 z2 z3 z4 z5 : Option Value} {y y2 : Option Value} {t : List (Option Value)} {x : Int64} (hd : decode cc pc = .ok (.lstore 6, 2)) (k : AW X rc rs (pc + 2) (z0 :: z1 :: z2 :: z3 :: z4 :: z5 :: some (.long x) :: none :: t) st h Ko) (hi : 6 + 1 < nL := by decide) (hz : zok (z0 :: z1 :: z2 :: z3 :: z4 :: z5 :: y :: y2 :: t) 6 = true := by rfl) : AW X rc rs pc (z0 :: z1 :: z2 :: z3 :: z4 :: z5 :: y :: y2 :: t) (.long x :: st) h Ko := aw_lstore B hd hi hz k
theorem aw_lstore7 (B : zB X cc nL own nm ret) {z0 z1 z2 z3 z4 z5 z6 : Option Value} {y y2 : Option Value} {t : List (Option Value)} {x : Int64} (hd : decode cc pc = .ok (.lstore 7, 2)) (k : AW X rc rs (pc + 2) (z0 :: z1 :: z2 :: z3 :: z4 :: z5 :: z6 :: some (.long x) :: none :: t) st h Ko) (hi : 7 + 1 < nL := by decide) (hz : zok (z0 :: z1 :: z2 :: z3 :: z4 :: z5 :: z6 :: y :: y2 :: t) 7 = true := by rfl) : AW X rc rs pc (z0 :: z1 :: z2 :: z3 :: z4 :: z5 :: z6 :: y :: y2 :: t) (.long x :: st) h Ko := aw_lstore B hd hi hz k
theorem aw_lstore8 (B : zB X cc nL own nm ret) {z0 z1 z2 z3 z4 z5 z6 z7 : Option Value} {y y2 : Option Value} {t : List (Option Value)} {x : Int64} (hd : decode cc pc = .ok (.lstore 8, 2)) (k : AW X rc rs (pc + 2) (z0 :: z1 :: z2 :: z3 :: z4 :: z5 :: z6 :: z7 :: some (.long x) :: none :: t) st h Ko) (hi : 8 + 1 < nL := by decide) (hz : zok (z0 :: z1 :: z2 :: z3 :: z4 :: z5 :: z6 :: z7 :: y :: y2 :: t) 8 = true := by rfl) : AW X rc rs pc (z0 :: z1 :: z2 :: z3 :: z4 :: z5 :: z6 :: z7 :: y :: y2 :: t) (.long x :: st) h Ko := aw_lstore B hd hi hz k
theorem aw_lstore9 (B : zB X cc nL own nm ret) {z0 z1 z2 z3 z4 z5 z6 z7 z8 : Option Value} {y y2 : Option Value} {t : List (Option Value)} {x : Int64} (hd : decode cc pc = .ok (.lstore 9, 2)) (k : AW X rc rs (pc + 2) (z0 :: z1 :: z2 :: z3 :: z4 :: z5 :: z6 :: z7 :: z8 :: some (.long x) :: none :: t) st h Ko) (hi : 9 + 1 < nL := by decide) (hz : zok (z0 :: z1 :: z2 :: z3 :: z4 :: z5 :: z6 :: z7 :: z8 :: y :: y2 :: t) 9 = true := by rfl) : AW X rc rs pc (z0 :: z1 :: z2 :: z3 :: z4 :: z5 :: z6 :: z7 :: z8 :: y :: y2 :: t) (.long x :: st) h Ko := aw_lstore B hd hi hz k
theorem aw_icmp_eq (B : zB X cc nL own nm ret) {x y : Int32} {off : Int} (tgt : Nat) (hd : decode cc pc = .ok (.if_icmp .eq off, 3)) (kt : x = y → AW X rc rs tgt lv st h Ko) (kf : ¬ x = y → AW X rc rs (pc + 3) lv st h Ko) (ht : (pc : Int) + off = (tgt : Int) := by decide) : AW X rc rs pc lv (.int y :: .int x :: st) h Ko := fun H locs ls cells slots a1 a2 a3 a4 a5 => lv_icmp_eq B.1 B.2.1 hd ht (fun c => kt c H locs ls cells slots a1 a2 a3 a4 a5) (fun c => kf c H locs ls cells slots a1 a2 a3 a4 a5)
theorem aw_icmp_ne (B : zB X cc nL own nm ret) {x y : Int32} {off : Int} (tgt : Nat) (hd : decode cc pc = .ok (.if_icmp .ne off, 3)) (kt : ¬ x = y → AW X rc rs tgt lv st h Ko) (kf : x = y → AW X rc rs (pc + 3) lv st h Ko) (ht : (pc : Int) + off = (tgt : Int) := by decide) : AW X rc rs pc lv (.int y :: .int x :: st) h Ko := fun H locs ls cells slots a1 a2 a3 a4 a5 => lv_icmp_ne B.1 B.2.1 hd ht (fun c => kt c H locs ls cells slots a1 a2 a3 a4 a5) (fun c => kf c H locs ls cells slots a1 a2 a3 a4 a5)
theorem aw_icmp_lt (B : zB X cc nL own nm ret) {x y : Int32} {off : Int} (tgt : Nat) (hd : decode cc pc = .ok (.if_icmp .lt off, 3)) (kt : x < y → AW X rc rs tgt lv st h Ko) (kf : ¬ x < y → AW X rc rs (pc + 3) lv st h Ko) (ht : (pc : Int) + off = (tgt : Int) := by decide) : AW X rc rs pc lv (.int y :: .int x :: st) h Ko := fun H locs ls cells slots a1 a2 a3 a4 a5 => lv_icmp_lt B.1 B.2.1 hd ht (fun c => kt c H locs ls cells slots a1 a2 a3 a4 a5) (fun c => kf c H locs ls cells slots a1 a2 a3 a4 a5)
theorem aw_icmp_ge (B : zB X cc nL own nm ret) {x y : Int32} {off : Int} (tgt : Nat) (hd : decode cc pc = .ok (.if_icmp .ge off, 3)) (kt : y ≤ x → AW X rc rs tgt lv st h Ko) (kf : ¬ y ≤ x → AW X rc rs (pc + 3) lv st h Ko) (ht : (pc : Int) + off = (tgt : Int) := by decide) : AW X rc rs pc lv (.int y :: .int x :: st) h Ko := fun H locs ls cells slots a1 a2 a3 a4 a5 => lv_icmp_ge B.1 B.2.1 hd ht (fun c => kt c H locs ls cells slots a1 a2 a3 a4 a5) (fun c => kf c H locs ls cells slots a1 a2 a3 a4 a5)
theorem aw_icmp_gt (B : zB X cc nL own nm ret) {x y : Int32} {off : Int} (tgt : Nat) (hd : decode cc pc = .ok (.if_icmp .gt off, 3)) (kt : y < x → AW X rc rs tgt lv st h Ko) (kf : ¬ y < x → AW X rc rs (pc + 3) lv st h Ko) (ht : (pc : Int) + off = (tgt : Int) := by decide) : AW X rc rs pc lv (.int y :: .int x :: st) h Ko := fun H locs ls cells slots a1 a2 a3 a4 a5 => lv_icmp_gt B.1 B.2.1 hd ht (fun c => kt c H locs ls cells slots a1 a2 a3 a4 a5) (fun c => kf c H locs ls cells slots a1 a2 a3 a4 a5)
theorem aw_icmp_le (B : zB X cc nL own nm ret) {x y : Int32} {off : Int} (tgt : Nat) (hd : decode cc pc = .ok (.if_icmp .le off, 3)) (kt : x ≤ y → AW X rc rs tgt lv st h Ko) (kf : ¬ x ≤ y → AW X rc rs (pc + 3) lv st h Ko) (ht : (pc : Int) + off = (tgt : Int) := by decide) : AW X rc rs pc lv (.int y :: .int x :: st) h Ko := fun H locs ls cells slots a1 a2 a3 a4 a5 => lv_icmp_le B.1 B.2.1 hd ht (fun c => kt c H locs ls cells slots a1 a2 a3 a4 a5) (fun c => kf c H locs ls cells slots a1 a2 a3 a4 a5)
theorem aw_if_eq (B : zB X cc nL own nm ret) {x : Int32} {off : Int} (tgt : Nat) (hd : decode cc pc = .ok (.ifCond .eq off, 3)) (kt : x = 0 → AW X rc rs tgt lv st h Ko) (kf : ¬ x = 0 → AW X rc rs (pc + 3) lv st h Ko) (ht : (pc : Int) + off = (tgt : Int) := by decide) : AW X rc rs pc lv (.int x :: st) h Ko := fun H locs ls cells slots a1 a2 a3 a4 a5 => lv_if_eq B.1 B.2.1 hd ht (fun c => kt c H locs ls cells slots a1 a2 a3 a4 a5) (fun c => kf c H locs ls cells slots a1 a2 a3 a4 a5)
theorem aw_if_ne (B : zB X cc nL own nm ret) {x : Int32} {off : Int} (tgt : Nat) (hd : decode cc pc = .ok (.ifCond .ne off, 3)) (kt : ¬ x = 0 → AW X rc rs tgt lv st h Ko) (kf : x = 0 → AW X rc rs (pc + 3) lv st h Ko) (ht : (pc : Int) + off = (tgt : Int) := by decide) : AW X rc rs pc lv (.int x :: st) h Ko := fun H locs ls cells slots a1 a2 a3 a4 a5 => lv_if_ne B.1 B.2.1 hd ht (fun c => kt c H locs ls cells slots a1 a2 a3 a4 a5) (fun c => kf c H locs ls cells slots a1 a2 a3 a4 a5)
theorem aw_if_lt (B : zB X cc nL own nm ret) {x : Int32} {off : Int} (tgt : Nat) (hd : decode cc pc = .ok (.ifCond .lt off, 3)) (kt : x < 0 → AW X rc rs tgt lv st h Ko) (kf : ¬ x < 0 → AW X rc rs (pc + 3) lv st h Ko) (ht : (pc : Int) + off = (tgt : Int) := by decide) : AW X rc rs pc lv (.int x :: st) h Ko := fun H locs ls cells slots a1 a2 a3 a4 a5 => lv_if_lt B.1 B.2.1 hd ht (fun c => kt c H locs ls cells slots a1 a2 a3 a4 a5) (fun c => kf c H locs ls cells slots a1 a2 a3 a4 a5)
theorem aw_if_ge (B : zB X cc nL own nm ret) {x : Int32} {off : Int} (tgt : Nat) (hd : decode cc pc = .ok (.ifCond .ge off, 3)) (kt : 0 ≤ x → AW X rc rs tgt lv st h Ko) (kf : ¬ 0 ≤ x → AW X rc rs (pc + 3) lv st h Ko) (ht : (pc : Int) + off = (tgt : Int) := by decide) : AW X rc rs pc lv (.int x :: st) h Ko := fun H locs ls cells slots a1 a2 a3 a4 a5 => lv_if_ge B.1 B.2.1 hd ht (fun c => kt c H locs ls cells slots a1 a2 a3 a4 a5) (fun c => kf c H locs ls cells slots a1 a2 a3 a4 a5)
theorem aw_if_gt (B : zB X cc nL own nm ret) {x : Int32} {off : Int} (tgt : Nat) (hd : decode cc pc = .ok (.ifCond .gt off, 3)) (kt : 0 < x → AW X rc rs tgt lv st h Ko) (kf : ¬ 0 < x → AW X rc rs (pc + 3) lv st h Ko) (ht : (pc : Int) + off = (tgt : Int) := by decide) : AW X rc rs pc lv (.int x :: st) h Ko := fun H locs ls cells slots a1 a2 a3 a4 a5 => lv_if_gt B.1 B.2.1 hd ht (fun c => kt c H locs ls cells slots a1 a2 a3 a4 a5) (fun c => kf c H locs ls cells slots a1 a2 a3 a4 a5)
theorem aw_if_le (B : zB X cc nL own nm ret) {x : Int32} {off : Int} (tgt : Nat) (hd : decode cc pc = .ok (.ifCond .le off, 3)) (kt : x ≤ 0 → AW X rc rs tgt lv st h Ko) (kf : ¬ x ≤ 0 → AW X rc rs (pc + 3) lv st h Ko) (ht : (pc : Int) + off = (tgt : Int) := by decide) : AW X rc rs pc lv (.int x :: st) h Ko := fun H locs ls cells slots a1 a2 a3 a4 a5 => lv_if_le B.1 B.2.1 hd ht (fun c => kt c H locs ls cells slots a1 a2 a3 a4 a5) (fun c => kf c H locs ls cells slots a1 a2 a3 a4 a5)
theorem aw_goto (B : zB X cc nL own nm ret) {off : Int} (tgt : Nat) (hd : decode cc pc = .ok (.goto off, 3)) (k : AW X rc rs tgt lv st h Ko) (ht : (pc : Int) + off = (tgt : Int) := by decide) : AW X rc rs pc lv st h Ko := fun H locs ls cells slots a1 a2 a3 a4 a5 => lv_goto B.1 B.2.1 hd ht (k H locs ls cells slots a1 a2 a3 a4 a5)
theorem aw_ifnull (B : zB X cc nL own nm ret) {x : Nat} {off : Int} (hd : decode cc pc = .ok (.ifnull off, 3)) (k : AW X rc rs (pc + 3) lv st h Ko) : AW X rc rs pc lv (.ref x :: st) h Ko := fun H locs ls cells slots a1 a2 a3 a4 a5 => lv_ifnull B.1 B.2.1 hd (k H locs ls cells slots a1 a2 a3 a4 a5)
theorem aw_ifnullN (B : zB X cc nL own nm ret) {off : Int} (tgt : Nat) (hd : decode cc pc = .ok (.ifnull off, 3)) (k : AW X rc rs tgt lv st h Ko) (ht : (pc : Int) + off = (tgt : Int) := by decide) : AW X rc rs pc lv (.null :: st) h Ko := fun H locs ls cells slots a1 a2 a3 a4 a5 => lv_ifnullN B.1 B.2.1 hd ht (k H locs ls cells slots a1 a2 a3 a4 a5)
theorem aw_ifnonnull (B : zB X cc nL own nm ret) {x : Nat} {off : Int} (tgt : Nat) (hd : decode cc pc = .ok (.ifnonnull off, 3)) (k : AW X rc rs tgt lv st h Ko) (ht : (pc : Int) + off = (tgt : Int) := by decide) : AW X rc rs pc lv (.ref x :: st) h Ko := fun H locs ls cells slots a1 a2 a3 a4 a5 => lv_ifnonnull B.1 B.2.1 hd ht (k H locs ls cells slots a1 a2 a3 a4 a5)
theorem aw_ifnonnullN (B : zB X cc nL own nm ret) {off : Int} (hd : decode cc pc = .ok (.ifnonnull off, 3)) (k : AW X rc rs (pc + 3) lv st h Ko) : AW X rc rs pc lv (.null :: st) h Ko := fun H locs ls cells slots a1 a2 a3 a4 a5 => lv_ifnonnullN B.1 B.2.1 hd (k H locs ls cells slots a1 a2 a3 a4 a5)
theorem aw_tableIn (B : zB X cc nL own nm ret) {dflt lo hi : Int} {offs : Array Int} {len : Nat} {x : Int32} {off : Int} (tgt : Nat) (hd : decode cc pc = .ok (.tableswitch dflt lo hi offs, len)) (h1 : ¬ x.toInt < lo) (h2 : ¬ hi < x.toInt) (ho : offs[(x.toInt - lo).toNat]? = some off) (k : AW X rc rs tgt lv st h Ko) (ht : (pc : Int) + off = (tgt : Int) := by decide) : AW X rc rs pc lv (.int x :: st) h Ko := fun H locs ls cells slots a1 a2 a3 a4 a5 => lv_tableIn B.1 B.2.1 hd h1 h2 ho ht (k H locs ls cells slots a1 a2 a3 a4 a5)
theorem aw_tableOut (B : zB X cc nL own nm ret) {dflt lo hi : Int} {offs : Array Int} {len : Nat} {x : Int32} (tgt : Nat) (hd : decode cc pc = .ok (.tableswitch dflt lo hi offs, len)) (h1 : x.toInt < lo ∨ hi < x.toInt) (k : AW X rc rs tgt lv st h Ko) (ht : (pc : Int) + dflt = (tgt : Int) := by decide) : AW X rc rs pc lv (.int x :: st) h Ko := fun H locs ls cells slots a1 a2 a3 a4 a5 => lv_tableOut B.1 B.2.1 hd h1 ht (k H locs ls cells slots a1 a2 a3 a4 a5)
theorem aw_lookup (B : zB X cc nL own nm ret) {dflt : Int} {ps : Array (Int × Int)} {len : Nat} {x : Int32} {off : Int} (tgt : Nat) (hd : decode cc pc = .ok (.lookupswitch dflt ps, len)) (ho : Op.lookupswitch.offset ps.toList dflt x.toInt = off) (k : AW X rc rs tgt lv st h Ko) (hp : (ps.toList.zip (ps.toList.drop 1)).all (fun (a, next) => a.1 < next.1) = true := by decide) (ht : (pc : Int) + off = (tgt : Int) := by decide) : AW X rc rs pc lv (.int x :: st) h Ko := fun H locs ls cells slots a1 a2 a3 a4 a5 => lv_lookup B.1 B.2.1 hd hp ho ht (k H locs ls cells slots a1 a2 a3 a4 a5)
theorem aw_iret (B : zB X cc nL own nm ret) {v : Int32} {ty : FieldType} (hr : ret = some ty) (hn : narrow ty (.int v) = .int v) (hd : decode cc pc = .ok (.ireturn, 1)) (k : Ko (some (.int v)) h) : AW X rc rs pc lv [.int v] h Ko := by
  intro H locs ls cells slots a1 a2 a3 a4 a5
  refine W.widen (Nat.le_trans (Nat.le_add_right _ _) a4) (Nat.le_trans (Nat.le_add_right _ _) a5) ?_
  exact W.zret (ty := ty) B.1 B.2.1 (by rw [B.2.2.2.2.2.2.1]; exact hr) hn (fun t ht hW => ⟨_, h, rfl, k, by rw [ht]; exact a1⟩) a2 hd B.2.2.2.2.2.2.2.1
theorem aw_lret (B : zB X cc nL own nm ret) {v : Int64} (hr : ret = some .long) (hd : decode cc pc = .ok (.lreturn, 1)) (k : Ko (some (.long v)) h) : AW X rc rs pc lv [.long v] h Ko := by
  intro H locs ls cells slots a1 a2 a3 a4 a5
  refine W.widen (Nat.le_trans (Nat.le_add_right _ _) a4) (Nat.le_trans (Nat.le_add_right _ _) a5) ?_
  exact W.lret B.1 B.2.1 (by rw [B.2.2.2.2.2.2.1]; exact hr) (fun t ht hW => ⟨_, h, rfl, k, by rw [ht]; exact a1⟩) a2 hd B.2.2.2.2.2.2.2.1
theorem aw_vret (B : zB X cc nL own nm ret) (hr : ret = none) (hd : decode cc pc = .ok (.return_, 1)) (k : Ko none h) : AW X rc rs pc lv [] h Ko := by
  intro H locs ls cells slots a1 a2 a3 a4 a5
  refine W.widen (Nat.le_trans (Nat.le_add_right _ _) a4) (Nat.le_trans (Nat.le_add_right _ _) a5) ?_
  exact W.vret B.1 B.2.1 (by rw [B.2.2.2.2.2.2.1]; exact hr) (fun t ht hW => ⟨_, h, rfl, k, by rw [ht]; exact a1⟩) a2 hd B.2.2.2.2.2.2.2.1
theorem aw_aret (B : zB X cc nL own nm ret) {v : Value} {rt : FieldType} (hr : ret = some rt) (hrt : (∃ n, rt = .object n) ∨ ∃ t, rt = .array t) (hv : v = .null ∨ ∃ a, v = .ref a) (hd : decode cc pc = .ok (.areturn, 1)) (k : Ko (some v) h) : AW X rc rs pc lv [v] h Ko := by
  intro H locs ls cells slots a1 a2 a3 a4 a5
  refine W.widen (Nat.le_trans (Nat.le_add_right _ _) a4) (Nat.le_trans (Nat.le_add_right _ _) a5) ?_
  exact W.aret B.1 B.2.1 (by rw [B.2.2.2.2.2.2.1]; exact hr) hrt hv (fun t ht hW => ⟨_, h, rfl, k, by rw [ht]; exact a1⟩) a2 hd B.2.2.2.2.2.2.2.1
end ZRULES
end
section
section ZHEAP
variable {X : zX} {cc : ByteArray} {nL : Nat} {own nm : String} {ret : Option FieldType} {rc rs pc : Nat} {lv : List (Option Value)} {st : List Value} {h : Hp} {Ko : Option Value → Hp → Prop}
theorem zR.up {g : zG} {H H1 : Heap} {a : Nat} {e e0 : va_E} (r : zR g h H) (h0 : h.2 a = some e0) (hz : H1.size = H.size) (oq : ∀ q, q ≠ a → H1[q]? = H[q]?) (he : va_at g.1 vwCl (a, e) H1) : zR g (hp_up h a e) H1 := by
  obtain ⟨r1, r2, r3, r4⟩ := r
  refine ⟨hz.trans r1, r2, fun q hq => ?_, fun b e' hb => ?_⟩
  · have := (r4 a e0 h0).1
    rw [oq q (by omega)]
    exact r3 q hq
  · unfold hp_up at hb
    by_cases hba : b = a
    · simp only [hba, if_true, Option.some.injEq] at hb
      rw [hba, ← hb]
      exact ⟨(r4 a e0 h0).1, he⟩
    · simp only [if_neg hba] at hb
      exact ⟨(r4 b e' hb).1, (r4 b e' hb).2.kept (oq b hba)⟩
theorem zR.new {g : zG} {H H1 : Heap} {e : va_E} (r : zR g h H) (hz : H1.size = H.size + 1) (oq : ∀ q, q < H.size → H1[q]? = H[q]?) (he : va_at g.1 vwCl (h.1, e) H1) : zR g (hp_new h e) H1 := by
  obtain ⟨r1, r2, r3, r4⟩ := r
  refine ⟨by rw [hz, r1]; rfl, Nat.le_succ_of_le r2, fun q hq => ?_, fun b e' hb => ?_⟩
  · rw [oq q (by omega)]
    exact r3 q hq
  · unfold hp_new at hb
    by_cases hba : b = h.1
    · simp only [hba, if_true, Option.some.injEq] at hb
      rw [hba, ← hb]
      exact ⟨r2, he⟩
    · simp only [if_neg hba] at hb
      obtain ⟨q1, q2⟩ := r4 b e' hb
      exact ⟨q1, q2.kept (oq b q2.lt)⟩
theorem zP1 {g : zG} {H : Heap} {a : Nat} {e : va_E} (r : zR g h H) (h0 : h.2 a = some e) : va_P g.1 vwCl [(a, e)] H := by
  intro j q hq
  have hj : j < 1 := (List.getElem?_eq_some_iff.mp hq).1
  rw [show j = 0 by omega] at hq
  cases hq
  exact (r.2.2.2 a e h0).2
/-- a row of the pool that names a field: place k of class ci -/
def zFL (own : String) (idx ci k : Nat) (fin dec : Bool) (ty : FieldType) : Prop :=
  ∃ (C ref : String) (T : u_T) (N : Nat) (ty0 : Nat → FieldType), vwCl[ci]? = some (C, T, N) ∧ k < N ∧ (∀ w ∈ u_ws C T N, w ∈ zT) ∧ (∀ k, k < N → parseFieldDescriptor (T k).2.2.1 = some (ty0 k)) ∧ (∀ a, a < N → ∀ b, b < N → a ≠ b → (T a).2.1 ≠ (T b).2.1) ∧ ty0 k = ty ∧ (T k).2.2.2 = fin ∧ (dec = true → (T k).1 = own) ∧ (Cond.fieldLink own idx ref (T k).2.1 (T k).2.2.1 ∈ zT ∨ ∃ host, (own, idx, ref, (T k).2.1, (T k).2.2.1, host) ∈ zNF) ∧ (ref = (T k).1 ∨ Cond.sameField ref (T k).1 (T k).2.1 (T k).2.2.1 ∈ zT)
theorem aw_get (B : zB X cc nL own nm ret) {idx ci k a : Nat} {fin dec : Bool} {ty : FieldType} {fs : List Value} {v : Value} (F : zFL own idx ci k fin dec ty) (hd : decode cc pc = .ok (.getfield idx, 3)) (hh : h.2 a = some (.inr (ci, fs))) (hv : fs[k]? = some v) (kk : AW X rc rs (pc + 3) lv (v :: st) h Ko) : AW X rc rs pc lv (.ref a :: st) h Ko := by
  intro H locs ls cells slots a1 a2 a3 a4 a5
  obtain ⟨C, ref, T, N, ty0, hc, hk, hin, hty, hnm, -, -, -, hl, hs⟩ := F
  have hP := zP1 a1 hh
  have hsame : ∀ x, X.2.1.1.fieldFound? (T k).1 (T k).2.1 (T k).2.2.1 = some x → X.2.1.1.fieldFound? ref (T k).2.1 (T k).2.2.1 = some x := by
    rcases hs with rfl | hs
    · exact fun _ z => z
    · exact fun x hx => u_same (B.2.2.2.2.1 _ hs) x hx
  rcases hl with hl | ⟨host, hl⟩
  · exact va_get B.1 B.2.1 B.2.2.2.2.1 hin B.2.2.2.1 B.2.2.2.2.2.1.1 hP 0 rfl hc k hk (B.2.2.2.2.1 _ hl) hsame hv hd (kk H locs ls cells slots a1 a2 a3 a4 a5)
  · exact va_getN B.1 B.2.1 B.2.2.2.2.1 hin B.2.2.2.1 B.2.2.2.2.2.1.1 hP 0 rfl hc k hk (va_Nw.use rfl (B.2.2.2.2.2.1.2.1.1 _ hl)) hsame hv hd (kk H locs ls cells slots a1 a2 a3 a4 a5)
theorem aw_put (B : zB X cc nL own nm ret) {idx ci k a : Nat} {dec : Bool} {ty : FieldType} {fs : List Value} {v : Value} (F : zFL own idx ci k false dec ty) (hd : decode cc pc = .ok (.putfield idx, 3)) (hh : h.2 a = some (.inr (ci, fs))) (hn : narrow ty v = v) (hfit : fits ty v = true) (hl0 : k < fs.length) (kk : AW X rc rs (pc + 3) lv st (hp_up h a (.inr (ci, fs.set k v))) Ko) : AW X rc rs pc lv (v :: .ref a :: st) h Ko := by
  intro H locs ls cells slots a1 a2 a3 a4 a5
  obtain ⟨C, ref, T, N, ty0, hc, hk, hin, hty, hnm, hty1, hfin, -, hl, hs⟩ := F
  have hts := B.2.2.2.2.1
  have hK := B.2.2.2.2.2.1.1
  have hsame : ∀ x, X.2.1.1.fieldFound? (T k).1 (T k).2.1 (T k).2.2.1 = some x → X.2.1.1.fieldFound? ref (T k).2.1 (T k).2.2.1 = some x := by
    rcases hs with rfl | hs
    · exact fun _ z => z
    · exact fun x hx => u_same (hts _ hs) x hx
  have hap := va_apart (own := own) hts hin ty0 hty hnm hK hc
  obtain ⟨r, h1, cell, q1, q2, q3, q4⟩ := (a1.2.2.2 a _ hh).2
  have hr : r = (C, T, N) := Option.some.inj (h1.symm.trans hc)
  subst hr
  obtain ⟨hS, hfc, kC, hkC, hkind⟩ := hK.1 ci _ hc
  obtain ⟨cf, kf, fi, f, hi, hsl⟩ := hS k hk
  have hlay := hts _ (hin _ (u_in_lay hk))
  unfold u_lay at hlay
  rw [if_neg (by rw [hfin]; decide)] at hlay
  have hst := (u_facts hfc hkC (u_lays hts hin hk) hi).1
  have h6 := u_store hfc hkC hkind hlay hi (by rw [hty k hk, hty1]) hn hfit
  have fin : ∀ H' : Heap, H'[a]? = some (cell.setSlot f.slot v) → H'.size = H.size → (∀ q, q ≠ a → H'[q]? = H[q]?) → zR (zXg X) (hp_up h a (.inr (ci, fs.set k v))) H' := by
    intro H' e1 e2 e3
    refine a1.up hh e2 e3 ?_
    rw [hsl] at e1
    exact ⟨_, hc, t_OB.to (V := updV (vp_V fs) k v) ⟨_, e1, q2, q3, t_set q4 hap hk v⟩ (fun j _ => vp_updV_set hl0 v j)⟩
  have hlocs : ∀ q ∈ locs ++ [⟨a, f.slot⟩], zb (zXg X) ≤ q.base := fun q hq => by
    rcases List.mem_append.mp hq with hq | hq
    · exact a2 q hq
    · rw [List.mem_singleton.mp hq]; exact (a1.2.2.2 a _ hh).1
  rcases hl with hl | ⟨host, hl⟩
  · refine W.putK B.1 B.2.1 (f := f) ⟨B.2.2.2.1, hts _ hl, ⟨_, _, _, hsame _ hi⟩, hst⟩ (by rw [q2]; exact h6) q1 q3 (by rw [hsl]; exact k2_hasslot (q4 k hk)) rfl rfl hd fun H' e1 e2 e3 => ?_
    exact kk H' _ ls cells slots (fin H' e1 e2 e3) hlocs a3 a4 a5
  · refine va_WputK B.1 B.2.1 (f := f) B.2.2.2.1 (va_Nw.use rfl (B.2.2.2.2.2.1.2.1.1 _ hl)) (hsame _ hi) hst (by rw [q2]; exact h6) q1 q3 (by rw [hsl]; exact k2_hasslot (q4 k hk)) rfl rfl hd fun H' e1 e2 e3 => ?_
    exact kk H' _ ls cells slots (fin H' e1 e2 e3) hlocs a3 a4 a5
theorem aw_putF (B : zB X cc nL own nm ret) {idx ci k a : Nat} {ty : FieldType} {fs : List Value} {v : Value} (hnm : nm = "<init>") (F : zFL own idx ci k true true ty) (hlk : ∀ q ∈ zNF, ¬ (q.1 = own ∧ q.2.1 = idx)) (hd : decode cc pc = .ok (.putfield idx, 3)) (hh : h.2 a = some (.inr (ci, fs))) (hn : narrow ty v = v) (hfit : fits ty v = true) (hl0 : k < fs.length) (kk : AW X rc rs (pc + 3) lv st (hp_up h a (.inr (ci, fs.set k v))) Ko) : AW X rc rs pc lv (v :: .ref a :: st) h Ko := by
  intro H locs ls cells slots a1 a2 a3 a4 a5
  obtain ⟨C, ref, T, N, ty0, hc, hk, hin, hty, hnmT, hty1, hfin, hdec, hl, hs⟩ := F
  have hts := B.2.2.2.2.1
  have hK := B.2.2.2.2.2.1.1
  have hsame : ∀ x, X.2.1.1.fieldFound? (T k).1 (T k).2.1 (T k).2.2.1 = some x → X.2.1.1.fieldFound? ref (T k).2.1 (T k).2.2.1 = some x := by
    rcases hs with rfl | hs
    · exact fun _ z => z
    · exact fun x hx => u_same (hts _ hs) x hx
  have hap := va_apart (own := own) hts hin ty0 hty hnmT hK hc
  obtain ⟨r, h1, cell, q1, q2, q3, q4⟩ := (a1.2.2.2 a _ hh).2
  have hr : r = (C, T, N) := Option.some.inj (h1.symm.trans hc)
  subst hr
  obtain ⟨hS, hfc, kC, hkC, hkind⟩ := hK.1 ci _ hc
  obtain ⟨cf, kf, fi, f, hi, hsl⟩ := hS k hk
  have hlay := hts _ (hin _ (u_in_lay hk))
  unfold u_lay at hlay
  rw [if_pos hfin] at hlay
  have hst := (u_facts hfc hkC (u_lays hts hin hk) hi).1
  have hcf : X.2.1.2.1.cls = cf := by
    obtain ⟨_, _, c', _, _, _, -, -, hf', -, -, -, hown2, -⟩ := Cond.laysFinal_spec hlay
    have e1 : c' = cf := by have := hi.symm.trans hf'; simp at this; exact this.1.symm
    rw [hdec rfl] at hown2
    rw [← e1]; exact Option.some.inj (B.2.2.2.1.symm.trans hown2)
  have h6 := u_fits hfc hkC hkind (Or.inr hlay) hi (by rw [hty k hk, hty1]) hn hfit
  have fin : ∀ H' : Heap, H'[a]? = some (cell.setSlot f.slot v) → H'.size = H.size → (∀ q, q ≠ a → H'[q]? = H[q]?) → zR (zXg X) (hp_up h a (.inr (ci, fs.set k v))) H' := by
    intro H' e1 e2 e3
    refine a1.up hh e2 e3 ?_
    rw [hsl] at e1
    exact ⟨_, hc, t_OB.to (V := updV (vp_V fs) k v) ⟨_, e1, q2, q3, t_set q4 hap hk v⟩ (fun j _ => vp_updV_set hl0 v j)⟩
  have hlocs : ∀ q ∈ locs ++ [⟨a, f.slot⟩], zb (zXg X) ≤ q.base := fun q hq => by
    rcases List.mem_append.mp hq with hq | hq
    · exact a2 q hq
    · rw [List.mem_singleton.mp hq]; exact (a1.2.2.2 a _ hh).1
  rcases hl with hl | ⟨host, hl⟩
  · refine W.putFinK B.1 B.2.1 B.2.2.2.1 (hts _ hl) (hsame _ hi) hst hcf (B.2.2.2.2.2.2.2.2.trans hnm) (by rw [q2]; exact h6) q1 q3 (by rw [hsl]; exact k2_hasslot (q4 k hk)) rfl rfl hd fun H' e1 e2 e3 => ?_
    exact kk H' _ ls cells slots (fin H' e1 e2 e3) hlocs a3 a4 a5
  · exact absurd ⟨rfl, rfl⟩ (hlk _ hl)
theorem aw_iald (B : zB X cc nL own nm ret) {a n : Nat} {f : Nat → Int32} {i : Int32} (hd : decode cc pc = .ok (.iaload, 1)) (hh : h.2 a = some (.inl ((zXg X).2.2.1.1, n, .inl f))) (hin : vp_in i n) (kk : AW X rc rs (pc + 1) lv (.int (f i.toNatClampNeg) :: st) h Ko) : AW X rc rs pc lv (.int i :: .ref a :: st) h Ko := fun H locs ls cells slots a1 a2 a3 a4 a5 =>
  va_iald B.1 B.2.1 B.2.2.2.2.2.1.1 (zP1 a1 hh) 0 0 rfl rfl hin hd (kk H locs ls cells slots a1 a2 a3 a4 a5)
theorem aw_zald (B : zB X cc nL own nm ret) {a n : Nat} {f : Nat → Int32} {i : Int32} (hd : decode cc pc = .ok (.baload, 1)) (hh : h.2 a = some (.inl ((zXg X).2.2.1.2.1, n, .inl f))) (hin : vp_in i n) (kk : AW X rc rs (pc + 1) lv (.int (f i.toNatClampNeg) :: st) h Ko) : AW X rc rs pc lv (.int i :: .ref a :: st) h Ko := fun H locs ls cells slots a1 a2 a3 a4 a5 =>
  va_zald B.1 B.2.1 B.2.2.2.2.2.1.1 (zP1 a1 hh) 0 1 rfl rfl hin hd (kk H locs ls cells slots a1 a2 a3 a4 a5)
theorem aw_aald (B : zB X cc nL own nm ret) {a n : Nat} {f : Nat → Option Nat} {i : Int32} (hd : decode cc pc = .ok (.aaload, 1)) (hh : h.2 a = some (.inl ((zXg X).2.2.1.2.2, n, .inr (.inr (.inr (.inr f)))))) (hin : vp_in i n) (kk : AW X rc rs (pc + 1) lv (va_rf (f i.toNatClampNeg) :: st) h Ko) : AW X rc rs pc lv (.int i :: .ref a :: st) h Ko := fun H locs ls cells slots a1 a2 a3 a4 a5 =>
  va_aldq B.1 B.2.1 B.2.2.2.2.2.1.1 (zP1 a1 hh) 0 2 rfl rfl hin hd (kk H locs ls cells slots a1 a2 a3 a4 a5)
theorem aw_alen (B : zB X cc nL own nm ret) {a : Nat} {x : vp_A} {cA : ClassId} (hd : decode cc pc = .ok (.arraylength, 1)) (hh : h.2 a = some (.inl (cA, x))) (hc : cA = (zXg X).2.2.1.1 ∨ cA = (zXg X).2.2.1.2.1 ∨ cA = (zXg X).2.2.1.2.2) (kk : AW X rc rs (pc + 1) lv (.int (nI x.1) :: st) h Ko) : AW X rc rs pc lv (.ref a :: st) h Ko := by
  intro H locs ls cells slots a1 a2 a3 a4 a5
  rcases hc with rfl | rfl | rfl
  · exact va_alen B.1 B.2.1 B.2.2.2.2.2.1.1 (zP1 a1 hh) 0 0 rfl rfl rfl hd (kk H locs ls cells slots a1 a2 a3 a4 a5)
  · exact va_alen B.1 B.2.1 B.2.2.2.2.2.1.1 (zP1 a1 hh) 0 1 rfl rfl rfl hd (kk H locs ls cells slots a1 a2 a3 a4 a5)
  · exact va_alen B.1 B.2.1 B.2.2.2.2.2.1.1 (zP1 a1 hh) 0 2 rfl rfl rfl hd (kk H locs ls cells slots a1 a2 a3 a4 a5)
theorem zlocs {g : zG} {H : Heap} {a j : Nat} {e : va_E} {locs : List Loc} (a1 : zR g h H) (hh : h.2 a = some e) (a2 : ∀ q ∈ locs, zb g ≤ q.base) : ∀ q ∈ locs ++ [⟨a, j⟩], zb g ≤ q.base := fun q hq => by
  rcases List.mem_append.mp hq with hq | hq
  · exact a2 q hq
  · rw [List.mem_singleton.mp hq]; exact (a1.2.2.2 a _ hh).1
theorem aw_iast (B : zB X cc nL own nm ret) {a n : Nat} {f : Nat → Int32} {i x : Int32} (hd : decode cc pc = .ok (.iastore, 1)) (hh : h.2 a = some (.inl ((zXg X).2.2.1.1, n, .inl f))) (hin : vp_in i n) (kk : AW X rc rs (pc + 1) lv st (hp_up h a (.inl ((zXg X).2.2.1.1, n, .inl (upd f i.toNatClampNeg x)))) Ko) : AW X rc rs pc lv (.int x :: .int i :: .ref a :: st) h Ko := by
  intro H locs ls cells slots a1 a2 a3 a4 a5
  refine W.iast B.1 B.2.1 (a1.2.2.2 a _ hh).2 ((B.2.2.2.2.2.1.1.2 0 _ rfl).1 n (fun j => .int (f j))) (fun q => by cases q) (by show ¬ (i < 0 ∨ (arrV _ _ _).slots.size ≤ _); rw [arrV_size]; exact hin) rfl rfl hd fun H1 e z oq => ?_
  refine kk H1 _ ls cells slots (a1.up hh z oq ?_) (zlocs a1 hh a2) a3 a4 a5
  show H1[a]? = some (vp_cell _ _)
  rw [e]
  rw [vp_cell_i, vp_cell_i, arrV_store]
  congr 2
  funext q
  by_cases hq : q = i.toNatClampNeg
  · subst hq
    simp [updV, upd]
  · simp [updV, upd, hq]
theorem aw_zast (B : zB X cc nL own nm ret) {a n : Nat} {f : Nat → Int32} {i x : Int32} (hd : decode cc pc = .ok (.bastore, 1)) (hh : h.2 a = some (.inl ((zXg X).2.2.1.2.1, n, .inl f))) (hin : vp_in i n) (kk : AW X rc rs (pc + 1) lv st (hp_up h a (.inl ((zXg X).2.2.1.2.1, n, .inl (upd f i.toNatClampNeg (vp_nar .boolean x))))) Ko) : AW X rc rs pc lv (.int x :: .int i :: .ref a :: st) h Ko := by
  intro H locs ls cells slots a1 a2 a3 a4 a5
  refine W.zast B.1 B.2.1 (a1.2.2.2 a _ hh).2 ((B.2.2.2.2.2.1.1.2 1 _ rfl).1 n (fun j => .int (f j))) (fun q => by cases q) (by show ¬ (i < 0 ∨ (arrV _ _ _).slots.size ≤ _); rw [arrV_size]; exact hin) rfl rfl hd fun H1 e z oq => ?_
  refine kk H1 _ ls cells slots (a1.up hh z oq ?_) (zlocs a1 hh a2) a3 a4 a5
  show H1[a]? = some (vp_cell _ _)
  rw [e]
  rw [vp_cell_i, vp_cell_i, arrV_store]
  congr 2
  funext q
  by_cases hq : q = i.toNatClampNeg
  · subst hq
    simp [updV, upd, vp_nar]
    try rfl
  · simp [updV, upd, hq]
theorem aw_aast (B : zB X cc nL own nm ret) {a n v ci : Nat} {vs : List Value} {r : vw_C} {f : Nat → Option Nat} {i : Int32} (hd : decode cc pc = .ok (.aastore, 1)) (hh : h.2 a = some (.inl ((zXg X).2.2.1.2.2, n, .inr (.inr (.inr (.inr f)))))) (hin : vp_in i n) (hv : h.2 v = some (.inr (ci, vs))) (hc : vwCl[ci]? = some r) (hcast : ∃ cC comp : ClassId, X.2.1.1.vm.findClass r.1 = some cC ∧ X.2.1.1.vm.findClass "LowWater$Reader" = some comp ∧ X.2.1.1.vm.assignable cC comp = true) (kk : AW X rc rs (pc + 1) lv st (hp_up h a (.inl ((zXg X).2.2.1.2.2, n, .inr (.inr (.inr (.inr (va_up f i.toNatClampNeg (some v)))))))) Ko) : AW X rc rs pc lv (.ref v :: .int i :: .ref a :: st) h Ko := by
  intro H locs ls cells slots a1 a2 a3 a4 a5
  have hlt : i.toNatClampNeg < n := Nat.not_le.mp fun q => hin (Or.inr q)
  have h0 : ¬ i < 0 := fun q => hin (Or.inl q)
  have hK := B.2.2.2.2.2.1.1
  obtain ⟨r', hr', cellV, g1, g2, g3, -⟩ := (a1.2.2.2 v _ hv).2
  have hcls := (hK.1 ci r hc).2
  obtain ⟨kA, comp, k1, k2, k3, -⟩ := (hK.2 2 _ rfl).2
  obtain ⟨cC, comp', f1, f2, f3⟩ := hcast
  have hcomp : comp' = comp := Option.some.inj (f2.symm.trans k3)
  subst hcomp
  have hcc : cC = (zXg X).1.1 ci := Option.some.inj (f1.symm.trans hcls.1)
  subst hcc
  obtain ⟨kC, hkC, -⟩ := hcls.2
  obtain ⟨kR, hkR, -⟩ := (hK.1 6 (RX6, TX6, 2) rfl).2.2
  have hR6 : (zXg X).1.1 6 = comp' := Option.some.inj ((hK.1 6 (RX6, TX6, 2) rfl).2.1.symm.trans k3)
  rw [hR6] at hkR
  refine W.aast B.1 B.2.1 (a1.2.2.2 a _ hh).2 (fun q h => by cases h) (fun h => by cases h) k1 k2 rfl hkR ⟨h0, by show _ < (arrV _ _ _).slots.size; rw [arrV_size]; exact hlt⟩ g1 (fun q h => by rw [g3] at h; cases h) (by rw [g2]; exact hkC) (by rw [g2]; exact f3) rfl rfl hd fun H1 e z oq => ?_
  refine kk H1 _ ls cells slots (a1.up hh z oq ?_) (zlocs a1 hh a2) a3 a4 a5
  show H1[a]? = some (vp_cell _ _)
  rw [e]
  rw [vp_cell_q, vp_cell_q, arrV_store]
  congr 2
  funext q
  by_cases hq : q = i.toNatClampNeg
  · subst hq
    simp [updV, va_up, va_rf]
  · simp [updV, va_up, hq]
theorem aw_newi (B : zB X cc nL own nm ret) (N : Nat) {n : Int32} (rc' rs' : Nat) (hd : decode cc pc = .ok (.newarray .int, 2)) (harr : Cond.arrayClass .int ∈ zT) (hn : ¬ n < 0) (hN : n.toNatClampNeg = N) (hb : N * 4 ≤ 536870912) (hc : rc' + 1 ≤ rc) (hs : rs' + N ≤ rs) (kk : AW X rc' rs' (pc + 2) lv (.ref h.1 :: st) (hp_new h (.inl ((zXg X).2.2.1.1, N, .inl (fun _ => 0)))) Ko) : AW X rc rs pc lv (.int n :: st) h Ko := by
  intro H locs ls cells slots a1 a2 a3 a4 a5
  refine va_newaK (atype := .int) B.1 B.2.1 (B.2.2.2.2.1 _ harr) rfl hd rfl hn hN hb (by omega) (by omega) a1.1 fun H1 cA e1 z1 o1 hAr hNm => ?_
  have hcA : cA = (zXg X).2.2.1.1 := Option.some.inj (hNm.symm.trans (B.2.2.2.2.2.1.1.2 0 _ rfl).2)
  subst hcA
  exact kk H1 locs ls (cells + 1) (slots + N) (a1.new (by rw [z1, a1.1]) (fun q hq => o1 q (by rw [← a1.1]; exact hq)) e1) a2 a3 (by omega) (by omega)
theorem aw_newz (B : zB X cc nL own nm ret) (N : Nat) {n : Int32} (rc' rs' : Nat) (hd : decode cc pc = .ok (.newarray .boolean, 2)) (harr : Cond.arrayClass .boolean ∈ zT) (hn : ¬ n < 0) (hN : n.toNatClampNeg = N) (hb : N * 1 ≤ 536870912) (hc : rc' + 1 ≤ rc) (hs : rs' + N ≤ rs) (kk : AW X rc' rs' (pc + 2) lv (.ref h.1 :: st) (hp_new h (.inl ((zXg X).2.2.1.2.1, N, .inl (fun _ => 0)))) Ko) : AW X rc rs pc lv (.int n :: st) h Ko := by
  intro H locs ls cells slots a1 a2 a3 a4 a5
  refine va_newaK (atype := .boolean) B.1 B.2.1 (B.2.2.2.2.1 _ harr) rfl hd rfl hn hN hb (by omega) (by omega) a1.1 fun H1 cA e1 z1 o1 hAr hNm => ?_
  have hcA : cA = (zXg X).2.2.1.2.1 := Option.some.inj (hNm.symm.trans (B.2.2.2.2.2.1.1.2 1 _ rfl).2)
  subst hcA
  exact kk H1 locs ls (cells + 1) (slots + N) (a1.new (by rw [z1, a1.1]) (fun q hq => o1 q (by rw [← a1.1]; exact hq)) e1) a2 a3 (by omega) (by omega)
theorem aw_newr (B : zB X cc nL own nm ret) (N : Nat) {n : Int32} {idx : Nat} (rc' rs' : Nat) (hd : decode cc pc = .ok (.anewarray idx, 3)) (hcl : Cond.classLink own idx "LowWater$Reader" ∈ zT) (hn : ¬ n < 0) (hN : n.toNatClampNeg = N) (hb : N * 4 ≤ 536870912) (hc : rc' + 1 ≤ rc) (hs : rs' + N ≤ rs) (kk : AW X rc' rs' (pc + 3) lv (.ref h.1 :: st) (hp_new h (.inl ((zXg X).2.2.1.2.2, N, .inr (.inr (.inr (.inr (fun _ => none))))))) Ko) : AW X rc rs pc lv (.int n :: st) h Ko := by
  intro H locs ls cells slots a1 a2 a3 a4 a5
  subst hN
  refine W.anew B.1 B.2.1 B.2.2.2.1 (B.2.2.2.2.1 _ hcl) (va_AO.use B.2.2.2.2.2.1.2.2.2) rfl hd rfl hn hb (by omega) (by omega) fun cA kA comp f1 f2 f3 f4 => ?_
  obtain ⟨kA', comp', g1, g2, g3, g4⟩ := (B.2.2.2.2.2.1.1.2 2 _ rfl).2
  have hcA : cA = (zXg X).2.2.1.2.2 := Option.some.inj (f1.symm.trans g4)
  subst hcA
  rw [a1.1]
  refine kk _ locs ls (cells + 1) (slots + n.toNatClampNeg) (a1.new ?_ ?_ ?_) a2 a3 (by omega) (by omega)
  · simp
  · intro q hq
    rw [Array.getElem?_push, if_neg (Nat.ne_of_lt hq)]
  · show _ = some (vp_cell _ _)
    rw [vp_cell_q, ← a1.1, Array.getElem?_push_size, ← arrV_new]
    rfl
/-- a row of the pool that names a class of ours, for 'new' -/
def zNW (own : String) (idx ci N : Nat) (fs : List Value) : Prop :=
  ∃ (C : String) (T : u_T) (ty0 : Nat → FieldType), vwCl[ci]? = some (C, T, N) ∧ (∀ w ∈ u_ws C T N, w ∈ zT) ∧ (∀ k, k < N → parseFieldDescriptor (T k).2.2.1 = some (ty0 k)) ∧ Cond.classLink own idx C ∈ zT ∧ Cond.instantiable C N ∈ zT ∧ Cond.initialized C ∈ zT ∧ ∀ j, j < N → defaultValue (ty0 j) = vp_V fs j
theorem aw_new (B : zB X cc nL own nm ret) {idx ci N : Nat} {fs : List Value} (rc' rs' : Nat) (F : zNW own idx ci N fs) (hd : decode cc pc = .ok (.new idx, 3)) (hc : rc' + 1 ≤ rc) (hs : rs' + N ≤ rs) (kk : AW X rc' rs' (pc + 3) lv (.ref h.1 :: st) (hp_new h (.inr (ci, fs))) Ko) : AW X rc rs pc lv st h Ko := by
  intro H locs ls cells slots a1 a2 a3 a4 a5
  obtain ⟨C, T, ty0, hcl, hin, hty, w1, w2, w3, hfs⟩ := F
  have hts := B.2.2.2.2.1
  have hKn := B.2.2.2.2.2.1.1.1 ci _ hcl
  refine W.newcK B.1 B.2.1 B.2.2.2.1 (hts _ w1) (hts _ w2) (hts _ w3) rfl hd (by omega) (by omega) hKn.2.1 a1.1 fun H1 kC hkC e1 z1 o1 => ?_
  refine kk H1 locs ls (cells + 1) (slots + N) (a1.new (by rw [z1, a1.1]) (fun q hq => o1 q (by rw [← a1.1]; exact hq)) ?_) a2 a3 (by omega) (by omega)
  exact ⟨_, hcl, (u_born ty0 hts hin hKn hkC e1 hty).to hfs⟩
end ZHEAP
end
section
section ZCALLS
variable {X : zX} {cc : ByteArray} {nL : Nat} {own nm : String} {ret : Option FieldType} {rc rs pc : Nat} {lv : List (Option Value)} {st : List Value} {h : Hp} {Ko : Option Value → Hp → Prop}
theorem zGood {ws : List Cond} (h : ∀ w ∈ ws, w ∈ zT) : GoodIn zT ws := fun w hw => ⟨h w hw, zT_good (h w hw)⟩
/-- what a callee asks of the tables -/
def zCo (y : MethodName) (cc : ByteArray) (maxL : Nat) (ret : Option FieldType) (n : Nat) : Prop := Cond.code y cc maxL ret ∈ zT ∧ Cond.initialized y.cls ∈ zT ∧ y.cls ≠ "java/lang/invoke/MethodHandle" ∧ y.cls ≠ "java/lang/invoke/VarHandle" ∧ (parseMethodDescriptor y.desc).map (fun d => d.parameters.length) = some n
theorem zCo.good {y : MethodName} {cc : ByteArray} {maxL n : Nat} {ret : Option FieldType} (F : zCo y cc maxL ret n) : GoodIn zT (Cond.code y cc maxL ret :: zT) := zGood fun w hw => (List.mem_cons.mp hw).elim (fun e => e ▸ F.1) id
/-- behind a call -/
theorem aw_run {mc ms : Nat} {rest : List Value} {Ko' : Option Value → Hp → Prop} (al : Array Value) (rc' rs' : Nat) (hc : rc' + mc ≤ rc) (hs : rs' + ms ≤ rs)
    (hr : ∀ (H : Heap) (locs : List Loc) (ls : Array Slot) (cells slots : Nat), zR (zXg X) h H → ls.size = X.2.2.1.2.2.maxLocals → cells + mc ≤ X.2.2.2.2.cells → slots + ms ≤ X.2.2.2.2.slots → va_Run X.1.1 X.1.2.1 X.1.2.2 X.2.2.2.2 X.2.1.1 X.2.1.2.1 X.2.1.2.2 X.2.2.1.1 X.2.2.1.2.1 X.2.2.1.2.2 H locs cells slots mc ms (F0 X.2.1.2.1 pc ls st) rest (zQ (zXg X) Ko' al) (fun q => zb (zXg X) ≤ q))
    (kk : ∀ v h', Ko' v h' → AW X rc' rs' (pc + 3) lv (v.toList ++ rest) h' Ko) : AW X rc rs pc lv st h Ko := by
  intro H locs ls cells slots a1 a2 a3 a4 a5
  intro T hT Xs
  obtain ⟨v, st₀, t, T', L, h0, X', hL, e1, e2, ⟨v', h', ho, hk, hR⟩, stp⟩ := hr H locs ls cells slots a1 a3.size (by omega) (by omega) T hT Xs
  cases ho
  obtain ⟨t2, b1, b2⟩ := kk v h' hk T'.heap (locs ++ L) ls (cells + mc) (slots + ms) (by rw [e1]; exact hR) (fun q hq => (List.mem_append.mp hq).elim (a2 q) (hL q)) a3 (by omega) (by omega) T' rfl X'
  exact ⟨t2, stp t2 b1, b2⟩
def zRoom (rm R : Room) (maxL : Nat) : Prop := rm.frames + 1 ≤ R.frames ∧ 8 + (maxL + 11) + rm.locals ≤ R.locals
theorem zrecv {H : Heap} {b ci : Nat} {fs : List Value} {r : vw_C} (B : zB X cc nL own nm ret) (a1 : zR (zXg X) h H) (hh : h.2 b = some (.inr (ci, fs))) (hc : vwCl[ci]? = some r) : ∃ cell : Cell, H[b]? = some cell ∧ cell.vm.isStatics = false ∧ X.2.1.1.vm.findClass r.1 = some cell.cls := va_recv B.2.2.2.2.2.1.1 (zP1 a1 hh) hc (q0 := 0) rfl
theorem zpc {H : Heap} {av : List Value} (B : zB X cc nL own nm ret) (a1 : zR (zXg X) h H) : ∀ U : State, U.heap = H → X.2.1.1.WarmedH U.vm → va_Pc av (fun U => zR (zXg X) h U.heap ∧ zK (zXg X) U) av.toArray U := fun U hU hW => ⟨rfl, by rw [hU]; exact a1, B.2.2.2.2.2.1.warm hW⟩
theorem zcb {y : MethodName} {cc' : ByteArray} {maxL n idx : Nat} {ret' : Option FieldType} {rm : Room} (B : zB X cc nL own nm ret) (F : zCo y cc' maxL ret' n) (hl : Cond.methodLink own idx y ∈ zT) (hR : zRoom rm X.2.2.2.2 maxL) : CallB X.2.2.2.2 X.2.1.1 X.2.1.2.2 own idx y cc' maxL ret' (Cond.code y cc' maxL ret' :: zT) rm rm.cells rm.slots n :=
  callB_of n B.2.2.2.2.1 F.good rfl rfl rfl (B.2.2.2.2.1 _ F.2.1) (B.2.2.2.2.1 _ hl) ⟨F.2.2.1, F.2.2.2.1, F.2.2.2.2⟩ hR
/-- invokevirtual, the receiver's class is the method's own -/
theorem aw_callV {idx n maxL ci : Nat} {b : Nat} {As rest fs : List Value} {y : MethodName} {cc' : ByteArray} {ret' : Option FieldType} {rm : Room} {Ko' : Option Value → Hp → Prop} {r : vw_C} (B : zB X cc nL own nm ret) (rc' rs' : Nat) (S : Sp X.1.2.1 (zXg X) y cc' maxL ret' rm (.ref b :: As) h Ko') (F : zCo y cc' maxL ret' n) (Lk : Cond.methodLink own idx y ∈ zT ∧ Cond.instanceMethod y ∈ zT ∧ Cond.selects y.cls y y ∈ zT) (hd : decode cc pc = .ok (.invokevirtual idx, 3)) (hh : h.2 b = some (.inr (ci, fs))) (hcl : vwCl[ci]? = some r) (hcn : r.1 = y.cls) (hst : st = As.reverse ++ .ref b :: rest) (hn : As.length = n) (hw : (rest.map fun v => v.category).sum ≤ 8) (hR : zRoom rm X.2.2.2.2 maxL) (hc : rc' + rm.cells ≤ rc) (hs : rs' + rm.slots ≤ rs)
    (kk : ∀ v h', Ko' v h' → AW X rc' rs' (pc + 3) lv (v.toList ++ rest) h' Ko) : AW X rc rs pc lv st h Ko := by
  refine aw_run (Value.ref b :: As).toArray rc' rs' hc hs (fun H locs ls cells slots a1 a3 a4 a5 => ?_) kk
  refine va_runV ⟨B.1, B.2.1, B.2.2.1, B.2.2.2.1, B.2.2.2.2.1⟩ S ⟨zcb B F Lk.1 hR, B.2.2.2.2.1 _ Lk.2.1, B.2.2.2.2.1 _ Lk.2.2⟩ ⟨zPc_blind, ?_, zpc B a1⟩ rfl hn (a3.trans B.2.2.1) hst (lv_room hw) hd ⟨a4, a5⟩
  obtain ⟨cell, g1, g2, g3⟩ := zrecv B a1 hh hcl
  exact ⟨cell, g1, g2, by rw [← hcn]; exact g3⟩
/-- invokestatic -/
theorem aw_callS {idx n maxL : Nat} {As rest : List Value} {y : MethodName} {cc' : ByteArray} {ret' : Option FieldType} {rm : Room} {Ko' : Option Value → Hp → Prop} (B : zB X cc nL own nm ret) (rc' rs' : Nat) (S : Sp X.1.2.1 (zXg X) y cc' maxL ret' rm As h Ko') (F : zCo y cc' maxL ret' n) (Lk : Cond.methodLink own idx y ∈ zT ∧ Cond.static y ∈ zT) (hd : decode cc pc = .ok (.invokestatic idx, 3)) (hst : st = As.reverse ++ rest) (hn : As.length = n) (hw : (rest.map fun v => v.category).sum ≤ 8) (hR : zRoom rm X.2.2.2.2 maxL) (hc : rc' + rm.cells ≤ rc) (hs : rs' + rm.slots ≤ rs)
    (kk : ∀ v h', Ko' v h' → AW X rc' rs' (pc + 3) lv (v.toList ++ rest) h' Ko) : AW X rc rs pc lv st h Ko := by
  refine aw_run As.toArray rc' rs' hc hs (fun H locs ls cells slots a1 a3 a4 a5 => ?_) kk
  exact va_runS ⟨B.1, B.2.1, B.2.2.1, B.2.2.2.1, B.2.2.2.2.1⟩ S ⟨zcb B F Lk.1 hR, B.2.2.2.2.1 _ Lk.2⟩ ⟨zPc_blind, zpc B a1⟩ rfl hn (a3.trans B.2.2.1) hst (lv_room hw) hd ⟨a4, a5⟩
/-- invokespecial of a constructor -/
theorem aw_callI {idx n maxL : Nat} {b : Nat} {As rest : List Value} {y : MethodName} {cc' : ByteArray} {rm : Room} {Ko' : Option Value → Hp → Prop} (B : zB X cc nL own nm ret) (rc' rs' : Nat) (S : Sp X.1.2.1 (zXg X) y cc' maxL none rm (.ref b :: As) h Ko') (F : zCo y cc' maxL none n) (hy : y.name = "<init>") (Lk : Cond.methodLink own idx y ∈ zT ∧ Cond.instanceMethod y ∈ zT) (hd : decode cc pc = .ok (.invokespecial idx, 3)) (hst : st = As.reverse ++ .ref b :: rest) (hn : As.length = n) (hw : (rest.map fun v => v.category).sum ≤ 8) (hR : zRoom rm X.2.2.2.2 maxL) (hc : rc' + rm.cells ≤ rc) (hs : rs' + rm.slots ≤ rs)
    (kk : ∀ v h', Ko' v h' → AW X rc' rs' (pc + 3) lv (v.toList ++ rest) h' Ko) : AW X rc rs pc lv st h Ko := by
  refine aw_run (Value.ref b :: As).toArray rc' rs' hc hs (fun H locs ls cells slots a1 a3 a4 a5 => ?_) kk
  exact va_runI ⟨B.1, B.2.1, B.2.2.1, B.2.2.2.1, B.2.2.2.2.1⟩ S ⟨zcb B F Lk.1 hR, hy, B.2.2.2.2.1 _ Lk.2⟩ ⟨zPc_blind, zpc B a1⟩ rfl hn (a3.trans B.2.2.1) hst (lv_room hw) hd ⟨a4, a5⟩
theorem zcn {y : MethodName} {cc' : ByteArray} {maxL n idx : Nat} {host : String} {ret' : Option FieldType} {rm : Room} (B : zB X cc nL own nm ret) (F : zCo y cc' maxL ret' n) (hl : (own, idx, y, host) ∈ zNM) (hR : zRoom rm X.2.2.2.2 maxL) : va_CN X.2.2.2.2 X.2.1.1 X.2.1.2.2 own idx y host cc' maxL ret' (Cond.code y cc' maxL ret' :: zT) rm rm.cells rm.slots n :=
  va_cnB n B.2.2.2.2.1 F.good rfl rfl rfl (B.2.2.2.2.2.1.2.1.2 _ hl) (B.2.2.2.2.1 _ F.2.1) ⟨F.2.2.1, F.2.2.2.1, F.2.2.2.2⟩ hR
/-- the private constructor of a nest mate -/
theorem aw_callIN {idx n maxL : Nat} {host : String} {b : Nat} {As rest : List Value} {y : MethodName} {cc' : ByteArray} {rm : Room} {Ko' : Option Value → Hp → Prop} (B : zB X cc nL own nm ret) (rc' rs' : Nat) (S : Sp X.1.2.1 (zXg X) y cc' maxL none rm (.ref b :: As) h Ko') (F : zCo y cc' maxL none n) (hy : y.name = "<init>") (Lk : (own, idx, y, host) ∈ zNM ∧ Cond.instanceMethod y ∈ zT) (hd : decode cc pc = .ok (.invokespecial idx, 3)) (hst : st = As.reverse ++ .ref b :: rest) (hn : As.length = n) (hw : (rest.map fun v => v.category).sum ≤ 8) (hR : zRoom rm X.2.2.2.2 maxL) (hc : rc' + rm.cells ≤ rc) (hs : rs' + rm.slots ≤ rs)
    (kk : ∀ v h', Ko' v h' → AW X rc' rs' (pc + 3) lv (v.toList ++ rest) h' Ko) : AW X rc rs pc lv st h Ko := by
  refine aw_run (Value.ref b :: As).toArray rc' rs' hc hs (fun H locs ls cells slots a1 a3 a4 a5 => ?_) kk
  exact va_runIN ⟨B.1, B.2.1, B.2.2.1, B.2.2.2.1, B.2.2.2.2.1⟩ S ⟨zcn B F Lk.1 hR, hy, B.2.2.2.2.1 _ Lk.2⟩ ⟨zPc_blind, zpc B a1⟩ rfl hn (a3.trans B.2.2.1) hst (lv_room hw) hd ⟨a4, a5⟩
/-- a private method of a nest mate -/
theorem aw_callVN {idx n maxL ci : Nat} {host : String} {b : Nat} {As rest fs : List Value} {y : MethodName} {cc' : ByteArray} {ret' : Option FieldType} {rm : Room} {Ko' : Option Value → Hp → Prop} {r : vw_C} (B : zB X cc nL own nm ret) (rc' rs' : Nat) (S : Sp X.1.2.1 (zXg X) y cc' maxL ret' rm (.ref b :: As) h Ko') (F : zCo y cc' maxL ret' n) (Lk : (own, idx, y, host) ∈ zNM ∧ Cond.instanceMethod y ∈ zT ∧ Cond.selects y.cls y y ∈ zT) (hd : decode cc pc = .ok (.invokevirtual idx, 3)) (hh : h.2 b = some (.inr (ci, fs))) (hcl : vwCl[ci]? = some r) (hcn : r.1 = y.cls) (hst : st = As.reverse ++ .ref b :: rest) (hn : As.length = n) (hw : (rest.map fun v => v.category).sum ≤ 8) (hR : zRoom rm X.2.2.2.2 maxL) (hc : rc' + rm.cells ≤ rc) (hs : rs' + rm.slots ≤ rs)
    (kk : ∀ v h', Ko' v h' → AW X rc' rs' (pc + 3) lv (v.toList ++ rest) h' Ko) : AW X rc rs pc lv st h Ko := by
  refine aw_run (Value.ref b :: As).toArray rc' rs' hc hs (fun H locs ls cells slots a1 a3 a4 a5 => ?_) kk
  refine va_runVN ⟨B.1, B.2.1, B.2.2.1, B.2.2.2.1, B.2.2.2.2.1⟩ S ⟨zcn B F Lk.1 hR, B.2.2.2.2.1 _ Lk.2.1, B.2.2.2.2.1 _ Lk.2.2⟩ ⟨zPc_blind, ?_, zpc B a1⟩ rfl hn (a3.trans B.2.2.1) hst (lv_room hw) hd ⟨a4, a5⟩
  obtain ⟨cell, g1, g2, g3⟩ := zrecv B a1 hh hcl
  exact ⟨cell, g1, g2, by rw [← hcn]; exact g3⟩
/-- invokevirtual of x on a receiver of class C, where y's body is run -/
theorem aw_callU {idx n maxL ci m0 : Nat} {C owner : String} {b : Nat} {As rest fs : List Value} {x y : MethodName} {cc' b0 : ByteArray} {ret' r0 : Option FieldType} {rm : Room} {Ko' : Option Value → Hp → Prop} {r : vw_C} (B : zB X cc nL own nm ret) (rc' rs' : Nat) (S : Sp X.1.2.1 (zXg X) y cc' maxL ret' rm (.ref b :: As) h Ko') (F : zCo y cc' maxL ret' n)
    (Lk : Cond.methodLink own idx x ∈ zT ∧ Cond.sameMethod x.cls owner x.name x.desc ∈ zT ∧ Cond.instanceMethod ⟨owner, x.name, x.desc⟩ ∈ zT ∧ Cond.code ⟨owner, x.name, x.desc⟩ b0 m0 r0 ∈ zT ∧ Cond.selects C x y ∈ zT ∧ Cond.instanceMethod y ∈ zT ∧ owner ≠ "java/lang/invoke/MethodHandle" ∧ owner ≠ "java/lang/invoke/VarHandle" ∧ (parseMethodDescriptor x.desc).map (fun d => d.parameters.length) = some n) (hd : decode cc pc = .ok (.invokevirtual idx, 3)) (hh : h.2 b = some (.inr (ci, fs))) (hcl : vwCl[ci]? = some r) (hcn : r.1 = C) (hst : st = As.reverse ++ .ref b :: rest) (hn : As.length = n) (hw : (rest.map fun v => v.category).sum ≤ 8) (hR : zRoom rm X.2.2.2.2 maxL) (hc : rc' + rm.cells ≤ rc) (hs : rs' + rm.slots ≤ rs)
    (kk : ∀ v h', Ko' v h' → AW X rc' rs' (pc + 3) lv (v.toList ++ rest) h' Ko) : AW X rc rs pc lv st h Ko := by
  refine aw_run (Value.ref b :: As).toArray rc' rs' hc hs (fun H locs ls cells slots a1 a3 a4 a5 => ?_) kk
  obtain ⟨l1, l2, l3, l4, l5, l6, l7, l8, l9⟩ := Lk
  have hts := B.2.2.2.2.1
  refine va_runU (owner := owner) (x := x) ⟨B.1, B.2.1, B.2.2.1, B.2.2.2.1, B.2.2.2.2.1⟩ S ⟨⟨rfl, rfl, hR.1, hR.2, pay_in hts F.good, List.mem_cons_self⟩, hts _ F.1, hts _ F.2.1, ⟨l7, l8⟩, fun sig h2 => ?_, hts _ l1, hts _ l2, va_Decl.of (hts _ l3) (hts _ l4), hts _ l5, hts _ l6⟩ ⟨zPc_blind, ?_, zpc B a1⟩ rfl hn (a3.trans B.2.2.1) hst (lv_room hw) hd ⟨a4, a5⟩
  · rw [h2] at l9
    exact (Option.some.inj l9).symm
  · obtain ⟨cell, g1, g2, g3⟩ := zrecv B a1 hh hcl
    exact ⟨cell, g1, g2, by rw [← hcn]; exact g3⟩
/-- super.m(..) -/
theorem aw_callSU {idx n maxL ci : Nat} {b : Nat} {As rest fs : List Value} {y : MethodName} {cc' : ByteArray} {ret' : Option FieldType} {rm : Room} {Ko' : Option Value → Hp → Prop} {r : vw_C} (B : zB X cc nL own nm ret) (rc' rs' : Nat) (S : Sp X.1.2.1 (zXg X) y cc' maxL ret' rm (.ref b :: As) h Ko') (F : zCo y cc' maxL ret' n) (Lk : Cond.methodLink own idx y ∈ zT ∧ Cond.sameMethod y.cls y.cls y.name y.desc ∈ zT ∧ Cond.superclass own y.cls ∈ zT ∧ Cond.instanceMethod y ∈ zT ∧ y.name ≠ "<init>") (hd : decode cc pc = .ok (.invokespecial idx, 3)) (hh : h.2 b = some (.inr (ci, fs))) (hcl : vwCl[ci]? = some r) (hst : st = As.reverse ++ .ref b :: rest) (hn : As.length = n) (hw : (rest.map fun v => v.category).sum ≤ 8) (hR : zRoom rm X.2.2.2.2 maxL) (hc : rc' + rm.cells ≤ rc) (hs : rs' + rm.slots ≤ rs)
    (kk : ∀ v h', Ko' v h' → AW X rc' rs' (pc + 3) lv (v.toList ++ rest) h' Ko) : AW X rc rs pc lv st h Ko := by
  refine aw_run (Value.ref b :: As).toArray rc' rs' hc hs (fun H locs ls cells slots a1 a3 a4 a5 => ?_) kk
  obtain ⟨l1, l2, l3, l4, l5⟩ := Lk
  have hts := B.2.2.2.2.1
  refine va_runSU (C := r.1) (B.2.2.2.2.2.1.1.1 ci r hcl).2 ⟨B.1, B.2.1, B.2.2.1, B.2.2.2.1, B.2.2.2.2.1⟩ S ⟨⟨rfl, rfl, hR.1, hR.2, pay_in hts F.good, List.mem_cons_self⟩, hts _ l1, hts _ l2, hts _ l3, hts _ l4, hts _ F.2.1, hts _ F.1, l5, fun sig h2 => ?_⟩ ⟨zPc_blind, zrecv B a1 hh hcl, zpc B a1⟩ rfl hn (a3.trans B.2.2.1) hst (lv_room hw) hd ⟨a4, a5⟩
  have l9 := F.2.2.2.2
  rw [h2] at l9
  exact (Option.some.inj l9).symm
/-- Object.<init> -/
theorem aw_objInit (B : zB X cc nL own nm ret) {idx a : Nat} (Lk : Cond.methodLink own idx objectInit ∈ zT ∧ Cond.instanceMethod objectInit ∈ zT ∧ Cond.code objectInit ⟨#[0xb1]⟩ 1 none ∈ zT) (hd : decode cc pc = .ok (.invokespecial idx, 3)) (hw : (st.map fun v => v.category).sum ≤ 8) (hR : 1 ≤ X.2.2.2.2.frames ∧ 20 ≤ X.2.2.2.2.locals) (kk : AW X rc rs (pc + 3) lv st h Ko) : AW X rc rs pc lv (.ref a :: st) h Ko := by
  intro H locs ls cells slots a1 a2 a3 a4 a5
  have hts := B.2.2.2.2.1
  have := hR.2
  refine W.objInit B.1 B.2.1 B.2.2.2.1 (hts _ Lk.1) (hts _ Lk.2.1) (hts _ Lk.2.2) rfl (by exact a3.size) rfl hd hR.1 ?_ (kk H locs ls cells slots a1 a2 a3 a4 a5)
  have := lv_room (pc := pc) (ls := ls) (rest := .ref a :: st) (m := X.2.1.2.1) hw
  omega
def zMa (own : String) (idx : Nat) (y : MethodName) (cc : ByteArray) (n : Nat) : Prop := Cond.methodLink own idx y ∈ zT ∧ Cond.static y ∈ zT ∧ Cond.initialized "java/lang/Math" ∈ zT ∧ Cond.code y cc n (some .int) ∈ zT
theorem aw_mmax (B : zB X cc nL own nm ret) {idx : Nat} {x y : Int32} (F : zMa own idx Lib.Math.max.name Lib.Math.max.code 2) (hd : decode cc pc = .ok (.invokestatic idx, 3)) (hw : (st.map fun v => v.category).sum ≤ 8) (hR : 1 ≤ X.2.2.2.2.frames ∧ 21 ≤ X.2.2.2.2.locals) (kk : AW X rc rs (pc + 3) lv (.int (if x < y then y else x) :: st) h Ko) : AW X rc rs pc lv (.int y :: .int x :: st) h Ko := fun H locs ls cells slots a1 a2 a3 a4 a5 =>
  va_mmax B.1 B.2.1 a3.size.symm B.2.2.2.1 (B.2.2.2.2.1 _ F.1) (B.2.2.2.2.1 _ F.2.1) (B.2.2.2.2.1 _ F.2.2.1) (B.2.2.2.2.1 _ F.2.2.2) hR.1 (by have := hR.2; omega) (by omega) (by omega) hd (kk H locs ls cells slots a1 a2 a3 a4 a5)
theorem aw_mmin (B : zB X cc nL own nm ret) {idx : Nat} {x y : Int32} (F : zMa own idx Lib.Math.min.name Lib.Math.min.code 2) (hd : decode cc pc = .ok (.invokestatic idx, 3)) (hw : (st.map fun v => v.category).sum ≤ 8) (hR : 1 ≤ X.2.2.2.2.frames ∧ 21 ≤ X.2.2.2.2.locals) (kk : AW X rc rs (pc + 3) lv (.int (if y < x then y else x) :: st) h Ko) : AW X rc rs pc lv (.int y :: .int x :: st) h Ko := fun H locs ls cells slots a1 a2 a3 a4 a5 =>
  va_mmin B.1 B.2.1 a3.size.symm B.2.2.2.1 (B.2.2.2.2.1 _ F.1) (B.2.2.2.2.1 _ F.2.1) (B.2.2.2.2.1 _ F.2.2.1) (B.2.2.2.2.1 _ F.2.2.2) hR.1 (by have := hR.2; omega) (by omega) (by omega) hd (kk H locs ls cells slots a1 a2 a3 a4 a5)
theorem aw_mabs (B : zB X cc nL own nm ret) {idx : Nat} {x : Int32} (F : zMa own idx Lib.Math.abs.name Lib.Math.abs.code 1) (hd : decode cc pc = .ok (.invokestatic idx, 3)) (hw : (st.map fun v => v.category).sum ≤ 8) (hR : 1 ≤ X.2.2.2.2.frames ∧ 21 ≤ X.2.2.2.2.locals) (kk : AW X rc rs (pc + 3) lv (.int (if 0 ≤ x then x else 0 - x) :: st) h Ko) : AW X rc rs pc lv (.int x :: st) h Ko := fun H locs ls cells slots a1 a2 a3 a4 a5 =>
  va_mabs B.1 B.2.1 a3.size.symm B.2.2.2.1 (B.2.2.2.2.1 _ F.1) (B.2.2.2.2.1 _ F.2.1) (B.2.2.2.2.1 _ F.2.2.1) (B.2.2.2.2.1 _ F.2.2.2) hR.1 (by have := hR.2; omega) (by omega) (by omega) hd (kk H locs ls cells slots a1 a2 a3 a4 a5)
/-- answers -/
def zI (P : Int32 → Hp → Prop) : Option Value → Hp → Prop := fun v h' => ∃ r : Int32, v = some (.int r) ∧ P r h'
def zJ (P : Int64 → Hp → Prop) : Option Value → Hp → Prop := fun v h' => ∃ r : Int64, v = some (.long r) ∧ P r h'
def zV (P : Hp → Prop) : Option Value → Hp → Prop := fun v h' => v = none ∧ P h'
def zO (P : Option Nat → Hp → Prop) : Option Value → Hp → Prop := fun v h' => ∃ r : Option Nat, v = some (va_rf r) ∧ P r h'
theorem kI {P : Int32 → Hp → Prop} {rest : List Value} (k : ∀ r h', P r h' → AW X rc rs pc lv (.int r :: rest) h' Ko) : ∀ v h', zI P v h' → AW X rc rs pc lv (v.toList ++ rest) h' Ko := fun _ h' ⟨r, e, hp⟩ => by subst e; exact k r h' hp
theorem kJ {P : Int64 → Hp → Prop} {rest : List Value} (k : ∀ r h', P r h' → AW X rc rs pc lv (.long r :: rest) h' Ko) : ∀ v h', zJ P v h' → AW X rc rs pc lv (v.toList ++ rest) h' Ko := fun _ h' ⟨r, e, hp⟩ => by subst e; exact k r h' hp
theorem kV {P : Hp → Prop} {rest : List Value} (k : ∀ h', P h' → AW X rc rs pc lv rest h' Ko) : ∀ v h', zV P v h' → AW X rc rs pc lv (v.toList ++ rest) h' Ko := fun _ h' ⟨e, hp⟩ => by subst e; exact k h' hp
theorem kO {P : Option Nat → Hp → Prop} {rest : List Value} (k : ∀ r h', P r h' → AW X rc rs pc lv (va_rf r :: rest) h' Ko) : ∀ v h', zO P v h' → AW X rc rs pc lv (v.toList ++ rest) h' Ko := fun _ h' ⟨r, e, hp⟩ => by subst e; exact k r h' hp
end ZCALLS
end
