-- ===== PART A: goes FIRST, ahead of the names: the tables' words, and 'selects' of the private methods out of them =====
/-- a private method of a class that the tables say can be made, by its rows of tables_1 -/
def lw_okq (q : MethodName × Nat) : Prop := (q.1.cls ≠ "java/lang/invoke/MethodHandle" ∧ q.1.cls ≠ "java/lang/invoke/VarHandle") ∧ Cond.instantiable q.1.cls q.2 ∈ tables_1 ∧ Cond.privateMethod q.1 ∈ tables_1 ∧ Cond.instanceMethod q.1 ∈ tables_1
theorem lw_p0 : lw_okq (⟨"TaxWorkbench", "isSecond", "(I)Z"⟩, 9) := ⟨⟨by decide +kernel, by decide +kernel⟩, List.mem_of_getElem? (i := 24) (by decide +kernel), List.mem_of_getElem? (i := 364) (by decide +kernel), List.mem_of_getElem? (i := 365) (by decide +kernel)⟩
theorem lw_p1 : lw_okq (⟨"TaxWorkbench", "chosenTax", "(I)J"⟩, 9) := ⟨⟨by decide +kernel, by decide +kernel⟩, List.mem_of_getElem? (i := 24) (by decide +kernel), List.mem_of_getElem? (i := 368) (by decide +kernel), List.mem_of_getElem? (i := 369) (by decide +kernel)⟩
theorem lw_p2 : lw_okq (⟨"TaxWorkbench", "assessAlone", "(I)LTaxWorkbench$Assessment;"⟩, 9) := ⟨⟨by decide +kernel, by decide +kernel⟩, List.mem_of_getElem? (i := 24) (by decide +kernel), List.mem_of_getElem? (i := 372) (by decide +kernel), List.mem_of_getElem? (i := 373) (by decide +kernel)⟩
theorem lw_p3 : lw_okq (⟨"TaxWorkbench", "requireRange", "(III)V"⟩, 9) := ⟨⟨by decide +kernel, by decide +kernel⟩, List.mem_of_getElem? (i := 24) (by decide +kernel), List.mem_of_getElem? (i := 478) (by decide +kernel), List.mem_of_getElem? (i := 479) (by decide +kernel)⟩
theorem lw_p4 : lw_okq (⟨"java/lang/Throwable", "fillInStackTrace", "(I)Ljava/lang/Throwable;"⟩, 6) := ⟨⟨by decide +kernel, by decide +kernel⟩, List.mem_of_getElem? (i := 523) (by decide +kernel), List.mem_of_getElem? (i := 521) (by decide +kernel), List.mem_of_getElem? (i := 522) (by decide +kernel)⟩
theorem lw_p5 : lw_okq (⟨"TaxWorkbench", "requireIndex", "(II)V"⟩, 9) := ⟨⟨by decide +kernel, by decide +kernel⟩, List.mem_of_getElem? (i := 24) (by decide +kernel), List.mem_of_getElem? (i := 674) (by decide +kernel), List.mem_of_getElem? (i := 675) (by decide +kernel)⟩
theorem lw_p6 : lw_okq (⟨"TaxWorkbench", "requirePartner", "(I)I"⟩, 9) := ⟨⟨by decide +kernel, by decide +kernel⟩, List.mem_of_getElem? (i := 24) (by decide +kernel), List.mem_of_getElem? (i := 766) (by decide +kernel), List.mem_of_getElem? (i := 767) (by decide +kernel)⟩
theorem lw_p7 : lw_okq (⟨"TaxWorkbenchModel", "fails", "(I)I"⟩, 23) := ⟨⟨by decide +kernel, by decide +kernel⟩, List.mem_of_getElem? (i := 990) (by decide +kernel), List.mem_of_getElem? (i := 1074) (by decide +kernel), List.mem_of_getElem? (i := 1075) (by decide +kernel)⟩
theorem lw_p8 : lw_okq (⟨"TaxWorkbenchModel", "changes", "()V"⟩, 23) := ⟨⟨by decide +kernel, by decide +kernel⟩, List.mem_of_getElem? (i := 990) (by decide +kernel), List.mem_of_getElem? (i := 1086) (by decide +kernel), List.mem_of_getElem? (i := 1087) (by decide +kernel)⟩
theorem lw_p9 : lw_okq (⟨"TaxWorkbenchModel", "items", "()I"⟩, 23) := ⟨⟨by decide +kernel, by decide +kernel⟩, List.mem_of_getElem? (i := 990) (by decide +kernel), List.mem_of_getElem? (i := 1105) (by decide +kernel), List.mem_of_getElem? (i := 1106) (by decide +kernel)⟩
theorem lw_p10 : lw_okq (⟨"TaxWorkbenchModel", "item", "()Z"⟩, 23) := ⟨⟨by decide +kernel, by decide +kernel⟩, List.mem_of_getElem? (i := 990) (by decide +kernel), List.mem_of_getElem? (i := 1109) (by decide +kernel), List.mem_of_getElem? (i := 1110) (by decide +kernel)⟩
theorem lw_p11 : lw_okq (⟨"TaxWorkbenchModel", "skips", "(I)Z"⟩, 23) := ⟨⟨by decide +kernel, by decide +kernel⟩, List.mem_of_getElem? (i := 990) (by decide +kernel), List.mem_of_getElem? (i := 1113) (by decide +kernel), List.mem_of_getElem? (i := 1114) (by decide +kernel)⟩
theorem lw_p12 : lw_okq (⟨"TaxWorkbenchModel", "here", "()I"⟩, 23) := ⟨⟨by decide +kernel, by decide +kernel⟩, List.mem_of_getElem? (i := 990) (by decide +kernel), List.mem_of_getElem? (i := 1117) (by decide +kernel), List.mem_of_getElem? (i := 1118) (by decide +kernel)⟩
theorem lw_p13 : lw_okq (⟨"TaxWorkbenchModel", "brackets", "()Z"⟩, 23) := ⟨⟨by decide +kernel, by decide +kernel⟩, List.mem_of_getElem? (i := 990) (by decide +kernel), List.mem_of_getElem? (i := 1121) (by decide +kernel), List.mem_of_getElem? (i := 1122) (by decide +kernel)⟩
theorem lw_p14 : lw_okq (⟨"TaxWorkbenchModel", "number", "()Z"⟩, 23) := ⟨⟨by decide +kernel, by decide +kernel⟩, List.mem_of_getElem? (i := 990) (by decide +kernel), List.mem_of_getElem? (i := 1125) (by decide +kernel), List.mem_of_getElem? (i := 1126) (by decide +kernel)⟩
theorem lw_p15 : lw_okq (⟨"TaxWorkbenchModel", "rate", "()V"⟩, 23) := ⟨⟨by decide +kernel, by decide +kernel⟩, List.mem_of_getElem? (i := 990) (by decide +kernel), List.mem_of_getElem? (i := 1129) (by decide +kernel), List.mem_of_getElem? (i := 1130) (by decide +kernel)⟩
def lw_privs_1 : List (MethodName × Nat) := [(⟨"TaxWorkbench", "isSecond", "(I)Z"⟩, 9), (⟨"TaxWorkbench", "chosenTax", "(I)J"⟩, 9), (⟨"TaxWorkbench", "assessAlone", "(I)LTaxWorkbench$Assessment;"⟩, 9), (⟨"TaxWorkbench", "requireRange", "(III)V"⟩, 9), (⟨"java/lang/Throwable", "fillInStackTrace", "(I)Ljava/lang/Throwable;"⟩, 6), (⟨"TaxWorkbench", "requireIndex", "(II)V"⟩, 9), (⟨"TaxWorkbench", "requirePartner", "(I)I"⟩, 9), (⟨"TaxWorkbenchModel", "fails", "(I)I"⟩, 23), (⟨"TaxWorkbenchModel", "changes", "()V"⟩, 23), (⟨"TaxWorkbenchModel", "items", "()I"⟩, 23), (⟨"TaxWorkbenchModel", "item", "()Z"⟩, 23), (⟨"TaxWorkbenchModel", "skips", "(I)Z"⟩, 23), (⟨"TaxWorkbenchModel", "here", "()I"⟩, 23), (⟨"TaxWorkbenchModel", "brackets", "()Z"⟩, 23), (⟨"TaxWorkbenchModel", "number", "()Z"⟩, 23), (⟨"TaxWorkbenchModel", "rate", "()V"⟩, 23)]
theorem lw_r1 : ∀ q ∈ lw_privs_1, lw_okq q := List.forall_mem_cons.mpr ⟨lw_p0, List.forall_mem_cons.mpr ⟨lw_p1, List.forall_mem_cons.mpr ⟨lw_p2, List.forall_mem_cons.mpr ⟨lw_p3, List.forall_mem_cons.mpr ⟨lw_p4, List.forall_mem_cons.mpr ⟨lw_p5, List.forall_mem_cons.mpr ⟨lw_p6, List.forall_mem_cons.mpr ⟨lw_p7, List.forall_mem_cons.mpr ⟨lw_p8, List.forall_mem_cons.mpr ⟨lw_p9, List.forall_mem_cons.mpr ⟨lw_p10, List.forall_mem_cons.mpr ⟨lw_p11, List.forall_mem_cons.mpr ⟨lw_p12, List.forall_mem_cons.mpr ⟨lw_p13, List.forall_mem_cons.mpr ⟨lw_p14, List.forall_mem_cons.mpr ⟨lw_p15, fun _ h => absurd h List.not_mem_nil⟩⟩⟩⟩⟩⟩⟩⟩⟩⟩⟩⟩⟩⟩⟩⟩
theorem lw_p16 : lw_okq (⟨"TaxWorkbenchModel", "numbers", "(III)Z"⟩, 23) := ⟨⟨by decide +kernel, by decide +kernel⟩, List.mem_of_getElem? (i := 990) (by decide +kernel), List.mem_of_getElem? (i := 1133) (by decide +kernel), List.mem_of_getElem? (i := 1134) (by decide +kernel)⟩
theorem lw_p17 : lw_okq (⟨"TaxWorkbenchModel", "chargeComes", "()Z"⟩, 23) := ⟨⟨by decide +kernel, by decide +kernel⟩, List.mem_of_getElem? (i := 990) (by decide +kernel), List.mem_of_getElem? (i := 1137) (by decide +kernel), List.mem_of_getElem? (i := 1138) (by decide +kernel)⟩
theorem lw_p18 : lw_okq (⟨"TaxWorkbenchModel", "creditComes", "(I)Z"⟩, 23) := ⟨⟨by decide +kernel, by decide +kernel⟩, List.mem_of_getElem? (i := 990) (by decide +kernel), List.mem_of_getElem? (i := 1141) (by decide +kernel), List.mem_of_getElem? (i := 1142) (by decide +kernel)⟩
theorem lw_p19 : lw_okq (⟨"TaxWorkbenchModel", "forgets", "(I)V"⟩, 23) := ⟨⟨by decide +kernel, by decide +kernel⟩, List.mem_of_getElem? (i := 990) (by decide +kernel), List.mem_of_getElem? (i := 1145) (by decide +kernel), List.mem_of_getElem? (i := 1146) (by decide +kernel)⟩
theorem lw_p20 : lw_okq (⟨"TaxWorkbenchModel", "isCredit", "(I)Z"⟩, 23) := ⟨⟨by decide +kernel, by decide +kernel⟩, List.mem_of_getElem? (i := 990) (by decide +kernel), List.mem_of_getElem? (i := 1181) (by decide +kernel), List.mem_of_getElem? (i := 1182) (by decide +kernel)⟩
theorem lw_p21 : lw_okq (⟨"TaxWorkbenchModel", "creditOf", "(II)I"⟩, 23) := ⟨⟨by decide +kernel, by decide +kernel⟩, List.mem_of_getElem? (i := 990) (by decide +kernel), List.mem_of_getElem? (i := 1185) (by decide +kernel), List.mem_of_getElem? (i := 1186) (by decide +kernel)⟩
theorem lw_p22 : lw_okq (⟨"TaxWorkbenchModel", "moves", "(II)V"⟩, 23) := ⟨⟨by decide +kernel, by decide +kernel⟩, List.mem_of_getElem? (i := 990) (by decide +kernel), List.mem_of_getElem? (i := 1193) (by decide +kernel), List.mem_of_getElem? (i := 1194) (by decide +kernel)⟩
theorem lw_p23 : lw_okq (⟨"TaxWorkbenchModel", "exchanges", "(II)V"⟩, 23) := ⟨⟨by decide +kernel, by decide +kernel⟩, List.mem_of_getElem? (i := 990) (by decide +kernel), List.mem_of_getElem? (i := 1197) (by decide +kernel), List.mem_of_getElem? (i := 1198) (by decide +kernel)⟩
theorem lw_p24 : lw_okq (⟨"TaxWorkbenchModel", "of", "(II)I"⟩, 23) := ⟨⟨by decide +kernel, by decide +kernel⟩, List.mem_of_getElem? (i := 990) (by decide +kernel), List.mem_of_getElem? (i := 1216) (by decide +kernel), List.mem_of_getElem? (i := 1217) (by decide +kernel)⟩
theorem lw_p25 : lw_okq (⟨"TaxWorkbenchModel", "coupled", "(I)I"⟩, 23) := ⟨⟨by decide +kernel, by decide +kernel⟩, List.mem_of_getElem? (i := 990) (by decide +kernel), List.mem_of_getElem? (i := 1228) (by decide +kernel), List.mem_of_getElem? (i := 1229) (by decide +kernel)⟩
theorem lw_p26 : lw_okq (⟨"TaxWorkbenchModel", "taxOfPerson", "(I)J"⟩, 23) := ⟨⟨by decide +kernel, by decide +kernel⟩, List.mem_of_getElem? (i := 990) (by decide +kernel), List.mem_of_getElem? (i := 1240) (by decide +kernel), List.mem_of_getElem? (i := 1241) (by decide +kernel)⟩
theorem lw_p27 : lw_okq (⟨"TaxWorkbenchModel", "alone", "(III)J"⟩, 23) := ⟨⟨by decide +kernel, by decide +kernel⟩, List.mem_of_getElem? (i := 990) (by decide +kernel), List.mem_of_getElem? (i := 1244) (by decide +kernel), List.mem_of_getElem? (i := 1245) (by decide +kernel)⟩
theorem lw_p28 : lw_okq (⟨"TaxWorkbenchModel", "brings", "(II)V"⟩, 23) := ⟨⟨by decide +kernel, by decide +kernel⟩, List.mem_of_getElem? (i := 990) (by decide +kernel), List.mem_of_getElem? (i := 1248) (by decide +kernel), List.mem_of_getElem? (i := 1249) (by decide +kernel)⟩
theorem lw_p29 : lw_okq (⟨"TaxWorkbenchModel", "taxOf", "(IIII)J"⟩, 23) := ⟨⟨by decide +kernel, by decide +kernel⟩, List.mem_of_getElem? (i := 990) (by decide +kernel), List.mem_of_getElem? (i := 1252) (by decide +kernel), List.mem_of_getElem? (i := 1253) (by decide +kernel)⟩
theorem lw_p30 : lw_okq (⟨"TaxWorkbenchModel", "scheduled", "(JI)J"⟩, 23) := ⟨⟨by decide +kernel, by decide +kernel⟩, List.mem_of_getElem? (i := 990) (by decide +kernel), List.mem_of_getElem? (i := 1264) (by decide +kernel), List.mem_of_getElem? (i := 1265) (by decide +kernel)⟩
theorem lw_p31 : lw_okq (⟨"TaxWorkbenchModel", "charges", "(II)J"⟩, 23) := ⟨⟨by decide +kernel, by decide +kernel⟩, List.mem_of_getElem? (i := 990) (by decide +kernel), List.mem_of_getElem? (i := 1271) (by decide +kernel), List.mem_of_getElem? (i := 1272) (by decide +kernel)⟩
def lw_privs_2 : List (MethodName × Nat) := [(⟨"TaxWorkbenchModel", "numbers", "(III)Z"⟩, 23), (⟨"TaxWorkbenchModel", "chargeComes", "()Z"⟩, 23), (⟨"TaxWorkbenchModel", "creditComes", "(I)Z"⟩, 23), (⟨"TaxWorkbenchModel", "forgets", "(I)V"⟩, 23), (⟨"TaxWorkbenchModel", "isCredit", "(I)Z"⟩, 23), (⟨"TaxWorkbenchModel", "creditOf", "(II)I"⟩, 23), (⟨"TaxWorkbenchModel", "moves", "(II)V"⟩, 23), (⟨"TaxWorkbenchModel", "exchanges", "(II)V"⟩, 23), (⟨"TaxWorkbenchModel", "of", "(II)I"⟩, 23), (⟨"TaxWorkbenchModel", "coupled", "(I)I"⟩, 23), (⟨"TaxWorkbenchModel", "taxOfPerson", "(I)J"⟩, 23), (⟨"TaxWorkbenchModel", "alone", "(III)J"⟩, 23), (⟨"TaxWorkbenchModel", "brings", "(II)V"⟩, 23), (⟨"TaxWorkbenchModel", "taxOf", "(IIII)J"⟩, 23), (⟨"TaxWorkbenchModel", "scheduled", "(JI)J"⟩, 23), (⟨"TaxWorkbenchModel", "charges", "(II)J"⟩, 23)]
theorem lw_r2 : ∀ q ∈ lw_privs_2, lw_okq q := List.forall_mem_cons.mpr ⟨lw_p16, List.forall_mem_cons.mpr ⟨lw_p17, List.forall_mem_cons.mpr ⟨lw_p18, List.forall_mem_cons.mpr ⟨lw_p19, List.forall_mem_cons.mpr ⟨lw_p20, List.forall_mem_cons.mpr ⟨lw_p21, List.forall_mem_cons.mpr ⟨lw_p22, List.forall_mem_cons.mpr ⟨lw_p23, List.forall_mem_cons.mpr ⟨lw_p24, List.forall_mem_cons.mpr ⟨lw_p25, List.forall_mem_cons.mpr ⟨lw_p26, List.forall_mem_cons.mpr ⟨lw_p27, List.forall_mem_cons.mpr ⟨lw_p28, List.forall_mem_cons.mpr ⟨lw_p29, List.forall_mem_cons.mpr ⟨lw_p30, List.forall_mem_cons.mpr ⟨lw_p31, fun _ h => absurd h List.not_mem_nil⟩⟩⟩⟩⟩⟩⟩⟩⟩⟩⟩⟩⟩⟩⟩⟩
theorem lw_p32 : lw_okq (⟨"TaxWorkbenchModel", "valueOf", "(IIIII)J"⟩, 23) := ⟨⟨by decide +kernel, by decide +kernel⟩, List.mem_of_getElem? (i := 990) (by decide +kernel), List.mem_of_getElem? (i := 1275) (by decide +kernel), List.mem_of_getElem? (i := 1276) (by decide +kernel)⟩
theorem lw_p33 : lw_okq (⟨"TaxWorkbenchModel", "creditTold", "(II)J"⟩, 23) := ⟨⟨by decide +kernel, by decide +kernel⟩, List.mem_of_getElem? (i := 990) (by decide +kernel), List.mem_of_getElem? (i := 1287) (by decide +kernel), List.mem_of_getElem? (i := 1288) (by decide +kernel)⟩
theorem lw_p34 : lw_okq (⟨"TaxWorkbenchModel", "unused", "(II)J"⟩, 23) := ⟨⟨by decide +kernel, by decide +kernel⟩, List.mem_of_getElem? (i := 990) (by decide +kernel), List.mem_of_getElem? (i := 1291) (by decide +kernel), List.mem_of_getElem? (i := 1292) (by decide +kernel)⟩
theorem lw_p35 : lw_okq (⟨"TaxWorkbenchModel", "jointly", "(I)J"⟩, 23) := ⟨⟨by decide +kernel, by decide +kernel⟩, List.mem_of_getElem? (i := 990) (by decide +kernel), List.mem_of_getElem? (i := 1303) (by decide +kernel), List.mem_of_getElem? (i := 1304) (by decide +kernel)⟩
theorem lw_p36 : lw_okq (⟨"TaxWorkbenchModel", "apart", "(I)J"⟩, 23) := ⟨⟨by decide +kernel, by decide +kernel⟩, List.mem_of_getElem? (i := 990) (by decide +kernel), List.mem_of_getElem? (i := 1311) (by decide +kernel), List.mem_of_getElem? (i := 1312) (by decide +kernel)⟩
theorem lw_p37 : lw_okq (⟨"TaxWorkbenchModel", "firstOf", "(I)I"⟩, 23) := ⟨⟨by decide +kernel, by decide +kernel⟩, List.mem_of_getElem? (i := 990) (by decide +kernel), List.mem_of_getElem? (i := 1315) (by decide +kernel), List.mem_of_getElem? (i := 1316) (by decide +kernel)⟩
theorem lw_p38 : lw_okq (⟨"TaxWorkbenchModel", "household", "(I)J"⟩, 23) := ⟨⟨by decide +kernel, by decide +kernel⟩, List.mem_of_getElem? (i := 990) (by decide +kernel), List.mem_of_getElem? (i := 1331) (by decide +kernel), List.mem_of_getElem? (i := 1332) (by decide +kernel)⟩
theorem lw_p39 : lw_okq (⟨"TaxWorkbenchModel", "isCounted", "(I)Z"⟩, 23) := ⟨⟨by decide +kernel, by decide +kernel⟩, List.mem_of_getElem? (i := 990) (by decide +kernel), List.mem_of_getElem? (i := 1339) (by decide +kernel), List.mem_of_getElem? (i := 1340) (by decide +kernel)⟩
theorem lw_p40 : lw_okq (⟨"TaxWorkbenchModel", "closes", "(I)V"⟩, 23) := ⟨⟨by decide +kernel, by decide +kernel⟩, List.mem_of_getElem? (i := 990) (by decide +kernel), List.mem_of_getElem? (i := 1347) (by decide +kernel), List.mem_of_getElem? (i := 1348) (by decide +kernel)⟩
theorem lw_p41 : lw_okq (⟨"TaxWorkbenchModel", "carries", "(I)V"⟩, 23) := ⟨⟨by decide +kernel, by decide +kernel⟩, List.mem_of_getElem? (i := 990) (by decide +kernel), List.mem_of_getElem? (i := 1351) (by decide +kernel), List.mem_of_getElem? (i := 1352) (by decide +kernel)⟩
theorem lw_p42 : lw_okq (⟨"TaxWorkbenchModel", "taxAt", "(II)J"⟩, 23) := ⟨⟨by decide +kernel, by decide +kernel⟩, List.mem_of_getElem? (i := 990) (by decide +kernel), List.mem_of_getElem? (i := 1363) (by decide +kernel), List.mem_of_getElem? (i := 1364) (by decide +kernel)⟩
theorem lw_p43 : lw_okq (⟨"TaxWorkbenchModel", "marginal", "(II)J"⟩, 23) := ⟨⟨by decide +kernel, by decide +kernel⟩, List.mem_of_getElem? (i := 990) (by decide +kernel), List.mem_of_getElem? (i := 1371) (by decide +kernel), List.mem_of_getElem? (i := 1372) (by decide +kernel)⟩
theorem lw_p44 : lw_okq (⟨"TaxWorkbenchModel", "isKink", "(II)Z"⟩, 23) := ⟨⟨by decide +kernel, by decide +kernel⟩, List.mem_of_getElem? (i := 990) (by decide +kernel), List.mem_of_getElem? (i := 1383) (by decide +kernel), List.mem_of_getElem? (i := 1384) (by decide +kernel)⟩
theorem lw_p45 : lw_okq (⟨"TaxWorkbenchModel", "partAt", "(III)J"⟩, 23) := ⟨⟨by decide +kernel, by decide +kernel⟩, List.mem_of_getElem? (i := 990) (by decide +kernel), List.mem_of_getElem? (i := 1391) (by decide +kernel), List.mem_of_getElem? (i := 1392) (by decide +kernel)⟩
def lw_privs_3 : List (MethodName × Nat) := [(⟨"TaxWorkbenchModel", "valueOf", "(IIIII)J"⟩, 23), (⟨"TaxWorkbenchModel", "creditTold", "(II)J"⟩, 23), (⟨"TaxWorkbenchModel", "unused", "(II)J"⟩, 23), (⟨"TaxWorkbenchModel", "jointly", "(I)J"⟩, 23), (⟨"TaxWorkbenchModel", "apart", "(I)J"⟩, 23), (⟨"TaxWorkbenchModel", "firstOf", "(I)I"⟩, 23), (⟨"TaxWorkbenchModel", "household", "(I)J"⟩, 23), (⟨"TaxWorkbenchModel", "isCounted", "(I)Z"⟩, 23), (⟨"TaxWorkbenchModel", "closes", "(I)V"⟩, 23), (⟨"TaxWorkbenchModel", "carries", "(I)V"⟩, 23), (⟨"TaxWorkbenchModel", "taxAt", "(II)J"⟩, 23), (⟨"TaxWorkbenchModel", "marginal", "(II)J"⟩, 23), (⟨"TaxWorkbenchModel", "isKink", "(II)Z"⟩, 23), (⟨"TaxWorkbenchModel", "partAt", "(III)J"⟩, 23)]
theorem lw_r3 : ∀ q ∈ lw_privs_3, lw_okq q := List.forall_mem_cons.mpr ⟨lw_p32, List.forall_mem_cons.mpr ⟨lw_p33, List.forall_mem_cons.mpr ⟨lw_p34, List.forall_mem_cons.mpr ⟨lw_p35, List.forall_mem_cons.mpr ⟨lw_p36, List.forall_mem_cons.mpr ⟨lw_p37, List.forall_mem_cons.mpr ⟨lw_p38, List.forall_mem_cons.mpr ⟨lw_p39, List.forall_mem_cons.mpr ⟨lw_p40, List.forall_mem_cons.mpr ⟨lw_p41, List.forall_mem_cons.mpr ⟨lw_p42, List.forall_mem_cons.mpr ⟨lw_p43, List.forall_mem_cons.mpr ⟨lw_p44, List.forall_mem_cons.mpr ⟨lw_p45, fun _ h => absurd h List.not_mem_nil⟩⟩⟩⟩⟩⟩⟩⟩⟩⟩⟩⟩⟩⟩
def lw_privs : List (MethodName × Nat) := lw_privs_1 ++ (lw_privs_2 ++ (lw_privs_3))
def lw_tbl : List Cond := k2_sels lw_privs ++ tables_1
theorem lw_privs_ok : ∀ q ∈ lw_privs, lw_okq q := by
  show ∀ q ∈ lw_privs_1 ++ (lw_privs_2 ++ (lw_privs_3)), lw_okq q
  exact List.forall_mem_append.mpr ⟨lw_r1, List.forall_mem_append.mpr ⟨lw_r2, lw_r3⟩⟩
/-- the streams that the claim lets the run draw from -/
abbrev lw_cs : List Choice := [Jvm.Choice.named "NaN.bits"]
theorem lw_bits : nanBits ∈ lw_cs := by first | decide | exact List.mem_cons_self | simp [lw_cs, nanBits]
def RX0 : String := "TaxWorkbench$Assessment"
def TX0 : u_T := fun k => match k with
  | 0 => ("TaxWorkbench$Assessment", "earnedIncome", "I", false)
  | 1 => ("TaxWorkbench$Assessment", "income", "I", false)
  | 2 => ("TaxWorkbench$Assessment", "dependents", "I", false)
  | 3 => ("TaxWorkbench$Assessment", "factor", "I", false)
  | 4 => ("TaxWorkbench$Assessment", "broughtAmounts", "[J", true)
  | 5 => ("TaxWorkbench$Assessment", "parts", "[J", true)
  | 6 => ("TaxWorkbench$Assessment", "creditAmounts", "[[J", true)
  | _ => ("TaxWorkbench$Assessment", "rest", "J", false)
def tyX0 : Nat → FieldType := fun k => match k with
  | 0 => .int
  | 1 => .int
  | 2 => .int
  | 3 => .int
  | 4 => .array .long
  | 5 => .array .long
  | 6 => .array (.array .long)
  | _ => .long
abbrev wsX00 : List Cond := u_ws RX0 TX0 8
theorem nmX0 : ∀ a, a < 8 → ∀ b, b < 8 → a ≠ b → (TX0 a).2.1 ≠ (TX0 b).2.1 := by decide +kernel
theorem tyX0_ok : ∀ k, k < 8 → parseFieldDescriptor (TX0 k).2.2.1 = some (tyX0 k) := by decide +kernel
abbrev cX0_init : ByteArray := prog_2_method_1_code
def yX0_init : MethodName := ⟨RX0, "<init>", "()V"⟩
abbrev cX0_takeAlone : ByteArray := prog_2_method_2_code
def yX0_takeAlone : MethodName := ⟨RX0, "takeAlone", "(LTaxWorkbench$Ledger;II)V"⟩
abbrev cX0_takeTogether : ByteArray := prog_2_method_3_code
def yX0_takeTogether : MethodName := ⟨RX0, "takeTogether", "(LTaxWorkbench$Ledger;II)V"⟩
abbrev cX0_earn : ByteArray := prog_2_method_4_code
def yX0_earn : MethodName := ⟨RX0, "earn", "(I)V"⟩
abbrev cX0_compute : ByteArray := prog_2_method_5_code
def yX0_compute : MethodName := ⟨RX0, "compute", "(LTaxWorkbench$Rules;)V"⟩
abbrev cX0_shareAbove : ByteArray := prog_2_method_6_code
def yX0_shareAbove : MethodName := ⟨RX0, "shareAbove", "(II)J"⟩
abbrev cX0_scheduled : ByteArray := prog_2_method_7_code
def yX0_scheduled : MethodName := ⟨RX0, "scheduled", "(LTaxWorkbench$Rules;J)J"⟩
abbrev cX0_chargesDue : ByteArray := prog_2_method_8_code
def yX0_chargesDue : MethodName := ⟨RX0, "chargesDue", "(LTaxWorkbench$Rules;)I"⟩
abbrev cX0_useCredit : ByteArray := prog_2_method_9_code
def yX0_useCredit : MethodName := ⟨RX0, "useCredit", "(II)V"⟩
abbrev cX0_valueOf : ByteArray := prog_2_method_10_code
def yX0_valueOf : MethodName := ⟨RX0, "valueOf", "([I)J"⟩
abbrev cX0_curvePart : ByteArray := prog_2_method_11_code
def yX0_curvePart : MethodName := ⟨RX0, "curvePart", "(I)J"⟩
def RX1 : String := "TaxWorkbench$Couple"
def TX1 : u_T := fun k => match k with
  | 0 => ("TaxWorkbench$Couple", "assessment", "LTaxWorkbench$Assessment;", true)
  | 1 => ("TaxWorkbench$Couple", "first", "I", false)
  | 2 => ("TaxWorkbench$Couple", "second", "I", false)
  | 3 => ("TaxWorkbench$Couple", "allDependents", "I", false)
  | 4 => ("TaxWorkbench$Couple", "togetherTax", "J", false)
  | 5 => ("TaxWorkbench$Couple", "apartTax", "J", false)
  | _ => ("TaxWorkbench$Couple", "firstGets", "I", false)
def tyX1 : Nat → FieldType := fun k => match k with
  | 0 => .object "TaxWorkbench$Assessment"
  | 1 => .int
  | 2 => .int
  | 3 => .int
  | 4 => .long
  | 5 => .long
  | _ => .int
abbrev wsX10 : List Cond := u_ws RX1 TX1 7
theorem nmX1 : ∀ a, a < 7 → ∀ b, b < 7 → a ≠ b → (TX1 a).2.1 ≠ (TX1 b).2.1 := by decide +kernel
theorem tyX1_ok : ∀ k, k < 7 → parseFieldDescriptor (TX1 k).2.2.1 = some (tyX1 k) := by decide +kernel
abbrev cX1_init : ByteArray := prog_3_method_1_code
def yX1_init : MethodName := ⟨RX1, "<init>", "()V"⟩
abbrev cX1_settle : ByteArray := prog_3_method_2_code
def yX1_settle : MethodName := ⟨RX1, "settle", "(LTaxWorkbench$Ledger;II)V"⟩
abbrev cX1_dividedTax : ByteArray := prog_3_method_3_code
def yX1_dividedTax : MethodName := ⟨RX1, "dividedTax", "(LTaxWorkbench$Ledger;I)J"⟩
abbrev cX1_prefersTogether : ByteArray := prog_3_method_4_code
def yX1_prefersTogether : MethodName := ⟨RX1, "prefersTogether", "()Z"⟩
abbrev cX1_carryBoth : ByteArray := prog_3_method_5_code
def yX1_carryBoth : MethodName := ⟨RX1, "carryBoth", "(LTaxWorkbench$Ledger;)V"⟩
def RX2 : String := "TaxWorkbench$Credit"
def TX2 : u_T := fun k => match k with
  | 0 => ("TaxWorkbench$Credit", "numbers", "[I", true)
  | _ => ("TaxWorkbench$Credit", "carriedAmounts", "[J", true)
def tyX2 : Nat → FieldType := fun k => match k with
  | 0 => .array .int
  | _ => .array .long
abbrev wsX20 : List Cond := u_ws RX2 TX2 2
theorem nmX2 : ∀ a, a < 2 → ∀ b, b < 2 → a ≠ b → (TX2 a).2.1 ≠ (TX2 b).2.1 := by decide +kernel
theorem tyX2_ok : ∀ k, k < 2 → parseFieldDescriptor (TX2 k).2.2.1 = some (tyX2 k) := by decide +kernel
abbrev cX2_init : ByteArray := prog_4_method_1_code
def yX2_init : MethodName := ⟨RX2, "<init>", "()V"⟩
abbrev cX2_copyFrom : ByteArray := prog_4_method_2_code
def yX2_copyFrom : MethodName := ⟨RX2, "copyFrom", "(LTaxWorkbench$Credit;)V"⟩
def RX3 : String := "TaxWorkbench$Explorer"
def TX3 : u_T := fun k => match k with
  | _ => ("TaxWorkbench$Explorer", "assessment", "LTaxWorkbench$Assessment;", true)
def tyX3 : Nat → FieldType := fun k => match k with
  | _ => .object "TaxWorkbench$Assessment"
abbrev wsX30 : List Cond := u_ws RX3 TX3 1
theorem nmX3 : ∀ a, a < 1 → ∀ b, b < 1 → a ≠ b → (TX3 a).2.1 ≠ (TX3 b).2.1 := by decide +kernel
theorem tyX3_ok : ∀ k, k < 1 → parseFieldDescriptor (TX3 k).2.2.1 = some (tyX3 k) := by decide +kernel
abbrev cX3_init : ByteArray := prog_5_method_1_code
def yX3_init : MethodName := ⟨RX3, "<init>", "()V"⟩
abbrev cX3_turnTo : ByteArray := prog_5_method_2_code
def yX3_turnTo : MethodName := ⟨RX3, "turnTo", "(LTaxWorkbench$Ledger;I)V"⟩
abbrev cX3_taxAt : ByteArray := prog_5_method_3_code
def yX3_taxAt : MethodName := ⟨RX3, "taxAt", "(LTaxWorkbench$Rules;I)J"⟩
abbrev cX3_partAt : ByteArray := prog_5_method_4_code
def yX3_partAt : MethodName := ⟨RX3, "partAt", "(LTaxWorkbench$Rules;II)J"⟩
abbrev cX3_kinkAbove : ByteArray := prog_5_method_5_code
def yX3_kinkAbove : MethodName := ⟨RX3, "kinkAbove", "(LTaxWorkbench$Rules;I)I"⟩
abbrev cX3_countKinks : ByteArray := prog_5_method_6_code
def yX3_countKinks : MethodName := ⟨RX3, "countKinks", "(LTaxWorkbench$Rules;)I"⟩
abbrev cX3_causeAt : ByteArray := prog_5_method_7_code
def yX3_causeAt : MethodName := ⟨RX3, "causeAt", "(LTaxWorkbench$Rules;I)I"⟩
abbrev cX3_bends : ByteArray := prog_5_method_8_code
def yX3_bends : MethodName := ⟨RX3, "bends", "(LTaxWorkbench$Rules;II)Z"⟩
abbrev cX3_steepestPlace : ByteArray := prog_5_method_9_code
def yX3_steepestPlace : MethodName := ⟨RX3, "steepestPlace", "(LTaxWorkbench$Rules;)I"⟩
def RX4 : String := "TaxWorkbench$History"
def TX4 : u_T := fun k => match k with
  | 0 => ("TaxWorkbench$History", "ring", "[LTaxWorkbench$Ledger;", true)
  | 1 => ("TaxWorkbench$History", "oldest", "I", false)
  | _ => ("TaxWorkbench$History", "size", "I", false)
def tyX4 : Nat → FieldType := fun k => match k with
  | 0 => .array (.object "TaxWorkbench$Ledger")
  | 1 => .int
  | _ => .int
abbrev wsX40 : List Cond := u_ws RX4 TX4 3
theorem nmX4 : ∀ a, a < 3 → ∀ b, b < 3 → a ≠ b → (TX4 a).2.1 ≠ (TX4 b).2.1 := by decide +kernel
theorem tyX4_ok : ∀ k, k < 3 → parseFieldDescriptor (TX4 k).2.2.1 = some (tyX4 k) := by decide +kernel
abbrev cX4_init : ByteArray := prog_6_method_1_code
def yX4_init : MethodName := ⟨RX4, "<init>", "()V"⟩
abbrev cX4_remember : ByteArray := prog_6_method_2_code
def yX4_remember : MethodName := ⟨RX4, "remember", "(LTaxWorkbench$Ledger;)V"⟩
abbrev cX4_takeBack : ByteArray := prog_6_method_3_code
def yX4_takeBack : MethodName := ⟨RX4, "takeBack", "(LTaxWorkbench$Ledger;)V"⟩
def RX5 : String := "TaxWorkbench$Ledger"
def TX5 : u_T := fun k => match k with
  | 0 => ("TaxWorkbench$Ledger", "rules", "LTaxWorkbench$Rules;", true)
  | 1 => ("TaxWorkbench$Ledger", "earned", "[I", true)
  | 2 => ("TaxWorkbench$Ledger", "other", "[I", true)
  | 3 => ("TaxWorkbench$Ledger", "dependents", "[I", true)
  | 4 => ("TaxWorkbench$Ledger", "partners", "[I", true)
  | _ => ("TaxWorkbench$Ledger", "years", "I", false)
def tyX5 : Nat → FieldType := fun k => match k with
  | 0 => .object "TaxWorkbench$Rules"
  | 1 => .array .int
  | 2 => .array .int
  | 3 => .array .int
  | 4 => .array .int
  | _ => .int
abbrev wsX50 : List Cond := u_ws RX5 TX5 6
theorem nmX5 : ∀ a, a < 6 → ∀ b, b < 6 → a ≠ b → (TX5 a).2.1 ≠ (TX5 b).2.1 := by decide +kernel
theorem tyX5_ok : ∀ k, k < 6 → parseFieldDescriptor (TX5 k).2.2.1 = some (tyX5 k) := by decide +kernel
abbrev cX5_init : ByteArray := prog_7_method_1_code
def yX5_init : MethodName := ⟨RX5, "<init>", "()V"⟩
abbrev cX5_copyFrom : ByteArray := prog_7_method_2_code
def yX5_copyFrom : MethodName := ⟨RX5, "copyFrom", "(LTaxWorkbench$Ledger;)V"⟩
def RX6 : String := "TaxWorkbench$RuleText"
def TX6 : u_T := fun k => match k with
  | 0 => ("TaxWorkbench$RuleText", "characters", "[I", true)
  | 1 => ("TaxWorkbench$RuleText", "length", "I", false)
  | 2 => ("TaxWorkbench$RuleText", "fault", "I", false)
  | 3 => ("TaxWorkbench$RuleText", "items", "I", false)
  | 4 => ("TaxWorkbench$RuleText", "allowed", "Z", false)
  | 5 => ("TaxWorkbench$RuleText", "position", "I", false)
  | 6 => ("TaxWorkbench$RuleText", "numbers", "[I", true)
  | _ => ("TaxWorkbench$RuleText", "numberCount", "I", false)
def tyX6 : Nat → FieldType := fun k => match k with
  | 0 => .array .int
  | 1 => .int
  | 2 => .int
  | 3 => .int
  | 4 => .boolean
  | 5 => .int
  | 6 => .array .int
  | _ => .int
abbrev wsX60 : List Cond := u_ws RX6 TX6 8
theorem nmX6 : ∀ a, a < 8 → ∀ b, b < 8 → a ≠ b → (TX6 a).2.1 ≠ (TX6 b).2.1 := by decide +kernel
theorem tyX6_ok : ∀ k, k < 8 → parseFieldDescriptor (TX6 k).2.2.1 = some (tyX6 k) := by decide +kernel
abbrev cX6_init : ByteArray := prog_8_method_1_code
def yX6_init : MethodName := ⟨RX6, "<init>", "()V"⟩
abbrev cX6_readInto : ByteArray := prog_8_method_2_code
def yX6_readInto : MethodName := ⟨RX6, "readInto", "(LTaxWorkbench$Rules;)V"⟩
abbrev cX6_readItem : ByteArray := prog_8_method_3_code
def yX6_readItem : MethodName := ⟨RX6, "readItem", "(LTaxWorkbench$Rules;)Z"⟩
abbrev cX6_numbersWanted : ByteArray := prog_8_method_4_code
def yX6_numbersWanted : MethodName := ⟨RX6, "numbersWanted", "(I)I"⟩
abbrev cX6_kindOf : ByteArray := prog_8_method_5_code
def yX6_kindOf : MethodName := ⟨RX6, "kindOf", "(I)I"⟩
abbrev cX6_carryOut : ByteArray := prog_8_method_6_code
def yX6_carryOut : MethodName := ⟨RX6, "carryOut", "(LTaxWorkbench$Rules;IZ)Z"⟩
abbrev cX6_readPairs : ByteArray := prog_8_method_7_code
def yX6_readPairs : MethodName := ⟨RX6, "readPairs", "()Z"⟩
abbrev cX6_readPair : ByteArray := prog_8_method_8_code
def yX6_readPair : MethodName := ⟨RX6, "readPair", "()Z"⟩
abbrev cX6_readList : ByteArray := prog_8_method_9_code
def yX6_readList : MethodName := ⟨RX6, "readList", "(I)Z"⟩
abbrev cX6_readNumber : ByteArray := prog_8_method_10_code
def yX6_readNumber : MethodName := ⟨RX6, "readNumber", "()Z"⟩
abbrev cX6_peek : ByteArray := prog_8_method_11_code
def yX6_peek : MethodName := ⟨RX6, "peek", "()I"⟩
abbrev cX6_skip : ByteArray := prog_8_method_12_code
def yX6_skip : MethodName := ⟨RX6, "skip", "(I)Z"⟩
def RX7 : String := "TaxWorkbench$Rules"
def TX7 : u_T := fun k => match k with
  | 0 => ("TaxWorkbench$Rules", "brackets", "I", false)
  | 1 => ("TaxWorkbench$Rules", "bracketThresholds", "[I", true)
  | 2 => ("TaxWorkbench$Rules", "bracketRates", "[I", true)
  | 3 => ("TaxWorkbench$Rules", "settings", "[I", true)
  | 4 => ("TaxWorkbench$Rules", "charges", "I", false)
  | 5 => ("TaxWorkbench$Rules", "chargeThresholds", "[I", true)
  | 6 => ("TaxWorkbench$Rules", "chargeAmounts", "[I", true)
  | 7 => ("TaxWorkbench$Rules", "credits", "I", false)
  | _ => ("TaxWorkbench$Rules", "creditRow", "[LTaxWorkbench$Credit;", true)
def tyX7 : Nat → FieldType := fun k => match k with
  | 0 => .int
  | 1 => .array .int
  | 2 => .array .int
  | 3 => .array .int
  | 4 => .int
  | 5 => .array .int
  | 6 => .array .int
  | 7 => .int
  | _ => .array (.object "TaxWorkbench$Credit")
abbrev wsX70 : List Cond := u_ws RX7 TX7 9
theorem nmX7 : ∀ a, a < 9 → ∀ b, b < 9 → a ≠ b → (TX7 a).2.1 ≠ (TX7 b).2.1 := by decide +kernel
theorem tyX7_ok : ∀ k, k < 9 → parseFieldDescriptor (TX7 k).2.2.1 = some (tyX7 k) := by decide +kernel
abbrev cX7_init : ByteArray := prog_9_method_1_code
def yX7_init : MethodName := ⟨RX7, "<init>", "()V"⟩
abbrev cX7_copyFrom : ByteArray := prog_9_method_2_code
def yX7_copyFrom : MethodName := ⟨RX7, "copyFrom", "(LTaxWorkbench$Rules;)V"⟩
abbrev cX7_clear : ByteArray := prog_9_method_3_code
def yX7_clear : MethodName := ⟨RX7, "clear", "()V"⟩
abbrev cX7_setBrackets : ByteArray := prog_9_method_4_code
def yX7_setBrackets : MethodName := ⟨RX7, "setBrackets", "([II)Z"⟩
abbrev cX7_setAllowance : ByteArray := prog_9_method_5_code
def yX7_setAllowance : MethodName := ⟨RX7, "setAllowance", "(III)Z"⟩
abbrev cX7_setMinimum : ByteArray := prog_9_method_6_code
def yX7_setMinimum : MethodName := ⟨RX7, "setMinimum", "(II)Z"⟩
abbrev cX7_addCharge : ByteArray := prog_9_method_7_code
def yX7_addCharge : MethodName := ⟨RX7, "addCharge", "(II)Z"⟩
abbrev cX7_addCredit : ByteArray := prog_9_method_8_code
def yX7_addCredit : MethodName := ⟨RX7, "addCredit", "(I[IZ)Z"⟩
abbrev cX7_shiftCredit : ByteArray := prog_9_method_9_code
def yX7_shiftCredit : MethodName := ⟨RX7, "shiftCredit", "(II)V"⟩
abbrev cX7_dropCredit : ByteArray := prog_9_method_10_code
def yX7_dropCredit : MethodName := ⟨RX7, "dropCredit", "(I)V"⟩
abbrev cX7_carryOn : ByteArray := prog_9_method_11_code
def yX7_carryOn : MethodName := ⟨RX7, "carryOn", "(ILTaxWorkbench$Assessment;)V"⟩
abbrev cX7_carryNothing : ByteArray := prog_9_method_12_code
def yX7_carryNothing : MethodName := ⟨RX7, "carryNothing", "(I)V"⟩
def RX8 : String := "TaxWorkbench"
def TX8 : u_T := fun k => match k with
  | 0 => ("TaxWorkbench", "text", "LTaxWorkbench$RuleText;", true)
  | 1 => ("TaxWorkbench", "draft", "LTaxWorkbench$Rules;", true)
  | 2 => ("TaxWorkbench", "ledger", "LTaxWorkbench$Ledger;", true)
  | 3 => ("TaxWorkbench", "saved", "LTaxWorkbench$Ledger;", true)
  | 4 => ("TaxWorkbench", "hasSaved", "Z", false)
  | 5 => ("TaxWorkbench", "history", "LTaxWorkbench$History;", true)
  | 6 => ("TaxWorkbench", "assessment", "LTaxWorkbench$Assessment;", true)
  | 7 => ("TaxWorkbench", "couple", "LTaxWorkbench$Couple;", true)
  | _ => ("TaxWorkbench", "explorer", "LTaxWorkbench$Explorer;", true)
def tyX8 : Nat → FieldType := fun k => match k with
  | 0 => .object "TaxWorkbench$RuleText"
  | 1 => .object "TaxWorkbench$Rules"
  | 2 => .object "TaxWorkbench$Ledger"
  | 3 => .object "TaxWorkbench$Ledger"
  | 4 => .boolean
  | 5 => .object "TaxWorkbench$History"
  | 6 => .object "TaxWorkbench$Assessment"
  | 7 => .object "TaxWorkbench$Couple"
  | _ => .object "TaxWorkbench$Explorer"
abbrev wsX80 : List Cond := u_ws RX8 TX8 9
theorem nmX8 : ∀ a, a < 9 → ∀ b, b < 9 → a ≠ b → (TX8 a).2.1 ≠ (TX8 b).2.1 := by decide +kernel
theorem tyX8_ok : ∀ k, k < 9 → parseFieldDescriptor (TX8 k).2.2.1 = some (tyX8 k) := by decide +kernel
abbrev cX8_init : ByteArray := prog_1_method_1_code
def yX8_init : MethodName := ⟨RX8, "<init>", "()V"⟩
abbrev cX8_appendCharacter : ByteArray := prog_1_method_2_code
def yX8_appendCharacter : MethodName := ⟨RX8, "appendCharacter", "(I)I"⟩
abbrev cX8_addRules : ByteArray := prog_1_method_3_code
def yX8_addRules : MethodName := ⟨RX8, "addRules", "()I"⟩
abbrev cX8_faultPosition : ByteArray := prog_1_method_4_code
def yX8_faultPosition : MethodName := ⟨RX8, "faultPosition", "()I"⟩
abbrev cX8_clearRules : ByteArray := prog_1_method_5_code
def yX8_clearRules : MethodName := ⟨RX8, "clearRules", "()I"⟩
abbrev cX8_bracketCount : ByteArray := prog_1_method_6_code
def yX8_bracketCount : MethodName := ⟨RX8, "bracketCount", "()I"⟩
abbrev cX8_bracket : ByteArray := prog_1_method_7_code
def yX8_bracket : MethodName := ⟨RX8, "bracket", "(II)I"⟩
abbrev cX8_allowance : ByteArray := prog_1_method_8_code
def yX8_allowance : MethodName := ⟨RX8, "allowance", "(I)I"⟩
abbrev cX8_chargeCount : ByteArray := prog_1_method_9_code
def yX8_chargeCount : MethodName := ⟨RX8, "chargeCount", "()I"⟩
abbrev cX8_charge : ByteArray := prog_1_method_10_code
def yX8_charge : MethodName := ⟨RX8, "charge", "(II)I"⟩
abbrev cX8_creditCount : ByteArray := prog_1_method_11_code
def yX8_creditCount : MethodName := ⟨RX8, "creditCount", "()I"⟩
abbrev cX8_credit : ByteArray := prog_1_method_12_code
def yX8_credit : MethodName := ⟨RX8, "credit", "(II)I"⟩
abbrev cX8_removeCredit : ByteArray := prog_1_method_13_code
def yX8_removeCredit : MethodName := ⟨RX8, "removeCredit", "(I)I"⟩
abbrev cX8_moveCredit : ByteArray := prog_1_method_14_code
def yX8_moveCredit : MethodName := ⟨RX8, "moveCredit", "(II)V"⟩
abbrev cX8_setPerson : ByteArray := prog_1_method_15_code
def yX8_setPerson : MethodName := ⟨RX8, "setPerson", "(IIII)V"⟩
abbrev cX8_personData : ByteArray := prog_1_method_16_code
def yX8_personData : MethodName := ⟨RX8, "personData", "(II)I"⟩
abbrev cX8_marry : ByteArray := prog_1_method_17_code
def yX8_marry : MethodName := ⟨RX8, "marry", "(II)V"⟩
abbrev cX8_part : ByteArray := prog_1_method_18_code
def yX8_part : MethodName := ⟨RX8, "part", "(I)I"⟩
abbrev cX8_partner : ByteArray := prog_1_method_19_code
def yX8_partner : MethodName := ⟨RX8, "partner", "(I)I"⟩
abbrev cX8_tax : ByteArray := prog_1_method_20_code
def yX8_tax : MethodName := ⟨RX8, "tax", "(I)J"⟩
abbrev cX8_taxPart : ByteArray := prog_1_method_21_code
def yX8_taxPart : MethodName := ⟨RX8, "taxPart", "(II)J"⟩
abbrev cX8_creditPart : ByteArray := prog_1_method_22_code
def yX8_creditPart : MethodName := ⟨RX8, "creditPart", "(III)J"⟩
abbrev cX8_carried : ByteArray := prog_1_method_23_code
def yX8_carried : MethodName := ⟨RX8, "carried", "(II)J"⟩
abbrev cX8_jointTax : ByteArray := prog_1_method_24_code
def yX8_jointTax : MethodName := ⟨RX8, "jointTax", "(I)J"⟩
abbrev cX8_separateTax : ByteArray := prog_1_method_25_code
def yX8_separateTax : MethodName := ⟨RX8, "separateTax", "(I)J"⟩
abbrev cX8_division : ByteArray := prog_1_method_26_code
def yX8_division : MethodName := ⟨RX8, "division", "(I)I"⟩
abbrev cX8_choosesJoint : ByteArray := prog_1_method_27_code
def yX8_choosesJoint : MethodName := ⟨RX8, "choosesJoint", "(I)Z"⟩
abbrev cX8_householdTax : ByteArray := prog_1_method_28_code
def yX8_householdTax : MethodName := ⟨RX8, "householdTax", "(I)J"⟩
abbrev cX8_totalTax : ByteArray := prog_1_method_29_code
def yX8_totalTax : MethodName := ⟨RX8, "totalTax", "()J"⟩
abbrev cX8_closeYear : ByteArray := prog_1_method_30_code
def yX8_closeYear : MethodName := ⟨RX8, "closeYear", "()I"⟩
abbrev cX8_years : ByteArray := prog_1_method_31_code
def yX8_years : MethodName := ⟨RX8, "years", "()I"⟩
abbrev cX8_curve : ByteArray := prog_1_method_32_code
def yX8_curve : MethodName := ⟨RX8, "curve", "(II)J"⟩
abbrev cX8_marginalRate : ByteArray := prog_1_method_33_code
def yX8_marginalRate : MethodName := ⟨RX8, "marginalRate", "(II)J"⟩
abbrev cX8_kinks : ByteArray := prog_1_method_34_code
def yX8_kinks : MethodName := ⟨RX8, "kinks", "(I)I"⟩
abbrev cX8_nextKink : ByteArray := prog_1_method_35_code
def yX8_nextKink : MethodName := ⟨RX8, "nextKink", "(II)I"⟩
abbrev cX8_kinkCause : ByteArray := prog_1_method_36_code
def yX8_kinkCause : MethodName := ⟨RX8, "kinkCause", "(II)I"⟩
abbrev cX8_steepest : ByteArray := prog_1_method_37_code
def yX8_steepest : MethodName := ⟨RX8, "steepest", "(I)I"⟩
abbrev cX8_averageRate : ByteArray := prog_1_method_38_code
def yX8_averageRate : MethodName := ⟨RX8, "averageRate", "(I)D"⟩
abbrev cX8_averageDependents : ByteArray := prog_1_method_39_code
def yX8_averageDependents : MethodName := ⟨RX8, "averageDependents", "()F"⟩
abbrev cX8_undo : ByteArray := prog_1_method_40_code
def yX8_undo : MethodName := ⟨RX8, "undo", "()I"⟩
abbrev cX8_save : ByteArray := prog_1_method_41_code
def yX8_save : MethodName := ⟨RX8, "save", "()V"⟩
abbrev cX8_restore : ByteArray := prog_1_method_42_code
def yX8_restore : MethodName := ⟨RX8, "restore", "()V"⟩
abbrev cX8_requireIndex : ByteArray := prog_1_method_43_code
def yX8_requireIndex : MethodName := ⟨RX8, "requireIndex", "(II)V"⟩
abbrev cX8_requireRange : ByteArray := prog_1_method_44_code
def yX8_requireRange : MethodName := ⟨RX8, "requireRange", "(III)V"⟩
abbrev cX8_requirePartner : ByteArray := prog_1_method_45_code
def yX8_requirePartner : MethodName := ⟨RX8, "requirePartner", "(I)I"⟩
abbrev cX8_assessAlone : ByteArray := prog_1_method_46_code
def yX8_assessAlone : MethodName := ⟨RX8, "assessAlone", "(I)LTaxWorkbench$Assessment;"⟩
abbrev cX8_chosenTax : ByteArray := prog_1_method_47_code
def yX8_chosenTax : MethodName := ⟨RX8, "chosenTax", "(I)J"⟩
abbrev cX8_isSecond : ByteArray := prog_1_method_48_code
def yX8_isSecond : MethodName := ⟨RX8, "isSecond", "(I)Z"⟩
def RX9 : String := "TaxWorkbenchModel"
def TX9 : u_T := fun k => match k with
  | 0 => ("TaxWorkbenchModel", "g", "[I", true)
  | 1 => ("TaxWorkbenchModel", "h", "[J", true)
  | 2 => ("TaxWorkbenchModel", "kept", "[I", true)
  | 3 => ("TaxWorkbenchModel", "keptCarried", "[J", true)
  | 4 => ("TaxWorkbenchModel", "hasKept", "Z", false)
  | 5 => ("TaxWorkbenchModel", "past", "[I", true)
  | 6 => ("TaxWorkbenchModel", "pastCarried", "[J", true)
  | 7 => ("TaxWorkbenchModel", "pasts", "I", false)
  | 8 => ("TaxWorkbenchModel", "thrown", "I", false)
  | 9 => ("TaxWorkbenchModel", "text", "[I", true)
  | 10 => ("TaxWorkbenchModel", "length", "I", false)
  | 11 => ("TaxWorkbenchModel", "spot", "I", false)
  | 12 => ("TaxWorkbenchModel", "number", "I", false)
  | 13 => ("TaxWorkbenchModel", "fault", "I", false)
  | 14 => ("TaxWorkbenchModel", "isOdd", "Z", false)
  | 15 => ("TaxWorkbenchModel", "tried", "[I", true)
  | 16 => ("TaxWorkbenchModel", "parts", "[J", true)
  | 17 => ("TaxWorkbenchModel", "brought", "[J", true)
  | 18 => ("TaxWorkbenchModel", "value", "[J", true)
  | 19 => ("TaxWorkbenchModel", "used", "[J", true)
  | 20 => ("TaxWorkbenchModel", "rest", "[J", true)
  | 21 => ("TaxWorkbenchModel", "parted", "I", false)
  | _ => ("TaxWorkbenchModel", "next", "[J", true)
def tyX9 : Nat → FieldType := fun k => match k with
  | 0 => .array .int
  | 1 => .array .long
  | 2 => .array .int
  | 3 => .array .long
  | 4 => .boolean
  | 5 => .array .int
  | 6 => .array .long
  | 7 => .int
  | 8 => .int
  | 9 => .array .int
  | 10 => .int
  | 11 => .int
  | 12 => .int
  | 13 => .int
  | 14 => .boolean
  | 15 => .array .int
  | 16 => .array .long
  | 17 => .array .long
  | 18 => .array .long
  | 19 => .array .long
  | 20 => .array .long
  | 21 => .int
  | _ => .array .long
abbrev wsX90 : List Cond := u_ws RX9 TX9 23
theorem nmX9 : ∀ a, a < 23 → ∀ b, b < 23 → a ≠ b → (TX9 a).2.1 ≠ (TX9 b).2.1 := by decide +kernel
theorem tyX9_ok : ∀ k, k < 23 → parseFieldDescriptor (TX9 k).2.2.1 = some (tyX9 k) := by decide +kernel
abbrev cX9_init : ByteArray := prog_11_method_1_code
def yX9_init : MethodName := ⟨RX9, "<init>", "()V"⟩
abbrev cX9_thrown : ByteArray := prog_11_method_2_code
def yX9_thrown : MethodName := ⟨RX9, "thrown", "()I"⟩
abbrev cX9_fails : ByteArray := prog_11_method_3_code
def yX9_fails : MethodName := ⟨RX9, "fails", "(I)I"⟩
abbrev cX9_in : ByteArray := prog_11_method_4_code
def yX9_in : MethodName := ⟨RX9, "in", "(III)Z"⟩
abbrev cX9_isPerson : ByteArray := prog_11_method_5_code
def yX9_isPerson : MethodName := ⟨RX9, "isPerson", "(I)Z"⟩
abbrev cX9_isCredit : ByteArray := prog_11_method_6_code
def yX9_isCredit : MethodName := ⟨RX9, "isCredit", "(I)Z"⟩
abbrev cX9_creditOf : ByteArray := prog_11_method_7_code
def yX9_creditOf : MethodName := ⟨RX9, "creditOf", "(II)I"⟩
abbrev cX9_changes : ByteArray := prog_11_method_8_code
def yX9_changes : MethodName := ⟨RX9, "changes", "()V"⟩
abbrev cX9_undo : ByteArray := prog_11_method_9_code
def yX9_undo : MethodName := ⟨RX9, "undo", "()I"⟩
abbrev cX9_save : ByteArray := prog_11_method_10_code
def yX9_save : MethodName := ⟨RX9, "save", "()V"⟩
abbrev cX9_restore : ByteArray := prog_11_method_11_code
def yX9_restore : MethodName := ⟨RX9, "restore", "()V"⟩
abbrev cX9_appendCharacter : ByteArray := prog_11_method_12_code
def yX9_appendCharacter : MethodName := ⟨RX9, "appendCharacter", "(I)I"⟩
abbrev cX9_faultPosition : ByteArray := prog_11_method_13_code
def yX9_faultPosition : MethodName := ⟨RX9, "faultPosition", "()I"⟩
abbrev cX9_here : ByteArray := prog_11_method_14_code
def yX9_here : MethodName := ⟨RX9, "here", "()I"⟩
abbrev cX9_skips : ByteArray := prog_11_method_15_code
def yX9_skips : MethodName := ⟨RX9, "skips", "(I)Z"⟩
abbrev cX9_number : ByteArray := prog_11_method_16_code
def yX9_number : MethodName := ⟨RX9, "number", "()Z"⟩
abbrev cX9_rate : ByteArray := prog_11_method_17_code
def yX9_rate : MethodName := ⟨RX9, "rate", "()V"⟩
abbrev cX9_brackets : ByteArray := prog_11_method_18_code
def yX9_brackets : MethodName := ⟨RX9, "brackets", "()Z"⟩
abbrev cX9_numbers : ByteArray := prog_11_method_19_code
def yX9_numbers : MethodName := ⟨RX9, "numbers", "(III)Z"⟩
abbrev cX9_chargeComes : ByteArray := prog_11_method_20_code
def yX9_chargeComes : MethodName := ⟨RX9, "chargeComes", "()Z"⟩
abbrev cX9_creditComes : ByteArray := prog_11_method_21_code
def yX9_creditComes : MethodName := ⟨RX9, "creditComes", "(I)Z"⟩
abbrev cX9_item : ByteArray := prog_11_method_22_code
def yX9_item : MethodName := ⟨RX9, "item", "()Z"⟩
abbrev cX9_items : ByteArray := prog_11_method_23_code
def yX9_items : MethodName := ⟨RX9, "items", "()I"⟩
abbrev cX9_addRules : ByteArray := prog_11_method_24_code
def yX9_addRules : MethodName := ⟨RX9, "addRules", "()I"⟩
abbrev cX9_forgets : ByteArray := prog_11_method_25_code
def yX9_forgets : MethodName := ⟨RX9, "forgets", "(I)V"⟩
abbrev cX9_clearRules : ByteArray := prog_11_method_26_code
def yX9_clearRules : MethodName := ⟨RX9, "clearRules", "()I"⟩
abbrev cX9_bracketCount : ByteArray := prog_11_method_27_code
def yX9_bracketCount : MethodName := ⟨RX9, "bracketCount", "()I"⟩
abbrev cX9_bracket : ByteArray := prog_11_method_28_code
def yX9_bracket : MethodName := ⟨RX9, "bracket", "(II)I"⟩
abbrev cX9_allowance : ByteArray := prog_11_method_29_code
def yX9_allowance : MethodName := ⟨RX9, "allowance", "(I)I"⟩
abbrev cX9_chargeCount : ByteArray := prog_11_method_30_code
def yX9_chargeCount : MethodName := ⟨RX9, "chargeCount", "()I"⟩
abbrev cX9_charge : ByteArray := prog_11_method_31_code
def yX9_charge : MethodName := ⟨RX9, "charge", "(II)I"⟩
abbrev cX9_creditCount : ByteArray := prog_11_method_32_code
def yX9_creditCount : MethodName := ⟨RX9, "creditCount", "()I"⟩
abbrev cX9_credit : ByteArray := prog_11_method_33_code
def yX9_credit : MethodName := ⟨RX9, "credit", "(II)I"⟩
abbrev cX9_exchanges : ByteArray := prog_11_method_34_code
def yX9_exchanges : MethodName := ⟨RX9, "exchanges", "(II)V"⟩
abbrev cX9_moves : ByteArray := prog_11_method_35_code
def yX9_moves : MethodName := ⟨RX9, "moves", "(II)V"⟩
abbrev cX9_removeCredit : ByteArray := prog_11_method_36_code
def yX9_removeCredit : MethodName := ⟨RX9, "removeCredit", "(I)I"⟩
abbrev cX9_moveCredit : ByteArray := prog_11_method_37_code
def yX9_moveCredit : MethodName := ⟨RX9, "moveCredit", "(II)V"⟩
abbrev cX9_setPerson : ByteArray := prog_11_method_38_code
def yX9_setPerson : MethodName := ⟨RX9, "setPerson", "(IIII)V"⟩
abbrev cX9_of : ByteArray := prog_11_method_39_code
def yX9_of : MethodName := ⟨RX9, "of", "(II)I"⟩
abbrev cX9_personData : ByteArray := prog_11_method_40_code
def yX9_personData : MethodName := ⟨RX9, "personData", "(II)I"⟩
abbrev cX9_marry : ByteArray := prog_11_method_41_code
def yX9_marry : MethodName := ⟨RX9, "marry", "(II)V"⟩
abbrev cX9_coupled : ByteArray := prog_11_method_42_code
def yX9_coupled : MethodName := ⟨RX9, "coupled", "(I)I"⟩
abbrev cX9_part : ByteArray := prog_11_method_43_code
def yX9_part : MethodName := ⟨RX9, "part", "(I)I"⟩
abbrev cX9_partner : ByteArray := prog_11_method_44_code
def yX9_partner : MethodName := ⟨RX9, "partner", "(I)I"⟩
abbrev cX9_positive : ByteArray := prog_11_method_45_code
def yX9_positive : MethodName := ⟨RX9, "positive", "(J)J"⟩
abbrev cX9_lesser : ByteArray := prog_11_method_46_code
def yX9_lesser : MethodName := ⟨RX9, "lesser", "(JJ)J"⟩
abbrev cX9_above : ByteArray := prog_11_method_47_code
def yX9_above : MethodName := ⟨RX9, "above", "(III)J"⟩
abbrev cX9_scheduled : ByteArray := prog_11_method_48_code
def yX9_scheduled : MethodName := ⟨RX9, "scheduled", "(JI)J"⟩
abbrev cX9_charges : ByteArray := prog_11_method_49_code
def yX9_charges : MethodName := ⟨RX9, "charges", "(II)J"⟩
abbrev cX9_valueOf : ByteArray := prog_11_method_50_code
def yX9_valueOf : MethodName := ⟨RX9, "valueOf", "(IIIII)J"⟩
abbrev cX9_taxOf : ByteArray := prog_11_method_51_code
def yX9_taxOf : MethodName := ⟨RX9, "taxOf", "(IIII)J"⟩
abbrev cX9_brings : ByteArray := prog_11_method_52_code
def yX9_brings : MethodName := ⟨RX9, "brings", "(II)V"⟩
abbrev cX9_alone : ByteArray := prog_11_method_53_code
def yX9_alone : MethodName := ⟨RX9, "alone", "(III)J"⟩
abbrev cX9_taxOfPerson : ByteArray := prog_11_method_54_code
def yX9_taxOfPerson : MethodName := ⟨RX9, "taxOfPerson", "(I)J"⟩
abbrev cX9_tax : ByteArray := prog_11_method_55_code
def yX9_tax : MethodName := ⟨RX9, "tax", "(I)J"⟩
abbrev cX9_taxPart : ByteArray := prog_11_method_56_code
def yX9_taxPart : MethodName := ⟨RX9, "taxPart", "(II)J"⟩
abbrev cX9_unused : ByteArray := prog_11_method_57_code
def yX9_unused : MethodName := ⟨RX9, "unused", "(II)J"⟩
abbrev cX9_creditTold : ByteArray := prog_11_method_58_code
def yX9_creditTold : MethodName := ⟨RX9, "creditTold", "(II)J"⟩
abbrev cX9_creditPart : ByteArray := prog_11_method_59_code
def yX9_creditPart : MethodName := ⟨RX9, "creditPart", "(III)J"⟩
abbrev cX9_carried : ByteArray := prog_11_method_60_code
def yX9_carried : MethodName := ⟨RX9, "carried", "(II)J"⟩
abbrev cX9_firstOf : ByteArray := prog_11_method_61_code
def yX9_firstOf : MethodName := ⟨RX9, "firstOf", "(I)I"⟩
abbrev cX9_jointly : ByteArray := prog_11_method_62_code
def yX9_jointly : MethodName := ⟨RX9, "jointly", "(I)J"⟩
abbrev cX9_apart : ByteArray := prog_11_method_63_code
def yX9_apart : MethodName := ⟨RX9, "apart", "(I)J"⟩
abbrev cX9_jointTax : ByteArray := prog_11_method_64_code
def yX9_jointTax : MethodName := ⟨RX9, "jointTax", "(I)J"⟩
abbrev cX9_separateTax : ByteArray := prog_11_method_65_code
def yX9_separateTax : MethodName := ⟨RX9, "separateTax", "(I)J"⟩
abbrev cX9_division : ByteArray := prog_11_method_66_code
def yX9_division : MethodName := ⟨RX9, "division", "(I)I"⟩
abbrev cX9_choosesJoint : ByteArray := prog_11_method_67_code
def yX9_choosesJoint : MethodName := ⟨RX9, "choosesJoint", "(I)Z"⟩
abbrev cX9_household : ByteArray := prog_11_method_68_code
def yX9_household : MethodName := ⟨RX9, "household", "(I)J"⟩
abbrev cX9_householdTax : ByteArray := prog_11_method_69_code
def yX9_householdTax : MethodName := ⟨RX9, "householdTax", "(I)J"⟩
abbrev cX9_isCounted : ByteArray := prog_11_method_70_code
def yX9_isCounted : MethodName := ⟨RX9, "isCounted", "(I)Z"⟩
abbrev cX9_totalTax : ByteArray := prog_11_method_71_code
def yX9_totalTax : MethodName := ⟨RX9, "totalTax", "()J"⟩
abbrev cX9_carries : ByteArray := prog_11_method_72_code
def yX9_carries : MethodName := ⟨RX9, "carries", "(I)V"⟩
abbrev cX9_closes : ByteArray := prog_11_method_73_code
def yX9_closes : MethodName := ⟨RX9, "closes", "(I)V"⟩
abbrev cX9_closeYear : ByteArray := prog_11_method_74_code
def yX9_closeYear : MethodName := ⟨RX9, "closeYear", "()I"⟩
abbrev cX9_years : ByteArray := prog_11_method_75_code
def yX9_years : MethodName := ⟨RX9, "years", "()I"⟩
abbrev cX9_taxAt : ByteArray := prog_11_method_76_code
def yX9_taxAt : MethodName := ⟨RX9, "taxAt", "(II)J"⟩
abbrev cX9_curve : ByteArray := prog_11_method_77_code
def yX9_curve : MethodName := ⟨RX9, "curve", "(II)J"⟩
abbrev cX9_marginal : ByteArray := prog_11_method_78_code
def yX9_marginal : MethodName := ⟨RX9, "marginal", "(II)J"⟩
abbrev cX9_marginalRate : ByteArray := prog_11_method_79_code
def yX9_marginalRate : MethodName := ⟨RX9, "marginalRate", "(II)J"⟩
abbrev cX9_isKink : ByteArray := prog_11_method_80_code
def yX9_isKink : MethodName := ⟨RX9, "isKink", "(II)Z"⟩
abbrev cX9_kinks : ByteArray := prog_11_method_81_code
def yX9_kinks : MethodName := ⟨RX9, "kinks", "(I)I"⟩
abbrev cX9_nextKink : ByteArray := prog_11_method_82_code
def yX9_nextKink : MethodName := ⟨RX9, "nextKink", "(II)I"⟩
abbrev cX9_partAt : ByteArray := prog_11_method_83_code
def yX9_partAt : MethodName := ⟨RX9, "partAt", "(III)J"⟩
abbrev cX9_kinkCause : ByteArray := prog_11_method_84_code
def yX9_kinkCause : MethodName := ⟨RX9, "kinkCause", "(II)I"⟩
abbrev cX9_steepest : ByteArray := prog_11_method_85_code
def yX9_steepest : MethodName := ⟨RX9, "steepest", "(I)I"⟩
abbrev cX9_averageRate : ByteArray := prog_11_method_86_code
def yX9_averageRate : MethodName := ⟨RX9, "averageRate", "(I)D"⟩
abbrev cX9_averageDependents : ByteArray := prog_11_method_87_code
def yX9_averageDependents : MethodName := ⟨RX9, "averageDependents", "()F"⟩
def RJx145de : String := "java/io/Serializable"
def TJx145de : u_T := fun k => match k with
  | _ => ("", "", "", false)
def tyJx145de : Nat → FieldType := fun k => match k with
  | _ => .int
abbrev wsJx145de0 : List Cond := u_ws RJx145de TJx145de 0
theorem nmJx145de : ∀ a, a < 0 → ∀ b, b < 0 → a ≠ b → (TJx145de a).2.1 ≠ (TJx145de b).2.1 := by decide +kernel
theorem tyJx145de_ok : ∀ k, k < 0 → parseFieldDescriptor (TJx145de k).2.2.1 = some (tyJx145de k) := by decide +kernel
def RJx00060 : String := "java/lang/ArrayIndexOutOfBoundsException"
def TJx00060 : u_T := fun k => match k with
  | 0 => ("java/lang/Throwable", "backtrace", "Ljava/lang/Object;", false)
  | 1 => ("java/lang/Throwable", "detailMessage", "Ljava/lang/String;", false)
  | 2 => ("java/lang/Throwable", "cause", "Ljava/lang/Throwable;", false)
  | 3 => ("java/lang/Throwable", "stackTrace", "[Ljava/lang/StackTraceElement;", false)
  | 4 => ("java/lang/Throwable", "depth", "I", false)
  | _ => ("java/lang/Throwable", "suppressedExceptions", "Ljava/util/List;", false)
def tyJx00060 : Nat → FieldType := fun k => match k with
  | 0 => .object "java/lang/Object"
  | 1 => .object "java/lang/String"
  | 2 => .object "java/lang/Throwable"
  | 3 => .array (.object "java/lang/StackTraceElement")
  | 4 => .int
  | _ => .object "java/util/List"
abbrev wsJx000600 : List Cond := u_ws RJx00060 TJx00060 6
theorem nmJx00060 : ∀ a, a < 6 → ∀ b, b < 6 → a ≠ b → (TJx00060 a).2.1 ≠ (TJx00060 b).2.1 := by decide +kernel
theorem tyJx00060_ok : ∀ k, k < 6 → parseFieldDescriptor (TJx00060 k).2.2.1 = some (tyJx00060 k) := by decide +kernel
abbrev cJx00060_init_a7421 : ByteArray := prog_14_method_2_code
def yJx00060_init_a7421 : MethodName := ⟨RJx00060, "<init>", "(Ljava/lang/String;)V"⟩
def RJ9 : String := "java/lang/Math"
def TJ9 : u_T := fun k => match k with
  | _ => ("", "", "", false)
def tyJ9 : Nat → FieldType := fun k => match k with
  | _ => .int
abbrev wsJ90 : List Cond := u_ws RJ9 TJ9 0
theorem nmJ9 : ∀ a, a < 0 → ∀ b, b < 0 → a ≠ b → (TJ9 a).2.1 ≠ (TJ9 b).2.1 := by decide +kernel
theorem tyJ9_ok : ∀ k, k < 0 → parseFieldDescriptor (TJ9 k).2.2.1 = some (tyJ9 k) := by decide +kernel
abbrev cJ9_max_7cf53 : ByteArray := prog_19_method_65_code
def yJ9_max_7cf53 : MethodName := ⟨RJ9, "max", "(II)I"⟩
abbrev cJ9_max_f86c9 : ByteArray := prog_19_method_66_code
def yJ9_max_f86c9 : MethodName := ⟨RJ9, "max", "(JJ)J"⟩
abbrev cJ9_min_7cf53 : ByteArray := prog_19_method_69_code
def yJ9_min_7cf53 : MethodName := ⟨RJ9, "min", "(II)I"⟩
abbrev cJ9_min_f86c9 : ByteArray := prog_19_method_70_code
def yJ9_min_f86c9 : MethodName := ⟨RJ9, "min", "(JJ)J"⟩
def RJ0 : String := "java/lang/String"
def TJ0 : u_T := fun k => match k with
  | 0 => ("java/lang/String", "value", "[B", true)
  | _ => ("java/lang/String", "coder", "B", true)
def tyJ0 : Nat → FieldType := fun k => match k with
  | 0 => .array .byte
  | _ => .byte
abbrev wsJ00 : List Cond := u_ws RJ0 TJ0 2
theorem nmJ0 : ∀ a, a < 2 → ∀ b, b < 2 → a ≠ b → (TJ0 a).2.1 ≠ (TJ0 b).2.1 := by decide +kernel
theorem tyJ0_ok : ∀ k, k < 2 → parseFieldDescriptor (TJ0 k).2.2.1 = some (tyJ0 k) := by decide +kernel
def RJ10 : String := "java/lang/System"
def TJ10 : u_T := fun k => match k with
  | _ => ("", "", "", false)
def tyJ10 : Nat → FieldType := fun k => match k with
  | _ => .int
abbrev wsJ100 : List Cond := u_ws RJ10 TJ10 0
theorem nmJ10 : ∀ a, a < 0 → ∀ b, b < 0 → a ≠ b → (TJ10 a).2.1 ≠ (TJ10 b).2.1 := by decide +kernel
theorem tyJ10_ok : ∀ k, k < 0 → parseFieldDescriptor (TJ10 k).2.2.1 = some (tyJ10 k) := by decide +kernel
def RL : String := "TaxWorkbenchLaw"
abbrev cL_appendCharacter : ByteArray := method_3_code
def yL_appendCharacter : MethodName := ⟨RL, "appendCharacter", "(LTaxWorkbench;I[J)I"⟩
abbrev cL_addRules : ByteArray := method_4_code
def yL_addRules : MethodName := ⟨RL, "addRules", "(LTaxWorkbench;[J)I"⟩
abbrev cL_bracket : ByteArray := method_5_code
def yL_bracket : MethodName := ⟨RL, "bracket", "(LTaxWorkbench;II[J)I"⟩
abbrev cL_allowance : ByteArray := method_6_code
def yL_allowance : MethodName := ⟨RL, "allowance", "(LTaxWorkbench;I[J)I"⟩
abbrev cL_charge : ByteArray := method_7_code
def yL_charge : MethodName := ⟨RL, "charge", "(LTaxWorkbench;II[J)I"⟩
abbrev cL_credit : ByteArray := method_8_code
def yL_credit : MethodName := ⟨RL, "credit", "(LTaxWorkbench;II[J)I"⟩
abbrev cL_removeCredit : ByteArray := method_9_code
def yL_removeCredit : MethodName := ⟨RL, "removeCredit", "(LTaxWorkbench;I[J)I"⟩
abbrev cL_moveCredit : ByteArray := method_10_code
def yL_moveCredit : MethodName := ⟨RL, "moveCredit", "(LTaxWorkbench;II)I"⟩
abbrev cL_setPerson : ByteArray := method_11_code
def yL_setPerson : MethodName := ⟨RL, "setPerson", "(LTaxWorkbench;IIII)I"⟩
abbrev cL_personData : ByteArray := method_12_code
def yL_personData : MethodName := ⟨RL, "personData", "(LTaxWorkbench;II[J)I"⟩
abbrev cL_marry : ByteArray := method_13_code
def yL_marry : MethodName := ⟨RL, "marry", "(LTaxWorkbench;II)I"⟩
abbrev cL_part : ByteArray := method_14_code
def yL_part : MethodName := ⟨RL, "part", "(LTaxWorkbench;I[J)I"⟩
abbrev cL_partner : ByteArray := method_15_code
def yL_partner : MethodName := ⟨RL, "partner", "(LTaxWorkbench;I[J)I"⟩
abbrev cL_tax : ByteArray := method_16_code
def yL_tax : MethodName := ⟨RL, "tax", "(LTaxWorkbench;I[J)I"⟩
abbrev cL_taxPart : ByteArray := method_17_code
def yL_taxPart : MethodName := ⟨RL, "taxPart", "(LTaxWorkbench;II[J)I"⟩
abbrev cL_creditPart : ByteArray := method_18_code
def yL_creditPart : MethodName := ⟨RL, "creditPart", "(LTaxWorkbench;III[J)I"⟩
abbrev cL_carried : ByteArray := method_19_code
def yL_carried : MethodName := ⟨RL, "carried", "(LTaxWorkbench;II[J)I"⟩
abbrev cL_jointTax : ByteArray := method_20_code
def yL_jointTax : MethodName := ⟨RL, "jointTax", "(LTaxWorkbench;I[J)I"⟩
abbrev cL_separateTax : ByteArray := method_21_code
def yL_separateTax : MethodName := ⟨RL, "separateTax", "(LTaxWorkbench;I[J)I"⟩
abbrev cL_division : ByteArray := method_22_code
def yL_division : MethodName := ⟨RL, "division", "(LTaxWorkbench;I[J)I"⟩
abbrev cL_choosesJoint : ByteArray := method_23_code
def yL_choosesJoint : MethodName := ⟨RL, "choosesJoint", "(LTaxWorkbench;I[J)I"⟩
abbrev cL_householdTax : ByteArray := method_24_code
def yL_householdTax : MethodName := ⟨RL, "householdTax", "(LTaxWorkbench;I[J)I"⟩
abbrev cL_curve : ByteArray := method_25_code
def yL_curve : MethodName := ⟨RL, "curve", "(LTaxWorkbench;II[J)I"⟩
abbrev cL_marginalRate : ByteArray := method_26_code
def yL_marginalRate : MethodName := ⟨RL, "marginalRate", "(LTaxWorkbench;II[J)I"⟩
abbrev cL_kinks : ByteArray := method_27_code
def yL_kinks : MethodName := ⟨RL, "kinks", "(LTaxWorkbench;I[J)I"⟩
abbrev cL_nextKink : ByteArray := method_28_code
def yL_nextKink : MethodName := ⟨RL, "nextKink", "(LTaxWorkbench;II[J)I"⟩
abbrev cL_kinkCause : ByteArray := method_29_code
def yL_kinkCause : MethodName := ⟨RL, "kinkCause", "(LTaxWorkbench;II[J)I"⟩
abbrev cL_steepest : ByteArray := method_30_code
def yL_steepest : MethodName := ⟨RL, "steepest", "(LTaxWorkbench;I[J)I"⟩
abbrev cL_averageRate : ByteArray := method_31_code
def yL_averageRate : MethodName := ⟨RL, "averageRate", "(LTaxWorkbench;I[D)I"⟩
abbrev cL_undo : ByteArray := method_32_code
def yL_undo : MethodName := ⟨RL, "undo", "(LTaxWorkbench;[J)I"⟩
abbrev cL_restore : ByteArray := method_33_code
def yL_restore : MethodName := ⟨RL, "restore", "(LTaxWorkbench;)I"⟩
abbrev cL_law : ByteArray := code
def yL_law : MethodName := ⟨RL, "law", "([I)Z"⟩
abbrev vwCl : List vw_C := [(RJ0, TJ0, 2), (RJx00060, TJx00060, 6), (RX0, TX0, 8), (RX1, TX1, 7), (RX2, TX2, 2), (RX3, TX3, 1), (RX4, TX4, 3), (RX5, TX5, 6), (RX6, TX6, 8), (RX7, TX7, 9), (RX8, TX8, 9), (RX9, TX9, 23)]
