section
-- ===== PART A: goes FIRST, ahead of the names: the tables' words, and 'selects' of the private methods out of them =====
/-- a private method of a class that the tables say can be made, by its rows of tables_1 -/
def lw_okq (q : MethodName × Nat) : Prop := (q.1.cls ≠ "java/lang/invoke/MethodHandle" ∧ q.1.cls ≠ "java/lang/invoke/VarHandle") ∧ Cond.instantiable q.1.cls q.2 ∈ tables_1 ∧ Cond.privateMethod q.1 ∈ tables_1 ∧ Cond.instanceMethod q.1 ∈ tables_1
theorem lw_p0 : lw_okq (⟨"FilterPile$Light", "isWithin", "(J)Z"⟩, 5) := ⟨⟨by decide +kernel, by decide +kernel⟩, List.mem_of_getElem? (i := 39) (by decide +kernel), List.mem_of_getElem? (i := 291) (by decide +kernel), List.mem_of_getElem? (i := 292) (by decide +kernel)⟩
theorem lw_p1 : lw_okq (⟨"FilterPile", "isBehind", "(I)Z"⟩, 13) := ⟨⟨by decide +kernel, by decide +kernel⟩, List.mem_of_getElem? (i := 25) (by decide +kernel), List.mem_of_getElem? (i := 401) (by decide +kernel), List.mem_of_getElem? (i := 402) (by decide +kernel)⟩
theorem lw_p2 : lw_okq (⟨"FilterPile", "shineBehind", "(I)V"⟩, 13) := ⟨⟨by decide +kernel, by decide +kernel⟩, List.mem_of_getElem? (i := 25) (by decide +kernel), List.mem_of_getElem? (i := 409) (by decide +kernel), List.mem_of_getElem? (i := 410) (by decide +kernel)⟩
theorem lw_p3 : lw_okq (⟨"FilterPile$Light", "passGrey", "(II)V"⟩, 5) := ⟨⟨by decide +kernel, by decide +kernel⟩, List.mem_of_getElem? (i := 39) (by decide +kernel), List.mem_of_getElem? (i := 423) (by decide +kernel), List.mem_of_getElem? (i := 424) (by decide +kernel)⟩
theorem lw_p4 : lw_okq (⟨"FilterPile$Light", "passSheet", "(III)V"⟩, 5) := ⟨⟨by decide +kernel, by decide +kernel⟩, List.mem_of_getElem? (i := 39) (by decide +kernel), List.mem_of_getElem? (i := 430) (by decide +kernel), List.mem_of_getElem? (i := 431) (by decide +kernel)⟩
theorem lw_p5 : lw_okq (⟨"FilterPile$Light", "turnQuarter", "(I)V"⟩, 5) := ⟨⟨by decide +kernel, by decide +kernel⟩, List.mem_of_getElem? (i := 39) (by decide +kernel), List.mem_of_getElem? (i := 436) (by decide +kernel), List.mem_of_getElem? (i := 437) (by decide +kernel)⟩
theorem lw_p6 : lw_okq (⟨"FilterPile", "leftInBeam", "(I)J"⟩, 13) := ⟨⟨by decide +kernel, by decide +kernel⟩, List.mem_of_getElem? (i := 25) (by decide +kernel), List.mem_of_getElem? (i := 455) (by decide +kernel), List.mem_of_getElem? (i := 456) (by decide +kernel)⟩
theorem lw_p7 : lw_okq (⟨"FilterPile", "squaresAreOver", "()Z"⟩, 13) := ⟨⟨by decide +kernel, by decide +kernel⟩, List.mem_of_getElem? (i := 25) (by decide +kernel), List.mem_of_getElem? (i := 476) (by decide +kernel), List.mem_of_getElem? (i := 477) (by decide +kernel)⟩
theorem lw_p8 : lw_okq (⟨"FilterPile$Orders", "goOn", "(LFilterPile$Bench;LFilterPile$Outcomes;III)V"⟩, 1) := ⟨⟨by decide +kernel, by decide +kernel⟩, List.mem_of_getElem? (i := 192) (by decide +kernel), List.mem_of_getElem? (i := 521) (by decide +kernel), List.mem_of_getElem? (i := 522) (by decide +kernel)⟩
theorem lw_p9 : lw_okq (⟨"FilterPile$Outcomes", "remember", "(LFilterPile$Light;)V"⟩, 7) := ⟨⟨by decide +kernel, by decide +kernel⟩, List.mem_of_getElem? (i := 157) (by decide +kernel), List.mem_of_getElem? (i := 540) (by decide +kernel), List.mem_of_getElem? (i := 541) (by decide +kernel)⟩
theorem lw_p10 : lw_okq (⟨"FilterPile$Outcomes", "isSeen", "(ILFilterPile$Light;)Z"⟩, 7) := ⟨⟨by decide +kernel, by decide +kernel⟩, List.mem_of_getElem? (i := 157) (by decide +kernel), List.mem_of_getElem? (i := 544) (by decide +kernel), List.mem_of_getElem? (i := 545) (by decide +kernel)⟩
theorem lw_p11 : lw_okq (⟨"FilterPile", "shineOn", "(II)V"⟩, 13) := ⟨⟨by decide +kernel, by decide +kernel⟩, List.mem_of_getElem? (i := 25) (by decide +kernel), List.mem_of_getElem? (i := 582) (by decide +kernel), List.mem_of_getElem? (i := 583) (by decide +kernel)⟩
theorem lw_p12 : lw_okq (⟨"FilterPile", "isCrossed", "(II)Z"⟩, 13) := ⟨⟨by decide +kernel, by decide +kernel⟩, List.mem_of_getElem? (i := 25) (by decide +kernel), List.mem_of_getElem? (i := 599) (by decide +kernel), List.mem_of_getElem? (i := 600) (by decide +kernel)⟩
theorem lw_p13 : lw_okq (⟨"FilterPile", "makeList", "(II)V"⟩, 13) := ⟨⟨by decide +kernel, by decide +kernel⟩, List.mem_of_getElem? (i := 25) (by decide +kernel), List.mem_of_getElem? (i := 618) (by decide +kernel), List.mem_of_getElem? (i := 619) (by decide +kernel)⟩
theorem lw_p14 : lw_okq (⟨"FilterPile", "isMissing", "(I)Z"⟩, 13) := ⟨⟨by decide +kernel, by decide +kernel⟩, List.mem_of_getElem? (i := 25) (by decide +kernel), List.mem_of_getElem? (i := 626) (by decide +kernel), List.mem_of_getElem? (i := 627) (by decide +kernel)⟩
theorem lw_p15 : lw_okq (⟨"FilterPile", "hasListPlace", "(II)Z"⟩, 13) := ⟨⟨by decide +kernel, by decide +kernel⟩, List.mem_of_getElem? (i := 25) (by decide +kernel), List.mem_of_getElem? (i := 630) (by decide +kernel), List.mem_of_getElem? (i := 631) (by decide +kernel)⟩
def lw_privs_1 : List (MethodName × Nat) := [(⟨"FilterPile$Light", "isWithin", "(J)Z"⟩, 5), (⟨"FilterPile", "isBehind", "(I)Z"⟩, 13), (⟨"FilterPile", "shineBehind", "(I)V"⟩, 13), (⟨"FilterPile$Light", "passGrey", "(II)V"⟩, 5), (⟨"FilterPile$Light", "passSheet", "(III)V"⟩, 5), (⟨"FilterPile$Light", "turnQuarter", "(I)V"⟩, 5), (⟨"FilterPile", "leftInBeam", "(I)J"⟩, 13), (⟨"FilterPile", "squaresAreOver", "()Z"⟩, 13), (⟨"FilterPile$Orders", "goOn", "(LFilterPile$Bench;LFilterPile$Outcomes;III)V"⟩, 1), (⟨"FilterPile$Outcomes", "remember", "(LFilterPile$Light;)V"⟩, 7), (⟨"FilterPile$Outcomes", "isSeen", "(ILFilterPile$Light;)Z"⟩, 7), (⟨"FilterPile", "shineOn", "(II)V"⟩, 13), (⟨"FilterPile", "isCrossed", "(II)Z"⟩, 13), (⟨"FilterPile", "makeList", "(II)V"⟩, 13), (⟨"FilterPile", "isMissing", "(I)Z"⟩, 13), (⟨"FilterPile", "hasListPlace", "(II)Z"⟩, 13)]
theorem lw_r1 : ∀ q ∈ lw_privs_1, lw_okq q := List.forall_mem_cons.mpr ⟨lw_p0, List.forall_mem_cons.mpr ⟨lw_p1, List.forall_mem_cons.mpr ⟨lw_p2, List.forall_mem_cons.mpr ⟨lw_p3, List.forall_mem_cons.mpr ⟨lw_p4, List.forall_mem_cons.mpr ⟨lw_p5, List.forall_mem_cons.mpr ⟨lw_p6, List.forall_mem_cons.mpr ⟨lw_p7, List.forall_mem_cons.mpr ⟨lw_p8, List.forall_mem_cons.mpr ⟨lw_p9, List.forall_mem_cons.mpr ⟨lw_p10, List.forall_mem_cons.mpr ⟨lw_p11, List.forall_mem_cons.mpr ⟨lw_p12, List.forall_mem_cons.mpr ⟨lw_p13, List.forall_mem_cons.mpr ⟨lw_p14, List.forall_mem_cons.mpr ⟨lw_p15, fun _ h => absurd h List.not_mem_nil⟩⟩⟩⟩⟩⟩⟩⟩⟩⟩⟩⟩⟩⟩⟩⟩
theorem lw_p16 : lw_okq (⟨"FilterPile", "refind", "(I)Z"⟩, 13) := ⟨⟨by decide +kernel, by decide +kernel⟩, List.mem_of_getElem? (i := 25) (by decide +kernel), List.mem_of_getElem? (i := 650) (by decide +kernel), List.mem_of_getElem? (i := 651) (by decide +kernel)⟩
theorem lw_p17 : lw_okq (⟨"FilterPile", "tellLight", "(I)Z"⟩, 13) := ⟨⟨by decide +kernel, by decide +kernel⟩, List.mem_of_getElem? (i := 25) (by decide +kernel), List.mem_of_getElem? (i := 664) (by decide +kernel), List.mem_of_getElem? (i := 665) (by decide +kernel)⟩
theorem lw_p18 : lw_okq (⟨"FilterPile", "measure", "(I)D"⟩, 13) := ⟨⟨by decide +kernel, by decide +kernel⟩, List.mem_of_getElem? (i := 25) (by decide +kernel), List.mem_of_getElem? (i := 689) (by decide +kernel), List.mem_of_getElem? (i := 690) (by decide +kernel)⟩
theorem lw_p19 : lw_okq (⟨"FilterPile", "rackedCode", "(II)I"⟩, 13) := ⟨⟨by decide +kernel, by decide +kernel⟩, List.mem_of_getElem? (i := 25) (by decide +kernel), List.mem_of_getElem? (i := 741) (by decide +kernel), List.mem_of_getElem? (i := 742) (by decide +kernel)⟩
theorem lw_p20 : lw_okq (⟨"FilterPile$Reader", "readsItems", "()Z"⟩, 7) := ⟨⟨by decide +kernel, by decide +kernel⟩, List.mem_of_getElem? (i := 102) (by decide +kernel), List.mem_of_getElem? (i := 777) (by decide +kernel), List.mem_of_getElem? (i := 778) (by decide +kernel)⟩
theorem lw_p21 : lw_okq (⟨"FilterPile$Reader", "readsItem", "()Z"⟩, 7) := ⟨⟨by decide +kernel, by decide +kernel⟩, List.mem_of_getElem? (i := 102) (by decide +kernel), List.mem_of_getElem? (i := 781) (by decide +kernel), List.mem_of_getElem? (i := 782) (by decide +kernel)⟩
theorem lw_p22 : lw_okq (⟨"FilterPile$Reader", "next", "()I"⟩, 7) := ⟨⟨by decide +kernel, by decide +kernel⟩, List.mem_of_getElem? (i := 102) (by decide +kernel), List.mem_of_getElem? (i := 785) (by decide +kernel), List.mem_of_getElem? (i := 786) (by decide +kernel)⟩
theorem lw_p23 : lw_okq (⟨"FilterPile$Reader", "readsFilter", "(I)Z"⟩, 7) := ⟨⟨by decide +kernel, by decide +kernel⟩, List.mem_of_getElem? (i := 102) (by decide +kernel), List.mem_of_getElem? (i := 873) (by decide +kernel), List.mem_of_getElem? (i := 874) (by decide +kernel)⟩
theorem lw_p24 : lw_okq (⟨"FilterPile$Reader", "takeFigure", "(I)I"⟩, 7) := ⟨⟨by decide +kernel, by decide +kernel⟩, List.mem_of_getElem? (i := 102) (by decide +kernel), List.mem_of_getElem? (i := 880) (by decide +kernel), List.mem_of_getElem? (i := 881) (by decide +kernel)⟩
theorem lw_p25 : lw_okq (⟨"FilterPile$Reader", "takes", "(C)Z"⟩, 7) := ⟨⟨by decide +kernel, by decide +kernel⟩, List.mem_of_getElem? (i := 102) (by decide +kernel), List.mem_of_getElem? (i := 887) (by decide +kernel), List.mem_of_getElem? (i := 888) (by decide +kernel)⟩
theorem lw_p26 : lw_okq (⟨"FilterPile$Reader", "takeNumber", "()I"⟩, 7) := ⟨⟨by decide +kernel, by decide +kernel⟩, List.mem_of_getElem? (i := 102) (by decide +kernel), List.mem_of_getElem? (i := 891) (by decide +kernel), List.mem_of_getElem? (i := 892) (by decide +kernel)⟩
theorem lw_p27 : lw_okq (⟨"FilterPile$Reader", "keep", "(I)V"⟩, 7) := ⟨⟨by decide +kernel, by decide +kernel⟩, List.mem_of_getElem? (i := 102) (by decide +kernel), List.mem_of_getElem? (i := 897) (by decide +kernel), List.mem_of_getElem? (i := 898) (by decide +kernel)⟩
theorem lw_p28 : lw_okq (⟨"FilterPile$Reader", "readsGroup", "()Z"⟩, 7) := ⟨⟨by decide +kernel, by decide +kernel⟩, List.mem_of_getElem? (i := 102) (by decide +kernel), List.mem_of_getElem? (i := 901) (by decide +kernel), List.mem_of_getElem? (i := 902) (by decide +kernel)⟩
theorem lw_p29 : lw_okq (⟨"FilterPile$Reader", "repeat", "(II)V"⟩, 7) := ⟨⟨by decide +kernel, by decide +kernel⟩, List.mem_of_getElem? (i := 102) (by decide +kernel), List.mem_of_getElem? (i := 905) (by decide +kernel), List.mem_of_getElem? (i := 906) (by decide +kernel)⟩
theorem lw_p30 : lw_okq (⟨"FilterPile", "spell", "()V"⟩, 13) := ⟨⟨by decide +kernel, by decide +kernel⟩, List.mem_of_getElem? (i := 25) (by decide +kernel), List.mem_of_getElem? (i := 920) (by decide +kernel), List.mem_of_getElem? (i := 921) (by decide +kernel)⟩
theorem lw_p31 : lw_okq (⟨"FilterPile", "spellFilter", "(I)V"⟩, 13) := ⟨⟨by decide +kernel, by decide +kernel⟩, List.mem_of_getElem? (i := 25) (by decide +kernel), List.mem_of_getElem? (i := 1022) (by decide +kernel), List.mem_of_getElem? (i := 1023) (by decide +kernel)⟩
def lw_privs_2 : List (MethodName × Nat) := [(⟨"FilterPile", "refind", "(I)Z"⟩, 13), (⟨"FilterPile", "tellLight", "(I)Z"⟩, 13), (⟨"FilterPile", "measure", "(I)D"⟩, 13), (⟨"FilterPile", "rackedCode", "(II)I"⟩, 13), (⟨"FilterPile$Reader", "readsItems", "()Z"⟩, 7), (⟨"FilterPile$Reader", "readsItem", "()Z"⟩, 7), (⟨"FilterPile$Reader", "next", "()I"⟩, 7), (⟨"FilterPile$Reader", "readsFilter", "(I)Z"⟩, 7), (⟨"FilterPile$Reader", "takeFigure", "(I)I"⟩, 7), (⟨"FilterPile$Reader", "takes", "(C)Z"⟩, 7), (⟨"FilterPile$Reader", "takeNumber", "()I"⟩, 7), (⟨"FilterPile$Reader", "keep", "(I)V"⟩, 7), (⟨"FilterPile$Reader", "readsGroup", "()Z"⟩, 7), (⟨"FilterPile$Reader", "repeat", "(II)V"⟩, 7), (⟨"FilterPile", "spell", "()V"⟩, 13), (⟨"FilterPile", "spellFilter", "(I)V"⟩, 13)]
theorem lw_r2 : ∀ q ∈ lw_privs_2, lw_okq q := List.forall_mem_cons.mpr ⟨lw_p16, List.forall_mem_cons.mpr ⟨lw_p17, List.forall_mem_cons.mpr ⟨lw_p18, List.forall_mem_cons.mpr ⟨lw_p19, List.forall_mem_cons.mpr ⟨lw_p20, List.forall_mem_cons.mpr ⟨lw_p21, List.forall_mem_cons.mpr ⟨lw_p22, List.forall_mem_cons.mpr ⟨lw_p23, List.forall_mem_cons.mpr ⟨lw_p24, List.forall_mem_cons.mpr ⟨lw_p25, List.forall_mem_cons.mpr ⟨lw_p26, List.forall_mem_cons.mpr ⟨lw_p27, List.forall_mem_cons.mpr ⟨lw_p28, List.forall_mem_cons.mpr ⟨lw_p29, List.forall_mem_cons.mpr ⟨lw_p30, List.forall_mem_cons.mpr ⟨lw_p31, fun _ h => absurd h List.not_mem_nil⟩⟩⟩⟩⟩⟩⟩⟩⟩⟩⟩⟩⟩⟩⟩⟩
theorem lw_p32 : lw_okq (⟨"FilterPileModel", "adds", "(I)I"⟩, 40) := ⟨⟨by decide +kernel, by decide +kernel⟩, List.mem_of_getElem? (i := 1104) (by decide +kernel), List.mem_of_getElem? (i := 1252) (by decide +kernel), List.mem_of_getElem? (i := 1253) (by decide +kernel)⟩
theorem lw_p33 : lw_okq (⟨"FilterPileModel", "isFilter", "(I)Z"⟩, 40) := ⟨⟨by decide +kernel, by decide +kernel⟩, List.mem_of_getElem? (i := 1104) (by decide +kernel), List.mem_of_getElem? (i := 1260) (by decide +kernel), List.mem_of_getElem? (i := 1261) (by decide +kernel)⟩
theorem lw_p34 : lw_okq (⟨"FilterPileModel", "takesOut", "(I)V"⟩, 40) := ⟨⟨by decide +kernel, by decide +kernel⟩, List.mem_of_getElem? (i := 1104) (by decide +kernel), List.mem_of_getElem? (i := 1288) (by decide +kernel), List.mem_of_getElem? (i := 1289) (by decide +kernel)⟩
theorem lw_p35 : lw_okq (⟨"FilterPileModel", "isBehind", "(I)Z"⟩, 40) := ⟨⟨by decide +kernel, by decide +kernel⟩, List.mem_of_getElem? (i := 1104) (by decide +kernel), List.mem_of_getElem? (i := 1321) (by decide +kernel), List.mem_of_getElem? (i := 1322) (by decide +kernel)⟩
theorem lw_p36 : lw_okq (⟨"FilterPileModel", "behind", "(I)V"⟩, 40) := ⟨⟨by decide +kernel, by decide +kernel⟩, List.mem_of_getElem? (i := 1104) (by decide +kernel), List.mem_of_getElem? (i := 1327) (by decide +kernel), List.mem_of_getElem? (i := 1328) (by decide +kernel)⟩
theorem lw_p37 : lw_okq (⟨"FilterPileModel", "begins", "([J)V"⟩, 40) := ⟨⟨by decide +kernel, by decide +kernel⟩, List.mem_of_getElem? (i := 1104) (by decide +kernel), List.mem_of_getElem? (i := 1331) (by decide +kernel), List.mem_of_getElem? (i := 1332) (by decide +kernel)⟩
theorem lw_p38 : lw_okq (⟨"FilterPileModel", "leftNow", "(I)J"⟩, 40) := ⟨⟨by decide +kernel, by decide +kernel⟩, List.mem_of_getElem? (i := 1104) (by decide +kernel), List.mem_of_getElem? (i := 1363) (by decide +kernel), List.mem_of_getElem? (i := 1364) (by decide +kernel)⟩
theorem lw_p39 : lw_okq (⟨"FilterPileModel", "findsDegree", "()Z"⟩, 40) := ⟨⟨by decide +kernel, by decide +kernel⟩, List.mem_of_getElem? (i := 1104) (by decide +kernel), List.mem_of_getElem? (i := 1377) (by decide +kernel), List.mem_of_getElem? (i := 1378) (by decide +kernel)⟩
theorem lw_p40 : lw_okq (⟨"FilterPileModel", "tells", "(II)V"⟩, 40) := ⟨⟨by decide +kernel, by decide +kernel⟩, List.mem_of_getElem? (i := 1104) (by decide +kernel), List.mem_of_getElem? (i := 1383) (by decide +kernel), List.mem_of_getElem? (i := 1384) (by decide +kernel)⟩
theorem lw_p41 : lw_okq (⟨"FilterPileModel", "findsOrders", "()V"⟩, 40) := ⟨⟨by decide +kernel, by decide +kernel⟩, List.mem_of_getElem? (i := 1104) (by decide +kernel), List.mem_of_getElem? (i := 1395) (by decide +kernel), List.mem_of_getElem? (i := 1396) (by decide +kernel)⟩
theorem lw_p42 : lw_okq (⟨"FilterPileModel", "goesOrders", "(II)V"⟩, 40) := ⟨⟨by decide +kernel, by decide +kernel⟩, List.mem_of_getElem? (i := 1104) (by decide +kernel), List.mem_of_getElem? (i := 1399) (by decide +kernel), List.mem_of_getElem? (i := 1400) (by decide +kernel)⟩
theorem lw_p43 : lw_okq (⟨"FilterPileModel", "sees", "()V"⟩, 40) := ⟨⟨by decide +kernel, by decide +kernel⟩, List.mem_of_getElem? (i := 1104) (by decide +kernel), List.mem_of_getElem? (i := 1403) (by decide +kernel), List.mem_of_getElem? (i := 1404) (by decide +kernel)⟩
theorem lw_p44 : lw_okq (⟨"FilterPileModel", "begins1", "(I)V"⟩, 40) := ⟨⟨by decide +kernel, by decide +kernel⟩, List.mem_of_getElem? (i := 1104) (by decide +kernel), List.mem_of_getElem? (i := 1421) (by decide +kernel), List.mem_of_getElem? (i := 1422) (by decide +kernel)⟩
theorem lw_p45 : lw_okq (⟨"FilterPileModel", "becomes", "(II)V"⟩, 40) := ⟨⟨by decide +kernel, by decide +kernel⟩, List.mem_of_getElem? (i := 1104) (by decide +kernel), List.mem_of_getElem? (i := 1456) (by decide +kernel), List.mem_of_getElem? (i := 1457) (by decide +kernel)⟩
theorem lw_p46 : lw_okq (⟨"FilterPileModel", "lays", "(I)I"⟩, 40) := ⟨⟨by decide +kernel, by decide +kernel⟩, List.mem_of_getElem? (i := 1104) (by decide +kernel), List.mem_of_getElem? (i := 1472) (by decide +kernel), List.mem_of_getElem? (i := 1473) (by decide +kernel)⟩
theorem lw_p47 : lw_okq (⟨"FilterPileModel", "hasFive", "(I)Z"⟩, 40) := ⟨⟨by decide +kernel, by decide +kernel⟩, List.mem_of_getElem? (i := 1104) (by decide +kernel), List.mem_of_getElem? (i := 1484) (by decide +kernel), List.mem_of_getElem? (i := 1485) (by decide +kernel)⟩
def lw_privs_3 : List (MethodName × Nat) := [(⟨"FilterPileModel", "adds", "(I)I"⟩, 40), (⟨"FilterPileModel", "isFilter", "(I)Z"⟩, 40), (⟨"FilterPileModel", "takesOut", "(I)V"⟩, 40), (⟨"FilterPileModel", "isBehind", "(I)Z"⟩, 40), (⟨"FilterPileModel", "behind", "(I)V"⟩, 40), (⟨"FilterPileModel", "begins", "([J)V"⟩, 40), (⟨"FilterPileModel", "leftNow", "(I)J"⟩, 40), (⟨"FilterPileModel", "findsDegree", "()Z"⟩, 40), (⟨"FilterPileModel", "tells", "(II)V"⟩, 40), (⟨"FilterPileModel", "findsOrders", "()V"⟩, 40), (⟨"FilterPileModel", "goesOrders", "(II)V"⟩, 40), (⟨"FilterPileModel", "sees", "()V"⟩, 40), (⟨"FilterPileModel", "begins1", "(I)V"⟩, 40), (⟨"FilterPileModel", "becomes", "(II)V"⟩, 40), (⟨"FilterPileModel", "lays", "(I)I"⟩, 40), (⟨"FilterPileModel", "hasFive", "(I)Z"⟩, 40)]
theorem lw_r3 : ∀ q ∈ lw_privs_3, lw_okq q := List.forall_mem_cons.mpr ⟨lw_p32, List.forall_mem_cons.mpr ⟨lw_p33, List.forall_mem_cons.mpr ⟨lw_p34, List.forall_mem_cons.mpr ⟨lw_p35, List.forall_mem_cons.mpr ⟨lw_p36, List.forall_mem_cons.mpr ⟨lw_p37, List.forall_mem_cons.mpr ⟨lw_p38, List.forall_mem_cons.mpr ⟨lw_p39, List.forall_mem_cons.mpr ⟨lw_p40, List.forall_mem_cons.mpr ⟨lw_p41, List.forall_mem_cons.mpr ⟨lw_p42, List.forall_mem_cons.mpr ⟨lw_p43, List.forall_mem_cons.mpr ⟨lw_p44, List.forall_mem_cons.mpr ⟨lw_p45, List.forall_mem_cons.mpr ⟨lw_p46, List.forall_mem_cons.mpr ⟨lw_p47, fun _ h => absurd h List.not_mem_nil⟩⟩⟩⟩⟩⟩⟩⟩⟩⟩⟩⟩⟩⟩⟩⟩
theorem lw_p48 : lw_okq (⟨"FilterPileModel", "tellsLight", "(I)Z"⟩, 40) := ⟨⟨by decide +kernel, by decide +kernel⟩, List.mem_of_getElem? (i := 1104) (by decide +kernel), List.mem_of_getElem? (i := 1494) (by decide +kernel), List.mem_of_getElem? (i := 1495) (by decide +kernel)⟩
theorem lw_p49 : lw_okq (⟨"FilterPileModel", "meterNow", "()D"⟩, 40) := ⟨⟨by decide +kernel, by decide +kernel⟩, List.mem_of_getElem? (i := 1104) (by decide +kernel), List.mem_of_getElem? (i := 1510) (by decide +kernel), List.mem_of_getElem? (i := 1511) (by decide +kernel)⟩
theorem lw_p50 : lw_okq (⟨"FilterPileModel", "meterAll", "()F"⟩, 40) := ⟨⟨by decide +kernel, by decide +kernel⟩, List.mem_of_getElem? (i := 1104) (by decide +kernel), List.mem_of_getElem? (i := 1542) (by decide +kernel), List.mem_of_getElem? (i := 1543) (by decide +kernel)⟩
theorem lw_p51 : lw_okq (⟨"FilterPileModel", "doesTake", "(II)Z"⟩, 40) := ⟨⟨by decide +kernel, by decide +kernel⟩, List.mem_of_getElem? (i := 1104) (by decide +kernel), List.mem_of_getElem? (i := 1570) (by decide +kernel), List.mem_of_getElem? (i := 1571) (by decide +kernel)⟩
theorem lw_p52 : lw_okq (⟨"FilterPileModel", "heldIn", "(II)I"⟩, 40) := ⟨⟨by decide +kernel, by decide +kernel⟩, List.mem_of_getElem? (i := 1104) (by decide +kernel), List.mem_of_getElem? (i := 1590) (by decide +kernel), List.mem_of_getElem? (i := 1591) (by decide +kernel)⟩
theorem lw_p53 : lw_okq (⟨"FilterPileModel", "textTold", "(I)I"⟩, 40) := ⟨⟨by decide +kernel, by decide +kernel⟩, List.mem_of_getElem? (i := 1104) (by decide +kernel), List.mem_of_getElem? (i := 1607) (by decide +kernel), List.mem_of_getElem? (i := 1608) (by decide +kernel)⟩
theorem lw_p54 : lw_okq (⟨"FilterPileModel", "itemTold", "(I)I"⟩, 40) := ⟨⟨by decide +kernel, by decide +kernel⟩, List.mem_of_getElem? (i := 1104) (by decide +kernel), List.mem_of_getElem? (i := 1611) (by decide +kernel), List.mem_of_getElem? (i := 1612) (by decide +kernel)⟩
theorem lw_p55 : lw_okq (⟨"FilterPileModel", "isFigure", "(II)Z"⟩, 40) := ⟨⟨by decide +kernel, by decide +kernel⟩, List.mem_of_getElem? (i := 1104) (by decide +kernel), List.mem_of_getElem? (i := 1615) (by decide +kernel), List.mem_of_getElem? (i := 1616) (by decide +kernel)⟩
theorem lw_p56 : lw_okq (⟨"FilterPileModel", "next", "()I"⟩, 40) := ⟨⟨by decide +kernel, by decide +kernel⟩, List.mem_of_getElem? (i := 1104) (by decide +kernel), List.mem_of_getElem? (i := 1619) (by decide +kernel), List.mem_of_getElem? (i := 1620) (by decide +kernel)⟩
theorem lw_p57 : lw_okq (⟨"FilterPileModel", "filterTold", "()I"⟩, 40) := ⟨⟨by decide +kernel, by decide +kernel⟩, List.mem_of_getElem? (i := 1104) (by decide +kernel), List.mem_of_getElem? (i := 1623) (by decide +kernel), List.mem_of_getElem? (i := 1624) (by decide +kernel)⟩
theorem lw_p58 : lw_okq (⟨"FilterPileModel", "faulty", "(I)V"⟩, 40) := ⟨⟨by decide +kernel, by decide +kernel⟩, List.mem_of_getElem? (i := 1104) (by decide +kernel), List.mem_of_getElem? (i := 1627) (by decide +kernel), List.mem_of_getElem? (i := 1628) (by decide +kernel)⟩
theorem lw_p59 : lw_okq (⟨"FilterPileModel", "angleTold", "()I"⟩, 40) := ⟨⟨by decide +kernel, by decide +kernel⟩, List.mem_of_getElem? (i := 1104) (by decide +kernel), List.mem_of_getElem? (i := 1631) (by decide +kernel), List.mem_of_getElem? (i := 1632) (by decide +kernel)⟩
theorem lw_p60 : lw_okq (⟨"FilterPileModel", "figureTold", "()I"⟩, 40) := ⟨⟨by decide +kernel, by decide +kernel⟩, List.mem_of_getElem? (i := 1104) (by decide +kernel), List.mem_of_getElem? (i := 1635) (by decide +kernel), List.mem_of_getElem? (i := 1636) (by decide +kernel)⟩
theorem lw_p61 : lw_okq (⟨"FilterPileModel", "spellsAll", "()V"⟩, 40) := ⟨⟨by decide +kernel, by decide +kernel⟩, List.mem_of_getElem? (i := 1104) (by decide +kernel), List.mem_of_getElem? (i := 1647) (by decide +kernel), List.mem_of_getElem? (i := 1648) (by decide +kernel)⟩
theorem lw_p62 : lw_okq (⟨"FilterPileModel", "spells", "(I)V"⟩, 40) := ⟨⟨by decide +kernel, by decide +kernel⟩, List.mem_of_getElem? (i := 1104) (by decide +kernel), List.mem_of_getElem? (i := 1651) (by decide +kernel), List.mem_of_getElem? (i := 1652) (by decide +kernel)⟩
theorem lw_p63 : lw_okq (⟨"FilterPileModel", "spellsNumber", "(I)V"⟩, 40) := ⟨⟨by decide +kernel, by decide +kernel⟩, List.mem_of_getElem? (i := 1104) (by decide +kernel), List.mem_of_getElem? (i := 1658) (by decide +kernel), List.mem_of_getElem? (i := 1659) (by decide +kernel)⟩
def lw_privs_4 : List (MethodName × Nat) := [(⟨"FilterPileModel", "tellsLight", "(I)Z"⟩, 40), (⟨"FilterPileModel", "meterNow", "()D"⟩, 40), (⟨"FilterPileModel", "meterAll", "()F"⟩, 40), (⟨"FilterPileModel", "doesTake", "(II)Z"⟩, 40), (⟨"FilterPileModel", "heldIn", "(II)I"⟩, 40), (⟨"FilterPileModel", "textTold", "(I)I"⟩, 40), (⟨"FilterPileModel", "itemTold", "(I)I"⟩, 40), (⟨"FilterPileModel", "isFigure", "(II)Z"⟩, 40), (⟨"FilterPileModel", "next", "()I"⟩, 40), (⟨"FilterPileModel", "filterTold", "()I"⟩, 40), (⟨"FilterPileModel", "faulty", "(I)V"⟩, 40), (⟨"FilterPileModel", "angleTold", "()I"⟩, 40), (⟨"FilterPileModel", "figureTold", "()I"⟩, 40), (⟨"FilterPileModel", "spellsAll", "()V"⟩, 40), (⟨"FilterPileModel", "spells", "(I)V"⟩, 40), (⟨"FilterPileModel", "spellsNumber", "(I)V"⟩, 40)]
theorem lw_r4 : ∀ q ∈ lw_privs_4, lw_okq q := List.forall_mem_cons.mpr ⟨lw_p48, List.forall_mem_cons.mpr ⟨lw_p49, List.forall_mem_cons.mpr ⟨lw_p50, List.forall_mem_cons.mpr ⟨lw_p51, List.forall_mem_cons.mpr ⟨lw_p52, List.forall_mem_cons.mpr ⟨lw_p53, List.forall_mem_cons.mpr ⟨lw_p54, List.forall_mem_cons.mpr ⟨lw_p55, List.forall_mem_cons.mpr ⟨lw_p56, List.forall_mem_cons.mpr ⟨lw_p57, List.forall_mem_cons.mpr ⟨lw_p58, List.forall_mem_cons.mpr ⟨lw_p59, List.forall_mem_cons.mpr ⟨lw_p60, List.forall_mem_cons.mpr ⟨lw_p61, List.forall_mem_cons.mpr ⟨lw_p62, List.forall_mem_cons.mpr ⟨lw_p63, fun _ h => absurd h List.not_mem_nil⟩⟩⟩⟩⟩⟩⟩⟩⟩⟩⟩⟩⟩⟩⟩⟩
def lw_privs : List (MethodName × Nat) := lw_privs_1 ++ (lw_privs_2 ++ (lw_privs_3 ++ (lw_privs_4)))
def lw_tbl : List Cond := k2_sels lw_privs ++ tables_1
theorem lw_privs_ok : ∀ q ∈ lw_privs, lw_okq q := by
  show ∀ q ∈ lw_privs_1 ++ (lw_privs_2 ++ (lw_privs_3 ++ (lw_privs_4))), lw_okq q
  exact List.forall_mem_append.mpr ⟨lw_r1, List.forall_mem_append.mpr ⟨lw_r2, List.forall_mem_append.mpr ⟨lw_r3, lw_r4⟩⟩⟩
/-- the streams that the claim lets the run draw from -/
abbrev lw_cs : List Choice := [Jvm.Choice.named "NaN.bits"]
theorem lw_bits : nanBits ∈ lw_cs := by first | decide | exact List.mem_cons_self | simp [lw_cs, nanBits]
end
section
def RX0 : String := "FilterPile$Bench"
def TX0 : u_T := fun k => match k with
  | 0 => ("FilterPile$Bench", "lamp", "LFilterPile$Light;", true)
  | 1 => ("FilterPile$Bench", "pile", "[I", true)
  | 2 => ("FilterPile$Bench", "size", "I", false)
  | 3 => ("FilterPile$Bench", "cells", "[F", true)
  | 4 => ("FilterPile$Bench", "racks", "[[I", true)
  | _ => ("FilterPile$Bench", "takes", "[I", true)
def tyX0 : Nat → FieldType := fun k => match k with
  | 0 => .object "FilterPile$Light"
  | 1 => .array .int
  | 2 => .int
  | 3 => .array .float
  | 4 => .array (.array .int)
  | _ => .array .int
abbrev wsX00 : List Cond := u_ws RX0 TX0 6
theorem nmX0 : ∀ a, a < 6 → ∀ b, b < 6 → a ≠ b → (TX0 a).2.1 ≠ (TX0 b).2.1 := by decide +kernel
theorem tyX0_ok : ∀ k, k < 6 → parseFieldDescriptor (TX0 k).2.2.1 = some (tyX0 k) := by decide +kernel
abbrev cX0_init : ByteArray := prog_2_method_1_code
def yX0_init : MethodName := ⟨RX0, "<init>", "()V"⟩
abbrev cX0_takeFrom : ByteArray := prog_2_method_2_code
def yX0_takeFrom : MethodName := ⟨RX0, "takeFrom", "(LFilterPile$Bench;)V"⟩
abbrev cX0_has : ByteArray := prog_2_method_3_code
def yX0_has : MethodName := ⟨RX0, "has", "(I)Z"⟩
abbrev cX0_append : ByteArray := prog_2_method_4_code
def yX0_append : MethodName := ⟨RX0, "append", "(I)I"⟩
abbrev cX0_takeOut : ByteArray := prog_2_method_5_code
def yX0_takeOut : MethodName := ⟨RX0, "takeOut", "(I)V"⟩
abbrev cX0_putIn : ByteArray := prog_2_method_6_code
def yX0_putIn : MethodName := ⟨RX0, "putIn", "(II)V"⟩
abbrev cX0_send : ByteArray := prog_2_method_7_code
def yX0_send : MethodName := ⟨RX0, "send", "(LFilterPile$Light;II)V"⟩
abbrev cX0_canGoBack : ByteArray := prog_2_method_8_code
def yX0_canGoBack : MethodName := ⟨RX0, "canGoBack", "()Z"⟩
abbrev cX0_howMany : ByteArray := prog_2_method_9_code
def yX0_howMany : MethodName := ⟨RX0, "howMany", "(II)I"⟩
abbrev cX0_racked : ByteArray := prog_2_method_10_code
def yX0_racked : MethodName := ⟨RX0, "racked", "(I)I"⟩
abbrev cX0_litCells : ByteArray := prog_2_method_11_code
def yX0_litCells : MethodName := ⟨RX0, "litCells", "()I"⟩
def RX1 : String := "FilterPile$Light"
def TX1 : u_T := fun k => match k with
  | 0 => ("FilterPile$Light", "i", "J", false)
  | 1 => ("FilterPile$Light", "q", "J", false)
  | 2 => ("FilterPile$Light", "u", "J", false)
  | 3 => ("FilterPile$Light", "v", "J", false)
  | _ => ("FilterPile$Light", "e", "I", false)
def tyX1 : Nat → FieldType := fun k => match k with
  | 0 => .long
  | 1 => .long
  | 2 => .long
  | 3 => .long
  | _ => .int
abbrev wsX10 : List Cond := u_ws RX1 TX1 5
theorem nmX1 : ∀ a, a < 5 → ∀ b, b < 5 → a ≠ b → (TX1 a).2.1 ≠ (TX1 b).2.1 := by decide +kernel
theorem tyX1_ok : ∀ k, k < 5 → parseFieldDescriptor (TX1 k).2.2.1 = some (tyX1 k) := by decide +kernel
abbrev cX1_init : ByteArray := prog_3_method_1_code
def yX1_init : MethodName := ⟨RX1, "<init>", "()V"⟩
abbrev cX1_become : ByteArray := prog_3_method_2_code
def yX1_become : MethodName := ⟨RX1, "become", "(JJJJI)V"⟩
abbrev cX1_becomeUnit : ByteArray := prog_3_method_3_code
def yX1_becomeUnit : MethodName := ⟨RX1, "becomeUnit", "(I)V"⟩
abbrev cX1_takeFrom : ByteArray := prog_3_method_4_code
def yX1_takeFrom : MethodName := ⟨RX1, "takeFrom", "(LFilterPile$Light;)V"⟩
abbrev cX1_part : ByteArray := prog_3_method_5_code
def yX1_part : MethodName := ⟨RX1, "part", "(I)J"⟩
abbrev cX1_isDark : ByteArray := prog_3_method_6_code
def yX1_isDark : MethodName := ⟨RX1, "isDark", "()Z"⟩
abbrev cX1_isLike : ByteArray := prog_3_method_7_code
def yX1_isLike : MethodName := ⟨RX1, "isLike", "(LFilterPile$Light;)Z"⟩
abbrev cX1_mayBe : ByteArray := prog_3_method_8_code
def yX1_mayBe : MethodName := ⟨RX1, "mayBe", "()Z"⟩
abbrev cX1_isWithin : ByteArray := prog_3_method_9_code
def yX1_isWithin : MethodName := ⟨RX1, "isWithin", "(J)Z"⟩
abbrev cX1_sumOfSquares : ByteArray := prog_3_method_10_code
def yX1_sumOfSquares : MethodName := ⟨RX1, "sumOfSquares", "()J"⟩
abbrev cX1_compareI : ByteArray := prog_3_method_11_code
def yX1_compareI : MethodName := ⟨RX1, "compareI", "(LFilterPile$Light;)I"⟩
abbrev cX1_lower : ByteArray := prog_3_method_12_code
def yX1_lower : MethodName := ⟨RX1, "lower", "()V"⟩
abbrev cX1_shrink : ByteArray := prog_3_method_13_code
def yX1_shrink : MethodName := ⟨RX1, "shrink", "()V"⟩
abbrev cX1_firstOver : ByteArray := prog_3_method_14_code
def yX1_firstOver : MethodName := ⟨RX1, "firstOver", "()I"⟩
abbrev cX1_isOver : ByteArray := prog_3_method_15_code
def yX1_isOver : MethodName := ⟨RX1, "isOver", "(J)Z"⟩
abbrev cX1_pass : ByteArray := prog_3_method_16_code
def yX1_pass : MethodName := ⟨RX1, "pass", "(I)V"⟩
abbrev cX1_passGrey : ByteArray := prog_3_method_17_code
def yX1_passGrey : MethodName := ⟨RX1, "passGrey", "(II)V"⟩
abbrev cX1_passSheet : ByteArray := prog_3_method_18_code
def yX1_passSheet : MethodName := ⟨RX1, "passSheet", "(III)V"⟩
abbrev cX1_turnQuarter : ByteArray := prog_3_method_19_code
def yX1_turnQuarter : MethodName := ⟨RX1, "turnQuarter", "(I)V"⟩
def RX2 : String := "FilterPile$Orders"
def TX2 : u_T := fun k => match k with
  | _ => ("FilterPile$Orders", "behind", "[LFilterPile$Light;", true)
def tyX2 : Nat → FieldType := fun k => match k with
  | _ => .array (.object "FilterPile$Light")
abbrev wsX20 : List Cond := u_ws RX2 TX2 1
theorem nmX2 : ∀ a, a < 1 → ∀ b, b < 1 → a ≠ b → (TX2 a).2.1 ≠ (TX2 b).2.1 := by decide +kernel
theorem tyX2_ok : ∀ k, k < 1 → parseFieldDescriptor (TX2 k).2.2.1 = some (tyX2 k) := by decide +kernel
abbrev cX2_init : ByteArray := prog_4_method_1_code
def yX2_init : MethodName := ⟨RX2, "<init>", "()V"⟩
abbrev cX2_meetAll : ByteArray := prog_4_method_2_code
def yX2_meetAll : MethodName := ⟨RX2, "meetAll", "(LFilterPile$Bench;LFilterPile$Outcomes;)V"⟩
abbrev cX2_goOn : ByteArray := prog_4_method_3_code
def yX2_goOn : MethodName := ⟨RX2, "goOn", "(LFilterPile$Bench;LFilterPile$Outcomes;III)V"⟩
def RX3 : String := "FilterPile$Outcomes"
def TX3 : u_T := fun k => match k with
  | 0 => ("FilterPile$Outcomes", "least", "LFilterPile$Light;", true)
  | 1 => ("FilterPile$Outcomes", "most", "LFilterPile$Light;", true)
  | 2 => ("FilterPile$Outcomes", "leastMark", "I", false)
  | 3 => ("FilterPile$Outcomes", "mostMark", "I", false)
  | 4 => ("FilterPile$Outcomes", "unlike", "I", false)
  | 5 => ("FilterPile$Outcomes", "seen", "[J", true)
  | _ => ("FilterPile$Outcomes", "times", "[I", true)
def tyX3 : Nat → FieldType := fun k => match k with
  | 0 => .object "FilterPile$Light"
  | 1 => .object "FilterPile$Light"
  | 2 => .int
  | 3 => .int
  | 4 => .int
  | 5 => .array .long
  | _ => .array .int
abbrev wsX30 : List Cond := u_ws RX3 TX3 7
theorem nmX3 : ∀ a, a < 7 → ∀ b, b < 7 → a ≠ b → (TX3 a).2.1 ≠ (TX3 b).2.1 := by decide +kernel
theorem tyX3_ok : ∀ k, k < 7 → parseFieldDescriptor (TX3 k).2.2.1 = some (tyX3 k) := by decide +kernel
abbrev cX3_init : ByteArray := prog_5_method_1_code
def yX3_init : MethodName := ⟨RX3, "<init>", "()V"⟩
abbrev cX3_forget : ByteArray := prog_5_method_2_code
def yX3_forget : MethodName := ⟨RX3, "forget", "()V"⟩
abbrev cX3_meet : ByteArray := prog_5_method_3_code
def yX3_meet : MethodName := ⟨RX3, "meet", "(LFilterPile$Light;I)V"⟩
abbrev cX3_remember : ByteArray := prog_5_method_4_code
def yX3_remember : MethodName := ⟨RX3, "remember", "(LFilterPile$Light;)V"⟩
abbrev cX3_isSeen : ByteArray := prog_5_method_5_code
def yX3_isSeen : MethodName := ⟨RX3, "isSeen", "(ILFilterPile$Light;)Z"⟩
abbrev cX3_common : ByteArray := prog_5_method_6_code
def yX3_common : MethodName := ⟨RX3, "common", "()I"⟩
def RX4 : String := "FilterPile$Reader"
def TX4 : u_T := fun k => match k with
  | 0 => ("FilterPile$Reader", "tape", "[I", true)
  | 1 => ("FilterPile$Reader", "length", "I", false)
  | 2 => ("FilterPile$Reader", "place", "I", false)
  | 3 => ("FilterPile$Reader", "opens", "[I", true)
  | 4 => ("FilterPile$Reader", "open", "I", false)
  | 5 => ("FilterPile$Reader", "codes", "[I", true)
  | _ => ("FilterPile$Reader", "filters", "I", false)
def tyX4 : Nat → FieldType := fun k => match k with
  | 0 => .array .int
  | 1 => .int
  | 2 => .int
  | 3 => .array .int
  | 4 => .int
  | 5 => .array .int
  | _ => .int
abbrev wsX40 : List Cond := u_ws RX4 TX4 7
theorem nmX4 : ∀ a, a < 7 → ∀ b, b < 7 → a ≠ b → (TX4 a).2.1 ≠ (TX4 b).2.1 := by decide +kernel
theorem tyX4_ok : ∀ k, k < 7 → parseFieldDescriptor (TX4 k).2.2.1 = some (tyX4 k) := by decide +kernel
abbrev cX4_init : ByteArray := prog_6_method_1_code
def yX4_init : MethodName := ⟨RX4, "<init>", "()V"⟩
abbrev cX4_readsText : ByteArray := prog_6_method_2_code
def yX4_readsText : MethodName := ⟨RX4, "readsText", "()Z"⟩
abbrev cX4_next : ByteArray := prog_6_method_3_code
def yX4_next : MethodName := ⟨RX4, "next", "()I"⟩
abbrev cX4_takes : ByteArray := prog_6_method_4_code
def yX4_takes : MethodName := ⟨RX4, "takes", "(C)Z"⟩
abbrev cX4_takeFigure : ByteArray := prog_6_method_5_code
def yX4_takeFigure : MethodName := ⟨RX4, "takeFigure", "(I)I"⟩
abbrev cX4_readsItems : ByteArray := prog_6_method_6_code
def yX4_readsItems : MethodName := ⟨RX4, "readsItems", "()Z"⟩
abbrev cX4_readsItem : ByteArray := prog_6_method_7_code
def yX4_readsItem : MethodName := ⟨RX4, "readsItem", "()Z"⟩
abbrev cX4_readsGroup : ByteArray := prog_6_method_8_code
def yX4_readsGroup : MethodName := ⟨RX4, "readsGroup", "()Z"⟩
abbrev cX4_repeat : ByteArray := prog_6_method_9_code
def yX4_repeat : MethodName := ⟨RX4, "repeat", "(II)V"⟩
abbrev cX4_keep : ByteArray := prog_6_method_10_code
def yX4_keep : MethodName := ⟨RX4, "keep", "(I)V"⟩
abbrev cX4_readsFilter : ByteArray := prog_6_method_11_code
def yX4_readsFilter : MethodName := ⟨RX4, "readsFilter", "(I)Z"⟩
abbrev cX4_takeNumber : ByteArray := prog_6_method_12_code
def yX4_takeNumber : MethodName := ⟨RX4, "takeNumber", "()I"⟩
def RX5 : String := "FilterPile$Troubles"
def TX5 : u_T := fun k => match k with
  | 0 => ("FilterPile$Troubles", "sorts", "[I", true)
  | 1 => ("FilterPile$Troubles", "numbers", "[I", true)
  | _ => ("FilterPile$Troubles", "size", "I", false)
def tyX5 : Nat → FieldType := fun k => match k with
  | 0 => .array .int
  | 1 => .array .int
  | _ => .int
abbrev wsX50 : List Cond := u_ws RX5 TX5 3
theorem nmX5 : ∀ a, a < 3 → ∀ b, b < 3 → a ≠ b → (TX5 a).2.1 ≠ (TX5 b).2.1 := by decide +kernel
theorem tyX5_ok : ∀ k, k < 3 → parseFieldDescriptor (TX5 k).2.2.1 = some (tyX5 k) := by decide +kernel
abbrev cX5_init : ByteArray := prog_7_method_1_code
def yX5_init : MethodName := ⟨RX5, "<init>", "()V"⟩
abbrev cX5_forget : ByteArray := prog_7_method_2_code
def yX5_forget : MethodName := ⟨RX5, "forget", "()V"⟩
abbrev cX5_note : ByteArray := prog_7_method_3_code
def yX5_note : MethodName := ⟨RX5, "note", "(II)V"⟩
def RX6 : String := "FilterPile"
def TX6 : u_T := fun k => match k with
  | 0 => ("FilterPile", "bench", "LFilterPile$Bench;", true)
  | 1 => ("FilterPile", "kept", "LFilterPile$Bench;", true)
  | 2 => ("FilterPile", "hasImage", "Z", false)
  | 3 => ("FilterPile", "lists", "[[J", true)
  | 4 => ("FilterPile", "listLengths", "[I", true)
  | 5 => ("FilterPile", "reader", "LFilterPile$Reader;", true)
  | 6 => ("FilterPile", "troubles", "LFilterPile$Troubles;", true)
  | 7 => ("FilterPile", "outcomes", "LFilterPile$Outcomes;", true)
  | 8 => ("FilterPile", "orders", "LFilterPile$Orders;", true)
  | 9 => ("FilterPile", "spelling", "Ljava/lang/StringBuilder;", true)
  | 10 => ("FilterPile", "beam", "LFilterPile$Light;", true)
  | 11 => ("FilterPile", "aside", "LFilterPile$Light;", true)
  | _ => ("FilterPile", "told", "LFilterPile$Light;", true)
def tyX6 : Nat → FieldType := fun k => match k with
  | 0 => .object "FilterPile$Bench"
  | 1 => .object "FilterPile$Bench"
  | 2 => .boolean
  | 3 => .array (.array .long)
  | 4 => .array .int
  | 5 => .object "FilterPile$Reader"
  | 6 => .object "FilterPile$Troubles"
  | 7 => .object "FilterPile$Outcomes"
  | 8 => .object "FilterPile$Orders"
  | 9 => .object "java/lang/StringBuilder"
  | 10 => .object "FilterPile$Light"
  | 11 => .object "FilterPile$Light"
  | _ => .object "FilterPile$Light"
abbrev wsX60 : List Cond := u_ws RX6 TX6 13
theorem nmX6 : ∀ a, a < 13 → ∀ b, b < 13 → a ≠ b → (TX6 a).2.1 ≠ (TX6 b).2.1 := by decide +kernel
theorem tyX6_ok : ∀ k, k < 13 → parseFieldDescriptor (TX6 k).2.2.1 = some (tyX6 k) := by decide +kernel
abbrev cX6_init : ByteArray := prog_1_method_1_code
def yX6_init : MethodName := ⟨RX6, "<init>", "()V"⟩
abbrev cX6_lamp : ByteArray := prog_1_method_2_code
def yX6_lamp : MethodName := ⟨RX6, "lamp", "(IIII)I"⟩
abbrev cX6_add : ByteArray := prog_1_method_3_code
def yX6_add : MethodName := ⟨RX6, "add", "(III)I"⟩
abbrev cX6_change : ByteArray := prog_1_method_4_code
def yX6_change : MethodName := ⟨RX6, "change", "(III)I"⟩
abbrev cX6_turn : ByteArray := prog_1_method_5_code
def yX6_turn : MethodName := ⟨RX6, "turn", "(II)I"⟩
abbrev cX6_move : ByteArray := prog_1_method_6_code
def yX6_move : MethodName := ⟨RX6, "move", "(II)I"⟩
abbrev cX6_cut : ByteArray := prog_1_method_7_code
def yX6_cut : MethodName := ⟨RX6, "cut", "(I)I"⟩
abbrev cX6_clear : ByteArray := prog_1_method_8_code
def yX6_clear : MethodName := ⟨RX6, "clear", "()I"⟩
abbrev cX6_of : ByteArray := prog_1_method_9_code
def yX6_of : MethodName := ⟨RX6, "of", "(II)I"⟩
abbrev cX6_isUnder : ByteArray := prog_1_method_10_code
def yX6_isUnder : MethodName := ⟨RX6, "isUnder", "(II)I"⟩
abbrev cX6_light : ByteArray := prog_1_method_11_code
def yX6_light : MethodName := ⟨RX6, "light", "(II)J"⟩
abbrev cX6_left : ByteArray := prog_1_method_12_code
def yX6_left : MethodName := ⟨RX6, "left", "(II)J"⟩
abbrev cX6_degree : ByteArray := prog_1_method_13_code
def yX6_degree : MethodName := ⟨RX6, "degree", "(II)J"⟩
abbrev cX6_sort : ByteArray := prog_1_method_14_code
def yX6_sort : MethodName := ⟨RX6, "sort", "(I)I"⟩
abbrev cX6_order : ByteArray := prog_1_method_15_code
def yX6_order : MethodName := ⟨RX6, "order", "(I)I"⟩
abbrev cX6_orderLight : ByteArray := prog_1_method_16_code
def yX6_orderLight : MethodName := ⟨RX6, "orderLight", "(II)J"⟩
abbrev cX6_matrix : ByteArray := prog_1_method_17_code
def yX6_matrix : MethodName := ⟨RX6, "matrix", "(III)J"⟩
abbrev cX6_trade : ByteArray := prog_1_method_18_code
def yX6_trade : MethodName := ⟨RX6, "trade", "(II)I"⟩
abbrev cX6_angle : ByteArray := prog_1_method_19_code
def yX6_angle : MethodName := ⟨RX6, "angle", "(II)I"⟩
abbrev cX6_without : ByteArray := prog_1_method_20_code
def yX6_without : MethodName := ⟨RX6, "without", "(II)J"⟩
abbrev cX6_darkens : ByteArray := prog_1_method_21_code
def yX6_darkens : MethodName := ⟨RX6, "darkens", "()I"⟩
abbrev cX6_crossed : ByteArray := prog_1_method_22_code
def yX6_crossed : MethodName := ⟨RX6, "crossed", "(I)I"⟩
abbrev cX6_tally : ByteArray := prog_1_method_23_code
def yX6_tally : MethodName := ⟨RX6, "tally", "(I)I"⟩
abbrev cX6_list : ByteArray := prog_1_method_24_code
def yX6_list : MethodName := ⟨RX6, "list", "(II)I"⟩
abbrev cX6_put : ByteArray := prog_1_method_25_code
def yX6_put : MethodName := ⟨RX6, "put", "(IIJ)I"⟩
abbrev cX6_get : ByteArray := prog_1_method_26_code
def yX6_get : MethodName := ⟨RX6, "get", "(II)J"⟩
abbrev cX6_lay : ByteArray := prog_1_method_27_code
def yX6_lay : MethodName := ⟨RX6, "lay", "(II)I"⟩
abbrev cX6_readings : ByteArray := prog_1_method_28_code
def yX6_readings : MethodName := ⟨RX6, "readings", "(I)I"⟩
abbrev cX6_refound : ByteArray := prog_1_method_29_code
def yX6_refound : MethodName := ⟨RX6, "refound", "(II)J"⟩
abbrev cX6_through : ByteArray := prog_1_method_30_code
def yX6_through : MethodName := ⟨RX6, "through", "(II)J"⟩
abbrev cX6_before : ByteArray := prog_1_method_31_code
def yX6_before : MethodName := ⟨RX6, "before", "(II)J"⟩
abbrev cX6_found : ByteArray := prog_1_method_32_code
def yX6_found : MethodName := ⟨RX6, "found", "(III)I"⟩
abbrev cX6_meter : ByteArray := prog_1_method_33_code
def yX6_meter : MethodName := ⟨RX6, "meter", "(II)J"⟩
abbrev cX6_expose : ByteArray := prog_1_method_34_code
def yX6_expose : MethodName := ⟨RX6, "expose", "(I)I"⟩
abbrev cX6_dim : ByteArray := prog_1_method_35_code
def yX6_dim : MethodName := ⟨RX6, "dim", "(II)I"⟩
abbrev cX6_film : ByteArray := prog_1_method_36_code
def yX6_film : MethodName := ⟨RX6, "film", "(II)I"⟩
abbrev cX6_sumFilm : ByteArray := prog_1_method_37_code
def yX6_sumFilm : MethodName := ⟨RX6, "sumFilm", "(I)J"⟩
abbrev cX6_store : ByteArray := prog_1_method_38_code
def yX6_store : MethodName := ⟨RX6, "store", "(III)I"⟩
abbrev cX6_empty : ByteArray := prog_1_method_39_code
def yX6_empty : MethodName := ⟨RX6, "empty", "(II)I"⟩
abbrev cX6_fetch : ByteArray := prog_1_method_40_code
def yX6_fetch : MethodName := ⟨RX6, "fetch", "(II)I"⟩
abbrev cX6_rack : ByteArray := prog_1_method_41_code
def yX6_rack : MethodName := ⟨RX6, "rack", "(II)I"⟩
abbrev cX6_copy : ByteArray := prog_1_method_42_code
def yX6_copy : MethodName := ⟨RX6, "copy", "(II)I"⟩
abbrev cX6_feed : ByteArray := prog_1_method_43_code
def yX6_feed : MethodName := ⟨RX6, "feed", "(I)I"⟩
abbrev cX6_wipe : ByteArray := prog_1_method_44_code
def yX6_wipe : MethodName := ⟨RX6, "wipe", "()I"⟩
abbrev cX6_read : ByteArray := prog_1_method_45_code
def yX6_read : MethodName := ⟨RX6, "read", "()I"⟩
abbrev cX6_why : ByteArray := prog_1_method_46_code
def yX6_why : MethodName := ⟨RX6, "why", "(II)I"⟩
abbrev cX6_spelled : ByteArray := prog_1_method_47_code
def yX6_spelled : MethodName := ⟨RX6, "spelled", "(I)I"⟩
abbrev cX6_image : ByteArray := prog_1_method_48_code
def yX6_image : MethodName := ⟨RX6, "image", "()I"⟩
abbrev cX6_undo : ByteArray := prog_1_method_49_code
def yX6_undo : MethodName := ⟨RX6, "undo", "()I"⟩
abbrev cX6_count : ByteArray := prog_1_method_50_code
def yX6_count : MethodName := ⟨RX6, "count", "(I)I"⟩
abbrev cX6_isKind : ByteArray := prog_1_method_51_code
def yX6_isKind : MethodName := ⟨RX6, "isKind", "(I)Z"⟩
abbrev cX6_isAngle : ByteArray := prog_1_method_52_code
def yX6_isAngle : MethodName := ⟨RX6, "isAngle", "(I)Z"⟩
abbrev cX6_isFigure : ByteArray := prog_1_method_53_code
def yX6_isFigure : MethodName := ⟨RX6, "isFigure", "(I)Z"⟩
abbrev cX6_isLightPart : ByteArray := prog_1_method_54_code
def yX6_isLightPart : MethodName := ⟨RX6, "isLightPart", "(I)Z"⟩
abbrev cX6_isFractionPart : ByteArray := prog_1_method_55_code
def yX6_isFractionPart : MethodName := ⟨RX6, "isFractionPart", "(I)Z"⟩
abbrev cX6_isList : ByteArray := prog_1_method_56_code
def yX6_isList : MethodName := ⟨RX6, "isList", "(I)Z"⟩
abbrev cX6_isCell : ByteArray := prog_1_method_57_code
def yX6_isCell : MethodName := ⟨RX6, "isCell", "(I)Z"⟩
abbrev cX6_isRack : ByteArray := prog_1_method_58_code
def yX6_isRack : MethodName := ⟨RX6, "isRack", "(I)Z"⟩
abbrev cX6_isRackPlace : ByteArray := prog_1_method_59_code
def yX6_isRackPlace : MethodName := ⟨RX6, "isRackPlace", "(I)Z"⟩
abbrev cX6_isBehind : ByteArray := prog_1_method_60_code
def yX6_isBehind : MethodName := ⟨RX6, "isBehind", "(I)Z"⟩
abbrev cX6_codeOf : ByteArray := prog_1_method_61_code
def yX6_codeOf : MethodName := ⟨RX6, "codeOf", "(III)I"⟩
abbrev cX6_kindOf : ByteArray := prog_1_method_62_code
def yX6_kindOf : MethodName := ⟨RX6, "kindOf", "(I)I"⟩
abbrev cX6_angleOf : ByteArray := prog_1_method_63_code
def yX6_angleOf : MethodName := ⟨RX6, "angleOf", "(I)I"⟩
abbrev cX6_figureOf : ByteArray := prog_1_method_64_code
def yX6_figureOf : MethodName := ⟨RX6, "figureOf", "(I)I"⟩
abbrev cX6_withAngle : ByteArray := prog_1_method_65_code
def yX6_withAngle : MethodName := ⟨RX6, "withAngle", "(II)I"⟩
abbrev cX6_isSheetOrPolar : ByteArray := prog_1_method_66_code
def yX6_isSheetOrPolar : MethodName := ⟨RX6, "isSheetOrPolar", "(I)Z"⟩
abbrev cX6_isPlateOrRotator : ByteArray := prog_1_method_67_code
def yX6_isPlateOrRotator : MethodName := ⟨RX6, "isPlateOrRotator", "(I)Z"⟩
abbrev cX6_alongOf : ByteArray := prog_1_method_68_code
def yX6_alongOf : MethodName := ⟨RX6, "alongOf", "(I)I"⟩
abbrev cX6_acrossOf : ByteArray := prog_1_method_69_code
def yX6_acrossOf : MethodName := ⟨RX6, "acrossOf", "(I)I"⟩
abbrev cX6_quartersOf : ByteArray := prog_1_method_70_code
def yX6_quartersOf : MethodName := ⟨RX6, "quartersOf", "(I)I"⟩
abbrev cX6_backwards : ByteArray := prog_1_method_71_code
def yX6_backwards : MethodName := ⟨RX6, "backwards", "(I)I"⟩
abbrev cX6_tellsAngle : ByteArray := prog_1_method_72_code
def yX6_tellsAngle : MethodName := ⟨RX6, "tellsAngle", "(I)Z"⟩
abbrev cX6_tellsFigure : ByteArray := prog_1_method_73_code
def yX6_tellsFigure : MethodName := ⟨RX6, "tellsFigure", "(I)Z"⟩
abbrev cX6_takesKind : ByteArray := prog_1_method_74_code
def yX6_takesKind : MethodName := ⟨RX6, "takesKind", "(II)Z"⟩
abbrev cX6_shineBehind : ByteArray := prog_1_method_75_code
def yX6_shineBehind : MethodName := ⟨RX6, "shineBehind", "(I)V"⟩
abbrev cX6_shineOn : ByteArray := prog_1_method_76_code
def yX6_shineOn : MethodName := ⟨RX6, "shineOn", "(II)V"⟩
abbrev cX6_isCrossed : ByteArray := prog_1_method_77_code
def yX6_isCrossed : MethodName := ⟨RX6, "isCrossed", "(II)Z"⟩
abbrev cX6_leftInBeam : ByteArray := prog_1_method_78_code
def yX6_leftInBeam : MethodName := ⟨RX6, "leftInBeam", "(I)J"⟩
abbrev cX6_squaresAreOver : ByteArray := prog_1_method_79_code
def yX6_squaresAreOver : MethodName := ⟨RX6, "squaresAreOver", "()Z"⟩
abbrev cX6_fraction : ByteArray := prog_1_method_80_code
def yX6_fraction : MethodName := ⟨RX6, "fraction", "(JJI)J"⟩
abbrev cX6_commonDivisor : ByteArray := prog_1_method_81_code
def yX6_commonDivisor : MethodName := ⟨RX6, "commonDivisor", "(JJ)J"⟩
abbrev cX6_isMissing : ByteArray := prog_1_method_82_code
def yX6_isMissing : MethodName := ⟨RX6, "isMissing", "(I)Z"⟩
abbrev cX6_hasListPlace : ByteArray := prog_1_method_83_code
def yX6_hasListPlace : MethodName := ⟨RX6, "hasListPlace", "(II)Z"⟩
abbrev cX6_makeList : ByteArray := prog_1_method_84_code
def yX6_makeList : MethodName := ⟨RX6, "makeList", "(II)V"⟩
abbrev cX6_tellLight : ByteArray := prog_1_method_85_code
def yX6_tellLight : MethodName := ⟨RX6, "tellLight", "(I)Z"⟩
abbrev cX6_refind : ByteArray := prog_1_method_86_code
def yX6_refind : MethodName := ⟨RX6, "refind", "(I)Z"⟩
abbrev cX6_isFrom : ByteArray := prog_1_method_87_code
def yX6_isFrom : MethodName := ⟨RX6, "isFrom", "(JJJ)Z"⟩
abbrev cX6_measure : ByteArray := prog_1_method_88_code
def yX6_measure : MethodName := ⟨RX6, "measure", "(I)D"⟩
abbrev cX6_doubleBits : ByteArray := prog_1_method_89_code
def yX6_doubleBits : MethodName := ⟨RX6, "doubleBits", "(D)J"⟩
abbrev cX6_floatBits : ByteArray := prog_1_method_90_code
def yX6_floatBits : MethodName := ⟨RX6, "floatBits", "(F)I"⟩
abbrev cX6_rackedCode : ByteArray := prog_1_method_91_code
def yX6_rackedCode : MethodName := ⟨RX6, "rackedCode", "(II)I"⟩
abbrev cX6_spell : ByteArray := prog_1_method_92_code
def yX6_spell : MethodName := ⟨RX6, "spell", "()V"⟩
abbrev cX6_spellFilter : ByteArray := prog_1_method_93_code
def yX6_spellFilter : MethodName := ⟨RX6, "spellFilter", "(I)V"⟩
def RX7 : String := "FilterPileModel"
def TX7 : u_T := fun k => match k with
  | 0 => ("FilterPileModel", "lamp", "[J", true)
  | 1 => ("FilterPileModel", "pile", "[I", true)
  | 2 => ("FilterPileModel", "many", "I", false)
  | 3 => ("FilterPileModel", "now", "[J", true)
  | 4 => ("FilterPileModel", "colored", "J", false)
  | 5 => ("FilterPileModel", "whole", "J", false)
  | 6 => ("FilterPileModel", "row", "[I", true)
  | 7 => ("FilterPileModel", "seen", "[J", true)
  | 8 => ("FilterPileModel", "often", "[I", true)
  | 9 => ("FilterPileModel", "unlike", "I", false)
  | 10 => ("FilterPileModel", "leastRow", "I", false)
  | 11 => ("FilterPileModel", "mostRow", "I", false)
  | 12 => ("FilterPileModel", "least", "[J", true)
  | 13 => ("FilterPileModel", "most", "[J", true)
  | 14 => ("FilterPileModel", "hasRow", "Z", false)
  | 15 => ("FilterPileModel", "other", "[J", true)
  | 16 => ("FilterPileModel", "lists", "[J", true)
  | 17 => ("FilterPileModel", "sizes", "[I", true)
  | 18 => ("FilterPileModel", "film", "[F", true)
  | 19 => ("FilterPileModel", "racks", "[I", true)
  | 20 => ("FilterPileModel", "takes", "[I", true)
  | 21 => ("FilterPileModel", "tape", "[I", true)
  | 22 => ("FilterPileModel", "length", "I", false)
  | 23 => ("FilterPileModel", "at", "I", false)
  | 24 => ("FilterPileModel", "fault", "I", false)
  | 25 => ("FilterPileModel", "opened", "[I", true)
  | 26 => ("FilterPileModel", "open", "I", false)
  | 27 => ("FilterPileModel", "toldCodes", "[I", true)
  | 28 => ("FilterPileModel", "sorts", "[I", true)
  | 29 => ("FilterPileModel", "numbers", "[I", true)
  | 30 => ("FilterPileModel", "troubles", "I", false)
  | 31 => ("FilterPileModel", "spelled", "[I", true)
  | 32 => ("FilterPileModel", "signs", "I", false)
  | 33 => ("FilterPileModel", "hadLamp", "[J", true)
  | 34 => ("FilterPileModel", "hadPile", "[I", true)
  | 35 => ("FilterPileModel", "hadMany", "I", false)
  | 36 => ("FilterPileModel", "hadFilm", "[F", true)
  | 37 => ("FilterPileModel", "hadRacks", "[I", true)
  | 38 => ("FilterPileModel", "hadTakes", "[I", true)
  | _ => ("FilterPileModel", "hasImage", "Z", false)
def tyX7 : Nat → FieldType := fun k => match k with
  | 0 => .array .long
  | 1 => .array .int
  | 2 => .int
  | 3 => .array .long
  | 4 => .long
  | 5 => .long
  | 6 => .array .int
  | 7 => .array .long
  | 8 => .array .int
  | 9 => .int
  | 10 => .int
  | 11 => .int
  | 12 => .array .long
  | 13 => .array .long
  | 14 => .boolean
  | 15 => .array .long
  | 16 => .array .long
  | 17 => .array .int
  | 18 => .array .float
  | 19 => .array .int
  | 20 => .array .int
  | 21 => .array .int
  | 22 => .int
  | 23 => .int
  | 24 => .int
  | 25 => .array .int
  | 26 => .int
  | 27 => .array .int
  | 28 => .array .int
  | 29 => .array .int
  | 30 => .int
  | 31 => .array .int
  | 32 => .int
  | 33 => .array .long
  | 34 => .array .int
  | 35 => .int
  | 36 => .array .float
  | 37 => .array .int
  | 38 => .array .int
  | _ => .boolean
abbrev wsX70 : List Cond := u_ws RX7 TX7 40
theorem nmX7 : ∀ a, a < 40 → ∀ b, b < 40 → a ≠ b → (TX7 a).2.1 ≠ (TX7 b).2.1 := by decide +kernel
theorem tyX7_ok : ∀ k, k < 40 → parseFieldDescriptor (TX7 k).2.2.1 = some (tyX7 k) := by decide +kernel
abbrev cX7_init : ByteArray := prog_9_method_1_code
def yX7_init : MethodName := ⟨RX7, "<init>", "()V"⟩
abbrev cX7_in : ByteArray := prog_9_method_2_code
def yX7_in : MethodName := ⟨RX7, "in", "(JJJ)Z"⟩
abbrev cX7_isFilter : ByteArray := prog_9_method_3_code
def yX7_isFilter : MethodName := ⟨RX7, "isFilter", "(I)Z"⟩
abbrev cX7_isBehind : ByteArray := prog_9_method_4_code
def yX7_isBehind : MethodName := ⟨RX7, "isBehind", "(I)Z"⟩
abbrev cX7_codeOf : ByteArray := prog_9_method_5_code
def yX7_codeOf : MethodName := ⟨RX7, "codeOf", "(III)I"⟩
abbrev cX7_kindOf : ByteArray := prog_9_method_6_code
def yX7_kindOf : MethodName := ⟨RX7, "kindOf", "(I)I"⟩
abbrev cX7_angleOf : ByteArray := prog_9_method_7_code
def yX7_angleOf : MethodName := ⟨RX7, "angleOf", "(I)I"⟩
abbrev cX7_figureOf : ByteArray := prog_9_method_8_code
def yX7_figureOf : MethodName := ⟨RX7, "figureOf", "(I)I"⟩
abbrev cX7_mayBe : ByteArray := prog_9_method_9_code
def yX7_mayBe : MethodName := ⟨RX7, "mayBe", "(JJJJ)Z"⟩
abbrev cX7_toLowest : ByteArray := prog_9_method_10_code
def yX7_toLowest : MethodName := ⟨RX7, "toLowest", "([J)V"⟩
abbrev cX7_scales : ByteArray := prog_9_method_11_code
def yX7_scales : MethodName := ⟨RX7, "scales", "([JJJI)V"⟩
abbrev cX7_along : ByteArray := prog_9_method_12_code
def yX7_along : MethodName := ⟨RX7, "along", "(I)I"⟩
abbrev cX7_across : ByteArray := prog_9_method_13_code
def yX7_across : MethodName := ⟨RX7, "across", "(I)I"⟩
abbrev cX7_sheet : ByteArray := prog_9_method_14_code
def yX7_sheet : MethodName := ⟨RX7, "sheet", "([JI)V"⟩
abbrev cX7_quarter : ByteArray := prog_9_method_15_code
def yX7_quarter : MethodName := ⟨RX7, "quarter", "([JI)V"⟩
abbrev cX7_quarters : ByteArray := prog_9_method_16_code
def yX7_quarters : MethodName := ⟨RX7, "quarters", "([JII)V"⟩
abbrev cX7_goes : ByteArray := prog_9_method_17_code
def yX7_goes : MethodName := ⟨RX7, "goes", "([JI)V"⟩
abbrev cX7_begins : ByteArray := prog_9_method_18_code
def yX7_begins : MethodName := ⟨RX7, "begins", "([J)V"⟩
abbrev cX7_behind : ByteArray := prog_9_method_19_code
def yX7_behind : MethodName := ⟨RX7, "behind", "(I)V"⟩
abbrev cX7_lamp : ByteArray := prog_9_method_20_code
def yX7_lamp : MethodName := ⟨RX7, "lamp", "(IIII)I"⟩
abbrev cX7_add : ByteArray := prog_9_method_21_code
def yX7_add : MethodName := ⟨RX7, "add", "(III)I"⟩
abbrev cX7_adds : ByteArray := prog_9_method_22_code
def yX7_adds : MethodName := ⟨RX7, "adds", "(I)I"⟩
abbrev cX7_told : ByteArray := prog_9_method_23_code
def yX7_told : MethodName := ⟨RX7, "told", "(II)I"⟩
abbrev cX7_with : ByteArray := prog_9_method_24_code
def yX7_with : MethodName := ⟨RX7, "with", "(III)I"⟩
abbrev cX7_change : ByteArray := prog_9_method_25_code
def yX7_change : MethodName := ⟨RX7, "change", "(III)I"⟩
abbrev cX7_turn : ByteArray := prog_9_method_26_code
def yX7_turn : MethodName := ⟨RX7, "turn", "(II)I"⟩
abbrev cX7_takesOut : ByteArray := prog_9_method_27_code
def yX7_takesOut : MethodName := ⟨RX7, "takesOut", "(I)V"⟩
abbrev cX7_move : ByteArray := prog_9_method_28_code
def yX7_move : MethodName := ⟨RX7, "move", "(II)I"⟩
abbrev cX7_cut : ByteArray := prog_9_method_29_code
def yX7_cut : MethodName := ⟨RX7, "cut", "(I)I"⟩
abbrev cX7_clear : ByteArray := prog_9_method_30_code
def yX7_clear : MethodName := ⟨RX7, "clear", "()I"⟩
abbrev cX7_isUnderKind : ByteArray := prog_9_method_31_code
def yX7_isUnderKind : MethodName := ⟨RX7, "isUnderKind", "(II)Z"⟩
abbrev cX7_of : ByteArray := prog_9_method_32_code
def yX7_of : MethodName := ⟨RX7, "of", "(II)I"⟩
abbrev cX7_isUnder : ByteArray := prog_9_method_33_code
def yX7_isUnder : MethodName := ⟨RX7, "isUnder", "(II)I"⟩
abbrev cX7_light : ByteArray := prog_9_method_34_code
def yX7_light : MethodName := ⟨RX7, "light", "(II)J"⟩
abbrev cX7_common : ByteArray := prog_9_method_35_code
def yX7_common : MethodName := ⟨RX7, "common", "(JJ)J"⟩
abbrev cX7_lowest : ByteArray := prog_9_method_36_code
def yX7_lowest : MethodName := ⟨RX7, "lowest", "(JJI)J"⟩
abbrev cX7_leftNow : ByteArray := prog_9_method_37_code
def yX7_leftNow : MethodName := ⟨RX7, "leftNow", "(I)J"⟩
abbrev cX7_isPart : ByteArray := prog_9_method_38_code
def yX7_isPart : MethodName := ⟨RX7, "isPart", "(I)Z"⟩
abbrev cX7_left : ByteArray := prog_9_method_39_code
def yX7_left : MethodName := ⟨RX7, "left", "(II)J"⟩
abbrev cX7_findsDegree : ByteArray := prog_9_method_40_code
def yX7_findsDegree : MethodName := ⟨RX7, "findsDegree", "()Z"⟩
abbrev cX7_degree : ByteArray := prog_9_method_41_code
def yX7_degree : MethodName := ⟨RX7, "degree", "(II)J"⟩
abbrev cX7_sort : ByteArray := prog_9_method_42_code
def yX7_sort : MethodName := ⟨RX7, "sort", "(I)I"⟩
abbrev cX7_compared : ByteArray := prog_9_method_43_code
def yX7_compared : MethodName := ⟨RX7, "compared", "(JJJJ)I"⟩
abbrev cX7_areAlike : ByteArray := prog_9_method_44_code
def yX7_areAlike : MethodName := ⟨RX7, "areAlike", "([JI[JI)Z"⟩
abbrev cX7_sees : ByteArray := prog_9_method_45_code
def yX7_sees : MethodName := ⟨RX7, "sees", "()V"⟩
abbrev cX7_goesOrders : ByteArray := prog_9_method_46_code
def yX7_goesOrders : MethodName := ⟨RX7, "goesOrders", "(II)V"⟩
abbrev cX7_findsOrders : ByteArray := prog_9_method_47_code
def yX7_findsOrders : MethodName := ⟨RX7, "findsOrders", "()V"⟩
abbrev cX7_order : ByteArray := prog_9_method_48_code
def yX7_order : MethodName := ⟨RX7, "order", "(I)I"⟩
abbrev cX7_orderLight : ByteArray := prog_9_method_49_code
def yX7_orderLight : MethodName := ⟨RX7, "orderLight", "(II)J"⟩
abbrev cX7_begins1 : ByteArray := prog_9_method_50_code
def yX7_begins1 : MethodName := ⟨RX7, "begins1", "(I)V"⟩
abbrev cX7_matrix : ByteArray := prog_9_method_51_code
def yX7_matrix : MethodName := ⟨RX7, "matrix", "(III)J"⟩
abbrev cX7_trade : ByteArray := prog_9_method_52_code
def yX7_trade : MethodName := ⟨RX7, "trade", "(II)I"⟩
abbrev cX7_angle : ByteArray := prog_9_method_53_code
def yX7_angle : MethodName := ⟨RX7, "angle", "(II)I"⟩
abbrev cX7_without : ByteArray := prog_9_method_54_code
def yX7_without : MethodName := ⟨RX7, "without", "(II)J"⟩
abbrev cX7_darkens : ByteArray := prog_9_method_55_code
def yX7_darkens : MethodName := ⟨RX7, "darkens", "()I"⟩
abbrev cX7_crossed : ByteArray := prog_9_method_56_code
def yX7_crossed : MethodName := ⟨RX7, "crossed", "(I)I"⟩
abbrev cX7_tally : ByteArray := prog_9_method_57_code
def yX7_tally : MethodName := ⟨RX7, "tally", "(I)I"⟩
abbrev cX7_isList : ByteArray := prog_9_method_58_code
def yX7_isList : MethodName := ⟨RX7, "isList", "(I)Z"⟩
abbrev cX7_becomes : ByteArray := prog_9_method_59_code
def yX7_becomes : MethodName := ⟨RX7, "becomes", "(II)V"⟩
abbrev cX7_list : ByteArray := prog_9_method_60_code
def yX7_list : MethodName := ⟨RX7, "list", "(II)I"⟩
abbrev cX7_put : ByteArray := prog_9_method_61_code
def yX7_put : MethodName := ⟨RX7, "put", "(IIJ)I"⟩
abbrev cX7_get : ByteArray := prog_9_method_62_code
def yX7_get : MethodName := ⟨RX7, "get", "(II)J"⟩
abbrev cX7_lays : ByteArray := prog_9_method_63_code
def yX7_lays : MethodName := ⟨RX7, "lays", "(I)I"⟩
abbrev cX7_lay : ByteArray := prog_9_method_64_code
def yX7_lay : MethodName := ⟨RX7, "lay", "(II)I"⟩
abbrev cX7_readings : ByteArray := prog_9_method_65_code
def yX7_readings : MethodName := ⟨RX7, "readings", "(I)I"⟩
abbrev cX7_hasFive : ByteArray := prog_9_method_66_code
def yX7_hasFive : MethodName := ⟨RX7, "hasFive", "(I)Z"⟩
abbrev cX7_refound : ByteArray := prog_9_method_67_code
def yX7_refound : MethodName := ⟨RX7, "refound", "(II)J"⟩
abbrev cX7_tellsLight : ByteArray := prog_9_method_68_code
def yX7_tellsLight : MethodName := ⟨RX7, "tellsLight", "(I)Z"⟩
abbrev cX7_through : ByteArray := prog_9_method_69_code
def yX7_through : MethodName := ⟨RX7, "through", "(II)J"⟩
abbrev cX7_before : ByteArray := prog_9_method_70_code
def yX7_before : MethodName := ⟨RX7, "before", "(II)J"⟩
abbrev cX7_found : ByteArray := prog_9_method_71_code
def yX7_found : MethodName := ⟨RX7, "found", "(III)I"⟩
abbrev cX7_meterNow : ByteArray := prog_9_method_72_code
def yX7_meterNow : MethodName := ⟨RX7, "meterNow", "()D"⟩
abbrev cX7_meterAll : ByteArray := prog_9_method_73_code
def yX7_meterAll : MethodName := ⟨RX7, "meterAll", "()F"⟩
abbrev cX7_isCell : ByteArray := prog_9_method_74_code
def yX7_isCell : MethodName := ⟨RX7, "isCell", "(I)Z"⟩
abbrev cX7_meter : ByteArray := prog_9_method_75_code
def yX7_meter : MethodName := ⟨RX7, "meter", "(II)J"⟩
abbrev cX7_expose : ByteArray := prog_9_method_76_code
def yX7_expose : MethodName := ⟨RX7, "expose", "(I)I"⟩
abbrev cX7_dim : ByteArray := prog_9_method_77_code
def yX7_dim : MethodName := ⟨RX7, "dim", "(II)I"⟩
abbrev cX7_film : ByteArray := prog_9_method_78_code
def yX7_film : MethodName := ⟨RX7, "film", "(II)I"⟩
abbrev cX7_sumFilm : ByteArray := prog_9_method_79_code
def yX7_sumFilm : MethodName := ⟨RX7, "sumFilm", "(I)J"⟩
abbrev cX7_isRack : ByteArray := prog_9_method_80_code
def yX7_isRack : MethodName := ⟨RX7, "isRack", "(I)Z"⟩
abbrev cX7_isPlace : ByteArray := prog_9_method_81_code
def yX7_isPlace : MethodName := ⟨RX7, "isPlace", "(I)Z"⟩
abbrev cX7_doesTake : ByteArray := prog_9_method_82_code
def yX7_doesTake : MethodName := ⟨RX7, "doesTake", "(II)Z"⟩
abbrev cX7_store : ByteArray := prog_9_method_83_code
def yX7_store : MethodName := ⟨RX7, "store", "(III)I"⟩
abbrev cX7_empty : ByteArray := prog_9_method_84_code
def yX7_empty : MethodName := ⟨RX7, "empty", "(II)I"⟩
abbrev cX7_fetch : ByteArray := prog_9_method_85_code
def yX7_fetch : MethodName := ⟨RX7, "fetch", "(II)I"⟩
abbrev cX7_rack : ByteArray := prog_9_method_86_code
def yX7_rack : MethodName := ⟨RX7, "rack", "(II)I"⟩
abbrev cX7_heldIn : ByteArray := prog_9_method_87_code
def yX7_heldIn : MethodName := ⟨RX7, "heldIn", "(II)I"⟩
abbrev cX7_copy : ByteArray := prog_9_method_88_code
def yX7_copy : MethodName := ⟨RX7, "copy", "(II)I"⟩
abbrev cX7_tells : ByteArray := prog_9_method_89_code
def yX7_tells : MethodName := ⟨RX7, "tells", "(II)V"⟩
abbrev cX7_feed : ByteArray := prog_9_method_90_code
def yX7_feed : MethodName := ⟨RX7, "feed", "(I)I"⟩
abbrev cX7_wipe : ByteArray := prog_9_method_91_code
def yX7_wipe : MethodName := ⟨RX7, "wipe", "()I"⟩
abbrev cX7_next : ByteArray := prog_9_method_92_code
def yX7_next : MethodName := ⟨RX7, "next", "()I"⟩
abbrev cX7_isFigure : ByteArray := prog_9_method_93_code
def yX7_isFigure : MethodName := ⟨RX7, "isFigure", "(II)Z"⟩
abbrev cX7_faulty : ByteArray := prog_9_method_94_code
def yX7_faulty : MethodName := ⟨RX7, "faulty", "(I)V"⟩
abbrev cX7_figureTold : ByteArray := prog_9_method_95_code
def yX7_figureTold : MethodName := ⟨RX7, "figureTold", "()I"⟩
abbrev cX7_angleTold : ByteArray := prog_9_method_96_code
def yX7_angleTold : MethodName := ⟨RX7, "angleTold", "()I"⟩
abbrev cX7_filterTold : ByteArray := prog_9_method_97_code
def yX7_filterTold : MethodName := ⟨RX7, "filterTold", "()I"⟩
abbrev cX7_textTold : ByteArray := prog_9_method_98_code
def yX7_textTold : MethodName := ⟨RX7, "textTold", "(I)I"⟩
abbrev cX7_itemTold : ByteArray := prog_9_method_99_code
def yX7_itemTold : MethodName := ⟨RX7, "itemTold", "(I)I"⟩
abbrev cX7_read : ByteArray := prog_9_method_100_code
def yX7_read : MethodName := ⟨RX7, "read", "()I"⟩
abbrev cX7_why : ByteArray := prog_9_method_101_code
def yX7_why : MethodName := ⟨RX7, "why", "(II)I"⟩
abbrev cX7_spells : ByteArray := prog_9_method_102_code
def yX7_spells : MethodName := ⟨RX7, "spells", "(I)V"⟩
abbrev cX7_spellsNumber : ByteArray := prog_9_method_103_code
def yX7_spellsNumber : MethodName := ⟨RX7, "spellsNumber", "(I)V"⟩
abbrev cX7_letterOf : ByteArray := prog_9_method_104_code
def yX7_letterOf : MethodName := ⟨RX7, "letterOf", "(I)I"⟩
abbrev cX7_spellsAll : ByteArray := prog_9_method_105_code
def yX7_spellsAll : MethodName := ⟨RX7, "spellsAll", "()V"⟩
abbrev cX7_spelled : ByteArray := prog_9_method_106_code
def yX7_spelled : MethodName := ⟨RX7, "spelled", "(I)I"⟩
abbrev cX7_image : ByteArray := prog_9_method_107_code
def yX7_image : MethodName := ⟨RX7, "image", "()I"⟩
abbrev cX7_undo : ByteArray := prog_9_method_108_code
def yX7_undo : MethodName := ⟨RX7, "undo", "()I"⟩
abbrev cX7_count : ByteArray := prog_9_method_109_code
def yX7_count : MethodName := ⟨RX7, "count", "(I)I"⟩
def RJ5 : String := "java/lang/AbstractStringBuilder"
def TJ5 : u_T := fun k => match k with
  | _ => ("", "", "", false)
def tyJ5 : Nat → FieldType := fun k => match k with
  | _ => .int
abbrev wsJ50 : List Cond := u_ws RJ5 TJ5 0
theorem nmJ5 : ∀ a, a < 0 → ∀ b, b < 0 → a ≠ b → (TJ5 a).2.1 ≠ (TJ5 b).2.1 := by decide +kernel
theorem tyJ5_ok : ∀ k, k < 0 → parseFieldDescriptor (TJ5 k).2.2.1 = some (tyJ5 k) := by decide +kernel
abbrev cJ5_init_d00df : ByteArray := prog_10_method_2_code
def yJ5_init_d00df : MethodName := ⟨RJ5, "<init>", "(I)V"⟩
abbrev cJ5_length_8abf5 : ByteArray := prog_10_method_6_code
def yJ5_length_8abf5 : MethodName := ⟨RJ5, "length", "()I"⟩
abbrev cJ5_ensureCapacityInternal_d00df : ByteArray := prog_10_method_9_code
def yJ5_ensureCapacityInternal_d00df : MethodName := ⟨RJ5, "ensureCapacityInternal", "(I)V"⟩
abbrev cJ5_newCapacity_0f7a4 : ByteArray := prog_10_method_10_code
def yJ5_newCapacity_0f7a4 : MethodName := ⟨RJ5, "newCapacity", "(I)I"⟩
abbrev cJ5_inflate_da8c8 : ByteArray := prog_10_method_11_code
def yJ5_inflate_da8c8 : MethodName := ⟨RJ5, "inflate", "()V"⟩
abbrev cJ5_setLength_d00df : ByteArray := prog_10_method_13_code
def yJ5_setLength_d00df : MethodName := ⟨RJ5, "setLength", "(I)V"⟩
abbrev cJ5_charAt_5068e : ByteArray := prog_10_method_14_code
def yJ5_charAt_5068e : MethodName := ⟨RJ5, "charAt", "(I)C"⟩
abbrev cJ5_append_3fe6f : ByteArray := prog_10_method_31_code
def yJ5_append_3fe6f : MethodName := ⟨RJ5, "append", "(C)Ljava/lang/AbstractStringBuilder;"⟩
abbrev cJ5_append_c97b9 : ByteArray := prog_10_method_32_code
def yJ5_append_c97b9 : MethodName := ⟨RJ5, "append", "(I)Ljava/lang/AbstractStringBuilder;"⟩
abbrev cJ5_isLatin1_aae02 : ByteArray := prog_10_method_68_code
def yJ5_isLatin1_aae02 : MethodName := ⟨RJ5, "isLatin1", "()Z"⟩
def RJ11 : String := "java/lang/Character"
def TJ11 : u_T := fun k => match k with
  | _ => ("", "", "", false)
def tyJ11 : Nat → FieldType := fun k => match k with
  | _ => .int
abbrev wsJ110 : List Cond := u_ws RJ11 TJ11 0
theorem nmJ11 : ∀ a, a < 0 → ∀ b, b < 0 → a ≠ b → (TJ11 a).2.1 ≠ (TJ11 b).2.1 := by decide +kernel
theorem tyJ11_ok : ∀ k, k < 0 → parseFieldDescriptor (TJ11 k).2.2.1 = some (tyJ11 k) := by decide +kernel
abbrev cJ11_isValidCodePoint_9a6ad : ByteArray := prog_11_method_11_code
def yJ11_isValidCodePoint_9a6ad : MethodName := ⟨RJ11, "isValidCodePoint", "(I)Z"⟩
abbrev cJ11_highSurrogate_5068e : ByteArray := prog_11_method_28_code
def yJ11_highSurrogate_5068e : MethodName := ⟨RJ11, "highSurrogate", "(I)C"⟩
abbrev cJ11_lowSurrogate_5068e : ByteArray := prog_11_method_29_code
def yJ11_lowSurrogate_5068e : MethodName := ⟨RJ11, "lowSurrogate", "(I)C"⟩
def RJx8e188 : String := "java/lang/Cloneable"
def TJx8e188 : u_T := fun k => match k with
  | _ => ("", "", "", false)
def tyJx8e188 : Nat → FieldType := fun k => match k with
  | _ => .int
abbrev wsJx8e1880 : List Cond := u_ws RJx8e188 TJx8e188 0
theorem nmJx8e188 : ∀ a, a < 0 → ∀ b, b < 0 → a ≠ b → (TJx8e188 a).2.1 ≠ (TJx8e188 b).2.1 := by decide +kernel
theorem tyJx8e188_ok : ∀ k, k < 0 → parseFieldDescriptor (TJx8e188 k).2.2.1 = some (tyJx8e188 k) := by decide +kernel
def RJxe99ae : String := "java/lang/Double"
def TJxe99ae : u_T := fun k => match k with
  | _ => ("", "", "", false)
def tyJxe99ae : Nat → FieldType := fun k => match k with
  | _ => .int
abbrev wsJxe99ae0 : List Cond := u_ws RJxe99ae TJxe99ae 0
theorem nmJxe99ae : ∀ a, a < 0 → ∀ b, b < 0 → a ≠ b → (TJxe99ae a).2.1 ≠ (TJxe99ae b).2.1 := by decide +kernel
theorem tyJxe99ae_ok : ∀ k, k < 0 → parseFieldDescriptor (TJxe99ae k).2.2.1 = some (tyJxe99ae k) := by decide +kernel
abbrev cJxe99ae_isNaN_b9ae7 : ByteArray := prog_13_method_6_code
def yJxe99ae_isNaN_b9ae7 : MethodName := ⟨RJxe99ae, "isNaN", "(D)Z"⟩
abbrev cJxe99ae_doubleToLongBits_ccdee : ByteArray := prog_13_method_23_code
def yJxe99ae_doubleToLongBits_ccdee : MethodName := ⟨RJxe99ae, "doubleToLongBits", "(D)J"⟩
def RJxf58ca : String := "java/lang/Float"
def TJxf58ca : u_T := fun k => match k with
  | _ => ("", "", "", false)
def tyJxf58ca : Nat → FieldType := fun k => match k with
  | _ => .int
abbrev wsJxf58ca0 : List Cond := u_ws RJxf58ca TJxf58ca 0
theorem nmJxf58ca : ∀ a, a < 0 → ∀ b, b < 0 → a ≠ b → (TJxf58ca a).2.1 ≠ (TJxf58ca b).2.1 := by decide +kernel
theorem tyJxf58ca_ok : ∀ k, k < 0 → parseFieldDescriptor (TJxf58ca k).2.2.1 = some (tyJxf58ca k) := by decide +kernel
abbrev cJxf58ca_isNaN_12338 : ByteArray := prog_14_method_6_code
def yJxf58ca_isNaN_12338 : MethodName := ⟨RJxf58ca, "isNaN", "(F)Z"⟩
abbrev cJxf58ca_floatToIntBits_5c35a : ByteArray := prog_14_method_24_code
def yJxf58ca_floatToIntBits_5c35a : MethodName := ⟨RJxf58ca, "floatToIntBits", "(F)I"⟩
def RJ6 : String := "java/lang/Integer"
def TJ6 : u_T := fun k => match k with
  | _ => ("", "", "", false)
def tyJ6 : Nat → FieldType := fun k => match k with
  | _ => .int
abbrev wsJ60 : List Cond := u_ws RJ6 TJ6 0
theorem nmJ6 : ∀ a, a < 0 → ∀ b, b < 0 → a ≠ b → (TJ6 a).2.1 ≠ (TJ6 b).2.1 := by decide +kernel
theorem tyJ6_ok : ∀ k, k < 0 → parseFieldDescriptor (TJ6 k).2.2.1 = some (tyJ6 k) := by decide +kernel
abbrev cJ6_getChars_ba4f3 : ByteArray := prog_15_method_12_code
def yJ6_getChars_ba4f3 : MethodName := ⟨RJ6, "getChars", "(II[B)I"⟩
abbrev cJ6_stringSize_0f7a4 : ByteArray := prog_15_method_13_code
def yJ6_stringSize_0f7a4 : MethodName := ⟨RJ6, "stringSize", "(I)I"⟩
def RJ13 : String := "java/lang/Long"
def TJ13 : u_T := fun k => match k with
  | _ => ("", "", "", false)
def tyJ13 : Nat → FieldType := fun k => match k with
  | _ => .int
abbrev wsJ130 : List Cond := u_ws RJ13 TJ13 0
theorem nmJ13 : ∀ a, a < 0 → ∀ b, b < 0 → a ≠ b → (TJ13 a).2.1 ≠ (TJ13 b).2.1 := by decide +kernel
theorem tyJ13_ok : ∀ k, k < 0 → parseFieldDescriptor (TJ13 k).2.2.1 = some (tyJ13 k) := by decide +kernel
abbrev cJ13_compare_74951 : ByteArray := prog_16_method_42_code
def yJ13_compare_74951 : MethodName := ⟨RJ13, "compare", "(JJ)I"⟩
def RJ9 : String := "java/lang/Math"
def TJ9 : u_T := fun k => match k with
  | _ => ("", "", "", false)
def tyJ9 : Nat → FieldType := fun k => match k with
  | _ => .int
abbrev wsJ90 : List Cond := u_ws RJ9 TJ9 0
theorem nmJ9 : ∀ a, a < 0 → ∀ b, b < 0 → a ≠ b → (TJ9 a).2.1 ≠ (TJ9 b).2.1 := by decide +kernel
theorem tyJ9_ok : ∀ k, k < 0 → parseFieldDescriptor (TJ9 k).2.2.1 = some (tyJ9 k) := by decide +kernel
abbrev cJ9_floorMod_7cf53 : ByteArray := prog_17_method_50_code
def yJ9_floorMod_7cf53 : MethodName := ⟨RJ9, "floorMod", "(II)I"⟩
abbrev cJ9_abs_067f4 : ByteArray := prog_17_method_61_code
def yJ9_abs_067f4 : MethodName := ⟨RJ9, "abs", "(J)J"⟩
abbrev cJ9_max_7cf53 : ByteArray := prog_17_method_65_code
def yJ9_max_7cf53 : MethodName := ⟨RJ9, "max", "(II)I"⟩
abbrev cJ9_min_7cf53 : ByteArray := prog_17_method_69_code
def yJ9_min_7cf53 : MethodName := ⟨RJ9, "min", "(II)I"⟩
def RJ0 : String := "java/lang/String"
def TJ0 : u_T := fun k => match k with
  | _ => ("", "", "", false)
def tyJ0 : Nat → FieldType := fun k => match k with
  | _ => .int
abbrev wsJ00 : List Cond := u_ws RJ0 TJ0 0
theorem nmJ0 : ∀ a, a < 0 → ∀ b, b < 0 → a ≠ b → (TJ0 a).2.1 ≠ (TJ0 b).2.1 := by decide +kernel
theorem tyJ0_ok : ∀ k, k < 0 → parseFieldDescriptor (TJ0 k).2.2.1 = some (tyJ0 k) := by decide +kernel
abbrev cJ0_length_8abf5 : ByteArray := prog_18_method_54_code
def yJ0_length_8abf5 : MethodName := ⟨RJ0, "length", "()I"⟩
abbrev cJ0_charAt_5068e : ByteArray := prog_18_method_56_code
def yJ0_charAt_5068e : MethodName := ⟨RJ0, "charAt", "(I)C"⟩
abbrev cJ0_indexOf_0f7a4 : ByteArray := prog_18_method_79_code
def yJ0_indexOf_0f7a4 : MethodName := ⟨RJ0, "indexOf", "(I)I"⟩
abbrev cJ0_indexOf_7cf53 : ByteArray := prog_18_method_80_code
def yJ0_indexOf_7cf53 : MethodName := ⟨RJ0, "indexOf", "(II)I"⟩
abbrev cJ0_coder_7d493 : ByteArray := prog_18_method_152_code
def yJ0_coder_7d493 : MethodName := ⟨RJ0, "coder", "()B"⟩
abbrev cJ0_isLatin1_aae02 : ByteArray := prog_18_method_154_code
def yJ0_isLatin1_aae02 : MethodName := ⟨RJ0, "isLatin1", "()Z"⟩
abbrev cJ0_checkIndex_df160 : ByteArray := prog_18_method_155_code
def yJ0_checkIndex_df160 : MethodName := ⟨RJ0, "checkIndex", "(II)V"⟩
abbrev cJ0_checkBoundsOffCount_cabcc : ByteArray := prog_18_method_157_code
def yJ0_checkBoundsOffCount_cabcc : MethodName := ⟨RJ0, "checkBoundsOffCount", "(III)I"⟩
abbrev cJ0_checkBoundsBeginEnd_23922 : ByteArray := prog_18_method_158_code
def yJ0_checkBoundsBeginEnd_23922 : MethodName := ⟨RJ0, "checkBoundsBeginEnd", "(III)V"⟩
def RJ4 : String := "java/lang/StringBuilder"
def TJ4 : u_T := fun k => match k with
  | 0 => ("java/lang/AbstractStringBuilder", "value", "[B", false)
  | 1 => ("java/lang/AbstractStringBuilder", "coder", "B", false)
  | 2 => ("java/lang/AbstractStringBuilder", "maybeLatin1", "Z", false)
  | _ => ("java/lang/AbstractStringBuilder", "count", "I", false)
def tyJ4 : Nat → FieldType := fun k => match k with
  | 0 => .array .byte
  | 1 => .byte
  | 2 => .boolean
  | _ => .int
abbrev wsJ40 : List Cond := u_ws RJ4 TJ4 4
theorem nmJ4 : ∀ a, a < 4 → ∀ b, b < 4 → a ≠ b → (TJ4 a).2.1 ≠ (TJ4 b).2.1 := by decide +kernel
theorem tyJ4_ok : ∀ k, k < 4 → parseFieldDescriptor (TJ4 k).2.2.1 = some (tyJ4 k) := by decide +kernel
abbrev cJ4_init_da8c8 : ByteArray := prog_19_method_1_code
def yJ4_init_da8c8 : MethodName := ⟨RJ4, "<init>", "()V"⟩
abbrev cJ4_append_cf468 : ByteArray := prog_19_method_14_code
def yJ4_append_cf468 : MethodName := ⟨RJ4, "append", "(C)Ljava/lang/StringBuilder;"⟩
abbrev cJ4_append_bf812 : ByteArray := prog_19_method_15_code
def yJ4_append_bf812 : MethodName := ⟨RJ4, "append", "(I)Ljava/lang/StringBuilder;"⟩
abbrev cJ4_charAt_5068e : ByteArray := prog_19_method_88_code
def yJ4_charAt_5068e : MethodName := ⟨RJ4, "charAt", "(I)C"⟩
abbrev cJ4_setLength_d00df : ByteArray := prog_19_method_89_code
def yJ4_setLength_d00df : MethodName := ⟨RJ4, "setLength", "(I)V"⟩
abbrev cJ4_length_8abf5 : ByteArray := prog_19_method_93_code
def yJ4_length_8abf5 : MethodName := ⟨RJ4, "length", "()I"⟩
def RJ1 : String := "java/lang/StringLatin1"
def TJ1 : u_T := fun k => match k with
  | _ => ("", "", "", false)
def tyJ1 : Nat → FieldType := fun k => match k with
  | _ => .int
abbrev wsJ10 : List Cond := u_ws RJ1 TJ1 0
theorem nmJ1 : ∀ a, a < 0 → ∀ b, b < 0 → a ≠ b → (TJ1 a).2.1 ≠ (TJ1 b).2.1 := by decide +kernel
theorem tyJ1_ok : ∀ k, k < 0 → parseFieldDescriptor (TJ1 k).2.2.1 = some (tyJ1 k) := by decide +kernel
abbrev cJ1_charAt_3b067 : ByteArray := prog_20_method_2_code
def yJ1_charAt_3b067 : MethodName := ⟨RJ1, "charAt", "([BI)C"⟩
abbrev cJ1_canEncode_fc78d : ByteArray := prog_20_method_3_code
def yJ1_canEncode_fc78d : MethodName := ⟨RJ1, "canEncode", "(C)Z"⟩
abbrev cJ1_canEncode_9a6ad : ByteArray := prog_20_method_4_code
def yJ1_canEncode_9a6ad : MethodName := ⟨RJ1, "canEncode", "(I)Z"⟩
abbrev cJ1_indexOf_4cfef : ByteArray := prog_20_method_22_code
def yJ1_indexOf_4cfef : MethodName := ⟨RJ1, "indexOf", "([BIII)I"⟩
abbrev cJ1_indexOfChar_4cfef : ByteArray := prog_20_method_23_code
def yJ1_indexOfChar_4cfef : MethodName := ⟨RJ1, "indexOfChar", "([BIII)I"⟩
abbrev cJ1_fillNull_b72d1 : ByteArray := prog_20_method_48_code
def yJ1_fillNull_b72d1 : MethodName := ⟨RJ1, "fillNull", "([BII)V"⟩
abbrev cJ1_inflate_0e8fd : ByteArray := prog_20_method_50_code
def yJ1_inflate_0e8fd : MethodName := ⟨RJ1, "inflate", "([BI[BII)V"⟩
def RJ2 : String := "java/lang/StringUTF16"
def TJ2 : u_T := fun k => match k with
  | _ => ("", "", "", false)
def tyJ2 : Nat → FieldType := fun k => match k with
  | _ => .int
abbrev wsJ20 : List Cond := u_ws RJ2 TJ2 0
theorem nmJ2 : ∀ a, a < 0 → ∀ b, b < 0 → a ≠ b → (TJ2 a).2.1 ≠ (TJ2 b).2.1 := by decide +kernel
theorem tyJ2_ok : ∀ k, k < 0 → parseFieldDescriptor (TJ2 k).2.2.1 = some (tyJ2 k) := by decide +kernel
abbrev cJ2_newBytesFor_77867 : ByteArray := prog_21_method_2_code
def yJ2_newBytesFor_77867 : MethodName := ⟨RJ2, "newBytesFor", "(I)[B"⟩
abbrev cJ2_newBytesLength_0f7a4 : ByteArray := prog_21_method_3_code
def yJ2_newBytesLength_0f7a4 : MethodName := ⟨RJ2, "newBytesLength", "(I)I"⟩
abbrev cJ2_putChar_b72d1 : ByteArray := prog_21_method_4_code
def yJ2_putChar_b72d1 : MethodName := ⟨RJ2, "putChar", "([BII)V"⟩
abbrev cJ2_getChar_3b067 : ByteArray := prog_21_method_5_code
def yJ2_getChar_3b067 : MethodName := ⟨RJ2, "getChar", "([BI)C"⟩
abbrev cJ2_length_9d52b : ByteArray := prog_21_method_6_code
def yJ2_length_9d52b : MethodName := ⟨RJ2, "length", "([B)I"⟩
abbrev cJ2_indexOf_4cfef : ByteArray := prog_21_method_40_code
def yJ2_indexOf_4cfef : MethodName := ⟨RJ2, "indexOf", "([BIII)I"⟩
abbrev cJ2_indexOfChar_4cfef : ByteArray := prog_21_method_47_code
def yJ2_indexOfChar_4cfef : MethodName := ⟨RJ2, "indexOfChar", "([BIII)I"⟩
abbrev cJ2_indexOfCharUnsafe_4cfef : ByteArray := prog_21_method_48_code
def yJ2_indexOfCharUnsafe_4cfef : MethodName := ⟨RJ2, "indexOfCharUnsafe", "([BIII)I"⟩
abbrev cJ2_indexOfSupplementary_4cfef : ByteArray := prog_21_method_49_code
def yJ2_indexOfSupplementary_4cfef : MethodName := ⟨RJ2, "indexOfSupplementary", "([BIII)I"⟩
abbrev cJ2_fillNull_b72d1 : ByteArray := prog_21_method_70_code
def yJ2_fillNull_b72d1 : MethodName := ⟨RJ2, "fillNull", "([BII)V"⟩
abbrev cJ2_putCharSB_b72d1 : ByteArray := prog_21_method_71_code
def yJ2_putCharSB_b72d1 : MethodName := ⟨RJ2, "putCharSB", "([BII)V"⟩
abbrev cJ2_getChars_46870 : ByteArray := prog_21_method_77_code
def yJ2_getChars_46870 : MethodName := ⟨RJ2, "getChars", "(III[B)I"⟩
abbrev cJ2_charAt_3b067 : ByteArray := prog_21_method_83_code
def yJ2_charAt_3b067 : MethodName := ⟨RJ2, "charAt", "([BI)C"⟩
abbrev cJ2_inflate_0e8fd : ByteArray := prog_21_method_86_code
def yJ2_inflate_0e8fd : MethodName := ⟨RJ2, "inflate", "([BI[BII)V"⟩
abbrev cJ2_getChars_ba4f3 : ByteArray := prog_21_method_89_code
def yJ2_getChars_ba4f3 : MethodName := ⟨RJ2, "getChars", "(II[B)I"⟩
abbrev cJ2_checkIndex_2214a : ByteArray := prog_21_method_91_code
def yJ2_checkIndex_2214a : MethodName := ⟨RJ2, "checkIndex", "(I[B)V"⟩
abbrev cJ2_checkBoundsBeginEnd_d044e : ByteArray := prog_21_method_93_code
def yJ2_checkBoundsBeginEnd_d044e : MethodName := ⟨RJ2, "checkBoundsBeginEnd", "(II[B)V"⟩
abbrev cJ2_checkBoundsOffCount_d044e : ByteArray := prog_21_method_94_code
def yJ2_checkBoundsOffCount_d044e : MethodName := ⟨RJ2, "checkBoundsOffCount", "(II[B)V"⟩
def RJ10 : String := "java/lang/System"
def TJ10 : u_T := fun k => match k with
  | _ => ("", "", "", false)
def tyJ10 : Nat → FieldType := fun k => match k with
  | _ => .int
abbrev wsJ100 : List Cond := u_ws RJ10 TJ10 0
theorem nmJ10 : ∀ a, a < 0 → ∀ b, b < 0 → a ≠ b → (TJ10 a).2.1 ≠ (TJ10 b).2.1 := by decide +kernel
theorem tyJ10_ok : ∀ k, k < 0 → parseFieldDescriptor (TJ10 k).2.2.1 = some (tyJ10 k) := by decide +kernel
def RJ7 : String := "java/util/Arrays"
def TJ7 : u_T := fun k => match k with
  | _ => ("", "", "", false)
def tyJ7 : Nat → FieldType := fun k => match k with
  | _ => .int
abbrev wsJ70 : List Cond := u_ws RJ7 TJ7 0
theorem nmJ7 : ∀ a, a < 0 → ∀ b, b < 0 → a ≠ b → (TJ7 a).2.1 ≠ (TJ7 b).2.1 := by decide +kernel
theorem tyJ7_ok : ∀ k, k < 0 → parseFieldDescriptor (TJ7 k).2.2.1 = some (tyJ7 k) := by decide +kernel
abbrev cJ7_rangeCheck_23922 : ByteArray := prog_23_method_30_code
def yJ7_rangeCheck_23922 : MethodName := ⟨RJ7, "rangeCheck", "(III)V"⟩
abbrev cJ7_fill_eb02e : ByteArray := prog_23_method_110_code
def yJ7_fill_eb02e : MethodName := ⟨RJ7, "fill", "([BIIB)V"⟩
abbrev cJ7_copyOf_9075b : ByteArray := prog_23_method_121_code
def yJ7_copyOf_9075b : MethodName := ⟨RJ7, "copyOf", "([BI)[B"⟩
def RJ8 : String := "jdk/internal/util/ArraysSupport"
def TJ8 : u_T := fun k => match k with
  | _ => ("", "", "", false)
def tyJ8 : Nat → FieldType := fun k => match k with
  | _ => .int
abbrev wsJ80 : List Cond := u_ws RJ8 TJ8 0
theorem nmJ8 : ∀ a, a < 0 → ∀ b, b < 0 → a ≠ b → (TJ8 a).2.1 ≠ (TJ8 b).2.1 := by decide +kernel
theorem tyJ8_ok : ∀ k, k < 0 → parseFieldDescriptor (TJ8 k).2.2.1 = some (tyJ8 k) := by decide +kernel
abbrev cJ8_newLength_cabcc : ByteArray := prog_24_method_27_code
def yJ8_newLength_cabcc : MethodName := ⟨RJ8, "newLength", "(III)I"⟩
abbrev cJ8_hugeLength_7cf53 : ByteArray := prog_24_method_28_code
def yJ8_hugeLength_7cf53 : MethodName := ⟨RJ8, "hugeLength", "(II)I"⟩
def RJ3 : String := "jdk/internal/util/Preconditions"
def TJ3 : u_T := fun k => match k with
  | _ => ("", "", "", false)
def tyJ3 : Nat → FieldType := fun k => match k with
  | _ => .int
abbrev wsJ30 : List Cond := u_ws RJ3 TJ3 0
theorem nmJ3 : ∀ a, a < 0 → ∀ b, b < 0 → a ≠ b → (TJ3 a).2.1 ≠ (TJ3 b).2.1 := by decide +kernel
theorem tyJ3_ok : ∀ k, k < 0 → parseFieldDescriptor (TJ3 k).2.2.1 = some (tyJ3 k) := by decide +kernel
abbrev cJ3_checkIndex_8e157 : ByteArray := prog_25_method_11_code
def yJ3_checkIndex_8e157 : MethodName := ⟨RJ3, "checkIndex", "(IILjava/util/function/BiFunction;)I"⟩
abbrev cJ3_checkFromToIndex_8c36e : ByteArray := prog_25_method_12_code
def yJ3_checkFromToIndex_8c36e : MethodName := ⟨RJ3, "checkFromToIndex", "(IIILjava/util/function/BiFunction;)I"⟩
abbrev cJ3_checkFromIndexSize_8c36e : ByteArray := prog_25_method_13_code
def yJ3_checkFromIndexSize_8c36e : MethodName := ⟨RJ3, "checkFromIndexSize", "(IIILjava/util/function/BiFunction;)I"⟩
def RL : String := "FilterPileLaw"
abbrev cL_law : ByteArray := code
def yL_law : MethodName := ⟨RL, "law", "([I)Z"⟩
abbrev vwCl : List vw_C := [(RJ4, TJ4, 4), (RX0, TX0, 6), (RX1, TX1, 5), (RX2, TX2, 1), (RX3, TX3, 7), (RX4, TX4, 7), (RX5, TX5, 3), (RX6, TX6, 13), (RX7, TX7, 40)]
end
section
/-! ===== the abstract picture: cells at numbers, a map of numbers to addresses ===== -/
abbrev Hp : Type := Nat → Option va_E
/-- what is fixed over the law's run: classes and slots, array classes, the first new address, the script's length and ints -/
abbrev Cx : Type := va_G × (Nat → ClassId) × Nat × Nat × (Nat → Int32)
abbrev cD (G : Cx) : va_G := G.1
abbrev cA (G : Cx) : Nat → ClassId := G.2.1
abbrev cB (G : Cx) : Nat := G.2.2.1
abbrev cL (G : Cx) : Nat := G.2.2.2.1
abbrev cX (G : Cx) : Nat → Int32 := G.2.2.2.2
abbrev cS (G : Cx) : Nat → Prop := fun q => G.2.2.1 ≤ q
/-- a method: name, bytes, locals, what it returns -/
abbrev MD : Type := MethodName × ByteArray × Nat × Option FieldType
def tysOf (G : Cx) : List (ClassId × FieldType) := [(cA G 0, .int), (cA G 1, .long), (cA G 2, .float), (cA G 3, .byte), (cA G 4, .array .int), (cA G 5, .array .long), (cA G 6, .object "FilterPile$Light")]
def gw : List Cond := lw_tbl.filter goodWord
def isNw : Cond → Bool
  | .methodLinkNest .. => true
  | _ => false
def nw : List Cond := lw_tbl.filter isNw
def kaT : Nat → Int32 := fun j => ([-1, 0, 1, 2, 0, 4, 1] : List Int32).getD j 0
def ltB : List Int32 := [103, 121, 115, 112, 119, 114, 102]
def Ro (G : Cx) (ad : Nat → Nat) (U : State) (H : Heap) : Prop :=
  va_T .int (ad 1000) (cL G) (fun j => .int (cX G j)) (cS G) U H ∧
  va_T .int (ad 1001) 7 (fun j => .int (kaT j)) (cS G) U H ∧
  va_Z "FilterPile" "KIND_ABOVE" "[I" (.ref (ad 1001)) (cS G) U H ∧
  vk_R "FilterPile$Reader" 49 "gyspwrf" (ad 1002) U ∧
  vk_R "FilterPile" 444 "gyspwrf" (ad 1002) U ∧
  vk_S 1 [7] [ltB] (fun _ => ad 1002) (fun _ => ad 1003) (cS G) U H ∧
  va_T .byte (ad 1004) 100 (fun j => .int (nI (48 + j % 10))) (cS G) U H ∧
  va_Z "java/lang/Integer" "DigitOnes" "[B" (.ref (ad 1004)) (cS G) U H ∧
  va_T .byte (ad 1005) 100 (fun j => .int (nI (48 + j / 10))) (cS G) U H ∧
  va_Z "java/lang/Integer" "DigitTens" "[B" (.ref (ad 1005)) (cS G) U H ∧
  va_Z "java/lang/String" "COMPACT_STRINGS" "Z" (.int 1) (cS G) U H ∧
  (va_Z "jdk/internal/util/Preconditions" "SIOOBE_FORMATTER" "Ljava/util/function/BiFunction;" .null (cS G) U H ∨ va_Z "jdk/internal/util/Preconditions" "SIOOBE_FORMATTER" "Ljava/util/function/BiFunction;" (.ref (ad 1006)) (cS G) U H)
theorem Ro.same {G : Cx} {ad : Nat → Nat} {u U : State} {H : Heap} (hv : U.vm = u.vm) (h : Ro G ad u H) : Ro G ad U H := by
  have ha : u.vm.Alike U.vm := by rw [hv]; exact Vm.Alike.refl u.vm
  obtain ⟨h0, h1, h2, h3, h4, h5, h6, h7, h8, h9, h10, h11⟩ := h
  exact ⟨h0.moved ha, h1.moved ha, h2.moved ha, vk_R.same hv h3, vk_R.same hv h4, h5.moved ha, h6.moved ha, h7.moved ha, h8.moved ha, h9.moved ha, h10.moved ha, h11.imp (fun h => h.moved ha) (fun h => h.moved ha)⟩
theorem Ro.warm {G : Cx} {ad : Nat → Nat} {u U : State} {H : Heap} (hW : u.WarmedH U.vm) (h : Ro G ad u H) : Ro G ad U H := by
  have ha := hW.alike
  obtain ⟨h0, h1, h2, h3, h4, h5, h6, h7, h8, h9, h10, h11⟩ := h
  exact ⟨h0.moved ha, h1.moved ha, h2.moved ha, vk_R.warm hW h3, vk_R.warm hW h4, h5.moved ha, h6.moved ha, h7.moved ha, h8.moved ha, h9.moved ha, h10.moved ha, h11.imp (fun h => h.moved ha) (fun h => h.moved ha)⟩
theorem Ro.kept {G : Cx} {ad : Nat → Nat} {U : State} {H H1 : Heap} (h : Ro G ad U H) (hq : ∀ a : Nat, a < H.size → ¬ cS G a → H1[a]? = H[a]?) : Ro G ad U H1 := by
  obtain ⟨h0, h1, h2, h3, h4, h5, h6, h7, h8, h9, h10, h11⟩ := h
  exact ⟨h0.kept hq, h1.kept hq, h2.kept hq, h3, h4, h5.kept hq, h6.kept hq, h7.kept hq, h8.kept hq, h9.kept hq, h10.kept hq, h11.imp (fun h => h.kept hq) (fun h => h.kept hq)⟩
theorem Ro.ad {G : Cx} {ad ad' : Nat → Nat} {U : State} {H : Heap} (h : Ro G ad U H) (he : ∀ k, 1000 ≤ k → ad' k = ad k) : Ro G ad' U H := by
  unfold Ro at h ⊢
  rw [he 1000 (by omega), he 1001 (by omega), he 1002 (by omega), he 1003 (by omega), he 1004 (by omega), he 1005 (by omega), he 1006 (by omega)]
  exact h
def Tb (G : Cx) (U : State) : Prop := (∀ w ∈ nw, va_Nw w U) ∧ va_K (cD G) vwCl (tysOf G) U
theorem nw_nest {w : Cond} (h : w ∈ nw) : ∃ a i x k, w = .methodLinkNest a i x k := by
  have h1 := (List.mem_filter.mp h).2
  cases w <;> first | exact ⟨_, _, _, _, rfl⟩ | cases h1
theorem Tb.same {G : Cx} {u U : State} (hv : U.vm = u.vm) (h : Tb G u) : Tb G U := by
  refine ⟨fun w hw => ?_, h.2.moved (by rw [hv]; exact Vm.Alike.refl u.vm)⟩
  obtain ⟨a, i, x, k, rfl⟩ := nw_nest hw
  exact va_Nw.same rfl hv.symm (h.1 _ hw)
theorem Tb.warm {G : Cx} {u U : State} (hW : u.WarmedH U.vm) (h : Tb G u) : Tb G U := by
  refine ⟨fun w hw => ?_, h.2.moved hW.alike⟩
  obtain ⟨a, i, x, k, rfl⟩ := nw_nest hw
  exact va_Nw.warmM hW (h.1 _ hw)
def xv (ad : Nat → Nat) (v : Value) : Value := match v with
  | .ref k => .ref (ad k)
  | u => u
def xa (ad : Nat → Nat) (a : vp_A) : vp_A := match a with
  | (n, .inr (.inr (.inr (.inr f)))) => (n, .inr (.inr (.inr (.inr (fun j => (f j).map ad)))))
  | b => b
def xe (G : Cx) (ad : Nat → Nat) (e : va_E) : va_E := match e with
  | .inl (k, a) => .inl (cA G k, xa ad a)
  | .inr (c, fs) => .inr (c, fs.map (xv ad))
def okk (μ : Hp) (k : Nat) : Prop := μ k ≠ none ∨ 1000 ≤ k
def okv (μ : Hp) (v : Value) : Prop := ∀ k, v = .ref k → okk μ k
def oke (μ : Hp) (e : va_E) : Prop := match e with
  | .inl (_, (_, .inr (.inr (.inr (.inr f))))) => ∀ j k, f j = some k → okk μ k
  | .inl _ => True
  | .inr (_, fs) => ∀ v ∈ fs, okv μ v
def Ag (μ : Hp) (ad ad' : Nat → Nat) : Prop := ∀ k, okk μ k → ad' k = ad k
def Sb (μ μ' : Hp) : Prop := ∀ k, μ k ≠ none → μ' k ≠ none
theorem Sb.okk {μ μ' : Hp} (h : Sb μ μ') {k : Nat} (hk : okk μ k) : okk μ' k := hk.imp (h k) id
theorem Sb.okv {μ μ' : Hp} (h : Sb μ μ') {v : Value} (hv : okv μ v) : okv μ' v := fun k e => h.okk (hv k e)
theorem Sb.oke {μ μ' : Hp} (h : Sb μ μ') {e : va_E} (he : oke μ e) : oke μ' e := by
  match e, he with
  | .inl (_, (_, .inr (.inr (.inr (.inr f))))), he => exact fun j k q => h.okk (he j k q)
  | .inl (_, (_, .inl f)), _ => trivial
  | .inl (_, (_, .inr (.inl f))), _ => trivial
  | .inl (_, (_, .inr (.inr (.inl f)))), _ => trivial
  | .inl (_, (_, .inr (.inr (.inr (.inl f))))), _ => trivial
  | .inr (_, fs), he => exact fun v hv => h.okv (he v hv)
theorem Ag.refl {μ : Hp} {ad : Nat → Nat} : Ag μ ad ad := fun _ _ => rfl
theorem Ag.trans {μ μ' : Hp} {a b c : Nat → Nat} (h1 : Ag μ a b) (hs : Sb μ μ') (h2 : Ag μ' b c) : Ag μ a c := fun k hk => (h2 k (hs.okk hk)).trans (h1 k hk)
theorem Sb.trans {μ μ' μ2 : Hp} (h1 : Sb μ μ') (h2 : Sb μ' μ2) : Sb μ μ2 := fun k h => h2 k (h1 k h)
theorem xv_ag {μ : Hp} {ad ad' : Nat → Nat} {v : Value} (hv : okv μ v) (h : Ag μ ad ad') : xv ad' v = xv ad v := by
  cases v <;> first | rfl | exact congrArg Value.ref (h _ (hv _ rfl))
theorem xvs_ag {μ : Hp} {ad ad' : Nat → Nat} {l : List Value} (hv : ∀ v ∈ l, okv μ v) (h : Ag μ ad ad') : l.map (xv ad') = l.map (xv ad) := List.map_congr_left fun v m => xv_ag (hv v m) h
theorem xe_ag {G : Cx} {μ : Hp} {ad ad' : Nat → Nat} {e : va_E} (he : oke μ e) (h : Ag μ ad ad') : xe G ad' e = xe G ad e := by
  match e, he with
  | .inl (c, (n, .inr (.inr (.inr (.inr f))))), he =>
    have : (fun j => (f j).map ad') = (fun j => (f j).map ad) := by
      funext j
      cases hf : f j with
      | none => rfl
      | some k => exact congrArg some (h k (he j k hf))
    show Sum.inl (cA G c, n, _) = Sum.inl (cA G c, n, _)
    rw [this]
  | .inl (_, (_, .inl f)), _ => rfl
  | .inl (_, (_, .inr (.inl f))), _ => rfl
  | .inl (_, (_, .inr (.inr (.inl f)))), _ => rfl
  | .inl (_, (_, .inr (.inr (.inr (.inl f))))), _ => rfl
  | .inr (c, fs), he =>
    show Sum.inr (c, fs.map (xv ad')) = Sum.inr (c, fs.map (xv ad))
    rw [xvs_ag he h]
def up (μ : Hp) (i : Nat) (e : va_E) : Hp := fun j => if j = i then some e else μ j
theorem up_s (μ : Hp) (i : Nat) (e : va_E) : up μ i e i = some e := if_pos rfl
theorem up_n {μ : Hp} {i j : Nat} {e : va_E} {x : Option va_E} (h : j ≠ i) (hx : μ j = x) : up μ i e j = x := (if_neg h).trans hx
theorem up_up (μ : Hp) (i : Nat) (e e' : va_E) : up (up μ i e) i e' = up μ i e' := by
  funext j
  by_cases h : j = i <;> simp [up, h]
theorem up_comm (μ : Hp) {i j : Nat} (h : i ≠ j) (e e' : va_E) : up (up μ i e) j e' = up (up μ j e') i e := by
  funext k
  by_cases h1 : k = i
  · subst h1; simp [up, h]
  · by_cases h2 : k = j
    · subst h2; simp [up, h1]
    · simp [up, h1, h2]
theorem up_id {μ : Hp} {i : Nat} {e : va_E} (h : μ i = some e) : up μ i e = μ := by
  funext j
  by_cases hj : j = i
  · subst hj; rw [up_s, h]
  · exact if_neg hj
theorem up_sb (μ : Hp) (i : Nat) (e : va_E) : Sb μ (up μ i e) := fun k h => by
  by_cases hk : k = i
  · subst hk; rw [up_s]; exact fun z => by cases z
  · rw [show up μ i e k = μ k from if_neg hk]; exact h
/-- the world: the heap holds the cells -/
def Wd (G : Cx) (ad : Nat → Nat) (μ : Hp) (H : Heap) : Prop := cB G ≤ H.size ∧ (∀ i e, μ i = some e → va_at (cD G) vwCl (ad i, xe G ad e) H ∧ oke μ e ∧ cB G ≤ ad i ∧ i < 1000) ∧ ∀ i j, μ i ≠ none → μ j ≠ none → ad i = ad j → i = j
theorem Wd.put {G : Cx} {ad : Nat → Nat} {μ : Hp} {H H1 : Heap} {i : Nat} {e0 e : va_E} (h : Wd G ad μ H) (hi : μ i = some e0) (hz : H1.size = H.size) (hat : va_at (cD G) vwCl (ad i, xe G ad e) H1) (oq : ∀ q : Nat, q ≠ ad i → H1[q]? = H[q]?) (hok : oke μ e) : Wd G ad (up μ i e) H1 := by
  have hn : μ i ≠ none := by rw [hi]; exact fun z => by cases z
  have hd : ∀ k, up μ i e k ≠ none → μ k ≠ none := fun k hk => by
    by_cases hki : k = i
    · subst hki; exact hn
    · rw [show up μ i e k = μ k from if_neg hki] at hk; exact hk
  refine ⟨by rw [hz]; exact h.1, fun k e1 hk => ?_, fun a b ha hb => h.2.2 a b (hd a ha) (hd b hb)⟩
  by_cases hki : k = i
  · subst hki
    rw [up_s] at hk
    cases hk
    exact ⟨hat, (up_sb μ k e).oke hok, (h.2.1 k e0 hi).2.2⟩
  · rw [show up μ i e k = μ k from if_neg hki] at hk
    obtain ⟨h1, h2, h3⟩ := h.2.1 k e1 hk
    refine ⟨h1.kept (oq _ fun z => hki (h.2.2 k i (by rw [hk]; exact fun z => by cases z) hn z)), (up_sb μ i e).oke h2, h3⟩
theorem Wd.new {G : Cx} {ad : Nat → Nat} {μ : Hp} {H H1 : Heap} {i : Nat} {e : va_E} (h : Wd G ad μ H) (hi : μ i = none) (hl : i < 1000) (hz : H.size ≤ H1.size) (hat : va_at (cD G) vwCl (H.size, xe G ad e) H1) (oq : ∀ q : Nat, q < H.size → H1[q]? = H[q]?) (hok : oke μ e) :
    ∃ ad', ad' i = H.size ∧ Ag μ ad ad' ∧ Wd G ad' (up μ i e) H1 := by
  have hnk : ¬ okk μ i := fun z => by rcases z with z | z; exact z hi; omega
  have hag : Ag μ ad (fun k => if k = i then H.size else ad k) := fun k hk => by
    show (if k = i then H.size else ad k) = ad k
    exact if_neg (fun q => hnk (by rw [← q]; exact hk))
  have lt : ∀ k e1, μ k = some e1 → ad k < H.size := fun k e1 hk => (h.2.1 k e1 hk).1.lt
  refine ⟨fun k => if k = i then H.size else ad k, if_pos rfl, hag, Nat.le_trans h.1 hz, fun k e1 hk => ?_, fun a b ha hb hab => ?_⟩
  · by_cases hki : k = i
    · subst hki
      rw [up_s] at hk
      cases hk
      refine ⟨?_, (up_sb μ k e).oke hok, ?_, hl⟩
      · rw [xe_ag hok hag]
        show va_at (cD G) vwCl ((if k = k then H.size else ad k), xe G ad e) H1
        rw [if_pos rfl]
        exact hat
      · show cB G ≤ (if k = k then H.size else ad k)
        rw [if_pos rfl]
        exact h.1
    · rw [show up μ i e k = μ k from if_neg hki] at hk
      obtain ⟨h1, h2, h3⟩ := h.2.1 k e1 hk
      refine ⟨?_, (up_sb μ i e).oke h2, ?_⟩
      · rw [xe_ag h2 hag]
        show va_at (cD G) vwCl ((if k = i then H.size else ad k), xe G ad e1) H1
        rw [if_neg hki]
        exact h1.kept (oq _ (lt k e1 hk))
      · show cB G ≤ (if k = i then H.size else ad k) ∧ _
        rw [if_neg hki]
        exact h3
  · have hab : (if a = i then H.size else ad a) = (if b = i then H.size else ad b) := hab
    by_cases hai : a = i <;> by_cases hbi : b = i
    · rw [hai, hbi]
    · rw [if_pos hai, if_neg hbi] at hab
      rw [show up μ i e b = μ b from if_neg hbi] at hb
      cases hmb : μ b with
      | none => exact absurd hmb hb
      | some eb => have := lt b eb hmb; omega
    · rw [if_neg hai, if_pos hbi] at hab
      rw [show up μ i e a = μ a from if_neg hai] at ha
      cases hma : μ a with
      | none => exact absurd hma ha
      | some ea => have := lt a ea hma; omega
    · rw [if_neg hai, if_neg hbi] at hab
      rw [show up μ i e a = μ a from if_neg hai] at ha
      rw [show up μ i e b = μ b from if_neg hbi] at hb
      exact h.2.2 a b ha hb hab
theorem Wd.mut {G : Cx} {ad : Nat → Nat} {μ : Hp} {H : Heap} (h : Wd G ad μ H) {i : Nat} {e : va_E} (hi : μ i = some e) : va_at (cD G) vwCl (ad i, xe G ad e) H := (h.2.1 i e hi).1
/-! ===== the judgement ===== -/
def Fr (G : Cx) (M : MD) (d : Nat) (p : Program) (R : Room) (s : State) (m : MethodId) (args : Array Value) (meth : Method) (c : Code) : Prop :=
  p.tables.exec = Jvm.exec ∧ c.code = M.2.1 ∧ c.maxLocals = M.2.2.1 ∧ meth.sig.returnType = M.2.2.2 ∧ s.vm.findClass M.1.cls = some m.cls ∧ meth.locks = false ∧ meth.name = M.1.name ∧ (∀ w ∈ gw, w.before args s = true) ∧ Tb G s ∧ d ≤ R.frames ∧ 60 * d ≤ R.locals
def xl (ad : Nat → Nat) (ls : List (Nat × Value)) : List (Nat × Value) := ls.map (fun q => (q.1, xv ad q.2))
def okl (μ : Hp) (ls : List (Nat × Value)) : Prop := ∀ q ∈ ls, okv μ q.2
def oks (μ : Hp) (st : List Value) : Prop := ∀ v ∈ st, okv μ v
/-- an instruction that returns r -/
def RetAt (M : MD) (pc : Nat) (r : Option Value) : Prop := match r with
  | none => decode M.2.1 pc = .ok (.return_, 1) ∧ M.2.2.2 = none
  | some (.int v) => decode M.2.1 pc = .ok (.ireturn, 1) ∧ ∃ t, M.2.2.2 = some t ∧ narrow t (.int v) = .int v
  | some (.long _) => decode M.2.1 pc = .ok (.lreturn, 1) ∧ M.2.2.2 = some .long
  | some (.float _) => decode M.2.1 pc = .ok (.freturn, 1) ∧ M.2.2.2 = some .float
  | some (.double _) => decode M.2.1 pc = .ok (.dreturn, 1) ∧ M.2.2.2 = some .double
  | some (.retAddr _) => False
  | some _ => decode M.2.1 pc = .ok (.areturn, 1) ∧ ∃ t, M.2.2.2 = some t ∧ ((∃ n, t = .object n) ∨ ∃ u, t = .array u)
def En (G : Cx) (M : MD) (p : Program) (l : Launch) (e : Env) (R : Room) (s : State) (m : MethodId) (args : Array Value) (below : List Frame) (meth : Method) (c : Code) (Q : State → Prop) (ad : Nat → Nat) (μ : Hp) (kc ks : Nat) (P : Option Value → Hp → Prop) : Prop :=
  ∀ (r : Option Value) (μ' : Hp) (ad' : Nat → Nat) (H' : Heap) (locs' : List Loc) (cells' slots' pc' : Nat) (sl : Array Slot), P r μ' → Wd G ad' μ' H' → Ag μ ad ad' → Sb μ μ' → (∀ v, r = some v → okv μ' v) → va_S (cS G) s.heap H' locs' → cells' ≤ kc → slots' ≤ ks → RetAt M pc' r →
    W p l e R s m args below meth c H' locs' cells' slots' Q (F0 m pc' sl (r.map (xv ad')).toList)
theorem En.to {G : Cx} {M : MD} {p : Program} {l : Launch} {e : Env} {R : Room} {s : State} {m : MethodId} {args : Array Value} {below : List Frame} {meth : Method} {c : Code} {Q : State → Prop} {ad ad1 : Nat → Nat} {μ μ1 : Hp} {kc ks kc1 ks1 : Nat} {P : Option Value → Hp → Prop}
    (h : En G M p l e R s m args below meth c Q ad μ kc ks P) (ha : Ag μ ad ad1) (hs : Sb μ μ1) (h1 : kc1 ≤ kc) (h2 : ks1 ≤ ks) : En G M p l e R s m args below meth c Q ad1 μ1 kc1 ks1 P :=
  fun r μ' ad' H' locs' cells' slots' pc' sl q1 q2 q3 q4 q5 q6 q7 q8 q9 => h r μ' ad' H' locs' cells' slots' pc' sl q1 q2 (ha.trans hs q3) (hs.trans q4) q5 q6 (Nat.le_trans q7 h1) (Nat.le_trans q8 h2) q9
/-- from pc, with these locals and this stack over the cells μ, the method comes to a return r, μ' with P; at most mc cells of ms slots are made on the way; calls go at most d deep -/
def V (G : Cx) (M : MD) (d mc ms : Nat) (P : Option Value → Hp → Prop) (pc : Nat) (ls : List (Nat × Value)) (st : List Value) (μ : Hp) : Prop :=
  ∀ (p : Program) (l : Launch) (e : Env) (R : Room) (s : State) (m : MethodId) (args : Array Value) (below : List Frame) (meth : Method) (c : Code) (Q : State → Prop) (ad : Nat → Nat) (H : Heap) (locs : List Loc) (cells slots : Nat) (sl : Array Slot),
    Fr G M d p R s m args meth c → Wd G ad μ H → va_S (cS G) s.heap H locs → Ro G ad s s.heap → okl μ ls → oks μ st → lv_has sl M.2.2.1 (xl ad ls) → cells + mc ≤ R.cells → slots + ms ≤ R.slots → En G M p l e R s m args below meth c Q ad μ (cells + mc) (slots + ms) P →
    W p l e R s m args below meth c H locs cells slots Q (F0 m pc sl (st.map (xv ad)))
/-- one answer, one end -/
def Rt (r : Option Value) (μ' : Hp) : Option Value → Hp → Prop := fun r' μ2 => r' = r ∧ μ2 = μ'
theorem okv_i {μ : Hp} {x : Int32} : okv μ (.int x) := fun k h => by cases h
theorem okv_l {μ : Hp} {x : Int64} : okv μ (.long x) := fun k h => by cases h
theorem okv_f {μ : Hp} {x : UInt32} : okv μ (.float x) := fun k h => by cases h
theorem okv_d {μ : Hp} {x : UInt64} : okv μ (.double x) := fun k h => by cases h
theorem okv_z {μ : Hp} : okv μ .null := fun k h => by cases h
theorem oks_c {μ : Hp} {v : Value} {st : List Value} (h : okv μ v) (hs : oks μ st) : oks μ (v :: st) := fun u hu => by
  rcases List.mem_cons.mp hu with rfl | hu
  · exact h
  · exact hs u hu
theorem oks_t {μ : Hp} {v : Value} {st : List Value} (hs : oks μ (v :: st)) : oks μ st := fun u hu => hs u (List.mem_cons_of_mem _ hu)
theorem oks_h {μ : Hp} {v : Value} {st : List Value} (hs : oks μ (v :: st)) : okv μ v := hs v List.mem_cons_self
theorem xl_at {ad : Nat → Nat} {ls : List (Nat × Value)} {q i : Nat} {v : Value} (h : ls[q]? = some (i, v)) : (xl ad ls)[q]? = some (i, xv ad v) := by
  unfold xl
  rw [List.getElem?_map, h]
  rfl
theorem okl_at {μ : Hp} {ls : List (Nat × Value)} {q i : Nat} {v : Value} (h : okl μ ls) (hq : ls[q]? = some (i, v)) : okv μ v := h (i, v) (List.mem_of_getElem? hq)
theorem xv_cat (ad : Nat → Nat) (v : Value) : (xv ad v).category = v.category := by cases v <;> rfl
def st1 (i : Nat) (v : Value) (ls : List (Nat × Value)) : List (Nat × Value) := (i, v) :: ls.filter (fun q => !(q.1 == i) && !(q.1 + 1 == i && q.2.category == 2))
def st2 (i : Nat) (v : Value) (ls : List (Nat × Value)) : List (Nat × Value) := (i, v) :: ls.filter (fun q => !(q.1 == i) && (!(q.1 == i + 1) && !(q.1 + 1 == i && q.2.category == 2)))
theorem xl_st1 (ad : Nat → Nat) (i : Nat) (v : Value) (ls : List (Nat × Value)) : (i, xv ad v) :: (xl ad ls).filter (fun q => !(q.1 == i) && !(q.1 + 1 == i && q.2.category == 2)) = xl ad (st1 i v ls) := by
  unfold xl st1
  rw [List.map_cons, List.filter_map]
  congr 3
  funext q
  show _ = _
  simp [xv_cat]
theorem xl_st2 (ad : Nat → Nat) (i : Nat) (v : Value) (ls : List (Nat × Value)) : (i, xv ad v) :: (xl ad ls).filter (fun q => !(q.1 == i) && (!(q.1 == i + 1) && !(q.1 + 1 == i && q.2.category == 2))) = xl ad (st2 i v ls) := by
  unfold xl st2
  rw [List.map_cons, List.filter_map]
  congr 3
  funext q
  show _ = _
  simp [xv_cat]
theorem okl_st1 {μ : Hp} {i : Nat} {v : Value} {ls : List (Nat × Value)} (h : okl μ ls) (hv : okv μ v) : okl μ (st1 i v ls) := fun q hq => by
  rcases List.mem_cons.mp hq with rfl | hq
  · exact hv
  · exact h q (List.mem_filter.mp hq).1
theorem okl_st2 {μ : Hp} {i : Nat} {v : Value} {ls : List (Nat × Value)} (h : okl μ ls) (hv : okv μ v) : okl μ (st2 i v ls) := fun q hq => by
  rcases List.mem_cons.mp hq with rfl | hq
  · exact hv
  · exact h q (List.mem_filter.mp hq).1
section VROWS
variable {G : Cx} {M : MD} {d mc ms : Nat} {P : Option Value → Hp → Prop} {pc : Nat} {ls : List (Nat × Value)} {st : List Value} {μ : Hp}
theorem V.to {pc' : Nat} {s0 s1 : List Value} (k : V G M d mc ms P pc' ls s1 μ) (hok : oks μ s0 → oks μ s1)
    (hw : ∀ {p : Program} {l : Launch} {e : Env} {R : Room} {s : State} {m : MethodId} {args : Array Value} {below : List Frame} {meth : Method} {c : Code} {Q : State → Prop} {ad : Nat → Nat} {H : Heap} {locs : List Loc} {cells slots : Nat} {sl : Array Slot}, Fr G M d p R s m args meth c → Wd G ad μ H → va_S (cS G) s.heap H locs → Ro G ad s s.heap → lv_has sl M.2.2.1 (xl ad ls) →
      W p l e R s m args below meth c H locs cells slots Q (F0 m pc' sl (s1.map (xv ad))) → W p l e R s m args below meth c H locs cells slots Q (F0 m pc sl (s0.map (xv ad)))) : V G M d mc ms P pc ls s0 μ :=
  fun p l e R s m args below meth c Q ad H locs cells slots sl F hW hS hR hl hs hsl h1 h2 hE => hw F hW hS hR hsl (k p l e R s m args below meth c Q ad H locs cells slots sl F hW hS hR hl (hok hs) hsl h1 h2 hE)
theorem V.ifs {pa pb : Nat} {s0 s1 : List Value} {C : Prop} (ka : C → V G M d mc ms P pa ls s1 μ) (kb : ¬ C → V G M d mc ms P pb ls s1 μ) (hok : oks μ s0 → oks μ s1)
    (hw : ∀ {p : Program} {l : Launch} {e : Env} {R : Room} {s : State} {m : MethodId} {args : Array Value} {below : List Frame} {meth : Method} {c : Code} {Q : State → Prop} {ad : Nat → Nat} {H : Heap} {locs : List Loc} {cells slots : Nat} {sl : Array Slot}, Fr G M d p R s m args meth c →
      (C → W p l e R s m args below meth c H locs cells slots Q (F0 m pa sl (s1.map (xv ad)))) → (¬ C → W p l e R s m args below meth c H locs cells slots Q (F0 m pb sl (s1.map (xv ad)))) → W p l e R s m args below meth c H locs cells slots Q (F0 m pc sl (s0.map (xv ad)))) : V G M d mc ms P pc ls s0 μ :=
  fun p l e R s m args below meth c Q ad H locs cells slots sl F hW hS hR hl hs hsl h1 h2 hE => hw F (fun z => ka z p l e R s m args below meth c Q ad H locs cells slots sl F hW hS hR hl (hok hs) hsl h1 h2 hE) (fun z => kb z p l e R s m args below meth c Q ad H locs cells slots sl F hW hS hR hl (hok hs) hsl h1 h2 hE)
theorem v_ls {ls' : List (Nat × Value)} (h : ls = ls') (k : V G M d mc ms P pc ls' st μ) : V G M d mc ms P pc ls st μ := h ▸ k
theorem v_hp {μ' : Hp} (h : μ = μ') (k : V G M d mc ms P pc ls st μ') : V G M d mc ms P pc ls st μ := h ▸ k
theorem v_st {st' : List Value} (h : st = st') (k : V G M d mc ms P pc ls st' μ) : V G M d mc ms P pc ls st μ := h ▸ k
theorem v_post {P' : Option Value → Hp → Prop} (k : V G M d mc ms P' pc ls st μ) (h : ∀ r μ', P' r μ' → P r μ') : V G M d mc ms P pc ls st μ :=
  fun p l e R s m args below meth c Q ad H locs cells slots sl F hW hS hR hl hs hsl h1 h2 hE => k p l e R s m args below meth c Q ad H locs cells slots sl F hW hS hR hl hs hsl h1 h2 (fun r μ' ad' H' locs' cells' slots' pc' sl q1 => hE r μ' ad' H' locs' cells' slots' pc' sl (h r μ' q1))
theorem v_less {mc' ms' : Nat} (hc : mc' ≤ mc) (hs9 : ms' ≤ ms) (k : V G M d mc' ms' P pc ls st μ) : V G M d mc ms P pc ls st μ :=
  fun p l e R s m args below meth c Q ad H locs cells slots sl F hW hS hR hl hs hsl h1 h2 hE => k p l e R s m args below meth c Q ad H locs cells slots sl F hW hS hR hl hs hsl (by omega) (by omega) (hE.to Ag.refl (fun _ z => z) (by omega) (by omega))
/-- fewer listed locals -/
theorem v_pick (ks : List Nat) {ls' : List (Nat × Value)} (h : lv_pick ls ks = ls') (k : V G M d mc ms P pc ls' st μ) : V G M d mc ms P pc ls st μ := by
  subst h
  intro p l e R s m args below meth c Q ad H locs cells slots sl F hW hS hR hl hs hsl h1 h2 hE
  refine k p l e R s m args below meth c Q ad H locs cells slots sl F hW hS hR (fun q hq => ?_) hs ⟨hsl.1, hsl.2.1, fun q hq => ?_⟩ h1 h2 hE
  · obtain ⟨i, -, hi⟩ := List.mem_filterMap.mp hq
    exact hl q (List.mem_of_getElem? hi)
  · obtain ⟨q', hq', rfl⟩ := List.mem_map.mp hq
    obtain ⟨i, -, hi⟩ := List.mem_filterMap.mp hq'
    exact hsl.2.2 _ (List.mem_map.mpr ⟨q', List.mem_of_getElem? hi, rfl⟩)
/-- a name for the top of the stack -/
theorem v_topi {x : Int32} (k : ∀ y : Int32, y = x → V G M d mc ms P pc ls (.int y :: st) μ) : V G M d mc ms P pc ls (.int x :: st) μ := k x rfl
theorem v_topl {x : Int64} (k : ∀ y : Int64, y = x → V G M d mc ms P pc ls (.long y :: st) μ) : V G M d mc ms P pc ls (.long x :: st) μ := k x rfl

theorem v_iconst {n : Int} {v : Int32} (hd : decode M.2.1 pc = .ok (.iconst n, 1)) (hv : Int32.ofInt n = v) (k : V G M d mc ms P (pc + 1) ls (.int v :: st) μ) : V G M d mc ms P (pc) ls (st) μ :=
  V.to k (fun h => oks_c okv_i (h)) (fun F _ _ _ hsl w => lv_iconst F.1 F.2.1 hd hv w)
theorem v_bipush {n : Int} {v : Int32} (hd : decode M.2.1 pc = .ok (.bipush n, 2)) (hv : (Int8.ofInt n).toInt32 = v) (k : V G M d mc ms P (pc + 2) ls (.int v :: st) μ) : V G M d mc ms P (pc) ls (st) μ :=
  V.to k (fun h => oks_c okv_i (h)) (fun F _ _ _ hsl w => lv_bipush F.1 F.2.1 hd hv w)
theorem v_sipush {n : Int} {v : Int32} (hd : decode M.2.1 pc = .ok (.sipush n, 3)) (hv : (Int16.ofInt n).toInt32 = v) (k : V G M d mc ms P (pc + 3) ls (.int v :: st) μ) : V G M d mc ms P (pc) ls (st) μ :=
  V.to k (fun h => oks_c okv_i (h)) (fun F _ _ _ hsl w => lv_sipush F.1 F.2.1 hd hv w)
theorem v_lconst {n : Fin 2} {v : Int64} (hd : decode M.2.1 pc = .ok (.lconst n, 1)) (hv : Int64.ofNat (n : Nat) = v) (k : V G M d mc ms P (pc + 1) ls (.long v :: st) μ) : V G M d mc ms P (pc) ls (st) μ :=
  V.to k (fun h => oks_c okv_l (h)) (fun F _ _ _ hsl w => lv_lconst F.1 F.2.1 hd hv w)
theorem v_null  (hd : decode M.2.1 pc = .ok (.aconst_null, 1)) (k : V G M d mc ms P (pc + 1) ls (.null :: st) μ) : V G M d mc ms P (pc) ls (st) μ :=
  V.to k (fun h => oks_c okv_z (h)) (fun F _ _ _ hsl w => lv_null F.1 F.2.1 hd w)
theorem v_fconst0  (hd : decode M.2.1 pc = .ok (.fconst 0, 1)) (k : V G M d mc ms P (pc + 1) ls (.float FP.fconst0 :: st) μ) : V G M d mc ms P (pc) ls (st) μ :=
  V.to k (fun h => oks_c okv_f (h)) (fun F _ _ _ hsl w => lv_fconst0 F.1 F.2.1 hd w)
theorem v_dconst0  (hd : decode M.2.1 pc = .ok (.dconst 0, 1)) (k : V G M d mc ms P (pc + 1) ls (.double FP.dconst0 :: st) μ) : V G M d mc ms P (pc) ls (st) μ :=
  V.to k (fun h => oks_c okv_d (h)) (fun F _ _ _ hsl w => lv_dconst0 F.1 F.2.1 hd w)
theorem v_dconst1  (hd : decode M.2.1 pc = .ok (.dconst 1, 1)) (k : V G M d mc ms P (pc + 1) ls (.double FP.dconst1 :: st) μ) : V G M d mc ms P (pc) ls (st) μ :=
  V.to k (fun h => oks_c okv_d (h)) (fun F _ _ _ hsl w => lv_dconst1 F.1 F.2.1 hd w)
theorem v_iload_n {j : Fin 4} {i : Nat} {x : Int32} (q : Nat) (hd : decode M.2.1 pc = .ok (.iload_n j, 1)) (hi : (j : Nat) = i) (hq : ls[q]? = some (i, .int x)) (k : V G M d mc ms P (pc + 1) ls (.int x :: st) μ) : V G M d mc ms P (pc) ls (st) μ :=
  V.to k (fun h => oks_c okv_i h) (fun F _ _ _ hsl w => lv_iload_n F.1 F.2.1 hd hi (lv_at hsl q (xl_at hq)) w)
theorem v_iload {i : Nat} {x : Int32} (q : Nat) (hd : decode M.2.1 pc = .ok (.iload i, 2)) (hq : ls[q]? = some (i, .int x)) (k : V G M d mc ms P (pc + 2) ls (.int x :: st) μ) : V G M d mc ms P (pc) ls (st) μ :=
  V.to k (fun h => oks_c okv_i h) (fun F _ _ _ hsl w => lv_iload F.1 F.2.1 hd (lv_at hsl q (xl_at hq)) w)
theorem v_lload_n {j : Fin 4} {i : Nat} {x : Int64} (q : Nat) (hd : decode M.2.1 pc = .ok (.lload_n j, 1)) (hi : (j : Nat) = i) (hq : ls[q]? = some (i, .long x)) (k : V G M d mc ms P (pc + 1) ls (.long x :: st) μ) : V G M d mc ms P (pc) ls (st) μ :=
  V.to k (fun h => oks_c okv_l h) (fun F _ _ _ hsl w => lv_lload_n F.1 F.2.1 hd hi (lv_at hsl q (xl_at hq)) w)
theorem v_lload {i : Nat} {x : Int64} (q : Nat) (hd : decode M.2.1 pc = .ok (.lload i, 2)) (hq : ls[q]? = some (i, .long x)) (k : V G M d mc ms P (pc + 2) ls (.long x :: st) μ) : V G M d mc ms P (pc) ls (st) μ :=
  V.to k (fun h => oks_c okv_l h) (fun F _ _ _ hsl w => lv_lload F.1 F.2.1 hd (lv_at hsl q (xl_at hq)) w)
theorem v_fload_n {j : Fin 4} {i : Nat} {x : UInt32} (q : Nat) (hd : decode M.2.1 pc = .ok (.fload_n j, 1)) (hi : (j : Nat) = i) (hq : ls[q]? = some (i, .float x)) (k : V G M d mc ms P (pc + 1) ls (.float x :: st) μ) : V G M d mc ms P (pc) ls (st) μ :=
  V.to k (fun h => oks_c okv_f h) (fun F _ _ _ hsl w => lv_fload_n F.1 F.2.1 hd hi (lv_at hsl q (xl_at hq)) w)
theorem v_fload {i : Nat} {x : UInt32} (q : Nat) (hd : decode M.2.1 pc = .ok (.fload i, 2)) (hq : ls[q]? = some (i, .float x)) (k : V G M d mc ms P (pc + 2) ls (.float x :: st) μ) : V G M d mc ms P (pc) ls (st) μ :=
  V.to k (fun h => oks_c okv_f h) (fun F _ _ _ hsl w => lv_fload F.1 F.2.1 hd (lv_at hsl q (xl_at hq)) w)
theorem v_dload_n {j : Fin 4} {i : Nat} {x : UInt64} (q : Nat) (hd : decode M.2.1 pc = .ok (.dload_n j, 1)) (hi : (j : Nat) = i) (hq : ls[q]? = some (i, .double x)) (k : V G M d mc ms P (pc + 1) ls (.double x :: st) μ) : V G M d mc ms P (pc) ls (st) μ :=
  V.to k (fun h => oks_c okv_d h) (fun F _ _ _ hsl w => lv_dload_n F.1 F.2.1 hd hi (lv_at hsl q (xl_at hq)) w)
theorem v_dload {i : Nat} {x : UInt64} (q : Nat) (hd : decode M.2.1 pc = .ok (.dload i, 2)) (hq : ls[q]? = some (i, .double x)) (k : V G M d mc ms P (pc + 2) ls (.double x :: st) μ) : V G M d mc ms P (pc) ls (st) μ :=
  V.to k (fun h => oks_c okv_d h) (fun F _ _ _ hsl w => lv_dload F.1 F.2.1 hd (lv_at hsl q (xl_at hq)) w)
theorem v_aload_n {j : Fin 4} {i : Nat} {x : Nat} (q : Nat) (hd : decode M.2.1 pc = .ok (.aload_n j, 1)) (hi : (j : Nat) = i) (hq : ls[q]? = some (i, .ref x)) (k : V G M d mc ms P (pc + 1) ls (.ref x :: st) μ) : V G M d mc ms P (pc) ls (st) μ :=
  fun p l e R s m args below meth c Q ad H locs cells slots sl F hW hS hR hl hs hsl h1 h2 hE => lv_aload_n F.1 F.2.1 hd hi (lv_at hsl q (xl_at hq)) (k p l e R s m args below meth c Q ad H locs cells slots sl F hW hS hR hl (oks_c (okl_at hl hq) hs) hsl h1 h2 hE)
theorem v_aload {i : Nat} {x : Nat} (q : Nat) (hd : decode M.2.1 pc = .ok (.aload i, 2)) (hq : ls[q]? = some (i, .ref x)) (k : V G M d mc ms P (pc + 2) ls (.ref x :: st) μ) : V G M d mc ms P (pc) ls (st) μ :=
  fun p l e R s m args below meth c Q ad H locs cells slots sl F hW hS hR hl hs hsl h1 h2 hE => lv_aload F.1 F.2.1 hd (lv_at hsl q (xl_at hq)) (k p l e R s m args below meth c Q ad H locs cells slots sl F hW hS hR hl (oks_c (okl_at hl hq) hs) hsl h1 h2 hE)
theorem v_istore_n {j : Fin 4} {i : Nat} {x : Int32} (hd : decode M.2.1 pc = .ok (.istore_n j, 1)) (hi : (j : Nat) = i) (hn : i < M.2.2.1) (k : ∀ z : Int32, z = x → V G M d mc ms P (pc + 1) (st1 i (.int z) ls) st μ) : V G M d mc ms P pc ls (.int x :: st) μ :=
  fun p l e R s m args below meth c Q ad H locs cells slots sl F hW hS hR hl hs hsl h1 h2 hE => lv_istore_n F.1 F.2.1 hd hi hsl hn (xl_st1 ad i (.int x) ls) (fun sl' hsl' => k x rfl p l e R s m args below meth c Q ad H locs cells slots sl' F hW hS hR (okl_st1 hl (oks_h hs)) (oks_t hs) hsl' h1 h2 hE)
theorem v_istore {i : Nat} {x : Int32} (hd : decode M.2.1 pc = .ok (.istore i, 2)) (hn : i < M.2.2.1) (k : ∀ z : Int32, z = x → V G M d mc ms P (pc + 2) (st1 i (.int z) ls) st μ) : V G M d mc ms P pc ls (.int x :: st) μ :=
  fun p l e R s m args below meth c Q ad H locs cells slots sl F hW hS hR hl hs hsl h1 h2 hE => lv_istore F.1 F.2.1 hd hsl hn (xl_st1 ad i (.int x) ls) (fun sl' hsl' => k x rfl p l e R s m args below meth c Q ad H locs cells slots sl' F hW hS hR (okl_st1 hl (oks_h hs)) (oks_t hs) hsl' h1 h2 hE)
theorem v_lstore_n {j : Fin 4} {i : Nat} {x : Int64} (hd : decode M.2.1 pc = .ok (.lstore_n j, 1)) (hi : (j : Nat) = i) (hn : i + 1 < M.2.2.1) (k : ∀ z : Int64, z = x → V G M d mc ms P (pc + 1) (st2 i (.long z) ls) st μ) : V G M d mc ms P pc ls (.long x :: st) μ :=
  fun p l e R s m args below meth c Q ad H locs cells slots sl F hW hS hR hl hs hsl h1 h2 hE => lv_lstore_n F.1 F.2.1 hd hi hsl hn (xl_st2 ad i (.long x) ls) (fun sl' hsl' => k x rfl p l e R s m args below meth c Q ad H locs cells slots sl' F hW hS hR (okl_st2 hl (oks_h hs)) (oks_t hs) hsl' h1 h2 hE)
theorem v_lstore {i : Nat} {x : Int64} (hd : decode M.2.1 pc = .ok (.lstore i, 2)) (hn : i + 1 < M.2.2.1) (k : ∀ z : Int64, z = x → V G M d mc ms P (pc + 2) (st2 i (.long z) ls) st μ) : V G M d mc ms P pc ls (.long x :: st) μ :=
  fun p l e R s m args below meth c Q ad H locs cells slots sl F hW hS hR hl hs hsl h1 h2 hE => lv_lstore F.1 F.2.1 hd hsl hn (xl_st2 ad i (.long x) ls) (fun sl' hsl' => k x rfl p l e R s m args below meth c Q ad H locs cells slots sl' F hW hS hR (okl_st2 hl (oks_h hs)) (oks_t hs) hsl' h1 h2 hE)
theorem v_fstore_n {j : Fin 4} {i : Nat} {x : UInt32} (hd : decode M.2.1 pc = .ok (.fstore_n j, 1)) (hi : (j : Nat) = i) (hn : i < M.2.2.1) (k : ∀ z : UInt32, z = x → V G M d mc ms P (pc + 1) (st1 i (.float z) ls) st μ) : V G M d mc ms P pc ls (.float x :: st) μ :=
  fun p l e R s m args below meth c Q ad H locs cells slots sl F hW hS hR hl hs hsl h1 h2 hE => lv_fstore_n F.1 F.2.1 hd hi hsl hn (xl_st1 ad i (.float x) ls) (fun sl' hsl' => k x rfl p l e R s m args below meth c Q ad H locs cells slots sl' F hW hS hR (okl_st1 hl (oks_h hs)) (oks_t hs) hsl' h1 h2 hE)
theorem v_fstore {i : Nat} {x : UInt32} (hd : decode M.2.1 pc = .ok (.fstore i, 2)) (hn : i < M.2.2.1) (k : ∀ z : UInt32, z = x → V G M d mc ms P (pc + 2) (st1 i (.float z) ls) st μ) : V G M d mc ms P pc ls (.float x :: st) μ :=
  fun p l e R s m args below meth c Q ad H locs cells slots sl F hW hS hR hl hs hsl h1 h2 hE => lv_fstore F.1 F.2.1 hd hsl hn (xl_st1 ad i (.float x) ls) (fun sl' hsl' => k x rfl p l e R s m args below meth c Q ad H locs cells slots sl' F hW hS hR (okl_st1 hl (oks_h hs)) (oks_t hs) hsl' h1 h2 hE)
theorem v_dstore_n {j : Fin 4} {i : Nat} {x : UInt64} (hd : decode M.2.1 pc = .ok (.dstore_n j, 1)) (hi : (j : Nat) = i) (hn : i + 1 < M.2.2.1) (k : ∀ z : UInt64, z = x → V G M d mc ms P (pc + 1) (st2 i (.double z) ls) st μ) : V G M d mc ms P pc ls (.double x :: st) μ :=
  fun p l e R s m args below meth c Q ad H locs cells slots sl F hW hS hR hl hs hsl h1 h2 hE => lv_dstore_n F.1 F.2.1 hd hi hsl hn (xl_st2 ad i (.double x) ls) (fun sl' hsl' => k x rfl p l e R s m args below meth c Q ad H locs cells slots sl' F hW hS hR (okl_st2 hl (oks_h hs)) (oks_t hs) hsl' h1 h2 hE)
theorem v_dstore {i : Nat} {x : UInt64} (hd : decode M.2.1 pc = .ok (.dstore i, 2)) (hn : i + 1 < M.2.2.1) (k : ∀ z : UInt64, z = x → V G M d mc ms P (pc + 2) (st2 i (.double z) ls) st μ) : V G M d mc ms P pc ls (.double x :: st) μ :=
  fun p l e R s m args below meth c Q ad H locs cells slots sl F hW hS hR hl hs hsl h1 h2 hE => lv_dstore F.1 F.2.1 hd hsl hn (xl_st2 ad i (.double x) ls) (fun sl' hsl' => k x rfl p l e R s m args below meth c Q ad H locs cells slots sl' F hW hS hR (okl_st2 hl (oks_h hs)) (oks_t hs) hsl' h1 h2 hE)
theorem v_astore_n {j : Fin 4} {i : Nat} {x : Nat} (hd : decode M.2.1 pc = .ok (.astore_n j, 1)) (hi : (j : Nat) = i) (hn : i < M.2.2.1) (k : ∀ z : Nat, z = x → V G M d mc ms P (pc + 1) (st1 i (.ref z) ls) st μ) : V G M d mc ms P pc ls (.ref x :: st) μ :=
  fun p l e R s m args below meth c Q ad H locs cells slots sl F hW hS hR hl hs hsl h1 h2 hE => lv_astore_n F.1 F.2.1 hd hi hsl hn (xl_st1 ad i (.ref x) ls) (fun sl' hsl' => k x rfl p l e R s m args below meth c Q ad H locs cells slots sl' F hW hS hR (okl_st1 hl (oks_h hs)) (oks_t hs) hsl' h1 h2 hE)
theorem v_astore {i : Nat} {x : Nat} (hd : decode M.2.1 pc = .ok (.astore i, 2)) (hn : i < M.2.2.1) (k : ∀ z : Nat, z = x → V G M d mc ms P (pc + 2) (st1 i (.ref z) ls) st μ) : V G M d mc ms P pc ls (.ref x :: st) μ :=
  fun p l e R s m args below meth c Q ad H locs cells slots sl F hW hS hR hl hs hsl h1 h2 hE => lv_astore F.1 F.2.1 hd hsl hn (xl_st1 ad i (.ref x) ls) (fun sl' hsl' => k x rfl p l e R s m args below meth c Q ad H locs cells slots sl' F hW hS hR (okl_st1 hl (oks_h hs)) (oks_t hs) hsl' h1 h2 hE)
theorem v_iinc {i : Nat} {n : Int} {x v : Int32} (q : Nat) (hd : decode M.2.1 pc = .ok (.iinc i n, 3)) (hq : ls[q]? = some (i, .int x)) (hv : Int32.ofInt n = v) (hn : i < M.2.2.1) (k : ∀ z : Int32, z = x + v → V G M d mc ms P (pc + 3) (st1 i (.int z) ls) st μ) : V G M d mc ms P pc ls st μ := by
  subst hv
  exact fun p l e R s m args below meth c Q ad H locs cells slots sl F hW hS hR hl hs hsl h1 h2 hE => lv_iinc F.1 F.2.1 hd hsl (k := q) (xl_at hq) rfl hn (xl_st1 ad i (.int (x + Int32.ofInt n)) ls) (fun sl' hsl' => k _ rfl p l e R s m args below meth c Q ad H locs cells slots sl' F hW hS hR (okl_st1 hl okv_i) hs hsl' h1 h2 hE)
theorem v_iadd {x y : Int32} (hd : decode M.2.1 pc = .ok (.iadd, 1)) (k : V G M d mc ms P (pc + 1) ls (.int (x + y) :: st) μ) : V G M d mc ms P (pc) ls (.int y :: .int x :: st) μ :=
  V.to k (fun h => oks_c okv_i (oks_t (oks_t h))) (fun F _ _ _ hsl w => lv_iadd F.1 F.2.1 hd w)
theorem v_isub {x y : Int32} (hd : decode M.2.1 pc = .ok (.isub, 1)) (k : V G M d mc ms P (pc + 1) ls (.int (x - y) :: st) μ) : V G M d mc ms P (pc) ls (.int y :: .int x :: st) μ :=
  V.to k (fun h => oks_c okv_i (oks_t (oks_t h))) (fun F _ _ _ hsl w => lv_isub F.1 F.2.1 hd w)
theorem v_imul {x y : Int32} (hd : decode M.2.1 pc = .ok (.imul, 1)) (k : V G M d mc ms P (pc + 1) ls (.int (x * y) :: st) μ) : V G M d mc ms P (pc) ls (.int y :: .int x :: st) μ :=
  V.to k (fun h => oks_c okv_i (oks_t (oks_t h))) (fun F _ _ _ hsl w => lv_imul F.1 F.2.1 hd w)
theorem v_iand {x y : Int32} (hd : decode M.2.1 pc = .ok (.iand, 1)) (k : V G M d mc ms P (pc + 1) ls (.int (x &&& y) :: st) μ) : V G M d mc ms P (pc) ls (.int y :: .int x :: st) μ :=
  V.to k (fun h => oks_c okv_i (oks_t (oks_t h))) (fun F _ _ _ hsl w => lv_iand F.1 F.2.1 hd w)
theorem v_ior {x y : Int32} (hd : decode M.2.1 pc = .ok (.ior, 1)) (k : V G M d mc ms P (pc + 1) ls (.int (x ||| y) :: st) μ) : V G M d mc ms P (pc) ls (.int y :: .int x :: st) μ :=
  V.to k (fun h => oks_c okv_i (oks_t (oks_t h))) (fun F _ _ _ hsl w => lv_ior F.1 F.2.1 hd w)
theorem v_ixor {x y : Int32} (hd : decode M.2.1 pc = .ok (.ixor, 1)) (k : V G M d mc ms P (pc + 1) ls (.int (x ^^^ y) :: st) μ) : V G M d mc ms P (pc) ls (.int y :: .int x :: st) μ :=
  V.to k (fun h => oks_c okv_i (oks_t (oks_t h))) (fun F _ _ _ hsl w => lv_ixor F.1 F.2.1 hd w)
theorem v_ishl {x y : Int32} (hd : decode M.2.1 pc = .ok (.ishl, 1)) (k : V G M d mc ms P (pc + 1) ls (.int (x <<< (y &&& 31)) :: st) μ) : V G M d mc ms P (pc) ls (.int y :: .int x :: st) μ :=
  V.to k (fun h => oks_c okv_i (oks_t (oks_t h))) (fun F _ _ _ hsl w => lv_ishl F.1 F.2.1 hd w)
theorem v_ishr {x y : Int32} (hd : decode M.2.1 pc = .ok (.ishr, 1)) (k : V G M d mc ms P (pc + 1) ls (.int (x >>> (y &&& 31)) :: st) μ) : V G M d mc ms P (pc) ls (.int y :: .int x :: st) μ :=
  V.to k (fun h => oks_c okv_i (oks_t (oks_t h))) (fun F _ _ _ hsl w => lv_ishr F.1 F.2.1 hd w)
theorem v_idiv {x y : Int32} (hd : decode M.2.1 pc = .ok (.idiv, 1)) (hne : ¬ y = 0) (k : V G M d mc ms P (pc + 1) ls (.int (x / y) :: st) μ) : V G M d mc ms P (pc) ls (.int y :: .int x :: st) μ :=
  V.to k (fun h => oks_c okv_i (oks_t (oks_t h))) (fun F _ _ _ hsl w => lv_idiv F.1 F.2.1 hd hne w)
theorem v_irem {x y : Int32} (hd : decode M.2.1 pc = .ok (.irem, 1)) (hne : ¬ y = 0) (k : V G M d mc ms P (pc + 1) ls (.int (x - x / y * y) :: st) μ) : V G M d mc ms P (pc) ls (.int y :: .int x :: st) μ :=
  V.to k (fun h => oks_c okv_i (oks_t (oks_t h))) (fun F _ _ _ hsl w => lv_irem F.1 F.2.1 hd hne w)
theorem v_ladd {x y : Int64} (hd : decode M.2.1 pc = .ok (.ladd, 1)) (k : V G M d mc ms P (pc + 1) ls (.long (x + y) :: st) μ) : V G M d mc ms P (pc) ls (.long y :: .long x :: st) μ :=
  V.to k (fun h => oks_c okv_l (oks_t (oks_t h))) (fun F _ _ _ hsl w => lv_ladd F.1 F.2.1 hd w)
theorem v_lsub {x y : Int64} (hd : decode M.2.1 pc = .ok (.lsub, 1)) (k : V G M d mc ms P (pc + 1) ls (.long (x - y) :: st) μ) : V G M d mc ms P (pc) ls (.long y :: .long x :: st) μ :=
  V.to k (fun h => oks_c okv_l (oks_t (oks_t h))) (fun F _ _ _ hsl w => lv_lsub F.1 F.2.1 hd w)
theorem v_lmul {x y : Int64} (hd : decode M.2.1 pc = .ok (.lmul, 1)) (k : V G M d mc ms P (pc + 1) ls (.long (x * y) :: st) μ) : V G M d mc ms P (pc) ls (.long y :: .long x :: st) μ :=
  V.to k (fun h => oks_c okv_l (oks_t (oks_t h))) (fun F _ _ _ hsl w => lv_lmul F.1 F.2.1 hd w)
theorem v_land {x y : Int64} (hd : decode M.2.1 pc = .ok (.land, 1)) (k : V G M d mc ms P (pc + 1) ls (.long (x &&& y) :: st) μ) : V G M d mc ms P (pc) ls (.long y :: .long x :: st) μ :=
  V.to k (fun h => oks_c okv_l (oks_t (oks_t h))) (fun F _ _ _ hsl w => lv_land F.1 F.2.1 hd w)
theorem v_lor {x y : Int64} (hd : decode M.2.1 pc = .ok (.lor, 1)) (k : V G M d mc ms P (pc + 1) ls (.long (x ||| y) :: st) μ) : V G M d mc ms P (pc) ls (.long y :: .long x :: st) μ :=
  V.to k (fun h => oks_c okv_l (oks_t (oks_t h))) (fun F _ _ _ hsl w => lv_lor F.1 F.2.1 hd w)
theorem v_lxor {x y : Int64} (hd : decode M.2.1 pc = .ok (.lxor, 1)) (k : V G M d mc ms P (pc + 1) ls (.long (x ^^^ y) :: st) μ) : V G M d mc ms P (pc) ls (.long y :: .long x :: st) μ :=
  V.to k (fun h => oks_c okv_l (oks_t (oks_t h))) (fun F _ _ _ hsl w => lv_lxor F.1 F.2.1 hd w)
theorem v_ldiv {x y : Int64} (hd : decode M.2.1 pc = .ok (.ldiv, 1)) (hne : ¬ y = 0) (k : V G M d mc ms P (pc + 1) ls (.long (x / y) :: st) μ) : V G M d mc ms P (pc) ls (.long y :: .long x :: st) μ :=
  V.to k (fun h => oks_c okv_l (oks_t (oks_t h))) (fun F _ _ _ hsl w => lv_ldiv F.1 F.2.1 hd hne w)
theorem v_lrem {x y : Int64} (hd : decode M.2.1 pc = .ok (.lrem, 1)) (hne : ¬ y = 0) (k : V G M d mc ms P (pc + 1) ls (.long (x - x / y * y) :: st) μ) : V G M d mc ms P (pc) ls (.long y :: .long x :: st) μ :=
  V.to k (fun h => oks_c okv_l (oks_t (oks_t h))) (fun F _ _ _ hsl w => lv_lrem F.1 F.2.1 hd hne w)
theorem v_ineg {x : Int32} (hd : decode M.2.1 pc = .ok (.ineg, 1)) (k : V G M d mc ms P (pc + 1) ls (.int (-x) :: st) μ) : V G M d mc ms P (pc) ls (.int x :: st) μ :=
  V.to k (fun h => oks_c okv_i (oks_t h)) (fun F _ _ _ hsl w => lv_ineg F.1 F.2.1 hd w)
theorem v_lneg {x : Int64} (hd : decode M.2.1 pc = .ok (.lneg, 1)) (k : V G M d mc ms P (pc + 1) ls (.long (-x) :: st) μ) : V G M d mc ms P (pc) ls (.long x :: st) μ :=
  V.to k (fun h => oks_c okv_l (oks_t h)) (fun F _ _ _ hsl w => lv_lneg F.1 F.2.1 hd w)
theorem v_lshl {x : Int64} {y : Int32} (hd : decode M.2.1 pc = .ok (.lshl, 1)) (k : V G M d mc ms P (pc + 1) ls (.long (x <<< (y.toInt64 &&& 63)) :: st) μ) : V G M d mc ms P (pc) ls (.int y :: .long x :: st) μ :=
  V.to k (fun h => oks_c okv_l (oks_t (oks_t h))) (fun F _ _ _ hsl w => lv_lshl F.1 F.2.1 hd rfl w)
theorem v_lshr {x : Int64} {y : Int32} (hd : decode M.2.1 pc = .ok (.lshr, 1)) (k : V G M d mc ms P (pc + 1) ls (.long (x >>> (y.toInt64 &&& 63)) :: st) μ) : V G M d mc ms P (pc) ls (.int y :: .long x :: st) μ :=
  V.to k (fun h => oks_c okv_l (oks_t (oks_t h))) (fun F _ _ _ hsl w => lv_lshr F.1 F.2.1 hd rfl w)
theorem v_iushr {x y : Int32} (hd : decode M.2.1 pc = .ok (.iushr, 1)) (k : V G M d mc ms P (pc + 1) ls (.int (x.toUInt32 >>> (y.toUInt32 &&& Int32.toUInt32 31)).toInt32 :: st) μ) : V G M d mc ms P (pc) ls (.int y :: .int x :: st) μ :=
  V.to k (fun h => oks_c okv_i (oks_t (oks_t h))) (fun F _ _ _ hsl w => lv_iushr F.1 F.2.1 hd rfl w)
theorem v_i2l {x : Int32} (hd : decode M.2.1 pc = .ok (.i2l, 1)) (k : V G M d mc ms P (pc + 1) ls (.long x.toInt64 :: st) μ) : V G M d mc ms P (pc) ls (.int x :: st) μ :=
  V.to k (fun h => oks_c okv_l (oks_t h)) (fun F _ _ _ hsl w => lv_i2l F.1 F.2.1 hd rfl w)
theorem v_l2i {x : Int64} (hd : decode M.2.1 pc = .ok (.l2i, 1)) (k : V G M d mc ms P (pc + 1) ls (.int x.toInt32 :: st) μ) : V G M d mc ms P (pc) ls (.long x :: st) μ :=
  V.to k (fun h => oks_c okv_i (oks_t h)) (fun F _ _ _ hsl w => lv_l2i F.1 F.2.1 hd rfl w)
theorem v_i2b {x : Int32} (hd : decode M.2.1 pc = .ok (.i2b, 1)) (k : V G M d mc ms P (pc + 1) ls (.int x.toInt8.toInt32 :: st) μ) : V G M d mc ms P (pc) ls (.int x :: st) μ :=
  V.to k (fun h => oks_c okv_i (oks_t h)) (fun F _ _ _ hsl w => lv_i2b F.1 F.2.1 hd rfl w)
theorem v_i2c {x : Int32} (hd : decode M.2.1 pc = .ok (.i2c, 1)) (k : V G M d mc ms P (pc + 1) ls (.int (x.toUInt32 % 65536).toInt32 :: st) μ) : V G M d mc ms P (pc) ls (.int x :: st) μ :=
  V.to k (fun h => oks_c okv_i (oks_t h)) (fun F _ _ _ hsl w => lv_i2c F.1 F.2.1 hd rfl w)
theorem v_fadd {x y : UInt32} (hd : decode M.2.1 pc = .ok (.fadd, 1)) (hne : vf_n32 (FP.fadd x y)) (k : V G M d mc ms P (pc + 1) ls (.float (FP.fadd x y) :: st) μ) : V G M d mc ms P (pc) ls (.float y :: .float x :: st) μ :=
  V.to k (fun h => oks_c okv_f (oks_t (oks_t h))) (fun F _ _ _ hsl w => lv_fadd F.1 F.2.1 hd hne w)
theorem v_fsub {x y : UInt32} (hd : decode M.2.1 pc = .ok (.fsub, 1)) (hne : vf_n32 (FP.fsub x y)) (k : V G M d mc ms P (pc + 1) ls (.float (FP.fsub x y) :: st) μ) : V G M d mc ms P (pc) ls (.float y :: .float x :: st) μ :=
  V.to k (fun h => oks_c okv_f (oks_t (oks_t h))) (fun F _ _ _ hsl w => lv_fsub F.1 F.2.1 hd hne w)
theorem v_fmul {x y : UInt32} (hd : decode M.2.1 pc = .ok (.fmul, 1)) (hne : vf_n32 (FP.fmul x y)) (k : V G M d mc ms P (pc + 1) ls (.float (FP.fmul x y) :: st) μ) : V G M d mc ms P (pc) ls (.float y :: .float x :: st) μ :=
  V.to k (fun h => oks_c okv_f (oks_t (oks_t h))) (fun F _ _ _ hsl w => lv_fmul F.1 F.2.1 hd hne w)
theorem v_fdiv {x y : UInt32} (hd : decode M.2.1 pc = .ok (.fdiv, 1)) (hne : vf_n32 (FP.fdiv x y)) (k : V G M d mc ms P (pc + 1) ls (.float (FP.fdiv x y) :: st) μ) : V G M d mc ms P (pc) ls (.float y :: .float x :: st) μ :=
  V.to k (fun h => oks_c okv_f (oks_t (oks_t h))) (fun F _ _ _ hsl w => lv_fdiv F.1 F.2.1 hd hne w)
theorem v_dadd {x y : UInt64} (hd : decode M.2.1 pc = .ok (.dadd, 1)) (hne : vf_n64 (FP.dadd x y)) (k : V G M d mc ms P (pc + 1) ls (.double (FP.dadd x y) :: st) μ) : V G M d mc ms P (pc) ls (.double y :: .double x :: st) μ :=
  V.to k (fun h => oks_c okv_d (oks_t (oks_t h))) (fun F _ _ _ hsl w => lv_dadd F.1 F.2.1 hd hne w)
theorem v_dsub {x y : UInt64} (hd : decode M.2.1 pc = .ok (.dsub, 1)) (hne : vf_n64 (FP.dsub x y)) (k : V G M d mc ms P (pc + 1) ls (.double (FP.dsub x y) :: st) μ) : V G M d mc ms P (pc) ls (.double y :: .double x :: st) μ :=
  V.to k (fun h => oks_c okv_d (oks_t (oks_t h))) (fun F _ _ _ hsl w => lv_dsub F.1 F.2.1 hd hne w)
theorem v_dmul {x y : UInt64} (hd : decode M.2.1 pc = .ok (.dmul, 1)) (hne : vf_n64 (FP.dmul x y)) (k : V G M d mc ms P (pc + 1) ls (.double (FP.dmul x y) :: st) μ) : V G M d mc ms P (pc) ls (.double y :: .double x :: st) μ :=
  V.to k (fun h => oks_c okv_d (oks_t (oks_t h))) (fun F _ _ _ hsl w => lv_dmul F.1 F.2.1 hd hne w)
theorem v_ddiv {x y : UInt64} (hd : decode M.2.1 pc = .ok (.ddiv, 1)) (hne : vf_n64 (FP.ddiv x y)) (k : V G M d mc ms P (pc + 1) ls (.double (FP.ddiv x y) :: st) μ) : V G M d mc ms P (pc) ls (.double y :: .double x :: st) μ :=
  V.to k (fun h => oks_c okv_d (oks_t (oks_t h))) (fun F _ _ _ hsl w => lv_ddiv F.1 F.2.1 hd hne w)
theorem v_i2f {x : Int32} (hd : decode M.2.1 pc = .ok (.i2f, 1)) (k : V G M d mc ms P (pc + 1) ls (.float (FP.i2f x) :: st) μ) : V G M d mc ms P (pc) ls (.int x :: st) μ :=
  V.to k (fun h => oks_c okv_f (oks_t h)) (fun F _ _ _ hsl w => lv_i2f F.1 F.2.1 hd w)
theorem v_f2i {x : UInt32} (hd : decode M.2.1 pc = .ok (.f2i, 1)) (k : V G M d mc ms P (pc + 1) ls (.int (FP.f2i x) :: st) μ) : V G M d mc ms P (pc) ls (.float x :: st) μ :=
  V.to k (fun h => oks_c okv_i (oks_t h)) (fun F _ _ _ hsl w => lv_f2i F.1 F.2.1 hd w)
theorem v_l2d {x : Int64} (hd : decode M.2.1 pc = .ok (.l2d, 1)) (k : V G M d mc ms P (pc + 1) ls (.double (FP.l2d x) :: st) μ) : V G M d mc ms P (pc) ls (.long x :: st) μ :=
  V.to k (fun h => oks_c okv_d (oks_t h)) (fun F _ _ _ hsl w => lv_l2d F.1 F.2.1 hd w)
theorem v_d2l {x : UInt64} (hd : decode M.2.1 pc = .ok (.d2l, 1)) (k : V G M d mc ms P (pc + 1) ls (.long (FP.d2l x) :: st) μ) : V G M d mc ms P (pc) ls (.double x :: st) μ :=
  V.to k (fun h => oks_c okv_l (oks_t h)) (fun F _ _ _ hsl w => lv_d2l F.1 F.2.1 hd w)
theorem v_f2d {x : UInt32} (hd : decode M.2.1 pc = .ok (.f2d, 1)) (hne : vf_n64 (FP.f2d x)) (k : V G M d mc ms P (pc + 1) ls (.double (FP.f2d x) :: st) μ) : V G M d mc ms P (pc) ls (.float x :: st) μ :=
  V.to k (fun h => oks_c okv_d (oks_t h)) (fun F _ _ _ hsl w => lv_f2d F.1 F.2.1 hd hne w)
theorem v_d2f {x : UInt64} (hd : decode M.2.1 pc = .ok (.d2f, 1)) (hne : vf_n32 (FP.d2f x)) (k : V G M d mc ms P (pc + 1) ls (.float (FP.d2f x) :: st) μ) : V G M d mc ms P (pc) ls (.double x :: st) μ :=
  V.to k (fun h => oks_c okv_f (oks_t h)) (fun F _ _ _ hsl w => lv_d2f F.1 F.2.1 hd hne w)
theorem v_fcmp {x y : UInt32} {op : CmpOp} (hd : decode M.2.1 pc = .ok (.fcmp op, 1)) (k : V G M d mc ms P (pc + 1) ls (.int (Op.cmpValue (FP.fcmp x y) op) :: st) μ) : V G M d mc ms P (pc) ls (.float y :: .float x :: st) μ :=
  V.to k (fun h => oks_c okv_i (oks_t (oks_t h))) (fun F _ _ _ hsl w => lv_fcmp F.1 F.2.1 hd w)
theorem v_dcmp {x y : UInt64} {op : CmpOp} (hd : decode M.2.1 pc = .ok (.dcmp op, 1)) (k : V G M d mc ms P (pc + 1) ls (.int (Op.cmpValue (FP.dcmp x y) op) :: st) μ) : V G M d mc ms P (pc) ls (.double y :: .double x :: st) μ :=
  V.to k (fun h => oks_c okv_i (oks_t (oks_t h))) (fun F _ _ _ hsl w => lv_dcmp F.1 F.2.1 hd w)
theorem v_dup {va : Value} (hd : decode M.2.1 pc = .ok (.dup, 1)) (hva : va.category = 1) (k : V G M d mc ms P (pc + 1) ls (va :: va :: st) μ) : V G M d mc ms P pc ls (va :: st) μ :=
  V.to k (fun h => oks_c (oks_h h) h) (fun F _ _ _ hsl w => lv_dup F.1 F.2.1 hd (by rw [xv_cat]; exact hva) w)
theorem v_pop {va : Value} (hd : decode M.2.1 pc = .ok (.pop, 1)) (hva : va.category = 1) (k : V G M d mc ms P (pc + 1) ls st μ) : V G M d mc ms P pc ls (va :: st) μ :=
  V.to k (fun h => oks_t h) (fun F _ _ _ hsl w => lv_pop F.1 F.2.1 hd (by rw [xv_cat]; exact hva) w)
theorem v_dup_x1 {va vb : Value} (hd : decode M.2.1 pc = .ok (.dup_x1, 1)) (hva : va.category = 1) (hvb : vb.category = 1) (k : V G M d mc ms P (pc + 1) ls (va :: vb :: va :: st) μ) : V G M d mc ms P pc ls (va :: vb :: st) μ :=
  V.to k (fun h => oks_c (oks_h h) (oks_c (oks_h (oks_t h)) (oks_c (oks_h h) (oks_t (oks_t h))))) (fun F _ _ _ hsl w => lv_dup_x1 F.1 F.2.1 hd (by rw [xv_cat]; exact hva) (by rw [xv_cat]; exact hvb) w)
theorem v_dup2_11 {va vb : Value} (hd : decode M.2.1 pc = .ok (.dup2, 1)) (hva : va.category = 1) (hvb : vb.category = 1) (k : V G M d mc ms P (pc + 1) ls (va :: vb :: va :: vb :: st) μ) : V G M d mc ms P pc ls (va :: vb :: st) μ :=
  V.to k (fun h => oks_c (oks_h h) (oks_c (oks_h (oks_t h)) h)) (fun F _ _ _ hsl w => lv_dup2_11 F.1 F.2.1 hd (by rw [xv_cat]; exact hva) (by rw [xv_cat]; exact hvb) w)
theorem v_lcmp {x y : Int64} (hd : decode M.2.1 pc = .ok (.lcmp, 1)) (k : V G M d mc ms P (pc + 1) ls (.int (lg_cmp x y) :: st) μ) : V G M d mc ms P pc ls (.long y :: .long x :: st) μ :=
  V.to k (fun h => oks_c okv_i (oks_t (oks_t h))) (fun F _ _ _ hsl w => W.lcmp F.1 F.2.1 hd w)
theorem v_if_eq {x : Int32} {off : Int} {tgt : Nat} (hd : decode M.2.1 pc = .ok (.ifCond .eq off, 3)) (ht : (pc : Int) + off = (tgt : Int)) (ka : x = 0 → V G M d mc ms P tgt ls st μ) (kb : ¬ (x = 0) → V G M d mc ms P (pc + 3) ls st μ) : V G M d mc ms P pc ls (.int x :: st) μ :=
  V.ifs ka kb (fun h => oks_t h) (fun F wa wb => lv_if_eq F.1 F.2.1 hd ht wa wb)
theorem v_if_ne {x : Int32} {off : Int} {tgt : Nat} (hd : decode M.2.1 pc = .ok (.ifCond .ne off, 3)) (ht : (pc : Int) + off = (tgt : Int)) (ka : ¬ x = 0 → V G M d mc ms P tgt ls st μ) (kb : x = 0 → V G M d mc ms P (pc + 3) ls st μ) : V G M d mc ms P pc ls (.int x :: st) μ :=
  V.ifs (C := x = 0) kb ka (fun h => oks_t h) (fun F wa wb => lv_if_ne F.1 F.2.1 hd ht wb wa)
theorem v_if_lt {x : Int32} {off : Int} {tgt : Nat} (hd : decode M.2.1 pc = .ok (.ifCond .lt off, 3)) (ht : (pc : Int) + off = (tgt : Int)) (ka : x < 0 → V G M d mc ms P tgt ls st μ) (kb : ¬ (x < 0) → V G M d mc ms P (pc + 3) ls st μ) : V G M d mc ms P pc ls (.int x :: st) μ :=
  V.ifs ka kb (fun h => oks_t h) (fun F wa wb => lv_if_lt F.1 F.2.1 hd ht wa wb)
theorem v_if_ge {x : Int32} {off : Int} {tgt : Nat} (hd : decode M.2.1 pc = .ok (.ifCond .ge off, 3)) (ht : (pc : Int) + off = (tgt : Int)) (ka : 0 ≤ x → V G M d mc ms P tgt ls st μ) (kb : ¬ (0 ≤ x) → V G M d mc ms P (pc + 3) ls st μ) : V G M d mc ms P pc ls (.int x :: st) μ :=
  V.ifs ka kb (fun h => oks_t h) (fun F wa wb => lv_if_ge F.1 F.2.1 hd ht wa wb)
theorem v_if_gt {x : Int32} {off : Int} {tgt : Nat} (hd : decode M.2.1 pc = .ok (.ifCond .gt off, 3)) (ht : (pc : Int) + off = (tgt : Int)) (ka : 0 < x → V G M d mc ms P tgt ls st μ) (kb : ¬ (0 < x) → V G M d mc ms P (pc + 3) ls st μ) : V G M d mc ms P pc ls (.int x :: st) μ :=
  V.ifs ka kb (fun h => oks_t h) (fun F wa wb => lv_if_gt F.1 F.2.1 hd ht wa wb)
theorem v_if_le {x : Int32} {off : Int} {tgt : Nat} (hd : decode M.2.1 pc = .ok (.ifCond .le off, 3)) (ht : (pc : Int) + off = (tgt : Int)) (ka : x ≤ 0 → V G M d mc ms P tgt ls st μ) (kb : ¬ (x ≤ 0) → V G M d mc ms P (pc + 3) ls st μ) : V G M d mc ms P pc ls (.int x :: st) μ :=
  V.ifs ka kb (fun h => oks_t h) (fun F wa wb => lv_if_le F.1 F.2.1 hd ht wa wb)
theorem v_icmp_eq {x y : Int32} {off : Int} {tgt : Nat} (hd : decode M.2.1 pc = .ok (.if_icmp .eq off, 3)) (ht : (pc : Int) + off = (tgt : Int)) (ka : x = y → V G M d mc ms P tgt ls st μ) (kb : ¬ (x = y) → V G M d mc ms P (pc + 3) ls st μ) : V G M d mc ms P pc ls (.int y :: .int x :: st) μ :=
  V.ifs ka kb (fun h => oks_t (oks_t h)) (fun F wa wb => lv_icmp_eq F.1 F.2.1 hd ht wa wb)
theorem v_icmp_ne {x y : Int32} {off : Int} {tgt : Nat} (hd : decode M.2.1 pc = .ok (.if_icmp .ne off, 3)) (ht : (pc : Int) + off = (tgt : Int)) (ka : ¬ x = y → V G M d mc ms P tgt ls st μ) (kb : x = y → V G M d mc ms P (pc + 3) ls st μ) : V G M d mc ms P pc ls (.int y :: .int x :: st) μ :=
  V.ifs (C := x = y) kb ka (fun h => oks_t (oks_t h)) (fun F wa wb => lv_icmp_ne F.1 F.2.1 hd ht wb wa)
theorem v_icmp_lt {x y : Int32} {off : Int} {tgt : Nat} (hd : decode M.2.1 pc = .ok (.if_icmp .lt off, 3)) (ht : (pc : Int) + off = (tgt : Int)) (ka : x < y → V G M d mc ms P tgt ls st μ) (kb : ¬ (x < y) → V G M d mc ms P (pc + 3) ls st μ) : V G M d mc ms P pc ls (.int y :: .int x :: st) μ :=
  V.ifs ka kb (fun h => oks_t (oks_t h)) (fun F wa wb => lv_icmp_lt F.1 F.2.1 hd ht wa wb)
theorem v_icmp_ge {x y : Int32} {off : Int} {tgt : Nat} (hd : decode M.2.1 pc = .ok (.if_icmp .ge off, 3)) (ht : (pc : Int) + off = (tgt : Int)) (ka : y ≤ x → V G M d mc ms P tgt ls st μ) (kb : ¬ (y ≤ x) → V G M d mc ms P (pc + 3) ls st μ) : V G M d mc ms P pc ls (.int y :: .int x :: st) μ :=
  V.ifs ka kb (fun h => oks_t (oks_t h)) (fun F wa wb => lv_icmp_ge F.1 F.2.1 hd ht wa wb)
theorem v_icmp_gt {x y : Int32} {off : Int} {tgt : Nat} (hd : decode M.2.1 pc = .ok (.if_icmp .gt off, 3)) (ht : (pc : Int) + off = (tgt : Int)) (ka : y < x → V G M d mc ms P tgt ls st μ) (kb : ¬ (y < x) → V G M d mc ms P (pc + 3) ls st μ) : V G M d mc ms P pc ls (.int y :: .int x :: st) μ :=
  V.ifs ka kb (fun h => oks_t (oks_t h)) (fun F wa wb => lv_icmp_gt F.1 F.2.1 hd ht wa wb)
theorem v_icmp_le {x y : Int32} {off : Int} {tgt : Nat} (hd : decode M.2.1 pc = .ok (.if_icmp .le off, 3)) (ht : (pc : Int) + off = (tgt : Int)) (ka : x ≤ y → V G M d mc ms P tgt ls st μ) (kb : ¬ (x ≤ y) → V G M d mc ms P (pc + 3) ls st μ) : V G M d mc ms P pc ls (.int y :: .int x :: st) μ :=
  V.ifs ka kb (fun h => oks_t (oks_t h)) (fun F wa wb => lv_icmp_le F.1 F.2.1 hd ht wa wb)
theorem v_goto {off : Int} {tgt : Nat} (hd : decode M.2.1 pc = .ok (.goto off, 3)) (ht : (pc : Int) + off = (tgt : Int)) (k : V G M d mc ms P tgt ls st μ) : V G M d mc ms P pc ls st μ :=
  V.to k (fun h => h) (fun F _ _ _ hsl w => lv_goto F.1 F.2.1 hd ht w)
theorem v_tableOut {dflt lo hi : Int} {offs : Array Int} {len : Nat} {x : Int32} {tgt : Nat} (hd : decode M.2.1 pc = .ok (.tableswitch dflt lo hi offs, len)) (h : x.toInt < lo ∨ hi < x.toInt) (ht : (pc : Int) + dflt = (tgt : Int)) (k : V G M d mc ms P tgt ls st μ) : V G M d mc ms P pc ls (.int x :: st) μ :=
  V.to k (fun h => oks_t h) (fun F _ _ _ hsl w => lv_tableOut F.1 F.2.1 hd h ht w)
theorem v_tableIn {dflt lo hi : Int} {offs : Array Int} {len : Nat} {x : Int32} {off : Int} {tgt : Nat} (hd : decode M.2.1 pc = .ok (.tableswitch dflt lo hi offs, len)) (h1 : ¬ x.toInt < lo) (h2 : ¬ hi < x.toInt) (ho : offs[(x.toInt - lo).toNat]? = some off) (ht : (pc : Int) + off = (tgt : Int)) (k : V G M d mc ms P tgt ls st μ) : V G M d mc ms P pc ls (.int x :: st) μ :=
  V.to k (fun h => oks_t h) (fun F _ _ _ hsl w => lv_tableIn F.1 F.2.1 hd h1 h2 ho ht w)
theorem v_lookup {dflt : Int} {ps : Array (Int × Int)} {len : Nat} {x : Int32} {off : Int} {tgt : Nat} (hd : decode M.2.1 pc = .ok (.lookupswitch dflt ps, len)) (hp : (ps.toList.zip (ps.toList.drop 1)).all (fun (a, next) => a.1 < next.1) = true) (ho : Op.lookupswitch.offset ps.toList dflt x.toInt = off) (ht : (pc : Int) + off = (tgt : Int)) (k : V G M d mc ms P tgt ls st μ) : V G M d mc ms P pc ls (.int x :: st) μ :=
  V.to k (fun h => oks_t h) (fun F _ _ _ hsl w => lv_lookup F.1 F.2.1 hd hp ho ht w)
/-! returns -/
theorem v_iret {v : Int32} {t : FieldType} (hd : decode M.2.1 pc = .ok (.ireturn, 1)) (hr : M.2.2.2 = some t) (hn : narrow t (.int v) = .int v) (hP : P (some (.int v)) μ) : V G M d mc ms P pc ls [.int v] μ :=
  fun p l e R s m args below meth c Q ad H locs cells slots sl F hW hS hR hl hs hsl h1 h2 hE => hE (some (.int v)) μ ad H locs cells slots pc sl hP hW Ag.refl (fun _ z => z) (fun u e => by cases e; exact okv_i) hS (by omega) (by omega) ⟨hd, t, hr, hn⟩
theorem v_lret {v : Int64} (hd : decode M.2.1 pc = .ok (.lreturn, 1)) (hr : M.2.2.2 = some .long) (hP : P (some (.long v)) μ) : V G M d mc ms P pc ls [.long v] μ :=
  fun p l e R s m args below meth c Q ad H locs cells slots sl F hW hS hR hl hs hsl h1 h2 hE => hE (some (.long v)) μ ad H locs cells slots pc sl hP hW Ag.refl (fun _ z => z) (fun u e => by cases e; exact okv_l) hS (by omega) (by omega) ⟨hd, hr⟩
theorem v_fret {v : UInt32} (hd : decode M.2.1 pc = .ok (.freturn, 1)) (hr : M.2.2.2 = some .float) (hP : P (some (.float v)) μ) : V G M d mc ms P pc ls [.float v] μ :=
  fun p l e R s m args below meth c Q ad H locs cells slots sl F hW hS hR hl hs hsl h1 h2 hE => hE (some (.float v)) μ ad H locs cells slots pc sl hP hW Ag.refl (fun _ z => z) (fun u e => by cases e; exact okv_f) hS (by omega) (by omega) ⟨hd, hr⟩
theorem v_dret {v : UInt64} (hd : decode M.2.1 pc = .ok (.dreturn, 1)) (hr : M.2.2.2 = some .double) (hP : P (some (.double v)) μ) : V G M d mc ms P pc ls [.double v] μ :=
  fun p l e R s m args below meth c Q ad H locs cells slots sl F hW hS hR hl hs hsl h1 h2 hE => hE (some (.double v)) μ ad H locs cells slots pc sl hP hW Ag.refl (fun _ z => z) (fun u e => by cases e; exact okv_d) hS (by omega) (by omega) ⟨hd, hr⟩
theorem v_aret {a : Nat} {t : FieldType} (hd : decode M.2.1 pc = .ok (.areturn, 1)) (hr : M.2.2.2 = some t) (ht : (∃ n, t = .object n) ∨ ∃ u, t = .array u) (hP : P (some (.ref a)) μ) : V G M d mc ms P pc ls [.ref a] μ :=
  fun p l e R s m args below meth c Q ad H locs cells slots sl F hW hS hR hl hs hsl h1 h2 hE => hE (some (.ref a)) μ ad H locs cells slots pc sl hP hW Ag.refl (fun _ z => z) (fun u e => by cases e; exact oks_h hs) hS (by omega) (by omega) ⟨hd, t, hr, ht⟩
theorem v_vret (hd : decode M.2.1 pc = .ok (.return_, 1)) (hr : M.2.2.2 = none) (hP : P none μ) : V G M d mc ms P pc ls [] μ :=
  fun p l e R s m args below meth c Q ad H locs cells slots sl F hW hS hR hl hs hsl h1 h2 hE => hE none μ ad H locs cells slots pc sl hP hW Ag.refl (fun _ z => z) (fun u e => by cases e) hS (by omega) (by omega) ⟨hd, hr⟩
end VROWS
end
section
/-! ===== heap rows, calls, contracts ===== -/
theorem va_P1 {D : va_G} {cl : List vw_C} {x : Nat × va_E} {H : Heap} (h : va_at D cl x H) : va_P D cl [x] H := fun k q hk => by
  have hz : k < 1 := (List.getElem?_eq_some_iff.mp hk).1
  rw [show k = 0 by omega] at hk
  cases hk
  exact h
theorem narrow_xv {ty : FieldType} {v : Value} (ad : Nat → Nat) (h : narrow ty v = v) : narrow ty (xv ad v) = xv ad v := by
  cases v <;> first | exact h | (cases ty <;> rfl)
theorem fits_xv {ty : FieldType} {v : Value} (ad : Nat → Nat) (h : fits ty v = true) : fits ty (xv ad v) = true := by
  cases v <;> first | exact h | (cases ty <;> first | rfl | exact h)
theorem set_xv (ad : Nat → Nat) (fs : List Value) (k : Nat) (v : Value) : (fs.map (xv ad)).set k (xv ad v) = (fs.set k v).map (xv ad) := by rw [List.map_set]
theorem mem_set_ok {μ : Hp} {fs : List Value} {k : Nat} {v : Value} (h : ∀ u ∈ fs, okv μ u) (hv : okv μ v) : ∀ u ∈ fs.set k v, okv μ u := fun u hu => by
  rcases List.mem_or_eq_of_mem_set hu with h1 | rfl
  · exact h u h1
  · exact hv
theorem S_put {G : Cx} {H0 H H1 : Heap} {locs : List Loc} {a k : Nat} (h : va_S (cS G) H0 H locs) (z : H1.size = H.size) (oq : ∀ q : Nat, q ≠ a → H1[q]? = H[q]?) (ha : cB G ≤ a) : va_S (cS G) H0 H1 (locs ++ [⟨a, k⟩]) := h.put z oq ha
/-- a field read from own's entry idx: place k of class ci -/
def FL (own : String) (idx ci k : Nat) : Prop := ∃ (C : String) (T : u_T) (N : Nat), vwCl[ci]? = some (C, T, N) ∧ k < N ∧ (∀ w ∈ u_ws C T N, w ∈ gw) ∧ Cond.fieldLink own idx (T k).1 (T k).2.1 (T k).2.2.1 ∈ gw
/-- a field written from own's entry idx -/
def FP (own : String) (idx ci k : Nat) (fin : Bool) (ty : FieldType) : Prop := ∃ (C : String) (T : u_T) (N : Nat) (ty0 : Nat → FieldType), vwCl[ci]? = some (C, T, N) ∧ k < N ∧ (∀ w ∈ u_ws C T N, w ∈ gw) ∧ Cond.fieldLink own idx (T k).1 (T k).2.1 (T k).2.2.1 ∈ gw ∧ (∀ k, k < N → parseFieldDescriptor (T k).2.2.1 = some (ty0 k)) ∧ (∀ a, a < N → ∀ b, b < N → a ≠ b → (T a).2.1 ≠ (T b).2.1) ∧ (T k).2.2.2 = fin ∧ ty0 k = ty ∧ (fin = true → (T k).1 = own)
/-- a class made from own's entry idx -/
def NW (own : String) (idx ci N : Nat) (fs : List Value) : Prop := ∃ (C : String) (T : u_T) (ty0 : Nat → FieldType), vwCl[ci]? = some (C, T, N) ∧ (∀ w ∈ u_ws C T N, w ∈ gw) ∧ (∀ k, k < N → parseFieldDescriptor (T k).2.2.1 = some (ty0 k)) ∧ Cond.classLink own idx C ∈ gw ∧ Cond.instantiable C N ∈ gw ∧ Cond.initialized C ∈ gw ∧ ∀ j, j < N → defaultValue (ty0 j) = vp_V fs j
section HROWS
variable {G : Cx} {M : MD} {d mc ms : Nat} {P : Option Value → Hp → Prop} {pc : Nat} {ls : List (Nat × Value)} {st : List Value} {μ : Hp}
theorem v_get {idx ci k a : Nat} {fs : List Value} {v : Value} (hF : FL M.1.cls idx ci k) (hd : decode M.2.1 pc = .ok (.getfield idx, 3)) (hμ : μ a = some (.inr (ci, fs))) (hv : fs[k]? = some v) (kk : V G M d mc ms P (pc + 3) ls (v :: st) μ) : V G M d mc ms P pc ls (.ref a :: st) μ := by
  intro p l e R s m args below meth c Q ad H locs cells slots sl F hW hS hR hl hs hsl h1 h2 hE
  obtain ⟨C, T, N, hc, hk, hin, hlk⟩ := hF
  obtain ⟨f1, f2, f3, f4, f5, f6, f7, f8, f9, f10, f11⟩ := id F
  refine va_get (ws := [(ad a, .inr (ci, fs.map (xv ad)))]) (ci := ci) (v := xv ad v) f1 f2 f8 hin f5 f9.2 (va_P1 (hW.mut hμ)) 0 rfl hc k hk (f8 _ hlk) (fun _ h => h) (by rw [List.getElem?_map, hv]; rfl) hd ?_
  exact kk p l e R s m args below meth c Q ad H locs cells slots sl F hW hS hR hl (oks_c ((hW.2.1 a _ hμ).2.1 v (List.mem_of_getElem? hv)) (oks_t hs)) hsl h1 h2 hE
theorem v_put {idx ci k a : Nat} {ty : FieldType} {fs : List Value} {v : Value} (hF : FP M.1.cls idx ci k false ty) (hd : decode M.2.1 pc = .ok (.putfield idx, 3)) (hμ : μ a = some (.inr (ci, fs))) (hlen : k < fs.length) (hn : narrow ty v = v) (hfit : fits ty v = true) (kk : V G M d mc ms P (pc + 3) ls st (up μ a (.inr (ci, fs.set k v)))) : V G M d mc ms P pc ls (v :: .ref a :: st) μ := by
  intro p l e R s m args below meth c Q ad H locs cells slots sl F hW hS hR hl hs hsl h1 h2 hE
  obtain ⟨C, T, N, ty0, hc, hk, hin, hlk, hty, hnm, hfin, hte, -⟩ := hF
  obtain ⟨f1, f2, f3, f4, f5, f6, f7, f8, f9, f10, f11⟩ := id F
  have hap := va_apart (own := M.1.cls) f8 hin ty0 hty hnm f9.2 hc
  obtain ⟨hat, hok, hge, hlt9⟩ := hW.2.1 a _ hμ
  obtain ⟨r, g1, cell, q1, q2, q3, q4⟩ := id hat
  have hr : r = (C, T, N) := Option.some.inj (g1.symm.trans hc)
  subst hr
  obtain ⟨hSl, hfc, kC, hkC, hkind⟩ := f9.2.1 ci _ hc
  obtain ⟨cf, kf, fi, f, hi, hsl'⟩ := hSl k hk
  have hlay := f8 _ (hin _ (u_in_lay hk))
  unfold u_lay at hlay
  rw [if_neg (by rw [hfin]; decide)] at hlay
  have hst := (u_facts hfc hkC (u_lays f8 hin hk) hi).1
  have h6 := u_store (v := xv ad v) hfc hkC hkind hlay hi (by rw [hty k hk, hte]) (narrow_xv ad hn) (fits_xv ad hfit)
  refine W.putK f1 f2 (f := f) ⟨f5, f8 _ hlk, ⟨_, _, _, hi⟩, hst⟩ (by rw [q2]; exact h6) q1 q3 (by rw [hsl']; exact k2_hasslot (q4 k hk)) rfl rfl hd fun H' e1 e2 e3 => ?_
  rw [hsl'] at e1 ⊢
  have hW' : Wd G ad (up μ a (.inr (ci, fs.set k v))) H' := hW.put hμ e2 ⟨_, hc, by rw [← set_xv]; exact t_OB.to (V := updV (vp_V (fs.map (xv ad))) k (xv ad v)) ⟨_, e1, q2, q3, t_set q4 hap hk (xv ad v)⟩ (fun j _ => vp_updV_set (by rw [List.length_map]; exact hlen) (xv ad v) j)⟩ e3 (mem_set_ok hok (oks_h hs))
  have hsb := up_sb μ a (.inr (ci, fs.set k v))
  exact kk p l e R s m args below meth c Q ad H' _ cells slots sl F hW' (hS.put e2 e3 hge) hR (fun q hq => hsb.okv (hl q hq)) (fun q hq => hsb.okv (hs q (List.mem_cons_of_mem _ (List.mem_cons_of_mem _ hq)))) hsl h1 h2 (hE.to Ag.refl hsb (Nat.le_refl _) (Nat.le_refl _))
theorem v_putF {idx ci k a : Nat} {ty : FieldType} {fs : List Value} {v : Value} (hF : FP M.1.cls idx ci k true ty) (hm : M.1.name = "<init>") (hd : decode M.2.1 pc = .ok (.putfield idx, 3)) (hμ : μ a = some (.inr (ci, fs))) (hlen : k < fs.length) (hn : narrow ty v = v) (hfit : fits ty v = true) (kk : V G M d mc ms P (pc + 3) ls st (up μ a (.inr (ci, fs.set k v)))) : V G M d mc ms P pc ls (v :: .ref a :: st) μ := by
  intro p l e R s m args below meth c Q ad H locs cells slots sl F hW hS hR hl hs hsl h1 h2 hE
  obtain ⟨C, T, N, ty0, hc, hk, hin, hlk, hty, hnm, hfin, hte, hdecl⟩ := hF
  obtain ⟨f1, f2, f3, f4, f5, f6, f7, f8, f9, f10, f11⟩ := id F
  have hap := va_apart (own := M.1.cls) f8 hin ty0 hty hnm f9.2 hc
  obtain ⟨hat, hok, hge, hlt9⟩ := hW.2.1 a _ hμ
  obtain ⟨r, g1, cell, q1, q2, q3, q4⟩ := id hat
  have hr : r = (C, T, N) := Option.some.inj (g1.symm.trans hc)
  subst hr
  obtain ⟨hSl, hfc, kC, hkC, hkind⟩ := f9.2.1 ci _ hc
  obtain ⟨cf, kf, fi, f, hi, hsl'⟩ := hSl k hk
  have hlay := f8 _ (hin _ (u_in_lay hk))
  unfold u_lay at hlay
  rw [if_pos hfin] at hlay
  have hst := (u_facts hfc hkC (u_lays f8 hin hk) hi).1
  have hcf : m.cls = cf := by
    obtain ⟨_, _, c', _, _, _, -, -, hf', -, -, -, hown2, -⟩ := Cond.laysFinal_spec hlay
    have e1 : c' = cf := by have := hi.symm.trans hf'; simp at this; exact this.1.symm
    rw [hdecl rfl] at hown2
    rw [← e1]; exact Option.some.inj (f5.symm.trans hown2)
  have h6 := u_fits (v := xv ad v) hfc hkC hkind (Or.inr hlay) hi (by rw [hty k hk, hte]) (narrow_xv ad hn) (fits_xv ad hfit)
  refine W.putFinK f1 f2 f5 (f8 _ hlk) hi hst hcf (f7.trans hm) (by rw [q2]; exact h6) q1 q3 (by rw [hsl']; exact k2_hasslot (q4 k hk)) rfl rfl hd fun H' e1 e2 e3 => ?_
  rw [hsl'] at e1 ⊢
  have hW' : Wd G ad (up μ a (.inr (ci, fs.set k v))) H' := hW.put hμ e2 ⟨_, hc, by rw [← set_xv]; exact t_OB.to (V := updV (vp_V (fs.map (xv ad))) k (xv ad v)) ⟨_, e1, q2, q3, t_set q4 hap hk (xv ad v)⟩ (fun j _ => vp_updV_set (by rw [List.length_map]; exact hlen) (xv ad v) j)⟩ e3 (mem_set_ok hok (oks_h hs))
  have hsb := up_sb μ a (.inr (ci, fs.set k v))
  exact kk p l e R s m args below meth c Q ad H' _ cells slots sl F hW' (hS.put e2 e3 hge) hR (fun q hq => hsb.okv (hl q hq)) (fun q hq => hsb.okv (hs q (List.mem_cons_of_mem _ (List.mem_cons_of_mem _ hq)))) hsl h1 h2 (hE.to Ag.refl hsb (Nat.le_refl _) (Nat.le_refl _))
/-! arrays -/
theorem v_iald {a n : Nat} {f : Nat → Int32} {i : Int32} (hd : decode M.2.1 pc = .ok (.iaload, 1)) (hμ : μ a = some (.inl (0, (n, .inl f)))) (hin : vp_in i n) (kk : V G M d mc ms P (pc + 1) ls (.int (f i.toNatClampNeg) :: st) μ) : V G M d mc ms P pc ls (.int i :: .ref a :: st) μ :=
  V.to kk (fun h => oks_c okv_i (oks_t (oks_t h))) (fun F hW _ _ _ w => va_iald F.1 F.2.1 F.2.2.2.2.2.2.2.2.1.2 (va_P1 (hW.mut hμ)) 0 0 rfl rfl hin hd w)
theorem v_lald {a n : Nat} {f : Nat → Int64} {i : Int32} (hd : decode M.2.1 pc = .ok (.laload, 1)) (hμ : μ a = some (.inl (1, (n, .inr (.inl f))))) (hin : vp_in i n) (kk : V G M d mc ms P (pc + 1) ls (.long (f i.toNatClampNeg) :: st) μ) : V G M d mc ms P pc ls (.int i :: .ref a :: st) μ :=
  V.to kk (fun h => oks_c okv_l (oks_t (oks_t h))) (fun F hW _ _ _ w => va_lald F.1 F.2.1 F.2.2.2.2.2.2.2.2.1.2 (va_P1 (hW.mut hμ)) 0 1 rfl rfl hin hd w)
theorem v_fald {a n : Nat} {f : Nat → UInt32} {i : Int32} (hd : decode M.2.1 pc = .ok (.faload, 1)) (hμ : μ a = some (.inl (2, (n, .inr (.inr (.inl f)))))) (hin : vp_in i n) (kk : V G M d mc ms P (pc + 1) ls (.float (f i.toNatClampNeg) :: st) μ) : V G M d mc ms P pc ls (.int i :: .ref a :: st) μ :=
  V.to kk (fun h => oks_c okv_f (oks_t (oks_t h))) (fun F hW _ _ _ w => va_fald F.1 F.2.1 F.2.2.2.2.2.2.2.2.1.2 (va_P1 (hW.mut hμ)) 0 2 rfl rfl hin hd w)
theorem v_bald {a n : Nat} {f : Nat → Int32} {i : Int32} (hd : decode M.2.1 pc = .ok (.baload, 1)) (hμ : μ a = some (.inl (3, (n, .inl f)))) (hin : vp_in i n) (kk : V G M d mc ms P (pc + 1) ls (.int (f i.toNatClampNeg) :: st) μ) : V G M d mc ms P pc ls (.int i :: .ref a :: st) μ :=
  V.to kk (fun h => oks_c okv_i (oks_t (oks_t h))) (fun F hW _ _ _ w => va_bald F.1 F.2.1 F.2.2.2.2.2.2.2.2.1.2 (va_P1 (hW.mut hμ)) 0 3 rfl rfl hin hd w)
theorem v_aald {a n b t : Nat} {ty : FieldType} {f : Nat → Option Nat} {i : Int32} (hd : decode M.2.1 pc = .ok (.aaload, 1)) (hμ : μ a = some (.inl (t, (n, .inr (.inr (.inr (.inr f))))))) (ht : (tysOf G)[t]? = some (cA G t, ty)) (hty : ty.isReference = true) (hin : vp_in i n) (hf : f i.toNatClampNeg = some b) (kk : V G M d mc ms P (pc + 1) ls (.ref b :: st) μ) : V G M d mc ms P pc ls (.int i :: .ref a :: st) μ := by
  intro p l e R s m args below meth c Q ad H locs cells slots sl F hW hS hR hl hs hsl h1 h2 hE
  have hlt : i.toNatClampNeg < n := Nat.not_le.mp fun q => hin (Or.inr q)
  have hb : okv μ (.ref b) := fun k e => by cases e; exact (hW.2.1 a _ hμ).2.1 _ _ hf
  refine W.aald (v := .ref (ad b)) (ty := ty) F.1 F.2.1 (hW.mut hμ) ((F.2.2.2.2.2.2.2.2.1.2.2 t _ ht).1 n (fun j => va_rf ((f j).map ad))) hty (fun q => by cases q) (by show ¬ (i < 0 ∨ (arrV _ _ _).slots.size ≤ _); rw [arrV_size]; exact hin) (by show (arrV (cA G t) n (fun j => va_rf ((f j).map ad))).slots[_]? = _; rw [arrV_read _ _ hlt, hf]; rfl) rfl rfl hd ?_
  exact kk p l e R s m args below meth c Q ad H locs cells slots sl F hW hS hR hl (oks_c hb (oks_t (oks_t hs))) hsl h1 h2 hE
theorem v_alen {a t : Nat} {ty : FieldType} {x : vp_A} {v : Int32} (hd : decode M.2.1 pc = .ok (.arraylength, 1)) (hμ : μ a = some (.inl (t, x))) (ht : (tysOf G)[t]? = some (cA G t, ty)) (hv : Int32.ofNat x.1 = v) (kk : V G M d mc ms P (pc + 1) ls (.int v :: st) μ) : V G M d mc ms P pc ls (.ref a :: st) μ :=
  V.to kk (fun h => oks_c okv_i (oks_t h)) (fun {_} {_} {_} {_} {_} {_} {_} {_} {_} {_} {_} {ad} {_} {_} {_} {_} {_} F hW _ _ _ w => va_alen F.1 F.2.1 F.2.2.2.2.2.2.2.2.1.2 (va_P1 (hW.mut hμ)) 0 t rfl ht (by rw [← hv]; obtain ⟨n, f | f | f | f | f⟩ := x <;> rfl) hd w)
/-- the end of a row that writes cell a -/
theorem v_after {p : Program} {l : Launch} {e : Env} {R : Room} {s : State} {m : MethodId} {args : Array Value} {below : List Frame} {meth : Method} {c : Code} {Q : State → Prop} {ad : Nat → Nat} {H H1 : Heap} {locs : List Loc} {cells slots : Nat} {sl : Array Slot} {a k : Nat} {e0 e1 : va_E} {pc' : Nat} {s0 : List Value}
    (F : Fr G M d p R s m args meth c) (hW : Wd G ad μ H) (hS : va_S (cS G) s.heap H locs) (hR : Ro G ad s s.heap) (hl : okl μ ls) (hs : oks μ s0) (hsl : lv_has sl M.2.2.1 (xl ad ls)) (h1 : cells + mc ≤ R.cells) (h2 : slots + ms ≤ R.slots) (hE : En G M p l e R s m args below meth c Q ad μ (cells + mc) (slots + ms) P)
    (kk : V G M d mc ms P pc' ls s0 (up μ a e1)) (hμ : μ a = some e0) (hz : H1.size = H.size) (oq : ∀ q : Nat, q ≠ ad a → H1[q]? = H[q]?) (hok : oke μ e1) (hat : va_at (cD G) vwCl (ad a, xe G ad e1) H1) : W p l e R s m args below meth c H1 (locs ++ [⟨ad a, k⟩]) cells slots Q (F0 m pc' sl (s0.map (xv ad))) := by
  have hsb := up_sb μ a e1
  exact kk p l e R s m args below meth c Q ad H1 _ cells slots sl F (hW.put hμ hz hat oq hok) (hS.put hz oq (hW.2.1 a _ hμ).2.2.1) hR (fun q hq => hsb.okv (hl q hq)) (fun q hq => hsb.okv (hs q hq)) hsl h1 h2 (hE.to Ag.refl hsb (Nat.le_refl _) (Nat.le_refl _))
theorem v_iast {a n : Nat} {f : Nat → Int32} {i x : Int32} (hd : decode M.2.1 pc = .ok (.iastore, 1)) (hμ : μ a = some (.inl (0, (n, .inl f)))) (hin : vp_in i n) (kk : V G M d mc ms P (pc + 1) ls st (up μ a (.inl (0, (n, .inl (upd f i.toNatClampNeg x)))))) : V G M d mc ms P pc ls (.int x :: .int i :: .ref a :: st) μ := by
  intro p l e R s m args below meth c Q ad H locs cells slots sl F hW hS hR hl hs hsl h1 h2 hE
  refine W.iast F.1 F.2.1 (hW.mut hμ) ((F.2.2.2.2.2.2.2.2.1.2.2 0 _ rfl).1 n (fun j => .int (f j))) (fun q => by cases q) (by show ¬ (i < 0 ∨ (arrV _ _ _).slots.size ≤ _); rw [arrV_size]; exact hin) rfl rfl hd fun H1 e z oq => ?_
  refine v_after F hW hS hR hl (oks_t (oks_t (oks_t hs))) hsl h1 h2 hE kk hμ z oq trivial ?_
  show H1[ad a]? = some (vp_cell _ (n, .inl (upd f i.toNatClampNeg x)))
  rw [e]
  show some ((vp_cell (cA G 0) (n, .inl f)).setSlot _ _) = _
  rw [vp_cell_i, vp_cell_i, arrV_store]
  congr 2
  funext q
  by_cases hq : q = i.toNatClampNeg
  · subst hq; simp [updV, upd]
  · simp [updV, upd, hq]
theorem v_last {a n : Nat} {f : Nat → Int64} {i : Int32} {x : Int64} (hd : decode M.2.1 pc = .ok (.lastore, 1)) (hμ : μ a = some (.inl (1, (n, .inr (.inl f))))) (hin : vp_in i n) (kk : V G M d mc ms P (pc + 1) ls st (up μ a (.inl (1, (n, .inr (.inl (vp_updL f i.toNatClampNeg x))))))) : V G M d mc ms P pc ls (.long x :: .int i :: .ref a :: st) μ := by
  intro p l e R s m args below meth c Q ad H locs cells slots sl F hW hS hR hl hs hsl h1 h2 hE
  refine W.last F.1 F.2.1 (hW.mut hμ) ((F.2.2.2.2.2.2.2.2.1.2.2 1 _ rfl).1 n (fun j => .long (f j))) (fun q => by cases q) (by show ¬ (i < 0 ∨ (arrV _ _ _).slots.size ≤ _); rw [arrV_size]; exact hin) rfl rfl hd fun H1 e z oq => ?_
  refine v_after F hW hS hR hl (oks_t (oks_t (oks_t hs))) hsl h1 h2 hE kk hμ z oq trivial ?_
  show H1[ad a]? = some (vp_cell _ (n, .inr (.inl (vp_updL f i.toNatClampNeg x))))
  rw [e]
  show some ((vp_cell (cA G 1) (n, .inr (.inl f))).setSlot _ _) = _
  rw [vp_cell_l, vp_cell_l, arrV_store]
  congr 2
  funext q
  by_cases hq : q = i.toNatClampNeg
  · subst hq; simp [updV, vp_updL]
  · simp [updV, vp_updL, hq]
theorem v_fast {a n : Nat} {f : Nat → UInt32} {i : Int32} {x : UInt32} (hd : decode M.2.1 pc = .ok (.fastore, 1)) (hμ : μ a = some (.inl (2, (n, .inr (.inr (.inl f)))))) (hin : vp_in i n) (kk : V G M d mc ms P (pc + 1) ls st (up μ a (.inl (2, (n, .inr (.inr (.inl (vf_upd f i.toNatClampNeg x)))))))) : V G M d mc ms P pc ls (.float x :: .int i :: .ref a :: st) μ := by
  intro p l e R s m args below meth c Q ad H locs cells slots sl F hW hS hR hl hs hsl h1 h2 hE
  refine W.fast F.1 F.2.1 (hW.mut hμ) ((F.2.2.2.2.2.2.2.2.1.2.2 2 _ rfl).1 n (fun j => .float (f j))) (fun q => by cases q) (by show ¬ (i < 0 ∨ (arrV _ _ _).slots.size ≤ _); rw [arrV_size]; exact hin) rfl rfl hd fun H1 e z oq => ?_
  refine v_after F hW hS hR hl (oks_t (oks_t (oks_t hs))) hsl h1 h2 hE kk hμ z oq trivial ?_
  show H1[ad a]? = some (vp_cell _ (n, .inr (.inr (.inl (vf_upd f i.toNatClampNeg x)))))
  rw [e]
  show some ((vp_cell (cA G 2) (n, .inr (.inr (.inl f)))).setSlot _ _) = _
  rw [vp_cell_f, vp_cell_f, arrV_store]
  congr 2
  funext q
  by_cases hq : q = i.toNatClampNeg
  · subst hq; simp [updV, vf_upd]
  · simp [updV, vf_upd, hq]
end HROWS
/-! ===== contracts ===== -/
def PcOf (G : Cx) (ad : Nat → Nat) (avs : List Value) (μ : Hp) : Array Value → State → Prop := fun a U => a = (avs.map (xv ad)).toArray ∧ Wd G ad μ U.heap ∧ Tb G U ∧ Ro G ad U U.heap
def QcOf (G : Cx) (ad : Nat → Nat) (μ : Hp) (P : Option Value → Hp → Prop) : Array Value → State → Outcome → State → Prop := fun _ st oc t => ∃ (r : Option Value) (μ' : Hp) (ad' : Nat → Nat), oc = .returned (r.map (xv ad')) ∧ P r μ' ∧ Wd G ad' μ' t.heap ∧ Ag μ ad ad' ∧ Sb μ μ' ∧ (∀ v, r = some v → okv μ' v) ∧ va_F (cS G) st t
def rmOf (d mc ms : Nat) : Room := { frames := d, cells := mc, slots := ms, locals := 60 * d }
abbrev wsOf (M : MD) : List Cond := Cond.code M.1 M.2.1 M.2.2.1 M.2.2.2 :: gw
/-- calling M with avs over the cells μ: it returns, P of the answer and the cells then; calls go at most d deep, mc cells of ms slots are made -/
def Ct (G : Cx) (d mc ms : Nat) (M : MD) (avs : List Value) (μ : Hp) (P : Option Value → Hp → Prop) : Prop := ∀ (l : Launch) (ad : Nat → Nat), oks μ avs → Met l M.1 (wsOf M) (rmOf d mc ms) (PcOf G ad avs μ) (QcOf G ad μ P) mc ms (cS G)
theorem lg_sl_x (ad : Nat → Nat) : ∀ vs : List Value, (lg_sl (vs.map (xv ad))).length = (lg_sl vs).length
  | [] => rfl
  | v :: vs => by
    have ih := lg_sl_x ad vs
    cases v <;> simp_all [lg_sl, xv, Value.category]
theorem lv_args_x (ad : Nat → Nat) : ∀ (vs : List Value) (i : Nat), lv_args i (vs.map (xv ad)) = xl ad (lv_args i vs)
  | [], _ => rfl
  | v :: vs, i => by
    show (i, xv ad v) :: lv_args _ _ = (i, xv ad v) :: xl ad _
    rw [xv_cat, lv_args_x ad vs]
theorem lv_args_ok {μ : Hp} : ∀ (vs : List Value) (i : Nat), oks μ vs → okl μ (lv_args i vs)
  | [], _, _ => fun q hq => by cases hq
  | v :: vs, i, h => fun q hq => by
    rcases List.mem_cons.mp hq with rfl | hq
    · exact h v List.mem_cons_self
    · exact lv_args_ok vs _ (oks_t h) q hq
theorem Ct.ofV {G : Cx} {d mc ms : Nat} {M : MD} {avs : List Value} {μ : Hp} {P : Option Value → Hp → Prop} (hy : plainName M.1.cls = true) (hl : (lg_sl avs).length ≤ M.2.2.1) (k : V G M d mc ms P 0 (lv_args 0 avs) [] μ) : Ct G d mc ms M avs μ P := by
  intro l ad hok
  refine Met.ofW (cc := M.2.1) (maxL := M.2.2.1) (ret := M.2.2.2) hy rfl ?_
  intro p e s m args below meth c s₁ B hml hv
  obtain ⟨rfl, hW, hT, hR⟩ := hv
  have hts := atoms_spec (ws := wsOf M) B.pre
  have hle := lv_entry (avs.map (xv ad)) (n := M.2.2.1) (by rw [lg_sl_x]; exact hl)
  rw [lg_entry_eq]
  generalize (lg_sl (avs.map (xv ad)) ++ List.replicate (M.2.2.1 - (lg_sl (avs.map (xv ad))).length) Slot.unset).toArray = sl at hle ⊢
  rw [lv_args_x] at hle
  refine k p l e (headSpec (wsOf M) (rmOf d mc ms)).room s m _ below meth c _ ad s.heap [] 0 0 sl ⟨B.exec, B.bytes, hml, B.returns, findClass_of_methodNamed B.named, B.notSynchronized, (name_of_methodNamed B.named B.method).1, fun w hw => hts w (List.mem_cons_of_mem _ hw), hT, Nat.le_refl d, Nat.le_refl (60 * d)⟩ hW va_S.rf hR (lv_args_ok avs 0 hok) (fun v hv => by cases hv) hle (by rw [Nat.zero_add]; exact Nat.le_refl mc) (by rw [Nat.zero_add]; exact Nat.le_refl ms) ?_
  intro r μ' ad' H' locs' cells' slots' pc' sl' hP hW' hag hsb hok' hS' hc hs hret
  have hlocks := B.notSynchronized
  refine W.widen (k := mc) (n := ms) (by omega) (by omega) ?_
  have hq : ∀ (v : Option Value), r.map (xv ad') = v → ∀ t : State, t.heap = H' → s.WarmedH t.vm → QcOf G ad μ P (avs.map (xv ad)).toArray s (.returned v) t := fun v hv t ht _ => ⟨r, μ', ad', by rw [hv], hP, by rw [ht]; exact hW', hag, hsb, hok', hS'.F ht⟩
  have hr := B.returns
  match r, hret with
  | none, hret => exact W.vret B.exec B.bytes (hr.trans hret.2) (hq none rfl) hS'.2.2 hret.1
  | some (.int v), ⟨h1, t, h2, h3⟩ => exact W.zret B.exec B.bytes (hr.trans h2) h3 (hq _ rfl) hS'.2.2 h1
  | some (.long v), hret => exact W.lret B.exec B.bytes (hr.trans hret.2) (hq _ rfl) hS'.2.2 hret.1
  | some (.float v), hret => exact W.fret B.exec B.bytes (hr.trans hret.2) (hq _ rfl) hS'.2.2 hret.1
  | some (.double v), hret => exact W.dret B.exec B.bytes (hr.trans hret.2) (hq _ rfl) hS'.2.2 hret.1
  | some .null, ⟨h1, t, h2, h3⟩ => exact W.aret B.exec B.bytes (hr.trans h2) h3 (Or.inl rfl) (hq _ rfl) hS'.2.2 h1
  | some (.ref a), ⟨h1, t, h2, h3⟩ => exact W.aret B.exec B.bytes (hr.trans h2) h3 (Or.inr ⟨_, rfl⟩) (hq _ rfl) hS'.2.2 h1
  | some (.retAddr a), hret => exact hret.elim
theorem Ct.post {G : Cx} {d mc ms : Nat} {M : MD} {avs : List Value} {μ : Hp} {P P' : Option Value → Hp → Prop} (h : Ct G d mc ms M avs μ P') (hp : ∀ r μ', P' r μ' → P r μ') : Ct G d mc ms M avs μ P := by
  intro l ad hok
  have h1 := h l ad hok
  intro p e a1 a2 a3 s m args below a4 a5 a6 a7
  obtain ⟨t, o, b1, b2, b3, ⟨⟨r, μ', ad', q1, q2, q3⟩, q4⟩⟩ := h1 p e a1 a2 a3 s m args below a4 a5 a6 a7
  exact ⟨t, o, b1, b2, b3, ⟨r, μ', ad', q1, hp _ _ q2, q3⟩, q4⟩
theorem good_gw {M : MD} (h : Cond.code M.1 M.2.1 M.2.2.1 M.2.2.2 ∈ gw) : GoodIn gw (wsOf M) := fun w hw => by
  have h1 : w ∈ gw := by
    rcases List.mem_cons.mp hw with rfl | hw
    · exact h
    · exact hw
  exact ⟨h1, good_of_word (List.mem_filter.mp h1).2⟩
theorem pc_blind {G : Cx} {ad : Nat → Nat} {avs : List Value} {μ : Hp} : FrameBlind (PcOf G ad avs μ) := fun a U g mk q => ⟨q.1, q.2.1, Tb.same (u := U) rfl q.2.2.1, Ro.same (u := U) rfl q.2.2.2⟩
theorem pc_at {G : Cx} {ad : Nat → Nat} {avs : List Value} {μ : Hp} {s : State} {H : Heap} {locs : List Loc} (hW : Wd G ad μ H) (hS : va_S (cS G) s.heap H locs) (hT : Tb G s) (hR : Ro G ad s s.heap) (U : State) (hU : U.heap = H) (hw : s.WarmedH U.vm) : PcOf G ad avs μ (avs.map (xv ad)).toArray U :=
  ⟨rfl, by rw [hU]; exact hW, hT.warm hw, by rw [hU]; exact (hR.kept (fun a h1 h2 => hS.2.1 a h1 h2)).warm hw⟩
section CROWS
variable {G : Cx} {M M' : MD} {d mc ms mc' ms' : Nat} {P P' : Option Value → Hp → Prop} {pc : Nat} {ls : List (Nat × Value)} {st st0 : List Value} {μ : Hp} {avs : List Value} {idx n : Nat}
theorem v_cont {p : Program} {l : Launch} {e : Env} {R : Room} {s : State} {m : MethodId} {args : Array Value} {below : List Frame} {meth : Method} {c : Code} {Q : State → Prop} {ad : Nat → Nat} {H : Heap} {locs : List Loc} {cells slots : Nat} {sl : Array Slot} {a : Array Value} {g0 : List Value}
    (hr : va_Run p l e R s m args below meth c H locs cells slots mc' ms' (F0 m pc sl g0) (st.map (xv ad)) (QcOf G ad μ P' a) (cS G))
    (F : Fr G M d p R s m args meth c) (hS : va_S (cS G) s.heap H locs) (hR : Ro G ad s s.heap) (hl : okl μ ls) (hs : oks μ st) (hsl : lv_has sl M.2.2.1 (xl ad ls)) (h1 : cells + (mc + mc') ≤ R.cells) (h2 : slots + (ms + ms') ≤ R.slots) (hE : En G M p l e R s m args below meth c Q ad μ (cells + (mc + mc')) (slots + (ms + ms')) P)
    (kk : ∀ r μ', P' r μ' → V G M d mc ms P (pc + 3) ls (r.toList ++ st) μ') : W p l e R s m args below meth c H locs cells slots Q (F0 m pc sl g0) := by
  intro T hT X
  obtain ⟨v, st₀, t, T', L, h0, X', hL, e1, e2, ⟨r, μ', ad', hv, hP', hW', hag, hsb, hok', hz, hk⟩, go⟩ := hr T hT X
  obtain rfl : v = r.map (xv ad') := Outcome.returned.inj hv
  rw [h0] at hz hk
  rw [← e1] at hz hk hW'
  have hS' : va_S (cS G) s.heap T'.heap (locs ++ L) := ⟨Nat.le_trans hS.1 hz, fun q a1 a2 => (hk q (Nat.lt_of_lt_of_le a1 hS.1) a2).trans (hS.2.1 q a1 a2), fun q hq => by
    rcases List.mem_append.mp hq with h | h
    · exact hS.2.2 q h
    · exact hL q h⟩
  have hxs : (st.map (xv ad')) = st.map (xv ad) := xvs_ag hs hag
  have hst : (r.toList ++ st).map (xv ad') = (r.map (xv ad')).toList ++ st.map (xv ad) := by
    rw [List.map_append, hxs]
    cases r <;> rfl
  have hxl : xl ad' ls = xl ad ls := List.map_congr_left fun q hq => by rw [xv_ag (hl q hq) hag]
  obtain ⟨t2, a1, b1⟩ := kk r μ' hP' p l e R s m args below meth c Q ad' T'.heap (locs ++ L) (cells + mc') (slots + ms') sl F hW' hS' (hR.ad (fun k hk => hag k (Or.inr hk))) (fun q hq => hsb.okv (hl q hq)) (fun q hq => by
    rcases List.mem_append.mp hq with h | h
    · cases r with
      | none => cases h
      | some u => rw [List.mem_singleton.mp h]; exact hok' u rfl
    · exact hsb.okv (hs q h)) (by rw [hxl]; exact hsl) (by omega) (by omega) (hE.to hag hsb (by omega) (by omega)) T' rfl X'
  refine ⟨t2, go t2 ?_, b1⟩
  rw [hst] at a1
  exact a1
/-- words of a call of a method of ours -/
def CB (M' : MD) (n : Nat) : Prop := Cond.initialized M'.1.cls ∈ gw ∧ Cond.code M'.1 M'.2.1 M'.2.2.1 M'.2.2.2 ∈ gw ∧ (M'.1.cls ≠ "java/lang/invoke/MethodHandle" ∧ M'.1.cls ≠ "java/lang/invoke/VarHandle" ∧ (parseMethodDescriptor M'.1.desc).map (fun d => d.parameters.length) = some n) ∧ M'.2.2.1 ≤ 41
theorem rev_x (ad : Nat → Nat) (avs st : List Value) : (avs.reverse ++ st).map (xv ad) = (avs.map (xv ad)).reverse ++ st.map (xv ad) := by rw [List.map_append, List.map_reverse]
theorem cat_x (ad : Nat → Nat) (st : List Value) (h : (st.map fun v => v.category).sum ≤ 8) : ((st.map (xv ad)).map fun v => v.category).sum ≤ 8 := by
  rw [List.map_map, show ((fun v => v.category) ∘ xv ad) = (fun v : Value => v.category) from funext fun v => xv_cat ad v]
  exact h
theorem cb_of {p : Program} {R : Room} {s : State} {m : MethodId} {args : Array Value} {meth : Method} {c : Code} (F : Fr G M (d + 1) p R s m args meth c) (hB : CB M' n) (hlk : Cond.methodLink M.1.cls idx M'.1 ∈ gw) : CallB R s args M.1.cls idx M'.1 M'.2.1 M'.2.2.1 M'.2.2.2 (wsOf M') (rmOf d mc' ms') mc' ms' n := by
  obtain ⟨f1, f2, f3, f4, f5, f6, f7, f8, f9, f10, f11⟩ := F
  exact callB_of n f8 (good_gw hB.2.1) rfl rfl rfl (f8 _ hB.1) (f8 _ hlk) hB.2.2.1 ⟨f10, by have := hB.2.2.2; show 8 + (M'.2.2.1 + 11) + 60 * d ≤ R.locals; omega⟩
theorem cn_of {host : String} {p : Program} {R : Room} {s : State} {m : MethodId} {args : Array Value} {meth : Method} {c : Code} (F : Fr G M (d + 1) p R s m args meth c) (hB : CB M' n) (hlk : Cond.methodLinkNest M.1.cls idx M'.1 host ∈ nw) : va_CN R s args M.1.cls idx M'.1 host M'.2.1 M'.2.2.1 M'.2.2.2 (wsOf M') (rmOf d mc' ms') mc' ms' n := by
  obtain ⟨f1, f2, f3, f4, f5, f6, f7, f8, f9, f10, f11⟩ := F
  exact va_cnB n f8 (good_gw hB.2.1) rfl rfl rfl (f9.1 _ hlk) (f8 _ hB.1) hB.2.2.1 ⟨f10, by have := hB.2.2.2; show 8 + (M'.2.2.1 + 11) + 60 * d ≤ R.locals; omega⟩
def CS (own : String) (idx : Nat) (M' : MD) (n : Nat) : Prop := CB M' n ∧ Cond.methodLink own idx M'.1 ∈ gw ∧ Cond.static M'.1 ∈ gw
theorem v_callS (hC : Ct G d mc' ms' M' avs μ P') (hw : CS M.1.cls idx M' n) (hd : decode M.2.1 pc = .ok (.invokestatic idx, 3)) (hn : avs.length = n) (hst : st0 = avs.reverse ++ st) (h8 : (st.map fun v => v.category).sum ≤ 8)
    (kk : ∀ r μ', P' r μ' → V G M (d + 1) mc ms P (pc + 3) ls (r.toList ++ st) μ') : V G M (d + 1) (mc + mc') (ms + ms') P pc ls st0 μ := by
  subst hst
  intro p l e R s m args below meth c Q ad H locs cells slots sl F hW hS hR hl hs hsl h1 h2 hE
  have ha : oks μ avs := fun v hv => hs v (List.mem_append_left _ (List.mem_reverse.mpr hv))
  have hr : oks μ st := fun v hv => hs v (List.mem_append_right _ hv)
  rw [rev_x]
  exact v_cont (va_runS (As := avs.map (xv ad)) (rest := st.map (xv ad)) ⟨F.1, F.2.1, F.2.2.1, F.2.2.2.2.1, F.2.2.2.2.2.2.2.1⟩ (hC l ad ha) ⟨cb_of F hw.1 hw.2.1, F.2.2.2.2.2.2.2.1 _ hw.2.2⟩ ⟨pc_blind, pc_at hW hS F.2.2.2.2.2.2.2.2.1 hR⟩ rfl (by rw [List.length_map]; exact hn) hsl.1 rfl (lv_room (cat_x ad st h8)) hd ⟨by omega, by omega⟩) F hS hR hl hr hsl h1 h2 hE kk
def CSN (own : String) (idx : Nat) (M' : MD) (n : Nat) (host : String) : Prop := CB M' n ∧ Cond.methodLinkNest own idx M'.1 host ∈ nw ∧ Cond.static M'.1 ∈ gw
theorem v_callSN {host : String} (hC : Ct G d mc' ms' M' avs μ P') (hw : CSN M.1.cls idx M' n host) (hd : decode M.2.1 pc = .ok (.invokestatic idx, 3)) (hn : avs.length = n) (hst : st0 = avs.reverse ++ st) (h8 : (st.map fun v => v.category).sum ≤ 8)
    (kk : ∀ r μ', P' r μ' → V G M (d + 1) mc ms P (pc + 3) ls (r.toList ++ st) μ') : V G M (d + 1) (mc + mc') (ms + ms') P pc ls st0 μ := by
  subst hst
  intro p l e R s m args below meth c Q ad H locs cells slots sl F hW hS hR hl hs hsl h1 h2 hE
  have ha : oks μ avs := fun v hv => hs v (List.mem_append_left _ (List.mem_reverse.mpr hv))
  have hr : oks μ st := fun v hv => hs v (List.mem_append_right _ hv)
  rw [rev_x]
  exact v_cont (va_runSN (As := avs.map (xv ad)) (rest := st.map (xv ad)) ⟨F.1, F.2.1, F.2.2.1, F.2.2.2.2.1, F.2.2.2.2.2.2.2.1⟩ (hC l ad ha) ⟨cn_of F hw.1 hw.2.1, F.2.2.2.2.2.2.2.1 _ hw.2.2, trivial⟩ ⟨pc_blind, pc_at hW hS F.2.2.2.2.2.2.2.2.1 hR⟩ rfl (by rw [List.length_map]; exact hn) hsl.1 rfl (lv_room (cat_x ad st h8)) hd ⟨by omega, by omega⟩) F hS hR hl hr hsl h1 h2 hE kk
/-- a receiver of class ci -/
theorem recv_cl {p : Program} {R : Room} {s : State} {m : MethodId} {args : Array Value} {meth : Method} {c : Code} {ad : Nat → Nat} {H : Heap} {b ci : Nat} {fs : List Value} {q : vw_C} (F : Fr G M d p R s m args meth c) (hW : Wd G ad μ H) (hμ : μ b = some (.inr (ci, fs))) (hc : vwCl[ci]? = some q) : ∃ cell : Cell, H[ad b]? = some cell ∧ cell.vm.isStatics = false ∧ s.vm.findClass q.1 = some cell.cls :=
  va_recv (ws := [(ad b, .inr (ci, fs.map (xv ad)))]) (q0 := 0) F.2.2.2.2.2.2.2.2.1.2 (va_P1 (hW.mut hμ)) hc rfl
def CV (own : String) (idx : Nat) (M' : MD) (n ci : Nat) : Prop := CB M' n ∧ Cond.methodLink own idx M'.1 ∈ gw ∧ Cond.instanceMethod M'.1 ∈ gw ∧ Cond.selects M'.1.cls M'.1 M'.1 ∈ gw ∧ ∃ q, vwCl[ci]? = some q ∧ q.1 = M'.1.cls
theorem v_callV {b ci : Nat} {fs : List Value} (hC : Ct G d mc' ms' M' (.ref b :: avs) μ P') (hw : CV M.1.cls idx M' n ci) (hd : decode M.2.1 pc = .ok (.invokevirtual idx, 3)) (hμ : μ b = some (.inr (ci, fs))) (hn : avs.length = n) (hst : st0 = avs.reverse ++ .ref b :: st) (h8 : (st.map fun v => v.category).sum ≤ 8)
    (kk : ∀ r μ', P' r μ' → V G M (d + 1) mc ms P (pc + 3) ls (r.toList ++ st) μ') : V G M (d + 1) (mc + mc') (ms + ms') P pc ls st0 μ := by
  subst hst
  intro p l e R s m args below meth c Q ad H locs cells slots sl F hW hS hR hl hs hsl h1 h2 hE
  have ha : oks μ (.ref b :: avs) := oks_c (hs _ (List.mem_append_right _ List.mem_cons_self)) (fun v hv => hs v (List.mem_append_left _ (List.mem_reverse.mpr hv)))
  have hr : oks μ st := fun v hv => hs v (List.mem_append_right _ (List.mem_cons_of_mem _ hv))
  rw [rev_x]
  obtain ⟨q, hq, hqe⟩ := hw.2.2.2.2
  obtain ⟨cell, w1, w2, w3⟩ := recv_cl F hW hμ hq
  rw [hqe] at w3
  exact v_cont (va_runV (C := M'.1.cls) (b := ad b) (As := avs.map (xv ad)) (rest := st.map (xv ad)) ⟨F.1, F.2.1, F.2.2.1, F.2.2.2.2.1, F.2.2.2.2.2.2.2.1⟩ (hC l ad ha) ⟨cb_of F hw.1 hw.2.1, F.2.2.2.2.2.2.2.1 _ hw.2.2.1, F.2.2.2.2.2.2.2.1 _ hw.2.2.2.1⟩ ⟨pc_blind, ⟨cell, w1, w2, w3⟩, pc_at hW hS F.2.2.2.2.2.2.2.2.1 hR⟩ rfl (by rw [List.length_map]; exact hn) hsl.1 rfl (lv_room (cat_x ad st h8)) hd ⟨by omega, by omega⟩) F hS hR hl hr hsl h1 h2 hE kk
def CI (own : String) (idx : Nat) (M' : MD) (n : Nat) : Prop := CB M' n ∧ Cond.methodLink own idx M'.1 ∈ gw ∧ Cond.instanceMethod M'.1 ∈ gw ∧ M'.1.name = "<init>" ∧ M'.2.2.2 = none
theorem v_callI {b : Nat} (hC : Ct G d mc' ms' M' (.ref b :: avs) μ P') (hw : CI M.1.cls idx M' n) (hd : decode M.2.1 pc = .ok (.invokespecial idx, 3)) (hn : avs.length = n) (hst : st0 = avs.reverse ++ .ref b :: st) (h8 : (st.map fun v => v.category).sum ≤ 8)
    (kk : ∀ r μ', P' r μ' → V G M (d + 1) mc ms P (pc + 3) ls (r.toList ++ st) μ') : V G M (d + 1) (mc + mc') (ms + ms') P pc ls st0 μ := by
  subst hst
  intro p l e R s m args below meth c Q ad H locs cells slots sl F hW hS hR hl hs hsl h1 h2 hE
  have ha : oks μ (.ref b :: avs) := oks_c (hs _ (List.mem_append_right _ List.mem_cons_self)) (fun v hv => hs v (List.mem_append_left _ (List.mem_reverse.mpr hv)))
  have hr : oks μ st := fun v hv => hs v (List.mem_append_right _ (List.mem_cons_of_mem _ hv))
  rw [rev_x]
  have hcb := cb_of (mc' := mc') (ms' := ms') F hw.1 hw.2.1
  rw [hw.2.2.2.2] at hcb
  exact v_cont (va_runI (b := ad b) (As := avs.map (xv ad)) (rest := st.map (xv ad)) ⟨F.1, F.2.1, F.2.2.1, F.2.2.2.2.1, F.2.2.2.2.2.2.2.1⟩ (hC l ad ha) ⟨hcb, hw.2.2.2.1, F.2.2.2.2.2.2.2.1 _ hw.2.2.1⟩ ⟨pc_blind, pc_at hW hS F.2.2.2.2.2.2.2.2.1 hR⟩ rfl (by rw [List.length_map]; exact hn) hsl.1 rfl (lv_room (cat_x ad st h8)) hd ⟨by omega, by omega⟩) F hS hR hl hr hsl h1 h2 hE kk
def CIN (own : String) (idx : Nat) (M' : MD) (n : Nat) (host : String) : Prop := CB M' n ∧ Cond.methodLinkNest own idx M'.1 host ∈ nw ∧ Cond.instanceMethod M'.1 ∈ gw ∧ M'.1.name = "<init>" ∧ M'.2.2.2 = none
theorem v_callIN {b : Nat} {host : String} (hC : Ct G d mc' ms' M' (.ref b :: avs) μ P') (hw : CIN M.1.cls idx M' n host) (hd : decode M.2.1 pc = .ok (.invokespecial idx, 3)) (hn : avs.length = n) (hst : st0 = avs.reverse ++ .ref b :: st) (h8 : (st.map fun v => v.category).sum ≤ 8)
    (kk : ∀ r μ', P' r μ' → V G M (d + 1) mc ms P (pc + 3) ls (r.toList ++ st) μ') : V G M (d + 1) (mc + mc') (ms + ms') P pc ls st0 μ := by
  subst hst
  intro p l e R s m args below meth c Q ad H locs cells slots sl F hW hS hR hl hs hsl h1 h2 hE
  have ha : oks μ (.ref b :: avs) := oks_c (hs _ (List.mem_append_right _ List.mem_cons_self)) (fun v hv => hs v (List.mem_append_left _ (List.mem_reverse.mpr hv)))
  have hr : oks μ st := fun v hv => hs v (List.mem_append_right _ (List.mem_cons_of_mem _ hv))
  rw [rev_x]
  have hcb := cn_of (mc' := mc') (ms' := ms') F hw.1 hw.2.1
  rw [hw.2.2.2.2] at hcb
  exact v_cont (va_runIN (b := ad b) (As := avs.map (xv ad)) (rest := st.map (xv ad)) ⟨F.1, F.2.1, F.2.2.1, F.2.2.2.2.1, F.2.2.2.2.2.2.2.1⟩ (hC l ad ha) ⟨hcb, hw.2.2.2.1, F.2.2.2.2.2.2.2.1 _ hw.2.2.1⟩ ⟨pc_blind, pc_at hW hS F.2.2.2.2.2.2.2.2.1 hR⟩ rfl (by rw [List.length_map]; exact hn) hsl.1 rfl (lv_room (cat_x ad st h8)) hd ⟨by omega, by omega⟩) F hS hR hl hr hsl h1 h2 hE kk
end CROWS
end
