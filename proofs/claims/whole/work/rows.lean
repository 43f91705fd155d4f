section
-- ===== PART A: goes FIRST, ahead of the names: the tables' words, and 'selects' of the private methods out of them =====
/-- a private method of a class that the tables say can be made, by its rows of tables_1 -/
def lw_okq (q : MethodName × Nat) : Prop := (q.1.cls ≠ "java/lang/invoke/MethodHandle" ∧ q.1.cls ≠ "java/lang/invoke/VarHandle") ∧ Cond.instantiable q.1.cls q.2 ∈ tables_1 ∧ Cond.privateMethod q.1 ∈ tables_1 ∧ Cond.instanceMethod q.1 ∈ tables_1
theorem lw_p0 : lw_okq (⟨"FilterPile$Light", "isWithin", "(J)Z"⟩, 5) := ⟨⟨by decide +kernel, by decide +kernel⟩, List.mem_of_getElem? (i := 39) (by decide +kernel), List.mem_of_getElem? (i := 291) (by decide +kernel), List.mem_of_getElem? (i := 292) (by decide +kernel)⟩
theorem lw_p1 : lw_okq (⟨"FilterPile", "isBehind", "(I)Z"⟩, 13) := ⟨⟨by decide +kernel, by decide +kernel⟩, List.mem_of_getElem? (i := 25) (by decide +kernel), List.mem_of_getElem? (i := 401) (by decide +kernel), List.mem_of_getElem? (i := 402) (by decide +kernel)⟩
theorem lw_p2 : lw_okq (⟨"FilterPile", "shineBehind", "(I)V"⟩, 13) := ⟨⟨by decide +kernel, by decide +kernel⟩, List.mem_of_getElem? (i := 25) (by decide +kernel), List.mem_of_getElem? (i := 409) (by decide +kernel), List.mem_of_getElem? (i := 410) (by decide +kernel)⟩
theorem lw_p3 : lw_okq (⟨"FilterPile$Light", "passGrey", "(II)V"⟩, 5) := ⟨⟨by decide +kernel, by decide +kernel⟩, List.mem_of_getElem? (i := 39) (by decide +kernel), List.mem_of_getElem? (i := 423) (by decide +kernel), List.mem_of_getElem? (i := 424) (by decide +kernel)⟩
theorem lw_p4 : lw_okq (⟨"FilterPile$Light", "passSheet", "(III)V"⟩, 5) := ⟨⟨by decide +kernel, by decide +kernel⟩, List.mem_of_getElem? (i := 39) (by decide +kernel), List.mem_of_getElem? (i := 430) (by decide +kernel), List.mem_of_getElem? (i := 431) (by decide +kernel)⟩
theorem lw_p5 : lw_okq (⟨"FilterPile$Light", "turnQuarter", "(I)V"⟩, 5) := ⟨⟨by decide +kernel, by decide +kernel⟩, List.mem_of_getElem? (i := 39) (by decide +kernel), List.mem_of_getElem? (i := 436) (by decide +kernel), List.mem_of_getElem? (i := 437) (by decide +kernel)⟩
theorem lw_p6 : lw_okq (⟨"FilterPile", "leftInBeam", "(I)J"⟩, 13) := ⟨⟨by decide +kernel, by decide +kernel⟩, List.mem_of_getElem? (i := 25) (by decide +kernel), List.mem_of_getElem? (i := 455) (by decide +kernel), List.mem_of_getElem? (i := 456) (by decide +kernel)⟩
theorem lw_p7 : lw_okq (⟨"FilterPile", "squaresAreOver", "()Z"⟩, 13) := ⟨⟨by decide +kernel, by decide +kernel⟩, List.mem_of_getElem? (i := 25) (by decide +kernel), List.mem_of_getElem? (i := 476) (by decide +kernel), List.mem_of_getElem? (i := 477) (by decide +kernel)⟩
theorem lw_p8 : lw_okq (⟨"FilterPile$Orders", "goOn", "(LFilterPile$Bench;LFilterPile$Outcomes;III)V"⟩, 1) := ⟨⟨by decide +kernel, by decide +kernel⟩, List.mem_of_getElem? (i := 192) (by decide +kernel), List.mem_of_getElem? (i := 521) (by decide +kernel), List.mem_of_getElem? (i := 522) (by decide +kernel)⟩
theorem lw_p9 : lw_okq (⟨"FilterPile$Outcomes", "remember", "(LFilterPile$Light;)V"⟩, 7) := ⟨⟨by decide +kernel, by decide +kernel⟩, List.mem_of_getElem? (i := 157) (by decide +kernel), List.mem_of_getElem? (i := 540) (by decide +kernel), List.mem_of_getElem? (i := 541) (by decide +kernel)⟩
theorem lw_p10 : lw_okq (⟨"FilterPile$Outcomes", "isSeen", "(ILFilterPile$Light;)Z"⟩, 7) := ⟨⟨by decide +kernel, by decide +kernel⟩, List.mem_of_getElem? (i := 157) (by decide +kernel), List.mem_of_getElem? (i := 544) (by decide +kernel), List.mem_of_getElem? (i := 545) (by decide +kernel)⟩
theorem lw_p11 : lw_okq (⟨"FilterPile", "shineOn", "(II)V"⟩, 13) := ⟨⟨by decide +kernel, by decide +kernel⟩, List.mem_of_getElem? (i := 25) (by decide +kernel), List.mem_of_getElem? (i := 582) (by decide +kernel), List.mem_of_getElem? (i := 583) (by decide +kernel)⟩
theorem lw_p12 : lw_okq (⟨"FilterPile", "isCrossed", "(II)Z"⟩, 13) := ⟨⟨by decide +kernel, by decide +kernel⟩, List.mem_of_getElem? (i := 25) (by decide +kernel), List.mem_of_getElem? (i := 599) (by decide +kernel), List.mem_of_getElem? (i := 600) (by decide +kernel)⟩
theorem lw_p13 : lw_okq (⟨"FilterPile", "makeList", "(II)V"⟩, 13) := ⟨⟨by decide +kernel, by decide +kernel⟩, List.mem_of_getElem? (i := 25) (by decide +kernel), List.mem_of_getElem? (i := 618) (by decide +kernel), List.mem_of_getElem? (i := 619) (by decide +kernel)⟩
theorem lw_p14 : lw_okq (⟨"FilterPile", "isMissing", "(I)Z"⟩, 13) := ⟨⟨by decide +kernel, by decide +kernel⟩, List.mem_of_getElem? (i := 25) (by decide +kernel), List.mem_of_getElem? (i := 626) (by decide +kernel), List.mem_of_getElem? (i := 627) (by decide +kernel)⟩
theorem lw_p15 : lw_okq (⟨"FilterPile", "hasListPlace", "(II)Z"⟩, 13) := ⟨⟨by decide +kernel, by decide +kernel⟩, List.mem_of_getElem? (i := 25) (by decide +kernel), List.mem_of_getElem? (i := 630) (by decide +kernel), List.mem_of_getElem? (i := 631) (by decide +kernel)⟩
def lw_privs_1 : List (MethodName × Nat) := [(⟨"FilterPile$Light", "isWithin", "(J)Z"⟩, 5), (⟨"FilterPile", "isBehind", "(I)Z"⟩, 13), (⟨"FilterPile", "shineBehind", "(I)V"⟩, 13), (⟨"FilterPile$Light", "passGrey", "(II)V"⟩, 5), (⟨"FilterPile$Light", "passSheet", "(III)V"⟩, 5), (⟨"FilterPile$Light", "turnQuarter", "(I)V"⟩, 5), (⟨"FilterPile", "leftInBeam", "(I)J"⟩, 13), (⟨"FilterPile", "squaresAreOver", "()Z"⟩, 13), (⟨"FilterPile$Orders", "goOn", "(LFilterPile$Bench;LFilterPile$Outcomes;III)V"⟩, 1), (⟨"FilterPile$Outcomes", "remember", "(LFilterPile$Light;)V"⟩, 7), (⟨"FilterPile$Outcomes", "isSeen", "(ILFilterPile$Light;)Z"⟩, 7), (⟨"FilterPile", "shineOn", "(II)V"⟩, 13), (⟨"FilterPile", "isCrossed", "(II)Z"⟩, 13), (⟨"FilterPile", "makeList", "(II)V"⟩, 13), (⟨"FilterPile", "isMissing", "(I)Z"⟩, 13), (⟨"FilterPile", "hasListPlace", "(II)Z"⟩, 13)]
theorem lw_r1 : ∀ q ∈ lw_privs_1, lw_okq q := List.forall_mem_cons.mpr ⟨lw_p0, List.forall_mem_cons.mpr ⟨lw_p1, List.forall_mem_cons.mpr ⟨lw_p2, List.forall_mem_cons.mpr ⟨lw_p3, List.forall_mem_cons.mpr ⟨lw_p4, List.forall_mem_cons.mpr ⟨lw_p5, List.forall_mem_cons.mpr ⟨lw_p6, List.forall_mem_cons.mpr ⟨lw_p7, List.forall_mem_cons.mpr ⟨lw_p8, List.forall_mem_cons.mpr ⟨lw_p9, List.forall_mem_cons.mpr ⟨lw_p10, List.forall_mem_cons.mpr ⟨lw_p11, List.forall_mem_cons.mpr ⟨lw_p12, List.forall_mem_cons.mpr ⟨lw_p13, List.forall_mem_cons.mpr ⟨lw_p14, List.forall_mem_cons.mpr ⟨lw_p15, fun _ h => absurd h List.not_mem_nil⟩⟩⟩⟩⟩⟩⟩⟩⟩⟩⟩⟩⟩⟩⟩⟩
theorem lw_p16 : lw_okq (⟨"FilterPile", "refind", "(I)Z"⟩, 13) := ⟨⟨by decide +kernel, by decide +kernel⟩, List.mem_of_getElem? (i := 25) (by decide +kernel), List.mem_of_getElem? (i := 650) (by decide +kernel), List.mem_of_getElem? (i := 651) (by decide +kernel)⟩
theorem lw_p17 : lw_okq (⟨"FilterPile", "tellLight", "(I)Z"⟩, 13) := ⟨⟨by decide +kernel, by decide +kernel⟩, List.mem_of_getElem? (i := 25) (by decide +kernel), List.mem_of_getElem? (i := 664) (by decide +kernel), List.mem_of_getElem? (i := 665) (by decide +kernel)⟩
theorem lw_p18 : lw_okq (⟨"FilterPile", "measure", "(I)D"⟩, 13) := ⟨⟨by decide +kernel, by decide +kernel⟩, List.mem_of_getElem? (i := 25) (by decide +kernel), List.mem_of_getElem? (i := 689) (by decide +kernel), List.mem_of_getElem? (i := 690) (by decide +kernel)⟩
theorem lw_p19 : lw_okq (⟨"FilterPile", "rackedCode", "(II)I"⟩, 13) := ⟨⟨by decide +kernel, by decide +kernel⟩, List.mem_of_getElem? (i := 25) (by decide +kernel), List.mem_of_getElem? (i := 741) (by decide +kernel), List.mem_of_getElem? (i := 742) (by decide +kernel)⟩
theorem lw_p20 : lw_okq (⟨"FilterPile$Reader", "readsItems", "()Z"⟩, 7) := ⟨⟨by decide +kernel, by decide +kernel⟩, List.mem_of_getElem? (i := 102) (by decide +kernel), List.mem_of_getElem? (i := 777) (by decide +kernel), List.mem_of_getElem? (i := 778) (by decide +kernel)⟩
theorem lw_p21 : lw_okq (⟨"FilterPile$Reader", "readsItem", "()Z"⟩, 7) := ⟨⟨by decide +kernel, by decide +kernel⟩, List.mem_of_getElem? (i := 102) (by decide +kernel), List.mem_of_getElem? (i := 781) (by decide +kernel), List.mem_of_getElem? (i := 782) (by decide +kernel)⟩
theorem lw_p22 : lw_okq (⟨"FilterPile$Reader", "next", "()I"⟩, 7) := ⟨⟨by decide +kernel, by decide +kernel⟩, List.mem_of_getElem? (i := 102) (by decide +kernel), List.mem_of_getElem? (i := 785) (by decide +kernel), List.mem_of_getElem? (i := 786) (by decide +kernel)⟩
theorem lw_p23 : lw_okq (⟨"FilterPile$Reader", "readsFilter", "(I)Z"⟩, 7) := ⟨⟨by decide +kernel, by decide +kernel⟩, List.mem_of_getElem? (i := 102) (by decide +kernel), List.mem_of_getElem? (i := 873) (by decide +kernel), List.mem_of_getElem? (i := 874) (by decide +kernel)⟩
theorem lw_p24 : lw_okq (⟨"FilterPile$Reader", "takeFigure", "(I)I"⟩, 7) := ⟨⟨by decide +kernel, by decide +kernel⟩, List.mem_of_getElem? (i := 102) (by decide +kernel), List.mem_of_getElem? (i := 880) (by decide +kernel), List.mem_of_getElem? (i := 881) (by decide +kernel)⟩
theorem lw_p25 : lw_okq (⟨"FilterPile$Reader", "takes", "(C)Z"⟩, 7) := ⟨⟨by decide +kernel, by decide +kernel⟩, List.mem_of_getElem? (i := 102) (by decide +kernel), List.mem_of_getElem? (i := 887) (by decide +kernel), List.mem_of_getElem? (i := 888) (by decide +kernel)⟩
theorem lw_p26 : lw_okq (⟨"FilterPile$Reader", "takeNumber", "()I"⟩, 7) := ⟨⟨by decide +kernel, by decide +kernel⟩, List.mem_of_getElem? (i := 102) (by decide +kernel), List.mem_of_getElem? (i := 891) (by decide +kernel), List.mem_of_getElem? (i := 892) (by decide +kernel)⟩
theorem lw_p27 : lw_okq (⟨"FilterPile$Reader", "keep", "(I)V"⟩, 7) := ⟨⟨by decide +kernel, by decide +kernel⟩, List.mem_of_getElem? (i := 102) (by decide +kernel), List.mem_of_getElem? (i := 897) (by decide +kernel), List.mem_of_getElem? (i := 898) (by decide +kernel)⟩
theorem lw_p28 : lw_okq (⟨"FilterPile$Reader", "readsGroup", "()Z"⟩, 7) := ⟨⟨by decide +kernel, by decide +kernel⟩, List.mem_of_getElem? (i := 102) (by decide +kernel), List.mem_of_getElem? (i := 901) (by decide +kernel), List.mem_of_getElem? (i := 902) (by decide +kernel)⟩
theorem lw_p29 : lw_okq (⟨"FilterPile$Reader", "repeat", "(II)V"⟩, 7) := ⟨⟨by decide +kernel, by decide +kernel⟩, List.mem_of_getElem? (i := 102) (by decide +kernel), List.mem_of_getElem? (i := 905) (by decide +kernel), List.mem_of_getElem? (i := 906) (by decide +kernel)⟩
theorem lw_p30 : lw_okq (⟨"FilterPile", "spell", "()V"⟩, 13) := ⟨⟨by decide +kernel, by decide +kernel⟩, List.mem_of_getElem? (i := 25) (by decide +kernel), List.mem_of_getElem? (i := 920) (by decide +kernel), List.mem_of_getElem? (i := 921) (by decide +kernel)⟩
theorem lw_p31 : lw_okq (⟨"FilterPile", "spellFilter", "(I)V"⟩, 13) := ⟨⟨by decide +kernel, by decide +kernel⟩, List.mem_of_getElem? (i := 25) (by decide +kernel), List.mem_of_getElem? (i := 1022) (by decide +kernel), List.mem_of_getElem? (i := 1023) (by decide +kernel)⟩
def lw_privs_2 : List (MethodName × Nat) := [(⟨"FilterPile", "refind", "(I)Z"⟩, 13), (⟨"FilterPile", "tellLight", "(I)Z"⟩, 13), (⟨"FilterPile", "measure", "(I)D"⟩, 13), (⟨"FilterPile", "rackedCode", "(II)I"⟩, 13), (⟨"FilterPile$Reader", "readsItems", "()Z"⟩, 7), (⟨"FilterPile$Reader", "readsItem", "()Z"⟩, 7), (⟨"FilterPile$Reader", "next", "()I"⟩, 7), (⟨"FilterPile$Reader", "readsFilter", "(I)Z"⟩, 7), (⟨"FilterPile$Reader", "takeFigure", "(I)I"⟩, 7), (⟨"FilterPile$Reader", "takes", "(C)Z"⟩, 7), (⟨"FilterPile$Reader", "takeNumber", "()I"⟩, 7), (⟨"FilterPile$Reader", "keep", "(I)V"⟩, 7), (⟨"FilterPile$Reader", "readsGroup", "()Z"⟩, 7), (⟨"FilterPile$Reader", "repeat", "(II)V"⟩, 7), (⟨"FilterPile", "spell", "()V"⟩, 13), (⟨"FilterPile", "spellFilter", "(I)V"⟩, 13)]
theorem lw_r2 : ∀ q ∈ lw_privs_2, lw_okq q := List.forall_mem_cons.mpr ⟨lw_p16, List.forall_mem_cons.mpr ⟨lw_p17, List.forall_mem_cons.mpr ⟨lw_p18, List.forall_mem_cons.mpr ⟨lw_p19, List.forall_mem_cons.mpr ⟨lw_p20, List.forall_mem_cons.mpr ⟨lw_p21, List.forall_mem_cons.mpr ⟨lw_p22, List.forall_mem_cons.mpr ⟨lw_p23, List.forall_mem_cons.mpr ⟨lw_p24, List.forall_mem_cons.mpr ⟨lw_p25, List.forall_mem_cons.mpr ⟨lw_p26, List.forall_mem_cons.mpr ⟨lw_p27, List.forall_mem_cons.mpr ⟨lw_p28, List.forall_mem_cons.mpr ⟨lw_p29, List.forall_mem_cons.mpr ⟨lw_p30, List.forall_mem_cons.mpr ⟨lw_p31, fun _ h => absurd h List.not_mem_nil⟩⟩⟩⟩⟩⟩⟩⟩⟩⟩⟩⟩⟩⟩⟩⟩
theorem lw_p32 : lw_okq (⟨"FilterPileModel", "adds", "(I)I"⟩, 40) := ⟨⟨by decide +kernel, by decide +kernel⟩, List.mem_of_getElem? (i := 1104) (by decide +kernel), List.mem_of_getElem? (i := 1252) (by decide +kernel), List.mem_of_getElem? (i := 1253) (by decide +kernel)⟩
theorem lw_p33 : lw_okq (⟨"FilterPileModel", "isFilter", "(I)Z"⟩, 40) := ⟨⟨by decide +kernel, by decide +kernel⟩, List.mem_of_getElem? (i := 1104) (by decide +kernel), List.mem_of_getElem? (i := 1260) (by decide +kernel), List.mem_of_getElem? (i := 1261) (by decide +kernel)⟩
theorem lw_p34 : lw_okq (⟨"FilterPileModel", "takesOut", "(I)V"⟩, 40) := ⟨⟨by decide +kernel, by decide +kernel⟩, List.mem_of_getElem? (i := 1104) (by decide +kernel), List.mem_of_getElem? (i := 1288) (by decide +kernel), List.mem_of_getElem? (i := 1289) (by decide +kernel)⟩
theorem lw_p35 : lw_okq (⟨"FilterPileModel", "isBehind", "(I)Z"⟩, 40) := ⟨⟨by decide +kernel, by decide +kernel⟩, List.mem_of_getElem? (i := 1104) (by decide +kernel), List.mem_of_getElem? (i := 1321) (by decide +kernel), List.mem_of_getElem? (i := 1322) (by decide +kernel)⟩
theorem lw_p36 : lw_okq (⟨"FilterPileModel", "behind", "(I)V"⟩, 40) := ⟨⟨by decide +kernel, by decide +kernel⟩, List.mem_of_getElem? (i := 1104) (by decide +kernel), List.mem_of_getElem? (i := 1327) (by decide +kernel), List.mem_of_getElem? (i := 1328) (by decide +kernel)⟩
theorem lw_p37 : lw_okq (⟨"FilterPileModel", "begins", "([J)V"⟩, 40) := ⟨⟨by decide +kernel, by decide +kernel⟩, List.mem_of_getElem? (i := 1104) (by decide +kernel), List.mem_of_getElem? (i := 1331) (by decide +kernel), List.mem_of_getElem? (i := 1332) (by decide +kernel)⟩
theorem lw_p38 : lw_okq (⟨"FilterPileModel", "leftNow", "(I)J"⟩, 40) := ⟨⟨by decide +kernel, by decide +kernel⟩, List.mem_of_getElem? (i := 1104) (by decide +kernel), List.mem_of_getElem? (i := 1363) (by decide +kernel), List.mem_of_getElem? (i := 1364) (by decide +kernel)⟩
theorem lw_p39 : lw_okq (⟨"FilterPileModel", "findsDegree", "()Z"⟩, 40) := ⟨⟨by decide +kernel, by decide +kernel⟩, List.mem_of_getElem? (i := 1104) (by decide +kernel), List.mem_of_getElem? (i := 1377) (by decide +kernel), List.mem_of_getElem? (i := 1378) (by decide +kernel)⟩
theorem lw_p40 : lw_okq (⟨"FilterPileModel", "tells", "(II)V"⟩, 40) := ⟨⟨by decide +kernel, by decide +kernel⟩, List.mem_of_getElem? (i := 1104) (by decide +kernel), List.mem_of_getElem? (i := 1383) (by decide +kernel), List.mem_of_getElem? (i := 1384) (by decide +kernel)⟩
theorem lw_p41 : lw_okq (⟨"FilterPileModel", "findsOrders", "()V"⟩, 40) := ⟨⟨by decide +kernel, by decide +kernel⟩, List.mem_of_getElem? (i := 1104) (by decide +kernel), List.mem_of_getElem? (i := 1395) (by decide +kernel), List.mem_of_getElem? (i := 1396) (by decide +kernel)⟩
theorem lw_p42 : lw_okq (⟨"FilterPileModel", "goesOrders", "(II)V"⟩, 40) := ⟨⟨by decide +kernel, by decide +kernel⟩, List.mem_of_getElem? (i := 1104) (by decide +kernel), List.mem_of_getElem? (i := 1399) (by decide +kernel), List.mem_of_getElem? (i := 1400) (by decide +kernel)⟩
theorem lw_p43 : lw_okq (⟨"FilterPileModel", "sees", "()V"⟩, 40) := ⟨⟨by decide +kernel, by decide +kernel⟩, List.mem_of_getElem? (i := 1104) (by decide +kernel), List.mem_of_getElem? (i := 1403) (by decide +kernel), List.mem_of_getElem? (i := 1404) (by decide +kernel)⟩
theorem lw_p44 : lw_okq (⟨"FilterPileModel", "begins1", "(I)V"⟩, 40) := ⟨⟨by decide +kernel, by decide +kernel⟩, List.mem_of_getElem? (i := 1104) (by decide +kernel), List.mem_of_getElem? (i := 1421) (by decide +kernel), List.mem_of_getElem? (i := 1422) (by decide +kernel)⟩
theorem lw_p45 : lw_okq (⟨"FilterPileModel", "becomes", "(II)V"⟩, 40) := ⟨⟨by decide +kernel, by decide +kernel⟩, List.mem_of_getElem? (i := 1104) (by decide +kernel), List.mem_of_getElem? (i := 1456) (by decide +kernel), List.mem_of_getElem? (i := 1457) (by decide +kernel)⟩
theorem lw_p46 : lw_okq (⟨"FilterPileModel", "lays", "(I)I"⟩, 40) := ⟨⟨by decide +kernel, by decide +kernel⟩, List.mem_of_getElem? (i := 1104) (by decide +kernel), List.mem_of_getElem? (i := 1472) (by decide +kernel), List.mem_of_getElem? (i := 1473) (by decide +kernel)⟩
theorem lw_p47 : lw_okq (⟨"FilterPileModel", "hasFive", "(I)Z"⟩, 40) := ⟨⟨by decide +kernel, by decide +kernel⟩, List.mem_of_getElem? (i := 1104) (by decide +kernel), List.mem_of_getElem? (i := 1484) (by decide +kernel), List.mem_of_getElem? (i := 1485) (by decide +kernel)⟩
def lw_privs_3 : List (MethodName × Nat) := [(⟨"FilterPileModel", "adds", "(I)I"⟩, 40), (⟨"FilterPileModel", "isFilter", "(I)Z"⟩, 40), (⟨"FilterPileModel", "takesOut", "(I)V"⟩, 40), (⟨"FilterPileModel", "isBehind", "(I)Z"⟩, 40), (⟨"FilterPileModel", "behind", "(I)V"⟩, 40), (⟨"FilterPileModel", "begins", "([J)V"⟩, 40), (⟨"FilterPileModel", "leftNow", "(I)J"⟩, 40), (⟨"FilterPileModel", "findsDegree", "()Z"⟩, 40), (⟨"FilterPileModel", "tells", "(II)V"⟩, 40), (⟨"FilterPileModel", "findsOrders", "()V"⟩, 40), (⟨"FilterPileModel", "goesOrders", "(II)V"⟩, 40), (⟨"FilterPileModel", "sees", "()V"⟩, 40), (⟨"FilterPileModel", "begins1", "(I)V"⟩, 40), (⟨"FilterPileModel", "becomes", "(II)V"⟩, 40), (⟨"FilterPileModel", "lays", "(I)I"⟩, 40), (⟨"FilterPileModel", "hasFive", "(I)Z"⟩, 40)]
theorem lw_r3 : ∀ q ∈ lw_privs_3, lw_okq q := List.forall_mem_cons.mpr ⟨lw_p32, List.forall_mem_cons.mpr ⟨lw_p33, List.forall_mem_cons.mpr ⟨lw_p34, List.forall_mem_cons.mpr ⟨lw_p35, List.forall_mem_cons.mpr ⟨lw_p36, List.forall_mem_cons.mpr ⟨lw_p37, List.forall_mem_cons.mpr ⟨lw_p38, List.forall_mem_cons.mpr ⟨lw_p39, List.forall_mem_cons.mpr ⟨lw_p40, List.forall_mem_cons.mpr ⟨lw_p41, List.forall_mem_cons.mpr ⟨lw_p42, List.forall_mem_cons.mpr ⟨lw_p43, List.forall_mem_cons.mpr ⟨lw_p44, List.forall_mem_cons.mpr ⟨lw_p45, List.forall_mem_cons.mpr ⟨lw_p46, List.forall_mem_cons.mpr ⟨lw_p47, fun _ h => absurd h List.not_mem_nil⟩⟩⟩⟩⟩⟩⟩⟩⟩⟩⟩⟩⟩⟩⟩⟩
theorem lw_p48 : lw_okq (⟨"FilterPileModel", "tellsLight", "(I)Z"⟩, 40) := ⟨⟨by decide +kernel, by decide +kernel⟩, List.mem_of_getElem? (i := 1104) (by decide +kernel), List.mem_of_getElem? (i := 1494) (by decide +kernel), List.mem_of_getElem? (i := 1495) (by decide +kernel)⟩
theorem lw_p49 : lw_okq (⟨"FilterPileModel", "meterNow", "()D"⟩, 40) := ⟨⟨by decide +kernel, by decide +kernel⟩, List.mem_of_getElem? (i := 1104) (by decide +kernel), List.mem_of_getElem? (i := 1510) (by decide +kernel), List.mem_of_getElem? (i := 1511) (by decide +kernel)⟩
theorem lw_p50 : lw_okq (⟨"FilterPileModel", "meterAll", "()F"⟩, 40) := ⟨⟨by decide +kernel, by decide +kernel⟩, List.mem_of_getElem? (i := 1104) (by decide +kernel), List.mem_of_getElem? (i := 1542) (by decide +kernel), List.mem_of_getElem? (i := 1543) (by decide +kernel)⟩
theorem lw_p51 : lw_okq (⟨"FilterPileModel", "doesTake", "(II)Z"⟩, 40) := ⟨⟨by decide +kernel, by decide +kernel⟩, List.mem_of_getElem? (i := 1104) (by decide +kernel), List.mem_of_getElem? (i := 1570) (by decide +kernel), List.mem_of_getElem? (i := 1571) (by decide +kernel)⟩
theorem lw_p52 : lw_okq (⟨"FilterPileModel", "heldIn", "(II)I"⟩, 40) := ⟨⟨by decide +kernel, by decide +kernel⟩, List.mem_of_getElem? (i := 1104) (by decide +kernel), List.mem_of_getElem? (i := 1590) (by decide +kernel), List.mem_of_getElem? (i := 1591) (by decide +kernel)⟩
theorem lw_p53 : lw_okq (⟨"FilterPileModel", "textTold", "(I)I"⟩, 40) := ⟨⟨by decide +kernel, by decide +kernel⟩, List.mem_of_getElem? (i := 1104) (by decide +kernel), List.mem_of_getElem? (i := 1607) (by decide +kernel), List.mem_of_getElem? (i := 1608) (by decide +kernel)⟩
theorem lw_p54 : lw_okq (⟨"FilterPileModel", "itemTold", "(I)I"⟩, 40) := ⟨⟨by decide +kernel, by decide +kernel⟩, List.mem_of_getElem? (i := 1104) (by decide +kernel), List.mem_of_getElem? (i := 1611) (by decide +kernel), List.mem_of_getElem? (i := 1612) (by decide +kernel)⟩
theorem lw_p55 : lw_okq (⟨"FilterPileModel", "isFigure", "(II)Z"⟩, 40) := ⟨⟨by decide +kernel, by decide +kernel⟩, List.mem_of_getElem? (i := 1104) (by decide +kernel), List.mem_of_getElem? (i := 1615) (by decide +kernel), List.mem_of_getElem? (i := 1616) (by decide +kernel)⟩
theorem lw_p56 : lw_okq (⟨"FilterPileModel", "next", "()I"⟩, 40) := ⟨⟨by decide +kernel, by decide +kernel⟩, List.mem_of_getElem? (i := 1104) (by decide +kernel), List.mem_of_getElem? (i := 1619) (by decide +kernel), List.mem_of_getElem? (i := 1620) (by decide +kernel)⟩
theorem lw_p57 : lw_okq (⟨"FilterPileModel", "filterTold", "()I"⟩, 40) := ⟨⟨by decide +kernel, by decide +kernel⟩, List.mem_of_getElem? (i := 1104) (by decide +kernel), List.mem_of_getElem? (i := 1623) (by decide +kernel), List.mem_of_getElem? (i := 1624) (by decide +kernel)⟩
theorem lw_p58 : lw_okq (⟨"FilterPileModel", "faulty", "(I)V"⟩, 40) := ⟨⟨by decide +kernel, by decide +kernel⟩, List.mem_of_getElem? (i := 1104) (by decide +kernel), List.mem_of_getElem? (i := 1627) (by decide +kernel), List.mem_of_getElem? (i := 1628) (by decide +kernel)⟩
theorem lw_p59 : lw_okq (⟨"FilterPileModel", "angleTold", "()I"⟩, 40) := ⟨⟨by decide +kernel, by decide +kernel⟩, List.mem_of_getElem? (i := 1104) (by decide +kernel), List.mem_of_getElem? (i := 1631) (by decide +kernel), List.mem_of_getElem? (i := 1632) (by decide +kernel)⟩
theorem lw_p60 : lw_okq (⟨"FilterPileModel", "figureTold", "()I"⟩, 40) := ⟨⟨by decide +kernel, by decide +kernel⟩, List.mem_of_getElem? (i := 1104) (by decide +kernel), List.mem_of_getElem? (i := 1635) (by decide +kernel), List.mem_of_getElem? (i := 1636) (by decide +kernel)⟩
theorem lw_p61 : lw_okq (⟨"FilterPileModel", "spellsAll", "()V"⟩, 40) := ⟨⟨by decide +kernel, by decide +kernel⟩, List.mem_of_getElem? (i := 1104) (by decide +kernel), List.mem_of_getElem? (i := 1647) (by decide +kernel), List.mem_of_getElem? (i := 1648) (by decide +kernel)⟩
theorem lw_p62 : lw_okq (⟨"FilterPileModel", "spells", "(I)V"⟩, 40) := ⟨⟨by decide +kernel, by decide +kernel⟩, List.mem_of_getElem? (i := 1104) (by decide +kernel), List.mem_of_getElem? (i := 1651) (by decide +kernel), List.mem_of_getElem? (i := 1652) (by decide +kernel)⟩
theorem lw_p63 : lw_okq (⟨"FilterPileModel", "spellsNumber", "(I)V"⟩, 40) := ⟨⟨by decide +kernel, by decide +kernel⟩, List.mem_of_getElem? (i := 1104) (by decide +kernel), List.mem_of_getElem? (i := 1658) (by decide +kernel), List.mem_of_getElem? (i := 1659) (by decide +kernel)⟩
def lw_privs_4 : List (MethodName × Nat) := [(⟨"FilterPileModel", "tellsLight", "(I)Z"⟩, 40), (⟨"FilterPileModel", "meterNow", "()D"⟩, 40), (⟨"FilterPileModel", "meterAll", "()F"⟩, 40), (⟨"FilterPileModel", "doesTake", "(II)Z"⟩, 40), (⟨"FilterPileModel", "heldIn", "(II)I"⟩, 40), (⟨"FilterPileModel", "textTold", "(I)I"⟩, 40), (⟨"FilterPileModel", "itemTold", "(I)I"⟩, 40), (⟨"FilterPileModel", "isFigure", "(II)Z"⟩, 40), (⟨"FilterPileModel", "next", "()I"⟩, 40), (⟨"FilterPileModel", "filterTold", "()I"⟩, 40), (⟨"FilterPileModel", "faulty", "(I)V"⟩, 40), (⟨"FilterPileModel", "angleTold", "()I"⟩, 40), (⟨"FilterPileModel", "figureTold", "()I"⟩, 40), (⟨"FilterPileModel", "spellsAll", "()V"⟩, 40), (⟨"FilterPileModel", "spells", "(I)V"⟩, 40), (⟨"FilterPileModel", "spellsNumber", "(I)V"⟩, 40)]
theorem lw_r4 : ∀ q ∈ lw_privs_4, lw_okq q := List.forall_mem_cons.mpr ⟨lw_p48, List.forall_mem_cons.mpr ⟨lw_p49, List.forall_mem_cons.mpr ⟨lw_p50, List.forall_mem_cons.mpr ⟨lw_p51, List.forall_mem_cons.mpr ⟨lw_p52, List.forall_mem_cons.mpr ⟨lw_p53, List.forall_mem_cons.mpr ⟨lw_p54, List.forall_mem_cons.mpr ⟨lw_p55, List.forall_mem_cons.mpr ⟨lw_p56, List.forall_mem_cons.mpr ⟨lw_p57, List.forall_mem_cons.mpr ⟨lw_p58, List.forall_mem_cons.mpr ⟨lw_p59, List.forall_mem_cons.mpr ⟨lw_p60, List.forall_mem_cons.mpr ⟨lw_p61, List.forall_mem_cons.mpr ⟨lw_p62, List.forall_mem_cons.mpr ⟨lw_p63, fun _ h => absurd h List.not_mem_nil⟩⟩⟩⟩⟩⟩⟩⟩⟩⟩⟩⟩⟩⟩⟩⟩
def lw_privs : List (MethodName × Nat) := lw_privs_1 ++ (lw_privs_2 ++ (lw_privs_3 ++ (lw_privs_4)))
def lw_tbl : List Cond := k2_sels lw_privs ++ tables_1
theorem lw_privs_ok : ∀ q ∈ lw_privs, lw_okq q := by
  show ∀ q ∈ lw_privs_1 ++ (lw_privs_2 ++ (lw_privs_3 ++ (lw_privs_4))), lw_okq q
  exact List.forall_mem_append.mpr ⟨lw_r1, List.forall_mem_append.mpr ⟨lw_r2, List.forall_mem_append.mpr ⟨lw_r3, lw_r4⟩⟩⟩
/-- the streams that the claim lets the run draw from -/
abbrev lw_cs : List Choice := [Jvm.Choice.named "NaN.bits"]
theorem lw_bits : nanBits ∈ lw_cs := by first | decide | exact List.mem_cons_self | simp [lw_cs, nanBits]
end
section
def RX0 : String := "FilterPile$Bench"
def TX0 : u_T := fun k => match k with
  | 0 => ("FilterPile$Bench", "lamp", "LFilterPile$Light;", true)
  | 1 => ("FilterPile$Bench", "pile", "[I", true)
  | 2 => ("FilterPile$Bench", "size", "I", false)
  | 3 => ("FilterPile$Bench", "cells", "[F", true)
  | 4 => ("FilterPile$Bench", "racks", "[[I", true)
  | _ => ("FilterPile$Bench", "takes", "[I", true)
def tyX0 : Nat → FieldType := fun k => match k with
  | 0 => .object "FilterPile$Light"
  | 1 => .array .int
  | 2 => .int
  | 3 => .array .float
  | 4 => .array (.array .int)
  | _ => .array .int
abbrev wsX00 : List Cond := u_ws RX0 TX0 6
theorem nmX0 : ∀ a, a < 6 → ∀ b, b < 6 → a ≠ b → (TX0 a).2.1 ≠ (TX0 b).2.1 := by decide +kernel
theorem tyX0_ok : ∀ k, k < 6 → parseFieldDescriptor (TX0 k).2.2.1 = some (tyX0 k) := by decide +kernel
abbrev cX0_init : ByteArray := prog_2_method_1_code
def yX0_init : MethodName := ⟨RX0, "<init>", "()V"⟩
abbrev cX0_takeFrom : ByteArray := prog_2_method_2_code
def yX0_takeFrom : MethodName := ⟨RX0, "takeFrom", "(LFilterPile$Bench;)V"⟩
abbrev cX0_has : ByteArray := prog_2_method_3_code
def yX0_has : MethodName := ⟨RX0, "has", "(I)Z"⟩
abbrev cX0_append : ByteArray := prog_2_method_4_code
def yX0_append : MethodName := ⟨RX0, "append", "(I)I"⟩
abbrev cX0_takeOut : ByteArray := prog_2_method_5_code
def yX0_takeOut : MethodName := ⟨RX0, "takeOut", "(I)V"⟩
abbrev cX0_putIn : ByteArray := prog_2_method_6_code
def yX0_putIn : MethodName := ⟨RX0, "putIn", "(II)V"⟩
abbrev cX0_send : ByteArray := prog_2_method_7_code
def yX0_send : MethodName := ⟨RX0, "send", "(LFilterPile$Light;II)V"⟩
abbrev cX0_canGoBack : ByteArray := prog_2_method_8_code
def yX0_canGoBack : MethodName := ⟨RX0, "canGoBack", "()Z"⟩
abbrev cX0_howMany : ByteArray := prog_2_method_9_code
def yX0_howMany : MethodName := ⟨RX0, "howMany", "(II)I"⟩
abbrev cX0_racked : ByteArray := prog_2_method_10_code
def yX0_racked : MethodName := ⟨RX0, "racked", "(I)I"⟩
abbrev cX0_litCells : ByteArray := prog_2_method_11_code
def yX0_litCells : MethodName := ⟨RX0, "litCells", "()I"⟩
def RX1 : String := "FilterPile$Light"
def TX1 : u_T := fun k => match k with
  | 0 => ("FilterPile$Light", "i", "J", false)
  | 1 => ("FilterPile$Light", "q", "J", false)
  | 2 => ("FilterPile$Light", "u", "J", false)
  | 3 => ("FilterPile$Light", "v", "J", false)
  | _ => ("FilterPile$Light", "e", "I", false)
def tyX1 : Nat → FieldType := fun k => match k with
  | 0 => .long
  | 1 => .long
  | 2 => .long
  | 3 => .long
  | _ => .int
abbrev wsX10 : List Cond := u_ws RX1 TX1 5
theorem nmX1 : ∀ a, a < 5 → ∀ b, b < 5 → a ≠ b → (TX1 a).2.1 ≠ (TX1 b).2.1 := by decide +kernel
theorem tyX1_ok : ∀ k, k < 5 → parseFieldDescriptor (TX1 k).2.2.1 = some (tyX1 k) := by decide +kernel
abbrev cX1_init : ByteArray := prog_3_method_1_code
def yX1_init : MethodName := ⟨RX1, "<init>", "()V"⟩
abbrev cX1_become : ByteArray := prog_3_method_2_code
def yX1_become : MethodName := ⟨RX1, "become", "(JJJJI)V"⟩
abbrev cX1_becomeUnit : ByteArray := prog_3_method_3_code
def yX1_becomeUnit : MethodName := ⟨RX1, "becomeUnit", "(I)V"⟩
abbrev cX1_takeFrom : ByteArray := prog_3_method_4_code
def yX1_takeFrom : MethodName := ⟨RX1, "takeFrom", "(LFilterPile$Light;)V"⟩
abbrev cX1_part : ByteArray := prog_3_method_5_code
def yX1_part : MethodName := ⟨RX1, "part", "(I)J"⟩
abbrev cX1_isDark : ByteArray := prog_3_method_6_code
def yX1_isDark : MethodName := ⟨RX1, "isDark", "()Z"⟩
abbrev cX1_isLike : ByteArray := prog_3_method_7_code
def yX1_isLike : MethodName := ⟨RX1, "isLike", "(LFilterPile$Light;)Z"⟩
abbrev cX1_mayBe : ByteArray := prog_3_method_8_code
def yX1_mayBe : MethodName := ⟨RX1, "mayBe", "()Z"⟩
abbrev cX1_isWithin : ByteArray := prog_3_method_9_code
def yX1_isWithin : MethodName := ⟨RX1, "isWithin", "(J)Z"⟩
abbrev cX1_sumOfSquares : ByteArray := prog_3_method_10_code
def yX1_sumOfSquares : MethodName := ⟨RX1, "sumOfSquares", "()J"⟩
abbrev cX1_compareI : ByteArray := prog_3_method_11_code
def yX1_compareI : MethodName := ⟨RX1, "compareI", "(LFilterPile$Light;)I"⟩
abbrev cX1_lower : ByteArray := prog_3_method_12_code
def yX1_lower : MethodName := ⟨RX1, "lower", "()V"⟩
abbrev cX1_shrink : ByteArray := prog_3_method_13_code
def yX1_shrink : MethodName := ⟨RX1, "shrink", "()V"⟩
abbrev cX1_firstOver : ByteArray := prog_3_method_14_code
def yX1_firstOver : MethodName := ⟨RX1, "firstOver", "()I"⟩
abbrev cX1_isOver : ByteArray := prog_3_method_15_code
def yX1_isOver : MethodName := ⟨RX1, "isOver", "(J)Z"⟩
abbrev cX1_pass : ByteArray := prog_3_method_16_code
def yX1_pass : MethodName := ⟨RX1, "pass", "(I)V"⟩
abbrev cX1_passGrey : ByteArray := prog_3_method_17_code
def yX1_passGrey : MethodName := ⟨RX1, "passGrey", "(II)V"⟩
abbrev cX1_passSheet : ByteArray := prog_3_method_18_code
def yX1_passSheet : MethodName := ⟨RX1, "passSheet", "(III)V"⟩
abbrev cX1_turnQuarter : ByteArray := prog_3_method_19_code
def yX1_turnQuarter : MethodName := ⟨RX1, "turnQuarter", "(I)V"⟩
def RX2 : String := "FilterPile$Orders"
def TX2 : u_T := fun k => match k with
  | _ => ("FilterPile$Orders", "behind", "[LFilterPile$Light;", true)
def tyX2 : Nat → FieldType := fun k => match k with
  | _ => .array (.object "FilterPile$Light")
abbrev wsX20 : List Cond := u_ws RX2 TX2 1
theorem nmX2 : ∀ a, a < 1 → ∀ b, b < 1 → a ≠ b → (TX2 a).2.1 ≠ (TX2 b).2.1 := by decide +kernel
theorem tyX2_ok : ∀ k, k < 1 → parseFieldDescriptor (TX2 k).2.2.1 = some (tyX2 k) := by decide +kernel
abbrev cX2_init : ByteArray := prog_4_method_1_code
def yX2_init : MethodName := ⟨RX2, "<init>", "()V"⟩
abbrev cX2_meetAll : ByteArray := prog_4_method_2_code
def yX2_meetAll : MethodName := ⟨RX2, "meetAll", "(LFilterPile$Bench;LFilterPile$Outcomes;)V"⟩
abbrev cX2_goOn : ByteArray := prog_4_method_3_code
def yX2_goOn : MethodName := ⟨RX2, "goOn", "(LFilterPile$Bench;LFilterPile$Outcomes;III)V"⟩
def RX3 : String := "FilterPile$Outcomes"
def TX3 : u_T := fun k => match k with
  | 0 => ("FilterPile$Outcomes", "least", "LFilterPile$Light;", true)
  | 1 => ("FilterPile$Outcomes", "most", "LFilterPile$Light;", true)
  | 2 => ("FilterPile$Outcomes", "leastMark", "I", false)
  | 3 => ("FilterPile$Outcomes", "mostMark", "I", false)
  | 4 => ("FilterPile$Outcomes", "unlike", "I", false)
  | 5 => ("FilterPile$Outcomes", "seen", "[J", true)
  | _ => ("FilterPile$Outcomes", "times", "[I", true)
def tyX3 : Nat → FieldType := fun k => match k with
  | 0 => .object "FilterPile$Light"
  | 1 => .object "FilterPile$Light"
  | 2 => .int
  | 3 => .int
  | 4 => .int
  | 5 => .array .long
  | _ => .array .int
abbrev wsX30 : List Cond := u_ws RX3 TX3 7
theorem nmX3 : ∀ a, a < 7 → ∀ b, b < 7 → a ≠ b → (TX3 a).2.1 ≠ (TX3 b).2.1 := by decide +kernel
theorem tyX3_ok : ∀ k, k < 7 → parseFieldDescriptor (TX3 k).2.2.1 = some (tyX3 k) := by decide +kernel
abbrev cX3_init : ByteArray := prog_5_method_1_code
def yX3_init : MethodName := ⟨RX3, "<init>", "()V"⟩
abbrev cX3_forget : ByteArray := prog_5_method_2_code
def yX3_forget : MethodName := ⟨RX3, "forget", "()V"⟩
abbrev cX3_meet : ByteArray := prog_5_method_3_code
def yX3_meet : MethodName := ⟨RX3, "meet", "(LFilterPile$Light;I)V"⟩
abbrev cX3_remember : ByteArray := prog_5_method_4_code
def yX3_remember : MethodName := ⟨RX3, "remember", "(LFilterPile$Light;)V"⟩
abbrev cX3_isSeen : ByteArray := prog_5_method_5_code
def yX3_isSeen : MethodName := ⟨RX3, "isSeen", "(ILFilterPile$Light;)Z"⟩
abbrev cX3_common : ByteArray := prog_5_method_6_code
def yX3_common : MethodName := ⟨RX3, "common", "()I"⟩
def RX4 : String := "FilterPile$Reader"
def TX4 : u_T := fun k => match k with
  | 0 => ("FilterPile$Reader", "tape", "[I", true)
  | 1 => ("FilterPile$Reader", "length", "I", false)
  | 2 => ("FilterPile$Reader", "place", "I", false)
  | 3 => ("FilterPile$Reader", "opens", "[I", true)
  | 4 => ("FilterPile$Reader", "open", "I", false)
  | 5 => ("FilterPile$Reader", "codes", "[I", true)
  | _ => ("FilterPile$Reader", "filters", "I", false)
def tyX4 : Nat → FieldType := fun k => match k with
  | 0 => .array .int
  | 1 => .int
  | 2 => .int
  | 3 => .array .int
  | 4 => .int
  | 5 => .array .int
  | _ => .int
abbrev wsX40 : List Cond := u_ws RX4 TX4 7
theorem nmX4 : ∀ a, a < 7 → ∀ b, b < 7 → a ≠ b → (TX4 a).2.1 ≠ (TX4 b).2.1 := by decide +kernel
theorem tyX4_ok : ∀ k, k < 7 → parseFieldDescriptor (TX4 k).2.2.1 = some (tyX4 k) := by decide +kernel
abbrev cX4_init : ByteArray := prog_6_method_1_code
def yX4_init : MethodName := ⟨RX4, "<init>", "()V"⟩
abbrev cX4_readsText : ByteArray := prog_6_method_2_code
def yX4_readsText : MethodName := ⟨RX4, "readsText", "()Z"⟩
abbrev cX4_next : ByteArray := prog_6_method_3_code
def yX4_next : MethodName := ⟨RX4, "next", "()I"⟩
abbrev cX4_takes : ByteArray := prog_6_method_4_code
def yX4_takes : MethodName := ⟨RX4, "takes", "(C)Z"⟩
abbrev cX4_takeFigure : ByteArray := prog_6_method_5_code
def yX4_takeFigure : MethodName := ⟨RX4, "takeFigure", "(I)I"⟩
abbrev cX4_readsItems : ByteArray := prog_6_method_6_code
def yX4_readsItems : MethodName := ⟨RX4, "readsItems", "()Z"⟩
abbrev cX4_readsItem : ByteArray := prog_6_method_7_code
def yX4_readsItem : MethodName := ⟨RX4, "readsItem", "()Z"⟩
abbrev cX4_readsGroup : ByteArray := prog_6_method_8_code
def yX4_readsGroup : MethodName := ⟨RX4, "readsGroup", "()Z"⟩
abbrev cX4_repeat : ByteArray := prog_6_method_9_code
def yX4_repeat : MethodName := ⟨RX4, "repeat", "(II)V"⟩
abbrev cX4_keep : ByteArray := prog_6_method_10_code
def yX4_keep : MethodName := ⟨RX4, "keep", "(I)V"⟩
abbrev cX4_readsFilter : ByteArray := prog_6_method_11_code
def yX4_readsFilter : MethodName := ⟨RX4, "readsFilter", "(I)Z"⟩
abbrev cX4_takeNumber : ByteArray := prog_6_method_12_code
def yX4_takeNumber : MethodName := ⟨RX4, "takeNumber", "()I"⟩
def RX5 : String := "FilterPile$Troubles"
def TX5 : u_T := fun k => match k with
  | 0 => ("FilterPile$Troubles", "sorts", "[I", true)
  | 1 => ("FilterPile$Troubles", "numbers", "[I", true)
  | _ => ("FilterPile$Troubles", "size", "I", false)
def tyX5 : Nat → FieldType := fun k => match k with
  | 0 => .array .int
  | 1 => .array .int
  | _ => .int
abbrev wsX50 : List Cond := u_ws RX5 TX5 3
theorem nmX5 : ∀ a, a < 3 → ∀ b, b < 3 → a ≠ b → (TX5 a).2.1 ≠ (TX5 b).2.1 := by decide +kernel
theorem tyX5_ok : ∀ k, k < 3 → parseFieldDescriptor (TX5 k).2.2.1 = some (tyX5 k) := by decide +kernel
abbrev cX5_init : ByteArray := prog_7_method_1_code
def yX5_init : MethodName := ⟨RX5, "<init>", "()V"⟩
abbrev cX5_forget : ByteArray := prog_7_method_2_code
def yX5_forget : MethodName := ⟨RX5, "forget", "()V"⟩
abbrev cX5_note : ByteArray := prog_7_method_3_code
def yX5_note : MethodName := ⟨RX5, "note", "(II)V"⟩
def RX6 : String := "FilterPile"
def TX6 : u_T := fun k => match k with
  | 0 => ("FilterPile", "bench", "LFilterPile$Bench;", true)
  | 1 => ("FilterPile", "kept", "LFilterPile$Bench;", true)
  | 2 => ("FilterPile", "hasImage", "Z", false)
  | 3 => ("FilterPile", "lists", "[[J", true)
  | 4 => ("FilterPile", "listLengths", "[I", true)
  | 5 => ("FilterPile", "reader", "LFilterPile$Reader;", true)
  | 6 => ("FilterPile", "troubles", "LFilterPile$Troubles;", true)
  | 7 => ("FilterPile", "outcomes", "LFilterPile$Outcomes;", true)
  | 8 => ("FilterPile", "orders", "LFilterPile$Orders;", true)
  | 9 => ("FilterPile", "spelling", "Ljava/lang/StringBuilder;", true)
  | 10 => ("FilterPile", "beam", "LFilterPile$Light;", true)
  | 11 => ("FilterPile", "aside", "LFilterPile$Light;", true)
  | _ => ("FilterPile", "told", "LFilterPile$Light;", true)
def tyX6 : Nat → FieldType := fun k => match k with
  | 0 => .object "FilterPile$Bench"
  | 1 => .object "FilterPile$Bench"
  | 2 => .boolean
  | 3 => .array (.array .long)
  | 4 => .array .int
  | 5 => .object "FilterPile$Reader"
  | 6 => .object "FilterPile$Troubles"
  | 7 => .object "FilterPile$Outcomes"
  | 8 => .object "FilterPile$Orders"
  | 9 => .object "java/lang/StringBuilder"
  | 10 => .object "FilterPile$Light"
  | 11 => .object "FilterPile$Light"
  | _ => .object "FilterPile$Light"
abbrev wsX60 : List Cond := u_ws RX6 TX6 13
theorem nmX6 : ∀ a, a < 13 → ∀ b, b < 13 → a ≠ b → (TX6 a).2.1 ≠ (TX6 b).2.1 := by decide +kernel
theorem tyX6_ok : ∀ k, k < 13 → parseFieldDescriptor (TX6 k).2.2.1 = some (tyX6 k) := by decide +kernel
abbrev cX6_init : ByteArray := prog_1_method_1_code
def yX6_init : MethodName := ⟨RX6, "<init>", "()V"⟩
abbrev cX6_lamp : ByteArray := prog_1_method_2_code
def yX6_lamp : MethodName := ⟨RX6, "lamp", "(IIII)I"⟩
abbrev cX6_add : ByteArray := prog_1_method_3_code
def yX6_add : MethodName := ⟨RX6, "add", "(III)I"⟩
abbrev cX6_change : ByteArray := prog_1_method_4_code
def yX6_change : MethodName := ⟨RX6, "change", "(III)I"⟩
abbrev cX6_turn : ByteArray := prog_1_method_5_code
def yX6_turn : MethodName := ⟨RX6, "turn", "(II)I"⟩
abbrev cX6_move : ByteArray := prog_1_method_6_code
def yX6_move : MethodName := ⟨RX6, "move", "(II)I"⟩
abbrev cX6_cut : ByteArray := prog_1_method_7_code
def yX6_cut : MethodName := ⟨RX6, "cut", "(I)I"⟩
abbrev cX6_clear : ByteArray := prog_1_method_8_code
def yX6_clear : MethodName := ⟨RX6, "clear", "()I"⟩
abbrev cX6_of : ByteArray := prog_1_method_9_code
def yX6_of : MethodName := ⟨RX6, "of", "(II)I"⟩
abbrev cX6_isUnder : ByteArray := prog_1_method_10_code
def yX6_isUnder : MethodName := ⟨RX6, "isUnder", "(II)I"⟩
abbrev cX6_light : ByteArray := prog_1_method_11_code
def yX6_light : MethodName := ⟨RX6, "light", "(II)J"⟩
abbrev cX6_left : ByteArray := prog_1_method_12_code
def yX6_left : MethodName := ⟨RX6, "left", "(II)J"⟩
abbrev cX6_degree : ByteArray := prog_1_method_13_code
def yX6_degree : MethodName := ⟨RX6, "degree", "(II)J"⟩
abbrev cX6_sort : ByteArray := prog_1_method_14_code
def yX6_sort : MethodName := ⟨RX6, "sort", "(I)I"⟩
abbrev cX6_order : ByteArray := prog_1_method_15_code
def yX6_order : MethodName := ⟨RX6, "order", "(I)I"⟩
abbrev cX6_orderLight : ByteArray := prog_1_method_16_code
def yX6_orderLight : MethodName := ⟨RX6, "orderLight", "(II)J"⟩
abbrev cX6_matrix : ByteArray := prog_1_method_17_code
def yX6_matrix : MethodName := ⟨RX6, "matrix", "(III)J"⟩
abbrev cX6_trade : ByteArray := prog_1_method_18_code
def yX6_trade : MethodName := ⟨RX6, "trade", "(II)I"⟩
abbrev cX6_angle : ByteArray := prog_1_method_19_code
def yX6_angle : MethodName := ⟨RX6, "angle", "(II)I"⟩
abbrev cX6_without : ByteArray := prog_1_method_20_code
def yX6_without : MethodName := ⟨RX6, "without", "(II)J"⟩
abbrev cX6_darkens : ByteArray := prog_1_method_21_code
def yX6_darkens : MethodName := ⟨RX6, "darkens", "()I"⟩
abbrev cX6_crossed : ByteArray := prog_1_method_22_code
def yX6_crossed : MethodName := ⟨RX6, "crossed", "(I)I"⟩
abbrev cX6_tally : ByteArray := prog_1_method_23_code
def yX6_tally : MethodName := ⟨RX6, "tally", "(I)I"⟩
abbrev cX6_list : ByteArray := prog_1_method_24_code
def yX6_list : MethodName := ⟨RX6, "list", "(II)I"⟩
abbrev cX6_put : ByteArray := prog_1_method_25_code
def yX6_put : MethodName := ⟨RX6, "put", "(IIJ)I"⟩
abbrev cX6_get : ByteArray := prog_1_method_26_code
def yX6_get : MethodName := ⟨RX6, "get", "(II)J"⟩
abbrev cX6_lay : ByteArray := prog_1_method_27_code
def yX6_lay : MethodName := ⟨RX6, "lay", "(II)I"⟩
abbrev cX6_readings : ByteArray := prog_1_method_28_code
def yX6_readings : MethodName := ⟨RX6, "readings", "(I)I"⟩
abbrev cX6_refound : ByteArray := prog_1_method_29_code
def yX6_refound : MethodName := ⟨RX6, "refound", "(II)J"⟩
abbrev cX6_through : ByteArray := prog_1_method_30_code
def yX6_through : MethodName := ⟨RX6, "through", "(II)J"⟩
abbrev cX6_before : ByteArray := prog_1_method_31_code
def yX6_before : MethodName := ⟨RX6, "before", "(II)J"⟩
abbrev cX6_found : ByteArray := prog_1_method_32_code
def yX6_found : MethodName := ⟨RX6, "found", "(III)I"⟩
abbrev cX6_meter : ByteArray := prog_1_method_33_code
def yX6_meter : MethodName := ⟨RX6, "meter", "(II)J"⟩
abbrev cX6_expose : ByteArray := prog_1_method_34_code
def yX6_expose : MethodName := ⟨RX6, "expose", "(I)I"⟩
abbrev cX6_dim : ByteArray := prog_1_method_35_code
def yX6_dim : MethodName := ⟨RX6, "dim", "(II)I"⟩
abbrev cX6_film : ByteArray := prog_1_method_36_code
def yX6_film : MethodName := ⟨RX6, "film", "(II)I"⟩
abbrev cX6_sumFilm : ByteArray := prog_1_method_37_code
def yX6_sumFilm : MethodName := ⟨RX6, "sumFilm", "(I)J"⟩
abbrev cX6_store : ByteArray := prog_1_method_38_code
def yX6_store : MethodName := ⟨RX6, "store", "(III)I"⟩
abbrev cX6_empty : ByteArray := prog_1_method_39_code
def yX6_empty : MethodName := ⟨RX6, "empty", "(II)I"⟩
abbrev cX6_fetch : ByteArray := prog_1_method_40_code
def yX6_fetch : MethodName := ⟨RX6, "fetch", "(II)I"⟩
abbrev cX6_rack : ByteArray := prog_1_method_41_code
def yX6_rack : MethodName := ⟨RX6, "rack", "(II)I"⟩
abbrev cX6_copy : ByteArray := prog_1_method_42_code
def yX6_copy : MethodName := ⟨RX6, "copy", "(II)I"⟩
abbrev cX6_feed : ByteArray := prog_1_method_43_code
def yX6_feed : MethodName := ⟨RX6, "feed", "(I)I"⟩
abbrev cX6_wipe : ByteArray := prog_1_method_44_code
def yX6_wipe : MethodName := ⟨RX6, "wipe", "()I"⟩
abbrev cX6_read : ByteArray := prog_1_method_45_code
def yX6_read : MethodName := ⟨RX6, "read", "()I"⟩
abbrev cX6_why : ByteArray := prog_1_method_46_code
def yX6_why : MethodName := ⟨RX6, "why", "(II)I"⟩
abbrev cX6_spelled : ByteArray := prog_1_method_47_code
def yX6_spelled : MethodName := ⟨RX6, "spelled", "(I)I"⟩
abbrev cX6_image : ByteArray := prog_1_method_48_code
def yX6_image : MethodName := ⟨RX6, "image", "()I"⟩
abbrev cX6_undo : ByteArray := prog_1_method_49_code
def yX6_undo : MethodName := ⟨RX6, "undo", "()I"⟩
abbrev cX6_count : ByteArray := prog_1_method_50_code
def yX6_count : MethodName := ⟨RX6, "count", "(I)I"⟩
abbrev cX6_isKind : ByteArray := prog_1_method_51_code
def yX6_isKind : MethodName := ⟨RX6, "isKind", "(I)Z"⟩
abbrev cX6_isAngle : ByteArray := prog_1_method_52_code
def yX6_isAngle : MethodName := ⟨RX6, "isAngle", "(I)Z"⟩
abbrev cX6_isFigure : ByteArray := prog_1_method_53_code
def yX6_isFigure : MethodName := ⟨RX6, "isFigure", "(I)Z"⟩
abbrev cX6_isLightPart : ByteArray := prog_1_method_54_code
def yX6_isLightPart : MethodName := ⟨RX6, "isLightPart", "(I)Z"⟩
abbrev cX6_isFractionPart : ByteArray := prog_1_method_55_code
def yX6_isFractionPart : MethodName := ⟨RX6, "isFractionPart", "(I)Z"⟩
abbrev cX6_isList : ByteArray := prog_1_method_56_code
def yX6_isList : MethodName := ⟨RX6, "isList", "(I)Z"⟩
abbrev cX6_isCell : ByteArray := prog_1_method_57_code
def yX6_isCell : MethodName := ⟨RX6, "isCell", "(I)Z"⟩
abbrev cX6_isRack : ByteArray := prog_1_method_58_code
def yX6_isRack : MethodName := ⟨RX6, "isRack", "(I)Z"⟩
abbrev cX6_isRackPlace : ByteArray := prog_1_method_59_code
def yX6_isRackPlace : MethodName := ⟨RX6, "isRackPlace", "(I)Z"⟩
abbrev cX6_isBehind : ByteArray := prog_1_method_60_code
def yX6_isBehind : MethodName := ⟨RX6, "isBehind", "(I)Z"⟩
abbrev cX6_codeOf : ByteArray := prog_1_method_61_code
def yX6_codeOf : MethodName := ⟨RX6, "codeOf", "(III)I"⟩
abbrev cX6_kindOf : ByteArray := prog_1_method_62_code
def yX6_kindOf : MethodName := ⟨RX6, "kindOf", "(I)I"⟩
abbrev cX6_angleOf : ByteArray := prog_1_method_63_code
def yX6_angleOf : MethodName := ⟨RX6, "angleOf", "(I)I"⟩
abbrev cX6_figureOf : ByteArray := prog_1_method_64_code
def yX6_figureOf : MethodName := ⟨RX6, "figureOf", "(I)I"⟩
abbrev cX6_withAngle : ByteArray := prog_1_method_65_code
def yX6_withAngle : MethodName := ⟨RX6, "withAngle", "(II)I"⟩
abbrev cX6_isSheetOrPolar : ByteArray := prog_1_method_66_code
def yX6_isSheetOrPolar : MethodName := ⟨RX6, "isSheetOrPolar", "(I)Z"⟩
abbrev cX6_isPlateOrRotator : ByteArray := prog_1_method_67_code
def yX6_isPlateOrRotator : MethodName := ⟨RX6, "isPlateOrRotator", "(I)Z"⟩
abbrev cX6_alongOf : ByteArray := prog_1_method_68_code
def yX6_alongOf : MethodName := ⟨RX6, "alongOf", "(I)I"⟩
abbrev cX6_acrossOf : ByteArray := prog_1_method_69_code
def yX6_acrossOf : MethodName := ⟨RX6, "acrossOf", "(I)I"⟩
abbrev cX6_quartersOf : ByteArray := prog_1_method_70_code
def yX6_quartersOf : MethodName := ⟨RX6, "quartersOf", "(I)I"⟩
abbrev cX6_backwards : ByteArray := prog_1_method_71_code
def yX6_backwards : MethodName := ⟨RX6, "backwards", "(I)I"⟩
abbrev cX6_tellsAngle : ByteArray := prog_1_method_72_code
def yX6_tellsAngle : MethodName := ⟨RX6, "tellsAngle", "(I)Z"⟩
abbrev cX6_tellsFigure : ByteArray := prog_1_method_73_code
def yX6_tellsFigure : MethodName := ⟨RX6, "tellsFigure", "(I)Z"⟩
abbrev cX6_takesKind : ByteArray := prog_1_method_74_code
def yX6_takesKind : MethodName := ⟨RX6, "takesKind", "(II)Z"⟩
abbrev cX6_shineBehind : ByteArray := prog_1_method_75_code
def yX6_shineBehind : MethodName := ⟨RX6, "shineBehind", "(I)V"⟩
abbrev cX6_shineOn : ByteArray := prog_1_method_76_code
def yX6_shineOn : MethodName := ⟨RX6, "shineOn", "(II)V"⟩
abbrev cX6_isCrossed : ByteArray := prog_1_method_77_code
def yX6_isCrossed : MethodName := ⟨RX6, "isCrossed", "(II)Z"⟩
abbrev cX6_leftInBeam : ByteArray := prog_1_method_78_code
def yX6_leftInBeam : MethodName := ⟨RX6, "leftInBeam", "(I)J"⟩
abbrev cX6_squaresAreOver : ByteArray := prog_1_method_79_code
def yX6_squaresAreOver : MethodName := ⟨RX6, "squaresAreOver", "()Z"⟩
abbrev cX6_fraction : ByteArray := prog_1_method_80_code
def yX6_fraction : MethodName := ⟨RX6, "fraction", "(JJI)J"⟩
abbrev cX6_commonDivisor : ByteArray := prog_1_method_81_code
def yX6_commonDivisor : MethodName := ⟨RX6, "commonDivisor", "(JJ)J"⟩
abbrev cX6_isMissing : ByteArray := prog_1_method_82_code
def yX6_isMissing : MethodName := ⟨RX6, "isMissing", "(I)Z"⟩
abbrev cX6_hasListPlace : ByteArray := prog_1_method_83_code
def yX6_hasListPlace : MethodName := ⟨RX6, "hasListPlace", "(II)Z"⟩
abbrev cX6_makeList : ByteArray := prog_1_method_84_code
def yX6_makeList : MethodName := ⟨RX6, "makeList", "(II)V"⟩
abbrev cX6_tellLight : ByteArray := prog_1_method_85_code
def yX6_tellLight : MethodName := ⟨RX6, "tellLight", "(I)Z"⟩
abbrev cX6_refind : ByteArray := prog_1_method_86_code
def yX6_refind : MethodName := ⟨RX6, "refind", "(I)Z"⟩
abbrev cX6_isFrom : ByteArray := prog_1_method_87_code
def yX6_isFrom : MethodName := ⟨RX6, "isFrom", "(JJJ)Z"⟩
abbrev cX6_measure : ByteArray := prog_1_method_88_code
def yX6_measure : MethodName := ⟨RX6, "measure", "(I)D"⟩
abbrev cX6_doubleBits : ByteArray := prog_1_method_89_code
def yX6_doubleBits : MethodName := ⟨RX6, "doubleBits", "(D)J"⟩
abbrev cX6_floatBits : ByteArray := prog_1_method_90_code
def yX6_floatBits : MethodName := ⟨RX6, "floatBits", "(F)I"⟩
abbrev cX6_rackedCode : ByteArray := prog_1_method_91_code
def yX6_rackedCode : MethodName := ⟨RX6, "rackedCode", "(II)I"⟩
abbrev cX6_spell : ByteArray := prog_1_method_92_code
def yX6_spell : MethodName := ⟨RX6, "spell", "()V"⟩
abbrev cX6_spellFilter : ByteArray := prog_1_method_93_code
def yX6_spellFilter : MethodName := ⟨RX6, "spellFilter", "(I)V"⟩
def RX7 : String := "FilterPileModel"
def TX7 : u_T := fun k => match k with
  | 0 => ("FilterPileModel", "lamp", "[J", true)
  | 1 => ("FilterPileModel", "pile", "[I", true)
  | 2 => ("FilterPileModel", "many", "I", false)
  | 3 => ("FilterPileModel", "now", "[J", true)
  | 4 => ("FilterPileModel", "colored", "J", false)
  | 5 => ("FilterPileModel", "whole", "J", false)
  | 6 => ("FilterPileModel", "row", "[I", true)
  | 7 => ("FilterPileModel", "seen", "[J", true)
  | 8 => ("FilterPileModel", "often", "[I", true)
  | 9 => ("FilterPileModel", "unlike", "I", false)
  | 10 => ("FilterPileModel", "leastRow", "I", false)
  | 11 => ("FilterPileModel", "mostRow", "I", false)
  | 12 => ("FilterPileModel", "least", "[J", true)
  | 13 => ("FilterPileModel", "most", "[J", true)
  | 14 => ("FilterPileModel", "hasRow", "Z", false)
  | 15 => ("FilterPileModel", "other", "[J", true)
  | 16 => ("FilterPileModel", "lists", "[J", true)
  | 17 => ("FilterPileModel", "sizes", "[I", true)
  | 18 => ("FilterPileModel", "film", "[F", true)
  | 19 => ("FilterPileModel", "racks", "[I", true)
  | 20 => ("FilterPileModel", "takes", "[I", true)
  | 21 => ("FilterPileModel", "tape", "[I", true)
  | 22 => ("FilterPileModel", "length", "I", false)
  | 23 => ("FilterPileModel", "at", "I", false)
  | 24 => ("FilterPileModel", "fault", "I", false)
  | 25 => ("FilterPileModel", "opened", "[I", true)
  | 26 => ("FilterPileModel", "open", "I", false)
  | 27 => ("FilterPileModel", "toldCodes", "[I", true)
  | 28 => ("FilterPileModel", "sorts", "[I", true)
  | 29 => ("FilterPileModel", "numbers", "[I", true)
  | 30 => ("FilterPileModel", "troubles", "I", false)
  | 31 => ("FilterPileModel", "spelled", "[I", true)
  | 32 => ("FilterPileModel", "signs", "I", false)
  | 33 => ("FilterPileModel", "hadLamp", "[J", true)
  | 34 => ("FilterPileModel", "hadPile", "[I", true)
  | 35 => ("FilterPileModel", "hadMany", "I", false)
  | 36 => ("FilterPileModel", "hadFilm", "[F", true)
  | 37 => ("FilterPileModel", "hadRacks", "[I", true)
  | 38 => ("FilterPileModel", "hadTakes", "[I", true)
  | _ => ("FilterPileModel", "hasImage", "Z", false)
def tyX7 : Nat → FieldType := fun k => match k with
  | 0 => .array .long
  | 1 => .array .int
  | 2 => .int
  | 3 => .array .long
  | 4 => .long
  | 5 => .long
  | 6 => .array .int
  | 7 => .array .long
  | 8 => .array .int
  | 9 => .int
  | 10 => .int
  | 11 => .int
  | 12 => .array .long
  | 13 => .array .long
  | 14 => .boolean
  | 15 => .array .long
  | 16 => .array .long
  | 17 => .array .int
  | 18 => .array .float
  | 19 => .array .int
  | 20 => .array .int
  | 21 => .array .int
  | 22 => .int
  | 23 => .int
  | 24 => .int
  | 25 => .array .int
  | 26 => .int
  | 27 => .array .int
  | 28 => .array .int
  | 29 => .array .int
  | 30 => .int
  | 31 => .array .int
  | 32 => .int
  | 33 => .array .long
  | 34 => .array .int
  | 35 => .int
  | 36 => .array .float
  | 37 => .array .int
  | 38 => .array .int
  | _ => .boolean
abbrev wsX70 : List Cond := u_ws RX7 TX7 40
theorem nmX7 : ∀ a, a < 40 → ∀ b, b < 40 → a ≠ b → (TX7 a).2.1 ≠ (TX7 b).2.1 := by decide +kernel
theorem tyX7_ok : ∀ k, k < 40 → parseFieldDescriptor (TX7 k).2.2.1 = some (tyX7 k) := by decide +kernel
abbrev cX7_init : ByteArray := prog_9_method_1_code
def yX7_init : MethodName := ⟨RX7, "<init>", "()V"⟩
abbrev cX7_in : ByteArray := prog_9_method_2_code
def yX7_in : MethodName := ⟨RX7, "in", "(JJJ)Z"⟩
abbrev cX7_isFilter : ByteArray := prog_9_method_3_code
def yX7_isFilter : MethodName := ⟨RX7, "isFilter", "(I)Z"⟩
abbrev cX7_isBehind : ByteArray := prog_9_method_4_code
def yX7_isBehind : MethodName := ⟨RX7, "isBehind", "(I)Z"⟩
abbrev cX7_codeOf : ByteArray := prog_9_method_5_code
def yX7_codeOf : MethodName := ⟨RX7, "codeOf", "(III)I"⟩
abbrev cX7_kindOf : ByteArray := prog_9_method_6_code
def yX7_kindOf : MethodName := ⟨RX7, "kindOf", "(I)I"⟩
abbrev cX7_angleOf : ByteArray := prog_9_method_7_code
def yX7_angleOf : MethodName := ⟨RX7, "angleOf", "(I)I"⟩
abbrev cX7_figureOf : ByteArray := prog_9_method_8_code
def yX7_figureOf : MethodName := ⟨RX7, "figureOf", "(I)I"⟩
abbrev cX7_mayBe : ByteArray := prog_9_method_9_code
def yX7_mayBe : MethodName := ⟨RX7, "mayBe", "(JJJJ)Z"⟩
abbrev cX7_toLowest : ByteArray := prog_9_method_10_code
def yX7_toLowest : MethodName := ⟨RX7, "toLowest", "([J)V"⟩
abbrev cX7_scales : ByteArray := prog_9_method_11_code
def yX7_scales : MethodName := ⟨RX7, "scales", "([JJJI)V"⟩
abbrev cX7_along : ByteArray := prog_9_method_12_code
def yX7_along : MethodName := ⟨RX7, "along", "(I)I"⟩
abbrev cX7_across : ByteArray := prog_9_method_13_code
def yX7_across : MethodName := ⟨RX7, "across", "(I)I"⟩
abbrev cX7_sheet : ByteArray := prog_9_method_14_code
def yX7_sheet : MethodName := ⟨RX7, "sheet", "([JI)V"⟩
abbrev cX7_quarter : ByteArray := prog_9_method_15_code
def yX7_quarter : MethodName := ⟨RX7, "quarter", "([JI)V"⟩
abbrev cX7_quarters : ByteArray := prog_9_method_16_code
def yX7_quarters : MethodName := ⟨RX7, "quarters", "([JII)V"⟩
abbrev cX7_goes : ByteArray := prog_9_method_17_code
def yX7_goes : MethodName := ⟨RX7, "goes", "([JI)V"⟩
abbrev cX7_begins : ByteArray := prog_9_method_18_code
def yX7_begins : MethodName := ⟨RX7, "begins", "([J)V"⟩
abbrev cX7_behind : ByteArray := prog_9_method_19_code
def yX7_behind : MethodName := ⟨RX7, "behind", "(I)V"⟩
abbrev cX7_lamp : ByteArray := prog_9_method_20_code
def yX7_lamp : MethodName := ⟨RX7, "lamp", "(IIII)I"⟩
abbrev cX7_add : ByteArray := prog_9_method_21_code
def yX7_add : MethodName := ⟨RX7, "add", "(III)I"⟩
abbrev cX7_adds : ByteArray := prog_9_method_22_code
def yX7_adds : MethodName := ⟨RX7, "adds", "(I)I"⟩
abbrev cX7_told : ByteArray := prog_9_method_23_code
def yX7_told : MethodName := ⟨RX7, "told", "(II)I"⟩
abbrev cX7_with : ByteArray := prog_9_method_24_code
def yX7_with : MethodName := ⟨RX7, "with", "(III)I"⟩
abbrev cX7_change : ByteArray := prog_9_method_25_code
def yX7_change : MethodName := ⟨RX7, "change", "(III)I"⟩
abbrev cX7_turn : ByteArray := prog_9_method_26_code
def yX7_turn : MethodName := ⟨RX7, "turn", "(II)I"⟩
abbrev cX7_takesOut : ByteArray := prog_9_method_27_code
def yX7_takesOut : MethodName := ⟨RX7, "takesOut", "(I)V"⟩
abbrev cX7_move : ByteArray := prog_9_method_28_code
def yX7_move : MethodName := ⟨RX7, "move", "(II)I"⟩
abbrev cX7_cut : ByteArray := prog_9_method_29_code
def yX7_cut : MethodName := ⟨RX7, "cut", "(I)I"⟩
abbrev cX7_clear : ByteArray := prog_9_method_30_code
def yX7_clear : MethodName := ⟨RX7, "clear", "()I"⟩
abbrev cX7_isUnderKind : ByteArray := prog_9_method_31_code
def yX7_isUnderKind : MethodName := ⟨RX7, "isUnderKind", "(II)Z"⟩
abbrev cX7_of : ByteArray := prog_9_method_32_code
def yX7_of : MethodName := ⟨RX7, "of", "(II)I"⟩
abbrev cX7_isUnder : ByteArray := prog_9_method_33_code
def yX7_isUnder : MethodName := ⟨RX7, "isUnder", "(II)I"⟩
abbrev cX7_light : ByteArray := prog_9_method_34_code
def yX7_light : MethodName := ⟨RX7, "light", "(II)J"⟩
abbrev cX7_common : ByteArray := prog_9_method_35_code
def yX7_common : MethodName := ⟨RX7, "common", "(JJ)J"⟩
abbrev cX7_lowest : ByteArray := prog_9_method_36_code
def yX7_lowest : MethodName := ⟨RX7, "lowest", "(JJI)J"⟩
abbrev cX7_leftNow : ByteArray := prog_9_method_37_code
def yX7_leftNow : MethodName := ⟨RX7, "leftNow", "(I)J"⟩
abbrev cX7_isPart : ByteArray := prog_9_method_38_code
def yX7_isPart : MethodName := ⟨RX7, "isPart", "(I)Z"⟩
abbrev cX7_left : ByteArray := prog_9_method_39_code
def yX7_left : MethodName := ⟨RX7, "left", "(II)J"⟩
abbrev cX7_findsDegree : ByteArray := prog_9_method_40_code
def yX7_findsDegree : MethodName := ⟨RX7, "findsDegree", "()Z"⟩
abbrev cX7_degree : ByteArray := prog_9_method_41_code
def yX7_degree : MethodName := ⟨RX7, "degree", "(II)J"⟩
abbrev cX7_sort : ByteArray := prog_9_method_42_code
def yX7_sort : MethodName := ⟨RX7, "sort", "(I)I"⟩
abbrev cX7_compared : ByteArray := prog_9_method_43_code
def yX7_compared : MethodName := ⟨RX7, "compared", "(JJJJ)I"⟩
abbrev cX7_areAlike : ByteArray := prog_9_method_44_code
def yX7_areAlike : MethodName := ⟨RX7, "areAlike", "([JI[JI)Z"⟩
abbrev cX7_sees : ByteArray := prog_9_method_45_code
def yX7_sees : MethodName := ⟨RX7, "sees", "()V"⟩
abbrev cX7_goesOrders : ByteArray := prog_9_method_46_code
def yX7_goesOrders : MethodName := ⟨RX7, "goesOrders", "(II)V"⟩
abbrev cX7_findsOrders : ByteArray := prog_9_method_47_code
def yX7_findsOrders : MethodName := ⟨RX7, "findsOrders", "()V"⟩
abbrev cX7_order : ByteArray := prog_9_method_48_code
def yX7_order : MethodName := ⟨RX7, "order", "(I)I"⟩
abbrev cX7_orderLight : ByteArray := prog_9_method_49_code
def yX7_orderLight : MethodName := ⟨RX7, "orderLight", "(II)J"⟩
abbrev cX7_begins1 : ByteArray := prog_9_method_50_code
def yX7_begins1 : MethodName := ⟨RX7, "begins1", "(I)V"⟩
abbrev cX7_matrix : ByteArray := prog_9_method_51_code
def yX7_matrix : MethodName := ⟨RX7, "matrix", "(III)J"⟩
abbrev cX7_trade : ByteArray := prog_9_method_52_code
def yX7_trade : MethodName := ⟨RX7, "trade", "(II)I"⟩
abbrev cX7_angle : ByteArray := prog_9_method_53_code
def yX7_angle : MethodName := ⟨RX7, "angle", "(II)I"⟩
abbrev cX7_without : ByteArray := prog_9_method_54_code
def yX7_without : MethodName := ⟨RX7, "without", "(II)J"⟩
abbrev cX7_darkens : ByteArray := prog_9_method_55_code
def yX7_darkens : MethodName := ⟨RX7, "darkens", "()I"⟩
abbrev cX7_crossed : ByteArray := prog_9_method_56_code
def yX7_crossed : MethodName := ⟨RX7, "crossed", "(I)I"⟩
abbrev cX7_tally : ByteArray := prog_9_method_57_code
def yX7_tally : MethodName := ⟨RX7, "tally", "(I)I"⟩
abbrev cX7_isList : ByteArray := prog_9_method_58_code
def yX7_isList : MethodName := ⟨RX7, "isList", "(I)Z"⟩
abbrev cX7_becomes : ByteArray := prog_9_method_59_code
def yX7_becomes : MethodName := ⟨RX7, "becomes", "(II)V"⟩
abbrev cX7_list : ByteArray := prog_9_method_60_code
def yX7_list : MethodName := ⟨RX7, "list", "(II)I"⟩
abbrev cX7_put : ByteArray := prog_9_method_61_code
def yX7_put : MethodName := ⟨RX7, "put", "(IIJ)I"⟩
abbrev cX7_get : ByteArray := prog_9_method_62_code
def yX7_get : MethodName := ⟨RX7, "get", "(II)J"⟩
abbrev cX7_lays : ByteArray := prog_9_method_63_code
def yX7_lays : MethodName := ⟨RX7, "lays", "(I)I"⟩
abbrev cX7_lay : ByteArray := prog_9_method_64_code
def yX7_lay : MethodName := ⟨RX7, "lay", "(II)I"⟩
abbrev cX7_readings : ByteArray := prog_9_method_65_code
def yX7_readings : MethodName := ⟨RX7, "readings", "(I)I"⟩
abbrev cX7_hasFive : ByteArray := prog_9_method_66_code
def yX7_hasFive : MethodName := ⟨RX7, "hasFive", "(I)Z"⟩
abbrev cX7_refound : ByteArray := prog_9_method_67_code
def yX7_refound : MethodName := ⟨RX7, "refound", "(II)J"⟩
abbrev cX7_tellsLight : ByteArray := prog_9_method_68_code
def yX7_tellsLight : MethodName := ⟨RX7, "tellsLight", "(I)Z"⟩
abbrev cX7_through : ByteArray := prog_9_method_69_code
def yX7_through : MethodName := ⟨RX7, "through", "(II)J"⟩
abbrev cX7_before : ByteArray := prog_9_method_70_code
def yX7_before : MethodName := ⟨RX7, "before", "(II)J"⟩
abbrev cX7_found : ByteArray := prog_9_method_71_code
def yX7_found : MethodName := ⟨RX7, "found", "(III)I"⟩
abbrev cX7_meterNow : ByteArray := prog_9_method_72_code
def yX7_meterNow : MethodName := ⟨RX7, "meterNow", "()D"⟩
abbrev cX7_meterAll : ByteArray := prog_9_method_73_code
def yX7_meterAll : MethodName := ⟨RX7, "meterAll", "()F"⟩
abbrev cX7_isCell : ByteArray := prog_9_method_74_code
def yX7_isCell : MethodName := ⟨RX7, "isCell", "(I)Z"⟩
abbrev cX7_meter : ByteArray := prog_9_method_75_code
def yX7_meter : MethodName := ⟨RX7, "meter", "(II)J"⟩
abbrev cX7_expose : ByteArray := prog_9_method_76_code
def yX7_expose : MethodName := ⟨RX7, "expose", "(I)I"⟩
abbrev cX7_dim : ByteArray := prog_9_method_77_code
def yX7_dim : MethodName := ⟨RX7, "dim", "(II)I"⟩
abbrev cX7_film : ByteArray := prog_9_method_78_code
def yX7_film : MethodName := ⟨RX7, "film", "(II)I"⟩
abbrev cX7_sumFilm : ByteArray := prog_9_method_79_code
def yX7_sumFilm : MethodName := ⟨RX7, "sumFilm", "(I)J"⟩
abbrev cX7_isRack : ByteArray := prog_9_method_80_code
def yX7_isRack : MethodName := ⟨RX7, "isRack", "(I)Z"⟩
abbrev cX7_isPlace : ByteArray := prog_9_method_81_code
def yX7_isPlace : MethodName := ⟨RX7, "isPlace", "(I)Z"⟩
abbrev cX7_doesTake : ByteArray := prog_9_method_82_code
def yX7_doesTake : MethodName := ⟨RX7, "doesTake", "(II)Z"⟩
abbrev cX7_store : ByteArray := prog_9_method_83_code
def yX7_store : MethodName := ⟨RX7, "store", "(III)I"⟩
abbrev cX7_empty : ByteArray := prog_9_method_84_code
def yX7_empty : MethodName := ⟨RX7, "empty", "(II)I"⟩
abbrev cX7_fetch : ByteArray := prog_9_method_85_code
def yX7_fetch : MethodName := ⟨RX7, "fetch", "(II)I"⟩
abbrev cX7_rack : ByteArray := prog_9_method_86_code
def yX7_rack : MethodName := ⟨RX7, "rack", "(II)I"⟩
abbrev cX7_heldIn : ByteArray := prog_9_method_87_code
def yX7_heldIn : MethodName := ⟨RX7, "heldIn", "(II)I"⟩
abbrev cX7_copy : ByteArray := prog_9_method_88_code
def yX7_copy : MethodName := ⟨RX7, "copy", "(II)I"⟩
abbrev cX7_tells : ByteArray := prog_9_method_89_code
def yX7_tells : MethodName := ⟨RX7, "tells", "(II)V"⟩
abbrev cX7_feed : ByteArray := prog_9_method_90_code
def yX7_feed : MethodName := ⟨RX7, "feed", "(I)I"⟩
abbrev cX7_wipe : ByteArray := prog_9_method_91_code
def yX7_wipe : MethodName := ⟨RX7, "wipe", "()I"⟩
abbrev cX7_next : ByteArray := prog_9_method_92_code
def yX7_next : MethodName := ⟨RX7, "next", "()I"⟩
abbrev cX7_isFigure : ByteArray := prog_9_method_93_code
def yX7_isFigure : MethodName := ⟨RX7, "isFigure", "(II)Z"⟩
abbrev cX7_faulty : ByteArray := prog_9_method_94_code
def yX7_faulty : MethodName := ⟨RX7, "faulty", "(I)V"⟩
abbrev cX7_figureTold : ByteArray := prog_9_method_95_code
def yX7_figureTold : MethodName := ⟨RX7, "figureTold", "()I"⟩
abbrev cX7_angleTold : ByteArray := prog_9_method_96_code
def yX7_angleTold : MethodName := ⟨RX7, "angleTold", "()I"⟩
abbrev cX7_filterTold : ByteArray := prog_9_method_97_code
def yX7_filterTold : MethodName := ⟨RX7, "filterTold", "()I"⟩
abbrev cX7_textTold : ByteArray := prog_9_method_98_code
def yX7_textTold : MethodName := ⟨RX7, "textTold", "(I)I"⟩
abbrev cX7_itemTold : ByteArray := prog_9_method_99_code
def yX7_itemTold : MethodName := ⟨RX7, "itemTold", "(I)I"⟩
abbrev cX7_read : ByteArray := prog_9_method_100_code
def yX7_read : MethodName := ⟨RX7, "read", "()I"⟩
abbrev cX7_why : ByteArray := prog_9_method_101_code
def yX7_why : MethodName := ⟨RX7, "why", "(II)I"⟩
abbrev cX7_spells : ByteArray := prog_9_method_102_code
def yX7_spells : MethodName := ⟨RX7, "spells", "(I)V"⟩
abbrev cX7_spellsNumber : ByteArray := prog_9_method_103_code
def yX7_spellsNumber : MethodName := ⟨RX7, "spellsNumber", "(I)V"⟩
abbrev cX7_letterOf : ByteArray := prog_9_method_104_code
def yX7_letterOf : MethodName := ⟨RX7, "letterOf", "(I)I"⟩
abbrev cX7_spellsAll : ByteArray := prog_9_method_105_code
def yX7_spellsAll : MethodName := ⟨RX7, "spellsAll", "()V"⟩
abbrev cX7_spelled : ByteArray := prog_9_method_106_code
def yX7_spelled : MethodName := ⟨RX7, "spelled", "(I)I"⟩
abbrev cX7_image : ByteArray := prog_9_method_107_code
def yX7_image : MethodName := ⟨RX7, "image", "()I"⟩
abbrev cX7_undo : ByteArray := prog_9_method_108_code
def yX7_undo : MethodName := ⟨RX7, "undo", "()I"⟩
abbrev cX7_count : ByteArray := prog_9_method_109_code
def yX7_count : MethodName := ⟨RX7, "count", "(I)I"⟩
def RJ5 : String := "java/lang/AbstractStringBuilder"
def TJ5 : u_T := fun k => match k with
  | _ => ("", "", "", false)
def tyJ5 : Nat → FieldType := fun k => match k with
  | _ => .int
abbrev wsJ50 : List Cond := u_ws RJ5 TJ5 0
theorem nmJ5 : ∀ a, a < 0 → ∀ b, b < 0 → a ≠ b → (TJ5 a).2.1 ≠ (TJ5 b).2.1 := by decide +kernel
theorem tyJ5_ok : ∀ k, k < 0 → parseFieldDescriptor (TJ5 k).2.2.1 = some (tyJ5 k) := by decide +kernel
abbrev cJ5_init_d00df : ByteArray := prog_10_method_2_code
def yJ5_init_d00df : MethodName := ⟨RJ5, "<init>", "(I)V"⟩
abbrev cJ5_length_8abf5 : ByteArray := prog_10_method_6_code
def yJ5_length_8abf5 : MethodName := ⟨RJ5, "length", "()I"⟩
abbrev cJ5_ensureCapacityInternal_d00df : ByteArray := prog_10_method_9_code
def yJ5_ensureCapacityInternal_d00df : MethodName := ⟨RJ5, "ensureCapacityInternal", "(I)V"⟩
abbrev cJ5_newCapacity_0f7a4 : ByteArray := prog_10_method_10_code
def yJ5_newCapacity_0f7a4 : MethodName := ⟨RJ5, "newCapacity", "(I)I"⟩
abbrev cJ5_inflate_da8c8 : ByteArray := prog_10_method_11_code
def yJ5_inflate_da8c8 : MethodName := ⟨RJ5, "inflate", "()V"⟩
abbrev cJ5_setLength_d00df : ByteArray := prog_10_method_13_code
def yJ5_setLength_d00df : MethodName := ⟨RJ5, "setLength", "(I)V"⟩
abbrev cJ5_charAt_5068e : ByteArray := prog_10_method_14_code
def yJ5_charAt_5068e : MethodName := ⟨RJ5, "charAt", "(I)C"⟩
abbrev cJ5_append_3fe6f : ByteArray := prog_10_method_31_code
def yJ5_append_3fe6f : MethodName := ⟨RJ5, "append", "(C)Ljava/lang/AbstractStringBuilder;"⟩
abbrev cJ5_append_c97b9 : ByteArray := prog_10_method_32_code
def yJ5_append_c97b9 : MethodName := ⟨RJ5, "append", "(I)Ljava/lang/AbstractStringBuilder;"⟩
abbrev cJ5_isLatin1_aae02 : ByteArray := prog_10_method_68_code
def yJ5_isLatin1_aae02 : MethodName := ⟨RJ5, "isLatin1", "()Z"⟩
def RJ11 : String := "java/lang/Character"
def TJ11 : u_T := fun k => match k with
  | _ => ("", "", "", false)
def tyJ11 : Nat → FieldType := fun k => match k with
  | _ => .int
abbrev wsJ110 : List Cond := u_ws RJ11 TJ11 0
theorem nmJ11 : ∀ a, a < 0 → ∀ b, b < 0 → a ≠ b → (TJ11 a).2.1 ≠ (TJ11 b).2.1 := by decide +kernel
theorem tyJ11_ok : ∀ k, k < 0 → parseFieldDescriptor (TJ11 k).2.2.1 = some (tyJ11 k) := by decide +kernel
abbrev cJ11_isValidCodePoint_9a6ad : ByteArray := prog_11_method_11_code
def yJ11_isValidCodePoint_9a6ad : MethodName := ⟨RJ11, "isValidCodePoint", "(I)Z"⟩
abbrev cJ11_highSurrogate_5068e : ByteArray := prog_11_method_28_code
def yJ11_highSurrogate_5068e : MethodName := ⟨RJ11, "highSurrogate", "(I)C"⟩
abbrev cJ11_lowSurrogate_5068e : ByteArray := prog_11_method_29_code
def yJ11_lowSurrogate_5068e : MethodName := ⟨RJ11, "lowSurrogate", "(I)C"⟩
def RJx8e188 : String := "java/lang/Cloneable"
def TJx8e188 : u_T := fun k => match k with
  | _ => ("", "", "", false)
def tyJx8e188 : Nat → FieldType := fun k => match k with
  | _ => .int
abbrev wsJx8e1880 : List Cond := u_ws RJx8e188 TJx8e188 0
theorem nmJx8e188 : ∀ a, a < 0 → ∀ b, b < 0 → a ≠ b → (TJx8e188 a).2.1 ≠ (TJx8e188 b).2.1 := by decide +kernel
theorem tyJx8e188_ok : ∀ k, k < 0 → parseFieldDescriptor (TJx8e188 k).2.2.1 = some (tyJx8e188 k) := by decide +kernel
def RJxe99ae : String := "java/lang/Double"
def TJxe99ae : u_T := fun k => match k with
  | _ => ("", "", "", false)
def tyJxe99ae : Nat → FieldType := fun k => match k with
  | _ => .int
abbrev wsJxe99ae0 : List Cond := u_ws RJxe99ae TJxe99ae 0
theorem nmJxe99ae : ∀ a, a < 0 → ∀ b, b < 0 → a ≠ b → (TJxe99ae a).2.1 ≠ (TJxe99ae b).2.1 := by decide +kernel
theorem tyJxe99ae_ok : ∀ k, k < 0 → parseFieldDescriptor (TJxe99ae k).2.2.1 = some (tyJxe99ae k) := by decide +kernel
abbrev cJxe99ae_isNaN_b9ae7 : ByteArray := prog_13_method_6_code
def yJxe99ae_isNaN_b9ae7 : MethodName := ⟨RJxe99ae, "isNaN", "(D)Z"⟩
abbrev cJxe99ae_doubleToLongBits_ccdee : ByteArray := prog_13_method_23_code
def yJxe99ae_doubleToLongBits_ccdee : MethodName := ⟨RJxe99ae, "doubleToLongBits", "(D)J"⟩
def RJxf58ca : String := "java/lang/Float"
def TJxf58ca : u_T := fun k => match k with
  | _ => ("", "", "", false)
def tyJxf58ca : Nat → FieldType := fun k => match k with
  | _ => .int
abbrev wsJxf58ca0 : List Cond := u_ws RJxf58ca TJxf58ca 0
theorem nmJxf58ca : ∀ a, a < 0 → ∀ b, b < 0 → a ≠ b → (TJxf58ca a).2.1 ≠ (TJxf58ca b).2.1 := by decide +kernel
theorem tyJxf58ca_ok : ∀ k, k < 0 → parseFieldDescriptor (TJxf58ca k).2.2.1 = some (tyJxf58ca k) := by decide +kernel
abbrev cJxf58ca_isNaN_12338 : ByteArray := prog_14_method_6_code
def yJxf58ca_isNaN_12338 : MethodName := ⟨RJxf58ca, "isNaN", "(F)Z"⟩
abbrev cJxf58ca_floatToIntBits_5c35a : ByteArray := prog_14_method_24_code
def yJxf58ca_floatToIntBits_5c35a : MethodName := ⟨RJxf58ca, "floatToIntBits", "(F)I"⟩
def RJ6 : String := "java/lang/Integer"
def TJ6 : u_T := fun k => match k with
  | _ => ("", "", "", false)
def tyJ6 : Nat → FieldType := fun k => match k with
  | _ => .int
abbrev wsJ60 : List Cond := u_ws RJ6 TJ6 0
theorem nmJ6 : ∀ a, a < 0 → ∀ b, b < 0 → a ≠ b → (TJ6 a).2.1 ≠ (TJ6 b).2.1 := by decide +kernel
theorem tyJ6_ok : ∀ k, k < 0 → parseFieldDescriptor (TJ6 k).2.2.1 = some (tyJ6 k) := by decide +kernel
abbrev cJ6_getChars_ba4f3 : ByteArray := prog_15_method_12_code
def yJ6_getChars_ba4f3 : MethodName := ⟨RJ6, "getChars", "(II[B)I"⟩
abbrev cJ6_stringSize_0f7a4 : ByteArray := prog_15_method_13_code
def yJ6_stringSize_0f7a4 : MethodName := ⟨RJ6, "stringSize", "(I)I"⟩
def RJ13 : String := "java/lang/Long"
def TJ13 : u_T := fun k => match k with
  | _ => ("", "", "", false)
def tyJ13 : Nat → FieldType := fun k => match k with
  | _ => .int
abbrev wsJ130 : List Cond := u_ws RJ13 TJ13 0
theorem nmJ13 : ∀ a, a < 0 → ∀ b, b < 0 → a ≠ b → (TJ13 a).2.1 ≠ (TJ13 b).2.1 := by decide +kernel
theorem tyJ13_ok : ∀ k, k < 0 → parseFieldDescriptor (TJ13 k).2.2.1 = some (tyJ13 k) := by decide +kernel
abbrev cJ13_compare_74951 : ByteArray := prog_16_method_42_code
def yJ13_compare_74951 : MethodName := ⟨RJ13, "compare", "(JJ)I"⟩
def RJ9 : String := "java/lang/Math"
def TJ9 : u_T := fun k => match k with
  | _ => ("", "", "", false)
def tyJ9 : Nat → FieldType := fun k => match k with
  | _ => .int
abbrev wsJ90 : List Cond := u_ws RJ9 TJ9 0
theorem nmJ9 : ∀ a, a < 0 → ∀ b, b < 0 → a ≠ b → (TJ9 a).2.1 ≠ (TJ9 b).2.1 := by decide +kernel
theorem tyJ9_ok : ∀ k, k < 0 → parseFieldDescriptor (TJ9 k).2.2.1 = some (tyJ9 k) := by decide +kernel
abbrev cJ9_floorMod_7cf53 : ByteArray := prog_17_method_50_code
def yJ9_floorMod_7cf53 : MethodName := ⟨RJ9, "floorMod", "(II)I"⟩
abbrev cJ9_abs_067f4 : ByteArray := prog_17_method_61_code
def yJ9_abs_067f4 : MethodName := ⟨RJ9, "abs", "(J)J"⟩
abbrev cJ9_max_7cf53 : ByteArray := prog_17_method_65_code
def yJ9_max_7cf53 : MethodName := ⟨RJ9, "max", "(II)I"⟩
abbrev cJ9_min_7cf53 : ByteArray := prog_17_method_69_code
def yJ9_min_7cf53 : MethodName := ⟨RJ9, "min", "(II)I"⟩
def RJ0 : String := "java/lang/String"
def TJ0 : u_T := fun k => match k with
  | _ => ("", "", "", false)
def tyJ0 : Nat → FieldType := fun k => match k with
  | _ => .int
abbrev wsJ00 : List Cond := u_ws RJ0 TJ0 0
theorem nmJ0 : ∀ a, a < 0 → ∀ b, b < 0 → a ≠ b → (TJ0 a).2.1 ≠ (TJ0 b).2.1 := by decide +kernel
theorem tyJ0_ok : ∀ k, k < 0 → parseFieldDescriptor (TJ0 k).2.2.1 = some (tyJ0 k) := by decide +kernel
abbrev cJ0_length_8abf5 : ByteArray := prog_18_method_54_code
def yJ0_length_8abf5 : MethodName := ⟨RJ0, "length", "()I"⟩
abbrev cJ0_charAt_5068e : ByteArray := prog_18_method_56_code
def yJ0_charAt_5068e : MethodName := ⟨RJ0, "charAt", "(I)C"⟩
abbrev cJ0_indexOf_0f7a4 : ByteArray := prog_18_method_79_code
def yJ0_indexOf_0f7a4 : MethodName := ⟨RJ0, "indexOf", "(I)I"⟩
abbrev cJ0_indexOf_7cf53 : ByteArray := prog_18_method_80_code
def yJ0_indexOf_7cf53 : MethodName := ⟨RJ0, "indexOf", "(II)I"⟩
abbrev cJ0_coder_7d493 : ByteArray := prog_18_method_152_code
def yJ0_coder_7d493 : MethodName := ⟨RJ0, "coder", "()B"⟩
abbrev cJ0_isLatin1_aae02 : ByteArray := prog_18_method_154_code
def yJ0_isLatin1_aae02 : MethodName := ⟨RJ0, "isLatin1", "()Z"⟩
abbrev cJ0_checkIndex_df160 : ByteArray := prog_18_method_155_code
def yJ0_checkIndex_df160 : MethodName := ⟨RJ0, "checkIndex", "(II)V"⟩
abbrev cJ0_checkBoundsOffCount_cabcc : ByteArray := prog_18_method_157_code
def yJ0_checkBoundsOffCount_cabcc : MethodName := ⟨RJ0, "checkBoundsOffCount", "(III)I"⟩
abbrev cJ0_checkBoundsBeginEnd_23922 : ByteArray := prog_18_method_158_code
def yJ0_checkBoundsBeginEnd_23922 : MethodName := ⟨RJ0, "checkBoundsBeginEnd", "(III)V"⟩
def RJ4 : String := "java/lang/StringBuilder"
def TJ4 : u_T := fun k => match k with
  | 0 => ("java/lang/AbstractStringBuilder", "value", "[B", false)
  | 1 => ("java/lang/AbstractStringBuilder", "coder", "B", false)
  | 2 => ("java/lang/AbstractStringBuilder", "maybeLatin1", "Z", false)
  | _ => ("java/lang/AbstractStringBuilder", "count", "I", false)
def tyJ4 : Nat → FieldType := fun k => match k with
  | 0 => .array .byte
  | 1 => .byte
  | 2 => .boolean
  | _ => .int
abbrev wsJ40 : List Cond := u_ws RJ4 TJ4 4
theorem nmJ4 : ∀ a, a < 4 → ∀ b, b < 4 → a ≠ b → (TJ4 a).2.1 ≠ (TJ4 b).2.1 := by decide +kernel
theorem tyJ4_ok : ∀ k, k < 4 → parseFieldDescriptor (TJ4 k).2.2.1 = some (tyJ4 k) := by decide +kernel
abbrev cJ4_init_da8c8 : ByteArray := prog_19_method_1_code
def yJ4_init_da8c8 : MethodName := ⟨RJ4, "<init>", "()V"⟩
abbrev cJ4_append_cf468 : ByteArray := prog_19_method_14_code
def yJ4_append_cf468 : MethodName := ⟨RJ4, "append", "(C)Ljava/lang/StringBuilder;"⟩
abbrev cJ4_append_bf812 : ByteArray := prog_19_method_15_code
def yJ4_append_bf812 : MethodName := ⟨RJ4, "append", "(I)Ljava/lang/StringBuilder;"⟩
abbrev cJ4_charAt_5068e : ByteArray := prog_19_method_88_code
def yJ4_charAt_5068e : MethodName := ⟨RJ4, "charAt", "(I)C"⟩
abbrev cJ4_setLength_d00df : ByteArray := prog_19_method_89_code
def yJ4_setLength_d00df : MethodName := ⟨RJ4, "setLength", "(I)V"⟩
abbrev cJ4_length_8abf5 : ByteArray := prog_19_method_93_code
def yJ4_length_8abf5 : MethodName := ⟨RJ4, "length", "()I"⟩
def RJ1 : String := "java/lang/StringLatin1"
def TJ1 : u_T := fun k => match k with
  | _ => ("", "", "", false)
def tyJ1 : Nat → FieldType := fun k => match k with
  | _ => .int
abbrev wsJ10 : List Cond := u_ws RJ1 TJ1 0
theorem nmJ1 : ∀ a, a < 0 → ∀ b, b < 0 → a ≠ b → (TJ1 a).2.1 ≠ (TJ1 b).2.1 := by decide +kernel
theorem tyJ1_ok : ∀ k, k < 0 → parseFieldDescriptor (TJ1 k).2.2.1 = some (tyJ1 k) := by decide +kernel
abbrev cJ1_charAt_3b067 : ByteArray := prog_20_method_2_code
def yJ1_charAt_3b067 : MethodName := ⟨RJ1, "charAt", "([BI)C"⟩
abbrev cJ1_canEncode_fc78d : ByteArray := prog_20_method_3_code
def yJ1_canEncode_fc78d : MethodName := ⟨RJ1, "canEncode", "(C)Z"⟩
abbrev cJ1_canEncode_9a6ad : ByteArray := prog_20_method_4_code
def yJ1_canEncode_9a6ad : MethodName := ⟨RJ1, "canEncode", "(I)Z"⟩
abbrev cJ1_indexOf_4cfef : ByteArray := prog_20_method_22_code
def yJ1_indexOf_4cfef : MethodName := ⟨RJ1, "indexOf", "([BIII)I"⟩
abbrev cJ1_indexOfChar_4cfef : ByteArray := prog_20_method_23_code
def yJ1_indexOfChar_4cfef : MethodName := ⟨RJ1, "indexOfChar", "([BIII)I"⟩
abbrev cJ1_fillNull_b72d1 : ByteArray := prog_20_method_48_code
def yJ1_fillNull_b72d1 : MethodName := ⟨RJ1, "fillNull", "([BII)V"⟩
abbrev cJ1_inflate_0e8fd : ByteArray := prog_20_method_50_code
def yJ1_inflate_0e8fd : MethodName := ⟨RJ1, "inflate", "([BI[BII)V"⟩
def RJ2 : String := "java/lang/StringUTF16"
def TJ2 : u_T := fun k => match k with
  | _ => ("", "", "", false)
def tyJ2 : Nat → FieldType := fun k => match k with
  | _ => .int
abbrev wsJ20 : List Cond := u_ws RJ2 TJ2 0
theorem nmJ2 : ∀ a, a < 0 → ∀ b, b < 0 → a ≠ b → (TJ2 a).2.1 ≠ (TJ2 b).2.1 := by decide +kernel
theorem tyJ2_ok : ∀ k, k < 0 → parseFieldDescriptor (TJ2 k).2.2.1 = some (tyJ2 k) := by decide +kernel
abbrev cJ2_newBytesFor_77867 : ByteArray := prog_21_method_2_code
def yJ2_newBytesFor_77867 : MethodName := ⟨RJ2, "newBytesFor", "(I)[B"⟩
abbrev cJ2_newBytesLength_0f7a4 : ByteArray := prog_21_method_3_code
def yJ2_newBytesLength_0f7a4 : MethodName := ⟨RJ2, "newBytesLength", "(I)I"⟩
abbrev cJ2_putChar_b72d1 : ByteArray := prog_21_method_4_code
def yJ2_putChar_b72d1 : MethodName := ⟨RJ2, "putChar", "([BII)V"⟩
abbrev cJ2_getChar_3b067 : ByteArray := prog_21_method_5_code
def yJ2_getChar_3b067 : MethodName := ⟨RJ2, "getChar", "([BI)C"⟩
abbrev cJ2_length_9d52b : ByteArray := prog_21_method_6_code
def yJ2_length_9d52b : MethodName := ⟨RJ2, "length", "([B)I"⟩
abbrev cJ2_indexOf_4cfef : ByteArray := prog_21_method_40_code
def yJ2_indexOf_4cfef : MethodName := ⟨RJ2, "indexOf", "([BIII)I"⟩
abbrev cJ2_indexOfChar_4cfef : ByteArray := prog_21_method_47_code
def yJ2_indexOfChar_4cfef : MethodName := ⟨RJ2, "indexOfChar", "([BIII)I"⟩
abbrev cJ2_indexOfCharUnsafe_4cfef : ByteArray := prog_21_method_48_code
def yJ2_indexOfCharUnsafe_4cfef : MethodName := ⟨RJ2, "indexOfCharUnsafe", "([BIII)I"⟩
abbrev cJ2_indexOfSupplementary_4cfef : ByteArray := prog_21_method_49_code
def yJ2_indexOfSupplementary_4cfef : MethodName := ⟨RJ2, "indexOfSupplementary", "([BIII)I"⟩
abbrev cJ2_fillNull_b72d1 : ByteArray := prog_21_method_70_code
def yJ2_fillNull_b72d1 : MethodName := ⟨RJ2, "fillNull", "([BII)V"⟩
abbrev cJ2_putCharSB_b72d1 : ByteArray := prog_21_method_71_code
def yJ2_putCharSB_b72d1 : MethodName := ⟨RJ2, "putCharSB", "([BII)V"⟩
abbrev cJ2_getChars_46870 : ByteArray := prog_21_method_77_code
def yJ2_getChars_46870 : MethodName := ⟨RJ2, "getChars", "(III[B)I"⟩
abbrev cJ2_charAt_3b067 : ByteArray := prog_21_method_83_code
def yJ2_charAt_3b067 : MethodName := ⟨RJ2, "charAt", "([BI)C"⟩
abbrev cJ2_inflate_0e8fd : ByteArray := prog_21_method_86_code
def yJ2_inflate_0e8fd : MethodName := ⟨RJ2, "inflate", "([BI[BII)V"⟩
abbrev cJ2_getChars_ba4f3 : ByteArray := prog_21_method_89_code
def yJ2_getChars_ba4f3 : MethodName := ⟨RJ2, "getChars", "(II[B)I"⟩
abbrev cJ2_checkIndex_2214a : ByteArray := prog_21_method_91_code
def yJ2_checkIndex_2214a : MethodName := ⟨RJ2, "checkIndex", "(I[B)V"⟩
abbrev cJ2_checkBoundsBeginEnd_d044e : ByteArray := prog_21_method_93_code
def yJ2_checkBoundsBeginEnd_d044e : MethodName := ⟨RJ2, "checkBoundsBeginEnd", "(II[B)V"⟩
abbrev cJ2_checkBoundsOffCount_d044e : ByteArray := prog_21_method_94_code
def yJ2_checkBoundsOffCount_d044e : MethodName := ⟨RJ2, "checkBoundsOffCount", "(II[B)V"⟩
def RJ10 : String := "java/lang/System"
def TJ10 : u_T := fun k => match k with
  | _ => ("", "", "", false)
def tyJ10 : Nat → FieldType := fun k => match k with
  | _ => .int
abbrev wsJ100 : List Cond := u_ws RJ10 TJ10 0
theorem nmJ10 : ∀ a, a < 0 → ∀ b, b < 0 → a ≠ b → (TJ10 a).2.1 ≠ (TJ10 b).2.1 := by decide +kernel
theorem tyJ10_ok : ∀ k, k < 0 → parseFieldDescriptor (TJ10 k).2.2.1 = some (tyJ10 k) := by decide +kernel
def RJ7 : String := "java/util/Arrays"
def TJ7 : u_T := fun k => match k with
  | _ => ("", "", "", false)
def tyJ7 : Nat → FieldType := fun k => match k with
  | _ => .int
abbrev wsJ70 : List Cond := u_ws RJ7 TJ7 0
theorem nmJ7 : ∀ a, a < 0 → ∀ b, b < 0 → a ≠ b → (TJ7 a).2.1 ≠ (TJ7 b).2.1 := by decide +kernel
theorem tyJ7_ok : ∀ k, k < 0 → parseFieldDescriptor (TJ7 k).2.2.1 = some (tyJ7 k) := by decide +kernel
abbrev cJ7_rangeCheck_23922 : ByteArray := prog_23_method_30_code
def yJ7_rangeCheck_23922 : MethodName := ⟨RJ7, "rangeCheck", "(III)V"⟩
abbrev cJ7_fill_eb02e : ByteArray := prog_23_method_110_code
def yJ7_fill_eb02e : MethodName := ⟨RJ7, "fill", "([BIIB)V"⟩
abbrev cJ7_copyOf_9075b : ByteArray := prog_23_method_121_code
def yJ7_copyOf_9075b : MethodName := ⟨RJ7, "copyOf", "([BI)[B"⟩
def RJ8 : String := "jdk/internal/util/ArraysSupport"
def TJ8 : u_T := fun k => match k with
  | _ => ("", "", "", false)
def tyJ8 : Nat → FieldType := fun k => match k with
  | _ => .int
abbrev wsJ80 : List Cond := u_ws RJ8 TJ8 0
theorem nmJ8 : ∀ a, a < 0 → ∀ b, b < 0 → a ≠ b → (TJ8 a).2.1 ≠ (TJ8 b).2.1 := by decide +kernel
theorem tyJ8_ok : ∀ k, k < 0 → parseFieldDescriptor (TJ8 k).2.2.1 = some (tyJ8 k) := by decide +kernel
abbrev cJ8_newLength_cabcc : ByteArray := prog_24_method_27_code
def yJ8_newLength_cabcc : MethodName := ⟨RJ8, "newLength", "(III)I"⟩
abbrev cJ8_hugeLength_7cf53 : ByteArray := prog_24_method_28_code
def yJ8_hugeLength_7cf53 : MethodName := ⟨RJ8, "hugeLength", "(II)I"⟩
def RJ3 : String := "jdk/internal/util/Preconditions"
def TJ3 : u_T := fun k => match k with
  | _ => ("", "", "", false)
def tyJ3 : Nat → FieldType := fun k => match k with
  | _ => .int
abbrev wsJ30 : List Cond := u_ws RJ3 TJ3 0
theorem nmJ3 : ∀ a, a < 0 → ∀ b, b < 0 → a ≠ b → (TJ3 a).2.1 ≠ (TJ3 b).2.1 := by decide +kernel
theorem tyJ3_ok : ∀ k, k < 0 → parseFieldDescriptor (TJ3 k).2.2.1 = some (tyJ3 k) := by decide +kernel
abbrev cJ3_checkIndex_8e157 : ByteArray := prog_25_method_11_code
def yJ3_checkIndex_8e157 : MethodName := ⟨RJ3, "checkIndex", "(IILjava/util/function/BiFunction;)I"⟩
abbrev cJ3_checkFromToIndex_8c36e : ByteArray := prog_25_method_12_code
def yJ3_checkFromToIndex_8c36e : MethodName := ⟨RJ3, "checkFromToIndex", "(IIILjava/util/function/BiFunction;)I"⟩
abbrev cJ3_checkFromIndexSize_8c36e : ByteArray := prog_25_method_13_code
def yJ3_checkFromIndexSize_8c36e : MethodName := ⟨RJ3, "checkFromIndexSize", "(IIILjava/util/function/BiFunction;)I"⟩
def RL : String := "FilterPileLaw"
abbrev cL_law : ByteArray := code
def yL_law : MethodName := ⟨RL, "law", "([I)Z"⟩
abbrev vwCl : List vw_C := [(RJ4, TJ4, 4), (RX0, TX0, 6), (RX1, TX1, 5), (RX2, TX2, 1), (RX3, TX3, 7), (RX4, TX4, 7), (RX5, TX5, 3), (RX6, TX6, 13), (RX7, TX7, 40)]
end
section
/-! ===== the abstract picture: cells at numbers, a map of numbers to addresses ===== -/
abbrev Hp : Type := Nat → Option va_E
/-- what is fixed over the law's run: classes and slots, array classes, the first new address, the script's length and ints -/
abbrev Cx : Type := va_G × (Nat → ClassId) × Nat × Nat × (Nat → Int32)
abbrev cD (G : Cx) : va_G := G.1
abbrev cA (G : Cx) : Nat → ClassId := G.2.1
abbrev cB (G : Cx) : Nat := G.2.2.1
abbrev cL (G : Cx) : Nat := G.2.2.2.1
abbrev cX (G : Cx) : Nat → Int32 := G.2.2.2.2
abbrev cS (G : Cx) : Nat → Prop := fun q => G.2.2.1 ≤ q
/-- a method: name, bytes, locals, what it returns -/
abbrev MD : Type := MethodName × ByteArray × Nat × Option FieldType
def tysOf (G : Cx) : List (ClassId × FieldType) := [(cA G 0, .int), (cA G 1, .long), (cA G 2, .float), (cA G 3, .byte), (cA G 4, .array .int), (cA G 5, .array .long), (cA G 6, .object "FilterPile$Light")]
def gw : List Cond := lw_tbl.filter goodWord
def isNw : Cond → Bool
  | .methodLinkNest .. => true
  | _ => false
def nw : List Cond := lw_tbl.filter isNw
def kaT : Nat → Int32 := fun j => ([-1, 0, 1, 2, 0, 4, 1] : List Int32).getD j 0
def ltB : List Int32 := [103, 121, 115, 112, 119, 114, 102]
def Ro (G : Cx) (ad : Nat → Nat) (U : State) (H : Heap) : Prop :=
  va_T .int (ad 1000) (cL G) (fun j => .int (cX G j)) (cS G) U H ∧
  va_T .int (ad 1001) 7 (fun j => .int (kaT j)) (cS G) U H ∧
  va_Z "FilterPile" "KIND_ABOVE" "[I" (.ref (ad 1001)) (cS G) U H ∧
  vk_R "FilterPile$Reader" 49 "gyspwrf" (ad 1002) U ∧
  vk_R "FilterPile" 444 "gyspwrf" (ad 1002) U ∧
  vk_S 1 [7] [ltB] (fun _ => ad 1002) (fun _ => ad 1003) (cS G) U H ∧
  va_T .byte (ad 1004) 100 (fun j => .int (nI (48 + j % 10))) (cS G) U H ∧
  va_Z "java/lang/Integer" "DigitOnes" "[B" (.ref (ad 1004)) (cS G) U H ∧
  va_T .byte (ad 1005) 100 (fun j => .int (nI (48 + j / 10))) (cS G) U H ∧
  va_Z "java/lang/Integer" "DigitTens" "[B" (.ref (ad 1005)) (cS G) U H ∧
  va_Z "java/lang/String" "COMPACT_STRINGS" "Z" (.int 1) (cS G) U H ∧
  (va_Z "jdk/internal/util/Preconditions" "SIOOBE_FORMATTER" "Ljava/util/function/BiFunction;" .null (cS G) U H ∨ va_Z "jdk/internal/util/Preconditions" "SIOOBE_FORMATTER" "Ljava/util/function/BiFunction;" (.ref (ad 1006)) (cS G) U H)
theorem Ro.same {G : Cx} {ad : Nat → Nat} {u U : State} {H : Heap} (hv : U.vm = u.vm) (h : Ro G ad u H) : Ro G ad U H := by
  have ha : u.vm.Alike U.vm := by rw [hv]; exact Vm.Alike.refl u.vm
  obtain ⟨h0, h1, h2, h3, h4, h5, h6, h7, h8, h9, h10, h11⟩ := h
  exact ⟨h0.moved ha, h1.moved ha, h2.moved ha, vk_R.same hv h3, vk_R.same hv h4, h5.moved ha, h6.moved ha, h7.moved ha, h8.moved ha, h9.moved ha, h10.moved ha, h11.imp (fun h => h.moved ha) (fun h => h.moved ha)⟩
theorem Ro.warm {G : Cx} {ad : Nat → Nat} {u U : State} {H : Heap} (hW : u.WarmedH U.vm) (h : Ro G ad u H) : Ro G ad U H := by
  have ha := hW.alike
  obtain ⟨h0, h1, h2, h3, h4, h5, h6, h7, h8, h9, h10, h11⟩ := h
  exact ⟨h0.moved ha, h1.moved ha, h2.moved ha, vk_R.warm hW h3, vk_R.warm hW h4, h5.moved ha, h6.moved ha, h7.moved ha, h8.moved ha, h9.moved ha, h10.moved ha, h11.imp (fun h => h.moved ha) (fun h => h.moved ha)⟩
theorem Ro.kept {G : Cx} {ad : Nat → Nat} {U : State} {H H1 : Heap} (h : Ro G ad U H) (hq : ∀ a : Nat, a < H.size → ¬ cS G a → H1[a]? = H[a]?) : Ro G ad U H1 := by
  obtain ⟨h0, h1, h2, h3, h4, h5, h6, h7, h8, h9, h10, h11⟩ := h
  exact ⟨h0.kept hq, h1.kept hq, h2.kept hq, h3, h4, h5.kept hq, h6.kept hq, h7.kept hq, h8.kept hq, h9.kept hq, h10.kept hq, h11.imp (fun h => h.kept hq) (fun h => h.kept hq)⟩
theorem Ro.ad {G : Cx} {ad ad' : Nat → Nat} {U : State} {H : Heap} (h : Ro G ad U H) (he : ∀ k, 1000 ≤ k → ad' k = ad k) : Ro G ad' U H := by
  unfold Ro at h ⊢
  rw [he 1000 (by omega), he 1001 (by omega), he 1002 (by omega), he 1003 (by omega), he 1004 (by omega), he 1005 (by omega), he 1006 (by omega)]
  exact h
def Tb (G : Cx) (U : State) : Prop := (∀ w ∈ nw, va_Nw w U) ∧ va_K (cD G) vwCl (tysOf G) U
theorem nw_nest {w : Cond} (h : w ∈ nw) : ∃ a i x k, w = .methodLinkNest a i x k := by
  have h1 := (List.mem_filter.mp h).2
  cases w <;> first | exact ⟨_, _, _, _, rfl⟩ | cases h1
theorem Tb.same {G : Cx} {u U : State} (hv : U.vm = u.vm) (h : Tb G u) : Tb G U := by
  refine ⟨fun w hw => ?_, h.2.moved (by rw [hv]; exact Vm.Alike.refl u.vm)⟩
  obtain ⟨a, i, x, k, rfl⟩ := nw_nest hw
  exact va_Nw.same rfl hv.symm (h.1 _ hw)
theorem Tb.warm {G : Cx} {u U : State} (hW : u.WarmedH U.vm) (h : Tb G u) : Tb G U := by
  refine ⟨fun w hw => ?_, h.2.moved hW.alike⟩
  obtain ⟨a, i, x, k, rfl⟩ := nw_nest hw
  exact va_Nw.warmM hW (h.1 _ hw)
def xv (ad : Nat → Nat) (v : Value) : Value := match v with
  | .ref k => .ref (ad k)
  | u => u
def xa (ad : Nat → Nat) (a : vp_A) : vp_A := match a with
  | (n, .inr (.inr (.inr (.inr f)))) => (n, .inr (.inr (.inr (.inr (fun j => (f j).map ad)))))
  | b => b
def xe (G : Cx) (ad : Nat → Nat) (e : va_E) : va_E := match e with
  | .inl (k, a) => .inl (cA G k, xa ad a)
  | .inr (c, fs) => .inr (c, fs.map (xv ad))
def okk (μ : Hp) (k : Nat) : Prop := μ k ≠ none ∨ 1000 ≤ k
def okv (μ : Hp) (v : Value) : Prop := ∀ k, v = .ref k → okk μ k
def oke (μ : Hp) (e : va_E) : Prop := match e with
  | .inl (_, (_, .inr (.inr (.inr (.inr f))))) => ∀ j k, f j = some k → okk μ k
  | .inl _ => True
  | .inr (_, fs) => ∀ v ∈ fs, okv μ v
def Ag (μ : Hp) (ad ad' : Nat → Nat) : Prop := ∀ k, okk μ k → ad' k = ad k
def Sb (μ μ' : Hp) : Prop := ∀ k, μ k ≠ none → μ' k ≠ none
theorem Sb.okk {μ μ' : Hp} (h : Sb μ μ') {k : Nat} (hk : okk μ k) : okk μ' k := hk.imp (h k) id
theorem Sb.okv {μ μ' : Hp} (h : Sb μ μ') {v : Value} (hv : okv μ v) : okv μ' v := fun k e => h.okk (hv k e)
theorem Sb.oke {μ μ' : Hp} (h : Sb μ μ') {e : va_E} (he : oke μ e) : oke μ' e := by
  match e, he with
  | .inl (_, (_, .inr (.inr (.inr (.inr f))))), he => exact fun j k q => h.okk (he j k q)
  | .inl (_, (_, .inl f)), _ => trivial
  | .inl (_, (_, .inr (.inl f))), _ => trivial
  | .inl (_, (_, .inr (.inr (.inl f)))), _ => trivial
  | .inl (_, (_, .inr (.inr (.inr (.inl f))))), _ => trivial
  | .inr (_, fs), he => exact fun v hv => h.okv (he v hv)
theorem Ag.refl {μ : Hp} {ad : Nat → Nat} : Ag μ ad ad := fun _ _ => rfl
theorem Ag.trans {μ μ' : Hp} {a b c : Nat → Nat} (h1 : Ag μ a b) (hs : Sb μ μ') (h2 : Ag μ' b c) : Ag μ a c := fun k hk => (h2 k (hs.okk hk)).trans (h1 k hk)
theorem Sb.trans {μ μ' μ2 : Hp} (h1 : Sb μ μ') (h2 : Sb μ' μ2) : Sb μ μ2 := fun k h => h2 k (h1 k h)
theorem xv_ag {μ : Hp} {ad ad' : Nat → Nat} {v : Value} (hv : okv μ v) (h : Ag μ ad ad') : xv ad' v = xv ad v := by
  cases v <;> first | rfl | exact congrArg Value.ref (h _ (hv _ rfl))
theorem xvs_ag {μ : Hp} {ad ad' : Nat → Nat} {l : List Value} (hv : ∀ v ∈ l, okv μ v) (h : Ag μ ad ad') : l.map (xv ad') = l.map (xv ad) := List.map_congr_left fun v m => xv_ag (hv v m) h
theorem xe_ag {G : Cx} {μ : Hp} {ad ad' : Nat → Nat} {e : va_E} (he : oke μ e) (h : Ag μ ad ad') : xe G ad' e = xe G ad e := by
  match e, he with
  | .inl (c, (n, .inr (.inr (.inr (.inr f))))), he =>
    have : (fun j => (f j).map ad') = (fun j => (f j).map ad) := by
      funext j
      cases hf : f j with
      | none => rfl
      | some k => exact congrArg some (h k (he j k hf))
    show Sum.inl (cA G c, n, _) = Sum.inl (cA G c, n, _)
    rw [this]
  | .inl (_, (_, .inl f)), _ => rfl
  | .inl (_, (_, .inr (.inl f))), _ => rfl
  | .inl (_, (_, .inr (.inr (.inl f)))), _ => rfl
  | .inl (_, (_, .inr (.inr (.inr (.inl f))))), _ => rfl
  | .inr (c, fs), he =>
    show Sum.inr (c, fs.map (xv ad')) = Sum.inr (c, fs.map (xv ad))
    rw [xvs_ag he h]
def up (μ : Hp) (i : Nat) (e : va_E) : Hp := fun j => if j = i then some e else μ j
theorem up_s (μ : Hp) (i : Nat) (e : va_E) : up μ i e i = some e := if_pos rfl
theorem up_n {μ : Hp} {i j : Nat} {e : va_E} {x : Option va_E} (h : j ≠ i) (hx : μ j = x) : up μ i e j = x := (if_neg h).trans hx
theorem up_up (μ : Hp) (i : Nat) (e e' : va_E) : up (up μ i e) i e' = up μ i e' := by
  funext j
  by_cases h : j = i <;> simp [up, h]
theorem up_comm (μ : Hp) {i j : Nat} (h : i ≠ j) (e e' : va_E) : up (up μ i e) j e' = up (up μ j e') i e := by
  funext k
  by_cases h1 : k = i
  · subst h1; simp [up, h]
  · by_cases h2 : k = j
    · subst h2; simp [up, h1]
    · simp [up, h1, h2]
theorem up_id {μ : Hp} {i : Nat} {e : va_E} (h : μ i = some e) : up μ i e = μ := by
  funext j
  by_cases hj : j = i
  · subst hj; rw [up_s, h]
  · exact if_neg hj
theorem up_sb (μ : Hp) (i : Nat) (e : va_E) : Sb μ (up μ i e) := fun k h => by
  by_cases hk : k = i
  · subst hk; rw [up_s]; exact fun z => by cases z
  · rw [show up μ i e k = μ k from if_neg hk]; exact h
/-- the world: the heap holds the cells -/
def Wd (G : Cx) (ad : Nat → Nat) (μ : Hp) (H : Heap) : Prop := cB G ≤ H.size ∧ (∀ i e, μ i = some e → va_at (cD G) vwCl (ad i, xe G ad e) H ∧ oke μ e ∧ cB G ≤ ad i ∧ i < 1000) ∧ ∀ i j, μ i ≠ none → μ j ≠ none → ad i = ad j → i = j
theorem Wd.put {G : Cx} {ad : Nat → Nat} {μ : Hp} {H H1 : Heap} {i : Nat} {e0 e : va_E} (h : Wd G ad μ H) (hi : μ i = some e0) (hz : H1.size = H.size) (hat : va_at (cD G) vwCl (ad i, xe G ad e) H1) (oq : ∀ q : Nat, q ≠ ad i → H1[q]? = H[q]?) (hok : oke μ e) : Wd G ad (up μ i e) H1 := by
  have hn : μ i ≠ none := by rw [hi]; exact fun z => by cases z
  have hd : ∀ k, up μ i e k ≠ none → μ k ≠ none := fun k hk => by
    by_cases hki : k = i
    · subst hki; exact hn
    · rw [show up μ i e k = μ k from if_neg hki] at hk; exact hk
  refine ⟨by rw [hz]; exact h.1, fun k e1 hk => ?_, fun a b ha hb => h.2.2 a b (hd a ha) (hd b hb)⟩
  by_cases hki : k = i
  · subst hki
    rw [up_s] at hk
    cases hk
    exact ⟨hat, (up_sb μ k e).oke hok, (h.2.1 k e0 hi).2.2⟩
  · rw [show up μ i e k = μ k from if_neg hki] at hk
    obtain ⟨h1, h2, h3⟩ := h.2.1 k e1 hk
    refine ⟨h1.kept (oq _ fun z => hki (h.2.2 k i (by rw [hk]; exact fun z => by cases z) hn z)), (up_sb μ i e).oke h2, h3⟩
theorem Wd.new {G : Cx} {ad : Nat → Nat} {μ : Hp} {H H1 : Heap} {i : Nat} {e : va_E} (h : Wd G ad μ H) (hi : μ i = none) (hl : i < 1000) (hz : H.size ≤ H1.size) (hat : va_at (cD G) vwCl (H.size, xe G ad e) H1) (oq : ∀ q : Nat, q < H.size → H1[q]? = H[q]?) (hok : oke μ e) :
    ∃ ad', ad' i = H.size ∧ Ag μ ad ad' ∧ Wd G ad' (up μ i e) H1 := by
  have hnk : ¬ okk μ i := fun z => by rcases z with z | z; exact z hi; omega
  have hag : Ag μ ad (fun k => if k = i then H.size else ad k) := fun k hk => by
    show (if k = i then H.size else ad k) = ad k
    exact if_neg (fun q => hnk (by rw [← q]; exact hk))
  have lt : ∀ k e1, μ k = some e1 → ad k < H.size := fun k e1 hk => (h.2.1 k e1 hk).1.lt
  refine ⟨fun k => if k = i then H.size else ad k, if_pos rfl, hag, Nat.le_trans h.1 hz, fun k e1 hk => ?_, fun a b ha hb hab => ?_⟩
  · by_cases hki : k = i
    · subst hki
      rw [up_s] at hk
      cases hk
      refine ⟨?_, (up_sb μ k e).oke hok, ?_, hl⟩
      · rw [xe_ag hok hag]
        show va_at (cD G) vwCl ((if k = k then H.size else ad k), xe G ad e) H1
        rw [if_pos rfl]
        exact hat
      · show cB G ≤ (if k = k then H.size else ad k)
        rw [if_pos rfl]
        exact h.1
    · rw [show up μ i e k = μ k from if_neg hki] at hk
      obtain ⟨h1, h2, h3⟩ := h.2.1 k e1 hk
      refine ⟨?_, (up_sb μ i e).oke h2, ?_⟩
      · rw [xe_ag h2 hag]
        show va_at (cD G) vwCl ((if k = i then H.size else ad k), xe G ad e1) H1
        rw [if_neg hki]
        exact h1.kept (oq _ (lt k e1 hk))
      · show cB G ≤ (if k = i then H.size else ad k) ∧ _
        rw [if_neg hki]
        exact h3
  · have hab : (if a = i then H.size else ad a) = (if b = i then H.size else ad b) := hab
    by_cases hai : a = i <;> by_cases hbi : b = i
    · rw [hai, hbi]
    · rw [if_pos hai, if_neg hbi] at hab
      rw [show up μ i e b = μ b from if_neg hbi] at hb
      cases hmb : μ b with
      | none => exact absurd hmb hb
      | some eb => have := lt b eb hmb; omega
    · rw [if_neg hai, if_pos hbi] at hab
      rw [show up μ i e a = μ a from if_neg hai] at ha
      cases hma : μ a with
      | none => exact absurd hma ha
      | some ea => have := lt a ea hma; omega
    · rw [if_neg hai, if_neg hbi] at hab
      rw [show up μ i e a = μ a from if_neg hai] at ha
      rw [show up μ i e b = μ b from if_neg hbi] at hb
      exact h.2.2 a b ha hb hab
theorem Wd.mut {G : Cx} {ad : Nat → Nat} {μ : Hp} {H : Heap} (h : Wd G ad μ H) {i : Nat} {e : va_E} (hi : μ i = some e) : va_at (cD G) vwCl (ad i, xe G ad e) H := (h.2.1 i e hi).1
/-! ===== the judgement ===== -/
def Fr (G : Cx) (M : MD) (d : Nat) (p : Program) (R : Room) (s : State) (m : MethodId) (args : Array Value) (meth : Method) (c : Code) : Prop :=
  p.tables.exec = Jvm.exec ∧ c.code = M.2.1 ∧ c.maxLocals = M.2.2.1 ∧ meth.sig.returnType = M.2.2.2 ∧ s.vm.findClass M.1.cls = some m.cls ∧ meth.locks = false ∧ meth.name = M.1.name ∧ (∀ w ∈ gw, w.before args s = true) ∧ Tb G s ∧ d ≤ R.frames ∧ 60 * d ≤ R.locals
def xl (ad : Nat → Nat) (ls : List (Nat × Value)) : List (Nat × Value) := ls.map (fun q => (q.1, xv ad q.2))
def okl (μ : Hp) (ls : List (Nat × Value)) : Prop := ∀ q ∈ ls, okv μ q.2
def oks (μ : Hp) (st : List Value) : Prop := ∀ v ∈ st, okv μ v
/-- an instruction that returns r -/
def RetAt (M : MD) (pc : Nat) (r : Option Value) : Prop := match r with
  | none => decode M.2.1 pc = .ok (.return_, 1) ∧ M.2.2.2 = none
  | some (.int v) => decode M.2.1 pc = .ok (.ireturn, 1) ∧ ∃ t, M.2.2.2 = some t ∧ narrow t (.int v) = .int v
  | some (.long _) => decode M.2.1 pc = .ok (.lreturn, 1) ∧ M.2.2.2 = some .long
  | some (.float _) => decode M.2.1 pc = .ok (.freturn, 1) ∧ M.2.2.2 = some .float
  | some (.double _) => decode M.2.1 pc = .ok (.dreturn, 1) ∧ M.2.2.2 = some .double
  | some (.retAddr _) => False
  | some _ => decode M.2.1 pc = .ok (.areturn, 1) ∧ ∃ t, M.2.2.2 = some t ∧ ((∃ n, t = .object n) ∨ ∃ u, t = .array u)
def En (G : Cx) (M : MD) (p : Program) (l : Launch) (e : Env) (R : Room) (s : State) (m : MethodId) (args : Array Value) (below : List Frame) (meth : Method) (c : Code) (Q : State → Prop) (ad : Nat → Nat) (μ : Hp) (kc ks : Nat) (P : Option Value → Hp → Prop) : Prop :=
  ∀ (r : Option Value) (μ' : Hp) (ad' : Nat → Nat) (H' : Heap) (locs' : List Loc) (cells' slots' pc' : Nat) (sl : Array Slot), P r μ' → Wd G ad' μ' H' → Ag μ ad ad' → Sb μ μ' → (∀ v, r = some v → okv μ' v) → va_S (cS G) s.heap H' locs' → cells' ≤ kc → slots' ≤ ks → RetAt M pc' r →
    W p l e R s m args below meth c H' locs' cells' slots' Q (F0 m pc' sl (r.map (xv ad')).toList)
theorem En.to {G : Cx} {M : MD} {p : Program} {l : Launch} {e : Env} {R : Room} {s : State} {m : MethodId} {args : Array Value} {below : List Frame} {meth : Method} {c : Code} {Q : State → Prop} {ad ad1 : Nat → Nat} {μ μ1 : Hp} {kc ks kc1 ks1 : Nat} {P : Option Value → Hp → Prop}
    (h : En G M p l e R s m args below meth c Q ad μ kc ks P) (ha : Ag μ ad ad1) (hs : Sb μ μ1) (h1 : kc1 ≤ kc) (h2 : ks1 ≤ ks) : En G M p l e R s m args below meth c Q ad1 μ1 kc1 ks1 P :=
  fun r μ' ad' H' locs' cells' slots' pc' sl q1 q2 q3 q4 q5 q6 q7 q8 q9 => h r μ' ad' H' locs' cells' slots' pc' sl q1 q2 (ha.trans hs q3) (hs.trans q4) q5 q6 (Nat.le_trans q7 h1) (Nat.le_trans q8 h2) q9
/-- from pc, with these locals and this stack over the cells μ, the method comes to a return r, μ' with P; at most mc cells of ms slots are made on the way; calls go at most d deep -/
def V (G : Cx) (M : MD) (d mc ms : Nat) (P : Option Value → Hp → Prop) (pc : Nat) (ls : List (Nat × Value)) (st : List Value) (μ : Hp) : Prop :=
  ∀ (p : Program) (l : Launch) (e : Env) (R : Room) (s : State) (m : MethodId) (args : Array Value) (below : List Frame) (meth : Method) (c : Code) (Q : State → Prop) (ad : Nat → Nat) (H : Heap) (locs : List Loc) (cells slots : Nat) (sl : Array Slot),
    Fr G M d p R s m args meth c → Wd G ad μ H → va_S (cS G) s.heap H locs → Ro G ad s s.heap → okl μ ls → oks μ st → lv_has sl M.2.2.1 (xl ad ls) → cells + mc ≤ R.cells → slots + ms ≤ R.slots → En G M p l e R s m args below meth c Q ad μ (cells + mc) (slots + ms) P →
    W p l e R s m args below meth c H locs cells slots Q (F0 m pc sl (st.map (xv ad)))
/-- one answer, one end -/
def Rt (r : Option Value) (μ' : Hp) : Option Value → Hp → Prop := fun r' μ2 => r' = r ∧ μ2 = μ'
theorem okv_i {μ : Hp} {x : Int32} : okv μ (.int x) := fun k h => by cases h
theorem okv_l {μ : Hp} {x : Int64} : okv μ (.long x) := fun k h => by cases h
theorem okv_f {μ : Hp} {x : UInt32} : okv μ (.float x) := fun k h => by cases h
theorem okv_d {μ : Hp} {x : UInt64} : okv μ (.double x) := fun k h => by cases h
theorem okv_z {μ : Hp} : okv μ .null := fun k h => by cases h
theorem oks_c {μ : Hp} {v : Value} {st : List Value} (h : okv μ v) (hs : oks μ st) : oks μ (v :: st) := fun u hu => by
  rcases List.mem_cons.mp hu with rfl | hu
  · exact h
  · exact hs u hu
theorem oks_t {μ : Hp} {v : Value} {st : List Value} (hs : oks μ (v :: st)) : oks μ st := fun u hu => hs u (List.mem_cons_of_mem _ hu)
theorem oks_h {μ : Hp} {v : Value} {st : List Value} (hs : oks μ (v :: st)) : okv μ v := hs v List.mem_cons_self
theorem xl_at {ad : Nat → Nat} {ls : List (Nat × Value)} {q i : Nat} {v : Value} (h : ls[q]? = some (i, v)) : (xl ad ls)[q]? = some (i, xv ad v) := by
  unfold xl
  rw [List.getElem?_map, h]
  rfl
theorem okl_at {μ : Hp} {ls : List (Nat × Value)} {q i : Nat} {v : Value} (h : okl μ ls) (hq : ls[q]? = some (i, v)) : okv μ v := h (i, v) (List.mem_of_getElem? hq)
theorem xv_cat (ad : Nat → Nat) (v : Value) : (xv ad v).category = v.category := by cases v <;> rfl
def st1 (i : Nat) (v : Value) (ls : List (Nat × Value)) : List (Nat × Value) := (i, v) :: ls.filter (fun q => !(q.1 == i) && !(q.1 + 1 == i && q.2.category == 2))
def st2 (i : Nat) (v : Value) (ls : List (Nat × Value)) : List (Nat × Value) := (i, v) :: ls.filter (fun q => !(q.1 == i) && (!(q.1 == i + 1) && !(q.1 + 1 == i && q.2.category == 2)))
theorem xl_st1 (ad : Nat → Nat) (i : Nat) (v : Value) (ls : List (Nat × Value)) : (i, xv ad v) :: (xl ad ls).filter (fun q => !(q.1 == i) && !(q.1 + 1 == i && q.2.category == 2)) = xl ad (st1 i v ls) := by
  unfold xl st1
  rw [List.map_cons, List.filter_map]
  congr 3
  funext q
  show _ = _
  simp [xv_cat]
theorem xl_st2 (ad : Nat → Nat) (i : Nat) (v : Value) (ls : List (Nat × Value)) : (i, xv ad v) :: (xl ad ls).filter (fun q => !(q.1 == i) && (!(q.1 == i + 1) && !(q.1 + 1 == i && q.2.category == 2))) = xl ad (st2 i v ls) := by
  unfold xl st2
  rw [List.map_cons, List.filter_map]
  congr 3
  funext q
  show _ = _
  simp [xv_cat]
theorem okl_st1 {μ : Hp} {i : Nat} {v : Value} {ls : List (Nat × Value)} (h : okl μ ls) (hv : okv μ v) : okl μ (st1 i v ls) := fun q hq => by
  rcases List.mem_cons.mp hq with rfl | hq
  · exact hv
  · exact h q (List.mem_filter.mp hq).1
theorem okl_st2 {μ : Hp} {i : Nat} {v : Value} {ls : List (Nat × Value)} (h : okl μ ls) (hv : okv μ v) : okl μ (st2 i v ls) := fun q hq => by
  rcases List.mem_cons.mp hq with rfl | hq
  · exact hv
  · exact h q (List.mem_filter.mp hq).1
section VROWS
variable {G : Cx} {M : MD} {d mc ms : Nat} {P : Option Value → Hp → Prop} {pc : Nat} {ls : List (Nat × Value)} {st : List Value} {μ : Hp}
theorem V.to {pc' : Nat} {s0 s1 : List Value} (k : V G M d mc ms P pc' ls s1 μ) (hok : oks μ s0 → oks μ s1)
    (hw : ∀ {p : Program} {l : Launch} {e : Env} {R : Room} {s : State} {m : MethodId} {args : Array Value} {below : List Frame} {meth : Method} {c : Code} {Q : State → Prop} {ad : Nat → Nat} {H : Heap} {locs : List Loc} {cells slots : Nat} {sl : Array Slot}, Fr G M d p R s m args meth c → Wd G ad μ H → va_S (cS G) s.heap H locs → Ro G ad s s.heap → lv_has sl M.2.2.1 (xl ad ls) →
      W p l e R s m args below meth c H locs cells slots Q (F0 m pc' sl (s1.map (xv ad))) → W p l e R s m args below meth c H locs cells slots Q (F0 m pc sl (s0.map (xv ad)))) : V G M d mc ms P pc ls s0 μ :=
  fun p l e R s m args below meth c Q ad H locs cells slots sl F hW hS hR hl hs hsl h1 h2 hE => hw F hW hS hR hsl (k p l e R s m args below meth c Q ad H locs cells slots sl F hW hS hR hl (hok hs) hsl h1 h2 hE)
theorem V.ifs {pa pb : Nat} {s0 s1 : List Value} {C : Prop} (ka : C → V G M d mc ms P pa ls s1 μ) (kb : ¬ C → V G M d mc ms P pb ls s1 μ) (hok : oks μ s0 → oks μ s1)
    (hw : ∀ {p : Program} {l : Launch} {e : Env} {R : Room} {s : State} {m : MethodId} {args : Array Value} {below : List Frame} {meth : Method} {c : Code} {Q : State → Prop} {ad : Nat → Nat} {H : Heap} {locs : List Loc} {cells slots : Nat} {sl : Array Slot}, Fr G M d p R s m args meth c →
      (C → W p l e R s m args below meth c H locs cells slots Q (F0 m pa sl (s1.map (xv ad)))) → (¬ C → W p l e R s m args below meth c H locs cells slots Q (F0 m pb sl (s1.map (xv ad)))) → W p l e R s m args below meth c H locs cells slots Q (F0 m pc sl (s0.map (xv ad)))) : V G M d mc ms P pc ls s0 μ :=
  fun p l e R s m args below meth c Q ad H locs cells slots sl F hW hS hR hl hs hsl h1 h2 hE => hw F (fun z => ka z p l e R s m args below meth c Q ad H locs cells slots sl F hW hS hR hl (hok hs) hsl h1 h2 hE) (fun z => kb z p l e R s m args below meth c Q ad H locs cells slots sl F hW hS hR hl (hok hs) hsl h1 h2 hE)
theorem v_ls {ls' : List (Nat × Value)} (h : ls = ls') (k : V G M d mc ms P pc ls' st μ) : V G M d mc ms P pc ls st μ := h ▸ k
theorem v_hp {μ' : Hp} (h : μ = μ') (k : V G M d mc ms P pc ls st μ') : V G M d mc ms P pc ls st μ := h ▸ k
theorem v_st {st' : List Value} (h : st = st') (k : V G M d mc ms P pc ls st' μ) : V G M d mc ms P pc ls st μ := h ▸ k
theorem v_post {P' : Option Value → Hp → Prop} (k : V G M d mc ms P' pc ls st μ) (h : ∀ r μ', P' r μ' → P r μ') : V G M d mc ms P pc ls st μ :=
  fun p l e R s m args below meth c Q ad H locs cells slots sl F hW hS hR hl hs hsl h1 h2 hE => k p l e R s m args below meth c Q ad H locs cells slots sl F hW hS hR hl hs hsl h1 h2 (fun r μ' ad' H' locs' cells' slots' pc' sl q1 => hE r μ' ad' H' locs' cells' slots' pc' sl (h r μ' q1))
theorem v_less {mc' ms' : Nat} (hc : mc' ≤ mc) (hs9 : ms' ≤ ms) (k : V G M d mc' ms' P pc ls st μ) : V G M d mc ms P pc ls st μ :=
  fun p l e R s m args below meth c Q ad H locs cells slots sl F hW hS hR hl hs hsl h1 h2 hE => k p l e R s m args below meth c Q ad H locs cells slots sl F hW hS hR hl hs hsl (by omega) (by omega) (hE.to Ag.refl (fun _ z => z) (by omega) (by omega))
/-- fewer listed locals -/
theorem v_pick (ks : List Nat) {ls' : List (Nat × Value)} (h : lv_pick ls ks = ls') (k : V G M d mc ms P pc ls' st μ) : V G M d mc ms P pc ls st μ := by
  subst h
  intro p l e R s m args below meth c Q ad H locs cells slots sl F hW hS hR hl hs hsl h1 h2 hE
  refine k p l e R s m args below meth c Q ad H locs cells slots sl F hW hS hR (fun q hq => ?_) hs ⟨hsl.1, hsl.2.1, fun q hq => ?_⟩ h1 h2 hE
  · obtain ⟨i, -, hi⟩ := List.mem_filterMap.mp hq
    exact hl q (List.mem_of_getElem? hi)
  · obtain ⟨q', hq', rfl⟩ := List.mem_map.mp hq
    obtain ⟨i, -, hi⟩ := List.mem_filterMap.mp hq'
    exact hsl.2.2 _ (List.mem_map.mpr ⟨q', List.mem_of_getElem? hi, rfl⟩)
/-- a name for the top of the stack -/
theorem v_topi {x : Int32} (k : ∀ y : Int32, y = x → V G M d mc ms P pc ls (.int y :: st) μ) : V G M d mc ms P pc ls (.int x :: st) μ := k x rfl
theorem v_topl {x : Int64} (k : ∀ y : Int64, y = x → V G M d mc ms P pc ls (.long y :: st) μ) : V G M d mc ms P pc ls (.long x :: st) μ := k x rfl

theorem v_iconst {n : Int} {v : Int32} (hd : decode M.2.1 pc = .ok (.iconst n, 1)) (hv : Int32.ofInt n = v) (k : V G M d mc ms P (pc + 1) ls (.int v :: st) μ) : V G M d mc ms P (pc) ls (st) μ :=
  V.to k (fun h => oks_c okv_i (h)) (fun F _ _ _ hsl w => lv_iconst F.1 F.2.1 hd hv w)
theorem v_bipush {n : Int} {v : Int32} (hd : decode M.2.1 pc = .ok (.bipush n, 2)) (hv : (Int8.ofInt n).toInt32 = v) (k : V G M d mc ms P (pc + 2) ls (.int v :: st) μ) : V G M d mc ms P (pc) ls (st) μ :=
  V.to k (fun h => oks_c okv_i (h)) (fun F _ _ _ hsl w => lv_bipush F.1 F.2.1 hd hv w)
theorem v_sipush {n : Int} {v : Int32} (hd : decode M.2.1 pc = .ok (.sipush n, 3)) (hv : (Int16.ofInt n).toInt32 = v) (k : V G M d mc ms P (pc + 3) ls (.int v :: st) μ) : V G M d mc ms P (pc) ls (st) μ :=
  V.to k (fun h => oks_c okv_i (h)) (fun F _ _ _ hsl w => lv_sipush F.1 F.2.1 hd hv w)
theorem v_lconst {n : Fin 2} {v : Int64} (hd : decode M.2.1 pc = .ok (.lconst n, 1)) (hv : Int64.ofNat (n : Nat) = v) (k : V G M d mc ms P (pc + 1) ls (.long v :: st) μ) : V G M d mc ms P (pc) ls (st) μ :=
  V.to k (fun h => oks_c okv_l (h)) (fun F _ _ _ hsl w => lv_lconst F.1 F.2.1 hd hv w)
theorem v_null  (hd : decode M.2.1 pc = .ok (.aconst_null, 1)) (k : V G M d mc ms P (pc + 1) ls (.null :: st) μ) : V G M d mc ms P (pc) ls (st) μ :=
  V.to k (fun h => oks_c okv_z (h)) (fun F _ _ _ hsl w => lv_null F.1 F.2.1 hd w)
theorem v_fconst0  (hd : decode M.2.1 pc = .ok (.fconst 0, 1)) (k : V G M d mc ms P (pc + 1) ls (.float FP.fconst0 :: st) μ) : V G M d mc ms P (pc) ls (st) μ :=
  V.to k (fun h => oks_c okv_f (h)) (fun F _ _ _ hsl w => lv_fconst0 F.1 F.2.1 hd w)
theorem v_dconst0  (hd : decode M.2.1 pc = .ok (.dconst 0, 1)) (k : V G M d mc ms P (pc + 1) ls (.double FP.dconst0 :: st) μ) : V G M d mc ms P (pc) ls (st) μ :=
  V.to k (fun h => oks_c okv_d (h)) (fun F _ _ _ hsl w => lv_dconst0 F.1 F.2.1 hd w)
theorem v_dconst1  (hd : decode M.2.1 pc = .ok (.dconst 1, 1)) (k : V G M d mc ms P (pc + 1) ls (.double FP.dconst1 :: st) μ) : V G M d mc ms P (pc) ls (st) μ :=
  V.to k (fun h => oks_c okv_d (h)) (fun F _ _ _ hsl w => lv_dconst1 F.1 F.2.1 hd w)
theorem v_iload_n {j : Fin 4} {i : Nat} {x : Int32} (q : Nat) (hd : decode M.2.1 pc = .ok (.iload_n j, 1)) (hi : (j : Nat) = i) (hq : ls[q]? = some (i, .int x)) (k : V G M d mc ms P (pc + 1) ls (.int x :: st) μ) : V G M d mc ms P (pc) ls (st) μ :=
  V.to k (fun h => oks_c okv_i h) (fun F _ _ _ hsl w => lv_iload_n F.1 F.2.1 hd hi (lv_at hsl q (xl_at hq)) w)
theorem v_iload {i : Nat} {x : Int32} (q : Nat) (hd : decode M.2.1 pc = .ok (.iload i, 2)) (hq : ls[q]? = some (i, .int x)) (k : V G M d mc ms P (pc + 2) ls (.int x :: st) μ) : V G M d mc ms P (pc) ls (st) μ :=
  V.to k (fun h => oks_c okv_i h) (fun F _ _ _ hsl w => lv_iload F.1 F.2.1 hd (lv_at hsl q (xl_at hq)) w)
theorem v_lload_n {j : Fin 4} {i : Nat} {x : Int64} (q : Nat) (hd : decode M.2.1 pc = .ok (.lload_n j, 1)) (hi : (j : Nat) = i) (hq : ls[q]? = some (i, .long x)) (k : V G M d mc ms P (pc + 1) ls (.long x :: st) μ) : V G M d mc ms P (pc) ls (st) μ :=
  V.to k (fun h => oks_c okv_l h) (fun F _ _ _ hsl w => lv_lload_n F.1 F.2.1 hd hi (lv_at hsl q (xl_at hq)) w)
theorem v_lload {i : Nat} {x : Int64} (q : Nat) (hd : decode M.2.1 pc = .ok (.lload i, 2)) (hq : ls[q]? = some (i, .long x)) (k : V G M d mc ms P (pc + 2) ls (.long x :: st) μ) : V G M d mc ms P (pc) ls (st) μ :=
  V.to k (fun h => oks_c okv_l h) (fun F _ _ _ hsl w => lv_lload F.1 F.2.1 hd (lv_at hsl q (xl_at hq)) w)
theorem v_fload_n {j : Fin 4} {i : Nat} {x : UInt32} (q : Nat) (hd : decode M.2.1 pc = .ok (.fload_n j, 1)) (hi : (j : Nat) = i) (hq : ls[q]? = some (i, .float x)) (k : V G M d mc ms P (pc + 1) ls (.float x :: st) μ) : V G M d mc ms P (pc) ls (st) μ :=
  V.to k (fun h => oks_c okv_f h) (fun F _ _ _ hsl w => lv_fload_n F.1 F.2.1 hd hi (lv_at hsl q (xl_at hq)) w)
theorem v_fload {i : Nat} {x : UInt32} (q : Nat) (hd : decode M.2.1 pc = .ok (.fload i, 2)) (hq : ls[q]? = some (i, .float x)) (k : V G M d mc ms P (pc + 2) ls (.float x :: st) μ) : V G M d mc ms P (pc) ls (st) μ :=
  V.to k (fun h => oks_c okv_f h) (fun F _ _ _ hsl w => lv_fload F.1 F.2.1 hd (lv_at hsl q (xl_at hq)) w)
theorem v_dload_n {j : Fin 4} {i : Nat} {x : UInt64} (q : Nat) (hd : decode M.2.1 pc = .ok (.dload_n j, 1)) (hi : (j : Nat) = i) (hq : ls[q]? = some (i, .double x)) (k : V G M d mc ms P (pc + 1) ls (.double x :: st) μ) : V G M d mc ms P (pc) ls (st) μ :=
  V.to k (fun h => oks_c okv_d h) (fun F _ _ _ hsl w => lv_dload_n F.1 F.2.1 hd hi (lv_at hsl q (xl_at hq)) w)
theorem v_dload {i : Nat} {x : UInt64} (q : Nat) (hd : decode M.2.1 pc = .ok (.dload i, 2)) (hq : ls[q]? = some (i, .double x)) (k : V G M d mc ms P (pc + 2) ls (.double x :: st) μ) : V G M d mc ms P (pc) ls (st) μ :=
  V.to k (fun h => oks_c okv_d h) (fun F _ _ _ hsl w => lv_dload F.1 F.2.1 hd (lv_at hsl q (xl_at hq)) w)
theorem v_aload_n {j : Fin 4} {i : Nat} {x : Nat} (q : Nat) (hd : decode M.2.1 pc = .ok (.aload_n j, 1)) (hi : (j : Nat) = i) (hq : ls[q]? = some (i, .ref x)) (k : V G M d mc ms P (pc + 1) ls (.ref x :: st) μ) : V G M d mc ms P (pc) ls (st) μ :=
  fun p l e R s m args below meth c Q ad H locs cells slots sl F hW hS hR hl hs hsl h1 h2 hE => lv_aload_n F.1 F.2.1 hd hi (lv_at hsl q (xl_at hq)) (k p l e R s m args below meth c Q ad H locs cells slots sl F hW hS hR hl (oks_c (okl_at hl hq) hs) hsl h1 h2 hE)
theorem v_aload {i : Nat} {x : Nat} (q : Nat) (hd : decode M.2.1 pc = .ok (.aload i, 2)) (hq : ls[q]? = some (i, .ref x)) (k : V G M d mc ms P (pc + 2) ls (.ref x :: st) μ) : V G M d mc ms P (pc) ls (st) μ :=
  fun p l e R s m args below meth c Q ad H locs cells slots sl F hW hS hR hl hs hsl h1 h2 hE => lv_aload F.1 F.2.1 hd (lv_at hsl q (xl_at hq)) (k p l e R s m args below meth c Q ad H locs cells slots sl F hW hS hR hl (oks_c (okl_at hl hq) hs) hsl h1 h2 hE)
theorem v_istore_n {j : Fin 4} {i : Nat} {x : Int32} (hd : decode M.2.1 pc = .ok (.istore_n j, 1)) (hi : (j : Nat) = i) (hn : i < M.2.2.1) (k : ∀ z : Int32, z = x → V G M d mc ms P (pc + 1) (st1 i (.int z) ls) st μ) : V G M d mc ms P pc ls (.int x :: st) μ :=
  fun p l e R s m args below meth c Q ad H locs cells slots sl F hW hS hR hl hs hsl h1 h2 hE => lv_istore_n F.1 F.2.1 hd hi hsl hn (xl_st1 ad i (.int x) ls) (fun sl' hsl' => k x rfl p l e R s m args below meth c Q ad H locs cells slots sl' F hW hS hR (okl_st1 hl (oks_h hs)) (oks_t hs) hsl' h1 h2 hE)
theorem v_istore {i : Nat} {x : Int32} (hd : decode M.2.1 pc = .ok (.istore i, 2)) (hn : i < M.2.2.1) (k : ∀ z : Int32, z = x → V G M d mc ms P (pc + 2) (st1 i (.int z) ls) st μ) : V G M d mc ms P pc ls (.int x :: st) μ :=
  fun p l e R s m args below meth c Q ad H locs cells slots sl F hW hS hR hl hs hsl h1 h2 hE => lv_istore F.1 F.2.1 hd hsl hn (xl_st1 ad i (.int x) ls) (fun sl' hsl' => k x rfl p l e R s m args below meth c Q ad H locs cells slots sl' F hW hS hR (okl_st1 hl (oks_h hs)) (oks_t hs) hsl' h1 h2 hE)
theorem v_lstore_n {j : Fin 4} {i : Nat} {x : Int64} (hd : decode M.2.1 pc = .ok (.lstore_n j, 1)) (hi : (j : Nat) = i) (hn : i + 1 < M.2.2.1) (k : ∀ z : Int64, z = x → V G M d mc ms P (pc + 1) (st2 i (.long z) ls) st μ) : V G M d mc ms P pc ls (.long x :: st) μ :=
  fun p l e R s m args below meth c Q ad H locs cells slots sl F hW hS hR hl hs hsl h1 h2 hE => lv_lstore_n F.1 F.2.1 hd hi hsl hn (xl_st2 ad i (.long x) ls) (fun sl' hsl' => k x rfl p l e R s m args below meth c Q ad H locs cells slots sl' F hW hS hR (okl_st2 hl (oks_h hs)) (oks_t hs) hsl' h1 h2 hE)
theorem v_lstore {i : Nat} {x : Int64} (hd : decode M.2.1 pc = .ok (.lstore i, 2)) (hn : i + 1 < M.2.2.1) (k : ∀ z : Int64, z = x → V G M d mc ms P (pc + 2) (st2 i (.long z) ls) st μ) : V G M d mc ms P pc ls (.long x :: st) μ :=
  fun p l e R s m args below meth c Q ad H locs cells slots sl F hW hS hR hl hs hsl h1 h2 hE => lv_lstore F.1 F.2.1 hd hsl hn (xl_st2 ad i (.long x) ls) (fun sl' hsl' => k x rfl p l e R s m args below meth c Q ad H locs cells slots sl' F hW hS hR (okl_st2 hl (oks_h hs)) (oks_t hs) hsl' h1 h2 hE)
theorem v_fstore_n {j : Fin 4} {i : Nat} {x : UInt32} (hd : decode M.2.1 pc = .ok (.fstore_n j, 1)) (hi : (j : Nat) = i) (hn : i < M.2.2.1) (k : ∀ z : UInt32, z = x → V G M d mc ms P (pc + 1) (st1 i (.float z) ls) st μ) : V G M d mc ms P pc ls (.float x :: st) μ :=
  fun p l e R s m args below meth c Q ad H locs cells slots sl F hW hS hR hl hs hsl h1 h2 hE => lv_fstore_n F.1 F.2.1 hd hi hsl hn (xl_st1 ad i (.float x) ls) (fun sl' hsl' => k x rfl p l e R s m args below meth c Q ad H locs cells slots sl' F hW hS hR (okl_st1 hl (oks_h hs)) (oks_t hs) hsl' h1 h2 hE)
theorem v_fstore {i : Nat} {x : UInt32} (hd : decode M.2.1 pc = .ok (.fstore i, 2)) (hn : i < M.2.2.1) (k : ∀ z : UInt32, z = x → V G M d mc ms P (pc + 2) (st1 i (.float z) ls) st μ) : V G M d mc ms P pc ls (.float x :: st) μ :=
  fun p l e R s m args below meth c Q ad H locs cells slots sl F hW hS hR hl hs hsl h1 h2 hE => lv_fstore F.1 F.2.1 hd hsl hn (xl_st1 ad i (.float x) ls) (fun sl' hsl' => k x rfl p l e R s m args below meth c Q ad H locs cells slots sl' F hW hS hR (okl_st1 hl (oks_h hs)) (oks_t hs) hsl' h1 h2 hE)
theorem v_dstore_n {j : Fin 4} {i : Nat} {x : UInt64} (hd : decode M.2.1 pc = .ok (.dstore_n j, 1)) (hi : (j : Nat) = i) (hn : i + 1 < M.2.2.1) (k : ∀ z : UInt64, z = x → V G M d mc ms P (pc + 1) (st2 i (.double z) ls) st μ) : V G M d mc ms P pc ls (.double x :: st) μ :=
  fun p l e R s m args below meth c Q ad H locs cells slots sl F hW hS hR hl hs hsl h1 h2 hE => lv_dstore_n F.1 F.2.1 hd hi hsl hn (xl_st2 ad i (.double x) ls) (fun sl' hsl' => k x rfl p l e R s m args below meth c Q ad H locs cells slots sl' F hW hS hR (okl_st2 hl (oks_h hs)) (oks_t hs) hsl' h1 h2 hE)
theorem v_dstore {i : Nat} {x : UInt64} (hd : decode M.2.1 pc = .ok (.dstore i, 2)) (hn : i + 1 < M.2.2.1) (k : ∀ z : UInt64, z = x → V G M d mc ms P (pc + 2) (st2 i (.double z) ls) st μ) : V G M d mc ms P pc ls (.double x :: st) μ :=
  fun p l e R s m args below meth c Q ad H locs cells slots sl F hW hS hR hl hs hsl h1 h2 hE => lv_dstore F.1 F.2.1 hd hsl hn (xl_st2 ad i (.double x) ls) (fun sl' hsl' => k x rfl p l e R s m args below meth c Q ad H locs cells slots sl' F hW hS hR (okl_st2 hl (oks_h hs)) (oks_t hs) hsl' h1 h2 hE)
theorem v_astore_n {j : Fin 4} {i : Nat} {x : Nat} (hd : decode M.2.1 pc = .ok (.astore_n j, 1)) (hi : (j : Nat) = i) (hn : i < M.2.2.1) (k : ∀ z : Nat, z = x → V G M d mc ms P (pc + 1) (st1 i (.ref z) ls) st μ) : V G M d mc ms P pc ls (.ref x :: st) μ :=
  fun p l e R s m args below meth c Q ad H locs cells slots sl F hW hS hR hl hs hsl h1 h2 hE => lv_astore_n F.1 F.2.1 hd hi hsl hn (xl_st1 ad i (.ref x) ls) (fun sl' hsl' => k x rfl p l e R s m args below meth c Q ad H locs cells slots sl' F hW hS hR (okl_st1 hl (oks_h hs)) (oks_t hs) hsl' h1 h2 hE)
theorem v_astore {i : Nat} {x : Nat} (hd : decode M.2.1 pc = .ok (.astore i, 2)) (hn : i < M.2.2.1) (k : ∀ z : Nat, z = x → V G M d mc ms P (pc + 2) (st1 i (.ref z) ls) st μ) : V G M d mc ms P pc ls (.ref x :: st) μ :=
  fun p l e R s m args below meth c Q ad H locs cells slots sl F hW hS hR hl hs hsl h1 h2 hE => lv_astore F.1 F.2.1 hd hsl hn (xl_st1 ad i (.ref x) ls) (fun sl' hsl' => k x rfl p l e R s m args below meth c Q ad H locs cells slots sl' F hW hS hR (okl_st1 hl (oks_h hs)) (oks_t hs) hsl' h1 h2 hE)
theorem v_iinc {i : Nat} {n : Int} {x v : Int32} (q : Nat) (hd : decode M.2.1 pc = .ok (.iinc i n, 3)) (hq : ls[q]? = some (i, .int x)) (hv : Int32.ofInt n = v) (hn : i < M.2.2.1) (k : ∀ z : Int32, z = x + v → V G M d mc ms P (pc + 3) (st1 i (.int z) ls) st μ) : V G M d mc ms P pc ls st μ := by
  subst hv
  exact fun p l e R s m args below meth c Q ad H locs cells slots sl F hW hS hR hl hs hsl h1 h2 hE => lv_iinc F.1 F.2.1 hd hsl (k := q) (xl_at hq) rfl hn (xl_st1 ad i (.int (x + Int32.ofInt n)) ls) (fun sl' hsl' => k _ rfl p l e R s m args below meth c Q ad H locs cells slots sl' F hW hS hR (okl_st1 hl okv_i) hs hsl' h1 h2 hE)
theorem v_iadd {x y : Int32} (hd : decode M.2.1 pc = .ok (.iadd, 1)) (k : V G M d mc ms P (pc + 1) ls (.int (x + y) :: st) μ) : V G M d mc ms P (pc) ls (.int y :: .int x :: st) μ :=
  V.to k (fun h => oks_c okv_i (oks_t (oks_t h))) (fun F _ _ _ hsl w => lv_iadd F.1 F.2.1 hd w)
theorem v_isub {x y : Int32} (hd : decode M.2.1 pc = .ok (.isub, 1)) (k : V G M d mc ms P (pc + 1) ls (.int (x - y) :: st) μ) : V G M d mc ms P (pc) ls (.int y :: .int x :: st) μ :=
  V.to k (fun h => oks_c okv_i (oks_t (oks_t h))) (fun F _ _ _ hsl w => lv_isub F.1 F.2.1 hd w)
theorem v_imul {x y : Int32} (hd : decode M.2.1 pc = .ok (.imul, 1)) (k : V G M d mc ms P (pc + 1) ls (.int (x * y) :: st) μ) : V G M d mc ms P (pc) ls (.int y :: .int x :: st) μ :=
  V.to k (fun h => oks_c okv_i (oks_t (oks_t h))) (fun F _ _ _ hsl w => lv_imul F.1 F.2.1 hd w)
theorem v_iand {x y : Int32} (hd : decode M.2.1 pc = .ok (.iand, 1)) (k : V G M d mc ms P (pc + 1) ls (.int (x &&& y) :: st) μ) : V G M d mc ms P (pc) ls (.int y :: .int x :: st) μ :=
  V.to k (fun h => oks_c okv_i (oks_t (oks_t h))) (fun F _ _ _ hsl w => lv_iand F.1 F.2.1 hd w)
theorem v_ior {x y : Int32} (hd : decode M.2.1 pc = .ok (.ior, 1)) (k : V G M d mc ms P (pc + 1) ls (.int (x ||| y) :: st) μ) : V G M d mc ms P (pc) ls (.int y :: .int x :: st) μ :=
  V.to k (fun h => oks_c okv_i (oks_t (oks_t h))) (fun F _ _ _ hsl w => lv_ior F.1 F.2.1 hd w)
theorem v_ixor {x y : Int32} (hd : decode M.2.1 pc = .ok (.ixor, 1)) (k : V G M d mc ms P (pc + 1) ls (.int (x ^^^ y) :: st) μ) : V G M d mc ms P (pc) ls (.int y :: .int x :: st) μ :=
  V.to k (fun h => oks_c okv_i (oks_t (oks_t h))) (fun F _ _ _ hsl w => lv_ixor F.1 F.2.1 hd w)
theorem v_ishl {x y : Int32} (hd : decode M.2.1 pc = .ok (.ishl, 1)) (k : V G M d mc ms P (pc + 1) ls (.int (x <<< (y &&& 31)) :: st) μ) : V G M d mc ms P (pc) ls (.int y :: .int x :: st) μ :=
  V.to k (fun h => oks_c okv_i (oks_t (oks_t h))) (fun F _ _ _ hsl w => lv_ishl F.1 F.2.1 hd w)
theorem v_ishr {x y : Int32} (hd : decode M.2.1 pc = .ok (.ishr, 1)) (k : V G M d mc ms P (pc + 1) ls (.int (x >>> (y &&& 31)) :: st) μ) : V G M d mc ms P (pc) ls (.int y :: .int x :: st) μ :=
  V.to k (fun h => oks_c okv_i (oks_t (oks_t h))) (fun F _ _ _ hsl w => lv_ishr F.1 F.2.1 hd w)
theorem v_idiv {x y : Int32} (hd : decode M.2.1 pc = .ok (.idiv, 1)) (hne : ¬ y = 0) (k : V G M d mc ms P (pc + 1) ls (.int (x / y) :: st) μ) : V G M d mc ms P (pc) ls (.int y :: .int x :: st) μ :=
  V.to k (fun h => oks_c okv_i (oks_t (oks_t h))) (fun F _ _ _ hsl w => lv_idiv F.1 F.2.1 hd hne w)
theorem v_irem {x y : Int32} (hd : decode M.2.1 pc = .ok (.irem, 1)) (hne : ¬ y = 0) (k : V G M d mc ms P (pc + 1) ls (.int (x - x / y * y) :: st) μ) : V G M d mc ms P (pc) ls (.int y :: .int x :: st) μ :=
  V.to k (fun h => oks_c okv_i (oks_t (oks_t h))) (fun F _ _ _ hsl w => lv_irem F.1 F.2.1 hd hne w)
theorem v_ladd {x y : Int64} (hd : decode M.2.1 pc = .ok (.ladd, 1)) (k : V G M d mc ms P (pc + 1) ls (.long (x + y) :: st) μ) : V G M d mc ms P (pc) ls (.long y :: .long x :: st) μ :=
  V.to k (fun h => oks_c okv_l (oks_t (oks_t h))) (fun F _ _ _ hsl w => lv_ladd F.1 F.2.1 hd w)
theorem v_lsub {x y : Int64} (hd : decode M.2.1 pc = .ok (.lsub, 1)) (k : V G M d mc ms P (pc + 1) ls (.long (x - y) :: st) μ) : V G M d mc ms P (pc) ls (.long y :: .long x :: st) μ :=
  V.to k (fun h => oks_c okv_l (oks_t (oks_t h))) (fun F _ _ _ hsl w => lv_lsub F.1 F.2.1 hd w)
theorem v_lmul {x y : Int64} (hd : decode M.2.1 pc = .ok (.lmul, 1)) (k : V G M d mc ms P (pc + 1) ls (.long (x * y) :: st) μ) : V G M d mc ms P (pc) ls (.long y :: .long x :: st) μ :=
  V.to k (fun h => oks_c okv_l (oks_t (oks_t h))) (fun F _ _ _ hsl w => lv_lmul F.1 F.2.1 hd w)
theorem v_land {x y : Int64} (hd : decode M.2.1 pc = .ok (.land, 1)) (k : V G M d mc ms P (pc + 1) ls (.long (x &&& y) :: st) μ) : V G M d mc ms P (pc) ls (.long y :: .long x :: st) μ :=
  V.to k (fun h => oks_c okv_l (oks_t (oks_t h))) (fun F _ _ _ hsl w => lv_land F.1 F.2.1 hd w)
theorem v_lor {x y : Int64} (hd : decode M.2.1 pc = .ok (.lor, 1)) (k : V G M d mc ms P (pc + 1) ls (.long (x ||| y) :: st) μ) : V G M d mc ms P (pc) ls (.long y :: .long x :: st) μ :=
  V.to k (fun h => oks_c okv_l (oks_t (oks_t h))) (fun F _ _ _ hsl w => lv_lor F.1 F.2.1 hd w)
theorem v_lxor {x y : Int64} (hd : decode M.2.1 pc = .ok (.lxor, 1)) (k : V G M d mc ms P (pc + 1) ls (.long (x ^^^ y) :: st) μ) : V G M d mc ms P (pc) ls (.long y :: .long x :: st) μ :=
  V.to k (fun h => oks_c okv_l (oks_t (oks_t h))) (fun F _ _ _ hsl w => lv_lxor F.1 F.2.1 hd w)
theorem v_ldiv {x y : Int64} (hd : decode M.2.1 pc = .ok (.ldiv, 1)) (hne : ¬ y = 0) (k : V G M d mc ms P (pc + 1) ls (.long (x / y) :: st) μ) : V G M d mc ms P (pc) ls (.long y :: .long x :: st) μ :=
  V.to k (fun h => oks_c okv_l (oks_t (oks_t h))) (fun F _ _ _ hsl w => lv_ldiv F.1 F.2.1 hd hne w)
theorem v_lrem {x y : Int64} (hd : decode M.2.1 pc = .ok (.lrem, 1)) (hne : ¬ y = 0) (k : V G M d mc ms P (pc + 1) ls (.long (x - x / y * y) :: st) μ) : V G M d mc ms P (pc) ls (.long y :: .long x :: st) μ :=
  V.to k (fun h => oks_c okv_l (oks_t (oks_t h))) (fun F _ _ _ hsl w => lv_lrem F.1 F.2.1 hd hne w)
theorem v_ineg {x : Int32} (hd : decode M.2.1 pc = .ok (.ineg, 1)) (k : V G M d mc ms P (pc + 1) ls (.int (-x) :: st) μ) : V G M d mc ms P (pc) ls (.int x :: st) μ :=
  V.to k (fun h => oks_c okv_i (oks_t h)) (fun F _ _ _ hsl w => lv_ineg F.1 F.2.1 hd w)
theorem v_lneg {x : Int64} (hd : decode M.2.1 pc = .ok (.lneg, 1)) (k : V G M d mc ms P (pc + 1) ls (.long (-x) :: st) μ) : V G M d mc ms P (pc) ls (.long x :: st) μ :=
  V.to k (fun h => oks_c okv_l (oks_t h)) (fun F _ _ _ hsl w => lv_lneg F.1 F.2.1 hd w)
theorem v_lshl {x : Int64} {y : Int32} (hd : decode M.2.1 pc = .ok (.lshl, 1)) (k : V G M d mc ms P (pc + 1) ls (.long (x <<< (y.toInt64 &&& 63)) :: st) μ) : V G M d mc ms P (pc) ls (.int y :: .long x :: st) μ :=
  V.to k (fun h => oks_c okv_l (oks_t (oks_t h))) (fun F _ _ _ hsl w => lv_lshl F.1 F.2.1 hd rfl w)
theorem v_lshr {x : Int64} {y : Int32} (hd : decode M.2.1 pc = .ok (.lshr, 1)) (k : V G M d mc ms P (pc + 1) ls (.long (x >>> (y.toInt64 &&& 63)) :: st) μ) : V G M d mc ms P (pc) ls (.int y :: .long x :: st) μ :=
  V.to k (fun h => oks_c okv_l (oks_t (oks_t h))) (fun F _ _ _ hsl w => lv_lshr F.1 F.2.1 hd rfl w)
theorem v_iushr {x y : Int32} (hd : decode M.2.1 pc = .ok (.iushr, 1)) (k : V G M d mc ms P (pc + 1) ls (.int (x.toUInt32 >>> (y.toUInt32 &&& Int32.toUInt32 31)).toInt32 :: st) μ) : V G M d mc ms P (pc) ls (.int y :: .int x :: st) μ :=
  V.to k (fun h => oks_c okv_i (oks_t (oks_t h))) (fun F _ _ _ hsl w => lv_iushr F.1 F.2.1 hd rfl w)
theorem v_i2l {x : Int32} (hd : decode M.2.1 pc = .ok (.i2l, 1)) (k : V G M d mc ms P (pc + 1) ls (.long x.toInt64 :: st) μ) : V G M d mc ms P (pc) ls (.int x :: st) μ :=
  V.to k (fun h => oks_c okv_l (oks_t h)) (fun F _ _ _ hsl w => lv_i2l F.1 F.2.1 hd rfl w)
theorem v_l2i {x : Int64} (hd : decode M.2.1 pc = .ok (.l2i, 1)) (k : V G M d mc ms P (pc + 1) ls (.int x.toInt32 :: st) μ) : V G M d mc ms P (pc) ls (.long x :: st) μ :=
  V.to k (fun h => oks_c okv_i (oks_t h)) (fun F _ _ _ hsl w => lv_l2i F.1 F.2.1 hd rfl w)
theorem v_i2b {x : Int32} (hd : decode M.2.1 pc = .ok (.i2b, 1)) (k : V G M d mc ms P (pc + 1) ls (.int x.toInt8.toInt32 :: st) μ) : V G M d mc ms P (pc) ls (.int x :: st) μ :=
  V.to k (fun h => oks_c okv_i (oks_t h)) (fun F _ _ _ hsl w => lv_i2b F.1 F.2.1 hd rfl w)
theorem v_i2c {x : Int32} (hd : decode M.2.1 pc = .ok (.i2c, 1)) (k : V G M d mc ms P (pc + 1) ls (.int (x.toUInt32 % 65536).toInt32 :: st) μ) : V G M d mc ms P (pc) ls (.int x :: st) μ :=
  V.to k (fun h => oks_c okv_i (oks_t h)) (fun F _ _ _ hsl w => lv_i2c F.1 F.2.1 hd rfl w)
theorem v_fadd {x y : UInt32} (hd : decode M.2.1 pc = .ok (.fadd, 1)) (hne : vf_n32 (FP.fadd x y)) (k : V G M d mc ms P (pc + 1) ls (.float (FP.fadd x y) :: st) μ) : V G M d mc ms P (pc) ls (.float y :: .float x :: st) μ :=
  V.to k (fun h => oks_c okv_f (oks_t (oks_t h))) (fun F _ _ _ hsl w => lv_fadd F.1 F.2.1 hd hne w)
theorem v_fsub {x y : UInt32} (hd : decode M.2.1 pc = .ok (.fsub, 1)) (hne : vf_n32 (FP.fsub x y)) (k : V G M d mc ms P (pc + 1) ls (.float (FP.fsub x y) :: st) μ) : V G M d mc ms P (pc) ls (.float y :: .float x :: st) μ :=
  V.to k (fun h => oks_c okv_f (oks_t (oks_t h))) (fun F _ _ _ hsl w => lv_fsub F.1 F.2.1 hd hne w)
theorem v_fmul {x y : UInt32} (hd : decode M.2.1 pc = .ok (.fmul, 1)) (hne : vf_n32 (FP.fmul x y)) (k : V G M d mc ms P (pc + 1) ls (.float (FP.fmul x y) :: st) μ) : V G M d mc ms P (pc) ls (.float y :: .float x :: st) μ :=
  V.to k (fun h => oks_c okv_f (oks_t (oks_t h))) (fun F _ _ _ hsl w => lv_fmul F.1 F.2.1 hd hne w)
theorem v_fdiv {x y : UInt32} (hd : decode M.2.1 pc = .ok (.fdiv, 1)) (hne : vf_n32 (FP.fdiv x y)) (k : V G M d mc ms P (pc + 1) ls (.float (FP.fdiv x y) :: st) μ) : V G M d mc ms P (pc) ls (.float y :: .float x :: st) μ :=
  V.to k (fun h => oks_c okv_f (oks_t (oks_t h))) (fun F _ _ _ hsl w => lv_fdiv F.1 F.2.1 hd hne w)
theorem v_dadd {x y : UInt64} (hd : decode M.2.1 pc = .ok (.dadd, 1)) (hne : vf_n64 (FP.dadd x y)) (k : V G M d mc ms P (pc + 1) ls (.double (FP.dadd x y) :: st) μ) : V G M d mc ms P (pc) ls (.double y :: .double x :: st) μ :=
  V.to k (fun h => oks_c okv_d (oks_t (oks_t h))) (fun F _ _ _ hsl w => lv_dadd F.1 F.2.1 hd hne w)
theorem v_dsub {x y : UInt64} (hd : decode M.2.1 pc = .ok (.dsub, 1)) (hne : vf_n64 (FP.dsub x y)) (k : V G M d mc ms P (pc + 1) ls (.double (FP.dsub x y) :: st) μ) : V G M d mc ms P (pc) ls (.double y :: .double x :: st) μ :=
  V.to k (fun h => oks_c okv_d (oks_t (oks_t h))) (fun F _ _ _ hsl w => lv_dsub F.1 F.2.1 hd hne w)
theorem v_dmul {x y : UInt64} (hd : decode M.2.1 pc = .ok (.dmul, 1)) (hne : vf_n64 (FP.dmul x y)) (k : V G M d mc ms P (pc + 1) ls (.double (FP.dmul x y) :: st) μ) : V G M d mc ms P (pc) ls (.double y :: .double x :: st) μ :=
  V.to k (fun h => oks_c okv_d (oks_t (oks_t h))) (fun F _ _ _ hsl w => lv_dmul F.1 F.2.1 hd hne w)
theorem v_ddiv {x y : UInt64} (hd : decode M.2.1 pc = .ok (.ddiv, 1)) (hne : vf_n64 (FP.ddiv x y)) (k : V G M d mc ms P (pc + 1) ls (.double (FP.ddiv x y) :: st) μ) : V G M d mc ms P (pc) ls (.double y :: .double x :: st) μ :=
  V.to k (fun h => oks_c okv_d (oks_t (oks_t h))) (fun F _ _ _ hsl w => lv_ddiv F.1 F.2.1 hd hne w)
theorem v_i2f {x : Int32} (hd : decode M.2.1 pc = .ok (.i2f, 1)) (k : V G M d mc ms P (pc + 1) ls (.float (FP.i2f x) :: st) μ) : V G M d mc ms P (pc) ls (.int x :: st) μ :=
  V.to k (fun h => oks_c okv_f (oks_t h)) (fun F _ _ _ hsl w => lv_i2f F.1 F.2.1 hd w)
theorem v_f2i {x : UInt32} (hd : decode M.2.1 pc = .ok (.f2i, 1)) (k : V G M d mc ms P (pc + 1) ls (.int (FP.f2i x) :: st) μ) : V G M d mc ms P (pc) ls (.float x :: st) μ :=
  V.to k (fun h => oks_c okv_i (oks_t h)) (fun F _ _ _ hsl w => lv_f2i F.1 F.2.1 hd w)
theorem v_l2d {x : Int64} (hd : decode M.2.1 pc = .ok (.l2d, 1)) (k : V G M d mc ms P (pc + 1) ls (.double (FP.l2d x) :: st) μ) : V G M d mc ms P (pc) ls (.long x :: st) μ :=
  V.to k (fun h => oks_c okv_d (oks_t h)) (fun F _ _ _ hsl w => lv_l2d F.1 F.2.1 hd w)
theorem v_d2l {x : UInt64} (hd : decode M.2.1 pc = .ok (.d2l, 1)) (k : V G M d mc ms P (pc + 1) ls (.long (FP.d2l x) :: st) μ) : V G M d mc ms P (pc) ls (.double x :: st) μ :=
  V.to k (fun h => oks_c okv_l (oks_t h)) (fun F _ _ _ hsl w => lv_d2l F.1 F.2.1 hd w)
theorem v_f2d {x : UInt32} (hd : decode M.2.1 pc = .ok (.f2d, 1)) (hne : vf_n64 (FP.f2d x)) (k : V G M d mc ms P (pc + 1) ls (.double (FP.f2d x) :: st) μ) : V G M d mc ms P (pc) ls (.float x :: st) μ :=
  V.to k (fun h => oks_c okv_d (oks_t h)) (fun F _ _ _ hsl w => lv_f2d F.1 F.2.1 hd hne w)
theorem v_d2f {x : UInt64} (hd : decode M.2.1 pc = .ok (.d2f, 1)) (hne : vf_n32 (FP.d2f x)) (k : V G M d mc ms P (pc + 1) ls (.float (FP.d2f x) :: st) μ) : V G M d mc ms P (pc) ls (.double x :: st) μ :=
  V.to k (fun h => oks_c okv_f (oks_t h)) (fun F _ _ _ hsl w => lv_d2f F.1 F.2.1 hd hne w)
theorem v_fcmp {x y : UInt32} {op : CmpOp} (hd : decode M.2.1 pc = .ok (.fcmp op, 1)) (k : V G M d mc ms P (pc + 1) ls (.int (Op.cmpValue (FP.fcmp x y) op) :: st) μ) : V G M d mc ms P (pc) ls (.float y :: .float x :: st) μ :=
  V.to k (fun h => oks_c okv_i (oks_t (oks_t h))) (fun F _ _ _ hsl w => lv_fcmp F.1 F.2.1 hd w)
theorem v_dcmp {x y : UInt64} {op : CmpOp} (hd : decode M.2.1 pc = .ok (.dcmp op, 1)) (k : V G M d mc ms P (pc + 1) ls (.int (Op.cmpValue (FP.dcmp x y) op) :: st) μ) : V G M d mc ms P (pc) ls (.double y :: .double x :: st) μ :=
  V.to k (fun h => oks_c okv_i (oks_t (oks_t h))) (fun F _ _ _ hsl w => lv_dcmp F.1 F.2.1 hd w)
theorem v_dup {va : Value} (hd : decode M.2.1 pc = .ok (.dup, 1)) (hva : va.category = 1) (k : V G M d mc ms P (pc + 1) ls (va :: va :: st) μ) : V G M d mc ms P pc ls (va :: st) μ :=
  V.to k (fun h => oks_c (oks_h h) h) (fun F _ _ _ hsl w => lv_dup F.1 F.2.1 hd (by rw [xv_cat]; exact hva) w)
theorem v_pop {va : Value} (hd : decode M.2.1 pc = .ok (.pop, 1)) (hva : va.category = 1) (k : V G M d mc ms P (pc + 1) ls st μ) : V G M d mc ms P pc ls (va :: st) μ :=
  V.to k (fun h => oks_t h) (fun F _ _ _ hsl w => lv_pop F.1 F.2.1 hd (by rw [xv_cat]; exact hva) w)
theorem v_dup_x1 {va vb : Value} (hd : decode M.2.1 pc = .ok (.dup_x1, 1)) (hva : va.category = 1) (hvb : vb.category = 1) (k : V G M d mc ms P (pc + 1) ls (va :: vb :: va :: st) μ) : V G M d mc ms P pc ls (va :: vb :: st) μ :=
  V.to k (fun h => oks_c (oks_h h) (oks_c (oks_h (oks_t h)) (oks_c (oks_h h) (oks_t (oks_t h))))) (fun F _ _ _ hsl w => lv_dup_x1 F.1 F.2.1 hd (by rw [xv_cat]; exact hva) (by rw [xv_cat]; exact hvb) w)
theorem v_dup2_11 {va vb : Value} (hd : decode M.2.1 pc = .ok (.dup2, 1)) (hva : va.category = 1) (hvb : vb.category = 1) (k : V G M d mc ms P (pc + 1) ls (va :: vb :: va :: vb :: st) μ) : V G M d mc ms P pc ls (va :: vb :: st) μ :=
  V.to k (fun h => oks_c (oks_h h) (oks_c (oks_h (oks_t h)) h)) (fun F _ _ _ hsl w => lv_dup2_11 F.1 F.2.1 hd (by rw [xv_cat]; exact hva) (by rw [xv_cat]; exact hvb) w)
theorem v_lcmp {x y : Int64} (hd : decode M.2.1 pc = .ok (.lcmp, 1)) (k : V G M d mc ms P (pc + 1) ls (.int (lg_cmp x y) :: st) μ) : V G M d mc ms P pc ls (.long y :: .long x :: st) μ :=
  V.to k (fun h => oks_c okv_i (oks_t (oks_t h))) (fun F _ _ _ hsl w => W.lcmp F.1 F.2.1 hd w)
theorem v_if_eq {x : Int32} {off : Int} {tgt : Nat} (hd : decode M.2.1 pc = .ok (.ifCond .eq off, 3)) (ht : (pc : Int) + off = (tgt : Int)) (ka : x = 0 → V G M d mc ms P tgt ls st μ) (kb : ¬ (x = 0) → V G M d mc ms P (pc + 3) ls st μ) : V G M d mc ms P pc ls (.int x :: st) μ :=
  V.ifs ka kb (fun h => oks_t h) (fun F wa wb => lv_if_eq F.1 F.2.1 hd ht wa wb)
theorem v_if_ne {x : Int32} {off : Int} {tgt : Nat} (hd : decode M.2.1 pc = .ok (.ifCond .ne off, 3)) (ht : (pc : Int) + off = (tgt : Int)) (ka : ¬ x = 0 → V G M d mc ms P tgt ls st μ) (kb : x = 0 → V G M d mc ms P (pc + 3) ls st μ) : V G M d mc ms P pc ls (.int x :: st) μ :=
  V.ifs (C := x = 0) kb ka (fun h => oks_t h) (fun F wa wb => lv_if_ne F.1 F.2.1 hd ht wb wa)
theorem v_if_lt {x : Int32} {off : Int} {tgt : Nat} (hd : decode M.2.1 pc = .ok (.ifCond .lt off, 3)) (ht : (pc : Int) + off = (tgt : Int)) (ka : x < 0 → V G M d mc ms P tgt ls st μ) (kb : ¬ (x < 0) → V G M d mc ms P (pc + 3) ls st μ) : V G M d mc ms P pc ls (.int x :: st) μ :=
  V.ifs ka kb (fun h => oks_t h) (fun F wa wb => lv_if_lt F.1 F.2.1 hd ht wa wb)
theorem v_if_ge {x : Int32} {off : Int} {tgt : Nat} (hd : decode M.2.1 pc = .ok (.ifCond .ge off, 3)) (ht : (pc : Int) + off = (tgt : Int)) (ka : 0 ≤ x → V G M d mc ms P tgt ls st μ) (kb : ¬ (0 ≤ x) → V G M d mc ms P (pc + 3) ls st μ) : V G M d mc ms P pc ls (.int x :: st) μ :=
  V.ifs ka kb (fun h => oks_t h) (fun F wa wb => lv_if_ge F.1 F.2.1 hd ht wa wb)
theorem v_if_gt {x : Int32} {off : Int} {tgt : Nat} (hd : decode M.2.1 pc = .ok (.ifCond .gt off, 3)) (ht : (pc : Int) + off = (tgt : Int)) (ka : 0 < x → V G M d mc ms P tgt ls st μ) (kb : ¬ (0 < x) → V G M d mc ms P (pc + 3) ls st μ) : V G M d mc ms P pc ls (.int x :: st) μ :=
  V.ifs ka kb (fun h => oks_t h) (fun F wa wb => lv_if_gt F.1 F.2.1 hd ht wa wb)
theorem v_if_le {x : Int32} {off : Int} {tgt : Nat} (hd : decode M.2.1 pc = .ok (.ifCond .le off, 3)) (ht : (pc : Int) + off = (tgt : Int)) (ka : x ≤ 0 → V G M d mc ms P tgt ls st μ) (kb : ¬ (x ≤ 0) → V G M d mc ms P (pc + 3) ls st μ) : V G M d mc ms P pc ls (.int x :: st) μ :=
  V.ifs ka kb (fun h => oks_t h) (fun F wa wb => lv_if_le F.1 F.2.1 hd ht wa wb)
theorem v_icmp_eq {x y : Int32} {off : Int} {tgt : Nat} (hd : decode M.2.1 pc = .ok (.if_icmp .eq off, 3)) (ht : (pc : Int) + off = (tgt : Int)) (ka : x = y → V G M d mc ms P tgt ls st μ) (kb : ¬ (x = y) → V G M d mc ms P (pc + 3) ls st μ) : V G M d mc ms P pc ls (.int y :: .int x :: st) μ :=
  V.ifs ka kb (fun h => oks_t (oks_t h)) (fun F wa wb => lv_icmp_eq F.1 F.2.1 hd ht wa wb)
theorem v_icmp_ne {x y : Int32} {off : Int} {tgt : Nat} (hd : decode M.2.1 pc = .ok (.if_icmp .ne off, 3)) (ht : (pc : Int) + off = (tgt : Int)) (ka : ¬ x = y → V G M d mc ms P tgt ls st μ) (kb : x = y → V G M d mc ms P (pc + 3) ls st μ) : V G M d mc ms P pc ls (.int y :: .int x :: st) μ :=
  V.ifs (C := x = y) kb ka (fun h => oks_t (oks_t h)) (fun F wa wb => lv_icmp_ne F.1 F.2.1 hd ht wb wa)
theorem v_icmp_lt {x y : Int32} {off : Int} {tgt : Nat} (hd : decode M.2.1 pc = .ok (.if_icmp .lt off, 3)) (ht : (pc : Int) + off = (tgt : Int)) (ka : x < y → V G M d mc ms P tgt ls st μ) (kb : ¬ (x < y) → V G M d mc ms P (pc + 3) ls st μ) : V G M d mc ms P pc ls (.int y :: .int x :: st) μ :=
  V.ifs ka kb (fun h => oks_t (oks_t h)) (fun F wa wb => lv_icmp_lt F.1 F.2.1 hd ht wa wb)
theorem v_icmp_ge {x y : Int32} {off : Int} {tgt : Nat} (hd : decode M.2.1 pc = .ok (.if_icmp .ge off, 3)) (ht : (pc : Int) + off = (tgt : Int)) (ka : y ≤ x → V G M d mc ms P tgt ls st μ) (kb : ¬ (y ≤ x) → V G M d mc ms P (pc + 3) ls st μ) : V G M d mc ms P pc ls (.int y :: .int x :: st) μ :=
  V.ifs ka kb (fun h => oks_t (oks_t h)) (fun F wa wb => lv_icmp_ge F.1 F.2.1 hd ht wa wb)
theorem v_icmp_gt {x y : Int32} {off : Int} {tgt : Nat} (hd : decode M.2.1 pc = .ok (.if_icmp .gt off, 3)) (ht : (pc : Int) + off = (tgt : Int)) (ka : y < x → V G M d mc ms P tgt ls st μ) (kb : ¬ (y < x) → V G M d mc ms P (pc + 3) ls st μ) : V G M d mc ms P pc ls (.int y :: .int x :: st) μ :=
  V.ifs ka kb (fun h => oks_t (oks_t h)) (fun F wa wb => lv_icmp_gt F.1 F.2.1 hd ht wa wb)
theorem v_icmp_le {x y : Int32} {off : Int} {tgt : Nat} (hd : decode M.2.1 pc = .ok (.if_icmp .le off, 3)) (ht : (pc : Int) + off = (tgt : Int)) (ka : x ≤ y → V G M d mc ms P tgt ls st μ) (kb : ¬ (x ≤ y) → V G M d mc ms P (pc + 3) ls st μ) : V G M d mc ms P pc ls (.int y :: .int x :: st) μ :=
  V.ifs ka kb (fun h => oks_t (oks_t h)) (fun F wa wb => lv_icmp_le F.1 F.2.1 hd ht wa wb)
theorem v_goto {off : Int} {tgt : Nat} (hd : decode M.2.1 pc = .ok (.goto off, 3)) (ht : (pc : Int) + off = (tgt : Int)) (k : V G M d mc ms P tgt ls st μ) : V G M d mc ms P pc ls st μ :=
  V.to k (fun h => h) (fun F _ _ _ hsl w => lv_goto F.1 F.2.1 hd ht w)
theorem v_tableOut {dflt lo hi : Int} {offs : Array Int} {len : Nat} {x : Int32} {tgt : Nat} (hd : decode M.2.1 pc = .ok (.tableswitch dflt lo hi offs, len)) (h : x.toInt < lo ∨ hi < x.toInt) (ht : (pc : Int) + dflt = (tgt : Int)) (k : V G M d mc ms P tgt ls st μ) : V G M d mc ms P pc ls (.int x :: st) μ :=
  V.to k (fun h => oks_t h) (fun F _ _ _ hsl w => lv_tableOut F.1 F.2.1 hd h ht w)
theorem v_tableIn {dflt lo hi : Int} {offs : Array Int} {len : Nat} {x : Int32} {off : Int} {tgt : Nat} (hd : decode M.2.1 pc = .ok (.tableswitch dflt lo hi offs, len)) (h1 : ¬ x.toInt < lo) (h2 : ¬ hi < x.toInt) (ho : offs[(x.toInt - lo).toNat]? = some off) (ht : (pc : Int) + off = (tgt : Int)) (k : V G M d mc ms P tgt ls st μ) : V G M d mc ms P pc ls (.int x :: st) μ :=
  V.to k (fun h => oks_t h) (fun F _ _ _ hsl w => lv_tableIn F.1 F.2.1 hd h1 h2 ho ht w)
theorem v_lookup {dflt : Int} {ps : Array (Int × Int)} {len : Nat} {x : Int32} {off : Int} {tgt : Nat} (hd : decode M.2.1 pc = .ok (.lookupswitch dflt ps, len)) (hp : (ps.toList.zip (ps.toList.drop 1)).all (fun (a, next) => a.1 < next.1) = true) (ho : Op.lookupswitch.offset ps.toList dflt x.toInt = off) (ht : (pc : Int) + off = (tgt : Int)) (k : V G M d mc ms P tgt ls st μ) : V G M d mc ms P pc ls (.int x :: st) μ :=
  V.to k (fun h => oks_t h) (fun F _ _ _ hsl w => lv_lookup F.1 F.2.1 hd hp ho ht w)
/-! returns -/
theorem v_iret {v : Int32} {t : FieldType} (hd : decode M.2.1 pc = .ok (.ireturn, 1)) (hr : M.2.2.2 = some t) (hn : narrow t (.int v) = .int v) (hP : P (some (.int v)) μ) : V G M d mc ms P pc ls [.int v] μ :=
  fun p l e R s m args below meth c Q ad H locs cells slots sl F hW hS hR hl hs hsl h1 h2 hE => hE (some (.int v)) μ ad H locs cells slots pc sl hP hW Ag.refl (fun _ z => z) (fun u e => by cases e; exact okv_i) hS (by omega) (by omega) ⟨hd, t, hr, hn⟩
theorem v_lret {v : Int64} (hd : decode M.2.1 pc = .ok (.lreturn, 1)) (hr : M.2.2.2 = some .long) (hP : P (some (.long v)) μ) : V G M d mc ms P pc ls [.long v] μ :=
  fun p l e R s m args below meth c Q ad H locs cells slots sl F hW hS hR hl hs hsl h1 h2 hE => hE (some (.long v)) μ ad H locs cells slots pc sl hP hW Ag.refl (fun _ z => z) (fun u e => by cases e; exact okv_l) hS (by omega) (by omega) ⟨hd, hr⟩
theorem v_fret {v : UInt32} (hd : decode M.2.1 pc = .ok (.freturn, 1)) (hr : M.2.2.2 = some .float) (hP : P (some (.float v)) μ) : V G M d mc ms P pc ls [.float v] μ :=
  fun p l e R s m args below meth c Q ad H locs cells slots sl F hW hS hR hl hs hsl h1 h2 hE => hE (some (.float v)) μ ad H locs cells slots pc sl hP hW Ag.refl (fun _ z => z) (fun u e => by cases e; exact okv_f) hS (by omega) (by omega) ⟨hd, hr⟩
theorem v_dret {v : UInt64} (hd : decode M.2.1 pc = .ok (.dreturn, 1)) (hr : M.2.2.2 = some .double) (hP : P (some (.double v)) μ) : V G M d mc ms P pc ls [.double v] μ :=
  fun p l e R s m args below meth c Q ad H locs cells slots sl F hW hS hR hl hs hsl h1 h2 hE => hE (some (.double v)) μ ad H locs cells slots pc sl hP hW Ag.refl (fun _ z => z) (fun u e => by cases e; exact okv_d) hS (by omega) (by omega) ⟨hd, hr⟩
theorem v_aret {a : Nat} {t : FieldType} (hd : decode M.2.1 pc = .ok (.areturn, 1)) (hr : M.2.2.2 = some t) (ht : (∃ n, t = .object n) ∨ ∃ u, t = .array u) (hP : P (some (.ref a)) μ) : V G M d mc ms P pc ls [.ref a] μ :=
  fun p l e R s m args below meth c Q ad H locs cells slots sl F hW hS hR hl hs hsl h1 h2 hE => hE (some (.ref a)) μ ad H locs cells slots pc sl hP hW Ag.refl (fun _ z => z) (fun u e => by cases e; exact oks_h hs) hS (by omega) (by omega) ⟨hd, t, hr, ht⟩
theorem v_vret (hd : decode M.2.1 pc = .ok (.return_, 1)) (hr : M.2.2.2 = none) (hP : P none μ) : V G M d mc ms P pc ls [] μ :=
  fun p l e R s m args below meth c Q ad H locs cells slots sl F hW hS hR hl hs hsl h1 h2 hE => hE none μ ad H locs cells slots pc sl hP hW Ag.refl (fun _ z => z) (fun u e => by cases e) hS (by omega) (by omega) ⟨hd, hr⟩
end VROWS
end
section
/-! ===== heap rows, calls, contracts ===== -/
theorem va_P1 {D : va_G} {cl : List vw_C} {x : Nat × va_E} {H : Heap} (h : va_at D cl x H) : va_P D cl [x] H := fun k q hk => by
  have hz : k < 1 := (List.getElem?_eq_some_iff.mp hk).1
  rw [show k = 0 by omega] at hk
  cases hk
  exact h
theorem narrow_xv {ty : FieldType} {v : Value} (ad : Nat → Nat) (h : narrow ty v = v) : narrow ty (xv ad v) = xv ad v := by
  cases v <;> first | exact h | (cases ty <;> rfl)
theorem fits_xv {ty : FieldType} {v : Value} (ad : Nat → Nat) (h : fits ty v = true) : fits ty (xv ad v) = true := by
  cases v <;> first | exact h | (cases ty <;> first | rfl | exact h)
theorem set_xv (ad : Nat → Nat) (fs : List Value) (k : Nat) (v : Value) : (fs.map (xv ad)).set k (xv ad v) = (fs.set k v).map (xv ad) := by rw [List.map_set]
theorem mem_set_ok {μ : Hp} {fs : List Value} {k : Nat} {v : Value} (h : ∀ u ∈ fs, okv μ u) (hv : okv μ v) : ∀ u ∈ fs.set k v, okv μ u := fun u hu => by
  rcases List.mem_or_eq_of_mem_set hu with h1 | rfl
  · exact h u h1
  · exact hv
theorem S_put {G : Cx} {H0 H H1 : Heap} {locs : List Loc} {a k : Nat} (h : va_S (cS G) H0 H locs) (z : H1.size = H.size) (oq : ∀ q : Nat, q ≠ a → H1[q]? = H[q]?) (ha : cB G ≤ a) : va_S (cS G) H0 H1 (locs ++ [⟨a, k⟩]) := h.put z oq ha
/-- a field read from own's entry idx: place k of class ci -/
def FL (own : String) (idx ci k : Nat) : Prop := ∃ (C : String) (T : u_T) (N : Nat), vwCl[ci]? = some (C, T, N) ∧ k < N ∧ (∀ w ∈ u_ws C T N, w ∈ gw) ∧ Cond.fieldLink own idx (T k).1 (T k).2.1 (T k).2.2.1 ∈ gw
/-- a field written from own's entry idx -/
def FP (own : String) (idx ci k : Nat) (fin : Bool) (ty : FieldType) : Prop := ∃ (C : String) (T : u_T) (N : Nat) (ty0 : Nat → FieldType), vwCl[ci]? = some (C, T, N) ∧ k < N ∧ (∀ w ∈ u_ws C T N, w ∈ gw) ∧ Cond.fieldLink own idx (T k).1 (T k).2.1 (T k).2.2.1 ∈ gw ∧ (∀ k, k < N → parseFieldDescriptor (T k).2.2.1 = some (ty0 k)) ∧ (∀ a, a < N → ∀ b, b < N → a ≠ b → (T a).2.1 ≠ (T b).2.1) ∧ (T k).2.2.2 = fin ∧ ty0 k = ty ∧ (fin = true → (T k).1 = own)
/-- a class made from own's entry idx -/
def NW (own : String) (idx ci N : Nat) (fs : List Value) : Prop := ∃ (C : String) (T : u_T) (ty0 : Nat → FieldType), vwCl[ci]? = some (C, T, N) ∧ (∀ w ∈ u_ws C T N, w ∈ gw) ∧ (∀ k, k < N → parseFieldDescriptor (T k).2.2.1 = some (ty0 k)) ∧ Cond.classLink own idx C ∈ gw ∧ Cond.instantiable C N ∈ gw ∧ Cond.initialized C ∈ gw ∧ ∀ j, j < N → defaultValue (ty0 j) = vp_V fs j
section HROWS
variable {G : Cx} {M : MD} {d mc ms : Nat} {P : Option Value → Hp → Prop} {pc : Nat} {ls : List (Nat × Value)} {st : List Value} {μ : Hp}
theorem v_get {idx ci k a : Nat} {fs : List Value} {v : Value} (hF : FL M.1.cls idx ci k) (hd : decode M.2.1 pc = .ok (.getfield idx, 3)) (hμ : μ a = some (.inr (ci, fs))) (hv : fs[k]? = some v) (kk : V G M d mc ms P (pc + 3) ls (v :: st) μ) : V G M d mc ms P pc ls (.ref a :: st) μ := by
  intro p l e R s m args below meth c Q ad H locs cells slots sl F hW hS hR hl hs hsl h1 h2 hE
  obtain ⟨C, T, N, hc, hk, hin, hlk⟩ := hF
  obtain ⟨f1, f2, f3, f4, f5, f6, f7, f8, f9, f10, f11⟩ := id F
  refine va_get (ws := [(ad a, .inr (ci, fs.map (xv ad)))]) (ci := ci) (v := xv ad v) f1 f2 f8 hin f5 f9.2 (va_P1 (hW.mut hμ)) 0 rfl hc k hk (f8 _ hlk) (fun _ h => h) (by rw [List.getElem?_map, hv]; rfl) hd ?_
  exact kk p l e R s m args below meth c Q ad H locs cells slots sl F hW hS hR hl (oks_c ((hW.2.1 a _ hμ).2.1 v (List.mem_of_getElem? hv)) (oks_t hs)) hsl h1 h2 hE
theorem v_put {idx ci k a : Nat} {ty : FieldType} {fs : List Value} {v : Value} (hF : FP M.1.cls idx ci k false ty) (hd : decode M.2.1 pc = .ok (.putfield idx, 3)) (hμ : μ a = some (.inr (ci, fs))) (hlen : k < fs.length) (hn : narrow ty v = v) (hfit : fits ty v = true) (kk : V G M d mc ms P (pc + 3) ls st (up μ a (.inr (ci, fs.set k v)))) : V G M d mc ms P pc ls (v :: .ref a :: st) μ := by
  intro p l e R s m args below meth c Q ad H locs cells slots sl F hW hS hR hl hs hsl h1 h2 hE
  obtain ⟨C, T, N, ty0, hc, hk, hin, hlk, hty, hnm, hfin, hte, -⟩ := hF
  obtain ⟨f1, f2, f3, f4, f5, f6, f7, f8, f9, f10, f11⟩ := id F
  have hap := va_apart (own := M.1.cls) f8 hin ty0 hty hnm f9.2 hc
  obtain ⟨hat, hok, hge, hlt9⟩ := hW.2.1 a _ hμ
  obtain ⟨r, g1, cell, q1, q2, q3, q4⟩ := id hat
  have hr : r = (C, T, N) := Option.some.inj (g1.symm.trans hc)
  subst hr
  obtain ⟨hSl, hfc, kC, hkC, hkind⟩ := f9.2.1 ci _ hc
  obtain ⟨cf, kf, fi, f, hi, hsl'⟩ := hSl k hk
  have hlay := f8 _ (hin _ (u_in_lay hk))
  unfold u_lay at hlay
  rw [if_neg (by rw [hfin]; decide)] at hlay
  have hst := (u_facts hfc hkC (u_lays f8 hin hk) hi).1
  have h6 := u_store (v := xv ad v) hfc hkC hkind hlay hi (by rw [hty k hk, hte]) (narrow_xv ad hn) (fits_xv ad hfit)
  refine W.putK f1 f2 (f := f) ⟨f5, f8 _ hlk, ⟨_, _, _, hi⟩, hst⟩ (by rw [q2]; exact h6) q1 q3 (by rw [hsl']; exact k2_hasslot (q4 k hk)) rfl rfl hd fun H' e1 e2 e3 => ?_
  rw [hsl'] at e1 ⊢
  have hW' : Wd G ad (up μ a (.inr (ci, fs.set k v))) H' := hW.put hμ e2 ⟨_, hc, by rw [← set_xv]; exact t_OB.to (V := updV (vp_V (fs.map (xv ad))) k (xv ad v)) ⟨_, e1, q2, q3, t_set q4 hap hk (xv ad v)⟩ (fun j _ => vp_updV_set (by rw [List.length_map]; exact hlen) (xv ad v) j)⟩ e3 (mem_set_ok hok (oks_h hs))
  have hsb := up_sb μ a (.inr (ci, fs.set k v))
  exact kk p l e R s m args below meth c Q ad H' _ cells slots sl F hW' (hS.put e2 e3 hge) hR (fun q hq => hsb.okv (hl q hq)) (fun q hq => hsb.okv (hs q (List.mem_cons_of_mem _ (List.mem_cons_of_mem _ hq)))) hsl h1 h2 (hE.to Ag.refl hsb (Nat.le_refl _) (Nat.le_refl _))
theorem v_putF {idx ci k a : Nat} {ty : FieldType} {fs : List Value} {v : Value} (hF : FP M.1.cls idx ci k true ty) (hm : M.1.name = "<init>") (hd : decode M.2.1 pc = .ok (.putfield idx, 3)) (hμ : μ a = some (.inr (ci, fs))) (hlen : k < fs.length) (hn : narrow ty v = v) (hfit : fits ty v = true) (kk : V G M d mc ms P (pc + 3) ls st (up μ a (.inr (ci, fs.set k v)))) : V G M d mc ms P pc ls (v :: .ref a :: st) μ := by
  intro p l e R s m args below meth c Q ad H locs cells slots sl F hW hS hR hl hs hsl h1 h2 hE
  obtain ⟨C, T, N, ty0, hc, hk, hin, hlk, hty, hnm, hfin, hte, hdecl⟩ := hF
  obtain ⟨f1, f2, f3, f4, f5, f6, f7, f8, f9, f10, f11⟩ := id F
  have hap := va_apart (own := M.1.cls) f8 hin ty0 hty hnm f9.2 hc
  obtain ⟨hat, hok, hge, hlt9⟩ := hW.2.1 a _ hμ
  obtain ⟨r, g1, cell, q1, q2, q3, q4⟩ := id hat
  have hr : r = (C, T, N) := Option.some.inj (g1.symm.trans hc)
  subst hr
  obtain ⟨hSl, hfc, kC, hkC, hkind⟩ := f9.2.1 ci _ hc
  obtain ⟨cf, kf, fi, f, hi, hsl'⟩ := hSl k hk
  have hlay := f8 _ (hin _ (u_in_lay hk))
  unfold u_lay at hlay
  rw [if_pos hfin] at hlay
  have hst := (u_facts hfc hkC (u_lays f8 hin hk) hi).1
  have hcf : m.cls = cf := by
    obtain ⟨_, _, c', _, _, _, -, -, hf', -, -, -, hown2, -⟩ := Cond.laysFinal_spec hlay
    have e1 : c' = cf := by have := hi.symm.trans hf'; simp at this; exact this.1.symm
    rw [hdecl rfl] at hown2
    rw [← e1]; exact Option.some.inj (f5.symm.trans hown2)
  have h6 := u_fits (v := xv ad v) hfc hkC hkind (Or.inr hlay) hi (by rw [hty k hk, hte]) (narrow_xv ad hn) (fits_xv ad hfit)
  refine W.putFinK f1 f2 f5 (f8 _ hlk) hi hst hcf (f7.trans hm) (by rw [q2]; exact h6) q1 q3 (by rw [hsl']; exact k2_hasslot (q4 k hk)) rfl rfl hd fun H' e1 e2 e3 => ?_
  rw [hsl'] at e1 ⊢
  have hW' : Wd G ad (up μ a (.inr (ci, fs.set k v))) H' := hW.put hμ e2 ⟨_, hc, by rw [← set_xv]; exact t_OB.to (V := updV (vp_V (fs.map (xv ad))) k (xv ad v)) ⟨_, e1, q2, q3, t_set q4 hap hk (xv ad v)⟩ (fun j _ => vp_updV_set (by rw [List.length_map]; exact hlen) (xv ad v) j)⟩ e3 (mem_set_ok hok (oks_h hs))
  have hsb := up_sb μ a (.inr (ci, fs.set k v))
  exact kk p l e R s m args below meth c Q ad H' _ cells slots sl F hW' (hS.put e2 e3 hge) hR (fun q hq => hsb.okv (hl q hq)) (fun q hq => hsb.okv (hs q (List.mem_cons_of_mem _ (List.mem_cons_of_mem _ hq)))) hsl h1 h2 (hE.to Ag.refl hsb (Nat.le_refl _) (Nat.le_refl _))
/-! arrays -/
theorem v_iald {a n : Nat} {f : Nat → Int32} {i : Int32} (hd : decode M.2.1 pc = .ok (.iaload, 1)) (hμ : μ a = some (.inl (0, (n, .inl f)))) (hin : vp_in i n) (kk : V G M d mc ms P (pc + 1) ls (.int (f i.toNatClampNeg) :: st) μ) : V G M d mc ms P pc ls (.int i :: .ref a :: st) μ :=
  V.to kk (fun h => oks_c okv_i (oks_t (oks_t h))) (fun F hW _ _ _ w => va_iald F.1 F.2.1 F.2.2.2.2.2.2.2.2.1.2 (va_P1 (hW.mut hμ)) 0 0 rfl rfl hin hd w)
theorem v_lald {a n : Nat} {f : Nat → Int64} {i : Int32} (hd : decode M.2.1 pc = .ok (.laload, 1)) (hμ : μ a = some (.inl (1, (n, .inr (.inl f))))) (hin : vp_in i n) (kk : V G M d mc ms P (pc + 1) ls (.long (f i.toNatClampNeg) :: st) μ) : V G M d mc ms P pc ls (.int i :: .ref a :: st) μ :=
  V.to kk (fun h => oks_c okv_l (oks_t (oks_t h))) (fun F hW _ _ _ w => va_lald F.1 F.2.1 F.2.2.2.2.2.2.2.2.1.2 (va_P1 (hW.mut hμ)) 0 1 rfl rfl hin hd w)
theorem v_fald {a n : Nat} {f : Nat → UInt32} {i : Int32} (hd : decode M.2.1 pc = .ok (.faload, 1)) (hμ : μ a = some (.inl (2, (n, .inr (.inr (.inl f)))))) (hin : vp_in i n) (kk : V G M d mc ms P (pc + 1) ls (.float (f i.toNatClampNeg) :: st) μ) : V G M d mc ms P pc ls (.int i :: .ref a :: st) μ :=
  V.to kk (fun h => oks_c okv_f (oks_t (oks_t h))) (fun F hW _ _ _ w => va_fald F.1 F.2.1 F.2.2.2.2.2.2.2.2.1.2 (va_P1 (hW.mut hμ)) 0 2 rfl rfl hin hd w)
theorem v_bald {a n : Nat} {f : Nat → Int32} {i : Int32} (hd : decode M.2.1 pc = .ok (.baload, 1)) (hμ : μ a = some (.inl (3, (n, .inl f)))) (hin : vp_in i n) (kk : V G M d mc ms P (pc + 1) ls (.int (f i.toNatClampNeg) :: st) μ) : V G M d mc ms P pc ls (.int i :: .ref a :: st) μ :=
  V.to kk (fun h => oks_c okv_i (oks_t (oks_t h))) (fun F hW _ _ _ w => va_bald F.1 F.2.1 F.2.2.2.2.2.2.2.2.1.2 (va_P1 (hW.mut hμ)) 0 3 rfl rfl hin hd w)
theorem v_aald {a n b t : Nat} {ty : FieldType} {f : Nat → Option Nat} {i : Int32} (hd : decode M.2.1 pc = .ok (.aaload, 1)) (hμ : μ a = some (.inl (t, (n, .inr (.inr (.inr (.inr f))))))) (ht : (tysOf G)[t]? = some (cA G t, ty)) (hty : ty.isReference = true) (hin : vp_in i n) (hf : f i.toNatClampNeg = some b) (kk : V G M d mc ms P (pc + 1) ls (.ref b :: st) μ) : V G M d mc ms P pc ls (.int i :: .ref a :: st) μ := by
  intro p l e R s m args below meth c Q ad H locs cells slots sl F hW hS hR hl hs hsl h1 h2 hE
  have hlt : i.toNatClampNeg < n := Nat.not_le.mp fun q => hin (Or.inr q)
  have hb : okv μ (.ref b) := fun k e => by cases e; exact (hW.2.1 a _ hμ).2.1 _ _ hf
  refine W.aald (v := .ref (ad b)) (ty := ty) F.1 F.2.1 (hW.mut hμ) ((F.2.2.2.2.2.2.2.2.1.2.2 t _ ht).1 n (fun j => va_rf ((f j).map ad))) hty (fun q => by cases q) (by show ¬ (i < 0 ∨ (arrV _ _ _).slots.size ≤ _); rw [arrV_size]; exact hin) (by show (arrV (cA G t) n (fun j => va_rf ((f j).map ad))).slots[_]? = _; rw [arrV_read _ _ hlt, hf]; rfl) rfl rfl hd ?_
  exact kk p l e R s m args below meth c Q ad H locs cells slots sl F hW hS hR hl (oks_c hb (oks_t (oks_t hs))) hsl h1 h2 hE
theorem v_alen {a t : Nat} {ty : FieldType} {x : vp_A} {v : Int32} (hd : decode M.2.1 pc = .ok (.arraylength, 1)) (hμ : μ a = some (.inl (t, x))) (ht : (tysOf G)[t]? = some (cA G t, ty)) (hv : Int32.ofNat x.1 = v) (kk : V G M d mc ms P (pc + 1) ls (.int v :: st) μ) : V G M d mc ms P pc ls (.ref a :: st) μ :=
  V.to kk (fun h => oks_c okv_i (oks_t h)) (fun {_} {_} {_} {_} {_} {_} {_} {_} {_} {_} {_} {ad} {_} {_} {_} {_} {_} F hW _ _ _ w => va_alen F.1 F.2.1 F.2.2.2.2.2.2.2.2.1.2 (va_P1 (hW.mut hμ)) 0 t rfl ht (by rw [← hv]; obtain ⟨n, f | f | f | f | f⟩ := x <;> rfl) hd w)
/-- the end of a row that writes cell a -/
theorem v_after {p : Program} {l : Launch} {e : Env} {R : Room} {s : State} {m : MethodId} {args : Array Value} {below : List Frame} {meth : Method} {c : Code} {Q : State → Prop} {ad : Nat → Nat} {H H1 : Heap} {locs : List Loc} {cells slots : Nat} {sl : Array Slot} {a k : Nat} {e0 e1 : va_E} {pc' : Nat} {s0 : List Value}
    (F : Fr G M d p R s m args meth c) (hW : Wd G ad μ H) (hS : va_S (cS G) s.heap H locs) (hR : Ro G ad s s.heap) (hl : okl μ ls) (hs : oks μ s0) (hsl : lv_has sl M.2.2.1 (xl ad ls)) (h1 : cells + mc ≤ R.cells) (h2 : slots + ms ≤ R.slots) (hE : En G M p l e R s m args below meth c Q ad μ (cells + mc) (slots + ms) P)
    (kk : V G M d mc ms P pc' ls s0 (up μ a e1)) (hμ : μ a = some e0) (hz : H1.size = H.size) (oq : ∀ q : Nat, q ≠ ad a → H1[q]? = H[q]?) (hok : oke μ e1) (hat : va_at (cD G) vwCl (ad a, xe G ad e1) H1) : W p l e R s m args below meth c H1 (locs ++ [⟨ad a, k⟩]) cells slots Q (F0 m pc' sl (s0.map (xv ad))) := by
  have hsb := up_sb μ a e1
  exact kk p l e R s m args below meth c Q ad H1 _ cells slots sl F (hW.put hμ hz hat oq hok) (hS.put hz oq (hW.2.1 a _ hμ).2.2.1) hR (fun q hq => hsb.okv (hl q hq)) (fun q hq => hsb.okv (hs q hq)) hsl h1 h2 (hE.to Ag.refl hsb (Nat.le_refl _) (Nat.le_refl _))
theorem v_iast {a n : Nat} {f : Nat → Int32} {i x : Int32} (hd : decode M.2.1 pc = .ok (.iastore, 1)) (hμ : μ a = some (.inl (0, (n, .inl f)))) (hin : vp_in i n) (kk : V G M d mc ms P (pc + 1) ls st (up μ a (.inl (0, (n, .inl (upd f i.toNatClampNeg x)))))) : V G M d mc ms P pc ls (.int x :: .int i :: .ref a :: st) μ := by
  intro p l e R s m args below meth c Q ad H locs cells slots sl F hW hS hR hl hs hsl h1 h2 hE
  refine W.iast F.1 F.2.1 (hW.mut hμ) ((F.2.2.2.2.2.2.2.2.1.2.2 0 _ rfl).1 n (fun j => .int (f j))) (fun q => by cases q) (by show ¬ (i < 0 ∨ (arrV _ _ _).slots.size ≤ _); rw [arrV_size]; exact hin) rfl rfl hd fun H1 e z oq => ?_
  refine v_after F hW hS hR hl (oks_t (oks_t (oks_t hs))) hsl h1 h2 hE kk hμ z oq trivial ?_
  show H1[ad a]? = some (vp_cell _ (n, .inl (upd f i.toNatClampNeg x)))
  rw [e]
  show some ((vp_cell (cA G 0) (n, .inl f)).setSlot _ _) = _
  rw [vp_cell_i, vp_cell_i, arrV_store]
  congr 2
  funext q
  by_cases hq : q = i.toNatClampNeg
  · subst hq; simp [updV, upd]
  · simp [updV, upd, hq]
theorem v_last {a n : Nat} {f : Nat → Int64} {i : Int32} {x : Int64} (hd : decode M.2.1 pc = .ok (.lastore, 1)) (hμ : μ a = some (.inl (1, (n, .inr (.inl f))))) (hin : vp_in i n) (kk : V G M d mc ms P (pc + 1) ls st (up μ a (.inl (1, (n, .inr (.inl (vp_updL f i.toNatClampNeg x))))))) : V G M d mc ms P pc ls (.long x :: .int i :: .ref a :: st) μ := by
  intro p l e R s m args below meth c Q ad H locs cells slots sl F hW hS hR hl hs hsl h1 h2 hE
  refine W.last F.1 F.2.1 (hW.mut hμ) ((F.2.2.2.2.2.2.2.2.1.2.2 1 _ rfl).1 n (fun j => .long (f j))) (fun q => by cases q) (by show ¬ (i < 0 ∨ (arrV _ _ _).slots.size ≤ _); rw [arrV_size]; exact hin) rfl rfl hd fun H1 e z oq => ?_
  refine v_after F hW hS hR hl (oks_t (oks_t (oks_t hs))) hsl h1 h2 hE kk hμ z oq trivial ?_
  show H1[ad a]? = some (vp_cell _ (n, .inr (.inl (vp_updL f i.toNatClampNeg x))))
  rw [e]
  show some ((vp_cell (cA G 1) (n, .inr (.inl f))).setSlot _ _) = _
  rw [vp_cell_l, vp_cell_l, arrV_store]
  congr 2
  funext q
  by_cases hq : q = i.toNatClampNeg
  · subst hq; simp [updV, vp_updL]
  · simp [updV, vp_updL, hq]
theorem v_fast {a n : Nat} {f : Nat → UInt32} {i : Int32} {x : UInt32} (hd : decode M.2.1 pc = .ok (.fastore, 1)) (hμ : μ a = some (.inl (2, (n, .inr (.inr (.inl f)))))) (hin : vp_in i n) (kk : V G M d mc ms P (pc + 1) ls st (up μ a (.inl (2, (n, .inr (.inr (.inl (vf_upd f i.toNatClampNeg x)))))))) : V G M d mc ms P pc ls (.float x :: .int i :: .ref a :: st) μ := by
  intro p l e R s m args below meth c Q ad H locs cells slots sl F hW hS hR hl hs hsl h1 h2 hE
  refine W.fast F.1 F.2.1 (hW.mut hμ) ((F.2.2.2.2.2.2.2.2.1.2.2 2 _ rfl).1 n (fun j => .float (f j))) (fun q => by cases q) (by show ¬ (i < 0 ∨ (arrV _ _ _).slots.size ≤ _); rw [arrV_size]; exact hin) rfl rfl hd fun H1 e z oq => ?_
  refine v_after F hW hS hR hl (oks_t (oks_t (oks_t hs))) hsl h1 h2 hE kk hμ z oq trivial ?_
  show H1[ad a]? = some (vp_cell _ (n, .inr (.inr (.inl (vf_upd f i.toNatClampNeg x)))))
  rw [e]
  show some ((vp_cell (cA G 2) (n, .inr (.inr (.inl f)))).setSlot _ _) = _
  rw [vp_cell_f, vp_cell_f, arrV_store]
  congr 2
  funext q
  by_cases hq : q = i.toNatClampNeg
  · subst hq; simp [updV, vf_upd]
  · simp [updV, vf_upd, hq]
end HROWS
/-! ===== contracts ===== -/
def PcOf (G : Cx) (ad : Nat → Nat) (avs : List Value) (μ : Hp) : Array Value → State → Prop := fun a U => a = (avs.map (xv ad)).toArray ∧ Wd G ad μ U.heap ∧ Tb G U ∧ Ro G ad U U.heap
def QcOf (G : Cx) (ad : Nat → Nat) (μ : Hp) (P : Option Value → Hp → Prop) : Array Value → State → Outcome → State → Prop := fun _ st oc t => ∃ (r : Option Value) (μ' : Hp) (ad' : Nat → Nat), oc = .returned (r.map (xv ad')) ∧ P r μ' ∧ Wd G ad' μ' t.heap ∧ Ag μ ad ad' ∧ Sb μ μ' ∧ (∀ v, r = some v → okv μ' v) ∧ va_F (cS G) st t
def rmOf (d mc ms : Nat) : Room := { frames := d, cells := mc, slots := ms, locals := 60 * d }
abbrev wsOf (M : MD) : List Cond := Cond.code M.1 M.2.1 M.2.2.1 M.2.2.2 :: gw
/-- calling M with avs over the cells μ: it returns, P of the answer and the cells then; calls go at most d deep, mc cells of ms slots are made -/
def Ct (G : Cx) (d mc ms : Nat) (M : MD) (avs : List Value) (μ : Hp) (P : Option Value → Hp → Prop) : Prop := ∀ (l : Launch) (ad : Nat → Nat), oks μ avs → Met l M.1 (wsOf M) (rmOf d mc ms) (PcOf G ad avs μ) (QcOf G ad μ P) mc ms (cS G)
theorem lg_sl_x (ad : Nat → Nat) : ∀ vs : List Value, (lg_sl (vs.map (xv ad))).length = (lg_sl vs).length
  | [] => rfl
  | v :: vs => by
    have ih := lg_sl_x ad vs
    cases v <;> simp_all [lg_sl, xv, Value.category]
theorem lv_args_x (ad : Nat → Nat) : ∀ (vs : List Value) (i : Nat), lv_args i (vs.map (xv ad)) = xl ad (lv_args i vs)
  | [], _ => rfl
  | v :: vs, i => by
    show (i, xv ad v) :: lv_args _ _ = (i, xv ad v) :: xl ad _
    rw [xv_cat, lv_args_x ad vs]
theorem lv_args_ok {μ : Hp} : ∀ (vs : List Value) (i : Nat), oks μ vs → okl μ (lv_args i vs)
  | [], _, _ => fun q hq => by cases hq
  | v :: vs, i, h => fun q hq => by
    rcases List.mem_cons.mp hq with rfl | hq
    · exact h v List.mem_cons_self
    · exact lv_args_ok vs _ (oks_t h) q hq
theorem Ct.ofV {G : Cx} {d mc ms : Nat} {M : MD} {avs : List Value} {μ : Hp} {P : Option Value → Hp → Prop} (hy : plainName M.1.cls = true) (hl : (lg_sl avs).length ≤ M.2.2.1) (k : V G M d mc ms P 0 (lv_args 0 avs) [] μ) : Ct G d mc ms M avs μ P := by
  intro l ad hok
  refine Met.ofW (cc := M.2.1) (maxL := M.2.2.1) (ret := M.2.2.2) hy rfl ?_
  intro p e s m args below meth c s₁ B hml hv
  obtain ⟨rfl, hW, hT, hR⟩ := hv
  have hts := atoms_spec (ws := wsOf M) B.pre
  have hle := lv_entry (avs.map (xv ad)) (n := M.2.2.1) (by rw [lg_sl_x]; exact hl)
  rw [lg_entry_eq]
  generalize (lg_sl (avs.map (xv ad)) ++ List.replicate (M.2.2.1 - (lg_sl (avs.map (xv ad))).length) Slot.unset).toArray = sl at hle ⊢
  rw [lv_args_x] at hle
  refine k p l e (headSpec (wsOf M) (rmOf d mc ms)).room s m _ below meth c _ ad s.heap [] 0 0 sl ⟨B.exec, B.bytes, hml, B.returns, findClass_of_methodNamed B.named, B.notSynchronized, (name_of_methodNamed B.named B.method).1, fun w hw => hts w (List.mem_cons_of_mem _ hw), hT, Nat.le_refl d, Nat.le_refl (60 * d)⟩ hW va_S.rf hR (lv_args_ok avs 0 hok) (fun v hv => by cases hv) hle (by rw [Nat.zero_add]; exact Nat.le_refl mc) (by rw [Nat.zero_add]; exact Nat.le_refl ms) ?_
  intro r μ' ad' H' locs' cells' slots' pc' sl' hP hW' hag hsb hok' hS' hc hs hret
  have hlocks := B.notSynchronized
  refine W.widen (k := mc) (n := ms) (by omega) (by omega) ?_
  have hq : ∀ (v : Option Value), r.map (xv ad') = v → ∀ t : State, t.heap = H' → s.WarmedH t.vm → QcOf G ad μ P (avs.map (xv ad)).toArray s (.returned v) t := fun v hv t ht _ => ⟨r, μ', ad', by rw [hv], hP, by rw [ht]; exact hW', hag, hsb, hok', hS'.F ht⟩
  have hr := B.returns
  match r, hret with
  | none, hret => exact W.vret B.exec B.bytes (hr.trans hret.2) (hq none rfl) hS'.2.2 hret.1
  | some (.int v), ⟨h1, t, h2, h3⟩ => exact W.zret B.exec B.bytes (hr.trans h2) h3 (hq _ rfl) hS'.2.2 h1
  | some (.long v), hret => exact W.lret B.exec B.bytes (hr.trans hret.2) (hq _ rfl) hS'.2.2 hret.1
  | some (.float v), hret => exact W.fret B.exec B.bytes (hr.trans hret.2) (hq _ rfl) hS'.2.2 hret.1
  | some (.double v), hret => exact W.dret B.exec B.bytes (hr.trans hret.2) (hq _ rfl) hS'.2.2 hret.1
  | some .null, ⟨h1, t, h2, h3⟩ => exact W.aret B.exec B.bytes (hr.trans h2) h3 (Or.inl rfl) (hq _ rfl) hS'.2.2 h1
  | some (.ref a), ⟨h1, t, h2, h3⟩ => exact W.aret B.exec B.bytes (hr.trans h2) h3 (Or.inr ⟨_, rfl⟩) (hq _ rfl) hS'.2.2 h1
  | some (.retAddr a), hret => exact hret.elim
theorem Ct.post {G : Cx} {d mc ms : Nat} {M : MD} {avs : List Value} {μ : Hp} {P P' : Option Value → Hp → Prop} (h : Ct G d mc ms M avs μ P') (hp : ∀ r μ', P' r μ' → P r μ') : Ct G d mc ms M avs μ P := by
  intro l ad hok
  have h1 := h l ad hok
  intro p e a1 a2 a3 s m args below a4 a5 a6 a7
  obtain ⟨t, o, b1, b2, b3, ⟨⟨r, μ', ad', q1, q2, q3⟩, q4⟩⟩ := h1 p e a1 a2 a3 s m args below a4 a5 a6 a7
  exact ⟨t, o, b1, b2, b3, ⟨r, μ', ad', q1, hp _ _ q2, q3⟩, q4⟩
theorem good_gw {M : MD} (h : Cond.code M.1 M.2.1 M.2.2.1 M.2.2.2 ∈ gw) : GoodIn gw (wsOf M) := fun w hw => by
  have h1 : w ∈ gw := by
    rcases List.mem_cons.mp hw with rfl | hw
    · exact h
    · exact hw
  exact ⟨h1, good_of_word (List.mem_filter.mp h1).2⟩
theorem pc_blind {G : Cx} {ad : Nat → Nat} {avs : List Value} {μ : Hp} : FrameBlind (PcOf G ad avs μ) := fun a U g mk q => ⟨q.1, q.2.1, Tb.same (u := U) rfl q.2.2.1, Ro.same (u := U) rfl q.2.2.2⟩
theorem pc_at {G : Cx} {ad : Nat → Nat} {avs : List Value} {μ : Hp} {s : State} {H : Heap} {locs : List Loc} (hW : Wd G ad μ H) (hS : va_S (cS G) s.heap H locs) (hT : Tb G s) (hR : Ro G ad s s.heap) (U : State) (hU : U.heap = H) (hw : s.WarmedH U.vm) : PcOf G ad avs μ (avs.map (xv ad)).toArray U :=
  ⟨rfl, by rw [hU]; exact hW, hT.warm hw, by rw [hU]; exact (hR.kept (fun a h1 h2 => hS.2.1 a h1 h2)).warm hw⟩
section CROWS
variable {G : Cx} {M M' : MD} {d mc ms mc' ms' : Nat} {P P' : Option Value → Hp → Prop} {pc : Nat} {ls : List (Nat × Value)} {st st0 : List Value} {μ : Hp} {avs : List Value} {idx n : Nat}
theorem v_cont {p : Program} {l : Launch} {e : Env} {R : Room} {s : State} {m : MethodId} {args : Array Value} {below : List Frame} {meth : Method} {c : Code} {Q : State → Prop} {ad : Nat → Nat} {H : Heap} {locs : List Loc} {cells slots : Nat} {sl : Array Slot} {a : Array Value} {g0 : List Value}
    (hr : va_Run p l e R s m args below meth c H locs cells slots mc' ms' (F0 m pc sl g0) (st.map (xv ad)) (QcOf G ad μ P' a) (cS G))
    (F : Fr G M d p R s m args meth c) (hS : va_S (cS G) s.heap H locs) (hR : Ro G ad s s.heap) (hl : okl μ ls) (hs : oks μ st) (hsl : lv_has sl M.2.2.1 (xl ad ls)) (h1 : cells + (mc + mc') ≤ R.cells) (h2 : slots + (ms + ms') ≤ R.slots) (hE : En G M p l e R s m args below meth c Q ad μ (cells + (mc + mc')) (slots + (ms + ms')) P)
    (kk : ∀ r μ', P' r μ' → V G M d mc ms P (pc + 3) ls (r.toList ++ st) μ') : W p l e R s m args below meth c H locs cells slots Q (F0 m pc sl g0) := by
  intro T hT X
  obtain ⟨v, st₀, t, T', L, h0, X', hL, e1, e2, ⟨r, μ', ad', hv, hP', hW', hag, hsb, hok', hz, hk⟩, go⟩ := hr T hT X
  obtain rfl : v = r.map (xv ad') := Outcome.returned.inj hv
  rw [h0] at hz hk
  rw [← e1] at hz hk hW'
  have hS' : va_S (cS G) s.heap T'.heap (locs ++ L) := ⟨Nat.le_trans hS.1 hz, fun q a1 a2 => (hk q (Nat.lt_of_lt_of_le a1 hS.1) a2).trans (hS.2.1 q a1 a2), fun q hq => by
    rcases List.mem_append.mp hq with h | h
    · exact hS.2.2 q h
    · exact hL q h⟩
  have hxs : (st.map (xv ad')) = st.map (xv ad) := xvs_ag hs hag
  have hst : (r.toList ++ st).map (xv ad') = (r.map (xv ad')).toList ++ st.map (xv ad) := by
    rw [List.map_append, hxs]
    cases r <;> rfl
  have hxl : xl ad' ls = xl ad ls := List.map_congr_left fun q hq => by rw [xv_ag (hl q hq) hag]
  obtain ⟨t2, a1, b1⟩ := kk r μ' hP' p l e R s m args below meth c Q ad' T'.heap (locs ++ L) (cells + mc') (slots + ms') sl F hW' hS' (hR.ad (fun k hk => hag k (Or.inr hk))) (fun q hq => hsb.okv (hl q hq)) (fun q hq => by
    rcases List.mem_append.mp hq with h | h
    · cases r with
      | none => cases h
      | some u => rw [List.mem_singleton.mp h]; exact hok' u rfl
    · exact hsb.okv (hs q h)) (by rw [hxl]; exact hsl) (by omega) (by omega) (hE.to hag hsb (by omega) (by omega)) T' rfl X'
  refine ⟨t2, go t2 ?_, b1⟩
  rw [hst] at a1
  exact a1
/-- words of a call of a method of ours -/
def CB (M' : MD) (n : Nat) : Prop := Cond.initialized M'.1.cls ∈ gw ∧ Cond.code M'.1 M'.2.1 M'.2.2.1 M'.2.2.2 ∈ gw ∧ (M'.1.cls ≠ "java/lang/invoke/MethodHandle" ∧ M'.1.cls ≠ "java/lang/invoke/VarHandle" ∧ (parseMethodDescriptor M'.1.desc).map (fun d => d.parameters.length) = some n) ∧ M'.2.2.1 ≤ 41
theorem rev_x (ad : Nat → Nat) (avs st : List Value) : (avs.reverse ++ st).map (xv ad) = (avs.map (xv ad)).reverse ++ st.map (xv ad) := by rw [List.map_append, List.map_reverse]
theorem cat_x (ad : Nat → Nat) (st : List Value) (h : (st.map fun v => v.category).sum ≤ 8) : ((st.map (xv ad)).map fun v => v.category).sum ≤ 8 := by
  rw [List.map_map, show ((fun v => v.category) ∘ xv ad) = (fun v : Value => v.category) from funext fun v => xv_cat ad v]
  exact h
theorem cb_of {p : Program} {R : Room} {s : State} {m : MethodId} {args : Array Value} {meth : Method} {c : Code} (F : Fr G M (d + 1) p R s m args meth c) (hB : CB M' n) (hlk : Cond.methodLink M.1.cls idx M'.1 ∈ gw) : CallB R s args M.1.cls idx M'.1 M'.2.1 M'.2.2.1 M'.2.2.2 (wsOf M') (rmOf d mc' ms') mc' ms' n := by
  obtain ⟨f1, f2, f3, f4, f5, f6, f7, f8, f9, f10, f11⟩ := F
  exact callB_of n f8 (good_gw hB.2.1) rfl rfl rfl (f8 _ hB.1) (f8 _ hlk) hB.2.2.1 ⟨f10, by have := hB.2.2.2; show 8 + (M'.2.2.1 + 11) + 60 * d ≤ R.locals; omega⟩
theorem cn_of {host : String} {p : Program} {R : Room} {s : State} {m : MethodId} {args : Array Value} {meth : Method} {c : Code} (F : Fr G M (d + 1) p R s m args meth c) (hB : CB M' n) (hlk : Cond.methodLinkNest M.1.cls idx M'.1 host ∈ nw) : va_CN R s args M.1.cls idx M'.1 host M'.2.1 M'.2.2.1 M'.2.2.2 (wsOf M') (rmOf d mc' ms') mc' ms' n := by
  obtain ⟨f1, f2, f3, f4, f5, f6, f7, f8, f9, f10, f11⟩ := F
  exact va_cnB n f8 (good_gw hB.2.1) rfl rfl rfl (f9.1 _ hlk) (f8 _ hB.1) hB.2.2.1 ⟨f10, by have := hB.2.2.2; show 8 + (M'.2.2.1 + 11) + 60 * d ≤ R.locals; omega⟩
def CS (own : String) (idx : Nat) (M' : MD) (n : Nat) : Prop := CB M' n ∧ Cond.methodLink own idx M'.1 ∈ gw ∧ Cond.static M'.1 ∈ gw
theorem v_callS (hC : Ct G d mc' ms' M' avs μ P') (hw : CS M.1.cls idx M' n) (hd : decode M.2.1 pc = .ok (.invokestatic idx, 3)) (hn : avs.length = n) (hst : st0 = avs.reverse ++ st) (h8 : (st.map fun v => v.category).sum ≤ 8)
    (kk : ∀ r μ', P' r μ' → V G M (d + 1) mc ms P (pc + 3) ls (r.toList ++ st) μ') : V G M (d + 1) (mc + mc') (ms + ms') P pc ls st0 μ := by
  subst hst
  intro p l e R s m args below meth c Q ad H locs cells slots sl F hW hS hR hl hs hsl h1 h2 hE
  have ha : oks μ avs := fun v hv => hs v (List.mem_append_left _ (List.mem_reverse.mpr hv))
  have hr : oks μ st := fun v hv => hs v (List.mem_append_right _ hv)
  rw [rev_x]
  exact v_cont (va_runS (As := avs.map (xv ad)) (rest := st.map (xv ad)) ⟨F.1, F.2.1, F.2.2.1, F.2.2.2.2.1, F.2.2.2.2.2.2.2.1⟩ (hC l ad ha) ⟨cb_of F hw.1 hw.2.1, F.2.2.2.2.2.2.2.1 _ hw.2.2⟩ ⟨pc_blind, pc_at hW hS F.2.2.2.2.2.2.2.2.1 hR⟩ rfl (by rw [List.length_map]; exact hn) hsl.1 rfl (lv_room (cat_x ad st h8)) hd ⟨by omega, by omega⟩) F hS hR hl hr hsl h1 h2 hE kk
def CSN (own : String) (idx : Nat) (M' : MD) (n : Nat) (host : String) : Prop := CB M' n ∧ Cond.methodLinkNest own idx M'.1 host ∈ nw ∧ Cond.static M'.1 ∈ gw
theorem v_callSN {host : String} (hC : Ct G d mc' ms' M' avs μ P') (hw : CSN M.1.cls idx M' n host) (hd : decode M.2.1 pc = .ok (.invokestatic idx, 3)) (hn : avs.length = n) (hst : st0 = avs.reverse ++ st) (h8 : (st.map fun v => v.category).sum ≤ 8)
    (kk : ∀ r μ', P' r μ' → V G M (d + 1) mc ms P (pc + 3) ls (r.toList ++ st) μ') : V G M (d + 1) (mc + mc') (ms + ms') P pc ls st0 μ := by
  subst hst
  intro p l e R s m args below meth c Q ad H locs cells slots sl F hW hS hR hl hs hsl h1 h2 hE
  have ha : oks μ avs := fun v hv => hs v (List.mem_append_left _ (List.mem_reverse.mpr hv))
  have hr : oks μ st := fun v hv => hs v (List.mem_append_right _ hv)
  rw [rev_x]
  exact v_cont (va_runSN (As := avs.map (xv ad)) (rest := st.map (xv ad)) ⟨F.1, F.2.1, F.2.2.1, F.2.2.2.2.1, F.2.2.2.2.2.2.2.1⟩ (hC l ad ha) ⟨cn_of F hw.1 hw.2.1, F.2.2.2.2.2.2.2.1 _ hw.2.2, trivial⟩ ⟨pc_blind, pc_at hW hS F.2.2.2.2.2.2.2.2.1 hR⟩ rfl (by rw [List.length_map]; exact hn) hsl.1 rfl (lv_room (cat_x ad st h8)) hd ⟨by omega, by omega⟩) F hS hR hl hr hsl h1 h2 hE kk
/-- a receiver of class ci -/
theorem recv_cl {p : Program} {R : Room} {s : State} {m : MethodId} {args : Array Value} {meth : Method} {c : Code} {ad : Nat → Nat} {H : Heap} {b ci : Nat} {fs : List Value} {q : vw_C} (F : Fr G M d p R s m args meth c) (hW : Wd G ad μ H) (hμ : μ b = some (.inr (ci, fs))) (hc : vwCl[ci]? = some q) : ∃ cell : Cell, H[ad b]? = some cell ∧ cell.vm.isStatics = false ∧ s.vm.findClass q.1 = some cell.cls :=
  va_recv (ws := [(ad b, .inr (ci, fs.map (xv ad)))]) (q0 := 0) F.2.2.2.2.2.2.2.2.1.2 (va_P1 (hW.mut hμ)) hc rfl
def CV (own : String) (idx : Nat) (M' : MD) (n ci : Nat) : Prop := CB M' n ∧ Cond.methodLink own idx M'.1 ∈ gw ∧ Cond.instanceMethod M'.1 ∈ gw ∧ Cond.selects M'.1.cls M'.1 M'.1 ∈ gw ∧ ∃ q, vwCl[ci]? = some q ∧ q.1 = M'.1.cls
theorem v_callV {b ci : Nat} {fs : List Value} (hC : Ct G d mc' ms' M' (.ref b :: avs) μ P') (hw : CV M.1.cls idx M' n ci) (hd : decode M.2.1 pc = .ok (.invokevirtual idx, 3)) (hμ : μ b = some (.inr (ci, fs))) (hn : avs.length = n) (hst : st0 = avs.reverse ++ .ref b :: st) (h8 : (st.map fun v => v.category).sum ≤ 8)
    (kk : ∀ r μ', P' r μ' → V G M (d + 1) mc ms P (pc + 3) ls (r.toList ++ st) μ') : V G M (d + 1) (mc + mc') (ms + ms') P pc ls st0 μ := by
  subst hst
  intro p l e R s m args below meth c Q ad H locs cells slots sl F hW hS hR hl hs hsl h1 h2 hE
  have ha : oks μ (.ref b :: avs) := oks_c (hs _ (List.mem_append_right _ List.mem_cons_self)) (fun v hv => hs v (List.mem_append_left _ (List.mem_reverse.mpr hv)))
  have hr : oks μ st := fun v hv => hs v (List.mem_append_right _ (List.mem_cons_of_mem _ hv))
  rw [rev_x]
  obtain ⟨q, hq, hqe⟩ := hw.2.2.2.2
  obtain ⟨cell, w1, w2, w3⟩ := recv_cl F hW hμ hq
  rw [hqe] at w3
  exact v_cont (va_runV (C := M'.1.cls) (b := ad b) (As := avs.map (xv ad)) (rest := st.map (xv ad)) ⟨F.1, F.2.1, F.2.2.1, F.2.2.2.2.1, F.2.2.2.2.2.2.2.1⟩ (hC l ad ha) ⟨cb_of F hw.1 hw.2.1, F.2.2.2.2.2.2.2.1 _ hw.2.2.1, F.2.2.2.2.2.2.2.1 _ hw.2.2.2.1⟩ ⟨pc_blind, ⟨cell, w1, w2, w3⟩, pc_at hW hS F.2.2.2.2.2.2.2.2.1 hR⟩ rfl (by rw [List.length_map]; exact hn) hsl.1 rfl (lv_room (cat_x ad st h8)) hd ⟨by omega, by omega⟩) F hS hR hl hr hsl h1 h2 hE kk
def CI (own : String) (idx : Nat) (M' : MD) (n : Nat) : Prop := CB M' n ∧ Cond.methodLink own idx M'.1 ∈ gw ∧ Cond.instanceMethod M'.1 ∈ gw ∧ M'.1.name = "<init>" ∧ M'.2.2.2 = none
theorem v_callI {b : Nat} (hC : Ct G d mc' ms' M' (.ref b :: avs) μ P') (hw : CI M.1.cls idx M' n) (hd : decode M.2.1 pc = .ok (.invokespecial idx, 3)) (hn : avs.length = n) (hst : st0 = avs.reverse ++ .ref b :: st) (h8 : (st.map fun v => v.category).sum ≤ 8)
    (kk : ∀ r μ', P' r μ' → V G M (d + 1) mc ms P (pc + 3) ls (r.toList ++ st) μ') : V G M (d + 1) (mc + mc') (ms + ms') P pc ls st0 μ := by
  subst hst
  intro p l e R s m args below meth c Q ad H locs cells slots sl F hW hS hR hl hs hsl h1 h2 hE
  have ha : oks μ (.ref b :: avs) := oks_c (hs _ (List.mem_append_right _ List.mem_cons_self)) (fun v hv => hs v (List.mem_append_left _ (List.mem_reverse.mpr hv)))
  have hr : oks μ st := fun v hv => hs v (List.mem_append_right _ (List.mem_cons_of_mem _ hv))
  rw [rev_x]
  have hcb := cb_of (mc' := mc') (ms' := ms') F hw.1 hw.2.1
  rw [hw.2.2.2.2] at hcb
  exact v_cont (va_runI (b := ad b) (As := avs.map (xv ad)) (rest := st.map (xv ad)) ⟨F.1, F.2.1, F.2.2.1, F.2.2.2.2.1, F.2.2.2.2.2.2.2.1⟩ (hC l ad ha) ⟨hcb, hw.2.2.2.1, F.2.2.2.2.2.2.2.1 _ hw.2.2.1⟩ ⟨pc_blind, pc_at hW hS F.2.2.2.2.2.2.2.2.1 hR⟩ rfl (by rw [List.length_map]; exact hn) hsl.1 rfl (lv_room (cat_x ad st h8)) hd ⟨by omega, by omega⟩) F hS hR hl hr hsl h1 h2 hE kk
def CIN (own : String) (idx : Nat) (M' : MD) (n : Nat) (host : String) : Prop := CB M' n ∧ Cond.methodLinkNest own idx M'.1 host ∈ nw ∧ Cond.instanceMethod M'.1 ∈ gw ∧ M'.1.name = "<init>" ∧ M'.2.2.2 = none
theorem v_callIN {b : Nat} {host : String} (hC : Ct G d mc' ms' M' (.ref b :: avs) μ P') (hw : CIN M.1.cls idx M' n host) (hd : decode M.2.1 pc = .ok (.invokespecial idx, 3)) (hn : avs.length = n) (hst : st0 = avs.reverse ++ .ref b :: st) (h8 : (st.map fun v => v.category).sum ≤ 8)
    (kk : ∀ r μ', P' r μ' → V G M (d + 1) mc ms P (pc + 3) ls (r.toList ++ st) μ') : V G M (d + 1) (mc + mc') (ms + ms') P pc ls st0 μ := by
  subst hst
  intro p l e R s m args below meth c Q ad H locs cells slots sl F hW hS hR hl hs hsl h1 h2 hE
  have ha : oks μ (.ref b :: avs) := oks_c (hs _ (List.mem_append_right _ List.mem_cons_self)) (fun v hv => hs v (List.mem_append_left _ (List.mem_reverse.mpr hv)))
  have hr : oks μ st := fun v hv => hs v (List.mem_append_right _ (List.mem_cons_of_mem _ hv))
  rw [rev_x]
  have hcb := cn_of (mc' := mc') (ms' := ms') F hw.1 hw.2.1
  rw [hw.2.2.2.2] at hcb
  exact v_cont (va_runIN (b := ad b) (As := avs.map (xv ad)) (rest := st.map (xv ad)) ⟨F.1, F.2.1, F.2.2.1, F.2.2.2.2.1, F.2.2.2.2.2.2.2.1⟩ (hC l ad ha) ⟨hcb, hw.2.2.2.1, F.2.2.2.2.2.2.2.1 _ hw.2.2.1⟩ ⟨pc_blind, pc_at hW hS F.2.2.2.2.2.2.2.2.1 hR⟩ rfl (by rw [List.length_map]; exact hn) hsl.1 rfl (lv_room (cat_x ad st h8)) hd ⟨by omega, by omega⟩) F hS hR hl hr hsl h1 h2 hE kk
end CROWS
end
section
theorem gwAt {w : Cond} (i : Nat) (h : lw_tbl[i]? = some w) (hg : goodWord w = true) : w ∈ gw := List.mem_filter.mpr ⟨List.mem_of_getElem? h, hg⟩
theorem nwAt {w : Cond} (i : Nat) (h : lw_tbl[i]? = some w) (hg : isNw w = true) : w ∈ nw := List.mem_filter.mpr ⟨List.mem_of_getElem? h, hg⟩
theorem gwAll (ws : List Cond) (ps : List Nat) (h : ws = ps.filterMap (fun i => lw_tbl[i]?)) (hg : ws.all goodWord = true) : ∀ w ∈ ws, w ∈ gw := fun w hw => by
  have h1 := List.all_eq_true.mp hg w hw
  rw [h] at hw
  obtain ⟨i, -, hi⟩ := List.mem_filterMap.mp hw
  exact gwAt i hi h1
abbrev M_X0_init : MD := (yX0_init, cX0_init, 3, none)
abbrev M_X0_takeFrom : MD := (yX0_takeFrom, cX0_takeFrom, 3, none)
abbrev M_X0_has : MD := (yX0_has, cX0_has, 2, (some .boolean))
abbrev M_X0_append : MD := (yX0_append, cX0_append, 2, (some .int))
abbrev M_X0_takeOut : MD := (yX0_takeOut, cX0_takeOut, 3, none)
abbrev M_X0_putIn : MD := (yX0_putIn, cX0_putIn, 4, none)
abbrev M_X0_send : MD := (yX0_send, cX0_send, 5, none)
abbrev M_X0_canGoBack : MD := (yX0_canGoBack, cX0_canGoBack, 3, (some .boolean))
abbrev M_X0_howMany : MD := (yX0_howMany, cX0_howMany, 5, (some .int))
abbrev M_X0_racked : MD := (yX0_racked, cX0_racked, 4, (some .int))
abbrev M_X0_litCells : MD := (yX0_litCells, cX0_litCells, 3, (some .int))
abbrev M_X1_init : MD := (yX1_init, cX1_init, 1, none)
abbrev M_X1_become : MD := (yX1_become, cX1_become, 10, none)
abbrev M_X1_becomeUnit : MD := (yX1_becomeUnit, cX1_becomeUnit, 2, none)
abbrev M_X1_takeFrom : MD := (yX1_takeFrom, cX1_takeFrom, 2, none)
abbrev M_X1_part : MD := (yX1_part, cX1_part, 2, (some .long))
abbrev M_X1_isDark : MD := (yX1_isDark, cX1_isDark, 1, (some .boolean))
abbrev M_X1_isLike : MD := (yX1_isLike, cX1_isLike, 2, (some .boolean))
abbrev M_X1_mayBe : MD := (yX1_mayBe, cX1_mayBe, 1, (some .boolean))
abbrev M_X1_isWithin : MD := (yX1_isWithin, cX1_isWithin, 3, (some .boolean))
abbrev M_X1_sumOfSquares : MD := (yX1_sumOfSquares, cX1_sumOfSquares, 1, (some .long))
abbrev M_X1_compareI : MD := (yX1_compareI, cX1_compareI, 3, (some .int))
abbrev M_X1_lower : MD := (yX1_lower, cX1_lower, 1, none)
abbrev M_X1_shrink : MD := (yX1_shrink, cX1_shrink, 3, none)
abbrev M_X1_firstOver : MD := (yX1_firstOver, cX1_firstOver, 1, (some .int))
abbrev M_X1_isOver : MD := (yX1_isOver, cX1_isOver, 2, (some .boolean))
abbrev M_X1_pass : MD := (yX1_pass, cX1_pass, 3, none)
abbrev M_X1_passGrey : MD := (yX1_passGrey, cX1_passGrey, 3, none)
abbrev M_X1_passSheet : MD := (yX1_passSheet, cX1_passSheet, 17, none)
abbrev M_X1_turnQuarter : MD := (yX1_turnQuarter, cX1_turnQuarter, 2, none)
abbrev M_X2_init : MD := (yX2_init, cX2_init, 2, none)
abbrev M_X2_meetAll : MD := (yX2_meetAll, cX2_meetAll, 3, none)
abbrev M_X2_goOn : MD := (yX2_goOn, cX2_goOn, 7, none)
abbrev M_X3_init : MD := (yX3_init, cX3_init, 1, none)
abbrev M_X3_forget : MD := (yX3_forget, cX3_forget, 1, none)
abbrev M_X3_meet : MD := (yX3_meet, cX3_meet, 4, none)
abbrev M_X3_remember : MD := (yX3_remember, cX3_remember, 3, none)
abbrev M_X3_isSeen : MD := (yX3_isSeen, cX3_isSeen, 4, (some .boolean))
abbrev M_X3_common : MD := (yX3_common, cX3_common, 3, (some .int))
abbrev M_X4_init : MD := (yX4_init, cX4_init, 1, none)
abbrev M_X4_readsText : MD := (yX4_readsText, cX4_readsText, 1, (some .boolean))
abbrev M_X4_next : MD := (yX4_next, cX4_next, 1, (some .int))
abbrev M_X4_takes : MD := (yX4_takes, cX4_takes, 2, (some .boolean))
abbrev M_X4_takeFigure : MD := (yX4_takeFigure, cX4_takeFigure, 3, (some .int))
abbrev M_X4_readsItems : MD := (yX4_readsItems, cX4_readsItems, 2, (some .boolean))
abbrev M_X4_readsItem : MD := (yX4_readsItem, cX4_readsItem, 2, (some .boolean))
abbrev M_X4_readsGroup : MD := (yX4_readsGroup, cX4_readsGroup, 3, (some .boolean))
abbrev M_X4_repeat : MD := (yX4_repeat, cX4_repeat, 4, none)
abbrev M_X4_keep : MD := (yX4_keep, cX4_keep, 2, none)
abbrev M_X4_readsFilter : MD := (yX4_readsFilter, cX4_readsFilter, 4, (some .boolean))
abbrev M_X4_takeNumber : MD := (yX4_takeNumber, cX4_takeNumber, 3, (some .int))
abbrev M_X5_init : MD := (yX5_init, cX5_init, 1, none)
abbrev M_X5_forget : MD := (yX5_forget, cX5_forget, 1, none)
abbrev M_X5_note : MD := (yX5_note, cX5_note, 3, none)
abbrev M_X6_init : MD := (yX6_init, cX6_init, 1, none)
abbrev M_X6_lamp : MD := (yX6_lamp, cX6_lamp, 5, (some .int))
abbrev M_X6_add : MD := (yX6_add, cX6_add, 4, (some .int))
abbrev M_X6_change : MD := (yX6_change, cX6_change, 7, (some .int))
abbrev M_X6_turn : MD := (yX6_turn, cX6_turn, 5, (some .int))
abbrev M_X6_move : MD := (yX6_move, cX6_move, 4, (some .int))
abbrev M_X6_cut : MD := (yX6_cut, cX6_cut, 2, (some .int))
abbrev M_X6_clear : MD := (yX6_clear, cX6_clear, 2, (some .int))
abbrev M_X6_of : MD := (yX6_of, cX6_of, 6, (some .int))
abbrev M_X6_isUnder : MD := (yX6_isUnder, cX6_isUnder, 5, (some .int))
abbrev M_X6_light : MD := (yX6_light, cX6_light, 3, (some .long))
abbrev M_X6_left : MD := (yX6_left, cX6_left, 3, (some .long))
abbrev M_X6_degree : MD := (yX6_degree, cX6_degree, 3, (some .long))
abbrev M_X6_sort : MD := (yX6_sort, cX6_sort, 2, (some .int))
abbrev M_X6_order : MD := (yX6_order, cX6_order, 2, (some .int))
abbrev M_X6_orderLight : MD := (yX6_orderLight, cX6_orderLight, 3, (some .long))
abbrev M_X6_matrix : MD := (yX6_matrix, cX6_matrix, 4, (some .long))
abbrev M_X6_trade : MD := (yX6_trade, cX6_trade, 4, (some .int))
abbrev M_X6_angle : MD := (yX6_angle, cX6_angle, 4, (some .int))
abbrev M_X6_without : MD := (yX6_without, cX6_without, 3, (some .long))
abbrev M_X6_darkens : MD := (yX6_darkens, cX6_darkens, 2, (some .int))
abbrev M_X6_crossed : MD := (yX6_crossed, cX6_crossed, 6, (some .int))
abbrev M_X6_tally : MD := (yX6_tally, cX6_tally, 7, (some .int))
abbrev M_X6_list : MD := (yX6_list, cX6_list, 3, (some .int))
abbrev M_X6_put : MD := (yX6_put, cX6_put, 5, (some .int))
abbrev M_X6_get : MD := (yX6_get, cX6_get, 3, (some .long))
abbrev M_X6_lay : MD := (yX6_lay, cX6_lay, 4, (some .int))
abbrev M_X6_readings : MD := (yX6_readings, cX6_readings, 2, (some .int))
abbrev M_X6_refound : MD := (yX6_refound, cX6_refound, 3, (some .long))
abbrev M_X6_through : MD := (yX6_through, cX6_through, 3, (some .long))
abbrev M_X6_before : MD := (yX6_before, cX6_before, 4, (some .long))
abbrev M_X6_found : MD := (yX6_found, cX6_found, 10, (some .int))
abbrev M_X6_meter : MD := (yX6_meter, cX6_meter, 5, (some .long))
abbrev M_X6_expose : MD := (yX6_expose, cX6_expose, 2, (some .int))
abbrev M_X6_dim : MD := (yX6_dim, cX6_dim, 4, (some .int))
abbrev M_X6_film : MD := (yX6_film, cX6_film, 3, (some .int))
abbrev M_X6_sumFilm : MD := (yX6_sumFilm, cX6_sumFilm, 6, (some .long))
abbrev M_X6_store : MD := (yX6_store, cX6_store, 4, (some .int))
abbrev M_X6_empty : MD := (yX6_empty, cX6_empty, 4, (some .int))
abbrev M_X6_fetch : MD := (yX6_fetch, cX6_fetch, 4, (some .int))
abbrev M_X6_rack : MD := (yX6_rack, cX6_rack, 3, (some .int))
abbrev M_X6_copy : MD := (yX6_copy, cX6_copy, 4, (some .int))
abbrev M_X6_feed : MD := (yX6_feed, cX6_feed, 2, (some .int))
abbrev M_X6_wipe : MD := (yX6_wipe, cX6_wipe, 2, (some .int))
abbrev M_X6_read : MD := (yX6_read, cX6_read, 3, (some .int))
abbrev M_X6_why : MD := (yX6_why, cX6_why, 3, (some .int))
abbrev M_X6_spelled : MD := (yX6_spelled, cX6_spelled, 2, (some .int))
abbrev M_X6_image : MD := (yX6_image, cX6_image, 1, (some .int))
abbrev M_X6_undo : MD := (yX6_undo, cX6_undo, 1, (some .int))
abbrev M_X6_count : MD := (yX6_count, cX6_count, 2, (some .int))
abbrev M_X6_isKind : MD := (yX6_isKind, cX6_isKind, 1, (some .boolean))
abbrev M_X6_isAngle : MD := (yX6_isAngle, cX6_isAngle, 1, (some .boolean))
abbrev M_X6_isFigure : MD := (yX6_isFigure, cX6_isFigure, 1, (some .boolean))
abbrev M_X6_isLightPart : MD := (yX6_isLightPart, cX6_isLightPart, 1, (some .boolean))
abbrev M_X6_isFractionPart : MD := (yX6_isFractionPart, cX6_isFractionPart, 1, (some .boolean))
abbrev M_X6_isList : MD := (yX6_isList, cX6_isList, 1, (some .boolean))
abbrev M_X6_isCell : MD := (yX6_isCell, cX6_isCell, 1, (some .boolean))
abbrev M_X6_isRack : MD := (yX6_isRack, cX6_isRack, 1, (some .boolean))
abbrev M_X6_isRackPlace : MD := (yX6_isRackPlace, cX6_isRackPlace, 1, (some .boolean))
abbrev M_X6_isBehind : MD := (yX6_isBehind, cX6_isBehind, 2, (some .boolean))
abbrev M_X6_codeOf : MD := (yX6_codeOf, cX6_codeOf, 3, (some .int))
abbrev M_X6_kindOf : MD := (yX6_kindOf, cX6_kindOf, 1, (some .int))
abbrev M_X6_angleOf : MD := (yX6_angleOf, cX6_angleOf, 1, (some .int))
abbrev M_X6_figureOf : MD := (yX6_figureOf, cX6_figureOf, 1, (some .int))
abbrev M_X6_withAngle : MD := (yX6_withAngle, cX6_withAngle, 2, (some .int))
abbrev M_X6_isSheetOrPolar : MD := (yX6_isSheetOrPolar, cX6_isSheetOrPolar, 1, (some .boolean))
abbrev M_X6_isPlateOrRotator : MD := (yX6_isPlateOrRotator, cX6_isPlateOrRotator, 1, (some .boolean))
abbrev M_X6_alongOf : MD := (yX6_alongOf, cX6_alongOf, 1, (some .int))
abbrev M_X6_acrossOf : MD := (yX6_acrossOf, cX6_acrossOf, 1, (some .int))
abbrev M_X6_quartersOf : MD := (yX6_quartersOf, cX6_quartersOf, 1, (some .int))
abbrev M_X6_backwards : MD := (yX6_backwards, cX6_backwards, 1, (some .int))
abbrev M_X6_tellsAngle : MD := (yX6_tellsAngle, cX6_tellsAngle, 1, (some .boolean))
abbrev M_X6_tellsFigure : MD := (yX6_tellsFigure, cX6_tellsFigure, 1, (some .boolean))
abbrev M_X6_takesKind : MD := (yX6_takesKind, cX6_takesKind, 2, (some .boolean))
abbrev M_X6_shineBehind : MD := (yX6_shineBehind, cX6_shineBehind, 2, none)
abbrev M_X6_shineOn : MD := (yX6_shineOn, cX6_shineOn, 3, none)
abbrev M_X6_isCrossed : MD := (yX6_isCrossed, cX6_isCrossed, 3, (some .boolean))
abbrev M_X6_leftInBeam : MD := (yX6_leftInBeam, cX6_leftInBeam, 2, (some .long))
abbrev M_X6_squaresAreOver : MD := (yX6_squaresAreOver, cX6_squaresAreOver, 2, (some .boolean))
abbrev M_X6_fraction : MD := (yX6_fraction, cX6_fraction, 7, (some .long))
abbrev M_X6_commonDivisor : MD := (yX6_commonDivisor, cX6_commonDivisor, 11, (some .long))
abbrev M_X6_isMissing : MD := (yX6_isMissing, cX6_isMissing, 2, (some .boolean))
abbrev M_X6_hasListPlace : MD := (yX6_hasListPlace, cX6_hasListPlace, 3, (some .boolean))
abbrev M_X6_makeList : MD := (yX6_makeList, cX6_makeList, 4, none)
abbrev M_X6_tellLight : MD := (yX6_tellLight, cX6_tellLight, 3, (some .boolean))
abbrev M_X6_refind : MD := (yX6_refind, cX6_refind, 5, (some .boolean))
abbrev M_X6_isFrom : MD := (yX6_isFrom, cX6_isFrom, 6, (some .boolean))
abbrev M_X6_measure : MD := (yX6_measure, cX6_measure, 2, (some .double))
abbrev M_X6_doubleBits : MD := (yX6_doubleBits, cX6_doubleBits, 7, (some .long))
abbrev M_X6_floatBits : MD := (yX6_floatBits, cX6_floatBits, 7, (some .int))
abbrev M_X6_rackedCode : MD := (yX6_rackedCode, cX6_rackedCode, 4, (some .int))
abbrev M_X6_spell : MD := (yX6_spell, cX6_spell, 2, none)
abbrev M_X6_spellFilter : MD := (yX6_spellFilter, cX6_spellFilter, 3, none)
abbrev M_X7_init : MD := (yX7_init, cX7_init, 2, none)
abbrev M_X7_in : MD := (yX7_in, cX7_in, 6, (some .boolean))
abbrev M_X7_isFilter : MD := (yX7_isFilter, cX7_isFilter, 2, (some .boolean))
abbrev M_X7_isBehind : MD := (yX7_isBehind, cX7_isBehind, 2, (some .boolean))
abbrev M_X7_codeOf : MD := (yX7_codeOf, cX7_codeOf, 3, (some .int))
abbrev M_X7_kindOf : MD := (yX7_kindOf, cX7_kindOf, 1, (some .int))
abbrev M_X7_angleOf : MD := (yX7_angleOf, cX7_angleOf, 1, (some .int))
abbrev M_X7_figureOf : MD := (yX7_figureOf, cX7_figureOf, 1, (some .int))
abbrev M_X7_mayBe : MD := (yX7_mayBe, cX7_mayBe, 8, (some .boolean))
abbrev M_X7_toLowest : MD := (yX7_toLowest, cX7_toLowest, 1, none)
abbrev M_X7_scales : MD := (yX7_scales, cX7_scales, 6, none)
abbrev M_X7_along : MD := (yX7_along, cX7_along, 1, (some .int))
abbrev M_X7_across : MD := (yX7_across, cX7_across, 1, (some .int))
abbrev M_X7_sheet : MD := (yX7_sheet, cX7_sheet, 15, none)
abbrev M_X7_quarter : MD := (yX7_quarter, cX7_quarter, 8, none)
abbrev M_X7_quarters : MD := (yX7_quarters, cX7_quarters, 4, none)
abbrev M_X7_goes : MD := (yX7_goes, cX7_goes, 3, none)
abbrev M_X7_begins : MD := (yX7_begins, cX7_begins, 2, none)
abbrev M_X7_behind : MD := (yX7_behind, cX7_behind, 3, none)
abbrev M_X7_lamp : MD := (yX7_lamp, cX7_lamp, 5, (some .int))
abbrev M_X7_add : MD := (yX7_add, cX7_add, 4, (some .int))
abbrev M_X7_adds : MD := (yX7_adds, cX7_adds, 2, (some .int))
abbrev M_X7_told : MD := (yX7_told, cX7_told, 2, (some .int))
abbrev M_X7_with : MD := (yX7_with, cX7_with, 3, (some .int))
abbrev M_X7_change : MD := (yX7_change, cX7_change, 5, (some .int))
abbrev M_X7_turn : MD := (yX7_turn, cX7_turn, 4, (some .int))
abbrev M_X7_takesOut : MD := (yX7_takesOut, cX7_takesOut, 3, none)
abbrev M_X7_move : MD := (yX7_move, cX7_move, 5, (some .int))
abbrev M_X7_cut : MD := (yX7_cut, cX7_cut, 2, (some .int))
abbrev M_X7_clear : MD := (yX7_clear, cX7_clear, 2, (some .int))
abbrev M_X7_isUnderKind : MD := (yX7_isUnderKind, cX7_isUnderKind, 2, (some .boolean))
abbrev M_X7_of : MD := (yX7_of, cX7_of, 4, (some .int))
abbrev M_X7_isUnder : MD := (yX7_isUnder, cX7_isUnder, 3, (some .int))
abbrev M_X7_light : MD := (yX7_light, cX7_light, 3, (some .long))
abbrev M_X7_common : MD := (yX7_common, cX7_common, 10, (some .long))
abbrev M_X7_lowest : MD := (yX7_lowest, cX7_lowest, 7, (some .long))
abbrev M_X7_leftNow : MD := (yX7_leftNow, cX7_leftNow, 2, (some .long))
abbrev M_X7_isPart : MD := (yX7_isPart, cX7_isPart, 1, (some .boolean))
abbrev M_X7_left : MD := (yX7_left, cX7_left, 3, (some .long))
abbrev M_X7_findsDegree : MD := (yX7_findsDegree, cX7_findsDegree, 12, (some .boolean))
abbrev M_X7_degree : MD := (yX7_degree, cX7_degree, 3, (some .long))
abbrev M_X7_sort : MD := (yX7_sort, cX7_sort, 3, (some .int))
abbrev M_X7_compared : MD := (yX7_compared, cX7_compared, 12, (some .int))
abbrev M_X7_areAlike : MD := (yX7_areAlike, cX7_areAlike, 6, (some .boolean))
abbrev M_X7_sees : MD := (yX7_sees, cX7_sees, 2, none)
abbrev M_X7_goesOrders : MD := (yX7_goesOrders, cX7_goesOrders, 5, none)
abbrev M_X7_findsOrders : MD := (yX7_findsOrders, cX7_findsOrders, 1, none)
abbrev M_X7_order : MD := (yX7_order, cX7_order, 4, (some .int))
abbrev M_X7_orderLight : MD := (yX7_orderLight, cX7_orderLight, 3, (some .long))
abbrev M_X7_begins1 : MD := (yX7_begins1, cX7_begins1, 3, none)
abbrev M_X7_matrix : MD := (yX7_matrix, cX7_matrix, 8, (some .long))
abbrev M_X7_trade : MD := (yX7_trade, cX7_trade, 4, (some .int))
abbrev M_X7_angle : MD := (yX7_angle, cX7_angle, 7, (some .int))
abbrev M_X7_without : MD := (yX7_without, cX7_without, 4, (some .long))
abbrev M_X7_darkens : MD := (yX7_darkens, cX7_darkens, 2, (some .int))
abbrev M_X7_crossed : MD := (yX7_crossed, cX7_crossed, 6, (some .int))
abbrev M_X7_tally : MD := (yX7_tally, cX7_tally, 9, (some .int))
abbrev M_X7_isList : MD := (yX7_isList, cX7_isList, 1, (some .boolean))
abbrev M_X7_becomes : MD := (yX7_becomes, cX7_becomes, 4, none)
abbrev M_X7_list : MD := (yX7_list, cX7_list, 3, (some .int))
abbrev M_X7_put : MD := (yX7_put, cX7_put, 5, (some .int))
abbrev M_X7_get : MD := (yX7_get, cX7_get, 3, (some .long))
abbrev M_X7_lays : MD := (yX7_lays, cX7_lays, 2, (some .int))
abbrev M_X7_lay : MD := (yX7_lay, cX7_lay, 3, (some .int))
abbrev M_X7_readings : MD := (yX7_readings, cX7_readings, 6, (some .int))
abbrev M_X7_hasFive : MD := (yX7_hasFive, cX7_hasFive, 2, (some .boolean))
abbrev M_X7_refound : MD := (yX7_refound, cX7_refound, 5, (some .long))
abbrev M_X7_tellsLight : MD := (yX7_tellsLight, cX7_tellsLight, 3, (some .boolean))
abbrev M_X7_through : MD := (yX7_through, cX7_through, 4, (some .long))
abbrev M_X7_before : MD := (yX7_before, cX7_before, 5, (some .long))
abbrev M_X7_found : MD := (yX7_found, cX7_found, 10, (some .int))
abbrev M_X7_meterNow : MD := (yX7_meterNow, cX7_meterNow, 1, (some .double))
abbrev M_X7_meterAll : MD := (yX7_meterAll, cX7_meterAll, 1, (some .float))
abbrev M_X7_isCell : MD := (yX7_isCell, cX7_isCell, 1, (some .boolean))
abbrev M_X7_meter : MD := (yX7_meter, cX7_meter, 5, (some .long))
abbrev M_X7_expose : MD := (yX7_expose, cX7_expose, 2, (some .int))
abbrev M_X7_dim : MD := (yX7_dim, cX7_dim, 4, (some .int))
abbrev M_X7_film : MD := (yX7_film, cX7_film, 3, (some .int))
abbrev M_X7_sumFilm : MD := (yX7_sumFilm, cX7_sumFilm, 6, (some .long))
abbrev M_X7_isRack : MD := (yX7_isRack, cX7_isRack, 1, (some .boolean))
abbrev M_X7_isPlace : MD := (yX7_isPlace, cX7_isPlace, 1, (some .boolean))
abbrev M_X7_doesTake : MD := (yX7_doesTake, cX7_doesTake, 3, (some .boolean))
abbrev M_X7_store : MD := (yX7_store, cX7_store, 4, (some .int))
abbrev M_X7_empty : MD := (yX7_empty, cX7_empty, 4, (some .int))
abbrev M_X7_fetch : MD := (yX7_fetch, cX7_fetch, 4, (some .int))
abbrev M_X7_rack : MD := (yX7_rack, cX7_rack, 4, (some .int))
abbrev M_X7_heldIn : MD := (yX7_heldIn, cX7_heldIn, 5, (some .int))
abbrev M_X7_copy : MD := (yX7_copy, cX7_copy, 3, (some .int))
abbrev M_X7_tells : MD := (yX7_tells, cX7_tells, 3, none)
abbrev M_X7_feed : MD := (yX7_feed, cX7_feed, 2, (some .int))
abbrev M_X7_wipe : MD := (yX7_wipe, cX7_wipe, 2, (some .int))
abbrev M_X7_next : MD := (yX7_next, cX7_next, 1, (some .int))
abbrev M_X7_isFigure : MD := (yX7_isFigure, cX7_isFigure, 3, (some .boolean))
abbrev M_X7_faulty : MD := (yX7_faulty, cX7_faulty, 2, none)
abbrev M_X7_figureTold : MD := (yX7_figureTold, cX7_figureTold, 2, (some .int))
abbrev M_X7_angleTold : MD := (yX7_angleTold, cX7_angleTold, 1, (some .int))
abbrev M_X7_filterTold : MD := (yX7_filterTold, cX7_filterTold, 5, (some .int))
abbrev M_X7_textTold : MD := (yX7_textTold, cX7_textTold, 3, (some .int))
abbrev M_X7_itemTold : MD := (yX7_itemTold, cX7_itemTold, 6, (some .int))
abbrev M_X7_read : MD := (yX7_read, cX7_read, 3, (some .int))
abbrev M_X7_why : MD := (yX7_why, cX7_why, 3, (some .int))
abbrev M_X7_spells : MD := (yX7_spells, cX7_spells, 2, none)
abbrev M_X7_spellsNumber : MD := (yX7_spellsNumber, cX7_spellsNumber, 2, none)
abbrev M_X7_letterOf : MD := (yX7_letterOf, cX7_letterOf, 1, (some .int))
abbrev M_X7_spellsAll : MD := (yX7_spellsAll, cX7_spellsAll, 3, none)
abbrev M_X7_spelled : MD := (yX7_spelled, cX7_spelled, 2, (some .int))
abbrev M_X7_image : MD := (yX7_image, cX7_image, 1, (some .int))
abbrev M_X7_undo : MD := (yX7_undo, cX7_undo, 1, (some .int))
abbrev M_X7_count : MD := (yX7_count, cX7_count, 4, (some .int))
abbrev M_J5_init_d00df : MD := (yJ5_init_d00df, cJ5_init_d00df, 2, none)
abbrev M_J5_length_8abf5 : MD := (yJ5_length_8abf5, cJ5_length_8abf5, 1, (some .int))
abbrev M_J5_ensureCapacityInternal_d00df : MD := (yJ5_ensureCapacityInternal_d00df, cJ5_ensureCapacityInternal_d00df, 3, none)
abbrev M_J5_newCapacity_0f7a4 : MD := (yJ5_newCapacity_0f7a4, cJ5_newCapacity_0f7a4, 6, (some .int))
abbrev M_J5_inflate_da8c8 : MD := (yJ5_inflate_da8c8, cJ5_inflate_da8c8, 2, none)
abbrev M_J5_setLength_d00df : MD := (yJ5_setLength_d00df, cJ5_setLength_d00df, 2, none)
abbrev M_J5_charAt_5068e : MD := (yJ5_charAt_5068e, cJ5_charAt_5068e, 5, (some .char))
abbrev M_J5_append_3fe6f : MD := (yJ5_append_3fe6f, cJ5_append_3fe6f, 2, (some (.object "java/lang/AbstractStringBuilder")))
abbrev M_J5_append_c97b9 : MD := (yJ5_append_c97b9, cJ5_append_c97b9, 4, (some (.object "java/lang/AbstractStringBuilder")))
abbrev M_J5_isLatin1_aae02 : MD := (yJ5_isLatin1_aae02, cJ5_isLatin1_aae02, 1, (some .boolean))
abbrev M_J11_isValidCodePoint_9a6ad : MD := (yJ11_isValidCodePoint_9a6ad, cJ11_isValidCodePoint_9a6ad, 2, (some .boolean))
abbrev M_J11_highSurrogate_5068e : MD := (yJ11_highSurrogate_5068e, cJ11_highSurrogate_5068e, 1, (some .char))
abbrev M_J11_lowSurrogate_5068e : MD := (yJ11_lowSurrogate_5068e, cJ11_lowSurrogate_5068e, 1, (some .char))
abbrev M_Jxe99ae_isNaN_b9ae7 : MD := (yJxe99ae_isNaN_b9ae7, cJxe99ae_isNaN_b9ae7, 2, (some .boolean))
abbrev M_Jxe99ae_doubleToLongBits_ccdee : MD := (yJxe99ae_doubleToLongBits_ccdee, cJxe99ae_doubleToLongBits_ccdee, 2, (some .long))
abbrev M_Jxf58ca_isNaN_12338 : MD := (yJxf58ca_isNaN_12338, cJxf58ca_isNaN_12338, 1, (some .boolean))
abbrev M_Jxf58ca_floatToIntBits_5c35a : MD := (yJxf58ca_floatToIntBits_5c35a, cJxf58ca_floatToIntBits_5c35a, 1, (some .int))
abbrev M_J6_getChars_ba4f3 : MD := (yJ6_getChars_ba4f3, cJ6_getChars_ba4f3, 7, (some .int))
abbrev M_J6_stringSize_0f7a4 : MD := (yJ6_stringSize_0f7a4, cJ6_stringSize_0f7a4, 4, (some .int))
abbrev M_J13_compare_74951 : MD := (yJ13_compare_74951, cJ13_compare_74951, 4, (some .int))
abbrev M_J9_floorMod_7cf53 : MD := (yJ9_floorMod_7cf53, cJ9_floorMod_7cf53, 3, (some .int))
abbrev M_J9_abs_067f4 : MD := (yJ9_abs_067f4, cJ9_abs_067f4, 2, (some .long))
abbrev M_J9_max_7cf53 : MD := (yJ9_max_7cf53, cJ9_max_7cf53, 2, (some .int))
abbrev M_J9_min_7cf53 : MD := (yJ9_min_7cf53, cJ9_min_7cf53, 2, (some .int))
abbrev M_J0_length_8abf5 : MD := (yJ0_length_8abf5, cJ0_length_8abf5, 1, (some .int))
abbrev M_J0_charAt_5068e : MD := (yJ0_charAt_5068e, cJ0_charAt_5068e, 2, (some .char))
abbrev M_J0_indexOf_0f7a4 : MD := (yJ0_indexOf_0f7a4, cJ0_indexOf_0f7a4, 2, (some .int))
abbrev M_J0_indexOf_7cf53 : MD := (yJ0_indexOf_7cf53, cJ0_indexOf_7cf53, 3, (some .int))
abbrev M_J0_coder_7d493 : MD := (yJ0_coder_7d493, cJ0_coder_7d493, 1, (some .byte))
abbrev M_J0_isLatin1_aae02 : MD := (yJ0_isLatin1_aae02, cJ0_isLatin1_aae02, 1, (some .boolean))
abbrev M_J0_checkIndex_df160 : MD := (yJ0_checkIndex_df160, cJ0_checkIndex_df160, 2, none)
abbrev M_J0_checkBoundsOffCount_cabcc : MD := (yJ0_checkBoundsOffCount_cabcc, cJ0_checkBoundsOffCount_cabcc, 3, (some .int))
abbrev M_J0_checkBoundsBeginEnd_23922 : MD := (yJ0_checkBoundsBeginEnd_23922, cJ0_checkBoundsBeginEnd_23922, 3, none)
abbrev M_J4_init_da8c8 : MD := (yJ4_init_da8c8, cJ4_init_da8c8, 1, none)
abbrev M_J4_append_cf468 : MD := (yJ4_append_cf468, cJ4_append_cf468, 2, (some (.object "java/lang/StringBuilder")))
abbrev M_J4_append_bf812 : MD := (yJ4_append_bf812, cJ4_append_bf812, 2, (some (.object "java/lang/StringBuilder")))
abbrev M_J4_charAt_5068e : MD := (yJ4_charAt_5068e, cJ4_charAt_5068e, 2, (some .char))
abbrev M_J4_setLength_d00df : MD := (yJ4_setLength_d00df, cJ4_setLength_d00df, 2, none)
abbrev M_J4_length_8abf5 : MD := (yJ4_length_8abf5, cJ4_length_8abf5, 1, (some .int))
abbrev M_J1_charAt_3b067 : MD := (yJ1_charAt_3b067, cJ1_charAt_3b067, 2, (some .char))
abbrev M_J1_canEncode_fc78d : MD := (yJ1_canEncode_fc78d, cJ1_canEncode_fc78d, 1, (some .boolean))
abbrev M_J1_canEncode_9a6ad : MD := (yJ1_canEncode_9a6ad, cJ1_canEncode_9a6ad, 1, (some .boolean))
abbrev M_J1_indexOf_4cfef : MD := (yJ1_indexOf_4cfef, cJ1_indexOf_4cfef, 4, (some .int))
abbrev M_J1_indexOfChar_4cfef : MD := (yJ1_indexOfChar_4cfef, cJ1_indexOfChar_4cfef, 6, (some .int))
abbrev M_J1_fillNull_b72d1 : MD := (yJ1_fillNull_b72d1, cJ1_fillNull_b72d1, 3, none)
abbrev M_J1_inflate_0e8fd : MD := (yJ1_inflate_0e8fd, cJ1_inflate_0e8fd, 5, none)
abbrev M_J2_newBytesFor_77867 : MD := (yJ2_newBytesFor_77867, cJ2_newBytesFor_77867, 1, (some (.array .byte)))
abbrev M_J2_newBytesLength_0f7a4 : MD := (yJ2_newBytesLength_0f7a4, cJ2_newBytesLength_0f7a4, 1, (some .int))
abbrev M_J2_putChar_b72d1 : MD := (yJ2_putChar_b72d1, cJ2_putChar_b72d1, 3, none)
abbrev M_J2_getChar_3b067 : MD := (yJ2_getChar_3b067, cJ2_getChar_3b067, 2, (some .char))
abbrev M_J2_length_9d52b : MD := (yJ2_length_9d52b, cJ2_length_9d52b, 1, (some .int))
abbrev M_J2_indexOf_4cfef : MD := (yJ2_indexOf_4cfef, cJ2_indexOf_4cfef, 4, (some .int))
abbrev M_J2_indexOfChar_4cfef : MD := (yJ2_indexOfChar_4cfef, cJ2_indexOfChar_4cfef, 4, (some .int))
abbrev M_J2_indexOfCharUnsafe_4cfef : MD := (yJ2_indexOfCharUnsafe_4cfef, cJ2_indexOfCharUnsafe_4cfef, 5, (some .int))
abbrev M_J2_indexOfSupplementary_4cfef : MD := (yJ2_indexOfSupplementary_4cfef, cJ2_indexOfSupplementary_4cfef, 7, (some .int))
abbrev M_J2_fillNull_b72d1 : MD := (yJ2_fillNull_b72d1, cJ2_fillNull_b72d1, 3, none)
abbrev M_J2_putCharSB_b72d1 : MD := (yJ2_putCharSB_b72d1, cJ2_putCharSB_b72d1, 3, none)
abbrev M_J2_getChars_46870 : MD := (yJ2_getChars_46870, cJ2_getChars_46870, 5, (some .int))
abbrev M_J2_charAt_3b067 : MD := (yJ2_charAt_3b067, cJ2_charAt_3b067, 2, (some .char))
abbrev M_J2_inflate_0e8fd : MD := (yJ2_inflate_0e8fd, cJ2_inflate_0e8fd, 6, none)
abbrev M_J2_getChars_ba4f3 : MD := (yJ2_getChars_ba4f3, cJ2_getChars_ba4f3, 7, (some .int))
abbrev M_J2_checkIndex_2214a : MD := (yJ2_checkIndex_2214a, cJ2_checkIndex_2214a, 2, none)
abbrev M_J2_checkBoundsBeginEnd_d044e : MD := (yJ2_checkBoundsBeginEnd_d044e, cJ2_checkBoundsBeginEnd_d044e, 3, none)
abbrev M_J2_checkBoundsOffCount_d044e : MD := (yJ2_checkBoundsOffCount_d044e, cJ2_checkBoundsOffCount_d044e, 3, none)
abbrev M_J7_rangeCheck_23922 : MD := (yJ7_rangeCheck_23922, cJ7_rangeCheck_23922, 3, none)
abbrev M_J7_fill_eb02e : MD := (yJ7_fill_eb02e, cJ7_fill_eb02e, 5, none)
abbrev M_J7_copyOf_9075b : MD := (yJ7_copyOf_9075b, cJ7_copyOf_9075b, 3, (some (.array .byte)))
abbrev M_J8_newLength_cabcc : MD := (yJ8_newLength_cabcc, cJ8_newLength_cabcc, 4, (some .int))
abbrev M_J8_hugeLength_7cf53 : MD := (yJ8_hugeLength_7cf53, cJ8_hugeLength_7cf53, 3, (some .int))
abbrev M_J3_checkIndex_8e157 : MD := (yJ3_checkIndex_8e157, cJ3_checkIndex_8e157, 3, (some .int))
abbrev M_J3_checkFromToIndex_8c36e : MD := (yJ3_checkFromToIndex_8c36e, cJ3_checkFromToIndex_8c36e, 4, (some .int))
abbrev M_J3_checkFromIndexSize_8c36e : MD := (yJ3_checkFromIndexSize_8c36e, cJ3_checkFromIndexSize_8c36e, 4, (some .int))
abbrev M_L_law : MD := (x, code, maxLocals, ret)
theorem in_J4 : ∀ w ∈ u_ws RJ4 TJ4 4, w ∈ gw := gwAll _ [290, 292, 294, 296] (by decide +kernel) (by decide +kernel)
theorem in_X0 : ∀ w ∈ u_ws RX0 TX0 6, w ∈ gw := gwAll _ [148, 150, 152, 154, 156, 158] (by decide +kernel) (by decide +kernel)
theorem in_X1 : ∀ w ∈ u_ws RX1 TX1 5, w ∈ gw := gwAll _ [119, 121, 123, 125, 127] (by decide +kernel) (by decide +kernel)
theorem in_X2 : ∀ w ∈ u_ws RX2 TX2 1, w ∈ gw := gwAll _ [265] (by decide +kernel) (by decide +kernel)
theorem in_X3 : ∀ w ∈ u_ws RX3 TX3 7, w ∈ gw := gwAll _ [240, 242, 244, 246, 248, 250, 252] (by decide +kernel) (by decide +kernel)
theorem in_X4 : ∀ w ∈ u_ws RX4 TX4 7, w ∈ gw := gwAll _ [185, 187, 189, 191, 193, 195, 197] (by decide +kernel) (by decide +kernel)
theorem in_X5 : ∀ w ∈ u_ws RX5 TX5 3, w ∈ gw := gwAll _ [213, 215, 217] (by decide +kernel) (by decide +kernel)
theorem in_X6 : ∀ w ∈ u_ws RX6 TX6 13, w ∈ gw := gwAll _ [315, 317, 319, 321, 323, 325, 327, 329, 331, 333, 335, 337, 339] (by decide +kernel) (by decide +kernel)
theorem in_X7 : ∀ w ∈ u_ws RX7 TX7 40, w ∈ gw := gwAll _ [1214, 1216, 1218, 1220, 1222, 1224, 1226, 1228, 1230, 1232, 1234, 1236, 1238, 1240, 1242, 1244, 1246, 1248, 1250, 1252, 1254, 1256, 1258, 1260, 1262, 1264, 1266, 1268, 1270, 1272, 1274, 1276, 1278, 1280, 1282, 1284, 1286, 1288, 1290, 1292] (by decide +kernel) (by decide +kernel)
theorem fl_X6_12 : FL RX6 12 7 0 := ⟨_, _, _, rfl, by decide, in_X6, (gwAt 302 (by decide +kernel) rfl)⟩
theorem fp_X6_12 : FP RX6 12 7 0 true (.object "FilterPile$Bench") := ⟨_, _, _, tyX6, rfl, by decide, in_X6, (gwAt 302 (by decide +kernel) rfl), tyX6_ok, nmX6, rfl, rfl, fun _ => rfl⟩
theorem fl_X6_18 : FL RX6 18 7 1 := ⟨_, _, _, rfl, by decide, in_X6, (gwAt 303 (by decide +kernel) rfl)⟩
theorem fp_X6_18 : FP RX6 18 7 1 true (.object "FilterPile$Bench") := ⟨_, _, _, tyX6, rfl, by decide, in_X6, (gwAt 303 (by decide +kernel) rfl), tyX6_ok, nmX6, rfl, rfl, fun _ => rfl⟩
theorem fl_X6_23 : FL RX6 23 7 3 := ⟨_, _, _, rfl, by decide, in_X6, (gwAt 305 (by decide +kernel) rfl)⟩
theorem fp_X6_23 : FP RX6 23 7 3 true (.array (.array .long)) := ⟨_, _, _, tyX6, rfl, by decide, in_X6, (gwAt 305 (by decide +kernel) rfl), tyX6_ok, nmX6, rfl, rfl, fun _ => rfl⟩
theorem fl_X6_26 : FL RX6 26 7 4 := ⟨_, _, _, rfl, by decide, in_X6, (gwAt 306 (by decide +kernel) rfl)⟩
theorem fp_X6_26 : FP RX6 26 7 4 true (.array .int) := ⟨_, _, _, tyX6, rfl, by decide, in_X6, (gwAt 306 (by decide +kernel) rfl), tyX6_ok, nmX6, rfl, rfl, fun _ => rfl⟩
theorem fl_X6_33 : FL RX6 33 7 5 := ⟨_, _, _, rfl, by decide, in_X6, (gwAt 307 (by decide +kernel) rfl)⟩
theorem fp_X6_33 : FP RX6 33 7 5 true (.object "FilterPile$Reader") := ⟨_, _, _, tyX6, rfl, by decide, in_X6, (gwAt 307 (by decide +kernel) rfl), tyX6_ok, nmX6, rfl, rfl, fun _ => rfl⟩
theorem fl_X6_40 : FL RX6 40 7 6 := ⟨_, _, _, rfl, by decide, in_X6, (gwAt 308 (by decide +kernel) rfl)⟩
theorem fp_X6_40 : FP RX6 40 7 6 true (.object "FilterPile$Troubles") := ⟨_, _, _, tyX6, rfl, by decide, in_X6, (gwAt 308 (by decide +kernel) rfl), tyX6_ok, nmX6, rfl, rfl, fun _ => rfl⟩
theorem fl_X6_47 : FL RX6 47 7 7 := ⟨_, _, _, rfl, by decide, in_X6, (gwAt 309 (by decide +kernel) rfl)⟩
theorem fp_X6_47 : FP RX6 47 7 7 true (.object "FilterPile$Outcomes") := ⟨_, _, _, tyX6, rfl, by decide, in_X6, (gwAt 309 (by decide +kernel) rfl), tyX6_ok, nmX6, rfl, rfl, fun _ => rfl⟩
theorem fl_X6_54 : FL RX6 54 7 8 := ⟨_, _, _, rfl, by decide, in_X6, (gwAt 310 (by decide +kernel) rfl)⟩
theorem fp_X6_54 : FP RX6 54 7 8 true (.object "FilterPile$Orders") := ⟨_, _, _, tyX6, rfl, by decide, in_X6, (gwAt 310 (by decide +kernel) rfl), tyX6_ok, nmX6, rfl, rfl, fun _ => rfl⟩
theorem fl_X6_61 : FL RX6 61 7 9 := ⟨_, _, _, rfl, by decide, in_X6, (gwAt 311 (by decide +kernel) rfl)⟩
theorem fp_X6_61 : FP RX6 61 7 9 true (.object "java/lang/StringBuilder") := ⟨_, _, _, tyX6, rfl, by decide, in_X6, (gwAt 311 (by decide +kernel) rfl), tyX6_ok, nmX6, rfl, rfl, fun _ => rfl⟩
theorem fl_X6_68 : FL RX6 68 7 10 := ⟨_, _, _, rfl, by decide, in_X6, (gwAt 312 (by decide +kernel) rfl)⟩
theorem fp_X6_68 : FP RX6 68 7 10 true (.object "FilterPile$Light") := ⟨_, _, _, tyX6, rfl, by decide, in_X6, (gwAt 312 (by decide +kernel) rfl), tyX6_ok, nmX6, rfl, rfl, fun _ => rfl⟩
theorem fl_X6_72 : FL RX6 72 7 11 := ⟨_, _, _, rfl, by decide, in_X6, (gwAt 313 (by decide +kernel) rfl)⟩
theorem fp_X6_72 : FP RX6 72 7 11 true (.object "FilterPile$Light") := ⟨_, _, _, tyX6, rfl, by decide, in_X6, (gwAt 313 (by decide +kernel) rfl), tyX6_ok, nmX6, rfl, rfl, fun _ => rfl⟩
theorem fl_X6_75 : FL RX6 75 7 12 := ⟨_, _, _, rfl, by decide, in_X6, (gwAt 314 (by decide +kernel) rfl)⟩
theorem fp_X6_75 : FP RX6 75 7 12 true (.object "FilterPile$Light") := ⟨_, _, _, tyX6, rfl, by decide, in_X6, (gwAt 314 (by decide +kernel) rfl), tyX6_ok, nmX6, rfl, rfl, fun _ => rfl⟩
theorem fl_X6_86 : FL RX6 86 1 0 := ⟨_, _, _, rfl, by decide, in_X0, (gwAt 135 (by decide +kernel) rfl)⟩
theorem fl_X6_118 : FL RX6 118 1 1 := ⟨_, _, _, rfl, by decide, in_X0, (gwAt 138 (by decide +kernel) rfl)⟩
theorem fl_X6_140 : FL RX6 140 1 2 := ⟨_, _, _, rfl, by decide, in_X0, (gwAt 141 (by decide +kernel) rfl)⟩
theorem fp_X6_140 : FP RX6 140 1 2 false (.int) := ⟨_, _, _, tyX0, rfl, by decide, in_X0, (gwAt 141 (by decide +kernel) rfl), tyX0_ok, nmX0, rfl, rfl, fun _ => by cases ‹false = true›⟩
theorem fl_X6_199 : FL RX6 199 2 0 := ⟨_, _, _, rfl, by decide, in_X1, (gwAt 110 (by decide +kernel) rfl)⟩
theorem fp_X6_199 : FP RX6 199 2 0 false (.long) := ⟨_, _, _, tyX1, rfl, by decide, in_X1, (gwAt 110 (by decide +kernel) rfl), tyX1_ok, nmX1, rfl, rfl, fun _ => by cases ‹false = true›⟩
theorem fl_X6_207 : FL RX6 207 2 1 := ⟨_, _, _, rfl, by decide, in_X1, (gwAt 112 (by decide +kernel) rfl)⟩
theorem fp_X6_207 : FP RX6 207 2 1 false (.long) := ⟨_, _, _, tyX1, rfl, by decide, in_X1, (gwAt 112 (by decide +kernel) rfl), tyX1_ok, nmX1, rfl, rfl, fun _ => by cases ‹false = true›⟩
theorem fl_X6_210 : FL RX6 210 2 2 := ⟨_, _, _, rfl, by decide, in_X1, (gwAt 114 (by decide +kernel) rfl)⟩
theorem fp_X6_210 : FP RX6 210 2 2 false (.long) := ⟨_, _, _, tyX1, rfl, by decide, in_X1, (gwAt 114 (by decide +kernel) rfl), tyX1_ok, nmX1, rfl, rfl, fun _ => by cases ‹false = true›⟩
theorem fl_X6_213 : FL RX6 213 2 3 := ⟨_, _, _, rfl, by decide, in_X1, (gwAt 116 (by decide +kernel) rfl)⟩
theorem fp_X6_213 : FP RX6 213 2 3 false (.long) := ⟨_, _, _, tyX1, rfl, by decide, in_X1, (gwAt 116 (by decide +kernel) rfl), tyX1_ok, nmX1, rfl, rfl, fun _ => by cases ‹false = true›⟩
theorem fl_X6_220 : FL RX6 220 4 2 := ⟨_, _, _, rfl, by decide, in_X3, (gwAt 233 (by decide +kernel) rfl)⟩
theorem fp_X6_220 : FP RX6 220 4 2 false (.int) := ⟨_, _, _, tyX3, rfl, by decide, in_X3, (gwAt 233 (by decide +kernel) rfl), tyX3_ok, nmX3, rfl, rfl, fun _ => by cases ‹false = true›⟩
theorem fl_X6_223 : FL RX6 223 4 3 := ⟨_, _, _, rfl, by decide, in_X3, (gwAt 235 (by decide +kernel) rfl)⟩
theorem fp_X6_223 : FP RX6 223 4 3 false (.int) := ⟨_, _, _, tyX3, rfl, by decide, in_X3, (gwAt 235 (by decide +kernel) rfl), tyX3_ok, nmX3, rfl, rfl, fun _ => by cases ‹false = true›⟩
theorem fl_X6_226 : FL RX6 226 4 4 := ⟨_, _, _, rfl, by decide, in_X3, (gwAt 237 (by decide +kernel) rfl)⟩
theorem fp_X6_226 : FP RX6 226 4 4 false (.int) := ⟨_, _, _, tyX3, rfl, by decide, in_X3, (gwAt 237 (by decide +kernel) rfl), tyX3_ok, nmX3, rfl, rfl, fun _ => by cases ‹false = true›⟩
theorem fl_X6_233 : FL RX6 233 4 0 := ⟨_, _, _, rfl, by decide, in_X3, (gwAt 229 (by decide +kernel) rfl)⟩
theorem fl_X6_236 : FL RX6 236 4 1 := ⟨_, _, _, rfl, by decide, in_X3, (gwAt 231 (by decide +kernel) rfl)⟩
theorem fl_X6_246 : FL RX6 246 2 4 := ⟨_, _, _, rfl, by decide, in_X1, (gwAt 118 (by decide +kernel) rfl)⟩
theorem fp_X6_246 : FP RX6 246 2 4 false (.int) := ⟨_, _, _, tyX1, rfl, by decide, in_X1, (gwAt 118 (by decide +kernel) rfl), tyX1_ok, nmX1, rfl, rfl, fun _ => by cases ‹false = true›⟩
theorem fl_X6_315 : FL RX6 315 1 3 := ⟨_, _, _, rfl, by decide, in_X0, (gwAt 143 (by decide +kernel) rfl)⟩
theorem fl_X6_327 : FL RX6 327 1 5 := ⟨_, _, _, rfl, by decide, in_X0, (gwAt 147 (by decide +kernel) rfl)⟩
theorem fl_X6_333 : FL RX6 333 1 4 := ⟨_, _, _, rfl, by decide, in_X0, (gwAt 145 (by decide +kernel) rfl)⟩
theorem fl_X6_343 : FL RX6 343 5 1 := ⟨_, _, _, rfl, by decide, in_X4, (gwAt 174 (by decide +kernel) rfl)⟩
theorem fp_X6_343 : FP RX6 343 5 1 false (.int) := ⟨_, _, _, tyX4, rfl, by decide, in_X4, (gwAt 174 (by decide +kernel) rfl), tyX4_ok, nmX4, rfl, rfl, fun _ => by cases ‹false = true›⟩
theorem fl_X6_346 : FL RX6 346 5 0 := ⟨_, _, _, rfl, by decide, in_X4, (gwAt 172 (by decide +kernel) rfl)⟩
theorem fl_X6_353 : FL RX6 353 5 4 := ⟨_, _, _, rfl, by decide, in_X4, (gwAt 180 (by decide +kernel) rfl)⟩
theorem fp_X6_353 : FP RX6 353 5 4 false (.int) := ⟨_, _, _, tyX4, rfl, by decide, in_X4, (gwAt 180 (by decide +kernel) rfl), tyX4_ok, nmX4, rfl, rfl, fun _ => by cases ‹false = true›⟩
theorem fl_X6_356 : FL RX6 356 5 3 := ⟨_, _, _, rfl, by decide, in_X4, (gwAt 178 (by decide +kernel) rfl)⟩
theorem fl_X6_362 : FL RX6 362 5 2 := ⟨_, _, _, rfl, by decide, in_X4, (gwAt 176 (by decide +kernel) rfl)⟩
theorem fp_X6_362 : FP RX6 362 5 2 false (.int) := ⟨_, _, _, tyX4, rfl, by decide, in_X4, (gwAt 176 (by decide +kernel) rfl), tyX4_ok, nmX4, rfl, rfl, fun _ => by cases ‹false = true›⟩
theorem fl_X6_365 : FL RX6 365 5 6 := ⟨_, _, _, rfl, by decide, in_X4, (gwAt 184 (by decide +kernel) rfl)⟩
theorem fp_X6_365 : FP RX6 365 5 6 false (.int) := ⟨_, _, _, tyX4, rfl, by decide, in_X4, (gwAt 184 (by decide +kernel) rfl), tyX4_ok, nmX4, rfl, rfl, fun _ => by cases ‹false = true›⟩
theorem fl_X6_368 : FL RX6 368 5 5 := ⟨_, _, _, rfl, by decide, in_X4, (gwAt 182 (by decide +kernel) rfl)⟩
theorem fl_X6_377 : FL RX6 377 6 2 := ⟨_, _, _, rfl, by decide, in_X5, (gwAt 212 (by decide +kernel) rfl)⟩
theorem fp_X6_377 : FP RX6 377 6 2 false (.int) := ⟨_, _, _, tyX5, rfl, by decide, in_X5, (gwAt 212 (by decide +kernel) rfl), tyX5_ok, nmX5, rfl, rfl, fun _ => by cases ‹false = true›⟩
theorem fl_X6_378 : FL RX6 378 6 0 := ⟨_, _, _, rfl, by decide, in_X5, (gwAt 208 (by decide +kernel) rfl)⟩
theorem fl_X6_381 : FL RX6 381 6 1 := ⟨_, _, _, rfl, by decide, in_X5, (gwAt 210 (by decide +kernel) rfl)⟩
theorem fl_X6_396 : FL RX6 396 7 2 := ⟨_, _, _, rfl, by decide, in_X6, (gwAt 304 (by decide +kernel) rfl)⟩
theorem fp_X6_396 : FP RX6 396 7 2 false (.boolean) := ⟨_, _, _, tyX6, rfl, by decide, in_X6, (gwAt 304 (by decide +kernel) rfl), tyX6_ok, nmX6, rfl, rfl, fun _ => by cases ‹false = true›⟩
theorem fl_X0_12 : FL RX0 12 1 0 := ⟨_, _, _, rfl, by decide, in_X0, (gwAt 133 (by decide +kernel) rfl)⟩
theorem fp_X0_12 : FP RX0 12 1 0 true (.object "FilterPile$Light") := ⟨_, _, _, tyX0, rfl, by decide, in_X0, (gwAt 133 (by decide +kernel) rfl), tyX0_ok, nmX0, rfl, rfl, fun _ => rfl⟩
theorem fl_X0_18 : FL RX0 18 1 1 := ⟨_, _, _, rfl, by decide, in_X0, (gwAt 136 (by decide +kernel) rfl)⟩
theorem fp_X0_18 : FP RX0 18 1 1 true (.array .int) := ⟨_, _, _, tyX0, rfl, by decide, in_X0, (gwAt 136 (by decide +kernel) rfl), tyX0_ok, nmX0, rfl, rfl, fun _ => rfl⟩
theorem fl_X0_22 : FL RX0 22 1 3 := ⟨_, _, _, rfl, by decide, in_X0, (gwAt 142 (by decide +kernel) rfl)⟩
theorem fp_X0_22 : FP RX0 22 1 3 true (.array .float) := ⟨_, _, _, tyX0, rfl, by decide, in_X0, (gwAt 142 (by decide +kernel) rfl), tyX0_ok, nmX0, rfl, rfl, fun _ => rfl⟩
theorem fl_X0_28 : FL RX0 28 1 4 := ⟨_, _, _, rfl, by decide, in_X0, (gwAt 144 (by decide +kernel) rfl)⟩
theorem fp_X0_28 : FP RX0 28 1 4 true (.array (.array .int)) := ⟨_, _, _, tyX0, rfl, by decide, in_X0, (gwAt 144 (by decide +kernel) rfl), tyX0_ok, nmX0, rfl, rfl, fun _ => rfl⟩
theorem fl_X0_31 : FL RX0 31 1 5 := ⟨_, _, _, rfl, by decide, in_X0, (gwAt 146 (by decide +kernel) rfl)⟩
theorem fp_X0_31 : FP RX0 31 1 5 true (.array .int) := ⟨_, _, _, tyX0, rfl, by decide, in_X0, (gwAt 146 (by decide +kernel) rfl), tyX0_ok, nmX0, rfl, rfl, fun _ => rfl⟩
theorem fl_X0_36 : FL RX0 36 2 0 := ⟨_, _, _, rfl, by decide, in_X1, (gwAt 108 (by decide +kernel) rfl)⟩
theorem fp_X0_36 : FP RX0 36 2 0 false (.long) := ⟨_, _, _, tyX1, rfl, by decide, in_X1, (gwAt 108 (by decide +kernel) rfl), tyX1_ok, nmX1, rfl, rfl, fun _ => by cases ‹false = true›⟩
theorem fl_X0_44 : FL RX0 44 1 2 := ⟨_, _, _, rfl, by decide, in_X0, (gwAt 139 (by decide +kernel) rfl)⟩
theorem fp_X0_44 : FP RX0 44 1 2 false (.int) := ⟨_, _, _, tyX0, rfl, by decide, in_X0, (gwAt 139 (by decide +kernel) rfl), tyX0_ok, nmX0, rfl, rfl, fun _ => by cases ‹false = true›⟩
theorem fl_X1_9 : FL RX1 9 2 0 := ⟨_, _, _, rfl, by decide, in_X1, (gwAt 109 (by decide +kernel) rfl)⟩
theorem fp_X1_9 : FP RX1 9 2 0 false (.long) := ⟨_, _, _, tyX1, rfl, by decide, in_X1, (gwAt 109 (by decide +kernel) rfl), tyX1_ok, nmX1, rfl, rfl, fun _ => by cases ‹false = true›⟩
theorem fl_X1_15 : FL RX1 15 2 1 := ⟨_, _, _, rfl, by decide, in_X1, (gwAt 111 (by decide +kernel) rfl)⟩
theorem fp_X1_15 : FP RX1 15 2 1 false (.long) := ⟨_, _, _, tyX1, rfl, by decide, in_X1, (gwAt 111 (by decide +kernel) rfl), tyX1_ok, nmX1, rfl, rfl, fun _ => by cases ‹false = true›⟩
theorem fl_X1_18 : FL RX1 18 2 2 := ⟨_, _, _, rfl, by decide, in_X1, (gwAt 113 (by decide +kernel) rfl)⟩
theorem fp_X1_18 : FP RX1 18 2 2 false (.long) := ⟨_, _, _, tyX1, rfl, by decide, in_X1, (gwAt 113 (by decide +kernel) rfl), tyX1_ok, nmX1, rfl, rfl, fun _ => by cases ‹false = true›⟩
theorem fl_X1_21 : FL RX1 21 2 3 := ⟨_, _, _, rfl, by decide, in_X1, (gwAt 115 (by decide +kernel) rfl)⟩
theorem fp_X1_21 : FP RX1 21 2 3 false (.long) := ⟨_, _, _, tyX1, rfl, by decide, in_X1, (gwAt 115 (by decide +kernel) rfl), tyX1_ok, nmX1, rfl, rfl, fun _ => by cases ‹false = true›⟩
theorem fl_X1_24 : FL RX1 24 2 4 := ⟨_, _, _, rfl, by decide, in_X1, (gwAt 117 (by decide +kernel) rfl)⟩
theorem fp_X1_24 : FP RX1 24 2 4 false (.int) := ⟨_, _, _, tyX1, rfl, by decide, in_X1, (gwAt 117 (by decide +kernel) rfl), tyX1_ok, nmX1, rfl, rfl, fun _ => by cases ‹false = true›⟩
theorem fl_X2_11 : FL RX2 11 3 0 := ⟨_, _, _, rfl, by decide, in_X2, (gwAt 264 (by decide +kernel) rfl)⟩
theorem fp_X2_11 : FP RX2 11 3 0 true (.array (.object "FilterPile$Light")) := ⟨_, _, _, tyX2, rfl, by decide, in_X2, (gwAt 264 (by decide +kernel) rfl), tyX2_ok, nmX2, rfl, rfl, fun _ => rfl⟩
theorem fl_X2_23 : FL RX2 23 1 0 := ⟨_, _, _, rfl, by decide, in_X0, (gwAt 134 (by decide +kernel) rfl)⟩
theorem fl_X2_37 : FL RX2 37 1 2 := ⟨_, _, _, rfl, by decide, in_X0, (gwAt 140 (by decide +kernel) rfl)⟩
theorem fp_X2_37 : FP RX2 37 1 2 false (.int) := ⟨_, _, _, tyX0, rfl, by decide, in_X0, (gwAt 140 (by decide +kernel) rfl), tyX0_ok, nmX0, rfl, rfl, fun _ => by cases ‹false = true›⟩
theorem fl_X2_45 : FL RX2 45 1 1 := ⟨_, _, _, rfl, by decide, in_X0, (gwAt 137 (by decide +kernel) rfl)⟩
theorem fl_X3_12 : FL RX3 12 4 0 := ⟨_, _, _, rfl, by decide, in_X3, (gwAt 228 (by decide +kernel) rfl)⟩
theorem fp_X3_12 : FP RX3 12 4 0 true (.object "FilterPile$Light") := ⟨_, _, _, tyX3, rfl, by decide, in_X3, (gwAt 228 (by decide +kernel) rfl), tyX3_ok, nmX3, rfl, rfl, fun _ => rfl⟩
theorem fl_X3_18 : FL RX3 18 4 1 := ⟨_, _, _, rfl, by decide, in_X3, (gwAt 230 (by decide +kernel) rfl)⟩
theorem fp_X3_18 : FP RX3 18 4 1 true (.object "FilterPile$Light") := ⟨_, _, _, tyX3, rfl, by decide, in_X3, (gwAt 230 (by decide +kernel) rfl), tyX3_ok, nmX3, rfl, rfl, fun _ => rfl⟩
theorem fl_X3_21 : FL RX3 21 4 5 := ⟨_, _, _, rfl, by decide, in_X3, (gwAt 238 (by decide +kernel) rfl)⟩
theorem fp_X3_21 : FP RX3 21 4 5 true (.array .long) := ⟨_, _, _, tyX3, rfl, by decide, in_X3, (gwAt 238 (by decide +kernel) rfl), tyX3_ok, nmX3, rfl, rfl, fun _ => rfl⟩
theorem fl_X3_25 : FL RX3 25 4 6 := ⟨_, _, _, rfl, by decide, in_X3, (gwAt 239 (by decide +kernel) rfl)⟩
theorem fp_X3_25 : FP RX3 25 4 6 true (.array .int) := ⟨_, _, _, tyX3, rfl, by decide, in_X3, (gwAt 239 (by decide +kernel) rfl), tyX3_ok, nmX3, rfl, rfl, fun _ => rfl⟩
theorem fl_X3_29 : FL RX3 29 4 4 := ⟨_, _, _, rfl, by decide, in_X3, (gwAt 236 (by decide +kernel) rfl)⟩
theorem fp_X3_29 : FP RX3 29 4 4 false (.int) := ⟨_, _, _, tyX3, rfl, by decide, in_X3, (gwAt 236 (by decide +kernel) rfl), tyX3_ok, nmX3, rfl, rfl, fun _ => by cases ‹false = true›⟩
theorem fl_X3_41 : FL RX3 41 4 2 := ⟨_, _, _, rfl, by decide, in_X3, (gwAt 232 (by decide +kernel) rfl)⟩
theorem fp_X3_41 : FP RX3 41 4 2 false (.int) := ⟨_, _, _, tyX3, rfl, by decide, in_X3, (gwAt 232 (by decide +kernel) rfl), tyX3_ok, nmX3, rfl, rfl, fun _ => by cases ‹false = true›⟩
theorem fl_X3_44 : FL RX3 44 4 3 := ⟨_, _, _, rfl, by decide, in_X3, (gwAt 234 (by decide +kernel) rfl)⟩
theorem fp_X3_44 : FP RX3 44 4 3 false (.int) := ⟨_, _, _, tyX3, rfl, by decide, in_X3, (gwAt 234 (by decide +kernel) rfl), tyX3_ok, nmX3, rfl, rfl, fun _ => by cases ‹false = true›⟩
theorem fl_X4_9 : FL RX4 9 5 0 := ⟨_, _, _, rfl, by decide, in_X4, (gwAt 171 (by decide +kernel) rfl)⟩
theorem fp_X4_9 : FP RX4 9 5 0 true (.array .int) := ⟨_, _, _, tyX4, rfl, by decide, in_X4, (gwAt 171 (by decide +kernel) rfl), tyX4_ok, nmX4, rfl, rfl, fun _ => rfl⟩
theorem fl_X4_15 : FL RX4 15 5 3 := ⟨_, _, _, rfl, by decide, in_X4, (gwAt 177 (by decide +kernel) rfl)⟩
theorem fp_X4_15 : FP RX4 15 5 3 true (.array .int) := ⟨_, _, _, tyX4, rfl, by decide, in_X4, (gwAt 177 (by decide +kernel) rfl), tyX4_ok, nmX4, rfl, rfl, fun _ => rfl⟩
theorem fl_X4_18 : FL RX4 18 5 5 := ⟨_, _, _, rfl, by decide, in_X4, (gwAt 181 (by decide +kernel) rfl)⟩
theorem fp_X4_18 : FP RX4 18 5 5 true (.array .int) := ⟨_, _, _, tyX4, rfl, by decide, in_X4, (gwAt 181 (by decide +kernel) rfl), tyX4_ok, nmX4, rfl, rfl, fun _ => rfl⟩
theorem fl_X4_21 : FL RX4 21 5 2 := ⟨_, _, _, rfl, by decide, in_X4, (gwAt 175 (by decide +kernel) rfl)⟩
theorem fp_X4_21 : FP RX4 21 5 2 false (.int) := ⟨_, _, _, tyX4, rfl, by decide, in_X4, (gwAt 175 (by decide +kernel) rfl), tyX4_ok, nmX4, rfl, rfl, fun _ => by cases ‹false = true›⟩
theorem fl_X4_25 : FL RX4 25 5 4 := ⟨_, _, _, rfl, by decide, in_X4, (gwAt 179 (by decide +kernel) rfl)⟩
theorem fp_X4_25 : FP RX4 25 5 4 false (.int) := ⟨_, _, _, tyX4, rfl, by decide, in_X4, (gwAt 179 (by decide +kernel) rfl), tyX4_ok, nmX4, rfl, rfl, fun _ => by cases ‹false = true›⟩
theorem fl_X4_28 : FL RX4 28 5 6 := ⟨_, _, _, rfl, by decide, in_X4, (gwAt 183 (by decide +kernel) rfl)⟩
theorem fp_X4_28 : FP RX4 28 5 6 false (.int) := ⟨_, _, _, tyX4, rfl, by decide, in_X4, (gwAt 183 (by decide +kernel) rfl), tyX4_ok, nmX4, rfl, rfl, fun _ => by cases ‹false = true›⟩
theorem fl_X4_35 : FL RX4 35 5 1 := ⟨_, _, _, rfl, by decide, in_X4, (gwAt 173 (by decide +kernel) rfl)⟩
theorem fp_X4_35 : FP RX4 35 5 1 false (.int) := ⟨_, _, _, tyX4, rfl, by decide, in_X4, (gwAt 173 (by decide +kernel) rfl), tyX4_ok, nmX4, rfl, rfl, fun _ => by cases ‹false = true›⟩
theorem fl_X5_9 : FL RX5 9 6 0 := ⟨_, _, _, rfl, by decide, in_X5, (gwAt 207 (by decide +kernel) rfl)⟩
theorem fp_X5_9 : FP RX5 9 6 0 true (.array .int) := ⟨_, _, _, tyX5, rfl, by decide, in_X5, (gwAt 207 (by decide +kernel) rfl), tyX5_ok, nmX5, rfl, rfl, fun _ => rfl⟩
theorem fl_X5_15 : FL RX5 15 6 1 := ⟨_, _, _, rfl, by decide, in_X5, (gwAt 209 (by decide +kernel) rfl)⟩
theorem fp_X5_15 : FP RX5 15 6 1 true (.array .int) := ⟨_, _, _, tyX5, rfl, by decide, in_X5, (gwAt 209 (by decide +kernel) rfl), tyX5_ok, nmX5, rfl, rfl, fun _ => rfl⟩
theorem fl_X5_18 : FL RX5 18 6 2 := ⟨_, _, _, rfl, by decide, in_X5, (gwAt 211 (by decide +kernel) rfl)⟩
theorem fp_X5_18 : FP RX5 18 6 2 false (.int) := ⟨_, _, _, tyX5, rfl, by decide, in_X5, (gwAt 211 (by decide +kernel) rfl), tyX5_ok, nmX5, rfl, rfl, fun _ => by cases ‹false = true›⟩
theorem fl_X7_11 : FL RX7 11 8 0 := ⟨_, _, _, rfl, by decide, in_X7, (gwAt 1174 (by decide +kernel) rfl)⟩
theorem fp_X7_11 : FP RX7 11 8 0 true (.array .long) := ⟨_, _, _, tyX7, rfl, by decide, in_X7, (gwAt 1174 (by decide +kernel) rfl), tyX7_ok, nmX7, rfl, rfl, fun _ => rfl⟩
theorem fl_X7_17 : FL RX7 17 8 1 := ⟨_, _, _, rfl, by decide, in_X7, (gwAt 1175 (by decide +kernel) rfl)⟩
theorem fp_X7_17 : FP RX7 17 8 1 true (.array .int) := ⟨_, _, _, tyX7, rfl, by decide, in_X7, (gwAt 1175 (by decide +kernel) rfl), tyX7_ok, nmX7, rfl, rfl, fun _ => rfl⟩
theorem fl_X7_21 : FL RX7 21 8 3 := ⟨_, _, _, rfl, by decide, in_X7, (gwAt 1177 (by decide +kernel) rfl)⟩
theorem fp_X7_21 : FP RX7 21 8 3 true (.array .long) := ⟨_, _, _, tyX7, rfl, by decide, in_X7, (gwAt 1177 (by decide +kernel) rfl), tyX7_ok, nmX7, rfl, rfl, fun _ => rfl⟩
theorem fl_X7_24 : FL RX7 24 8 6 := ⟨_, _, _, rfl, by decide, in_X7, (gwAt 1180 (by decide +kernel) rfl)⟩
theorem fp_X7_24 : FP RX7 24 8 6 true (.array .int) := ⟨_, _, _, tyX7, rfl, by decide, in_X7, (gwAt 1180 (by decide +kernel) rfl), tyX7_ok, nmX7, rfl, rfl, fun _ => rfl⟩
theorem fl_X7_27 : FL RX7 27 8 7 := ⟨_, _, _, rfl, by decide, in_X7, (gwAt 1181 (by decide +kernel) rfl)⟩
theorem fp_X7_27 : FP RX7 27 8 7 true (.array .long) := ⟨_, _, _, tyX7, rfl, by decide, in_X7, (gwAt 1181 (by decide +kernel) rfl), tyX7_ok, nmX7, rfl, rfl, fun _ => rfl⟩
theorem fl_X7_30 : FL RX7 30 8 8 := ⟨_, _, _, rfl, by decide, in_X7, (gwAt 1182 (by decide +kernel) rfl)⟩
theorem fp_X7_30 : FP RX7 30 8 8 true (.array .int) := ⟨_, _, _, tyX7, rfl, by decide, in_X7, (gwAt 1182 (by decide +kernel) rfl), tyX7_ok, nmX7, rfl, rfl, fun _ => rfl⟩
theorem fl_X7_33 : FL RX7 33 8 12 := ⟨_, _, _, rfl, by decide, in_X7, (gwAt 1186 (by decide +kernel) rfl)⟩
theorem fp_X7_33 : FP RX7 33 8 12 true (.array .long) := ⟨_, _, _, tyX7, rfl, by decide, in_X7, (gwAt 1186 (by decide +kernel) rfl), tyX7_ok, nmX7, rfl, rfl, fun _ => rfl⟩
theorem fl_X7_36 : FL RX7 36 8 13 := ⟨_, _, _, rfl, by decide, in_X7, (gwAt 1187 (by decide +kernel) rfl)⟩
theorem fp_X7_36 : FP RX7 36 8 13 true (.array .long) := ⟨_, _, _, tyX7, rfl, by decide, in_X7, (gwAt 1187 (by decide +kernel) rfl), tyX7_ok, nmX7, rfl, rfl, fun _ => rfl⟩
theorem fl_X7_39 : FL RX7 39 8 15 := ⟨_, _, _, rfl, by decide, in_X7, (gwAt 1189 (by decide +kernel) rfl)⟩
theorem fp_X7_39 : FP RX7 39 8 15 true (.array .long) := ⟨_, _, _, tyX7, rfl, by decide, in_X7, (gwAt 1189 (by decide +kernel) rfl), tyX7_ok, nmX7, rfl, rfl, fun _ => rfl⟩
theorem fl_X7_42 : FL RX7 42 8 16 := ⟨_, _, _, rfl, by decide, in_X7, (gwAt 1190 (by decide +kernel) rfl)⟩
theorem fp_X7_42 : FP RX7 42 8 16 true (.array .long) := ⟨_, _, _, tyX7, rfl, by decide, in_X7, (gwAt 1190 (by decide +kernel) rfl), tyX7_ok, nmX7, rfl, rfl, fun _ => rfl⟩
theorem fl_X7_45 : FL RX7 45 8 17 := ⟨_, _, _, rfl, by decide, in_X7, (gwAt 1191 (by decide +kernel) rfl)⟩
theorem fp_X7_45 : FP RX7 45 8 17 true (.array .int) := ⟨_, _, _, tyX7, rfl, by decide, in_X7, (gwAt 1191 (by decide +kernel) rfl), tyX7_ok, nmX7, rfl, rfl, fun _ => rfl⟩
theorem fl_X7_48 : FL RX7 48 8 18 := ⟨_, _, _, rfl, by decide, in_X7, (gwAt 1192 (by decide +kernel) rfl)⟩
theorem fp_X7_48 : FP RX7 48 8 18 true (.array .float) := ⟨_, _, _, tyX7, rfl, by decide, in_X7, (gwAt 1192 (by decide +kernel) rfl), tyX7_ok, nmX7, rfl, rfl, fun _ => rfl⟩
theorem fl_X7_52 : FL RX7 52 8 19 := ⟨_, _, _, rfl, by decide, in_X7, (gwAt 1193 (by decide +kernel) rfl)⟩
theorem fp_X7_52 : FP RX7 52 8 19 true (.array .int) := ⟨_, _, _, tyX7, rfl, by decide, in_X7, (gwAt 1193 (by decide +kernel) rfl), tyX7_ok, nmX7, rfl, rfl, fun _ => rfl⟩
theorem fl_X7_55 : FL RX7 55 8 20 := ⟨_, _, _, rfl, by decide, in_X7, (gwAt 1194 (by decide +kernel) rfl)⟩
theorem fp_X7_55 : FP RX7 55 8 20 true (.array .int) := ⟨_, _, _, tyX7, rfl, by decide, in_X7, (gwAt 1194 (by decide +kernel) rfl), tyX7_ok, nmX7, rfl, rfl, fun _ => rfl⟩
theorem fl_X7_58 : FL RX7 58 8 21 := ⟨_, _, _, rfl, by decide, in_X7, (gwAt 1195 (by decide +kernel) rfl)⟩
theorem fp_X7_58 : FP RX7 58 8 21 true (.array .int) := ⟨_, _, _, tyX7, rfl, by decide, in_X7, (gwAt 1195 (by decide +kernel) rfl), tyX7_ok, nmX7, rfl, rfl, fun _ => rfl⟩
theorem fl_X7_61 : FL RX7 61 8 25 := ⟨_, _, _, rfl, by decide, in_X7, (gwAt 1199 (by decide +kernel) rfl)⟩
theorem fp_X7_61 : FP RX7 61 8 25 true (.array .int) := ⟨_, _, _, tyX7, rfl, by decide, in_X7, (gwAt 1199 (by decide +kernel) rfl), tyX7_ok, nmX7, rfl, rfl, fun _ => rfl⟩
theorem fl_X7_64 : FL RX7 64 8 27 := ⟨_, _, _, rfl, by decide, in_X7, (gwAt 1201 (by decide +kernel) rfl)⟩
theorem fp_X7_64 : FP RX7 64 8 27 true (.array .int) := ⟨_, _, _, tyX7, rfl, by decide, in_X7, (gwAt 1201 (by decide +kernel) rfl), tyX7_ok, nmX7, rfl, rfl, fun _ => rfl⟩
theorem fl_X7_67 : FL RX7 67 8 28 := ⟨_, _, _, rfl, by decide, in_X7, (gwAt 1202 (by decide +kernel) rfl)⟩
theorem fp_X7_67 : FP RX7 67 8 28 true (.array .int) := ⟨_, _, _, tyX7, rfl, by decide, in_X7, (gwAt 1202 (by decide +kernel) rfl), tyX7_ok, nmX7, rfl, rfl, fun _ => rfl⟩
theorem fl_X7_70 : FL RX7 70 8 29 := ⟨_, _, _, rfl, by decide, in_X7, (gwAt 1203 (by decide +kernel) rfl)⟩
theorem fp_X7_70 : FP RX7 70 8 29 true (.array .int) := ⟨_, _, _, tyX7, rfl, by decide, in_X7, (gwAt 1203 (by decide +kernel) rfl), tyX7_ok, nmX7, rfl, rfl, fun _ => rfl⟩
theorem fl_X7_73 : FL RX7 73 8 31 := ⟨_, _, _, rfl, by decide, in_X7, (gwAt 1205 (by decide +kernel) rfl)⟩
theorem fp_X7_73 : FP RX7 73 8 31 true (.array .int) := ⟨_, _, _, tyX7, rfl, by decide, in_X7, (gwAt 1205 (by decide +kernel) rfl), tyX7_ok, nmX7, rfl, rfl, fun _ => rfl⟩
theorem fl_X7_76 : FL RX7 76 8 33 := ⟨_, _, _, rfl, by decide, in_X7, (gwAt 1207 (by decide +kernel) rfl)⟩
theorem fp_X7_76 : FP RX7 76 8 33 true (.array .long) := ⟨_, _, _, tyX7, rfl, by decide, in_X7, (gwAt 1207 (by decide +kernel) rfl), tyX7_ok, nmX7, rfl, rfl, fun _ => rfl⟩
theorem fl_X7_79 : FL RX7 79 8 34 := ⟨_, _, _, rfl, by decide, in_X7, (gwAt 1208 (by decide +kernel) rfl)⟩
theorem fp_X7_79 : FP RX7 79 8 34 true (.array .int) := ⟨_, _, _, tyX7, rfl, by decide, in_X7, (gwAt 1208 (by decide +kernel) rfl), tyX7_ok, nmX7, rfl, rfl, fun _ => rfl⟩
theorem fl_X7_82 : FL RX7 82 8 36 := ⟨_, _, _, rfl, by decide, in_X7, (gwAt 1210 (by decide +kernel) rfl)⟩
theorem fp_X7_82 : FP RX7 82 8 36 true (.array .float) := ⟨_, _, _, tyX7, rfl, by decide, in_X7, (gwAt 1210 (by decide +kernel) rfl), tyX7_ok, nmX7, rfl, rfl, fun _ => rfl⟩
theorem fl_X7_85 : FL RX7 85 8 37 := ⟨_, _, _, rfl, by decide, in_X7, (gwAt 1211 (by decide +kernel) rfl)⟩
theorem fp_X7_85 : FP RX7 85 8 37 true (.array .int) := ⟨_, _, _, tyX7, rfl, by decide, in_X7, (gwAt 1211 (by decide +kernel) rfl), tyX7_ok, nmX7, rfl, rfl, fun _ => rfl⟩
theorem fl_X7_88 : FL RX7 88 8 38 := ⟨_, _, _, rfl, by decide, in_X7, (gwAt 1212 (by decide +kernel) rfl)⟩
theorem fp_X7_88 : FP RX7 88 8 38 true (.array .int) := ⟨_, _, _, tyX7, rfl, by decide, in_X7, (gwAt 1212 (by decide +kernel) rfl), tyX7_ok, nmX7, rfl, rfl, fun _ => rfl⟩
theorem fl_X7_91 : FL RX7 91 8 2 := ⟨_, _, _, rfl, by decide, in_X7, (gwAt 1176 (by decide +kernel) rfl)⟩
theorem fp_X7_91 : FP RX7 91 8 2 false (.int) := ⟨_, _, _, tyX7, rfl, by decide, in_X7, (gwAt 1176 (by decide +kernel) rfl), tyX7_ok, nmX7, rfl, rfl, fun _ => by cases ‹false = true›⟩
theorem fl_X7_217 : FL RX7 217 8 30 := ⟨_, _, _, rfl, by decide, in_X7, (gwAt 1204 (by decide +kernel) rfl)⟩
theorem fp_X7_217 : FP RX7 217 8 30 false (.int) := ⟨_, _, _, tyX7, rfl, by decide, in_X7, (gwAt 1204 (by decide +kernel) rfl), tyX7_ok, nmX7, rfl, rfl, fun _ => by cases ‹false = true›⟩
theorem fl_X7_224 : FL RX7 224 8 4 := ⟨_, _, _, rfl, by decide, in_X7, (gwAt 1178 (by decide +kernel) rfl)⟩
theorem fp_X7_224 : FP RX7 224 8 4 false (.long) := ⟨_, _, _, tyX7, rfl, by decide, in_X7, (gwAt 1178 (by decide +kernel) rfl), tyX7_ok, nmX7, rfl, rfl, fun _ => by cases ‹false = true›⟩
theorem fl_X7_228 : FL RX7 228 8 5 := ⟨_, _, _, rfl, by decide, in_X7, (gwAt 1179 (by decide +kernel) rfl)⟩
theorem fp_X7_228 : FP RX7 228 8 5 false (.long) := ⟨_, _, _, tyX7, rfl, by decide, in_X7, (gwAt 1179 (by decide +kernel) rfl), tyX7_ok, nmX7, rfl, rfl, fun _ => by cases ‹false = true›⟩
theorem fl_X7_235 : FL RX7 235 8 9 := ⟨_, _, _, rfl, by decide, in_X7, (gwAt 1183 (by decide +kernel) rfl)⟩
theorem fp_X7_235 : FP RX7 235 8 9 false (.int) := ⟨_, _, _, tyX7, rfl, by decide, in_X7, (gwAt 1183 (by decide +kernel) rfl), tyX7_ok, nmX7, rfl, rfl, fun _ => by cases ‹false = true›⟩
theorem fl_X7_248 : FL RX7 248 8 14 := ⟨_, _, _, rfl, by decide, in_X7, (gwAt 1188 (by decide +kernel) rfl)⟩
theorem fp_X7_248 : FP RX7 248 8 14 false (.boolean) := ⟨_, _, _, tyX7, rfl, by decide, in_X7, (gwAt 1188 (by decide +kernel) rfl), tyX7_ok, nmX7, rfl, rfl, fun _ => by cases ‹false = true›⟩
theorem fl_X7_256 : FL RX7 256 8 10 := ⟨_, _, _, rfl, by decide, in_X7, (gwAt 1184 (by decide +kernel) rfl)⟩
theorem fp_X7_256 : FP RX7 256 8 10 false (.int) := ⟨_, _, _, tyX7, rfl, by decide, in_X7, (gwAt 1184 (by decide +kernel) rfl), tyX7_ok, nmX7, rfl, rfl, fun _ => by cases ‹false = true›⟩
theorem fl_X7_259 : FL RX7 259 8 11 := ⟨_, _, _, rfl, by decide, in_X7, (gwAt 1185 (by decide +kernel) rfl)⟩
theorem fp_X7_259 : FP RX7 259 8 11 false (.int) := ⟨_, _, _, tyX7, rfl, by decide, in_X7, (gwAt 1185 (by decide +kernel) rfl), tyX7_ok, nmX7, rfl, rfl, fun _ => by cases ‹false = true›⟩
theorem fl_X7_328 : FL RX7 328 8 22 := ⟨_, _, _, rfl, by decide, in_X7, (gwAt 1196 (by decide +kernel) rfl)⟩
theorem fp_X7_328 : FP RX7 328 8 22 false (.int) := ⟨_, _, _, tyX7, rfl, by decide, in_X7, (gwAt 1196 (by decide +kernel) rfl), tyX7_ok, nmX7, rfl, rfl, fun _ => by cases ‹false = true›⟩
theorem fl_X7_331 : FL RX7 331 8 23 := ⟨_, _, _, rfl, by decide, in_X7, (gwAt 1197 (by decide +kernel) rfl)⟩
theorem fp_X7_331 : FP RX7 331 8 23 false (.int) := ⟨_, _, _, tyX7, rfl, by decide, in_X7, (gwAt 1197 (by decide +kernel) rfl), tyX7_ok, nmX7, rfl, rfl, fun _ => by cases ‹false = true›⟩
theorem fl_X7_338 : FL RX7 338 8 24 := ⟨_, _, _, rfl, by decide, in_X7, (gwAt 1198 (by decide +kernel) rfl)⟩
theorem fp_X7_338 : FP RX7 338 8 24 false (.int) := ⟨_, _, _, tyX7, rfl, by decide, in_X7, (gwAt 1198 (by decide +kernel) rfl), tyX7_ok, nmX7, rfl, rfl, fun _ => by cases ‹false = true›⟩
theorem fl_X7_356 : FL RX7 356 8 26 := ⟨_, _, _, rfl, by decide, in_X7, (gwAt 1200 (by decide +kernel) rfl)⟩
theorem fp_X7_356 : FP RX7 356 8 26 false (.int) := ⟨_, _, _, tyX7, rfl, by decide, in_X7, (gwAt 1200 (by decide +kernel) rfl), tyX7_ok, nmX7, rfl, rfl, fun _ => by cases ‹false = true›⟩
theorem fl_X7_365 : FL RX7 365 8 32 := ⟨_, _, _, rfl, by decide, in_X7, (gwAt 1206 (by decide +kernel) rfl)⟩
theorem fp_X7_365 : FP RX7 365 8 32 false (.int) := ⟨_, _, _, tyX7, rfl, by decide, in_X7, (gwAt 1206 (by decide +kernel) rfl), tyX7_ok, nmX7, rfl, rfl, fun _ => by cases ‹false = true›⟩
theorem fl_X7_380 : FL RX7 380 8 35 := ⟨_, _, _, rfl, by decide, in_X7, (gwAt 1209 (by decide +kernel) rfl)⟩
theorem fp_X7_380 : FP RX7 380 8 35 false (.int) := ⟨_, _, _, tyX7, rfl, by decide, in_X7, (gwAt 1209 (by decide +kernel) rfl), tyX7_ok, nmX7, rfl, rfl, fun _ => by cases ‹false = true›⟩
theorem fl_X7_383 : FL RX7 383 8 39 := ⟨_, _, _, rfl, by decide, in_X7, (gwAt 1213 (by decide +kernel) rfl)⟩
theorem fp_X7_383 : FP RX7 383 8 39 false (.boolean) := ⟨_, _, _, tyX7, rfl, by decide, in_X7, (gwAt 1213 (by decide +kernel) rfl), tyX7_ok, nmX7, rfl, rfl, fun _ => by cases ‹false = true›⟩
theorem fl_J5_15 : FL RJ5 15 0 0 := ⟨_, _, _, rfl, by decide, in_J4, (gwAt 286 (by decide +kernel) rfl)⟩
theorem fp_J5_15 : FP RJ5 15 0 0 false (.array .byte) := ⟨_, _, _, tyJ4, rfl, by decide, in_J4, (gwAt 286 (by decide +kernel) rfl), tyJ4_ok, nmJ4, rfl, rfl, fun _ => by cases ‹false = true›⟩
theorem fl_J5_22 : FL RJ5 22 0 1 := ⟨_, _, _, rfl, by decide, in_J4, (gwAt 287 (by decide +kernel) rfl)⟩
theorem fp_J5_22 : FP RJ5 22 0 1 false (.byte) := ⟨_, _, _, tyJ4, rfl, by decide, in_J4, (gwAt 287 (by decide +kernel) rfl), tyJ4_ok, nmJ4, rfl, rfl, fun _ => by cases ‹false = true›⟩
theorem fl_J5_73 : FL RJ5 73 0 2 := ⟨_, _, _, rfl, by decide, in_J4, (gwAt 288 (by decide +kernel) rfl)⟩
theorem fp_J5_73 : FP RJ5 73 0 2 false (.boolean) := ⟨_, _, _, tyJ4, rfl, by decide, in_J4, (gwAt 288 (by decide +kernel) rfl), tyJ4_ok, nmJ4, rfl, rfl, fun _ => by cases ‹false = true›⟩
theorem fl_J5_79 : FL RJ5 79 0 3 := ⟨_, _, _, rfl, by decide, in_J4, (gwAt 289 (by decide +kernel) rfl)⟩
theorem fp_J5_79 : FP RJ5 79 0 3 false (.int) := ⟨_, _, _, tyJ4, rfl, by decide, in_J4, (gwAt 289 (by decide +kernel) rfl), tyJ4_ok, nmJ4, rfl, rfl, fun _ => by cases ‹false = true›⟩
theorem cb_X0_init : CB M_X0_init 0 := ⟨(gwAt 66 (by decide +kernel) rfl), (gwAt 100 (by decide +kernel) rfl), ⟨by decide +kernel, by decide +kernel, by decide +kernel⟩, by decide⟩
theorem cs_X6_11 : CI RX6 11 M_X0_init 0 := ⟨cb_X0_init, (gwAt 98 (by decide +kernel) rfl), (gwAt 99 (by decide +kernel) rfl), rfl, rfl⟩
theorem cb_X2_init : CB M_X2_init 0 := ⟨(gwAt 71 (by decide +kernel) rfl), (gwAt 259 (by decide +kernel) rfl), ⟨by decide +kernel, by decide +kernel, by decide +kernel⟩, by decide⟩
theorem cs_X6_53 : CI RX6 53 M_X2_init 0 := ⟨cb_X2_init, (gwAt 257 (by decide +kernel) rfl), (gwAt 258 (by decide +kernel) rfl), rfl, rfl⟩
theorem cb_J4_init_da8c8 : CB M_J4_init_da8c8 0 := ⟨(gwAt 73 (by decide +kernel) rfl), (gwAt 272 (by decide +kernel) rfl), ⟨by decide +kernel, by decide +kernel, by decide +kernel⟩, by decide⟩
theorem cs_X6_60 : CI RX6 60 M_J4_init_da8c8 0 := ⟨cb_J4_init_da8c8, (gwAt 270 (by decide +kernel) rfl), (gwAt 271 (by decide +kernel) rfl), rfl, rfl⟩
theorem cb_X1_become : CB M_X1_become 5 := ⟨(gwAt 67 (by decide +kernel) rfl), (gwAt 349 (by decide +kernel) rfl), ⟨by decide +kernel, by decide +kernel, by decide +kernel⟩, by decide⟩
theorem cs_X6_78 : CV RX6 78 M_X1_become 5 2 := ⟨cb_X1_become, (gwAt 346 (by decide +kernel) rfl), (gwAt 347 (by decide +kernel) rfl), (gwAt 348 (by decide +kernel) rfl), _, rfl, rfl⟩
theorem cb_X1_mayBe : CB M_X1_mayBe 0 := ⟨(gwAt 67 (by decide +kernel) rfl), (gwAt 353 (by decide +kernel) rfl), ⟨by decide +kernel, by decide +kernel, by decide +kernel⟩, by decide⟩
theorem cs_X6_82 : CV RX6 82 M_X1_mayBe 0 2 := ⟨cb_X1_mayBe, (gwAt 350 (by decide +kernel) rfl), (gwAt 351 (by decide +kernel) rfl), (gwAt 352 (by decide +kernel) rfl), _, rfl, rfl⟩
theorem cb_X1_takeFrom : CB M_X1_takeFrom 1 := ⟨(gwAt 67 (by decide +kernel) rfl), (gwAt 365 (by decide +kernel) rfl), ⟨by decide +kernel, by decide +kernel, by decide +kernel⟩, by decide⟩
theorem cs_X6_89 : CV RX6 89 M_X1_takeFrom 1 2 := ⟨cb_X1_takeFrom, (gwAt 362 (by decide +kernel) rfl), (gwAt 363 (by decide +kernel) rfl), (gwAt 364 (by decide +kernel) rfl), _, rfl, rfl⟩
theorem cb_X6_isKind : CB M_X6_isKind 1 := ⟨(gwAt 65 (by decide +kernel) rfl), (gwAt 373 (by decide +kernel) rfl), ⟨by decide +kernel, by decide +kernel, by decide +kernel⟩, by decide⟩
theorem cs_X6_93 : CS RX6 93 M_X6_isKind 1 := ⟨cb_X6_isKind, (gwAt 371 (by decide +kernel) rfl), (gwAt 372 (by decide +kernel) rfl)⟩
theorem cb_X6_isAngle : CB M_X6_isAngle 1 := ⟨(gwAt 65 (by decide +kernel) rfl), (gwAt 376 (by decide +kernel) rfl), ⟨by decide +kernel, by decide +kernel, by decide +kernel⟩, by decide⟩
theorem cs_X6_97 : CS RX6 97 M_X6_isAngle 1 := ⟨cb_X6_isAngle, (gwAt 374 (by decide +kernel) rfl), (gwAt 375 (by decide +kernel) rfl)⟩
theorem cb_X6_isFigure : CB M_X6_isFigure 1 := ⟨(gwAt 65 (by decide +kernel) rfl), (gwAt 379 (by decide +kernel) rfl), ⟨by decide +kernel, by decide +kernel, by decide +kernel⟩, by decide⟩
theorem cs_X6_100 : CS RX6 100 M_X6_isFigure 1 := ⟨cb_X6_isFigure, (gwAt 377 (by decide +kernel) rfl), (gwAt 378 (by decide +kernel) rfl)⟩
theorem cb_X6_codeOf : CB M_X6_codeOf 3 := ⟨(gwAt 65 (by decide +kernel) rfl), (gwAt 382 (by decide +kernel) rfl), ⟨by decide +kernel, by decide +kernel, by decide +kernel⟩, by decide⟩
theorem cs_X6_103 : CS RX6 103 M_X6_codeOf 3 := ⟨cb_X6_codeOf, (gwAt 380 (by decide +kernel) rfl), (gwAt 381 (by decide +kernel) rfl)⟩
theorem cb_X0_append : CB M_X0_append 1 := ⟨(gwAt 66 (by decide +kernel) rfl), (gwAt 386 (by decide +kernel) rfl), ⟨by decide +kernel, by decide +kernel, by decide +kernel⟩, by decide⟩
theorem cs_X6_107 : CV RX6 107 M_X0_append 1 1 := ⟨cb_X0_append, (gwAt 383 (by decide +kernel) rfl), (gwAt 384 (by decide +kernel) rfl), (gwAt 385 (by decide +kernel) rfl), _, rfl, rfl⟩
theorem cb_X0_has : CB M_X0_has 1 := ⟨(gwAt 66 (by decide +kernel) rfl), (gwAt 394 (by decide +kernel) rfl), ⟨by decide +kernel, by decide +kernel, by decide +kernel⟩, by decide⟩
theorem cs_X6_111 : CV RX6 111 M_X0_has 1 1 := ⟨cb_X0_has, (gwAt 391 (by decide +kernel) rfl), (gwAt 392 (by decide +kernel) rfl), (gwAt 393 (by decide +kernel) rfl), _, rfl, rfl⟩
theorem cb_X6_of : CB M_X6_of 2 := ⟨(gwAt 65 (by decide +kernel) rfl), (gwAt 398 (by decide +kernel) rfl), ⟨by decide +kernel, by decide +kernel, by decide +kernel⟩, by decide⟩
theorem cs_X6_114 : CV RX6 114 M_X6_of 2 7 := ⟨cb_X6_of, (gwAt 395 (by decide +kernel) rfl), (gwAt 396 (by decide +kernel) rfl), (gwAt 397 (by decide +kernel) rfl), _, rfl, rfl⟩
theorem cb_X6_angleOf : CB M_X6_angleOf 1 := ⟨(gwAt 65 (by decide +kernel) rfl), (gwAt 407 (by decide +kernel) rfl), ⟨by decide +kernel, by decide +kernel, by decide +kernel⟩, by decide⟩
theorem cs_X6_121 : CS RX6 121 M_X6_angleOf 1 := ⟨cb_X6_angleOf, (gwAt 405 (by decide +kernel) rfl), (gwAt 406 (by decide +kernel) rfl)⟩
theorem cb_J9_floorMod_7cf53 : CB M_J9_floorMod_7cf53 2 := ⟨(gwAt 77 (by decide +kernel) rfl), (gwAt 429 (by decide +kernel) rfl), ⟨by decide +kernel, by decide +kernel, by decide +kernel⟩, by decide⟩
theorem cs_X6_124 : CS RX6 124 M_J9_floorMod_7cf53 2 := ⟨cb_J9_floorMod_7cf53, (gwAt 427 (by decide +kernel) rfl), (gwAt 428 (by decide +kernel) rfl)⟩
theorem cb_X6_withAngle : CB M_X6_withAngle 2 := ⟨(gwAt 65 (by decide +kernel) rfl), (gwAt 432 (by decide +kernel) rfl), ⟨by decide +kernel, by decide +kernel, by decide +kernel⟩, by decide⟩
theorem cs_X6_129 : CS RX6 129 M_X6_withAngle 2 := ⟨cb_X6_withAngle, (gwAt 430 (by decide +kernel) rfl), (gwAt 431 (by decide +kernel) rfl)⟩
theorem cb_X0_takeOut : CB M_X0_takeOut 1 := ⟨(gwAt 66 (by decide +kernel) rfl), (gwAt 440 (by decide +kernel) rfl), ⟨by decide +kernel, by decide +kernel, by decide +kernel⟩, by decide⟩
theorem cs_X6_132 : CV RX6 132 M_X0_takeOut 1 1 := ⟨cb_X0_takeOut, (gwAt 437 (by decide +kernel) rfl), (gwAt 438 (by decide +kernel) rfl), (gwAt 439 (by decide +kernel) rfl), _, rfl, rfl⟩
theorem cb_X0_putIn : CB M_X0_putIn 2 := ⟨(gwAt 66 (by decide +kernel) rfl), (gwAt 444 (by decide +kernel) rfl), ⟨by decide +kernel, by decide +kernel, by decide +kernel⟩, by decide⟩
theorem cs_X6_136 : CV RX6 136 M_X0_putIn 2 1 := ⟨cb_X0_putIn, (gwAt 441 (by decide +kernel) rfl), (gwAt 442 (by decide +kernel) rfl), (gwAt 443 (by decide +kernel) rfl), _, rfl, rfl⟩
theorem cb_X6_kindOf : CB M_X6_kindOf 1 := ⟨(gwAt 65 (by decide +kernel) rfl), (gwAt 401 (by decide +kernel) rfl), ⟨by decide +kernel, by decide +kernel, by decide +kernel⟩, by decide⟩
theorem cs_X6_144 : CS RX6 144 M_X6_kindOf 1 := ⟨cb_X6_kindOf, (gwAt 399 (by decide +kernel) rfl), (gwAt 400 (by decide +kernel) rfl)⟩
theorem cb_X6_isSheetOrPolar : CB M_X6_isSheetOrPolar 1 := ⟨(gwAt 65 (by decide +kernel) rfl), (gwAt 404 (by decide +kernel) rfl), ⟨by decide +kernel, by decide +kernel, by decide +kernel⟩, by decide⟩
theorem cs_X6_147 : CS RX6 147 M_X6_isSheetOrPolar 1 := ⟨cb_X6_isSheetOrPolar, (gwAt 402 (by decide +kernel) rfl), (gwAt 403 (by decide +kernel) rfl)⟩
theorem cb_X6_figureOf : CB M_X6_figureOf 1 := ⟨(gwAt 65 (by decide +kernel) rfl), (gwAt 410 (by decide +kernel) rfl), ⟨by decide +kernel, by decide +kernel, by decide +kernel⟩, by decide⟩
theorem cs_X6_150 : CS RX6 150 M_X6_figureOf 1 := ⟨cb_X6_figureOf, (gwAt 408 (by decide +kernel) rfl), (gwAt 409 (by decide +kernel) rfl)⟩
theorem cb_X6_alongOf : CB M_X6_alongOf 1 := ⟨(gwAt 65 (by decide +kernel) rfl), (gwAt 413 (by decide +kernel) rfl), ⟨by decide +kernel, by decide +kernel, by decide +kernel⟩, by decide⟩
theorem cs_X6_153 : CS RX6 153 M_X6_alongOf 1 := ⟨cb_X6_alongOf, (gwAt 411 (by decide +kernel) rfl), (gwAt 412 (by decide +kernel) rfl)⟩
theorem cb_X6_acrossOf : CB M_X6_acrossOf 1 := ⟨(gwAt 65 (by decide +kernel) rfl), (gwAt 416 (by decide +kernel) rfl), ⟨by decide +kernel, by decide +kernel, by decide +kernel⟩, by decide⟩
theorem cs_X6_156 : CS RX6 156 M_X6_acrossOf 1 := ⟨cb_X6_acrossOf, (gwAt 414 (by decide +kernel) rfl), (gwAt 415 (by decide +kernel) rfl)⟩
theorem cb_X6_isPlateOrRotator : CB M_X6_isPlateOrRotator 1 := ⟨(gwAt 65 (by decide +kernel) rfl), (gwAt 419 (by decide +kernel) rfl), ⟨by decide +kernel, by decide +kernel, by decide +kernel⟩, by decide⟩
theorem cs_X6_159 : CS RX6 159 M_X6_isPlateOrRotator 1 := ⟨cb_X6_isPlateOrRotator, (gwAt 417 (by decide +kernel) rfl), (gwAt 418 (by decide +kernel) rfl)⟩
theorem cb_X6_quartersOf : CB M_X6_quartersOf 1 := ⟨(gwAt 65 (by decide +kernel) rfl), (gwAt 422 (by decide +kernel) rfl), ⟨by decide +kernel, by decide +kernel, by decide +kernel⟩, by decide⟩
theorem cs_X6_162 : CS RX6 162 M_X6_quartersOf 1 := ⟨cb_X6_quartersOf, (gwAt 420 (by decide +kernel) rfl), (gwAt 421 (by decide +kernel) rfl)⟩
theorem cb_X6_isBehind : CB M_X6_isBehind 1 := ⟨(gwAt 65 (by decide +kernel) rfl), (gwAt 467 (by decide +kernel) rfl), ⟨by decide +kernel, by decide +kernel, by decide +kernel⟩, by decide⟩
theorem cs_X6_168 : CV RX6 168 M_X6_isBehind 1 7 := ⟨cb_X6_isBehind, (gwAt 464 (by decide +kernel) rfl), (gwAt 466 (by decide +kernel) rfl), (gwAt 1 (by decide +kernel) rfl), _, rfl, rfl⟩
theorem cb_X6_isLightPart : CB M_X6_isLightPart 1 := ⟨(gwAt 65 (by decide +kernel) rfl), (gwAt 470 (by decide +kernel) rfl), ⟨by decide +kernel, by decide +kernel, by decide +kernel⟩, by decide⟩
theorem cs_X6_171 : CS RX6 171 M_X6_isLightPart 1 := ⟨cb_X6_isLightPart, (gwAt 468 (by decide +kernel) rfl), (gwAt 469 (by decide +kernel) rfl)⟩
theorem cb_X6_shineBehind : CB M_X6_shineBehind 1 := ⟨(gwAt 65 (by decide +kernel) rfl), (gwAt 475 (by decide +kernel) rfl), ⟨by decide +kernel, by decide +kernel, by decide +kernel⟩, by decide⟩
theorem cs_X6_176 : CV RX6 176 M_X6_shineBehind 1 7 := ⟨cb_X6_shineBehind, (gwAt 472 (by decide +kernel) rfl), (gwAt 474 (by decide +kernel) rfl), (gwAt 2 (by decide +kernel) rfl), _, rfl, rfl⟩
theorem cb_X1_part : CB M_X1_part 1 := ⟨(gwAt 67 (by decide +kernel) rfl), (gwAt 510 (by decide +kernel) rfl), ⟨by decide +kernel, by decide +kernel, by decide +kernel⟩, by decide⟩
theorem cs_X6_179 : CV RX6 179 M_X1_part 1 2 := ⟨cb_X1_part, (gwAt 507 (by decide +kernel) rfl), (gwAt 508 (by decide +kernel) rfl), (gwAt 509 (by decide +kernel) rfl), _, rfl, rfl⟩
theorem cb_X6_isFractionPart : CB M_X6_isFractionPart 1 := ⟨(gwAt 65 (by decide +kernel) rfl), (gwAt 517 (by decide +kernel) rfl), ⟨by decide +kernel, by decide +kernel, by decide +kernel⟩, by decide⟩
theorem cs_X6_183 : CS RX6 183 M_X6_isFractionPart 1 := ⟨cb_X6_isFractionPart, (gwAt 515 (by decide +kernel) rfl), (gwAt 516 (by decide +kernel) rfl)⟩
theorem cb_X6_leftInBeam : CB M_X6_leftInBeam 1 := ⟨(gwAt 65 (by decide +kernel) rfl), (gwAt 521 (by decide +kernel) rfl), ⟨by decide +kernel, by decide +kernel, by decide +kernel⟩, by decide⟩
theorem cs_X6_186 : CV RX6 186 M_X6_leftInBeam 1 7 := ⟨cb_X6_leftInBeam, (gwAt 518 (by decide +kernel) rfl), (gwAt 520 (by decide +kernel) rfl), (gwAt 6 (by decide +kernel) rfl), _, rfl, rfl⟩
theorem cb_X1_isDark : CB M_X1_isDark 0 := ⟨(gwAt 67 (by decide +kernel) rfl), (gwAt 538 (by decide +kernel) rfl), ⟨by decide +kernel, by decide +kernel, by decide +kernel⟩, by decide⟩
theorem cs_X6_189 : CV RX6 189 M_X1_isDark 0 2 := ⟨cb_X1_isDark, (gwAt 535 (by decide +kernel) rfl), (gwAt 536 (by decide +kernel) rfl), (gwAt 537 (by decide +kernel) rfl), _, rfl, rfl⟩
theorem cb_X6_squaresAreOver : CB M_X6_squaresAreOver 0 := ⟨(gwAt 65 (by decide +kernel) rfl), (gwAt 542 (by decide +kernel) rfl), ⟨by decide +kernel, by decide +kernel, by decide +kernel⟩, by decide⟩
theorem cs_X6_192 : CV RX6 192 M_X6_squaresAreOver 0 7 := ⟨cb_X6_squaresAreOver, (gwAt 539 (by decide +kernel) rfl), (gwAt 541 (by decide +kernel) rfl), (gwAt 7 (by decide +kernel) rfl), _, rfl, rfl⟩
theorem cb_X1_sumOfSquares : CB M_X1_sumOfSquares 0 := ⟨(gwAt 67 (by decide +kernel) rfl), (gwAt 361 (by decide +kernel) rfl), ⟨by decide +kernel, by decide +kernel, by decide +kernel⟩, by decide⟩
theorem cs_X6_195 : CV RX6 195 M_X1_sumOfSquares 0 2 := ⟨cb_X1_sumOfSquares, (gwAt 566 (by decide +kernel) rfl), (gwAt 359 (by decide +kernel) rfl), (gwAt 360 (by decide +kernel) rfl), _, rfl, rfl⟩
theorem cb_X6_fraction : CB M_X6_fraction 3 := ⟨(gwAt 65 (by decide +kernel) rfl), (gwAt 524 (by decide +kernel) rfl), ⟨by decide +kernel, by decide +kernel, by decide +kernel⟩, by decide⟩
theorem cs_X6_203 : CS RX6 203 M_X6_fraction 3 := ⟨cb_X6_fraction, (gwAt 522 (by decide +kernel) rfl), (gwAt 523 (by decide +kernel) rfl)⟩
theorem cb_X2_meetAll : CB M_X2_meetAll 2 := ⟨(gwAt 71 (by decide +kernel) rfl), (gwAt 578 (by decide +kernel) rfl), ⟨by decide +kernel, by decide +kernel, by decide +kernel⟩, by decide⟩
theorem cs_X6_216 : CV RX6 216 M_X2_meetAll 2 3 := ⟨cb_X2_meetAll, (gwAt 575 (by decide +kernel) rfl), (gwAt 576 (by decide +kernel) rfl), (gwAt 577 (by decide +kernel) rfl), _, rfl, rfl⟩
theorem cb_X3_common : CB M_X3_common 0 := ⟨(gwAt 70 (by decide +kernel) rfl), (gwAt 616 (by decide +kernel) rfl), ⟨by decide +kernel, by decide +kernel, by decide +kernel⟩, by decide⟩
theorem cs_X6_229 : CV RX6 229 M_X3_common 0 4 := ⟨cb_X3_common, (gwAt 613 (by decide +kernel) rfl), (gwAt 614 (by decide +kernel) rfl), (gwAt 615 (by decide +kernel) rfl), _, rfl, rfl⟩
theorem cb_X1_becomeUnit : CB M_X1_becomeUnit 1 := ⟨(gwAt 67 (by decide +kernel) rfl), (gwAt 629 (by decide +kernel) rfl), ⟨by decide +kernel, by decide +kernel, by decide +kernel⟩, by decide⟩
theorem cs_X6_239 : CV RX6 239 M_X1_becomeUnit 1 2 := ⟨cb_X1_becomeUnit, (gwAt 626 (by decide +kernel) rfl), (gwAt 627 (by decide +kernel) rfl), (gwAt 628 (by decide +kernel) rfl), _, rfl, rfl⟩
theorem cb_X0_send : CB M_X0_send 3 := ⟨(gwAt 66 (by decide +kernel) rfl), (gwAt 479 (by decide +kernel) rfl), ⟨by decide +kernel, by decide +kernel, by decide +kernel⟩, by decide⟩
theorem cs_X6_242 : CV RX6 242 M_X0_send 3 1 := ⟨cb_X0_send, (gwAt 476 (by decide +kernel) rfl), (gwAt 477 (by decide +kernel) rfl), (gwAt 478 (by decide +kernel) rfl), _, rfl, rfl⟩
theorem cb_X1_lower : CB M_X1_lower 0 := ⟨(gwAt 67 (by decide +kernel) rfl), (gwAt 506 (by decide +kernel) rfl), ⟨by decide +kernel, by decide +kernel, by decide +kernel⟩, by decide⟩
theorem cs_X6_249 : CV RX6 249 M_X1_lower 0 2 := ⟨cb_X1_lower, (gwAt 630 (by decide +kernel) rfl), (gwAt 504 (by decide +kernel) rfl), (gwAt 505 (by decide +kernel) rfl), _, rfl, rfl⟩
theorem cb_X1_pass : CB M_X1_pass 1 := ⟨(gwAt 67 (by decide +kernel) rfl), (gwAt 483 (by decide +kernel) rfl), ⟨by decide +kernel, by decide +kernel, by decide +kernel⟩, by decide⟩
theorem cs_X6_252 : CV RX6 252 M_X1_pass 1 2 := ⟨cb_X1_pass, (gwAt 635 (by decide +kernel) rfl), (gwAt 481 (by decide +kernel) rfl), (gwAt 482 (by decide +kernel) rfl), _, rfl, rfl⟩
theorem cb_X1_isLike : CB M_X1_isLike 1 := ⟨(gwAt 67 (by decide +kernel) rfl), (gwAt 639 (by decide +kernel) rfl), ⟨by decide +kernel, by decide +kernel, by decide +kernel⟩, by decide⟩
theorem cs_X6_255 : CV RX6 255 M_X1_isLike 1 2 := ⟨cb_X1_isLike, (gwAt 636 (by decide +kernel) rfl), (gwAt 637 (by decide +kernel) rfl), (gwAt 638 (by decide +kernel) rfl), _, rfl, rfl⟩
theorem cb_X3_forget : CB M_X3_forget 0 := ⟨(gwAt 70 (by decide +kernel) rfl), (gwAt 582 (by decide +kernel) rfl), ⟨by decide +kernel, by decide +kernel, by decide +kernel⟩, by decide⟩
theorem cs_X6_259 : CV RX6 259 M_X3_forget 0 4 := ⟨cb_X3_forget, (gwAt 644 (by decide +kernel) rfl), (gwAt 580 (by decide +kernel) rfl), (gwAt 581 (by decide +kernel) rfl), _, rfl, rfl⟩
theorem cb_X6_shineOn : CB M_X6_shineOn 2 := ⟨(gwAt 65 (by decide +kernel) rfl), (gwAt 648 (by decide +kernel) rfl), ⟨by decide +kernel, by decide +kernel, by decide +kernel⟩, by decide⟩
theorem cs_X6_262 : CV RX6 262 M_X6_shineOn 2 7 := ⟨cb_X6_shineOn, (gwAt 645 (by decide +kernel) rfl), (gwAt 647 (by decide +kernel) rfl), (gwAt 11 (by decide +kernel) rfl), _, rfl, rfl⟩
theorem cb_X3_meet : CB M_X3_meet 2 := ⟨(gwAt 70 (by decide +kernel) rfl), (gwAt 591 (by decide +kernel) rfl), ⟨by decide +kernel, by decide +kernel, by decide +kernel⟩, by decide⟩
theorem cs_X6_265 : CV RX6 265 M_X3_meet 2 4 := ⟨cb_X3_meet, (gwAt 649 (by decide +kernel) rfl), (gwAt 589 (by decide +kernel) rfl), (gwAt 590 (by decide +kernel) rfl), _, rfl, rfl⟩
theorem cb_X6_isCrossed : CB M_X6_isCrossed 2 := ⟨(gwAt 65 (by decide +kernel) rfl), (gwAt 665 (by decide +kernel) rfl), ⟨by decide +kernel, by decide +kernel, by decide +kernel⟩, by decide⟩
theorem cs_X6_269 : CV RX6 269 M_X6_isCrossed 2 7 := ⟨cb_X6_isCrossed, (gwAt 662 (by decide +kernel) rfl), (gwAt 664 (by decide +kernel) rfl), (gwAt 12 (by decide +kernel) rfl), _, rfl, rfl⟩
theorem cb_X0_howMany : CB M_X0_howMany 2 := ⟨(gwAt 66 (by decide +kernel) rfl), (gwAt 673 (by decide +kernel) rfl), ⟨by decide +kernel, by decide +kernel, by decide +kernel⟩, by decide⟩
theorem cs_X6_273 : CV RX6 273 M_X0_howMany 2 1 := ⟨cb_X0_howMany, (gwAt 670 (by decide +kernel) rfl), (gwAt 671 (by decide +kernel) rfl), (gwAt 672 (by decide +kernel) rfl), _, rfl, rfl⟩
theorem cb_X6_isList : CB M_X6_isList 1 := ⟨(gwAt 65 (by decide +kernel) rfl), (gwAt 680 (by decide +kernel) rfl), ⟨by decide +kernel, by decide +kernel, by decide +kernel⟩, by decide⟩
theorem cs_X6_276 : CS RX6 276 M_X6_isList 1 := ⟨cb_X6_isList, (gwAt 678 (by decide +kernel) rfl), (gwAt 679 (by decide +kernel) rfl)⟩
theorem cb_X6_makeList : CB M_X6_makeList 2 := ⟨(gwAt 65 (by decide +kernel) rfl), (gwAt 684 (by decide +kernel) rfl), ⟨by decide +kernel, by decide +kernel, by decide +kernel⟩, by decide⟩
theorem cs_X6_279 : CV RX6 279 M_X6_makeList 2 7 := ⟨cb_X6_makeList, (gwAt 681 (by decide +kernel) rfl), (gwAt 683 (by decide +kernel) rfl), (gwAt 13 (by decide +kernel) rfl), _, rfl, rfl⟩
theorem cb_X6_isMissing : CB M_X6_isMissing 1 := ⟨(gwAt 65 (by decide +kernel) rfl), (gwAt 692 (by decide +kernel) rfl), ⟨by decide +kernel, by decide +kernel, by decide +kernel⟩, by decide⟩
theorem cs_X6_282 : CV RX6 282 M_X6_isMissing 1 7 := ⟨cb_X6_isMissing, (gwAt 689 (by decide +kernel) rfl), (gwAt 691 (by decide +kernel) rfl), (gwAt 14 (by decide +kernel) rfl), _, rfl, rfl⟩
theorem cb_X6_hasListPlace : CB M_X6_hasListPlace 2 := ⟨(gwAt 65 (by decide +kernel) rfl), (gwAt 696 (by decide +kernel) rfl), ⟨by decide +kernel, by decide +kernel, by decide +kernel⟩, by decide⟩
theorem cs_X6_285 : CV RX6 285 M_X6_hasListPlace 2 7 := ⟨cb_X6_hasListPlace, (gwAt 693 (by decide +kernel) rfl), (gwAt 695 (by decide +kernel) rfl), (gwAt 15 (by decide +kernel) rfl), _, rfl, rfl⟩
theorem cb_X6_refind : CB M_X6_refind 1 := ⟨(gwAt 65 (by decide +kernel) rfl), (gwAt 716 (by decide +kernel) rfl), ⟨by decide +kernel, by decide +kernel, by decide +kernel⟩, by decide⟩
theorem cs_X6_288 : CV RX6 288 M_X6_refind 1 7 := ⟨cb_X6_refind, (gwAt 713 (by decide +kernel) rfl), (gwAt 715 (by decide +kernel) rfl), (gwAt 16 (by decide +kernel) rfl), _, rfl, rfl⟩
theorem cb_X6_tellLight : CB M_X6_tellLight 1 := ⟨(gwAt 65 (by decide +kernel) rfl), (gwAt 730 (by decide +kernel) rfl), ⟨by decide +kernel, by decide +kernel, by decide +kernel⟩, by decide⟩
theorem cs_X6_291 : CV RX6 291 M_X6_tellLight 1 7 := ⟨cb_X6_tellLight, (gwAt 727 (by decide +kernel) rfl), (gwAt 729 (by decide +kernel) rfl), (gwAt 17 (by decide +kernel) rfl), _, rfl, rfl⟩
theorem cb_X0_canGoBack : CB M_X0_canGoBack 0 := ⟨(gwAt 66 (by decide +kernel) rfl), (gwAt 738 (by decide +kernel) rfl), ⟨by decide +kernel, by decide +kernel, by decide +kernel⟩, by decide⟩
theorem cs_X6_294 : CV RX6 294 M_X0_canGoBack 0 1 := ⟨cb_X0_canGoBack, (gwAt 735 (by decide +kernel) rfl), (gwAt 736 (by decide +kernel) rfl), (gwAt 737 (by decide +kernel) rfl), _, rfl, rfl⟩
theorem cb_X6_backwards : CB M_X6_backwards 1 := ⟨(gwAt 65 (by decide +kernel) rfl), (gwAt 743 (by decide +kernel) rfl), ⟨by decide +kernel, by decide +kernel, by decide +kernel⟩, by decide⟩
theorem cs_X6_297 : CS RX6 297 M_X6_backwards 1 := ⟨cb_X6_backwards, (gwAt 741 (by decide +kernel) rfl), (gwAt 742 (by decide +kernel) rfl)⟩
theorem cb_X6_measure : CB M_X6_measure 1 := ⟨(gwAt 65 (by decide +kernel) rfl), (gwAt 755 (by decide +kernel) rfl), ⟨by decide +kernel, by decide +kernel, by decide +kernel⟩, by decide⟩
theorem cs_X6_300 : CV RX6 300 M_X6_measure 1 7 := ⟨cb_X6_measure, (gwAt 752 (by decide +kernel) rfl), (gwAt 754 (by decide +kernel) rfl), (gwAt 18 (by decide +kernel) rfl), _, rfl, rfl⟩
theorem cb_X6_floatBits : CB M_X6_floatBits 1 := ⟨(gwAt 65 (by decide +kernel) rfl), (gwAt 758 (by decide +kernel) rfl), ⟨by decide +kernel, by decide +kernel, by decide +kernel⟩, by decide⟩
theorem cs_X6_304 : CS RX6 304 M_X6_floatBits 1 := ⟨cb_X6_floatBits, (gwAt 756 (by decide +kernel) rfl), (gwAt 757 (by decide +kernel) rfl)⟩
theorem cb_X6_doubleBits : CB M_X6_doubleBits 1 := ⟨(gwAt 65 (by decide +kernel) rfl), (gwAt 761 (by decide +kernel) rfl), ⟨by decide +kernel, by decide +kernel, by decide +kernel⟩, by decide⟩
theorem cs_X6_308 : CS RX6 308 M_X6_doubleBits 1 := ⟨cb_X6_doubleBits, (gwAt 759 (by decide +kernel) rfl), (gwAt 760 (by decide +kernel) rfl)⟩
theorem cb_X6_isCell : CB M_X6_isCell 1 := ⟨(gwAt 65 (by decide +kernel) rfl), (gwAt 772 (by decide +kernel) rfl), ⟨by decide +kernel, by decide +kernel, by decide +kernel⟩, by decide⟩
theorem cs_X6_312 : CS RX6 312 M_X6_isCell 1 := ⟨cb_X6_isCell, (gwAt 770 (by decide +kernel) rfl), (gwAt 771 (by decide +kernel) rfl)⟩
theorem cb_X6_isRack : CB M_X6_isRack 1 := ⟨(gwAt 65 (by decide +kernel) rfl), (gwAt 793 (by decide +kernel) rfl), ⟨by decide +kernel, by decide +kernel, by decide +kernel⟩, by decide⟩
theorem cs_X6_321 : CS RX6 321 M_X6_isRack 1 := ⟨cb_X6_isRack, (gwAt 791 (by decide +kernel) rfl), (gwAt 792 (by decide +kernel) rfl)⟩
theorem cb_X6_isRackPlace : CB M_X6_isRackPlace 1 := ⟨(gwAt 65 (by decide +kernel) rfl), (gwAt 796 (by decide +kernel) rfl), ⟨by decide +kernel, by decide +kernel, by decide +kernel⟩, by decide⟩
theorem cs_X6_324 : CS RX6 324 M_X6_isRackPlace 1 := ⟨cb_X6_isRackPlace, (gwAt 794 (by decide +kernel) rfl), (gwAt 795 (by decide +kernel) rfl)⟩
theorem cb_X6_takesKind : CB M_X6_takesKind 2 := ⟨(gwAt 65 (by decide +kernel) rfl), (gwAt 799 (by decide +kernel) rfl), ⟨by decide +kernel, by decide +kernel, by decide +kernel⟩, by decide⟩
theorem cs_X6_330 : CS RX6 330 M_X6_takesKind 2 := ⟨cb_X6_takesKind, (gwAt 797 (by decide +kernel) rfl), (gwAt 798 (by decide +kernel) rfl)⟩
theorem cb_X6_rackedCode : CB M_X6_rackedCode 2 := ⟨(gwAt 65 (by decide +kernel) rfl), (gwAt 807 (by decide +kernel) rfl), ⟨by decide +kernel, by decide +kernel, by decide +kernel⟩, by decide⟩
theorem cs_X6_337 : CV RX6 337 M_X6_rackedCode 2 7 := ⟨cb_X6_rackedCode, (gwAt 804 (by decide +kernel) rfl), (gwAt 806 (by decide +kernel) rfl), (gwAt 19 (by decide +kernel) rfl), _, rfl, rfl⟩
theorem cb_X0_racked : CB M_X0_racked 1 := ⟨(gwAt 66 (by decide +kernel) rfl), (gwAt 823 (by decide +kernel) rfl), ⟨by decide +kernel, by decide +kernel, by decide +kernel⟩, by decide⟩
theorem cs_X6_340 : CV RX6 340 M_X0_racked 1 1 := ⟨cb_X0_racked, (gwAt 820 (by decide +kernel) rfl), (gwAt 821 (by decide +kernel) rfl), (gwAt 822 (by decide +kernel) rfl), _, rfl, rfl⟩
theorem cb_X4_readsText : CB M_X4_readsText 0 := ⟨(gwAt 68 (by decide +kernel) rfl), (gwAt 839 (by decide +kernel) rfl), ⟨by decide +kernel, by decide +kernel, by decide +kernel⟩, by decide⟩
theorem cs_X6_349 : CV RX6 349 M_X4_readsText 0 5 := ⟨cb_X4_readsText, (gwAt 836 (by decide +kernel) rfl), (gwAt 837 (by decide +kernel) rfl), (gwAt 838 (by decide +kernel) rfl), _, rfl, rfl⟩
theorem cb_X5_forget : CB M_X5_forget 0 := ⟨(gwAt 69 (by decide +kernel) rfl), (gwAt 561 (by decide +kernel) rfl), ⟨by decide +kernel, by decide +kernel, by decide +kernel⟩, by decide⟩
theorem cs_X6_352 : CV RX6 352 M_X5_forget 0 6 := ⟨cb_X5_forget, (gwAt 558 (by decide +kernel) rfl), (gwAt 559 (by decide +kernel) rfl), (gwAt 560 (by decide +kernel) rfl), _, rfl, rfl⟩
theorem cb_X5_note : CB M_X5_note 2 := ⟨(gwAt 69 (by decide +kernel) rfl), (gwAt 565 (by decide +kernel) rfl), ⟨by decide +kernel, by decide +kernel, by decide +kernel⟩, by decide⟩
theorem cs_X6_359 : CV RX6 359 M_X5_note 2 6 := ⟨cb_X5_note, (gwAt 562 (by decide +kernel) rfl), (gwAt 563 (by decide +kernel) rfl), (gwAt 564 (by decide +kernel) rfl), _, rfl, rfl⟩
theorem cb_X6_spell : CB M_X6_spell 0 := ⟨(gwAt 65 (by decide +kernel) rfl), (gwAt 986 (by decide +kernel) rfl), ⟨by decide +kernel, by decide +kernel, by decide +kernel⟩, by decide⟩
theorem cs_X6_384 : CV RX6 384 M_X6_spell 0 7 := ⟨cb_X6_spell, (gwAt 983 (by decide +kernel) rfl), (gwAt 985 (by decide +kernel) rfl), (gwAt 30 (by decide +kernel) rfl), _, rfl, rfl⟩
theorem cb_J4_length_8abf5 : CB M_J4_length_8abf5 0 := ⟨(gwAt 73 (by decide +kernel) rfl), (gwAt 1131 (by decide +kernel) rfl), ⟨by decide +kernel, by decide +kernel, by decide +kernel⟩, by decide⟩
theorem cs_X6_387 : CV RX6 387 M_J4_length_8abf5 0 0 := ⟨cb_J4_length_8abf5, (gwAt 1128 (by decide +kernel) rfl), (gwAt 1129 (by decide +kernel) rfl), (gwAt 1130 (by decide +kernel) rfl), _, rfl, rfl⟩
theorem cb_J4_charAt_5068e : CB M_J4_charAt_5068e 1 := ⟨(gwAt 73 (by decide +kernel) rfl), (gwAt 1138 (by decide +kernel) rfl), ⟨by decide +kernel, by decide +kernel, by decide +kernel⟩, by decide⟩
theorem cs_X6_389 : CV RX6 389 M_J4_charAt_5068e 1 0 := ⟨cb_J4_charAt_5068e, (gwAt 1135 (by decide +kernel) rfl), (gwAt 1136 (by decide +kernel) rfl), (gwAt 1137 (by decide +kernel) rfl), _, rfl, rfl⟩
theorem cb_X0_takeFrom : CB M_X0_takeFrom 1 := ⟨(gwAt 66 (by decide +kernel) rfl), (gwAt 1152 (by decide +kernel) rfl), ⟨by decide +kernel, by decide +kernel, by decide +kernel⟩, by decide⟩
theorem cs_X6_393 : CV RX6 393 M_X0_takeFrom 1 1 := ⟨cb_X0_takeFrom, (gwAt 1149 (by decide +kernel) rfl), (gwAt 1150 (by decide +kernel) rfl), (gwAt 1151 (by decide +kernel) rfl), _, rfl, rfl⟩
theorem cb_X0_litCells : CB M_X0_litCells 0 := ⟨(gwAt 66 (by decide +kernel) rfl), (gwAt 1166 (by decide +kernel) rfl), ⟨by decide +kernel, by decide +kernel, by decide +kernel⟩, by decide⟩
theorem cs_X6_400 : CV RX6 400 M_X0_litCells 0 1 := ⟨cb_X0_litCells, (gwAt 1163 (by decide +kernel) rfl), (gwAt 1164 (by decide +kernel) rfl), (gwAt 1165 (by decide +kernel) rfl), _, rfl, rfl⟩
theorem cb_X1_shrink : CB M_X1_shrink 0 := ⟨(gwAt 67 (by decide +kernel) rfl), (gwAt 546 (by decide +kernel) rfl), ⟨by decide +kernel, by decide +kernel, by decide +kernel⟩, by decide⟩
theorem cs_X6_403 : CV RX6 403 M_X1_shrink 0 2 := ⟨cb_X1_shrink, (gwAt 543 (by decide +kernel) rfl), (gwAt 544 (by decide +kernel) rfl), (gwAt 545 (by decide +kernel) rfl), _, rfl, rfl⟩
theorem cb_X1_firstOver : CB M_X1_firstOver 0 := ⟨(gwAt 67 (by decide +kernel) rfl), (gwAt 551 (by decide +kernel) rfl), ⟨by decide +kernel, by decide +kernel, by decide +kernel⟩, by decide⟩
theorem cs_X6_406 : CV RX6 406 M_X1_firstOver 0 2 := ⟨cb_X1_firstOver, (gwAt 548 (by decide +kernel) rfl), (gwAt 549 (by decide +kernel) rfl), (gwAt 550 (by decide +kernel) rfl), _, rfl, rfl⟩
theorem cb_X6_commonDivisor : CB M_X6_commonDivisor 2 := ⟨(gwAt 65 (by decide +kernel) rfl), (gwAt 527 (by decide +kernel) rfl), ⟨by decide +kernel, by decide +kernel, by decide +kernel⟩, by decide⟩
theorem cs_X6_409 : CS RX6 409 M_X6_commonDivisor 2 := ⟨cb_X6_commonDivisor, (gwAt 525 (by decide +kernel) rfl), (gwAt 526 (by decide +kernel) rfl)⟩
theorem cb_J9_abs_067f4 : CB M_J9_abs_067f4 1 := ⟨(gwAt 77 (by decide +kernel) rfl), (gwAt 530 (by decide +kernel) rfl), ⟨by decide +kernel, by decide +kernel, by decide +kernel⟩, by decide⟩
theorem cs_X6_413 : CS RX6 413 M_J9_abs_067f4 1 := ⟨cb_J9_abs_067f4, (gwAt 528 (by decide +kernel) rfl), (gwAt 529 (by decide +kernel) rfl)⟩
theorem cb_X6_isFrom : CB M_X6_isFrom 3 := ⟨(gwAt 65 (by decide +kernel) rfl), (gwAt 720 (by decide +kernel) rfl), ⟨by decide +kernel, by decide +kernel, by decide +kernel⟩, by decide⟩
theorem cs_X6_419 : CS RX6 419 M_X6_isFrom 3 := ⟨cb_X6_isFrom, (gwAt 718 (by decide +kernel) rfl), (gwAt 719 (by decide +kernel) rfl)⟩
theorem cb_J4_setLength_d00df : CB M_J4_setLength_d00df 1 := ⟨(gwAt 73 (by decide +kernel) rfl), (gwAt 990 (by decide +kernel) rfl), ⟨by decide +kernel, by decide +kernel, by decide +kernel⟩, by decide⟩
theorem cs_X6_435 : CV RX6 435 M_J4_setLength_d00df 1 0 := ⟨cb_J4_setLength_d00df, (gwAt 987 (by decide +kernel) rfl), (gwAt 988 (by decide +kernel) rfl), (gwAt 989 (by decide +kernel) rfl), _, rfl, rfl⟩
theorem cb_J4_append_cf468 : CB M_J4_append_cf468 1 := ⟨(gwAt 73 (by decide +kernel) rfl), (gwAt 1044 (by decide +kernel) rfl), ⟨by decide +kernel, by decide +kernel, by decide +kernel⟩, by decide⟩
theorem cs_X6_438 : CV RX6 438 M_J4_append_cf468 1 0 := ⟨cb_J4_append_cf468, (gwAt 1041 (by decide +kernel) rfl), (gwAt 1042 (by decide +kernel) rfl), (gwAt 1043 (by decide +kernel) rfl), _, rfl, rfl⟩
theorem cb_X6_spellFilter : CB M_X6_spellFilter 1 := ⟨(gwAt 65 (by decide +kernel) rfl), (gwAt 1088 (by decide +kernel) rfl), ⟨by decide +kernel, by decide +kernel, by decide +kernel⟩, by decide⟩
theorem cs_X6_441 : CV RX6 441 M_X6_spellFilter 1 7 := ⟨cb_X6_spellFilter, (gwAt 1085 (by decide +kernel) rfl), (gwAt 1087 (by decide +kernel) rfl), (gwAt 31 (by decide +kernel) rfl), _, rfl, rfl⟩
theorem cb_X6_tellsAngle : CB M_X6_tellsAngle 1 := ⟨(gwAt 65 (by decide +kernel) rfl), (gwAt 942 (by decide +kernel) rfl), ⟨by decide +kernel, by decide +kernel, by decide +kernel⟩, by decide⟩
theorem cs_X6_449 : CS RX6 449 M_X6_tellsAngle 1 := ⟨cb_X6_tellsAngle, (gwAt 1101 (by decide +kernel) rfl), (gwAt 941 (by decide +kernel) rfl)⟩
theorem cb_J4_append_bf812 : CB M_J4_append_bf812 1 := ⟨(gwAt 73 (by decide +kernel) rfl), (gwAt 1105 (by decide +kernel) rfl), ⟨by decide +kernel, by decide +kernel, by decide +kernel⟩, by decide⟩
theorem cs_X6_452 : CV RX6 452 M_J4_append_bf812 1 0 := ⟨cb_J4_append_bf812, (gwAt 1102 (by decide +kernel) rfl), (gwAt 1103 (by decide +kernel) rfl), (gwAt 1104 (by decide +kernel) rfl), _, rfl, rfl⟩
theorem cb_X6_tellsFigure : CB M_X6_tellsFigure 1 := ⟨(gwAt 65 (by decide +kernel) rfl), (gwAt 949 (by decide +kernel) rfl), ⟨by decide +kernel, by decide +kernel, by decide +kernel⟩, by decide⟩
theorem cs_X6_455 : CS RX6 455 M_X6_tellsFigure 1 := ⟨cb_X6_tellsFigure, (gwAt 1127 (by decide +kernel) rfl), (gwAt 948 (by decide +kernel) rfl)⟩
theorem cs_X0_40 : CV RX0 40 M_X1_takeFrom 1 2 := ⟨cb_X1_takeFrom, (gwAt 1153 (by decide +kernel) rfl), (gwAt 363 (by decide +kernel) rfl), (gwAt 364 (by decide +kernel) rfl), _, rfl, rfl⟩
theorem cs_X0_54 : CV RX0 54 M_X1_pass 1 2 := ⟨cb_X1_pass, (gwAt 480 (by decide +kernel) rfl), (gwAt 481 (by decide +kernel) rfl), (gwAt 482 (by decide +kernel) rfl), _, rfl, rfl⟩
theorem cs_X1_28 : CV RX1 28 M_X1_become 5 2 := ⟨cb_X1_become, (gwAt 366 (by decide +kernel) rfl), (gwAt 347 (by decide +kernel) rfl), (gwAt 348 (by decide +kernel) rfl), _, rfl, rfl⟩
theorem cb_X1_isWithin : CB M_X1_isWithin 1 := ⟨(gwAt 67 (by decide +kernel) rfl), (gwAt 357 (by decide +kernel) rfl), ⟨by decide +kernel, by decide +kernel, by decide +kernel⟩, by decide⟩
theorem cs_X1_32 : CV RX1 32 M_X1_isWithin 1 2 := ⟨cb_X1_isWithin, (gwAt 354 (by decide +kernel) rfl), (gwAt 356 (by decide +kernel) rfl), (gwAt 0 (by decide +kernel) rfl), _, rfl, rfl⟩
theorem cs_X1_36 : CV RX1 36 M_X1_sumOfSquares 0 2 := ⟨cb_X1_sumOfSquares, (gwAt 358 (by decide +kernel) rfl), (gwAt 359 (by decide +kernel) rfl), (gwAt 360 (by decide +kernel) rfl), _, rfl, rfl⟩
theorem cb_J9_max_7cf53 : CB M_J9_max_7cf53 2 := ⟨(gwAt 77 (by decide +kernel) rfl), (gwAt 598 (by decide +kernel) rfl), ⟨by decide +kernel, by decide +kernel, by decide +kernel⟩, by decide⟩
theorem cs_X1_40 : CS RX1 40 M_J9_max_7cf53 2 := ⟨cb_J9_max_7cf53, (gwAt 596 (by decide +kernel) rfl), (gwAt 597 (by decide +kernel) rfl)⟩
theorem cb_J13_compare_74951 : CB M_J13_compare_74951 2 := ⟨(gwAt 79 (by decide +kernel) rfl), (gwAt 601 (by decide +kernel) rfl), ⟨by decide +kernel, by decide +kernel, by decide +kernel⟩, by decide⟩
theorem cs_X1_46 : CS RX1 46 M_J13_compare_74951 2 := ⟨cb_J13_compare_74951, (gwAt 599 (by decide +kernel) rfl), (gwAt 600 (by decide +kernel) rfl)⟩
theorem cb_X1_isOver : CB M_X1_isOver 1 := ⟨(gwAt 67 (by decide +kernel) rfl), (gwAt 554 (by decide +kernel) rfl), ⟨by decide +kernel, by decide +kernel, by decide +kernel⟩, by decide⟩
theorem cs_X1_56 : CS RX1 56 M_X1_isOver 1 := ⟨cb_X1_isOver, (gwAt 552 (by decide +kernel) rfl), (gwAt 553 (by decide +kernel) rfl)⟩
theorem cb_X1_passGrey : CB M_X1_passGrey 2 := ⟨(gwAt 67 (by decide +kernel) rfl), (gwAt 489 (by decide +kernel) rfl), ⟨by decide +kernel, by decide +kernel, by decide +kernel⟩, by decide⟩
theorem cs_X1_72 : CV RX1 72 M_X1_passGrey 2 2 := ⟨cb_X1_passGrey, (gwAt 486 (by decide +kernel) rfl), (gwAt 488 (by decide +kernel) rfl), (gwAt 3 (by decide +kernel) rfl), _, rfl, rfl⟩
theorem cb_X1_passSheet : CB M_X1_passSheet 3 := ⟨(gwAt 67 (by decide +kernel) rfl), (gwAt 496 (by decide +kernel) rfl), ⟨by decide +kernel, by decide +kernel, by decide +kernel⟩, by decide⟩
theorem cs_X1_85 : CV RX1 85 M_X1_passSheet 3 2 := ⟨cb_X1_passSheet, (gwAt 493 (by decide +kernel) rfl), (gwAt 495 (by decide +kernel) rfl), (gwAt 4 (by decide +kernel) rfl), _, rfl, rfl⟩
theorem cb_X1_turnQuarter : CB M_X1_turnQuarter 1 := ⟨(gwAt 67 (by decide +kernel) rfl), (gwAt 502 (by decide +kernel) rfl), ⟨by decide +kernel, by decide +kernel, by decide +kernel⟩, by decide⟩
theorem cs_X1_92 : CV RX1 92 M_X1_turnQuarter 1 2 := ⟨cb_X1_turnQuarter, (gwAt 499 (by decide +kernel) rfl), (gwAt 501 (by decide +kernel) rfl), (gwAt 5 (by decide +kernel) rfl), _, rfl, rfl⟩
theorem cs_X1_96 : CV RX1 96 M_X1_lower 0 2 := ⟨cb_X1_lower, (gwAt 503 (by decide +kernel) rfl), (gwAt 504 (by decide +kernel) rfl), (gwAt 505 (by decide +kernel) rfl), _, rfl, rfl⟩
theorem cs_X2_18 : CV RX2 18 M_X3_forget 0 4 := ⟨cb_X3_forget, (gwAt 579 (by decide +kernel) rfl), (gwAt 580 (by decide +kernel) rfl), (gwAt 581 (by decide +kernel) rfl), _, rfl, rfl⟩
theorem cs_X2_29 : CV RX2 29 M_X1_takeFrom 1 2 := ⟨cb_X1_takeFrom, (gwAt 583 (by decide +kernel) rfl), (gwAt 363 (by decide +kernel) rfl), (gwAt 364 (by decide +kernel) rfl), _, rfl, rfl⟩
theorem cb_X2_goOn : CB M_X2_goOn 5 := ⟨(gwAt 71 (by decide +kernel) rfl), (gwAt 587 (by decide +kernel) rfl), ⟨by decide +kernel, by decide +kernel, by decide +kernel⟩, by decide⟩
theorem cs_X2_33 : CV RX2 33 M_X2_goOn 5 3 := ⟨cb_X2_goOn, (gwAt 584 (by decide +kernel) rfl), (gwAt 586 (by decide +kernel) rfl), (gwAt 8 (by decide +kernel) rfl), _, rfl, rfl⟩
theorem cs_X2_41 : CV RX2 41 M_X3_meet 2 4 := ⟨cb_X3_meet, (gwAt 588 (by decide +kernel) rfl), (gwAt 589 (by decide +kernel) rfl), (gwAt 590 (by decide +kernel) rfl), _, rfl, rfl⟩
theorem cs_X2_49 : CV RX2 49 M_X1_pass 1 2 := ⟨cb_X1_pass, (gwAt 612 (by decide +kernel) rfl), (gwAt 481 (by decide +kernel) rfl), (gwAt 482 (by decide +kernel) rfl), _, rfl, rfl⟩
theorem cb_X1_compareI : CB M_X1_compareI 1 := ⟨(gwAt 67 (by decide +kernel) rfl), (gwAt 595 (by decide +kernel) rfl), ⟨by decide +kernel, by decide +kernel, by decide +kernel⟩, by decide⟩
theorem cs_X3_33 : CV RX3 33 M_X1_compareI 1 2 := ⟨cb_X1_compareI, (gwAt 592 (by decide +kernel) rfl), (gwAt 593 (by decide +kernel) rfl), (gwAt 594 (by decide +kernel) rfl), _, rfl, rfl⟩
theorem cs_X3_37 : CV RX3 37 M_X1_takeFrom 1 2 := ⟨cb_X1_takeFrom, (gwAt 602 (by decide +kernel) rfl), (gwAt 363 (by decide +kernel) rfl), (gwAt 364 (by decide +kernel) rfl), _, rfl, rfl⟩
theorem cb_X3_remember : CB M_X3_remember 1 := ⟨(gwAt 70 (by decide +kernel) rfl), (gwAt 606 (by decide +kernel) rfl), ⟨by decide +kernel, by decide +kernel, by decide +kernel⟩, by decide⟩
theorem cs_X3_47 : CV RX3 47 M_X3_remember 1 4 := ⟨cb_X3_remember, (gwAt 603 (by decide +kernel) rfl), (gwAt 605 (by decide +kernel) rfl), (gwAt 9 (by decide +kernel) rfl), _, rfl, rfl⟩
theorem cb_X3_isSeen : CB M_X3_isSeen 2 := ⟨(gwAt 70 (by decide +kernel) rfl), (gwAt 610 (by decide +kernel) rfl), ⟨by decide +kernel, by decide +kernel, by decide +kernel⟩, by decide⟩
theorem cs_X3_50 : CV RX3 50 M_X3_isSeen 2 4 := ⟨cb_X3_isSeen, (gwAt 607 (by decide +kernel) rfl), (gwAt 609 (by decide +kernel) rfl), (gwAt 10 (by decide +kernel) rfl), _, rfl, rfl⟩
theorem cs_X3_54 : CV RX3 54 M_X1_part 1 2 := ⟨cb_X1_part, (gwAt 611 (by decide +kernel) rfl), (gwAt 508 (by decide +kernel) rfl), (gwAt 509 (by decide +kernel) rfl), _, rfl, rfl⟩
theorem cs_X3_58 : CS RX3 58 M_J9_max_7cf53 2 := ⟨cb_J9_max_7cf53, (gwAt 617 (by decide +kernel) rfl), (gwAt 597 (by decide +kernel) rfl)⟩
theorem cb_X4_readsItems : CB M_X4_readsItems 0 := ⟨(gwAt 68 (by decide +kernel) rfl), (gwAt 843 (by decide +kernel) rfl), ⟨by decide +kernel, by decide +kernel, by decide +kernel⟩, by decide⟩
theorem cs_X4_31 : CV RX4 31 M_X4_readsItems 0 5 := ⟨cb_X4_readsItems, (gwAt 840 (by decide +kernel) rfl), (gwAt 842 (by decide +kernel) rfl), (gwAt 20 (by decide +kernel) rfl), _, rfl, rfl⟩
theorem cb_X4_next : CB M_X4_next 0 := ⟨(gwAt 68 (by decide +kernel) rfl), (gwAt 851 (by decide +kernel) rfl), ⟨by decide +kernel, by decide +kernel, by decide +kernel⟩, by decide⟩
theorem cs_X4_38 : CV RX4 38 M_X4_next 0 5 := ⟨cb_X4_next, (gwAt 848 (by decide +kernel) rfl), (gwAt 850 (by decide +kernel) rfl), (gwAt 22 (by decide +kernel) rfl), _, rfl, rfl⟩
theorem cb_X4_readsItem : CB M_X4_readsItem 0 := ⟨(gwAt 68 (by decide +kernel) rfl), (gwAt 847 (by decide +kernel) rfl), ⟨by decide +kernel, by decide +kernel, by decide +kernel⟩, by decide⟩
theorem cs_X4_42 : CV RX4 42 M_X4_readsItem 0 5 := ⟨cb_X4_readsItem, (gwAt 844 (by decide +kernel) rfl), (gwAt 846 (by decide +kernel) rfl), (gwAt 21 (by decide +kernel) rfl), _, rfl, rfl⟩
theorem cb_X4_takes : CB M_X4_takes 1 := ⟨(gwAt 68 (by decide +kernel) rfl), (gwAt 953 (by decide +kernel) rfl), ⟨by decide +kernel, by decide +kernel, by decide +kernel⟩, by decide⟩
theorem cs_X4_45 : CV RX4 45 M_X4_takes 1 5 := ⟨cb_X4_takes, (gwAt 950 (by decide +kernel) rfl), (gwAt 952 (by decide +kernel) rfl), (gwAt 25 (by decide +kernel) rfl), _, rfl, rfl⟩
theorem cb_X4_readsFilter : CB M_X4_readsFilter 1 := ⟨(gwAt 68 (by decide +kernel) rfl), (gwAt 939 (by decide +kernel) rfl), ⟨by decide +kernel, by decide +kernel, by decide +kernel⟩, by decide⟩
theorem cs_X4_57 : CV RX4 57 M_X4_readsFilter 1 5 := ⟨cb_X4_readsFilter, (gwAt 936 (by decide +kernel) rfl), (gwAt 938 (by decide +kernel) rfl), (gwAt 23 (by decide +kernel) rfl), _, rfl, rfl⟩
theorem cb_X4_readsGroup : CB M_X4_readsGroup 0 := ⟨(gwAt 68 (by decide +kernel) rfl), (gwAt 967 (by decide +kernel) rfl), ⟨by decide +kernel, by decide +kernel, by decide +kernel⟩, by decide⟩
theorem cs_X4_61 : CV RX4 61 M_X4_readsGroup 0 5 := ⟨cb_X4_readsGroup, (gwAt 964 (by decide +kernel) rfl), (gwAt 966 (by decide +kernel) rfl), (gwAt 28 (by decide +kernel) rfl), _, rfl, rfl⟩
theorem cb_X4_takeFigure : CB M_X4_takeFigure 1 := ⟨(gwAt 68 (by decide +kernel) rfl), (gwAt 946 (by decide +kernel) rfl), ⟨by decide +kernel, by decide +kernel, by decide +kernel⟩, by decide⟩
theorem cs_X4_64 : CV RX4 64 M_X4_takeFigure 1 5 := ⟨cb_X4_takeFigure, (gwAt 943 (by decide +kernel) rfl), (gwAt 945 (by decide +kernel) rfl), (gwAt 24 (by decide +kernel) rfl), _, rfl, rfl⟩
theorem cb_X4_repeat : CB M_X4_repeat 2 := ⟨(gwAt 68 (by decide +kernel) rfl), (gwAt 971 (by decide +kernel) rfl), ⟨by decide +kernel, by decide +kernel, by decide +kernel⟩, by decide⟩
theorem cs_X4_67 : CV RX4 67 M_X4_repeat 2 5 := ⟨cb_X4_repeat, (gwAt 968 (by decide +kernel) rfl), (gwAt 970 (by decide +kernel) rfl), (gwAt 29 (by decide +kernel) rfl), _, rfl, rfl⟩
theorem cb_X4_keep : CB M_X4_keep 1 := ⟨(gwAt 68 (by decide +kernel) rfl), (gwAt 963 (by decide +kernel) rfl), ⟨by decide +kernel, by decide +kernel, by decide +kernel⟩, by decide⟩
theorem cs_X4_71 : CV RX4 71 M_X4_keep 1 5 := ⟨cb_X4_keep, (gwAt 960 (by decide +kernel) rfl), (gwAt 962 (by decide +kernel) rfl), (gwAt 27 (by decide +kernel) rfl), _, rfl, rfl⟩
theorem cb_X4_takeNumber : CB M_X4_takeNumber 0 := ⟨(gwAt 68 (by decide +kernel) rfl), (gwAt 957 (by decide +kernel) rfl), ⟨by decide +kernel, by decide +kernel, by decide +kernel⟩, by decide⟩
theorem cs_X4_81 : CV RX4 81 M_X4_takeNumber 0 5 := ⟨cb_X4_takeNumber, (gwAt 954 (by decide +kernel) rfl), (gwAt 956 (by decide +kernel) rfl), (gwAt 26 (by decide +kernel) rfl), _, rfl, rfl⟩
theorem cb_X6_init : CB M_X6_init 0 := ⟨(gwAt 65 (by decide +kernel) rfl), (gwAt 92 (by decide +kernel) rfl), ⟨by decide +kernel, by decide +kernel, by decide +kernel⟩, by decide⟩
theorem cs_L_9 : CI RL 9 M_X6_init 0 := ⟨cb_X6_init, (gwAt 90 (by decide +kernel) rfl), (gwAt 91 (by decide +kernel) rfl), rfl, rfl⟩
theorem cb_X7_init : CB M_X7_init 0 := ⟨(gwAt 76 (by decide +kernel) rfl), (gwAt 1171 (by decide +kernel) rfl), ⟨by decide +kernel, by decide +kernel, by decide +kernel⟩, by decide⟩
theorem cs_L_12 : CI RL 12 M_X7_init 0 := ⟨cb_X7_init, (gwAt 1169 (by decide +kernel) rfl), (gwAt 1170 (by decide +kernel) rfl), rfl, rfl⟩
theorem cb_X6_lamp : CB M_X6_lamp 4 := ⟨(gwAt 65 (by decide +kernel) rfl), (gwAt 345 (by decide +kernel) rfl), ⟨by decide +kernel, by decide +kernel, by decide +kernel⟩, by decide⟩
theorem cs_L_13 : CV RL 13 M_X6_lamp 4 7 := ⟨cb_X6_lamp, (gwAt 342 (by decide +kernel) rfl), (gwAt 343 (by decide +kernel) rfl), (gwAt 344 (by decide +kernel) rfl), _, rfl, rfl⟩
theorem cb_X7_lamp : CB M_X7_lamp 4 := ⟨(gwAt 76 (by decide +kernel) rfl), (gwAt 1298 (by decide +kernel) rfl), ⟨by decide +kernel, by decide +kernel, by decide +kernel⟩, by decide⟩
theorem cs_L_17 : CV RL 17 M_X7_lamp 4 8 := ⟨cb_X7_lamp, (gwAt 1295 (by decide +kernel) rfl), (gwAt 1296 (by decide +kernel) rfl), (gwAt 1297 (by decide +kernel) rfl), _, rfl, rfl⟩
theorem cb_X6_add : CB M_X6_add 3 := ⟨(gwAt 65 (by decide +kernel) rfl), (gwAt 370 (by decide +kernel) rfl), ⟨by decide +kernel, by decide +kernel, by decide +kernel⟩, by decide⟩
theorem cs_L_18 : CV RL 18 M_X6_add 3 7 := ⟨cb_X6_add, (gwAt 367 (by decide +kernel) rfl), (gwAt 368 (by decide +kernel) rfl), (gwAt 369 (by decide +kernel) rfl), _, rfl, rfl⟩
theorem cb_X7_add : CB M_X7_add 3 := ⟨(gwAt 76 (by decide +kernel) rfl), (gwAt 1309 (by decide +kernel) rfl), ⟨by decide +kernel, by decide +kernel, by decide +kernel⟩, by decide⟩
theorem cs_L_22 : CV RL 22 M_X7_add 3 8 := ⟨cb_X7_add, (gwAt 1306 (by decide +kernel) rfl), (gwAt 1307 (by decide +kernel) rfl), (gwAt 1308 (by decide +kernel) rfl), _, rfl, rfl⟩
theorem cb_X6_change : CB M_X6_change 3 := ⟨(gwAt 65 (by decide +kernel) rfl), (gwAt 390 (by decide +kernel) rfl), ⟨by decide +kernel, by decide +kernel, by decide +kernel⟩, by decide⟩
theorem cs_L_23 : CV RL 23 M_X6_change 3 7 := ⟨cb_X6_change, (gwAt 387 (by decide +kernel) rfl), (gwAt 388 (by decide +kernel) rfl), (gwAt 389 (by decide +kernel) rfl), _, rfl, rfl⟩
theorem cb_X7_change : CB M_X7_change 3 := ⟨(gwAt 76 (by decide +kernel) rfl), (gwAt 1322 (by decide +kernel) rfl), ⟨by decide +kernel, by decide +kernel, by decide +kernel⟩, by decide⟩
theorem cs_L_26 : CV RL 26 M_X7_change 3 8 := ⟨cb_X7_change, (gwAt 1319 (by decide +kernel) rfl), (gwAt 1320 (by decide +kernel) rfl), (gwAt 1321 (by decide +kernel) rfl), _, rfl, rfl⟩
theorem cb_X6_turn : CB M_X6_turn 2 := ⟨(gwAt 65 (by decide +kernel) rfl), (gwAt 426 (by decide +kernel) rfl), ⟨by decide +kernel, by decide +kernel, by decide +kernel⟩, by decide⟩
theorem cs_L_27 : CV RL 27 M_X6_turn 2 7 := ⟨cb_X6_turn, (gwAt 423 (by decide +kernel) rfl), (gwAt 424 (by decide +kernel) rfl), (gwAt 425 (by decide +kernel) rfl), _, rfl, rfl⟩
theorem cb_X7_turn : CB M_X7_turn 2 := ⟨(gwAt 76 (by decide +kernel) rfl), (gwAt 1346 (by decide +kernel) rfl), ⟨by decide +kernel, by decide +kernel, by decide +kernel⟩, by decide⟩
theorem cs_L_31 : CV RL 31 M_X7_turn 2 8 := ⟨cb_X7_turn, (gwAt 1343 (by decide +kernel) rfl), (gwAt 1344 (by decide +kernel) rfl), (gwAt 1345 (by decide +kernel) rfl), _, rfl, rfl⟩
theorem cb_X6_move : CB M_X6_move 2 := ⟨(gwAt 65 (by decide +kernel) rfl), (gwAt 436 (by decide +kernel) rfl), ⟨by decide +kernel, by decide +kernel, by decide +kernel⟩, by decide⟩
theorem cs_L_32 : CV RL 32 M_X6_move 2 7 := ⟨cb_X6_move, (gwAt 433 (by decide +kernel) rfl), (gwAt 434 (by decide +kernel) rfl), (gwAt 435 (by decide +kernel) rfl), _, rfl, rfl⟩
theorem cb_X7_move : CB M_X7_move 2 := ⟨(gwAt 76 (by decide +kernel) rfl), (gwAt 1350 (by decide +kernel) rfl), ⟨by decide +kernel, by decide +kernel, by decide +kernel⟩, by decide⟩
theorem cs_L_35 : CV RL 35 M_X7_move 2 8 := ⟨cb_X7_move, (gwAt 1347 (by decide +kernel) rfl), (gwAt 1348 (by decide +kernel) rfl), (gwAt 1349 (by decide +kernel) rfl), _, rfl, rfl⟩
theorem cb_X6_cut : CB M_X6_cut 1 := ⟨(gwAt 65 (by decide +kernel) rfl), (gwAt 448 (by decide +kernel) rfl), ⟨by decide +kernel, by decide +kernel, by decide +kernel⟩, by decide⟩
theorem cs_L_36 : CV RL 36 M_X6_cut 1 7 := ⟨cb_X6_cut, (gwAt 445 (by decide +kernel) rfl), (gwAt 446 (by decide +kernel) rfl), (gwAt 447 (by decide +kernel) rfl), _, rfl, rfl⟩
theorem cb_X7_cut : CB M_X7_cut 1 := ⟨(gwAt 76 (by decide +kernel) rfl), (gwAt 1358 (by decide +kernel) rfl), ⟨by decide +kernel, by decide +kernel, by decide +kernel⟩, by decide⟩
theorem cs_L_40 : CV RL 40 M_X7_cut 1 8 := ⟨cb_X7_cut, (gwAt 1355 (by decide +kernel) rfl), (gwAt 1356 (by decide +kernel) rfl), (gwAt 1357 (by decide +kernel) rfl), _, rfl, rfl⟩
theorem cb_X6_clear : CB M_X6_clear 0 := ⟨(gwAt 65 (by decide +kernel) rfl), (gwAt 452 (by decide +kernel) rfl), ⟨by decide +kernel, by decide +kernel, by decide +kernel⟩, by decide⟩
theorem cs_L_41 : CV RL 41 M_X6_clear 0 7 := ⟨cb_X6_clear, (gwAt 449 (by decide +kernel) rfl), (gwAt 450 (by decide +kernel) rfl), (gwAt 451 (by decide +kernel) rfl), _, rfl, rfl⟩
theorem cb_X7_clear : CB M_X7_clear 0 := ⟨(gwAt 76 (by decide +kernel) rfl), (gwAt 1362 (by decide +kernel) rfl), ⟨by decide +kernel, by decide +kernel, by decide +kernel⟩, by decide⟩
theorem cs_L_45 : CV RL 45 M_X7_clear 0 8 := ⟨cb_X7_clear, (gwAt 1359 (by decide +kernel) rfl), (gwAt 1360 (by decide +kernel) rfl), (gwAt 1361 (by decide +kernel) rfl), _, rfl, rfl⟩
theorem cs_L_46 : CV RL 46 M_X6_of 2 7 := ⟨cb_X6_of, (gwAt 453 (by decide +kernel) rfl), (gwAt 396 (by decide +kernel) rfl), (gwAt 397 (by decide +kernel) rfl), _, rfl, rfl⟩
theorem cb_X7_of : CB M_X7_of 2 := ⟨(gwAt 76 (by decide +kernel) rfl), (gwAt 1366 (by decide +kernel) rfl), ⟨by decide +kernel, by decide +kernel, by decide +kernel⟩, by decide⟩
theorem cs_L_49 : CV RL 49 M_X7_of 2 8 := ⟨cb_X7_of, (gwAt 1363 (by decide +kernel) rfl), (gwAt 1364 (by decide +kernel) rfl), (gwAt 1365 (by decide +kernel) rfl), _, rfl, rfl⟩
theorem cb_X6_isUnder : CB M_X6_isUnder 2 := ⟨(gwAt 65 (by decide +kernel) rfl), (gwAt 457 (by decide +kernel) rfl), ⟨by decide +kernel, by decide +kernel, by decide +kernel⟩, by decide⟩
theorem cs_L_50 : CV RL 50 M_X6_isUnder 2 7 := ⟨cb_X6_isUnder, (gwAt 454 (by decide +kernel) rfl), (gwAt 455 (by decide +kernel) rfl), (gwAt 456 (by decide +kernel) rfl), _, rfl, rfl⟩
theorem cb_X7_isUnder : CB M_X7_isUnder 2 := ⟨(gwAt 76 (by decide +kernel) rfl), (gwAt 1379 (by decide +kernel) rfl), ⟨by decide +kernel, by decide +kernel, by decide +kernel⟩, by decide⟩
theorem cs_L_53 : CV RL 53 M_X7_isUnder 2 8 := ⟨cb_X7_isUnder, (gwAt 1376 (by decide +kernel) rfl), (gwAt 1377 (by decide +kernel) rfl), (gwAt 1378 (by decide +kernel) rfl), _, rfl, rfl⟩
theorem cb_X6_light : CB M_X6_light 2 := ⟨(gwAt 65 (by decide +kernel) rfl), (gwAt 463 (by decide +kernel) rfl), ⟨by decide +kernel, by decide +kernel, by decide +kernel⟩, by decide⟩
theorem cs_L_54 : CV RL 54 M_X6_light 2 7 := ⟨cb_X6_light, (gwAt 460 (by decide +kernel) rfl), (gwAt 461 (by decide +kernel) rfl), (gwAt 462 (by decide +kernel) rfl), _, rfl, rfl⟩
theorem cb_X7_light : CB M_X7_light 2 := ⟨(gwAt 76 (by decide +kernel) rfl), (gwAt 1383 (by decide +kernel) rfl), ⟨by decide +kernel, by decide +kernel, by decide +kernel⟩, by decide⟩
theorem cs_L_58 : CV RL 58 M_X7_light 2 8 := ⟨cb_X7_light, (gwAt 1380 (by decide +kernel) rfl), (gwAt 1381 (by decide +kernel) rfl), (gwAt 1382 (by decide +kernel) rfl), _, rfl, rfl⟩
theorem cb_X6_left : CB M_X6_left 2 := ⟨(gwAt 65 (by decide +kernel) rfl), (gwAt 514 (by decide +kernel) rfl), ⟨by decide +kernel, by decide +kernel, by decide +kernel⟩, by decide⟩
theorem cs_L_59 : CV RL 59 M_X6_left 2 7 := ⟨cb_X6_left, (gwAt 511 (by decide +kernel) rfl), (gwAt 512 (by decide +kernel) rfl), (gwAt 513 (by decide +kernel) rfl), _, rfl, rfl⟩
theorem cb_X7_left : CB M_X7_left 2 := ⟨(gwAt 76 (by decide +kernel) rfl), (gwAt 1422 (by decide +kernel) rfl), ⟨by decide +kernel, by decide +kernel, by decide +kernel⟩, by decide⟩
theorem cs_L_62 : CV RL 62 M_X7_left 2 8 := ⟨cb_X7_left, (gwAt 1419 (by decide +kernel) rfl), (gwAt 1420 (by decide +kernel) rfl), (gwAt 1421 (by decide +kernel) rfl), _, rfl, rfl⟩
theorem cb_X6_degree : CB M_X6_degree 2 := ⟨(gwAt 65 (by decide +kernel) rfl), (gwAt 534 (by decide +kernel) rfl), ⟨by decide +kernel, by decide +kernel, by decide +kernel⟩, by decide⟩
theorem cs_L_63 : CV RL 63 M_X6_degree 2 7 := ⟨cb_X6_degree, (gwAt 531 (by decide +kernel) rfl), (gwAt 532 (by decide +kernel) rfl), (gwAt 533 (by decide +kernel) rfl), _, rfl, rfl⟩
theorem cb_X7_degree : CB M_X7_degree 2 := ⟨(gwAt 76 (by decide +kernel) rfl), (gwAt 1439 (by decide +kernel) rfl), ⟨by decide +kernel, by decide +kernel, by decide +kernel⟩, by decide⟩
theorem cs_L_66 : CV RL 66 M_X7_degree 2 8 := ⟨cb_X7_degree, (gwAt 1436 (by decide +kernel) rfl), (gwAt 1437 (by decide +kernel) rfl), (gwAt 1438 (by decide +kernel) rfl), _, rfl, rfl⟩
theorem cb_X6_sort : CB M_X6_sort 1 := ⟨(gwAt 65 (by decide +kernel) rfl), (gwAt 570 (by decide +kernel) rfl), ⟨by decide +kernel, by decide +kernel, by decide +kernel⟩, by decide⟩
theorem cs_L_67 : CV RL 67 M_X6_sort 1 7 := ⟨cb_X6_sort, (gwAt 567 (by decide +kernel) rfl), (gwAt 568 (by decide +kernel) rfl), (gwAt 569 (by decide +kernel) rfl), _, rfl, rfl⟩
theorem cb_X7_sort : CB M_X7_sort 1 := ⟨(gwAt 76 (by decide +kernel) rfl), (gwAt 1453 (by decide +kernel) rfl), ⟨by decide +kernel, by decide +kernel, by decide +kernel⟩, by decide⟩
theorem cs_L_70 : CV RL 70 M_X7_sort 1 8 := ⟨cb_X7_sort, (gwAt 1450 (by decide +kernel) rfl), (gwAt 1451 (by decide +kernel) rfl), (gwAt 1452 (by decide +kernel) rfl), _, rfl, rfl⟩
theorem cb_X6_order : CB M_X6_order 1 := ⟨(gwAt 65 (by decide +kernel) rfl), (gwAt 574 (by decide +kernel) rfl), ⟨by decide +kernel, by decide +kernel, by decide +kernel⟩, by decide⟩
theorem cs_L_71 : CV RL 71 M_X6_order 1 7 := ⟨cb_X6_order, (gwAt 571 (by decide +kernel) rfl), (gwAt 572 (by decide +kernel) rfl), (gwAt 573 (by decide +kernel) rfl), _, rfl, rfl⟩
theorem cb_X7_order : CB M_X7_order 1 := ⟨(gwAt 76 (by decide +kernel) rfl), (gwAt 1457 (by decide +kernel) rfl), ⟨by decide +kernel, by decide +kernel, by decide +kernel⟩, by decide⟩
theorem cs_L_74 : CV RL 74 M_X7_order 1 8 := ⟨cb_X7_order, (gwAt 1454 (by decide +kernel) rfl), (gwAt 1455 (by decide +kernel) rfl), (gwAt 1456 (by decide +kernel) rfl), _, rfl, rfl⟩
theorem cb_X6_orderLight : CB M_X6_orderLight 2 := ⟨(gwAt 65 (by decide +kernel) rfl), (gwAt 621 (by decide +kernel) rfl), ⟨by decide +kernel, by decide +kernel, by decide +kernel⟩, by decide⟩
theorem cs_L_75 : CV RL 75 M_X6_orderLight 2 7 := ⟨cb_X6_orderLight, (gwAt 618 (by decide +kernel) rfl), (gwAt 619 (by decide +kernel) rfl), (gwAt 620 (by decide +kernel) rfl), _, rfl, rfl⟩
theorem cb_X7_orderLight : CB M_X7_orderLight 2 := ⟨(gwAt 76 (by decide +kernel) rfl), (gwAt 1479 (by decide +kernel) rfl), ⟨by decide +kernel, by decide +kernel, by decide +kernel⟩, by decide⟩
theorem cs_L_78 : CV RL 78 M_X7_orderLight 2 8 := ⟨cb_X7_orderLight, (gwAt 1476 (by decide +kernel) rfl), (gwAt 1477 (by decide +kernel) rfl), (gwAt 1478 (by decide +kernel) rfl), _, rfl, rfl⟩
theorem cb_X6_matrix : CB M_X6_matrix 3 := ⟨(gwAt 65 (by decide +kernel) rfl), (gwAt 625 (by decide +kernel) rfl), ⟨by decide +kernel, by decide +kernel, by decide +kernel⟩, by decide⟩
theorem cs_L_79 : CV RL 79 M_X6_matrix 3 7 := ⟨cb_X6_matrix, (gwAt 622 (by decide +kernel) rfl), (gwAt 623 (by decide +kernel) rfl), (gwAt 624 (by decide +kernel) rfl), _, rfl, rfl⟩
theorem cb_X7_matrix : CB M_X7_matrix 3 := ⟨(gwAt 76 (by decide +kernel) rfl), (gwAt 1483 (by decide +kernel) rfl), ⟨by decide +kernel, by decide +kernel, by decide +kernel⟩, by decide⟩
theorem cs_L_83 : CV RL 83 M_X7_matrix 3 8 := ⟨cb_X7_matrix, (gwAt 1480 (by decide +kernel) rfl), (gwAt 1481 (by decide +kernel) rfl), (gwAt 1482 (by decide +kernel) rfl), _, rfl, rfl⟩
theorem cb_X6_trade : CB M_X6_trade 2 := ⟨(gwAt 65 (by decide +kernel) rfl), (gwAt 634 (by decide +kernel) rfl), ⟨by decide +kernel, by decide +kernel, by decide +kernel⟩, by decide⟩
theorem cs_L_84 : CV RL 84 M_X6_trade 2 7 := ⟨cb_X6_trade, (gwAt 631 (by decide +kernel) rfl), (gwAt 632 (by decide +kernel) rfl), (gwAt 633 (by decide +kernel) rfl), _, rfl, rfl⟩
theorem cb_X7_trade : CB M_X7_trade 2 := ⟨(gwAt 76 (by decide +kernel) rfl), (gwAt 1491 (by decide +kernel) rfl), ⟨by decide +kernel, by decide +kernel, by decide +kernel⟩, by decide⟩
theorem cs_L_87 : CV RL 87 M_X7_trade 2 8 := ⟨cb_X7_trade, (gwAt 1488 (by decide +kernel) rfl), (gwAt 1489 (by decide +kernel) rfl), (gwAt 1490 (by decide +kernel) rfl), _, rfl, rfl⟩
theorem cb_X6_angle : CB M_X6_angle 2 := ⟨(gwAt 65 (by decide +kernel) rfl), (gwAt 643 (by decide +kernel) rfl), ⟨by decide +kernel, by decide +kernel, by decide +kernel⟩, by decide⟩
theorem cs_L_88 : CV RL 88 M_X6_angle 2 7 := ⟨cb_X6_angle, (gwAt 640 (by decide +kernel) rfl), (gwAt 641 (by decide +kernel) rfl), (gwAt 642 (by decide +kernel) rfl), _, rfl, rfl⟩
theorem cb_X7_angle : CB M_X7_angle 2 := ⟨(gwAt 76 (by decide +kernel) rfl), (gwAt 1495 (by decide +kernel) rfl), ⟨by decide +kernel, by decide +kernel, by decide +kernel⟩, by decide⟩
theorem cs_L_91 : CV RL 91 M_X7_angle 2 8 := ⟨cb_X7_angle, (gwAt 1492 (by decide +kernel) rfl), (gwAt 1493 (by decide +kernel) rfl), (gwAt 1494 (by decide +kernel) rfl), _, rfl, rfl⟩
theorem cb_X6_without : CB M_X6_without 2 := ⟨(gwAt 65 (by decide +kernel) rfl), (gwAt 653 (by decide +kernel) rfl), ⟨by decide +kernel, by decide +kernel, by decide +kernel⟩, by decide⟩
theorem cs_L_92 : CV RL 92 M_X6_without 2 7 := ⟨cb_X6_without, (gwAt 650 (by decide +kernel) rfl), (gwAt 651 (by decide +kernel) rfl), (gwAt 652 (by decide +kernel) rfl), _, rfl, rfl⟩
theorem cb_X7_without : CB M_X7_without 2 := ⟨(gwAt 76 (by decide +kernel) rfl), (gwAt 1499 (by decide +kernel) rfl), ⟨by decide +kernel, by decide +kernel, by decide +kernel⟩, by decide⟩
theorem cs_L_95 : CV RL 95 M_X7_without 2 8 := ⟨cb_X7_without, (gwAt 1496 (by decide +kernel) rfl), (gwAt 1497 (by decide +kernel) rfl), (gwAt 1498 (by decide +kernel) rfl), _, rfl, rfl⟩
theorem cb_X6_darkens : CB M_X6_darkens 0 := ⟨(gwAt 65 (by decide +kernel) rfl), (gwAt 657 (by decide +kernel) rfl), ⟨by decide +kernel, by decide +kernel, by decide +kernel⟩, by decide⟩
theorem cs_L_96 : CV RL 96 M_X6_darkens 0 7 := ⟨cb_X6_darkens, (gwAt 654 (by decide +kernel) rfl), (gwAt 655 (by decide +kernel) rfl), (gwAt 656 (by decide +kernel) rfl), _, rfl, rfl⟩
theorem cb_X7_darkens : CB M_X7_darkens 0 := ⟨(gwAt 76 (by decide +kernel) rfl), (gwAt 1503 (by decide +kernel) rfl), ⟨by decide +kernel, by decide +kernel, by decide +kernel⟩, by decide⟩
theorem cs_L_99 : CV RL 99 M_X7_darkens 0 8 := ⟨cb_X7_darkens, (gwAt 1500 (by decide +kernel) rfl), (gwAt 1501 (by decide +kernel) rfl), (gwAt 1502 (by decide +kernel) rfl), _, rfl, rfl⟩
theorem cb_X6_crossed : CB M_X6_crossed 1 := ⟨(gwAt 65 (by decide +kernel) rfl), (gwAt 661 (by decide +kernel) rfl), ⟨by decide +kernel, by decide +kernel, by decide +kernel⟩, by decide⟩
theorem cs_L_100 : CV RL 100 M_X6_crossed 1 7 := ⟨cb_X6_crossed, (gwAt 658 (by decide +kernel) rfl), (gwAt 659 (by decide +kernel) rfl), (gwAt 660 (by decide +kernel) rfl), _, rfl, rfl⟩
theorem cb_X7_crossed : CB M_X7_crossed 1 := ⟨(gwAt 76 (by decide +kernel) rfl), (gwAt 1507 (by decide +kernel) rfl), ⟨by decide +kernel, by decide +kernel, by decide +kernel⟩, by decide⟩
theorem cs_L_103 : CV RL 103 M_X7_crossed 1 8 := ⟨cb_X7_crossed, (gwAt 1504 (by decide +kernel) rfl), (gwAt 1505 (by decide +kernel) rfl), (gwAt 1506 (by decide +kernel) rfl), _, rfl, rfl⟩
theorem cb_X6_tally : CB M_X6_tally 1 := ⟨(gwAt 65 (by decide +kernel) rfl), (gwAt 669 (by decide +kernel) rfl), ⟨by decide +kernel, by decide +kernel, by decide +kernel⟩, by decide⟩
theorem cs_L_104 : CV RL 104 M_X6_tally 1 7 := ⟨cb_X6_tally, (gwAt 666 (by decide +kernel) rfl), (gwAt 667 (by decide +kernel) rfl), (gwAt 668 (by decide +kernel) rfl), _, rfl, rfl⟩
theorem cb_X7_tally : CB M_X7_tally 1 := ⟨(gwAt 76 (by decide +kernel) rfl), (gwAt 1511 (by decide +kernel) rfl), ⟨by decide +kernel, by decide +kernel, by decide +kernel⟩, by decide⟩
theorem cs_L_107 : CV RL 107 M_X7_tally 1 8 := ⟨cb_X7_tally, (gwAt 1508 (by decide +kernel) rfl), (gwAt 1509 (by decide +kernel) rfl), (gwAt 1510 (by decide +kernel) rfl), _, rfl, rfl⟩
theorem cb_X6_list : CB M_X6_list 2 := ⟨(gwAt 65 (by decide +kernel) rfl), (gwAt 677 (by decide +kernel) rfl), ⟨by decide +kernel, by decide +kernel, by decide +kernel⟩, by decide⟩
theorem cs_L_108 : CV RL 108 M_X6_list 2 7 := ⟨cb_X6_list, (gwAt 674 (by decide +kernel) rfl), (gwAt 675 (by decide +kernel) rfl), (gwAt 676 (by decide +kernel) rfl), _, rfl, rfl⟩
theorem cb_X7_list : CB M_X7_list 2 := ⟨(gwAt 76 (by decide +kernel) rfl), (gwAt 1515 (by decide +kernel) rfl), ⟨by decide +kernel, by decide +kernel, by decide +kernel⟩, by decide⟩
theorem cs_L_111 : CV RL 111 M_X7_list 2 8 := ⟨cb_X7_list, (gwAt 1512 (by decide +kernel) rfl), (gwAt 1513 (by decide +kernel) rfl), (gwAt 1514 (by decide +kernel) rfl), _, rfl, rfl⟩
theorem cb_X6_put : CB M_X6_put 3 := ⟨(gwAt 65 (by decide +kernel) rfl), (gwAt 688 (by decide +kernel) rfl), ⟨by decide +kernel, by decide +kernel, by decide +kernel⟩, by decide⟩
theorem cs_L_114 : CV RL 114 M_X6_put 3 7 := ⟨cb_X6_put, (gwAt 685 (by decide +kernel) rfl), (gwAt 686 (by decide +kernel) rfl), (gwAt 687 (by decide +kernel) rfl), _, rfl, rfl⟩
theorem cb_X7_put : CB M_X7_put 3 := ⟨(gwAt 76 (by decide +kernel) rfl), (gwAt 1526 (by decide +kernel) rfl), ⟨by decide +kernel, by decide +kernel, by decide +kernel⟩, by decide⟩
theorem cs_L_118 : CV RL 118 M_X7_put 3 8 := ⟨cb_X7_put, (gwAt 1523 (by decide +kernel) rfl), (gwAt 1524 (by decide +kernel) rfl), (gwAt 1525 (by decide +kernel) rfl), _, rfl, rfl⟩
theorem cb_X6_get : CB M_X6_get 2 := ⟨(gwAt 65 (by decide +kernel) rfl), (gwAt 700 (by decide +kernel) rfl), ⟨by decide +kernel, by decide +kernel, by decide +kernel⟩, by decide⟩
theorem cs_L_119 : CV RL 119 M_X6_get 2 7 := ⟨cb_X6_get, (gwAt 697 (by decide +kernel) rfl), (gwAt 698 (by decide +kernel) rfl), (gwAt 699 (by decide +kernel) rfl), _, rfl, rfl⟩
theorem cb_X7_get : CB M_X7_get 2 := ⟨(gwAt 76 (by decide +kernel) rfl), (gwAt 1530 (by decide +kernel) rfl), ⟨by decide +kernel, by decide +kernel, by decide +kernel⟩, by decide⟩
theorem cs_L_122 : CV RL 122 M_X7_get 2 8 := ⟨cb_X7_get, (gwAt 1527 (by decide +kernel) rfl), (gwAt 1528 (by decide +kernel) rfl), (gwAt 1529 (by decide +kernel) rfl), _, rfl, rfl⟩
theorem cb_X6_lay : CB M_X6_lay 2 := ⟨(gwAt 65 (by decide +kernel) rfl), (gwAt 704 (by decide +kernel) rfl), ⟨by decide +kernel, by decide +kernel, by decide +kernel⟩, by decide⟩
theorem cs_L_123 : CV RL 123 M_X6_lay 2 7 := ⟨cb_X6_lay, (gwAt 701 (by decide +kernel) rfl), (gwAt 702 (by decide +kernel) rfl), (gwAt 703 (by decide +kernel) rfl), _, rfl, rfl⟩
theorem cb_X7_lay : CB M_X7_lay 2 := ⟨(gwAt 76 (by decide +kernel) rfl), (gwAt 1534 (by decide +kernel) rfl), ⟨by decide +kernel, by decide +kernel, by decide +kernel⟩, by decide⟩
theorem cs_L_126 : CV RL 126 M_X7_lay 2 8 := ⟨cb_X7_lay, (gwAt 1531 (by decide +kernel) rfl), (gwAt 1532 (by decide +kernel) rfl), (gwAt 1533 (by decide +kernel) rfl), _, rfl, rfl⟩
theorem cb_X6_readings : CB M_X6_readings 1 := ⟨(gwAt 65 (by decide +kernel) rfl), (gwAt 708 (by decide +kernel) rfl), ⟨by decide +kernel, by decide +kernel, by decide +kernel⟩, by decide⟩
theorem cs_L_127 : CV RL 127 M_X6_readings 1 7 := ⟨cb_X6_readings, (gwAt 705 (by decide +kernel) rfl), (gwAt 706 (by decide +kernel) rfl), (gwAt 707 (by decide +kernel) rfl), _, rfl, rfl⟩
theorem cb_X7_readings : CB M_X7_readings 1 := ⟨(gwAt 76 (by decide +kernel) rfl), (gwAt 1542 (by decide +kernel) rfl), ⟨by decide +kernel, by decide +kernel, by decide +kernel⟩, by decide⟩
theorem cs_L_130 : CV RL 130 M_X7_readings 1 8 := ⟨cb_X7_readings, (gwAt 1539 (by decide +kernel) rfl), (gwAt 1540 (by decide +kernel) rfl), (gwAt 1541 (by decide +kernel) rfl), _, rfl, rfl⟩
theorem cb_X6_refound : CB M_X6_refound 2 := ⟨(gwAt 65 (by decide +kernel) rfl), (gwAt 712 (by decide +kernel) rfl), ⟨by decide +kernel, by decide +kernel, by decide +kernel⟩, by decide⟩
theorem cs_L_131 : CV RL 131 M_X6_refound 2 7 := ⟨cb_X6_refound, (gwAt 709 (by decide +kernel) rfl), (gwAt 710 (by decide +kernel) rfl), (gwAt 711 (by decide +kernel) rfl), _, rfl, rfl⟩
theorem cb_X7_refound : CB M_X7_refound 2 := ⟨(gwAt 76 (by decide +kernel) rfl), (gwAt 1546 (by decide +kernel) rfl), ⟨by decide +kernel, by decide +kernel, by decide +kernel⟩, by decide⟩
theorem cs_L_134 : CV RL 134 M_X7_refound 2 8 := ⟨cb_X7_refound, (gwAt 1543 (by decide +kernel) rfl), (gwAt 1544 (by decide +kernel) rfl), (gwAt 1545 (by decide +kernel) rfl), _, rfl, rfl⟩
theorem cb_X6_through : CB M_X6_through 2 := ⟨(gwAt 65 (by decide +kernel) rfl), (gwAt 726 (by decide +kernel) rfl), ⟨by decide +kernel, by decide +kernel, by decide +kernel⟩, by decide⟩
theorem cs_L_135 : CV RL 135 M_X6_through 2 7 := ⟨cb_X6_through, (gwAt 723 (by decide +kernel) rfl), (gwAt 724 (by decide +kernel) rfl), (gwAt 725 (by decide +kernel) rfl), _, rfl, rfl⟩
theorem cb_X7_through : CB M_X7_through 2 := ⟨(gwAt 76 (by decide +kernel) rfl), (gwAt 1556 (by decide +kernel) rfl), ⟨by decide +kernel, by decide +kernel, by decide +kernel⟩, by decide⟩
theorem cs_L_138 : CV RL 138 M_X7_through 2 8 := ⟨cb_X7_through, (gwAt 1553 (by decide +kernel) rfl), (gwAt 1554 (by decide +kernel) rfl), (gwAt 1555 (by decide +kernel) rfl), _, rfl, rfl⟩
theorem cb_X6_before : CB M_X6_before 2 := ⟨(gwAt 65 (by decide +kernel) rfl), (gwAt 734 (by decide +kernel) rfl), ⟨by decide +kernel, by decide +kernel, by decide +kernel⟩, by decide⟩
theorem cs_L_139 : CV RL 139 M_X6_before 2 7 := ⟨cb_X6_before, (gwAt 731 (by decide +kernel) rfl), (gwAt 732 (by decide +kernel) rfl), (gwAt 733 (by decide +kernel) rfl), _, rfl, rfl⟩
theorem cb_X7_before : CB M_X7_before 2 := ⟨(gwAt 76 (by decide +kernel) rfl), (gwAt 1564 (by decide +kernel) rfl), ⟨by decide +kernel, by decide +kernel, by decide +kernel⟩, by decide⟩
theorem cs_L_142 : CV RL 142 M_X7_before 2 8 := ⟨cb_X7_before, (gwAt 1561 (by decide +kernel) rfl), (gwAt 1562 (by decide +kernel) rfl), (gwAt 1563 (by decide +kernel) rfl), _, rfl, rfl⟩
theorem cb_X6_found : CB M_X6_found 3 := ⟨(gwAt 65 (by decide +kernel) rfl), (gwAt 747 (by decide +kernel) rfl), ⟨by decide +kernel, by decide +kernel, by decide +kernel⟩, by decide⟩
theorem cs_L_143 : CV RL 143 M_X6_found 3 7 := ⟨cb_X6_found, (gwAt 744 (by decide +kernel) rfl), (gwAt 745 (by decide +kernel) rfl), (gwAt 746 (by decide +kernel) rfl), _, rfl, rfl⟩
theorem cb_X7_found : CB M_X7_found 3 := ⟨(gwAt 76 (by decide +kernel) rfl), (gwAt 1568 (by decide +kernel) rfl), ⟨by decide +kernel, by decide +kernel, by decide +kernel⟩, by decide⟩
theorem cs_L_146 : CV RL 146 M_X7_found 3 8 := ⟨cb_X7_found, (gwAt 1565 (by decide +kernel) rfl), (gwAt 1566 (by decide +kernel) rfl), (gwAt 1567 (by decide +kernel) rfl), _, rfl, rfl⟩
theorem cb_X6_meter : CB M_X6_meter 2 := ⟨(gwAt 65 (by decide +kernel) rfl), (gwAt 751 (by decide +kernel) rfl), ⟨by decide +kernel, by decide +kernel, by decide +kernel⟩, by decide⟩
theorem cs_L_147 : CV RL 147 M_X6_meter 2 7 := ⟨cb_X6_meter, (gwAt 748 (by decide +kernel) rfl), (gwAt 749 (by decide +kernel) rfl), (gwAt 750 (by decide +kernel) rfl), _, rfl, rfl⟩
theorem cb_X7_meter : CB M_X7_meter 2 := ⟨(gwAt 76 (by decide +kernel) rfl), (gwAt 1572 (by decide +kernel) rfl), ⟨by decide +kernel, by decide +kernel, by decide +kernel⟩, by decide⟩
theorem cs_L_150 : CV RL 150 M_X7_meter 2 8 := ⟨cb_X7_meter, (gwAt 1569 (by decide +kernel) rfl), (gwAt 1570 (by decide +kernel) rfl), (gwAt 1571 (by decide +kernel) rfl), _, rfl, rfl⟩
theorem cb_X6_expose : CB M_X6_expose 1 := ⟨(gwAt 65 (by decide +kernel) rfl), (gwAt 769 (by decide +kernel) rfl), ⟨by decide +kernel, by decide +kernel, by decide +kernel⟩, by decide⟩
theorem cs_L_151 : CV RL 151 M_X6_expose 1 7 := ⟨cb_X6_expose, (gwAt 766 (by decide +kernel) rfl), (gwAt 767 (by decide +kernel) rfl), (gwAt 768 (by decide +kernel) rfl), _, rfl, rfl⟩
theorem cb_X7_expose : CB M_X7_expose 1 := ⟨(gwAt 76 (by decide +kernel) rfl), (gwAt 1600 (by decide +kernel) rfl), ⟨by decide +kernel, by decide +kernel, by decide +kernel⟩, by decide⟩
theorem cs_L_154 : CV RL 154 M_X7_expose 1 8 := ⟨cb_X7_expose, (gwAt 1597 (by decide +kernel) rfl), (gwAt 1598 (by decide +kernel) rfl), (gwAt 1599 (by decide +kernel) rfl), _, rfl, rfl⟩
theorem cb_X6_dim : CB M_X6_dim 2 := ⟨(gwAt 65 (by decide +kernel) rfl), (gwAt 776 (by decide +kernel) rfl), ⟨by decide +kernel, by decide +kernel, by decide +kernel⟩, by decide⟩
theorem cs_L_155 : CV RL 155 M_X6_dim 2 7 := ⟨cb_X6_dim, (gwAt 773 (by decide +kernel) rfl), (gwAt 774 (by decide +kernel) rfl), (gwAt 775 (by decide +kernel) rfl), _, rfl, rfl⟩
theorem cb_X7_dim : CB M_X7_dim 2 := ⟨(gwAt 76 (by decide +kernel) rfl), (gwAt 1612 (by decide +kernel) rfl), ⟨by decide +kernel, by decide +kernel, by decide +kernel⟩, by decide⟩
theorem cs_L_158 : CV RL 158 M_X7_dim 2 8 := ⟨cb_X7_dim, (gwAt 1609 (by decide +kernel) rfl), (gwAt 1610 (by decide +kernel) rfl), (gwAt 1611 (by decide +kernel) rfl), _, rfl, rfl⟩
theorem cb_X6_film : CB M_X6_film 2 := ⟨(gwAt 65 (by decide +kernel) rfl), (gwAt 781 (by decide +kernel) rfl), ⟨by decide +kernel, by decide +kernel, by decide +kernel⟩, by decide⟩
theorem cs_L_159 : CV RL 159 M_X6_film 2 7 := ⟨cb_X6_film, (gwAt 778 (by decide +kernel) rfl), (gwAt 779 (by decide +kernel) rfl), (gwAt 780 (by decide +kernel) rfl), _, rfl, rfl⟩
theorem cb_X7_film : CB M_X7_film 2 := ⟨(gwAt 76 (by decide +kernel) rfl), (gwAt 1617 (by decide +kernel) rfl), ⟨by decide +kernel, by decide +kernel, by decide +kernel⟩, by decide⟩
theorem cs_L_162 : CV RL 162 M_X7_film 2 8 := ⟨cb_X7_film, (gwAt 1614 (by decide +kernel) rfl), (gwAt 1615 (by decide +kernel) rfl), (gwAt 1616 (by decide +kernel) rfl), _, rfl, rfl⟩
theorem cb_X6_sumFilm : CB M_X6_sumFilm 1 := ⟨(gwAt 65 (by decide +kernel) rfl), (gwAt 786 (by decide +kernel) rfl), ⟨by decide +kernel, by decide +kernel, by decide +kernel⟩, by decide⟩
theorem cs_L_163 : CV RL 163 M_X6_sumFilm 1 7 := ⟨cb_X6_sumFilm, (gwAt 783 (by decide +kernel) rfl), (gwAt 784 (by decide +kernel) rfl), (gwAt 785 (by decide +kernel) rfl), _, rfl, rfl⟩
theorem cb_X7_sumFilm : CB M_X7_sumFilm 1 := ⟨(gwAt 76 (by decide +kernel) rfl), (gwAt 1622 (by decide +kernel) rfl), ⟨by decide +kernel, by decide +kernel, by decide +kernel⟩, by decide⟩
theorem cs_L_167 : CV RL 167 M_X7_sumFilm 1 8 := ⟨cb_X7_sumFilm, (gwAt 1619 (by decide +kernel) rfl), (gwAt 1620 (by decide +kernel) rfl), (gwAt 1621 (by decide +kernel) rfl), _, rfl, rfl⟩
theorem cb_X6_store : CB M_X6_store 3 := ⟨(gwAt 65 (by decide +kernel) rfl), (gwAt 790 (by decide +kernel) rfl), ⟨by decide +kernel, by decide +kernel, by decide +kernel⟩, by decide⟩
theorem cs_L_168 : CV RL 168 M_X6_store 3 7 := ⟨cb_X6_store, (gwAt 787 (by decide +kernel) rfl), (gwAt 788 (by decide +kernel) rfl), (gwAt 789 (by decide +kernel) rfl), _, rfl, rfl⟩
theorem cb_X7_store : CB M_X7_store 3 := ⟨(gwAt 76 (by decide +kernel) rfl), (gwAt 1626 (by decide +kernel) rfl), ⟨by decide +kernel, by decide +kernel, by decide +kernel⟩, by decide⟩
theorem cs_L_171 : CV RL 171 M_X7_store 3 8 := ⟨cb_X7_store, (gwAt 1623 (by decide +kernel) rfl), (gwAt 1624 (by decide +kernel) rfl), (gwAt 1625 (by decide +kernel) rfl), _, rfl, rfl⟩
theorem cb_X6_empty : CB M_X6_empty 2 := ⟨(gwAt 65 (by decide +kernel) rfl), (gwAt 803 (by decide +kernel) rfl), ⟨by decide +kernel, by decide +kernel, by decide +kernel⟩, by decide⟩
theorem cs_L_172 : CV RL 172 M_X6_empty 2 7 := ⟨cb_X6_empty, (gwAt 800 (by decide +kernel) rfl), (gwAt 801 (by decide +kernel) rfl), (gwAt 802 (by decide +kernel) rfl), _, rfl, rfl⟩
theorem cb_X7_empty : CB M_X7_empty 2 := ⟨(gwAt 76 (by decide +kernel) rfl), (gwAt 1640 (by decide +kernel) rfl), ⟨by decide +kernel, by decide +kernel, by decide +kernel⟩, by decide⟩
theorem cs_L_175 : CV RL 175 M_X7_empty 2 8 := ⟨cb_X7_empty, (gwAt 1637 (by decide +kernel) rfl), (gwAt 1638 (by decide +kernel) rfl), (gwAt 1639 (by decide +kernel) rfl), _, rfl, rfl⟩
theorem cb_X6_fetch : CB M_X6_fetch 2 := ⟨(gwAt 65 (by decide +kernel) rfl), (gwAt 811 (by decide +kernel) rfl), ⟨by decide +kernel, by decide +kernel, by decide +kernel⟩, by decide⟩
theorem cs_L_176 : CV RL 176 M_X6_fetch 2 7 := ⟨cb_X6_fetch, (gwAt 808 (by decide +kernel) rfl), (gwAt 809 (by decide +kernel) rfl), (gwAt 810 (by decide +kernel) rfl), _, rfl, rfl⟩
theorem cb_X7_fetch : CB M_X7_fetch 2 := ⟨(gwAt 76 (by decide +kernel) rfl), (gwAt 1644 (by decide +kernel) rfl), ⟨by decide +kernel, by decide +kernel, by decide +kernel⟩, by decide⟩
theorem cs_L_179 : CV RL 179 M_X7_fetch 2 8 := ⟨cb_X7_fetch, (gwAt 1641 (by decide +kernel) rfl), (gwAt 1642 (by decide +kernel) rfl), (gwAt 1643 (by decide +kernel) rfl), _, rfl, rfl⟩
theorem cb_X6_rack : CB M_X6_rack 2 := ⟨(gwAt 65 (by decide +kernel) rfl), (gwAt 815 (by decide +kernel) rfl), ⟨by decide +kernel, by decide +kernel, by decide +kernel⟩, by decide⟩
theorem cs_L_180 : CV RL 180 M_X6_rack 2 7 := ⟨cb_X6_rack, (gwAt 812 (by decide +kernel) rfl), (gwAt 813 (by decide +kernel) rfl), (gwAt 814 (by decide +kernel) rfl), _, rfl, rfl⟩
theorem cb_X7_rack : CB M_X7_rack 2 := ⟨(gwAt 76 (by decide +kernel) rfl), (gwAt 1648 (by decide +kernel) rfl), ⟨by decide +kernel, by decide +kernel, by decide +kernel⟩, by decide⟩
theorem cs_L_183 : CV RL 183 M_X7_rack 2 8 := ⟨cb_X7_rack, (gwAt 1645 (by decide +kernel) rfl), (gwAt 1646 (by decide +kernel) rfl), (gwAt 1647 (by decide +kernel) rfl), _, rfl, rfl⟩
theorem cb_X6_copy : CB M_X6_copy 2 := ⟨(gwAt 65 (by decide +kernel) rfl), (gwAt 819 (by decide +kernel) rfl), ⟨by decide +kernel, by decide +kernel, by decide +kernel⟩, by decide⟩
theorem cs_L_184 : CV RL 184 M_X6_copy 2 7 := ⟨cb_X6_copy, (gwAt 816 (by decide +kernel) rfl), (gwAt 817 (by decide +kernel) rfl), (gwAt 818 (by decide +kernel) rfl), _, rfl, rfl⟩
theorem cb_X7_copy : CB M_X7_copy 2 := ⟨(gwAt 76 (by decide +kernel) rfl), (gwAt 1652 (by decide +kernel) rfl), ⟨by decide +kernel, by decide +kernel, by decide +kernel⟩, by decide⟩
theorem cs_L_187 : CV RL 187 M_X7_copy 2 8 := ⟨cb_X7_copy, (gwAt 1649 (by decide +kernel) rfl), (gwAt 1650 (by decide +kernel) rfl), (gwAt 1651 (by decide +kernel) rfl), _, rfl, rfl⟩
theorem cb_X6_feed : CB M_X6_feed 1 := ⟨(gwAt 65 (by decide +kernel) rfl), (gwAt 827 (by decide +kernel) rfl), ⟨by decide +kernel, by decide +kernel, by decide +kernel⟩, by decide⟩
theorem cs_L_188 : CV RL 188 M_X6_feed 1 7 := ⟨cb_X6_feed, (gwAt 824 (by decide +kernel) rfl), (gwAt 825 (by decide +kernel) rfl), (gwAt 826 (by decide +kernel) rfl), _, rfl, rfl⟩
theorem cb_X7_feed : CB M_X7_feed 1 := ⟨(gwAt 76 (by decide +kernel) rfl), (gwAt 1660 (by decide +kernel) rfl), ⟨by decide +kernel, by decide +kernel, by decide +kernel⟩, by decide⟩
theorem cs_L_191 : CV RL 191 M_X7_feed 1 8 := ⟨cb_X7_feed, (gwAt 1657 (by decide +kernel) rfl), (gwAt 1658 (by decide +kernel) rfl), (gwAt 1659 (by decide +kernel) rfl), _, rfl, rfl⟩
theorem cb_X6_wipe : CB M_X6_wipe 0 := ⟨(gwAt 65 (by decide +kernel) rfl), (gwAt 831 (by decide +kernel) rfl), ⟨by decide +kernel, by decide +kernel, by decide +kernel⟩, by decide⟩
theorem cs_L_192 : CV RL 192 M_X6_wipe 0 7 := ⟨cb_X6_wipe, (gwAt 828 (by decide +kernel) rfl), (gwAt 829 (by decide +kernel) rfl), (gwAt 830 (by decide +kernel) rfl), _, rfl, rfl⟩
theorem cb_X7_wipe : CB M_X7_wipe 0 := ⟨(gwAt 76 (by decide +kernel) rfl), (gwAt 1665 (by decide +kernel) rfl), ⟨by decide +kernel, by decide +kernel, by decide +kernel⟩, by decide⟩
theorem cs_L_195 : CV RL 195 M_X7_wipe 0 8 := ⟨cb_X7_wipe, (gwAt 1662 (by decide +kernel) rfl), (gwAt 1663 (by decide +kernel) rfl), (gwAt 1664 (by decide +kernel) rfl), _, rfl, rfl⟩
theorem cb_X6_read : CB M_X6_read 0 := ⟨(gwAt 65 (by decide +kernel) rfl), (gwAt 835 (by decide +kernel) rfl), ⟨by decide +kernel, by decide +kernel, by decide +kernel⟩, by decide⟩
theorem cs_L_196 : CV RL 196 M_X6_read 0 7 := ⟨cb_X6_read, (gwAt 832 (by decide +kernel) rfl), (gwAt 833 (by decide +kernel) rfl), (gwAt 834 (by decide +kernel) rfl), _, rfl, rfl⟩
theorem cb_X7_read : CB M_X7_read 0 := ⟨(gwAt 76 (by decide +kernel) rfl), (gwAt 1669 (by decide +kernel) rfl), ⟨by decide +kernel, by decide +kernel, by decide +kernel⟩, by decide⟩
theorem cs_L_199 : CV RL 199 M_X7_read 0 8 := ⟨cb_X7_read, (gwAt 1666 (by decide +kernel) rfl), (gwAt 1667 (by decide +kernel) rfl), (gwAt 1668 (by decide +kernel) rfl), _, rfl, rfl⟩
theorem cb_X6_why : CB M_X6_why 2 := ⟨(gwAt 65 (by decide +kernel) rfl), (gwAt 978 (by decide +kernel) rfl), ⟨by decide +kernel, by decide +kernel, by decide +kernel⟩, by decide⟩
theorem cs_L_200 : CV RL 200 M_X6_why 2 7 := ⟨cb_X6_why, (gwAt 975 (by decide +kernel) rfl), (gwAt 976 (by decide +kernel) rfl), (gwAt 977 (by decide +kernel) rfl), _, rfl, rfl⟩
theorem cb_X7_why : CB M_X7_why 2 := ⟨(gwAt 76 (by decide +kernel) rfl), (gwAt 1705 (by decide +kernel) rfl), ⟨by decide +kernel, by decide +kernel, by decide +kernel⟩, by decide⟩
theorem cs_L_203 : CV RL 203 M_X7_why 2 8 := ⟨cb_X7_why, (gwAt 1702 (by decide +kernel) rfl), (gwAt 1703 (by decide +kernel) rfl), (gwAt 1704 (by decide +kernel) rfl), _, rfl, rfl⟩
theorem cb_X6_spelled : CB M_X6_spelled 1 := ⟨(gwAt 65 (by decide +kernel) rfl), (gwAt 982 (by decide +kernel) rfl), ⟨by decide +kernel, by decide +kernel, by decide +kernel⟩, by decide⟩
theorem cs_L_204 : CV RL 204 M_X6_spelled 1 7 := ⟨cb_X6_spelled, (gwAt 979 (by decide +kernel) rfl), (gwAt 980 (by decide +kernel) rfl), (gwAt 981 (by decide +kernel) rfl), _, rfl, rfl⟩
theorem cb_X7_spelled : CB M_X7_spelled 1 := ⟨(gwAt 76 (by decide +kernel) rfl), (gwAt 1709 (by decide +kernel) rfl), ⟨by decide +kernel, by decide +kernel, by decide +kernel⟩, by decide⟩
theorem cs_L_207 : CV RL 207 M_X7_spelled 1 8 := ⟨cb_X7_spelled, (gwAt 1706 (by decide +kernel) rfl), (gwAt 1707 (by decide +kernel) rfl), (gwAt 1708 (by decide +kernel) rfl), _, rfl, rfl⟩
theorem cb_X6_image : CB M_X6_image 0 := ⟨(gwAt 65 (by decide +kernel) rfl), (gwAt 1148 (by decide +kernel) rfl), ⟨by decide +kernel, by decide +kernel, by decide +kernel⟩, by decide⟩
theorem cs_L_208 : CV RL 208 M_X6_image 0 7 := ⟨cb_X6_image, (gwAt 1145 (by decide +kernel) rfl), (gwAt 1146 (by decide +kernel) rfl), (gwAt 1147 (by decide +kernel) rfl), _, rfl, rfl⟩
theorem cb_X7_image : CB M_X7_image 0 := ⟨(gwAt 76 (by decide +kernel) rfl), (gwAt 1728 (by decide +kernel) rfl), ⟨by decide +kernel, by decide +kernel, by decide +kernel⟩, by decide⟩
theorem cs_L_211 : CV RL 211 M_X7_image 0 8 := ⟨cb_X7_image, (gwAt 1725 (by decide +kernel) rfl), (gwAt 1726 (by decide +kernel) rfl), (gwAt 1727 (by decide +kernel) rfl), _, rfl, rfl⟩
theorem cb_X6_undo : CB M_X6_undo 0 := ⟨(gwAt 65 (by decide +kernel) rfl), (gwAt 1158 (by decide +kernel) rfl), ⟨by decide +kernel, by decide +kernel, by decide +kernel⟩, by decide⟩
theorem cs_L_212 : CV RL 212 M_X6_undo 0 7 := ⟨cb_X6_undo, (gwAt 1155 (by decide +kernel) rfl), (gwAt 1156 (by decide +kernel) rfl), (gwAt 1157 (by decide +kernel) rfl), _, rfl, rfl⟩
theorem cb_X7_undo : CB M_X7_undo 0 := ⟨(gwAt 76 (by decide +kernel) rfl), (gwAt 1732 (by decide +kernel) rfl), ⟨by decide +kernel, by decide +kernel, by decide +kernel⟩, by decide⟩
theorem cs_L_215 : CV RL 215 M_X7_undo 0 8 := ⟨cb_X7_undo, (gwAt 1729 (by decide +kernel) rfl), (gwAt 1730 (by decide +kernel) rfl), (gwAt 1731 (by decide +kernel) rfl), _, rfl, rfl⟩
theorem cb_X6_count : CB M_X6_count 1 := ⟨(gwAt 65 (by decide +kernel) rfl), (gwAt 1162 (by decide +kernel) rfl), ⟨by decide +kernel, by decide +kernel, by decide +kernel⟩, by decide⟩
theorem cs_L_216 : CV RL 216 M_X6_count 1 7 := ⟨cb_X6_count, (gwAt 1159 (by decide +kernel) rfl), (gwAt 1160 (by decide +kernel) rfl), (gwAt 1161 (by decide +kernel) rfl), _, rfl, rfl⟩
theorem cb_X7_count : CB M_X7_count 1 := ⟨(gwAt 76 (by decide +kernel) rfl), (gwAt 1736 (by decide +kernel) rfl), ⟨by decide +kernel, by decide +kernel, by decide +kernel⟩, by decide⟩
theorem cs_L_219 : CV RL 219 M_X7_count 1 8 := ⟨cb_X7_count, (gwAt 1733 (by decide +kernel) rfl), (gwAt 1734 (by decide +kernel) rfl), (gwAt 1735 (by decide +kernel) rfl), _, rfl, rfl⟩
theorem cb_X7_in : CB M_X7_in 3 := ⟨(gwAt 76 (by decide +kernel) rfl), (gwAt 1302 (by decide +kernel) rfl), ⟨by decide +kernel, by decide +kernel, by decide +kernel⟩, by decide⟩
theorem cs_X7_95 : CS RX7 95 M_X7_in 3 := ⟨cb_X7_in, (gwAt 1300 (by decide +kernel) rfl), (gwAt 1301 (by decide +kernel) rfl)⟩
theorem cb_X7_kindOf : CB M_X7_kindOf 1 := ⟨(gwAt 76 (by decide +kernel) rfl), (gwAt 1333 (by decide +kernel) rfl), ⟨by decide +kernel, by decide +kernel, by decide +kernel⟩, by decide⟩
theorem cs_X7_101 : CS RX7 101 M_X7_kindOf 1 := ⟨cb_X7_kindOf, (gwAt 1331 (by decide +kernel) rfl), (gwAt 1332 (by decide +kernel) rfl)⟩
theorem cb_X7_figureOf : CB M_X7_figureOf 1 := ⟨(gwAt 76 (by decide +kernel) rfl), (gwAt 1339 (by decide +kernel) rfl), ⟨by decide +kernel, by decide +kernel, by decide +kernel⟩, by decide⟩
theorem cs_X7_105 : CS RX7 105 M_X7_figureOf 1 := ⟨cb_X7_figureOf, (gwAt 1337 (by decide +kernel) rfl), (gwAt 1338 (by decide +kernel) rfl)⟩
theorem cb_X7_along : CB M_X7_along 1 := ⟨(gwAt 76 (by decide +kernel) rfl), (gwAt 1372 (by decide +kernel) rfl), ⟨by decide +kernel, by decide +kernel, by decide +kernel⟩, by decide⟩
theorem cs_X7_108 : CS RX7 108 M_X7_along 1 := ⟨cb_X7_along, (gwAt 1370 (by decide +kernel) rfl), (gwAt 1371 (by decide +kernel) rfl)⟩
theorem cb_X7_across : CB M_X7_across 1 := ⟨(gwAt 76 (by decide +kernel) rfl), (gwAt 1375 (by decide +kernel) rfl), ⟨by decide +kernel, by decide +kernel, by decide +kernel⟩, by decide⟩
theorem cs_X7_111 : CS RX7 111 M_X7_across 1 := ⟨cb_X7_across, (gwAt 1373 (by decide +kernel) rfl), (gwAt 1374 (by decide +kernel) rfl)⟩
theorem cb_X7_angleOf : CB M_X7_angleOf 1 := ⟨(gwAt 76 (by decide +kernel) rfl), (gwAt 1336 (by decide +kernel) rfl), ⟨by decide +kernel, by decide +kernel, by decide +kernel⟩, by decide⟩
theorem cs_X7_114 : CS RX7 114 M_X7_angleOf 1 := ⟨cb_X7_angleOf, (gwAt 1334 (by decide +kernel) rfl), (gwAt 1335 (by decide +kernel) rfl)⟩
theorem cb_X7_quarter : CB M_X7_quarter 2 := ⟨(gwAt 76 (by decide +kernel) rfl), (gwAt 1415 (by decide +kernel) rfl), ⟨by decide +kernel, by decide +kernel, by decide +kernel⟩, by decide⟩
theorem cs_X7_121 : CS RX7 121 M_X7_quarter 2 := ⟨cb_X7_quarter, (gwAt 1413 (by decide +kernel) rfl), (gwAt 1414 (by decide +kernel) rfl)⟩
theorem cb_X7_scales : CB M_X7_scales 4 := ⟨(gwAt 76 (by decide +kernel) rfl), (gwAt 1404 (by decide +kernel) rfl), ⟨by decide +kernel, by decide +kernel, by decide +kernel⟩, by decide⟩
theorem cs_X7_125 : CS RX7 125 M_X7_scales 4 := ⟨cb_X7_scales, (gwAt 1402 (by decide +kernel) rfl), (gwAt 1403 (by decide +kernel) rfl)⟩
theorem cb_X7_sheet : CB M_X7_sheet 2 := ⟨(gwAt 76 (by decide +kernel) rfl), (gwAt 1407 (by decide +kernel) rfl), ⟨by decide +kernel, by decide +kernel, by decide +kernel⟩, by decide⟩
theorem cs_X7_129 : CS RX7 129 M_X7_sheet 2 := ⟨cb_X7_sheet, (gwAt 1405 (by decide +kernel) rfl), (gwAt 1406 (by decide +kernel) rfl)⟩
theorem cb_X7_quarters : CB M_X7_quarters 3 := ⟨(gwAt 76 (by decide +kernel) rfl), (gwAt 1412 (by decide +kernel) rfl), ⟨by decide +kernel, by decide +kernel, by decide +kernel⟩, by decide⟩
theorem cs_X7_132 : CS RX7 132 M_X7_quarters 3 := ⟨cb_X7_quarters, (gwAt 1410 (by decide +kernel) rfl), (gwAt 1411 (by decide +kernel) rfl)⟩
theorem cb_X7_toLowest : CB M_X7_toLowest 1 := ⟨(gwAt 76 (by decide +kernel) rfl), (gwAt 1418 (by decide +kernel) rfl), ⟨by decide +kernel, by decide +kernel, by decide +kernel⟩, by decide⟩
theorem cs_X7_136 : CS RX7 136 M_X7_toLowest 1 := ⟨cb_X7_toLowest, (gwAt 1416 (by decide +kernel) rfl), (gwAt 1417 (by decide +kernel) rfl)⟩
theorem cb_X7_begins : CB M_X7_begins 1 := ⟨(gwAt 76 (by decide +kernel) rfl), (gwAt 1397 (by decide +kernel) rfl), ⟨by decide +kernel, by decide +kernel, by decide +kernel⟩, by decide⟩
theorem cs_X7_146 : CV RX7 146 M_X7_begins 1 8 := ⟨cb_X7_begins, (gwAt 1394 (by decide +kernel) rfl), (gwAt 1396 (by decide +kernel) rfl), (gwAt 37 (by decide +kernel) rfl), _, rfl, rfl⟩
theorem cb_X7_goes : CB M_X7_goes 2 := ⟨(gwAt 76 (by decide +kernel) rfl), (gwAt 1401 (by decide +kernel) rfl), ⟨by decide +kernel, by decide +kernel, by decide +kernel⟩, by decide⟩
theorem cs_X7_149 : CS RX7 149 M_X7_goes 2 := ⟨cb_X7_goes, (gwAt 1399 (by decide +kernel) rfl), (gwAt 1400 (by decide +kernel) rfl)⟩
theorem cb_X7_mayBe : CB M_X7_mayBe 4 := ⟨(gwAt 76 (by decide +kernel) rfl), (gwAt 1305 (by decide +kernel) rfl), ⟨by decide +kernel, by decide +kernel, by decide +kernel⟩, by decide⟩
theorem cs_X7_154 : CS RX7 154 M_X7_mayBe 4 := ⟨cb_X7_mayBe, (gwAt 1303 (by decide +kernel) rfl), (gwAt 1304 (by decide +kernel) rfl)⟩
theorem cb_X7_codeOf : CB M_X7_codeOf 3 := ⟨(gwAt 76 (by decide +kernel) rfl), (gwAt 1314 (by decide +kernel) rfl), ⟨by decide +kernel, by decide +kernel, by decide +kernel⟩, by decide⟩
theorem cs_X7_162 : CS RX7 162 M_X7_codeOf 3 := ⟨cb_X7_codeOf, (gwAt 1312 (by decide +kernel) rfl), (gwAt 1313 (by decide +kernel) rfl)⟩
theorem cb_X7_adds : CB M_X7_adds 1 := ⟨(gwAt 76 (by decide +kernel) rfl), (gwAt 1318 (by decide +kernel) rfl), ⟨by decide +kernel, by decide +kernel, by decide +kernel⟩, by decide⟩
theorem cs_X7_166 : CV RX7 166 M_X7_adds 1 8 := ⟨cb_X7_adds, (gwAt 1315 (by decide +kernel) rfl), (gwAt 1317 (by decide +kernel) rfl), (gwAt 32 (by decide +kernel) rfl), _, rfl, rfl⟩
theorem cb_X7_isFilter : CB M_X7_isFilter 1 := ⟨(gwAt 76 (by decide +kernel) rfl), (gwAt 1326 (by decide +kernel) rfl), ⟨by decide +kernel, by decide +kernel, by decide +kernel⟩, by decide⟩
theorem cs_X7_169 : CV RX7 169 M_X7_isFilter 1 8 := ⟨cb_X7_isFilter, (gwAt 1323 (by decide +kernel) rfl), (gwAt 1325 (by decide +kernel) rfl), (gwAt 33 (by decide +kernel) rfl), _, rfl, rfl⟩
theorem cb_X7_told : CB M_X7_told 2 := ⟨(gwAt 76 (by decide +kernel) rfl), (gwAt 1330 (by decide +kernel) rfl), ⟨by decide +kernel, by decide +kernel, by decide +kernel⟩, by decide⟩
theorem cs_X7_173 : CS RX7 173 M_X7_told 2 := ⟨cb_X7_told, (gwAt 1328 (by decide +kernel) rfl), (gwAt 1329 (by decide +kernel) rfl)⟩
theorem cb_X7_with : CB M_X7_with 3 := ⟨(gwAt 76 (by decide +kernel) rfl), (gwAt 1342 (by decide +kernel) rfl), ⟨by decide +kernel, by decide +kernel, by decide +kernel⟩, by decide⟩
theorem cs_X7_177 : CS RX7 177 M_X7_with 3 := ⟨cb_X7_with, (gwAt 1340 (by decide +kernel) rfl), (gwAt 1341 (by decide +kernel) rfl)⟩
theorem cb_X7_takesOut : CB M_X7_takesOut 1 := ⟨(gwAt 76 (by decide +kernel) rfl), (gwAt 1354 (by decide +kernel) rfl), ⟨by decide +kernel, by decide +kernel, by decide +kernel⟩, by decide⟩
theorem cs_X7_180 : CV RX7 180 M_X7_takesOut 1 8 := ⟨cb_X7_takesOut, (gwAt 1351 (by decide +kernel) rfl), (gwAt 1353 (by decide +kernel) rfl), (gwAt 34 (by decide +kernel) rfl), _, rfl, rfl⟩
theorem cb_X7_isUnderKind : CB M_X7_isUnderKind 2 := ⟨(gwAt 76 (by decide +kernel) rfl), (gwAt 1369 (by decide +kernel) rfl), ⟨by decide +kernel, by decide +kernel, by decide +kernel⟩, by decide⟩
theorem cs_X7_184 : CS RX7 184 M_X7_isUnderKind 2 := ⟨cb_X7_isUnderKind, (gwAt 1367 (by decide +kernel) rfl), (gwAt 1368 (by decide +kernel) rfl)⟩
theorem cb_X7_isBehind : CB M_X7_isBehind 1 := ⟨(gwAt 76 (by decide +kernel) rfl), (gwAt 1387 (by decide +kernel) rfl), ⟨by decide +kernel, by decide +kernel, by decide +kernel⟩, by decide⟩
theorem cs_X7_188 : CV RX7 188 M_X7_isBehind 1 8 := ⟨cb_X7_isBehind, (gwAt 1384 (by decide +kernel) rfl), (gwAt 1386 (by decide +kernel) rfl), (gwAt 35 (by decide +kernel) rfl), _, rfl, rfl⟩
theorem cb_X7_behind : CB M_X7_behind 1 := ⟨(gwAt 76 (by decide +kernel) rfl), (gwAt 1393 (by decide +kernel) rfl), ⟨by decide +kernel, by decide +kernel, by decide +kernel⟩, by decide⟩
theorem cs_X7_195 : CV RX7 195 M_X7_behind 1 8 := ⟨cb_X7_behind, (gwAt 1390 (by decide +kernel) rfl), (gwAt 1392 (by decide +kernel) rfl), (gwAt 36 (by decide +kernel) rfl), _, rfl, rfl⟩
theorem cb_X7_common : CB M_X7_common 2 := ⟨(gwAt 76 (by decide +kernel) rfl), (gwAt 1435 (by decide +kernel) rfl), ⟨by decide +kernel, by decide +kernel, by decide +kernel⟩, by decide⟩
theorem cs_X7_198 : CS RX7 198 M_X7_common 2 := ⟨cb_X7_common, (gwAt 1433 (by decide +kernel) rfl), (gwAt 1434 (by decide +kernel) rfl)⟩
theorem cb_X7_lowest : CB M_X7_lowest 3 := ⟨(gwAt 76 (by decide +kernel) rfl), (gwAt 1432 (by decide +kernel) rfl), ⟨by decide +kernel, by decide +kernel, by decide +kernel⟩, by decide⟩
theorem cs_X7_202 : CS RX7 202 M_X7_lowest 3 := ⟨cb_X7_lowest, (gwAt 1430 (by decide +kernel) rfl), (gwAt 1431 (by decide +kernel) rfl)⟩
theorem cb_X7_isPart : CB M_X7_isPart 1 := ⟨(gwAt 76 (by decide +kernel) rfl), (gwAt 1425 (by decide +kernel) rfl), ⟨by decide +kernel, by decide +kernel, by decide +kernel⟩, by decide⟩
theorem cs_X7_206 : CS RX7 206 M_X7_isPart 1 := ⟨cb_X7_isPart, (gwAt 1423 (by decide +kernel) rfl), (gwAt 1424 (by decide +kernel) rfl)⟩
theorem cb_X7_leftNow : CB M_X7_leftNow 1 := ⟨(gwAt 76 (by decide +kernel) rfl), (gwAt 1429 (by decide +kernel) rfl), ⟨by decide +kernel, by decide +kernel, by decide +kernel⟩, by decide⟩
theorem cs_X7_209 : CV RX7 209 M_X7_leftNow 1 8 := ⟨cb_X7_leftNow, (gwAt 1426 (by decide +kernel) rfl), (gwAt 1428 (by decide +kernel) rfl), (gwAt 38 (by decide +kernel) rfl), _, rfl, rfl⟩
theorem cb_X7_tells : CB M_X7_tells 2 := ⟨(gwAt 76 (by decide +kernel) rfl), (gwAt 1449 (by decide +kernel) rfl), ⟨by decide +kernel, by decide +kernel, by decide +kernel⟩, by decide⟩
theorem cs_X7_220 : CV RX7 220 M_X7_tells 2 8 := ⟨cb_X7_tells, (gwAt 1446 (by decide +kernel) rfl), (gwAt 1448 (by decide +kernel) rfl), (gwAt 40 (by decide +kernel) rfl), _, rfl, rfl⟩
theorem cb_X7_findsDegree : CB M_X7_findsDegree 0 := ⟨(gwAt 76 (by decide +kernel) rfl), (gwAt 1443 (by decide +kernel) rfl), ⟨by decide +kernel, by decide +kernel, by decide +kernel⟩, by decide⟩
theorem cs_X7_231 : CV RX7 231 M_X7_findsDegree 0 8 := ⟨cb_X7_findsDegree, (gwAt 1440 (by decide +kernel) rfl), (gwAt 1442 (by decide +kernel) rfl), (gwAt 39 (by decide +kernel) rfl), _, rfl, rfl⟩
theorem cb_X7_areAlike : CB M_X7_areAlike 4 := ⟨(gwAt 76 (by decide +kernel) rfl), (gwAt 1472 (by decide +kernel) rfl), ⟨by decide +kernel, by decide +kernel, by decide +kernel⟩, by decide⟩
theorem cs_X7_238 : CS RX7 238 M_X7_areAlike 4 := ⟨cb_X7_areAlike, (gwAt 1470 (by decide +kernel) rfl), (gwAt 1471 (by decide +kernel) rfl)⟩
theorem cb_X7_goesOrders : CB M_X7_goesOrders 2 := ⟨(gwAt 76 (by decide +kernel) rfl), (gwAt 1465 (by decide +kernel) rfl), ⟨by decide +kernel, by decide +kernel, by decide +kernel⟩, by decide⟩
theorem cs_X7_242 : CV RX7 242 M_X7_goesOrders 2 8 := ⟨cb_X7_goesOrders, (gwAt 1462 (by decide +kernel) rfl), (gwAt 1464 (by decide +kernel) rfl), (gwAt 42 (by decide +kernel) rfl), _, rfl, rfl⟩
theorem cb_X7_sees : CB M_X7_sees 0 := ⟨(gwAt 76 (by decide +kernel) rfl), (gwAt 1469 (by decide +kernel) rfl), ⟨by decide +kernel, by decide +kernel, by decide +kernel⟩, by decide⟩
theorem cs_X7_245 : CV RX7 245 M_X7_sees 0 8 := ⟨cb_X7_sees, (gwAt 1466 (by decide +kernel) rfl), (gwAt 1468 (by decide +kernel) rfl), (gwAt 43 (by decide +kernel) rfl), _, rfl, rfl⟩
theorem cb_X7_compared : CB M_X7_compared 4 := ⟨(gwAt 76 (by decide +kernel) rfl), (gwAt 1475 (by decide +kernel) rfl), ⟨by decide +kernel, by decide +kernel, by decide +kernel⟩, by decide⟩
theorem cs_X7_252 : CS RX7 252 M_X7_compared 4 := ⟨cb_X7_compared, (gwAt 1473 (by decide +kernel) rfl), (gwAt 1474 (by decide +kernel) rfl)⟩
theorem cb_X7_findsOrders : CB M_X7_findsOrders 0 := ⟨(gwAt 76 (by decide +kernel) rfl), (gwAt 1461 (by decide +kernel) rfl), ⟨by decide +kernel, by decide +kernel, by decide +kernel⟩, by decide⟩
theorem cs_X7_262 : CV RX7 262 M_X7_findsOrders 0 8 := ⟨cb_X7_findsOrders, (gwAt 1458 (by decide +kernel) rfl), (gwAt 1460 (by decide +kernel) rfl), (gwAt 41 (by decide +kernel) rfl), _, rfl, rfl⟩
theorem cb_X7_begins1 : CB M_X7_begins1 1 := ⟨(gwAt 76 (by decide +kernel) rfl), (gwAt 1487 (by decide +kernel) rfl), ⟨by decide +kernel, by decide +kernel, by decide +kernel⟩, by decide⟩
theorem cs_X7_265 : CV RX7 265 M_X7_begins1 1 8 := ⟨cb_X7_begins1, (gwAt 1484 (by decide +kernel) rfl), (gwAt 1486 (by decide +kernel) rfl), (gwAt 44 (by decide +kernel) rfl), _, rfl, rfl⟩
theorem cb_X7_isList : CB M_X7_isList 1 := ⟨(gwAt 76 (by decide +kernel) rfl), (gwAt 1518 (by decide +kernel) rfl), ⟨by decide +kernel, by decide +kernel, by decide +kernel⟩, by decide⟩
theorem cs_X7_268 : CS RX7 268 M_X7_isList 1 := ⟨cb_X7_isList, (gwAt 1516 (by decide +kernel) rfl), (gwAt 1517 (by decide +kernel) rfl)⟩
theorem cb_X7_becomes : CB M_X7_becomes 2 := ⟨(gwAt 76 (by decide +kernel) rfl), (gwAt 1522 (by decide +kernel) rfl), ⟨by decide +kernel, by decide +kernel, by decide +kernel⟩, by decide⟩
theorem cs_X7_271 : CV RX7 271 M_X7_becomes 2 8 := ⟨cb_X7_becomes, (gwAt 1519 (by decide +kernel) rfl), (gwAt 1521 (by decide +kernel) rfl), (gwAt 45 (by decide +kernel) rfl), _, rfl, rfl⟩
theorem cb_X7_lays : CB M_X7_lays 1 := ⟨(gwAt 76 (by decide +kernel) rfl), (gwAt 1538 (by decide +kernel) rfl), ⟨by decide +kernel, by decide +kernel, by decide +kernel⟩, by decide⟩
theorem cs_X7_274 : CV RX7 274 M_X7_lays 1 8 := ⟨cb_X7_lays, (gwAt 1535 (by decide +kernel) rfl), (gwAt 1537 (by decide +kernel) rfl), (gwAt 46 (by decide +kernel) rfl), _, rfl, rfl⟩
theorem cb_X7_hasFive : CB M_X7_hasFive 1 := ⟨(gwAt 76 (by decide +kernel) rfl), (gwAt 1550 (by decide +kernel) rfl), ⟨by decide +kernel, by decide +kernel, by decide +kernel⟩, by decide⟩
theorem cs_X7_277 : CV RX7 277 M_X7_hasFive 1 8 := ⟨cb_X7_hasFive, (gwAt 1547 (by decide +kernel) rfl), (gwAt 1549 (by decide +kernel) rfl), (gwAt 47 (by decide +kernel) rfl), _, rfl, rfl⟩
theorem cb_X7_tellsLight : CB M_X7_tellsLight 1 := ⟨(gwAt 76 (by decide +kernel) rfl), (gwAt 1560 (by decide +kernel) rfl), ⟨by decide +kernel, by decide +kernel, by decide +kernel⟩, by decide⟩
theorem cs_X7_284 : CV RX7 284 M_X7_tellsLight 1 8 := ⟨cb_X7_tellsLight, (gwAt 1557 (by decide +kernel) rfl), (gwAt 1559 (by decide +kernel) rfl), (gwAt 48 (by decide +kernel) rfl), _, rfl, rfl⟩
theorem cb_X7_meterNow : CB M_X7_meterNow 0 := ⟨(gwAt 76 (by decide +kernel) rfl), (gwAt 1576 (by decide +kernel) rfl), ⟨by decide +kernel, by decide +kernel, by decide +kernel⟩, by decide⟩
theorem cs_X7_287 : CV RX7 287 M_X7_meterNow 0 8 := ⟨cb_X7_meterNow, (gwAt 1573 (by decide +kernel) rfl), (gwAt 1575 (by decide +kernel) rfl), (gwAt 49 (by decide +kernel) rfl), _, rfl, rfl⟩
theorem cb_Jxf58ca_floatToIntBits_5c35a : CB M_Jxf58ca_floatToIntBits_5c35a 1 := ⟨(gwAt 80 (by decide +kernel) rfl), (gwAt 1579 (by decide +kernel) rfl), ⟨by decide +kernel, by decide +kernel, by decide +kernel⟩, by decide⟩
theorem cs_X7_293 : CS RX7 293 M_Jxf58ca_floatToIntBits_5c35a 1 := ⟨cb_Jxf58ca_floatToIntBits_5c35a, (gwAt 1577 (by decide +kernel) rfl), (gwAt 1578 (by decide +kernel) rfl)⟩
theorem cb_Jxe99ae_doubleToLongBits_ccdee : CB M_Jxe99ae_doubleToLongBits_ccdee 1 := ⟨(gwAt 81 (by decide +kernel) rfl), (gwAt 1589 (by decide +kernel) rfl), ⟨by decide +kernel, by decide +kernel, by decide +kernel⟩, by decide⟩
theorem cs_X7_299 : CS RX7 299 M_Jxe99ae_doubleToLongBits_ccdee 1 := ⟨cb_Jxe99ae_doubleToLongBits_ccdee, (gwAt 1587 (by decide +kernel) rfl), (gwAt 1588 (by decide +kernel) rfl)⟩
theorem cb_X7_isCell : CB M_X7_isCell 1 := ⟨(gwAt 76 (by decide +kernel) rfl), (gwAt 1603 (by decide +kernel) rfl), ⟨by decide +kernel, by decide +kernel, by decide +kernel⟩, by decide⟩
theorem cs_X7_305 : CS RX7 305 M_X7_isCell 1 := ⟨cb_X7_isCell, (gwAt 1601 (by decide +kernel) rfl), (gwAt 1602 (by decide +kernel) rfl)⟩
theorem cb_X7_meterAll : CB M_X7_meterAll 0 := ⟨(gwAt 76 (by decide +kernel) rfl), (gwAt 1608 (by decide +kernel) rfl), ⟨by decide +kernel, by decide +kernel, by decide +kernel⟩, by decide⟩
theorem cs_X7_308 : CV RX7 308 M_X7_meterAll 0 8 := ⟨cb_X7_meterAll, (gwAt 1605 (by decide +kernel) rfl), (gwAt 1607 (by decide +kernel) rfl), (gwAt 50 (by decide +kernel) rfl), _, rfl, rfl⟩
theorem cb_X7_isRack : CB M_X7_isRack 1 := ⟨(gwAt 76 (by decide +kernel) rfl), (gwAt 1629 (by decide +kernel) rfl), ⟨by decide +kernel, by decide +kernel, by decide +kernel⟩, by decide⟩
theorem cs_X7_314 : CS RX7 314 M_X7_isRack 1 := ⟨cb_X7_isRack, (gwAt 1627 (by decide +kernel) rfl), (gwAt 1628 (by decide +kernel) rfl)⟩
theorem cb_X7_isPlace : CB M_X7_isPlace 1 := ⟨(gwAt 76 (by decide +kernel) rfl), (gwAt 1632 (by decide +kernel) rfl), ⟨by decide +kernel, by decide +kernel, by decide +kernel⟩, by decide⟩
theorem cs_X7_317 : CS RX7 317 M_X7_isPlace 1 := ⟨cb_X7_isPlace, (gwAt 1630 (by decide +kernel) rfl), (gwAt 1631 (by decide +kernel) rfl)⟩
theorem cb_X7_doesTake : CB M_X7_doesTake 2 := ⟨(gwAt 76 (by decide +kernel) rfl), (gwAt 1636 (by decide +kernel) rfl), ⟨by decide +kernel, by decide +kernel, by decide +kernel⟩, by decide⟩
theorem cs_X7_320 : CV RX7 320 M_X7_doesTake 2 8 := ⟨cb_X7_doesTake, (gwAt 1633 (by decide +kernel) rfl), (gwAt 1635 (by decide +kernel) rfl), (gwAt 51 (by decide +kernel) rfl), _, rfl, rfl⟩
theorem cb_X7_heldIn : CB M_X7_heldIn 2 := ⟨(gwAt 76 (by decide +kernel) rfl), (gwAt 1656 (by decide +kernel) rfl), ⟨by decide +kernel, by decide +kernel, by decide +kernel⟩, by decide⟩
theorem cs_X7_323 : CV RX7 323 M_X7_heldIn 2 8 := ⟨cb_X7_heldIn, (gwAt 1653 (by decide +kernel) rfl), (gwAt 1655 (by decide +kernel) rfl), (gwAt 52 (by decide +kernel) rfl), _, rfl, rfl⟩
theorem cb_X7_next : CB M_X7_next 0 := ⟨(gwAt 76 (by decide +kernel) rfl), (gwAt 1685 (by decide +kernel) rfl), ⟨by decide +kernel, by decide +kernel, by decide +kernel⟩, by decide⟩
theorem cs_X7_334 : CV RX7 334 M_X7_next 0 8 := ⟨cb_X7_next, (gwAt 1682 (by decide +kernel) rfl), (gwAt 1684 (by decide +kernel) rfl), (gwAt 56 (by decide +kernel) rfl), _, rfl, rfl⟩
theorem cb_X7_isFigure : CB M_X7_isFigure 2 := ⟨(gwAt 76 (by decide +kernel) rfl), (gwAt 1681 (by decide +kernel) rfl), ⟨by decide +kernel, by decide +kernel, by decide +kernel⟩, by decide⟩
theorem cs_X7_341 : CV RX7 341 M_X7_isFigure 2 8 := ⟨cb_X7_isFigure, (gwAt 1678 (by decide +kernel) rfl), (gwAt 1680 (by decide +kernel) rfl), (gwAt 55 (by decide +kernel) rfl), _, rfl, rfl⟩
theorem cb_X7_faulty : CB M_X7_faulty 1 := ⟨(gwAt 76 (by decide +kernel) rfl), (gwAt 1693 (by decide +kernel) rfl), ⟨by decide +kernel, by decide +kernel, by decide +kernel⟩, by decide⟩
theorem cs_X7_344 : CV RX7 344 M_X7_faulty 1 8 := ⟨cb_X7_faulty, (gwAt 1690 (by decide +kernel) rfl), (gwAt 1692 (by decide +kernel) rfl), (gwAt 58 (by decide +kernel) rfl), _, rfl, rfl⟩
theorem cb_X7_angleTold : CB M_X7_angleTold 0 := ⟨(gwAt 76 (by decide +kernel) rfl), (gwAt 1697 (by decide +kernel) rfl), ⟨by decide +kernel, by decide +kernel, by decide +kernel⟩, by decide⟩
theorem cs_X7_347 : CV RX7 347 M_X7_angleTold 0 8 := ⟨cb_X7_angleTold, (gwAt 1694 (by decide +kernel) rfl), (gwAt 1696 (by decide +kernel) rfl), (gwAt 59 (by decide +kernel) rfl), _, rfl, rfl⟩
theorem cb_X7_figureTold : CB M_X7_figureTold 0 := ⟨(gwAt 76 (by decide +kernel) rfl), (gwAt 1701 (by decide +kernel) rfl), ⟨by decide +kernel, by decide +kernel, by decide +kernel⟩, by decide⟩
theorem cs_X7_350 : CV RX7 350 M_X7_figureTold 0 8 := ⟨cb_X7_figureTold, (gwAt 1698 (by decide +kernel) rfl), (gwAt 1700 (by decide +kernel) rfl), (gwAt 60 (by decide +kernel) rfl), _, rfl, rfl⟩
theorem cb_X7_itemTold : CB M_X7_itemTold 1 := ⟨(gwAt 76 (by decide +kernel) rfl), (gwAt 1677 (by decide +kernel) rfl), ⟨by decide +kernel, by decide +kernel, by decide +kernel⟩, by decide⟩
theorem cs_X7_353 : CV RX7 353 M_X7_itemTold 1 8 := ⟨cb_X7_itemTold, (gwAt 1674 (by decide +kernel) rfl), (gwAt 1676 (by decide +kernel) rfl), (gwAt 54 (by decide +kernel) rfl), _, rfl, rfl⟩
theorem cb_X7_filterTold : CB M_X7_filterTold 0 := ⟨(gwAt 76 (by decide +kernel) rfl), (gwAt 1689 (by decide +kernel) rfl), ⟨by decide +kernel, by decide +kernel, by decide +kernel⟩, by decide⟩
theorem cs_X7_359 : CV RX7 359 M_X7_filterTold 0 8 := ⟨cb_X7_filterTold, (gwAt 1686 (by decide +kernel) rfl), (gwAt 1688 (by decide +kernel) rfl), (gwAt 57 (by decide +kernel) rfl), _, rfl, rfl⟩
theorem cb_X7_textTold : CB M_X7_textTold 1 := ⟨(gwAt 76 (by decide +kernel) rfl), (gwAt 1673 (by decide +kernel) rfl), ⟨by decide +kernel, by decide +kernel, by decide +kernel⟩, by decide⟩
theorem cs_X7_362 : CV RX7 362 M_X7_textTold 1 8 := ⟨cb_X7_textTold, (gwAt 1670 (by decide +kernel) rfl), (gwAt 1672 (by decide +kernel) rfl), (gwAt 53 (by decide +kernel) rfl), _, rfl, rfl⟩
theorem cb_X7_spells : CB M_X7_spells 1 := ⟨(gwAt 76 (by decide +kernel) rfl), (gwAt 1717 (by decide +kernel) rfl), ⟨by decide +kernel, by decide +kernel, by decide +kernel⟩, by decide⟩
theorem cs_X7_368 : CV RX7 368 M_X7_spells 1 8 := ⟨cb_X7_spells, (gwAt 1714 (by decide +kernel) rfl), (gwAt 1716 (by decide +kernel) rfl), (gwAt 62 (by decide +kernel) rfl), _, rfl, rfl⟩
theorem cb_X7_letterOf : CB M_X7_letterOf 1 := ⟨(gwAt 76 (by decide +kernel) rfl), (gwAt 1720 (by decide +kernel) rfl), ⟨by decide +kernel, by decide +kernel, by decide +kernel⟩, by decide⟩
theorem cs_X7_371 : CS RX7 371 M_X7_letterOf 1 := ⟨cb_X7_letterOf, (gwAt 1718 (by decide +kernel) rfl), (gwAt 1719 (by decide +kernel) rfl)⟩
theorem cb_X7_spellsNumber : CB M_X7_spellsNumber 1 := ⟨(gwAt 76 (by decide +kernel) rfl), (gwAt 1724 (by decide +kernel) rfl), ⟨by decide +kernel, by decide +kernel, by decide +kernel⟩, by decide⟩
theorem cs_X7_374 : CV RX7 374 M_X7_spellsNumber 1 8 := ⟨cb_X7_spellsNumber, (gwAt 1721 (by decide +kernel) rfl), (gwAt 1723 (by decide +kernel) rfl), (gwAt 63 (by decide +kernel) rfl), _, rfl, rfl⟩
theorem cb_X7_spellsAll : CB M_X7_spellsAll 0 := ⟨(gwAt 76 (by decide +kernel) rfl), (gwAt 1713 (by decide +kernel) rfl), ⟨by decide +kernel, by decide +kernel, by decide +kernel⟩, by decide⟩
theorem cs_X7_377 : CV RX7 377 M_X7_spellsAll 0 8 := ⟨cb_X7_spellsAll, (gwAt 1710 (by decide +kernel) rfl), (gwAt 1712 (by decide +kernel) rfl), (gwAt 61 (by decide +kernel) rfl), _, rfl, rfl⟩
theorem cb_J2_newBytesFor_77867 : CB M_J2_newBytesFor_77867 1 := ⟨(gwAt 75 (by decide +kernel) rfl), (gwAt 281 (by decide +kernel) rfl), ⟨by decide +kernel, by decide +kernel, by decide +kernel⟩, by decide⟩
theorem cs_J5_26 : CS RJ5 26 M_J2_newBytesFor_77867 1 := ⟨cb_J2_newBytesFor_77867, (gwAt 279 (by decide +kernel) rfl), (gwAt 280 (by decide +kernel) rfl)⟩
theorem cb_J7_copyOf_9075b : CB M_J7_copyOf_9075b 2 := ⟨(gwAt 86 (by decide +kernel) rfl), (gwAt 1013 (by decide +kernel) rfl), ⟨by decide +kernel, by decide +kernel, by decide +kernel⟩, by decide⟩
theorem cs_J5_108 : CS RJ5 108 M_J7_copyOf_9075b 2 := ⟨cb_J7_copyOf_9075b, (gwAt 1011 (by decide +kernel) rfl), (gwAt 1012 (by decide +kernel) rfl)⟩
theorem cb_J8_newLength_cabcc : CB M_J8_newLength_cabcc 3 := ⟨(gwAt 85 (by decide +kernel) rfl), (gwAt 1004 (by decide +kernel) rfl), ⟨by decide +kernel, by decide +kernel, by decide +kernel⟩, by decide⟩
theorem cs_J5_114 : CS RJ5 114 M_J8_newLength_cabcc 3 := ⟨cb_J8_newLength_cabcc, (gwAt 1002 (by decide +kernel) rfl), (gwAt 1003 (by decide +kernel) rfl)⟩
theorem cb_J1_inflate_0e8fd : CB M_J1_inflate_0e8fd 5 := ⟨(gwAt 82 (by decide +kernel) rfl), (gwAt 1057 (by decide +kernel) rfl), ⟨by decide +kernel, by decide +kernel, by decide +kernel⟩, by decide⟩
theorem cs_J5_125 : CS RJ5 125 M_J1_inflate_0e8fd 5 := ⟨cb_J1_inflate_0e8fd, (gwAt 1055 (by decide +kernel) rfl), (gwAt 1056 (by decide +kernel) rfl)⟩
theorem cb_J1_fillNull_b72d1 : CB M_J1_fillNull_b72d1 3 := ⟨(gwAt 82 (by decide +kernel) rfl), (gwAt 1030 (by decide +kernel) rfl), ⟨by decide +kernel, by decide +kernel, by decide +kernel⟩, by decide⟩
theorem cs_J5_133 : CS RJ5 133 M_J1_fillNull_b72d1 3 := ⟨cb_J1_fillNull_b72d1, (gwAt 1028 (by decide +kernel) rfl), (gwAt 1029 (by decide +kernel) rfl)⟩
theorem cb_J2_fillNull_b72d1 : CB M_J2_fillNull_b72d1 3 := ⟨(gwAt 75 (by decide +kernel) rfl), (gwAt 1039 (by decide +kernel) rfl), ⟨by decide +kernel, by decide +kernel, by decide +kernel⟩, by decide⟩
theorem cs_J5_137 : CS RJ5 137 M_J2_fillNull_b72d1 3 := ⟨cb_J2_fillNull_b72d1, (gwAt 1037 (by decide +kernel) rfl), (gwAt 1038 (by decide +kernel) rfl)⟩
theorem cb_J9_min_7cf53 : CB M_J9_min_7cf53 2 := ⟨(gwAt 77 (by decide +kernel) rfl), (gwAt 883 (by decide +kernel) rfl), ⟨by decide +kernel, by decide +kernel, by decide +kernel⟩, by decide⟩
theorem cs_J5_138 : CS RJ5 138 M_J9_min_7cf53 2 := ⟨cb_J9_min_7cf53, (gwAt 1142 (by decide +kernel) rfl), (gwAt 882 (by decide +kernel) rfl)⟩
theorem cb_J0_checkIndex_df160 : CB M_J0_checkIndex_df160 2 := ⟨(gwAt 74 (by decide +kernel) rfl), (gwAt 1081 (by decide +kernel) rfl), ⟨by decide +kernel, by decide +kernel, by decide +kernel⟩, by decide⟩
theorem cs_J5_144 : CS RJ5 144 M_J0_checkIndex_df160 2 := ⟨cb_J0_checkIndex_df160, (gwAt 1143 (by decide +kernel) rfl), (gwAt 1080 (by decide +kernel) rfl)⟩
theorem cb_J2_getChar_3b067 : CB M_J2_getChar_3b067 2 := ⟨(gwAt 75 (by decide +kernel) rfl), (gwAt 915 (by decide +kernel) rfl), ⟨by decide +kernel, by decide +kernel, by decide +kernel⟩, by decide⟩
theorem cs_J5_148 : CS RJ5 148 M_J2_getChar_3b067 2 := ⟨cb_J2_getChar_3b067, (gwAt 1144 (by decide +kernel) rfl), (gwAt 914 (by decide +kernel) rfl)⟩
theorem cb_J1_canEncode_fc78d : CB M_J1_canEncode_fc78d 1 := ⟨(gwAt 82 (by decide +kernel) rfl), (gwAt 1050 (by decide +kernel) rfl), ⟨by decide +kernel, by decide +kernel, by decide +kernel⟩, by decide⟩
theorem cs_J5_191 : CS RJ5 191 M_J1_canEncode_fc78d 1 := ⟨cb_J1_canEncode_fc78d, (gwAt 1048 (by decide +kernel) rfl), (gwAt 1049 (by decide +kernel) rfl)⟩
theorem cb_J2_putCharSB_b72d1 : CB M_J2_putCharSB_b72d1 3 := ⟨(gwAt 75 (by decide +kernel) rfl), (gwAt 1075 (by decide +kernel) rfl), ⟨by decide +kernel, by decide +kernel, by decide +kernel⟩, by decide⟩
theorem cs_J5_197 : CS RJ5 197 M_J2_putCharSB_b72d1 3 := ⟨cb_J2_putCharSB_b72d1, (gwAt 1073 (by decide +kernel) rfl), (gwAt 1074 (by decide +kernel) rfl)⟩
theorem cb_J6_stringSize_0f7a4 : CB M_J6_stringSize_0f7a4 1 := ⟨(gwAt 87 (by decide +kernel) rfl), (gwAt 1111 (by decide +kernel) rfl), ⟨by decide +kernel, by decide +kernel, by decide +kernel⟩, by decide⟩
theorem cs_J5_245 : CS RJ5 245 M_J6_stringSize_0f7a4 1 := ⟨cb_J6_stringSize_0f7a4, (gwAt 1109 (by decide +kernel) rfl), (gwAt 1110 (by decide +kernel) rfl)⟩
theorem cb_J6_getChars_ba4f3 : CB M_J6_getChars_ba4f3 3 := ⟨(gwAt 87 (by decide +kernel) rfl), (gwAt 1114 (by decide +kernel) rfl), ⟨by decide +kernel, by decide +kernel, by decide +kernel⟩, by decide⟩
theorem cs_J5_248 : CS RJ5 248 M_J6_getChars_ba4f3 3 := ⟨cb_J6_getChars_ba4f3, (gwAt 1112 (by decide +kernel) rfl), (gwAt 1113 (by decide +kernel) rfl)⟩
theorem cb_J2_getChars_46870 : CB M_J2_getChars_46870 4 := ⟨(gwAt 75 (by decide +kernel) rfl), (gwAt 1121 (by decide +kernel) rfl), ⟨by decide +kernel, by decide +kernel, by decide +kernel⟩, by decide⟩
theorem cs_J5_251 : CS RJ5 251 M_J2_getChars_46870 4 := ⟨cb_J2_getChars_46870, (gwAt 1119 (by decide +kernel) rfl), (gwAt 1120 (by decide +kernel) rfl)⟩
theorem cb_Jxe99ae_isNaN_b9ae7 : CB M_Jxe99ae_isNaN_b9ae7 1 := ⟨(gwAt 81 (by decide +kernel) rfl), (gwAt 1592 (by decide +kernel) rfl), ⟨by decide +kernel, by decide +kernel, by decide +kernel⟩, by decide⟩
theorem cs_Jxe99ae_122 : CS RJxe99ae 122 M_Jxe99ae_isNaN_b9ae7 1 := ⟨cb_Jxe99ae_isNaN_b9ae7, (gwAt 1590 (by decide +kernel) rfl), (gwAt 1591 (by decide +kernel) rfl)⟩
theorem cb_Jxf58ca_isNaN_12338 : CB M_Jxf58ca_isNaN_12338 1 := ⟨(gwAt 80 (by decide +kernel) rfl), (gwAt 1582 (by decide +kernel) rfl), ⟨by decide +kernel, by decide +kernel, by decide +kernel⟩, by decide⟩
theorem cs_Jxf58ca_59 : CS RJxf58ca 59 M_Jxf58ca_isNaN_12338 1 := ⟨cb_Jxf58ca_isNaN_12338, (gwAt 1580 (by decide +kernel) rfl), (gwAt 1581 (by decide +kernel) rfl)⟩
theorem cb_J1_charAt_3b067 : CB M_J1_charAt_3b067 2 := ⟨(gwAt 82 (by decide +kernel) rfl), (gwAt 1096 (by decide +kernel) rfl), ⟨by decide +kernel, by decide +kernel, by decide +kernel⟩, by decide⟩
theorem cs_J0_495 : CS RJ0 495 M_J1_charAt_3b067 2 := ⟨cb_J1_charAt_3b067, (gwAt 1094 (by decide +kernel) rfl), (gwAt 1095 (by decide +kernel) rfl)⟩
theorem cb_J2_charAt_3b067 : CB M_J2_charAt_3b067 2 := ⟨(gwAt 75 (by decide +kernel) rfl), (gwAt 1100 (by decide +kernel) rfl), ⟨by decide +kernel, by decide +kernel, by decide +kernel⟩, by decide⟩
theorem cs_J0_498 : CS RJ0 498 M_J2_charAt_3b067 2 := ⟨cb_J2_charAt_3b067, (gwAt 1098 (by decide +kernel) rfl), (gwAt 1099 (by decide +kernel) rfl)⟩
theorem cb_J1_indexOf_4cfef : CB M_J1_indexOf_4cfef 4 := ⟨(gwAt 82 (by decide +kernel) rfl), (gwAt 876 (by decide +kernel) rfl), ⟨by decide +kernel, by decide +kernel, by decide +kernel⟩, by decide⟩
theorem cs_J0_637 : CS RJ0 637 M_J1_indexOf_4cfef 4 := ⟨cb_J1_indexOf_4cfef, (gwAt 874 (by decide +kernel) rfl), (gwAt 875 (by decide +kernel) rfl)⟩
theorem cb_J2_indexOf_4cfef : CB M_J2_indexOf_4cfef 4 := ⟨(gwAt 75 (by decide +kernel) rfl), (gwAt 889 (by decide +kernel) rfl), ⟨by decide +kernel, by decide +kernel, by decide +kernel⟩, by decide⟩
theorem cs_J0_640 : CS RJ0 640 M_J2_indexOf_4cfef 4 := ⟨cb_J2_indexOf_4cfef, (gwAt 887 (by decide +kernel) rfl), (gwAt 888 (by decide +kernel) rfl)⟩
theorem cb_J3_checkIndex_8e157 : CB M_J3_checkIndex_8e157 3 := ⟨(gwAt 83 (by decide +kernel) rfl), (gwAt 1084 (by decide +kernel) rfl), ⟨by decide +kernel, by decide +kernel, by decide +kernel⟩, by decide⟩
theorem cs_J0_1059 : CS RJ0 1059 M_J3_checkIndex_8e157 3 := ⟨cb_J3_checkIndex_8e157, (gwAt 1082 (by decide +kernel) rfl), (gwAt 1083 (by decide +kernel) rfl)⟩
theorem cb_J3_checkFromToIndex_8c36e : CB M_J3_checkFromToIndex_8c36e 4 := ⟨(gwAt 83 (by decide +kernel) rfl), (gwAt 909 (by decide +kernel) rfl), ⟨by decide +kernel, by decide +kernel, by decide +kernel⟩, by decide⟩
theorem cs_J0_1062 : CS RJ0 1062 M_J3_checkFromToIndex_8c36e 4 := ⟨cb_J3_checkFromToIndex_8c36e, (gwAt 907 (by decide +kernel) rfl), (gwAt 908 (by decide +kernel) rfl)⟩
theorem cb_J3_checkFromIndexSize_8c36e : CB M_J3_checkFromIndexSize_8c36e 4 := ⟨(gwAt 83 (by decide +kernel) rfl), (gwAt 1069 (by decide +kernel) rfl), ⟨by decide +kernel, by decide +kernel, by decide +kernel⟩, by decide⟩
theorem cs_J0_1065 : CS RJ0 1065 M_J3_checkFromIndexSize_8c36e 4 := ⟨cb_J3_checkFromIndexSize_8c36e, (gwAt 1067 (by decide +kernel) rfl), (gwAt 1068 (by decide +kernel) rfl)⟩
theorem cb_J5_init_d00df : CB M_J5_init_d00df 1 := ⟨(gwAt 72 (by decide +kernel) rfl), (gwAt 275 (by decide +kernel) rfl), ⟨by decide +kernel, by decide +kernel, by decide +kernel⟩, by decide⟩
theorem cs_J4_1 : CI RJ4 1 M_J5_init_d00df 1 := ⟨cb_J5_init_d00df, (gwAt 273 (by decide +kernel) rfl), (gwAt 274 (by decide +kernel) rfl), rfl, rfl⟩
theorem cs_J1_9 : CS RJ1 9 M_J0_checkIndex_df160 2 := ⟨cb_J0_checkIndex_df160, (gwAt 1097 (by decide +kernel) rfl), (gwAt 1080 (by decide +kernel) rfl)⟩
theorem cs_J1_38 : CS RJ1 38 M_J9_min_7cf53 2 := ⟨cb_J9_min_7cf53, (gwAt 881 (by decide +kernel) rfl), (gwAt 882 (by decide +kernel) rfl)⟩
theorem cb_J1_canEncode_9a6ad : CB M_J1_canEncode_9a6ad 1 := ⟨(gwAt 82 (by decide +kernel) rfl), (gwAt 879 (by decide +kernel) rfl), ⟨by decide +kernel, by decide +kernel, by decide +kernel⟩, by decide⟩
theorem cs_J1_88 : CS RJ1 88 M_J1_canEncode_9a6ad 1 := ⟨cb_J1_canEncode_9a6ad, (gwAt 877 (by decide +kernel) rfl), (gwAt 878 (by decide +kernel) rfl)⟩
theorem cs_J1_92 : CS RJ1 92 M_J9_max_7cf53 2 := ⟨cb_J9_max_7cf53, (gwAt 880 (by decide +kernel) rfl), (gwAt 597 (by decide +kernel) rfl)⟩
theorem cb_J1_indexOfChar_4cfef : CB M_J1_indexOfChar_4cfef 4 := ⟨(gwAt 82 (by decide +kernel) rfl), (gwAt 886 (by decide +kernel) rfl), ⟨by decide +kernel, by decide +kernel, by decide +kernel⟩, by decide⟩
theorem cs_J1_95 : CS RJ1 95 M_J1_indexOfChar_4cfef 4 := ⟨cb_J1_indexOfChar_4cfef, (gwAt 884 (by decide +kernel) rfl), (gwAt 885 (by decide +kernel) rfl)⟩
theorem cb_J7_fill_eb02e : CB M_J7_fill_eb02e 4 := ⟨(gwAt 86 (by decide +kernel) rfl), (gwAt 1033 (by decide +kernel) rfl), ⟨by decide +kernel, by decide +kernel, by decide +kernel⟩, by decide⟩
theorem cs_J1_236 : CS RJ1 236 M_J7_fill_eb02e 4 := ⟨cb_J7_fill_eb02e, (gwAt 1031 (by decide +kernel) rfl), (gwAt 1032 (by decide +kernel) rfl)⟩
theorem cb_J2_inflate_0e8fd : CB M_J2_inflate_0e8fd 5 := ⟨(gwAt 75 (by decide +kernel) rfl), (gwAt 1060 (by decide +kernel) rfl), ⟨by decide +kernel, by decide +kernel, by decide +kernel⟩, by decide⟩
theorem cs_J1_240 : CS RJ1 240 M_J2_inflate_0e8fd 5 := ⟨cb_J2_inflate_0e8fd, (gwAt 1058 (by decide +kernel) rfl), (gwAt 1059 (by decide +kernel) rfl)⟩
theorem cb_J2_newBytesLength_0f7a4 : CB M_J2_newBytesLength_0f7a4 1 := ⟨(gwAt 75 (by decide +kernel) rfl), (gwAt 284 (by decide +kernel) rfl), ⟨by decide +kernel, by decide +kernel, by decide +kernel⟩, by decide⟩
theorem cs_J2_11 : CS RJ2 11 M_J2_newBytesLength_0f7a4 1 := ⟨cb_J2_newBytesLength_0f7a4, (gwAt 282 (by decide +kernel) rfl), (gwAt 283 (by decide +kernel) rfl)⟩
theorem cb_J2_length_9d52b : CB M_J2_length_9d52b 1 := ⟨(gwAt 75 (by decide +kernel) rfl), (gwAt 901 (by decide +kernel) rfl), ⟨by decide +kernel, by decide +kernel, by decide +kernel⟩, by decide⟩
theorem cs_J2_48 : CS RJ2 48 M_J2_length_9d52b 1 := ⟨cb_J2_length_9d52b, (gwAt 899 (by decide +kernel) rfl), (gwAt 900 (by decide +kernel) rfl)⟩
theorem cb_J2_checkIndex_2214a : CB M_J2_checkIndex_2214a 2 := ⟨(gwAt 75 (by decide +kernel) rfl), (gwAt 1078 (by decide +kernel) rfl), ⟨by decide +kernel, by decide +kernel, by decide +kernel⟩, by decide⟩
theorem cs_J2_67 : CS RJ2 67 M_J2_checkIndex_2214a 2 := ⟨cb_J2_checkIndex_2214a, (gwAt 1076 (by decide +kernel) rfl), (gwAt 1077 (by decide +kernel) rfl)⟩
theorem cs_J2_71 : CS RJ2 71 M_J2_getChar_3b067 2 := ⟨cb_J2_getChar_3b067, (gwAt 913 (by decide +kernel) rfl), (gwAt 914 (by decide +kernel) rfl)⟩
theorem cb_J2_checkBoundsBeginEnd_d044e : CB M_J2_checkBoundsBeginEnd_d044e 3 := ⟨(gwAt 75 (by decide +kernel) rfl), (gwAt 898 (by decide +kernel) rfl), ⟨by decide +kernel, by decide +kernel, by decide +kernel⟩, by decide⟩
theorem cs_J2_96 : CS RJ2 96 M_J2_checkBoundsBeginEnd_d044e 3 := ⟨cb_J2_checkBoundsBeginEnd_d044e, (gwAt 896 (by decide +kernel) rfl), (gwAt 897 (by decide +kernel) rfl)⟩
theorem cb_J2_putChar_b72d1 : CB M_J2_putChar_b72d1 3 := ⟨(gwAt 75 (by decide +kernel) rfl), (gwAt 1072 (by decide +kernel) rfl), ⟨by decide +kernel, by decide +kernel, by decide +kernel⟩, by decide⟩
theorem cs_J2_111 : CS RJ2 111 M_J2_putChar_b72d1 3 := ⟨cb_J2_putChar_b72d1, (gwAt 1070 (by decide +kernel) rfl), (gwAt 1071 (by decide +kernel) rfl)⟩
theorem cb_J11_highSurrogate_5068e : CB M_J11_highSurrogate_5068e 1 := ⟨(gwAt 84 (by decide +kernel) rfl), (gwAt 930 (by decide +kernel) rfl), ⟨by decide +kernel, by decide +kernel, by decide +kernel⟩, by decide⟩
theorem cs_J2_157 : CS RJ2 157 M_J11_highSurrogate_5068e 1 := ⟨cb_J11_highSurrogate_5068e, (gwAt 928 (by decide +kernel) rfl), (gwAt 929 (by decide +kernel) rfl)⟩
theorem cb_J11_lowSurrogate_5068e : CB M_J11_lowSurrogate_5068e 1 := ⟨(gwAt 84 (by decide +kernel) rfl), (gwAt 934 (by decide +kernel) rfl), ⟨by decide +kernel, by decide +kernel, by decide +kernel⟩, by decide⟩
theorem cs_J2_161 : CS RJ2 161 M_J11_lowSurrogate_5068e 1 := ⟨cb_J11_lowSurrogate_5068e, (gwAt 932 (by decide +kernel) rfl), (gwAt 933 (by decide +kernel) rfl)⟩
theorem cb_J11_isValidCodePoint_9a6ad : CB M_J11_isValidCodePoint_9a6ad 1 := ⟨(gwAt 84 (by decide +kernel) rfl), (gwAt 927 (by decide +kernel) rfl), ⟨by decide +kernel, by decide +kernel, by decide +kernel⟩, by decide⟩
theorem cs_J2_164 : CS RJ2 164 M_J11_isValidCodePoint_9a6ad 1 := ⟨cb_J11_isValidCodePoint_9a6ad, (gwAt 925 (by decide +kernel) rfl), (gwAt 926 (by decide +kernel) rfl)⟩
theorem cb_J2_checkBoundsOffCount_d044e : CB M_J2_checkBoundsOffCount_d044e 3 := ⟨(gwAt 75 (by decide +kernel) rfl), (gwAt 1063 (by decide +kernel) rfl), ⟨by decide +kernel, by decide +kernel, by decide +kernel⟩, by decide⟩
theorem cs_J2_173 : CS RJ2 173 M_J2_checkBoundsOffCount_d044e 3 := ⟨cb_J2_checkBoundsOffCount_d044e, (gwAt 1061 (by decide +kernel) rfl), (gwAt 1062 (by decide +kernel) rfl)⟩
theorem cs_J2_183 : CS RJ2 183 M_J9_min_7cf53 2 := ⟨cb_J9_min_7cf53, (gwAt 891 (by decide +kernel) rfl), (gwAt 882 (by decide +kernel) rfl)⟩
theorem cs_J2_224 : CS RJ2 224 M_J9_max_7cf53 2 := ⟨cb_J9_max_7cf53, (gwAt 890 (by decide +kernel) rfl), (gwAt 597 (by decide +kernel) rfl)⟩
theorem cb_J2_indexOfChar_4cfef : CB M_J2_indexOfChar_4cfef 4 := ⟨(gwAt 75 (by decide +kernel) rfl), (gwAt 895 (by decide +kernel) rfl), ⟨by decide +kernel, by decide +kernel, by decide +kernel⟩, by decide⟩
theorem cs_J2_228 : CS RJ2 228 M_J2_indexOfChar_4cfef 4 := ⟨cb_J2_indexOfChar_4cfef, (gwAt 893 (by decide +kernel) rfl), (gwAt 894 (by decide +kernel) rfl)⟩
theorem cb_J2_indexOfSupplementary_4cfef : CB M_J2_indexOfSupplementary_4cfef 4 := ⟨(gwAt 75 (by decide +kernel) rfl), (gwAt 924 (by decide +kernel) rfl), ⟨by decide +kernel, by decide +kernel, by decide +kernel⟩, by decide⟩
theorem cs_J2_232 : CS RJ2 232 M_J2_indexOfSupplementary_4cfef 4 := ⟨cb_J2_indexOfSupplementary_4cfef, (gwAt 922 (by decide +kernel) rfl), (gwAt 923 (by decide +kernel) rfl)⟩
theorem cb_J0_checkBoundsBeginEnd_23922 : CB M_J0_checkBoundsBeginEnd_23922 3 := ⟨(gwAt 74 (by decide +kernel) rfl), (gwAt 904 (by decide +kernel) rfl), ⟨by decide +kernel, by decide +kernel, by decide +kernel⟩, by decide⟩
theorem cs_J2_241 : CS RJ2 241 M_J0_checkBoundsBeginEnd_23922 3 := ⟨cb_J0_checkBoundsBeginEnd_23922, (gwAt 902 (by decide +kernel) rfl), (gwAt 903 (by decide +kernel) rfl)⟩
theorem cb_J2_indexOfCharUnsafe_4cfef : CB M_J2_indexOfCharUnsafe_4cfef 4 := ⟨(gwAt 75 (by decide +kernel) rfl), (gwAt 912 (by decide +kernel) rfl), ⟨by decide +kernel, by decide +kernel, by decide +kernel⟩, by decide⟩
theorem cs_J2_244 : CS RJ2 244 M_J2_indexOfCharUnsafe_4cfef 4 := ⟨cb_J2_indexOfCharUnsafe_4cfef, (gwAt 910 (by decide +kernel) rfl), (gwAt 911 (by decide +kernel) rfl)⟩
theorem cs_J2_380 : CS RJ2 380 M_J7_fill_eb02e 4 := ⟨cb_J7_fill_eb02e, (gwAt 1040 (by decide +kernel) rfl), (gwAt 1032 (by decide +kernel) rfl)⟩
theorem cb_J2_getChars_ba4f3 : CB M_J2_getChars_ba4f3 3 := ⟨(gwAt 75 (by decide +kernel) rfl), (gwAt 1124 (by decide +kernel) rfl), ⟨by decide +kernel, by decide +kernel, by decide +kernel⟩, by decide⟩
theorem cs_J2_393 : CS RJ2 393 M_J2_getChars_ba4f3 3 := ⟨cb_J2_getChars_ba4f3, (gwAt 1122 (by decide +kernel) rfl), (gwAt 1123 (by decide +kernel) rfl)⟩
theorem cs_J2_414 : CS RJ2 414 M_J0_checkIndex_df160 2 := ⟨cb_J0_checkIndex_df160, (gwAt 1079 (by decide +kernel) rfl), (gwAt 1080 (by decide +kernel) rfl)⟩
theorem cb_J0_checkBoundsOffCount_cabcc : CB M_J0_checkBoundsOffCount_cabcc 3 := ⟨(gwAt 74 (by decide +kernel) rfl), (gwAt 1066 (by decide +kernel) rfl), ⟨by decide +kernel, by decide +kernel, by decide +kernel⟩, by decide⟩
theorem cs_J2_419 : CS RJ2 419 M_J0_checkBoundsOffCount_cabcc 3 := ⟨cb_J0_checkBoundsOffCount_cabcc, (gwAt 1064 (by decide +kernel) rfl), (gwAt 1065 (by decide +kernel) rfl)⟩
theorem cb_J7_rangeCheck_23922 : CB M_J7_rangeCheck_23922 3 := ⟨(gwAt 86 (by decide +kernel) rfl), (gwAt 1036 (by decide +kernel) rfl), ⟨by decide +kernel, by decide +kernel, by decide +kernel⟩, by decide⟩
theorem cs_J7_13 : CS RJ7 13 M_J7_rangeCheck_23922 3 := ⟨cb_J7_rangeCheck_23922, (gwAt 1034 (by decide +kernel) rfl), (gwAt 1035 (by decide +kernel) rfl)⟩
theorem cs_J7_304 : CS RJ7 304 M_J9_min_7cf53 2 := ⟨cb_J9_min_7cf53, (gwAt 1021 (by decide +kernel) rfl), (gwAt 882 (by decide +kernel) rfl)⟩
theorem cs_J8_194 : CS RJ8 194 M_J9_max_7cf53 2 := ⟨cb_J9_max_7cf53, (gwAt 1005 (by decide +kernel) rfl), (gwAt 597 (by decide +kernel) rfl)⟩
theorem cb_J8_hugeLength_7cf53 : CB M_J8_hugeLength_7cf53 2 := ⟨(gwAt 85 (by decide +kernel) rfl), (gwAt 1009 (by decide +kernel) rfl), ⟨by decide +kernel, by decide +kernel, by decide +kernel⟩, by decide⟩
theorem cs_J8_201 : CS RJ8 201 M_J8_hugeLength_7cf53 2 := ⟨cb_J8_hugeLength_7cf53, (gwAt 1007 (by decide +kernel) rfl), (gwAt 1008 (by decide +kernel) rfl)⟩
theorem cb_X4_init : CB M_X4_init 0 := ⟨(gwAt 68 (by decide +kernel) rfl), (gwAt 169 (by decide +kernel) rfl), ⟨by decide +kernel, by decide +kernel, by decide +kernel⟩, by decide⟩
theorem cs_X6_32 : CIN RX6 32 M_X4_init 0 "FilterPile" := ⟨cb_X4_init, (nwAt 167 (by decide +kernel) rfl), (gwAt 168 (by decide +kernel) rfl), rfl, rfl⟩
theorem cb_X5_init : CB M_X5_init 0 := ⟨(gwAt 69 (by decide +kernel) rfl), (gwAt 205 (by decide +kernel) rfl), ⟨by decide +kernel, by decide +kernel, by decide +kernel⟩, by decide⟩
theorem cs_X6_39 : CIN RX6 39 M_X5_init 0 "FilterPile" := ⟨cb_X5_init, (nwAt 203 (by decide +kernel) rfl), (gwAt 204 (by decide +kernel) rfl), rfl, rfl⟩
theorem cb_X3_init : CB M_X3_init 0 := ⟨(gwAt 70 (by decide +kernel) rfl), (gwAt 224 (by decide +kernel) rfl), ⟨by decide +kernel, by decide +kernel, by decide +kernel⟩, by decide⟩
theorem cs_X6_46 : CIN RX6 46 M_X3_init 0 "FilterPile" := ⟨cb_X3_init, (nwAt 222 (by decide +kernel) rfl), (gwAt 223 (by decide +kernel) rfl), rfl, rfl⟩
theorem cb_X1_init : CB M_X1_init 0 := ⟨(gwAt 67 (by decide +kernel) rfl), (gwAt 106 (by decide +kernel) rfl), ⟨by decide +kernel, by decide +kernel, by decide +kernel⟩, by decide⟩
theorem cs_X6_67 : CIN RX6 67 M_X1_init 0 "FilterPile" := ⟨cb_X1_init, (nwAt 301 (by decide +kernel) rfl), (gwAt 105 (by decide +kernel) rfl), rfl, rfl⟩
theorem cs_X0_11 : CIN RX0 11 M_X1_init 0 "FilterPile" := ⟨cb_X1_init, (nwAt 104 (by decide +kernel) rfl), (gwAt 105 (by decide +kernel) rfl), rfl, rfl⟩
theorem cs_X0_58 : CSN RX0 58 M_X6_kindOf 1 "FilterPile" := ⟨cb_X6_kindOf, (nwAt 739 (by decide +kernel) rfl), (gwAt 400 (by decide +kernel) rfl)⟩
theorem cs_X0_62 : CSN RX0 62 M_X6_isPlateOrRotator 1 "FilterPile" := ⟨cb_X6_isPlateOrRotator, (nwAt 740 (by decide +kernel) rfl), (gwAt 418 (by decide +kernel) rfl)⟩
theorem cs_X1_52 : CSN RX1 52 M_X6_commonDivisor 2 "FilterPile" := ⟨cb_X6_commonDivisor, (nwAt 547 (by decide +kernel) rfl), (gwAt 526 (by decide +kernel) rfl)⟩
theorem cs_X1_65 : CSN RX1 65 M_X6_kindOf 1 "FilterPile" := ⟨cb_X6_kindOf, (nwAt 484 (by decide +kernel) rfl), (gwAt 400 (by decide +kernel) rfl)⟩
theorem cs_X1_69 : CSN RX1 69 M_X6_figureOf 1 "FilterPile" := ⟨cb_X6_figureOf, (nwAt 485 (by decide +kernel) rfl), (gwAt 409 (by decide +kernel) rfl)⟩
theorem cs_X1_76 : CSN RX1 76 M_X6_angleOf 1 "FilterPile" := ⟨cb_X6_angleOf, (nwAt 490 (by decide +kernel) rfl), (gwAt 406 (by decide +kernel) rfl)⟩
theorem cs_X1_79 : CSN RX1 79 M_X6_alongOf 1 "FilterPile" := ⟨cb_X6_alongOf, (nwAt 491 (by decide +kernel) rfl), (gwAt 412 (by decide +kernel) rfl)⟩
theorem cs_X1_82 : CSN RX1 82 M_X6_acrossOf 1 "FilterPile" := ⟨cb_X6_acrossOf, (nwAt 492 (by decide +kernel) rfl), (gwAt 415 (by decide +kernel) rfl)⟩
theorem cs_X1_89 : CSN RX1 89 M_X6_quartersOf 1 "FilterPile" := ⟨cb_X6_quartersOf, (nwAt 498 (by decide +kernel) rfl), (gwAt 421 (by decide +kernel) rfl)⟩
theorem cs_X2_17 : CIN RX2 17 M_X1_init 0 "FilterPile" := ⟨cb_X1_init, (nwAt 263 (by decide +kernel) rfl), (gwAt 105 (by decide +kernel) rfl), rfl, rfl⟩
theorem cs_X3_11 : CIN RX3 11 M_X1_init 0 "FilterPile" := ⟨cb_X1_init, (nwAt 227 (by decide +kernel) rfl), (gwAt 105 (by decide +kernel) rfl), rfl, rfl⟩
theorem cs_X4_75 : CSN RX4 75 M_X6_tellsAngle 1 "FilterPile" := ⟨cb_X6_tellsAngle, (nwAt 940 (by decide +kernel) rfl), (gwAt 941 (by decide +kernel) rfl)⟩
theorem cs_X4_78 : CSN RX4 78 M_X6_tellsFigure 1 "FilterPile" := ⟨cb_X6_tellsFigure, (nwAt 947 (by decide +kernel) rfl), (gwAt 948 (by decide +kernel) rfl)⟩
theorem cs_X4_84 : CSN RX4 84 M_X6_codeOf 3 "FilterPile" := ⟨cb_X6_codeOf, (nwAt 959 (by decide +kernel) rfl), (gwAt 381 (by decide +kernel) rfl)⟩
theorem cs_X4_88 : CSN RX4 88 M_X6_isFigure 1 "FilterPile" := ⟨cb_X6_isFigure, (nwAt 958 (by decide +kernel) rfl), (gwAt 378 (by decide +kernel) rfl)⟩
theorem kc_X6_174 : Cond.constantLong RX6 174 (-9223372036854775808 : Int64) ∈ gw := (gwAt 471 (by decide +kernel) rfl)
theorem kc_X6_319 : Cond.constantFloat RX6 319 (1098907648 : UInt32) ∈ gw := (gwAt 777 (by decide +kernel) rfl)
theorem kc_X6_320 : Cond.constantFloat RX6 320 (1148846080 : UInt32) ∈ gw := (gwAt 782 (by decide +kernel) rfl)
theorem kc_X6_417 : Cond.constantLong RX6 417 (1000000 : Int64) ∈ gw := (gwAt 717 (by decide +kernel) rfl)
theorem kc_X6_423 : Cond.constantLong RX6 423 (20 : Int64) ∈ gw := (gwAt 721 (by decide +kernel) rfl)
theorem kc_X6_425 : Cond.constantLong RX6 425 (2 : Int64) ∈ gw := (gwAt 722 (by decide +kernel) rfl)
theorem kc_X6_427 : Cond.constantDouble RX6 427 (4611686018427387904 : UInt64) ∈ gw := (gwAt 762 (by decide +kernel) rfl)
theorem kc_X6_429 : Cond.constantDouble RX6 429 (4841369599423283200 : UInt64) ∈ gw := (gwAt 763 (by decide +kernel) rfl)
theorem kc_X6_431 : Cond.constantLong RX6 431 (4503599627370495 : Int64) ∈ gw := (gwAt 764 (by decide +kernel) rfl)
theorem kc_X6_433 : Cond.constantLong RX6 433 (4503599627370496 : Int64) ∈ gw := (gwAt 765 (by decide +kernel) rfl)
theorem kc_X0_34 : Cond.constantLong RX0 34 (16 : Int64) ∈ gw := (gwAt 132 (by decide +kernel) rfl)
theorem kc_X1_59 : Cond.constantLong RX1 59 (9223372036854775807 : Int64) ∈ gw := (gwAt 557 (by decide +kernel) rfl)
theorem kc_X1_61 : Cond.constantLong RX1 61 (3037000499 : Int64) ∈ gw := (gwAt 555 (by decide +kernel) rfl)
theorem kc_X1_63 : Cond.constantLong RX1 63 (-3037000499 : Int64) ∈ gw := (gwAt 556 (by decide +kernel) rfl)
theorem kc_X1_99 : Cond.constantLong RX1 99 (-1 : Int64) ∈ gw := (gwAt 497 (by decide +kernel) rfl)
theorem kc_L_112 : Cond.constantLong RL 112 (4294967295 : Int64) ∈ gw := (gwAt 1737 (by decide +kernel) rfl)
theorem kc_X7_9 : Cond.constantLong RX7 9 (16 : Int64) ∈ gw := (gwAt 1173 (by decide +kernel) rfl)
theorem kc_X7_99 : Cond.constantLong RX7 99 (2 : Int64) ∈ gw := (gwAt 1327 (by decide +kernel) rfl)
theorem kc_X7_117 : Cond.constantLong RX7 117 (-1 : Int64) ∈ gw := (gwAt 1408 (by decide +kernel) rfl)
theorem kc_X7_119 : Cond.constantLong RX7 119 (5 : Int64) ∈ gw := (gwAt 1409 (by decide +kernel) rfl)
theorem kc_X7_152 : Cond.constantLong RX7 152 (1000 : Int64) ∈ gw := (gwAt 1299 (by decide +kernel) rfl)
theorem kc_X7_158 : Cond.constantLong RX7 158 (6 : Int64) ∈ gw := (gwAt 1310 (by decide +kernel) rfl)
theorem kc_X7_160 : Cond.constantLong RX7 160 (3 : Int64) ∈ gw := (gwAt 1311 (by decide +kernel) rfl)
theorem kc_X7_191 : Cond.constantLong RX7 191 (4 : Int64) ∈ gw := (gwAt 1388 (by decide +kernel) rfl)
theorem kc_X7_193 : Cond.constantLong RX7 193 (-9223372036854775808 : Int64) ∈ gw := (gwAt 1389 (by decide +kernel) rfl)
theorem kc_X7_213 : Cond.constantLong RX7 213 (-3037000499 : Int64) ∈ gw := (gwAt 1444 (by decide +kernel) rfl)
theorem kc_X7_215 : Cond.constantLong RX7 215 (3037000499 : Int64) ∈ gw := (gwAt 1445 (by decide +kernel) rfl)
theorem kc_X7_280 : Cond.constantLong RX7 280 (1000000 : Int64) ∈ gw := (gwAt 1551 (by decide +kernel) rfl)
theorem kc_X7_282 : Cond.constantLong RX7 282 (20 : Int64) ∈ gw := (gwAt 1552 (by decide +kernel) rfl)
theorem kc_X7_291 : Cond.constantLong RX7 291 (7 : Int64) ∈ gw := (gwAt 1604 (by decide +kernel) rfl)
theorem kc_X7_312 : Cond.constantFloat RX7 312 (1098907648 : UInt32) ∈ gw := (gwAt 1613 (by decide +kernel) rfl)
theorem kc_X7_313 : Cond.constantFloat RX7 313 (1148846080 : UInt32) ∈ gw := (gwAt 1618 (by decide +kernel) rfl)
theorem kc_X7_326 : Cond.constantLong RX7 326 (127 : Int64) ∈ gw := (gwAt 1661 (by decide +kernel) rfl)
theorem kc_J5_39 : Cond.constant RJ5 39 (2147483647 : Int32) ∈ gw := (gwAt 1010 (by decide +kernel) rfl)
theorem kc_J11_76 : Cond.constant RJ11 76 (56320 : Int32) ∈ gw := (gwAt 935 (by decide +kernel) rfl)
theorem kc_J11_110 : Cond.constant RJ11 110 (55232 : Int32) ∈ gw := (gwAt 931 (by decide +kernel) rfl)
theorem kc_Jxe99ae_137 : Cond.constantLong RJxe99ae 137 (9221120237041090560 : Int64) ∈ gw := (gwAt 1596 (by decide +kernel) rfl)
theorem kc_Jxf58ca_77 : Cond.constant RJxf58ca 77 (2143289344 : Int32) ∈ gw := (gwAt 1586 (by decide +kernel) rfl)
theorem kc_J2_20 : Cond.constant RJ2 20 (1073741823 : Int32) ∈ gw := (gwAt 285 (by decide +kernel) rfl)
theorem kc_J2_227 : Cond.constant RJ2 227 (65536 : Int32) ∈ gw := (gwAt 892 (by decide +kernel) rfl)
theorem kc_J8_200 : Cond.constant RJ8 200 (2147483639 : Int32) ∈ gw := (gwAt 1006 (by decide +kernel) rfl)
end
