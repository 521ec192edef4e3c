section
-- ===== PART A: goes FIRST, ahead of the names: the tables' words, and 'selects' of the private methods out of them =====
/-- a private method of a class that the tables say can be made, by its rows of tables_1 -/
def lw_okq (q : MethodName × Nat) : Prop := (q.1.cls ≠ "java/lang/invoke/MethodHandle" ∧ q.1.cls ≠ "java/lang/invoke/VarHandle") ∧ Cond.instantiable q.1.cls q.2 ∈ tables_1 ∧ Cond.privateMethod q.1 ∈ tables_1 ∧ Cond.instanceMethod q.1 ∈ tables_1
theorem lw_p0 : lw_okq (⟨"ClickStreet", "error", "(I)I"⟩, 9) := ⟨⟨by decide +kernel, by decide +kernel⟩, List.mem_of_getElem? (i := 24) (by decide +kernel), List.mem_of_getElem? (i := 423) (by decide +kernel), List.mem_of_getElem? (i := 424) (by decide +kernel)⟩
theorem lw_p1 : lw_okq (⟨"ClickStreet$Reader", "readComparisons", "()V"⟩, 7) := ⟨⟨by decide +kernel, by decide +kernel⟩, List.mem_of_getElem? (i := 270) (by decide +kernel), List.mem_of_getElem? (i := 615) (by decide +kernel), List.mem_of_getElem? (i := 616) (by decide +kernel)⟩
theorem lw_p2 : lw_okq (⟨"ClickStreet$Reader", "readSum", "()V"⟩, 7) := ⟨⟨by decide +kernel, by decide +kernel⟩, List.mem_of_getElem? (i := 270) (by decide +kernel), List.mem_of_getElem? (i := 619) (by decide +kernel), List.mem_of_getElem? (i := 620) (by decide +kernel)⟩
theorem lw_p3 : lw_okq (⟨"ClickStreet$Reader", "readTerm", "()V"⟩, 7) := ⟨⟨by decide +kernel, by decide +kernel⟩, List.mem_of_getElem? (i := 270) (by decide +kernel), List.mem_of_getElem? (i := 623) (by decide +kernel), List.mem_of_getElem? (i := 624) (by decide +kernel)⟩
theorem lw_p4 : lw_okq (⟨"ClickStreet$Reader", "readOne", "()V"⟩, 7) := ⟨⟨by decide +kernel, by decide +kernel⟩, List.mem_of_getElem? (i := 270) (by decide +kernel), List.mem_of_getElem? (i := 627) (by decide +kernel), List.mem_of_getElem? (i := 628) (by decide +kernel)⟩
theorem lw_p5 : lw_okq (⟨"ClickStreet$Reader", "next", "()I"⟩, 7) := ⟨⟨by decide +kernel, by decide +kernel⟩, List.mem_of_getElem? (i := 270) (by decide +kernel), List.mem_of_getElem? (i := 631) (by decide +kernel), List.mem_of_getElem? (i := 632) (by decide +kernel)⟩
theorem lw_p6 : lw_okq (⟨"ClickStreet$Reader", "readNumber", "()V"⟩, 7) := ⟨⟨by decide +kernel, by decide +kernel⟩, List.mem_of_getElem? (i := 270) (by decide +kernel), List.mem_of_getElem? (i := 639) (by decide +kernel), List.mem_of_getElem? (i := 640) (by decide +kernel)⟩
theorem lw_p7 : lw_okq (⟨"ClickStreet$Reader", "readOpened", "(I)V"⟩, 7) := ⟨⟨by decide +kernel, by decide +kernel⟩, List.mem_of_getElem? (i := 270) (by decide +kernel), List.mem_of_getElem? (i := 647) (by decide +kernel), List.mem_of_getElem? (i := 648) (by decide +kernel)⟩
theorem lw_p8 : lw_okq (⟨"ClickStreet$Reader", "fail", "()V"⟩, 7) := ⟨⟨by decide +kernel, by decide +kernel⟩, List.mem_of_getElem? (i := 270) (by decide +kernel), List.mem_of_getElem? (i := 651) (by decide +kernel), List.mem_of_getElem? (i := 652) (by decide +kernel)⟩
theorem lw_p9 : lw_okq (⟨"ClickStreet$Reader", "expect", "(I)V"⟩, 7) := ⟨⟨by decide +kernel, by decide +kernel⟩, List.mem_of_getElem? (i := 270) (by decide +kernel), List.mem_of_getElem? (i := 655) (by decide +kernel), List.mem_of_getElem? (i := 656) (by decide +kernel)⟩
theorem lw_p10 : lw_okq (⟨"ClickStreet$Reader", "readName", "(I)V"⟩, 7) := ⟨⟨by decide +kernel, by decide +kernel⟩, List.mem_of_getElem? (i := 270) (by decide +kernel), List.mem_of_getElem? (i := 659) (by decide +kernel), List.mem_of_getElem? (i := 660) (by decide +kernel)⟩
theorem lw_p11 : lw_okq (⟨"ClickStreet$Finder", "noteLearned", "(LClickStreet$World;III)V"⟩, 6) := ⟨⟨by decide +kernel, by decide +kernel⟩, List.mem_of_getElem? (i := 305) (by decide +kernel), List.mem_of_getElem? (i := 917) (by decide +kernel), List.mem_of_getElem? (i := 918) (by decide +kernel)⟩
theorem lw_p12 : lw_okq (⟨"ClickStreet$Finder", "countLearned", "(I)I"⟩, 6) := ⟨⟨by decide +kernel, by decide +kernel⟩, List.mem_of_getElem? (i := 305) (by decide +kernel), List.mem_of_getElem? (i := 934) (by decide +kernel), List.mem_of_getElem? (i := 935) (by decide +kernel)⟩
theorem lw_p13 : lw_okq (⟨"ClickStreet$Street", "letThingGo", "(I)V"⟩, 6) := ⟨⟨by decide +kernel, by decide +kernel⟩, List.mem_of_getElem? (i := 38) (by decide +kernel), List.mem_of_getElem? (i := 956) (by decide +kernel), List.mem_of_getElem? (i := 957) (by decide +kernel)⟩
theorem lw_p14 : lw_okq (⟨"ClickStreet$World", "letWalkerGo", "(I)V"⟩, 8) := ⟨⟨by decide +kernel, by decide +kernel⟩, List.mem_of_getElem? (i := 32) (by decide +kernel), List.mem_of_getElem? (i := 962) (by decide +kernel), List.mem_of_getElem? (i := 963) (by decide +kernel)⟩
theorem lw_p15 : lw_okq (⟨"ClickStreet$World", "goOn", "(I)V"⟩, 8) := ⟨⟨by decide +kernel, by decide +kernel⟩, List.mem_of_getElem? (i := 32) (by decide +kernel), List.mem_of_getElem? (i := 980) (by decide +kernel), List.mem_of_getElem? (i := 981) (by decide +kernel)⟩
def lw_privs_1 : List (MethodName × Nat) := [(⟨"ClickStreet", "error", "(I)I"⟩, 9), (⟨"ClickStreet$Reader", "readComparisons", "()V"⟩, 7), (⟨"ClickStreet$Reader", "readSum", "()V"⟩, 7), (⟨"ClickStreet$Reader", "readTerm", "()V"⟩, 7), (⟨"ClickStreet$Reader", "readOne", "()V"⟩, 7), (⟨"ClickStreet$Reader", "next", "()I"⟩, 7), (⟨"ClickStreet$Reader", "readNumber", "()V"⟩, 7), (⟨"ClickStreet$Reader", "readOpened", "(I)V"⟩, 7), (⟨"ClickStreet$Reader", "fail", "()V"⟩, 7), (⟨"ClickStreet$Reader", "expect", "(I)V"⟩, 7), (⟨"ClickStreet$Reader", "readName", "(I)V"⟩, 7), (⟨"ClickStreet$Finder", "noteLearned", "(LClickStreet$World;III)V"⟩, 6), (⟨"ClickStreet$Finder", "countLearned", "(I)I"⟩, 6), (⟨"ClickStreet$Street", "letThingGo", "(I)V"⟩, 6), (⟨"ClickStreet$World", "letWalkerGo", "(I)V"⟩, 8), (⟨"ClickStreet$World", "goOn", "(I)V"⟩, 8)]
theorem lw_r1 : ∀ q ∈ lw_privs_1, lw_okq q := List.forall_mem_cons.mpr ⟨lw_p0, List.forall_mem_cons.mpr ⟨lw_p1, List.forall_mem_cons.mpr ⟨lw_p2, List.forall_mem_cons.mpr ⟨lw_p3, List.forall_mem_cons.mpr ⟨lw_p4, List.forall_mem_cons.mpr ⟨lw_p5, List.forall_mem_cons.mpr ⟨lw_p6, List.forall_mem_cons.mpr ⟨lw_p7, List.forall_mem_cons.mpr ⟨lw_p8, List.forall_mem_cons.mpr ⟨lw_p9, List.forall_mem_cons.mpr ⟨lw_p10, List.forall_mem_cons.mpr ⟨lw_p11, List.forall_mem_cons.mpr ⟨lw_p12, List.forall_mem_cons.mpr ⟨lw_p13, List.forall_mem_cons.mpr ⟨lw_p14, List.forall_mem_cons.mpr ⟨lw_p15, fun _ h => absurd h List.not_mem_nil⟩⟩⟩⟩⟩⟩⟩⟩⟩⟩⟩⟩⟩⟩⟩⟩
theorem lw_p16 : lw_okq (⟨"ClickStreet$Finder", "nearestOpen", "()I"⟩, 6) := ⟨⟨by decide +kernel, by decide +kernel⟩, List.mem_of_getElem? (i := 305) (by decide +kernel), List.mem_of_getElem? (i := 1000) (by decide +kernel), List.mem_of_getElem? (i := 1001) (by decide +kernel)⟩
theorem lw_p17 : lw_okq (⟨"ClickStreet$Finder", "firstStep", "(LClickStreet$Walker;I)I"⟩, 6) := ⟨⟨by decide +kernel, by decide +kernel⟩, List.mem_of_getElem? (i := 305) (by decide +kernel), List.mem_of_getElem? (i := 1016) (by decide +kernel), List.mem_of_getElem? (i := 1017) (by decide +kernel)⟩
theorem lw_p18 : lw_okq (⟨"ClickStreet$Lessons", "tryRows", "(III)V"⟩, 9) := ⟨⟨by decide +kernel, by decide +kernel⟩, List.mem_of_getElem? (i := 116) (by decide +kernel), List.mem_of_getElem? (i := 1057) (by decide +kernel), List.mem_of_getElem? (i := 1058) (by decide +kernel)⟩
theorem lw_p19 : lw_okq (⟨"ClickStreet$Lessons", "isBetter", "(I)Z"⟩, 9) := ⟨⟨by decide +kernel, by decide +kernel⟩, List.mem_of_getElem? (i := 116) (by decide +kernel), List.mem_of_getElem? (i := 1061) (by decide +kernel), List.mem_of_getElem? (i := 1062) (by decide +kernel)⟩
theorem lw_p20 : lw_okq (⟨"ClickStreet$Finder", "servesAll", "(II)Z"⟩, 6) := ⟨⟨by decide +kernel, by decide +kernel⟩, List.mem_of_getElem? (i := 305) (by decide +kernel), List.mem_of_getElem? (i := 1094) (by decide +kernel), List.mem_of_getElem? (i := 1095) (by decide +kernel)⟩
theorem lw_p21 : lw_okq (⟨"ClickStreet$Voices", "say", "(IIII)I"⟩, 6) := ⟨⟨by decide +kernel, by decide +kernel⟩, List.mem_of_getElem? (i := 334) (by decide +kernel), List.mem_of_getElem? (i := 1108) (by decide +kernel), List.mem_of_getElem? (i := 1109) (by decide +kernel)⟩
theorem lw_p22 : lw_okq (⟨"ClickStreet$Voices", "run", "(III)I"⟩, 6) := ⟨⟨by decide +kernel, by decide +kernel⟩, List.mem_of_getElem? (i := 334) (by decide +kernel), List.mem_of_getElem? (i := 1114) (by decide +kernel), List.mem_of_getElem? (i := 1115) (by decide +kernel)⟩
theorem lw_p23 : lw_okq (⟨"ClickStreet$Voices", "own", "(III)I"⟩, 6) := ⟨⟨by decide +kernel, by decide +kernel⟩, List.mem_of_getElem? (i := 334) (by decide +kernel), List.mem_of_getElem? (i := 1120) (by decide +kernel), List.mem_of_getElem? (i := 1121) (by decide +kernel)⟩
theorem lw_p24 : lw_okq (⟨"ClickStreet$Voices", "parted", "(I)I"⟩, 6) := ⟨⟨by decide +kernel, by decide +kernel⟩, List.mem_of_getElem? (i := 334) (by decide +kernel), List.mem_of_getElem? (i := 1124) (by decide +kernel), List.mem_of_getElem? (i := 1125) (by decide +kernel)⟩
theorem lw_p25 : lw_okq (⟨"ClickStreetModel", "finding", "(I)I"⟩, 33) := ⟨⟨by decide +kernel, by decide +kernel⟩, List.mem_of_getElem? (i := 1235) (by decide +kernel), List.mem_of_getElem? (i := 1357) (by decide +kernel), List.mem_of_getElem? (i := 1358) (by decide +kernel)⟩
theorem lw_p26 : lw_okq (⟨"ClickStreetModel", "isFree", "(I)Z"⟩, 33) := ⟨⟨by decide +kernel, by decide +kernel⟩, List.mem_of_getElem? (i := 1235) (by decide +kernel), List.mem_of_getElem? (i := 1362) (by decide +kernel), List.mem_of_getElem? (i := 1363) (by decide +kernel)⟩
theorem lw_p27 : lw_okq (⟨"ClickStreetModel", "in", "(I)I"⟩, 33) := ⟨⟨by decide +kernel, by decide +kernel⟩, List.mem_of_getElem? (i := 1235) (by decide +kernel), List.mem_of_getElem? (i := 1366) (by decide +kernel), List.mem_of_getElem? (i := 1367) (by decide +kernel)⟩
theorem lw_p28 : lw_okq (⟨"ClickStreetModel", "thing", "(I)I"⟩, 33) := ⟨⟨by decide +kernel, by decide +kernel⟩, List.mem_of_getElem? (i := 1235) (by decide +kernel), List.mem_of_getElem? (i := 1370) (by decide +kernel), List.mem_of_getElem? (i := 1371) (by decide +kernel)⟩
theorem lw_p29 : lw_okq (⟨"ClickStreetModel", "goer", "(I)I"⟩, 33) := ⟨⟨by decide +kernel, by decide +kernel⟩, List.mem_of_getElem? (i := 1235) (by decide +kernel), List.mem_of_getElem? (i := 1374) (by decide +kernel), List.mem_of_getElem? (i := 1375) (by decide +kernel)⟩
theorem lw_p30 : lw_okq (⟨"ClickStreetModel", "comes", "(II)I"⟩, 33) := ⟨⟨by decide +kernel, by decide +kernel⟩, List.mem_of_getElem? (i := 1235) (by decide +kernel), List.mem_of_getElem? (i := 1380) (by decide +kernel), List.mem_of_getElem? (i := 1381) (by decide +kernel)⟩
theorem lw_p31 : lw_okq (⟨"ClickStreetModel", "is", "(II)Z"⟩, 33) := ⟨⟨by decide +kernel, by decide +kernel⟩, List.mem_of_getElem? (i := 1235) (by decide +kernel), List.mem_of_getElem? (i := 1388) (by decide +kernel), List.mem_of_getElem? (i := 1389) (by decide +kernel)⟩
def lw_privs_2 : List (MethodName × Nat) := [(⟨"ClickStreet$Finder", "nearestOpen", "()I"⟩, 6), (⟨"ClickStreet$Finder", "firstStep", "(LClickStreet$Walker;I)I"⟩, 6), (⟨"ClickStreet$Lessons", "tryRows", "(III)V"⟩, 9), (⟨"ClickStreet$Lessons", "isBetter", "(I)Z"⟩, 9), (⟨"ClickStreet$Finder", "servesAll", "(II)Z"⟩, 6), (⟨"ClickStreet$Voices", "say", "(IIII)I"⟩, 6), (⟨"ClickStreet$Voices", "run", "(III)I"⟩, 6), (⟨"ClickStreet$Voices", "own", "(III)I"⟩, 6), (⟨"ClickStreet$Voices", "parted", "(I)I"⟩, 6), (⟨"ClickStreetModel", "finding", "(I)I"⟩, 33), (⟨"ClickStreetModel", "isFree", "(I)Z"⟩, 33), (⟨"ClickStreetModel", "in", "(I)I"⟩, 33), (⟨"ClickStreetModel", "thing", "(I)I"⟩, 33), (⟨"ClickStreetModel", "goer", "(I)I"⟩, 33), (⟨"ClickStreetModel", "comes", "(II)I"⟩, 33), (⟨"ClickStreetModel", "is", "(II)Z"⟩, 33)]
theorem lw_r2 : ∀ q ∈ lw_privs_2, lw_okq q := List.forall_mem_cons.mpr ⟨lw_p16, List.forall_mem_cons.mpr ⟨lw_p17, List.forall_mem_cons.mpr ⟨lw_p18, List.forall_mem_cons.mpr ⟨lw_p19, List.forall_mem_cons.mpr ⟨lw_p20, List.forall_mem_cons.mpr ⟨lw_p21, List.forall_mem_cons.mpr ⟨lw_p22, List.forall_mem_cons.mpr ⟨lw_p23, List.forall_mem_cons.mpr ⟨lw_p24, List.forall_mem_cons.mpr ⟨lw_p25, List.forall_mem_cons.mpr ⟨lw_p26, List.forall_mem_cons.mpr ⟨lw_p27, List.forall_mem_cons.mpr ⟨lw_p28, List.forall_mem_cons.mpr ⟨lw_p29, List.forall_mem_cons.mpr ⟨lw_p30, List.forall_mem_cons.mpr ⟨lw_p31, fun _ h => absurd h List.not_mem_nil⟩⟩⟩⟩⟩⟩⟩⟩⟩⟩⟩⟩⟩⟩⟩⟩
theorem lw_p32 : lw_okq (⟨"ClickStreetModel", "become", "(II)I"⟩, 33) := ⟨⟨by decide +kernel, by decide +kernel⟩, List.mem_of_getElem? (i := 1235) (by decide +kernel), List.mem_of_getElem? (i := 1404) (by decide +kernel), List.mem_of_getElem? (i := 1405) (by decide +kernel)⟩
theorem lw_p33 : lw_okq (⟨"ClickStreetModel", "reach", "(I)I"⟩, 33) := ⟨⟨by decide +kernel, by decide +kernel⟩, List.mem_of_getElem? (i := 1235) (by decide +kernel), List.mem_of_getElem? (i := 1436) (by decide +kernel), List.mem_of_getElem? (i := 1437) (by decide +kernel)⟩
theorem lw_p34 : lw_okq (⟨"ClickStreetModel", "kindOf", "(I)I"⟩, 33) := ⟨⟨by decide +kernel, by decide +kernel⟩, List.mem_of_getElem? (i := 1235) (by decide +kernel), List.mem_of_getElem? (i := 1440) (by decide +kernel), List.mem_of_getElem? (i := 1441) (by decide +kernel)⟩
theorem lw_p35 : lw_okq (⟨"ClickStreetModel", "ears", "(I)I"⟩, 33) := ⟨⟨by decide +kernel, by decide +kernel⟩, List.mem_of_getElem? (i := 1235) (by decide +kernel), List.mem_of_getElem? (i := 1447) (by decide +kernel), List.mem_of_getElem? (i := 1448) (by decide +kernel)⟩
theorem lw_p36 : lw_okq (⟨"ClickStreetModel", "text", "()V"⟩, 33) := ⟨⟨by decide +kernel, by decide +kernel⟩, List.mem_of_getElem? (i := 1235) (by decide +kernel), List.mem_of_getElem? (i := 1482) (by decide +kernel), List.mem_of_getElem? (i := 1483) (by decide +kernel)⟩
theorem lw_p37 : lw_okq (⟨"ClickStreetModel", "sum", "()V"⟩, 33) := ⟨⟨by decide +kernel, by decide +kernel⟩, List.mem_of_getElem? (i := 1235) (by decide +kernel), List.mem_of_getElem? (i := 1486) (by decide +kernel), List.mem_of_getElem? (i := 1487) (by decide +kernel)⟩
theorem lw_p38 : lw_okq (⟨"ClickStreetModel", "term", "()V"⟩, 33) := ⟨⟨by decide +kernel, by decide +kernel⟩, List.mem_of_getElem? (i := 1235) (by decide +kernel), List.mem_of_getElem? (i := 1490) (by decide +kernel), List.mem_of_getElem? (i := 1491) (by decide +kernel)⟩
theorem lw_p39 : lw_okq (⟨"ClickStreetModel", "one", "()V"⟩, 33) := ⟨⟨by decide +kernel, by decide +kernel⟩, List.mem_of_getElem? (i := 1235) (by decide +kernel), List.mem_of_getElem? (i := 1494) (by decide +kernel), List.mem_of_getElem? (i := 1495) (by decide +kernel)⟩
theorem lw_p40 : lw_okq (⟨"ClickStreetModel", "here", "()I"⟩, 33) := ⟨⟨by decide +kernel, by decide +kernel⟩, List.mem_of_getElem? (i := 1235) (by decide +kernel), List.mem_of_getElem? (i := 1498) (by decide +kernel), List.mem_of_getElem? (i := 1499) (by decide +kernel)⟩
theorem lw_p41 : lw_okq (⟨"ClickStreetModel", "opens", "(I)V"⟩, 33) := ⟨⟨by decide +kernel, by decide +kernel⟩, List.mem_of_getElem? (i := 1235) (by decide +kernel), List.mem_of_getElem? (i := 1502) (by decide +kernel), List.mem_of_getElem? (i := 1503) (by decide +kernel)⟩
theorem lw_p42 : lw_okq (⟨"ClickStreetModel", "codes", "(I)V"⟩, 33) := ⟨⟨by decide +kernel, by decide +kernel⟩, List.mem_of_getElem? (i := 1235) (by decide +kernel), List.mem_of_getElem? (i := 1506) (by decide +kernel), List.mem_of_getElem? (i := 1507) (by decide +kernel)⟩
theorem lw_p43 : lw_okq (⟨"ClickStreetModel", "must", "(I)V"⟩, 33) := ⟨⟨by decide +kernel, by decide +kernel⟩, List.mem_of_getElem? (i := 1235) (by decide +kernel), List.mem_of_getElem? (i := 1510) (by decide +kernel), List.mem_of_getElem? (i := 1511) (by decide +kernel)⟩
theorem lw_p44 : lw_okq (⟨"ClickStreetModel", "takes", "(I)Z"⟩, 33) := ⟨⟨by decide +kernel, by decide +kernel⟩, List.mem_of_getElem? (i := 1235) (by decide +kernel), List.mem_of_getElem? (i := 1514) (by decide +kernel), List.mem_of_getElem? (i := 1515) (by decide +kernel)⟩
theorem lw_p45 : lw_okq (⟨"ClickStreetModel", "nameOf", "(I)I"⟩, 33) := ⟨⟨by decide +kernel, by decide +kernel⟩, List.mem_of_getElem? (i := 1235) (by decide +kernel), List.mem_of_getElem? (i := 1518) (by decide +kernel), List.mem_of_getElem? (i := 1519) (by decide +kernel)⟩
theorem lw_p46 : lw_okq (⟨"ClickStreetModel", "isClick", "(I)Z"⟩, 33) := ⟨⟨by decide +kernel, by decide +kernel⟩, List.mem_of_getElem? (i := 1235) (by decide +kernel), List.mem_of_getElem? (i := 1547) (by decide +kernel), List.mem_of_getElem? (i := 1548) (by decide +kernel)⟩
theorem lw_p47 : lw_okq (⟨"ClickStreetModel", "echoFrom", "(III)I"⟩, 33) := ⟨⟨by decide +kernel, by decide +kernel⟩, List.mem_of_getElem? (i := 1235) (by decide +kernel), List.mem_of_getElem? (i := 1551) (by decide +kernel), List.mem_of_getElem? (i := 1552) (by decide +kernel)⟩
def lw_privs_3 : List (MethodName × Nat) := [(⟨"ClickStreetModel", "become", "(II)I"⟩, 33), (⟨"ClickStreetModel", "reach", "(I)I"⟩, 33), (⟨"ClickStreetModel", "kindOf", "(I)I"⟩, 33), (⟨"ClickStreetModel", "ears", "(I)I"⟩, 33), (⟨"ClickStreetModel", "text", "()V"⟩, 33), (⟨"ClickStreetModel", "sum", "()V"⟩, 33), (⟨"ClickStreetModel", "term", "()V"⟩, 33), (⟨"ClickStreetModel", "one", "()V"⟩, 33), (⟨"ClickStreetModel", "here", "()I"⟩, 33), (⟨"ClickStreetModel", "opens", "(I)V"⟩, 33), (⟨"ClickStreetModel", "codes", "(I)V"⟩, 33), (⟨"ClickStreetModel", "must", "(I)V"⟩, 33), (⟨"ClickStreetModel", "takes", "(I)Z"⟩, 33), (⟨"ClickStreetModel", "nameOf", "(I)I"⟩, 33), (⟨"ClickStreetModel", "isClick", "(I)Z"⟩, 33), (⟨"ClickStreetModel", "echoFrom", "(III)I"⟩, 33)]
theorem lw_r3 : ∀ q ∈ lw_privs_3, lw_okq q := List.forall_mem_cons.mpr ⟨lw_p32, List.forall_mem_cons.mpr ⟨lw_p33, List.forall_mem_cons.mpr ⟨lw_p34, List.forall_mem_cons.mpr ⟨lw_p35, List.forall_mem_cons.mpr ⟨lw_p36, List.forall_mem_cons.mpr ⟨lw_p37, List.forall_mem_cons.mpr ⟨lw_p38, List.forall_mem_cons.mpr ⟨lw_p39, List.forall_mem_cons.mpr ⟨lw_p40, List.forall_mem_cons.mpr ⟨lw_p41, List.forall_mem_cons.mpr ⟨lw_p42, List.forall_mem_cons.mpr ⟨lw_p43, List.forall_mem_cons.mpr ⟨lw_p44, List.forall_mem_cons.mpr ⟨lw_p45, List.forall_mem_cons.mpr ⟨lw_p46, List.forall_mem_cons.mpr ⟨lw_p47, fun _ h => absurd h List.not_mem_nil⟩⟩⟩⟩⟩⟩⟩⟩⟩⟩⟩⟩⟩⟩⟩⟩
theorem lw_p48 : lw_okq (⟨"ClickStreetModel", "on", "(III)I"⟩, 33) := ⟨⟨by decide +kernel, by decide +kernel⟩, List.mem_of_getElem? (i := 1235) (by decide +kernel), List.mem_of_getElem? (i := 1555) (by decide +kernel), List.mem_of_getElem? (i := 1556) (by decide +kernel)⟩
theorem lw_p49 : lw_okq (⟨"ClickStreetModel", "kindIn", "(I)I"⟩, 33) := ⟨⟨by decide +kernel, by decide +kernel⟩, List.mem_of_getElem? (i := 1235) (by decide +kernel), List.mem_of_getElem? (i := 1559) (by decide +kernel), List.mem_of_getElem? (i := 1560) (by decide +kernel)⟩
theorem lw_p50 : lw_okq (⟨"ClickStreetModel", "strength", "(IIII)I"⟩, 33) := ⟨⟨by decide +kernel, by decide +kernel⟩, List.mem_of_getElem? (i := 1235) (by decide +kernel), List.mem_of_getElem? (i := 1563) (by decide +kernel), List.mem_of_getElem? (i := 1564) (by decide +kernel)⟩
theorem lw_p51 : lw_okq (⟨"ClickStreetModel", "hasText", "(I)Z"⟩, 33) := ⟨⟨by decide +kernel, by decide +kernel⟩, List.mem_of_getElem? (i := 1235) (by decide +kernel), List.mem_of_getElem? (i := 1567) (by decide +kernel), List.mem_of_getElem? (i := 1568) (by decide +kernel)⟩
theorem lw_p52 : lw_okq (⟨"ClickStreetModel", "given", "(I)I"⟩, 33) := ⟨⟨by decide +kernel, by decide +kernel⟩, List.mem_of_getElem? (i := 1235) (by decide +kernel), List.mem_of_getElem? (i := 1571) (by decide +kernel), List.mem_of_getElem? (i := 1572) (by decide +kernel)⟩
theorem lw_p53 : lw_okq (⟨"ClickStreetModel", "isHeard", "(IIIIII)Z"⟩, 33) := ⟨⟨by decide +kernel, by decide +kernel⟩, List.mem_of_getElem? (i := 1235) (by decide +kernel), List.mem_of_getElem? (i := 1586) (by decide +kernel), List.mem_of_getElem? (i := 1587) (by decide +kernel)⟩
theorem lw_p54 : lw_okq (⟨"ClickStreetModel", "clicks", "(I)I"⟩, 33) := ⟨⟨by decide +kernel, by decide +kernel⟩, List.mem_of_getElem? (i := 1235) (by decide +kernel), List.mem_of_getElem? (i := 1594) (by decide +kernel), List.mem_of_getElem? (i := 1595) (by decide +kernel)⟩
theorem lw_p55 : lw_okq (⟨"ClickStreetModel", "heardFrom", "(III)I"⟩, 33) := ⟨⟨by decide +kernel, by decide +kernel⟩, List.mem_of_getElem? (i := 1235) (by decide +kernel), List.mem_of_getElem? (i := 1598) (by decide +kernel), List.mem_of_getElem? (i := 1599) (by decide +kernel)⟩
theorem lw_p56 : lw_okq (⟨"ClickStreetModel", "no", "(II)I"⟩, 33) := ⟨⟨by decide +kernel, by decide +kernel⟩, List.mem_of_getElem? (i := 1235) (by decide +kernel), List.mem_of_getElem? (i := 1602) (by decide +kernel), List.mem_of_getElem? (i := 1603) (by decide +kernel)⟩
theorem lw_p57 : lw_okq (⟨"ClickStreetModel", "yes", "(II)I"⟩, 33) := ⟨⟨by decide +kernel, by decide +kernel⟩, List.mem_of_getElem? (i := 1235) (by decide +kernel), List.mem_of_getElem? (i := 1606) (by decide +kernel), List.mem_of_getElem? (i := 1607) (by decide +kernel)⟩
theorem lw_p58 : lw_okq (⟨"ClickStreetModel", "more", "(II)V"⟩, 33) := ⟨⟨by decide +kernel, by decide +kernel⟩, List.mem_of_getElem? (i := 1235) (by decide +kernel), List.mem_of_getElem? (i := 1610) (by decide +kernel), List.mem_of_getElem? (i := 1611) (by decide +kernel)⟩
theorem lw_p59 : lw_okq (⟨"ClickStreetModel", "held", "(II)I"⟩, 33) := ⟨⟨by decide +kernel, by decide +kernel⟩, List.mem_of_getElem? (i := 1235) (by decide +kernel), List.mem_of_getElem? (i := 1618) (by decide +kernel), List.mem_of_getElem? (i := 1619) (by decide +kernel)⟩
theorem lw_p60 : lw_okq (⟨"ClickStreetModel", "areCells", "(IZ)Z"⟩, 33) := ⟨⟨by decide +kernel, by decide +kernel⟩, List.mem_of_getElem? (i := 1235) (by decide +kernel), List.mem_of_getElem? (i := 1642) (by decide +kernel), List.mem_of_getElem? (i := 1643) (by decide +kernel)⟩
theorem lw_p61 : lw_okq (⟨"ClickStreetModel", "findTold", "(III)V"⟩, 33) := ⟨⟨by decide +kernel, by decide +kernel⟩, List.mem_of_getElem? (i := 1235) (by decide +kernel), List.mem_of_getElem? (i := 1646) (by decide +kernel), List.mem_of_getElem? (i := 1647) (by decide +kernel)⟩
theorem lw_p62 : lw_okq (⟨"ClickStreetModel", "toldBy", "(I)I"⟩, 33) := ⟨⟨by decide +kernel, by decide +kernel⟩, List.mem_of_getElem? (i := 1235) (by decide +kernel), List.mem_of_getElem? (i := 1653) (by decide +kernel), List.mem_of_getElem? (i := 1654) (by decide +kernel)⟩
theorem lw_p63 : lw_okq (⟨"ClickStreetModel", "tenth", "()V"⟩, 33) := ⟨⟨by decide +kernel, by decide +kernel⟩, List.mem_of_getElem? (i := 1235) (by decide +kernel), List.mem_of_getElem? (i := 1661) (by decide +kernel), List.mem_of_getElem? (i := 1662) (by decide +kernel)⟩
def lw_privs_4 : List (MethodName × Nat) := [(⟨"ClickStreetModel", "on", "(III)I"⟩, 33), (⟨"ClickStreetModel", "kindIn", "(I)I"⟩, 33), (⟨"ClickStreetModel", "strength", "(IIII)I"⟩, 33), (⟨"ClickStreetModel", "hasText", "(I)Z"⟩, 33), (⟨"ClickStreetModel", "given", "(I)I"⟩, 33), (⟨"ClickStreetModel", "isHeard", "(IIIIII)Z"⟩, 33), (⟨"ClickStreetModel", "clicks", "(I)I"⟩, 33), (⟨"ClickStreetModel", "heardFrom", "(III)I"⟩, 33), (⟨"ClickStreetModel", "no", "(II)I"⟩, 33), (⟨"ClickStreetModel", "yes", "(II)I"⟩, 33), (⟨"ClickStreetModel", "more", "(II)V"⟩, 33), (⟨"ClickStreetModel", "held", "(II)I"⟩, 33), (⟨"ClickStreetModel", "areCells", "(IZ)Z"⟩, 33), (⟨"ClickStreetModel", "findTold", "(III)V"⟩, 33), (⟨"ClickStreetModel", "toldBy", "(I)I"⟩, 33), (⟨"ClickStreetModel", "tenth", "()V"⟩, 33)]
theorem lw_r4 : ∀ q ∈ lw_privs_4, lw_okq q := List.forall_mem_cons.mpr ⟨lw_p48, List.forall_mem_cons.mpr ⟨lw_p49, List.forall_mem_cons.mpr ⟨lw_p50, List.forall_mem_cons.mpr ⟨lw_p51, List.forall_mem_cons.mpr ⟨lw_p52, List.forall_mem_cons.mpr ⟨lw_p53, List.forall_mem_cons.mpr ⟨lw_p54, List.forall_mem_cons.mpr ⟨lw_p55, List.forall_mem_cons.mpr ⟨lw_p56, List.forall_mem_cons.mpr ⟨lw_p57, List.forall_mem_cons.mpr ⟨lw_p58, List.forall_mem_cons.mpr ⟨lw_p59, List.forall_mem_cons.mpr ⟨lw_p60, List.forall_mem_cons.mpr ⟨lw_p61, List.forall_mem_cons.mpr ⟨lw_p62, List.forall_mem_cons.mpr ⟨lw_p63, fun _ h => absurd h List.not_mem_nil⟩⟩⟩⟩⟩⟩⟩⟩⟩⟩⟩⟩⟩⟩⟩⟩
theorem lw_p64 : lw_okq (⟨"ClickStreetModel", "thingGoes", "(I)V"⟩, 33) := ⟨⟨by decide +kernel, by decide +kernel⟩, List.mem_of_getElem? (i := 1235) (by decide +kernel), List.mem_of_getElem? (i := 1665) (by decide +kernel), List.mem_of_getElem? (i := 1666) (by decide +kernel)⟩
theorem lw_p65 : lw_okq (⟨"ClickStreetModel", "walkerGoes", "(I)V"⟩, 33) := ⟨⟨by decide +kernel, by decide +kernel⟩, List.mem_of_getElem? (i := 1235) (by decide +kernel), List.mem_of_getElem? (i := 1669) (by decide +kernel), List.mem_of_getElem? (i := 1670) (by decide +kernel)⟩
theorem lw_p66 : lw_okq (⟨"ClickStreetModel", "habitOf", "(I)I"⟩, 33) := ⟨⟨by decide +kernel, by decide +kernel⟩, List.mem_of_getElem? (i := 1235) (by decide +kernel), List.mem_of_getElem? (i := 1673) (by decide +kernel), List.mem_of_getElem? (i := 1674) (by decide +kernel)⟩
theorem lw_p67 : lw_okq (⟨"ClickStreetModel", "fullAhead", "(II)I"⟩, 33) := ⟨⟨by decide +kernel, by decide +kernel⟩, List.mem_of_getElem? (i := 1235) (by decide +kernel), List.mem_of_getElem? (i := 1677) (by decide +kernel), List.mem_of_getElem? (i := 1678) (by decide +kernel)⟩
theorem lw_p68 : lw_okq (⟨"ClickStreetModel", "goesOn", "(I)V"⟩, 33) := ⟨⟨by decide +kernel, by decide +kernel⟩, List.mem_of_getElem? (i := 1235) (by decide +kernel), List.mem_of_getElem? (i := 1681) (by decide +kernel), List.mem_of_getElem? (i := 1682) (by decide +kernel)⟩
theorem lw_p69 : lw_okq (⟨"ClickStreetModel", "findFar", "(II)V"⟩, 33) := ⟨⟨by decide +kernel, by decide +kernel⟩, List.mem_of_getElem? (i := 1235) (by decide +kernel), List.mem_of_getElem? (i := 1689) (by decide +kernel), List.mem_of_getElem? (i := 1690) (by decide +kernel)⟩
theorem lw_p70 : lw_okq (⟨"ClickStreetModel", "cost", "(II)I"⟩, 33) := ⟨⟨by decide +kernel, by decide +kernel⟩, List.mem_of_getElem? (i := 1235) (by decide +kernel), List.mem_of_getElem? (i := 1694) (by decide +kernel), List.mem_of_getElem? (i := 1695) (by decide +kernel)⟩
theorem lw_p71 : lw_okq (⟨"ClickStreetModel", "tryRows", "(IIIII)V"⟩, 33) := ⟨⟨by decide +kernel, by decide +kernel⟩, List.mem_of_getElem? (i := 1235) (by decide +kernel), List.mem_of_getElem? (i := 1710) (by decide +kernel), List.mem_of_getElem? (i := 1711) (by decide +kernel)⟩
theorem lw_p72 : lw_okq (⟨"ClickStreetModel", "isPost", "(III)Z"⟩, 33) := ⟨⟨by decide +kernel, by decide +kernel⟩, List.mem_of_getElem? (i := 1235) (by decide +kernel), List.mem_of_getElem? (i := 1718) (by decide +kernel), List.mem_of_getElem? (i := 1719) (by decide +kernel)⟩
theorem lw_p73 : lw_okq (⟨"ClickStreetModel", "voiced", "(II)I"⟩, 33) := ⟨⟨by decide +kernel, by decide +kernel⟩, List.mem_of_getElem? (i := 1235) (by decide +kernel), List.mem_of_getElem? (i := 1726) (by decide +kernel), List.mem_of_getElem? (i := 1727) (by decide +kernel)⟩
theorem lw_p74 : lw_okq (⟨"ClickStreetModel", "bodyFrom", "(III)I"⟩, 33) := ⟨⟨by decide +kernel, by decide +kernel⟩, List.mem_of_getElem? (i := 1235) (by decide +kernel), List.mem_of_getElem? (i := 1730) (by decide +kernel), List.mem_of_getElem? (i := 1731) (by decide +kernel)⟩
theorem lw_p75 : lw_okq (⟨"ClickStreetModel", "body", "(III)I"⟩, 33) := ⟨⟨by decide +kernel, by decide +kernel⟩, List.mem_of_getElem? (i := 1235) (by decide +kernel), List.mem_of_getElem? (i := 1737) (by decide +kernel), List.mem_of_getElem? (i := 1738) (by decide +kernel)⟩
theorem lw_p76 : lw_okq (⟨"ClickStreetModel", "began", "(I)V"⟩, 33) := ⟨⟨by decide +kernel, by decide +kernel⟩, List.mem_of_getElem? (i := 1235) (by decide +kernel), List.mem_of_getElem? (i := 1741) (by decide +kernel), List.mem_of_getElem? (i := 1742) (by decide +kernel)⟩
theorem lw_p77 : lw_okq (⟨"ClickStreetModel", "sumOf", "(I)I"⟩, 33) := ⟨⟨by decide +kernel, by decide +kernel⟩, List.mem_of_getElem? (i := 1235) (by decide +kernel), List.mem_of_getElem? (i := 1785) (by decide +kernel), List.mem_of_getElem? (i := 1786) (by decide +kernel)⟩
def lw_privs_5 : List (MethodName × Nat) := [(⟨"ClickStreetModel", "thingGoes", "(I)V"⟩, 33), (⟨"ClickStreetModel", "walkerGoes", "(I)V"⟩, 33), (⟨"ClickStreetModel", "habitOf", "(I)I"⟩, 33), (⟨"ClickStreetModel", "fullAhead", "(II)I"⟩, 33), (⟨"ClickStreetModel", "goesOn", "(I)V"⟩, 33), (⟨"ClickStreetModel", "findFar", "(II)V"⟩, 33), (⟨"ClickStreetModel", "cost", "(II)I"⟩, 33), (⟨"ClickStreetModel", "tryRows", "(IIIII)V"⟩, 33), (⟨"ClickStreetModel", "isPost", "(III)Z"⟩, 33), (⟨"ClickStreetModel", "voiced", "(II)I"⟩, 33), (⟨"ClickStreetModel", "bodyFrom", "(III)I"⟩, 33), (⟨"ClickStreetModel", "body", "(III)I"⟩, 33), (⟨"ClickStreetModel", "began", "(I)V"⟩, 33), (⟨"ClickStreetModel", "sumOf", "(I)I"⟩, 33)]
theorem lw_r5 : ∀ q ∈ lw_privs_5, lw_okq q := List.forall_mem_cons.mpr ⟨lw_p64, List.forall_mem_cons.mpr ⟨lw_p65, List.forall_mem_cons.mpr ⟨lw_p66, List.forall_mem_cons.mpr ⟨lw_p67, List.forall_mem_cons.mpr ⟨lw_p68, List.forall_mem_cons.mpr ⟨lw_p69, List.forall_mem_cons.mpr ⟨lw_p70, List.forall_mem_cons.mpr ⟨lw_p71, List.forall_mem_cons.mpr ⟨lw_p72, List.forall_mem_cons.mpr ⟨lw_p73, List.forall_mem_cons.mpr ⟨lw_p74, List.forall_mem_cons.mpr ⟨lw_p75, List.forall_mem_cons.mpr ⟨lw_p76, List.forall_mem_cons.mpr ⟨lw_p77, fun _ h => absurd h List.not_mem_nil⟩⟩⟩⟩⟩⟩⟩⟩⟩⟩⟩⟩⟩⟩
def lw_privs : List (MethodName × Nat) := lw_privs_1 ++ (lw_privs_2 ++ (lw_privs_3 ++ (lw_privs_4 ++ (lw_privs_5))))
def lw_tbl : List Cond := k2_sels lw_privs ++ tables_1
theorem lw_privs_ok : ∀ q ∈ lw_privs, lw_okq q := by
  show ∀ q ∈ lw_privs_1 ++ (lw_privs_2 ++ (lw_privs_3 ++ (lw_privs_4 ++ (lw_privs_5)))), lw_okq q
  exact List.forall_mem_append.mpr ⟨lw_r1, List.forall_mem_append.mpr ⟨lw_r2, List.forall_mem_append.mpr ⟨lw_r3, List.forall_mem_append.mpr ⟨lw_r4, lw_r5⟩⟩⟩⟩
-- ===== end of PART A =====
end
section
/-! names, printed out of the claim's own names: classes, fields, methods; one list of words; environment lists -/
def RX0 : String := "ClickStreet$Finder"
def TX0 : u_T := fun k => match k with
  | 0 => ("ClickStreet$Finder", "costs", "[I", true)
  | 1 => ("ClickStreet$Finder", "isDone", "[Z", true)
  | 2 => ("ClickStreet$Finder", "learned", "[J", true)
  | 3 => ("ClickStreet$Finder", "heardPosts", "[I", true)
  | 4 => ("ClickStreet$Finder", "most", "I", false)
  | _ => ("ClickStreet$Finder", "places", "I", false)
def tyX0 : Nat → FieldType := fun k => match k with
  | 0 => .array .int
  | 1 => .array .boolean
  | 2 => .array .long
  | 3 => .array .int
  | 4 => .int
  | _ => .int
theorem nmX0 : ∀ a, a < 6 → ∀ b, b < 6 → a ≠ b → (TX0 a).2.1 ≠ (TX0 b).2.1 := by decide +kernel
theorem tyX0_ok : ∀ k, k < 6 → parseFieldDescriptor (TX0 k).2.2.1 = some (tyX0 k) := by decide +kernel
abbrev cX0_init : ByteArray := prog_2_method_1_code
def yX0_init : MethodName := ⟨RX0, "<init>", "()V"⟩
abbrev cX0_measure : ByteArray := prog_2_method_2_code
def yX0_measure : MethodName := ⟨RX0, "measure", "(LClickStreet$Walker;I)V"⟩
abbrev cX0_nearestOpen : ByteArray := prog_2_method_3_code
def yX0_nearestOpen : MethodName := ⟨RX0, "nearestOpen", "()I"⟩
abbrev cX0_costInto : ByteArray := prog_2_method_4_code
def yX0_costInto : MethodName := ⟨RX0, "costInto", "(LClickStreet$Walker;I)I"⟩
abbrev cX0_costFrom : ByteArray := prog_2_method_5_code
def yX0_costFrom : MethodName := ⟨RX0, "costFrom", "(I)I"⟩
abbrev cX0_cellAfter : ByteArray := prog_2_method_6_code
def yX0_cellAfter : MethodName := ⟨RX0, "cellAfter", "(LClickStreet$Walker;II)I"⟩
abbrev cX0_firstStep : ByteArray := prog_2_method_7_code
def yX0_firstStep : MethodName := ⟨RX0, "firstStep", "(LClickStreet$Walker;I)I"⟩
abbrev cX0_chooseSpots : ByteArray := prog_2_method_8_code
def yX0_chooseSpots : MethodName := ⟨RX0, "chooseSpots", "(LClickStreet$World;ILClickStreet$Sheet;I)Z"⟩
abbrev cX0_noteLearned : ByteArray := prog_2_method_9_code
def yX0_noteLearned : MethodName := ⟨RX0, "noteLearned", "(LClickStreet$World;III)V"⟩
abbrev cX0_countLearned : ByteArray := prog_2_method_10_code
def yX0_countLearned : MethodName := ⟨RX0, "countLearned", "(I)I"⟩
abbrev cX0_choosePosts : ByteArray := prog_2_method_11_code
def yX0_choosePosts : MethodName := ⟨RX0, "choosePosts", "(LClickStreet$World;ILClickStreet$Sheet;LClickStreet$Sheet;)Z"⟩
abbrev cX0_servesAll : ByteArray := prog_2_method_12_code
def yX0_servesAll : MethodName := ⟨RX0, "servesAll", "(II)Z"⟩
abbrev cX0_wouldHear : ByteArray := prog_2_method_13_code
def yX0_wouldHear : MethodName := ⟨RX0, "wouldHear", "(LClickStreet$World;III)Z"⟩
def RX1 : String := "ClickStreet$Formula"
def TX1 : u_T := fun k => match k with
  | 0 => ("ClickStreet$Formula", "codes", "[I", true)
  | 1 => ("ClickStreet$Formula", "stack", "[I", true)
  | _ => ("ClickStreet$Formula", "size", "I", false)
def tyX1 : Nat → FieldType := fun k => match k with
  | 0 => .array .int
  | 1 => .array .int
  | _ => .int
theorem nmX1 : ∀ a, a < 3 → ∀ b, b < 3 → a ≠ b → (TX1 a).2.1 ≠ (TX1 b).2.1 := by decide +kernel
theorem tyX1_ok : ∀ k, k < 3 → parseFieldDescriptor (TX1 k).2.2.1 = some (tyX1 k) := by decide +kernel
abbrev cX1_init : ByteArray := prog_3_method_1_code
def yX1_init : MethodName := ⟨RX1, "<init>", "()V"⟩
abbrev cX1_isGiven : ByteArray := prog_3_method_2_code
def yX1_isGiven : MethodName := ⟨RX1, "isGiven", "()Z"⟩
abbrev cX1_clear : ByteArray := prog_3_method_3_code
def yX1_clear : MethodName := ⟨RX1, "clear", "()V"⟩
abbrev cX1_add : ByteArray := prog_3_method_4_code
def yX1_add : MethodName := ⟨RX1, "add", "(I)V"⟩
abbrev cX1_work : ByteArray := prog_3_method_5_code
def yX1_work : MethodName := ⟨RX1, "work", "([I)I"⟩
abbrev cX1_takeFrom : ByteArray := prog_3_method_6_code
def yX1_takeFrom : MethodName := ⟨RX1, "takeFrom", "(LClickStreet$Formula;)V"⟩
def RX2 : String := "ClickStreet$Laws"
def TX2 : u_T := fun k => match k with
  | 0 => ("ClickStreet$Laws", "noise", "I", false)
  | 1 => ("ClickStreet$Laws", "mask", "I", false)
  | 2 => ("ClickStreet$Laws", "snow", "I", false)
  | 3 => ("ClickStreet$Laws", "loud", "[I", true)
  | 4 => ("ClickStreet$Laws", "sharp", "[I", true)
  | 5 => ("ClickStreet$Laws", "texts", "[LClickStreet$Formula;", true)
  | _ => ("ClickStreet$Laws", "values", "[I", true)
def tyX2 : Nat → FieldType := fun k => match k with
  | 0 => .int
  | 1 => .int
  | 2 => .int
  | 3 => .array .int
  | 4 => .array .int
  | 5 => .array (.object "ClickStreet$Formula")
  | _ => .array .int
theorem nmX2 : ∀ a, a < 7 → ∀ b, b < 7 → a ≠ b → (TX2 a).2.1 ≠ (TX2 b).2.1 := by decide +kernel
theorem tyX2_ok : ∀ k, k < 7 → parseFieldDescriptor (TX2 k).2.2.1 = some (tyX2 k) := by decide +kernel
abbrev cX2_init : ByteArray := prog_4_method_1_code
def yX2_init : MethodName := ⟨RX2, "<init>", "()V"⟩
abbrev cX2_isClick : ByteArray := prog_4_method_2_code
def yX2_isClick : MethodName := ⟨RX2, "isClick", "(II)Z"⟩
abbrev cX2_isClick_ : ByteArray := prog_4_method_3_code
def yX2_isClick_ : MethodName := ⟨RX2, "isClick", "(I)Z"⟩
abbrev cX2_late : ByteArray := prog_4_method_4_code
def yX2_late : MethodName := ⟨RX2, "late", "(II)I"⟩
abbrev cX2_changeKind : ByteArray := prog_4_method_5_code
def yX2_changeKind : MethodName := ⟨RX2, "changeKind", "(III)I"⟩
abbrev cX2_changeAir : ByteArray := prog_4_method_6_code
def yX2_changeAir : MethodName := ⟨RX2, "changeAir", "(II)I"⟩
abbrev cX2_strength : ByteArray := prog_4_method_7_code
def yX2_strength : MethodName := ⟨RX2, "strength", "(III)I"⟩
abbrev cX2_isHeard : ByteArray := prog_4_method_8_code
def yX2_isHeard : MethodName := ⟨RX2, "isHeard", "(IIII)Z"⟩
abbrev cX2_hears : ByteArray := prog_4_method_9_code
def yX2_hears : MethodName := ⟨RX2, "hears", "(IIIII)Z"⟩
abbrev cX2_habitValue : ByteArray := prog_4_method_10_code
def yX2_habitValue : MethodName := ⟨RX2, "habitValue", "(IIIII)I"⟩
abbrev cX2_kindsAlike : ByteArray := prog_4_method_11_code
def yX2_kindsAlike : MethodName := ⟨RX2, "kindsAlike", "(IIIII)I"⟩
abbrev cX2_leastPitch : ByteArray := prog_4_method_12_code
def yX2_leastPitch : MethodName := ⟨RX2, "leastPitch", "(III)I"⟩
abbrev cX2_leastLoudness : ByteArray := prog_4_method_13_code
def yX2_leastLoudness : MethodName := ⟨RX2, "leastLoudness", "(III)I"⟩
abbrev cX2_takeFrom : ByteArray := prog_4_method_14_code
def yX2_takeFrom : MethodName := ⟨RX2, "takeFrom", "(LClickStreet$Laws;)V"⟩
def RX3 : String := "ClickStreet$Lessons"
def TX3 : u_T := fun k => match k with
  | 0 => ("ClickStreet$Lessons", "tells", "[I", true)
  | 1 => ("ClickStreet$Lessons", "needs", "[I", true)
  | 2 => ("ClickStreet$Lessons", "minutes", "[I", true)
  | 3 => ("ClickStreet$Lessons", "size", "I", false)
  | 4 => ("ClickStreet$Lessons", "tried", "LClickStreet$Row;", true)
  | 5 => ("ClickStreet$Lessons", "best", "LClickStreet$Row;", true)
  | 6 => ("ClickStreet$Lessons", "wantedBits", "I", false)
  | 7 => ("ClickStreet$Lessons", "fewestMinutes", "I", false)
  | _ => ("ClickStreet$Lessons", "isFound", "Z", false)
def tyX3 : Nat → FieldType := fun k => match k with
  | 0 => .array .int
  | 1 => .array .int
  | 2 => .array .int
  | 3 => .int
  | 4 => .object "ClickStreet$Row"
  | 5 => .object "ClickStreet$Row"
  | 6 => .int
  | 7 => .int
  | _ => .boolean
theorem nmX3 : ∀ a, a < 9 → ∀ b, b < 9 → a ≠ b → (TX3 a).2.1 ≠ (TX3 b).2.1 := by decide +kernel
theorem tyX3_ok : ∀ k, k < 9 → parseFieldDescriptor (TX3 k).2.2.1 = some (tyX3 k) := by decide +kernel
abbrev cX3_init : ByteArray := prog_5_method_1_code
def yX3_init : MethodName := ⟨RX3, "<init>", "()V"⟩
abbrev cX3_hasRoom : ByteArray := prog_5_method_2_code
def yX3_hasRoom : MethodName := ⟨RX3, "hasRoom", "()Z"⟩
abbrev cX3_add : ByteArray := prog_5_method_3_code
def yX3_add : MethodName := ⟨RX3, "add", "(III)I"⟩
abbrev cX3_findRow : ByteArray := prog_5_method_4_code
def yX3_findRow : MethodName := ⟨RX3, "findRow", "(II)Z"⟩
abbrev cX3_tryRows : ByteArray := prog_5_method_5_code
def yX3_tryRows : MethodName := ⟨RX3, "tryRows", "(III)V"⟩
abbrev cX3_isBetter : ByteArray := prog_5_method_6_code
def yX3_isBetter : MethodName := ⟨RX3, "isBetter", "(I)Z"⟩
abbrev cX3_takeFrom : ByteArray := prog_5_method_7_code
def yX3_takeFrom : MethodName := ⟨RX3, "takeFrom", "(LClickStreet$Lessons;)V"⟩
def RX4 : String := "ClickStreet$Reader"
def TX4 : u_T := fun k => match k with
  | 0 => ("ClickStreet$Reader", "draft", "LClickStreet$Formula;", true)
  | 1 => ("ClickStreet$Reader", "tape", "LClickStreet$Row;", false)
  | 2 => ("ClickStreet$Reader", "names", "Ljava/lang/String;", false)
  | 3 => ("ClickStreet$Reader", "place", "I", false)
  | 4 => ("ClickStreet$Reader", "fault", "I", false)
  | 5 => ("ClickStreet$Reader", "open", "I", false)
  | _ => ("ClickStreet$Reader", "parts", "I", false)
def tyX4 : Nat → FieldType := fun k => match k with
  | 0 => .object "ClickStreet$Formula"
  | 1 => .object "ClickStreet$Row"
  | 2 => .object "java/lang/String"
  | 3 => .int
  | 4 => .int
  | 5 => .int
  | _ => .int
theorem nmX4 : ∀ a, a < 7 → ∀ b, b < 7 → a ≠ b → (TX4 a).2.1 ≠ (TX4 b).2.1 := by decide +kernel
theorem tyX4_ok : ∀ k, k < 7 → parseFieldDescriptor (TX4 k).2.2.1 = some (tyX4 k) := by decide +kernel
abbrev cX4_init : ByteArray := prog_6_method_1_code
def yX4_init : MethodName := ⟨RX4, "<init>", "()V"⟩
abbrev cX4_read : ByteArray := prog_6_method_2_code
def yX4_read : MethodName := ⟨RX4, "read", "(LClickStreet$Row;I)I"⟩
abbrev cX4_next : ByteArray := prog_6_method_3_code
def yX4_next : MethodName := ⟨RX4, "next", "()I"⟩
abbrev cX4_fail : ByteArray := prog_6_method_4_code
def yX4_fail : MethodName := ⟨RX4, "fail", "()V"⟩
abbrev cX4_expect : ByteArray := prog_6_method_5_code
def yX4_expect : MethodName := ⟨RX4, "expect", "(I)V"⟩
abbrev cX4_readComparisons : ByteArray := prog_6_method_6_code
def yX4_readComparisons : MethodName := ⟨RX4, "readComparisons", "()V"⟩
abbrev cX4_readSum : ByteArray := prog_6_method_7_code
def yX4_readSum : MethodName := ⟨RX4, "readSum", "()V"⟩
abbrev cX4_readTerm : ByteArray := prog_6_method_8_code
def yX4_readTerm : MethodName := ⟨RX4, "readTerm", "()V"⟩
abbrev cX4_readOne : ByteArray := prog_6_method_9_code
def yX4_readOne : MethodName := ⟨RX4, "readOne", "()V"⟩
abbrev cX4_readNumber : ByteArray := prog_6_method_10_code
def yX4_readNumber : MethodName := ⟨RX4, "readNumber", "()V"⟩
abbrev cX4_readName : ByteArray := prog_6_method_11_code
def yX4_readName : MethodName := ⟨RX4, "readName", "(I)V"⟩
abbrev cX4_readOpened : ByteArray := prog_6_method_12_code
def yX4_readOpened : MethodName := ⟨RX4, "readOpened", "(I)V"⟩
def RX5 : String := "ClickStreet$Row"
def TX5 : u_T := fun k => match k with
  | 0 => ("ClickStreet$Row", "numbers", "[I", true)
  | _ => ("ClickStreet$Row", "size", "I", false)
def tyX5 : Nat → FieldType := fun k => match k with
  | 0 => .array .int
  | _ => .int
theorem nmX5 : ∀ a, a < 2 → ∀ b, b < 2 → a ≠ b → (TX5 a).2.1 ≠ (TX5 b).2.1 := by decide +kernel
theorem tyX5_ok : ∀ k, k < 2 → parseFieldDescriptor (TX5 k).2.2.1 = some (tyX5 k) := by decide +kernel
abbrev cX5_init : ByteArray := prog_7_method_1_code
def yX5_init : MethodName := ⟨RX5, "<init>", "(I)V"⟩
abbrev cX5_room : ByteArray := prog_7_method_2_code
def yX5_room : MethodName := ⟨RX5, "room", "()I"⟩
abbrev cX5_has : ByteArray := prog_7_method_3_code
def yX5_has : MethodName := ⟨RX5, "has", "(I)Z"⟩
abbrev cX5_get : ByteArray := prog_7_method_4_code
def yX5_get : MethodName := ⟨RX5, "get", "(I)I"⟩
abbrev cX5_add : ByteArray := prog_7_method_5_code
def yX5_add : MethodName := ⟨RX5, "add", "(I)V"⟩
abbrev cX5_dropLast : ByteArray := prog_7_method_6_code
def yX5_dropLast : MethodName := ⟨RX5, "dropLast", "()V"⟩
abbrev cX5_clear : ByteArray := prog_7_method_7_code
def yX5_clear : MethodName := ⟨RX5, "clear", "()V"⟩
abbrev cX5_takeFrom : ByteArray := prog_7_method_8_code
def yX5_takeFrom : MethodName := ⟨RX5, "takeFrom", "(LClickStreet$Row;)V"⟩
def RX6 : String := "ClickStreet$Sheet"
def TX6 : u_T := fun k => match k with
  | 0 => ("ClickStreet$Sheet", "bits", "I", false)
  | 1 => ("ClickStreet$Sheet", "size", "I", false)
  | _ => ("ClickStreet$Sheet", "numbers", "[I", true)
def tyX6 : Nat → FieldType := fun k => match k with
  | 0 => .int
  | 1 => .int
  | _ => .array .int
theorem nmX6 : ∀ a, a < 3 → ∀ b, b < 3 → a ≠ b → (TX6 a).2.1 ≠ (TX6 b).2.1 := by decide +kernel
theorem tyX6_ok : ∀ k, k < 3 → parseFieldDescriptor (TX6 k).2.2.1 = some (tyX6 k) := by decide +kernel
abbrev cX6_init : ByteArray := prog_8_method_1_code
def yX6_init : MethodName := ⟨RX6, "<init>", "()V"⟩
abbrev cX6_isMissing : ByteArray := prog_8_method_2_code
def yX6_isMissing : MethodName := ⟨RX6, "isMissing", "()Z"⟩
abbrev cX6_drop : ByteArray := prog_8_method_3_code
def yX6_drop : MethodName := ⟨RX6, "drop", "()V"⟩
abbrev cX6_begin : ByteArray := prog_8_method_4_code
def yX6_begin : MethodName := ⟨RX6, "begin", "(II)V"⟩
abbrev cX6_has : ByteArray := prog_8_method_5_code
def yX6_has : MethodName := ⟨RX6, "has", "(I)Z"⟩
abbrev cX6_numberAt : ByteArray := prog_8_method_6_code
def yX6_numberAt : MethodName := ⟨RX6, "numberAt", "(I)I"⟩
abbrev cX6_store : ByteArray := prog_8_method_7_code
def yX6_store : MethodName := ⟨RX6, "store", "(II)V"⟩
abbrev cX6_hasRun : ByteArray := prog_8_method_8_code
def yX6_hasRun : MethodName := ⟨RX6, "hasRun", "(II)Z"⟩
abbrev cX6_holdsFewCells : ByteArray := prog_8_method_9_code
def yX6_holdsFewCells : MethodName := ⟨RX6, "holdsFewCells", "()Z"⟩
abbrev cX6_hasTwoAlike : ByteArray := prog_8_method_10_code
def yX6_hasTwoAlike : MethodName := ⟨RX6, "hasTwoAlike", "()Z"⟩
def RX7 : String := "ClickStreet$Street"
def TX7 : u_T := fun k => match k with
  | 0 => ("ClickStreet$Street", "occupants", "[I", true)
  | 1 => ("ClickStreet$Street", "kinds", "[I", true)
  | 2 => ("ClickStreet$Street", "cells", "[I", true)
  | 3 => ("ClickStreet$Street", "sides", "[I", true)
  | 4 => ("ClickStreet$Street", "steps", "[I", true)
  | _ => ("ClickStreet$Street", "things", "I", false)
def tyX7 : Nat → FieldType := fun k => match k with
  | 0 => .array .int
  | 1 => .array .int
  | 2 => .array .int
  | 3 => .array .int
  | 4 => .array .int
  | _ => .int
theorem nmX7 : ∀ a, a < 6 → ∀ b, b < 6 → a ≠ b → (TX7 a).2.1 ≠ (TX7 b).2.1 := by decide +kernel
theorem tyX7_ok : ∀ k, k < 6 → parseFieldDescriptor (TX7 k).2.2.1 = some (tyX7 k) := by decide +kernel
abbrev cX7_init : ByteArray := prog_9_method_1_code
def yX7_init : MethodName := ⟨RX7, "<init>", "()V"⟩
abbrev cX7_isCell : ByteArray := prog_9_method_2_code
def yX7_isCell : MethodName := ⟨RX7, "isCell", "(I)Z"⟩
abbrev cX7_isSide : ByteArray := prog_9_method_3_code
def yX7_isSide : MethodName := ⟨RX7, "isSide", "(I)Z"⟩
abbrev cX7_cellFrom : ByteArray := prog_9_method_4_code
def yX7_cellFrom : MethodName := ⟨RX7, "cellFrom", "(III)I"⟩
abbrev cX7_isFree : ByteArray := prog_9_method_5_code
def yX7_isFree : MethodName := ⟨RX7, "isFree", "(I)Z"⟩
abbrev cX7_settle : ByteArray := prog_9_method_6_code
def yX7_settle : MethodName := ⟨RX7, "settle", "(II)V"⟩
abbrev cX7_hasRoom : ByteArray := prog_9_method_7_code
def yX7_hasRoom : MethodName := ⟨RX7, "hasRoom", "()Z"⟩
abbrev cX7_hasThing : ByteArray := prog_9_method_8_code
def yX7_hasThing : MethodName := ⟨RX7, "hasThing", "(I)Z"⟩
abbrev cX7_addThing : ByteArray := prog_9_method_9_code
def yX7_addThing : MethodName := ⟨RX7, "addThing", "(II)I"⟩
abbrev cX7_factOf : ByteArray := prog_9_method_10_code
def yX7_factOf : MethodName := ⟨RX7, "factOf", "(II)I"⟩
abbrev cX7_takeAway : ByteArray := prog_9_method_11_code
def yX7_takeAway : MethodName := ⟨RX7, "takeAway", "(I)I"⟩
abbrev cX7_countThings : ByteArray := prog_9_method_12_code
def yX7_countThings : MethodName := ⟨RX7, "countThings", "()I"⟩
abbrev cX7_kindIn : ByteArray := prog_9_method_13_code
def yX7_kindIn : MethodName := ⟨RX7, "kindIn", "(I)I"⟩
abbrev cX7_letThingsGo : ByteArray := prog_9_method_14_code
def yX7_letThingsGo : MethodName := ⟨RX7, "letThingsGo", "(I)V"⟩
abbrev cX7_letThingGo : ByteArray := prog_9_method_15_code
def yX7_letThingGo : MethodName := ⟨RX7, "letThingGo", "(I)V"⟩
abbrev cX7_takeFrom : ByteArray := prog_9_method_16_code
def yX7_takeFrom : MethodName := ⟨RX7, "takeFrom", "(LClickStreet$Street;)V"⟩
def RX8 : String := "ClickStreet$Voices"
def TX8 : u_T := fun k => match k with
  | 0 => ("ClickStreet$Voices", "begun", "LClickStreet$Row;", true)
  | 1 => ("ClickStreet$Voices", "trace", "LClickStreet$Row;", true)
  | 2 => ("ClickStreet$Voices", "kind", "I", false)
  | 3 => ("ClickStreet$Voices", "number", "I", false)
  | 4 => ("ClickStreet$Voices", "pitch", "I", false)
  | _ => ("ClickStreet$Voices", "isParted", "Z", false)
def tyX8 : Nat → FieldType := fun k => match k with
  | 0 => .object "ClickStreet$Row"
  | 1 => .object "ClickStreet$Row"
  | 2 => .int
  | 3 => .int
  | 4 => .int
  | _ => .boolean
theorem nmX8 : ∀ a, a < 6 → ∀ b, b < 6 → a ≠ b → (TX8 a).2.1 ≠ (TX8 b).2.1 := by decide +kernel
theorem tyX8_ok : ∀ k, k < 6 → parseFieldDescriptor (TX8 k).2.2.1 = some (tyX8 k) := by decide +kernel
abbrev cX8_init : ByteArray := prog_10_method_1_code
def yX8_init : MethodName := ⟨RX8, "<init>", "()V"⟩
abbrev cX8_speak : ByteArray := prog_10_method_2_code
def yX8_speak : MethodName := ⟨RX8, "speak", "(LClickStreet$Walker;III)I"⟩
abbrev cX8_keepTrace : ByteArray := prog_10_method_3_code
def yX8_keepTrace : MethodName := ⟨RX8, "keepTrace", "()V"⟩
abbrev cX8_say : ByteArray := prog_10_method_4_code
def yX8_say : MethodName := ⟨RX8, "say", "(IIII)I"⟩
abbrev cX8_own : ByteArray := prog_10_method_5_code
def yX8_own : MethodName := ⟨RX8, "own", "(III)I"⟩
abbrev cX8_run : ByteArray := prog_10_method_6_code
def yX8_run : MethodName := ⟨RX8, "run", "(III)I"⟩
abbrev cX8_parted : ByteArray := prog_10_method_7_code
def yX8_parted : MethodName := ⟨RX8, "parted", "(I)I"⟩
def RX9 : String := "ClickStreet$Walker"
def TX9 : u_T := fun k => match k with
  | 0 => ("ClickStreet$Walker", "kind", "I", false)
  | 1 => ("ClickStreet$Walker", "cell", "I", false)
  | 2 => ("ClickStreet$Walker", "side", "I", false)
  | 3 => ("ClickStreet$Walker", "pitch", "I", false)
  | 4 => ("ClickStreet$Walker", "loudness", "I", false)
  | 5 => ("ClickStreet$Walker", "every", "I", false)
  | 6 => ("ClickStreet$Walker", "isGoing", "Z", false)
  | 7 => ("ClickStreet$Walker", "bumps", "I", false)
  | 8 => ("ClickStreet$Walker", "clicks", "I", false)
  | 9 => ("ClickStreet$Walker", "yes", "[I", true)
  | _ => ("ClickStreet$Walker", "no", "[I", true)
def tyX9 : Nat → FieldType := fun k => match k with
  | 0 => .int
  | 1 => .int
  | 2 => .int
  | 3 => .int
  | 4 => .int
  | 5 => .int
  | 6 => .boolean
  | 7 => .int
  | 8 => .int
  | 9 => .array .int
  | _ => .array .int
theorem nmX9 : ∀ a, a < 11 → ∀ b, b < 11 → a ≠ b → (TX9 a).2.1 ≠ (TX9 b).2.1 := by decide +kernel
theorem tyX9_ok : ∀ k, k < 11 → parseFieldDescriptor (TX9 k).2.2.1 = some (tyX9 k) := by decide +kernel
abbrev cX9_init : ByteArray := prog_11_method_1_code
def yX9_init : MethodName := ⟨RX9, "<init>", "()V"⟩
abbrev cX9_kindAbove : ByteArray := prog_11_method_2_code
def yX9_kindAbove : MethodName := ⟨RX9, "kindAbove", "(I)I"⟩
abbrev cX9_begin : ByteArray := prog_11_method_3_code
def yX9_begin : MethodName := ⟨RX9, "begin", "(III)V"⟩
abbrev cX9_isOf : ByteArray := prog_11_method_4_code
def yX9_isOf : MethodName := ⟨RX9, "isOf", "(I)Z"⟩
abbrev cX9_reach : ByteArray := prog_11_method_5_code
def yX9_reach : MethodName := ⟨RX9, "reach", "()I"⟩
abbrev cX9_speed : ByteArray := prog_11_method_6_code
def yX9_speed : MethodName := ⟨RX9, "speed", "()I"⟩
abbrev cX9_ears : ByteArray := prog_11_method_7_code
def yX9_ears : MethodName := ⟨RX9, "ears", "()I"⟩
abbrev cX9_ownClick : ByteArray := prog_11_method_8_code
def yX9_ownClick : MethodName := ⟨RX9, "ownClick", "()I"⟩
abbrev cX9_factOf : ByteArray := prog_11_method_9_code
def yX9_factOf : MethodName := ⟨RX9, "factOf", "(I)I"⟩
abbrev cX9_addYes : ByteArray := prog_11_method_10_code
def yX9_addYes : MethodName := ⟨RX9, "addYes", "(II)V"⟩
abbrev cX9_addNo : ByteArray := prog_11_method_11_code
def yX9_addNo : MethodName := ⟨RX9, "addNo", "(I)V"⟩
abbrev cX9_held : ByteArray := prog_11_method_12_code
def yX9_held : MethodName := ⟨RX9, "held", "(I)I"⟩
abbrev cX9_canLearn : ByteArray := prog_11_method_13_code
def yX9_canLearn : MethodName := ⟨RX9, "canLearn", "(I)Z"⟩
abbrev cX9_countHeld : ByteArray := prog_11_method_14_code
def yX9_countHeld : MethodName := ⟨RX9, "countHeld", "(I)I"⟩
abbrev cX9_yardsToFull : ByteArray := prog_11_method_15_code
def yX9_yardsToFull : MethodName := ⟨RX9, "yardsToFull", "(I)I"⟩
abbrev cX9_yardsHeldFree : ByteArray := prog_11_method_16_code
def yX9_yardsHeldFree : MethodName := ⟨RX9, "yardsHeldFree", "()I"⟩
abbrev cX9_turn : ByteArray := prog_11_method_17_code
def yX9_turn : MethodName := ⟨RX9, "turn", "(I)V"⟩
abbrev cX9_takeFrom : ByteArray := prog_11_method_18_code
def yX9_takeFrom : MethodName := ⟨RX9, "takeFrom", "(LClickStreet$Walker;)V"⟩
def RX10 : String := "ClickStreet$World"
def TX10 : u_T := fun k => match k with
  | 0 => ("ClickStreet$World", "street", "LClickStreet$Street;", true)
  | 1 => ("ClickStreet$World", "laws", "LClickStreet$Laws;", true)
  | 2 => ("ClickStreet$World", "lessons", "LClickStreet$Lessons;", true)
  | 3 => ("ClickStreet$World", "tape", "LClickStreet$Row;", true)
  | 4 => ("ClickStreet$World", "waiting", "LClickStreet$Row;", true)
  | 5 => ("ClickStreet$World", "walkers", "[LClickStreet$Walker;", true)
  | 6 => ("ClickStreet$World", "walkerCount", "I", false)
  | _ => ("ClickStreet$World", "now", "I", false)
def tyX10 : Nat → FieldType := fun k => match k with
  | 0 => .object "ClickStreet$Street"
  | 1 => .object "ClickStreet$Laws"
  | 2 => .object "ClickStreet$Lessons"
  | 3 => .object "ClickStreet$Row"
  | 4 => .object "ClickStreet$Row"
  | 5 => .array (.object "ClickStreet$Walker")
  | 6 => .int
  | _ => .int
theorem nmX10 : ∀ a, a < 8 → ∀ b, b < 8 → a ≠ b → (TX10 a).2.1 ≠ (TX10 b).2.1 := by decide +kernel
theorem tyX10_ok : ∀ k, k < 8 → parseFieldDescriptor (TX10 k).2.2.1 = some (tyX10 k) := by decide +kernel
abbrev cX10_init : ByteArray := prog_12_method_1_code
def yX10_init : MethodName := ⟨RX10, "<init>", "()V"⟩
abbrev cX10_hasWalker : ByteArray := prog_12_method_2_code
def yX10_hasWalker : MethodName := ⟨RX10, "hasWalker", "(I)Z"⟩
abbrev cX10_addWalker : ByteArray := prog_12_method_3_code
def yX10_addWalker : MethodName := ⟨RX10, "addWalker", "(III)I"⟩
abbrev cX10_countBumps : ByteArray := prog_12_method_4_code
def yX10_countBumps : MethodName := ⟨RX10, "countBumps", "()I"⟩
abbrev cX10_countClicks : ByteArray := prog_12_method_5_code
def yX10_countClicks : MethodName := ⟨RX10, "countClicks", "()I"⟩
abbrev cX10_isFreeBut : ByteArray := prog_12_method_6_code
def yX10_isFreeBut : MethodName := ⟨RX10, "isFreeBut", "(II)Z"⟩
abbrev cX10_echoYards : ByteArray := prog_12_method_7_code
def yX10_echoYards : MethodName := ⟨RX10, "echoYards", "(III)I"⟩
abbrev cX10_heardYards : ByteArray := prog_12_method_8_code
def yX10_heardYards : MethodName := ⟨RX10, "heardYards", "(III)I"⟩
abbrev cX10_echoFact : ByteArray := prog_12_method_9_code
def yX10_echoFact : MethodName := ⟨RX10, "echoFact", "(IIII)I"⟩
abbrev cX10_makeClick : ByteArray := prog_12_method_10_code
def yX10_makeClick : MethodName := ⟨RX10, "makeClick", "(I)I"⟩
abbrev cX10_countWrong : ByteArray := prog_12_method_11_code
def yX10_countWrong : MethodName := ⟨RX10, "countWrong", "(I)I"⟩
abbrev cX10_sureYards : ByteArray := prog_12_method_12_code
def yX10_sureYards : MethodName := ⟨RX10, "sureYards", "(I)I"⟩
abbrev cX10_passTenth : ByteArray := prog_12_method_13_code
def yX10_passTenth : MethodName := ⟨RX10, "passTenth", "()V"⟩
abbrev cX10_letWalkerGo : ByteArray := prog_12_method_14_code
def yX10_letWalkerGo : MethodName := ⟨RX10, "letWalkerGo", "(I)V"⟩
abbrev cX10_goOn : ByteArray := prog_12_method_15_code
def yX10_goOn : MethodName := ⟨RX10, "goOn", "(I)V"⟩
abbrev cX10_takeFrom : ByteArray := prog_12_method_16_code
def yX10_takeFrom : MethodName := ⟨RX10, "takeFrom", "(LClickStreet$World;)V"⟩
def RX11 : String := "ClickStreet"
def TX11 : u_T := fun k => match k with
  | 0 => ("ClickStreet", "live", "LClickStreet$World;", true)
  | 1 => ("ClickStreet", "kept", "LClickStreet$World;", true)
  | 2 => ("ClickStreet", "trial", "LClickStreet$World;", true)
  | 3 => ("ClickStreet", "sheets", "[LClickStreet$Sheet;", true)
  | 4 => ("ClickStreet", "errors", "[I", true)
  | 5 => ("ClickStreet", "reader", "LClickStreet$Reader;", true)
  | 6 => ("ClickStreet", "finder", "LClickStreet$Finder;", true)
  | 7 => ("ClickStreet", "voices", "LClickStreet$Voices;", true)
  | _ => ("ClickStreet", "images", "I", false)
def tyX11 : Nat → FieldType := fun k => match k with
  | 0 => .object "ClickStreet$World"
  | 1 => .object "ClickStreet$World"
  | 2 => .object "ClickStreet$World"
  | 3 => .array (.object "ClickStreet$Sheet")
  | 4 => .array .int
  | 5 => .object "ClickStreet$Reader"
  | 6 => .object "ClickStreet$Finder"
  | 7 => .object "ClickStreet$Voices"
  | _ => .int
theorem nmX11 : ∀ a, a < 9 → ∀ b, b < 9 → a ≠ b → (TX11 a).2.1 ≠ (TX11 b).2.1 := by decide +kernel
theorem tyX11_ok : ∀ k, k < 9 → parseFieldDescriptor (TX11 k).2.2.1 = some (tyX11 k) := by decide +kernel
abbrev cX11_init : ByteArray := prog_1_method_1_code
def yX11_init : MethodName := ⟨RX11, "<init>", "()V"⟩
abbrev cX11_thing : ByteArray := prog_1_method_2_code
def yX11_thing : MethodName := ⟨RX11, "thing", "(II)I"⟩
abbrev cX11_thingIs : ByteArray := prog_1_method_3_code
def yX11_thingIs : MethodName := ⟨RX11, "thingIs", "(II)I"⟩
abbrev cX11_moves : ByteArray := prog_1_method_4_code
def yX11_moves : MethodName := ⟨RX11, "moves", "(III)I"⟩
abbrev cX11_away : ByteArray := prog_1_method_5_code
def yX11_away : MethodName := ⟨RX11, "away", "(I)I"⟩
abbrev cX11_kind : ByteArray := prog_1_method_6_code
def yX11_kind : MethodName := ⟨RX11, "kind", "(III)I"⟩
abbrev cX11_at : ByteArray := prog_1_method_7_code
def yX11_at : MethodName := ⟨RX11, "at", "(I)I"⟩
abbrev cX11_lays : ByteArray := prog_1_method_8_code
def yX11_lays : MethodName := ⟨RX11, "lays", "(II)I"⟩
abbrev cX11_air : ByteArray := prog_1_method_9_code
def yX11_air : MethodName := ⟨RX11, "air", "(II)I"⟩
abbrev cX11_walker : ByteArray := prog_1_method_10_code
def yX11_walker : MethodName := ⟨RX11, "walker", "(III)I"⟩
abbrev cX11_walkerIs : ByteArray := prog_1_method_11_code
def yX11_walkerIs : MethodName := ⟨RX11, "walkerIs", "(II)I"⟩
abbrev cX11_as : ByteArray := prog_1_method_12_code
def yX11_as : MethodName := ⟨RX11, "as", "(II)I"⟩
abbrev cX11_habit : ByteArray := prog_1_method_13_code
def yX11_habit : MethodName := ⟨RX11, "habit", "(IIII)I"⟩
abbrev cX11_face : ByteArray := prog_1_method_14_code
def yX11_face : MethodName := ⟨RX11, "face", "(II)I"⟩
abbrev cX11_goes : ByteArray := prog_1_method_15_code
def yX11_goes : MethodName := ⟨RX11, "goes", "(IZ)I"⟩
abbrev cX11_feed : ByteArray := prog_1_method_16_code
def yX11_feed : MethodName := ⟨RX11, "feed", "(JI)I"⟩
abbrev cX11_text : ByteArray := prog_1_method_17_code
def yX11_text : MethodName := ⟨RX11, "text", "(I)I"⟩
abbrev cX11_echo : ByteArray := prog_1_method_18_code
def yX11_echo : MethodName := ⟨RX11, "echo", "(IIII)I"⟩
abbrev cX11_click : ByteArray := prog_1_method_19_code
def yX11_click : MethodName := ⟨RX11, "click", "(I)I"⟩
abbrev cX11_head : ByteArray := prog_1_method_20_code
def yX11_head : MethodName := ⟨RX11, "head", "(III)I"⟩
abbrev cX11_heads : ByteArray := prog_1_method_21_code
def yX11_heads : MethodName := ⟨RX11, "heads", "(II)I"⟩
abbrev cX11_alike : ByteArray := prog_1_method_22_code
def yX11_alike : MethodName := ⟨RX11, "alike", "(IIIII)I"⟩
abbrev cX11_least : ByteArray := prog_1_method_23_code
def yX11_least : MethodName := ⟨RX11, "least", "(IIII)I"⟩
abbrev cX11_farthest : ByteArray := prog_1_method_24_code
def yX11_farthest : MethodName := ⟨RX11, "farthest", "(III)I"⟩
abbrev cX11_spots : ByteArray := prog_1_method_25_code
def yX11_spots : MethodName := ⟨RX11, "spots", "(IIII)I"⟩
abbrev cX11_tenths : ByteArray := prog_1_method_26_code
def yX11_tenths : MethodName := ⟨RX11, "tenths", "(I)I"⟩
abbrev cX11_way : ByteArray := prog_1_method_27_code
def yX11_way : MethodName := ⟨RX11, "way", "(III)I"⟩
abbrev cX11_safe : ByteArray := prog_1_method_28_code
def yX11_safe : MethodName := ⟨RX11, "safe", "(I)I"⟩
abbrev cX11_lesson : ByteArray := prog_1_method_29_code
def yX11_lesson : MethodName := ⟨RX11, "lesson", "(III)I"⟩
abbrev cX11_learn : ByteArray := prog_1_method_30_code
def yX11_learn : MethodName := ⟨RX11, "learn", "(III)I"⟩
abbrev cX11_posts : ByteArray := prog_1_method_31_code
def yX11_posts : MethodName := ⟨RX11, "posts", "(IIII)I"⟩
abbrev cX11_voice : ByteArray := prog_1_method_32_code
def yX11_voice : MethodName := ⟨RX11, "voice", "(III)I"⟩
abbrev cX11_trace : ByteArray := prog_1_method_33_code
def yX11_trace : MethodName := ⟨RX11, "trace", "(I)I"⟩
abbrev cX11_sheet : ByteArray := prog_1_method_34_code
def yX11_sheet : MethodName := ⟨RX11, "sheet", "(III)I"⟩
abbrev cX11_put : ByteArray := prog_1_method_35_code
def yX11_put : MethodName := ⟨RX11, "put", "(III)I"⟩
abbrev cX11_move : ByteArray := prog_1_method_36_code
def yX11_move : MethodName := ⟨RX11, "move", "(IIIII)I"⟩
abbrev cX11_image : ByteArray := prog_1_method_37_code
def yX11_image : MethodName := ⟨RX11, "image", "()I"⟩
abbrev cX11_restore : ByteArray := prog_1_method_38_code
def yX11_restore : MethodName := ⟨RX11, "restore", "()I"⟩
abbrev cX11_tell : ByteArray := prog_1_method_39_code
def yX11_tell : MethodName := ⟨RX11, "tell", "(I)I"⟩
abbrev cX11_check : ByteArray := prog_1_method_40_code
def yX11_check : MethodName := ⟨RX11, "check", "(I)I"⟩
abbrev cX11_count : ByteArray := prog_1_method_41_code
def yX11_count : MethodName := ⟨RX11, "count", "(I)I"⟩
abbrev cX11_told : ByteArray := prog_1_method_42_code
def yX11_told : MethodName := ⟨RX11, "told", "(I)I"⟩
abbrev cX11_error : ByteArray := prog_1_method_43_code
def yX11_error : MethodName := ⟨RX11, "error", "(I)I"⟩
abbrev cX11_within : ByteArray := prog_1_method_44_code
def yX11_within : MethodName := ⟨RX11, "within", "(III)Z"⟩
abbrev cX11_isThingKind : ByteArray := prog_1_method_45_code
def yX11_isThingKind : MethodName := ⟨RX11, "isThingKind", "(I)Z"⟩
abbrev cX11_isWalkerKind : ByteArray := prog_1_method_46_code
def yX11_isWalkerKind : MethodName := ⟨RX11, "isWalkerKind", "(I)Z"⟩
abbrev cX11_isSheet : ByteArray := prog_1_method_47_code
def yX11_isSheet : MethodName := ⟨RX11, "isSheet", "(I)Z"⟩
abbrev cX11_isBits : ByteArray := prog_1_method_48_code
def yX11_isBits : MethodName := ⟨RX11, "isBits", "(I)Z"⟩
def RX12 : String := "ClickStreetModel"
def TX12 : u_T := fun k => match k with
  | 0 => ("ClickStreetModel", "now", "[I", true)
  | 1 => ("ClickStreetModel", "kept", "[I", true)
  | 2 => ("ClickStreetModel", "aside", "[I", true)
  | 3 => ("ClickStreetModel", "images", "I", false)
  | 4 => ("ClickStreetModel", "found", "[I", true)
  | 5 => ("ClickStreetModel", "EAST", "[I", true)
  | 6 => ("ClickStreetModel", "SOUTH", "[I", true)
  | 7 => ("ClickStreetModel", "unseen", "I", false)
  | 8 => ("ClickStreetModel", "NAMED", "[Ljava/lang/String;", true)
  | 9 => ("ClickStreetModel", "at", "I", false)
  | 10 => ("ClickStreetModel", "use", "I", false)
  | 11 => ("ClickStreetModel", "open", "I", false)
  | 12 => ("ClickStreetModel", "told", "I", false)
  | 13 => ("ClickStreetModel", "isWrong", "Z", false)
  | 14 => ("ClickStreetModel", "coded", "I", false)
  | 15 => ("ClickStreetModel", "code", "[I", true)
  | 16 => ("ClickStreetModel", "named", "[I", true)
  | 17 => ("ClickStreetModel", "pile", "[I", true)
  | 18 => ("ClickStreetModel", "tells", "[Z", true)
  | 19 => ("ClickStreetModel", "far", "[I", true)
  | 20 => ("ClickStreetModel", "row", "[I", true)
  | 21 => ("ClickStreetModel", "bestRow", "[I", true)
  | 22 => ("ClickStreetModel", "bestMany", "I", false)
  | 23 => ("ClickStreetModel", "bestMinutes", "I", false)
  | 24 => ("ClickStreetModel", "posted", "[I", true)
  | 25 => ("ClickStreetModel", "trace", "[I", true)
  | 26 => ("ClickStreetModel", "traced", "I", false)
  | 27 => ("ClickStreetModel", "speaker", "I", false)
  | 28 => ("ClickStreetModel", "isParted", "Z", false)
  | 29 => ("ClickStreetModel", "widths", "[I", true)
  | 30 => ("ClickStreetModel", "sizes", "[I", true)
  | 31 => ("ClickStreetModel", "numbers", "[I", true)
  | _ => ("ClickStreetModel", "carried", "[I", true)
def tyX12 : Nat → FieldType := fun k => match k with
  | 0 => .array .int
  | 1 => .array .int
  | 2 => .array .int
  | 3 => .int
  | 4 => .array .int
  | 5 => .array .int
  | 6 => .array .int
  | 7 => .int
  | 8 => .array (.object "java/lang/String")
  | 9 => .int
  | 10 => .int
  | 11 => .int
  | 12 => .int
  | 13 => .boolean
  | 14 => .int
  | 15 => .array .int
  | 16 => .array .int
  | 17 => .array .int
  | 18 => .array .boolean
  | 19 => .array .int
  | 20 => .array .int
  | 21 => .array .int
  | 22 => .int
  | 23 => .int
  | 24 => .array .int
  | 25 => .array .int
  | 26 => .int
  | 27 => .int
  | 28 => .boolean
  | 29 => .array .int
  | 30 => .array .int
  | 31 => .array .int
  | _ => .array .int
theorem nmX12 : ∀ a, a < 33 → ∀ b, b < 33 → a ≠ b → (TX12 a).2.1 ≠ (TX12 b).2.1 := by decide +kernel
theorem tyX12_ok : ∀ k, k < 33 → parseFieldDescriptor (TX12 k).2.2.1 = some (tyX12 k) := by decide +kernel
abbrev cX12_init : ByteArray := prog_14_method_1_code
def yX12_init : MethodName := ⟨RX12, "<init>", "()V"⟩
abbrev cX12_finding : ByteArray := prog_14_method_2_code
def yX12_finding : MethodName := ⟨RX12, "finding", "(I)I"⟩
abbrev cX12_within : ByteArray := prog_14_method_3_code
def yX12_within : MethodName := ⟨RX12, "within", "(III)Z"⟩
abbrev cX12_is : ByteArray := prog_14_method_4_code
def yX12_is : MethodName := ⟨RX12, "is", "(II)Z"⟩
abbrev cX12_isCell : ByteArray := prog_14_method_5_code
def yX12_isCell : MethodName := ⟨RX12, "isCell", "(I)Z"⟩
abbrev cX12_isSide : ByteArray := prog_14_method_6_code
def yX12_isSide : MethodName := ⟨RX12, "isSide", "(I)Z"⟩
abbrev cX12_become : ByteArray := prog_14_method_7_code
def yX12_become : MethodName := ⟨RX12, "become", "(II)I"⟩
abbrev cX12_thing : ByteArray := prog_14_method_8_code
def yX12_thing : MethodName := ⟨RX12, "thing", "(I)I"⟩
abbrev cX12_goer : ByteArray := prog_14_method_9_code
def yX12_goer : MethodName := ⟨RX12, "goer", "(I)I"⟩
abbrev cX12_on : ByteArray := prog_14_method_10_code
def yX12_on : MethodName := ⟨RX12, "on", "(III)I"⟩
abbrev cX12_in : ByteArray := prog_14_method_11_code
def yX12_in : MethodName := ⟨RX12, "in", "(I)I"⟩
abbrev cX12_isFree : ByteArray := prog_14_method_12_code
def yX12_isFree : MethodName := ⟨RX12, "isFree", "(I)Z"⟩
abbrev cX12_thing_ : ByteArray := prog_14_method_13_code
def yX12_thing_ : MethodName := ⟨RX12, "thing", "(II)I"⟩
abbrev cX12_comes : ByteArray := prog_14_method_14_code
def yX12_comes : MethodName := ⟨RX12, "comes", "(II)I"⟩
abbrev cX12_thingIs : ByteArray := prog_14_method_15_code
def yX12_thingIs : MethodName := ⟨RX12, "thingIs", "(II)I"⟩
abbrev cX12_moves : ByteArray := prog_14_method_16_code
def yX12_moves : MethodName := ⟨RX12, "moves", "(III)I"⟩
abbrev cX12_away : ByteArray := prog_14_method_17_code
def yX12_away : MethodName := ⟨RX12, "away", "(I)I"⟩
abbrev cX12_kind : ByteArray := prog_14_method_18_code
def yX12_kind : MethodName := ⟨RX12, "kind", "(III)I"⟩
abbrev cX12_at : ByteArray := prog_14_method_19_code
def yX12_at : MethodName := ⟨RX12, "at", "(I)I"⟩
abbrev cX12_lays : ByteArray := prog_14_method_20_code
def yX12_lays : MethodName := ⟨RX12, "lays", "(II)I"⟩
abbrev cX12_air : ByteArray := prog_14_method_21_code
def yX12_air : MethodName := ⟨RX12, "air", "(II)I"⟩
abbrev cX12_walker : ByteArray := prog_14_method_22_code
def yX12_walker : MethodName := ⟨RX12, "walker", "(III)I"⟩
abbrev cX12_above : ByteArray := prog_14_method_23_code
def yX12_above : MethodName := ⟨RX12, "above", "(I)I"⟩
abbrev cX12_isUnder : ByteArray := prog_14_method_24_code
def yX12_isUnder : MethodName := ⟨RX12, "isUnder", "(II)Z"⟩
abbrev cX12_reachOf : ByteArray := prog_14_method_25_code
def yX12_reachOf : MethodName := ⟨RX12, "reachOf", "(I)I"⟩
abbrev cX12_kindOf : ByteArray := prog_14_method_26_code
def yX12_kindOf : MethodName := ⟨RX12, "kindOf", "(I)I"⟩
abbrev cX12_reach : ByteArray := prog_14_method_27_code
def yX12_reach : MethodName := ⟨RX12, "reach", "(I)I"⟩
abbrev cX12_ears : ByteArray := prog_14_method_28_code
def yX12_ears : MethodName := ⟨RX12, "ears", "(I)I"⟩
abbrev cX12_walkerIs : ByteArray := prog_14_method_29_code
def yX12_walkerIs : MethodName := ⟨RX12, "walkerIs", "(II)I"⟩
abbrev cX12_as : ByteArray := prog_14_method_30_code
def yX12_as : MethodName := ⟨RX12, "as", "(II)I"⟩
abbrev cX12_habit : ByteArray := prog_14_method_31_code
def yX12_habit : MethodName := ⟨RX12, "habit", "(IIII)I"⟩
abbrev cX12_face : ByteArray := prog_14_method_32_code
def yX12_face : MethodName := ⟨RX12, "face", "(II)I"⟩
abbrev cX12_goes : ByteArray := prog_14_method_33_code
def yX12_goes : MethodName := ⟨RX12, "goes", "(IZ)I"⟩
abbrev cX12_feed : ByteArray := prog_14_method_34_code
def yX12_feed : MethodName := ⟨RX12, "feed", "(JI)I"⟩
abbrev cX12_here : ByteArray := prog_14_method_35_code
def yX12_here : MethodName := ⟨RX12, "here", "()I"⟩
abbrev cX12_takes : ByteArray := prog_14_method_36_code
def yX12_takes : MethodName := ⟨RX12, "takes", "(I)Z"⟩
abbrev cX12_codes : ByteArray := prog_14_method_37_code
def yX12_codes : MethodName := ⟨RX12, "codes", "(I)V"⟩
abbrev cX12_must : ByteArray := prog_14_method_38_code
def yX12_must : MethodName := ⟨RX12, "must", "(I)V"⟩
abbrev cX12_text : ByteArray := prog_14_method_39_code
def yX12_text : MethodName := ⟨RX12, "text", "()V"⟩
abbrev cX12_sum : ByteArray := prog_14_method_40_code
def yX12_sum : MethodName := ⟨RX12, "sum", "()V"⟩
abbrev cX12_term : ByteArray := prog_14_method_41_code
def yX12_term : MethodName := ⟨RX12, "term", "()V"⟩
abbrev cX12_nameOf : ByteArray := prog_14_method_42_code
def yX12_nameOf : MethodName := ⟨RX12, "nameOf", "(I)I"⟩
abbrev cX12_opens : ByteArray := prog_14_method_43_code
def yX12_opens : MethodName := ⟨RX12, "opens", "(I)V"⟩
abbrev cX12_one : ByteArray := prog_14_method_44_code
def yX12_one : MethodName := ⟨RX12, "one", "()V"⟩
abbrev cX12_text_ : ByteArray := prog_14_method_45_code
def yX12_text_ : MethodName := ⟨RX12, "text", "(I)I"⟩
abbrev cX12_done : ByteArray := prog_14_method_46_code
def yX12_done : MethodName := ⟨RX12, "done", "(III)I"⟩
abbrev cX12_hasText : ByteArray := prog_14_method_47_code
def yX12_hasText : MethodName := ⟨RX12, "hasText", "(I)Z"⟩
abbrev cX12_given : ByteArray := prog_14_method_48_code
def yX12_given : MethodName := ⟨RX12, "given", "(I)I"⟩
abbrev cX12_late : ByteArray := prog_14_method_49_code
def yX12_late : MethodName := ⟨RX12, "late", "(II)I"⟩
abbrev cX12_strength : ByteArray := prog_14_method_50_code
def yX12_strength : MethodName := ⟨RX12, "strength", "(IIII)I"⟩
abbrev cX12_isHeard : ByteArray := prog_14_method_51_code
def yX12_isHeard : MethodName := ⟨RX12, "isHeard", "(IIIIII)Z"⟩
abbrev cX12_echoFrom : ByteArray := prog_14_method_52_code
def yX12_echoFrom : MethodName := ⟨RX12, "echoFrom", "(III)I"⟩
abbrev cX12_kindIn : ByteArray := prog_14_method_53_code
def yX12_kindIn : MethodName := ⟨RX12, "kindIn", "(I)I"⟩
abbrev cX12_isClick : ByteArray := prog_14_method_54_code
def yX12_isClick : MethodName := ⟨RX12, "isClick", "(I)Z"⟩
abbrev cX12_ear : ByteArray := prog_14_method_55_code
def yX12_ear : MethodName := ⟨RX12, "ear", "(IIII)I"⟩
abbrev cX12_echo : ByteArray := prog_14_method_56_code
def yX12_echo : MethodName := ⟨RX12, "echo", "(IIII)I"⟩
abbrev cX12_yes : ByteArray := prog_14_method_57_code
def yX12_yes : MethodName := ⟨RX12, "yes", "(II)I"⟩
abbrev cX12_no : ByteArray := prog_14_method_58_code
def yX12_no : MethodName := ⟨RX12, "no", "(II)I"⟩
abbrev cX12_more : ByteArray := prog_14_method_59_code
def yX12_more : MethodName := ⟨RX12, "more", "(II)V"⟩
abbrev cX12_heardFrom : ByteArray := prog_14_method_60_code
def yX12_heardFrom : MethodName := ⟨RX12, "heardFrom", "(III)I"⟩
abbrev cX12_clicks : ByteArray := prog_14_method_61_code
def yX12_clicks : MethodName := ⟨RX12, "clicks", "(I)I"⟩
abbrev cX12_click : ByteArray := prog_14_method_62_code
def yX12_click : MethodName := ⟨RX12, "click", "(I)I"⟩
abbrev cX12_held : ByteArray := prog_14_method_63_code
def yX12_held : MethodName := ⟨RX12, "held", "(II)I"⟩
abbrev cX12_head : ByteArray := prog_14_method_64_code
def yX12_head : MethodName := ⟨RX12, "head", "(III)I"⟩
abbrev cX12_heads : ByteArray := prog_14_method_65_code
def yX12_heads : MethodName := ⟨RX12, "heads", "(II)I"⟩
abbrev cX12_alike : ByteArray := prog_14_method_66_code
def yX12_alike : MethodName := ⟨RX12, "alike", "(IIIII)I"⟩
abbrev cX12_least : ByteArray := prog_14_method_67_code
def yX12_least : MethodName := ⟨RX12, "least", "(IIII)I"⟩
abbrev cX12_farthest : ByteArray := prog_14_method_68_code
def yX12_farthest : MethodName := ⟨RX12, "farthest", "(III)I"⟩
abbrev cX12_findTold : ByteArray := prog_14_method_69_code
def yX12_findTold : MethodName := ⟨RX12, "findTold", "(III)V"⟩
abbrev cX12_bits : ByteArray := prog_14_method_70_code
def yX12_bits : MethodName := ⟨RX12, "bits", "(I)I"⟩
abbrev cX12_toldBy : ByteArray := prog_14_method_71_code
def yX12_toldBy : MethodName := ⟨RX12, "toldBy", "(I)I"⟩
abbrev cX12_areCells : ByteArray := prog_14_method_72_code
def yX12_areCells : MethodName := ⟨RX12, "areCells", "(IZ)Z"⟩
abbrev cX12_spots : ByteArray := prog_14_method_73_code
def yX12_spots : MethodName := ⟨RX12, "spots", "(IIII)I"⟩
abbrev cX12_thingGoes : ByteArray := prog_14_method_74_code
def yX12_thingGoes : MethodName := ⟨RX12, "thingGoes", "(I)V"⟩
abbrev cX12_fullAhead : ByteArray := prog_14_method_75_code
def yX12_fullAhead : MethodName := ⟨RX12, "fullAhead", "(II)I"⟩
abbrev cX12_habitOf : ByteArray := prog_14_method_76_code
def yX12_habitOf : MethodName := ⟨RX12, "habitOf", "(I)I"⟩
abbrev cX12_goesOn : ByteArray := prog_14_method_77_code
def yX12_goesOn : MethodName := ⟨RX12, "goesOn", "(I)V"⟩
abbrev cX12_walkerGoes : ByteArray := prog_14_method_78_code
def yX12_walkerGoes : MethodName := ⟨RX12, "walkerGoes", "(I)V"⟩
abbrev cX12_tenth : ByteArray := prog_14_method_79_code
def yX12_tenth : MethodName := ⟨RX12, "tenth", "()V"⟩
abbrev cX12_tenths : ByteArray := prog_14_method_80_code
def yX12_tenths : MethodName := ⟨RX12, "tenths", "(I)I"⟩
abbrev cX12_cost : ByteArray := prog_14_method_81_code
def yX12_cost : MethodName := ⟨RX12, "cost", "(II)I"⟩
abbrev cX12_findFar : ByteArray := prog_14_method_82_code
def yX12_findFar : MethodName := ⟨RX12, "findFar", "(II)V"⟩
abbrev cX12_way : ByteArray := prog_14_method_83_code
def yX12_way : MethodName := ⟨RX12, "way", "(III)I"⟩
abbrev cX12_safe : ByteArray := prog_14_method_84_code
def yX12_safe : MethodName := ⟨RX12, "safe", "(I)I"⟩
abbrev cX12_lesson : ByteArray := prog_14_method_85_code
def yX12_lesson : MethodName := ⟨RX12, "lesson", "(III)I"⟩
abbrev cX12_tryRows : ByteArray := prog_14_method_86_code
def yX12_tryRows : MethodName := ⟨RX12, "tryRows", "(IIIII)V"⟩
abbrev cX12_learn : ByteArray := prog_14_method_87_code
def yX12_learn : MethodName := ⟨RX12, "learn", "(III)I"⟩
abbrev cX12_isPost : ByteArray := prog_14_method_88_code
def yX12_isPost : MethodName := ⟨RX12, "isPost", "(III)Z"⟩
abbrev cX12_posts : ByteArray := prog_14_method_89_code
def yX12_posts : MethodName := ⟨RX12, "posts", "(IIII)I"⟩
abbrev cX12_began : ByteArray := prog_14_method_90_code
def yX12_began : MethodName := ⟨RX12, "began", "(I)V"⟩
abbrev cX12_hasOwn : ByteArray := prog_14_method_91_code
def yX12_hasOwn : MethodName := ⟨RX12, "hasOwn", "(II)Z"⟩
abbrev cX12_voiced : ByteArray := prog_14_method_92_code
def yX12_voiced : MethodName := ⟨RX12, "voiced", "(II)I"⟩
abbrev cX12_bodyFrom : ByteArray := prog_14_method_93_code
def yX12_bodyFrom : MethodName := ⟨RX12, "bodyFrom", "(III)I"⟩
abbrev cX12_body : ByteArray := prog_14_method_94_code
def yX12_body : MethodName := ⟨RX12, "body", "(III)I"⟩
abbrev cX12_voice : ByteArray := prog_14_method_95_code
def yX12_voice : MethodName := ⟨RX12, "voice", "(III)I"⟩
abbrev cX12_trace : ByteArray := prog_14_method_96_code
def yX12_trace : MethodName := ⟨RX12, "trace", "(I)I"⟩
abbrev cX12_isSheet : ByteArray := prog_14_method_97_code
def yX12_isSheet : MethodName := ⟨RX12, "isSheet", "(I)Z"⟩
abbrev cX12_sheet : ByteArray := prog_14_method_98_code
def yX12_sheet : MethodName := ⟨RX12, "sheet", "(III)I"⟩
abbrev cX12_put : ByteArray := prog_14_method_99_code
def yX12_put : MethodName := ⟨RX12, "put", "(III)I"⟩
abbrev cX12_move : ByteArray := prog_14_method_100_code
def yX12_move : MethodName := ⟨RX12, "move", "(IIIII)I"⟩
abbrev cX12_copy : ByteArray := prog_14_method_101_code
def yX12_copy : MethodName := ⟨RX12, "copy", "([I[I)V"⟩
abbrev cX12_image : ByteArray := prog_14_method_102_code
def yX12_image : MethodName := ⟨RX12, "image", "()I"⟩
abbrev cX12_restore : ByteArray := prog_14_method_103_code
def yX12_restore : MethodName := ⟨RX12, "restore", "()I"⟩
abbrev cX12_tell : ByteArray := prog_14_method_104_code
def yX12_tell : MethodName := ⟨RX12, "tell", "(I)I"⟩
abbrev cX12_check : ByteArray := prog_14_method_105_code
def yX12_check : MethodName := ⟨RX12, "check", "(I)I"⟩
abbrev cX12_sumOf : ByteArray := prog_14_method_106_code
def yX12_sumOf : MethodName := ⟨RX12, "sumOf", "(I)I"⟩
abbrev cX12_count : ByteArray := prog_14_method_107_code
def yX12_count : MethodName := ⟨RX12, "count", "(I)I"⟩
abbrev cX12_told : ByteArray := prog_14_method_108_code
def yX12_told : MethodName := ⟨RX12, "told", "(I)I"⟩
def RL : String := "ClickStreetLaw"
def BASE : List Cond := lw_tbl.filter goodWord
def wsO (y : MethodName) (b : ByteArray) (n : Nat) (r : Option FieldType) : List Cond := .code y b n r :: BASE
abbrev classes : List vw_C := [(RX0, TX0, 6), (RX1, TX1, 3), (RX2, TX2, 7), (RX3, TX3, 9), (RX4, TX4, 7), (RX5, TX5, 2), (RX6, TX6, 3), (RX7, TX7, 6), (RX8, TX8, 6), (RX9, TX9, 11), (RX10, TX10, 8), (RX11, TX11, 9), (RX12, TX12, 33)]
def NFs : List (String × Nat × String × String × String × String) := [(RX10, 72, "ClickStreet$Street", "occupants", "[I", "ClickStreet"), (RX11, 124, "ClickStreet$Street", "occupants", "[I", "ClickStreet"), (RX11, 99, "ClickStreet$Street", "kinds", "[I", "ClickStreet"), (RX11, 102, "ClickStreet$Street", "cells", "[I", "ClickStreet"), (RX11, 105, "ClickStreet$Street", "sides", "[I", "ClickStreet"), (RX11, 108, "ClickStreet$Street", "steps", "[I", "ClickStreet"), (RX11, 210, "ClickStreet$Laws", "texts", "[LClickStreet$Formula;", "ClickStreet"), (RX4, 65, "ClickStreet$Row", "size", "I", "ClickStreet"), (RX3, 70, "ClickStreet$Row", "size", "I", "ClickStreet"), (RX11, 205, "ClickStreet$Row", "size", "I", "ClickStreet"), (RX11, 391, "ClickStreet$Lessons", "size", "I", "ClickStreet"), (RX11, 328, "ClickStreet$Lessons", "best", "LClickStreet$Row;", "ClickStreet"), (RX11, 325, "ClickStreet$Lessons", "fewestMinutes", "I", "ClickStreet"), (RX8, 38, "ClickStreet$Walker", "kind", "I", "ClickStreet"), (RX0, 56, "ClickStreet$Walker", "cell", "I", "ClickStreet"), (RX10, 109, "ClickStreet$Walker", "cell", "I", "ClickStreet"), (RX11, 229, "ClickStreet$Walker", "cell", "I", "ClickStreet"), (RX10, 119, "ClickStreet$Walker", "side", "I", "ClickStreet"), (RX11, 185, "ClickStreet$Walker", "side", "I", "ClickStreet"), (RX8, 41, "ClickStreet$Walker", "pitch", "I", "ClickStreet"), (RX11, 176, "ClickStreet$Walker", "pitch", "I", "ClickStreet"), (RX11, 179, "ClickStreet$Walker", "loudness", "I", "ClickStreet"), (RX11, 182, "ClickStreet$Walker", "every", "I", "ClickStreet"), (RX10, 151, "ClickStreet$Walker", "every", "I", "ClickStreet"), (RX10, 144, "ClickStreet$Walker", "isGoing", "Z", "ClickStreet"), (RX11, 188, "ClickStreet$Walker", "isGoing", "Z", "ClickStreet"), (RX10, 66, "ClickStreet$Walker", "bumps", "I", "ClickStreet"), (RX10, 69, "ClickStreet$Walker", "clicks", "I", "ClickStreet"), (RX11, 242, "ClickStreet$Walker", "yes", "[I", "ClickStreet"), (RX11, 245, "ClickStreet$Walker", "no", "[I", "ClickStreet"), (RX11, 71, "ClickStreet$World", "street", "LClickStreet$Street;", "ClickStreet"), (RX0, 70, "ClickStreet$World", "street", "LClickStreet$Street;", "ClickStreet"), (RX11, 114, "ClickStreet$World", "laws", "LClickStreet$Laws;", "ClickStreet"), (RX0, 126, "ClickStreet$World", "laws", "LClickStreet$Laws;", "ClickStreet"), (RX11, 313, "ClickStreet$World", "lessons", "LClickStreet$Lessons;", "ClickStreet"), (RX11, 192, "ClickStreet$World", "tape", "LClickStreet$Row;", "ClickStreet"), (RX11, 385, "ClickStreet$World", "waiting", "LClickStreet$Row;", "ClickStreet"), (RX0, 97, "ClickStreet$World", "walkers", "[LClickStreet$Walker;", "ClickStreet"), (RX11, 157, "ClickStreet$World", "walkers", "[LClickStreet$Walker;", "ClickStreet"), (RX11, 148, "ClickStreet$World", "walkerCount", "I", "ClickStreet"), (RX11, 290, "ClickStreet$World", "now", "I", "ClickStreet"), (RX11, 214, "ClickStreet$Reader", "draft", "LClickStreet$Formula;", "ClickStreet"), (RX11, 284, "ClickStreet$Finder", "most", "I", "ClickStreet"), (RX11, 287, "ClickStreet$Finder", "places", "I", "ClickStreet"), (RX11, 353, "ClickStreet$Voices", "trace", "LClickStreet$Row;", "ClickStreet"), (RX11, 347, "ClickStreet$Voices", "isParted", "Z", "ClickStreet"), (RX11, 133, "ClickStreet$Sheet", "bits", "I", "ClickStreet"), (RX0, 65, "ClickStreet$Sheet", "size", "I", "ClickStreet"), (RX11, 136, "ClickStreet$Sheet", "size", "I", "ClickStreet"), (RX11, 373, "ClickStreet$Sheet", "numbers", "[I", "ClickStreet")]
def NMs : List (String × Nat × MethodName × String) := [(RX2, 37, yX1_init, "ClickStreet"), (RX10, 25, yX3_init, "ClickStreet"), (RX10, 57, yX9_init, "ClickStreet"), (RX11, 34, yX4_init, "ClickStreet"), (RX4, 9, yX1_init, "ClickStreet"), (RX11, 41, yX0_init, "ClickStreet"), (RX11, 48, yX8_init, "ClickStreet"), (RX11, 57, yX6_init, "ClickStreet"), (RX2, 38, yX11_within, "ClickStreet")]
def NSs : List (String × Nat × String) := [(RX4, 25, ""), (RX4, 44, "loyp"), (RX4, 48, "snt"), (RX4, 50, "flrbt"), (RX12, 34, "loyp"), (RX12, 36, "snt"), (RX12, 38, "flrbt")]
def AOs : List String := ["ClickStreet$Formula", "ClickStreet$Walker", "ClickStreet$Sheet", "java/lang/String"]
abbrev TYS (cy : Nat → ClassId) : List (ClassId × FieldType) := [(cy 0, .int), (cy 1, .boolean), (cy 2, .long), (cy 3, .object "ClickStreet$Formula"), (cy 4, .object "ClickStreet$Walker"), (cy 5, .object "ClickStreet$Sheet"), (cy 6, .object "java/lang/String")]
end
section
/-! the base: one word list for every method, the environment that every contract carries, starts and calls in one row each -/
theorem bmem {w : Cond} (i : Nat) (h : lw_tbl[i]? = some w) (g : goodWord w = true) : w ∈ BASE := List.mem_filter.mpr ⟨List.mem_of_getElem? h, g⟩
theorem b_in {L : List Cond} (h : ∀ w ∈ L, w ∈ BASE) : GoodIn BASE L := fun w hw => ⟨h w hw, good_of_word (List.mem_filter.mp (h w hw)).2⟩
def KS (y : MethodName) (b : ByteArray) (n : Nat) (r : Option FieldType) (k : Nat) : Prop := Cond.static y ∈ BASE ∧ Cond.initialized y.cls ∈ BASE ∧ Cond.code y b n r ∈ BASE ∧ y.cls ≠ "java/lang/invoke/MethodHandle" ∧ y.cls ≠ "java/lang/invoke/VarHandle" ∧ (parseMethodDescriptor y.desc).map (fun d => d.parameters.length) = some k
def KV (y : MethodName) (b : ByteArray) (n : Nat) (r : Option FieldType) (k : Nat) : Prop := Cond.instanceMethod y ∈ BASE ∧ Cond.selects y.cls y y ∈ BASE ∧ Cond.initialized y.cls ∈ BASE ∧ Cond.code y b n r ∈ BASE ∧ y.cls ≠ "java/lang/invoke/MethodHandle" ∧ y.cls ≠ "java/lang/invoke/VarHandle" ∧ (parseMethodDescriptor y.desc).map (fun d => d.parameters.length) = some k
def KI (y : MethodName) (b : ByteArray) (n : Nat) (k : Nat) : Prop := Cond.instanceMethod y ∈ BASE ∧ y.name = "<init>" ∧ Cond.initialized y.cls ∈ BASE ∧ Cond.code y b n none ∈ BASE ∧ y.cls ≠ "java/lang/invoke/MethodHandle" ∧ y.cls ≠ "java/lang/invoke/VarHandle" ∧ (parseMethodDescriptor y.desc).map (fun d => d.parameters.length) = some k
theorem wsO_in {y : MethodName} {b : ByteArray} {n : Nat} {r : Option FieldType} (h : Cond.code y b n r ∈ BASE) : ∀ w ∈ wsO y b n r, w ∈ BASE := fun w hw => (List.mem_cons.mp hw).elim (fun e => e ▸ h) id
theorem gS {own : String} {idx : Nat} {y : MethodName} {b : ByteArray} {n : Nat} {r : Option FieldType} {k : Nat} (h : KS y b n r k) (hl : Cond.methodLink own idx y ∈ BASE) : GoodIn BASE (va_wsS own idx y (wsO y b n r)) := b_in fun w hw => by
  rcases List.mem_append.mp hw with q | q
  · simp only [List.mem_cons, List.not_mem_nil, or_false] at q
    rcases q with rfl | rfl | rfl
    · exact hl
    · exact h.1
    · exact h.2.1
  · exact wsO_in h.2.2.1 w q
theorem gV {own : String} {idx : Nat} {y : MethodName} {b : ByteArray} {n : Nat} {r : Option FieldType} {k : Nat} (h : KV y b n r k) (hl : Cond.methodLink own idx y ∈ BASE) : GoodIn BASE (wsV own idx y.cls y (wsO y b n r)) := b_in fun w hw => by
  rcases List.mem_append.mp hw with q | q
  · simp only [List.mem_cons, List.not_mem_nil, or_false] at q
    rcases q with rfl | rfl | rfl | rfl
    · exact hl
    · exact h.1
    · exact h.2.1
    · exact h.2.2.1
  · exact wsO_in h.2.2.2.1 w q
/-- what holds of the machine's tables all the way -/
def EN (G : va_G) (cy : Nat → ClassId) (sk : Nat → Nat) (U : State) : Prop :=
  va_K G classes (TYS cy) U ∧ (∀ q ∈ NFs, va_Nw (.fieldLinkNest q.1 q.2.1 q.2.2.1 q.2.2.2.1 q.2.2.2.2.1 q.2.2.2.2.2) U) ∧ (∀ q ∈ NMs, va_Nw (.methodLinkNest q.1 q.2.1 q.2.2.1 q.2.2.2) U) ∧ (∀ (k : Nat) (q : String × Nat × String), NSs[k]? = some q → vk_R q.1 q.2.1 q.2.2 (sk k) U) ∧ ∀ C ∈ AOs, va_AO C U
theorem EN.same {G : va_G} {cy : Nat → ClassId} {sk : Nat → Nat} {u U : State} (hv : U.vm = u.vm) (h : EN G cy sk u) : EN G cy sk U := by
  have hA : u.vm.Alike U.vm := by rw [hv]; exact Vm.Alike.refl _
  exact ⟨va_K.moved hA h.1, fun q hq => va_Nw.same rfl hv.symm (h.2.1 q hq), fun q hq => va_Nw.same rfl hv.symm (h.2.2.1 q hq), fun k q hq => vk_R.same hv (h.2.2.2.1 k q hq), fun C hC => va_AO.moved hA (h.2.2.2.2 C hC)⟩
theorem EN.warm {G : va_G} {cy : Nat → ClassId} {sk : Nat → Nat} {s U : State} (hW : s.WarmedH U.vm) (h : EN G cy sk s) : EN G cy sk U :=
  ⟨va_K.moved hW.alike h.1, fun q hq => va_Nw.warmF hW (h.2.1 q hq), fun q hq => va_Nw.warmM hW (h.2.2.1 q hq), fun k q hq => vk_R.warm hW (h.2.2.2.1 k q hq), fun C hC => va_AO.moved hW.alike (h.2.2.2.2 C hC)⟩
def PR (G : va_G) (cy : Nat → ClassId) (sk : Nat → Nat) (sz : Nat) (ws : va_W) (U : State) : Prop := U.heap.size = sz ∧ va_P G classes ws U.heap ∧ EN G cy sk U ∧ va_D (fun _ => True) ws
theorem PR_blind {av : List Value} {G : va_G} {cy : Nat → ClassId} {sk : Nat → Nat} {sz : Nat} {ws : va_W} : FrameBlind (va_Pc av (PR G cy sk sz ws)) := fun a U g mk h => ⟨h.1, h.2.1, h.2.2.1, EN.same (u := U) (U := U.calling g mk a) rfl h.2.2.2.1, h.2.2.2.2⟩
theorem PR_of {av : List Value} {G : va_G} {cy : Nat → ClassId} {sk : Nat → Nat} {H : Heap} {ws : va_W} {A : Nat → Prop} {s : State} (hP : va_P G classes ws H) (hD : va_D A ws) (hE : EN G cy sk s) : ∀ U : State, U.heap = H → s.WarmedH U.vm → va_Pc av (PR G cy sk H.size ws) av.toArray U :=
  fun U hU hW => ⟨rfl, by rw [hU], by rw [hU]; exact hP, hE.warm hW, hD.weaken (fun _ _ _ _ => trivial)⟩
theorem P_cut {G : va_G} {cl : List vw_C} {ws wc : va_W} {H : Heap} (h : va_P G cl ws H) (is : List Nat) (hC : is.map (fun i => ws[i]?) = wc.map some) : va_P G cl wc H := fun k q hk => by
  have h1 : (is.map (fun i => ws[i]?))[k]? = some (some q) := by rw [hC, List.getElem?_map, hk]; rfl
  rw [List.getElem?_map] at h1
  cases hi : is[k]? with
  | none => rw [hi] at h1; cases h1
  | some i => rw [hi] at h1; exact h i q (Option.some.inj h1)
theorem P_nil {G : va_G} {cl : List vw_C} {H : Heap} : va_P G cl [] H := fun k q h => by simp at h
theorem D_nil {A : Nat → Prop} : va_D A [] := ⟨fun i j p q h => by simp at h, fun k q h => by simp at h⟩
/-- the start of every contract's proof -/
theorem mt {l : Launch} {y : MethodName} {b : ByteArray} {n : Nat} {r : Option FieldType} {rm : Room} {G : va_G} {cy : Nat → ClassId} {sk : Nat → Nat} {sz : Nat} {WS : va_W} {av : List Value} {Qc : Array Value → State → Outcome → State → Prop} {mc ms : Nat} {free : Addr → Prop} (hy : plainName y.cls = true) (hn : (lg_sl av).length ≤ n)
    (body : ∀ (p : Program) (e : Env) (s : State) (m : MethodId) (below : List Frame) (meth : Method) (c : Code) (ls : Array Slot), p.tables.exec = Jvm.exec → c.code = b → meth.sig.returnType = r → c.maxLocals = n → (∀ w ∈ BASE, w.before av.toArray s = true) → s.vm.findClass y.cls = some m.cls → meth.locks = false → meth.name = y.name → s.heap.size = sz → va_P G classes WS s.heap → EN G cy sk s → va_D (fun _ => True) WS → lv_has ls n (lv_args 0 av) →
      W p l e (headSpec (wsO y b n r) rm).room s m av.toArray below meth c s.heap [] 0 0 (MQ below Qc av.toArray s mc ms free) (F0 m 0 ls [])) : Met l y (wsO y b n r) rm (va_Pc av (PR G cy sk sz WS)) Qc mc ms free := by
  refine Met.ofW (cc := b) (maxL := n) (ret := r) (ws' := BASE) hy rfl ?_
  intro p e s m args below meth c s₁ B hml hv
  obtain ⟨rfl, hsz, hP, hE, hD⟩ := hv
  have hts := atoms_spec (ws := wsO y b n r) B.pre
  rw [lg_entry_eq]
  exact body p e s m below meth c _ B.exec B.bytes B.returns hml (fun w hw => hts w (List.mem_cons_of_mem _ hw)) (findClass_of_methodNamed B.named) B.notSynchronized (name_of_methodNamed B.named B.method).1 hsz hP hE hD (lv_entry av hn)
section BASECALLS
variable {p : Program} {l : Launch} {e : Env} {R : Room} {s : State} {m : MethodId} {args : Array Value} {below : List Frame} {meth : Method} {c : Code} {H H0 : Heap} {locs : List Loc} {cells slots : Nat} {Q : State → Prop}
variable {cc : ByteArray} {pc : Nat} {ls : Array Slot} {rest st As : List Value} {G : va_G} {cy : Nat → ClassId} {sk : Nat → Nat} {ws wc wr : va_W} {A : Nat → Prop} {own : String} {idx mc ms nL n k : Nat} {y : MethodName} {b : ByteArray} {r : Option FieldType} {rm : Room} {a ci : Nat} {fs : List Value} {host : String}
theorem tp {x v : Int32} (h : x = v) (kk : W p l e R s m args below meth c H locs cells slots Q (F0 m pc ls (.int v :: rest))) : W p l e R s m args below meth c H locs cells slots Q (F0 m pc ls (.int x :: rest)) := h ▸ kk
theorem tpl {x v : Int64} (h : x = v) (kk : W p l e R s m args below meth c H locs cells slots Q (F0 m pc ls (.long v :: rest))) : W p l e R s m args below meth c H locs cells slots Q (F0 m pc ls (.long x :: rest)) := h ▸ kk
theorem recv0 (hE : EN G cy sk s) (hP : va_P G classes ws H) (q0 : Nat) (he : ws[q0]? = some (a, .inr (ci, fs))) {q : vw_C} (hc : classes[ci]? = some q) (hq : q.1 = y.cls) : ∃ cell : Cell, H[a]? = some cell ∧ cell.vm.isStatics = false ∧ s.vm.findClass y.cls = some cell.cls := hq ▸ va_recv hE.1 hP hc he
/-- a reader is called: int, static -/
theorem rS {post : Int32 → Prop} (hx : p.tables.exec = Jvm.exec) (hb : c.code = cc) (hml : c.maxLocals = nL) (hown : s.vm.findClass own = some m.cls) (hts : ∀ w ∈ BASE, w.before args s = true) (hE : EN G cy sk s) (hM : Met l y (wsO y b n r) rm (va_Pc As (PR G cy sk H.size wc)) (vp_Si post) 0 0 (fun _ => False)) (hy : KS y b n r k) (hl : Cond.methodLink own idx y ∈ BASE)
    (hrc : rm.cells = 0) (hrs : rm.slots = 0) (hR : rm.frames + 1 ≤ R.frames ∧ 8 + (n + 11) + rm.locals ≤ R.locals) (hP : va_P G classes ws H) (hD : va_D A ws) (is : List Nat) (hnd : va_nd is = true) (hC : is.map (fun i => ws[i]?) = wc.map some) (hst : st = As.reverse ++ rest) (hn : As.length = k) (hls : ls.size = nL) (hW : (rest.map fun v => v.category).sum ≤ 8) (hdg : decode cc pc = .ok (.invokestatic idx, 3)) (hf : cells ≤ R.cells ∧ slots ≤ R.slots)
    (kk : ∀ r : Int32, post r → W p l e R s m args below meth c H locs cells slots Q (F0 m (pc + 3) ls (.int r :: rest))) : W p l e R s m args below meth c H locs cells slots Q (F0 m pc ls st) :=
  vp_callSi (W.runS ⟨hx, hb, hml, hown, hts⟩ hM (va_cwS k hts (gS hy hl) rfl hrc hrs hy.2.2.2 hR) ⟨PR_blind, PR_of (P_cut hP is hC) (hD.sub is hnd hC) hE⟩ rfl hn hls hst (lv_room hW) hdg hf) kk
/-- a reader is called: int, virtual -/
theorem rV {post : Int32 → Prop} (hx : p.tables.exec = Jvm.exec) (hb : c.code = cc) (hml : c.maxLocals = nL) (hown : s.vm.findClass own = some m.cls) (hts : ∀ w ∈ BASE, w.before args s = true) (hE : EN G cy sk s) (hM : Met l y (wsO y b n r) rm (va_Pc (.ref a :: As) (PR G cy sk H.size wc)) (vp_Si post) 0 0 (fun _ => False)) (hy : KV y b n r k) (hl : Cond.methodLink own idx y ∈ BASE)
    (hrc : rm.cells = 0) (hrs : rm.slots = 0) (hR : rm.frames + 1 ≤ R.frames ∧ 8 + (n + 11) + rm.locals ≤ R.locals) (hP : va_P G classes ws H) (hD : va_D A ws) (q0 : Nat) (he : ws[q0]? = some (a, .inr (ci, fs))) {q : vw_C} (hc : classes[ci]? = some q) (hq : q.1 = y.cls) (is : List Nat) (hnd : va_nd is = true) (hC : is.map (fun i => ws[i]?) = wc.map some) (hst : st = As.reverse ++ .ref a :: rest) (hn : As.length = k) (hls : ls.size = nL) (hW : (rest.map fun v => v.category).sum ≤ 8) (hdg : decode cc pc = .ok (.invokevirtual idx, 3)) (hf : cells ≤ R.cells ∧ slots ≤ R.slots)
    (kk : ∀ r : Int32, post r → W p l e R s m args below meth c H locs cells slots Q (F0 m (pc + 3) ls (.int r :: rest))) : W p l e R s m args below meth c H locs cells slots Q (F0 m pc ls st) :=
  vp_callSi (W.runV ⟨hx, hb, hml, hown, hts⟩ hM (cwV k hts (gV hy hl) rfl hrc hrs ⟨rfl, hy.2.2.2.2⟩ hR) ⟨PR_blind, recv0 hE hP q0 he hc hq, PR_of (P_cut hP is hC) (hD.sub is hnd hC) hE⟩ rfl hn hls hst (lv_room hW) hdg hf) kk
/-- a reader is called: void, virtual -/
theorem rVv {post : Unit → Prop} (hx : p.tables.exec = Jvm.exec) (hb : c.code = cc) (hml : c.maxLocals = nL) (hown : s.vm.findClass own = some m.cls) (hts : ∀ w ∈ BASE, w.before args s = true) (hE : EN G cy sk s) (hM : Met l y (wsO y b n r) rm (va_Pc (.ref a :: As) (PR G cy sk H.size wc)) (va_Sv post) 0 0 (fun _ => False)) (hy : KV y b n r k) (hl : Cond.methodLink own idx y ∈ BASE)
    (hrc : rm.cells = 0) (hrs : rm.slots = 0) (hR : rm.frames + 1 ≤ R.frames ∧ 8 + (n + 11) + rm.locals ≤ R.locals) (hP : va_P G classes ws H) (hD : va_D A ws) (q0 : Nat) (he : ws[q0]? = some (a, .inr (ci, fs))) {q : vw_C} (hc : classes[ci]? = some q) (hq : q.1 = y.cls) (is : List Nat) (hnd : va_nd is = true) (hC : is.map (fun i => ws[i]?) = wc.map some) (hst : st = As.reverse ++ .ref a :: rest) (hn : As.length = k) (hls : ls.size = nL) (hW : (rest.map fun v => v.category).sum ≤ 8) (hdg : decode cc pc = .ok (.invokevirtual idx, 3)) (hf : cells ≤ R.cells ∧ slots ≤ R.slots)
    (kk : post () → W p l e R s m args below meth c H locs cells slots Q (F0 m (pc + 3) ls rest)) : W p l e R s m args below meth c H locs cells slots Q (F0 m pc ls st) :=
  va_csv (W.runV ⟨hx, hb, hml, hown, hts⟩ hM (cwV k hts (gV hy hl) rfl hrc hrs ⟨rfl, hy.2.2.2.2⟩ hR) ⟨PR_blind, recv0 hE hP q0 he hc hq, PR_of (P_cut hP is hC) (hD.sub is hnd hC) hE⟩ rfl hn hls hst (lv_room hW) hdg hf) kk
/-- what stands behind a writer's call: the rest is unchanged, what the callee gives back is joined -/
def AFT (G : va_G) (A : Nat → Prop) (wr : va_W) (B : Heap → Prop) (wc : va_W) (z : Nat) (H1 : Heap) : Prop := B H1 ∧ (∀ w1 : va_W, va_P G classes w1 H1 → va_D (va_A wc z) w1 → va_P G classes (wr ++ w1) H1 ∧ va_D A (wr ++ w1)) ∧ va_P G classes wr H1 ∧ va_D A wr
theorem aft (hP : va_P G classes ws H) (hD : va_D A ws) (is ir : List Nat) (hC : is.map (fun i => ws[i]?) = wc.map some) (hR : ir.map (fun i => ws[i]?) = wr.map some) (hnr : va_nd ir = true) (hdis : ∀ i ∈ ir, i ∉ is) (hF : ∀ q, va_A wc H.size q → A q) {B : Heap → Prop} {H1 : Heap} (hB : B H1) (hk : ∀ q : Nat, q < H.size → ¬ va_A wc H.size q → H1[q]? = H[q]?) : AFT G A wr B wc H.size H1 := by
  refine ⟨hB, fun w1 h1 h2 => va_join hP hD is ir hC hR hnr hdis hk hF h1 h2, ?_⟩
  have := va_join hP hD is ir hC hR hnr hdis hk hF (w1 := []) P_nil D_nil
  rw [List.append_nil] at this
  exact this
/-- a writer is called: int, virtual -/
theorem wV {post : Int32 → Prop} {B : Heap → Prop} (hx : p.tables.exec = Jvm.exec) (hb : c.code = cc) (hml : c.maxLocals = nL) (hown : s.vm.findClass own = some m.cls) (hts : ∀ w ∈ BASE, w.before args s = true) (hE : EN G cy sk s) (hM : Met l y (wsO y b n r) rm (va_Pc (.ref a :: As) (PR G cy sk H.size wc)) (va_Qi (fun r (_ : Unit) => post r) (fun _ t => B t.heap) (va_A wc H.size)) mc ms (va_A wc H.size)) (hy : KV y b n r k) (hl : Cond.methodLink own idx y ∈ BASE)
    (hrc : rm.cells = mc) (hrs : rm.slots = ms) (hR : rm.frames + 1 ≤ R.frames ∧ 8 + (n + 11) + rm.locals ≤ R.locals) (hP : va_P G classes ws H) (hD : va_D A ws) (hS : va_S A H0 H locs) (hA : ∀ q, H0.size ≤ q → A q) (q0 : Nat) (he : ws[q0]? = some (a, .inr (ci, fs))) {q : vw_C} (hc : classes[ci]? = some q) (hq : q.1 = y.cls) (is ir : List Nat) (hnd : va_nd is = true) (hC : is.map (fun i => ws[i]?) = wc.map some) (hRr : ir.map (fun i => ws[i]?) = wr.map some) (hnr : va_nd ir = true) (hdis : ∀ i ∈ ir, i ∉ is) (hst : st = As.reverse ++ .ref a :: rest) (hn : As.length = k) (hls : ls.size = nL) (hW : (rest.map fun v => v.category).sum ≤ 8) (hdg : decode cc pc = .ok (.invokevirtual idx, 3)) (hf : cells + mc ≤ R.cells ∧ slots + ms ≤ R.slots)
    (kk : ∀ (r : Int32) (H1 : Heap) (locs1 : List Loc), post r → AFT G A wr B wc H.size H1 → va_S A H0 H1 locs1 → W p l e R s m args below meth c H1 locs1 (cells + mc) (slots + ms) Q (F0 m (pc + 3) ls (.int r :: rest))) : W p l e R s m args below meth c H locs cells slots Q (F0 m pc ls st) := by
  have hF := va_free (wc := wc) hD hS hA is hC
  refine va_calli (va_runV ⟨hx, hb, hml, hown, hts⟩ hM (cwV k hts (gV hy hl) rfl hrc hrs ⟨rfl, hy.2.2.2.2⟩ hR) ⟨PR_blind, recv0 hE hP q0 he hc hq, PR_of (P_cut hP is hC) (hD.sub is hnd hC) hE⟩ rfl hn hls hst (lv_room hW) hdg hf) hS (fun q _ h => hF q h) hF (fun r u t H1 locs1 ht hvm hp hB hz hk hS1 => ?_)
  subst ht
  exact kk r _ locs1 hp (aft hP hD is ir hC hRr hnr hdis hF hB hk) hS1
/-- a writer is called: void, virtual -/
theorem wVv {B : Heap → Prop} (hx : p.tables.exec = Jvm.exec) (hb : c.code = cc) (hml : c.maxLocals = nL) (hown : s.vm.findClass own = some m.cls) (hts : ∀ w ∈ BASE, w.before args s = true) (hE : EN G cy sk s) (hM : Met l y (wsO y b n r) rm (va_Pc (.ref a :: As) (PR G cy sk H.size wc)) (va_Qv (fun (_ : Unit) => True) (fun _ t => B t.heap) (va_A wc H.size)) mc ms (va_A wc H.size)) (hy : KV y b n r k) (hl : Cond.methodLink own idx y ∈ BASE)
    (hrc : rm.cells = mc) (hrs : rm.slots = ms) (hR : rm.frames + 1 ≤ R.frames ∧ 8 + (n + 11) + rm.locals ≤ R.locals) (hP : va_P G classes ws H) (hD : va_D A ws) (hS : va_S A H0 H locs) (hA : ∀ q, H0.size ≤ q → A q) (q0 : Nat) (he : ws[q0]? = some (a, .inr (ci, fs))) {q : vw_C} (hc : classes[ci]? = some q) (hq : q.1 = y.cls) (is ir : List Nat) (hnd : va_nd is = true) (hC : is.map (fun i => ws[i]?) = wc.map some) (hRr : ir.map (fun i => ws[i]?) = wr.map some) (hnr : va_nd ir = true) (hdis : ∀ i ∈ ir, i ∉ is) (hst : st = As.reverse ++ .ref a :: rest) (hn : As.length = k) (hls : ls.size = nL) (hW : (rest.map fun v => v.category).sum ≤ 8) (hdg : decode cc pc = .ok (.invokevirtual idx, 3)) (hf : cells + mc ≤ R.cells ∧ slots + ms ≤ R.slots)
    (kk : ∀ (H1 : Heap) (locs1 : List Loc), AFT G A wr B wc H.size H1 → va_S A H0 H1 locs1 → W p l e R s m args below meth c H1 locs1 (cells + mc) (slots + ms) Q (F0 m (pc + 3) ls rest)) : W p l e R s m args below meth c H locs cells slots Q (F0 m pc ls st) := by
  have hF := va_free (wc := wc) hD hS hA is hC
  refine va_callv (va_runV ⟨hx, hb, hml, hown, hts⟩ hM (cwV k hts (gV hy hl) rfl hrc hrs ⟨rfl, hy.2.2.2.2⟩ hR) ⟨PR_blind, recv0 hE hP q0 he hc hq, PR_of (P_cut hP is hC) (hD.sub is hnd hC) hE⟩ rfl hn hls hst (lv_room hW) hdg hf) hS (fun q _ h => hF q h) hF (fun u t H1 locs1 ht hvm hp hB hz hk hS1 => ?_)
  subst ht
  exact kk _ locs1 (aft hP hD is ir hC hRr hnr hdis hF hB hk) hS1
/-- a writer is called: void, static -/
theorem wSv {B : Heap → Prop} (hx : p.tables.exec = Jvm.exec) (hb : c.code = cc) (hml : c.maxLocals = nL) (hown : s.vm.findClass own = some m.cls) (hts : ∀ w ∈ BASE, w.before args s = true) (hE : EN G cy sk s) (hM : Met l y (wsO y b n r) rm (va_Pc As (PR G cy sk H.size wc)) (va_Qv (fun (_ : Unit) => True) (fun _ t => B t.heap) (va_A wc H.size)) mc ms (va_A wc H.size)) (hy : KS y b n r k) (hl : Cond.methodLink own idx y ∈ BASE)
    (hrc : rm.cells = mc) (hrs : rm.slots = ms) (hR : rm.frames + 1 ≤ R.frames ∧ 8 + (n + 11) + rm.locals ≤ R.locals) (hP : va_P G classes ws H) (hD : va_D A ws) (hS : va_S A H0 H locs) (hA : ∀ q, H0.size ≤ q → A q) (is ir : List Nat) (hnd : va_nd is = true) (hC : is.map (fun i => ws[i]?) = wc.map some) (hRr : ir.map (fun i => ws[i]?) = wr.map some) (hnr : va_nd ir = true) (hdis : ∀ i ∈ ir, i ∉ is) (hst : st = As.reverse ++ rest) (hn : As.length = k) (hls : ls.size = nL) (hW : (rest.map fun v => v.category).sum ≤ 8) (hdg : decode cc pc = .ok (.invokestatic idx, 3)) (hf : cells + mc ≤ R.cells ∧ slots + ms ≤ R.slots)
    (kk : ∀ (H1 : Heap) (locs1 : List Loc), AFT G A wr B wc H.size H1 → va_S A H0 H1 locs1 → W p l e R s m args below meth c H1 locs1 (cells + mc) (slots + ms) Q (F0 m (pc + 3) ls rest)) : W p l e R s m args below meth c H locs cells slots Q (F0 m pc ls st) := by
  have hF := va_free (wc := wc) hD hS hA is hC
  refine va_callv (va_runS ⟨hx, hb, hml, hown, hts⟩ hM (va_cwS k hts (gS hy hl) rfl hrc hrs hy.2.2.2 hR) ⟨PR_blind, PR_of (P_cut hP is hC) (hD.sub is hnd hC) hE⟩ rfl hn hls hst (lv_room hW) hdg hf) hS (fun q _ h => hF q h) hF (fun u t H1 locs1 ht hvm hp hB hz hk hS1 => ?_)
  subst ht
  exact kk _ locs1 (aft hP hD is ir hC hRr hnr hdis hF hB hk) hS1
/-- a constructor is called -/
theorem wI {B : Heap → Prop} (hx : p.tables.exec = Jvm.exec) (hb : c.code = cc) (hml : c.maxLocals = nL) (hown : s.vm.findClass own = some m.cls) (hts : ∀ w ∈ BASE, w.before args s = true) (hE : EN G cy sk s) (hM : Met l y (wsO y b n none) rm (va_Pc (.ref a :: As) (PR G cy sk H.size wc)) (va_Qv (fun (_ : Unit) => True) (fun _ t => B t.heap) (va_A wc H.size)) mc ms (va_A wc H.size)) (hy : KI y b n k) (hl : Cond.methodLink own idx y ∈ BASE)
    (hrc : rm.cells = mc) (hrs : rm.slots = ms) (hR : rm.frames + 1 ≤ R.frames ∧ 8 + (n + 11) + rm.locals ≤ R.locals) (hP : va_P G classes ws H) (hD : va_D A ws) (hS : va_S A H0 H locs) (hA : ∀ q, H0.size ≤ q → A q) (is ir : List Nat) (hnd : va_nd is = true) (hC : is.map (fun i => ws[i]?) = wc.map some) (hRr : ir.map (fun i => ws[i]?) = wr.map some) (hnr : va_nd ir = true) (hdis : ∀ i ∈ ir, i ∉ is) (hst : st = As.reverse ++ .ref a :: rest) (hn : As.length = k) (hls : ls.size = nL) (hW : (rest.map fun v => v.category).sum ≤ 8) (hdg : decode cc pc = .ok (.invokespecial idx, 3)) (hf : cells + mc ≤ R.cells ∧ slots + ms ≤ R.slots)
    (kk : ∀ (H1 : Heap) (locs1 : List Loc), AFT G A wr B wc H.size H1 → va_S A H0 H1 locs1 → W p l e R s m args below meth c H1 locs1 (cells + mc) (slots + ms) Q (F0 m (pc + 3) ls rest)) : W p l e R s m args below meth c H locs cells slots Q (F0 m pc ls st) := by
  have hF := va_free (wc := wc) hD hS hA is hC
  refine va_callv (va_runI ⟨hx, hb, hml, hown, hts⟩ hM (cwI k hts (b_in (wsO_in hy.2.2.2.1)) rfl hrc hrs (hts _ hy.2.2.1) (hts _ hl) (hts _ hy.1) hy.2.1 hy.2.2.2.2 hR) ⟨PR_blind, PR_of (P_cut hP is hC) (hD.sub is hnd hC) hE⟩ rfl hn hls hst (lv_room hW) hdg hf) hS (fun q _ h => hF q h) hF (fun u t H1 locs1 ht hvm hp hB hz hk hS1 => ?_)
  subst ht
  exact kk _ locs1 (aft hP hD is ir hC hRr hnr hdis hF hB hk) hS1
/-- a constructor of a nest mate's, private, is called -/
theorem wIN {B : Heap → Prop} (hx : p.tables.exec = Jvm.exec) (hb : c.code = cc) (hml : c.maxLocals = nL) (hown : s.vm.findClass own = some m.cls) (hts : ∀ w ∈ BASE, w.before args s = true) (hE : EN G cy sk s) (hM : Met l y (wsO y b n none) rm (va_Pc (.ref a :: As) (PR G cy sk H.size wc)) (va_Qv (fun (_ : Unit) => True) (fun _ t => B t.heap) (va_A wc H.size)) mc ms (va_A wc H.size)) (hy : KI y b n k) (hl : (own, idx, y, host) ∈ NMs)
    (hrc : rm.cells = mc) (hrs : rm.slots = ms) (hR : rm.frames + 1 ≤ R.frames ∧ 8 + (n + 11) + rm.locals ≤ R.locals) (hP : va_P G classes ws H) (hD : va_D A ws) (hS : va_S A H0 H locs) (hA : ∀ q, H0.size ≤ q → A q) (is ir : List Nat) (hnd : va_nd is = true) (hC : is.map (fun i => ws[i]?) = wc.map some) (hRr : ir.map (fun i => ws[i]?) = wr.map some) (hnr : va_nd ir = true) (hdis : ∀ i ∈ ir, i ∉ is) (hst : st = As.reverse ++ .ref a :: rest) (hn : As.length = k) (hls : ls.size = nL) (hW : (rest.map fun v => v.category).sum ≤ 8) (hdg : decode cc pc = .ok (.invokespecial idx, 3)) (hf : cells + mc ≤ R.cells ∧ slots + ms ≤ R.slots)
    (kk : ∀ (H1 : Heap) (locs1 : List Loc), AFT G A wr B wc H.size H1 → va_S A H0 H1 locs1 → W p l e R s m args below meth c H1 locs1 (cells + mc) (slots + ms) Q (F0 m (pc + 3) ls rest)) : W p l e R s m args below meth c H locs cells slots Q (F0 m pc ls st) := by
  have hF := va_free (wc := wc) hD hS hA is hC
  refine va_callv (va_runIN ⟨hx, hb, hml, hown, hts⟩ hM ⟨va_cnB k hts (b_in (wsO_in hy.2.2.2.1)) rfl hrc hrs (hE.2.2.1 _ hl) (hts _ hy.2.2.1) hy.2.2.2.2 hR, hy.2.1, hts _ hy.1⟩ ⟨PR_blind, PR_of (P_cut hP is hC) (hD.sub is hnd hC) hE⟩ rfl hn hls hst (lv_room hW) hdg hf) hS (fun q _ h => hF q h) hF (fun u t H1 locs1 ht hvm hp hB hz hk hS1 => ?_)
  subst ht
  exact kk _ locs1 (aft hP hD is ir hC hRr hnr hdis hF hB hk) hS1
end BASECALLS
section BASEARR
variable {p : Program} {l : Launch} {e : Env} {R : Room} {s : State} {m : MethodId} {args : Array Value} {below : List Frame} {meth : Method} {c : Code} {H H0 : Heap} {locs : List Loc} {cells slots : Nat} {Q : State → Prop}
variable {cc : ByteArray} {pc : Nat} {ls : Array Slot} {rest : List Value} {G : va_G} {cy : Nat → ClassId} {sk : Nat → Nat} {ws : va_W} {A : Nat → Prop} {own : String} {idx : Nat}
/-- a new int array -/
theorem nwI (hx : p.tables.exec = Jvm.exec) (hb : c.code = cc) (hts : ∀ w ∈ BASE, w.before args s = true) (hw : Cond.arrayClass .int ∈ BASE) (hE : EN G cy sk s) (hP : va_P G classes ws H) (hD : va_D A ws) (hS : va_S A H0 H locs) (hA : ∀ q, H0.size ≤ q → A q) {n : Int32} {N : Nat} (hn : ¬ n < 0) (hN : n.toNatClampNeg = N) (hbytes : N * 4 ≤ 536870912) (hcells : cells + 1 ≤ R.cells) (hslots : slots + N ≤ R.slots) (hdg : decode cc pc = .ok (.newarray .int, 2))
    (kk : ∀ (q : Nat) (H1 : Heap), va_P G classes (ws ++ [(q, .inl (cy 0, N, .inl (fun _ => 0)))]) H1 → va_D A (ws ++ [(q, .inl (cy 0, N, .inl (fun _ => 0)))]) → va_S A H0 H1 locs → W p l e R s m args below meth c H1 locs (cells + 1) (slots + N) Q (F0 m (pc + 2) ls (.ref q :: rest))) : W p l e R s m args below meth c H locs cells slots Q (F0 m pc ls (.int n :: rest)) := by
  refine va_newa (atype := .int) (ty := .int) (a0 := (N, .inl (fun _ => 0))) hx hb (hts _ hw) rfl hE.1 hP hD hS hA (fun _ => rfl) hn hN hbytes hcells hslots hdg (fun q cA H1 hK hP hD hS => ?_)
  have e1 := va_nm_int (hK.2 (TYS cy).length (cA, .int) (by simp)).2
  have e2 := va_nm_int (hE.1.2 0 (cy 0, .int) rfl).2
  have e3 : cA = cy 0 := Option.some.inj (e1.symm.trans e2)
  subst e3
  exact kk q H1 hP hD hS
theorem nwZ (hx : p.tables.exec = Jvm.exec) (hb : c.code = cc) (hts : ∀ w ∈ BASE, w.before args s = true) (hw : Cond.arrayClass .boolean ∈ BASE) (hE : EN G cy sk s) (hP : va_P G classes ws H) (hD : va_D A ws) (hS : va_S A H0 H locs) (hA : ∀ q, H0.size ≤ q → A q) {n : Int32} {N : Nat} (hn : ¬ n < 0) (hN : n.toNatClampNeg = N) (hbytes : N * 1 ≤ 536870912) (hcells : cells + 1 ≤ R.cells) (hslots : slots + N ≤ R.slots) (hdg : decode cc pc = .ok (.newarray .boolean, 2))
    (kk : ∀ (q : Nat) (H1 : Heap), va_P G classes (ws ++ [(q, .inl (cy 1, N, .inl (fun _ => 0)))]) H1 → va_D A (ws ++ [(q, .inl (cy 1, N, .inl (fun _ => 0)))]) → va_S A H0 H1 locs → W p l e R s m args below meth c H1 locs (cells + 1) (slots + N) Q (F0 m (pc + 2) ls (.ref q :: rest))) : W p l e R s m args below meth c H locs cells slots Q (F0 m pc ls (.int n :: rest)) := by
  refine va_newa (atype := .boolean) (ty := .boolean) (a0 := (N, .inl (fun _ => 0))) hx hb (hts _ hw) rfl hE.1 hP hD hS hA (fun _ => rfl) hn hN hbytes hcells hslots hdg (fun q cA H1 hK hP hD hS => ?_)
  have e1 := va_nm_boolean (hK.2 (TYS cy).length (cA, .boolean) (by simp)).2
  have e2 := va_nm_boolean (hE.1.2 1 (cy 1, .boolean) rfl).2
  have e3 : cA = cy 1 := Option.some.inj (e1.symm.trans e2)
  subst e3
  exact kk q H1 hP hD hS
theorem nwJ (hx : p.tables.exec = Jvm.exec) (hb : c.code = cc) (hts : ∀ w ∈ BASE, w.before args s = true) (hw : Cond.arrayClass .long ∈ BASE) (hE : EN G cy sk s) (hP : va_P G classes ws H) (hD : va_D A ws) (hS : va_S A H0 H locs) (hA : ∀ q, H0.size ≤ q → A q) {n : Int32} {N : Nat} (hn : ¬ n < 0) (hN : n.toNatClampNeg = N) (hbytes : N * 8 ≤ 536870912) (hcells : cells + 1 ≤ R.cells) (hslots : slots + N ≤ R.slots) (hdg : decode cc pc = .ok (.newarray .long, 2))
    (kk : ∀ (q : Nat) (H1 : Heap), va_P G classes (ws ++ [(q, .inl (cy 2, N, .inr (.inl (fun _ => 0))))]) H1 → va_D A (ws ++ [(q, .inl (cy 2, N, .inr (.inl (fun _ => 0))))]) → va_S A H0 H1 locs → W p l e R s m args below meth c H1 locs (cells + 1) (slots + N) Q (F0 m (pc + 2) ls (.ref q :: rest))) : W p l e R s m args below meth c H locs cells slots Q (F0 m pc ls (.int n :: rest)) := by
  refine va_newa (atype := .long) (ty := .long) (a0 := (N, .inr (.inl (fun _ => 0)))) hx hb (hts _ hw) rfl hE.1 hP hD hS hA (fun _ => rfl) hn hN hbytes hcells hslots hdg (fun q cA H1 hK hP hD hS => ?_)
  have e1 := va_nm_long (hK.2 (TYS cy).length (cA, .long) (by simp)).2
  have e2 := va_nm_long (hE.1.2 2 (cy 2, .long) rfl).2
  have e3 : cA = cy 2 := Option.some.inj (e1.symm.trans e2)
  subst e3
  exact kk q H1 hP hD hS
/-- a new array of references; t0 is the place of its type in TYS -/
theorem nwQ (hx : p.tables.exec = Jvm.exec) (hb : c.code = cc) (hown : s.vm.findClass own = some m.cls) (hts : ∀ w ∈ BASE, w.before args s = true) {C : String} (hw : Cond.classLink own idx C ∈ BASE) (hC : C ∈ AOs) (hE : EN G cy sk s) (hP : va_P G classes ws H) (hD : va_D A ws) (hS : va_S A H0 H locs) (hA : ∀ q, H0.size ≤ q → A q) {t0 : Nat} {cA0 : ClassId} (ht : (TYS cy)[t0]? = some (cA0, .object C)) {n : Int32} {N : Nat} (hn : ¬ n < 0) (hN : n.toNatClampNeg = N) (hbytes : N * 4 ≤ 536870912) (hcells : cells + 1 ≤ R.cells) (hslots : slots + N ≤ R.slots) (hdg : decode cc pc = .ok (.anewarray idx, 3))
    (kk : ∀ (q : Nat) (H1 : Heap), va_P G classes (ws ++ [(q, .inl (cA0, N, .inr (.inr (.inr (.inr (fun _ => none))))))]) H1 → va_D A (ws ++ [(q, .inl (cA0, N, .inr (.inr (.inr (.inr (fun _ => none))))))]) → va_S A H0 H1 locs → W p l e R s m args below meth c H1 locs (cells + 1) (slots + N) Q (F0 m (pc + 3) ls (.ref q :: rest))) : W p l e R s m args below meth c H locs cells slots Q (F0 m pc ls (.int n :: rest)) := by
  refine va_newq hx hb hown (hts _ hw) (hE.2.2.2.2 C hC) hE.1 hP hD hS hA hn hN hbytes hcells hslots hdg (fun q cA H1 hK hP hD hS => ?_)
  obtain ⟨-, -, -, -, -, e1⟩ := (hK.2 (TYS cy).length (cA, .object C) (by simp)).2
  obtain ⟨-, -, -, -, -, e2⟩ := (hE.1.2 t0 _ ht).2
  have e3 : cA = cA0 := Option.some.inj (e1.symm.trans e2)
  subst e3
  exact kk q H1 hP hD hS
end BASEARR
def inR (v lo hi : Int32) : Prop := lo ≤ v ∧ v ≤ hi
theorem vinL {i : Int32} {n : Nat} (h : (decide (i < 0) || decide (n ≤ i.toNatClampNeg)) = false) : vp_in i n := by
  unfold vp_in
  rcases Bool.or_eq_false_iff.mp h with ⟨h1, h2⟩
  exact fun q => q.elim (of_decide_eq_false h1) (of_decide_eq_false h2)
theorem vinB {i lo hi : Int32} {n : Nat} (h : inR i lo hi) (hl : 0 ≤ lo.toInt) (hh : hi.toInt < n) : vp_in i n := vp_in_iff.mpr ⟨Int.le_trans hl (Int32.le_iff_toInt_le.mp h.1), Int.lt_of_le_of_lt (Int32.le_iff_toInt_le.mp h.2) hh⟩
theorem vinB_nat {i lo hi : Int32} {n : Nat} (h : inR i lo hi) (hl : 0 ≤ lo.toInt) (hh : hi.toInt < n) : i.toNatClampNeg < n := by
  have := vinB h hl hh
  exact Nat.not_le.mp fun q => this (Or.inr q)
theorem bmems (ws : List Cond) (ps : List Nat) (hp : ws = ps.filterMap (fun i => lw_tbl[i]?)) (h : ws.all goodWord = true) : ∀ w ∈ ws, w ∈ BASE := by
  intro w hw
  have h1 := List.all_eq_true.mp h w hw
  rw [hp] at hw
  obtain ⟨i, -, hi⟩ := List.mem_filterMap.mp hw
  exact bmem i hi h1
section MISCV
variable {p : Program} {l : Launch} {e : Env} {R : Room} {s : State} {m : MethodId} {args : Array Value} {below : List Frame} {meth : Method} {c : Code} {H : Heap} {locs : List Loc} {cells slots : Nat} {Q : State → Prop}
theorem tpv {pc : Nat} {ls : Array Slot} {rest : List Value} {x v : Value} (h : x = v) (kk : W p l e R s m args below meth c H locs cells slots Q (F0 m pc ls (v :: rest))) : W p l e R s m args below meth c H locs cells slots Q (F0 m pc ls (x :: rest)) := h ▸ kk
end MISCV
theorem in4 {v : Int32} (h : inR v 0 3) : v = 0 ∨ v = 1 ∨ v = 2 ∨ v = 3 := by
  have h1 := Int32.le_iff_toInt_le.mp h.1
  have h2 := Int32.le_iff_toInt_le.mp h.2
  have e : v.toInt = 0 ∨ v.toInt = 1 ∨ v.toInt = 2 ∨ v.toInt = 3 := by
    have a : (0 : Int32).toInt = 0 := rfl
    have b : (3 : Int32).toInt = 3 := rfl
    omega
  rcases e with e | e | e | e
  · exact Or.inl (Int32.toInt_inj.mp e)
  · exact Or.inr (Or.inl (Int32.toInt_inj.mp e))
  · exact Or.inr (Or.inr (Or.inl (Int32.toInt_inj.mp e)))
  · exact Or.inr (Or.inr (Or.inr (Int32.toInt_inj.mp e)))
theorem upd_all {f : Nat → Int32} {i : Nat} {v : Int32} (hi : i < 2 ^ 31) (h : ∀ j, j < i → f j = v) : ∀ j, j < i + 1 → upd f (nI i).toNatClampNeg v j = v := by
  intro j hj
  rw [nI_clamp hi]
  unfold upd
  by_cases e : j = i
  · rw [if_pos e]
  · rw [if_neg e]; exact h j (by omega)
theorem mx0 {n : Nat} (h : n < 2 ^ 31) : (if (0 : Int32) < nI n then nI n else 0) = nI n := by
  rcases Nat.eq_zero_or_pos n with e | e
  · subst e; rfl
  · rw [if_pos (show (0 : Int32) < nI n from nI_lt (a := 0) (b := n) e h)]
theorem mn0 {n : Nat} (h : n < 2 ^ 31) : (if nI n < (0 : Int32) then nI n else 0) = 0 := by
  rw [if_neg (nI_pos h)]
end
section
/-! words of the tables that are used, by their places; decode rows; classes -/
theorem m_79 : Cond.initialized RX11 ∈ BASE := bmem 79 (by decide +kernel) rfl
theorem m_81 : Cond.initialized RX7 ∈ BASE := bmem 81 (by decide +kernel) rfl
theorem m_85 : Cond.initialized RX5 ∈ BASE := bmem 85 (by decide +kernel) rfl
theorem m_86 : Cond.initialized "java/lang/Math" ∈ BASE := bmem 86 (by decide +kernel) rfl
theorem m_98 : Cond.initialized "java/lang/System" ∈ BASE := bmem 98 (by decide +kernel) rfl
theorem m_107 : Cond.instanceMethod Lib.objectInit ∈ BASE := bmem 107 (by decide +kernel) rfl
theorem m_108 : Cond.code Lib.objectInit ⟨#[0xb1]⟩ 1 none ∈ BASE := bmem 108 (by decide +kernel) rfl
theorem m_120 : Cond.methodLink RX7 1 Lib.objectInit ∈ BASE := bmem 120 (by decide +kernel) rfl
theorem m_121 : Cond.fieldLink RX7 9 "ClickStreet$Street" "occupants" "[I" ∈ BASE := bmem 121 (by decide +kernel) rfl
theorem m_124 : Cond.fieldLink RX7 13 "ClickStreet$Street" "kinds" "[I" ∈ BASE := bmem 124 (by decide +kernel) rfl
theorem m_126 : Cond.fieldLink RX7 16 "ClickStreet$Street" "cells" "[I" ∈ BASE := bmem 126 (by decide +kernel) rfl
theorem m_128 : Cond.fieldLink RX7 19 "ClickStreet$Street" "sides" "[I" ∈ BASE := bmem 128 (by decide +kernel) rfl
theorem m_130 : Cond.fieldLink RX7 22 "ClickStreet$Street" "steps" "[I" ∈ BASE := bmem 130 (by decide +kernel) rfl
theorem m_132 : Cond.fieldLink RX7 25 "ClickStreet$Street" "things" "I" ∈ BASE := bmem 132 (by decide +kernel) rfl
theorem m_146 : Cond.arrayClass .int ∈ BASE := bmem 146 (by decide +kernel) rfl
theorem m_159 : Cond.methodLink RX1 3 Lib.objectInit ∈ BASE := bmem 159 (by decide +kernel) rfl
theorem m_160 : Cond.fieldLink RX1 9 "ClickStreet$Formula" "codes" "[I" ∈ BASE := bmem 160 (by decide +kernel) rfl
theorem m_161 : Cond.fieldLink RX1 13 "ClickStreet$Formula" "stack" "[I" ∈ BASE := bmem 161 (by decide +kernel) rfl
theorem m_162 : Cond.fieldLink RX1 16 "ClickStreet$Formula" "size" "I" ∈ BASE := bmem 162 (by decide +kernel) rfl
theorem m_198 : Cond.methodLink RX3 1 Lib.objectInit ∈ BASE := bmem 198 (by decide +kernel) rfl
theorem m_199 : Cond.classLink RX3 23 RX5 ∈ BASE := bmem 199 (by decide +kernel) rfl
theorem m_200 : Cond.instantiable RX5 2 ∈ BASE := bmem 200 (by decide +kernel) rfl
theorem m_201 : Cond.methodLink RX3 25 yX5_init ∈ BASE := bmem 201 (by decide +kernel) rfl
theorem m_202 : Cond.instanceMethod yX5_init ∈ BASE := bmem 202 (by decide +kernel) rfl
theorem m_203 : Cond.code yX5_init cX5_init 2 none ∈ BASE := bmem 203 (by decide +kernel) rfl
theorem m_204 : Cond.methodLink RX5 1 Lib.objectInit ∈ BASE := bmem 204 (by decide +kernel) rfl
theorem m_205 : Cond.methodLink RX5 13 Lib.Math.max.name ∈ BASE := bmem 205 (by decide +kernel) rfl
theorem m_206 : Cond.static Lib.Math.max.name ∈ BASE := bmem 206 (by decide +kernel) rfl
theorem m_207 : Cond.code Lib.Math.max.name Lib.Math.max.code 2 (some .int) ∈ BASE := bmem 207 (by decide +kernel) rfl
theorem m_208 : Cond.fieldLink RX5 19 "ClickStreet$Row" "numbers" "[I" ∈ BASE := bmem 208 (by decide +kernel) rfl
theorem m_209 : Cond.fieldLink RX5 7 "ClickStreet$Row" "size" "I" ∈ BASE := bmem 209 (by decide +kernel) rfl
theorem m_218 : Cond.fieldLink RX3 9 "ClickStreet$Lessons" "tells" "[I" ∈ BASE := bmem 218 (by decide +kernel) rfl
theorem m_219 : Cond.fieldLink RX3 13 "ClickStreet$Lessons" "needs" "[I" ∈ BASE := bmem 219 (by decide +kernel) rfl
theorem m_220 : Cond.fieldLink RX3 16 "ClickStreet$Lessons" "minutes" "[I" ∈ BASE := bmem 220 (by decide +kernel) rfl
theorem m_221 : Cond.fieldLink RX3 19 "ClickStreet$Lessons" "size" "I" ∈ BASE := bmem 221 (by decide +kernel) rfl
theorem m_223 : Cond.fieldLink RX3 28 "ClickStreet$Lessons" "tried" "LClickStreet$Row;" ∈ BASE := bmem 223 (by decide +kernel) rfl
theorem m_224 : Cond.fieldLink RX3 32 "ClickStreet$Lessons" "best" "LClickStreet$Row;" ∈ BASE := bmem 224 (by decide +kernel) rfl
theorem m_226 : Cond.fieldLink RX3 35 "ClickStreet$Lessons" "wantedBits" "I" ∈ BASE := bmem 226 (by decide +kernel) rfl
theorem m_227 : Cond.fieldLink RX3 38 "ClickStreet$Lessons" "fewestMinutes" "I" ∈ BASE := bmem 227 (by decide +kernel) rfl
theorem m_229 : Cond.fieldLink RX3 41 "ClickStreet$Lessons" "isFound" "Z" ∈ BASE := bmem 229 (by decide +kernel) rfl
theorem m_257 : Cond.methodLink RX9 1 Lib.objectInit ∈ BASE := bmem 257 (by decide +kernel) rfl
theorem m_258 : Cond.fieldLink RX9 7 "ClickStreet$Walker" "kind" "I" ∈ BASE := bmem 258 (by decide +kernel) rfl
theorem m_260 : Cond.fieldLink RX9 13 "ClickStreet$Walker" "cell" "I" ∈ BASE := bmem 260 (by decide +kernel) rfl
theorem m_264 : Cond.fieldLink RX9 16 "ClickStreet$Walker" "side" "I" ∈ BASE := bmem 264 (by decide +kernel) rfl
theorem m_267 : Cond.fieldLink RX9 19 "ClickStreet$Walker" "pitch" "I" ∈ BASE := bmem 267 (by decide +kernel) rfl
theorem m_270 : Cond.fieldLink RX9 22 "ClickStreet$Walker" "loudness" "I" ∈ BASE := bmem 270 (by decide +kernel) rfl
theorem m_272 : Cond.fieldLink RX9 25 "ClickStreet$Walker" "every" "I" ∈ BASE := bmem 272 (by decide +kernel) rfl
theorem m_275 : Cond.fieldLink RX9 28 "ClickStreet$Walker" "isGoing" "Z" ∈ BASE := bmem 275 (by decide +kernel) rfl
theorem m_278 : Cond.fieldLink RX9 32 "ClickStreet$Walker" "bumps" "I" ∈ BASE := bmem 278 (by decide +kernel) rfl
theorem m_280 : Cond.fieldLink RX9 35 "ClickStreet$Walker" "clicks" "I" ∈ BASE := bmem 280 (by decide +kernel) rfl
theorem m_282 : Cond.fieldLink RX9 40 "ClickStreet$Walker" "yes" "[I" ∈ BASE := bmem 282 (by decide +kernel) rfl
theorem m_284 : Cond.fieldLink RX9 44 "ClickStreet$Walker" "no" "[I" ∈ BASE := bmem 284 (by decide +kernel) rfl
theorem m_444 : Cond.methodLink RX6 1 Lib.objectInit ∈ BASE := bmem 444 (by decide +kernel) rfl
theorem m_445 : Cond.fieldLink RX6 7 "ClickStreet$Sheet" "bits" "I" ∈ BASE := bmem 445 (by decide +kernel) rfl
theorem m_447 : Cond.fieldLink RX6 13 "ClickStreet$Sheet" "size" "I" ∈ BASE := bmem 447 (by decide +kernel) rfl
theorem m_450 : Cond.fieldLink RX6 16 "ClickStreet$Sheet" "numbers" "[I" ∈ BASE := bmem 450 (by decide +kernel) rfl
theorem m_494 : Cond.methodLink RX11 89 yX11_within ∈ BASE := bmem 494 (by decide +kernel) rfl
theorem m_495 : Cond.static yX11_within ∈ BASE := bmem 495 (by decide +kernel) rfl
theorem m_496 : Cond.code yX11_within cX11_within 3 (some .boolean) ∈ BASE := bmem 496 (by decide +kernel) rfl
theorem m_498 : Cond.static yX7_isCell ∈ BASE := bmem 498 (by decide +kernel) rfl
theorem m_499 : Cond.code yX7_isCell cX7_isCell 1 (some .boolean) ∈ BASE := bmem 499 (by decide +kernel) rfl
theorem m_509 : Cond.methodLink RX7 29 yX7_isCell ∈ BASE := bmem 509 (by decide +kernel) rfl
theorem m_518 : Cond.methodLink RX7 42 yX7_settle ∈ BASE := bmem 518 (by decide +kernel) rfl
theorem m_519 : Cond.instanceMethod yX7_settle ∈ BASE := bmem 519 (by decide +kernel) rfl
theorem m_520 : Cond.selects yX7_settle.cls yX7_settle yX7_settle ∈ BASE := bmem 520 (by decide +kernel) rfl
theorem m_521 : Cond.code yX7_settle cX7_settle 3 none ∈ BASE := bmem 521 (by decide +kernel) rfl
theorem m_770 : Cond.static Lib.Math.min.name ∈ BASE := bmem 770 (by decide +kernel) rfl
theorem m_771 : Cond.code Lib.Math.min.name Lib.Math.min.code 2 (some .int) ∈ BASE := bmem 771 (by decide +kernel) rfl
theorem m_828 : Cond.methodLink RX1 20 arraycopyName ∈ BASE := bmem 828 (by decide +kernel) rfl
theorem m_829 : Cond.static arraycopyName ∈ BASE := bmem 829 (by decide +kernel) rfl
theorem m_830 : Cond.native arraycopyName ∈ BASE := bmem 830 (by decide +kernel) rfl
theorem m_1146 : Cond.methodLink RX5 23 Lib.Math.min.name ∈ BASE := bmem 1146 (by decide +kernel) rfl
theorem m_1230 : Cond.methodLink RX6 20 Lib.Math.min.name ∈ BASE := bmem 1230 (by decide +kernel) rfl
theorem m_1231 : Cond.methodLink RX6 26 Lib.Math.max.name ∈ BASE := bmem 1231 (by decide +kernel) rfl
theorem m_1262 : Cond.methodLink RX7 60 arraycopyName ∈ BASE := bmem 1262 (by decide +kernel) rfl
theorem kI_X5_init : KI yX5_init cX5_init 2 1 := ⟨m_202, rfl, m_85, m_203, by decide +kernel, by decide +kernel, by decide +kernel⟩
theorem kS_X11_within : KS yX11_within cX11_within 3 (some .boolean) 3 := ⟨m_495, m_79, m_496, by decide +kernel, by decide +kernel, by decide +kernel⟩
theorem kS_X7_isCell : KS yX7_isCell cX7_isCell 1 (some .boolean) 1 := ⟨m_498, m_81, m_499, by decide +kernel, by decide +kernel, by decide +kernel⟩
theorem kV_X7_settle : KV yX7_settle cX7_settle 3 none 2 := ⟨m_519, m_520, m_81, m_521, by decide +kernel, by decide +kernel, by decide +kernel⟩
theorem inB1 : ∀ w ∈ u_ws RX1 TX1 3, w ∈ BASE := bmems (u_ws RX1 TX1 3) [163, 165, 167] (by decide +kernel) (by decide +kernel)
theorem df1 : ∀ j, j < 3 → defaultValue (tyX1 j) = vp_V [.null, .null, .int 0] j := fun j hj => by rcases (show j = 0 ∨ j = 1 ∨ j = 2 by omega) with rfl | rfl | rfl <;> rfl
theorem inB3 : ∀ w ∈ u_ws RX3 TX3 9, w ∈ BASE := bmems (u_ws RX3 TX3 9) [230, 232, 234, 236, 238, 240, 242, 244, 246] (by decide +kernel) (by decide +kernel)
theorem df3 : ∀ j, j < 9 → defaultValue (tyX3 j) = vp_V [.null, .null, .null, .int 0, .null, .null, .int 0, .int 0, .int 0] j := fun j hj => by rcases (show j = 0 ∨ j = 1 ∨ j = 2 ∨ j = 3 ∨ j = 4 ∨ j = 5 ∨ j = 6 ∨ j = 7 ∨ j = 8 by omega) with rfl | rfl | rfl | rfl | rfl | rfl | rfl | rfl | rfl <;> rfl
theorem inB5 : ∀ w ∈ u_ws RX5 TX5 2, w ∈ BASE := bmems (u_ws RX5 TX5 2) [213, 215] (by decide +kernel) (by decide +kernel)
theorem df5 : ∀ j, j < 2 → defaultValue (tyX5 j) = vp_V [.null, .int 0] j := fun j hj => by rcases (show j = 0 ∨ j = 1 by omega) with rfl | rfl <;> rfl
theorem inB6 : ∀ w ∈ u_ws RX6 TX6 3, w ∈ BASE := bmems (u_ws RX6 TX6 3) [452, 454, 456] (by decide +kernel) (by decide +kernel)
theorem df6 : ∀ j, j < 3 → defaultValue (tyX6 j) = vp_V [.int 0, .int 0, .null] j := fun j hj => by rcases (show j = 0 ∨ j = 1 ∨ j = 2 by omega) with rfl | rfl | rfl <;> rfl
theorem inB7 : ∀ w ∈ u_ws RX7 TX7 6, w ∈ BASE := bmems (u_ws RX7 TX7 6) [133, 135, 137, 139, 141, 143] (by decide +kernel) (by decide +kernel)
theorem df7 : ∀ j, j < 6 → defaultValue (tyX7 j) = vp_V [.null, .null, .null, .null, .null, .int 0] j := fun j hj => by rcases (show j = 0 ∨ j = 1 ∨ j = 2 ∨ j = 3 ∨ j = 4 ∨ j = 5 by omega) with rfl | rfl | rfl | rfl | rfl | rfl <;> rfl
theorem inB9 : ∀ w ∈ u_ws RX9 TX9 11, w ∈ BASE := bmems (u_ws RX9 TX9 11) [286, 288, 290, 292, 294, 296, 298, 300, 302, 304, 306] (by decide +kernel) (by decide +kernel)
theorem df9 : ∀ j, j < 11 → defaultValue (tyX9 j) = vp_V [.int 0, .int 0, .int 0, .int 0, .int 0, .int 0, .int 0, .int 0, .int 0, .null, .null] j := fun j hj => by rcases (show j = 0 ∨ j = 1 ∨ j = 2 ∨ j = 3 ∨ j = 4 ∨ j = 5 ∨ j = 6 ∨ j = 7 ∨ j = 8 ∨ j = 9 ∨ j = 10 by omega) with rfl | rfl | rfl | rfl | rfl | rfl | rfl | rfl | rfl | rfl | rfl <;> rfl
/-! decode rows -/
theorem dX11_isBits_0 : decode cX11_isBits 0 = .ok (.iload_n 0, 1) := by decide +kernel
theorem dX11_isBits_1 : decode cX11_isBits 1 = .ok (.iconst 0, 1) := by decide +kernel
theorem dX11_isBits_2 : decode cX11_isBits 2 = .ok (.bipush 31, 2) := by decide +kernel
theorem dX11_isBits_4 : decode cX11_isBits 4 = .ok (.invokestatic 89, 3) := by decide +kernel
theorem dX11_isBits_7 : decode cX11_isBits 7 = .ok (.ireturn, 1) := by decide +kernel
theorem dX11_isSheet_0 : decode cX11_isSheet 0 = .ok (.iload_n 0, 1) := by decide +kernel
theorem dX11_isSheet_1 : decode cX11_isSheet 1 = .ok (.iconst 0, 1) := by decide +kernel
theorem dX11_isSheet_2 : decode cX11_isSheet 2 = .ok (.iconst 3, 1) := by decide +kernel
theorem dX11_isSheet_3 : decode cX11_isSheet 3 = .ok (.invokestatic 89, 3) := by decide +kernel
theorem dX11_isSheet_6 : decode cX11_isSheet 6 = .ok (.ireturn, 1) := by decide +kernel
theorem dX11_isThingKind_0 : decode cX11_isThingKind 0 = .ok (.iload_n 0, 1) := by decide +kernel
theorem dX11_isThingKind_1 : decode cX11_isThingKind 1 = .ok (.iconst 0, 1) := by decide +kernel
theorem dX11_isThingKind_2 : decode cX11_isThingKind 2 = .ok (.iconst 4, 1) := by decide +kernel
theorem dX11_isThingKind_3 : decode cX11_isThingKind 3 = .ok (.invokestatic 89, 3) := by decide +kernel
theorem dX11_isThingKind_6 : decode cX11_isThingKind 6 = .ok (.ireturn, 1) := by decide +kernel
theorem dX11_isWalkerKind_0 : decode cX11_isWalkerKind 0 = .ok (.iload_n 0, 1) := by decide +kernel
theorem dX11_isWalkerKind_1 : decode cX11_isWalkerKind 1 = .ok (.iconst 0, 1) := by decide +kernel
theorem dX11_isWalkerKind_2 : decode cX11_isWalkerKind 2 = .ok (.bipush 7, 2) := by decide +kernel
theorem dX11_isWalkerKind_4 : decode cX11_isWalkerKind 4 = .ok (.invokestatic 89, 3) := by decide +kernel
theorem dX11_isWalkerKind_7 : decode cX11_isWalkerKind 7 = .ok (.ireturn, 1) := by decide +kernel
theorem dX11_within_0 : decode cX11_within 0 = .ok (.iload_n 0, 1) := by decide +kernel
theorem dX11_within_1 : decode cX11_within 1 = .ok (.iload_n 1, 1) := by decide +kernel
theorem dX11_within_2 : decode cX11_within 2 = .ok (.if_icmp .lt 12, 3) := by decide +kernel
theorem dX11_within_5 : decode cX11_within 5 = .ok (.iload_n 0, 1) := by decide +kernel
theorem dX11_within_6 : decode cX11_within 6 = .ok (.iload_n 2, 1) := by decide +kernel
theorem dX11_within_7 : decode cX11_within 7 = .ok (.if_icmp .gt 7, 3) := by decide +kernel
theorem dX11_within_10 : decode cX11_within 10 = .ok (.iconst 1, 1) := by decide +kernel
theorem dX11_within_11 : decode cX11_within 11 = .ok (.goto 4, 3) := by decide +kernel
theorem dX11_within_14 : decode cX11_within 14 = .ok (.iconst 0, 1) := by decide +kernel
theorem dX11_within_15 : decode cX11_within 15 = .ok (.ireturn, 1) := by decide +kernel
theorem dX1_clear_0 : decode cX1_clear 0 = .ok (.aload_n 0, 1) := by decide +kernel
theorem dX1_clear_1 : decode cX1_clear 1 = .ok (.iconst 0, 1) := by decide +kernel
theorem dX1_clear_2 : decode cX1_clear 2 = .ok (.putfield 16, 3) := by decide +kernel
theorem dX1_clear_5 : decode cX1_clear 5 = .ok (.return_, 1) := by decide +kernel
theorem dX1_init_0 : decode cX1_init 0 = .ok (.aload_n 0, 1) := by decide +kernel
theorem dX1_init_1 : decode cX1_init 1 = .ok (.invokespecial 3, 3) := by decide +kernel
theorem dX1_init_4 : decode cX1_init 4 = .ok (.aload_n 0, 1) := by decide +kernel
theorem dX1_init_5 : decode cX1_init 5 = .ok (.bipush 48, 2) := by decide +kernel
theorem dX1_init_7 : decode cX1_init 7 = .ok (.newarray .int, 2) := by decide +kernel
theorem dX1_init_9 : decode cX1_init 9 = .ok (.putfield 9, 3) := by decide +kernel
theorem dX1_init_12 : decode cX1_init 12 = .ok (.aload_n 0, 1) := by decide +kernel
theorem dX1_init_13 : decode cX1_init 13 = .ok (.bipush 48, 2) := by decide +kernel
theorem dX1_init_15 : decode cX1_init 15 = .ok (.newarray .int, 2) := by decide +kernel
theorem dX1_init_17 : decode cX1_init 17 = .ok (.putfield 13, 3) := by decide +kernel
theorem dX1_init_20 : decode cX1_init 20 = .ok (.aload_n 0, 1) := by decide +kernel
theorem dX1_init_21 : decode cX1_init 21 = .ok (.iconst 0, 1) := by decide +kernel
theorem dX1_init_22 : decode cX1_init 22 = .ok (.putfield 16, 3) := by decide +kernel
theorem dX1_init_25 : decode cX1_init 25 = .ok (.return_, 1) := by decide +kernel
theorem dX1_takeFrom_0 : decode cX1_takeFrom 0 = .ok (.aload_n 0, 1) := by decide +kernel
theorem dX1_takeFrom_1 : decode cX1_takeFrom 1 = .ok (.aload_n 1, 1) := by decide +kernel
theorem dX1_takeFrom_2 : decode cX1_takeFrom 2 = .ok (.getfield 16, 3) := by decide +kernel
theorem dX1_takeFrom_5 : decode cX1_takeFrom 5 = .ok (.putfield 16, 3) := by decide +kernel
theorem dX1_takeFrom_8 : decode cX1_takeFrom 8 = .ok (.aload_n 1, 1) := by decide +kernel
theorem dX1_takeFrom_9 : decode cX1_takeFrom 9 = .ok (.getfield 9, 3) := by decide +kernel
theorem dX1_takeFrom_12 : decode cX1_takeFrom 12 = .ok (.iconst 0, 1) := by decide +kernel
theorem dX1_takeFrom_13 : decode cX1_takeFrom 13 = .ok (.aload_n 0, 1) := by decide +kernel
theorem dX1_takeFrom_14 : decode cX1_takeFrom 14 = .ok (.getfield 9, 3) := by decide +kernel
theorem dX1_takeFrom_17 : decode cX1_takeFrom 17 = .ok (.iconst 0, 1) := by decide +kernel
theorem dX1_takeFrom_18 : decode cX1_takeFrom 18 = .ok (.bipush 48, 2) := by decide +kernel
theorem dX1_takeFrom_20 : decode cX1_takeFrom 20 = .ok (.invokestatic 20, 3) := by decide +kernel
theorem dX1_takeFrom_23 : decode cX1_takeFrom 23 = .ok (.return_, 1) := by decide +kernel
theorem dX3_add_0 : decode cX3_add 0 = .ok (.aload_n 0, 1) := by decide +kernel
theorem dX3_add_1 : decode cX3_add 1 = .ok (.getfield 19, 3) := by decide +kernel
theorem dX3_add_4 : decode cX3_add 4 = .ok (.istore 4, 2) := by decide +kernel
theorem dX3_add_6 : decode cX3_add 6 = .ok (.iload 4, 2) := by decide +kernel
theorem dX3_add_8 : decode cX3_add 8 = .ok (.ifCond .lt 10, 3) := by decide +kernel
theorem dX3_add_11 : decode cX3_add 11 = .ok (.iload 4, 2) := by decide +kernel
theorem dX3_add_13 : decode cX3_add 13 = .ok (.bipush 7, 2) := by decide +kernel
theorem dX3_add_15 : decode cX3_add 15 = .ok (.if_icmp .lt 5, 3) := by decide +kernel
theorem dX3_add_20 : decode cX3_add 20 = .ok (.aload_n 0, 1) := by decide +kernel
theorem dX3_add_21 : decode cX3_add 21 = .ok (.getfield 9, 3) := by decide +kernel
theorem dX3_add_24 : decode cX3_add 24 = .ok (.iload 4, 2) := by decide +kernel
theorem dX3_add_26 : decode cX3_add 26 = .ok (.iload_n 1, 1) := by decide +kernel
theorem dX3_add_27 : decode cX3_add 27 = .ok (.iastore, 1) := by decide +kernel
theorem dX3_add_28 : decode cX3_add 28 = .ok (.aload_n 0, 1) := by decide +kernel
theorem dX3_add_29 : decode cX3_add 29 = .ok (.getfield 13, 3) := by decide +kernel
theorem dX3_add_32 : decode cX3_add 32 = .ok (.iload 4, 2) := by decide +kernel
theorem dX3_add_34 : decode cX3_add 34 = .ok (.iload_n 2, 1) := by decide +kernel
theorem dX3_add_35 : decode cX3_add 35 = .ok (.iastore, 1) := by decide +kernel
theorem dX3_add_36 : decode cX3_add 36 = .ok (.aload_n 0, 1) := by decide +kernel
theorem dX3_add_37 : decode cX3_add 37 = .ok (.getfield 16, 3) := by decide +kernel
theorem dX3_add_40 : decode cX3_add 40 = .ok (.iload 4, 2) := by decide +kernel
theorem dX3_add_42 : decode cX3_add 42 = .ok (.iload_n 3, 1) := by decide +kernel
theorem dX3_add_43 : decode cX3_add 43 = .ok (.iastore, 1) := by decide +kernel
theorem dX3_add_44 : decode cX3_add 44 = .ok (.aload_n 0, 1) := by decide +kernel
theorem dX3_add_45 : decode cX3_add 45 = .ok (.dup, 1) := by decide +kernel
theorem dX3_add_46 : decode cX3_add 46 = .ok (.getfield 19, 3) := by decide +kernel
theorem dX3_add_49 : decode cX3_add 49 = .ok (.iconst 1, 1) := by decide +kernel
theorem dX3_add_50 : decode cX3_add 50 = .ok (.iadd, 1) := by decide +kernel
theorem dX3_add_51 : decode cX3_add 51 = .ok (.putfield 19, 3) := by decide +kernel
theorem dX3_add_54 : decode cX3_add 54 = .ok (.iload 4, 2) := by decide +kernel
theorem dX3_add_56 : decode cX3_add 56 = .ok (.ireturn, 1) := by decide +kernel
theorem dX3_hasRoom_0 : decode cX3_hasRoom 0 = .ok (.aload_n 0, 1) := by decide +kernel
theorem dX3_hasRoom_1 : decode cX3_hasRoom 1 = .ok (.getfield 19, 3) := by decide +kernel
theorem dX3_hasRoom_4 : decode cX3_hasRoom 4 = .ok (.bipush 7, 2) := by decide +kernel
theorem dX3_hasRoom_6 : decode cX3_hasRoom 6 = .ok (.if_icmp .ge 7, 3) := by decide +kernel
theorem dX3_hasRoom_9 : decode cX3_hasRoom 9 = .ok (.iconst 1, 1) := by decide +kernel
theorem dX3_hasRoom_10 : decode cX3_hasRoom 10 = .ok (.goto 4, 3) := by decide +kernel
theorem dX3_hasRoom_14 : decode cX3_hasRoom 14 = .ok (.ireturn, 1) := by decide +kernel
theorem dX3_init_0 : decode cX3_init 0 = .ok (.aload_n 0, 1) := by decide +kernel
theorem dX3_init_1 : decode cX3_init 1 = .ok (.invokespecial 1, 3) := by decide +kernel
theorem dX3_init_4 : decode cX3_init 4 = .ok (.aload_n 0, 1) := by decide +kernel
theorem dX3_init_5 : decode cX3_init 5 = .ok (.bipush 7, 2) := by decide +kernel
theorem dX3_init_7 : decode cX3_init 7 = .ok (.newarray .int, 2) := by decide +kernel
theorem dX3_init_9 : decode cX3_init 9 = .ok (.putfield 9, 3) := by decide +kernel
theorem dX3_init_12 : decode cX3_init 12 = .ok (.aload_n 0, 1) := by decide +kernel
theorem dX3_init_13 : decode cX3_init 13 = .ok (.bipush 7, 2) := by decide +kernel
theorem dX3_init_15 : decode cX3_init 15 = .ok (.newarray .int, 2) := by decide +kernel
theorem dX3_init_17 : decode cX3_init 17 = .ok (.putfield 13, 3) := by decide +kernel
theorem dX3_init_20 : decode cX3_init 20 = .ok (.aload_n 0, 1) := by decide +kernel
theorem dX3_init_21 : decode cX3_init 21 = .ok (.bipush 7, 2) := by decide +kernel
theorem dX3_init_23 : decode cX3_init 23 = .ok (.newarray .int, 2) := by decide +kernel
theorem dX3_init_25 : decode cX3_init 25 = .ok (.putfield 16, 3) := by decide +kernel
theorem dX3_init_28 : decode cX3_init 28 = .ok (.aload_n 0, 1) := by decide +kernel
theorem dX3_init_29 : decode cX3_init 29 = .ok (.iconst 0, 1) := by decide +kernel
theorem dX3_init_30 : decode cX3_init 30 = .ok (.putfield 19, 3) := by decide +kernel
theorem dX3_init_33 : decode cX3_init 33 = .ok (.aload_n 0, 1) := by decide +kernel
theorem dX3_init_34 : decode cX3_init 34 = .ok (.new 23, 3) := by decide +kernel
theorem dX3_init_37 : decode cX3_init 37 = .ok (.dup, 1) := by decide +kernel
theorem dX3_init_38 : decode cX3_init 38 = .ok (.bipush 7, 2) := by decide +kernel
theorem dX3_init_40 : decode cX3_init 40 = .ok (.invokespecial 25, 3) := by decide +kernel
theorem dX3_init_43 : decode cX3_init 43 = .ok (.putfield 28, 3) := by decide +kernel
theorem dX3_init_46 : decode cX3_init 46 = .ok (.aload_n 0, 1) := by decide +kernel
theorem dX3_init_47 : decode cX3_init 47 = .ok (.new 23, 3) := by decide +kernel
theorem dX3_init_50 : decode cX3_init 50 = .ok (.dup, 1) := by decide +kernel
theorem dX3_init_51 : decode cX3_init 51 = .ok (.bipush 7, 2) := by decide +kernel
theorem dX3_init_53 : decode cX3_init 53 = .ok (.invokespecial 25, 3) := by decide +kernel
theorem dX3_init_56 : decode cX3_init 56 = .ok (.putfield 32, 3) := by decide +kernel
theorem dX3_init_59 : decode cX3_init 59 = .ok (.aload_n 0, 1) := by decide +kernel
theorem dX3_init_60 : decode cX3_init 60 = .ok (.iconst 0, 1) := by decide +kernel
theorem dX3_init_61 : decode cX3_init 61 = .ok (.putfield 35, 3) := by decide +kernel
theorem dX3_init_64 : decode cX3_init 64 = .ok (.aload_n 0, 1) := by decide +kernel
theorem dX3_init_65 : decode cX3_init 65 = .ok (.iconst 0, 1) := by decide +kernel
theorem dX3_init_66 : decode cX3_init 66 = .ok (.putfield 38, 3) := by decide +kernel
theorem dX3_init_69 : decode cX3_init 69 = .ok (.aload_n 0, 1) := by decide +kernel
theorem dX3_init_70 : decode cX3_init 70 = .ok (.iconst 0, 1) := by decide +kernel
theorem dX3_init_71 : decode cX3_init 71 = .ok (.putfield 41, 3) := by decide +kernel
theorem dX3_init_74 : decode cX3_init 74 = .ok (.return_, 1) := by decide +kernel
theorem dX5_add_0 : decode cX5_add 0 = .ok (.aload_n 0, 1) := by decide +kernel
theorem dX5_add_1 : decode cX5_add 1 = .ok (.getfield 7, 3) := by decide +kernel
theorem dX5_add_4 : decode cX5_add 4 = .ok (.ifCond .lt 35, 3) := by decide +kernel
theorem dX5_add_7 : decode cX5_add 7 = .ok (.aload_n 0, 1) := by decide +kernel
theorem dX5_add_8 : decode cX5_add 8 = .ok (.getfield 7, 3) := by decide +kernel
theorem dX5_add_11 : decode cX5_add 11 = .ok (.aload_n 0, 1) := by decide +kernel
theorem dX5_add_12 : decode cX5_add 12 = .ok (.getfield 19, 3) := by decide +kernel
theorem dX5_add_15 : decode cX5_add 15 = .ok (.arraylength, 1) := by decide +kernel
theorem dX5_add_16 : decode cX5_add 16 = .ok (.if_icmp .ge 23, 3) := by decide +kernel
theorem dX5_add_19 : decode cX5_add 19 = .ok (.aload_n 0, 1) := by decide +kernel
theorem dX5_add_20 : decode cX5_add 20 = .ok (.getfield 19, 3) := by decide +kernel
theorem dX5_add_23 : decode cX5_add 23 = .ok (.aload_n 0, 1) := by decide +kernel
theorem dX5_add_24 : decode cX5_add 24 = .ok (.getfield 7, 3) := by decide +kernel
theorem dX5_add_27 : decode cX5_add 27 = .ok (.iload_n 1, 1) := by decide +kernel
theorem dX5_add_28 : decode cX5_add 28 = .ok (.iastore, 1) := by decide +kernel
theorem dX5_add_29 : decode cX5_add 29 = .ok (.aload_n 0, 1) := by decide +kernel
theorem dX5_add_30 : decode cX5_add 30 = .ok (.dup, 1) := by decide +kernel
theorem dX5_add_31 : decode cX5_add 31 = .ok (.getfield 7, 3) := by decide +kernel
theorem dX5_add_34 : decode cX5_add 34 = .ok (.iconst 1, 1) := by decide +kernel
theorem dX5_add_35 : decode cX5_add 35 = .ok (.iadd, 1) := by decide +kernel
theorem dX5_add_36 : decode cX5_add 36 = .ok (.putfield 7, 3) := by decide +kernel
theorem dX5_add_39 : decode cX5_add 39 = .ok (.return_, 1) := by decide +kernel
theorem dX5_clear_0 : decode cX5_clear 0 = .ok (.aload_n 0, 1) := by decide +kernel
theorem dX5_clear_1 : decode cX5_clear 1 = .ok (.iconst 0, 1) := by decide +kernel
theorem dX5_clear_2 : decode cX5_clear 2 = .ok (.putfield 7, 3) := by decide +kernel
theorem dX5_clear_5 : decode cX5_clear 5 = .ok (.return_, 1) := by decide +kernel
theorem dX5_has_0 : decode cX5_has 0 = .ok (.iload_n 1, 1) := by decide +kernel
theorem dX5_has_1 : decode cX5_has 1 = .ok (.ifCond .lt 15, 3) := by decide +kernel
theorem dX5_has_4 : decode cX5_has 4 = .ok (.iload_n 1, 1) := by decide +kernel
theorem dX5_has_5 : decode cX5_has 5 = .ok (.aload_n 0, 1) := by decide +kernel
theorem dX5_has_6 : decode cX5_has 6 = .ok (.getfield 7, 3) := by decide +kernel
theorem dX5_has_9 : decode cX5_has 9 = .ok (.if_icmp .ge 7, 3) := by decide +kernel
theorem dX5_has_12 : decode cX5_has 12 = .ok (.iconst 1, 1) := by decide +kernel
theorem dX5_has_13 : decode cX5_has 13 = .ok (.goto 4, 3) := by decide +kernel
theorem dX5_has_16 : decode cX5_has 16 = .ok (.iconst 0, 1) := by decide +kernel
theorem dX5_has_17 : decode cX5_has 17 = .ok (.ireturn, 1) := by decide +kernel
theorem dX5_init_0 : decode cX5_init 0 = .ok (.aload_n 0, 1) := by decide +kernel
theorem dX5_init_1 : decode cX5_init 1 = .ok (.invokespecial 1, 3) := by decide +kernel
theorem dX5_init_4 : decode cX5_init 4 = .ok (.aload_n 0, 1) := by decide +kernel
theorem dX5_init_5 : decode cX5_init 5 = .ok (.iconst 0, 1) := by decide +kernel
theorem dX5_init_6 : decode cX5_init 6 = .ok (.putfield 7, 3) := by decide +kernel
theorem dX5_init_9 : decode cX5_init 9 = .ok (.aload_n 0, 1) := by decide +kernel
theorem dX5_init_10 : decode cX5_init 10 = .ok (.iconst 0, 1) := by decide +kernel
theorem dX5_init_11 : decode cX5_init 11 = .ok (.iload_n 1, 1) := by decide +kernel
theorem dX5_init_12 : decode cX5_init 12 = .ok (.invokestatic 13, 3) := by decide +kernel
theorem dX5_init_15 : decode cX5_init 15 = .ok (.newarray .int, 2) := by decide +kernel
theorem dX5_init_17 : decode cX5_init 17 = .ok (.putfield 19, 3) := by decide +kernel
theorem dX5_init_20 : decode cX5_init 20 = .ok (.return_, 1) := by decide +kernel
theorem dX5_room_0 : decode cX5_room 0 = .ok (.aload_n 0, 1) := by decide +kernel
theorem dX5_room_1 : decode cX5_room 1 = .ok (.getfield 19, 3) := by decide +kernel
theorem dX5_room_4 : decode cX5_room 4 = .ok (.arraylength, 1) := by decide +kernel
theorem dX5_room_5 : decode cX5_room 5 = .ok (.aload_n 0, 1) := by decide +kernel
theorem dX5_room_6 : decode cX5_room 6 = .ok (.getfield 7, 3) := by decide +kernel
theorem dX5_room_9 : decode cX5_room 9 = .ok (.isub, 1) := by decide +kernel
theorem dX5_room_10 : decode cX5_room 10 = .ok (.ireturn, 1) := by decide +kernel
theorem dX5_takeFrom_0 : decode cX5_takeFrom 0 = .ok (.aload_n 0, 1) := by decide +kernel
theorem dX5_takeFrom_1 : decode cX5_takeFrom 1 = .ok (.aload_n 1, 1) := by decide +kernel
theorem dX5_takeFrom_2 : decode cX5_takeFrom 2 = .ok (.getfield 7, 3) := by decide +kernel
theorem dX5_takeFrom_5 : decode cX5_takeFrom 5 = .ok (.aload_n 0, 1) := by decide +kernel
theorem dX5_takeFrom_6 : decode cX5_takeFrom 6 = .ok (.getfield 19, 3) := by decide +kernel
theorem dX5_takeFrom_9 : decode cX5_takeFrom 9 = .ok (.arraylength, 1) := by decide +kernel
theorem dX5_takeFrom_10 : decode cX5_takeFrom 10 = .ok (.invokestatic 23, 3) := by decide +kernel
theorem dX5_takeFrom_13 : decode cX5_takeFrom 13 = .ok (.putfield 7, 3) := by decide +kernel
theorem dX5_takeFrom_16 : decode cX5_takeFrom 16 = .ok (.iconst 0, 1) := by decide +kernel
theorem dX5_takeFrom_17 : decode cX5_takeFrom 17 = .ok (.istore_n 2, 1) := by decide +kernel
theorem dX5_takeFrom_18 : decode cX5_takeFrom 18 = .ok (.iload_n 2, 1) := by decide +kernel
theorem dX5_takeFrom_19 : decode cX5_takeFrom 19 = .ok (.aload_n 0, 1) := by decide +kernel
theorem dX5_takeFrom_20 : decode cX5_takeFrom 20 = .ok (.getfield 7, 3) := by decide +kernel
theorem dX5_takeFrom_23 : decode cX5_takeFrom 23 = .ok (.if_icmp .ge 20, 3) := by decide +kernel
theorem dX5_takeFrom_43 : decode cX5_takeFrom 43 = .ok (.return_, 1) := by decide +kernel
theorem dX6_begin_0 : decode cX6_begin 0 = .ok (.aload_n 0, 1) := by decide +kernel
theorem dX6_begin_1 : decode cX6_begin 1 = .ok (.iload_n 1, 1) := by decide +kernel
theorem dX6_begin_2 : decode cX6_begin 2 = .ok (.putfield 7, 3) := by decide +kernel
theorem dX6_begin_5 : decode cX6_begin 5 = .ok (.aload_n 0, 1) := by decide +kernel
theorem dX6_begin_6 : decode cX6_begin 6 = .ok (.iconst 0, 1) := by decide +kernel
theorem dX6_begin_7 : decode cX6_begin 7 = .ok (.bipush 24, 2) := by decide +kernel
theorem dX6_begin_9 : decode cX6_begin 9 = .ok (.iload_n 2, 1) := by decide +kernel
theorem dX6_begin_10 : decode cX6_begin 10 = .ok (.invokestatic 20, 3) := by decide +kernel
theorem dX6_begin_13 : decode cX6_begin 13 = .ok (.invokestatic 26, 3) := by decide +kernel
theorem dX6_begin_16 : decode cX6_begin 16 = .ok (.putfield 13, 3) := by decide +kernel
theorem dX6_begin_19 : decode cX6_begin 19 = .ok (.iconst 0, 1) := by decide +kernel
theorem dX6_begin_20 : decode cX6_begin 20 = .ok (.istore_n 3, 1) := by decide +kernel
theorem dX6_begin_21 : decode cX6_begin 21 = .ok (.iload_n 3, 1) := by decide +kernel
theorem dX6_begin_22 : decode cX6_begin 22 = .ok (.bipush 24, 2) := by decide +kernel
theorem dX6_begin_24 : decode cX6_begin 24 = .ok (.if_icmp .ge 16, 3) := by decide +kernel
theorem dX6_begin_27 : decode cX6_begin 27 = .ok (.aload_n 0, 1) := by decide +kernel
theorem dX6_begin_28 : decode cX6_begin 28 = .ok (.getfield 16, 3) := by decide +kernel
theorem dX6_begin_31 : decode cX6_begin 31 = .ok (.iload_n 3, 1) := by decide +kernel
theorem dX6_begin_32 : decode cX6_begin 32 = .ok (.iconst 0, 1) := by decide +kernel
theorem dX6_begin_33 : decode cX6_begin 33 = .ok (.iastore, 1) := by decide +kernel
theorem dX6_begin_34 : decode cX6_begin 34 = .ok (.iinc 3 1, 3) := by decide +kernel
theorem dX6_begin_37 : decode cX6_begin 37 = .ok (.goto (-16), 3) := by decide +kernel
theorem dX6_begin_40 : decode cX6_begin 40 = .ok (.return_, 1) := by decide +kernel
theorem dX6_drop_0 : decode cX6_drop 0 = .ok (.aload_n 0, 1) := by decide +kernel
theorem dX6_drop_1 : decode cX6_drop 1 = .ok (.iconst 0, 1) := by decide +kernel
theorem dX6_drop_2 : decode cX6_drop 2 = .ok (.putfield 7, 3) := by decide +kernel
theorem dX6_drop_5 : decode cX6_drop 5 = .ok (.aload_n 0, 1) := by decide +kernel
theorem dX6_drop_6 : decode cX6_drop 6 = .ok (.iconst 0, 1) := by decide +kernel
theorem dX6_drop_7 : decode cX6_drop 7 = .ok (.putfield 13, 3) := by decide +kernel
theorem dX6_drop_10 : decode cX6_drop 10 = .ok (.return_, 1) := by decide +kernel
theorem dX6_init_0 : decode cX6_init 0 = .ok (.aload_n 0, 1) := by decide +kernel
theorem dX6_init_1 : decode cX6_init 1 = .ok (.invokespecial 1, 3) := by decide +kernel
theorem dX6_init_4 : decode cX6_init 4 = .ok (.aload_n 0, 1) := by decide +kernel
theorem dX6_init_5 : decode cX6_init 5 = .ok (.iconst 0, 1) := by decide +kernel
theorem dX6_init_6 : decode cX6_init 6 = .ok (.putfield 7, 3) := by decide +kernel
theorem dX6_init_9 : decode cX6_init 9 = .ok (.aload_n 0, 1) := by decide +kernel
theorem dX6_init_10 : decode cX6_init 10 = .ok (.iconst 0, 1) := by decide +kernel
theorem dX6_init_11 : decode cX6_init 11 = .ok (.putfield 13, 3) := by decide +kernel
theorem dX6_init_14 : decode cX6_init 14 = .ok (.aload_n 0, 1) := by decide +kernel
theorem dX6_init_15 : decode cX6_init 15 = .ok (.bipush 24, 2) := by decide +kernel
theorem dX6_init_17 : decode cX6_init 17 = .ok (.newarray .int, 2) := by decide +kernel
theorem dX6_init_19 : decode cX6_init 19 = .ok (.putfield 16, 3) := by decide +kernel
theorem dX6_init_22 : decode cX6_init 22 = .ok (.return_, 1) := by decide +kernel
theorem dX6_isMissing_0 : decode cX6_isMissing 0 = .ok (.aload_n 0, 1) := by decide +kernel
theorem dX6_isMissing_1 : decode cX6_isMissing 1 = .ok (.getfield 7, 3) := by decide +kernel
theorem dX6_isMissing_4 : decode cX6_isMissing 4 = .ok (.ifCond .ne 7, 3) := by decide +kernel
theorem dX6_isMissing_7 : decode cX6_isMissing 7 = .ok (.iconst 1, 1) := by decide +kernel
theorem dX6_isMissing_8 : decode cX6_isMissing 8 = .ok (.goto 4, 3) := by decide +kernel
theorem dX6_isMissing_12 : decode cX6_isMissing 12 = .ok (.ireturn, 1) := by decide +kernel
theorem dX7_addThing_0 : decode cX7_addThing 0 = .ok (.aload_n 0, 1) := by decide +kernel
theorem dX7_addThing_1 : decode cX7_addThing 1 = .ok (.getfield 25, 3) := by decide +kernel
theorem dX7_addThing_4 : decode cX7_addThing 4 = .ok (.istore_n 3, 1) := by decide +kernel
theorem dX7_addThing_5 : decode cX7_addThing 5 = .ok (.iload_n 3, 1) := by decide +kernel
theorem dX7_addThing_6 : decode cX7_addThing 6 = .ok (.ifCond .lt 9, 3) := by decide +kernel
theorem dX7_addThing_9 : decode cX7_addThing 9 = .ok (.iload_n 3, 1) := by decide +kernel
theorem dX7_addThing_10 : decode cX7_addThing 10 = .ok (.bipush 40, 2) := by decide +kernel
theorem dX7_addThing_12 : decode cX7_addThing 12 = .ok (.if_icmp .lt 5, 3) := by decide +kernel
theorem dX7_addThing_17 : decode cX7_addThing 17 = .ok (.aload_n 0, 1) := by decide +kernel
theorem dX7_addThing_18 : decode cX7_addThing 18 = .ok (.getfield 13, 3) := by decide +kernel
theorem dX7_addThing_21 : decode cX7_addThing 21 = .ok (.iload_n 3, 1) := by decide +kernel
theorem dX7_addThing_22 : decode cX7_addThing 22 = .ok (.iload_n 1, 1) := by decide +kernel
theorem dX7_addThing_23 : decode cX7_addThing 23 = .ok (.iastore, 1) := by decide +kernel
theorem dX7_addThing_24 : decode cX7_addThing 24 = .ok (.aload_n 0, 1) := by decide +kernel
theorem dX7_addThing_25 : decode cX7_addThing 25 = .ok (.getfield 16, 3) := by decide +kernel
theorem dX7_addThing_28 : decode cX7_addThing 28 = .ok (.iload_n 3, 1) := by decide +kernel
theorem dX7_addThing_29 : decode cX7_addThing 29 = .ok (.iload_n 2, 1) := by decide +kernel
theorem dX7_addThing_30 : decode cX7_addThing 30 = .ok (.iastore, 1) := by decide +kernel
theorem dX7_addThing_31 : decode cX7_addThing 31 = .ok (.aload_n 0, 1) := by decide +kernel
theorem dX7_addThing_32 : decode cX7_addThing 32 = .ok (.getfield 19, 3) := by decide +kernel
theorem dX7_addThing_35 : decode cX7_addThing 35 = .ok (.iload_n 3, 1) := by decide +kernel
theorem dX7_addThing_36 : decode cX7_addThing 36 = .ok (.iconst 0, 1) := by decide +kernel
theorem dX7_addThing_37 : decode cX7_addThing 37 = .ok (.iastore, 1) := by decide +kernel
theorem dX7_addThing_38 : decode cX7_addThing 38 = .ok (.aload_n 0, 1) := by decide +kernel
theorem dX7_addThing_39 : decode cX7_addThing 39 = .ok (.getfield 22, 3) := by decide +kernel
theorem dX7_addThing_42 : decode cX7_addThing 42 = .ok (.iload_n 3, 1) := by decide +kernel
theorem dX7_addThing_43 : decode cX7_addThing 43 = .ok (.iconst 0, 1) := by decide +kernel
theorem dX7_addThing_44 : decode cX7_addThing 44 = .ok (.iastore, 1) := by decide +kernel
theorem dX7_addThing_45 : decode cX7_addThing 45 = .ok (.aload_n 0, 1) := by decide +kernel
theorem dX7_addThing_46 : decode cX7_addThing 46 = .ok (.iload_n 2, 1) := by decide +kernel
theorem dX7_addThing_47 : decode cX7_addThing 47 = .ok (.iload_n 3, 1) := by decide +kernel
theorem dX7_addThing_48 : decode cX7_addThing 48 = .ok (.invokevirtual 42, 3) := by decide +kernel
theorem dX7_addThing_51 : decode cX7_addThing 51 = .ok (.aload_n 0, 1) := by decide +kernel
theorem dX7_addThing_52 : decode cX7_addThing 52 = .ok (.dup, 1) := by decide +kernel
theorem dX7_addThing_53 : decode cX7_addThing 53 = .ok (.getfield 25, 3) := by decide +kernel
theorem dX7_addThing_56 : decode cX7_addThing 56 = .ok (.iconst 1, 1) := by decide +kernel
theorem dX7_addThing_57 : decode cX7_addThing 57 = .ok (.iadd, 1) := by decide +kernel
theorem dX7_addThing_58 : decode cX7_addThing 58 = .ok (.putfield 25, 3) := by decide +kernel
theorem dX7_addThing_61 : decode cX7_addThing 61 = .ok (.iload_n 3, 1) := by decide +kernel
theorem dX7_addThing_62 : decode cX7_addThing 62 = .ok (.ireturn, 1) := by decide +kernel
theorem dX7_countThings_0 : decode cX7_countThings 0 = .ok (.iconst 0, 1) := by decide +kernel
theorem dX7_countThings_1 : decode cX7_countThings 1 = .ok (.istore_n 1, 1) := by decide +kernel
theorem dX7_countThings_2 : decode cX7_countThings 2 = .ok (.iconst 0, 1) := by decide +kernel
theorem dX7_countThings_3 : decode cX7_countThings 3 = .ok (.istore_n 2, 1) := by decide +kernel
theorem dX7_countThings_4 : decode cX7_countThings 4 = .ok (.iload_n 2, 1) := by decide +kernel
theorem dX7_countThings_5 : decode cX7_countThings 5 = .ok (.aload_n 0, 1) := by decide +kernel
theorem dX7_countThings_6 : decode cX7_countThings 6 = .ok (.getfield 25, 3) := by decide +kernel
theorem dX7_countThings_9 : decode cX7_countThings 9 = .ok (.if_icmp .ge 27, 3) := by decide +kernel
theorem dX7_countThings_36 : decode cX7_countThings 36 = .ok (.iload_n 1, 1) := by decide +kernel
theorem dX7_countThings_37 : decode cX7_countThings 37 = .ok (.ireturn, 1) := by decide +kernel
theorem dX7_hasRoom_0 : decode cX7_hasRoom 0 = .ok (.aload_n 0, 1) := by decide +kernel
theorem dX7_hasRoom_1 : decode cX7_hasRoom 1 = .ok (.getfield 25, 3) := by decide +kernel
theorem dX7_hasRoom_4 : decode cX7_hasRoom 4 = .ok (.bipush 40, 2) := by decide +kernel
theorem dX7_hasRoom_6 : decode cX7_hasRoom 6 = .ok (.if_icmp .ge 7, 3) := by decide +kernel
theorem dX7_hasRoom_9 : decode cX7_hasRoom 9 = .ok (.iconst 1, 1) := by decide +kernel
theorem dX7_hasRoom_10 : decode cX7_hasRoom 10 = .ok (.goto 4, 3) := by decide +kernel
theorem dX7_hasRoom_14 : decode cX7_hasRoom 14 = .ok (.ireturn, 1) := by decide +kernel
theorem dX7_hasThing_0 : decode cX7_hasThing 0 = .ok (.iload_n 1, 1) := by decide +kernel
theorem dX7_hasThing_1 : decode cX7_hasThing 1 = .ok (.ifCond .lt 21, 3) := by decide +kernel
theorem dX7_hasThing_4 : decode cX7_hasThing 4 = .ok (.iload_n 1, 1) := by decide +kernel
theorem dX7_hasThing_5 : decode cX7_hasThing 5 = .ok (.aload_n 0, 1) := by decide +kernel
theorem dX7_hasThing_6 : decode cX7_hasThing 6 = .ok (.getfield 25, 3) := by decide +kernel
theorem dX7_hasThing_9 : decode cX7_hasThing 9 = .ok (.if_icmp .ge 13, 3) := by decide +kernel
theorem dX7_hasThing_12 : decode cX7_hasThing 12 = .ok (.iload_n 1, 1) := by decide +kernel
theorem dX7_hasThing_13 : decode cX7_hasThing 13 = .ok (.bipush 40, 2) := by decide +kernel
theorem dX7_hasThing_15 : decode cX7_hasThing 15 = .ok (.if_icmp .ge 7, 3) := by decide +kernel
theorem dX7_hasThing_18 : decode cX7_hasThing 18 = .ok (.iconst 1, 1) := by decide +kernel
theorem dX7_hasThing_19 : decode cX7_hasThing 19 = .ok (.goto 4, 3) := by decide +kernel
theorem dX7_hasThing_22 : decode cX7_hasThing 22 = .ok (.iconst 0, 1) := by decide +kernel
theorem dX7_hasThing_23 : decode cX7_hasThing 23 = .ok (.ireturn, 1) := by decide +kernel
theorem dX7_init_0 : decode cX7_init 0 = .ok (.aload_n 0, 1) := by decide +kernel
theorem dX7_init_1 : decode cX7_init 1 = .ok (.invokespecial 1, 3) := by decide +kernel
theorem dX7_init_4 : decode cX7_init 4 = .ok (.aload_n 0, 1) := by decide +kernel
theorem dX7_init_5 : decode cX7_init 5 = .ok (.sipush 192, 3) := by decide +kernel
theorem dX7_init_8 : decode cX7_init 8 = .ok (.newarray .int, 2) := by decide +kernel
theorem dX7_init_10 : decode cX7_init 10 = .ok (.putfield 9, 3) := by decide +kernel
theorem dX7_init_13 : decode cX7_init 13 = .ok (.aload_n 0, 1) := by decide +kernel
theorem dX7_init_14 : decode cX7_init 14 = .ok (.bipush 40, 2) := by decide +kernel
theorem dX7_init_16 : decode cX7_init 16 = .ok (.newarray .int, 2) := by decide +kernel
theorem dX7_init_18 : decode cX7_init 18 = .ok (.putfield 13, 3) := by decide +kernel
theorem dX7_init_21 : decode cX7_init 21 = .ok (.aload_n 0, 1) := by decide +kernel
theorem dX7_init_22 : decode cX7_init 22 = .ok (.bipush 40, 2) := by decide +kernel
theorem dX7_init_24 : decode cX7_init 24 = .ok (.newarray .int, 2) := by decide +kernel
theorem dX7_init_26 : decode cX7_init 26 = .ok (.putfield 16, 3) := by decide +kernel
theorem dX7_init_29 : decode cX7_init 29 = .ok (.aload_n 0, 1) := by decide +kernel
theorem dX7_init_30 : decode cX7_init 30 = .ok (.bipush 40, 2) := by decide +kernel
theorem dX7_init_32 : decode cX7_init 32 = .ok (.newarray .int, 2) := by decide +kernel
theorem dX7_init_34 : decode cX7_init 34 = .ok (.putfield 19, 3) := by decide +kernel
theorem dX7_init_37 : decode cX7_init 37 = .ok (.aload_n 0, 1) := by decide +kernel
theorem dX7_init_38 : decode cX7_init 38 = .ok (.bipush 40, 2) := by decide +kernel
theorem dX7_init_40 : decode cX7_init 40 = .ok (.newarray .int, 2) := by decide +kernel
theorem dX7_init_42 : decode cX7_init 42 = .ok (.putfield 22, 3) := by decide +kernel
theorem dX7_init_45 : decode cX7_init 45 = .ok (.aload_n 0, 1) := by decide +kernel
theorem dX7_init_46 : decode cX7_init 46 = .ok (.iconst 0, 1) := by decide +kernel
theorem dX7_init_47 : decode cX7_init 47 = .ok (.putfield 25, 3) := by decide +kernel
theorem dX7_init_50 : decode cX7_init 50 = .ok (.iconst 0, 1) := by decide +kernel
theorem dX7_init_51 : decode cX7_init 51 = .ok (.istore_n 1, 1) := by decide +kernel
theorem dX7_init_52 : decode cX7_init 52 = .ok (.iload_n 1, 1) := by decide +kernel
theorem dX7_init_53 : decode cX7_init 53 = .ok (.sipush 192, 3) := by decide +kernel
theorem dX7_init_56 : decode cX7_init 56 = .ok (.if_icmp .ge 16, 3) := by decide +kernel
theorem dX7_init_59 : decode cX7_init 59 = .ok (.aload_n 0, 1) := by decide +kernel
theorem dX7_init_60 : decode cX7_init 60 = .ok (.getfield 9, 3) := by decide +kernel
theorem dX7_init_63 : decode cX7_init 63 = .ok (.iload_n 1, 1) := by decide +kernel
theorem dX7_init_64 : decode cX7_init 64 = .ok (.iconst (-1), 1) := by decide +kernel
theorem dX7_init_65 : decode cX7_init 65 = .ok (.iastore, 1) := by decide +kernel
theorem dX7_init_66 : decode cX7_init 66 = .ok (.iinc 1 1, 3) := by decide +kernel
theorem dX7_init_69 : decode cX7_init 69 = .ok (.goto (-17), 3) := by decide +kernel
theorem dX7_init_72 : decode cX7_init 72 = .ok (.return_, 1) := by decide +kernel
theorem dX7_isCell_0 : decode cX7_isCell 0 = .ok (.iload_n 0, 1) := by decide +kernel
theorem dX7_isCell_1 : decode cX7_isCell 1 = .ok (.ifCond .lt 14, 3) := by decide +kernel
theorem dX7_isCell_4 : decode cX7_isCell 4 = .ok (.iload_n 0, 1) := by decide +kernel
theorem dX7_isCell_5 : decode cX7_isCell 5 = .ok (.sipush 192, 3) := by decide +kernel
theorem dX7_isCell_8 : decode cX7_isCell 8 = .ok (.if_icmp .ge 7, 3) := by decide +kernel
theorem dX7_isCell_11 : decode cX7_isCell 11 = .ok (.iconst 1, 1) := by decide +kernel
theorem dX7_isCell_12 : decode cX7_isCell 12 = .ok (.goto 4, 3) := by decide +kernel
theorem dX7_isCell_15 : decode cX7_isCell 15 = .ok (.iconst 0, 1) := by decide +kernel
theorem dX7_isCell_16 : decode cX7_isCell 16 = .ok (.ireturn, 1) := by decide +kernel
theorem dX7_isFree_0 : decode cX7_isFree 0 = .ok (.iload_n 1, 1) := by decide +kernel
theorem dX7_isFree_1 : decode cX7_isFree 1 = .ok (.invokestatic 29, 3) := by decide +kernel
theorem dX7_isFree_4 : decode cX7_isFree 4 = .ok (.ifCond .eq 17, 3) := by decide +kernel
theorem dX7_isFree_7 : decode cX7_isFree 7 = .ok (.aload_n 0, 1) := by decide +kernel
theorem dX7_isFree_8 : decode cX7_isFree 8 = .ok (.getfield 9, 3) := by decide +kernel
theorem dX7_isFree_11 : decode cX7_isFree 11 = .ok (.iload_n 1, 1) := by decide +kernel
theorem dX7_isFree_12 : decode cX7_isFree 12 = .ok (.iaload, 1) := by decide +kernel
theorem dX7_isFree_13 : decode cX7_isFree 13 = .ok (.iconst (-1), 1) := by decide +kernel
theorem dX7_isFree_14 : decode cX7_isFree 14 = .ok (.if_icmp .ne 7, 3) := by decide +kernel
theorem dX7_isFree_17 : decode cX7_isFree 17 = .ok (.iconst 1, 1) := by decide +kernel
theorem dX7_isFree_18 : decode cX7_isFree 18 = .ok (.goto 4, 3) := by decide +kernel
theorem dX7_isFree_21 : decode cX7_isFree 21 = .ok (.iconst 0, 1) := by decide +kernel
theorem dX7_isFree_22 : decode cX7_isFree 22 = .ok (.ireturn, 1) := by decide +kernel
theorem dX7_isSide_0 : decode cX7_isSide 0 = .ok (.iload_n 0, 1) := by decide +kernel
theorem dX7_isSide_1 : decode cX7_isSide 1 = .ok (.ifCond .lt 13, 3) := by decide +kernel
theorem dX7_isSide_4 : decode cX7_isSide 4 = .ok (.iload_n 0, 1) := by decide +kernel
theorem dX7_isSide_5 : decode cX7_isSide 5 = .ok (.bipush 8, 2) := by decide +kernel
theorem dX7_isSide_7 : decode cX7_isSide 7 = .ok (.if_icmp .ge 7, 3) := by decide +kernel
theorem dX7_isSide_10 : decode cX7_isSide 10 = .ok (.iconst 1, 1) := by decide +kernel
theorem dX7_isSide_11 : decode cX7_isSide 11 = .ok (.goto 4, 3) := by decide +kernel
theorem dX7_isSide_14 : decode cX7_isSide 14 = .ok (.iconst 0, 1) := by decide +kernel
theorem dX7_isSide_15 : decode cX7_isSide 15 = .ok (.ireturn, 1) := by decide +kernel
theorem dX7_letThingsGo_0 : decode cX7_letThingsGo 0 = .ok (.iconst 0, 1) := by decide +kernel
theorem dX7_letThingsGo_1 : decode cX7_letThingsGo 1 = .ok (.istore_n 2, 1) := by decide +kernel
theorem dX7_letThingsGo_2 : decode cX7_letThingsGo 2 = .ok (.iload_n 2, 1) := by decide +kernel
theorem dX7_letThingsGo_3 : decode cX7_letThingsGo 3 = .ok (.aload_n 0, 1) := by decide +kernel
theorem dX7_letThingsGo_4 : decode cX7_letThingsGo 4 = .ok (.getfield 25, 3) := by decide +kernel
theorem dX7_letThingsGo_7 : decode cX7_letThingsGo 7 = .ok (.if_icmp .ge 46, 3) := by decide +kernel
theorem dX7_letThingsGo_53 : decode cX7_letThingsGo 53 = .ok (.return_, 1) := by decide +kernel
theorem dX7_settle_0 : decode cX7_settle 0 = .ok (.iload_n 1, 1) := by decide +kernel
theorem dX7_settle_1 : decode cX7_settle 1 = .ok (.invokestatic 29, 3) := by decide +kernel
theorem dX7_settle_4 : decode cX7_settle 4 = .ok (.ifCond .eq 10, 3) := by decide +kernel
theorem dX7_settle_7 : decode cX7_settle 7 = .ok (.aload_n 0, 1) := by decide +kernel
theorem dX7_settle_8 : decode cX7_settle 8 = .ok (.getfield 9, 3) := by decide +kernel
theorem dX7_settle_11 : decode cX7_settle 11 = .ok (.iload_n 1, 1) := by decide +kernel
theorem dX7_settle_12 : decode cX7_settle 12 = .ok (.iload_n 2, 1) := by decide +kernel
theorem dX7_settle_13 : decode cX7_settle 13 = .ok (.iastore, 1) := by decide +kernel
theorem dX7_settle_14 : decode cX7_settle 14 = .ok (.return_, 1) := by decide +kernel
theorem dX7_takeFrom_0 : decode cX7_takeFrom 0 = .ok (.aload_n 1, 1) := by decide +kernel
theorem dX7_takeFrom_1 : decode cX7_takeFrom 1 = .ok (.getfield 9, 3) := by decide +kernel
theorem dX7_takeFrom_4 : decode cX7_takeFrom 4 = .ok (.iconst 0, 1) := by decide +kernel
theorem dX7_takeFrom_5 : decode cX7_takeFrom 5 = .ok (.aload_n 0, 1) := by decide +kernel
theorem dX7_takeFrom_6 : decode cX7_takeFrom 6 = .ok (.getfield 9, 3) := by decide +kernel
theorem dX7_takeFrom_9 : decode cX7_takeFrom 9 = .ok (.iconst 0, 1) := by decide +kernel
theorem dX7_takeFrom_10 : decode cX7_takeFrom 10 = .ok (.sipush 192, 3) := by decide +kernel
theorem dX7_takeFrom_13 : decode cX7_takeFrom 13 = .ok (.invokestatic 60, 3) := by decide +kernel
theorem dX7_takeFrom_16 : decode cX7_takeFrom 16 = .ok (.aload_n 1, 1) := by decide +kernel
theorem dX7_takeFrom_17 : decode cX7_takeFrom 17 = .ok (.getfield 13, 3) := by decide +kernel
theorem dX7_takeFrom_20 : decode cX7_takeFrom 20 = .ok (.iconst 0, 1) := by decide +kernel
theorem dX7_takeFrom_21 : decode cX7_takeFrom 21 = .ok (.aload_n 0, 1) := by decide +kernel
theorem dX7_takeFrom_22 : decode cX7_takeFrom 22 = .ok (.getfield 13, 3) := by decide +kernel
theorem dX7_takeFrom_25 : decode cX7_takeFrom 25 = .ok (.iconst 0, 1) := by decide +kernel
theorem dX7_takeFrom_26 : decode cX7_takeFrom 26 = .ok (.bipush 40, 2) := by decide +kernel
theorem dX7_takeFrom_28 : decode cX7_takeFrom 28 = .ok (.invokestatic 60, 3) := by decide +kernel
theorem dX7_takeFrom_31 : decode cX7_takeFrom 31 = .ok (.aload_n 1, 1) := by decide +kernel
theorem dX7_takeFrom_32 : decode cX7_takeFrom 32 = .ok (.getfield 16, 3) := by decide +kernel
theorem dX7_takeFrom_35 : decode cX7_takeFrom 35 = .ok (.iconst 0, 1) := by decide +kernel
theorem dX7_takeFrom_36 : decode cX7_takeFrom 36 = .ok (.aload_n 0, 1) := by decide +kernel
theorem dX7_takeFrom_37 : decode cX7_takeFrom 37 = .ok (.getfield 16, 3) := by decide +kernel
theorem dX7_takeFrom_40 : decode cX7_takeFrom 40 = .ok (.iconst 0, 1) := by decide +kernel
theorem dX7_takeFrom_41 : decode cX7_takeFrom 41 = .ok (.bipush 40, 2) := by decide +kernel
theorem dX7_takeFrom_43 : decode cX7_takeFrom 43 = .ok (.invokestatic 60, 3) := by decide +kernel
theorem dX7_takeFrom_46 : decode cX7_takeFrom 46 = .ok (.aload_n 1, 1) := by decide +kernel
theorem dX7_takeFrom_47 : decode cX7_takeFrom 47 = .ok (.getfield 19, 3) := by decide +kernel
theorem dX7_takeFrom_50 : decode cX7_takeFrom 50 = .ok (.iconst 0, 1) := by decide +kernel
theorem dX7_takeFrom_51 : decode cX7_takeFrom 51 = .ok (.aload_n 0, 1) := by decide +kernel
theorem dX7_takeFrom_52 : decode cX7_takeFrom 52 = .ok (.getfield 19, 3) := by decide +kernel
theorem dX7_takeFrom_55 : decode cX7_takeFrom 55 = .ok (.iconst 0, 1) := by decide +kernel
theorem dX7_takeFrom_56 : decode cX7_takeFrom 56 = .ok (.bipush 40, 2) := by decide +kernel
theorem dX7_takeFrom_58 : decode cX7_takeFrom 58 = .ok (.invokestatic 60, 3) := by decide +kernel
theorem dX7_takeFrom_61 : decode cX7_takeFrom 61 = .ok (.aload_n 1, 1) := by decide +kernel
theorem dX7_takeFrom_62 : decode cX7_takeFrom 62 = .ok (.getfield 22, 3) := by decide +kernel
theorem dX7_takeFrom_65 : decode cX7_takeFrom 65 = .ok (.iconst 0, 1) := by decide +kernel
theorem dX7_takeFrom_66 : decode cX7_takeFrom 66 = .ok (.aload_n 0, 1) := by decide +kernel
theorem dX7_takeFrom_67 : decode cX7_takeFrom 67 = .ok (.getfield 22, 3) := by decide +kernel
theorem dX7_takeFrom_70 : decode cX7_takeFrom 70 = .ok (.iconst 0, 1) := by decide +kernel
theorem dX7_takeFrom_71 : decode cX7_takeFrom 71 = .ok (.bipush 40, 2) := by decide +kernel
theorem dX7_takeFrom_73 : decode cX7_takeFrom 73 = .ok (.invokestatic 60, 3) := by decide +kernel
theorem dX7_takeFrom_76 : decode cX7_takeFrom 76 = .ok (.aload_n 0, 1) := by decide +kernel
theorem dX7_takeFrom_77 : decode cX7_takeFrom 77 = .ok (.aload_n 1, 1) := by decide +kernel
theorem dX7_takeFrom_78 : decode cX7_takeFrom 78 = .ok (.getfield 25, 3) := by decide +kernel
theorem dX7_takeFrom_81 : decode cX7_takeFrom 81 = .ok (.putfield 25, 3) := by decide +kernel
theorem dX7_takeFrom_84 : decode cX7_takeFrom 84 = .ok (.return_, 1) := by decide +kernel
theorem dX9_begin_0 : decode cX9_begin 0 = .ok (.aload_n 0, 1) := by decide +kernel
theorem dX9_begin_1 : decode cX9_begin 1 = .ok (.iload_n 1, 1) := by decide +kernel
theorem dX9_begin_2 : decode cX9_begin 2 = .ok (.putfield 7, 3) := by decide +kernel
theorem dX9_begin_5 : decode cX9_begin 5 = .ok (.aload_n 0, 1) := by decide +kernel
theorem dX9_begin_6 : decode cX9_begin 6 = .ok (.iload_n 2, 1) := by decide +kernel
theorem dX9_begin_7 : decode cX9_begin 7 = .ok (.putfield 13, 3) := by decide +kernel
theorem dX9_begin_10 : decode cX9_begin 10 = .ok (.aload_n 0, 1) := by decide +kernel
theorem dX9_begin_11 : decode cX9_begin 11 = .ok (.iload_n 3, 1) := by decide +kernel
theorem dX9_begin_12 : decode cX9_begin 12 = .ok (.putfield 16, 3) := by decide +kernel
theorem dX9_begin_15 : decode cX9_begin 15 = .ok (.aload_n 0, 1) := by decide +kernel
theorem dX9_begin_16 : decode cX9_begin 16 = .ok (.iconst 5, 1) := by decide +kernel
theorem dX9_begin_17 : decode cX9_begin 17 = .ok (.putfield 19, 3) := by decide +kernel
theorem dX9_begin_20 : decode cX9_begin 20 = .ok (.aload_n 0, 1) := by decide +kernel
theorem dX9_begin_21 : decode cX9_begin 21 = .ok (.bipush 60, 2) := by decide +kernel
theorem dX9_begin_23 : decode cX9_begin 23 = .ok (.putfield 22, 3) := by decide +kernel
theorem dX9_begin_26 : decode cX9_begin 26 = .ok (.aload_n 0, 1) := by decide +kernel
theorem dX9_begin_27 : decode cX9_begin 27 = .ok (.iconst 0, 1) := by decide +kernel
theorem dX9_begin_28 : decode cX9_begin 28 = .ok (.putfield 25, 3) := by decide +kernel
theorem dX9_begin_31 : decode cX9_begin 31 = .ok (.aload_n 0, 1) := by decide +kernel
theorem dX9_begin_32 : decode cX9_begin 32 = .ok (.iconst 0, 1) := by decide +kernel
theorem dX9_begin_33 : decode cX9_begin 33 = .ok (.putfield 28, 3) := by decide +kernel
theorem dX9_begin_36 : decode cX9_begin 36 = .ok (.aload_n 0, 1) := by decide +kernel
theorem dX9_begin_37 : decode cX9_begin 37 = .ok (.iconst 0, 1) := by decide +kernel
theorem dX9_begin_38 : decode cX9_begin 38 = .ok (.putfield 32, 3) := by decide +kernel
theorem dX9_begin_41 : decode cX9_begin 41 = .ok (.aload_n 0, 1) := by decide +kernel
theorem dX9_begin_42 : decode cX9_begin 42 = .ok (.iconst 0, 1) := by decide +kernel
theorem dX9_begin_43 : decode cX9_begin 43 = .ok (.putfield 35, 3) := by decide +kernel
theorem dX9_begin_46 : decode cX9_begin 46 = .ok (.iconst 0, 1) := by decide +kernel
theorem dX9_begin_47 : decode cX9_begin 47 = .ok (.istore 4, 2) := by decide +kernel
theorem dX9_begin_49 : decode cX9_begin 49 = .ok (.iload 4, 2) := by decide +kernel
theorem dX9_begin_51 : decode cX9_begin 51 = .ok (.sipush 192, 3) := by decide +kernel
theorem dX9_begin_54 : decode cX9_begin 54 = .ok (.if_icmp .ge 25, 3) := by decide +kernel
theorem dX9_begin_57 : decode cX9_begin 57 = .ok (.aload_n 0, 1) := by decide +kernel
theorem dX9_begin_58 : decode cX9_begin 58 = .ok (.getfield 40, 3) := by decide +kernel
theorem dX9_begin_61 : decode cX9_begin 61 = .ok (.iload 4, 2) := by decide +kernel
theorem dX9_begin_63 : decode cX9_begin 63 = .ok (.iconst 0, 1) := by decide +kernel
theorem dX9_begin_64 : decode cX9_begin 64 = .ok (.iastore, 1) := by decide +kernel
theorem dX9_begin_65 : decode cX9_begin 65 = .ok (.aload_n 0, 1) := by decide +kernel
theorem dX9_begin_66 : decode cX9_begin 66 = .ok (.getfield 44, 3) := by decide +kernel
theorem dX9_begin_69 : decode cX9_begin 69 = .ok (.iload 4, 2) := by decide +kernel
theorem dX9_begin_71 : decode cX9_begin 71 = .ok (.iconst 0, 1) := by decide +kernel
theorem dX9_begin_72 : decode cX9_begin 72 = .ok (.iastore, 1) := by decide +kernel
theorem dX9_begin_73 : decode cX9_begin 73 = .ok (.iinc 4 1, 3) := by decide +kernel
theorem dX9_begin_76 : decode cX9_begin 76 = .ok (.goto (-27), 3) := by decide +kernel
theorem dX9_begin_79 : decode cX9_begin 79 = .ok (.return_, 1) := by decide +kernel
theorem dX9_init_0 : decode cX9_init 0 = .ok (.aload_n 0, 1) := by decide +kernel
theorem dX9_init_1 : decode cX9_init 1 = .ok (.invokespecial 1, 3) := by decide +kernel
theorem dX9_init_4 : decode cX9_init 4 = .ok (.aload_n 0, 1) := by decide +kernel
theorem dX9_init_5 : decode cX9_init 5 = .ok (.iconst 0, 1) := by decide +kernel
theorem dX9_init_6 : decode cX9_init 6 = .ok (.putfield 7, 3) := by decide +kernel
theorem dX9_init_9 : decode cX9_init 9 = .ok (.aload_n 0, 1) := by decide +kernel
theorem dX9_init_10 : decode cX9_init 10 = .ok (.iconst 0, 1) := by decide +kernel
theorem dX9_init_11 : decode cX9_init 11 = .ok (.putfield 13, 3) := by decide +kernel
theorem dX9_init_14 : decode cX9_init 14 = .ok (.aload_n 0, 1) := by decide +kernel
theorem dX9_init_15 : decode cX9_init 15 = .ok (.iconst 0, 1) := by decide +kernel
theorem dX9_init_16 : decode cX9_init 16 = .ok (.putfield 16, 3) := by decide +kernel
theorem dX9_init_19 : decode cX9_init 19 = .ok (.aload_n 0, 1) := by decide +kernel
theorem dX9_init_20 : decode cX9_init 20 = .ok (.iconst 5, 1) := by decide +kernel
theorem dX9_init_21 : decode cX9_init 21 = .ok (.putfield 19, 3) := by decide +kernel
theorem dX9_init_24 : decode cX9_init 24 = .ok (.aload_n 0, 1) := by decide +kernel
theorem dX9_init_25 : decode cX9_init 25 = .ok (.bipush 60, 2) := by decide +kernel
theorem dX9_init_27 : decode cX9_init 27 = .ok (.putfield 22, 3) := by decide +kernel
theorem dX9_init_30 : decode cX9_init 30 = .ok (.aload_n 0, 1) := by decide +kernel
theorem dX9_init_31 : decode cX9_init 31 = .ok (.iconst 0, 1) := by decide +kernel
theorem dX9_init_32 : decode cX9_init 32 = .ok (.putfield 25, 3) := by decide +kernel
theorem dX9_init_35 : decode cX9_init 35 = .ok (.aload_n 0, 1) := by decide +kernel
theorem dX9_init_36 : decode cX9_init 36 = .ok (.iconst 0, 1) := by decide +kernel
theorem dX9_init_37 : decode cX9_init 37 = .ok (.putfield 28, 3) := by decide +kernel
theorem dX9_init_40 : decode cX9_init 40 = .ok (.aload_n 0, 1) := by decide +kernel
theorem dX9_init_41 : decode cX9_init 41 = .ok (.iconst 0, 1) := by decide +kernel
theorem dX9_init_42 : decode cX9_init 42 = .ok (.putfield 32, 3) := by decide +kernel
theorem dX9_init_45 : decode cX9_init 45 = .ok (.aload_n 0, 1) := by decide +kernel
theorem dX9_init_46 : decode cX9_init 46 = .ok (.iconst 0, 1) := by decide +kernel
theorem dX9_init_47 : decode cX9_init 47 = .ok (.putfield 35, 3) := by decide +kernel
theorem dX9_init_50 : decode cX9_init 50 = .ok (.aload_n 0, 1) := by decide +kernel
theorem dX9_init_51 : decode cX9_init 51 = .ok (.sipush 192, 3) := by decide +kernel
theorem dX9_init_54 : decode cX9_init 54 = .ok (.newarray .int, 2) := by decide +kernel
theorem dX9_init_56 : decode cX9_init 56 = .ok (.putfield 40, 3) := by decide +kernel
theorem dX9_init_59 : decode cX9_init 59 = .ok (.aload_n 0, 1) := by decide +kernel
theorem dX9_init_60 : decode cX9_init 60 = .ok (.sipush 192, 3) := by decide +kernel
theorem dX9_init_63 : decode cX9_init 63 = .ok (.newarray .int, 2) := by decide +kernel
theorem dX9_init_65 : decode cX9_init 65 = .ok (.putfield 44, 3) := by decide +kernel
theorem dX9_init_68 : decode cX9_init 68 = .ok (.return_, 1) := by decide +kernel
end
section
theorem lf_c_X11_within_0 (v : Int32) (lo : Int32) (hi : Int32) (c_1 : v < lo) : ¬ inR v lo hi := by simp only [inR, Int32.le_iff_toInt_le, Int32.lt_iff_toInt_lt] at *; omega
theorem lf_c_X11_within_1 (v : Int32) (lo : Int32) (hi : Int32) (c_1 : ¬ v < lo) (c_2 : hi < v) : ¬ inR v lo hi := by simp only [inR, Int32.le_iff_toInt_le, Int32.lt_iff_toInt_lt] at *; omega
theorem lf_c_X11_within_2 (v : Int32) (lo : Int32) (hi : Int32) (c_1 : ¬ v < lo) (c_2 : ¬ hi < v) : inR v lo hi := by simp only [inR, Int32.le_iff_toInt_le, Int32.lt_iff_toInt_lt] at *; omega
set_option maxHeartbeats 4000000 in
set_option maxRecDepth 100000 in
theorem c_X11_within (l : Launch) (G : va_G) (cy : Nat → ClassId) (sk : Nat → Nat) (sz : Nat) (v : Int32) (lo : Int32) (hi : Int32)  : Met l yX11_within (wsO yX11_within cX11_within 3 (some .boolean)) ({ frames := 0, cells := 0, slots := 0, locals := 0 }) (va_Pc [.int v, .int lo, .int hi] (PR G cy sk sz [])) (vp_Si (fun r => (r = 1 ∧ inR v lo hi) ∨ (r = 0 ∧ ¬ inR v lo hi))) 0 0 (fun _ => False) := by
  refine mt (by decide) (Nat.le_of_ble_eq_true rfl) ?_
  intro p e s m below meth c ls hx hb hr hml hts hown hlocks hin hsz hP hE hD hl
  subst hsz
  have hl : lv_has ls 3 [(0, .int v), (1, .int lo), (2, .int hi)] := hl
  refine lv_iload_n hx hb dX11_within_0 rfl (lv_at hl 0 rfl) ?_
  refine lv_iload_n hx hb dX11_within_1 rfl (lv_at hl 1 rfl) ?_
  refine lv_icmp_lt (tgt := 14) hx hb dX11_within_2 (by decide) (fun c_1 => ?_) (fun c_1 => ?_)
  · refine lv_iconst (v := 0) hx hb dX11_within_14 (by decide) ?_
    exact W.zret (v := 0) hx hb hr rfl (fun t ht hW => ⟨0, rfl, (Or.inr ⟨rfl, (lf_c_X11_within_0 v lo hi c_1)⟩), ht⟩) (fun _ h => by cases h) dX11_within_15
  · refine lv_iload_n hx hb dX11_within_5 rfl (lv_at hl 0 rfl) ?_
    refine lv_iload_n hx hb dX11_within_6 rfl (lv_at hl 2 rfl) ?_
    refine lv_icmp_gt (tgt := 14) hx hb dX11_within_7 (by decide) (fun c_2 => ?_) (fun c_2 => ?_)
    · refine lv_iconst (v := 0) hx hb dX11_within_14 (by decide) ?_
      exact W.zret (v := 0) hx hb hr rfl (fun t ht hW => ⟨0, rfl, (Or.inr ⟨rfl, (lf_c_X11_within_1 v lo hi c_1 c_2)⟩), ht⟩) (fun _ h => by cases h) dX11_within_15
    · refine lv_iconst (v := 1) hx hb dX11_within_10 (by decide) ?_
      refine lv_goto (tgt := 15) hx hb dX11_within_11 (by decide) ?_
      exact W.zret (v := 1) hx hb hr rfl (fun t ht hW => ⟨1, rfl, (Or.inl ⟨rfl, (lf_c_X11_within_2 v lo hi c_1 c_2)⟩), ht⟩) (fun _ h => by cases h) dX11_within_15
theorem lf_c_X11_isThingKind_0 (v : Int32) (h_2 : inR v 0 4) : inR v 0 4 := by first | rfl | simp_all
theorem lf_c_X11_isThingKind_1 (v : Int32) (h_2 : ¬ inR v 0 4) : ¬ inR v 0 4 := by first | rfl | simp_all
set_option maxHeartbeats 4000000 in
set_option maxRecDepth 100000 in
theorem c_X11_isThingKind (l : Launch) (G : va_G) (cy : Nat → ClassId) (sk : Nat → Nat) (sz : Nat) (v : Int32)  : Met l yX11_isThingKind (wsO yX11_isThingKind cX11_isThingKind 1 (some .boolean)) ({ frames := 1, cells := 0, slots := 0, locals := 22 }) (va_Pc [.int v] (PR G cy sk sz [])) (vp_Si (fun r => (r = 1 ∧ inR v 0 4) ∨ (r = 0 ∧ ¬ inR v 0 4))) 0 0 (fun _ => False) := by
  refine mt (by decide) (Nat.le_of_ble_eq_true rfl) ?_
  intro p e s m below meth c ls hx hb hr hml hts hown hlocks hin hsz hP hE hD hl
  subst hsz
  have hl : lv_has ls 1 [(0, .int v)] := hl
  refine lv_iload_n hx hb dX11_isThingKind_0 rfl (lv_at hl 0 rfl) ?_
  refine lv_iconst (v := 0) hx hb dX11_isThingKind_1 (by decide) ?_
  refine lv_iconst (v := 4) hx hb dX11_isThingKind_2 (by decide) ?_
  refine rS (rest := []) hx hb hml hown hts hE (c_X11_within l G cy sk s.heap.size v 0 4) kS_X11_within m_494 rfl rfl ⟨(Nat.le_of_ble_eq_true rfl), (Nat.le_of_ble_eq_true rfl)⟩ hP hD [] rfl rfl rfl rfl hl.1 (Nat.le_of_ble_eq_true rfl) dX11_isThingKind_3 ⟨Nat.zero_le _, Nat.zero_le _⟩ (fun r_1 hr_ => ?_)
  rcases hr_ with ⟨rfl, h_2⟩ | ⟨rfl, h_2⟩
  · exact W.zret (v := 1) hx hb hr rfl (fun t ht hW => ⟨1, rfl, (Or.inl ⟨rfl, (lf_c_X11_isThingKind_0 v h_2)⟩), ht⟩) (fun _ h => by cases h) dX11_isThingKind_6
  · exact W.zret (v := 0) hx hb hr rfl (fun t ht hW => ⟨0, rfl, (Or.inr ⟨rfl, (lf_c_X11_isThingKind_1 v h_2)⟩), ht⟩) (fun _ h => by cases h) dX11_isThingKind_6
theorem lf_c_X11_isWalkerKind_0 (v : Int32) (h_2 : inR v 0 7) : inR v 0 7 := by first | rfl | simp_all
theorem lf_c_X11_isWalkerKind_1 (v : Int32) (h_2 : ¬ inR v 0 7) : ¬ inR v 0 7 := by first | rfl | simp_all
set_option maxHeartbeats 4000000 in
set_option maxRecDepth 100000 in
theorem c_X11_isWalkerKind (l : Launch) (G : va_G) (cy : Nat → ClassId) (sk : Nat → Nat) (sz : Nat) (v : Int32)  : Met l yX11_isWalkerKind (wsO yX11_isWalkerKind cX11_isWalkerKind 1 (some .boolean)) ({ frames := 1, cells := 0, slots := 0, locals := 22 }) (va_Pc [.int v] (PR G cy sk sz [])) (vp_Si (fun r => (r = 1 ∧ inR v 0 7) ∨ (r = 0 ∧ ¬ inR v 0 7))) 0 0 (fun _ => False) := by
  refine mt (by decide) (Nat.le_of_ble_eq_true rfl) ?_
  intro p e s m below meth c ls hx hb hr hml hts hown hlocks hin hsz hP hE hD hl
  subst hsz
  have hl : lv_has ls 1 [(0, .int v)] := hl
  refine lv_iload_n hx hb dX11_isWalkerKind_0 rfl (lv_at hl 0 rfl) ?_
  refine lv_iconst (v := 0) hx hb dX11_isWalkerKind_1 (by decide) ?_
  refine lv_bipush (v := 7) hx hb dX11_isWalkerKind_2 (by decide) ?_
  refine rS (rest := []) hx hb hml hown hts hE (c_X11_within l G cy sk s.heap.size v 0 7) kS_X11_within m_494 rfl rfl ⟨(Nat.le_of_ble_eq_true rfl), (Nat.le_of_ble_eq_true rfl)⟩ hP hD [] rfl rfl rfl rfl hl.1 (Nat.le_of_ble_eq_true rfl) dX11_isWalkerKind_4 ⟨Nat.zero_le _, Nat.zero_le _⟩ (fun r_1 hr_ => ?_)
  rcases hr_ with ⟨rfl, h_2⟩ | ⟨rfl, h_2⟩
  · exact W.zret (v := 1) hx hb hr rfl (fun t ht hW => ⟨1, rfl, (Or.inl ⟨rfl, (lf_c_X11_isWalkerKind_0 v h_2)⟩), ht⟩) (fun _ h => by cases h) dX11_isWalkerKind_7
  · exact W.zret (v := 0) hx hb hr rfl (fun t ht hW => ⟨0, rfl, (Or.inr ⟨rfl, (lf_c_X11_isWalkerKind_1 v h_2)⟩), ht⟩) (fun _ h => by cases h) dX11_isWalkerKind_7
theorem lf_c_X11_isSheet_0 (v : Int32) (h_2 : inR v 0 3) : inR v 0 3 := by first | rfl | simp_all
theorem lf_c_X11_isSheet_1 (v : Int32) (h_2 : ¬ inR v 0 3) : ¬ inR v 0 3 := by first | rfl | simp_all
set_option maxHeartbeats 4000000 in
set_option maxRecDepth 100000 in
theorem c_X11_isSheet (l : Launch) (G : va_G) (cy : Nat → ClassId) (sk : Nat → Nat) (sz : Nat) (v : Int32)  : Met l yX11_isSheet (wsO yX11_isSheet cX11_isSheet 1 (some .boolean)) ({ frames := 1, cells := 0, slots := 0, locals := 22 }) (va_Pc [.int v] (PR G cy sk sz [])) (vp_Si (fun r => (r = 1 ∧ inR v 0 3) ∨ (r = 0 ∧ ¬ inR v 0 3))) 0 0 (fun _ => False) := by
  refine mt (by decide) (Nat.le_of_ble_eq_true rfl) ?_
  intro p e s m below meth c ls hx hb hr hml hts hown hlocks hin hsz hP hE hD hl
  subst hsz
  have hl : lv_has ls 1 [(0, .int v)] := hl
  refine lv_iload_n hx hb dX11_isSheet_0 rfl (lv_at hl 0 rfl) ?_
  refine lv_iconst (v := 0) hx hb dX11_isSheet_1 (by decide) ?_
  refine lv_iconst (v := 3) hx hb dX11_isSheet_2 (by decide) ?_
  refine rS (rest := []) hx hb hml hown hts hE (c_X11_within l G cy sk s.heap.size v 0 3) kS_X11_within m_494 rfl rfl ⟨(Nat.le_of_ble_eq_true rfl), (Nat.le_of_ble_eq_true rfl)⟩ hP hD [] rfl rfl rfl rfl hl.1 (Nat.le_of_ble_eq_true rfl) dX11_isSheet_3 ⟨Nat.zero_le _, Nat.zero_le _⟩ (fun r_1 hr_ => ?_)
  rcases hr_ with ⟨rfl, h_2⟩ | ⟨rfl, h_2⟩
  · exact W.zret (v := 1) hx hb hr rfl (fun t ht hW => ⟨1, rfl, (Or.inl ⟨rfl, (lf_c_X11_isSheet_0 v h_2)⟩), ht⟩) (fun _ h => by cases h) dX11_isSheet_6
  · exact W.zret (v := 0) hx hb hr rfl (fun t ht hW => ⟨0, rfl, (Or.inr ⟨rfl, (lf_c_X11_isSheet_1 v h_2)⟩), ht⟩) (fun _ h => by cases h) dX11_isSheet_6
theorem lf_c_X11_isBits_0 (v : Int32) (h_2 : inR v 0 31) : inR v 0 31 := by first | rfl | simp_all
theorem lf_c_X11_isBits_1 (v : Int32) (h_2 : ¬ inR v 0 31) : ¬ inR v 0 31 := by first | rfl | simp_all
set_option maxHeartbeats 4000000 in
set_option maxRecDepth 100000 in
theorem c_X11_isBits (l : Launch) (G : va_G) (cy : Nat → ClassId) (sk : Nat → Nat) (sz : Nat) (v : Int32)  : Met l yX11_isBits (wsO yX11_isBits cX11_isBits 1 (some .boolean)) ({ frames := 1, cells := 0, slots := 0, locals := 22 }) (va_Pc [.int v] (PR G cy sk sz [])) (vp_Si (fun r => (r = 1 ∧ inR v 0 31) ∨ (r = 0 ∧ ¬ inR v 0 31))) 0 0 (fun _ => False) := by
  refine mt (by decide) (Nat.le_of_ble_eq_true rfl) ?_
  intro p e s m below meth c ls hx hb hr hml hts hown hlocks hin hsz hP hE hD hl
  subst hsz
  have hl : lv_has ls 1 [(0, .int v)] := hl
  refine lv_iload_n hx hb dX11_isBits_0 rfl (lv_at hl 0 rfl) ?_
  refine lv_iconst (v := 0) hx hb dX11_isBits_1 (by decide) ?_
  refine lv_bipush (v := 31) hx hb dX11_isBits_2 (by decide) ?_
  refine rS (rest := []) hx hb hml hown hts hE (c_X11_within l G cy sk s.heap.size v 0 31) kS_X11_within m_494 rfl rfl ⟨(Nat.le_of_ble_eq_true rfl), (Nat.le_of_ble_eq_true rfl)⟩ hP hD [] rfl rfl rfl rfl hl.1 (Nat.le_of_ble_eq_true rfl) dX11_isBits_4 ⟨Nat.zero_le _, Nat.zero_le _⟩ (fun r_1 hr_ => ?_)
  rcases hr_ with ⟨rfl, h_2⟩ | ⟨rfl, h_2⟩
  · exact W.zret (v := 1) hx hb hr rfl (fun t ht hW => ⟨1, rfl, (Or.inl ⟨rfl, (lf_c_X11_isBits_0 v h_2)⟩), ht⟩) (fun _ h => by cases h) dX11_isBits_7
  · exact W.zret (v := 0) hx hb hr rfl (fun t ht hW => ⟨0, rfl, (Or.inr ⟨rfl, (lf_c_X11_isBits_1 v h_2)⟩), ht⟩) (fun _ h => by cases h) dX11_isBits_7
theorem lf_c_X7_isCell_0 (v : Int32) (c_1 : v < 0) : ¬ inR v 0 191 := by simp only [inR, Int32.le_iff_toInt_le, Int32.lt_iff_toInt_lt] at *; simp at *; omega
theorem lf_c_X7_isCell_1 (v : Int32) (c_1 : ¬ v < 0) (c_2 : 192 ≤ v) : ¬ inR v 0 191 := by simp only [inR, Int32.le_iff_toInt_le, Int32.lt_iff_toInt_lt] at *; simp at *; omega
theorem lf_c_X7_isCell_2 (v : Int32) (c_1 : ¬ v < 0) (c_2 : ¬ 192 ≤ v) : inR v 0 191 := by simp only [inR, Int32.le_iff_toInt_le, Int32.lt_iff_toInt_lt] at *; simp at *; omega
set_option maxHeartbeats 4000000 in
set_option maxRecDepth 100000 in
theorem c_X7_isCell (l : Launch) (G : va_G) (cy : Nat → ClassId) (sk : Nat → Nat) (sz : Nat) (v : Int32)  : Met l yX7_isCell (wsO yX7_isCell cX7_isCell 1 (some .boolean)) ({ frames := 0, cells := 0, slots := 0, locals := 0 }) (va_Pc [.int v] (PR G cy sk sz [])) (vp_Si (fun r => (r = 1 ∧ inR v 0 191) ∨ (r = 0 ∧ ¬ inR v 0 191))) 0 0 (fun _ => False) := by
  refine mt (by decide) (Nat.le_of_ble_eq_true rfl) ?_
  intro p e s m below meth c ls hx hb hr hml hts hown hlocks hin hsz hP hE hD hl
  subst hsz
  have hl : lv_has ls 1 [(0, .int v)] := hl
  refine lv_iload_n hx hb dX7_isCell_0 rfl (lv_at hl 0 rfl) ?_
  refine lv_if_lt (tgt := 15) hx hb dX7_isCell_1 (by decide) (fun c_1 => ?_) (fun c_1 => ?_)
  · refine lv_iconst (v := 0) hx hb dX7_isCell_15 (by decide) ?_
    exact W.zret (v := 0) hx hb hr rfl (fun t ht hW => ⟨0, rfl, (Or.inr ⟨rfl, (lf_c_X7_isCell_0 v c_1)⟩), ht⟩) (fun _ h => by cases h) dX7_isCell_16
  · refine lv_iload_n hx hb dX7_isCell_4 rfl (lv_at hl 0 rfl) ?_
    refine lv_sipush (v := 192) hx hb dX7_isCell_5 (by decide) ?_
    refine lv_icmp_ge (tgt := 15) hx hb dX7_isCell_8 (by decide) (fun c_2 => ?_) (fun c_2 => ?_)
    · refine lv_iconst (v := 0) hx hb dX7_isCell_15 (by decide) ?_
      exact W.zret (v := 0) hx hb hr rfl (fun t ht hW => ⟨0, rfl, (Or.inr ⟨rfl, (lf_c_X7_isCell_1 v c_1 c_2)⟩), ht⟩) (fun _ h => by cases h) dX7_isCell_16
    · refine lv_iconst (v := 1) hx hb dX7_isCell_11 (by decide) ?_
      refine lv_goto (tgt := 16) hx hb dX7_isCell_12 (by decide) ?_
      exact W.zret (v := 1) hx hb hr rfl (fun t ht hW => ⟨1, rfl, (Or.inl ⟨rfl, (lf_c_X7_isCell_2 v c_1 c_2)⟩), ht⟩) (fun _ h => by cases h) dX7_isCell_16
theorem lf_c_X7_isSide_0 (v : Int32) (c_1 : v < 0) : ¬ inR v 0 7 := by simp only [inR, Int32.le_iff_toInt_le, Int32.lt_iff_toInt_lt] at *; simp at *; omega
theorem lf_c_X7_isSide_1 (v : Int32) (c_1 : ¬ v < 0) (c_2 : 8 ≤ v) : ¬ inR v 0 7 := by simp only [inR, Int32.le_iff_toInt_le, Int32.lt_iff_toInt_lt] at *; simp at *; omega
theorem lf_c_X7_isSide_2 (v : Int32) (c_1 : ¬ v < 0) (c_2 : ¬ 8 ≤ v) : inR v 0 7 := by simp only [inR, Int32.le_iff_toInt_le, Int32.lt_iff_toInt_lt] at *; simp at *; omega
set_option maxHeartbeats 4000000 in
set_option maxRecDepth 100000 in
theorem c_X7_isSide (l : Launch) (G : va_G) (cy : Nat → ClassId) (sk : Nat → Nat) (sz : Nat) (v : Int32)  : Met l yX7_isSide (wsO yX7_isSide cX7_isSide 1 (some .boolean)) ({ frames := 0, cells := 0, slots := 0, locals := 0 }) (va_Pc [.int v] (PR G cy sk sz [])) (vp_Si (fun r => (r = 1 ∧ inR v 0 7) ∨ (r = 0 ∧ ¬ inR v 0 7))) 0 0 (fun _ => False) := by
  refine mt (by decide) (Nat.le_of_ble_eq_true rfl) ?_
  intro p e s m below meth c ls hx hb hr hml hts hown hlocks hin hsz hP hE hD hl
  subst hsz
  have hl : lv_has ls 1 [(0, .int v)] := hl
  refine lv_iload_n hx hb dX7_isSide_0 rfl (lv_at hl 0 rfl) ?_
  refine lv_if_lt (tgt := 14) hx hb dX7_isSide_1 (by decide) (fun c_1 => ?_) (fun c_1 => ?_)
  · refine lv_iconst (v := 0) hx hb dX7_isSide_14 (by decide) ?_
    exact W.zret (v := 0) hx hb hr rfl (fun t ht hW => ⟨0, rfl, (Or.inr ⟨rfl, (lf_c_X7_isSide_0 v c_1)⟩), ht⟩) (fun _ h => by cases h) dX7_isSide_15
  · refine lv_iload_n hx hb dX7_isSide_4 rfl (lv_at hl 0 rfl) ?_
    refine lv_bipush (v := 8) hx hb dX7_isSide_5 (by decide) ?_
    refine lv_icmp_ge (tgt := 14) hx hb dX7_isSide_7 (by decide) (fun c_2 => ?_) (fun c_2 => ?_)
    · refine lv_iconst (v := 0) hx hb dX7_isSide_14 (by decide) ?_
      exact W.zret (v := 0) hx hb hr rfl (fun t ht hW => ⟨0, rfl, (Or.inr ⟨rfl, (lf_c_X7_isSide_1 v c_1 c_2)⟩), ht⟩) (fun _ h => by cases h) dX7_isSide_15
    · refine lv_iconst (v := 1) hx hb dX7_isSide_10 (by decide) ?_
      refine lv_goto (tgt := 15) hx hb dX7_isSide_11 (by decide) ?_
      exact W.zret (v := 1) hx hb hr rfl (fun t ht hW => ⟨1, rfl, (Or.inl ⟨rfl, (lf_c_X7_isSide_2 v c_1 c_2)⟩), ht⟩) (fun _ h => by cases h) dX7_isSide_15
theorem lf_c_X7_isFree_0 (foc : Nat → Int32) (v : Int32) (hoc : ∀ j, j < 192 → foc j = (-1)) (hv : inR v 0 191) (h_2 : ¬ inR v 0 191) : (0 : Int32) = 1 := by first | rfl | simp_all
set_option maxHeartbeats 4000000 in
set_option maxRecDepth 100000 in
theorem c_X7_isFree (l : Launch) (G : va_G) (cy : Nat → ClassId) (sk : Nat → Nat) (sz : Nat) (st : Nat) (oc : Nat) (ki : Nat) (ce : Nat) (si : Nat) (sp : Nat) (foc : Nat → Int32) (v : Int32) (hoc : ∀ j, j < 192 → foc j = (-1)) (hv : inR v 0 191) : Met l yX7_isFree (wsO yX7_isFree cX7_isFree 2 (some .boolean)) ({ frames := 1, cells := 0, slots := 0, locals := 20 }) (va_Pc [.ref st, .int v] (PR G cy sk sz [(st, .inr (7, [.ref oc, .ref ki, .ref ce, .ref si, .ref sp, .int 0])), (oc, .inl (cy 0, 192, .inl foc))])) (vp_Si (fun r => r = 1)) 0 0 (fun _ => False) := by
  refine mt (by decide) (Nat.le_of_ble_eq_true rfl) ?_
  intro p e s m below meth c ls hx hb hr hml hts hown hlocks hin hsz hP hE hD hl
  subst hsz
  have hl : lv_has ls 2 [(0, .ref st), (1, .int v)] := hl
  refine lv_iload_n hx hb dX7_isFree_0 rfl (lv_at hl 1 rfl) ?_
  refine rS (rest := []) hx hb hml hown hts hE (c_X7_isCell l G cy sk s.heap.size v) kS_X7_isCell m_509 rfl rfl ⟨(Nat.le_of_ble_eq_true rfl), (Nat.le_of_ble_eq_true rfl)⟩ hP hD [] rfl rfl rfl rfl hl.1 (Nat.le_of_ble_eq_true rfl) dX7_isFree_1 ⟨Nat.zero_le _, Nat.zero_le _⟩ (fun r_1 hr_ => ?_)
  rcases hr_ with ⟨rfl, h_2⟩ | ⟨rfl, h_2⟩
  · refine lv_if_eq (tgt := 21) hx hb dX7_isFree_4 (by decide) (fun h9 => absurd h9 (by decide)) (fun _ => ?_)
    refine lv_aload_n hx hb dX7_isFree_7 rfl (lv_at hl 0 rfl) ?_
    refine va_get (D := G) (ci := 7) (v := .ref oc) (C := RX7) (T := TX7) (N := 6) hx hb hts inB7 hown hE.1 hP 0 rfl rfl 0 (by decide) (hts _ m_121) (fun _ h9 => h9) rfl dX7_isFree_8 ?_
    refine lv_iload_n hx hb dX7_isFree_11 rfl (lv_at hl 1 rfl) ?_
    refine va_iald hx hb hE.1 hP 1 0 rfl rfl (vinB hv (by decide) (by decide)) dX7_isFree_12 ?_
    refine tp (v := (-1)) (hoc _ (vinB_nat hv (by decide) (by decide))) ?_
    refine lv_iconst (v := (-1)) hx hb dX7_isFree_13 (by decide) ?_
    refine lv_icmp_ne (tgt := 21) hx hb dX7_isFree_14 (by decide) (fun h9 => absurd h9 (by decide)) (fun _ => ?_)
    refine lv_iconst (v := 1) hx hb dX7_isFree_17 (by decide) ?_
    refine lv_goto (tgt := 22) hx hb dX7_isFree_18 (by decide) ?_
    exact W.zret (v := 1) hx hb hr rfl (fun t ht hW => ⟨1, rfl, rfl, ht⟩) (fun _ h => by cases h) dX7_isFree_22
  · refine lv_if_eq (tgt := 21) hx hb dX7_isFree_4 (by decide) (fun _ => ?_) (fun h9 => absurd h9 (by decide))
    refine lv_iconst (v := 0) hx hb dX7_isFree_21 (by decide) ?_
    exact W.zret (v := 0) hx hb hr rfl (fun t ht hW => ⟨0, rfl, (lf_c_X7_isFree_0 foc v hoc hv h_2), ht⟩) (fun _ h => by cases h) dX7_isFree_22
set_option maxHeartbeats 4000000 in
set_option maxRecDepth 100000 in
theorem c_X7_hasRoom (l : Launch) (G : va_G) (cy : Nat → ClassId) (sk : Nat → Nat) (sz : Nat) (st : Nat) (oc : Nat) (ki : Nat) (ce : Nat) (si : Nat) (sp : Nat)  : Met l yX7_hasRoom (wsO yX7_hasRoom cX7_hasRoom 1 (some .boolean)) ({ frames := 0, cells := 0, slots := 0, locals := 0 }) (va_Pc [.ref st] (PR G cy sk sz [(st, .inr (7, [.ref oc, .ref ki, .ref ce, .ref si, .ref sp, .int 0]))])) (vp_Si (fun r => r = 1)) 0 0 (fun _ => False) := by
  refine mt (by decide) (Nat.le_of_ble_eq_true rfl) ?_
  intro p e s m below meth c ls hx hb hr hml hts hown hlocks hin hsz hP hE hD hl
  subst hsz
  have hl : lv_has ls 1 [(0, .ref st)] := hl
  refine lv_aload_n hx hb dX7_hasRoom_0 rfl (lv_at hl 0 rfl) ?_
  refine va_get (D := G) (ci := 7) (v := .int 0) (C := RX7) (T := TX7) (N := 6) hx hb hts inB7 hown hE.1 hP 0 rfl rfl 5 (by decide) (hts _ m_132) (fun _ h9 => h9) rfl dX7_hasRoom_1 ?_
  refine lv_bipush (v := 40) hx hb dX7_hasRoom_4 (by decide) ?_
  refine lv_icmp_ge (tgt := 13) hx hb dX7_hasRoom_6 (by decide) (fun h9 => absurd h9 (by decide)) (fun _ => ?_)
  refine lv_iconst (v := 1) hx hb dX7_hasRoom_9 (by decide) ?_
  refine lv_goto (tgt := 14) hx hb dX7_hasRoom_10 (by decide) ?_
  exact W.zret (v := 1) hx hb hr rfl (fun t ht hW => ⟨1, rfl, rfl, ht⟩) (fun _ h => by cases h) dX7_hasRoom_14
theorem lf_c_X7_hasThing_0 (v : Int32) (c_1 : ¬ v < 0) (c_2 : ¬ 0 ≤ v) (c_3 : ¬ 40 ≤ v) : (1 : Int32) = 0 := by simp only [inR, Int32.le_iff_toInt_le, Int32.lt_iff_toInt_lt] at *; simp at *; omega
set_option maxHeartbeats 4000000 in
set_option maxRecDepth 100000 in
theorem c_X7_hasThing (l : Launch) (G : va_G) (cy : Nat → ClassId) (sk : Nat → Nat) (sz : Nat) (st : Nat) (oc : Nat) (ki : Nat) (ce : Nat) (si : Nat) (sp : Nat) (v : Int32)  : Met l yX7_hasThing (wsO yX7_hasThing cX7_hasThing 2 (some .boolean)) ({ frames := 0, cells := 0, slots := 0, locals := 0 }) (va_Pc [.ref st, .int v] (PR G cy sk sz [(st, .inr (7, [.ref oc, .ref ki, .ref ce, .ref si, .ref sp, .int 0]))])) (vp_Si (fun r => r = 0)) 0 0 (fun _ => False) := by
  refine mt (by decide) (Nat.le_of_ble_eq_true rfl) ?_
  intro p e s m below meth c ls hx hb hr hml hts hown hlocks hin hsz hP hE hD hl
  subst hsz
  have hl : lv_has ls 2 [(0, .ref st), (1, .int v)] := hl
  refine lv_iload_n hx hb dX7_hasThing_0 rfl (lv_at hl 1 rfl) ?_
  refine lv_if_lt (tgt := 22) hx hb dX7_hasThing_1 (by decide) (fun c_1 => ?_) (fun c_1 => ?_)
  · refine lv_iconst (v := 0) hx hb dX7_hasThing_22 (by decide) ?_
    exact W.zret (v := 0) hx hb hr rfl (fun t ht hW => ⟨0, rfl, rfl, ht⟩) (fun _ h => by cases h) dX7_hasThing_23
  · refine lv_iload_n hx hb dX7_hasThing_4 rfl (lv_at hl 1 rfl) ?_
    refine lv_aload_n hx hb dX7_hasThing_5 rfl (lv_at hl 0 rfl) ?_
    refine va_get (D := G) (ci := 7) (v := .int 0) (C := RX7) (T := TX7) (N := 6) hx hb hts inB7 hown hE.1 hP 0 rfl rfl 5 (by decide) (hts _ m_132) (fun _ h9 => h9) rfl dX7_hasThing_6 ?_
    refine lv_icmp_ge (tgt := 22) hx hb dX7_hasThing_9 (by decide) (fun c_2 => ?_) (fun c_2 => ?_)
    · refine lv_iconst (v := 0) hx hb dX7_hasThing_22 (by decide) ?_
      exact W.zret (v := 0) hx hb hr rfl (fun t ht hW => ⟨0, rfl, rfl, ht⟩) (fun _ h => by cases h) dX7_hasThing_23
    · refine lv_iload_n hx hb dX7_hasThing_12 rfl (lv_at hl 1 rfl) ?_
      refine lv_bipush (v := 40) hx hb dX7_hasThing_13 (by decide) ?_
      refine lv_icmp_ge (tgt := 22) hx hb dX7_hasThing_15 (by decide) (fun c_3 => ?_) (fun c_3 => ?_)
      · refine lv_iconst (v := 0) hx hb dX7_hasThing_22 (by decide) ?_
        exact W.zret (v := 0) hx hb hr rfl (fun t ht hW => ⟨0, rfl, rfl, ht⟩) (fun _ h => by cases h) dX7_hasThing_23
      · refine lv_iconst (v := 1) hx hb dX7_hasThing_18 (by decide) ?_
        refine lv_goto (tgt := 23) hx hb dX7_hasThing_19 (by decide) ?_
        exact W.zret (v := 1) hx hb hr rfl (fun t ht hW => ⟨1, rfl, (lf_c_X7_hasThing_0 v c_1 c_2 c_3), ht⟩) (fun _ h => by cases h) dX7_hasThing_23
def B_c_X7_settle (G : va_G) (cy : Nat → ClassId) (A : Nat → Prop) (st : Nat) (oc : Nat) (ki : Nat) (ce : Nat) (si : Nat) (sp : Nat) (foc : Nat → Int32) (th : Int32) (v : Int32) (who : Int32) (H : Heap) : Prop := ∃ (foc2 : Nat → Int32), va_P G classes [(st, .inr (7, [.ref oc, .ref ki, .ref ce, .ref si, .ref sp, .int th])), (oc, .inl (cy 0, 192, .inl foc2))] H ∧ va_D A [(st, .inr (7, [.ref oc, .ref ki, .ref ce, .ref si, .ref sp, .int th])), (oc, .inl (cy 0, 192, .inl foc2))]
set_option maxHeartbeats 4000000 in
set_option maxRecDepth 100000 in
theorem c_X7_settle (l : Launch) (G : va_G) (cy : Nat → ClassId) (sk : Nat → Nat) (sz : Nat) (st : Nat) (oc : Nat) (ki : Nat) (ce : Nat) (si : Nat) (sp : Nat) (foc : Nat → Int32) (th : Int32) (v : Int32) (who : Int32)  : Met l yX7_settle (wsO yX7_settle cX7_settle 3 none) ({ frames := 1, cells := 0, slots := 0, locals := 20 }) (va_Pc [.ref st, .int v, .int who] (PR G cy sk sz [(st, .inr (7, [.ref oc, .ref ki, .ref ce, .ref si, .ref sp, .int th])), (oc, .inl (cy 0, 192, .inl foc))])) (va_Qv (fun (_ : Unit) => True) (fun _ t => B_c_X7_settle G cy (va_A [(st, .inr (7, [.ref oc, .ref ki, .ref ce, .ref si, .ref sp, .int th])), (oc, .inl (cy 0, 192, .inl foc))] sz) st oc ki ce si sp foc th v who t.heap) (va_A [(st, .inr (7, [.ref oc, .ref ki, .ref ce, .ref si, .ref sp, .int th])), (oc, .inl (cy 0, 192, .inl foc))] sz)) 0 0 (va_A [(st, .inr (7, [.ref oc, .ref ki, .ref ce, .ref si, .ref sp, .int th])), (oc, .inl (cy 0, 192, .inl foc))] sz) := by
  refine mt (by decide) (Nat.le_of_ble_eq_true rfl) ?_
  intro p e s m below meth c ls hx hb hr hml hts hown hlocks hin hsz hP hE hD hl
  subst hsz
  have hl : lv_has ls 3 [(0, .ref st), (1, .int v), (2, .int who)] := hl
  have hD := hD.self (sz := s.heap.size)
  generalize hAe : va_A [(st, .inr (7, [.ref oc, .ref ki, .ref ce, .ref si, .ref sp, .int th])), (oc, .inl (cy 0, 192, .inl foc))] s.heap.size = A at hD ⊢
  have hA : ∀ q : Nat, s.heap.size ≤ q → A q := fun q h => by rw [← hAe]; exact Or.inr h
  have hS : va_S A s.heap s.heap [] := va_S.rf
  refine lv_iload_n hx hb dX7_settle_0 rfl (lv_at hl 1 rfl) ?_
  refine rS (rest := []) hx hb hml hown hts hE (c_X7_isCell l G cy sk s.heap.size v) kS_X7_isCell m_509 rfl rfl ⟨(Nat.le_of_ble_eq_true rfl), (Nat.le_of_ble_eq_true rfl)⟩ hP hD [] rfl rfl rfl rfl hl.1 (Nat.le_of_ble_eq_true rfl) dX7_settle_1 ⟨(Nat.le_of_ble_eq_true rfl), (Nat.le_of_ble_eq_true rfl)⟩ (fun r_1 hr_ => ?_)
  rcases hr_ with ⟨rfl, h_2⟩ | ⟨rfl, h_2⟩
  · refine lv_if_eq (tgt := 14) hx hb dX7_settle_4 (by decide) (fun h9 => absurd h9 (by decide)) (fun _ => ?_)
    refine lv_aload_n hx hb dX7_settle_7 rfl (lv_at hl 0 rfl) ?_
    refine va_get (D := G) (ci := 7) (v := .ref oc) (C := RX7) (T := TX7) (N := 6) hx hb hts inB7 hown hE.1 hP 0 rfl rfl 0 (by decide) (hts _ m_121) (fun _ h9 => h9) rfl dX7_settle_8 ?_
    refine lv_iload_n hx hb dX7_settle_11 rfl (lv_at hl 1 rfl) ?_
    refine lv_iload_n hx hb dX7_settle_12 rfl (lv_at hl 2 rfl) ?_
    refine va_iast hx hb hE.1 hP hD hS 1 0 rfl rfl (vinB h_2 (by decide) (by decide)) dX7_settle_13 (fun H locs hP hD hS => ?_)
    have hP : va_P G classes [(st, .inr (7, [.ref oc, .ref ki, .ref ce, .ref si, .ref sp, .int th])), (oc, .inl (cy 0, 192, .inl (upd foc (v).toNatClampNeg who)))] H := hP
    have hD : va_D A [(st, .inr (7, [.ref oc, .ref ki, .ref ce, .ref si, .ref sp, .int th])), (oc, .inl (cy 0, 192, .inl (upd foc (v).toNatClampNeg who)))] := hD
    have hP9 := P_cut (wc := [(st, .inr (7, [.ref oc, .ref ki, .ref ce, .ref si, .ref sp, .int th])), (oc, .inl (cy 0, 192, .inl (upd foc (v).toNatClampNeg who)))]) hP [0, 1] rfl
    have hD9 := hD.sub (ws' := [(st, .inr (7, [.ref oc, .ref ki, .ref ce, .ref si, .ref sp, .int th])), (oc, .inl (cy 0, 192, .inl (upd foc (v).toNatClampNeg who)))]) [0, 1] (by decide) rfl
    refine W.widen (k := 0) (n := 0) (by first | exact Nat.le_of_ble_eq_true rfl | omega) (by first | exact Nat.le_of_ble_eq_true rfl | omega) ?_
    exact W.vret hx hb hr (fun t ht hW => ⟨⟨(), rfl, trivial, by dsimp only; rw [ht]; exact ⟨(upd foc (v).toNatClampNeg who), hP9, hD9⟩⟩, hS.F ht⟩) hS.2.2 dX7_settle_14
  · refine lv_if_eq (tgt := 14) hx hb dX7_settle_4 (by decide) (fun _ => ?_) (fun h9 => absurd h9 (by decide))
    have hP9 := P_cut (wc := [(st, .inr (7, [.ref oc, .ref ki, .ref ce, .ref si, .ref sp, .int th])), (oc, .inl (cy 0, 192, .inl foc))]) hP [0, 1] rfl
    have hD9 := hD.sub (ws' := [(st, .inr (7, [.ref oc, .ref ki, .ref ce, .ref si, .ref sp, .int th])), (oc, .inl (cy 0, 192, .inl foc))]) [0, 1] (by decide) rfl
    refine W.widen (k := 0) (n := 0) (by first | exact Nat.le_of_ble_eq_true rfl | omega) (by first | exact Nat.le_of_ble_eq_true rfl | omega) ?_
    exact W.vret hx hb hr (fun t ht hW => ⟨⟨(), rfl, trivial, by dsimp only; rw [ht]; exact ⟨foc, hP9, hD9⟩⟩, hS.F ht⟩) hS.2.2 dX7_settle_14
set_option maxHeartbeats 4000000 in
set_option maxRecDepth 100000 in
theorem c_X7_addThing (l : Launch) (G : va_G) (cy : Nat → ClassId) (sk : Nat → Nat) (sz : Nat) (st : Nat) (oc : Nat) (ki : Nat) (ce : Nat) (si : Nat) (sp : Nat) (foc : Nat → Int32) (fki : Nat → Int32) (fce : Nat → Int32) (fsi : Nat → Int32) (fsp : Nat → Int32) (kind : Int32) (cell : Int32)  : Met l yX7_addThing (wsO yX7_addThing cX7_addThing 4 (some .int)) ({ frames := 2, cells := 0, slots := 0, locals := 42 }) (va_Pc [.ref st, .int kind, .int cell] (PR G cy sk sz [(st, .inr (7, [.ref oc, .ref ki, .ref ce, .ref si, .ref sp, .int 0])), (oc, .inl (cy 0, 192, .inl foc)), (ki, .inl (cy 0, 40, .inl fki)), (ce, .inl (cy 0, 40, .inl fce)), (si, .inl (cy 0, 40, .inl fsi)), (sp, .inl (cy 0, 40, .inl fsp))])) (va_Qi (fun r (_ : Unit) => r = 0) (fun _ _ => True) (va_A [(st, .inr (7, [.ref oc, .ref ki, .ref ce, .ref si, .ref sp, .int 0])), (oc, .inl (cy 0, 192, .inl foc)), (ki, .inl (cy 0, 40, .inl fki)), (ce, .inl (cy 0, 40, .inl fce)), (si, .inl (cy 0, 40, .inl fsi)), (sp, .inl (cy 0, 40, .inl fsp))] sz)) 0 0 (va_A [(st, .inr (7, [.ref oc, .ref ki, .ref ce, .ref si, .ref sp, .int 0])), (oc, .inl (cy 0, 192, .inl foc)), (ki, .inl (cy 0, 40, .inl fki)), (ce, .inl (cy 0, 40, .inl fce)), (si, .inl (cy 0, 40, .inl fsi)), (sp, .inl (cy 0, 40, .inl fsp))] sz) := by
  refine mt (by decide) (Nat.le_of_ble_eq_true rfl) ?_
  intro p e s m below meth c ls hx hb hr hml hts hown hlocks hin hsz hP hE hD hl
  subst hsz
  have hl : lv_has ls 4 [(0, .ref st), (1, .int kind), (2, .int cell)] := hl
  have hD := hD.self (sz := s.heap.size)
  generalize hAe : va_A [(st, .inr (7, [.ref oc, .ref ki, .ref ce, .ref si, .ref sp, .int 0])), (oc, .inl (cy 0, 192, .inl foc)), (ki, .inl (cy 0, 40, .inl fki)), (ce, .inl (cy 0, 40, .inl fce)), (si, .inl (cy 0, 40, .inl fsi)), (sp, .inl (cy 0, 40, .inl fsp))] s.heap.size = A at hD ⊢
  have hA : ∀ q : Nat, s.heap.size ≤ q → A q := fun q h => by rw [← hAe]; exact Or.inr h
  have hS : va_S A s.heap s.heap [] := va_S.rf
  refine lv_aload_n hx hb dX7_addThing_0 rfl (lv_at hl 0 rfl) ?_
  refine va_get (D := G) (ci := 7) (v := .int 0) (C := RX7) (T := TX7) (N := 6) hx hb hts inB7 hown hE.1 hP 0 rfl rfl 5 (by decide) (hts _ m_132) (fun _ h9 => h9) rfl dX7_addThing_1 ?_
  refine lv_istore_n (lv' := [(3, .int 0), (0, .ref st), (1, .int kind), (2, .int cell)]) hx hb dX7_addThing_4 rfl hl (by decide) rfl (fun ls hl => ?_)
  refine lv_iload_n hx hb dX7_addThing_5 rfl (lv_at hl 0 rfl) ?_
  refine lv_if_lt (tgt := 15) hx hb dX7_addThing_6 (by decide) (fun h9 => absurd h9 (by decide)) (fun _ => ?_)
  refine lv_iload_n hx hb dX7_addThing_9 rfl (lv_at hl 0 rfl) ?_
  refine lv_bipush (v := 40) hx hb dX7_addThing_10 (by decide) ?_
  refine lv_icmp_lt (tgt := 17) hx hb dX7_addThing_12 (by decide) (fun _ => ?_) (fun h9 => absurd h9 (by decide))
  refine lv_aload_n hx hb dX7_addThing_17 rfl (lv_at hl 1 rfl) ?_
  refine va_get (D := G) (ci := 7) (v := .ref ki) (C := RX7) (T := TX7) (N := 6) hx hb hts inB7 hown hE.1 hP 0 rfl rfl 1 (by decide) (hts _ m_124) (fun _ h9 => h9) rfl dX7_addThing_18 ?_
  refine lv_iload_n hx hb dX7_addThing_21 rfl (lv_at hl 0 rfl) ?_
  refine lv_iload_n hx hb dX7_addThing_22 rfl (lv_at hl 2 rfl) ?_
  refine va_iast hx hb hE.1 hP hD hS 2 0 rfl rfl (vinL (by decide)) dX7_addThing_23 (fun H locs hP hD hS => ?_)
  have hP : va_P G classes [(st, .inr (7, [.ref oc, .ref ki, .ref ce, .ref si, .ref sp, .int 0])), (oc, .inl (cy 0, 192, .inl foc)), (ki, .inl (cy 0, 40, .inl (upd fki 0 kind))), (ce, .inl (cy 0, 40, .inl fce)), (si, .inl (cy 0, 40, .inl fsi)), (sp, .inl (cy 0, 40, .inl fsp))] H := hP
  have hD : va_D A [(st, .inr (7, [.ref oc, .ref ki, .ref ce, .ref si, .ref sp, .int 0])), (oc, .inl (cy 0, 192, .inl foc)), (ki, .inl (cy 0, 40, .inl (upd fki 0 kind))), (ce, .inl (cy 0, 40, .inl fce)), (si, .inl (cy 0, 40, .inl fsi)), (sp, .inl (cy 0, 40, .inl fsp))] := hD
  refine lv_aload_n hx hb dX7_addThing_24 rfl (lv_at hl 1 rfl) ?_
  refine va_get (D := G) (ci := 7) (v := .ref ce) (C := RX7) (T := TX7) (N := 6) hx hb hts inB7 hown hE.1 hP 0 rfl rfl 2 (by decide) (hts _ m_126) (fun _ h9 => h9) rfl dX7_addThing_25 ?_
  refine lv_iload_n hx hb dX7_addThing_28 rfl (lv_at hl 0 rfl) ?_
  refine lv_iload_n hx hb dX7_addThing_29 rfl (lv_at hl 3 rfl) ?_
  refine va_iast hx hb hE.1 hP hD hS 3 0 rfl rfl (vinL (by decide)) dX7_addThing_30 (fun H locs hP hD hS => ?_)
  have hP : va_P G classes [(st, .inr (7, [.ref oc, .ref ki, .ref ce, .ref si, .ref sp, .int 0])), (oc, .inl (cy 0, 192, .inl foc)), (ki, .inl (cy 0, 40, .inl (upd fki 0 kind))), (ce, .inl (cy 0, 40, .inl (upd fce 0 cell))), (si, .inl (cy 0, 40, .inl fsi)), (sp, .inl (cy 0, 40, .inl fsp))] H := hP
  have hD : va_D A [(st, .inr (7, [.ref oc, .ref ki, .ref ce, .ref si, .ref sp, .int 0])), (oc, .inl (cy 0, 192, .inl foc)), (ki, .inl (cy 0, 40, .inl (upd fki 0 kind))), (ce, .inl (cy 0, 40, .inl (upd fce 0 cell))), (si, .inl (cy 0, 40, .inl fsi)), (sp, .inl (cy 0, 40, .inl fsp))] := hD
  refine lv_aload_n hx hb dX7_addThing_31 rfl (lv_at hl 1 rfl) ?_
  refine va_get (D := G) (ci := 7) (v := .ref si) (C := RX7) (T := TX7) (N := 6) hx hb hts inB7 hown hE.1 hP 0 rfl rfl 3 (by decide) (hts _ m_128) (fun _ h9 => h9) rfl dX7_addThing_32 ?_
  refine lv_iload_n hx hb dX7_addThing_35 rfl (lv_at hl 0 rfl) ?_
  refine lv_iconst (v := 0) hx hb dX7_addThing_36 (by decide) ?_
  refine va_iast hx hb hE.1 hP hD hS 4 0 rfl rfl (vinL (by decide)) dX7_addThing_37 (fun H locs hP hD hS => ?_)
  have hP : va_P G classes [(st, .inr (7, [.ref oc, .ref ki, .ref ce, .ref si, .ref sp, .int 0])), (oc, .inl (cy 0, 192, .inl foc)), (ki, .inl (cy 0, 40, .inl (upd fki 0 kind))), (ce, .inl (cy 0, 40, .inl (upd fce 0 cell))), (si, .inl (cy 0, 40, .inl (upd fsi 0 0))), (sp, .inl (cy 0, 40, .inl fsp))] H := hP
  have hD : va_D A [(st, .inr (7, [.ref oc, .ref ki, .ref ce, .ref si, .ref sp, .int 0])), (oc, .inl (cy 0, 192, .inl foc)), (ki, .inl (cy 0, 40, .inl (upd fki 0 kind))), (ce, .inl (cy 0, 40, .inl (upd fce 0 cell))), (si, .inl (cy 0, 40, .inl (upd fsi 0 0))), (sp, .inl (cy 0, 40, .inl fsp))] := hD
  refine lv_aload_n hx hb dX7_addThing_38 rfl (lv_at hl 1 rfl) ?_
  refine va_get (D := G) (ci := 7) (v := .ref sp) (C := RX7) (T := TX7) (N := 6) hx hb hts inB7 hown hE.1 hP 0 rfl rfl 4 (by decide) (hts _ m_130) (fun _ h9 => h9) rfl dX7_addThing_39 ?_
  refine lv_iload_n hx hb dX7_addThing_42 rfl (lv_at hl 0 rfl) ?_
  refine lv_iconst (v := 0) hx hb dX7_addThing_43 (by decide) ?_
  refine va_iast hx hb hE.1 hP hD hS 5 0 rfl rfl (vinL (by decide)) dX7_addThing_44 (fun H locs hP hD hS => ?_)
  have hP : va_P G classes [(st, .inr (7, [.ref oc, .ref ki, .ref ce, .ref si, .ref sp, .int 0])), (oc, .inl (cy 0, 192, .inl foc)), (ki, .inl (cy 0, 40, .inl (upd fki 0 kind))), (ce, .inl (cy 0, 40, .inl (upd fce 0 cell))), (si, .inl (cy 0, 40, .inl (upd fsi 0 0))), (sp, .inl (cy 0, 40, .inl (upd fsp 0 0)))] H := hP
  have hD : va_D A [(st, .inr (7, [.ref oc, .ref ki, .ref ce, .ref si, .ref sp, .int 0])), (oc, .inl (cy 0, 192, .inl foc)), (ki, .inl (cy 0, 40, .inl (upd fki 0 kind))), (ce, .inl (cy 0, 40, .inl (upd fce 0 cell))), (si, .inl (cy 0, 40, .inl (upd fsi 0 0))), (sp, .inl (cy 0, 40, .inl (upd fsp 0 0)))] := hD
  refine lv_aload_n hx hb dX7_addThing_45 rfl (lv_at hl 1 rfl) ?_
  refine lv_iload_n hx hb dX7_addThing_46 rfl (lv_at hl 3 rfl) ?_
  refine lv_iload_n hx hb dX7_addThing_47 rfl (lv_at hl 0 rfl) ?_
  refine wVv (B := (B_c_X7_settle G cy (va_A [(st, .inr (7, [.ref oc, .ref ki, .ref ce, .ref si, .ref sp, .int 0])), (oc, .inl (cy 0, 192, .inl foc))] H.size) st oc ki ce si sp foc 0 cell 0)) (wr := [(ki, .inl (cy 0, 40, .inl (upd fki 0 kind))), (ce, .inl (cy 0, 40, .inl (upd fce 0 cell))), (si, .inl (cy 0, 40, .inl (upd fsi 0 0))), (sp, .inl (cy 0, 40, .inl (upd fsp 0 0)))]) (rest := []) hx hb hml hown hts hE (c_X7_settle l G cy sk H.size st oc ki ce si sp foc 0 cell 0) kV_X7_settle m_518 rfl rfl ⟨(Nat.le_of_ble_eq_true rfl), (Nat.le_of_ble_eq_true rfl)⟩ hP hD hS hA 0 rfl rfl rfl [0, 1] [2, 3, 4, 5] rfl rfl rfl rfl (by decide) rfl rfl hl.1 (Nat.le_of_ble_eq_true rfl) dX7_addThing_48 ⟨(Nat.le_of_ble_eq_true rfl), (Nat.le_of_ble_eq_true rfl)⟩ (fun H locs haf hS => ?_)
  obtain ⟨xf2, hP1, hD1⟩ := haf.1
  obtain ⟨hP, hD⟩ := haf.2.1 _ hP1 hD1
  have hP : va_P G classes [(ki, .inl (cy 0, 40, .inl (upd fki 0 kind))), (ce, .inl (cy 0, 40, .inl (upd fce 0 cell))), (si, .inl (cy 0, 40, .inl (upd fsi 0 0))), (sp, .inl (cy 0, 40, .inl (upd fsp 0 0))), (st, .inr (7, [.ref oc, .ref ki, .ref ce, .ref si, .ref sp, .int 0])), (oc, .inl (cy 0, 192, .inl xf2))] H := hP
  have hD : va_D A [(ki, .inl (cy 0, 40, .inl (upd fki 0 kind))), (ce, .inl (cy 0, 40, .inl (upd fce 0 cell))), (si, .inl (cy 0, 40, .inl (upd fsi 0 0))), (sp, .inl (cy 0, 40, .inl (upd fsp 0 0))), (st, .inr (7, [.ref oc, .ref ki, .ref ce, .ref si, .ref sp, .int 0])), (oc, .inl (cy 0, 192, .inl xf2))] := hD
  refine lv_aload_n hx hb dX7_addThing_51 rfl (lv_at hl 1 rfl) ?_
  refine lv_dup hx hb dX7_addThing_52 rfl ?_
  refine va_get (D := G) (ci := 7) (v := .int 0) (C := RX7) (T := TX7) (N := 6) hx hb hts inB7 hown hE.1 hP 4 rfl rfl 5 (by decide) (hts _ m_132) (fun _ h9 => h9) rfl dX7_addThing_53 ?_
  refine lv_iconst (v := 1) hx hb dX7_addThing_56 (by decide) ?_
  refine lv_iadd hx hb dX7_addThing_57 ?_
  refine va_put (D := G) (ci := 7) (v := .int (0 + 1)) (ty := .int) (C := RX7) (T := TX7) (N := 6) hx hb hts inB7 tyX7 tyX7_ok nmX7 hown hE.1 hP hD hS 4 rfl rfl 5 (by decide) (hts _ m_132) (fun _ h9 => h9) rfl (by decide +kernel) rfl rfl (Nat.le_of_ble_eq_true rfl) dX7_addThing_58 (fun H locs hP hD hS => ?_)
  have hP : va_P G classes [(ki, .inl (cy 0, 40, .inl (upd fki 0 kind))), (ce, .inl (cy 0, 40, .inl (upd fce 0 cell))), (si, .inl (cy 0, 40, .inl (upd fsi 0 0))), (sp, .inl (cy 0, 40, .inl (upd fsp 0 0))), (st, .inr (7, [.ref oc, .ref ki, .ref ce, .ref si, .ref sp, .int (0 + 1)])), (oc, .inl (cy 0, 192, .inl xf2))] H := hP
  have hD : va_D A [(ki, .inl (cy 0, 40, .inl (upd fki 0 kind))), (ce, .inl (cy 0, 40, .inl (upd fce 0 cell))), (si, .inl (cy 0, 40, .inl (upd fsi 0 0))), (sp, .inl (cy 0, 40, .inl (upd fsp 0 0))), (st, .inr (7, [.ref oc, .ref ki, .ref ce, .ref si, .ref sp, .int (0 + 1)])), (oc, .inl (cy 0, 192, .inl xf2))] := hD
  refine lv_iload_n hx hb dX7_addThing_61 rfl (lv_at hl 0 rfl) ?_
  refine W.widen (k := 0) (n := 0) (by first | exact Nat.le_of_ble_eq_true rfl | omega) (by first | exact Nat.le_of_ble_eq_true rfl | omega) ?_
  exact W.iret (v := 0) hx hb hr (fun t ht hW => ⟨⟨0, (), rfl, rfl, trivial⟩, hS.F ht⟩) hS.2.2 dX7_addThing_62
set_option maxHeartbeats 4000000 in
set_option maxRecDepth 100000 in
theorem c_X7_countThings (l : Launch) (G : va_G) (cy : Nat → ClassId) (sk : Nat → Nat) (sz : Nat) (st : Nat) (oc : Nat) (ki : Nat) (ce : Nat) (si : Nat) (sp : Nat)  : Met l yX7_countThings (wsO yX7_countThings cX7_countThings 3 (some .int)) ({ frames := 0, cells := 0, slots := 0, locals := 0 }) (va_Pc [.ref st] (PR G cy sk sz [(st, .inr (7, [.ref oc, .ref ki, .ref ce, .ref si, .ref sp, .int 0]))])) (vp_Si (fun r => r = 0)) 0 0 (fun _ => False) := by
  refine mt (by decide) (Nat.le_of_ble_eq_true rfl) ?_
  intro p e s m below meth c ls hx hb hr hml hts hown hlocks hin hsz hP hE hD hl
  subst hsz
  have hl : lv_has ls 3 [(0, .ref st)] := hl
  refine lv_iconst (v := 0) hx hb dX7_countThings_0 (by decide) ?_
  refine lv_istore_n (lv' := [(1, .int 0), (0, .ref st)]) hx hb dX7_countThings_1 rfl hl (by decide) rfl (fun ls hl => ?_)
  refine lv_iconst (v := 0) hx hb dX7_countThings_2 (by decide) ?_
  refine lv_istore_n (lv' := [(2, .int 0), (1, .int 0), (0, .ref st)]) hx hb dX7_countThings_3 rfl hl (by decide) rfl (fun ls hl => ?_)
  refine lv_iload_n hx hb dX7_countThings_4 rfl (lv_at hl 0 rfl) ?_
  refine lv_aload_n hx hb dX7_countThings_5 rfl (lv_at hl 2 rfl) ?_
  refine va_get (D := G) (ci := 7) (v := .int 0) (C := RX7) (T := TX7) (N := 6) hx hb hts inB7 hown hE.1 hP 0 rfl rfl 5 (by decide) (hts _ m_132) (fun _ h9 => h9) rfl dX7_countThings_6 ?_
  refine lv_icmp_ge (tgt := 36) hx hb dX7_countThings_9 (by decide) (fun _ => ?_) (fun h9 => absurd h9 (by decide))
  refine lv_iload_n hx hb dX7_countThings_36 rfl (lv_at hl 1 rfl) ?_
  exact W.iret (v := 0) hx hb hr (fun t ht hW => ⟨0, rfl, rfl, ht⟩) (fun _ h => by cases h) dX7_countThings_37
set_option maxHeartbeats 4000000 in
set_option maxRecDepth 100000 in
theorem c_X7_letThingsGo (l : Launch) (G : va_G) (cy : Nat → ClassId) (sk : Nat → Nat) (sz : Nat) (st : Nat) (oc : Nat) (ki : Nat) (ce : Nat) (si : Nat) (sp : Nat) (v : Int32)  : Met l yX7_letThingsGo (wsO yX7_letThingsGo cX7_letThingsGo 4 none) ({ frames := 0, cells := 0, slots := 0, locals := 0 }) (va_Pc [.ref st, .int v] (PR G cy sk sz [(st, .inr (7, [.ref oc, .ref ki, .ref ce, .ref si, .ref sp, .int 0]))])) (va_Sv (fun _ => True)) 0 0 (fun _ => False) := by
  refine mt (by decide) (Nat.le_of_ble_eq_true rfl) ?_
  intro p e s m below meth c ls hx hb hr hml hts hown hlocks hin hsz hP hE hD hl
  subst hsz
  have hl : lv_has ls 4 [(0, .ref st), (1, .int v)] := hl
  refine lv_iconst (v := 0) hx hb dX7_letThingsGo_0 (by decide) ?_
  refine lv_istore_n (lv' := [(2, .int 0), (0, .ref st), (1, .int v)]) hx hb dX7_letThingsGo_1 rfl hl (by decide) rfl (fun ls hl => ?_)
  refine lv_iload_n hx hb dX7_letThingsGo_2 rfl (lv_at hl 0 rfl) ?_
  refine lv_aload_n hx hb dX7_letThingsGo_3 rfl (lv_at hl 1 rfl) ?_
  refine va_get (D := G) (ci := 7) (v := .int 0) (C := RX7) (T := TX7) (N := 6) hx hb hts inB7 hown hE.1 hP 0 rfl rfl 5 (by decide) (hts _ m_132) (fun _ h9 => h9) rfl dX7_letThingsGo_4 ?_
  refine lv_icmp_ge (tgt := 53) hx hb dX7_letThingsGo_7 (by decide) (fun _ => ?_) (fun h9 => absurd h9 (by decide))
  exact W.vret hx hb hr (fun t ht hW => ⟨rfl, trivial, ht⟩) (fun _ h => by cases h) dX7_letThingsGo_53
set_option maxHeartbeats 4000000 in
set_option maxRecDepth 100000 in
theorem c_X7_takeFrom (l : Launch) (G : va_G) (cy : Nat → ClassId) (sk : Nat → Nat) (sz : Nat) (st : Nat) (oc : Nat) (ki : Nat) (ce : Nat) (si : Nat) (sp : Nat) (foc : Nat → Int32) (fki : Nat → Int32) (fce : Nat → Int32) (fsi : Nat → Int32) (fsp : Nat → Int32) (st2 : Nat) (oc2 : Nat) (ki2 : Nat) (ce2 : Nat) (si2 : Nat) (sp2 : Nat) (goc : Nat → Int32) (gki : Nat → Int32) (gce : Nat → Int32) (gsi : Nat → Int32) (gsp : Nat → Int32)  : Met l yX7_takeFrom (wsO yX7_takeFrom cX7_takeFrom 2 none) ({ frames := 1, cells := 0, slots := 0, locals := 40 }) (va_Pc [.ref st, .ref st2] (PR G cy sk sz [(st, .inr (7, [.ref oc, .ref ki, .ref ce, .ref si, .ref sp, .int 0])), (oc, .inl (cy 0, 192, .inl foc)), (ki, .inl (cy 0, 40, .inl fki)), (ce, .inl (cy 0, 40, .inl fce)), (si, .inl (cy 0, 40, .inl fsi)), (sp, .inl (cy 0, 40, .inl fsp)), (st2, .inr (7, [.ref oc2, .ref ki2, .ref ce2, .ref si2, .ref sp2, .int 0])), (oc2, .inl (cy 0, 192, .inl goc)), (ki2, .inl (cy 0, 40, .inl gki)), (ce2, .inl (cy 0, 40, .inl gce)), (si2, .inl (cy 0, 40, .inl gsi)), (sp2, .inl (cy 0, 40, .inl gsp))])) (va_Qv (fun (_ : Unit) => True) (fun _ _ => True) (va_A [(st, .inr (7, [.ref oc, .ref ki, .ref ce, .ref si, .ref sp, .int 0])), (oc, .inl (cy 0, 192, .inl foc)), (ki, .inl (cy 0, 40, .inl fki)), (ce, .inl (cy 0, 40, .inl fce)), (si, .inl (cy 0, 40, .inl fsi)), (sp, .inl (cy 0, 40, .inl fsp)), (st2, .inr (7, [.ref oc2, .ref ki2, .ref ce2, .ref si2, .ref sp2, .int 0])), (oc2, .inl (cy 0, 192, .inl goc)), (ki2, .inl (cy 0, 40, .inl gki)), (ce2, .inl (cy 0, 40, .inl gce)), (si2, .inl (cy 0, 40, .inl gsi)), (sp2, .inl (cy 0, 40, .inl gsp))] sz)) 0 0 (va_A [(st, .inr (7, [.ref oc, .ref ki, .ref ce, .ref si, .ref sp, .int 0])), (oc, .inl (cy 0, 192, .inl foc)), (ki, .inl (cy 0, 40, .inl fki)), (ce, .inl (cy 0, 40, .inl fce)), (si, .inl (cy 0, 40, .inl fsi)), (sp, .inl (cy 0, 40, .inl fsp)), (st2, .inr (7, [.ref oc2, .ref ki2, .ref ce2, .ref si2, .ref sp2, .int 0])), (oc2, .inl (cy 0, 192, .inl goc)), (ki2, .inl (cy 0, 40, .inl gki)), (ce2, .inl (cy 0, 40, .inl gce)), (si2, .inl (cy 0, 40, .inl gsi)), (sp2, .inl (cy 0, 40, .inl gsp))] sz) := by
  refine mt (by decide) (Nat.le_of_ble_eq_true rfl) ?_
  intro p e s m below meth c ls hx hb hr hml hts hown hlocks hin hsz hP hE hD hl
  subst hsz
  have hl : lv_has ls 2 [(0, .ref st), (1, .ref st2)] := hl
  have hD := hD.self (sz := s.heap.size)
  generalize hAe : va_A [(st, .inr (7, [.ref oc, .ref ki, .ref ce, .ref si, .ref sp, .int 0])), (oc, .inl (cy 0, 192, .inl foc)), (ki, .inl (cy 0, 40, .inl fki)), (ce, .inl (cy 0, 40, .inl fce)), (si, .inl (cy 0, 40, .inl fsi)), (sp, .inl (cy 0, 40, .inl fsp)), (st2, .inr (7, [.ref oc2, .ref ki2, .ref ce2, .ref si2, .ref sp2, .int 0])), (oc2, .inl (cy 0, 192, .inl goc)), (ki2, .inl (cy 0, 40, .inl gki)), (ce2, .inl (cy 0, 40, .inl gce)), (si2, .inl (cy 0, 40, .inl gsi)), (sp2, .inl (cy 0, 40, .inl gsp))] s.heap.size = A at hD ⊢
  have hA : ∀ q : Nat, s.heap.size ≤ q → A q := fun q h => by rw [← hAe]; exact Or.inr h
  have hS : va_S A s.heap s.heap [] := va_S.rf
  refine lv_aload_n hx hb dX7_takeFrom_0 rfl (lv_at hl 1 rfl) ?_
  refine va_get (D := G) (ci := 7) (v := .ref oc2) (C := RX7) (T := TX7) (N := 6) hx hb hts inB7 hown hE.1 hP 6 rfl rfl 0 (by decide) (hts _ m_121) (fun _ h9 => h9) rfl dX7_takeFrom_1 ?_
  refine lv_iconst (v := 0) hx hb dX7_takeFrom_4 (by decide) ?_
  refine lv_aload_n hx hb dX7_takeFrom_5 rfl (lv_at hl 0 rfl) ?_
  refine va_get (D := G) (ci := 7) (v := .ref oc) (C := RX7) (T := TX7) (N := 6) hx hb hts inB7 hown hE.1 hP 0 rfl rfl 0 (by decide) (hts _ m_121) (fun _ h9 => h9) rfl dX7_takeFrom_6 ?_
  refine lv_iconst (v := 0) hx hb dX7_takeFrom_9 (by decide) ?_
  refine lv_sipush (v := 192) hx hb dX7_takeFrom_10 (by decide) ?_
  refine va_copyi (ty := .int) hx hb (hml.trans hl.1.symm) hown (hts _ m_1262) (hts _ m_830) (hts _ m_829) (hts _ m_98) hE.1 hP hD hS 7 1 0 0 rfl rfl rfl rfl rfl (by decide) (by decide) (by decide) (by decide) (by decide) (fun _ _ => rfl) (Nat.le_of_ble_eq_true rfl) (Nat.le_of_ble_eq_true rfl) dX7_takeFrom_13 (fun H locs hP hD hS => ?_)
  have hP : va_P G classes [(st, .inr (7, [.ref oc, .ref ki, .ref ce, .ref si, .ref sp, .int 0])), (oc, .inl (cy 0, 192, .inl (va_cpy goc foc 0 0 192))), (ki, .inl (cy 0, 40, .inl fki)), (ce, .inl (cy 0, 40, .inl fce)), (si, .inl (cy 0, 40, .inl fsi)), (sp, .inl (cy 0, 40, .inl fsp)), (st2, .inr (7, [.ref oc2, .ref ki2, .ref ce2, .ref si2, .ref sp2, .int 0])), (oc2, .inl (cy 0, 192, .inl goc)), (ki2, .inl (cy 0, 40, .inl gki)), (ce2, .inl (cy 0, 40, .inl gce)), (si2, .inl (cy 0, 40, .inl gsi)), (sp2, .inl (cy 0, 40, .inl gsp))] H := hP
  have hD : va_D A [(st, .inr (7, [.ref oc, .ref ki, .ref ce, .ref si, .ref sp, .int 0])), (oc, .inl (cy 0, 192, .inl (va_cpy goc foc 0 0 192))), (ki, .inl (cy 0, 40, .inl fki)), (ce, .inl (cy 0, 40, .inl fce)), (si, .inl (cy 0, 40, .inl fsi)), (sp, .inl (cy 0, 40, .inl fsp)), (st2, .inr (7, [.ref oc2, .ref ki2, .ref ce2, .ref si2, .ref sp2, .int 0])), (oc2, .inl (cy 0, 192, .inl goc)), (ki2, .inl (cy 0, 40, .inl gki)), (ce2, .inl (cy 0, 40, .inl gce)), (si2, .inl (cy 0, 40, .inl gsi)), (sp2, .inl (cy 0, 40, .inl gsp))] := hD
  obtain ⟨xf1, hP, hD⟩ : ∃ xf1, va_P G classes [(st, .inr (7, [.ref oc, .ref ki, .ref ce, .ref si, .ref sp, .int 0])), (oc, .inl (cy 0, 192, .inl xf1)), (ki, .inl (cy 0, 40, .inl fki)), (ce, .inl (cy 0, 40, .inl fce)), (si, .inl (cy 0, 40, .inl fsi)), (sp, .inl (cy 0, 40, .inl fsp)), (st2, .inr (7, [.ref oc2, .ref ki2, .ref ce2, .ref si2, .ref sp2, .int 0])), (oc2, .inl (cy 0, 192, .inl goc)), (ki2, .inl (cy 0, 40, .inl gki)), (ce2, .inl (cy 0, 40, .inl gce)), (si2, .inl (cy 0, 40, .inl gsi)), (sp2, .inl (cy 0, 40, .inl gsp))] H ∧ va_D A [(st, .inr (7, [.ref oc, .ref ki, .ref ce, .ref si, .ref sp, .int 0])), (oc, .inl (cy 0, 192, .inl xf1)), (ki, .inl (cy 0, 40, .inl fki)), (ce, .inl (cy 0, 40, .inl fce)), (si, .inl (cy 0, 40, .inl fsi)), (sp, .inl (cy 0, 40, .inl fsp)), (st2, .inr (7, [.ref oc2, .ref ki2, .ref ce2, .ref si2, .ref sp2, .int 0])), (oc2, .inl (cy 0, 192, .inl goc)), (ki2, .inl (cy 0, 40, .inl gki)), (ce2, .inl (cy 0, 40, .inl gce)), (si2, .inl (cy 0, 40, .inl gsi)), (sp2, .inl (cy 0, 40, .inl gsp))] := ⟨_, hP, hD⟩
  refine lv_aload_n hx hb dX7_takeFrom_16 rfl (lv_at hl 1 rfl) ?_
  refine va_get (D := G) (ci := 7) (v := .ref ki2) (C := RX7) (T := TX7) (N := 6) hx hb hts inB7 hown hE.1 hP 6 rfl rfl 1 (by decide) (hts _ m_124) (fun _ h9 => h9) rfl dX7_takeFrom_17 ?_
  refine lv_iconst (v := 0) hx hb dX7_takeFrom_20 (by decide) ?_
  refine lv_aload_n hx hb dX7_takeFrom_21 rfl (lv_at hl 0 rfl) ?_
  refine va_get (D := G) (ci := 7) (v := .ref ki) (C := RX7) (T := TX7) (N := 6) hx hb hts inB7 hown hE.1 hP 0 rfl rfl 1 (by decide) (hts _ m_124) (fun _ h9 => h9) rfl dX7_takeFrom_22 ?_
  refine lv_iconst (v := 0) hx hb dX7_takeFrom_25 (by decide) ?_
  refine lv_bipush (v := 40) hx hb dX7_takeFrom_26 (by decide) ?_
  refine va_copyi (ty := .int) hx hb (hml.trans hl.1.symm) hown (hts _ m_1262) (hts _ m_830) (hts _ m_829) (hts _ m_98) hE.1 hP hD hS 8 2 0 0 rfl rfl rfl rfl rfl (by decide) (by decide) (by decide) (by decide) (by decide) (fun _ _ => rfl) (Nat.le_of_ble_eq_true rfl) (Nat.le_of_ble_eq_true rfl) dX7_takeFrom_28 (fun H locs hP hD hS => ?_)
  have hP : va_P G classes [(st, .inr (7, [.ref oc, .ref ki, .ref ce, .ref si, .ref sp, .int 0])), (oc, .inl (cy 0, 192, .inl xf1)), (ki, .inl (cy 0, 40, .inl (va_cpy gki fki 0 0 40))), (ce, .inl (cy 0, 40, .inl fce)), (si, .inl (cy 0, 40, .inl fsi)), (sp, .inl (cy 0, 40, .inl fsp)), (st2, .inr (7, [.ref oc2, .ref ki2, .ref ce2, .ref si2, .ref sp2, .int 0])), (oc2, .inl (cy 0, 192, .inl goc)), (ki2, .inl (cy 0, 40, .inl gki)), (ce2, .inl (cy 0, 40, .inl gce)), (si2, .inl (cy 0, 40, .inl gsi)), (sp2, .inl (cy 0, 40, .inl gsp))] H := hP
  have hD : va_D A [(st, .inr (7, [.ref oc, .ref ki, .ref ce, .ref si, .ref sp, .int 0])), (oc, .inl (cy 0, 192, .inl xf1)), (ki, .inl (cy 0, 40, .inl (va_cpy gki fki 0 0 40))), (ce, .inl (cy 0, 40, .inl fce)), (si, .inl (cy 0, 40, .inl fsi)), (sp, .inl (cy 0, 40, .inl fsp)), (st2, .inr (7, [.ref oc2, .ref ki2, .ref ce2, .ref si2, .ref sp2, .int 0])), (oc2, .inl (cy 0, 192, .inl goc)), (ki2, .inl (cy 0, 40, .inl gki)), (ce2, .inl (cy 0, 40, .inl gce)), (si2, .inl (cy 0, 40, .inl gsi)), (sp2, .inl (cy 0, 40, .inl gsp))] := hD
  obtain ⟨xf2, hP, hD⟩ : ∃ xf2, va_P G classes [(st, .inr (7, [.ref oc, .ref ki, .ref ce, .ref si, .ref sp, .int 0])), (oc, .inl (cy 0, 192, .inl xf1)), (ki, .inl (cy 0, 40, .inl xf2)), (ce, .inl (cy 0, 40, .inl fce)), (si, .inl (cy 0, 40, .inl fsi)), (sp, .inl (cy 0, 40, .inl fsp)), (st2, .inr (7, [.ref oc2, .ref ki2, .ref ce2, .ref si2, .ref sp2, .int 0])), (oc2, .inl (cy 0, 192, .inl goc)), (ki2, .inl (cy 0, 40, .inl gki)), (ce2, .inl (cy 0, 40, .inl gce)), (si2, .inl (cy 0, 40, .inl gsi)), (sp2, .inl (cy 0, 40, .inl gsp))] H ∧ va_D A [(st, .inr (7, [.ref oc, .ref ki, .ref ce, .ref si, .ref sp, .int 0])), (oc, .inl (cy 0, 192, .inl xf1)), (ki, .inl (cy 0, 40, .inl xf2)), (ce, .inl (cy 0, 40, .inl fce)), (si, .inl (cy 0, 40, .inl fsi)), (sp, .inl (cy 0, 40, .inl fsp)), (st2, .inr (7, [.ref oc2, .ref ki2, .ref ce2, .ref si2, .ref sp2, .int 0])), (oc2, .inl (cy 0, 192, .inl goc)), (ki2, .inl (cy 0, 40, .inl gki)), (ce2, .inl (cy 0, 40, .inl gce)), (si2, .inl (cy 0, 40, .inl gsi)), (sp2, .inl (cy 0, 40, .inl gsp))] := ⟨_, hP, hD⟩
  refine lv_aload_n hx hb dX7_takeFrom_31 rfl (lv_at hl 1 rfl) ?_
  refine va_get (D := G) (ci := 7) (v := .ref ce2) (C := RX7) (T := TX7) (N := 6) hx hb hts inB7 hown hE.1 hP 6 rfl rfl 2 (by decide) (hts _ m_126) (fun _ h9 => h9) rfl dX7_takeFrom_32 ?_
  refine lv_iconst (v := 0) hx hb dX7_takeFrom_35 (by decide) ?_
  refine lv_aload_n hx hb dX7_takeFrom_36 rfl (lv_at hl 0 rfl) ?_
  refine va_get (D := G) (ci := 7) (v := .ref ce) (C := RX7) (T := TX7) (N := 6) hx hb hts inB7 hown hE.1 hP 0 rfl rfl 2 (by decide) (hts _ m_126) (fun _ h9 => h9) rfl dX7_takeFrom_37 ?_
  refine lv_iconst (v := 0) hx hb dX7_takeFrom_40 (by decide) ?_
  refine lv_bipush (v := 40) hx hb dX7_takeFrom_41 (by decide) ?_
  refine va_copyi (ty := .int) hx hb (hml.trans hl.1.symm) hown (hts _ m_1262) (hts _ m_830) (hts _ m_829) (hts _ m_98) hE.1 hP hD hS 9 3 0 0 rfl rfl rfl rfl rfl (by decide) (by decide) (by decide) (by decide) (by decide) (fun _ _ => rfl) (Nat.le_of_ble_eq_true rfl) (Nat.le_of_ble_eq_true rfl) dX7_takeFrom_43 (fun H locs hP hD hS => ?_)
  have hP : va_P G classes [(st, .inr (7, [.ref oc, .ref ki, .ref ce, .ref si, .ref sp, .int 0])), (oc, .inl (cy 0, 192, .inl xf1)), (ki, .inl (cy 0, 40, .inl xf2)), (ce, .inl (cy 0, 40, .inl (va_cpy gce fce 0 0 40))), (si, .inl (cy 0, 40, .inl fsi)), (sp, .inl (cy 0, 40, .inl fsp)), (st2, .inr (7, [.ref oc2, .ref ki2, .ref ce2, .ref si2, .ref sp2, .int 0])), (oc2, .inl (cy 0, 192, .inl goc)), (ki2, .inl (cy 0, 40, .inl gki)), (ce2, .inl (cy 0, 40, .inl gce)), (si2, .inl (cy 0, 40, .inl gsi)), (sp2, .inl (cy 0, 40, .inl gsp))] H := hP
  have hD : va_D A [(st, .inr (7, [.ref oc, .ref ki, .ref ce, .ref si, .ref sp, .int 0])), (oc, .inl (cy 0, 192, .inl xf1)), (ki, .inl (cy 0, 40, .inl xf2)), (ce, .inl (cy 0, 40, .inl (va_cpy gce fce 0 0 40))), (si, .inl (cy 0, 40, .inl fsi)), (sp, .inl (cy 0, 40, .inl fsp)), (st2, .inr (7, [.ref oc2, .ref ki2, .ref ce2, .ref si2, .ref sp2, .int 0])), (oc2, .inl (cy 0, 192, .inl goc)), (ki2, .inl (cy 0, 40, .inl gki)), (ce2, .inl (cy 0, 40, .inl gce)), (si2, .inl (cy 0, 40, .inl gsi)), (sp2, .inl (cy 0, 40, .inl gsp))] := hD
  obtain ⟨xf3, hP, hD⟩ : ∃ xf3, va_P G classes [(st, .inr (7, [.ref oc, .ref ki, .ref ce, .ref si, .ref sp, .int 0])), (oc, .inl (cy 0, 192, .inl xf1)), (ki, .inl (cy 0, 40, .inl xf2)), (ce, .inl (cy 0, 40, .inl xf3)), (si, .inl (cy 0, 40, .inl fsi)), (sp, .inl (cy 0, 40, .inl fsp)), (st2, .inr (7, [.ref oc2, .ref ki2, .ref ce2, .ref si2, .ref sp2, .int 0])), (oc2, .inl (cy 0, 192, .inl goc)), (ki2, .inl (cy 0, 40, .inl gki)), (ce2, .inl (cy 0, 40, .inl gce)), (si2, .inl (cy 0, 40, .inl gsi)), (sp2, .inl (cy 0, 40, .inl gsp))] H ∧ va_D A [(st, .inr (7, [.ref oc, .ref ki, .ref ce, .ref si, .ref sp, .int 0])), (oc, .inl (cy 0, 192, .inl xf1)), (ki, .inl (cy 0, 40, .inl xf2)), (ce, .inl (cy 0, 40, .inl xf3)), (si, .inl (cy 0, 40, .inl fsi)), (sp, .inl (cy 0, 40, .inl fsp)), (st2, .inr (7, [.ref oc2, .ref ki2, .ref ce2, .ref si2, .ref sp2, .int 0])), (oc2, .inl (cy 0, 192, .inl goc)), (ki2, .inl (cy 0, 40, .inl gki)), (ce2, .inl (cy 0, 40, .inl gce)), (si2, .inl (cy 0, 40, .inl gsi)), (sp2, .inl (cy 0, 40, .inl gsp))] := ⟨_, hP, hD⟩
  refine lv_aload_n hx hb dX7_takeFrom_46 rfl (lv_at hl 1 rfl) ?_
  refine va_get (D := G) (ci := 7) (v := .ref si2) (C := RX7) (T := TX7) (N := 6) hx hb hts inB7 hown hE.1 hP 6 rfl rfl 3 (by decide) (hts _ m_128) (fun _ h9 => h9) rfl dX7_takeFrom_47 ?_
  refine lv_iconst (v := 0) hx hb dX7_takeFrom_50 (by decide) ?_
  refine lv_aload_n hx hb dX7_takeFrom_51 rfl (lv_at hl 0 rfl) ?_
  refine va_get (D := G) (ci := 7) (v := .ref si) (C := RX7) (T := TX7) (N := 6) hx hb hts inB7 hown hE.1 hP 0 rfl rfl 3 (by decide) (hts _ m_128) (fun _ h9 => h9) rfl dX7_takeFrom_52 ?_
  refine lv_iconst (v := 0) hx hb dX7_takeFrom_55 (by decide) ?_
  refine lv_bipush (v := 40) hx hb dX7_takeFrom_56 (by decide) ?_
  refine va_copyi (ty := .int) hx hb (hml.trans hl.1.symm) hown (hts _ m_1262) (hts _ m_830) (hts _ m_829) (hts _ m_98) hE.1 hP hD hS 10 4 0 0 rfl rfl rfl rfl rfl (by decide) (by decide) (by decide) (by decide) (by decide) (fun _ _ => rfl) (Nat.le_of_ble_eq_true rfl) (Nat.le_of_ble_eq_true rfl) dX7_takeFrom_58 (fun H locs hP hD hS => ?_)
  have hP : va_P G classes [(st, .inr (7, [.ref oc, .ref ki, .ref ce, .ref si, .ref sp, .int 0])), (oc, .inl (cy 0, 192, .inl xf1)), (ki, .inl (cy 0, 40, .inl xf2)), (ce, .inl (cy 0, 40, .inl xf3)), (si, .inl (cy 0, 40, .inl (va_cpy gsi fsi 0 0 40))), (sp, .inl (cy 0, 40, .inl fsp)), (st2, .inr (7, [.ref oc2, .ref ki2, .ref ce2, .ref si2, .ref sp2, .int 0])), (oc2, .inl (cy 0, 192, .inl goc)), (ki2, .inl (cy 0, 40, .inl gki)), (ce2, .inl (cy 0, 40, .inl gce)), (si2, .inl (cy 0, 40, .inl gsi)), (sp2, .inl (cy 0, 40, .inl gsp))] H := hP
  have hD : va_D A [(st, .inr (7, [.ref oc, .ref ki, .ref ce, .ref si, .ref sp, .int 0])), (oc, .inl (cy 0, 192, .inl xf1)), (ki, .inl (cy 0, 40, .inl xf2)), (ce, .inl (cy 0, 40, .inl xf3)), (si, .inl (cy 0, 40, .inl (va_cpy gsi fsi 0 0 40))), (sp, .inl (cy 0, 40, .inl fsp)), (st2, .inr (7, [.ref oc2, .ref ki2, .ref ce2, .ref si2, .ref sp2, .int 0])), (oc2, .inl (cy 0, 192, .inl goc)), (ki2, .inl (cy 0, 40, .inl gki)), (ce2, .inl (cy 0, 40, .inl gce)), (si2, .inl (cy 0, 40, .inl gsi)), (sp2, .inl (cy 0, 40, .inl gsp))] := hD
  obtain ⟨xf4, hP, hD⟩ : ∃ xf4, va_P G classes [(st, .inr (7, [.ref oc, .ref ki, .ref ce, .ref si, .ref sp, .int 0])), (oc, .inl (cy 0, 192, .inl xf1)), (ki, .inl (cy 0, 40, .inl xf2)), (ce, .inl (cy 0, 40, .inl xf3)), (si, .inl (cy 0, 40, .inl xf4)), (sp, .inl (cy 0, 40, .inl fsp)), (st2, .inr (7, [.ref oc2, .ref ki2, .ref ce2, .ref si2, .ref sp2, .int 0])), (oc2, .inl (cy 0, 192, .inl goc)), (ki2, .inl (cy 0, 40, .inl gki)), (ce2, .inl (cy 0, 40, .inl gce)), (si2, .inl (cy 0, 40, .inl gsi)), (sp2, .inl (cy 0, 40, .inl gsp))] H ∧ va_D A [(st, .inr (7, [.ref oc, .ref ki, .ref ce, .ref si, .ref sp, .int 0])), (oc, .inl (cy 0, 192, .inl xf1)), (ki, .inl (cy 0, 40, .inl xf2)), (ce, .inl (cy 0, 40, .inl xf3)), (si, .inl (cy 0, 40, .inl xf4)), (sp, .inl (cy 0, 40, .inl fsp)), (st2, .inr (7, [.ref oc2, .ref ki2, .ref ce2, .ref si2, .ref sp2, .int 0])), (oc2, .inl (cy 0, 192, .inl goc)), (ki2, .inl (cy 0, 40, .inl gki)), (ce2, .inl (cy 0, 40, .inl gce)), (si2, .inl (cy 0, 40, .inl gsi)), (sp2, .inl (cy 0, 40, .inl gsp))] := ⟨_, hP, hD⟩
  refine lv_aload_n hx hb dX7_takeFrom_61 rfl (lv_at hl 1 rfl) ?_
  refine va_get (D := G) (ci := 7) (v := .ref sp2) (C := RX7) (T := TX7) (N := 6) hx hb hts inB7 hown hE.1 hP 6 rfl rfl 4 (by decide) (hts _ m_130) (fun _ h9 => h9) rfl dX7_takeFrom_62 ?_
  refine lv_iconst (v := 0) hx hb dX7_takeFrom_65 (by decide) ?_
  refine lv_aload_n hx hb dX7_takeFrom_66 rfl (lv_at hl 0 rfl) ?_
  refine va_get (D := G) (ci := 7) (v := .ref sp) (C := RX7) (T := TX7) (N := 6) hx hb hts inB7 hown hE.1 hP 0 rfl rfl 4 (by decide) (hts _ m_130) (fun _ h9 => h9) rfl dX7_takeFrom_67 ?_
  refine lv_iconst (v := 0) hx hb dX7_takeFrom_70 (by decide) ?_
  refine lv_bipush (v := 40) hx hb dX7_takeFrom_71 (by decide) ?_
  refine va_copyi (ty := .int) hx hb (hml.trans hl.1.symm) hown (hts _ m_1262) (hts _ m_830) (hts _ m_829) (hts _ m_98) hE.1 hP hD hS 11 5 0 0 rfl rfl rfl rfl rfl (by decide) (by decide) (by decide) (by decide) (by decide) (fun _ _ => rfl) (Nat.le_of_ble_eq_true rfl) (Nat.le_of_ble_eq_true rfl) dX7_takeFrom_73 (fun H locs hP hD hS => ?_)
  have hP : va_P G classes [(st, .inr (7, [.ref oc, .ref ki, .ref ce, .ref si, .ref sp, .int 0])), (oc, .inl (cy 0, 192, .inl xf1)), (ki, .inl (cy 0, 40, .inl xf2)), (ce, .inl (cy 0, 40, .inl xf3)), (si, .inl (cy 0, 40, .inl xf4)), (sp, .inl (cy 0, 40, .inl (va_cpy gsp fsp 0 0 40))), (st2, .inr (7, [.ref oc2, .ref ki2, .ref ce2, .ref si2, .ref sp2, .int 0])), (oc2, .inl (cy 0, 192, .inl goc)), (ki2, .inl (cy 0, 40, .inl gki)), (ce2, .inl (cy 0, 40, .inl gce)), (si2, .inl (cy 0, 40, .inl gsi)), (sp2, .inl (cy 0, 40, .inl gsp))] H := hP
  have hD : va_D A [(st, .inr (7, [.ref oc, .ref ki, .ref ce, .ref si, .ref sp, .int 0])), (oc, .inl (cy 0, 192, .inl xf1)), (ki, .inl (cy 0, 40, .inl xf2)), (ce, .inl (cy 0, 40, .inl xf3)), (si, .inl (cy 0, 40, .inl xf4)), (sp, .inl (cy 0, 40, .inl (va_cpy gsp fsp 0 0 40))), (st2, .inr (7, [.ref oc2, .ref ki2, .ref ce2, .ref si2, .ref sp2, .int 0])), (oc2, .inl (cy 0, 192, .inl goc)), (ki2, .inl (cy 0, 40, .inl gki)), (ce2, .inl (cy 0, 40, .inl gce)), (si2, .inl (cy 0, 40, .inl gsi)), (sp2, .inl (cy 0, 40, .inl gsp))] := hD
  obtain ⟨xf5, hP, hD⟩ : ∃ xf5, va_P G classes [(st, .inr (7, [.ref oc, .ref ki, .ref ce, .ref si, .ref sp, .int 0])), (oc, .inl (cy 0, 192, .inl xf1)), (ki, .inl (cy 0, 40, .inl xf2)), (ce, .inl (cy 0, 40, .inl xf3)), (si, .inl (cy 0, 40, .inl xf4)), (sp, .inl (cy 0, 40, .inl xf5)), (st2, .inr (7, [.ref oc2, .ref ki2, .ref ce2, .ref si2, .ref sp2, .int 0])), (oc2, .inl (cy 0, 192, .inl goc)), (ki2, .inl (cy 0, 40, .inl gki)), (ce2, .inl (cy 0, 40, .inl gce)), (si2, .inl (cy 0, 40, .inl gsi)), (sp2, .inl (cy 0, 40, .inl gsp))] H ∧ va_D A [(st, .inr (7, [.ref oc, .ref ki, .ref ce, .ref si, .ref sp, .int 0])), (oc, .inl (cy 0, 192, .inl xf1)), (ki, .inl (cy 0, 40, .inl xf2)), (ce, .inl (cy 0, 40, .inl xf3)), (si, .inl (cy 0, 40, .inl xf4)), (sp, .inl (cy 0, 40, .inl xf5)), (st2, .inr (7, [.ref oc2, .ref ki2, .ref ce2, .ref si2, .ref sp2, .int 0])), (oc2, .inl (cy 0, 192, .inl goc)), (ki2, .inl (cy 0, 40, .inl gki)), (ce2, .inl (cy 0, 40, .inl gce)), (si2, .inl (cy 0, 40, .inl gsi)), (sp2, .inl (cy 0, 40, .inl gsp))] := ⟨_, hP, hD⟩
  refine lv_aload_n hx hb dX7_takeFrom_76 rfl (lv_at hl 0 rfl) ?_
  refine lv_aload_n hx hb dX7_takeFrom_77 rfl (lv_at hl 1 rfl) ?_
  refine va_get (D := G) (ci := 7) (v := .int 0) (C := RX7) (T := TX7) (N := 6) hx hb hts inB7 hown hE.1 hP 6 rfl rfl 5 (by decide) (hts _ m_132) (fun _ h9 => h9) rfl dX7_takeFrom_78 ?_
  refine va_put (D := G) (ci := 7) (v := .int 0) (ty := .int) (C := RX7) (T := TX7) (N := 6) hx hb hts inB7 tyX7 tyX7_ok nmX7 hown hE.1 hP hD hS 0 rfl rfl 5 (by decide) (hts _ m_132) (fun _ h9 => h9) rfl (by decide +kernel) rfl rfl (Nat.le_of_ble_eq_true rfl) dX7_takeFrom_81 (fun H locs hP hD hS => ?_)
  have hP : va_P G classes [(st, .inr (7, [.ref oc, .ref ki, .ref ce, .ref si, .ref sp, .int 0])), (oc, .inl (cy 0, 192, .inl xf1)), (ki, .inl (cy 0, 40, .inl xf2)), (ce, .inl (cy 0, 40, .inl xf3)), (si, .inl (cy 0, 40, .inl xf4)), (sp, .inl (cy 0, 40, .inl xf5)), (st2, .inr (7, [.ref oc2, .ref ki2, .ref ce2, .ref si2, .ref sp2, .int 0])), (oc2, .inl (cy 0, 192, .inl goc)), (ki2, .inl (cy 0, 40, .inl gki)), (ce2, .inl (cy 0, 40, .inl gce)), (si2, .inl (cy 0, 40, .inl gsi)), (sp2, .inl (cy 0, 40, .inl gsp))] H := hP
  have hD : va_D A [(st, .inr (7, [.ref oc, .ref ki, .ref ce, .ref si, .ref sp, .int 0])), (oc, .inl (cy 0, 192, .inl xf1)), (ki, .inl (cy 0, 40, .inl xf2)), (ce, .inl (cy 0, 40, .inl xf3)), (si, .inl (cy 0, 40, .inl xf4)), (sp, .inl (cy 0, 40, .inl xf5)), (st2, .inr (7, [.ref oc2, .ref ki2, .ref ce2, .ref si2, .ref sp2, .int 0])), (oc2, .inl (cy 0, 192, .inl goc)), (ki2, .inl (cy 0, 40, .inl gki)), (ce2, .inl (cy 0, 40, .inl gce)), (si2, .inl (cy 0, 40, .inl gsi)), (sp2, .inl (cy 0, 40, .inl gsp))] := hD
  refine W.widen (k := 0) (n := 0) (by first | exact Nat.le_of_ble_eq_true rfl | omega) (by first | exact Nat.le_of_ble_eq_true rfl | omega) ?_
  exact W.vret hx hb hr (fun t ht hW => ⟨⟨(), rfl, trivial, trivial⟩, hS.F ht⟩) hS.2.2 dX7_takeFrom_84
theorem lf_c_X5_room_0 (n : Nat) (z : Int32) (ans : Int32) (ha : Int32.ofNat n - z = ans) : (((Int32.ofNat n) - z) : Int32) = ans := by first | rfl | simp_all
set_option maxHeartbeats 4000000 in
set_option maxRecDepth 100000 in
theorem c_X5_room (l : Launch) (G : va_G) (cy : Nat → ClassId) (sk : Nat → Nat) (sz : Nat) (ro : Nat) (ra : Nat) (n : Nat) (fr : Nat → Int32) (z : Int32) (ans : Int32) (ha : Int32.ofNat n - z = ans) : Met l yX5_room (wsO yX5_room cX5_room 1 (some .int)) ({ frames := 0, cells := 0, slots := 0, locals := 0 }) (va_Pc [.ref ro] (PR G cy sk sz [(ro, .inr (5, [.ref ra, .int z])), (ra, .inl (cy 0, n, .inl fr))])) (vp_Si (fun r => r = ans)) 0 0 (fun _ => False) := by
  refine mt (by decide) (Nat.le_of_ble_eq_true rfl) ?_
  intro p e s m below meth c ls hx hb hr hml hts hown hlocks hin hsz hP hE hD hl
  subst hsz
  have hl : lv_has ls 1 [(0, .ref ro)] := hl
  refine lv_aload_n hx hb dX5_room_0 rfl (lv_at hl 0 rfl) ?_
  refine va_get (D := G) (ci := 5) (v := .ref ra) (C := RX5) (T := TX5) (N := 2) hx hb hts inB5 hown hE.1 hP 0 rfl rfl 0 (by decide) (hts _ m_208) (fun _ h9 => h9) rfl dX5_room_1 ?_
  refine va_alen (v := (Int32.ofNat n)) hx hb hE.1 hP 1 0 rfl rfl rfl dX5_room_4 ?_
  refine lv_aload_n hx hb dX5_room_5 rfl (lv_at hl 0 rfl) ?_
  refine va_get (D := G) (ci := 5) (v := .int z) (C := RX5) (T := TX5) (N := 2) hx hb hts inB5 hown hE.1 hP 0 rfl rfl 1 (by decide) (hts _ m_209) (fun _ h9 => h9) rfl dX5_room_6 ?_
  refine lv_isub hx hb dX5_room_9 ?_
  exact W.iret (v := ((Int32.ofNat n) - z)) hx hb hr (fun t ht hW => ⟨((Int32.ofNat n) - z), rfl, (lf_c_X5_room_0 n z ans ha), ht⟩) (fun _ h => by cases h) dX5_room_10
theorem lf_c_X5_has_0 (v : Int32) (c_1 : ¬ v < 0) (c_2 : ¬ 0 ≤ v) : (1 : Int32) = 0 := by simp only [inR, Int32.le_iff_toInt_le, Int32.lt_iff_toInt_lt] at *; simp at *; omega
set_option maxHeartbeats 4000000 in
set_option maxRecDepth 100000 in
theorem c_X5_has (l : Launch) (G : va_G) (cy : Nat → ClassId) (sk : Nat → Nat) (sz : Nat) (ro : Nat) (ra : Nat) (v : Int32)  : Met l yX5_has (wsO yX5_has cX5_has 2 (some .boolean)) ({ frames := 0, cells := 0, slots := 0, locals := 0 }) (va_Pc [.ref ro, .int v] (PR G cy sk sz [(ro, .inr (5, [.ref ra, .int 0]))])) (vp_Si (fun r => r = 0)) 0 0 (fun _ => False) := by
  refine mt (by decide) (Nat.le_of_ble_eq_true rfl) ?_
  intro p e s m below meth c ls hx hb hr hml hts hown hlocks hin hsz hP hE hD hl
  subst hsz
  have hl : lv_has ls 2 [(0, .ref ro), (1, .int v)] := hl
  refine lv_iload_n hx hb dX5_has_0 rfl (lv_at hl 1 rfl) ?_
  refine lv_if_lt (tgt := 16) hx hb dX5_has_1 (by decide) (fun c_1 => ?_) (fun c_1 => ?_)
  · refine lv_iconst (v := 0) hx hb dX5_has_16 (by decide) ?_
    exact W.zret (v := 0) hx hb hr rfl (fun t ht hW => ⟨0, rfl, rfl, ht⟩) (fun _ h => by cases h) dX5_has_17
  · refine lv_iload_n hx hb dX5_has_4 rfl (lv_at hl 1 rfl) ?_
    refine lv_aload_n hx hb dX5_has_5 rfl (lv_at hl 0 rfl) ?_
    refine va_get (D := G) (ci := 5) (v := .int 0) (C := RX5) (T := TX5) (N := 2) hx hb hts inB5 hown hE.1 hP 0 rfl rfl 1 (by decide) (hts _ m_209) (fun _ h9 => h9) rfl dX5_has_6 ?_
    refine lv_icmp_ge (tgt := 16) hx hb dX5_has_9 (by decide) (fun c_2 => ?_) (fun c_2 => ?_)
    · refine lv_iconst (v := 0) hx hb dX5_has_16 (by decide) ?_
      exact W.zret (v := 0) hx hb hr rfl (fun t ht hW => ⟨0, rfl, rfl, ht⟩) (fun _ h => by cases h) dX5_has_17
    · refine lv_iconst (v := 1) hx hb dX5_has_12 (by decide) ?_
      refine lv_goto (tgt := 17) hx hb dX5_has_13 (by decide) ?_
      exact W.zret (v := 1) hx hb hr rfl (fun t ht hW => ⟨1, rfl, (lf_c_X5_has_0 v c_1 c_2), ht⟩) (fun _ h => by cases h) dX5_has_17
def B_c_X5_clear (G : va_G) (cy : Nat → ClassId) (A : Nat → Prop) (ro : Nat) (ra : Nat) (z : Int32) (H : Heap) : Prop := va_P G classes [(ro, .inr (5, [.ref ra, .int 0]))] H ∧ va_D A [(ro, .inr (5, [.ref ra, .int 0]))]
set_option maxHeartbeats 4000000 in
set_option maxRecDepth 100000 in
theorem c_X5_clear (l : Launch) (G : va_G) (cy : Nat → ClassId) (sk : Nat → Nat) (sz : Nat) (ro : Nat) (ra : Nat) (z : Int32)  : Met l yX5_clear (wsO yX5_clear cX5_clear 1 none) ({ frames := 0, cells := 0, slots := 0, locals := 0 }) (va_Pc [.ref ro] (PR G cy sk sz [(ro, .inr (5, [.ref ra, .int z]))])) (va_Qv (fun (_ : Unit) => True) (fun _ t => B_c_X5_clear G cy (va_A [(ro, .inr (5, [.ref ra, .int z]))] sz) ro ra z t.heap) (va_A [(ro, .inr (5, [.ref ra, .int z]))] sz)) 0 0 (va_A [(ro, .inr (5, [.ref ra, .int z]))] sz) := by
  refine mt (by decide) (Nat.le_of_ble_eq_true rfl) ?_
  intro p e s m below meth c ls hx hb hr hml hts hown hlocks hin hsz hP hE hD hl
  subst hsz
  have hl : lv_has ls 1 [(0, .ref ro)] := hl
  have hD := hD.self (sz := s.heap.size)
  generalize hAe : va_A [(ro, .inr (5, [.ref ra, .int z]))] s.heap.size = A at hD ⊢
  have hA : ∀ q : Nat, s.heap.size ≤ q → A q := fun q h => by rw [← hAe]; exact Or.inr h
  have hS : va_S A s.heap s.heap [] := va_S.rf
  refine lv_aload_n hx hb dX5_clear_0 rfl (lv_at hl 0 rfl) ?_
  refine lv_iconst (v := 0) hx hb dX5_clear_1 (by decide) ?_
  refine va_put (D := G) (ci := 5) (v := .int 0) (ty := .int) (C := RX5) (T := TX5) (N := 2) hx hb hts inB5 tyX5 tyX5_ok nmX5 hown hE.1 hP hD hS 0 rfl rfl 1 (by decide) (hts _ m_209) (fun _ h9 => h9) rfl (by decide +kernel) rfl rfl (Nat.le_of_ble_eq_true rfl) dX5_clear_2 (fun H locs hP hD hS => ?_)
  have hP : va_P G classes [(ro, .inr (5, [.ref ra, .int 0]))] H := hP
  have hD : va_D A [(ro, .inr (5, [.ref ra, .int 0]))] := hD
  have hP9 := P_cut (wc := [(ro, .inr (5, [.ref ra, .int 0]))]) hP [0] rfl
  have hD9 := hD.sub (ws' := [(ro, .inr (5, [.ref ra, .int 0]))]) [0] (by decide) rfl
  refine W.widen (k := 0) (n := 0) (by first | exact Nat.le_of_ble_eq_true rfl | omega) (by first | exact Nat.le_of_ble_eq_true rfl | omega) ?_
  exact W.vret hx hb hr (fun t ht hW => ⟨⟨(), rfl, trivial, by dsimp only; rw [ht]; exact ⟨hP9, hD9⟩⟩, hS.F ht⟩) hS.2.2 dX5_clear_5
def B_c_X5_add (G : va_G) (cy : Nat → ClassId) (A : Nat → Prop) (ro : Nat) (ra : Nat) (n : Nat) (fr : Nat → Int32) (z : Int32) (k : Nat) (v : Int32) (H : Heap) : Prop := ∃ (fr2 : Nat → Int32), va_P G classes [(ro, .inr (5, [.ref ra, .int (nI (k + 1))])), (ra, .inl (cy 0, n, .inl fr2))] H ∧ va_D A [(ro, .inr (5, [.ref ra, .int (nI (k + 1))])), (ra, .inl (cy 0, n, .inl fr2))]
set_option maxHeartbeats 4000000 in
set_option maxRecDepth 100000 in
theorem c_X5_add (l : Launch) (G : va_G) (cy : Nat → ClassId) (sk : Nat → Nat) (sz : Nat) (ro : Nat) (ra : Nat) (n : Nat) (fr : Nat → Int32) (z : Int32) (k : Nat) (v : Int32) (hz : z = nI k) (hk : k < n) (hn : n ≤ 48) : Met l yX5_add (wsO yX5_add cX5_add 2 none) ({ frames := 0, cells := 0, slots := 0, locals := 0 }) (va_Pc [.ref ro, .int v] (PR G cy sk sz [(ro, .inr (5, [.ref ra, .int z])), (ra, .inl (cy 0, n, .inl fr))])) (va_Qv (fun (_ : Unit) => True) (fun _ t => B_c_X5_add G cy (va_A [(ro, .inr (5, [.ref ra, .int z])), (ra, .inl (cy 0, n, .inl fr))] sz) ro ra n fr z k v t.heap) (va_A [(ro, .inr (5, [.ref ra, .int z])), (ra, .inl (cy 0, n, .inl fr))] sz)) 0 0 (va_A [(ro, .inr (5, [.ref ra, .int z])), (ra, .inl (cy 0, n, .inl fr))] sz) := by
  refine mt (by decide) (Nat.le_of_ble_eq_true rfl) ?_
  intro p e s m below meth c ls hx hb hr hml hts hown hlocks hin hsz hP hE hD hl
  subst hsz
  have hl : lv_has ls 2 [(0, .ref ro), (1, .int v)] := hl
  subst hz
  have hl : lv_has ls 2 [(0, .ref ro), (1, .int v)] := hl
  have hD := hD.self (sz := s.heap.size)
  generalize hAe : va_A [(ro, .inr (5, [.ref ra, .int (nI k)])), (ra, .inl (cy 0, n, .inl fr))] s.heap.size = A at hD ⊢
  have hA : ∀ q : Nat, s.heap.size ≤ q → A q := fun q h => by rw [← hAe]; exact Or.inr h
  have hS : va_S A s.heap s.heap [] := va_S.rf
  refine lv_aload_n hx hb dX5_add_0 rfl (lv_at hl 0 rfl) ?_
  refine va_get (D := G) (ci := 5) (v := .int (nI k)) (C := RX5) (T := TX5) (N := 2) hx hb hts inB5 hown hE.1 hP 0 rfl rfl 1 (by decide) (hts _ m_209) (fun _ h9 => h9) rfl dX5_add_1 ?_
  refine lv_if_lt (tgt := 39) hx hb dX5_add_4 (by decide) (fun h9 => absurd h9 (nI_pos (by omega))) (fun _ => ?_)
  refine lv_aload_n hx hb dX5_add_7 rfl (lv_at hl 0 rfl) ?_
  refine va_get (D := G) (ci := 5) (v := .int (nI k)) (C := RX5) (T := TX5) (N := 2) hx hb hts inB5 hown hE.1 hP 0 rfl rfl 1 (by decide) (hts _ m_209) (fun _ h9 => h9) rfl dX5_add_8 ?_
  refine lv_aload_n hx hb dX5_add_11 rfl (lv_at hl 0 rfl) ?_
  refine va_get (D := G) (ci := 5) (v := .ref ra) (C := RX5) (T := TX5) (N := 2) hx hb hts inB5 hown hE.1 hP 0 rfl rfl 0 (by decide) (hts _ m_208) (fun _ h9 => h9) rfl dX5_add_12 ?_
  refine va_alen (v := (nI n)) hx hb hE.1 hP 1 0 rfl rfl rfl dX5_add_15 ?_
  refine lv_icmp_ge (tgt := 39) hx hb dX5_add_16 (by decide) (fun h9 => absurd h9 (nI_ge hk (by omega))) (fun _ => ?_)
  refine lv_aload_n hx hb dX5_add_19 rfl (lv_at hl 0 rfl) ?_
  refine va_get (D := G) (ci := 5) (v := .ref ra) (C := RX5) (T := TX5) (N := 2) hx hb hts inB5 hown hE.1 hP 0 rfl rfl 0 (by decide) (hts _ m_208) (fun _ h9 => h9) rfl dX5_add_20 ?_
  refine lv_aload_n hx hb dX5_add_23 rfl (lv_at hl 0 rfl) ?_
  refine va_get (D := G) (ci := 5) (v := .int (nI k)) (C := RX5) (T := TX5) (N := 2) hx hb hts inB5 hown hE.1 hP 0 rfl rfl 1 (by decide) (hts _ m_209) (fun _ h9 => h9) rfl dX5_add_24 ?_
  refine lv_iload_n hx hb dX5_add_27 rfl (lv_at hl 1 rfl) ?_
  refine va_iast hx hb hE.1 hP hD hS 1 0 rfl rfl (vp_in_nI hk (by omega)) dX5_add_28 (fun H locs hP hD hS => ?_)
  have hP : va_P G classes [(ro, .inr (5, [.ref ra, .int (nI k)])), (ra, .inl (cy 0, n, .inl (upd fr ((nI k)).toNatClampNeg v)))] H := hP
  have hD : va_D A [(ro, .inr (5, [.ref ra, .int (nI k)])), (ra, .inl (cy 0, n, .inl (upd fr ((nI k)).toNatClampNeg v)))] := hD
  refine lv_aload_n hx hb dX5_add_29 rfl (lv_at hl 0 rfl) ?_
  refine lv_dup hx hb dX5_add_30 rfl ?_
  refine va_get (D := G) (ci := 5) (v := .int (nI k)) (C := RX5) (T := TX5) (N := 2) hx hb hts inB5 hown hE.1 hP 0 rfl rfl 1 (by decide) (hts _ m_209) (fun _ h9 => h9) rfl dX5_add_31 ?_
  refine lv_iconst (v := 1) hx hb dX5_add_34 (by decide) ?_
  refine lv_iadd hx hb dX5_add_35 ?_
  refine tp (v := (nI (k + 1))) (nI_1 k) ?_
  refine va_put (D := G) (ci := 5) (v := .int (nI (k + 1))) (ty := .int) (C := RX5) (T := TX5) (N := 2) hx hb hts inB5 tyX5 tyX5_ok nmX5 hown hE.1 hP hD hS 0 rfl rfl 1 (by decide) (hts _ m_209) (fun _ h9 => h9) rfl (by decide +kernel) rfl rfl (Nat.le_of_ble_eq_true rfl) dX5_add_36 (fun H locs hP hD hS => ?_)
  have hP : va_P G classes [(ro, .inr (5, [.ref ra, .int (nI (k + 1))])), (ra, .inl (cy 0, n, .inl (upd fr ((nI k)).toNatClampNeg v)))] H := hP
  have hD : va_D A [(ro, .inr (5, [.ref ra, .int (nI (k + 1))])), (ra, .inl (cy 0, n, .inl (upd fr ((nI k)).toNatClampNeg v)))] := hD
  have hP9 := P_cut (wc := [(ro, .inr (5, [.ref ra, .int (nI (k + 1))])), (ra, .inl (cy 0, n, .inl (upd fr ((nI k)).toNatClampNeg v)))]) hP [0, 1] rfl
  have hD9 := hD.sub (ws' := [(ro, .inr (5, [.ref ra, .int (nI (k + 1))])), (ra, .inl (cy 0, n, .inl (upd fr ((nI k)).toNatClampNeg v)))]) [0, 1] (by decide) rfl
  refine W.widen (k := 0) (n := 0) (by first | exact Nat.le_of_ble_eq_true rfl | omega) (by first | exact Nat.le_of_ble_eq_true rfl | omega) ?_
  exact W.vret hx hb hr (fun t ht hW => ⟨⟨(), rfl, trivial, by dsimp only; rw [ht]; exact ⟨(upd fr ((nI k)).toNatClampNeg v), hP9, hD9⟩⟩, hS.F ht⟩) hS.2.2 dX5_add_39
def B_c_X5_takeFrom (G : va_G) (cy : Nat → ClassId) (A : Nat → Prop) (ro : Nat) (ra : Nat) (n : Nat) (fr : Nat → Int32) (z : Int32) (ro2 : Nat) (ra2 : Nat) (H : Heap) : Prop := va_P G classes [(ro, .inr (5, [.ref ra, .int 0])), (ro2, .inr (5, [.ref ra2, .int 0]))] H ∧ va_D A [(ro, .inr (5, [.ref ra, .int 0])), (ro2, .inr (5, [.ref ra2, .int 0]))]
set_option maxHeartbeats 4000000 in
set_option maxRecDepth 100000 in
theorem c_X5_takeFrom (l : Launch) (G : va_G) (cy : Nat → ClassId) (sk : Nat → Nat) (sz : Nat) (ro : Nat) (ra : Nat) (n : Nat) (fr : Nat → Int32) (z : Int32) (ro2 : Nat) (ra2 : Nat) (hn : n ≤ 48) : Met l yX5_takeFrom (wsO yX5_takeFrom cX5_takeFrom 3 none) ({ frames := 1, cells := 0, slots := 0, locals := 14 }) (va_Pc [.ref ro, .ref ro2] (PR G cy sk sz [(ro, .inr (5, [.ref ra, .int z])), (ra, .inl (cy 0, n, .inl fr)), (ro2, .inr (5, [.ref ra2, .int 0]))])) (va_Qv (fun (_ : Unit) => True) (fun _ t => B_c_X5_takeFrom G cy (va_A [(ro, .inr (5, [.ref ra, .int z])), (ra, .inl (cy 0, n, .inl fr)), (ro2, .inr (5, [.ref ra2, .int 0]))] sz) ro ra n fr z ro2 ra2 t.heap) (va_A [(ro, .inr (5, [.ref ra, .int z])), (ra, .inl (cy 0, n, .inl fr)), (ro2, .inr (5, [.ref ra2, .int 0]))] sz)) 0 0 (va_A [(ro, .inr (5, [.ref ra, .int z])), (ra, .inl (cy 0, n, .inl fr)), (ro2, .inr (5, [.ref ra2, .int 0]))] sz) := by
  refine mt (by decide) (Nat.le_of_ble_eq_true rfl) ?_
  intro p e s m below meth c ls hx hb hr hml hts hown hlocks hin hsz hP hE hD hl
  subst hsz
  have hl : lv_has ls 3 [(0, .ref ro), (1, .ref ro2)] := hl
  have hD := hD.self (sz := s.heap.size)
  generalize hAe : va_A [(ro, .inr (5, [.ref ra, .int z])), (ra, .inl (cy 0, n, .inl fr)), (ro2, .inr (5, [.ref ra2, .int 0]))] s.heap.size = A at hD ⊢
  have hA : ∀ q : Nat, s.heap.size ≤ q → A q := fun q h => by rw [← hAe]; exact Or.inr h
  have hS : va_S A s.heap s.heap [] := va_S.rf
  refine lv_aload_n hx hb dX5_takeFrom_0 rfl (lv_at hl 0 rfl) ?_
  refine lv_aload_n hx hb dX5_takeFrom_1 rfl (lv_at hl 1 rfl) ?_
  refine va_get (D := G) (ci := 5) (v := .int 0) (C := RX5) (T := TX5) (N := 2) hx hb hts inB5 hown hE.1 hP 2 rfl rfl 1 (by decide) (hts _ m_209) (fun _ h9 => h9) rfl dX5_takeFrom_2 ?_
  refine lv_aload_n hx hb dX5_takeFrom_5 rfl (lv_at hl 0 rfl) ?_
  refine va_get (D := G) (ci := 5) (v := .ref ra) (C := RX5) (T := TX5) (N := 2) hx hb hts inB5 hown hE.1 hP 0 rfl rfl 0 (by decide) (hts _ m_208) (fun _ h9 => h9) rfl dX5_takeFrom_6 ?_
  refine va_alen (v := (nI n)) hx hb hE.1 hP 1 0 rfl rfl rfl dX5_takeFrom_9 ?_
  refine va_mmin hx hb (hml.trans hl.1.symm) hown (hts _ m_1146) (hts _ m_770) (hts _ m_86) (hts _ m_771) (Nat.le_of_ble_eq_true rfl) (Nat.le_of_ble_eq_true rfl) (Nat.le_of_ble_eq_true rfl) (Nat.le_of_ble_eq_true rfl) dX5_takeFrom_10 ?_
  refine tp (v := 0) (mn0 (by omega)) ?_
  refine va_put (D := G) (ci := 5) (v := .int 0) (ty := .int) (C := RX5) (T := TX5) (N := 2) hx hb hts inB5 tyX5 tyX5_ok nmX5 hown hE.1 hP hD hS 0 rfl rfl 1 (by decide) (hts _ m_209) (fun _ h9 => h9) rfl (by decide +kernel) rfl rfl (Nat.le_of_ble_eq_true rfl) dX5_takeFrom_13 (fun H locs hP hD hS => ?_)
  have hP : va_P G classes [(ro, .inr (5, [.ref ra, .int 0])), (ra, .inl (cy 0, n, .inl fr)), (ro2, .inr (5, [.ref ra2, .int 0]))] H := hP
  have hD : va_D A [(ro, .inr (5, [.ref ra, .int 0])), (ra, .inl (cy 0, n, .inl fr)), (ro2, .inr (5, [.ref ra2, .int 0]))] := hD
  refine lv_iconst (v := 0) hx hb dX5_takeFrom_16 (by decide) ?_
  refine lv_istore_n (lv' := [(2, .int 0), (0, .ref ro), (1, .ref ro2)]) hx hb dX5_takeFrom_17 rfl hl (by decide) rfl (fun ls hl => ?_)
  refine lv_iload_n hx hb dX5_takeFrom_18 rfl (lv_at hl 0 rfl) ?_
  refine lv_aload_n hx hb dX5_takeFrom_19 rfl (lv_at hl 1 rfl) ?_
  refine va_get (D := G) (ci := 5) (v := .int 0) (C := RX5) (T := TX5) (N := 2) hx hb hts inB5 hown hE.1 hP 0 rfl rfl 1 (by decide) (hts _ m_209) (fun _ h9 => h9) rfl dX5_takeFrom_20 ?_
  refine lv_icmp_ge (tgt := 43) hx hb dX5_takeFrom_23 (by decide) (fun _ => ?_) (fun h9 => absurd h9 (by decide))
  have hP9 := P_cut (wc := [(ro, .inr (5, [.ref ra, .int 0])), (ro2, .inr (5, [.ref ra2, .int 0]))]) hP [0, 2] rfl
  have hD9 := hD.sub (ws' := [(ro, .inr (5, [.ref ra, .int 0])), (ro2, .inr (5, [.ref ra2, .int 0]))]) [0, 2] (by decide) rfl
  refine W.widen (k := 0) (n := 0) (by first | exact Nat.le_of_ble_eq_true rfl | omega) (by first | exact Nat.le_of_ble_eq_true rfl | omega) ?_
  exact W.vret hx hb hr (fun t ht hW => ⟨⟨(), rfl, trivial, by dsimp only; rw [ht]; exact ⟨hP9, hD9⟩⟩, hS.F ht⟩) hS.2.2 dX5_takeFrom_43
def B_c_X5_init (G : va_G) (cy : Nat → ClassId) (A : Nat → Prop) (h0 : Nat) (mI : Int32) (n : Nat) (H : Heap) : Prop := ∃ (ra : Nat), va_P G classes [(h0, .inr (5, [.ref ra, .int 0])), (ra, .inl (cy 0, n, .inl (fun _ => 0)))] H ∧ va_D A [(h0, .inr (5, [.ref ra, .int 0])), (ra, .inl (cy 0, n, .inl (fun _ => 0)))]
set_option maxHeartbeats 4000000 in
set_option maxRecDepth 100000 in
theorem c_X5_init (l : Launch) (G : va_G) (cy : Nat → ClassId) (sk : Nat → Nat) (sz : Nat) (h0 : Nat) (mI : Int32) (n : Nat) (hm : mI = nI n) (hn : n ≤ 100) : Met l yX5_init (wsO yX5_init cX5_init 2 none) ({ frames := 1, cells := 1, slots := 100, locals := 14 }) (va_Pc [.ref h0, .int mI] (PR G cy sk sz [(h0, .inr (5, [.null, .int 0]))])) (va_Qv (fun (_ : Unit) => True) (fun _ t => B_c_X5_init G cy (va_A [(h0, .inr (5, [.null, .int 0]))] sz) h0 mI n t.heap) (va_A [(h0, .inr (5, [.null, .int 0]))] sz)) 1 100 (va_A [(h0, .inr (5, [.null, .int 0]))] sz) := by
  refine mt (by decide) (Nat.le_of_ble_eq_true rfl) ?_
  intro p e s m below meth c ls hx hb hr hml hts hown hlocks hin hsz hP hE hD hl
  subst hsz
  have hl : lv_has ls 2 [(0, .ref h0), (1, .int mI)] := hl
  subst hm
  have hl : lv_has ls 2 [(0, .ref h0), (1, .int (nI n))] := hl
  have hD := hD.self (sz := s.heap.size)
  generalize hAe : va_A [(h0, .inr (5, [.null, .int 0]))] s.heap.size = A at hD ⊢
  have hA : ∀ q : Nat, s.heap.size ≤ q → A q := fun q h => by rw [← hAe]; exact Or.inr h
  have hS : va_S A s.heap s.heap [] := va_S.rf
  refine lv_aload_n hx hb dX5_init_0 rfl (lv_at hl 0 rfl) ?_
  refine W.objInit hx hb hown (hts _ m_204) (hts _ m_107) (hts _ m_108) rfl (by rw [hml]; exact hl.1) rfl dX5_init_1 (Nat.le_of_ble_eq_true rfl) (Nat.le_of_ble_eq_true rfl) ?_
  refine W.eq (g2 := F0 m 4 ls []) rfl ?_
  refine lv_aload_n hx hb dX5_init_4 rfl (lv_at hl 0 rfl) ?_
  refine lv_iconst (v := 0) hx hb dX5_init_5 (by decide) ?_
  refine va_put (D := G) (ci := 5) (v := .int 0) (ty := .int) (C := RX5) (T := TX5) (N := 2) hx hb hts inB5 tyX5 tyX5_ok nmX5 hown hE.1 hP hD hS 0 rfl rfl 1 (by decide) (hts _ m_209) (fun _ h9 => h9) rfl (by decide +kernel) rfl rfl (Nat.le_of_ble_eq_true rfl) dX5_init_6 (fun H locs hP hD hS => ?_)
  have hP : va_P G classes [(h0, .inr (5, [.null, .int 0]))] H := hP
  have hD : va_D A [(h0, .inr (5, [.null, .int 0]))] := hD
  refine lv_aload_n hx hb dX5_init_9 rfl (lv_at hl 0 rfl) ?_
  refine lv_iconst (v := 0) hx hb dX5_init_10 (by decide) ?_
  refine lv_iload_n hx hb dX5_init_11 rfl (lv_at hl 1 rfl) ?_
  refine va_mmax hx hb (hml.trans hl.1.symm) hown (hts _ m_205) (hts _ m_206) (hts _ m_86) (hts _ m_207) (Nat.le_of_ble_eq_true rfl) (Nat.le_of_ble_eq_true rfl) (Nat.le_of_ble_eq_true rfl) (Nat.le_of_ble_eq_true rfl) dX5_init_12 ?_
  refine tp (v := (nI n)) (mx0 (by omega)) ?_
  refine nwI (n := (nI n)) (N := n) hx hb hts m_146 hE hP hD hS hA (nI_pos (by omega)) (nI_clamp (by omega)) (by omega) (Nat.le_of_ble_eq_true rfl) (by show 0 + n ≤ 100; omega) dX5_init_15 (fun nq1 H hP hD hS => ?_)
  have hP : va_P G classes [(h0, .inr (5, [.null, .int 0])), (nq1, .inl (cy 0, n, .inl (fun _ => 0)))] H := hP
  have hD : va_D A [(h0, .inr (5, [.null, .int 0])), (nq1, .inl (cy 0, n, .inl (fun _ => 0)))] := hD
  refine va_putF (D := G) (ci := 5) (v := .ref nq1) (ty := (.array .int)) (C := RX5) (T := TX5) (N := 2) hx hb hts inB5 tyX5 tyX5_ok nmX5 hown hE.1 hP hD hS 0 rfl rfl 0 (by decide) (hts _ m_208) (fun _ h9 => h9) rfl hin rfl (by decide +kernel) rfl rfl (Nat.le_of_ble_eq_true rfl) dX5_init_17 (fun H locs hP hD hS => ?_)
  have hP : va_P G classes [(h0, .inr (5, [.ref nq1, .int 0])), (nq1, .inl (cy 0, n, .inl (fun _ => 0)))] H := hP
  have hD : va_D A [(h0, .inr (5, [.ref nq1, .int 0])), (nq1, .inl (cy 0, n, .inl (fun _ => 0)))] := hD
  have hP9 := P_cut (wc := [(h0, .inr (5, [.ref nq1, .int 0])), (nq1, .inl (cy 0, n, .inl (fun _ => 0)))]) hP [0, 1] rfl
  have hD9 := hD.sub (ws' := [(h0, .inr (5, [.ref nq1, .int 0])), (nq1, .inl (cy 0, n, .inl (fun _ => 0)))]) [0, 1] (by decide) rfl
  refine W.widen (k := 1) (n := 100) (by first | exact Nat.le_of_ble_eq_true rfl | omega) (by first | exact Nat.le_of_ble_eq_true rfl | omega) ?_
  exact W.vret hx hb hr (fun t ht hW => ⟨⟨(), rfl, trivial, by dsimp only; rw [ht]; exact ⟨nq1, hP9, hD9⟩⟩, hS.F ht⟩) hS.2.2 dX5_init_20
def B_c_X1_init (G : va_G) (cy : Nat → ClassId) (A : Nat → Prop) (h0 : Nat) (H : Heap) : Prop := ∃ (co : Nat) (sk_ : Nat), va_P G classes [(h0, .inr (1, [.ref co, .ref sk_, .int 0])), (co, .inl (cy 0, 48, .inl (fun _ => 0)))] H ∧ va_D A [(h0, .inr (1, [.ref co, .ref sk_, .int 0])), (co, .inl (cy 0, 48, .inl (fun _ => 0)))]
set_option maxHeartbeats 4000000 in
set_option maxRecDepth 100000 in
theorem c_X1_init (l : Launch) (G : va_G) (cy : Nat → ClassId) (sk : Nat → Nat) (sz : Nat) (h0 : Nat)  : Met l yX1_init (wsO yX1_init cX1_init 1 none) ({ frames := 1, cells := 2, slots := 96, locals := 12 }) (va_Pc [.ref h0] (PR G cy sk sz [(h0, .inr (1, [.null, .null, .int 0]))])) (va_Qv (fun (_ : Unit) => True) (fun _ t => B_c_X1_init G cy (va_A [(h0, .inr (1, [.null, .null, .int 0]))] sz) h0 t.heap) (va_A [(h0, .inr (1, [.null, .null, .int 0]))] sz)) 2 96 (va_A [(h0, .inr (1, [.null, .null, .int 0]))] sz) := by
  refine mt (by decide) (Nat.le_of_ble_eq_true rfl) ?_
  intro p e s m below meth c ls hx hb hr hml hts hown hlocks hin hsz hP hE hD hl
  subst hsz
  have hl : lv_has ls 1 [(0, .ref h0)] := hl
  have hD := hD.self (sz := s.heap.size)
  generalize hAe : va_A [(h0, .inr (1, [.null, .null, .int 0]))] s.heap.size = A at hD ⊢
  have hA : ∀ q : Nat, s.heap.size ≤ q → A q := fun q h => by rw [← hAe]; exact Or.inr h
  have hS : va_S A s.heap s.heap [] := va_S.rf
  refine lv_aload_n hx hb dX1_init_0 rfl (lv_at hl 0 rfl) ?_
  refine W.objInit hx hb hown (hts _ m_159) (hts _ m_107) (hts _ m_108) rfl (by rw [hml]; exact hl.1) rfl dX1_init_1 (Nat.le_of_ble_eq_true rfl) (Nat.le_of_ble_eq_true rfl) ?_
  refine W.eq (g2 := F0 m 4 ls []) rfl ?_
  refine lv_aload_n hx hb dX1_init_4 rfl (lv_at hl 0 rfl) ?_
  refine lv_bipush (v := 48) hx hb dX1_init_5 (by decide) ?_
  refine nwI (n := 48) (N := 48) hx hb hts m_146 hE hP hD hS hA (by decide) (by decide) (Nat.le_of_ble_eq_true rfl) (Nat.le_of_ble_eq_true rfl) (Nat.le_of_ble_eq_true rfl) dX1_init_7 (fun nq1 H hP hD hS => ?_)
  have hP : va_P G classes [(h0, .inr (1, [.null, .null, .int 0])), (nq1, .inl (cy 0, 48, .inl (fun _ => 0)))] H := hP
  have hD : va_D A [(h0, .inr (1, [.null, .null, .int 0])), (nq1, .inl (cy 0, 48, .inl (fun _ => 0)))] := hD
  refine va_putF (D := G) (ci := 1) (v := .ref nq1) (ty := (.array .int)) (C := RX1) (T := TX1) (N := 3) hx hb hts inB1 tyX1 tyX1_ok nmX1 hown hE.1 hP hD hS 0 rfl rfl 0 (by decide) (hts _ m_160) (fun _ h9 => h9) rfl hin rfl (by decide +kernel) rfl rfl (Nat.le_of_ble_eq_true rfl) dX1_init_9 (fun H locs hP hD hS => ?_)
  have hP : va_P G classes [(h0, .inr (1, [.ref nq1, .null, .int 0])), (nq1, .inl (cy 0, 48, .inl (fun _ => 0)))] H := hP
  have hD : va_D A [(h0, .inr (1, [.ref nq1, .null, .int 0])), (nq1, .inl (cy 0, 48, .inl (fun _ => 0)))] := hD
  refine lv_aload_n hx hb dX1_init_12 rfl (lv_at hl 0 rfl) ?_
  refine lv_bipush (v := 48) hx hb dX1_init_13 (by decide) ?_
  refine nwI (n := 48) (N := 48) hx hb hts m_146 hE hP hD hS hA (by decide) (by decide) (Nat.le_of_ble_eq_true rfl) (Nat.le_of_ble_eq_true rfl) (Nat.le_of_ble_eq_true rfl) dX1_init_15 (fun nq2 H hP hD hS => ?_)
  have hP : va_P G classes [(h0, .inr (1, [.ref nq1, .null, .int 0])), (nq1, .inl (cy 0, 48, .inl (fun _ => 0))), (nq2, .inl (cy 0, 48, .inl (fun _ => 0)))] H := hP
  have hD : va_D A [(h0, .inr (1, [.ref nq1, .null, .int 0])), (nq1, .inl (cy 0, 48, .inl (fun _ => 0))), (nq2, .inl (cy 0, 48, .inl (fun _ => 0)))] := hD
  refine va_putF (D := G) (ci := 1) (v := .ref nq2) (ty := (.array .int)) (C := RX1) (T := TX1) (N := 3) hx hb hts inB1 tyX1 tyX1_ok nmX1 hown hE.1 hP hD hS 0 rfl rfl 1 (by decide) (hts _ m_161) (fun _ h9 => h9) rfl hin rfl (by decide +kernel) rfl rfl (Nat.le_of_ble_eq_true rfl) dX1_init_17 (fun H locs hP hD hS => ?_)
  have hP : va_P G classes [(h0, .inr (1, [.ref nq1, .ref nq2, .int 0])), (nq1, .inl (cy 0, 48, .inl (fun _ => 0))), (nq2, .inl (cy 0, 48, .inl (fun _ => 0)))] H := hP
  have hD : va_D A [(h0, .inr (1, [.ref nq1, .ref nq2, .int 0])), (nq1, .inl (cy 0, 48, .inl (fun _ => 0))), (nq2, .inl (cy 0, 48, .inl (fun _ => 0)))] := hD
  refine lv_aload_n hx hb dX1_init_20 rfl (lv_at hl 0 rfl) ?_
  refine lv_iconst (v := 0) hx hb dX1_init_21 (by decide) ?_
  refine va_put (D := G) (ci := 1) (v := .int 0) (ty := .int) (C := RX1) (T := TX1) (N := 3) hx hb hts inB1 tyX1 tyX1_ok nmX1 hown hE.1 hP hD hS 0 rfl rfl 2 (by decide) (hts _ m_162) (fun _ h9 => h9) rfl (by decide +kernel) rfl rfl (Nat.le_of_ble_eq_true rfl) dX1_init_22 (fun H locs hP hD hS => ?_)
  have hP : va_P G classes [(h0, .inr (1, [.ref nq1, .ref nq2, .int 0])), (nq1, .inl (cy 0, 48, .inl (fun _ => 0))), (nq2, .inl (cy 0, 48, .inl (fun _ => 0)))] H := hP
  have hD : va_D A [(h0, .inr (1, [.ref nq1, .ref nq2, .int 0])), (nq1, .inl (cy 0, 48, .inl (fun _ => 0))), (nq2, .inl (cy 0, 48, .inl (fun _ => 0)))] := hD
  have hP9 := P_cut (wc := [(h0, .inr (1, [.ref nq1, .ref nq2, .int 0])), (nq1, .inl (cy 0, 48, .inl (fun _ => 0)))]) hP [0, 1] rfl
  have hD9 := hD.sub (ws' := [(h0, .inr (1, [.ref nq1, .ref nq2, .int 0])), (nq1, .inl (cy 0, 48, .inl (fun _ => 0)))]) [0, 1] (by decide) rfl
  refine W.widen (k := 2) (n := 96) (by first | exact Nat.le_of_ble_eq_true rfl | omega) (by first | exact Nat.le_of_ble_eq_true rfl | omega) ?_
  exact W.vret hx hb hr (fun t ht hW => ⟨⟨(), rfl, trivial, by dsimp only; rw [ht]; exact ⟨nq1, nq2, hP9, hD9⟩⟩, hS.F ht⟩) hS.2.2 dX1_init_25
def B_c_X1_clear (G : va_G) (cy : Nat → ClassId) (A : Nat → Prop) (fo : Nat) (co : Nat) (ck : Nat) (z : Int32) (H : Heap) : Prop := va_P G classes [(fo, .inr (1, [.ref co, .ref ck, .int 0]))] H ∧ va_D A [(fo, .inr (1, [.ref co, .ref ck, .int 0]))]
set_option maxHeartbeats 4000000 in
set_option maxRecDepth 100000 in
theorem c_X1_clear (l : Launch) (G : va_G) (cy : Nat → ClassId) (sk : Nat → Nat) (sz : Nat) (fo : Nat) (co : Nat) (ck : Nat) (z : Int32)  : Met l yX1_clear (wsO yX1_clear cX1_clear 1 none) ({ frames := 0, cells := 0, slots := 0, locals := 0 }) (va_Pc [.ref fo] (PR G cy sk sz [(fo, .inr (1, [.ref co, .ref ck, .int z]))])) (va_Qv (fun (_ : Unit) => True) (fun _ t => B_c_X1_clear G cy (va_A [(fo, .inr (1, [.ref co, .ref ck, .int z]))] sz) fo co ck z t.heap) (va_A [(fo, .inr (1, [.ref co, .ref ck, .int z]))] sz)) 0 0 (va_A [(fo, .inr (1, [.ref co, .ref ck, .int z]))] sz) := by
  refine mt (by decide) (Nat.le_of_ble_eq_true rfl) ?_
  intro p e s m below meth c ls hx hb hr hml hts hown hlocks hin hsz hP hE hD hl
  subst hsz
  have hl : lv_has ls 1 [(0, .ref fo)] := hl
  have hD := hD.self (sz := s.heap.size)
  generalize hAe : va_A [(fo, .inr (1, [.ref co, .ref ck, .int z]))] s.heap.size = A at hD ⊢
  have hA : ∀ q : Nat, s.heap.size ≤ q → A q := fun q h => by rw [← hAe]; exact Or.inr h
  have hS : va_S A s.heap s.heap [] := va_S.rf
  refine lv_aload_n hx hb dX1_clear_0 rfl (lv_at hl 0 rfl) ?_
  refine lv_iconst (v := 0) hx hb dX1_clear_1 (by decide) ?_
  refine va_put (D := G) (ci := 1) (v := .int 0) (ty := .int) (C := RX1) (T := TX1) (N := 3) hx hb hts inB1 tyX1 tyX1_ok nmX1 hown hE.1 hP hD hS 0 rfl rfl 2 (by decide) (hts _ m_162) (fun _ h9 => h9) rfl (by decide +kernel) rfl rfl (Nat.le_of_ble_eq_true rfl) dX1_clear_2 (fun H locs hP hD hS => ?_)
  have hP : va_P G classes [(fo, .inr (1, [.ref co, .ref ck, .int 0]))] H := hP
  have hD : va_D A [(fo, .inr (1, [.ref co, .ref ck, .int 0]))] := hD
  have hP9 := P_cut (wc := [(fo, .inr (1, [.ref co, .ref ck, .int 0]))]) hP [0] rfl
  have hD9 := hD.sub (ws' := [(fo, .inr (1, [.ref co, .ref ck, .int 0]))]) [0] (by decide) rfl
  refine W.widen (k := 0) (n := 0) (by first | exact Nat.le_of_ble_eq_true rfl | omega) (by first | exact Nat.le_of_ble_eq_true rfl | omega) ?_
  exact W.vret hx hb hr (fun t ht hW => ⟨⟨(), rfl, trivial, by dsimp only; rw [ht]; exact ⟨hP9, hD9⟩⟩, hS.F ht⟩) hS.2.2 dX1_clear_5
set_option maxHeartbeats 4000000 in
set_option maxRecDepth 100000 in
theorem c_X1_takeFrom (l : Launch) (G : va_G) (cy : Nat → ClassId) (sk : Nat → Nat) (sz : Nat) (fo : Nat) (co : Nat) (ck : Nat) (fo2 : Nat) (co2 : Nat) (ck2 : Nat) (z : Int32) (z2 : Int32) (fc : Nat → Int32) (fc2 : Nat → Int32)  : Met l yX1_takeFrom (wsO yX1_takeFrom cX1_takeFrom 2 none) ({ frames := 1, cells := 0, slots := 0, locals := 40 }) (va_Pc [.ref fo, .ref fo2] (PR G cy sk sz [(fo, .inr (1, [.ref co, .ref ck, .int z])), (co, .inl (cy 0, 48, .inl fc)), (fo2, .inr (1, [.ref co2, .ref ck2, .int z2])), (co2, .inl (cy 0, 48, .inl fc2))])) (va_Qv (fun (_ : Unit) => True) (fun _ _ => True) (va_A [(fo, .inr (1, [.ref co, .ref ck, .int z])), (co, .inl (cy 0, 48, .inl fc)), (fo2, .inr (1, [.ref co2, .ref ck2, .int z2])), (co2, .inl (cy 0, 48, .inl fc2))] sz)) 0 0 (va_A [(fo, .inr (1, [.ref co, .ref ck, .int z])), (co, .inl (cy 0, 48, .inl fc)), (fo2, .inr (1, [.ref co2, .ref ck2, .int z2])), (co2, .inl (cy 0, 48, .inl fc2))] sz) := by
  refine mt (by decide) (Nat.le_of_ble_eq_true rfl) ?_
  intro p e s m below meth c ls hx hb hr hml hts hown hlocks hin hsz hP hE hD hl
  subst hsz
  have hl : lv_has ls 2 [(0, .ref fo), (1, .ref fo2)] := hl
  have hD := hD.self (sz := s.heap.size)
  generalize hAe : va_A [(fo, .inr (1, [.ref co, .ref ck, .int z])), (co, .inl (cy 0, 48, .inl fc)), (fo2, .inr (1, [.ref co2, .ref ck2, .int z2])), (co2, .inl (cy 0, 48, .inl fc2))] s.heap.size = A at hD ⊢
  have hA : ∀ q : Nat, s.heap.size ≤ q → A q := fun q h => by rw [← hAe]; exact Or.inr h
  have hS : va_S A s.heap s.heap [] := va_S.rf
  refine lv_aload_n hx hb dX1_takeFrom_0 rfl (lv_at hl 0 rfl) ?_
  refine lv_aload_n hx hb dX1_takeFrom_1 rfl (lv_at hl 1 rfl) ?_
  refine va_get (D := G) (ci := 1) (v := .int z2) (C := RX1) (T := TX1) (N := 3) hx hb hts inB1 hown hE.1 hP 2 rfl rfl 2 (by decide) (hts _ m_162) (fun _ h9 => h9) rfl dX1_takeFrom_2 ?_
  refine va_put (D := G) (ci := 1) (v := .int z2) (ty := .int) (C := RX1) (T := TX1) (N := 3) hx hb hts inB1 tyX1 tyX1_ok nmX1 hown hE.1 hP hD hS 0 rfl rfl 2 (by decide) (hts _ m_162) (fun _ h9 => h9) rfl (by decide +kernel) rfl rfl (Nat.le_of_ble_eq_true rfl) dX1_takeFrom_5 (fun H locs hP hD hS => ?_)
  have hP : va_P G classes [(fo, .inr (1, [.ref co, .ref ck, .int z2])), (co, .inl (cy 0, 48, .inl fc)), (fo2, .inr (1, [.ref co2, .ref ck2, .int z2])), (co2, .inl (cy 0, 48, .inl fc2))] H := hP
  have hD : va_D A [(fo, .inr (1, [.ref co, .ref ck, .int z2])), (co, .inl (cy 0, 48, .inl fc)), (fo2, .inr (1, [.ref co2, .ref ck2, .int z2])), (co2, .inl (cy 0, 48, .inl fc2))] := hD
  refine lv_aload_n hx hb dX1_takeFrom_8 rfl (lv_at hl 1 rfl) ?_
  refine va_get (D := G) (ci := 1) (v := .ref co2) (C := RX1) (T := TX1) (N := 3) hx hb hts inB1 hown hE.1 hP 2 rfl rfl 0 (by decide) (hts _ m_160) (fun _ h9 => h9) rfl dX1_takeFrom_9 ?_
  refine lv_iconst (v := 0) hx hb dX1_takeFrom_12 (by decide) ?_
  refine lv_aload_n hx hb dX1_takeFrom_13 rfl (lv_at hl 0 rfl) ?_
  refine va_get (D := G) (ci := 1) (v := .ref co) (C := RX1) (T := TX1) (N := 3) hx hb hts inB1 hown hE.1 hP 0 rfl rfl 0 (by decide) (hts _ m_160) (fun _ h9 => h9) rfl dX1_takeFrom_14 ?_
  refine lv_iconst (v := 0) hx hb dX1_takeFrom_17 (by decide) ?_
  refine lv_bipush (v := 48) hx hb dX1_takeFrom_18 (by decide) ?_
  refine va_copyi (ty := .int) hx hb (hml.trans hl.1.symm) hown (hts _ m_828) (hts _ m_830) (hts _ m_829) (hts _ m_98) hE.1 hP hD hS 3 1 0 0 rfl rfl rfl rfl rfl (by decide) (by decide) (by decide) (by decide) (by decide) (fun _ _ => rfl) (Nat.le_of_ble_eq_true rfl) (Nat.le_of_ble_eq_true rfl) dX1_takeFrom_20 (fun H locs hP hD hS => ?_)
  have hP : va_P G classes [(fo, .inr (1, [.ref co, .ref ck, .int z2])), (co, .inl (cy 0, 48, .inl (va_cpy fc2 fc 0 0 48))), (fo2, .inr (1, [.ref co2, .ref ck2, .int z2])), (co2, .inl (cy 0, 48, .inl fc2))] H := hP
  have hD : va_D A [(fo, .inr (1, [.ref co, .ref ck, .int z2])), (co, .inl (cy 0, 48, .inl (va_cpy fc2 fc 0 0 48))), (fo2, .inr (1, [.ref co2, .ref ck2, .int z2])), (co2, .inl (cy 0, 48, .inl fc2))] := hD
  obtain ⟨xf1, hP, hD⟩ : ∃ xf1, va_P G classes [(fo, .inr (1, [.ref co, .ref ck, .int z2])), (co, .inl (cy 0, 48, .inl xf1)), (fo2, .inr (1, [.ref co2, .ref ck2, .int z2])), (co2, .inl (cy 0, 48, .inl fc2))] H ∧ va_D A [(fo, .inr (1, [.ref co, .ref ck, .int z2])), (co, .inl (cy 0, 48, .inl xf1)), (fo2, .inr (1, [.ref co2, .ref ck2, .int z2])), (co2, .inl (cy 0, 48, .inl fc2))] := ⟨_, hP, hD⟩
  refine W.widen (k := 0) (n := 0) (by first | exact Nat.le_of_ble_eq_true rfl | omega) (by first | exact Nat.le_of_ble_eq_true rfl | omega) ?_
  exact W.vret hx hb hr (fun t ht hW => ⟨⟨(), rfl, trivial, trivial⟩, hS.F ht⟩) hS.2.2 dX1_takeFrom_23
def B_c_X7_init (G : va_G) (cy : Nat → ClassId) (A : Nat → Prop) (h0 : Nat) (H : Heap) : Prop := ∃ (oc : Nat) (ki : Nat) (ce : Nat) (si : Nat) (sp : Nat) (foc : Nat → Int32), (∀ j, j < 192 → foc j = (-1)) ∧ va_P G classes [(h0, .inr (7, [.ref oc, .ref ki, .ref ce, .ref si, .ref sp, .int 0])), (oc, .inl (cy 0, 192, .inl foc)), (ki, .inl (cy 0, 40, .inl (fun _ => 0))), (ce, .inl (cy 0, 40, .inl (fun _ => 0))), (si, .inl (cy 0, 40, .inl (fun _ => 0))), (sp, .inl (cy 0, 40, .inl (fun _ => 0)))] H ∧ va_D A [(h0, .inr (7, [.ref oc, .ref ki, .ref ce, .ref si, .ref sp, .int 0])), (oc, .inl (cy 0, 192, .inl foc)), (ki, .inl (cy 0, 40, .inl (fun _ => 0))), (ce, .inl (cy 0, 40, .inl (fun _ => 0))), (si, .inl (cy 0, 40, .inl (fun _ => 0))), (sp, .inl (cy 0, 40, .inl (fun _ => 0)))]
set_option maxHeartbeats 4000000 in
set_option maxRecDepth 100000 in
theorem c_X7_init (l : Launch) (G : va_G) (cy : Nat → ClassId) (sk : Nat → Nat) (sz : Nat) (h0 : Nat)  : Met l yX7_init (wsO yX7_init cX7_init 2 none) ({ frames := 1, cells := 5, slots := 352, locals := 12 }) (va_Pc [.ref h0] (PR G cy sk sz [(h0, .inr (7, [.null, .null, .null, .null, .null, .int 0]))])) (va_Qv (fun (_ : Unit) => True) (fun _ t => B_c_X7_init G cy (va_A [(h0, .inr (7, [.null, .null, .null, .null, .null, .int 0]))] sz) h0 t.heap) (va_A [(h0, .inr (7, [.null, .null, .null, .null, .null, .int 0]))] sz)) 5 352 (va_A [(h0, .inr (7, [.null, .null, .null, .null, .null, .int 0]))] sz) := by
  refine mt (by decide) (Nat.le_of_ble_eq_true rfl) ?_
  intro p e s m below meth c ls hx hb hr hml hts hown hlocks hin hsz hP hE hD hl
  subst hsz
  have hl : lv_has ls 2 [(0, .ref h0)] := hl
  have hD := hD.self (sz := s.heap.size)
  generalize hAe : va_A [(h0, .inr (7, [.null, .null, .null, .null, .null, .int 0]))] s.heap.size = A at hD ⊢
  have hA : ∀ q : Nat, s.heap.size ≤ q → A q := fun q h => by rw [← hAe]; exact Or.inr h
  have hS : va_S A s.heap s.heap [] := va_S.rf
  refine lv_aload_n hx hb dX7_init_0 rfl (lv_at hl 0 rfl) ?_
  refine W.objInit hx hb hown (hts _ m_120) (hts _ m_107) (hts _ m_108) rfl (by rw [hml]; exact hl.1) rfl dX7_init_1 (Nat.le_of_ble_eq_true rfl) (Nat.le_of_ble_eq_true rfl) ?_
  refine W.eq (g2 := F0 m 4 ls []) rfl ?_
  refine lv_aload_n hx hb dX7_init_4 rfl (lv_at hl 0 rfl) ?_
  refine lv_sipush (v := 192) hx hb dX7_init_5 (by decide) ?_
  refine nwI (n := 192) (N := 192) hx hb hts m_146 hE hP hD hS hA (by decide) (by decide) (Nat.le_of_ble_eq_true rfl) (Nat.le_of_ble_eq_true rfl) (Nat.le_of_ble_eq_true rfl) dX7_init_8 (fun nq1 H hP hD hS => ?_)
  have hP : va_P G classes [(h0, .inr (7, [.null, .null, .null, .null, .null, .int 0])), (nq1, .inl (cy 0, 192, .inl (fun _ => 0)))] H := hP
  have hD : va_D A [(h0, .inr (7, [.null, .null, .null, .null, .null, .int 0])), (nq1, .inl (cy 0, 192, .inl (fun _ => 0)))] := hD
  refine va_putF (D := G) (ci := 7) (v := .ref nq1) (ty := (.array .int)) (C := RX7) (T := TX7) (N := 6) hx hb hts inB7 tyX7 tyX7_ok nmX7 hown hE.1 hP hD hS 0 rfl rfl 0 (by decide) (hts _ m_121) (fun _ h9 => h9) rfl hin rfl (by decide +kernel) rfl rfl (Nat.le_of_ble_eq_true rfl) dX7_init_10 (fun H locs hP hD hS => ?_)
  have hP : va_P G classes [(h0, .inr (7, [.ref nq1, .null, .null, .null, .null, .int 0])), (nq1, .inl (cy 0, 192, .inl (fun _ => 0)))] H := hP
  have hD : va_D A [(h0, .inr (7, [.ref nq1, .null, .null, .null, .null, .int 0])), (nq1, .inl (cy 0, 192, .inl (fun _ => 0)))] := hD
  refine lv_aload_n hx hb dX7_init_13 rfl (lv_at hl 0 rfl) ?_
  refine lv_bipush (v := 40) hx hb dX7_init_14 (by decide) ?_
  refine nwI (n := 40) (N := 40) hx hb hts m_146 hE hP hD hS hA (by decide) (by decide) (Nat.le_of_ble_eq_true rfl) (Nat.le_of_ble_eq_true rfl) (Nat.le_of_ble_eq_true rfl) dX7_init_16 (fun nq2 H hP hD hS => ?_)
  have hP : va_P G classes [(h0, .inr (7, [.ref nq1, .null, .null, .null, .null, .int 0])), (nq1, .inl (cy 0, 192, .inl (fun _ => 0))), (nq2, .inl (cy 0, 40, .inl (fun _ => 0)))] H := hP
  have hD : va_D A [(h0, .inr (7, [.ref nq1, .null, .null, .null, .null, .int 0])), (nq1, .inl (cy 0, 192, .inl (fun _ => 0))), (nq2, .inl (cy 0, 40, .inl (fun _ => 0)))] := hD
  refine va_putF (D := G) (ci := 7) (v := .ref nq2) (ty := (.array .int)) (C := RX7) (T := TX7) (N := 6) hx hb hts inB7 tyX7 tyX7_ok nmX7 hown hE.1 hP hD hS 0 rfl rfl 1 (by decide) (hts _ m_124) (fun _ h9 => h9) rfl hin rfl (by decide +kernel) rfl rfl (Nat.le_of_ble_eq_true rfl) dX7_init_18 (fun H locs hP hD hS => ?_)
  have hP : va_P G classes [(h0, .inr (7, [.ref nq1, .ref nq2, .null, .null, .null, .int 0])), (nq1, .inl (cy 0, 192, .inl (fun _ => 0))), (nq2, .inl (cy 0, 40, .inl (fun _ => 0)))] H := hP
  have hD : va_D A [(h0, .inr (7, [.ref nq1, .ref nq2, .null, .null, .null, .int 0])), (nq1, .inl (cy 0, 192, .inl (fun _ => 0))), (nq2, .inl (cy 0, 40, .inl (fun _ => 0)))] := hD
  refine lv_aload_n hx hb dX7_init_21 rfl (lv_at hl 0 rfl) ?_
  refine lv_bipush (v := 40) hx hb dX7_init_22 (by decide) ?_
  refine nwI (n := 40) (N := 40) hx hb hts m_146 hE hP hD hS hA (by decide) (by decide) (Nat.le_of_ble_eq_true rfl) (Nat.le_of_ble_eq_true rfl) (Nat.le_of_ble_eq_true rfl) dX7_init_24 (fun nq3 H hP hD hS => ?_)
  have hP : va_P G classes [(h0, .inr (7, [.ref nq1, .ref nq2, .null, .null, .null, .int 0])), (nq1, .inl (cy 0, 192, .inl (fun _ => 0))), (nq2, .inl (cy 0, 40, .inl (fun _ => 0))), (nq3, .inl (cy 0, 40, .inl (fun _ => 0)))] H := hP
  have hD : va_D A [(h0, .inr (7, [.ref nq1, .ref nq2, .null, .null, .null, .int 0])), (nq1, .inl (cy 0, 192, .inl (fun _ => 0))), (nq2, .inl (cy 0, 40, .inl (fun _ => 0))), (nq3, .inl (cy 0, 40, .inl (fun _ => 0)))] := hD
  refine va_putF (D := G) (ci := 7) (v := .ref nq3) (ty := (.array .int)) (C := RX7) (T := TX7) (N := 6) hx hb hts inB7 tyX7 tyX7_ok nmX7 hown hE.1 hP hD hS 0 rfl rfl 2 (by decide) (hts _ m_126) (fun _ h9 => h9) rfl hin rfl (by decide +kernel) rfl rfl (Nat.le_of_ble_eq_true rfl) dX7_init_26 (fun H locs hP hD hS => ?_)
  have hP : va_P G classes [(h0, .inr (7, [.ref nq1, .ref nq2, .ref nq3, .null, .null, .int 0])), (nq1, .inl (cy 0, 192, .inl (fun _ => 0))), (nq2, .inl (cy 0, 40, .inl (fun _ => 0))), (nq3, .inl (cy 0, 40, .inl (fun _ => 0)))] H := hP
  have hD : va_D A [(h0, .inr (7, [.ref nq1, .ref nq2, .ref nq3, .null, .null, .int 0])), (nq1, .inl (cy 0, 192, .inl (fun _ => 0))), (nq2, .inl (cy 0, 40, .inl (fun _ => 0))), (nq3, .inl (cy 0, 40, .inl (fun _ => 0)))] := hD
  refine lv_aload_n hx hb dX7_init_29 rfl (lv_at hl 0 rfl) ?_
  refine lv_bipush (v := 40) hx hb dX7_init_30 (by decide) ?_
  refine nwI (n := 40) (N := 40) hx hb hts m_146 hE hP hD hS hA (by decide) (by decide) (Nat.le_of_ble_eq_true rfl) (Nat.le_of_ble_eq_true rfl) (Nat.le_of_ble_eq_true rfl) dX7_init_32 (fun nq4 H hP hD hS => ?_)
  have hP : va_P G classes [(h0, .inr (7, [.ref nq1, .ref nq2, .ref nq3, .null, .null, .int 0])), (nq1, .inl (cy 0, 192, .inl (fun _ => 0))), (nq2, .inl (cy 0, 40, .inl (fun _ => 0))), (nq3, .inl (cy 0, 40, .inl (fun _ => 0))), (nq4, .inl (cy 0, 40, .inl (fun _ => 0)))] H := hP
  have hD : va_D A [(h0, .inr (7, [.ref nq1, .ref nq2, .ref nq3, .null, .null, .int 0])), (nq1, .inl (cy 0, 192, .inl (fun _ => 0))), (nq2, .inl (cy 0, 40, .inl (fun _ => 0))), (nq3, .inl (cy 0, 40, .inl (fun _ => 0))), (nq4, .inl (cy 0, 40, .inl (fun _ => 0)))] := hD
  refine va_putF (D := G) (ci := 7) (v := .ref nq4) (ty := (.array .int)) (C := RX7) (T := TX7) (N := 6) hx hb hts inB7 tyX7 tyX7_ok nmX7 hown hE.1 hP hD hS 0 rfl rfl 3 (by decide) (hts _ m_128) (fun _ h9 => h9) rfl hin rfl (by decide +kernel) rfl rfl (Nat.le_of_ble_eq_true rfl) dX7_init_34 (fun H locs hP hD hS => ?_)
  have hP : va_P G classes [(h0, .inr (7, [.ref nq1, .ref nq2, .ref nq3, .ref nq4, .null, .int 0])), (nq1, .inl (cy 0, 192, .inl (fun _ => 0))), (nq2, .inl (cy 0, 40, .inl (fun _ => 0))), (nq3, .inl (cy 0, 40, .inl (fun _ => 0))), (nq4, .inl (cy 0, 40, .inl (fun _ => 0)))] H := hP
  have hD : va_D A [(h0, .inr (7, [.ref nq1, .ref nq2, .ref nq3, .ref nq4, .null, .int 0])), (nq1, .inl (cy 0, 192, .inl (fun _ => 0))), (nq2, .inl (cy 0, 40, .inl (fun _ => 0))), (nq3, .inl (cy 0, 40, .inl (fun _ => 0))), (nq4, .inl (cy 0, 40, .inl (fun _ => 0)))] := hD
  refine lv_aload_n hx hb dX7_init_37 rfl (lv_at hl 0 rfl) ?_
  refine lv_bipush (v := 40) hx hb dX7_init_38 (by decide) ?_
  refine nwI (n := 40) (N := 40) hx hb hts m_146 hE hP hD hS hA (by decide) (by decide) (Nat.le_of_ble_eq_true rfl) (Nat.le_of_ble_eq_true rfl) (Nat.le_of_ble_eq_true rfl) dX7_init_40 (fun nq5 H hP hD hS => ?_)
  have hP : va_P G classes [(h0, .inr (7, [.ref nq1, .ref nq2, .ref nq3, .ref nq4, .null, .int 0])), (nq1, .inl (cy 0, 192, .inl (fun _ => 0))), (nq2, .inl (cy 0, 40, .inl (fun _ => 0))), (nq3, .inl (cy 0, 40, .inl (fun _ => 0))), (nq4, .inl (cy 0, 40, .inl (fun _ => 0))), (nq5, .inl (cy 0, 40, .inl (fun _ => 0)))] H := hP
  have hD : va_D A [(h0, .inr (7, [.ref nq1, .ref nq2, .ref nq3, .ref nq4, .null, .int 0])), (nq1, .inl (cy 0, 192, .inl (fun _ => 0))), (nq2, .inl (cy 0, 40, .inl (fun _ => 0))), (nq3, .inl (cy 0, 40, .inl (fun _ => 0))), (nq4, .inl (cy 0, 40, .inl (fun _ => 0))), (nq5, .inl (cy 0, 40, .inl (fun _ => 0)))] := hD
  refine va_putF (D := G) (ci := 7) (v := .ref nq5) (ty := (.array .int)) (C := RX7) (T := TX7) (N := 6) hx hb hts inB7 tyX7 tyX7_ok nmX7 hown hE.1 hP hD hS 0 rfl rfl 4 (by decide) (hts _ m_130) (fun _ h9 => h9) rfl hin rfl (by decide +kernel) rfl rfl (Nat.le_of_ble_eq_true rfl) dX7_init_42 (fun H locs hP hD hS => ?_)
  have hP : va_P G classes [(h0, .inr (7, [.ref nq1, .ref nq2, .ref nq3, .ref nq4, .ref nq5, .int 0])), (nq1, .inl (cy 0, 192, .inl (fun _ => 0))), (nq2, .inl (cy 0, 40, .inl (fun _ => 0))), (nq3, .inl (cy 0, 40, .inl (fun _ => 0))), (nq4, .inl (cy 0, 40, .inl (fun _ => 0))), (nq5, .inl (cy 0, 40, .inl (fun _ => 0)))] H := hP
  have hD : va_D A [(h0, .inr (7, [.ref nq1, .ref nq2, .ref nq3, .ref nq4, .ref nq5, .int 0])), (nq1, .inl (cy 0, 192, .inl (fun _ => 0))), (nq2, .inl (cy 0, 40, .inl (fun _ => 0))), (nq3, .inl (cy 0, 40, .inl (fun _ => 0))), (nq4, .inl (cy 0, 40, .inl (fun _ => 0))), (nq5, .inl (cy 0, 40, .inl (fun _ => 0)))] := hD
  refine lv_aload_n hx hb dX7_init_45 rfl (lv_at hl 0 rfl) ?_
  refine lv_iconst (v := 0) hx hb dX7_init_46 (by decide) ?_
  refine va_put (D := G) (ci := 7) (v := .int 0) (ty := .int) (C := RX7) (T := TX7) (N := 6) hx hb hts inB7 tyX7 tyX7_ok nmX7 hown hE.1 hP hD hS 0 rfl rfl 5 (by decide) (hts _ m_132) (fun _ h9 => h9) rfl (by decide +kernel) rfl rfl (Nat.le_of_ble_eq_true rfl) dX7_init_47 (fun H locs hP hD hS => ?_)
  have hP : va_P G classes [(h0, .inr (7, [.ref nq1, .ref nq2, .ref nq3, .ref nq4, .ref nq5, .int 0])), (nq1, .inl (cy 0, 192, .inl (fun _ => 0))), (nq2, .inl (cy 0, 40, .inl (fun _ => 0))), (nq3, .inl (cy 0, 40, .inl (fun _ => 0))), (nq4, .inl (cy 0, 40, .inl (fun _ => 0))), (nq5, .inl (cy 0, 40, .inl (fun _ => 0)))] H := hP
  have hD : va_D A [(h0, .inr (7, [.ref nq1, .ref nq2, .ref nq3, .ref nq4, .ref nq5, .int 0])), (nq1, .inl (cy 0, 192, .inl (fun _ => 0))), (nq2, .inl (cy 0, 40, .inl (fun _ => 0))), (nq3, .inl (cy 0, 40, .inl (fun _ => 0))), (nq4, .inl (cy 0, 40, .inl (fun _ => 0))), (nq5, .inl (cy 0, 40, .inl (fun _ => 0)))] := hD
  refine lv_iconst (v := 0) hx hb dX7_init_50 (by decide) ?_
  refine lv_istore_n (lv' := [(1, .int 0), (0, .ref h0)]) hx hb dX7_init_51 rfl hl (by decide) rfl (fun ls hl => ?_)
  have lp : ∀ (nn i : Nat), i ≤ 192 → 192 + 1 ≤ i + nn → ∀ (g : Nat → Int32), (∀ j, j < i → g j = (-1)) → ∀ (H : Heap) (locs : List Loc), va_P G classes [(h0, .inr (7, [.ref nq1, .ref nq2, .ref nq3, .ref nq4, .ref nq5, .int 0])), (nq1, .inl (cy 0, 192, .inl g)), (nq2, .inl (cy 0, 40, .inl (fun _ => 0))), (nq3, .inl (cy 0, 40, .inl (fun _ => 0))), (nq4, .inl (cy 0, 40, .inl (fun _ => 0))), (nq5, .inl (cy 0, 40, .inl (fun _ => 0)))] H → va_D A [(h0, .inr (7, [.ref nq1, .ref nq2, .ref nq3, .ref nq4, .ref nq5, .int 0])), (nq1, .inl (cy 0, 192, .inl g)), (nq2, .inl (cy 0, 40, .inl (fun _ => 0))), (nq3, .inl (cy 0, 40, .inl (fun _ => 0))), (nq4, .inl (cy 0, 40, .inl (fun _ => 0))), (nq5, .inl (cy 0, 40, .inl (fun _ => 0)))] → va_S A s.heap H locs → ∀ (ls : Array Slot), lv_has ls 2 [(1, .int (nI i)), (0, .ref h0)] → W p l e (headSpec (wsO yX7_init cX7_init 2 none) ({ frames := 1, cells := 5, slots := 352, locals := 12 })).room s m [.ref h0].toArray below meth c H locs 5 352 (MQ below (va_Qv (fun (_ : Unit) => True) (fun _ t => B_c_X7_init G cy A h0 t.heap) A) [.ref h0].toArray s 5 352 A) (F0 m 52 ls []) := by
    intro nn
    induction nn with
    | zero => intro i h1 h2; exact absurd h2 (by omega)
    | succ nn ih =>
      intro i hi hin0 g hv0 H locs hP hD hS ls hl
      rcases Nat.lt_or_ge i 192 with hlt | hge
      · refine lv_iload_n hx hb dX7_init_52 rfl (lv_at hl 0 rfl) ?_
        refine lv_sipush (v := 192) hx hb dX7_init_53 (by decide) ?_
        refine lv_icmp_ge (tgt := 72) hx hb dX7_init_56 (by decide) (fun h9 => absurd h9 (nI_ge hlt (by decide))) (fun _ => ?_)
        refine lv_aload_n hx hb dX7_init_59 rfl (lv_at hl 1 rfl) ?_
        refine va_get (D := G) (ci := 7) (v := .ref nq1) (C := RX7) (T := TX7) (N := 6) hx hb hts inB7 hown hE.1 hP 0 rfl rfl 0 (by decide) (hts _ m_121) (fun _ h9 => h9) rfl dX7_init_60 ?_
        refine lv_iload_n hx hb dX7_init_63 rfl (lv_at hl 0 rfl) ?_
        refine lv_iconst (v := (-1)) hx hb dX7_init_64 (by decide) ?_
        refine va_iast hx hb hE.1 hP hD hS 1 0 rfl rfl (vp_in_nI hlt (by decide)) dX7_init_65 (fun H locs hP hD hS => ?_)
        have hP : va_P G classes [(h0, .inr (7, [.ref nq1, .ref nq2, .ref nq3, .ref nq4, .ref nq5, .int 0])), (nq1, .inl (cy 0, 192, .inl (upd g ((nI i)).toNatClampNeg (-1)))), (nq2, .inl (cy 0, 40, .inl (fun _ => 0))), (nq3, .inl (cy 0, 40, .inl (fun _ => 0))), (nq4, .inl (cy 0, 40, .inl (fun _ => 0))), (nq5, .inl (cy 0, 40, .inl (fun _ => 0)))] H := hP
        have hD : va_D A [(h0, .inr (7, [.ref nq1, .ref nq2, .ref nq3, .ref nq4, .ref nq5, .int 0])), (nq1, .inl (cy 0, 192, .inl (upd g ((nI i)).toNatClampNeg (-1)))), (nq2, .inl (cy 0, 40, .inl (fun _ => 0))), (nq3, .inl (cy 0, 40, .inl (fun _ => 0))), (nq4, .inl (cy 0, 40, .inl (fun _ => 0))), (nq5, .inl (cy 0, 40, .inl (fun _ => 0)))] := hD
        refine lv_iinc (v := (nI (i + 1))) (lv' := [(1, .int (nI (i + 1))), (0, .ref h0)]) hx hb dX7_init_66 hl (k := 0) rfl (nI_1 (i)) (by decide) rfl (fun ls hl => ?_)
        refine lv_goto (tgt := 52) hx hb dX7_init_69 (by decide) ?_
        exact ih (i + 1) hlt (by omega) _ (upd_all (by omega) hv0) _ _ hP hD hS ls (lv_sub hl [0, 1] rfl)
      · have hie : i = 192 := Nat.le_antisymm hi hge
        subst hie
        refine lv_iload_n hx hb dX7_init_52 rfl (lv_at hl 0 rfl) ?_
        refine lv_sipush (v := 192) hx hb dX7_init_53 (by decide) ?_
        refine lv_icmp_ge (tgt := 72) hx hb dX7_init_56 (by decide) (fun _ => ?_) (fun h9 => absurd (Int32.le_refl _) h9)
        have hP9 := P_cut (wc := [(h0, .inr (7, [.ref nq1, .ref nq2, .ref nq3, .ref nq4, .ref nq5, .int 0])), (nq1, .inl (cy 0, 192, .inl g)), (nq2, .inl (cy 0, 40, .inl (fun _ => 0))), (nq3, .inl (cy 0, 40, .inl (fun _ => 0))), (nq4, .inl (cy 0, 40, .inl (fun _ => 0))), (nq5, .inl (cy 0, 40, .inl (fun _ => 0)))]) hP [0, 1, 2, 3, 4, 5] rfl
        have hD9 := hD.sub (ws' := [(h0, .inr (7, [.ref nq1, .ref nq2, .ref nq3, .ref nq4, .ref nq5, .int 0])), (nq1, .inl (cy 0, 192, .inl g)), (nq2, .inl (cy 0, 40, .inl (fun _ => 0))), (nq3, .inl (cy 0, 40, .inl (fun _ => 0))), (nq4, .inl (cy 0, 40, .inl (fun _ => 0))), (nq5, .inl (cy 0, 40, .inl (fun _ => 0)))]) [0, 1, 2, 3, 4, 5] (by decide) rfl
        refine W.widen (k := 5) (n := 352) (by first | exact Nat.le_of_ble_eq_true rfl | omega) (by first | exact Nat.le_of_ble_eq_true rfl | omega) ?_
        exact W.vret hx hb hr (fun t ht hW => ⟨⟨(), rfl, trivial, by dsimp only; rw [ht]; exact ⟨nq1, nq2, nq3, nq4, nq5, g, hv0, hP9, hD9⟩⟩, hS.F ht⟩) hS.2.2 dX7_init_72
  exact lp (192 + 1) 0 (Nat.zero_le _) (by omega) _ (fun j h => absurd h (Nat.not_lt_zero _)) _ _ hP hD hS ls (lv_sub hl [0, 1] rfl)
def B_c_X9_init (G : va_G) (cy : Nat → ClassId) (A : Nat → Prop) (h0 : Nat) (H : Heap) : Prop := ∃ (ye : Nat) (no : Nat), va_P G classes [(h0, .inr (9, [.int 0, .int 0, .int 0, .int 5, .int 60, .int 0, .int 0, .int 0, .int 0, .ref ye, .ref no])), (ye, .inl (cy 0, 192, .inl (fun _ => 0))), (no, .inl (cy 0, 192, .inl (fun _ => 0)))] H ∧ va_D A [(h0, .inr (9, [.int 0, .int 0, .int 0, .int 5, .int 60, .int 0, .int 0, .int 0, .int 0, .ref ye, .ref no])), (ye, .inl (cy 0, 192, .inl (fun _ => 0))), (no, .inl (cy 0, 192, .inl (fun _ => 0)))]
set_option maxHeartbeats 4000000 in
set_option maxRecDepth 100000 in
theorem c_X9_init (l : Launch) (G : va_G) (cy : Nat → ClassId) (sk : Nat → Nat) (sz : Nat) (h0 : Nat)  : Met l yX9_init (wsO yX9_init cX9_init 1 none) ({ frames := 1, cells := 2, slots := 384, locals := 12 }) (va_Pc [.ref h0] (PR G cy sk sz [(h0, .inr (9, [.int 0, .int 0, .int 0, .int 0, .int 0, .int 0, .int 0, .int 0, .int 0, .null, .null]))])) (va_Qv (fun (_ : Unit) => True) (fun _ t => B_c_X9_init G cy (va_A [(h0, .inr (9, [.int 0, .int 0, .int 0, .int 0, .int 0, .int 0, .int 0, .int 0, .int 0, .null, .null]))] sz) h0 t.heap) (va_A [(h0, .inr (9, [.int 0, .int 0, .int 0, .int 0, .int 0, .int 0, .int 0, .int 0, .int 0, .null, .null]))] sz)) 2 384 (va_A [(h0, .inr (9, [.int 0, .int 0, .int 0, .int 0, .int 0, .int 0, .int 0, .int 0, .int 0, .null, .null]))] sz) := by
  refine mt (by decide) (Nat.le_of_ble_eq_true rfl) ?_
  intro p e s m below meth c ls hx hb hr hml hts hown hlocks hin hsz hP hE hD hl
  subst hsz
  have hl : lv_has ls 1 [(0, .ref h0)] := hl
  have hD := hD.self (sz := s.heap.size)
  generalize hAe : va_A [(h0, .inr (9, [.int 0, .int 0, .int 0, .int 0, .int 0, .int 0, .int 0, .int 0, .int 0, .null, .null]))] s.heap.size = A at hD ⊢
  have hA : ∀ q : Nat, s.heap.size ≤ q → A q := fun q h => by rw [← hAe]; exact Or.inr h
  have hS : va_S A s.heap s.heap [] := va_S.rf
  refine lv_aload_n hx hb dX9_init_0 rfl (lv_at hl 0 rfl) ?_
  refine W.objInit hx hb hown (hts _ m_257) (hts _ m_107) (hts _ m_108) rfl (by rw [hml]; exact hl.1) rfl dX9_init_1 (Nat.le_of_ble_eq_true rfl) (Nat.le_of_ble_eq_true rfl) ?_
  refine W.eq (g2 := F0 m 4 ls []) rfl ?_
  refine lv_aload_n hx hb dX9_init_4 rfl (lv_at hl 0 rfl) ?_
  refine lv_iconst (v := 0) hx hb dX9_init_5 (by decide) ?_
  refine va_put (D := G) (ci := 9) (v := .int 0) (ty := .int) (C := RX9) (T := TX9) (N := 11) hx hb hts inB9 tyX9 tyX9_ok nmX9 hown hE.1 hP hD hS 0 rfl rfl 0 (by decide) (hts _ m_258) (fun _ h9 => h9) rfl (by decide +kernel) rfl rfl (Nat.le_of_ble_eq_true rfl) dX9_init_6 (fun H locs hP hD hS => ?_)
  have hP : va_P G classes [(h0, .inr (9, [.int 0, .int 0, .int 0, .int 0, .int 0, .int 0, .int 0, .int 0, .int 0, .null, .null]))] H := hP
  have hD : va_D A [(h0, .inr (9, [.int 0, .int 0, .int 0, .int 0, .int 0, .int 0, .int 0, .int 0, .int 0, .null, .null]))] := hD
  refine lv_aload_n hx hb dX9_init_9 rfl (lv_at hl 0 rfl) ?_
  refine lv_iconst (v := 0) hx hb dX9_init_10 (by decide) ?_
  refine va_put (D := G) (ci := 9) (v := .int 0) (ty := .int) (C := RX9) (T := TX9) (N := 11) hx hb hts inB9 tyX9 tyX9_ok nmX9 hown hE.1 hP hD hS 0 rfl rfl 1 (by decide) (hts _ m_260) (fun _ h9 => h9) rfl (by decide +kernel) rfl rfl (Nat.le_of_ble_eq_true rfl) dX9_init_11 (fun H locs hP hD hS => ?_)
  have hP : va_P G classes [(h0, .inr (9, [.int 0, .int 0, .int 0, .int 0, .int 0, .int 0, .int 0, .int 0, .int 0, .null, .null]))] H := hP
  have hD : va_D A [(h0, .inr (9, [.int 0, .int 0, .int 0, .int 0, .int 0, .int 0, .int 0, .int 0, .int 0, .null, .null]))] := hD
  refine lv_aload_n hx hb dX9_init_14 rfl (lv_at hl 0 rfl) ?_
  refine lv_iconst (v := 0) hx hb dX9_init_15 (by decide) ?_
  refine va_put (D := G) (ci := 9) (v := .int 0) (ty := .int) (C := RX9) (T := TX9) (N := 11) hx hb hts inB9 tyX9 tyX9_ok nmX9 hown hE.1 hP hD hS 0 rfl rfl 2 (by decide) (hts _ m_264) (fun _ h9 => h9) rfl (by decide +kernel) rfl rfl (Nat.le_of_ble_eq_true rfl) dX9_init_16 (fun H locs hP hD hS => ?_)
  have hP : va_P G classes [(h0, .inr (9, [.int 0, .int 0, .int 0, .int 0, .int 0, .int 0, .int 0, .int 0, .int 0, .null, .null]))] H := hP
  have hD : va_D A [(h0, .inr (9, [.int 0, .int 0, .int 0, .int 0, .int 0, .int 0, .int 0, .int 0, .int 0, .null, .null]))] := hD
  refine lv_aload_n hx hb dX9_init_19 rfl (lv_at hl 0 rfl) ?_
  refine lv_iconst (v := 5) hx hb dX9_init_20 (by decide) ?_
  refine va_put (D := G) (ci := 9) (v := .int 5) (ty := .int) (C := RX9) (T := TX9) (N := 11) hx hb hts inB9 tyX9 tyX9_ok nmX9 hown hE.1 hP hD hS 0 rfl rfl 3 (by decide) (hts _ m_267) (fun _ h9 => h9) rfl (by decide +kernel) rfl rfl (Nat.le_of_ble_eq_true rfl) dX9_init_21 (fun H locs hP hD hS => ?_)
  have hP : va_P G classes [(h0, .inr (9, [.int 0, .int 0, .int 0, .int 5, .int 0, .int 0, .int 0, .int 0, .int 0, .null, .null]))] H := hP
  have hD : va_D A [(h0, .inr (9, [.int 0, .int 0, .int 0, .int 5, .int 0, .int 0, .int 0, .int 0, .int 0, .null, .null]))] := hD
  refine lv_aload_n hx hb dX9_init_24 rfl (lv_at hl 0 rfl) ?_
  refine lv_bipush (v := 60) hx hb dX9_init_25 (by decide) ?_
  refine va_put (D := G) (ci := 9) (v := .int 60) (ty := .int) (C := RX9) (T := TX9) (N := 11) hx hb hts inB9 tyX9 tyX9_ok nmX9 hown hE.1 hP hD hS 0 rfl rfl 4 (by decide) (hts _ m_270) (fun _ h9 => h9) rfl (by decide +kernel) rfl rfl (Nat.le_of_ble_eq_true rfl) dX9_init_27 (fun H locs hP hD hS => ?_)
  have hP : va_P G classes [(h0, .inr (9, [.int 0, .int 0, .int 0, .int 5, .int 60, .int 0, .int 0, .int 0, .int 0, .null, .null]))] H := hP
  have hD : va_D A [(h0, .inr (9, [.int 0, .int 0, .int 0, .int 5, .int 60, .int 0, .int 0, .int 0, .int 0, .null, .null]))] := hD
  refine lv_aload_n hx hb dX9_init_30 rfl (lv_at hl 0 rfl) ?_
  refine lv_iconst (v := 0) hx hb dX9_init_31 (by decide) ?_
  refine va_put (D := G) (ci := 9) (v := .int 0) (ty := .int) (C := RX9) (T := TX9) (N := 11) hx hb hts inB9 tyX9 tyX9_ok nmX9 hown hE.1 hP hD hS 0 rfl rfl 5 (by decide) (hts _ m_272) (fun _ h9 => h9) rfl (by decide +kernel) rfl rfl (Nat.le_of_ble_eq_true rfl) dX9_init_32 (fun H locs hP hD hS => ?_)
  have hP : va_P G classes [(h0, .inr (9, [.int 0, .int 0, .int 0, .int 5, .int 60, .int 0, .int 0, .int 0, .int 0, .null, .null]))] H := hP
  have hD : va_D A [(h0, .inr (9, [.int 0, .int 0, .int 0, .int 5, .int 60, .int 0, .int 0, .int 0, .int 0, .null, .null]))] := hD
  refine lv_aload_n hx hb dX9_init_35 rfl (lv_at hl 0 rfl) ?_
  refine lv_iconst (v := 0) hx hb dX9_init_36 (by decide) ?_
  refine va_put (D := G) (ci := 9) (v := .int 0) (ty := .boolean) (C := RX9) (T := TX9) (N := 11) hx hb hts inB9 tyX9 tyX9_ok nmX9 hown hE.1 hP hD hS 0 rfl rfl 6 (by decide) (hts _ m_275) (fun _ h9 => h9) rfl (by decide +kernel) rfl rfl (Nat.le_of_ble_eq_true rfl) dX9_init_37 (fun H locs hP hD hS => ?_)
  have hP : va_P G classes [(h0, .inr (9, [.int 0, .int 0, .int 0, .int 5, .int 60, .int 0, .int 0, .int 0, .int 0, .null, .null]))] H := hP
  have hD : va_D A [(h0, .inr (9, [.int 0, .int 0, .int 0, .int 5, .int 60, .int 0, .int 0, .int 0, .int 0, .null, .null]))] := hD
  refine lv_aload_n hx hb dX9_init_40 rfl (lv_at hl 0 rfl) ?_
  refine lv_iconst (v := 0) hx hb dX9_init_41 (by decide) ?_
  refine va_put (D := G) (ci := 9) (v := .int 0) (ty := .int) (C := RX9) (T := TX9) (N := 11) hx hb hts inB9 tyX9 tyX9_ok nmX9 hown hE.1 hP hD hS 0 rfl rfl 7 (by decide) (hts _ m_278) (fun _ h9 => h9) rfl (by decide +kernel) rfl rfl (Nat.le_of_ble_eq_true rfl) dX9_init_42 (fun H locs hP hD hS => ?_)
  have hP : va_P G classes [(h0, .inr (9, [.int 0, .int 0, .int 0, .int 5, .int 60, .int 0, .int 0, .int 0, .int 0, .null, .null]))] H := hP
  have hD : va_D A [(h0, .inr (9, [.int 0, .int 0, .int 0, .int 5, .int 60, .int 0, .int 0, .int 0, .int 0, .null, .null]))] := hD
  refine lv_aload_n hx hb dX9_init_45 rfl (lv_at hl 0 rfl) ?_
  refine lv_iconst (v := 0) hx hb dX9_init_46 (by decide) ?_
  refine va_put (D := G) (ci := 9) (v := .int 0) (ty := .int) (C := RX9) (T := TX9) (N := 11) hx hb hts inB9 tyX9 tyX9_ok nmX9 hown hE.1 hP hD hS 0 rfl rfl 8 (by decide) (hts _ m_280) (fun _ h9 => h9) rfl (by decide +kernel) rfl rfl (Nat.le_of_ble_eq_true rfl) dX9_init_47 (fun H locs hP hD hS => ?_)
  have hP : va_P G classes [(h0, .inr (9, [.int 0, .int 0, .int 0, .int 5, .int 60, .int 0, .int 0, .int 0, .int 0, .null, .null]))] H := hP
  have hD : va_D A [(h0, .inr (9, [.int 0, .int 0, .int 0, .int 5, .int 60, .int 0, .int 0, .int 0, .int 0, .null, .null]))] := hD
  refine lv_aload_n hx hb dX9_init_50 rfl (lv_at hl 0 rfl) ?_
  refine lv_sipush (v := 192) hx hb dX9_init_51 (by decide) ?_
  refine nwI (n := 192) (N := 192) hx hb hts m_146 hE hP hD hS hA (by decide) (by decide) (Nat.le_of_ble_eq_true rfl) (Nat.le_of_ble_eq_true rfl) (Nat.le_of_ble_eq_true rfl) dX9_init_54 (fun nq1 H hP hD hS => ?_)
  have hP : va_P G classes [(h0, .inr (9, [.int 0, .int 0, .int 0, .int 5, .int 60, .int 0, .int 0, .int 0, .int 0, .null, .null])), (nq1, .inl (cy 0, 192, .inl (fun _ => 0)))] H := hP
  have hD : va_D A [(h0, .inr (9, [.int 0, .int 0, .int 0, .int 5, .int 60, .int 0, .int 0, .int 0, .int 0, .null, .null])), (nq1, .inl (cy 0, 192, .inl (fun _ => 0)))] := hD
  refine va_putF (D := G) (ci := 9) (v := .ref nq1) (ty := (.array .int)) (C := RX9) (T := TX9) (N := 11) hx hb hts inB9 tyX9 tyX9_ok nmX9 hown hE.1 hP hD hS 0 rfl rfl 9 (by decide) (hts _ m_282) (fun _ h9 => h9) rfl hin rfl (by decide +kernel) rfl rfl (Nat.le_of_ble_eq_true rfl) dX9_init_56 (fun H locs hP hD hS => ?_)
  have hP : va_P G classes [(h0, .inr (9, [.int 0, .int 0, .int 0, .int 5, .int 60, .int 0, .int 0, .int 0, .int 0, .ref nq1, .null])), (nq1, .inl (cy 0, 192, .inl (fun _ => 0)))] H := hP
  have hD : va_D A [(h0, .inr (9, [.int 0, .int 0, .int 0, .int 5, .int 60, .int 0, .int 0, .int 0, .int 0, .ref nq1, .null])), (nq1, .inl (cy 0, 192, .inl (fun _ => 0)))] := hD
  refine lv_aload_n hx hb dX9_init_59 rfl (lv_at hl 0 rfl) ?_
  refine lv_sipush (v := 192) hx hb dX9_init_60 (by decide) ?_
  refine nwI (n := 192) (N := 192) hx hb hts m_146 hE hP hD hS hA (by decide) (by decide) (Nat.le_of_ble_eq_true rfl) (Nat.le_of_ble_eq_true rfl) (Nat.le_of_ble_eq_true rfl) dX9_init_63 (fun nq2 H hP hD hS => ?_)
  have hP : va_P G classes [(h0, .inr (9, [.int 0, .int 0, .int 0, .int 5, .int 60, .int 0, .int 0, .int 0, .int 0, .ref nq1, .null])), (nq1, .inl (cy 0, 192, .inl (fun _ => 0))), (nq2, .inl (cy 0, 192, .inl (fun _ => 0)))] H := hP
  have hD : va_D A [(h0, .inr (9, [.int 0, .int 0, .int 0, .int 5, .int 60, .int 0, .int 0, .int 0, .int 0, .ref nq1, .null])), (nq1, .inl (cy 0, 192, .inl (fun _ => 0))), (nq2, .inl (cy 0, 192, .inl (fun _ => 0)))] := hD
  refine va_putF (D := G) (ci := 9) (v := .ref nq2) (ty := (.array .int)) (C := RX9) (T := TX9) (N := 11) hx hb hts inB9 tyX9 tyX9_ok nmX9 hown hE.1 hP hD hS 0 rfl rfl 10 (by decide) (hts _ m_284) (fun _ h9 => h9) rfl hin rfl (by decide +kernel) rfl rfl (Nat.le_of_ble_eq_true rfl) dX9_init_65 (fun H locs hP hD hS => ?_)
  have hP : va_P G classes [(h0, .inr (9, [.int 0, .int 0, .int 0, .int 5, .int 60, .int 0, .int 0, .int 0, .int 0, .ref nq1, .ref nq2])), (nq1, .inl (cy 0, 192, .inl (fun _ => 0))), (nq2, .inl (cy 0, 192, .inl (fun _ => 0)))] H := hP
  have hD : va_D A [(h0, .inr (9, [.int 0, .int 0, .int 0, .int 5, .int 60, .int 0, .int 0, .int 0, .int 0, .ref nq1, .ref nq2])), (nq1, .inl (cy 0, 192, .inl (fun _ => 0))), (nq2, .inl (cy 0, 192, .inl (fun _ => 0)))] := hD
  have hP9 := P_cut (wc := [(h0, .inr (9, [.int 0, .int 0, .int 0, .int 5, .int 60, .int 0, .int 0, .int 0, .int 0, .ref nq1, .ref nq2])), (nq1, .inl (cy 0, 192, .inl (fun _ => 0))), (nq2, .inl (cy 0, 192, .inl (fun _ => 0)))]) hP [0, 1, 2] rfl
  have hD9 := hD.sub (ws' := [(h0, .inr (9, [.int 0, .int 0, .int 0, .int 5, .int 60, .int 0, .int 0, .int 0, .int 0, .ref nq1, .ref nq2])), (nq1, .inl (cy 0, 192, .inl (fun _ => 0))), (nq2, .inl (cy 0, 192, .inl (fun _ => 0)))]) [0, 1, 2] (by decide) rfl
  refine W.widen (k := 2) (n := 384) (by first | exact Nat.le_of_ble_eq_true rfl | omega) (by first | exact Nat.le_of_ble_eq_true rfl | omega) ?_
  exact W.vret hx hb hr (fun t ht hW => ⟨⟨(), rfl, trivial, by dsimp only; rw [ht]; exact ⟨nq1, nq2, hP9, hD9⟩⟩, hS.F ht⟩) hS.2.2 dX9_init_68
set_option maxHeartbeats 4000000 in
set_option maxRecDepth 100000 in
theorem c_X9_begin (l : Launch) (G : va_G) (cy : Nat → ClassId) (sk : Nat → Nat) (sz : Nat) (wk : Nat) (ye : Nat) (no : Nat) (fy : Nat → Int32) (fn : Nat → Int32) (a : Int32) (b : Int32) (d : Int32)  : Met l yX9_begin (wsO yX9_begin cX9_begin 5 none) ({ frames := 0, cells := 0, slots := 0, locals := 0 }) (va_Pc [.ref wk, .int a, .int b, .int d] (PR G cy sk sz [(wk, .inr (9, [.int 0, .int 0, .int 0, .int 5, .int 60, .int 0, .int 0, .int 0, .int 0, .ref ye, .ref no])), (ye, .inl (cy 0, 192, .inl fy)), (no, .inl (cy 0, 192, .inl fn))])) (va_Qv (fun (_ : Unit) => True) (fun _ _ => True) (va_A [(wk, .inr (9, [.int 0, .int 0, .int 0, .int 5, .int 60, .int 0, .int 0, .int 0, .int 0, .ref ye, .ref no])), (ye, .inl (cy 0, 192, .inl fy)), (no, .inl (cy 0, 192, .inl fn))] sz)) 0 0 (va_A [(wk, .inr (9, [.int 0, .int 0, .int 0, .int 5, .int 60, .int 0, .int 0, .int 0, .int 0, .ref ye, .ref no])), (ye, .inl (cy 0, 192, .inl fy)), (no, .inl (cy 0, 192, .inl fn))] sz) := by
  refine mt (by decide) (Nat.le_of_ble_eq_true rfl) ?_
  intro p e s m below meth c ls hx hb hr hml hts hown hlocks hin hsz hP hE hD hl
  subst hsz
  have hl : lv_has ls 5 [(0, .ref wk), (1, .int a), (2, .int b), (3, .int d)] := hl
  have hD := hD.self (sz := s.heap.size)
  generalize hAe : va_A [(wk, .inr (9, [.int 0, .int 0, .int 0, .int 5, .int 60, .int 0, .int 0, .int 0, .int 0, .ref ye, .ref no])), (ye, .inl (cy 0, 192, .inl fy)), (no, .inl (cy 0, 192, .inl fn))] s.heap.size = A at hD ⊢
  have hA : ∀ q : Nat, s.heap.size ≤ q → A q := fun q h => by rw [← hAe]; exact Or.inr h
  have hS : va_S A s.heap s.heap [] := va_S.rf
  refine lv_aload_n hx hb dX9_begin_0 rfl (lv_at hl 0 rfl) ?_
  refine lv_iload_n hx hb dX9_begin_1 rfl (lv_at hl 1 rfl) ?_
  refine va_put (D := G) (ci := 9) (v := .int a) (ty := .int) (C := RX9) (T := TX9) (N := 11) hx hb hts inB9 tyX9 tyX9_ok nmX9 hown hE.1 hP hD hS 0 rfl rfl 0 (by decide) (hts _ m_258) (fun _ h9 => h9) rfl (by decide +kernel) rfl rfl (Nat.le_of_ble_eq_true rfl) dX9_begin_2 (fun H locs hP hD hS => ?_)
  have hP : va_P G classes [(wk, .inr (9, [.int a, .int 0, .int 0, .int 5, .int 60, .int 0, .int 0, .int 0, .int 0, .ref ye, .ref no])), (ye, .inl (cy 0, 192, .inl fy)), (no, .inl (cy 0, 192, .inl fn))] H := hP
  have hD : va_D A [(wk, .inr (9, [.int a, .int 0, .int 0, .int 5, .int 60, .int 0, .int 0, .int 0, .int 0, .ref ye, .ref no])), (ye, .inl (cy 0, 192, .inl fy)), (no, .inl (cy 0, 192, .inl fn))] := hD
  refine lv_aload_n hx hb dX9_begin_5 rfl (lv_at hl 0 rfl) ?_
  refine lv_iload_n hx hb dX9_begin_6 rfl (lv_at hl 2 rfl) ?_
  refine va_put (D := G) (ci := 9) (v := .int b) (ty := .int) (C := RX9) (T := TX9) (N := 11) hx hb hts inB9 tyX9 tyX9_ok nmX9 hown hE.1 hP hD hS 0 rfl rfl 1 (by decide) (hts _ m_260) (fun _ h9 => h9) rfl (by decide +kernel) rfl rfl (Nat.le_of_ble_eq_true rfl) dX9_begin_7 (fun H locs hP hD hS => ?_)
  have hP : va_P G classes [(wk, .inr (9, [.int a, .int b, .int 0, .int 5, .int 60, .int 0, .int 0, .int 0, .int 0, .ref ye, .ref no])), (ye, .inl (cy 0, 192, .inl fy)), (no, .inl (cy 0, 192, .inl fn))] H := hP
  have hD : va_D A [(wk, .inr (9, [.int a, .int b, .int 0, .int 5, .int 60, .int 0, .int 0, .int 0, .int 0, .ref ye, .ref no])), (ye, .inl (cy 0, 192, .inl fy)), (no, .inl (cy 0, 192, .inl fn))] := hD
  refine lv_aload_n hx hb dX9_begin_10 rfl (lv_at hl 0 rfl) ?_
  refine lv_iload_n hx hb dX9_begin_11 rfl (lv_at hl 3 rfl) ?_
  refine va_put (D := G) (ci := 9) (v := .int d) (ty := .int) (C := RX9) (T := TX9) (N := 11) hx hb hts inB9 tyX9 tyX9_ok nmX9 hown hE.1 hP hD hS 0 rfl rfl 2 (by decide) (hts _ m_264) (fun _ h9 => h9) rfl (by decide +kernel) rfl rfl (Nat.le_of_ble_eq_true rfl) dX9_begin_12 (fun H locs hP hD hS => ?_)
  have hP : va_P G classes [(wk, .inr (9, [.int a, .int b, .int d, .int 5, .int 60, .int 0, .int 0, .int 0, .int 0, .ref ye, .ref no])), (ye, .inl (cy 0, 192, .inl fy)), (no, .inl (cy 0, 192, .inl fn))] H := hP
  have hD : va_D A [(wk, .inr (9, [.int a, .int b, .int d, .int 5, .int 60, .int 0, .int 0, .int 0, .int 0, .ref ye, .ref no])), (ye, .inl (cy 0, 192, .inl fy)), (no, .inl (cy 0, 192, .inl fn))] := hD
  refine lv_aload_n hx hb dX9_begin_15 rfl (lv_at hl 0 rfl) ?_
  refine lv_iconst (v := 5) hx hb dX9_begin_16 (by decide) ?_
  refine va_put (D := G) (ci := 9) (v := .int 5) (ty := .int) (C := RX9) (T := TX9) (N := 11) hx hb hts inB9 tyX9 tyX9_ok nmX9 hown hE.1 hP hD hS 0 rfl rfl 3 (by decide) (hts _ m_267) (fun _ h9 => h9) rfl (by decide +kernel) rfl rfl (Nat.le_of_ble_eq_true rfl) dX9_begin_17 (fun H locs hP hD hS => ?_)
  have hP : va_P G classes [(wk, .inr (9, [.int a, .int b, .int d, .int 5, .int 60, .int 0, .int 0, .int 0, .int 0, .ref ye, .ref no])), (ye, .inl (cy 0, 192, .inl fy)), (no, .inl (cy 0, 192, .inl fn))] H := hP
  have hD : va_D A [(wk, .inr (9, [.int a, .int b, .int d, .int 5, .int 60, .int 0, .int 0, .int 0, .int 0, .ref ye, .ref no])), (ye, .inl (cy 0, 192, .inl fy)), (no, .inl (cy 0, 192, .inl fn))] := hD
  refine lv_aload_n hx hb dX9_begin_20 rfl (lv_at hl 0 rfl) ?_
  refine lv_bipush (v := 60) hx hb dX9_begin_21 (by decide) ?_
  refine va_put (D := G) (ci := 9) (v := .int 60) (ty := .int) (C := RX9) (T := TX9) (N := 11) hx hb hts inB9 tyX9 tyX9_ok nmX9 hown hE.1 hP hD hS 0 rfl rfl 4 (by decide) (hts _ m_270) (fun _ h9 => h9) rfl (by decide +kernel) rfl rfl (Nat.le_of_ble_eq_true rfl) dX9_begin_23 (fun H locs hP hD hS => ?_)
  have hP : va_P G classes [(wk, .inr (9, [.int a, .int b, .int d, .int 5, .int 60, .int 0, .int 0, .int 0, .int 0, .ref ye, .ref no])), (ye, .inl (cy 0, 192, .inl fy)), (no, .inl (cy 0, 192, .inl fn))] H := hP
  have hD : va_D A [(wk, .inr (9, [.int a, .int b, .int d, .int 5, .int 60, .int 0, .int 0, .int 0, .int 0, .ref ye, .ref no])), (ye, .inl (cy 0, 192, .inl fy)), (no, .inl (cy 0, 192, .inl fn))] := hD
  refine lv_aload_n hx hb dX9_begin_26 rfl (lv_at hl 0 rfl) ?_
  refine lv_iconst (v := 0) hx hb dX9_begin_27 (by decide) ?_
  refine va_put (D := G) (ci := 9) (v := .int 0) (ty := .int) (C := RX9) (T := TX9) (N := 11) hx hb hts inB9 tyX9 tyX9_ok nmX9 hown hE.1 hP hD hS 0 rfl rfl 5 (by decide) (hts _ m_272) (fun _ h9 => h9) rfl (by decide +kernel) rfl rfl (Nat.le_of_ble_eq_true rfl) dX9_begin_28 (fun H locs hP hD hS => ?_)
  have hP : va_P G classes [(wk, .inr (9, [.int a, .int b, .int d, .int 5, .int 60, .int 0, .int 0, .int 0, .int 0, .ref ye, .ref no])), (ye, .inl (cy 0, 192, .inl fy)), (no, .inl (cy 0, 192, .inl fn))] H := hP
  have hD : va_D A [(wk, .inr (9, [.int a, .int b, .int d, .int 5, .int 60, .int 0, .int 0, .int 0, .int 0, .ref ye, .ref no])), (ye, .inl (cy 0, 192, .inl fy)), (no, .inl (cy 0, 192, .inl fn))] := hD
  refine lv_aload_n hx hb dX9_begin_31 rfl (lv_at hl 0 rfl) ?_
  refine lv_iconst (v := 0) hx hb dX9_begin_32 (by decide) ?_
  refine va_put (D := G) (ci := 9) (v := .int 0) (ty := .boolean) (C := RX9) (T := TX9) (N := 11) hx hb hts inB9 tyX9 tyX9_ok nmX9 hown hE.1 hP hD hS 0 rfl rfl 6 (by decide) (hts _ m_275) (fun _ h9 => h9) rfl (by decide +kernel) rfl rfl (Nat.le_of_ble_eq_true rfl) dX9_begin_33 (fun H locs hP hD hS => ?_)
  have hP : va_P G classes [(wk, .inr (9, [.int a, .int b, .int d, .int 5, .int 60, .int 0, .int 0, .int 0, .int 0, .ref ye, .ref no])), (ye, .inl (cy 0, 192, .inl fy)), (no, .inl (cy 0, 192, .inl fn))] H := hP
  have hD : va_D A [(wk, .inr (9, [.int a, .int b, .int d, .int 5, .int 60, .int 0, .int 0, .int 0, .int 0, .ref ye, .ref no])), (ye, .inl (cy 0, 192, .inl fy)), (no, .inl (cy 0, 192, .inl fn))] := hD
  refine lv_aload_n hx hb dX9_begin_36 rfl (lv_at hl 0 rfl) ?_
  refine lv_iconst (v := 0) hx hb dX9_begin_37 (by decide) ?_
  refine va_put (D := G) (ci := 9) (v := .int 0) (ty := .int) (C := RX9) (T := TX9) (N := 11) hx hb hts inB9 tyX9 tyX9_ok nmX9 hown hE.1 hP hD hS 0 rfl rfl 7 (by decide) (hts _ m_278) (fun _ h9 => h9) rfl (by decide +kernel) rfl rfl (Nat.le_of_ble_eq_true rfl) dX9_begin_38 (fun H locs hP hD hS => ?_)
  have hP : va_P G classes [(wk, .inr (9, [.int a, .int b, .int d, .int 5, .int 60, .int 0, .int 0, .int 0, .int 0, .ref ye, .ref no])), (ye, .inl (cy 0, 192, .inl fy)), (no, .inl (cy 0, 192, .inl fn))] H := hP
  have hD : va_D A [(wk, .inr (9, [.int a, .int b, .int d, .int 5, .int 60, .int 0, .int 0, .int 0, .int 0, .ref ye, .ref no])), (ye, .inl (cy 0, 192, .inl fy)), (no, .inl (cy 0, 192, .inl fn))] := hD
  refine lv_aload_n hx hb dX9_begin_41 rfl (lv_at hl 0 rfl) ?_
  refine lv_iconst (v := 0) hx hb dX9_begin_42 (by decide) ?_
  refine va_put (D := G) (ci := 9) (v := .int 0) (ty := .int) (C := RX9) (T := TX9) (N := 11) hx hb hts inB9 tyX9 tyX9_ok nmX9 hown hE.1 hP hD hS 0 rfl rfl 8 (by decide) (hts _ m_280) (fun _ h9 => h9) rfl (by decide +kernel) rfl rfl (Nat.le_of_ble_eq_true rfl) dX9_begin_43 (fun H locs hP hD hS => ?_)
  have hP : va_P G classes [(wk, .inr (9, [.int a, .int b, .int d, .int 5, .int 60, .int 0, .int 0, .int 0, .int 0, .ref ye, .ref no])), (ye, .inl (cy 0, 192, .inl fy)), (no, .inl (cy 0, 192, .inl fn))] H := hP
  have hD : va_D A [(wk, .inr (9, [.int a, .int b, .int d, .int 5, .int 60, .int 0, .int 0, .int 0, .int 0, .ref ye, .ref no])), (ye, .inl (cy 0, 192, .inl fy)), (no, .inl (cy 0, 192, .inl fn))] := hD
  refine lv_iconst (v := 0) hx hb dX9_begin_46 (by decide) ?_
  refine lv_istore (lv' := [(4, .int 0), (0, .ref wk), (1, .int a), (2, .int b), (3, .int d)]) hx hb dX9_begin_47 hl (by decide) rfl (fun ls hl => ?_)
  have lp : ∀ (nn i : Nat), i ≤ 192 → 192 + 1 ≤ i + nn → ∀ (gy : Nat → Int32), ∀ (gn : Nat → Int32), ∀ (H : Heap) (locs : List Loc), va_P G classes [(wk, .inr (9, [.int a, .int b, .int d, .int 5, .int 60, .int 0, .int 0, .int 0, .int 0, .ref ye, .ref no])), (ye, .inl (cy 0, 192, .inl gy)), (no, .inl (cy 0, 192, .inl gn))] H → va_D A [(wk, .inr (9, [.int a, .int b, .int d, .int 5, .int 60, .int 0, .int 0, .int 0, .int 0, .ref ye, .ref no])), (ye, .inl (cy 0, 192, .inl gy)), (no, .inl (cy 0, 192, .inl gn))] → va_S A s.heap H locs → ∀ (ls : Array Slot), lv_has ls 5 [(4, .int (nI i)), (0, .ref wk), (1, .int a), (2, .int b), (3, .int d)] → W p l e (headSpec (wsO yX9_begin cX9_begin 5 none) ({ frames := 0, cells := 0, slots := 0, locals := 0 })).room s m [.ref wk, .int a, .int b, .int d].toArray below meth c H locs 0 0 (MQ below (va_Qv (fun (_ : Unit) => True) (fun _ _ => True) A) [.ref wk, .int a, .int b, .int d].toArray s 0 0 A) (F0 m 49 ls []) := by
    intro nn
    induction nn with
    | zero => intro i h1 h2; exact absurd h2 (by omega)
    | succ nn ih =>
      intro i hi hin0 gy gn H locs hP hD hS ls hl
      rcases Nat.lt_or_ge i 192 with hlt | hge
      · refine lv_iload hx hb dX9_begin_49 (lv_at hl 0 rfl) ?_
        refine lv_sipush (v := 192) hx hb dX9_begin_51 (by decide) ?_
        refine lv_icmp_ge (tgt := 79) hx hb dX9_begin_54 (by decide) (fun h9 => absurd h9 (nI_ge hlt (by decide))) (fun _ => ?_)
        refine lv_aload_n hx hb dX9_begin_57 rfl (lv_at hl 1 rfl) ?_
        refine va_get (D := G) (ci := 9) (v := .ref ye) (C := RX9) (T := TX9) (N := 11) hx hb hts inB9 hown hE.1 hP 0 rfl rfl 9 (by decide) (hts _ m_282) (fun _ h9 => h9) rfl dX9_begin_58 ?_
        refine lv_iload hx hb dX9_begin_61 (lv_at hl 0 rfl) ?_
        refine lv_iconst (v := 0) hx hb dX9_begin_63 (by decide) ?_
        refine va_iast hx hb hE.1 hP hD hS 1 0 rfl rfl (vp_in_nI hlt (by decide)) dX9_begin_64 (fun H locs hP hD hS => ?_)
        have hP : va_P G classes [(wk, .inr (9, [.int a, .int b, .int d, .int 5, .int 60, .int 0, .int 0, .int 0, .int 0, .ref ye, .ref no])), (ye, .inl (cy 0, 192, .inl (upd gy ((nI i)).toNatClampNeg 0))), (no, .inl (cy 0, 192, .inl gn))] H := hP
        have hD : va_D A [(wk, .inr (9, [.int a, .int b, .int d, .int 5, .int 60, .int 0, .int 0, .int 0, .int 0, .ref ye, .ref no])), (ye, .inl (cy 0, 192, .inl (upd gy ((nI i)).toNatClampNeg 0))), (no, .inl (cy 0, 192, .inl gn))] := hD
        refine lv_aload_n hx hb dX9_begin_65 rfl (lv_at hl 1 rfl) ?_
        refine va_get (D := G) (ci := 9) (v := .ref no) (C := RX9) (T := TX9) (N := 11) hx hb hts inB9 hown hE.1 hP 0 rfl rfl 10 (by decide) (hts _ m_284) (fun _ h9 => h9) rfl dX9_begin_66 ?_
        refine lv_iload hx hb dX9_begin_69 (lv_at hl 0 rfl) ?_
        refine lv_iconst (v := 0) hx hb dX9_begin_71 (by decide) ?_
        refine va_iast hx hb hE.1 hP hD hS 2 0 rfl rfl (vp_in_nI hlt (by decide)) dX9_begin_72 (fun H locs hP hD hS => ?_)
        have hP : va_P G classes [(wk, .inr (9, [.int a, .int b, .int d, .int 5, .int 60, .int 0, .int 0, .int 0, .int 0, .ref ye, .ref no])), (ye, .inl (cy 0, 192, .inl (upd gy ((nI i)).toNatClampNeg 0))), (no, .inl (cy 0, 192, .inl (upd gn ((nI i)).toNatClampNeg 0)))] H := hP
        have hD : va_D A [(wk, .inr (9, [.int a, .int b, .int d, .int 5, .int 60, .int 0, .int 0, .int 0, .int 0, .ref ye, .ref no])), (ye, .inl (cy 0, 192, .inl (upd gy ((nI i)).toNatClampNeg 0))), (no, .inl (cy 0, 192, .inl (upd gn ((nI i)).toNatClampNeg 0)))] := hD
        refine lv_iinc (v := (nI (i + 1))) (lv' := [(4, .int (nI (i + 1))), (0, .ref wk), (1, .int a), (2, .int b), (3, .int d)]) hx hb dX9_begin_73 hl (k := 0) rfl (nI_1 (i)) (by decide) rfl (fun ls hl => ?_)
        refine lv_goto (tgt := 49) hx hb dX9_begin_76 (by decide) ?_
        exact ih (i + 1) hlt (by omega) _ _ _ _ hP hD hS ls (lv_sub hl [0, 1, 2, 3, 4] rfl)
      · have hie : i = 192 := Nat.le_antisymm hi hge
        subst hie
        refine lv_iload hx hb dX9_begin_49 (lv_at hl 0 rfl) ?_
        refine lv_sipush (v := 192) hx hb dX9_begin_51 (by decide) ?_
        refine lv_icmp_ge (tgt := 79) hx hb dX9_begin_54 (by decide) (fun _ => ?_) (fun h9 => absurd (Int32.le_refl _) h9)
        refine W.widen (k := 0) (n := 0) (by first | exact Nat.le_of_ble_eq_true rfl | omega) (by first | exact Nat.le_of_ble_eq_true rfl | omega) ?_
        exact W.vret hx hb hr (fun t ht hW => ⟨⟨(), rfl, trivial, trivial⟩, hS.F ht⟩) hS.2.2 dX9_begin_79
  exact lp (192 + 1) 0 (Nat.zero_le _) (by omega) _ _ _ _ hP hD hS ls (lv_sub hl [0, 1, 2, 3, 4] rfl)
def B_c_X6_init (G : va_G) (cy : Nat → ClassId) (A : Nat → Prop) (h0 : Nat) (H : Heap) : Prop := ∃ (nu : Nat), va_P G classes [(h0, .inr (6, [.int 0, .int 0, .ref nu])), (nu, .inl (cy 0, 24, .inl (fun _ => 0)))] H ∧ va_D A [(h0, .inr (6, [.int 0, .int 0, .ref nu])), (nu, .inl (cy 0, 24, .inl (fun _ => 0)))]
set_option maxHeartbeats 4000000 in
set_option maxRecDepth 100000 in
theorem c_X6_init (l : Launch) (G : va_G) (cy : Nat → ClassId) (sk : Nat → Nat) (sz : Nat) (h0 : Nat)  : Met l yX6_init (wsO yX6_init cX6_init 1 none) ({ frames := 1, cells := 1, slots := 24, locals := 12 }) (va_Pc [.ref h0] (PR G cy sk sz [(h0, .inr (6, [.int 0, .int 0, .null]))])) (va_Qv (fun (_ : Unit) => True) (fun _ t => B_c_X6_init G cy (va_A [(h0, .inr (6, [.int 0, .int 0, .null]))] sz) h0 t.heap) (va_A [(h0, .inr (6, [.int 0, .int 0, .null]))] sz)) 1 24 (va_A [(h0, .inr (6, [.int 0, .int 0, .null]))] sz) := by
  refine mt (by decide) (Nat.le_of_ble_eq_true rfl) ?_
  intro p e s m below meth c ls hx hb hr hml hts hown hlocks hin hsz hP hE hD hl
  subst hsz
  have hl : lv_has ls 1 [(0, .ref h0)] := hl
  have hD := hD.self (sz := s.heap.size)
  generalize hAe : va_A [(h0, .inr (6, [.int 0, .int 0, .null]))] s.heap.size = A at hD ⊢
  have hA : ∀ q : Nat, s.heap.size ≤ q → A q := fun q h => by rw [← hAe]; exact Or.inr h
  have hS : va_S A s.heap s.heap [] := va_S.rf
  refine lv_aload_n hx hb dX6_init_0 rfl (lv_at hl 0 rfl) ?_
  refine W.objInit hx hb hown (hts _ m_444) (hts _ m_107) (hts _ m_108) rfl (by rw [hml]; exact hl.1) rfl dX6_init_1 (Nat.le_of_ble_eq_true rfl) (Nat.le_of_ble_eq_true rfl) ?_
  refine W.eq (g2 := F0 m 4 ls []) rfl ?_
  refine lv_aload_n hx hb dX6_init_4 rfl (lv_at hl 0 rfl) ?_
  refine lv_iconst (v := 0) hx hb dX6_init_5 (by decide) ?_
  refine va_put (D := G) (ci := 6) (v := .int 0) (ty := .int) (C := RX6) (T := TX6) (N := 3) hx hb hts inB6 tyX6 tyX6_ok nmX6 hown hE.1 hP hD hS 0 rfl rfl 0 (by decide) (hts _ m_445) (fun _ h9 => h9) rfl (by decide +kernel) rfl rfl (Nat.le_of_ble_eq_true rfl) dX6_init_6 (fun H locs hP hD hS => ?_)
  have hP : va_P G classes [(h0, .inr (6, [.int 0, .int 0, .null]))] H := hP
  have hD : va_D A [(h0, .inr (6, [.int 0, .int 0, .null]))] := hD
  refine lv_aload_n hx hb dX6_init_9 rfl (lv_at hl 0 rfl) ?_
  refine lv_iconst (v := 0) hx hb dX6_init_10 (by decide) ?_
  refine va_put (D := G) (ci := 6) (v := .int 0) (ty := .int) (C := RX6) (T := TX6) (N := 3) hx hb hts inB6 tyX6 tyX6_ok nmX6 hown hE.1 hP hD hS 0 rfl rfl 1 (by decide) (hts _ m_447) (fun _ h9 => h9) rfl (by decide +kernel) rfl rfl (Nat.le_of_ble_eq_true rfl) dX6_init_11 (fun H locs hP hD hS => ?_)
  have hP : va_P G classes [(h0, .inr (6, [.int 0, .int 0, .null]))] H := hP
  have hD : va_D A [(h0, .inr (6, [.int 0, .int 0, .null]))] := hD
  refine lv_aload_n hx hb dX6_init_14 rfl (lv_at hl 0 rfl) ?_
  refine lv_bipush (v := 24) hx hb dX6_init_15 (by decide) ?_
  refine nwI (n := 24) (N := 24) hx hb hts m_146 hE hP hD hS hA (by decide) (by decide) (Nat.le_of_ble_eq_true rfl) (Nat.le_of_ble_eq_true rfl) (Nat.le_of_ble_eq_true rfl) dX6_init_17 (fun nq1 H hP hD hS => ?_)
  have hP : va_P G classes [(h0, .inr (6, [.int 0, .int 0, .null])), (nq1, .inl (cy 0, 24, .inl (fun _ => 0)))] H := hP
  have hD : va_D A [(h0, .inr (6, [.int 0, .int 0, .null])), (nq1, .inl (cy 0, 24, .inl (fun _ => 0)))] := hD
  refine va_putF (D := G) (ci := 6) (v := .ref nq1) (ty := (.array .int)) (C := RX6) (T := TX6) (N := 3) hx hb hts inB6 tyX6 tyX6_ok nmX6 hown hE.1 hP hD hS 0 rfl rfl 2 (by decide) (hts _ m_450) (fun _ h9 => h9) rfl hin rfl (by decide +kernel) rfl rfl (Nat.le_of_ble_eq_true rfl) dX6_init_19 (fun H locs hP hD hS => ?_)
  have hP : va_P G classes [(h0, .inr (6, [.int 0, .int 0, .ref nq1])), (nq1, .inl (cy 0, 24, .inl (fun _ => 0)))] H := hP
  have hD : va_D A [(h0, .inr (6, [.int 0, .int 0, .ref nq1])), (nq1, .inl (cy 0, 24, .inl (fun _ => 0)))] := hD
  have hP9 := P_cut (wc := [(h0, .inr (6, [.int 0, .int 0, .ref nq1])), (nq1, .inl (cy 0, 24, .inl (fun _ => 0)))]) hP [0, 1] rfl
  have hD9 := hD.sub (ws' := [(h0, .inr (6, [.int 0, .int 0, .ref nq1])), (nq1, .inl (cy 0, 24, .inl (fun _ => 0)))]) [0, 1] (by decide) rfl
  refine W.widen (k := 1) (n := 24) (by first | exact Nat.le_of_ble_eq_true rfl | omega) (by first | exact Nat.le_of_ble_eq_true rfl | omega) ?_
  exact W.vret hx hb hr (fun t ht hW => ⟨⟨(), rfl, trivial, by dsimp only; rw [ht]; exact ⟨nq1, hP9, hD9⟩⟩, hS.F ht⟩) hS.2.2 dX6_init_22
set_option maxHeartbeats 4000000 in
set_option maxRecDepth 100000 in
theorem c_X6_isMissing (l : Launch) (G : va_G) (cy : Nat → ClassId) (sk : Nat → Nat) (sz : Nat) (sh : Nat) (nu : Nat)  : Met l yX6_isMissing (wsO yX6_isMissing cX6_isMissing 1 (some .boolean)) ({ frames := 0, cells := 0, slots := 0, locals := 0 }) (va_Pc [.ref sh] (PR G cy sk sz [(sh, .inr (6, [.int 0, .int 0, .ref nu]))])) (vp_Si (fun r => r = 1)) 0 0 (fun _ => False) := by
  refine mt (by decide) (Nat.le_of_ble_eq_true rfl) ?_
  intro p e s m below meth c ls hx hb hr hml hts hown hlocks hin hsz hP hE hD hl
  subst hsz
  have hl : lv_has ls 1 [(0, .ref sh)] := hl
  refine lv_aload_n hx hb dX6_isMissing_0 rfl (lv_at hl 0 rfl) ?_
  refine va_get (D := G) (ci := 6) (v := .int 0) (C := RX6) (T := TX6) (N := 3) hx hb hts inB6 hown hE.1 hP 0 rfl rfl 0 (by decide) (hts _ m_445) (fun _ h9 => h9) rfl dX6_isMissing_1 ?_
  refine lv_if_ne (tgt := 11) hx hb dX6_isMissing_4 (by decide) (fun h9 => absurd h9 (by decide)) (fun _ => ?_)
  refine lv_iconst (v := 1) hx hb dX6_isMissing_7 (by decide) ?_
  refine lv_goto (tgt := 12) hx hb dX6_isMissing_8 (by decide) ?_
  exact W.zret (v := 1) hx hb hr rfl (fun t ht hW => ⟨1, rfl, rfl, ht⟩) (fun _ h => by cases h) dX6_isMissing_12
set_option maxHeartbeats 4000000 in
set_option maxRecDepth 100000 in
theorem c_X6_drop (l : Launch) (G : va_G) (cy : Nat → ClassId) (sk : Nat → Nat) (sz : Nat) (sh : Nat) (nu : Nat)  : Met l yX6_drop (wsO yX6_drop cX6_drop 1 none) ({ frames := 0, cells := 0, slots := 0, locals := 0 }) (va_Pc [.ref sh] (PR G cy sk sz [(sh, .inr (6, [.int 0, .int 0, .ref nu]))])) (va_Qv (fun (_ : Unit) => True) (fun _ _ => True) (va_A [(sh, .inr (6, [.int 0, .int 0, .ref nu]))] sz)) 0 0 (va_A [(sh, .inr (6, [.int 0, .int 0, .ref nu]))] sz) := by
  refine mt (by decide) (Nat.le_of_ble_eq_true rfl) ?_
  intro p e s m below meth c ls hx hb hr hml hts hown hlocks hin hsz hP hE hD hl
  subst hsz
  have hl : lv_has ls 1 [(0, .ref sh)] := hl
  have hD := hD.self (sz := s.heap.size)
  generalize hAe : va_A [(sh, .inr (6, [.int 0, .int 0, .ref nu]))] s.heap.size = A at hD ⊢
  have hA : ∀ q : Nat, s.heap.size ≤ q → A q := fun q h => by rw [← hAe]; exact Or.inr h
  have hS : va_S A s.heap s.heap [] := va_S.rf
  refine lv_aload_n hx hb dX6_drop_0 rfl (lv_at hl 0 rfl) ?_
  refine lv_iconst (v := 0) hx hb dX6_drop_1 (by decide) ?_
  refine va_put (D := G) (ci := 6) (v := .int 0) (ty := .int) (C := RX6) (T := TX6) (N := 3) hx hb hts inB6 tyX6 tyX6_ok nmX6 hown hE.1 hP hD hS 0 rfl rfl 0 (by decide) (hts _ m_445) (fun _ h9 => h9) rfl (by decide +kernel) rfl rfl (Nat.le_of_ble_eq_true rfl) dX6_drop_2 (fun H locs hP hD hS => ?_)
  have hP : va_P G classes [(sh, .inr (6, [.int 0, .int 0, .ref nu]))] H := hP
  have hD : va_D A [(sh, .inr (6, [.int 0, .int 0, .ref nu]))] := hD
  refine lv_aload_n hx hb dX6_drop_5 rfl (lv_at hl 0 rfl) ?_
  refine lv_iconst (v := 0) hx hb dX6_drop_6 (by decide) ?_
  refine va_put (D := G) (ci := 6) (v := .int 0) (ty := .int) (C := RX6) (T := TX6) (N := 3) hx hb hts inB6 tyX6 tyX6_ok nmX6 hown hE.1 hP hD hS 0 rfl rfl 1 (by decide) (hts _ m_447) (fun _ h9 => h9) rfl (by decide +kernel) rfl rfl (Nat.le_of_ble_eq_true rfl) dX6_drop_7 (fun H locs hP hD hS => ?_)
  have hP : va_P G classes [(sh, .inr (6, [.int 0, .int 0, .ref nu]))] H := hP
  have hD : va_D A [(sh, .inr (6, [.int 0, .int 0, .ref nu]))] := hD
  refine W.widen (k := 0) (n := 0) (by first | exact Nat.le_of_ble_eq_true rfl | omega) (by first | exact Nat.le_of_ble_eq_true rfl | omega) ?_
  exact W.vret hx hb hr (fun t ht hW => ⟨⟨(), rfl, trivial, trivial⟩, hS.F ht⟩) hS.2.2 dX6_drop_10
set_option maxHeartbeats 4000000 in
set_option maxRecDepth 100000 in
theorem c_X6_begin (l : Launch) (G : va_G) (cy : Nat → ClassId) (sk : Nat → Nat) (sz : Nat) (sh : Nat) (nu : Nat) (fu : Nat → Int32) (bi : Int32) (n : Int32)  : Met l yX6_begin (wsO yX6_begin cX6_begin 4 none) ({ frames := 1, cells := 0, slots := 0, locals := 15 }) (va_Pc [.ref sh, .int bi, .int n] (PR G cy sk sz [(sh, .inr (6, [.int 0, .int 0, .ref nu])), (nu, .inl (cy 0, 24, .inl fu))])) (va_Qv (fun (_ : Unit) => True) (fun _ _ => True) (va_A [(sh, .inr (6, [.int 0, .int 0, .ref nu])), (nu, .inl (cy 0, 24, .inl fu))] sz)) 0 0 (va_A [(sh, .inr (6, [.int 0, .int 0, .ref nu])), (nu, .inl (cy 0, 24, .inl fu))] sz) := by
  refine mt (by decide) (Nat.le_of_ble_eq_true rfl) ?_
  intro p e s m below meth c ls hx hb hr hml hts hown hlocks hin hsz hP hE hD hl
  subst hsz
  have hl : lv_has ls 4 [(0, .ref sh), (1, .int bi), (2, .int n)] := hl
  have hD := hD.self (sz := s.heap.size)
  generalize hAe : va_A [(sh, .inr (6, [.int 0, .int 0, .ref nu])), (nu, .inl (cy 0, 24, .inl fu))] s.heap.size = A at hD ⊢
  have hA : ∀ q : Nat, s.heap.size ≤ q → A q := fun q h => by rw [← hAe]; exact Or.inr h
  have hS : va_S A s.heap s.heap [] := va_S.rf
  refine lv_aload_n hx hb dX6_begin_0 rfl (lv_at hl 0 rfl) ?_
  refine lv_iload_n hx hb dX6_begin_1 rfl (lv_at hl 1 rfl) ?_
  refine va_put (D := G) (ci := 6) (v := .int bi) (ty := .int) (C := RX6) (T := TX6) (N := 3) hx hb hts inB6 tyX6 tyX6_ok nmX6 hown hE.1 hP hD hS 0 rfl rfl 0 (by decide) (hts _ m_445) (fun _ h9 => h9) rfl (by decide +kernel) rfl rfl (Nat.le_of_ble_eq_true rfl) dX6_begin_2 (fun H locs hP hD hS => ?_)
  have hP : va_P G classes [(sh, .inr (6, [.int bi, .int 0, .ref nu])), (nu, .inl (cy 0, 24, .inl fu))] H := hP
  have hD : va_D A [(sh, .inr (6, [.int bi, .int 0, .ref nu])), (nu, .inl (cy 0, 24, .inl fu))] := hD
  refine lv_aload_n hx hb dX6_begin_5 rfl (lv_at hl 0 rfl) ?_
  refine lv_iconst (v := 0) hx hb dX6_begin_6 (by decide) ?_
  refine lv_bipush (v := 24) hx hb dX6_begin_7 (by decide) ?_
  refine lv_iload_n hx hb dX6_begin_9 rfl (lv_at hl 2 rfl) ?_
  refine va_mmin hx hb (hml.trans hl.1.symm) hown (hts _ m_1230) (hts _ m_770) (hts _ m_86) (hts _ m_771) (Nat.le_of_ble_eq_true rfl) (Nat.le_of_ble_eq_true rfl) (Nat.le_of_ble_eq_true rfl) (Nat.le_of_ble_eq_true rfl) dX6_begin_10 ?_
  refine tp (v := (if n < 24 then n else 24)) rfl ?_
  refine va_mmax hx hb (hml.trans hl.1.symm) hown (hts _ m_1231) (hts _ m_206) (hts _ m_86) (hts _ m_207) (Nat.le_of_ble_eq_true rfl) (Nat.le_of_ble_eq_true rfl) (Nat.le_of_ble_eq_true rfl) (Nat.le_of_ble_eq_true rfl) dX6_begin_13 ?_
  refine tp (v := (if 0 < (if n < 24 then n else 24) then (if n < 24 then n else 24) else 0)) rfl ?_
  refine va_put (D := G) (ci := 6) (v := .int (if 0 < (if n < 24 then n else 24) then (if n < 24 then n else 24) else 0)) (ty := .int) (C := RX6) (T := TX6) (N := 3) hx hb hts inB6 tyX6 tyX6_ok nmX6 hown hE.1 hP hD hS 0 rfl rfl 1 (by decide) (hts _ m_447) (fun _ h9 => h9) rfl (by decide +kernel) rfl rfl (Nat.le_of_ble_eq_true rfl) dX6_begin_16 (fun H locs hP hD hS => ?_)
  have hP : va_P G classes [(sh, .inr (6, [.int bi, .int (if 0 < (if n < 24 then n else 24) then (if n < 24 then n else 24) else 0), .ref nu])), (nu, .inl (cy 0, 24, .inl fu))] H := hP
  have hD : va_D A [(sh, .inr (6, [.int bi, .int (if 0 < (if n < 24 then n else 24) then (if n < 24 then n else 24) else 0), .ref nu])), (nu, .inl (cy 0, 24, .inl fu))] := hD
  refine lv_iconst (v := 0) hx hb dX6_begin_19 (by decide) ?_
  refine lv_istore_n (lv' := [(3, .int 0), (0, .ref sh), (1, .int bi), (2, .int n)]) hx hb dX6_begin_20 rfl hl (by decide) rfl (fun ls hl => ?_)
  have lp : ∀ (nn i : Nat), i ≤ 24 → 24 + 1 ≤ i + nn → ∀ (gu : Nat → Int32), ∀ (H : Heap) (locs : List Loc), va_P G classes [(sh, .inr (6, [.int bi, .int (if 0 < (if n < 24 then n else 24) then (if n < 24 then n else 24) else 0), .ref nu])), (nu, .inl (cy 0, 24, .inl gu))] H → va_D A [(sh, .inr (6, [.int bi, .int (if 0 < (if n < 24 then n else 24) then (if n < 24 then n else 24) else 0), .ref nu])), (nu, .inl (cy 0, 24, .inl gu))] → va_S A s.heap H locs → ∀ (ls : Array Slot), lv_has ls 4 [(3, .int (nI i)), (0, .ref sh), (1, .int bi), (2, .int n)] → W p l e (headSpec (wsO yX6_begin cX6_begin 4 none) ({ frames := 1, cells := 0, slots := 0, locals := 15 })).room s m [.ref sh, .int bi, .int n].toArray below meth c H locs 0 0 (MQ below (va_Qv (fun (_ : Unit) => True) (fun _ _ => True) A) [.ref sh, .int bi, .int n].toArray s 0 0 A) (F0 m 21 ls []) := by
    intro nn
    induction nn with
    | zero => intro i h1 h2; exact absurd h2 (by omega)
    | succ nn ih =>
      intro i hi hin0 gu H locs hP hD hS ls hl
      rcases Nat.lt_or_ge i 24 with hlt | hge
      · refine lv_iload_n hx hb dX6_begin_21 rfl (lv_at hl 0 rfl) ?_
        refine lv_bipush (v := 24) hx hb dX6_begin_22 (by decide) ?_
        refine lv_icmp_ge (tgt := 40) hx hb dX6_begin_24 (by decide) (fun h9 => absurd h9 (nI_ge hlt (by decide))) (fun _ => ?_)
        refine lv_aload_n hx hb dX6_begin_27 rfl (lv_at hl 1 rfl) ?_
        refine va_get (D := G) (ci := 6) (v := .ref nu) (C := RX6) (T := TX6) (N := 3) hx hb hts inB6 hown hE.1 hP 0 rfl rfl 2 (by decide) (hts _ m_450) (fun _ h9 => h9) rfl dX6_begin_28 ?_
        refine lv_iload_n hx hb dX6_begin_31 rfl (lv_at hl 0 rfl) ?_
        refine lv_iconst (v := 0) hx hb dX6_begin_32 (by decide) ?_
        refine va_iast hx hb hE.1 hP hD hS 1 0 rfl rfl (vp_in_nI hlt (by decide)) dX6_begin_33 (fun H locs hP hD hS => ?_)
        have hP : va_P G classes [(sh, .inr (6, [.int bi, .int (if 0 < (if n < 24 then n else 24) then (if n < 24 then n else 24) else 0), .ref nu])), (nu, .inl (cy 0, 24, .inl (upd gu ((nI i)).toNatClampNeg 0)))] H := hP
        have hD : va_D A [(sh, .inr (6, [.int bi, .int (if 0 < (if n < 24 then n else 24) then (if n < 24 then n else 24) else 0), .ref nu])), (nu, .inl (cy 0, 24, .inl (upd gu ((nI i)).toNatClampNeg 0)))] := hD
        refine lv_iinc (v := (nI (i + 1))) (lv' := [(3, .int (nI (i + 1))), (0, .ref sh), (1, .int bi), (2, .int n)]) hx hb dX6_begin_34 hl (k := 0) rfl (nI_1 (i)) (by decide) rfl (fun ls hl => ?_)
        refine lv_goto (tgt := 21) hx hb dX6_begin_37 (by decide) ?_
        exact ih (i + 1) hlt (by omega) _ _ _ hP hD hS ls (lv_sub hl [0, 1, 2, 3] rfl)
      · have hie : i = 24 := Nat.le_antisymm hi hge
        subst hie
        refine lv_iload_n hx hb dX6_begin_21 rfl (lv_at hl 0 rfl) ?_
        refine lv_bipush (v := 24) hx hb dX6_begin_22 (by decide) ?_
        refine lv_icmp_ge (tgt := 40) hx hb dX6_begin_24 (by decide) (fun _ => ?_) (fun h9 => absurd (Int32.le_refl _) h9)
        refine W.widen (k := 0) (n := 0) (by first | exact Nat.le_of_ble_eq_true rfl | omega) (by first | exact Nat.le_of_ble_eq_true rfl | omega) ?_
        exact W.vret hx hb hr (fun t ht hW => ⟨⟨(), rfl, trivial, trivial⟩, hS.F ht⟩) hS.2.2 dX6_begin_40
  exact lp (24 + 1) 0 (Nat.zero_le _) (by omega) _ _ _ hP hD hS ls (lv_sub hl [0, 1, 2, 3] rfl)
def B_c_X3_init (G : va_G) (cy : Nat → ClassId) (A : Nat → Prop) (h0 : Nat) (H : Heap) : Prop := ∃ (te : Nat) (ne : Nat) (mi : Nat) (tr : Nat) (be : Nat) (rta : Nat) (rba : Nat), va_P G classes [(h0, .inr (3, [.ref te, .ref ne, .ref mi, .int 0, .ref tr, .ref be, .int 0, .int 0, .int 0])), (te, .inl (cy 0, 7, .inl (fun _ => 0))), (ne, .inl (cy 0, 7, .inl (fun _ => 0))), (mi, .inl (cy 0, 7, .inl (fun _ => 0))), (tr, .inr (5, [.ref rta, .int 0])), (rta, .inl (cy 0, 7, .inl (fun _ => 0))), (be, .inr (5, [.ref rba, .int 0])), (rba, .inl (cy 0, 7, .inl (fun _ => 0)))] H ∧ va_D A [(h0, .inr (3, [.ref te, .ref ne, .ref mi, .int 0, .ref tr, .ref be, .int 0, .int 0, .int 0])), (te, .inl (cy 0, 7, .inl (fun _ => 0))), (ne, .inl (cy 0, 7, .inl (fun _ => 0))), (mi, .inl (cy 0, 7, .inl (fun _ => 0))), (tr, .inr (5, [.ref rta, .int 0])), (rta, .inl (cy 0, 7, .inl (fun _ => 0))), (be, .inr (5, [.ref rba, .int 0])), (rba, .inl (cy 0, 7, .inl (fun _ => 0)))]
set_option maxHeartbeats 4000000 in
set_option maxRecDepth 100000 in
theorem c_X3_init (l : Launch) (G : va_G) (cy : Nat → ClassId) (sk : Nat → Nat) (sz : Nat) (h0 : Nat)  : Met l yX3_init (wsO yX3_init cX3_init 1 none) ({ frames := 2, cells := 7, slots := 225, locals := 35 }) (va_Pc [.ref h0] (PR G cy sk sz [(h0, .inr (3, [.null, .null, .null, .int 0, .null, .null, .int 0, .int 0, .int 0]))])) (va_Qv (fun (_ : Unit) => True) (fun _ t => B_c_X3_init G cy (va_A [(h0, .inr (3, [.null, .null, .null, .int 0, .null, .null, .int 0, .int 0, .int 0]))] sz) h0 t.heap) (va_A [(h0, .inr (3, [.null, .null, .null, .int 0, .null, .null, .int 0, .int 0, .int 0]))] sz)) 7 225 (va_A [(h0, .inr (3, [.null, .null, .null, .int 0, .null, .null, .int 0, .int 0, .int 0]))] sz) := by
  refine mt (by decide) (Nat.le_of_ble_eq_true rfl) ?_
  intro p e s m below meth c ls hx hb hr hml hts hown hlocks hin hsz hP hE hD hl
  subst hsz
  have hl : lv_has ls 1 [(0, .ref h0)] := hl
  have hD := hD.self (sz := s.heap.size)
  generalize hAe : va_A [(h0, .inr (3, [.null, .null, .null, .int 0, .null, .null, .int 0, .int 0, .int 0]))] s.heap.size = A at hD ⊢
  have hA : ∀ q : Nat, s.heap.size ≤ q → A q := fun q h => by rw [← hAe]; exact Or.inr h
  have hS : va_S A s.heap s.heap [] := va_S.rf
  refine lv_aload_n hx hb dX3_init_0 rfl (lv_at hl 0 rfl) ?_
  refine W.objInit hx hb hown (hts _ m_198) (hts _ m_107) (hts _ m_108) rfl (by rw [hml]; exact hl.1) rfl dX3_init_1 (Nat.le_of_ble_eq_true rfl) (Nat.le_of_ble_eq_true rfl) ?_
  refine W.eq (g2 := F0 m 4 ls []) rfl ?_
  refine lv_aload_n hx hb dX3_init_4 rfl (lv_at hl 0 rfl) ?_
  refine lv_bipush (v := 7) hx hb dX3_init_5 (by decide) ?_
  refine nwI (n := 7) (N := 7) hx hb hts m_146 hE hP hD hS hA (by decide) (by decide) (Nat.le_of_ble_eq_true rfl) (Nat.le_of_ble_eq_true rfl) (Nat.le_of_ble_eq_true rfl) dX3_init_7 (fun nq1 H hP hD hS => ?_)
  have hP : va_P G classes [(h0, .inr (3, [.null, .null, .null, .int 0, .null, .null, .int 0, .int 0, .int 0])), (nq1, .inl (cy 0, 7, .inl (fun _ => 0)))] H := hP
  have hD : va_D A [(h0, .inr (3, [.null, .null, .null, .int 0, .null, .null, .int 0, .int 0, .int 0])), (nq1, .inl (cy 0, 7, .inl (fun _ => 0)))] := hD
  refine va_putF (D := G) (ci := 3) (v := .ref nq1) (ty := (.array .int)) (C := RX3) (T := TX3) (N := 9) hx hb hts inB3 tyX3 tyX3_ok nmX3 hown hE.1 hP hD hS 0 rfl rfl 0 (by decide) (hts _ m_218) (fun _ h9 => h9) rfl hin rfl (by decide +kernel) rfl rfl (Nat.le_of_ble_eq_true rfl) dX3_init_9 (fun H locs hP hD hS => ?_)
  have hP : va_P G classes [(h0, .inr (3, [.ref nq1, .null, .null, .int 0, .null, .null, .int 0, .int 0, .int 0])), (nq1, .inl (cy 0, 7, .inl (fun _ => 0)))] H := hP
  have hD : va_D A [(h0, .inr (3, [.ref nq1, .null, .null, .int 0, .null, .null, .int 0, .int 0, .int 0])), (nq1, .inl (cy 0, 7, .inl (fun _ => 0)))] := hD
  refine lv_aload_n hx hb dX3_init_12 rfl (lv_at hl 0 rfl) ?_
  refine lv_bipush (v := 7) hx hb dX3_init_13 (by decide) ?_
  refine nwI (n := 7) (N := 7) hx hb hts m_146 hE hP hD hS hA (by decide) (by decide) (Nat.le_of_ble_eq_true rfl) (Nat.le_of_ble_eq_true rfl) (Nat.le_of_ble_eq_true rfl) dX3_init_15 (fun nq2 H hP hD hS => ?_)
  have hP : va_P G classes [(h0, .inr (3, [.ref nq1, .null, .null, .int 0, .null, .null, .int 0, .int 0, .int 0])), (nq1, .inl (cy 0, 7, .inl (fun _ => 0))), (nq2, .inl (cy 0, 7, .inl (fun _ => 0)))] H := hP
  have hD : va_D A [(h0, .inr (3, [.ref nq1, .null, .null, .int 0, .null, .null, .int 0, .int 0, .int 0])), (nq1, .inl (cy 0, 7, .inl (fun _ => 0))), (nq2, .inl (cy 0, 7, .inl (fun _ => 0)))] := hD
  refine va_putF (D := G) (ci := 3) (v := .ref nq2) (ty := (.array .int)) (C := RX3) (T := TX3) (N := 9) hx hb hts inB3 tyX3 tyX3_ok nmX3 hown hE.1 hP hD hS 0 rfl rfl 1 (by decide) (hts _ m_219) (fun _ h9 => h9) rfl hin rfl (by decide +kernel) rfl rfl (Nat.le_of_ble_eq_true rfl) dX3_init_17 (fun H locs hP hD hS => ?_)
  have hP : va_P G classes [(h0, .inr (3, [.ref nq1, .ref nq2, .null, .int 0, .null, .null, .int 0, .int 0, .int 0])), (nq1, .inl (cy 0, 7, .inl (fun _ => 0))), (nq2, .inl (cy 0, 7, .inl (fun _ => 0)))] H := hP
  have hD : va_D A [(h0, .inr (3, [.ref nq1, .ref nq2, .null, .int 0, .null, .null, .int 0, .int 0, .int 0])), (nq1, .inl (cy 0, 7, .inl (fun _ => 0))), (nq2, .inl (cy 0, 7, .inl (fun _ => 0)))] := hD
  refine lv_aload_n hx hb dX3_init_20 rfl (lv_at hl 0 rfl) ?_
  refine lv_bipush (v := 7) hx hb dX3_init_21 (by decide) ?_
  refine nwI (n := 7) (N := 7) hx hb hts m_146 hE hP hD hS hA (by decide) (by decide) (Nat.le_of_ble_eq_true rfl) (Nat.le_of_ble_eq_true rfl) (Nat.le_of_ble_eq_true rfl) dX3_init_23 (fun nq3 H hP hD hS => ?_)
  have hP : va_P G classes [(h0, .inr (3, [.ref nq1, .ref nq2, .null, .int 0, .null, .null, .int 0, .int 0, .int 0])), (nq1, .inl (cy 0, 7, .inl (fun _ => 0))), (nq2, .inl (cy 0, 7, .inl (fun _ => 0))), (nq3, .inl (cy 0, 7, .inl (fun _ => 0)))] H := hP
  have hD : va_D A [(h0, .inr (3, [.ref nq1, .ref nq2, .null, .int 0, .null, .null, .int 0, .int 0, .int 0])), (nq1, .inl (cy 0, 7, .inl (fun _ => 0))), (nq2, .inl (cy 0, 7, .inl (fun _ => 0))), (nq3, .inl (cy 0, 7, .inl (fun _ => 0)))] := hD
  refine va_putF (D := G) (ci := 3) (v := .ref nq3) (ty := (.array .int)) (C := RX3) (T := TX3) (N := 9) hx hb hts inB3 tyX3 tyX3_ok nmX3 hown hE.1 hP hD hS 0 rfl rfl 2 (by decide) (hts _ m_220) (fun _ h9 => h9) rfl hin rfl (by decide +kernel) rfl rfl (Nat.le_of_ble_eq_true rfl) dX3_init_25 (fun H locs hP hD hS => ?_)
  have hP : va_P G classes [(h0, .inr (3, [.ref nq1, .ref nq2, .ref nq3, .int 0, .null, .null, .int 0, .int 0, .int 0])), (nq1, .inl (cy 0, 7, .inl (fun _ => 0))), (nq2, .inl (cy 0, 7, .inl (fun _ => 0))), (nq3, .inl (cy 0, 7, .inl (fun _ => 0)))] H := hP
  have hD : va_D A [(h0, .inr (3, [.ref nq1, .ref nq2, .ref nq3, .int 0, .null, .null, .int 0, .int 0, .int 0])), (nq1, .inl (cy 0, 7, .inl (fun _ => 0))), (nq2, .inl (cy 0, 7, .inl (fun _ => 0))), (nq3, .inl (cy 0, 7, .inl (fun _ => 0)))] := hD
  refine lv_aload_n hx hb dX3_init_28 rfl (lv_at hl 0 rfl) ?_
  refine lv_iconst (v := 0) hx hb dX3_init_29 (by decide) ?_
  refine va_put (D := G) (ci := 3) (v := .int 0) (ty := .int) (C := RX3) (T := TX3) (N := 9) hx hb hts inB3 tyX3 tyX3_ok nmX3 hown hE.1 hP hD hS 0 rfl rfl 3 (by decide) (hts _ m_221) (fun _ h9 => h9) rfl (by decide +kernel) rfl rfl (Nat.le_of_ble_eq_true rfl) dX3_init_30 (fun H locs hP hD hS => ?_)
  have hP : va_P G classes [(h0, .inr (3, [.ref nq1, .ref nq2, .ref nq3, .int 0, .null, .null, .int 0, .int 0, .int 0])), (nq1, .inl (cy 0, 7, .inl (fun _ => 0))), (nq2, .inl (cy 0, 7, .inl (fun _ => 0))), (nq3, .inl (cy 0, 7, .inl (fun _ => 0)))] H := hP
  have hD : va_D A [(h0, .inr (3, [.ref nq1, .ref nq2, .ref nq3, .int 0, .null, .null, .int 0, .int 0, .int 0])), (nq1, .inl (cy 0, 7, .inl (fun _ => 0))), (nq2, .inl (cy 0, 7, .inl (fun _ => 0))), (nq3, .inl (cy 0, 7, .inl (fun _ => 0)))] := hD
  refine lv_aload_n hx hb dX3_init_33 rfl (lv_at hl 0 rfl) ?_
  refine va_new (ci := 5) (fs := [.null, .int 0]) (C := RX5) (T := TX5) (N := 2) hx hb hts inB5 tyX5 tyX5_ok hown (hts _ m_199) (hts _ m_200) (hts _ m_85) hE.1 hP hD hS hA rfl df5 (Nat.le_of_ble_eq_true rfl) (Nat.le_of_ble_eq_true rfl) dX3_init_34 (fun nq4 H hP hD hS => ?_)
  have hP : va_P G classes [(h0, .inr (3, [.ref nq1, .ref nq2, .ref nq3, .int 0, .null, .null, .int 0, .int 0, .int 0])), (nq1, .inl (cy 0, 7, .inl (fun _ => 0))), (nq2, .inl (cy 0, 7, .inl (fun _ => 0))), (nq3, .inl (cy 0, 7, .inl (fun _ => 0))), (nq4, .inr (5, [.null, .int 0]))] H := hP
  have hD : va_D A [(h0, .inr (3, [.ref nq1, .ref nq2, .ref nq3, .int 0, .null, .null, .int 0, .int 0, .int 0])), (nq1, .inl (cy 0, 7, .inl (fun _ => 0))), (nq2, .inl (cy 0, 7, .inl (fun _ => 0))), (nq3, .inl (cy 0, 7, .inl (fun _ => 0))), (nq4, .inr (5, [.null, .int 0]))] := hD
  refine lv_dup hx hb dX3_init_37 rfl ?_
  refine lv_bipush (v := 7) hx hb dX3_init_38 (by decide) ?_
  refine wI (B := (B_c_X5_init G cy (va_A [(nq4, .inr (5, [.null, .int 0]))] H.size) nq4 7 7)) (wr := [(h0, .inr (3, [.ref nq1, .ref nq2, .ref nq3, .int 0, .null, .null, .int 0, .int 0, .int 0])), (nq1, .inl (cy 0, 7, .inl (fun _ => 0))), (nq2, .inl (cy 0, 7, .inl (fun _ => 0))), (nq3, .inl (cy 0, 7, .inl (fun _ => 0)))]) (rest := [.ref nq4, .ref h0]) hx hb hml hown hts hE (c_X5_init l G cy sk H.size nq4 7 7 rfl (by decide)) kI_X5_init m_201 rfl rfl ⟨(Nat.le_of_ble_eq_true rfl), (Nat.le_of_ble_eq_true rfl)⟩ hP hD hS hA [4] [0, 1, 2, 3] rfl rfl rfl rfl (by decide) rfl rfl hl.1 (Nat.le_of_ble_eq_true rfl) dX3_init_40 ⟨(Nat.le_of_ble_eq_true rfl), (Nat.le_of_ble_eq_true rfl)⟩ (fun H locs haf hS => ?_)
  obtain ⟨xq6, hP1, hD1⟩ := haf.1
  obtain ⟨hP, hD⟩ := haf.2.1 _ hP1 hD1
  have hP : va_P G classes [(h0, .inr (3, [.ref nq1, .ref nq2, .ref nq3, .int 0, .null, .null, .int 0, .int 0, .int 0])), (nq1, .inl (cy 0, 7, .inl (fun _ => 0))), (nq2, .inl (cy 0, 7, .inl (fun _ => 0))), (nq3, .inl (cy 0, 7, .inl (fun _ => 0))), (nq4, .inr (5, [.ref xq6, .int 0])), (xq6, .inl (cy 0, 7, .inl (fun _ => 0)))] H := hP
  have hD : va_D A [(h0, .inr (3, [.ref nq1, .ref nq2, .ref nq3, .int 0, .null, .null, .int 0, .int 0, .int 0])), (nq1, .inl (cy 0, 7, .inl (fun _ => 0))), (nq2, .inl (cy 0, 7, .inl (fun _ => 0))), (nq3, .inl (cy 0, 7, .inl (fun _ => 0))), (nq4, .inr (5, [.ref xq6, .int 0])), (xq6, .inl (cy 0, 7, .inl (fun _ => 0)))] := hD
  refine va_putF (D := G) (ci := 3) (v := .ref nq4) (ty := (.object "ClickStreet$Row")) (C := RX3) (T := TX3) (N := 9) hx hb hts inB3 tyX3 tyX3_ok nmX3 hown hE.1 hP hD hS 0 rfl rfl 4 (by decide) (hts _ m_223) (fun _ h9 => h9) rfl hin rfl (by decide +kernel) rfl rfl (Nat.le_of_ble_eq_true rfl) dX3_init_43 (fun H locs hP hD hS => ?_)
  have hP : va_P G classes [(h0, .inr (3, [.ref nq1, .ref nq2, .ref nq3, .int 0, .ref nq4, .null, .int 0, .int 0, .int 0])), (nq1, .inl (cy 0, 7, .inl (fun _ => 0))), (nq2, .inl (cy 0, 7, .inl (fun _ => 0))), (nq3, .inl (cy 0, 7, .inl (fun _ => 0))), (nq4, .inr (5, [.ref xq6, .int 0])), (xq6, .inl (cy 0, 7, .inl (fun _ => 0)))] H := hP
  have hD : va_D A [(h0, .inr (3, [.ref nq1, .ref nq2, .ref nq3, .int 0, .ref nq4, .null, .int 0, .int 0, .int 0])), (nq1, .inl (cy 0, 7, .inl (fun _ => 0))), (nq2, .inl (cy 0, 7, .inl (fun _ => 0))), (nq3, .inl (cy 0, 7, .inl (fun _ => 0))), (nq4, .inr (5, [.ref xq6, .int 0])), (xq6, .inl (cy 0, 7, .inl (fun _ => 0)))] := hD
  refine lv_aload_n hx hb dX3_init_46 rfl (lv_at hl 0 rfl) ?_
  refine va_new (ci := 5) (fs := [.null, .int 0]) (C := RX5) (T := TX5) (N := 2) hx hb hts inB5 tyX5 tyX5_ok hown (hts _ m_199) (hts _ m_200) (hts _ m_85) hE.1 hP hD hS hA rfl df5 (Nat.le_of_ble_eq_true rfl) (Nat.le_of_ble_eq_true rfl) dX3_init_47 (fun nq7 H hP hD hS => ?_)
  have hP : va_P G classes [(h0, .inr (3, [.ref nq1, .ref nq2, .ref nq3, .int 0, .ref nq4, .null, .int 0, .int 0, .int 0])), (nq1, .inl (cy 0, 7, .inl (fun _ => 0))), (nq2, .inl (cy 0, 7, .inl (fun _ => 0))), (nq3, .inl (cy 0, 7, .inl (fun _ => 0))), (nq4, .inr (5, [.ref xq6, .int 0])), (xq6, .inl (cy 0, 7, .inl (fun _ => 0))), (nq7, .inr (5, [.null, .int 0]))] H := hP
  have hD : va_D A [(h0, .inr (3, [.ref nq1, .ref nq2, .ref nq3, .int 0, .ref nq4, .null, .int 0, .int 0, .int 0])), (nq1, .inl (cy 0, 7, .inl (fun _ => 0))), (nq2, .inl (cy 0, 7, .inl (fun _ => 0))), (nq3, .inl (cy 0, 7, .inl (fun _ => 0))), (nq4, .inr (5, [.ref xq6, .int 0])), (xq6, .inl (cy 0, 7, .inl (fun _ => 0))), (nq7, .inr (5, [.null, .int 0]))] := hD
  refine lv_dup hx hb dX3_init_50 rfl ?_
  refine lv_bipush (v := 7) hx hb dX3_init_51 (by decide) ?_
  refine wI (B := (B_c_X5_init G cy (va_A [(nq7, .inr (5, [.null, .int 0]))] H.size) nq7 7 7)) (wr := [(h0, .inr (3, [.ref nq1, .ref nq2, .ref nq3, .int 0, .ref nq4, .null, .int 0, .int 0, .int 0])), (nq1, .inl (cy 0, 7, .inl (fun _ => 0))), (nq2, .inl (cy 0, 7, .inl (fun _ => 0))), (nq3, .inl (cy 0, 7, .inl (fun _ => 0))), (nq4, .inr (5, [.ref xq6, .int 0])), (xq6, .inl (cy 0, 7, .inl (fun _ => 0)))]) (rest := [.ref nq7, .ref h0]) hx hb hml hown hts hE (c_X5_init l G cy sk H.size nq7 7 7 rfl (by decide)) kI_X5_init m_201 rfl rfl ⟨(Nat.le_of_ble_eq_true rfl), (Nat.le_of_ble_eq_true rfl)⟩ hP hD hS hA [6] [0, 1, 2, 3, 4, 5] rfl rfl rfl rfl (by decide) rfl rfl hl.1 (Nat.le_of_ble_eq_true rfl) dX3_init_53 ⟨(Nat.le_of_ble_eq_true rfl), (Nat.le_of_ble_eq_true rfl)⟩ (fun H locs haf hS => ?_)
  obtain ⟨xq9, hP1, hD1⟩ := haf.1
  obtain ⟨hP, hD⟩ := haf.2.1 _ hP1 hD1
  have hP : va_P G classes [(h0, .inr (3, [.ref nq1, .ref nq2, .ref nq3, .int 0, .ref nq4, .null, .int 0, .int 0, .int 0])), (nq1, .inl (cy 0, 7, .inl (fun _ => 0))), (nq2, .inl (cy 0, 7, .inl (fun _ => 0))), (nq3, .inl (cy 0, 7, .inl (fun _ => 0))), (nq4, .inr (5, [.ref xq6, .int 0])), (xq6, .inl (cy 0, 7, .inl (fun _ => 0))), (nq7, .inr (5, [.ref xq9, .int 0])), (xq9, .inl (cy 0, 7, .inl (fun _ => 0)))] H := hP
  have hD : va_D A [(h0, .inr (3, [.ref nq1, .ref nq2, .ref nq3, .int 0, .ref nq4, .null, .int 0, .int 0, .int 0])), (nq1, .inl (cy 0, 7, .inl (fun _ => 0))), (nq2, .inl (cy 0, 7, .inl (fun _ => 0))), (nq3, .inl (cy 0, 7, .inl (fun _ => 0))), (nq4, .inr (5, [.ref xq6, .int 0])), (xq6, .inl (cy 0, 7, .inl (fun _ => 0))), (nq7, .inr (5, [.ref xq9, .int 0])), (xq9, .inl (cy 0, 7, .inl (fun _ => 0)))] := hD
  refine va_putF (D := G) (ci := 3) (v := .ref nq7) (ty := (.object "ClickStreet$Row")) (C := RX3) (T := TX3) (N := 9) hx hb hts inB3 tyX3 tyX3_ok nmX3 hown hE.1 hP hD hS 0 rfl rfl 5 (by decide) (hts _ m_224) (fun _ h9 => h9) rfl hin rfl (by decide +kernel) rfl rfl (Nat.le_of_ble_eq_true rfl) dX3_init_56 (fun H locs hP hD hS => ?_)
  have hP : va_P G classes [(h0, .inr (3, [.ref nq1, .ref nq2, .ref nq3, .int 0, .ref nq4, .ref nq7, .int 0, .int 0, .int 0])), (nq1, .inl (cy 0, 7, .inl (fun _ => 0))), (nq2, .inl (cy 0, 7, .inl (fun _ => 0))), (nq3, .inl (cy 0, 7, .inl (fun _ => 0))), (nq4, .inr (5, [.ref xq6, .int 0])), (xq6, .inl (cy 0, 7, .inl (fun _ => 0))), (nq7, .inr (5, [.ref xq9, .int 0])), (xq9, .inl (cy 0, 7, .inl (fun _ => 0)))] H := hP
  have hD : va_D A [(h0, .inr (3, [.ref nq1, .ref nq2, .ref nq3, .int 0, .ref nq4, .ref nq7, .int 0, .int 0, .int 0])), (nq1, .inl (cy 0, 7, .inl (fun _ => 0))), (nq2, .inl (cy 0, 7, .inl (fun _ => 0))), (nq3, .inl (cy 0, 7, .inl (fun _ => 0))), (nq4, .inr (5, [.ref xq6, .int 0])), (xq6, .inl (cy 0, 7, .inl (fun _ => 0))), (nq7, .inr (5, [.ref xq9, .int 0])), (xq9, .inl (cy 0, 7, .inl (fun _ => 0)))] := hD
  refine lv_aload_n hx hb dX3_init_59 rfl (lv_at hl 0 rfl) ?_
  refine lv_iconst (v := 0) hx hb dX3_init_60 (by decide) ?_
  refine va_put (D := G) (ci := 3) (v := .int 0) (ty := .int) (C := RX3) (T := TX3) (N := 9) hx hb hts inB3 tyX3 tyX3_ok nmX3 hown hE.1 hP hD hS 0 rfl rfl 6 (by decide) (hts _ m_226) (fun _ h9 => h9) rfl (by decide +kernel) rfl rfl (Nat.le_of_ble_eq_true rfl) dX3_init_61 (fun H locs hP hD hS => ?_)
  have hP : va_P G classes [(h0, .inr (3, [.ref nq1, .ref nq2, .ref nq3, .int 0, .ref nq4, .ref nq7, .int 0, .int 0, .int 0])), (nq1, .inl (cy 0, 7, .inl (fun _ => 0))), (nq2, .inl (cy 0, 7, .inl (fun _ => 0))), (nq3, .inl (cy 0, 7, .inl (fun _ => 0))), (nq4, .inr (5, [.ref xq6, .int 0])), (xq6, .inl (cy 0, 7, .inl (fun _ => 0))), (nq7, .inr (5, [.ref xq9, .int 0])), (xq9, .inl (cy 0, 7, .inl (fun _ => 0)))] H := hP
  have hD : va_D A [(h0, .inr (3, [.ref nq1, .ref nq2, .ref nq3, .int 0, .ref nq4, .ref nq7, .int 0, .int 0, .int 0])), (nq1, .inl (cy 0, 7, .inl (fun _ => 0))), (nq2, .inl (cy 0, 7, .inl (fun _ => 0))), (nq3, .inl (cy 0, 7, .inl (fun _ => 0))), (nq4, .inr (5, [.ref xq6, .int 0])), (xq6, .inl (cy 0, 7, .inl (fun _ => 0))), (nq7, .inr (5, [.ref xq9, .int 0])), (xq9, .inl (cy 0, 7, .inl (fun _ => 0)))] := hD
  refine lv_aload_n hx hb dX3_init_64 rfl (lv_at hl 0 rfl) ?_
  refine lv_iconst (v := 0) hx hb dX3_init_65 (by decide) ?_
  refine va_put (D := G) (ci := 3) (v := .int 0) (ty := .int) (C := RX3) (T := TX3) (N := 9) hx hb hts inB3 tyX3 tyX3_ok nmX3 hown hE.1 hP hD hS 0 rfl rfl 7 (by decide) (hts _ m_227) (fun _ h9 => h9) rfl (by decide +kernel) rfl rfl (Nat.le_of_ble_eq_true rfl) dX3_init_66 (fun H locs hP hD hS => ?_)
  have hP : va_P G classes [(h0, .inr (3, [.ref nq1, .ref nq2, .ref nq3, .int 0, .ref nq4, .ref nq7, .int 0, .int 0, .int 0])), (nq1, .inl (cy 0, 7, .inl (fun _ => 0))), (nq2, .inl (cy 0, 7, .inl (fun _ => 0))), (nq3, .inl (cy 0, 7, .inl (fun _ => 0))), (nq4, .inr (5, [.ref xq6, .int 0])), (xq6, .inl (cy 0, 7, .inl (fun _ => 0))), (nq7, .inr (5, [.ref xq9, .int 0])), (xq9, .inl (cy 0, 7, .inl (fun _ => 0)))] H := hP
  have hD : va_D A [(h0, .inr (3, [.ref nq1, .ref nq2, .ref nq3, .int 0, .ref nq4, .ref nq7, .int 0, .int 0, .int 0])), (nq1, .inl (cy 0, 7, .inl (fun _ => 0))), (nq2, .inl (cy 0, 7, .inl (fun _ => 0))), (nq3, .inl (cy 0, 7, .inl (fun _ => 0))), (nq4, .inr (5, [.ref xq6, .int 0])), (xq6, .inl (cy 0, 7, .inl (fun _ => 0))), (nq7, .inr (5, [.ref xq9, .int 0])), (xq9, .inl (cy 0, 7, .inl (fun _ => 0)))] := hD
  refine lv_aload_n hx hb dX3_init_69 rfl (lv_at hl 0 rfl) ?_
  refine lv_iconst (v := 0) hx hb dX3_init_70 (by decide) ?_
  refine va_put (D := G) (ci := 3) (v := .int 0) (ty := .boolean) (C := RX3) (T := TX3) (N := 9) hx hb hts inB3 tyX3 tyX3_ok nmX3 hown hE.1 hP hD hS 0 rfl rfl 8 (by decide) (hts _ m_229) (fun _ h9 => h9) rfl (by decide +kernel) rfl rfl (Nat.le_of_ble_eq_true rfl) dX3_init_71 (fun H locs hP hD hS => ?_)
  have hP : va_P G classes [(h0, .inr (3, [.ref nq1, .ref nq2, .ref nq3, .int 0, .ref nq4, .ref nq7, .int 0, .int 0, .int 0])), (nq1, .inl (cy 0, 7, .inl (fun _ => 0))), (nq2, .inl (cy 0, 7, .inl (fun _ => 0))), (nq3, .inl (cy 0, 7, .inl (fun _ => 0))), (nq4, .inr (5, [.ref xq6, .int 0])), (xq6, .inl (cy 0, 7, .inl (fun _ => 0))), (nq7, .inr (5, [.ref xq9, .int 0])), (xq9, .inl (cy 0, 7, .inl (fun _ => 0)))] H := hP
  have hD : va_D A [(h0, .inr (3, [.ref nq1, .ref nq2, .ref nq3, .int 0, .ref nq4, .ref nq7, .int 0, .int 0, .int 0])), (nq1, .inl (cy 0, 7, .inl (fun _ => 0))), (nq2, .inl (cy 0, 7, .inl (fun _ => 0))), (nq3, .inl (cy 0, 7, .inl (fun _ => 0))), (nq4, .inr (5, [.ref xq6, .int 0])), (xq6, .inl (cy 0, 7, .inl (fun _ => 0))), (nq7, .inr (5, [.ref xq9, .int 0])), (xq9, .inl (cy 0, 7, .inl (fun _ => 0)))] := hD
  have hP9 := P_cut (wc := [(h0, .inr (3, [.ref nq1, .ref nq2, .ref nq3, .int 0, .ref nq4, .ref nq7, .int 0, .int 0, .int 0])), (nq1, .inl (cy 0, 7, .inl (fun _ => 0))), (nq2, .inl (cy 0, 7, .inl (fun _ => 0))), (nq3, .inl (cy 0, 7, .inl (fun _ => 0))), (nq4, .inr (5, [.ref xq6, .int 0])), (xq6, .inl (cy 0, 7, .inl (fun _ => 0))), (nq7, .inr (5, [.ref xq9, .int 0])), (xq9, .inl (cy 0, 7, .inl (fun _ => 0)))]) hP [0, 1, 2, 3, 4, 5, 6, 7] rfl
  have hD9 := hD.sub (ws' := [(h0, .inr (3, [.ref nq1, .ref nq2, .ref nq3, .int 0, .ref nq4, .ref nq7, .int 0, .int 0, .int 0])), (nq1, .inl (cy 0, 7, .inl (fun _ => 0))), (nq2, .inl (cy 0, 7, .inl (fun _ => 0))), (nq3, .inl (cy 0, 7, .inl (fun _ => 0))), (nq4, .inr (5, [.ref xq6, .int 0])), (xq6, .inl (cy 0, 7, .inl (fun _ => 0))), (nq7, .inr (5, [.ref xq9, .int 0])), (xq9, .inl (cy 0, 7, .inl (fun _ => 0)))]) [0, 1, 2, 3, 4, 5, 6, 7] (by decide) rfl
  refine W.widen (k := 7) (n := 225) (by first | exact Nat.le_of_ble_eq_true rfl | omega) (by first | exact Nat.le_of_ble_eq_true rfl | omega) ?_
  exact W.vret hx hb hr (fun t ht hW => ⟨⟨(), rfl, trivial, by dsimp only; rw [ht]; exact ⟨nq1, nq2, nq3, nq4, nq7, xq6, xq9, hP9, hD9⟩⟩, hS.F ht⟩) hS.2.2 dX3_init_74
set_option maxHeartbeats 4000000 in
set_option maxRecDepth 100000 in
theorem c_X3_hasRoom (l : Launch) (G : va_G) (cy : Nat → ClassId) (sk : Nat → Nat) (sz : Nat) (le : Nat) (te : Nat) (ne : Nat) (mi : Nat) (tr : Nat) (be : Nat) (rta : Nat) (rba : Nat)  : Met l yX3_hasRoom (wsO yX3_hasRoom cX3_hasRoom 1 (some .boolean)) ({ frames := 0, cells := 0, slots := 0, locals := 0 }) (va_Pc [.ref le] (PR G cy sk sz [(le, .inr (3, [.ref te, .ref ne, .ref mi, .int 0, .ref tr, .ref be, .int 0, .int 0, .int 0]))])) (vp_Si (fun r => r = 1)) 0 0 (fun _ => False) := by
  refine mt (by decide) (Nat.le_of_ble_eq_true rfl) ?_
  intro p e s m below meth c ls hx hb hr hml hts hown hlocks hin hsz hP hE hD hl
  subst hsz
  have hl : lv_has ls 1 [(0, .ref le)] := hl
  refine lv_aload_n hx hb dX3_hasRoom_0 rfl (lv_at hl 0 rfl) ?_
  refine va_get (D := G) (ci := 3) (v := .int 0) (C := RX3) (T := TX3) (N := 9) hx hb hts inB3 hown hE.1 hP 0 rfl rfl 3 (by decide) (hts _ m_221) (fun _ h9 => h9) rfl dX3_hasRoom_1 ?_
  refine lv_bipush (v := 7) hx hb dX3_hasRoom_4 (by decide) ?_
  refine lv_icmp_ge (tgt := 13) hx hb dX3_hasRoom_6 (by decide) (fun h9 => absurd h9 (by decide)) (fun _ => ?_)
  refine lv_iconst (v := 1) hx hb dX3_hasRoom_9 (by decide) ?_
  refine lv_goto (tgt := 14) hx hb dX3_hasRoom_10 (by decide) ?_
  exact W.zret (v := 1) hx hb hr rfl (fun t ht hW => ⟨1, rfl, rfl, ht⟩) (fun _ h => by cases h) dX3_hasRoom_14
set_option maxHeartbeats 4000000 in
set_option maxRecDepth 100000 in
theorem c_X3_add (l : Launch) (G : va_G) (cy : Nat → ClassId) (sk : Nat → Nat) (sz : Nat) (le : Nat) (te : Nat) (ne : Nat) (mi : Nat) (tr : Nat) (be : Nat) (rta : Nat) (rba : Nat) (fte : Nat → Int32) (fne : Nat → Int32) (fmi : Nat → Int32) (a : Int32) (b : Int32) (d : Int32)  : Met l yX3_add (wsO yX3_add cX3_add 5 (some .int)) ({ frames := 0, cells := 0, slots := 0, locals := 0 }) (va_Pc [.ref le, .int a, .int b, .int d] (PR G cy sk sz [(le, .inr (3, [.ref te, .ref ne, .ref mi, .int 0, .ref tr, .ref be, .int 0, .int 0, .int 0])), (te, .inl (cy 0, 7, .inl fte)), (ne, .inl (cy 0, 7, .inl fne)), (mi, .inl (cy 0, 7, .inl fmi))])) (va_Qi (fun r (_ : Unit) => r = 0) (fun _ _ => True) (va_A [(le, .inr (3, [.ref te, .ref ne, .ref mi, .int 0, .ref tr, .ref be, .int 0, .int 0, .int 0])), (te, .inl (cy 0, 7, .inl fte)), (ne, .inl (cy 0, 7, .inl fne)), (mi, .inl (cy 0, 7, .inl fmi))] sz)) 0 0 (va_A [(le, .inr (3, [.ref te, .ref ne, .ref mi, .int 0, .ref tr, .ref be, .int 0, .int 0, .int 0])), (te, .inl (cy 0, 7, .inl fte)), (ne, .inl (cy 0, 7, .inl fne)), (mi, .inl (cy 0, 7, .inl fmi))] sz) := by
  refine mt (by decide) (Nat.le_of_ble_eq_true rfl) ?_
  intro p e s m below meth c ls hx hb hr hml hts hown hlocks hin hsz hP hE hD hl
  subst hsz
  have hl : lv_has ls 5 [(0, .ref le), (1, .int a), (2, .int b), (3, .int d)] := hl
  have hD := hD.self (sz := s.heap.size)
  generalize hAe : va_A [(le, .inr (3, [.ref te, .ref ne, .ref mi, .int 0, .ref tr, .ref be, .int 0, .int 0, .int 0])), (te, .inl (cy 0, 7, .inl fte)), (ne, .inl (cy 0, 7, .inl fne)), (mi, .inl (cy 0, 7, .inl fmi))] s.heap.size = A at hD ⊢
  have hA : ∀ q : Nat, s.heap.size ≤ q → A q := fun q h => by rw [← hAe]; exact Or.inr h
  have hS : va_S A s.heap s.heap [] := va_S.rf
  refine lv_aload_n hx hb dX3_add_0 rfl (lv_at hl 0 rfl) ?_
  refine va_get (D := G) (ci := 3) (v := .int 0) (C := RX3) (T := TX3) (N := 9) hx hb hts inB3 hown hE.1 hP 0 rfl rfl 3 (by decide) (hts _ m_221) (fun _ h9 => h9) rfl dX3_add_1 ?_
  refine lv_istore (lv' := [(4, .int 0), (0, .ref le), (1, .int a), (2, .int b), (3, .int d)]) hx hb dX3_add_4 hl (by decide) rfl (fun ls hl => ?_)
  refine lv_iload hx hb dX3_add_6 (lv_at hl 0 rfl) ?_
  refine lv_if_lt (tgt := 18) hx hb dX3_add_8 (by decide) (fun h9 => absurd h9 (by decide)) (fun _ => ?_)
  refine lv_iload hx hb dX3_add_11 (lv_at hl 0 rfl) ?_
  refine lv_bipush (v := 7) hx hb dX3_add_13 (by decide) ?_
  refine lv_icmp_lt (tgt := 20) hx hb dX3_add_15 (by decide) (fun _ => ?_) (fun h9 => absurd h9 (by decide))
  refine lv_aload_n hx hb dX3_add_20 rfl (lv_at hl 1 rfl) ?_
  refine va_get (D := G) (ci := 3) (v := .ref te) (C := RX3) (T := TX3) (N := 9) hx hb hts inB3 hown hE.1 hP 0 rfl rfl 0 (by decide) (hts _ m_218) (fun _ h9 => h9) rfl dX3_add_21 ?_
  refine lv_iload hx hb dX3_add_24 (lv_at hl 0 rfl) ?_
  refine lv_iload_n hx hb dX3_add_26 rfl (lv_at hl 2 rfl) ?_
  refine va_iast hx hb hE.1 hP hD hS 1 0 rfl rfl (vinL (by decide)) dX3_add_27 (fun H locs hP hD hS => ?_)
  have hP : va_P G classes [(le, .inr (3, [.ref te, .ref ne, .ref mi, .int 0, .ref tr, .ref be, .int 0, .int 0, .int 0])), (te, .inl (cy 0, 7, .inl (upd fte 0 a))), (ne, .inl (cy 0, 7, .inl fne)), (mi, .inl (cy 0, 7, .inl fmi))] H := hP
  have hD : va_D A [(le, .inr (3, [.ref te, .ref ne, .ref mi, .int 0, .ref tr, .ref be, .int 0, .int 0, .int 0])), (te, .inl (cy 0, 7, .inl (upd fte 0 a))), (ne, .inl (cy 0, 7, .inl fne)), (mi, .inl (cy 0, 7, .inl fmi))] := hD
  refine lv_aload_n hx hb dX3_add_28 rfl (lv_at hl 1 rfl) ?_
  refine va_get (D := G) (ci := 3) (v := .ref ne) (C := RX3) (T := TX3) (N := 9) hx hb hts inB3 hown hE.1 hP 0 rfl rfl 1 (by decide) (hts _ m_219) (fun _ h9 => h9) rfl dX3_add_29 ?_
  refine lv_iload hx hb dX3_add_32 (lv_at hl 0 rfl) ?_
  refine lv_iload_n hx hb dX3_add_34 rfl (lv_at hl 3 rfl) ?_
  refine va_iast hx hb hE.1 hP hD hS 2 0 rfl rfl (vinL (by decide)) dX3_add_35 (fun H locs hP hD hS => ?_)
  have hP : va_P G classes [(le, .inr (3, [.ref te, .ref ne, .ref mi, .int 0, .ref tr, .ref be, .int 0, .int 0, .int 0])), (te, .inl (cy 0, 7, .inl (upd fte 0 a))), (ne, .inl (cy 0, 7, .inl (upd fne 0 b))), (mi, .inl (cy 0, 7, .inl fmi))] H := hP
  have hD : va_D A [(le, .inr (3, [.ref te, .ref ne, .ref mi, .int 0, .ref tr, .ref be, .int 0, .int 0, .int 0])), (te, .inl (cy 0, 7, .inl (upd fte 0 a))), (ne, .inl (cy 0, 7, .inl (upd fne 0 b))), (mi, .inl (cy 0, 7, .inl fmi))] := hD
  refine lv_aload_n hx hb dX3_add_36 rfl (lv_at hl 1 rfl) ?_
  refine va_get (D := G) (ci := 3) (v := .ref mi) (C := RX3) (T := TX3) (N := 9) hx hb hts inB3 hown hE.1 hP 0 rfl rfl 2 (by decide) (hts _ m_220) (fun _ h9 => h9) rfl dX3_add_37 ?_
  refine lv_iload hx hb dX3_add_40 (lv_at hl 0 rfl) ?_
  refine lv_iload_n hx hb dX3_add_42 rfl (lv_at hl 4 rfl) ?_
  refine va_iast hx hb hE.1 hP hD hS 3 0 rfl rfl (vinL (by decide)) dX3_add_43 (fun H locs hP hD hS => ?_)
  have hP : va_P G classes [(le, .inr (3, [.ref te, .ref ne, .ref mi, .int 0, .ref tr, .ref be, .int 0, .int 0, .int 0])), (te, .inl (cy 0, 7, .inl (upd fte 0 a))), (ne, .inl (cy 0, 7, .inl (upd fne 0 b))), (mi, .inl (cy 0, 7, .inl (upd fmi 0 d)))] H := hP
  have hD : va_D A [(le, .inr (3, [.ref te, .ref ne, .ref mi, .int 0, .ref tr, .ref be, .int 0, .int 0, .int 0])), (te, .inl (cy 0, 7, .inl (upd fte 0 a))), (ne, .inl (cy 0, 7, .inl (upd fne 0 b))), (mi, .inl (cy 0, 7, .inl (upd fmi 0 d)))] := hD
  refine lv_aload_n hx hb dX3_add_44 rfl (lv_at hl 1 rfl) ?_
  refine lv_dup hx hb dX3_add_45 rfl ?_
  refine va_get (D := G) (ci := 3) (v := .int 0) (C := RX3) (T := TX3) (N := 9) hx hb hts inB3 hown hE.1 hP 0 rfl rfl 3 (by decide) (hts _ m_221) (fun _ h9 => h9) rfl dX3_add_46 ?_
  refine lv_iconst (v := 1) hx hb dX3_add_49 (by decide) ?_
  refine lv_iadd hx hb dX3_add_50 ?_
  refine tp (v := 1) (by decide) ?_
  refine va_put (D := G) (ci := 3) (v := .int 1) (ty := .int) (C := RX3) (T := TX3) (N := 9) hx hb hts inB3 tyX3 tyX3_ok nmX3 hown hE.1 hP hD hS 0 rfl rfl 3 (by decide) (hts _ m_221) (fun _ h9 => h9) rfl (by decide +kernel) rfl rfl (Nat.le_of_ble_eq_true rfl) dX3_add_51 (fun H locs hP hD hS => ?_)
  have hP : va_P G classes [(le, .inr (3, [.ref te, .ref ne, .ref mi, .int 1, .ref tr, .ref be, .int 0, .int 0, .int 0])), (te, .inl (cy 0, 7, .inl (upd fte 0 a))), (ne, .inl (cy 0, 7, .inl (upd fne 0 b))), (mi, .inl (cy 0, 7, .inl (upd fmi 0 d)))] H := hP
  have hD : va_D A [(le, .inr (3, [.ref te, .ref ne, .ref mi, .int 1, .ref tr, .ref be, .int 0, .int 0, .int 0])), (te, .inl (cy 0, 7, .inl (upd fte 0 a))), (ne, .inl (cy 0, 7, .inl (upd fne 0 b))), (mi, .inl (cy 0, 7, .inl (upd fmi 0 d)))] := hD
  refine lv_iload hx hb dX3_add_54 (lv_at hl 0 rfl) ?_
  refine W.widen (k := 0) (n := 0) (by first | exact Nat.le_of_ble_eq_true rfl | omega) (by first | exact Nat.le_of_ble_eq_true rfl | omega) ?_
  exact W.iret (v := 0) hx hb hr (fun t ht hW => ⟨⟨0, (), rfl, rfl, trivial⟩, hS.F ht⟩) hS.2.2 dX3_add_56
end
section
/-! words of the tables that are used, by their places; decode rows; classes -/
theorem m_1 : Cond.selects yX4_readComparisons.cls yX4_readComparisons yX4_readComparisons ∈ BASE := bmem 1 (by decide +kernel) rfl
theorem m_2 : Cond.selects yX4_readSum.cls yX4_readSum yX4_readSum ∈ BASE := bmem 2 (by decide +kernel) rfl
theorem m_3 : Cond.selects yX4_readTerm.cls yX4_readTerm yX4_readTerm ∈ BASE := bmem 3 (by decide +kernel) rfl
theorem m_4 : Cond.selects yX4_readOne.cls yX4_readOne yX4_readOne ∈ BASE := bmem 4 (by decide +kernel) rfl
theorem m_5 : Cond.selects yX4_next.cls yX4_next yX4_next ∈ BASE := bmem 5 (by decide +kernel) rfl
theorem m_8 : Cond.selects yX4_fail.cls yX4_fail yX4_fail ∈ BASE := bmem 8 (by decide +kernel) rfl
theorem m_10 : Cond.selects yX4_readName.cls yX4_readName yX4_readName ∈ BASE := bmem 10 (by decide +kernel) rfl
theorem m_18 : Cond.selects yX3_tryRows.cls yX3_tryRows yX3_tryRows ∈ BASE := bmem 18 (by decide +kernel) rfl
theorem m_83 : Cond.initialized RX1 ∈ BASE := bmem 83 (by decide +kernel) rfl
theorem m_84 : Cond.initialized RX3 ∈ BASE := bmem 84 (by decide +kernel) rfl
theorem m_88 : Cond.initialized RX4 ∈ BASE := bmem 88 (by decide +kernel) rfl
theorem m_152 : Cond.methodLink RX2 1 Lib.objectInit ∈ BASE := bmem 152 (by decide +kernel) rfl
theorem m_153 : Cond.classLink RX2 28 RX1 ∈ BASE := bmem 153 (by decide +kernel) rfl
theorem m_155 : Cond.instantiable RX1 3 ∈ BASE := bmem 155 (by decide +kernel) rfl
theorem m_157 : Cond.instanceMethod yX1_init ∈ BASE := bmem 157 (by decide +kernel) rfl
theorem m_158 : Cond.code yX1_init cX1_init 1 none ∈ BASE := bmem 158 (by decide +kernel) rfl
theorem m_170 : Cond.fieldLink RX2 7 "ClickStreet$Laws" "noise" "I" ∈ BASE := bmem 170 (by decide +kernel) rfl
theorem m_171 : Cond.fieldLink RX2 13 "ClickStreet$Laws" "mask" "I" ∈ BASE := bmem 171 (by decide +kernel) rfl
theorem m_172 : Cond.fieldLink RX2 16 "ClickStreet$Laws" "snow" "I" ∈ BASE := bmem 172 (by decide +kernel) rfl
theorem m_173 : Cond.fieldLink RX2 21 "ClickStreet$Laws" "loud" "[I" ∈ BASE := bmem 173 (by decide +kernel) rfl
theorem m_174 : Cond.fieldLink RX2 25 "ClickStreet$Laws" "sharp" "[I" ∈ BASE := bmem 174 (by decide +kernel) rfl
theorem m_175 : Cond.fieldLink RX2 30 "ClickStreet$Laws" "texts" "[LClickStreet$Formula;" ∈ BASE := bmem 175 (by decide +kernel) rfl
theorem m_177 : Cond.fieldLink RX2 34 "ClickStreet$Laws" "values" "[I" ∈ BASE := bmem 177 (by decide +kernel) rfl
theorem m_352 : Cond.methodLink RX4 1 Lib.objectInit ∈ BASE := bmem 352 (by decide +kernel) rfl
theorem m_353 : Cond.classLink RX4 7 RX1 ∈ BASE := bmem 353 (by decide +kernel) rfl
theorem m_355 : Cond.classLink RX4 16 RX5 ∈ BASE := bmem 355 (by decide +kernel) rfl
theorem m_356 : Cond.methodLink RX4 18 yX5_init ∈ BASE := bmem 356 (by decide +kernel) rfl
theorem m_358 : Cond.fieldLink RX4 10 "ClickStreet$Reader" "draft" "LClickStreet$Formula;" ∈ BASE := bmem 358 (by decide +kernel) rfl
theorem m_360 : Cond.fieldLink RX4 21 "ClickStreet$Reader" "tape" "LClickStreet$Row;" ∈ BASE := bmem 360 (by decide +kernel) rfl
theorem m_361 : Cond.fieldLink RX4 27 "ClickStreet$Reader" "names" "Ljava/lang/String;" ∈ BASE := bmem 361 (by decide +kernel) rfl
theorem m_362 : Cond.fieldLink RX4 31 "ClickStreet$Reader" "place" "I" ∈ BASE := bmem 362 (by decide +kernel) rfl
theorem m_363 : Cond.fieldLink RX4 35 "ClickStreet$Reader" "fault" "I" ∈ BASE := bmem 363 (by decide +kernel) rfl
theorem m_364 : Cond.fieldLink RX4 38 "ClickStreet$Reader" "open" "I" ∈ BASE := bmem 364 (by decide +kernel) rfl
theorem m_365 : Cond.fieldLink RX4 41 "ClickStreet$Reader" "parts" "I" ∈ BASE := bmem 365 (by decide +kernel) rfl
theorem m_387 : Cond.methodLink RX0 1 Lib.objectInit ∈ BASE := bmem 387 (by decide +kernel) rfl
theorem m_388 : Cond.fieldLink RX0 9 "ClickStreet$Finder" "costs" "[I" ∈ BASE := bmem 388 (by decide +kernel) rfl
theorem m_389 : Cond.fieldLink RX0 15 "ClickStreet$Finder" "isDone" "[Z" ∈ BASE := bmem 389 (by decide +kernel) rfl
theorem m_390 : Cond.fieldLink RX0 19 "ClickStreet$Finder" "learned" "[J" ∈ BASE := bmem 390 (by decide +kernel) rfl
theorem m_391 : Cond.fieldLink RX0 23 "ClickStreet$Finder" "heardPosts" "[I" ∈ BASE := bmem 391 (by decide +kernel) rfl
theorem m_392 : Cond.fieldLink RX0 26 "ClickStreet$Finder" "most" "I" ∈ BASE := bmem 392 (by decide +kernel) rfl
theorem m_394 : Cond.fieldLink RX0 30 "ClickStreet$Finder" "places" "I" ∈ BASE := bmem 394 (by decide +kernel) rfl
theorem m_409 : Cond.arrayClass .boolean ∈ BASE := bmem 409 (by decide +kernel) rfl
theorem m_410 : Cond.arrayClass .long ∈ BASE := bmem 410 (by decide +kernel) rfl
theorem m_416 : Cond.methodLink RX8 1 Lib.objectInit ∈ BASE := bmem 416 (by decide +kernel) rfl
theorem m_417 : Cond.classLink RX8 7 RX5 ∈ BASE := bmem 417 (by decide +kernel) rfl
theorem m_418 : Cond.methodLink RX8 9 yX5_init ∈ BASE := bmem 418 (by decide +kernel) rfl
theorem m_419 : Cond.fieldLink RX8 12 "ClickStreet$Voices" "begun" "LClickStreet$Row;" ∈ BASE := bmem 419 (by decide +kernel) rfl
theorem m_420 : Cond.fieldLink RX8 18 "ClickStreet$Voices" "trace" "LClickStreet$Row;" ∈ BASE := bmem 420 (by decide +kernel) rfl
theorem m_422 : Cond.fieldLink RX8 21 "ClickStreet$Voices" "kind" "I" ∈ BASE := bmem 422 (by decide +kernel) rfl
theorem m_423 : Cond.fieldLink RX8 25 "ClickStreet$Voices" "number" "I" ∈ BASE := bmem 423 (by decide +kernel) rfl
theorem m_424 : Cond.fieldLink RX8 28 "ClickStreet$Voices" "pitch" "I" ∈ BASE := bmem 424 (by decide +kernel) rfl
theorem m_425 : Cond.fieldLink RX8 31 "ClickStreet$Voices" "isParted" "Z" ∈ BASE := bmem 425 (by decide +kernel) rfl
theorem m_670 : Cond.instanceMethod yX5_room ∈ BASE := bmem 670 (by decide +kernel) rfl
theorem m_671 : Cond.selects yX5_room.cls yX5_room yX5_room ∈ BASE := bmem 671 (by decide +kernel) rfl
theorem m_672 : Cond.code yX5_room cX5_room 1 (some .int) ∈ BASE := bmem 672 (by decide +kernel) rfl
theorem m_688 : Cond.methodLink RX4 52 yX1_clear ∈ BASE := bmem 688 (by decide +kernel) rfl
theorem m_689 : Cond.instanceMethod yX1_clear ∈ BASE := bmem 689 (by decide +kernel) rfl
theorem m_690 : Cond.selects yX1_clear.cls yX1_clear yX1_clear ∈ BASE := bmem 690 (by decide +kernel) rfl
theorem m_691 : Cond.code yX1_clear cX1_clear 1 none ∈ BASE := bmem 691 (by decide +kernel) rfl
theorem m_692 : Cond.methodLink RX4 55 yX4_readComparisons ∈ BASE := bmem 692 (by decide +kernel) rfl
theorem m_694 : Cond.instanceMethod yX4_readComparisons ∈ BASE := bmem 694 (by decide +kernel) rfl
theorem m_695 : Cond.code yX4_readComparisons cX4_readComparisons 3 none ∈ BASE := bmem 695 (by decide +kernel) rfl
theorem m_696 : Cond.methodLink RX4 72 yX4_readSum ∈ BASE := bmem 696 (by decide +kernel) rfl
theorem m_698 : Cond.instanceMethod yX4_readSum ∈ BASE := bmem 698 (by decide +kernel) rfl
theorem m_699 : Cond.code yX4_readSum cX4_readSum 3 none ∈ BASE := bmem 699 (by decide +kernel) rfl
theorem m_700 : Cond.methodLink RX4 78 yX4_readTerm ∈ BASE := bmem 700 (by decide +kernel) rfl
theorem m_702 : Cond.instanceMethod yX4_readTerm ∈ BASE := bmem 702 (by decide +kernel) rfl
theorem m_703 : Cond.code yX4_readTerm cX4_readTerm 3 none ∈ BASE := bmem 703 (by decide +kernel) rfl
theorem m_704 : Cond.methodLink RX4 81 yX4_readOne ∈ BASE := bmem 704 (by decide +kernel) rfl
theorem m_706 : Cond.instanceMethod yX4_readOne ∈ BASE := bmem 706 (by decide +kernel) rfl
theorem m_707 : Cond.code yX4_readOne cX4_readOne 2 none ∈ BASE := bmem 707 (by decide +kernel) rfl
theorem m_708 : Cond.methodLink RX4 58 yX4_next ∈ BASE := bmem 708 (by decide +kernel) rfl
theorem m_710 : Cond.instanceMethod yX4_next ∈ BASE := bmem 710 (by decide +kernel) rfl
theorem m_711 : Cond.code yX4_next cX4_next 1 (some .int) ∈ BASE := bmem 711 (by decide +kernel) rfl
theorem m_728 : Cond.methodLink RX4 62 yX4_fail ∈ BASE := bmem 728 (by decide +kernel) rfl
theorem m_730 : Cond.instanceMethod yX4_fail ∈ BASE := bmem 730 (by decide +kernel) rfl
theorem m_731 : Cond.code yX4_fail cX4_fail 1 none ∈ BASE := bmem 731 (by decide +kernel) rfl
theorem m_736 : Cond.methodLink RX4 90 yX4_readName ∈ BASE := bmem 736 (by decide +kernel) rfl
theorem m_738 : Cond.instanceMethod yX4_readName ∈ BASE := bmem 738 (by decide +kernel) rfl
theorem m_739 : Cond.code yX4_readName cX4_readName 3 none ∈ BASE := bmem 739 (by decide +kernel) rfl
theorem m_825 : Cond.instanceMethod yX1_takeFrom ∈ BASE := bmem 825 (by decide +kernel) rfl
theorem m_826 : Cond.selects yX1_takeFrom.cls yX1_takeFrom yX1_takeFrom ∈ BASE := bmem 826 (by decide +kernel) rfl
theorem m_827 : Cond.code yX1_takeFrom cX1_takeFrom 2 none ∈ BASE := bmem 827 (by decide +kernel) rfl
theorem m_832 : Cond.instanceMethod yX5_clear ∈ BASE := bmem 832 (by decide +kernel) rfl
theorem m_833 : Cond.selects yX5_clear.cls yX5_clear yX5_clear ∈ BASE := bmem 833 (by decide +kernel) rfl
theorem m_834 : Cond.code yX5_clear cX5_clear 1 none ∈ BASE := bmem 834 (by decide +kernel) rfl
theorem m_1133 : Cond.methodLink RX3 45 yX5_clear ∈ BASE := bmem 1133 (by decide +kernel) rfl
theorem m_1134 : Cond.methodLink RX3 48 yX3_tryRows ∈ BASE := bmem 1134 (by decide +kernel) rfl
theorem m_1136 : Cond.instanceMethod yX3_tryRows ∈ BASE := bmem 1136 (by decide +kernel) rfl
theorem m_1137 : Cond.code yX3_tryRows cX3_tryRows 5 none ∈ BASE := bmem 1137 (by decide +kernel) rfl
theorem m_1142 : Cond.methodLink RX3 56 yX5_takeFrom ∈ BASE := bmem 1142 (by decide +kernel) rfl
theorem m_1143 : Cond.instanceMethod yX5_takeFrom ∈ BASE := bmem 1143 (by decide +kernel) rfl
theorem m_1144 : Cond.selects yX5_takeFrom.cls yX5_takeFrom yX5_takeFrom ∈ BASE := bmem 1144 (by decide +kernel) rfl
theorem m_1145 : Cond.code yX5_takeFrom cX5_takeFrom 3 none ∈ BASE := bmem 1145 (by decide +kernel) rfl
theorem m_1148 : Cond.methodLink RX3 60 yX5_room ∈ BASE := bmem 1148 (by decide +kernel) rfl
theorem m_1267 : Cond.methodLink RX2 80 arraycopyName ∈ BASE := bmem 1267 (by decide +kernel) rfl
theorem m_1268 : Cond.methodLink RX2 86 yX1_takeFrom ∈ BASE := bmem 1268 (by decide +kernel) rfl
theorem m_1273 : Cond.methodLink RX3 71 arraycopyName ∈ BASE := bmem 1273 (by decide +kernel) rfl
theorem kI_X1_init : KI yX1_init cX1_init 1 0 := ⟨m_157, rfl, m_83, m_158, by decide +kernel, by decide +kernel, by decide +kernel⟩
theorem kV_X1_clear : KV yX1_clear cX1_clear 1 none 0 := ⟨m_689, m_690, m_83, m_691, by decide +kernel, by decide +kernel, by decide +kernel⟩
theorem kV_X1_takeFrom : KV yX1_takeFrom cX1_takeFrom 2 none 1 := ⟨m_825, m_826, m_83, m_827, by decide +kernel, by decide +kernel, by decide +kernel⟩
theorem kV_X3_tryRows : KV yX3_tryRows cX3_tryRows 5 none 3 := ⟨m_1136, m_18, m_84, m_1137, by decide +kernel, by decide +kernel, by decide +kernel⟩
theorem kV_X4_fail : KV yX4_fail cX4_fail 1 none 0 := ⟨m_730, m_8, m_88, m_731, by decide +kernel, by decide +kernel, by decide +kernel⟩
theorem kV_X4_next : KV yX4_next cX4_next 1 (some .int) 0 := ⟨m_710, m_5, m_88, m_711, by decide +kernel, by decide +kernel, by decide +kernel⟩
theorem kV_X4_readComparisons : KV yX4_readComparisons cX4_readComparisons 3 none 0 := ⟨m_694, m_1, m_88, m_695, by decide +kernel, by decide +kernel, by decide +kernel⟩
theorem kV_X4_readName : KV yX4_readName cX4_readName 3 none 1 := ⟨m_738, m_10, m_88, m_739, by decide +kernel, by decide +kernel, by decide +kernel⟩
theorem kV_X4_readOne : KV yX4_readOne cX4_readOne 2 none 0 := ⟨m_706, m_4, m_88, m_707, by decide +kernel, by decide +kernel, by decide +kernel⟩
theorem kV_X4_readSum : KV yX4_readSum cX4_readSum 3 none 0 := ⟨m_698, m_2, m_88, m_699, by decide +kernel, by decide +kernel, by decide +kernel⟩
theorem kV_X4_readTerm : KV yX4_readTerm cX4_readTerm 3 none 0 := ⟨m_702, m_3, m_88, m_703, by decide +kernel, by decide +kernel, by decide +kernel⟩
theorem kV_X5_clear : KV yX5_clear cX5_clear 1 none 0 := ⟨m_832, m_833, m_85, m_834, by decide +kernel, by decide +kernel, by decide +kernel⟩
theorem kV_X5_room : KV yX5_room cX5_room 1 (some .int) 0 := ⟨m_670, m_671, m_85, m_672, by decide +kernel, by decide +kernel, by decide +kernel⟩
theorem kV_X5_takeFrom : KV yX5_takeFrom cX5_takeFrom 3 none 1 := ⟨m_1143, m_1144, m_85, m_1145, by decide +kernel, by decide +kernel, by decide +kernel⟩
theorem inB0 : ∀ w ∈ u_ws RX0 TX0 6, w ∈ BASE := bmems (u_ws RX0 TX0 6) [396, 398, 400, 402, 404, 406] (by decide +kernel) (by decide +kernel)
theorem df0 : ∀ j, j < 6 → defaultValue (tyX0 j) = vp_V [.null, .null, .null, .null, .int 0, .int 0] j := fun j hj => by rcases (show j = 0 ∨ j = 1 ∨ j = 2 ∨ j = 3 ∨ j = 4 ∨ j = 5 by omega) with rfl | rfl | rfl | rfl | rfl | rfl <;> rfl
theorem inB2 : ∀ w ∈ u_ws RX2 TX2 7, w ∈ BASE := bmems (u_ws RX2 TX2 7) [178, 180, 182, 184, 186, 188, 190] (by decide +kernel) (by decide +kernel)
theorem df2 : ∀ j, j < 7 → defaultValue (tyX2 j) = vp_V [.int 0, .int 0, .int 0, .null, .null, .null, .null] j := fun j hj => by rcases (show j = 0 ∨ j = 1 ∨ j = 2 ∨ j = 3 ∨ j = 4 ∨ j = 5 ∨ j = 6 by omega) with rfl | rfl | rfl | rfl | rfl | rfl | rfl <;> rfl
theorem inB4 : ∀ w ∈ u_ws RX4 TX4 7, w ∈ BASE := bmems (u_ws RX4 TX4 7) [366, 368, 370, 372, 374, 376, 378] (by decide +kernel) (by decide +kernel)
theorem df4 : ∀ j, j < 7 → defaultValue (tyX4 j) = vp_V [.null, .null, .null, .int 0, .int 0, .int 0, .int 0] j := fun j hj => by rcases (show j = 0 ∨ j = 1 ∨ j = 2 ∨ j = 3 ∨ j = 4 ∨ j = 5 ∨ j = 6 by omega) with rfl | rfl | rfl | rfl | rfl | rfl | rfl <;> rfl
theorem inB8 : ∀ w ∈ u_ws RX8 TX8 6, w ∈ BASE := bmems (u_ws RX8 TX8 6) [427, 429, 431, 433, 435, 437] (by decide +kernel) (by decide +kernel)
theorem df8 : ∀ j, j < 6 → defaultValue (tyX8 j) = vp_V [.null, .null, .int 0, .int 0, .int 0, .int 0] j := fun j hj => by rcases (show j = 0 ∨ j = 1 ∨ j = 2 ∨ j = 3 ∨ j = 4 ∨ j = 5 by omega) with rfl | rfl | rfl | rfl | rfl | rfl <;> rfl
theorem nf_RX4_65 {G : va_G} {cy : Nat → ClassId} {sk : Nat → Nat} {s : State} {args : Array Value} (h : EN G cy sk s) : (Cond.fieldLinkNest RX4 65 "ClickStreet$Row" "size" "I" "ClickStreet").before args s = true := va_Nw.use rfl (h.2.1 _ (List.mem_of_getElem? (l := NFs) (i := 7) rfl))
/-! decode rows -/
theorem dX0_init_0 : decode cX0_init 0 = .ok (.aload_n 0, 1) := by decide +kernel
theorem dX0_init_1 : decode cX0_init 1 = .ok (.invokespecial 1, 3) := by decide +kernel
theorem dX0_init_4 : decode cX0_init 4 = .ok (.aload_n 0, 1) := by decide +kernel
theorem dX0_init_5 : decode cX0_init 5 = .ok (.sipush 192, 3) := by decide +kernel
theorem dX0_init_8 : decode cX0_init 8 = .ok (.newarray .int, 2) := by decide +kernel
theorem dX0_init_10 : decode cX0_init 10 = .ok (.putfield 9, 3) := by decide +kernel
theorem dX0_init_13 : decode cX0_init 13 = .ok (.aload_n 0, 1) := by decide +kernel
theorem dX0_init_14 : decode cX0_init 14 = .ok (.sipush 192, 3) := by decide +kernel
theorem dX0_init_17 : decode cX0_init 17 = .ok (.newarray .boolean, 2) := by decide +kernel
theorem dX0_init_19 : decode cX0_init 19 = .ok (.putfield 15, 3) := by decide +kernel
theorem dX0_init_22 : decode cX0_init 22 = .ok (.aload_n 0, 1) := by decide +kernel
theorem dX0_init_23 : decode cX0_init 23 = .ok (.bipush 24, 2) := by decide +kernel
theorem dX0_init_25 : decode cX0_init 25 = .ok (.newarray .long, 2) := by decide +kernel
theorem dX0_init_27 : decode cX0_init 27 = .ok (.putfield 19, 3) := by decide +kernel
theorem dX0_init_30 : decode cX0_init 30 = .ok (.aload_n 0, 1) := by decide +kernel
theorem dX0_init_31 : decode cX0_init 31 = .ok (.bipush 8, 2) := by decide +kernel
theorem dX0_init_33 : decode cX0_init 33 = .ok (.newarray .int, 2) := by decide +kernel
theorem dX0_init_35 : decode cX0_init 35 = .ok (.putfield 23, 3) := by decide +kernel
theorem dX0_init_38 : decode cX0_init 38 = .ok (.aload_n 0, 1) := by decide +kernel
theorem dX0_init_39 : decode cX0_init 39 = .ok (.iconst 0, 1) := by decide +kernel
theorem dX0_init_40 : decode cX0_init 40 = .ok (.putfield 26, 3) := by decide +kernel
theorem dX0_init_43 : decode cX0_init 43 = .ok (.aload_n 0, 1) := by decide +kernel
theorem dX0_init_44 : decode cX0_init 44 = .ok (.iconst 0, 1) := by decide +kernel
theorem dX0_init_45 : decode cX0_init 45 = .ok (.putfield 30, 3) := by decide +kernel
theorem dX0_init_48 : decode cX0_init 48 = .ok (.return_, 1) := by decide +kernel
theorem dX2_changeAir_0 : decode cX2_changeAir 0 = .ok (.iload_n 1, 1) := by decide +kernel
theorem dX2_changeAir_1 : decode cX2_changeAir 1 = .ok (.ifCond .ne 10, 3) := by decide +kernel
theorem dX2_changeAir_4 : decode cX2_changeAir 4 = .ok (.aload_n 0, 1) := by decide +kernel
theorem dX2_changeAir_5 : decode cX2_changeAir 5 = .ok (.getfield 7, 3) := by decide +kernel
theorem dX2_changeAir_8 : decode cX2_changeAir 8 = .ok (.goto 19, 3) := by decide +kernel
theorem dX2_changeAir_11 : decode cX2_changeAir 11 = .ok (.iload_n 1, 1) := by decide +kernel
theorem dX2_changeAir_12 : decode cX2_changeAir 12 = .ok (.iconst 1, 1) := by decide +kernel
theorem dX2_changeAir_13 : decode cX2_changeAir 13 = .ok (.if_icmp .ne 10, 3) := by decide +kernel
theorem dX2_changeAir_16 : decode cX2_changeAir 16 = .ok (.aload_n 0, 1) := by decide +kernel
theorem dX2_changeAir_17 : decode cX2_changeAir 17 = .ok (.getfield 13, 3) := by decide +kernel
theorem dX2_changeAir_20 : decode cX2_changeAir 20 = .ok (.goto 7, 3) := by decide +kernel
theorem dX2_changeAir_23 : decode cX2_changeAir 23 = .ok (.aload_n 0, 1) := by decide +kernel
theorem dX2_changeAir_24 : decode cX2_changeAir 24 = .ok (.getfield 16, 3) := by decide +kernel
theorem dX2_changeAir_27 : decode cX2_changeAir 27 = .ok (.istore_n 3, 1) := by decide +kernel
theorem dX2_changeAir_28 : decode cX2_changeAir 28 = .ok (.iload_n 1, 1) := by decide +kernel
theorem dX2_changeAir_29 : decode cX2_changeAir 29 = .ok (.ifCond .ne 11, 3) := by decide +kernel
theorem dX2_changeAir_32 : decode cX2_changeAir 32 = .ok (.aload_n 0, 1) := by decide +kernel
theorem dX2_changeAir_33 : decode cX2_changeAir 33 = .ok (.iload_n 2, 1) := by decide +kernel
theorem dX2_changeAir_34 : decode cX2_changeAir 34 = .ok (.putfield 7, 3) := by decide +kernel
theorem dX2_changeAir_37 : decode cX2_changeAir 37 = .ok (.goto 21, 3) := by decide +kernel
theorem dX2_changeAir_40 : decode cX2_changeAir 40 = .ok (.iload_n 1, 1) := by decide +kernel
theorem dX2_changeAir_41 : decode cX2_changeAir 41 = .ok (.iconst 1, 1) := by decide +kernel
theorem dX2_changeAir_42 : decode cX2_changeAir 42 = .ok (.if_icmp .ne 11, 3) := by decide +kernel
theorem dX2_changeAir_45 : decode cX2_changeAir 45 = .ok (.aload_n 0, 1) := by decide +kernel
theorem dX2_changeAir_46 : decode cX2_changeAir 46 = .ok (.iload_n 2, 1) := by decide +kernel
theorem dX2_changeAir_47 : decode cX2_changeAir 47 = .ok (.putfield 13, 3) := by decide +kernel
theorem dX2_changeAir_50 : decode cX2_changeAir 50 = .ok (.goto 8, 3) := by decide +kernel
theorem dX2_changeAir_53 : decode cX2_changeAir 53 = .ok (.aload_n 0, 1) := by decide +kernel
theorem dX2_changeAir_54 : decode cX2_changeAir 54 = .ok (.iload_n 2, 1) := by decide +kernel
theorem dX2_changeAir_55 : decode cX2_changeAir 55 = .ok (.putfield 16, 3) := by decide +kernel
theorem dX2_changeAir_58 : decode cX2_changeAir 58 = .ok (.iload_n 3, 1) := by decide +kernel
theorem dX2_changeAir_59 : decode cX2_changeAir 59 = .ok (.ireturn, 1) := by decide +kernel
theorem dX2_changeKind_0 : decode cX2_changeKind 0 = .ok (.iload_n 2, 1) := by decide +kernel
theorem dX2_changeKind_1 : decode cX2_changeKind 1 = .ok (.ifCond .ne 10, 3) := by decide +kernel
theorem dX2_changeKind_4 : decode cX2_changeKind 4 = .ok (.aload_n 0, 1) := by decide +kernel
theorem dX2_changeKind_5 : decode cX2_changeKind 5 = .ok (.getfield 21, 3) := by decide +kernel
theorem dX2_changeKind_8 : decode cX2_changeKind 8 = .ok (.goto 7, 3) := by decide +kernel
theorem dX2_changeKind_11 : decode cX2_changeKind 11 = .ok (.aload_n 0, 1) := by decide +kernel
theorem dX2_changeKind_12 : decode cX2_changeKind 12 = .ok (.getfield 25, 3) := by decide +kernel
theorem dX2_changeKind_15 : decode cX2_changeKind 15 = .ok (.astore 4, 2) := by decide +kernel
theorem dX2_changeKind_17 : decode cX2_changeKind 17 = .ok (.iload_n 1, 1) := by decide +kernel
theorem dX2_changeKind_18 : decode cX2_changeKind 18 = .ok (.ifCond .lt 10, 3) := by decide +kernel
theorem dX2_changeKind_21 : decode cX2_changeKind 21 = .ok (.iload_n 1, 1) := by decide +kernel
theorem dX2_changeKind_22 : decode cX2_changeKind 22 = .ok (.aload 4, 2) := by decide +kernel
theorem dX2_changeKind_24 : decode cX2_changeKind 24 = .ok (.arraylength, 1) := by decide +kernel
theorem dX2_changeKind_25 : decode cX2_changeKind 25 = .ok (.if_icmp .lt 5, 3) := by decide +kernel
theorem dX2_changeKind_30 : decode cX2_changeKind 30 = .ok (.aload 4, 2) := by decide +kernel
theorem dX2_changeKind_32 : decode cX2_changeKind 32 = .ok (.iload_n 1, 1) := by decide +kernel
theorem dX2_changeKind_33 : decode cX2_changeKind 33 = .ok (.iaload, 1) := by decide +kernel
theorem dX2_changeKind_34 : decode cX2_changeKind 34 = .ok (.istore 5, 2) := by decide +kernel
theorem dX2_changeKind_36 : decode cX2_changeKind 36 = .ok (.aload 4, 2) := by decide +kernel
theorem dX2_changeKind_38 : decode cX2_changeKind 38 = .ok (.iload_n 1, 1) := by decide +kernel
theorem dX2_changeKind_39 : decode cX2_changeKind 39 = .ok (.iload_n 3, 1) := by decide +kernel
theorem dX2_changeKind_40 : decode cX2_changeKind 40 = .ok (.iastore, 1) := by decide +kernel
theorem dX2_changeKind_41 : decode cX2_changeKind 41 = .ok (.iload 5, 2) := by decide +kernel
theorem dX2_changeKind_43 : decode cX2_changeKind 43 = .ok (.ireturn, 1) := by decide +kernel
theorem dX2_init_0 : decode cX2_init 0 = .ok (.aload_n 0, 1) := by decide +kernel
theorem dX2_init_1 : decode cX2_init 1 = .ok (.invokespecial 1, 3) := by decide +kernel
theorem dX2_init_4 : decode cX2_init 4 = .ok (.aload_n 0, 1) := by decide +kernel
theorem dX2_init_5 : decode cX2_init 5 = .ok (.iconst 5, 1) := by decide +kernel
theorem dX2_init_6 : decode cX2_init 6 = .ok (.putfield 7, 3) := by decide +kernel
theorem dX2_init_9 : decode cX2_init 9 = .ok (.aload_n 0, 1) := by decide +kernel
theorem dX2_init_10 : decode cX2_init 10 = .ok (.bipush 9, 2) := by decide +kernel
theorem dX2_init_12 : decode cX2_init 12 = .ok (.putfield 13, 3) := by decide +kernel
theorem dX2_init_15 : decode cX2_init 15 = .ok (.aload_n 0, 1) := by decide +kernel
theorem dX2_init_16 : decode cX2_init 16 = .ok (.iconst 0, 1) := by decide +kernel
theorem dX2_init_17 : decode cX2_init 17 = .ok (.putfield 16, 3) := by decide +kernel
theorem dX2_init_20 : decode cX2_init 20 = .ok (.aload_n 0, 1) := by decide +kernel
theorem dX2_init_21 : decode cX2_init 21 = .ok (.iconst 5, 1) := by decide +kernel
theorem dX2_init_22 : decode cX2_init 22 = .ok (.newarray .int, 2) := by decide +kernel
theorem dX2_init_24 : decode cX2_init 24 = .ok (.putfield 21, 3) := by decide +kernel
theorem dX2_init_27 : decode cX2_init 27 = .ok (.aload_n 0, 1) := by decide +kernel
theorem dX2_init_28 : decode cX2_init 28 = .ok (.iconst 5, 1) := by decide +kernel
theorem dX2_init_29 : decode cX2_init 29 = .ok (.newarray .int, 2) := by decide +kernel
theorem dX2_init_31 : decode cX2_init 31 = .ok (.putfield 25, 3) := by decide +kernel
theorem dX2_init_34 : decode cX2_init 34 = .ok (.aload_n 0, 1) := by decide +kernel
theorem dX2_init_35 : decode cX2_init 35 = .ok (.iconst 3, 1) := by decide +kernel
theorem dX2_init_36 : decode cX2_init 36 = .ok (.anewarray 28, 3) := by decide +kernel
theorem dX2_init_39 : decode cX2_init 39 = .ok (.putfield 30, 3) := by decide +kernel
theorem dX2_init_42 : decode cX2_init 42 = .ok (.aload_n 0, 1) := by decide +kernel
theorem dX2_init_43 : decode cX2_init 43 = .ok (.iconst 5, 1) := by decide +kernel
theorem dX2_init_44 : decode cX2_init 44 = .ok (.newarray .int, 2) := by decide +kernel
theorem dX2_init_46 : decode cX2_init 46 = .ok (.putfield 34, 3) := by decide +kernel
theorem dX2_init_49 : decode cX2_init 49 = .ok (.iconst 0, 1) := by decide +kernel
theorem dX2_init_50 : decode cX2_init 50 = .ok (.istore_n 1, 1) := by decide +kernel
theorem dX2_init_51 : decode cX2_init 51 = .ok (.iload_n 1, 1) := by decide +kernel
theorem dX2_init_52 : decode cX2_init 52 = .ok (.iconst 5, 1) := by decide +kernel
theorem dX2_init_53 : decode cX2_init 53 = .ok (.if_icmp .ge 17, 3) := by decide +kernel
theorem dX2_init_56 : decode cX2_init 56 = .ok (.aload_n 0, 1) := by decide +kernel
theorem dX2_init_57 : decode cX2_init 57 = .ok (.getfield 21, 3) := by decide +kernel
theorem dX2_init_60 : decode cX2_init 60 = .ok (.iload_n 1, 1) := by decide +kernel
theorem dX2_init_61 : decode cX2_init 61 = .ok (.bipush 50, 2) := by decide +kernel
theorem dX2_init_63 : decode cX2_init 63 = .ok (.iastore, 1) := by decide +kernel
theorem dX2_init_64 : decode cX2_init 64 = .ok (.iinc 1 1, 3) := by decide +kernel
theorem dX2_init_67 : decode cX2_init 67 = .ok (.goto (-16), 3) := by decide +kernel
theorem dX2_init_70 : decode cX2_init 70 = .ok (.iconst 0, 1) := by decide +kernel
theorem dX2_init_71 : decode cX2_init 71 = .ok (.istore_n 1, 1) := by decide +kernel
theorem dX2_init_72 : decode cX2_init 72 = .ok (.iload_n 1, 1) := by decide +kernel
theorem dX2_init_73 : decode cX2_init 73 = .ok (.iconst 3, 1) := by decide +kernel
theorem dX2_init_74 : decode cX2_init 74 = .ok (.if_icmp .ge 22, 3) := by decide +kernel
theorem dX2_init_77 : decode cX2_init 77 = .ok (.aload_n 0, 1) := by decide +kernel
theorem dX2_init_78 : decode cX2_init 78 = .ok (.getfield 30, 3) := by decide +kernel
theorem dX2_init_81 : decode cX2_init 81 = .ok (.iload_n 1, 1) := by decide +kernel
theorem dX2_init_82 : decode cX2_init 82 = .ok (.new 28, 3) := by decide +kernel
theorem dX2_init_85 : decode cX2_init 85 = .ok (.dup, 1) := by decide +kernel
theorem dX2_init_86 : decode cX2_init 86 = .ok (.invokespecial 37, 3) := by decide +kernel
theorem dX2_init_89 : decode cX2_init 89 = .ok (.aastore, 1) := by decide +kernel
theorem dX2_init_90 : decode cX2_init 90 = .ok (.iinc 1 1, 3) := by decide +kernel
theorem dX2_init_93 : decode cX2_init 93 = .ok (.goto (-21), 3) := by decide +kernel
theorem dX2_init_96 : decode cX2_init 96 = .ok (.return_, 1) := by decide +kernel
theorem dX2_takeFrom_0 : decode cX2_takeFrom 0 = .ok (.aload_n 0, 1) := by decide +kernel
theorem dX2_takeFrom_1 : decode cX2_takeFrom 1 = .ok (.aload_n 1, 1) := by decide +kernel
theorem dX2_takeFrom_2 : decode cX2_takeFrom 2 = .ok (.getfield 7, 3) := by decide +kernel
theorem dX2_takeFrom_5 : decode cX2_takeFrom 5 = .ok (.putfield 7, 3) := by decide +kernel
theorem dX2_takeFrom_8 : decode cX2_takeFrom 8 = .ok (.aload_n 0, 1) := by decide +kernel
theorem dX2_takeFrom_9 : decode cX2_takeFrom 9 = .ok (.aload_n 1, 1) := by decide +kernel
theorem dX2_takeFrom_10 : decode cX2_takeFrom 10 = .ok (.getfield 13, 3) := by decide +kernel
theorem dX2_takeFrom_13 : decode cX2_takeFrom 13 = .ok (.putfield 13, 3) := by decide +kernel
theorem dX2_takeFrom_16 : decode cX2_takeFrom 16 = .ok (.aload_n 0, 1) := by decide +kernel
theorem dX2_takeFrom_17 : decode cX2_takeFrom 17 = .ok (.aload_n 1, 1) := by decide +kernel
theorem dX2_takeFrom_18 : decode cX2_takeFrom 18 = .ok (.getfield 16, 3) := by decide +kernel
theorem dX2_takeFrom_21 : decode cX2_takeFrom 21 = .ok (.putfield 16, 3) := by decide +kernel
theorem dX2_takeFrom_24 : decode cX2_takeFrom 24 = .ok (.aload_n 1, 1) := by decide +kernel
theorem dX2_takeFrom_25 : decode cX2_takeFrom 25 = .ok (.getfield 21, 3) := by decide +kernel
theorem dX2_takeFrom_28 : decode cX2_takeFrom 28 = .ok (.iconst 0, 1) := by decide +kernel
theorem dX2_takeFrom_29 : decode cX2_takeFrom 29 = .ok (.aload_n 0, 1) := by decide +kernel
theorem dX2_takeFrom_30 : decode cX2_takeFrom 30 = .ok (.getfield 21, 3) := by decide +kernel
theorem dX2_takeFrom_33 : decode cX2_takeFrom 33 = .ok (.iconst 0, 1) := by decide +kernel
theorem dX2_takeFrom_34 : decode cX2_takeFrom 34 = .ok (.iconst 5, 1) := by decide +kernel
theorem dX2_takeFrom_35 : decode cX2_takeFrom 35 = .ok (.invokestatic 80, 3) := by decide +kernel
theorem dX2_takeFrom_38 : decode cX2_takeFrom 38 = .ok (.aload_n 1, 1) := by decide +kernel
theorem dX2_takeFrom_39 : decode cX2_takeFrom 39 = .ok (.getfield 25, 3) := by decide +kernel
theorem dX2_takeFrom_42 : decode cX2_takeFrom 42 = .ok (.iconst 0, 1) := by decide +kernel
theorem dX2_takeFrom_43 : decode cX2_takeFrom 43 = .ok (.aload_n 0, 1) := by decide +kernel
theorem dX2_takeFrom_44 : decode cX2_takeFrom 44 = .ok (.getfield 25, 3) := by decide +kernel
theorem dX2_takeFrom_47 : decode cX2_takeFrom 47 = .ok (.iconst 0, 1) := by decide +kernel
theorem dX2_takeFrom_48 : decode cX2_takeFrom 48 = .ok (.iconst 5, 1) := by decide +kernel
theorem dX2_takeFrom_49 : decode cX2_takeFrom 49 = .ok (.invokestatic 80, 3) := by decide +kernel
theorem dX2_takeFrom_52 : decode cX2_takeFrom 52 = .ok (.iconst 0, 1) := by decide +kernel
theorem dX2_takeFrom_53 : decode cX2_takeFrom 53 = .ok (.istore_n 2, 1) := by decide +kernel
theorem dX2_takeFrom_54 : decode cX2_takeFrom 54 = .ok (.iload_n 2, 1) := by decide +kernel
theorem dX2_takeFrom_55 : decode cX2_takeFrom 55 = .ok (.iconst 3, 1) := by decide +kernel
theorem dX2_takeFrom_56 : decode cX2_takeFrom 56 = .ok (.if_icmp .ge 24, 3) := by decide +kernel
theorem dX2_takeFrom_59 : decode cX2_takeFrom 59 = .ok (.aload_n 0, 1) := by decide +kernel
theorem dX2_takeFrom_60 : decode cX2_takeFrom 60 = .ok (.getfield 30, 3) := by decide +kernel
theorem dX2_takeFrom_63 : decode cX2_takeFrom 63 = .ok (.iload_n 2, 1) := by decide +kernel
theorem dX2_takeFrom_64 : decode cX2_takeFrom 64 = .ok (.aaload, 1) := by decide +kernel
theorem dX2_takeFrom_65 : decode cX2_takeFrom 65 = .ok (.aload_n 1, 1) := by decide +kernel
theorem dX2_takeFrom_66 : decode cX2_takeFrom 66 = .ok (.getfield 30, 3) := by decide +kernel
theorem dX2_takeFrom_69 : decode cX2_takeFrom 69 = .ok (.iload_n 2, 1) := by decide +kernel
theorem dX2_takeFrom_70 : decode cX2_takeFrom 70 = .ok (.aaload, 1) := by decide +kernel
theorem dX2_takeFrom_71 : decode cX2_takeFrom 71 = .ok (.invokevirtual 86, 3) := by decide +kernel
theorem dX2_takeFrom_74 : decode cX2_takeFrom 74 = .ok (.iinc 2 1, 3) := by decide +kernel
theorem dX2_takeFrom_77 : decode cX2_takeFrom 77 = .ok (.goto (-23), 3) := by decide +kernel
theorem dX2_takeFrom_80 : decode cX2_takeFrom 80 = .ok (.return_, 1) := by decide +kernel
theorem dX3_findRow_0 : decode cX3_findRow 0 = .ok (.aload_n 0, 1) := by decide +kernel
theorem dX3_findRow_1 : decode cX3_findRow 1 = .ok (.iload_n 2, 1) := by decide +kernel
theorem dX3_findRow_2 : decode cX3_findRow 2 = .ok (.putfield 35, 3) := by decide +kernel
theorem dX3_findRow_5 : decode cX3_findRow 5 = .ok (.aload_n 0, 1) := by decide +kernel
theorem dX3_findRow_6 : decode cX3_findRow 6 = .ok (.iconst 0, 1) := by decide +kernel
theorem dX3_findRow_7 : decode cX3_findRow 7 = .ok (.putfield 41, 3) := by decide +kernel
theorem dX3_findRow_10 : decode cX3_findRow 10 = .ok (.aload_n 0, 1) := by decide +kernel
theorem dX3_findRow_11 : decode cX3_findRow 11 = .ok (.iconst 0, 1) := by decide +kernel
theorem dX3_findRow_12 : decode cX3_findRow 12 = .ok (.putfield 38, 3) := by decide +kernel
theorem dX3_findRow_15 : decode cX3_findRow 15 = .ok (.aload_n 0, 1) := by decide +kernel
theorem dX3_findRow_16 : decode cX3_findRow 16 = .ok (.getfield 28, 3) := by decide +kernel
theorem dX3_findRow_19 : decode cX3_findRow 19 = .ok (.invokevirtual 45, 3) := by decide +kernel
theorem dX3_findRow_22 : decode cX3_findRow 22 = .ok (.aload_n 0, 1) := by decide +kernel
theorem dX3_findRow_23 : decode cX3_findRow 23 = .ok (.getfield 32, 3) := by decide +kernel
theorem dX3_findRow_26 : decode cX3_findRow 26 = .ok (.invokevirtual 45, 3) := by decide +kernel
theorem dX3_findRow_29 : decode cX3_findRow 29 = .ok (.aload_n 0, 1) := by decide +kernel
theorem dX3_findRow_30 : decode cX3_findRow 30 = .ok (.iload_n 1, 1) := by decide +kernel
theorem dX3_findRow_31 : decode cX3_findRow 31 = .ok (.iconst 0, 1) := by decide +kernel
theorem dX3_findRow_32 : decode cX3_findRow 32 = .ok (.iconst 0, 1) := by decide +kernel
theorem dX3_findRow_33 : decode cX3_findRow 33 = .ok (.invokevirtual 48, 3) := by decide +kernel
theorem dX3_findRow_36 : decode cX3_findRow 36 = .ok (.aload_n 0, 1) := by decide +kernel
theorem dX3_findRow_37 : decode cX3_findRow 37 = .ok (.getfield 41, 3) := by decide +kernel
theorem dX3_findRow_40 : decode cX3_findRow 40 = .ok (.ireturn, 1) := by decide +kernel
theorem dX3_takeFrom_0 : decode cX3_takeFrom 0 = .ok (.aload_n 1, 1) := by decide +kernel
theorem dX3_takeFrom_1 : decode cX3_takeFrom 1 = .ok (.getfield 9, 3) := by decide +kernel
theorem dX3_takeFrom_4 : decode cX3_takeFrom 4 = .ok (.iconst 0, 1) := by decide +kernel
theorem dX3_takeFrom_5 : decode cX3_takeFrom 5 = .ok (.aload_n 0, 1) := by decide +kernel
theorem dX3_takeFrom_6 : decode cX3_takeFrom 6 = .ok (.getfield 9, 3) := by decide +kernel
theorem dX3_takeFrom_9 : decode cX3_takeFrom 9 = .ok (.iconst 0, 1) := by decide +kernel
theorem dX3_takeFrom_10 : decode cX3_takeFrom 10 = .ok (.bipush 7, 2) := by decide +kernel
theorem dX3_takeFrom_12 : decode cX3_takeFrom 12 = .ok (.invokestatic 71, 3) := by decide +kernel
theorem dX3_takeFrom_15 : decode cX3_takeFrom 15 = .ok (.aload_n 1, 1) := by decide +kernel
theorem dX3_takeFrom_16 : decode cX3_takeFrom 16 = .ok (.getfield 13, 3) := by decide +kernel
theorem dX3_takeFrom_19 : decode cX3_takeFrom 19 = .ok (.iconst 0, 1) := by decide +kernel
theorem dX3_takeFrom_20 : decode cX3_takeFrom 20 = .ok (.aload_n 0, 1) := by decide +kernel
theorem dX3_takeFrom_21 : decode cX3_takeFrom 21 = .ok (.getfield 13, 3) := by decide +kernel
theorem dX3_takeFrom_24 : decode cX3_takeFrom 24 = .ok (.iconst 0, 1) := by decide +kernel
theorem dX3_takeFrom_25 : decode cX3_takeFrom 25 = .ok (.bipush 7, 2) := by decide +kernel
theorem dX3_takeFrom_27 : decode cX3_takeFrom 27 = .ok (.invokestatic 71, 3) := by decide +kernel
theorem dX3_takeFrom_30 : decode cX3_takeFrom 30 = .ok (.aload_n 1, 1) := by decide +kernel
theorem dX3_takeFrom_31 : decode cX3_takeFrom 31 = .ok (.getfield 16, 3) := by decide +kernel
theorem dX3_takeFrom_34 : decode cX3_takeFrom 34 = .ok (.iconst 0, 1) := by decide +kernel
theorem dX3_takeFrom_35 : decode cX3_takeFrom 35 = .ok (.aload_n 0, 1) := by decide +kernel
theorem dX3_takeFrom_36 : decode cX3_takeFrom 36 = .ok (.getfield 16, 3) := by decide +kernel
theorem dX3_takeFrom_39 : decode cX3_takeFrom 39 = .ok (.iconst 0, 1) := by decide +kernel
theorem dX3_takeFrom_40 : decode cX3_takeFrom 40 = .ok (.bipush 7, 2) := by decide +kernel
theorem dX3_takeFrom_42 : decode cX3_takeFrom 42 = .ok (.invokestatic 71, 3) := by decide +kernel
theorem dX3_takeFrom_45 : decode cX3_takeFrom 45 = .ok (.aload_n 0, 1) := by decide +kernel
theorem dX3_takeFrom_46 : decode cX3_takeFrom 46 = .ok (.aload_n 1, 1) := by decide +kernel
theorem dX3_takeFrom_47 : decode cX3_takeFrom 47 = .ok (.getfield 19, 3) := by decide +kernel
theorem dX3_takeFrom_50 : decode cX3_takeFrom 50 = .ok (.putfield 19, 3) := by decide +kernel
theorem dX3_takeFrom_53 : decode cX3_takeFrom 53 = .ok (.return_, 1) := by decide +kernel
theorem dX3_tryRows_0 : decode cX3_tryRows 0 = .ok (.aload_n 0, 1) := by decide +kernel
theorem dX3_tryRows_1 : decode cX3_tryRows 1 = .ok (.getfield 35, 3) := by decide +kernel
theorem dX3_tryRows_4 : decode cX3_tryRows 4 = .ok (.iload_n 1, 1) := by decide +kernel
theorem dX3_tryRows_5 : decode cX3_tryRows 5 = .ok (.iconst (-1), 1) := by decide +kernel
theorem dX3_tryRows_6 : decode cX3_tryRows 6 = .ok (.ixor, 1) := by decide +kernel
theorem dX3_tryRows_7 : decode cX3_tryRows 7 = .ok (.iand, 1) := by decide +kernel
theorem dX3_tryRows_8 : decode cX3_tryRows 8 = .ok (.ifCond .ne 40, 3) := by decide +kernel
theorem dX3_tryRows_11 : decode cX3_tryRows 11 = .ok (.aload_n 0, 1) := by decide +kernel
theorem dX3_tryRows_12 : decode cX3_tryRows 12 = .ok (.getfield 41, 3) := by decide +kernel
theorem dX3_tryRows_15 : decode cX3_tryRows 15 = .ok (.ifCond .eq 11, 3) := by decide +kernel
theorem dX3_tryRows_26 : decode cX3_tryRows 26 = .ok (.aload_n 0, 1) := by decide +kernel
theorem dX3_tryRows_27 : decode cX3_tryRows 27 = .ok (.iconst 1, 1) := by decide +kernel
theorem dX3_tryRows_28 : decode cX3_tryRows 28 = .ok (.putfield 41, 3) := by decide +kernel
theorem dX3_tryRows_31 : decode cX3_tryRows 31 = .ok (.aload_n 0, 1) := by decide +kernel
theorem dX3_tryRows_32 : decode cX3_tryRows 32 = .ok (.iload_n 3, 1) := by decide +kernel
theorem dX3_tryRows_33 : decode cX3_tryRows 33 = .ok (.putfield 38, 3) := by decide +kernel
theorem dX3_tryRows_36 : decode cX3_tryRows 36 = .ok (.aload_n 0, 1) := by decide +kernel
theorem dX3_tryRows_37 : decode cX3_tryRows 37 = .ok (.getfield 32, 3) := by decide +kernel
theorem dX3_tryRows_40 : decode cX3_tryRows 40 = .ok (.aload_n 0, 1) := by decide +kernel
theorem dX3_tryRows_41 : decode cX3_tryRows 41 = .ok (.getfield 28, 3) := by decide +kernel
theorem dX3_tryRows_44 : decode cX3_tryRows 44 = .ok (.invokevirtual 56, 3) := by decide +kernel
theorem dX3_tryRows_47 : decode cX3_tryRows 47 = .ok (.return_, 1) := by decide +kernel
theorem dX3_tryRows_48 : decode cX3_tryRows 48 = .ok (.aload_n 0, 1) := by decide +kernel
theorem dX3_tryRows_49 : decode cX3_tryRows 49 = .ok (.getfield 28, 3) := by decide +kernel
theorem dX3_tryRows_52 : decode cX3_tryRows 52 = .ok (.invokevirtual 60, 3) := by decide +kernel
theorem dX3_tryRows_55 : decode cX3_tryRows 55 = .ok (.ifCond .eq 18, 3) := by decide +kernel
theorem dX3_tryRows_58 : decode cX3_tryRows 58 = .ok (.aload_n 0, 1) := by decide +kernel
theorem dX3_tryRows_59 : decode cX3_tryRows 59 = .ok (.getfield 41, 3) := by decide +kernel
theorem dX3_tryRows_62 : decode cX3_tryRows 62 = .ok (.ifCond .eq 12, 3) := by decide +kernel
theorem dX3_tryRows_74 : decode cX3_tryRows 74 = .ok (.iconst 0, 1) := by decide +kernel
theorem dX3_tryRows_75 : decode cX3_tryRows 75 = .ok (.istore 4, 2) := by decide +kernel
theorem dX3_tryRows_77 : decode cX3_tryRows 77 = .ok (.iload 4, 2) := by decide +kernel
theorem dX3_tryRows_79 : decode cX3_tryRows 79 = .ok (.aload_n 0, 1) := by decide +kernel
theorem dX3_tryRows_80 : decode cX3_tryRows 80 = .ok (.getfield 19, 3) := by decide +kernel
theorem dX3_tryRows_83 : decode cX3_tryRows 83 = .ok (.if_icmp .ge 83, 3) := by decide +kernel
theorem dX3_tryRows_166 : decode cX3_tryRows 166 = .ok (.return_, 1) := by decide +kernel
theorem dX4_fail_0 : decode cX4_fail 0 = .ok (.aload_n 0, 1) := by decide +kernel
theorem dX4_fail_1 : decode cX4_fail 1 = .ok (.getfield 35, 3) := by decide +kernel
theorem dX4_fail_4 : decode cX4_fail 4 = .ok (.ifCond .ge 11, 3) := by decide +kernel
theorem dX4_fail_7 : decode cX4_fail 7 = .ok (.aload_n 0, 1) := by decide +kernel
theorem dX4_fail_8 : decode cX4_fail 8 = .ok (.aload_n 0, 1) := by decide +kernel
theorem dX4_fail_9 : decode cX4_fail 9 = .ok (.getfield 31, 3) := by decide +kernel
theorem dX4_fail_12 : decode cX4_fail 12 = .ok (.putfield 35, 3) := by decide +kernel
theorem dX4_fail_15 : decode cX4_fail 15 = .ok (.return_, 1) := by decide +kernel
theorem dX4_init_0 : decode cX4_init 0 = .ok (.aload_n 0, 1) := by decide +kernel
theorem dX4_init_1 : decode cX4_init 1 = .ok (.invokespecial 1, 3) := by decide +kernel
theorem dX4_init_4 : decode cX4_init 4 = .ok (.aload_n 0, 1) := by decide +kernel
theorem dX4_init_5 : decode cX4_init 5 = .ok (.new 7, 3) := by decide +kernel
theorem dX4_init_8 : decode cX4_init 8 = .ok (.dup, 1) := by decide +kernel
theorem dX4_init_9 : decode cX4_init 9 = .ok (.invokespecial 9, 3) := by decide +kernel
theorem dX4_init_12 : decode cX4_init 12 = .ok (.putfield 10, 3) := by decide +kernel
theorem dX4_init_15 : decode cX4_init 15 = .ok (.aload_n 0, 1) := by decide +kernel
theorem dX4_init_16 : decode cX4_init 16 = .ok (.new 16, 3) := by decide +kernel
theorem dX4_init_19 : decode cX4_init 19 = .ok (.dup, 1) := by decide +kernel
theorem dX4_init_20 : decode cX4_init 20 = .ok (.iconst 0, 1) := by decide +kernel
theorem dX4_init_21 : decode cX4_init 21 = .ok (.invokespecial 18, 3) := by decide +kernel
theorem dX4_init_24 : decode cX4_init 24 = .ok (.putfield 21, 3) := by decide +kernel
theorem dX4_init_27 : decode cX4_init 27 = .ok (.aload_n 0, 1) := by decide +kernel
theorem dX4_init_28 : decode cX4_init 28 = .ok (.ldc 25, 2) := by decide +kernel
theorem dX4_init_30 : decode cX4_init 30 = .ok (.putfield 27, 3) := by decide +kernel
theorem dX4_init_33 : decode cX4_init 33 = .ok (.aload_n 0, 1) := by decide +kernel
theorem dX4_init_34 : decode cX4_init 34 = .ok (.iconst 0, 1) := by decide +kernel
theorem dX4_init_35 : decode cX4_init 35 = .ok (.putfield 31, 3) := by decide +kernel
theorem dX4_init_38 : decode cX4_init 38 = .ok (.aload_n 0, 1) := by decide +kernel
theorem dX4_init_39 : decode cX4_init 39 = .ok (.iconst (-1), 1) := by decide +kernel
theorem dX4_init_40 : decode cX4_init 40 = .ok (.putfield 35, 3) := by decide +kernel
theorem dX4_init_43 : decode cX4_init 43 = .ok (.aload_n 0, 1) := by decide +kernel
theorem dX4_init_44 : decode cX4_init 44 = .ok (.iconst 0, 1) := by decide +kernel
theorem dX4_init_45 : decode cX4_init 45 = .ok (.putfield 38, 3) := by decide +kernel
theorem dX4_init_48 : decode cX4_init 48 = .ok (.aload_n 0, 1) := by decide +kernel
theorem dX4_init_49 : decode cX4_init 49 = .ok (.iconst 0, 1) := by decide +kernel
theorem dX4_init_50 : decode cX4_init 50 = .ok (.putfield 41, 3) := by decide +kernel
theorem dX4_init_53 : decode cX4_init 53 = .ok (.return_, 1) := by decide +kernel
theorem dX4_next_0 : decode cX4_next 0 = .ok (.aload_n 0, 1) := by decide +kernel
theorem dX4_next_1 : decode cX4_next 1 = .ok (.getfield 31, 3) := by decide +kernel
theorem dX4_next_4 : decode cX4_next 4 = .ok (.aload_n 0, 1) := by decide +kernel
theorem dX4_next_5 : decode cX4_next 5 = .ok (.getfield 21, 3) := by decide +kernel
theorem dX4_next_8 : decode cX4_next 8 = .ok (.getfield 65, 3) := by decide +kernel
theorem dX4_next_11 : decode cX4_next 11 = .ok (.if_icmp .ge 32, 3) := by decide +kernel
theorem dX4_next_43 : decode cX4_next 43 = .ok (.aload_n 0, 1) := by decide +kernel
theorem dX4_next_44 : decode cX4_next 44 = .ok (.getfield 31, 3) := by decide +kernel
theorem dX4_next_47 : decode cX4_next 47 = .ok (.aload_n 0, 1) := by decide +kernel
theorem dX4_next_48 : decode cX4_next 48 = .ok (.getfield 21, 3) := by decide +kernel
theorem dX4_next_51 : decode cX4_next 51 = .ok (.getfield 65, 3) := by decide +kernel
theorem dX4_next_54 : decode cX4_next 54 = .ok (.if_icmp .ge 17, 3) := by decide +kernel
theorem dX4_next_71 : decode cX4_next 71 = .ok (.iconst (-1), 1) := by decide +kernel
theorem dX4_next_72 : decode cX4_next 72 = .ok (.ireturn, 1) := by decide +kernel
theorem dX4_read_0 : decode cX4_read 0 = .ok (.aload_n 0, 1) := by decide +kernel
theorem dX4_read_1 : decode cX4_read 1 = .ok (.aload_n 1, 1) := by decide +kernel
theorem dX4_read_2 : decode cX4_read 2 = .ok (.putfield 21, 3) := by decide +kernel
theorem dX4_read_5 : decode cX4_read 5 = .ok (.aload_n 0, 1) := by decide +kernel
theorem dX4_read_6 : decode cX4_read 6 = .ok (.iload_n 2, 1) := by decide +kernel
theorem dX4_read_7 : decode cX4_read 7 = .ok (.ifCond .ne 8, 3) := by decide +kernel
theorem dX4_read_10 : decode cX4_read 10 = .ok (.ldc 44, 2) := by decide +kernel
theorem dX4_read_12 : decode cX4_read 12 = .ok (.goto 15, 3) := by decide +kernel
theorem dX4_read_15 : decode cX4_read 15 = .ok (.iload_n 2, 1) := by decide +kernel
theorem dX4_read_16 : decode cX4_read 16 = .ok (.iconst 1, 1) := by decide +kernel
theorem dX4_read_17 : decode cX4_read 17 = .ok (.if_icmp .ne 8, 3) := by decide +kernel
theorem dX4_read_20 : decode cX4_read 20 = .ok (.ldc 48, 2) := by decide +kernel
theorem dX4_read_22 : decode cX4_read 22 = .ok (.goto 5, 3) := by decide +kernel
theorem dX4_read_25 : decode cX4_read 25 = .ok (.ldc 50, 2) := by decide +kernel
theorem dX4_read_27 : decode cX4_read 27 = .ok (.putfield 27, 3) := by decide +kernel
theorem dX4_read_30 : decode cX4_read 30 = .ok (.aload_n 0, 1) := by decide +kernel
theorem dX4_read_31 : decode cX4_read 31 = .ok (.iconst 0, 1) := by decide +kernel
theorem dX4_read_32 : decode cX4_read 32 = .ok (.putfield 31, 3) := by decide +kernel
theorem dX4_read_35 : decode cX4_read 35 = .ok (.aload_n 0, 1) := by decide +kernel
theorem dX4_read_36 : decode cX4_read 36 = .ok (.iconst (-1), 1) := by decide +kernel
theorem dX4_read_37 : decode cX4_read 37 = .ok (.putfield 35, 3) := by decide +kernel
theorem dX4_read_40 : decode cX4_read 40 = .ok (.aload_n 0, 1) := by decide +kernel
theorem dX4_read_41 : decode cX4_read 41 = .ok (.iconst 0, 1) := by decide +kernel
theorem dX4_read_42 : decode cX4_read 42 = .ok (.putfield 38, 3) := by decide +kernel
theorem dX4_read_45 : decode cX4_read 45 = .ok (.aload_n 0, 1) := by decide +kernel
theorem dX4_read_46 : decode cX4_read 46 = .ok (.iconst 0, 1) := by decide +kernel
theorem dX4_read_47 : decode cX4_read 47 = .ok (.putfield 41, 3) := by decide +kernel
theorem dX4_read_50 : decode cX4_read 50 = .ok (.aload_n 0, 1) := by decide +kernel
theorem dX4_read_51 : decode cX4_read 51 = .ok (.getfield 10, 3) := by decide +kernel
theorem dX4_read_54 : decode cX4_read 54 = .ok (.invokevirtual 52, 3) := by decide +kernel
theorem dX4_read_57 : decode cX4_read 57 = .ok (.aload_n 0, 1) := by decide +kernel
theorem dX4_read_58 : decode cX4_read 58 = .ok (.invokevirtual 55, 3) := by decide +kernel
theorem dX4_read_61 : decode cX4_read 61 = .ok (.aload_n 0, 1) := by decide +kernel
theorem dX4_read_62 : decode cX4_read 62 = .ok (.invokevirtual 58, 3) := by decide +kernel
theorem dX4_read_65 : decode cX4_read 65 = .ok (.ifCond .lt 7, 3) := by decide +kernel
theorem dX4_read_72 : decode cX4_read 72 = .ok (.aload_n 0, 1) := by decide +kernel
theorem dX4_read_73 : decode cX4_read 73 = .ok (.getfield 35, 3) := by decide +kernel
theorem dX4_read_76 : decode cX4_read 76 = .ok (.ifCond .ge 10, 3) := by decide +kernel
theorem dX4_read_86 : decode cX4_read 86 = .ok (.bipush (-10), 2) := by decide +kernel
theorem dX4_read_88 : decode cX4_read 88 = .ok (.aload_n 0, 1) := by decide +kernel
theorem dX4_read_89 : decode cX4_read 89 = .ok (.getfield 35, 3) := by decide +kernel
theorem dX4_read_92 : decode cX4_read 92 = .ok (.isub, 1) := by decide +kernel
theorem dX4_read_93 : decode cX4_read 93 = .ok (.ireturn, 1) := by decide +kernel
theorem dX4_readComparisons_0 : decode cX4_readComparisons 0 = .ok (.aload_n 0, 1) := by decide +kernel
theorem dX4_readComparisons_1 : decode cX4_readComparisons 1 = .ok (.invokevirtual 72, 3) := by decide +kernel
theorem dX4_readComparisons_4 : decode cX4_readComparisons 4 = .ok (.iconst 0, 1) := by decide +kernel
theorem dX4_readComparisons_5 : decode cX4_readComparisons 5 = .ok (.istore_n 1, 1) := by decide +kernel
theorem dX4_readComparisons_6 : decode cX4_readComparisons 6 = .ok (.iload_n 1, 1) := by decide +kernel
theorem dX4_readComparisons_7 : decode cX4_readComparisons 7 = .ok (.bipush 48, 2) := by decide +kernel
theorem dX4_readComparisons_9 : decode cX4_readComparisons 9 = .ok (.if_icmp .ge 66, 3) := by decide +kernel
theorem dX4_readComparisons_12 : decode cX4_readComparisons 12 = .ok (.aload_n 0, 1) := by decide +kernel
theorem dX4_readComparisons_13 : decode cX4_readComparisons 13 = .ok (.getfield 35, 3) := by decide +kernel
theorem dX4_readComparisons_16 : decode cX4_readComparisons 16 = .ok (.ifCond .ge 59, 3) := by decide +kernel
theorem dX4_readComparisons_75 : decode cX4_readComparisons 75 = .ok (.return_, 1) := by decide +kernel
theorem dX4_readName_0 : decode cX4_readName 0 = .ok (.iload_n 1, 1) := by decide +kernel
theorem dX4_readName_1 : decode cX4_readName 1 = .ok (.ifCond .lt 9, 3) := by decide +kernel
theorem dX4_readName_10 : decode cX4_readName 10 = .ok (.iconst (-1), 1) := by decide +kernel
theorem dX4_readName_11 : decode cX4_readName 11 = .ok (.goto 12, 3) := by decide +kernel
theorem dX4_readName_23 : decode cX4_readName 23 = .ok (.istore_n 2, 1) := by decide +kernel
theorem dX4_readName_24 : decode cX4_readName 24 = .ok (.iload_n 2, 1) := by decide +kernel
theorem dX4_readName_25 : decode cX4_readName 25 = .ok (.ifCond .ge 8, 3) := by decide +kernel
theorem dX4_readName_28 : decode cX4_readName 28 = .ok (.aload_n 0, 1) := by decide +kernel
theorem dX4_readName_29 : decode cX4_readName 29 = .ok (.invokevirtual 62, 3) := by decide +kernel
theorem dX4_readName_32 : decode cX4_readName 32 = .ok (.return_, 1) := by decide +kernel
theorem dX4_readOne_0 : decode cX4_readOne 0 = .ok (.aload_n 0, 1) := by decide +kernel
theorem dX4_readOne_1 : decode cX4_readOne 1 = .ok (.getfield 35, 3) := by decide +kernel
theorem dX4_readOne_4 : decode cX4_readOne 4 = .ok (.ifCond .lt 4, 3) := by decide +kernel
theorem dX4_readOne_8 : decode cX4_readOne 8 = .ok (.aload_n 0, 1) := by decide +kernel
theorem dX4_readOne_9 : decode cX4_readOne 9 = .ok (.invokevirtual 58, 3) := by decide +kernel
theorem dX4_readOne_12 : decode cX4_readOne 12 = .ok (.istore_n 1, 1) := by decide +kernel
theorem dX4_readOne_13 : decode cX4_readOne 13 = .ok (.iload_n 1, 1) := by decide +kernel
theorem dX4_readOne_14 : decode cX4_readOne 14 = .ok (.bipush 48, 2) := by decide +kernel
theorem dX4_readOne_16 : decode cX4_readOne 16 = .ok (.if_icmp .lt 16, 3) := by decide +kernel
theorem dX4_readOne_32 : decode cX4_readOne 32 = .ok (.iload_n 1, 1) := by decide +kernel
theorem dX4_readOne_33 : decode cX4_readOne 33 = .ok (.bipush 45, 2) := by decide +kernel
theorem dX4_readOne_35 : decode cX4_readOne 35 = .ok (.if_icmp .eq 15, 3) := by decide +kernel
theorem dX4_readOne_38 : decode cX4_readOne 38 = .ok (.iload_n 1, 1) := by decide +kernel
theorem dX4_readOne_39 : decode cX4_readOne 39 = .ok (.bipush 40, 2) := by decide +kernel
theorem dX4_readOne_41 : decode cX4_readOne 41 = .ok (.if_icmp .eq 9, 3) := by decide +kernel
theorem dX4_readOne_44 : decode cX4_readOne 44 = .ok (.iload_n 1, 1) := by decide +kernel
theorem dX4_readOne_45 : decode cX4_readOne 45 = .ok (.bipush 91, 2) := by decide +kernel
theorem dX4_readOne_47 : decode cX4_readOne 47 = .ok (.if_icmp .ne 11, 3) := by decide +kernel
theorem dX4_readOne_58 : decode cX4_readOne 58 = .ok (.aload_n 0, 1) := by decide +kernel
theorem dX4_readOne_59 : decode cX4_readOne 59 = .ok (.iload_n 1, 1) := by decide +kernel
theorem dX4_readOne_60 : decode cX4_readOne 60 = .ok (.invokevirtual 90, 3) := by decide +kernel
theorem dX4_readOne_63 : decode cX4_readOne 63 = .ok (.return_, 1) := by decide +kernel
theorem dX4_readSum_0 : decode cX4_readSum 0 = .ok (.aload_n 0, 1) := by decide +kernel
theorem dX4_readSum_1 : decode cX4_readSum 1 = .ok (.invokevirtual 78, 3) := by decide +kernel
theorem dX4_readSum_4 : decode cX4_readSum 4 = .ok (.iconst 0, 1) := by decide +kernel
theorem dX4_readSum_5 : decode cX4_readSum 5 = .ok (.istore_n 1, 1) := by decide +kernel
theorem dX4_readSum_6 : decode cX4_readSum 6 = .ok (.iload_n 1, 1) := by decide +kernel
theorem dX4_readSum_7 : decode cX4_readSum 7 = .ok (.bipush 48, 2) := by decide +kernel
theorem dX4_readSum_9 : decode cX4_readSum 9 = .ok (.if_icmp .ge 60, 3) := by decide +kernel
theorem dX4_readSum_12 : decode cX4_readSum 12 = .ok (.aload_n 0, 1) := by decide +kernel
theorem dX4_readSum_13 : decode cX4_readSum 13 = .ok (.getfield 35, 3) := by decide +kernel
theorem dX4_readSum_16 : decode cX4_readSum 16 = .ok (.ifCond .ge 53, 3) := by decide +kernel
theorem dX4_readSum_69 : decode cX4_readSum 69 = .ok (.return_, 1) := by decide +kernel
theorem dX4_readTerm_0 : decode cX4_readTerm 0 = .ok (.aload_n 0, 1) := by decide +kernel
theorem dX4_readTerm_1 : decode cX4_readTerm 1 = .ok (.invokevirtual 81, 3) := by decide +kernel
theorem dX4_readTerm_4 : decode cX4_readTerm 4 = .ok (.iconst 0, 1) := by decide +kernel
theorem dX4_readTerm_5 : decode cX4_readTerm 5 = .ok (.istore_n 1, 1) := by decide +kernel
theorem dX4_readTerm_6 : decode cX4_readTerm 6 = .ok (.iload_n 1, 1) := by decide +kernel
theorem dX4_readTerm_7 : decode cX4_readTerm 7 = .ok (.bipush 48, 2) := by decide +kernel
theorem dX4_readTerm_9 : decode cX4_readTerm 9 = .ok (.if_icmp .ge 66, 3) := by decide +kernel
theorem dX4_readTerm_12 : decode cX4_readTerm 12 = .ok (.aload_n 0, 1) := by decide +kernel
theorem dX4_readTerm_13 : decode cX4_readTerm 13 = .ok (.getfield 35, 3) := by decide +kernel
theorem dX4_readTerm_16 : decode cX4_readTerm 16 = .ok (.ifCond .ge 59, 3) := by decide +kernel
theorem dX4_readTerm_75 : decode cX4_readTerm 75 = .ok (.return_, 1) := by decide +kernel
theorem dX8_init_0 : decode cX8_init 0 = .ok (.aload_n 0, 1) := by decide +kernel
theorem dX8_init_1 : decode cX8_init 1 = .ok (.invokespecial 1, 3) := by decide +kernel
theorem dX8_init_4 : decode cX8_init 4 = .ok (.aload_n 0, 1) := by decide +kernel
theorem dX8_init_5 : decode cX8_init 5 = .ok (.new 7, 3) := by decide +kernel
theorem dX8_init_8 : decode cX8_init 8 = .ok (.dup, 1) := by decide +kernel
theorem dX8_init_9 : decode cX8_init 9 = .ok (.bipush 30, 2) := by decide +kernel
theorem dX8_init_11 : decode cX8_init 11 = .ok (.invokespecial 9, 3) := by decide +kernel
theorem dX8_init_14 : decode cX8_init 14 = .ok (.putfield 12, 3) := by decide +kernel
theorem dX8_init_17 : decode cX8_init 17 = .ok (.aload_n 0, 1) := by decide +kernel
theorem dX8_init_18 : decode cX8_init 18 = .ok (.new 7, 3) := by decide +kernel
theorem dX8_init_21 : decode cX8_init 21 = .ok (.dup, 1) := by decide +kernel
theorem dX8_init_22 : decode cX8_init 22 = .ok (.bipush 30, 2) := by decide +kernel
theorem dX8_init_24 : decode cX8_init 24 = .ok (.invokespecial 9, 3) := by decide +kernel
theorem dX8_init_27 : decode cX8_init 27 = .ok (.putfield 18, 3) := by decide +kernel
theorem dX8_init_30 : decode cX8_init 30 = .ok (.aload_n 0, 1) := by decide +kernel
theorem dX8_init_31 : decode cX8_init 31 = .ok (.iconst 0, 1) := by decide +kernel
theorem dX8_init_32 : decode cX8_init 32 = .ok (.putfield 21, 3) := by decide +kernel
theorem dX8_init_35 : decode cX8_init 35 = .ok (.aload_n 0, 1) := by decide +kernel
theorem dX8_init_36 : decode cX8_init 36 = .ok (.iconst 0, 1) := by decide +kernel
theorem dX8_init_37 : decode cX8_init 37 = .ok (.putfield 25, 3) := by decide +kernel
theorem dX8_init_40 : decode cX8_init 40 = .ok (.aload_n 0, 1) := by decide +kernel
theorem dX8_init_41 : decode cX8_init 41 = .ok (.iconst 0, 1) := by decide +kernel
theorem dX8_init_42 : decode cX8_init 42 = .ok (.putfield 28, 3) := by decide +kernel
theorem dX8_init_45 : decode cX8_init 45 = .ok (.aload_n 0, 1) := by decide +kernel
theorem dX8_init_46 : decode cX8_init 46 = .ok (.iconst 0, 1) := by decide +kernel
theorem dX8_init_47 : decode cX8_init 47 = .ok (.putfield 31, 3) := by decide +kernel
theorem dX8_init_50 : decode cX8_init 50 = .ok (.return_, 1) := by decide +kernel
end
section
def B_c_X3_tryRows (G : va_G) (cy : Nat → ClassId) (A : Nat → Prop) (le : Nat) (te : Nat) (ne : Nat) (mi : Nat) (tr : Nat) (be : Nat) (rta : Nat) (rba : Nat) (frt : Nat → Int32) (frb : Nat → Int32) (w : Int32) (kn : Int32) (H : Heap) : Prop := ∃ (fd : Int32), ((fd = 1 ∧ (w &&& (kn ^^^ (-1))) = 0) ∨ (fd = 0 ∧ ¬ (w &&& (kn ^^^ (-1))) = 0)) ∧ va_P G classes [(le, .inr (3, [.ref te, .ref ne, .ref mi, .int 0, .ref tr, .ref be, .int w, .int 0, .int fd])), (tr, .inr (5, [.ref rta, .int 0])), (be, .inr (5, [.ref rba, .int 0]))] H ∧ va_D A [(le, .inr (3, [.ref te, .ref ne, .ref mi, .int 0, .ref tr, .ref be, .int w, .int 0, .int fd])), (tr, .inr (5, [.ref rta, .int 0])), (be, .inr (5, [.ref rba, .int 0]))]
set_option maxHeartbeats 4000000 in
set_option maxRecDepth 100000 in
theorem c_X3_tryRows (l : Launch) (G : va_G) (cy : Nat → ClassId) (sk : Nat → Nat) (sz : Nat) (le : Nat) (te : Nat) (ne : Nat) (mi : Nat) (tr : Nat) (be : Nat) (rta : Nat) (rba : Nat) (frt : Nat → Int32) (frb : Nat → Int32) (w : Int32) (kn : Int32)  : Met l yX3_tryRows (wsO yX3_tryRows cX3_tryRows 5 none) ({ frames := 2, cells := 0, slots := 0, locals := 36 }) (va_Pc [.ref le, .int kn, .int 0, .int 0] (PR G cy sk sz [(le, .inr (3, [.ref te, .ref ne, .ref mi, .int 0, .ref tr, .ref be, .int w, .int 0, .int 0])), (tr, .inr (5, [.ref rta, .int 0])), (rta, .inl (cy 0, 7, .inl frt)), (be, .inr (5, [.ref rba, .int 0])), (rba, .inl (cy 0, 7, .inl frb))])) (va_Qv (fun (_ : Unit) => True) (fun _ t => B_c_X3_tryRows G cy (va_A [(le, .inr (3, [.ref te, .ref ne, .ref mi, .int 0, .ref tr, .ref be, .int w, .int 0, .int 0])), (tr, .inr (5, [.ref rta, .int 0])), (rta, .inl (cy 0, 7, .inl frt)), (be, .inr (5, [.ref rba, .int 0])), (rba, .inl (cy 0, 7, .inl frb))] sz) le te ne mi tr be rta rba frt frb w kn t.heap) (va_A [(le, .inr (3, [.ref te, .ref ne, .ref mi, .int 0, .ref tr, .ref be, .int w, .int 0, .int 0])), (tr, .inr (5, [.ref rta, .int 0])), (rta, .inl (cy 0, 7, .inl frt)), (be, .inr (5, [.ref rba, .int 0])), (rba, .inl (cy 0, 7, .inl frb))] sz)) 0 0 (va_A [(le, .inr (3, [.ref te, .ref ne, .ref mi, .int 0, .ref tr, .ref be, .int w, .int 0, .int 0])), (tr, .inr (5, [.ref rta, .int 0])), (rta, .inl (cy 0, 7, .inl frt)), (be, .inr (5, [.ref rba, .int 0])), (rba, .inl (cy 0, 7, .inl frb))] sz) := by
  refine mt (by decide) (Nat.le_of_ble_eq_true rfl) ?_
  intro p e s m below meth c ls hx hb hr hml hts hown hlocks hin hsz hP hE hD hl
  subst hsz
  have hl : lv_has ls 5 [(0, .ref le), (1, .int kn), (2, .int 0), (3, .int 0)] := hl
  have hD := hD.self (sz := s.heap.size)
  generalize hAe : va_A [(le, .inr (3, [.ref te, .ref ne, .ref mi, .int 0, .ref tr, .ref be, .int w, .int 0, .int 0])), (tr, .inr (5, [.ref rta, .int 0])), (rta, .inl (cy 0, 7, .inl frt)), (be, .inr (5, [.ref rba, .int 0])), (rba, .inl (cy 0, 7, .inl frb))] s.heap.size = A at hD ⊢
  have hA : ∀ q : Nat, s.heap.size ≤ q → A q := fun q h => by rw [← hAe]; exact Or.inr h
  have hS : va_S A s.heap s.heap [] := va_S.rf
  refine lv_aload_n hx hb dX3_tryRows_0 rfl (lv_at hl 0 rfl) ?_
  refine va_get (D := G) (ci := 3) (v := .int w) (C := RX3) (T := TX3) (N := 9) hx hb hts inB3 hown hE.1 hP 0 rfl rfl 6 (by decide) (hts _ m_226) (fun _ h9 => h9) rfl dX3_tryRows_1 ?_
  refine lv_iload_n hx hb dX3_tryRows_4 rfl (lv_at hl 1 rfl) ?_
  refine lv_iconst (v := (-1)) hx hb dX3_tryRows_5 (by decide) ?_
  refine lv_ixor hx hb dX3_tryRows_6 ?_
  refine lv_iand hx hb dX3_tryRows_7 ?_
  refine lv_if_ne (tgt := 48) hx hb dX3_tryRows_8 (by decide) (fun c_1 => ?_) (fun c_1 => ?_)
  · refine lv_aload_n hx hb dX3_tryRows_48 rfl (lv_at hl 0 rfl) ?_
    refine va_get (D := G) (ci := 3) (v := .ref tr) (C := RX3) (T := TX3) (N := 9) hx hb hts inB3 hown hE.1 hP 0 rfl rfl 4 (by decide) (hts _ m_223) (fun _ h9 => h9) rfl dX3_tryRows_49 ?_
    refine rV (rest := []) hx hb hml hown hts hE (c_X5_room l G cy sk s.heap.size tr rta 7 frt 0 7 (by first | decide | (unfold inR; decide))) kV_X5_room m_1148 rfl rfl ⟨(Nat.le_of_ble_eq_true rfl), (Nat.le_of_ble_eq_true rfl)⟩ hP hD 1 rfl rfl rfl [1, 2] rfl rfl rfl rfl hl.1 (Nat.le_of_ble_eq_true rfl) dX3_tryRows_52 ⟨(Nat.le_of_ble_eq_true rfl), (Nat.le_of_ble_eq_true rfl)⟩ (fun r_2 hr_ => ?_)
    subst hr_
    refine lv_if_eq (tgt := 73) hx hb dX3_tryRows_55 (by decide) (fun h9 => absurd h9 (by decide)) (fun _ => ?_)
    refine lv_aload_n hx hb dX3_tryRows_58 rfl (lv_at hl 0 rfl) ?_
    refine va_get (D := G) (ci := 3) (v := .int 0) (C := RX3) (T := TX3) (N := 9) hx hb hts inB3 hown hE.1 hP 0 rfl rfl 8 (by decide) (hts _ m_229) (fun _ h9 => h9) rfl dX3_tryRows_59 ?_
    refine lv_if_eq (tgt := 74) hx hb dX3_tryRows_62 (by decide) (fun _ => ?_) (fun h9 => absurd h9 (by decide))
    refine lv_iconst (v := 0) hx hb dX3_tryRows_74 (by decide) ?_
    refine lv_istore (lv' := [(4, .int 0), (0, .ref le), (1, .int kn), (2, .int 0), (3, .int 0)]) hx hb dX3_tryRows_75 hl (by decide) rfl (fun ls hl => ?_)
    refine lv_iload hx hb dX3_tryRows_77 (lv_at hl 0 rfl) ?_
    refine lv_aload_n hx hb dX3_tryRows_79 rfl (lv_at hl 1 rfl) ?_
    refine va_get (D := G) (ci := 3) (v := .int 0) (C := RX3) (T := TX3) (N := 9) hx hb hts inB3 hown hE.1 hP 0 rfl rfl 3 (by decide) (hts _ m_221) (fun _ h9 => h9) rfl dX3_tryRows_80 ?_
    refine lv_icmp_ge (tgt := 166) hx hb dX3_tryRows_83 (by decide) (fun _ => ?_) (fun h9 => absurd h9 (by decide))
    have hP9 := P_cut (wc := [(le, .inr (3, [.ref te, .ref ne, .ref mi, .int 0, .ref tr, .ref be, .int w, .int 0, .int 0])), (tr, .inr (5, [.ref rta, .int 0])), (be, .inr (5, [.ref rba, .int 0]))]) hP [0, 1, 3] rfl
    have hD9 := hD.sub (ws' := [(le, .inr (3, [.ref te, .ref ne, .ref mi, .int 0, .ref tr, .ref be, .int w, .int 0, .int 0])), (tr, .inr (5, [.ref rta, .int 0])), (be, .inr (5, [.ref rba, .int 0]))]) [0, 1, 3] (by decide) rfl
    refine W.widen (k := 0) (n := 0) (by first | exact Nat.le_of_ble_eq_true rfl | omega) (by first | exact Nat.le_of_ble_eq_true rfl | omega) ?_
    exact W.vret hx hb hr (fun t ht hW => ⟨⟨(), rfl, trivial, by dsimp only; rw [ht]; exact ⟨0, (Or.inr ⟨rfl, c_1⟩), hP9, hD9⟩⟩, hS.F ht⟩) hS.2.2 dX3_tryRows_166
  · refine lv_aload_n hx hb dX3_tryRows_11 rfl (lv_at hl 0 rfl) ?_
    refine va_get (D := G) (ci := 3) (v := .int 0) (C := RX3) (T := TX3) (N := 9) hx hb hts inB3 hown hE.1 hP 0 rfl rfl 8 (by decide) (hts _ m_229) (fun _ h9 => h9) rfl dX3_tryRows_12 ?_
    refine lv_if_eq (tgt := 26) hx hb dX3_tryRows_15 (by decide) (fun _ => ?_) (fun h9 => absurd h9 (by decide))
    refine lv_aload_n hx hb dX3_tryRows_26 rfl (lv_at hl 0 rfl) ?_
    refine lv_iconst (v := 1) hx hb dX3_tryRows_27 (by decide) ?_
    refine va_put (D := G) (ci := 3) (v := .int 1) (ty := .boolean) (C := RX3) (T := TX3) (N := 9) hx hb hts inB3 tyX3 tyX3_ok nmX3 hown hE.1 hP hD hS 0 rfl rfl 8 (by decide) (hts _ m_229) (fun _ h9 => h9) rfl (by decide +kernel) rfl rfl (Nat.le_of_ble_eq_true rfl) dX3_tryRows_28 (fun H locs hP hD hS => ?_)
    have hP : va_P G classes [(le, .inr (3, [.ref te, .ref ne, .ref mi, .int 0, .ref tr, .ref be, .int w, .int 0, .int 1])), (tr, .inr (5, [.ref rta, .int 0])), (rta, .inl (cy 0, 7, .inl frt)), (be, .inr (5, [.ref rba, .int 0])), (rba, .inl (cy 0, 7, .inl frb))] H := hP
    have hD : va_D A [(le, .inr (3, [.ref te, .ref ne, .ref mi, .int 0, .ref tr, .ref be, .int w, .int 0, .int 1])), (tr, .inr (5, [.ref rta, .int 0])), (rta, .inl (cy 0, 7, .inl frt)), (be, .inr (5, [.ref rba, .int 0])), (rba, .inl (cy 0, 7, .inl frb))] := hD
    refine lv_aload_n hx hb dX3_tryRows_31 rfl (lv_at hl 0 rfl) ?_
    refine lv_iload_n hx hb dX3_tryRows_32 rfl (lv_at hl 3 rfl) ?_
    refine va_put (D := G) (ci := 3) (v := .int 0) (ty := .int) (C := RX3) (T := TX3) (N := 9) hx hb hts inB3 tyX3 tyX3_ok nmX3 hown hE.1 hP hD hS 0 rfl rfl 7 (by decide) (hts _ m_227) (fun _ h9 => h9) rfl (by decide +kernel) rfl rfl (Nat.le_of_ble_eq_true rfl) dX3_tryRows_33 (fun H locs hP hD hS => ?_)
    have hP : va_P G classes [(le, .inr (3, [.ref te, .ref ne, .ref mi, .int 0, .ref tr, .ref be, .int w, .int 0, .int 1])), (tr, .inr (5, [.ref rta, .int 0])), (rta, .inl (cy 0, 7, .inl frt)), (be, .inr (5, [.ref rba, .int 0])), (rba, .inl (cy 0, 7, .inl frb))] H := hP
    have hD : va_D A [(le, .inr (3, [.ref te, .ref ne, .ref mi, .int 0, .ref tr, .ref be, .int w, .int 0, .int 1])), (tr, .inr (5, [.ref rta, .int 0])), (rta, .inl (cy 0, 7, .inl frt)), (be, .inr (5, [.ref rba, .int 0])), (rba, .inl (cy 0, 7, .inl frb))] := hD
    refine lv_aload_n hx hb dX3_tryRows_36 rfl (lv_at hl 0 rfl) ?_
    refine va_get (D := G) (ci := 3) (v := .ref be) (C := RX3) (T := TX3) (N := 9) hx hb hts inB3 hown hE.1 hP 0 rfl rfl 5 (by decide) (hts _ m_224) (fun _ h9 => h9) rfl dX3_tryRows_37 ?_
    refine lv_aload_n hx hb dX3_tryRows_40 rfl (lv_at hl 0 rfl) ?_
    refine va_get (D := G) (ci := 3) (v := .ref tr) (C := RX3) (T := TX3) (N := 9) hx hb hts inB3 hown hE.1 hP 0 rfl rfl 4 (by decide) (hts _ m_223) (fun _ h9 => h9) rfl dX3_tryRows_41 ?_
    refine wVv (B := (B_c_X5_takeFrom G cy (va_A [(be, .inr (5, [.ref rba, .int 0])), (rba, .inl (cy 0, 7, .inl frb)), (tr, .inr (5, [.ref rta, .int 0]))] H.size) be rba 7 frb 0 tr rta)) (wr := [(le, .inr (3, [.ref te, .ref ne, .ref mi, .int 0, .ref tr, .ref be, .int w, .int 0, .int 1])), (rta, .inl (cy 0, 7, .inl frt))]) (rest := []) hx hb hml hown hts hE (c_X5_takeFrom l G cy sk H.size be rba 7 frb 0 tr rta (by decide)) kV_X5_takeFrom m_1142 rfl rfl ⟨(Nat.le_of_ble_eq_true rfl), (Nat.le_of_ble_eq_true rfl)⟩ hP hD hS hA 3 rfl rfl rfl [3, 4, 1] [0, 2] rfl rfl rfl rfl (by decide) rfl rfl hl.1 (Nat.le_of_ble_eq_true rfl) dX3_tryRows_44 ⟨(Nat.le_of_ble_eq_true rfl), (Nat.le_of_ble_eq_true rfl)⟩ (fun H locs haf hS => ?_)
    obtain ⟨hP1, hD1⟩ := haf.1
    obtain ⟨hP, hD⟩ := haf.2.1 _ hP1 hD1
    have hP : va_P G classes [(le, .inr (3, [.ref te, .ref ne, .ref mi, .int 0, .ref tr, .ref be, .int w, .int 0, .int 1])), (rta, .inl (cy 0, 7, .inl frt)), (be, .inr (5, [.ref rba, .int 0])), (tr, .inr (5, [.ref rta, .int 0]))] H := hP
    have hD : va_D A [(le, .inr (3, [.ref te, .ref ne, .ref mi, .int 0, .ref tr, .ref be, .int w, .int 0, .int 1])), (rta, .inl (cy 0, 7, .inl frt)), (be, .inr (5, [.ref rba, .int 0])), (tr, .inr (5, [.ref rta, .int 0]))] := hD
    have hP9 := P_cut (wc := [(le, .inr (3, [.ref te, .ref ne, .ref mi, .int 0, .ref tr, .ref be, .int w, .int 0, .int 1])), (tr, .inr (5, [.ref rta, .int 0])), (be, .inr (5, [.ref rba, .int 0]))]) hP [0, 3, 2] rfl
    have hD9 := hD.sub (ws' := [(le, .inr (3, [.ref te, .ref ne, .ref mi, .int 0, .ref tr, .ref be, .int w, .int 0, .int 1])), (tr, .inr (5, [.ref rta, .int 0])), (be, .inr (5, [.ref rba, .int 0]))]) [0, 3, 2] (by decide) rfl
    refine W.widen (k := 0) (n := 0) (by first | exact Nat.le_of_ble_eq_true rfl | omega) (by first | exact Nat.le_of_ble_eq_true rfl | omega) ?_
    exact W.vret hx hb hr (fun t ht hW => ⟨⟨(), rfl, trivial, by dsimp only; rw [ht]; exact ⟨1, (Or.inl ⟨rfl, c_1⟩), hP9, hD9⟩⟩, hS.F ht⟩) hS.2.2 dX3_tryRows_47
def B_c_X3_findRow (G : va_G) (cy : Nat → ClassId) (A : Nat → Prop) (le : Nat) (te : Nat) (ne : Nat) (mi : Nat) (tr : Nat) (be : Nat) (rta : Nat) (rba : Nat) (frt : Nat → Int32) (frb : Nat → Int32) (kn : Int32) (w : Int32) (w0 : Int32) (H : Heap) : Prop := ∃ (fd : Int32), va_P G classes [(le, .inr (3, [.ref te, .ref ne, .ref mi, .int 0, .ref tr, .ref be, .int w, .int 0, .int fd])), (tr, .inr (5, [.ref rta, .int 0])), (be, .inr (5, [.ref rba, .int 0]))] H ∧ va_D A [(le, .inr (3, [.ref te, .ref ne, .ref mi, .int 0, .ref tr, .ref be, .int w, .int 0, .int fd])), (tr, .inr (5, [.ref rta, .int 0])), (be, .inr (5, [.ref rba, .int 0]))]
theorem lf_c_X3_findRow_0 (kn : Int32) (w : Int32) (h_5 : (w &&& (kn ^^^ (-1))) = 0) : (w &&& (kn ^^^ (-1))) = 0 := by assumption
theorem lf_c_X3_findRow_1 (kn : Int32) (w : Int32) (h_5 : ¬ (w &&& (kn ^^^ (-1))) = 0) : ¬ (w &&& (kn ^^^ (-1))) = 0 := by assumption
set_option maxHeartbeats 4000000 in
set_option maxRecDepth 100000 in
theorem c_X3_findRow (l : Launch) (G : va_G) (cy : Nat → ClassId) (sk : Nat → Nat) (sz : Nat) (le : Nat) (te : Nat) (ne : Nat) (mi : Nat) (tr : Nat) (be : Nat) (rta : Nat) (rba : Nat) (frt : Nat → Int32) (frb : Nat → Int32) (kn : Int32) (w : Int32) (w0 : Int32)  : Met l yX3_findRow (wsO yX3_findRow cX3_findRow 3 (some .boolean)) ({ frames := 3, cells := 0, slots := 0, locals := 60 }) (va_Pc [.ref le, .int kn, .int w] (PR G cy sk sz [(le, .inr (3, [.ref te, .ref ne, .ref mi, .int 0, .ref tr, .ref be, .int w0, .int 0, .int 0])), (tr, .inr (5, [.ref rta, .int 0])), (rta, .inl (cy 0, 7, .inl frt)), (be, .inr (5, [.ref rba, .int 0])), (rba, .inl (cy 0, 7, .inl frb))])) (va_Qi (fun r (_ : Unit) => (r = 1 ∧ (w &&& (kn ^^^ (-1))) = 0) ∨ (r = 0 ∧ ¬ (w &&& (kn ^^^ (-1))) = 0)) (fun _ t => B_c_X3_findRow G cy (va_A [(le, .inr (3, [.ref te, .ref ne, .ref mi, .int 0, .ref tr, .ref be, .int w0, .int 0, .int 0])), (tr, .inr (5, [.ref rta, .int 0])), (rta, .inl (cy 0, 7, .inl frt)), (be, .inr (5, [.ref rba, .int 0])), (rba, .inl (cy 0, 7, .inl frb))] sz) le te ne mi tr be rta rba frt frb kn w w0 t.heap) (va_A [(le, .inr (3, [.ref te, .ref ne, .ref mi, .int 0, .ref tr, .ref be, .int w0, .int 0, .int 0])), (tr, .inr (5, [.ref rta, .int 0])), (rta, .inl (cy 0, 7, .inl frt)), (be, .inr (5, [.ref rba, .int 0])), (rba, .inl (cy 0, 7, .inl frb))] sz)) 0 0 (va_A [(le, .inr (3, [.ref te, .ref ne, .ref mi, .int 0, .ref tr, .ref be, .int w0, .int 0, .int 0])), (tr, .inr (5, [.ref rta, .int 0])), (rta, .inl (cy 0, 7, .inl frt)), (be, .inr (5, [.ref rba, .int 0])), (rba, .inl (cy 0, 7, .inl frb))] sz) := by
  refine mt (by decide) (Nat.le_of_ble_eq_true rfl) ?_
  intro p e s m below meth c ls hx hb hr hml hts hown hlocks hin hsz hP hE hD hl
  subst hsz
  have hl : lv_has ls 3 [(0, .ref le), (1, .int kn), (2, .int w)] := hl
  have hD := hD.self (sz := s.heap.size)
  generalize hAe : va_A [(le, .inr (3, [.ref te, .ref ne, .ref mi, .int 0, .ref tr, .ref be, .int w0, .int 0, .int 0])), (tr, .inr (5, [.ref rta, .int 0])), (rta, .inl (cy 0, 7, .inl frt)), (be, .inr (5, [.ref rba, .int 0])), (rba, .inl (cy 0, 7, .inl frb))] s.heap.size = A at hD ⊢
  have hA : ∀ q : Nat, s.heap.size ≤ q → A q := fun q h => by rw [← hAe]; exact Or.inr h
  have hS : va_S A s.heap s.heap [] := va_S.rf
  refine lv_aload_n hx hb dX3_findRow_0 rfl (lv_at hl 0 rfl) ?_
  refine lv_iload_n hx hb dX3_findRow_1 rfl (lv_at hl 2 rfl) ?_
  refine va_put (D := G) (ci := 3) (v := .int w) (ty := .int) (C := RX3) (T := TX3) (N := 9) hx hb hts inB3 tyX3 tyX3_ok nmX3 hown hE.1 hP hD hS 0 rfl rfl 6 (by decide) (hts _ m_226) (fun _ h9 => h9) rfl (by decide +kernel) rfl rfl (Nat.le_of_ble_eq_true rfl) dX3_findRow_2 (fun H locs hP hD hS => ?_)
  have hP : va_P G classes [(le, .inr (3, [.ref te, .ref ne, .ref mi, .int 0, .ref tr, .ref be, .int w, .int 0, .int 0])), (tr, .inr (5, [.ref rta, .int 0])), (rta, .inl (cy 0, 7, .inl frt)), (be, .inr (5, [.ref rba, .int 0])), (rba, .inl (cy 0, 7, .inl frb))] H := hP
  have hD : va_D A [(le, .inr (3, [.ref te, .ref ne, .ref mi, .int 0, .ref tr, .ref be, .int w, .int 0, .int 0])), (tr, .inr (5, [.ref rta, .int 0])), (rta, .inl (cy 0, 7, .inl frt)), (be, .inr (5, [.ref rba, .int 0])), (rba, .inl (cy 0, 7, .inl frb))] := hD
  refine lv_aload_n hx hb dX3_findRow_5 rfl (lv_at hl 0 rfl) ?_
  refine lv_iconst (v := 0) hx hb dX3_findRow_6 (by decide) ?_
  refine va_put (D := G) (ci := 3) (v := .int 0) (ty := .boolean) (C := RX3) (T := TX3) (N := 9) hx hb hts inB3 tyX3 tyX3_ok nmX3 hown hE.1 hP hD hS 0 rfl rfl 8 (by decide) (hts _ m_229) (fun _ h9 => h9) rfl (by decide +kernel) rfl rfl (Nat.le_of_ble_eq_true rfl) dX3_findRow_7 (fun H locs hP hD hS => ?_)
  have hP : va_P G classes [(le, .inr (3, [.ref te, .ref ne, .ref mi, .int 0, .ref tr, .ref be, .int w, .int 0, .int 0])), (tr, .inr (5, [.ref rta, .int 0])), (rta, .inl (cy 0, 7, .inl frt)), (be, .inr (5, [.ref rba, .int 0])), (rba, .inl (cy 0, 7, .inl frb))] H := hP
  have hD : va_D A [(le, .inr (3, [.ref te, .ref ne, .ref mi, .int 0, .ref tr, .ref be, .int w, .int 0, .int 0])), (tr, .inr (5, [.ref rta, .int 0])), (rta, .inl (cy 0, 7, .inl frt)), (be, .inr (5, [.ref rba, .int 0])), (rba, .inl (cy 0, 7, .inl frb))] := hD
  refine lv_aload_n hx hb dX3_findRow_10 rfl (lv_at hl 0 rfl) ?_
  refine lv_iconst (v := 0) hx hb dX3_findRow_11 (by decide) ?_
  refine va_put (D := G) (ci := 3) (v := .int 0) (ty := .int) (C := RX3) (T := TX3) (N := 9) hx hb hts inB3 tyX3 tyX3_ok nmX3 hown hE.1 hP hD hS 0 rfl rfl 7 (by decide) (hts _ m_227) (fun _ h9 => h9) rfl (by decide +kernel) rfl rfl (Nat.le_of_ble_eq_true rfl) dX3_findRow_12 (fun H locs hP hD hS => ?_)
  have hP : va_P G classes [(le, .inr (3, [.ref te, .ref ne, .ref mi, .int 0, .ref tr, .ref be, .int w, .int 0, .int 0])), (tr, .inr (5, [.ref rta, .int 0])), (rta, .inl (cy 0, 7, .inl frt)), (be, .inr (5, [.ref rba, .int 0])), (rba, .inl (cy 0, 7, .inl frb))] H := hP
  have hD : va_D A [(le, .inr (3, [.ref te, .ref ne, .ref mi, .int 0, .ref tr, .ref be, .int w, .int 0, .int 0])), (tr, .inr (5, [.ref rta, .int 0])), (rta, .inl (cy 0, 7, .inl frt)), (be, .inr (5, [.ref rba, .int 0])), (rba, .inl (cy 0, 7, .inl frb))] := hD
  refine lv_aload_n hx hb dX3_findRow_15 rfl (lv_at hl 0 rfl) ?_
  refine va_get (D := G) (ci := 3) (v := .ref tr) (C := RX3) (T := TX3) (N := 9) hx hb hts inB3 hown hE.1 hP 0 rfl rfl 4 (by decide) (hts _ m_223) (fun _ h9 => h9) rfl dX3_findRow_16 ?_
  refine wVv (B := (B_c_X5_clear G cy (va_A [(tr, .inr (5, [.ref rta, .int 0]))] H.size) tr rta 0)) (wr := [(le, .inr (3, [.ref te, .ref ne, .ref mi, .int 0, .ref tr, .ref be, .int w, .int 0, .int 0])), (rta, .inl (cy 0, 7, .inl frt)), (be, .inr (5, [.ref rba, .int 0])), (rba, .inl (cy 0, 7, .inl frb))]) (rest := []) hx hb hml hown hts hE (c_X5_clear l G cy sk H.size tr rta 0) kV_X5_clear m_1133 rfl rfl ⟨(Nat.le_of_ble_eq_true rfl), (Nat.le_of_ble_eq_true rfl)⟩ hP hD hS hA 1 rfl rfl rfl [1] [0, 2, 3, 4] rfl rfl rfl rfl (by decide) rfl rfl hl.1 (Nat.le_of_ble_eq_true rfl) dX3_findRow_19 ⟨(Nat.le_of_ble_eq_true rfl), (Nat.le_of_ble_eq_true rfl)⟩ (fun H locs haf hS => ?_)
  obtain ⟨hP1, hD1⟩ := haf.1
  obtain ⟨hP, hD⟩ := haf.2.1 _ hP1 hD1
  have hP : va_P G classes [(le, .inr (3, [.ref te, .ref ne, .ref mi, .int 0, .ref tr, .ref be, .int w, .int 0, .int 0])), (rta, .inl (cy 0, 7, .inl frt)), (be, .inr (5, [.ref rba, .int 0])), (rba, .inl (cy 0, 7, .inl frb)), (tr, .inr (5, [.ref rta, .int 0]))] H := hP
  have hD : va_D A [(le, .inr (3, [.ref te, .ref ne, .ref mi, .int 0, .ref tr, .ref be, .int w, .int 0, .int 0])), (rta, .inl (cy 0, 7, .inl frt)), (be, .inr (5, [.ref rba, .int 0])), (rba, .inl (cy 0, 7, .inl frb)), (tr, .inr (5, [.ref rta, .int 0]))] := hD
  refine lv_aload_n hx hb dX3_findRow_22 rfl (lv_at hl 0 rfl) ?_
  refine va_get (D := G) (ci := 3) (v := .ref be) (C := RX3) (T := TX3) (N := 9) hx hb hts inB3 hown hE.1 hP 0 rfl rfl 5 (by decide) (hts _ m_224) (fun _ h9 => h9) rfl dX3_findRow_23 ?_
  refine wVv (B := (B_c_X5_clear G cy (va_A [(be, .inr (5, [.ref rba, .int 0]))] H.size) be rba 0)) (wr := [(le, .inr (3, [.ref te, .ref ne, .ref mi, .int 0, .ref tr, .ref be, .int w, .int 0, .int 0])), (rta, .inl (cy 0, 7, .inl frt)), (rba, .inl (cy 0, 7, .inl frb)), (tr, .inr (5, [.ref rta, .int 0]))]) (rest := []) hx hb hml hown hts hE (c_X5_clear l G cy sk H.size be rba 0) kV_X5_clear m_1133 rfl rfl ⟨(Nat.le_of_ble_eq_true rfl), (Nat.le_of_ble_eq_true rfl)⟩ hP hD hS hA 2 rfl rfl rfl [2] [0, 1, 3, 4] rfl rfl rfl rfl (by decide) rfl rfl hl.1 (Nat.le_of_ble_eq_true rfl) dX3_findRow_26 ⟨(Nat.le_of_ble_eq_true rfl), (Nat.le_of_ble_eq_true rfl)⟩ (fun H locs haf hS => ?_)
  obtain ⟨hP1, hD1⟩ := haf.1
  obtain ⟨hP, hD⟩ := haf.2.1 _ hP1 hD1
  have hP : va_P G classes [(le, .inr (3, [.ref te, .ref ne, .ref mi, .int 0, .ref tr, .ref be, .int w, .int 0, .int 0])), (rta, .inl (cy 0, 7, .inl frt)), (rba, .inl (cy 0, 7, .inl frb)), (tr, .inr (5, [.ref rta, .int 0])), (be, .inr (5, [.ref rba, .int 0]))] H := hP
  have hD : va_D A [(le, .inr (3, [.ref te, .ref ne, .ref mi, .int 0, .ref tr, .ref be, .int w, .int 0, .int 0])), (rta, .inl (cy 0, 7, .inl frt)), (rba, .inl (cy 0, 7, .inl frb)), (tr, .inr (5, [.ref rta, .int 0])), (be, .inr (5, [.ref rba, .int 0]))] := hD
  refine lv_aload_n hx hb dX3_findRow_29 rfl (lv_at hl 0 rfl) ?_
  refine lv_iload_n hx hb dX3_findRow_30 rfl (lv_at hl 1 rfl) ?_
  refine lv_iconst (v := 0) hx hb dX3_findRow_31 (by decide) ?_
  refine lv_iconst (v := 0) hx hb dX3_findRow_32 (by decide) ?_
  refine wVv (B := (B_c_X3_tryRows G cy (va_A [(le, .inr (3, [.ref te, .ref ne, .ref mi, .int 0, .ref tr, .ref be, .int w, .int 0, .int 0])), (tr, .inr (5, [.ref rta, .int 0])), (rta, .inl (cy 0, 7, .inl frt)), (be, .inr (5, [.ref rba, .int 0])), (rba, .inl (cy 0, 7, .inl frb))] H.size) le te ne mi tr be rta rba frt frb w kn)) (wr := []) (rest := []) hx hb hml hown hts hE (c_X3_tryRows l G cy sk H.size le te ne mi tr be rta rba frt frb w kn) kV_X3_tryRows m_1134 rfl rfl ⟨(Nat.le_of_ble_eq_true rfl), (Nat.le_of_ble_eq_true rfl)⟩ hP hD hS hA 0 rfl rfl rfl [0, 3, 1, 4, 2] [] rfl rfl rfl rfl (by decide) rfl rfl hl.1 (Nat.le_of_ble_eq_true rfl) dX3_findRow_33 ⟨(Nat.le_of_ble_eq_true rfl), (Nat.le_of_ble_eq_true rfl)⟩ (fun H locs haf hS => ?_)
  obtain ⟨xv4, h_5, hP1, hD1⟩ := haf.1
  obtain ⟨hP, hD⟩ := haf.2.1 _ hP1 hD1
  have hP : va_P G classes [(le, .inr (3, [.ref te, .ref ne, .ref mi, .int 0, .ref tr, .ref be, .int w, .int 0, .int xv4])), (tr, .inr (5, [.ref rta, .int 0])), (be, .inr (5, [.ref rba, .int 0]))] H := hP
  have hD : va_D A [(le, .inr (3, [.ref te, .ref ne, .ref mi, .int 0, .ref tr, .ref be, .int w, .int 0, .int xv4])), (tr, .inr (5, [.ref rta, .int 0])), (be, .inr (5, [.ref rba, .int 0]))] := hD
  rcases h_5 with ⟨rfl, h_5⟩ | ⟨rfl, h_5⟩
  · refine lv_aload_n hx hb dX3_findRow_36 rfl (lv_at hl 0 rfl) ?_
    refine va_get (D := G) (ci := 3) (v := .int 1) (C := RX3) (T := TX3) (N := 9) hx hb hts inB3 hown hE.1 hP 0 rfl rfl 8 (by decide) (hts _ m_229) (fun _ h9 => h9) rfl dX3_findRow_37 ?_
    have hP9 := P_cut (wc := [(le, .inr (3, [.ref te, .ref ne, .ref mi, .int 0, .ref tr, .ref be, .int w, .int 0, .int 1])), (tr, .inr (5, [.ref rta, .int 0])), (be, .inr (5, [.ref rba, .int 0]))]) hP [0, 1, 2] rfl
    have hD9 := hD.sub (ws' := [(le, .inr (3, [.ref te, .ref ne, .ref mi, .int 0, .ref tr, .ref be, .int w, .int 0, .int 1])), (tr, .inr (5, [.ref rta, .int 0])), (be, .inr (5, [.ref rba, .int 0]))]) [0, 1, 2] (by decide) rfl
    refine W.widen (k := 0) (n := 0) (by first | exact Nat.le_of_ble_eq_true rfl | omega) (by first | exact Nat.le_of_ble_eq_true rfl | omega) ?_
    exact W.zret (v := 1) hx hb hr rfl (fun t ht hW => ⟨⟨1, (), rfl, (Or.inl ⟨rfl, (lf_c_X3_findRow_0 kn w h_5)⟩), by dsimp only; rw [ht]; exact ⟨1, hP9, hD9⟩⟩, hS.F ht⟩) hS.2.2 dX3_findRow_40
  · refine lv_aload_n hx hb dX3_findRow_36 rfl (lv_at hl 0 rfl) ?_
    refine va_get (D := G) (ci := 3) (v := .int 0) (C := RX3) (T := TX3) (N := 9) hx hb hts inB3 hown hE.1 hP 0 rfl rfl 8 (by decide) (hts _ m_229) (fun _ h9 => h9) rfl dX3_findRow_37 ?_
    have hP9 := P_cut (wc := [(le, .inr (3, [.ref te, .ref ne, .ref mi, .int 0, .ref tr, .ref be, .int w, .int 0, .int 0])), (tr, .inr (5, [.ref rta, .int 0])), (be, .inr (5, [.ref rba, .int 0]))]) hP [0, 1, 2] rfl
    have hD9 := hD.sub (ws' := [(le, .inr (3, [.ref te, .ref ne, .ref mi, .int 0, .ref tr, .ref be, .int w, .int 0, .int 0])), (tr, .inr (5, [.ref rta, .int 0])), (be, .inr (5, [.ref rba, .int 0]))]) [0, 1, 2] (by decide) rfl
    refine W.widen (k := 0) (n := 0) (by first | exact Nat.le_of_ble_eq_true rfl | omega) (by first | exact Nat.le_of_ble_eq_true rfl | omega) ?_
    exact W.zret (v := 0) hx hb hr rfl (fun t ht hW => ⟨⟨0, (), rfl, (Or.inr ⟨rfl, (lf_c_X3_findRow_1 kn w h_5)⟩), by dsimp only; rw [ht]; exact ⟨0, hP9, hD9⟩⟩, hS.F ht⟩) hS.2.2 dX3_findRow_40
def B_c_X2_init (G : va_G) (cy : Nat → ClassId) (A : Nat → Prop) (h0 : Nat) (H : Heap) : Prop := ∃ (ld : Nat) (sr : Nat) (tx : Nat) (vl : Nat) (f0 : Nat) (f1 : Nat) (f2 : Nat) (c0 : Nat) (c1 : Nat) (c2 : Nat) (k0 : Nat) (k1 : Nat) (k2 : Nat) (fl : Nat → Int32) (gt : Nat → Option Nat), (∀ j, j < 5 → fl j = 50) ∧ (gt 0 = some f0) ∧ (gt 1 = some f1) ∧ (gt 2 = some f2) ∧ va_P G classes [(h0, .inr (2, [.int 5, .int 9, .int 0, .ref ld, .ref sr, .ref tx, .ref vl])), (ld, .inl (cy 0, 5, .inl fl)), (sr, .inl (cy 0, 5, .inl (fun _ => 0))), (tx, .inl (cy 3, 3, .inr (.inr (.inr (.inr gt))))), (f0, .inr (1, [.ref c0, .ref k0, .int 0])), (c0, .inl (cy 0, 48, .inl (fun _ => 0))), (f1, .inr (1, [.ref c1, .ref k1, .int 0])), (c1, .inl (cy 0, 48, .inl (fun _ => 0))), (f2, .inr (1, [.ref c2, .ref k2, .int 0])), (c2, .inl (cy 0, 48, .inl (fun _ => 0)))] H ∧ va_D A [(h0, .inr (2, [.int 5, .int 9, .int 0, .ref ld, .ref sr, .ref tx, .ref vl])), (ld, .inl (cy 0, 5, .inl fl)), (sr, .inl (cy 0, 5, .inl (fun _ => 0))), (tx, .inl (cy 3, 3, .inr (.inr (.inr (.inr gt))))), (f0, .inr (1, [.ref c0, .ref k0, .int 0])), (c0, .inl (cy 0, 48, .inl (fun _ => 0))), (f1, .inr (1, [.ref c1, .ref k1, .int 0])), (c1, .inl (cy 0, 48, .inl (fun _ => 0))), (f2, .inr (1, [.ref c2, .ref k2, .int 0])), (c2, .inl (cy 0, 48, .inl (fun _ => 0)))]
set_option maxHeartbeats 4000000 in
set_option maxRecDepth 100000 in
theorem c_X2_init (l : Launch) (G : va_G) (cy : Nat → ClassId) (sk : Nat → Nat) (sz : Nat) (h0 : Nat)  : Met l yX2_init (wsO yX2_init cX2_init 2 none) ({ frames := 2, cells := 13, slots := 315, locals := 32 }) (va_Pc [.ref h0] (PR G cy sk sz [(h0, .inr (2, [.int 0, .int 0, .int 0, .null, .null, .null, .null]))])) (va_Qv (fun (_ : Unit) => True) (fun _ t => B_c_X2_init G cy (va_A [(h0, .inr (2, [.int 0, .int 0, .int 0, .null, .null, .null, .null]))] sz) h0 t.heap) (va_A [(h0, .inr (2, [.int 0, .int 0, .int 0, .null, .null, .null, .null]))] sz)) 13 315 (va_A [(h0, .inr (2, [.int 0, .int 0, .int 0, .null, .null, .null, .null]))] sz) := by
  refine mt (by decide) (Nat.le_of_ble_eq_true rfl) ?_
  intro p e s m below meth c ls hx hb hr hml hts hown hlocks hin hsz hP hE hD hl
  subst hsz
  have hl : lv_has ls 2 [(0, .ref h0)] := hl
  have hD := hD.self (sz := s.heap.size)
  generalize hAe : va_A [(h0, .inr (2, [.int 0, .int 0, .int 0, .null, .null, .null, .null]))] s.heap.size = A at hD ⊢
  have hA : ∀ q : Nat, s.heap.size ≤ q → A q := fun q h => by rw [← hAe]; exact Or.inr h
  have hS : va_S A s.heap s.heap [] := va_S.rf
  refine lv_aload_n hx hb dX2_init_0 rfl (lv_at hl 0 rfl) ?_
  refine W.objInit hx hb hown (hts _ m_152) (hts _ m_107) (hts _ m_108) rfl (by rw [hml]; exact hl.1) rfl dX2_init_1 (Nat.le_of_ble_eq_true rfl) (Nat.le_of_ble_eq_true rfl) ?_
  refine W.eq (g2 := F0 m 4 ls []) rfl ?_
  refine lv_aload_n hx hb dX2_init_4 rfl (lv_at hl 0 rfl) ?_
  refine lv_iconst (v := 5) hx hb dX2_init_5 (by decide) ?_
  refine va_put (D := G) (ci := 2) (v := .int 5) (ty := .int) (C := RX2) (T := TX2) (N := 7) hx hb hts inB2 tyX2 tyX2_ok nmX2 hown hE.1 hP hD hS 0 rfl rfl 0 (by decide) (hts _ m_170) (fun _ h9 => h9) rfl (by decide +kernel) rfl rfl (Nat.le_of_ble_eq_true rfl) dX2_init_6 (fun H locs hP hD hS => ?_)
  have hP : va_P G classes [(h0, .inr (2, [.int 5, .int 0, .int 0, .null, .null, .null, .null]))] H := hP
  have hD : va_D A [(h0, .inr (2, [.int 5, .int 0, .int 0, .null, .null, .null, .null]))] := hD
  refine lv_aload_n hx hb dX2_init_9 rfl (lv_at hl 0 rfl) ?_
  refine lv_bipush (v := 9) hx hb dX2_init_10 (by decide) ?_
  refine va_put (D := G) (ci := 2) (v := .int 9) (ty := .int) (C := RX2) (T := TX2) (N := 7) hx hb hts inB2 tyX2 tyX2_ok nmX2 hown hE.1 hP hD hS 0 rfl rfl 1 (by decide) (hts _ m_171) (fun _ h9 => h9) rfl (by decide +kernel) rfl rfl (Nat.le_of_ble_eq_true rfl) dX2_init_12 (fun H locs hP hD hS => ?_)
  have hP : va_P G classes [(h0, .inr (2, [.int 5, .int 9, .int 0, .null, .null, .null, .null]))] H := hP
  have hD : va_D A [(h0, .inr (2, [.int 5, .int 9, .int 0, .null, .null, .null, .null]))] := hD
  refine lv_aload_n hx hb dX2_init_15 rfl (lv_at hl 0 rfl) ?_
  refine lv_iconst (v := 0) hx hb dX2_init_16 (by decide) ?_
  refine va_put (D := G) (ci := 2) (v := .int 0) (ty := .int) (C := RX2) (T := TX2) (N := 7) hx hb hts inB2 tyX2 tyX2_ok nmX2 hown hE.1 hP hD hS 0 rfl rfl 2 (by decide) (hts _ m_172) (fun _ h9 => h9) rfl (by decide +kernel) rfl rfl (Nat.le_of_ble_eq_true rfl) dX2_init_17 (fun H locs hP hD hS => ?_)
  have hP : va_P G classes [(h0, .inr (2, [.int 5, .int 9, .int 0, .null, .null, .null, .null]))] H := hP
  have hD : va_D A [(h0, .inr (2, [.int 5, .int 9, .int 0, .null, .null, .null, .null]))] := hD
  refine lv_aload_n hx hb dX2_init_20 rfl (lv_at hl 0 rfl) ?_
  refine lv_iconst (v := 5) hx hb dX2_init_21 (by decide) ?_
  refine nwI (n := 5) (N := 5) hx hb hts m_146 hE hP hD hS hA (by decide) (by decide) (Nat.le_of_ble_eq_true rfl) (Nat.le_of_ble_eq_true rfl) (Nat.le_of_ble_eq_true rfl) dX2_init_22 (fun nq1 H hP hD hS => ?_)
  have hP : va_P G classes [(h0, .inr (2, [.int 5, .int 9, .int 0, .null, .null, .null, .null])), (nq1, .inl (cy 0, 5, .inl (fun _ => 0)))] H := hP
  have hD : va_D A [(h0, .inr (2, [.int 5, .int 9, .int 0, .null, .null, .null, .null])), (nq1, .inl (cy 0, 5, .inl (fun _ => 0)))] := hD
  refine va_putF (D := G) (ci := 2) (v := .ref nq1) (ty := (.array .int)) (C := RX2) (T := TX2) (N := 7) hx hb hts inB2 tyX2 tyX2_ok nmX2 hown hE.1 hP hD hS 0 rfl rfl 3 (by decide) (hts _ m_173) (fun _ h9 => h9) rfl hin rfl (by decide +kernel) rfl rfl (Nat.le_of_ble_eq_true rfl) dX2_init_24 (fun H locs hP hD hS => ?_)
  have hP : va_P G classes [(h0, .inr (2, [.int 5, .int 9, .int 0, .ref nq1, .null, .null, .null])), (nq1, .inl (cy 0, 5, .inl (fun _ => 0)))] H := hP
  have hD : va_D A [(h0, .inr (2, [.int 5, .int 9, .int 0, .ref nq1, .null, .null, .null])), (nq1, .inl (cy 0, 5, .inl (fun _ => 0)))] := hD
  refine lv_aload_n hx hb dX2_init_27 rfl (lv_at hl 0 rfl) ?_
  refine lv_iconst (v := 5) hx hb dX2_init_28 (by decide) ?_
  refine nwI (n := 5) (N := 5) hx hb hts m_146 hE hP hD hS hA (by decide) (by decide) (Nat.le_of_ble_eq_true rfl) (Nat.le_of_ble_eq_true rfl) (Nat.le_of_ble_eq_true rfl) dX2_init_29 (fun nq2 H hP hD hS => ?_)
  have hP : va_P G classes [(h0, .inr (2, [.int 5, .int 9, .int 0, .ref nq1, .null, .null, .null])), (nq1, .inl (cy 0, 5, .inl (fun _ => 0))), (nq2, .inl (cy 0, 5, .inl (fun _ => 0)))] H := hP
  have hD : va_D A [(h0, .inr (2, [.int 5, .int 9, .int 0, .ref nq1, .null, .null, .null])), (nq1, .inl (cy 0, 5, .inl (fun _ => 0))), (nq2, .inl (cy 0, 5, .inl (fun _ => 0)))] := hD
  refine va_putF (D := G) (ci := 2) (v := .ref nq2) (ty := (.array .int)) (C := RX2) (T := TX2) (N := 7) hx hb hts inB2 tyX2 tyX2_ok nmX2 hown hE.1 hP hD hS 0 rfl rfl 4 (by decide) (hts _ m_174) (fun _ h9 => h9) rfl hin rfl (by decide +kernel) rfl rfl (Nat.le_of_ble_eq_true rfl) dX2_init_31 (fun H locs hP hD hS => ?_)
  have hP : va_P G classes [(h0, .inr (2, [.int 5, .int 9, .int 0, .ref nq1, .ref nq2, .null, .null])), (nq1, .inl (cy 0, 5, .inl (fun _ => 0))), (nq2, .inl (cy 0, 5, .inl (fun _ => 0)))] H := hP
  have hD : va_D A [(h0, .inr (2, [.int 5, .int 9, .int 0, .ref nq1, .ref nq2, .null, .null])), (nq1, .inl (cy 0, 5, .inl (fun _ => 0))), (nq2, .inl (cy 0, 5, .inl (fun _ => 0)))] := hD
  refine lv_aload_n hx hb dX2_init_34 rfl (lv_at hl 0 rfl) ?_
  refine lv_iconst (v := 3) hx hb dX2_init_35 (by decide) ?_
  refine nwQ (n := 3) (N := 3) (C := "ClickStreet$Formula") (t0 := 3) hx hb hown hts m_153 (by decide) hE hP hD hS hA rfl (by decide) (by decide) (Nat.le_of_ble_eq_true rfl) (Nat.le_of_ble_eq_true rfl) (Nat.le_of_ble_eq_true rfl) dX2_init_36 (fun nq3 H hP hD hS => ?_)
  have hP : va_P G classes [(h0, .inr (2, [.int 5, .int 9, .int 0, .ref nq1, .ref nq2, .null, .null])), (nq1, .inl (cy 0, 5, .inl (fun _ => 0))), (nq2, .inl (cy 0, 5, .inl (fun _ => 0))), (nq3, .inl (cy 3, 3, .inr (.inr (.inr (.inr (fun _ => none))))))] H := hP
  have hD : va_D A [(h0, .inr (2, [.int 5, .int 9, .int 0, .ref nq1, .ref nq2, .null, .null])), (nq1, .inl (cy 0, 5, .inl (fun _ => 0))), (nq2, .inl (cy 0, 5, .inl (fun _ => 0))), (nq3, .inl (cy 3, 3, .inr (.inr (.inr (.inr (fun _ => none))))))] := hD
  refine va_putF (D := G) (ci := 2) (v := .ref nq3) (ty := (.array (.object "ClickStreet$Formula"))) (C := RX2) (T := TX2) (N := 7) hx hb hts inB2 tyX2 tyX2_ok nmX2 hown hE.1 hP hD hS 0 rfl rfl 5 (by decide) (hts _ m_175) (fun _ h9 => h9) rfl hin rfl (by decide +kernel) rfl rfl (Nat.le_of_ble_eq_true rfl) dX2_init_39 (fun H locs hP hD hS => ?_)
  have hP : va_P G classes [(h0, .inr (2, [.int 5, .int 9, .int 0, .ref nq1, .ref nq2, .ref nq3, .null])), (nq1, .inl (cy 0, 5, .inl (fun _ => 0))), (nq2, .inl (cy 0, 5, .inl (fun _ => 0))), (nq3, .inl (cy 3, 3, .inr (.inr (.inr (.inr (fun _ => none))))))] H := hP
  have hD : va_D A [(h0, .inr (2, [.int 5, .int 9, .int 0, .ref nq1, .ref nq2, .ref nq3, .null])), (nq1, .inl (cy 0, 5, .inl (fun _ => 0))), (nq2, .inl (cy 0, 5, .inl (fun _ => 0))), (nq3, .inl (cy 3, 3, .inr (.inr (.inr (.inr (fun _ => none))))))] := hD
  refine lv_aload_n hx hb dX2_init_42 rfl (lv_at hl 0 rfl) ?_
  refine lv_iconst (v := 5) hx hb dX2_init_43 (by decide) ?_
  refine nwI (n := 5) (N := 5) hx hb hts m_146 hE hP hD hS hA (by decide) (by decide) (Nat.le_of_ble_eq_true rfl) (Nat.le_of_ble_eq_true rfl) (Nat.le_of_ble_eq_true rfl) dX2_init_44 (fun nq4 H hP hD hS => ?_)
  have hP : va_P G classes [(h0, .inr (2, [.int 5, .int 9, .int 0, .ref nq1, .ref nq2, .ref nq3, .null])), (nq1, .inl (cy 0, 5, .inl (fun _ => 0))), (nq2, .inl (cy 0, 5, .inl (fun _ => 0))), (nq3, .inl (cy 3, 3, .inr (.inr (.inr (.inr (fun _ => none)))))), (nq4, .inl (cy 0, 5, .inl (fun _ => 0)))] H := hP
  have hD : va_D A [(h0, .inr (2, [.int 5, .int 9, .int 0, .ref nq1, .ref nq2, .ref nq3, .null])), (nq1, .inl (cy 0, 5, .inl (fun _ => 0))), (nq2, .inl (cy 0, 5, .inl (fun _ => 0))), (nq3, .inl (cy 3, 3, .inr (.inr (.inr (.inr (fun _ => none)))))), (nq4, .inl (cy 0, 5, .inl (fun _ => 0)))] := hD
  refine va_putF (D := G) (ci := 2) (v := .ref nq4) (ty := (.array .int)) (C := RX2) (T := TX2) (N := 7) hx hb hts inB2 tyX2 tyX2_ok nmX2 hown hE.1 hP hD hS 0 rfl rfl 6 (by decide) (hts _ m_177) (fun _ h9 => h9) rfl hin rfl (by decide +kernel) rfl rfl (Nat.le_of_ble_eq_true rfl) dX2_init_46 (fun H locs hP hD hS => ?_)
  have hP : va_P G classes [(h0, .inr (2, [.int 5, .int 9, .int 0, .ref nq1, .ref nq2, .ref nq3, .ref nq4])), (nq1, .inl (cy 0, 5, .inl (fun _ => 0))), (nq2, .inl (cy 0, 5, .inl (fun _ => 0))), (nq3, .inl (cy 3, 3, .inr (.inr (.inr (.inr (fun _ => none)))))), (nq4, .inl (cy 0, 5, .inl (fun _ => 0)))] H := hP
  have hD : va_D A [(h0, .inr (2, [.int 5, .int 9, .int 0, .ref nq1, .ref nq2, .ref nq3, .ref nq4])), (nq1, .inl (cy 0, 5, .inl (fun _ => 0))), (nq2, .inl (cy 0, 5, .inl (fun _ => 0))), (nq3, .inl (cy 3, 3, .inr (.inr (.inr (.inr (fun _ => none)))))), (nq4, .inl (cy 0, 5, .inl (fun _ => 0)))] := hD
  refine lv_iconst (v := 0) hx hb dX2_init_49 (by decide) ?_
  refine lv_istore_n (lv' := [(1, .int 0), (0, .ref h0)]) hx hb dX2_init_50 rfl hl (by decide) rfl (fun ls hl => ?_)
  refine lv_iload_n hx hb dX2_init_51 rfl (lv_at hl 0 rfl) ?_
  refine lv_iconst (v := 5) hx hb dX2_init_52 (by decide) ?_
  refine lv_icmp_ge (tgt := 70) hx hb dX2_init_53 (by decide) (fun h9 => absurd h9 (by decide)) (fun _ => ?_)
  refine lv_aload_n hx hb dX2_init_56 rfl (lv_at hl 1 rfl) ?_
  refine va_get (D := G) (ci := 2) (v := .ref nq1) (C := RX2) (T := TX2) (N := 7) hx hb hts inB2 hown hE.1 hP 0 rfl rfl 3 (by decide) (hts _ m_173) (fun _ h9 => h9) rfl dX2_init_57 ?_
  refine lv_iload_n hx hb dX2_init_60 rfl (lv_at hl 0 rfl) ?_
  refine lv_bipush (v := 50) hx hb dX2_init_61 (by decide) ?_
  refine va_iast hx hb hE.1 hP hD hS 1 0 rfl rfl (vinL (by decide)) dX2_init_63 (fun H locs hP hD hS => ?_)
  have hP : va_P G classes [(h0, .inr (2, [.int 5, .int 9, .int 0, .ref nq1, .ref nq2, .ref nq3, .ref nq4])), (nq1, .inl (cy 0, 5, .inl (upd (fun _ => 0) 0 50))), (nq2, .inl (cy 0, 5, .inl (fun _ => 0))), (nq3, .inl (cy 3, 3, .inr (.inr (.inr (.inr (fun _ => none)))))), (nq4, .inl (cy 0, 5, .inl (fun _ => 0)))] H := hP
  have hD : va_D A [(h0, .inr (2, [.int 5, .int 9, .int 0, .ref nq1, .ref nq2, .ref nq3, .ref nq4])), (nq1, .inl (cy 0, 5, .inl (upd (fun _ => 0) 0 50))), (nq2, .inl (cy 0, 5, .inl (fun _ => 0))), (nq3, .inl (cy 3, 3, .inr (.inr (.inr (.inr (fun _ => none)))))), (nq4, .inl (cy 0, 5, .inl (fun _ => 0)))] := hD
  refine lv_iinc (v := 1) (lv' := [(1, .int 1), (0, .ref h0)]) hx hb dX2_init_64 hl (k := 0) rfl (by decide) (by decide) rfl (fun ls hl => ?_)
  refine lv_goto (tgt := 51) hx hb dX2_init_67 (by decide) ?_
  refine lv_iload_n hx hb dX2_init_51 rfl (lv_at hl 0 rfl) ?_
  refine lv_iconst (v := 5) hx hb dX2_init_52 (by decide) ?_
  refine lv_icmp_ge (tgt := 70) hx hb dX2_init_53 (by decide) (fun h9 => absurd h9 (by decide)) (fun _ => ?_)
  refine lv_aload_n hx hb dX2_init_56 rfl (lv_at hl 1 rfl) ?_
  refine va_get (D := G) (ci := 2) (v := .ref nq1) (C := RX2) (T := TX2) (N := 7) hx hb hts inB2 hown hE.1 hP 0 rfl rfl 3 (by decide) (hts _ m_173) (fun _ h9 => h9) rfl dX2_init_57 ?_
  refine lv_iload_n hx hb dX2_init_60 rfl (lv_at hl 0 rfl) ?_
  refine lv_bipush (v := 50) hx hb dX2_init_61 (by decide) ?_
  refine va_iast hx hb hE.1 hP hD hS 1 0 rfl rfl (vinL (by decide)) dX2_init_63 (fun H locs hP hD hS => ?_)
  have hP : va_P G classes [(h0, .inr (2, [.int 5, .int 9, .int 0, .ref nq1, .ref nq2, .ref nq3, .ref nq4])), (nq1, .inl (cy 0, 5, .inl (upd (upd (fun _ => 0) 0 50) 1 50))), (nq2, .inl (cy 0, 5, .inl (fun _ => 0))), (nq3, .inl (cy 3, 3, .inr (.inr (.inr (.inr (fun _ => none)))))), (nq4, .inl (cy 0, 5, .inl (fun _ => 0)))] H := hP
  have hD : va_D A [(h0, .inr (2, [.int 5, .int 9, .int 0, .ref nq1, .ref nq2, .ref nq3, .ref nq4])), (nq1, .inl (cy 0, 5, .inl (upd (upd (fun _ => 0) 0 50) 1 50))), (nq2, .inl (cy 0, 5, .inl (fun _ => 0))), (nq3, .inl (cy 3, 3, .inr (.inr (.inr (.inr (fun _ => none)))))), (nq4, .inl (cy 0, 5, .inl (fun _ => 0)))] := hD
  refine lv_iinc (v := 2) (lv' := [(1, .int 2), (0, .ref h0)]) hx hb dX2_init_64 hl (k := 0) rfl (by decide) (by decide) rfl (fun ls hl => ?_)
  refine lv_goto (tgt := 51) hx hb dX2_init_67 (by decide) ?_
  refine lv_iload_n hx hb dX2_init_51 rfl (lv_at hl 0 rfl) ?_
  refine lv_iconst (v := 5) hx hb dX2_init_52 (by decide) ?_
  refine lv_icmp_ge (tgt := 70) hx hb dX2_init_53 (by decide) (fun h9 => absurd h9 (by decide)) (fun _ => ?_)
  refine lv_aload_n hx hb dX2_init_56 rfl (lv_at hl 1 rfl) ?_
  refine va_get (D := G) (ci := 2) (v := .ref nq1) (C := RX2) (T := TX2) (N := 7) hx hb hts inB2 hown hE.1 hP 0 rfl rfl 3 (by decide) (hts _ m_173) (fun _ h9 => h9) rfl dX2_init_57 ?_
  refine lv_iload_n hx hb dX2_init_60 rfl (lv_at hl 0 rfl) ?_
  refine lv_bipush (v := 50) hx hb dX2_init_61 (by decide) ?_
  refine va_iast hx hb hE.1 hP hD hS 1 0 rfl rfl (vinL (by decide)) dX2_init_63 (fun H locs hP hD hS => ?_)
  have hP : va_P G classes [(h0, .inr (2, [.int 5, .int 9, .int 0, .ref nq1, .ref nq2, .ref nq3, .ref nq4])), (nq1, .inl (cy 0, 5, .inl (upd (upd (upd (fun _ => 0) 0 50) 1 50) 2 50))), (nq2, .inl (cy 0, 5, .inl (fun _ => 0))), (nq3, .inl (cy 3, 3, .inr (.inr (.inr (.inr (fun _ => none)))))), (nq4, .inl (cy 0, 5, .inl (fun _ => 0)))] H := hP
  have hD : va_D A [(h0, .inr (2, [.int 5, .int 9, .int 0, .ref nq1, .ref nq2, .ref nq3, .ref nq4])), (nq1, .inl (cy 0, 5, .inl (upd (upd (upd (fun _ => 0) 0 50) 1 50) 2 50))), (nq2, .inl (cy 0, 5, .inl (fun _ => 0))), (nq3, .inl (cy 3, 3, .inr (.inr (.inr (.inr (fun _ => none)))))), (nq4, .inl (cy 0, 5, .inl (fun _ => 0)))] := hD
  refine lv_iinc (v := 3) (lv' := [(1, .int 3), (0, .ref h0)]) hx hb dX2_init_64 hl (k := 0) rfl (by decide) (by decide) rfl (fun ls hl => ?_)
  refine lv_goto (tgt := 51) hx hb dX2_init_67 (by decide) ?_
  refine lv_iload_n hx hb dX2_init_51 rfl (lv_at hl 0 rfl) ?_
  refine lv_iconst (v := 5) hx hb dX2_init_52 (by decide) ?_
  refine lv_icmp_ge (tgt := 70) hx hb dX2_init_53 (by decide) (fun h9 => absurd h9 (by decide)) (fun _ => ?_)
  refine lv_aload_n hx hb dX2_init_56 rfl (lv_at hl 1 rfl) ?_
  refine va_get (D := G) (ci := 2) (v := .ref nq1) (C := RX2) (T := TX2) (N := 7) hx hb hts inB2 hown hE.1 hP 0 rfl rfl 3 (by decide) (hts _ m_173) (fun _ h9 => h9) rfl dX2_init_57 ?_
  refine lv_iload_n hx hb dX2_init_60 rfl (lv_at hl 0 rfl) ?_
  refine lv_bipush (v := 50) hx hb dX2_init_61 (by decide) ?_
  refine va_iast hx hb hE.1 hP hD hS 1 0 rfl rfl (vinL (by decide)) dX2_init_63 (fun H locs hP hD hS => ?_)
  have hP : va_P G classes [(h0, .inr (2, [.int 5, .int 9, .int 0, .ref nq1, .ref nq2, .ref nq3, .ref nq4])), (nq1, .inl (cy 0, 5, .inl (upd (upd (upd (upd (fun _ => 0) 0 50) 1 50) 2 50) 3 50))), (nq2, .inl (cy 0, 5, .inl (fun _ => 0))), (nq3, .inl (cy 3, 3, .inr (.inr (.inr (.inr (fun _ => none)))))), (nq4, .inl (cy 0, 5, .inl (fun _ => 0)))] H := hP
  have hD : va_D A [(h0, .inr (2, [.int 5, .int 9, .int 0, .ref nq1, .ref nq2, .ref nq3, .ref nq4])), (nq1, .inl (cy 0, 5, .inl (upd (upd (upd (upd (fun _ => 0) 0 50) 1 50) 2 50) 3 50))), (nq2, .inl (cy 0, 5, .inl (fun _ => 0))), (nq3, .inl (cy 3, 3, .inr (.inr (.inr (.inr (fun _ => none)))))), (nq4, .inl (cy 0, 5, .inl (fun _ => 0)))] := hD
  refine lv_iinc (v := 4) (lv' := [(1, .int 4), (0, .ref h0)]) hx hb dX2_init_64 hl (k := 0) rfl (by decide) (by decide) rfl (fun ls hl => ?_)
  refine lv_goto (tgt := 51) hx hb dX2_init_67 (by decide) ?_
  refine lv_iload_n hx hb dX2_init_51 rfl (lv_at hl 0 rfl) ?_
  refine lv_iconst (v := 5) hx hb dX2_init_52 (by decide) ?_
  refine lv_icmp_ge (tgt := 70) hx hb dX2_init_53 (by decide) (fun h9 => absurd h9 (by decide)) (fun _ => ?_)
  refine lv_aload_n hx hb dX2_init_56 rfl (lv_at hl 1 rfl) ?_
  refine va_get (D := G) (ci := 2) (v := .ref nq1) (C := RX2) (T := TX2) (N := 7) hx hb hts inB2 hown hE.1 hP 0 rfl rfl 3 (by decide) (hts _ m_173) (fun _ h9 => h9) rfl dX2_init_57 ?_
  refine lv_iload_n hx hb dX2_init_60 rfl (lv_at hl 0 rfl) ?_
  refine lv_bipush (v := 50) hx hb dX2_init_61 (by decide) ?_
  refine va_iast hx hb hE.1 hP hD hS 1 0 rfl rfl (vinL (by decide)) dX2_init_63 (fun H locs hP hD hS => ?_)
  have hP : va_P G classes [(h0, .inr (2, [.int 5, .int 9, .int 0, .ref nq1, .ref nq2, .ref nq3, .ref nq4])), (nq1, .inl (cy 0, 5, .inl (upd (upd (upd (upd (upd (fun _ => 0) 0 50) 1 50) 2 50) 3 50) 4 50))), (nq2, .inl (cy 0, 5, .inl (fun _ => 0))), (nq3, .inl (cy 3, 3, .inr (.inr (.inr (.inr (fun _ => none)))))), (nq4, .inl (cy 0, 5, .inl (fun _ => 0)))] H := hP
  have hD : va_D A [(h0, .inr (2, [.int 5, .int 9, .int 0, .ref nq1, .ref nq2, .ref nq3, .ref nq4])), (nq1, .inl (cy 0, 5, .inl (upd (upd (upd (upd (upd (fun _ => 0) 0 50) 1 50) 2 50) 3 50) 4 50))), (nq2, .inl (cy 0, 5, .inl (fun _ => 0))), (nq3, .inl (cy 3, 3, .inr (.inr (.inr (.inr (fun _ => none)))))), (nq4, .inl (cy 0, 5, .inl (fun _ => 0)))] := hD
  refine lv_iinc (v := 5) (lv' := [(1, .int 5), (0, .ref h0)]) hx hb dX2_init_64 hl (k := 0) rfl (by decide) (by decide) rfl (fun ls hl => ?_)
  refine lv_goto (tgt := 51) hx hb dX2_init_67 (by decide) ?_
  refine lv_iload_n hx hb dX2_init_51 rfl (lv_at hl 0 rfl) ?_
  refine lv_iconst (v := 5) hx hb dX2_init_52 (by decide) ?_
  refine lv_icmp_ge (tgt := 70) hx hb dX2_init_53 (by decide) (fun _ => ?_) (fun h9 => absurd h9 (by decide))
  refine lv_iconst (v := 0) hx hb dX2_init_70 (by decide) ?_
  refine lv_istore_n (lv' := [(1, .int 0), (0, .ref h0)]) hx hb dX2_init_71 rfl hl (by decide) rfl (fun ls hl => ?_)
  refine lv_iload_n hx hb dX2_init_72 rfl (lv_at hl 0 rfl) ?_
  refine lv_iconst (v := 3) hx hb dX2_init_73 (by decide) ?_
  refine lv_icmp_ge (tgt := 96) hx hb dX2_init_74 (by decide) (fun h9 => absurd h9 (by decide)) (fun _ => ?_)
  refine lv_aload_n hx hb dX2_init_77 rfl (lv_at hl 1 rfl) ?_
  refine va_get (D := G) (ci := 2) (v := .ref nq3) (C := RX2) (T := TX2) (N := 7) hx hb hts inB2 hown hE.1 hP 0 rfl rfl 5 (by decide) (hts _ m_175) (fun _ h9 => h9) rfl dX2_init_78 ?_
  refine lv_iload_n hx hb dX2_init_81 rfl (lv_at hl 0 rfl) ?_
  refine va_new (ci := 1) (fs := [.null, .null, .int 0]) (C := RX1) (T := TX1) (N := 3) hx hb hts inB1 tyX1 tyX1_ok hown (hts _ m_153) (hts _ m_155) (hts _ m_83) hE.1 hP hD hS hA rfl df1 (Nat.le_of_ble_eq_true rfl) (Nat.le_of_ble_eq_true rfl) dX2_init_82 (fun nq5 H hP hD hS => ?_)
  have hP : va_P G classes [(h0, .inr (2, [.int 5, .int 9, .int 0, .ref nq1, .ref nq2, .ref nq3, .ref nq4])), (nq1, .inl (cy 0, 5, .inl (upd (upd (upd (upd (upd (fun _ => 0) 0 50) 1 50) 2 50) 3 50) 4 50))), (nq2, .inl (cy 0, 5, .inl (fun _ => 0))), (nq3, .inl (cy 3, 3, .inr (.inr (.inr (.inr (fun _ => none)))))), (nq4, .inl (cy 0, 5, .inl (fun _ => 0))), (nq5, .inr (1, [.null, .null, .int 0]))] H := hP
  have hD : va_D A [(h0, .inr (2, [.int 5, .int 9, .int 0, .ref nq1, .ref nq2, .ref nq3, .ref nq4])), (nq1, .inl (cy 0, 5, .inl (upd (upd (upd (upd (upd (fun _ => 0) 0 50) 1 50) 2 50) 3 50) 4 50))), (nq2, .inl (cy 0, 5, .inl (fun _ => 0))), (nq3, .inl (cy 3, 3, .inr (.inr (.inr (.inr (fun _ => none)))))), (nq4, .inl (cy 0, 5, .inl (fun _ => 0))), (nq5, .inr (1, [.null, .null, .int 0]))] := hD
  refine lv_dup hx hb dX2_init_85 rfl ?_
  refine wIN (B := (B_c_X1_init G cy (va_A [(nq5, .inr (1, [.null, .null, .int 0]))] H.size) nq5)) (wr := [(h0, .inr (2, [.int 5, .int 9, .int 0, .ref nq1, .ref nq2, .ref nq3, .ref nq4])), (nq1, .inl (cy 0, 5, .inl (upd (upd (upd (upd (upd (fun _ => 0) 0 50) 1 50) 2 50) 3 50) 4 50))), (nq2, .inl (cy 0, 5, .inl (fun _ => 0))), (nq3, .inl (cy 3, 3, .inr (.inr (.inr (.inr (fun _ => none)))))), (nq4, .inl (cy 0, 5, .inl (fun _ => 0)))]) (rest := [.ref nq5, .int 0, .ref nq3]) (host := "ClickStreet") hx hb hml hown hts hE (c_X1_init l G cy sk H.size nq5) kI_X1_init (by decide +kernel) rfl rfl ⟨(Nat.le_of_ble_eq_true rfl), (Nat.le_of_ble_eq_true rfl)⟩ hP hD hS hA [5] [0, 1, 2, 3, 4] rfl rfl rfl rfl (by decide) rfl rfl hl.1 (Nat.le_of_ble_eq_true rfl) dX2_init_86 ⟨(Nat.le_of_ble_eq_true rfl), (Nat.le_of_ble_eq_true rfl)⟩ (fun H locs haf hS => ?_)
  obtain ⟨xq7, xq8, hP1, hD1⟩ := haf.1
  obtain ⟨hP, hD⟩ := haf.2.1 _ hP1 hD1
  have hP : va_P G classes [(h0, .inr (2, [.int 5, .int 9, .int 0, .ref nq1, .ref nq2, .ref nq3, .ref nq4])), (nq1, .inl (cy 0, 5, .inl (upd (upd (upd (upd (upd (fun _ => 0) 0 50) 1 50) 2 50) 3 50) 4 50))), (nq2, .inl (cy 0, 5, .inl (fun _ => 0))), (nq3, .inl (cy 3, 3, .inr (.inr (.inr (.inr (fun _ => none)))))), (nq4, .inl (cy 0, 5, .inl (fun _ => 0))), (nq5, .inr (1, [.ref xq7, .ref xq8, .int 0])), (xq7, .inl (cy 0, 48, .inl (fun _ => 0)))] H := hP
  have hD : va_D A [(h0, .inr (2, [.int 5, .int 9, .int 0, .ref nq1, .ref nq2, .ref nq3, .ref nq4])), (nq1, .inl (cy 0, 5, .inl (upd (upd (upd (upd (upd (fun _ => 0) 0 50) 1 50) 2 50) 3 50) 4 50))), (nq2, .inl (cy 0, 5, .inl (fun _ => 0))), (nq3, .inl (cy 3, 3, .inr (.inr (.inr (.inr (fun _ => none)))))), (nq4, .inl (cy 0, 5, .inl (fun _ => 0))), (nq5, .inr (1, [.ref xq7, .ref xq8, .int 0])), (xq7, .inl (cy 0, 48, .inl (fun _ => 0)))] := hD
  refine va_astq hx hb hE.1 hP hD hS 3 3 5 1 rfl rfl rfl rfl (vinL (by decide)) dX2_init_89 (fun H locs hP hD hS => ?_)
  have hP : va_P G classes [(h0, .inr (2, [.int 5, .int 9, .int 0, .ref nq1, .ref nq2, .ref nq3, .ref nq4])), (nq1, .inl (cy 0, 5, .inl (upd (upd (upd (upd (upd (fun _ => 0) 0 50) 1 50) 2 50) 3 50) 4 50))), (nq2, .inl (cy 0, 5, .inl (fun _ => 0))), (nq3, .inl (cy 3, 3, .inr (.inr (.inr (.inr (va_up (fun _ => none) 0 (some nq5))))))), (nq4, .inl (cy 0, 5, .inl (fun _ => 0))), (nq5, .inr (1, [.ref xq7, .ref xq8, .int 0])), (xq7, .inl (cy 0, 48, .inl (fun _ => 0)))] H := hP
  have hD : va_D A [(h0, .inr (2, [.int 5, .int 9, .int 0, .ref nq1, .ref nq2, .ref nq3, .ref nq4])), (nq1, .inl (cy 0, 5, .inl (upd (upd (upd (upd (upd (fun _ => 0) 0 50) 1 50) 2 50) 3 50) 4 50))), (nq2, .inl (cy 0, 5, .inl (fun _ => 0))), (nq3, .inl (cy 3, 3, .inr (.inr (.inr (.inr (va_up (fun _ => none) 0 (some nq5))))))), (nq4, .inl (cy 0, 5, .inl (fun _ => 0))), (nq5, .inr (1, [.ref xq7, .ref xq8, .int 0])), (xq7, .inl (cy 0, 48, .inl (fun _ => 0)))] := hD
  refine lv_iinc (v := 1) (lv' := [(1, .int 1), (0, .ref h0)]) hx hb dX2_init_90 hl (k := 0) rfl (by decide) (by decide) rfl (fun ls hl => ?_)
  refine lv_goto (tgt := 72) hx hb dX2_init_93 (by decide) ?_
  refine lv_iload_n hx hb dX2_init_72 rfl (lv_at hl 0 rfl) ?_
  refine lv_iconst (v := 3) hx hb dX2_init_73 (by decide) ?_
  refine lv_icmp_ge (tgt := 96) hx hb dX2_init_74 (by decide) (fun h9 => absurd h9 (by decide)) (fun _ => ?_)
  refine lv_aload_n hx hb dX2_init_77 rfl (lv_at hl 1 rfl) ?_
  refine va_get (D := G) (ci := 2) (v := .ref nq3) (C := RX2) (T := TX2) (N := 7) hx hb hts inB2 hown hE.1 hP 0 rfl rfl 5 (by decide) (hts _ m_175) (fun _ h9 => h9) rfl dX2_init_78 ?_
  refine lv_iload_n hx hb dX2_init_81 rfl (lv_at hl 0 rfl) ?_
  refine va_new (ci := 1) (fs := [.null, .null, .int 0]) (C := RX1) (T := TX1) (N := 3) hx hb hts inB1 tyX1 tyX1_ok hown (hts _ m_153) (hts _ m_155) (hts _ m_83) hE.1 hP hD hS hA rfl df1 (Nat.le_of_ble_eq_true rfl) (Nat.le_of_ble_eq_true rfl) dX2_init_82 (fun nq9 H hP hD hS => ?_)
  have hP : va_P G classes [(h0, .inr (2, [.int 5, .int 9, .int 0, .ref nq1, .ref nq2, .ref nq3, .ref nq4])), (nq1, .inl (cy 0, 5, .inl (upd (upd (upd (upd (upd (fun _ => 0) 0 50) 1 50) 2 50) 3 50) 4 50))), (nq2, .inl (cy 0, 5, .inl (fun _ => 0))), (nq3, .inl (cy 3, 3, .inr (.inr (.inr (.inr (va_up (fun _ => none) 0 (some nq5))))))), (nq4, .inl (cy 0, 5, .inl (fun _ => 0))), (nq5, .inr (1, [.ref xq7, .ref xq8, .int 0])), (xq7, .inl (cy 0, 48, .inl (fun _ => 0))), (nq9, .inr (1, [.null, .null, .int 0]))] H := hP
  have hD : va_D A [(h0, .inr (2, [.int 5, .int 9, .int 0, .ref nq1, .ref nq2, .ref nq3, .ref nq4])), (nq1, .inl (cy 0, 5, .inl (upd (upd (upd (upd (upd (fun _ => 0) 0 50) 1 50) 2 50) 3 50) 4 50))), (nq2, .inl (cy 0, 5, .inl (fun _ => 0))), (nq3, .inl (cy 3, 3, .inr (.inr (.inr (.inr (va_up (fun _ => none) 0 (some nq5))))))), (nq4, .inl (cy 0, 5, .inl (fun _ => 0))), (nq5, .inr (1, [.ref xq7, .ref xq8, .int 0])), (xq7, .inl (cy 0, 48, .inl (fun _ => 0))), (nq9, .inr (1, [.null, .null, .int 0]))] := hD
  refine lv_dup hx hb dX2_init_85 rfl ?_
  refine wIN (B := (B_c_X1_init G cy (va_A [(nq9, .inr (1, [.null, .null, .int 0]))] H.size) nq9)) (wr := [(h0, .inr (2, [.int 5, .int 9, .int 0, .ref nq1, .ref nq2, .ref nq3, .ref nq4])), (nq1, .inl (cy 0, 5, .inl (upd (upd (upd (upd (upd (fun _ => 0) 0 50) 1 50) 2 50) 3 50) 4 50))), (nq2, .inl (cy 0, 5, .inl (fun _ => 0))), (nq3, .inl (cy 3, 3, .inr (.inr (.inr (.inr (va_up (fun _ => none) 0 (some nq5))))))), (nq4, .inl (cy 0, 5, .inl (fun _ => 0))), (nq5, .inr (1, [.ref xq7, .ref xq8, .int 0])), (xq7, .inl (cy 0, 48, .inl (fun _ => 0)))]) (rest := [.ref nq9, .int 1, .ref nq3]) (host := "ClickStreet") hx hb hml hown hts hE (c_X1_init l G cy sk H.size nq9) kI_X1_init (by decide +kernel) rfl rfl ⟨(Nat.le_of_ble_eq_true rfl), (Nat.le_of_ble_eq_true rfl)⟩ hP hD hS hA [7] [0, 1, 2, 3, 4, 5, 6] rfl rfl rfl rfl (by decide) rfl rfl hl.1 (Nat.le_of_ble_eq_true rfl) dX2_init_86 ⟨(Nat.le_of_ble_eq_true rfl), (Nat.le_of_ble_eq_true rfl)⟩ (fun H locs haf hS => ?_)
  obtain ⟨xq11, xq12, hP1, hD1⟩ := haf.1
  obtain ⟨hP, hD⟩ := haf.2.1 _ hP1 hD1
  have hP : va_P G classes [(h0, .inr (2, [.int 5, .int 9, .int 0, .ref nq1, .ref nq2, .ref nq3, .ref nq4])), (nq1, .inl (cy 0, 5, .inl (upd (upd (upd (upd (upd (fun _ => 0) 0 50) 1 50) 2 50) 3 50) 4 50))), (nq2, .inl (cy 0, 5, .inl (fun _ => 0))), (nq3, .inl (cy 3, 3, .inr (.inr (.inr (.inr (va_up (fun _ => none) 0 (some nq5))))))), (nq4, .inl (cy 0, 5, .inl (fun _ => 0))), (nq5, .inr (1, [.ref xq7, .ref xq8, .int 0])), (xq7, .inl (cy 0, 48, .inl (fun _ => 0))), (nq9, .inr (1, [.ref xq11, .ref xq12, .int 0])), (xq11, .inl (cy 0, 48, .inl (fun _ => 0)))] H := hP
  have hD : va_D A [(h0, .inr (2, [.int 5, .int 9, .int 0, .ref nq1, .ref nq2, .ref nq3, .ref nq4])), (nq1, .inl (cy 0, 5, .inl (upd (upd (upd (upd (upd (fun _ => 0) 0 50) 1 50) 2 50) 3 50) 4 50))), (nq2, .inl (cy 0, 5, .inl (fun _ => 0))), (nq3, .inl (cy 3, 3, .inr (.inr (.inr (.inr (va_up (fun _ => none) 0 (some nq5))))))), (nq4, .inl (cy 0, 5, .inl (fun _ => 0))), (nq5, .inr (1, [.ref xq7, .ref xq8, .int 0])), (xq7, .inl (cy 0, 48, .inl (fun _ => 0))), (nq9, .inr (1, [.ref xq11, .ref xq12, .int 0])), (xq11, .inl (cy 0, 48, .inl (fun _ => 0)))] := hD
  refine va_astq hx hb hE.1 hP hD hS 3 3 7 1 rfl rfl rfl rfl (vinL (by decide)) dX2_init_89 (fun H locs hP hD hS => ?_)
  have hP : va_P G classes [(h0, .inr (2, [.int 5, .int 9, .int 0, .ref nq1, .ref nq2, .ref nq3, .ref nq4])), (nq1, .inl (cy 0, 5, .inl (upd (upd (upd (upd (upd (fun _ => 0) 0 50) 1 50) 2 50) 3 50) 4 50))), (nq2, .inl (cy 0, 5, .inl (fun _ => 0))), (nq3, .inl (cy 3, 3, .inr (.inr (.inr (.inr (va_up (va_up (fun _ => none) 0 (some nq5)) 1 (some nq9))))))), (nq4, .inl (cy 0, 5, .inl (fun _ => 0))), (nq5, .inr (1, [.ref xq7, .ref xq8, .int 0])), (xq7, .inl (cy 0, 48, .inl (fun _ => 0))), (nq9, .inr (1, [.ref xq11, .ref xq12, .int 0])), (xq11, .inl (cy 0, 48, .inl (fun _ => 0)))] H := hP
  have hD : va_D A [(h0, .inr (2, [.int 5, .int 9, .int 0, .ref nq1, .ref nq2, .ref nq3, .ref nq4])), (nq1, .inl (cy 0, 5, .inl (upd (upd (upd (upd (upd (fun _ => 0) 0 50) 1 50) 2 50) 3 50) 4 50))), (nq2, .inl (cy 0, 5, .inl (fun _ => 0))), (nq3, .inl (cy 3, 3, .inr (.inr (.inr (.inr (va_up (va_up (fun _ => none) 0 (some nq5)) 1 (some nq9))))))), (nq4, .inl (cy 0, 5, .inl (fun _ => 0))), (nq5, .inr (1, [.ref xq7, .ref xq8, .int 0])), (xq7, .inl (cy 0, 48, .inl (fun _ => 0))), (nq9, .inr (1, [.ref xq11, .ref xq12, .int 0])), (xq11, .inl (cy 0, 48, .inl (fun _ => 0)))] := hD
  refine lv_iinc (v := 2) (lv' := [(1, .int 2), (0, .ref h0)]) hx hb dX2_init_90 hl (k := 0) rfl (by decide) (by decide) rfl (fun ls hl => ?_)
  refine lv_goto (tgt := 72) hx hb dX2_init_93 (by decide) ?_
  refine lv_iload_n hx hb dX2_init_72 rfl (lv_at hl 0 rfl) ?_
  refine lv_iconst (v := 3) hx hb dX2_init_73 (by decide) ?_
  refine lv_icmp_ge (tgt := 96) hx hb dX2_init_74 (by decide) (fun h9 => absurd h9 (by decide)) (fun _ => ?_)
  refine lv_aload_n hx hb dX2_init_77 rfl (lv_at hl 1 rfl) ?_
  refine va_get (D := G) (ci := 2) (v := .ref nq3) (C := RX2) (T := TX2) (N := 7) hx hb hts inB2 hown hE.1 hP 0 rfl rfl 5 (by decide) (hts _ m_175) (fun _ h9 => h9) rfl dX2_init_78 ?_
  refine lv_iload_n hx hb dX2_init_81 rfl (lv_at hl 0 rfl) ?_
  refine va_new (ci := 1) (fs := [.null, .null, .int 0]) (C := RX1) (T := TX1) (N := 3) hx hb hts inB1 tyX1 tyX1_ok hown (hts _ m_153) (hts _ m_155) (hts _ m_83) hE.1 hP hD hS hA rfl df1 (Nat.le_of_ble_eq_true rfl) (Nat.le_of_ble_eq_true rfl) dX2_init_82 (fun nq13 H hP hD hS => ?_)
  have hP : va_P G classes [(h0, .inr (2, [.int 5, .int 9, .int 0, .ref nq1, .ref nq2, .ref nq3, .ref nq4])), (nq1, .inl (cy 0, 5, .inl (upd (upd (upd (upd (upd (fun _ => 0) 0 50) 1 50) 2 50) 3 50) 4 50))), (nq2, .inl (cy 0, 5, .inl (fun _ => 0))), (nq3, .inl (cy 3, 3, .inr (.inr (.inr (.inr (va_up (va_up (fun _ => none) 0 (some nq5)) 1 (some nq9))))))), (nq4, .inl (cy 0, 5, .inl (fun _ => 0))), (nq5, .inr (1, [.ref xq7, .ref xq8, .int 0])), (xq7, .inl (cy 0, 48, .inl (fun _ => 0))), (nq9, .inr (1, [.ref xq11, .ref xq12, .int 0])), (xq11, .inl (cy 0, 48, .inl (fun _ => 0))), (nq13, .inr (1, [.null, .null, .int 0]))] H := hP
  have hD : va_D A [(h0, .inr (2, [.int 5, .int 9, .int 0, .ref nq1, .ref nq2, .ref nq3, .ref nq4])), (nq1, .inl (cy 0, 5, .inl (upd (upd (upd (upd (upd (fun _ => 0) 0 50) 1 50) 2 50) 3 50) 4 50))), (nq2, .inl (cy 0, 5, .inl (fun _ => 0))), (nq3, .inl (cy 3, 3, .inr (.inr (.inr (.inr (va_up (va_up (fun _ => none) 0 (some nq5)) 1 (some nq9))))))), (nq4, .inl (cy 0, 5, .inl (fun _ => 0))), (nq5, .inr (1, [.ref xq7, .ref xq8, .int 0])), (xq7, .inl (cy 0, 48, .inl (fun _ => 0))), (nq9, .inr (1, [.ref xq11, .ref xq12, .int 0])), (xq11, .inl (cy 0, 48, .inl (fun _ => 0))), (nq13, .inr (1, [.null, .null, .int 0]))] := hD
  refine lv_dup hx hb dX2_init_85 rfl ?_
  refine wIN (B := (B_c_X1_init G cy (va_A [(nq13, .inr (1, [.null, .null, .int 0]))] H.size) nq13)) (wr := [(h0, .inr (2, [.int 5, .int 9, .int 0, .ref nq1, .ref nq2, .ref nq3, .ref nq4])), (nq1, .inl (cy 0, 5, .inl (upd (upd (upd (upd (upd (fun _ => 0) 0 50) 1 50) 2 50) 3 50) 4 50))), (nq2, .inl (cy 0, 5, .inl (fun _ => 0))), (nq3, .inl (cy 3, 3, .inr (.inr (.inr (.inr (va_up (va_up (fun _ => none) 0 (some nq5)) 1 (some nq9))))))), (nq4, .inl (cy 0, 5, .inl (fun _ => 0))), (nq5, .inr (1, [.ref xq7, .ref xq8, .int 0])), (xq7, .inl (cy 0, 48, .inl (fun _ => 0))), (nq9, .inr (1, [.ref xq11, .ref xq12, .int 0])), (xq11, .inl (cy 0, 48, .inl (fun _ => 0)))]) (rest := [.ref nq13, .int 2, .ref nq3]) (host := "ClickStreet") hx hb hml hown hts hE (c_X1_init l G cy sk H.size nq13) kI_X1_init (by decide +kernel) rfl rfl ⟨(Nat.le_of_ble_eq_true rfl), (Nat.le_of_ble_eq_true rfl)⟩ hP hD hS hA [9] [0, 1, 2, 3, 4, 5, 6, 7, 8] rfl rfl rfl rfl (by decide) rfl rfl hl.1 (Nat.le_of_ble_eq_true rfl) dX2_init_86 ⟨(Nat.le_of_ble_eq_true rfl), (Nat.le_of_ble_eq_true rfl)⟩ (fun H locs haf hS => ?_)
  obtain ⟨xq15, xq16, hP1, hD1⟩ := haf.1
  obtain ⟨hP, hD⟩ := haf.2.1 _ hP1 hD1
  have hP : va_P G classes [(h0, .inr (2, [.int 5, .int 9, .int 0, .ref nq1, .ref nq2, .ref nq3, .ref nq4])), (nq1, .inl (cy 0, 5, .inl (upd (upd (upd (upd (upd (fun _ => 0) 0 50) 1 50) 2 50) 3 50) 4 50))), (nq2, .inl (cy 0, 5, .inl (fun _ => 0))), (nq3, .inl (cy 3, 3, .inr (.inr (.inr (.inr (va_up (va_up (fun _ => none) 0 (some nq5)) 1 (some nq9))))))), (nq4, .inl (cy 0, 5, .inl (fun _ => 0))), (nq5, .inr (1, [.ref xq7, .ref xq8, .int 0])), (xq7, .inl (cy 0, 48, .inl (fun _ => 0))), (nq9, .inr (1, [.ref xq11, .ref xq12, .int 0])), (xq11, .inl (cy 0, 48, .inl (fun _ => 0))), (nq13, .inr (1, [.ref xq15, .ref xq16, .int 0])), (xq15, .inl (cy 0, 48, .inl (fun _ => 0)))] H := hP
  have hD : va_D A [(h0, .inr (2, [.int 5, .int 9, .int 0, .ref nq1, .ref nq2, .ref nq3, .ref nq4])), (nq1, .inl (cy 0, 5, .inl (upd (upd (upd (upd (upd (fun _ => 0) 0 50) 1 50) 2 50) 3 50) 4 50))), (nq2, .inl (cy 0, 5, .inl (fun _ => 0))), (nq3, .inl (cy 3, 3, .inr (.inr (.inr (.inr (va_up (va_up (fun _ => none) 0 (some nq5)) 1 (some nq9))))))), (nq4, .inl (cy 0, 5, .inl (fun _ => 0))), (nq5, .inr (1, [.ref xq7, .ref xq8, .int 0])), (xq7, .inl (cy 0, 48, .inl (fun _ => 0))), (nq9, .inr (1, [.ref xq11, .ref xq12, .int 0])), (xq11, .inl (cy 0, 48, .inl (fun _ => 0))), (nq13, .inr (1, [.ref xq15, .ref xq16, .int 0])), (xq15, .inl (cy 0, 48, .inl (fun _ => 0)))] := hD
  refine va_astq hx hb hE.1 hP hD hS 3 3 9 1 rfl rfl rfl rfl (vinL (by decide)) dX2_init_89 (fun H locs hP hD hS => ?_)
  have hP : va_P G classes [(h0, .inr (2, [.int 5, .int 9, .int 0, .ref nq1, .ref nq2, .ref nq3, .ref nq4])), (nq1, .inl (cy 0, 5, .inl (upd (upd (upd (upd (upd (fun _ => 0) 0 50) 1 50) 2 50) 3 50) 4 50))), (nq2, .inl (cy 0, 5, .inl (fun _ => 0))), (nq3, .inl (cy 3, 3, .inr (.inr (.inr (.inr (va_up (va_up (va_up (fun _ => none) 0 (some nq5)) 1 (some nq9)) 2 (some nq13))))))), (nq4, .inl (cy 0, 5, .inl (fun _ => 0))), (nq5, .inr (1, [.ref xq7, .ref xq8, .int 0])), (xq7, .inl (cy 0, 48, .inl (fun _ => 0))), (nq9, .inr (1, [.ref xq11, .ref xq12, .int 0])), (xq11, .inl (cy 0, 48, .inl (fun _ => 0))), (nq13, .inr (1, [.ref xq15, .ref xq16, .int 0])), (xq15, .inl (cy 0, 48, .inl (fun _ => 0)))] H := hP
  have hD : va_D A [(h0, .inr (2, [.int 5, .int 9, .int 0, .ref nq1, .ref nq2, .ref nq3, .ref nq4])), (nq1, .inl (cy 0, 5, .inl (upd (upd (upd (upd (upd (fun _ => 0) 0 50) 1 50) 2 50) 3 50) 4 50))), (nq2, .inl (cy 0, 5, .inl (fun _ => 0))), (nq3, .inl (cy 3, 3, .inr (.inr (.inr (.inr (va_up (va_up (va_up (fun _ => none) 0 (some nq5)) 1 (some nq9)) 2 (some nq13))))))), (nq4, .inl (cy 0, 5, .inl (fun _ => 0))), (nq5, .inr (1, [.ref xq7, .ref xq8, .int 0])), (xq7, .inl (cy 0, 48, .inl (fun _ => 0))), (nq9, .inr (1, [.ref xq11, .ref xq12, .int 0])), (xq11, .inl (cy 0, 48, .inl (fun _ => 0))), (nq13, .inr (1, [.ref xq15, .ref xq16, .int 0])), (xq15, .inl (cy 0, 48, .inl (fun _ => 0)))] := hD
  refine lv_iinc (v := 3) (lv' := [(1, .int 3), (0, .ref h0)]) hx hb dX2_init_90 hl (k := 0) rfl (by decide) (by decide) rfl (fun ls hl => ?_)
  refine lv_goto (tgt := 72) hx hb dX2_init_93 (by decide) ?_
  refine lv_iload_n hx hb dX2_init_72 rfl (lv_at hl 0 rfl) ?_
  refine lv_iconst (v := 3) hx hb dX2_init_73 (by decide) ?_
  refine lv_icmp_ge (tgt := 96) hx hb dX2_init_74 (by decide) (fun _ => ?_) (fun h9 => absurd h9 (by decide))
  have hP9 := P_cut (wc := [(h0, .inr (2, [.int 5, .int 9, .int 0, .ref nq1, .ref nq2, .ref nq3, .ref nq4])), (nq1, .inl (cy 0, 5, .inl (upd (upd (upd (upd (upd (fun _ => 0) 0 50) 1 50) 2 50) 3 50) 4 50))), (nq2, .inl (cy 0, 5, .inl (fun _ => 0))), (nq3, .inl (cy 3, 3, .inr (.inr (.inr (.inr (va_up (va_up (va_up (fun _ => none) 0 (some nq5)) 1 (some nq9)) 2 (some nq13))))))), (nq5, .inr (1, [.ref xq7, .ref xq8, .int 0])), (xq7, .inl (cy 0, 48, .inl (fun _ => 0))), (nq9, .inr (1, [.ref xq11, .ref xq12, .int 0])), (xq11, .inl (cy 0, 48, .inl (fun _ => 0))), (nq13, .inr (1, [.ref xq15, .ref xq16, .int 0])), (xq15, .inl (cy 0, 48, .inl (fun _ => 0)))]) hP [0, 1, 2, 3, 5, 6, 7, 8, 9, 10] rfl
  have hD9 := hD.sub (ws' := [(h0, .inr (2, [.int 5, .int 9, .int 0, .ref nq1, .ref nq2, .ref nq3, .ref nq4])), (nq1, .inl (cy 0, 5, .inl (upd (upd (upd (upd (upd (fun _ => 0) 0 50) 1 50) 2 50) 3 50) 4 50))), (nq2, .inl (cy 0, 5, .inl (fun _ => 0))), (nq3, .inl (cy 3, 3, .inr (.inr (.inr (.inr (va_up (va_up (va_up (fun _ => none) 0 (some nq5)) 1 (some nq9)) 2 (some nq13))))))), (nq5, .inr (1, [.ref xq7, .ref xq8, .int 0])), (xq7, .inl (cy 0, 48, .inl (fun _ => 0))), (nq9, .inr (1, [.ref xq11, .ref xq12, .int 0])), (xq11, .inl (cy 0, 48, .inl (fun _ => 0))), (nq13, .inr (1, [.ref xq15, .ref xq16, .int 0])), (xq15, .inl (cy 0, 48, .inl (fun _ => 0)))]) [0, 1, 2, 3, 5, 6, 7, 8, 9, 10] (by decide) rfl
  refine W.widen (k := 13) (n := 315) (by first | exact Nat.le_of_ble_eq_true rfl | omega) (by first | exact Nat.le_of_ble_eq_true rfl | omega) ?_
  exact W.vret hx hb hr (fun t ht hW => ⟨⟨(), rfl, trivial, by dsimp only; rw [ht]; exact ⟨nq1, nq2, nq3, nq4, nq5, nq9, nq13, xq7, xq11, xq15, xq8, xq12, xq16, (upd (upd (upd (upd (upd (fun _ => 0) 0 50) 1 50) 2 50) 3 50) 4 50), (va_up (va_up (va_up (fun _ => none) 0 (some nq5)) 1 (some nq9)) 2 (some nq13)), (fun j hj => co_dec (N := 5) (P := fun j => (upd (upd (upd (upd (upd (fun _ => 0) 0 50) 1 50) 2 50) 3 50) 4 50) j = 50) (by decide) hj), rfl, rfl, rfl, hP9, hD9⟩⟩, hS.F ht⟩) hS.2.2 dX2_init_96
theorem kf_c_X2_changeKind_0 (fl : Nat → Int32) (kd : Int32) (wh : Int32) (hfl : ∀ j, j < 5 → fl j = 50) (hk : inR kd 0 4) (c_1 : ¬ wh = 0) (h9 : kd < 0) : False := by simp only [inR, Int32.le_iff_toInt_le, Int32.lt_iff_toInt_lt] at *; simp at *; omega
theorem kf_c_X2_changeKind_1 (fl : Nat → Int32) (kd : Int32) (wh : Int32) (hfl : ∀ j, j < 5 → fl j = 50) (hk : inR kd 0 4) (c_1 : ¬ wh = 0) (h9 : ¬ kd < 5) : False := by simp only [inR, Int32.le_iff_toInt_le, Int32.lt_iff_toInt_lt] at *; simp at *; omega
theorem lf_c_X2_changeKind_2 (fl : Nat → Int32) (kd : Int32) (wh : Int32) (hfl : ∀ j, j < 5 → fl j = 50) (hk : inR kd 0 4) (c_1 : ¬ wh = 0) : (0 : Int32) = (if wh = 0 then 50 else 0) := by simp only [*, if_true, if_false]
theorem kf_c_X2_changeKind_3 (fl : Nat → Int32) (kd : Int32) (wh : Int32) (hfl : ∀ j, j < 5 → fl j = 50) (hk : inR kd 0 4) (c_1 : wh = 0) (h9 : kd < 0) : False := by simp only [inR, Int32.le_iff_toInt_le, Int32.lt_iff_toInt_lt] at *; simp at *; omega
theorem kf_c_X2_changeKind_4 (fl : Nat → Int32) (kd : Int32) (wh : Int32) (hfl : ∀ j, j < 5 → fl j = 50) (hk : inR kd 0 4) (c_1 : wh = 0) (h9 : ¬ kd < 5) : False := by simp only [inR, Int32.le_iff_toInt_le, Int32.lt_iff_toInt_lt] at *; simp at *; omega
theorem lf_c_X2_changeKind_5 (fl : Nat → Int32) (kd : Int32) (wh : Int32) (hfl : ∀ j, j < 5 → fl j = 50) (hk : inR kd 0 4) (c_1 : wh = 0) : (50 : Int32) = (if wh = 0 then 50 else 0) := by simp only [*, if_true, if_false]
set_option maxHeartbeats 4000000 in
set_option maxRecDepth 100000 in
theorem c_X2_changeKind (l : Launch) (G : va_G) (cy : Nat → ClassId) (sk : Nat → Nat) (sz : Nat) (la : Nat) (ld : Nat) (sr : Nat) (tx : Nat) (vl : Nat) (fl : Nat → Int32) (kd : Int32) (wh : Int32) (v : Int32) (hfl : ∀ j, j < 5 → fl j = 50) (hk : inR kd 0 4) : Met l yX2_changeKind (wsO yX2_changeKind cX2_changeKind 6 (some .int)) ({ frames := 0, cells := 0, slots := 0, locals := 0 }) (va_Pc [.ref la, .int kd, .int wh, .int v] (PR G cy sk sz [(la, .inr (2, [.int 5, .int 9, .int 0, .ref ld, .ref sr, .ref tx, .ref vl])), (ld, .inl (cy 0, 5, .inl fl)), (sr, .inl (cy 0, 5, .inl (fun _ => 0)))])) (va_Qi (fun r (_ : Unit) => r = (if wh = 0 then 50 else 0)) (fun _ _ => True) (va_A [(la, .inr (2, [.int 5, .int 9, .int 0, .ref ld, .ref sr, .ref tx, .ref vl])), (ld, .inl (cy 0, 5, .inl fl)), (sr, .inl (cy 0, 5, .inl (fun _ => 0)))] sz)) 0 0 (va_A [(la, .inr (2, [.int 5, .int 9, .int 0, .ref ld, .ref sr, .ref tx, .ref vl])), (ld, .inl (cy 0, 5, .inl fl)), (sr, .inl (cy 0, 5, .inl (fun _ => 0)))] sz) := by
  refine mt (by decide) (Nat.le_of_ble_eq_true rfl) ?_
  intro p e s m below meth c ls hx hb hr hml hts hown hlocks hin hsz hP hE hD hl
  subst hsz
  have hl : lv_has ls 6 [(0, .ref la), (1, .int kd), (2, .int wh), (3, .int v)] := hl
  have hD := hD.self (sz := s.heap.size)
  generalize hAe : va_A [(la, .inr (2, [.int 5, .int 9, .int 0, .ref ld, .ref sr, .ref tx, .ref vl])), (ld, .inl (cy 0, 5, .inl fl)), (sr, .inl (cy 0, 5, .inl (fun _ => 0)))] s.heap.size = A at hD ⊢
  have hA : ∀ q : Nat, s.heap.size ≤ q → A q := fun q h => by rw [← hAe]; exact Or.inr h
  have hS : va_S A s.heap s.heap [] := va_S.rf
  refine lv_iload_n hx hb dX2_changeKind_0 rfl (lv_at hl 2 rfl) ?_
  refine lv_if_ne (tgt := 11) hx hb dX2_changeKind_1 (by decide) (fun c_1 => ?_) (fun c_1 => ?_)
  · refine lv_aload_n hx hb dX2_changeKind_11 rfl (lv_at hl 0 rfl) ?_
    refine va_get (D := G) (ci := 2) (v := .ref sr) (C := RX2) (T := TX2) (N := 7) hx hb hts inB2 hown hE.1 hP 0 rfl rfl 4 (by decide) (hts _ m_174) (fun _ h9 => h9) rfl dX2_changeKind_12 ?_
    refine lv_astore (lv' := [(4, .ref sr), (0, .ref la), (1, .int kd), (2, .int wh), (3, .int v)]) hx hb dX2_changeKind_15 hl (by decide) rfl (fun ls hl => ?_)
    refine lv_iload_n hx hb dX2_changeKind_17 rfl (lv_at hl 2 rfl) ?_
    refine lv_if_lt (tgt := 28) hx hb dX2_changeKind_18 (by decide) (fun h9 => (kf_c_X2_changeKind_0 fl kd wh hfl hk c_1 h9).elim) (fun _ => ?_)
    refine lv_iload_n hx hb dX2_changeKind_21 rfl (lv_at hl 2 rfl) ?_
    refine lv_aload hx hb dX2_changeKind_22 (lv_at hl 0 rfl) ?_
    refine va_alen (v := 5) hx hb hE.1 hP 2 0 rfl rfl rfl dX2_changeKind_24 ?_
    refine lv_icmp_lt (tgt := 30) hx hb dX2_changeKind_25 (by decide) (fun _ => ?_) (fun h9 => (kf_c_X2_changeKind_1 fl kd wh hfl hk c_1 h9).elim)
    refine lv_aload hx hb dX2_changeKind_30 (lv_at hl 0 rfl) ?_
    refine lv_iload_n hx hb dX2_changeKind_32 rfl (lv_at hl 2 rfl) ?_
    refine va_iald hx hb hE.1 hP 2 0 rfl rfl (vinB hk (by decide) (by decide)) dX2_changeKind_33 ?_
    refine tp (v := 0) rfl ?_
    refine lv_istore (lv' := [(5, .int 0), (4, .ref sr), (0, .ref la), (1, .int kd), (2, .int wh), (3, .int v)]) hx hb dX2_changeKind_34 hl (by decide) rfl (fun ls hl => ?_)
    refine lv_aload hx hb dX2_changeKind_36 (lv_at hl 1 rfl) ?_
    refine lv_iload_n hx hb dX2_changeKind_38 rfl (lv_at hl 3 rfl) ?_
    refine lv_iload_n hx hb dX2_changeKind_39 rfl (lv_at hl 5 rfl) ?_
    refine va_iast hx hb hE.1 hP hD hS 2 0 rfl rfl (vinB hk (by decide) (by decide)) dX2_changeKind_40 (fun H locs hP hD hS => ?_)
    have hP : va_P G classes [(la, .inr (2, [.int 5, .int 9, .int 0, .ref ld, .ref sr, .ref tx, .ref vl])), (ld, .inl (cy 0, 5, .inl fl)), (sr, .inl (cy 0, 5, .inl (upd (fun _ => 0) (kd).toNatClampNeg v)))] H := hP
    have hD : va_D A [(la, .inr (2, [.int 5, .int 9, .int 0, .ref ld, .ref sr, .ref tx, .ref vl])), (ld, .inl (cy 0, 5, .inl fl)), (sr, .inl (cy 0, 5, .inl (upd (fun _ => 0) (kd).toNatClampNeg v)))] := hD
    refine lv_iload hx hb dX2_changeKind_41 (lv_at hl 0 rfl) ?_
    refine W.widen (k := 0) (n := 0) (by first | exact Nat.le_of_ble_eq_true rfl | omega) (by first | exact Nat.le_of_ble_eq_true rfl | omega) ?_
    exact W.iret (v := 0) hx hb hr (fun t ht hW => ⟨⟨0, (), rfl, (lf_c_X2_changeKind_2 fl kd wh hfl hk c_1), trivial⟩, hS.F ht⟩) hS.2.2 dX2_changeKind_43
  · refine lv_aload_n hx hb dX2_changeKind_4 rfl (lv_at hl 0 rfl) ?_
    refine va_get (D := G) (ci := 2) (v := .ref ld) (C := RX2) (T := TX2) (N := 7) hx hb hts inB2 hown hE.1 hP 0 rfl rfl 3 (by decide) (hts _ m_173) (fun _ h9 => h9) rfl dX2_changeKind_5 ?_
    refine lv_goto (tgt := 15) hx hb dX2_changeKind_8 (by decide) ?_
    refine lv_astore (lv' := [(4, .ref ld), (0, .ref la), (1, .int kd), (2, .int wh), (3, .int v)]) hx hb dX2_changeKind_15 hl (by decide) rfl (fun ls hl => ?_)
    refine lv_iload_n hx hb dX2_changeKind_17 rfl (lv_at hl 2 rfl) ?_
    refine lv_if_lt (tgt := 28) hx hb dX2_changeKind_18 (by decide) (fun h9 => (kf_c_X2_changeKind_3 fl kd wh hfl hk c_1 h9).elim) (fun _ => ?_)
    refine lv_iload_n hx hb dX2_changeKind_21 rfl (lv_at hl 2 rfl) ?_
    refine lv_aload hx hb dX2_changeKind_22 (lv_at hl 0 rfl) ?_
    refine va_alen (v := 5) hx hb hE.1 hP 1 0 rfl rfl rfl dX2_changeKind_24 ?_
    refine lv_icmp_lt (tgt := 30) hx hb dX2_changeKind_25 (by decide) (fun _ => ?_) (fun h9 => (kf_c_X2_changeKind_4 fl kd wh hfl hk c_1 h9).elim)
    refine lv_aload hx hb dX2_changeKind_30 (lv_at hl 0 rfl) ?_
    refine lv_iload_n hx hb dX2_changeKind_32 rfl (lv_at hl 2 rfl) ?_
    refine va_iald hx hb hE.1 hP 1 0 rfl rfl (vinB hk (by decide) (by decide)) dX2_changeKind_33 ?_
    refine tp (v := 50) (hfl _ (vinB_nat hk (by decide) (by decide))) ?_
    refine lv_istore (lv' := [(5, .int 50), (4, .ref ld), (0, .ref la), (1, .int kd), (2, .int wh), (3, .int v)]) hx hb dX2_changeKind_34 hl (by decide) rfl (fun ls hl => ?_)
    refine lv_aload hx hb dX2_changeKind_36 (lv_at hl 1 rfl) ?_
    refine lv_iload_n hx hb dX2_changeKind_38 rfl (lv_at hl 3 rfl) ?_
    refine lv_iload_n hx hb dX2_changeKind_39 rfl (lv_at hl 5 rfl) ?_
    refine va_iast hx hb hE.1 hP hD hS 1 0 rfl rfl (vinB hk (by decide) (by decide)) dX2_changeKind_40 (fun H locs hP hD hS => ?_)
    have hP : va_P G classes [(la, .inr (2, [.int 5, .int 9, .int 0, .ref ld, .ref sr, .ref tx, .ref vl])), (ld, .inl (cy 0, 5, .inl (upd fl (kd).toNatClampNeg v))), (sr, .inl (cy 0, 5, .inl (fun _ => 0)))] H := hP
    have hD : va_D A [(la, .inr (2, [.int 5, .int 9, .int 0, .ref ld, .ref sr, .ref tx, .ref vl])), (ld, .inl (cy 0, 5, .inl (upd fl (kd).toNatClampNeg v))), (sr, .inl (cy 0, 5, .inl (fun _ => 0)))] := hD
    refine lv_iload hx hb dX2_changeKind_41 (lv_at hl 0 rfl) ?_
    refine W.widen (k := 0) (n := 0) (by first | exact Nat.le_of_ble_eq_true rfl | omega) (by first | exact Nat.le_of_ble_eq_true rfl | omega) ?_
    exact W.iret (v := 50) hx hb hr (fun t ht hW => ⟨⟨50, (), rfl, (lf_c_X2_changeKind_5 fl kd wh hfl hk c_1), trivial⟩, hS.F ht⟩) hS.2.2 dX2_changeKind_43
end
section
theorem lf_c_X2_changeAir_0 (wh : Int32) (c_1 : ¬ wh = 0) (c_2 : ¬ wh = 1) : (0 : Int32) = (if wh = 0 then 5 else if wh = 1 then 9 else 0) := by simp_all
theorem lf_c_X2_changeAir_1 (wh : Int32) (c_1 : ¬ wh = 0) (c_2 : wh = 1) : (9 : Int32) = (if wh = 0 then 5 else if wh = 1 then 9 else 0) := by simp_all
theorem lf_c_X2_changeAir_2 (wh : Int32) (c_1 : wh = 0) : (5 : Int32) = (if wh = 0 then 5 else if wh = 1 then 9 else 0) := by simp_all
set_option maxHeartbeats 4000000 in
set_option maxRecDepth 100000 in
theorem c_X2_changeAir (l : Launch) (G : va_G) (cy : Nat → ClassId) (sk : Nat → Nat) (sz : Nat) (la : Nat) (ld : Nat) (sr : Nat) (tx : Nat) (vl : Nat) (wh : Int32) (v : Int32)  : Met l yX2_changeAir (wsO yX2_changeAir cX2_changeAir 4 (some .int)) ({ frames := 0, cells := 0, slots := 0, locals := 0 }) (va_Pc [.ref la, .int wh, .int v] (PR G cy sk sz [(la, .inr (2, [.int 5, .int 9, .int 0, .ref ld, .ref sr, .ref tx, .ref vl]))])) (va_Qi (fun r (_ : Unit) => r = (if wh = 0 then 5 else if wh = 1 then 9 else 0)) (fun _ _ => True) (va_A [(la, .inr (2, [.int 5, .int 9, .int 0, .ref ld, .ref sr, .ref tx, .ref vl]))] sz)) 0 0 (va_A [(la, .inr (2, [.int 5, .int 9, .int 0, .ref ld, .ref sr, .ref tx, .ref vl]))] sz) := by
  refine mt (by decide) (Nat.le_of_ble_eq_true rfl) ?_
  intro p e s m below meth c ls hx hb hr hml hts hown hlocks hin hsz hP hE hD hl
  subst hsz
  have hl : lv_has ls 4 [(0, .ref la), (1, .int wh), (2, .int v)] := hl
  have hD := hD.self (sz := s.heap.size)
  generalize hAe : va_A [(la, .inr (2, [.int 5, .int 9, .int 0, .ref ld, .ref sr, .ref tx, .ref vl]))] s.heap.size = A at hD ⊢
  have hA : ∀ q : Nat, s.heap.size ≤ q → A q := fun q h => by rw [← hAe]; exact Or.inr h
  have hS : va_S A s.heap s.heap [] := va_S.rf
  refine lv_iload_n hx hb dX2_changeAir_0 rfl (lv_at hl 1 rfl) ?_
  refine lv_if_ne (tgt := 11) hx hb dX2_changeAir_1 (by decide) (fun c_1 => ?_) (fun c_1 => ?_)
  · refine lv_iload_n hx hb dX2_changeAir_11 rfl (lv_at hl 1 rfl) ?_
    refine lv_iconst (v := 1) hx hb dX2_changeAir_12 (by decide) ?_
    refine lv_icmp_ne (tgt := 23) hx hb dX2_changeAir_13 (by decide) (fun c_2 => ?_) (fun c_2 => ?_)
    · refine lv_aload_n hx hb dX2_changeAir_23 rfl (lv_at hl 0 rfl) ?_
      refine va_get (D := G) (ci := 2) (v := .int 0) (C := RX2) (T := TX2) (N := 7) hx hb hts inB2 hown hE.1 hP 0 rfl rfl 2 (by decide) (hts _ m_172) (fun _ h9 => h9) rfl dX2_changeAir_24 ?_
      refine lv_istore_n (lv' := [(3, .int 0), (0, .ref la), (1, .int wh), (2, .int v)]) hx hb dX2_changeAir_27 rfl hl (by decide) rfl (fun ls hl => ?_)
      refine lv_iload_n hx hb dX2_changeAir_28 rfl (lv_at hl 2 rfl) ?_
      refine lv_if_ne (tgt := 40) hx hb dX2_changeAir_29 (by decide) (fun _ => ?_) (fun h9 => absurd h9 c_1)
      refine lv_iload_n hx hb dX2_changeAir_40 rfl (lv_at hl 2 rfl) ?_
      refine lv_iconst (v := 1) hx hb dX2_changeAir_41 (by decide) ?_
      refine lv_icmp_ne (tgt := 53) hx hb dX2_changeAir_42 (by decide) (fun _ => ?_) (fun h9 => absurd h9 c_2)
      refine lv_aload_n hx hb dX2_changeAir_53 rfl (lv_at hl 1 rfl) ?_
      refine lv_iload_n hx hb dX2_changeAir_54 rfl (lv_at hl 3 rfl) ?_
      refine va_put (D := G) (ci := 2) (v := .int v) (ty := .int) (C := RX2) (T := TX2) (N := 7) hx hb hts inB2 tyX2 tyX2_ok nmX2 hown hE.1 hP hD hS 0 rfl rfl 2 (by decide) (hts _ m_172) (fun _ h9 => h9) rfl (by decide +kernel) rfl rfl (Nat.le_of_ble_eq_true rfl) dX2_changeAir_55 (fun H locs hP hD hS => ?_)
      have hP : va_P G classes [(la, .inr (2, [.int 5, .int 9, .int v, .ref ld, .ref sr, .ref tx, .ref vl]))] H := hP
      have hD : va_D A [(la, .inr (2, [.int 5, .int 9, .int v, .ref ld, .ref sr, .ref tx, .ref vl]))] := hD
      refine lv_iload_n hx hb dX2_changeAir_58 rfl (lv_at hl 0 rfl) ?_
      refine W.widen (k := 0) (n := 0) (by first | exact Nat.le_of_ble_eq_true rfl | omega) (by first | exact Nat.le_of_ble_eq_true rfl | omega) ?_
      exact W.iret (v := 0) hx hb hr (fun t ht hW => ⟨⟨0, (), rfl, (lf_c_X2_changeAir_0 wh c_1 c_2), trivial⟩, hS.F ht⟩) hS.2.2 dX2_changeAir_59
    · refine lv_aload_n hx hb dX2_changeAir_16 rfl (lv_at hl 0 rfl) ?_
      refine va_get (D := G) (ci := 2) (v := .int 9) (C := RX2) (T := TX2) (N := 7) hx hb hts inB2 hown hE.1 hP 0 rfl rfl 1 (by decide) (hts _ m_171) (fun _ h9 => h9) rfl dX2_changeAir_17 ?_
      refine lv_goto (tgt := 27) hx hb dX2_changeAir_20 (by decide) ?_
      refine lv_istore_n (lv' := [(3, .int 9), (0, .ref la), (1, .int wh), (2, .int v)]) hx hb dX2_changeAir_27 rfl hl (by decide) rfl (fun ls hl => ?_)
      refine lv_iload_n hx hb dX2_changeAir_28 rfl (lv_at hl 2 rfl) ?_
      refine lv_if_ne (tgt := 40) hx hb dX2_changeAir_29 (by decide) (fun _ => ?_) (fun h9 => absurd h9 c_1)
      refine lv_iload_n hx hb dX2_changeAir_40 rfl (lv_at hl 2 rfl) ?_
      refine lv_iconst (v := 1) hx hb dX2_changeAir_41 (by decide) ?_
      refine lv_icmp_ne (tgt := 53) hx hb dX2_changeAir_42 (by decide) (fun h9 => absurd c_2 h9) (fun _ => ?_)
      refine lv_aload_n hx hb dX2_changeAir_45 rfl (lv_at hl 1 rfl) ?_
      refine lv_iload_n hx hb dX2_changeAir_46 rfl (lv_at hl 3 rfl) ?_
      refine va_put (D := G) (ci := 2) (v := .int v) (ty := .int) (C := RX2) (T := TX2) (N := 7) hx hb hts inB2 tyX2 tyX2_ok nmX2 hown hE.1 hP hD hS 0 rfl rfl 1 (by decide) (hts _ m_171) (fun _ h9 => h9) rfl (by decide +kernel) rfl rfl (Nat.le_of_ble_eq_true rfl) dX2_changeAir_47 (fun H locs hP hD hS => ?_)
      have hP : va_P G classes [(la, .inr (2, [.int 5, .int v, .int 0, .ref ld, .ref sr, .ref tx, .ref vl]))] H := hP
      have hD : va_D A [(la, .inr (2, [.int 5, .int v, .int 0, .ref ld, .ref sr, .ref tx, .ref vl]))] := hD
      refine lv_goto (tgt := 58) hx hb dX2_changeAir_50 (by decide) ?_
      refine lv_iload_n hx hb dX2_changeAir_58 rfl (lv_at hl 0 rfl) ?_
      refine W.widen (k := 0) (n := 0) (by first | exact Nat.le_of_ble_eq_true rfl | omega) (by first | exact Nat.le_of_ble_eq_true rfl | omega) ?_
      exact W.iret (v := 9) hx hb hr (fun t ht hW => ⟨⟨9, (), rfl, (lf_c_X2_changeAir_1 wh c_1 c_2), trivial⟩, hS.F ht⟩) hS.2.2 dX2_changeAir_59
  · refine lv_aload_n hx hb dX2_changeAir_4 rfl (lv_at hl 0 rfl) ?_
    refine va_get (D := G) (ci := 2) (v := .int 5) (C := RX2) (T := TX2) (N := 7) hx hb hts inB2 hown hE.1 hP 0 rfl rfl 0 (by decide) (hts _ m_170) (fun _ h9 => h9) rfl dX2_changeAir_5 ?_
    refine lv_goto (tgt := 27) hx hb dX2_changeAir_8 (by decide) ?_
    refine lv_istore_n (lv' := [(3, .int 5), (0, .ref la), (1, .int wh), (2, .int v)]) hx hb dX2_changeAir_27 rfl hl (by decide) rfl (fun ls hl => ?_)
    refine lv_iload_n hx hb dX2_changeAir_28 rfl (lv_at hl 2 rfl) ?_
    refine lv_if_ne (tgt := 40) hx hb dX2_changeAir_29 (by decide) (fun h9 => absurd c_1 h9) (fun _ => ?_)
    refine lv_aload_n hx hb dX2_changeAir_32 rfl (lv_at hl 1 rfl) ?_
    refine lv_iload_n hx hb dX2_changeAir_33 rfl (lv_at hl 3 rfl) ?_
    refine va_put (D := G) (ci := 2) (v := .int v) (ty := .int) (C := RX2) (T := TX2) (N := 7) hx hb hts inB2 tyX2 tyX2_ok nmX2 hown hE.1 hP hD hS 0 rfl rfl 0 (by decide) (hts _ m_170) (fun _ h9 => h9) rfl (by decide +kernel) rfl rfl (Nat.le_of_ble_eq_true rfl) dX2_changeAir_34 (fun H locs hP hD hS => ?_)
    have hP : va_P G classes [(la, .inr (2, [.int v, .int 9, .int 0, .ref ld, .ref sr, .ref tx, .ref vl]))] H := hP
    have hD : va_D A [(la, .inr (2, [.int v, .int 9, .int 0, .ref ld, .ref sr, .ref tx, .ref vl]))] := hD
    refine lv_goto (tgt := 58) hx hb dX2_changeAir_37 (by decide) ?_
    refine lv_iload_n hx hb dX2_changeAir_58 rfl (lv_at hl 0 rfl) ?_
    refine W.widen (k := 0) (n := 0) (by first | exact Nat.le_of_ble_eq_true rfl | omega) (by first | exact Nat.le_of_ble_eq_true rfl | omega) ?_
    exact W.iret (v := 5) hx hb hr (fun t ht hW => ⟨⟨5, (), rfl, (lf_c_X2_changeAir_2 wh c_1), trivial⟩, hS.F ht⟩) hS.2.2 dX2_changeAir_59
set_option maxHeartbeats 4000000 in
set_option maxRecDepth 100000 in
theorem c_X2_takeFrom (l : Launch) (G : va_G) (cy : Nat → ClassId) (sk : Nat → Nat) (sz : Nat) (la : Nat) (ld : Nat) (sr : Nat) (tx : Nat) (vl : Nat) (f0 : Nat) (f1 : Nat) (f2 : Nat) (c0 : Nat) (c1 : Nat) (c2 : Nat) (k0 : Nat) (k1 : Nat) (k2 : Nat) (fl : Nat → Int32) (gt : Nat → Option Nat) (pla : Nat) (pld : Nat) (psr : Nat) (ptx : Nat) (pvl : Nat) (pf0 : Nat) (pf1 : Nat) (pf2 : Nat) (pc0 : Nat) (pc1 : Nat) (pc2 : Nat) (pk0 : Nat) (pk1 : Nat) (pk2 : Nat) (pfl : Nat → Int32) (pgt : Nat → Option Nat) (hg0 : gt 0 = some f0) (hg1 : gt 1 = some f1) (hg2 : gt 2 = some f2) (ig0 : pgt 0 = some pf0) (ig1 : pgt 1 = some pf1) (ig2 : pgt 2 = some pf2) : Met l yX2_takeFrom (wsO yX2_takeFrom cX2_takeFrom 3 none) ({ frames := 2, cells := 0, slots := 0, locals := 61 }) (va_Pc [.ref la, .ref pla] (PR G cy sk sz [(la, .inr (2, [.int 5, .int 9, .int 0, .ref ld, .ref sr, .ref tx, .ref vl])), (ld, .inl (cy 0, 5, .inl fl)), (sr, .inl (cy 0, 5, .inl (fun _ => 0))), (tx, .inl (cy 3, 3, .inr (.inr (.inr (.inr gt))))), (f0, .inr (1, [.ref c0, .ref k0, .int 0])), (c0, .inl (cy 0, 48, .inl (fun _ => 0))), (f1, .inr (1, [.ref c1, .ref k1, .int 0])), (c1, .inl (cy 0, 48, .inl (fun _ => 0))), (f2, .inr (1, [.ref c2, .ref k2, .int 0])), (c2, .inl (cy 0, 48, .inl (fun _ => 0))), (pla, .inr (2, [.int 5, .int 9, .int 0, .ref pld, .ref psr, .ref ptx, .ref pvl])), (pld, .inl (cy 0, 5, .inl pfl)), (psr, .inl (cy 0, 5, .inl (fun _ => 0))), (ptx, .inl (cy 3, 3, .inr (.inr (.inr (.inr pgt))))), (pf0, .inr (1, [.ref pc0, .ref pk0, .int 0])), (pc0, .inl (cy 0, 48, .inl (fun _ => 0))), (pf1, .inr (1, [.ref pc1, .ref pk1, .int 0])), (pc1, .inl (cy 0, 48, .inl (fun _ => 0))), (pf2, .inr (1, [.ref pc2, .ref pk2, .int 0])), (pc2, .inl (cy 0, 48, .inl (fun _ => 0)))])) (va_Qv (fun (_ : Unit) => True) (fun _ _ => True) (va_A [(la, .inr (2, [.int 5, .int 9, .int 0, .ref ld, .ref sr, .ref tx, .ref vl])), (ld, .inl (cy 0, 5, .inl fl)), (sr, .inl (cy 0, 5, .inl (fun _ => 0))), (tx, .inl (cy 3, 3, .inr (.inr (.inr (.inr gt))))), (f0, .inr (1, [.ref c0, .ref k0, .int 0])), (c0, .inl (cy 0, 48, .inl (fun _ => 0))), (f1, .inr (1, [.ref c1, .ref k1, .int 0])), (c1, .inl (cy 0, 48, .inl (fun _ => 0))), (f2, .inr (1, [.ref c2, .ref k2, .int 0])), (c2, .inl (cy 0, 48, .inl (fun _ => 0))), (pla, .inr (2, [.int 5, .int 9, .int 0, .ref pld, .ref psr, .ref ptx, .ref pvl])), (pld, .inl (cy 0, 5, .inl pfl)), (psr, .inl (cy 0, 5, .inl (fun _ => 0))), (ptx, .inl (cy 3, 3, .inr (.inr (.inr (.inr pgt))))), (pf0, .inr (1, [.ref pc0, .ref pk0, .int 0])), (pc0, .inl (cy 0, 48, .inl (fun _ => 0))), (pf1, .inr (1, [.ref pc1, .ref pk1, .int 0])), (pc1, .inl (cy 0, 48, .inl (fun _ => 0))), (pf2, .inr (1, [.ref pc2, .ref pk2, .int 0])), (pc2, .inl (cy 0, 48, .inl (fun _ => 0)))] sz)) 0 0 (va_A [(la, .inr (2, [.int 5, .int 9, .int 0, .ref ld, .ref sr, .ref tx, .ref vl])), (ld, .inl (cy 0, 5, .inl fl)), (sr, .inl (cy 0, 5, .inl (fun _ => 0))), (tx, .inl (cy 3, 3, .inr (.inr (.inr (.inr gt))))), (f0, .inr (1, [.ref c0, .ref k0, .int 0])), (c0, .inl (cy 0, 48, .inl (fun _ => 0))), (f1, .inr (1, [.ref c1, .ref k1, .int 0])), (c1, .inl (cy 0, 48, .inl (fun _ => 0))), (f2, .inr (1, [.ref c2, .ref k2, .int 0])), (c2, .inl (cy 0, 48, .inl (fun _ => 0))), (pla, .inr (2, [.int 5, .int 9, .int 0, .ref pld, .ref psr, .ref ptx, .ref pvl])), (pld, .inl (cy 0, 5, .inl pfl)), (psr, .inl (cy 0, 5, .inl (fun _ => 0))), (ptx, .inl (cy 3, 3, .inr (.inr (.inr (.inr pgt))))), (pf0, .inr (1, [.ref pc0, .ref pk0, .int 0])), (pc0, .inl (cy 0, 48, .inl (fun _ => 0))), (pf1, .inr (1, [.ref pc1, .ref pk1, .int 0])), (pc1, .inl (cy 0, 48, .inl (fun _ => 0))), (pf2, .inr (1, [.ref pc2, .ref pk2, .int 0])), (pc2, .inl (cy 0, 48, .inl (fun _ => 0)))] sz) := by
  refine mt (by decide) (Nat.le_of_ble_eq_true rfl) ?_
  intro p e s m below meth c ls hx hb hr hml hts hown hlocks hin hsz hP hE hD hl
  subst hsz
  have hl : lv_has ls 3 [(0, .ref la), (1, .ref pla)] := hl
  have hD := hD.self (sz := s.heap.size)
  generalize hAe : va_A [(la, .inr (2, [.int 5, .int 9, .int 0, .ref ld, .ref sr, .ref tx, .ref vl])), (ld, .inl (cy 0, 5, .inl fl)), (sr, .inl (cy 0, 5, .inl (fun _ => 0))), (tx, .inl (cy 3, 3, .inr (.inr (.inr (.inr gt))))), (f0, .inr (1, [.ref c0, .ref k0, .int 0])), (c0, .inl (cy 0, 48, .inl (fun _ => 0))), (f1, .inr (1, [.ref c1, .ref k1, .int 0])), (c1, .inl (cy 0, 48, .inl (fun _ => 0))), (f2, .inr (1, [.ref c2, .ref k2, .int 0])), (c2, .inl (cy 0, 48, .inl (fun _ => 0))), (pla, .inr (2, [.int 5, .int 9, .int 0, .ref pld, .ref psr, .ref ptx, .ref pvl])), (pld, .inl (cy 0, 5, .inl pfl)), (psr, .inl (cy 0, 5, .inl (fun _ => 0))), (ptx, .inl (cy 3, 3, .inr (.inr (.inr (.inr pgt))))), (pf0, .inr (1, [.ref pc0, .ref pk0, .int 0])), (pc0, .inl (cy 0, 48, .inl (fun _ => 0))), (pf1, .inr (1, [.ref pc1, .ref pk1, .int 0])), (pc1, .inl (cy 0, 48, .inl (fun _ => 0))), (pf2, .inr (1, [.ref pc2, .ref pk2, .int 0])), (pc2, .inl (cy 0, 48, .inl (fun _ => 0)))] s.heap.size = A at hD ⊢
  have hA : ∀ q : Nat, s.heap.size ≤ q → A q := fun q h => by rw [← hAe]; exact Or.inr h
  have hS : va_S A s.heap s.heap [] := va_S.rf
  refine lv_aload_n hx hb dX2_takeFrom_0 rfl (lv_at hl 0 rfl) ?_
  refine lv_aload_n hx hb dX2_takeFrom_1 rfl (lv_at hl 1 rfl) ?_
  refine va_get (D := G) (ci := 2) (v := .int 5) (C := RX2) (T := TX2) (N := 7) hx hb hts inB2 hown hE.1 hP 10 rfl rfl 0 (by decide) (hts _ m_170) (fun _ h9 => h9) rfl dX2_takeFrom_2 ?_
  refine va_put (D := G) (ci := 2) (v := .int 5) (ty := .int) (C := RX2) (T := TX2) (N := 7) hx hb hts inB2 tyX2 tyX2_ok nmX2 hown hE.1 hP hD hS 0 rfl rfl 0 (by decide) (hts _ m_170) (fun _ h9 => h9) rfl (by decide +kernel) rfl rfl (Nat.le_of_ble_eq_true rfl) dX2_takeFrom_5 (fun H locs hP hD hS => ?_)
  have hP : va_P G classes [(la, .inr (2, [.int 5, .int 9, .int 0, .ref ld, .ref sr, .ref tx, .ref vl])), (ld, .inl (cy 0, 5, .inl fl)), (sr, .inl (cy 0, 5, .inl (fun _ => 0))), (tx, .inl (cy 3, 3, .inr (.inr (.inr (.inr gt))))), (f0, .inr (1, [.ref c0, .ref k0, .int 0])), (c0, .inl (cy 0, 48, .inl (fun _ => 0))), (f1, .inr (1, [.ref c1, .ref k1, .int 0])), (c1, .inl (cy 0, 48, .inl (fun _ => 0))), (f2, .inr (1, [.ref c2, .ref k2, .int 0])), (c2, .inl (cy 0, 48, .inl (fun _ => 0))), (pla, .inr (2, [.int 5, .int 9, .int 0, .ref pld, .ref psr, .ref ptx, .ref pvl])), (pld, .inl (cy 0, 5, .inl pfl)), (psr, .inl (cy 0, 5, .inl (fun _ => 0))), (ptx, .inl (cy 3, 3, .inr (.inr (.inr (.inr pgt))))), (pf0, .inr (1, [.ref pc0, .ref pk0, .int 0])), (pc0, .inl (cy 0, 48, .inl (fun _ => 0))), (pf1, .inr (1, [.ref pc1, .ref pk1, .int 0])), (pc1, .inl (cy 0, 48, .inl (fun _ => 0))), (pf2, .inr (1, [.ref pc2, .ref pk2, .int 0])), (pc2, .inl (cy 0, 48, .inl (fun _ => 0)))] H := hP
  have hD : va_D A [(la, .inr (2, [.int 5, .int 9, .int 0, .ref ld, .ref sr, .ref tx, .ref vl])), (ld, .inl (cy 0, 5, .inl fl)), (sr, .inl (cy 0, 5, .inl (fun _ => 0))), (tx, .inl (cy 3, 3, .inr (.inr (.inr (.inr gt))))), (f0, .inr (1, [.ref c0, .ref k0, .int 0])), (c0, .inl (cy 0, 48, .inl (fun _ => 0))), (f1, .inr (1, [.ref c1, .ref k1, .int 0])), (c1, .inl (cy 0, 48, .inl (fun _ => 0))), (f2, .inr (1, [.ref c2, .ref k2, .int 0])), (c2, .inl (cy 0, 48, .inl (fun _ => 0))), (pla, .inr (2, [.int 5, .int 9, .int 0, .ref pld, .ref psr, .ref ptx, .ref pvl])), (pld, .inl (cy 0, 5, .inl pfl)), (psr, .inl (cy 0, 5, .inl (fun _ => 0))), (ptx, .inl (cy 3, 3, .inr (.inr (.inr (.inr pgt))))), (pf0, .inr (1, [.ref pc0, .ref pk0, .int 0])), (pc0, .inl (cy 0, 48, .inl (fun _ => 0))), (pf1, .inr (1, [.ref pc1, .ref pk1, .int 0])), (pc1, .inl (cy 0, 48, .inl (fun _ => 0))), (pf2, .inr (1, [.ref pc2, .ref pk2, .int 0])), (pc2, .inl (cy 0, 48, .inl (fun _ => 0)))] := hD
  refine lv_aload_n hx hb dX2_takeFrom_8 rfl (lv_at hl 0 rfl) ?_
  refine lv_aload_n hx hb dX2_takeFrom_9 rfl (lv_at hl 1 rfl) ?_
  refine va_get (D := G) (ci := 2) (v := .int 9) (C := RX2) (T := TX2) (N := 7) hx hb hts inB2 hown hE.1 hP 10 rfl rfl 1 (by decide) (hts _ m_171) (fun _ h9 => h9) rfl dX2_takeFrom_10 ?_
  refine va_put (D := G) (ci := 2) (v := .int 9) (ty := .int) (C := RX2) (T := TX2) (N := 7) hx hb hts inB2 tyX2 tyX2_ok nmX2 hown hE.1 hP hD hS 0 rfl rfl 1 (by decide) (hts _ m_171) (fun _ h9 => h9) rfl (by decide +kernel) rfl rfl (Nat.le_of_ble_eq_true rfl) dX2_takeFrom_13 (fun H locs hP hD hS => ?_)
  have hP : va_P G classes [(la, .inr (2, [.int 5, .int 9, .int 0, .ref ld, .ref sr, .ref tx, .ref vl])), (ld, .inl (cy 0, 5, .inl fl)), (sr, .inl (cy 0, 5, .inl (fun _ => 0))), (tx, .inl (cy 3, 3, .inr (.inr (.inr (.inr gt))))), (f0, .inr (1, [.ref c0, .ref k0, .int 0])), (c0, .inl (cy 0, 48, .inl (fun _ => 0))), (f1, .inr (1, [.ref c1, .ref k1, .int 0])), (c1, .inl (cy 0, 48, .inl (fun _ => 0))), (f2, .inr (1, [.ref c2, .ref k2, .int 0])), (c2, .inl (cy 0, 48, .inl (fun _ => 0))), (pla, .inr (2, [.int 5, .int 9, .int 0, .ref pld, .ref psr, .ref ptx, .ref pvl])), (pld, .inl (cy 0, 5, .inl pfl)), (psr, .inl (cy 0, 5, .inl (fun _ => 0))), (ptx, .inl (cy 3, 3, .inr (.inr (.inr (.inr pgt))))), (pf0, .inr (1, [.ref pc0, .ref pk0, .int 0])), (pc0, .inl (cy 0, 48, .inl (fun _ => 0))), (pf1, .inr (1, [.ref pc1, .ref pk1, .int 0])), (pc1, .inl (cy 0, 48, .inl (fun _ => 0))), (pf2, .inr (1, [.ref pc2, .ref pk2, .int 0])), (pc2, .inl (cy 0, 48, .inl (fun _ => 0)))] H := hP
  have hD : va_D A [(la, .inr (2, [.int 5, .int 9, .int 0, .ref ld, .ref sr, .ref tx, .ref vl])), (ld, .inl (cy 0, 5, .inl fl)), (sr, .inl (cy 0, 5, .inl (fun _ => 0))), (tx, .inl (cy 3, 3, .inr (.inr (.inr (.inr gt))))), (f0, .inr (1, [.ref c0, .ref k0, .int 0])), (c0, .inl (cy 0, 48, .inl (fun _ => 0))), (f1, .inr (1, [.ref c1, .ref k1, .int 0])), (c1, .inl (cy 0, 48, .inl (fun _ => 0))), (f2, .inr (1, [.ref c2, .ref k2, .int 0])), (c2, .inl (cy 0, 48, .inl (fun _ => 0))), (pla, .inr (2, [.int 5, .int 9, .int 0, .ref pld, .ref psr, .ref ptx, .ref pvl])), (pld, .inl (cy 0, 5, .inl pfl)), (psr, .inl (cy 0, 5, .inl (fun _ => 0))), (ptx, .inl (cy 3, 3, .inr (.inr (.inr (.inr pgt))))), (pf0, .inr (1, [.ref pc0, .ref pk0, .int 0])), (pc0, .inl (cy 0, 48, .inl (fun _ => 0))), (pf1, .inr (1, [.ref pc1, .ref pk1, .int 0])), (pc1, .inl (cy 0, 48, .inl (fun _ => 0))), (pf2, .inr (1, [.ref pc2, .ref pk2, .int 0])), (pc2, .inl (cy 0, 48, .inl (fun _ => 0)))] := hD
  refine lv_aload_n hx hb dX2_takeFrom_16 rfl (lv_at hl 0 rfl) ?_
  refine lv_aload_n hx hb dX2_takeFrom_17 rfl (lv_at hl 1 rfl) ?_
  refine va_get (D := G) (ci := 2) (v := .int 0) (C := RX2) (T := TX2) (N := 7) hx hb hts inB2 hown hE.1 hP 10 rfl rfl 2 (by decide) (hts _ m_172) (fun _ h9 => h9) rfl dX2_takeFrom_18 ?_
  refine va_put (D := G) (ci := 2) (v := .int 0) (ty := .int) (C := RX2) (T := TX2) (N := 7) hx hb hts inB2 tyX2 tyX2_ok nmX2 hown hE.1 hP hD hS 0 rfl rfl 2 (by decide) (hts _ m_172) (fun _ h9 => h9) rfl (by decide +kernel) rfl rfl (Nat.le_of_ble_eq_true rfl) dX2_takeFrom_21 (fun H locs hP hD hS => ?_)
  have hP : va_P G classes [(la, .inr (2, [.int 5, .int 9, .int 0, .ref ld, .ref sr, .ref tx, .ref vl])), (ld, .inl (cy 0, 5, .inl fl)), (sr, .inl (cy 0, 5, .inl (fun _ => 0))), (tx, .inl (cy 3, 3, .inr (.inr (.inr (.inr gt))))), (f0, .inr (1, [.ref c0, .ref k0, .int 0])), (c0, .inl (cy 0, 48, .inl (fun _ => 0))), (f1, .inr (1, [.ref c1, .ref k1, .int 0])), (c1, .inl (cy 0, 48, .inl (fun _ => 0))), (f2, .inr (1, [.ref c2, .ref k2, .int 0])), (c2, .inl (cy 0, 48, .inl (fun _ => 0))), (pla, .inr (2, [.int 5, .int 9, .int 0, .ref pld, .ref psr, .ref ptx, .ref pvl])), (pld, .inl (cy 0, 5, .inl pfl)), (psr, .inl (cy 0, 5, .inl (fun _ => 0))), (ptx, .inl (cy 3, 3, .inr (.inr (.inr (.inr pgt))))), (pf0, .inr (1, [.ref pc0, .ref pk0, .int 0])), (pc0, .inl (cy 0, 48, .inl (fun _ => 0))), (pf1, .inr (1, [.ref pc1, .ref pk1, .int 0])), (pc1, .inl (cy 0, 48, .inl (fun _ => 0))), (pf2, .inr (1, [.ref pc2, .ref pk2, .int 0])), (pc2, .inl (cy 0, 48, .inl (fun _ => 0)))] H := hP
  have hD : va_D A [(la, .inr (2, [.int 5, .int 9, .int 0, .ref ld, .ref sr, .ref tx, .ref vl])), (ld, .inl (cy 0, 5, .inl fl)), (sr, .inl (cy 0, 5, .inl (fun _ => 0))), (tx, .inl (cy 3, 3, .inr (.inr (.inr (.inr gt))))), (f0, .inr (1, [.ref c0, .ref k0, .int 0])), (c0, .inl (cy 0, 48, .inl (fun _ => 0))), (f1, .inr (1, [.ref c1, .ref k1, .int 0])), (c1, .inl (cy 0, 48, .inl (fun _ => 0))), (f2, .inr (1, [.ref c2, .ref k2, .int 0])), (c2, .inl (cy 0, 48, .inl (fun _ => 0))), (pla, .inr (2, [.int 5, .int 9, .int 0, .ref pld, .ref psr, .ref ptx, .ref pvl])), (pld, .inl (cy 0, 5, .inl pfl)), (psr, .inl (cy 0, 5, .inl (fun _ => 0))), (ptx, .inl (cy 3, 3, .inr (.inr (.inr (.inr pgt))))), (pf0, .inr (1, [.ref pc0, .ref pk0, .int 0])), (pc0, .inl (cy 0, 48, .inl (fun _ => 0))), (pf1, .inr (1, [.ref pc1, .ref pk1, .int 0])), (pc1, .inl (cy 0, 48, .inl (fun _ => 0))), (pf2, .inr (1, [.ref pc2, .ref pk2, .int 0])), (pc2, .inl (cy 0, 48, .inl (fun _ => 0)))] := hD
  refine lv_aload_n hx hb dX2_takeFrom_24 rfl (lv_at hl 1 rfl) ?_
  refine va_get (D := G) (ci := 2) (v := .ref pld) (C := RX2) (T := TX2) (N := 7) hx hb hts inB2 hown hE.1 hP 10 rfl rfl 3 (by decide) (hts _ m_173) (fun _ h9 => h9) rfl dX2_takeFrom_25 ?_
  refine lv_iconst (v := 0) hx hb dX2_takeFrom_28 (by decide) ?_
  refine lv_aload_n hx hb dX2_takeFrom_29 rfl (lv_at hl 0 rfl) ?_
  refine va_get (D := G) (ci := 2) (v := .ref ld) (C := RX2) (T := TX2) (N := 7) hx hb hts inB2 hown hE.1 hP 0 rfl rfl 3 (by decide) (hts _ m_173) (fun _ h9 => h9) rfl dX2_takeFrom_30 ?_
  refine lv_iconst (v := 0) hx hb dX2_takeFrom_33 (by decide) ?_
  refine lv_iconst (v := 5) hx hb dX2_takeFrom_34 (by decide) ?_
  refine va_copyi (ty := .int) hx hb (hml.trans hl.1.symm) hown (hts _ m_1267) (hts _ m_830) (hts _ m_829) (hts _ m_98) hE.1 hP hD hS 11 1 0 0 rfl rfl rfl rfl rfl (by decide) (by decide) (by decide) (by decide) (by decide) (fun _ _ => rfl) (Nat.le_of_ble_eq_true rfl) (Nat.le_of_ble_eq_true rfl) dX2_takeFrom_35 (fun H locs hP hD hS => ?_)
  have hP : va_P G classes [(la, .inr (2, [.int 5, .int 9, .int 0, .ref ld, .ref sr, .ref tx, .ref vl])), (ld, .inl (cy 0, 5, .inl (va_cpy pfl fl 0 0 5))), (sr, .inl (cy 0, 5, .inl (fun _ => 0))), (tx, .inl (cy 3, 3, .inr (.inr (.inr (.inr gt))))), (f0, .inr (1, [.ref c0, .ref k0, .int 0])), (c0, .inl (cy 0, 48, .inl (fun _ => 0))), (f1, .inr (1, [.ref c1, .ref k1, .int 0])), (c1, .inl (cy 0, 48, .inl (fun _ => 0))), (f2, .inr (1, [.ref c2, .ref k2, .int 0])), (c2, .inl (cy 0, 48, .inl (fun _ => 0))), (pla, .inr (2, [.int 5, .int 9, .int 0, .ref pld, .ref psr, .ref ptx, .ref pvl])), (pld, .inl (cy 0, 5, .inl pfl)), (psr, .inl (cy 0, 5, .inl (fun _ => 0))), (ptx, .inl (cy 3, 3, .inr (.inr (.inr (.inr pgt))))), (pf0, .inr (1, [.ref pc0, .ref pk0, .int 0])), (pc0, .inl (cy 0, 48, .inl (fun _ => 0))), (pf1, .inr (1, [.ref pc1, .ref pk1, .int 0])), (pc1, .inl (cy 0, 48, .inl (fun _ => 0))), (pf2, .inr (1, [.ref pc2, .ref pk2, .int 0])), (pc2, .inl (cy 0, 48, .inl (fun _ => 0)))] H := hP
  have hD : va_D A [(la, .inr (2, [.int 5, .int 9, .int 0, .ref ld, .ref sr, .ref tx, .ref vl])), (ld, .inl (cy 0, 5, .inl (va_cpy pfl fl 0 0 5))), (sr, .inl (cy 0, 5, .inl (fun _ => 0))), (tx, .inl (cy 3, 3, .inr (.inr (.inr (.inr gt))))), (f0, .inr (1, [.ref c0, .ref k0, .int 0])), (c0, .inl (cy 0, 48, .inl (fun _ => 0))), (f1, .inr (1, [.ref c1, .ref k1, .int 0])), (c1, .inl (cy 0, 48, .inl (fun _ => 0))), (f2, .inr (1, [.ref c2, .ref k2, .int 0])), (c2, .inl (cy 0, 48, .inl (fun _ => 0))), (pla, .inr (2, [.int 5, .int 9, .int 0, .ref pld, .ref psr, .ref ptx, .ref pvl])), (pld, .inl (cy 0, 5, .inl pfl)), (psr, .inl (cy 0, 5, .inl (fun _ => 0))), (ptx, .inl (cy 3, 3, .inr (.inr (.inr (.inr pgt))))), (pf0, .inr (1, [.ref pc0, .ref pk0, .int 0])), (pc0, .inl (cy 0, 48, .inl (fun _ => 0))), (pf1, .inr (1, [.ref pc1, .ref pk1, .int 0])), (pc1, .inl (cy 0, 48, .inl (fun _ => 0))), (pf2, .inr (1, [.ref pc2, .ref pk2, .int 0])), (pc2, .inl (cy 0, 48, .inl (fun _ => 0)))] := hD
  obtain ⟨xf1, hP, hD⟩ : ∃ xf1, va_P G classes [(la, .inr (2, [.int 5, .int 9, .int 0, .ref ld, .ref sr, .ref tx, .ref vl])), (ld, .inl (cy 0, 5, .inl xf1)), (sr, .inl (cy 0, 5, .inl (fun _ => 0))), (tx, .inl (cy 3, 3, .inr (.inr (.inr (.inr gt))))), (f0, .inr (1, [.ref c0, .ref k0, .int 0])), (c0, .inl (cy 0, 48, .inl (fun _ => 0))), (f1, .inr (1, [.ref c1, .ref k1, .int 0])), (c1, .inl (cy 0, 48, .inl (fun _ => 0))), (f2, .inr (1, [.ref c2, .ref k2, .int 0])), (c2, .inl (cy 0, 48, .inl (fun _ => 0))), (pla, .inr (2, [.int 5, .int 9, .int 0, .ref pld, .ref psr, .ref ptx, .ref pvl])), (pld, .inl (cy 0, 5, .inl pfl)), (psr, .inl (cy 0, 5, .inl (fun _ => 0))), (ptx, .inl (cy 3, 3, .inr (.inr (.inr (.inr pgt))))), (pf0, .inr (1, [.ref pc0, .ref pk0, .int 0])), (pc0, .inl (cy 0, 48, .inl (fun _ => 0))), (pf1, .inr (1, [.ref pc1, .ref pk1, .int 0])), (pc1, .inl (cy 0, 48, .inl (fun _ => 0))), (pf2, .inr (1, [.ref pc2, .ref pk2, .int 0])), (pc2, .inl (cy 0, 48, .inl (fun _ => 0)))] H ∧ va_D A [(la, .inr (2, [.int 5, .int 9, .int 0, .ref ld, .ref sr, .ref tx, .ref vl])), (ld, .inl (cy 0, 5, .inl xf1)), (sr, .inl (cy 0, 5, .inl (fun _ => 0))), (tx, .inl (cy 3, 3, .inr (.inr (.inr (.inr gt))))), (f0, .inr (1, [.ref c0, .ref k0, .int 0])), (c0, .inl (cy 0, 48, .inl (fun _ => 0))), (f1, .inr (1, [.ref c1, .ref k1, .int 0])), (c1, .inl (cy 0, 48, .inl (fun _ => 0))), (f2, .inr (1, [.ref c2, .ref k2, .int 0])), (c2, .inl (cy 0, 48, .inl (fun _ => 0))), (pla, .inr (2, [.int 5, .int 9, .int 0, .ref pld, .ref psr, .ref ptx, .ref pvl])), (pld, .inl (cy 0, 5, .inl pfl)), (psr, .inl (cy 0, 5, .inl (fun _ => 0))), (ptx, .inl (cy 3, 3, .inr (.inr (.inr (.inr pgt))))), (pf0, .inr (1, [.ref pc0, .ref pk0, .int 0])), (pc0, .inl (cy 0, 48, .inl (fun _ => 0))), (pf1, .inr (1, [.ref pc1, .ref pk1, .int 0])), (pc1, .inl (cy 0, 48, .inl (fun _ => 0))), (pf2, .inr (1, [.ref pc2, .ref pk2, .int 0])), (pc2, .inl (cy 0, 48, .inl (fun _ => 0)))] := ⟨_, hP, hD⟩
  refine lv_aload_n hx hb dX2_takeFrom_38 rfl (lv_at hl 1 rfl) ?_
  refine va_get (D := G) (ci := 2) (v := .ref psr) (C := RX2) (T := TX2) (N := 7) hx hb hts inB2 hown hE.1 hP 10 rfl rfl 4 (by decide) (hts _ m_174) (fun _ h9 => h9) rfl dX2_takeFrom_39 ?_
  refine lv_iconst (v := 0) hx hb dX2_takeFrom_42 (by decide) ?_
  refine lv_aload_n hx hb dX2_takeFrom_43 rfl (lv_at hl 0 rfl) ?_
  refine va_get (D := G) (ci := 2) (v := .ref sr) (C := RX2) (T := TX2) (N := 7) hx hb hts inB2 hown hE.1 hP 0 rfl rfl 4 (by decide) (hts _ m_174) (fun _ h9 => h9) rfl dX2_takeFrom_44 ?_
  refine lv_iconst (v := 0) hx hb dX2_takeFrom_47 (by decide) ?_
  refine lv_iconst (v := 5) hx hb dX2_takeFrom_48 (by decide) ?_
  refine va_copyi (ty := .int) hx hb (hml.trans hl.1.symm) hown (hts _ m_1267) (hts _ m_830) (hts _ m_829) (hts _ m_98) hE.1 hP hD hS 12 2 0 0 rfl rfl rfl rfl rfl (by decide) (by decide) (by decide) (by decide) (by decide) (fun _ _ => rfl) (Nat.le_of_ble_eq_true rfl) (Nat.le_of_ble_eq_true rfl) dX2_takeFrom_49 (fun H locs hP hD hS => ?_)
  have hP : va_P G classes [(la, .inr (2, [.int 5, .int 9, .int 0, .ref ld, .ref sr, .ref tx, .ref vl])), (ld, .inl (cy 0, 5, .inl xf1)), (sr, .inl (cy 0, 5, .inl (va_cpy (fun _ => 0) (fun _ => 0) 0 0 5))), (tx, .inl (cy 3, 3, .inr (.inr (.inr (.inr gt))))), (f0, .inr (1, [.ref c0, .ref k0, .int 0])), (c0, .inl (cy 0, 48, .inl (fun _ => 0))), (f1, .inr (1, [.ref c1, .ref k1, .int 0])), (c1, .inl (cy 0, 48, .inl (fun _ => 0))), (f2, .inr (1, [.ref c2, .ref k2, .int 0])), (c2, .inl (cy 0, 48, .inl (fun _ => 0))), (pla, .inr (2, [.int 5, .int 9, .int 0, .ref pld, .ref psr, .ref ptx, .ref pvl])), (pld, .inl (cy 0, 5, .inl pfl)), (psr, .inl (cy 0, 5, .inl (fun _ => 0))), (ptx, .inl (cy 3, 3, .inr (.inr (.inr (.inr pgt))))), (pf0, .inr (1, [.ref pc0, .ref pk0, .int 0])), (pc0, .inl (cy 0, 48, .inl (fun _ => 0))), (pf1, .inr (1, [.ref pc1, .ref pk1, .int 0])), (pc1, .inl (cy 0, 48, .inl (fun _ => 0))), (pf2, .inr (1, [.ref pc2, .ref pk2, .int 0])), (pc2, .inl (cy 0, 48, .inl (fun _ => 0)))] H := hP
  have hD : va_D A [(la, .inr (2, [.int 5, .int 9, .int 0, .ref ld, .ref sr, .ref tx, .ref vl])), (ld, .inl (cy 0, 5, .inl xf1)), (sr, .inl (cy 0, 5, .inl (va_cpy (fun _ => 0) (fun _ => 0) 0 0 5))), (tx, .inl (cy 3, 3, .inr (.inr (.inr (.inr gt))))), (f0, .inr (1, [.ref c0, .ref k0, .int 0])), (c0, .inl (cy 0, 48, .inl (fun _ => 0))), (f1, .inr (1, [.ref c1, .ref k1, .int 0])), (c1, .inl (cy 0, 48, .inl (fun _ => 0))), (f2, .inr (1, [.ref c2, .ref k2, .int 0])), (c2, .inl (cy 0, 48, .inl (fun _ => 0))), (pla, .inr (2, [.int 5, .int 9, .int 0, .ref pld, .ref psr, .ref ptx, .ref pvl])), (pld, .inl (cy 0, 5, .inl pfl)), (psr, .inl (cy 0, 5, .inl (fun _ => 0))), (ptx, .inl (cy 3, 3, .inr (.inr (.inr (.inr pgt))))), (pf0, .inr (1, [.ref pc0, .ref pk0, .int 0])), (pc0, .inl (cy 0, 48, .inl (fun _ => 0))), (pf1, .inr (1, [.ref pc1, .ref pk1, .int 0])), (pc1, .inl (cy 0, 48, .inl (fun _ => 0))), (pf2, .inr (1, [.ref pc2, .ref pk2, .int 0])), (pc2, .inl (cy 0, 48, .inl (fun _ => 0)))] := hD
  obtain ⟨xf2, hP, hD⟩ : ∃ xf2, va_P G classes [(la, .inr (2, [.int 5, .int 9, .int 0, .ref ld, .ref sr, .ref tx, .ref vl])), (ld, .inl (cy 0, 5, .inl xf1)), (sr, .inl (cy 0, 5, .inl xf2)), (tx, .inl (cy 3, 3, .inr (.inr (.inr (.inr gt))))), (f0, .inr (1, [.ref c0, .ref k0, .int 0])), (c0, .inl (cy 0, 48, .inl (fun _ => 0))), (f1, .inr (1, [.ref c1, .ref k1, .int 0])), (c1, .inl (cy 0, 48, .inl (fun _ => 0))), (f2, .inr (1, [.ref c2, .ref k2, .int 0])), (c2, .inl (cy 0, 48, .inl (fun _ => 0))), (pla, .inr (2, [.int 5, .int 9, .int 0, .ref pld, .ref psr, .ref ptx, .ref pvl])), (pld, .inl (cy 0, 5, .inl pfl)), (psr, .inl (cy 0, 5, .inl (fun _ => 0))), (ptx, .inl (cy 3, 3, .inr (.inr (.inr (.inr pgt))))), (pf0, .inr (1, [.ref pc0, .ref pk0, .int 0])), (pc0, .inl (cy 0, 48, .inl (fun _ => 0))), (pf1, .inr (1, [.ref pc1, .ref pk1, .int 0])), (pc1, .inl (cy 0, 48, .inl (fun _ => 0))), (pf2, .inr (1, [.ref pc2, .ref pk2, .int 0])), (pc2, .inl (cy 0, 48, .inl (fun _ => 0)))] H ∧ va_D A [(la, .inr (2, [.int 5, .int 9, .int 0, .ref ld, .ref sr, .ref tx, .ref vl])), (ld, .inl (cy 0, 5, .inl xf1)), (sr, .inl (cy 0, 5, .inl xf2)), (tx, .inl (cy 3, 3, .inr (.inr (.inr (.inr gt))))), (f0, .inr (1, [.ref c0, .ref k0, .int 0])), (c0, .inl (cy 0, 48, .inl (fun _ => 0))), (f1, .inr (1, [.ref c1, .ref k1, .int 0])), (c1, .inl (cy 0, 48, .inl (fun _ => 0))), (f2, .inr (1, [.ref c2, .ref k2, .int 0])), (c2, .inl (cy 0, 48, .inl (fun _ => 0))), (pla, .inr (2, [.int 5, .int 9, .int 0, .ref pld, .ref psr, .ref ptx, .ref pvl])), (pld, .inl (cy 0, 5, .inl pfl)), (psr, .inl (cy 0, 5, .inl (fun _ => 0))), (ptx, .inl (cy 3, 3, .inr (.inr (.inr (.inr pgt))))), (pf0, .inr (1, [.ref pc0, .ref pk0, .int 0])), (pc0, .inl (cy 0, 48, .inl (fun _ => 0))), (pf1, .inr (1, [.ref pc1, .ref pk1, .int 0])), (pc1, .inl (cy 0, 48, .inl (fun _ => 0))), (pf2, .inr (1, [.ref pc2, .ref pk2, .int 0])), (pc2, .inl (cy 0, 48, .inl (fun _ => 0)))] := ⟨_, hP, hD⟩
  refine lv_iconst (v := 0) hx hb dX2_takeFrom_52 (by decide) ?_
  refine lv_istore_n (lv' := [(2, .int 0), (0, .ref la), (1, .ref pla)]) hx hb dX2_takeFrom_53 rfl hl (by decide) rfl (fun ls hl => ?_)
  refine lv_iload_n hx hb dX2_takeFrom_54 rfl (lv_at hl 0 rfl) ?_
  refine lv_iconst (v := 3) hx hb dX2_takeFrom_55 (by decide) ?_
  refine lv_icmp_ge (tgt := 80) hx hb dX2_takeFrom_56 (by decide) (fun h9 => absurd h9 (by decide)) (fun _ => ?_)
  refine lv_aload_n hx hb dX2_takeFrom_59 rfl (lv_at hl 1 rfl) ?_
  refine va_get (D := G) (ci := 2) (v := .ref tx) (C := RX2) (T := TX2) (N := 7) hx hb hts inB2 hown hE.1 hP 0 rfl rfl 5 (by decide) (hts _ m_175) (fun _ h9 => h9) rfl dX2_takeFrom_60 ?_
  refine lv_iload_n hx hb dX2_takeFrom_63 rfl (lv_at hl 0 rfl) ?_
  refine va_aldq hx hb hE.1 hP 3 3 rfl rfl (vinL (by decide)) dX2_takeFrom_64 ?_
  refine tpv (v := .ref f0) (by show va_rf (gt 0) = _; rw [hg0]; rfl) ?_
  refine lv_aload_n hx hb dX2_takeFrom_65 rfl (lv_at hl 2 rfl) ?_
  refine va_get (D := G) (ci := 2) (v := .ref ptx) (C := RX2) (T := TX2) (N := 7) hx hb hts inB2 hown hE.1 hP 10 rfl rfl 5 (by decide) (hts _ m_175) (fun _ h9 => h9) rfl dX2_takeFrom_66 ?_
  refine lv_iload_n hx hb dX2_takeFrom_69 rfl (lv_at hl 0 rfl) ?_
  refine va_aldq hx hb hE.1 hP 13 3 rfl rfl (vinL (by decide)) dX2_takeFrom_70 ?_
  refine tpv (v := .ref pf0) (by show va_rf (pgt 0) = _; rw [ig0]; rfl) ?_
  refine wVv (B := (fun _ => True)) (wr := [(la, .inr (2, [.int 5, .int 9, .int 0, .ref ld, .ref sr, .ref tx, .ref vl])), (ld, .inl (cy 0, 5, .inl xf1)), (sr, .inl (cy 0, 5, .inl xf2)), (tx, .inl (cy 3, 3, .inr (.inr (.inr (.inr gt))))), (f1, .inr (1, [.ref c1, .ref k1, .int 0])), (c1, .inl (cy 0, 48, .inl (fun _ => 0))), (f2, .inr (1, [.ref c2, .ref k2, .int 0])), (c2, .inl (cy 0, 48, .inl (fun _ => 0))), (pla, .inr (2, [.int 5, .int 9, .int 0, .ref pld, .ref psr, .ref ptx, .ref pvl])), (pld, .inl (cy 0, 5, .inl pfl)), (psr, .inl (cy 0, 5, .inl (fun _ => 0))), (ptx, .inl (cy 3, 3, .inr (.inr (.inr (.inr pgt))))), (pf1, .inr (1, [.ref pc1, .ref pk1, .int 0])), (pc1, .inl (cy 0, 48, .inl (fun _ => 0))), (pf2, .inr (1, [.ref pc2, .ref pk2, .int 0])), (pc2, .inl (cy 0, 48, .inl (fun _ => 0)))]) (rest := []) hx hb hml hown hts hE (c_X1_takeFrom l G cy sk H.size f0 c0 k0 pf0 pc0 pk0 0 0 (fun _ => 0) (fun _ => 0)) kV_X1_takeFrom m_1268 rfl rfl ⟨(Nat.le_of_ble_eq_true rfl), (Nat.le_of_ble_eq_true rfl)⟩ hP hD hS hA 4 rfl rfl rfl [4, 5, 14, 15] [0, 1, 2, 3, 6, 7, 8, 9, 10, 11, 12, 13, 16, 17, 18, 19] rfl rfl rfl rfl (by decide) rfl rfl hl.1 (Nat.le_of_ble_eq_true rfl) dX2_takeFrom_71 ⟨(Nat.le_of_ble_eq_true rfl), (Nat.le_of_ble_eq_true rfl)⟩ (fun H locs haf hS => ?_)
  obtain ⟨-, -, hP, hD⟩ := haf
  have hP : va_P G classes [(la, .inr (2, [.int 5, .int 9, .int 0, .ref ld, .ref sr, .ref tx, .ref vl])), (ld, .inl (cy 0, 5, .inl xf1)), (sr, .inl (cy 0, 5, .inl xf2)), (tx, .inl (cy 3, 3, .inr (.inr (.inr (.inr gt))))), (f1, .inr (1, [.ref c1, .ref k1, .int 0])), (c1, .inl (cy 0, 48, .inl (fun _ => 0))), (f2, .inr (1, [.ref c2, .ref k2, .int 0])), (c2, .inl (cy 0, 48, .inl (fun _ => 0))), (pla, .inr (2, [.int 5, .int 9, .int 0, .ref pld, .ref psr, .ref ptx, .ref pvl])), (pld, .inl (cy 0, 5, .inl pfl)), (psr, .inl (cy 0, 5, .inl (fun _ => 0))), (ptx, .inl (cy 3, 3, .inr (.inr (.inr (.inr pgt))))), (pf1, .inr (1, [.ref pc1, .ref pk1, .int 0])), (pc1, .inl (cy 0, 48, .inl (fun _ => 0))), (pf2, .inr (1, [.ref pc2, .ref pk2, .int 0])), (pc2, .inl (cy 0, 48, .inl (fun _ => 0)))] H := hP
  have hD : va_D A [(la, .inr (2, [.int 5, .int 9, .int 0, .ref ld, .ref sr, .ref tx, .ref vl])), (ld, .inl (cy 0, 5, .inl xf1)), (sr, .inl (cy 0, 5, .inl xf2)), (tx, .inl (cy 3, 3, .inr (.inr (.inr (.inr gt))))), (f1, .inr (1, [.ref c1, .ref k1, .int 0])), (c1, .inl (cy 0, 48, .inl (fun _ => 0))), (f2, .inr (1, [.ref c2, .ref k2, .int 0])), (c2, .inl (cy 0, 48, .inl (fun _ => 0))), (pla, .inr (2, [.int 5, .int 9, .int 0, .ref pld, .ref psr, .ref ptx, .ref pvl])), (pld, .inl (cy 0, 5, .inl pfl)), (psr, .inl (cy 0, 5, .inl (fun _ => 0))), (ptx, .inl (cy 3, 3, .inr (.inr (.inr (.inr pgt))))), (pf1, .inr (1, [.ref pc1, .ref pk1, .int 0])), (pc1, .inl (cy 0, 48, .inl (fun _ => 0))), (pf2, .inr (1, [.ref pc2, .ref pk2, .int 0])), (pc2, .inl (cy 0, 48, .inl (fun _ => 0)))] := hD
  refine lv_iinc (v := 1) (lv' := [(2, .int 1), (0, .ref la), (1, .ref pla)]) hx hb dX2_takeFrom_74 hl (k := 0) rfl (by decide) (by decide) rfl (fun ls hl => ?_)
  refine lv_goto (tgt := 54) hx hb dX2_takeFrom_77 (by decide) ?_
  refine lv_iload_n hx hb dX2_takeFrom_54 rfl (lv_at hl 0 rfl) ?_
  refine lv_iconst (v := 3) hx hb dX2_takeFrom_55 (by decide) ?_
  refine lv_icmp_ge (tgt := 80) hx hb dX2_takeFrom_56 (by decide) (fun h9 => absurd h9 (by decide)) (fun _ => ?_)
  refine lv_aload_n hx hb dX2_takeFrom_59 rfl (lv_at hl 1 rfl) ?_
  refine va_get (D := G) (ci := 2) (v := .ref tx) (C := RX2) (T := TX2) (N := 7) hx hb hts inB2 hown hE.1 hP 0 rfl rfl 5 (by decide) (hts _ m_175) (fun _ h9 => h9) rfl dX2_takeFrom_60 ?_
  refine lv_iload_n hx hb dX2_takeFrom_63 rfl (lv_at hl 0 rfl) ?_
  refine va_aldq hx hb hE.1 hP 3 3 rfl rfl (vinL (by decide)) dX2_takeFrom_64 ?_
  refine tpv (v := .ref f1) (by show va_rf (gt 1) = _; rw [hg1]; rfl) ?_
  refine lv_aload_n hx hb dX2_takeFrom_65 rfl (lv_at hl 2 rfl) ?_
  refine va_get (D := G) (ci := 2) (v := .ref ptx) (C := RX2) (T := TX2) (N := 7) hx hb hts inB2 hown hE.1 hP 8 rfl rfl 5 (by decide) (hts _ m_175) (fun _ h9 => h9) rfl dX2_takeFrom_66 ?_
  refine lv_iload_n hx hb dX2_takeFrom_69 rfl (lv_at hl 0 rfl) ?_
  refine va_aldq hx hb hE.1 hP 11 3 rfl rfl (vinL (by decide)) dX2_takeFrom_70 ?_
  refine tpv (v := .ref pf1) (by show va_rf (pgt 1) = _; rw [ig1]; rfl) ?_
  refine wVv (B := (fun _ => True)) (wr := [(la, .inr (2, [.int 5, .int 9, .int 0, .ref ld, .ref sr, .ref tx, .ref vl])), (ld, .inl (cy 0, 5, .inl xf1)), (sr, .inl (cy 0, 5, .inl xf2)), (tx, .inl (cy 3, 3, .inr (.inr (.inr (.inr gt))))), (f2, .inr (1, [.ref c2, .ref k2, .int 0])), (c2, .inl (cy 0, 48, .inl (fun _ => 0))), (pla, .inr (2, [.int 5, .int 9, .int 0, .ref pld, .ref psr, .ref ptx, .ref pvl])), (pld, .inl (cy 0, 5, .inl pfl)), (psr, .inl (cy 0, 5, .inl (fun _ => 0))), (ptx, .inl (cy 3, 3, .inr (.inr (.inr (.inr pgt))))), (pf2, .inr (1, [.ref pc2, .ref pk2, .int 0])), (pc2, .inl (cy 0, 48, .inl (fun _ => 0)))]) (rest := []) hx hb hml hown hts hE (c_X1_takeFrom l G cy sk H.size f1 c1 k1 pf1 pc1 pk1 0 0 (fun _ => 0) (fun _ => 0)) kV_X1_takeFrom m_1268 rfl rfl ⟨(Nat.le_of_ble_eq_true rfl), (Nat.le_of_ble_eq_true rfl)⟩ hP hD hS hA 4 rfl rfl rfl [4, 5, 12, 13] [0, 1, 2, 3, 6, 7, 8, 9, 10, 11, 14, 15] rfl rfl rfl rfl (by decide) rfl rfl hl.1 (Nat.le_of_ble_eq_true rfl) dX2_takeFrom_71 ⟨(Nat.le_of_ble_eq_true rfl), (Nat.le_of_ble_eq_true rfl)⟩ (fun H locs haf hS => ?_)
  obtain ⟨-, -, hP, hD⟩ := haf
  have hP : va_P G classes [(la, .inr (2, [.int 5, .int 9, .int 0, .ref ld, .ref sr, .ref tx, .ref vl])), (ld, .inl (cy 0, 5, .inl xf1)), (sr, .inl (cy 0, 5, .inl xf2)), (tx, .inl (cy 3, 3, .inr (.inr (.inr (.inr gt))))), (f2, .inr (1, [.ref c2, .ref k2, .int 0])), (c2, .inl (cy 0, 48, .inl (fun _ => 0))), (pla, .inr (2, [.int 5, .int 9, .int 0, .ref pld, .ref psr, .ref ptx, .ref pvl])), (pld, .inl (cy 0, 5, .inl pfl)), (psr, .inl (cy 0, 5, .inl (fun _ => 0))), (ptx, .inl (cy 3, 3, .inr (.inr (.inr (.inr pgt))))), (pf2, .inr (1, [.ref pc2, .ref pk2, .int 0])), (pc2, .inl (cy 0, 48, .inl (fun _ => 0)))] H := hP
  have hD : va_D A [(la, .inr (2, [.int 5, .int 9, .int 0, .ref ld, .ref sr, .ref tx, .ref vl])), (ld, .inl (cy 0, 5, .inl xf1)), (sr, .inl (cy 0, 5, .inl xf2)), (tx, .inl (cy 3, 3, .inr (.inr (.inr (.inr gt))))), (f2, .inr (1, [.ref c2, .ref k2, .int 0])), (c2, .inl (cy 0, 48, .inl (fun _ => 0))), (pla, .inr (2, [.int 5, .int 9, .int 0, .ref pld, .ref psr, .ref ptx, .ref pvl])), (pld, .inl (cy 0, 5, .inl pfl)), (psr, .inl (cy 0, 5, .inl (fun _ => 0))), (ptx, .inl (cy 3, 3, .inr (.inr (.inr (.inr pgt))))), (pf2, .inr (1, [.ref pc2, .ref pk2, .int 0])), (pc2, .inl (cy 0, 48, .inl (fun _ => 0)))] := hD
  refine lv_iinc (v := 2) (lv' := [(2, .int 2), (0, .ref la), (1, .ref pla)]) hx hb dX2_takeFrom_74 hl (k := 0) rfl (by decide) (by decide) rfl (fun ls hl => ?_)
  refine lv_goto (tgt := 54) hx hb dX2_takeFrom_77 (by decide) ?_
  refine lv_iload_n hx hb dX2_takeFrom_54 rfl (lv_at hl 0 rfl) ?_
  refine lv_iconst (v := 3) hx hb dX2_takeFrom_55 (by decide) ?_
  refine lv_icmp_ge (tgt := 80) hx hb dX2_takeFrom_56 (by decide) (fun h9 => absurd h9 (by decide)) (fun _ => ?_)
  refine lv_aload_n hx hb dX2_takeFrom_59 rfl (lv_at hl 1 rfl) ?_
  refine va_get (D := G) (ci := 2) (v := .ref tx) (C := RX2) (T := TX2) (N := 7) hx hb hts inB2 hown hE.1 hP 0 rfl rfl 5 (by decide) (hts _ m_175) (fun _ h9 => h9) rfl dX2_takeFrom_60 ?_
  refine lv_iload_n hx hb dX2_takeFrom_63 rfl (lv_at hl 0 rfl) ?_
  refine va_aldq hx hb hE.1 hP 3 3 rfl rfl (vinL (by decide)) dX2_takeFrom_64 ?_
  refine tpv (v := .ref f2) (by show va_rf (gt 2) = _; rw [hg2]; rfl) ?_
  refine lv_aload_n hx hb dX2_takeFrom_65 rfl (lv_at hl 2 rfl) ?_
  refine va_get (D := G) (ci := 2) (v := .ref ptx) (C := RX2) (T := TX2) (N := 7) hx hb hts inB2 hown hE.1 hP 6 rfl rfl 5 (by decide) (hts _ m_175) (fun _ h9 => h9) rfl dX2_takeFrom_66 ?_
  refine lv_iload_n hx hb dX2_takeFrom_69 rfl (lv_at hl 0 rfl) ?_
  refine va_aldq hx hb hE.1 hP 9 3 rfl rfl (vinL (by decide)) dX2_takeFrom_70 ?_
  refine tpv (v := .ref pf2) (by show va_rf (pgt 2) = _; rw [ig2]; rfl) ?_
  refine wVv (B := (fun _ => True)) (wr := [(la, .inr (2, [.int 5, .int 9, .int 0, .ref ld, .ref sr, .ref tx, .ref vl])), (ld, .inl (cy 0, 5, .inl xf1)), (sr, .inl (cy 0, 5, .inl xf2)), (tx, .inl (cy 3, 3, .inr (.inr (.inr (.inr gt))))), (pla, .inr (2, [.int 5, .int 9, .int 0, .ref pld, .ref psr, .ref ptx, .ref pvl])), (pld, .inl (cy 0, 5, .inl pfl)), (psr, .inl (cy 0, 5, .inl (fun _ => 0))), (ptx, .inl (cy 3, 3, .inr (.inr (.inr (.inr pgt)))))]) (rest := []) hx hb hml hown hts hE (c_X1_takeFrom l G cy sk H.size f2 c2 k2 pf2 pc2 pk2 0 0 (fun _ => 0) (fun _ => 0)) kV_X1_takeFrom m_1268 rfl rfl ⟨(Nat.le_of_ble_eq_true rfl), (Nat.le_of_ble_eq_true rfl)⟩ hP hD hS hA 4 rfl rfl rfl [4, 5, 10, 11] [0, 1, 2, 3, 6, 7, 8, 9] rfl rfl rfl rfl (by decide) rfl rfl hl.1 (Nat.le_of_ble_eq_true rfl) dX2_takeFrom_71 ⟨(Nat.le_of_ble_eq_true rfl), (Nat.le_of_ble_eq_true rfl)⟩ (fun H locs haf hS => ?_)
  obtain ⟨-, -, hP, hD⟩ := haf
  have hP : va_P G classes [(la, .inr (2, [.int 5, .int 9, .int 0, .ref ld, .ref sr, .ref tx, .ref vl])), (ld, .inl (cy 0, 5, .inl xf1)), (sr, .inl (cy 0, 5, .inl xf2)), (tx, .inl (cy 3, 3, .inr (.inr (.inr (.inr gt))))), (pla, .inr (2, [.int 5, .int 9, .int 0, .ref pld, .ref psr, .ref ptx, .ref pvl])), (pld, .inl (cy 0, 5, .inl pfl)), (psr, .inl (cy 0, 5, .inl (fun _ => 0))), (ptx, .inl (cy 3, 3, .inr (.inr (.inr (.inr pgt)))))] H := hP
  have hD : va_D A [(la, .inr (2, [.int 5, .int 9, .int 0, .ref ld, .ref sr, .ref tx, .ref vl])), (ld, .inl (cy 0, 5, .inl xf1)), (sr, .inl (cy 0, 5, .inl xf2)), (tx, .inl (cy 3, 3, .inr (.inr (.inr (.inr gt))))), (pla, .inr (2, [.int 5, .int 9, .int 0, .ref pld, .ref psr, .ref ptx, .ref pvl])), (pld, .inl (cy 0, 5, .inl pfl)), (psr, .inl (cy 0, 5, .inl (fun _ => 0))), (ptx, .inl (cy 3, 3, .inr (.inr (.inr (.inr pgt)))))] := hD
  refine lv_iinc (v := 3) (lv' := [(2, .int 3), (0, .ref la), (1, .ref pla)]) hx hb dX2_takeFrom_74 hl (k := 0) rfl (by decide) (by decide) rfl (fun ls hl => ?_)
  refine lv_goto (tgt := 54) hx hb dX2_takeFrom_77 (by decide) ?_
  refine lv_iload_n hx hb dX2_takeFrom_54 rfl (lv_at hl 0 rfl) ?_
  refine lv_iconst (v := 3) hx hb dX2_takeFrom_55 (by decide) ?_
  refine lv_icmp_ge (tgt := 80) hx hb dX2_takeFrom_56 (by decide) (fun _ => ?_) (fun h9 => absurd h9 (by decide))
  refine W.widen (k := 0) (n := 0) (by first | exact Nat.le_of_ble_eq_true rfl | omega) (by first | exact Nat.le_of_ble_eq_true rfl | omega) ?_
  exact W.vret hx hb hr (fun t ht hW => ⟨⟨(), rfl, trivial, trivial⟩, hS.F ht⟩) hS.2.2 dX2_takeFrom_80
set_option maxHeartbeats 4000000 in
set_option maxRecDepth 100000 in
theorem c_X3_takeFrom (l : Launch) (G : va_G) (cy : Nat → ClassId) (sk : Nat → Nat) (sz : Nat) (le : Nat) (te : Nat) (ne : Nat) (mi : Nat) (tr : Nat) (be : Nat) (rta : Nat) (rba : Nat) (ple : Nat) (pte : Nat) (pne : Nat) (pmi : Nat) (ptr : Nat) (pbe : Nat) (prta : Nat) (prba : Nat)  : Met l yX3_takeFrom (wsO yX3_takeFrom cX3_takeFrom 2 none) ({ frames := 1, cells := 0, slots := 0, locals := 40 }) (va_Pc [.ref le, .ref ple] (PR G cy sk sz [(le, .inr (3, [.ref te, .ref ne, .ref mi, .int 0, .ref tr, .ref be, .int 0, .int 0, .int 0])), (te, .inl (cy 0, 7, .inl (fun _ => 0))), (ne, .inl (cy 0, 7, .inl (fun _ => 0))), (mi, .inl (cy 0, 7, .inl (fun _ => 0))), (ple, .inr (3, [.ref pte, .ref pne, .ref pmi, .int 0, .ref ptr, .ref pbe, .int 0, .int 0, .int 0])), (pte, .inl (cy 0, 7, .inl (fun _ => 0))), (pne, .inl (cy 0, 7, .inl (fun _ => 0))), (pmi, .inl (cy 0, 7, .inl (fun _ => 0)))])) (va_Qv (fun (_ : Unit) => True) (fun _ _ => True) (va_A [(le, .inr (3, [.ref te, .ref ne, .ref mi, .int 0, .ref tr, .ref be, .int 0, .int 0, .int 0])), (te, .inl (cy 0, 7, .inl (fun _ => 0))), (ne, .inl (cy 0, 7, .inl (fun _ => 0))), (mi, .inl (cy 0, 7, .inl (fun _ => 0))), (ple, .inr (3, [.ref pte, .ref pne, .ref pmi, .int 0, .ref ptr, .ref pbe, .int 0, .int 0, .int 0])), (pte, .inl (cy 0, 7, .inl (fun _ => 0))), (pne, .inl (cy 0, 7, .inl (fun _ => 0))), (pmi, .inl (cy 0, 7, .inl (fun _ => 0)))] sz)) 0 0 (va_A [(le, .inr (3, [.ref te, .ref ne, .ref mi, .int 0, .ref tr, .ref be, .int 0, .int 0, .int 0])), (te, .inl (cy 0, 7, .inl (fun _ => 0))), (ne, .inl (cy 0, 7, .inl (fun _ => 0))), (mi, .inl (cy 0, 7, .inl (fun _ => 0))), (ple, .inr (3, [.ref pte, .ref pne, .ref pmi, .int 0, .ref ptr, .ref pbe, .int 0, .int 0, .int 0])), (pte, .inl (cy 0, 7, .inl (fun _ => 0))), (pne, .inl (cy 0, 7, .inl (fun _ => 0))), (pmi, .inl (cy 0, 7, .inl (fun _ => 0)))] sz) := by
  refine mt (by decide) (Nat.le_of_ble_eq_true rfl) ?_
  intro p e s m below meth c ls hx hb hr hml hts hown hlocks hin hsz hP hE hD hl
  subst hsz
  have hl : lv_has ls 2 [(0, .ref le), (1, .ref ple)] := hl
  have hD := hD.self (sz := s.heap.size)
  generalize hAe : va_A [(le, .inr (3, [.ref te, .ref ne, .ref mi, .int 0, .ref tr, .ref be, .int 0, .int 0, .int 0])), (te, .inl (cy 0, 7, .inl (fun _ => 0))), (ne, .inl (cy 0, 7, .inl (fun _ => 0))), (mi, .inl (cy 0, 7, .inl (fun _ => 0))), (ple, .inr (3, [.ref pte, .ref pne, .ref pmi, .int 0, .ref ptr, .ref pbe, .int 0, .int 0, .int 0])), (pte, .inl (cy 0, 7, .inl (fun _ => 0))), (pne, .inl (cy 0, 7, .inl (fun _ => 0))), (pmi, .inl (cy 0, 7, .inl (fun _ => 0)))] s.heap.size = A at hD ⊢
  have hA : ∀ q : Nat, s.heap.size ≤ q → A q := fun q h => by rw [← hAe]; exact Or.inr h
  have hS : va_S A s.heap s.heap [] := va_S.rf
  refine lv_aload_n hx hb dX3_takeFrom_0 rfl (lv_at hl 1 rfl) ?_
  refine va_get (D := G) (ci := 3) (v := .ref pte) (C := RX3) (T := TX3) (N := 9) hx hb hts inB3 hown hE.1 hP 4 rfl rfl 0 (by decide) (hts _ m_218) (fun _ h9 => h9) rfl dX3_takeFrom_1 ?_
  refine lv_iconst (v := 0) hx hb dX3_takeFrom_4 (by decide) ?_
  refine lv_aload_n hx hb dX3_takeFrom_5 rfl (lv_at hl 0 rfl) ?_
  refine va_get (D := G) (ci := 3) (v := .ref te) (C := RX3) (T := TX3) (N := 9) hx hb hts inB3 hown hE.1 hP 0 rfl rfl 0 (by decide) (hts _ m_218) (fun _ h9 => h9) rfl dX3_takeFrom_6 ?_
  refine lv_iconst (v := 0) hx hb dX3_takeFrom_9 (by decide) ?_
  refine lv_bipush (v := 7) hx hb dX3_takeFrom_10 (by decide) ?_
  refine va_copyi (ty := .int) hx hb (hml.trans hl.1.symm) hown (hts _ m_1273) (hts _ m_830) (hts _ m_829) (hts _ m_98) hE.1 hP hD hS 5 1 0 0 rfl rfl rfl rfl rfl (by decide) (by decide) (by decide) (by decide) (by decide) (fun _ _ => rfl) (Nat.le_of_ble_eq_true rfl) (Nat.le_of_ble_eq_true rfl) dX3_takeFrom_12 (fun H locs hP hD hS => ?_)
  have hP : va_P G classes [(le, .inr (3, [.ref te, .ref ne, .ref mi, .int 0, .ref tr, .ref be, .int 0, .int 0, .int 0])), (te, .inl (cy 0, 7, .inl (va_cpy (fun _ => 0) (fun _ => 0) 0 0 7))), (ne, .inl (cy 0, 7, .inl (fun _ => 0))), (mi, .inl (cy 0, 7, .inl (fun _ => 0))), (ple, .inr (3, [.ref pte, .ref pne, .ref pmi, .int 0, .ref ptr, .ref pbe, .int 0, .int 0, .int 0])), (pte, .inl (cy 0, 7, .inl (fun _ => 0))), (pne, .inl (cy 0, 7, .inl (fun _ => 0))), (pmi, .inl (cy 0, 7, .inl (fun _ => 0)))] H := hP
  have hD : va_D A [(le, .inr (3, [.ref te, .ref ne, .ref mi, .int 0, .ref tr, .ref be, .int 0, .int 0, .int 0])), (te, .inl (cy 0, 7, .inl (va_cpy (fun _ => 0) (fun _ => 0) 0 0 7))), (ne, .inl (cy 0, 7, .inl (fun _ => 0))), (mi, .inl (cy 0, 7, .inl (fun _ => 0))), (ple, .inr (3, [.ref pte, .ref pne, .ref pmi, .int 0, .ref ptr, .ref pbe, .int 0, .int 0, .int 0])), (pte, .inl (cy 0, 7, .inl (fun _ => 0))), (pne, .inl (cy 0, 7, .inl (fun _ => 0))), (pmi, .inl (cy 0, 7, .inl (fun _ => 0)))] := hD
  obtain ⟨xf1, hP, hD⟩ : ∃ xf1, va_P G classes [(le, .inr (3, [.ref te, .ref ne, .ref mi, .int 0, .ref tr, .ref be, .int 0, .int 0, .int 0])), (te, .inl (cy 0, 7, .inl xf1)), (ne, .inl (cy 0, 7, .inl (fun _ => 0))), (mi, .inl (cy 0, 7, .inl (fun _ => 0))), (ple, .inr (3, [.ref pte, .ref pne, .ref pmi, .int 0, .ref ptr, .ref pbe, .int 0, .int 0, .int 0])), (pte, .inl (cy 0, 7, .inl (fun _ => 0))), (pne, .inl (cy 0, 7, .inl (fun _ => 0))), (pmi, .inl (cy 0, 7, .inl (fun _ => 0)))] H ∧ va_D A [(le, .inr (3, [.ref te, .ref ne, .ref mi, .int 0, .ref tr, .ref be, .int 0, .int 0, .int 0])), (te, .inl (cy 0, 7, .inl xf1)), (ne, .inl (cy 0, 7, .inl (fun _ => 0))), (mi, .inl (cy 0, 7, .inl (fun _ => 0))), (ple, .inr (3, [.ref pte, .ref pne, .ref pmi, .int 0, .ref ptr, .ref pbe, .int 0, .int 0, .int 0])), (pte, .inl (cy 0, 7, .inl (fun _ => 0))), (pne, .inl (cy 0, 7, .inl (fun _ => 0))), (pmi, .inl (cy 0, 7, .inl (fun _ => 0)))] := ⟨_, hP, hD⟩
  refine lv_aload_n hx hb dX3_takeFrom_15 rfl (lv_at hl 1 rfl) ?_
  refine va_get (D := G) (ci := 3) (v := .ref pne) (C := RX3) (T := TX3) (N := 9) hx hb hts inB3 hown hE.1 hP 4 rfl rfl 1 (by decide) (hts _ m_219) (fun _ h9 => h9) rfl dX3_takeFrom_16 ?_
  refine lv_iconst (v := 0) hx hb dX3_takeFrom_19 (by decide) ?_
  refine lv_aload_n hx hb dX3_takeFrom_20 rfl (lv_at hl 0 rfl) ?_
  refine va_get (D := G) (ci := 3) (v := .ref ne) (C := RX3) (T := TX3) (N := 9) hx hb hts inB3 hown hE.1 hP 0 rfl rfl 1 (by decide) (hts _ m_219) (fun _ h9 => h9) rfl dX3_takeFrom_21 ?_
  refine lv_iconst (v := 0) hx hb dX3_takeFrom_24 (by decide) ?_
  refine lv_bipush (v := 7) hx hb dX3_takeFrom_25 (by decide) ?_
  refine va_copyi (ty := .int) hx hb (hml.trans hl.1.symm) hown (hts _ m_1273) (hts _ m_830) (hts _ m_829) (hts _ m_98) hE.1 hP hD hS 6 2 0 0 rfl rfl rfl rfl rfl (by decide) (by decide) (by decide) (by decide) (by decide) (fun _ _ => rfl) (Nat.le_of_ble_eq_true rfl) (Nat.le_of_ble_eq_true rfl) dX3_takeFrom_27 (fun H locs hP hD hS => ?_)
  have hP : va_P G classes [(le, .inr (3, [.ref te, .ref ne, .ref mi, .int 0, .ref tr, .ref be, .int 0, .int 0, .int 0])), (te, .inl (cy 0, 7, .inl xf1)), (ne, .inl (cy 0, 7, .inl (va_cpy (fun _ => 0) (fun _ => 0) 0 0 7))), (mi, .inl (cy 0, 7, .inl (fun _ => 0))), (ple, .inr (3, [.ref pte, .ref pne, .ref pmi, .int 0, .ref ptr, .ref pbe, .int 0, .int 0, .int 0])), (pte, .inl (cy 0, 7, .inl (fun _ => 0))), (pne, .inl (cy 0, 7, .inl (fun _ => 0))), (pmi, .inl (cy 0, 7, .inl (fun _ => 0)))] H := hP
  have hD : va_D A [(le, .inr (3, [.ref te, .ref ne, .ref mi, .int 0, .ref tr, .ref be, .int 0, .int 0, .int 0])), (te, .inl (cy 0, 7, .inl xf1)), (ne, .inl (cy 0, 7, .inl (va_cpy (fun _ => 0) (fun _ => 0) 0 0 7))), (mi, .inl (cy 0, 7, .inl (fun _ => 0))), (ple, .inr (3, [.ref pte, .ref pne, .ref pmi, .int 0, .ref ptr, .ref pbe, .int 0, .int 0, .int 0])), (pte, .inl (cy 0, 7, .inl (fun _ => 0))), (pne, .inl (cy 0, 7, .inl (fun _ => 0))), (pmi, .inl (cy 0, 7, .inl (fun _ => 0)))] := hD
  obtain ⟨xf2, hP, hD⟩ : ∃ xf2, va_P G classes [(le, .inr (3, [.ref te, .ref ne, .ref mi, .int 0, .ref tr, .ref be, .int 0, .int 0, .int 0])), (te, .inl (cy 0, 7, .inl xf1)), (ne, .inl (cy 0, 7, .inl xf2)), (mi, .inl (cy 0, 7, .inl (fun _ => 0))), (ple, .inr (3, [.ref pte, .ref pne, .ref pmi, .int 0, .ref ptr, .ref pbe, .int 0, .int 0, .int 0])), (pte, .inl (cy 0, 7, .inl (fun _ => 0))), (pne, .inl (cy 0, 7, .inl (fun _ => 0))), (pmi, .inl (cy 0, 7, .inl (fun _ => 0)))] H ∧ va_D A [(le, .inr (3, [.ref te, .ref ne, .ref mi, .int 0, .ref tr, .ref be, .int 0, .int 0, .int 0])), (te, .inl (cy 0, 7, .inl xf1)), (ne, .inl (cy 0, 7, .inl xf2)), (mi, .inl (cy 0, 7, .inl (fun _ => 0))), (ple, .inr (3, [.ref pte, .ref pne, .ref pmi, .int 0, .ref ptr, .ref pbe, .int 0, .int 0, .int 0])), (pte, .inl (cy 0, 7, .inl (fun _ => 0))), (pne, .inl (cy 0, 7, .inl (fun _ => 0))), (pmi, .inl (cy 0, 7, .inl (fun _ => 0)))] := ⟨_, hP, hD⟩
  refine lv_aload_n hx hb dX3_takeFrom_30 rfl (lv_at hl 1 rfl) ?_
  refine va_get (D := G) (ci := 3) (v := .ref pmi) (C := RX3) (T := TX3) (N := 9) hx hb hts inB3 hown hE.1 hP 4 rfl rfl 2 (by decide) (hts _ m_220) (fun _ h9 => h9) rfl dX3_takeFrom_31 ?_
  refine lv_iconst (v := 0) hx hb dX3_takeFrom_34 (by decide) ?_
  refine lv_aload_n hx hb dX3_takeFrom_35 rfl (lv_at hl 0 rfl) ?_
  refine va_get (D := G) (ci := 3) (v := .ref mi) (C := RX3) (T := TX3) (N := 9) hx hb hts inB3 hown hE.1 hP 0 rfl rfl 2 (by decide) (hts _ m_220) (fun _ h9 => h9) rfl dX3_takeFrom_36 ?_
  refine lv_iconst (v := 0) hx hb dX3_takeFrom_39 (by decide) ?_
  refine lv_bipush (v := 7) hx hb dX3_takeFrom_40 (by decide) ?_
  refine va_copyi (ty := .int) hx hb (hml.trans hl.1.symm) hown (hts _ m_1273) (hts _ m_830) (hts _ m_829) (hts _ m_98) hE.1 hP hD hS 7 3 0 0 rfl rfl rfl rfl rfl (by decide) (by decide) (by decide) (by decide) (by decide) (fun _ _ => rfl) (Nat.le_of_ble_eq_true rfl) (Nat.le_of_ble_eq_true rfl) dX3_takeFrom_42 (fun H locs hP hD hS => ?_)
  have hP : va_P G classes [(le, .inr (3, [.ref te, .ref ne, .ref mi, .int 0, .ref tr, .ref be, .int 0, .int 0, .int 0])), (te, .inl (cy 0, 7, .inl xf1)), (ne, .inl (cy 0, 7, .inl xf2)), (mi, .inl (cy 0, 7, .inl (va_cpy (fun _ => 0) (fun _ => 0) 0 0 7))), (ple, .inr (3, [.ref pte, .ref pne, .ref pmi, .int 0, .ref ptr, .ref pbe, .int 0, .int 0, .int 0])), (pte, .inl (cy 0, 7, .inl (fun _ => 0))), (pne, .inl (cy 0, 7, .inl (fun _ => 0))), (pmi, .inl (cy 0, 7, .inl (fun _ => 0)))] H := hP
  have hD : va_D A [(le, .inr (3, [.ref te, .ref ne, .ref mi, .int 0, .ref tr, .ref be, .int 0, .int 0, .int 0])), (te, .inl (cy 0, 7, .inl xf1)), (ne, .inl (cy 0, 7, .inl xf2)), (mi, .inl (cy 0, 7, .inl (va_cpy (fun _ => 0) (fun _ => 0) 0 0 7))), (ple, .inr (3, [.ref pte, .ref pne, .ref pmi, .int 0, .ref ptr, .ref pbe, .int 0, .int 0, .int 0])), (pte, .inl (cy 0, 7, .inl (fun _ => 0))), (pne, .inl (cy 0, 7, .inl (fun _ => 0))), (pmi, .inl (cy 0, 7, .inl (fun _ => 0)))] := hD
  obtain ⟨xf3, hP, hD⟩ : ∃ xf3, va_P G classes [(le, .inr (3, [.ref te, .ref ne, .ref mi, .int 0, .ref tr, .ref be, .int 0, .int 0, .int 0])), (te, .inl (cy 0, 7, .inl xf1)), (ne, .inl (cy 0, 7, .inl xf2)), (mi, .inl (cy 0, 7, .inl xf3)), (ple, .inr (3, [.ref pte, .ref pne, .ref pmi, .int 0, .ref ptr, .ref pbe, .int 0, .int 0, .int 0])), (pte, .inl (cy 0, 7, .inl (fun _ => 0))), (pne, .inl (cy 0, 7, .inl (fun _ => 0))), (pmi, .inl (cy 0, 7, .inl (fun _ => 0)))] H ∧ va_D A [(le, .inr (3, [.ref te, .ref ne, .ref mi, .int 0, .ref tr, .ref be, .int 0, .int 0, .int 0])), (te, .inl (cy 0, 7, .inl xf1)), (ne, .inl (cy 0, 7, .inl xf2)), (mi, .inl (cy 0, 7, .inl xf3)), (ple, .inr (3, [.ref pte, .ref pne, .ref pmi, .int 0, .ref ptr, .ref pbe, .int 0, .int 0, .int 0])), (pte, .inl (cy 0, 7, .inl (fun _ => 0))), (pne, .inl (cy 0, 7, .inl (fun _ => 0))), (pmi, .inl (cy 0, 7, .inl (fun _ => 0)))] := ⟨_, hP, hD⟩
  refine lv_aload_n hx hb dX3_takeFrom_45 rfl (lv_at hl 0 rfl) ?_
  refine lv_aload_n hx hb dX3_takeFrom_46 rfl (lv_at hl 1 rfl) ?_
  refine va_get (D := G) (ci := 3) (v := .int 0) (C := RX3) (T := TX3) (N := 9) hx hb hts inB3 hown hE.1 hP 4 rfl rfl 3 (by decide) (hts _ m_221) (fun _ h9 => h9) rfl dX3_takeFrom_47 ?_
  refine va_put (D := G) (ci := 3) (v := .int 0) (ty := .int) (C := RX3) (T := TX3) (N := 9) hx hb hts inB3 tyX3 tyX3_ok nmX3 hown hE.1 hP hD hS 0 rfl rfl 3 (by decide) (hts _ m_221) (fun _ h9 => h9) rfl (by decide +kernel) rfl rfl (Nat.le_of_ble_eq_true rfl) dX3_takeFrom_50 (fun H locs hP hD hS => ?_)
  have hP : va_P G classes [(le, .inr (3, [.ref te, .ref ne, .ref mi, .int 0, .ref tr, .ref be, .int 0, .int 0, .int 0])), (te, .inl (cy 0, 7, .inl xf1)), (ne, .inl (cy 0, 7, .inl xf2)), (mi, .inl (cy 0, 7, .inl xf3)), (ple, .inr (3, [.ref pte, .ref pne, .ref pmi, .int 0, .ref ptr, .ref pbe, .int 0, .int 0, .int 0])), (pte, .inl (cy 0, 7, .inl (fun _ => 0))), (pne, .inl (cy 0, 7, .inl (fun _ => 0))), (pmi, .inl (cy 0, 7, .inl (fun _ => 0)))] H := hP
  have hD : va_D A [(le, .inr (3, [.ref te, .ref ne, .ref mi, .int 0, .ref tr, .ref be, .int 0, .int 0, .int 0])), (te, .inl (cy 0, 7, .inl xf1)), (ne, .inl (cy 0, 7, .inl xf2)), (mi, .inl (cy 0, 7, .inl xf3)), (ple, .inr (3, [.ref pte, .ref pne, .ref pmi, .int 0, .ref ptr, .ref pbe, .int 0, .int 0, .int 0])), (pte, .inl (cy 0, 7, .inl (fun _ => 0))), (pne, .inl (cy 0, 7, .inl (fun _ => 0))), (pmi, .inl (cy 0, 7, .inl (fun _ => 0)))] := hD
  refine W.widen (k := 0) (n := 0) (by first | exact Nat.le_of_ble_eq_true rfl | omega) (by first | exact Nat.le_of_ble_eq_true rfl | omega) ?_
  exact W.vret hx hb hr (fun t ht hW => ⟨⟨(), rfl, trivial, trivial⟩, hS.F ht⟩) hS.2.2 dX3_takeFrom_53
set_option maxHeartbeats 4000000 in
set_option maxRecDepth 100000 in
theorem c_X4_next (l : Launch) (G : va_G) (cy : Nat → ClassId) (sk : Nat → Nat) (sz : Nat) (re : Nat) (dr : Nat) (ta : Nat) (nm : Nat) (rta : Nat) (fa : Int32)  : Met l yX4_next (wsO yX4_next cX4_next 1 (some .int)) ({ frames := 0, cells := 0, slots := 0, locals := 0 }) (va_Pc [.ref re] (PR G cy sk sz [(re, .inr (4, [.ref dr, .ref ta, .ref nm, .int 0, .int fa, .int 0, .int 0])), (ta, .inr (5, [.ref rta, .int 0]))])) (vp_Si (fun r => r = (-1))) 0 0 (fun _ => False) := by
  refine mt (by decide) (Nat.le_of_ble_eq_true rfl) ?_
  intro p e s m below meth c ls hx hb hr hml hts hown hlocks hin hsz hP hE hD hl
  subst hsz
  have hl : lv_has ls 1 [(0, .ref re)] := hl
  refine lv_aload_n hx hb dX4_next_0 rfl (lv_at hl 0 rfl) ?_
  refine va_get (D := G) (ci := 4) (v := .int 0) (C := RX4) (T := TX4) (N := 7) hx hb hts inB4 hown hE.1 hP 0 rfl rfl 3 (by decide) (hts _ m_362) (fun _ h9 => h9) rfl dX4_next_1 ?_
  refine lv_aload_n hx hb dX4_next_4 rfl (lv_at hl 0 rfl) ?_
  refine va_get (D := G) (ci := 4) (v := .ref ta) (C := RX4) (T := TX4) (N := 7) hx hb hts inB4 hown hE.1 hP 0 rfl rfl 1 (by decide) (hts _ m_360) (fun _ h9 => h9) rfl dX4_next_5 ?_
  refine va_getN (D := G) (ci := 5) (v := .int 0) (C := RX5) (T := TX5) (N := 2) hx hb hts inB5 hown hE.1 hP 1 rfl rfl 1 (by decide) (nf_RX4_65 hE) (fun _ h9 => h9) rfl dX4_next_8 ?_
  refine lv_icmp_ge (tgt := 43) hx hb dX4_next_11 (by decide) (fun _ => ?_) (fun h9 => absurd h9 (by decide))
  refine lv_aload_n hx hb dX4_next_43 rfl (lv_at hl 0 rfl) ?_
  refine va_get (D := G) (ci := 4) (v := .int 0) (C := RX4) (T := TX4) (N := 7) hx hb hts inB4 hown hE.1 hP 0 rfl rfl 3 (by decide) (hts _ m_362) (fun _ h9 => h9) rfl dX4_next_44 ?_
  refine lv_aload_n hx hb dX4_next_47 rfl (lv_at hl 0 rfl) ?_
  refine va_get (D := G) (ci := 4) (v := .ref ta) (C := RX4) (T := TX4) (N := 7) hx hb hts inB4 hown hE.1 hP 0 rfl rfl 1 (by decide) (hts _ m_360) (fun _ h9 => h9) rfl dX4_next_48 ?_
  refine va_getN (D := G) (ci := 5) (v := .int 0) (C := RX5) (T := TX5) (N := 2) hx hb hts inB5 hown hE.1 hP 1 rfl rfl 1 (by decide) (nf_RX4_65 hE) (fun _ h9 => h9) rfl dX4_next_51 ?_
  refine lv_icmp_ge (tgt := 71) hx hb dX4_next_54 (by decide) (fun _ => ?_) (fun h9 => absurd h9 (by decide))
  refine lv_iconst (v := (-1)) hx hb dX4_next_71 (by decide) ?_
  exact W.iret (v := (-1)) hx hb hr (fun t ht hW => ⟨(-1), rfl, rfl, ht⟩) (fun _ h => by cases h) dX4_next_72
def B_c_X4_fail (G : va_G) (cy : Nat → ClassId) (A : Nat → Prop) (re : Nat) (dr : Nat) (ta : Nat) (nm : Nat) (H : Heap) : Prop := va_P G classes [(re, .inr (4, [.ref dr, .ref ta, .ref nm, .int 0, .int 0, .int 0, .int 0]))] H ∧ va_D A [(re, .inr (4, [.ref dr, .ref ta, .ref nm, .int 0, .int 0, .int 0, .int 0]))]
set_option maxHeartbeats 4000000 in
set_option maxRecDepth 100000 in
theorem c_X4_fail (l : Launch) (G : va_G) (cy : Nat → ClassId) (sk : Nat → Nat) (sz : Nat) (re : Nat) (dr : Nat) (ta : Nat) (nm : Nat)  : Met l yX4_fail (wsO yX4_fail cX4_fail 1 none) ({ frames := 0, cells := 0, slots := 0, locals := 0 }) (va_Pc [.ref re] (PR G cy sk sz [(re, .inr (4, [.ref dr, .ref ta, .ref nm, .int 0, .int (-1), .int 0, .int 0]))])) (va_Qv (fun (_ : Unit) => True) (fun _ t => B_c_X4_fail G cy (va_A [(re, .inr (4, [.ref dr, .ref ta, .ref nm, .int 0, .int (-1), .int 0, .int 0]))] sz) re dr ta nm t.heap) (va_A [(re, .inr (4, [.ref dr, .ref ta, .ref nm, .int 0, .int (-1), .int 0, .int 0]))] sz)) 0 0 (va_A [(re, .inr (4, [.ref dr, .ref ta, .ref nm, .int 0, .int (-1), .int 0, .int 0]))] sz) := by
  refine mt (by decide) (Nat.le_of_ble_eq_true rfl) ?_
  intro p e s m below meth c ls hx hb hr hml hts hown hlocks hin hsz hP hE hD hl
  subst hsz
  have hl : lv_has ls 1 [(0, .ref re)] := hl
  have hD := hD.self (sz := s.heap.size)
  generalize hAe : va_A [(re, .inr (4, [.ref dr, .ref ta, .ref nm, .int 0, .int (-1), .int 0, .int 0]))] s.heap.size = A at hD ⊢
  have hA : ∀ q : Nat, s.heap.size ≤ q → A q := fun q h => by rw [← hAe]; exact Or.inr h
  have hS : va_S A s.heap s.heap [] := va_S.rf
  refine lv_aload_n hx hb dX4_fail_0 rfl (lv_at hl 0 rfl) ?_
  refine va_get (D := G) (ci := 4) (v := .int (-1)) (C := RX4) (T := TX4) (N := 7) hx hb hts inB4 hown hE.1 hP 0 rfl rfl 4 (by decide) (hts _ m_363) (fun _ h9 => h9) rfl dX4_fail_1 ?_
  refine lv_if_ge (tgt := 15) hx hb dX4_fail_4 (by decide) (fun h9 => absurd h9 (by decide)) (fun _ => ?_)
  refine lv_aload_n hx hb dX4_fail_7 rfl (lv_at hl 0 rfl) ?_
  refine lv_aload_n hx hb dX4_fail_8 rfl (lv_at hl 0 rfl) ?_
  refine va_get (D := G) (ci := 4) (v := .int 0) (C := RX4) (T := TX4) (N := 7) hx hb hts inB4 hown hE.1 hP 0 rfl rfl 3 (by decide) (hts _ m_362) (fun _ h9 => h9) rfl dX4_fail_9 ?_
  refine va_put (D := G) (ci := 4) (v := .int 0) (ty := .int) (C := RX4) (T := TX4) (N := 7) hx hb hts inB4 tyX4 tyX4_ok nmX4 hown hE.1 hP hD hS 0 rfl rfl 4 (by decide) (hts _ m_363) (fun _ h9 => h9) rfl (by decide +kernel) rfl rfl (Nat.le_of_ble_eq_true rfl) dX4_fail_12 (fun H locs hP hD hS => ?_)
  have hP : va_P G classes [(re, .inr (4, [.ref dr, .ref ta, .ref nm, .int 0, .int 0, .int 0, .int 0]))] H := hP
  have hD : va_D A [(re, .inr (4, [.ref dr, .ref ta, .ref nm, .int 0, .int 0, .int 0, .int 0]))] := hD
  have hP9 := P_cut (wc := [(re, .inr (4, [.ref dr, .ref ta, .ref nm, .int 0, .int 0, .int 0, .int 0]))]) hP [0] rfl
  have hD9 := hD.sub (ws' := [(re, .inr (4, [.ref dr, .ref ta, .ref nm, .int 0, .int 0, .int 0, .int 0]))]) [0] (by decide) rfl
  refine W.widen (k := 0) (n := 0) (by first | exact Nat.le_of_ble_eq_true rfl | omega) (by first | exact Nat.le_of_ble_eq_true rfl | omega) ?_
  exact W.vret hx hb hr (fun t ht hW => ⟨⟨(), rfl, trivial, by dsimp only; rw [ht]; exact ⟨hP9, hD9⟩⟩, hS.F ht⟩) hS.2.2 dX4_fail_15
def B_c_X4_readName (G : va_G) (cy : Nat → ClassId) (A : Nat → Prop) (re : Nat) (dr : Nat) (ta : Nat) (nm : Nat) (H : Heap) : Prop := va_P G classes [(re, .inr (4, [.ref dr, .ref ta, .ref nm, .int 0, .int 0, .int 0, .int 0]))] H ∧ va_D A [(re, .inr (4, [.ref dr, .ref ta, .ref nm, .int 0, .int 0, .int 0, .int 0]))]
set_option maxHeartbeats 4000000 in
set_option maxRecDepth 100000 in
theorem c_X4_readName (l : Launch) (G : va_G) (cy : Nat → ClassId) (sk : Nat → Nat) (sz : Nat) (re : Nat) (dr : Nat) (ta : Nat) (nm : Nat)  : Met l yX4_readName (wsO yX4_readName cX4_readName 3 none) ({ frames := 1, cells := 0, slots := 0, locals := 20 }) (va_Pc [.ref re, .int (-1)] (PR G cy sk sz [(re, .inr (4, [.ref dr, .ref ta, .ref nm, .int 0, .int (-1), .int 0, .int 0]))])) (va_Qv (fun (_ : Unit) => True) (fun _ t => B_c_X4_readName G cy (va_A [(re, .inr (4, [.ref dr, .ref ta, .ref nm, .int 0, .int (-1), .int 0, .int 0]))] sz) re dr ta nm t.heap) (va_A [(re, .inr (4, [.ref dr, .ref ta, .ref nm, .int 0, .int (-1), .int 0, .int 0]))] sz)) 0 0 (va_A [(re, .inr (4, [.ref dr, .ref ta, .ref nm, .int 0, .int (-1), .int 0, .int 0]))] sz) := by
  refine mt (by decide) (Nat.le_of_ble_eq_true rfl) ?_
  intro p e s m below meth c ls hx hb hr hml hts hown hlocks hin hsz hP hE hD hl
  subst hsz
  have hl : lv_has ls 3 [(0, .ref re), (1, .int (-1))] := hl
  have hD := hD.self (sz := s.heap.size)
  generalize hAe : va_A [(re, .inr (4, [.ref dr, .ref ta, .ref nm, .int 0, .int (-1), .int 0, .int 0]))] s.heap.size = A at hD ⊢
  have hA : ∀ q : Nat, s.heap.size ≤ q → A q := fun q h => by rw [← hAe]; exact Or.inr h
  have hS : va_S A s.heap s.heap [] := va_S.rf
  refine lv_iload_n hx hb dX4_readName_0 rfl (lv_at hl 1 rfl) ?_
  refine lv_if_lt (tgt := 10) hx hb dX4_readName_1 (by decide) (fun _ => ?_) (fun h9 => absurd h9 (by decide))
  refine lv_iconst (v := (-1)) hx hb dX4_readName_10 (by decide) ?_
  refine lv_goto (tgt := 23) hx hb dX4_readName_11 (by decide) ?_
  refine lv_istore_n (lv' := [(2, .int (-1)), (0, .ref re), (1, .int (-1))]) hx hb dX4_readName_23 rfl hl (by decide) rfl (fun ls hl => ?_)
  refine lv_iload_n hx hb dX4_readName_24 rfl (lv_at hl 0 rfl) ?_
  refine lv_if_ge (tgt := 33) hx hb dX4_readName_25 (by decide) (fun h9 => absurd h9 (by decide)) (fun _ => ?_)
  refine lv_aload_n hx hb dX4_readName_28 rfl (lv_at hl 1 rfl) ?_
  refine wVv (B := (B_c_X4_fail G cy (va_A [(re, .inr (4, [.ref dr, .ref ta, .ref nm, .int 0, .int (-1), .int 0, .int 0]))] s.heap.size) re dr ta nm)) (wr := []) (rest := []) hx hb hml hown hts hE (c_X4_fail l G cy sk s.heap.size re dr ta nm) kV_X4_fail m_728 rfl rfl ⟨(Nat.le_of_ble_eq_true rfl), (Nat.le_of_ble_eq_true rfl)⟩ hP hD hS hA 0 rfl rfl rfl [0] [] rfl rfl rfl rfl (by decide) rfl rfl hl.1 (Nat.le_of_ble_eq_true rfl) dX4_readName_29 ⟨(Nat.le_of_ble_eq_true rfl), (Nat.le_of_ble_eq_true rfl)⟩ (fun H locs haf hS => ?_)
  obtain ⟨hP1, hD1⟩ := haf.1
  obtain ⟨hP, hD⟩ := haf.2.1 _ hP1 hD1
  have hP : va_P G classes [(re, .inr (4, [.ref dr, .ref ta, .ref nm, .int 0, .int 0, .int 0, .int 0]))] H := hP
  have hD : va_D A [(re, .inr (4, [.ref dr, .ref ta, .ref nm, .int 0, .int 0, .int 0, .int 0]))] := hD
  have hP9 := P_cut (wc := [(re, .inr (4, [.ref dr, .ref ta, .ref nm, .int 0, .int 0, .int 0, .int 0]))]) hP [0] rfl
  have hD9 := hD.sub (ws' := [(re, .inr (4, [.ref dr, .ref ta, .ref nm, .int 0, .int 0, .int 0, .int 0]))]) [0] (by decide) rfl
  refine W.widen (k := 0) (n := 0) (by first | exact Nat.le_of_ble_eq_true rfl | omega) (by first | exact Nat.le_of_ble_eq_true rfl | omega) ?_
  exact W.vret hx hb hr (fun t ht hW => ⟨⟨(), rfl, trivial, by dsimp only; rw [ht]; exact ⟨hP9, hD9⟩⟩, hS.F ht⟩) hS.2.2 dX4_readName_32
def B_c_X4_readOne (G : va_G) (cy : Nat → ClassId) (A : Nat → Prop) (re : Nat) (dr : Nat) (ta : Nat) (nm : Nat) (rta : Nat) (H : Heap) : Prop := va_P G classes [(re, .inr (4, [.ref dr, .ref ta, .ref nm, .int 0, .int 0, .int 0, .int 0])), (ta, .inr (5, [.ref rta, .int 0]))] H ∧ va_D A [(re, .inr (4, [.ref dr, .ref ta, .ref nm, .int 0, .int 0, .int 0, .int 0])), (ta, .inr (5, [.ref rta, .int 0]))]
set_option maxHeartbeats 4000000 in
set_option maxRecDepth 100000 in
theorem c_X4_readOne (l : Launch) (G : va_G) (cy : Nat → ClassId) (sk : Nat → Nat) (sz : Nat) (re : Nat) (dr : Nat) (ta : Nat) (nm : Nat) (rta : Nat)  : Met l yX4_readOne (wsO yX4_readOne cX4_readOne 2 none) ({ frames := 2, cells := 0, slots := 0, locals := 42 }) (va_Pc [.ref re] (PR G cy sk sz [(re, .inr (4, [.ref dr, .ref ta, .ref nm, .int 0, .int (-1), .int 0, .int 0])), (ta, .inr (5, [.ref rta, .int 0]))])) (va_Qv (fun (_ : Unit) => True) (fun _ t => B_c_X4_readOne G cy (va_A [(re, .inr (4, [.ref dr, .ref ta, .ref nm, .int 0, .int (-1), .int 0, .int 0])), (ta, .inr (5, [.ref rta, .int 0]))] sz) re dr ta nm rta t.heap) (va_A [(re, .inr (4, [.ref dr, .ref ta, .ref nm, .int 0, .int (-1), .int 0, .int 0])), (ta, .inr (5, [.ref rta, .int 0]))] sz)) 0 0 (va_A [(re, .inr (4, [.ref dr, .ref ta, .ref nm, .int 0, .int (-1), .int 0, .int 0])), (ta, .inr (5, [.ref rta, .int 0]))] sz) := by
  refine mt (by decide) (Nat.le_of_ble_eq_true rfl) ?_
  intro p e s m below meth c ls hx hb hr hml hts hown hlocks hin hsz hP hE hD hl
  subst hsz
  have hl : lv_has ls 2 [(0, .ref re)] := hl
  have hD := hD.self (sz := s.heap.size)
  generalize hAe : va_A [(re, .inr (4, [.ref dr, .ref ta, .ref nm, .int 0, .int (-1), .int 0, .int 0])), (ta, .inr (5, [.ref rta, .int 0]))] s.heap.size = A at hD ⊢
  have hA : ∀ q : Nat, s.heap.size ≤ q → A q := fun q h => by rw [← hAe]; exact Or.inr h
  have hS : va_S A s.heap s.heap [] := va_S.rf
  refine lv_aload_n hx hb dX4_readOne_0 rfl (lv_at hl 0 rfl) ?_
  refine va_get (D := G) (ci := 4) (v := .int (-1)) (C := RX4) (T := TX4) (N := 7) hx hb hts inB4 hown hE.1 hP 0 rfl rfl 4 (by decide) (hts _ m_363) (fun _ h9 => h9) rfl dX4_readOne_1 ?_
  refine lv_if_lt (tgt := 8) hx hb dX4_readOne_4 (by decide) (fun _ => ?_) (fun h9 => absurd h9 (by decide))
  refine lv_aload_n hx hb dX4_readOne_8 rfl (lv_at hl 0 rfl) ?_
  refine rV (rest := []) hx hb hml hown hts hE (c_X4_next l G cy sk s.heap.size re dr ta nm rta (-1)) kV_X4_next m_708 rfl rfl ⟨(Nat.le_of_ble_eq_true rfl), (Nat.le_of_ble_eq_true rfl)⟩ hP hD 0 rfl rfl rfl [0, 1] rfl rfl rfl rfl hl.1 (Nat.le_of_ble_eq_true rfl) dX4_readOne_9 ⟨(Nat.le_of_ble_eq_true rfl), (Nat.le_of_ble_eq_true rfl)⟩ (fun r_1 hr_ => ?_)
  subst hr_
  refine lv_istore_n (lv' := [(1, .int (-1)), (0, .ref re)]) hx hb dX4_readOne_12 rfl hl (by decide) rfl (fun ls hl => ?_)
  refine lv_iload_n hx hb dX4_readOne_13 rfl (lv_at hl 0 rfl) ?_
  refine lv_bipush (v := 48) hx hb dX4_readOne_14 (by decide) ?_
  refine lv_icmp_lt (tgt := 32) hx hb dX4_readOne_16 (by decide) (fun _ => ?_) (fun h9 => absurd h9 (by decide))
  refine lv_iload_n hx hb dX4_readOne_32 rfl (lv_at hl 0 rfl) ?_
  refine lv_bipush (v := 45) hx hb dX4_readOne_33 (by decide) ?_
  refine lv_icmp_eq (tgt := 50) hx hb dX4_readOne_35 (by decide) (fun h9 => absurd h9 (by decide)) (fun _ => ?_)
  refine lv_iload_n hx hb dX4_readOne_38 rfl (lv_at hl 0 rfl) ?_
  refine lv_bipush (v := 40) hx hb dX4_readOne_39 (by decide) ?_
  refine lv_icmp_eq (tgt := 50) hx hb dX4_readOne_41 (by decide) (fun h9 => absurd h9 (by decide)) (fun _ => ?_)
  refine lv_iload_n hx hb dX4_readOne_44 rfl (lv_at hl 0 rfl) ?_
  refine lv_bipush (v := 91) hx hb dX4_readOne_45 (by decide) ?_
  refine lv_icmp_ne (tgt := 58) hx hb dX4_readOne_47 (by decide) (fun _ => ?_) (fun h9 => absurd h9 (by decide))
  refine lv_aload_n hx hb dX4_readOne_58 rfl (lv_at hl 1 rfl) ?_
  refine lv_iload_n hx hb dX4_readOne_59 rfl (lv_at hl 0 rfl) ?_
  refine wVv (B := (B_c_X4_readName G cy (va_A [(re, .inr (4, [.ref dr, .ref ta, .ref nm, .int 0, .int (-1), .int 0, .int 0]))] s.heap.size) re dr ta nm)) (wr := [(ta, .inr (5, [.ref rta, .int 0]))]) (rest := []) hx hb hml hown hts hE (c_X4_readName l G cy sk s.heap.size re dr ta nm) kV_X4_readName m_736 rfl rfl ⟨(Nat.le_of_ble_eq_true rfl), (Nat.le_of_ble_eq_true rfl)⟩ hP hD hS hA 0 rfl rfl rfl [0] [1] rfl rfl rfl rfl (by decide) rfl rfl hl.1 (Nat.le_of_ble_eq_true rfl) dX4_readOne_60 ⟨(Nat.le_of_ble_eq_true rfl), (Nat.le_of_ble_eq_true rfl)⟩ (fun H locs haf hS => ?_)
  obtain ⟨hP1, hD1⟩ := haf.1
  obtain ⟨hP, hD⟩ := haf.2.1 _ hP1 hD1
  have hP : va_P G classes [(ta, .inr (5, [.ref rta, .int 0])), (re, .inr (4, [.ref dr, .ref ta, .ref nm, .int 0, .int 0, .int 0, .int 0]))] H := hP
  have hD : va_D A [(ta, .inr (5, [.ref rta, .int 0])), (re, .inr (4, [.ref dr, .ref ta, .ref nm, .int 0, .int 0, .int 0, .int 0]))] := hD
  have hP9 := P_cut (wc := [(re, .inr (4, [.ref dr, .ref ta, .ref nm, .int 0, .int 0, .int 0, .int 0])), (ta, .inr (5, [.ref rta, .int 0]))]) hP [1, 0] rfl
  have hD9 := hD.sub (ws' := [(re, .inr (4, [.ref dr, .ref ta, .ref nm, .int 0, .int 0, .int 0, .int 0])), (ta, .inr (5, [.ref rta, .int 0]))]) [1, 0] (by decide) rfl
  refine W.widen (k := 0) (n := 0) (by first | exact Nat.le_of_ble_eq_true rfl | omega) (by first | exact Nat.le_of_ble_eq_true rfl | omega) ?_
  exact W.vret hx hb hr (fun t ht hW => ⟨⟨(), rfl, trivial, by dsimp only; rw [ht]; exact ⟨hP9, hD9⟩⟩, hS.F ht⟩) hS.2.2 dX4_readOne_63
def B_c_X4_readTerm (G : va_G) (cy : Nat → ClassId) (A : Nat → Prop) (re : Nat) (dr : Nat) (ta : Nat) (nm : Nat) (rta : Nat) (H : Heap) : Prop := va_P G classes [(re, .inr (4, [.ref dr, .ref ta, .ref nm, .int 0, .int 0, .int 0, .int 0])), (ta, .inr (5, [.ref rta, .int 0]))] H ∧ va_D A [(re, .inr (4, [.ref dr, .ref ta, .ref nm, .int 0, .int 0, .int 0, .int 0])), (ta, .inr (5, [.ref rta, .int 0]))]
set_option maxHeartbeats 4000000 in
set_option maxRecDepth 100000 in
theorem c_X4_readTerm (l : Launch) (G : va_G) (cy : Nat → ClassId) (sk : Nat → Nat) (sz : Nat) (re : Nat) (dr : Nat) (ta : Nat) (nm : Nat) (rta : Nat)  : Met l yX4_readTerm (wsO yX4_readTerm cX4_readTerm 3 none) ({ frames := 3, cells := 0, slots := 0, locals := 63 }) (va_Pc [.ref re] (PR G cy sk sz [(re, .inr (4, [.ref dr, .ref ta, .ref nm, .int 0, .int (-1), .int 0, .int 0])), (ta, .inr (5, [.ref rta, .int 0]))])) (va_Qv (fun (_ : Unit) => True) (fun _ t => B_c_X4_readTerm G cy (va_A [(re, .inr (4, [.ref dr, .ref ta, .ref nm, .int 0, .int (-1), .int 0, .int 0])), (ta, .inr (5, [.ref rta, .int 0]))] sz) re dr ta nm rta t.heap) (va_A [(re, .inr (4, [.ref dr, .ref ta, .ref nm, .int 0, .int (-1), .int 0, .int 0])), (ta, .inr (5, [.ref rta, .int 0]))] sz)) 0 0 (va_A [(re, .inr (4, [.ref dr, .ref ta, .ref nm, .int 0, .int (-1), .int 0, .int 0])), (ta, .inr (5, [.ref rta, .int 0]))] sz) := by
  refine mt (by decide) (Nat.le_of_ble_eq_true rfl) ?_
  intro p e s m below meth c ls hx hb hr hml hts hown hlocks hin hsz hP hE hD hl
  subst hsz
  have hl : lv_has ls 3 [(0, .ref re)] := hl
  have hD := hD.self (sz := s.heap.size)
  generalize hAe : va_A [(re, .inr (4, [.ref dr, .ref ta, .ref nm, .int 0, .int (-1), .int 0, .int 0])), (ta, .inr (5, [.ref rta, .int 0]))] s.heap.size = A at hD ⊢
  have hA : ∀ q : Nat, s.heap.size ≤ q → A q := fun q h => by rw [← hAe]; exact Or.inr h
  have hS : va_S A s.heap s.heap [] := va_S.rf
  refine lv_aload_n hx hb dX4_readTerm_0 rfl (lv_at hl 0 rfl) ?_
  refine wVv (B := (B_c_X4_readOne G cy (va_A [(re, .inr (4, [.ref dr, .ref ta, .ref nm, .int 0, .int (-1), .int 0, .int 0])), (ta, .inr (5, [.ref rta, .int 0]))] s.heap.size) re dr ta nm rta)) (wr := []) (rest := []) hx hb hml hown hts hE (c_X4_readOne l G cy sk s.heap.size re dr ta nm rta) kV_X4_readOne m_704 rfl rfl ⟨(Nat.le_of_ble_eq_true rfl), (Nat.le_of_ble_eq_true rfl)⟩ hP hD hS hA 0 rfl rfl rfl [0, 1] [] rfl rfl rfl rfl (by decide) rfl rfl hl.1 (Nat.le_of_ble_eq_true rfl) dX4_readTerm_1 ⟨(Nat.le_of_ble_eq_true rfl), (Nat.le_of_ble_eq_true rfl)⟩ (fun H locs haf hS => ?_)
  obtain ⟨hP1, hD1⟩ := haf.1
  obtain ⟨hP, hD⟩ := haf.2.1 _ hP1 hD1
  have hP : va_P G classes [(re, .inr (4, [.ref dr, .ref ta, .ref nm, .int 0, .int 0, .int 0, .int 0])), (ta, .inr (5, [.ref rta, .int 0]))] H := hP
  have hD : va_D A [(re, .inr (4, [.ref dr, .ref ta, .ref nm, .int 0, .int 0, .int 0, .int 0])), (ta, .inr (5, [.ref rta, .int 0]))] := hD
  refine lv_iconst (v := 0) hx hb dX4_readTerm_4 (by decide) ?_
  refine lv_istore_n (lv' := [(1, .int 0), (0, .ref re)]) hx hb dX4_readTerm_5 rfl hl (by decide) rfl (fun ls hl => ?_)
  refine lv_iload_n hx hb dX4_readTerm_6 rfl (lv_at hl 0 rfl) ?_
  refine lv_bipush (v := 48) hx hb dX4_readTerm_7 (by decide) ?_
  refine lv_icmp_ge (tgt := 75) hx hb dX4_readTerm_9 (by decide) (fun h9 => absurd h9 (by decide)) (fun _ => ?_)
  refine lv_aload_n hx hb dX4_readTerm_12 rfl (lv_at hl 1 rfl) ?_
  refine va_get (D := G) (ci := 4) (v := .int 0) (C := RX4) (T := TX4) (N := 7) hx hb hts inB4 hown hE.1 hP 0 rfl rfl 4 (by decide) (hts _ m_363) (fun _ h9 => h9) rfl dX4_readTerm_13 ?_
  refine lv_if_ge (tgt := 75) hx hb dX4_readTerm_16 (by decide) (fun _ => ?_) (fun h9 => absurd h9 (by decide))
  have hP9 := P_cut (wc := [(re, .inr (4, [.ref dr, .ref ta, .ref nm, .int 0, .int 0, .int 0, .int 0])), (ta, .inr (5, [.ref rta, .int 0]))]) hP [0, 1] rfl
  have hD9 := hD.sub (ws' := [(re, .inr (4, [.ref dr, .ref ta, .ref nm, .int 0, .int 0, .int 0, .int 0])), (ta, .inr (5, [.ref rta, .int 0]))]) [0, 1] (by decide) rfl
  refine W.widen (k := 0) (n := 0) (by first | exact Nat.le_of_ble_eq_true rfl | omega) (by first | exact Nat.le_of_ble_eq_true rfl | omega) ?_
  exact W.vret hx hb hr (fun t ht hW => ⟨⟨(), rfl, trivial, by dsimp only; rw [ht]; exact ⟨hP9, hD9⟩⟩, hS.F ht⟩) hS.2.2 dX4_readTerm_75
end
section
def B_c_X4_readSum (G : va_G) (cy : Nat → ClassId) (A : Nat → Prop) (re : Nat) (dr : Nat) (ta : Nat) (nm : Nat) (rta : Nat) (H : Heap) : Prop := va_P G classes [(re, .inr (4, [.ref dr, .ref ta, .ref nm, .int 0, .int 0, .int 0, .int 0])), (ta, .inr (5, [.ref rta, .int 0]))] H ∧ va_D A [(re, .inr (4, [.ref dr, .ref ta, .ref nm, .int 0, .int 0, .int 0, .int 0])), (ta, .inr (5, [.ref rta, .int 0]))]
set_option maxHeartbeats 4000000 in
set_option maxRecDepth 100000 in
theorem c_X4_readSum (l : Launch) (G : va_G) (cy : Nat → ClassId) (sk : Nat → Nat) (sz : Nat) (re : Nat) (dr : Nat) (ta : Nat) (nm : Nat) (rta : Nat)  : Met l yX4_readSum (wsO yX4_readSum cX4_readSum 3 none) ({ frames := 4, cells := 0, slots := 0, locals := 85 }) (va_Pc [.ref re] (PR G cy sk sz [(re, .inr (4, [.ref dr, .ref ta, .ref nm, .int 0, .int (-1), .int 0, .int 0])), (ta, .inr (5, [.ref rta, .int 0]))])) (va_Qv (fun (_ : Unit) => True) (fun _ t => B_c_X4_readSum G cy (va_A [(re, .inr (4, [.ref dr, .ref ta, .ref nm, .int 0, .int (-1), .int 0, .int 0])), (ta, .inr (5, [.ref rta, .int 0]))] sz) re dr ta nm rta t.heap) (va_A [(re, .inr (4, [.ref dr, .ref ta, .ref nm, .int 0, .int (-1), .int 0, .int 0])), (ta, .inr (5, [.ref rta, .int 0]))] sz)) 0 0 (va_A [(re, .inr (4, [.ref dr, .ref ta, .ref nm, .int 0, .int (-1), .int 0, .int 0])), (ta, .inr (5, [.ref rta, .int 0]))] sz) := by
  refine mt (by decide) (Nat.le_of_ble_eq_true rfl) ?_
  intro p e s m below meth c ls hx hb hr hml hts hown hlocks hin hsz hP hE hD hl
  subst hsz
  have hl : lv_has ls 3 [(0, .ref re)] := hl
  have hD := hD.self (sz := s.heap.size)
  generalize hAe : va_A [(re, .inr (4, [.ref dr, .ref ta, .ref nm, .int 0, .int (-1), .int 0, .int 0])), (ta, .inr (5, [.ref rta, .int 0]))] s.heap.size = A at hD ⊢
  have hA : ∀ q : Nat, s.heap.size ≤ q → A q := fun q h => by rw [← hAe]; exact Or.inr h
  have hS : va_S A s.heap s.heap [] := va_S.rf
  refine lv_aload_n hx hb dX4_readSum_0 rfl (lv_at hl 0 rfl) ?_
  refine wVv (B := (B_c_X4_readTerm G cy (va_A [(re, .inr (4, [.ref dr, .ref ta, .ref nm, .int 0, .int (-1), .int 0, .int 0])), (ta, .inr (5, [.ref rta, .int 0]))] s.heap.size) re dr ta nm rta)) (wr := []) (rest := []) hx hb hml hown hts hE (c_X4_readTerm l G cy sk s.heap.size re dr ta nm rta) kV_X4_readTerm m_700 rfl rfl ⟨(Nat.le_of_ble_eq_true rfl), (Nat.le_of_ble_eq_true rfl)⟩ hP hD hS hA 0 rfl rfl rfl [0, 1] [] rfl rfl rfl rfl (by decide) rfl rfl hl.1 (Nat.le_of_ble_eq_true rfl) dX4_readSum_1 ⟨(Nat.le_of_ble_eq_true rfl), (Nat.le_of_ble_eq_true rfl)⟩ (fun H locs haf hS => ?_)
  obtain ⟨hP1, hD1⟩ := haf.1
  obtain ⟨hP, hD⟩ := haf.2.1 _ hP1 hD1
  have hP : va_P G classes [(re, .inr (4, [.ref dr, .ref ta, .ref nm, .int 0, .int 0, .int 0, .int 0])), (ta, .inr (5, [.ref rta, .int 0]))] H := hP
  have hD : va_D A [(re, .inr (4, [.ref dr, .ref ta, .ref nm, .int 0, .int 0, .int 0, .int 0])), (ta, .inr (5, [.ref rta, .int 0]))] := hD
  refine lv_iconst (v := 0) hx hb dX4_readSum_4 (by decide) ?_
  refine lv_istore_n (lv' := [(1, .int 0), (0, .ref re)]) hx hb dX4_readSum_5 rfl hl (by decide) rfl (fun ls hl => ?_)
  refine lv_iload_n hx hb dX4_readSum_6 rfl (lv_at hl 0 rfl) ?_
  refine lv_bipush (v := 48) hx hb dX4_readSum_7 (by decide) ?_
  refine lv_icmp_ge (tgt := 69) hx hb dX4_readSum_9 (by decide) (fun h9 => absurd h9 (by decide)) (fun _ => ?_)
  refine lv_aload_n hx hb dX4_readSum_12 rfl (lv_at hl 1 rfl) ?_
  refine va_get (D := G) (ci := 4) (v := .int 0) (C := RX4) (T := TX4) (N := 7) hx hb hts inB4 hown hE.1 hP 0 rfl rfl 4 (by decide) (hts _ m_363) (fun _ h9 => h9) rfl dX4_readSum_13 ?_
  refine lv_if_ge (tgt := 69) hx hb dX4_readSum_16 (by decide) (fun _ => ?_) (fun h9 => absurd h9 (by decide))
  have hP9 := P_cut (wc := [(re, .inr (4, [.ref dr, .ref ta, .ref nm, .int 0, .int 0, .int 0, .int 0])), (ta, .inr (5, [.ref rta, .int 0]))]) hP [0, 1] rfl
  have hD9 := hD.sub (ws' := [(re, .inr (4, [.ref dr, .ref ta, .ref nm, .int 0, .int 0, .int 0, .int 0])), (ta, .inr (5, [.ref rta, .int 0]))]) [0, 1] (by decide) rfl
  refine W.widen (k := 0) (n := 0) (by first | exact Nat.le_of_ble_eq_true rfl | omega) (by first | exact Nat.le_of_ble_eq_true rfl | omega) ?_
  exact W.vret hx hb hr (fun t ht hW => ⟨⟨(), rfl, trivial, by dsimp only; rw [ht]; exact ⟨hP9, hD9⟩⟩, hS.F ht⟩) hS.2.2 dX4_readSum_69
def B_c_X4_readComparisons (G : va_G) (cy : Nat → ClassId) (A : Nat → Prop) (re : Nat) (dr : Nat) (ta : Nat) (nm : Nat) (rta : Nat) (H : Heap) : Prop := va_P G classes [(re, .inr (4, [.ref dr, .ref ta, .ref nm, .int 0, .int 0, .int 0, .int 0])), (ta, .inr (5, [.ref rta, .int 0]))] H ∧ va_D A [(re, .inr (4, [.ref dr, .ref ta, .ref nm, .int 0, .int 0, .int 0, .int 0])), (ta, .inr (5, [.ref rta, .int 0]))]
set_option maxHeartbeats 4000000 in
set_option maxRecDepth 100000 in
theorem c_X4_readComparisons (l : Launch) (G : va_G) (cy : Nat → ClassId) (sk : Nat → Nat) (sz : Nat) (re : Nat) (dr : Nat) (ta : Nat) (nm : Nat) (rta : Nat)  : Met l yX4_readComparisons (wsO yX4_readComparisons cX4_readComparisons 3 none) ({ frames := 5, cells := 0, slots := 0, locals := 107 }) (va_Pc [.ref re] (PR G cy sk sz [(re, .inr (4, [.ref dr, .ref ta, .ref nm, .int 0, .int (-1), .int 0, .int 0])), (ta, .inr (5, [.ref rta, .int 0]))])) (va_Qv (fun (_ : Unit) => True) (fun _ t => B_c_X4_readComparisons G cy (va_A [(re, .inr (4, [.ref dr, .ref ta, .ref nm, .int 0, .int (-1), .int 0, .int 0])), (ta, .inr (5, [.ref rta, .int 0]))] sz) re dr ta nm rta t.heap) (va_A [(re, .inr (4, [.ref dr, .ref ta, .ref nm, .int 0, .int (-1), .int 0, .int 0])), (ta, .inr (5, [.ref rta, .int 0]))] sz)) 0 0 (va_A [(re, .inr (4, [.ref dr, .ref ta, .ref nm, .int 0, .int (-1), .int 0, .int 0])), (ta, .inr (5, [.ref rta, .int 0]))] sz) := by
  refine mt (by decide) (Nat.le_of_ble_eq_true rfl) ?_
  intro p e s m below meth c ls hx hb hr hml hts hown hlocks hin hsz hP hE hD hl
  subst hsz
  have hl : lv_has ls 3 [(0, .ref re)] := hl
  have hD := hD.self (sz := s.heap.size)
  generalize hAe : va_A [(re, .inr (4, [.ref dr, .ref ta, .ref nm, .int 0, .int (-1), .int 0, .int 0])), (ta, .inr (5, [.ref rta, .int 0]))] s.heap.size = A at hD ⊢
  have hA : ∀ q : Nat, s.heap.size ≤ q → A q := fun q h => by rw [← hAe]; exact Or.inr h
  have hS : va_S A s.heap s.heap [] := va_S.rf
  refine lv_aload_n hx hb dX4_readComparisons_0 rfl (lv_at hl 0 rfl) ?_
  refine wVv (B := (B_c_X4_readSum G cy (va_A [(re, .inr (4, [.ref dr, .ref ta, .ref nm, .int 0, .int (-1), .int 0, .int 0])), (ta, .inr (5, [.ref rta, .int 0]))] s.heap.size) re dr ta nm rta)) (wr := []) (rest := []) hx hb hml hown hts hE (c_X4_readSum l G cy sk s.heap.size re dr ta nm rta) kV_X4_readSum m_696 rfl rfl ⟨(Nat.le_of_ble_eq_true rfl), (Nat.le_of_ble_eq_true rfl)⟩ hP hD hS hA 0 rfl rfl rfl [0, 1] [] rfl rfl rfl rfl (by decide) rfl rfl hl.1 (Nat.le_of_ble_eq_true rfl) dX4_readComparisons_1 ⟨(Nat.le_of_ble_eq_true rfl), (Nat.le_of_ble_eq_true rfl)⟩ (fun H locs haf hS => ?_)
  obtain ⟨hP1, hD1⟩ := haf.1
  obtain ⟨hP, hD⟩ := haf.2.1 _ hP1 hD1
  have hP : va_P G classes [(re, .inr (4, [.ref dr, .ref ta, .ref nm, .int 0, .int 0, .int 0, .int 0])), (ta, .inr (5, [.ref rta, .int 0]))] H := hP
  have hD : va_D A [(re, .inr (4, [.ref dr, .ref ta, .ref nm, .int 0, .int 0, .int 0, .int 0])), (ta, .inr (5, [.ref rta, .int 0]))] := hD
  refine lv_iconst (v := 0) hx hb dX4_readComparisons_4 (by decide) ?_
  refine lv_istore_n (lv' := [(1, .int 0), (0, .ref re)]) hx hb dX4_readComparisons_5 rfl hl (by decide) rfl (fun ls hl => ?_)
  refine lv_iload_n hx hb dX4_readComparisons_6 rfl (lv_at hl 0 rfl) ?_
  refine lv_bipush (v := 48) hx hb dX4_readComparisons_7 (by decide) ?_
  refine lv_icmp_ge (tgt := 75) hx hb dX4_readComparisons_9 (by decide) (fun h9 => absurd h9 (by decide)) (fun _ => ?_)
  refine lv_aload_n hx hb dX4_readComparisons_12 rfl (lv_at hl 1 rfl) ?_
  refine va_get (D := G) (ci := 4) (v := .int 0) (C := RX4) (T := TX4) (N := 7) hx hb hts inB4 hown hE.1 hP 0 rfl rfl 4 (by decide) (hts _ m_363) (fun _ h9 => h9) rfl dX4_readComparisons_13 ?_
  refine lv_if_ge (tgt := 75) hx hb dX4_readComparisons_16 (by decide) (fun _ => ?_) (fun h9 => absurd h9 (by decide))
  have hP9 := P_cut (wc := [(re, .inr (4, [.ref dr, .ref ta, .ref nm, .int 0, .int 0, .int 0, .int 0])), (ta, .inr (5, [.ref rta, .int 0]))]) hP [0, 1] rfl
  have hD9 := hD.sub (ws' := [(re, .inr (4, [.ref dr, .ref ta, .ref nm, .int 0, .int 0, .int 0, .int 0])), (ta, .inr (5, [.ref rta, .int 0]))]) [0, 1] (by decide) rfl
  refine W.widen (k := 0) (n := 0) (by first | exact Nat.le_of_ble_eq_true rfl | omega) (by first | exact Nat.le_of_ble_eq_true rfl | omega) ?_
  exact W.vret hx hb hr (fun t ht hW => ⟨⟨(), rfl, trivial, by dsimp only; rw [ht]; exact ⟨hP9, hD9⟩⟩, hS.F ht⟩) hS.2.2 dX4_readComparisons_75
def B_c_X4_read (G : va_G) (cy : Nat → ClassId) (A : Nat → Prop) (re : Nat) (dr : Nat) (t0 : Nat) (nm : Nat) (ta : Nat) (rta : Nat) (co : Nat) (ck : Nat) (us : Int32) (H : Heap) : Prop := va_P G classes [(ta, .inr (5, [.ref rta, .int 0]))] H ∧ va_D A [(ta, .inr (5, [.ref rta, .int 0]))]
set_option maxHeartbeats 4000000 in
set_option maxRecDepth 100000 in
theorem c_X4_read (l : Launch) (G : va_G) (cy : Nat → ClassId) (sk : Nat → Nat) (sz : Nat) (re : Nat) (dr : Nat) (t0 : Nat) (nm : Nat) (ta : Nat) (rta : Nat) (co : Nat) (ck : Nat) (us : Int32)  : Met l yX4_read (wsO yX4_read cX4_read 3 (some .int)) ({ frames := 6, cells := 0, slots := 0, locals := 129 }) (va_Pc [.ref re, .ref ta, .int us] (PR G cy sk sz [(re, .inr (4, [.ref dr, .ref t0, .ref nm, .int 0, .int (-1), .int 0, .int 0])), (dr, .inr (1, [.ref co, .ref ck, .int 0])), (ta, .inr (5, [.ref rta, .int 0]))])) (va_Qi (fun r (_ : Unit) => r = (-10)) (fun _ t => B_c_X4_read G cy (va_A [(re, .inr (4, [.ref dr, .ref t0, .ref nm, .int 0, .int (-1), .int 0, .int 0])), (dr, .inr (1, [.ref co, .ref ck, .int 0])), (ta, .inr (5, [.ref rta, .int 0]))] sz) re dr t0 nm ta rta co ck us t.heap) (va_A [(re, .inr (4, [.ref dr, .ref t0, .ref nm, .int 0, .int (-1), .int 0, .int 0])), (dr, .inr (1, [.ref co, .ref ck, .int 0])), (ta, .inr (5, [.ref rta, .int 0]))] sz)) 0 0 (va_A [(re, .inr (4, [.ref dr, .ref t0, .ref nm, .int 0, .int (-1), .int 0, .int 0])), (dr, .inr (1, [.ref co, .ref ck, .int 0])), (ta, .inr (5, [.ref rta, .int 0]))] sz) := by
  refine mt (by decide) (Nat.le_of_ble_eq_true rfl) ?_
  intro p e s m below meth c ls hx hb hr hml hts hown hlocks hin hsz hP hE hD hl
  subst hsz
  have hl : lv_has ls 3 [(0, .ref re), (1, .ref ta), (2, .int us)] := hl
  have hD := hD.self (sz := s.heap.size)
  generalize hAe : va_A [(re, .inr (4, [.ref dr, .ref t0, .ref nm, .int 0, .int (-1), .int 0, .int 0])), (dr, .inr (1, [.ref co, .ref ck, .int 0])), (ta, .inr (5, [.ref rta, .int 0]))] s.heap.size = A at hD ⊢
  have hA : ∀ q : Nat, s.heap.size ≤ q → A q := fun q h => by rw [← hAe]; exact Or.inr h
  have hS : va_S A s.heap s.heap [] := va_S.rf
  refine lv_aload_n hx hb dX4_read_0 rfl (lv_at hl 0 rfl) ?_
  refine lv_aload_n hx hb dX4_read_1 rfl (lv_at hl 1 rfl) ?_
  refine va_put (D := G) (ci := 4) (v := .ref ta) (ty := (.object "ClickStreet$Row")) (C := RX4) (T := TX4) (N := 7) hx hb hts inB4 tyX4 tyX4_ok nmX4 hown hE.1 hP hD hS 0 rfl rfl 1 (by decide) (hts _ m_360) (fun _ h9 => h9) rfl (by decide +kernel) rfl rfl (Nat.le_of_ble_eq_true rfl) dX4_read_2 (fun H locs hP hD hS => ?_)
  have hP : va_P G classes [(re, .inr (4, [.ref dr, .ref ta, .ref nm, .int 0, .int (-1), .int 0, .int 0])), (dr, .inr (1, [.ref co, .ref ck, .int 0])), (ta, .inr (5, [.ref rta, .int 0]))] H := hP
  have hD : va_D A [(re, .inr (4, [.ref dr, .ref ta, .ref nm, .int 0, .int (-1), .int 0, .int 0])), (dr, .inr (1, [.ref co, .ref ck, .int 0])), (ta, .inr (5, [.ref rta, .int 0]))] := hD
  refine lv_aload_n hx hb dX4_read_5 rfl (lv_at hl 0 rfl) ?_
  refine lv_iload_n hx hb dX4_read_6 rfl (lv_at hl 2 rfl) ?_
  refine lv_if_ne (tgt := 15) hx hb dX4_read_7 (by decide) (fun c_1 => ?_) (fun c_1 => ?_)
  · refine lv_iload_n hx hb dX4_read_15 rfl (lv_at hl 2 rfl) ?_
    refine lv_iconst (v := 1) hx hb dX4_read_16 (by decide) ?_
    refine lv_icmp_ne (tgt := 25) hx hb dX4_read_17 (by decide) (fun c_2 => ?_) (fun c_2 => ?_)
    · refine va_ldcS hx hb hown (hE.2.2.2.1 3 _ rfl) dX4_read_25 ?_
      refine va_put (D := G) (ci := 4) (v := .ref (sk 3)) (ty := (.object "java/lang/String")) (C := RX4) (T := TX4) (N := 7) hx hb hts inB4 tyX4 tyX4_ok nmX4 hown hE.1 hP hD hS 0 rfl rfl 2 (by decide) (hts _ m_361) (fun _ h9 => h9) rfl (by decide +kernel) rfl rfl (Nat.le_of_ble_eq_true rfl) dX4_read_27 (fun H locs hP hD hS => ?_)
      have hP : va_P G classes [(re, .inr (4, [.ref dr, .ref ta, .ref (sk 3), .int 0, .int (-1), .int 0, .int 0])), (dr, .inr (1, [.ref co, .ref ck, .int 0])), (ta, .inr (5, [.ref rta, .int 0]))] H := hP
      have hD : va_D A [(re, .inr (4, [.ref dr, .ref ta, .ref (sk 3), .int 0, .int (-1), .int 0, .int 0])), (dr, .inr (1, [.ref co, .ref ck, .int 0])), (ta, .inr (5, [.ref rta, .int 0]))] := hD
      refine lv_aload_n hx hb dX4_read_30 rfl (lv_at hl 0 rfl) ?_
      refine lv_iconst (v := 0) hx hb dX4_read_31 (by decide) ?_
      refine va_put (D := G) (ci := 4) (v := .int 0) (ty := .int) (C := RX4) (T := TX4) (N := 7) hx hb hts inB4 tyX4 tyX4_ok nmX4 hown hE.1 hP hD hS 0 rfl rfl 3 (by decide) (hts _ m_362) (fun _ h9 => h9) rfl (by decide +kernel) rfl rfl (Nat.le_of_ble_eq_true rfl) dX4_read_32 (fun H locs hP hD hS => ?_)
      have hP : va_P G classes [(re, .inr (4, [.ref dr, .ref ta, .ref (sk 3), .int 0, .int (-1), .int 0, .int 0])), (dr, .inr (1, [.ref co, .ref ck, .int 0])), (ta, .inr (5, [.ref rta, .int 0]))] H := hP
      have hD : va_D A [(re, .inr (4, [.ref dr, .ref ta, .ref (sk 3), .int 0, .int (-1), .int 0, .int 0])), (dr, .inr (1, [.ref co, .ref ck, .int 0])), (ta, .inr (5, [.ref rta, .int 0]))] := hD
      refine lv_aload_n hx hb dX4_read_35 rfl (lv_at hl 0 rfl) ?_
      refine lv_iconst (v := (-1)) hx hb dX4_read_36 (by decide) ?_
      refine va_put (D := G) (ci := 4) (v := .int (-1)) (ty := .int) (C := RX4) (T := TX4) (N := 7) hx hb hts inB4 tyX4 tyX4_ok nmX4 hown hE.1 hP hD hS 0 rfl rfl 4 (by decide) (hts _ m_363) (fun _ h9 => h9) rfl (by decide +kernel) rfl rfl (Nat.le_of_ble_eq_true rfl) dX4_read_37 (fun H locs hP hD hS => ?_)
      have hP : va_P G classes [(re, .inr (4, [.ref dr, .ref ta, .ref (sk 3), .int 0, .int (-1), .int 0, .int 0])), (dr, .inr (1, [.ref co, .ref ck, .int 0])), (ta, .inr (5, [.ref rta, .int 0]))] H := hP
      have hD : va_D A [(re, .inr (4, [.ref dr, .ref ta, .ref (sk 3), .int 0, .int (-1), .int 0, .int 0])), (dr, .inr (1, [.ref co, .ref ck, .int 0])), (ta, .inr (5, [.ref rta, .int 0]))] := hD
      refine lv_aload_n hx hb dX4_read_40 rfl (lv_at hl 0 rfl) ?_
      refine lv_iconst (v := 0) hx hb dX4_read_41 (by decide) ?_
      refine va_put (D := G) (ci := 4) (v := .int 0) (ty := .int) (C := RX4) (T := TX4) (N := 7) hx hb hts inB4 tyX4 tyX4_ok nmX4 hown hE.1 hP hD hS 0 rfl rfl 5 (by decide) (hts _ m_364) (fun _ h9 => h9) rfl (by decide +kernel) rfl rfl (Nat.le_of_ble_eq_true rfl) dX4_read_42 (fun H locs hP hD hS => ?_)
      have hP : va_P G classes [(re, .inr (4, [.ref dr, .ref ta, .ref (sk 3), .int 0, .int (-1), .int 0, .int 0])), (dr, .inr (1, [.ref co, .ref ck, .int 0])), (ta, .inr (5, [.ref rta, .int 0]))] H := hP
      have hD : va_D A [(re, .inr (4, [.ref dr, .ref ta, .ref (sk 3), .int 0, .int (-1), .int 0, .int 0])), (dr, .inr (1, [.ref co, .ref ck, .int 0])), (ta, .inr (5, [.ref rta, .int 0]))] := hD
      refine lv_aload_n hx hb dX4_read_45 rfl (lv_at hl 0 rfl) ?_
      refine lv_iconst (v := 0) hx hb dX4_read_46 (by decide) ?_
      refine va_put (D := G) (ci := 4) (v := .int 0) (ty := .int) (C := RX4) (T := TX4) (N := 7) hx hb hts inB4 tyX4 tyX4_ok nmX4 hown hE.1 hP hD hS 0 rfl rfl 6 (by decide) (hts _ m_365) (fun _ h9 => h9) rfl (by decide +kernel) rfl rfl (Nat.le_of_ble_eq_true rfl) dX4_read_47 (fun H locs hP hD hS => ?_)
      have hP : va_P G classes [(re, .inr (4, [.ref dr, .ref ta, .ref (sk 3), .int 0, .int (-1), .int 0, .int 0])), (dr, .inr (1, [.ref co, .ref ck, .int 0])), (ta, .inr (5, [.ref rta, .int 0]))] H := hP
      have hD : va_D A [(re, .inr (4, [.ref dr, .ref ta, .ref (sk 3), .int 0, .int (-1), .int 0, .int 0])), (dr, .inr (1, [.ref co, .ref ck, .int 0])), (ta, .inr (5, [.ref rta, .int 0]))] := hD
      refine lv_aload_n hx hb dX4_read_50 rfl (lv_at hl 0 rfl) ?_
      refine va_get (D := G) (ci := 4) (v := .ref dr) (C := RX4) (T := TX4) (N := 7) hx hb hts inB4 hown hE.1 hP 0 rfl rfl 0 (by decide) (hts _ m_358) (fun _ h9 => h9) rfl dX4_read_51 ?_
      refine wVv (B := (B_c_X1_clear G cy (va_A [(dr, .inr (1, [.ref co, .ref ck, .int 0]))] H.size) dr co ck 0)) (wr := [(re, .inr (4, [.ref dr, .ref ta, .ref (sk 3), .int 0, .int (-1), .int 0, .int 0])), (ta, .inr (5, [.ref rta, .int 0]))]) (rest := []) hx hb hml hown hts hE (c_X1_clear l G cy sk H.size dr co ck 0) kV_X1_clear m_688 rfl rfl ⟨(Nat.le_of_ble_eq_true rfl), (Nat.le_of_ble_eq_true rfl)⟩ hP hD hS hA 1 rfl rfl rfl [1] [0, 2] rfl rfl rfl rfl (by decide) rfl rfl hl.1 (Nat.le_of_ble_eq_true rfl) dX4_read_54 ⟨(Nat.le_of_ble_eq_true rfl), (Nat.le_of_ble_eq_true rfl)⟩ (fun H locs haf hS => ?_)
      obtain ⟨hP1, hD1⟩ := haf.1
      obtain ⟨hP, hD⟩ := haf.2.1 _ hP1 hD1
      have hP : va_P G classes [(re, .inr (4, [.ref dr, .ref ta, .ref (sk 3), .int 0, .int (-1), .int 0, .int 0])), (ta, .inr (5, [.ref rta, .int 0])), (dr, .inr (1, [.ref co, .ref ck, .int 0]))] H := hP
      have hD : va_D A [(re, .inr (4, [.ref dr, .ref ta, .ref (sk 3), .int 0, .int (-1), .int 0, .int 0])), (ta, .inr (5, [.ref rta, .int 0])), (dr, .inr (1, [.ref co, .ref ck, .int 0]))] := hD
      refine lv_aload_n hx hb dX4_read_57 rfl (lv_at hl 0 rfl) ?_
      refine wVv (B := (B_c_X4_readComparisons G cy (va_A [(re, .inr (4, [.ref dr, .ref ta, .ref (sk 3), .int 0, .int (-1), .int 0, .int 0])), (ta, .inr (5, [.ref rta, .int 0]))] H.size) re dr ta (sk 3) rta)) (wr := [(dr, .inr (1, [.ref co, .ref ck, .int 0]))]) (rest := []) hx hb hml hown hts hE (c_X4_readComparisons l G cy sk H.size re dr ta (sk 3) rta) kV_X4_readComparisons m_692 rfl rfl ⟨(Nat.le_of_ble_eq_true rfl), (Nat.le_of_ble_eq_true rfl)⟩ hP hD hS hA 0 rfl rfl rfl [0, 1] [2] rfl rfl rfl rfl (by decide) rfl rfl hl.1 (Nat.le_of_ble_eq_true rfl) dX4_read_58 ⟨(Nat.le_of_ble_eq_true rfl), (Nat.le_of_ble_eq_true rfl)⟩ (fun H locs haf hS => ?_)
      obtain ⟨hP1, hD1⟩ := haf.1
      obtain ⟨hP, hD⟩ := haf.2.1 _ hP1 hD1
      have hP : va_P G classes [(dr, .inr (1, [.ref co, .ref ck, .int 0])), (re, .inr (4, [.ref dr, .ref ta, .ref (sk 3), .int 0, .int 0, .int 0, .int 0])), (ta, .inr (5, [.ref rta, .int 0]))] H := hP
      have hD : va_D A [(dr, .inr (1, [.ref co, .ref ck, .int 0])), (re, .inr (4, [.ref dr, .ref ta, .ref (sk 3), .int 0, .int 0, .int 0, .int 0])), (ta, .inr (5, [.ref rta, .int 0]))] := hD
      refine lv_aload_n hx hb dX4_read_61 rfl (lv_at hl 0 rfl) ?_
      refine rV (rest := []) hx hb hml hown hts hE (c_X4_next l G cy sk H.size re dr ta (sk 3) rta 0) kV_X4_next m_708 rfl rfl ⟨(Nat.le_of_ble_eq_true rfl), (Nat.le_of_ble_eq_true rfl)⟩ hP hD 1 rfl rfl rfl [1, 2] rfl rfl rfl rfl hl.1 (Nat.le_of_ble_eq_true rfl) dX4_read_62 ⟨(Nat.le_of_ble_eq_true rfl), (Nat.le_of_ble_eq_true rfl)⟩ (fun r_5 hr_ => ?_)
      subst hr_
      refine lv_if_lt (tgt := 72) hx hb dX4_read_65 (by decide) (fun _ => ?_) (fun h9 => absurd h9 (by decide))
      refine lv_aload_n hx hb dX4_read_72 rfl (lv_at hl 0 rfl) ?_
      refine va_get (D := G) (ci := 4) (v := .int 0) (C := RX4) (T := TX4) (N := 7) hx hb hts inB4 hown hE.1 hP 1 rfl rfl 4 (by decide) (hts _ m_363) (fun _ h9 => h9) rfl dX4_read_73 ?_
      refine lv_if_ge (tgt := 86) hx hb dX4_read_76 (by decide) (fun _ => ?_) (fun h9 => absurd h9 (by decide))
      refine lv_bipush (v := (-10)) hx hb dX4_read_86 (by decide) ?_
      refine lv_aload_n hx hb dX4_read_88 rfl (lv_at hl 0 rfl) ?_
      refine va_get (D := G) (ci := 4) (v := .int 0) (C := RX4) (T := TX4) (N := 7) hx hb hts inB4 hown hE.1 hP 1 rfl rfl 4 (by decide) (hts _ m_363) (fun _ h9 => h9) rfl dX4_read_89 ?_
      refine lv_isub hx hb dX4_read_92 ?_
      refine tp (v := (-10)) (by decide) ?_
      have hP9 := P_cut (wc := [(ta, .inr (5, [.ref rta, .int 0]))]) hP [2] rfl
      have hD9 := hD.sub (ws' := [(ta, .inr (5, [.ref rta, .int 0]))]) [2] (by decide) rfl
      refine W.widen (k := 0) (n := 0) (by first | exact Nat.le_of_ble_eq_true rfl | omega) (by first | exact Nat.le_of_ble_eq_true rfl | omega) ?_
      exact W.iret (v := (-10)) hx hb hr (fun t ht hW => ⟨⟨(-10), (), rfl, rfl, by dsimp only; rw [ht]; exact ⟨hP9, hD9⟩⟩, hS.F ht⟩) hS.2.2 dX4_read_93
    · refine va_ldcS hx hb hown (hE.2.2.2.1 2 _ rfl) dX4_read_20 ?_
      refine lv_goto (tgt := 27) hx hb dX4_read_22 (by decide) ?_
      refine va_put (D := G) (ci := 4) (v := .ref (sk 2)) (ty := (.object "java/lang/String")) (C := RX4) (T := TX4) (N := 7) hx hb hts inB4 tyX4 tyX4_ok nmX4 hown hE.1 hP hD hS 0 rfl rfl 2 (by decide) (hts _ m_361) (fun _ h9 => h9) rfl (by decide +kernel) rfl rfl (Nat.le_of_ble_eq_true rfl) dX4_read_27 (fun H locs hP hD hS => ?_)
      have hP : va_P G classes [(re, .inr (4, [.ref dr, .ref ta, .ref (sk 2), .int 0, .int (-1), .int 0, .int 0])), (dr, .inr (1, [.ref co, .ref ck, .int 0])), (ta, .inr (5, [.ref rta, .int 0]))] H := hP
      have hD : va_D A [(re, .inr (4, [.ref dr, .ref ta, .ref (sk 2), .int 0, .int (-1), .int 0, .int 0])), (dr, .inr (1, [.ref co, .ref ck, .int 0])), (ta, .inr (5, [.ref rta, .int 0]))] := hD
      refine lv_aload_n hx hb dX4_read_30 rfl (lv_at hl 0 rfl) ?_
      refine lv_iconst (v := 0) hx hb dX4_read_31 (by decide) ?_
      refine va_put (D := G) (ci := 4) (v := .int 0) (ty := .int) (C := RX4) (T := TX4) (N := 7) hx hb hts inB4 tyX4 tyX4_ok nmX4 hown hE.1 hP hD hS 0 rfl rfl 3 (by decide) (hts _ m_362) (fun _ h9 => h9) rfl (by decide +kernel) rfl rfl (Nat.le_of_ble_eq_true rfl) dX4_read_32 (fun H locs hP hD hS => ?_)
      have hP : va_P G classes [(re, .inr (4, [.ref dr, .ref ta, .ref (sk 2), .int 0, .int (-1), .int 0, .int 0])), (dr, .inr (1, [.ref co, .ref ck, .int 0])), (ta, .inr (5, [.ref rta, .int 0]))] H := hP
      have hD : va_D A [(re, .inr (4, [.ref dr, .ref ta, .ref (sk 2), .int 0, .int (-1), .int 0, .int 0])), (dr, .inr (1, [.ref co, .ref ck, .int 0])), (ta, .inr (5, [.ref rta, .int 0]))] := hD
      refine lv_aload_n hx hb dX4_read_35 rfl (lv_at hl 0 rfl) ?_
      refine lv_iconst (v := (-1)) hx hb dX4_read_36 (by decide) ?_
      refine va_put (D := G) (ci := 4) (v := .int (-1)) (ty := .int) (C := RX4) (T := TX4) (N := 7) hx hb hts inB4 tyX4 tyX4_ok nmX4 hown hE.1 hP hD hS 0 rfl rfl 4 (by decide) (hts _ m_363) (fun _ h9 => h9) rfl (by decide +kernel) rfl rfl (Nat.le_of_ble_eq_true rfl) dX4_read_37 (fun H locs hP hD hS => ?_)
      have hP : va_P G classes [(re, .inr (4, [.ref dr, .ref ta, .ref (sk 2), .int 0, .int (-1), .int 0, .int 0])), (dr, .inr (1, [.ref co, .ref ck, .int 0])), (ta, .inr (5, [.ref rta, .int 0]))] H := hP
      have hD : va_D A [(re, .inr (4, [.ref dr, .ref ta, .ref (sk 2), .int 0, .int (-1), .int 0, .int 0])), (dr, .inr (1, [.ref co, .ref ck, .int 0])), (ta, .inr (5, [.ref rta, .int 0]))] := hD
      refine lv_aload_n hx hb dX4_read_40 rfl (lv_at hl 0 rfl) ?_
      refine lv_iconst (v := 0) hx hb dX4_read_41 (by decide) ?_
      refine va_put (D := G) (ci := 4) (v := .int 0) (ty := .int) (C := RX4) (T := TX4) (N := 7) hx hb hts inB4 tyX4 tyX4_ok nmX4 hown hE.1 hP hD hS 0 rfl rfl 5 (by decide) (hts _ m_364) (fun _ h9 => h9) rfl (by decide +kernel) rfl rfl (Nat.le_of_ble_eq_true rfl) dX4_read_42 (fun H locs hP hD hS => ?_)
      have hP : va_P G classes [(re, .inr (4, [.ref dr, .ref ta, .ref (sk 2), .int 0, .int (-1), .int 0, .int 0])), (dr, .inr (1, [.ref co, .ref ck, .int 0])), (ta, .inr (5, [.ref rta, .int 0]))] H := hP
      have hD : va_D A [(re, .inr (4, [.ref dr, .ref ta, .ref (sk 2), .int 0, .int (-1), .int 0, .int 0])), (dr, .inr (1, [.ref co, .ref ck, .int 0])), (ta, .inr (5, [.ref rta, .int 0]))] := hD
      refine lv_aload_n hx hb dX4_read_45 rfl (lv_at hl 0 rfl) ?_
      refine lv_iconst (v := 0) hx hb dX4_read_46 (by decide) ?_
      refine va_put (D := G) (ci := 4) (v := .int 0) (ty := .int) (C := RX4) (T := TX4) (N := 7) hx hb hts inB4 tyX4 tyX4_ok nmX4 hown hE.1 hP hD hS 0 rfl rfl 6 (by decide) (hts _ m_365) (fun _ h9 => h9) rfl (by decide +kernel) rfl rfl (Nat.le_of_ble_eq_true rfl) dX4_read_47 (fun H locs hP hD hS => ?_)
      have hP : va_P G classes [(re, .inr (4, [.ref dr, .ref ta, .ref (sk 2), .int 0, .int (-1), .int 0, .int 0])), (dr, .inr (1, [.ref co, .ref ck, .int 0])), (ta, .inr (5, [.ref rta, .int 0]))] H := hP
      have hD : va_D A [(re, .inr (4, [.ref dr, .ref ta, .ref (sk 2), .int 0, .int (-1), .int 0, .int 0])), (dr, .inr (1, [.ref co, .ref ck, .int 0])), (ta, .inr (5, [.ref rta, .int 0]))] := hD
      refine lv_aload_n hx hb dX4_read_50 rfl (lv_at hl 0 rfl) ?_
      refine va_get (D := G) (ci := 4) (v := .ref dr) (C := RX4) (T := TX4) (N := 7) hx hb hts inB4 hown hE.1 hP 0 rfl rfl 0 (by decide) (hts _ m_358) (fun _ h9 => h9) rfl dX4_read_51 ?_
      refine wVv (B := (B_c_X1_clear G cy (va_A [(dr, .inr (1, [.ref co, .ref ck, .int 0]))] H.size) dr co ck 0)) (wr := [(re, .inr (4, [.ref dr, .ref ta, .ref (sk 2), .int 0, .int (-1), .int 0, .int 0])), (ta, .inr (5, [.ref rta, .int 0]))]) (rest := []) hx hb hml hown hts hE (c_X1_clear l G cy sk H.size dr co ck 0) kV_X1_clear m_688 rfl rfl ⟨(Nat.le_of_ble_eq_true rfl), (Nat.le_of_ble_eq_true rfl)⟩ hP hD hS hA 1 rfl rfl rfl [1] [0, 2] rfl rfl rfl rfl (by decide) rfl rfl hl.1 (Nat.le_of_ble_eq_true rfl) dX4_read_54 ⟨(Nat.le_of_ble_eq_true rfl), (Nat.le_of_ble_eq_true rfl)⟩ (fun H locs haf hS => ?_)
      obtain ⟨hP1, hD1⟩ := haf.1
      obtain ⟨hP, hD⟩ := haf.2.1 _ hP1 hD1
      have hP : va_P G classes [(re, .inr (4, [.ref dr, .ref ta, .ref (sk 2), .int 0, .int (-1), .int 0, .int 0])), (ta, .inr (5, [.ref rta, .int 0])), (dr, .inr (1, [.ref co, .ref ck, .int 0]))] H := hP
      have hD : va_D A [(re, .inr (4, [.ref dr, .ref ta, .ref (sk 2), .int 0, .int (-1), .int 0, .int 0])), (ta, .inr (5, [.ref rta, .int 0])), (dr, .inr (1, [.ref co, .ref ck, .int 0]))] := hD
      refine lv_aload_n hx hb dX4_read_57 rfl (lv_at hl 0 rfl) ?_
      refine wVv (B := (B_c_X4_readComparisons G cy (va_A [(re, .inr (4, [.ref dr, .ref ta, .ref (sk 2), .int 0, .int (-1), .int 0, .int 0])), (ta, .inr (5, [.ref rta, .int 0]))] H.size) re dr ta (sk 2) rta)) (wr := [(dr, .inr (1, [.ref co, .ref ck, .int 0]))]) (rest := []) hx hb hml hown hts hE (c_X4_readComparisons l G cy sk H.size re dr ta (sk 2) rta) kV_X4_readComparisons m_692 rfl rfl ⟨(Nat.le_of_ble_eq_true rfl), (Nat.le_of_ble_eq_true rfl)⟩ hP hD hS hA 0 rfl rfl rfl [0, 1] [2] rfl rfl rfl rfl (by decide) rfl rfl hl.1 (Nat.le_of_ble_eq_true rfl) dX4_read_58 ⟨(Nat.le_of_ble_eq_true rfl), (Nat.le_of_ble_eq_true rfl)⟩ (fun H locs haf hS => ?_)
      obtain ⟨hP1, hD1⟩ := haf.1
      obtain ⟨hP, hD⟩ := haf.2.1 _ hP1 hD1
      have hP : va_P G classes [(dr, .inr (1, [.ref co, .ref ck, .int 0])), (re, .inr (4, [.ref dr, .ref ta, .ref (sk 2), .int 0, .int 0, .int 0, .int 0])), (ta, .inr (5, [.ref rta, .int 0]))] H := hP
      have hD : va_D A [(dr, .inr (1, [.ref co, .ref ck, .int 0])), (re, .inr (4, [.ref dr, .ref ta, .ref (sk 2), .int 0, .int 0, .int 0, .int 0])), (ta, .inr (5, [.ref rta, .int 0]))] := hD
      refine lv_aload_n hx hb dX4_read_61 rfl (lv_at hl 0 rfl) ?_
      refine rV (rest := []) hx hb hml hown hts hE (c_X4_next l G cy sk H.size re dr ta (sk 2) rta 0) kV_X4_next m_708 rfl rfl ⟨(Nat.le_of_ble_eq_true rfl), (Nat.le_of_ble_eq_true rfl)⟩ hP hD 1 rfl rfl rfl [1, 2] rfl rfl rfl rfl hl.1 (Nat.le_of_ble_eq_true rfl) dX4_read_62 ⟨(Nat.le_of_ble_eq_true rfl), (Nat.le_of_ble_eq_true rfl)⟩ (fun r_8 hr_ => ?_)
      subst hr_
      refine lv_if_lt (tgt := 72) hx hb dX4_read_65 (by decide) (fun _ => ?_) (fun h9 => absurd h9 (by decide))
      refine lv_aload_n hx hb dX4_read_72 rfl (lv_at hl 0 rfl) ?_
      refine va_get (D := G) (ci := 4) (v := .int 0) (C := RX4) (T := TX4) (N := 7) hx hb hts inB4 hown hE.1 hP 1 rfl rfl 4 (by decide) (hts _ m_363) (fun _ h9 => h9) rfl dX4_read_73 ?_
      refine lv_if_ge (tgt := 86) hx hb dX4_read_76 (by decide) (fun _ => ?_) (fun h9 => absurd h9 (by decide))
      refine lv_bipush (v := (-10)) hx hb dX4_read_86 (by decide) ?_
      refine lv_aload_n hx hb dX4_read_88 rfl (lv_at hl 0 rfl) ?_
      refine va_get (D := G) (ci := 4) (v := .int 0) (C := RX4) (T := TX4) (N := 7) hx hb hts inB4 hown hE.1 hP 1 rfl rfl 4 (by decide) (hts _ m_363) (fun _ h9 => h9) rfl dX4_read_89 ?_
      refine lv_isub hx hb dX4_read_92 ?_
      refine tp (v := (-10)) (by decide) ?_
      have hP9 := P_cut (wc := [(ta, .inr (5, [.ref rta, .int 0]))]) hP [2] rfl
      have hD9 := hD.sub (ws' := [(ta, .inr (5, [.ref rta, .int 0]))]) [2] (by decide) rfl
      refine W.widen (k := 0) (n := 0) (by first | exact Nat.le_of_ble_eq_true rfl | omega) (by first | exact Nat.le_of_ble_eq_true rfl | omega) ?_
      exact W.iret (v := (-10)) hx hb hr (fun t ht hW => ⟨⟨(-10), (), rfl, rfl, by dsimp only; rw [ht]; exact ⟨hP9, hD9⟩⟩, hS.F ht⟩) hS.2.2 dX4_read_93
  · refine va_ldcS hx hb hown (hE.2.2.2.1 1 _ rfl) dX4_read_10 ?_
    refine lv_goto (tgt := 27) hx hb dX4_read_12 (by decide) ?_
    refine va_put (D := G) (ci := 4) (v := .ref (sk 1)) (ty := (.object "java/lang/String")) (C := RX4) (T := TX4) (N := 7) hx hb hts inB4 tyX4 tyX4_ok nmX4 hown hE.1 hP hD hS 0 rfl rfl 2 (by decide) (hts _ m_361) (fun _ h9 => h9) rfl (by decide +kernel) rfl rfl (Nat.le_of_ble_eq_true rfl) dX4_read_27 (fun H locs hP hD hS => ?_)
    have hP : va_P G classes [(re, .inr (4, [.ref dr, .ref ta, .ref (sk 1), .int 0, .int (-1), .int 0, .int 0])), (dr, .inr (1, [.ref co, .ref ck, .int 0])), (ta, .inr (5, [.ref rta, .int 0]))] H := hP
    have hD : va_D A [(re, .inr (4, [.ref dr, .ref ta, .ref (sk 1), .int 0, .int (-1), .int 0, .int 0])), (dr, .inr (1, [.ref co, .ref ck, .int 0])), (ta, .inr (5, [.ref rta, .int 0]))] := hD
    refine lv_aload_n hx hb dX4_read_30 rfl (lv_at hl 0 rfl) ?_
    refine lv_iconst (v := 0) hx hb dX4_read_31 (by decide) ?_
    refine va_put (D := G) (ci := 4) (v := .int 0) (ty := .int) (C := RX4) (T := TX4) (N := 7) hx hb hts inB4 tyX4 tyX4_ok nmX4 hown hE.1 hP hD hS 0 rfl rfl 3 (by decide) (hts _ m_362) (fun _ h9 => h9) rfl (by decide +kernel) rfl rfl (Nat.le_of_ble_eq_true rfl) dX4_read_32 (fun H locs hP hD hS => ?_)
    have hP : va_P G classes [(re, .inr (4, [.ref dr, .ref ta, .ref (sk 1), .int 0, .int (-1), .int 0, .int 0])), (dr, .inr (1, [.ref co, .ref ck, .int 0])), (ta, .inr (5, [.ref rta, .int 0]))] H := hP
    have hD : va_D A [(re, .inr (4, [.ref dr, .ref ta, .ref (sk 1), .int 0, .int (-1), .int 0, .int 0])), (dr, .inr (1, [.ref co, .ref ck, .int 0])), (ta, .inr (5, [.ref rta, .int 0]))] := hD
    refine lv_aload_n hx hb dX4_read_35 rfl (lv_at hl 0 rfl) ?_
    refine lv_iconst (v := (-1)) hx hb dX4_read_36 (by decide) ?_
    refine va_put (D := G) (ci := 4) (v := .int (-1)) (ty := .int) (C := RX4) (T := TX4) (N := 7) hx hb hts inB4 tyX4 tyX4_ok nmX4 hown hE.1 hP hD hS 0 rfl rfl 4 (by decide) (hts _ m_363) (fun _ h9 => h9) rfl (by decide +kernel) rfl rfl (Nat.le_of_ble_eq_true rfl) dX4_read_37 (fun H locs hP hD hS => ?_)
    have hP : va_P G classes [(re, .inr (4, [.ref dr, .ref ta, .ref (sk 1), .int 0, .int (-1), .int 0, .int 0])), (dr, .inr (1, [.ref co, .ref ck, .int 0])), (ta, .inr (5, [.ref rta, .int 0]))] H := hP
    have hD : va_D A [(re, .inr (4, [.ref dr, .ref ta, .ref (sk 1), .int 0, .int (-1), .int 0, .int 0])), (dr, .inr (1, [.ref co, .ref ck, .int 0])), (ta, .inr (5, [.ref rta, .int 0]))] := hD
    refine lv_aload_n hx hb dX4_read_40 rfl (lv_at hl 0 rfl) ?_
    refine lv_iconst (v := 0) hx hb dX4_read_41 (by decide) ?_
    refine va_put (D := G) (ci := 4) (v := .int 0) (ty := .int) (C := RX4) (T := TX4) (N := 7) hx hb hts inB4 tyX4 tyX4_ok nmX4 hown hE.1 hP hD hS 0 rfl rfl 5 (by decide) (hts _ m_364) (fun _ h9 => h9) rfl (by decide +kernel) rfl rfl (Nat.le_of_ble_eq_true rfl) dX4_read_42 (fun H locs hP hD hS => ?_)
    have hP : va_P G classes [(re, .inr (4, [.ref dr, .ref ta, .ref (sk 1), .int 0, .int (-1), .int 0, .int 0])), (dr, .inr (1, [.ref co, .ref ck, .int 0])), (ta, .inr (5, [.ref rta, .int 0]))] H := hP
    have hD : va_D A [(re, .inr (4, [.ref dr, .ref ta, .ref (sk 1), .int 0, .int (-1), .int 0, .int 0])), (dr, .inr (1, [.ref co, .ref ck, .int 0])), (ta, .inr (5, [.ref rta, .int 0]))] := hD
    refine lv_aload_n hx hb dX4_read_45 rfl (lv_at hl 0 rfl) ?_
    refine lv_iconst (v := 0) hx hb dX4_read_46 (by decide) ?_
    refine va_put (D := G) (ci := 4) (v := .int 0) (ty := .int) (C := RX4) (T := TX4) (N := 7) hx hb hts inB4 tyX4 tyX4_ok nmX4 hown hE.1 hP hD hS 0 rfl rfl 6 (by decide) (hts _ m_365) (fun _ h9 => h9) rfl (by decide +kernel) rfl rfl (Nat.le_of_ble_eq_true rfl) dX4_read_47 (fun H locs hP hD hS => ?_)
    have hP : va_P G classes [(re, .inr (4, [.ref dr, .ref ta, .ref (sk 1), .int 0, .int (-1), .int 0, .int 0])), (dr, .inr (1, [.ref co, .ref ck, .int 0])), (ta, .inr (5, [.ref rta, .int 0]))] H := hP
    have hD : va_D A [(re, .inr (4, [.ref dr, .ref ta, .ref (sk 1), .int 0, .int (-1), .int 0, .int 0])), (dr, .inr (1, [.ref co, .ref ck, .int 0])), (ta, .inr (5, [.ref rta, .int 0]))] := hD
    refine lv_aload_n hx hb dX4_read_50 rfl (lv_at hl 0 rfl) ?_
    refine va_get (D := G) (ci := 4) (v := .ref dr) (C := RX4) (T := TX4) (N := 7) hx hb hts inB4 hown hE.1 hP 0 rfl rfl 0 (by decide) (hts _ m_358) (fun _ h9 => h9) rfl dX4_read_51 ?_
    refine wVv (B := (B_c_X1_clear G cy (va_A [(dr, .inr (1, [.ref co, .ref ck, .int 0]))] H.size) dr co ck 0)) (wr := [(re, .inr (4, [.ref dr, .ref ta, .ref (sk 1), .int 0, .int (-1), .int 0, .int 0])), (ta, .inr (5, [.ref rta, .int 0]))]) (rest := []) hx hb hml hown hts hE (c_X1_clear l G cy sk H.size dr co ck 0) kV_X1_clear m_688 rfl rfl ⟨(Nat.le_of_ble_eq_true rfl), (Nat.le_of_ble_eq_true rfl)⟩ hP hD hS hA 1 rfl rfl rfl [1] [0, 2] rfl rfl rfl rfl (by decide) rfl rfl hl.1 (Nat.le_of_ble_eq_true rfl) dX4_read_54 ⟨(Nat.le_of_ble_eq_true rfl), (Nat.le_of_ble_eq_true rfl)⟩ (fun H locs haf hS => ?_)
    obtain ⟨hP1, hD1⟩ := haf.1
    obtain ⟨hP, hD⟩ := haf.2.1 _ hP1 hD1
    have hP : va_P G classes [(re, .inr (4, [.ref dr, .ref ta, .ref (sk 1), .int 0, .int (-1), .int 0, .int 0])), (ta, .inr (5, [.ref rta, .int 0])), (dr, .inr (1, [.ref co, .ref ck, .int 0]))] H := hP
    have hD : va_D A [(re, .inr (4, [.ref dr, .ref ta, .ref (sk 1), .int 0, .int (-1), .int 0, .int 0])), (ta, .inr (5, [.ref rta, .int 0])), (dr, .inr (1, [.ref co, .ref ck, .int 0]))] := hD
    refine lv_aload_n hx hb dX4_read_57 rfl (lv_at hl 0 rfl) ?_
    refine wVv (B := (B_c_X4_readComparisons G cy (va_A [(re, .inr (4, [.ref dr, .ref ta, .ref (sk 1), .int 0, .int (-1), .int 0, .int 0])), (ta, .inr (5, [.ref rta, .int 0]))] H.size) re dr ta (sk 1) rta)) (wr := [(dr, .inr (1, [.ref co, .ref ck, .int 0]))]) (rest := []) hx hb hml hown hts hE (c_X4_readComparisons l G cy sk H.size re dr ta (sk 1) rta) kV_X4_readComparisons m_692 rfl rfl ⟨(Nat.le_of_ble_eq_true rfl), (Nat.le_of_ble_eq_true rfl)⟩ hP hD hS hA 0 rfl rfl rfl [0, 1] [2] rfl rfl rfl rfl (by decide) rfl rfl hl.1 (Nat.le_of_ble_eq_true rfl) dX4_read_58 ⟨(Nat.le_of_ble_eq_true rfl), (Nat.le_of_ble_eq_true rfl)⟩ (fun H locs haf hS => ?_)
    obtain ⟨hP1, hD1⟩ := haf.1
    obtain ⟨hP, hD⟩ := haf.2.1 _ hP1 hD1
    have hP : va_P G classes [(dr, .inr (1, [.ref co, .ref ck, .int 0])), (re, .inr (4, [.ref dr, .ref ta, .ref (sk 1), .int 0, .int 0, .int 0, .int 0])), (ta, .inr (5, [.ref rta, .int 0]))] H := hP
    have hD : va_D A [(dr, .inr (1, [.ref co, .ref ck, .int 0])), (re, .inr (4, [.ref dr, .ref ta, .ref (sk 1), .int 0, .int 0, .int 0, .int 0])), (ta, .inr (5, [.ref rta, .int 0]))] := hD
    refine lv_aload_n hx hb dX4_read_61 rfl (lv_at hl 0 rfl) ?_
    refine rV (rest := []) hx hb hml hown hts hE (c_X4_next l G cy sk H.size re dr ta (sk 1) rta 0) kV_X4_next m_708 rfl rfl ⟨(Nat.le_of_ble_eq_true rfl), (Nat.le_of_ble_eq_true rfl)⟩ hP hD 1 rfl rfl rfl [1, 2] rfl rfl rfl rfl hl.1 (Nat.le_of_ble_eq_true rfl) dX4_read_62 ⟨(Nat.le_of_ble_eq_true rfl), (Nat.le_of_ble_eq_true rfl)⟩ (fun r_11 hr_ => ?_)
    subst hr_
    refine lv_if_lt (tgt := 72) hx hb dX4_read_65 (by decide) (fun _ => ?_) (fun h9 => absurd h9 (by decide))
    refine lv_aload_n hx hb dX4_read_72 rfl (lv_at hl 0 rfl) ?_
    refine va_get (D := G) (ci := 4) (v := .int 0) (C := RX4) (T := TX4) (N := 7) hx hb hts inB4 hown hE.1 hP 1 rfl rfl 4 (by decide) (hts _ m_363) (fun _ h9 => h9) rfl dX4_read_73 ?_
    refine lv_if_ge (tgt := 86) hx hb dX4_read_76 (by decide) (fun _ => ?_) (fun h9 => absurd h9 (by decide))
    refine lv_bipush (v := (-10)) hx hb dX4_read_86 (by decide) ?_
    refine lv_aload_n hx hb dX4_read_88 rfl (lv_at hl 0 rfl) ?_
    refine va_get (D := G) (ci := 4) (v := .int 0) (C := RX4) (T := TX4) (N := 7) hx hb hts inB4 hown hE.1 hP 1 rfl rfl 4 (by decide) (hts _ m_363) (fun _ h9 => h9) rfl dX4_read_89 ?_
    refine lv_isub hx hb dX4_read_92 ?_
    refine tp (v := (-10)) (by decide) ?_
    have hP9 := P_cut (wc := [(ta, .inr (5, [.ref rta, .int 0]))]) hP [2] rfl
    have hD9 := hD.sub (ws' := [(ta, .inr (5, [.ref rta, .int 0]))]) [2] (by decide) rfl
    refine W.widen (k := 0) (n := 0) (by first | exact Nat.le_of_ble_eq_true rfl | omega) (by first | exact Nat.le_of_ble_eq_true rfl | omega) ?_
    exact W.iret (v := (-10)) hx hb hr (fun t ht hW => ⟨⟨(-10), (), rfl, rfl, by dsimp only; rw [ht]; exact ⟨hP9, hD9⟩⟩, hS.F ht⟩) hS.2.2 dX4_read_93
def B_c_X4_init (G : va_G) (cy : Nat → ClassId) (A : Nat → Prop) (h0 : Nat) (H : Heap) : Prop := ∃ (dr : Nat) (t0 : Nat) (nm : Nat) (co : Nat) (ck : Nat), va_P G classes [(h0, .inr (4, [.ref dr, .ref t0, .ref nm, .int 0, .int (-1), .int 0, .int 0])), (dr, .inr (1, [.ref co, .ref ck, .int 0]))] H ∧ va_D A [(h0, .inr (4, [.ref dr, .ref t0, .ref nm, .int 0, .int (-1), .int 0, .int 0])), (dr, .inr (1, [.ref co, .ref ck, .int 0]))]
set_option maxHeartbeats 4000000 in
set_option maxRecDepth 100000 in
theorem c_X4_init (l : Launch) (G : va_G) (cy : Nat → ClassId) (sk : Nat → Nat) (sz : Nat) (h0 : Nat)  : Met l yX4_init (wsO yX4_init cX4_init 1 none) ({ frames := 2, cells := 5, slots := 201, locals := 35 }) (va_Pc [.ref h0] (PR G cy sk sz [(h0, .inr (4, [.null, .null, .null, .int 0, .int 0, .int 0, .int 0]))])) (va_Qv (fun (_ : Unit) => True) (fun _ t => B_c_X4_init G cy (va_A [(h0, .inr (4, [.null, .null, .null, .int 0, .int 0, .int 0, .int 0]))] sz) h0 t.heap) (va_A [(h0, .inr (4, [.null, .null, .null, .int 0, .int 0, .int 0, .int 0]))] sz)) 5 201 (va_A [(h0, .inr (4, [.null, .null, .null, .int 0, .int 0, .int 0, .int 0]))] sz) := by
  refine mt (by decide) (Nat.le_of_ble_eq_true rfl) ?_
  intro p e s m below meth c ls hx hb hr hml hts hown hlocks hin hsz hP hE hD hl
  subst hsz
  have hl : lv_has ls 1 [(0, .ref h0)] := hl
  have hD := hD.self (sz := s.heap.size)
  generalize hAe : va_A [(h0, .inr (4, [.null, .null, .null, .int 0, .int 0, .int 0, .int 0]))] s.heap.size = A at hD ⊢
  have hA : ∀ q : Nat, s.heap.size ≤ q → A q := fun q h => by rw [← hAe]; exact Or.inr h
  have hS : va_S A s.heap s.heap [] := va_S.rf
  refine lv_aload_n hx hb dX4_init_0 rfl (lv_at hl 0 rfl) ?_
  refine W.objInit hx hb hown (hts _ m_352) (hts _ m_107) (hts _ m_108) rfl (by rw [hml]; exact hl.1) rfl dX4_init_1 (Nat.le_of_ble_eq_true rfl) (Nat.le_of_ble_eq_true rfl) ?_
  refine W.eq (g2 := F0 m 4 ls []) rfl ?_
  refine lv_aload_n hx hb dX4_init_4 rfl (lv_at hl 0 rfl) ?_
  refine va_new (ci := 1) (fs := [.null, .null, .int 0]) (C := RX1) (T := TX1) (N := 3) hx hb hts inB1 tyX1 tyX1_ok hown (hts _ m_353) (hts _ m_155) (hts _ m_83) hE.1 hP hD hS hA rfl df1 (Nat.le_of_ble_eq_true rfl) (Nat.le_of_ble_eq_true rfl) dX4_init_5 (fun nq1 H hP hD hS => ?_)
  have hP : va_P G classes [(h0, .inr (4, [.null, .null, .null, .int 0, .int 0, .int 0, .int 0])), (nq1, .inr (1, [.null, .null, .int 0]))] H := hP
  have hD : va_D A [(h0, .inr (4, [.null, .null, .null, .int 0, .int 0, .int 0, .int 0])), (nq1, .inr (1, [.null, .null, .int 0]))] := hD
  refine lv_dup hx hb dX4_init_8 rfl ?_
  refine wIN (B := (B_c_X1_init G cy (va_A [(nq1, .inr (1, [.null, .null, .int 0]))] H.size) nq1)) (wr := [(h0, .inr (4, [.null, .null, .null, .int 0, .int 0, .int 0, .int 0]))]) (rest := [.ref nq1, .ref h0]) (host := "ClickStreet") hx hb hml hown hts hE (c_X1_init l G cy sk H.size nq1) kI_X1_init (by decide +kernel) rfl rfl ⟨(Nat.le_of_ble_eq_true rfl), (Nat.le_of_ble_eq_true rfl)⟩ hP hD hS hA [1] [0] rfl rfl rfl rfl (by decide) rfl rfl hl.1 (Nat.le_of_ble_eq_true rfl) dX4_init_9 ⟨(Nat.le_of_ble_eq_true rfl), (Nat.le_of_ble_eq_true rfl)⟩ (fun H locs haf hS => ?_)
  obtain ⟨xq3, xq4, hP1, hD1⟩ := haf.1
  obtain ⟨hP, hD⟩ := haf.2.1 _ hP1 hD1
  have hP : va_P G classes [(h0, .inr (4, [.null, .null, .null, .int 0, .int 0, .int 0, .int 0])), (nq1, .inr (1, [.ref xq3, .ref xq4, .int 0])), (xq3, .inl (cy 0, 48, .inl (fun _ => 0)))] H := hP
  have hD : va_D A [(h0, .inr (4, [.null, .null, .null, .int 0, .int 0, .int 0, .int 0])), (nq1, .inr (1, [.ref xq3, .ref xq4, .int 0])), (xq3, .inl (cy 0, 48, .inl (fun _ => 0)))] := hD
  refine va_putF (D := G) (ci := 4) (v := .ref nq1) (ty := (.object "ClickStreet$Formula")) (C := RX4) (T := TX4) (N := 7) hx hb hts inB4 tyX4 tyX4_ok nmX4 hown hE.1 hP hD hS 0 rfl rfl 0 (by decide) (hts _ m_358) (fun _ h9 => h9) rfl hin rfl (by decide +kernel) rfl rfl (Nat.le_of_ble_eq_true rfl) dX4_init_12 (fun H locs hP hD hS => ?_)
  have hP : va_P G classes [(h0, .inr (4, [.ref nq1, .null, .null, .int 0, .int 0, .int 0, .int 0])), (nq1, .inr (1, [.ref xq3, .ref xq4, .int 0])), (xq3, .inl (cy 0, 48, .inl (fun _ => 0)))] H := hP
  have hD : va_D A [(h0, .inr (4, [.ref nq1, .null, .null, .int 0, .int 0, .int 0, .int 0])), (nq1, .inr (1, [.ref xq3, .ref xq4, .int 0])), (xq3, .inl (cy 0, 48, .inl (fun _ => 0)))] := hD
  refine lv_aload_n hx hb dX4_init_15 rfl (lv_at hl 0 rfl) ?_
  refine va_new (ci := 5) (fs := [.null, .int 0]) (C := RX5) (T := TX5) (N := 2) hx hb hts inB5 tyX5 tyX5_ok hown (hts _ m_355) (hts _ m_200) (hts _ m_85) hE.1 hP hD hS hA rfl df5 (Nat.le_of_ble_eq_true rfl) (Nat.le_of_ble_eq_true rfl) dX4_init_16 (fun nq5 H hP hD hS => ?_)
  have hP : va_P G classes [(h0, .inr (4, [.ref nq1, .null, .null, .int 0, .int 0, .int 0, .int 0])), (nq1, .inr (1, [.ref xq3, .ref xq4, .int 0])), (xq3, .inl (cy 0, 48, .inl (fun _ => 0))), (nq5, .inr (5, [.null, .int 0]))] H := hP
  have hD : va_D A [(h0, .inr (4, [.ref nq1, .null, .null, .int 0, .int 0, .int 0, .int 0])), (nq1, .inr (1, [.ref xq3, .ref xq4, .int 0])), (xq3, .inl (cy 0, 48, .inl (fun _ => 0))), (nq5, .inr (5, [.null, .int 0]))] := hD
  refine lv_dup hx hb dX4_init_19 rfl ?_
  refine lv_iconst (v := 0) hx hb dX4_init_20 (by decide) ?_
  refine wI (B := (B_c_X5_init G cy (va_A [(nq5, .inr (5, [.null, .int 0]))] H.size) nq5 0 0)) (wr := [(h0, .inr (4, [.ref nq1, .null, .null, .int 0, .int 0, .int 0, .int 0])), (nq1, .inr (1, [.ref xq3, .ref xq4, .int 0])), (xq3, .inl (cy 0, 48, .inl (fun _ => 0)))]) (rest := [.ref nq5, .ref h0]) hx hb hml hown hts hE (c_X5_init l G cy sk H.size nq5 0 0 rfl (by decide)) kI_X5_init m_356 rfl rfl ⟨(Nat.le_of_ble_eq_true rfl), (Nat.le_of_ble_eq_true rfl)⟩ hP hD hS hA [3] [0, 1, 2] rfl rfl rfl rfl (by decide) rfl rfl hl.1 (Nat.le_of_ble_eq_true rfl) dX4_init_21 ⟨(Nat.le_of_ble_eq_true rfl), (Nat.le_of_ble_eq_true rfl)⟩ (fun H locs haf hS => ?_)
  obtain ⟨xq7, hP1, hD1⟩ := haf.1
  obtain ⟨hP, hD⟩ := haf.2.1 _ hP1 hD1
  have hP : va_P G classes [(h0, .inr (4, [.ref nq1, .null, .null, .int 0, .int 0, .int 0, .int 0])), (nq1, .inr (1, [.ref xq3, .ref xq4, .int 0])), (xq3, .inl (cy 0, 48, .inl (fun _ => 0))), (nq5, .inr (5, [.ref xq7, .int 0])), (xq7, .inl (cy 0, 0, .inl (fun _ => 0)))] H := hP
  have hD : va_D A [(h0, .inr (4, [.ref nq1, .null, .null, .int 0, .int 0, .int 0, .int 0])), (nq1, .inr (1, [.ref xq3, .ref xq4, .int 0])), (xq3, .inl (cy 0, 48, .inl (fun _ => 0))), (nq5, .inr (5, [.ref xq7, .int 0])), (xq7, .inl (cy 0, 0, .inl (fun _ => 0)))] := hD
  refine va_put (D := G) (ci := 4) (v := .ref nq5) (ty := (.object "ClickStreet$Row")) (C := RX4) (T := TX4) (N := 7) hx hb hts inB4 tyX4 tyX4_ok nmX4 hown hE.1 hP hD hS 0 rfl rfl 1 (by decide) (hts _ m_360) (fun _ h9 => h9) rfl (by decide +kernel) rfl rfl (Nat.le_of_ble_eq_true rfl) dX4_init_24 (fun H locs hP hD hS => ?_)
  have hP : va_P G classes [(h0, .inr (4, [.ref nq1, .ref nq5, .null, .int 0, .int 0, .int 0, .int 0])), (nq1, .inr (1, [.ref xq3, .ref xq4, .int 0])), (xq3, .inl (cy 0, 48, .inl (fun _ => 0))), (nq5, .inr (5, [.ref xq7, .int 0])), (xq7, .inl (cy 0, 0, .inl (fun _ => 0)))] H := hP
  have hD : va_D A [(h0, .inr (4, [.ref nq1, .ref nq5, .null, .int 0, .int 0, .int 0, .int 0])), (nq1, .inr (1, [.ref xq3, .ref xq4, .int 0])), (xq3, .inl (cy 0, 48, .inl (fun _ => 0))), (nq5, .inr (5, [.ref xq7, .int 0])), (xq7, .inl (cy 0, 0, .inl (fun _ => 0)))] := hD
  refine lv_aload_n hx hb dX4_init_27 rfl (lv_at hl 0 rfl) ?_
  refine va_ldcS hx hb hown (hE.2.2.2.1 0 _ rfl) dX4_init_28 ?_
  refine va_put (D := G) (ci := 4) (v := .ref (sk 0)) (ty := (.object "java/lang/String")) (C := RX4) (T := TX4) (N := 7) hx hb hts inB4 tyX4 tyX4_ok nmX4 hown hE.1 hP hD hS 0 rfl rfl 2 (by decide) (hts _ m_361) (fun _ h9 => h9) rfl (by decide +kernel) rfl rfl (Nat.le_of_ble_eq_true rfl) dX4_init_30 (fun H locs hP hD hS => ?_)
  have hP : va_P G classes [(h0, .inr (4, [.ref nq1, .ref nq5, .ref (sk 0), .int 0, .int 0, .int 0, .int 0])), (nq1, .inr (1, [.ref xq3, .ref xq4, .int 0])), (xq3, .inl (cy 0, 48, .inl (fun _ => 0))), (nq5, .inr (5, [.ref xq7, .int 0])), (xq7, .inl (cy 0, 0, .inl (fun _ => 0)))] H := hP
  have hD : va_D A [(h0, .inr (4, [.ref nq1, .ref nq5, .ref (sk 0), .int 0, .int 0, .int 0, .int 0])), (nq1, .inr (1, [.ref xq3, .ref xq4, .int 0])), (xq3, .inl (cy 0, 48, .inl (fun _ => 0))), (nq5, .inr (5, [.ref xq7, .int 0])), (xq7, .inl (cy 0, 0, .inl (fun _ => 0)))] := hD
  refine lv_aload_n hx hb dX4_init_33 rfl (lv_at hl 0 rfl) ?_
  refine lv_iconst (v := 0) hx hb dX4_init_34 (by decide) ?_
  refine va_put (D := G) (ci := 4) (v := .int 0) (ty := .int) (C := RX4) (T := TX4) (N := 7) hx hb hts inB4 tyX4 tyX4_ok nmX4 hown hE.1 hP hD hS 0 rfl rfl 3 (by decide) (hts _ m_362) (fun _ h9 => h9) rfl (by decide +kernel) rfl rfl (Nat.le_of_ble_eq_true rfl) dX4_init_35 (fun H locs hP hD hS => ?_)
  have hP : va_P G classes [(h0, .inr (4, [.ref nq1, .ref nq5, .ref (sk 0), .int 0, .int 0, .int 0, .int 0])), (nq1, .inr (1, [.ref xq3, .ref xq4, .int 0])), (xq3, .inl (cy 0, 48, .inl (fun _ => 0))), (nq5, .inr (5, [.ref xq7, .int 0])), (xq7, .inl (cy 0, 0, .inl (fun _ => 0)))] H := hP
  have hD : va_D A [(h0, .inr (4, [.ref nq1, .ref nq5, .ref (sk 0), .int 0, .int 0, .int 0, .int 0])), (nq1, .inr (1, [.ref xq3, .ref xq4, .int 0])), (xq3, .inl (cy 0, 48, .inl (fun _ => 0))), (nq5, .inr (5, [.ref xq7, .int 0])), (xq7, .inl (cy 0, 0, .inl (fun _ => 0)))] := hD
  refine lv_aload_n hx hb dX4_init_38 rfl (lv_at hl 0 rfl) ?_
  refine lv_iconst (v := (-1)) hx hb dX4_init_39 (by decide) ?_
  refine va_put (D := G) (ci := 4) (v := .int (-1)) (ty := .int) (C := RX4) (T := TX4) (N := 7) hx hb hts inB4 tyX4 tyX4_ok nmX4 hown hE.1 hP hD hS 0 rfl rfl 4 (by decide) (hts _ m_363) (fun _ h9 => h9) rfl (by decide +kernel) rfl rfl (Nat.le_of_ble_eq_true rfl) dX4_init_40 (fun H locs hP hD hS => ?_)
  have hP : va_P G classes [(h0, .inr (4, [.ref nq1, .ref nq5, .ref (sk 0), .int 0, .int (-1), .int 0, .int 0])), (nq1, .inr (1, [.ref xq3, .ref xq4, .int 0])), (xq3, .inl (cy 0, 48, .inl (fun _ => 0))), (nq5, .inr (5, [.ref xq7, .int 0])), (xq7, .inl (cy 0, 0, .inl (fun _ => 0)))] H := hP
  have hD : va_D A [(h0, .inr (4, [.ref nq1, .ref nq5, .ref (sk 0), .int 0, .int (-1), .int 0, .int 0])), (nq1, .inr (1, [.ref xq3, .ref xq4, .int 0])), (xq3, .inl (cy 0, 48, .inl (fun _ => 0))), (nq5, .inr (5, [.ref xq7, .int 0])), (xq7, .inl (cy 0, 0, .inl (fun _ => 0)))] := hD
  refine lv_aload_n hx hb dX4_init_43 rfl (lv_at hl 0 rfl) ?_
  refine lv_iconst (v := 0) hx hb dX4_init_44 (by decide) ?_
  refine va_put (D := G) (ci := 4) (v := .int 0) (ty := .int) (C := RX4) (T := TX4) (N := 7) hx hb hts inB4 tyX4 tyX4_ok nmX4 hown hE.1 hP hD hS 0 rfl rfl 5 (by decide) (hts _ m_364) (fun _ h9 => h9) rfl (by decide +kernel) rfl rfl (Nat.le_of_ble_eq_true rfl) dX4_init_45 (fun H locs hP hD hS => ?_)
  have hP : va_P G classes [(h0, .inr (4, [.ref nq1, .ref nq5, .ref (sk 0), .int 0, .int (-1), .int 0, .int 0])), (nq1, .inr (1, [.ref xq3, .ref xq4, .int 0])), (xq3, .inl (cy 0, 48, .inl (fun _ => 0))), (nq5, .inr (5, [.ref xq7, .int 0])), (xq7, .inl (cy 0, 0, .inl (fun _ => 0)))] H := hP
  have hD : va_D A [(h0, .inr (4, [.ref nq1, .ref nq5, .ref (sk 0), .int 0, .int (-1), .int 0, .int 0])), (nq1, .inr (1, [.ref xq3, .ref xq4, .int 0])), (xq3, .inl (cy 0, 48, .inl (fun _ => 0))), (nq5, .inr (5, [.ref xq7, .int 0])), (xq7, .inl (cy 0, 0, .inl (fun _ => 0)))] := hD
  refine lv_aload_n hx hb dX4_init_48 rfl (lv_at hl 0 rfl) ?_
  refine lv_iconst (v := 0) hx hb dX4_init_49 (by decide) ?_
  refine va_put (D := G) (ci := 4) (v := .int 0) (ty := .int) (C := RX4) (T := TX4) (N := 7) hx hb hts inB4 tyX4 tyX4_ok nmX4 hown hE.1 hP hD hS 0 rfl rfl 6 (by decide) (hts _ m_365) (fun _ h9 => h9) rfl (by decide +kernel) rfl rfl (Nat.le_of_ble_eq_true rfl) dX4_init_50 (fun H locs hP hD hS => ?_)
  have hP : va_P G classes [(h0, .inr (4, [.ref nq1, .ref nq5, .ref (sk 0), .int 0, .int (-1), .int 0, .int 0])), (nq1, .inr (1, [.ref xq3, .ref xq4, .int 0])), (xq3, .inl (cy 0, 48, .inl (fun _ => 0))), (nq5, .inr (5, [.ref xq7, .int 0])), (xq7, .inl (cy 0, 0, .inl (fun _ => 0)))] H := hP
  have hD : va_D A [(h0, .inr (4, [.ref nq1, .ref nq5, .ref (sk 0), .int 0, .int (-1), .int 0, .int 0])), (nq1, .inr (1, [.ref xq3, .ref xq4, .int 0])), (xq3, .inl (cy 0, 48, .inl (fun _ => 0))), (nq5, .inr (5, [.ref xq7, .int 0])), (xq7, .inl (cy 0, 0, .inl (fun _ => 0)))] := hD
  have hP9 := P_cut (wc := [(h0, .inr (4, [.ref nq1, .ref nq5, .ref (sk 0), .int 0, .int (-1), .int 0, .int 0])), (nq1, .inr (1, [.ref xq3, .ref xq4, .int 0]))]) hP [0, 1] rfl
  have hD9 := hD.sub (ws' := [(h0, .inr (4, [.ref nq1, .ref nq5, .ref (sk 0), .int 0, .int (-1), .int 0, .int 0])), (nq1, .inr (1, [.ref xq3, .ref xq4, .int 0]))]) [0, 1] (by decide) rfl
  refine W.widen (k := 5) (n := 201) (by first | exact Nat.le_of_ble_eq_true rfl | omega) (by first | exact Nat.le_of_ble_eq_true rfl | omega) ?_
  exact W.vret hx hb hr (fun t ht hW => ⟨⟨(), rfl, trivial, by dsimp only; rw [ht]; exact ⟨nq1, nq5, (sk 0), xq3, xq4, hP9, hD9⟩⟩, hS.F ht⟩) hS.2.2 dX4_init_53
set_option maxHeartbeats 4000000 in
set_option maxRecDepth 100000 in
theorem c_X0_init (l : Launch) (G : va_G) (cy : Nat → ClassId) (sk : Nat → Nat) (sz : Nat) (h0 : Nat)  : Met l yX0_init (wsO yX0_init cX0_init 1 none) ({ frames := 1, cells := 4, slots := 416, locals := 12 }) (va_Pc [.ref h0] (PR G cy sk sz [(h0, .inr (0, [.null, .null, .null, .null, .int 0, .int 0]))])) (va_Qv (fun (_ : Unit) => True) (fun _ _ => True) (va_A [(h0, .inr (0, [.null, .null, .null, .null, .int 0, .int 0]))] sz)) 4 416 (va_A [(h0, .inr (0, [.null, .null, .null, .null, .int 0, .int 0]))] sz) := by
  refine mt (by decide) (Nat.le_of_ble_eq_true rfl) ?_
  intro p e s m below meth c ls hx hb hr hml hts hown hlocks hin hsz hP hE hD hl
  subst hsz
  have hl : lv_has ls 1 [(0, .ref h0)] := hl
  have hD := hD.self (sz := s.heap.size)
  generalize hAe : va_A [(h0, .inr (0, [.null, .null, .null, .null, .int 0, .int 0]))] s.heap.size = A at hD ⊢
  have hA : ∀ q : Nat, s.heap.size ≤ q → A q := fun q h => by rw [← hAe]; exact Or.inr h
  have hS : va_S A s.heap s.heap [] := va_S.rf
  refine lv_aload_n hx hb dX0_init_0 rfl (lv_at hl 0 rfl) ?_
  refine W.objInit hx hb hown (hts _ m_387) (hts _ m_107) (hts _ m_108) rfl (by rw [hml]; exact hl.1) rfl dX0_init_1 (Nat.le_of_ble_eq_true rfl) (Nat.le_of_ble_eq_true rfl) ?_
  refine W.eq (g2 := F0 m 4 ls []) rfl ?_
  refine lv_aload_n hx hb dX0_init_4 rfl (lv_at hl 0 rfl) ?_
  refine lv_sipush (v := 192) hx hb dX0_init_5 (by decide) ?_
  refine nwI (n := 192) (N := 192) hx hb hts m_146 hE hP hD hS hA (by decide) (by decide) (Nat.le_of_ble_eq_true rfl) (Nat.le_of_ble_eq_true rfl) (Nat.le_of_ble_eq_true rfl) dX0_init_8 (fun nq1 H hP hD hS => ?_)
  have hP : va_P G classes [(h0, .inr (0, [.null, .null, .null, .null, .int 0, .int 0])), (nq1, .inl (cy 0, 192, .inl (fun _ => 0)))] H := hP
  have hD : va_D A [(h0, .inr (0, [.null, .null, .null, .null, .int 0, .int 0])), (nq1, .inl (cy 0, 192, .inl (fun _ => 0)))] := hD
  refine va_putF (D := G) (ci := 0) (v := .ref nq1) (ty := (.array .int)) (C := RX0) (T := TX0) (N := 6) hx hb hts inB0 tyX0 tyX0_ok nmX0 hown hE.1 hP hD hS 0 rfl rfl 0 (by decide) (hts _ m_388) (fun _ h9 => h9) rfl hin rfl (by decide +kernel) rfl rfl (Nat.le_of_ble_eq_true rfl) dX0_init_10 (fun H locs hP hD hS => ?_)
  have hP : va_P G classes [(h0, .inr (0, [.ref nq1, .null, .null, .null, .int 0, .int 0])), (nq1, .inl (cy 0, 192, .inl (fun _ => 0)))] H := hP
  have hD : va_D A [(h0, .inr (0, [.ref nq1, .null, .null, .null, .int 0, .int 0])), (nq1, .inl (cy 0, 192, .inl (fun _ => 0)))] := hD
  refine lv_aload_n hx hb dX0_init_13 rfl (lv_at hl 0 rfl) ?_
  refine lv_sipush (v := 192) hx hb dX0_init_14 (by decide) ?_
  refine nwZ (n := 192) (N := 192) hx hb hts m_409 hE hP hD hS hA (by decide) (by decide) (Nat.le_of_ble_eq_true rfl) (Nat.le_of_ble_eq_true rfl) (Nat.le_of_ble_eq_true rfl) dX0_init_17 (fun nq2 H hP hD hS => ?_)
  have hP : va_P G classes [(h0, .inr (0, [.ref nq1, .null, .null, .null, .int 0, .int 0])), (nq1, .inl (cy 0, 192, .inl (fun _ => 0))), (nq2, .inl (cy 1, 192, .inl (fun _ => 0)))] H := hP
  have hD : va_D A [(h0, .inr (0, [.ref nq1, .null, .null, .null, .int 0, .int 0])), (nq1, .inl (cy 0, 192, .inl (fun _ => 0))), (nq2, .inl (cy 1, 192, .inl (fun _ => 0)))] := hD
  refine va_putF (D := G) (ci := 0) (v := .ref nq2) (ty := (.array .boolean)) (C := RX0) (T := TX0) (N := 6) hx hb hts inB0 tyX0 tyX0_ok nmX0 hown hE.1 hP hD hS 0 rfl rfl 1 (by decide) (hts _ m_389) (fun _ h9 => h9) rfl hin rfl (by decide +kernel) rfl rfl (Nat.le_of_ble_eq_true rfl) dX0_init_19 (fun H locs hP hD hS => ?_)
  have hP : va_P G classes [(h0, .inr (0, [.ref nq1, .ref nq2, .null, .null, .int 0, .int 0])), (nq1, .inl (cy 0, 192, .inl (fun _ => 0))), (nq2, .inl (cy 1, 192, .inl (fun _ => 0)))] H := hP
  have hD : va_D A [(h0, .inr (0, [.ref nq1, .ref nq2, .null, .null, .int 0, .int 0])), (nq1, .inl (cy 0, 192, .inl (fun _ => 0))), (nq2, .inl (cy 1, 192, .inl (fun _ => 0)))] := hD
  refine lv_aload_n hx hb dX0_init_22 rfl (lv_at hl 0 rfl) ?_
  refine lv_bipush (v := 24) hx hb dX0_init_23 (by decide) ?_
  refine nwJ (n := 24) (N := 24) hx hb hts m_410 hE hP hD hS hA (by decide) (by decide) (Nat.le_of_ble_eq_true rfl) (Nat.le_of_ble_eq_true rfl) (Nat.le_of_ble_eq_true rfl) dX0_init_25 (fun nq3 H hP hD hS => ?_)
  have hP : va_P G classes [(h0, .inr (0, [.ref nq1, .ref nq2, .null, .null, .int 0, .int 0])), (nq1, .inl (cy 0, 192, .inl (fun _ => 0))), (nq2, .inl (cy 1, 192, .inl (fun _ => 0))), (nq3, .inl (cy 2, 24, .inr (.inl (fun _ => 0))))] H := hP
  have hD : va_D A [(h0, .inr (0, [.ref nq1, .ref nq2, .null, .null, .int 0, .int 0])), (nq1, .inl (cy 0, 192, .inl (fun _ => 0))), (nq2, .inl (cy 1, 192, .inl (fun _ => 0))), (nq3, .inl (cy 2, 24, .inr (.inl (fun _ => 0))))] := hD
  refine va_putF (D := G) (ci := 0) (v := .ref nq3) (ty := (.array .long)) (C := RX0) (T := TX0) (N := 6) hx hb hts inB0 tyX0 tyX0_ok nmX0 hown hE.1 hP hD hS 0 rfl rfl 2 (by decide) (hts _ m_390) (fun _ h9 => h9) rfl hin rfl (by decide +kernel) rfl rfl (Nat.le_of_ble_eq_true rfl) dX0_init_27 (fun H locs hP hD hS => ?_)
  have hP : va_P G classes [(h0, .inr (0, [.ref nq1, .ref nq2, .ref nq3, .null, .int 0, .int 0])), (nq1, .inl (cy 0, 192, .inl (fun _ => 0))), (nq2, .inl (cy 1, 192, .inl (fun _ => 0))), (nq3, .inl (cy 2, 24, .inr (.inl (fun _ => 0))))] H := hP
  have hD : va_D A [(h0, .inr (0, [.ref nq1, .ref nq2, .ref nq3, .null, .int 0, .int 0])), (nq1, .inl (cy 0, 192, .inl (fun _ => 0))), (nq2, .inl (cy 1, 192, .inl (fun _ => 0))), (nq3, .inl (cy 2, 24, .inr (.inl (fun _ => 0))))] := hD
  refine lv_aload_n hx hb dX0_init_30 rfl (lv_at hl 0 rfl) ?_
  refine lv_bipush (v := 8) hx hb dX0_init_31 (by decide) ?_
  refine nwI (n := 8) (N := 8) hx hb hts m_146 hE hP hD hS hA (by decide) (by decide) (Nat.le_of_ble_eq_true rfl) (Nat.le_of_ble_eq_true rfl) (Nat.le_of_ble_eq_true rfl) dX0_init_33 (fun nq4 H hP hD hS => ?_)
  have hP : va_P G classes [(h0, .inr (0, [.ref nq1, .ref nq2, .ref nq3, .null, .int 0, .int 0])), (nq1, .inl (cy 0, 192, .inl (fun _ => 0))), (nq2, .inl (cy 1, 192, .inl (fun _ => 0))), (nq3, .inl (cy 2, 24, .inr (.inl (fun _ => 0)))), (nq4, .inl (cy 0, 8, .inl (fun _ => 0)))] H := hP
  have hD : va_D A [(h0, .inr (0, [.ref nq1, .ref nq2, .ref nq3, .null, .int 0, .int 0])), (nq1, .inl (cy 0, 192, .inl (fun _ => 0))), (nq2, .inl (cy 1, 192, .inl (fun _ => 0))), (nq3, .inl (cy 2, 24, .inr (.inl (fun _ => 0)))), (nq4, .inl (cy 0, 8, .inl (fun _ => 0)))] := hD
  refine va_putF (D := G) (ci := 0) (v := .ref nq4) (ty := (.array .int)) (C := RX0) (T := TX0) (N := 6) hx hb hts inB0 tyX0 tyX0_ok nmX0 hown hE.1 hP hD hS 0 rfl rfl 3 (by decide) (hts _ m_391) (fun _ h9 => h9) rfl hin rfl (by decide +kernel) rfl rfl (Nat.le_of_ble_eq_true rfl) dX0_init_35 (fun H locs hP hD hS => ?_)
  have hP : va_P G classes [(h0, .inr (0, [.ref nq1, .ref nq2, .ref nq3, .ref nq4, .int 0, .int 0])), (nq1, .inl (cy 0, 192, .inl (fun _ => 0))), (nq2, .inl (cy 1, 192, .inl (fun _ => 0))), (nq3, .inl (cy 2, 24, .inr (.inl (fun _ => 0)))), (nq4, .inl (cy 0, 8, .inl (fun _ => 0)))] H := hP
  have hD : va_D A [(h0, .inr (0, [.ref nq1, .ref nq2, .ref nq3, .ref nq4, .int 0, .int 0])), (nq1, .inl (cy 0, 192, .inl (fun _ => 0))), (nq2, .inl (cy 1, 192, .inl (fun _ => 0))), (nq3, .inl (cy 2, 24, .inr (.inl (fun _ => 0)))), (nq4, .inl (cy 0, 8, .inl (fun _ => 0)))] := hD
  refine lv_aload_n hx hb dX0_init_38 rfl (lv_at hl 0 rfl) ?_
  refine lv_iconst (v := 0) hx hb dX0_init_39 (by decide) ?_
  refine va_put (D := G) (ci := 0) (v := .int 0) (ty := .int) (C := RX0) (T := TX0) (N := 6) hx hb hts inB0 tyX0 tyX0_ok nmX0 hown hE.1 hP hD hS 0 rfl rfl 4 (by decide) (hts _ m_392) (fun _ h9 => h9) rfl (by decide +kernel) rfl rfl (Nat.le_of_ble_eq_true rfl) dX0_init_40 (fun H locs hP hD hS => ?_)
  have hP : va_P G classes [(h0, .inr (0, [.ref nq1, .ref nq2, .ref nq3, .ref nq4, .int 0, .int 0])), (nq1, .inl (cy 0, 192, .inl (fun _ => 0))), (nq2, .inl (cy 1, 192, .inl (fun _ => 0))), (nq3, .inl (cy 2, 24, .inr (.inl (fun _ => 0)))), (nq4, .inl (cy 0, 8, .inl (fun _ => 0)))] H := hP
  have hD : va_D A [(h0, .inr (0, [.ref nq1, .ref nq2, .ref nq3, .ref nq4, .int 0, .int 0])), (nq1, .inl (cy 0, 192, .inl (fun _ => 0))), (nq2, .inl (cy 1, 192, .inl (fun _ => 0))), (nq3, .inl (cy 2, 24, .inr (.inl (fun _ => 0)))), (nq4, .inl (cy 0, 8, .inl (fun _ => 0)))] := hD
  refine lv_aload_n hx hb dX0_init_43 rfl (lv_at hl 0 rfl) ?_
  refine lv_iconst (v := 0) hx hb dX0_init_44 (by decide) ?_
  refine va_put (D := G) (ci := 0) (v := .int 0) (ty := .int) (C := RX0) (T := TX0) (N := 6) hx hb hts inB0 tyX0 tyX0_ok nmX0 hown hE.1 hP hD hS 0 rfl rfl 5 (by decide) (hts _ m_394) (fun _ h9 => h9) rfl (by decide +kernel) rfl rfl (Nat.le_of_ble_eq_true rfl) dX0_init_45 (fun H locs hP hD hS => ?_)
  have hP : va_P G classes [(h0, .inr (0, [.ref nq1, .ref nq2, .ref nq3, .ref nq4, .int 0, .int 0])), (nq1, .inl (cy 0, 192, .inl (fun _ => 0))), (nq2, .inl (cy 1, 192, .inl (fun _ => 0))), (nq3, .inl (cy 2, 24, .inr (.inl (fun _ => 0)))), (nq4, .inl (cy 0, 8, .inl (fun _ => 0)))] H := hP
  have hD : va_D A [(h0, .inr (0, [.ref nq1, .ref nq2, .ref nq3, .ref nq4, .int 0, .int 0])), (nq1, .inl (cy 0, 192, .inl (fun _ => 0))), (nq2, .inl (cy 1, 192, .inl (fun _ => 0))), (nq3, .inl (cy 2, 24, .inr (.inl (fun _ => 0)))), (nq4, .inl (cy 0, 8, .inl (fun _ => 0)))] := hD
  refine W.widen (k := 4) (n := 416) (by first | exact Nat.le_of_ble_eq_true rfl | omega) (by first | exact Nat.le_of_ble_eq_true rfl | omega) ?_
  exact W.vret hx hb hr (fun t ht hW => ⟨⟨(), rfl, trivial, trivial⟩, hS.F ht⟩) hS.2.2 dX0_init_48
end
section
def B_c_X8_init (G : va_G) (cy : Nat → ClassId) (A : Nat → Prop) (h0 : Nat) (H : Heap) : Prop := ∃ (bg : Nat) (vt : Nat) (vta : Nat), va_P G classes [(h0, .inr (8, [.ref bg, .ref vt, .int 0, .int 0, .int 0, .int 0])), (vt, .inr (5, [.ref vta, .int 0]))] H ∧ va_D A [(h0, .inr (8, [.ref bg, .ref vt, .int 0, .int 0, .int 0, .int 0])), (vt, .inr (5, [.ref vta, .int 0]))]
set_option maxHeartbeats 4000000 in
set_option maxRecDepth 100000 in
theorem c_X8_init (l : Launch) (G : va_G) (cy : Nat → ClassId) (sk : Nat → Nat) (sz : Nat) (h0 : Nat)  : Met l yX8_init (wsO yX8_init cX8_init 1 none) ({ frames := 2, cells := 4, slots := 204, locals := 35 }) (va_Pc [.ref h0] (PR G cy sk sz [(h0, .inr (8, [.null, .null, .int 0, .int 0, .int 0, .int 0]))])) (va_Qv (fun (_ : Unit) => True) (fun _ t => B_c_X8_init G cy (va_A [(h0, .inr (8, [.null, .null, .int 0, .int 0, .int 0, .int 0]))] sz) h0 t.heap) (va_A [(h0, .inr (8, [.null, .null, .int 0, .int 0, .int 0, .int 0]))] sz)) 4 204 (va_A [(h0, .inr (8, [.null, .null, .int 0, .int 0, .int 0, .int 0]))] sz) := by
  refine mt (by decide) (Nat.le_of_ble_eq_true rfl) ?_
  intro p e s m below meth c ls hx hb hr hml hts hown hlocks hin hsz hP hE hD hl
  subst hsz
  have hl : lv_has ls 1 [(0, .ref h0)] := hl
  have hD := hD.self (sz := s.heap.size)
  generalize hAe : va_A [(h0, .inr (8, [.null, .null, .int 0, .int 0, .int 0, .int 0]))] s.heap.size = A at hD ⊢
  have hA : ∀ q : Nat, s.heap.size ≤ q → A q := fun q h => by rw [← hAe]; exact Or.inr h
  have hS : va_S A s.heap s.heap [] := va_S.rf
  refine lv_aload_n hx hb dX8_init_0 rfl (lv_at hl 0 rfl) ?_
  refine W.objInit hx hb hown (hts _ m_416) (hts _ m_107) (hts _ m_108) rfl (by rw [hml]; exact hl.1) rfl dX8_init_1 (Nat.le_of_ble_eq_true rfl) (Nat.le_of_ble_eq_true rfl) ?_
  refine W.eq (g2 := F0 m 4 ls []) rfl ?_
  refine lv_aload_n hx hb dX8_init_4 rfl (lv_at hl 0 rfl) ?_
  refine va_new (ci := 5) (fs := [.null, .int 0]) (C := RX5) (T := TX5) (N := 2) hx hb hts inB5 tyX5 tyX5_ok hown (hts _ m_417) (hts _ m_200) (hts _ m_85) hE.1 hP hD hS hA rfl df5 (Nat.le_of_ble_eq_true rfl) (Nat.le_of_ble_eq_true rfl) dX8_init_5 (fun nq1 H hP hD hS => ?_)
  have hP : va_P G classes [(h0, .inr (8, [.null, .null, .int 0, .int 0, .int 0, .int 0])), (nq1, .inr (5, [.null, .int 0]))] H := hP
  have hD : va_D A [(h0, .inr (8, [.null, .null, .int 0, .int 0, .int 0, .int 0])), (nq1, .inr (5, [.null, .int 0]))] := hD
  refine lv_dup hx hb dX8_init_8 rfl ?_
  refine lv_bipush (v := 30) hx hb dX8_init_9 (by decide) ?_
  refine wI (B := (B_c_X5_init G cy (va_A [(nq1, .inr (5, [.null, .int 0]))] H.size) nq1 30 30)) (wr := [(h0, .inr (8, [.null, .null, .int 0, .int 0, .int 0, .int 0]))]) (rest := [.ref nq1, .ref h0]) hx hb hml hown hts hE (c_X5_init l G cy sk H.size nq1 30 30 rfl (by decide)) kI_X5_init m_418 rfl rfl ⟨(Nat.le_of_ble_eq_true rfl), (Nat.le_of_ble_eq_true rfl)⟩ hP hD hS hA [1] [0] rfl rfl rfl rfl (by decide) rfl rfl hl.1 (Nat.le_of_ble_eq_true rfl) dX8_init_11 ⟨(Nat.le_of_ble_eq_true rfl), (Nat.le_of_ble_eq_true rfl)⟩ (fun H locs haf hS => ?_)
  obtain ⟨xq3, hP1, hD1⟩ := haf.1
  obtain ⟨hP, hD⟩ := haf.2.1 _ hP1 hD1
  have hP : va_P G classes [(h0, .inr (8, [.null, .null, .int 0, .int 0, .int 0, .int 0])), (nq1, .inr (5, [.ref xq3, .int 0])), (xq3, .inl (cy 0, 30, .inl (fun _ => 0)))] H := hP
  have hD : va_D A [(h0, .inr (8, [.null, .null, .int 0, .int 0, .int 0, .int 0])), (nq1, .inr (5, [.ref xq3, .int 0])), (xq3, .inl (cy 0, 30, .inl (fun _ => 0)))] := hD
  refine va_putF (D := G) (ci := 8) (v := .ref nq1) (ty := (.object "ClickStreet$Row")) (C := RX8) (T := TX8) (N := 6) hx hb hts inB8 tyX8 tyX8_ok nmX8 hown hE.1 hP hD hS 0 rfl rfl 0 (by decide) (hts _ m_419) (fun _ h9 => h9) rfl hin rfl (by decide +kernel) rfl rfl (Nat.le_of_ble_eq_true rfl) dX8_init_14 (fun H locs hP hD hS => ?_)
  have hP : va_P G classes [(h0, .inr (8, [.ref nq1, .null, .int 0, .int 0, .int 0, .int 0])), (nq1, .inr (5, [.ref xq3, .int 0])), (xq3, .inl (cy 0, 30, .inl (fun _ => 0)))] H := hP
  have hD : va_D A [(h0, .inr (8, [.ref nq1, .null, .int 0, .int 0, .int 0, .int 0])), (nq1, .inr (5, [.ref xq3, .int 0])), (xq3, .inl (cy 0, 30, .inl (fun _ => 0)))] := hD
  refine lv_aload_n hx hb dX8_init_17 rfl (lv_at hl 0 rfl) ?_
  refine va_new (ci := 5) (fs := [.null, .int 0]) (C := RX5) (T := TX5) (N := 2) hx hb hts inB5 tyX5 tyX5_ok hown (hts _ m_417) (hts _ m_200) (hts _ m_85) hE.1 hP hD hS hA rfl df5 (Nat.le_of_ble_eq_true rfl) (Nat.le_of_ble_eq_true rfl) dX8_init_18 (fun nq4 H hP hD hS => ?_)
  have hP : va_P G classes [(h0, .inr (8, [.ref nq1, .null, .int 0, .int 0, .int 0, .int 0])), (nq1, .inr (5, [.ref xq3, .int 0])), (xq3, .inl (cy 0, 30, .inl (fun _ => 0))), (nq4, .inr (5, [.null, .int 0]))] H := hP
  have hD : va_D A [(h0, .inr (8, [.ref nq1, .null, .int 0, .int 0, .int 0, .int 0])), (nq1, .inr (5, [.ref xq3, .int 0])), (xq3, .inl (cy 0, 30, .inl (fun _ => 0))), (nq4, .inr (5, [.null, .int 0]))] := hD
  refine lv_dup hx hb dX8_init_21 rfl ?_
  refine lv_bipush (v := 30) hx hb dX8_init_22 (by decide) ?_
  refine wI (B := (B_c_X5_init G cy (va_A [(nq4, .inr (5, [.null, .int 0]))] H.size) nq4 30 30)) (wr := [(h0, .inr (8, [.ref nq1, .null, .int 0, .int 0, .int 0, .int 0])), (nq1, .inr (5, [.ref xq3, .int 0])), (xq3, .inl (cy 0, 30, .inl (fun _ => 0)))]) (rest := [.ref nq4, .ref h0]) hx hb hml hown hts hE (c_X5_init l G cy sk H.size nq4 30 30 rfl (by decide)) kI_X5_init m_418 rfl rfl ⟨(Nat.le_of_ble_eq_true rfl), (Nat.le_of_ble_eq_true rfl)⟩ hP hD hS hA [3] [0, 1, 2] rfl rfl rfl rfl (by decide) rfl rfl hl.1 (Nat.le_of_ble_eq_true rfl) dX8_init_24 ⟨(Nat.le_of_ble_eq_true rfl), (Nat.le_of_ble_eq_true rfl)⟩ (fun H locs haf hS => ?_)
  obtain ⟨xq6, hP1, hD1⟩ := haf.1
  obtain ⟨hP, hD⟩ := haf.2.1 _ hP1 hD1
  have hP : va_P G classes [(h0, .inr (8, [.ref nq1, .null, .int 0, .int 0, .int 0, .int 0])), (nq1, .inr (5, [.ref xq3, .int 0])), (xq3, .inl (cy 0, 30, .inl (fun _ => 0))), (nq4, .inr (5, [.ref xq6, .int 0])), (xq6, .inl (cy 0, 30, .inl (fun _ => 0)))] H := hP
  have hD : va_D A [(h0, .inr (8, [.ref nq1, .null, .int 0, .int 0, .int 0, .int 0])), (nq1, .inr (5, [.ref xq3, .int 0])), (xq3, .inl (cy 0, 30, .inl (fun _ => 0))), (nq4, .inr (5, [.ref xq6, .int 0])), (xq6, .inl (cy 0, 30, .inl (fun _ => 0)))] := hD
  refine va_putF (D := G) (ci := 8) (v := .ref nq4) (ty := (.object "ClickStreet$Row")) (C := RX8) (T := TX8) (N := 6) hx hb hts inB8 tyX8 tyX8_ok nmX8 hown hE.1 hP hD hS 0 rfl rfl 1 (by decide) (hts _ m_420) (fun _ h9 => h9) rfl hin rfl (by decide +kernel) rfl rfl (Nat.le_of_ble_eq_true rfl) dX8_init_27 (fun H locs hP hD hS => ?_)
  have hP : va_P G classes [(h0, .inr (8, [.ref nq1, .ref nq4, .int 0, .int 0, .int 0, .int 0])), (nq1, .inr (5, [.ref xq3, .int 0])), (xq3, .inl (cy 0, 30, .inl (fun _ => 0))), (nq4, .inr (5, [.ref xq6, .int 0])), (xq6, .inl (cy 0, 30, .inl (fun _ => 0)))] H := hP
  have hD : va_D A [(h0, .inr (8, [.ref nq1, .ref nq4, .int 0, .int 0, .int 0, .int 0])), (nq1, .inr (5, [.ref xq3, .int 0])), (xq3, .inl (cy 0, 30, .inl (fun _ => 0))), (nq4, .inr (5, [.ref xq6, .int 0])), (xq6, .inl (cy 0, 30, .inl (fun _ => 0)))] := hD
  refine lv_aload_n hx hb dX8_init_30 rfl (lv_at hl 0 rfl) ?_
  refine lv_iconst (v := 0) hx hb dX8_init_31 (by decide) ?_
  refine va_put (D := G) (ci := 8) (v := .int 0) (ty := .int) (C := RX8) (T := TX8) (N := 6) hx hb hts inB8 tyX8 tyX8_ok nmX8 hown hE.1 hP hD hS 0 rfl rfl 2 (by decide) (hts _ m_422) (fun _ h9 => h9) rfl (by decide +kernel) rfl rfl (Nat.le_of_ble_eq_true rfl) dX8_init_32 (fun H locs hP hD hS => ?_)
  have hP : va_P G classes [(h0, .inr (8, [.ref nq1, .ref nq4, .int 0, .int 0, .int 0, .int 0])), (nq1, .inr (5, [.ref xq3, .int 0])), (xq3, .inl (cy 0, 30, .inl (fun _ => 0))), (nq4, .inr (5, [.ref xq6, .int 0])), (xq6, .inl (cy 0, 30, .inl (fun _ => 0)))] H := hP
  have hD : va_D A [(h0, .inr (8, [.ref nq1, .ref nq4, .int 0, .int 0, .int 0, .int 0])), (nq1, .inr (5, [.ref xq3, .int 0])), (xq3, .inl (cy 0, 30, .inl (fun _ => 0))), (nq4, .inr (5, [.ref xq6, .int 0])), (xq6, .inl (cy 0, 30, .inl (fun _ => 0)))] := hD
  refine lv_aload_n hx hb dX8_init_35 rfl (lv_at hl 0 rfl) ?_
  refine lv_iconst (v := 0) hx hb dX8_init_36 (by decide) ?_
  refine va_put (D := G) (ci := 8) (v := .int 0) (ty := .int) (C := RX8) (T := TX8) (N := 6) hx hb hts inB8 tyX8 tyX8_ok nmX8 hown hE.1 hP hD hS 0 rfl rfl 3 (by decide) (hts _ m_423) (fun _ h9 => h9) rfl (by decide +kernel) rfl rfl (Nat.le_of_ble_eq_true rfl) dX8_init_37 (fun H locs hP hD hS => ?_)
  have hP : va_P G classes [(h0, .inr (8, [.ref nq1, .ref nq4, .int 0, .int 0, .int 0, .int 0])), (nq1, .inr (5, [.ref xq3, .int 0])), (xq3, .inl (cy 0, 30, .inl (fun _ => 0))), (nq4, .inr (5, [.ref xq6, .int 0])), (xq6, .inl (cy 0, 30, .inl (fun _ => 0)))] H := hP
  have hD : va_D A [(h0, .inr (8, [.ref nq1, .ref nq4, .int 0, .int 0, .int 0, .int 0])), (nq1, .inr (5, [.ref xq3, .int 0])), (xq3, .inl (cy 0, 30, .inl (fun _ => 0))), (nq4, .inr (5, [.ref xq6, .int 0])), (xq6, .inl (cy 0, 30, .inl (fun _ => 0)))] := hD
  refine lv_aload_n hx hb dX8_init_40 rfl (lv_at hl 0 rfl) ?_
  refine lv_iconst (v := 0) hx hb dX8_init_41 (by decide) ?_
  refine va_put (D := G) (ci := 8) (v := .int 0) (ty := .int) (C := RX8) (T := TX8) (N := 6) hx hb hts inB8 tyX8 tyX8_ok nmX8 hown hE.1 hP hD hS 0 rfl rfl 4 (by decide) (hts _ m_424) (fun _ h9 => h9) rfl (by decide +kernel) rfl rfl (Nat.le_of_ble_eq_true rfl) dX8_init_42 (fun H locs hP hD hS => ?_)
  have hP : va_P G classes [(h0, .inr (8, [.ref nq1, .ref nq4, .int 0, .int 0, .int 0, .int 0])), (nq1, .inr (5, [.ref xq3, .int 0])), (xq3, .inl (cy 0, 30, .inl (fun _ => 0))), (nq4, .inr (5, [.ref xq6, .int 0])), (xq6, .inl (cy 0, 30, .inl (fun _ => 0)))] H := hP
  have hD : va_D A [(h0, .inr (8, [.ref nq1, .ref nq4, .int 0, .int 0, .int 0, .int 0])), (nq1, .inr (5, [.ref xq3, .int 0])), (xq3, .inl (cy 0, 30, .inl (fun _ => 0))), (nq4, .inr (5, [.ref xq6, .int 0])), (xq6, .inl (cy 0, 30, .inl (fun _ => 0)))] := hD
  refine lv_aload_n hx hb dX8_init_45 rfl (lv_at hl 0 rfl) ?_
  refine lv_iconst (v := 0) hx hb dX8_init_46 (by decide) ?_
  refine va_put (D := G) (ci := 8) (v := .int 0) (ty := .boolean) (C := RX8) (T := TX8) (N := 6) hx hb hts inB8 tyX8 tyX8_ok nmX8 hown hE.1 hP hD hS 0 rfl rfl 5 (by decide) (hts _ m_425) (fun _ h9 => h9) rfl (by decide +kernel) rfl rfl (Nat.le_of_ble_eq_true rfl) dX8_init_47 (fun H locs hP hD hS => ?_)
  have hP : va_P G classes [(h0, .inr (8, [.ref nq1, .ref nq4, .int 0, .int 0, .int 0, .int 0])), (nq1, .inr (5, [.ref xq3, .int 0])), (xq3, .inl (cy 0, 30, .inl (fun _ => 0))), (nq4, .inr (5, [.ref xq6, .int 0])), (xq6, .inl (cy 0, 30, .inl (fun _ => 0)))] H := hP
  have hD : va_D A [(h0, .inr (8, [.ref nq1, .ref nq4, .int 0, .int 0, .int 0, .int 0])), (nq1, .inr (5, [.ref xq3, .int 0])), (xq3, .inl (cy 0, 30, .inl (fun _ => 0))), (nq4, .inr (5, [.ref xq6, .int 0])), (xq6, .inl (cy 0, 30, .inl (fun _ => 0)))] := hD
  have hP9 := P_cut (wc := [(h0, .inr (8, [.ref nq1, .ref nq4, .int 0, .int 0, .int 0, .int 0])), (nq4, .inr (5, [.ref xq6, .int 0]))]) hP [0, 3] rfl
  have hD9 := hD.sub (ws' := [(h0, .inr (8, [.ref nq1, .ref nq4, .int 0, .int 0, .int 0, .int 0])), (nq4, .inr (5, [.ref xq6, .int 0]))]) [0, 3] (by decide) rfl
  refine W.widen (k := 4) (n := 204) (by first | exact Nat.le_of_ble_eq_true rfl | omega) (by first | exact Nat.le_of_ble_eq_true rfl | omega) ?_
  exact W.vret hx hb hr (fun t ht hW => ⟨⟨(), rfl, trivial, by dsimp only; rw [ht]; exact ⟨nq1, nq4, xq6, hP9, hD9⟩⟩, hS.F ht⟩) hS.2.2 dX8_init_50
end
section
/-! words of the tables that are used, by their places; decode rows; classes -/
theorem m_82 : Cond.initialized RX2 ∈ BASE := bmem 82 (by decide +kernel) rfl
theorem m_87 : Cond.initialized RX9 ∈ BASE := bmem 87 (by decide +kernel) rfl
theorem m_114 : Cond.methodLink RX10 1 Lib.objectInit ∈ BASE := bmem 114 (by decide +kernel) rfl
theorem m_115 : Cond.classLink RX10 7 RX7 ∈ BASE := bmem 115 (by decide +kernel) rfl
theorem m_116 : Cond.instantiable RX7 6 ∈ BASE := bmem 116 (by decide +kernel) rfl
theorem m_117 : Cond.methodLink RX10 9 yX7_init ∈ BASE := bmem 117 (by decide +kernel) rfl
theorem m_118 : Cond.instanceMethod yX7_init ∈ BASE := bmem 118 (by decide +kernel) rfl
theorem m_119 : Cond.code yX7_init cX7_init 2 none ∈ BASE := bmem 119 (by decide +kernel) rfl
theorem m_147 : Cond.classLink RX10 16 RX2 ∈ BASE := bmem 147 (by decide +kernel) rfl
theorem m_148 : Cond.instantiable RX2 7 ∈ BASE := bmem 148 (by decide +kernel) rfl
theorem m_149 : Cond.methodLink RX10 18 yX2_init ∈ BASE := bmem 149 (by decide +kernel) rfl
theorem m_150 : Cond.instanceMethod yX2_init ∈ BASE := bmem 150 (by decide +kernel) rfl
theorem m_151 : Cond.code yX2_init cX2_init 2 none ∈ BASE := bmem 151 (by decide +kernel) rfl
theorem m_193 : Cond.classLink RX10 23 RX3 ∈ BASE := bmem 193 (by decide +kernel) rfl
theorem m_194 : Cond.instantiable RX3 9 ∈ BASE := bmem 194 (by decide +kernel) rfl
theorem m_196 : Cond.instanceMethod yX3_init ∈ BASE := bmem 196 (by decide +kernel) rfl
theorem m_197 : Cond.code yX3_init cX3_init 1 none ∈ BASE := bmem 197 (by decide +kernel) rfl
theorem m_249 : Cond.classLink RX10 30 RX5 ∈ BASE := bmem 249 (by decide +kernel) rfl
theorem m_250 : Cond.methodLink RX10 34 yX5_init ∈ BASE := bmem 250 (by decide +kernel) rfl
theorem m_251 : Cond.classLink RX10 44 RX9 ∈ BASE := bmem 251 (by decide +kernel) rfl
theorem m_253 : Cond.instantiable RX9 11 ∈ BASE := bmem 253 (by decide +kernel) rfl
theorem m_255 : Cond.instanceMethod yX9_init ∈ BASE := bmem 255 (by decide +kernel) rfl
theorem m_256 : Cond.code yX9_init cX9_init 1 none ∈ BASE := bmem 256 (by decide +kernel) rfl
theorem m_309 : Cond.fieldLink RX10 10 "ClickStreet$World" "street" "LClickStreet$Street;" ∈ BASE := bmem 309 (by decide +kernel) rfl
theorem m_312 : Cond.fieldLink RX10 19 "ClickStreet$World" "laws" "LClickStreet$Laws;" ∈ BASE := bmem 312 (by decide +kernel) rfl
theorem m_315 : Cond.fieldLink RX10 26 "ClickStreet$World" "lessons" "LClickStreet$Lessons;" ∈ BASE := bmem 315 (by decide +kernel) rfl
theorem m_317 : Cond.fieldLink RX10 37 "ClickStreet$World" "tape" "LClickStreet$Row;" ∈ BASE := bmem 317 (by decide +kernel) rfl
theorem m_319 : Cond.fieldLink RX10 41 "ClickStreet$World" "waiting" "LClickStreet$Row;" ∈ BASE := bmem 319 (by decide +kernel) rfl
theorem m_321 : Cond.fieldLink RX10 46 "ClickStreet$World" "walkers" "[LClickStreet$Walker;" ∈ BASE := bmem 321 (by decide +kernel) rfl
theorem m_324 : Cond.fieldLink RX10 50 "ClickStreet$World" "walkerCount" "I" ∈ BASE := bmem 324 (by decide +kernel) rfl
theorem m_326 : Cond.fieldLink RX10 54 "ClickStreet$World" "now" "I" ∈ BASE := bmem 326 (by decide +kernel) rfl
theorem m_600 : Cond.methodLink RX10 58 yX9_begin ∈ BASE := bmem 600 (by decide +kernel) rfl
theorem m_601 : Cond.instanceMethod yX9_begin ∈ BASE := bmem 601 (by decide +kernel) rfl
theorem m_602 : Cond.selects yX9_begin.cls yX9_begin yX9_begin ∈ BASE := bmem 602 (by decide +kernel) rfl
theorem m_603 : Cond.code yX9_begin cX9_begin 5 none ∈ BASE := bmem 603 (by decide +kernel) rfl
theorem m_604 : Cond.methodLink RX10 62 yX7_settle ∈ BASE := bmem 604 (by decide +kernel) rfl
theorem m_1029 : Cond.methodLink RX10 141 yX7_letThingsGo ∈ BASE := bmem 1029 (by decide +kernel) rfl
theorem m_1030 : Cond.instanceMethod yX7_letThingsGo ∈ BASE := bmem 1030 (by decide +kernel) rfl
theorem m_1031 : Cond.selects yX7_letThingsGo.cls yX7_letThingsGo yX7_letThingsGo ∈ BASE := bmem 1031 (by decide +kernel) rfl
theorem m_1032 : Cond.code yX7_letThingsGo cX7_letThingsGo 4 none ∈ BASE := bmem 1032 (by decide +kernel) rfl
theorem m_1258 : Cond.methodLink RX10 184 yX7_takeFrom ∈ BASE := bmem 1258 (by decide +kernel) rfl
theorem m_1259 : Cond.instanceMethod yX7_takeFrom ∈ BASE := bmem 1259 (by decide +kernel) rfl
theorem m_1260 : Cond.selects yX7_takeFrom.cls yX7_takeFrom yX7_takeFrom ∈ BASE := bmem 1260 (by decide +kernel) rfl
theorem m_1261 : Cond.code yX7_takeFrom cX7_takeFrom 2 none ∈ BASE := bmem 1261 (by decide +kernel) rfl
theorem m_1263 : Cond.methodLink RX10 188 yX2_takeFrom ∈ BASE := bmem 1263 (by decide +kernel) rfl
theorem m_1264 : Cond.instanceMethod yX2_takeFrom ∈ BASE := bmem 1264 (by decide +kernel) rfl
theorem m_1265 : Cond.selects yX2_takeFrom.cls yX2_takeFrom yX2_takeFrom ∈ BASE := bmem 1265 (by decide +kernel) rfl
theorem m_1266 : Cond.code yX2_takeFrom cX2_takeFrom 3 none ∈ BASE := bmem 1266 (by decide +kernel) rfl
theorem m_1269 : Cond.methodLink RX10 191 yX3_takeFrom ∈ BASE := bmem 1269 (by decide +kernel) rfl
theorem m_1270 : Cond.instanceMethod yX3_takeFrom ∈ BASE := bmem 1270 (by decide +kernel) rfl
theorem m_1271 : Cond.selects yX3_takeFrom.cls yX3_takeFrom yX3_takeFrom ∈ BASE := bmem 1271 (by decide +kernel) rfl
theorem m_1272 : Cond.code yX3_takeFrom cX3_takeFrom 2 none ∈ BASE := bmem 1272 (by decide +kernel) rfl
theorem m_1274 : Cond.methodLink RX10 194 yX5_takeFrom ∈ BASE := bmem 1274 (by decide +kernel) rfl
theorem kI_X2_init : KI yX2_init cX2_init 2 0 := ⟨m_150, rfl, m_82, m_151, by decide +kernel, by decide +kernel, by decide +kernel⟩
theorem kI_X3_init : KI yX3_init cX3_init 1 0 := ⟨m_196, rfl, m_84, m_197, by decide +kernel, by decide +kernel, by decide +kernel⟩
theorem kI_X7_init : KI yX7_init cX7_init 2 0 := ⟨m_118, rfl, m_81, m_119, by decide +kernel, by decide +kernel, by decide +kernel⟩
theorem kI_X9_init : KI yX9_init cX9_init 1 0 := ⟨m_255, rfl, m_87, m_256, by decide +kernel, by decide +kernel, by decide +kernel⟩
theorem kV_X2_takeFrom : KV yX2_takeFrom cX2_takeFrom 3 none 1 := ⟨m_1264, m_1265, m_82, m_1266, by decide +kernel, by decide +kernel, by decide +kernel⟩
theorem kV_X3_takeFrom : KV yX3_takeFrom cX3_takeFrom 2 none 1 := ⟨m_1270, m_1271, m_84, m_1272, by decide +kernel, by decide +kernel, by decide +kernel⟩
theorem kV_X7_letThingsGo : KV yX7_letThingsGo cX7_letThingsGo 4 none 1 := ⟨m_1030, m_1031, m_81, m_1032, by decide +kernel, by decide +kernel, by decide +kernel⟩
theorem kV_X7_takeFrom : KV yX7_takeFrom cX7_takeFrom 2 none 1 := ⟨m_1259, m_1260, m_81, m_1261, by decide +kernel, by decide +kernel, by decide +kernel⟩
theorem kV_X9_begin : KV yX9_begin cX9_begin 5 none 3 := ⟨m_601, m_602, m_87, m_603, by decide +kernel, by decide +kernel, by decide +kernel⟩
theorem inB10 : ∀ w ∈ u_ws RX10 TX10 8, w ∈ BASE := bmems (u_ws RX10 TX10 8) [328, 330, 332, 334, 336, 338, 340, 342] (by decide +kernel) (by decide +kernel)
theorem df10 : ∀ j, j < 8 → defaultValue (tyX10 j) = vp_V [.null, .null, .null, .null, .null, .null, .int 0, .int 0] j := fun j hj => by rcases (show j = 0 ∨ j = 1 ∨ j = 2 ∨ j = 3 ∨ j = 4 ∨ j = 5 ∨ j = 6 ∨ j = 7 by omega) with rfl | rfl | rfl | rfl | rfl | rfl | rfl | rfl <;> rfl
/-! decode rows -/
theorem dX10_addWalker_0 : decode cX10_addWalker 0 = .ok (.aload_n 0, 1) := by decide +kernel
theorem dX10_addWalker_1 : decode cX10_addWalker 1 = .ok (.getfield 50, 3) := by decide +kernel
theorem dX10_addWalker_4 : decode cX10_addWalker 4 = .ok (.istore 4, 2) := by decide +kernel
theorem dX10_addWalker_6 : decode cX10_addWalker 6 = .ok (.iload 4, 2) := by decide +kernel
theorem dX10_addWalker_8 : decode cX10_addWalker 8 = .ok (.ifCond .lt 10, 3) := by decide +kernel
theorem dX10_addWalker_11 : decode cX10_addWalker 11 = .ok (.iload 4, 2) := by decide +kernel
theorem dX10_addWalker_13 : decode cX10_addWalker 13 = .ok (.bipush 8, 2) := by decide +kernel
theorem dX10_addWalker_15 : decode cX10_addWalker 15 = .ok (.if_icmp .lt 5, 3) := by decide +kernel
theorem dX10_addWalker_20 : decode cX10_addWalker 20 = .ok (.aload_n 0, 1) := by decide +kernel
theorem dX10_addWalker_21 : decode cX10_addWalker 21 = .ok (.getfield 46, 3) := by decide +kernel
theorem dX10_addWalker_24 : decode cX10_addWalker 24 = .ok (.iload 4, 2) := by decide +kernel
theorem dX10_addWalker_26 : decode cX10_addWalker 26 = .ok (.aaload, 1) := by decide +kernel
theorem dX10_addWalker_27 : decode cX10_addWalker 27 = .ok (.iload_n 1, 1) := by decide +kernel
theorem dX10_addWalker_28 : decode cX10_addWalker 28 = .ok (.iload_n 2, 1) := by decide +kernel
theorem dX10_addWalker_29 : decode cX10_addWalker 29 = .ok (.iload_n 3, 1) := by decide +kernel
theorem dX10_addWalker_30 : decode cX10_addWalker 30 = .ok (.invokevirtual 58, 3) := by decide +kernel
theorem dX10_addWalker_33 : decode cX10_addWalker 33 = .ok (.aload_n 0, 1) := by decide +kernel
theorem dX10_addWalker_34 : decode cX10_addWalker 34 = .ok (.getfield 10, 3) := by decide +kernel
theorem dX10_addWalker_37 : decode cX10_addWalker 37 = .ok (.iload_n 2, 1) := by decide +kernel
theorem dX10_addWalker_38 : decode cX10_addWalker 38 = .ok (.bipush 100, 2) := by decide +kernel
theorem dX10_addWalker_40 : decode cX10_addWalker 40 = .ok (.iload 4, 2) := by decide +kernel
theorem dX10_addWalker_42 : decode cX10_addWalker 42 = .ok (.iadd, 1) := by decide +kernel
theorem dX10_addWalker_43 : decode cX10_addWalker 43 = .ok (.invokevirtual 62, 3) := by decide +kernel
theorem dX10_addWalker_46 : decode cX10_addWalker 46 = .ok (.aload_n 0, 1) := by decide +kernel
theorem dX10_addWalker_47 : decode cX10_addWalker 47 = .ok (.dup, 1) := by decide +kernel
theorem dX10_addWalker_48 : decode cX10_addWalker 48 = .ok (.getfield 50, 3) := by decide +kernel
theorem dX10_addWalker_51 : decode cX10_addWalker 51 = .ok (.iconst 1, 1) := by decide +kernel
theorem dX10_addWalker_52 : decode cX10_addWalker 52 = .ok (.iadd, 1) := by decide +kernel
theorem dX10_addWalker_53 : decode cX10_addWalker 53 = .ok (.putfield 50, 3) := by decide +kernel
theorem dX10_addWalker_56 : decode cX10_addWalker 56 = .ok (.iload 4, 2) := by decide +kernel
theorem dX10_addWalker_58 : decode cX10_addWalker 58 = .ok (.ireturn, 1) := by decide +kernel
theorem dX10_countBumps_0 : decode cX10_countBumps 0 = .ok (.iconst 0, 1) := by decide +kernel
theorem dX10_countBumps_1 : decode cX10_countBumps 1 = .ok (.istore_n 1, 1) := by decide +kernel
theorem dX10_countBumps_2 : decode cX10_countBumps 2 = .ok (.iconst 0, 1) := by decide +kernel
theorem dX10_countBumps_3 : decode cX10_countBumps 3 = .ok (.istore_n 2, 1) := by decide +kernel
theorem dX10_countBumps_4 : decode cX10_countBumps 4 = .ok (.iload_n 2, 1) := by decide +kernel
theorem dX10_countBumps_5 : decode cX10_countBumps 5 = .ok (.aload_n 0, 1) := by decide +kernel
theorem dX10_countBumps_6 : decode cX10_countBumps 6 = .ok (.getfield 50, 3) := by decide +kernel
theorem dX10_countBumps_9 : decode cX10_countBumps 9 = .ok (.if_icmp .ge 27, 3) := by decide +kernel
theorem dX10_countBumps_36 : decode cX10_countBumps 36 = .ok (.iload_n 1, 1) := by decide +kernel
theorem dX10_countBumps_37 : decode cX10_countBumps 37 = .ok (.ireturn, 1) := by decide +kernel
theorem dX10_countClicks_0 : decode cX10_countClicks 0 = .ok (.iconst 0, 1) := by decide +kernel
theorem dX10_countClicks_1 : decode cX10_countClicks 1 = .ok (.istore_n 1, 1) := by decide +kernel
theorem dX10_countClicks_2 : decode cX10_countClicks 2 = .ok (.iconst 0, 1) := by decide +kernel
theorem dX10_countClicks_3 : decode cX10_countClicks 3 = .ok (.istore_n 2, 1) := by decide +kernel
theorem dX10_countClicks_4 : decode cX10_countClicks 4 = .ok (.iload_n 2, 1) := by decide +kernel
theorem dX10_countClicks_5 : decode cX10_countClicks 5 = .ok (.aload_n 0, 1) := by decide +kernel
theorem dX10_countClicks_6 : decode cX10_countClicks 6 = .ok (.getfield 50, 3) := by decide +kernel
theorem dX10_countClicks_9 : decode cX10_countClicks 9 = .ok (.if_icmp .ge 27, 3) := by decide +kernel
theorem dX10_countClicks_36 : decode cX10_countClicks 36 = .ok (.iload_n 1, 1) := by decide +kernel
theorem dX10_countClicks_37 : decode cX10_countClicks 37 = .ok (.ireturn, 1) := by decide +kernel
theorem dX10_hasWalker_0 : decode cX10_hasWalker 0 = .ok (.iload_n 1, 1) := by decide +kernel
theorem dX10_hasWalker_1 : decode cX10_hasWalker 1 = .ok (.ifCond .lt 21, 3) := by decide +kernel
theorem dX10_hasWalker_4 : decode cX10_hasWalker 4 = .ok (.iload_n 1, 1) := by decide +kernel
theorem dX10_hasWalker_5 : decode cX10_hasWalker 5 = .ok (.aload_n 0, 1) := by decide +kernel
theorem dX10_hasWalker_6 : decode cX10_hasWalker 6 = .ok (.getfield 50, 3) := by decide +kernel
theorem dX10_hasWalker_9 : decode cX10_hasWalker 9 = .ok (.if_icmp .ge 13, 3) := by decide +kernel
theorem dX10_hasWalker_12 : decode cX10_hasWalker 12 = .ok (.iload_n 1, 1) := by decide +kernel
theorem dX10_hasWalker_13 : decode cX10_hasWalker 13 = .ok (.bipush 8, 2) := by decide +kernel
theorem dX10_hasWalker_15 : decode cX10_hasWalker 15 = .ok (.if_icmp .ge 7, 3) := by decide +kernel
theorem dX10_hasWalker_18 : decode cX10_hasWalker 18 = .ok (.iconst 1, 1) := by decide +kernel
theorem dX10_hasWalker_19 : decode cX10_hasWalker 19 = .ok (.goto 4, 3) := by decide +kernel
theorem dX10_hasWalker_22 : decode cX10_hasWalker 22 = .ok (.iconst 0, 1) := by decide +kernel
theorem dX10_hasWalker_23 : decode cX10_hasWalker 23 = .ok (.ireturn, 1) := by decide +kernel
theorem dX10_init_0 : decode cX10_init 0 = .ok (.aload_n 0, 1) := by decide +kernel
theorem dX10_init_1 : decode cX10_init 1 = .ok (.invokespecial 1, 3) := by decide +kernel
theorem dX10_init_4 : decode cX10_init 4 = .ok (.aload_n 0, 1) := by decide +kernel
theorem dX10_init_5 : decode cX10_init 5 = .ok (.new 7, 3) := by decide +kernel
theorem dX10_init_8 : decode cX10_init 8 = .ok (.dup, 1) := by decide +kernel
theorem dX10_init_9 : decode cX10_init 9 = .ok (.invokespecial 9, 3) := by decide +kernel
theorem dX10_init_12 : decode cX10_init 12 = .ok (.putfield 10, 3) := by decide +kernel
theorem dX10_init_15 : decode cX10_init 15 = .ok (.aload_n 0, 1) := by decide +kernel
theorem dX10_init_16 : decode cX10_init 16 = .ok (.new 16, 3) := by decide +kernel
theorem dX10_init_19 : decode cX10_init 19 = .ok (.dup, 1) := by decide +kernel
theorem dX10_init_20 : decode cX10_init 20 = .ok (.invokespecial 18, 3) := by decide +kernel
theorem dX10_init_23 : decode cX10_init 23 = .ok (.putfield 19, 3) := by decide +kernel
theorem dX10_init_26 : decode cX10_init 26 = .ok (.aload_n 0, 1) := by decide +kernel
theorem dX10_init_27 : decode cX10_init 27 = .ok (.new 23, 3) := by decide +kernel
theorem dX10_init_30 : decode cX10_init 30 = .ok (.dup, 1) := by decide +kernel
theorem dX10_init_31 : decode cX10_init 31 = .ok (.invokespecial 25, 3) := by decide +kernel
theorem dX10_init_34 : decode cX10_init 34 = .ok (.putfield 26, 3) := by decide +kernel
theorem dX10_init_37 : decode cX10_init 37 = .ok (.aload_n 0, 1) := by decide +kernel
theorem dX10_init_38 : decode cX10_init 38 = .ok (.new 30, 3) := by decide +kernel
theorem dX10_init_41 : decode cX10_init 41 = .ok (.dup, 1) := by decide +kernel
theorem dX10_init_42 : decode cX10_init 42 = .ok (.bipush 48, 2) := by decide +kernel
theorem dX10_init_44 : decode cX10_init 44 = .ok (.invokespecial 34, 3) := by decide +kernel
theorem dX10_init_47 : decode cX10_init 47 = .ok (.putfield 37, 3) := by decide +kernel
theorem dX10_init_50 : decode cX10_init 50 = .ok (.aload_n 0, 1) := by decide +kernel
theorem dX10_init_51 : decode cX10_init 51 = .ok (.new 30, 3) := by decide +kernel
theorem dX10_init_54 : decode cX10_init 54 = .ok (.dup, 1) := by decide +kernel
theorem dX10_init_55 : decode cX10_init 55 = .ok (.bipush 24, 2) := by decide +kernel
theorem dX10_init_57 : decode cX10_init 57 = .ok (.invokespecial 34, 3) := by decide +kernel
theorem dX10_init_60 : decode cX10_init 60 = .ok (.putfield 41, 3) := by decide +kernel
theorem dX10_init_63 : decode cX10_init 63 = .ok (.aload_n 0, 1) := by decide +kernel
theorem dX10_init_64 : decode cX10_init 64 = .ok (.bipush 8, 2) := by decide +kernel
theorem dX10_init_66 : decode cX10_init 66 = .ok (.anewarray 44, 3) := by decide +kernel
theorem dX10_init_69 : decode cX10_init 69 = .ok (.putfield 46, 3) := by decide +kernel
theorem dX10_init_72 : decode cX10_init 72 = .ok (.aload_n 0, 1) := by decide +kernel
theorem dX10_init_73 : decode cX10_init 73 = .ok (.iconst 0, 1) := by decide +kernel
theorem dX10_init_74 : decode cX10_init 74 = .ok (.putfield 50, 3) := by decide +kernel
theorem dX10_init_77 : decode cX10_init 77 = .ok (.aload_n 0, 1) := by decide +kernel
theorem dX10_init_78 : decode cX10_init 78 = .ok (.iconst 0, 1) := by decide +kernel
theorem dX10_init_79 : decode cX10_init 79 = .ok (.putfield 54, 3) := by decide +kernel
theorem dX10_init_82 : decode cX10_init 82 = .ok (.iconst 0, 1) := by decide +kernel
theorem dX10_init_83 : decode cX10_init 83 = .ok (.istore_n 1, 1) := by decide +kernel
theorem dX10_init_84 : decode cX10_init 84 = .ok (.iload_n 1, 1) := by decide +kernel
theorem dX10_init_85 : decode cX10_init 85 = .ok (.bipush 8, 2) := by decide +kernel
theorem dX10_init_87 : decode cX10_init 87 = .ok (.if_icmp .ge 22, 3) := by decide +kernel
theorem dX10_init_90 : decode cX10_init 90 = .ok (.aload_n 0, 1) := by decide +kernel
theorem dX10_init_91 : decode cX10_init 91 = .ok (.getfield 46, 3) := by decide +kernel
theorem dX10_init_94 : decode cX10_init 94 = .ok (.iload_n 1, 1) := by decide +kernel
theorem dX10_init_95 : decode cX10_init 95 = .ok (.new 44, 3) := by decide +kernel
theorem dX10_init_98 : decode cX10_init 98 = .ok (.dup, 1) := by decide +kernel
theorem dX10_init_99 : decode cX10_init 99 = .ok (.invokespecial 57, 3) := by decide +kernel
theorem dX10_init_102 : decode cX10_init 102 = .ok (.aastore, 1) := by decide +kernel
theorem dX10_init_103 : decode cX10_init 103 = .ok (.iinc 1 1, 3) := by decide +kernel
theorem dX10_init_106 : decode cX10_init 106 = .ok (.goto (-22), 3) := by decide +kernel
theorem dX10_init_109 : decode cX10_init 109 = .ok (.return_, 1) := by decide +kernel
theorem dX10_passTenth_0 : decode cX10_passTenth 0 = .ok (.aload_n 0, 1) := by decide +kernel
theorem dX10_passTenth_1 : decode cX10_passTenth 1 = .ok (.dup, 1) := by decide +kernel
theorem dX10_passTenth_2 : decode cX10_passTenth 2 = .ok (.getfield 54, 3) := by decide +kernel
theorem dX10_passTenth_5 : decode cX10_passTenth 5 = .ok (.iconst 1, 1) := by decide +kernel
theorem dX10_passTenth_6 : decode cX10_passTenth 6 = .ok (.iadd, 1) := by decide +kernel
theorem dX10_passTenth_7 : decode cX10_passTenth 7 = .ok (.putfield 54, 3) := by decide +kernel
theorem dX10_passTenth_10 : decode cX10_passTenth 10 = .ok (.aload_n 0, 1) := by decide +kernel
theorem dX10_passTenth_11 : decode cX10_passTenth 11 = .ok (.getfield 10, 3) := by decide +kernel
theorem dX10_passTenth_14 : decode cX10_passTenth 14 = .ok (.aload_n 0, 1) := by decide +kernel
theorem dX10_passTenth_15 : decode cX10_passTenth 15 = .ok (.getfield 54, 3) := by decide +kernel
theorem dX10_passTenth_18 : decode cX10_passTenth 18 = .ok (.invokevirtual 141, 3) := by decide +kernel
theorem dX10_passTenth_21 : decode cX10_passTenth 21 = .ok (.iconst 0, 1) := by decide +kernel
theorem dX10_passTenth_22 : decode cX10_passTenth 22 = .ok (.istore_n 1, 1) := by decide +kernel
theorem dX10_passTenth_23 : decode cX10_passTenth 23 = .ok (.iload_n 1, 1) := by decide +kernel
theorem dX10_passTenth_24 : decode cX10_passTenth 24 = .ok (.aload_n 0, 1) := by decide +kernel
theorem dX10_passTenth_25 : decode cX10_passTenth 25 = .ok (.getfield 50, 3) := by decide +kernel
theorem dX10_passTenth_28 : decode cX10_passTenth 28 = .ok (.if_icmp .ge 32, 3) := by decide +kernel
theorem dX10_passTenth_60 : decode cX10_passTenth 60 = .ok (.return_, 1) := by decide +kernel
theorem dX10_takeFrom_0 : decode cX10_takeFrom 0 = .ok (.aload_n 0, 1) := by decide +kernel
theorem dX10_takeFrom_1 : decode cX10_takeFrom 1 = .ok (.getfield 10, 3) := by decide +kernel
theorem dX10_takeFrom_4 : decode cX10_takeFrom 4 = .ok (.aload_n 1, 1) := by decide +kernel
theorem dX10_takeFrom_5 : decode cX10_takeFrom 5 = .ok (.getfield 10, 3) := by decide +kernel
theorem dX10_takeFrom_8 : decode cX10_takeFrom 8 = .ok (.invokevirtual 184, 3) := by decide +kernel
theorem dX10_takeFrom_11 : decode cX10_takeFrom 11 = .ok (.aload_n 0, 1) := by decide +kernel
theorem dX10_takeFrom_12 : decode cX10_takeFrom 12 = .ok (.getfield 19, 3) := by decide +kernel
theorem dX10_takeFrom_15 : decode cX10_takeFrom 15 = .ok (.aload_n 1, 1) := by decide +kernel
theorem dX10_takeFrom_16 : decode cX10_takeFrom 16 = .ok (.getfield 19, 3) := by decide +kernel
theorem dX10_takeFrom_19 : decode cX10_takeFrom 19 = .ok (.invokevirtual 188, 3) := by decide +kernel
theorem dX10_takeFrom_22 : decode cX10_takeFrom 22 = .ok (.aload_n 0, 1) := by decide +kernel
theorem dX10_takeFrom_23 : decode cX10_takeFrom 23 = .ok (.getfield 26, 3) := by decide +kernel
theorem dX10_takeFrom_26 : decode cX10_takeFrom 26 = .ok (.aload_n 1, 1) := by decide +kernel
theorem dX10_takeFrom_27 : decode cX10_takeFrom 27 = .ok (.getfield 26, 3) := by decide +kernel
theorem dX10_takeFrom_30 : decode cX10_takeFrom 30 = .ok (.invokevirtual 191, 3) := by decide +kernel
theorem dX10_takeFrom_33 : decode cX10_takeFrom 33 = .ok (.aload_n 0, 1) := by decide +kernel
theorem dX10_takeFrom_34 : decode cX10_takeFrom 34 = .ok (.getfield 37, 3) := by decide +kernel
theorem dX10_takeFrom_37 : decode cX10_takeFrom 37 = .ok (.aload_n 1, 1) := by decide +kernel
theorem dX10_takeFrom_38 : decode cX10_takeFrom 38 = .ok (.getfield 37, 3) := by decide +kernel
theorem dX10_takeFrom_41 : decode cX10_takeFrom 41 = .ok (.invokevirtual 194, 3) := by decide +kernel
theorem dX10_takeFrom_44 : decode cX10_takeFrom 44 = .ok (.aload_n 0, 1) := by decide +kernel
theorem dX10_takeFrom_45 : decode cX10_takeFrom 45 = .ok (.getfield 41, 3) := by decide +kernel
theorem dX10_takeFrom_48 : decode cX10_takeFrom 48 = .ok (.aload_n 1, 1) := by decide +kernel
theorem dX10_takeFrom_49 : decode cX10_takeFrom 49 = .ok (.getfield 41, 3) := by decide +kernel
theorem dX10_takeFrom_52 : decode cX10_takeFrom 52 = .ok (.invokevirtual 194, 3) := by decide +kernel
theorem dX10_takeFrom_55 : decode cX10_takeFrom 55 = .ok (.aload_n 0, 1) := by decide +kernel
theorem dX10_takeFrom_56 : decode cX10_takeFrom 56 = .ok (.aload_n 1, 1) := by decide +kernel
theorem dX10_takeFrom_57 : decode cX10_takeFrom 57 = .ok (.getfield 50, 3) := by decide +kernel
theorem dX10_takeFrom_60 : decode cX10_takeFrom 60 = .ok (.putfield 50, 3) := by decide +kernel
theorem dX10_takeFrom_63 : decode cX10_takeFrom 63 = .ok (.aload_n 0, 1) := by decide +kernel
theorem dX10_takeFrom_64 : decode cX10_takeFrom 64 = .ok (.aload_n 1, 1) := by decide +kernel
theorem dX10_takeFrom_65 : decode cX10_takeFrom 65 = .ok (.getfield 54, 3) := by decide +kernel
theorem dX10_takeFrom_68 : decode cX10_takeFrom 68 = .ok (.putfield 54, 3) := by decide +kernel
theorem dX10_takeFrom_71 : decode cX10_takeFrom 71 = .ok (.iconst 0, 1) := by decide +kernel
theorem dX10_takeFrom_72 : decode cX10_takeFrom 72 = .ok (.istore_n 2, 1) := by decide +kernel
theorem dX10_takeFrom_73 : decode cX10_takeFrom 73 = .ok (.iload_n 2, 1) := by decide +kernel
theorem dX10_takeFrom_74 : decode cX10_takeFrom 74 = .ok (.aload_n 0, 1) := by decide +kernel
theorem dX10_takeFrom_75 : decode cX10_takeFrom 75 = .ok (.getfield 50, 3) := by decide +kernel
theorem dX10_takeFrom_78 : decode cX10_takeFrom 78 = .ok (.if_icmp .ge 30, 3) := by decide +kernel
theorem dX10_takeFrom_108 : decode cX10_takeFrom 108 = .ok (.return_, 1) := by decide +kernel
end
section
theorem lf_c_X10_hasWalker_0 (v : Int32) (c_1 : ¬ v < 0) (c_2 : ¬ 0 ≤ v) (c_3 : ¬ 8 ≤ v) : (1 : Int32) = 0 := by simp only [inR, Int32.le_iff_toInt_le, Int32.lt_iff_toInt_lt] at *; simp at *; omega
set_option maxHeartbeats 4000000 in
set_option maxRecDepth 100000 in
theorem c_X10_hasWalker (l : Launch) (G : va_G) (cy : Nat → ClassId) (sk : Nat → Nat) (sz : Nat) (lv : Nat) (st : Nat) (la : Nat) (le : Nat) (ta : Nat) (wa : Nat) (wk : Nat) (nw : Int32) (v : Int32)  : Met l yX10_hasWalker (wsO yX10_hasWalker cX10_hasWalker 2 (some .boolean)) ({ frames := 0, cells := 0, slots := 0, locals := 0 }) (va_Pc [.ref lv, .int v] (PR G cy sk sz [(lv, .inr (10, [.ref st, .ref la, .ref le, .ref ta, .ref wa, .ref wk, .int 0, .int nw]))])) (vp_Si (fun r => r = 0)) 0 0 (fun _ => False) := by
  refine mt (by decide) (Nat.le_of_ble_eq_true rfl) ?_
  intro p e s m below meth c ls hx hb hr hml hts hown hlocks hin hsz hP hE hD hl
  subst hsz
  have hl : lv_has ls 2 [(0, .ref lv), (1, .int v)] := hl
  refine lv_iload_n hx hb dX10_hasWalker_0 rfl (lv_at hl 1 rfl) ?_
  refine lv_if_lt (tgt := 22) hx hb dX10_hasWalker_1 (by decide) (fun c_1 => ?_) (fun c_1 => ?_)
  · refine lv_iconst (v := 0) hx hb dX10_hasWalker_22 (by decide) ?_
    exact W.zret (v := 0) hx hb hr rfl (fun t ht hW => ⟨0, rfl, rfl, ht⟩) (fun _ h => by cases h) dX10_hasWalker_23
  · refine lv_iload_n hx hb dX10_hasWalker_4 rfl (lv_at hl 1 rfl) ?_
    refine lv_aload_n hx hb dX10_hasWalker_5 rfl (lv_at hl 0 rfl) ?_
    refine va_get (D := G) (ci := 10) (v := .int 0) (C := RX10) (T := TX10) (N := 8) hx hb hts inB10 hown hE.1 hP 0 rfl rfl 6 (by decide) (hts _ m_324) (fun _ h9 => h9) rfl dX10_hasWalker_6 ?_
    refine lv_icmp_ge (tgt := 22) hx hb dX10_hasWalker_9 (by decide) (fun c_2 => ?_) (fun c_2 => ?_)
    · refine lv_iconst (v := 0) hx hb dX10_hasWalker_22 (by decide) ?_
      exact W.zret (v := 0) hx hb hr rfl (fun t ht hW => ⟨0, rfl, rfl, ht⟩) (fun _ h => by cases h) dX10_hasWalker_23
    · refine lv_iload_n hx hb dX10_hasWalker_12 rfl (lv_at hl 1 rfl) ?_
      refine lv_bipush (v := 8) hx hb dX10_hasWalker_13 (by decide) ?_
      refine lv_icmp_ge (tgt := 22) hx hb dX10_hasWalker_15 (by decide) (fun c_3 => ?_) (fun c_3 => ?_)
      · refine lv_iconst (v := 0) hx hb dX10_hasWalker_22 (by decide) ?_
        exact W.zret (v := 0) hx hb hr rfl (fun t ht hW => ⟨0, rfl, rfl, ht⟩) (fun _ h => by cases h) dX10_hasWalker_23
      · refine lv_iconst (v := 1) hx hb dX10_hasWalker_18 (by decide) ?_
        refine lv_goto (tgt := 23) hx hb dX10_hasWalker_19 (by decide) ?_
        exact W.zret (v := 1) hx hb hr rfl (fun t ht hW => ⟨1, rfl, (lf_c_X10_hasWalker_0 v c_1 c_2 c_3), ht⟩) (fun _ h => by cases h) dX10_hasWalker_23
set_option maxHeartbeats 4000000 in
set_option maxRecDepth 100000 in
theorem c_X10_countBumps (l : Launch) (G : va_G) (cy : Nat → ClassId) (sk : Nat → Nat) (sz : Nat) (lv : Nat) (st : Nat) (la : Nat) (le : Nat) (ta : Nat) (wa : Nat) (wk : Nat) (nw : Int32)  : Met l yX10_countBumps (wsO yX10_countBumps cX10_countBumps 3 (some .int)) ({ frames := 0, cells := 0, slots := 0, locals := 0 }) (va_Pc [.ref lv] (PR G cy sk sz [(lv, .inr (10, [.ref st, .ref la, .ref le, .ref ta, .ref wa, .ref wk, .int 0, .int nw]))])) (vp_Si (fun r => r = 0)) 0 0 (fun _ => False) := by
  refine mt (by decide) (Nat.le_of_ble_eq_true rfl) ?_
  intro p e s m below meth c ls hx hb hr hml hts hown hlocks hin hsz hP hE hD hl
  subst hsz
  have hl : lv_has ls 3 [(0, .ref lv)] := hl
  refine lv_iconst (v := 0) hx hb dX10_countBumps_0 (by decide) ?_
  refine lv_istore_n (lv' := [(1, .int 0), (0, .ref lv)]) hx hb dX10_countBumps_1 rfl hl (by decide) rfl (fun ls hl => ?_)
  refine lv_iconst (v := 0) hx hb dX10_countBumps_2 (by decide) ?_
  refine lv_istore_n (lv' := [(2, .int 0), (1, .int 0), (0, .ref lv)]) hx hb dX10_countBumps_3 rfl hl (by decide) rfl (fun ls hl => ?_)
  refine lv_iload_n hx hb dX10_countBumps_4 rfl (lv_at hl 0 rfl) ?_
  refine lv_aload_n hx hb dX10_countBumps_5 rfl (lv_at hl 2 rfl) ?_
  refine va_get (D := G) (ci := 10) (v := .int 0) (C := RX10) (T := TX10) (N := 8) hx hb hts inB10 hown hE.1 hP 0 rfl rfl 6 (by decide) (hts _ m_324) (fun _ h9 => h9) rfl dX10_countBumps_6 ?_
  refine lv_icmp_ge (tgt := 36) hx hb dX10_countBumps_9 (by decide) (fun _ => ?_) (fun h9 => absurd h9 (by decide))
  refine lv_iload_n hx hb dX10_countBumps_36 rfl (lv_at hl 1 rfl) ?_
  exact W.iret (v := 0) hx hb hr (fun t ht hW => ⟨0, rfl, rfl, ht⟩) (fun _ h => by cases h) dX10_countBumps_37
set_option maxHeartbeats 4000000 in
set_option maxRecDepth 100000 in
theorem c_X10_countClicks (l : Launch) (G : va_G) (cy : Nat → ClassId) (sk : Nat → Nat) (sz : Nat) (lv : Nat) (st : Nat) (la : Nat) (le : Nat) (ta : Nat) (wa : Nat) (wk : Nat) (nw : Int32)  : Met l yX10_countClicks (wsO yX10_countClicks cX10_countClicks 3 (some .int)) ({ frames := 0, cells := 0, slots := 0, locals := 0 }) (va_Pc [.ref lv] (PR G cy sk sz [(lv, .inr (10, [.ref st, .ref la, .ref le, .ref ta, .ref wa, .ref wk, .int 0, .int nw]))])) (vp_Si (fun r => r = 0)) 0 0 (fun _ => False) := by
  refine mt (by decide) (Nat.le_of_ble_eq_true rfl) ?_
  intro p e s m below meth c ls hx hb hr hml hts hown hlocks hin hsz hP hE hD hl
  subst hsz
  have hl : lv_has ls 3 [(0, .ref lv)] := hl
  refine lv_iconst (v := 0) hx hb dX10_countClicks_0 (by decide) ?_
  refine lv_istore_n (lv' := [(1, .int 0), (0, .ref lv)]) hx hb dX10_countClicks_1 rfl hl (by decide) rfl (fun ls hl => ?_)
  refine lv_iconst (v := 0) hx hb dX10_countClicks_2 (by decide) ?_
  refine lv_istore_n (lv' := [(2, .int 0), (1, .int 0), (0, .ref lv)]) hx hb dX10_countClicks_3 rfl hl (by decide) rfl (fun ls hl => ?_)
  refine lv_iload_n hx hb dX10_countClicks_4 rfl (lv_at hl 0 rfl) ?_
  refine lv_aload_n hx hb dX10_countClicks_5 rfl (lv_at hl 2 rfl) ?_
  refine va_get (D := G) (ci := 10) (v := .int 0) (C := RX10) (T := TX10) (N := 8) hx hb hts inB10 hown hE.1 hP 0 rfl rfl 6 (by decide) (hts _ m_324) (fun _ h9 => h9) rfl dX10_countClicks_6 ?_
  refine lv_icmp_ge (tgt := 36) hx hb dX10_countClicks_9 (by decide) (fun _ => ?_) (fun h9 => absurd h9 (by decide))
  refine lv_iload_n hx hb dX10_countClicks_36 rfl (lv_at hl 1 rfl) ?_
  exact W.iret (v := 0) hx hb hr (fun t ht hW => ⟨0, rfl, rfl, ht⟩) (fun _ h => by cases h) dX10_countClicks_37
def B_c_X10_passTenth (G : va_G) (cy : Nat → ClassId) (A : Nat → Prop) (lv : Nat) (st : Nat) (la : Nat) (le : Nat) (ta : Nat) (wa : Nat) (wk : Nat) (oc : Nat) (ki : Nat) (ce : Nat) (si : Nat) (sp : Nat) (k : Nat) (H : Heap) : Prop := va_P G classes [(lv, .inr (10, [.ref st, .ref la, .ref le, .ref ta, .ref wa, .ref wk, .int 0, .int (nI (k + 1))])), (st, .inr (7, [.ref oc, .ref ki, .ref ce, .ref si, .ref sp, .int 0]))] H ∧ va_D A [(lv, .inr (10, [.ref st, .ref la, .ref le, .ref ta, .ref wa, .ref wk, .int 0, .int (nI (k + 1))])), (st, .inr (7, [.ref oc, .ref ki, .ref ce, .ref si, .ref sp, .int 0]))]
set_option maxHeartbeats 4000000 in
set_option maxRecDepth 100000 in
theorem c_X10_passTenth (l : Launch) (G : va_G) (cy : Nat → ClassId) (sk : Nat → Nat) (sz : Nat) (lv : Nat) (st : Nat) (la : Nat) (le : Nat) (ta : Nat) (wa : Nat) (wk : Nat) (oc : Nat) (ki : Nat) (ce : Nat) (si : Nat) (sp : Nat) (k : Nat)  : Met l yX10_passTenth (wsO yX10_passTenth cX10_passTenth 2 none) ({ frames := 1, cells := 0, slots := 0, locals := 23 }) (va_Pc [.ref lv] (PR G cy sk sz [(lv, .inr (10, [.ref st, .ref la, .ref le, .ref ta, .ref wa, .ref wk, .int 0, .int (nI k)])), (st, .inr (7, [.ref oc, .ref ki, .ref ce, .ref si, .ref sp, .int 0]))])) (va_Qv (fun (_ : Unit) => True) (fun _ t => B_c_X10_passTenth G cy (va_A [(lv, .inr (10, [.ref st, .ref la, .ref le, .ref ta, .ref wa, .ref wk, .int 0, .int (nI k)])), (st, .inr (7, [.ref oc, .ref ki, .ref ce, .ref si, .ref sp, .int 0]))] sz) lv st la le ta wa wk oc ki ce si sp k t.heap) (va_A [(lv, .inr (10, [.ref st, .ref la, .ref le, .ref ta, .ref wa, .ref wk, .int 0, .int (nI k)])), (st, .inr (7, [.ref oc, .ref ki, .ref ce, .ref si, .ref sp, .int 0]))] sz)) 0 0 (va_A [(lv, .inr (10, [.ref st, .ref la, .ref le, .ref ta, .ref wa, .ref wk, .int 0, .int (nI k)])), (st, .inr (7, [.ref oc, .ref ki, .ref ce, .ref si, .ref sp, .int 0]))] sz) := by
  refine mt (by decide) (Nat.le_of_ble_eq_true rfl) ?_
  intro p e s m below meth c ls hx hb hr hml hts hown hlocks hin hsz hP hE hD hl
  subst hsz
  have hl : lv_has ls 2 [(0, .ref lv)] := hl
  have hD := hD.self (sz := s.heap.size)
  generalize hAe : va_A [(lv, .inr (10, [.ref st, .ref la, .ref le, .ref ta, .ref wa, .ref wk, .int 0, .int (nI k)])), (st, .inr (7, [.ref oc, .ref ki, .ref ce, .ref si, .ref sp, .int 0]))] s.heap.size = A at hD ⊢
  have hA : ∀ q : Nat, s.heap.size ≤ q → A q := fun q h => by rw [← hAe]; exact Or.inr h
  have hS : va_S A s.heap s.heap [] := va_S.rf
  refine lv_aload_n hx hb dX10_passTenth_0 rfl (lv_at hl 0 rfl) ?_
  refine lv_dup hx hb dX10_passTenth_1 rfl ?_
  refine va_get (D := G) (ci := 10) (v := .int (nI k)) (C := RX10) (T := TX10) (N := 8) hx hb hts inB10 hown hE.1 hP 0 rfl rfl 7 (by decide) (hts _ m_326) (fun _ h9 => h9) rfl dX10_passTenth_2 ?_
  refine lv_iconst (v := 1) hx hb dX10_passTenth_5 (by decide) ?_
  refine lv_iadd hx hb dX10_passTenth_6 ?_
  refine tp (v := (nI (k + 1))) (nI_1 k) ?_
  refine va_put (D := G) (ci := 10) (v := .int (nI (k + 1))) (ty := .int) (C := RX10) (T := TX10) (N := 8) hx hb hts inB10 tyX10 tyX10_ok nmX10 hown hE.1 hP hD hS 0 rfl rfl 7 (by decide) (hts _ m_326) (fun _ h9 => h9) rfl (by decide +kernel) rfl rfl (Nat.le_of_ble_eq_true rfl) dX10_passTenth_7 (fun H locs hP hD hS => ?_)
  have hP : va_P G classes [(lv, .inr (10, [.ref st, .ref la, .ref le, .ref ta, .ref wa, .ref wk, .int 0, .int (nI (k + 1))])), (st, .inr (7, [.ref oc, .ref ki, .ref ce, .ref si, .ref sp, .int 0]))] H := hP
  have hD : va_D A [(lv, .inr (10, [.ref st, .ref la, .ref le, .ref ta, .ref wa, .ref wk, .int 0, .int (nI (k + 1))])), (st, .inr (7, [.ref oc, .ref ki, .ref ce, .ref si, .ref sp, .int 0]))] := hD
  refine lv_aload_n hx hb dX10_passTenth_10 rfl (lv_at hl 0 rfl) ?_
  refine va_get (D := G) (ci := 10) (v := .ref st) (C := RX10) (T := TX10) (N := 8) hx hb hts inB10 hown hE.1 hP 0 rfl rfl 0 (by decide) (hts _ m_309) (fun _ h9 => h9) rfl dX10_passTenth_11 ?_
  refine lv_aload_n hx hb dX10_passTenth_14 rfl (lv_at hl 0 rfl) ?_
  refine va_get (D := G) (ci := 10) (v := .int (nI (k + 1))) (C := RX10) (T := TX10) (N := 8) hx hb hts inB10 hown hE.1 hP 0 rfl rfl 7 (by decide) (hts _ m_326) (fun _ h9 => h9) rfl dX10_passTenth_15 ?_
  refine rVv (rest := []) hx hb hml hown hts hE (c_X7_letThingsGo l G cy sk H.size st oc ki ce si sp (nI (k + 1))) kV_X7_letThingsGo m_1029 rfl rfl ⟨(Nat.le_of_ble_eq_true rfl), (Nat.le_of_ble_eq_true rfl)⟩ hP hD 1 rfl rfl rfl [1] rfl rfl rfl rfl hl.1 (Nat.le_of_ble_eq_true rfl) dX10_passTenth_18 ⟨(Nat.le_of_ble_eq_true rfl), (Nat.le_of_ble_eq_true rfl)⟩ (fun _ => ?_)
  refine lv_iconst (v := 0) hx hb dX10_passTenth_21 (by decide) ?_
  refine lv_istore_n (lv' := [(1, .int 0), (0, .ref lv)]) hx hb dX10_passTenth_22 rfl hl (by decide) rfl (fun ls hl => ?_)
  refine lv_iload_n hx hb dX10_passTenth_23 rfl (lv_at hl 0 rfl) ?_
  refine lv_aload_n hx hb dX10_passTenth_24 rfl (lv_at hl 1 rfl) ?_
  refine va_get (D := G) (ci := 10) (v := .int 0) (C := RX10) (T := TX10) (N := 8) hx hb hts inB10 hown hE.1 hP 0 rfl rfl 6 (by decide) (hts _ m_324) (fun _ h9 => h9) rfl dX10_passTenth_25 ?_
  refine lv_icmp_ge (tgt := 60) hx hb dX10_passTenth_28 (by decide) (fun _ => ?_) (fun h9 => absurd h9 (by decide))
  have hP9 := P_cut (wc := [(lv, .inr (10, [.ref st, .ref la, .ref le, .ref ta, .ref wa, .ref wk, .int 0, .int (nI (k + 1))])), (st, .inr (7, [.ref oc, .ref ki, .ref ce, .ref si, .ref sp, .int 0]))]) hP [0, 1] rfl
  have hD9 := hD.sub (ws' := [(lv, .inr (10, [.ref st, .ref la, .ref le, .ref ta, .ref wa, .ref wk, .int 0, .int (nI (k + 1))])), (st, .inr (7, [.ref oc, .ref ki, .ref ce, .ref si, .ref sp, .int 0]))]) [0, 1] (by decide) rfl
  refine W.widen (k := 0) (n := 0) (by first | exact Nat.le_of_ble_eq_true rfl | omega) (by first | exact Nat.le_of_ble_eq_true rfl | omega) ?_
  exact W.vret hx hb hr (fun t ht hW => ⟨⟨(), rfl, trivial, by dsimp only; rw [ht]; exact ⟨hP9, hD9⟩⟩, hS.F ht⟩) hS.2.2 dX10_passTenth_60
set_option maxHeartbeats 4000000 in
set_option maxRecDepth 100000 in
theorem c_X10_addWalker (l : Launch) (G : va_G) (cy : Nat → ClassId) (sk : Nat → Nat) (sz : Nat) (lv : Nat) (st : Nat) (la : Nat) (le : Nat) (ta : Nat) (wa : Nat) (wk : Nat) (oc : Nat) (ki : Nat) (ce : Nat) (si : Nat) (sp : Nat) (foc : Nat → Int32) (gw : Nat → Option Nat) (w0 : Nat) (wy : Nat) (wn : Nat) (fwy : Nat → Int32) (fwn : Nat → Int32) (a : Int32) (b : Int32) (d : Int32) (hw : gw 0 = some w0) : Met l yX10_addWalker (wsO yX10_addWalker cX10_addWalker 5 (some .int)) ({ frames := 2, cells := 0, slots := 0, locals := 42 }) (va_Pc [.ref lv, .int a, .int b, .int d] (PR G cy sk sz [(lv, .inr (10, [.ref st, .ref la, .ref le, .ref ta, .ref wa, .ref wk, .int 0, .int 0])), (st, .inr (7, [.ref oc, .ref ki, .ref ce, .ref si, .ref sp, .int 0])), (oc, .inl (cy 0, 192, .inl foc)), (wk, .inl (cy 4, 8, .inr (.inr (.inr (.inr gw))))), (w0, .inr (9, [.int 0, .int 0, .int 0, .int 5, .int 60, .int 0, .int 0, .int 0, .int 0, .ref wy, .ref wn])), (wy, .inl (cy 0, 192, .inl fwy)), (wn, .inl (cy 0, 192, .inl fwn))])) (va_Qi (fun r (_ : Unit) => r = 0) (fun _ _ => True) (va_A [(lv, .inr (10, [.ref st, .ref la, .ref le, .ref ta, .ref wa, .ref wk, .int 0, .int 0])), (st, .inr (7, [.ref oc, .ref ki, .ref ce, .ref si, .ref sp, .int 0])), (oc, .inl (cy 0, 192, .inl foc)), (wk, .inl (cy 4, 8, .inr (.inr (.inr (.inr gw))))), (w0, .inr (9, [.int 0, .int 0, .int 0, .int 5, .int 60, .int 0, .int 0, .int 0, .int 0, .ref wy, .ref wn])), (wy, .inl (cy 0, 192, .inl fwy)), (wn, .inl (cy 0, 192, .inl fwn))] sz)) 0 0 (va_A [(lv, .inr (10, [.ref st, .ref la, .ref le, .ref ta, .ref wa, .ref wk, .int 0, .int 0])), (st, .inr (7, [.ref oc, .ref ki, .ref ce, .ref si, .ref sp, .int 0])), (oc, .inl (cy 0, 192, .inl foc)), (wk, .inl (cy 4, 8, .inr (.inr (.inr (.inr gw))))), (w0, .inr (9, [.int 0, .int 0, .int 0, .int 5, .int 60, .int 0, .int 0, .int 0, .int 0, .ref wy, .ref wn])), (wy, .inl (cy 0, 192, .inl fwy)), (wn, .inl (cy 0, 192, .inl fwn))] sz) := by
  refine mt (by decide) (Nat.le_of_ble_eq_true rfl) ?_
  intro p e s m below meth c ls hx hb hr hml hts hown hlocks hin hsz hP hE hD hl
  subst hsz
  have hl : lv_has ls 5 [(0, .ref lv), (1, .int a), (2, .int b), (3, .int d)] := hl
  have hD := hD.self (sz := s.heap.size)
  generalize hAe : va_A [(lv, .inr (10, [.ref st, .ref la, .ref le, .ref ta, .ref wa, .ref wk, .int 0, .int 0])), (st, .inr (7, [.ref oc, .ref ki, .ref ce, .ref si, .ref sp, .int 0])), (oc, .inl (cy 0, 192, .inl foc)), (wk, .inl (cy 4, 8, .inr (.inr (.inr (.inr gw))))), (w0, .inr (9, [.int 0, .int 0, .int 0, .int 5, .int 60, .int 0, .int 0, .int 0, .int 0, .ref wy, .ref wn])), (wy, .inl (cy 0, 192, .inl fwy)), (wn, .inl (cy 0, 192, .inl fwn))] s.heap.size = A at hD ⊢
  have hA : ∀ q : Nat, s.heap.size ≤ q → A q := fun q h => by rw [← hAe]; exact Or.inr h
  have hS : va_S A s.heap s.heap [] := va_S.rf
  refine lv_aload_n hx hb dX10_addWalker_0 rfl (lv_at hl 0 rfl) ?_
  refine va_get (D := G) (ci := 10) (v := .int 0) (C := RX10) (T := TX10) (N := 8) hx hb hts inB10 hown hE.1 hP 0 rfl rfl 6 (by decide) (hts _ m_324) (fun _ h9 => h9) rfl dX10_addWalker_1 ?_
  refine lv_istore (lv' := [(4, .int 0), (0, .ref lv), (1, .int a), (2, .int b), (3, .int d)]) hx hb dX10_addWalker_4 hl (by decide) rfl (fun ls hl => ?_)
  refine lv_iload hx hb dX10_addWalker_6 (lv_at hl 0 rfl) ?_
  refine lv_if_lt (tgt := 18) hx hb dX10_addWalker_8 (by decide) (fun h9 => absurd h9 (by decide)) (fun _ => ?_)
  refine lv_iload hx hb dX10_addWalker_11 (lv_at hl 0 rfl) ?_
  refine lv_bipush (v := 8) hx hb dX10_addWalker_13 (by decide) ?_
  refine lv_icmp_lt (tgt := 20) hx hb dX10_addWalker_15 (by decide) (fun _ => ?_) (fun h9 => absurd h9 (by decide))
  refine lv_aload_n hx hb dX10_addWalker_20 rfl (lv_at hl 1 rfl) ?_
  refine va_get (D := G) (ci := 10) (v := .ref wk) (C := RX10) (T := TX10) (N := 8) hx hb hts inB10 hown hE.1 hP 0 rfl rfl 5 (by decide) (hts _ m_321) (fun _ h9 => h9) rfl dX10_addWalker_21 ?_
  refine lv_iload hx hb dX10_addWalker_24 (lv_at hl 0 rfl) ?_
  refine va_aldq hx hb hE.1 hP 3 4 rfl rfl (vinL (by decide)) dX10_addWalker_26 ?_
  refine tpv (v := .ref w0) (by show va_rf (gw 0) = _; rw [hw]; rfl) ?_
  refine lv_iload_n hx hb dX10_addWalker_27 rfl (lv_at hl 2 rfl) ?_
  refine lv_iload_n hx hb dX10_addWalker_28 rfl (lv_at hl 3 rfl) ?_
  refine lv_iload_n hx hb dX10_addWalker_29 rfl (lv_at hl 4 rfl) ?_
  refine wVv (B := (fun _ => True)) (wr := [(lv, .inr (10, [.ref st, .ref la, .ref le, .ref ta, .ref wa, .ref wk, .int 0, .int 0])), (st, .inr (7, [.ref oc, .ref ki, .ref ce, .ref si, .ref sp, .int 0])), (oc, .inl (cy 0, 192, .inl foc)), (wk, .inl (cy 4, 8, .inr (.inr (.inr (.inr gw)))))]) (rest := []) hx hb hml hown hts hE (c_X9_begin l G cy sk s.heap.size w0 wy wn fwy fwn a b d) kV_X9_begin m_600 rfl rfl ⟨(Nat.le_of_ble_eq_true rfl), (Nat.le_of_ble_eq_true rfl)⟩ hP hD hS hA 4 rfl rfl rfl [4, 5, 6] [0, 1, 2, 3] rfl rfl rfl rfl (by decide) rfl rfl hl.1 (Nat.le_of_ble_eq_true rfl) dX10_addWalker_30 ⟨(Nat.le_of_ble_eq_true rfl), (Nat.le_of_ble_eq_true rfl)⟩ (fun H locs haf hS => ?_)
  obtain ⟨-, -, hP, hD⟩ := haf
  have hP : va_P G classes [(lv, .inr (10, [.ref st, .ref la, .ref le, .ref ta, .ref wa, .ref wk, .int 0, .int 0])), (st, .inr (7, [.ref oc, .ref ki, .ref ce, .ref si, .ref sp, .int 0])), (oc, .inl (cy 0, 192, .inl foc)), (wk, .inl (cy 4, 8, .inr (.inr (.inr (.inr gw)))))] H := hP
  have hD : va_D A [(lv, .inr (10, [.ref st, .ref la, .ref le, .ref ta, .ref wa, .ref wk, .int 0, .int 0])), (st, .inr (7, [.ref oc, .ref ki, .ref ce, .ref si, .ref sp, .int 0])), (oc, .inl (cy 0, 192, .inl foc)), (wk, .inl (cy 4, 8, .inr (.inr (.inr (.inr gw)))))] := hD
  refine lv_aload_n hx hb dX10_addWalker_33 rfl (lv_at hl 1 rfl) ?_
  refine va_get (D := G) (ci := 10) (v := .ref st) (C := RX10) (T := TX10) (N := 8) hx hb hts inB10 hown hE.1 hP 0 rfl rfl 0 (by decide) (hts _ m_309) (fun _ h9 => h9) rfl dX10_addWalker_34 ?_
  refine lv_iload_n hx hb dX10_addWalker_37 rfl (lv_at hl 3 rfl) ?_
  refine lv_bipush (v := 100) hx hb dX10_addWalker_38 (by decide) ?_
  refine lv_iload hx hb dX10_addWalker_40 (lv_at hl 0 rfl) ?_
  refine lv_iadd hx hb dX10_addWalker_42 ?_
  refine tp (v := 100) (by decide) ?_
  refine wVv (B := (B_c_X7_settle G cy (va_A [(st, .inr (7, [.ref oc, .ref ki, .ref ce, .ref si, .ref sp, .int 0])), (oc, .inl (cy 0, 192, .inl foc))] H.size) st oc ki ce si sp foc 0 b 100)) (wr := [(lv, .inr (10, [.ref st, .ref la, .ref le, .ref ta, .ref wa, .ref wk, .int 0, .int 0])), (wk, .inl (cy 4, 8, .inr (.inr (.inr (.inr gw)))))]) (rest := []) hx hb hml hown hts hE (c_X7_settle l G cy sk H.size st oc ki ce si sp foc 0 b 100) kV_X7_settle m_604 rfl rfl ⟨(Nat.le_of_ble_eq_true rfl), (Nat.le_of_ble_eq_true rfl)⟩ hP hD hS hA 1 rfl rfl rfl [1, 2] [0, 3] rfl rfl rfl rfl (by decide) rfl rfl hl.1 (Nat.le_of_ble_eq_true rfl) dX10_addWalker_43 ⟨(Nat.le_of_ble_eq_true rfl), (Nat.le_of_ble_eq_true rfl)⟩ (fun H locs haf hS => ?_)
  obtain ⟨xf3, hP1, hD1⟩ := haf.1
  obtain ⟨hP, hD⟩ := haf.2.1 _ hP1 hD1
  have hP : va_P G classes [(lv, .inr (10, [.ref st, .ref la, .ref le, .ref ta, .ref wa, .ref wk, .int 0, .int 0])), (wk, .inl (cy 4, 8, .inr (.inr (.inr (.inr gw))))), (st, .inr (7, [.ref oc, .ref ki, .ref ce, .ref si, .ref sp, .int 0])), (oc, .inl (cy 0, 192, .inl xf3))] H := hP
  have hD : va_D A [(lv, .inr (10, [.ref st, .ref la, .ref le, .ref ta, .ref wa, .ref wk, .int 0, .int 0])), (wk, .inl (cy 4, 8, .inr (.inr (.inr (.inr gw))))), (st, .inr (7, [.ref oc, .ref ki, .ref ce, .ref si, .ref sp, .int 0])), (oc, .inl (cy 0, 192, .inl xf3))] := hD
  refine lv_aload_n hx hb dX10_addWalker_46 rfl (lv_at hl 1 rfl) ?_
  refine lv_dup hx hb dX10_addWalker_47 rfl ?_
  refine va_get (D := G) (ci := 10) (v := .int 0) (C := RX10) (T := TX10) (N := 8) hx hb hts inB10 hown hE.1 hP 0 rfl rfl 6 (by decide) (hts _ m_324) (fun _ h9 => h9) rfl dX10_addWalker_48 ?_
  refine lv_iconst (v := 1) hx hb dX10_addWalker_51 (by decide) ?_
  refine lv_iadd hx hb dX10_addWalker_52 ?_
  refine tp (v := 1) (by decide) ?_
  refine va_put (D := G) (ci := 10) (v := .int 1) (ty := .int) (C := RX10) (T := TX10) (N := 8) hx hb hts inB10 tyX10 tyX10_ok nmX10 hown hE.1 hP hD hS 0 rfl rfl 6 (by decide) (hts _ m_324) (fun _ h9 => h9) rfl (by decide +kernel) rfl rfl (Nat.le_of_ble_eq_true rfl) dX10_addWalker_53 (fun H locs hP hD hS => ?_)
  have hP : va_P G classes [(lv, .inr (10, [.ref st, .ref la, .ref le, .ref ta, .ref wa, .ref wk, .int 1, .int 0])), (wk, .inl (cy 4, 8, .inr (.inr (.inr (.inr gw))))), (st, .inr (7, [.ref oc, .ref ki, .ref ce, .ref si, .ref sp, .int 0])), (oc, .inl (cy 0, 192, .inl xf3))] H := hP
  have hD : va_D A [(lv, .inr (10, [.ref st, .ref la, .ref le, .ref ta, .ref wa, .ref wk, .int 1, .int 0])), (wk, .inl (cy 4, 8, .inr (.inr (.inr (.inr gw))))), (st, .inr (7, [.ref oc, .ref ki, .ref ce, .ref si, .ref sp, .int 0])), (oc, .inl (cy 0, 192, .inl xf3))] := hD
  refine lv_iload hx hb dX10_addWalker_56 (lv_at hl 0 rfl) ?_
  refine W.widen (k := 0) (n := 0) (by first | exact Nat.le_of_ble_eq_true rfl | omega) (by first | exact Nat.le_of_ble_eq_true rfl | omega) ?_
  exact W.iret (v := 0) hx hb hr (fun t ht hW => ⟨⟨0, (), rfl, rfl, trivial⟩, hS.F ht⟩) hS.2.2 dX10_addWalker_58
def B_c_X10_init (G : va_G) (cy : Nat → ClassId) (A : Nat → Prop) (h0 : Nat) (H : Heap) : Prop := ∃ (st : Nat) (oc : Nat) (ki : Nat) (ce : Nat) (si : Nat) (sp : Nat) (la : Nat) (ld : Nat) (sr : Nat) (tx : Nat) (vl : Nat) (f0 : Nat) (f1 : Nat) (f2 : Nat) (c0 : Nat) (c1 : Nat) (c2 : Nat) (k0 : Nat) (k1 : Nat) (k2 : Nat) (le : Nat) (te : Nat) (ne : Nat) (mi : Nat) (tr : Nat) (be : Nat) (rta7 : Nat) (rba7 : Nat) (ta : Nat) (rta : Nat) (wa : Nat) (rwa : Nat) (wk : Nat) (w0 : Nat) (wy : Nat) (wn : Nat) (foc : Nat → Int32) (fl : Nat → Int32) (gt : Nat → Option Nat) (gw : Nat → Option Nat), (∀ j, j < 192 → foc j = (-1)) ∧ (∀ j, j < 5 → fl j = 50) ∧ (gt 0 = some f0) ∧ (gt 1 = some f1) ∧ (gt 2 = some f2) ∧ (gw 0 = some w0) ∧ va_P G classes [(h0, .inr (10, [.ref st, .ref la, .ref le, .ref ta, .ref wa, .ref wk, .int 0, .int 0])), (st, .inr (7, [.ref oc, .ref ki, .ref ce, .ref si, .ref sp, .int 0])), (oc, .inl (cy 0, 192, .inl foc)), (ki, .inl (cy 0, 40, .inl (fun _ => 0))), (ce, .inl (cy 0, 40, .inl (fun _ => 0))), (si, .inl (cy 0, 40, .inl (fun _ => 0))), (sp, .inl (cy 0, 40, .inl (fun _ => 0))), (la, .inr (2, [.int 5, .int 9, .int 0, .ref ld, .ref sr, .ref tx, .ref vl])), (ld, .inl (cy 0, 5, .inl fl)), (sr, .inl (cy 0, 5, .inl (fun _ => 0))), (tx, .inl (cy 3, 3, .inr (.inr (.inr (.inr gt))))), (f0, .inr (1, [.ref c0, .ref k0, .int 0])), (c0, .inl (cy 0, 48, .inl (fun _ => 0))), (f1, .inr (1, [.ref c1, .ref k1, .int 0])), (c1, .inl (cy 0, 48, .inl (fun _ => 0))), (f2, .inr (1, [.ref c2, .ref k2, .int 0])), (c2, .inl (cy 0, 48, .inl (fun _ => 0))), (le, .inr (3, [.ref te, .ref ne, .ref mi, .int 0, .ref tr, .ref be, .int 0, .int 0, .int 0])), (te, .inl (cy 0, 7, .inl (fun _ => 0))), (ne, .inl (cy 0, 7, .inl (fun _ => 0))), (mi, .inl (cy 0, 7, .inl (fun _ => 0))), (tr, .inr (5, [.ref rta7, .int 0])), (rta7, .inl (cy 0, 7, .inl (fun _ => 0))), (be, .inr (5, [.ref rba7, .int 0])), (rba7, .inl (cy 0, 7, .inl (fun _ => 0))), (ta, .inr (5, [.ref rta, .int 0])), (rta, .inl (cy 0, 48, .inl (fun _ => 0))), (wa, .inr (5, [.ref rwa, .int 0])), (rwa, .inl (cy 0, 24, .inl (fun _ => 0))), (wk, .inl (cy 4, 8, .inr (.inr (.inr (.inr gw))))), (w0, .inr (9, [.int 0, .int 0, .int 0, .int 5, .int 60, .int 0, .int 0, .int 0, .int 0, .ref wy, .ref wn])), (wy, .inl (cy 0, 192, .inl (fun _ => 0))), (wn, .inl (cy 0, 192, .inl (fun _ => 0)))] H ∧ va_D A [(h0, .inr (10, [.ref st, .ref la, .ref le, .ref ta, .ref wa, .ref wk, .int 0, .int 0])), (st, .inr (7, [.ref oc, .ref ki, .ref ce, .ref si, .ref sp, .int 0])), (oc, .inl (cy 0, 192, .inl foc)), (ki, .inl (cy 0, 40, .inl (fun _ => 0))), (ce, .inl (cy 0, 40, .inl (fun _ => 0))), (si, .inl (cy 0, 40, .inl (fun _ => 0))), (sp, .inl (cy 0, 40, .inl (fun _ => 0))), (la, .inr (2, [.int 5, .int 9, .int 0, .ref ld, .ref sr, .ref tx, .ref vl])), (ld, .inl (cy 0, 5, .inl fl)), (sr, .inl (cy 0, 5, .inl (fun _ => 0))), (tx, .inl (cy 3, 3, .inr (.inr (.inr (.inr gt))))), (f0, .inr (1, [.ref c0, .ref k0, .int 0])), (c0, .inl (cy 0, 48, .inl (fun _ => 0))), (f1, .inr (1, [.ref c1, .ref k1, .int 0])), (c1, .inl (cy 0, 48, .inl (fun _ => 0))), (f2, .inr (1, [.ref c2, .ref k2, .int 0])), (c2, .inl (cy 0, 48, .inl (fun _ => 0))), (le, .inr (3, [.ref te, .ref ne, .ref mi, .int 0, .ref tr, .ref be, .int 0, .int 0, .int 0])), (te, .inl (cy 0, 7, .inl (fun _ => 0))), (ne, .inl (cy 0, 7, .inl (fun _ => 0))), (mi, .inl (cy 0, 7, .inl (fun _ => 0))), (tr, .inr (5, [.ref rta7, .int 0])), (rta7, .inl (cy 0, 7, .inl (fun _ => 0))), (be, .inr (5, [.ref rba7, .int 0])), (rba7, .inl (cy 0, 7, .inl (fun _ => 0))), (ta, .inr (5, [.ref rta, .int 0])), (rta, .inl (cy 0, 48, .inl (fun _ => 0))), (wa, .inr (5, [.ref rwa, .int 0])), (rwa, .inl (cy 0, 24, .inl (fun _ => 0))), (wk, .inl (cy 4, 8, .inr (.inr (.inr (.inr gw))))), (w0, .inr (9, [.int 0, .int 0, .int 0, .int 5, .int 60, .int 0, .int 0, .int 0, .int 0, .ref wy, .ref wn])), (wy, .inl (cy 0, 192, .inl (fun _ => 0))), (wn, .inl (cy 0, 192, .inl (fun _ => 0)))]
set_option maxHeartbeats 4000000 in
set_option maxRecDepth 100000 in
theorem c_X10_init (l : Launch) (G : va_G) (cy : Nat → ClassId) (sk : Nat → Nat) (sz : Nat) (h0 : Nat)  : Met l yX10_init (wsO yX10_init cX10_init 2 none) ({ frames := 3, cells := 57, slots := 4286, locals := 55 }) (va_Pc [.ref h0] (PR G cy sk sz [(h0, .inr (10, [.null, .null, .null, .null, .null, .null, .int 0, .int 0]))])) (va_Qv (fun (_ : Unit) => True) (fun _ t => B_c_X10_init G cy (va_A [(h0, .inr (10, [.null, .null, .null, .null, .null, .null, .int 0, .int 0]))] sz) h0 t.heap) (va_A [(h0, .inr (10, [.null, .null, .null, .null, .null, .null, .int 0, .int 0]))] sz)) 57 4286 (va_A [(h0, .inr (10, [.null, .null, .null, .null, .null, .null, .int 0, .int 0]))] sz) := by
  refine mt (by decide) (Nat.le_of_ble_eq_true rfl) ?_
  intro p e s m below meth c ls hx hb hr hml hts hown hlocks hin hsz hP hE hD hl
  subst hsz
  have hl : lv_has ls 2 [(0, .ref h0)] := hl
  have hD := hD.self (sz := s.heap.size)
  generalize hAe : va_A [(h0, .inr (10, [.null, .null, .null, .null, .null, .null, .int 0, .int 0]))] s.heap.size = A at hD ⊢
  have hA : ∀ q : Nat, s.heap.size ≤ q → A q := fun q h => by rw [← hAe]; exact Or.inr h
  have hS : va_S A s.heap s.heap [] := va_S.rf
  refine lv_aload_n hx hb dX10_init_0 rfl (lv_at hl 0 rfl) ?_
  refine W.objInit hx hb hown (hts _ m_114) (hts _ m_107) (hts _ m_108) rfl (by rw [hml]; exact hl.1) rfl dX10_init_1 (Nat.le_of_ble_eq_true rfl) (Nat.le_of_ble_eq_true rfl) ?_
  refine W.eq (g2 := F0 m 4 ls []) rfl ?_
  refine lv_aload_n hx hb dX10_init_4 rfl (lv_at hl 0 rfl) ?_
  refine va_new (ci := 7) (fs := [.null, .null, .null, .null, .null, .int 0]) (C := RX7) (T := TX7) (N := 6) hx hb hts inB7 tyX7 tyX7_ok hown (hts _ m_115) (hts _ m_116) (hts _ m_81) hE.1 hP hD hS hA rfl df7 (Nat.le_of_ble_eq_true rfl) (Nat.le_of_ble_eq_true rfl) dX10_init_5 (fun nq1 H hP hD hS => ?_)
  have hP : va_P G classes [(h0, .inr (10, [.null, .null, .null, .null, .null, .null, .int 0, .int 0])), (nq1, .inr (7, [.null, .null, .null, .null, .null, .int 0]))] H := hP
  have hD : va_D A [(h0, .inr (10, [.null, .null, .null, .null, .null, .null, .int 0, .int 0])), (nq1, .inr (7, [.null, .null, .null, .null, .null, .int 0]))] := hD
  refine lv_dup hx hb dX10_init_8 rfl ?_
  refine wI (B := (B_c_X7_init G cy (va_A [(nq1, .inr (7, [.null, .null, .null, .null, .null, .int 0]))] H.size) nq1)) (wr := [(h0, .inr (10, [.null, .null, .null, .null, .null, .null, .int 0, .int 0]))]) (rest := [.ref nq1, .ref h0]) hx hb hml hown hts hE (c_X7_init l G cy sk H.size nq1) kI_X7_init m_117 rfl rfl ⟨(Nat.le_of_ble_eq_true rfl), (Nat.le_of_ble_eq_true rfl)⟩ hP hD hS hA [1] [0] rfl rfl rfl rfl (by decide) rfl rfl hl.1 (Nat.le_of_ble_eq_true rfl) dX10_init_9 ⟨(Nat.le_of_ble_eq_true rfl), (Nat.le_of_ble_eq_true rfl)⟩ (fun H locs haf hS => ?_)
  obtain ⟨xq3, xq4, xq5, xq6, xq7, xf8, h_9, hP1, hD1⟩ := haf.1
  obtain ⟨hP, hD⟩ := haf.2.1 _ hP1 hD1
  have hP : va_P G classes [(h0, .inr (10, [.null, .null, .null, .null, .null, .null, .int 0, .int 0])), (nq1, .inr (7, [.ref xq3, .ref xq4, .ref xq5, .ref xq6, .ref xq7, .int 0])), (xq3, .inl (cy 0, 192, .inl xf8)), (xq4, .inl (cy 0, 40, .inl (fun _ => 0))), (xq5, .inl (cy 0, 40, .inl (fun _ => 0))), (xq6, .inl (cy 0, 40, .inl (fun _ => 0))), (xq7, .inl (cy 0, 40, .inl (fun _ => 0)))] H := hP
  have hD : va_D A [(h0, .inr (10, [.null, .null, .null, .null, .null, .null, .int 0, .int 0])), (nq1, .inr (7, [.ref xq3, .ref xq4, .ref xq5, .ref xq6, .ref xq7, .int 0])), (xq3, .inl (cy 0, 192, .inl xf8)), (xq4, .inl (cy 0, 40, .inl (fun _ => 0))), (xq5, .inl (cy 0, 40, .inl (fun _ => 0))), (xq6, .inl (cy 0, 40, .inl (fun _ => 0))), (xq7, .inl (cy 0, 40, .inl (fun _ => 0)))] := hD
  refine va_putF (D := G) (ci := 10) (v := .ref nq1) (ty := (.object "ClickStreet$Street")) (C := RX10) (T := TX10) (N := 8) hx hb hts inB10 tyX10 tyX10_ok nmX10 hown hE.1 hP hD hS 0 rfl rfl 0 (by decide) (hts _ m_309) (fun _ h9 => h9) rfl hin rfl (by decide +kernel) rfl rfl (Nat.le_of_ble_eq_true rfl) dX10_init_12 (fun H locs hP hD hS => ?_)
  have hP : va_P G classes [(h0, .inr (10, [.ref nq1, .null, .null, .null, .null, .null, .int 0, .int 0])), (nq1, .inr (7, [.ref xq3, .ref xq4, .ref xq5, .ref xq6, .ref xq7, .int 0])), (xq3, .inl (cy 0, 192, .inl xf8)), (xq4, .inl (cy 0, 40, .inl (fun _ => 0))), (xq5, .inl (cy 0, 40, .inl (fun _ => 0))), (xq6, .inl (cy 0, 40, .inl (fun _ => 0))), (xq7, .inl (cy 0, 40, .inl (fun _ => 0)))] H := hP
  have hD : va_D A [(h0, .inr (10, [.ref nq1, .null, .null, .null, .null, .null, .int 0, .int 0])), (nq1, .inr (7, [.ref xq3, .ref xq4, .ref xq5, .ref xq6, .ref xq7, .int 0])), (xq3, .inl (cy 0, 192, .inl xf8)), (xq4, .inl (cy 0, 40, .inl (fun _ => 0))), (xq5, .inl (cy 0, 40, .inl (fun _ => 0))), (xq6, .inl (cy 0, 40, .inl (fun _ => 0))), (xq7, .inl (cy 0, 40, .inl (fun _ => 0)))] := hD
  refine lv_aload_n hx hb dX10_init_15 rfl (lv_at hl 0 rfl) ?_
  refine va_new (ci := 2) (fs := [.int 0, .int 0, .int 0, .null, .null, .null, .null]) (C := RX2) (T := TX2) (N := 7) hx hb hts inB2 tyX2 tyX2_ok hown (hts _ m_147) (hts _ m_148) (hts _ m_82) hE.1 hP hD hS hA rfl df2 (Nat.le_of_ble_eq_true rfl) (Nat.le_of_ble_eq_true rfl) dX10_init_16 (fun nq10 H hP hD hS => ?_)
  have hP : va_P G classes [(h0, .inr (10, [.ref nq1, .null, .null, .null, .null, .null, .int 0, .int 0])), (nq1, .inr (7, [.ref xq3, .ref xq4, .ref xq5, .ref xq6, .ref xq7, .int 0])), (xq3, .inl (cy 0, 192, .inl xf8)), (xq4, .inl (cy 0, 40, .inl (fun _ => 0))), (xq5, .inl (cy 0, 40, .inl (fun _ => 0))), (xq6, .inl (cy 0, 40, .inl (fun _ => 0))), (xq7, .inl (cy 0, 40, .inl (fun _ => 0))), (nq10, .inr (2, [.int 0, .int 0, .int 0, .null, .null, .null, .null]))] H := hP
  have hD : va_D A [(h0, .inr (10, [.ref nq1, .null, .null, .null, .null, .null, .int 0, .int 0])), (nq1, .inr (7, [.ref xq3, .ref xq4, .ref xq5, .ref xq6, .ref xq7, .int 0])), (xq3, .inl (cy 0, 192, .inl xf8)), (xq4, .inl (cy 0, 40, .inl (fun _ => 0))), (xq5, .inl (cy 0, 40, .inl (fun _ => 0))), (xq6, .inl (cy 0, 40, .inl (fun _ => 0))), (xq7, .inl (cy 0, 40, .inl (fun _ => 0))), (nq10, .inr (2, [.int 0, .int 0, .int 0, .null, .null, .null, .null]))] := hD
  refine lv_dup hx hb dX10_init_19 rfl ?_
  refine wI (B := (B_c_X2_init G cy (va_A [(nq10, .inr (2, [.int 0, .int 0, .int 0, .null, .null, .null, .null]))] H.size) nq10)) (wr := [(h0, .inr (10, [.ref nq1, .null, .null, .null, .null, .null, .int 0, .int 0])), (nq1, .inr (7, [.ref xq3, .ref xq4, .ref xq5, .ref xq6, .ref xq7, .int 0])), (xq3, .inl (cy 0, 192, .inl xf8)), (xq4, .inl (cy 0, 40, .inl (fun _ => 0))), (xq5, .inl (cy 0, 40, .inl (fun _ => 0))), (xq6, .inl (cy 0, 40, .inl (fun _ => 0))), (xq7, .inl (cy 0, 40, .inl (fun _ => 0)))]) (rest := [.ref nq10, .ref h0]) hx hb hml hown hts hE (c_X2_init l G cy sk H.size nq10) kI_X2_init m_149 rfl rfl ⟨(Nat.le_of_ble_eq_true rfl), (Nat.le_of_ble_eq_true rfl)⟩ hP hD hS hA [7] [0, 1, 2, 3, 4, 5, 6] rfl rfl rfl rfl (by decide) rfl rfl hl.1 (Nat.le_of_ble_eq_true rfl) dX10_init_20 ⟨(Nat.le_of_ble_eq_true rfl), (Nat.le_of_ble_eq_true rfl)⟩ (fun H locs haf hS => ?_)
  obtain ⟨xq12, xq13, xq14, xq15, xq16, xq17, xq18, xq19, xq20, xq21, xq22, xq23, xq24, xf25, xg26, h_27, h_28, h_29, h_30, hP1, hD1⟩ := haf.1
  obtain ⟨hP, hD⟩ := haf.2.1 _ hP1 hD1
  have hP : va_P G classes [(h0, .inr (10, [.ref nq1, .null, .null, .null, .null, .null, .int 0, .int 0])), (nq1, .inr (7, [.ref xq3, .ref xq4, .ref xq5, .ref xq6, .ref xq7, .int 0])), (xq3, .inl (cy 0, 192, .inl xf8)), (xq4, .inl (cy 0, 40, .inl (fun _ => 0))), (xq5, .inl (cy 0, 40, .inl (fun _ => 0))), (xq6, .inl (cy 0, 40, .inl (fun _ => 0))), (xq7, .inl (cy 0, 40, .inl (fun _ => 0))), (nq10, .inr (2, [.int 5, .int 9, .int 0, .ref xq12, .ref xq13, .ref xq14, .ref xq15])), (xq12, .inl (cy 0, 5, .inl xf25)), (xq13, .inl (cy 0, 5, .inl (fun _ => 0))), (xq14, .inl (cy 3, 3, .inr (.inr (.inr (.inr xg26))))), (xq16, .inr (1, [.ref xq19, .ref xq22, .int 0])), (xq19, .inl (cy 0, 48, .inl (fun _ => 0))), (xq17, .inr (1, [.ref xq20, .ref xq23, .int 0])), (xq20, .inl (cy 0, 48, .inl (fun _ => 0))), (xq18, .inr (1, [.ref xq21, .ref xq24, .int 0])), (xq21, .inl (cy 0, 48, .inl (fun _ => 0)))] H := hP
  have hD : va_D A [(h0, .inr (10, [.ref nq1, .null, .null, .null, .null, .null, .int 0, .int 0])), (nq1, .inr (7, [.ref xq3, .ref xq4, .ref xq5, .ref xq6, .ref xq7, .int 0])), (xq3, .inl (cy 0, 192, .inl xf8)), (xq4, .inl (cy 0, 40, .inl (fun _ => 0))), (xq5, .inl (cy 0, 40, .inl (fun _ => 0))), (xq6, .inl (cy 0, 40, .inl (fun _ => 0))), (xq7, .inl (cy 0, 40, .inl (fun _ => 0))), (nq10, .inr (2, [.int 5, .int 9, .int 0, .ref xq12, .ref xq13, .ref xq14, .ref xq15])), (xq12, .inl (cy 0, 5, .inl xf25)), (xq13, .inl (cy 0, 5, .inl (fun _ => 0))), (xq14, .inl (cy 3, 3, .inr (.inr (.inr (.inr xg26))))), (xq16, .inr (1, [.ref xq19, .ref xq22, .int 0])), (xq19, .inl (cy 0, 48, .inl (fun _ => 0))), (xq17, .inr (1, [.ref xq20, .ref xq23, .int 0])), (xq20, .inl (cy 0, 48, .inl (fun _ => 0))), (xq18, .inr (1, [.ref xq21, .ref xq24, .int 0])), (xq21, .inl (cy 0, 48, .inl (fun _ => 0)))] := hD
  refine va_putF (D := G) (ci := 10) (v := .ref nq10) (ty := (.object "ClickStreet$Laws")) (C := RX10) (T := TX10) (N := 8) hx hb hts inB10 tyX10 tyX10_ok nmX10 hown hE.1 hP hD hS 0 rfl rfl 1 (by decide) (hts _ m_312) (fun _ h9 => h9) rfl hin rfl (by decide +kernel) rfl rfl (Nat.le_of_ble_eq_true rfl) dX10_init_23 (fun H locs hP hD hS => ?_)
  have hP : va_P G classes [(h0, .inr (10, [.ref nq1, .ref nq10, .null, .null, .null, .null, .int 0, .int 0])), (nq1, .inr (7, [.ref xq3, .ref xq4, .ref xq5, .ref xq6, .ref xq7, .int 0])), (xq3, .inl (cy 0, 192, .inl xf8)), (xq4, .inl (cy 0, 40, .inl (fun _ => 0))), (xq5, .inl (cy 0, 40, .inl (fun _ => 0))), (xq6, .inl (cy 0, 40, .inl (fun _ => 0))), (xq7, .inl (cy 0, 40, .inl (fun _ => 0))), (nq10, .inr (2, [.int 5, .int 9, .int 0, .ref xq12, .ref xq13, .ref xq14, .ref xq15])), (xq12, .inl (cy 0, 5, .inl xf25)), (xq13, .inl (cy 0, 5, .inl (fun _ => 0))), (xq14, .inl (cy 3, 3, .inr (.inr (.inr (.inr xg26))))), (xq16, .inr (1, [.ref xq19, .ref xq22, .int 0])), (xq19, .inl (cy 0, 48, .inl (fun _ => 0))), (xq17, .inr (1, [.ref xq20, .ref xq23, .int 0])), (xq20, .inl (cy 0, 48, .inl (fun _ => 0))), (xq18, .inr (1, [.ref xq21, .ref xq24, .int 0])), (xq21, .inl (cy 0, 48, .inl (fun _ => 0)))] H := hP
  have hD : va_D A [(h0, .inr (10, [.ref nq1, .ref nq10, .null, .null, .null, .null, .int 0, .int 0])), (nq1, .inr (7, [.ref xq3, .ref xq4, .ref xq5, .ref xq6, .ref xq7, .int 0])), (xq3, .inl (cy 0, 192, .inl xf8)), (xq4, .inl (cy 0, 40, .inl (fun _ => 0))), (xq5, .inl (cy 0, 40, .inl (fun _ => 0))), (xq6, .inl (cy 0, 40, .inl (fun _ => 0))), (xq7, .inl (cy 0, 40, .inl (fun _ => 0))), (nq10, .inr (2, [.int 5, .int 9, .int 0, .ref xq12, .ref xq13, .ref xq14, .ref xq15])), (xq12, .inl (cy 0, 5, .inl xf25)), (xq13, .inl (cy 0, 5, .inl (fun _ => 0))), (xq14, .inl (cy 3, 3, .inr (.inr (.inr (.inr xg26))))), (xq16, .inr (1, [.ref xq19, .ref xq22, .int 0])), (xq19, .inl (cy 0, 48, .inl (fun _ => 0))), (xq17, .inr (1, [.ref xq20, .ref xq23, .int 0])), (xq20, .inl (cy 0, 48, .inl (fun _ => 0))), (xq18, .inr (1, [.ref xq21, .ref xq24, .int 0])), (xq21, .inl (cy 0, 48, .inl (fun _ => 0)))] := hD
  refine lv_aload_n hx hb dX10_init_26 rfl (lv_at hl 0 rfl) ?_
  refine va_new (ci := 3) (fs := [.null, .null, .null, .int 0, .null, .null, .int 0, .int 0, .int 0]) (C := RX3) (T := TX3) (N := 9) hx hb hts inB3 tyX3 tyX3_ok hown (hts _ m_193) (hts _ m_194) (hts _ m_84) hE.1 hP hD hS hA rfl df3 (Nat.le_of_ble_eq_true rfl) (Nat.le_of_ble_eq_true rfl) dX10_init_27 (fun nq31 H hP hD hS => ?_)
  have hP : va_P G classes [(h0, .inr (10, [.ref nq1, .ref nq10, .null, .null, .null, .null, .int 0, .int 0])), (nq1, .inr (7, [.ref xq3, .ref xq4, .ref xq5, .ref xq6, .ref xq7, .int 0])), (xq3, .inl (cy 0, 192, .inl xf8)), (xq4, .inl (cy 0, 40, .inl (fun _ => 0))), (xq5, .inl (cy 0, 40, .inl (fun _ => 0))), (xq6, .inl (cy 0, 40, .inl (fun _ => 0))), (xq7, .inl (cy 0, 40, .inl (fun _ => 0))), (nq10, .inr (2, [.int 5, .int 9, .int 0, .ref xq12, .ref xq13, .ref xq14, .ref xq15])), (xq12, .inl (cy 0, 5, .inl xf25)), (xq13, .inl (cy 0, 5, .inl (fun _ => 0))), (xq14, .inl (cy 3, 3, .inr (.inr (.inr (.inr xg26))))), (xq16, .inr (1, [.ref xq19, .ref xq22, .int 0])), (xq19, .inl (cy 0, 48, .inl (fun _ => 0))), (xq17, .inr (1, [.ref xq20, .ref xq23, .int 0])), (xq20, .inl (cy 0, 48, .inl (fun _ => 0))), (xq18, .inr (1, [.ref xq21, .ref xq24, .int 0])), (xq21, .inl (cy 0, 48, .inl (fun _ => 0))), (nq31, .inr (3, [.null, .null, .null, .int 0, .null, .null, .int 0, .int 0, .int 0]))] H := hP
  have hD : va_D A [(h0, .inr (10, [.ref nq1, .ref nq10, .null, .null, .null, .null, .int 0, .int 0])), (nq1, .inr (7, [.ref xq3, .ref xq4, .ref xq5, .ref xq6, .ref xq7, .int 0])), (xq3, .inl (cy 0, 192, .inl xf8)), (xq4, .inl (cy 0, 40, .inl (fun _ => 0))), (xq5, .inl (cy 0, 40, .inl (fun _ => 0))), (xq6, .inl (cy 0, 40, .inl (fun _ => 0))), (xq7, .inl (cy 0, 40, .inl (fun _ => 0))), (nq10, .inr (2, [.int 5, .int 9, .int 0, .ref xq12, .ref xq13, .ref xq14, .ref xq15])), (xq12, .inl (cy 0, 5, .inl xf25)), (xq13, .inl (cy 0, 5, .inl (fun _ => 0))), (xq14, .inl (cy 3, 3, .inr (.inr (.inr (.inr xg26))))), (xq16, .inr (1, [.ref xq19, .ref xq22, .int 0])), (xq19, .inl (cy 0, 48, .inl (fun _ => 0))), (xq17, .inr (1, [.ref xq20, .ref xq23, .int 0])), (xq20, .inl (cy 0, 48, .inl (fun _ => 0))), (xq18, .inr (1, [.ref xq21, .ref xq24, .int 0])), (xq21, .inl (cy 0, 48, .inl (fun _ => 0))), (nq31, .inr (3, [.null, .null, .null, .int 0, .null, .null, .int 0, .int 0, .int 0]))] := hD
  refine lv_dup hx hb dX10_init_30 rfl ?_
  refine wIN (B := (B_c_X3_init G cy (va_A [(nq31, .inr (3, [.null, .null, .null, .int 0, .null, .null, .int 0, .int 0, .int 0]))] H.size) nq31)) (wr := [(h0, .inr (10, [.ref nq1, .ref nq10, .null, .null, .null, .null, .int 0, .int 0])), (nq1, .inr (7, [.ref xq3, .ref xq4, .ref xq5, .ref xq6, .ref xq7, .int 0])), (xq3, .inl (cy 0, 192, .inl xf8)), (xq4, .inl (cy 0, 40, .inl (fun _ => 0))), (xq5, .inl (cy 0, 40, .inl (fun _ => 0))), (xq6, .inl (cy 0, 40, .inl (fun _ => 0))), (xq7, .inl (cy 0, 40, .inl (fun _ => 0))), (nq10, .inr (2, [.int 5, .int 9, .int 0, .ref xq12, .ref xq13, .ref xq14, .ref xq15])), (xq12, .inl (cy 0, 5, .inl xf25)), (xq13, .inl (cy 0, 5, .inl (fun _ => 0))), (xq14, .inl (cy 3, 3, .inr (.inr (.inr (.inr xg26))))), (xq16, .inr (1, [.ref xq19, .ref xq22, .int 0])), (xq19, .inl (cy 0, 48, .inl (fun _ => 0))), (xq17, .inr (1, [.ref xq20, .ref xq23, .int 0])), (xq20, .inl (cy 0, 48, .inl (fun _ => 0))), (xq18, .inr (1, [.ref xq21, .ref xq24, .int 0])), (xq21, .inl (cy 0, 48, .inl (fun _ => 0)))]) (rest := [.ref nq31, .ref h0]) (host := "ClickStreet") hx hb hml hown hts hE (c_X3_init l G cy sk H.size nq31) kI_X3_init (by decide +kernel) rfl rfl ⟨(Nat.le_of_ble_eq_true rfl), (Nat.le_of_ble_eq_true rfl)⟩ hP hD hS hA [17] [0, 1, 2, 3, 4, 5, 6, 7, 8, 9, 10, 11, 12, 13, 14, 15, 16] rfl rfl rfl rfl (by decide) rfl rfl hl.1 (Nat.le_of_ble_eq_true rfl) dX10_init_31 ⟨(Nat.le_of_ble_eq_true rfl), (Nat.le_of_ble_eq_true rfl)⟩ (fun H locs haf hS => ?_)
  obtain ⟨xq33, xq34, xq35, xq36, xq37, xq38, xq39, hP1, hD1⟩ := haf.1
  obtain ⟨hP, hD⟩ := haf.2.1 _ hP1 hD1
  have hP : va_P G classes [(h0, .inr (10, [.ref nq1, .ref nq10, .null, .null, .null, .null, .int 0, .int 0])), (nq1, .inr (7, [.ref xq3, .ref xq4, .ref xq5, .ref xq6, .ref xq7, .int 0])), (xq3, .inl (cy 0, 192, .inl xf8)), (xq4, .inl (cy 0, 40, .inl (fun _ => 0))), (xq5, .inl (cy 0, 40, .inl (fun _ => 0))), (xq6, .inl (cy 0, 40, .inl (fun _ => 0))), (xq7, .inl (cy 0, 40, .inl (fun _ => 0))), (nq10, .inr (2, [.int 5, .int 9, .int 0, .ref xq12, .ref xq13, .ref xq14, .ref xq15])), (xq12, .inl (cy 0, 5, .inl xf25)), (xq13, .inl (cy 0, 5, .inl (fun _ => 0))), (xq14, .inl (cy 3, 3, .inr (.inr (.inr (.inr xg26))))), (xq16, .inr (1, [.ref xq19, .ref xq22, .int 0])), (xq19, .inl (cy 0, 48, .inl (fun _ => 0))), (xq17, .inr (1, [.ref xq20, .ref xq23, .int 0])), (xq20, .inl (cy 0, 48, .inl (fun _ => 0))), (xq18, .inr (1, [.ref xq21, .ref xq24, .int 0])), (xq21, .inl (cy 0, 48, .inl (fun _ => 0))), (nq31, .inr (3, [.ref xq33, .ref xq34, .ref xq35, .int 0, .ref xq36, .ref xq37, .int 0, .int 0, .int 0])), (xq33, .inl (cy 0, 7, .inl (fun _ => 0))), (xq34, .inl (cy 0, 7, .inl (fun _ => 0))), (xq35, .inl (cy 0, 7, .inl (fun _ => 0))), (xq36, .inr (5, [.ref xq38, .int 0])), (xq38, .inl (cy 0, 7, .inl (fun _ => 0))), (xq37, .inr (5, [.ref xq39, .int 0])), (xq39, .inl (cy 0, 7, .inl (fun _ => 0)))] H := hP
  have hD : va_D A [(h0, .inr (10, [.ref nq1, .ref nq10, .null, .null, .null, .null, .int 0, .int 0])), (nq1, .inr (7, [.ref xq3, .ref xq4, .ref xq5, .ref xq6, .ref xq7, .int 0])), (xq3, .inl (cy 0, 192, .inl xf8)), (xq4, .inl (cy 0, 40, .inl (fun _ => 0))), (xq5, .inl (cy 0, 40, .inl (fun _ => 0))), (xq6, .inl (cy 0, 40, .inl (fun _ => 0))), (xq7, .inl (cy 0, 40, .inl (fun _ => 0))), (nq10, .inr (2, [.int 5, .int 9, .int 0, .ref xq12, .ref xq13, .ref xq14, .ref xq15])), (xq12, .inl (cy 0, 5, .inl xf25)), (xq13, .inl (cy 0, 5, .inl (fun _ => 0))), (xq14, .inl (cy 3, 3, .inr (.inr (.inr (.inr xg26))))), (xq16, .inr (1, [.ref xq19, .ref xq22, .int 0])), (xq19, .inl (cy 0, 48, .inl (fun _ => 0))), (xq17, .inr (1, [.ref xq20, .ref xq23, .int 0])), (xq20, .inl (cy 0, 48, .inl (fun _ => 0))), (xq18, .inr (1, [.ref xq21, .ref xq24, .int 0])), (xq21, .inl (cy 0, 48, .inl (fun _ => 0))), (nq31, .inr (3, [.ref xq33, .ref xq34, .ref xq35, .int 0, .ref xq36, .ref xq37, .int 0, .int 0, .int 0])), (xq33, .inl (cy 0, 7, .inl (fun _ => 0))), (xq34, .inl (cy 0, 7, .inl (fun _ => 0))), (xq35, .inl (cy 0, 7, .inl (fun _ => 0))), (xq36, .inr (5, [.ref xq38, .int 0])), (xq38, .inl (cy 0, 7, .inl (fun _ => 0))), (xq37, .inr (5, [.ref xq39, .int 0])), (xq39, .inl (cy 0, 7, .inl (fun _ => 0)))] := hD
  refine va_putF (D := G) (ci := 10) (v := .ref nq31) (ty := (.object "ClickStreet$Lessons")) (C := RX10) (T := TX10) (N := 8) hx hb hts inB10 tyX10 tyX10_ok nmX10 hown hE.1 hP hD hS 0 rfl rfl 2 (by decide) (hts _ m_315) (fun _ h9 => h9) rfl hin rfl (by decide +kernel) rfl rfl (Nat.le_of_ble_eq_true rfl) dX10_init_34 (fun H locs hP hD hS => ?_)
  have hP : va_P G classes [(h0, .inr (10, [.ref nq1, .ref nq10, .ref nq31, .null, .null, .null, .int 0, .int 0])), (nq1, .inr (7, [.ref xq3, .ref xq4, .ref xq5, .ref xq6, .ref xq7, .int 0])), (xq3, .inl (cy 0, 192, .inl xf8)), (xq4, .inl (cy 0, 40, .inl (fun _ => 0))), (xq5, .inl (cy 0, 40, .inl (fun _ => 0))), (xq6, .inl (cy 0, 40, .inl (fun _ => 0))), (xq7, .inl (cy 0, 40, .inl (fun _ => 0))), (nq10, .inr (2, [.int 5, .int 9, .int 0, .ref xq12, .ref xq13, .ref xq14, .ref xq15])), (xq12, .inl (cy 0, 5, .inl xf25)), (xq13, .inl (cy 0, 5, .inl (fun _ => 0))), (xq14, .inl (cy 3, 3, .inr (.inr (.inr (.inr xg26))))), (xq16, .inr (1, [.ref xq19, .ref xq22, .int 0])), (xq19, .inl (cy 0, 48, .inl (fun _ => 0))), (xq17, .inr (1, [.ref xq20, .ref xq23, .int 0])), (xq20, .inl (cy 0, 48, .inl (fun _ => 0))), (xq18, .inr (1, [.ref xq21, .ref xq24, .int 0])), (xq21, .inl (cy 0, 48, .inl (fun _ => 0))), (nq31, .inr (3, [.ref xq33, .ref xq34, .ref xq35, .int 0, .ref xq36, .ref xq37, .int 0, .int 0, .int 0])), (xq33, .inl (cy 0, 7, .inl (fun _ => 0))), (xq34, .inl (cy 0, 7, .inl (fun _ => 0))), (xq35, .inl (cy 0, 7, .inl (fun _ => 0))), (xq36, .inr (5, [.ref xq38, .int 0])), (xq38, .inl (cy 0, 7, .inl (fun _ => 0))), (xq37, .inr (5, [.ref xq39, .int 0])), (xq39, .inl (cy 0, 7, .inl (fun _ => 0)))] H := hP
  have hD : va_D A [(h0, .inr (10, [.ref nq1, .ref nq10, .ref nq31, .null, .null, .null, .int 0, .int 0])), (nq1, .inr (7, [.ref xq3, .ref xq4, .ref xq5, .ref xq6, .ref xq7, .int 0])), (xq3, .inl (cy 0, 192, .inl xf8)), (xq4, .inl (cy 0, 40, .inl (fun _ => 0))), (xq5, .inl (cy 0, 40, .inl (fun _ => 0))), (xq6, .inl (cy 0, 40, .inl (fun _ => 0))), (xq7, .inl (cy 0, 40, .inl (fun _ => 0))), (nq10, .inr (2, [.int 5, .int 9, .int 0, .ref xq12, .ref xq13, .ref xq14, .ref xq15])), (xq12, .inl (cy 0, 5, .inl xf25)), (xq13, .inl (cy 0, 5, .inl (fun _ => 0))), (xq14, .inl (cy 3, 3, .inr (.inr (.inr (.inr xg26))))), (xq16, .inr (1, [.ref xq19, .ref xq22, .int 0])), (xq19, .inl (cy 0, 48, .inl (fun _ => 0))), (xq17, .inr (1, [.ref xq20, .ref xq23, .int 0])), (xq20, .inl (cy 0, 48, .inl (fun _ => 0))), (xq18, .inr (1, [.ref xq21, .ref xq24, .int 0])), (xq21, .inl (cy 0, 48, .inl (fun _ => 0))), (nq31, .inr (3, [.ref xq33, .ref xq34, .ref xq35, .int 0, .ref xq36, .ref xq37, .int 0, .int 0, .int 0])), (xq33, .inl (cy 0, 7, .inl (fun _ => 0))), (xq34, .inl (cy 0, 7, .inl (fun _ => 0))), (xq35, .inl (cy 0, 7, .inl (fun _ => 0))), (xq36, .inr (5, [.ref xq38, .int 0])), (xq38, .inl (cy 0, 7, .inl (fun _ => 0))), (xq37, .inr (5, [.ref xq39, .int 0])), (xq39, .inl (cy 0, 7, .inl (fun _ => 0)))] := hD
  refine lv_aload_n hx hb dX10_init_37 rfl (lv_at hl 0 rfl) ?_
  refine va_new (ci := 5) (fs := [.null, .int 0]) (C := RX5) (T := TX5) (N := 2) hx hb hts inB5 tyX5 tyX5_ok hown (hts _ m_249) (hts _ m_200) (hts _ m_85) hE.1 hP hD hS hA rfl df5 (Nat.le_of_ble_eq_true rfl) (Nat.le_of_ble_eq_true rfl) dX10_init_38 (fun nq40 H hP hD hS => ?_)
  have hP : va_P G classes [(h0, .inr (10, [.ref nq1, .ref nq10, .ref nq31, .null, .null, .null, .int 0, .int 0])), (nq1, .inr (7, [.ref xq3, .ref xq4, .ref xq5, .ref xq6, .ref xq7, .int 0])), (xq3, .inl (cy 0, 192, .inl xf8)), (xq4, .inl (cy 0, 40, .inl (fun _ => 0))), (xq5, .inl (cy 0, 40, .inl (fun _ => 0))), (xq6, .inl (cy 0, 40, .inl (fun _ => 0))), (xq7, .inl (cy 0, 40, .inl (fun _ => 0))), (nq10, .inr (2, [.int 5, .int 9, .int 0, .ref xq12, .ref xq13, .ref xq14, .ref xq15])), (xq12, .inl (cy 0, 5, .inl xf25)), (xq13, .inl (cy 0, 5, .inl (fun _ => 0))), (xq14, .inl (cy 3, 3, .inr (.inr (.inr (.inr xg26))))), (xq16, .inr (1, [.ref xq19, .ref xq22, .int 0])), (xq19, .inl (cy 0, 48, .inl (fun _ => 0))), (xq17, .inr (1, [.ref xq20, .ref xq23, .int 0])), (xq20, .inl (cy 0, 48, .inl (fun _ => 0))), (xq18, .inr (1, [.ref xq21, .ref xq24, .int 0])), (xq21, .inl (cy 0, 48, .inl (fun _ => 0))), (nq31, .inr (3, [.ref xq33, .ref xq34, .ref xq35, .int 0, .ref xq36, .ref xq37, .int 0, .int 0, .int 0])), (xq33, .inl (cy 0, 7, .inl (fun _ => 0))), (xq34, .inl (cy 0, 7, .inl (fun _ => 0))), (xq35, .inl (cy 0, 7, .inl (fun _ => 0))), (xq36, .inr (5, [.ref xq38, .int 0])), (xq38, .inl (cy 0, 7, .inl (fun _ => 0))), (xq37, .inr (5, [.ref xq39, .int 0])), (xq39, .inl (cy 0, 7, .inl (fun _ => 0))), (nq40, .inr (5, [.null, .int 0]))] H := hP
  have hD : va_D A [(h0, .inr (10, [.ref nq1, .ref nq10, .ref nq31, .null, .null, .null, .int 0, .int 0])), (nq1, .inr (7, [.ref xq3, .ref xq4, .ref xq5, .ref xq6, .ref xq7, .int 0])), (xq3, .inl (cy 0, 192, .inl xf8)), (xq4, .inl (cy 0, 40, .inl (fun _ => 0))), (xq5, .inl (cy 0, 40, .inl (fun _ => 0))), (xq6, .inl (cy 0, 40, .inl (fun _ => 0))), (xq7, .inl (cy 0, 40, .inl (fun _ => 0))), (nq10, .inr (2, [.int 5, .int 9, .int 0, .ref xq12, .ref xq13, .ref xq14, .ref xq15])), (xq12, .inl (cy 0, 5, .inl xf25)), (xq13, .inl (cy 0, 5, .inl (fun _ => 0))), (xq14, .inl (cy 3, 3, .inr (.inr (.inr (.inr xg26))))), (xq16, .inr (1, [.ref xq19, .ref xq22, .int 0])), (xq19, .inl (cy 0, 48, .inl (fun _ => 0))), (xq17, .inr (1, [.ref xq20, .ref xq23, .int 0])), (xq20, .inl (cy 0, 48, .inl (fun _ => 0))), (xq18, .inr (1, [.ref xq21, .ref xq24, .int 0])), (xq21, .inl (cy 0, 48, .inl (fun _ => 0))), (nq31, .inr (3, [.ref xq33, .ref xq34, .ref xq35, .int 0, .ref xq36, .ref xq37, .int 0, .int 0, .int 0])), (xq33, .inl (cy 0, 7, .inl (fun _ => 0))), (xq34, .inl (cy 0, 7, .inl (fun _ => 0))), (xq35, .inl (cy 0, 7, .inl (fun _ => 0))), (xq36, .inr (5, [.ref xq38, .int 0])), (xq38, .inl (cy 0, 7, .inl (fun _ => 0))), (xq37, .inr (5, [.ref xq39, .int 0])), (xq39, .inl (cy 0, 7, .inl (fun _ => 0))), (nq40, .inr (5, [.null, .int 0]))] := hD
  refine lv_dup hx hb dX10_init_41 rfl ?_
  refine lv_bipush (v := 48) hx hb dX10_init_42 (by decide) ?_
  refine wI (B := (B_c_X5_init G cy (va_A [(nq40, .inr (5, [.null, .int 0]))] H.size) nq40 48 48)) (wr := [(h0, .inr (10, [.ref nq1, .ref nq10, .ref nq31, .null, .null, .null, .int 0, .int 0])), (nq1, .inr (7, [.ref xq3, .ref xq4, .ref xq5, .ref xq6, .ref xq7, .int 0])), (xq3, .inl (cy 0, 192, .inl xf8)), (xq4, .inl (cy 0, 40, .inl (fun _ => 0))), (xq5, .inl (cy 0, 40, .inl (fun _ => 0))), (xq6, .inl (cy 0, 40, .inl (fun _ => 0))), (xq7, .inl (cy 0, 40, .inl (fun _ => 0))), (nq10, .inr (2, [.int 5, .int 9, .int 0, .ref xq12, .ref xq13, .ref xq14, .ref xq15])), (xq12, .inl (cy 0, 5, .inl xf25)), (xq13, .inl (cy 0, 5, .inl (fun _ => 0))), (xq14, .inl (cy 3, 3, .inr (.inr (.inr (.inr xg26))))), (xq16, .inr (1, [.ref xq19, .ref xq22, .int 0])), (xq19, .inl (cy 0, 48, .inl (fun _ => 0))), (xq17, .inr (1, [.ref xq20, .ref xq23, .int 0])), (xq20, .inl (cy 0, 48, .inl (fun _ => 0))), (xq18, .inr (1, [.ref xq21, .ref xq24, .int 0])), (xq21, .inl (cy 0, 48, .inl (fun _ => 0))), (nq31, .inr (3, [.ref xq33, .ref xq34, .ref xq35, .int 0, .ref xq36, .ref xq37, .int 0, .int 0, .int 0])), (xq33, .inl (cy 0, 7, .inl (fun _ => 0))), (xq34, .inl (cy 0, 7, .inl (fun _ => 0))), (xq35, .inl (cy 0, 7, .inl (fun _ => 0))), (xq36, .inr (5, [.ref xq38, .int 0])), (xq38, .inl (cy 0, 7, .inl (fun _ => 0))), (xq37, .inr (5, [.ref xq39, .int 0])), (xq39, .inl (cy 0, 7, .inl (fun _ => 0)))]) (rest := [.ref nq40, .ref h0]) hx hb hml hown hts hE (c_X5_init l G cy sk H.size nq40 48 48 rfl (by decide)) kI_X5_init m_250 rfl rfl ⟨(Nat.le_of_ble_eq_true rfl), (Nat.le_of_ble_eq_true rfl)⟩ hP hD hS hA [25] [0, 1, 2, 3, 4, 5, 6, 7, 8, 9, 10, 11, 12, 13, 14, 15, 16, 17, 18, 19, 20, 21, 22, 23, 24] rfl rfl rfl rfl (by decide) rfl rfl hl.1 (Nat.le_of_ble_eq_true rfl) dX10_init_44 ⟨(Nat.le_of_ble_eq_true rfl), (Nat.le_of_ble_eq_true rfl)⟩ (fun H locs haf hS => ?_)
  obtain ⟨xq42, hP1, hD1⟩ := haf.1
  obtain ⟨hP, hD⟩ := haf.2.1 _ hP1 hD1
  have hP : va_P G classes [(h0, .inr (10, [.ref nq1, .ref nq10, .ref nq31, .null, .null, .null, .int 0, .int 0])), (nq1, .inr (7, [.ref xq3, .ref xq4, .ref xq5, .ref xq6, .ref xq7, .int 0])), (xq3, .inl (cy 0, 192, .inl xf8)), (xq4, .inl (cy 0, 40, .inl (fun _ => 0))), (xq5, .inl (cy 0, 40, .inl (fun _ => 0))), (xq6, .inl (cy 0, 40, .inl (fun _ => 0))), (xq7, .inl (cy 0, 40, .inl (fun _ => 0))), (nq10, .inr (2, [.int 5, .int 9, .int 0, .ref xq12, .ref xq13, .ref xq14, .ref xq15])), (xq12, .inl (cy 0, 5, .inl xf25)), (xq13, .inl (cy 0, 5, .inl (fun _ => 0))), (xq14, .inl (cy 3, 3, .inr (.inr (.inr (.inr xg26))))), (xq16, .inr (1, [.ref xq19, .ref xq22, .int 0])), (xq19, .inl (cy 0, 48, .inl (fun _ => 0))), (xq17, .inr (1, [.ref xq20, .ref xq23, .int 0])), (xq20, .inl (cy 0, 48, .inl (fun _ => 0))), (xq18, .inr (1, [.ref xq21, .ref xq24, .int 0])), (xq21, .inl (cy 0, 48, .inl (fun _ => 0))), (nq31, .inr (3, [.ref xq33, .ref xq34, .ref xq35, .int 0, .ref xq36, .ref xq37, .int 0, .int 0, .int 0])), (xq33, .inl (cy 0, 7, .inl (fun _ => 0))), (xq34, .inl (cy 0, 7, .inl (fun _ => 0))), (xq35, .inl (cy 0, 7, .inl (fun _ => 0))), (xq36, .inr (5, [.ref xq38, .int 0])), (xq38, .inl (cy 0, 7, .inl (fun _ => 0))), (xq37, .inr (5, [.ref xq39, .int 0])), (xq39, .inl (cy 0, 7, .inl (fun _ => 0))), (nq40, .inr (5, [.ref xq42, .int 0])), (xq42, .inl (cy 0, 48, .inl (fun _ => 0)))] H := hP
  have hD : va_D A [(h0, .inr (10, [.ref nq1, .ref nq10, .ref nq31, .null, .null, .null, .int 0, .int 0])), (nq1, .inr (7, [.ref xq3, .ref xq4, .ref xq5, .ref xq6, .ref xq7, .int 0])), (xq3, .inl (cy 0, 192, .inl xf8)), (xq4, .inl (cy 0, 40, .inl (fun _ => 0))), (xq5, .inl (cy 0, 40, .inl (fun _ => 0))), (xq6, .inl (cy 0, 40, .inl (fun _ => 0))), (xq7, .inl (cy 0, 40, .inl (fun _ => 0))), (nq10, .inr (2, [.int 5, .int 9, .int 0, .ref xq12, .ref xq13, .ref xq14, .ref xq15])), (xq12, .inl (cy 0, 5, .inl xf25)), (xq13, .inl (cy 0, 5, .inl (fun _ => 0))), (xq14, .inl (cy 3, 3, .inr (.inr (.inr (.inr xg26))))), (xq16, .inr (1, [.ref xq19, .ref xq22, .int 0])), (xq19, .inl (cy 0, 48, .inl (fun _ => 0))), (xq17, .inr (1, [.ref xq20, .ref xq23, .int 0])), (xq20, .inl (cy 0, 48, .inl (fun _ => 0))), (xq18, .inr (1, [.ref xq21, .ref xq24, .int 0])), (xq21, .inl (cy 0, 48, .inl (fun _ => 0))), (nq31, .inr (3, [.ref xq33, .ref xq34, .ref xq35, .int 0, .ref xq36, .ref xq37, .int 0, .int 0, .int 0])), (xq33, .inl (cy 0, 7, .inl (fun _ => 0))), (xq34, .inl (cy 0, 7, .inl (fun _ => 0))), (xq35, .inl (cy 0, 7, .inl (fun _ => 0))), (xq36, .inr (5, [.ref xq38, .int 0])), (xq38, .inl (cy 0, 7, .inl (fun _ => 0))), (xq37, .inr (5, [.ref xq39, .int 0])), (xq39, .inl (cy 0, 7, .inl (fun _ => 0))), (nq40, .inr (5, [.ref xq42, .int 0])), (xq42, .inl (cy 0, 48, .inl (fun _ => 0)))] := hD
  refine va_putF (D := G) (ci := 10) (v := .ref nq40) (ty := (.object "ClickStreet$Row")) (C := RX10) (T := TX10) (N := 8) hx hb hts inB10 tyX10 tyX10_ok nmX10 hown hE.1 hP hD hS 0 rfl rfl 3 (by decide) (hts _ m_317) (fun _ h9 => h9) rfl hin rfl (by decide +kernel) rfl rfl (Nat.le_of_ble_eq_true rfl) dX10_init_47 (fun H locs hP hD hS => ?_)
  have hP : va_P G classes [(h0, .inr (10, [.ref nq1, .ref nq10, .ref nq31, .ref nq40, .null, .null, .int 0, .int 0])), (nq1, .inr (7, [.ref xq3, .ref xq4, .ref xq5, .ref xq6, .ref xq7, .int 0])), (xq3, .inl (cy 0, 192, .inl xf8)), (xq4, .inl (cy 0, 40, .inl (fun _ => 0))), (xq5, .inl (cy 0, 40, .inl (fun _ => 0))), (xq6, .inl (cy 0, 40, .inl (fun _ => 0))), (xq7, .inl (cy 0, 40, .inl (fun _ => 0))), (nq10, .inr (2, [.int 5, .int 9, .int 0, .ref xq12, .ref xq13, .ref xq14, .ref xq15])), (xq12, .inl (cy 0, 5, .inl xf25)), (xq13, .inl (cy 0, 5, .inl (fun _ => 0))), (xq14, .inl (cy 3, 3, .inr (.inr (.inr (.inr xg26))))), (xq16, .inr (1, [.ref xq19, .ref xq22, .int 0])), (xq19, .inl (cy 0, 48, .inl (fun _ => 0))), (xq17, .inr (1, [.ref xq20, .ref xq23, .int 0])), (xq20, .inl (cy 0, 48, .inl (fun _ => 0))), (xq18, .inr (1, [.ref xq21, .ref xq24, .int 0])), (xq21, .inl (cy 0, 48, .inl (fun _ => 0))), (nq31, .inr (3, [.ref xq33, .ref xq34, .ref xq35, .int 0, .ref xq36, .ref xq37, .int 0, .int 0, .int 0])), (xq33, .inl (cy 0, 7, .inl (fun _ => 0))), (xq34, .inl (cy 0, 7, .inl (fun _ => 0))), (xq35, .inl (cy 0, 7, .inl (fun _ => 0))), (xq36, .inr (5, [.ref xq38, .int 0])), (xq38, .inl (cy 0, 7, .inl (fun _ => 0))), (xq37, .inr (5, [.ref xq39, .int 0])), (xq39, .inl (cy 0, 7, .inl (fun _ => 0))), (nq40, .inr (5, [.ref xq42, .int 0])), (xq42, .inl (cy 0, 48, .inl (fun _ => 0)))] H := hP
  have hD : va_D A [(h0, .inr (10, [.ref nq1, .ref nq10, .ref nq31, .ref nq40, .null, .null, .int 0, .int 0])), (nq1, .inr (7, [.ref xq3, .ref xq4, .ref xq5, .ref xq6, .ref xq7, .int 0])), (xq3, .inl (cy 0, 192, .inl xf8)), (xq4, .inl (cy 0, 40, .inl (fun _ => 0))), (xq5, .inl (cy 0, 40, .inl (fun _ => 0))), (xq6, .inl (cy 0, 40, .inl (fun _ => 0))), (xq7, .inl (cy 0, 40, .inl (fun _ => 0))), (nq10, .inr (2, [.int 5, .int 9, .int 0, .ref xq12, .ref xq13, .ref xq14, .ref xq15])), (xq12, .inl (cy 0, 5, .inl xf25)), (xq13, .inl (cy 0, 5, .inl (fun _ => 0))), (xq14, .inl (cy 3, 3, .inr (.inr (.inr (.inr xg26))))), (xq16, .inr (1, [.ref xq19, .ref xq22, .int 0])), (xq19, .inl (cy 0, 48, .inl (fun _ => 0))), (xq17, .inr (1, [.ref xq20, .ref xq23, .int 0])), (xq20, .inl (cy 0, 48, .inl (fun _ => 0))), (xq18, .inr (1, [.ref xq21, .ref xq24, .int 0])), (xq21, .inl (cy 0, 48, .inl (fun _ => 0))), (nq31, .inr (3, [.ref xq33, .ref xq34, .ref xq35, .int 0, .ref xq36, .ref xq37, .int 0, .int 0, .int 0])), (xq33, .inl (cy 0, 7, .inl (fun _ => 0))), (xq34, .inl (cy 0, 7, .inl (fun _ => 0))), (xq35, .inl (cy 0, 7, .inl (fun _ => 0))), (xq36, .inr (5, [.ref xq38, .int 0])), (xq38, .inl (cy 0, 7, .inl (fun _ => 0))), (xq37, .inr (5, [.ref xq39, .int 0])), (xq39, .inl (cy 0, 7, .inl (fun _ => 0))), (nq40, .inr (5, [.ref xq42, .int 0])), (xq42, .inl (cy 0, 48, .inl (fun _ => 0)))] := hD
  refine lv_aload_n hx hb dX10_init_50 rfl (lv_at hl 0 rfl) ?_
  refine va_new (ci := 5) (fs := [.null, .int 0]) (C := RX5) (T := TX5) (N := 2) hx hb hts inB5 tyX5 tyX5_ok hown (hts _ m_249) (hts _ m_200) (hts _ m_85) hE.1 hP hD hS hA rfl df5 (Nat.le_of_ble_eq_true rfl) (Nat.le_of_ble_eq_true rfl) dX10_init_51 (fun nq43 H hP hD hS => ?_)
  have hP : va_P G classes [(h0, .inr (10, [.ref nq1, .ref nq10, .ref nq31, .ref nq40, .null, .null, .int 0, .int 0])), (nq1, .inr (7, [.ref xq3, .ref xq4, .ref xq5, .ref xq6, .ref xq7, .int 0])), (xq3, .inl (cy 0, 192, .inl xf8)), (xq4, .inl (cy 0, 40, .inl (fun _ => 0))), (xq5, .inl (cy 0, 40, .inl (fun _ => 0))), (xq6, .inl (cy 0, 40, .inl (fun _ => 0))), (xq7, .inl (cy 0, 40, .inl (fun _ => 0))), (nq10, .inr (2, [.int 5, .int 9, .int 0, .ref xq12, .ref xq13, .ref xq14, .ref xq15])), (xq12, .inl (cy 0, 5, .inl xf25)), (xq13, .inl (cy 0, 5, .inl (fun _ => 0))), (xq14, .inl (cy 3, 3, .inr (.inr (.inr (.inr xg26))))), (xq16, .inr (1, [.ref xq19, .ref xq22, .int 0])), (xq19, .inl (cy 0, 48, .inl (fun _ => 0))), (xq17, .inr (1, [.ref xq20, .ref xq23, .int 0])), (xq20, .inl (cy 0, 48, .inl (fun _ => 0))), (xq18, .inr (1, [.ref xq21, .ref xq24, .int 0])), (xq21, .inl (cy 0, 48, .inl (fun _ => 0))), (nq31, .inr (3, [.ref xq33, .ref xq34, .ref xq35, .int 0, .ref xq36, .ref xq37, .int 0, .int 0, .int 0])), (xq33, .inl (cy 0, 7, .inl (fun _ => 0))), (xq34, .inl (cy 0, 7, .inl (fun _ => 0))), (xq35, .inl (cy 0, 7, .inl (fun _ => 0))), (xq36, .inr (5, [.ref xq38, .int 0])), (xq38, .inl (cy 0, 7, .inl (fun _ => 0))), (xq37, .inr (5, [.ref xq39, .int 0])), (xq39, .inl (cy 0, 7, .inl (fun _ => 0))), (nq40, .inr (5, [.ref xq42, .int 0])), (xq42, .inl (cy 0, 48, .inl (fun _ => 0))), (nq43, .inr (5, [.null, .int 0]))] H := hP
  have hD : va_D A [(h0, .inr (10, [.ref nq1, .ref nq10, .ref nq31, .ref nq40, .null, .null, .int 0, .int 0])), (nq1, .inr (7, [.ref xq3, .ref xq4, .ref xq5, .ref xq6, .ref xq7, .int 0])), (xq3, .inl (cy 0, 192, .inl xf8)), (xq4, .inl (cy 0, 40, .inl (fun _ => 0))), (xq5, .inl (cy 0, 40, .inl (fun _ => 0))), (xq6, .inl (cy 0, 40, .inl (fun _ => 0))), (xq7, .inl (cy 0, 40, .inl (fun _ => 0))), (nq10, .inr (2, [.int 5, .int 9, .int 0, .ref xq12, .ref xq13, .ref xq14, .ref xq15])), (xq12, .inl (cy 0, 5, .inl xf25)), (xq13, .inl (cy 0, 5, .inl (fun _ => 0))), (xq14, .inl (cy 3, 3, .inr (.inr (.inr (.inr xg26))))), (xq16, .inr (1, [.ref xq19, .ref xq22, .int 0])), (xq19, .inl (cy 0, 48, .inl (fun _ => 0))), (xq17, .inr (1, [.ref xq20, .ref xq23, .int 0])), (xq20, .inl (cy 0, 48, .inl (fun _ => 0))), (xq18, .inr (1, [.ref xq21, .ref xq24, .int 0])), (xq21, .inl (cy 0, 48, .inl (fun _ => 0))), (nq31, .inr (3, [.ref xq33, .ref xq34, .ref xq35, .int 0, .ref xq36, .ref xq37, .int 0, .int 0, .int 0])), (xq33, .inl (cy 0, 7, .inl (fun _ => 0))), (xq34, .inl (cy 0, 7, .inl (fun _ => 0))), (xq35, .inl (cy 0, 7, .inl (fun _ => 0))), (xq36, .inr (5, [.ref xq38, .int 0])), (xq38, .inl (cy 0, 7, .inl (fun _ => 0))), (xq37, .inr (5, [.ref xq39, .int 0])), (xq39, .inl (cy 0, 7, .inl (fun _ => 0))), (nq40, .inr (5, [.ref xq42, .int 0])), (xq42, .inl (cy 0, 48, .inl (fun _ => 0))), (nq43, .inr (5, [.null, .int 0]))] := hD
  refine lv_dup hx hb dX10_init_54 rfl ?_
  refine lv_bipush (v := 24) hx hb dX10_init_55 (by decide) ?_
  refine wI (B := (B_c_X5_init G cy (va_A [(nq43, .inr (5, [.null, .int 0]))] H.size) nq43 24 24)) (wr := [(h0, .inr (10, [.ref nq1, .ref nq10, .ref nq31, .ref nq40, .null, .null, .int 0, .int 0])), (nq1, .inr (7, [.ref xq3, .ref xq4, .ref xq5, .ref xq6, .ref xq7, .int 0])), (xq3, .inl (cy 0, 192, .inl xf8)), (xq4, .inl (cy 0, 40, .inl (fun _ => 0))), (xq5, .inl (cy 0, 40, .inl (fun _ => 0))), (xq6, .inl (cy 0, 40, .inl (fun _ => 0))), (xq7, .inl (cy 0, 40, .inl (fun _ => 0))), (nq10, .inr (2, [.int 5, .int 9, .int 0, .ref xq12, .ref xq13, .ref xq14, .ref xq15])), (xq12, .inl (cy 0, 5, .inl xf25)), (xq13, .inl (cy 0, 5, .inl (fun _ => 0))), (xq14, .inl (cy 3, 3, .inr (.inr (.inr (.inr xg26))))), (xq16, .inr (1, [.ref xq19, .ref xq22, .int 0])), (xq19, .inl (cy 0, 48, .inl (fun _ => 0))), (xq17, .inr (1, [.ref xq20, .ref xq23, .int 0])), (xq20, .inl (cy 0, 48, .inl (fun _ => 0))), (xq18, .inr (1, [.ref xq21, .ref xq24, .int 0])), (xq21, .inl (cy 0, 48, .inl (fun _ => 0))), (nq31, .inr (3, [.ref xq33, .ref xq34, .ref xq35, .int 0, .ref xq36, .ref xq37, .int 0, .int 0, .int 0])), (xq33, .inl (cy 0, 7, .inl (fun _ => 0))), (xq34, .inl (cy 0, 7, .inl (fun _ => 0))), (xq35, .inl (cy 0, 7, .inl (fun _ => 0))), (xq36, .inr (5, [.ref xq38, .int 0])), (xq38, .inl (cy 0, 7, .inl (fun _ => 0))), (xq37, .inr (5, [.ref xq39, .int 0])), (xq39, .inl (cy 0, 7, .inl (fun _ => 0))), (nq40, .inr (5, [.ref xq42, .int 0])), (xq42, .inl (cy 0, 48, .inl (fun _ => 0)))]) (rest := [.ref nq43, .ref h0]) hx hb hml hown hts hE (c_X5_init l G cy sk H.size nq43 24 24 rfl (by decide)) kI_X5_init m_250 rfl rfl ⟨(Nat.le_of_ble_eq_true rfl), (Nat.le_of_ble_eq_true rfl)⟩ hP hD hS hA [27] [0, 1, 2, 3, 4, 5, 6, 7, 8, 9, 10, 11, 12, 13, 14, 15, 16, 17, 18, 19, 20, 21, 22, 23, 24, 25, 26] rfl rfl rfl rfl (by decide) rfl rfl hl.1 (Nat.le_of_ble_eq_true rfl) dX10_init_57 ⟨(Nat.le_of_ble_eq_true rfl), (Nat.le_of_ble_eq_true rfl)⟩ (fun H locs haf hS => ?_)
  obtain ⟨xq45, hP1, hD1⟩ := haf.1
  obtain ⟨hP, hD⟩ := haf.2.1 _ hP1 hD1
  have hP : va_P G classes [(h0, .inr (10, [.ref nq1, .ref nq10, .ref nq31, .ref nq40, .null, .null, .int 0, .int 0])), (nq1, .inr (7, [.ref xq3, .ref xq4, .ref xq5, .ref xq6, .ref xq7, .int 0])), (xq3, .inl (cy 0, 192, .inl xf8)), (xq4, .inl (cy 0, 40, .inl (fun _ => 0))), (xq5, .inl (cy 0, 40, .inl (fun _ => 0))), (xq6, .inl (cy 0, 40, .inl (fun _ => 0))), (xq7, .inl (cy 0, 40, .inl (fun _ => 0))), (nq10, .inr (2, [.int 5, .int 9, .int 0, .ref xq12, .ref xq13, .ref xq14, .ref xq15])), (xq12, .inl (cy 0, 5, .inl xf25)), (xq13, .inl (cy 0, 5, .inl (fun _ => 0))), (xq14, .inl (cy 3, 3, .inr (.inr (.inr (.inr xg26))))), (xq16, .inr (1, [.ref xq19, .ref xq22, .int 0])), (xq19, .inl (cy 0, 48, .inl (fun _ => 0))), (xq17, .inr (1, [.ref xq20, .ref xq23, .int 0])), (xq20, .inl (cy 0, 48, .inl (fun _ => 0))), (xq18, .inr (1, [.ref xq21, .ref xq24, .int 0])), (xq21, .inl (cy 0, 48, .inl (fun _ => 0))), (nq31, .inr (3, [.ref xq33, .ref xq34, .ref xq35, .int 0, .ref xq36, .ref xq37, .int 0, .int 0, .int 0])), (xq33, .inl (cy 0, 7, .inl (fun _ => 0))), (xq34, .inl (cy 0, 7, .inl (fun _ => 0))), (xq35, .inl (cy 0, 7, .inl (fun _ => 0))), (xq36, .inr (5, [.ref xq38, .int 0])), (xq38, .inl (cy 0, 7, .inl (fun _ => 0))), (xq37, .inr (5, [.ref xq39, .int 0])), (xq39, .inl (cy 0, 7, .inl (fun _ => 0))), (nq40, .inr (5, [.ref xq42, .int 0])), (xq42, .inl (cy 0, 48, .inl (fun _ => 0))), (nq43, .inr (5, [.ref xq45, .int 0])), (xq45, .inl (cy 0, 24, .inl (fun _ => 0)))] H := hP
  have hD : va_D A [(h0, .inr (10, [.ref nq1, .ref nq10, .ref nq31, .ref nq40, .null, .null, .int 0, .int 0])), (nq1, .inr (7, [.ref xq3, .ref xq4, .ref xq5, .ref xq6, .ref xq7, .int 0])), (xq3, .inl (cy 0, 192, .inl xf8)), (xq4, .inl (cy 0, 40, .inl (fun _ => 0))), (xq5, .inl (cy 0, 40, .inl (fun _ => 0))), (xq6, .inl (cy 0, 40, .inl (fun _ => 0))), (xq7, .inl (cy 0, 40, .inl (fun _ => 0))), (nq10, .inr (2, [.int 5, .int 9, .int 0, .ref xq12, .ref xq13, .ref xq14, .ref xq15])), (xq12, .inl (cy 0, 5, .inl xf25)), (xq13, .inl (cy 0, 5, .inl (fun _ => 0))), (xq14, .inl (cy 3, 3, .inr (.inr (.inr (.inr xg26))))), (xq16, .inr (1, [.ref xq19, .ref xq22, .int 0])), (xq19, .inl (cy 0, 48, .inl (fun _ => 0))), (xq17, .inr (1, [.ref xq20, .ref xq23, .int 0])), (xq20, .inl (cy 0, 48, .inl (fun _ => 0))), (xq18, .inr (1, [.ref xq21, .ref xq24, .int 0])), (xq21, .inl (cy 0, 48, .inl (fun _ => 0))), (nq31, .inr (3, [.ref xq33, .ref xq34, .ref xq35, .int 0, .ref xq36, .ref xq37, .int 0, .int 0, .int 0])), (xq33, .inl (cy 0, 7, .inl (fun _ => 0))), (xq34, .inl (cy 0, 7, .inl (fun _ => 0))), (xq35, .inl (cy 0, 7, .inl (fun _ => 0))), (xq36, .inr (5, [.ref xq38, .int 0])), (xq38, .inl (cy 0, 7, .inl (fun _ => 0))), (xq37, .inr (5, [.ref xq39, .int 0])), (xq39, .inl (cy 0, 7, .inl (fun _ => 0))), (nq40, .inr (5, [.ref xq42, .int 0])), (xq42, .inl (cy 0, 48, .inl (fun _ => 0))), (nq43, .inr (5, [.ref xq45, .int 0])), (xq45, .inl (cy 0, 24, .inl (fun _ => 0)))] := hD
  refine va_putF (D := G) (ci := 10) (v := .ref nq43) (ty := (.object "ClickStreet$Row")) (C := RX10) (T := TX10) (N := 8) hx hb hts inB10 tyX10 tyX10_ok nmX10 hown hE.1 hP hD hS 0 rfl rfl 4 (by decide) (hts _ m_319) (fun _ h9 => h9) rfl hin rfl (by decide +kernel) rfl rfl (Nat.le_of_ble_eq_true rfl) dX10_init_60 (fun H locs hP hD hS => ?_)
  have hP : va_P G classes [(h0, .inr (10, [.ref nq1, .ref nq10, .ref nq31, .ref nq40, .ref nq43, .null, .int 0, .int 0])), (nq1, .inr (7, [.ref xq3, .ref xq4, .ref xq5, .ref xq6, .ref xq7, .int 0])), (xq3, .inl (cy 0, 192, .inl xf8)), (xq4, .inl (cy 0, 40, .inl (fun _ => 0))), (xq5, .inl (cy 0, 40, .inl (fun _ => 0))), (xq6, .inl (cy 0, 40, .inl (fun _ => 0))), (xq7, .inl (cy 0, 40, .inl (fun _ => 0))), (nq10, .inr (2, [.int 5, .int 9, .int 0, .ref xq12, .ref xq13, .ref xq14, .ref xq15])), (xq12, .inl (cy 0, 5, .inl xf25)), (xq13, .inl (cy 0, 5, .inl (fun _ => 0))), (xq14, .inl (cy 3, 3, .inr (.inr (.inr (.inr xg26))))), (xq16, .inr (1, [.ref xq19, .ref xq22, .int 0])), (xq19, .inl (cy 0, 48, .inl (fun _ => 0))), (xq17, .inr (1, [.ref xq20, .ref xq23, .int 0])), (xq20, .inl (cy 0, 48, .inl (fun _ => 0))), (xq18, .inr (1, [.ref xq21, .ref xq24, .int 0])), (xq21, .inl (cy 0, 48, .inl (fun _ => 0))), (nq31, .inr (3, [.ref xq33, .ref xq34, .ref xq35, .int 0, .ref xq36, .ref xq37, .int 0, .int 0, .int 0])), (xq33, .inl (cy 0, 7, .inl (fun _ => 0))), (xq34, .inl (cy 0, 7, .inl (fun _ => 0))), (xq35, .inl (cy 0, 7, .inl (fun _ => 0))), (xq36, .inr (5, [.ref xq38, .int 0])), (xq38, .inl (cy 0, 7, .inl (fun _ => 0))), (xq37, .inr (5, [.ref xq39, .int 0])), (xq39, .inl (cy 0, 7, .inl (fun _ => 0))), (nq40, .inr (5, [.ref xq42, .int 0])), (xq42, .inl (cy 0, 48, .inl (fun _ => 0))), (nq43, .inr (5, [.ref xq45, .int 0])), (xq45, .inl (cy 0, 24, .inl (fun _ => 0)))] H := hP
  have hD : va_D A [(h0, .inr (10, [.ref nq1, .ref nq10, .ref nq31, .ref nq40, .ref nq43, .null, .int 0, .int 0])), (nq1, .inr (7, [.ref xq3, .ref xq4, .ref xq5, .ref xq6, .ref xq7, .int 0])), (xq3, .inl (cy 0, 192, .inl xf8)), (xq4, .inl (cy 0, 40, .inl (fun _ => 0))), (xq5, .inl (cy 0, 40, .inl (fun _ => 0))), (xq6, .inl (cy 0, 40, .inl (fun _ => 0))), (xq7, .inl (cy 0, 40, .inl (fun _ => 0))), (nq10, .inr (2, [.int 5, .int 9, .int 0, .ref xq12, .ref xq13, .ref xq14, .ref xq15])), (xq12, .inl (cy 0, 5, .inl xf25)), (xq13, .inl (cy 0, 5, .inl (fun _ => 0))), (xq14, .inl (cy 3, 3, .inr (.inr (.inr (.inr xg26))))), (xq16, .inr (1, [.ref xq19, .ref xq22, .int 0])), (xq19, .inl (cy 0, 48, .inl (fun _ => 0))), (xq17, .inr (1, [.ref xq20, .ref xq23, .int 0])), (xq20, .inl (cy 0, 48, .inl (fun _ => 0))), (xq18, .inr (1, [.ref xq21, .ref xq24, .int 0])), (xq21, .inl (cy 0, 48, .inl (fun _ => 0))), (nq31, .inr (3, [.ref xq33, .ref xq34, .ref xq35, .int 0, .ref xq36, .ref xq37, .int 0, .int 0, .int 0])), (xq33, .inl (cy 0, 7, .inl (fun _ => 0))), (xq34, .inl (cy 0, 7, .inl (fun _ => 0))), (xq35, .inl (cy 0, 7, .inl (fun _ => 0))), (xq36, .inr (5, [.ref xq38, .int 0])), (xq38, .inl (cy 0, 7, .inl (fun _ => 0))), (xq37, .inr (5, [.ref xq39, .int 0])), (xq39, .inl (cy 0, 7, .inl (fun _ => 0))), (nq40, .inr (5, [.ref xq42, .int 0])), (xq42, .inl (cy 0, 48, .inl (fun _ => 0))), (nq43, .inr (5, [.ref xq45, .int 0])), (xq45, .inl (cy 0, 24, .inl (fun _ => 0)))] := hD
  refine lv_aload_n hx hb dX10_init_63 rfl (lv_at hl 0 rfl) ?_
  refine lv_bipush (v := 8) hx hb dX10_init_64 (by decide) ?_
  refine nwQ (n := 8) (N := 8) (C := "ClickStreet$Walker") (t0 := 4) hx hb hown hts m_251 (by decide) hE hP hD hS hA rfl (by decide) (by decide) (Nat.le_of_ble_eq_true rfl) (Nat.le_of_ble_eq_true rfl) (Nat.le_of_ble_eq_true rfl) dX10_init_66 (fun nq46 H hP hD hS => ?_)
  have hP : va_P G classes [(h0, .inr (10, [.ref nq1, .ref nq10, .ref nq31, .ref nq40, .ref nq43, .null, .int 0, .int 0])), (nq1, .inr (7, [.ref xq3, .ref xq4, .ref xq5, .ref xq6, .ref xq7, .int 0])), (xq3, .inl (cy 0, 192, .inl xf8)), (xq4, .inl (cy 0, 40, .inl (fun _ => 0))), (xq5, .inl (cy 0, 40, .inl (fun _ => 0))), (xq6, .inl (cy 0, 40, .inl (fun _ => 0))), (xq7, .inl (cy 0, 40, .inl (fun _ => 0))), (nq10, .inr (2, [.int 5, .int 9, .int 0, .ref xq12, .ref xq13, .ref xq14, .ref xq15])), (xq12, .inl (cy 0, 5, .inl xf25)), (xq13, .inl (cy 0, 5, .inl (fun _ => 0))), (xq14, .inl (cy 3, 3, .inr (.inr (.inr (.inr xg26))))), (xq16, .inr (1, [.ref xq19, .ref xq22, .int 0])), (xq19, .inl (cy 0, 48, .inl (fun _ => 0))), (xq17, .inr (1, [.ref xq20, .ref xq23, .int 0])), (xq20, .inl (cy 0, 48, .inl (fun _ => 0))), (xq18, .inr (1, [.ref xq21, .ref xq24, .int 0])), (xq21, .inl (cy 0, 48, .inl (fun _ => 0))), (nq31, .inr (3, [.ref xq33, .ref xq34, .ref xq35, .int 0, .ref xq36, .ref xq37, .int 0, .int 0, .int 0])), (xq33, .inl (cy 0, 7, .inl (fun _ => 0))), (xq34, .inl (cy 0, 7, .inl (fun _ => 0))), (xq35, .inl (cy 0, 7, .inl (fun _ => 0))), (xq36, .inr (5, [.ref xq38, .int 0])), (xq38, .inl (cy 0, 7, .inl (fun _ => 0))), (xq37, .inr (5, [.ref xq39, .int 0])), (xq39, .inl (cy 0, 7, .inl (fun _ => 0))), (nq40, .inr (5, [.ref xq42, .int 0])), (xq42, .inl (cy 0, 48, .inl (fun _ => 0))), (nq43, .inr (5, [.ref xq45, .int 0])), (xq45, .inl (cy 0, 24, .inl (fun _ => 0))), (nq46, .inl (cy 4, 8, .inr (.inr (.inr (.inr (fun _ => none))))))] H := hP
  have hD : va_D A [(h0, .inr (10, [.ref nq1, .ref nq10, .ref nq31, .ref nq40, .ref nq43, .null, .int 0, .int 0])), (nq1, .inr (7, [.ref xq3, .ref xq4, .ref xq5, .ref xq6, .ref xq7, .int 0])), (xq3, .inl (cy 0, 192, .inl xf8)), (xq4, .inl (cy 0, 40, .inl (fun _ => 0))), (xq5, .inl (cy 0, 40, .inl (fun _ => 0))), (xq6, .inl (cy 0, 40, .inl (fun _ => 0))), (xq7, .inl (cy 0, 40, .inl (fun _ => 0))), (nq10, .inr (2, [.int 5, .int 9, .int 0, .ref xq12, .ref xq13, .ref xq14, .ref xq15])), (xq12, .inl (cy 0, 5, .inl xf25)), (xq13, .inl (cy 0, 5, .inl (fun _ => 0))), (xq14, .inl (cy 3, 3, .inr (.inr (.inr (.inr xg26))))), (xq16, .inr (1, [.ref xq19, .ref xq22, .int 0])), (xq19, .inl (cy 0, 48, .inl (fun _ => 0))), (xq17, .inr (1, [.ref xq20, .ref xq23, .int 0])), (xq20, .inl (cy 0, 48, .inl (fun _ => 0))), (xq18, .inr (1, [.ref xq21, .ref xq24, .int 0])), (xq21, .inl (cy 0, 48, .inl (fun _ => 0))), (nq31, .inr (3, [.ref xq33, .ref xq34, .ref xq35, .int 0, .ref xq36, .ref xq37, .int 0, .int 0, .int 0])), (xq33, .inl (cy 0, 7, .inl (fun _ => 0))), (xq34, .inl (cy 0, 7, .inl (fun _ => 0))), (xq35, .inl (cy 0, 7, .inl (fun _ => 0))), (xq36, .inr (5, [.ref xq38, .int 0])), (xq38, .inl (cy 0, 7, .inl (fun _ => 0))), (xq37, .inr (5, [.ref xq39, .int 0])), (xq39, .inl (cy 0, 7, .inl (fun _ => 0))), (nq40, .inr (5, [.ref xq42, .int 0])), (xq42, .inl (cy 0, 48, .inl (fun _ => 0))), (nq43, .inr (5, [.ref xq45, .int 0])), (xq45, .inl (cy 0, 24, .inl (fun _ => 0))), (nq46, .inl (cy 4, 8, .inr (.inr (.inr (.inr (fun _ => none))))))] := hD
  refine va_putF (D := G) (ci := 10) (v := .ref nq46) (ty := (.array (.object "ClickStreet$Walker"))) (C := RX10) (T := TX10) (N := 8) hx hb hts inB10 tyX10 tyX10_ok nmX10 hown hE.1 hP hD hS 0 rfl rfl 5 (by decide) (hts _ m_321) (fun _ h9 => h9) rfl hin rfl (by decide +kernel) rfl rfl (Nat.le_of_ble_eq_true rfl) dX10_init_69 (fun H locs hP hD hS => ?_)
  have hP : va_P G classes [(h0, .inr (10, [.ref nq1, .ref nq10, .ref nq31, .ref nq40, .ref nq43, .ref nq46, .int 0, .int 0])), (nq1, .inr (7, [.ref xq3, .ref xq4, .ref xq5, .ref xq6, .ref xq7, .int 0])), (xq3, .inl (cy 0, 192, .inl xf8)), (xq4, .inl (cy 0, 40, .inl (fun _ => 0))), (xq5, .inl (cy 0, 40, .inl (fun _ => 0))), (xq6, .inl (cy 0, 40, .inl (fun _ => 0))), (xq7, .inl (cy 0, 40, .inl (fun _ => 0))), (nq10, .inr (2, [.int 5, .int 9, .int 0, .ref xq12, .ref xq13, .ref xq14, .ref xq15])), (xq12, .inl (cy 0, 5, .inl xf25)), (xq13, .inl (cy 0, 5, .inl (fun _ => 0))), (xq14, .inl (cy 3, 3, .inr (.inr (.inr (.inr xg26))))), (xq16, .inr (1, [.ref xq19, .ref xq22, .int 0])), (xq19, .inl (cy 0, 48, .inl (fun _ => 0))), (xq17, .inr (1, [.ref xq20, .ref xq23, .int 0])), (xq20, .inl (cy 0, 48, .inl (fun _ => 0))), (xq18, .inr (1, [.ref xq21, .ref xq24, .int 0])), (xq21, .inl (cy 0, 48, .inl (fun _ => 0))), (nq31, .inr (3, [.ref xq33, .ref xq34, .ref xq35, .int 0, .ref xq36, .ref xq37, .int 0, .int 0, .int 0])), (xq33, .inl (cy 0, 7, .inl (fun _ => 0))), (xq34, .inl (cy 0, 7, .inl (fun _ => 0))), (xq35, .inl (cy 0, 7, .inl (fun _ => 0))), (xq36, .inr (5, [.ref xq38, .int 0])), (xq38, .inl (cy 0, 7, .inl (fun _ => 0))), (xq37, .inr (5, [.ref xq39, .int 0])), (xq39, .inl (cy 0, 7, .inl (fun _ => 0))), (nq40, .inr (5, [.ref xq42, .int 0])), (xq42, .inl (cy 0, 48, .inl (fun _ => 0))), (nq43, .inr (5, [.ref xq45, .int 0])), (xq45, .inl (cy 0, 24, .inl (fun _ => 0))), (nq46, .inl (cy 4, 8, .inr (.inr (.inr (.inr (fun _ => none))))))] H := hP
  have hD : va_D A [(h0, .inr (10, [.ref nq1, .ref nq10, .ref nq31, .ref nq40, .ref nq43, .ref nq46, .int 0, .int 0])), (nq1, .inr (7, [.ref xq3, .ref xq4, .ref xq5, .ref xq6, .ref xq7, .int 0])), (xq3, .inl (cy 0, 192, .inl xf8)), (xq4, .inl (cy 0, 40, .inl (fun _ => 0))), (xq5, .inl (cy 0, 40, .inl (fun _ => 0))), (xq6, .inl (cy 0, 40, .inl (fun _ => 0))), (xq7, .inl (cy 0, 40, .inl (fun _ => 0))), (nq10, .inr (2, [.int 5, .int 9, .int 0, .ref xq12, .ref xq13, .ref xq14, .ref xq15])), (xq12, .inl (cy 0, 5, .inl xf25)), (xq13, .inl (cy 0, 5, .inl (fun _ => 0))), (xq14, .inl (cy 3, 3, .inr (.inr (.inr (.inr xg26))))), (xq16, .inr (1, [.ref xq19, .ref xq22, .int 0])), (xq19, .inl (cy 0, 48, .inl (fun _ => 0))), (xq17, .inr (1, [.ref xq20, .ref xq23, .int 0])), (xq20, .inl (cy 0, 48, .inl (fun _ => 0))), (xq18, .inr (1, [.ref xq21, .ref xq24, .int 0])), (xq21, .inl (cy 0, 48, .inl (fun _ => 0))), (nq31, .inr (3, [.ref xq33, .ref xq34, .ref xq35, .int 0, .ref xq36, .ref xq37, .int 0, .int 0, .int 0])), (xq33, .inl (cy 0, 7, .inl (fun _ => 0))), (xq34, .inl (cy 0, 7, .inl (fun _ => 0))), (xq35, .inl (cy 0, 7, .inl (fun _ => 0))), (xq36, .inr (5, [.ref xq38, .int 0])), (xq38, .inl (cy 0, 7, .inl (fun _ => 0))), (xq37, .inr (5, [.ref xq39, .int 0])), (xq39, .inl (cy 0, 7, .inl (fun _ => 0))), (nq40, .inr (5, [.ref xq42, .int 0])), (xq42, .inl (cy 0, 48, .inl (fun _ => 0))), (nq43, .inr (5, [.ref xq45, .int 0])), (xq45, .inl (cy 0, 24, .inl (fun _ => 0))), (nq46, .inl (cy 4, 8, .inr (.inr (.inr (.inr (fun _ => none))))))] := hD
  refine lv_aload_n hx hb dX10_init_72 rfl (lv_at hl 0 rfl) ?_
  refine lv_iconst (v := 0) hx hb dX10_init_73 (by decide) ?_
  refine va_put (D := G) (ci := 10) (v := .int 0) (ty := .int) (C := RX10) (T := TX10) (N := 8) hx hb hts inB10 tyX10 tyX10_ok nmX10 hown hE.1 hP hD hS 0 rfl rfl 6 (by decide) (hts _ m_324) (fun _ h9 => h9) rfl (by decide +kernel) rfl rfl (Nat.le_of_ble_eq_true rfl) dX10_init_74 (fun H locs hP hD hS => ?_)
  have hP : va_P G classes [(h0, .inr (10, [.ref nq1, .ref nq10, .ref nq31, .ref nq40, .ref nq43, .ref nq46, .int 0, .int 0])), (nq1, .inr (7, [.ref xq3, .ref xq4, .ref xq5, .ref xq6, .ref xq7, .int 0])), (xq3, .inl (cy 0, 192, .inl xf8)), (xq4, .inl (cy 0, 40, .inl (fun _ => 0))), (xq5, .inl (cy 0, 40, .inl (fun _ => 0))), (xq6, .inl (cy 0, 40, .inl (fun _ => 0))), (xq7, .inl (cy 0, 40, .inl (fun _ => 0))), (nq10, .inr (2, [.int 5, .int 9, .int 0, .ref xq12, .ref xq13, .ref xq14, .ref xq15])), (xq12, .inl (cy 0, 5, .inl xf25)), (xq13, .inl (cy 0, 5, .inl (fun _ => 0))), (xq14, .inl (cy 3, 3, .inr (.inr (.inr (.inr xg26))))), (xq16, .inr (1, [.ref xq19, .ref xq22, .int 0])), (xq19, .inl (cy 0, 48, .inl (fun _ => 0))), (xq17, .inr (1, [.ref xq20, .ref xq23, .int 0])), (xq20, .inl (cy 0, 48, .inl (fun _ => 0))), (xq18, .inr (1, [.ref xq21, .ref xq24, .int 0])), (xq21, .inl (cy 0, 48, .inl (fun _ => 0))), (nq31, .inr (3, [.ref xq33, .ref xq34, .ref xq35, .int 0, .ref xq36, .ref xq37, .int 0, .int 0, .int 0])), (xq33, .inl (cy 0, 7, .inl (fun _ => 0))), (xq34, .inl (cy 0, 7, .inl (fun _ => 0))), (xq35, .inl (cy 0, 7, .inl (fun _ => 0))), (xq36, .inr (5, [.ref xq38, .int 0])), (xq38, .inl (cy 0, 7, .inl (fun _ => 0))), (xq37, .inr (5, [.ref xq39, .int 0])), (xq39, .inl (cy 0, 7, .inl (fun _ => 0))), (nq40, .inr (5, [.ref xq42, .int 0])), (xq42, .inl (cy 0, 48, .inl (fun _ => 0))), (nq43, .inr (5, [.ref xq45, .int 0])), (xq45, .inl (cy 0, 24, .inl (fun _ => 0))), (nq46, .inl (cy 4, 8, .inr (.inr (.inr (.inr (fun _ => none))))))] H := hP
  have hD : va_D A [(h0, .inr (10, [.ref nq1, .ref nq10, .ref nq31, .ref nq40, .ref nq43, .ref nq46, .int 0, .int 0])), (nq1, .inr (7, [.ref xq3, .ref xq4, .ref xq5, .ref xq6, .ref xq7, .int 0])), (xq3, .inl (cy 0, 192, .inl xf8)), (xq4, .inl (cy 0, 40, .inl (fun _ => 0))), (xq5, .inl (cy 0, 40, .inl (fun _ => 0))), (xq6, .inl (cy 0, 40, .inl (fun _ => 0))), (xq7, .inl (cy 0, 40, .inl (fun _ => 0))), (nq10, .inr (2, [.int 5, .int 9, .int 0, .ref xq12, .ref xq13, .ref xq14, .ref xq15])), (xq12, .inl (cy 0, 5, .inl xf25)), (xq13, .inl (cy 0, 5, .inl (fun _ => 0))), (xq14, .inl (cy 3, 3, .inr (.inr (.inr (.inr xg26))))), (xq16, .inr (1, [.ref xq19, .ref xq22, .int 0])), (xq19, .inl (cy 0, 48, .inl (fun _ => 0))), (xq17, .inr (1, [.ref xq20, .ref xq23, .int 0])), (xq20, .inl (cy 0, 48, .inl (fun _ => 0))), (xq18, .inr (1, [.ref xq21, .ref xq24, .int 0])), (xq21, .inl (cy 0, 48, .inl (fun _ => 0))), (nq31, .inr (3, [.ref xq33, .ref xq34, .ref xq35, .int 0, .ref xq36, .ref xq37, .int 0, .int 0, .int 0])), (xq33, .inl (cy 0, 7, .inl (fun _ => 0))), (xq34, .inl (cy 0, 7, .inl (fun _ => 0))), (xq35, .inl (cy 0, 7, .inl (fun _ => 0))), (xq36, .inr (5, [.ref xq38, .int 0])), (xq38, .inl (cy 0, 7, .inl (fun _ => 0))), (xq37, .inr (5, [.ref xq39, .int 0])), (xq39, .inl (cy 0, 7, .inl (fun _ => 0))), (nq40, .inr (5, [.ref xq42, .int 0])), (xq42, .inl (cy 0, 48, .inl (fun _ => 0))), (nq43, .inr (5, [.ref xq45, .int 0])), (xq45, .inl (cy 0, 24, .inl (fun _ => 0))), (nq46, .inl (cy 4, 8, .inr (.inr (.inr (.inr (fun _ => none))))))] := hD
  refine lv_aload_n hx hb dX10_init_77 rfl (lv_at hl 0 rfl) ?_
  refine lv_iconst (v := 0) hx hb dX10_init_78 (by decide) ?_
  refine va_put (D := G) (ci := 10) (v := .int 0) (ty := .int) (C := RX10) (T := TX10) (N := 8) hx hb hts inB10 tyX10 tyX10_ok nmX10 hown hE.1 hP hD hS 0 rfl rfl 7 (by decide) (hts _ m_326) (fun _ h9 => h9) rfl (by decide +kernel) rfl rfl (Nat.le_of_ble_eq_true rfl) dX10_init_79 (fun H locs hP hD hS => ?_)
  have hP : va_P G classes [(h0, .inr (10, [.ref nq1, .ref nq10, .ref nq31, .ref nq40, .ref nq43, .ref nq46, .int 0, .int 0])), (nq1, .inr (7, [.ref xq3, .ref xq4, .ref xq5, .ref xq6, .ref xq7, .int 0])), (xq3, .inl (cy 0, 192, .inl xf8)), (xq4, .inl (cy 0, 40, .inl (fun _ => 0))), (xq5, .inl (cy 0, 40, .inl (fun _ => 0))), (xq6, .inl (cy 0, 40, .inl (fun _ => 0))), (xq7, .inl (cy 0, 40, .inl (fun _ => 0))), (nq10, .inr (2, [.int 5, .int 9, .int 0, .ref xq12, .ref xq13, .ref xq14, .ref xq15])), (xq12, .inl (cy 0, 5, .inl xf25)), (xq13, .inl (cy 0, 5, .inl (fun _ => 0))), (xq14, .inl (cy 3, 3, .inr (.inr (.inr (.inr xg26))))), (xq16, .inr (1, [.ref xq19, .ref xq22, .int 0])), (xq19, .inl (cy 0, 48, .inl (fun _ => 0))), (xq17, .inr (1, [.ref xq20, .ref xq23, .int 0])), (xq20, .inl (cy 0, 48, .inl (fun _ => 0))), (xq18, .inr (1, [.ref xq21, .ref xq24, .int 0])), (xq21, .inl (cy 0, 48, .inl (fun _ => 0))), (nq31, .inr (3, [.ref xq33, .ref xq34, .ref xq35, .int 0, .ref xq36, .ref xq37, .int 0, .int 0, .int 0])), (xq33, .inl (cy 0, 7, .inl (fun _ => 0))), (xq34, .inl (cy 0, 7, .inl (fun _ => 0))), (xq35, .inl (cy 0, 7, .inl (fun _ => 0))), (xq36, .inr (5, [.ref xq38, .int 0])), (xq38, .inl (cy 0, 7, .inl (fun _ => 0))), (xq37, .inr (5, [.ref xq39, .int 0])), (xq39, .inl (cy 0, 7, .inl (fun _ => 0))), (nq40, .inr (5, [.ref xq42, .int 0])), (xq42, .inl (cy 0, 48, .inl (fun _ => 0))), (nq43, .inr (5, [.ref xq45, .int 0])), (xq45, .inl (cy 0, 24, .inl (fun _ => 0))), (nq46, .inl (cy 4, 8, .inr (.inr (.inr (.inr (fun _ => none))))))] H := hP
  have hD : va_D A [(h0, .inr (10, [.ref nq1, .ref nq10, .ref nq31, .ref nq40, .ref nq43, .ref nq46, .int 0, .int 0])), (nq1, .inr (7, [.ref xq3, .ref xq4, .ref xq5, .ref xq6, .ref xq7, .int 0])), (xq3, .inl (cy 0, 192, .inl xf8)), (xq4, .inl (cy 0, 40, .inl (fun _ => 0))), (xq5, .inl (cy 0, 40, .inl (fun _ => 0))), (xq6, .inl (cy 0, 40, .inl (fun _ => 0))), (xq7, .inl (cy 0, 40, .inl (fun _ => 0))), (nq10, .inr (2, [.int 5, .int 9, .int 0, .ref xq12, .ref xq13, .ref xq14, .ref xq15])), (xq12, .inl (cy 0, 5, .inl xf25)), (xq13, .inl (cy 0, 5, .inl (fun _ => 0))), (xq14, .inl (cy 3, 3, .inr (.inr (.inr (.inr xg26))))), (xq16, .inr (1, [.ref xq19, .ref xq22, .int 0])), (xq19, .inl (cy 0, 48, .inl (fun _ => 0))), (xq17, .inr (1, [.ref xq20, .ref xq23, .int 0])), (xq20, .inl (cy 0, 48, .inl (fun _ => 0))), (xq18, .inr (1, [.ref xq21, .ref xq24, .int 0])), (xq21, .inl (cy 0, 48, .inl (fun _ => 0))), (nq31, .inr (3, [.ref xq33, .ref xq34, .ref xq35, .int 0, .ref xq36, .ref xq37, .int 0, .int 0, .int 0])), (xq33, .inl (cy 0, 7, .inl (fun _ => 0))), (xq34, .inl (cy 0, 7, .inl (fun _ => 0))), (xq35, .inl (cy 0, 7, .inl (fun _ => 0))), (xq36, .inr (5, [.ref xq38, .int 0])), (xq38, .inl (cy 0, 7, .inl (fun _ => 0))), (xq37, .inr (5, [.ref xq39, .int 0])), (xq39, .inl (cy 0, 7, .inl (fun _ => 0))), (nq40, .inr (5, [.ref xq42, .int 0])), (xq42, .inl (cy 0, 48, .inl (fun _ => 0))), (nq43, .inr (5, [.ref xq45, .int 0])), (xq45, .inl (cy 0, 24, .inl (fun _ => 0))), (nq46, .inl (cy 4, 8, .inr (.inr (.inr (.inr (fun _ => none))))))] := hD
  refine lv_iconst (v := 0) hx hb dX10_init_82 (by decide) ?_
  refine lv_istore_n (lv' := [(1, .int 0), (0, .ref h0)]) hx hb dX10_init_83 rfl hl (by decide) rfl (fun ls hl => ?_)
  refine lv_iload_n hx hb dX10_init_84 rfl (lv_at hl 0 rfl) ?_
  refine lv_bipush (v := 8) hx hb dX10_init_85 (by decide) ?_
  refine lv_icmp_ge (tgt := 109) hx hb dX10_init_87 (by decide) (fun h9 => absurd h9 (by decide)) (fun _ => ?_)
  refine lv_aload_n hx hb dX10_init_90 rfl (lv_at hl 1 rfl) ?_
  refine va_get (D := G) (ci := 10) (v := .ref nq46) (C := RX10) (T := TX10) (N := 8) hx hb hts inB10 hown hE.1 hP 0 rfl rfl 5 (by decide) (hts _ m_321) (fun _ h9 => h9) rfl dX10_init_91 ?_
  refine lv_iload_n hx hb dX10_init_94 rfl (lv_at hl 0 rfl) ?_
  refine va_new (ci := 9) (fs := [.int 0, .int 0, .int 0, .int 0, .int 0, .int 0, .int 0, .int 0, .int 0, .null, .null]) (C := RX9) (T := TX9) (N := 11) hx hb hts inB9 tyX9 tyX9_ok hown (hts _ m_251) (hts _ m_253) (hts _ m_87) hE.1 hP hD hS hA rfl df9 (Nat.le_of_ble_eq_true rfl) (Nat.le_of_ble_eq_true rfl) dX10_init_95 (fun nq47 H hP hD hS => ?_)
  have hP : va_P G classes [(h0, .inr (10, [.ref nq1, .ref nq10, .ref nq31, .ref nq40, .ref nq43, .ref nq46, .int 0, .int 0])), (nq1, .inr (7, [.ref xq3, .ref xq4, .ref xq5, .ref xq6, .ref xq7, .int 0])), (xq3, .inl (cy 0, 192, .inl xf8)), (xq4, .inl (cy 0, 40, .inl (fun _ => 0))), (xq5, .inl (cy 0, 40, .inl (fun _ => 0))), (xq6, .inl (cy 0, 40, .inl (fun _ => 0))), (xq7, .inl (cy 0, 40, .inl (fun _ => 0))), (nq10, .inr (2, [.int 5, .int 9, .int 0, .ref xq12, .ref xq13, .ref xq14, .ref xq15])), (xq12, .inl (cy 0, 5, .inl xf25)), (xq13, .inl (cy 0, 5, .inl (fun _ => 0))), (xq14, .inl (cy 3, 3, .inr (.inr (.inr (.inr xg26))))), (xq16, .inr (1, [.ref xq19, .ref xq22, .int 0])), (xq19, .inl (cy 0, 48, .inl (fun _ => 0))), (xq17, .inr (1, [.ref xq20, .ref xq23, .int 0])), (xq20, .inl (cy 0, 48, .inl (fun _ => 0))), (xq18, .inr (1, [.ref xq21, .ref xq24, .int 0])), (xq21, .inl (cy 0, 48, .inl (fun _ => 0))), (nq31, .inr (3, [.ref xq33, .ref xq34, .ref xq35, .int 0, .ref xq36, .ref xq37, .int 0, .int 0, .int 0])), (xq33, .inl (cy 0, 7, .inl (fun _ => 0))), (xq34, .inl (cy 0, 7, .inl (fun _ => 0))), (xq35, .inl (cy 0, 7, .inl (fun _ => 0))), (xq36, .inr (5, [.ref xq38, .int 0])), (xq38, .inl (cy 0, 7, .inl (fun _ => 0))), (xq37, .inr (5, [.ref xq39, .int 0])), (xq39, .inl (cy 0, 7, .inl (fun _ => 0))), (nq40, .inr (5, [.ref xq42, .int 0])), (xq42, .inl (cy 0, 48, .inl (fun _ => 0))), (nq43, .inr (5, [.ref xq45, .int 0])), (xq45, .inl (cy 0, 24, .inl (fun _ => 0))), (nq46, .inl (cy 4, 8, .inr (.inr (.inr (.inr (fun _ => none)))))), (nq47, .inr (9, [.int 0, .int 0, .int 0, .int 0, .int 0, .int 0, .int 0, .int 0, .int 0, .null, .null]))] H := hP
  have hD : va_D A [(h0, .inr (10, [.ref nq1, .ref nq10, .ref nq31, .ref nq40, .ref nq43, .ref nq46, .int 0, .int 0])), (nq1, .inr (7, [.ref xq3, .ref xq4, .ref xq5, .ref xq6, .ref xq7, .int 0])), (xq3, .inl (cy 0, 192, .inl xf8)), (xq4, .inl (cy 0, 40, .inl (fun _ => 0))), (xq5, .inl (cy 0, 40, .inl (fun _ => 0))), (xq6, .inl (cy 0, 40, .inl (fun _ => 0))), (xq7, .inl (cy 0, 40, .inl (fun _ => 0))), (nq10, .inr (2, [.int 5, .int 9, .int 0, .ref xq12, .ref xq13, .ref xq14, .ref xq15])), (xq12, .inl (cy 0, 5, .inl xf25)), (xq13, .inl (cy 0, 5, .inl (fun _ => 0))), (xq14, .inl (cy 3, 3, .inr (.inr (.inr (.inr xg26))))), (xq16, .inr (1, [.ref xq19, .ref xq22, .int 0])), (xq19, .inl (cy 0, 48, .inl (fun _ => 0))), (xq17, .inr (1, [.ref xq20, .ref xq23, .int 0])), (xq20, .inl (cy 0, 48, .inl (fun _ => 0))), (xq18, .inr (1, [.ref xq21, .ref xq24, .int 0])), (xq21, .inl (cy 0, 48, .inl (fun _ => 0))), (nq31, .inr (3, [.ref xq33, .ref xq34, .ref xq35, .int 0, .ref xq36, .ref xq37, .int 0, .int 0, .int 0])), (xq33, .inl (cy 0, 7, .inl (fun _ => 0))), (xq34, .inl (cy 0, 7, .inl (fun _ => 0))), (xq35, .inl (cy 0, 7, .inl (fun _ => 0))), (xq36, .inr (5, [.ref xq38, .int 0])), (xq38, .inl (cy 0, 7, .inl (fun _ => 0))), (xq37, .inr (5, [.ref xq39, .int 0])), (xq39, .inl (cy 0, 7, .inl (fun _ => 0))), (nq40, .inr (5, [.ref xq42, .int 0])), (xq42, .inl (cy 0, 48, .inl (fun _ => 0))), (nq43, .inr (5, [.ref xq45, .int 0])), (xq45, .inl (cy 0, 24, .inl (fun _ => 0))), (nq46, .inl (cy 4, 8, .inr (.inr (.inr (.inr (fun _ => none)))))), (nq47, .inr (9, [.int 0, .int 0, .int 0, .int 0, .int 0, .int 0, .int 0, .int 0, .int 0, .null, .null]))] := hD
  refine lv_dup hx hb dX10_init_98 rfl ?_
  refine wIN (B := (B_c_X9_init G cy (va_A [(nq47, .inr (9, [.int 0, .int 0, .int 0, .int 0, .int 0, .int 0, .int 0, .int 0, .int 0, .null, .null]))] H.size) nq47)) (wr := [(h0, .inr (10, [.ref nq1, .ref nq10, .ref nq31, .ref nq40, .ref nq43, .ref nq46, .int 0, .int 0])), (nq1, .inr (7, [.ref xq3, .ref xq4, .ref xq5, .ref xq6, .ref xq7, .int 0])), (xq3, .inl (cy 0, 192, .inl xf8)), (xq4, .inl (cy 0, 40, .inl (fun _ => 0))), (xq5, .inl (cy 0, 40, .inl (fun _ => 0))), (xq6, .inl (cy 0, 40, .inl (fun _ => 0))), (xq7, .inl (cy 0, 40, .inl (fun _ => 0))), (nq10, .inr (2, [.int 5, .int 9, .int 0, .ref xq12, .ref xq13, .ref xq14, .ref xq15])), (xq12, .inl (cy 0, 5, .inl xf25)), (xq13, .inl (cy 0, 5, .inl (fun _ => 0))), (xq14, .inl (cy 3, 3, .inr (.inr (.inr (.inr xg26))))), (xq16, .inr (1, [.ref xq19, .ref xq22, .int 0])), (xq19, .inl (cy 0, 48, .inl (fun _ => 0))), (xq17, .inr (1, [.ref xq20, .ref xq23, .int 0])), (xq20, .inl (cy 0, 48, .inl (fun _ => 0))), (xq18, .inr (1, [.ref xq21, .ref xq24, .int 0])), (xq21, .inl (cy 0, 48, .inl (fun _ => 0))), (nq31, .inr (3, [.ref xq33, .ref xq34, .ref xq35, .int 0, .ref xq36, .ref xq37, .int 0, .int 0, .int 0])), (xq33, .inl (cy 0, 7, .inl (fun _ => 0))), (xq34, .inl (cy 0, 7, .inl (fun _ => 0))), (xq35, .inl (cy 0, 7, .inl (fun _ => 0))), (xq36, .inr (5, [.ref xq38, .int 0])), (xq38, .inl (cy 0, 7, .inl (fun _ => 0))), (xq37, .inr (5, [.ref xq39, .int 0])), (xq39, .inl (cy 0, 7, .inl (fun _ => 0))), (nq40, .inr (5, [.ref xq42, .int 0])), (xq42, .inl (cy 0, 48, .inl (fun _ => 0))), (nq43, .inr (5, [.ref xq45, .int 0])), (xq45, .inl (cy 0, 24, .inl (fun _ => 0))), (nq46, .inl (cy 4, 8, .inr (.inr (.inr (.inr (fun _ => none))))))]) (rest := [.ref nq47, .int 0, .ref nq46]) (host := "ClickStreet") hx hb hml hown hts hE (c_X9_init l G cy sk H.size nq47) kI_X9_init (by decide +kernel) rfl rfl ⟨(Nat.le_of_ble_eq_true rfl), (Nat.le_of_ble_eq_true rfl)⟩ hP hD hS hA [30] [0, 1, 2, 3, 4, 5, 6, 7, 8, 9, 10, 11, 12, 13, 14, 15, 16, 17, 18, 19, 20, 21, 22, 23, 24, 25, 26, 27, 28, 29] rfl rfl rfl rfl (by decide) rfl rfl hl.1 (Nat.le_of_ble_eq_true rfl) dX10_init_99 ⟨(Nat.le_of_ble_eq_true rfl), (Nat.le_of_ble_eq_true rfl)⟩ (fun H locs haf hS => ?_)
  obtain ⟨xq49, xq50, hP1, hD1⟩ := haf.1
  obtain ⟨hP, hD⟩ := haf.2.1 _ hP1 hD1
  have hP : va_P G classes [(h0, .inr (10, [.ref nq1, .ref nq10, .ref nq31, .ref nq40, .ref nq43, .ref nq46, .int 0, .int 0])), (nq1, .inr (7, [.ref xq3, .ref xq4, .ref xq5, .ref xq6, .ref xq7, .int 0])), (xq3, .inl (cy 0, 192, .inl xf8)), (xq4, .inl (cy 0, 40, .inl (fun _ => 0))), (xq5, .inl (cy 0, 40, .inl (fun _ => 0))), (xq6, .inl (cy 0, 40, .inl (fun _ => 0))), (xq7, .inl (cy 0, 40, .inl (fun _ => 0))), (nq10, .inr (2, [.int 5, .int 9, .int 0, .ref xq12, .ref xq13, .ref xq14, .ref xq15])), (xq12, .inl (cy 0, 5, .inl xf25)), (xq13, .inl (cy 0, 5, .inl (fun _ => 0))), (xq14, .inl (cy 3, 3, .inr (.inr (.inr (.inr xg26))))), (xq16, .inr (1, [.ref xq19, .ref xq22, .int 0])), (xq19, .inl (cy 0, 48, .inl (fun _ => 0))), (xq17, .inr (1, [.ref xq20, .ref xq23, .int 0])), (xq20, .inl (cy 0, 48, .inl (fun _ => 0))), (xq18, .inr (1, [.ref xq21, .ref xq24, .int 0])), (xq21, .inl (cy 0, 48, .inl (fun _ => 0))), (nq31, .inr (3, [.ref xq33, .ref xq34, .ref xq35, .int 0, .ref xq36, .ref xq37, .int 0, .int 0, .int 0])), (xq33, .inl (cy 0, 7, .inl (fun _ => 0))), (xq34, .inl (cy 0, 7, .inl (fun _ => 0))), (xq35, .inl (cy 0, 7, .inl (fun _ => 0))), (xq36, .inr (5, [.ref xq38, .int 0])), (xq38, .inl (cy 0, 7, .inl (fun _ => 0))), (xq37, .inr (5, [.ref xq39, .int 0])), (xq39, .inl (cy 0, 7, .inl (fun _ => 0))), (nq40, .inr (5, [.ref xq42, .int 0])), (xq42, .inl (cy 0, 48, .inl (fun _ => 0))), (nq43, .inr (5, [.ref xq45, .int 0])), (xq45, .inl (cy 0, 24, .inl (fun _ => 0))), (nq46, .inl (cy 4, 8, .inr (.inr (.inr (.inr (fun _ => none)))))), (nq47, .inr (9, [.int 0, .int 0, .int 0, .int 5, .int 60, .int 0, .int 0, .int 0, .int 0, .ref xq49, .ref xq50])), (xq49, .inl (cy 0, 192, .inl (fun _ => 0))), (xq50, .inl (cy 0, 192, .inl (fun _ => 0)))] H := hP
  have hD : va_D A [(h0, .inr (10, [.ref nq1, .ref nq10, .ref nq31, .ref nq40, .ref nq43, .ref nq46, .int 0, .int 0])), (nq1, .inr (7, [.ref xq3, .ref xq4, .ref xq5, .ref xq6, .ref xq7, .int 0])), (xq3, .inl (cy 0, 192, .inl xf8)), (xq4, .inl (cy 0, 40, .inl (fun _ => 0))), (xq5, .inl (cy 0, 40, .inl (fun _ => 0))), (xq6, .inl (cy 0, 40, .inl (fun _ => 0))), (xq7, .inl (cy 0, 40, .inl (fun _ => 0))), (nq10, .inr (2, [.int 5, .int 9, .int 0, .ref xq12, .ref xq13, .ref xq14, .ref xq15])), (xq12, .inl (cy 0, 5, .inl xf25)), (xq13, .inl (cy 0, 5, .inl (fun _ => 0))), (xq14, .inl (cy 3, 3, .inr (.inr (.inr (.inr xg26))))), (xq16, .inr (1, [.ref xq19, .ref xq22, .int 0])), (xq19, .inl (cy 0, 48, .inl (fun _ => 0))), (xq17, .inr (1, [.ref xq20, .ref xq23, .int 0])), (xq20, .inl (cy 0, 48, .inl (fun _ => 0))), (xq18, .inr (1, [.ref xq21, .ref xq24, .int 0])), (xq21, .inl (cy 0, 48, .inl (fun _ => 0))), (nq31, .inr (3, [.ref xq33, .ref xq34, .ref xq35, .int 0, .ref xq36, .ref xq37, .int 0, .int 0, .int 0])), (xq33, .inl (cy 0, 7, .inl (fun _ => 0))), (xq34, .inl (cy 0, 7, .inl (fun _ => 0))), (xq35, .inl (cy 0, 7, .inl (fun _ => 0))), (xq36, .inr (5, [.ref xq38, .int 0])), (xq38, .inl (cy 0, 7, .inl (fun _ => 0))), (xq37, .inr (5, [.ref xq39, .int 0])), (xq39, .inl (cy 0, 7, .inl (fun _ => 0))), (nq40, .inr (5, [.ref xq42, .int 0])), (xq42, .inl (cy 0, 48, .inl (fun _ => 0))), (nq43, .inr (5, [.ref xq45, .int 0])), (xq45, .inl (cy 0, 24, .inl (fun _ => 0))), (nq46, .inl (cy 4, 8, .inr (.inr (.inr (.inr (fun _ => none)))))), (nq47, .inr (9, [.int 0, .int 0, .int 0, .int 5, .int 60, .int 0, .int 0, .int 0, .int 0, .ref xq49, .ref xq50])), (xq49, .inl (cy 0, 192, .inl (fun _ => 0))), (xq50, .inl (cy 0, 192, .inl (fun _ => 0)))] := hD
  refine va_astq hx hb hE.1 hP hD hS 29 4 30 9 rfl rfl rfl rfl (vinL (by decide)) dX10_init_102 (fun H locs hP hD hS => ?_)
  have hP : va_P G classes [(h0, .inr (10, [.ref nq1, .ref nq10, .ref nq31, .ref nq40, .ref nq43, .ref nq46, .int 0, .int 0])), (nq1, .inr (7, [.ref xq3, .ref xq4, .ref xq5, .ref xq6, .ref xq7, .int 0])), (xq3, .inl (cy 0, 192, .inl xf8)), (xq4, .inl (cy 0, 40, .inl (fun _ => 0))), (xq5, .inl (cy 0, 40, .inl (fun _ => 0))), (xq6, .inl (cy 0, 40, .inl (fun _ => 0))), (xq7, .inl (cy 0, 40, .inl (fun _ => 0))), (nq10, .inr (2, [.int 5, .int 9, .int 0, .ref xq12, .ref xq13, .ref xq14, .ref xq15])), (xq12, .inl (cy 0, 5, .inl xf25)), (xq13, .inl (cy 0, 5, .inl (fun _ => 0))), (xq14, .inl (cy 3, 3, .inr (.inr (.inr (.inr xg26))))), (xq16, .inr (1, [.ref xq19, .ref xq22, .int 0])), (xq19, .inl (cy 0, 48, .inl (fun _ => 0))), (xq17, .inr (1, [.ref xq20, .ref xq23, .int 0])), (xq20, .inl (cy 0, 48, .inl (fun _ => 0))), (xq18, .inr (1, [.ref xq21, .ref xq24, .int 0])), (xq21, .inl (cy 0, 48, .inl (fun _ => 0))), (nq31, .inr (3, [.ref xq33, .ref xq34, .ref xq35, .int 0, .ref xq36, .ref xq37, .int 0, .int 0, .int 0])), (xq33, .inl (cy 0, 7, .inl (fun _ => 0))), (xq34, .inl (cy 0, 7, .inl (fun _ => 0))), (xq35, .inl (cy 0, 7, .inl (fun _ => 0))), (xq36, .inr (5, [.ref xq38, .int 0])), (xq38, .inl (cy 0, 7, .inl (fun _ => 0))), (xq37, .inr (5, [.ref xq39, .int 0])), (xq39, .inl (cy 0, 7, .inl (fun _ => 0))), (nq40, .inr (5, [.ref xq42, .int 0])), (xq42, .inl (cy 0, 48, .inl (fun _ => 0))), (nq43, .inr (5, [.ref xq45, .int 0])), (xq45, .inl (cy 0, 24, .inl (fun _ => 0))), (nq46, .inl (cy 4, 8, .inr (.inr (.inr (.inr (va_up (fun _ => none) 0 (some nq47))))))), (nq47, .inr (9, [.int 0, .int 0, .int 0, .int 5, .int 60, .int 0, .int 0, .int 0, .int 0, .ref xq49, .ref xq50])), (xq49, .inl (cy 0, 192, .inl (fun _ => 0))), (xq50, .inl (cy 0, 192, .inl (fun _ => 0)))] H := hP
  have hD : va_D A [(h0, .inr (10, [.ref nq1, .ref nq10, .ref nq31, .ref nq40, .ref nq43, .ref nq46, .int 0, .int 0])), (nq1, .inr (7, [.ref xq3, .ref xq4, .ref xq5, .ref xq6, .ref xq7, .int 0])), (xq3, .inl (cy 0, 192, .inl xf8)), (xq4, .inl (cy 0, 40, .inl (fun _ => 0))), (xq5, .inl (cy 0, 40, .inl (fun _ => 0))), (xq6, .inl (cy 0, 40, .inl (fun _ => 0))), (xq7, .inl (cy 0, 40, .inl (fun _ => 0))), (nq10, .inr (2, [.int 5, .int 9, .int 0, .ref xq12, .ref xq13, .ref xq14, .ref xq15])), (xq12, .inl (cy 0, 5, .inl xf25)), (xq13, .inl (cy 0, 5, .inl (fun _ => 0))), (xq14, .inl (cy 3, 3, .inr (.inr (.inr (.inr xg26))))), (xq16, .inr (1, [.ref xq19, .ref xq22, .int 0])), (xq19, .inl (cy 0, 48, .inl (fun _ => 0))), (xq17, .inr (1, [.ref xq20, .ref xq23, .int 0])), (xq20, .inl (cy 0, 48, .inl (fun _ => 0))), (xq18, .inr (1, [.ref xq21, .ref xq24, .int 0])), (xq21, .inl (cy 0, 48, .inl (fun _ => 0))), (nq31, .inr (3, [.ref xq33, .ref xq34, .ref xq35, .int 0, .ref xq36, .ref xq37, .int 0, .int 0, .int 0])), (xq33, .inl (cy 0, 7, .inl (fun _ => 0))), (xq34, .inl (cy 0, 7, .inl (fun _ => 0))), (xq35, .inl (cy 0, 7, .inl (fun _ => 0))), (xq36, .inr (5, [.ref xq38, .int 0])), (xq38, .inl (cy 0, 7, .inl (fun _ => 0))), (xq37, .inr (5, [.ref xq39, .int 0])), (xq39, .inl (cy 0, 7, .inl (fun _ => 0))), (nq40, .inr (5, [.ref xq42, .int 0])), (xq42, .inl (cy 0, 48, .inl (fun _ => 0))), (nq43, .inr (5, [.ref xq45, .int 0])), (xq45, .inl (cy 0, 24, .inl (fun _ => 0))), (nq46, .inl (cy 4, 8, .inr (.inr (.inr (.inr (va_up (fun _ => none) 0 (some nq47))))))), (nq47, .inr (9, [.int 0, .int 0, .int 0, .int 5, .int 60, .int 0, .int 0, .int 0, .int 0, .ref xq49, .ref xq50])), (xq49, .inl (cy 0, 192, .inl (fun _ => 0))), (xq50, .inl (cy 0, 192, .inl (fun _ => 0)))] := hD
  refine lv_iinc (v := 1) (lv' := [(1, .int 1), (0, .ref h0)]) hx hb dX10_init_103 hl (k := 0) rfl (by decide) (by decide) rfl (fun ls hl => ?_)
  refine lv_goto (tgt := 84) hx hb dX10_init_106 (by decide) ?_
  refine lv_iload_n hx hb dX10_init_84 rfl (lv_at hl 0 rfl) ?_
  refine lv_bipush (v := 8) hx hb dX10_init_85 (by decide) ?_
  refine lv_icmp_ge (tgt := 109) hx hb dX10_init_87 (by decide) (fun h9 => absurd h9 (by decide)) (fun _ => ?_)
  refine lv_aload_n hx hb dX10_init_90 rfl (lv_at hl 1 rfl) ?_
  refine va_get (D := G) (ci := 10) (v := .ref nq46) (C := RX10) (T := TX10) (N := 8) hx hb hts inB10 hown hE.1 hP 0 rfl rfl 5 (by decide) (hts _ m_321) (fun _ h9 => h9) rfl dX10_init_91 ?_
  refine lv_iload_n hx hb dX10_init_94 rfl (lv_at hl 0 rfl) ?_
  refine va_new (ci := 9) (fs := [.int 0, .int 0, .int 0, .int 0, .int 0, .int 0, .int 0, .int 0, .int 0, .null, .null]) (C := RX9) (T := TX9) (N := 11) hx hb hts inB9 tyX9 tyX9_ok hown (hts _ m_251) (hts _ m_253) (hts _ m_87) hE.1 hP hD hS hA rfl df9 (Nat.le_of_ble_eq_true rfl) (Nat.le_of_ble_eq_true rfl) dX10_init_95 (fun nq51 H hP hD hS => ?_)
  have hP : va_P G classes [(h0, .inr (10, [.ref nq1, .ref nq10, .ref nq31, .ref nq40, .ref nq43, .ref nq46, .int 0, .int 0])), (nq1, .inr (7, [.ref xq3, .ref xq4, .ref xq5, .ref xq6, .ref xq7, .int 0])), (xq3, .inl (cy 0, 192, .inl xf8)), (xq4, .inl (cy 0, 40, .inl (fun _ => 0))), (xq5, .inl (cy 0, 40, .inl (fun _ => 0))), (xq6, .inl (cy 0, 40, .inl (fun _ => 0))), (xq7, .inl (cy 0, 40, .inl (fun _ => 0))), (nq10, .inr (2, [.int 5, .int 9, .int 0, .ref xq12, .ref xq13, .ref xq14, .ref xq15])), (xq12, .inl (cy 0, 5, .inl xf25)), (xq13, .inl (cy 0, 5, .inl (fun _ => 0))), (xq14, .inl (cy 3, 3, .inr (.inr (.inr (.inr xg26))))), (xq16, .inr (1, [.ref xq19, .ref xq22, .int 0])), (xq19, .inl (cy 0, 48, .inl (fun _ => 0))), (xq17, .inr (1, [.ref xq20, .ref xq23, .int 0])), (xq20, .inl (cy 0, 48, .inl (fun _ => 0))), (xq18, .inr (1, [.ref xq21, .ref xq24, .int 0])), (xq21, .inl (cy 0, 48, .inl (fun _ => 0))), (nq31, .inr (3, [.ref xq33, .ref xq34, .ref xq35, .int 0, .ref xq36, .ref xq37, .int 0, .int 0, .int 0])), (xq33, .inl (cy 0, 7, .inl (fun _ => 0))), (xq34, .inl (cy 0, 7, .inl (fun _ => 0))), (xq35, .inl (cy 0, 7, .inl (fun _ => 0))), (xq36, .inr (5, [.ref xq38, .int 0])), (xq38, .inl (cy 0, 7, .inl (fun _ => 0))), (xq37, .inr (5, [.ref xq39, .int 0])), (xq39, .inl (cy 0, 7, .inl (fun _ => 0))), (nq40, .inr (5, [.ref xq42, .int 0])), (xq42, .inl (cy 0, 48, .inl (fun _ => 0))), (nq43, .inr (5, [.ref xq45, .int 0])), (xq45, .inl (cy 0, 24, .inl (fun _ => 0))), (nq46, .inl (cy 4, 8, .inr (.inr (.inr (.inr (va_up (fun _ => none) 0 (some nq47))))))), (nq47, .inr (9, [.int 0, .int 0, .int 0, .int 5, .int 60, .int 0, .int 0, .int 0, .int 0, .ref xq49, .ref xq50])), (xq49, .inl (cy 0, 192, .inl (fun _ => 0))), (xq50, .inl (cy 0, 192, .inl (fun _ => 0))), (nq51, .inr (9, [.int 0, .int 0, .int 0, .int 0, .int 0, .int 0, .int 0, .int 0, .int 0, .null, .null]))] H := hP
  have hD : va_D A [(h0, .inr (10, [.ref nq1, .ref nq10, .ref nq31, .ref nq40, .ref nq43, .ref nq46, .int 0, .int 0])), (nq1, .inr (7, [.ref xq3, .ref xq4, .ref xq5, .ref xq6, .ref xq7, .int 0])), (xq3, .inl (cy 0, 192, .inl xf8)), (xq4, .inl (cy 0, 40, .inl (fun _ => 0))), (xq5, .inl (cy 0, 40, .inl (fun _ => 0))), (xq6, .inl (cy 0, 40, .inl (fun _ => 0))), (xq7, .inl (cy 0, 40, .inl (fun _ => 0))), (nq10, .inr (2, [.int 5, .int 9, .int 0, .ref xq12, .ref xq13, .ref xq14, .ref xq15])), (xq12, .inl (cy 0, 5, .inl xf25)), (xq13, .inl (cy 0, 5, .inl (fun _ => 0))), (xq14, .inl (cy 3, 3, .inr (.inr (.inr (.inr xg26))))), (xq16, .inr (1, [.ref xq19, .ref xq22, .int 0])), (xq19, .inl (cy 0, 48, .inl (fun _ => 0))), (xq17, .inr (1, [.ref xq20, .ref xq23, .int 0])), (xq20, .inl (cy 0, 48, .inl (fun _ => 0))), (xq18, .inr (1, [.ref xq21, .ref xq24, .int 0])), (xq21, .inl (cy 0, 48, .inl (fun _ => 0))), (nq31, .inr (3, [.ref xq33, .ref xq34, .ref xq35, .int 0, .ref xq36, .ref xq37, .int 0, .int 0, .int 0])), (xq33, .inl (cy 0, 7, .inl (fun _ => 0))), (xq34, .inl (cy 0, 7, .inl (fun _ => 0))), (xq35, .inl (cy 0, 7, .inl (fun _ => 0))), (xq36, .inr (5, [.ref xq38, .int 0])), (xq38, .inl (cy 0, 7, .inl (fun _ => 0))), (xq37, .inr (5, [.ref xq39, .int 0])), (xq39, .inl (cy 0, 7, .inl (fun _ => 0))), (nq40, .inr (5, [.ref xq42, .int 0])), (xq42, .inl (cy 0, 48, .inl (fun _ => 0))), (nq43, .inr (5, [.ref xq45, .int 0])), (xq45, .inl (cy 0, 24, .inl (fun _ => 0))), (nq46, .inl (cy 4, 8, .inr (.inr (.inr (.inr (va_up (fun _ => none) 0 (some nq47))))))), (nq47, .inr (9, [.int 0, .int 0, .int 0, .int 5, .int 60, .int 0, .int 0, .int 0, .int 0, .ref xq49, .ref xq50])), (xq49, .inl (cy 0, 192, .inl (fun _ => 0))), (xq50, .inl (cy 0, 192, .inl (fun _ => 0))), (nq51, .inr (9, [.int 0, .int 0, .int 0, .int 0, .int 0, .int 0, .int 0, .int 0, .int 0, .null, .null]))] := hD
  refine lv_dup hx hb dX10_init_98 rfl ?_
  refine wIN (B := (B_c_X9_init G cy (va_A [(nq51, .inr (9, [.int 0, .int 0, .int 0, .int 0, .int 0, .int 0, .int 0, .int 0, .int 0, .null, .null]))] H.size) nq51)) (wr := [(h0, .inr (10, [.ref nq1, .ref nq10, .ref nq31, .ref nq40, .ref nq43, .ref nq46, .int 0, .int 0])), (nq1, .inr (7, [.ref xq3, .ref xq4, .ref xq5, .ref xq6, .ref xq7, .int 0])), (xq3, .inl (cy 0, 192, .inl xf8)), (xq4, .inl (cy 0, 40, .inl (fun _ => 0))), (xq5, .inl (cy 0, 40, .inl (fun _ => 0))), (xq6, .inl (cy 0, 40, .inl (fun _ => 0))), (xq7, .inl (cy 0, 40, .inl (fun _ => 0))), (nq10, .inr (2, [.int 5, .int 9, .int 0, .ref xq12, .ref xq13, .ref xq14, .ref xq15])), (xq12, .inl (cy 0, 5, .inl xf25)), (xq13, .inl (cy 0, 5, .inl (fun _ => 0))), (xq14, .inl (cy 3, 3, .inr (.inr (.inr (.inr xg26))))), (xq16, .inr (1, [.ref xq19, .ref xq22, .int 0])), (xq19, .inl (cy 0, 48, .inl (fun _ => 0))), (xq17, .inr (1, [.ref xq20, .ref xq23, .int 0])), (xq20, .inl (cy 0, 48, .inl (fun _ => 0))), (xq18, .inr (1, [.ref xq21, .ref xq24, .int 0])), (xq21, .inl (cy 0, 48, .inl (fun _ => 0))), (nq31, .inr (3, [.ref xq33, .ref xq34, .ref xq35, .int 0, .ref xq36, .ref xq37, .int 0, .int 0, .int 0])), (xq33, .inl (cy 0, 7, .inl (fun _ => 0))), (xq34, .inl (cy 0, 7, .inl (fun _ => 0))), (xq35, .inl (cy 0, 7, .inl (fun _ => 0))), (xq36, .inr (5, [.ref xq38, .int 0])), (xq38, .inl (cy 0, 7, .inl (fun _ => 0))), (xq37, .inr (5, [.ref xq39, .int 0])), (xq39, .inl (cy 0, 7, .inl (fun _ => 0))), (nq40, .inr (5, [.ref xq42, .int 0])), (xq42, .inl (cy 0, 48, .inl (fun _ => 0))), (nq43, .inr (5, [.ref xq45, .int 0])), (xq45, .inl (cy 0, 24, .inl (fun _ => 0))), (nq46, .inl (cy 4, 8, .inr (.inr (.inr (.inr (va_up (fun _ => none) 0 (some nq47))))))), (nq47, .inr (9, [.int 0, .int 0, .int 0, .int 5, .int 60, .int 0, .int 0, .int 0, .int 0, .ref xq49, .ref xq50])), (xq49, .inl (cy 0, 192, .inl (fun _ => 0))), (xq50, .inl (cy 0, 192, .inl (fun _ => 0)))]) (rest := [.ref nq51, .int 1, .ref nq46]) (host := "ClickStreet") hx hb hml hown hts hE (c_X9_init l G cy sk H.size nq51) kI_X9_init (by decide +kernel) rfl rfl ⟨(Nat.le_of_ble_eq_true rfl), (Nat.le_of_ble_eq_true rfl)⟩ hP hD hS hA [33] [0, 1, 2, 3, 4, 5, 6, 7, 8, 9, 10, 11, 12, 13, 14, 15, 16, 17, 18, 19, 20, 21, 22, 23, 24, 25, 26, 27, 28, 29, 30, 31, 32] rfl rfl rfl rfl (by decide) rfl rfl hl.1 (Nat.le_of_ble_eq_true rfl) dX10_init_99 ⟨(Nat.le_of_ble_eq_true rfl), (Nat.le_of_ble_eq_true rfl)⟩ (fun H locs haf hS => ?_)
  obtain ⟨xq53, xq54, hP1, hD1⟩ := haf.1
  obtain ⟨hP, hD⟩ := haf.2.1 _ hP1 hD1
  have hP : va_P G classes [(h0, .inr (10, [.ref nq1, .ref nq10, .ref nq31, .ref nq40, .ref nq43, .ref nq46, .int 0, .int 0])), (nq1, .inr (7, [.ref xq3, .ref xq4, .ref xq5, .ref xq6, .ref xq7, .int 0])), (xq3, .inl (cy 0, 192, .inl xf8)), (xq4, .inl (cy 0, 40, .inl (fun _ => 0))), (xq5, .inl (cy 0, 40, .inl (fun _ => 0))), (xq6, .inl (cy 0, 40, .inl (fun _ => 0))), (xq7, .inl (cy 0, 40, .inl (fun _ => 0))), (nq10, .inr (2, [.int 5, .int 9, .int 0, .ref xq12, .ref xq13, .ref xq14, .ref xq15])), (xq12, .inl (cy 0, 5, .inl xf25)), (xq13, .inl (cy 0, 5, .inl (fun _ => 0))), (xq14, .inl (cy 3, 3, .inr (.inr (.inr (.inr xg26))))), (xq16, .inr (1, [.ref xq19, .ref xq22, .int 0])), (xq19, .inl (cy 0, 48, .inl (fun _ => 0))), (xq17, .inr (1, [.ref xq20, .ref xq23, .int 0])), (xq20, .inl (cy 0, 48, .inl (fun _ => 0))), (xq18, .inr (1, [.ref xq21, .ref xq24, .int 0])), (xq21, .inl (cy 0, 48, .inl (fun _ => 0))), (nq31, .inr (3, [.ref xq33, .ref xq34, .ref xq35, .int 0, .ref xq36, .ref xq37, .int 0, .int 0, .int 0])), (xq33, .inl (cy 0, 7, .inl (fun _ => 0))), (xq34, .inl (cy 0, 7, .inl (fun _ => 0))), (xq35, .inl (cy 0, 7, .inl (fun _ => 0))), (xq36, .inr (5, [.ref xq38, .int 0])), (xq38, .inl (cy 0, 7, .inl (fun _ => 0))), (xq37, .inr (5, [.ref xq39, .int 0])), (xq39, .inl (cy 0, 7, .inl (fun _ => 0))), (nq40, .inr (5, [.ref xq42, .int 0])), (xq42, .inl (cy 0, 48, .inl (fun _ => 0))), (nq43, .inr (5, [.ref xq45, .int 0])), (xq45, .inl (cy 0, 24, .inl (fun _ => 0))), (nq46, .inl (cy 4, 8, .inr (.inr (.inr (.inr (va_up (fun _ => none) 0 (some nq47))))))), (nq47, .inr (9, [.int 0, .int 0, .int 0, .int 5, .int 60, .int 0, .int 0, .int 0, .int 0, .ref xq49, .ref xq50])), (xq49, .inl (cy 0, 192, .inl (fun _ => 0))), (xq50, .inl (cy 0, 192, .inl (fun _ => 0))), (nq51, .inr (9, [.int 0, .int 0, .int 0, .int 5, .int 60, .int 0, .int 0, .int 0, .int 0, .ref xq53, .ref xq54])), (xq53, .inl (cy 0, 192, .inl (fun _ => 0))), (xq54, .inl (cy 0, 192, .inl (fun _ => 0)))] H := hP
  have hD : va_D A [(h0, .inr (10, [.ref nq1, .ref nq10, .ref nq31, .ref nq40, .ref nq43, .ref nq46, .int 0, .int 0])), (nq1, .inr (7, [.ref xq3, .ref xq4, .ref xq5, .ref xq6, .ref xq7, .int 0])), (xq3, .inl (cy 0, 192, .inl xf8)), (xq4, .inl (cy 0, 40, .inl (fun _ => 0))), (xq5, .inl (cy 0, 40, .inl (fun _ => 0))), (xq6, .inl (cy 0, 40, .inl (fun _ => 0))), (xq7, .inl (cy 0, 40, .inl (fun _ => 0))), (nq10, .inr (2, [.int 5, .int 9, .int 0, .ref xq12, .ref xq13, .ref xq14, .ref xq15])), (xq12, .inl (cy 0, 5, .inl xf25)), (xq13, .inl (cy 0, 5, .inl (fun _ => 0))), (xq14, .inl (cy 3, 3, .inr (.inr (.inr (.inr xg26))))), (xq16, .inr (1, [.ref xq19, .ref xq22, .int 0])), (xq19, .inl (cy 0, 48, .inl (fun _ => 0))), (xq17, .inr (1, [.ref xq20, .ref xq23, .int 0])), (xq20, .inl (cy 0, 48, .inl (fun _ => 0))), (xq18, .inr (1, [.ref xq21, .ref xq24, .int 0])), (xq21, .inl (cy 0, 48, .inl (fun _ => 0))), (nq31, .inr (3, [.ref xq33, .ref xq34, .ref xq35, .int 0, .ref xq36, .ref xq37, .int 0, .int 0, .int 0])), (xq33, .inl (cy 0, 7, .inl (fun _ => 0))), (xq34, .inl (cy 0, 7, .inl (fun _ => 0))), (xq35, .inl (cy 0, 7, .inl (fun _ => 0))), (xq36, .inr (5, [.ref xq38, .int 0])), (xq38, .inl (cy 0, 7, .inl (fun _ => 0))), (xq37, .inr (5, [.ref xq39, .int 0])), (xq39, .inl (cy 0, 7, .inl (fun _ => 0))), (nq40, .inr (5, [.ref xq42, .int 0])), (xq42, .inl (cy 0, 48, .inl (fun _ => 0))), (nq43, .inr (5, [.ref xq45, .int 0])), (xq45, .inl (cy 0, 24, .inl (fun _ => 0))), (nq46, .inl (cy 4, 8, .inr (.inr (.inr (.inr (va_up (fun _ => none) 0 (some nq47))))))), (nq47, .inr (9, [.int 0, .int 0, .int 0, .int 5, .int 60, .int 0, .int 0, .int 0, .int 0, .ref xq49, .ref xq50])), (xq49, .inl (cy 0, 192, .inl (fun _ => 0))), (xq50, .inl (cy 0, 192, .inl (fun _ => 0))), (nq51, .inr (9, [.int 0, .int 0, .int 0, .int 5, .int 60, .int 0, .int 0, .int 0, .int 0, .ref xq53, .ref xq54])), (xq53, .inl (cy 0, 192, .inl (fun _ => 0))), (xq54, .inl (cy 0, 192, .inl (fun _ => 0)))] := hD
  refine va_astq hx hb hE.1 hP hD hS 29 4 33 9 rfl rfl rfl rfl (vinL (by decide)) dX10_init_102 (fun H locs hP hD hS => ?_)
  have hP : va_P G classes [(h0, .inr (10, [.ref nq1, .ref nq10, .ref nq31, .ref nq40, .ref nq43, .ref nq46, .int 0, .int 0])), (nq1, .inr (7, [.ref xq3, .ref xq4, .ref xq5, .ref xq6, .ref xq7, .int 0])), (xq3, .inl (cy 0, 192, .inl xf8)), (xq4, .inl (cy 0, 40, .inl (fun _ => 0))), (xq5, .inl (cy 0, 40, .inl (fun _ => 0))), (xq6, .inl (cy 0, 40, .inl (fun _ => 0))), (xq7, .inl (cy 0, 40, .inl (fun _ => 0))), (nq10, .inr (2, [.int 5, .int 9, .int 0, .ref xq12, .ref xq13, .ref xq14, .ref xq15])), (xq12, .inl (cy 0, 5, .inl xf25)), (xq13, .inl (cy 0, 5, .inl (fun _ => 0))), (xq14, .inl (cy 3, 3, .inr (.inr (.inr (.inr xg26))))), (xq16, .inr (1, [.ref xq19, .ref xq22, .int 0])), (xq19, .inl (cy 0, 48, .inl (fun _ => 0))), (xq17, .inr (1, [.ref xq20, .ref xq23, .int 0])), (xq20, .inl (cy 0, 48, .inl (fun _ => 0))), (xq18, .inr (1, [.ref xq21, .ref xq24, .int 0])), (xq21, .inl (cy 0, 48, .inl (fun _ => 0))), (nq31, .inr (3, [.ref xq33, .ref xq34, .ref xq35, .int 0, .ref xq36, .ref xq37, .int 0, .int 0, .int 0])), (xq33, .inl (cy 0, 7, .inl (fun _ => 0))), (xq34, .inl (cy 0, 7, .inl (fun _ => 0))), (xq35, .inl (cy 0, 7, .inl (fun _ => 0))), (xq36, .inr (5, [.ref xq38, .int 0])), (xq38, .inl (cy 0, 7, .inl (fun _ => 0))), (xq37, .inr (5, [.ref xq39, .int 0])), (xq39, .inl (cy 0, 7, .inl (fun _ => 0))), (nq40, .inr (5, [.ref xq42, .int 0])), (xq42, .inl (cy 0, 48, .inl (fun _ => 0))), (nq43, .inr (5, [.ref xq45, .int 0])), (xq45, .inl (cy 0, 24, .inl (fun _ => 0))), (nq46, .inl (cy 4, 8, .inr (.inr (.inr (.inr (va_up (va_up (fun _ => none) 0 (some nq47)) 1 (some nq51))))))), (nq47, .inr (9, [.int 0, .int 0, .int 0, .int 5, .int 60, .int 0, .int 0, .int 0, .int 0, .ref xq49, .ref xq50])), (xq49, .inl (cy 0, 192, .inl (fun _ => 0))), (xq50, .inl (cy 0, 192, .inl (fun _ => 0))), (nq51, .inr (9, [.int 0, .int 0, .int 0, .int 5, .int 60, .int 0, .int 0, .int 0, .int 0, .ref xq53, .ref xq54])), (xq53, .inl (cy 0, 192, .inl (fun _ => 0))), (xq54, .inl (cy 0, 192, .inl (fun _ => 0)))] H := hP
  have hD : va_D A [(h0, .inr (10, [.ref nq1, .ref nq10, .ref nq31, .ref nq40, .ref nq43, .ref nq46, .int 0, .int 0])), (nq1, .inr (7, [.ref xq3, .ref xq4, .ref xq5, .ref xq6, .ref xq7, .int 0])), (xq3, .inl (cy 0, 192, .inl xf8)), (xq4, .inl (cy 0, 40, .inl (fun _ => 0))), (xq5, .inl (cy 0, 40, .inl (fun _ => 0))), (xq6, .inl (cy 0, 40, .inl (fun _ => 0))), (xq7, .inl (cy 0, 40, .inl (fun _ => 0))), (nq10, .inr (2, [.int 5, .int 9, .int 0, .ref xq12, .ref xq13, .ref xq14, .ref xq15])), (xq12, .inl (cy 0, 5, .inl xf25)), (xq13, .inl (cy 0, 5, .inl (fun _ => 0))), (xq14, .inl (cy 3, 3, .inr (.inr (.inr (.inr xg26))))), (xq16, .inr (1, [.ref xq19, .ref xq22, .int 0])), (xq19, .inl (cy 0, 48, .inl (fun _ => 0))), (xq17, .inr (1, [.ref xq20, .ref xq23, .int 0])), (xq20, .inl (cy 0, 48, .inl (fun _ => 0))), (xq18, .inr (1, [.ref xq21, .ref xq24, .int 0])), (xq21, .inl (cy 0, 48, .inl (fun _ => 0))), (nq31, .inr (3, [.ref xq33, .ref xq34, .ref xq35, .int 0, .ref xq36, .ref xq37, .int 0, .int 0, .int 0])), (xq33, .inl (cy 0, 7, .inl (fun _ => 0))), (xq34, .inl (cy 0, 7, .inl (fun _ => 0))), (xq35, .inl (cy 0, 7, .inl (fun _ => 0))), (xq36, .inr (5, [.ref xq38, .int 0])), (xq38, .inl (cy 0, 7, .inl (fun _ => 0))), (xq37, .inr (5, [.ref xq39, .int 0])), (xq39, .inl (cy 0, 7, .inl (fun _ => 0))), (nq40, .inr (5, [.ref xq42, .int 0])), (xq42, .inl (cy 0, 48, .inl (fun _ => 0))), (nq43, .inr (5, [.ref xq45, .int 0])), (xq45, .inl (cy 0, 24, .inl (fun _ => 0))), (nq46, .inl (cy 4, 8, .inr (.inr (.inr (.inr (va_up (va_up (fun _ => none) 0 (some nq47)) 1 (some nq51))))))), (nq47, .inr (9, [.int 0, .int 0, .int 0, .int 5, .int 60, .int 0, .int 0, .int 0, .int 0, .ref xq49, .ref xq50])), (xq49, .inl (cy 0, 192, .inl (fun _ => 0))), (xq50, .inl (cy 0, 192, .inl (fun _ => 0))), (nq51, .inr (9, [.int 0, .int 0, .int 0, .int 5, .int 60, .int 0, .int 0, .int 0, .int 0, .ref xq53, .ref xq54])), (xq53, .inl (cy 0, 192, .inl (fun _ => 0))), (xq54, .inl (cy 0, 192, .inl (fun _ => 0)))] := hD
  have hP := P_cut (wc := [(h0, .inr (10, [.ref nq1, .ref nq10, .ref nq31, .ref nq40, .ref nq43, .ref nq46, .int 0, .int 0])), (nq1, .inr (7, [.ref xq3, .ref xq4, .ref xq5, .ref xq6, .ref xq7, .int 0])), (xq3, .inl (cy 0, 192, .inl xf8)), (xq4, .inl (cy 0, 40, .inl (fun _ => 0))), (xq5, .inl (cy 0, 40, .inl (fun _ => 0))), (xq6, .inl (cy 0, 40, .inl (fun _ => 0))), (xq7, .inl (cy 0, 40, .inl (fun _ => 0))), (nq10, .inr (2, [.int 5, .int 9, .int 0, .ref xq12, .ref xq13, .ref xq14, .ref xq15])), (xq12, .inl (cy 0, 5, .inl xf25)), (xq13, .inl (cy 0, 5, .inl (fun _ => 0))), (xq14, .inl (cy 3, 3, .inr (.inr (.inr (.inr xg26))))), (xq16, .inr (1, [.ref xq19, .ref xq22, .int 0])), (xq19, .inl (cy 0, 48, .inl (fun _ => 0))), (xq17, .inr (1, [.ref xq20, .ref xq23, .int 0])), (xq20, .inl (cy 0, 48, .inl (fun _ => 0))), (xq18, .inr (1, [.ref xq21, .ref xq24, .int 0])), (xq21, .inl (cy 0, 48, .inl (fun _ => 0))), (nq31, .inr (3, [.ref xq33, .ref xq34, .ref xq35, .int 0, .ref xq36, .ref xq37, .int 0, .int 0, .int 0])), (xq33, .inl (cy 0, 7, .inl (fun _ => 0))), (xq34, .inl (cy 0, 7, .inl (fun _ => 0))), (xq35, .inl (cy 0, 7, .inl (fun _ => 0))), (xq36, .inr (5, [.ref xq38, .int 0])), (xq38, .inl (cy 0, 7, .inl (fun _ => 0))), (xq37, .inr (5, [.ref xq39, .int 0])), (xq39, .inl (cy 0, 7, .inl (fun _ => 0))), (nq40, .inr (5, [.ref xq42, .int 0])), (xq42, .inl (cy 0, 48, .inl (fun _ => 0))), (nq43, .inr (5, [.ref xq45, .int 0])), (xq45, .inl (cy 0, 24, .inl (fun _ => 0))), (nq46, .inl (cy 4, 8, .inr (.inr (.inr (.inr (va_up (va_up (fun _ => none) 0 (some nq47)) 1 (some nq51))))))), (nq47, .inr (9, [.int 0, .int 0, .int 0, .int 5, .int 60, .int 0, .int 0, .int 0, .int 0, .ref xq49, .ref xq50])), (xq49, .inl (cy 0, 192, .inl (fun _ => 0))), (xq50, .inl (cy 0, 192, .inl (fun _ => 0)))]) hP [0, 1, 2, 3, 4, 5, 6, 7, 8, 9, 10, 11, 12, 13, 14, 15, 16, 17, 18, 19, 20, 21, 22, 23, 24, 25, 26, 27, 28, 29, 30, 31, 32] rfl
  have hD := hD.sub (ws' := [(h0, .inr (10, [.ref nq1, .ref nq10, .ref nq31, .ref nq40, .ref nq43, .ref nq46, .int 0, .int 0])), (nq1, .inr (7, [.ref xq3, .ref xq4, .ref xq5, .ref xq6, .ref xq7, .int 0])), (xq3, .inl (cy 0, 192, .inl xf8)), (xq4, .inl (cy 0, 40, .inl (fun _ => 0))), (xq5, .inl (cy 0, 40, .inl (fun _ => 0))), (xq6, .inl (cy 0, 40, .inl (fun _ => 0))), (xq7, .inl (cy 0, 40, .inl (fun _ => 0))), (nq10, .inr (2, [.int 5, .int 9, .int 0, .ref xq12, .ref xq13, .ref xq14, .ref xq15])), (xq12, .inl (cy 0, 5, .inl xf25)), (xq13, .inl (cy 0, 5, .inl (fun _ => 0))), (xq14, .inl (cy 3, 3, .inr (.inr (.inr (.inr xg26))))), (xq16, .inr (1, [.ref xq19, .ref xq22, .int 0])), (xq19, .inl (cy 0, 48, .inl (fun _ => 0))), (xq17, .inr (1, [.ref xq20, .ref xq23, .int 0])), (xq20, .inl (cy 0, 48, .inl (fun _ => 0))), (xq18, .inr (1, [.ref xq21, .ref xq24, .int 0])), (xq21, .inl (cy 0, 48, .inl (fun _ => 0))), (nq31, .inr (3, [.ref xq33, .ref xq34, .ref xq35, .int 0, .ref xq36, .ref xq37, .int 0, .int 0, .int 0])), (xq33, .inl (cy 0, 7, .inl (fun _ => 0))), (xq34, .inl (cy 0, 7, .inl (fun _ => 0))), (xq35, .inl (cy 0, 7, .inl (fun _ => 0))), (xq36, .inr (5, [.ref xq38, .int 0])), (xq38, .inl (cy 0, 7, .inl (fun _ => 0))), (xq37, .inr (5, [.ref xq39, .int 0])), (xq39, .inl (cy 0, 7, .inl (fun _ => 0))), (nq40, .inr (5, [.ref xq42, .int 0])), (xq42, .inl (cy 0, 48, .inl (fun _ => 0))), (nq43, .inr (5, [.ref xq45, .int 0])), (xq45, .inl (cy 0, 24, .inl (fun _ => 0))), (nq46, .inl (cy 4, 8, .inr (.inr (.inr (.inr (va_up (va_up (fun _ => none) 0 (some nq47)) 1 (some nq51))))))), (nq47, .inr (9, [.int 0, .int 0, .int 0, .int 5, .int 60, .int 0, .int 0, .int 0, .int 0, .ref xq49, .ref xq50])), (xq49, .inl (cy 0, 192, .inl (fun _ => 0))), (xq50, .inl (cy 0, 192, .inl (fun _ => 0)))]) [0, 1, 2, 3, 4, 5, 6, 7, 8, 9, 10, 11, 12, 13, 14, 15, 16, 17, 18, 19, 20, 21, 22, 23, 24, 25, 26, 27, 28, 29, 30, 31, 32] (by decide) rfl
  refine lv_iinc (v := 2) (lv' := [(1, .int 2), (0, .ref h0)]) hx hb dX10_init_103 hl (k := 0) rfl (by decide) (by decide) rfl (fun ls hl => ?_)
  refine lv_goto (tgt := 84) hx hb dX10_init_106 (by decide) ?_
  refine lv_iload_n hx hb dX10_init_84 rfl (lv_at hl 0 rfl) ?_
  refine lv_bipush (v := 8) hx hb dX10_init_85 (by decide) ?_
  refine lv_icmp_ge (tgt := 109) hx hb dX10_init_87 (by decide) (fun h9 => absurd h9 (by decide)) (fun _ => ?_)
  refine lv_aload_n hx hb dX10_init_90 rfl (lv_at hl 1 rfl) ?_
  refine va_get (D := G) (ci := 10) (v := .ref nq46) (C := RX10) (T := TX10) (N := 8) hx hb hts inB10 hown hE.1 hP 0 rfl rfl 5 (by decide) (hts _ m_321) (fun _ h9 => h9) rfl dX10_init_91 ?_
  refine lv_iload_n hx hb dX10_init_94 rfl (lv_at hl 0 rfl) ?_
  refine va_new (ci := 9) (fs := [.int 0, .int 0, .int 0, .int 0, .int 0, .int 0, .int 0, .int 0, .int 0, .null, .null]) (C := RX9) (T := TX9) (N := 11) hx hb hts inB9 tyX9 tyX9_ok hown (hts _ m_251) (hts _ m_253) (hts _ m_87) hE.1 hP hD hS hA rfl df9 (Nat.le_of_ble_eq_true rfl) (Nat.le_of_ble_eq_true rfl) dX10_init_95 (fun nq55 H hP hD hS => ?_)
  have hP : va_P G classes [(h0, .inr (10, [.ref nq1, .ref nq10, .ref nq31, .ref nq40, .ref nq43, .ref nq46, .int 0, .int 0])), (nq1, .inr (7, [.ref xq3, .ref xq4, .ref xq5, .ref xq6, .ref xq7, .int 0])), (xq3, .inl (cy 0, 192, .inl xf8)), (xq4, .inl (cy 0, 40, .inl (fun _ => 0))), (xq5, .inl (cy 0, 40, .inl (fun _ => 0))), (xq6, .inl (cy 0, 40, .inl (fun _ => 0))), (xq7, .inl (cy 0, 40, .inl (fun _ => 0))), (nq10, .inr (2, [.int 5, .int 9, .int 0, .ref xq12, .ref xq13, .ref xq14, .ref xq15])), (xq12, .inl (cy 0, 5, .inl xf25)), (xq13, .inl (cy 0, 5, .inl (fun _ => 0))), (xq14, .inl (cy 3, 3, .inr (.inr (.inr (.inr xg26))))), (xq16, .inr (1, [.ref xq19, .ref xq22, .int 0])), (xq19, .inl (cy 0, 48, .inl (fun _ => 0))), (xq17, .inr (1, [.ref xq20, .ref xq23, .int 0])), (xq20, .inl (cy 0, 48, .inl (fun _ => 0))), (xq18, .inr (1, [.ref xq21, .ref xq24, .int 0])), (xq21, .inl (cy 0, 48, .inl (fun _ => 0))), (nq31, .inr (3, [.ref xq33, .ref xq34, .ref xq35, .int 0, .ref xq36, .ref xq37, .int 0, .int 0, .int 0])), (xq33, .inl (cy 0, 7, .inl (fun _ => 0))), (xq34, .inl (cy 0, 7, .inl (fun _ => 0))), (xq35, .inl (cy 0, 7, .inl (fun _ => 0))), (xq36, .inr (5, [.ref xq38, .int 0])), (xq38, .inl (cy 0, 7, .inl (fun _ => 0))), (xq37, .inr (5, [.ref xq39, .int 0])), (xq39, .inl (cy 0, 7, .inl (fun _ => 0))), (nq40, .inr (5, [.ref xq42, .int 0])), (xq42, .inl (cy 0, 48, .inl (fun _ => 0))), (nq43, .inr (5, [.ref xq45, .int 0])), (xq45, .inl (cy 0, 24, .inl (fun _ => 0))), (nq46, .inl (cy 4, 8, .inr (.inr (.inr (.inr (va_up (va_up (fun _ => none) 0 (some nq47)) 1 (some nq51))))))), (nq47, .inr (9, [.int 0, .int 0, .int 0, .int 5, .int 60, .int 0, .int 0, .int 0, .int 0, .ref xq49, .ref xq50])), (xq49, .inl (cy 0, 192, .inl (fun _ => 0))), (xq50, .inl (cy 0, 192, .inl (fun _ => 0))), (nq55, .inr (9, [.int 0, .int 0, .int 0, .int 0, .int 0, .int 0, .int 0, .int 0, .int 0, .null, .null]))] H := hP
  have hD : va_D A [(h0, .inr (10, [.ref nq1, .ref nq10, .ref nq31, .ref nq40, .ref nq43, .ref nq46, .int 0, .int 0])), (nq1, .inr (7, [.ref xq3, .ref xq4, .ref xq5, .ref xq6, .ref xq7, .int 0])), (xq3, .inl (cy 0, 192, .inl xf8)), (xq4, .inl (cy 0, 40, .inl (fun _ => 0))), (xq5, .inl (cy 0, 40, .inl (fun _ => 0))), (xq6, .inl (cy 0, 40, .inl (fun _ => 0))), (xq7, .inl (cy 0, 40, .inl (fun _ => 0))), (nq10, .inr (2, [.int 5, .int 9, .int 0, .ref xq12, .ref xq13, .ref xq14, .ref xq15])), (xq12, .inl (cy 0, 5, .inl xf25)), (xq13, .inl (cy 0, 5, .inl (fun _ => 0))), (xq14, .inl (cy 3, 3, .inr (.inr (.inr (.inr xg26))))), (xq16, .inr (1, [.ref xq19, .ref xq22, .int 0])), (xq19, .inl (cy 0, 48, .inl (fun _ => 0))), (xq17, .inr (1, [.ref xq20, .ref xq23, .int 0])), (xq20, .inl (cy 0, 48, .inl (fun _ => 0))), (xq18, .inr (1, [.ref xq21, .ref xq24, .int 0])), (xq21, .inl (cy 0, 48, .inl (fun _ => 0))), (nq31, .inr (3, [.ref xq33, .ref xq34, .ref xq35, .int 0, .ref xq36, .ref xq37, .int 0, .int 0, .int 0])), (xq33, .inl (cy 0, 7, .inl (fun _ => 0))), (xq34, .inl (cy 0, 7, .inl (fun _ => 0))), (xq35, .inl (cy 0, 7, .inl (fun _ => 0))), (xq36, .inr (5, [.ref xq38, .int 0])), (xq38, .inl (cy 0, 7, .inl (fun _ => 0))), (xq37, .inr (5, [.ref xq39, .int 0])), (xq39, .inl (cy 0, 7, .inl (fun _ => 0))), (nq40, .inr (5, [.ref xq42, .int 0])), (xq42, .inl (cy 0, 48, .inl (fun _ => 0))), (nq43, .inr (5, [.ref xq45, .int 0])), (xq45, .inl (cy 0, 24, .inl (fun _ => 0))), (nq46, .inl (cy 4, 8, .inr (.inr (.inr (.inr (va_up (va_up (fun _ => none) 0 (some nq47)) 1 (some nq51))))))), (nq47, .inr (9, [.int 0, .int 0, .int 0, .int 5, .int 60, .int 0, .int 0, .int 0, .int 0, .ref xq49, .ref xq50])), (xq49, .inl (cy 0, 192, .inl (fun _ => 0))), (xq50, .inl (cy 0, 192, .inl (fun _ => 0))), (nq55, .inr (9, [.int 0, .int 0, .int 0, .int 0, .int 0, .int 0, .int 0, .int 0, .int 0, .null, .null]))] := hD
  refine lv_dup hx hb dX10_init_98 rfl ?_
  refine wIN (B := (B_c_X9_init G cy (va_A [(nq55, .inr (9, [.int 0, .int 0, .int 0, .int 0, .int 0, .int 0, .int 0, .int 0, .int 0, .null, .null]))] H.size) nq55)) (wr := [(h0, .inr (10, [.ref nq1, .ref nq10, .ref nq31, .ref nq40, .ref nq43, .ref nq46, .int 0, .int 0])), (nq1, .inr (7, [.ref xq3, .ref xq4, .ref xq5, .ref xq6, .ref xq7, .int 0])), (xq3, .inl (cy 0, 192, .inl xf8)), (xq4, .inl (cy 0, 40, .inl (fun _ => 0))), (xq5, .inl (cy 0, 40, .inl (fun _ => 0))), (xq6, .inl (cy 0, 40, .inl (fun _ => 0))), (xq7, .inl (cy 0, 40, .inl (fun _ => 0))), (nq10, .inr (2, [.int 5, .int 9, .int 0, .ref xq12, .ref xq13, .ref xq14, .ref xq15])), (xq12, .inl (cy 0, 5, .inl xf25)), (xq13, .inl (cy 0, 5, .inl (fun _ => 0))), (xq14, .inl (cy 3, 3, .inr (.inr (.inr (.inr xg26))))), (xq16, .inr (1, [.ref xq19, .ref xq22, .int 0])), (xq19, .inl (cy 0, 48, .inl (fun _ => 0))), (xq17, .inr (1, [.ref xq20, .ref xq23, .int 0])), (xq20, .inl (cy 0, 48, .inl (fun _ => 0))), (xq18, .inr (1, [.ref xq21, .ref xq24, .int 0])), (xq21, .inl (cy 0, 48, .inl (fun _ => 0))), (nq31, .inr (3, [.ref xq33, .ref xq34, .ref xq35, .int 0, .ref xq36, .ref xq37, .int 0, .int 0, .int 0])), (xq33, .inl (cy 0, 7, .inl (fun _ => 0))), (xq34, .inl (cy 0, 7, .inl (fun _ => 0))), (xq35, .inl (cy 0, 7, .inl (fun _ => 0))), (xq36, .inr (5, [.ref xq38, .int 0])), (xq38, .inl (cy 0, 7, .inl (fun _ => 0))), (xq37, .inr (5, [.ref xq39, .int 0])), (xq39, .inl (cy 0, 7, .inl (fun _ => 0))), (nq40, .inr (5, [.ref xq42, .int 0])), (xq42, .inl (cy 0, 48, .inl (fun _ => 0))), (nq43, .inr (5, [.ref xq45, .int 0])), (xq45, .inl (cy 0, 24, .inl (fun _ => 0))), (nq46, .inl (cy 4, 8, .inr (.inr (.inr (.inr (va_up (va_up (fun _ => none) 0 (some nq47)) 1 (some nq51))))))), (nq47, .inr (9, [.int 0, .int 0, .int 0, .int 5, .int 60, .int 0, .int 0, .int 0, .int 0, .ref xq49, .ref xq50])), (xq49, .inl (cy 0, 192, .inl (fun _ => 0))), (xq50, .inl (cy 0, 192, .inl (fun _ => 0)))]) (rest := [.ref nq55, .int 2, .ref nq46]) (host := "ClickStreet") hx hb hml hown hts hE (c_X9_init l G cy sk H.size nq55) kI_X9_init (by decide +kernel) rfl rfl ⟨(Nat.le_of_ble_eq_true rfl), (Nat.le_of_ble_eq_true rfl)⟩ hP hD hS hA [33] [0, 1, 2, 3, 4, 5, 6, 7, 8, 9, 10, 11, 12, 13, 14, 15, 16, 17, 18, 19, 20, 21, 22, 23, 24, 25, 26, 27, 28, 29, 30, 31, 32] rfl rfl rfl rfl (by decide) rfl rfl hl.1 (Nat.le_of_ble_eq_true rfl) dX10_init_99 ⟨(Nat.le_of_ble_eq_true rfl), (Nat.le_of_ble_eq_true rfl)⟩ (fun H locs haf hS => ?_)
  obtain ⟨xq57, xq58, hP1, hD1⟩ := haf.1
  obtain ⟨hP, hD⟩ := haf.2.1 _ hP1 hD1
  have hP : va_P G classes [(h0, .inr (10, [.ref nq1, .ref nq10, .ref nq31, .ref nq40, .ref nq43, .ref nq46, .int 0, .int 0])), (nq1, .inr (7, [.ref xq3, .ref xq4, .ref xq5, .ref xq6, .ref xq7, .int 0])), (xq3, .inl (cy 0, 192, .inl xf8)), (xq4, .inl (cy 0, 40, .inl (fun _ => 0))), (xq5, .inl (cy 0, 40, .inl (fun _ => 0))), (xq6, .inl (cy 0, 40, .inl (fun _ => 0))), (xq7, .inl (cy 0, 40, .inl (fun _ => 0))), (nq10, .inr (2, [.int 5, .int 9, .int 0, .ref xq12, .ref xq13, .ref xq14, .ref xq15])), (xq12, .inl (cy 0, 5, .inl xf25)), (xq13, .inl (cy 0, 5, .inl (fun _ => 0))), (xq14, .inl (cy 3, 3, .inr (.inr (.inr (.inr xg26))))), (xq16, .inr (1, [.ref xq19, .ref xq22, .int 0])), (xq19, .inl (cy 0, 48, .inl (fun _ => 0))), (xq17, .inr (1, [.ref xq20, .ref xq23, .int 0])), (xq20, .inl (cy 0, 48, .inl (fun _ => 0))), (xq18, .inr (1, [.ref xq21, .ref xq24, .int 0])), (xq21, .inl (cy 0, 48, .inl (fun _ => 0))), (nq31, .inr (3, [.ref xq33, .ref xq34, .ref xq35, .int 0, .ref xq36, .ref xq37, .int 0, .int 0, .int 0])), (xq33, .inl (cy 0, 7, .inl (fun _ => 0))), (xq34, .inl (cy 0, 7, .inl (fun _ => 0))), (xq35, .inl (cy 0, 7, .inl (fun _ => 0))), (xq36, .inr (5, [.ref xq38, .int 0])), (xq38, .inl (cy 0, 7, .inl (fun _ => 0))), (xq37, .inr (5, [.ref xq39, .int 0])), (xq39, .inl (cy 0, 7, .inl (fun _ => 0))), (nq40, .inr (5, [.ref xq42, .int 0])), (xq42, .inl (cy 0, 48, .inl (fun _ => 0))), (nq43, .inr (5, [.ref xq45, .int 0])), (xq45, .inl (cy 0, 24, .inl (fun _ => 0))), (nq46, .inl (cy 4, 8, .inr (.inr (.inr (.inr (va_up (va_up (fun _ => none) 0 (some nq47)) 1 (some nq51))))))), (nq47, .inr (9, [.int 0, .int 0, .int 0, .int 5, .int 60, .int 0, .int 0, .int 0, .int 0, .ref xq49, .ref xq50])), (xq49, .inl (cy 0, 192, .inl (fun _ => 0))), (xq50, .inl (cy 0, 192, .inl (fun _ => 0))), (nq55, .inr (9, [.int 0, .int 0, .int 0, .int 5, .int 60, .int 0, .int 0, .int 0, .int 0, .ref xq57, .ref xq58])), (xq57, .inl (cy 0, 192, .inl (fun _ => 0))), (xq58, .inl (cy 0, 192, .inl (fun _ => 0)))] H := hP
  have hD : va_D A [(h0, .inr (10, [.ref nq1, .ref nq10, .ref nq31, .ref nq40, .ref nq43, .ref nq46, .int 0, .int 0])), (nq1, .inr (7, [.ref xq3, .ref xq4, .ref xq5, .ref xq6, .ref xq7, .int 0])), (xq3, .inl (cy 0, 192, .inl xf8)), (xq4, .inl (cy 0, 40, .inl (fun _ => 0))), (xq5, .inl (cy 0, 40, .inl (fun _ => 0))), (xq6, .inl (cy 0, 40, .inl (fun _ => 0))), (xq7, .inl (cy 0, 40, .inl (fun _ => 0))), (nq10, .inr (2, [.int 5, .int 9, .int 0, .ref xq12, .ref xq13, .ref xq14, .ref xq15])), (xq12, .inl (cy 0, 5, .inl xf25)), (xq13, .inl (cy 0, 5, .inl (fun _ => 0))), (xq14, .inl (cy 3, 3, .inr (.inr (.inr (.inr xg26))))), (xq16, .inr (1, [.ref xq19, .ref xq22, .int 0])), (xq19, .inl (cy 0, 48, .inl (fun _ => 0))), (xq17, .inr (1, [.ref xq20, .ref xq23, .int 0])), (xq20, .inl (cy 0, 48, .inl (fun _ => 0))), (xq18, .inr (1, [.ref xq21, .ref xq24, .int 0])), (xq21, .inl (cy 0, 48, .inl (fun _ => 0))), (nq31, .inr (3, [.ref xq33, .ref xq34, .ref xq35, .int 0, .ref xq36, .ref xq37, .int 0, .int 0, .int 0])), (xq33, .inl (cy 0, 7, .inl (fun _ => 0))), (xq34, .inl (cy 0, 7, .inl (fun _ => 0))), (xq35, .inl (cy 0, 7, .inl (fun _ => 0))), (xq36, .inr (5, [.ref xq38, .int 0])), (xq38, .inl (cy 0, 7, .inl (fun _ => 0))), (xq37, .inr (5, [.ref xq39, .int 0])), (xq39, .inl (cy 0, 7, .inl (fun _ => 0))), (nq40, .inr (5, [.ref xq42, .int 0])), (xq42, .inl (cy 0, 48, .inl (fun _ => 0))), (nq43, .inr (5, [.ref xq45, .int 0])), (xq45, .inl (cy 0, 24, .inl (fun _ => 0))), (nq46, .inl (cy 4, 8, .inr (.inr (.inr (.inr (va_up (va_up (fun _ => none) 0 (some nq47)) 1 (some nq51))))))), (nq47, .inr (9, [.int 0, .int 0, .int 0, .int 5, .int 60, .int 0, .int 0, .int 0, .int 0, .ref xq49, .ref xq50])), (xq49, .inl (cy 0, 192, .inl (fun _ => 0))), (xq50, .inl (cy 0, 192, .inl (fun _ => 0))), (nq55, .inr (9, [.int 0, .int 0, .int 0, .int 5, .int 60, .int 0, .int 0, .int 0, .int 0, .ref xq57, .ref xq58])), (xq57, .inl (cy 0, 192, .inl (fun _ => 0))), (xq58, .inl (cy 0, 192, .inl (fun _ => 0)))] := hD
  refine va_astq hx hb hE.1 hP hD hS 29 4 33 9 rfl rfl rfl rfl (vinL (by decide)) dX10_init_102 (fun H locs hP hD hS => ?_)
  have hP : va_P G classes [(h0, .inr (10, [.ref nq1, .ref nq10, .ref nq31, .ref nq40, .ref nq43, .ref nq46, .int 0, .int 0])), (nq1, .inr (7, [.ref xq3, .ref xq4, .ref xq5, .ref xq6, .ref xq7, .int 0])), (xq3, .inl (cy 0, 192, .inl xf8)), (xq4, .inl (cy 0, 40, .inl (fun _ => 0))), (xq5, .inl (cy 0, 40, .inl (fun _ => 0))), (xq6, .inl (cy 0, 40, .inl (fun _ => 0))), (xq7, .inl (cy 0, 40, .inl (fun _ => 0))), (nq10, .inr (2, [.int 5, .int 9, .int 0, .ref xq12, .ref xq13, .ref xq14, .ref xq15])), (xq12, .inl (cy 0, 5, .inl xf25)), (xq13, .inl (cy 0, 5, .inl (fun _ => 0))), (xq14, .inl (cy 3, 3, .inr (.inr (.inr (.inr xg26))))), (xq16, .inr (1, [.ref xq19, .ref xq22, .int 0])), (xq19, .inl (cy 0, 48, .inl (fun _ => 0))), (xq17, .inr (1, [.ref xq20, .ref xq23, .int 0])), (xq20, .inl (cy 0, 48, .inl (fun _ => 0))), (xq18, .inr (1, [.ref xq21, .ref xq24, .int 0])), (xq21, .inl (cy 0, 48, .inl (fun _ => 0))), (nq31, .inr (3, [.ref xq33, .ref xq34, .ref xq35, .int 0, .ref xq36, .ref xq37, .int 0, .int 0, .int 0])), (xq33, .inl (cy 0, 7, .inl (fun _ => 0))), (xq34, .inl (cy 0, 7, .inl (fun _ => 0))), (xq35, .inl (cy 0, 7, .inl (fun _ => 0))), (xq36, .inr (5, [.ref xq38, .int 0])), (xq38, .inl (cy 0, 7, .inl (fun _ => 0))), (xq37, .inr (5, [.ref xq39, .int 0])), (xq39, .inl (cy 0, 7, .inl (fun _ => 0))), (nq40, .inr (5, [.ref xq42, .int 0])), (xq42, .inl (cy 0, 48, .inl (fun _ => 0))), (nq43, .inr (5, [.ref xq45, .int 0])), (xq45, .inl (cy 0, 24, .inl (fun _ => 0))), (nq46, .inl (cy 4, 8, .inr (.inr (.inr (.inr (va_up (va_up (va_up (fun _ => none) 0 (some nq47)) 1 (some nq51)) 2 (some nq55))))))), (nq47, .inr (9, [.int 0, .int 0, .int 0, .int 5, .int 60, .int 0, .int 0, .int 0, .int 0, .ref xq49, .ref xq50])), (xq49, .inl (cy 0, 192, .inl (fun _ => 0))), (xq50, .inl (cy 0, 192, .inl (fun _ => 0))), (nq55, .inr (9, [.int 0, .int 0, .int 0, .int 5, .int 60, .int 0, .int 0, .int 0, .int 0, .ref xq57, .ref xq58])), (xq57, .inl (cy 0, 192, .inl (fun _ => 0))), (xq58, .inl (cy 0, 192, .inl (fun _ => 0)))] H := hP
  have hD : va_D A [(h0, .inr (10, [.ref nq1, .ref nq10, .ref nq31, .ref nq40, .ref nq43, .ref nq46, .int 0, .int 0])), (nq1, .inr (7, [.ref xq3, .ref xq4, .ref xq5, .ref xq6, .ref xq7, .int 0])), (xq3, .inl (cy 0, 192, .inl xf8)), (xq4, .inl (cy 0, 40, .inl (fun _ => 0))), (xq5, .inl (cy 0, 40, .inl (fun _ => 0))), (xq6, .inl (cy 0, 40, .inl (fun _ => 0))), (xq7, .inl (cy 0, 40, .inl (fun _ => 0))), (nq10, .inr (2, [.int 5, .int 9, .int 0, .ref xq12, .ref xq13, .ref xq14, .ref xq15])), (xq12, .inl (cy 0, 5, .inl xf25)), (xq13, .inl (cy 0, 5, .inl (fun _ => 0))), (xq14, .inl (cy 3, 3, .inr (.inr (.inr (.inr xg26))))), (xq16, .inr (1, [.ref xq19, .ref xq22, .int 0])), (xq19, .inl (cy 0, 48, .inl (fun _ => 0))), (xq17, .inr (1, [.ref xq20, .ref xq23, .int 0])), (xq20, .inl (cy 0, 48, .inl (fun _ => 0))), (xq18, .inr (1, [.ref xq21, .ref xq24, .int 0])), (xq21, .inl (cy 0, 48, .inl (fun _ => 0))), (nq31, .inr (3, [.ref xq33, .ref xq34, .ref xq35, .int 0, .ref xq36, .ref xq37, .int 0, .int 0, .int 0])), (xq33, .inl (cy 0, 7, .inl (fun _ => 0))), (xq34, .inl (cy 0, 7, .inl (fun _ => 0))), (xq35, .inl (cy 0, 7, .inl (fun _ => 0))), (xq36, .inr (5, [.ref xq38, .int 0])), (xq38, .inl (cy 0, 7, .inl (fun _ => 0))), (xq37, .inr (5, [.ref xq39, .int 0])), (xq39, .inl (cy 0, 7, .inl (fun _ => 0))), (nq40, .inr (5, [.ref xq42, .int 0])), (xq42, .inl (cy 0, 48, .inl (fun _ => 0))), (nq43, .inr (5, [.ref xq45, .int 0])), (xq45, .inl (cy 0, 24, .inl (fun _ => 0))), (nq46, .inl (cy 4, 8, .inr (.inr (.inr (.inr (va_up (va_up (va_up (fun _ => none) 0 (some nq47)) 1 (some nq51)) 2 (some nq55))))))), (nq47, .inr (9, [.int 0, .int 0, .int 0, .int 5, .int 60, .int 0, .int 0, .int 0, .int 0, .ref xq49, .ref xq50])), (xq49, .inl (cy 0, 192, .inl (fun _ => 0))), (xq50, .inl (cy 0, 192, .inl (fun _ => 0))), (nq55, .inr (9, [.int 0, .int 0, .int 0, .int 5, .int 60, .int 0, .int 0, .int 0, .int 0, .ref xq57, .ref xq58])), (xq57, .inl (cy 0, 192, .inl (fun _ => 0))), (xq58, .inl (cy 0, 192, .inl (fun _ => 0)))] := hD
  have hP := P_cut (wc := [(h0, .inr (10, [.ref nq1, .ref nq10, .ref nq31, .ref nq40, .ref nq43, .ref nq46, .int 0, .int 0])), (nq1, .inr (7, [.ref xq3, .ref xq4, .ref xq5, .ref xq6, .ref xq7, .int 0])), (xq3, .inl (cy 0, 192, .inl xf8)), (xq4, .inl (cy 0, 40, .inl (fun _ => 0))), (xq5, .inl (cy 0, 40, .inl (fun _ => 0))), (xq6, .inl (cy 0, 40, .inl (fun _ => 0))), (xq7, .inl (cy 0, 40, .inl (fun _ => 0))), (nq10, .inr (2, [.int 5, .int 9, .int 0, .ref xq12, .ref xq13, .ref xq14, .ref xq15])), (xq12, .inl (cy 0, 5, .inl xf25)), (xq13, .inl (cy 0, 5, .inl (fun _ => 0))), (xq14, .inl (cy 3, 3, .inr (.inr (.inr (.inr xg26))))), (xq16, .inr (1, [.ref xq19, .ref xq22, .int 0])), (xq19, .inl (cy 0, 48, .inl (fun _ => 0))), (xq17, .inr (1, [.ref xq20, .ref xq23, .int 0])), (xq20, .inl (cy 0, 48, .inl (fun _ => 0))), (xq18, .inr (1, [.ref xq21, .ref xq24, .int 0])), (xq21, .inl (cy 0, 48, .inl (fun _ => 0))), (nq31, .inr (3, [.ref xq33, .ref xq34, .ref xq35, .int 0, .ref xq36, .ref xq37, .int 0, .int 0, .int 0])), (xq33, .inl (cy 0, 7, .inl (fun _ => 0))), (xq34, .inl (cy 0, 7, .inl (fun _ => 0))), (xq35, .inl (cy 0, 7, .inl (fun _ => 0))), (xq36, .inr (5, [.ref xq38, .int 0])), (xq38, .inl (cy 0, 7, .inl (fun _ => 0))), (xq37, .inr (5, [.ref xq39, .int 0])), (xq39, .inl (cy 0, 7, .inl (fun _ => 0))), (nq40, .inr (5, [.ref xq42, .int 0])), (xq42, .inl (cy 0, 48, .inl (fun _ => 0))), (nq43, .inr (5, [.ref xq45, .int 0])), (xq45, .inl (cy 0, 24, .inl (fun _ => 0))), (nq46, .inl (cy 4, 8, .inr (.inr (.inr (.inr (va_up (va_up (va_up (fun _ => none) 0 (some nq47)) 1 (some nq51)) 2 (some nq55))))))), (nq47, .inr (9, [.int 0, .int 0, .int 0, .int 5, .int 60, .int 0, .int 0, .int 0, .int 0, .ref xq49, .ref xq50])), (xq49, .inl (cy 0, 192, .inl (fun _ => 0))), (xq50, .inl (cy 0, 192, .inl (fun _ => 0)))]) hP [0, 1, 2, 3, 4, 5, 6, 7, 8, 9, 10, 11, 12, 13, 14, 15, 16, 17, 18, 19, 20, 21, 22, 23, 24, 25, 26, 27, 28, 29, 30, 31, 32] rfl
  have hD := hD.sub (ws' := [(h0, .inr (10, [.ref nq1, .ref nq10, .ref nq31, .ref nq40, .ref nq43, .ref nq46, .int 0, .int 0])), (nq1, .inr (7, [.ref xq3, .ref xq4, .ref xq5, .ref xq6, .ref xq7, .int 0])), (xq3, .inl (cy 0, 192, .inl xf8)), (xq4, .inl (cy 0, 40, .inl (fun _ => 0))), (xq5, .inl (cy 0, 40, .inl (fun _ => 0))), (xq6, .inl (cy 0, 40, .inl (fun _ => 0))), (xq7, .inl (cy 0, 40, .inl (fun _ => 0))), (nq10, .inr (2, [.int 5, .int 9, .int 0, .ref xq12, .ref xq13, .ref xq14, .ref xq15])), (xq12, .inl (cy 0, 5, .inl xf25)), (xq13, .inl (cy 0, 5, .inl (fun _ => 0))), (xq14, .inl (cy 3, 3, .inr (.inr (.inr (.inr xg26))))), (xq16, .inr (1, [.ref xq19, .ref xq22, .int 0])), (xq19, .inl (cy 0, 48, .inl (fun _ => 0))), (xq17, .inr (1, [.ref xq20, .ref xq23, .int 0])), (xq20, .inl (cy 0, 48, .inl (fun _ => 0))), (xq18, .inr (1, [.ref xq21, .ref xq24, .int 0])), (xq21, .inl (cy 0, 48, .inl (fun _ => 0))), (nq31, .inr (3, [.ref xq33, .ref xq34, .ref xq35, .int 0, .ref xq36, .ref xq37, .int 0, .int 0, .int 0])), (xq33, .inl (cy 0, 7, .inl (fun _ => 0))), (xq34, .inl (cy 0, 7, .inl (fun _ => 0))), (xq35, .inl (cy 0, 7, .inl (fun _ => 0))), (xq36, .inr (5, [.ref xq38, .int 0])), (xq38, .inl (cy 0, 7, .inl (fun _ => 0))), (xq37, .inr (5, [.ref xq39, .int 0])), (xq39, .inl (cy 0, 7, .inl (fun _ => 0))), (nq40, .inr (5, [.ref xq42, .int 0])), (xq42, .inl (cy 0, 48, .inl (fun _ => 0))), (nq43, .inr (5, [.ref xq45, .int 0])), (xq45, .inl (cy 0, 24, .inl (fun _ => 0))), (nq46, .inl (cy 4, 8, .inr (.inr (.inr (.inr (va_up (va_up (va_up (fun _ => none) 0 (some nq47)) 1 (some nq51)) 2 (some nq55))))))), (nq47, .inr (9, [.int 0, .int 0, .int 0, .int 5, .int 60, .int 0, .int 0, .int 0, .int 0, .ref xq49, .ref xq50])), (xq49, .inl (cy 0, 192, .inl (fun _ => 0))), (xq50, .inl (cy 0, 192, .inl (fun _ => 0)))]) [0, 1, 2, 3, 4, 5, 6, 7, 8, 9, 10, 11, 12, 13, 14, 15, 16, 17, 18, 19, 20, 21, 22, 23, 24, 25, 26, 27, 28, 29, 30, 31, 32] (by decide) rfl
  refine lv_iinc (v := 3) (lv' := [(1, .int 3), (0, .ref h0)]) hx hb dX10_init_103 hl (k := 0) rfl (by decide) (by decide) rfl (fun ls hl => ?_)
  refine lv_goto (tgt := 84) hx hb dX10_init_106 (by decide) ?_
  refine lv_iload_n hx hb dX10_init_84 rfl (lv_at hl 0 rfl) ?_
  refine lv_bipush (v := 8) hx hb dX10_init_85 (by decide) ?_
  refine lv_icmp_ge (tgt := 109) hx hb dX10_init_87 (by decide) (fun h9 => absurd h9 (by decide)) (fun _ => ?_)
  refine lv_aload_n hx hb dX10_init_90 rfl (lv_at hl 1 rfl) ?_
  refine va_get (D := G) (ci := 10) (v := .ref nq46) (C := RX10) (T := TX10) (N := 8) hx hb hts inB10 hown hE.1 hP 0 rfl rfl 5 (by decide) (hts _ m_321) (fun _ h9 => h9) rfl dX10_init_91 ?_
  refine lv_iload_n hx hb dX10_init_94 rfl (lv_at hl 0 rfl) ?_
  refine va_new (ci := 9) (fs := [.int 0, .int 0, .int 0, .int 0, .int 0, .int 0, .int 0, .int 0, .int 0, .null, .null]) (C := RX9) (T := TX9) (N := 11) hx hb hts inB9 tyX9 tyX9_ok hown (hts _ m_251) (hts _ m_253) (hts _ m_87) hE.1 hP hD hS hA rfl df9 (Nat.le_of_ble_eq_true rfl) (Nat.le_of_ble_eq_true rfl) dX10_init_95 (fun nq59 H hP hD hS => ?_)
  have hP : va_P G classes [(h0, .inr (10, [.ref nq1, .ref nq10, .ref nq31, .ref nq40, .ref nq43, .ref nq46, .int 0, .int 0])), (nq1, .inr (7, [.ref xq3, .ref xq4, .ref xq5, .ref xq6, .ref xq7, .int 0])), (xq3, .inl (cy 0, 192, .inl xf8)), (xq4, .inl (cy 0, 40, .inl (fun _ => 0))), (xq5, .inl (cy 0, 40, .inl (fun _ => 0))), (xq6, .inl (cy 0, 40, .inl (fun _ => 0))), (xq7, .inl (cy 0, 40, .inl (fun _ => 0))), (nq10, .inr (2, [.int 5, .int 9, .int 0, .ref xq12, .ref xq13, .ref xq14, .ref xq15])), (xq12, .inl (cy 0, 5, .inl xf25)), (xq13, .inl (cy 0, 5, .inl (fun _ => 0))), (xq14, .inl (cy 3, 3, .inr (.inr (.inr (.inr xg26))))), (xq16, .inr (1, [.ref xq19, .ref xq22, .int 0])), (xq19, .inl (cy 0, 48, .inl (fun _ => 0))), (xq17, .inr (1, [.ref xq20, .ref xq23, .int 0])), (xq20, .inl (cy 0, 48, .inl (fun _ => 0))), (xq18, .inr (1, [.ref xq21, .ref xq24, .int 0])), (xq21, .inl (cy 0, 48, .inl (fun _ => 0))), (nq31, .inr (3, [.ref xq33, .ref xq34, .ref xq35, .int 0, .ref xq36, .ref xq37, .int 0, .int 0, .int 0])), (xq33, .inl (cy 0, 7, .inl (fun _ => 0))), (xq34, .inl (cy 0, 7, .inl (fun _ => 0))), (xq35, .inl (cy 0, 7, .inl (fun _ => 0))), (xq36, .inr (5, [.ref xq38, .int 0])), (xq38, .inl (cy 0, 7, .inl (fun _ => 0))), (xq37, .inr (5, [.ref xq39, .int 0])), (xq39, .inl (cy 0, 7, .inl (fun _ => 0))), (nq40, .inr (5, [.ref xq42, .int 0])), (xq42, .inl (cy 0, 48, .inl (fun _ => 0))), (nq43, .inr (5, [.ref xq45, .int 0])), (xq45, .inl (cy 0, 24, .inl (fun _ => 0))), (nq46, .inl (cy 4, 8, .inr (.inr (.inr (.inr (va_up (va_up (va_up (fun _ => none) 0 (some nq47)) 1 (some nq51)) 2 (some nq55))))))), (nq47, .inr (9, [.int 0, .int 0, .int 0, .int 5, .int 60, .int 0, .int 0, .int 0, .int 0, .ref xq49, .ref xq50])), (xq49, .inl (cy 0, 192, .inl (fun _ => 0))), (xq50, .inl (cy 0, 192, .inl (fun _ => 0))), (nq59, .inr (9, [.int 0, .int 0, .int 0, .int 0, .int 0, .int 0, .int 0, .int 0, .int 0, .null, .null]))] H := hP
  have hD : va_D A [(h0, .inr (10, [.ref nq1, .ref nq10, .ref nq31, .ref nq40, .ref nq43, .ref nq46, .int 0, .int 0])), (nq1, .inr (7, [.ref xq3, .ref xq4, .ref xq5, .ref xq6, .ref xq7, .int 0])), (xq3, .inl (cy 0, 192, .inl xf8)), (xq4, .inl (cy 0, 40, .inl (fun _ => 0))), (xq5, .inl (cy 0, 40, .inl (fun _ => 0))), (xq6, .inl (cy 0, 40, .inl (fun _ => 0))), (xq7, .inl (cy 0, 40, .inl (fun _ => 0))), (nq10, .inr (2, [.int 5, .int 9, .int 0, .ref xq12, .ref xq13, .ref xq14, .ref xq15])), (xq12, .inl (cy 0, 5, .inl xf25)), (xq13, .inl (cy 0, 5, .inl (fun _ => 0))), (xq14, .inl (cy 3, 3, .inr (.inr (.inr (.inr xg26))))), (xq16, .inr (1, [.ref xq19, .ref xq22, .int 0])), (xq19, .inl (cy 0, 48, .inl (fun _ => 0))), (xq17, .inr (1, [.ref xq20, .ref xq23, .int 0])), (xq20, .inl (cy 0, 48, .inl (fun _ => 0))), (xq18, .inr (1, [.ref xq21, .ref xq24, .int 0])), (xq21, .inl (cy 0, 48, .inl (fun _ => 0))), (nq31, .inr (3, [.ref xq33, .ref xq34, .ref xq35, .int 0, .ref xq36, .ref xq37, .int 0, .int 0, .int 0])), (xq33, .inl (cy 0, 7, .inl (fun _ => 0))), (xq34, .inl (cy 0, 7, .inl (fun _ => 0))), (xq35, .inl (cy 0, 7, .inl (fun _ => 0))), (xq36, .inr (5, [.ref xq38, .int 0])), (xq38, .inl (cy 0, 7, .inl (fun _ => 0))), (xq37, .inr (5, [.ref xq39, .int 0])), (xq39, .inl (cy 0, 7, .inl (fun _ => 0))), (nq40, .inr (5, [.ref xq42, .int 0])), (xq42, .inl (cy 0, 48, .inl (fun _ => 0))), (nq43, .inr (5, [.ref xq45, .int 0])), (xq45, .inl (cy 0, 24, .inl (fun _ => 0))), (nq46, .inl (cy 4, 8, .inr (.inr (.inr (.inr (va_up (va_up (va_up (fun _ => none) 0 (some nq47)) 1 (some nq51)) 2 (some nq55))))))), (nq47, .inr (9, [.int 0, .int 0, .int 0, .int 5, .int 60, .int 0, .int 0, .int 0, .int 0, .ref xq49, .ref xq50])), (xq49, .inl (cy 0, 192, .inl (fun _ => 0))), (xq50, .inl (cy 0, 192, .inl (fun _ => 0))), (nq59, .inr (9, [.int 0, .int 0, .int 0, .int 0, .int 0, .int 0, .int 0, .int 0, .int 0, .null, .null]))] := hD
  refine lv_dup hx hb dX10_init_98 rfl ?_
  refine wIN (B := (B_c_X9_init G cy (va_A [(nq59, .inr (9, [.int 0, .int 0, .int 0, .int 0, .int 0, .int 0, .int 0, .int 0, .int 0, .null, .null]))] H.size) nq59)) (wr := [(h0, .inr (10, [.ref nq1, .ref nq10, .ref nq31, .ref nq40, .ref nq43, .ref nq46, .int 0, .int 0])), (nq1, .inr (7, [.ref xq3, .ref xq4, .ref xq5, .ref xq6, .ref xq7, .int 0])), (xq3, .inl (cy 0, 192, .inl xf8)), (xq4, .inl (cy 0, 40, .inl (fun _ => 0))), (xq5, .inl (cy 0, 40, .inl (fun _ => 0))), (xq6, .inl (cy 0, 40, .inl (fun _ => 0))), (xq7, .inl (cy 0, 40, .inl (fun _ => 0))), (nq10, .inr (2, [.int 5, .int 9, .int 0, .ref xq12, .ref xq13, .ref xq14, .ref xq15])), (xq12, .inl (cy 0, 5, .inl xf25)), (xq13, .inl (cy 0, 5, .inl (fun _ => 0))), (xq14, .inl (cy 3, 3, .inr (.inr (.inr (.inr xg26))))), (xq16, .inr (1, [.ref xq19, .ref xq22, .int 0])), (xq19, .inl (cy 0, 48, .inl (fun _ => 0))), (xq17, .inr (1, [.ref xq20, .ref xq23, .int 0])), (xq20, .inl (cy 0, 48, .inl (fun _ => 0))), (xq18, .inr (1, [.ref xq21, .ref xq24, .int 0])), (xq21, .inl (cy 0, 48, .inl (fun _ => 0))), (nq31, .inr (3, [.ref xq33, .ref xq34, .ref xq35, .int 0, .ref xq36, .ref xq37, .int 0, .int 0, .int 0])), (xq33, .inl (cy 0, 7, .inl (fun _ => 0))), (xq34, .inl (cy 0, 7, .inl (fun _ => 0))), (xq35, .inl (cy 0, 7, .inl (fun _ => 0))), (xq36, .inr (5, [.ref xq38, .int 0])), (xq38, .inl (cy 0, 7, .inl (fun _ => 0))), (xq37, .inr (5, [.ref xq39, .int 0])), (xq39, .inl (cy 0, 7, .inl (fun _ => 0))), (nq40, .inr (5, [.ref xq42, .int 0])), (xq42, .inl (cy 0, 48, .inl (fun _ => 0))), (nq43, .inr (5, [.ref xq45, .int 0])), (xq45, .inl (cy 0, 24, .inl (fun _ => 0))), (nq46, .inl (cy 4, 8, .inr (.inr (.inr (.inr (va_up (va_up (va_up (fun _ => none) 0 (some nq47)) 1 (some nq51)) 2 (some nq55))))))), (nq47, .inr (9, [.int 0, .int 0, .int 0, .int 5, .int 60, .int 0, .int 0, .int 0, .int 0, .ref xq49, .ref xq50])), (xq49, .inl (cy 0, 192, .inl (fun _ => 0))), (xq50, .inl (cy 0, 192, .inl (fun _ => 0)))]) (rest := [.ref nq59, .int 3, .ref nq46]) (host := "ClickStreet") hx hb hml hown hts hE (c_X9_init l G cy sk H.size nq59) kI_X9_init (by decide +kernel) rfl rfl ⟨(Nat.le_of_ble_eq_true rfl), (Nat.le_of_ble_eq_true rfl)⟩ hP hD hS hA [33] [0, 1, 2, 3, 4, 5, 6, 7, 8, 9, 10, 11, 12, 13, 14, 15, 16, 17, 18, 19, 20, 21, 22, 23, 24, 25, 26, 27, 28, 29, 30, 31, 32] rfl rfl rfl rfl (by decide) rfl rfl hl.1 (Nat.le_of_ble_eq_true rfl) dX10_init_99 ⟨(Nat.le_of_ble_eq_true rfl), (Nat.le_of_ble_eq_true rfl)⟩ (fun H locs haf hS => ?_)
  obtain ⟨xq61, xq62, hP1, hD1⟩ := haf.1
  obtain ⟨hP, hD⟩ := haf.2.1 _ hP1 hD1
  have hP : va_P G classes [(h0, .inr (10, [.ref nq1, .ref nq10, .ref nq31, .ref nq40, .ref nq43, .ref nq46, .int 0, .int 0])), (nq1, .inr (7, [.ref xq3, .ref xq4, .ref xq5, .ref xq6, .ref xq7, .int 0])), (xq3, .inl (cy 0, 192, .inl xf8)), (xq4, .inl (cy 0, 40, .inl (fun _ => 0))), (xq5, .inl (cy 0, 40, .inl (fun _ => 0))), (xq6, .inl (cy 0, 40, .inl (fun _ => 0))), (xq7, .inl (cy 0, 40, .inl (fun _ => 0))), (nq10, .inr (2, [.int 5, .int 9, .int 0, .ref xq12, .ref xq13, .ref xq14, .ref xq15])), (xq12, .inl (cy 0, 5, .inl xf25)), (xq13, .inl (cy 0, 5, .inl (fun _ => 0))), (xq14, .inl (cy 3, 3, .inr (.inr (.inr (.inr xg26))))), (xq16, .inr (1, [.ref xq19, .ref xq22, .int 0])), (xq19, .inl (cy 0, 48, .inl (fun _ => 0))), (xq17, .inr (1, [.ref xq20, .ref xq23, .int 0])), (xq20, .inl (cy 0, 48, .inl (fun _ => 0))), (xq18, .inr (1, [.ref xq21, .ref xq24, .int 0])), (xq21, .inl (cy 0, 48, .inl (fun _ => 0))), (nq31, .inr (3, [.ref xq33, .ref xq34, .ref xq35, .int 0, .ref xq36, .ref xq37, .int 0, .int 0, .int 0])), (xq33, .inl (cy 0, 7, .inl (fun _ => 0))), (xq34, .inl (cy 0, 7, .inl (fun _ => 0))), (xq35, .inl (cy 0, 7, .inl (fun _ => 0))), (xq36, .inr (5, [.ref xq38, .int 0])), (xq38, .inl (cy 0, 7, .inl (fun _ => 0))), (xq37, .inr (5, [.ref xq39, .int 0])), (xq39, .inl (cy 0, 7, .inl (fun _ => 0))), (nq40, .inr (5, [.ref xq42, .int 0])), (xq42, .inl (cy 0, 48, .inl (fun _ => 0))), (nq43, .inr (5, [.ref xq45, .int 0])), (xq45, .inl (cy 0, 24, .inl (fun _ => 0))), (nq46, .inl (cy 4, 8, .inr (.inr (.inr (.inr (va_up (va_up (va_up (fun _ => none) 0 (some nq47)) 1 (some nq51)) 2 (some nq55))))))), (nq47, .inr (9, [.int 0, .int 0, .int 0, .int 5, .int 60, .int 0, .int 0, .int 0, .int 0, .ref xq49, .ref xq50])), (xq49, .inl (cy 0, 192, .inl (fun _ => 0))), (xq50, .inl (cy 0, 192, .inl (fun _ => 0))), (nq59, .inr (9, [.int 0, .int 0, .int 0, .int 5, .int 60, .int 0, .int 0, .int 0, .int 0, .ref xq61, .ref xq62])), (xq61, .inl (cy 0, 192, .inl (fun _ => 0))), (xq62, .inl (cy 0, 192, .inl (fun _ => 0)))] H := hP
  have hD : va_D A [(h0, .inr (10, [.ref nq1, .ref nq10, .ref nq31, .ref nq40, .ref nq43, .ref nq46, .int 0, .int 0])), (nq1, .inr (7, [.ref xq3, .ref xq4, .ref xq5, .ref xq6, .ref xq7, .int 0])), (xq3, .inl (cy 0, 192, .inl xf8)), (xq4, .inl (cy 0, 40, .inl (fun _ => 0))), (xq5, .inl (cy 0, 40, .inl (fun _ => 0))), (xq6, .inl (cy 0, 40, .inl (fun _ => 0))), (xq7, .inl (cy 0, 40, .inl (fun _ => 0))), (nq10, .inr (2, [.int 5, .int 9, .int 0, .ref xq12, .ref xq13, .ref xq14, .ref xq15])), (xq12, .inl (cy 0, 5, .inl xf25)), (xq13, .inl (cy 0, 5, .inl (fun _ => 0))), (xq14, .inl (cy 3, 3, .inr (.inr (.inr (.inr xg26))))), (xq16, .inr (1, [.ref xq19, .ref xq22, .int 0])), (xq19, .inl (cy 0, 48, .inl (fun _ => 0))), (xq17, .inr (1, [.ref xq20, .ref xq23, .int 0])), (xq20, .inl (cy 0, 48, .inl (fun _ => 0))), (xq18, .inr (1, [.ref xq21, .ref xq24, .int 0])), (xq21, .inl (cy 0, 48, .inl (fun _ => 0))), (nq31, .inr (3, [.ref xq33, .ref xq34, .ref xq35, .int 0, .ref xq36, .ref xq37, .int 0, .int 0, .int 0])), (xq33, .inl (cy 0, 7, .inl (fun _ => 0))), (xq34, .inl (cy 0, 7, .inl (fun _ => 0))), (xq35, .inl (cy 0, 7, .inl (fun _ => 0))), (xq36, .inr (5, [.ref xq38, .int 0])), (xq38, .inl (cy 0, 7, .inl (fun _ => 0))), (xq37, .inr (5, [.ref xq39, .int 0])), (xq39, .inl (cy 0, 7, .inl (fun _ => 0))), (nq40, .inr (5, [.ref xq42, .int 0])), (xq42, .inl (cy 0, 48, .inl (fun _ => 0))), (nq43, .inr (5, [.ref xq45, .int 0])), (xq45, .inl (cy 0, 24, .inl (fun _ => 0))), (nq46, .inl (cy 4, 8, .inr (.inr (.inr (.inr (va_up (va_up (va_up (fun _ => none) 0 (some nq47)) 1 (some nq51)) 2 (some nq55))))))), (nq47, .inr (9, [.int 0, .int 0, .int 0, .int 5, .int 60, .int 0, .int 0, .int 0, .int 0, .ref xq49, .ref xq50])), (xq49, .inl (cy 0, 192, .inl (fun _ => 0))), (xq50, .inl (cy 0, 192, .inl (fun _ => 0))), (nq59, .inr (9, [.int 0, .int 0, .int 0, .int 5, .int 60, .int 0, .int 0, .int 0, .int 0, .ref xq61, .ref xq62])), (xq61, .inl (cy 0, 192, .inl (fun _ => 0))), (xq62, .inl (cy 0, 192, .inl (fun _ => 0)))] := hD
  refine va_astq hx hb hE.1 hP hD hS 29 4 33 9 rfl rfl rfl rfl (vinL (by decide)) dX10_init_102 (fun H locs hP hD hS => ?_)
  have hP : va_P G classes [(h0, .inr (10, [.ref nq1, .ref nq10, .ref nq31, .ref nq40, .ref nq43, .ref nq46, .int 0, .int 0])), (nq1, .inr (7, [.ref xq3, .ref xq4, .ref xq5, .ref xq6, .ref xq7, .int 0])), (xq3, .inl (cy 0, 192, .inl xf8)), (xq4, .inl (cy 0, 40, .inl (fun _ => 0))), (xq5, .inl (cy 0, 40, .inl (fun _ => 0))), (xq6, .inl (cy 0, 40, .inl (fun _ => 0))), (xq7, .inl (cy 0, 40, .inl (fun _ => 0))), (nq10, .inr (2, [.int 5, .int 9, .int 0, .ref xq12, .ref xq13, .ref xq14, .ref xq15])), (xq12, .inl (cy 0, 5, .inl xf25)), (xq13, .inl (cy 0, 5, .inl (fun _ => 0))), (xq14, .inl (cy 3, 3, .inr (.inr (.inr (.inr xg26))))), (xq16, .inr (1, [.ref xq19, .ref xq22, .int 0])), (xq19, .inl (cy 0, 48, .inl (fun _ => 0))), (xq17, .inr (1, [.ref xq20, .ref xq23, .int 0])), (xq20, .inl (cy 0, 48, .inl (fun _ => 0))), (xq18, .inr (1, [.ref xq21, .ref xq24, .int 0])), (xq21, .inl (cy 0, 48, .inl (fun _ => 0))), (nq31, .inr (3, [.ref xq33, .ref xq34, .ref xq35, .int 0, .ref xq36, .ref xq37, .int 0, .int 0, .int 0])), (xq33, .inl (cy 0, 7, .inl (fun _ => 0))), (xq34, .inl (cy 0, 7, .inl (fun _ => 0))), (xq35, .inl (cy 0, 7, .inl (fun _ => 0))), (xq36, .inr (5, [.ref xq38, .int 0])), (xq38, .inl (cy 0, 7, .inl (fun _ => 0))), (xq37, .inr (5, [.ref xq39, .int 0])), (xq39, .inl (cy 0, 7, .inl (fun _ => 0))), (nq40, .inr (5, [.ref xq42, .int 0])), (xq42, .inl (cy 0, 48, .inl (fun _ => 0))), (nq43, .inr (5, [.ref xq45, .int 0])), (xq45, .inl (cy 0, 24, .inl (fun _ => 0))), (nq46, .inl (cy 4, 8, .inr (.inr (.inr (.inr (va_up (va_up (va_up (va_up (fun _ => none) 0 (some nq47)) 1 (some nq51)) 2 (some nq55)) 3 (some nq59))))))), (nq47, .inr (9, [.int 0, .int 0, .int 0, .int 5, .int 60, .int 0, .int 0, .int 0, .int 0, .ref xq49, .ref xq50])), (xq49, .inl (cy 0, 192, .inl (fun _ => 0))), (xq50, .inl (cy 0, 192, .inl (fun _ => 0))), (nq59, .inr (9, [.int 0, .int 0, .int 0, .int 5, .int 60, .int 0, .int 0, .int 0, .int 0, .ref xq61, .ref xq62])), (xq61, .inl (cy 0, 192, .inl (fun _ => 0))), (xq62, .inl (cy 0, 192, .inl (fun _ => 0)))] H := hP
  have hD : va_D A [(h0, .inr (10, [.ref nq1, .ref nq10, .ref nq31, .ref nq40, .ref nq43, .ref nq46, .int 0, .int 0])), (nq1, .inr (7, [.ref xq3, .ref xq4, .ref xq5, .ref xq6, .ref xq7, .int 0])), (xq3, .inl (cy 0, 192, .inl xf8)), (xq4, .inl (cy 0, 40, .inl (fun _ => 0))), (xq5, .inl (cy 0, 40, .inl (fun _ => 0))), (xq6, .inl (cy 0, 40, .inl (fun _ => 0))), (xq7, .inl (cy 0, 40, .inl (fun _ => 0))), (nq10, .inr (2, [.int 5, .int 9, .int 0, .ref xq12, .ref xq13, .ref xq14, .ref xq15])), (xq12, .inl (cy 0, 5, .inl xf25)), (xq13, .inl (cy 0, 5, .inl (fun _ => 0))), (xq14, .inl (cy 3, 3, .inr (.inr (.inr (.inr xg26))))), (xq16, .inr (1, [.ref xq19, .ref xq22, .int 0])), (xq19, .inl (cy 0, 48, .inl (fun _ => 0))), (xq17, .inr (1, [.ref xq20, .ref xq23, .int 0])), (xq20, .inl (cy 0, 48, .inl (fun _ => 0))), (xq18, .inr (1, [.ref xq21, .ref xq24, .int 0])), (xq21, .inl (cy 0, 48, .inl (fun _ => 0))), (nq31, .inr (3, [.ref xq33, .ref xq34, .ref xq35, .int 0, .ref xq36, .ref xq37, .int 0, .int 0, .int 0])), (xq33, .inl (cy 0, 7, .inl (fun _ => 0))), (xq34, .inl (cy 0, 7, .inl (fun _ => 0))), (xq35, .inl (cy 0, 7, .inl (fun _ => 0))), (xq36, .inr (5, [.ref xq38, .int 0])), (xq38, .inl (cy 0, 7, .inl (fun _ => 0))), (xq37, .inr (5, [.ref xq39, .int 0])), (xq39, .inl (cy 0, 7, .inl (fun _ => 0))), (nq40, .inr (5, [.ref xq42, .int 0])), (xq42, .inl (cy 0, 48, .inl (fun _ => 0))), (nq43, .inr (5, [.ref xq45, .int 0])), (xq45, .inl (cy 0, 24, .inl (fun _ => 0))), (nq46, .inl (cy 4, 8, .inr (.inr (.inr (.inr (va_up (va_up (va_up (va_up (fun _ => none) 0 (some nq47)) 1 (some nq51)) 2 (some nq55)) 3 (some nq59))))))), (nq47, .inr (9, [.int 0, .int 0, .int 0, .int 5, .int 60, .int 0, .int 0, .int 0, .int 0, .ref xq49, .ref xq50])), (xq49, .inl (cy 0, 192, .inl (fun _ => 0))), (xq50, .inl (cy 0, 192, .inl (fun _ => 0))), (nq59, .inr (9, [.int 0, .int 0, .int 0, .int 5, .int 60, .int 0, .int 0, .int 0, .int 0, .ref xq61, .ref xq62])), (xq61, .inl (cy 0, 192, .inl (fun _ => 0))), (xq62, .inl (cy 0, 192, .inl (fun _ => 0)))] := hD
  have hP := P_cut (wc := [(h0, .inr (10, [.ref nq1, .ref nq10, .ref nq31, .ref nq40, .ref nq43, .ref nq46, .int 0, .int 0])), (nq1, .inr (7, [.ref xq3, .ref xq4, .ref xq5, .ref xq6, .ref xq7, .int 0])), (xq3, .inl (cy 0, 192, .inl xf8)), (xq4, .inl (cy 0, 40, .inl (fun _ => 0))), (xq5, .inl (cy 0, 40, .inl (fun _ => 0))), (xq6, .inl (cy 0, 40, .inl (fun _ => 0))), (xq7, .inl (cy 0, 40, .inl (fun _ => 0))), (nq10, .inr (2, [.int 5, .int 9, .int 0, .ref xq12, .ref xq13, .ref xq14, .ref xq15])), (xq12, .inl (cy 0, 5, .inl xf25)), (xq13, .inl (cy 0, 5, .inl (fun _ => 0))), (xq14, .inl (cy 3, 3, .inr (.inr (.inr (.inr xg26))))), (xq16, .inr (1, [.ref xq19, .ref xq22, .int 0])), (xq19, .inl (cy 0, 48, .inl (fun _ => 0))), (xq17, .inr (1, [.ref xq20, .ref xq23, .int 0])), (xq20, .inl (cy 0, 48, .inl (fun _ => 0))), (xq18, .inr (1, [.ref xq21, .ref xq24, .int 0])), (xq21, .inl (cy 0, 48, .inl (fun _ => 0))), (nq31, .inr (3, [.ref xq33, .ref xq34, .ref xq35, .int 0, .ref xq36, .ref xq37, .int 0, .int 0, .int 0])), (xq33, .inl (cy 0, 7, .inl (fun _ => 0))), (xq34, .inl (cy 0, 7, .inl (fun _ => 0))), (xq35, .inl (cy 0, 7, .inl (fun _ => 0))), (xq36, .inr (5, [.ref xq38, .int 0])), (xq38, .inl (cy 0, 7, .inl (fun _ => 0))), (xq37, .inr (5, [.ref xq39, .int 0])), (xq39, .inl (cy 0, 7, .inl (fun _ => 0))), (nq40, .inr (5, [.ref xq42, .int 0])), (xq42, .inl (cy 0, 48, .inl (fun _ => 0))), (nq43, .inr (5, [.ref xq45, .int 0])), (xq45, .inl (cy 0, 24, .inl (fun _ => 0))), (nq46, .inl (cy 4, 8, .inr (.inr (.inr (.inr (va_up (va_up (va_up (va_up (fun _ => none) 0 (some nq47)) 1 (some nq51)) 2 (some nq55)) 3 (some nq59))))))), (nq47, .inr (9, [.int 0, .int 0, .int 0, .int 5, .int 60, .int 0, .int 0, .int 0, .int 0, .ref xq49, .ref xq50])), (xq49, .inl (cy 0, 192, .inl (fun _ => 0))), (xq50, .inl (cy 0, 192, .inl (fun _ => 0)))]) hP [0, 1, 2, 3, 4, 5, 6, 7, 8, 9, 10, 11, 12, 13, 14, 15, 16, 17, 18, 19, 20, 21, 22, 23, 24, 25, 26, 27, 28, 29, 30, 31, 32] rfl
  have hD := hD.sub (ws' := [(h0, .inr (10, [.ref nq1, .ref nq10, .ref nq31, .ref nq40, .ref nq43, .ref nq46, .int 0, .int 0])), (nq1, .inr (7, [.ref xq3, .ref xq4, .ref xq5, .ref xq6, .ref xq7, .int 0])), (xq3, .inl (cy 0, 192, .inl xf8)), (xq4, .inl (cy 0, 40, .inl (fun _ => 0))), (xq5, .inl (cy 0, 40, .inl (fun _ => 0))), (xq6, .inl (cy 0, 40, .inl (fun _ => 0))), (xq7, .inl (cy 0, 40, .inl (fun _ => 0))), (nq10, .inr (2, [.int 5, .int 9, .int 0, .ref xq12, .ref xq13, .ref xq14, .ref xq15])), (xq12, .inl (cy 0, 5, .inl xf25)), (xq13, .inl (cy 0, 5, .inl (fun _ => 0))), (xq14, .inl (cy 3, 3, .inr (.inr (.inr (.inr xg26))))), (xq16, .inr (1, [.ref xq19, .ref xq22, .int 0])), (xq19, .inl (cy 0, 48, .inl (fun _ => 0))), (xq17, .inr (1, [.ref xq20, .ref xq23, .int 0])), (xq20, .inl (cy 0, 48, .inl (fun _ => 0))), (xq18, .inr (1, [.ref xq21, .ref xq24, .int 0])), (xq21, .inl (cy 0, 48, .inl (fun _ => 0))), (nq31, .inr (3, [.ref xq33, .ref xq34, .ref xq35, .int 0, .ref xq36, .ref xq37, .int 0, .int 0, .int 0])), (xq33, .inl (cy 0, 7, .inl (fun _ => 0))), (xq34, .inl (cy 0, 7, .inl (fun _ => 0))), (xq35, .inl (cy 0, 7, .inl (fun _ => 0))), (xq36, .inr (5, [.ref xq38, .int 0])), (xq38, .inl (cy 0, 7, .inl (fun _ => 0))), (xq37, .inr (5, [.ref xq39, .int 0])), (xq39, .inl (cy 0, 7, .inl (fun _ => 0))), (nq40, .inr (5, [.ref xq42, .int 0])), (xq42, .inl (cy 0, 48, .inl (fun _ => 0))), (nq43, .inr (5, [.ref xq45, .int 0])), (xq45, .inl (cy 0, 24, .inl (fun _ => 0))), (nq46, .inl (cy 4, 8, .inr (.inr (.inr (.inr (va_up (va_up (va_up (va_up (fun _ => none) 0 (some nq47)) 1 (some nq51)) 2 (some nq55)) 3 (some nq59))))))), (nq47, .inr (9, [.int 0, .int 0, .int 0, .int 5, .int 60, .int 0, .int 0, .int 0, .int 0, .ref xq49, .ref xq50])), (xq49, .inl (cy 0, 192, .inl (fun _ => 0))), (xq50, .inl (cy 0, 192, .inl (fun _ => 0)))]) [0, 1, 2, 3, 4, 5, 6, 7, 8, 9, 10, 11, 12, 13, 14, 15, 16, 17, 18, 19, 20, 21, 22, 23, 24, 25, 26, 27, 28, 29, 30, 31, 32] (by decide) rfl
  refine lv_iinc (v := 4) (lv' := [(1, .int 4), (0, .ref h0)]) hx hb dX10_init_103 hl (k := 0) rfl (by decide) (by decide) rfl (fun ls hl => ?_)
  refine lv_goto (tgt := 84) hx hb dX10_init_106 (by decide) ?_
  refine lv_iload_n hx hb dX10_init_84 rfl (lv_at hl 0 rfl) ?_
  refine lv_bipush (v := 8) hx hb dX10_init_85 (by decide) ?_
  refine lv_icmp_ge (tgt := 109) hx hb dX10_init_87 (by decide) (fun h9 => absurd h9 (by decide)) (fun _ => ?_)
  refine lv_aload_n hx hb dX10_init_90 rfl (lv_at hl 1 rfl) ?_
  refine va_get (D := G) (ci := 10) (v := .ref nq46) (C := RX10) (T := TX10) (N := 8) hx hb hts inB10 hown hE.1 hP 0 rfl rfl 5 (by decide) (hts _ m_321) (fun _ h9 => h9) rfl dX10_init_91 ?_
  refine lv_iload_n hx hb dX10_init_94 rfl (lv_at hl 0 rfl) ?_
  refine va_new (ci := 9) (fs := [.int 0, .int 0, .int 0, .int 0, .int 0, .int 0, .int 0, .int 0, .int 0, .null, .null]) (C := RX9) (T := TX9) (N := 11) hx hb hts inB9 tyX9 tyX9_ok hown (hts _ m_251) (hts _ m_253) (hts _ m_87) hE.1 hP hD hS hA rfl df9 (Nat.le_of_ble_eq_true rfl) (Nat.le_of_ble_eq_true rfl) dX10_init_95 (fun nq63 H hP hD hS => ?_)
  have hP : va_P G classes [(h0, .inr (10, [.ref nq1, .ref nq10, .ref nq31, .ref nq40, .ref nq43, .ref nq46, .int 0, .int 0])), (nq1, .inr (7, [.ref xq3, .ref xq4, .ref xq5, .ref xq6, .ref xq7, .int 0])), (xq3, .inl (cy 0, 192, .inl xf8)), (xq4, .inl (cy 0, 40, .inl (fun _ => 0))), (xq5, .inl (cy 0, 40, .inl (fun _ => 0))), (xq6, .inl (cy 0, 40, .inl (fun _ => 0))), (xq7, .inl (cy 0, 40, .inl (fun _ => 0))), (nq10, .inr (2, [.int 5, .int 9, .int 0, .ref xq12, .ref xq13, .ref xq14, .ref xq15])), (xq12, .inl (cy 0, 5, .inl xf25)), (xq13, .inl (cy 0, 5, .inl (fun _ => 0))), (xq14, .inl (cy 3, 3, .inr (.inr (.inr (.inr xg26))))), (xq16, .inr (1, [.ref xq19, .ref xq22, .int 0])), (xq19, .inl (cy 0, 48, .inl (fun _ => 0))), (xq17, .inr (1, [.ref xq20, .ref xq23, .int 0])), (xq20, .inl (cy 0, 48, .inl (fun _ => 0))), (xq18, .inr (1, [.ref xq21, .ref xq24, .int 0])), (xq21, .inl (cy 0, 48, .inl (fun _ => 0))), (nq31, .inr (3, [.ref xq33, .ref xq34, .ref xq35, .int 0, .ref xq36, .ref xq37, .int 0, .int 0, .int 0])), (xq33, .inl (cy 0, 7, .inl (fun _ => 0))), (xq34, .inl (cy 0, 7, .inl (fun _ => 0))), (xq35, .inl (cy 0, 7, .inl (fun _ => 0))), (xq36, .inr (5, [.ref xq38, .int 0])), (xq38, .inl (cy 0, 7, .inl (fun _ => 0))), (xq37, .inr (5, [.ref xq39, .int 0])), (xq39, .inl (cy 0, 7, .inl (fun _ => 0))), (nq40, .inr (5, [.ref xq42, .int 0])), (xq42, .inl (cy 0, 48, .inl (fun _ => 0))), (nq43, .inr (5, [.ref xq45, .int 0])), (xq45, .inl (cy 0, 24, .inl (fun _ => 0))), (nq46, .inl (cy 4, 8, .inr (.inr (.inr (.inr (va_up (va_up (va_up (va_up (fun _ => none) 0 (some nq47)) 1 (some nq51)) 2 (some nq55)) 3 (some nq59))))))), (nq47, .inr (9, [.int 0, .int 0, .int 0, .int 5, .int 60, .int 0, .int 0, .int 0, .int 0, .ref xq49, .ref xq50])), (xq49, .inl (cy 0, 192, .inl (fun _ => 0))), (xq50, .inl (cy 0, 192, .inl (fun _ => 0))), (nq63, .inr (9, [.int 0, .int 0, .int 0, .int 0, .int 0, .int 0, .int 0, .int 0, .int 0, .null, .null]))] H := hP
  have hD : va_D A [(h0, .inr (10, [.ref nq1, .ref nq10, .ref nq31, .ref nq40, .ref nq43, .ref nq46, .int 0, .int 0])), (nq1, .inr (7, [.ref xq3, .ref xq4, .ref xq5, .ref xq6, .ref xq7, .int 0])), (xq3, .inl (cy 0, 192, .inl xf8)), (xq4, .inl (cy 0, 40, .inl (fun _ => 0))), (xq5, .inl (cy 0, 40, .inl (fun _ => 0))), (xq6, .inl (cy 0, 40, .inl (fun _ => 0))), (xq7, .inl (cy 0, 40, .inl (fun _ => 0))), (nq10, .inr (2, [.int 5, .int 9, .int 0, .ref xq12, .ref xq13, .ref xq14, .ref xq15])), (xq12, .inl (cy 0, 5, .inl xf25)), (xq13, .inl (cy 0, 5, .inl (fun _ => 0))), (xq14, .inl (cy 3, 3, .inr (.inr (.inr (.inr xg26))))), (xq16, .inr (1, [.ref xq19, .ref xq22, .int 0])), (xq19, .inl (cy 0, 48, .inl (fun _ => 0))), (xq17, .inr (1, [.ref xq20, .ref xq23, .int 0])), (xq20, .inl (cy 0, 48, .inl (fun _ => 0))), (xq18, .inr (1, [.ref xq21, .ref xq24, .int 0])), (xq21, .inl (cy 0, 48, .inl (fun _ => 0))), (nq31, .inr (3, [.ref xq33, .ref xq34, .ref xq35, .int 0, .ref xq36, .ref xq37, .int 0, .int 0, .int 0])), (xq33, .inl (cy 0, 7, .inl (fun _ => 0))), (xq34, .inl (cy 0, 7, .inl (fun _ => 0))), (xq35, .inl (cy 0, 7, .inl (fun _ => 0))), (xq36, .inr (5, [.ref xq38, .int 0])), (xq38, .inl (cy 0, 7, .inl (fun _ => 0))), (xq37, .inr (5, [.ref xq39, .int 0])), (xq39, .inl (cy 0, 7, .inl (fun _ => 0))), (nq40, .inr (5, [.ref xq42, .int 0])), (xq42, .inl (cy 0, 48, .inl (fun _ => 0))), (nq43, .inr (5, [.ref xq45, .int 0])), (xq45, .inl (cy 0, 24, .inl (fun _ => 0))), (nq46, .inl (cy 4, 8, .inr (.inr (.inr (.inr (va_up (va_up (va_up (va_up (fun _ => none) 0 (some nq47)) 1 (some nq51)) 2 (some nq55)) 3 (some nq59))))))), (nq47, .inr (9, [.int 0, .int 0, .int 0, .int 5, .int 60, .int 0, .int 0, .int 0, .int 0, .ref xq49, .ref xq50])), (xq49, .inl (cy 0, 192, .inl (fun _ => 0))), (xq50, .inl (cy 0, 192, .inl (fun _ => 0))), (nq63, .inr (9, [.int 0, .int 0, .int 0, .int 0, .int 0, .int 0, .int 0, .int 0, .int 0, .null, .null]))] := hD
  refine lv_dup hx hb dX10_init_98 rfl ?_
  refine wIN (B := (B_c_X9_init G cy (va_A [(nq63, .inr (9, [.int 0, .int 0, .int 0, .int 0, .int 0, .int 0, .int 0, .int 0, .int 0, .null, .null]))] H.size) nq63)) (wr := [(h0, .inr (10, [.ref nq1, .ref nq10, .ref nq31, .ref nq40, .ref nq43, .ref nq46, .int 0, .int 0])), (nq1, .inr (7, [.ref xq3, .ref xq4, .ref xq5, .ref xq6, .ref xq7, .int 0])), (xq3, .inl (cy 0, 192, .inl xf8)), (xq4, .inl (cy 0, 40, .inl (fun _ => 0))), (xq5, .inl (cy 0, 40, .inl (fun _ => 0))), (xq6, .inl (cy 0, 40, .inl (fun _ => 0))), (xq7, .inl (cy 0, 40, .inl (fun _ => 0))), (nq10, .inr (2, [.int 5, .int 9, .int 0, .ref xq12, .ref xq13, .ref xq14, .ref xq15])), (xq12, .inl (cy 0, 5, .inl xf25)), (xq13, .inl (cy 0, 5, .inl (fun _ => 0))), (xq14, .inl (cy 3, 3, .inr (.inr (.inr (.inr xg26))))), (xq16, .inr (1, [.ref xq19, .ref xq22, .int 0])), (xq19, .inl (cy 0, 48, .inl (fun _ => 0))), (xq17, .inr (1, [.ref xq20, .ref xq23, .int 0])), (xq20, .inl (cy 0, 48, .inl (fun _ => 0))), (xq18, .inr (1, [.ref xq21, .ref xq24, .int 0])), (xq21, .inl (cy 0, 48, .inl (fun _ => 0))), (nq31, .inr (3, [.ref xq33, .ref xq34, .ref xq35, .int 0, .ref xq36, .ref xq37, .int 0, .int 0, .int 0])), (xq33, .inl (cy 0, 7, .inl (fun _ => 0))), (xq34, .inl (cy 0, 7, .inl (fun _ => 0))), (xq35, .inl (cy 0, 7, .inl (fun _ => 0))), (xq36, .inr (5, [.ref xq38, .int 0])), (xq38, .inl (cy 0, 7, .inl (fun _ => 0))), (xq37, .inr (5, [.ref xq39, .int 0])), (xq39, .inl (cy 0, 7, .inl (fun _ => 0))), (nq40, .inr (5, [.ref xq42, .int 0])), (xq42, .inl (cy 0, 48, .inl (fun _ => 0))), (nq43, .inr (5, [.ref xq45, .int 0])), (xq45, .inl (cy 0, 24, .inl (fun _ => 0))), (nq46, .inl (cy 4, 8, .inr (.inr (.inr (.inr (va_up (va_up (va_up (va_up (fun _ => none) 0 (some nq47)) 1 (some nq51)) 2 (some nq55)) 3 (some nq59))))))), (nq47, .inr (9, [.int 0, .int 0, .int 0, .int 5, .int 60, .int 0, .int 0, .int 0, .int 0, .ref xq49, .ref xq50])), (xq49, .inl (cy 0, 192, .inl (fun _ => 0))), (xq50, .inl (cy 0, 192, .inl (fun _ => 0)))]) (rest := [.ref nq63, .int 4, .ref nq46]) (host := "ClickStreet") hx hb hml hown hts hE (c_X9_init l G cy sk H.size nq63) kI_X9_init (by decide +kernel) rfl rfl ⟨(Nat.le_of_ble_eq_true rfl), (Nat.le_of_ble_eq_true rfl)⟩ hP hD hS hA [33] [0, 1, 2, 3, 4, 5, 6, 7, 8, 9, 10, 11, 12, 13, 14, 15, 16, 17, 18, 19, 20, 21, 22, 23, 24, 25, 26, 27, 28, 29, 30, 31, 32] rfl rfl rfl rfl (by decide) rfl rfl hl.1 (Nat.le_of_ble_eq_true rfl) dX10_init_99 ⟨(Nat.le_of_ble_eq_true rfl), (Nat.le_of_ble_eq_true rfl)⟩ (fun H locs haf hS => ?_)
  obtain ⟨xq65, xq66, hP1, hD1⟩ := haf.1
  obtain ⟨hP, hD⟩ := haf.2.1 _ hP1 hD1
  have hP : va_P G classes [(h0, .inr (10, [.ref nq1, .ref nq10, .ref nq31, .ref nq40, .ref nq43, .ref nq46, .int 0, .int 0])), (nq1, .inr (7, [.ref xq3, .ref xq4, .ref xq5, .ref xq6, .ref xq7, .int 0])), (xq3, .inl (cy 0, 192, .inl xf8)), (xq4, .inl (cy 0, 40, .inl (fun _ => 0))), (xq5, .inl (cy 0, 40, .inl (fun _ => 0))), (xq6, .inl (cy 0, 40, .inl (fun _ => 0))), (xq7, .inl (cy 0, 40, .inl (fun _ => 0))), (nq10, .inr (2, [.int 5, .int 9, .int 0, .ref xq12, .ref xq13, .ref xq14, .ref xq15])), (xq12, .inl (cy 0, 5, .inl xf25)), (xq13, .inl (cy 0, 5, .inl (fun _ => 0))), (xq14, .inl (cy 3, 3, .inr (.inr (.inr (.inr xg26))))), (xq16, .inr (1, [.ref xq19, .ref xq22, .int 0])), (xq19, .inl (cy 0, 48, .inl (fun _ => 0))), (xq17, .inr (1, [.ref xq20, .ref xq23, .int 0])), (xq20, .inl (cy 0, 48, .inl (fun _ => 0))), (xq18, .inr (1, [.ref xq21, .ref xq24, .int 0])), (xq21, .inl (cy 0, 48, .inl (fun _ => 0))), (nq31, .inr (3, [.ref xq33, .ref xq34, .ref xq35, .int 0, .ref xq36, .ref xq37, .int 0, .int 0, .int 0])), (xq33, .inl (cy 0, 7, .inl (fun _ => 0))), (xq34, .inl (cy 0, 7, .inl (fun _ => 0))), (xq35, .inl (cy 0, 7, .inl (fun _ => 0))), (xq36, .inr (5, [.ref xq38, .int 0])), (xq38, .inl (cy 0, 7, .inl (fun _ => 0))), (xq37, .inr (5, [.ref xq39, .int 0])), (xq39, .inl (cy 0, 7, .inl (fun _ => 0))), (nq40, .inr (5, [.ref xq42, .int 0])), (xq42, .inl (cy 0, 48, .inl (fun _ => 0))), (nq43, .inr (5, [.ref xq45, .int 0])), (xq45, .inl (cy 0, 24, .inl (fun _ => 0))), (nq46, .inl (cy 4, 8, .inr (.inr (.inr (.inr (va_up (va_up (va_up (va_up (fun _ => none) 0 (some nq47)) 1 (some nq51)) 2 (some nq55)) 3 (some nq59))))))), (nq47, .inr (9, [.int 0, .int 0, .int 0, .int 5, .int 60, .int 0, .int 0, .int 0, .int 0, .ref xq49, .ref xq50])), (xq49, .inl (cy 0, 192, .inl (fun _ => 0))), (xq50, .inl (cy 0, 192, .inl (fun _ => 0))), (nq63, .inr (9, [.int 0, .int 0, .int 0, .int 5, .int 60, .int 0, .int 0, .int 0, .int 0, .ref xq65, .ref xq66])), (xq65, .inl (cy 0, 192, .inl (fun _ => 0))), (xq66, .inl (cy 0, 192, .inl (fun _ => 0)))] H := hP
  have hD : va_D A [(h0, .inr (10, [.ref nq1, .ref nq10, .ref nq31, .ref nq40, .ref nq43, .ref nq46, .int 0, .int 0])), (nq1, .inr (7, [.ref xq3, .ref xq4, .ref xq5, .ref xq6, .ref xq7, .int 0])), (xq3, .inl (cy 0, 192, .inl xf8)), (xq4, .inl (cy 0, 40, .inl (fun _ => 0))), (xq5, .inl (cy 0, 40, .inl (fun _ => 0))), (xq6, .inl (cy 0, 40, .inl (fun _ => 0))), (xq7, .inl (cy 0, 40, .inl (fun _ => 0))), (nq10, .inr (2, [.int 5, .int 9, .int 0, .ref xq12, .ref xq13, .ref xq14, .ref xq15])), (xq12, .inl (cy 0, 5, .inl xf25)), (xq13, .inl (cy 0, 5, .inl (fun _ => 0))), (xq14, .inl (cy 3, 3, .inr (.inr (.inr (.inr xg26))))), (xq16, .inr (1, [.ref xq19, .ref xq22, .int 0])), (xq19, .inl (cy 0, 48, .inl (fun _ => 0))), (xq17, .inr (1, [.ref xq20, .ref xq23, .int 0])), (xq20, .inl (cy 0, 48, .inl (fun _ => 0))), (xq18, .inr (1, [.ref xq21, .ref xq24, .int 0])), (xq21, .inl (cy 0, 48, .inl (fun _ => 0))), (nq31, .inr (3, [.ref xq33, .ref xq34, .ref xq35, .int 0, .ref xq36, .ref xq37, .int 0, .int 0, .int 0])), (xq33, .inl (cy 0, 7, .inl (fun _ => 0))), (xq34, .inl (cy 0, 7, .inl (fun _ => 0))), (xq35, .inl (cy 0, 7, .inl (fun _ => 0))), (xq36, .inr (5, [.ref xq38, .int 0])), (xq38, .inl (cy 0, 7, .inl (fun _ => 0))), (xq37, .inr (5, [.ref xq39, .int 0])), (xq39, .inl (cy 0, 7, .inl (fun _ => 0))), (nq40, .inr (5, [.ref xq42, .int 0])), (xq42, .inl (cy 0, 48, .inl (fun _ => 0))), (nq43, .inr (5, [.ref xq45, .int 0])), (xq45, .inl (cy 0, 24, .inl (fun _ => 0))), (nq46, .inl (cy 4, 8, .inr (.inr (.inr (.inr (va_up (va_up (va_up (va_up (fun _ => none) 0 (some nq47)) 1 (some nq51)) 2 (some nq55)) 3 (some nq59))))))), (nq47, .inr (9, [.int 0, .int 0, .int 0, .int 5, .int 60, .int 0, .int 0, .int 0, .int 0, .ref xq49, .ref xq50])), (xq49, .inl (cy 0, 192, .inl (fun _ => 0))), (xq50, .inl (cy 0, 192, .inl (fun _ => 0))), (nq63, .inr (9, [.int 0, .int 0, .int 0, .int 5, .int 60, .int 0, .int 0, .int 0, .int 0, .ref xq65, .ref xq66])), (xq65, .inl (cy 0, 192, .inl (fun _ => 0))), (xq66, .inl (cy 0, 192, .inl (fun _ => 0)))] := hD
  refine va_astq hx hb hE.1 hP hD hS 29 4 33 9 rfl rfl rfl rfl (vinL (by decide)) dX10_init_102 (fun H locs hP hD hS => ?_)
  have hP : va_P G classes [(h0, .inr (10, [.ref nq1, .ref nq10, .ref nq31, .ref nq40, .ref nq43, .ref nq46, .int 0, .int 0])), (nq1, .inr (7, [.ref xq3, .ref xq4, .ref xq5, .ref xq6, .ref xq7, .int 0])), (xq3, .inl (cy 0, 192, .inl xf8)), (xq4, .inl (cy 0, 40, .inl (fun _ => 0))), (xq5, .inl (cy 0, 40, .inl (fun _ => 0))), (xq6, .inl (cy 0, 40, .inl (fun _ => 0))), (xq7, .inl (cy 0, 40, .inl (fun _ => 0))), (nq10, .inr (2, [.int 5, .int 9, .int 0, .ref xq12, .ref xq13, .ref xq14, .ref xq15])), (xq12, .inl (cy 0, 5, .inl xf25)), (xq13, .inl (cy 0, 5, .inl (fun _ => 0))), (xq14, .inl (cy 3, 3, .inr (.inr (.inr (.inr xg26))))), (xq16, .inr (1, [.ref xq19, .ref xq22, .int 0])), (xq19, .inl (cy 0, 48, .inl (fun _ => 0))), (xq17, .inr (1, [.ref xq20, .ref xq23, .int 0])), (xq20, .inl (cy 0, 48, .inl (fun _ => 0))), (xq18, .inr (1, [.ref xq21, .ref xq24, .int 0])), (xq21, .inl (cy 0, 48, .inl (fun _ => 0))), (nq31, .inr (3, [.ref xq33, .ref xq34, .ref xq35, .int 0, .ref xq36, .ref xq37, .int 0, .int 0, .int 0])), (xq33, .inl (cy 0, 7, .inl (fun _ => 0))), (xq34, .inl (cy 0, 7, .inl (fun _ => 0))), (xq35, .inl (cy 0, 7, .inl (fun _ => 0))), (xq36, .inr (5, [.ref xq38, .int 0])), (xq38, .inl (cy 0, 7, .inl (fun _ => 0))), (xq37, .inr (5, [.ref xq39, .int 0])), (xq39, .inl (cy 0, 7, .inl (fun _ => 0))), (nq40, .inr (5, [.ref xq42, .int 0])), (xq42, .inl (cy 0, 48, .inl (fun _ => 0))), (nq43, .inr (5, [.ref xq45, .int 0])), (xq45, .inl (cy 0, 24, .inl (fun _ => 0))), (nq46, .inl (cy 4, 8, .inr (.inr (.inr (.inr (va_up (va_up (va_up (va_up (va_up (fun _ => none) 0 (some nq47)) 1 (some nq51)) 2 (some nq55)) 3 (some nq59)) 4 (some nq63))))))), (nq47, .inr (9, [.int 0, .int 0, .int 0, .int 5, .int 60, .int 0, .int 0, .int 0, .int 0, .ref xq49, .ref xq50])), (xq49, .inl (cy 0, 192, .inl (fun _ => 0))), (xq50, .inl (cy 0, 192, .inl (fun _ => 0))), (nq63, .inr (9, [.int 0, .int 0, .int 0, .int 5, .int 60, .int 0, .int 0, .int 0, .int 0, .ref xq65, .ref xq66])), (xq65, .inl (cy 0, 192, .inl (fun _ => 0))), (xq66, .inl (cy 0, 192, .inl (fun _ => 0)))] H := hP
  have hD : va_D A [(h0, .inr (10, [.ref nq1, .ref nq10, .ref nq31, .ref nq40, .ref nq43, .ref nq46, .int 0, .int 0])), (nq1, .inr (7, [.ref xq3, .ref xq4, .ref xq5, .ref xq6, .ref xq7, .int 0])), (xq3, .inl (cy 0, 192, .inl xf8)), (xq4, .inl (cy 0, 40, .inl (fun _ => 0))), (xq5, .inl (cy 0, 40, .inl (fun _ => 0))), (xq6, .inl (cy 0, 40, .inl (fun _ => 0))), (xq7, .inl (cy 0, 40, .inl (fun _ => 0))), (nq10, .inr (2, [.int 5, .int 9, .int 0, .ref xq12, .ref xq13, .ref xq14, .ref xq15])), (xq12, .inl (cy 0, 5, .inl xf25)), (xq13, .inl (cy 0, 5, .inl (fun _ => 0))), (xq14, .inl (cy 3, 3, .inr (.inr (.inr (.inr xg26))))), (xq16, .inr (1, [.ref xq19, .ref xq22, .int 0])), (xq19, .inl (cy 0, 48, .inl (fun _ => 0))), (xq17, .inr (1, [.ref xq20, .ref xq23, .int 0])), (xq20, .inl (cy 0, 48, .inl (fun _ => 0))), (xq18, .inr (1, [.ref xq21, .ref xq24, .int 0])), (xq21, .inl (cy 0, 48, .inl (fun _ => 0))), (nq31, .inr (3, [.ref xq33, .ref xq34, .ref xq35, .int 0, .ref xq36, .ref xq37, .int 0, .int 0, .int 0])), (xq33, .inl (cy 0, 7, .inl (fun _ => 0))), (xq34, .inl (cy 0, 7, .inl (fun _ => 0))), (xq35, .inl (cy 0, 7, .inl (fun _ => 0))), (xq36, .inr (5, [.ref xq38, .int 0])), (xq38, .inl (cy 0, 7, .inl (fun _ => 0))), (xq37, .inr (5, [.ref xq39, .int 0])), (xq39, .inl (cy 0, 7, .inl (fun _ => 0))), (nq40, .inr (5, [.ref xq42, .int 0])), (xq42, .inl (cy 0, 48, .inl (fun _ => 0))), (nq43, .inr (5, [.ref xq45, .int 0])), (xq45, .inl (cy 0, 24, .inl (fun _ => 0))), (nq46, .inl (cy 4, 8, .inr (.inr (.inr (.inr (va_up (va_up (va_up (va_up (va_up (fun _ => none) 0 (some nq47)) 1 (some nq51)) 2 (some nq55)) 3 (some nq59)) 4 (some nq63))))))), (nq47, .inr (9, [.int 0, .int 0, .int 0, .int 5, .int 60, .int 0, .int 0, .int 0, .int 0, .ref xq49, .ref xq50])), (xq49, .inl (cy 0, 192, .inl (fun _ => 0))), (xq50, .inl (cy 0, 192, .inl (fun _ => 0))), (nq63, .inr (9, [.int 0, .int 0, .int 0, .int 5, .int 60, .int 0, .int 0, .int 0, .int 0, .ref xq65, .ref xq66])), (xq65, .inl (cy 0, 192, .inl (fun _ => 0))), (xq66, .inl (cy 0, 192, .inl (fun _ => 0)))] := hD
  have hP := P_cut (wc := [(h0, .inr (10, [.ref nq1, .ref nq10, .ref nq31, .ref nq40, .ref nq43, .ref nq46, .int 0, .int 0])), (nq1, .inr (7, [.ref xq3, .ref xq4, .ref xq5, .ref xq6, .ref xq7, .int 0])), (xq3, .inl (cy 0, 192, .inl xf8)), (xq4, .inl (cy 0, 40, .inl (fun _ => 0))), (xq5, .inl (cy 0, 40, .inl (fun _ => 0))), (xq6, .inl (cy 0, 40, .inl (fun _ => 0))), (xq7, .inl (cy 0, 40, .inl (fun _ => 0))), (nq10, .inr (2, [.int 5, .int 9, .int 0, .ref xq12, .ref xq13, .ref xq14, .ref xq15])), (xq12, .inl (cy 0, 5, .inl xf25)), (xq13, .inl (cy 0, 5, .inl (fun _ => 0))), (xq14, .inl (cy 3, 3, .inr (.inr (.inr (.inr xg26))))), (xq16, .inr (1, [.ref xq19, .ref xq22, .int 0])), (xq19, .inl (cy 0, 48, .inl (fun _ => 0))), (xq17, .inr (1, [.ref xq20, .ref xq23, .int 0])), (xq20, .inl (cy 0, 48, .inl (fun _ => 0))), (xq18, .inr (1, [.ref xq21, .ref xq24, .int 0])), (xq21, .inl (cy 0, 48, .inl (fun _ => 0))), (nq31, .inr (3, [.ref xq33, .ref xq34, .ref xq35, .int 0, .ref xq36, .ref xq37, .int 0, .int 0, .int 0])), (xq33, .inl (cy 0, 7, .inl (fun _ => 0))), (xq34, .inl (cy 0, 7, .inl (fun _ => 0))), (xq35, .inl (cy 0, 7, .inl (fun _ => 0))), (xq36, .inr (5, [.ref xq38, .int 0])), (xq38, .inl (cy 0, 7, .inl (fun _ => 0))), (xq37, .inr (5, [.ref xq39, .int 0])), (xq39, .inl (cy 0, 7, .inl (fun _ => 0))), (nq40, .inr (5, [.ref xq42, .int 0])), (xq42, .inl (cy 0, 48, .inl (fun _ => 0))), (nq43, .inr (5, [.ref xq45, .int 0])), (xq45, .inl (cy 0, 24, .inl (fun _ => 0))), (nq46, .inl (cy 4, 8, .inr (.inr (.inr (.inr (va_up (va_up (va_up (va_up (va_up (fun _ => none) 0 (some nq47)) 1 (some nq51)) 2 (some nq55)) 3 (some nq59)) 4 (some nq63))))))), (nq47, .inr (9, [.int 0, .int 0, .int 0, .int 5, .int 60, .int 0, .int 0, .int 0, .int 0, .ref xq49, .ref xq50])), (xq49, .inl (cy 0, 192, .inl (fun _ => 0))), (xq50, .inl (cy 0, 192, .inl (fun _ => 0)))]) hP [0, 1, 2, 3, 4, 5, 6, 7, 8, 9, 10, 11, 12, 13, 14, 15, 16, 17, 18, 19, 20, 21, 22, 23, 24, 25, 26, 27, 28, 29, 30, 31, 32] rfl
  have hD := hD.sub (ws' := [(h0, .inr (10, [.ref nq1, .ref nq10, .ref nq31, .ref nq40, .ref nq43, .ref nq46, .int 0, .int 0])), (nq1, .inr (7, [.ref xq3, .ref xq4, .ref xq5, .ref xq6, .ref xq7, .int 0])), (xq3, .inl (cy 0, 192, .inl xf8)), (xq4, .inl (cy 0, 40, .inl (fun _ => 0))), (xq5, .inl (cy 0, 40, .inl (fun _ => 0))), (xq6, .inl (cy 0, 40, .inl (fun _ => 0))), (xq7, .inl (cy 0, 40, .inl (fun _ => 0))), (nq10, .inr (2, [.int 5, .int 9, .int 0, .ref xq12, .ref xq13, .ref xq14, .ref xq15])), (xq12, .inl (cy 0, 5, .inl xf25)), (xq13, .inl (cy 0, 5, .inl (fun _ => 0))), (xq14, .inl (cy 3, 3, .inr (.inr (.inr (.inr xg26))))), (xq16, .inr (1, [.ref xq19, .ref xq22, .int 0])), (xq19, .inl (cy 0, 48, .inl (fun _ => 0))), (xq17, .inr (1, [.ref xq20, .ref xq23, .int 0])), (xq20, .inl (cy 0, 48, .inl (fun _ => 0))), (xq18, .inr (1, [.ref xq21, .ref xq24, .int 0])), (xq21, .inl (cy 0, 48, .inl (fun _ => 0))), (nq31, .inr (3, [.ref xq33, .ref xq34, .ref xq35, .int 0, .ref xq36, .ref xq37, .int 0, .int 0, .int 0])), (xq33, .inl (cy 0, 7, .inl (fun _ => 0))), (xq34, .inl (cy 0, 7, .inl (fun _ => 0))), (xq35, .inl (cy 0, 7, .inl (fun _ => 0))), (xq36, .inr (5, [.ref xq38, .int 0])), (xq38, .inl (cy 0, 7, .inl (fun _ => 0))), (xq37, .inr (5, [.ref xq39, .int 0])), (xq39, .inl (cy 0, 7, .inl (fun _ => 0))), (nq40, .inr (5, [.ref xq42, .int 0])), (xq42, .inl (cy 0, 48, .inl (fun _ => 0))), (nq43, .inr (5, [.ref xq45, .int 0])), (xq45, .inl (cy 0, 24, .inl (fun _ => 0))), (nq46, .inl (cy 4, 8, .inr (.inr (.inr (.inr (va_up (va_up (va_up (va_up (va_up (fun _ => none) 0 (some nq47)) 1 (some nq51)) 2 (some nq55)) 3 (some nq59)) 4 (some nq63))))))), (nq47, .inr (9, [.int 0, .int 0, .int 0, .int 5, .int 60, .int 0, .int 0, .int 0, .int 0, .ref xq49, .ref xq50])), (xq49, .inl (cy 0, 192, .inl (fun _ => 0))), (xq50, .inl (cy 0, 192, .inl (fun _ => 0)))]) [0, 1, 2, 3, 4, 5, 6, 7, 8, 9, 10, 11, 12, 13, 14, 15, 16, 17, 18, 19, 20, 21, 22, 23, 24, 25, 26, 27, 28, 29, 30, 31, 32] (by decide) rfl
  refine lv_iinc (v := 5) (lv' := [(1, .int 5), (0, .ref h0)]) hx hb dX10_init_103 hl (k := 0) rfl (by decide) (by decide) rfl (fun ls hl => ?_)
  refine lv_goto (tgt := 84) hx hb dX10_init_106 (by decide) ?_
  refine lv_iload_n hx hb dX10_init_84 rfl (lv_at hl 0 rfl) ?_
  refine lv_bipush (v := 8) hx hb dX10_init_85 (by decide) ?_
  refine lv_icmp_ge (tgt := 109) hx hb dX10_init_87 (by decide) (fun h9 => absurd h9 (by decide)) (fun _ => ?_)
  refine lv_aload_n hx hb dX10_init_90 rfl (lv_at hl 1 rfl) ?_
  refine va_get (D := G) (ci := 10) (v := .ref nq46) (C := RX10) (T := TX10) (N := 8) hx hb hts inB10 hown hE.1 hP 0 rfl rfl 5 (by decide) (hts _ m_321) (fun _ h9 => h9) rfl dX10_init_91 ?_
  refine lv_iload_n hx hb dX10_init_94 rfl (lv_at hl 0 rfl) ?_
  refine va_new (ci := 9) (fs := [.int 0, .int 0, .int 0, .int 0, .int 0, .int 0, .int 0, .int 0, .int 0, .null, .null]) (C := RX9) (T := TX9) (N := 11) hx hb hts inB9 tyX9 tyX9_ok hown (hts _ m_251) (hts _ m_253) (hts _ m_87) hE.1 hP hD hS hA rfl df9 (Nat.le_of_ble_eq_true rfl) (Nat.le_of_ble_eq_true rfl) dX10_init_95 (fun nq67 H hP hD hS => ?_)
  have hP : va_P G classes [(h0, .inr (10, [.ref nq1, .ref nq10, .ref nq31, .ref nq40, .ref nq43, .ref nq46, .int 0, .int 0])), (nq1, .inr (7, [.ref xq3, .ref xq4, .ref xq5, .ref xq6, .ref xq7, .int 0])), (xq3, .inl (cy 0, 192, .inl xf8)), (xq4, .inl (cy 0, 40, .inl (fun _ => 0))), (xq5, .inl (cy 0, 40, .inl (fun _ => 0))), (xq6, .inl (cy 0, 40, .inl (fun _ => 0))), (xq7, .inl (cy 0, 40, .inl (fun _ => 0))), (nq10, .inr (2, [.int 5, .int 9, .int 0, .ref xq12, .ref xq13, .ref xq14, .ref xq15])), (xq12, .inl (cy 0, 5, .inl xf25)), (xq13, .inl (cy 0, 5, .inl (fun _ => 0))), (xq14, .inl (cy 3, 3, .inr (.inr (.inr (.inr xg26))))), (xq16, .inr (1, [.ref xq19, .ref xq22, .int 0])), (xq19, .inl (cy 0, 48, .inl (fun _ => 0))), (xq17, .inr (1, [.ref xq20, .ref xq23, .int 0])), (xq20, .inl (cy 0, 48, .inl (fun _ => 0))), (xq18, .inr (1, [.ref xq21, .ref xq24, .int 0])), (xq21, .inl (cy 0, 48, .inl (fun _ => 0))), (nq31, .inr (3, [.ref xq33, .ref xq34, .ref xq35, .int 0, .ref xq36, .ref xq37, .int 0, .int 0, .int 0])), (xq33, .inl (cy 0, 7, .inl (fun _ => 0))), (xq34, .inl (cy 0, 7, .inl (fun _ => 0))), (xq35, .inl (cy 0, 7, .inl (fun _ => 0))), (xq36, .inr (5, [.ref xq38, .int 0])), (xq38, .inl (cy 0, 7, .inl (fun _ => 0))), (xq37, .inr (5, [.ref xq39, .int 0])), (xq39, .inl (cy 0, 7, .inl (fun _ => 0))), (nq40, .inr (5, [.ref xq42, .int 0])), (xq42, .inl (cy 0, 48, .inl (fun _ => 0))), (nq43, .inr (5, [.ref xq45, .int 0])), (xq45, .inl (cy 0, 24, .inl (fun _ => 0))), (nq46, .inl (cy 4, 8, .inr (.inr (.inr (.inr (va_up (va_up (va_up (va_up (va_up (fun _ => none) 0 (some nq47)) 1 (some nq51)) 2 (some nq55)) 3 (some nq59)) 4 (some nq63))))))), (nq47, .inr (9, [.int 0, .int 0, .int 0, .int 5, .int 60, .int 0, .int 0, .int 0, .int 0, .ref xq49, .ref xq50])), (xq49, .inl (cy 0, 192, .inl (fun _ => 0))), (xq50, .inl (cy 0, 192, .inl (fun _ => 0))), (nq67, .inr (9, [.int 0, .int 0, .int 0, .int 0, .int 0, .int 0, .int 0, .int 0, .int 0, .null, .null]))] H := hP
  have hD : va_D A [(h0, .inr (10, [.ref nq1, .ref nq10, .ref nq31, .ref nq40, .ref nq43, .ref nq46, .int 0, .int 0])), (nq1, .inr (7, [.ref xq3, .ref xq4, .ref xq5, .ref xq6, .ref xq7, .int 0])), (xq3, .inl (cy 0, 192, .inl xf8)), (xq4, .inl (cy 0, 40, .inl (fun _ => 0))), (xq5, .inl (cy 0, 40, .inl (fun _ => 0))), (xq6, .inl (cy 0, 40, .inl (fun _ => 0))), (xq7, .inl (cy 0, 40, .inl (fun _ => 0))), (nq10, .inr (2, [.int 5, .int 9, .int 0, .ref xq12, .ref xq13, .ref xq14, .ref xq15])), (xq12, .inl (cy 0, 5, .inl xf25)), (xq13, .inl (cy 0, 5, .inl (fun _ => 0))), (xq14, .inl (cy 3, 3, .inr (.inr (.inr (.inr xg26))))), (xq16, .inr (1, [.ref xq19, .ref xq22, .int 0])), (xq19, .inl (cy 0, 48, .inl (fun _ => 0))), (xq17, .inr (1, [.ref xq20, .ref xq23, .int 0])), (xq20, .inl (cy 0, 48, .inl (fun _ => 0))), (xq18, .inr (1, [.ref xq21, .ref xq24, .int 0])), (xq21, .inl (cy 0, 48, .inl (fun _ => 0))), (nq31, .inr (3, [.ref xq33, .ref xq34, .ref xq35, .int 0, .ref xq36, .ref xq37, .int 0, .int 0, .int 0])), (xq33, .inl (cy 0, 7, .inl (fun _ => 0))), (xq34, .inl (cy 0, 7, .inl (fun _ => 0))), (xq35, .inl (cy 0, 7, .inl (fun _ => 0))), (xq36, .inr (5, [.ref xq38, .int 0])), (xq38, .inl (cy 0, 7, .inl (fun _ => 0))), (xq37, .inr (5, [.ref xq39, .int 0])), (xq39, .inl (cy 0, 7, .inl (fun _ => 0))), (nq40, .inr (5, [.ref xq42, .int 0])), (xq42, .inl (cy 0, 48, .inl (fun _ => 0))), (nq43, .inr (5, [.ref xq45, .int 0])), (xq45, .inl (cy 0, 24, .inl (fun _ => 0))), (nq46, .inl (cy 4, 8, .inr (.inr (.inr (.inr (va_up (va_up (va_up (va_up (va_up (fun _ => none) 0 (some nq47)) 1 (some nq51)) 2 (some nq55)) 3 (some nq59)) 4 (some nq63))))))), (nq47, .inr (9, [.int 0, .int 0, .int 0, .int 5, .int 60, .int 0, .int 0, .int 0, .int 0, .ref xq49, .ref xq50])), (xq49, .inl (cy 0, 192, .inl (fun _ => 0))), (xq50, .inl (cy 0, 192, .inl (fun _ => 0))), (nq67, .inr (9, [.int 0, .int 0, .int 0, .int 0, .int 0, .int 0, .int 0, .int 0, .int 0, .null, .null]))] := hD
  refine lv_dup hx hb dX10_init_98 rfl ?_
  refine wIN (B := (B_c_X9_init G cy (va_A [(nq67, .inr (9, [.int 0, .int 0, .int 0, .int 0, .int 0, .int 0, .int 0, .int 0, .int 0, .null, .null]))] H.size) nq67)) (wr := [(h0, .inr (10, [.ref nq1, .ref nq10, .ref nq31, .ref nq40, .ref nq43, .ref nq46, .int 0, .int 0])), (nq1, .inr (7, [.ref xq3, .ref xq4, .ref xq5, .ref xq6, .ref xq7, .int 0])), (xq3, .inl (cy 0, 192, .inl xf8)), (xq4, .inl (cy 0, 40, .inl (fun _ => 0))), (xq5, .inl (cy 0, 40, .inl (fun _ => 0))), (xq6, .inl (cy 0, 40, .inl (fun _ => 0))), (xq7, .inl (cy 0, 40, .inl (fun _ => 0))), (nq10, .inr (2, [.int 5, .int 9, .int 0, .ref xq12, .ref xq13, .ref xq14, .ref xq15])), (xq12, .inl (cy 0, 5, .inl xf25)), (xq13, .inl (cy 0, 5, .inl (fun _ => 0))), (xq14, .inl (cy 3, 3, .inr (.inr (.inr (.inr xg26))))), (xq16, .inr (1, [.ref xq19, .ref xq22, .int 0])), (xq19, .inl (cy 0, 48, .inl (fun _ => 0))), (xq17, .inr (1, [.ref xq20, .ref xq23, .int 0])), (xq20, .inl (cy 0, 48, .inl (fun _ => 0))), (xq18, .inr (1, [.ref xq21, .ref xq24, .int 0])), (xq21, .inl (cy 0, 48, .inl (fun _ => 0))), (nq31, .inr (3, [.ref xq33, .ref xq34, .ref xq35, .int 0, .ref xq36, .ref xq37, .int 0, .int 0, .int 0])), (xq33, .inl (cy 0, 7, .inl (fun _ => 0))), (xq34, .inl (cy 0, 7, .inl (fun _ => 0))), (xq35, .inl (cy 0, 7, .inl (fun _ => 0))), (xq36, .inr (5, [.ref xq38, .int 0])), (xq38, .inl (cy 0, 7, .inl (fun _ => 0))), (xq37, .inr (5, [.ref xq39, .int 0])), (xq39, .inl (cy 0, 7, .inl (fun _ => 0))), (nq40, .inr (5, [.ref xq42, .int 0])), (xq42, .inl (cy 0, 48, .inl (fun _ => 0))), (nq43, .inr (5, [.ref xq45, .int 0])), (xq45, .inl (cy 0, 24, .inl (fun _ => 0))), (nq46, .inl (cy 4, 8, .inr (.inr (.inr (.inr (va_up (va_up (va_up (va_up (va_up (fun _ => none) 0 (some nq47)) 1 (some nq51)) 2 (some nq55)) 3 (some nq59)) 4 (some nq63))))))), (nq47, .inr (9, [.int 0, .int 0, .int 0, .int 5, .int 60, .int 0, .int 0, .int 0, .int 0, .ref xq49, .ref xq50])), (xq49, .inl (cy 0, 192, .inl (fun _ => 0))), (xq50, .inl (cy 0, 192, .inl (fun _ => 0)))]) (rest := [.ref nq67, .int 5, .ref nq46]) (host := "ClickStreet") hx hb hml hown hts hE (c_X9_init l G cy sk H.size nq67) kI_X9_init (by decide +kernel) rfl rfl ⟨(Nat.le_of_ble_eq_true rfl), (Nat.le_of_ble_eq_true rfl)⟩ hP hD hS hA [33] [0, 1, 2, 3, 4, 5, 6, 7, 8, 9, 10, 11, 12, 13, 14, 15, 16, 17, 18, 19, 20, 21, 22, 23, 24, 25, 26, 27, 28, 29, 30, 31, 32] rfl rfl rfl rfl (by decide) rfl rfl hl.1 (Nat.le_of_ble_eq_true rfl) dX10_init_99 ⟨(Nat.le_of_ble_eq_true rfl), (Nat.le_of_ble_eq_true rfl)⟩ (fun H locs haf hS => ?_)
  obtain ⟨xq69, xq70, hP1, hD1⟩ := haf.1
  obtain ⟨hP, hD⟩ := haf.2.1 _ hP1 hD1
  have hP : va_P G classes [(h0, .inr (10, [.ref nq1, .ref nq10, .ref nq31, .ref nq40, .ref nq43, .ref nq46, .int 0, .int 0])), (nq1, .inr (7, [.ref xq3, .ref xq4, .ref xq5, .ref xq6, .ref xq7, .int 0])), (xq3, .inl (cy 0, 192, .inl xf8)), (xq4, .inl (cy 0, 40, .inl (fun _ => 0))), (xq5, .inl (cy 0, 40, .inl (fun _ => 0))), (xq6, .inl (cy 0, 40, .inl (fun _ => 0))), (xq7, .inl (cy 0, 40, .inl (fun _ => 0))), (nq10, .inr (2, [.int 5, .int 9, .int 0, .ref xq12, .ref xq13, .ref xq14, .ref xq15])), (xq12, .inl (cy 0, 5, .inl xf25)), (xq13, .inl (cy 0, 5, .inl (fun _ => 0))), (xq14, .inl (cy 3, 3, .inr (.inr (.inr (.inr xg26))))), (xq16, .inr (1, [.ref xq19, .ref xq22, .int 0])), (xq19, .inl (cy 0, 48, .inl (fun _ => 0))), (xq17, .inr (1, [.ref xq20, .ref xq23, .int 0])), (xq20, .inl (cy 0, 48, .inl (fun _ => 0))), (xq18, .inr (1, [.ref xq21, .ref xq24, .int 0])), (xq21, .inl (cy 0, 48, .inl (fun _ => 0))), (nq31, .inr (3, [.ref xq33, .ref xq34, .ref xq35, .int 0, .ref xq36, .ref xq37, .int 0, .int 0, .int 0])), (xq33, .inl (cy 0, 7, .inl (fun _ => 0))), (xq34, .inl (cy 0, 7, .inl (fun _ => 0))), (xq35, .inl (cy 0, 7, .inl (fun _ => 0))), (xq36, .inr (5, [.ref xq38, .int 0])), (xq38, .inl (cy 0, 7, .inl (fun _ => 0))), (xq37, .inr (5, [.ref xq39, .int 0])), (xq39, .inl (cy 0, 7, .inl (fun _ => 0))), (nq40, .inr (5, [.ref xq42, .int 0])), (xq42, .inl (cy 0, 48, .inl (fun _ => 0))), (nq43, .inr (5, [.ref xq45, .int 0])), (xq45, .inl (cy 0, 24, .inl (fun _ => 0))), (nq46, .inl (cy 4, 8, .inr (.inr (.inr (.inr (va_up (va_up (va_up (va_up (va_up (fun _ => none) 0 (some nq47)) 1 (some nq51)) 2 (some nq55)) 3 (some nq59)) 4 (some nq63))))))), (nq47, .inr (9, [.int 0, .int 0, .int 0, .int 5, .int 60, .int 0, .int 0, .int 0, .int 0, .ref xq49, .ref xq50])), (xq49, .inl (cy 0, 192, .inl (fun _ => 0))), (xq50, .inl (cy 0, 192, .inl (fun _ => 0))), (nq67, .inr (9, [.int 0, .int 0, .int 0, .int 5, .int 60, .int 0, .int 0, .int 0, .int 0, .ref xq69, .ref xq70])), (xq69, .inl (cy 0, 192, .inl (fun _ => 0))), (xq70, .inl (cy 0, 192, .inl (fun _ => 0)))] H := hP
  have hD : va_D A [(h0, .inr (10, [.ref nq1, .ref nq10, .ref nq31, .ref nq40, .ref nq43, .ref nq46, .int 0, .int 0])), (nq1, .inr (7, [.ref xq3, .ref xq4, .ref xq5, .ref xq6, .ref xq7, .int 0])), (xq3, .inl (cy 0, 192, .inl xf8)), (xq4, .inl (cy 0, 40, .inl (fun _ => 0))), (xq5, .inl (cy 0, 40, .inl (fun _ => 0))), (xq6, .inl (cy 0, 40, .inl (fun _ => 0))), (xq7, .inl (cy 0, 40, .inl (fun _ => 0))), (nq10, .inr (2, [.int 5, .int 9, .int 0, .ref xq12, .ref xq13, .ref xq14, .ref xq15])), (xq12, .inl (cy 0, 5, .inl xf25)), (xq13, .inl (cy 0, 5, .inl (fun _ => 0))), (xq14, .inl (cy 3, 3, .inr (.inr (.inr (.inr xg26))))), (xq16, .inr (1, [.ref xq19, .ref xq22, .int 0])), (xq19, .inl (cy 0, 48, .inl (fun _ => 0))), (xq17, .inr (1, [.ref xq20, .ref xq23, .int 0])), (xq20, .inl (cy 0, 48, .inl (fun _ => 0))), (xq18, .inr (1, [.ref xq21, .ref xq24, .int 0])), (xq21, .inl (cy 0, 48, .inl (fun _ => 0))), (nq31, .inr (3, [.ref xq33, .ref xq34, .ref xq35, .int 0, .ref xq36, .ref xq37, .int 0, .int 0, .int 0])), (xq33, .inl (cy 0, 7, .inl (fun _ => 0))), (xq34, .inl (cy 0, 7, .inl (fun _ => 0))), (xq35, .inl (cy 0, 7, .inl (fun _ => 0))), (xq36, .inr (5, [.ref xq38, .int 0])), (xq38, .inl (cy 0, 7, .inl (fun _ => 0))), (xq37, .inr (5, [.ref xq39, .int 0])), (xq39, .inl (cy 0, 7, .inl (fun _ => 0))), (nq40, .inr (5, [.ref xq42, .int 0])), (xq42, .inl (cy 0, 48, .inl (fun _ => 0))), (nq43, .inr (5, [.ref xq45, .int 0])), (xq45, .inl (cy 0, 24, .inl (fun _ => 0))), (nq46, .inl (cy 4, 8, .inr (.inr (.inr (.inr (va_up (va_up (va_up (va_up (va_up (fun _ => none) 0 (some nq47)) 1 (some nq51)) 2 (some nq55)) 3 (some nq59)) 4 (some nq63))))))), (nq47, .inr (9, [.int 0, .int 0, .int 0, .int 5, .int 60, .int 0, .int 0, .int 0, .int 0, .ref xq49, .ref xq50])), (xq49, .inl (cy 0, 192, .inl (fun _ => 0))), (xq50, .inl (cy 0, 192, .inl (fun _ => 0))), (nq67, .inr (9, [.int 0, .int 0, .int 0, .int 5, .int 60, .int 0, .int 0, .int 0, .int 0, .ref xq69, .ref xq70])), (xq69, .inl (cy 0, 192, .inl (fun _ => 0))), (xq70, .inl (cy 0, 192, .inl (fun _ => 0)))] := hD
  refine va_astq hx hb hE.1 hP hD hS 29 4 33 9 rfl rfl rfl rfl (vinL (by decide)) dX10_init_102 (fun H locs hP hD hS => ?_)
  have hP : va_P G classes [(h0, .inr (10, [.ref nq1, .ref nq10, .ref nq31, .ref nq40, .ref nq43, .ref nq46, .int 0, .int 0])), (nq1, .inr (7, [.ref xq3, .ref xq4, .ref xq5, .ref xq6, .ref xq7, .int 0])), (xq3, .inl (cy 0, 192, .inl xf8)), (xq4, .inl (cy 0, 40, .inl (fun _ => 0))), (xq5, .inl (cy 0, 40, .inl (fun _ => 0))), (xq6, .inl (cy 0, 40, .inl (fun _ => 0))), (xq7, .inl (cy 0, 40, .inl (fun _ => 0))), (nq10, .inr (2, [.int 5, .int 9, .int 0, .ref xq12, .ref xq13, .ref xq14, .ref xq15])), (xq12, .inl (cy 0, 5, .inl xf25)), (xq13, .inl (cy 0, 5, .inl (fun _ => 0))), (xq14, .inl (cy 3, 3, .inr (.inr (.inr (.inr xg26))))), (xq16, .inr (1, [.ref xq19, .ref xq22, .int 0])), (xq19, .inl (cy 0, 48, .inl (fun _ => 0))), (xq17, .inr (1, [.ref xq20, .ref xq23, .int 0])), (xq20, .inl (cy 0, 48, .inl (fun _ => 0))), (xq18, .inr (1, [.ref xq21, .ref xq24, .int 0])), (xq21, .inl (cy 0, 48, .inl (fun _ => 0))), (nq31, .inr (3, [.ref xq33, .ref xq34, .ref xq35, .int 0, .ref xq36, .ref xq37, .int 0, .int 0, .int 0])), (xq33, .inl (cy 0, 7, .inl (fun _ => 0))), (xq34, .inl (cy 0, 7, .inl (fun _ => 0))), (xq35, .inl (cy 0, 7, .inl (fun _ => 0))), (xq36, .inr (5, [.ref xq38, .int 0])), (xq38, .inl (cy 0, 7, .inl (fun _ => 0))), (xq37, .inr (5, [.ref xq39, .int 0])), (xq39, .inl (cy 0, 7, .inl (fun _ => 0))), (nq40, .inr (5, [.ref xq42, .int 0])), (xq42, .inl (cy 0, 48, .inl (fun _ => 0))), (nq43, .inr (5, [.ref xq45, .int 0])), (xq45, .inl (cy 0, 24, .inl (fun _ => 0))), (nq46, .inl (cy 4, 8, .inr (.inr (.inr (.inr (va_up (va_up (va_up (va_up (va_up (va_up (fun _ => none) 0 (some nq47)) 1 (some nq51)) 2 (some nq55)) 3 (some nq59)) 4 (some nq63)) 5 (some nq67))))))), (nq47, .inr (9, [.int 0, .int 0, .int 0, .int 5, .int 60, .int 0, .int 0, .int 0, .int 0, .ref xq49, .ref xq50])), (xq49, .inl (cy 0, 192, .inl (fun _ => 0))), (xq50, .inl (cy 0, 192, .inl (fun _ => 0))), (nq67, .inr (9, [.int 0, .int 0, .int 0, .int 5, .int 60, .int 0, .int 0, .int 0, .int 0, .ref xq69, .ref xq70])), (xq69, .inl (cy 0, 192, .inl (fun _ => 0))), (xq70, .inl (cy 0, 192, .inl (fun _ => 0)))] H := hP
  have hD : va_D A [(h0, .inr (10, [.ref nq1, .ref nq10, .ref nq31, .ref nq40, .ref nq43, .ref nq46, .int 0, .int 0])), (nq1, .inr (7, [.ref xq3, .ref xq4, .ref xq5, .ref xq6, .ref xq7, .int 0])), (xq3, .inl (cy 0, 192, .inl xf8)), (xq4, .inl (cy 0, 40, .inl (fun _ => 0))), (xq5, .inl (cy 0, 40, .inl (fun _ => 0))), (xq6, .inl (cy 0, 40, .inl (fun _ => 0))), (xq7, .inl (cy 0, 40, .inl (fun _ => 0))), (nq10, .inr (2, [.int 5, .int 9, .int 0, .ref xq12, .ref xq13, .ref xq14, .ref xq15])), (xq12, .inl (cy 0, 5, .inl xf25)), (xq13, .inl (cy 0, 5, .inl (fun _ => 0))), (xq14, .inl (cy 3, 3, .inr (.inr (.inr (.inr xg26))))), (xq16, .inr (1, [.ref xq19, .ref xq22, .int 0])), (xq19, .inl (cy 0, 48, .inl (fun _ => 0))), (xq17, .inr (1, [.ref xq20, .ref xq23, .int 0])), (xq20, .inl (cy 0, 48, .inl (fun _ => 0))), (xq18, .inr (1, [.ref xq21, .ref xq24, .int 0])), (xq21, .inl (cy 0, 48, .inl (fun _ => 0))), (nq31, .inr (3, [.ref xq33, .ref xq34, .ref xq35, .int 0, .ref xq36, .ref xq37, .int 0, .int 0, .int 0])), (xq33, .inl (cy 0, 7, .inl (fun _ => 0))), (xq34, .inl (cy 0, 7, .inl (fun _ => 0))), (xq35, .inl (cy 0, 7, .inl (fun _ => 0))), (xq36, .inr (5, [.ref xq38, .int 0])), (xq38, .inl (cy 0, 7, .inl (fun _ => 0))), (xq37, .inr (5, [.ref xq39, .int 0])), (xq39, .inl (cy 0, 7, .inl (fun _ => 0))), (nq40, .inr (5, [.ref xq42, .int 0])), (xq42, .inl (cy 0, 48, .inl (fun _ => 0))), (nq43, .inr (5, [.ref xq45, .int 0])), (xq45, .inl (cy 0, 24, .inl (fun _ => 0))), (nq46, .inl (cy 4, 8, .inr (.inr (.inr (.inr (va_up (va_up (va_up (va_up (va_up (va_up (fun _ => none) 0 (some nq47)) 1 (some nq51)) 2 (some nq55)) 3 (some nq59)) 4 (some nq63)) 5 (some nq67))))))), (nq47, .inr (9, [.int 0, .int 0, .int 0, .int 5, .int 60, .int 0, .int 0, .int 0, .int 0, .ref xq49, .ref xq50])), (xq49, .inl (cy 0, 192, .inl (fun _ => 0))), (xq50, .inl (cy 0, 192, .inl (fun _ => 0))), (nq67, .inr (9, [.int 0, .int 0, .int 0, .int 5, .int 60, .int 0, .int 0, .int 0, .int 0, .ref xq69, .ref xq70])), (xq69, .inl (cy 0, 192, .inl (fun _ => 0))), (xq70, .inl (cy 0, 192, .inl (fun _ => 0)))] := hD
  have hP := P_cut (wc := [(h0, .inr (10, [.ref nq1, .ref nq10, .ref nq31, .ref nq40, .ref nq43, .ref nq46, .int 0, .int 0])), (nq1, .inr (7, [.ref xq3, .ref xq4, .ref xq5, .ref xq6, .ref xq7, .int 0])), (xq3, .inl (cy 0, 192, .inl xf8)), (xq4, .inl (cy 0, 40, .inl (fun _ => 0))), (xq5, .inl (cy 0, 40, .inl (fun _ => 0))), (xq6, .inl (cy 0, 40, .inl (fun _ => 0))), (xq7, .inl (cy 0, 40, .inl (fun _ => 0))), (nq10, .inr (2, [.int 5, .int 9, .int 0, .ref xq12, .ref xq13, .ref xq14, .ref xq15])), (xq12, .inl (cy 0, 5, .inl xf25)), (xq13, .inl (cy 0, 5, .inl (fun _ => 0))), (xq14, .inl (cy 3, 3, .inr (.inr (.inr (.inr xg26))))), (xq16, .inr (1, [.ref xq19, .ref xq22, .int 0])), (xq19, .inl (cy 0, 48, .inl (fun _ => 0))), (xq17, .inr (1, [.ref xq20, .ref xq23, .int 0])), (xq20, .inl (cy 0, 48, .inl (fun _ => 0))), (xq18, .inr (1, [.ref xq21, .ref xq24, .int 0])), (xq21, .inl (cy 0, 48, .inl (fun _ => 0))), (nq31, .inr (3, [.ref xq33, .ref xq34, .ref xq35, .int 0, .ref xq36, .ref xq37, .int 0, .int 0, .int 0])), (xq33, .inl (cy 0, 7, .inl (fun _ => 0))), (xq34, .inl (cy 0, 7, .inl (fun _ => 0))), (xq35, .inl (cy 0, 7, .inl (fun _ => 0))), (xq36, .inr (5, [.ref xq38, .int 0])), (xq38, .inl (cy 0, 7, .inl (fun _ => 0))), (xq37, .inr (5, [.ref xq39, .int 0])), (xq39, .inl (cy 0, 7, .inl (fun _ => 0))), (nq40, .inr (5, [.ref xq42, .int 0])), (xq42, .inl (cy 0, 48, .inl (fun _ => 0))), (nq43, .inr (5, [.ref xq45, .int 0])), (xq45, .inl (cy 0, 24, .inl (fun _ => 0))), (nq46, .inl (cy 4, 8, .inr (.inr (.inr (.inr (va_up (va_up (va_up (va_up (va_up (va_up (fun _ => none) 0 (some nq47)) 1 (some nq51)) 2 (some nq55)) 3 (some nq59)) 4 (some nq63)) 5 (some nq67))))))), (nq47, .inr (9, [.int 0, .int 0, .int 0, .int 5, .int 60, .int 0, .int 0, .int 0, .int 0, .ref xq49, .ref xq50])), (xq49, .inl (cy 0, 192, .inl (fun _ => 0))), (xq50, .inl (cy 0, 192, .inl (fun _ => 0)))]) hP [0, 1, 2, 3, 4, 5, 6, 7, 8, 9, 10, 11, 12, 13, 14, 15, 16, 17, 18, 19, 20, 21, 22, 23, 24, 25, 26, 27, 28, 29, 30, 31, 32] rfl
  have hD := hD.sub (ws' := [(h0, .inr (10, [.ref nq1, .ref nq10, .ref nq31, .ref nq40, .ref nq43, .ref nq46, .int 0, .int 0])), (nq1, .inr (7, [.ref xq3, .ref xq4, .ref xq5, .ref xq6, .ref xq7, .int 0])), (xq3, .inl (cy 0, 192, .inl xf8)), (xq4, .inl (cy 0, 40, .inl (fun _ => 0))), (xq5, .inl (cy 0, 40, .inl (fun _ => 0))), (xq6, .inl (cy 0, 40, .inl (fun _ => 0))), (xq7, .inl (cy 0, 40, .inl (fun _ => 0))), (nq10, .inr (2, [.int 5, .int 9, .int 0, .ref xq12, .ref xq13, .ref xq14, .ref xq15])), (xq12, .inl (cy 0, 5, .inl xf25)), (xq13, .inl (cy 0, 5, .inl (fun _ => 0))), (xq14, .inl (cy 3, 3, .inr (.inr (.inr (.inr xg26))))), (xq16, .inr (1, [.ref xq19, .ref xq22, .int 0])), (xq19, .inl (cy 0, 48, .inl (fun _ => 0))), (xq17, .inr (1, [.ref xq20, .ref xq23, .int 0])), (xq20, .inl (cy 0, 48, .inl (fun _ => 0))), (xq18, .inr (1, [.ref xq21, .ref xq24, .int 0])), (xq21, .inl (cy 0, 48, .inl (fun _ => 0))), (nq31, .inr (3, [.ref xq33, .ref xq34, .ref xq35, .int 0, .ref xq36, .ref xq37, .int 0, .int 0, .int 0])), (xq33, .inl (cy 0, 7, .inl (fun _ => 0))), (xq34, .inl (cy 0, 7, .inl (fun _ => 0))), (xq35, .inl (cy 0, 7, .inl (fun _ => 0))), (xq36, .inr (5, [.ref xq38, .int 0])), (xq38, .inl (cy 0, 7, .inl (fun _ => 0))), (xq37, .inr (5, [.ref xq39, .int 0])), (xq39, .inl (cy 0, 7, .inl (fun _ => 0))), (nq40, .inr (5, [.ref xq42, .int 0])), (xq42, .inl (cy 0, 48, .inl (fun _ => 0))), (nq43, .inr (5, [.ref xq45, .int 0])), (xq45, .inl (cy 0, 24, .inl (fun _ => 0))), (nq46, .inl (cy 4, 8, .inr (.inr (.inr (.inr (va_up (va_up (va_up (va_up (va_up (va_up (fun _ => none) 0 (some nq47)) 1 (some nq51)) 2 (some nq55)) 3 (some nq59)) 4 (some nq63)) 5 (some nq67))))))), (nq47, .inr (9, [.int 0, .int 0, .int 0, .int 5, .int 60, .int 0, .int 0, .int 0, .int 0, .ref xq49, .ref xq50])), (xq49, .inl (cy 0, 192, .inl (fun _ => 0))), (xq50, .inl (cy 0, 192, .inl (fun _ => 0)))]) [0, 1, 2, 3, 4, 5, 6, 7, 8, 9, 10, 11, 12, 13, 14, 15, 16, 17, 18, 19, 20, 21, 22, 23, 24, 25, 26, 27, 28, 29, 30, 31, 32] (by decide) rfl
  refine lv_iinc (v := 6) (lv' := [(1, .int 6), (0, .ref h0)]) hx hb dX10_init_103 hl (k := 0) rfl (by decide) (by decide) rfl (fun ls hl => ?_)
  refine lv_goto (tgt := 84) hx hb dX10_init_106 (by decide) ?_
  refine lv_iload_n hx hb dX10_init_84 rfl (lv_at hl 0 rfl) ?_
  refine lv_bipush (v := 8) hx hb dX10_init_85 (by decide) ?_
  refine lv_icmp_ge (tgt := 109) hx hb dX10_init_87 (by decide) (fun h9 => absurd h9 (by decide)) (fun _ => ?_)
  refine lv_aload_n hx hb dX10_init_90 rfl (lv_at hl 1 rfl) ?_
  refine va_get (D := G) (ci := 10) (v := .ref nq46) (C := RX10) (T := TX10) (N := 8) hx hb hts inB10 hown hE.1 hP 0 rfl rfl 5 (by decide) (hts _ m_321) (fun _ h9 => h9) rfl dX10_init_91 ?_
  refine lv_iload_n hx hb dX10_init_94 rfl (lv_at hl 0 rfl) ?_
  refine va_new (ci := 9) (fs := [.int 0, .int 0, .int 0, .int 0, .int 0, .int 0, .int 0, .int 0, .int 0, .null, .null]) (C := RX9) (T := TX9) (N := 11) hx hb hts inB9 tyX9 tyX9_ok hown (hts _ m_251) (hts _ m_253) (hts _ m_87) hE.1 hP hD hS hA rfl df9 (Nat.le_of_ble_eq_true rfl) (Nat.le_of_ble_eq_true rfl) dX10_init_95 (fun nq71 H hP hD hS => ?_)
  have hP : va_P G classes [(h0, .inr (10, [.ref nq1, .ref nq10, .ref nq31, .ref nq40, .ref nq43, .ref nq46, .int 0, .int 0])), (nq1, .inr (7, [.ref xq3, .ref xq4, .ref xq5, .ref xq6, .ref xq7, .int 0])), (xq3, .inl (cy 0, 192, .inl xf8)), (xq4, .inl (cy 0, 40, .inl (fun _ => 0))), (xq5, .inl (cy 0, 40, .inl (fun _ => 0))), (xq6, .inl (cy 0, 40, .inl (fun _ => 0))), (xq7, .inl (cy 0, 40, .inl (fun _ => 0))), (nq10, .inr (2, [.int 5, .int 9, .int 0, .ref xq12, .ref xq13, .ref xq14, .ref xq15])), (xq12, .inl (cy 0, 5, .inl xf25)), (xq13, .inl (cy 0, 5, .inl (fun _ => 0))), (xq14, .inl (cy 3, 3, .inr (.inr (.inr (.inr xg26))))), (xq16, .inr (1, [.ref xq19, .ref xq22, .int 0])), (xq19, .inl (cy 0, 48, .inl (fun _ => 0))), (xq17, .inr (1, [.ref xq20, .ref xq23, .int 0])), (xq20, .inl (cy 0, 48, .inl (fun _ => 0))), (xq18, .inr (1, [.ref xq21, .ref xq24, .int 0])), (xq21, .inl (cy 0, 48, .inl (fun _ => 0))), (nq31, .inr (3, [.ref xq33, .ref xq34, .ref xq35, .int 0, .ref xq36, .ref xq37, .int 0, .int 0, .int 0])), (xq33, .inl (cy 0, 7, .inl (fun _ => 0))), (xq34, .inl (cy 0, 7, .inl (fun _ => 0))), (xq35, .inl (cy 0, 7, .inl (fun _ => 0))), (xq36, .inr (5, [.ref xq38, .int 0])), (xq38, .inl (cy 0, 7, .inl (fun _ => 0))), (xq37, .inr (5, [.ref xq39, .int 0])), (xq39, .inl (cy 0, 7, .inl (fun _ => 0))), (nq40, .inr (5, [.ref xq42, .int 0])), (xq42, .inl (cy 0, 48, .inl (fun _ => 0))), (nq43, .inr (5, [.ref xq45, .int 0])), (xq45, .inl (cy 0, 24, .inl (fun _ => 0))), (nq46, .inl (cy 4, 8, .inr (.inr (.inr (.inr (va_up (va_up (va_up (va_up (va_up (va_up (fun _ => none) 0 (some nq47)) 1 (some nq51)) 2 (some nq55)) 3 (some nq59)) 4 (some nq63)) 5 (some nq67))))))), (nq47, .inr (9, [.int 0, .int 0, .int 0, .int 5, .int 60, .int 0, .int 0, .int 0, .int 0, .ref xq49, .ref xq50])), (xq49, .inl (cy 0, 192, .inl (fun _ => 0))), (xq50, .inl (cy 0, 192, .inl (fun _ => 0))), (nq71, .inr (9, [.int 0, .int 0, .int 0, .int 0, .int 0, .int 0, .int 0, .int 0, .int 0, .null, .null]))] H := hP
  have hD : va_D A [(h0, .inr (10, [.ref nq1, .ref nq10, .ref nq31, .ref nq40, .ref nq43, .ref nq46, .int 0, .int 0])), (nq1, .inr (7, [.ref xq3, .ref xq4, .ref xq5, .ref xq6, .ref xq7, .int 0])), (xq3, .inl (cy 0, 192, .inl xf8)), (xq4, .inl (cy 0, 40, .inl (fun _ => 0))), (xq5, .inl (cy 0, 40, .inl (fun _ => 0))), (xq6, .inl (cy 0, 40, .inl (fun _ => 0))), (xq7, .inl (cy 0, 40, .inl (fun _ => 0))), (nq10, .inr (2, [.int 5, .int 9, .int 0, .ref xq12, .ref xq13, .ref xq14, .ref xq15])), (xq12, .inl (cy 0, 5, .inl xf25)), (xq13, .inl (cy 0, 5, .inl (fun _ => 0))), (xq14, .inl (cy 3, 3, .inr (.inr (.inr (.inr xg26))))), (xq16, .inr (1, [.ref xq19, .ref xq22, .int 0])), (xq19, .inl (cy 0, 48, .inl (fun _ => 0))), (xq17, .inr (1, [.ref xq20, .ref xq23, .int 0])), (xq20, .inl (cy 0, 48, .inl (fun _ => 0))), (xq18, .inr (1, [.ref xq21, .ref xq24, .int 0])), (xq21, .inl (cy 0, 48, .inl (fun _ => 0))), (nq31, .inr (3, [.ref xq33, .ref xq34, .ref xq35, .int 0, .ref xq36, .ref xq37, .int 0, .int 0, .int 0])), (xq33, .inl (cy 0, 7, .inl (fun _ => 0))), (xq34, .inl (cy 0, 7, .inl (fun _ => 0))), (xq35, .inl (cy 0, 7, .inl (fun _ => 0))), (xq36, .inr (5, [.ref xq38, .int 0])), (xq38, .inl (cy 0, 7, .inl (fun _ => 0))), (xq37, .inr (5, [.ref xq39, .int 0])), (xq39, .inl (cy 0, 7, .inl (fun _ => 0))), (nq40, .inr (5, [.ref xq42, .int 0])), (xq42, .inl (cy 0, 48, .inl (fun _ => 0))), (nq43, .inr (5, [.ref xq45, .int 0])), (xq45, .inl (cy 0, 24, .inl (fun _ => 0))), (nq46, .inl (cy 4, 8, .inr (.inr (.inr (.inr (va_up (va_up (va_up (va_up (va_up (va_up (fun _ => none) 0 (some nq47)) 1 (some nq51)) 2 (some nq55)) 3 (some nq59)) 4 (some nq63)) 5 (some nq67))))))), (nq47, .inr (9, [.int 0, .int 0, .int 0, .int 5, .int 60, .int 0, .int 0, .int 0, .int 0, .ref xq49, .ref xq50])), (xq49, .inl (cy 0, 192, .inl (fun _ => 0))), (xq50, .inl (cy 0, 192, .inl (fun _ => 0))), (nq71, .inr (9, [.int 0, .int 0, .int 0, .int 0, .int 0, .int 0, .int 0, .int 0, .int 0, .null, .null]))] := hD
  refine lv_dup hx hb dX10_init_98 rfl ?_
  refine wIN (B := (B_c_X9_init G cy (va_A [(nq71, .inr (9, [.int 0, .int 0, .int 0, .int 0, .int 0, .int 0, .int 0, .int 0, .int 0, .null, .null]))] H.size) nq71)) (wr := [(h0, .inr (10, [.ref nq1, .ref nq10, .ref nq31, .ref nq40, .ref nq43, .ref nq46, .int 0, .int 0])), (nq1, .inr (7, [.ref xq3, .ref xq4, .ref xq5, .ref xq6, .ref xq7, .int 0])), (xq3, .inl (cy 0, 192, .inl xf8)), (xq4, .inl (cy 0, 40, .inl (fun _ => 0))), (xq5, .inl (cy 0, 40, .inl (fun _ => 0))), (xq6, .inl (cy 0, 40, .inl (fun _ => 0))), (xq7, .inl (cy 0, 40, .inl (fun _ => 0))), (nq10, .inr (2, [.int 5, .int 9, .int 0, .ref xq12, .ref xq13, .ref xq14, .ref xq15])), (xq12, .inl (cy 0, 5, .inl xf25)), (xq13, .inl (cy 0, 5, .inl (fun _ => 0))), (xq14, .inl (cy 3, 3, .inr (.inr (.inr (.inr xg26))))), (xq16, .inr (1, [.ref xq19, .ref xq22, .int 0])), (xq19, .inl (cy 0, 48, .inl (fun _ => 0))), (xq17, .inr (1, [.ref xq20, .ref xq23, .int 0])), (xq20, .inl (cy 0, 48, .inl (fun _ => 0))), (xq18, .inr (1, [.ref xq21, .ref xq24, .int 0])), (xq21, .inl (cy 0, 48, .inl (fun _ => 0))), (nq31, .inr (3, [.ref xq33, .ref xq34, .ref xq35, .int 0, .ref xq36, .ref xq37, .int 0, .int 0, .int 0])), (xq33, .inl (cy 0, 7, .inl (fun _ => 0))), (xq34, .inl (cy 0, 7, .inl (fun _ => 0))), (xq35, .inl (cy 0, 7, .inl (fun _ => 0))), (xq36, .inr (5, [.ref xq38, .int 0])), (xq38, .inl (cy 0, 7, .inl (fun _ => 0))), (xq37, .inr (5, [.ref xq39, .int 0])), (xq39, .inl (cy 0, 7, .inl (fun _ => 0))), (nq40, .inr (5, [.ref xq42, .int 0])), (xq42, .inl (cy 0, 48, .inl (fun _ => 0))), (nq43, .inr (5, [.ref xq45, .int 0])), (xq45, .inl (cy 0, 24, .inl (fun _ => 0))), (nq46, .inl (cy 4, 8, .inr (.inr (.inr (.inr (va_up (va_up (va_up (va_up (va_up (va_up (fun _ => none) 0 (some nq47)) 1 (some nq51)) 2 (some nq55)) 3 (some nq59)) 4 (some nq63)) 5 (some nq67))))))), (nq47, .inr (9, [.int 0, .int 0, .int 0, .int 5, .int 60, .int 0, .int 0, .int 0, .int 0, .ref xq49, .ref xq50])), (xq49, .inl (cy 0, 192, .inl (fun _ => 0))), (xq50, .inl (cy 0, 192, .inl (fun _ => 0)))]) (rest := [.ref nq71, .int 6, .ref nq46]) (host := "ClickStreet") hx hb hml hown hts hE (c_X9_init l G cy sk H.size nq71) kI_X9_init (by decide +kernel) rfl rfl ⟨(Nat.le_of_ble_eq_true rfl), (Nat.le_of_ble_eq_true rfl)⟩ hP hD hS hA [33] [0, 1, 2, 3, 4, 5, 6, 7, 8, 9, 10, 11, 12, 13, 14, 15, 16, 17, 18, 19, 20, 21, 22, 23, 24, 25, 26, 27, 28, 29, 30, 31, 32] rfl rfl rfl rfl (by decide) rfl rfl hl.1 (Nat.le_of_ble_eq_true rfl) dX10_init_99 ⟨(Nat.le_of_ble_eq_true rfl), (Nat.le_of_ble_eq_true rfl)⟩ (fun H locs haf hS => ?_)
  obtain ⟨xq73, xq74, hP1, hD1⟩ := haf.1
  obtain ⟨hP, hD⟩ := haf.2.1 _ hP1 hD1
  have hP : va_P G classes [(h0, .inr (10, [.ref nq1, .ref nq10, .ref nq31, .ref nq40, .ref nq43, .ref nq46, .int 0, .int 0])), (nq1, .inr (7, [.ref xq3, .ref xq4, .ref xq5, .ref xq6, .ref xq7, .int 0])), (xq3, .inl (cy 0, 192, .inl xf8)), (xq4, .inl (cy 0, 40, .inl (fun _ => 0))), (xq5, .inl (cy 0, 40, .inl (fun _ => 0))), (xq6, .inl (cy 0, 40, .inl (fun _ => 0))), (xq7, .inl (cy 0, 40, .inl (fun _ => 0))), (nq10, .inr (2, [.int 5, .int 9, .int 0, .ref xq12, .ref xq13, .ref xq14, .ref xq15])), (xq12, .inl (cy 0, 5, .inl xf25)), (xq13, .inl (cy 0, 5, .inl (fun _ => 0))), (xq14, .inl (cy 3, 3, .inr (.inr (.inr (.inr xg26))))), (xq16, .inr (1, [.ref xq19, .ref xq22, .int 0])), (xq19, .inl (cy 0, 48, .inl (fun _ => 0))), (xq17, .inr (1, [.ref xq20, .ref xq23, .int 0])), (xq20, .inl (cy 0, 48, .inl (fun _ => 0))), (xq18, .inr (1, [.ref xq21, .ref xq24, .int 0])), (xq21, .inl (cy 0, 48, .inl (fun _ => 0))), (nq31, .inr (3, [.ref xq33, .ref xq34, .ref xq35, .int 0, .ref xq36, .ref xq37, .int 0, .int 0, .int 0])), (xq33, .inl (cy 0, 7, .inl (fun _ => 0))), (xq34, .inl (cy 0, 7, .inl (fun _ => 0))), (xq35, .inl (cy 0, 7, .inl (fun _ => 0))), (xq36, .inr (5, [.ref xq38, .int 0])), (xq38, .inl (cy 0, 7, .inl (fun _ => 0))), (xq37, .inr (5, [.ref xq39, .int 0])), (xq39, .inl (cy 0, 7, .inl (fun _ => 0))), (nq40, .inr (5, [.ref xq42, .int 0])), (xq42, .inl (cy 0, 48, .inl (fun _ => 0))), (nq43, .inr (5, [.ref xq45, .int 0])), (xq45, .inl (cy 0, 24, .inl (fun _ => 0))), (nq46, .inl (cy 4, 8, .inr (.inr (.inr (.inr (va_up (va_up (va_up (va_up (va_up (va_up (fun _ => none) 0 (some nq47)) 1 (some nq51)) 2 (some nq55)) 3 (some nq59)) 4 (some nq63)) 5 (some nq67))))))), (nq47, .inr (9, [.int 0, .int 0, .int 0, .int 5, .int 60, .int 0, .int 0, .int 0, .int 0, .ref xq49, .ref xq50])), (xq49, .inl (cy 0, 192, .inl (fun _ => 0))), (xq50, .inl (cy 0, 192, .inl (fun _ => 0))), (nq71, .inr (9, [.int 0, .int 0, .int 0, .int 5, .int 60, .int 0, .int 0, .int 0, .int 0, .ref xq73, .ref xq74])), (xq73, .inl (cy 0, 192, .inl (fun _ => 0))), (xq74, .inl (cy 0, 192, .inl (fun _ => 0)))] H := hP
  have hD : va_D A [(h0, .inr (10, [.ref nq1, .ref nq10, .ref nq31, .ref nq40, .ref nq43, .ref nq46, .int 0, .int 0])), (nq1, .inr (7, [.ref xq3, .ref xq4, .ref xq5, .ref xq6, .ref xq7, .int 0])), (xq3, .inl (cy 0, 192, .inl xf8)), (xq4, .inl (cy 0, 40, .inl (fun _ => 0))), (xq5, .inl (cy 0, 40, .inl (fun _ => 0))), (xq6, .inl (cy 0, 40, .inl (fun _ => 0))), (xq7, .inl (cy 0, 40, .inl (fun _ => 0))), (nq10, .inr (2, [.int 5, .int 9, .int 0, .ref xq12, .ref xq13, .ref xq14, .ref xq15])), (xq12, .inl (cy 0, 5, .inl xf25)), (xq13, .inl (cy 0, 5, .inl (fun _ => 0))), (xq14, .inl (cy 3, 3, .inr (.inr (.inr (.inr xg26))))), (xq16, .inr (1, [.ref xq19, .ref xq22, .int 0])), (xq19, .inl (cy 0, 48, .inl (fun _ => 0))), (xq17, .inr (1, [.ref xq20, .ref xq23, .int 0])), (xq20, .inl (cy 0, 48, .inl (fun _ => 0))), (xq18, .inr (1, [.ref xq21, .ref xq24, .int 0])), (xq21, .inl (cy 0, 48, .inl (fun _ => 0))), (nq31, .inr (3, [.ref xq33, .ref xq34, .ref xq35, .int 0, .ref xq36, .ref xq37, .int 0, .int 0, .int 0])), (xq33, .inl (cy 0, 7, .inl (fun _ => 0))), (xq34, .inl (cy 0, 7, .inl (fun _ => 0))), (xq35, .inl (cy 0, 7, .inl (fun _ => 0))), (xq36, .inr (5, [.ref xq38, .int 0])), (xq38, .inl (cy 0, 7, .inl (fun _ => 0))), (xq37, .inr (5, [.ref xq39, .int 0])), (xq39, .inl (cy 0, 7, .inl (fun _ => 0))), (nq40, .inr (5, [.ref xq42, .int 0])), (xq42, .inl (cy 0, 48, .inl (fun _ => 0))), (nq43, .inr (5, [.ref xq45, .int 0])), (xq45, .inl (cy 0, 24, .inl (fun _ => 0))), (nq46, .inl (cy 4, 8, .inr (.inr (.inr (.inr (va_up (va_up (va_up (va_up (va_up (va_up (fun _ => none) 0 (some nq47)) 1 (some nq51)) 2 (some nq55)) 3 (some nq59)) 4 (some nq63)) 5 (some nq67))))))), (nq47, .inr (9, [.int 0, .int 0, .int 0, .int 5, .int 60, .int 0, .int 0, .int 0, .int 0, .ref xq49, .ref xq50])), (xq49, .inl (cy 0, 192, .inl (fun _ => 0))), (xq50, .inl (cy 0, 192, .inl (fun _ => 0))), (nq71, .inr (9, [.int 0, .int 0, .int 0, .int 5, .int 60, .int 0, .int 0, .int 0, .int 0, .ref xq73, .ref xq74])), (xq73, .inl (cy 0, 192, .inl (fun _ => 0))), (xq74, .inl (cy 0, 192, .inl (fun _ => 0)))] := hD
  refine va_astq hx hb hE.1 hP hD hS 29 4 33 9 rfl rfl rfl rfl (vinL (by decide)) dX10_init_102 (fun H locs hP hD hS => ?_)
  have hP : va_P G classes [(h0, .inr (10, [.ref nq1, .ref nq10, .ref nq31, .ref nq40, .ref nq43, .ref nq46, .int 0, .int 0])), (nq1, .inr (7, [.ref xq3, .ref xq4, .ref xq5, .ref xq6, .ref xq7, .int 0])), (xq3, .inl (cy 0, 192, .inl xf8)), (xq4, .inl (cy 0, 40, .inl (fun _ => 0))), (xq5, .inl (cy 0, 40, .inl (fun _ => 0))), (xq6, .inl (cy 0, 40, .inl (fun _ => 0))), (xq7, .inl (cy 0, 40, .inl (fun _ => 0))), (nq10, .inr (2, [.int 5, .int 9, .int 0, .ref xq12, .ref xq13, .ref xq14, .ref xq15])), (xq12, .inl (cy 0, 5, .inl xf25)), (xq13, .inl (cy 0, 5, .inl (fun _ => 0))), (xq14, .inl (cy 3, 3, .inr (.inr (.inr (.inr xg26))))), (xq16, .inr (1, [.ref xq19, .ref xq22, .int 0])), (xq19, .inl (cy 0, 48, .inl (fun _ => 0))), (xq17, .inr (1, [.ref xq20, .ref xq23, .int 0])), (xq20, .inl (cy 0, 48, .inl (fun _ => 0))), (xq18, .inr (1, [.ref xq21, .ref xq24, .int 0])), (xq21, .inl (cy 0, 48, .inl (fun _ => 0))), (nq31, .inr (3, [.ref xq33, .ref xq34, .ref xq35, .int 0, .ref xq36, .ref xq37, .int 0, .int 0, .int 0])), (xq33, .inl (cy 0, 7, .inl (fun _ => 0))), (xq34, .inl (cy 0, 7, .inl (fun _ => 0))), (xq35, .inl (cy 0, 7, .inl (fun _ => 0))), (xq36, .inr (5, [.ref xq38, .int 0])), (xq38, .inl (cy 0, 7, .inl (fun _ => 0))), (xq37, .inr (5, [.ref xq39, .int 0])), (xq39, .inl (cy 0, 7, .inl (fun _ => 0))), (nq40, .inr (5, [.ref xq42, .int 0])), (xq42, .inl (cy 0, 48, .inl (fun _ => 0))), (nq43, .inr (5, [.ref xq45, .int 0])), (xq45, .inl (cy 0, 24, .inl (fun _ => 0))), (nq46, .inl (cy 4, 8, .inr (.inr (.inr (.inr (va_up (va_up (va_up (va_up (va_up (va_up (va_up (fun _ => none) 0 (some nq47)) 1 (some nq51)) 2 (some nq55)) 3 (some nq59)) 4 (some nq63)) 5 (some nq67)) 6 (some nq71))))))), (nq47, .inr (9, [.int 0, .int 0, .int 0, .int 5, .int 60, .int 0, .int 0, .int 0, .int 0, .ref xq49, .ref xq50])), (xq49, .inl (cy 0, 192, .inl (fun _ => 0))), (xq50, .inl (cy 0, 192, .inl (fun _ => 0))), (nq71, .inr (9, [.int 0, .int 0, .int 0, .int 5, .int 60, .int 0, .int 0, .int 0, .int 0, .ref xq73, .ref xq74])), (xq73, .inl (cy 0, 192, .inl (fun _ => 0))), (xq74, .inl (cy 0, 192, .inl (fun _ => 0)))] H := hP
  have hD : va_D A [(h0, .inr (10, [.ref nq1, .ref nq10, .ref nq31, .ref nq40, .ref nq43, .ref nq46, .int 0, .int 0])), (nq1, .inr (7, [.ref xq3, .ref xq4, .ref xq5, .ref xq6, .ref xq7, .int 0])), (xq3, .inl (cy 0, 192, .inl xf8)), (xq4, .inl (cy 0, 40, .inl (fun _ => 0))), (xq5, .inl (cy 0, 40, .inl (fun _ => 0))), (xq6, .inl (cy 0, 40, .inl (fun _ => 0))), (xq7, .inl (cy 0, 40, .inl (fun _ => 0))), (nq10, .inr (2, [.int 5, .int 9, .int 0, .ref xq12, .ref xq13, .ref xq14, .ref xq15])), (xq12, .inl (cy 0, 5, .inl xf25)), (xq13, .inl (cy 0, 5, .inl (fun _ => 0))), (xq14, .inl (cy 3, 3, .inr (.inr (.inr (.inr xg26))))), (xq16, .inr (1, [.ref xq19, .ref xq22, .int 0])), (xq19, .inl (cy 0, 48, .inl (fun _ => 0))), (xq17, .inr (1, [.ref xq20, .ref xq23, .int 0])), (xq20, .inl (cy 0, 48, .inl (fun _ => 0))), (xq18, .inr (1, [.ref xq21, .ref xq24, .int 0])), (xq21, .inl (cy 0, 48, .inl (fun _ => 0))), (nq31, .inr (3, [.ref xq33, .ref xq34, .ref xq35, .int 0, .ref xq36, .ref xq37, .int 0, .int 0, .int 0])), (xq33, .inl (cy 0, 7, .inl (fun _ => 0))), (xq34, .inl (cy 0, 7, .inl (fun _ => 0))), (xq35, .inl (cy 0, 7, .inl (fun _ => 0))), (xq36, .inr (5, [.ref xq38, .int 0])), (xq38, .inl (cy 0, 7, .inl (fun _ => 0))), (xq37, .inr (5, [.ref xq39, .int 0])), (xq39, .inl (cy 0, 7, .inl (fun _ => 0))), (nq40, .inr (5, [.ref xq42, .int 0])), (xq42, .inl (cy 0, 48, .inl (fun _ => 0))), (nq43, .inr (5, [.ref xq45, .int 0])), (xq45, .inl (cy 0, 24, .inl (fun _ => 0))), (nq46, .inl (cy 4, 8, .inr (.inr (.inr (.inr (va_up (va_up (va_up (va_up (va_up (va_up (va_up (fun _ => none) 0 (some nq47)) 1 (some nq51)) 2 (some nq55)) 3 (some nq59)) 4 (some nq63)) 5 (some nq67)) 6 (some nq71))))))), (nq47, .inr (9, [.int 0, .int 0, .int 0, .int 5, .int 60, .int 0, .int 0, .int 0, .int 0, .ref xq49, .ref xq50])), (xq49, .inl (cy 0, 192, .inl (fun _ => 0))), (xq50, .inl (cy 0, 192, .inl (fun _ => 0))), (nq71, .inr (9, [.int 0, .int 0, .int 0, .int 5, .int 60, .int 0, .int 0, .int 0, .int 0, .ref xq73, .ref xq74])), (xq73, .inl (cy 0, 192, .inl (fun _ => 0))), (xq74, .inl (cy 0, 192, .inl (fun _ => 0)))] := hD
  have hP := P_cut (wc := [(h0, .inr (10, [.ref nq1, .ref nq10, .ref nq31, .ref nq40, .ref nq43, .ref nq46, .int 0, .int 0])), (nq1, .inr (7, [.ref xq3, .ref xq4, .ref xq5, .ref xq6, .ref xq7, .int 0])), (xq3, .inl (cy 0, 192, .inl xf8)), (xq4, .inl (cy 0, 40, .inl (fun _ => 0))), (xq5, .inl (cy 0, 40, .inl (fun _ => 0))), (xq6, .inl (cy 0, 40, .inl (fun _ => 0))), (xq7, .inl (cy 0, 40, .inl (fun _ => 0))), (nq10, .inr (2, [.int 5, .int 9, .int 0, .ref xq12, .ref xq13, .ref xq14, .ref xq15])), (xq12, .inl (cy 0, 5, .inl xf25)), (xq13, .inl (cy 0, 5, .inl (fun _ => 0))), (xq14, .inl (cy 3, 3, .inr (.inr (.inr (.inr xg26))))), (xq16, .inr (1, [.ref xq19, .ref xq22, .int 0])), (xq19, .inl (cy 0, 48, .inl (fun _ => 0))), (xq17, .inr (1, [.ref xq20, .ref xq23, .int 0])), (xq20, .inl (cy 0, 48, .inl (fun _ => 0))), (xq18, .inr (1, [.ref xq21, .ref xq24, .int 0])), (xq21, .inl (cy 0, 48, .inl (fun _ => 0))), (nq31, .inr (3, [.ref xq33, .ref xq34, .ref xq35, .int 0, .ref xq36, .ref xq37, .int 0, .int 0, .int 0])), (xq33, .inl (cy 0, 7, .inl (fun _ => 0))), (xq34, .inl (cy 0, 7, .inl (fun _ => 0))), (xq35, .inl (cy 0, 7, .inl (fun _ => 0))), (xq36, .inr (5, [.ref xq38, .int 0])), (xq38, .inl (cy 0, 7, .inl (fun _ => 0))), (xq37, .inr (5, [.ref xq39, .int 0])), (xq39, .inl (cy 0, 7, .inl (fun _ => 0))), (nq40, .inr (5, [.ref xq42, .int 0])), (xq42, .inl (cy 0, 48, .inl (fun _ => 0))), (nq43, .inr (5, [.ref xq45, .int 0])), (xq45, .inl (cy 0, 24, .inl (fun _ => 0))), (nq46, .inl (cy 4, 8, .inr (.inr (.inr (.inr (va_up (va_up (va_up (va_up (va_up (va_up (va_up (fun _ => none) 0 (some nq47)) 1 (some nq51)) 2 (some nq55)) 3 (some nq59)) 4 (some nq63)) 5 (some nq67)) 6 (some nq71))))))), (nq47, .inr (9, [.int 0, .int 0, .int 0, .int 5, .int 60, .int 0, .int 0, .int 0, .int 0, .ref xq49, .ref xq50])), (xq49, .inl (cy 0, 192, .inl (fun _ => 0))), (xq50, .inl (cy 0, 192, .inl (fun _ => 0)))]) hP [0, 1, 2, 3, 4, 5, 6, 7, 8, 9, 10, 11, 12, 13, 14, 15, 16, 17, 18, 19, 20, 21, 22, 23, 24, 25, 26, 27, 28, 29, 30, 31, 32] rfl
  have hD := hD.sub (ws' := [(h0, .inr (10, [.ref nq1, .ref nq10, .ref nq31, .ref nq40, .ref nq43, .ref nq46, .int 0, .int 0])), (nq1, .inr (7, [.ref xq3, .ref xq4, .ref xq5, .ref xq6, .ref xq7, .int 0])), (xq3, .inl (cy 0, 192, .inl xf8)), (xq4, .inl (cy 0, 40, .inl (fun _ => 0))), (xq5, .inl (cy 0, 40, .inl (fun _ => 0))), (xq6, .inl (cy 0, 40, .inl (fun _ => 0))), (xq7, .inl (cy 0, 40, .inl (fun _ => 0))), (nq10, .inr (2, [.int 5, .int 9, .int 0, .ref xq12, .ref xq13, .ref xq14, .ref xq15])), (xq12, .inl (cy 0, 5, .inl xf25)), (xq13, .inl (cy 0, 5, .inl (fun _ => 0))), (xq14, .inl (cy 3, 3, .inr (.inr (.inr (.inr xg26))))), (xq16, .inr (1, [.ref xq19, .ref xq22, .int 0])), (xq19, .inl (cy 0, 48, .inl (fun _ => 0))), (xq17, .inr (1, [.ref xq20, .ref xq23, .int 0])), (xq20, .inl (cy 0, 48, .inl (fun _ => 0))), (xq18, .inr (1, [.ref xq21, .ref xq24, .int 0])), (xq21, .inl (cy 0, 48, .inl (fun _ => 0))), (nq31, .inr (3, [.ref xq33, .ref xq34, .ref xq35, .int 0, .ref xq36, .ref xq37, .int 0, .int 0, .int 0])), (xq33, .inl (cy 0, 7, .inl (fun _ => 0))), (xq34, .inl (cy 0, 7, .inl (fun _ => 0))), (xq35, .inl (cy 0, 7, .inl (fun _ => 0))), (xq36, .inr (5, [.ref xq38, .int 0])), (xq38, .inl (cy 0, 7, .inl (fun _ => 0))), (xq37, .inr (5, [.ref xq39, .int 0])), (xq39, .inl (cy 0, 7, .inl (fun _ => 0))), (nq40, .inr (5, [.ref xq42, .int 0])), (xq42, .inl (cy 0, 48, .inl (fun _ => 0))), (nq43, .inr (5, [.ref xq45, .int 0])), (xq45, .inl (cy 0, 24, .inl (fun _ => 0))), (nq46, .inl (cy 4, 8, .inr (.inr (.inr (.inr (va_up (va_up (va_up (va_up (va_up (va_up (va_up (fun _ => none) 0 (some nq47)) 1 (some nq51)) 2 (some nq55)) 3 (some nq59)) 4 (some nq63)) 5 (some nq67)) 6 (some nq71))))))), (nq47, .inr (9, [.int 0, .int 0, .int 0, .int 5, .int 60, .int 0, .int 0, .int 0, .int 0, .ref xq49, .ref xq50])), (xq49, .inl (cy 0, 192, .inl (fun _ => 0))), (xq50, .inl (cy 0, 192, .inl (fun _ => 0)))]) [0, 1, 2, 3, 4, 5, 6, 7, 8, 9, 10, 11, 12, 13, 14, 15, 16, 17, 18, 19, 20, 21, 22, 23, 24, 25, 26, 27, 28, 29, 30, 31, 32] (by decide) rfl
  refine lv_iinc (v := 7) (lv' := [(1, .int 7), (0, .ref h0)]) hx hb dX10_init_103 hl (k := 0) rfl (by decide) (by decide) rfl (fun ls hl => ?_)
  refine lv_goto (tgt := 84) hx hb dX10_init_106 (by decide) ?_
  refine lv_iload_n hx hb dX10_init_84 rfl (lv_at hl 0 rfl) ?_
  refine lv_bipush (v := 8) hx hb dX10_init_85 (by decide) ?_
  refine lv_icmp_ge (tgt := 109) hx hb dX10_init_87 (by decide) (fun h9 => absurd h9 (by decide)) (fun _ => ?_)
  refine lv_aload_n hx hb dX10_init_90 rfl (lv_at hl 1 rfl) ?_
  refine va_get (D := G) (ci := 10) (v := .ref nq46) (C := RX10) (T := TX10) (N := 8) hx hb hts inB10 hown hE.1 hP 0 rfl rfl 5 (by decide) (hts _ m_321) (fun _ h9 => h9) rfl dX10_init_91 ?_
  refine lv_iload_n hx hb dX10_init_94 rfl (lv_at hl 0 rfl) ?_
  refine va_new (ci := 9) (fs := [.int 0, .int 0, .int 0, .int 0, .int 0, .int 0, .int 0, .int 0, .int 0, .null, .null]) (C := RX9) (T := TX9) (N := 11) hx hb hts inB9 tyX9 tyX9_ok hown (hts _ m_251) (hts _ m_253) (hts _ m_87) hE.1 hP hD hS hA rfl df9 (Nat.le_of_ble_eq_true rfl) (Nat.le_of_ble_eq_true rfl) dX10_init_95 (fun nq75 H hP hD hS => ?_)
  have hP : va_P G classes [(h0, .inr (10, [.ref nq1, .ref nq10, .ref nq31, .ref nq40, .ref nq43, .ref nq46, .int 0, .int 0])), (nq1, .inr (7, [.ref xq3, .ref xq4, .ref xq5, .ref xq6, .ref xq7, .int 0])), (xq3, .inl (cy 0, 192, .inl xf8)), (xq4, .inl (cy 0, 40, .inl (fun _ => 0))), (xq5, .inl (cy 0, 40, .inl (fun _ => 0))), (xq6, .inl (cy 0, 40, .inl (fun _ => 0))), (xq7, .inl (cy 0, 40, .inl (fun _ => 0))), (nq10, .inr (2, [.int 5, .int 9, .int 0, .ref xq12, .ref xq13, .ref xq14, .ref xq15])), (xq12, .inl (cy 0, 5, .inl xf25)), (xq13, .inl (cy 0, 5, .inl (fun _ => 0))), (xq14, .inl (cy 3, 3, .inr (.inr (.inr (.inr xg26))))), (xq16, .inr (1, [.ref xq19, .ref xq22, .int 0])), (xq19, .inl (cy 0, 48, .inl (fun _ => 0))), (xq17, .inr (1, [.ref xq20, .ref xq23, .int 0])), (xq20, .inl (cy 0, 48, .inl (fun _ => 0))), (xq18, .inr (1, [.ref xq21, .ref xq24, .int 0])), (xq21, .inl (cy 0, 48, .inl (fun _ => 0))), (nq31, .inr (3, [.ref xq33, .ref xq34, .ref xq35, .int 0, .ref xq36, .ref xq37, .int 0, .int 0, .int 0])), (xq33, .inl (cy 0, 7, .inl (fun _ => 0))), (xq34, .inl (cy 0, 7, .inl (fun _ => 0))), (xq35, .inl (cy 0, 7, .inl (fun _ => 0))), (xq36, .inr (5, [.ref xq38, .int 0])), (xq38, .inl (cy 0, 7, .inl (fun _ => 0))), (xq37, .inr (5, [.ref xq39, .int 0])), (xq39, .inl (cy 0, 7, .inl (fun _ => 0))), (nq40, .inr (5, [.ref xq42, .int 0])), (xq42, .inl (cy 0, 48, .inl (fun _ => 0))), (nq43, .inr (5, [.ref xq45, .int 0])), (xq45, .inl (cy 0, 24, .inl (fun _ => 0))), (nq46, .inl (cy 4, 8, .inr (.inr (.inr (.inr (va_up (va_up (va_up (va_up (va_up (va_up (va_up (fun _ => none) 0 (some nq47)) 1 (some nq51)) 2 (some nq55)) 3 (some nq59)) 4 (some nq63)) 5 (some nq67)) 6 (some nq71))))))), (nq47, .inr (9, [.int 0, .int 0, .int 0, .int 5, .int 60, .int 0, .int 0, .int 0, .int 0, .ref xq49, .ref xq50])), (xq49, .inl (cy 0, 192, .inl (fun _ => 0))), (xq50, .inl (cy 0, 192, .inl (fun _ => 0))), (nq75, .inr (9, [.int 0, .int 0, .int 0, .int 0, .int 0, .int 0, .int 0, .int 0, .int 0, .null, .null]))] H := hP
  have hD : va_D A [(h0, .inr (10, [.ref nq1, .ref nq10, .ref nq31, .ref nq40, .ref nq43, .ref nq46, .int 0, .int 0])), (nq1, .inr (7, [.ref xq3, .ref xq4, .ref xq5, .ref xq6, .ref xq7, .int 0])), (xq3, .inl (cy 0, 192, .inl xf8)), (xq4, .inl (cy 0, 40, .inl (fun _ => 0))), (xq5, .inl (cy 0, 40, .inl (fun _ => 0))), (xq6, .inl (cy 0, 40, .inl (fun _ => 0))), (xq7, .inl (cy 0, 40, .inl (fun _ => 0))), (nq10, .inr (2, [.int 5, .int 9, .int 0, .ref xq12, .ref xq13, .ref xq14, .ref xq15])), (xq12, .inl (cy 0, 5, .inl xf25)), (xq13, .inl (cy 0, 5, .inl (fun _ => 0))), (xq14, .inl (cy 3, 3, .inr (.inr (.inr (.inr xg26))))), (xq16, .inr (1, [.ref xq19, .ref xq22, .int 0])), (xq19, .inl (cy 0, 48, .inl (fun _ => 0))), (xq17, .inr (1, [.ref xq20, .ref xq23, .int 0])), (xq20, .inl (cy 0, 48, .inl (fun _ => 0))), (xq18, .inr (1, [.ref xq21, .ref xq24, .int 0])), (xq21, .inl (cy 0, 48, .inl (fun _ => 0))), (nq31, .inr (3, [.ref xq33, .ref xq34, .ref xq35, .int 0, .ref xq36, .ref xq37, .int 0, .int 0, .int 0])), (xq33, .inl (cy 0, 7, .inl (fun _ => 0))), (xq34, .inl (cy 0, 7, .inl (fun _ => 0))), (xq35, .inl (cy 0, 7, .inl (fun _ => 0))), (xq36, .inr (5, [.ref xq38, .int 0])), (xq38, .inl (cy 0, 7, .inl (fun _ => 0))), (xq37, .inr (5, [.ref xq39, .int 0])), (xq39, .inl (cy 0, 7, .inl (fun _ => 0))), (nq40, .inr (5, [.ref xq42, .int 0])), (xq42, .inl (cy 0, 48, .inl (fun _ => 0))), (nq43, .inr (5, [.ref xq45, .int 0])), (xq45, .inl (cy 0, 24, .inl (fun _ => 0))), (nq46, .inl (cy 4, 8, .inr (.inr (.inr (.inr (va_up (va_up (va_up (va_up (va_up (va_up (va_up (fun _ => none) 0 (some nq47)) 1 (some nq51)) 2 (some nq55)) 3 (some nq59)) 4 (some nq63)) 5 (some nq67)) 6 (some nq71))))))), (nq47, .inr (9, [.int 0, .int 0, .int 0, .int 5, .int 60, .int 0, .int 0, .int 0, .int 0, .ref xq49, .ref xq50])), (xq49, .inl (cy 0, 192, .inl (fun _ => 0))), (xq50, .inl (cy 0, 192, .inl (fun _ => 0))), (nq75, .inr (9, [.int 0, .int 0, .int 0, .int 0, .int 0, .int 0, .int 0, .int 0, .int 0, .null, .null]))] := hD
  refine lv_dup hx hb dX10_init_98 rfl ?_
  refine wIN (B := (B_c_X9_init G cy (va_A [(nq75, .inr (9, [.int 0, .int 0, .int 0, .int 0, .int 0, .int 0, .int 0, .int 0, .int 0, .null, .null]))] H.size) nq75)) (wr := [(h0, .inr (10, [.ref nq1, .ref nq10, .ref nq31, .ref nq40, .ref nq43, .ref nq46, .int 0, .int 0])), (nq1, .inr (7, [.ref xq3, .ref xq4, .ref xq5, .ref xq6, .ref xq7, .int 0])), (xq3, .inl (cy 0, 192, .inl xf8)), (xq4, .inl (cy 0, 40, .inl (fun _ => 0))), (xq5, .inl (cy 0, 40, .inl (fun _ => 0))), (xq6, .inl (cy 0, 40, .inl (fun _ => 0))), (xq7, .inl (cy 0, 40, .inl (fun _ => 0))), (nq10, .inr (2, [.int 5, .int 9, .int 0, .ref xq12, .ref xq13, .ref xq14, .ref xq15])), (xq12, .inl (cy 0, 5, .inl xf25)), (xq13, .inl (cy 0, 5, .inl (fun _ => 0))), (xq14, .inl (cy 3, 3, .inr (.inr (.inr (.inr xg26))))), (xq16, .inr (1, [.ref xq19, .ref xq22, .int 0])), (xq19, .inl (cy 0, 48, .inl (fun _ => 0))), (xq17, .inr (1, [.ref xq20, .ref xq23, .int 0])), (xq20, .inl (cy 0, 48, .inl (fun _ => 0))), (xq18, .inr (1, [.ref xq21, .ref xq24, .int 0])), (xq21, .inl (cy 0, 48, .inl (fun _ => 0))), (nq31, .inr (3, [.ref xq33, .ref xq34, .ref xq35, .int 0, .ref xq36, .ref xq37, .int 0, .int 0, .int 0])), (xq33, .inl (cy 0, 7, .inl (fun _ => 0))), (xq34, .inl (cy 0, 7, .inl (fun _ => 0))), (xq35, .inl (cy 0, 7, .inl (fun _ => 0))), (xq36, .inr (5, [.ref xq38, .int 0])), (xq38, .inl (cy 0, 7, .inl (fun _ => 0))), (xq37, .inr (5, [.ref xq39, .int 0])), (xq39, .inl (cy 0, 7, .inl (fun _ => 0))), (nq40, .inr (5, [.ref xq42, .int 0])), (xq42, .inl (cy 0, 48, .inl (fun _ => 0))), (nq43, .inr (5, [.ref xq45, .int 0])), (xq45, .inl (cy 0, 24, .inl (fun _ => 0))), (nq46, .inl (cy 4, 8, .inr (.inr (.inr (.inr (va_up (va_up (va_up (va_up (va_up (va_up (va_up (fun _ => none) 0 (some nq47)) 1 (some nq51)) 2 (some nq55)) 3 (some nq59)) 4 (some nq63)) 5 (some nq67)) 6 (some nq71))))))), (nq47, .inr (9, [.int 0, .int 0, .int 0, .int 5, .int 60, .int 0, .int 0, .int 0, .int 0, .ref xq49, .ref xq50])), (xq49, .inl (cy 0, 192, .inl (fun _ => 0))), (xq50, .inl (cy 0, 192, .inl (fun _ => 0)))]) (rest := [.ref nq75, .int 7, .ref nq46]) (host := "ClickStreet") hx hb hml hown hts hE (c_X9_init l G cy sk H.size nq75) kI_X9_init (by decide +kernel) rfl rfl ⟨(Nat.le_of_ble_eq_true rfl), (Nat.le_of_ble_eq_true rfl)⟩ hP hD hS hA [33] [0, 1, 2, 3, 4, 5, 6, 7, 8, 9, 10, 11, 12, 13, 14, 15, 16, 17, 18, 19, 20, 21, 22, 23, 24, 25, 26, 27, 28, 29, 30, 31, 32] rfl rfl rfl rfl (by decide) rfl rfl hl.1 (Nat.le_of_ble_eq_true rfl) dX10_init_99 ⟨(Nat.le_of_ble_eq_true rfl), (Nat.le_of_ble_eq_true rfl)⟩ (fun H locs haf hS => ?_)
  obtain ⟨xq77, xq78, hP1, hD1⟩ := haf.1
  obtain ⟨hP, hD⟩ := haf.2.1 _ hP1 hD1
  have hP : va_P G classes [(h0, .inr (10, [.ref nq1, .ref nq10, .ref nq31, .ref nq40, .ref nq43, .ref nq46, .int 0, .int 0])), (nq1, .inr (7, [.ref xq3, .ref xq4, .ref xq5, .ref xq6, .ref xq7, .int 0])), (xq3, .inl (cy 0, 192, .inl xf8)), (xq4, .inl (cy 0, 40, .inl (fun _ => 0))), (xq5, .inl (cy 0, 40, .inl (fun _ => 0))), (xq6, .inl (cy 0, 40, .inl (fun _ => 0))), (xq7, .inl (cy 0, 40, .inl (fun _ => 0))), (nq10, .inr (2, [.int 5, .int 9, .int 0, .ref xq12, .ref xq13, .ref xq14, .ref xq15])), (xq12, .inl (cy 0, 5, .inl xf25)), (xq13, .inl (cy 0, 5, .inl (fun _ => 0))), (xq14, .inl (cy 3, 3, .inr (.inr (.inr (.inr xg26))))), (xq16, .inr (1, [.ref xq19, .ref xq22, .int 0])), (xq19, .inl (cy 0, 48, .inl (fun _ => 0))), (xq17, .inr (1, [.ref xq20, .ref xq23, .int 0])), (xq20, .inl (cy 0, 48, .inl (fun _ => 0))), (xq18, .inr (1, [.ref xq21, .ref xq24, .int 0])), (xq21, .inl (cy 0, 48, .inl (fun _ => 0))), (nq31, .inr (3, [.ref xq33, .ref xq34, .ref xq35, .int 0, .ref xq36, .ref xq37, .int 0, .int 0, .int 0])), (xq33, .inl (cy 0, 7, .inl (fun _ => 0))), (xq34, .inl (cy 0, 7, .inl (fun _ => 0))), (xq35, .inl (cy 0, 7, .inl (fun _ => 0))), (xq36, .inr (5, [.ref xq38, .int 0])), (xq38, .inl (cy 0, 7, .inl (fun _ => 0))), (xq37, .inr (5, [.ref xq39, .int 0])), (xq39, .inl (cy 0, 7, .inl (fun _ => 0))), (nq40, .inr (5, [.ref xq42, .int 0])), (xq42, .inl (cy 0, 48, .inl (fun _ => 0))), (nq43, .inr (5, [.ref xq45, .int 0])), (xq45, .inl (cy 0, 24, .inl (fun _ => 0))), (nq46, .inl (cy 4, 8, .inr (.inr (.inr (.inr (va_up (va_up (va_up (va_up (va_up (va_up (va_up (fun _ => none) 0 (some nq47)) 1 (some nq51)) 2 (some nq55)) 3 (some nq59)) 4 (some nq63)) 5 (some nq67)) 6 (some nq71))))))), (nq47, .inr (9, [.int 0, .int 0, .int 0, .int 5, .int 60, .int 0, .int 0, .int 0, .int 0, .ref xq49, .ref xq50])), (xq49, .inl (cy 0, 192, .inl (fun _ => 0))), (xq50, .inl (cy 0, 192, .inl (fun _ => 0))), (nq75, .inr (9, [.int 0, .int 0, .int 0, .int 5, .int 60, .int 0, .int 0, .int 0, .int 0, .ref xq77, .ref xq78])), (xq77, .inl (cy 0, 192, .inl (fun _ => 0))), (xq78, .inl (cy 0, 192, .inl (fun _ => 0)))] H := hP
  have hD : va_D A [(h0, .inr (10, [.ref nq1, .ref nq10, .ref nq31, .ref nq40, .ref nq43, .ref nq46, .int 0, .int 0])), (nq1, .inr (7, [.ref xq3, .ref xq4, .ref xq5, .ref xq6, .ref xq7, .int 0])), (xq3, .inl (cy 0, 192, .inl xf8)), (xq4, .inl (cy 0, 40, .inl (fun _ => 0))), (xq5, .inl (cy 0, 40, .inl (fun _ => 0))), (xq6, .inl (cy 0, 40, .inl (fun _ => 0))), (xq7, .inl (cy 0, 40, .inl (fun _ => 0))), (nq10, .inr (2, [.int 5, .int 9, .int 0, .ref xq12, .ref xq13, .ref xq14, .ref xq15])), (xq12, .inl (cy 0, 5, .inl xf25)), (xq13, .inl (cy 0, 5, .inl (fun _ => 0))), (xq14, .inl (cy 3, 3, .inr (.inr (.inr (.inr xg26))))), (xq16, .inr (1, [.ref xq19, .ref xq22, .int 0])), (xq19, .inl (cy 0, 48, .inl (fun _ => 0))), (xq17, .inr (1, [.ref xq20, .ref xq23, .int 0])), (xq20, .inl (cy 0, 48, .inl (fun _ => 0))), (xq18, .inr (1, [.ref xq21, .ref xq24, .int 0])), (xq21, .inl (cy 0, 48, .inl (fun _ => 0))), (nq31, .inr (3, [.ref xq33, .ref xq34, .ref xq35, .int 0, .ref xq36, .ref xq37, .int 0, .int 0, .int 0])), (xq33, .inl (cy 0, 7, .inl (fun _ => 0))), (xq34, .inl (cy 0, 7, .inl (fun _ => 0))), (xq35, .inl (cy 0, 7, .inl (fun _ => 0))), (xq36, .inr (5, [.ref xq38, .int 0])), (xq38, .inl (cy 0, 7, .inl (fun _ => 0))), (xq37, .inr (5, [.ref xq39, .int 0])), (xq39, .inl (cy 0, 7, .inl (fun _ => 0))), (nq40, .inr (5, [.ref xq42, .int 0])), (xq42, .inl (cy 0, 48, .inl (fun _ => 0))), (nq43, .inr (5, [.ref xq45, .int 0])), (xq45, .inl (cy 0, 24, .inl (fun _ => 0))), (nq46, .inl (cy 4, 8, .inr (.inr (.inr (.inr (va_up (va_up (va_up (va_up (va_up (va_up (va_up (fun _ => none) 0 (some nq47)) 1 (some nq51)) 2 (some nq55)) 3 (some nq59)) 4 (some nq63)) 5 (some nq67)) 6 (some nq71))))))), (nq47, .inr (9, [.int 0, .int 0, .int 0, .int 5, .int 60, .int 0, .int 0, .int 0, .int 0, .ref xq49, .ref xq50])), (xq49, .inl (cy 0, 192, .inl (fun _ => 0))), (xq50, .inl (cy 0, 192, .inl (fun _ => 0))), (nq75, .inr (9, [.int 0, .int 0, .int 0, .int 5, .int 60, .int 0, .int 0, .int 0, .int 0, .ref xq77, .ref xq78])), (xq77, .inl (cy 0, 192, .inl (fun _ => 0))), (xq78, .inl (cy 0, 192, .inl (fun _ => 0)))] := hD
  refine va_astq hx hb hE.1 hP hD hS 29 4 33 9 rfl rfl rfl rfl (vinL (by decide)) dX10_init_102 (fun H locs hP hD hS => ?_)
  have hP : va_P G classes [(h0, .inr (10, [.ref nq1, .ref nq10, .ref nq31, .ref nq40, .ref nq43, .ref nq46, .int 0, .int 0])), (nq1, .inr (7, [.ref xq3, .ref xq4, .ref xq5, .ref xq6, .ref xq7, .int 0])), (xq3, .inl (cy 0, 192, .inl xf8)), (xq4, .inl (cy 0, 40, .inl (fun _ => 0))), (xq5, .inl (cy 0, 40, .inl (fun _ => 0))), (xq6, .inl (cy 0, 40, .inl (fun _ => 0))), (xq7, .inl (cy 0, 40, .inl (fun _ => 0))), (nq10, .inr (2, [.int 5, .int 9, .int 0, .ref xq12, .ref xq13, .ref xq14, .ref xq15])), (xq12, .inl (cy 0, 5, .inl xf25)), (xq13, .inl (cy 0, 5, .inl (fun _ => 0))), (xq14, .inl (cy 3, 3, .inr (.inr (.inr (.inr xg26))))), (xq16, .inr (1, [.ref xq19, .ref xq22, .int 0])), (xq19, .inl (cy 0, 48, .inl (fun _ => 0))), (xq17, .inr (1, [.ref xq20, .ref xq23, .int 0])), (xq20, .inl (cy 0, 48, .inl (fun _ => 0))), (xq18, .inr (1, [.ref xq21, .ref xq24, .int 0])), (xq21, .inl (cy 0, 48, .inl (fun _ => 0))), (nq31, .inr (3, [.ref xq33, .ref xq34, .ref xq35, .int 0, .ref xq36, .ref xq37, .int 0, .int 0, .int 0])), (xq33, .inl (cy 0, 7, .inl (fun _ => 0))), (xq34, .inl (cy 0, 7, .inl (fun _ => 0))), (xq35, .inl (cy 0, 7, .inl (fun _ => 0))), (xq36, .inr (5, [.ref xq38, .int 0])), (xq38, .inl (cy 0, 7, .inl (fun _ => 0))), (xq37, .inr (5, [.ref xq39, .int 0])), (xq39, .inl (cy 0, 7, .inl (fun _ => 0))), (nq40, .inr (5, [.ref xq42, .int 0])), (xq42, .inl (cy 0, 48, .inl (fun _ => 0))), (nq43, .inr (5, [.ref xq45, .int 0])), (xq45, .inl (cy 0, 24, .inl (fun _ => 0))), (nq46, .inl (cy 4, 8, .inr (.inr (.inr (.inr (va_up (va_up (va_up (va_up (va_up (va_up (va_up (va_up (fun _ => none) 0 (some nq47)) 1 (some nq51)) 2 (some nq55)) 3 (some nq59)) 4 (some nq63)) 5 (some nq67)) 6 (some nq71)) 7 (some nq75))))))), (nq47, .inr (9, [.int 0, .int 0, .int 0, .int 5, .int 60, .int 0, .int 0, .int 0, .int 0, .ref xq49, .ref xq50])), (xq49, .inl (cy 0, 192, .inl (fun _ => 0))), (xq50, .inl (cy 0, 192, .inl (fun _ => 0))), (nq75, .inr (9, [.int 0, .int 0, .int 0, .int 5, .int 60, .int 0, .int 0, .int 0, .int 0, .ref xq77, .ref xq78])), (xq77, .inl (cy 0, 192, .inl (fun _ => 0))), (xq78, .inl (cy 0, 192, .inl (fun _ => 0)))] H := hP
  have hD : va_D A [(h0, .inr (10, [.ref nq1, .ref nq10, .ref nq31, .ref nq40, .ref nq43, .ref nq46, .int 0, .int 0])), (nq1, .inr (7, [.ref xq3, .ref xq4, .ref xq5, .ref xq6, .ref xq7, .int 0])), (xq3, .inl (cy 0, 192, .inl xf8)), (xq4, .inl (cy 0, 40, .inl (fun _ => 0))), (xq5, .inl (cy 0, 40, .inl (fun _ => 0))), (xq6, .inl (cy 0, 40, .inl (fun _ => 0))), (xq7, .inl (cy 0, 40, .inl (fun _ => 0))), (nq10, .inr (2, [.int 5, .int 9, .int 0, .ref xq12, .ref xq13, .ref xq14, .ref xq15])), (xq12, .inl (cy 0, 5, .inl xf25)), (xq13, .inl (cy 0, 5, .inl (fun _ => 0))), (xq14, .inl (cy 3, 3, .inr (.inr (.inr (.inr xg26))))), (xq16, .inr (1, [.ref xq19, .ref xq22, .int 0])), (xq19, .inl (cy 0, 48, .inl (fun _ => 0))), (xq17, .inr (1, [.ref xq20, .ref xq23, .int 0])), (xq20, .inl (cy 0, 48, .inl (fun _ => 0))), (xq18, .inr (1, [.ref xq21, .ref xq24, .int 0])), (xq21, .inl (cy 0, 48, .inl (fun _ => 0))), (nq31, .inr (3, [.ref xq33, .ref xq34, .ref xq35, .int 0, .ref xq36, .ref xq37, .int 0, .int 0, .int 0])), (xq33, .inl (cy 0, 7, .inl (fun _ => 0))), (xq34, .inl (cy 0, 7, .inl (fun _ => 0))), (xq35, .inl (cy 0, 7, .inl (fun _ => 0))), (xq36, .inr (5, [.ref xq38, .int 0])), (xq38, .inl (cy 0, 7, .inl (fun _ => 0))), (xq37, .inr (5, [.ref xq39, .int 0])), (xq39, .inl (cy 0, 7, .inl (fun _ => 0))), (nq40, .inr (5, [.ref xq42, .int 0])), (xq42, .inl (cy 0, 48, .inl (fun _ => 0))), (nq43, .inr (5, [.ref xq45, .int 0])), (xq45, .inl (cy 0, 24, .inl (fun _ => 0))), (nq46, .inl (cy 4, 8, .inr (.inr (.inr (.inr (va_up (va_up (va_up (va_up (va_up (va_up (va_up (va_up (fun _ => none) 0 (some nq47)) 1 (some nq51)) 2 (some nq55)) 3 (some nq59)) 4 (some nq63)) 5 (some nq67)) 6 (some nq71)) 7 (some nq75))))))), (nq47, .inr (9, [.int 0, .int 0, .int 0, .int 5, .int 60, .int 0, .int 0, .int 0, .int 0, .ref xq49, .ref xq50])), (xq49, .inl (cy 0, 192, .inl (fun _ => 0))), (xq50, .inl (cy 0, 192, .inl (fun _ => 0))), (nq75, .inr (9, [.int 0, .int 0, .int 0, .int 5, .int 60, .int 0, .int 0, .int 0, .int 0, .ref xq77, .ref xq78])), (xq77, .inl (cy 0, 192, .inl (fun _ => 0))), (xq78, .inl (cy 0, 192, .inl (fun _ => 0)))] := hD
  have hP := P_cut (wc := [(h0, .inr (10, [.ref nq1, .ref nq10, .ref nq31, .ref nq40, .ref nq43, .ref nq46, .int 0, .int 0])), (nq1, .inr (7, [.ref xq3, .ref xq4, .ref xq5, .ref xq6, .ref xq7, .int 0])), (xq3, .inl (cy 0, 192, .inl xf8)), (xq4, .inl (cy 0, 40, .inl (fun _ => 0))), (xq5, .inl (cy 0, 40, .inl (fun _ => 0))), (xq6, .inl (cy 0, 40, .inl (fun _ => 0))), (xq7, .inl (cy 0, 40, .inl (fun _ => 0))), (nq10, .inr (2, [.int 5, .int 9, .int 0, .ref xq12, .ref xq13, .ref xq14, .ref xq15])), (xq12, .inl (cy 0, 5, .inl xf25)), (xq13, .inl (cy 0, 5, .inl (fun _ => 0))), (xq14, .inl (cy 3, 3, .inr (.inr (.inr (.inr xg26))))), (xq16, .inr (1, [.ref xq19, .ref xq22, .int 0])), (xq19, .inl (cy 0, 48, .inl (fun _ => 0))), (xq17, .inr (1, [.ref xq20, .ref xq23, .int 0])), (xq20, .inl (cy 0, 48, .inl (fun _ => 0))), (xq18, .inr (1, [.ref xq21, .ref xq24, .int 0])), (xq21, .inl (cy 0, 48, .inl (fun _ => 0))), (nq31, .inr (3, [.ref xq33, .ref xq34, .ref xq35, .int 0, .ref xq36, .ref xq37, .int 0, .int 0, .int 0])), (xq33, .inl (cy 0, 7, .inl (fun _ => 0))), (xq34, .inl (cy 0, 7, .inl (fun _ => 0))), (xq35, .inl (cy 0, 7, .inl (fun _ => 0))), (xq36, .inr (5, [.ref xq38, .int 0])), (xq38, .inl (cy 0, 7, .inl (fun _ => 0))), (xq37, .inr (5, [.ref xq39, .int 0])), (xq39, .inl (cy 0, 7, .inl (fun _ => 0))), (nq40, .inr (5, [.ref xq42, .int 0])), (xq42, .inl (cy 0, 48, .inl (fun _ => 0))), (nq43, .inr (5, [.ref xq45, .int 0])), (xq45, .inl (cy 0, 24, .inl (fun _ => 0))), (nq46, .inl (cy 4, 8, .inr (.inr (.inr (.inr (va_up (va_up (va_up (va_up (va_up (va_up (va_up (va_up (fun _ => none) 0 (some nq47)) 1 (some nq51)) 2 (some nq55)) 3 (some nq59)) 4 (some nq63)) 5 (some nq67)) 6 (some nq71)) 7 (some nq75))))))), (nq47, .inr (9, [.int 0, .int 0, .int 0, .int 5, .int 60, .int 0, .int 0, .int 0, .int 0, .ref xq49, .ref xq50])), (xq49, .inl (cy 0, 192, .inl (fun _ => 0))), (xq50, .inl (cy 0, 192, .inl (fun _ => 0)))]) hP [0, 1, 2, 3, 4, 5, 6, 7, 8, 9, 10, 11, 12, 13, 14, 15, 16, 17, 18, 19, 20, 21, 22, 23, 24, 25, 26, 27, 28, 29, 30, 31, 32] rfl
  have hD := hD.sub (ws' := [(h0, .inr (10, [.ref nq1, .ref nq10, .ref nq31, .ref nq40, .ref nq43, .ref nq46, .int 0, .int 0])), (nq1, .inr (7, [.ref xq3, .ref xq4, .ref xq5, .ref xq6, .ref xq7, .int 0])), (xq3, .inl (cy 0, 192, .inl xf8)), (xq4, .inl (cy 0, 40, .inl (fun _ => 0))), (xq5, .inl (cy 0, 40, .inl (fun _ => 0))), (xq6, .inl (cy 0, 40, .inl (fun _ => 0))), (xq7, .inl (cy 0, 40, .inl (fun _ => 0))), (nq10, .inr (2, [.int 5, .int 9, .int 0, .ref xq12, .ref xq13, .ref xq14, .ref xq15])), (xq12, .inl (cy 0, 5, .inl xf25)), (xq13, .inl (cy 0, 5, .inl (fun _ => 0))), (xq14, .inl (cy 3, 3, .inr (.inr (.inr (.inr xg26))))), (xq16, .inr (1, [.ref xq19, .ref xq22, .int 0])), (xq19, .inl (cy 0, 48, .inl (fun _ => 0))), (xq17, .inr (1, [.ref xq20, .ref xq23, .int 0])), (xq20, .inl (cy 0, 48, .inl (fun _ => 0))), (xq18, .inr (1, [.ref xq21, .ref xq24, .int 0])), (xq21, .inl (cy 0, 48, .inl (fun _ => 0))), (nq31, .inr (3, [.ref xq33, .ref xq34, .ref xq35, .int 0, .ref xq36, .ref xq37, .int 0, .int 0, .int 0])), (xq33, .inl (cy 0, 7, .inl (fun _ => 0))), (xq34, .inl (cy 0, 7, .inl (fun _ => 0))), (xq35, .inl (cy 0, 7, .inl (fun _ => 0))), (xq36, .inr (5, [.ref xq38, .int 0])), (xq38, .inl (cy 0, 7, .inl (fun _ => 0))), (xq37, .inr (5, [.ref xq39, .int 0])), (xq39, .inl (cy 0, 7, .inl (fun _ => 0))), (nq40, .inr (5, [.ref xq42, .int 0])), (xq42, .inl (cy 0, 48, .inl (fun _ => 0))), (nq43, .inr (5, [.ref xq45, .int 0])), (xq45, .inl (cy 0, 24, .inl (fun _ => 0))), (nq46, .inl (cy 4, 8, .inr (.inr (.inr (.inr (va_up (va_up (va_up (va_up (va_up (va_up (va_up (va_up (fun _ => none) 0 (some nq47)) 1 (some nq51)) 2 (some nq55)) 3 (some nq59)) 4 (some nq63)) 5 (some nq67)) 6 (some nq71)) 7 (some nq75))))))), (nq47, .inr (9, [.int 0, .int 0, .int 0, .int 5, .int 60, .int 0, .int 0, .int 0, .int 0, .ref xq49, .ref xq50])), (xq49, .inl (cy 0, 192, .inl (fun _ => 0))), (xq50, .inl (cy 0, 192, .inl (fun _ => 0)))]) [0, 1, 2, 3, 4, 5, 6, 7, 8, 9, 10, 11, 12, 13, 14, 15, 16, 17, 18, 19, 20, 21, 22, 23, 24, 25, 26, 27, 28, 29, 30, 31, 32] (by decide) rfl
  refine lv_iinc (v := 8) (lv' := [(1, .int 8), (0, .ref h0)]) hx hb dX10_init_103 hl (k := 0) rfl (by decide) (by decide) rfl (fun ls hl => ?_)
  refine lv_goto (tgt := 84) hx hb dX10_init_106 (by decide) ?_
  refine lv_iload_n hx hb dX10_init_84 rfl (lv_at hl 0 rfl) ?_
  refine lv_bipush (v := 8) hx hb dX10_init_85 (by decide) ?_
  refine lv_icmp_ge (tgt := 109) hx hb dX10_init_87 (by decide) (fun _ => ?_) (fun h9 => absurd h9 (by decide))
  have hP9 := P_cut (wc := [(h0, .inr (10, [.ref nq1, .ref nq10, .ref nq31, .ref nq40, .ref nq43, .ref nq46, .int 0, .int 0])), (nq1, .inr (7, [.ref xq3, .ref xq4, .ref xq5, .ref xq6, .ref xq7, .int 0])), (xq3, .inl (cy 0, 192, .inl xf8)), (xq4, .inl (cy 0, 40, .inl (fun _ => 0))), (xq5, .inl (cy 0, 40, .inl (fun _ => 0))), (xq6, .inl (cy 0, 40, .inl (fun _ => 0))), (xq7, .inl (cy 0, 40, .inl (fun _ => 0))), (nq10, .inr (2, [.int 5, .int 9, .int 0, .ref xq12, .ref xq13, .ref xq14, .ref xq15])), (xq12, .inl (cy 0, 5, .inl xf25)), (xq13, .inl (cy 0, 5, .inl (fun _ => 0))), (xq14, .inl (cy 3, 3, .inr (.inr (.inr (.inr xg26))))), (xq16, .inr (1, [.ref xq19, .ref xq22, .int 0])), (xq19, .inl (cy 0, 48, .inl (fun _ => 0))), (xq17, .inr (1, [.ref xq20, .ref xq23, .int 0])), (xq20, .inl (cy 0, 48, .inl (fun _ => 0))), (xq18, .inr (1, [.ref xq21, .ref xq24, .int 0])), (xq21, .inl (cy 0, 48, .inl (fun _ => 0))), (nq31, .inr (3, [.ref xq33, .ref xq34, .ref xq35, .int 0, .ref xq36, .ref xq37, .int 0, .int 0, .int 0])), (xq33, .inl (cy 0, 7, .inl (fun _ => 0))), (xq34, .inl (cy 0, 7, .inl (fun _ => 0))), (xq35, .inl (cy 0, 7, .inl (fun _ => 0))), (xq36, .inr (5, [.ref xq38, .int 0])), (xq38, .inl (cy 0, 7, .inl (fun _ => 0))), (xq37, .inr (5, [.ref xq39, .int 0])), (xq39, .inl (cy 0, 7, .inl (fun _ => 0))), (nq40, .inr (5, [.ref xq42, .int 0])), (xq42, .inl (cy 0, 48, .inl (fun _ => 0))), (nq43, .inr (5, [.ref xq45, .int 0])), (xq45, .inl (cy 0, 24, .inl (fun _ => 0))), (nq46, .inl (cy 4, 8, .inr (.inr (.inr (.inr (va_up (va_up (va_up (va_up (va_up (va_up (va_up (va_up (fun _ => none) 0 (some nq47)) 1 (some nq51)) 2 (some nq55)) 3 (some nq59)) 4 (some nq63)) 5 (some nq67)) 6 (some nq71)) 7 (some nq75))))))), (nq47, .inr (9, [.int 0, .int 0, .int 0, .int 5, .int 60, .int 0, .int 0, .int 0, .int 0, .ref xq49, .ref xq50])), (xq49, .inl (cy 0, 192, .inl (fun _ => 0))), (xq50, .inl (cy 0, 192, .inl (fun _ => 0)))]) hP [0, 1, 2, 3, 4, 5, 6, 7, 8, 9, 10, 11, 12, 13, 14, 15, 16, 17, 18, 19, 20, 21, 22, 23, 24, 25, 26, 27, 28, 29, 30, 31, 32] rfl
  have hD9 := hD.sub (ws' := [(h0, .inr (10, [.ref nq1, .ref nq10, .ref nq31, .ref nq40, .ref nq43, .ref nq46, .int 0, .int 0])), (nq1, .inr (7, [.ref xq3, .ref xq4, .ref xq5, .ref xq6, .ref xq7, .int 0])), (xq3, .inl (cy 0, 192, .inl xf8)), (xq4, .inl (cy 0, 40, .inl (fun _ => 0))), (xq5, .inl (cy 0, 40, .inl (fun _ => 0))), (xq6, .inl (cy 0, 40, .inl (fun _ => 0))), (xq7, .inl (cy 0, 40, .inl (fun _ => 0))), (nq10, .inr (2, [.int 5, .int 9, .int 0, .ref xq12, .ref xq13, .ref xq14, .ref xq15])), (xq12, .inl (cy 0, 5, .inl xf25)), (xq13, .inl (cy 0, 5, .inl (fun _ => 0))), (xq14, .inl (cy 3, 3, .inr (.inr (.inr (.inr xg26))))), (xq16, .inr (1, [.ref xq19, .ref xq22, .int 0])), (xq19, .inl (cy 0, 48, .inl (fun _ => 0))), (xq17, .inr (1, [.ref xq20, .ref xq23, .int 0])), (xq20, .inl (cy 0, 48, .inl (fun _ => 0))), (xq18, .inr (1, [.ref xq21, .ref xq24, .int 0])), (xq21, .inl (cy 0, 48, .inl (fun _ => 0))), (nq31, .inr (3, [.ref xq33, .ref xq34, .ref xq35, .int 0, .ref xq36, .ref xq37, .int 0, .int 0, .int 0])), (xq33, .inl (cy 0, 7, .inl (fun _ => 0))), (xq34, .inl (cy 0, 7, .inl (fun _ => 0))), (xq35, .inl (cy 0, 7, .inl (fun _ => 0))), (xq36, .inr (5, [.ref xq38, .int 0])), (xq38, .inl (cy 0, 7, .inl (fun _ => 0))), (xq37, .inr (5, [.ref xq39, .int 0])), (xq39, .inl (cy 0, 7, .inl (fun _ => 0))), (nq40, .inr (5, [.ref xq42, .int 0])), (xq42, .inl (cy 0, 48, .inl (fun _ => 0))), (nq43, .inr (5, [.ref xq45, .int 0])), (xq45, .inl (cy 0, 24, .inl (fun _ => 0))), (nq46, .inl (cy 4, 8, .inr (.inr (.inr (.inr (va_up (va_up (va_up (va_up (va_up (va_up (va_up (va_up (fun _ => none) 0 (some nq47)) 1 (some nq51)) 2 (some nq55)) 3 (some nq59)) 4 (some nq63)) 5 (some nq67)) 6 (some nq71)) 7 (some nq75))))))), (nq47, .inr (9, [.int 0, .int 0, .int 0, .int 5, .int 60, .int 0, .int 0, .int 0, .int 0, .ref xq49, .ref xq50])), (xq49, .inl (cy 0, 192, .inl (fun _ => 0))), (xq50, .inl (cy 0, 192, .inl (fun _ => 0)))]) [0, 1, 2, 3, 4, 5, 6, 7, 8, 9, 10, 11, 12, 13, 14, 15, 16, 17, 18, 19, 20, 21, 22, 23, 24, 25, 26, 27, 28, 29, 30, 31, 32] (by decide) rfl
  refine W.widen (k := 57) (n := 4286) (by first | exact Nat.le_of_ble_eq_true rfl | omega) (by first | exact Nat.le_of_ble_eq_true rfl | omega) ?_
  exact W.vret hx hb hr (fun t ht hW => ⟨⟨(), rfl, trivial, by dsimp only; rw [ht]; exact ⟨nq1, xq3, xq4, xq5, xq6, xq7, nq10, xq12, xq13, xq14, xq15, xq16, xq17, xq18, xq19, xq20, xq21, xq22, xq23, xq24, nq31, xq33, xq34, xq35, xq36, xq37, xq38, xq39, nq40, xq42, nq43, xq45, nq46, nq47, xq49, xq50, xf8, xf25, xg26, (va_up (va_up (va_up (va_up (va_up (va_up (va_up (va_up (fun _ => none) 0 (some nq47)) 1 (some nq51)) 2 (some nq55)) 3 (some nq59)) 4 (some nq63)) 5 (some nq67)) 6 (some nq71)) 7 (some nq75)), h_9, h_27, h_28, h_29, h_30, rfl, hP9, hD9⟩⟩, hS.F ht⟩) hS.2.2 dX10_init_109
end
section
set_option maxHeartbeats 4000000 in
set_option maxRecDepth 100000 in
theorem c_X10_takeFrom (l : Launch) (G : va_G) (cy : Nat → ClassId) (sk : Nat → Nat) (sz : Nat) (lv : Nat) (plv : Nat) (st : Nat) (oc : Nat) (ki : Nat) (ce : Nat) (si : Nat) (sp : Nat) (la : Nat) (ld : Nat) (sr : Nat) (tx : Nat) (vl : Nat) (f0 : Nat) (f1 : Nat) (f2 : Nat) (c0 : Nat) (c1 : Nat) (c2 : Nat) (k0 : Nat) (k1 : Nat) (k2 : Nat) (le : Nat) (te : Nat) (ne : Nat) (mi : Nat) (tr : Nat) (be : Nat) (rta7 : Nat) (rba7 : Nat) (ta : Nat) (rta : Nat) (wa : Nat) (rwa : Nat) (wk : Nat) (foc : Nat → Int32) (fl : Nat → Int32) (gt : Nat → Option Nat) (pst : Nat) (poc : Nat) (pki : Nat) (pce : Nat) (psi : Nat) (psp : Nat) (pla : Nat) (pld : Nat) (psr : Nat) (ptx : Nat) (pvl : Nat) (pf0 : Nat) (pf1 : Nat) (pf2 : Nat) (pc0 : Nat) (pc1 : Nat) (pc2 : Nat) (pk0 : Nat) (pk1 : Nat) (pk2 : Nat) (ple : Nat) (pte : Nat) (pne : Nat) (pmi : Nat) (ptr : Nat) (pbe : Nat) (prta7 : Nat) (prba7 : Nat) (pta : Nat) (prta : Nat) (pwa : Nat) (prwa : Nat) (pwk : Nat) (pfoc : Nat → Int32) (pfl : Nat → Int32) (pgt : Nat → Option Nat) (h0 : gt 0 = some f0) (h1 : gt 1 = some f1) (h2 : gt 2 = some f2) (h3 : pgt 0 = some pf0) (h4 : pgt 1 = some pf1) (h5 : pgt 2 = some pf2) : Met l yX10_takeFrom (wsO yX10_takeFrom cX10_takeFrom 3 none) ({ frames := 3, cells := 0, slots := 0, locals := 83 }) (va_Pc [.ref lv, .ref plv] (PR G cy sk sz [(lv, .inr (10, [.ref st, .ref la, .ref le, .ref ta, .ref wa, .ref wk, .int 0, .int 0])), (st, .inr (7, [.ref oc, .ref ki, .ref ce, .ref si, .ref sp, .int 0])), (oc, .inl (cy 0, 192, .inl foc)), (ki, .inl (cy 0, 40, .inl (fun _ => 0))), (ce, .inl (cy 0, 40, .inl (fun _ => 0))), (si, .inl (cy 0, 40, .inl (fun _ => 0))), (sp, .inl (cy 0, 40, .inl (fun _ => 0))), (la, .inr (2, [.int 5, .int 9, .int 0, .ref ld, .ref sr, .ref tx, .ref vl])), (ld, .inl (cy 0, 5, .inl fl)), (sr, .inl (cy 0, 5, .inl (fun _ => 0))), (tx, .inl (cy 3, 3, .inr (.inr (.inr (.inr gt))))), (f0, .inr (1, [.ref c0, .ref k0, .int 0])), (c0, .inl (cy 0, 48, .inl (fun _ => 0))), (f1, .inr (1, [.ref c1, .ref k1, .int 0])), (c1, .inl (cy 0, 48, .inl (fun _ => 0))), (f2, .inr (1, [.ref c2, .ref k2, .int 0])), (c2, .inl (cy 0, 48, .inl (fun _ => 0))), (le, .inr (3, [.ref te, .ref ne, .ref mi, .int 0, .ref tr, .ref be, .int 0, .int 0, .int 0])), (te, .inl (cy 0, 7, .inl (fun _ => 0))), (ne, .inl (cy 0, 7, .inl (fun _ => 0))), (mi, .inl (cy 0, 7, .inl (fun _ => 0))), (ta, .inr (5, [.ref rta, .int 0])), (rta, .inl (cy 0, 48, .inl (fun _ => 0))), (wa, .inr (5, [.ref rwa, .int 0])), (rwa, .inl (cy 0, 24, .inl (fun _ => 0))), (plv, .inr (10, [.ref pst, .ref pla, .ref ple, .ref pta, .ref pwa, .ref pwk, .int 0, .int 0])), (pst, .inr (7, [.ref poc, .ref pki, .ref pce, .ref psi, .ref psp, .int 0])), (poc, .inl (cy 0, 192, .inl pfoc)), (pki, .inl (cy 0, 40, .inl (fun _ => 0))), (pce, .inl (cy 0, 40, .inl (fun _ => 0))), (psi, .inl (cy 0, 40, .inl (fun _ => 0))), (psp, .inl (cy 0, 40, .inl (fun _ => 0))), (pla, .inr (2, [.int 5, .int 9, .int 0, .ref pld, .ref psr, .ref ptx, .ref pvl])), (pld, .inl (cy 0, 5, .inl pfl)), (psr, .inl (cy 0, 5, .inl (fun _ => 0))), (ptx, .inl (cy 3, 3, .inr (.inr (.inr (.inr pgt))))), (pf0, .inr (1, [.ref pc0, .ref pk0, .int 0])), (pc0, .inl (cy 0, 48, .inl (fun _ => 0))), (pf1, .inr (1, [.ref pc1, .ref pk1, .int 0])), (pc1, .inl (cy 0, 48, .inl (fun _ => 0))), (pf2, .inr (1, [.ref pc2, .ref pk2, .int 0])), (pc2, .inl (cy 0, 48, .inl (fun _ => 0))), (ple, .inr (3, [.ref pte, .ref pne, .ref pmi, .int 0, .ref ptr, .ref pbe, .int 0, .int 0, .int 0])), (pte, .inl (cy 0, 7, .inl (fun _ => 0))), (pne, .inl (cy 0, 7, .inl (fun _ => 0))), (pmi, .inl (cy 0, 7, .inl (fun _ => 0))), (pta, .inr (5, [.ref prta, .int 0])), (prta, .inl (cy 0, 48, .inl (fun _ => 0))), (pwa, .inr (5, [.ref prwa, .int 0])), (prwa, .inl (cy 0, 24, .inl (fun _ => 0)))])) (va_Qv (fun (_ : Unit) => True) (fun _ _ => True) (va_A [(lv, .inr (10, [.ref st, .ref la, .ref le, .ref ta, .ref wa, .ref wk, .int 0, .int 0])), (st, .inr (7, [.ref oc, .ref ki, .ref ce, .ref si, .ref sp, .int 0])), (oc, .inl (cy 0, 192, .inl foc)), (ki, .inl (cy 0, 40, .inl (fun _ => 0))), (ce, .inl (cy 0, 40, .inl (fun _ => 0))), (si, .inl (cy 0, 40, .inl (fun _ => 0))), (sp, .inl (cy 0, 40, .inl (fun _ => 0))), (la, .inr (2, [.int 5, .int 9, .int 0, .ref ld, .ref sr, .ref tx, .ref vl])), (ld, .inl (cy 0, 5, .inl fl)), (sr, .inl (cy 0, 5, .inl (fun _ => 0))), (tx, .inl (cy 3, 3, .inr (.inr (.inr (.inr gt))))), (f0, .inr (1, [.ref c0, .ref k0, .int 0])), (c0, .inl (cy 0, 48, .inl (fun _ => 0))), (f1, .inr (1, [.ref c1, .ref k1, .int 0])), (c1, .inl (cy 0, 48, .inl (fun _ => 0))), (f2, .inr (1, [.ref c2, .ref k2, .int 0])), (c2, .inl (cy 0, 48, .inl (fun _ => 0))), (le, .inr (3, [.ref te, .ref ne, .ref mi, .int 0, .ref tr, .ref be, .int 0, .int 0, .int 0])), (te, .inl (cy 0, 7, .inl (fun _ => 0))), (ne, .inl (cy 0, 7, .inl (fun _ => 0))), (mi, .inl (cy 0, 7, .inl (fun _ => 0))), (ta, .inr (5, [.ref rta, .int 0])), (rta, .inl (cy 0, 48, .inl (fun _ => 0))), (wa, .inr (5, [.ref rwa, .int 0])), (rwa, .inl (cy 0, 24, .inl (fun _ => 0))), (plv, .inr (10, [.ref pst, .ref pla, .ref ple, .ref pta, .ref pwa, .ref pwk, .int 0, .int 0])), (pst, .inr (7, [.ref poc, .ref pki, .ref pce, .ref psi, .ref psp, .int 0])), (poc, .inl (cy 0, 192, .inl pfoc)), (pki, .inl (cy 0, 40, .inl (fun _ => 0))), (pce, .inl (cy 0, 40, .inl (fun _ => 0))), (psi, .inl (cy 0, 40, .inl (fun _ => 0))), (psp, .inl (cy 0, 40, .inl (fun _ => 0))), (pla, .inr (2, [.int 5, .int 9, .int 0, .ref pld, .ref psr, .ref ptx, .ref pvl])), (pld, .inl (cy 0, 5, .inl pfl)), (psr, .inl (cy 0, 5, .inl (fun _ => 0))), (ptx, .inl (cy 3, 3, .inr (.inr (.inr (.inr pgt))))), (pf0, .inr (1, [.ref pc0, .ref pk0, .int 0])), (pc0, .inl (cy 0, 48, .inl (fun _ => 0))), (pf1, .inr (1, [.ref pc1, .ref pk1, .int 0])), (pc1, .inl (cy 0, 48, .inl (fun _ => 0))), (pf2, .inr (1, [.ref pc2, .ref pk2, .int 0])), (pc2, .inl (cy 0, 48, .inl (fun _ => 0))), (ple, .inr (3, [.ref pte, .ref pne, .ref pmi, .int 0, .ref ptr, .ref pbe, .int 0, .int 0, .int 0])), (pte, .inl (cy 0, 7, .inl (fun _ => 0))), (pne, .inl (cy 0, 7, .inl (fun _ => 0))), (pmi, .inl (cy 0, 7, .inl (fun _ => 0))), (pta, .inr (5, [.ref prta, .int 0])), (prta, .inl (cy 0, 48, .inl (fun _ => 0))), (pwa, .inr (5, [.ref prwa, .int 0])), (prwa, .inl (cy 0, 24, .inl (fun _ => 0)))] sz)) 0 0 (va_A [(lv, .inr (10, [.ref st, .ref la, .ref le, .ref ta, .ref wa, .ref wk, .int 0, .int 0])), (st, .inr (7, [.ref oc, .ref ki, .ref ce, .ref si, .ref sp, .int 0])), (oc, .inl (cy 0, 192, .inl foc)), (ki, .inl (cy 0, 40, .inl (fun _ => 0))), (ce, .inl (cy 0, 40, .inl (fun _ => 0))), (si, .inl (cy 0, 40, .inl (fun _ => 0))), (sp, .inl (cy 0, 40, .inl (fun _ => 0))), (la, .inr (2, [.int 5, .int 9, .int 0, .ref ld, .ref sr, .ref tx, .ref vl])), (ld, .inl (cy 0, 5, .inl fl)), (sr, .inl (cy 0, 5, .inl (fun _ => 0))), (tx, .inl (cy 3, 3, .inr (.inr (.inr (.inr gt))))), (f0, .inr (1, [.ref c0, .ref k0, .int 0])), (c0, .inl (cy 0, 48, .inl (fun _ => 0))), (f1, .inr (1, [.ref c1, .ref k1, .int 0])), (c1, .inl (cy 0, 48, .inl (fun _ => 0))), (f2, .inr (1, [.ref c2, .ref k2, .int 0])), (c2, .inl (cy 0, 48, .inl (fun _ => 0))), (le, .inr (3, [.ref te, .ref ne, .ref mi, .int 0, .ref tr, .ref be, .int 0, .int 0, .int 0])), (te, .inl (cy 0, 7, .inl (fun _ => 0))), (ne, .inl (cy 0, 7, .inl (fun _ => 0))), (mi, .inl (cy 0, 7, .inl (fun _ => 0))), (ta, .inr (5, [.ref rta, .int 0])), (rta, .inl (cy 0, 48, .inl (fun _ => 0))), (wa, .inr (5, [.ref rwa, .int 0])), (rwa, .inl (cy 0, 24, .inl (fun _ => 0))), (plv, .inr (10, [.ref pst, .ref pla, .ref ple, .ref pta, .ref pwa, .ref pwk, .int 0, .int 0])), (pst, .inr (7, [.ref poc, .ref pki, .ref pce, .ref psi, .ref psp, .int 0])), (poc, .inl (cy 0, 192, .inl pfoc)), (pki, .inl (cy 0, 40, .inl (fun _ => 0))), (pce, .inl (cy 0, 40, .inl (fun _ => 0))), (psi, .inl (cy 0, 40, .inl (fun _ => 0))), (psp, .inl (cy 0, 40, .inl (fun _ => 0))), (pla, .inr (2, [.int 5, .int 9, .int 0, .ref pld, .ref psr, .ref ptx, .ref pvl])), (pld, .inl (cy 0, 5, .inl pfl)), (psr, .inl (cy 0, 5, .inl (fun _ => 0))), (ptx, .inl (cy 3, 3, .inr (.inr (.inr (.inr pgt))))), (pf0, .inr (1, [.ref pc0, .ref pk0, .int 0])), (pc0, .inl (cy 0, 48, .inl (fun _ => 0))), (pf1, .inr (1, [.ref pc1, .ref pk1, .int 0])), (pc1, .inl (cy 0, 48, .inl (fun _ => 0))), (pf2, .inr (1, [.ref pc2, .ref pk2, .int 0])), (pc2, .inl (cy 0, 48, .inl (fun _ => 0))), (ple, .inr (3, [.ref pte, .ref pne, .ref pmi, .int 0, .ref ptr, .ref pbe, .int 0, .int 0, .int 0])), (pte, .inl (cy 0, 7, .inl (fun _ => 0))), (pne, .inl (cy 0, 7, .inl (fun _ => 0))), (pmi, .inl (cy 0, 7, .inl (fun _ => 0))), (pta, .inr (5, [.ref prta, .int 0])), (prta, .inl (cy 0, 48, .inl (fun _ => 0))), (pwa, .inr (5, [.ref prwa, .int 0])), (prwa, .inl (cy 0, 24, .inl (fun _ => 0)))] sz) := by
  refine mt (by decide) (Nat.le_of_ble_eq_true rfl) ?_
  intro p e s m below meth c ls hx hb hr hml hts hown hlocks hin hsz hP hE hD hl
  subst hsz
  have hl : lv_has ls 3 [(0, .ref lv), (1, .ref plv)] := hl
  have hD := hD.self (sz := s.heap.size)
  generalize hAe : va_A [(lv, .inr (10, [.ref st, .ref la, .ref le, .ref ta, .ref wa, .ref wk, .int 0, .int 0])), (st, .inr (7, [.ref oc, .ref ki, .ref ce, .ref si, .ref sp, .int 0])), (oc, .inl (cy 0, 192, .inl foc)), (ki, .inl (cy 0, 40, .inl (fun _ => 0))), (ce, .inl (cy 0, 40, .inl (fun _ => 0))), (si, .inl (cy 0, 40, .inl (fun _ => 0))), (sp, .inl (cy 0, 40, .inl (fun _ => 0))), (la, .inr (2, [.int 5, .int 9, .int 0, .ref ld, .ref sr, .ref tx, .ref vl])), (ld, .inl (cy 0, 5, .inl fl)), (sr, .inl (cy 0, 5, .inl (fun _ => 0))), (tx, .inl (cy 3, 3, .inr (.inr (.inr (.inr gt))))), (f0, .inr (1, [.ref c0, .ref k0, .int 0])), (c0, .inl (cy 0, 48, .inl (fun _ => 0))), (f1, .inr (1, [.ref c1, .ref k1, .int 0])), (c1, .inl (cy 0, 48, .inl (fun _ => 0))), (f2, .inr (1, [.ref c2, .ref k2, .int 0])), (c2, .inl (cy 0, 48, .inl (fun _ => 0))), (le, .inr (3, [.ref te, .ref ne, .ref mi, .int 0, .ref tr, .ref be, .int 0, .int 0, .int 0])), (te, .inl (cy 0, 7, .inl (fun _ => 0))), (ne, .inl (cy 0, 7, .inl (fun _ => 0))), (mi, .inl (cy 0, 7, .inl (fun _ => 0))), (ta, .inr (5, [.ref rta, .int 0])), (rta, .inl (cy 0, 48, .inl (fun _ => 0))), (wa, .inr (5, [.ref rwa, .int 0])), (rwa, .inl (cy 0, 24, .inl (fun _ => 0))), (plv, .inr (10, [.ref pst, .ref pla, .ref ple, .ref pta, .ref pwa, .ref pwk, .int 0, .int 0])), (pst, .inr (7, [.ref poc, .ref pki, .ref pce, .ref psi, .ref psp, .int 0])), (poc, .inl (cy 0, 192, .inl pfoc)), (pki, .inl (cy 0, 40, .inl (fun _ => 0))), (pce, .inl (cy 0, 40, .inl (fun _ => 0))), (psi, .inl (cy 0, 40, .inl (fun _ => 0))), (psp, .inl (cy 0, 40, .inl (fun _ => 0))), (pla, .inr (2, [.int 5, .int 9, .int 0, .ref pld, .ref psr, .ref ptx, .ref pvl])), (pld, .inl (cy 0, 5, .inl pfl)), (psr, .inl (cy 0, 5, .inl (fun _ => 0))), (ptx, .inl (cy 3, 3, .inr (.inr (.inr (.inr pgt))))), (pf0, .inr (1, [.ref pc0, .ref pk0, .int 0])), (pc0, .inl (cy 0, 48, .inl (fun _ => 0))), (pf1, .inr (1, [.ref pc1, .ref pk1, .int 0])), (pc1, .inl (cy 0, 48, .inl (fun _ => 0))), (pf2, .inr (1, [.ref pc2, .ref pk2, .int 0])), (pc2, .inl (cy 0, 48, .inl (fun _ => 0))), (ple, .inr (3, [.ref pte, .ref pne, .ref pmi, .int 0, .ref ptr, .ref pbe, .int 0, .int 0, .int 0])), (pte, .inl (cy 0, 7, .inl (fun _ => 0))), (pne, .inl (cy 0, 7, .inl (fun _ => 0))), (pmi, .inl (cy 0, 7, .inl (fun _ => 0))), (pta, .inr (5, [.ref prta, .int 0])), (prta, .inl (cy 0, 48, .inl (fun _ => 0))), (pwa, .inr (5, [.ref prwa, .int 0])), (prwa, .inl (cy 0, 24, .inl (fun _ => 0)))] s.heap.size = A at hD ⊢
  have hA : ∀ q : Nat, s.heap.size ≤ q → A q := fun q h => by rw [← hAe]; exact Or.inr h
  have hS : va_S A s.heap s.heap [] := va_S.rf
  refine lv_aload_n hx hb dX10_takeFrom_0 rfl (lv_at hl 0 rfl) ?_
  refine va_get (D := G) (ci := 10) (v := .ref st) (C := RX10) (T := TX10) (N := 8) hx hb hts inB10 hown hE.1 hP 0 rfl rfl 0 (by decide) (hts _ m_309) (fun _ h9 => h9) rfl dX10_takeFrom_1 ?_
  refine lv_aload_n hx hb dX10_takeFrom_4 rfl (lv_at hl 1 rfl) ?_
  refine va_get (D := G) (ci := 10) (v := .ref pst) (C := RX10) (T := TX10) (N := 8) hx hb hts inB10 hown hE.1 hP 25 rfl rfl 0 (by decide) (hts _ m_309) (fun _ h9 => h9) rfl dX10_takeFrom_5 ?_
  refine wVv (B := (fun _ => True)) (wr := [(lv, .inr (10, [.ref st, .ref la, .ref le, .ref ta, .ref wa, .ref wk, .int 0, .int 0])), (la, .inr (2, [.int 5, .int 9, .int 0, .ref ld, .ref sr, .ref tx, .ref vl])), (ld, .inl (cy 0, 5, .inl fl)), (sr, .inl (cy 0, 5, .inl (fun _ => 0))), (tx, .inl (cy 3, 3, .inr (.inr (.inr (.inr gt))))), (f0, .inr (1, [.ref c0, .ref k0, .int 0])), (c0, .inl (cy 0, 48, .inl (fun _ => 0))), (f1, .inr (1, [.ref c1, .ref k1, .int 0])), (c1, .inl (cy 0, 48, .inl (fun _ => 0))), (f2, .inr (1, [.ref c2, .ref k2, .int 0])), (c2, .inl (cy 0, 48, .inl (fun _ => 0))), (le, .inr (3, [.ref te, .ref ne, .ref mi, .int 0, .ref tr, .ref be, .int 0, .int 0, .int 0])), (te, .inl (cy 0, 7, .inl (fun _ => 0))), (ne, .inl (cy 0, 7, .inl (fun _ => 0))), (mi, .inl (cy 0, 7, .inl (fun _ => 0))), (ta, .inr (5, [.ref rta, .int 0])), (rta, .inl (cy 0, 48, .inl (fun _ => 0))), (wa, .inr (5, [.ref rwa, .int 0])), (rwa, .inl (cy 0, 24, .inl (fun _ => 0))), (plv, .inr (10, [.ref pst, .ref pla, .ref ple, .ref pta, .ref pwa, .ref pwk, .int 0, .int 0])), (pla, .inr (2, [.int 5, .int 9, .int 0, .ref pld, .ref psr, .ref ptx, .ref pvl])), (pld, .inl (cy 0, 5, .inl pfl)), (psr, .inl (cy 0, 5, .inl (fun _ => 0))), (ptx, .inl (cy 3, 3, .inr (.inr (.inr (.inr pgt))))), (pf0, .inr (1, [.ref pc0, .ref pk0, .int 0])), (pc0, .inl (cy 0, 48, .inl (fun _ => 0))), (pf1, .inr (1, [.ref pc1, .ref pk1, .int 0])), (pc1, .inl (cy 0, 48, .inl (fun _ => 0))), (pf2, .inr (1, [.ref pc2, .ref pk2, .int 0])), (pc2, .inl (cy 0, 48, .inl (fun _ => 0))), (ple, .inr (3, [.ref pte, .ref pne, .ref pmi, .int 0, .ref ptr, .ref pbe, .int 0, .int 0, .int 0])), (pte, .inl (cy 0, 7, .inl (fun _ => 0))), (pne, .inl (cy 0, 7, .inl (fun _ => 0))), (pmi, .inl (cy 0, 7, .inl (fun _ => 0))), (pta, .inr (5, [.ref prta, .int 0])), (prta, .inl (cy 0, 48, .inl (fun _ => 0))), (pwa, .inr (5, [.ref prwa, .int 0])), (prwa, .inl (cy 0, 24, .inl (fun _ => 0)))]) (rest := []) hx hb hml hown hts hE (c_X7_takeFrom l G cy sk s.heap.size st oc ki ce si sp foc (fun _ => 0) (fun _ => 0) (fun _ => 0) (fun _ => 0) pst poc pki pce psi psp pfoc (fun _ => 0) (fun _ => 0) (fun _ => 0) (fun _ => 0)) kV_X7_takeFrom m_1258 rfl rfl ⟨(Nat.le_of_ble_eq_true rfl), (Nat.le_of_ble_eq_true rfl)⟩ hP hD hS hA 1 rfl rfl rfl [1, 2, 3, 4, 5, 6, 26, 27, 28, 29, 30, 31] [0, 7, 8, 9, 10, 11, 12, 13, 14, 15, 16, 17, 18, 19, 20, 21, 22, 23, 24, 25, 32, 33, 34, 35, 36, 37, 38, 39, 40, 41, 42, 43, 44, 45, 46, 47, 48, 49] rfl rfl rfl rfl (by decide) rfl rfl hl.1 (Nat.le_of_ble_eq_true rfl) dX10_takeFrom_8 ⟨(Nat.le_of_ble_eq_true rfl), (Nat.le_of_ble_eq_true rfl)⟩ (fun H locs haf hS => ?_)
  obtain ⟨-, -, hP, hD⟩ := haf
  have hP : va_P G classes [(lv, .inr (10, [.ref st, .ref la, .ref le, .ref ta, .ref wa, .ref wk, .int 0, .int 0])), (la, .inr (2, [.int 5, .int 9, .int 0, .ref ld, .ref sr, .ref tx, .ref vl])), (ld, .inl (cy 0, 5, .inl fl)), (sr, .inl (cy 0, 5, .inl (fun _ => 0))), (tx, .inl (cy 3, 3, .inr (.inr (.inr (.inr gt))))), (f0, .inr (1, [.ref c0, .ref k0, .int 0])), (c0, .inl (cy 0, 48, .inl (fun _ => 0))), (f1, .inr (1, [.ref c1, .ref k1, .int 0])), (c1, .inl (cy 0, 48, .inl (fun _ => 0))), (f2, .inr (1, [.ref c2, .ref k2, .int 0])), (c2, .inl (cy 0, 48, .inl (fun _ => 0))), (le, .inr (3, [.ref te, .ref ne, .ref mi, .int 0, .ref tr, .ref be, .int 0, .int 0, .int 0])), (te, .inl (cy 0, 7, .inl (fun _ => 0))), (ne, .inl (cy 0, 7, .inl (fun _ => 0))), (mi, .inl (cy 0, 7, .inl (fun _ => 0))), (ta, .inr (5, [.ref rta, .int 0])), (rta, .inl (cy 0, 48, .inl (fun _ => 0))), (wa, .inr (5, [.ref rwa, .int 0])), (rwa, .inl (cy 0, 24, .inl (fun _ => 0))), (plv, .inr (10, [.ref pst, .ref pla, .ref ple, .ref pta, .ref pwa, .ref pwk, .int 0, .int 0])), (pla, .inr (2, [.int 5, .int 9, .int 0, .ref pld, .ref psr, .ref ptx, .ref pvl])), (pld, .inl (cy 0, 5, .inl pfl)), (psr, .inl (cy 0, 5, .inl (fun _ => 0))), (ptx, .inl (cy 3, 3, .inr (.inr (.inr (.inr pgt))))), (pf0, .inr (1, [.ref pc0, .ref pk0, .int 0])), (pc0, .inl (cy 0, 48, .inl (fun _ => 0))), (pf1, .inr (1, [.ref pc1, .ref pk1, .int 0])), (pc1, .inl (cy 0, 48, .inl (fun _ => 0))), (pf2, .inr (1, [.ref pc2, .ref pk2, .int 0])), (pc2, .inl (cy 0, 48, .inl (fun _ => 0))), (ple, .inr (3, [.ref pte, .ref pne, .ref pmi, .int 0, .ref ptr, .ref pbe, .int 0, .int 0, .int 0])), (pte, .inl (cy 0, 7, .inl (fun _ => 0))), (pne, .inl (cy 0, 7, .inl (fun _ => 0))), (pmi, .inl (cy 0, 7, .inl (fun _ => 0))), (pta, .inr (5, [.ref prta, .int 0])), (prta, .inl (cy 0, 48, .inl (fun _ => 0))), (pwa, .inr (5, [.ref prwa, .int 0])), (prwa, .inl (cy 0, 24, .inl (fun _ => 0)))] H := hP
  have hD : va_D A [(lv, .inr (10, [.ref st, .ref la, .ref le, .ref ta, .ref wa, .ref wk, .int 0, .int 0])), (la, .inr (2, [.int 5, .int 9, .int 0, .ref ld, .ref sr, .ref tx, .ref vl])), (ld, .inl (cy 0, 5, .inl fl)), (sr, .inl (cy 0, 5, .inl (fun _ => 0))), (tx, .inl (cy 3, 3, .inr (.inr (.inr (.inr gt))))), (f0, .inr (1, [.ref c0, .ref k0, .int 0])), (c0, .inl (cy 0, 48, .inl (fun _ => 0))), (f1, .inr (1, [.ref c1, .ref k1, .int 0])), (c1, .inl (cy 0, 48, .inl (fun _ => 0))), (f2, .inr (1, [.ref c2, .ref k2, .int 0])), (c2, .inl (cy 0, 48, .inl (fun _ => 0))), (le, .inr (3, [.ref te, .ref ne, .ref mi, .int 0, .ref tr, .ref be, .int 0, .int 0, .int 0])), (te, .inl (cy 0, 7, .inl (fun _ => 0))), (ne, .inl (cy 0, 7, .inl (fun _ => 0))), (mi, .inl (cy 0, 7, .inl (fun _ => 0))), (ta, .inr (5, [.ref rta, .int 0])), (rta, .inl (cy 0, 48, .inl (fun _ => 0))), (wa, .inr (5, [.ref rwa, .int 0])), (rwa, .inl (cy 0, 24, .inl (fun _ => 0))), (plv, .inr (10, [.ref pst, .ref pla, .ref ple, .ref pta, .ref pwa, .ref pwk, .int 0, .int 0])), (pla, .inr (2, [.int 5, .int 9, .int 0, .ref pld, .ref psr, .ref ptx, .ref pvl])), (pld, .inl (cy 0, 5, .inl pfl)), (psr, .inl (cy 0, 5, .inl (fun _ => 0))), (ptx, .inl (cy 3, 3, .inr (.inr (.inr (.inr pgt))))), (pf0, .inr (1, [.ref pc0, .ref pk0, .int 0])), (pc0, .inl (cy 0, 48, .inl (fun _ => 0))), (pf1, .inr (1, [.ref pc1, .ref pk1, .int 0])), (pc1, .inl (cy 0, 48, .inl (fun _ => 0))), (pf2, .inr (1, [.ref pc2, .ref pk2, .int 0])), (pc2, .inl (cy 0, 48, .inl (fun _ => 0))), (ple, .inr (3, [.ref pte, .ref pne, .ref pmi, .int 0, .ref ptr, .ref pbe, .int 0, .int 0, .int 0])), (pte, .inl (cy 0, 7, .inl (fun _ => 0))), (pne, .inl (cy 0, 7, .inl (fun _ => 0))), (pmi, .inl (cy 0, 7, .inl (fun _ => 0))), (pta, .inr (5, [.ref prta, .int 0])), (prta, .inl (cy 0, 48, .inl (fun _ => 0))), (pwa, .inr (5, [.ref prwa, .int 0])), (prwa, .inl (cy 0, 24, .inl (fun _ => 0)))] := hD
  refine lv_aload_n hx hb dX10_takeFrom_11 rfl (lv_at hl 0 rfl) ?_
  refine va_get (D := G) (ci := 10) (v := .ref la) (C := RX10) (T := TX10) (N := 8) hx hb hts inB10 hown hE.1 hP 0 rfl rfl 1 (by decide) (hts _ m_312) (fun _ h9 => h9) rfl dX10_takeFrom_12 ?_
  refine lv_aload_n hx hb dX10_takeFrom_15 rfl (lv_at hl 1 rfl) ?_
  refine va_get (D := G) (ci := 10) (v := .ref pla) (C := RX10) (T := TX10) (N := 8) hx hb hts inB10 hown hE.1 hP 19 rfl rfl 1 (by decide) (hts _ m_312) (fun _ h9 => h9) rfl dX10_takeFrom_16 ?_
  refine wVv (B := (fun _ => True)) (wr := [(lv, .inr (10, [.ref st, .ref la, .ref le, .ref ta, .ref wa, .ref wk, .int 0, .int 0])), (le, .inr (3, [.ref te, .ref ne, .ref mi, .int 0, .ref tr, .ref be, .int 0, .int 0, .int 0])), (te, .inl (cy 0, 7, .inl (fun _ => 0))), (ne, .inl (cy 0, 7, .inl (fun _ => 0))), (mi, .inl (cy 0, 7, .inl (fun _ => 0))), (ta, .inr (5, [.ref rta, .int 0])), (rta, .inl (cy 0, 48, .inl (fun _ => 0))), (wa, .inr (5, [.ref rwa, .int 0])), (rwa, .inl (cy 0, 24, .inl (fun _ => 0))), (plv, .inr (10, [.ref pst, .ref pla, .ref ple, .ref pta, .ref pwa, .ref pwk, .int 0, .int 0])), (ple, .inr (3, [.ref pte, .ref pne, .ref pmi, .int 0, .ref ptr, .ref pbe, .int 0, .int 0, .int 0])), (pte, .inl (cy 0, 7, .inl (fun _ => 0))), (pne, .inl (cy 0, 7, .inl (fun _ => 0))), (pmi, .inl (cy 0, 7, .inl (fun _ => 0))), (pta, .inr (5, [.ref prta, .int 0])), (prta, .inl (cy 0, 48, .inl (fun _ => 0))), (pwa, .inr (5, [.ref prwa, .int 0])), (prwa, .inl (cy 0, 24, .inl (fun _ => 0)))]) (rest := []) hx hb hml hown hts hE (c_X2_takeFrom l G cy sk H.size la ld sr tx vl f0 f1 f2 c0 c1 c2 k0 k1 k2 fl gt pla pld psr ptx pvl pf0 pf1 pf2 pc0 pc1 pc2 pk0 pk1 pk2 pfl pgt h0 h1 h2 h3 h4 h5) kV_X2_takeFrom m_1263 rfl rfl ⟨(Nat.le_of_ble_eq_true rfl), (Nat.le_of_ble_eq_true rfl)⟩ hP hD hS hA 1 rfl rfl rfl [1, 2, 3, 4, 5, 6, 7, 8, 9, 10, 20, 21, 22, 23, 24, 25, 26, 27, 28, 29] [0, 11, 12, 13, 14, 15, 16, 17, 18, 19, 30, 31, 32, 33, 34, 35, 36, 37] rfl rfl rfl rfl (by decide) rfl rfl hl.1 (Nat.le_of_ble_eq_true rfl) dX10_takeFrom_19 ⟨(Nat.le_of_ble_eq_true rfl), (Nat.le_of_ble_eq_true rfl)⟩ (fun H locs haf hS => ?_)
  obtain ⟨-, -, hP, hD⟩ := haf
  have hP : va_P G classes [(lv, .inr (10, [.ref st, .ref la, .ref le, .ref ta, .ref wa, .ref wk, .int 0, .int 0])), (le, .inr (3, [.ref te, .ref ne, .ref mi, .int 0, .ref tr, .ref be, .int 0, .int 0, .int 0])), (te, .inl (cy 0, 7, .inl (fun _ => 0))), (ne, .inl (cy 0, 7, .inl (fun _ => 0))), (mi, .inl (cy 0, 7, .inl (fun _ => 0))), (ta, .inr (5, [.ref rta, .int 0])), (rta, .inl (cy 0, 48, .inl (fun _ => 0))), (wa, .inr (5, [.ref rwa, .int 0])), (rwa, .inl (cy 0, 24, .inl (fun _ => 0))), (plv, .inr (10, [.ref pst, .ref pla, .ref ple, .ref pta, .ref pwa, .ref pwk, .int 0, .int 0])), (ple, .inr (3, [.ref pte, .ref pne, .ref pmi, .int 0, .ref ptr, .ref pbe, .int 0, .int 0, .int 0])), (pte, .inl (cy 0, 7, .inl (fun _ => 0))), (pne, .inl (cy 0, 7, .inl (fun _ => 0))), (pmi, .inl (cy 0, 7, .inl (fun _ => 0))), (pta, .inr (5, [.ref prta, .int 0])), (prta, .inl (cy 0, 48, .inl (fun _ => 0))), (pwa, .inr (5, [.ref prwa, .int 0])), (prwa, .inl (cy 0, 24, .inl (fun _ => 0)))] H := hP
  have hD : va_D A [(lv, .inr (10, [.ref st, .ref la, .ref le, .ref ta, .ref wa, .ref wk, .int 0, .int 0])), (le, .inr (3, [.ref te, .ref ne, .ref mi, .int 0, .ref tr, .ref be, .int 0, .int 0, .int 0])), (te, .inl (cy 0, 7, .inl (fun _ => 0))), (ne, .inl (cy 0, 7, .inl (fun _ => 0))), (mi, .inl (cy 0, 7, .inl (fun _ => 0))), (ta, .inr (5, [.ref rta, .int 0])), (rta, .inl (cy 0, 48, .inl (fun _ => 0))), (wa, .inr (5, [.ref rwa, .int 0])), (rwa, .inl (cy 0, 24, .inl (fun _ => 0))), (plv, .inr (10, [.ref pst, .ref pla, .ref ple, .ref pta, .ref pwa, .ref pwk, .int 0, .int 0])), (ple, .inr (3, [.ref pte, .ref pne, .ref pmi, .int 0, .ref ptr, .ref pbe, .int 0, .int 0, .int 0])), (pte, .inl (cy 0, 7, .inl (fun _ => 0))), (pne, .inl (cy 0, 7, .inl (fun _ => 0))), (pmi, .inl (cy 0, 7, .inl (fun _ => 0))), (pta, .inr (5, [.ref prta, .int 0])), (prta, .inl (cy 0, 48, .inl (fun _ => 0))), (pwa, .inr (5, [.ref prwa, .int 0])), (prwa, .inl (cy 0, 24, .inl (fun _ => 0)))] := hD
  refine lv_aload_n hx hb dX10_takeFrom_22 rfl (lv_at hl 0 rfl) ?_
  refine va_get (D := G) (ci := 10) (v := .ref le) (C := RX10) (T := TX10) (N := 8) hx hb hts inB10 hown hE.1 hP 0 rfl rfl 2 (by decide) (hts _ m_315) (fun _ h9 => h9) rfl dX10_takeFrom_23 ?_
  refine lv_aload_n hx hb dX10_takeFrom_26 rfl (lv_at hl 1 rfl) ?_
  refine va_get (D := G) (ci := 10) (v := .ref ple) (C := RX10) (T := TX10) (N := 8) hx hb hts inB10 hown hE.1 hP 9 rfl rfl 2 (by decide) (hts _ m_315) (fun _ h9 => h9) rfl dX10_takeFrom_27 ?_
  refine wVv (B := (fun _ => True)) (wr := [(lv, .inr (10, [.ref st, .ref la, .ref le, .ref ta, .ref wa, .ref wk, .int 0, .int 0])), (ta, .inr (5, [.ref rta, .int 0])), (rta, .inl (cy 0, 48, .inl (fun _ => 0))), (wa, .inr (5, [.ref rwa, .int 0])), (rwa, .inl (cy 0, 24, .inl (fun _ => 0))), (plv, .inr (10, [.ref pst, .ref pla, .ref ple, .ref pta, .ref pwa, .ref pwk, .int 0, .int 0])), (pta, .inr (5, [.ref prta, .int 0])), (prta, .inl (cy 0, 48, .inl (fun _ => 0))), (pwa, .inr (5, [.ref prwa, .int 0])), (prwa, .inl (cy 0, 24, .inl (fun _ => 0)))]) (rest := []) hx hb hml hown hts hE (c_X3_takeFrom l G cy sk H.size le te ne mi tr be 0 0 ple pte pne pmi ptr pbe 0 0) kV_X3_takeFrom m_1269 rfl rfl ⟨(Nat.le_of_ble_eq_true rfl), (Nat.le_of_ble_eq_true rfl)⟩ hP hD hS hA 1 rfl rfl rfl [1, 2, 3, 4, 10, 11, 12, 13] [0, 5, 6, 7, 8, 9, 14, 15, 16, 17] rfl rfl rfl rfl (by decide) rfl rfl hl.1 (Nat.le_of_ble_eq_true rfl) dX10_takeFrom_30 ⟨(Nat.le_of_ble_eq_true rfl), (Nat.le_of_ble_eq_true rfl)⟩ (fun H locs haf hS => ?_)
  obtain ⟨-, -, hP, hD⟩ := haf
  have hP : va_P G classes [(lv, .inr (10, [.ref st, .ref la, .ref le, .ref ta, .ref wa, .ref wk, .int 0, .int 0])), (ta, .inr (5, [.ref rta, .int 0])), (rta, .inl (cy 0, 48, .inl (fun _ => 0))), (wa, .inr (5, [.ref rwa, .int 0])), (rwa, .inl (cy 0, 24, .inl (fun _ => 0))), (plv, .inr (10, [.ref pst, .ref pla, .ref ple, .ref pta, .ref pwa, .ref pwk, .int 0, .int 0])), (pta, .inr (5, [.ref prta, .int 0])), (prta, .inl (cy 0, 48, .inl (fun _ => 0))), (pwa, .inr (5, [.ref prwa, .int 0])), (prwa, .inl (cy 0, 24, .inl (fun _ => 0)))] H := hP
  have hD : va_D A [(lv, .inr (10, [.ref st, .ref la, .ref le, .ref ta, .ref wa, .ref wk, .int 0, .int 0])), (ta, .inr (5, [.ref rta, .int 0])), (rta, .inl (cy 0, 48, .inl (fun _ => 0))), (wa, .inr (5, [.ref rwa, .int 0])), (rwa, .inl (cy 0, 24, .inl (fun _ => 0))), (plv, .inr (10, [.ref pst, .ref pla, .ref ple, .ref pta, .ref pwa, .ref pwk, .int 0, .int 0])), (pta, .inr (5, [.ref prta, .int 0])), (prta, .inl (cy 0, 48, .inl (fun _ => 0))), (pwa, .inr (5, [.ref prwa, .int 0])), (prwa, .inl (cy 0, 24, .inl (fun _ => 0)))] := hD
  refine lv_aload_n hx hb dX10_takeFrom_33 rfl (lv_at hl 0 rfl) ?_
  refine va_get (D := G) (ci := 10) (v := .ref ta) (C := RX10) (T := TX10) (N := 8) hx hb hts inB10 hown hE.1 hP 0 rfl rfl 3 (by decide) (hts _ m_317) (fun _ h9 => h9) rfl dX10_takeFrom_34 ?_
  refine lv_aload_n hx hb dX10_takeFrom_37 rfl (lv_at hl 1 rfl) ?_
  refine va_get (D := G) (ci := 10) (v := .ref pta) (C := RX10) (T := TX10) (N := 8) hx hb hts inB10 hown hE.1 hP 5 rfl rfl 3 (by decide) (hts _ m_317) (fun _ h9 => h9) rfl dX10_takeFrom_38 ?_
  refine wVv (B := (B_c_X5_takeFrom G cy (va_A [(ta, .inr (5, [.ref rta, .int 0])), (rta, .inl (cy 0, 48, .inl (fun _ => 0))), (pta, .inr (5, [.ref prta, .int 0]))] H.size) ta rta 48 (fun _ => 0) 0 pta prta)) (wr := [(lv, .inr (10, [.ref st, .ref la, .ref le, .ref ta, .ref wa, .ref wk, .int 0, .int 0])), (wa, .inr (5, [.ref rwa, .int 0])), (rwa, .inl (cy 0, 24, .inl (fun _ => 0))), (plv, .inr (10, [.ref pst, .ref pla, .ref ple, .ref pta, .ref pwa, .ref pwk, .int 0, .int 0])), (prta, .inl (cy 0, 48, .inl (fun _ => 0))), (pwa, .inr (5, [.ref prwa, .int 0])), (prwa, .inl (cy 0, 24, .inl (fun _ => 0)))]) (rest := []) hx hb hml hown hts hE (c_X5_takeFrom l G cy sk H.size ta rta 48 (fun _ => 0) 0 pta prta (by decide)) kV_X5_takeFrom m_1274 rfl rfl ⟨(Nat.le_of_ble_eq_true rfl), (Nat.le_of_ble_eq_true rfl)⟩ hP hD hS hA 1 rfl rfl rfl [1, 2, 6] [0, 3, 4, 5, 7, 8, 9] rfl rfl rfl rfl (by decide) rfl rfl hl.1 (Nat.le_of_ble_eq_true rfl) dX10_takeFrom_41 ⟨(Nat.le_of_ble_eq_true rfl), (Nat.le_of_ble_eq_true rfl)⟩ (fun H locs haf hS => ?_)
  obtain ⟨hP1, hD1⟩ := haf.1
  obtain ⟨hP, hD⟩ := haf.2.1 _ hP1 hD1
  have hP : va_P G classes [(lv, .inr (10, [.ref st, .ref la, .ref le, .ref ta, .ref wa, .ref wk, .int 0, .int 0])), (wa, .inr (5, [.ref rwa, .int 0])), (rwa, .inl (cy 0, 24, .inl (fun _ => 0))), (plv, .inr (10, [.ref pst, .ref pla, .ref ple, .ref pta, .ref pwa, .ref pwk, .int 0, .int 0])), (prta, .inl (cy 0, 48, .inl (fun _ => 0))), (pwa, .inr (5, [.ref prwa, .int 0])), (prwa, .inl (cy 0, 24, .inl (fun _ => 0))), (ta, .inr (5, [.ref rta, .int 0])), (pta, .inr (5, [.ref prta, .int 0]))] H := hP
  have hD : va_D A [(lv, .inr (10, [.ref st, .ref la, .ref le, .ref ta, .ref wa, .ref wk, .int 0, .int 0])), (wa, .inr (5, [.ref rwa, .int 0])), (rwa, .inl (cy 0, 24, .inl (fun _ => 0))), (plv, .inr (10, [.ref pst, .ref pla, .ref ple, .ref pta, .ref pwa, .ref pwk, .int 0, .int 0])), (prta, .inl (cy 0, 48, .inl (fun _ => 0))), (pwa, .inr (5, [.ref prwa, .int 0])), (prwa, .inl (cy 0, 24, .inl (fun _ => 0))), (ta, .inr (5, [.ref rta, .int 0])), (pta, .inr (5, [.ref prta, .int 0]))] := hD
  refine lv_aload_n hx hb dX10_takeFrom_44 rfl (lv_at hl 0 rfl) ?_
  refine va_get (D := G) (ci := 10) (v := .ref wa) (C := RX10) (T := TX10) (N := 8) hx hb hts inB10 hown hE.1 hP 0 rfl rfl 4 (by decide) (hts _ m_319) (fun _ h9 => h9) rfl dX10_takeFrom_45 ?_
  refine lv_aload_n hx hb dX10_takeFrom_48 rfl (lv_at hl 1 rfl) ?_
  refine va_get (D := G) (ci := 10) (v := .ref pwa) (C := RX10) (T := TX10) (N := 8) hx hb hts inB10 hown hE.1 hP 3 rfl rfl 4 (by decide) (hts _ m_319) (fun _ h9 => h9) rfl dX10_takeFrom_49 ?_
  refine wVv (B := (B_c_X5_takeFrom G cy (va_A [(wa, .inr (5, [.ref rwa, .int 0])), (rwa, .inl (cy 0, 24, .inl (fun _ => 0))), (pwa, .inr (5, [.ref prwa, .int 0]))] H.size) wa rwa 24 (fun _ => 0) 0 pwa prwa)) (wr := [(lv, .inr (10, [.ref st, .ref la, .ref le, .ref ta, .ref wa, .ref wk, .int 0, .int 0])), (plv, .inr (10, [.ref pst, .ref pla, .ref ple, .ref pta, .ref pwa, .ref pwk, .int 0, .int 0])), (prta, .inl (cy 0, 48, .inl (fun _ => 0))), (prwa, .inl (cy 0, 24, .inl (fun _ => 0))), (ta, .inr (5, [.ref rta, .int 0])), (pta, .inr (5, [.ref prta, .int 0]))]) (rest := []) hx hb hml hown hts hE (c_X5_takeFrom l G cy sk H.size wa rwa 24 (fun _ => 0) 0 pwa prwa (by decide)) kV_X5_takeFrom m_1274 rfl rfl ⟨(Nat.le_of_ble_eq_true rfl), (Nat.le_of_ble_eq_true rfl)⟩ hP hD hS hA 1 rfl rfl rfl [1, 2, 5] [0, 3, 4, 6, 7, 8] rfl rfl rfl rfl (by decide) rfl rfl hl.1 (Nat.le_of_ble_eq_true rfl) dX10_takeFrom_52 ⟨(Nat.le_of_ble_eq_true rfl), (Nat.le_of_ble_eq_true rfl)⟩ (fun H locs haf hS => ?_)
  obtain ⟨hP1, hD1⟩ := haf.1
  obtain ⟨hP, hD⟩ := haf.2.1 _ hP1 hD1
  have hP : va_P G classes [(lv, .inr (10, [.ref st, .ref la, .ref le, .ref ta, .ref wa, .ref wk, .int 0, .int 0])), (plv, .inr (10, [.ref pst, .ref pla, .ref ple, .ref pta, .ref pwa, .ref pwk, .int 0, .int 0])), (prta, .inl (cy 0, 48, .inl (fun _ => 0))), (prwa, .inl (cy 0, 24, .inl (fun _ => 0))), (ta, .inr (5, [.ref rta, .int 0])), (pta, .inr (5, [.ref prta, .int 0])), (wa, .inr (5, [.ref rwa, .int 0])), (pwa, .inr (5, [.ref prwa, .int 0]))] H := hP
  have hD : va_D A [(lv, .inr (10, [.ref st, .ref la, .ref le, .ref ta, .ref wa, .ref wk, .int 0, .int 0])), (plv, .inr (10, [.ref pst, .ref pla, .ref ple, .ref pta, .ref pwa, .ref pwk, .int 0, .int 0])), (prta, .inl (cy 0, 48, .inl (fun _ => 0))), (prwa, .inl (cy 0, 24, .inl (fun _ => 0))), (ta, .inr (5, [.ref rta, .int 0])), (pta, .inr (5, [.ref prta, .int 0])), (wa, .inr (5, [.ref rwa, .int 0])), (pwa, .inr (5, [.ref prwa, .int 0]))] := hD
  refine lv_aload_n hx hb dX10_takeFrom_55 rfl (lv_at hl 0 rfl) ?_
  refine lv_aload_n hx hb dX10_takeFrom_56 rfl (lv_at hl 1 rfl) ?_
  refine va_get (D := G) (ci := 10) (v := .int 0) (C := RX10) (T := TX10) (N := 8) hx hb hts inB10 hown hE.1 hP 1 rfl rfl 6 (by decide) (hts _ m_324) (fun _ h9 => h9) rfl dX10_takeFrom_57 ?_
  refine va_put (D := G) (ci := 10) (v := .int 0) (ty := .int) (C := RX10) (T := TX10) (N := 8) hx hb hts inB10 tyX10 tyX10_ok nmX10 hown hE.1 hP hD hS 0 rfl rfl 6 (by decide) (hts _ m_324) (fun _ h9 => h9) rfl (by decide +kernel) rfl rfl (Nat.le_of_ble_eq_true rfl) dX10_takeFrom_60 (fun H locs hP hD hS => ?_)
  have hP : va_P G classes [(lv, .inr (10, [.ref st, .ref la, .ref le, .ref ta, .ref wa, .ref wk, .int 0, .int 0])), (plv, .inr (10, [.ref pst, .ref pla, .ref ple, .ref pta, .ref pwa, .ref pwk, .int 0, .int 0])), (prta, .inl (cy 0, 48, .inl (fun _ => 0))), (prwa, .inl (cy 0, 24, .inl (fun _ => 0))), (ta, .inr (5, [.ref rta, .int 0])), (pta, .inr (5, [.ref prta, .int 0])), (wa, .inr (5, [.ref rwa, .int 0])), (pwa, .inr (5, [.ref prwa, .int 0]))] H := hP
  have hD : va_D A [(lv, .inr (10, [.ref st, .ref la, .ref le, .ref ta, .ref wa, .ref wk, .int 0, .int 0])), (plv, .inr (10, [.ref pst, .ref pla, .ref ple, .ref pta, .ref pwa, .ref pwk, .int 0, .int 0])), (prta, .inl (cy 0, 48, .inl (fun _ => 0))), (prwa, .inl (cy 0, 24, .inl (fun _ => 0))), (ta, .inr (5, [.ref rta, .int 0])), (pta, .inr (5, [.ref prta, .int 0])), (wa, .inr (5, [.ref rwa, .int 0])), (pwa, .inr (5, [.ref prwa, .int 0]))] := hD
  refine lv_aload_n hx hb dX10_takeFrom_63 rfl (lv_at hl 0 rfl) ?_
  refine lv_aload_n hx hb dX10_takeFrom_64 rfl (lv_at hl 1 rfl) ?_
  refine va_get (D := G) (ci := 10) (v := .int 0) (C := RX10) (T := TX10) (N := 8) hx hb hts inB10 hown hE.1 hP 1 rfl rfl 7 (by decide) (hts _ m_326) (fun _ h9 => h9) rfl dX10_takeFrom_65 ?_
  refine va_put (D := G) (ci := 10) (v := .int 0) (ty := .int) (C := RX10) (T := TX10) (N := 8) hx hb hts inB10 tyX10 tyX10_ok nmX10 hown hE.1 hP hD hS 0 rfl rfl 7 (by decide) (hts _ m_326) (fun _ h9 => h9) rfl (by decide +kernel) rfl rfl (Nat.le_of_ble_eq_true rfl) dX10_takeFrom_68 (fun H locs hP hD hS => ?_)
  have hP : va_P G classes [(lv, .inr (10, [.ref st, .ref la, .ref le, .ref ta, .ref wa, .ref wk, .int 0, .int 0])), (plv, .inr (10, [.ref pst, .ref pla, .ref ple, .ref pta, .ref pwa, .ref pwk, .int 0, .int 0])), (prta, .inl (cy 0, 48, .inl (fun _ => 0))), (prwa, .inl (cy 0, 24, .inl (fun _ => 0))), (ta, .inr (5, [.ref rta, .int 0])), (pta, .inr (5, [.ref prta, .int 0])), (wa, .inr (5, [.ref rwa, .int 0])), (pwa, .inr (5, [.ref prwa, .int 0]))] H := hP
  have hD : va_D A [(lv, .inr (10, [.ref st, .ref la, .ref le, .ref ta, .ref wa, .ref wk, .int 0, .int 0])), (plv, .inr (10, [.ref pst, .ref pla, .ref ple, .ref pta, .ref pwa, .ref pwk, .int 0, .int 0])), (prta, .inl (cy 0, 48, .inl (fun _ => 0))), (prwa, .inl (cy 0, 24, .inl (fun _ => 0))), (ta, .inr (5, [.ref rta, .int 0])), (pta, .inr (5, [.ref prta, .int 0])), (wa, .inr (5, [.ref rwa, .int 0])), (pwa, .inr (5, [.ref prwa, .int 0]))] := hD
  refine lv_iconst (v := 0) hx hb dX10_takeFrom_71 (by decide) ?_
  refine lv_istore_n (lv' := [(2, .int 0), (0, .ref lv), (1, .ref plv)]) hx hb dX10_takeFrom_72 rfl hl (by decide) rfl (fun ls hl => ?_)
  refine lv_iload_n hx hb dX10_takeFrom_73 rfl (lv_at hl 0 rfl) ?_
  refine lv_aload_n hx hb dX10_takeFrom_74 rfl (lv_at hl 1 rfl) ?_
  refine va_get (D := G) (ci := 10) (v := .int 0) (C := RX10) (T := TX10) (N := 8) hx hb hts inB10 hown hE.1 hP 0 rfl rfl 6 (by decide) (hts _ m_324) (fun _ h9 => h9) rfl dX10_takeFrom_75 ?_
  refine lv_icmp_ge (tgt := 108) hx hb dX10_takeFrom_78 (by decide) (fun _ => ?_) (fun h9 => absurd h9 (by decide))
  refine W.widen (k := 0) (n := 0) (by first | exact Nat.le_of_ble_eq_true rfl | omega) (by first | exact Nat.le_of_ble_eq_true rfl | omega) ?_
  exact W.vret hx hb hr (fun t ht hW => ⟨⟨(), rfl, trivial, trivial⟩, hS.F ht⟩) hS.2.2 dX10_takeFrom_108
end
