/-! words of the tables that are used, by their places; decode rows; fields -/
theorem li_m1000005 : ((-1000005) : Int32).toInt = -1000005 := by decide
theorem li_m1000004 : ((-1000004) : Int32).toInt = -1000004 := by decide
theorem li_m1000003 : ((-1000003) : Int32).toInt = -1000003 := by decide
theorem li_m1000002 : ((-1000002) : Int32).toInt = -1000002 := by decide
theorem li_m1000001 : ((-1000001) : Int32).toInt = -1000001 := by decide
theorem li_14 : (14 : Int32).toInt = 14 := by decide
theorem li_273 : (273 : Int32).toInt = 273 := by decide
theorem m_25 : Cond.selects yX12_finding.cls yX12_finding yX12_finding ∈ BASE := bmem 25 (by decide +kernel) rfl
theorem m_26 : Cond.selects yX12_isFree.cls yX12_isFree yX12_isFree ∈ BASE := bmem 26 (by decide +kernel) rfl
theorem m_30 : Cond.selects yX12_comes.cls yX12_comes yX12_comes ∈ BASE := bmem 30 (by decide +kernel) rfl
theorem m_31 : Cond.selects yX12_is.cls yX12_is yX12_is ∈ BASE := bmem 31 (by decide +kernel) rfl
theorem m_32 : Cond.selects yX12_become.cls yX12_become yX12_become ∈ BASE := bmem 32 (by decide +kernel) rfl
theorem m_33 : Cond.selects yX12_reach.cls yX12_reach yX12_reach ∈ BASE := bmem 33 (by decide +kernel) rfl
theorem m_34 : Cond.selects yX12_kindOf.cls yX12_kindOf yX12_kindOf ∈ BASE := bmem 34 (by decide +kernel) rfl
theorem m_35 : Cond.selects yX12_ears.cls yX12_ears yX12_ears ∈ BASE := bmem 35 (by decide +kernel) rfl
theorem m_1352 : Cond.fieldLink RX12 72 "ClickStreetModel" "widths" "[I" ∈ BASE := bmem 1352 (by decide +kernel) rfl
theorem m_1353 : Cond.fieldLink RX12 75 "ClickStreetModel" "sizes" "[I" ∈ BASE := bmem 1353 (by decide +kernel) rfl
theorem m_1354 : Cond.fieldLink RX12 78 "ClickStreetModel" "numbers" "[I" ∈ BASE := bmem 1354 (by decide +kernel) rfl
theorem m_1430 : Cond.methodLink RX12 99 yX12_isCell ∈ BASE := bmem 1430 (by decide +kernel) rfl
theorem m_1431 : Cond.static yX12_isCell ∈ BASE := bmem 1431 (by decide +kernel) rfl
theorem m_1432 : Cond.code yX12_isCell cX12_isCell 1 (some .boolean) ∈ BASE := bmem 1432 (by decide +kernel) rfl
theorem m_1433 : Cond.constant RX12 103 (-1000001) ∈ BASE := bmem 1433 (by decide +kernel) rfl
theorem m_1434 : Cond.methodLink RX12 104 yX12_finding ∈ BASE := bmem 1434 (by decide +kernel) rfl
theorem m_1436 : Cond.instanceMethod yX12_finding ∈ BASE := bmem 1436 (by decide +kernel) rfl
theorem m_1437 : Cond.code yX12_finding cX12_finding 2 (some .int) ∈ BASE := bmem 1437 (by decide +kernel) rfl
theorem m_1439 : Cond.methodLink RX12 107 yX12_isFree ∈ BASE := bmem 1439 (by decide +kernel) rfl
theorem m_1441 : Cond.instanceMethod yX12_isFree ∈ BASE := bmem 1441 (by decide +kernel) rfl
theorem m_1442 : Cond.code yX12_isFree cX12_isFree 2 (some .boolean) ∈ BASE := bmem 1442 (by decide +kernel) rfl
theorem m_1455 : Cond.constant RX12 110 (-1000003) ∈ BASE := bmem 1455 (by decide +kernel) rfl
theorem m_1456 : Cond.constant RX12 111 (-1000004) ∈ BASE := bmem 1456 (by decide +kernel) rfl
theorem m_1457 : Cond.methodLink RX12 112 yX12_comes ∈ BASE := bmem 1457 (by decide +kernel) rfl
theorem m_1459 : Cond.instanceMethod yX12_comes ∈ BASE := bmem 1459 (by decide +kernel) rfl
theorem m_1460 : Cond.code yX12_comes cX12_comes 4 (some .int) ∈ BASE := bmem 1460 (by decide +kernel) rfl
theorem m_1465 : Cond.methodLink RX12 116 yX12_is ∈ BASE := bmem 1465 (by decide +kernel) rfl
theorem m_1467 : Cond.instanceMethod yX12_is ∈ BASE := bmem 1467 (by decide +kernel) rfl
theorem m_1468 : Cond.code yX12_is cX12_is 3 (some .boolean) ∈ BASE := bmem 1468 (by decide +kernel) rfl
theorem m_1473 : Cond.methodLink RX12 120 yX12_isSide ∈ BASE := bmem 1473 (by decide +kernel) rfl
theorem m_1474 : Cond.static yX12_isSide ∈ BASE := bmem 1474 (by decide +kernel) rfl
theorem m_1475 : Cond.code yX12_isSide cX12_isSide 1 (some .boolean) ∈ BASE := bmem 1475 (by decide +kernel) rfl
theorem m_1476 : Cond.constant RX12 123 (-1000005) ∈ BASE := bmem 1476 (by decide +kernel) rfl
theorem m_1481 : Cond.methodLink RX12 124 yX12_become ∈ BASE := bmem 1481 (by decide +kernel) rfl
theorem m_1483 : Cond.instanceMethod yX12_become ∈ BASE := bmem 1483 (by decide +kernel) rfl
theorem m_1484 : Cond.code yX12_become cX12_become 4 (some .int) ∈ BASE := bmem 1484 (by decide +kernel) rfl
theorem m_1497 : Cond.methodLink RX12 127 yX12_isSheet ∈ BASE := bmem 1497 (by decide +kernel) rfl
theorem m_1498 : Cond.static yX12_isSheet ∈ BASE := bmem 1498 (by decide +kernel) rfl
theorem m_1499 : Cond.code yX12_isSheet cX12_isSheet 1 (some .boolean) ∈ BASE := bmem 1499 (by decide +kernel) rfl
theorem m_1500 : Cond.constant RX12 130 (-1000002) ∈ BASE := bmem 1500 (by decide +kernel) rfl
theorem m_1513 : Cond.methodLink RX12 140 yX12_reach ∈ BASE := bmem 1513 (by decide +kernel) rfl
theorem m_1515 : Cond.instanceMethod yX12_reach ∈ BASE := bmem 1515 (by decide +kernel) rfl
theorem m_1516 : Cond.code yX12_reach cX12_reach 2 (some .int) ∈ BASE := bmem 1516 (by decide +kernel) rfl
theorem m_1517 : Cond.methodLink RX12 137 yX12_kindOf ∈ BASE := bmem 1517 (by decide +kernel) rfl
theorem m_1519 : Cond.instanceMethod yX12_kindOf ∈ BASE := bmem 1519 (by decide +kernel) rfl
theorem m_1520 : Cond.code yX12_kindOf cX12_kindOf 2 (some .int) ∈ BASE := bmem 1520 (by decide +kernel) rfl
theorem m_1521 : Cond.methodLink RX12 134 yX12_reachOf ∈ BASE := bmem 1521 (by decide +kernel) rfl
theorem m_1522 : Cond.static yX12_reachOf ∈ BASE := bmem 1522 (by decide +kernel) rfl
theorem m_1523 : Cond.code yX12_reachOf cX12_reachOf 1 (some .int) ∈ BASE := bmem 1523 (by decide +kernel) rfl
theorem m_1524 : Cond.methodLink RX12 143 yX12_ears ∈ BASE := bmem 1524 (by decide +kernel) rfl
theorem m_1526 : Cond.instanceMethod yX12_ears ∈ BASE := bmem 1526 (by decide +kernel) rfl
theorem m_1527 : Cond.code yX12_ears cX12_ears 2 (some .int) ∈ BASE := bmem 1527 (by decide +kernel) rfl
theorem m_1532 : Cond.methodLink RX12 146 yX12_isUnder ∈ BASE := bmem 1532 (by decide +kernel) rfl
theorem m_1533 : Cond.static yX12_isUnder ∈ BASE := bmem 1533 (by decide +kernel) rfl
theorem m_1534 : Cond.code yX12_isUnder cX12_isUnder 3 (some .boolean) ∈ BASE := bmem 1534 (by decide +kernel) rfl
theorem m_1535 : Cond.methodLink RX12 131 yX12_above ∈ BASE := bmem 1535 (by decide +kernel) rfl
theorem m_1536 : Cond.static yX12_above ∈ BASE := bmem 1536 (by decide +kernel) rfl
theorem m_1537 : Cond.code yX12_above cX12_above 1 (some .int) ∈ BASE := bmem 1537 (by decide +kernel) rfl
theorem m_1554 : Cond.constantLong RX12 149 (255) ∈ BASE := bmem 1554 (by decide +kernel) rfl
theorem kS_X12_above : KS yX12_above cX12_above 1 (some .int) 1 := ⟨m_1536, m_92, m_1537, by decide +kernel, by decide +kernel, by decide +kernel⟩
theorem kS_X12_isCell : KS yX12_isCell cX12_isCell 1 (some .boolean) 1 := ⟨m_1431, m_92, m_1432, by decide +kernel, by decide +kernel, by decide +kernel⟩
theorem kS_X12_isSheet : KS yX12_isSheet cX12_isSheet 1 (some .boolean) 1 := ⟨m_1498, m_92, m_1499, by decide +kernel, by decide +kernel, by decide +kernel⟩
theorem kS_X12_isSide : KS yX12_isSide cX12_isSide 1 (some .boolean) 1 := ⟨m_1474, m_92, m_1475, by decide +kernel, by decide +kernel, by decide +kernel⟩
theorem kS_X12_isUnder : KS yX12_isUnder cX12_isUnder 3 (some .boolean) 2 := ⟨m_1533, m_92, m_1534, by decide +kernel, by decide +kernel, by decide +kernel⟩
theorem kS_X12_reachOf : KS yX12_reachOf cX12_reachOf 1 (some .int) 1 := ⟨m_1522, m_92, m_1523, by decide +kernel, by decide +kernel, by decide +kernel⟩
theorem kV_X12_become : KV yX12_become cX12_become 4 (some .int) 2 := ⟨m_1483, m_32, m_92, m_1484, by decide +kernel, by decide +kernel, by decide +kernel⟩
theorem kV_X12_comes : KV yX12_comes cX12_comes 4 (some .int) 2 := ⟨m_1459, m_30, m_92, m_1460, by decide +kernel, by decide +kernel, by decide +kernel⟩
theorem kV_X12_ears : KV yX12_ears cX12_ears 2 (some .int) 1 := ⟨m_1526, m_35, m_92, m_1527, by decide +kernel, by decide +kernel, by decide +kernel⟩
theorem kV_X12_finding : KV yX12_finding cX12_finding 2 (some .int) 1 := ⟨m_1436, m_25, m_92, m_1437, by decide +kernel, by decide +kernel, by decide +kernel⟩
theorem kV_X12_is : KV yX12_is cX12_is 3 (some .boolean) 2 := ⟨m_1467, m_31, m_92, m_1468, by decide +kernel, by decide +kernel, by decide +kernel⟩
theorem kV_X12_isFree : KV yX12_isFree cX12_isFree 2 (some .boolean) 1 := ⟨m_1441, m_26, m_92, m_1442, by decide +kernel, by decide +kernel, by decide +kernel⟩
theorem kV_X12_kindOf : KV yX12_kindOf cX12_kindOf 2 (some .int) 1 := ⟨m_1519, m_34, m_92, m_1520, by decide +kernel, by decide +kernel, by decide +kernel⟩
theorem kV_X12_reach : KV yX12_reach cX12_reach 2 (some .int) 1 := ⟨m_1515, m_33, m_92, m_1516, by decide +kernel, by decide +kernel, by decide +kernel⟩
theorem fl_RX12_72 : FLK RX12 72 12 29 (.array .int) true := ⟨RX12, TX12, 33, tyX12, rfl, inB12, tyX12_ok, nmX12, by decide, rfl, rfl, Or.inl m_1352⟩
theorem fl_RX12_75 : FLK RX12 75 12 30 (.array .int) true := ⟨RX12, TX12, 33, tyX12, rfl, inB12, tyX12_ok, nmX12, by decide, rfl, rfl, Or.inl m_1353⟩
theorem fl_RX12_78 : FLK RX12 78 12 31 (.array .int) true := ⟨RX12, TX12, 33, tyX12, rfl, inB12, tyX12_ok, nmX12, by decide, rfl, rfl, Or.inl m_1354⟩
theorem ch_cX12_air_0 : (cX12_air.data.toList.drop 0).take 36 = [27, 154, 0, 13, 28, 3, 16, 99, 184, 0, 85, 167, 0, 37, 27, 4, 160, 0, 13, 28, 3, 16, 90, 184, 0, 85, 167, 0, 22, 27, 5, 160, 0, 16, 28, 3] := by decide +kernel
theorem dX12_air_0 : decode cX12_air 0 = .ok (.iload_n 1, 1) := do_27 (rdb (p := 0) (i := 0) ch_cX12_air_0 rfl)
theorem dX12_air_1 : decode cX12_air 1 = .ok (.ifCond .ne 13, 3) := do_154 (rdb (p := 0) (i := 1) ch_cX12_air_0 rfl) (rdb (p := 0) (i := 2) ch_cX12_air_0 rfl) (rdb (p := 0) (i := 3) ch_cX12_air_0 rfl) (by decide +kernel)
theorem dX12_air_4 : decode cX12_air 4 = .ok (.iload_n 2, 1) := do_28 (rdb (p := 0) (i := 4) ch_cX12_air_0 rfl)
theorem dX12_air_5 : decode cX12_air 5 = .ok (.iconst 0, 1) := do_3 (rdb (p := 0) (i := 5) ch_cX12_air_0 rfl)
theorem dX12_air_6 : decode cX12_air 6 = .ok (.bipush 99, 2) := do_16 (rdb (p := 0) (i := 6) ch_cX12_air_0 rfl) (rdb (p := 0) (i := 7) ch_cX12_air_0 rfl) (by decide +kernel)
theorem dX12_air_8 : decode cX12_air 8 = .ok (.invokestatic 85, 3) := do_184 (rdb (p := 0) (i := 8) ch_cX12_air_0 rfl) (rdb (p := 0) (i := 9) ch_cX12_air_0 rfl) (rdb (p := 0) (i := 10) ch_cX12_air_0 rfl) rfl
theorem dX12_air_11 : decode cX12_air 11 = .ok (.goto 37, 3) := do_167 (rdb (p := 0) (i := 11) ch_cX12_air_0 rfl) (rdb (p := 0) (i := 12) ch_cX12_air_0 rfl) (rdb (p := 0) (i := 13) ch_cX12_air_0 rfl) (by decide +kernel)
theorem dX12_air_14 : decode cX12_air 14 = .ok (.iload_n 1, 1) := do_27 (rdb (p := 0) (i := 14) ch_cX12_air_0 rfl)
theorem dX12_air_15 : decode cX12_air 15 = .ok (.iconst 1, 1) := do_4 (rdb (p := 0) (i := 15) ch_cX12_air_0 rfl)
theorem dX12_air_16 : decode cX12_air 16 = .ok (.if_icmp .ne 13, 3) := do_160 (rdb (p := 0) (i := 16) ch_cX12_air_0 rfl) (rdb (p := 0) (i := 17) ch_cX12_air_0 rfl) (rdb (p := 0) (i := 18) ch_cX12_air_0 rfl) (by decide +kernel)
theorem dX12_air_19 : decode cX12_air 19 = .ok (.iload_n 2, 1) := do_28 (rdb (p := 0) (i := 19) ch_cX12_air_0 rfl)
theorem dX12_air_20 : decode cX12_air 20 = .ok (.iconst 0, 1) := do_3 (rdb (p := 0) (i := 20) ch_cX12_air_0 rfl)
theorem dX12_air_21 : decode cX12_air 21 = .ok (.bipush 90, 2) := do_16 (rdb (p := 0) (i := 21) ch_cX12_air_0 rfl) (rdb (p := 0) (i := 22) ch_cX12_air_0 rfl) (by decide +kernel)
theorem dX12_air_23 : decode cX12_air 23 = .ok (.invokestatic 85, 3) := do_184 (rdb (p := 0) (i := 23) ch_cX12_air_0 rfl) (rdb (p := 0) (i := 24) ch_cX12_air_0 rfl) (rdb (p := 0) (i := 25) ch_cX12_air_0 rfl) rfl
theorem dX12_air_26 : decode cX12_air 26 = .ok (.goto 22, 3) := do_167 (rdb (p := 0) (i := 26) ch_cX12_air_0 rfl) (rdb (p := 0) (i := 27) ch_cX12_air_0 rfl) (rdb (p := 0) (i := 28) ch_cX12_air_0 rfl) (by decide +kernel)
theorem dX12_air_29 : decode cX12_air 29 = .ok (.iload_n 1, 1) := do_27 (rdb (p := 0) (i := 29) ch_cX12_air_0 rfl)
theorem dX12_air_30 : decode cX12_air 30 = .ok (.iconst 2, 1) := do_5 (rdb (p := 0) (i := 30) ch_cX12_air_0 rfl)
theorem dX12_air_31 : decode cX12_air 31 = .ok (.if_icmp .ne 16, 3) := do_160 (rdb (p := 0) (i := 31) ch_cX12_air_0 rfl) (rdb (p := 0) (i := 32) ch_cX12_air_0 rfl) (rdb (p := 0) (i := 33) ch_cX12_air_0 rfl) (by decide +kernel)
theorem ch_cX12_air_32 : (cX12_air.data.toList.drop 32).take 36 = [0, 16, 28, 3, 4, 184, 0, 85, 153, 0, 7, 4, 167, 0, 4, 3, 62, 29, 153, 0, 15, 42, 16, 6, 27, 96, 28, 182, 0, 124, 167, 0, 9, 42, 18, 103] := by decide +kernel
theorem dX12_air_34 : decode cX12_air 34 = .ok (.iload_n 2, 1) := do_28 (rdb (p := 32) (i := 2) ch_cX12_air_32 rfl)
theorem dX12_air_35 : decode cX12_air 35 = .ok (.iconst 0, 1) := do_3 (rdb (p := 32) (i := 3) ch_cX12_air_32 rfl)
theorem dX12_air_36 : decode cX12_air 36 = .ok (.iconst 1, 1) := do_4 (rdb (p := 32) (i := 4) ch_cX12_air_32 rfl)
theorem dX12_air_37 : decode cX12_air 37 = .ok (.invokestatic 85, 3) := do_184 (rdb (p := 32) (i := 5) ch_cX12_air_32 rfl) (rdb (p := 32) (i := 6) ch_cX12_air_32 rfl) (rdb (p := 32) (i := 7) ch_cX12_air_32 rfl) rfl
theorem dX12_air_40 : decode cX12_air 40 = .ok (.ifCond .eq 7, 3) := do_153 (rdb (p := 32) (i := 8) ch_cX12_air_32 rfl) (rdb (p := 32) (i := 9) ch_cX12_air_32 rfl) (rdb (p := 32) (i := 10) ch_cX12_air_32 rfl) (by decide +kernel)
theorem dX12_air_43 : decode cX12_air 43 = .ok (.iconst 1, 1) := do_4 (rdb (p := 32) (i := 11) ch_cX12_air_32 rfl)
theorem dX12_air_44 : decode cX12_air 44 = .ok (.goto 4, 3) := do_167 (rdb (p := 32) (i := 12) ch_cX12_air_32 rfl) (rdb (p := 32) (i := 13) ch_cX12_air_32 rfl) (rdb (p := 32) (i := 14) ch_cX12_air_32 rfl) (by decide +kernel)
theorem dX12_air_47 : decode cX12_air 47 = .ok (.iconst 0, 1) := do_3 (rdb (p := 32) (i := 15) ch_cX12_air_32 rfl)
theorem dX12_air_48 : decode cX12_air 48 = .ok (.istore_n 3, 1) := do_62 (rdb (p := 32) (i := 16) ch_cX12_air_32 rfl)
theorem dX12_air_49 : decode cX12_air 49 = .ok (.iload_n 3, 1) := do_29 (rdb (p := 32) (i := 17) ch_cX12_air_32 rfl)
theorem dX12_air_50 : decode cX12_air 50 = .ok (.ifCond .eq 15, 3) := do_153 (rdb (p := 32) (i := 18) ch_cX12_air_32 rfl) (rdb (p := 32) (i := 19) ch_cX12_air_32 rfl) (rdb (p := 32) (i := 20) ch_cX12_air_32 rfl) (by decide +kernel)
theorem dX12_air_53 : decode cX12_air 53 = .ok (.aload_n 0, 1) := do_42 (rdb (p := 32) (i := 21) ch_cX12_air_32 rfl)
theorem dX12_air_54 : decode cX12_air 54 = .ok (.bipush 6, 2) := do_16 (rdb (p := 32) (i := 22) ch_cX12_air_32 rfl) (rdb (p := 32) (i := 23) ch_cX12_air_32 rfl) (by decide +kernel)
theorem dX12_air_56 : decode cX12_air 56 = .ok (.iload_n 1, 1) := do_27 (rdb (p := 32) (i := 24) ch_cX12_air_32 rfl)
theorem dX12_air_57 : decode cX12_air 57 = .ok (.iadd, 1) := do_96 (rdb (p := 32) (i := 25) ch_cX12_air_32 rfl)
theorem dX12_air_58 : decode cX12_air 58 = .ok (.iload_n 2, 1) := do_28 (rdb (p := 32) (i := 26) ch_cX12_air_32 rfl)
theorem dX12_air_59 : decode cX12_air 59 = .ok (.invokevirtual 124, 3) := do_182 (rdb (p := 32) (i := 27) ch_cX12_air_32 rfl) (rdb (p := 32) (i := 28) ch_cX12_air_32 rfl) (rdb (p := 32) (i := 29) ch_cX12_air_32 rfl) rfl
theorem dX12_air_62 : decode cX12_air 62 = .ok (.goto 9, 3) := do_167 (rdb (p := 32) (i := 30) ch_cX12_air_32 rfl) (rdb (p := 32) (i := 31) ch_cX12_air_32 rfl) (rdb (p := 32) (i := 32) ch_cX12_air_32 rfl) (by decide +kernel)
theorem ch_cX12_air_64 : (cX12_air.data.toList.drop 64).take 36 = [9, 42, 18, 103, 182, 0, 104, 172] := by decide +kernel
theorem dX12_air_65 : decode cX12_air 65 = .ok (.aload_n 0, 1) := do_42 (rdb (p := 64) (i := 1) ch_cX12_air_64 rfl)
theorem dX12_air_66 : decode cX12_air 66 = .ok (.ldc 103, 2) := do_18 (rdb (p := 64) (i := 2) ch_cX12_air_64 rfl) (rdb (p := 64) (i := 3) ch_cX12_air_64 rfl)
theorem dX12_air_68 : decode cX12_air 68 = .ok (.invokevirtual 104, 3) := do_182 (rdb (p := 64) (i := 4) ch_cX12_air_64 rfl) (rdb (p := 64) (i := 5) ch_cX12_air_64 rfl) (rdb (p := 64) (i := 6) ch_cX12_air_64 rfl) rfl
theorem dX12_air_71 : decode cX12_air 71 = .ok (.ireturn, 1) := do_172 (rdb (p := 64) (i := 7) ch_cX12_air_64 rfl)
theorem ch_cX12_as_0 : (cX12_as.data.toList.drop 0).take 36 = [42, 27, 5, 182, 0, 116, 153, 0, 13, 28, 3, 16, 7, 184, 0, 85, 154, 0, 10, 42, 18, 103, 182, 0, 104, 172, 42, 27, 182, 0, 137, 28, 184, 0, 146, 153] := by decide +kernel
theorem dX12_as_0 : decode cX12_as 0 = .ok (.aload_n 0, 1) := do_42 (rdb (p := 0) (i := 0) ch_cX12_as_0 rfl)
theorem dX12_as_1 : decode cX12_as 1 = .ok (.iload_n 1, 1) := do_27 (rdb (p := 0) (i := 1) ch_cX12_as_0 rfl)
theorem dX12_as_2 : decode cX12_as 2 = .ok (.iconst 2, 1) := do_5 (rdb (p := 0) (i := 2) ch_cX12_as_0 rfl)
theorem dX12_as_3 : decode cX12_as 3 = .ok (.invokevirtual 116, 3) := do_182 (rdb (p := 0) (i := 3) ch_cX12_as_0 rfl) (rdb (p := 0) (i := 4) ch_cX12_as_0 rfl) (rdb (p := 0) (i := 5) ch_cX12_as_0 rfl) rfl
theorem dX12_as_6 : decode cX12_as 6 = .ok (.ifCond .eq 13, 3) := do_153 (rdb (p := 0) (i := 6) ch_cX12_as_0 rfl) (rdb (p := 0) (i := 7) ch_cX12_as_0 rfl) (rdb (p := 0) (i := 8) ch_cX12_as_0 rfl) (by decide +kernel)
theorem dX12_as_9 : decode cX12_as 9 = .ok (.iload_n 2, 1) := do_28 (rdb (p := 0) (i := 9) ch_cX12_as_0 rfl)
theorem dX12_as_10 : decode cX12_as 10 = .ok (.iconst 0, 1) := do_3 (rdb (p := 0) (i := 10) ch_cX12_as_0 rfl)
theorem dX12_as_11 : decode cX12_as 11 = .ok (.bipush 7, 2) := do_16 (rdb (p := 0) (i := 11) ch_cX12_as_0 rfl) (rdb (p := 0) (i := 12) ch_cX12_as_0 rfl) (by decide +kernel)
theorem dX12_as_13 : decode cX12_as 13 = .ok (.invokestatic 85, 3) := do_184 (rdb (p := 0) (i := 13) ch_cX12_as_0 rfl) (rdb (p := 0) (i := 14) ch_cX12_as_0 rfl) (rdb (p := 0) (i := 15) ch_cX12_as_0 rfl) rfl
theorem dX12_as_16 : decode cX12_as 16 = .ok (.ifCond .ne 10, 3) := do_154 (rdb (p := 0) (i := 16) ch_cX12_as_0 rfl) (rdb (p := 0) (i := 17) ch_cX12_as_0 rfl) (rdb (p := 0) (i := 18) ch_cX12_as_0 rfl) (by decide +kernel)
theorem dX12_as_19 : decode cX12_as 19 = .ok (.aload_n 0, 1) := do_42 (rdb (p := 0) (i := 19) ch_cX12_as_0 rfl)
theorem dX12_as_20 : decode cX12_as 20 = .ok (.ldc 103, 2) := do_18 (rdb (p := 0) (i := 20) ch_cX12_as_0 rfl) (rdb (p := 0) (i := 21) ch_cX12_as_0 rfl)
theorem dX12_as_22 : decode cX12_as 22 = .ok (.invokevirtual 104, 3) := do_182 (rdb (p := 0) (i := 22) ch_cX12_as_0 rfl) (rdb (p := 0) (i := 23) ch_cX12_as_0 rfl) (rdb (p := 0) (i := 24) ch_cX12_as_0 rfl) rfl
theorem dX12_as_25 : decode cX12_as 25 = .ok (.ireturn, 1) := do_172 (rdb (p := 0) (i := 25) ch_cX12_as_0 rfl)
theorem dX12_as_26 : decode cX12_as 26 = .ok (.aload_n 0, 1) := do_42 (rdb (p := 0) (i := 26) ch_cX12_as_0 rfl)
theorem dX12_as_27 : decode cX12_as 27 = .ok (.iload_n 1, 1) := do_27 (rdb (p := 0) (i := 27) ch_cX12_as_0 rfl)
theorem dX12_as_28 : decode cX12_as 28 = .ok (.invokevirtual 137, 3) := do_182 (rdb (p := 0) (i := 28) ch_cX12_as_0 rfl) (rdb (p := 0) (i := 29) ch_cX12_as_0 rfl) (rdb (p := 0) (i := 30) ch_cX12_as_0 rfl) rfl
theorem dX12_as_31 : decode cX12_as 31 = .ok (.iload_n 2, 1) := do_28 (rdb (p := 0) (i := 31) ch_cX12_as_0 rfl)
theorem ch_cX12_as_32 : (cX12_as.data.toList.drop 32).take 36 = [184, 0, 146, 153, 0, 11, 42, 27, 182, 0, 140, 167, 0, 9, 42, 18, 123, 182, 0, 104, 172] := by decide +kernel
theorem dX12_as_32 : decode cX12_as 32 = .ok (.invokestatic 146, 3) := do_184 (rdb (p := 32) (i := 0) ch_cX12_as_32 rfl) (rdb (p := 32) (i := 1) ch_cX12_as_32 rfl) (rdb (p := 32) (i := 2) ch_cX12_as_32 rfl) rfl
theorem dX12_as_35 : decode cX12_as 35 = .ok (.ifCond .eq 11, 3) := do_153 (rdb (p := 32) (i := 3) ch_cX12_as_32 rfl) (rdb (p := 32) (i := 4) ch_cX12_as_32 rfl) (rdb (p := 32) (i := 5) ch_cX12_as_32 rfl) (by decide +kernel)
theorem dX12_as_38 : decode cX12_as 38 = .ok (.aload_n 0, 1) := do_42 (rdb (p := 32) (i := 6) ch_cX12_as_32 rfl)
theorem dX12_as_39 : decode cX12_as 39 = .ok (.iload_n 1, 1) := do_27 (rdb (p := 32) (i := 7) ch_cX12_as_32 rfl)
theorem dX12_as_40 : decode cX12_as 40 = .ok (.invokevirtual 140, 3) := do_182 (rdb (p := 32) (i := 8) ch_cX12_as_32 rfl) (rdb (p := 32) (i := 9) ch_cX12_as_32 rfl) (rdb (p := 32) (i := 10) ch_cX12_as_32 rfl) rfl
theorem dX12_as_43 : decode cX12_as 43 = .ok (.goto 9, 3) := do_167 (rdb (p := 32) (i := 11) ch_cX12_as_32 rfl) (rdb (p := 32) (i := 12) ch_cX12_as_32 rfl) (rdb (p := 32) (i := 13) ch_cX12_as_32 rfl) (by decide +kernel)
theorem dX12_as_46 : decode cX12_as 46 = .ok (.aload_n 0, 1) := do_42 (rdb (p := 32) (i := 14) ch_cX12_as_32 rfl)
theorem dX12_as_47 : decode cX12_as 47 = .ok (.ldc 123, 2) := do_18 (rdb (p := 32) (i := 15) ch_cX12_as_32 rfl) (rdb (p := 32) (i := 16) ch_cX12_as_32 rfl)
theorem dX12_as_49 : decode cX12_as 49 = .ok (.invokevirtual 104, 3) := do_182 (rdb (p := 32) (i := 17) ch_cX12_as_32 rfl) (rdb (p := 32) (i := 18) ch_cX12_as_32 rfl) (rdb (p := 32) (i := 19) ch_cX12_as_32 rfl) rfl
theorem dX12_as_52 : decode cX12_as 52 = .ok (.ireturn, 1) := do_172 (rdb (p := 32) (i := 20) ch_cX12_as_32 rfl)
theorem dX12_at_0 : decode cX12_at 0 = .ok (.iload_n 1, 1) := by decide +kernel
theorem dX12_at_1 : decode cX12_at 1 = .ok (.invokestatic 99, 3) := by decide +kernel
theorem dX12_at_4 : decode cX12_at 4 = .ok (.ifCond .eq 11, 3) := by decide +kernel
theorem dX12_at_7 : decode cX12_at 7 = .ok (.aload_n 0, 1) := by decide +kernel
theorem dX12_at_8 : decode cX12_at 8 = .ok (.iload_n 1, 1) := by decide +kernel
theorem dX12_at_9 : decode cX12_at 9 = .ok (.invokevirtual 96, 3) := by decide +kernel
theorem dX12_at_12 : decode cX12_at 12 = .ok (.goto 9, 3) := by decide +kernel
theorem dX12_at_15 : decode cX12_at 15 = .ok (.aload_n 0, 1) := by decide +kernel
theorem dX12_at_16 : decode cX12_at 16 = .ok (.ldc 103, 2) := by decide +kernel
theorem dX12_at_18 : decode cX12_at 18 = .ok (.invokevirtual 104, 3) := by decide +kernel
theorem dX12_at_21 : decode cX12_at 21 = .ok (.ireturn, 1) := by decide +kernel
theorem ch_cX12_away_0 : (cX12_away.data.toList.drop 0).take 36 = [42, 27, 4, 182, 0, 116, 154, 0, 10, 42, 18, 103, 182, 0, 104, 172, 42, 180, 0, 9, 42, 27, 182, 0, 89, 4, 96, 46, 156, 0, 12, 42, 18, 110, 182, 0] := by decide +kernel
theorem dX12_away_0 : decode cX12_away 0 = .ok (.aload_n 0, 1) := do_42 (rdb (p := 0) (i := 0) ch_cX12_away_0 rfl)
theorem dX12_away_1 : decode cX12_away 1 = .ok (.iload_n 1, 1) := do_27 (rdb (p := 0) (i := 1) ch_cX12_away_0 rfl)
theorem dX12_away_2 : decode cX12_away 2 = .ok (.iconst 1, 1) := do_4 (rdb (p := 0) (i := 2) ch_cX12_away_0 rfl)
theorem dX12_away_3 : decode cX12_away 3 = .ok (.invokevirtual 116, 3) := do_182 (rdb (p := 0) (i := 3) ch_cX12_away_0 rfl) (rdb (p := 0) (i := 4) ch_cX12_away_0 rfl) (rdb (p := 0) (i := 5) ch_cX12_away_0 rfl) rfl
theorem dX12_away_6 : decode cX12_away 6 = .ok (.ifCond .ne 10, 3) := do_154 (rdb (p := 0) (i := 6) ch_cX12_away_0 rfl) (rdb (p := 0) (i := 7) ch_cX12_away_0 rfl) (rdb (p := 0) (i := 8) ch_cX12_away_0 rfl) (by decide +kernel)
theorem dX12_away_9 : decode cX12_away 9 = .ok (.aload_n 0, 1) := do_42 (rdb (p := 0) (i := 9) ch_cX12_away_0 rfl)
theorem dX12_away_10 : decode cX12_away 10 = .ok (.ldc 103, 2) := do_18 (rdb (p := 0) (i := 10) ch_cX12_away_0 rfl) (rdb (p := 0) (i := 11) ch_cX12_away_0 rfl)
theorem dX12_away_12 : decode cX12_away 12 = .ok (.invokevirtual 104, 3) := do_182 (rdb (p := 0) (i := 12) ch_cX12_away_0 rfl) (rdb (p := 0) (i := 13) ch_cX12_away_0 rfl) (rdb (p := 0) (i := 14) ch_cX12_away_0 rfl) rfl
theorem dX12_away_15 : decode cX12_away 15 = .ok (.ireturn, 1) := do_172 (rdb (p := 0) (i := 15) ch_cX12_away_0 rfl)
theorem dX12_away_16 : decode cX12_away 16 = .ok (.aload_n 0, 1) := do_42 (rdb (p := 0) (i := 16) ch_cX12_away_0 rfl)
theorem dX12_away_17 : decode cX12_away 17 = .ok (.getfield 9, 3) := do_180 (rdb (p := 0) (i := 17) ch_cX12_away_0 rfl) (rdb (p := 0) (i := 18) ch_cX12_away_0 rfl) (rdb (p := 0) (i := 19) ch_cX12_away_0 rfl) rfl
theorem dX12_away_20 : decode cX12_away 20 = .ok (.aload_n 0, 1) := do_42 (rdb (p := 0) (i := 20) ch_cX12_away_0 rfl)
theorem dX12_away_21 : decode cX12_away 21 = .ok (.iload_n 1, 1) := do_27 (rdb (p := 0) (i := 21) ch_cX12_away_0 rfl)
theorem dX12_away_22 : decode cX12_away 22 = .ok (.invokevirtual 89, 3) := do_182 (rdb (p := 0) (i := 22) ch_cX12_away_0 rfl) (rdb (p := 0) (i := 23) ch_cX12_away_0 rfl) (rdb (p := 0) (i := 24) ch_cX12_away_0 rfl) rfl
theorem dX12_away_25 : decode cX12_away 25 = .ok (.iconst 1, 1) := do_4 (rdb (p := 0) (i := 25) ch_cX12_away_0 rfl)
theorem dX12_away_26 : decode cX12_away 26 = .ok (.iadd, 1) := do_96 (rdb (p := 0) (i := 26) ch_cX12_away_0 rfl)
theorem dX12_away_27 : decode cX12_away 27 = .ok (.iaload, 1) := do_46 (rdb (p := 0) (i := 27) ch_cX12_away_0 rfl)
theorem dX12_away_28 : decode cX12_away 28 = .ok (.ifCond .ge 12, 3) := do_156 (rdb (p := 0) (i := 28) ch_cX12_away_0 rfl) (rdb (p := 0) (i := 29) ch_cX12_away_0 rfl) (rdb (p := 0) (i := 30) ch_cX12_away_0 rfl) (by decide +kernel)
theorem dX12_away_31 : decode cX12_away 31 = .ok (.aload_n 0, 1) := do_42 (rdb (p := 0) (i := 31) ch_cX12_away_0 rfl)
theorem ch_cX12_away_32 : (cX12_away.data.toList.drop 32).take 36 = [18, 110, 182, 0, 104, 167, 0, 15, 42, 42, 27, 182, 0, 89, 4, 96, 2, 182, 0, 124, 172] := by decide +kernel
theorem dX12_away_32 : decode cX12_away 32 = .ok (.ldc 110, 2) := do_18 (rdb (p := 32) (i := 0) ch_cX12_away_32 rfl) (rdb (p := 32) (i := 1) ch_cX12_away_32 rfl)
theorem dX12_away_34 : decode cX12_away 34 = .ok (.invokevirtual 104, 3) := do_182 (rdb (p := 32) (i := 2) ch_cX12_away_32 rfl) (rdb (p := 32) (i := 3) ch_cX12_away_32 rfl) (rdb (p := 32) (i := 4) ch_cX12_away_32 rfl) rfl
theorem dX12_away_37 : decode cX12_away 37 = .ok (.goto 15, 3) := do_167 (rdb (p := 32) (i := 5) ch_cX12_away_32 rfl) (rdb (p := 32) (i := 6) ch_cX12_away_32 rfl) (rdb (p := 32) (i := 7) ch_cX12_away_32 rfl) (by decide +kernel)
theorem dX12_away_40 : decode cX12_away 40 = .ok (.aload_n 0, 1) := do_42 (rdb (p := 32) (i := 8) ch_cX12_away_32 rfl)
theorem dX12_away_41 : decode cX12_away 41 = .ok (.aload_n 0, 1) := do_42 (rdb (p := 32) (i := 9) ch_cX12_away_32 rfl)
theorem dX12_away_42 : decode cX12_away 42 = .ok (.iload_n 1, 1) := do_27 (rdb (p := 32) (i := 10) ch_cX12_away_32 rfl)
theorem dX12_away_43 : decode cX12_away 43 = .ok (.invokevirtual 89, 3) := do_182 (rdb (p := 32) (i := 11) ch_cX12_away_32 rfl) (rdb (p := 32) (i := 12) ch_cX12_away_32 rfl) (rdb (p := 32) (i := 13) ch_cX12_away_32 rfl) rfl
theorem dX12_away_46 : decode cX12_away 46 = .ok (.iconst 1, 1) := do_4 (rdb (p := 32) (i := 14) ch_cX12_away_32 rfl)
theorem dX12_away_47 : decode cX12_away 47 = .ok (.iadd, 1) := do_96 (rdb (p := 32) (i := 15) ch_cX12_away_32 rfl)
theorem dX12_away_48 : decode cX12_away 48 = .ok (.iconst (-1), 1) := do_2 (rdb (p := 32) (i := 16) ch_cX12_away_32 rfl)
theorem dX12_away_49 : decode cX12_away 49 = .ok (.invokevirtual 124, 3) := do_182 (rdb (p := 32) (i := 17) ch_cX12_away_32 rfl) (rdb (p := 32) (i := 18) ch_cX12_away_32 rfl) (rdb (p := 32) (i := 19) ch_cX12_away_32 rfl) rfl
theorem dX12_away_52 : decode cX12_away 52 = .ok (.ireturn, 1) := do_172 (rdb (p := 32) (i := 20) ch_cX12_away_32 rfl)
theorem dX12_ears_0 : decode cX12_ears 0 = .ok (.aload_n 0, 1) := by decide +kernel
theorem dX12_ears_1 : decode cX12_ears 1 = .ok (.iload_n 1, 1) := by decide +kernel
theorem dX12_ears_2 : decode cX12_ears 2 = .ok (.invokevirtual 137, 3) := by decide +kernel
theorem dX12_ears_5 : decode cX12_ears 5 = .ok (.bipush 6, 2) := by decide +kernel
theorem dX12_ears_7 : decode cX12_ears 7 = .ok (.if_icmp .ne 7, 3) := by decide +kernel
theorem dX12_ears_10 : decode cX12_ears 10 = .ok (.iconst 5, 1) := by decide +kernel
theorem dX12_ears_11 : decode cX12_ears 11 = .ok (.goto 5, 3) := by decide +kernel
theorem dX12_ears_14 : decode cX12_ears 14 = .ok (.bipush 9, 2) := by decide +kernel
theorem dX12_ears_16 : decode cX12_ears 16 = .ok (.ireturn, 1) := by decide +kernel
theorem dX12_face_0 : decode cX12_face 0 = .ok (.aload_n 0, 1) := by decide +kernel
theorem dX12_face_1 : decode cX12_face 1 = .ok (.iload_n 1, 1) := by decide +kernel
theorem dX12_face_2 : decode cX12_face 2 = .ok (.iconst 2, 1) := by decide +kernel
theorem dX12_face_3 : decode cX12_face 3 = .ok (.invokevirtual 116, 3) := by decide +kernel
theorem dX12_face_6 : decode cX12_face 6 = .ok (.ifCond .eq 25, 3) := by decide +kernel
theorem dX12_face_9 : decode cX12_face 9 = .ok (.iload_n 2, 1) := by decide +kernel
theorem dX12_face_10 : decode cX12_face 10 = .ok (.invokestatic 120, 3) := by decide +kernel
theorem dX12_face_13 : decode cX12_face 13 = .ok (.ifCond .eq 18, 3) := by decide +kernel
theorem dX12_face_16 : decode cX12_face 16 = .ok (.aload_n 0, 1) := by decide +kernel
theorem dX12_face_17 : decode cX12_face 17 = .ok (.aload_n 0, 1) := by decide +kernel
theorem dX12_face_18 : decode cX12_face 18 = .ok (.iload_n 1, 1) := by decide +kernel
theorem dX12_face_19 : decode cX12_face 19 = .ok (.invokevirtual 93, 3) := by decide +kernel
theorem dX12_face_22 : decode cX12_face 22 = .ok (.iconst 2, 1) := by decide +kernel
theorem dX12_face_23 : decode cX12_face 23 = .ok (.iadd, 1) := by decide +kernel
theorem dX12_face_24 : decode cX12_face 24 = .ok (.iload_n 2, 1) := by decide +kernel
theorem dX12_face_25 : decode cX12_face 25 = .ok (.invokevirtual 124, 3) := by decide +kernel
theorem dX12_face_28 : decode cX12_face 28 = .ok (.goto 9, 3) := by decide +kernel
theorem dX12_face_31 : decode cX12_face 31 = .ok (.aload_n 0, 1) := by decide +kernel
theorem dX12_face_32 : decode cX12_face 32 = .ok (.ldc 103, 2) := by decide +kernel
theorem dX12_face_34 : decode cX12_face 34 = .ok (.invokevirtual 104, 3) := by decide +kernel
theorem dX12_face_37 : decode cX12_face 37 = .ok (.ireturn, 1) := by decide +kernel
theorem ch_cX12_feed_0 : (cX12_feed.data.toList.drop 0).take 36 = [29, 4, 16, 8, 184, 0, 85, 154, 0, 10, 42, 18, 103, 182, 0, 104, 172, 42, 180, 0, 9, 7, 46, 29, 96, 16, 48, 164, 0, 10, 42, 18, 111, 182, 0, 104] := by decide +kernel
theorem dX12_feed_0 : decode cX12_feed 0 = .ok (.iload_n 3, 1) := do_29 (rdb (p := 0) (i := 0) ch_cX12_feed_0 rfl)
theorem dX12_feed_1 : decode cX12_feed 1 = .ok (.iconst 1, 1) := do_4 (rdb (p := 0) (i := 1) ch_cX12_feed_0 rfl)
theorem dX12_feed_2 : decode cX12_feed 2 = .ok (.bipush 8, 2) := do_16 (rdb (p := 0) (i := 2) ch_cX12_feed_0 rfl) (rdb (p := 0) (i := 3) ch_cX12_feed_0 rfl) (by decide +kernel)
theorem dX12_feed_4 : decode cX12_feed 4 = .ok (.invokestatic 85, 3) := do_184 (rdb (p := 0) (i := 4) ch_cX12_feed_0 rfl) (rdb (p := 0) (i := 5) ch_cX12_feed_0 rfl) (rdb (p := 0) (i := 6) ch_cX12_feed_0 rfl) rfl
theorem dX12_feed_7 : decode cX12_feed 7 = .ok (.ifCond .ne 10, 3) := do_154 (rdb (p := 0) (i := 7) ch_cX12_feed_0 rfl) (rdb (p := 0) (i := 8) ch_cX12_feed_0 rfl) (rdb (p := 0) (i := 9) ch_cX12_feed_0 rfl) (by decide +kernel)
theorem dX12_feed_10 : decode cX12_feed 10 = .ok (.aload_n 0, 1) := do_42 (rdb (p := 0) (i := 10) ch_cX12_feed_0 rfl)
theorem dX12_feed_11 : decode cX12_feed 11 = .ok (.ldc 103, 2) := do_18 (rdb (p := 0) (i := 11) ch_cX12_feed_0 rfl) (rdb (p := 0) (i := 12) ch_cX12_feed_0 rfl)
theorem dX12_feed_13 : decode cX12_feed 13 = .ok (.invokevirtual 104, 3) := do_182 (rdb (p := 0) (i := 13) ch_cX12_feed_0 rfl) (rdb (p := 0) (i := 14) ch_cX12_feed_0 rfl) (rdb (p := 0) (i := 15) ch_cX12_feed_0 rfl) rfl
theorem dX12_feed_16 : decode cX12_feed 16 = .ok (.ireturn, 1) := do_172 (rdb (p := 0) (i := 16) ch_cX12_feed_0 rfl)
theorem dX12_feed_17 : decode cX12_feed 17 = .ok (.aload_n 0, 1) := do_42 (rdb (p := 0) (i := 17) ch_cX12_feed_0 rfl)
theorem dX12_feed_18 : decode cX12_feed 18 = .ok (.getfield 9, 3) := do_180 (rdb (p := 0) (i := 18) ch_cX12_feed_0 rfl) (rdb (p := 0) (i := 19) ch_cX12_feed_0 rfl) (rdb (p := 0) (i := 20) ch_cX12_feed_0 rfl) rfl
theorem dX12_feed_21 : decode cX12_feed 21 = .ok (.iconst 4, 1) := do_7 (rdb (p := 0) (i := 21) ch_cX12_feed_0 rfl)
theorem dX12_feed_22 : decode cX12_feed 22 = .ok (.iaload, 1) := do_46 (rdb (p := 0) (i := 22) ch_cX12_feed_0 rfl)
theorem dX12_feed_23 : decode cX12_feed 23 = .ok (.iload_n 3, 1) := do_29 (rdb (p := 0) (i := 23) ch_cX12_feed_0 rfl)
theorem dX12_feed_24 : decode cX12_feed 24 = .ok (.iadd, 1) := do_96 (rdb (p := 0) (i := 24) ch_cX12_feed_0 rfl)
theorem dX12_feed_25 : decode cX12_feed 25 = .ok (.bipush 48, 2) := do_16 (rdb (p := 0) (i := 25) ch_cX12_feed_0 rfl) (rdb (p := 0) (i := 26) ch_cX12_feed_0 rfl) (by decide +kernel)
theorem dX12_feed_27 : decode cX12_feed 27 = .ok (.if_icmp .le 10, 3) := do_164 (rdb (p := 0) (i := 27) ch_cX12_feed_0 rfl) (rdb (p := 0) (i := 28) ch_cX12_feed_0 rfl) (rdb (p := 0) (i := 29) ch_cX12_feed_0 rfl) (by decide +kernel)
theorem dX12_feed_30 : decode cX12_feed 30 = .ok (.aload_n 0, 1) := do_42 (rdb (p := 0) (i := 30) ch_cX12_feed_0 rfl)
theorem dX12_feed_31 : decode cX12_feed 31 = .ok (.ldc 111, 2) := do_18 (rdb (p := 0) (i := 31) ch_cX12_feed_0 rfl) (rdb (p := 0) (i := 32) ch_cX12_feed_0 rfl)
theorem ch_cX12_feed_32 : (cX12_feed.data.toList.drop 32).take 36 = [111, 182, 0, 104, 172, 3, 54, 4, 21, 4, 29, 162, 0, 46, 42, 180, 0, 9, 17, 1, 17, 42, 180, 0, 9, 7, 46, 96, 31, 16, 8, 21, 4, 104, 123, 20] := by decide +kernel
theorem dX12_feed_33 : decode cX12_feed 33 = .ok (.invokevirtual 104, 3) := do_182 (rdb (p := 32) (i := 1) ch_cX12_feed_32 rfl) (rdb (p := 32) (i := 2) ch_cX12_feed_32 rfl) (rdb (p := 32) (i := 3) ch_cX12_feed_32 rfl) rfl
theorem dX12_feed_36 : decode cX12_feed 36 = .ok (.ireturn, 1) := do_172 (rdb (p := 32) (i := 4) ch_cX12_feed_32 rfl)
theorem dX12_feed_37 : decode cX12_feed 37 = .ok (.iconst 0, 1) := do_3 (rdb (p := 32) (i := 5) ch_cX12_feed_32 rfl)
theorem dX12_feed_38 : decode cX12_feed 38 = .ok (.istore 4, 2) := do_54 (rdb (p := 32) (i := 6) ch_cX12_feed_32 rfl) (rdb (p := 32) (i := 7) ch_cX12_feed_32 rfl)
theorem dX12_feed_40 : decode cX12_feed 40 = .ok (.iload 4, 2) := do_21 (rdb (p := 32) (i := 8) ch_cX12_feed_32 rfl) (rdb (p := 32) (i := 9) ch_cX12_feed_32 rfl)
theorem dX12_feed_42 : decode cX12_feed 42 = .ok (.iload_n 3, 1) := do_29 (rdb (p := 32) (i := 10) ch_cX12_feed_32 rfl)
theorem dX12_feed_43 : decode cX12_feed 43 = .ok (.if_icmp .ge 46, 3) := do_162 (rdb (p := 32) (i := 11) ch_cX12_feed_32 rfl) (rdb (p := 32) (i := 12) ch_cX12_feed_32 rfl) (rdb (p := 32) (i := 13) ch_cX12_feed_32 rfl) (by decide +kernel)
theorem dX12_feed_46 : decode cX12_feed 46 = .ok (.aload_n 0, 1) := do_42 (rdb (p := 32) (i := 14) ch_cX12_feed_32 rfl)
theorem dX12_feed_47 : decode cX12_feed 47 = .ok (.getfield 9, 3) := do_180 (rdb (p := 32) (i := 15) ch_cX12_feed_32 rfl) (rdb (p := 32) (i := 16) ch_cX12_feed_32 rfl) (rdb (p := 32) (i := 17) ch_cX12_feed_32 rfl) rfl
theorem dX12_feed_50 : decode cX12_feed 50 = .ok (.sipush 273, 3) := do_17 (rdb (p := 32) (i := 18) ch_cX12_feed_32 rfl) (rdb (p := 32) (i := 19) ch_cX12_feed_32 rfl) (rdb (p := 32) (i := 20) ch_cX12_feed_32 rfl) (by decide +kernel)
theorem dX12_feed_53 : decode cX12_feed 53 = .ok (.aload_n 0, 1) := do_42 (rdb (p := 32) (i := 21) ch_cX12_feed_32 rfl)
theorem dX12_feed_54 : decode cX12_feed 54 = .ok (.getfield 9, 3) := do_180 (rdb (p := 32) (i := 22) ch_cX12_feed_32 rfl) (rdb (p := 32) (i := 23) ch_cX12_feed_32 rfl) (rdb (p := 32) (i := 24) ch_cX12_feed_32 rfl) rfl
theorem dX12_feed_57 : decode cX12_feed 57 = .ok (.iconst 4, 1) := do_7 (rdb (p := 32) (i := 25) ch_cX12_feed_32 rfl)
theorem dX12_feed_58 : decode cX12_feed 58 = .ok (.iaload, 1) := do_46 (rdb (p := 32) (i := 26) ch_cX12_feed_32 rfl)
theorem dX12_feed_59 : decode cX12_feed 59 = .ok (.iadd, 1) := do_96 (rdb (p := 32) (i := 27) ch_cX12_feed_32 rfl)
theorem dX12_feed_60 : decode cX12_feed 60 = .ok (.lload_n 1, 1) := do_31 (rdb (p := 32) (i := 28) ch_cX12_feed_32 rfl)
theorem dX12_feed_61 : decode cX12_feed 61 = .ok (.bipush 8, 2) := do_16 (rdb (p := 32) (i := 29) ch_cX12_feed_32 rfl) (rdb (p := 32) (i := 30) ch_cX12_feed_32 rfl) (by decide +kernel)
theorem dX12_feed_63 : decode cX12_feed 63 = .ok (.iload 4, 2) := do_21 (rdb (p := 32) (i := 31) ch_cX12_feed_32 rfl) (rdb (p := 32) (i := 32) ch_cX12_feed_32 rfl)
theorem ch_cX12_feed_64 : (cX12_feed.data.toList.drop 64).take 36 = [4, 104, 123, 20, 0, 149, 127, 136, 79, 42, 180, 0, 9, 7, 92, 46, 4, 96, 79, 132, 4, 1, 167, 255, 210, 42, 180, 0, 9, 7, 46, 172] := by decide +kernel
theorem dX12_feed_65 : decode cX12_feed 65 = .ok (.imul, 1) := do_104 (rdb (p := 64) (i := 1) ch_cX12_feed_64 rfl)
theorem dX12_feed_66 : decode cX12_feed 66 = .ok (.lshr, 1) := do_123 (rdb (p := 64) (i := 2) ch_cX12_feed_64 rfl)
theorem dX12_feed_67 : decode cX12_feed 67 = .ok (.ldc2_w 149, 3) := do_20 (rdb (p := 64) (i := 3) ch_cX12_feed_64 rfl) (rdb (p := 64) (i := 4) ch_cX12_feed_64 rfl) (rdb (p := 64) (i := 5) ch_cX12_feed_64 rfl) rfl
theorem dX12_feed_70 : decode cX12_feed 70 = .ok (.land, 1) := do_127 (rdb (p := 64) (i := 6) ch_cX12_feed_64 rfl)
theorem dX12_feed_71 : decode cX12_feed 71 = .ok (.l2i, 1) := do_136 (rdb (p := 64) (i := 7) ch_cX12_feed_64 rfl)
theorem dX12_feed_72 : decode cX12_feed 72 = .ok (.iastore, 1) := do_79 (rdb (p := 64) (i := 8) ch_cX12_feed_64 rfl)
theorem dX12_feed_73 : decode cX12_feed 73 = .ok (.aload_n 0, 1) := do_42 (rdb (p := 64) (i := 9) ch_cX12_feed_64 rfl)
theorem dX12_feed_74 : decode cX12_feed 74 = .ok (.getfield 9, 3) := do_180 (rdb (p := 64) (i := 10) ch_cX12_feed_64 rfl) (rdb (p := 64) (i := 11) ch_cX12_feed_64 rfl) (rdb (p := 64) (i := 12) ch_cX12_feed_64 rfl) rfl
theorem dX12_feed_77 : decode cX12_feed 77 = .ok (.iconst 4, 1) := do_7 (rdb (p := 64) (i := 13) ch_cX12_feed_64 rfl)
theorem dX12_feed_78 : decode cX12_feed 78 = .ok (.dup2, 1) := do_92 (rdb (p := 64) (i := 14) ch_cX12_feed_64 rfl)
theorem dX12_feed_79 : decode cX12_feed 79 = .ok (.iaload, 1) := do_46 (rdb (p := 64) (i := 15) ch_cX12_feed_64 rfl)
theorem dX12_feed_80 : decode cX12_feed 80 = .ok (.iconst 1, 1) := do_4 (rdb (p := 64) (i := 16) ch_cX12_feed_64 rfl)
theorem dX12_feed_81 : decode cX12_feed 81 = .ok (.iadd, 1) := do_96 (rdb (p := 64) (i := 17) ch_cX12_feed_64 rfl)
theorem dX12_feed_82 : decode cX12_feed 82 = .ok (.iastore, 1) := do_79 (rdb (p := 64) (i := 18) ch_cX12_feed_64 rfl)
theorem dX12_feed_83 : decode cX12_feed 83 = .ok (.iinc 4 1, 3) := do_132 (rdb (p := 64) (i := 19) ch_cX12_feed_64 rfl) (rdb (p := 64) (i := 20) ch_cX12_feed_64 rfl) (rdb (p := 64) (i := 21) ch_cX12_feed_64 rfl) (by decide +kernel)
theorem dX12_feed_86 : decode cX12_feed 86 = .ok (.goto (-46), 3) := do_167 (rdb (p := 64) (i := 22) ch_cX12_feed_64 rfl) (rdb (p := 64) (i := 23) ch_cX12_feed_64 rfl) (rdb (p := 64) (i := 24) ch_cX12_feed_64 rfl) (by decide +kernel)
theorem dX12_feed_89 : decode cX12_feed 89 = .ok (.aload_n 0, 1) := do_42 (rdb (p := 64) (i := 25) ch_cX12_feed_64 rfl)
theorem dX12_feed_90 : decode cX12_feed 90 = .ok (.getfield 9, 3) := do_180 (rdb (p := 64) (i := 26) ch_cX12_feed_64 rfl) (rdb (p := 64) (i := 27) ch_cX12_feed_64 rfl) (rdb (p := 64) (i := 28) ch_cX12_feed_64 rfl) rfl
theorem dX12_feed_93 : decode cX12_feed 93 = .ok (.iconst 4, 1) := do_7 (rdb (p := 64) (i := 29) ch_cX12_feed_64 rfl)
theorem dX12_feed_94 : decode cX12_feed 94 = .ok (.iaload, 1) := do_46 (rdb (p := 64) (i := 30) ch_cX12_feed_64 rfl)
theorem dX12_feed_95 : decode cX12_feed 95 = .ok (.ireturn, 1) := do_172 (rdb (p := 64) (i := 31) ch_cX12_feed_64 rfl)
theorem dX12_goes_0 : decode cX12_goes 0 = .ok (.aload_n 0, 1) := by decide +kernel
theorem dX12_goes_1 : decode cX12_goes 1 = .ok (.iload_n 1, 1) := by decide +kernel
theorem dX12_goes_2 : decode cX12_goes 2 = .ok (.iconst 2, 1) := by decide +kernel
theorem dX12_goes_3 : decode cX12_goes 3 = .ok (.invokevirtual 116, 3) := by decide +kernel
theorem dX12_goes_6 : decode cX12_goes 6 = .ok (.ifCond .eq 27, 3) := by decide +kernel
theorem dX12_goes_9 : decode cX12_goes 9 = .ok (.aload_n 0, 1) := by decide +kernel
theorem dX12_goes_10 : decode cX12_goes 10 = .ok (.aload_n 0, 1) := by decide +kernel
theorem dX12_goes_11 : decode cX12_goes 11 = .ok (.iload_n 1, 1) := by decide +kernel
theorem dX12_goes_12 : decode cX12_goes 12 = .ok (.invokevirtual 93, 3) := by decide +kernel
theorem dX12_goes_15 : decode cX12_goes 15 = .ok (.bipush 6, 2) := by decide +kernel
theorem dX12_goes_17 : decode cX12_goes 17 = .ok (.iadd, 1) := by decide +kernel
theorem dX12_goes_18 : decode cX12_goes 18 = .ok (.iload_n 2, 1) := by decide +kernel
theorem dX12_goes_19 : decode cX12_goes 19 = .ok (.ifCond .eq 7, 3) := by decide +kernel
theorem dX12_goes_22 : decode cX12_goes 22 = .ok (.iconst 1, 1) := by decide +kernel
theorem dX12_goes_23 : decode cX12_goes 23 = .ok (.goto 4, 3) := by decide +kernel
theorem dX12_goes_26 : decode cX12_goes 26 = .ok (.iconst 0, 1) := by decide +kernel
theorem dX12_goes_27 : decode cX12_goes 27 = .ok (.invokevirtual 124, 3) := by decide +kernel
theorem dX12_goes_30 : decode cX12_goes 30 = .ok (.goto 9, 3) := by decide +kernel
theorem dX12_goes_33 : decode cX12_goes 33 = .ok (.aload_n 0, 1) := by decide +kernel
theorem dX12_goes_34 : decode cX12_goes 34 = .ok (.ldc 103, 2) := by decide +kernel
theorem dX12_goes_36 : decode cX12_goes 36 = .ok (.invokevirtual 104, 3) := by decide +kernel
theorem dX12_goes_39 : decode cX12_goes 39 = .ok (.ireturn, 1) := by decide +kernel
theorem ch_cX12_habit_0 : (cX12_habit.data.toList.drop 0).take 36 = [42, 27, 5, 182, 0, 116, 153, 0, 34, 28, 4, 16, 9, 184, 0, 85, 153, 0, 24, 29, 4, 16, 99, 184, 0, 85, 153, 0, 14, 21, 4, 3, 16, 30, 184, 0] := by decide +kernel
theorem dX12_habit_0 : decode cX12_habit 0 = .ok (.aload_n 0, 1) := do_42 (rdb (p := 0) (i := 0) ch_cX12_habit_0 rfl)
theorem dX12_habit_1 : decode cX12_habit 1 = .ok (.iload_n 1, 1) := do_27 (rdb (p := 0) (i := 1) ch_cX12_habit_0 rfl)
theorem dX12_habit_2 : decode cX12_habit 2 = .ok (.iconst 2, 1) := do_5 (rdb (p := 0) (i := 2) ch_cX12_habit_0 rfl)
theorem dX12_habit_3 : decode cX12_habit 3 = .ok (.invokevirtual 116, 3) := do_182 (rdb (p := 0) (i := 3) ch_cX12_habit_0 rfl) (rdb (p := 0) (i := 4) ch_cX12_habit_0 rfl) (rdb (p := 0) (i := 5) ch_cX12_habit_0 rfl) rfl
theorem dX12_habit_6 : decode cX12_habit 6 = .ok (.ifCond .eq 34, 3) := do_153 (rdb (p := 0) (i := 6) ch_cX12_habit_0 rfl) (rdb (p := 0) (i := 7) ch_cX12_habit_0 rfl) (rdb (p := 0) (i := 8) ch_cX12_habit_0 rfl) (by decide +kernel)
theorem dX12_habit_9 : decode cX12_habit 9 = .ok (.iload_n 2, 1) := do_28 (rdb (p := 0) (i := 9) ch_cX12_habit_0 rfl)
theorem dX12_habit_10 : decode cX12_habit 10 = .ok (.iconst 1, 1) := do_4 (rdb (p := 0) (i := 10) ch_cX12_habit_0 rfl)
theorem dX12_habit_11 : decode cX12_habit 11 = .ok (.bipush 9, 2) := do_16 (rdb (p := 0) (i := 11) ch_cX12_habit_0 rfl) (rdb (p := 0) (i := 12) ch_cX12_habit_0 rfl) (by decide +kernel)
theorem dX12_habit_13 : decode cX12_habit 13 = .ok (.invokestatic 85, 3) := do_184 (rdb (p := 0) (i := 13) ch_cX12_habit_0 rfl) (rdb (p := 0) (i := 14) ch_cX12_habit_0 rfl) (rdb (p := 0) (i := 15) ch_cX12_habit_0 rfl) rfl
theorem dX12_habit_16 : decode cX12_habit 16 = .ok (.ifCond .eq 24, 3) := do_153 (rdb (p := 0) (i := 16) ch_cX12_habit_0 rfl) (rdb (p := 0) (i := 17) ch_cX12_habit_0 rfl) (rdb (p := 0) (i := 18) ch_cX12_habit_0 rfl) (by decide +kernel)
theorem dX12_habit_19 : decode cX12_habit 19 = .ok (.iload_n 3, 1) := do_29 (rdb (p := 0) (i := 19) ch_cX12_habit_0 rfl)
theorem dX12_habit_20 : decode cX12_habit 20 = .ok (.iconst 1, 1) := do_4 (rdb (p := 0) (i := 20) ch_cX12_habit_0 rfl)
theorem dX12_habit_21 : decode cX12_habit 21 = .ok (.bipush 99, 2) := do_16 (rdb (p := 0) (i := 21) ch_cX12_habit_0 rfl) (rdb (p := 0) (i := 22) ch_cX12_habit_0 rfl) (by decide +kernel)
theorem dX12_habit_23 : decode cX12_habit 23 = .ok (.invokestatic 85, 3) := do_184 (rdb (p := 0) (i := 23) ch_cX12_habit_0 rfl) (rdb (p := 0) (i := 24) ch_cX12_habit_0 rfl) (rdb (p := 0) (i := 25) ch_cX12_habit_0 rfl) rfl
theorem dX12_habit_26 : decode cX12_habit 26 = .ok (.ifCond .eq 14, 3) := do_153 (rdb (p := 0) (i := 26) ch_cX12_habit_0 rfl) (rdb (p := 0) (i := 27) ch_cX12_habit_0 rfl) (rdb (p := 0) (i := 28) ch_cX12_habit_0 rfl) (by decide +kernel)
theorem dX12_habit_29 : decode cX12_habit 29 = .ok (.iload 4, 2) := do_21 (rdb (p := 0) (i := 29) ch_cX12_habit_0 rfl) (rdb (p := 0) (i := 30) ch_cX12_habit_0 rfl)
theorem dX12_habit_31 : decode cX12_habit 31 = .ok (.iconst 0, 1) := do_3 (rdb (p := 0) (i := 31) ch_cX12_habit_0 rfl)
theorem ch_cX12_habit_32 : (cX12_habit.data.toList.drop 32).take 36 = [16, 30, 184, 0, 85, 154, 0, 10, 42, 18, 103, 182, 0, 104, 172, 42, 180, 0, 9, 42, 27, 182, 0, 93, 6, 96, 28, 79, 42, 180, 0, 9, 42, 27, 182, 0] := by decide +kernel
theorem dX12_habit_32 : decode cX12_habit 32 = .ok (.bipush 30, 2) := do_16 (rdb (p := 32) (i := 0) ch_cX12_habit_32 rfl) (rdb (p := 32) (i := 1) ch_cX12_habit_32 rfl) (by decide +kernel)
theorem dX12_habit_34 : decode cX12_habit 34 = .ok (.invokestatic 85, 3) := do_184 (rdb (p := 32) (i := 2) ch_cX12_habit_32 rfl) (rdb (p := 32) (i := 3) ch_cX12_habit_32 rfl) (rdb (p := 32) (i := 4) ch_cX12_habit_32 rfl) rfl
theorem dX12_habit_37 : decode cX12_habit 37 = .ok (.ifCond .ne 10, 3) := do_154 (rdb (p := 32) (i := 5) ch_cX12_habit_32 rfl) (rdb (p := 32) (i := 6) ch_cX12_habit_32 rfl) (rdb (p := 32) (i := 7) ch_cX12_habit_32 rfl) (by decide +kernel)
theorem dX12_habit_40 : decode cX12_habit 40 = .ok (.aload_n 0, 1) := do_42 (rdb (p := 32) (i := 8) ch_cX12_habit_32 rfl)
theorem dX12_habit_41 : decode cX12_habit 41 = .ok (.ldc 103, 2) := do_18 (rdb (p := 32) (i := 9) ch_cX12_habit_32 rfl) (rdb (p := 32) (i := 10) ch_cX12_habit_32 rfl)
theorem dX12_habit_43 : decode cX12_habit 43 = .ok (.invokevirtual 104, 3) := do_182 (rdb (p := 32) (i := 11) ch_cX12_habit_32 rfl) (rdb (p := 32) (i := 12) ch_cX12_habit_32 rfl) (rdb (p := 32) (i := 13) ch_cX12_habit_32 rfl) rfl
theorem dX12_habit_46 : decode cX12_habit 46 = .ok (.ireturn, 1) := do_172 (rdb (p := 32) (i := 14) ch_cX12_habit_32 rfl)
theorem dX12_habit_47 : decode cX12_habit 47 = .ok (.aload_n 0, 1) := do_42 (rdb (p := 32) (i := 15) ch_cX12_habit_32 rfl)
theorem dX12_habit_48 : decode cX12_habit 48 = .ok (.getfield 9, 3) := do_180 (rdb (p := 32) (i := 16) ch_cX12_habit_32 rfl) (rdb (p := 32) (i := 17) ch_cX12_habit_32 rfl) (rdb (p := 32) (i := 18) ch_cX12_habit_32 rfl) rfl
theorem dX12_habit_51 : decode cX12_habit 51 = .ok (.aload_n 0, 1) := do_42 (rdb (p := 32) (i := 19) ch_cX12_habit_32 rfl)
theorem dX12_habit_52 : decode cX12_habit 52 = .ok (.iload_n 1, 1) := do_27 (rdb (p := 32) (i := 20) ch_cX12_habit_32 rfl)
theorem dX12_habit_53 : decode cX12_habit 53 = .ok (.invokevirtual 93, 3) := do_182 (rdb (p := 32) (i := 21) ch_cX12_habit_32 rfl) (rdb (p := 32) (i := 22) ch_cX12_habit_32 rfl) (rdb (p := 32) (i := 23) ch_cX12_habit_32 rfl) rfl
theorem dX12_habit_56 : decode cX12_habit 56 = .ok (.iconst 3, 1) := do_6 (rdb (p := 32) (i := 24) ch_cX12_habit_32 rfl)
theorem dX12_habit_57 : decode cX12_habit 57 = .ok (.iadd, 1) := do_96 (rdb (p := 32) (i := 25) ch_cX12_habit_32 rfl)
theorem dX12_habit_58 : decode cX12_habit 58 = .ok (.iload_n 2, 1) := do_28 (rdb (p := 32) (i := 26) ch_cX12_habit_32 rfl)
theorem dX12_habit_59 : decode cX12_habit 59 = .ok (.iastore, 1) := do_79 (rdb (p := 32) (i := 27) ch_cX12_habit_32 rfl)
theorem dX12_habit_60 : decode cX12_habit 60 = .ok (.aload_n 0, 1) := do_42 (rdb (p := 32) (i := 28) ch_cX12_habit_32 rfl)
theorem dX12_habit_61 : decode cX12_habit 61 = .ok (.getfield 9, 3) := do_180 (rdb (p := 32) (i := 29) ch_cX12_habit_32 rfl) (rdb (p := 32) (i := 30) ch_cX12_habit_32 rfl) (rdb (p := 32) (i := 31) ch_cX12_habit_32 rfl) rfl
theorem ch_cX12_habit_64 : (cX12_habit.data.toList.drop 64).take 36 = [42, 27, 182, 0, 93, 7, 96, 29, 79, 42, 180, 0, 9, 42, 27, 182, 0, 93, 8, 96, 21, 4, 79, 4, 172] := by decide +kernel
theorem dX12_habit_64 : decode cX12_habit 64 = .ok (.aload_n 0, 1) := do_42 (rdb (p := 64) (i := 0) ch_cX12_habit_64 rfl)
theorem dX12_habit_65 : decode cX12_habit 65 = .ok (.iload_n 1, 1) := do_27 (rdb (p := 64) (i := 1) ch_cX12_habit_64 rfl)
theorem dX12_habit_66 : decode cX12_habit 66 = .ok (.invokevirtual 93, 3) := do_182 (rdb (p := 64) (i := 2) ch_cX12_habit_64 rfl) (rdb (p := 64) (i := 3) ch_cX12_habit_64 rfl) (rdb (p := 64) (i := 4) ch_cX12_habit_64 rfl) rfl
theorem dX12_habit_69 : decode cX12_habit 69 = .ok (.iconst 4, 1) := do_7 (rdb (p := 64) (i := 5) ch_cX12_habit_64 rfl)
theorem dX12_habit_70 : decode cX12_habit 70 = .ok (.iadd, 1) := do_96 (rdb (p := 64) (i := 6) ch_cX12_habit_64 rfl)
theorem dX12_habit_71 : decode cX12_habit 71 = .ok (.iload_n 3, 1) := do_29 (rdb (p := 64) (i := 7) ch_cX12_habit_64 rfl)
theorem dX12_habit_72 : decode cX12_habit 72 = .ok (.iastore, 1) := do_79 (rdb (p := 64) (i := 8) ch_cX12_habit_64 rfl)
theorem dX12_habit_73 : decode cX12_habit 73 = .ok (.aload_n 0, 1) := do_42 (rdb (p := 64) (i := 9) ch_cX12_habit_64 rfl)
theorem dX12_habit_74 : decode cX12_habit 74 = .ok (.getfield 9, 3) := do_180 (rdb (p := 64) (i := 10) ch_cX12_habit_64 rfl) (rdb (p := 64) (i := 11) ch_cX12_habit_64 rfl) (rdb (p := 64) (i := 12) ch_cX12_habit_64 rfl) rfl
theorem dX12_habit_77 : decode cX12_habit 77 = .ok (.aload_n 0, 1) := do_42 (rdb (p := 64) (i := 13) ch_cX12_habit_64 rfl)
theorem dX12_habit_78 : decode cX12_habit 78 = .ok (.iload_n 1, 1) := do_27 (rdb (p := 64) (i := 14) ch_cX12_habit_64 rfl)
theorem dX12_habit_79 : decode cX12_habit 79 = .ok (.invokevirtual 93, 3) := do_182 (rdb (p := 64) (i := 15) ch_cX12_habit_64 rfl) (rdb (p := 64) (i := 16) ch_cX12_habit_64 rfl) (rdb (p := 64) (i := 17) ch_cX12_habit_64 rfl) rfl
theorem dX12_habit_82 : decode cX12_habit 82 = .ok (.iconst 5, 1) := do_8 (rdb (p := 64) (i := 18) ch_cX12_habit_64 rfl)
theorem dX12_habit_83 : decode cX12_habit 83 = .ok (.iadd, 1) := do_96 (rdb (p := 64) (i := 19) ch_cX12_habit_64 rfl)
theorem dX12_habit_84 : decode cX12_habit 84 = .ok (.iload 4, 2) := do_21 (rdb (p := 64) (i := 20) ch_cX12_habit_64 rfl) (rdb (p := 64) (i := 21) ch_cX12_habit_64 rfl)
theorem dX12_habit_86 : decode cX12_habit 86 = .ok (.iastore, 1) := do_79 (rdb (p := 64) (i := 22) ch_cX12_habit_64 rfl)
theorem dX12_habit_87 : decode cX12_habit 87 = .ok (.iconst 1, 1) := do_4 (rdb (p := 64) (i := 23) ch_cX12_habit_64 rfl)
theorem dX12_habit_88 : decode cX12_habit 88 = .ok (.ireturn, 1) := do_172 (rdb (p := 64) (i := 24) ch_cX12_habit_64 rfl)
theorem dX12_isUnder_0 : decode cX12_isUnder 0 = .ok (.iload_n 0, 1) := by decide +kernel
theorem dX12_isUnder_1 : decode cX12_isUnder 1 = .ok (.istore_n 2, 1) := by decide +kernel
theorem dX12_isUnder_2 : decode cX12_isUnder 2 = .ok (.iload_n 2, 1) := by decide +kernel
theorem dX12_isUnder_3 : decode cX12_isUnder 3 = .ok (.ifCond .lt 16, 3) := by decide +kernel
theorem dX12_isUnder_6 : decode cX12_isUnder 6 = .ok (.iload_n 2, 1) := by decide +kernel
theorem dX12_isUnder_7 : decode cX12_isUnder 7 = .ok (.iload_n 1, 1) := by decide +kernel
theorem dX12_isUnder_8 : decode cX12_isUnder 8 = .ok (.if_icmp .eq 11, 3) := by decide +kernel
theorem dX12_isUnder_11 : decode cX12_isUnder 11 = .ok (.iload_n 2, 1) := by decide +kernel
theorem dX12_isUnder_12 : decode cX12_isUnder 12 = .ok (.invokestatic 131, 3) := by decide +kernel
theorem dX12_isUnder_15 : decode cX12_isUnder 15 = .ok (.istore_n 2, 1) := by decide +kernel
theorem dX12_isUnder_16 : decode cX12_isUnder 16 = .ok (.goto (-14), 3) := by decide +kernel
theorem dX12_isUnder_19 : decode cX12_isUnder 19 = .ok (.iload_n 2, 1) := by decide +kernel
theorem dX12_isUnder_20 : decode cX12_isUnder 20 = .ok (.ifCond .lt 7, 3) := by decide +kernel
theorem dX12_isUnder_23 : decode cX12_isUnder 23 = .ok (.iconst 1, 1) := by decide +kernel
theorem dX12_isUnder_24 : decode cX12_isUnder 24 = .ok (.goto 4, 3) := by decide +kernel
theorem dX12_isUnder_27 : decode cX12_isUnder 27 = .ok (.iconst 0, 1) := by decide +kernel
theorem dX12_isUnder_28 : decode cX12_isUnder 28 = .ok (.ireturn, 1) := by decide +kernel
theorem ch_cX12_kind_0 : (cX12_kind.data.toList.drop 0).take 36 = [27, 3, 7, 184, 0, 85, 153, 0, 31, 28, 3, 4, 184, 0, 85, 153, 0, 22, 29, 3, 28, 154, 0, 8, 16, 99, 167, 0, 5, 16, 9, 184, 0, 85, 154, 0] := by decide +kernel
theorem dX12_kind_0 : decode cX12_kind 0 = .ok (.iload_n 1, 1) := do_27 (rdb (p := 0) (i := 0) ch_cX12_kind_0 rfl)
theorem dX12_kind_1 : decode cX12_kind 1 = .ok (.iconst 0, 1) := do_3 (rdb (p := 0) (i := 1) ch_cX12_kind_0 rfl)
theorem dX12_kind_2 : decode cX12_kind 2 = .ok (.iconst 4, 1) := do_7 (rdb (p := 0) (i := 2) ch_cX12_kind_0 rfl)
theorem dX12_kind_3 : decode cX12_kind 3 = .ok (.invokestatic 85, 3) := do_184 (rdb (p := 0) (i := 3) ch_cX12_kind_0 rfl) (rdb (p := 0) (i := 4) ch_cX12_kind_0 rfl) (rdb (p := 0) (i := 5) ch_cX12_kind_0 rfl) rfl
theorem dX12_kind_6 : decode cX12_kind 6 = .ok (.ifCond .eq 31, 3) := do_153 (rdb (p := 0) (i := 6) ch_cX12_kind_0 rfl) (rdb (p := 0) (i := 7) ch_cX12_kind_0 rfl) (rdb (p := 0) (i := 8) ch_cX12_kind_0 rfl) (by decide +kernel)
theorem dX12_kind_9 : decode cX12_kind 9 = .ok (.iload_n 2, 1) := do_28 (rdb (p := 0) (i := 9) ch_cX12_kind_0 rfl)
theorem dX12_kind_10 : decode cX12_kind 10 = .ok (.iconst 0, 1) := do_3 (rdb (p := 0) (i := 10) ch_cX12_kind_0 rfl)
theorem dX12_kind_11 : decode cX12_kind 11 = .ok (.iconst 1, 1) := do_4 (rdb (p := 0) (i := 11) ch_cX12_kind_0 rfl)
theorem dX12_kind_12 : decode cX12_kind 12 = .ok (.invokestatic 85, 3) := do_184 (rdb (p := 0) (i := 12) ch_cX12_kind_0 rfl) (rdb (p := 0) (i := 13) ch_cX12_kind_0 rfl) (rdb (p := 0) (i := 14) ch_cX12_kind_0 rfl) rfl
theorem dX12_kind_15 : decode cX12_kind 15 = .ok (.ifCond .eq 22, 3) := do_153 (rdb (p := 0) (i := 15) ch_cX12_kind_0 rfl) (rdb (p := 0) (i := 16) ch_cX12_kind_0 rfl) (rdb (p := 0) (i := 17) ch_cX12_kind_0 rfl) (by decide +kernel)
theorem dX12_kind_18 : decode cX12_kind 18 = .ok (.iload_n 3, 1) := do_29 (rdb (p := 0) (i := 18) ch_cX12_kind_0 rfl)
theorem dX12_kind_19 : decode cX12_kind 19 = .ok (.iconst 0, 1) := do_3 (rdb (p := 0) (i := 19) ch_cX12_kind_0 rfl)
theorem dX12_kind_20 : decode cX12_kind 20 = .ok (.iload_n 2, 1) := do_28 (rdb (p := 0) (i := 20) ch_cX12_kind_0 rfl)
theorem dX12_kind_21 : decode cX12_kind 21 = .ok (.ifCond .ne 8, 3) := do_154 (rdb (p := 0) (i := 21) ch_cX12_kind_0 rfl) (rdb (p := 0) (i := 22) ch_cX12_kind_0 rfl) (rdb (p := 0) (i := 23) ch_cX12_kind_0 rfl) (by decide +kernel)
theorem dX12_kind_24 : decode cX12_kind 24 = .ok (.bipush 99, 2) := do_16 (rdb (p := 0) (i := 24) ch_cX12_kind_0 rfl) (rdb (p := 0) (i := 25) ch_cX12_kind_0 rfl) (by decide +kernel)
theorem dX12_kind_26 : decode cX12_kind 26 = .ok (.goto 5, 3) := do_167 (rdb (p := 0) (i := 26) ch_cX12_kind_0 rfl) (rdb (p := 0) (i := 27) ch_cX12_kind_0 rfl) (rdb (p := 0) (i := 28) ch_cX12_kind_0 rfl) (by decide +kernel)
theorem dX12_kind_29 : decode cX12_kind 29 = .ok (.bipush 9, 2) := do_16 (rdb (p := 0) (i := 29) ch_cX12_kind_0 rfl) (rdb (p := 0) (i := 30) ch_cX12_kind_0 rfl) (by decide +kernel)
theorem dX12_kind_31 : decode cX12_kind 31 = .ok (.invokestatic 85, 3) := do_184 (rdb (p := 0) (i := 31) ch_cX12_kind_0 rfl) (rdb (p := 0) (i := 32) ch_cX12_kind_0 rfl) (rdb (p := 0) (i := 33) ch_cX12_kind_0 rfl) rfl
theorem ch_cX12_kind_32 : (cX12_kind.data.toList.drop 32).take 36 = [0, 85, 154, 0, 10, 42, 18, 103, 182, 0, 104, 172, 42, 28, 154, 0, 8, 16, 9, 167, 0, 5, 16, 14, 27, 96, 29, 182, 0, 124, 172] := by decide +kernel
theorem dX12_kind_34 : decode cX12_kind 34 = .ok (.ifCond .ne 10, 3) := do_154 (rdb (p := 32) (i := 2) ch_cX12_kind_32 rfl) (rdb (p := 32) (i := 3) ch_cX12_kind_32 rfl) (rdb (p := 32) (i := 4) ch_cX12_kind_32 rfl) (by decide +kernel)
theorem dX12_kind_37 : decode cX12_kind 37 = .ok (.aload_n 0, 1) := do_42 (rdb (p := 32) (i := 5) ch_cX12_kind_32 rfl)
theorem dX12_kind_38 : decode cX12_kind 38 = .ok (.ldc 103, 2) := do_18 (rdb (p := 32) (i := 6) ch_cX12_kind_32 rfl) (rdb (p := 32) (i := 7) ch_cX12_kind_32 rfl)
theorem dX12_kind_40 : decode cX12_kind 40 = .ok (.invokevirtual 104, 3) := do_182 (rdb (p := 32) (i := 8) ch_cX12_kind_32 rfl) (rdb (p := 32) (i := 9) ch_cX12_kind_32 rfl) (rdb (p := 32) (i := 10) ch_cX12_kind_32 rfl) rfl
theorem dX12_kind_43 : decode cX12_kind 43 = .ok (.ireturn, 1) := do_172 (rdb (p := 32) (i := 11) ch_cX12_kind_32 rfl)
theorem dX12_kind_44 : decode cX12_kind 44 = .ok (.aload_n 0, 1) := do_42 (rdb (p := 32) (i := 12) ch_cX12_kind_32 rfl)
theorem dX12_kind_45 : decode cX12_kind 45 = .ok (.iload_n 2, 1) := do_28 (rdb (p := 32) (i := 13) ch_cX12_kind_32 rfl)
theorem dX12_kind_46 : decode cX12_kind 46 = .ok (.ifCond .ne 8, 3) := do_154 (rdb (p := 32) (i := 14) ch_cX12_kind_32 rfl) (rdb (p := 32) (i := 15) ch_cX12_kind_32 rfl) (rdb (p := 32) (i := 16) ch_cX12_kind_32 rfl) (by decide +kernel)
theorem dX12_kind_49 : decode cX12_kind 49 = .ok (.bipush 9, 2) := do_16 (rdb (p := 32) (i := 17) ch_cX12_kind_32 rfl) (rdb (p := 32) (i := 18) ch_cX12_kind_32 rfl) (by decide +kernel)
theorem dX12_kind_51 : decode cX12_kind 51 = .ok (.goto 5, 3) := do_167 (rdb (p := 32) (i := 19) ch_cX12_kind_32 rfl) (rdb (p := 32) (i := 20) ch_cX12_kind_32 rfl) (rdb (p := 32) (i := 21) ch_cX12_kind_32 rfl) (by decide +kernel)
theorem dX12_kind_54 : decode cX12_kind 54 = .ok (.bipush 14, 2) := do_16 (rdb (p := 32) (i := 22) ch_cX12_kind_32 rfl) (rdb (p := 32) (i := 23) ch_cX12_kind_32 rfl) (by decide +kernel)
theorem dX12_kind_56 : decode cX12_kind 56 = .ok (.iload_n 1, 1) := do_27 (rdb (p := 32) (i := 24) ch_cX12_kind_32 rfl)
theorem dX12_kind_57 : decode cX12_kind 57 = .ok (.iadd, 1) := do_96 (rdb (p := 32) (i := 25) ch_cX12_kind_32 rfl)
theorem dX12_kind_58 : decode cX12_kind 58 = .ok (.iload_n 3, 1) := do_29 (rdb (p := 32) (i := 26) ch_cX12_kind_32 rfl)
theorem dX12_kind_59 : decode cX12_kind 59 = .ok (.invokevirtual 124, 3) := do_182 (rdb (p := 32) (i := 27) ch_cX12_kind_32 rfl) (rdb (p := 32) (i := 28) ch_cX12_kind_32 rfl) (rdb (p := 32) (i := 29) ch_cX12_kind_32 rfl) rfl
theorem dX12_kind_62 : decode cX12_kind 62 = .ok (.ireturn, 1) := do_172 (rdb (p := 32) (i := 30) ch_cX12_kind_32 rfl)
theorem dX12_kindOf_0 : decode cX12_kindOf 0 = .ok (.aload_n 0, 1) := by decide +kernel
theorem dX12_kindOf_1 : decode cX12_kindOf 1 = .ok (.getfield 9, 3) := by decide +kernel
theorem dX12_kindOf_4 : decode cX12_kindOf 4 = .ok (.aload_n 0, 1) := by decide +kernel
theorem dX12_kindOf_5 : decode cX12_kindOf 5 = .ok (.iload_n 1, 1) := by decide +kernel
theorem dX12_kindOf_6 : decode cX12_kindOf 6 = .ok (.invokevirtual 93, 3) := by decide +kernel
theorem dX12_kindOf_9 : decode cX12_kindOf 9 = .ok (.iconst 0, 1) := by decide +kernel
theorem dX12_kindOf_10 : decode cX12_kindOf 10 = .ok (.iadd, 1) := by decide +kernel
theorem dX12_kindOf_11 : decode cX12_kindOf 11 = .ok (.iaload, 1) := by decide +kernel
theorem dX12_kindOf_12 : decode cX12_kindOf 12 = .ok (.ireturn, 1) := by decide +kernel
theorem ch_cX12_lays_0 : (cX12_lays.data.toList.drop 0).take 36 = [27, 184, 0, 127, 153, 0, 13, 28, 3, 16, 11, 184, 0, 85, 154, 0, 10, 42, 18, 103, 182, 0, 104, 172, 42, 180, 0, 72, 27, 46, 154, 0, 10, 42, 18, 130] := by decide +kernel
theorem dX12_lays_0 : decode cX12_lays 0 = .ok (.iload_n 1, 1) := do_27 (rdb (p := 0) (i := 0) ch_cX12_lays_0 rfl)
theorem dX12_lays_1 : decode cX12_lays 1 = .ok (.invokestatic 127, 3) := do_184 (rdb (p := 0) (i := 1) ch_cX12_lays_0 rfl) (rdb (p := 0) (i := 2) ch_cX12_lays_0 rfl) (rdb (p := 0) (i := 3) ch_cX12_lays_0 rfl) rfl
theorem dX12_lays_4 : decode cX12_lays 4 = .ok (.ifCond .eq 13, 3) := do_153 (rdb (p := 0) (i := 4) ch_cX12_lays_0 rfl) (rdb (p := 0) (i := 5) ch_cX12_lays_0 rfl) (rdb (p := 0) (i := 6) ch_cX12_lays_0 rfl) (by decide +kernel)
theorem dX12_lays_7 : decode cX12_lays 7 = .ok (.iload_n 2, 1) := do_28 (rdb (p := 0) (i := 7) ch_cX12_lays_0 rfl)
theorem dX12_lays_8 : decode cX12_lays 8 = .ok (.iconst 0, 1) := do_3 (rdb (p := 0) (i := 8) ch_cX12_lays_0 rfl)
theorem dX12_lays_9 : decode cX12_lays 9 = .ok (.bipush 11, 2) := do_16 (rdb (p := 0) (i := 9) ch_cX12_lays_0 rfl) (rdb (p := 0) (i := 10) ch_cX12_lays_0 rfl) (by decide +kernel)
theorem dX12_lays_11 : decode cX12_lays 11 = .ok (.invokestatic 85, 3) := do_184 (rdb (p := 0) (i := 11) ch_cX12_lays_0 rfl) (rdb (p := 0) (i := 12) ch_cX12_lays_0 rfl) (rdb (p := 0) (i := 13) ch_cX12_lays_0 rfl) rfl
theorem dX12_lays_14 : decode cX12_lays 14 = .ok (.ifCond .ne 10, 3) := do_154 (rdb (p := 0) (i := 14) ch_cX12_lays_0 rfl) (rdb (p := 0) (i := 15) ch_cX12_lays_0 rfl) (rdb (p := 0) (i := 16) ch_cX12_lays_0 rfl) (by decide +kernel)
theorem dX12_lays_17 : decode cX12_lays 17 = .ok (.aload_n 0, 1) := do_42 (rdb (p := 0) (i := 17) ch_cX12_lays_0 rfl)
theorem dX12_lays_18 : decode cX12_lays 18 = .ok (.ldc 103, 2) := do_18 (rdb (p := 0) (i := 18) ch_cX12_lays_0 rfl) (rdb (p := 0) (i := 19) ch_cX12_lays_0 rfl)
theorem dX12_lays_20 : decode cX12_lays 20 = .ok (.invokevirtual 104, 3) := do_182 (rdb (p := 0) (i := 20) ch_cX12_lays_0 rfl) (rdb (p := 0) (i := 21) ch_cX12_lays_0 rfl) (rdb (p := 0) (i := 22) ch_cX12_lays_0 rfl) rfl
theorem dX12_lays_23 : decode cX12_lays 23 = .ok (.ireturn, 1) := do_172 (rdb (p := 0) (i := 23) ch_cX12_lays_0 rfl)
theorem dX12_lays_24 : decode cX12_lays 24 = .ok (.aload_n 0, 1) := do_42 (rdb (p := 0) (i := 24) ch_cX12_lays_0 rfl)
theorem dX12_lays_25 : decode cX12_lays 25 = .ok (.getfield 72, 3) := do_180 (rdb (p := 0) (i := 25) ch_cX12_lays_0 rfl) (rdb (p := 0) (i := 26) ch_cX12_lays_0 rfl) (rdb (p := 0) (i := 27) ch_cX12_lays_0 rfl) rfl
theorem dX12_lays_28 : decode cX12_lays 28 = .ok (.iload_n 1, 1) := do_27 (rdb (p := 0) (i := 28) ch_cX12_lays_0 rfl)
theorem dX12_lays_29 : decode cX12_lays 29 = .ok (.iaload, 1) := do_46 (rdb (p := 0) (i := 29) ch_cX12_lays_0 rfl)
theorem dX12_lays_30 : decode cX12_lays 30 = .ok (.ifCond .ne 10, 3) := do_154 (rdb (p := 0) (i := 30) ch_cX12_lays_0 rfl) (rdb (p := 0) (i := 31) ch_cX12_lays_0 rfl) (rdb (p := 0) (i := 32) ch_cX12_lays_0 rfl) (by decide +kernel)
theorem ch_cX12_lays_32 : (cX12_lays.data.toList.drop 32).take 36 = [10, 42, 18, 130, 182, 0, 104, 172, 42, 180, 0, 72, 27, 46, 16, 8, 159, 0, 10, 42, 18, 123, 182, 0, 104, 172, 42, 180, 0, 75, 27, 46, 16, 16, 164, 0] := by decide +kernel
theorem dX12_lays_33 : decode cX12_lays 33 = .ok (.aload_n 0, 1) := do_42 (rdb (p := 32) (i := 1) ch_cX12_lays_32 rfl)
theorem dX12_lays_34 : decode cX12_lays 34 = .ok (.ldc 130, 2) := do_18 (rdb (p := 32) (i := 2) ch_cX12_lays_32 rfl) (rdb (p := 32) (i := 3) ch_cX12_lays_32 rfl)
theorem dX12_lays_36 : decode cX12_lays 36 = .ok (.invokevirtual 104, 3) := do_182 (rdb (p := 32) (i := 4) ch_cX12_lays_32 rfl) (rdb (p := 32) (i := 5) ch_cX12_lays_32 rfl) (rdb (p := 32) (i := 6) ch_cX12_lays_32 rfl) rfl
theorem dX12_lays_39 : decode cX12_lays 39 = .ok (.ireturn, 1) := do_172 (rdb (p := 32) (i := 7) ch_cX12_lays_32 rfl)
theorem dX12_lays_40 : decode cX12_lays 40 = .ok (.aload_n 0, 1) := do_42 (rdb (p := 32) (i := 8) ch_cX12_lays_32 rfl)
theorem dX12_lays_41 : decode cX12_lays 41 = .ok (.getfield 72, 3) := do_180 (rdb (p := 32) (i := 9) ch_cX12_lays_32 rfl) (rdb (p := 32) (i := 10) ch_cX12_lays_32 rfl) (rdb (p := 32) (i := 11) ch_cX12_lays_32 rfl) rfl
theorem dX12_lays_44 : decode cX12_lays 44 = .ok (.iload_n 1, 1) := do_27 (rdb (p := 32) (i := 12) ch_cX12_lays_32 rfl)
theorem dX12_lays_45 : decode cX12_lays 45 = .ok (.iaload, 1) := do_46 (rdb (p := 32) (i := 13) ch_cX12_lays_32 rfl)
theorem dX12_lays_46 : decode cX12_lays 46 = .ok (.bipush 8, 2) := do_16 (rdb (p := 32) (i := 14) ch_cX12_lays_32 rfl) (rdb (p := 32) (i := 15) ch_cX12_lays_32 rfl) (by decide +kernel)
theorem dX12_lays_48 : decode cX12_lays 48 = .ok (.if_icmp .eq 10, 3) := do_159 (rdb (p := 32) (i := 16) ch_cX12_lays_32 rfl) (rdb (p := 32) (i := 17) ch_cX12_lays_32 rfl) (rdb (p := 32) (i := 18) ch_cX12_lays_32 rfl) (by decide +kernel)
theorem dX12_lays_51 : decode cX12_lays 51 = .ok (.aload_n 0, 1) := do_42 (rdb (p := 32) (i := 19) ch_cX12_lays_32 rfl)
theorem dX12_lays_52 : decode cX12_lays 52 = .ok (.ldc 123, 2) := do_18 (rdb (p := 32) (i := 20) ch_cX12_lays_32 rfl) (rdb (p := 32) (i := 21) ch_cX12_lays_32 rfl)
theorem dX12_lays_54 : decode cX12_lays 54 = .ok (.invokevirtual 104, 3) := do_182 (rdb (p := 32) (i := 22) ch_cX12_lays_32 rfl) (rdb (p := 32) (i := 23) ch_cX12_lays_32 rfl) (rdb (p := 32) (i := 24) ch_cX12_lays_32 rfl) rfl
theorem dX12_lays_57 : decode cX12_lays 57 = .ok (.ireturn, 1) := do_172 (rdb (p := 32) (i := 25) ch_cX12_lays_32 rfl)
theorem dX12_lays_58 : decode cX12_lays 58 = .ok (.aload_n 0, 1) := do_42 (rdb (p := 32) (i := 26) ch_cX12_lays_32 rfl)
theorem dX12_lays_59 : decode cX12_lays 59 = .ok (.getfield 75, 3) := do_180 (rdb (p := 32) (i := 27) ch_cX12_lays_32 rfl) (rdb (p := 32) (i := 28) ch_cX12_lays_32 rfl) (rdb (p := 32) (i := 29) ch_cX12_lays_32 rfl) rfl
theorem dX12_lays_62 : decode cX12_lays 62 = .ok (.iload_n 1, 1) := do_27 (rdb (p := 32) (i := 30) ch_cX12_lays_32 rfl)
theorem dX12_lays_63 : decode cX12_lays 63 = .ok (.iaload, 1) := do_46 (rdb (p := 32) (i := 31) ch_cX12_lays_32 rfl)
theorem ch_cX12_lays_64 : (cX12_lays.data.toList.drop 64).take 36 = [16, 16, 164, 0, 10, 42, 18, 110, 182, 0, 104, 172, 3, 62, 3, 54, 4, 21, 4, 42, 180, 0, 75, 27, 46, 162, 0, 77, 42, 180, 0, 78, 16, 24, 27, 104] := by decide +kernel
theorem dX12_lays_64 : decode cX12_lays 64 = .ok (.bipush 16, 2) := do_16 (rdb (p := 64) (i := 0) ch_cX12_lays_64 rfl) (rdb (p := 64) (i := 1) ch_cX12_lays_64 rfl) (by decide +kernel)
theorem dX12_lays_66 : decode cX12_lays 66 = .ok (.if_icmp .le 10, 3) := do_164 (rdb (p := 64) (i := 2) ch_cX12_lays_64 rfl) (rdb (p := 64) (i := 3) ch_cX12_lays_64 rfl) (rdb (p := 64) (i := 4) ch_cX12_lays_64 rfl) (by decide +kernel)
theorem dX12_lays_69 : decode cX12_lays 69 = .ok (.aload_n 0, 1) := do_42 (rdb (p := 64) (i := 5) ch_cX12_lays_64 rfl)
theorem dX12_lays_70 : decode cX12_lays 70 = .ok (.ldc 110, 2) := do_18 (rdb (p := 64) (i := 6) ch_cX12_lays_64 rfl) (rdb (p := 64) (i := 7) ch_cX12_lays_64 rfl)
theorem dX12_lays_72 : decode cX12_lays 72 = .ok (.invokevirtual 104, 3) := do_182 (rdb (p := 64) (i := 8) ch_cX12_lays_64 rfl) (rdb (p := 64) (i := 9) ch_cX12_lays_64 rfl) (rdb (p := 64) (i := 10) ch_cX12_lays_64 rfl) rfl
theorem dX12_lays_75 : decode cX12_lays 75 = .ok (.ireturn, 1) := do_172 (rdb (p := 64) (i := 11) ch_cX12_lays_64 rfl)
theorem dX12_lays_76 : decode cX12_lays 76 = .ok (.iconst 0, 1) := do_3 (rdb (p := 64) (i := 12) ch_cX12_lays_64 rfl)
theorem dX12_lays_77 : decode cX12_lays 77 = .ok (.istore_n 3, 1) := do_62 (rdb (p := 64) (i := 13) ch_cX12_lays_64 rfl)
theorem dX12_lays_78 : decode cX12_lays 78 = .ok (.iconst 0, 1) := do_3 (rdb (p := 64) (i := 14) ch_cX12_lays_64 rfl)
theorem dX12_lays_79 : decode cX12_lays 79 = .ok (.istore 4, 2) := do_54 (rdb (p := 64) (i := 15) ch_cX12_lays_64 rfl) (rdb (p := 64) (i := 16) ch_cX12_lays_64 rfl)
theorem dX12_lays_81 : decode cX12_lays 81 = .ok (.iload 4, 2) := do_21 (rdb (p := 64) (i := 17) ch_cX12_lays_64 rfl) (rdb (p := 64) (i := 18) ch_cX12_lays_64 rfl)
theorem dX12_lays_83 : decode cX12_lays 83 = .ok (.aload_n 0, 1) := do_42 (rdb (p := 64) (i := 19) ch_cX12_lays_64 rfl)
theorem dX12_lays_84 : decode cX12_lays 84 = .ok (.getfield 75, 3) := do_180 (rdb (p := 64) (i := 20) ch_cX12_lays_64 rfl) (rdb (p := 64) (i := 21) ch_cX12_lays_64 rfl) (rdb (p := 64) (i := 22) ch_cX12_lays_64 rfl) rfl
theorem dX12_lays_87 : decode cX12_lays 87 = .ok (.iload_n 1, 1) := do_27 (rdb (p := 64) (i := 23) ch_cX12_lays_64 rfl)
theorem dX12_lays_88 : decode cX12_lays 88 = .ok (.iaload, 1) := do_46 (rdb (p := 64) (i := 24) ch_cX12_lays_64 rfl)
theorem dX12_lays_89 : decode cX12_lays 89 = .ok (.if_icmp .ge 77, 3) := do_162 (rdb (p := 64) (i := 25) ch_cX12_lays_64 rfl) (rdb (p := 64) (i := 26) ch_cX12_lays_64 rfl) (rdb (p := 64) (i := 27) ch_cX12_lays_64 rfl) (by decide +kernel)
theorem dX12_lays_92 : decode cX12_lays 92 = .ok (.aload_n 0, 1) := do_42 (rdb (p := 64) (i := 28) ch_cX12_lays_64 rfl)
theorem dX12_lays_93 : decode cX12_lays 93 = .ok (.getfield 78, 3) := do_180 (rdb (p := 64) (i := 29) ch_cX12_lays_64 rfl) (rdb (p := 64) (i := 30) ch_cX12_lays_64 rfl) (rdb (p := 64) (i := 31) ch_cX12_lays_64 rfl) rfl
theorem ch_cX12_lays_96 : (cX12_lays.data.toList.drop 96).take 36 = [16, 24, 27, 104, 21, 4, 96, 46, 54, 5, 21, 5, 4, 8, 184, 0, 85, 153, 0, 47, 42, 180, 0, 9, 4, 46, 16, 40, 162, 0, 36, 42, 16, 16, 28, 104] := by decide +kernel
theorem dX12_lays_96 : decode cX12_lays 96 = .ok (.bipush 24, 2) := do_16 (rdb (p := 96) (i := 0) ch_cX12_lays_96 rfl) (rdb (p := 96) (i := 1) ch_cX12_lays_96 rfl) (by decide +kernel)
theorem dX12_lays_98 : decode cX12_lays 98 = .ok (.iload_n 1, 1) := do_27 (rdb (p := 96) (i := 2) ch_cX12_lays_96 rfl)
theorem dX12_lays_99 : decode cX12_lays 99 = .ok (.imul, 1) := do_104 (rdb (p := 96) (i := 3) ch_cX12_lays_96 rfl)
theorem dX12_lays_100 : decode cX12_lays 100 = .ok (.iload 4, 2) := do_21 (rdb (p := 96) (i := 4) ch_cX12_lays_96 rfl) (rdb (p := 96) (i := 5) ch_cX12_lays_96 rfl)
theorem dX12_lays_102 : decode cX12_lays 102 = .ok (.iadd, 1) := do_96 (rdb (p := 96) (i := 6) ch_cX12_lays_96 rfl)
theorem dX12_lays_103 : decode cX12_lays 103 = .ok (.iaload, 1) := do_46 (rdb (p := 96) (i := 7) ch_cX12_lays_96 rfl)
theorem dX12_lays_104 : decode cX12_lays 104 = .ok (.istore 5, 2) := do_54 (rdb (p := 96) (i := 8) ch_cX12_lays_96 rfl) (rdb (p := 96) (i := 9) ch_cX12_lays_96 rfl)
theorem dX12_lays_106 : decode cX12_lays 106 = .ok (.iload 5, 2) := do_21 (rdb (p := 96) (i := 10) ch_cX12_lays_96 rfl) (rdb (p := 96) (i := 11) ch_cX12_lays_96 rfl)
theorem dX12_lays_108 : decode cX12_lays 108 = .ok (.iconst 1, 1) := do_4 (rdb (p := 96) (i := 12) ch_cX12_lays_96 rfl)
theorem dX12_lays_109 : decode cX12_lays 109 = .ok (.iconst 5, 1) := do_8 (rdb (p := 96) (i := 13) ch_cX12_lays_96 rfl)
theorem dX12_lays_110 : decode cX12_lays 110 = .ok (.invokestatic 85, 3) := do_184 (rdb (p := 96) (i := 14) ch_cX12_lays_96 rfl) (rdb (p := 96) (i := 15) ch_cX12_lays_96 rfl) (rdb (p := 96) (i := 16) ch_cX12_lays_96 rfl) rfl
theorem dX12_lays_113 : decode cX12_lays 113 = .ok (.ifCond .eq 47, 3) := do_153 (rdb (p := 96) (i := 17) ch_cX12_lays_96 rfl) (rdb (p := 96) (i := 18) ch_cX12_lays_96 rfl) (rdb (p := 96) (i := 19) ch_cX12_lays_96 rfl) (by decide +kernel)
theorem dX12_lays_116 : decode cX12_lays 116 = .ok (.aload_n 0, 1) := do_42 (rdb (p := 96) (i := 20) ch_cX12_lays_96 rfl)
theorem dX12_lays_117 : decode cX12_lays 117 = .ok (.getfield 9, 3) := do_180 (rdb (p := 96) (i := 21) ch_cX12_lays_96 rfl) (rdb (p := 96) (i := 22) ch_cX12_lays_96 rfl) (rdb (p := 96) (i := 23) ch_cX12_lays_96 rfl) rfl
theorem dX12_lays_120 : decode cX12_lays 120 = .ok (.iconst 1, 1) := do_4 (rdb (p := 96) (i := 24) ch_cX12_lays_96 rfl)
theorem dX12_lays_121 : decode cX12_lays 121 = .ok (.iaload, 1) := do_46 (rdb (p := 96) (i := 25) ch_cX12_lays_96 rfl)
theorem dX12_lays_122 : decode cX12_lays 122 = .ok (.bipush 40, 2) := do_16 (rdb (p := 96) (i := 26) ch_cX12_lays_96 rfl) (rdb (p := 96) (i := 27) ch_cX12_lays_96 rfl) (by decide +kernel)
theorem dX12_lays_124 : decode cX12_lays 124 = .ok (.if_icmp .ge 36, 3) := do_162 (rdb (p := 96) (i := 28) ch_cX12_lays_96 rfl) (rdb (p := 96) (i := 29) ch_cX12_lays_96 rfl) (rdb (p := 96) (i := 30) ch_cX12_lays_96 rfl) (by decide +kernel)
theorem dX12_lays_127 : decode cX12_lays 127 = .ok (.aload_n 0, 1) := do_42 (rdb (p := 96) (i := 31) ch_cX12_lays_96 rfl)
theorem ch_cX12_lays_128 : (cX12_lays.data.toList.drop 128).take 36 = [16, 16, 28, 104, 21, 4, 96, 182, 0, 107, 153, 0, 22, 42, 21, 5, 4, 100, 16, 16, 28, 104, 21, 4, 96, 182, 0, 112, 87, 132, 3, 1, 132, 4, 1, 167] := by decide +kernel
theorem dX12_lays_128 : decode cX12_lays 128 = .ok (.bipush 16, 2) := do_16 (rdb (p := 128) (i := 0) ch_cX12_lays_128 rfl) (rdb (p := 128) (i := 1) ch_cX12_lays_128 rfl) (by decide +kernel)
theorem dX12_lays_130 : decode cX12_lays 130 = .ok (.iload_n 2, 1) := do_28 (rdb (p := 128) (i := 2) ch_cX12_lays_128 rfl)
theorem dX12_lays_131 : decode cX12_lays 131 = .ok (.imul, 1) := do_104 (rdb (p := 128) (i := 3) ch_cX12_lays_128 rfl)
theorem dX12_lays_132 : decode cX12_lays 132 = .ok (.iload 4, 2) := do_21 (rdb (p := 128) (i := 4) ch_cX12_lays_128 rfl) (rdb (p := 128) (i := 5) ch_cX12_lays_128 rfl)
theorem dX12_lays_134 : decode cX12_lays 134 = .ok (.iadd, 1) := do_96 (rdb (p := 128) (i := 6) ch_cX12_lays_128 rfl)
theorem dX12_lays_135 : decode cX12_lays 135 = .ok (.invokevirtual 107, 3) := do_182 (rdb (p := 128) (i := 7) ch_cX12_lays_128 rfl) (rdb (p := 128) (i := 8) ch_cX12_lays_128 rfl) (rdb (p := 128) (i := 9) ch_cX12_lays_128 rfl) rfl
theorem dX12_lays_138 : decode cX12_lays 138 = .ok (.ifCond .eq 22, 3) := do_153 (rdb (p := 128) (i := 10) ch_cX12_lays_128 rfl) (rdb (p := 128) (i := 11) ch_cX12_lays_128 rfl) (rdb (p := 128) (i := 12) ch_cX12_lays_128 rfl) (by decide +kernel)
theorem dX12_lays_141 : decode cX12_lays 141 = .ok (.aload_n 0, 1) := do_42 (rdb (p := 128) (i := 13) ch_cX12_lays_128 rfl)
theorem dX12_lays_142 : decode cX12_lays 142 = .ok (.iload 5, 2) := do_21 (rdb (p := 128) (i := 14) ch_cX12_lays_128 rfl) (rdb (p := 128) (i := 15) ch_cX12_lays_128 rfl)
theorem dX12_lays_144 : decode cX12_lays 144 = .ok (.iconst 1, 1) := do_4 (rdb (p := 128) (i := 16) ch_cX12_lays_128 rfl)
theorem dX12_lays_145 : decode cX12_lays 145 = .ok (.isub, 1) := do_100 (rdb (p := 128) (i := 17) ch_cX12_lays_128 rfl)
theorem dX12_lays_146 : decode cX12_lays 146 = .ok (.bipush 16, 2) := do_16 (rdb (p := 128) (i := 18) ch_cX12_lays_128 rfl) (rdb (p := 128) (i := 19) ch_cX12_lays_128 rfl) (by decide +kernel)
theorem dX12_lays_148 : decode cX12_lays 148 = .ok (.iload_n 2, 1) := do_28 (rdb (p := 128) (i := 20) ch_cX12_lays_128 rfl)
theorem dX12_lays_149 : decode cX12_lays 149 = .ok (.imul, 1) := do_104 (rdb (p := 128) (i := 21) ch_cX12_lays_128 rfl)
theorem dX12_lays_150 : decode cX12_lays 150 = .ok (.iload 4, 2) := do_21 (rdb (p := 128) (i := 22) ch_cX12_lays_128 rfl) (rdb (p := 128) (i := 23) ch_cX12_lays_128 rfl)
theorem dX12_lays_152 : decode cX12_lays 152 = .ok (.iadd, 1) := do_96 (rdb (p := 128) (i := 24) ch_cX12_lays_128 rfl)
theorem dX12_lays_153 : decode cX12_lays 153 = .ok (.invokevirtual 112, 3) := do_182 (rdb (p := 128) (i := 25) ch_cX12_lays_128 rfl) (rdb (p := 128) (i := 26) ch_cX12_lays_128 rfl) (rdb (p := 128) (i := 27) ch_cX12_lays_128 rfl) rfl
theorem dX12_lays_156 : decode cX12_lays 156 = .ok (.pop, 1) := do_87 (rdb (p := 128) (i := 28) ch_cX12_lays_128 rfl)
theorem dX12_lays_157 : decode cX12_lays 157 = .ok (.iinc 3 1, 3) := do_132 (rdb (p := 128) (i := 29) ch_cX12_lays_128 rfl) (rdb (p := 128) (i := 30) ch_cX12_lays_128 rfl) (rdb (p := 128) (i := 31) ch_cX12_lays_128 rfl) (by decide +kernel)
theorem ch_cX12_lays_160 : (cX12_lays.data.toList.drop 160).take 36 = [132, 4, 1, 167, 255, 174, 29, 172] := by decide +kernel
theorem dX12_lays_160 : decode cX12_lays 160 = .ok (.iinc 4 1, 3) := do_132 (rdb (p := 160) (i := 0) ch_cX12_lays_160 rfl) (rdb (p := 160) (i := 1) ch_cX12_lays_160 rfl) (rdb (p := 160) (i := 2) ch_cX12_lays_160 rfl) (by decide +kernel)
theorem dX12_lays_163 : decode cX12_lays 163 = .ok (.goto (-82), 3) := do_167 (rdb (p := 160) (i := 3) ch_cX12_lays_160 rfl) (rdb (p := 160) (i := 4) ch_cX12_lays_160 rfl) (rdb (p := 160) (i := 5) ch_cX12_lays_160 rfl) (by decide +kernel)
theorem dX12_lays_166 : decode cX12_lays 166 = .ok (.iload_n 3, 1) := do_29 (rdb (p := 160) (i := 6) ch_cX12_lays_160 rfl)
theorem dX12_lays_167 : decode cX12_lays 167 = .ok (.ireturn, 1) := do_172 (rdb (p := 160) (i := 7) ch_cX12_lays_160 rfl)
theorem ch_cX12_moves_0 : (cX12_moves.data.toList.drop 0).take 36 = [42, 27, 4, 182, 0, 116, 153, 0, 20, 28, 184, 0, 120, 153, 0, 13, 29, 3, 16, 20, 184, 0, 85, 154, 0, 10, 42, 18, 103, 182, 0, 104, 172, 42, 180, 0] := by decide +kernel
theorem dX12_moves_0 : decode cX12_moves 0 = .ok (.aload_n 0, 1) := do_42 (rdb (p := 0) (i := 0) ch_cX12_moves_0 rfl)
theorem dX12_moves_1 : decode cX12_moves 1 = .ok (.iload_n 1, 1) := do_27 (rdb (p := 0) (i := 1) ch_cX12_moves_0 rfl)
theorem dX12_moves_2 : decode cX12_moves 2 = .ok (.iconst 1, 1) := do_4 (rdb (p := 0) (i := 2) ch_cX12_moves_0 rfl)
theorem dX12_moves_3 : decode cX12_moves 3 = .ok (.invokevirtual 116, 3) := do_182 (rdb (p := 0) (i := 3) ch_cX12_moves_0 rfl) (rdb (p := 0) (i := 4) ch_cX12_moves_0 rfl) (rdb (p := 0) (i := 5) ch_cX12_moves_0 rfl) rfl
theorem dX12_moves_6 : decode cX12_moves 6 = .ok (.ifCond .eq 20, 3) := do_153 (rdb (p := 0) (i := 6) ch_cX12_moves_0 rfl) (rdb (p := 0) (i := 7) ch_cX12_moves_0 rfl) (rdb (p := 0) (i := 8) ch_cX12_moves_0 rfl) (by decide +kernel)
theorem dX12_moves_9 : decode cX12_moves 9 = .ok (.iload_n 2, 1) := do_28 (rdb (p := 0) (i := 9) ch_cX12_moves_0 rfl)
theorem dX12_moves_10 : decode cX12_moves 10 = .ok (.invokestatic 120, 3) := do_184 (rdb (p := 0) (i := 10) ch_cX12_moves_0 rfl) (rdb (p := 0) (i := 11) ch_cX12_moves_0 rfl) (rdb (p := 0) (i := 12) ch_cX12_moves_0 rfl) rfl
theorem dX12_moves_13 : decode cX12_moves 13 = .ok (.ifCond .eq 13, 3) := do_153 (rdb (p := 0) (i := 13) ch_cX12_moves_0 rfl) (rdb (p := 0) (i := 14) ch_cX12_moves_0 rfl) (rdb (p := 0) (i := 15) ch_cX12_moves_0 rfl) (by decide +kernel)
theorem dX12_moves_16 : decode cX12_moves 16 = .ok (.iload_n 3, 1) := do_29 (rdb (p := 0) (i := 16) ch_cX12_moves_0 rfl)
theorem dX12_moves_17 : decode cX12_moves 17 = .ok (.iconst 0, 1) := do_3 (rdb (p := 0) (i := 17) ch_cX12_moves_0 rfl)
theorem dX12_moves_18 : decode cX12_moves 18 = .ok (.bipush 20, 2) := do_16 (rdb (p := 0) (i := 18) ch_cX12_moves_0 rfl) (rdb (p := 0) (i := 19) ch_cX12_moves_0 rfl) (by decide +kernel)
theorem dX12_moves_20 : decode cX12_moves 20 = .ok (.invokestatic 85, 3) := do_184 (rdb (p := 0) (i := 20) ch_cX12_moves_0 rfl) (rdb (p := 0) (i := 21) ch_cX12_moves_0 rfl) (rdb (p := 0) (i := 22) ch_cX12_moves_0 rfl) rfl
theorem dX12_moves_23 : decode cX12_moves 23 = .ok (.ifCond .ne 10, 3) := do_154 (rdb (p := 0) (i := 23) ch_cX12_moves_0 rfl) (rdb (p := 0) (i := 24) ch_cX12_moves_0 rfl) (rdb (p := 0) (i := 25) ch_cX12_moves_0 rfl) (by decide +kernel)
theorem dX12_moves_26 : decode cX12_moves 26 = .ok (.aload_n 0, 1) := do_42 (rdb (p := 0) (i := 26) ch_cX12_moves_0 rfl)
theorem dX12_moves_27 : decode cX12_moves 27 = .ok (.ldc 103, 2) := do_18 (rdb (p := 0) (i := 27) ch_cX12_moves_0 rfl) (rdb (p := 0) (i := 28) ch_cX12_moves_0 rfl)
theorem dX12_moves_29 : decode cX12_moves 29 = .ok (.invokevirtual 104, 3) := do_182 (rdb (p := 0) (i := 29) ch_cX12_moves_0 rfl) (rdb (p := 0) (i := 30) ch_cX12_moves_0 rfl) (rdb (p := 0) (i := 31) ch_cX12_moves_0 rfl) rfl
theorem ch_cX12_moves_32 : (cX12_moves.data.toList.drop 32).take 36 = [172, 42, 180, 0, 9, 42, 27, 182, 0, 89, 3, 96, 46, 6, 162, 0, 10, 42, 18, 123, 182, 0, 104, 172, 42, 180, 0, 9, 42, 27, 182, 0, 89, 4, 96, 46] := by decide +kernel
theorem dX12_moves_32 : decode cX12_moves 32 = .ok (.ireturn, 1) := do_172 (rdb (p := 32) (i := 0) ch_cX12_moves_32 rfl)
theorem dX12_moves_33 : decode cX12_moves 33 = .ok (.aload_n 0, 1) := do_42 (rdb (p := 32) (i := 1) ch_cX12_moves_32 rfl)
theorem dX12_moves_34 : decode cX12_moves 34 = .ok (.getfield 9, 3) := do_180 (rdb (p := 32) (i := 2) ch_cX12_moves_32 rfl) (rdb (p := 32) (i := 3) ch_cX12_moves_32 rfl) (rdb (p := 32) (i := 4) ch_cX12_moves_32 rfl) rfl
theorem dX12_moves_37 : decode cX12_moves 37 = .ok (.aload_n 0, 1) := do_42 (rdb (p := 32) (i := 5) ch_cX12_moves_32 rfl)
theorem dX12_moves_38 : decode cX12_moves 38 = .ok (.iload_n 1, 1) := do_27 (rdb (p := 32) (i := 6) ch_cX12_moves_32 rfl)
theorem dX12_moves_39 : decode cX12_moves 39 = .ok (.invokevirtual 89, 3) := do_182 (rdb (p := 32) (i := 7) ch_cX12_moves_32 rfl) (rdb (p := 32) (i := 8) ch_cX12_moves_32 rfl) (rdb (p := 32) (i := 9) ch_cX12_moves_32 rfl) rfl
theorem dX12_moves_42 : decode cX12_moves 42 = .ok (.iconst 0, 1) := do_3 (rdb (p := 32) (i := 10) ch_cX12_moves_32 rfl)
theorem dX12_moves_43 : decode cX12_moves 43 = .ok (.iadd, 1) := do_96 (rdb (p := 32) (i := 11) ch_cX12_moves_32 rfl)
theorem dX12_moves_44 : decode cX12_moves 44 = .ok (.iaload, 1) := do_46 (rdb (p := 32) (i := 12) ch_cX12_moves_32 rfl)
theorem dX12_moves_45 : decode cX12_moves 45 = .ok (.iconst 3, 1) := do_6 (rdb (p := 32) (i := 13) ch_cX12_moves_32 rfl)
theorem dX12_moves_46 : decode cX12_moves 46 = .ok (.if_icmp .ge 10, 3) := do_162 (rdb (p := 32) (i := 14) ch_cX12_moves_32 rfl) (rdb (p := 32) (i := 15) ch_cX12_moves_32 rfl) (rdb (p := 32) (i := 16) ch_cX12_moves_32 rfl) (by decide +kernel)
theorem dX12_moves_49 : decode cX12_moves 49 = .ok (.aload_n 0, 1) := do_42 (rdb (p := 32) (i := 17) ch_cX12_moves_32 rfl)
theorem dX12_moves_50 : decode cX12_moves 50 = .ok (.ldc 123, 2) := do_18 (rdb (p := 32) (i := 18) ch_cX12_moves_32 rfl) (rdb (p := 32) (i := 19) ch_cX12_moves_32 rfl)
theorem dX12_moves_52 : decode cX12_moves 52 = .ok (.invokevirtual 104, 3) := do_182 (rdb (p := 32) (i := 20) ch_cX12_moves_32 rfl) (rdb (p := 32) (i := 21) ch_cX12_moves_32 rfl) (rdb (p := 32) (i := 22) ch_cX12_moves_32 rfl) rfl
theorem dX12_moves_55 : decode cX12_moves 55 = .ok (.ireturn, 1) := do_172 (rdb (p := 32) (i := 23) ch_cX12_moves_32 rfl)
theorem dX12_moves_56 : decode cX12_moves 56 = .ok (.aload_n 0, 1) := do_42 (rdb (p := 32) (i := 24) ch_cX12_moves_32 rfl)
theorem dX12_moves_57 : decode cX12_moves 57 = .ok (.getfield 9, 3) := do_180 (rdb (p := 32) (i := 25) ch_cX12_moves_32 rfl) (rdb (p := 32) (i := 26) ch_cX12_moves_32 rfl) (rdb (p := 32) (i := 27) ch_cX12_moves_32 rfl) rfl
theorem dX12_moves_60 : decode cX12_moves 60 = .ok (.aload_n 0, 1) := do_42 (rdb (p := 32) (i := 28) ch_cX12_moves_32 rfl)
theorem dX12_moves_61 : decode cX12_moves 61 = .ok (.iload_n 1, 1) := do_27 (rdb (p := 32) (i := 29) ch_cX12_moves_32 rfl)
theorem dX12_moves_62 : decode cX12_moves 62 = .ok (.invokevirtual 89, 3) := do_182 (rdb (p := 32) (i := 30) ch_cX12_moves_32 rfl) (rdb (p := 32) (i := 31) ch_cX12_moves_32 rfl) (rdb (p := 32) (i := 32) ch_cX12_moves_32 rfl) rfl
theorem ch_cX12_moves_64 : (cX12_moves.data.toList.drop 64).take 36 = [89, 4, 96, 46, 156, 0, 10, 42, 18, 110, 182, 0, 104, 172, 42, 180, 0, 9, 42, 27, 182, 0, 89, 5, 96, 28, 79, 42, 180, 0, 9, 42, 27, 182, 0, 89] := by decide +kernel
theorem dX12_moves_65 : decode cX12_moves 65 = .ok (.iconst 1, 1) := do_4 (rdb (p := 64) (i := 1) ch_cX12_moves_64 rfl)
theorem dX12_moves_66 : decode cX12_moves 66 = .ok (.iadd, 1) := do_96 (rdb (p := 64) (i := 2) ch_cX12_moves_64 rfl)
theorem dX12_moves_67 : decode cX12_moves 67 = .ok (.iaload, 1) := do_46 (rdb (p := 64) (i := 3) ch_cX12_moves_64 rfl)
theorem dX12_moves_68 : decode cX12_moves 68 = .ok (.ifCond .ge 10, 3) := do_156 (rdb (p := 64) (i := 4) ch_cX12_moves_64 rfl) (rdb (p := 64) (i := 5) ch_cX12_moves_64 rfl) (rdb (p := 64) (i := 6) ch_cX12_moves_64 rfl) (by decide +kernel)
theorem dX12_moves_71 : decode cX12_moves 71 = .ok (.aload_n 0, 1) := do_42 (rdb (p := 64) (i := 7) ch_cX12_moves_64 rfl)
theorem dX12_moves_72 : decode cX12_moves 72 = .ok (.ldc 110, 2) := do_18 (rdb (p := 64) (i := 8) ch_cX12_moves_64 rfl) (rdb (p := 64) (i := 9) ch_cX12_moves_64 rfl)
theorem dX12_moves_74 : decode cX12_moves 74 = .ok (.invokevirtual 104, 3) := do_182 (rdb (p := 64) (i := 10) ch_cX12_moves_64 rfl) (rdb (p := 64) (i := 11) ch_cX12_moves_64 rfl) (rdb (p := 64) (i := 12) ch_cX12_moves_64 rfl) rfl
theorem dX12_moves_77 : decode cX12_moves 77 = .ok (.ireturn, 1) := do_172 (rdb (p := 64) (i := 13) ch_cX12_moves_64 rfl)
theorem dX12_moves_78 : decode cX12_moves 78 = .ok (.aload_n 0, 1) := do_42 (rdb (p := 64) (i := 14) ch_cX12_moves_64 rfl)
theorem dX12_moves_79 : decode cX12_moves 79 = .ok (.getfield 9, 3) := do_180 (rdb (p := 64) (i := 15) ch_cX12_moves_64 rfl) (rdb (p := 64) (i := 16) ch_cX12_moves_64 rfl) (rdb (p := 64) (i := 17) ch_cX12_moves_64 rfl) rfl
theorem dX12_moves_82 : decode cX12_moves 82 = .ok (.aload_n 0, 1) := do_42 (rdb (p := 64) (i := 18) ch_cX12_moves_64 rfl)
theorem dX12_moves_83 : decode cX12_moves 83 = .ok (.iload_n 1, 1) := do_27 (rdb (p := 64) (i := 19) ch_cX12_moves_64 rfl)
theorem dX12_moves_84 : decode cX12_moves 84 = .ok (.invokevirtual 89, 3) := do_182 (rdb (p := 64) (i := 20) ch_cX12_moves_64 rfl) (rdb (p := 64) (i := 21) ch_cX12_moves_64 rfl) (rdb (p := 64) (i := 22) ch_cX12_moves_64 rfl) rfl
theorem dX12_moves_87 : decode cX12_moves 87 = .ok (.iconst 2, 1) := do_5 (rdb (p := 64) (i := 23) ch_cX12_moves_64 rfl)
theorem dX12_moves_88 : decode cX12_moves 88 = .ok (.iadd, 1) := do_96 (rdb (p := 64) (i := 24) ch_cX12_moves_64 rfl)
theorem dX12_moves_89 : decode cX12_moves 89 = .ok (.iload_n 2, 1) := do_28 (rdb (p := 64) (i := 25) ch_cX12_moves_64 rfl)
theorem dX12_moves_90 : decode cX12_moves 90 = .ok (.iastore, 1) := do_79 (rdb (p := 64) (i := 26) ch_cX12_moves_64 rfl)
theorem dX12_moves_91 : decode cX12_moves 91 = .ok (.aload_n 0, 1) := do_42 (rdb (p := 64) (i := 27) ch_cX12_moves_64 rfl)
theorem dX12_moves_92 : decode cX12_moves 92 = .ok (.getfield 9, 3) := do_180 (rdb (p := 64) (i := 28) ch_cX12_moves_64 rfl) (rdb (p := 64) (i := 29) ch_cX12_moves_64 rfl) (rdb (p := 64) (i := 30) ch_cX12_moves_64 rfl) rfl
theorem dX12_moves_95 : decode cX12_moves 95 = .ok (.aload_n 0, 1) := do_42 (rdb (p := 64) (i := 31) ch_cX12_moves_64 rfl)
theorem ch_cX12_moves_96 : (cX12_moves.data.toList.drop 96).take 36 = [27, 182, 0, 89, 6, 96, 29, 79, 4, 172] := by decide +kernel
theorem dX12_moves_96 : decode cX12_moves 96 = .ok (.iload_n 1, 1) := do_27 (rdb (p := 96) (i := 0) ch_cX12_moves_96 rfl)
theorem dX12_moves_97 : decode cX12_moves 97 = .ok (.invokevirtual 89, 3) := do_182 (rdb (p := 96) (i := 1) ch_cX12_moves_96 rfl) (rdb (p := 96) (i := 2) ch_cX12_moves_96 rfl) (rdb (p := 96) (i := 3) ch_cX12_moves_96 rfl) rfl
theorem dX12_moves_100 : decode cX12_moves 100 = .ok (.iconst 3, 1) := do_6 (rdb (p := 96) (i := 4) ch_cX12_moves_96 rfl)
theorem dX12_moves_101 : decode cX12_moves 101 = .ok (.iadd, 1) := do_96 (rdb (p := 96) (i := 5) ch_cX12_moves_96 rfl)
theorem dX12_moves_102 : decode cX12_moves 102 = .ok (.iload_n 3, 1) := do_29 (rdb (p := 96) (i := 6) ch_cX12_moves_96 rfl)
theorem dX12_moves_103 : decode cX12_moves 103 = .ok (.iastore, 1) := do_79 (rdb (p := 96) (i := 7) ch_cX12_moves_96 rfl)
theorem dX12_moves_104 : decode cX12_moves 104 = .ok (.iconst 1, 1) := do_4 (rdb (p := 96) (i := 8) ch_cX12_moves_96 rfl)
theorem dX12_moves_105 : decode cX12_moves 105 = .ok (.ireturn, 1) := do_172 (rdb (p := 96) (i := 9) ch_cX12_moves_96 rfl)
theorem dX12_reach_0 : decode cX12_reach 0 = .ok (.aload_n 0, 1) := by decide +kernel
theorem dX12_reach_1 : decode cX12_reach 1 = .ok (.iload_n 1, 1) := by decide +kernel
theorem dX12_reach_2 : decode cX12_reach 2 = .ok (.invokevirtual 137, 3) := by decide +kernel
theorem dX12_reach_5 : decode cX12_reach 5 = .ok (.invokestatic 134, 3) := by decide +kernel
theorem dX12_reach_8 : decode cX12_reach 8 = .ok (.ireturn, 1) := by decide +kernel
theorem ch_cX12_reachOf_0 : (cX12_reachOf.data.toList.drop 0).take 36 = [26, 170, 0, 0, 0, 0, 0, 77, 0, 0, 0, 0, 0, 0, 0, 6, 0, 0, 0, 43, 0, 0, 0, 45, 0, 0, 0, 52, 0, 0, 0, 54, 0, 0, 0, 61] := by decide +kernel
theorem dX12_reachOf_0 : decode cX12_reachOf 0 = .ok (.iload_n 0, 1) := do_26 (rdb (p := 0) (i := 0) ch_cX12_reachOf_0 rfl)
theorem dX12_reachOf_1 : decode cX12_reachOf 1 = .ok (.tableswitch 77 0 6 #[43, 45, 52, 54, 61, 63, 70], 43) := by decide +kernel
theorem ch_cX12_reachOf_32 : (cX12_reachOf.data.toList.drop 32).take 36 = [0, 0, 0, 61, 0, 0, 0, 63, 0, 0, 0, 70, 6, 172, 7, 3, 184, 0, 134, 104, 172, 4, 172, 5, 3, 184, 0, 134, 104, 172, 3, 172, 4, 184, 0, 134] := by decide +kernel
theorem dX12_reachOf_44 : decode cX12_reachOf 44 = .ok (.iconst 3, 1) := do_6 (rdb (p := 32) (i := 12) ch_cX12_reachOf_32 rfl)
theorem dX12_reachOf_45 : decode cX12_reachOf 45 = .ok (.ireturn, 1) := do_172 (rdb (p := 32) (i := 13) ch_cX12_reachOf_32 rfl)
theorem dX12_reachOf_46 : decode cX12_reachOf 46 = .ok (.iconst 4, 1) := do_7 (rdb (p := 32) (i := 14) ch_cX12_reachOf_32 rfl)
theorem dX12_reachOf_47 : decode cX12_reachOf 47 = .ok (.iconst 0, 1) := do_3 (rdb (p := 32) (i := 15) ch_cX12_reachOf_32 rfl)
theorem dX12_reachOf_48 : decode cX12_reachOf 48 = .ok (.invokestatic 134, 3) := do_184 (rdb (p := 32) (i := 16) ch_cX12_reachOf_32 rfl) (rdb (p := 32) (i := 17) ch_cX12_reachOf_32 rfl) (rdb (p := 32) (i := 18) ch_cX12_reachOf_32 rfl) rfl
theorem dX12_reachOf_51 : decode cX12_reachOf 51 = .ok (.imul, 1) := do_104 (rdb (p := 32) (i := 19) ch_cX12_reachOf_32 rfl)
theorem dX12_reachOf_52 : decode cX12_reachOf 52 = .ok (.ireturn, 1) := do_172 (rdb (p := 32) (i := 20) ch_cX12_reachOf_32 rfl)
theorem dX12_reachOf_53 : decode cX12_reachOf 53 = .ok (.iconst 1, 1) := do_4 (rdb (p := 32) (i := 21) ch_cX12_reachOf_32 rfl)
theorem dX12_reachOf_54 : decode cX12_reachOf 54 = .ok (.ireturn, 1) := do_172 (rdb (p := 32) (i := 22) ch_cX12_reachOf_32 rfl)
theorem dX12_reachOf_55 : decode cX12_reachOf 55 = .ok (.iconst 2, 1) := do_5 (rdb (p := 32) (i := 23) ch_cX12_reachOf_32 rfl)
theorem dX12_reachOf_56 : decode cX12_reachOf 56 = .ok (.iconst 0, 1) := do_3 (rdb (p := 32) (i := 24) ch_cX12_reachOf_32 rfl)
theorem dX12_reachOf_57 : decode cX12_reachOf 57 = .ok (.invokestatic 134, 3) := do_184 (rdb (p := 32) (i := 25) ch_cX12_reachOf_32 rfl) (rdb (p := 32) (i := 26) ch_cX12_reachOf_32 rfl) (rdb (p := 32) (i := 27) ch_cX12_reachOf_32 rfl) rfl
theorem dX12_reachOf_60 : decode cX12_reachOf 60 = .ok (.imul, 1) := do_104 (rdb (p := 32) (i := 28) ch_cX12_reachOf_32 rfl)
theorem dX12_reachOf_61 : decode cX12_reachOf 61 = .ok (.ireturn, 1) := do_172 (rdb (p := 32) (i := 29) ch_cX12_reachOf_32 rfl)
theorem dX12_reachOf_62 : decode cX12_reachOf 62 = .ok (.iconst 0, 1) := do_3 (rdb (p := 32) (i := 30) ch_cX12_reachOf_32 rfl)
theorem dX12_reachOf_63 : decode cX12_reachOf 63 = .ok (.ireturn, 1) := do_172 (rdb (p := 32) (i := 31) ch_cX12_reachOf_32 rfl)
theorem ch_cX12_reachOf_64 : (cX12_reachOf.data.toList.drop 64).take 36 = [4, 184, 0, 134, 5, 108, 172, 6, 184, 0, 134, 4, 100, 172, 4, 184, 0, 134, 5, 100, 172] := by decide +kernel
theorem dX12_reachOf_64 : decode cX12_reachOf 64 = .ok (.iconst 1, 1) := do_4 (rdb (p := 64) (i := 0) ch_cX12_reachOf_64 rfl)
theorem dX12_reachOf_65 : decode cX12_reachOf 65 = .ok (.invokestatic 134, 3) := do_184 (rdb (p := 64) (i := 1) ch_cX12_reachOf_64 rfl) (rdb (p := 64) (i := 2) ch_cX12_reachOf_64 rfl) (rdb (p := 64) (i := 3) ch_cX12_reachOf_64 rfl) rfl
theorem dX12_reachOf_68 : decode cX12_reachOf 68 = .ok (.iconst 2, 1) := do_5 (rdb (p := 64) (i := 4) ch_cX12_reachOf_64 rfl)
theorem dX12_reachOf_69 : decode cX12_reachOf 69 = .ok (.idiv, 1) := do_108 (rdb (p := 64) (i := 5) ch_cX12_reachOf_64 rfl)
theorem dX12_reachOf_70 : decode cX12_reachOf 70 = .ok (.ireturn, 1) := do_172 (rdb (p := 64) (i := 6) ch_cX12_reachOf_64 rfl)
theorem dX12_reachOf_71 : decode cX12_reachOf 71 = .ok (.iconst 3, 1) := do_6 (rdb (p := 64) (i := 7) ch_cX12_reachOf_64 rfl)
theorem dX12_reachOf_72 : decode cX12_reachOf 72 = .ok (.invokestatic 134, 3) := do_184 (rdb (p := 64) (i := 8) ch_cX12_reachOf_64 rfl) (rdb (p := 64) (i := 9) ch_cX12_reachOf_64 rfl) (rdb (p := 64) (i := 10) ch_cX12_reachOf_64 rfl) rfl
theorem dX12_reachOf_75 : decode cX12_reachOf 75 = .ok (.iconst 1, 1) := do_4 (rdb (p := 64) (i := 11) ch_cX12_reachOf_64 rfl)
theorem dX12_reachOf_76 : decode cX12_reachOf 76 = .ok (.isub, 1) := do_100 (rdb (p := 64) (i := 12) ch_cX12_reachOf_64 rfl)
theorem dX12_reachOf_77 : decode cX12_reachOf 77 = .ok (.ireturn, 1) := do_172 (rdb (p := 64) (i := 13) ch_cX12_reachOf_64 rfl)
theorem dX12_reachOf_78 : decode cX12_reachOf 78 = .ok (.iconst 1, 1) := do_4 (rdb (p := 64) (i := 14) ch_cX12_reachOf_64 rfl)
theorem dX12_reachOf_79 : decode cX12_reachOf 79 = .ok (.invokestatic 134, 3) := do_184 (rdb (p := 64) (i := 15) ch_cX12_reachOf_64 rfl) (rdb (p := 64) (i := 16) ch_cX12_reachOf_64 rfl) (rdb (p := 64) (i := 17) ch_cX12_reachOf_64 rfl) rfl
theorem dX12_reachOf_82 : decode cX12_reachOf 82 = .ok (.iconst 2, 1) := do_5 (rdb (p := 64) (i := 18) ch_cX12_reachOf_64 rfl)
theorem dX12_reachOf_83 : decode cX12_reachOf 83 = .ok (.isub, 1) := do_100 (rdb (p := 64) (i := 19) ch_cX12_reachOf_64 rfl)
theorem dX12_reachOf_84 : decode cX12_reachOf 84 = .ok (.ireturn, 1) := do_172 (rdb (p := 64) (i := 20) ch_cX12_reachOf_64 rfl)
theorem dX12_thingIs_0 : decode cX12_thingIs 0 = .ok (.aload_n 0, 1) := by decide +kernel
theorem dX12_thingIs_1 : decode cX12_thingIs 1 = .ok (.iload_n 1, 1) := by decide +kernel
theorem dX12_thingIs_2 : decode cX12_thingIs 2 = .ok (.iconst 1, 1) := by decide +kernel
theorem dX12_thingIs_3 : decode cX12_thingIs 3 = .ok (.invokevirtual 116, 3) := by decide +kernel
theorem dX12_thingIs_6 : decode cX12_thingIs 6 = .ok (.ifCond .eq 27, 3) := by decide +kernel
theorem dX12_thingIs_9 : decode cX12_thingIs 9 = .ok (.iload_n 2, 1) := by decide +kernel
theorem dX12_thingIs_10 : decode cX12_thingIs 10 = .ok (.iconst 0, 1) := by decide +kernel
theorem dX12_thingIs_11 : decode cX12_thingIs 11 = .ok (.iconst 3, 1) := by decide +kernel
theorem dX12_thingIs_12 : decode cX12_thingIs 12 = .ok (.invokestatic 85, 3) := by decide +kernel
theorem dX12_thingIs_15 : decode cX12_thingIs 15 = .ok (.ifCond .eq 18, 3) := by decide +kernel
theorem dX12_thingIs_18 : decode cX12_thingIs 18 = .ok (.aload_n 0, 1) := by decide +kernel
theorem dX12_thingIs_19 : decode cX12_thingIs 19 = .ok (.getfield 9, 3) := by decide +kernel
theorem dX12_thingIs_22 : decode cX12_thingIs 22 = .ok (.aload_n 0, 1) := by decide +kernel
theorem dX12_thingIs_23 : decode cX12_thingIs 23 = .ok (.iload_n 1, 1) := by decide +kernel
theorem dX12_thingIs_24 : decode cX12_thingIs 24 = .ok (.invokevirtual 89, 3) := by decide +kernel
theorem dX12_thingIs_27 : decode cX12_thingIs 27 = .ok (.iload_n 2, 1) := by decide +kernel
theorem dX12_thingIs_28 : decode cX12_thingIs 28 = .ok (.iadd, 1) := by decide +kernel
theorem dX12_thingIs_29 : decode cX12_thingIs 29 = .ok (.iaload, 1) := by decide +kernel
theorem dX12_thingIs_30 : decode cX12_thingIs 30 = .ok (.goto 9, 3) := by decide +kernel
theorem dX12_thingIs_33 : decode cX12_thingIs 33 = .ok (.aload_n 0, 1) := by decide +kernel
theorem dX12_thingIs_34 : decode cX12_thingIs 34 = .ok (.ldc 103, 2) := by decide +kernel
theorem dX12_thingIs_36 : decode cX12_thingIs 36 = .ok (.invokevirtual 104, 3) := by decide +kernel
theorem dX12_thingIs_39 : decode cX12_thingIs 39 = .ok (.ireturn, 1) := by decide +kernel
theorem ch_cX12_thing__0 : (cX12_thing_.data.toList.drop 0).take 36 = [27, 3, 7, 184, 0, 85, 153, 0, 10, 28, 184, 0, 99, 154, 0, 10, 42, 18, 103, 182, 0, 104, 172, 42, 28, 182, 0, 107, 154, 0, 10, 42, 18, 110, 182, 0] := by decide +kernel
theorem dX12_thing__0 : decode cX12_thing_ 0 = .ok (.iload_n 1, 1) := do_27 (rdb (p := 0) (i := 0) ch_cX12_thing__0 rfl)
theorem dX12_thing__1 : decode cX12_thing_ 1 = .ok (.iconst 0, 1) := do_3 (rdb (p := 0) (i := 1) ch_cX12_thing__0 rfl)
theorem dX12_thing__2 : decode cX12_thing_ 2 = .ok (.iconst 4, 1) := do_7 (rdb (p := 0) (i := 2) ch_cX12_thing__0 rfl)
theorem dX12_thing__3 : decode cX12_thing_ 3 = .ok (.invokestatic 85, 3) := do_184 (rdb (p := 0) (i := 3) ch_cX12_thing__0 rfl) (rdb (p := 0) (i := 4) ch_cX12_thing__0 rfl) (rdb (p := 0) (i := 5) ch_cX12_thing__0 rfl) rfl
theorem dX12_thing__6 : decode cX12_thing_ 6 = .ok (.ifCond .eq 10, 3) := do_153 (rdb (p := 0) (i := 6) ch_cX12_thing__0 rfl) (rdb (p := 0) (i := 7) ch_cX12_thing__0 rfl) (rdb (p := 0) (i := 8) ch_cX12_thing__0 rfl) (by decide +kernel)
theorem dX12_thing__9 : decode cX12_thing_ 9 = .ok (.iload_n 2, 1) := do_28 (rdb (p := 0) (i := 9) ch_cX12_thing__0 rfl)
theorem dX12_thing__10 : decode cX12_thing_ 10 = .ok (.invokestatic 99, 3) := do_184 (rdb (p := 0) (i := 10) ch_cX12_thing__0 rfl) (rdb (p := 0) (i := 11) ch_cX12_thing__0 rfl) (rdb (p := 0) (i := 12) ch_cX12_thing__0 rfl) rfl
theorem dX12_thing__13 : decode cX12_thing_ 13 = .ok (.ifCond .ne 10, 3) := do_154 (rdb (p := 0) (i := 13) ch_cX12_thing__0 rfl) (rdb (p := 0) (i := 14) ch_cX12_thing__0 rfl) (rdb (p := 0) (i := 15) ch_cX12_thing__0 rfl) (by decide +kernel)
theorem dX12_thing__16 : decode cX12_thing_ 16 = .ok (.aload_n 0, 1) := do_42 (rdb (p := 0) (i := 16) ch_cX12_thing__0 rfl)
theorem dX12_thing__17 : decode cX12_thing_ 17 = .ok (.ldc 103, 2) := do_18 (rdb (p := 0) (i := 17) ch_cX12_thing__0 rfl) (rdb (p := 0) (i := 18) ch_cX12_thing__0 rfl)
theorem dX12_thing__19 : decode cX12_thing_ 19 = .ok (.invokevirtual 104, 3) := do_182 (rdb (p := 0) (i := 19) ch_cX12_thing__0 rfl) (rdb (p := 0) (i := 20) ch_cX12_thing__0 rfl) (rdb (p := 0) (i := 21) ch_cX12_thing__0 rfl) rfl
theorem dX12_thing__22 : decode cX12_thing_ 22 = .ok (.ireturn, 1) := do_172 (rdb (p := 0) (i := 22) ch_cX12_thing__0 rfl)
theorem dX12_thing__23 : decode cX12_thing_ 23 = .ok (.aload_n 0, 1) := do_42 (rdb (p := 0) (i := 23) ch_cX12_thing__0 rfl)
theorem dX12_thing__24 : decode cX12_thing_ 24 = .ok (.iload_n 2, 1) := do_28 (rdb (p := 0) (i := 24) ch_cX12_thing__0 rfl)
theorem dX12_thing__25 : decode cX12_thing_ 25 = .ok (.invokevirtual 107, 3) := do_182 (rdb (p := 0) (i := 25) ch_cX12_thing__0 rfl) (rdb (p := 0) (i := 26) ch_cX12_thing__0 rfl) (rdb (p := 0) (i := 27) ch_cX12_thing__0 rfl) rfl
theorem dX12_thing__28 : decode cX12_thing_ 28 = .ok (.ifCond .ne 10, 3) := do_154 (rdb (p := 0) (i := 28) ch_cX12_thing__0 rfl) (rdb (p := 0) (i := 29) ch_cX12_thing__0 rfl) (rdb (p := 0) (i := 30) ch_cX12_thing__0 rfl) (by decide +kernel)
theorem dX12_thing__31 : decode cX12_thing_ 31 = .ok (.aload_n 0, 1) := do_42 (rdb (p := 0) (i := 31) ch_cX12_thing__0 rfl)
theorem ch_cX12_thing__32 : (cX12_thing_.data.toList.drop 32).take 36 = [18, 110, 182, 0, 104, 172, 42, 180, 0, 9, 4, 46, 16, 40, 160, 0, 12, 42, 18, 111, 182, 0, 104, 167, 0, 9, 42, 27, 28, 182, 0, 112, 172] := by decide +kernel
theorem dX12_thing__32 : decode cX12_thing_ 32 = .ok (.ldc 110, 2) := do_18 (rdb (p := 32) (i := 0) ch_cX12_thing__32 rfl) (rdb (p := 32) (i := 1) ch_cX12_thing__32 rfl)
theorem dX12_thing__34 : decode cX12_thing_ 34 = .ok (.invokevirtual 104, 3) := do_182 (rdb (p := 32) (i := 2) ch_cX12_thing__32 rfl) (rdb (p := 32) (i := 3) ch_cX12_thing__32 rfl) (rdb (p := 32) (i := 4) ch_cX12_thing__32 rfl) rfl
theorem dX12_thing__37 : decode cX12_thing_ 37 = .ok (.ireturn, 1) := do_172 (rdb (p := 32) (i := 5) ch_cX12_thing__32 rfl)
theorem dX12_thing__38 : decode cX12_thing_ 38 = .ok (.aload_n 0, 1) := do_42 (rdb (p := 32) (i := 6) ch_cX12_thing__32 rfl)
theorem dX12_thing__39 : decode cX12_thing_ 39 = .ok (.getfield 9, 3) := do_180 (rdb (p := 32) (i := 7) ch_cX12_thing__32 rfl) (rdb (p := 32) (i := 8) ch_cX12_thing__32 rfl) (rdb (p := 32) (i := 9) ch_cX12_thing__32 rfl) rfl
theorem dX12_thing__42 : decode cX12_thing_ 42 = .ok (.iconst 1, 1) := do_4 (rdb (p := 32) (i := 10) ch_cX12_thing__32 rfl)
theorem dX12_thing__43 : decode cX12_thing_ 43 = .ok (.iaload, 1) := do_46 (rdb (p := 32) (i := 11) ch_cX12_thing__32 rfl)
theorem dX12_thing__44 : decode cX12_thing_ 44 = .ok (.bipush 40, 2) := do_16 (rdb (p := 32) (i := 12) ch_cX12_thing__32 rfl) (rdb (p := 32) (i := 13) ch_cX12_thing__32 rfl) (by decide +kernel)
theorem dX12_thing__46 : decode cX12_thing_ 46 = .ok (.if_icmp .ne 12, 3) := do_160 (rdb (p := 32) (i := 14) ch_cX12_thing__32 rfl) (rdb (p := 32) (i := 15) ch_cX12_thing__32 rfl) (rdb (p := 32) (i := 16) ch_cX12_thing__32 rfl) (by decide +kernel)
theorem dX12_thing__49 : decode cX12_thing_ 49 = .ok (.aload_n 0, 1) := do_42 (rdb (p := 32) (i := 17) ch_cX12_thing__32 rfl)
theorem dX12_thing__50 : decode cX12_thing_ 50 = .ok (.ldc 111, 2) := do_18 (rdb (p := 32) (i := 18) ch_cX12_thing__32 rfl) (rdb (p := 32) (i := 19) ch_cX12_thing__32 rfl)
theorem dX12_thing__52 : decode cX12_thing_ 52 = .ok (.invokevirtual 104, 3) := do_182 (rdb (p := 32) (i := 20) ch_cX12_thing__32 rfl) (rdb (p := 32) (i := 21) ch_cX12_thing__32 rfl) (rdb (p := 32) (i := 22) ch_cX12_thing__32 rfl) rfl
theorem dX12_thing__55 : decode cX12_thing_ 55 = .ok (.goto 9, 3) := do_167 (rdb (p := 32) (i := 23) ch_cX12_thing__32 rfl) (rdb (p := 32) (i := 24) ch_cX12_thing__32 rfl) (rdb (p := 32) (i := 25) ch_cX12_thing__32 rfl) (by decide +kernel)
theorem dX12_thing__58 : decode cX12_thing_ 58 = .ok (.aload_n 0, 1) := do_42 (rdb (p := 32) (i := 26) ch_cX12_thing__32 rfl)
theorem dX12_thing__59 : decode cX12_thing_ 59 = .ok (.iload_n 1, 1) := do_27 (rdb (p := 32) (i := 27) ch_cX12_thing__32 rfl)
theorem dX12_thing__60 : decode cX12_thing_ 60 = .ok (.iload_n 2, 1) := do_28 (rdb (p := 32) (i := 28) ch_cX12_thing__32 rfl)
theorem dX12_thing__61 : decode cX12_thing_ 61 = .ok (.invokevirtual 112, 3) := do_182 (rdb (p := 32) (i := 29) ch_cX12_thing__32 rfl) (rdb (p := 32) (i := 30) ch_cX12_thing__32 rfl) (rdb (p := 32) (i := 31) ch_cX12_thing__32 rfl) rfl
theorem ch_cX12_thing__64 : (cX12_thing_.data.toList.drop 64).take 36 = [172] := by decide +kernel
theorem dX12_thing__64 : decode cX12_thing_ 64 = .ok (.ireturn, 1) := do_172 (rdb (p := 64) (i := 0) ch_cX12_thing__64 rfl)
theorem ch_cX12_walker_0 : (cX12_walker.data.toList.drop 0).take 36 = [27, 3, 16, 7, 184, 0, 85, 153, 0, 17, 28, 184, 0, 99, 153, 0, 10, 29, 184, 0, 120, 154, 0, 10, 42, 18, 103, 182, 0, 104, 172, 42, 28, 182, 0, 107] := by decide +kernel
theorem dX12_walker_0 : decode cX12_walker 0 = .ok (.iload_n 1, 1) := do_27 (rdb (p := 0) (i := 0) ch_cX12_walker_0 rfl)
theorem dX12_walker_1 : decode cX12_walker 1 = .ok (.iconst 0, 1) := do_3 (rdb (p := 0) (i := 1) ch_cX12_walker_0 rfl)
theorem dX12_walker_2 : decode cX12_walker 2 = .ok (.bipush 7, 2) := do_16 (rdb (p := 0) (i := 2) ch_cX12_walker_0 rfl) (rdb (p := 0) (i := 3) ch_cX12_walker_0 rfl) (by decide +kernel)
theorem dX12_walker_4 : decode cX12_walker 4 = .ok (.invokestatic 85, 3) := do_184 (rdb (p := 0) (i := 4) ch_cX12_walker_0 rfl) (rdb (p := 0) (i := 5) ch_cX12_walker_0 rfl) (rdb (p := 0) (i := 6) ch_cX12_walker_0 rfl) rfl
theorem dX12_walker_7 : decode cX12_walker 7 = .ok (.ifCond .eq 17, 3) := do_153 (rdb (p := 0) (i := 7) ch_cX12_walker_0 rfl) (rdb (p := 0) (i := 8) ch_cX12_walker_0 rfl) (rdb (p := 0) (i := 9) ch_cX12_walker_0 rfl) (by decide +kernel)
theorem dX12_walker_10 : decode cX12_walker 10 = .ok (.iload_n 2, 1) := do_28 (rdb (p := 0) (i := 10) ch_cX12_walker_0 rfl)
theorem dX12_walker_11 : decode cX12_walker 11 = .ok (.invokestatic 99, 3) := do_184 (rdb (p := 0) (i := 11) ch_cX12_walker_0 rfl) (rdb (p := 0) (i := 12) ch_cX12_walker_0 rfl) (rdb (p := 0) (i := 13) ch_cX12_walker_0 rfl) rfl
theorem dX12_walker_14 : decode cX12_walker 14 = .ok (.ifCond .eq 10, 3) := do_153 (rdb (p := 0) (i := 14) ch_cX12_walker_0 rfl) (rdb (p := 0) (i := 15) ch_cX12_walker_0 rfl) (rdb (p := 0) (i := 16) ch_cX12_walker_0 rfl) (by decide +kernel)
theorem dX12_walker_17 : decode cX12_walker 17 = .ok (.iload_n 3, 1) := do_29 (rdb (p := 0) (i := 17) ch_cX12_walker_0 rfl)
theorem dX12_walker_18 : decode cX12_walker 18 = .ok (.invokestatic 120, 3) := do_184 (rdb (p := 0) (i := 18) ch_cX12_walker_0 rfl) (rdb (p := 0) (i := 19) ch_cX12_walker_0 rfl) (rdb (p := 0) (i := 20) ch_cX12_walker_0 rfl) rfl
theorem dX12_walker_21 : decode cX12_walker 21 = .ok (.ifCond .ne 10, 3) := do_154 (rdb (p := 0) (i := 21) ch_cX12_walker_0 rfl) (rdb (p := 0) (i := 22) ch_cX12_walker_0 rfl) (rdb (p := 0) (i := 23) ch_cX12_walker_0 rfl) (by decide +kernel)
theorem dX12_walker_24 : decode cX12_walker 24 = .ok (.aload_n 0, 1) := do_42 (rdb (p := 0) (i := 24) ch_cX12_walker_0 rfl)
theorem dX12_walker_25 : decode cX12_walker 25 = .ok (.ldc 103, 2) := do_18 (rdb (p := 0) (i := 25) ch_cX12_walker_0 rfl) (rdb (p := 0) (i := 26) ch_cX12_walker_0 rfl)
theorem dX12_walker_27 : decode cX12_walker 27 = .ok (.invokevirtual 104, 3) := do_182 (rdb (p := 0) (i := 27) ch_cX12_walker_0 rfl) (rdb (p := 0) (i := 28) ch_cX12_walker_0 rfl) (rdb (p := 0) (i := 29) ch_cX12_walker_0 rfl) rfl
theorem dX12_walker_30 : decode cX12_walker 30 = .ok (.ireturn, 1) := do_172 (rdb (p := 0) (i := 30) ch_cX12_walker_0 rfl)
theorem dX12_walker_31 : decode cX12_walker 31 = .ok (.aload_n 0, 1) := do_42 (rdb (p := 0) (i := 31) ch_cX12_walker_0 rfl)
theorem ch_cX12_walker_32 : (cX12_walker.data.toList.drop 32).take 36 = [28, 182, 0, 107, 154, 0, 10, 42, 18, 110, 182, 0, 104, 172, 42, 180, 0, 9, 5, 46, 54, 4, 21, 4, 16, 8, 160, 0, 10, 42, 18, 111, 182, 0, 104, 172] := by decide +kernel
theorem dX12_walker_32 : decode cX12_walker 32 = .ok (.iload_n 2, 1) := do_28 (rdb (p := 32) (i := 0) ch_cX12_walker_32 rfl)
theorem dX12_walker_33 : decode cX12_walker 33 = .ok (.invokevirtual 107, 3) := do_182 (rdb (p := 32) (i := 1) ch_cX12_walker_32 rfl) (rdb (p := 32) (i := 2) ch_cX12_walker_32 rfl) (rdb (p := 32) (i := 3) ch_cX12_walker_32 rfl) rfl
theorem dX12_walker_36 : decode cX12_walker 36 = .ok (.ifCond .ne 10, 3) := do_154 (rdb (p := 32) (i := 4) ch_cX12_walker_32 rfl) (rdb (p := 32) (i := 5) ch_cX12_walker_32 rfl) (rdb (p := 32) (i := 6) ch_cX12_walker_32 rfl) (by decide +kernel)
theorem dX12_walker_39 : decode cX12_walker 39 = .ok (.aload_n 0, 1) := do_42 (rdb (p := 32) (i := 7) ch_cX12_walker_32 rfl)
theorem dX12_walker_40 : decode cX12_walker 40 = .ok (.ldc 110, 2) := do_18 (rdb (p := 32) (i := 8) ch_cX12_walker_32 rfl) (rdb (p := 32) (i := 9) ch_cX12_walker_32 rfl)
theorem dX12_walker_42 : decode cX12_walker 42 = .ok (.invokevirtual 104, 3) := do_182 (rdb (p := 32) (i := 10) ch_cX12_walker_32 rfl) (rdb (p := 32) (i := 11) ch_cX12_walker_32 rfl) (rdb (p := 32) (i := 12) ch_cX12_walker_32 rfl) rfl
theorem dX12_walker_45 : decode cX12_walker 45 = .ok (.ireturn, 1) := do_172 (rdb (p := 32) (i := 13) ch_cX12_walker_32 rfl)
theorem dX12_walker_46 : decode cX12_walker 46 = .ok (.aload_n 0, 1) := do_42 (rdb (p := 32) (i := 14) ch_cX12_walker_32 rfl)
theorem dX12_walker_47 : decode cX12_walker 47 = .ok (.getfield 9, 3) := do_180 (rdb (p := 32) (i := 15) ch_cX12_walker_32 rfl) (rdb (p := 32) (i := 16) ch_cX12_walker_32 rfl) (rdb (p := 32) (i := 17) ch_cX12_walker_32 rfl) rfl
theorem dX12_walker_50 : decode cX12_walker 50 = .ok (.iconst 2, 1) := do_5 (rdb (p := 32) (i := 18) ch_cX12_walker_32 rfl)
theorem dX12_walker_51 : decode cX12_walker 51 = .ok (.iaload, 1) := do_46 (rdb (p := 32) (i := 19) ch_cX12_walker_32 rfl)
theorem dX12_walker_52 : decode cX12_walker 52 = .ok (.istore 4, 2) := do_54 (rdb (p := 32) (i := 20) ch_cX12_walker_32 rfl) (rdb (p := 32) (i := 21) ch_cX12_walker_32 rfl)
theorem dX12_walker_54 : decode cX12_walker 54 = .ok (.iload 4, 2) := do_21 (rdb (p := 32) (i := 22) ch_cX12_walker_32 rfl) (rdb (p := 32) (i := 23) ch_cX12_walker_32 rfl)
theorem dX12_walker_56 : decode cX12_walker 56 = .ok (.bipush 8, 2) := do_16 (rdb (p := 32) (i := 24) ch_cX12_walker_32 rfl) (rdb (p := 32) (i := 25) ch_cX12_walker_32 rfl) (by decide +kernel)
theorem dX12_walker_58 : decode cX12_walker 58 = .ok (.if_icmp .ne 10, 3) := do_160 (rdb (p := 32) (i := 26) ch_cX12_walker_32 rfl) (rdb (p := 32) (i := 27) ch_cX12_walker_32 rfl) (rdb (p := 32) (i := 28) ch_cX12_walker_32 rfl) (by decide +kernel)
theorem dX12_walker_61 : decode cX12_walker 61 = .ok (.aload_n 0, 1) := do_42 (rdb (p := 32) (i := 29) ch_cX12_walker_32 rfl)
theorem dX12_walker_62 : decode cX12_walker 62 = .ok (.ldc 111, 2) := do_18 (rdb (p := 32) (i := 30) ch_cX12_walker_32 rfl) (rdb (p := 32) (i := 31) ch_cX12_walker_32 rfl)
theorem ch_cX12_walker_64 : (cX12_walker.data.toList.drop 64).take 36 = [182, 0, 104, 172, 42, 21, 4, 182, 0, 93, 54, 5, 42, 180, 0, 9, 21, 5, 3, 96, 27, 79, 42, 180, 0, 9, 21, 5, 4, 96, 28, 79, 42, 180, 0, 9] := by decide +kernel
theorem dX12_walker_64 : decode cX12_walker 64 = .ok (.invokevirtual 104, 3) := do_182 (rdb (p := 64) (i := 0) ch_cX12_walker_64 rfl) (rdb (p := 64) (i := 1) ch_cX12_walker_64 rfl) (rdb (p := 64) (i := 2) ch_cX12_walker_64 rfl) rfl
theorem dX12_walker_67 : decode cX12_walker 67 = .ok (.ireturn, 1) := do_172 (rdb (p := 64) (i := 3) ch_cX12_walker_64 rfl)
theorem dX12_walker_68 : decode cX12_walker 68 = .ok (.aload_n 0, 1) := do_42 (rdb (p := 64) (i := 4) ch_cX12_walker_64 rfl)
theorem dX12_walker_69 : decode cX12_walker 69 = .ok (.iload 4, 2) := do_21 (rdb (p := 64) (i := 5) ch_cX12_walker_64 rfl) (rdb (p := 64) (i := 6) ch_cX12_walker_64 rfl)
theorem dX12_walker_71 : decode cX12_walker 71 = .ok (.invokevirtual 93, 3) := do_182 (rdb (p := 64) (i := 7) ch_cX12_walker_64 rfl) (rdb (p := 64) (i := 8) ch_cX12_walker_64 rfl) (rdb (p := 64) (i := 9) ch_cX12_walker_64 rfl) rfl
theorem dX12_walker_74 : decode cX12_walker 74 = .ok (.istore 5, 2) := do_54 (rdb (p := 64) (i := 10) ch_cX12_walker_64 rfl) (rdb (p := 64) (i := 11) ch_cX12_walker_64 rfl)
theorem dX12_walker_76 : decode cX12_walker 76 = .ok (.aload_n 0, 1) := do_42 (rdb (p := 64) (i := 12) ch_cX12_walker_64 rfl)
theorem dX12_walker_77 : decode cX12_walker 77 = .ok (.getfield 9, 3) := do_180 (rdb (p := 64) (i := 13) ch_cX12_walker_64 rfl) (rdb (p := 64) (i := 14) ch_cX12_walker_64 rfl) (rdb (p := 64) (i := 15) ch_cX12_walker_64 rfl) rfl
theorem dX12_walker_80 : decode cX12_walker 80 = .ok (.iload 5, 2) := do_21 (rdb (p := 64) (i := 16) ch_cX12_walker_64 rfl) (rdb (p := 64) (i := 17) ch_cX12_walker_64 rfl)
theorem dX12_walker_82 : decode cX12_walker 82 = .ok (.iconst 0, 1) := do_3 (rdb (p := 64) (i := 18) ch_cX12_walker_64 rfl)
theorem dX12_walker_83 : decode cX12_walker 83 = .ok (.iadd, 1) := do_96 (rdb (p := 64) (i := 19) ch_cX12_walker_64 rfl)
theorem dX12_walker_84 : decode cX12_walker 84 = .ok (.iload_n 1, 1) := do_27 (rdb (p := 64) (i := 20) ch_cX12_walker_64 rfl)
theorem dX12_walker_85 : decode cX12_walker 85 = .ok (.iastore, 1) := do_79 (rdb (p := 64) (i := 21) ch_cX12_walker_64 rfl)
theorem dX12_walker_86 : decode cX12_walker 86 = .ok (.aload_n 0, 1) := do_42 (rdb (p := 64) (i := 22) ch_cX12_walker_64 rfl)
theorem dX12_walker_87 : decode cX12_walker 87 = .ok (.getfield 9, 3) := do_180 (rdb (p := 64) (i := 23) ch_cX12_walker_64 rfl) (rdb (p := 64) (i := 24) ch_cX12_walker_64 rfl) (rdb (p := 64) (i := 25) ch_cX12_walker_64 rfl) rfl
theorem dX12_walker_90 : decode cX12_walker 90 = .ok (.iload 5, 2) := do_21 (rdb (p := 64) (i := 26) ch_cX12_walker_64 rfl) (rdb (p := 64) (i := 27) ch_cX12_walker_64 rfl)
theorem dX12_walker_92 : decode cX12_walker 92 = .ok (.iconst 1, 1) := do_4 (rdb (p := 64) (i := 28) ch_cX12_walker_64 rfl)
theorem dX12_walker_93 : decode cX12_walker 93 = .ok (.iadd, 1) := do_96 (rdb (p := 64) (i := 29) ch_cX12_walker_64 rfl)
theorem dX12_walker_94 : decode cX12_walker 94 = .ok (.iload_n 2, 1) := do_28 (rdb (p := 64) (i := 30) ch_cX12_walker_64 rfl)
theorem dX12_walker_95 : decode cX12_walker 95 = .ok (.iastore, 1) := do_79 (rdb (p := 64) (i := 31) ch_cX12_walker_64 rfl)
theorem ch_cX12_walker_96 : (cX12_walker.data.toList.drop 96).take 36 = [42, 180, 0, 9, 21, 5, 5, 96, 29, 79, 42, 180, 0, 9, 21, 5, 6, 96, 8, 79, 42, 180, 0, 9, 21, 5, 7, 96, 16, 60, 79, 42, 180, 0, 9, 5] := by decide +kernel
theorem dX12_walker_96 : decode cX12_walker 96 = .ok (.aload_n 0, 1) := do_42 (rdb (p := 96) (i := 0) ch_cX12_walker_96 rfl)
theorem dX12_walker_97 : decode cX12_walker 97 = .ok (.getfield 9, 3) := do_180 (rdb (p := 96) (i := 1) ch_cX12_walker_96 rfl) (rdb (p := 96) (i := 2) ch_cX12_walker_96 rfl) (rdb (p := 96) (i := 3) ch_cX12_walker_96 rfl) rfl
theorem dX12_walker_100 : decode cX12_walker 100 = .ok (.iload 5, 2) := do_21 (rdb (p := 96) (i := 4) ch_cX12_walker_96 rfl) (rdb (p := 96) (i := 5) ch_cX12_walker_96 rfl)
theorem dX12_walker_102 : decode cX12_walker 102 = .ok (.iconst 2, 1) := do_5 (rdb (p := 96) (i := 6) ch_cX12_walker_96 rfl)
theorem dX12_walker_103 : decode cX12_walker 103 = .ok (.iadd, 1) := do_96 (rdb (p := 96) (i := 7) ch_cX12_walker_96 rfl)
theorem dX12_walker_104 : decode cX12_walker 104 = .ok (.iload_n 3, 1) := do_29 (rdb (p := 96) (i := 8) ch_cX12_walker_96 rfl)
theorem dX12_walker_105 : decode cX12_walker 105 = .ok (.iastore, 1) := do_79 (rdb (p := 96) (i := 9) ch_cX12_walker_96 rfl)
theorem dX12_walker_106 : decode cX12_walker 106 = .ok (.aload_n 0, 1) := do_42 (rdb (p := 96) (i := 10) ch_cX12_walker_96 rfl)
theorem dX12_walker_107 : decode cX12_walker 107 = .ok (.getfield 9, 3) := do_180 (rdb (p := 96) (i := 11) ch_cX12_walker_96 rfl) (rdb (p := 96) (i := 12) ch_cX12_walker_96 rfl) (rdb (p := 96) (i := 13) ch_cX12_walker_96 rfl) rfl
theorem dX12_walker_110 : decode cX12_walker 110 = .ok (.iload 5, 2) := do_21 (rdb (p := 96) (i := 14) ch_cX12_walker_96 rfl) (rdb (p := 96) (i := 15) ch_cX12_walker_96 rfl)
theorem dX12_walker_112 : decode cX12_walker 112 = .ok (.iconst 3, 1) := do_6 (rdb (p := 96) (i := 16) ch_cX12_walker_96 rfl)
theorem dX12_walker_113 : decode cX12_walker 113 = .ok (.iadd, 1) := do_96 (rdb (p := 96) (i := 17) ch_cX12_walker_96 rfl)
theorem dX12_walker_114 : decode cX12_walker 114 = .ok (.iconst 5, 1) := do_8 (rdb (p := 96) (i := 18) ch_cX12_walker_96 rfl)
theorem dX12_walker_115 : decode cX12_walker 115 = .ok (.iastore, 1) := do_79 (rdb (p := 96) (i := 19) ch_cX12_walker_96 rfl)
theorem dX12_walker_116 : decode cX12_walker 116 = .ok (.aload_n 0, 1) := do_42 (rdb (p := 96) (i := 20) ch_cX12_walker_96 rfl)
theorem dX12_walker_117 : decode cX12_walker 117 = .ok (.getfield 9, 3) := do_180 (rdb (p := 96) (i := 21) ch_cX12_walker_96 rfl) (rdb (p := 96) (i := 22) ch_cX12_walker_96 rfl) (rdb (p := 96) (i := 23) ch_cX12_walker_96 rfl) rfl
theorem dX12_walker_120 : decode cX12_walker 120 = .ok (.iload 5, 2) := do_21 (rdb (p := 96) (i := 24) ch_cX12_walker_96 rfl) (rdb (p := 96) (i := 25) ch_cX12_walker_96 rfl)
theorem dX12_walker_122 : decode cX12_walker 122 = .ok (.iconst 4, 1) := do_7 (rdb (p := 96) (i := 26) ch_cX12_walker_96 rfl)
theorem dX12_walker_123 : decode cX12_walker 123 = .ok (.iadd, 1) := do_96 (rdb (p := 96) (i := 27) ch_cX12_walker_96 rfl)
theorem dX12_walker_124 : decode cX12_walker 124 = .ok (.bipush 60, 2) := do_16 (rdb (p := 96) (i := 28) ch_cX12_walker_96 rfl) (rdb (p := 96) (i := 29) ch_cX12_walker_96 rfl) (by decide +kernel)
theorem dX12_walker_126 : decode cX12_walker 126 = .ok (.iastore, 1) := do_79 (rdb (p := 96) (i := 30) ch_cX12_walker_96 rfl)
theorem dX12_walker_127 : decode cX12_walker 127 = .ok (.aload_n 0, 1) := do_42 (rdb (p := 96) (i := 31) ch_cX12_walker_96 rfl)
theorem ch_cX12_walker_128 : (cX12_walker.data.toList.drop 128).take 36 = [180, 0, 9, 5, 92, 46, 4, 96, 79, 21, 4, 172] := by decide +kernel
theorem dX12_walker_128 : decode cX12_walker 128 = .ok (.getfield 9, 3) := do_180 (rdb (p := 128) (i := 0) ch_cX12_walker_128 rfl) (rdb (p := 128) (i := 1) ch_cX12_walker_128 rfl) (rdb (p := 128) (i := 2) ch_cX12_walker_128 rfl) rfl
theorem dX12_walker_131 : decode cX12_walker 131 = .ok (.iconst 2, 1) := do_5 (rdb (p := 128) (i := 3) ch_cX12_walker_128 rfl)
theorem dX12_walker_132 : decode cX12_walker 132 = .ok (.dup2, 1) := do_92 (rdb (p := 128) (i := 4) ch_cX12_walker_128 rfl)
theorem dX12_walker_133 : decode cX12_walker 133 = .ok (.iaload, 1) := do_46 (rdb (p := 128) (i := 5) ch_cX12_walker_128 rfl)
theorem dX12_walker_134 : decode cX12_walker 134 = .ok (.iconst 1, 1) := do_4 (rdb (p := 128) (i := 6) ch_cX12_walker_128 rfl)
theorem dX12_walker_135 : decode cX12_walker 135 = .ok (.iadd, 1) := do_96 (rdb (p := 128) (i := 7) ch_cX12_walker_128 rfl)
theorem dX12_walker_136 : decode cX12_walker 136 = .ok (.iastore, 1) := do_79 (rdb (p := 128) (i := 8) ch_cX12_walker_128 rfl)
theorem dX12_walker_137 : decode cX12_walker 137 = .ok (.iload 4, 2) := do_21 (rdb (p := 128) (i := 9) ch_cX12_walker_128 rfl) (rdb (p := 128) (i := 10) ch_cX12_walker_128 rfl)
theorem dX12_walker_139 : decode cX12_walker 139 = .ok (.ireturn, 1) := do_172 (rdb (p := 128) (i := 11) ch_cX12_walker_128 rfl)
theorem ch_cX12_walkerIs_0 : (cX12_walkerIs.data.toList.drop 0).take 36 = [42, 27, 5, 182, 0, 116, 153, 0, 13, 28, 3, 16, 11, 184, 0, 85, 154, 0, 10, 42, 18, 103, 182, 0, 104, 172, 28, 16, 9, 162, 0, 18, 42, 180, 0, 9] := by decide +kernel
theorem dX12_walkerIs_0 : decode cX12_walkerIs 0 = .ok (.aload_n 0, 1) := do_42 (rdb (p := 0) (i := 0) ch_cX12_walkerIs_0 rfl)
theorem dX12_walkerIs_1 : decode cX12_walkerIs 1 = .ok (.iload_n 1, 1) := do_27 (rdb (p := 0) (i := 1) ch_cX12_walkerIs_0 rfl)
theorem dX12_walkerIs_2 : decode cX12_walkerIs 2 = .ok (.iconst 2, 1) := do_5 (rdb (p := 0) (i := 2) ch_cX12_walkerIs_0 rfl)
theorem dX12_walkerIs_3 : decode cX12_walkerIs 3 = .ok (.invokevirtual 116, 3) := do_182 (rdb (p := 0) (i := 3) ch_cX12_walkerIs_0 rfl) (rdb (p := 0) (i := 4) ch_cX12_walkerIs_0 rfl) (rdb (p := 0) (i := 5) ch_cX12_walkerIs_0 rfl) rfl
theorem dX12_walkerIs_6 : decode cX12_walkerIs 6 = .ok (.ifCond .eq 13, 3) := do_153 (rdb (p := 0) (i := 6) ch_cX12_walkerIs_0 rfl) (rdb (p := 0) (i := 7) ch_cX12_walkerIs_0 rfl) (rdb (p := 0) (i := 8) ch_cX12_walkerIs_0 rfl) (by decide +kernel)
theorem dX12_walkerIs_9 : decode cX12_walkerIs 9 = .ok (.iload_n 2, 1) := do_28 (rdb (p := 0) (i := 9) ch_cX12_walkerIs_0 rfl)
theorem dX12_walkerIs_10 : decode cX12_walkerIs 10 = .ok (.iconst 0, 1) := do_3 (rdb (p := 0) (i := 10) ch_cX12_walkerIs_0 rfl)
theorem dX12_walkerIs_11 : decode cX12_walkerIs 11 = .ok (.bipush 11, 2) := do_16 (rdb (p := 0) (i := 11) ch_cX12_walkerIs_0 rfl) (rdb (p := 0) (i := 12) ch_cX12_walkerIs_0 rfl) (by decide +kernel)
theorem dX12_walkerIs_13 : decode cX12_walkerIs 13 = .ok (.invokestatic 85, 3) := do_184 (rdb (p := 0) (i := 13) ch_cX12_walkerIs_0 rfl) (rdb (p := 0) (i := 14) ch_cX12_walkerIs_0 rfl) (rdb (p := 0) (i := 15) ch_cX12_walkerIs_0 rfl) rfl
theorem dX12_walkerIs_16 : decode cX12_walkerIs 16 = .ok (.ifCond .ne 10, 3) := do_154 (rdb (p := 0) (i := 16) ch_cX12_walkerIs_0 rfl) (rdb (p := 0) (i := 17) ch_cX12_walkerIs_0 rfl) (rdb (p := 0) (i := 18) ch_cX12_walkerIs_0 rfl) (by decide +kernel)
theorem dX12_walkerIs_19 : decode cX12_walkerIs 19 = .ok (.aload_n 0, 1) := do_42 (rdb (p := 0) (i := 19) ch_cX12_walkerIs_0 rfl)
theorem dX12_walkerIs_20 : decode cX12_walkerIs 20 = .ok (.ldc 103, 2) := do_18 (rdb (p := 0) (i := 20) ch_cX12_walkerIs_0 rfl) (rdb (p := 0) (i := 21) ch_cX12_walkerIs_0 rfl)
theorem dX12_walkerIs_22 : decode cX12_walkerIs 22 = .ok (.invokevirtual 104, 3) := do_182 (rdb (p := 0) (i := 22) ch_cX12_walkerIs_0 rfl) (rdb (p := 0) (i := 23) ch_cX12_walkerIs_0 rfl) (rdb (p := 0) (i := 24) ch_cX12_walkerIs_0 rfl) rfl
theorem dX12_walkerIs_25 : decode cX12_walkerIs 25 = .ok (.ireturn, 1) := do_172 (rdb (p := 0) (i := 25) ch_cX12_walkerIs_0 rfl)
theorem dX12_walkerIs_26 : decode cX12_walkerIs 26 = .ok (.iload_n 2, 1) := do_28 (rdb (p := 0) (i := 26) ch_cX12_walkerIs_0 rfl)
theorem dX12_walkerIs_27 : decode cX12_walkerIs 27 = .ok (.bipush 9, 2) := do_16 (rdb (p := 0) (i := 27) ch_cX12_walkerIs_0 rfl) (rdb (p := 0) (i := 28) ch_cX12_walkerIs_0 rfl) (by decide +kernel)
theorem dX12_walkerIs_29 : decode cX12_walkerIs 29 = .ok (.if_icmp .ge 18, 3) := do_162 (rdb (p := 0) (i := 29) ch_cX12_walkerIs_0 rfl) (rdb (p := 0) (i := 30) ch_cX12_walkerIs_0 rfl) (rdb (p := 0) (i := 31) ch_cX12_walkerIs_0 rfl) (by decide +kernel)
theorem ch_cX12_walkerIs_32 : (cX12_walkerIs.data.toList.drop 32).take 36 = [42, 180, 0, 9, 42, 27, 182, 0, 93, 28, 96, 46, 167, 0, 46, 28, 16, 9, 160, 0, 11, 42, 27, 182, 0, 140, 167, 0, 32, 28, 16, 11, 160, 0, 11, 42] := by decide +kernel
theorem dX12_walkerIs_32 : decode cX12_walkerIs 32 = .ok (.aload_n 0, 1) := do_42 (rdb (p := 32) (i := 0) ch_cX12_walkerIs_32 rfl)
theorem dX12_walkerIs_33 : decode cX12_walkerIs 33 = .ok (.getfield 9, 3) := do_180 (rdb (p := 32) (i := 1) ch_cX12_walkerIs_32 rfl) (rdb (p := 32) (i := 2) ch_cX12_walkerIs_32 rfl) (rdb (p := 32) (i := 3) ch_cX12_walkerIs_32 rfl) rfl
theorem dX12_walkerIs_36 : decode cX12_walkerIs 36 = .ok (.aload_n 0, 1) := do_42 (rdb (p := 32) (i := 4) ch_cX12_walkerIs_32 rfl)
theorem dX12_walkerIs_37 : decode cX12_walkerIs 37 = .ok (.iload_n 1, 1) := do_27 (rdb (p := 32) (i := 5) ch_cX12_walkerIs_32 rfl)
theorem dX12_walkerIs_38 : decode cX12_walkerIs 38 = .ok (.invokevirtual 93, 3) := do_182 (rdb (p := 32) (i := 6) ch_cX12_walkerIs_32 rfl) (rdb (p := 32) (i := 7) ch_cX12_walkerIs_32 rfl) (rdb (p := 32) (i := 8) ch_cX12_walkerIs_32 rfl) rfl
theorem dX12_walkerIs_41 : decode cX12_walkerIs 41 = .ok (.iload_n 2, 1) := do_28 (rdb (p := 32) (i := 9) ch_cX12_walkerIs_32 rfl)
theorem dX12_walkerIs_42 : decode cX12_walkerIs 42 = .ok (.iadd, 1) := do_96 (rdb (p := 32) (i := 10) ch_cX12_walkerIs_32 rfl)
theorem dX12_walkerIs_43 : decode cX12_walkerIs 43 = .ok (.iaload, 1) := do_46 (rdb (p := 32) (i := 11) ch_cX12_walkerIs_32 rfl)
theorem dX12_walkerIs_44 : decode cX12_walkerIs 44 = .ok (.goto 46, 3) := do_167 (rdb (p := 32) (i := 12) ch_cX12_walkerIs_32 rfl) (rdb (p := 32) (i := 13) ch_cX12_walkerIs_32 rfl) (rdb (p := 32) (i := 14) ch_cX12_walkerIs_32 rfl) (by decide +kernel)
theorem dX12_walkerIs_47 : decode cX12_walkerIs 47 = .ok (.iload_n 2, 1) := do_28 (rdb (p := 32) (i := 15) ch_cX12_walkerIs_32 rfl)
theorem dX12_walkerIs_48 : decode cX12_walkerIs 48 = .ok (.bipush 9, 2) := do_16 (rdb (p := 32) (i := 16) ch_cX12_walkerIs_32 rfl) (rdb (p := 32) (i := 17) ch_cX12_walkerIs_32 rfl) (by decide +kernel)
theorem dX12_walkerIs_50 : decode cX12_walkerIs 50 = .ok (.if_icmp .ne 11, 3) := do_160 (rdb (p := 32) (i := 18) ch_cX12_walkerIs_32 rfl) (rdb (p := 32) (i := 19) ch_cX12_walkerIs_32 rfl) (rdb (p := 32) (i := 20) ch_cX12_walkerIs_32 rfl) (by decide +kernel)
theorem dX12_walkerIs_53 : decode cX12_walkerIs 53 = .ok (.aload_n 0, 1) := do_42 (rdb (p := 32) (i := 21) ch_cX12_walkerIs_32 rfl)
theorem dX12_walkerIs_54 : decode cX12_walkerIs 54 = .ok (.iload_n 1, 1) := do_27 (rdb (p := 32) (i := 22) ch_cX12_walkerIs_32 rfl)
theorem dX12_walkerIs_55 : decode cX12_walkerIs 55 = .ok (.invokevirtual 140, 3) := do_182 (rdb (p := 32) (i := 23) ch_cX12_walkerIs_32 rfl) (rdb (p := 32) (i := 24) ch_cX12_walkerIs_32 rfl) (rdb (p := 32) (i := 25) ch_cX12_walkerIs_32 rfl) rfl
theorem dX12_walkerIs_58 : decode cX12_walkerIs 58 = .ok (.goto 32, 3) := do_167 (rdb (p := 32) (i := 26) ch_cX12_walkerIs_32 rfl) (rdb (p := 32) (i := 27) ch_cX12_walkerIs_32 rfl) (rdb (p := 32) (i := 28) ch_cX12_walkerIs_32 rfl) (by decide +kernel)
theorem dX12_walkerIs_61 : decode cX12_walkerIs 61 = .ok (.iload_n 2, 1) := do_28 (rdb (p := 32) (i := 29) ch_cX12_walkerIs_32 rfl)
theorem dX12_walkerIs_62 : decode cX12_walkerIs 62 = .ok (.bipush 11, 2) := do_16 (rdb (p := 32) (i := 30) ch_cX12_walkerIs_32 rfl) (rdb (p := 32) (i := 31) ch_cX12_walkerIs_32 rfl) (by decide +kernel)
theorem ch_cX12_walkerIs_64 : (cX12_walkerIs.data.toList.drop 64).take 36 = [160, 0, 11, 42, 27, 182, 0, 143, 167, 0, 18, 42, 27, 182, 0, 137, 16, 7, 160, 0, 7, 5, 167, 0, 4, 4, 172] := by decide +kernel
theorem dX12_walkerIs_64 : decode cX12_walkerIs 64 = .ok (.if_icmp .ne 11, 3) := do_160 (rdb (p := 64) (i := 0) ch_cX12_walkerIs_64 rfl) (rdb (p := 64) (i := 1) ch_cX12_walkerIs_64 rfl) (rdb (p := 64) (i := 2) ch_cX12_walkerIs_64 rfl) (by decide +kernel)
theorem dX12_walkerIs_67 : decode cX12_walkerIs 67 = .ok (.aload_n 0, 1) := do_42 (rdb (p := 64) (i := 3) ch_cX12_walkerIs_64 rfl)
theorem dX12_walkerIs_68 : decode cX12_walkerIs 68 = .ok (.iload_n 1, 1) := do_27 (rdb (p := 64) (i := 4) ch_cX12_walkerIs_64 rfl)
theorem dX12_walkerIs_69 : decode cX12_walkerIs 69 = .ok (.invokevirtual 143, 3) := do_182 (rdb (p := 64) (i := 5) ch_cX12_walkerIs_64 rfl) (rdb (p := 64) (i := 6) ch_cX12_walkerIs_64 rfl) (rdb (p := 64) (i := 7) ch_cX12_walkerIs_64 rfl) rfl
theorem dX12_walkerIs_72 : decode cX12_walkerIs 72 = .ok (.goto 18, 3) := do_167 (rdb (p := 64) (i := 8) ch_cX12_walkerIs_64 rfl) (rdb (p := 64) (i := 9) ch_cX12_walkerIs_64 rfl) (rdb (p := 64) (i := 10) ch_cX12_walkerIs_64 rfl) (by decide +kernel)
theorem dX12_walkerIs_75 : decode cX12_walkerIs 75 = .ok (.aload_n 0, 1) := do_42 (rdb (p := 64) (i := 11) ch_cX12_walkerIs_64 rfl)
theorem dX12_walkerIs_76 : decode cX12_walkerIs 76 = .ok (.iload_n 1, 1) := do_27 (rdb (p := 64) (i := 12) ch_cX12_walkerIs_64 rfl)
theorem dX12_walkerIs_77 : decode cX12_walkerIs 77 = .ok (.invokevirtual 137, 3) := do_182 (rdb (p := 64) (i := 13) ch_cX12_walkerIs_64 rfl) (rdb (p := 64) (i := 14) ch_cX12_walkerIs_64 rfl) (rdb (p := 64) (i := 15) ch_cX12_walkerIs_64 rfl) rfl
theorem dX12_walkerIs_80 : decode cX12_walkerIs 80 = .ok (.bipush 7, 2) := do_16 (rdb (p := 64) (i := 16) ch_cX12_walkerIs_64 rfl) (rdb (p := 64) (i := 17) ch_cX12_walkerIs_64 rfl) (by decide +kernel)
theorem dX12_walkerIs_82 : decode cX12_walkerIs 82 = .ok (.if_icmp .ne 7, 3) := do_160 (rdb (p := 64) (i := 18) ch_cX12_walkerIs_64 rfl) (rdb (p := 64) (i := 19) ch_cX12_walkerIs_64 rfl) (rdb (p := 64) (i := 20) ch_cX12_walkerIs_64 rfl) (by decide +kernel)
theorem dX12_walkerIs_85 : decode cX12_walkerIs 85 = .ok (.iconst 2, 1) := do_5 (rdb (p := 64) (i := 21) ch_cX12_walkerIs_64 rfl)
theorem dX12_walkerIs_86 : decode cX12_walkerIs 86 = .ok (.goto 4, 3) := do_167 (rdb (p := 64) (i := 22) ch_cX12_walkerIs_64 rfl) (rdb (p := 64) (i := 23) ch_cX12_walkerIs_64 rfl) (rdb (p := 64) (i := 24) ch_cX12_walkerIs_64 rfl) (by decide +kernel)
theorem dX12_walkerIs_89 : decode cX12_walkerIs 89 = .ok (.iconst 1, 1) := do_4 (rdb (p := 64) (i := 25) ch_cX12_walkerIs_64 rfl)
theorem dX12_walkerIs_90 : decode cX12_walkerIs 90 = .ok (.ireturn, 1) := do_172 (rdb (p := 64) (i := 26) ch_cX12_walkerIs_64 rfl)
