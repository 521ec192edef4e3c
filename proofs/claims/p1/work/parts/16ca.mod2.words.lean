/-! words of the tables that are used, by their places; decode rows; classes -/
theorem m_25 : Cond.selects yX12_finding.cls yX12_finding yX12_finding ∈ BASE := bmem 25 (by decide +kernel) rfl
theorem m_26 : Cond.selects yX12_isFree.cls yX12_isFree yX12_isFree ∈ BASE := bmem 26 (by decide +kernel) rfl
theorem m_29 : Cond.selects yX12_goer.cls yX12_goer yX12_goer ∈ BASE := bmem 29 (by decide +kernel) rfl
theorem m_30 : Cond.selects yX12_comes.cls yX12_comes yX12_comes ∈ BASE := bmem 30 (by decide +kernel) rfl
theorem m_31 : Cond.selects yX12_is.cls yX12_is yX12_is ∈ BASE := bmem 31 (by decide +kernel) rfl
theorem m_32 : Cond.selects yX12_become.cls yX12_become yX12_become ∈ BASE := bmem 32 (by decide +kernel) rfl
theorem m_36 : Cond.selects yX12_text.cls yX12_text yX12_text ∈ BASE := bmem 36 (by decide +kernel) rfl
theorem m_63 : Cond.selects yX12_tenth.cls yX12_tenth yX12_tenth ∈ BASE := bmem 63 (by decide +kernel) rfl
theorem m_71 : Cond.selects yX12_tryRows.cls yX12_tryRows yX12_tryRows ∈ BASE := bmem 71 (by decide +kernel) rfl
theorem m_77 : Cond.selects yX12_sumOf.cls yX12_sumOf yX12_sumOf ∈ BASE := bmem 77 (by decide +kernel) rfl
theorem m_1324 : Cond.fieldLink RX12 13 "ClickStreetModel" "kept" "[I" ∈ BASE := bmem 1324 (by decide +kernel) rfl
theorem m_1326 : Cond.fieldLink RX12 353 "ClickStreetModel" "images" "I" ∈ BASE := bmem 1326 (by decide +kernel) rfl
theorem m_1333 : Cond.fieldLink RX12 181 "ClickStreetModel" "use" "I" ∈ BASE := bmem 1333 (by decide +kernel) rfl
theorem m_1334 : Cond.fieldLink RX12 191 "ClickStreetModel" "open" "I" ∈ BASE := bmem 1334 (by decide +kernel) rfl
theorem m_1335 : Cond.fieldLink RX12 203 "ClickStreetModel" "told" "I" ∈ BASE := bmem 1335 (by decide +kernel) rfl
theorem m_1337 : Cond.fieldLink RX12 162 "ClickStreetModel" "coded" "I" ∈ BASE := bmem 1337 (by decide +kernel) rfl
theorem m_1349 : Cond.fieldLink RX12 324 "ClickStreetModel" "traced" "I" ∈ BASE := bmem 1349 (by decide +kernel) rfl
theorem m_1352 : Cond.fieldLink RX12 72 "ClickStreetModel" "widths" "[I" ∈ BASE := bmem 1352 (by decide +kernel) rfl
theorem m_1353 : Cond.fieldLink RX12 75 "ClickStreetModel" "sizes" "[I" ∈ BASE := bmem 1353 (by decide +kernel) rfl
theorem m_1354 : Cond.fieldLink RX12 78 "ClickStreetModel" "numbers" "[I" ∈ BASE := bmem 1354 (by decide +kernel) rfl
theorem m_1430 : Cond.methodLink RX12 99 yX12_isCell ∈ BASE := bmem 1430 (by decide +kernel) rfl
theorem m_1431 : Cond.static yX12_isCell ∈ BASE := bmem 1431 (by decide +kernel) rfl
theorem m_1432 : Cond.code yX12_isCell cX12_isCell 1 (some .boolean) ∈ BASE := bmem 1432 (by decide +kernel) rfl
theorem m_1433 : Cond.constant RX12 103 (-1000001) ∈ BASE := bmem 1433 (by decide +kernel) rfl
theorem m_1434 : Cond.methodLink RX12 104 yX12_finding ∈ BASE := bmem 1434 (by decide +kernel) rfl
theorem m_1436 : Cond.instanceMethod yX12_finding ∈ BASE := bmem 1436 (by decide +kernel) rfl
theorem m_1437 : Cond.code yX12_finding cX12_finding 2 (some .int) ∈ BASE := bmem 1437 (by decide +kernel) rfl
theorem m_1439 : Cond.methodLink RX12 107 yX12_isFree ∈ BASE := bmem 1439 (by decide +kernel) rfl
theorem m_1441 : Cond.instanceMethod yX12_isFree ∈ BASE := bmem 1441 (by decide +kernel) rfl
theorem m_1442 : Cond.code yX12_isFree cX12_isFree 2 (some .boolean) ∈ BASE := bmem 1442 (by decide +kernel) rfl
theorem m_1451 : Cond.methodLink RX12 93 yX12_goer ∈ BASE := bmem 1451 (by decide +kernel) rfl
theorem m_1453 : Cond.instanceMethod yX12_goer ∈ BASE := bmem 1453 (by decide +kernel) rfl
theorem m_1454 : Cond.code yX12_goer cX12_goer 2 (some .int) ∈ BASE := bmem 1454 (by decide +kernel) rfl
theorem m_1455 : Cond.constant RX12 110 (-1000003) ∈ BASE := bmem 1455 (by decide +kernel) rfl
theorem m_1457 : Cond.methodLink RX12 112 yX12_comes ∈ BASE := bmem 1457 (by decide +kernel) rfl
theorem m_1459 : Cond.instanceMethod yX12_comes ∈ BASE := bmem 1459 (by decide +kernel) rfl
theorem m_1460 : Cond.code yX12_comes cX12_comes 4 (some .int) ∈ BASE := bmem 1460 (by decide +kernel) rfl
theorem m_1465 : Cond.methodLink RX12 116 yX12_is ∈ BASE := bmem 1465 (by decide +kernel) rfl
theorem m_1467 : Cond.instanceMethod yX12_is ∈ BASE := bmem 1467 (by decide +kernel) rfl
theorem m_1468 : Cond.code yX12_is cX12_is 3 (some .boolean) ∈ BASE := bmem 1468 (by decide +kernel) rfl
theorem m_1473 : Cond.methodLink RX12 120 yX12_isSide ∈ BASE := bmem 1473 (by decide +kernel) rfl
theorem m_1474 : Cond.static yX12_isSide ∈ BASE := bmem 1474 (by decide +kernel) rfl
theorem m_1475 : Cond.code yX12_isSide cX12_isSide 1 (some .boolean) ∈ BASE := bmem 1475 (by decide +kernel) rfl
theorem m_1481 : Cond.methodLink RX12 124 yX12_become ∈ BASE := bmem 1481 (by decide +kernel) rfl
theorem m_1483 : Cond.instanceMethod yX12_become ∈ BASE := bmem 1483 (by decide +kernel) rfl
theorem m_1484 : Cond.code yX12_become cX12_become 4 (some .int) ∈ BASE := bmem 1484 (by decide +kernel) rfl
theorem m_1497 : Cond.methodLink RX12 127 yX12_isSheet ∈ BASE := bmem 1497 (by decide +kernel) rfl
theorem m_1498 : Cond.static yX12_isSheet ∈ BASE := bmem 1498 (by decide +kernel) rfl
theorem m_1499 : Cond.code yX12_isSheet cX12_isSheet 1 (some .boolean) ∈ BASE := bmem 1499 (by decide +kernel) rfl
theorem m_1500 : Cond.constant RX12 130 (-1000002) ∈ BASE := bmem 1500 (by decide +kernel) rfl
theorem m_1554 : Cond.constantLong RX12 149 (255) ∈ BASE := bmem 1554 (by decide +kernel) rfl
theorem m_1559 : Cond.methodLink RX12 194 yX12_text ∈ BASE := bmem 1559 (by decide +kernel) rfl
theorem m_1561 : Cond.instanceMethod yX12_text ∈ BASE := bmem 1561 (by decide +kernel) rfl
theorem m_1562 : Cond.code yX12_text cX12_text 2 none ∈ BASE := bmem 1562 (by decide +kernel) rfl
theorem m_1738 : Cond.methodLink RX12 301 yX12_tenth ∈ BASE := bmem 1738 (by decide +kernel) rfl
theorem m_1740 : Cond.instanceMethod yX12_tenth ∈ BASE := bmem 1740 (by decide +kernel) rfl
theorem m_1741 : Cond.code yX12_tenth cX12_tenth 2 none ∈ BASE := bmem 1741 (by decide +kernel) rfl
theorem m_1787 : Cond.methodLink RX12 317 yX12_tryRows ∈ BASE := bmem 1787 (by decide +kernel) rfl
theorem m_1789 : Cond.instanceMethod yX12_tryRows ∈ BASE := bmem 1789 (by decide +kernel) rfl
theorem m_1790 : Cond.code yX12_tryRows cX12_tryRows 7 none ∈ BASE := bmem 1790 (by decide +kernel) rfl
theorem m_1843 : Cond.methodLink RX12 349 yX12_copy ∈ BASE := bmem 1843 (by decide +kernel) rfl
theorem m_1844 : Cond.static yX12_copy ∈ BASE := bmem 1844 (by decide +kernel) rfl
theorem m_1845 : Cond.code yX12_copy cX12_copy 3 none ∈ BASE := bmem 1845 (by decide +kernel) rfl
theorem m_1862 : Cond.methodLink RX12 356 yX12_sumOf ∈ BASE := bmem 1862 (by decide +kernel) rfl
theorem m_1864 : Cond.instanceMethod yX12_sumOf ∈ BASE := bmem 1864 (by decide +kernel) rfl
theorem m_1865 : Cond.code yX12_sumOf cX12_sumOf 4 (some .int) ∈ BASE := bmem 1865 (by decide +kernel) rfl
theorem kS_X12_copy : KS yX12_copy cX12_copy 3 none 2 := ⟨m_1844, m_92, m_1845, by decide +kernel, by decide +kernel, by decide +kernel⟩
theorem kS_X12_isCell : KS yX12_isCell cX12_isCell 1 (some .boolean) 1 := ⟨m_1431, m_92, m_1432, by decide +kernel, by decide +kernel, by decide +kernel⟩
theorem kS_X12_isSheet : KS yX12_isSheet cX12_isSheet 1 (some .boolean) 1 := ⟨m_1498, m_92, m_1499, by decide +kernel, by decide +kernel, by decide +kernel⟩
theorem kS_X12_isSide : KS yX12_isSide cX12_isSide 1 (some .boolean) 1 := ⟨m_1474, m_92, m_1475, by decide +kernel, by decide +kernel, by decide +kernel⟩
theorem kV_X12_become : KV yX12_become cX12_become 4 (some .int) 2 := ⟨m_1483, m_32, m_92, m_1484, by decide +kernel, by decide +kernel, by decide +kernel⟩
theorem kV_X12_comes : KV yX12_comes cX12_comes 4 (some .int) 2 := ⟨m_1459, m_30, m_92, m_1460, by decide +kernel, by decide +kernel, by decide +kernel⟩
theorem kV_X12_finding : KV yX12_finding cX12_finding 2 (some .int) 1 := ⟨m_1436, m_25, m_92, m_1437, by decide +kernel, by decide +kernel, by decide +kernel⟩
theorem kV_X12_goer : KV yX12_goer cX12_goer 2 (some .int) 1 := ⟨m_1453, m_29, m_92, m_1454, by decide +kernel, by decide +kernel, by decide +kernel⟩
theorem kV_X12_is : KV yX12_is cX12_is 3 (some .boolean) 2 := ⟨m_1467, m_31, m_92, m_1468, by decide +kernel, by decide +kernel, by decide +kernel⟩
theorem kV_X12_isFree : KV yX12_isFree cX12_isFree 2 (some .boolean) 1 := ⟨m_1441, m_26, m_92, m_1442, by decide +kernel, by decide +kernel, by decide +kernel⟩
theorem kV_X12_sumOf : KV yX12_sumOf cX12_sumOf 4 (some .int) 1 := ⟨m_1864, m_77, m_92, m_1865, by decide +kernel, by decide +kernel, by decide +kernel⟩
theorem kV_X12_tenth : KV yX12_tenth cX12_tenth 2 none 0 := ⟨m_1740, m_63, m_92, m_1741, by decide +kernel, by decide +kernel, by decide +kernel⟩
theorem kV_X12_text : KV yX12_text cX12_text 2 none 0 := ⟨m_1561, m_36, m_92, m_1562, by decide +kernel, by decide +kernel, by decide +kernel⟩
theorem kV_X12_tryRows : KV yX12_tryRows cX12_tryRows 7 none 5 := ⟨m_1789, m_71, m_92, m_1790, by decide +kernel, by decide +kernel, by decide +kernel⟩
/-! decode rows -/
theorem dX12_air_0 : decode cX12_air 0 = .ok (.iload_n 1, 1) := by decide +kernel
theorem dX12_air_1 : decode cX12_air 1 = .ok (.ifCond .ne 13, 3) := by decide +kernel
theorem dX12_air_4 : decode cX12_air 4 = .ok (.iload_n 2, 1) := by decide +kernel
theorem dX12_air_5 : decode cX12_air 5 = .ok (.iconst 0, 1) := by decide +kernel
theorem dX12_air_6 : decode cX12_air 6 = .ok (.bipush 99, 2) := by decide +kernel
theorem dX12_air_8 : decode cX12_air 8 = .ok (.invokestatic 85, 3) := by decide +kernel
theorem dX12_air_11 : decode cX12_air 11 = .ok (.goto 37, 3) := by decide +kernel
theorem dX12_air_14 : decode cX12_air 14 = .ok (.iload_n 1, 1) := by decide +kernel
theorem dX12_air_15 : decode cX12_air 15 = .ok (.iconst 1, 1) := by decide +kernel
theorem dX12_air_16 : decode cX12_air 16 = .ok (.if_icmp .ne 13, 3) := by decide +kernel
theorem dX12_air_19 : decode cX12_air 19 = .ok (.iload_n 2, 1) := by decide +kernel
theorem dX12_air_20 : decode cX12_air 20 = .ok (.iconst 0, 1) := by decide +kernel
theorem dX12_air_21 : decode cX12_air 21 = .ok (.bipush 90, 2) := by decide +kernel
theorem dX12_air_23 : decode cX12_air 23 = .ok (.invokestatic 85, 3) := by decide +kernel
theorem dX12_air_26 : decode cX12_air 26 = .ok (.goto 22, 3) := by decide +kernel
theorem dX12_air_29 : decode cX12_air 29 = .ok (.iload_n 1, 1) := by decide +kernel
theorem dX12_air_30 : decode cX12_air 30 = .ok (.iconst 2, 1) := by decide +kernel
theorem dX12_air_31 : decode cX12_air 31 = .ok (.if_icmp .ne 16, 3) := by decide +kernel
theorem dX12_air_34 : decode cX12_air 34 = .ok (.iload_n 2, 1) := by decide +kernel
theorem dX12_air_35 : decode cX12_air 35 = .ok (.iconst 0, 1) := by decide +kernel
theorem dX12_air_36 : decode cX12_air 36 = .ok (.iconst 1, 1) := by decide +kernel
theorem dX12_air_37 : decode cX12_air 37 = .ok (.invokestatic 85, 3) := by decide +kernel
theorem dX12_air_40 : decode cX12_air 40 = .ok (.ifCond .eq 7, 3) := by decide +kernel
theorem dX12_air_43 : decode cX12_air 43 = .ok (.iconst 1, 1) := by decide +kernel
theorem dX12_air_44 : decode cX12_air 44 = .ok (.goto 4, 3) := by decide +kernel
theorem dX12_air_47 : decode cX12_air 47 = .ok (.iconst 0, 1) := by decide +kernel
theorem dX12_air_48 : decode cX12_air 48 = .ok (.istore_n 3, 1) := by decide +kernel
theorem dX12_air_49 : decode cX12_air 49 = .ok (.iload_n 3, 1) := by decide +kernel
theorem dX12_air_50 : decode cX12_air 50 = .ok (.ifCond .eq 15, 3) := by decide +kernel
theorem dX12_air_53 : decode cX12_air 53 = .ok (.aload_n 0, 1) := by decide +kernel
theorem dX12_air_54 : decode cX12_air 54 = .ok (.bipush 6, 2) := by decide +kernel
theorem dX12_air_56 : decode cX12_air 56 = .ok (.iload_n 1, 1) := by decide +kernel
theorem dX12_air_57 : decode cX12_air 57 = .ok (.iadd, 1) := by decide +kernel
theorem dX12_air_58 : decode cX12_air 58 = .ok (.iload_n 2, 1) := by decide +kernel
theorem dX12_air_59 : decode cX12_air 59 = .ok (.invokevirtual 124, 3) := by decide +kernel
theorem dX12_air_62 : decode cX12_air 62 = .ok (.goto 9, 3) := by decide +kernel
theorem dX12_air_65 : decode cX12_air 65 = .ok (.aload_n 0, 1) := by decide +kernel
theorem dX12_air_66 : decode cX12_air 66 = .ok (.ldc 103, 2) := by decide +kernel
theorem dX12_air_68 : decode cX12_air 68 = .ok (.invokevirtual 104, 3) := by decide +kernel
theorem dX12_air_71 : decode cX12_air 71 = .ok (.ireturn, 1) := by decide +kernel
theorem dX12_alike_0 : decode cX12_alike 0 = .ok (.aload_n 0, 1) := by decide +kernel
theorem dX12_alike_1 : decode cX12_alike 1 = .ok (.iload_n 1, 1) := by decide +kernel
theorem dX12_alike_2 : decode cX12_alike 2 = .ok (.iconst 2, 1) := by decide +kernel
theorem dX12_alike_3 : decode cX12_alike 3 = .ok (.invokevirtual 116, 3) := by decide +kernel
theorem dX12_alike_6 : decode cX12_alike 6 = .ok (.ifCond .eq 32, 3) := by decide +kernel
theorem dX12_alike_38 : decode cX12_alike 38 = .ok (.aload_n 0, 1) := by decide +kernel
theorem dX12_alike_39 : decode cX12_alike 39 = .ok (.ldc 103, 2) := by decide +kernel
theorem dX12_alike_41 : decode cX12_alike 41 = .ok (.invokevirtual 104, 3) := by decide +kernel
theorem dX12_alike_44 : decode cX12_alike 44 = .ok (.ireturn, 1) := by decide +kernel
theorem dX12_as_0 : decode cX12_as 0 = .ok (.aload_n 0, 1) := by decide +kernel
theorem dX12_as_1 : decode cX12_as 1 = .ok (.iload_n 1, 1) := by decide +kernel
theorem dX12_as_2 : decode cX12_as 2 = .ok (.iconst 2, 1) := by decide +kernel
theorem dX12_as_3 : decode cX12_as 3 = .ok (.invokevirtual 116, 3) := by decide +kernel
theorem dX12_as_6 : decode cX12_as 6 = .ok (.ifCond .eq 13, 3) := by decide +kernel
theorem dX12_as_19 : decode cX12_as 19 = .ok (.aload_n 0, 1) := by decide +kernel
theorem dX12_as_20 : decode cX12_as 20 = .ok (.ldc 103, 2) := by decide +kernel
theorem dX12_as_22 : decode cX12_as 22 = .ok (.invokevirtual 104, 3) := by decide +kernel
theorem dX12_as_25 : decode cX12_as 25 = .ok (.ireturn, 1) := by decide +kernel
theorem dX12_at_0 : decode cX12_at 0 = .ok (.iload_n 1, 1) := by decide +kernel
theorem dX12_at_1 : decode cX12_at 1 = .ok (.invokestatic 99, 3) := by decide +kernel
theorem dX12_at_4 : decode cX12_at 4 = .ok (.ifCond .eq 11, 3) := by decide +kernel
theorem dX12_at_7 : decode cX12_at 7 = .ok (.aload_n 0, 1) := by decide +kernel
theorem dX12_at_8 : decode cX12_at 8 = .ok (.iload_n 1, 1) := by decide +kernel
theorem dX12_at_9 : decode cX12_at 9 = .ok (.invokevirtual 96, 3) := by decide +kernel
theorem dX12_at_12 : decode cX12_at 12 = .ok (.goto 9, 3) := by decide +kernel
theorem dX12_at_15 : decode cX12_at 15 = .ok (.aload_n 0, 1) := by decide +kernel
theorem dX12_at_16 : decode cX12_at 16 = .ok (.ldc 103, 2) := by decide +kernel
theorem dX12_at_18 : decode cX12_at 18 = .ok (.invokevirtual 104, 3) := by decide +kernel
theorem dX12_at_21 : decode cX12_at 21 = .ok (.ireturn, 1) := by decide +kernel
theorem dX12_away_0 : decode cX12_away 0 = .ok (.aload_n 0, 1) := by decide +kernel
theorem dX12_away_1 : decode cX12_away 1 = .ok (.iload_n 1, 1) := by decide +kernel
theorem dX12_away_2 : decode cX12_away 2 = .ok (.iconst 1, 1) := by decide +kernel
theorem dX12_away_3 : decode cX12_away 3 = .ok (.invokevirtual 116, 3) := by decide +kernel
theorem dX12_away_6 : decode cX12_away 6 = .ok (.ifCond .ne 10, 3) := by decide +kernel
theorem dX12_away_9 : decode cX12_away 9 = .ok (.aload_n 0, 1) := by decide +kernel
theorem dX12_away_10 : decode cX12_away 10 = .ok (.ldc 103, 2) := by decide +kernel
theorem dX12_away_12 : decode cX12_away 12 = .ok (.invokevirtual 104, 3) := by decide +kernel
theorem dX12_away_15 : decode cX12_away 15 = .ok (.ireturn, 1) := by decide +kernel
theorem dX12_check_0 : decode cX12_check 0 = .ok (.aload_n 0, 1) := by decide +kernel
theorem dX12_check_1 : decode cX12_check 1 = .ok (.getfield 9, 3) := by decide +kernel
theorem dX12_check_4 : decode cX12_check 4 = .ok (.iconst 5, 1) := by decide +kernel
theorem dX12_check_5 : decode cX12_check 5 = .ok (.iaload, 1) := by decide +kernel
theorem dX12_check_6 : decode cX12_check 6 = .ok (.istore_n 2, 1) := by decide +kernel
theorem dX12_check_7 : decode cX12_check 7 = .ok (.aload_n 0, 1) := by decide +kernel
theorem dX12_check_8 : decode cX12_check 8 = .ok (.getfield 9, 3) := by decide +kernel
theorem dX12_check_11 : decode cX12_check 11 = .ok (.iconst 5, 1) := by decide +kernel
theorem dX12_check_12 : decode cX12_check 12 = .ok (.iconst 0, 1) := by decide +kernel
theorem dX12_check_13 : decode cX12_check 13 = .ok (.iastore, 1) := by decide +kernel
theorem dX12_check_14 : decode cX12_check 14 = .ok (.aload_n 0, 1) := by decide +kernel
theorem dX12_check_15 : decode cX12_check 15 = .ok (.iload_n 1, 1) := by decide +kernel
theorem dX12_check_16 : decode cX12_check 16 = .ok (.iconst 2, 1) := by decide +kernel
theorem dX12_check_17 : decode cX12_check 17 = .ok (.invokevirtual 116, 3) := by decide +kernel
theorem dX12_check_20 : decode cX12_check 20 = .ok (.ifCond .ne 10, 3) := by decide +kernel
theorem dX12_check_23 : decode cX12_check 23 = .ok (.aload_n 0, 1) := by decide +kernel
theorem dX12_check_24 : decode cX12_check 24 = .ok (.ldc 103, 2) := by decide +kernel
theorem dX12_check_26 : decode cX12_check 26 = .ok (.invokevirtual 104, 3) := by decide +kernel
theorem dX12_check_29 : decode cX12_check 29 = .ok (.ireturn, 1) := by decide +kernel
theorem dX12_click_0 : decode cX12_click 0 = .ok (.aload_n 0, 1) := by decide +kernel
theorem dX12_click_1 : decode cX12_click 1 = .ok (.iload_n 1, 1) := by decide +kernel
theorem dX12_click_2 : decode cX12_click 2 = .ok (.iconst 2, 1) := by decide +kernel
theorem dX12_click_3 : decode cX12_click 3 = .ok (.invokevirtual 116, 3) := by decide +kernel
theorem dX12_click_6 : decode cX12_click 6 = .ok (.ifCond .ne 10, 3) := by decide +kernel
theorem dX12_click_9 : decode cX12_click 9 = .ok (.aload_n 0, 1) := by decide +kernel
theorem dX12_click_10 : decode cX12_click 10 = .ok (.ldc 103, 2) := by decide +kernel
theorem dX12_click_12 : decode cX12_click 12 = .ok (.invokevirtual 104, 3) := by decide +kernel
theorem dX12_click_15 : decode cX12_click 15 = .ok (.ireturn, 1) := by decide +kernel
theorem dX12_count_0 : decode cX12_count 0 = .ok (.iconst 0, 1) := by decide +kernel
theorem dX12_count_1 : decode cX12_count 1 = .ok (.istore_n 2, 1) := by decide +kernel
theorem dX12_count_2 : decode cX12_count 2 = .ok (.iload_n 1, 1) := by decide +kernel
theorem dX12_count_3 : decode cX12_count 3 = .ok (.tableswitch 146 0 8 #[49, 56, 99, 106, 113, 120, 127, 132, 139], 49) := by decide +kernel
theorem dX12_count_52 : decode cX12_count 52 = .ok (.aload_n 0, 1) := by decide +kernel
theorem dX12_count_53 : decode cX12_count 53 = .ok (.getfield 9, 3) := by decide +kernel
theorem dX12_count_56 : decode cX12_count 56 = .ok (.iconst 0, 1) := by decide +kernel
theorem dX12_count_57 : decode cX12_count 57 = .ok (.iaload, 1) := by decide +kernel
theorem dX12_count_58 : decode cX12_count 58 = .ok (.ireturn, 1) := by decide +kernel
theorem dX12_count_59 : decode cX12_count 59 = .ok (.iconst 0, 1) := by decide +kernel
theorem dX12_count_60 : decode cX12_count 60 = .ok (.istore_n 3, 1) := by decide +kernel
theorem dX12_count_61 : decode cX12_count 61 = .ok (.iload_n 3, 1) := by decide +kernel
theorem dX12_count_62 : decode cX12_count 62 = .ok (.aload_n 0, 1) := by decide +kernel
theorem dX12_count_63 : decode cX12_count 63 = .ok (.getfield 9, 3) := by decide +kernel
theorem dX12_count_66 : decode cX12_count 66 = .ok (.iconst 1, 1) := by decide +kernel
theorem dX12_count_67 : decode cX12_count 67 = .ok (.iaload, 1) := by decide +kernel
theorem dX12_count_68 : decode cX12_count 68 = .ok (.if_icmp .ge 32, 3) := by decide +kernel
theorem dX12_count_100 : decode cX12_count 100 = .ok (.iload_n 2, 1) := by decide +kernel
theorem dX12_count_101 : decode cX12_count 101 = .ok (.ireturn, 1) := by decide +kernel
theorem dX12_count_102 : decode cX12_count 102 = .ok (.aload_n 0, 1) := by decide +kernel
theorem dX12_count_103 : decode cX12_count 103 = .ok (.getfield 9, 3) := by decide +kernel
theorem dX12_count_106 : decode cX12_count 106 = .ok (.iconst 2, 1) := by decide +kernel
theorem dX12_count_107 : decode cX12_count 107 = .ok (.iaload, 1) := by decide +kernel
theorem dX12_count_108 : decode cX12_count 108 = .ok (.ireturn, 1) := by decide +kernel
theorem dX12_count_109 : decode cX12_count 109 = .ok (.aload_n 0, 1) := by decide +kernel
theorem dX12_count_110 : decode cX12_count 110 = .ok (.getfield 9, 3) := by decide +kernel
theorem dX12_count_113 : decode cX12_count 113 = .ok (.iconst 3, 1) := by decide +kernel
theorem dX12_count_114 : decode cX12_count 114 = .ok (.iaload, 1) := by decide +kernel
theorem dX12_count_115 : decode cX12_count 115 = .ok (.ireturn, 1) := by decide +kernel
theorem dX12_count_116 : decode cX12_count 116 = .ok (.aload_n 0, 1) := by decide +kernel
theorem dX12_count_117 : decode cX12_count 117 = .ok (.getfield 9, 3) := by decide +kernel
theorem dX12_count_120 : decode cX12_count 120 = .ok (.iconst 4, 1) := by decide +kernel
theorem dX12_count_121 : decode cX12_count 121 = .ok (.iaload, 1) := by decide +kernel
theorem dX12_count_122 : decode cX12_count 122 = .ok (.ireturn, 1) := by decide +kernel
theorem dX12_count_123 : decode cX12_count 123 = .ok (.aload_n 0, 1) := by decide +kernel
theorem dX12_count_124 : decode cX12_count 124 = .ok (.getfield 9, 3) := by decide +kernel
theorem dX12_count_127 : decode cX12_count 127 = .ok (.iconst 5, 1) := by decide +kernel
theorem dX12_count_128 : decode cX12_count 128 = .ok (.iaload, 1) := by decide +kernel
theorem dX12_count_129 : decode cX12_count 129 = .ok (.ireturn, 1) := by decide +kernel
theorem dX12_count_130 : decode cX12_count 130 = .ok (.aload_n 0, 1) := by decide +kernel
theorem dX12_count_131 : decode cX12_count 131 = .ok (.getfield 324, 3) := by decide +kernel
theorem dX12_count_134 : decode cX12_count 134 = .ok (.ireturn, 1) := by decide +kernel
theorem dX12_count_135 : decode cX12_count 135 = .ok (.aload_n 0, 1) := by decide +kernel
theorem dX12_count_136 : decode cX12_count 136 = .ok (.bipush 7, 2) := by decide +kernel
theorem dX12_count_138 : decode cX12_count 138 = .ok (.invokevirtual 356, 3) := by decide +kernel
theorem dX12_count_141 : decode cX12_count 141 = .ok (.ireturn, 1) := by decide +kernel
theorem dX12_count_142 : decode cX12_count 142 = .ok (.aload_n 0, 1) := by decide +kernel
theorem dX12_count_143 : decode cX12_count 143 = .ok (.bipush 8, 2) := by decide +kernel
theorem dX12_count_145 : decode cX12_count 145 = .ok (.invokevirtual 356, 3) := by decide +kernel
theorem dX12_count_148 : decode cX12_count 148 = .ok (.ireturn, 1) := by decide +kernel
theorem dX12_count_149 : decode cX12_count 149 = .ok (.aload_n 0, 1) := by decide +kernel
theorem dX12_count_150 : decode cX12_count 150 = .ok (.ldc 103, 2) := by decide +kernel
theorem dX12_count_152 : decode cX12_count 152 = .ok (.invokevirtual 104, 3) := by decide +kernel
theorem dX12_count_155 : decode cX12_count 155 = .ok (.ireturn, 1) := by decide +kernel
theorem dX12_echo_0 : decode cX12_echo 0 = .ok (.aload_n 0, 1) := by decide +kernel
theorem dX12_echo_1 : decode cX12_echo 1 = .ok (.iload_n 1, 1) := by decide +kernel
theorem dX12_echo_2 : decode cX12_echo 2 = .ok (.iconst 2, 1) := by decide +kernel
theorem dX12_echo_3 : decode cX12_echo 3 = .ok (.invokevirtual 116, 3) := by decide +kernel
theorem dX12_echo_6 : decode cX12_echo 6 = .ok (.ifCond .eq 28, 3) := by decide +kernel
theorem dX12_echo_34 : decode cX12_echo 34 = .ok (.aload_n 0, 1) := by decide +kernel
theorem dX12_echo_35 : decode cX12_echo 35 = .ok (.ldc 103, 2) := by decide +kernel
theorem dX12_echo_37 : decode cX12_echo 37 = .ok (.invokevirtual 104, 3) := by decide +kernel
theorem dX12_echo_40 : decode cX12_echo 40 = .ok (.ireturn, 1) := by decide +kernel
theorem dX12_face_0 : decode cX12_face 0 = .ok (.aload_n 0, 1) := by decide +kernel
theorem dX12_face_1 : decode cX12_face 1 = .ok (.iload_n 1, 1) := by decide +kernel
theorem dX12_face_2 : decode cX12_face 2 = .ok (.iconst 2, 1) := by decide +kernel
theorem dX12_face_3 : decode cX12_face 3 = .ok (.invokevirtual 116, 3) := by decide +kernel
theorem dX12_face_6 : decode cX12_face 6 = .ok (.ifCond .eq 25, 3) := by decide +kernel
theorem dX12_face_31 : decode cX12_face 31 = .ok (.aload_n 0, 1) := by decide +kernel
theorem dX12_face_32 : decode cX12_face 32 = .ok (.ldc 103, 2) := by decide +kernel
theorem dX12_face_34 : decode cX12_face 34 = .ok (.invokevirtual 104, 3) := by decide +kernel
theorem dX12_face_37 : decode cX12_face 37 = .ok (.ireturn, 1) := by decide +kernel
theorem dX12_farthest_0 : decode cX12_farthest 0 = .ok (.aload_n 0, 1) := by decide +kernel
theorem dX12_farthest_1 : decode cX12_farthest 1 = .ok (.iload_n 1, 1) := by decide +kernel
theorem dX12_farthest_2 : decode cX12_farthest 2 = .ok (.iconst 2, 1) := by decide +kernel
theorem dX12_farthest_3 : decode cX12_farthest 3 = .ok (.invokevirtual 116, 3) := by decide +kernel
theorem dX12_farthest_6 : decode cX12_farthest 6 = .ok (.ifCond .eq 20, 3) := by decide +kernel
theorem dX12_farthest_26 : decode cX12_farthest 26 = .ok (.aload_n 0, 1) := by decide +kernel
theorem dX12_farthest_27 : decode cX12_farthest 27 = .ok (.ldc 103, 2) := by decide +kernel
theorem dX12_farthest_29 : decode cX12_farthest 29 = .ok (.invokevirtual 104, 3) := by decide +kernel
theorem dX12_farthest_32 : decode cX12_farthest 32 = .ok (.ireturn, 1) := by decide +kernel
theorem dX12_feed_0 : decode cX12_feed 0 = .ok (.iload_n 3, 1) := by decide +kernel
theorem dX12_feed_1 : decode cX12_feed 1 = .ok (.iconst 1, 1) := by decide +kernel
theorem dX12_feed_2 : decode cX12_feed 2 = .ok (.bipush 8, 2) := by decide +kernel
theorem dX12_feed_4 : decode cX12_feed 4 = .ok (.invokestatic 85, 3) := by decide +kernel
theorem dX12_feed_7 : decode cX12_feed 7 = .ok (.ifCond .ne 10, 3) := by decide +kernel
theorem dX12_feed_10 : decode cX12_feed 10 = .ok (.aload_n 0, 1) := by decide +kernel
theorem dX12_feed_11 : decode cX12_feed 11 = .ok (.ldc 103, 2) := by decide +kernel
theorem dX12_feed_13 : decode cX12_feed 13 = .ok (.invokevirtual 104, 3) := by decide +kernel
theorem dX12_feed_16 : decode cX12_feed 16 = .ok (.ireturn, 1) := by decide +kernel
theorem dX12_feed_17 : decode cX12_feed 17 = .ok (.aload_n 0, 1) := by decide +kernel
theorem dX12_feed_18 : decode cX12_feed 18 = .ok (.getfield 9, 3) := by decide +kernel
theorem dX12_feed_21 : decode cX12_feed 21 = .ok (.iconst 4, 1) := by decide +kernel
theorem dX12_feed_22 : decode cX12_feed 22 = .ok (.iaload, 1) := by decide +kernel
theorem dX12_feed_23 : decode cX12_feed 23 = .ok (.iload_n 3, 1) := by decide +kernel
theorem dX12_feed_24 : decode cX12_feed 24 = .ok (.iadd, 1) := by decide +kernel
theorem dX12_feed_25 : decode cX12_feed 25 = .ok (.bipush 48, 2) := by decide +kernel
theorem dX12_feed_27 : decode cX12_feed 27 = .ok (.if_icmp .le 10, 3) := by decide +kernel
theorem dX12_feed_37 : decode cX12_feed 37 = .ok (.iconst 0, 1) := by decide +kernel
theorem dX12_feed_38 : decode cX12_feed 38 = .ok (.istore 4, 2) := by decide +kernel
theorem dX12_feed_40 : decode cX12_feed 40 = .ok (.iload 4, 2) := by decide +kernel
theorem dX12_feed_42 : decode cX12_feed 42 = .ok (.iload_n 3, 1) := by decide +kernel
theorem dX12_feed_43 : decode cX12_feed 43 = .ok (.if_icmp .ge 46, 3) := by decide +kernel
theorem dX12_feed_46 : decode cX12_feed 46 = .ok (.aload_n 0, 1) := by decide +kernel
theorem dX12_feed_47 : decode cX12_feed 47 = .ok (.getfield 9, 3) := by decide +kernel
theorem dX12_feed_50 : decode cX12_feed 50 = .ok (.sipush 273, 3) := by decide +kernel
theorem dX12_feed_53 : decode cX12_feed 53 = .ok (.aload_n 0, 1) := by decide +kernel
theorem dX12_feed_54 : decode cX12_feed 54 = .ok (.getfield 9, 3) := by decide +kernel
theorem dX12_feed_57 : decode cX12_feed 57 = .ok (.iconst 4, 1) := by decide +kernel
theorem dX12_feed_58 : decode cX12_feed 58 = .ok (.iaload, 1) := by decide +kernel
theorem dX12_feed_59 : decode cX12_feed 59 = .ok (.iadd, 1) := by decide +kernel
theorem dX12_feed_60 : decode cX12_feed 60 = .ok (.lload_n 1, 1) := by decide +kernel
theorem dX12_feed_61 : decode cX12_feed 61 = .ok (.bipush 8, 2) := by decide +kernel
theorem dX12_feed_63 : decode cX12_feed 63 = .ok (.iload 4, 2) := by decide +kernel
theorem dX12_feed_65 : decode cX12_feed 65 = .ok (.imul, 1) := by decide +kernel
theorem dX12_feed_66 : decode cX12_feed 66 = .ok (.lshr, 1) := by decide +kernel
theorem dX12_feed_67 : decode cX12_feed 67 = .ok (.ldc2_w 149, 3) := by decide +kernel
theorem dX12_feed_70 : decode cX12_feed 70 = .ok (.land, 1) := by decide +kernel
theorem dX12_feed_71 : decode cX12_feed 71 = .ok (.l2i, 1) := by decide +kernel
theorem dX12_feed_72 : decode cX12_feed 72 = .ok (.iastore, 1) := by decide +kernel
theorem dX12_feed_73 : decode cX12_feed 73 = .ok (.aload_n 0, 1) := by decide +kernel
theorem dX12_feed_74 : decode cX12_feed 74 = .ok (.getfield 9, 3) := by decide +kernel
theorem dX12_feed_77 : decode cX12_feed 77 = .ok (.iconst 4, 1) := by decide +kernel
theorem dX12_feed_78 : decode cX12_feed 78 = .ok (.dup2, 1) := by decide +kernel
theorem dX12_feed_79 : decode cX12_feed 79 = .ok (.iaload, 1) := by decide +kernel
theorem dX12_feed_80 : decode cX12_feed 80 = .ok (.iconst 1, 1) := by decide +kernel
theorem dX12_feed_81 : decode cX12_feed 81 = .ok (.iadd, 1) := by decide +kernel
theorem dX12_feed_82 : decode cX12_feed 82 = .ok (.iastore, 1) := by decide +kernel
theorem dX12_feed_83 : decode cX12_feed 83 = .ok (.iinc 4 1, 3) := by decide +kernel
theorem dX12_feed_86 : decode cX12_feed 86 = .ok (.goto (-46), 3) := by decide +kernel
theorem dX12_feed_89 : decode cX12_feed 89 = .ok (.aload_n 0, 1) := by decide +kernel
theorem dX12_feed_90 : decode cX12_feed 90 = .ok (.getfield 9, 3) := by decide +kernel
theorem dX12_feed_93 : decode cX12_feed 93 = .ok (.iconst 4, 1) := by decide +kernel
theorem dX12_feed_94 : decode cX12_feed 94 = .ok (.iaload, 1) := by decide +kernel
theorem dX12_feed_95 : decode cX12_feed 95 = .ok (.ireturn, 1) := by decide +kernel
theorem dX12_goes_0 : decode cX12_goes 0 = .ok (.aload_n 0, 1) := by decide +kernel
theorem dX12_goes_1 : decode cX12_goes 1 = .ok (.iload_n 1, 1) := by decide +kernel
theorem dX12_goes_2 : decode cX12_goes 2 = .ok (.iconst 2, 1) := by decide +kernel
theorem dX12_goes_3 : decode cX12_goes 3 = .ok (.invokevirtual 116, 3) := by decide +kernel
theorem dX12_goes_6 : decode cX12_goes 6 = .ok (.ifCond .eq 27, 3) := by decide +kernel
theorem dX12_goes_33 : decode cX12_goes 33 = .ok (.aload_n 0, 1) := by decide +kernel
theorem dX12_goes_34 : decode cX12_goes 34 = .ok (.ldc 103, 2) := by decide +kernel
theorem dX12_goes_36 : decode cX12_goes 36 = .ok (.invokevirtual 104, 3) := by decide +kernel
theorem dX12_goes_39 : decode cX12_goes 39 = .ok (.ireturn, 1) := by decide +kernel
theorem dX12_habit_0 : decode cX12_habit 0 = .ok (.aload_n 0, 1) := by decide +kernel
theorem dX12_habit_1 : decode cX12_habit 1 = .ok (.iload_n 1, 1) := by decide +kernel
theorem dX12_habit_2 : decode cX12_habit 2 = .ok (.iconst 2, 1) := by decide +kernel
theorem dX12_habit_3 : decode cX12_habit 3 = .ok (.invokevirtual 116, 3) := by decide +kernel
theorem dX12_habit_6 : decode cX12_habit 6 = .ok (.ifCond .eq 34, 3) := by decide +kernel
theorem dX12_habit_40 : decode cX12_habit 40 = .ok (.aload_n 0, 1) := by decide +kernel
theorem dX12_habit_41 : decode cX12_habit 41 = .ok (.ldc 103, 2) := by decide +kernel
theorem dX12_habit_43 : decode cX12_habit 43 = .ok (.invokevirtual 104, 3) := by decide +kernel
theorem dX12_habit_46 : decode cX12_habit 46 = .ok (.ireturn, 1) := by decide +kernel
theorem dX12_head_0 : decode cX12_head 0 = .ok (.aload_n 0, 1) := by decide +kernel
theorem dX12_head_1 : decode cX12_head 1 = .ok (.iload_n 1, 1) := by decide +kernel
theorem dX12_head_2 : decode cX12_head 2 = .ok (.iconst 2, 1) := by decide +kernel
theorem dX12_head_3 : decode cX12_head 3 = .ok (.invokevirtual 116, 3) := by decide +kernel
theorem dX12_head_6 : decode cX12_head 6 = .ok (.ifCond .eq 19, 3) := by decide +kernel
theorem dX12_head_25 : decode cX12_head 25 = .ok (.aload_n 0, 1) := by decide +kernel
theorem dX12_head_26 : decode cX12_head 26 = .ok (.ldc 103, 2) := by decide +kernel
theorem dX12_head_28 : decode cX12_head 28 = .ok (.invokevirtual 104, 3) := by decide +kernel
theorem dX12_head_31 : decode cX12_head 31 = .ok (.ireturn, 1) := by decide +kernel
theorem dX12_heads_0 : decode cX12_heads 0 = .ok (.aload_n 0, 1) := by decide +kernel
theorem dX12_heads_1 : decode cX12_heads 1 = .ok (.iload_n 1, 1) := by decide +kernel
theorem dX12_heads_2 : decode cX12_heads 2 = .ok (.iconst 2, 1) := by decide +kernel
theorem dX12_heads_3 : decode cX12_heads 3 = .ok (.invokevirtual 116, 3) := by decide +kernel
theorem dX12_heads_6 : decode cX12_heads 6 = .ok (.ifCond .eq 12, 3) := by decide +kernel
theorem dX12_heads_18 : decode cX12_heads 18 = .ok (.aload_n 0, 1) := by decide +kernel
theorem dX12_heads_19 : decode cX12_heads 19 = .ok (.ldc 103, 2) := by decide +kernel
theorem dX12_heads_21 : decode cX12_heads 21 = .ok (.invokevirtual 104, 3) := by decide +kernel
theorem dX12_heads_24 : decode cX12_heads 24 = .ok (.ireturn, 1) := by decide +kernel
theorem dX12_image_0 : decode cX12_image 0 = .ok (.aload_n 0, 1) := by decide +kernel
theorem dX12_image_1 : decode cX12_image 1 = .ok (.getfield 9, 3) := by decide +kernel
theorem dX12_image_4 : decode cX12_image 4 = .ok (.aload_n 0, 1) := by decide +kernel
theorem dX12_image_5 : decode cX12_image 5 = .ok (.getfield 13, 3) := by decide +kernel
theorem dX12_image_8 : decode cX12_image 8 = .ok (.invokestatic 349, 3) := by decide +kernel
theorem dX12_image_11 : decode cX12_image 11 = .ok (.aload_n 0, 1) := by decide +kernel
theorem dX12_image_12 : decode cX12_image 12 = .ok (.dup, 1) := by decide +kernel
theorem dX12_image_13 : decode cX12_image 13 = .ok (.getfield 353, 3) := by decide +kernel
theorem dX12_image_16 : decode cX12_image 16 = .ok (.iconst 1, 1) := by decide +kernel
theorem dX12_image_17 : decode cX12_image 17 = .ok (.iadd, 1) := by decide +kernel
theorem dX12_image_18 : decode cX12_image 18 = .ok (.putfield 353, 3) := by decide +kernel
theorem dX12_image_21 : decode cX12_image 21 = .ok (.aload_n 0, 1) := by decide +kernel
theorem dX12_image_22 : decode cX12_image 22 = .ok (.getfield 353, 3) := by decide +kernel
theorem dX12_image_25 : decode cX12_image 25 = .ok (.ireturn, 1) := by decide +kernel
theorem dX12_kind_0 : decode cX12_kind 0 = .ok (.iload_n 1, 1) := by decide +kernel
theorem dX12_kind_1 : decode cX12_kind 1 = .ok (.iconst 0, 1) := by decide +kernel
theorem dX12_kind_2 : decode cX12_kind 2 = .ok (.iconst 4, 1) := by decide +kernel
theorem dX12_kind_3 : decode cX12_kind 3 = .ok (.invokestatic 85, 3) := by decide +kernel
theorem dX12_kind_6 : decode cX12_kind 6 = .ok (.ifCond .eq 31, 3) := by decide +kernel
theorem dX12_kind_9 : decode cX12_kind 9 = .ok (.iload_n 2, 1) := by decide +kernel
theorem dX12_kind_10 : decode cX12_kind 10 = .ok (.iconst 0, 1) := by decide +kernel
theorem dX12_kind_11 : decode cX12_kind 11 = .ok (.iconst 1, 1) := by decide +kernel
theorem dX12_kind_12 : decode cX12_kind 12 = .ok (.invokestatic 85, 3) := by decide +kernel
theorem dX12_kind_15 : decode cX12_kind 15 = .ok (.ifCond .eq 22, 3) := by decide +kernel
theorem dX12_kind_18 : decode cX12_kind 18 = .ok (.iload_n 3, 1) := by decide +kernel
theorem dX12_kind_19 : decode cX12_kind 19 = .ok (.iconst 0, 1) := by decide +kernel
theorem dX12_kind_20 : decode cX12_kind 20 = .ok (.iload_n 2, 1) := by decide +kernel
theorem dX12_kind_21 : decode cX12_kind 21 = .ok (.ifCond .ne 8, 3) := by decide +kernel
theorem dX12_kind_24 : decode cX12_kind 24 = .ok (.bipush 99, 2) := by decide +kernel
theorem dX12_kind_26 : decode cX12_kind 26 = .ok (.goto 5, 3) := by decide +kernel
theorem dX12_kind_29 : decode cX12_kind 29 = .ok (.bipush 9, 2) := by decide +kernel
theorem dX12_kind_31 : decode cX12_kind 31 = .ok (.invokestatic 85, 3) := by decide +kernel
theorem dX12_kind_34 : decode cX12_kind 34 = .ok (.ifCond .ne 10, 3) := by decide +kernel
theorem dX12_kind_37 : decode cX12_kind 37 = .ok (.aload_n 0, 1) := by decide +kernel
theorem dX12_kind_38 : decode cX12_kind 38 = .ok (.ldc 103, 2) := by decide +kernel
theorem dX12_kind_40 : decode cX12_kind 40 = .ok (.invokevirtual 104, 3) := by decide +kernel
theorem dX12_kind_43 : decode cX12_kind 43 = .ok (.ireturn, 1) := by decide +kernel
theorem dX12_kind_44 : decode cX12_kind 44 = .ok (.aload_n 0, 1) := by decide +kernel
theorem dX12_kind_45 : decode cX12_kind 45 = .ok (.iload_n 2, 1) := by decide +kernel
theorem dX12_kind_46 : decode cX12_kind 46 = .ok (.ifCond .ne 8, 3) := by decide +kernel
theorem dX12_kind_49 : decode cX12_kind 49 = .ok (.bipush 9, 2) := by decide +kernel
theorem dX12_kind_51 : decode cX12_kind 51 = .ok (.goto 5, 3) := by decide +kernel
theorem dX12_kind_54 : decode cX12_kind 54 = .ok (.bipush 14, 2) := by decide +kernel
theorem dX12_kind_56 : decode cX12_kind 56 = .ok (.iload_n 1, 1) := by decide +kernel
theorem dX12_kind_57 : decode cX12_kind 57 = .ok (.iadd, 1) := by decide +kernel
theorem dX12_kind_58 : decode cX12_kind 58 = .ok (.iload_n 3, 1) := by decide +kernel
theorem dX12_kind_59 : decode cX12_kind 59 = .ok (.invokevirtual 124, 3) := by decide +kernel
theorem dX12_kind_62 : decode cX12_kind 62 = .ok (.ireturn, 1) := by decide +kernel
theorem dX12_lays_0 : decode cX12_lays 0 = .ok (.iload_n 1, 1) := by decide +kernel
theorem dX12_lays_1 : decode cX12_lays 1 = .ok (.invokestatic 127, 3) := by decide +kernel
theorem dX12_lays_4 : decode cX12_lays 4 = .ok (.ifCond .eq 13, 3) := by decide +kernel
theorem dX12_lays_7 : decode cX12_lays 7 = .ok (.iload_n 2, 1) := by decide +kernel
theorem dX12_lays_8 : decode cX12_lays 8 = .ok (.iconst 0, 1) := by decide +kernel
theorem dX12_lays_9 : decode cX12_lays 9 = .ok (.bipush 11, 2) := by decide +kernel
theorem dX12_lays_11 : decode cX12_lays 11 = .ok (.invokestatic 85, 3) := by decide +kernel
theorem dX12_lays_14 : decode cX12_lays 14 = .ok (.ifCond .ne 10, 3) := by decide +kernel
theorem dX12_lays_17 : decode cX12_lays 17 = .ok (.aload_n 0, 1) := by decide +kernel
theorem dX12_lays_18 : decode cX12_lays 18 = .ok (.ldc 103, 2) := by decide +kernel
theorem dX12_lays_20 : decode cX12_lays 20 = .ok (.invokevirtual 104, 3) := by decide +kernel
theorem dX12_lays_23 : decode cX12_lays 23 = .ok (.ireturn, 1) := by decide +kernel
theorem dX12_lays_24 : decode cX12_lays 24 = .ok (.aload_n 0, 1) := by decide +kernel
theorem dX12_lays_25 : decode cX12_lays 25 = .ok (.getfield 72, 3) := by decide +kernel
theorem dX12_lays_28 : decode cX12_lays 28 = .ok (.iload_n 1, 1) := by decide +kernel
theorem dX12_lays_29 : decode cX12_lays 29 = .ok (.iaload, 1) := by decide +kernel
theorem dX12_lays_30 : decode cX12_lays 30 = .ok (.ifCond .ne 10, 3) := by decide +kernel
theorem dX12_lays_33 : decode cX12_lays 33 = .ok (.aload_n 0, 1) := by decide +kernel
theorem dX12_lays_34 : decode cX12_lays 34 = .ok (.ldc 130, 2) := by decide +kernel
theorem dX12_lays_36 : decode cX12_lays 36 = .ok (.invokevirtual 104, 3) := by decide +kernel
theorem dX12_lays_39 : decode cX12_lays 39 = .ok (.ireturn, 1) := by decide +kernel
theorem dX12_learn_0 : decode cX12_learn 0 = .ok (.iload_n 1, 1) := by decide +kernel
theorem dX12_learn_1 : decode cX12_learn 1 = .ok (.iconst 0, 1) := by decide +kernel
theorem dX12_learn_2 : decode cX12_learn 2 = .ok (.bipush 31, 2) := by decide +kernel
theorem dX12_learn_4 : decode cX12_learn 4 = .ok (.invokestatic 85, 3) := by decide +kernel
theorem dX12_learn_7 : decode cX12_learn 7 = .ok (.ifCond .eq 19, 3) := by decide +kernel
theorem dX12_learn_10 : decode cX12_learn 10 = .ok (.iload_n 2, 1) := by decide +kernel
theorem dX12_learn_11 : decode cX12_learn 11 = .ok (.iconst 0, 1) := by decide +kernel
theorem dX12_learn_12 : decode cX12_learn 12 = .ok (.bipush 31, 2) := by decide +kernel
theorem dX12_learn_14 : decode cX12_learn 14 = .ok (.invokestatic 85, 3) := by decide +kernel
theorem dX12_learn_17 : decode cX12_learn 17 = .ok (.ifCond .eq 9, 3) := by decide +kernel
theorem dX12_learn_20 : decode cX12_learn 20 = .ok (.iload_n 3, 1) := by decide +kernel
theorem dX12_learn_21 : decode cX12_learn 21 = .ok (.bipush (-2), 2) := by decide +kernel
theorem dX12_learn_23 : decode cX12_learn 23 = .ok (.if_icmp .ge 10, 3) := by decide +kernel
theorem dX12_learn_26 : decode cX12_learn 26 = .ok (.aload_n 0, 1) := by decide +kernel
theorem dX12_learn_27 : decode cX12_learn 27 = .ok (.ldc 103, 2) := by decide +kernel
theorem dX12_learn_29 : decode cX12_learn 29 = .ok (.invokevirtual 104, 3) := by decide +kernel
theorem dX12_learn_32 : decode cX12_learn 32 = .ok (.ireturn, 1) := by decide +kernel
theorem dX12_learn_33 : decode cX12_learn 33 = .ok (.aload_n 0, 1) := by decide +kernel
theorem dX12_learn_34 : decode cX12_learn 34 = .ok (.iconst (-1), 1) := by decide +kernel
theorem dX12_learn_35 : decode cX12_learn 35 = .ok (.putfield 311, 3) := by decide +kernel
theorem dX12_learn_38 : decode cX12_learn 38 = .ok (.aload_n 0, 1) := by decide +kernel
theorem dX12_learn_39 : decode cX12_learn 39 = .ok (.iconst 0, 1) := by decide +kernel
theorem dX12_learn_40 : decode cX12_learn 40 = .ok (.putfield 314, 3) := by decide +kernel
theorem dX12_learn_43 : decode cX12_learn 43 = .ok (.aload_n 0, 1) := by decide +kernel
theorem dX12_learn_44 : decode cX12_learn 44 = .ok (.iconst 0, 1) := by decide +kernel
theorem dX12_learn_45 : decode cX12_learn 45 = .ok (.iconst 0, 1) := by decide +kernel
theorem dX12_learn_46 : decode cX12_learn 46 = .ok (.iload_n 1, 1) := by decide +kernel
theorem dX12_learn_47 : decode cX12_learn 47 = .ok (.iload_n 2, 1) := by decide +kernel
theorem dX12_learn_48 : decode cX12_learn 48 = .ok (.iconst 0, 1) := by decide +kernel
theorem dX12_learn_49 : decode cX12_learn 49 = .ok (.invokevirtual 317, 3) := by decide +kernel
theorem dX12_learn_52 : decode cX12_learn 52 = .ok (.aload_n 0, 1) := by decide +kernel
theorem dX12_learn_53 : decode cX12_learn 53 = .ok (.getfield 311, 3) := by decide +kernel
theorem dX12_learn_56 : decode cX12_learn 56 = .ok (.ifCond .lt 11, 3) := by decide +kernel
theorem dX12_learn_59 : decode cX12_learn 59 = .ok (.iload_n 3, 1) := by decide +kernel
theorem dX12_learn_60 : decode cX12_learn 60 = .ok (.aload_n 0, 1) := by decide +kernel
theorem dX12_learn_61 : decode cX12_learn 61 = .ok (.getfield 311, 3) := by decide +kernel
theorem dX12_learn_64 : decode cX12_learn 64 = .ok (.if_icmp .lt 10, 3) := by decide +kernel
theorem dX12_learn_67 : decode cX12_learn 67 = .ok (.aload_n 0, 1) := by decide +kernel
theorem dX12_learn_68 : decode cX12_learn 68 = .ok (.ldc 130, 2) := by decide +kernel
theorem dX12_learn_70 : decode cX12_learn 70 = .ok (.invokevirtual 104, 3) := by decide +kernel
theorem dX12_learn_73 : decode cX12_learn 73 = .ok (.ireturn, 1) := by decide +kernel
theorem dX12_learn_74 : decode cX12_learn 74 = .ok (.iload_n 3, 1) := by decide +kernel
theorem dX12_learn_75 : decode cX12_learn 75 = .ok (.iconst (-1), 1) := by decide +kernel
theorem dX12_learn_76 : decode cX12_learn 76 = .ok (.if_icmp .ne 10, 3) := by decide +kernel
theorem dX12_learn_79 : decode cX12_learn 79 = .ok (.aload_n 0, 1) := by decide +kernel
theorem dX12_learn_80 : decode cX12_learn 80 = .ok (.getfield 314, 3) := by decide +kernel
theorem dX12_learn_83 : decode cX12_learn 83 = .ok (.goto 22, 3) := by decide +kernel
theorem dX12_learn_86 : decode cX12_learn 86 = .ok (.iload_n 3, 1) := by decide +kernel
theorem dX12_learn_87 : decode cX12_learn 87 = .ok (.bipush (-2), 2) := by decide +kernel
theorem dX12_learn_89 : decode cX12_learn 89 = .ok (.if_icmp .ne 10, 3) := by decide +kernel
theorem dX12_learn_92 : decode cX12_learn 92 = .ok (.aload_n 0, 1) := by decide +kernel
theorem dX12_learn_93 : decode cX12_learn 93 = .ok (.getfield 311, 3) := by decide +kernel
theorem dX12_learn_96 : decode cX12_learn 96 = .ok (.goto 9, 3) := by decide +kernel
theorem dX12_learn_105 : decode cX12_learn 105 = .ok (.ireturn, 1) := by decide +kernel
theorem dX12_least_0 : decode cX12_least 0 = .ok (.aload_n 0, 1) := by decide +kernel
theorem dX12_least_1 : decode cX12_least 1 = .ok (.iload_n 1, 1) := by decide +kernel
theorem dX12_least_2 : decode cX12_least 2 = .ok (.iconst 2, 1) := by decide +kernel
theorem dX12_least_3 : decode cX12_least 3 = .ok (.invokevirtual 116, 3) := by decide +kernel
theorem dX12_least_6 : decode cX12_least 6 = .ok (.ifCond .eq 32, 3) := by decide +kernel
theorem dX12_least_38 : decode cX12_least 38 = .ok (.aload_n 0, 1) := by decide +kernel
theorem dX12_least_39 : decode cX12_least 39 = .ok (.ldc 103, 2) := by decide +kernel
theorem dX12_least_41 : decode cX12_least 41 = .ok (.invokevirtual 104, 3) := by decide +kernel
theorem dX12_least_44 : decode cX12_least 44 = .ok (.ireturn, 1) := by decide +kernel
theorem dX12_lesson_0 : decode cX12_lesson 0 = .ok (.iload_n 1, 1) := by decide +kernel
theorem dX12_lesson_1 : decode cX12_lesson 1 = .ok (.iconst 0, 1) := by decide +kernel
theorem dX12_lesson_2 : decode cX12_lesson 2 = .ok (.bipush 31, 2) := by decide +kernel
theorem dX12_lesson_4 : decode cX12_lesson 4 = .ok (.invokestatic 85, 3) := by decide +kernel
theorem dX12_lesson_7 : decode cX12_lesson 7 = .ok (.ifCond .eq 23, 3) := by decide +kernel
theorem dX12_lesson_10 : decode cX12_lesson 10 = .ok (.iload_n 2, 1) := by decide +kernel
theorem dX12_lesson_11 : decode cX12_lesson 11 = .ok (.iconst 0, 1) := by decide +kernel
theorem dX12_lesson_12 : decode cX12_lesson 12 = .ok (.bipush 31, 2) := by decide +kernel
theorem dX12_lesson_14 : decode cX12_lesson 14 = .ok (.invokestatic 85, 3) := by decide +kernel
theorem dX12_lesson_17 : decode cX12_lesson 17 = .ok (.ifCond .eq 13, 3) := by decide +kernel
theorem dX12_lesson_20 : decode cX12_lesson 20 = .ok (.iload_n 3, 1) := by decide +kernel
theorem dX12_lesson_21 : decode cX12_lesson 21 = .ok (.iconst 1, 1) := by decide +kernel
theorem dX12_lesson_22 : decode cX12_lesson 22 = .ok (.bipush 99, 2) := by decide +kernel
theorem dX12_lesson_24 : decode cX12_lesson 24 = .ok (.invokestatic 85, 3) := by decide +kernel
theorem dX12_lesson_27 : decode cX12_lesson 27 = .ok (.ifCond .ne 10, 3) := by decide +kernel
theorem dX12_lesson_30 : decode cX12_lesson 30 = .ok (.aload_n 0, 1) := by decide +kernel
theorem dX12_lesson_31 : decode cX12_lesson 31 = .ok (.ldc 103, 2) := by decide +kernel
theorem dX12_lesson_33 : decode cX12_lesson 33 = .ok (.invokevirtual 104, 3) := by decide +kernel
theorem dX12_lesson_36 : decode cX12_lesson 36 = .ok (.ireturn, 1) := by decide +kernel
theorem dX12_lesson_37 : decode cX12_lesson 37 = .ok (.aload_n 0, 1) := by decide +kernel
theorem dX12_lesson_38 : decode cX12_lesson 38 = .ok (.getfield 9, 3) := by decide +kernel
theorem dX12_lesson_41 : decode cX12_lesson 41 = .ok (.iconst 3, 1) := by decide +kernel
theorem dX12_lesson_42 : decode cX12_lesson 42 = .ok (.iaload, 1) := by decide +kernel
theorem dX12_lesson_43 : decode cX12_lesson 43 = .ok (.istore 4, 2) := by decide +kernel
theorem dX12_lesson_45 : decode cX12_lesson 45 = .ok (.iload 4, 2) := by decide +kernel
theorem dX12_lesson_47 : decode cX12_lesson 47 = .ok (.bipush 7, 2) := by decide +kernel
theorem dX12_lesson_49 : decode cX12_lesson 49 = .ok (.if_icmp .ne 10, 3) := by decide +kernel
theorem dX12_lesson_59 : decode cX12_lesson 59 = .ok (.aload_n 0, 1) := by decide +kernel
theorem dX12_lesson_60 : decode cX12_lesson 60 = .ok (.getfield 9, 3) := by decide +kernel
theorem dX12_lesson_63 : decode cX12_lesson 63 = .ok (.sipush 252, 3) := by decide +kernel
theorem dX12_lesson_66 : decode cX12_lesson 66 = .ok (.iconst 3, 1) := by decide +kernel
theorem dX12_lesson_67 : decode cX12_lesson 67 = .ok (.iload 4, 2) := by decide +kernel
theorem dX12_lesson_69 : decode cX12_lesson 69 = .ok (.imul, 1) := by decide +kernel
theorem dX12_lesson_70 : decode cX12_lesson 70 = .ok (.iadd, 1) := by decide +kernel
theorem dX12_lesson_71 : decode cX12_lesson 71 = .ok (.iload_n 1, 1) := by decide +kernel
theorem dX12_lesson_72 : decode cX12_lesson 72 = .ok (.iastore, 1) := by decide +kernel
theorem dX12_lesson_73 : decode cX12_lesson 73 = .ok (.aload_n 0, 1) := by decide +kernel
theorem dX12_lesson_74 : decode cX12_lesson 74 = .ok (.getfield 9, 3) := by decide +kernel
theorem dX12_lesson_77 : decode cX12_lesson 77 = .ok (.sipush 252, 3) := by decide +kernel
theorem dX12_lesson_80 : decode cX12_lesson 80 = .ok (.iconst 3, 1) := by decide +kernel
theorem dX12_lesson_81 : decode cX12_lesson 81 = .ok (.iload 4, 2) := by decide +kernel
theorem dX12_lesson_83 : decode cX12_lesson 83 = .ok (.imul, 1) := by decide +kernel
theorem dX12_lesson_84 : decode cX12_lesson 84 = .ok (.iadd, 1) := by decide +kernel
theorem dX12_lesson_85 : decode cX12_lesson 85 = .ok (.iconst 1, 1) := by decide +kernel
theorem dX12_lesson_86 : decode cX12_lesson 86 = .ok (.iadd, 1) := by decide +kernel
theorem dX12_lesson_87 : decode cX12_lesson 87 = .ok (.iload_n 2, 1) := by decide +kernel
theorem dX12_lesson_88 : decode cX12_lesson 88 = .ok (.iastore, 1) := by decide +kernel
theorem dX12_lesson_89 : decode cX12_lesson 89 = .ok (.aload_n 0, 1) := by decide +kernel
theorem dX12_lesson_90 : decode cX12_lesson 90 = .ok (.getfield 9, 3) := by decide +kernel
theorem dX12_lesson_93 : decode cX12_lesson 93 = .ok (.sipush 252, 3) := by decide +kernel
theorem dX12_lesson_96 : decode cX12_lesson 96 = .ok (.iconst 3, 1) := by decide +kernel
theorem dX12_lesson_97 : decode cX12_lesson 97 = .ok (.iload 4, 2) := by decide +kernel
theorem dX12_lesson_99 : decode cX12_lesson 99 = .ok (.imul, 1) := by decide +kernel
theorem dX12_lesson_100 : decode cX12_lesson 100 = .ok (.iadd, 1) := by decide +kernel
theorem dX12_lesson_101 : decode cX12_lesson 101 = .ok (.iconst 2, 1) := by decide +kernel
theorem dX12_lesson_102 : decode cX12_lesson 102 = .ok (.iadd, 1) := by decide +kernel
theorem dX12_lesson_103 : decode cX12_lesson 103 = .ok (.iload_n 3, 1) := by decide +kernel
theorem dX12_lesson_104 : decode cX12_lesson 104 = .ok (.iastore, 1) := by decide +kernel
theorem dX12_lesson_105 : decode cX12_lesson 105 = .ok (.aload_n 0, 1) := by decide +kernel
theorem dX12_lesson_106 : decode cX12_lesson 106 = .ok (.getfield 9, 3) := by decide +kernel
theorem dX12_lesson_109 : decode cX12_lesson 109 = .ok (.iconst 3, 1) := by decide +kernel
theorem dX12_lesson_110 : decode cX12_lesson 110 = .ok (.dup2, 1) := by decide +kernel
theorem dX12_lesson_111 : decode cX12_lesson 111 = .ok (.iaload, 1) := by decide +kernel
theorem dX12_lesson_112 : decode cX12_lesson 112 = .ok (.iconst 1, 1) := by decide +kernel
theorem dX12_lesson_113 : decode cX12_lesson 113 = .ok (.iadd, 1) := by decide +kernel
theorem dX12_lesson_114 : decode cX12_lesson 114 = .ok (.iastore, 1) := by decide +kernel
theorem dX12_lesson_115 : decode cX12_lesson 115 = .ok (.iload 4, 2) := by decide +kernel
theorem dX12_lesson_117 : decode cX12_lesson 117 = .ok (.ireturn, 1) := by decide +kernel
theorem dX12_move_0 : decode cX12_move 0 = .ok (.iload_n 1, 1) := by decide +kernel
theorem dX12_move_1 : decode cX12_move 1 = .ok (.invokestatic 127, 3) := by decide +kernel
theorem dX12_move_4 : decode cX12_move 4 = .ok (.ifCond .eq 10, 3) := by decide +kernel
theorem dX12_move_7 : decode cX12_move 7 = .ok (.iload_n 3, 1) := by decide +kernel
theorem dX12_move_8 : decode cX12_move 8 = .ok (.invokestatic 127, 3) := by decide +kernel
theorem dX12_move_11 : decode cX12_move 11 = .ok (.ifCond .ne 10, 3) := by decide +kernel
theorem dX12_move_14 : decode cX12_move 14 = .ok (.aload_n 0, 1) := by decide +kernel
theorem dX12_move_15 : decode cX12_move 15 = .ok (.ldc 103, 2) := by decide +kernel
theorem dX12_move_17 : decode cX12_move 17 = .ok (.invokevirtual 104, 3) := by decide +kernel
theorem dX12_move_20 : decode cX12_move 20 = .ok (.ireturn, 1) := by decide +kernel
theorem dX12_move_21 : decode cX12_move 21 = .ok (.aload_n 0, 1) := by decide +kernel
theorem dX12_move_22 : decode cX12_move 22 = .ok (.getfield 72, 3) := by decide +kernel
theorem dX12_move_25 : decode cX12_move 25 = .ok (.iload_n 1, 1) := by decide +kernel
theorem dX12_move_26 : decode cX12_move 26 = .ok (.iaload, 1) := by decide +kernel
theorem dX12_move_27 : decode cX12_move 27 = .ok (.ifCond .eq 12, 3) := by decide +kernel
theorem dX12_move_39 : decode cX12_move 39 = .ok (.aload_n 0, 1) := by decide +kernel
theorem dX12_move_40 : decode cX12_move 40 = .ok (.ldc 130, 2) := by decide +kernel
theorem dX12_move_42 : decode cX12_move 42 = .ok (.invokevirtual 104, 3) := by decide +kernel
theorem dX12_move_45 : decode cX12_move 45 = .ok (.ireturn, 1) := by decide +kernel
theorem dX12_moves_0 : decode cX12_moves 0 = .ok (.aload_n 0, 1) := by decide +kernel
theorem dX12_moves_1 : decode cX12_moves 1 = .ok (.iload_n 1, 1) := by decide +kernel
theorem dX12_moves_2 : decode cX12_moves 2 = .ok (.iconst 1, 1) := by decide +kernel
theorem dX12_moves_3 : decode cX12_moves 3 = .ok (.invokevirtual 116, 3) := by decide +kernel
theorem dX12_moves_6 : decode cX12_moves 6 = .ok (.ifCond .eq 20, 3) := by decide +kernel
theorem dX12_moves_26 : decode cX12_moves 26 = .ok (.aload_n 0, 1) := by decide +kernel
theorem dX12_moves_27 : decode cX12_moves 27 = .ok (.ldc 103, 2) := by decide +kernel
theorem dX12_moves_29 : decode cX12_moves 29 = .ok (.invokevirtual 104, 3) := by decide +kernel
theorem dX12_moves_32 : decode cX12_moves 32 = .ok (.ireturn, 1) := by decide +kernel
theorem dX12_posts_0 : decode cX12_posts 0 = .ok (.aload_n 0, 1) := by decide +kernel
theorem dX12_posts_1 : decode cX12_posts 1 = .ok (.iload_n 1, 1) := by decide +kernel
theorem dX12_posts_2 : decode cX12_posts 2 = .ok (.iconst 2, 1) := by decide +kernel
theorem dX12_posts_3 : decode cX12_posts 3 = .ok (.invokevirtual 116, 3) := by decide +kernel
theorem dX12_posts_6 : decode cX12_posts 6 = .ok (.ifCond .eq 27, 3) := by decide +kernel
theorem dX12_posts_33 : decode cX12_posts 33 = .ok (.aload_n 0, 1) := by decide +kernel
theorem dX12_posts_34 : decode cX12_posts 34 = .ok (.ldc 103, 2) := by decide +kernel
theorem dX12_posts_36 : decode cX12_posts 36 = .ok (.invokevirtual 104, 3) := by decide +kernel
theorem dX12_posts_39 : decode cX12_posts 39 = .ok (.ireturn, 1) := by decide +kernel
theorem dX12_put_0 : decode cX12_put 0 = .ok (.iload_n 1, 1) := by decide +kernel
theorem dX12_put_1 : decode cX12_put 1 = .ok (.invokestatic 127, 3) := by decide +kernel
theorem dX12_put_4 : decode cX12_put 4 = .ok (.ifCond .ne 10, 3) := by decide +kernel
theorem dX12_put_7 : decode cX12_put 7 = .ok (.aload_n 0, 1) := by decide +kernel
theorem dX12_put_8 : decode cX12_put 8 = .ok (.ldc 103, 2) := by decide +kernel
theorem dX12_put_10 : decode cX12_put 10 = .ok (.invokevirtual 104, 3) := by decide +kernel
theorem dX12_put_13 : decode cX12_put 13 = .ok (.ireturn, 1) := by decide +kernel
theorem dX12_put_14 : decode cX12_put 14 = .ok (.aload_n 0, 1) := by decide +kernel
theorem dX12_put_15 : decode cX12_put 15 = .ok (.getfield 72, 3) := by decide +kernel
theorem dX12_put_18 : decode cX12_put 18 = .ok (.iload_n 1, 1) := by decide +kernel
theorem dX12_put_19 : decode cX12_put 19 = .ok (.iaload, 1) := by decide +kernel
theorem dX12_put_20 : decode cX12_put 20 = .ok (.ifCond .ne 10, 3) := by decide +kernel
theorem dX12_put_23 : decode cX12_put 23 = .ok (.aload_n 0, 1) := by decide +kernel
theorem dX12_put_24 : decode cX12_put 24 = .ok (.ldc 130, 2) := by decide +kernel
theorem dX12_put_26 : decode cX12_put 26 = .ok (.invokevirtual 104, 3) := by decide +kernel
theorem dX12_put_29 : decode cX12_put 29 = .ok (.ireturn, 1) := by decide +kernel
theorem dX12_restore_0 : decode cX12_restore 0 = .ok (.aload_n 0, 1) := by decide +kernel
theorem dX12_restore_1 : decode cX12_restore 1 = .ok (.getfield 353, 3) := by decide +kernel
theorem dX12_restore_4 : decode cX12_restore 4 = .ok (.ifCond .ne 10, 3) := by decide +kernel
theorem dX12_restore_7 : decode cX12_restore 7 = .ok (.aload_n 0, 1) := by decide +kernel
theorem dX12_restore_8 : decode cX12_restore 8 = .ok (.ldc 130, 2) := by decide +kernel
theorem dX12_restore_10 : decode cX12_restore 10 = .ok (.invokevirtual 104, 3) := by decide +kernel
theorem dX12_restore_13 : decode cX12_restore 13 = .ok (.ireturn, 1) := by decide +kernel
theorem dX12_safe_0 : decode cX12_safe 0 = .ok (.aload_n 0, 1) := by decide +kernel
theorem dX12_safe_1 : decode cX12_safe 1 = .ok (.iload_n 1, 1) := by decide +kernel
theorem dX12_safe_2 : decode cX12_safe 2 = .ok (.iconst 2, 1) := by decide +kernel
theorem dX12_safe_3 : decode cX12_safe 3 = .ok (.invokevirtual 116, 3) := by decide +kernel
theorem dX12_safe_6 : decode cX12_safe 6 = .ok (.ifCond .ne 10, 3) := by decide +kernel
theorem dX12_safe_9 : decode cX12_safe 9 = .ok (.aload_n 0, 1) := by decide +kernel
theorem dX12_safe_10 : decode cX12_safe 10 = .ok (.ldc 103, 2) := by decide +kernel
theorem dX12_safe_12 : decode cX12_safe 12 = .ok (.invokevirtual 104, 3) := by decide +kernel
theorem dX12_safe_15 : decode cX12_safe 15 = .ok (.ireturn, 1) := by decide +kernel
theorem dX12_sheet_0 : decode cX12_sheet 0 = .ok (.iload_n 1, 1) := by decide +kernel
theorem dX12_sheet_1 : decode cX12_sheet 1 = .ok (.invokestatic 127, 3) := by decide +kernel
theorem dX12_sheet_4 : decode cX12_sheet 4 = .ok (.ifCond .eq 25, 3) := by decide +kernel
theorem dX12_sheet_7 : decode cX12_sheet 7 = .ok (.iload_n 2, 1) := by decide +kernel
theorem dX12_sheet_8 : decode cX12_sheet 8 = .ok (.ifCond .eq 28, 3) := by decide +kernel
theorem dX12_sheet_11 : decode cX12_sheet 11 = .ok (.iload_n 2, 1) := by decide +kernel
theorem dX12_sheet_12 : decode cX12_sheet 12 = .ok (.bipush 8, 2) := by decide +kernel
theorem dX12_sheet_14 : decode cX12_sheet 14 = .ok (.if_icmp .eq 22, 3) := by decide +kernel
theorem dX12_sheet_17 : decode cX12_sheet 17 = .ok (.iload_n 2, 1) := by decide +kernel
theorem dX12_sheet_18 : decode cX12_sheet 18 = .ok (.bipush 16, 2) := by decide +kernel
theorem dX12_sheet_20 : decode cX12_sheet 20 = .ok (.if_icmp .eq 16, 3) := by decide +kernel
theorem dX12_sheet_23 : decode cX12_sheet 23 = .ok (.iload_n 2, 1) := by decide +kernel
theorem dX12_sheet_24 : decode cX12_sheet 24 = .ok (.bipush 32, 2) := by decide +kernel
theorem dX12_sheet_26 : decode cX12_sheet 26 = .ok (.if_icmp .eq 10, 3) := by decide +kernel
theorem dX12_sheet_29 : decode cX12_sheet 29 = .ok (.aload_n 0, 1) := by decide +kernel
theorem dX12_sheet_30 : decode cX12_sheet 30 = .ok (.ldc 103, 2) := by decide +kernel
theorem dX12_sheet_32 : decode cX12_sheet 32 = .ok (.invokevirtual 104, 3) := by decide +kernel
theorem dX12_sheet_35 : decode cX12_sheet 35 = .ok (.ireturn, 1) := by decide +kernel
theorem dX12_sheet_36 : decode cX12_sheet 36 = .ok (.iload_n 2, 1) := by decide +kernel
theorem dX12_sheet_37 : decode cX12_sheet 37 = .ok (.ifCond .eq 14, 3) := by decide +kernel
theorem dX12_sheet_40 : decode cX12_sheet 40 = .ok (.iload_n 3, 1) := by decide +kernel
theorem dX12_sheet_41 : decode cX12_sheet 41 = .ok (.ifCond .ge 10, 3) := by decide +kernel
theorem dX12_sheet_44 : decode cX12_sheet 44 = .ok (.aload_n 0, 1) := by decide +kernel
theorem dX12_sheet_45 : decode cX12_sheet 45 = .ok (.ldc 110, 2) := by decide +kernel
theorem dX12_sheet_47 : decode cX12_sheet 47 = .ok (.invokevirtual 104, 3) := by decide +kernel
theorem dX12_sheet_50 : decode cX12_sheet 50 = .ok (.ireturn, 1) := by decide +kernel
theorem dX12_sheet_51 : decode cX12_sheet 51 = .ok (.iload_n 2, 1) := by decide +kernel
theorem dX12_sheet_52 : decode cX12_sheet 52 = .ok (.ifCond .eq 16, 3) := by decide +kernel
theorem dX12_sheet_55 : decode cX12_sheet 55 = .ok (.iload_n 3, 1) := by decide +kernel
theorem dX12_sheet_56 : decode cX12_sheet 56 = .ok (.bipush 24, 2) := by decide +kernel
theorem dX12_sheet_58 : decode cX12_sheet 58 = .ok (.if_icmp .le 10, 3) := by decide +kernel
theorem dX12_sheet_61 : decode cX12_sheet 61 = .ok (.aload_n 0, 1) := by decide +kernel
theorem dX12_sheet_62 : decode cX12_sheet 62 = .ok (.ldc 103, 2) := by decide +kernel
theorem dX12_sheet_64 : decode cX12_sheet 64 = .ok (.invokevirtual 104, 3) := by decide +kernel
theorem dX12_sheet_67 : decode cX12_sheet 67 = .ok (.ireturn, 1) := by decide +kernel
theorem dX12_sheet_68 : decode cX12_sheet 68 = .ok (.aload_n 0, 1) := by decide +kernel
theorem dX12_sheet_69 : decode cX12_sheet 69 = .ok (.getfield 72, 3) := by decide +kernel
theorem dX12_sheet_72 : decode cX12_sheet 72 = .ok (.iload_n 1, 1) := by decide +kernel
theorem dX12_sheet_73 : decode cX12_sheet 73 = .ok (.iload_n 2, 1) := by decide +kernel
theorem dX12_sheet_74 : decode cX12_sheet 74 = .ok (.iastore, 1) := by decide +kernel
theorem dX12_sheet_75 : decode cX12_sheet 75 = .ok (.aload_n 0, 1) := by decide +kernel
theorem dX12_sheet_76 : decode cX12_sheet 76 = .ok (.getfield 75, 3) := by decide +kernel
theorem dX12_sheet_79 : decode cX12_sheet 79 = .ok (.iload_n 1, 1) := by decide +kernel
theorem dX12_sheet_80 : decode cX12_sheet 80 = .ok (.iload_n 2, 1) := by decide +kernel
theorem dX12_sheet_81 : decode cX12_sheet 81 = .ok (.ifCond .ne 7, 3) := by decide +kernel
theorem dX12_sheet_84 : decode cX12_sheet 84 = .ok (.iconst 0, 1) := by decide +kernel
theorem dX12_sheet_85 : decode cX12_sheet 85 = .ok (.goto 4, 3) := by decide +kernel
theorem dX12_sheet_88 : decode cX12_sheet 88 = .ok (.iload_n 3, 1) := by decide +kernel
theorem dX12_sheet_89 : decode cX12_sheet 89 = .ok (.iastore, 1) := by decide +kernel
theorem dX12_sheet_90 : decode cX12_sheet 90 = .ok (.iconst 0, 1) := by decide +kernel
theorem dX12_sheet_91 : decode cX12_sheet 91 = .ok (.istore 4, 2) := by decide +kernel
theorem dX12_sheet_93 : decode cX12_sheet 93 = .ok (.iload 4, 2) := by decide +kernel
theorem dX12_sheet_95 : decode cX12_sheet 95 = .ok (.bipush 24, 2) := by decide +kernel
theorem dX12_sheet_97 : decode cX12_sheet 97 = .ok (.if_icmp .ge 22, 3) := by decide +kernel
theorem dX12_sheet_100 : decode cX12_sheet 100 = .ok (.aload_n 0, 1) := by decide +kernel
theorem dX12_sheet_101 : decode cX12_sheet 101 = .ok (.getfield 78, 3) := by decide +kernel
theorem dX12_sheet_104 : decode cX12_sheet 104 = .ok (.bipush 24, 2) := by decide +kernel
theorem dX12_sheet_106 : decode cX12_sheet 106 = .ok (.iload_n 1, 1) := by decide +kernel
theorem dX12_sheet_107 : decode cX12_sheet 107 = .ok (.imul, 1) := by decide +kernel
theorem dX12_sheet_108 : decode cX12_sheet 108 = .ok (.iload 4, 2) := by decide +kernel
theorem dX12_sheet_110 : decode cX12_sheet 110 = .ok (.iadd, 1) := by decide +kernel
theorem dX12_sheet_111 : decode cX12_sheet 111 = .ok (.iconst 0, 1) := by decide +kernel
theorem dX12_sheet_112 : decode cX12_sheet 112 = .ok (.iastore, 1) := by decide +kernel
theorem dX12_sheet_113 : decode cX12_sheet 113 = .ok (.iinc 4 1, 3) := by decide +kernel
theorem dX12_sheet_116 : decode cX12_sheet 116 = .ok (.goto (-23), 3) := by decide +kernel
theorem dX12_sheet_119 : decode cX12_sheet 119 = .ok (.iconst 1, 1) := by decide +kernel
theorem dX12_sheet_120 : decode cX12_sheet 120 = .ok (.ireturn, 1) := by decide +kernel
theorem dX12_spots_0 : decode cX12_spots 0 = .ok (.aload_n 0, 1) := by decide +kernel
theorem dX12_spots_1 : decode cX12_spots 1 = .ok (.iload_n 1, 1) := by decide +kernel
theorem dX12_spots_2 : decode cX12_spots 2 = .ok (.iconst 2, 1) := by decide +kernel
theorem dX12_spots_3 : decode cX12_spots 3 = .ok (.invokevirtual 116, 3) := by decide +kernel
theorem dX12_spots_6 : decode cX12_spots 6 = .ok (.ifCond .eq 29, 3) := by decide +kernel
theorem dX12_spots_35 : decode cX12_spots 35 = .ok (.aload_n 0, 1) := by decide +kernel
theorem dX12_spots_36 : decode cX12_spots 36 = .ok (.ldc 103, 2) := by decide +kernel
theorem dX12_spots_38 : decode cX12_spots 38 = .ok (.invokevirtual 104, 3) := by decide +kernel
theorem dX12_spots_41 : decode cX12_spots 41 = .ok (.ireturn, 1) := by decide +kernel
theorem dX12_tell_0 : decode cX12_tell 0 = .ok (.aload_n 0, 1) := by decide +kernel
theorem dX12_tell_1 : decode cX12_tell 1 = .ok (.getfield 9, 3) := by decide +kernel
theorem dX12_tell_4 : decode cX12_tell 4 = .ok (.iconst 5, 1) := by decide +kernel
theorem dX12_tell_5 : decode cX12_tell 5 = .ok (.iaload, 1) := by decide +kernel
theorem dX12_tell_6 : decode cX12_tell 6 = .ok (.bipush 24, 2) := by decide +kernel
theorem dX12_tell_8 : decode cX12_tell 8 = .ok (.if_icmp .ne 10, 3) := by decide +kernel
theorem dX12_tell_18 : decode cX12_tell 18 = .ok (.aload_n 0, 1) := by decide +kernel
theorem dX12_tell_19 : decode cX12_tell 19 = .ok (.getfield 9, 3) := by decide +kernel
theorem dX12_tell_22 : decode cX12_tell 22 = .ok (.sipush 321, 3) := by decide +kernel
theorem dX12_tell_25 : decode cX12_tell 25 = .ok (.aload_n 0, 1) := by decide +kernel
theorem dX12_tell_26 : decode cX12_tell 26 = .ok (.getfield 9, 3) := by decide +kernel
theorem dX12_tell_29 : decode cX12_tell 29 = .ok (.iconst 5, 1) := by decide +kernel
theorem dX12_tell_30 : decode cX12_tell 30 = .ok (.iaload, 1) := by decide +kernel
theorem dX12_tell_31 : decode cX12_tell 31 = .ok (.iadd, 1) := by decide +kernel
theorem dX12_tell_32 : decode cX12_tell 32 = .ok (.iload_n 1, 1) := by decide +kernel
theorem dX12_tell_33 : decode cX12_tell 33 = .ok (.iastore, 1) := by decide +kernel
theorem dX12_tell_34 : decode cX12_tell 34 = .ok (.aload_n 0, 1) := by decide +kernel
theorem dX12_tell_35 : decode cX12_tell 35 = .ok (.getfield 9, 3) := by decide +kernel
theorem dX12_tell_38 : decode cX12_tell 38 = .ok (.iconst 5, 1) := by decide +kernel
theorem dX12_tell_39 : decode cX12_tell 39 = .ok (.dup2, 1) := by decide +kernel
theorem dX12_tell_40 : decode cX12_tell 40 = .ok (.iaload, 1) := by decide +kernel
theorem dX12_tell_41 : decode cX12_tell 41 = .ok (.iconst 1, 1) := by decide +kernel
theorem dX12_tell_42 : decode cX12_tell 42 = .ok (.iadd, 1) := by decide +kernel
theorem dX12_tell_43 : decode cX12_tell 43 = .ok (.iastore, 1) := by decide +kernel
theorem dX12_tell_44 : decode cX12_tell 44 = .ok (.aload_n 0, 1) := by decide +kernel
theorem dX12_tell_45 : decode cX12_tell 45 = .ok (.getfield 9, 3) := by decide +kernel
theorem dX12_tell_48 : decode cX12_tell 48 = .ok (.iconst 5, 1) := by decide +kernel
theorem dX12_tell_49 : decode cX12_tell 49 = .ok (.iaload, 1) := by decide +kernel
theorem dX12_tell_50 : decode cX12_tell 50 = .ok (.ireturn, 1) := by decide +kernel
theorem dX12_tenths_0 : decode cX12_tenths 0 = .ok (.iload_n 1, 1) := by decide +kernel
theorem dX12_tenths_1 : decode cX12_tenths 1 = .ok (.iconst 1, 1) := by decide +kernel
theorem dX12_tenths_2 : decode cX12_tenths 2 = .ok (.bipush 100, 2) := by decide +kernel
theorem dX12_tenths_4 : decode cX12_tenths 4 = .ok (.invokestatic 85, 3) := by decide +kernel
theorem dX12_tenths_7 : decode cX12_tenths 7 = .ok (.ifCond .ne 10, 3) := by decide +kernel
theorem dX12_tenths_10 : decode cX12_tenths 10 = .ok (.aload_n 0, 1) := by decide +kernel
theorem dX12_tenths_11 : decode cX12_tenths 11 = .ok (.ldc 103, 2) := by decide +kernel
theorem dX12_tenths_13 : decode cX12_tenths 13 = .ok (.invokevirtual 104, 3) := by decide +kernel
theorem dX12_tenths_16 : decode cX12_tenths 16 = .ok (.ireturn, 1) := by decide +kernel
theorem dX12_tenths_17 : decode cX12_tenths 17 = .ok (.aload_n 0, 1) := by decide +kernel
theorem dX12_tenths_18 : decode cX12_tenths 18 = .ok (.getfield 9, 3) := by decide +kernel
theorem dX12_tenths_21 : decode cX12_tenths 21 = .ok (.iconst 0, 1) := by decide +kernel
theorem dX12_tenths_22 : decode cX12_tenths 22 = .ok (.iaload, 1) := by decide +kernel
theorem dX12_tenths_23 : decode cX12_tenths 23 = .ok (.iload_n 1, 1) := by decide +kernel
theorem dX12_tenths_24 : decode cX12_tenths 24 = .ok (.iadd, 1) := by decide +kernel
theorem dX12_tenths_25 : decode cX12_tenths 25 = .ok (.sipush 9999, 3) := by decide +kernel
theorem dX12_tenths_28 : decode cX12_tenths 28 = .ok (.if_icmp .le 10, 3) := by decide +kernel
theorem dX12_tenths_38 : decode cX12_tenths 38 = .ok (.iconst 0, 1) := by decide +kernel
theorem dX12_tenths_39 : decode cX12_tenths 39 = .ok (.istore_n 2, 1) := by decide +kernel
theorem dX12_tenths_40 : decode cX12_tenths 40 = .ok (.iload_n 2, 1) := by decide +kernel
theorem dX12_tenths_41 : decode cX12_tenths 41 = .ok (.iload_n 1, 1) := by decide +kernel
theorem dX12_tenths_42 : decode cX12_tenths 42 = .ok (.if_icmp .ge 13, 3) := by decide +kernel
theorem dX12_tenths_45 : decode cX12_tenths 45 = .ok (.aload_n 0, 1) := by decide +kernel
theorem dX12_tenths_46 : decode cX12_tenths 46 = .ok (.invokevirtual 301, 3) := by decide +kernel
theorem dX12_tenths_49 : decode cX12_tenths 49 = .ok (.iinc 2 1, 3) := by decide +kernel
theorem dX12_tenths_52 : decode cX12_tenths 52 = .ok (.goto (-12), 3) := by decide +kernel
theorem dX12_tenths_55 : decode cX12_tenths 55 = .ok (.aload_n 0, 1) := by decide +kernel
theorem dX12_tenths_56 : decode cX12_tenths 56 = .ok (.getfield 9, 3) := by decide +kernel
theorem dX12_tenths_59 : decode cX12_tenths 59 = .ok (.iconst 0, 1) := by decide +kernel
theorem dX12_tenths_60 : decode cX12_tenths 60 = .ok (.iaload, 1) := by decide +kernel
theorem dX12_tenths_61 : decode cX12_tenths 61 = .ok (.ireturn, 1) := by decide +kernel
theorem dX12_text__0 : decode cX12_text_ 0 = .ok (.iload_n 1, 1) := by decide +kernel
theorem dX12_text__1 : decode cX12_text_ 1 = .ok (.iconst 0, 1) := by decide +kernel
theorem dX12_text__2 : decode cX12_text_ 2 = .ok (.iconst 2, 1) := by decide +kernel
theorem dX12_text__3 : decode cX12_text_ 3 = .ok (.invokestatic 85, 3) := by decide +kernel
theorem dX12_text__6 : decode cX12_text_ 6 = .ok (.ifCond .ne 10, 3) := by decide +kernel
theorem dX12_text__9 : decode cX12_text_ 9 = .ok (.aload_n 0, 1) := by decide +kernel
theorem dX12_text__10 : decode cX12_text_ 10 = .ok (.ldc 103, 2) := by decide +kernel
theorem dX12_text__12 : decode cX12_text_ 12 = .ok (.invokevirtual 104, 3) := by decide +kernel
theorem dX12_text__15 : decode cX12_text_ 15 = .ok (.ireturn, 1) := by decide +kernel
theorem dX12_text__16 : decode cX12_text_ 16 = .ok (.aload_n 0, 1) := by decide +kernel
theorem dX12_text__17 : decode cX12_text_ 17 = .ok (.iload_n 1, 1) := by decide +kernel
theorem dX12_text__18 : decode cX12_text_ 18 = .ok (.putfield 181, 3) := by decide +kernel
theorem dX12_text__21 : decode cX12_text_ 21 = .ok (.aload_n 0, 1) := by decide +kernel
theorem dX12_text__22 : decode cX12_text_ 22 = .ok (.iconst 0, 1) := by decide +kernel
theorem dX12_text__23 : decode cX12_text_ 23 = .ok (.putfield 155, 3) := by decide +kernel
theorem dX12_text__26 : decode cX12_text_ 26 = .ok (.aload_n 0, 1) := by decide +kernel
theorem dX12_text__27 : decode cX12_text_ 27 = .ok (.iconst 0, 1) := by decide +kernel
theorem dX12_text__28 : decode cX12_text_ 28 = .ok (.putfield 191, 3) := by decide +kernel
theorem dX12_text__31 : decode cX12_text_ 31 = .ok (.aload_n 0, 1) := by decide +kernel
theorem dX12_text__32 : decode cX12_text_ 32 = .ok (.iconst 0, 1) := by decide +kernel
theorem dX12_text__33 : decode cX12_text_ 33 = .ok (.putfield 203, 3) := by decide +kernel
theorem dX12_text__36 : decode cX12_text_ 36 = .ok (.aload_n 0, 1) := by decide +kernel
theorem dX12_text__37 : decode cX12_text_ 37 = .ok (.iconst 0, 1) := by decide +kernel
theorem dX12_text__38 : decode cX12_text_ 38 = .ok (.putfield 151, 3) := by decide +kernel
theorem dX12_text__41 : decode cX12_text_ 41 = .ok (.aload_n 0, 1) := by decide +kernel
theorem dX12_text__42 : decode cX12_text_ 42 = .ok (.iconst 0, 1) := by decide +kernel
theorem dX12_text__43 : decode cX12_text_ 43 = .ok (.putfield 162, 3) := by decide +kernel
theorem dX12_text__46 : decode cX12_text_ 46 = .ok (.aload_n 0, 1) := by decide +kernel
theorem dX12_text__47 : decode cX12_text_ 47 = .ok (.invokevirtual 194, 3) := by decide +kernel
theorem dX12_text__50 : decode cX12_text_ 50 = .ok (.aload_n 0, 1) := by decide +kernel
theorem dX12_text__51 : decode cX12_text_ 51 = .ok (.aload_n 0, 1) := by decide +kernel
theorem dX12_text__52 : decode cX12_text_ 52 = .ok (.getfield 151, 3) := by decide +kernel
theorem dX12_text__55 : decode cX12_text_ 55 = .ok (.ifCond .ne 10, 3) := by decide +kernel
theorem dX12_text__65 : decode cX12_text_ 65 = .ok (.iconst 1, 1) := by decide +kernel
theorem dX12_text__66 : decode cX12_text_ 66 = .ok (.goto 4, 3) := by decide +kernel
theorem dX12_text__70 : decode cX12_text_ 70 = .ok (.putfield 151, 3) := by decide +kernel
theorem dX12_text__73 : decode cX12_text_ 73 = .ok (.aload_n 0, 1) := by decide +kernel
theorem dX12_text__74 : decode cX12_text_ 74 = .ok (.getfield 9, 3) := by decide +kernel
theorem dX12_text__77 : decode cX12_text_ 77 = .ok (.iconst 4, 1) := by decide +kernel
theorem dX12_text__78 : decode cX12_text_ 78 = .ok (.iconst 0, 1) := by decide +kernel
theorem dX12_text__79 : decode cX12_text_ 79 = .ok (.iastore, 1) := by decide +kernel
theorem dX12_text__80 : decode cX12_text_ 80 = .ok (.aload_n 0, 1) := by decide +kernel
theorem dX12_text__81 : decode cX12_text_ 81 = .ok (.getfield 151, 3) := by decide +kernel
theorem dX12_text__84 : decode cX12_text_ 84 = .ok (.ifCond .eq 11, 3) := by decide +kernel
theorem dX12_text__87 : decode cX12_text_ 87 = .ok (.bipush (-10), 2) := by decide +kernel
theorem dX12_text__89 : decode cX12_text_ 89 = .ok (.aload_n 0, 1) := by decide +kernel
theorem dX12_text__90 : decode cX12_text_ 90 = .ok (.getfield 155, 3) := by decide +kernel
theorem dX12_text__93 : decode cX12_text_ 93 = .ok (.isub, 1) := by decide +kernel
theorem dX12_text__94 : decode cX12_text_ 94 = .ok (.ireturn, 1) := by decide +kernel
theorem dX12_thingIs_0 : decode cX12_thingIs 0 = .ok (.aload_n 0, 1) := by decide +kernel
theorem dX12_thingIs_1 : decode cX12_thingIs 1 = .ok (.iload_n 1, 1) := by decide +kernel
theorem dX12_thingIs_2 : decode cX12_thingIs 2 = .ok (.iconst 1, 1) := by decide +kernel
theorem dX12_thingIs_3 : decode cX12_thingIs 3 = .ok (.invokevirtual 116, 3) := by decide +kernel
theorem dX12_thingIs_6 : decode cX12_thingIs 6 = .ok (.ifCond .eq 27, 3) := by decide +kernel
theorem dX12_thingIs_33 : decode cX12_thingIs 33 = .ok (.aload_n 0, 1) := by decide +kernel
theorem dX12_thingIs_34 : decode cX12_thingIs 34 = .ok (.ldc 103, 2) := by decide +kernel
theorem dX12_thingIs_36 : decode cX12_thingIs 36 = .ok (.invokevirtual 104, 3) := by decide +kernel
theorem dX12_thingIs_39 : decode cX12_thingIs 39 = .ok (.ireturn, 1) := by decide +kernel
theorem dX12_thing__0 : decode cX12_thing_ 0 = .ok (.iload_n 1, 1) := by decide +kernel
theorem dX12_thing__1 : decode cX12_thing_ 1 = .ok (.iconst 0, 1) := by decide +kernel
theorem dX12_thing__2 : decode cX12_thing_ 2 = .ok (.iconst 4, 1) := by decide +kernel
theorem dX12_thing__3 : decode cX12_thing_ 3 = .ok (.invokestatic 85, 3) := by decide +kernel
theorem dX12_thing__6 : decode cX12_thing_ 6 = .ok (.ifCond .eq 10, 3) := by decide +kernel
theorem dX12_thing__9 : decode cX12_thing_ 9 = .ok (.iload_n 2, 1) := by decide +kernel
theorem dX12_thing__10 : decode cX12_thing_ 10 = .ok (.invokestatic 99, 3) := by decide +kernel
theorem dX12_thing__13 : decode cX12_thing_ 13 = .ok (.ifCond .ne 10, 3) := by decide +kernel
theorem dX12_thing__16 : decode cX12_thing_ 16 = .ok (.aload_n 0, 1) := by decide +kernel
theorem dX12_thing__17 : decode cX12_thing_ 17 = .ok (.ldc 103, 2) := by decide +kernel
theorem dX12_thing__19 : decode cX12_thing_ 19 = .ok (.invokevirtual 104, 3) := by decide +kernel
theorem dX12_thing__22 : decode cX12_thing_ 22 = .ok (.ireturn, 1) := by decide +kernel
theorem dX12_thing__23 : decode cX12_thing_ 23 = .ok (.aload_n 0, 1) := by decide +kernel
theorem dX12_thing__24 : decode cX12_thing_ 24 = .ok (.iload_n 2, 1) := by decide +kernel
theorem dX12_thing__25 : decode cX12_thing_ 25 = .ok (.invokevirtual 107, 3) := by decide +kernel
theorem dX12_thing__28 : decode cX12_thing_ 28 = .ok (.ifCond .ne 10, 3) := by decide +kernel
theorem dX12_thing__38 : decode cX12_thing_ 38 = .ok (.aload_n 0, 1) := by decide +kernel
theorem dX12_thing__39 : decode cX12_thing_ 39 = .ok (.getfield 9, 3) := by decide +kernel
theorem dX12_thing__42 : decode cX12_thing_ 42 = .ok (.iconst 1, 1) := by decide +kernel
theorem dX12_thing__43 : decode cX12_thing_ 43 = .ok (.iaload, 1) := by decide +kernel
theorem dX12_thing__44 : decode cX12_thing_ 44 = .ok (.bipush 40, 2) := by decide +kernel
theorem dX12_thing__46 : decode cX12_thing_ 46 = .ok (.if_icmp .ne 12, 3) := by decide +kernel
theorem dX12_thing__58 : decode cX12_thing_ 58 = .ok (.aload_n 0, 1) := by decide +kernel
theorem dX12_thing__59 : decode cX12_thing_ 59 = .ok (.iload_n 1, 1) := by decide +kernel
theorem dX12_thing__60 : decode cX12_thing_ 60 = .ok (.iload_n 2, 1) := by decide +kernel
theorem dX12_thing__61 : decode cX12_thing_ 61 = .ok (.invokevirtual 112, 3) := by decide +kernel
theorem dX12_thing__64 : decode cX12_thing_ 64 = .ok (.ireturn, 1) := by decide +kernel
theorem dX12_told_0 : decode cX12_told 0 = .ok (.iload_n 1, 1) := by decide +kernel
theorem dX12_told_1 : decode cX12_told 1 = .ok (.iconst 1, 1) := by decide +kernel
theorem dX12_told_2 : decode cX12_told 2 = .ok (.bipush 6, 2) := by decide +kernel
theorem dX12_told_4 : decode cX12_told 4 = .ok (.invokestatic 85, 3) := by decide +kernel
theorem dX12_told_7 : decode cX12_told 7 = .ok (.ifCond .eq 12, 3) := by decide +kernel
theorem dX12_told_10 : decode cX12_told 10 = .ok (.aload_n 0, 1) := by decide +kernel
theorem dX12_told_11 : decode cX12_told 11 = .ok (.getfield 19, 3) := by decide +kernel
theorem dX12_told_14 : decode cX12_told 14 = .ok (.iload_n 1, 1) := by decide +kernel
theorem dX12_told_15 : decode cX12_told 15 = .ok (.iaload, 1) := by decide +kernel
theorem dX12_told_16 : decode cX12_told 16 = .ok (.goto 9, 3) := by decide +kernel
theorem dX12_told_19 : decode cX12_told 19 = .ok (.aload_n 0, 1) := by decide +kernel
theorem dX12_told_20 : decode cX12_told 20 = .ok (.ldc 103, 2) := by decide +kernel
theorem dX12_told_22 : decode cX12_told 22 = .ok (.invokevirtual 104, 3) := by decide +kernel
theorem dX12_told_25 : decode cX12_told 25 = .ok (.ireturn, 1) := by decide +kernel
theorem dX12_trace_0 : decode cX12_trace 0 = .ok (.iload_n 1, 1) := by decide +kernel
theorem dX12_trace_1 : decode cX12_trace 1 = .ok (.iconst 0, 1) := by decide +kernel
theorem dX12_trace_2 : decode cX12_trace 2 = .ok (.aload_n 0, 1) := by decide +kernel
theorem dX12_trace_3 : decode cX12_trace 3 = .ok (.getfield 324, 3) := by decide +kernel
theorem dX12_trace_6 : decode cX12_trace 6 = .ok (.iconst 1, 1) := by decide +kernel
theorem dX12_trace_7 : decode cX12_trace 7 = .ok (.isub, 1) := by decide +kernel
theorem dX12_trace_8 : decode cX12_trace 8 = .ok (.invokestatic 85, 3) := by decide +kernel
theorem dX12_trace_11 : decode cX12_trace 11 = .ok (.ifCond .eq 12, 3) := by decide +kernel
theorem dX12_trace_23 : decode cX12_trace 23 = .ok (.aload_n 0, 1) := by decide +kernel
theorem dX12_trace_24 : decode cX12_trace 24 = .ok (.ldc 130, 2) := by decide +kernel
theorem dX12_trace_26 : decode cX12_trace 26 = .ok (.invokevirtual 104, 3) := by decide +kernel
theorem dX12_trace_29 : decode cX12_trace 29 = .ok (.ireturn, 1) := by decide +kernel
theorem dX12_voice_0 : decode cX12_voice 0 = .ok (.aload_n 0, 1) := by decide +kernel
theorem dX12_voice_1 : decode cX12_voice 1 = .ok (.iload_n 1, 1) := by decide +kernel
theorem dX12_voice_2 : decode cX12_voice 2 = .ok (.iconst 2, 1) := by decide +kernel
theorem dX12_voice_3 : decode cX12_voice 3 = .ok (.invokevirtual 116, 3) := by decide +kernel
theorem dX12_voice_6 : decode cX12_voice 6 = .ok (.ifCond .eq 12, 3) := by decide +kernel
theorem dX12_voice_18 : decode cX12_voice 18 = .ok (.aload_n 0, 1) := by decide +kernel
theorem dX12_voice_19 : decode cX12_voice 19 = .ok (.ldc 103, 2) := by decide +kernel
theorem dX12_voice_21 : decode cX12_voice 21 = .ok (.invokevirtual 104, 3) := by decide +kernel
theorem dX12_voice_24 : decode cX12_voice 24 = .ok (.ireturn, 1) := by decide +kernel
theorem dX12_walker_0 : decode cX12_walker 0 = .ok (.iload_n 1, 1) := by decide +kernel
theorem dX12_walker_1 : decode cX12_walker 1 = .ok (.iconst 0, 1) := by decide +kernel
theorem dX12_walker_2 : decode cX12_walker 2 = .ok (.bipush 7, 2) := by decide +kernel
theorem dX12_walker_4 : decode cX12_walker 4 = .ok (.invokestatic 85, 3) := by decide +kernel
theorem dX12_walker_7 : decode cX12_walker 7 = .ok (.ifCond .eq 17, 3) := by decide +kernel
theorem dX12_walker_10 : decode cX12_walker 10 = .ok (.iload_n 2, 1) := by decide +kernel
theorem dX12_walker_11 : decode cX12_walker 11 = .ok (.invokestatic 99, 3) := by decide +kernel
theorem dX12_walker_14 : decode cX12_walker 14 = .ok (.ifCond .eq 10, 3) := by decide +kernel
theorem dX12_walker_17 : decode cX12_walker 17 = .ok (.iload_n 3, 1) := by decide +kernel
theorem dX12_walker_18 : decode cX12_walker 18 = .ok (.invokestatic 120, 3) := by decide +kernel
theorem dX12_walker_21 : decode cX12_walker 21 = .ok (.ifCond .ne 10, 3) := by decide +kernel
theorem dX12_walker_24 : decode cX12_walker 24 = .ok (.aload_n 0, 1) := by decide +kernel
theorem dX12_walker_25 : decode cX12_walker 25 = .ok (.ldc 103, 2) := by decide +kernel
theorem dX12_walker_27 : decode cX12_walker 27 = .ok (.invokevirtual 104, 3) := by decide +kernel
theorem dX12_walker_30 : decode cX12_walker 30 = .ok (.ireturn, 1) := by decide +kernel
theorem dX12_walker_31 : decode cX12_walker 31 = .ok (.aload_n 0, 1) := by decide +kernel
theorem dX12_walker_32 : decode cX12_walker 32 = .ok (.iload_n 2, 1) := by decide +kernel
theorem dX12_walker_33 : decode cX12_walker 33 = .ok (.invokevirtual 107, 3) := by decide +kernel
theorem dX12_walker_36 : decode cX12_walker 36 = .ok (.ifCond .ne 10, 3) := by decide +kernel
theorem dX12_walker_46 : decode cX12_walker 46 = .ok (.aload_n 0, 1) := by decide +kernel
theorem dX12_walker_47 : decode cX12_walker 47 = .ok (.getfield 9, 3) := by decide +kernel
theorem dX12_walker_50 : decode cX12_walker 50 = .ok (.iconst 2, 1) := by decide +kernel
theorem dX12_walker_51 : decode cX12_walker 51 = .ok (.iaload, 1) := by decide +kernel
theorem dX12_walker_52 : decode cX12_walker 52 = .ok (.istore 4, 2) := by decide +kernel
theorem dX12_walker_54 : decode cX12_walker 54 = .ok (.iload 4, 2) := by decide +kernel
theorem dX12_walker_56 : decode cX12_walker 56 = .ok (.bipush 8, 2) := by decide +kernel
theorem dX12_walker_58 : decode cX12_walker 58 = .ok (.if_icmp .ne 10, 3) := by decide +kernel
theorem dX12_walker_68 : decode cX12_walker 68 = .ok (.aload_n 0, 1) := by decide +kernel
theorem dX12_walker_69 : decode cX12_walker 69 = .ok (.iload 4, 2) := by decide +kernel
theorem dX12_walker_71 : decode cX12_walker 71 = .ok (.invokevirtual 93, 3) := by decide +kernel
theorem dX12_walker_74 : decode cX12_walker 74 = .ok (.istore 5, 2) := by decide +kernel
theorem dX12_walker_76 : decode cX12_walker 76 = .ok (.aload_n 0, 1) := by decide +kernel
theorem dX12_walker_77 : decode cX12_walker 77 = .ok (.getfield 9, 3) := by decide +kernel
theorem dX12_walker_80 : decode cX12_walker 80 = .ok (.iload 5, 2) := by decide +kernel
theorem dX12_walker_82 : decode cX12_walker 82 = .ok (.iconst 0, 1) := by decide +kernel
theorem dX12_walker_83 : decode cX12_walker 83 = .ok (.iadd, 1) := by decide +kernel
theorem dX12_walker_84 : decode cX12_walker 84 = .ok (.iload_n 1, 1) := by decide +kernel
theorem dX12_walker_85 : decode cX12_walker 85 = .ok (.iastore, 1) := by decide +kernel
theorem dX12_walker_86 : decode cX12_walker 86 = .ok (.aload_n 0, 1) := by decide +kernel
theorem dX12_walker_87 : decode cX12_walker 87 = .ok (.getfield 9, 3) := by decide +kernel
theorem dX12_walker_90 : decode cX12_walker 90 = .ok (.iload 5, 2) := by decide +kernel
theorem dX12_walker_92 : decode cX12_walker 92 = .ok (.iconst 1, 1) := by decide +kernel
theorem dX12_walker_93 : decode cX12_walker 93 = .ok (.iadd, 1) := by decide +kernel
theorem dX12_walker_94 : decode cX12_walker 94 = .ok (.iload_n 2, 1) := by decide +kernel
theorem dX12_walker_95 : decode cX12_walker 95 = .ok (.iastore, 1) := by decide +kernel
theorem dX12_walker_96 : decode cX12_walker 96 = .ok (.aload_n 0, 1) := by decide +kernel
theorem dX12_walker_97 : decode cX12_walker 97 = .ok (.getfield 9, 3) := by decide +kernel
theorem dX12_walker_100 : decode cX12_walker 100 = .ok (.iload 5, 2) := by decide +kernel
theorem dX12_walker_102 : decode cX12_walker 102 = .ok (.iconst 2, 1) := by decide +kernel
theorem dX12_walker_103 : decode cX12_walker 103 = .ok (.iadd, 1) := by decide +kernel
theorem dX12_walker_104 : decode cX12_walker 104 = .ok (.iload_n 3, 1) := by decide +kernel
theorem dX12_walker_105 : decode cX12_walker 105 = .ok (.iastore, 1) := by decide +kernel
theorem dX12_walker_106 : decode cX12_walker 106 = .ok (.aload_n 0, 1) := by decide +kernel
theorem dX12_walker_107 : decode cX12_walker 107 = .ok (.getfield 9, 3) := by decide +kernel
theorem dX12_walker_110 : decode cX12_walker 110 = .ok (.iload 5, 2) := by decide +kernel
theorem dX12_walker_112 : decode cX12_walker 112 = .ok (.iconst 3, 1) := by decide +kernel
theorem dX12_walker_113 : decode cX12_walker 113 = .ok (.iadd, 1) := by decide +kernel
theorem dX12_walker_114 : decode cX12_walker 114 = .ok (.iconst 5, 1) := by decide +kernel
theorem dX12_walker_115 : decode cX12_walker 115 = .ok (.iastore, 1) := by decide +kernel
theorem dX12_walker_116 : decode cX12_walker 116 = .ok (.aload_n 0, 1) := by decide +kernel
theorem dX12_walker_117 : decode cX12_walker 117 = .ok (.getfield 9, 3) := by decide +kernel
theorem dX12_walker_120 : decode cX12_walker 120 = .ok (.iload 5, 2) := by decide +kernel
theorem dX12_walker_122 : decode cX12_walker 122 = .ok (.iconst 4, 1) := by decide +kernel
theorem dX12_walker_123 : decode cX12_walker 123 = .ok (.iadd, 1) := by decide +kernel
theorem dX12_walker_124 : decode cX12_walker 124 = .ok (.bipush 60, 2) := by decide +kernel
theorem dX12_walker_126 : decode cX12_walker 126 = .ok (.iastore, 1) := by decide +kernel
theorem dX12_walker_127 : decode cX12_walker 127 = .ok (.aload_n 0, 1) := by decide +kernel
theorem dX12_walker_128 : decode cX12_walker 128 = .ok (.getfield 9, 3) := by decide +kernel
theorem dX12_walker_131 : decode cX12_walker 131 = .ok (.iconst 2, 1) := by decide +kernel
theorem dX12_walker_132 : decode cX12_walker 132 = .ok (.dup2, 1) := by decide +kernel
theorem dX12_walker_133 : decode cX12_walker 133 = .ok (.iaload, 1) := by decide +kernel
theorem dX12_walker_134 : decode cX12_walker 134 = .ok (.iconst 1, 1) := by decide +kernel
theorem dX12_walker_135 : decode cX12_walker 135 = .ok (.iadd, 1) := by decide +kernel
theorem dX12_walker_136 : decode cX12_walker 136 = .ok (.iastore, 1) := by decide +kernel
theorem dX12_walker_137 : decode cX12_walker 137 = .ok (.iload 4, 2) := by decide +kernel
theorem dX12_walker_139 : decode cX12_walker 139 = .ok (.ireturn, 1) := by decide +kernel
theorem dX12_walkerIs_0 : decode cX12_walkerIs 0 = .ok (.aload_n 0, 1) := by decide +kernel
theorem dX12_walkerIs_1 : decode cX12_walkerIs 1 = .ok (.iload_n 1, 1) := by decide +kernel
theorem dX12_walkerIs_2 : decode cX12_walkerIs 2 = .ok (.iconst 2, 1) := by decide +kernel
theorem dX12_walkerIs_3 : decode cX12_walkerIs 3 = .ok (.invokevirtual 116, 3) := by decide +kernel
theorem dX12_walkerIs_6 : decode cX12_walkerIs 6 = .ok (.ifCond .eq 13, 3) := by decide +kernel
theorem dX12_walkerIs_19 : decode cX12_walkerIs 19 = .ok (.aload_n 0, 1) := by decide +kernel
theorem dX12_walkerIs_20 : decode cX12_walkerIs 20 = .ok (.ldc 103, 2) := by decide +kernel
theorem dX12_walkerIs_22 : decode cX12_walkerIs 22 = .ok (.invokevirtual 104, 3) := by decide +kernel
theorem dX12_walkerIs_25 : decode cX12_walkerIs 25 = .ok (.ireturn, 1) := by decide +kernel
theorem dX12_way_0 : decode cX12_way 0 = .ok (.aload_n 0, 1) := by decide +kernel
theorem dX12_way_1 : decode cX12_way 1 = .ok (.iload_n 1, 1) := by decide +kernel
theorem dX12_way_2 : decode cX12_way 2 = .ok (.iconst 2, 1) := by decide +kernel
theorem dX12_way_3 : decode cX12_way 3 = .ok (.invokevirtual 116, 3) := by decide +kernel
theorem dX12_way_6 : decode cX12_way 6 = .ok (.ifCond .eq 15, 3) := by decide +kernel
theorem dX12_way_21 : decode cX12_way 21 = .ok (.aload_n 0, 1) := by decide +kernel
theorem dX12_way_22 : decode cX12_way 22 = .ok (.ldc 103, 2) := by decide +kernel
theorem dX12_way_24 : decode cX12_way 24 = .ok (.invokevirtual 104, 3) := by decide +kernel
theorem dX12_way_27 : decode cX12_way 27 = .ok (.ireturn, 1) := by decide +kernel
