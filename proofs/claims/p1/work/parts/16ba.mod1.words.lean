/-! words of the tables that are used, by their places; decode rows; classes -/
theorem m_27 : Cond.selects yX12_in.cls yX12_in yX12_in ∈ BASE := bmem 27 (by decide +kernel) rfl
theorem m_28 : Cond.selects yX12_thing.cls yX12_thing yX12_thing ∈ BASE := bmem 28 (by decide +kernel) rfl
theorem m_37 : Cond.selects yX12_sum.cls yX12_sum yX12_sum ∈ BASE := bmem 37 (by decide +kernel) rfl
theorem m_38 : Cond.selects yX12_term.cls yX12_term yX12_term ∈ BASE := bmem 38 (by decide +kernel) rfl
theorem m_39 : Cond.selects yX12_one.cls yX12_one yX12_one ∈ BASE := bmem 39 (by decide +kernel) rfl
theorem m_40 : Cond.selects yX12_here.cls yX12_here yX12_here ∈ BASE := bmem 40 (by decide +kernel) rfl
theorem m_44 : Cond.selects yX12_takes.cls yX12_takes yX12_takes ∈ BASE := bmem 44 (by decide +kernel) rfl
theorem m_92 : Cond.initialized RX12 ∈ BASE := bmem 92 (by decide +kernel) rfl
theorem m_1323 : Cond.fieldLink RX12 9 "ClickStreetModel" "now" "[I" ∈ BASE := bmem 1323 (by decide +kernel) rfl
theorem m_1327 : Cond.fieldLink RX12 19 "ClickStreetModel" "found" "[I" ∈ BASE := bmem 1327 (by decide +kernel) rfl
theorem m_1332 : Cond.fieldLink RX12 155 "ClickStreetModel" "at" "I" ∈ BASE := bmem 1332 (by decide +kernel) rfl
theorem m_1336 : Cond.fieldLink RX12 151 "ClickStreetModel" "isWrong" "Z" ∈ BASE := bmem 1336 (by decide +kernel) rfl
theorem m_1345 : Cond.fieldLink RX12 311 "ClickStreetModel" "bestMany" "I" ∈ BASE := bmem 1345 (by decide +kernel) rfl
theorem m_1346 : Cond.fieldLink RX12 314 "ClickStreetModel" "bestMinutes" "I" ∈ BASE := bmem 1346 (by decide +kernel) rfl
theorem m_1427 : Cond.methodLink RX12 85 yX12_within ∈ BASE := bmem 1427 (by decide +kernel) rfl
theorem m_1428 : Cond.static yX12_within ∈ BASE := bmem 1428 (by decide +kernel) rfl
theorem m_1429 : Cond.code yX12_within cX12_within 3 (some .boolean) ∈ BASE := bmem 1429 (by decide +kernel) rfl
theorem m_1438 : Cond.constant RX12 84 (-1000000) ∈ BASE := bmem 1438 (by decide +kernel) rfl
theorem m_1443 : Cond.methodLink RX12 96 yX12_in ∈ BASE := bmem 1443 (by decide +kernel) rfl
theorem m_1445 : Cond.instanceMethod yX12_in ∈ BASE := bmem 1445 (by decide +kernel) rfl
theorem m_1446 : Cond.code yX12_in cX12_in 3 (some .int) ∈ BASE := bmem 1446 (by decide +kernel) rfl
theorem m_1447 : Cond.methodLink RX12 89 yX12_thing ∈ BASE := bmem 1447 (by decide +kernel) rfl
theorem m_1449 : Cond.instanceMethod yX12_thing ∈ BASE := bmem 1449 (by decide +kernel) rfl
theorem m_1450 : Cond.code yX12_thing cX12_thing 2 (some .int) ∈ BASE := bmem 1450 (by decide +kernel) rfl
theorem m_1563 : Cond.methodLink RX12 168 yX12_sum ∈ BASE := bmem 1563 (by decide +kernel) rfl
theorem m_1565 : Cond.instanceMethod yX12_sum ∈ BASE := bmem 1565 (by decide +kernel) rfl
theorem m_1566 : Cond.code yX12_sum cX12_sum 2 none ∈ BASE := bmem 1566 (by decide +kernel) rfl
theorem m_1567 : Cond.methodLink RX12 175 yX12_term ∈ BASE := bmem 1567 (by decide +kernel) rfl
theorem m_1569 : Cond.instanceMethod yX12_term ∈ BASE := bmem 1569 (by decide +kernel) rfl
theorem m_1570 : Cond.code yX12_term cX12_term 2 none ∈ BASE := bmem 1570 (by decide +kernel) rfl
theorem m_1571 : Cond.methodLink RX12 178 yX12_one ∈ BASE := bmem 1571 (by decide +kernel) rfl
theorem m_1573 : Cond.instanceMethod yX12_one ∈ BASE := bmem 1573 (by decide +kernel) rfl
theorem m_1574 : Cond.code yX12_one cX12_one 4 none ∈ BASE := bmem 1574 (by decide +kernel) rfl
theorem m_1575 : Cond.methodLink RX12 158 yX12_here ∈ BASE := bmem 1575 (by decide +kernel) rfl
theorem m_1577 : Cond.instanceMethod yX12_here ∈ BASE := bmem 1577 (by decide +kernel) rfl
theorem m_1578 : Cond.code yX12_here cX12_here 1 (some .int) ∈ BASE := bmem 1578 (by decide +kernel) rfl
theorem m_1591 : Cond.methodLink RX12 165 yX12_takes ∈ BASE := bmem 1591 (by decide +kernel) rfl
theorem m_1593 : Cond.instanceMethod yX12_takes ∈ BASE := bmem 1593 (by decide +kernel) rfl
theorem m_1594 : Cond.code yX12_takes cX12_takes 3 (some .boolean) ∈ BASE := bmem 1594 (by decide +kernel) rfl
theorem kS_X12_within : KS yX12_within cX12_within 3 (some .boolean) 3 := ⟨m_1428, m_92, m_1429, by decide +kernel, by decide +kernel, by decide +kernel⟩
theorem kV_X12_here : KV yX12_here cX12_here 1 (some .int) 0 := ⟨m_1577, m_40, m_92, m_1578, by decide +kernel, by decide +kernel, by decide +kernel⟩
theorem kV_X12_in : KV yX12_in cX12_in 3 (some .int) 1 := ⟨m_1445, m_27, m_92, m_1446, by decide +kernel, by decide +kernel, by decide +kernel⟩
theorem kV_X12_one : KV yX12_one cX12_one 4 none 0 := ⟨m_1573, m_39, m_92, m_1574, by decide +kernel, by decide +kernel, by decide +kernel⟩
theorem kV_X12_sum : KV yX12_sum cX12_sum 2 none 0 := ⟨m_1565, m_37, m_92, m_1566, by decide +kernel, by decide +kernel, by decide +kernel⟩
theorem kV_X12_takes : KV yX12_takes cX12_takes 3 (some .boolean) 1 := ⟨m_1593, m_44, m_92, m_1594, by decide +kernel, by decide +kernel, by decide +kernel⟩
theorem kV_X12_term : KV yX12_term cX12_term 2 none 0 := ⟨m_1569, m_38, m_92, m_1570, by decide +kernel, by decide +kernel, by decide +kernel⟩
theorem kV_X12_thing : KV yX12_thing cX12_thing 2 (some .int) 1 := ⟨m_1449, m_28, m_92, m_1450, by decide +kernel, by decide +kernel, by decide +kernel⟩
theorem inB12 : ∀ w ∈ u_ws RX12 TX12 33, w ∈ BASE := bmems (u_ws RX12 TX12 33) [1356, 1358, 1360, 1362, 1364, 1366, 1368, 1370, 1372, 1374, 1376, 1378, 1380, 1382, 1384, 1386, 1388, 1390, 1392, 1394, 1396, 1398, 1400, 1402, 1404, 1406, 1408, 1410, 1412, 1414, 1416, 1418, 1420] (by decide +kernel) (by decide +kernel)
theorem df12 : ∀ j, j < 33 → defaultValue (tyX12 j) = vp_V [.null, .null, .null, .int 0, .null, .null, .null, .int 0, .null, .int 0, .int 0, .int 0, .int 0, .int 0, .int 0, .null, .null, .null, .null, .null, .null, .null, .int 0, .int 0, .null, .null, .int 0, .int 0, .int 0, .null, .null, .null, .null] j := fun j hj => by rcases (show j = 0 ∨ j = 1 ∨ j = 2 ∨ j = 3 ∨ j = 4 ∨ j = 5 ∨ j = 6 ∨ j = 7 ∨ j = 8 ∨ j = 9 ∨ j = 10 ∨ j = 11 ∨ j = 12 ∨ j = 13 ∨ j = 14 ∨ j = 15 ∨ j = 16 ∨ j = 17 ∨ j = 18 ∨ j = 19 ∨ j = 20 ∨ j = 21 ∨ j = 22 ∨ j = 23 ∨ j = 24 ∨ j = 25 ∨ j = 26 ∨ j = 27 ∨ j = 28 ∨ j = 29 ∨ j = 30 ∨ j = 31 ∨ j = 32 by omega) with rfl | rfl | rfl | rfl | rfl | rfl | rfl | rfl | rfl | rfl | rfl | rfl | rfl | rfl | rfl | rfl | rfl | rfl | rfl | rfl | rfl | rfl | rfl | rfl | rfl | rfl | rfl | rfl | rfl | rfl | rfl | rfl | rfl <;> rfl
/-! decode rows -/
theorem dX12_become_0 : decode cX12_become 0 = .ok (.aload_n 0, 1) := by decide +kernel
theorem dX12_become_1 : decode cX12_become 1 = .ok (.getfield 9, 3) := by decide +kernel
theorem dX12_become_4 : decode cX12_become 4 = .ok (.iload_n 1, 1) := by decide +kernel
theorem dX12_become_5 : decode cX12_become 5 = .ok (.iaload, 1) := by decide +kernel
theorem dX12_become_6 : decode cX12_become 6 = .ok (.istore_n 3, 1) := by decide +kernel
theorem dX12_become_7 : decode cX12_become 7 = .ok (.aload_n 0, 1) := by decide +kernel
theorem dX12_become_8 : decode cX12_become 8 = .ok (.getfield 9, 3) := by decide +kernel
theorem dX12_become_11 : decode cX12_become 11 = .ok (.iload_n 1, 1) := by decide +kernel
theorem dX12_become_12 : decode cX12_become 12 = .ok (.iload_n 2, 1) := by decide +kernel
theorem dX12_become_13 : decode cX12_become 13 = .ok (.iastore, 1) := by decide +kernel
theorem dX12_become_14 : decode cX12_become 14 = .ok (.iload_n 3, 1) := by decide +kernel
theorem dX12_become_15 : decode cX12_become 15 = .ok (.ireturn, 1) := by decide +kernel
theorem dX12_comes_0 : decode cX12_comes 0 = .ok (.aload_n 0, 1) := by decide +kernel
theorem dX12_comes_1 : decode cX12_comes 1 = .ok (.getfield 9, 3) := by decide +kernel
theorem dX12_comes_4 : decode cX12_comes 4 = .ok (.iconst 1, 1) := by decide +kernel
theorem dX12_comes_5 : decode cX12_comes 5 = .ok (.iaload, 1) := by decide +kernel
theorem dX12_comes_6 : decode cX12_comes 6 = .ok (.istore_n 3, 1) := by decide +kernel
theorem dX12_comes_7 : decode cX12_comes 7 = .ok (.aload_n 0, 1) := by decide +kernel
theorem dX12_comes_8 : decode cX12_comes 8 = .ok (.getfield 9, 3) := by decide +kernel
theorem dX12_comes_11 : decode cX12_comes 11 = .ok (.aload_n 0, 1) := by decide +kernel
theorem dX12_comes_12 : decode cX12_comes 12 = .ok (.iload_n 3, 1) := by decide +kernel
theorem dX12_comes_13 : decode cX12_comes 13 = .ok (.invokevirtual 89, 3) := by decide +kernel
theorem dX12_comes_16 : decode cX12_comes 16 = .ok (.iconst 0, 1) := by decide +kernel
theorem dX12_comes_17 : decode cX12_comes 17 = .ok (.iadd, 1) := by decide +kernel
theorem dX12_comes_18 : decode cX12_comes 18 = .ok (.iload_n 1, 1) := by decide +kernel
theorem dX12_comes_19 : decode cX12_comes 19 = .ok (.iastore, 1) := by decide +kernel
theorem dX12_comes_20 : decode cX12_comes 20 = .ok (.aload_n 0, 1) := by decide +kernel
theorem dX12_comes_21 : decode cX12_comes 21 = .ok (.getfield 9, 3) := by decide +kernel
theorem dX12_comes_24 : decode cX12_comes 24 = .ok (.aload_n 0, 1) := by decide +kernel
theorem dX12_comes_25 : decode cX12_comes 25 = .ok (.iload_n 3, 1) := by decide +kernel
theorem dX12_comes_26 : decode cX12_comes 26 = .ok (.invokevirtual 89, 3) := by decide +kernel
theorem dX12_comes_29 : decode cX12_comes 29 = .ok (.iconst 1, 1) := by decide +kernel
theorem dX12_comes_30 : decode cX12_comes 30 = .ok (.iadd, 1) := by decide +kernel
theorem dX12_comes_31 : decode cX12_comes 31 = .ok (.iload_n 2, 1) := by decide +kernel
theorem dX12_comes_32 : decode cX12_comes 32 = .ok (.iastore, 1) := by decide +kernel
theorem dX12_comes_33 : decode cX12_comes 33 = .ok (.aload_n 0, 1) := by decide +kernel
theorem dX12_comes_34 : decode cX12_comes 34 = .ok (.getfield 9, 3) := by decide +kernel
theorem dX12_comes_37 : decode cX12_comes 37 = .ok (.aload_n 0, 1) := by decide +kernel
theorem dX12_comes_38 : decode cX12_comes 38 = .ok (.iload_n 3, 1) := by decide +kernel
theorem dX12_comes_39 : decode cX12_comes 39 = .ok (.invokevirtual 89, 3) := by decide +kernel
theorem dX12_comes_42 : decode cX12_comes 42 = .ok (.iconst 2, 1) := by decide +kernel
theorem dX12_comes_43 : decode cX12_comes 43 = .ok (.iadd, 1) := by decide +kernel
theorem dX12_comes_44 : decode cX12_comes 44 = .ok (.iconst 0, 1) := by decide +kernel
theorem dX12_comes_45 : decode cX12_comes 45 = .ok (.iastore, 1) := by decide +kernel
theorem dX12_comes_46 : decode cX12_comes 46 = .ok (.aload_n 0, 1) := by decide +kernel
theorem dX12_comes_47 : decode cX12_comes 47 = .ok (.getfield 9, 3) := by decide +kernel
theorem dX12_comes_50 : decode cX12_comes 50 = .ok (.aload_n 0, 1) := by decide +kernel
theorem dX12_comes_51 : decode cX12_comes 51 = .ok (.iload_n 3, 1) := by decide +kernel
theorem dX12_comes_52 : decode cX12_comes 52 = .ok (.invokevirtual 89, 3) := by decide +kernel
theorem dX12_comes_55 : decode cX12_comes 55 = .ok (.iconst 3, 1) := by decide +kernel
theorem dX12_comes_56 : decode cX12_comes 56 = .ok (.iadd, 1) := by decide +kernel
theorem dX12_comes_57 : decode cX12_comes 57 = .ok (.iconst 0, 1) := by decide +kernel
theorem dX12_comes_58 : decode cX12_comes 58 = .ok (.iastore, 1) := by decide +kernel
theorem dX12_comes_59 : decode cX12_comes 59 = .ok (.aload_n 0, 1) := by decide +kernel
theorem dX12_comes_60 : decode cX12_comes 60 = .ok (.getfield 9, 3) := by decide +kernel
theorem dX12_comes_63 : decode cX12_comes 63 = .ok (.iconst 1, 1) := by decide +kernel
theorem dX12_comes_64 : decode cX12_comes 64 = .ok (.dup2, 1) := by decide +kernel
theorem dX12_comes_65 : decode cX12_comes 65 = .ok (.iaload, 1) := by decide +kernel
theorem dX12_comes_66 : decode cX12_comes 66 = .ok (.iconst 1, 1) := by decide +kernel
theorem dX12_comes_67 : decode cX12_comes 67 = .ok (.iadd, 1) := by decide +kernel
theorem dX12_comes_68 : decode cX12_comes 68 = .ok (.iastore, 1) := by decide +kernel
theorem dX12_comes_69 : decode cX12_comes 69 = .ok (.iload_n 3, 1) := by decide +kernel
theorem dX12_comes_70 : decode cX12_comes 70 = .ok (.ireturn, 1) := by decide +kernel
theorem dX12_copy_0 : decode cX12_copy 0 = .ok (.iconst 0, 1) := by decide +kernel
theorem dX12_copy_1 : decode cX12_copy 1 = .ok (.istore_n 2, 1) := by decide +kernel
theorem dX12_copy_2 : decode cX12_copy 2 = .ok (.iload_n 2, 1) := by decide +kernel
theorem dX12_copy_3 : decode cX12_copy 3 = .ok (.sipush 3567, 3) := by decide +kernel
theorem dX12_copy_6 : decode cX12_copy 6 = .ok (.if_icmp .ge 15, 3) := by decide +kernel
theorem dX12_copy_9 : decode cX12_copy 9 = .ok (.aload_n 1, 1) := by decide +kernel
theorem dX12_copy_10 : decode cX12_copy 10 = .ok (.iload_n 2, 1) := by decide +kernel
theorem dX12_copy_11 : decode cX12_copy 11 = .ok (.aload_n 0, 1) := by decide +kernel
theorem dX12_copy_12 : decode cX12_copy 12 = .ok (.iload_n 2, 1) := by decide +kernel
theorem dX12_copy_13 : decode cX12_copy 13 = .ok (.iaload, 1) := by decide +kernel
theorem dX12_copy_14 : decode cX12_copy 14 = .ok (.iastore, 1) := by decide +kernel
theorem dX12_copy_15 : decode cX12_copy 15 = .ok (.iinc 2 1, 3) := by decide +kernel
theorem dX12_copy_18 : decode cX12_copy 18 = .ok (.goto (-16), 3) := by decide +kernel
theorem dX12_copy_21 : decode cX12_copy 21 = .ok (.return_, 1) := by decide +kernel
theorem dX12_finding_0 : decode cX12_finding 0 = .ok (.aload_n 0, 1) := by decide +kernel
theorem dX12_finding_1 : decode cX12_finding 1 = .ok (.getfield 19, 3) := by decide +kernel
theorem dX12_finding_4 : decode cX12_finding 4 = .ok (.ldc 84, 2) := by decide +kernel
theorem dX12_finding_6 : decode cX12_finding 6 = .ok (.iload_n 1, 1) := by decide +kernel
theorem dX12_finding_7 : decode cX12_finding 7 = .ok (.isub, 1) := by decide +kernel
theorem dX12_finding_8 : decode cX12_finding 8 = .ok (.dup2, 1) := by decide +kernel
theorem dX12_finding_9 : decode cX12_finding 9 = .ok (.iaload, 1) := by decide +kernel
theorem dX12_finding_10 : decode cX12_finding 10 = .ok (.iconst 1, 1) := by decide +kernel
theorem dX12_finding_11 : decode cX12_finding 11 = .ok (.iadd, 1) := by decide +kernel
theorem dX12_finding_12 : decode cX12_finding 12 = .ok (.iastore, 1) := by decide +kernel
theorem dX12_finding_13 : decode cX12_finding 13 = .ok (.iload_n 1, 1) := by decide +kernel
theorem dX12_finding_14 : decode cX12_finding 14 = .ok (.ireturn, 1) := by decide +kernel
theorem dX12_goer_0 : decode cX12_goer 0 = .ok (.sipush 180, 3) := by decide +kernel
theorem dX12_goer_3 : decode cX12_goer 3 = .ok (.bipush 9, 2) := by decide +kernel
theorem dX12_goer_5 : decode cX12_goer 5 = .ok (.iload_n 1, 1) := by decide +kernel
theorem dX12_goer_6 : decode cX12_goer 6 = .ok (.imul, 1) := by decide +kernel
theorem dX12_goer_7 : decode cX12_goer 7 = .ok (.iadd, 1) := by decide +kernel
theorem dX12_goer_8 : decode cX12_goer 8 = .ok (.ireturn, 1) := by decide +kernel
theorem dX12_here_0 : decode cX12_here 0 = .ok (.aload_n 0, 1) := by decide +kernel
theorem dX12_here_1 : decode cX12_here 1 = .ok (.getfield 151, 3) := by decide +kernel
theorem dX12_here_4 : decode cX12_here 4 = .ok (.ifCond .ne 47, 3) := by decide +kernel
theorem dX12_here_7 : decode cX12_here 7 = .ok (.aload_n 0, 1) := by decide +kernel
theorem dX12_here_8 : decode cX12_here 8 = .ok (.getfield 155, 3) := by decide +kernel
theorem dX12_here_11 : decode cX12_here 11 = .ok (.aload_n 0, 1) := by decide +kernel
theorem dX12_here_12 : decode cX12_here 12 = .ok (.getfield 9, 3) := by decide +kernel
theorem dX12_here_15 : decode cX12_here 15 = .ok (.iconst 4, 1) := by decide +kernel
theorem dX12_here_16 : decode cX12_here 16 = .ok (.iaload, 1) := by decide +kernel
theorem dX12_here_17 : decode cX12_here 17 = .ok (.if_icmp .ge 34, 3) := by decide +kernel
theorem dX12_here_51 : decode cX12_here 51 = .ok (.aload_n 0, 1) := by decide +kernel
theorem dX12_here_52 : decode cX12_here 52 = .ok (.getfield 151, 3) := by decide +kernel
theorem dX12_here_55 : decode cX12_here 55 = .ok (.ifCond .ne 32, 3) := by decide +kernel
theorem dX12_here_58 : decode cX12_here 58 = .ok (.aload_n 0, 1) := by decide +kernel
theorem dX12_here_59 : decode cX12_here 59 = .ok (.getfield 155, 3) := by decide +kernel
theorem dX12_here_62 : decode cX12_here 62 = .ok (.aload_n 0, 1) := by decide +kernel
theorem dX12_here_63 : decode cX12_here 63 = .ok (.getfield 9, 3) := by decide +kernel
theorem dX12_here_66 : decode cX12_here 66 = .ok (.iconst 4, 1) := by decide +kernel
theorem dX12_here_67 : decode cX12_here 67 = .ok (.iaload, 1) := by decide +kernel
theorem dX12_here_68 : decode cX12_here 68 = .ok (.if_icmp .ge 19, 3) := by decide +kernel
theorem dX12_here_87 : decode cX12_here 87 = .ok (.iconst (-1), 1) := by decide +kernel
theorem dX12_here_88 : decode cX12_here 88 = .ok (.ireturn, 1) := by decide +kernel
theorem dX12_in_0 : decode cX12_in 0 = .ok (.iconst 0, 1) := by decide +kernel
theorem dX12_in_1 : decode cX12_in 1 = .ok (.istore_n 2, 1) := by decide +kernel
theorem dX12_in_2 : decode cX12_in 2 = .ok (.iload_n 2, 1) := by decide +kernel
theorem dX12_in_3 : decode cX12_in 3 = .ok (.aload_n 0, 1) := by decide +kernel
theorem dX12_in_4 : decode cX12_in 4 = .ok (.getfield 9, 3) := by decide +kernel
theorem dX12_in_7 : decode cX12_in 7 = .ok (.iconst 1, 1) := by decide +kernel
theorem dX12_in_8 : decode cX12_in 8 = .ok (.iaload, 1) := by decide +kernel
theorem dX12_in_9 : decode cX12_in 9 = .ok (.if_icmp .ge 27, 3) := by decide +kernel
theorem dX12_in_36 : decode cX12_in 36 = .ok (.iconst 0, 1) := by decide +kernel
theorem dX12_in_37 : decode cX12_in 37 = .ok (.istore_n 2, 1) := by decide +kernel
theorem dX12_in_38 : decode cX12_in 38 = .ok (.iload_n 2, 1) := by decide +kernel
theorem dX12_in_39 : decode cX12_in 39 = .ok (.aload_n 0, 1) := by decide +kernel
theorem dX12_in_40 : decode cX12_in 40 = .ok (.getfield 9, 3) := by decide +kernel
theorem dX12_in_43 : decode cX12_in 43 = .ok (.iconst 2, 1) := by decide +kernel
theorem dX12_in_44 : decode cX12_in 44 = .ok (.iaload, 1) := by decide +kernel
theorem dX12_in_45 : decode cX12_in 45 = .ok (.if_icmp .ge 38, 3) := by decide +kernel
theorem dX12_in_83 : decode cX12_in 83 = .ok (.iconst (-1), 1) := by decide +kernel
theorem dX12_in_84 : decode cX12_in 84 = .ok (.ireturn, 1) := by decide +kernel
theorem dX12_is_0 : decode cX12_is 0 = .ok (.iload_n 1, 1) := by decide +kernel
theorem dX12_is_1 : decode cX12_is 1 = .ok (.iconst 0, 1) := by decide +kernel
theorem dX12_is_2 : decode cX12_is 2 = .ok (.aload_n 0, 1) := by decide +kernel
theorem dX12_is_3 : decode cX12_is 3 = .ok (.getfield 9, 3) := by decide +kernel
theorem dX12_is_6 : decode cX12_is 6 = .ok (.iload_n 2, 1) := by decide +kernel
theorem dX12_is_7 : decode cX12_is 7 = .ok (.iaload, 1) := by decide +kernel
theorem dX12_is_8 : decode cX12_is 8 = .ok (.iconst 1, 1) := by decide +kernel
theorem dX12_is_9 : decode cX12_is 9 = .ok (.isub, 1) := by decide +kernel
theorem dX12_is_10 : decode cX12_is 10 = .ok (.invokestatic 85, 3) := by decide +kernel
theorem dX12_is_13 : decode cX12_is 13 = .ok (.ireturn, 1) := by decide +kernel
theorem dX12_isCell_0 : decode cX12_isCell 0 = .ok (.iload_n 0, 1) := by decide +kernel
theorem dX12_isCell_1 : decode cX12_isCell 1 = .ok (.iconst 0, 1) := by decide +kernel
theorem dX12_isCell_2 : decode cX12_isCell 2 = .ok (.sipush 191, 3) := by decide +kernel
theorem dX12_isCell_5 : decode cX12_isCell 5 = .ok (.invokestatic 85, 3) := by decide +kernel
theorem dX12_isCell_8 : decode cX12_isCell 8 = .ok (.ireturn, 1) := by decide +kernel
theorem dX12_isFree_0 : decode cX12_isFree 0 = .ok (.aload_n 0, 1) := by decide +kernel
theorem dX12_isFree_1 : decode cX12_isFree 1 = .ok (.iload_n 1, 1) := by decide +kernel
theorem dX12_isFree_2 : decode cX12_isFree 2 = .ok (.invokevirtual 96, 3) := by decide +kernel
theorem dX12_isFree_5 : decode cX12_isFree 5 = .ok (.ifCond .ge 7, 3) := by decide +kernel
theorem dX12_isFree_8 : decode cX12_isFree 8 = .ok (.iconst 1, 1) := by decide +kernel
theorem dX12_isFree_9 : decode cX12_isFree 9 = .ok (.goto 4, 3) := by decide +kernel
theorem dX12_isFree_13 : decode cX12_isFree 13 = .ok (.ireturn, 1) := by decide +kernel
theorem dX12_isSheet_0 : decode cX12_isSheet 0 = .ok (.iload_n 0, 1) := by decide +kernel
theorem dX12_isSheet_1 : decode cX12_isSheet 1 = .ok (.iconst 0, 1) := by decide +kernel
theorem dX12_isSheet_2 : decode cX12_isSheet 2 = .ok (.iconst 3, 1) := by decide +kernel
theorem dX12_isSheet_3 : decode cX12_isSheet 3 = .ok (.invokestatic 85, 3) := by decide +kernel
theorem dX12_isSheet_6 : decode cX12_isSheet 6 = .ok (.ireturn, 1) := by decide +kernel
theorem dX12_isSide_0 : decode cX12_isSide 0 = .ok (.iload_n 0, 1) := by decide +kernel
theorem dX12_isSide_1 : decode cX12_isSide 1 = .ok (.iconst 0, 1) := by decide +kernel
theorem dX12_isSide_2 : decode cX12_isSide 2 = .ok (.bipush 7, 2) := by decide +kernel
theorem dX12_isSide_4 : decode cX12_isSide 4 = .ok (.invokestatic 85, 3) := by decide +kernel
theorem dX12_isSide_7 : decode cX12_isSide 7 = .ok (.ireturn, 1) := by decide +kernel
theorem dX12_one_0 : decode cX12_one 0 = .ok (.aload_n 0, 1) := by decide +kernel
theorem dX12_one_1 : decode cX12_one 1 = .ok (.invokevirtual 158, 3) := by decide +kernel
theorem dX12_one_4 : decode cX12_one 4 = .ok (.istore_n 1, 1) := by decide +kernel
theorem dX12_one_5 : decode cX12_one 5 = .ok (.iload_n 1, 1) := by decide +kernel
theorem dX12_one_6 : decode cX12_one 6 = .ok (.bipush 45, 2) := by decide +kernel
theorem dX12_one_8 : decode cX12_one 8 = .ok (.if_icmp .eq 15, 3) := by decide +kernel
theorem dX12_one_11 : decode cX12_one 11 = .ok (.iload_n 1, 1) := by decide +kernel
theorem dX12_one_12 : decode cX12_one 12 = .ok (.bipush 40, 2) := by decide +kernel
theorem dX12_one_14 : decode cX12_one 14 = .ok (.if_icmp .eq 9, 3) := by decide +kernel
theorem dX12_one_17 : decode cX12_one 17 = .ok (.iload_n 1, 1) := by decide +kernel
theorem dX12_one_18 : decode cX12_one 18 = .ok (.bipush 91, 2) := by decide +kernel
theorem dX12_one_20 : decode cX12_one 20 = .ok (.if_icmp .ne 11, 3) := by decide +kernel
theorem dX12_one_31 : decode cX12_one 31 = .ok (.iload_n 1, 1) := by decide +kernel
theorem dX12_one_32 : decode cX12_one 32 = .ok (.bipush 48, 2) := by decide +kernel
theorem dX12_one_34 : decode cX12_one 34 = .ok (.bipush 57, 2) := by decide +kernel
theorem dX12_one_36 : decode cX12_one 36 = .ok (.invokestatic 85, 3) := by decide +kernel
theorem dX12_one_39 : decode cX12_one 39 = .ok (.ifCond .eq 104, 3) := by decide +kernel
theorem dX12_one_143 : decode cX12_one 143 = .ok (.iload_n 1, 1) := by decide +kernel
theorem dX12_one_144 : decode cX12_one 144 = .ok (.ifCond .ge 7, 3) := by decide +kernel
theorem dX12_one_147 : decode cX12_one 147 = .ok (.iconst (-1), 1) := by decide +kernel
theorem dX12_one_148 : decode cX12_one 148 = .ok (.goto 8, 3) := by decide +kernel
theorem dX12_one_156 : decode cX12_one 156 = .ok (.istore_n 2, 1) := by decide +kernel
theorem dX12_one_157 : decode cX12_one 157 = .ok (.aload_n 0, 1) := by decide +kernel
theorem dX12_one_158 : decode cX12_one 158 = .ok (.aload_n 0, 1) := by decide +kernel
theorem dX12_one_159 : decode cX12_one 159 = .ok (.getfield 151, 3) := by decide +kernel
theorem dX12_one_162 : decode cX12_one 162 = .ok (.ifCond .ne 7, 3) := by decide +kernel
theorem dX12_one_165 : decode cX12_one 165 = .ok (.iload_n 2, 1) := by decide +kernel
theorem dX12_one_166 : decode cX12_one 166 = .ok (.ifCond .ge 7, 3) := by decide +kernel
theorem dX12_one_169 : decode cX12_one 169 = .ok (.iconst 1, 1) := by decide +kernel
theorem dX12_one_170 : decode cX12_one 170 = .ok (.goto 4, 3) := by decide +kernel
theorem dX12_one_174 : decode cX12_one 174 = .ok (.putfield 151, 3) := by decide +kernel
theorem dX12_one_177 : decode cX12_one 177 = .ok (.aload_n 0, 1) := by decide +kernel
theorem dX12_one_178 : decode cX12_one 178 = .ok (.getfield 151, 3) := by decide +kernel
theorem dX12_one_181 : decode cX12_one 181 = .ok (.ifCond .ne 32, 3) := by decide +kernel
theorem dX12_one_213 : decode cX12_one 213 = .ok (.return_, 1) := by decide +kernel
theorem dX12_sum_0 : decode cX12_sum 0 = .ok (.aload_n 0, 1) := by decide +kernel
theorem dX12_sum_1 : decode cX12_sum 1 = .ok (.invokevirtual 175, 3) := by decide +kernel
theorem dX12_sum_4 : decode cX12_sum 4 = .ok (.aload_n 0, 1) := by decide +kernel
theorem dX12_sum_5 : decode cX12_sum 5 = .ok (.bipush 43, 2) := by decide +kernel
theorem dX12_sum_7 : decode cX12_sum 7 = .ok (.invokevirtual 165, 3) := by decide +kernel
theorem dX12_sum_10 : decode cX12_sum 10 = .ok (.ifCond .eq 9, 3) := by decide +kernel
theorem dX12_sum_19 : decode cX12_sum 19 = .ok (.aload_n 0, 1) := by decide +kernel
theorem dX12_sum_20 : decode cX12_sum 20 = .ok (.bipush 45, 2) := by decide +kernel
theorem dX12_sum_22 : decode cX12_sum 22 = .ok (.invokevirtual 165, 3) := by decide +kernel
theorem dX12_sum_25 : decode cX12_sum 25 = .ok (.ifCond .eq 9, 3) := by decide +kernel
theorem dX12_sum_34 : decode cX12_sum 34 = .ok (.iconst 0, 1) := by decide +kernel
theorem dX12_sum_35 : decode cX12_sum 35 = .ok (.istore_n 1, 1) := by decide +kernel
theorem dX12_sum_36 : decode cX12_sum 36 = .ok (.iload_n 1, 1) := by decide +kernel
theorem dX12_sum_37 : decode cX12_sum 37 = .ok (.ifCond .le 47, 3) := by decide +kernel
theorem dX12_sum_84 : decode cX12_sum 84 = .ok (.return_, 1) := by decide +kernel
theorem dX12_sumOf_0 : decode cX12_sumOf 0 = .ok (.iconst 0, 1) := by decide +kernel
theorem dX12_sumOf_1 : decode cX12_sumOf 1 = .ok (.istore_n 2, 1) := by decide +kernel
theorem dX12_sumOf_2 : decode cX12_sumOf 2 = .ok (.iconst 0, 1) := by decide +kernel
theorem dX12_sumOf_3 : decode cX12_sumOf 3 = .ok (.istore_n 3, 1) := by decide +kernel
theorem dX12_sumOf_4 : decode cX12_sumOf 4 = .ok (.iload_n 3, 1) := by decide +kernel
theorem dX12_sumOf_5 : decode cX12_sumOf 5 = .ok (.aload_n 0, 1) := by decide +kernel
theorem dX12_sumOf_6 : decode cX12_sumOf 6 = .ok (.getfield 9, 3) := by decide +kernel
theorem dX12_sumOf_9 : decode cX12_sumOf 9 = .ok (.iconst 2, 1) := by decide +kernel
theorem dX12_sumOf_10 : decode cX12_sumOf 10 = .ok (.iaload, 1) := by decide +kernel
theorem dX12_sumOf_11 : decode cX12_sumOf 11 = .ok (.if_icmp .ge 24, 3) := by decide +kernel
theorem dX12_sumOf_35 : decode cX12_sumOf 35 = .ok (.iload_n 2, 1) := by decide +kernel
theorem dX12_sumOf_36 : decode cX12_sumOf 36 = .ok (.ireturn, 1) := by decide +kernel
theorem dX12_takes_0 : decode cX12_takes 0 = .ok (.aload_n 0, 1) := by decide +kernel
theorem dX12_takes_1 : decode cX12_takes 1 = .ok (.invokevirtual 158, 3) := by decide +kernel
theorem dX12_takes_4 : decode cX12_takes 4 = .ok (.iload_n 1, 1) := by decide +kernel
theorem dX12_takes_5 : decode cX12_takes 5 = .ok (.if_icmp .ne 7, 3) := by decide +kernel
theorem dX12_takes_12 : decode cX12_takes 12 = .ok (.iconst 0, 1) := by decide +kernel
theorem dX12_takes_13 : decode cX12_takes 13 = .ok (.istore_n 2, 1) := by decide +kernel
theorem dX12_takes_14 : decode cX12_takes 14 = .ok (.aload_n 0, 1) := by decide +kernel
theorem dX12_takes_15 : decode cX12_takes 15 = .ok (.dup, 1) := by decide +kernel
theorem dX12_takes_16 : decode cX12_takes 16 = .ok (.getfield 155, 3) := by decide +kernel
theorem dX12_takes_19 : decode cX12_takes 19 = .ok (.iload_n 2, 1) := by decide +kernel
theorem dX12_takes_20 : decode cX12_takes 20 = .ok (.ifCond .eq 7, 3) := by decide +kernel
theorem dX12_takes_27 : decode cX12_takes 27 = .ok (.iconst 0, 1) := by decide +kernel
theorem dX12_takes_28 : decode cX12_takes 28 = .ok (.iadd, 1) := by decide +kernel
theorem dX12_takes_29 : decode cX12_takes 29 = .ok (.putfield 155, 3) := by decide +kernel
theorem dX12_takes_32 : decode cX12_takes 32 = .ok (.iload_n 2, 1) := by decide +kernel
theorem dX12_takes_33 : decode cX12_takes 33 = .ok (.ireturn, 1) := by decide +kernel
theorem dX12_tenth_0 : decode cX12_tenth 0 = .ok (.aload_n 0, 1) := by decide +kernel
theorem dX12_tenth_1 : decode cX12_tenth 1 = .ok (.getfield 9, 3) := by decide +kernel
theorem dX12_tenth_4 : decode cX12_tenth 4 = .ok (.iconst 0, 1) := by decide +kernel
theorem dX12_tenth_5 : decode cX12_tenth 5 = .ok (.dup2, 1) := by decide +kernel
theorem dX12_tenth_6 : decode cX12_tenth 6 = .ok (.iaload, 1) := by decide +kernel
theorem dX12_tenth_7 : decode cX12_tenth 7 = .ok (.iconst 1, 1) := by decide +kernel
theorem dX12_tenth_8 : decode cX12_tenth 8 = .ok (.iadd, 1) := by decide +kernel
theorem dX12_tenth_9 : decode cX12_tenth 9 = .ok (.iastore, 1) := by decide +kernel
theorem dX12_tenth_10 : decode cX12_tenth 10 = .ok (.iconst 0, 1) := by decide +kernel
theorem dX12_tenth_11 : decode cX12_tenth 11 = .ok (.istore_n 1, 1) := by decide +kernel
theorem dX12_tenth_12 : decode cX12_tenth 12 = .ok (.iload_n 1, 1) := by decide +kernel
theorem dX12_tenth_13 : decode cX12_tenth 13 = .ok (.aload_n 0, 1) := by decide +kernel
theorem dX12_tenth_14 : decode cX12_tenth 14 = .ok (.getfield 9, 3) := by decide +kernel
theorem dX12_tenth_17 : decode cX12_tenth 17 = .ok (.iconst 1, 1) := by decide +kernel
theorem dX12_tenth_18 : decode cX12_tenth 18 = .ok (.iaload, 1) := by decide +kernel
theorem dX12_tenth_19 : decode cX12_tenth 19 = .ok (.if_icmp .ge 14, 3) := by decide +kernel
theorem dX12_tenth_33 : decode cX12_tenth 33 = .ok (.iconst 0, 1) := by decide +kernel
theorem dX12_tenth_34 : decode cX12_tenth 34 = .ok (.istore_n 1, 1) := by decide +kernel
theorem dX12_tenth_35 : decode cX12_tenth 35 = .ok (.iload_n 1, 1) := by decide +kernel
theorem dX12_tenth_36 : decode cX12_tenth 36 = .ok (.aload_n 0, 1) := by decide +kernel
theorem dX12_tenth_37 : decode cX12_tenth 37 = .ok (.getfield 9, 3) := by decide +kernel
theorem dX12_tenth_40 : decode cX12_tenth 40 = .ok (.iconst 2, 1) := by decide +kernel
theorem dX12_tenth_41 : decode cX12_tenth 41 = .ok (.iaload, 1) := by decide +kernel
theorem dX12_tenth_42 : decode cX12_tenth 42 = .ok (.if_icmp .ge 14, 3) := by decide +kernel
theorem dX12_tenth_56 : decode cX12_tenth 56 = .ok (.return_, 1) := by decide +kernel
theorem dX12_term_0 : decode cX12_term 0 = .ok (.aload_n 0, 1) := by decide +kernel
theorem dX12_term_1 : decode cX12_term 1 = .ok (.invokevirtual 178, 3) := by decide +kernel
theorem dX12_term_4 : decode cX12_term 4 = .ok (.aload_n 0, 1) := by decide +kernel
theorem dX12_term_5 : decode cX12_term 5 = .ok (.bipush 42, 2) := by decide +kernel
theorem dX12_term_7 : decode cX12_term 7 = .ok (.invokevirtual 165, 3) := by decide +kernel
theorem dX12_term_10 : decode cX12_term 10 = .ok (.ifCond .eq 9, 3) := by decide +kernel
theorem dX12_term_19 : decode cX12_term 19 = .ok (.aload_n 0, 1) := by decide +kernel
theorem dX12_term_20 : decode cX12_term 20 = .ok (.bipush 47, 2) := by decide +kernel
theorem dX12_term_22 : decode cX12_term 22 = .ok (.invokevirtual 165, 3) := by decide +kernel
theorem dX12_term_25 : decode cX12_term 25 = .ok (.ifCond .eq 9, 3) := by decide +kernel
theorem dX12_term_34 : decode cX12_term 34 = .ok (.aload_n 0, 1) := by decide +kernel
theorem dX12_term_35 : decode cX12_term 35 = .ok (.bipush 37, 2) := by decide +kernel
theorem dX12_term_37 : decode cX12_term 37 = .ok (.invokevirtual 165, 3) := by decide +kernel
theorem dX12_term_40 : decode cX12_term 40 = .ok (.ifCond .eq 9, 3) := by decide +kernel
theorem dX12_term_49 : decode cX12_term 49 = .ok (.iconst 0, 1) := by decide +kernel
theorem dX12_term_50 : decode cX12_term 50 = .ok (.istore_n 1, 1) := by decide +kernel
theorem dX12_term_51 : decode cX12_term 51 = .ok (.iload_n 1, 1) := by decide +kernel
theorem dX12_term_52 : decode cX12_term 52 = .ok (.ifCond .le 62, 3) := by decide +kernel
theorem dX12_term_114 : decode cX12_term 114 = .ok (.return_, 1) := by decide +kernel
theorem dX12_text_0 : decode cX12_text 0 = .ok (.aload_n 0, 1) := by decide +kernel
theorem dX12_text_1 : decode cX12_text 1 = .ok (.invokevirtual 168, 3) := by decide +kernel
theorem dX12_text_4 : decode cX12_text 4 = .ok (.aload_n 0, 1) := by decide +kernel
theorem dX12_text_5 : decode cX12_text 5 = .ok (.bipush 60, 2) := by decide +kernel
theorem dX12_text_7 : decode cX12_text 7 = .ok (.invokevirtual 165, 3) := by decide +kernel
theorem dX12_text_10 : decode cX12_text 10 = .ok (.ifCond .eq 9, 3) := by decide +kernel
theorem dX12_text_19 : decode cX12_text 19 = .ok (.aload_n 0, 1) := by decide +kernel
theorem dX12_text_20 : decode cX12_text 20 = .ok (.bipush 61, 2) := by decide +kernel
theorem dX12_text_22 : decode cX12_text 22 = .ok (.invokevirtual 165, 3) := by decide +kernel
theorem dX12_text_25 : decode cX12_text 25 = .ok (.ifCond .eq 9, 3) := by decide +kernel
theorem dX12_text_34 : decode cX12_text 34 = .ok (.aload_n 0, 1) := by decide +kernel
theorem dX12_text_35 : decode cX12_text 35 = .ok (.bipush 62, 2) := by decide +kernel
theorem dX12_text_37 : decode cX12_text 37 = .ok (.invokevirtual 165, 3) := by decide +kernel
theorem dX12_text_40 : decode cX12_text 40 = .ok (.ifCond .eq 9, 3) := by decide +kernel
theorem dX12_text_49 : decode cX12_text 49 = .ok (.iconst 0, 1) := by decide +kernel
theorem dX12_text_50 : decode cX12_text 50 = .ok (.istore_n 1, 1) := by decide +kernel
theorem dX12_text_51 : decode cX12_text 51 = .ok (.iload_n 1, 1) := by decide +kernel
theorem dX12_text_52 : decode cX12_text 52 = .ok (.ifCond .le 62, 3) := by decide +kernel
theorem dX12_text_114 : decode cX12_text 114 = .ok (.return_, 1) := by decide +kernel
theorem dX12_thing_0 : decode cX12_thing 0 = .ok (.bipush 20, 2) := by decide +kernel
theorem dX12_thing_2 : decode cX12_thing 2 = .ok (.iconst 4, 1) := by decide +kernel
theorem dX12_thing_3 : decode cX12_thing 3 = .ok (.iload_n 1, 1) := by decide +kernel
theorem dX12_thing_4 : decode cX12_thing 4 = .ok (.imul, 1) := by decide +kernel
theorem dX12_thing_5 : decode cX12_thing 5 = .ok (.iadd, 1) := by decide +kernel
theorem dX12_thing_6 : decode cX12_thing 6 = .ok (.ireturn, 1) := by decide +kernel
theorem dX12_tryRows_0 : decode cX12_tryRows 0 = .ok (.iload 4, 2) := by decide +kernel
theorem dX12_tryRows_2 : decode cX12_tryRows 2 = .ok (.iload_n 3, 1) := by decide +kernel
theorem dX12_tryRows_3 : decode cX12_tryRows 3 = .ok (.iconst (-1), 1) := by decide +kernel
theorem dX12_tryRows_4 : decode cX12_tryRows 4 = .ok (.ixor, 1) := by decide +kernel
theorem dX12_tryRows_5 : decode cX12_tryRows 5 = .ok (.iand, 1) := by decide +kernel
theorem dX12_tryRows_6 : decode cX12_tryRows 6 = .ok (.ifCond .ne 77, 3) := by decide +kernel
theorem dX12_tryRows_9 : decode cX12_tryRows 9 = .ok (.aload_n 0, 1) := by decide +kernel
theorem dX12_tryRows_10 : decode cX12_tryRows 10 = .ok (.getfield 311, 3) := by decide +kernel
theorem dX12_tryRows_13 : decode cX12_tryRows 13 = .ok (.ifCond .lt 29, 3) := by decide +kernel
theorem dX12_tryRows_42 : decode cX12_tryRows 42 = .ok (.aload_n 0, 1) := by decide +kernel
theorem dX12_tryRows_43 : decode cX12_tryRows 43 = .ok (.iload_n 1, 1) := by decide +kernel
theorem dX12_tryRows_44 : decode cX12_tryRows 44 = .ok (.putfield 311, 3) := by decide +kernel
theorem dX12_tryRows_47 : decode cX12_tryRows 47 = .ok (.aload_n 0, 1) := by decide +kernel
theorem dX12_tryRows_48 : decode cX12_tryRows 48 = .ok (.iload 5, 2) := by decide +kernel
theorem dX12_tryRows_50 : decode cX12_tryRows 50 = .ok (.putfield 314, 3) := by decide +kernel
theorem dX12_tryRows_53 : decode cX12_tryRows 53 = .ok (.iconst 0, 1) := by decide +kernel
theorem dX12_tryRows_54 : decode cX12_tryRows 54 = .ok (.istore 6, 2) := by decide +kernel
theorem dX12_tryRows_56 : decode cX12_tryRows 56 = .ok (.iload 6, 2) := by decide +kernel
theorem dX12_tryRows_58 : decode cX12_tryRows 58 = .ok (.iload_n 1, 1) := by decide +kernel
theorem dX12_tryRows_59 : decode cX12_tryRows 59 = .ok (.if_icmp .ge 23, 3) := by decide +kernel
theorem dX12_tryRows_82 : decode cX12_tryRows 82 = .ok (.return_, 1) := by decide +kernel
theorem dX12_tryRows_83 : decode cX12_tryRows 83 = .ok (.iconst 0, 1) := by decide +kernel
theorem dX12_tryRows_84 : decode cX12_tryRows 84 = .ok (.istore 6, 2) := by decide +kernel
theorem dX12_tryRows_86 : decode cX12_tryRows 86 = .ok (.iload 6, 2) := by decide +kernel
theorem dX12_tryRows_88 : decode cX12_tryRows 88 = .ok (.aload_n 0, 1) := by decide +kernel
theorem dX12_tryRows_89 : decode cX12_tryRows 89 = .ok (.getfield 9, 3) := by decide +kernel
theorem dX12_tryRows_92 : decode cX12_tryRows 92 = .ok (.iconst 3, 1) := by decide +kernel
theorem dX12_tryRows_93 : decode cX12_tryRows 93 = .ok (.iaload, 1) := by decide +kernel
theorem dX12_tryRows_94 : decode cX12_tryRows 94 = .ok (.if_icmp .ge 128, 3) := by decide +kernel
theorem dX12_tryRows_222 : decode cX12_tryRows 222 = .ok (.return_, 1) := by decide +kernel
theorem dX12_within_0 : decode cX12_within 0 = .ok (.iload_n 0, 1) := by decide +kernel
theorem dX12_within_1 : decode cX12_within 1 = .ok (.iload_n 1, 1) := by decide +kernel
theorem dX12_within_2 : decode cX12_within 2 = .ok (.if_icmp .lt 12, 3) := by decide +kernel
theorem dX12_within_5 : decode cX12_within 5 = .ok (.iload_n 0, 1) := by decide +kernel
theorem dX12_within_6 : decode cX12_within 6 = .ok (.iload_n 2, 1) := by decide +kernel
theorem dX12_within_7 : decode cX12_within 7 = .ok (.if_icmp .gt 7, 3) := by decide +kernel
theorem dX12_within_10 : decode cX12_within 10 = .ok (.iconst 1, 1) := by decide +kernel
theorem dX12_within_11 : decode cX12_within 11 = .ok (.goto 4, 3) := by decide +kernel
theorem dX12_within_14 : decode cX12_within 14 = .ok (.iconst 0, 1) := by decide +kernel
theorem dX12_within_15 : decode cX12_within 15 = .ok (.ireturn, 1) := by decide +kernel
