/-! words of the tables that are used, by their places; decode rows; fields -/
theorem li_180 : (180 : Int32).toInt = 180 := by decide
theorem li_191 : (191 : Int32).toInt = 191 := by decide
theorem li_384 : (384 : Int32).toInt = 384 := by decide
theorem li_495 : (495 : Int32).toInt = 495 := by decide
theorem m_57 : Cond.selects yX12_yes.cls yX12_yes yX12_yes ∈ BASE := bmem 57 (by decide +kernel) rfl
theorem m_92 : Cond.initialized RX12 ∈ BASE := bmem 92 (by decide +kernel) rfl
theorem m_1323 : Cond.fieldLink RX12 9 "ClickStreetModel" "now" "[I" ∈ BASE := bmem 1323 (by decide +kernel) rfl
theorem m_1327 : Cond.fieldLink RX12 19 "ClickStreetModel" "found" "[I" ∈ BASE := bmem 1327 (by decide +kernel) rfl
theorem m_1427 : Cond.methodLink RX12 85 yX12_within ∈ BASE := bmem 1427 (by decide +kernel) rfl
theorem m_1428 : Cond.static yX12_within ∈ BASE := bmem 1428 (by decide +kernel) rfl
theorem m_1429 : Cond.code yX12_within cX12_within 3 (some .boolean) ∈ BASE := bmem 1429 (by decide +kernel) rfl
theorem m_1438 : Cond.constant RX12 84 (-1000000) ∈ BASE := bmem 1438 (by decide +kernel) rfl
theorem m_1683 : Cond.methodLink RX12 253 yX12_yes ∈ BASE := bmem 1683 (by decide +kernel) rfl
theorem m_1685 : Cond.instanceMethod yX12_yes ∈ BASE := bmem 1685 (by decide +kernel) rfl
theorem m_1686 : Cond.code yX12_yes cX12_yes 3 (some .int) ∈ BASE := bmem 1686 (by decide +kernel) rfl
theorem kS_X12_within : KS yX12_within cX12_within 3 (some .boolean) 3 := ⟨m_1428, m_92, m_1429, by decide +kernel, by decide +kernel, by decide +kernel⟩
theorem kV_X12_yes : KV yX12_yes cX12_yes 3 (some .int) 2 := ⟨m_1685, m_57, m_92, m_1686, by decide +kernel, by decide +kernel, by decide +kernel⟩
theorem inB12 : ∀ w ∈ u_ws RX12 TX12 33, w ∈ BASE := bmems (u_ws RX12 TX12 33) [1356, 1358, 1360, 1362, 1364, 1366, 1368, 1370, 1372, 1374, 1376, 1378, 1380, 1382, 1384, 1386, 1388, 1390, 1392, 1394, 1396, 1398, 1400, 1402, 1404, 1406, 1408, 1410, 1412, 1414, 1416, 1418, 1420] (by decide +kernel) (by decide +kernel)
theorem fl_RX12_19 : FLK RX12 19 12 4 (.array .int) true := ⟨RX12, TX12, 33, tyX12, rfl, inB12, tyX12_ok, nmX12, by decide, rfl, rfl, Or.inl m_1327⟩
theorem fl_RX12_9 : FLK RX12 9 12 0 (.array .int) true := ⟨RX12, TX12, 33, tyX12, rfl, inB12, tyX12_ok, nmX12, by decide, rfl, rfl, Or.inl m_1323⟩
theorem dX12_above_0 : decode cX12_above 0 = .ok (.iload_n 0, 1) := by decide +kernel
theorem dX12_above_1 : decode cX12_above 1 = .ok (.ifCond .ne 7, 3) := by decide +kernel
theorem dX12_above_4 : decode cX12_above 4 = .ok (.iconst (-1), 1) := by decide +kernel
theorem dX12_above_5 : decode cX12_above 5 = .ok (.goto 29, 3) := by decide +kernel
theorem dX12_above_8 : decode cX12_above 8 = .ok (.iload_n 0, 1) := by decide +kernel
theorem dX12_above_9 : decode cX12_above 9 = .ok (.iconst 5, 1) := by decide +kernel
theorem dX12_above_10 : decode cX12_above 10 = .ok (.if_icmp .eq 9, 3) := by decide +kernel
theorem dX12_above_13 : decode cX12_above 13 = .ok (.iload_n 0, 1) := by decide +kernel
theorem dX12_above_14 : decode cX12_above 14 = .ok (.bipush 7, 2) := by decide +kernel
theorem dX12_above_16 : decode cX12_above 16 = .ok (.if_icmp .ne 7, 3) := by decide +kernel
theorem dX12_above_19 : decode cX12_above 19 = .ok (.iconst 1, 1) := by decide +kernel
theorem dX12_above_20 : decode cX12_above 20 = .ok (.goto 14, 3) := by decide +kernel
theorem dX12_above_23 : decode cX12_above 23 = .ok (.iload_n 0, 1) := by decide +kernel
theorem dX12_above_24 : decode cX12_above 24 = .ok (.bipush 6, 2) := by decide +kernel
theorem dX12_above_26 : decode cX12_above 26 = .ok (.if_icmp .ne 7, 3) := by decide +kernel
theorem dX12_above_29 : decode cX12_above 29 = .ok (.iconst 3, 1) := by decide +kernel
theorem dX12_above_30 : decode cX12_above 30 = .ok (.goto 4, 3) := by decide +kernel
theorem dX12_above_33 : decode cX12_above 33 = .ok (.iconst 0, 1) := by decide +kernel
theorem dX12_above_34 : decode cX12_above 34 = .ok (.ireturn, 1) := by decide +kernel
theorem dX12_bits_0 : decode cX12_bits 0 = .ok (.iconst 0, 1) := by decide +kernel
theorem dX12_bits_1 : decode cX12_bits 1 = .ok (.istore_n 1, 1) := by decide +kernel
theorem dX12_bits_2 : decode cX12_bits 2 = .ok (.iconst 0, 1) := by decide +kernel
theorem dX12_bits_3 : decode cX12_bits 3 = .ok (.istore_n 2, 1) := by decide +kernel
theorem dX12_bits_4 : decode cX12_bits 4 = .ok (.iload_n 2, 1) := by decide +kernel
theorem dX12_bits_5 : decode cX12_bits 5 = .ok (.bipush 8, 2) := by decide +kernel
theorem dX12_bits_7 : decode cX12_bits 7 = .ok (.if_icmp .ge 17, 3) := by decide +kernel
theorem dX12_bits_10 : decode cX12_bits 10 = .ok (.iload_n 1, 1) := by decide +kernel
theorem dX12_bits_11 : decode cX12_bits 11 = .ok (.iload_n 0, 1) := by decide +kernel
theorem dX12_bits_12 : decode cX12_bits 12 = .ok (.iload_n 2, 1) := by decide +kernel
theorem dX12_bits_13 : decode cX12_bits 13 = .ok (.ishr, 1) := by decide +kernel
theorem dX12_bits_14 : decode cX12_bits 14 = .ok (.iconst 1, 1) := by decide +kernel
theorem dX12_bits_15 : decode cX12_bits 15 = .ok (.iand, 1) := by decide +kernel
theorem dX12_bits_16 : decode cX12_bits 16 = .ok (.iadd, 1) := by decide +kernel
theorem dX12_bits_17 : decode cX12_bits 17 = .ok (.istore_n 1, 1) := by decide +kernel
theorem dX12_bits_18 : decode cX12_bits 18 = .ok (.iinc 2 1, 3) := by decide +kernel
theorem dX12_bits_21 : decode cX12_bits 21 = .ok (.goto (-17), 3) := by decide +kernel
theorem dX12_bits_24 : decode cX12_bits 24 = .ok (.iload_n 1, 1) := by decide +kernel
theorem dX12_bits_25 : decode cX12_bits 25 = .ok (.ireturn, 1) := by decide +kernel
theorem ch_cX12_done_0 : (cX12_done.data.toList.drop 0).take 36 = [26, 170, 0, 0, 0, 0, 0, 100, 0, 0, 7, 208, 0, 0, 7, 214, 0, 0, 0, 43, 0, 0, 0, 54, 0, 0, 0, 65, 0, 0, 0, 76, 0, 0, 0, 80] := by decide +kernel
theorem dX12_done_0 : decode cX12_done 0 = .ok (.iload_n 0, 1) := do_26 (rdb (p := 0) (i := 0) ch_cX12_done_0 rfl)
theorem dX12_done_1 : decode cX12_done 1 = .ok (.tableswitch 100 2000 2006 #[43, 54, 65, 76, 80, 84, 88], 43) := by decide +kernel
theorem ch_cX12_done_32 : (cX12_done.data.toList.drop 32).take 36 = [0, 0, 0, 80, 0, 0, 0, 84, 0, 0, 0, 88, 27, 28, 162, 0, 7, 4, 167, 0, 4, 3, 172, 27, 28, 160, 0, 7, 4, 167, 0, 4, 3, 172, 27, 28] := by decide +kernel
theorem dX12_done_44 : decode cX12_done 44 = .ok (.iload_n 1, 1) := do_27 (rdb (p := 32) (i := 12) ch_cX12_done_32 rfl)
theorem dX12_done_45 : decode cX12_done 45 = .ok (.iload_n 2, 1) := do_28 (rdb (p := 32) (i := 13) ch_cX12_done_32 rfl)
theorem dX12_done_46 : decode cX12_done 46 = .ok (.if_icmp .ge 7, 3) := do_162 (rdb (p := 32) (i := 14) ch_cX12_done_32 rfl) (rdb (p := 32) (i := 15) ch_cX12_done_32 rfl) (rdb (p := 32) (i := 16) ch_cX12_done_32 rfl) (by decide +kernel)
theorem dX12_done_49 : decode cX12_done 49 = .ok (.iconst 1, 1) := do_4 (rdb (p := 32) (i := 17) ch_cX12_done_32 rfl)
theorem dX12_done_50 : decode cX12_done 50 = .ok (.goto 4, 3) := do_167 (rdb (p := 32) (i := 18) ch_cX12_done_32 rfl) (rdb (p := 32) (i := 19) ch_cX12_done_32 rfl) (rdb (p := 32) (i := 20) ch_cX12_done_32 rfl) (by decide +kernel)
theorem dX12_done_53 : decode cX12_done 53 = .ok (.iconst 0, 1) := do_3 (rdb (p := 32) (i := 21) ch_cX12_done_32 rfl)
theorem dX12_done_54 : decode cX12_done 54 = .ok (.ireturn, 1) := do_172 (rdb (p := 32) (i := 22) ch_cX12_done_32 rfl)
theorem dX12_done_55 : decode cX12_done 55 = .ok (.iload_n 1, 1) := do_27 (rdb (p := 32) (i := 23) ch_cX12_done_32 rfl)
theorem dX12_done_56 : decode cX12_done 56 = .ok (.iload_n 2, 1) := do_28 (rdb (p := 32) (i := 24) ch_cX12_done_32 rfl)
theorem dX12_done_57 : decode cX12_done 57 = .ok (.if_icmp .ne 7, 3) := do_160 (rdb (p := 32) (i := 25) ch_cX12_done_32 rfl) (rdb (p := 32) (i := 26) ch_cX12_done_32 rfl) (rdb (p := 32) (i := 27) ch_cX12_done_32 rfl) (by decide +kernel)
theorem dX12_done_60 : decode cX12_done 60 = .ok (.iconst 1, 1) := do_4 (rdb (p := 32) (i := 28) ch_cX12_done_32 rfl)
theorem dX12_done_61 : decode cX12_done 61 = .ok (.goto 4, 3) := do_167 (rdb (p := 32) (i := 29) ch_cX12_done_32 rfl) (rdb (p := 32) (i := 30) ch_cX12_done_32 rfl) (rdb (p := 32) (i := 31) ch_cX12_done_32 rfl) (by decide +kernel)
theorem ch_cX12_done_64 : (cX12_done.data.toList.drop 64).take 36 = [3, 172, 27, 28, 164, 0, 7, 4, 167, 0, 4, 3, 172, 27, 28, 96, 172, 27, 28, 100, 172, 27, 28, 104, 172, 28, 154, 0, 7, 3, 167, 0, 6, 27, 28, 108] := by decide +kernel
theorem dX12_done_64 : decode cX12_done 64 = .ok (.iconst 0, 1) := do_3 (rdb (p := 64) (i := 0) ch_cX12_done_64 rfl)
theorem dX12_done_65 : decode cX12_done 65 = .ok (.ireturn, 1) := do_172 (rdb (p := 64) (i := 1) ch_cX12_done_64 rfl)
theorem dX12_done_66 : decode cX12_done 66 = .ok (.iload_n 1, 1) := do_27 (rdb (p := 64) (i := 2) ch_cX12_done_64 rfl)
theorem dX12_done_67 : decode cX12_done 67 = .ok (.iload_n 2, 1) := do_28 (rdb (p := 64) (i := 3) ch_cX12_done_64 rfl)
theorem dX12_done_68 : decode cX12_done 68 = .ok (.if_icmp .le 7, 3) := do_164 (rdb (p := 64) (i := 4) ch_cX12_done_64 rfl) (rdb (p := 64) (i := 5) ch_cX12_done_64 rfl) (rdb (p := 64) (i := 6) ch_cX12_done_64 rfl) (by decide +kernel)
theorem dX12_done_71 : decode cX12_done 71 = .ok (.iconst 1, 1) := do_4 (rdb (p := 64) (i := 7) ch_cX12_done_64 rfl)
theorem dX12_done_72 : decode cX12_done 72 = .ok (.goto 4, 3) := do_167 (rdb (p := 64) (i := 8) ch_cX12_done_64 rfl) (rdb (p := 64) (i := 9) ch_cX12_done_64 rfl) (rdb (p := 64) (i := 10) ch_cX12_done_64 rfl) (by decide +kernel)
theorem dX12_done_75 : decode cX12_done 75 = .ok (.iconst 0, 1) := do_3 (rdb (p := 64) (i := 11) ch_cX12_done_64 rfl)
theorem dX12_done_76 : decode cX12_done 76 = .ok (.ireturn, 1) := do_172 (rdb (p := 64) (i := 12) ch_cX12_done_64 rfl)
theorem dX12_done_77 : decode cX12_done 77 = .ok (.iload_n 1, 1) := do_27 (rdb (p := 64) (i := 13) ch_cX12_done_64 rfl)
theorem dX12_done_78 : decode cX12_done 78 = .ok (.iload_n 2, 1) := do_28 (rdb (p := 64) (i := 14) ch_cX12_done_64 rfl)
theorem dX12_done_79 : decode cX12_done 79 = .ok (.iadd, 1) := do_96 (rdb (p := 64) (i := 15) ch_cX12_done_64 rfl)
theorem dX12_done_80 : decode cX12_done 80 = .ok (.ireturn, 1) := do_172 (rdb (p := 64) (i := 16) ch_cX12_done_64 rfl)
theorem dX12_done_81 : decode cX12_done 81 = .ok (.iload_n 1, 1) := do_27 (rdb (p := 64) (i := 17) ch_cX12_done_64 rfl)
theorem dX12_done_82 : decode cX12_done 82 = .ok (.iload_n 2, 1) := do_28 (rdb (p := 64) (i := 18) ch_cX12_done_64 rfl)
theorem dX12_done_83 : decode cX12_done 83 = .ok (.isub, 1) := do_100 (rdb (p := 64) (i := 19) ch_cX12_done_64 rfl)
theorem dX12_done_84 : decode cX12_done 84 = .ok (.ireturn, 1) := do_172 (rdb (p := 64) (i := 20) ch_cX12_done_64 rfl)
theorem dX12_done_85 : decode cX12_done 85 = .ok (.iload_n 1, 1) := do_27 (rdb (p := 64) (i := 21) ch_cX12_done_64 rfl)
theorem dX12_done_86 : decode cX12_done 86 = .ok (.iload_n 2, 1) := do_28 (rdb (p := 64) (i := 22) ch_cX12_done_64 rfl)
theorem dX12_done_87 : decode cX12_done 87 = .ok (.imul, 1) := do_104 (rdb (p := 64) (i := 23) ch_cX12_done_64 rfl)
theorem dX12_done_88 : decode cX12_done 88 = .ok (.ireturn, 1) := do_172 (rdb (p := 64) (i := 24) ch_cX12_done_64 rfl)
theorem dX12_done_89 : decode cX12_done 89 = .ok (.iload_n 2, 1) := do_28 (rdb (p := 64) (i := 25) ch_cX12_done_64 rfl)
theorem dX12_done_90 : decode cX12_done 90 = .ok (.ifCond .ne 7, 3) := do_154 (rdb (p := 64) (i := 26) ch_cX12_done_64 rfl) (rdb (p := 64) (i := 27) ch_cX12_done_64 rfl) (rdb (p := 64) (i := 28) ch_cX12_done_64 rfl) (by decide +kernel)
theorem dX12_done_93 : decode cX12_done 93 = .ok (.iconst 0, 1) := do_3 (rdb (p := 64) (i := 29) ch_cX12_done_64 rfl)
theorem dX12_done_94 : decode cX12_done 94 = .ok (.goto 6, 3) := do_167 (rdb (p := 64) (i := 30) ch_cX12_done_64 rfl) (rdb (p := 64) (i := 31) ch_cX12_done_64 rfl) (rdb (p := 64) (i := 32) ch_cX12_done_64 rfl) (by decide +kernel)
theorem ch_cX12_done_96 : (cX12_done.data.toList.drop 96).take 36 = [6, 27, 28, 108, 172, 28, 154, 0, 7, 3, 167, 0, 6, 27, 28, 112, 172] := by decide +kernel
theorem dX12_done_97 : decode cX12_done 97 = .ok (.iload_n 1, 1) := do_27 (rdb (p := 96) (i := 1) ch_cX12_done_96 rfl)
theorem dX12_done_98 : decode cX12_done 98 = .ok (.iload_n 2, 1) := do_28 (rdb (p := 96) (i := 2) ch_cX12_done_96 rfl)
theorem dX12_done_99 : decode cX12_done 99 = .ok (.idiv, 1) := do_108 (rdb (p := 96) (i := 3) ch_cX12_done_96 rfl)
theorem dX12_done_100 : decode cX12_done 100 = .ok (.ireturn, 1) := do_172 (rdb (p := 96) (i := 4) ch_cX12_done_96 rfl)
theorem dX12_done_101 : decode cX12_done 101 = .ok (.iload_n 2, 1) := do_28 (rdb (p := 96) (i := 5) ch_cX12_done_96 rfl)
theorem dX12_done_102 : decode cX12_done 102 = .ok (.ifCond .ne 7, 3) := do_154 (rdb (p := 96) (i := 6) ch_cX12_done_96 rfl) (rdb (p := 96) (i := 7) ch_cX12_done_96 rfl) (rdb (p := 96) (i := 8) ch_cX12_done_96 rfl) (by decide +kernel)
theorem dX12_done_105 : decode cX12_done 105 = .ok (.iconst 0, 1) := do_3 (rdb (p := 96) (i := 9) ch_cX12_done_96 rfl)
theorem dX12_done_106 : decode cX12_done 106 = .ok (.goto 6, 3) := do_167 (rdb (p := 96) (i := 10) ch_cX12_done_96 rfl) (rdb (p := 96) (i := 11) ch_cX12_done_96 rfl) (rdb (p := 96) (i := 12) ch_cX12_done_96 rfl) (by decide +kernel)
theorem dX12_done_109 : decode cX12_done 109 = .ok (.iload_n 1, 1) := do_27 (rdb (p := 96) (i := 13) ch_cX12_done_96 rfl)
theorem dX12_done_110 : decode cX12_done 110 = .ok (.iload_n 2, 1) := do_28 (rdb (p := 96) (i := 14) ch_cX12_done_96 rfl)
theorem dX12_done_111 : decode cX12_done 111 = .ok (.irem, 1) := do_112 (rdb (p := 96) (i := 15) ch_cX12_done_96 rfl)
theorem dX12_done_112 : decode cX12_done 112 = .ok (.ireturn, 1) := do_172 (rdb (p := 96) (i := 16) ch_cX12_done_96 rfl)
theorem dX12_ear_0 : decode cX12_ear 0 = .ok (.iload_n 1, 1) := by decide +kernel
theorem dX12_ear_1 : decode cX12_ear 1 = .ok (.iload_n 2, 1) := by decide +kernel
theorem dX12_ear_2 : decode cX12_ear 2 = .ok (.isub, 1) := by decide +kernel
theorem dX12_ear_3 : decode cX12_ear 3 = .ok (.iload_n 3, 1) := by decide +kernel
theorem dX12_ear_4 : decode cX12_ear 4 = .ok (.isub, 1) := by decide +kernel
theorem dX12_ear_5 : decode cX12_ear 5 = .ok (.bipush 16, 2) := by decide +kernel
theorem dX12_ear_7 : decode cX12_ear 7 = .ok (.iadd, 1) := by decide +kernel
theorem dX12_ear_8 : decode cX12_ear 8 = .ok (.bipush 7, 2) := by decide +kernel
theorem dX12_ear_10 : decode cX12_ear 10 = .ok (.iand, 1) := by decide +kernel
theorem dX12_ear_11 : decode cX12_ear 11 = .ok (.istore 4, 2) := by decide +kernel
theorem dX12_ear_13 : decode cX12_ear 13 = .ok (.iload 4, 2) := by decide +kernel
theorem dX12_ear_15 : decode cX12_ear 15 = .ok (.iconst 3, 1) := by decide +kernel
theorem dX12_ear_16 : decode cX12_ear 16 = .ok (.if_icmp .ge 9, 3) := by decide +kernel
theorem dX12_ear_19 : decode cX12_ear 19 = .ok (.iload_n 0, 1) := by decide +kernel
theorem dX12_ear_20 : decode cX12_ear 20 = .ok (.iconst 2, 1) := by decide +kernel
theorem dX12_ear_21 : decode cX12_ear 21 = .ok (.idiv, 1) := by decide +kernel
theorem dX12_ear_22 : decode cX12_ear 22 = .ok (.goto 4, 3) := by decide +kernel
theorem dX12_ear_25 : decode cX12_ear 25 = .ok (.iload_n 0, 1) := by decide +kernel
theorem dX12_ear_26 : decode cX12_ear 26 = .ok (.ireturn, 1) := by decide +kernel
theorem dX12_finding_0 : decode cX12_finding 0 = .ok (.aload_n 0, 1) := by decide +kernel
theorem dX12_finding_1 : decode cX12_finding 1 = .ok (.getfield 19, 3) := by decide +kernel
theorem dX12_finding_4 : decode cX12_finding 4 = .ok (.ldc 84, 2) := by decide +kernel
theorem dX12_finding_6 : decode cX12_finding 6 = .ok (.iload_n 1, 1) := by decide +kernel
theorem dX12_finding_7 : decode cX12_finding 7 = .ok (.isub, 1) := by decide +kernel
theorem dX12_finding_8 : decode cX12_finding 8 = .ok (.dup2, 1) := by decide +kernel
theorem dX12_finding_9 : decode cX12_finding 9 = .ok (.iaload, 1) := by decide +kernel
theorem dX12_finding_10 : decode cX12_finding 10 = .ok (.iconst 1, 1) := by decide +kernel
theorem dX12_finding_11 : decode cX12_finding 11 = .ok (.iadd, 1) := by decide +kernel
theorem dX12_finding_12 : decode cX12_finding 12 = .ok (.iastore, 1) := by decide +kernel
theorem dX12_finding_13 : decode cX12_finding 13 = .ok (.iload_n 1, 1) := by decide +kernel
theorem dX12_finding_14 : decode cX12_finding 14 = .ok (.ireturn, 1) := by decide +kernel
theorem dX12_goer_0 : decode cX12_goer 0 = .ok (.sipush 180, 3) := by decide +kernel
theorem dX12_goer_3 : decode cX12_goer 3 = .ok (.bipush 9, 2) := by decide +kernel
theorem dX12_goer_5 : decode cX12_goer 5 = .ok (.iload_n 1, 1) := by decide +kernel
theorem dX12_goer_6 : decode cX12_goer 6 = .ok (.imul, 1) := by decide +kernel
theorem dX12_goer_7 : decode cX12_goer 7 = .ok (.iadd, 1) := by decide +kernel
theorem dX12_goer_8 : decode cX12_goer 8 = .ok (.ireturn, 1) := by decide +kernel
theorem dX12_is_0 : decode cX12_is 0 = .ok (.iload_n 1, 1) := by decide +kernel
theorem dX12_is_1 : decode cX12_is 1 = .ok (.iconst 0, 1) := by decide +kernel
theorem dX12_is_2 : decode cX12_is 2 = .ok (.aload_n 0, 1) := by decide +kernel
theorem dX12_is_3 : decode cX12_is 3 = .ok (.getfield 9, 3) := by decide +kernel
theorem dX12_is_6 : decode cX12_is 6 = .ok (.iload_n 2, 1) := by decide +kernel
theorem dX12_is_7 : decode cX12_is 7 = .ok (.iaload, 1) := by decide +kernel
theorem dX12_is_8 : decode cX12_is 8 = .ok (.iconst 1, 1) := by decide +kernel
theorem dX12_is_9 : decode cX12_is 9 = .ok (.isub, 1) := by decide +kernel
theorem dX12_is_10 : decode cX12_is 10 = .ok (.invokestatic 85, 3) := by decide +kernel
theorem dX12_is_13 : decode cX12_is 13 = .ok (.ireturn, 1) := by decide +kernel
theorem dX12_isCell_0 : decode cX12_isCell 0 = .ok (.iload_n 0, 1) := by decide +kernel
theorem dX12_isCell_1 : decode cX12_isCell 1 = .ok (.iconst 0, 1) := by decide +kernel
theorem dX12_isCell_2 : decode cX12_isCell 2 = .ok (.sipush 191, 3) := by decide +kernel
theorem dX12_isCell_5 : decode cX12_isCell 5 = .ok (.invokestatic 85, 3) := by decide +kernel
theorem dX12_isCell_8 : decode cX12_isCell 8 = .ok (.ireturn, 1) := by decide +kernel
theorem dX12_isClick_0 : decode cX12_isClick 0 = .ok (.iload_n 1, 1) := by decide +kernel
theorem dX12_isClick_1 : decode cX12_isClick 1 = .ok (.bipush 100, 2) := by decide +kernel
theorem dX12_isClick_3 : decode cX12_isClick 3 = .ok (.sipush 999, 3) := by decide +kernel
theorem dX12_isClick_6 : decode cX12_isClick 6 = .ok (.invokestatic 85, 3) := by decide +kernel
theorem dX12_isClick_9 : decode cX12_isClick 9 = .ok (.ifCond .eq 14, 3) := by decide +kernel
theorem dX12_isClick_12 : decode cX12_isClick 12 = .ok (.iload_n 1, 1) := by decide +kernel
theorem dX12_isClick_13 : decode cX12_isClick 13 = .ok (.bipush 100, 2) := by decide +kernel
theorem dX12_isClick_15 : decode cX12_isClick 15 = .ok (.irem, 1) := by decide +kernel
theorem dX12_isClick_16 : decode cX12_isClick 16 = .ok (.ifCond .le 7, 3) := by decide +kernel
theorem dX12_isClick_19 : decode cX12_isClick 19 = .ok (.iconst 1, 1) := by decide +kernel
theorem dX12_isClick_20 : decode cX12_isClick 20 = .ok (.goto 4, 3) := by decide +kernel
theorem dX12_isClick_23 : decode cX12_isClick 23 = .ok (.iconst 0, 1) := by decide +kernel
theorem dX12_isClick_24 : decode cX12_isClick 24 = .ok (.ireturn, 1) := by decide +kernel
theorem dX12_isSheet_0 : decode cX12_isSheet 0 = .ok (.iload_n 0, 1) := by decide +kernel
theorem dX12_isSheet_1 : decode cX12_isSheet 1 = .ok (.iconst 0, 1) := by decide +kernel
theorem dX12_isSheet_2 : decode cX12_isSheet 2 = .ok (.iconst 3, 1) := by decide +kernel
theorem dX12_isSheet_3 : decode cX12_isSheet 3 = .ok (.invokestatic 85, 3) := by decide +kernel
theorem dX12_isSheet_6 : decode cX12_isSheet 6 = .ok (.ireturn, 1) := by decide +kernel
theorem dX12_isSide_0 : decode cX12_isSide 0 = .ok (.iload_n 0, 1) := by decide +kernel
theorem dX12_isSide_1 : decode cX12_isSide 1 = .ok (.iconst 0, 1) := by decide +kernel
theorem dX12_isSide_2 : decode cX12_isSide 2 = .ok (.bipush 7, 2) := by decide +kernel
theorem dX12_isSide_4 : decode cX12_isSide 4 = .ok (.invokestatic 85, 3) := by decide +kernel
theorem dX12_isSide_7 : decode cX12_isSide 7 = .ok (.ireturn, 1) := by decide +kernel
theorem dX12_late_0 : decode cX12_late 0 = .ok (.iload_n 0, 1) := by decide +kernel
theorem dX12_late_1 : decode cX12_late 1 = .ok (.iconst 2, 1) := by decide +kernel
theorem dX12_late_2 : decode cX12_late 2 = .ok (.irem, 1) := by decide +kernel
theorem dX12_late_3 : decode cX12_late 3 = .ok (.iconst 1, 1) := by decide +kernel
theorem dX12_late_4 : decode cX12_late 4 = .ok (.if_icmp .ne 8, 3) := by decide +kernel
theorem dX12_late_7 : decode cX12_late 7 = .ok (.bipush 8, 2) := by decide +kernel
theorem dX12_late_9 : decode cX12_late 9 = .ok (.goto 5, 3) := by decide +kernel
theorem dX12_late_12 : decode cX12_late 12 = .ok (.bipush 6, 2) := by decide +kernel
theorem dX12_late_14 : decode cX12_late 14 = .ok (.iload_n 1, 1) := by decide +kernel
theorem dX12_late_15 : decode cX12_late 15 = .ok (.imul, 1) := by decide +kernel
theorem dX12_late_16 : decode cX12_late 16 = .ok (.ireturn, 1) := by decide +kernel
theorem dX12_no_0 : decode cX12_no 0 = .ok (.aload_n 0, 1) := by decide +kernel
theorem dX12_no_1 : decode cX12_no 1 = .ok (.iload_n 1, 1) := by decide +kernel
theorem dX12_no_2 : decode cX12_no 2 = .ok (.iload_n 2, 1) := by decide +kernel
theorem dX12_no_3 : decode cX12_no 3 = .ok (.invokevirtual 253, 3) := by decide +kernel
theorem dX12_no_6 : decode cX12_no 6 = .ok (.sipush 192, 3) := by decide +kernel
theorem dX12_no_9 : decode cX12_no 9 = .ok (.iadd, 1) := by decide +kernel
theorem dX12_no_10 : decode cX12_no 10 = .ok (.ireturn, 1) := by decide +kernel
theorem dX12_thing_0 : decode cX12_thing 0 = .ok (.bipush 20, 2) := by decide +kernel
theorem dX12_thing_2 : decode cX12_thing 2 = .ok (.iconst 4, 1) := by decide +kernel
theorem dX12_thing_3 : decode cX12_thing 3 = .ok (.iload_n 1, 1) := by decide +kernel
theorem dX12_thing_4 : decode cX12_thing 4 = .ok (.imul, 1) := by decide +kernel
theorem dX12_thing_5 : decode cX12_thing 5 = .ok (.iadd, 1) := by decide +kernel
theorem dX12_thing_6 : decode cX12_thing 6 = .ok (.ireturn, 1) := by decide +kernel
theorem dX12_within_0 : decode cX12_within 0 = .ok (.iload_n 0, 1) := by decide +kernel
theorem dX12_within_1 : decode cX12_within 1 = .ok (.iload_n 1, 1) := by decide +kernel
theorem dX12_within_2 : decode cX12_within 2 = .ok (.if_icmp .lt 12, 3) := by decide +kernel
theorem dX12_within_5 : decode cX12_within 5 = .ok (.iload_n 0, 1) := by decide +kernel
theorem dX12_within_6 : decode cX12_within 6 = .ok (.iload_n 2, 1) := by decide +kernel
theorem dX12_within_7 : decode cX12_within 7 = .ok (.if_icmp .gt 7, 3) := by decide +kernel
theorem dX12_within_10 : decode cX12_within 10 = .ok (.iconst 1, 1) := by decide +kernel
theorem dX12_within_11 : decode cX12_within 11 = .ok (.goto 4, 3) := by decide +kernel
theorem dX12_within_14 : decode cX12_within 14 = .ok (.iconst 0, 1) := by decide +kernel
theorem dX12_within_15 : decode cX12_within 15 = .ok (.ireturn, 1) := by decide +kernel
theorem dX12_yes_0 : decode cX12_yes 0 = .ok (.sipush 495, 3) := by decide +kernel
theorem dX12_yes_3 : decode cX12_yes 3 = .ok (.sipush 384, 3) := by decide +kernel
theorem dX12_yes_6 : decode cX12_yes 6 = .ok (.iload_n 1, 1) := by decide +kernel
theorem dX12_yes_7 : decode cX12_yes 7 = .ok (.imul, 1) := by decide +kernel
theorem dX12_yes_8 : decode cX12_yes 8 = .ok (.iadd, 1) := by decide +kernel
theorem dX12_yes_9 : decode cX12_yes 9 = .ok (.iload_n 2, 1) := by decide +kernel
theorem dX12_yes_10 : decode cX12_yes 10 = .ok (.iadd, 1) := by decide +kernel
theorem dX12_yes_11 : decode cX12_yes 11 = .ok (.ireturn, 1) := by decide +kernel
