/-! words of the tables that are used, by their places; decode rows; fields -/
theorem ch_code_0 : (code.data.toList.drop 0).take 36 = [187, 0, 7, 89, 183, 0, 9, 76, 187, 0, 10, 89, 183, 0, 12, 77, 3, 62, 29, 42, 190, 16, 6, 100, 163, 6, 177, 42, 29, 46, 16, 63, 126, 170, 0, 0] := by decide +kernel
theorem dL_law_18 : decode code 18 = .ok (.iload_n 3, 1) := do_29 (rdb (p := 0) (i := 18) ch_code_0 rfl)
theorem dL_law_19 : decode code 19 = .ok (.aload_n 0, 1) := do_42 (rdb (p := 0) (i := 19) ch_code_0 rfl)
theorem dL_law_20 : decode code 20 = .ok (.arraylength, 1) := do_190 (rdb (p := 0) (i := 20) ch_code_0 rfl)
theorem dL_law_21 : decode code 21 = .ok (.bipush 6, 2) := do_16 (rdb (p := 0) (i := 21) ch_code_0 rfl) (rdb (p := 0) (i := 22) ch_code_0 rfl) (by decide +kernel)
theorem dL_law_23 : decode code 23 = .ok (.isub, 1) := do_100 (rdb (p := 0) (i := 23) ch_code_0 rfl)
theorem dL_law_24 : decode code 24 = .ok (.if_icmp .gt 1713, 3) := do_163 (rdb (p := 0) (i := 24) ch_code_0 rfl) (rdb (p := 0) (i := 25) ch_code_0 rfl) (rdb (p := 0) (i := 26) ch_code_0 rfl) (by decide +kernel)
theorem dL_law_27 : decode code 27 = .ok (.aload_n 0, 1) := do_42 (rdb (p := 0) (i := 27) ch_code_0 rfl)
theorem dL_law_28 : decode code 28 = .ok (.iload_n 3, 1) := do_29 (rdb (p := 0) (i := 28) ch_code_0 rfl)
theorem dL_law_29 : decode code 29 = .ok (.iaload, 1) := do_46 (rdb (p := 0) (i := 29) ch_code_0 rfl)
theorem dL_law_30 : decode code 30 = .ok (.bipush 63, 2) := do_16 (rdb (p := 0) (i := 30) ch_code_0 rfl) (rdb (p := 0) (i := 31) ch_code_0 rfl) (by decide +kernel)
theorem ch_code_32 : (code.data.toList.drop 32).take 36 = [126, 170, 0, 0, 0, 0, 6, 162, 0, 0, 0, 0, 0, 0, 0, 40, 0, 0, 0, 179, 0, 0, 0, 212, 0, 0, 0, 245, 0, 0, 1, 32, 0, 0, 1, 55] := by decide +kernel
theorem dL_law_32 : decode code 32 = .ok (.iand, 1) := do_126 (rdb (p := 32) (i := 0) ch_code_32 rfl)
theorem dL_law_33 : decode code 33 = .ok (.tableswitch 1698 0 40 #[179, 212, 245, 288, 311, 354, 377, 410, 443, 486, 519, 552, 605, 638, 687, 750, 773, 826, 849, 892, 925, 988, 1041, 1084, 1137, 1160, 1203, 1226, 1269, 1312, 1365, 1408, 1431, 1474, 1517, 1580, 1593, 1606, 1629, 1652, 1675], 179) := by decide +kernel
theorem dL_law_1731 : decode code 1731 = .ok (.iinc 3 6, 3) := do_132 (rdb (p := 1728) (i := 3) ch_code_1728 rfl) (rdb (p := 1728) (i := 4) ch_code_1728 rfl) (rdb (p := 1728) (i := 5) ch_code_1728 rfl) (by decide +kernel)
theorem dL_law_1734 : decode code 1734 = .ok (.goto (-1716), 3) := do_167 (rdb (p := 1728) (i := 6) ch_code_1728 rfl) (rdb (p := 1728) (i := 7) ch_code_1728 rfl) (rdb (p := 1728) (i := 8) ch_code_1728 rfl) (by decide +kernel)
