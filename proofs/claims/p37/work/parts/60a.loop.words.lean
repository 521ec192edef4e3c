/-! words of the tables that are used, by their places; decode rows; fields -/
theorem dL_law_18 : decode code 18 = .ok (.iload_n 3, 1) := by decide +kernel
theorem dL_law_19 : decode code 19 = .ok (.aload_n 0, 1) := by decide +kernel
theorem dL_law_20 : decode code 20 = .ok (.arraylength, 1) := by decide +kernel
theorem dL_law_21 : decode code 21 = .ok (.bipush 6, 2) := by decide +kernel
theorem dL_law_23 : decode code 23 = .ok (.isub, 1) := by decide +kernel
theorem dL_law_24 : decode code 24 = .ok (.if_icmp .gt 1713, 3) := by decide +kernel
theorem dL_law_27 : decode code 27 = .ok (.aload_n 0, 1) := by decide +kernel
theorem dL_law_28 : decode code 28 = .ok (.iload_n 3, 1) := by decide +kernel
theorem dL_law_29 : decode code 29 = .ok (.iaload, 1) := by decide +kernel
theorem dL_law_30 : decode code 30 = .ok (.bipush 63, 2) := by decide +kernel
theorem dL_law_32 : decode code 32 = .ok (.iand, 1) := by decide +kernel
theorem dL_law_33 : decode code 33 = .ok (.tableswitch 1698 0 40 #[179, 212, 245, 288, 311, 354, 377, 410, 443, 486, 519, 552, 605, 638, 687, 750, 773, 826, 849, 892, 925, 988, 1041, 1084, 1137, 1160, 1203, 1226, 1269, 1312, 1365, 1408, 1431, 1474, 1517, 1580, 1593, 1606, 1629, 1652, 1675], 179) := by decide +kernel
theorem dL_law_1731 : decode code 1731 = .ok (.iinc 3 6, 3) := by decide +kernel
theorem dL_law_1734 : decode code 1734 = .ok (.goto (-1716), 3) := by decide +kernel
