/-! words of the tables that are used, by their places; decode rows; fields -/
theorem m_71 : Cond.selects yX12_tryRows.cls yX12_tryRows yX12_tryRows ∈ BASE := bmem 71 (by decide +kernel) rfl
theorem m_1343 : Cond.fieldLink RX12 60 "ClickStreetModel" "row" "[I" ∈ BASE := bmem 1343 (by decide +kernel) rfl
theorem m_1344 : Cond.fieldLink RX12 63 "ClickStreetModel" "bestRow" "[I" ∈ BASE := bmem 1344 (by decide +kernel) rfl
theorem m_1345 : Cond.fieldLink RX12 311 "ClickStreetModel" "bestMany" "I" ∈ BASE := bmem 1345 (by decide +kernel) rfl
theorem m_1346 : Cond.fieldLink RX12 314 "ClickStreetModel" "bestMinutes" "I" ∈ BASE := bmem 1346 (by decide +kernel) rfl
theorem m_1787 : Cond.methodLink RX12 317 yX12_tryRows ∈ BASE := bmem 1787 (by decide +kernel) rfl
theorem m_1789 : Cond.instanceMethod yX12_tryRows ∈ BASE := bmem 1789 (by decide +kernel) rfl
theorem m_1790 : Cond.code yX12_tryRows cX12_tryRows 7 none ∈ BASE := bmem 1790 (by decide +kernel) rfl
theorem kV_X12_tryRows : KV yX12_tryRows cX12_tryRows 7 none 5 := ⟨m_1789, m_71, m_92, m_1790, by decide +kernel, by decide +kernel, by decide +kernel⟩
theorem fl_RX12_311 : FLK RX12 311 12 22 .int false := ⟨RX12, TX12, 33, tyX12, rfl, inB12, tyX12_ok, nmX12, by decide, rfl, rfl, Or.inl m_1345⟩
theorem fl_RX12_314 : FLK RX12 314 12 23 .int false := ⟨RX12, TX12, 33, tyX12, rfl, inB12, tyX12_ok, nmX12, by decide, rfl, rfl, Or.inl m_1346⟩
theorem fl_RX12_60 : FLK RX12 60 12 20 (.array .int) true := ⟨RX12, TX12, 33, tyX12, rfl, inB12, tyX12_ok, nmX12, by decide, rfl, rfl, Or.inl m_1343⟩
theorem fl_RX12_63 : FLK RX12 63 12 21 (.array .int) true := ⟨RX12, TX12, 33, tyX12, rfl, inB12, tyX12_ok, nmX12, by decide, rfl, rfl, Or.inl m_1344⟩
theorem ch_cX12_tryRows_0 : (cX12_tryRows.data.toList.drop 0).take 36 = [21, 4, 29, 2, 130, 126, 154, 0, 77, 42, 180, 1, 55, 155, 0, 29, 21, 5, 42, 180, 1, 58, 161, 0, 20, 21, 5, 42, 180, 1, 58, 160, 0, 51, 27, 42] := by decide +kernel
theorem dX12_tryRows_0 : decode cX12_tryRows 0 = .ok (.iload 4, 2) := do_21 (rdb (p := 0) (i := 0) ch_cX12_tryRows_0 rfl) (rdb (p := 0) (i := 1) ch_cX12_tryRows_0 rfl)
theorem dX12_tryRows_2 : decode cX12_tryRows 2 = .ok (.iload_n 3, 1) := do_29 (rdb (p := 0) (i := 2) ch_cX12_tryRows_0 rfl)
theorem dX12_tryRows_3 : decode cX12_tryRows 3 = .ok (.iconst (-1), 1) := do_2 (rdb (p := 0) (i := 3) ch_cX12_tryRows_0 rfl)
theorem dX12_tryRows_4 : decode cX12_tryRows 4 = .ok (.ixor, 1) := do_130 (rdb (p := 0) (i := 4) ch_cX12_tryRows_0 rfl)
theorem dX12_tryRows_5 : decode cX12_tryRows 5 = .ok (.iand, 1) := do_126 (rdb (p := 0) (i := 5) ch_cX12_tryRows_0 rfl)
theorem dX12_tryRows_6 : decode cX12_tryRows 6 = .ok (.ifCond .ne 77, 3) := do_154 (rdb (p := 0) (i := 6) ch_cX12_tryRows_0 rfl) (rdb (p := 0) (i := 7) ch_cX12_tryRows_0 rfl) (rdb (p := 0) (i := 8) ch_cX12_tryRows_0 rfl) (by decide +kernel)
theorem dX12_tryRows_9 : decode cX12_tryRows 9 = .ok (.aload_n 0, 1) := do_42 (rdb (p := 0) (i := 9) ch_cX12_tryRows_0 rfl)
theorem dX12_tryRows_10 : decode cX12_tryRows 10 = .ok (.getfield 311, 3) := do_180 (rdb (p := 0) (i := 10) ch_cX12_tryRows_0 rfl) (rdb (p := 0) (i := 11) ch_cX12_tryRows_0 rfl) (rdb (p := 0) (i := 12) ch_cX12_tryRows_0 rfl) rfl
theorem dX12_tryRows_13 : decode cX12_tryRows 13 = .ok (.ifCond .lt 29, 3) := do_155 (rdb (p := 0) (i := 13) ch_cX12_tryRows_0 rfl) (rdb (p := 0) (i := 14) ch_cX12_tryRows_0 rfl) (rdb (p := 0) (i := 15) ch_cX12_tryRows_0 rfl) (by decide +kernel)
theorem dX12_tryRows_16 : decode cX12_tryRows 16 = .ok (.iload 5, 2) := do_21 (rdb (p := 0) (i := 16) ch_cX12_tryRows_0 rfl) (rdb (p := 0) (i := 17) ch_cX12_tryRows_0 rfl)
theorem dX12_tryRows_18 : decode cX12_tryRows 18 = .ok (.aload_n 0, 1) := do_42 (rdb (p := 0) (i := 18) ch_cX12_tryRows_0 rfl)
theorem dX12_tryRows_19 : decode cX12_tryRows 19 = .ok (.getfield 314, 3) := do_180 (rdb (p := 0) (i := 19) ch_cX12_tryRows_0 rfl) (rdb (p := 0) (i := 20) ch_cX12_tryRows_0 rfl) (rdb (p := 0) (i := 21) ch_cX12_tryRows_0 rfl) rfl
theorem dX12_tryRows_22 : decode cX12_tryRows 22 = .ok (.if_icmp .lt 20, 3) := do_161 (rdb (p := 0) (i := 22) ch_cX12_tryRows_0 rfl) (rdb (p := 0) (i := 23) ch_cX12_tryRows_0 rfl) (rdb (p := 0) (i := 24) ch_cX12_tryRows_0 rfl) (by decide +kernel)
theorem dX12_tryRows_25 : decode cX12_tryRows 25 = .ok (.iload 5, 2) := do_21 (rdb (p := 0) (i := 25) ch_cX12_tryRows_0 rfl) (rdb (p := 0) (i := 26) ch_cX12_tryRows_0 rfl)
theorem dX12_tryRows_27 : decode cX12_tryRows 27 = .ok (.aload_n 0, 1) := do_42 (rdb (p := 0) (i := 27) ch_cX12_tryRows_0 rfl)
theorem dX12_tryRows_28 : decode cX12_tryRows 28 = .ok (.getfield 314, 3) := do_180 (rdb (p := 0) (i := 28) ch_cX12_tryRows_0 rfl) (rdb (p := 0) (i := 29) ch_cX12_tryRows_0 rfl) (rdb (p := 0) (i := 30) ch_cX12_tryRows_0 rfl) rfl
theorem dX12_tryRows_31 : decode cX12_tryRows 31 = .ok (.if_icmp .ne 51, 3) := do_160 (rdb (p := 0) (i := 31) ch_cX12_tryRows_0 rfl) (rdb (p := 0) (i := 32) ch_cX12_tryRows_0 rfl) (rdb (p := 0) (i := 33) ch_cX12_tryRows_0 rfl) (by decide +kernel)
theorem ch_cX12_tryRows_32 : (cX12_tryRows.data.toList.drop 32).take 36 = [0, 51, 27, 42, 180, 1, 55, 162, 0, 43, 42, 27, 181, 1, 55, 42, 21, 5, 181, 1, 58, 3, 54, 6, 21, 6, 27, 162, 0, 23, 42, 180, 0, 63, 21, 6] := by decide +kernel
theorem dX12_tryRows_34 : decode cX12_tryRows 34 = .ok (.iload_n 1, 1) := do_27 (rdb (p := 32) (i := 2) ch_cX12_tryRows_32 rfl)
theorem dX12_tryRows_35 : decode cX12_tryRows 35 = .ok (.aload_n 0, 1) := do_42 (rdb (p := 32) (i := 3) ch_cX12_tryRows_32 rfl)
theorem dX12_tryRows_36 : decode cX12_tryRows 36 = .ok (.getfield 311, 3) := do_180 (rdb (p := 32) (i := 4) ch_cX12_tryRows_32 rfl) (rdb (p := 32) (i := 5) ch_cX12_tryRows_32 rfl) (rdb (p := 32) (i := 6) ch_cX12_tryRows_32 rfl) rfl
theorem dX12_tryRows_39 : decode cX12_tryRows 39 = .ok (.if_icmp .ge 43, 3) := do_162 (rdb (p := 32) (i := 7) ch_cX12_tryRows_32 rfl) (rdb (p := 32) (i := 8) ch_cX12_tryRows_32 rfl) (rdb (p := 32) (i := 9) ch_cX12_tryRows_32 rfl) (by decide +kernel)
theorem dX12_tryRows_42 : decode cX12_tryRows 42 = .ok (.aload_n 0, 1) := do_42 (rdb (p := 32) (i := 10) ch_cX12_tryRows_32 rfl)
theorem dX12_tryRows_43 : decode cX12_tryRows 43 = .ok (.iload_n 1, 1) := do_27 (rdb (p := 32) (i := 11) ch_cX12_tryRows_32 rfl)
theorem dX12_tryRows_44 : decode cX12_tryRows 44 = .ok (.putfield 311, 3) := do_181 (rdb (p := 32) (i := 12) ch_cX12_tryRows_32 rfl) (rdb (p := 32) (i := 13) ch_cX12_tryRows_32 rfl) (rdb (p := 32) (i := 14) ch_cX12_tryRows_32 rfl) rfl
theorem dX12_tryRows_47 : decode cX12_tryRows 47 = .ok (.aload_n 0, 1) := do_42 (rdb (p := 32) (i := 15) ch_cX12_tryRows_32 rfl)
theorem dX12_tryRows_48 : decode cX12_tryRows 48 = .ok (.iload 5, 2) := do_21 (rdb (p := 32) (i := 16) ch_cX12_tryRows_32 rfl) (rdb (p := 32) (i := 17) ch_cX12_tryRows_32 rfl)
theorem dX12_tryRows_50 : decode cX12_tryRows 50 = .ok (.putfield 314, 3) := do_181 (rdb (p := 32) (i := 18) ch_cX12_tryRows_32 rfl) (rdb (p := 32) (i := 19) ch_cX12_tryRows_32 rfl) (rdb (p := 32) (i := 20) ch_cX12_tryRows_32 rfl) rfl
theorem dX12_tryRows_53 : decode cX12_tryRows 53 = .ok (.iconst 0, 1) := do_3 (rdb (p := 32) (i := 21) ch_cX12_tryRows_32 rfl)
theorem dX12_tryRows_54 : decode cX12_tryRows 54 = .ok (.istore 6, 2) := do_54 (rdb (p := 32) (i := 22) ch_cX12_tryRows_32 rfl) (rdb (p := 32) (i := 23) ch_cX12_tryRows_32 rfl)
theorem dX12_tryRows_56 : decode cX12_tryRows 56 = .ok (.iload 6, 2) := do_21 (rdb (p := 32) (i := 24) ch_cX12_tryRows_32 rfl) (rdb (p := 32) (i := 25) ch_cX12_tryRows_32 rfl)
theorem dX12_tryRows_58 : decode cX12_tryRows 58 = .ok (.iload_n 1, 1) := do_27 (rdb (p := 32) (i := 26) ch_cX12_tryRows_32 rfl)
theorem dX12_tryRows_59 : decode cX12_tryRows 59 = .ok (.if_icmp .ge 23, 3) := do_162 (rdb (p := 32) (i := 27) ch_cX12_tryRows_32 rfl) (rdb (p := 32) (i := 28) ch_cX12_tryRows_32 rfl) (rdb (p := 32) (i := 29) ch_cX12_tryRows_32 rfl) (by decide +kernel)
theorem dX12_tryRows_62 : decode cX12_tryRows 62 = .ok (.aload_n 0, 1) := do_42 (rdb (p := 32) (i := 30) ch_cX12_tryRows_32 rfl)
theorem dX12_tryRows_63 : decode cX12_tryRows 63 = .ok (.getfield 63, 3) := do_180 (rdb (p := 32) (i := 31) ch_cX12_tryRows_32 rfl) (rdb (p := 32) (i := 32) ch_cX12_tryRows_32 rfl) (rdb (p := 32) (i := 33) ch_cX12_tryRows_32 rfl) rfl
theorem ch_cX12_tryRows_64 : (cX12_tryRows.data.toList.drop 64).take 36 = [0, 63, 21, 6, 42, 180, 0, 60, 21, 6, 46, 79, 132, 6, 1, 167, 255, 233, 177, 3, 54, 6, 21, 6, 42, 180, 0, 9, 6, 46, 162, 0, 128, 28, 21, 6] := by decide +kernel
theorem dX12_tryRows_66 : decode cX12_tryRows 66 = .ok (.iload 6, 2) := do_21 (rdb (p := 64) (i := 2) ch_cX12_tryRows_64 rfl) (rdb (p := 64) (i := 3) ch_cX12_tryRows_64 rfl)
theorem dX12_tryRows_68 : decode cX12_tryRows 68 = .ok (.aload_n 0, 1) := do_42 (rdb (p := 64) (i := 4) ch_cX12_tryRows_64 rfl)
theorem dX12_tryRows_69 : decode cX12_tryRows 69 = .ok (.getfield 60, 3) := do_180 (rdb (p := 64) (i := 5) ch_cX12_tryRows_64 rfl) (rdb (p := 64) (i := 6) ch_cX12_tryRows_64 rfl) (rdb (p := 64) (i := 7) ch_cX12_tryRows_64 rfl) rfl
theorem dX12_tryRows_72 : decode cX12_tryRows 72 = .ok (.iload 6, 2) := do_21 (rdb (p := 64) (i := 8) ch_cX12_tryRows_64 rfl) (rdb (p := 64) (i := 9) ch_cX12_tryRows_64 rfl)
theorem dX12_tryRows_74 : decode cX12_tryRows 74 = .ok (.iaload, 1) := do_46 (rdb (p := 64) (i := 10) ch_cX12_tryRows_64 rfl)
theorem dX12_tryRows_75 : decode cX12_tryRows 75 = .ok (.iastore, 1) := do_79 (rdb (p := 64) (i := 11) ch_cX12_tryRows_64 rfl)
theorem dX12_tryRows_76 : decode cX12_tryRows 76 = .ok (.iinc 6 1, 3) := do_132 (rdb (p := 64) (i := 12) ch_cX12_tryRows_64 rfl) (rdb (p := 64) (i := 13) ch_cX12_tryRows_64 rfl) (rdb (p := 64) (i := 14) ch_cX12_tryRows_64 rfl) (by decide +kernel)
theorem dX12_tryRows_79 : decode cX12_tryRows 79 = .ok (.goto (-23), 3) := do_167 (rdb (p := 64) (i := 15) ch_cX12_tryRows_64 rfl) (rdb (p := 64) (i := 16) ch_cX12_tryRows_64 rfl) (rdb (p := 64) (i := 17) ch_cX12_tryRows_64 rfl) (by decide +kernel)
theorem dX12_tryRows_82 : decode cX12_tryRows 82 = .ok (.return_, 1) := do_177 (rdb (p := 64) (i := 18) ch_cX12_tryRows_64 rfl)
theorem dX12_tryRows_83 : decode cX12_tryRows 83 = .ok (.iconst 0, 1) := do_3 (rdb (p := 64) (i := 19) ch_cX12_tryRows_64 rfl)
theorem dX12_tryRows_84 : decode cX12_tryRows 84 = .ok (.istore 6, 2) := do_54 (rdb (p := 64) (i := 20) ch_cX12_tryRows_64 rfl) (rdb (p := 64) (i := 21) ch_cX12_tryRows_64 rfl)
theorem dX12_tryRows_86 : decode cX12_tryRows 86 = .ok (.iload 6, 2) := do_21 (rdb (p := 64) (i := 22) ch_cX12_tryRows_64 rfl) (rdb (p := 64) (i := 23) ch_cX12_tryRows_64 rfl)
theorem dX12_tryRows_88 : decode cX12_tryRows 88 = .ok (.aload_n 0, 1) := do_42 (rdb (p := 64) (i := 24) ch_cX12_tryRows_64 rfl)
theorem dX12_tryRows_89 : decode cX12_tryRows 89 = .ok (.getfield 9, 3) := do_180 (rdb (p := 64) (i := 25) ch_cX12_tryRows_64 rfl) (rdb (p := 64) (i := 26) ch_cX12_tryRows_64 rfl) (rdb (p := 64) (i := 27) ch_cX12_tryRows_64 rfl) rfl
theorem dX12_tryRows_92 : decode cX12_tryRows 92 = .ok (.iconst 3, 1) := do_6 (rdb (p := 64) (i := 28) ch_cX12_tryRows_64 rfl)
theorem dX12_tryRows_93 : decode cX12_tryRows 93 = .ok (.iaload, 1) := do_46 (rdb (p := 64) (i := 29) ch_cX12_tryRows_64 rfl)
theorem dX12_tryRows_94 : decode cX12_tryRows 94 = .ok (.if_icmp .ge 128, 3) := do_162 (rdb (p := 64) (i := 30) ch_cX12_tryRows_64 rfl) (rdb (p := 64) (i := 31) ch_cX12_tryRows_64 rfl) (rdb (p := 64) (i := 32) ch_cX12_tryRows_64 rfl) (by decide +kernel)
theorem ch_cX12_tryRows_96 : (cX12_tryRows.data.toList.drop 96).take 36 = [128, 28, 21, 6, 122, 4, 126, 154, 0, 113, 42, 180, 0, 9, 17, 0, 252, 6, 21, 6, 104, 96, 4, 96, 46, 29, 2, 130, 126, 154, 0, 91, 42, 180, 1, 55] := by decide +kernel
theorem dX12_tryRows_97 : decode cX12_tryRows 97 = .ok (.iload_n 2, 1) := do_28 (rdb (p := 96) (i := 1) ch_cX12_tryRows_96 rfl)
theorem dX12_tryRows_98 : decode cX12_tryRows 98 = .ok (.iload 6, 2) := do_21 (rdb (p := 96) (i := 2) ch_cX12_tryRows_96 rfl) (rdb (p := 96) (i := 3) ch_cX12_tryRows_96 rfl)
theorem dX12_tryRows_100 : decode cX12_tryRows 100 = .ok (.ishr, 1) := do_122 (rdb (p := 96) (i := 4) ch_cX12_tryRows_96 rfl)
theorem dX12_tryRows_101 : decode cX12_tryRows 101 = .ok (.iconst 1, 1) := do_4 (rdb (p := 96) (i := 5) ch_cX12_tryRows_96 rfl)
theorem dX12_tryRows_102 : decode cX12_tryRows 102 = .ok (.iand, 1) := do_126 (rdb (p := 96) (i := 6) ch_cX12_tryRows_96 rfl)
theorem dX12_tryRows_103 : decode cX12_tryRows 103 = .ok (.ifCond .ne 113, 3) := do_154 (rdb (p := 96) (i := 7) ch_cX12_tryRows_96 rfl) (rdb (p := 96) (i := 8) ch_cX12_tryRows_96 rfl) (rdb (p := 96) (i := 9) ch_cX12_tryRows_96 rfl) (by decide +kernel)
theorem dX12_tryRows_106 : decode cX12_tryRows 106 = .ok (.aload_n 0, 1) := do_42 (rdb (p := 96) (i := 10) ch_cX12_tryRows_96 rfl)
theorem dX12_tryRows_107 : decode cX12_tryRows 107 = .ok (.getfield 9, 3) := do_180 (rdb (p := 96) (i := 11) ch_cX12_tryRows_96 rfl) (rdb (p := 96) (i := 12) ch_cX12_tryRows_96 rfl) (rdb (p := 96) (i := 13) ch_cX12_tryRows_96 rfl) rfl
theorem dX12_tryRows_110 : decode cX12_tryRows 110 = .ok (.sipush 252, 3) := do_17 (rdb (p := 96) (i := 14) ch_cX12_tryRows_96 rfl) (rdb (p := 96) (i := 15) ch_cX12_tryRows_96 rfl) (rdb (p := 96) (i := 16) ch_cX12_tryRows_96 rfl) (by decide +kernel)
theorem dX12_tryRows_113 : decode cX12_tryRows 113 = .ok (.iconst 3, 1) := do_6 (rdb (p := 96) (i := 17) ch_cX12_tryRows_96 rfl)
theorem dX12_tryRows_114 : decode cX12_tryRows 114 = .ok (.iload 6, 2) := do_21 (rdb (p := 96) (i := 18) ch_cX12_tryRows_96 rfl) (rdb (p := 96) (i := 19) ch_cX12_tryRows_96 rfl)
theorem dX12_tryRows_116 : decode cX12_tryRows 116 = .ok (.imul, 1) := do_104 (rdb (p := 96) (i := 20) ch_cX12_tryRows_96 rfl)
theorem dX12_tryRows_117 : decode cX12_tryRows 117 = .ok (.iadd, 1) := do_96 (rdb (p := 96) (i := 21) ch_cX12_tryRows_96 rfl)
theorem dX12_tryRows_118 : decode cX12_tryRows 118 = .ok (.iconst 1, 1) := do_4 (rdb (p := 96) (i := 22) ch_cX12_tryRows_96 rfl)
theorem dX12_tryRows_119 : decode cX12_tryRows 119 = .ok (.iadd, 1) := do_96 (rdb (p := 96) (i := 23) ch_cX12_tryRows_96 rfl)
theorem dX12_tryRows_120 : decode cX12_tryRows 120 = .ok (.iaload, 1) := do_46 (rdb (p := 96) (i := 24) ch_cX12_tryRows_96 rfl)
theorem dX12_tryRows_121 : decode cX12_tryRows 121 = .ok (.iload_n 3, 1) := do_29 (rdb (p := 96) (i := 25) ch_cX12_tryRows_96 rfl)
theorem dX12_tryRows_122 : decode cX12_tryRows 122 = .ok (.iconst (-1), 1) := do_2 (rdb (p := 96) (i := 26) ch_cX12_tryRows_96 rfl)
theorem dX12_tryRows_123 : decode cX12_tryRows 123 = .ok (.ixor, 1) := do_130 (rdb (p := 96) (i := 27) ch_cX12_tryRows_96 rfl)
theorem dX12_tryRows_124 : decode cX12_tryRows 124 = .ok (.iand, 1) := do_126 (rdb (p := 96) (i := 28) ch_cX12_tryRows_96 rfl)
theorem dX12_tryRows_125 : decode cX12_tryRows 125 = .ok (.ifCond .ne 91, 3) := do_154 (rdb (p := 96) (i := 29) ch_cX12_tryRows_96 rfl) (rdb (p := 96) (i := 30) ch_cX12_tryRows_96 rfl) (rdb (p := 96) (i := 31) ch_cX12_tryRows_96 rfl) (by decide +kernel)
theorem ch_cX12_tryRows_128 : (cX12_tryRows.data.toList.drop 128).take 36 = [42, 180, 1, 55, 155, 0, 28, 21, 5, 42, 180, 0, 9, 17, 0, 252, 6, 21, 6, 104, 96, 5, 96, 46, 96, 42, 180, 1, 58, 163, 0, 59, 42, 180, 0, 60] := by decide +kernel
theorem dX12_tryRows_128 : decode cX12_tryRows 128 = .ok (.aload_n 0, 1) := do_42 (rdb (p := 128) (i := 0) ch_cX12_tryRows_128 rfl)
theorem dX12_tryRows_129 : decode cX12_tryRows 129 = .ok (.getfield 311, 3) := do_180 (rdb (p := 128) (i := 1) ch_cX12_tryRows_128 rfl) (rdb (p := 128) (i := 2) ch_cX12_tryRows_128 rfl) (rdb (p := 128) (i := 3) ch_cX12_tryRows_128 rfl) rfl
theorem dX12_tryRows_132 : decode cX12_tryRows 132 = .ok (.ifCond .lt 28, 3) := do_155 (rdb (p := 128) (i := 4) ch_cX12_tryRows_128 rfl) (rdb (p := 128) (i := 5) ch_cX12_tryRows_128 rfl) (rdb (p := 128) (i := 6) ch_cX12_tryRows_128 rfl) (by decide +kernel)
theorem dX12_tryRows_135 : decode cX12_tryRows 135 = .ok (.iload 5, 2) := do_21 (rdb (p := 128) (i := 7) ch_cX12_tryRows_128 rfl) (rdb (p := 128) (i := 8) ch_cX12_tryRows_128 rfl)
theorem dX12_tryRows_137 : decode cX12_tryRows 137 = .ok (.aload_n 0, 1) := do_42 (rdb (p := 128) (i := 9) ch_cX12_tryRows_128 rfl)
theorem dX12_tryRows_138 : decode cX12_tryRows 138 = .ok (.getfield 9, 3) := do_180 (rdb (p := 128) (i := 10) ch_cX12_tryRows_128 rfl) (rdb (p := 128) (i := 11) ch_cX12_tryRows_128 rfl) (rdb (p := 128) (i := 12) ch_cX12_tryRows_128 rfl) rfl
theorem dX12_tryRows_141 : decode cX12_tryRows 141 = .ok (.sipush 252, 3) := do_17 (rdb (p := 128) (i := 13) ch_cX12_tryRows_128 rfl) (rdb (p := 128) (i := 14) ch_cX12_tryRows_128 rfl) (rdb (p := 128) (i := 15) ch_cX12_tryRows_128 rfl) (by decide +kernel)
theorem dX12_tryRows_144 : decode cX12_tryRows 144 = .ok (.iconst 3, 1) := do_6 (rdb (p := 128) (i := 16) ch_cX12_tryRows_128 rfl)
theorem dX12_tryRows_145 : decode cX12_tryRows 145 = .ok (.iload 6, 2) := do_21 (rdb (p := 128) (i := 17) ch_cX12_tryRows_128 rfl) (rdb (p := 128) (i := 18) ch_cX12_tryRows_128 rfl)
theorem dX12_tryRows_147 : decode cX12_tryRows 147 = .ok (.imul, 1) := do_104 (rdb (p := 128) (i := 19) ch_cX12_tryRows_128 rfl)
theorem dX12_tryRows_148 : decode cX12_tryRows 148 = .ok (.iadd, 1) := do_96 (rdb (p := 128) (i := 20) ch_cX12_tryRows_128 rfl)
theorem dX12_tryRows_149 : decode cX12_tryRows 149 = .ok (.iconst 2, 1) := do_5 (rdb (p := 128) (i := 21) ch_cX12_tryRows_128 rfl)
theorem dX12_tryRows_150 : decode cX12_tryRows 150 = .ok (.iadd, 1) := do_96 (rdb (p := 128) (i := 22) ch_cX12_tryRows_128 rfl)
theorem dX12_tryRows_151 : decode cX12_tryRows 151 = .ok (.iaload, 1) := do_46 (rdb (p := 128) (i := 23) ch_cX12_tryRows_128 rfl)
theorem dX12_tryRows_152 : decode cX12_tryRows 152 = .ok (.iadd, 1) := do_96 (rdb (p := 128) (i := 24) ch_cX12_tryRows_128 rfl)
theorem dX12_tryRows_153 : decode cX12_tryRows 153 = .ok (.aload_n 0, 1) := do_42 (rdb (p := 128) (i := 25) ch_cX12_tryRows_128 rfl)
theorem dX12_tryRows_154 : decode cX12_tryRows 154 = .ok (.getfield 314, 3) := do_180 (rdb (p := 128) (i := 26) ch_cX12_tryRows_128 rfl) (rdb (p := 128) (i := 27) ch_cX12_tryRows_128 rfl) (rdb (p := 128) (i := 28) ch_cX12_tryRows_128 rfl) rfl
theorem dX12_tryRows_157 : decode cX12_tryRows 157 = .ok (.if_icmp .gt 59, 3) := do_163 (rdb (p := 128) (i := 29) ch_cX12_tryRows_128 rfl) (rdb (p := 128) (i := 30) ch_cX12_tryRows_128 rfl) (rdb (p := 128) (i := 31) ch_cX12_tryRows_128 rfl) (by decide +kernel)
theorem ch_cX12_tryRows_160 : (cX12_tryRows.data.toList.drop 160).take 36 = [42, 180, 0, 60, 27, 21, 6, 79, 42, 27, 4, 96, 28, 4, 21, 6, 120, 128, 29, 42, 180, 0, 9, 17, 0, 252, 6, 21, 6, 104, 96, 46, 128, 21, 4, 21] := by decide +kernel
theorem dX12_tryRows_160 : decode cX12_tryRows 160 = .ok (.aload_n 0, 1) := do_42 (rdb (p := 160) (i := 0) ch_cX12_tryRows_160 rfl)
theorem dX12_tryRows_161 : decode cX12_tryRows 161 = .ok (.getfield 60, 3) := do_180 (rdb (p := 160) (i := 1) ch_cX12_tryRows_160 rfl) (rdb (p := 160) (i := 2) ch_cX12_tryRows_160 rfl) (rdb (p := 160) (i := 3) ch_cX12_tryRows_160 rfl) rfl
theorem dX12_tryRows_164 : decode cX12_tryRows 164 = .ok (.iload_n 1, 1) := do_27 (rdb (p := 160) (i := 4) ch_cX12_tryRows_160 rfl)
theorem dX12_tryRows_165 : decode cX12_tryRows 165 = .ok (.iload 6, 2) := do_21 (rdb (p := 160) (i := 5) ch_cX12_tryRows_160 rfl) (rdb (p := 160) (i := 6) ch_cX12_tryRows_160 rfl)
theorem dX12_tryRows_167 : decode cX12_tryRows 167 = .ok (.iastore, 1) := do_79 (rdb (p := 160) (i := 7) ch_cX12_tryRows_160 rfl)
theorem dX12_tryRows_168 : decode cX12_tryRows 168 = .ok (.aload_n 0, 1) := do_42 (rdb (p := 160) (i := 8) ch_cX12_tryRows_160 rfl)
theorem dX12_tryRows_169 : decode cX12_tryRows 169 = .ok (.iload_n 1, 1) := do_27 (rdb (p := 160) (i := 9) ch_cX12_tryRows_160 rfl)
theorem dX12_tryRows_170 : decode cX12_tryRows 170 = .ok (.iconst 1, 1) := do_4 (rdb (p := 160) (i := 10) ch_cX12_tryRows_160 rfl)
theorem dX12_tryRows_171 : decode cX12_tryRows 171 = .ok (.iadd, 1) := do_96 (rdb (p := 160) (i := 11) ch_cX12_tryRows_160 rfl)
theorem dX12_tryRows_172 : decode cX12_tryRows 172 = .ok (.iload_n 2, 1) := do_28 (rdb (p := 160) (i := 12) ch_cX12_tryRows_160 rfl)
theorem dX12_tryRows_173 : decode cX12_tryRows 173 = .ok (.iconst 1, 1) := do_4 (rdb (p := 160) (i := 13) ch_cX12_tryRows_160 rfl)
theorem dX12_tryRows_174 : decode cX12_tryRows 174 = .ok (.iload 6, 2) := do_21 (rdb (p := 160) (i := 14) ch_cX12_tryRows_160 rfl) (rdb (p := 160) (i := 15) ch_cX12_tryRows_160 rfl)
theorem dX12_tryRows_176 : decode cX12_tryRows 176 = .ok (.ishl, 1) := do_120 (rdb (p := 160) (i := 16) ch_cX12_tryRows_160 rfl)
theorem dX12_tryRows_177 : decode cX12_tryRows 177 = .ok (.ior, 1) := do_128 (rdb (p := 160) (i := 17) ch_cX12_tryRows_160 rfl)
theorem dX12_tryRows_178 : decode cX12_tryRows 178 = .ok (.iload_n 3, 1) := do_29 (rdb (p := 160) (i := 18) ch_cX12_tryRows_160 rfl)
theorem dX12_tryRows_179 : decode cX12_tryRows 179 = .ok (.aload_n 0, 1) := do_42 (rdb (p := 160) (i := 19) ch_cX12_tryRows_160 rfl)
theorem dX12_tryRows_180 : decode cX12_tryRows 180 = .ok (.getfield 9, 3) := do_180 (rdb (p := 160) (i := 20) ch_cX12_tryRows_160 rfl) (rdb (p := 160) (i := 21) ch_cX12_tryRows_160 rfl) (rdb (p := 160) (i := 22) ch_cX12_tryRows_160 rfl) rfl
theorem dX12_tryRows_183 : decode cX12_tryRows 183 = .ok (.sipush 252, 3) := do_17 (rdb (p := 160) (i := 23) ch_cX12_tryRows_160 rfl) (rdb (p := 160) (i := 24) ch_cX12_tryRows_160 rfl) (rdb (p := 160) (i := 25) ch_cX12_tryRows_160 rfl) (by decide +kernel)
theorem dX12_tryRows_186 : decode cX12_tryRows 186 = .ok (.iconst 3, 1) := do_6 (rdb (p := 160) (i := 26) ch_cX12_tryRows_160 rfl)
theorem dX12_tryRows_187 : decode cX12_tryRows 187 = .ok (.iload 6, 2) := do_21 (rdb (p := 160) (i := 27) ch_cX12_tryRows_160 rfl) (rdb (p := 160) (i := 28) ch_cX12_tryRows_160 rfl)
theorem dX12_tryRows_189 : decode cX12_tryRows 189 = .ok (.imul, 1) := do_104 (rdb (p := 160) (i := 29) ch_cX12_tryRows_160 rfl)
theorem dX12_tryRows_190 : decode cX12_tryRows 190 = .ok (.iadd, 1) := do_96 (rdb (p := 160) (i := 30) ch_cX12_tryRows_160 rfl)
theorem dX12_tryRows_191 : decode cX12_tryRows 191 = .ok (.iaload, 1) := do_46 (rdb (p := 160) (i := 31) ch_cX12_tryRows_160 rfl)
theorem ch_cX12_tryRows_192 : (cX12_tryRows.data.toList.drop 192).take 36 = [128, 21, 4, 21, 5, 42, 180, 0, 9, 17, 0, 252, 6, 21, 6, 104, 96, 5, 96, 46, 96, 182, 1, 61, 132, 6, 1, 167, 255, 123, 177] := by decide +kernel
theorem dX12_tryRows_192 : decode cX12_tryRows 192 = .ok (.ior, 1) := do_128 (rdb (p := 192) (i := 0) ch_cX12_tryRows_192 rfl)
theorem dX12_tryRows_193 : decode cX12_tryRows 193 = .ok (.iload 4, 2) := do_21 (rdb (p := 192) (i := 1) ch_cX12_tryRows_192 rfl) (rdb (p := 192) (i := 2) ch_cX12_tryRows_192 rfl)
theorem dX12_tryRows_195 : decode cX12_tryRows 195 = .ok (.iload 5, 2) := do_21 (rdb (p := 192) (i := 3) ch_cX12_tryRows_192 rfl) (rdb (p := 192) (i := 4) ch_cX12_tryRows_192 rfl)
theorem dX12_tryRows_197 : decode cX12_tryRows 197 = .ok (.aload_n 0, 1) := do_42 (rdb (p := 192) (i := 5) ch_cX12_tryRows_192 rfl)
theorem dX12_tryRows_198 : decode cX12_tryRows 198 = .ok (.getfield 9, 3) := do_180 (rdb (p := 192) (i := 6) ch_cX12_tryRows_192 rfl) (rdb (p := 192) (i := 7) ch_cX12_tryRows_192 rfl) (rdb (p := 192) (i := 8) ch_cX12_tryRows_192 rfl) rfl
theorem dX12_tryRows_201 : decode cX12_tryRows 201 = .ok (.sipush 252, 3) := do_17 (rdb (p := 192) (i := 9) ch_cX12_tryRows_192 rfl) (rdb (p := 192) (i := 10) ch_cX12_tryRows_192 rfl) (rdb (p := 192) (i := 11) ch_cX12_tryRows_192 rfl) (by decide +kernel)
theorem dX12_tryRows_204 : decode cX12_tryRows 204 = .ok (.iconst 3, 1) := do_6 (rdb (p := 192) (i := 12) ch_cX12_tryRows_192 rfl)
theorem dX12_tryRows_205 : decode cX12_tryRows 205 = .ok (.iload 6, 2) := do_21 (rdb (p := 192) (i := 13) ch_cX12_tryRows_192 rfl) (rdb (p := 192) (i := 14) ch_cX12_tryRows_192 rfl)
theorem dX12_tryRows_207 : decode cX12_tryRows 207 = .ok (.imul, 1) := do_104 (rdb (p := 192) (i := 15) ch_cX12_tryRows_192 rfl)
theorem dX12_tryRows_208 : decode cX12_tryRows 208 = .ok (.iadd, 1) := do_96 (rdb (p := 192) (i := 16) ch_cX12_tryRows_192 rfl)
theorem dX12_tryRows_209 : decode cX12_tryRows 209 = .ok (.iconst 2, 1) := do_5 (rdb (p := 192) (i := 17) ch_cX12_tryRows_192 rfl)
theorem dX12_tryRows_210 : decode cX12_tryRows 210 = .ok (.iadd, 1) := do_96 (rdb (p := 192) (i := 18) ch_cX12_tryRows_192 rfl)
theorem dX12_tryRows_211 : decode cX12_tryRows 211 = .ok (.iaload, 1) := do_46 (rdb (p := 192) (i := 19) ch_cX12_tryRows_192 rfl)
theorem dX12_tryRows_212 : decode cX12_tryRows 212 = .ok (.iadd, 1) := do_96 (rdb (p := 192) (i := 20) ch_cX12_tryRows_192 rfl)
theorem dX12_tryRows_213 : decode cX12_tryRows 213 = .ok (.invokevirtual 317, 3) := do_182 (rdb (p := 192) (i := 21) ch_cX12_tryRows_192 rfl) (rdb (p := 192) (i := 22) ch_cX12_tryRows_192 rfl) (rdb (p := 192) (i := 23) ch_cX12_tryRows_192 rfl) rfl
theorem dX12_tryRows_216 : decode cX12_tryRows 216 = .ok (.iinc 6 1, 3) := do_132 (rdb (p := 192) (i := 24) ch_cX12_tryRows_192 rfl) (rdb (p := 192) (i := 25) ch_cX12_tryRows_192 rfl) (rdb (p := 192) (i := 26) ch_cX12_tryRows_192 rfl) (by decide +kernel)
theorem dX12_tryRows_219 : decode cX12_tryRows 219 = .ok (.goto (-133), 3) := do_167 (rdb (p := 192) (i := 27) ch_cX12_tryRows_192 rfl) (rdb (p := 192) (i := 28) ch_cX12_tryRows_192 rfl) (rdb (p := 192) (i := 29) ch_cX12_tryRows_192 rfl) (by decide +kernel)
theorem dX12_tryRows_222 : decode cX12_tryRows 222 = .ok (.return_, 1) := do_177 (rdb (p := 192) (i := 30) ch_cX12_tryRows_192 rfl)
