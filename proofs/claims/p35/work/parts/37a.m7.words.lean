/-! words of the tables that are used, by their places; decode rows; fields -/
theorem li_321 : (321 : Int32).toInt = 321 := by decide
theorem m_77 : Cond.selects yX12_sumOf.cls yX12_sumOf yX12_sumOf ∈ BASE := bmem 77 (by decide +kernel) rfl
theorem m_1348 : Cond.fieldLink RX12 69 "ClickStreetModel" "trace" "[I" ∈ BASE := bmem 1348 (by decide +kernel) rfl
theorem m_1349 : Cond.fieldLink RX12 324 "ClickStreetModel" "traced" "I" ∈ BASE := bmem 1349 (by decide +kernel) rfl
theorem m_1355 : Cond.fieldLink RX12 81 "ClickStreetModel" "carried" "[I" ∈ BASE := bmem 1355 (by decide +kernel) rfl
theorem m_1862 : Cond.methodLink RX12 356 yX12_sumOf ∈ BASE := bmem 1862 (by decide +kernel) rfl
theorem m_1864 : Cond.instanceMethod yX12_sumOf ∈ BASE := bmem 1864 (by decide +kernel) rfl
theorem m_1865 : Cond.code yX12_sumOf cX12_sumOf 4 (some .int) ∈ BASE := bmem 1865 (by decide +kernel) rfl
theorem kV_X12_sumOf : KV yX12_sumOf cX12_sumOf 4 (some .int) 1 := ⟨m_1864, m_77, m_92, m_1865, by decide +kernel, by decide +kernel, by decide +kernel⟩
theorem fl_RX12_324 : FLK RX12 324 12 26 .int false := ⟨RX12, TX12, 33, tyX12, rfl, inB12, tyX12_ok, nmX12, by decide, rfl, rfl, Or.inl m_1349⟩
theorem fl_RX12_69 : FLK RX12 69 12 25 (.array .int) true := ⟨RX12, TX12, 33, tyX12, rfl, inB12, tyX12_ok, nmX12, by decide, rfl, rfl, Or.inl m_1348⟩
theorem fl_RX12_81 : FLK RX12 81 12 32 (.array .int) true := ⟨RX12, TX12, 33, tyX12, rfl, inB12, tyX12_ok, nmX12, by decide, rfl, rfl, Or.inl m_1355⟩
theorem dX12_began_0 : decode cX12_began 0 = .ok (.aload_n 0, 1) := by decide +kernel
theorem dX12_began_1 : decode cX12_began 1 = .ok (.getfield 324, 3) := by decide +kernel
theorem dX12_began_4 : decode cX12_began 4 = .ok (.bipush 30, 2) := by decide +kernel
theorem dX12_began_6 : decode cX12_began 6 = .ok (.if_icmp .ge 23, 3) := by decide +kernel
theorem dX12_began_9 : decode cX12_began 9 = .ok (.aload_n 0, 1) := by decide +kernel
theorem dX12_began_10 : decode cX12_began 10 = .ok (.getfield 69, 3) := by decide +kernel
theorem dX12_began_13 : decode cX12_began 13 = .ok (.aload_n 0, 1) := by decide +kernel
theorem dX12_began_14 : decode cX12_began 14 = .ok (.getfield 324, 3) := by decide +kernel
theorem dX12_began_17 : decode cX12_began 17 = .ok (.iload_n 1, 1) := by decide +kernel
theorem dX12_began_18 : decode cX12_began 18 = .ok (.iastore, 1) := by decide +kernel
theorem dX12_began_19 : decode cX12_began 19 = .ok (.aload_n 0, 1) := by decide +kernel
theorem dX12_began_20 : decode cX12_began 20 = .ok (.dup, 1) := by decide +kernel
theorem dX12_began_21 : decode cX12_began 21 = .ok (.getfield 324, 3) := by decide +kernel
theorem dX12_began_24 : decode cX12_began 24 = .ok (.iconst 1, 1) := by decide +kernel
theorem dX12_began_25 : decode cX12_began 25 = .ok (.iadd, 1) := by decide +kernel
theorem dX12_began_26 : decode cX12_began 26 = .ok (.putfield 324, 3) := by decide +kernel
theorem dX12_began_29 : decode cX12_began 29 = .ok (.return_, 1) := by decide +kernel
theorem ch_cX12_count_0 : (cX12_count.data.toList.drop 0).take 36 = [3, 61, 27, 170, 0, 0, 0, 146, 0, 0, 0, 0, 0, 0, 0, 8, 0, 0, 0, 49, 0, 0, 0, 56, 0, 0, 0, 99, 0, 0, 0, 106, 0, 0, 0, 113] := by decide +kernel
theorem dX12_count_0 : decode cX12_count 0 = .ok (.iconst 0, 1) := do_3 (rdb (p := 0) (i := 0) ch_cX12_count_0 rfl)
theorem dX12_count_1 : decode cX12_count 1 = .ok (.istore_n 2, 1) := do_61 (rdb (p := 0) (i := 1) ch_cX12_count_0 rfl)
theorem dX12_count_2 : decode cX12_count 2 = .ok (.iload_n 1, 1) := do_27 (rdb (p := 0) (i := 2) ch_cX12_count_0 rfl)
theorem dX12_count_3 : decode cX12_count 3 = .ok (.tableswitch 146 0 8 #[49, 56, 99, 106, 113, 120, 127, 132, 139], 49) := by decide +kernel
theorem ch_cX12_count_32 : (cX12_count.data.toList.drop 32).take 36 = [0, 0, 0, 113, 0, 0, 0, 120, 0, 0, 0, 127, 0, 0, 0, 132, 0, 0, 0, 139, 42, 180, 0, 9, 3, 46, 172, 3, 62, 29, 42, 180, 0, 9, 4, 46] := by decide +kernel
theorem dX12_count_52 : decode cX12_count 52 = .ok (.aload_n 0, 1) := do_42 (rdb (p := 32) (i := 20) ch_cX12_count_32 rfl)
theorem dX12_count_53 : decode cX12_count 53 = .ok (.getfield 9, 3) := do_180 (rdb (p := 32) (i := 21) ch_cX12_count_32 rfl) (rdb (p := 32) (i := 22) ch_cX12_count_32 rfl) (rdb (p := 32) (i := 23) ch_cX12_count_32 rfl) rfl
theorem dX12_count_56 : decode cX12_count 56 = .ok (.iconst 0, 1) := do_3 (rdb (p := 32) (i := 24) ch_cX12_count_32 rfl)
theorem dX12_count_57 : decode cX12_count 57 = .ok (.iaload, 1) := do_46 (rdb (p := 32) (i := 25) ch_cX12_count_32 rfl)
theorem dX12_count_58 : decode cX12_count 58 = .ok (.ireturn, 1) := do_172 (rdb (p := 32) (i := 26) ch_cX12_count_32 rfl)
theorem dX12_count_59 : decode cX12_count 59 = .ok (.iconst 0, 1) := do_3 (rdb (p := 32) (i := 27) ch_cX12_count_32 rfl)
theorem dX12_count_60 : decode cX12_count 60 = .ok (.istore_n 3, 1) := do_62 (rdb (p := 32) (i := 28) ch_cX12_count_32 rfl)
theorem dX12_count_61 : decode cX12_count 61 = .ok (.iload_n 3, 1) := do_29 (rdb (p := 32) (i := 29) ch_cX12_count_32 rfl)
theorem dX12_count_62 : decode cX12_count 62 = .ok (.aload_n 0, 1) := do_42 (rdb (p := 32) (i := 30) ch_cX12_count_32 rfl)
theorem dX12_count_63 : decode cX12_count 63 = .ok (.getfield 9, 3) := do_180 (rdb (p := 32) (i := 31) ch_cX12_count_32 rfl) (rdb (p := 32) (i := 32) ch_cX12_count_32 rfl) (rdb (p := 32) (i := 33) ch_cX12_count_32 rfl) rfl
theorem ch_cX12_count_64 : (cX12_count.data.toList.drop 64).take 36 = [0, 9, 4, 46, 162, 0, 32, 28, 42, 180, 0, 9, 42, 29, 182, 0, 89, 4, 96, 46, 155, 0, 7, 4, 167, 0, 4, 3, 96, 61, 132, 3, 1, 167, 255, 220] := by decide +kernel
theorem dX12_count_66 : decode cX12_count 66 = .ok (.iconst 1, 1) := do_4 (rdb (p := 64) (i := 2) ch_cX12_count_64 rfl)
theorem dX12_count_67 : decode cX12_count 67 = .ok (.iaload, 1) := do_46 (rdb (p := 64) (i := 3) ch_cX12_count_64 rfl)
theorem dX12_count_68 : decode cX12_count 68 = .ok (.if_icmp .ge 32, 3) := do_162 (rdb (p := 64) (i := 4) ch_cX12_count_64 rfl) (rdb (p := 64) (i := 5) ch_cX12_count_64 rfl) (rdb (p := 64) (i := 6) ch_cX12_count_64 rfl) (by decide +kernel)
theorem dX12_count_71 : decode cX12_count 71 = .ok (.iload_n 2, 1) := do_28 (rdb (p := 64) (i := 7) ch_cX12_count_64 rfl)
theorem dX12_count_72 : decode cX12_count 72 = .ok (.aload_n 0, 1) := do_42 (rdb (p := 64) (i := 8) ch_cX12_count_64 rfl)
theorem dX12_count_73 : decode cX12_count 73 = .ok (.getfield 9, 3) := do_180 (rdb (p := 64) (i := 9) ch_cX12_count_64 rfl) (rdb (p := 64) (i := 10) ch_cX12_count_64 rfl) (rdb (p := 64) (i := 11) ch_cX12_count_64 rfl) rfl
theorem dX12_count_76 : decode cX12_count 76 = .ok (.aload_n 0, 1) := do_42 (rdb (p := 64) (i := 12) ch_cX12_count_64 rfl)
theorem dX12_count_77 : decode cX12_count 77 = .ok (.iload_n 3, 1) := do_29 (rdb (p := 64) (i := 13) ch_cX12_count_64 rfl)
theorem dX12_count_78 : decode cX12_count 78 = .ok (.invokevirtual 89, 3) := do_182 (rdb (p := 64) (i := 14) ch_cX12_count_64 rfl) (rdb (p := 64) (i := 15) ch_cX12_count_64 rfl) (rdb (p := 64) (i := 16) ch_cX12_count_64 rfl) rfl
theorem dX12_count_81 : decode cX12_count 81 = .ok (.iconst 1, 1) := do_4 (rdb (p := 64) (i := 17) ch_cX12_count_64 rfl)
theorem dX12_count_82 : decode cX12_count 82 = .ok (.iadd, 1) := do_96 (rdb (p := 64) (i := 18) ch_cX12_count_64 rfl)
theorem dX12_count_83 : decode cX12_count 83 = .ok (.iaload, 1) := do_46 (rdb (p := 64) (i := 19) ch_cX12_count_64 rfl)
theorem dX12_count_84 : decode cX12_count 84 = .ok (.ifCond .lt 7, 3) := do_155 (rdb (p := 64) (i := 20) ch_cX12_count_64 rfl) (rdb (p := 64) (i := 21) ch_cX12_count_64 rfl) (rdb (p := 64) (i := 22) ch_cX12_count_64 rfl) (by decide +kernel)
theorem dX12_count_87 : decode cX12_count 87 = .ok (.iconst 1, 1) := do_4 (rdb (p := 64) (i := 23) ch_cX12_count_64 rfl)
theorem dX12_count_88 : decode cX12_count 88 = .ok (.goto 4, 3) := do_167 (rdb (p := 64) (i := 24) ch_cX12_count_64 rfl) (rdb (p := 64) (i := 25) ch_cX12_count_64 rfl) (rdb (p := 64) (i := 26) ch_cX12_count_64 rfl) (by decide +kernel)
theorem dX12_count_91 : decode cX12_count 91 = .ok (.iconst 0, 1) := do_3 (rdb (p := 64) (i := 27) ch_cX12_count_64 rfl)
theorem dX12_count_92 : decode cX12_count 92 = .ok (.iadd, 1) := do_96 (rdb (p := 64) (i := 28) ch_cX12_count_64 rfl)
theorem dX12_count_93 : decode cX12_count 93 = .ok (.istore_n 2, 1) := do_61 (rdb (p := 64) (i := 29) ch_cX12_count_64 rfl)
theorem dX12_count_94 : decode cX12_count 94 = .ok (.iinc 3 1, 3) := do_132 (rdb (p := 64) (i := 30) ch_cX12_count_64 rfl) (rdb (p := 64) (i := 31) ch_cX12_count_64 rfl) (rdb (p := 64) (i := 32) ch_cX12_count_64 rfl) (by decide +kernel)
theorem ch_cX12_count_96 : (cX12_count.data.toList.drop 96).take 36 = [1, 167, 255, 220, 28, 172, 42, 180, 0, 9, 5, 46, 172, 42, 180, 0, 9, 6, 46, 172, 42, 180, 0, 9, 7, 46, 172, 42, 180, 0, 9, 8, 46, 172, 42, 180] := by decide +kernel
theorem dX12_count_97 : decode cX12_count 97 = .ok (.goto (-36), 3) := do_167 (rdb (p := 96) (i := 1) ch_cX12_count_96 rfl) (rdb (p := 96) (i := 2) ch_cX12_count_96 rfl) (rdb (p := 96) (i := 3) ch_cX12_count_96 rfl) (by decide +kernel)
theorem dX12_count_100 : decode cX12_count 100 = .ok (.iload_n 2, 1) := do_28 (rdb (p := 96) (i := 4) ch_cX12_count_96 rfl)
theorem dX12_count_101 : decode cX12_count 101 = .ok (.ireturn, 1) := do_172 (rdb (p := 96) (i := 5) ch_cX12_count_96 rfl)
theorem dX12_count_102 : decode cX12_count 102 = .ok (.aload_n 0, 1) := do_42 (rdb (p := 96) (i := 6) ch_cX12_count_96 rfl)
theorem dX12_count_103 : decode cX12_count 103 = .ok (.getfield 9, 3) := do_180 (rdb (p := 96) (i := 7) ch_cX12_count_96 rfl) (rdb (p := 96) (i := 8) ch_cX12_count_96 rfl) (rdb (p := 96) (i := 9) ch_cX12_count_96 rfl) rfl
theorem dX12_count_106 : decode cX12_count 106 = .ok (.iconst 2, 1) := do_5 (rdb (p := 96) (i := 10) ch_cX12_count_96 rfl)
theorem dX12_count_107 : decode cX12_count 107 = .ok (.iaload, 1) := do_46 (rdb (p := 96) (i := 11) ch_cX12_count_96 rfl)
theorem dX12_count_108 : decode cX12_count 108 = .ok (.ireturn, 1) := do_172 (rdb (p := 96) (i := 12) ch_cX12_count_96 rfl)
theorem dX12_count_109 : decode cX12_count 109 = .ok (.aload_n 0, 1) := do_42 (rdb (p := 96) (i := 13) ch_cX12_count_96 rfl)
theorem dX12_count_110 : decode cX12_count 110 = .ok (.getfield 9, 3) := do_180 (rdb (p := 96) (i := 14) ch_cX12_count_96 rfl) (rdb (p := 96) (i := 15) ch_cX12_count_96 rfl) (rdb (p := 96) (i := 16) ch_cX12_count_96 rfl) rfl
theorem dX12_count_113 : decode cX12_count 113 = .ok (.iconst 3, 1) := do_6 (rdb (p := 96) (i := 17) ch_cX12_count_96 rfl)
theorem dX12_count_114 : decode cX12_count 114 = .ok (.iaload, 1) := do_46 (rdb (p := 96) (i := 18) ch_cX12_count_96 rfl)
theorem dX12_count_115 : decode cX12_count 115 = .ok (.ireturn, 1) := do_172 (rdb (p := 96) (i := 19) ch_cX12_count_96 rfl)
theorem dX12_count_116 : decode cX12_count 116 = .ok (.aload_n 0, 1) := do_42 (rdb (p := 96) (i := 20) ch_cX12_count_96 rfl)
theorem dX12_count_117 : decode cX12_count 117 = .ok (.getfield 9, 3) := do_180 (rdb (p := 96) (i := 21) ch_cX12_count_96 rfl) (rdb (p := 96) (i := 22) ch_cX12_count_96 rfl) (rdb (p := 96) (i := 23) ch_cX12_count_96 rfl) rfl
theorem dX12_count_120 : decode cX12_count 120 = .ok (.iconst 4, 1) := do_7 (rdb (p := 96) (i := 24) ch_cX12_count_96 rfl)
theorem dX12_count_121 : decode cX12_count 121 = .ok (.iaload, 1) := do_46 (rdb (p := 96) (i := 25) ch_cX12_count_96 rfl)
theorem dX12_count_122 : decode cX12_count 122 = .ok (.ireturn, 1) := do_172 (rdb (p := 96) (i := 26) ch_cX12_count_96 rfl)
theorem dX12_count_123 : decode cX12_count 123 = .ok (.aload_n 0, 1) := do_42 (rdb (p := 96) (i := 27) ch_cX12_count_96 rfl)
theorem dX12_count_124 : decode cX12_count 124 = .ok (.getfield 9, 3) := do_180 (rdb (p := 96) (i := 28) ch_cX12_count_96 rfl) (rdb (p := 96) (i := 29) ch_cX12_count_96 rfl) (rdb (p := 96) (i := 30) ch_cX12_count_96 rfl) rfl
theorem dX12_count_127 : decode cX12_count 127 = .ok (.iconst 5, 1) := do_8 (rdb (p := 96) (i := 31) ch_cX12_count_96 rfl)
theorem ch_cX12_count_128 : (cX12_count.data.toList.drop 128).take 36 = [46, 172, 42, 180, 1, 68, 172, 42, 16, 7, 182, 1, 100, 172, 42, 16, 8, 182, 1, 100, 172, 42, 18, 103, 182, 0, 104, 172] := by decide +kernel
theorem dX12_count_128 : decode cX12_count 128 = .ok (.iaload, 1) := do_46 (rdb (p := 128) (i := 0) ch_cX12_count_128 rfl)
theorem dX12_count_129 : decode cX12_count 129 = .ok (.ireturn, 1) := do_172 (rdb (p := 128) (i := 1) ch_cX12_count_128 rfl)
theorem dX12_count_130 : decode cX12_count 130 = .ok (.aload_n 0, 1) := do_42 (rdb (p := 128) (i := 2) ch_cX12_count_128 rfl)
theorem dX12_count_131 : decode cX12_count 131 = .ok (.getfield 324, 3) := do_180 (rdb (p := 128) (i := 3) ch_cX12_count_128 rfl) (rdb (p := 128) (i := 4) ch_cX12_count_128 rfl) (rdb (p := 128) (i := 5) ch_cX12_count_128 rfl) rfl
theorem dX12_count_134 : decode cX12_count 134 = .ok (.ireturn, 1) := do_172 (rdb (p := 128) (i := 6) ch_cX12_count_128 rfl)
theorem dX12_count_135 : decode cX12_count 135 = .ok (.aload_n 0, 1) := do_42 (rdb (p := 128) (i := 7) ch_cX12_count_128 rfl)
theorem dX12_count_136 : decode cX12_count 136 = .ok (.bipush 7, 2) := do_16 (rdb (p := 128) (i := 8) ch_cX12_count_128 rfl) (rdb (p := 128) (i := 9) ch_cX12_count_128 rfl) (by decide +kernel)
theorem dX12_count_138 : decode cX12_count 138 = .ok (.invokevirtual 356, 3) := do_182 (rdb (p := 128) (i := 10) ch_cX12_count_128 rfl) (rdb (p := 128) (i := 11) ch_cX12_count_128 rfl) (rdb (p := 128) (i := 12) ch_cX12_count_128 rfl) rfl
theorem dX12_count_141 : decode cX12_count 141 = .ok (.ireturn, 1) := do_172 (rdb (p := 128) (i := 13) ch_cX12_count_128 rfl)
theorem dX12_count_142 : decode cX12_count 142 = .ok (.aload_n 0, 1) := do_42 (rdb (p := 128) (i := 14) ch_cX12_count_128 rfl)
theorem dX12_count_143 : decode cX12_count 143 = .ok (.bipush 8, 2) := do_16 (rdb (p := 128) (i := 15) ch_cX12_count_128 rfl) (rdb (p := 128) (i := 16) ch_cX12_count_128 rfl) (by decide +kernel)
theorem dX12_count_145 : decode cX12_count 145 = .ok (.invokevirtual 356, 3) := do_182 (rdb (p := 128) (i := 17) ch_cX12_count_128 rfl) (rdb (p := 128) (i := 18) ch_cX12_count_128 rfl) (rdb (p := 128) (i := 19) ch_cX12_count_128 rfl) rfl
theorem dX12_count_148 : decode cX12_count 148 = .ok (.ireturn, 1) := do_172 (rdb (p := 128) (i := 20) ch_cX12_count_128 rfl)
theorem dX12_count_149 : decode cX12_count 149 = .ok (.aload_n 0, 1) := do_42 (rdb (p := 128) (i := 21) ch_cX12_count_128 rfl)
theorem dX12_count_150 : decode cX12_count 150 = .ok (.ldc 103, 2) := do_18 (rdb (p := 128) (i := 22) ch_cX12_count_128 rfl) (rdb (p := 128) (i := 23) ch_cX12_count_128 rfl)
theorem dX12_count_152 : decode cX12_count 152 = .ok (.invokevirtual 104, 3) := do_182 (rdb (p := 128) (i := 24) ch_cX12_count_128 rfl) (rdb (p := 128) (i := 25) ch_cX12_count_128 rfl) (rdb (p := 128) (i := 26) ch_cX12_count_128 rfl) rfl
theorem dX12_count_155 : decode cX12_count 155 = .ok (.ireturn, 1) := do_172 (rdb (p := 128) (i := 27) ch_cX12_count_128 rfl)
theorem ch_cX12_move_0 : (cX12_move.data.toList.drop 0).take 36 = [27, 184, 0, 127, 153, 0, 10, 29, 184, 0, 127, 154, 0, 10, 42, 18, 103, 182, 0, 104, 172, 42, 180, 0, 72, 27, 46, 153, 0, 12, 42, 180, 0, 72, 29, 46] := by decide +kernel
theorem dX12_move_0 : decode cX12_move 0 = .ok (.iload_n 1, 1) := do_27 (rdb (p := 0) (i := 0) ch_cX12_move_0 rfl)
theorem dX12_move_1 : decode cX12_move 1 = .ok (.invokestatic 127, 3) := do_184 (rdb (p := 0) (i := 1) ch_cX12_move_0 rfl) (rdb (p := 0) (i := 2) ch_cX12_move_0 rfl) (rdb (p := 0) (i := 3) ch_cX12_move_0 rfl) rfl
theorem dX12_move_4 : decode cX12_move 4 = .ok (.ifCond .eq 10, 3) := do_153 (rdb (p := 0) (i := 4) ch_cX12_move_0 rfl) (rdb (p := 0) (i := 5) ch_cX12_move_0 rfl) (rdb (p := 0) (i := 6) ch_cX12_move_0 rfl) (by decide +kernel)
theorem dX12_move_7 : decode cX12_move 7 = .ok (.iload_n 3, 1) := do_29 (rdb (p := 0) (i := 7) ch_cX12_move_0 rfl)
theorem dX12_move_8 : decode cX12_move 8 = .ok (.invokestatic 127, 3) := do_184 (rdb (p := 0) (i := 8) ch_cX12_move_0 rfl) (rdb (p := 0) (i := 9) ch_cX12_move_0 rfl) (rdb (p := 0) (i := 10) ch_cX12_move_0 rfl) rfl
theorem dX12_move_11 : decode cX12_move 11 = .ok (.ifCond .ne 10, 3) := do_154 (rdb (p := 0) (i := 11) ch_cX12_move_0 rfl) (rdb (p := 0) (i := 12) ch_cX12_move_0 rfl) (rdb (p := 0) (i := 13) ch_cX12_move_0 rfl) (by decide +kernel)
theorem dX12_move_14 : decode cX12_move 14 = .ok (.aload_n 0, 1) := do_42 (rdb (p := 0) (i := 14) ch_cX12_move_0 rfl)
theorem dX12_move_15 : decode cX12_move 15 = .ok (.ldc 103, 2) := do_18 (rdb (p := 0) (i := 15) ch_cX12_move_0 rfl) (rdb (p := 0) (i := 16) ch_cX12_move_0 rfl)
theorem dX12_move_17 : decode cX12_move 17 = .ok (.invokevirtual 104, 3) := do_182 (rdb (p := 0) (i := 17) ch_cX12_move_0 rfl) (rdb (p := 0) (i := 18) ch_cX12_move_0 rfl) (rdb (p := 0) (i := 19) ch_cX12_move_0 rfl) rfl
theorem dX12_move_20 : decode cX12_move 20 = .ok (.ireturn, 1) := do_172 (rdb (p := 0) (i := 20) ch_cX12_move_0 rfl)
theorem dX12_move_21 : decode cX12_move 21 = .ok (.aload_n 0, 1) := do_42 (rdb (p := 0) (i := 21) ch_cX12_move_0 rfl)
theorem dX12_move_22 : decode cX12_move 22 = .ok (.getfield 72, 3) := do_180 (rdb (p := 0) (i := 22) ch_cX12_move_0 rfl) (rdb (p := 0) (i := 23) ch_cX12_move_0 rfl) (rdb (p := 0) (i := 24) ch_cX12_move_0 rfl) rfl
theorem dX12_move_25 : decode cX12_move 25 = .ok (.iload_n 1, 1) := do_27 (rdb (p := 0) (i := 25) ch_cX12_move_0 rfl)
theorem dX12_move_26 : decode cX12_move 26 = .ok (.iaload, 1) := do_46 (rdb (p := 0) (i := 26) ch_cX12_move_0 rfl)
theorem dX12_move_27 : decode cX12_move 27 = .ok (.ifCond .eq 12, 3) := do_153 (rdb (p := 0) (i := 27) ch_cX12_move_0 rfl) (rdb (p := 0) (i := 28) ch_cX12_move_0 rfl) (rdb (p := 0) (i := 29) ch_cX12_move_0 rfl) (by decide +kernel)
theorem dX12_move_30 : decode cX12_move 30 = .ok (.aload_n 0, 1) := do_42 (rdb (p := 0) (i := 30) ch_cX12_move_0 rfl)
theorem dX12_move_31 : decode cX12_move 31 = .ok (.getfield 72, 3) := do_180 (rdb (p := 0) (i := 31) ch_cX12_move_0 rfl) (rdb (p := 0) (i := 32) ch_cX12_move_0 rfl) (rdb (p := 0) (i := 33) ch_cX12_move_0 rfl) rfl
theorem ch_cX12_move_32 : (cX12_move.data.toList.drop 32).take 36 = [0, 72, 29, 46, 154, 0, 10, 42, 18, 130, 182, 0, 104, 172, 42, 180, 0, 72, 27, 46, 42, 180, 0, 72, 29, 46, 159, 0, 10, 42, 18, 123, 182, 0, 104, 172] := by decide +kernel
theorem dX12_move_34 : decode cX12_move 34 = .ok (.iload_n 3, 1) := do_29 (rdb (p := 32) (i := 2) ch_cX12_move_32 rfl)
theorem dX12_move_35 : decode cX12_move 35 = .ok (.iaload, 1) := do_46 (rdb (p := 32) (i := 3) ch_cX12_move_32 rfl)
theorem dX12_move_36 : decode cX12_move 36 = .ok (.ifCond .ne 10, 3) := do_154 (rdb (p := 32) (i := 4) ch_cX12_move_32 rfl) (rdb (p := 32) (i := 5) ch_cX12_move_32 rfl) (rdb (p := 32) (i := 6) ch_cX12_move_32 rfl) (by decide +kernel)
theorem dX12_move_39 : decode cX12_move 39 = .ok (.aload_n 0, 1) := do_42 (rdb (p := 32) (i := 7) ch_cX12_move_32 rfl)
theorem dX12_move_40 : decode cX12_move 40 = .ok (.ldc 130, 2) := do_18 (rdb (p := 32) (i := 8) ch_cX12_move_32 rfl) (rdb (p := 32) (i := 9) ch_cX12_move_32 rfl)
theorem dX12_move_42 : decode cX12_move 42 = .ok (.invokevirtual 104, 3) := do_182 (rdb (p := 32) (i := 10) ch_cX12_move_32 rfl) (rdb (p := 32) (i := 11) ch_cX12_move_32 rfl) (rdb (p := 32) (i := 12) ch_cX12_move_32 rfl) rfl
theorem dX12_move_45 : decode cX12_move 45 = .ok (.ireturn, 1) := do_172 (rdb (p := 32) (i := 13) ch_cX12_move_32 rfl)
theorem dX12_move_46 : decode cX12_move 46 = .ok (.aload_n 0, 1) := do_42 (rdb (p := 32) (i := 14) ch_cX12_move_32 rfl)
theorem dX12_move_47 : decode cX12_move 47 = .ok (.getfield 72, 3) := do_180 (rdb (p := 32) (i := 15) ch_cX12_move_32 rfl) (rdb (p := 32) (i := 16) ch_cX12_move_32 rfl) (rdb (p := 32) (i := 17) ch_cX12_move_32 rfl) rfl
theorem dX12_move_50 : decode cX12_move 50 = .ok (.iload_n 1, 1) := do_27 (rdb (p := 32) (i := 18) ch_cX12_move_32 rfl)
theorem dX12_move_51 : decode cX12_move 51 = .ok (.iaload, 1) := do_46 (rdb (p := 32) (i := 19) ch_cX12_move_32 rfl)
theorem dX12_move_52 : decode cX12_move 52 = .ok (.aload_n 0, 1) := do_42 (rdb (p := 32) (i := 20) ch_cX12_move_32 rfl)
theorem dX12_move_53 : decode cX12_move 53 = .ok (.getfield 72, 3) := do_180 (rdb (p := 32) (i := 21) ch_cX12_move_32 rfl) (rdb (p := 32) (i := 22) ch_cX12_move_32 rfl) (rdb (p := 32) (i := 23) ch_cX12_move_32 rfl) rfl
theorem dX12_move_56 : decode cX12_move 56 = .ok (.iload_n 3, 1) := do_29 (rdb (p := 32) (i := 24) ch_cX12_move_32 rfl)
theorem dX12_move_57 : decode cX12_move 57 = .ok (.iaload, 1) := do_46 (rdb (p := 32) (i := 25) ch_cX12_move_32 rfl)
theorem dX12_move_58 : decode cX12_move 58 = .ok (.if_icmp .eq 10, 3) := do_159 (rdb (p := 32) (i := 26) ch_cX12_move_32 rfl) (rdb (p := 32) (i := 27) ch_cX12_move_32 rfl) (rdb (p := 32) (i := 28) ch_cX12_move_32 rfl) (by decide +kernel)
theorem dX12_move_61 : decode cX12_move 61 = .ok (.aload_n 0, 1) := do_42 (rdb (p := 32) (i := 29) ch_cX12_move_32 rfl)
theorem dX12_move_62 : decode cX12_move 62 = .ok (.ldc 123, 2) := do_18 (rdb (p := 32) (i := 30) ch_cX12_move_32 rfl) (rdb (p := 32) (i := 31) ch_cX12_move_32 rfl)
theorem ch_cX12_move_64 : (cX12_move.data.toList.drop 64).take 36 = [182, 0, 104, 172, 21, 5, 155, 0, 47, 28, 155, 0, 43, 21, 4, 155, 0, 38, 28, 133, 21, 5, 133, 97, 42, 180, 0, 75, 27, 46, 133, 148, 157, 0, 21, 21] := by decide +kernel
theorem dX12_move_64 : decode cX12_move 64 = .ok (.invokevirtual 104, 3) := do_182 (rdb (p := 64) (i := 0) ch_cX12_move_64 rfl) (rdb (p := 64) (i := 1) ch_cX12_move_64 rfl) (rdb (p := 64) (i := 2) ch_cX12_move_64 rfl) rfl
theorem dX12_move_67 : decode cX12_move 67 = .ok (.ireturn, 1) := do_172 (rdb (p := 64) (i := 3) ch_cX12_move_64 rfl)
theorem dX12_move_68 : decode cX12_move 68 = .ok (.iload 5, 2) := do_21 (rdb (p := 64) (i := 4) ch_cX12_move_64 rfl) (rdb (p := 64) (i := 5) ch_cX12_move_64 rfl)
theorem dX12_move_70 : decode cX12_move 70 = .ok (.ifCond .lt 47, 3) := do_155 (rdb (p := 64) (i := 6) ch_cX12_move_64 rfl) (rdb (p := 64) (i := 7) ch_cX12_move_64 rfl) (rdb (p := 64) (i := 8) ch_cX12_move_64 rfl) (by decide +kernel)
theorem dX12_move_73 : decode cX12_move 73 = .ok (.iload_n 2, 1) := do_28 (rdb (p := 64) (i := 9) ch_cX12_move_64 rfl)
theorem dX12_move_74 : decode cX12_move 74 = .ok (.ifCond .lt 43, 3) := do_155 (rdb (p := 64) (i := 10) ch_cX12_move_64 rfl) (rdb (p := 64) (i := 11) ch_cX12_move_64 rfl) (rdb (p := 64) (i := 12) ch_cX12_move_64 rfl) (by decide +kernel)
theorem dX12_move_77 : decode cX12_move 77 = .ok (.iload 4, 2) := do_21 (rdb (p := 64) (i := 13) ch_cX12_move_64 rfl) (rdb (p := 64) (i := 14) ch_cX12_move_64 rfl)
theorem dX12_move_79 : decode cX12_move 79 = .ok (.ifCond .lt 38, 3) := do_155 (rdb (p := 64) (i := 15) ch_cX12_move_64 rfl) (rdb (p := 64) (i := 16) ch_cX12_move_64 rfl) (rdb (p := 64) (i := 17) ch_cX12_move_64 rfl) (by decide +kernel)
theorem dX12_move_82 : decode cX12_move 82 = .ok (.iload_n 2, 1) := do_28 (rdb (p := 64) (i := 18) ch_cX12_move_64 rfl)
theorem dX12_move_83 : decode cX12_move 83 = .ok (.i2l, 1) := do_133 (rdb (p := 64) (i := 19) ch_cX12_move_64 rfl)
theorem dX12_move_84 : decode cX12_move 84 = .ok (.iload 5, 2) := do_21 (rdb (p := 64) (i := 20) ch_cX12_move_64 rfl) (rdb (p := 64) (i := 21) ch_cX12_move_64 rfl)
theorem dX12_move_86 : decode cX12_move 86 = .ok (.i2l, 1) := do_133 (rdb (p := 64) (i := 22) ch_cX12_move_64 rfl)
theorem dX12_move_87 : decode cX12_move 87 = .ok (.ladd, 1) := do_97 (rdb (p := 64) (i := 23) ch_cX12_move_64 rfl)
theorem dX12_move_88 : decode cX12_move 88 = .ok (.aload_n 0, 1) := do_42 (rdb (p := 64) (i := 24) ch_cX12_move_64 rfl)
theorem dX12_move_89 : decode cX12_move 89 = .ok (.getfield 75, 3) := do_180 (rdb (p := 64) (i := 25) ch_cX12_move_64 rfl) (rdb (p := 64) (i := 26) ch_cX12_move_64 rfl) (rdb (p := 64) (i := 27) ch_cX12_move_64 rfl) rfl
theorem dX12_move_92 : decode cX12_move 92 = .ok (.iload_n 1, 1) := do_27 (rdb (p := 64) (i := 28) ch_cX12_move_64 rfl)
theorem dX12_move_93 : decode cX12_move 93 = .ok (.iaload, 1) := do_46 (rdb (p := 64) (i := 29) ch_cX12_move_64 rfl)
theorem dX12_move_94 : decode cX12_move 94 = .ok (.i2l, 1) := do_133 (rdb (p := 64) (i := 30) ch_cX12_move_64 rfl)
theorem dX12_move_95 : decode cX12_move 95 = .ok (.lcmp, 1) := do_148 (rdb (p := 64) (i := 31) ch_cX12_move_64 rfl)
theorem ch_cX12_move_96 : (cX12_move.data.toList.drop 96).take 36 = [157, 0, 21, 21, 4, 133, 21, 5, 133, 97, 42, 180, 0, 75, 29, 46, 133, 148, 158, 0, 10, 42, 18, 103, 182, 0, 104, 172, 3, 54, 6, 21, 6, 21, 5, 162] := by decide +kernel
theorem dX12_move_96 : decode cX12_move 96 = .ok (.ifCond .gt 21, 3) := do_157 (rdb (p := 96) (i := 0) ch_cX12_move_96 rfl) (rdb (p := 96) (i := 1) ch_cX12_move_96 rfl) (rdb (p := 96) (i := 2) ch_cX12_move_96 rfl) (by decide +kernel)
theorem dX12_move_99 : decode cX12_move 99 = .ok (.iload 4, 2) := do_21 (rdb (p := 96) (i := 3) ch_cX12_move_96 rfl) (rdb (p := 96) (i := 4) ch_cX12_move_96 rfl)
theorem dX12_move_101 : decode cX12_move 101 = .ok (.i2l, 1) := do_133 (rdb (p := 96) (i := 5) ch_cX12_move_96 rfl)
theorem dX12_move_102 : decode cX12_move 102 = .ok (.iload 5, 2) := do_21 (rdb (p := 96) (i := 6) ch_cX12_move_96 rfl) (rdb (p := 96) (i := 7) ch_cX12_move_96 rfl)
theorem dX12_move_104 : decode cX12_move 104 = .ok (.i2l, 1) := do_133 (rdb (p := 96) (i := 8) ch_cX12_move_96 rfl)
theorem dX12_move_105 : decode cX12_move 105 = .ok (.ladd, 1) := do_97 (rdb (p := 96) (i := 9) ch_cX12_move_96 rfl)
theorem dX12_move_106 : decode cX12_move 106 = .ok (.aload_n 0, 1) := do_42 (rdb (p := 96) (i := 10) ch_cX12_move_96 rfl)
theorem dX12_move_107 : decode cX12_move 107 = .ok (.getfield 75, 3) := do_180 (rdb (p := 96) (i := 11) ch_cX12_move_96 rfl) (rdb (p := 96) (i := 12) ch_cX12_move_96 rfl) (rdb (p := 96) (i := 13) ch_cX12_move_96 rfl) rfl
theorem dX12_move_110 : decode cX12_move 110 = .ok (.iload_n 3, 1) := do_29 (rdb (p := 96) (i := 14) ch_cX12_move_96 rfl)
theorem dX12_move_111 : decode cX12_move 111 = .ok (.iaload, 1) := do_46 (rdb (p := 96) (i := 15) ch_cX12_move_96 rfl)
theorem dX12_move_112 : decode cX12_move 112 = .ok (.i2l, 1) := do_133 (rdb (p := 96) (i := 16) ch_cX12_move_96 rfl)
theorem dX12_move_113 : decode cX12_move 113 = .ok (.lcmp, 1) := do_148 (rdb (p := 96) (i := 17) ch_cX12_move_96 rfl)
theorem dX12_move_114 : decode cX12_move 114 = .ok (.ifCond .le 10, 3) := do_158 (rdb (p := 96) (i := 18) ch_cX12_move_96 rfl) (rdb (p := 96) (i := 19) ch_cX12_move_96 rfl) (rdb (p := 96) (i := 20) ch_cX12_move_96 rfl) (by decide +kernel)
theorem dX12_move_117 : decode cX12_move 117 = .ok (.aload_n 0, 1) := do_42 (rdb (p := 96) (i := 21) ch_cX12_move_96 rfl)
theorem dX12_move_118 : decode cX12_move 118 = .ok (.ldc 103, 2) := do_18 (rdb (p := 96) (i := 22) ch_cX12_move_96 rfl) (rdb (p := 96) (i := 23) ch_cX12_move_96 rfl)
theorem dX12_move_120 : decode cX12_move 120 = .ok (.invokevirtual 104, 3) := do_182 (rdb (p := 96) (i := 24) ch_cX12_move_96 rfl) (rdb (p := 96) (i := 25) ch_cX12_move_96 rfl) (rdb (p := 96) (i := 26) ch_cX12_move_96 rfl) rfl
theorem dX12_move_123 : decode cX12_move 123 = .ok (.ireturn, 1) := do_172 (rdb (p := 96) (i := 27) ch_cX12_move_96 rfl)
theorem dX12_move_124 : decode cX12_move 124 = .ok (.iconst 0, 1) := do_3 (rdb (p := 96) (i := 28) ch_cX12_move_96 rfl)
theorem dX12_move_125 : decode cX12_move 125 = .ok (.istore 6, 2) := do_54 (rdb (p := 96) (i := 29) ch_cX12_move_96 rfl) (rdb (p := 96) (i := 30) ch_cX12_move_96 rfl)
theorem dX12_move_127 : decode cX12_move 127 = .ok (.iload 6, 2) := do_21 (rdb (p := 96) (i := 31) ch_cX12_move_96 rfl) (rdb (p := 96) (i := 32) ch_cX12_move_96 rfl)
theorem ch_cX12_move_128 : (cX12_move.data.toList.drop 128).take 36 = [6, 21, 5, 162, 0, 30, 42, 180, 0, 81, 21, 6, 42, 180, 0, 78, 16, 24, 27, 104, 28, 96, 21, 6, 96, 46, 79, 132, 6, 1, 167, 255, 225, 3, 54, 6] := by decide +kernel
theorem dX12_move_129 : decode cX12_move 129 = .ok (.iload 5, 2) := do_21 (rdb (p := 128) (i := 1) ch_cX12_move_128 rfl) (rdb (p := 128) (i := 2) ch_cX12_move_128 rfl)
theorem dX12_move_131 : decode cX12_move 131 = .ok (.if_icmp .ge 30, 3) := do_162 (rdb (p := 128) (i := 3) ch_cX12_move_128 rfl) (rdb (p := 128) (i := 4) ch_cX12_move_128 rfl) (rdb (p := 128) (i := 5) ch_cX12_move_128 rfl) (by decide +kernel)
theorem dX12_move_134 : decode cX12_move 134 = .ok (.aload_n 0, 1) := do_42 (rdb (p := 128) (i := 6) ch_cX12_move_128 rfl)
theorem dX12_move_135 : decode cX12_move 135 = .ok (.getfield 81, 3) := do_180 (rdb (p := 128) (i := 7) ch_cX12_move_128 rfl) (rdb (p := 128) (i := 8) ch_cX12_move_128 rfl) (rdb (p := 128) (i := 9) ch_cX12_move_128 rfl) rfl
theorem dX12_move_138 : decode cX12_move 138 = .ok (.iload 6, 2) := do_21 (rdb (p := 128) (i := 10) ch_cX12_move_128 rfl) (rdb (p := 128) (i := 11) ch_cX12_move_128 rfl)
theorem dX12_move_140 : decode cX12_move 140 = .ok (.aload_n 0, 1) := do_42 (rdb (p := 128) (i := 12) ch_cX12_move_128 rfl)
theorem dX12_move_141 : decode cX12_move 141 = .ok (.getfield 78, 3) := do_180 (rdb (p := 128) (i := 13) ch_cX12_move_128 rfl) (rdb (p := 128) (i := 14) ch_cX12_move_128 rfl) (rdb (p := 128) (i := 15) ch_cX12_move_128 rfl) rfl
theorem dX12_move_144 : decode cX12_move 144 = .ok (.bipush 24, 2) := do_16 (rdb (p := 128) (i := 16) ch_cX12_move_128 rfl) (rdb (p := 128) (i := 17) ch_cX12_move_128 rfl) (by decide +kernel)
theorem dX12_move_146 : decode cX12_move 146 = .ok (.iload_n 1, 1) := do_27 (rdb (p := 128) (i := 18) ch_cX12_move_128 rfl)
theorem dX12_move_147 : decode cX12_move 147 = .ok (.imul, 1) := do_104 (rdb (p := 128) (i := 19) ch_cX12_move_128 rfl)
theorem dX12_move_148 : decode cX12_move 148 = .ok (.iload_n 2, 1) := do_28 (rdb (p := 128) (i := 20) ch_cX12_move_128 rfl)
theorem dX12_move_149 : decode cX12_move 149 = .ok (.iadd, 1) := do_96 (rdb (p := 128) (i := 21) ch_cX12_move_128 rfl)
theorem dX12_move_150 : decode cX12_move 150 = .ok (.iload 6, 2) := do_21 (rdb (p := 128) (i := 22) ch_cX12_move_128 rfl) (rdb (p := 128) (i := 23) ch_cX12_move_128 rfl)
theorem dX12_move_152 : decode cX12_move 152 = .ok (.iadd, 1) := do_96 (rdb (p := 128) (i := 24) ch_cX12_move_128 rfl)
theorem dX12_move_153 : decode cX12_move 153 = .ok (.iaload, 1) := do_46 (rdb (p := 128) (i := 25) ch_cX12_move_128 rfl)
theorem dX12_move_154 : decode cX12_move 154 = .ok (.iastore, 1) := do_79 (rdb (p := 128) (i := 26) ch_cX12_move_128 rfl)
theorem dX12_move_155 : decode cX12_move 155 = .ok (.iinc 6 1, 3) := do_132 (rdb (p := 128) (i := 27) ch_cX12_move_128 rfl) (rdb (p := 128) (i := 28) ch_cX12_move_128 rfl) (rdb (p := 128) (i := 29) ch_cX12_move_128 rfl) (by decide +kernel)
theorem dX12_move_158 : decode cX12_move 158 = .ok (.goto (-31), 3) := do_167 (rdb (p := 128) (i := 30) ch_cX12_move_128 rfl) (rdb (p := 128) (i := 31) ch_cX12_move_128 rfl) (rdb (p := 128) (i := 32) ch_cX12_move_128 rfl) (by decide +kernel)
theorem ch_cX12_move_160 : (cX12_move.data.toList.drop 160).take 36 = [225, 3, 54, 6, 21, 6, 21, 5, 162, 0, 31, 42, 180, 0, 78, 16, 24, 29, 104, 21, 4, 96, 21, 6, 96, 42, 180, 0, 81, 21, 6, 46, 79, 132, 6, 1] := by decide +kernel
theorem dX12_move_161 : decode cX12_move 161 = .ok (.iconst 0, 1) := do_3 (rdb (p := 160) (i := 1) ch_cX12_move_160 rfl)
theorem dX12_move_162 : decode cX12_move 162 = .ok (.istore 6, 2) := do_54 (rdb (p := 160) (i := 2) ch_cX12_move_160 rfl) (rdb (p := 160) (i := 3) ch_cX12_move_160 rfl)
theorem dX12_move_164 : decode cX12_move 164 = .ok (.iload 6, 2) := do_21 (rdb (p := 160) (i := 4) ch_cX12_move_160 rfl) (rdb (p := 160) (i := 5) ch_cX12_move_160 rfl)
theorem dX12_move_166 : decode cX12_move 166 = .ok (.iload 5, 2) := do_21 (rdb (p := 160) (i := 6) ch_cX12_move_160 rfl) (rdb (p := 160) (i := 7) ch_cX12_move_160 rfl)
theorem dX12_move_168 : decode cX12_move 168 = .ok (.if_icmp .ge 31, 3) := do_162 (rdb (p := 160) (i := 8) ch_cX12_move_160 rfl) (rdb (p := 160) (i := 9) ch_cX12_move_160 rfl) (rdb (p := 160) (i := 10) ch_cX12_move_160 rfl) (by decide +kernel)
theorem dX12_move_171 : decode cX12_move 171 = .ok (.aload_n 0, 1) := do_42 (rdb (p := 160) (i := 11) ch_cX12_move_160 rfl)
theorem dX12_move_172 : decode cX12_move 172 = .ok (.getfield 78, 3) := do_180 (rdb (p := 160) (i := 12) ch_cX12_move_160 rfl) (rdb (p := 160) (i := 13) ch_cX12_move_160 rfl) (rdb (p := 160) (i := 14) ch_cX12_move_160 rfl) rfl
theorem dX12_move_175 : decode cX12_move 175 = .ok (.bipush 24, 2) := do_16 (rdb (p := 160) (i := 15) ch_cX12_move_160 rfl) (rdb (p := 160) (i := 16) ch_cX12_move_160 rfl) (by decide +kernel)
theorem dX12_move_177 : decode cX12_move 177 = .ok (.iload_n 3, 1) := do_29 (rdb (p := 160) (i := 17) ch_cX12_move_160 rfl)
theorem dX12_move_178 : decode cX12_move 178 = .ok (.imul, 1) := do_104 (rdb (p := 160) (i := 18) ch_cX12_move_160 rfl)
theorem dX12_move_179 : decode cX12_move 179 = .ok (.iload 4, 2) := do_21 (rdb (p := 160) (i := 19) ch_cX12_move_160 rfl) (rdb (p := 160) (i := 20) ch_cX12_move_160 rfl)
theorem dX12_move_181 : decode cX12_move 181 = .ok (.iadd, 1) := do_96 (rdb (p := 160) (i := 21) ch_cX12_move_160 rfl)
theorem dX12_move_182 : decode cX12_move 182 = .ok (.iload 6, 2) := do_21 (rdb (p := 160) (i := 22) ch_cX12_move_160 rfl) (rdb (p := 160) (i := 23) ch_cX12_move_160 rfl)
theorem dX12_move_184 : decode cX12_move 184 = .ok (.iadd, 1) := do_96 (rdb (p := 160) (i := 24) ch_cX12_move_160 rfl)
theorem dX12_move_185 : decode cX12_move 185 = .ok (.aload_n 0, 1) := do_42 (rdb (p := 160) (i := 25) ch_cX12_move_160 rfl)
theorem dX12_move_186 : decode cX12_move 186 = .ok (.getfield 81, 3) := do_180 (rdb (p := 160) (i := 26) ch_cX12_move_160 rfl) (rdb (p := 160) (i := 27) ch_cX12_move_160 rfl) (rdb (p := 160) (i := 28) ch_cX12_move_160 rfl) rfl
theorem dX12_move_189 : decode cX12_move 189 = .ok (.iload 6, 2) := do_21 (rdb (p := 160) (i := 29) ch_cX12_move_160 rfl) (rdb (p := 160) (i := 30) ch_cX12_move_160 rfl)
theorem dX12_move_191 : decode cX12_move 191 = .ok (.iaload, 1) := do_46 (rdb (p := 160) (i := 31) ch_cX12_move_160 rfl)
theorem ch_cX12_move_192 : (cX12_move.data.toList.drop 192).take 36 = [79, 132, 6, 1, 167, 255, 224, 21, 5, 172] := by decide +kernel
theorem dX12_move_192 : decode cX12_move 192 = .ok (.iastore, 1) := do_79 (rdb (p := 192) (i := 0) ch_cX12_move_192 rfl)
theorem dX12_move_193 : decode cX12_move 193 = .ok (.iinc 6 1, 3) := do_132 (rdb (p := 192) (i := 1) ch_cX12_move_192 rfl) (rdb (p := 192) (i := 2) ch_cX12_move_192 rfl) (rdb (p := 192) (i := 3) ch_cX12_move_192 rfl) (by decide +kernel)
theorem dX12_move_196 : decode cX12_move 196 = .ok (.goto (-32), 3) := do_167 (rdb (p := 192) (i := 4) ch_cX12_move_192 rfl) (rdb (p := 192) (i := 5) ch_cX12_move_192 rfl) (rdb (p := 192) (i := 6) ch_cX12_move_192 rfl) (by decide +kernel)
theorem dX12_move_199 : decode cX12_move 199 = .ok (.iload 5, 2) := do_21 (rdb (p := 192) (i := 7) ch_cX12_move_192 rfl) (rdb (p := 192) (i := 8) ch_cX12_move_192 rfl)
theorem dX12_move_201 : decode cX12_move 201 = .ok (.ireturn, 1) := do_172 (rdb (p := 192) (i := 9) ch_cX12_move_192 rfl)
theorem ch_cX12_put_0 : (cX12_put.data.toList.drop 0).take 36 = [27, 184, 0, 127, 154, 0, 10, 42, 18, 103, 182, 0, 104, 172, 42, 180, 0, 72, 27, 46, 154, 0, 10, 42, 18, 130, 182, 0, 104, 172, 28, 3, 42, 180, 0, 75] := by decide +kernel
theorem dX12_put_0 : decode cX12_put 0 = .ok (.iload_n 1, 1) := do_27 (rdb (p := 0) (i := 0) ch_cX12_put_0 rfl)
theorem dX12_put_1 : decode cX12_put 1 = .ok (.invokestatic 127, 3) := do_184 (rdb (p := 0) (i := 1) ch_cX12_put_0 rfl) (rdb (p := 0) (i := 2) ch_cX12_put_0 rfl) (rdb (p := 0) (i := 3) ch_cX12_put_0 rfl) rfl
theorem dX12_put_4 : decode cX12_put 4 = .ok (.ifCond .ne 10, 3) := do_154 (rdb (p := 0) (i := 4) ch_cX12_put_0 rfl) (rdb (p := 0) (i := 5) ch_cX12_put_0 rfl) (rdb (p := 0) (i := 6) ch_cX12_put_0 rfl) (by decide +kernel)
theorem dX12_put_7 : decode cX12_put 7 = .ok (.aload_n 0, 1) := do_42 (rdb (p := 0) (i := 7) ch_cX12_put_0 rfl)
theorem dX12_put_8 : decode cX12_put 8 = .ok (.ldc 103, 2) := do_18 (rdb (p := 0) (i := 8) ch_cX12_put_0 rfl) (rdb (p := 0) (i := 9) ch_cX12_put_0 rfl)
theorem dX12_put_10 : decode cX12_put 10 = .ok (.invokevirtual 104, 3) := do_182 (rdb (p := 0) (i := 10) ch_cX12_put_0 rfl) (rdb (p := 0) (i := 11) ch_cX12_put_0 rfl) (rdb (p := 0) (i := 12) ch_cX12_put_0 rfl) rfl
theorem dX12_put_13 : decode cX12_put 13 = .ok (.ireturn, 1) := do_172 (rdb (p := 0) (i := 13) ch_cX12_put_0 rfl)
theorem dX12_put_14 : decode cX12_put 14 = .ok (.aload_n 0, 1) := do_42 (rdb (p := 0) (i := 14) ch_cX12_put_0 rfl)
theorem dX12_put_15 : decode cX12_put 15 = .ok (.getfield 72, 3) := do_180 (rdb (p := 0) (i := 15) ch_cX12_put_0 rfl) (rdb (p := 0) (i := 16) ch_cX12_put_0 rfl) (rdb (p := 0) (i := 17) ch_cX12_put_0 rfl) rfl
theorem dX12_put_18 : decode cX12_put 18 = .ok (.iload_n 1, 1) := do_27 (rdb (p := 0) (i := 18) ch_cX12_put_0 rfl)
theorem dX12_put_19 : decode cX12_put 19 = .ok (.iaload, 1) := do_46 (rdb (p := 0) (i := 19) ch_cX12_put_0 rfl)
theorem dX12_put_20 : decode cX12_put 20 = .ok (.ifCond .ne 10, 3) := do_154 (rdb (p := 0) (i := 20) ch_cX12_put_0 rfl) (rdb (p := 0) (i := 21) ch_cX12_put_0 rfl) (rdb (p := 0) (i := 22) ch_cX12_put_0 rfl) (by decide +kernel)
theorem dX12_put_23 : decode cX12_put 23 = .ok (.aload_n 0, 1) := do_42 (rdb (p := 0) (i := 23) ch_cX12_put_0 rfl)
theorem dX12_put_24 : decode cX12_put 24 = .ok (.ldc 130, 2) := do_18 (rdb (p := 0) (i := 24) ch_cX12_put_0 rfl) (rdb (p := 0) (i := 25) ch_cX12_put_0 rfl)
theorem dX12_put_26 : decode cX12_put 26 = .ok (.invokevirtual 104, 3) := do_182 (rdb (p := 0) (i := 26) ch_cX12_put_0 rfl) (rdb (p := 0) (i := 27) ch_cX12_put_0 rfl) (rdb (p := 0) (i := 28) ch_cX12_put_0 rfl) rfl
theorem dX12_put_29 : decode cX12_put 29 = .ok (.ireturn, 1) := do_172 (rdb (p := 0) (i := 29) ch_cX12_put_0 rfl)
theorem dX12_put_30 : decode cX12_put 30 = .ok (.iload_n 2, 1) := do_28 (rdb (p := 0) (i := 30) ch_cX12_put_0 rfl)
theorem dX12_put_31 : decode cX12_put 31 = .ok (.iconst 0, 1) := do_3 (rdb (p := 0) (i := 31) ch_cX12_put_0 rfl)
theorem ch_cX12_put_32 : (cX12_put.data.toList.drop 32).take 36 = [42, 180, 0, 75, 27, 46, 4, 100, 184, 0, 85, 154, 0, 10, 42, 18, 103, 182, 0, 104, 172, 42, 180, 0, 78, 16, 24, 27, 104, 28, 96, 42, 180, 0, 72, 27] := by decide +kernel
theorem dX12_put_32 : decode cX12_put 32 = .ok (.aload_n 0, 1) := do_42 (rdb (p := 32) (i := 0) ch_cX12_put_32 rfl)
theorem dX12_put_33 : decode cX12_put 33 = .ok (.getfield 75, 3) := do_180 (rdb (p := 32) (i := 1) ch_cX12_put_32 rfl) (rdb (p := 32) (i := 2) ch_cX12_put_32 rfl) (rdb (p := 32) (i := 3) ch_cX12_put_32 rfl) rfl
theorem dX12_put_36 : decode cX12_put 36 = .ok (.iload_n 1, 1) := do_27 (rdb (p := 32) (i := 4) ch_cX12_put_32 rfl)
theorem dX12_put_37 : decode cX12_put 37 = .ok (.iaload, 1) := do_46 (rdb (p := 32) (i := 5) ch_cX12_put_32 rfl)
theorem dX12_put_38 : decode cX12_put 38 = .ok (.iconst 1, 1) := do_4 (rdb (p := 32) (i := 6) ch_cX12_put_32 rfl)
theorem dX12_put_39 : decode cX12_put 39 = .ok (.isub, 1) := do_100 (rdb (p := 32) (i := 7) ch_cX12_put_32 rfl)
theorem dX12_put_40 : decode cX12_put 40 = .ok (.invokestatic 85, 3) := do_184 (rdb (p := 32) (i := 8) ch_cX12_put_32 rfl) (rdb (p := 32) (i := 9) ch_cX12_put_32 rfl) (rdb (p := 32) (i := 10) ch_cX12_put_32 rfl) rfl
theorem dX12_put_43 : decode cX12_put 43 = .ok (.ifCond .ne 10, 3) := do_154 (rdb (p := 32) (i := 11) ch_cX12_put_32 rfl) (rdb (p := 32) (i := 12) ch_cX12_put_32 rfl) (rdb (p := 32) (i := 13) ch_cX12_put_32 rfl) (by decide +kernel)
theorem dX12_put_46 : decode cX12_put 46 = .ok (.aload_n 0, 1) := do_42 (rdb (p := 32) (i := 14) ch_cX12_put_32 rfl)
theorem dX12_put_47 : decode cX12_put 47 = .ok (.ldc 103, 2) := do_18 (rdb (p := 32) (i := 15) ch_cX12_put_32 rfl) (rdb (p := 32) (i := 16) ch_cX12_put_32 rfl)
theorem dX12_put_49 : decode cX12_put 49 = .ok (.invokevirtual 104, 3) := do_182 (rdb (p := 32) (i := 17) ch_cX12_put_32 rfl) (rdb (p := 32) (i := 18) ch_cX12_put_32 rfl) (rdb (p := 32) (i := 19) ch_cX12_put_32 rfl) rfl
theorem dX12_put_52 : decode cX12_put 52 = .ok (.ireturn, 1) := do_172 (rdb (p := 32) (i := 20) ch_cX12_put_32 rfl)
theorem dX12_put_53 : decode cX12_put 53 = .ok (.aload_n 0, 1) := do_42 (rdb (p := 32) (i := 21) ch_cX12_put_32 rfl)
theorem dX12_put_54 : decode cX12_put 54 = .ok (.getfield 78, 3) := do_180 (rdb (p := 32) (i := 22) ch_cX12_put_32 rfl) (rdb (p := 32) (i := 23) ch_cX12_put_32 rfl) (rdb (p := 32) (i := 24) ch_cX12_put_32 rfl) rfl
theorem dX12_put_57 : decode cX12_put 57 = .ok (.bipush 24, 2) := do_16 (rdb (p := 32) (i := 25) ch_cX12_put_32 rfl) (rdb (p := 32) (i := 26) ch_cX12_put_32 rfl) (by decide +kernel)
theorem dX12_put_59 : decode cX12_put 59 = .ok (.iload_n 1, 1) := do_27 (rdb (p := 32) (i := 27) ch_cX12_put_32 rfl)
theorem dX12_put_60 : decode cX12_put 60 = .ok (.imul, 1) := do_104 (rdb (p := 32) (i := 28) ch_cX12_put_32 rfl)
theorem dX12_put_61 : decode cX12_put 61 = .ok (.iload_n 2, 1) := do_28 (rdb (p := 32) (i := 29) ch_cX12_put_32 rfl)
theorem dX12_put_62 : decode cX12_put 62 = .ok (.iadd, 1) := do_96 (rdb (p := 32) (i := 30) ch_cX12_put_32 rfl)
theorem dX12_put_63 : decode cX12_put 63 = .ok (.aload_n 0, 1) := do_42 (rdb (p := 32) (i := 31) ch_cX12_put_32 rfl)
theorem ch_cX12_put_64 : (cX12_put.data.toList.drop 64).take 36 = [180, 0, 72, 27, 46, 16, 8, 160, 0, 8, 29, 145, 167, 0, 20, 42, 180, 0, 72, 27, 46, 16, 16, 160, 0, 8, 29, 147, 167, 0, 4, 29, 79, 4, 172] := by decide +kernel
theorem dX12_put_64 : decode cX12_put 64 = .ok (.getfield 72, 3) := do_180 (rdb (p := 64) (i := 0) ch_cX12_put_64 rfl) (rdb (p := 64) (i := 1) ch_cX12_put_64 rfl) (rdb (p := 64) (i := 2) ch_cX12_put_64 rfl) rfl
theorem dX12_put_67 : decode cX12_put 67 = .ok (.iload_n 1, 1) := do_27 (rdb (p := 64) (i := 3) ch_cX12_put_64 rfl)
theorem dX12_put_68 : decode cX12_put 68 = .ok (.iaload, 1) := do_46 (rdb (p := 64) (i := 4) ch_cX12_put_64 rfl)
theorem dX12_put_69 : decode cX12_put 69 = .ok (.bipush 8, 2) := do_16 (rdb (p := 64) (i := 5) ch_cX12_put_64 rfl) (rdb (p := 64) (i := 6) ch_cX12_put_64 rfl) (by decide +kernel)
theorem dX12_put_71 : decode cX12_put 71 = .ok (.if_icmp .ne 8, 3) := do_160 (rdb (p := 64) (i := 7) ch_cX12_put_64 rfl) (rdb (p := 64) (i := 8) ch_cX12_put_64 rfl) (rdb (p := 64) (i := 9) ch_cX12_put_64 rfl) (by decide +kernel)
theorem dX12_put_74 : decode cX12_put 74 = .ok (.iload_n 3, 1) := do_29 (rdb (p := 64) (i := 10) ch_cX12_put_64 rfl)
theorem dX12_put_75 : decode cX12_put 75 = .ok (.i2b, 1) := do_145 (rdb (p := 64) (i := 11) ch_cX12_put_64 rfl)
theorem dX12_put_76 : decode cX12_put 76 = .ok (.goto 20, 3) := do_167 (rdb (p := 64) (i := 12) ch_cX12_put_64 rfl) (rdb (p := 64) (i := 13) ch_cX12_put_64 rfl) (rdb (p := 64) (i := 14) ch_cX12_put_64 rfl) (by decide +kernel)
theorem dX12_put_79 : decode cX12_put 79 = .ok (.aload_n 0, 1) := do_42 (rdb (p := 64) (i := 15) ch_cX12_put_64 rfl)
theorem dX12_put_80 : decode cX12_put 80 = .ok (.getfield 72, 3) := do_180 (rdb (p := 64) (i := 16) ch_cX12_put_64 rfl) (rdb (p := 64) (i := 17) ch_cX12_put_64 rfl) (rdb (p := 64) (i := 18) ch_cX12_put_64 rfl) rfl
theorem dX12_put_83 : decode cX12_put 83 = .ok (.iload_n 1, 1) := do_27 (rdb (p := 64) (i := 19) ch_cX12_put_64 rfl)
theorem dX12_put_84 : decode cX12_put 84 = .ok (.iaload, 1) := do_46 (rdb (p := 64) (i := 20) ch_cX12_put_64 rfl)
theorem dX12_put_85 : decode cX12_put 85 = .ok (.bipush 16, 2) := do_16 (rdb (p := 64) (i := 21) ch_cX12_put_64 rfl) (rdb (p := 64) (i := 22) ch_cX12_put_64 rfl) (by decide +kernel)
theorem dX12_put_87 : decode cX12_put 87 = .ok (.if_icmp .ne 8, 3) := do_160 (rdb (p := 64) (i := 23) ch_cX12_put_64 rfl) (rdb (p := 64) (i := 24) ch_cX12_put_64 rfl) (rdb (p := 64) (i := 25) ch_cX12_put_64 rfl) (by decide +kernel)
theorem dX12_put_90 : decode cX12_put 90 = .ok (.iload_n 3, 1) := do_29 (rdb (p := 64) (i := 26) ch_cX12_put_64 rfl)
theorem dX12_put_91 : decode cX12_put 91 = .ok (.i2s, 1) := do_147 (rdb (p := 64) (i := 27) ch_cX12_put_64 rfl)
theorem dX12_put_92 : decode cX12_put 92 = .ok (.goto 4, 3) := do_167 (rdb (p := 64) (i := 28) ch_cX12_put_64 rfl) (rdb (p := 64) (i := 29) ch_cX12_put_64 rfl) (rdb (p := 64) (i := 30) ch_cX12_put_64 rfl) (by decide +kernel)
theorem dX12_put_95 : decode cX12_put 95 = .ok (.iload_n 3, 1) := do_29 (rdb (p := 64) (i := 31) ch_cX12_put_64 rfl)
theorem ch_cX12_put_96 : (cX12_put.data.toList.drop 96).take 36 = [79, 4, 172] := by decide +kernel
theorem dX12_put_96 : decode cX12_put 96 = .ok (.iastore, 1) := do_79 (rdb (p := 96) (i := 0) ch_cX12_put_96 rfl)
theorem dX12_put_97 : decode cX12_put 97 = .ok (.iconst 1, 1) := do_4 (rdb (p := 96) (i := 1) ch_cX12_put_96 rfl)
theorem dX12_put_98 : decode cX12_put 98 = .ok (.ireturn, 1) := do_172 (rdb (p := 96) (i := 2) ch_cX12_put_96 rfl)
theorem ch_cX12_sheet_0 : (cX12_sheet.data.toList.drop 0).take 36 = [27, 184, 0, 127, 153, 0, 25, 28, 153, 0, 28, 28, 16, 8, 159, 0, 22, 28, 16, 16, 159, 0, 16, 28, 16, 32, 159, 0, 10, 42, 18, 103, 182, 0, 104, 172] := by decide +kernel
theorem dX12_sheet_0 : decode cX12_sheet 0 = .ok (.iload_n 1, 1) := do_27 (rdb (p := 0) (i := 0) ch_cX12_sheet_0 rfl)
theorem dX12_sheet_1 : decode cX12_sheet 1 = .ok (.invokestatic 127, 3) := do_184 (rdb (p := 0) (i := 1) ch_cX12_sheet_0 rfl) (rdb (p := 0) (i := 2) ch_cX12_sheet_0 rfl) (rdb (p := 0) (i := 3) ch_cX12_sheet_0 rfl) rfl
theorem dX12_sheet_4 : decode cX12_sheet 4 = .ok (.ifCond .eq 25, 3) := do_153 (rdb (p := 0) (i := 4) ch_cX12_sheet_0 rfl) (rdb (p := 0) (i := 5) ch_cX12_sheet_0 rfl) (rdb (p := 0) (i := 6) ch_cX12_sheet_0 rfl) (by decide +kernel)
theorem dX12_sheet_7 : decode cX12_sheet 7 = .ok (.iload_n 2, 1) := do_28 (rdb (p := 0) (i := 7) ch_cX12_sheet_0 rfl)
theorem dX12_sheet_8 : decode cX12_sheet 8 = .ok (.ifCond .eq 28, 3) := do_153 (rdb (p := 0) (i := 8) ch_cX12_sheet_0 rfl) (rdb (p := 0) (i := 9) ch_cX12_sheet_0 rfl) (rdb (p := 0) (i := 10) ch_cX12_sheet_0 rfl) (by decide +kernel)
theorem dX12_sheet_11 : decode cX12_sheet 11 = .ok (.iload_n 2, 1) := do_28 (rdb (p := 0) (i := 11) ch_cX12_sheet_0 rfl)
theorem dX12_sheet_12 : decode cX12_sheet 12 = .ok (.bipush 8, 2) := do_16 (rdb (p := 0) (i := 12) ch_cX12_sheet_0 rfl) (rdb (p := 0) (i := 13) ch_cX12_sheet_0 rfl) (by decide +kernel)
theorem dX12_sheet_14 : decode cX12_sheet 14 = .ok (.if_icmp .eq 22, 3) := do_159 (rdb (p := 0) (i := 14) ch_cX12_sheet_0 rfl) (rdb (p := 0) (i := 15) ch_cX12_sheet_0 rfl) (rdb (p := 0) (i := 16) ch_cX12_sheet_0 rfl) (by decide +kernel)
theorem dX12_sheet_17 : decode cX12_sheet 17 = .ok (.iload_n 2, 1) := do_28 (rdb (p := 0) (i := 17) ch_cX12_sheet_0 rfl)
theorem dX12_sheet_18 : decode cX12_sheet 18 = .ok (.bipush 16, 2) := do_16 (rdb (p := 0) (i := 18) ch_cX12_sheet_0 rfl) (rdb (p := 0) (i := 19) ch_cX12_sheet_0 rfl) (by decide +kernel)
theorem dX12_sheet_20 : decode cX12_sheet 20 = .ok (.if_icmp .eq 16, 3) := do_159 (rdb (p := 0) (i := 20) ch_cX12_sheet_0 rfl) (rdb (p := 0) (i := 21) ch_cX12_sheet_0 rfl) (rdb (p := 0) (i := 22) ch_cX12_sheet_0 rfl) (by decide +kernel)
theorem dX12_sheet_23 : decode cX12_sheet 23 = .ok (.iload_n 2, 1) := do_28 (rdb (p := 0) (i := 23) ch_cX12_sheet_0 rfl)
theorem dX12_sheet_24 : decode cX12_sheet 24 = .ok (.bipush 32, 2) := do_16 (rdb (p := 0) (i := 24) ch_cX12_sheet_0 rfl) (rdb (p := 0) (i := 25) ch_cX12_sheet_0 rfl) (by decide +kernel)
theorem dX12_sheet_26 : decode cX12_sheet 26 = .ok (.if_icmp .eq 10, 3) := do_159 (rdb (p := 0) (i := 26) ch_cX12_sheet_0 rfl) (rdb (p := 0) (i := 27) ch_cX12_sheet_0 rfl) (rdb (p := 0) (i := 28) ch_cX12_sheet_0 rfl) (by decide +kernel)
theorem dX12_sheet_29 : decode cX12_sheet 29 = .ok (.aload_n 0, 1) := do_42 (rdb (p := 0) (i := 29) ch_cX12_sheet_0 rfl)
theorem dX12_sheet_30 : decode cX12_sheet 30 = .ok (.ldc 103, 2) := do_18 (rdb (p := 0) (i := 30) ch_cX12_sheet_0 rfl) (rdb (p := 0) (i := 31) ch_cX12_sheet_0 rfl)
theorem ch_cX12_sheet_32 : (cX12_sheet.data.toList.drop 32).take 36 = [182, 0, 104, 172, 28, 153, 0, 14, 29, 156, 0, 10, 42, 18, 110, 182, 0, 104, 172, 28, 153, 0, 16, 29, 16, 24, 164, 0, 10, 42, 18, 103, 182, 0, 104, 172] := by decide +kernel
theorem dX12_sheet_32 : decode cX12_sheet 32 = .ok (.invokevirtual 104, 3) := do_182 (rdb (p := 32) (i := 0) ch_cX12_sheet_32 rfl) (rdb (p := 32) (i := 1) ch_cX12_sheet_32 rfl) (rdb (p := 32) (i := 2) ch_cX12_sheet_32 rfl) rfl
theorem dX12_sheet_35 : decode cX12_sheet 35 = .ok (.ireturn, 1) := do_172 (rdb (p := 32) (i := 3) ch_cX12_sheet_32 rfl)
theorem dX12_sheet_36 : decode cX12_sheet 36 = .ok (.iload_n 2, 1) := do_28 (rdb (p := 32) (i := 4) ch_cX12_sheet_32 rfl)
theorem dX12_sheet_37 : decode cX12_sheet 37 = .ok (.ifCond .eq 14, 3) := do_153 (rdb (p := 32) (i := 5) ch_cX12_sheet_32 rfl) (rdb (p := 32) (i := 6) ch_cX12_sheet_32 rfl) (rdb (p := 32) (i := 7) ch_cX12_sheet_32 rfl) (by decide +kernel)
theorem dX12_sheet_40 : decode cX12_sheet 40 = .ok (.iload_n 3, 1) := do_29 (rdb (p := 32) (i := 8) ch_cX12_sheet_32 rfl)
theorem dX12_sheet_41 : decode cX12_sheet 41 = .ok (.ifCond .ge 10, 3) := do_156 (rdb (p := 32) (i := 9) ch_cX12_sheet_32 rfl) (rdb (p := 32) (i := 10) ch_cX12_sheet_32 rfl) (rdb (p := 32) (i := 11) ch_cX12_sheet_32 rfl) (by decide +kernel)
theorem dX12_sheet_44 : decode cX12_sheet 44 = .ok (.aload_n 0, 1) := do_42 (rdb (p := 32) (i := 12) ch_cX12_sheet_32 rfl)
theorem dX12_sheet_45 : decode cX12_sheet 45 = .ok (.ldc 110, 2) := do_18 (rdb (p := 32) (i := 13) ch_cX12_sheet_32 rfl) (rdb (p := 32) (i := 14) ch_cX12_sheet_32 rfl)
theorem dX12_sheet_47 : decode cX12_sheet 47 = .ok (.invokevirtual 104, 3) := do_182 (rdb (p := 32) (i := 15) ch_cX12_sheet_32 rfl) (rdb (p := 32) (i := 16) ch_cX12_sheet_32 rfl) (rdb (p := 32) (i := 17) ch_cX12_sheet_32 rfl) rfl
theorem dX12_sheet_50 : decode cX12_sheet 50 = .ok (.ireturn, 1) := do_172 (rdb (p := 32) (i := 18) ch_cX12_sheet_32 rfl)
theorem dX12_sheet_51 : decode cX12_sheet 51 = .ok (.iload_n 2, 1) := do_28 (rdb (p := 32) (i := 19) ch_cX12_sheet_32 rfl)
theorem dX12_sheet_52 : decode cX12_sheet 52 = .ok (.ifCond .eq 16, 3) := do_153 (rdb (p := 32) (i := 20) ch_cX12_sheet_32 rfl) (rdb (p := 32) (i := 21) ch_cX12_sheet_32 rfl) (rdb (p := 32) (i := 22) ch_cX12_sheet_32 rfl) (by decide +kernel)
theorem dX12_sheet_55 : decode cX12_sheet 55 = .ok (.iload_n 3, 1) := do_29 (rdb (p := 32) (i := 23) ch_cX12_sheet_32 rfl)
theorem dX12_sheet_56 : decode cX12_sheet 56 = .ok (.bipush 24, 2) := do_16 (rdb (p := 32) (i := 24) ch_cX12_sheet_32 rfl) (rdb (p := 32) (i := 25) ch_cX12_sheet_32 rfl) (by decide +kernel)
theorem dX12_sheet_58 : decode cX12_sheet 58 = .ok (.if_icmp .le 10, 3) := do_164 (rdb (p := 32) (i := 26) ch_cX12_sheet_32 rfl) (rdb (p := 32) (i := 27) ch_cX12_sheet_32 rfl) (rdb (p := 32) (i := 28) ch_cX12_sheet_32 rfl) (by decide +kernel)
theorem dX12_sheet_61 : decode cX12_sheet 61 = .ok (.aload_n 0, 1) := do_42 (rdb (p := 32) (i := 29) ch_cX12_sheet_32 rfl)
theorem dX12_sheet_62 : decode cX12_sheet 62 = .ok (.ldc 103, 2) := do_18 (rdb (p := 32) (i := 30) ch_cX12_sheet_32 rfl) (rdb (p := 32) (i := 31) ch_cX12_sheet_32 rfl)
theorem ch_cX12_sheet_64 : (cX12_sheet.data.toList.drop 64).take 36 = [182, 0, 104, 172, 42, 180, 0, 72, 27, 28, 79, 42, 180, 0, 75, 27, 28, 154, 0, 7, 3, 167, 0, 4, 29, 79, 3, 54, 4, 21, 4, 16, 24, 162, 0, 22] := by decide +kernel
theorem dX12_sheet_64 : decode cX12_sheet 64 = .ok (.invokevirtual 104, 3) := do_182 (rdb (p := 64) (i := 0) ch_cX12_sheet_64 rfl) (rdb (p := 64) (i := 1) ch_cX12_sheet_64 rfl) (rdb (p := 64) (i := 2) ch_cX12_sheet_64 rfl) rfl
theorem dX12_sheet_67 : decode cX12_sheet 67 = .ok (.ireturn, 1) := do_172 (rdb (p := 64) (i := 3) ch_cX12_sheet_64 rfl)
theorem dX12_sheet_68 : decode cX12_sheet 68 = .ok (.aload_n 0, 1) := do_42 (rdb (p := 64) (i := 4) ch_cX12_sheet_64 rfl)
theorem dX12_sheet_69 : decode cX12_sheet 69 = .ok (.getfield 72, 3) := do_180 (rdb (p := 64) (i := 5) ch_cX12_sheet_64 rfl) (rdb (p := 64) (i := 6) ch_cX12_sheet_64 rfl) (rdb (p := 64) (i := 7) ch_cX12_sheet_64 rfl) rfl
theorem dX12_sheet_72 : decode cX12_sheet 72 = .ok (.iload_n 1, 1) := do_27 (rdb (p := 64) (i := 8) ch_cX12_sheet_64 rfl)
theorem dX12_sheet_73 : decode cX12_sheet 73 = .ok (.iload_n 2, 1) := do_28 (rdb (p := 64) (i := 9) ch_cX12_sheet_64 rfl)
theorem dX12_sheet_74 : decode cX12_sheet 74 = .ok (.iastore, 1) := do_79 (rdb (p := 64) (i := 10) ch_cX12_sheet_64 rfl)
theorem dX12_sheet_75 : decode cX12_sheet 75 = .ok (.aload_n 0, 1) := do_42 (rdb (p := 64) (i := 11) ch_cX12_sheet_64 rfl)
theorem dX12_sheet_76 : decode cX12_sheet 76 = .ok (.getfield 75, 3) := do_180 (rdb (p := 64) (i := 12) ch_cX12_sheet_64 rfl) (rdb (p := 64) (i := 13) ch_cX12_sheet_64 rfl) (rdb (p := 64) (i := 14) ch_cX12_sheet_64 rfl) rfl
theorem dX12_sheet_79 : decode cX12_sheet 79 = .ok (.iload_n 1, 1) := do_27 (rdb (p := 64) (i := 15) ch_cX12_sheet_64 rfl)
theorem dX12_sheet_80 : decode cX12_sheet 80 = .ok (.iload_n 2, 1) := do_28 (rdb (p := 64) (i := 16) ch_cX12_sheet_64 rfl)
theorem dX12_sheet_81 : decode cX12_sheet 81 = .ok (.ifCond .ne 7, 3) := do_154 (rdb (p := 64) (i := 17) ch_cX12_sheet_64 rfl) (rdb (p := 64) (i := 18) ch_cX12_sheet_64 rfl) (rdb (p := 64) (i := 19) ch_cX12_sheet_64 rfl) (by decide +kernel)
theorem dX12_sheet_84 : decode cX12_sheet 84 = .ok (.iconst 0, 1) := do_3 (rdb (p := 64) (i := 20) ch_cX12_sheet_64 rfl)
theorem dX12_sheet_85 : decode cX12_sheet 85 = .ok (.goto 4, 3) := do_167 (rdb (p := 64) (i := 21) ch_cX12_sheet_64 rfl) (rdb (p := 64) (i := 22) ch_cX12_sheet_64 rfl) (rdb (p := 64) (i := 23) ch_cX12_sheet_64 rfl) (by decide +kernel)
theorem dX12_sheet_88 : decode cX12_sheet 88 = .ok (.iload_n 3, 1) := do_29 (rdb (p := 64) (i := 24) ch_cX12_sheet_64 rfl)
theorem dX12_sheet_89 : decode cX12_sheet 89 = .ok (.iastore, 1) := do_79 (rdb (p := 64) (i := 25) ch_cX12_sheet_64 rfl)
theorem dX12_sheet_90 : decode cX12_sheet 90 = .ok (.iconst 0, 1) := do_3 (rdb (p := 64) (i := 26) ch_cX12_sheet_64 rfl)
theorem dX12_sheet_91 : decode cX12_sheet 91 = .ok (.istore 4, 2) := do_54 (rdb (p := 64) (i := 27) ch_cX12_sheet_64 rfl) (rdb (p := 64) (i := 28) ch_cX12_sheet_64 rfl)
theorem dX12_sheet_93 : decode cX12_sheet 93 = .ok (.iload 4, 2) := do_21 (rdb (p := 64) (i := 29) ch_cX12_sheet_64 rfl) (rdb (p := 64) (i := 30) ch_cX12_sheet_64 rfl)
theorem dX12_sheet_95 : decode cX12_sheet 95 = .ok (.bipush 24, 2) := do_16 (rdb (p := 64) (i := 31) ch_cX12_sheet_64 rfl) (rdb (p := 64) (i := 32) ch_cX12_sheet_64 rfl) (by decide +kernel)
theorem ch_cX12_sheet_96 : (cX12_sheet.data.toList.drop 96).take 36 = [24, 162, 0, 22, 42, 180, 0, 78, 16, 24, 27, 104, 21, 4, 96, 3, 79, 132, 4, 1, 167, 255, 233, 4, 172] := by decide +kernel
theorem dX12_sheet_97 : decode cX12_sheet 97 = .ok (.if_icmp .ge 22, 3) := do_162 (rdb (p := 96) (i := 1) ch_cX12_sheet_96 rfl) (rdb (p := 96) (i := 2) ch_cX12_sheet_96 rfl) (rdb (p := 96) (i := 3) ch_cX12_sheet_96 rfl) (by decide +kernel)
theorem dX12_sheet_100 : decode cX12_sheet 100 = .ok (.aload_n 0, 1) := do_42 (rdb (p := 96) (i := 4) ch_cX12_sheet_96 rfl)
theorem dX12_sheet_101 : decode cX12_sheet 101 = .ok (.getfield 78, 3) := do_180 (rdb (p := 96) (i := 5) ch_cX12_sheet_96 rfl) (rdb (p := 96) (i := 6) ch_cX12_sheet_96 rfl) (rdb (p := 96) (i := 7) ch_cX12_sheet_96 rfl) rfl
theorem dX12_sheet_104 : decode cX12_sheet 104 = .ok (.bipush 24, 2) := do_16 (rdb (p := 96) (i := 8) ch_cX12_sheet_96 rfl) (rdb (p := 96) (i := 9) ch_cX12_sheet_96 rfl) (by decide +kernel)
theorem dX12_sheet_106 : decode cX12_sheet 106 = .ok (.iload_n 1, 1) := do_27 (rdb (p := 96) (i := 10) ch_cX12_sheet_96 rfl)
theorem dX12_sheet_107 : decode cX12_sheet 107 = .ok (.imul, 1) := do_104 (rdb (p := 96) (i := 11) ch_cX12_sheet_96 rfl)
theorem dX12_sheet_108 : decode cX12_sheet 108 = .ok (.iload 4, 2) := do_21 (rdb (p := 96) (i := 12) ch_cX12_sheet_96 rfl) (rdb (p := 96) (i := 13) ch_cX12_sheet_96 rfl)
theorem dX12_sheet_110 : decode cX12_sheet 110 = .ok (.iadd, 1) := do_96 (rdb (p := 96) (i := 14) ch_cX12_sheet_96 rfl)
theorem dX12_sheet_111 : decode cX12_sheet 111 = .ok (.iconst 0, 1) := do_3 (rdb (p := 96) (i := 15) ch_cX12_sheet_96 rfl)
theorem dX12_sheet_112 : decode cX12_sheet 112 = .ok (.iastore, 1) := do_79 (rdb (p := 96) (i := 16) ch_cX12_sheet_96 rfl)
theorem dX12_sheet_113 : decode cX12_sheet 113 = .ok (.iinc 4 1, 3) := do_132 (rdb (p := 96) (i := 17) ch_cX12_sheet_96 rfl) (rdb (p := 96) (i := 18) ch_cX12_sheet_96 rfl) (rdb (p := 96) (i := 19) ch_cX12_sheet_96 rfl) (by decide +kernel)
theorem dX12_sheet_116 : decode cX12_sheet 116 = .ok (.goto (-23), 3) := do_167 (rdb (p := 96) (i := 20) ch_cX12_sheet_96 rfl) (rdb (p := 96) (i := 21) ch_cX12_sheet_96 rfl) (rdb (p := 96) (i := 22) ch_cX12_sheet_96 rfl) (by decide +kernel)
theorem dX12_sheet_119 : decode cX12_sheet 119 = .ok (.iconst 1, 1) := do_4 (rdb (p := 96) (i := 23) ch_cX12_sheet_96 rfl)
theorem dX12_sheet_120 : decode cX12_sheet 120 = .ok (.ireturn, 1) := do_172 (rdb (p := 96) (i := 24) ch_cX12_sheet_96 rfl)
theorem dX12_sumOf_0 : decode cX12_sumOf 0 = .ok (.iconst 0, 1) := by decide +kernel
theorem dX12_sumOf_1 : decode cX12_sumOf 1 = .ok (.istore_n 2, 1) := by decide +kernel
theorem dX12_sumOf_2 : decode cX12_sumOf 2 = .ok (.iconst 0, 1) := by decide +kernel
theorem dX12_sumOf_3 : decode cX12_sumOf 3 = .ok (.istore_n 3, 1) := by decide +kernel
theorem dX12_sumOf_4 : decode cX12_sumOf 4 = .ok (.iload_n 3, 1) := by decide +kernel
theorem dX12_sumOf_5 : decode cX12_sumOf 5 = .ok (.aload_n 0, 1) := by decide +kernel
theorem dX12_sumOf_6 : decode cX12_sumOf 6 = .ok (.getfield 9, 3) := by decide +kernel
theorem dX12_sumOf_9 : decode cX12_sumOf 9 = .ok (.iconst 2, 1) := by decide +kernel
theorem dX12_sumOf_10 : decode cX12_sumOf 10 = .ok (.iaload, 1) := by decide +kernel
theorem dX12_sumOf_11 : decode cX12_sumOf 11 = .ok (.if_icmp .ge 24, 3) := by decide +kernel
theorem dX12_sumOf_14 : decode cX12_sumOf 14 = .ok (.iload_n 2, 1) := by decide +kernel
theorem dX12_sumOf_15 : decode cX12_sumOf 15 = .ok (.aload_n 0, 1) := by decide +kernel
theorem dX12_sumOf_16 : decode cX12_sumOf 16 = .ok (.getfield 9, 3) := by decide +kernel
theorem dX12_sumOf_19 : decode cX12_sumOf 19 = .ok (.aload_n 0, 1) := by decide +kernel
theorem dX12_sumOf_20 : decode cX12_sumOf 20 = .ok (.iload_n 3, 1) := by decide +kernel
theorem dX12_sumOf_21 : decode cX12_sumOf 21 = .ok (.invokevirtual 93, 3) := by decide +kernel
theorem dX12_sumOf_24 : decode cX12_sumOf 24 = .ok (.iload_n 1, 1) := by decide +kernel
theorem dX12_sumOf_25 : decode cX12_sumOf 25 = .ok (.iadd, 1) := by decide +kernel
theorem dX12_sumOf_26 : decode cX12_sumOf 26 = .ok (.iaload, 1) := by decide +kernel
theorem dX12_sumOf_27 : decode cX12_sumOf 27 = .ok (.iadd, 1) := by decide +kernel
theorem dX12_sumOf_28 : decode cX12_sumOf 28 = .ok (.istore_n 2, 1) := by decide +kernel
theorem dX12_sumOf_29 : decode cX12_sumOf 29 = .ok (.iinc 3 1, 3) := by decide +kernel
theorem dX12_sumOf_32 : decode cX12_sumOf 32 = .ok (.goto (-28), 3) := by decide +kernel
theorem dX12_sumOf_35 : decode cX12_sumOf 35 = .ok (.iload_n 2, 1) := by decide +kernel
theorem dX12_sumOf_36 : decode cX12_sumOf 36 = .ok (.ireturn, 1) := by decide +kernel
theorem ch_cX12_tell_0 : (cX12_tell.data.toList.drop 0).take 36 = [42, 180, 0, 9, 8, 46, 16, 24, 160, 0, 10, 42, 18, 111, 182, 0, 104, 172, 42, 180, 0, 9, 17, 1, 65, 42, 180, 0, 9, 8, 46, 96, 27, 79, 42, 180] := by decide +kernel
theorem dX12_tell_0 : decode cX12_tell 0 = .ok (.aload_n 0, 1) := do_42 (rdb (p := 0) (i := 0) ch_cX12_tell_0 rfl)
theorem dX12_tell_1 : decode cX12_tell 1 = .ok (.getfield 9, 3) := do_180 (rdb (p := 0) (i := 1) ch_cX12_tell_0 rfl) (rdb (p := 0) (i := 2) ch_cX12_tell_0 rfl) (rdb (p := 0) (i := 3) ch_cX12_tell_0 rfl) rfl
theorem dX12_tell_4 : decode cX12_tell 4 = .ok (.iconst 5, 1) := do_8 (rdb (p := 0) (i := 4) ch_cX12_tell_0 rfl)
theorem dX12_tell_5 : decode cX12_tell 5 = .ok (.iaload, 1) := do_46 (rdb (p := 0) (i := 5) ch_cX12_tell_0 rfl)
theorem dX12_tell_6 : decode cX12_tell 6 = .ok (.bipush 24, 2) := do_16 (rdb (p := 0) (i := 6) ch_cX12_tell_0 rfl) (rdb (p := 0) (i := 7) ch_cX12_tell_0 rfl) (by decide +kernel)
theorem dX12_tell_8 : decode cX12_tell 8 = .ok (.if_icmp .ne 10, 3) := do_160 (rdb (p := 0) (i := 8) ch_cX12_tell_0 rfl) (rdb (p := 0) (i := 9) ch_cX12_tell_0 rfl) (rdb (p := 0) (i := 10) ch_cX12_tell_0 rfl) (by decide +kernel)
theorem dX12_tell_11 : decode cX12_tell 11 = .ok (.aload_n 0, 1) := do_42 (rdb (p := 0) (i := 11) ch_cX12_tell_0 rfl)
theorem dX12_tell_12 : decode cX12_tell 12 = .ok (.ldc 111, 2) := do_18 (rdb (p := 0) (i := 12) ch_cX12_tell_0 rfl) (rdb (p := 0) (i := 13) ch_cX12_tell_0 rfl)
theorem dX12_tell_14 : decode cX12_tell 14 = .ok (.invokevirtual 104, 3) := do_182 (rdb (p := 0) (i := 14) ch_cX12_tell_0 rfl) (rdb (p := 0) (i := 15) ch_cX12_tell_0 rfl) (rdb (p := 0) (i := 16) ch_cX12_tell_0 rfl) rfl
theorem dX12_tell_17 : decode cX12_tell 17 = .ok (.ireturn, 1) := do_172 (rdb (p := 0) (i := 17) ch_cX12_tell_0 rfl)
theorem dX12_tell_18 : decode cX12_tell 18 = .ok (.aload_n 0, 1) := do_42 (rdb (p := 0) (i := 18) ch_cX12_tell_0 rfl)
theorem dX12_tell_19 : decode cX12_tell 19 = .ok (.getfield 9, 3) := do_180 (rdb (p := 0) (i := 19) ch_cX12_tell_0 rfl) (rdb (p := 0) (i := 20) ch_cX12_tell_0 rfl) (rdb (p := 0) (i := 21) ch_cX12_tell_0 rfl) rfl
theorem dX12_tell_22 : decode cX12_tell 22 = .ok (.sipush 321, 3) := do_17 (rdb (p := 0) (i := 22) ch_cX12_tell_0 rfl) (rdb (p := 0) (i := 23) ch_cX12_tell_0 rfl) (rdb (p := 0) (i := 24) ch_cX12_tell_0 rfl) (by decide +kernel)
theorem dX12_tell_25 : decode cX12_tell 25 = .ok (.aload_n 0, 1) := do_42 (rdb (p := 0) (i := 25) ch_cX12_tell_0 rfl)
theorem dX12_tell_26 : decode cX12_tell 26 = .ok (.getfield 9, 3) := do_180 (rdb (p := 0) (i := 26) ch_cX12_tell_0 rfl) (rdb (p := 0) (i := 27) ch_cX12_tell_0 rfl) (rdb (p := 0) (i := 28) ch_cX12_tell_0 rfl) rfl
theorem dX12_tell_29 : decode cX12_tell 29 = .ok (.iconst 5, 1) := do_8 (rdb (p := 0) (i := 29) ch_cX12_tell_0 rfl)
theorem dX12_tell_30 : decode cX12_tell 30 = .ok (.iaload, 1) := do_46 (rdb (p := 0) (i := 30) ch_cX12_tell_0 rfl)
theorem dX12_tell_31 : decode cX12_tell 31 = .ok (.iadd, 1) := do_96 (rdb (p := 0) (i := 31) ch_cX12_tell_0 rfl)
theorem ch_cX12_tell_32 : (cX12_tell.data.toList.drop 32).take 36 = [27, 79, 42, 180, 0, 9, 8, 92, 46, 4, 96, 79, 42, 180, 0, 9, 8, 46, 172] := by decide +kernel
theorem dX12_tell_32 : decode cX12_tell 32 = .ok (.iload_n 1, 1) := do_27 (rdb (p := 32) (i := 0) ch_cX12_tell_32 rfl)
theorem dX12_tell_33 : decode cX12_tell 33 = .ok (.iastore, 1) := do_79 (rdb (p := 32) (i := 1) ch_cX12_tell_32 rfl)
theorem dX12_tell_34 : decode cX12_tell 34 = .ok (.aload_n 0, 1) := do_42 (rdb (p := 32) (i := 2) ch_cX12_tell_32 rfl)
theorem dX12_tell_35 : decode cX12_tell 35 = .ok (.getfield 9, 3) := do_180 (rdb (p := 32) (i := 3) ch_cX12_tell_32 rfl) (rdb (p := 32) (i := 4) ch_cX12_tell_32 rfl) (rdb (p := 32) (i := 5) ch_cX12_tell_32 rfl) rfl
theorem dX12_tell_38 : decode cX12_tell 38 = .ok (.iconst 5, 1) := do_8 (rdb (p := 32) (i := 6) ch_cX12_tell_32 rfl)
theorem dX12_tell_39 : decode cX12_tell 39 = .ok (.dup2, 1) := do_92 (rdb (p := 32) (i := 7) ch_cX12_tell_32 rfl)
theorem dX12_tell_40 : decode cX12_tell 40 = .ok (.iaload, 1) := do_46 (rdb (p := 32) (i := 8) ch_cX12_tell_32 rfl)
theorem dX12_tell_41 : decode cX12_tell 41 = .ok (.iconst 1, 1) := do_4 (rdb (p := 32) (i := 9) ch_cX12_tell_32 rfl)
theorem dX12_tell_42 : decode cX12_tell 42 = .ok (.iadd, 1) := do_96 (rdb (p := 32) (i := 10) ch_cX12_tell_32 rfl)
theorem dX12_tell_43 : decode cX12_tell 43 = .ok (.iastore, 1) := do_79 (rdb (p := 32) (i := 11) ch_cX12_tell_32 rfl)
theorem dX12_tell_44 : decode cX12_tell 44 = .ok (.aload_n 0, 1) := do_42 (rdb (p := 32) (i := 12) ch_cX12_tell_32 rfl)
theorem dX12_tell_45 : decode cX12_tell 45 = .ok (.getfield 9, 3) := do_180 (rdb (p := 32) (i := 13) ch_cX12_tell_32 rfl) (rdb (p := 32) (i := 14) ch_cX12_tell_32 rfl) (rdb (p := 32) (i := 15) ch_cX12_tell_32 rfl) rfl
theorem dX12_tell_48 : decode cX12_tell 48 = .ok (.iconst 5, 1) := do_8 (rdb (p := 32) (i := 16) ch_cX12_tell_32 rfl)
theorem dX12_tell_49 : decode cX12_tell 49 = .ok (.iaload, 1) := do_46 (rdb (p := 32) (i := 17) ch_cX12_tell_32 rfl)
theorem dX12_tell_50 : decode cX12_tell 50 = .ok (.ireturn, 1) := do_172 (rdb (p := 32) (i := 18) ch_cX12_tell_32 rfl)
theorem dX12_told_0 : decode cX12_told 0 = .ok (.iload_n 1, 1) := by decide +kernel
theorem dX12_told_1 : decode cX12_told 1 = .ok (.iconst 1, 1) := by decide +kernel
theorem dX12_told_2 : decode cX12_told 2 = .ok (.bipush 6, 2) := by decide +kernel
theorem dX12_told_4 : decode cX12_told 4 = .ok (.invokestatic 85, 3) := by decide +kernel
theorem dX12_told_7 : decode cX12_told 7 = .ok (.ifCond .eq 12, 3) := by decide +kernel
theorem dX12_told_10 : decode cX12_told 10 = .ok (.aload_n 0, 1) := by decide +kernel
theorem dX12_told_11 : decode cX12_told 11 = .ok (.getfield 19, 3) := by decide +kernel
theorem dX12_told_14 : decode cX12_told 14 = .ok (.iload_n 1, 1) := by decide +kernel
theorem dX12_told_15 : decode cX12_told 15 = .ok (.iaload, 1) := by decide +kernel
theorem dX12_told_16 : decode cX12_told 16 = .ok (.goto 9, 3) := by decide +kernel
theorem dX12_told_19 : decode cX12_told 19 = .ok (.aload_n 0, 1) := by decide +kernel
theorem dX12_told_20 : decode cX12_told 20 = .ok (.ldc 103, 2) := by decide +kernel
theorem dX12_told_22 : decode cX12_told 22 = .ok (.invokevirtual 104, 3) := by decide +kernel
theorem dX12_told_25 : decode cX12_told 25 = .ok (.ireturn, 1) := by decide +kernel
theorem dX12_trace_0 : decode cX12_trace 0 = .ok (.iload_n 1, 1) := by decide +kernel
theorem dX12_trace_1 : decode cX12_trace 1 = .ok (.iconst 0, 1) := by decide +kernel
theorem dX12_trace_2 : decode cX12_trace 2 = .ok (.aload_n 0, 1) := by decide +kernel
theorem dX12_trace_3 : decode cX12_trace 3 = .ok (.getfield 324, 3) := by decide +kernel
theorem dX12_trace_6 : decode cX12_trace 6 = .ok (.iconst 1, 1) := by decide +kernel
theorem dX12_trace_7 : decode cX12_trace 7 = .ok (.isub, 1) := by decide +kernel
theorem dX12_trace_8 : decode cX12_trace 8 = .ok (.invokestatic 85, 3) := by decide +kernel
theorem dX12_trace_11 : decode cX12_trace 11 = .ok (.ifCond .eq 12, 3) := by decide +kernel
theorem dX12_trace_14 : decode cX12_trace 14 = .ok (.aload_n 0, 1) := by decide +kernel
theorem dX12_trace_15 : decode cX12_trace 15 = .ok (.getfield 69, 3) := by decide +kernel
theorem dX12_trace_18 : decode cX12_trace 18 = .ok (.iload_n 1, 1) := by decide +kernel
theorem dX12_trace_19 : decode cX12_trace 19 = .ok (.iaload, 1) := by decide +kernel
theorem dX12_trace_20 : decode cX12_trace 20 = .ok (.goto 9, 3) := by decide +kernel
theorem dX12_trace_23 : decode cX12_trace 23 = .ok (.aload_n 0, 1) := by decide +kernel
theorem dX12_trace_24 : decode cX12_trace 24 = .ok (.ldc 130, 2) := by decide +kernel
theorem dX12_trace_26 : decode cX12_trace 26 = .ok (.invokevirtual 104, 3) := by decide +kernel
theorem dX12_trace_29 : decode cX12_trace 29 = .ok (.ireturn, 1) := by decide +kernel
