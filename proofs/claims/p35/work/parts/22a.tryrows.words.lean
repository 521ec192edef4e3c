/-! words of the tables that are used, by their places; decode rows; fields -/
theorem m_18 : Cond.selects yX3_tryRows.cls yX3_tryRows yX3_tryRows ∈ BASE := bmem 18 (by decide +kernel) rfl
theorem m_19 : Cond.selects yX3_isBetter.cls yX3_isBetter yX3_isBetter ∈ BASE := bmem 19 (by decide +kernel) rfl
theorem m_226 : Cond.fieldLink RX3 35 "ClickStreet$Lessons" "wantedBits" "I" ∈ BASE := bmem 226 (by decide +kernel) rfl
theorem m_229 : Cond.fieldLink RX3 41 "ClickStreet$Lessons" "isFound" "Z" ∈ BASE := bmem 229 (by decide +kernel) rfl
theorem m_1134 : Cond.methodLink RX3 48 yX3_tryRows ∈ BASE := bmem 1134 (by decide +kernel) rfl
theorem m_1136 : Cond.instanceMethod yX3_tryRows ∈ BASE := bmem 1136 (by decide +kernel) rfl
theorem m_1137 : Cond.code yX3_tryRows cX3_tryRows 5 none ∈ BASE := bmem 1137 (by decide +kernel) rfl
theorem m_1138 : Cond.methodLink RX3 52 yX3_isBetter ∈ BASE := bmem 1138 (by decide +kernel) rfl
theorem m_1140 : Cond.instanceMethod yX3_isBetter ∈ BASE := bmem 1140 (by decide +kernel) rfl
theorem m_1141 : Cond.code yX3_isBetter cX3_isBetter 2 (some .boolean) ∈ BASE := bmem 1141 (by decide +kernel) rfl
theorem m_1142 : Cond.methodLink RX3 56 yX5_takeFrom ∈ BASE := bmem 1142 (by decide +kernel) rfl
theorem m_1148 : Cond.methodLink RX3 60 yX5_room ∈ BASE := bmem 1148 (by decide +kernel) rfl
theorem m_1149 : Cond.methodLink RX3 64 yX5_add ∈ BASE := bmem 1149 (by decide +kernel) rfl
theorem m_1150 : Cond.methodLink RX3 67 yX5_dropLast ∈ BASE := bmem 1150 (by decide +kernel) rfl
theorem m_1151 : Cond.instanceMethod yX5_dropLast ∈ BASE := bmem 1151 (by decide +kernel) rfl
theorem m_1152 : Cond.selects yX5_dropLast.cls yX5_dropLast yX5_dropLast ∈ BASE := bmem 1152 (by decide +kernel) rfl
theorem m_1153 : Cond.code yX5_dropLast cX5_dropLast 1 none ∈ BASE := bmem 1153 (by decide +kernel) rfl
theorem kV_X3_isBetter : KV yX3_isBetter cX3_isBetter 2 (some .boolean) 1 := ⟨m_1140, m_19, m_84, m_1141, by decide +kernel, by decide +kernel, by decide +kernel⟩
theorem kV_X3_tryRows : KV yX3_tryRows cX3_tryRows 5 none 3 := ⟨m_1136, m_18, m_84, m_1137, by decide +kernel, by decide +kernel, by decide +kernel⟩
theorem kV_X5_dropLast : KV yX5_dropLast cX5_dropLast 1 none 0 := ⟨m_1151, m_1152, m_85, m_1153, by decide +kernel, by decide +kernel, by decide +kernel⟩
theorem fl_RX3_35 : FLK RX3 35 3 6 .int false := ⟨RX3, TX3, 9, tyX3, rfl, inB3, tyX3_ok, nmX3, by decide, rfl, rfl, Or.inl m_226⟩
theorem fl_RX3_41 : FLK RX3 41 3 8 .boolean false := ⟨RX3, TX3, 9, tyX3, rfl, inB3, tyX3_ok, nmX3, by decide, rfl, rfl, Or.inl m_229⟩
theorem ch_cX3_tryRows_0 : (cX3_tryRows.data.toList.drop 0).take 36 = [42, 180, 0, 35, 27, 2, 130, 126, 154, 0, 40, 42, 180, 0, 41, 153, 0, 11, 42, 29, 182, 0, 52, 153, 0, 24, 42, 4, 181, 0, 41, 42, 29, 181, 0, 38] := by decide +kernel
theorem dX3_tryRows_0 : decode cX3_tryRows 0 = .ok (.aload_n 0, 1) := do_42 (rdb (p := 0) (i := 0) ch_cX3_tryRows_0 rfl)
theorem dX3_tryRows_1 : decode cX3_tryRows 1 = .ok (.getfield 35, 3) := do_180 (rdb (p := 0) (i := 1) ch_cX3_tryRows_0 rfl) (rdb (p := 0) (i := 2) ch_cX3_tryRows_0 rfl) (rdb (p := 0) (i := 3) ch_cX3_tryRows_0 rfl) rfl
theorem dX3_tryRows_4 : decode cX3_tryRows 4 = .ok (.iload_n 1, 1) := do_27 (rdb (p := 0) (i := 4) ch_cX3_tryRows_0 rfl)
theorem dX3_tryRows_5 : decode cX3_tryRows 5 = .ok (.iconst (-1), 1) := do_2 (rdb (p := 0) (i := 5) ch_cX3_tryRows_0 rfl)
theorem dX3_tryRows_6 : decode cX3_tryRows 6 = .ok (.ixor, 1) := do_130 (rdb (p := 0) (i := 6) ch_cX3_tryRows_0 rfl)
theorem dX3_tryRows_7 : decode cX3_tryRows 7 = .ok (.iand, 1) := do_126 (rdb (p := 0) (i := 7) ch_cX3_tryRows_0 rfl)
theorem dX3_tryRows_8 : decode cX3_tryRows 8 = .ok (.ifCond .ne 40, 3) := do_154 (rdb (p := 0) (i := 8) ch_cX3_tryRows_0 rfl) (rdb (p := 0) (i := 9) ch_cX3_tryRows_0 rfl) (rdb (p := 0) (i := 10) ch_cX3_tryRows_0 rfl) (by decide +kernel)
theorem dX3_tryRows_11 : decode cX3_tryRows 11 = .ok (.aload_n 0, 1) := do_42 (rdb (p := 0) (i := 11) ch_cX3_tryRows_0 rfl)
theorem dX3_tryRows_12 : decode cX3_tryRows 12 = .ok (.getfield 41, 3) := do_180 (rdb (p := 0) (i := 12) ch_cX3_tryRows_0 rfl) (rdb (p := 0) (i := 13) ch_cX3_tryRows_0 rfl) (rdb (p := 0) (i := 14) ch_cX3_tryRows_0 rfl) rfl
theorem dX3_tryRows_15 : decode cX3_tryRows 15 = .ok (.ifCond .eq 11, 3) := do_153 (rdb (p := 0) (i := 15) ch_cX3_tryRows_0 rfl) (rdb (p := 0) (i := 16) ch_cX3_tryRows_0 rfl) (rdb (p := 0) (i := 17) ch_cX3_tryRows_0 rfl) (by decide +kernel)
theorem dX3_tryRows_18 : decode cX3_tryRows 18 = .ok (.aload_n 0, 1) := do_42 (rdb (p := 0) (i := 18) ch_cX3_tryRows_0 rfl)
theorem dX3_tryRows_19 : decode cX3_tryRows 19 = .ok (.iload_n 3, 1) := do_29 (rdb (p := 0) (i := 19) ch_cX3_tryRows_0 rfl)
theorem dX3_tryRows_20 : decode cX3_tryRows 20 = .ok (.invokevirtual 52, 3) := do_182 (rdb (p := 0) (i := 20) ch_cX3_tryRows_0 rfl) (rdb (p := 0) (i := 21) ch_cX3_tryRows_0 rfl) (rdb (p := 0) (i := 22) ch_cX3_tryRows_0 rfl) rfl
theorem dX3_tryRows_23 : decode cX3_tryRows 23 = .ok (.ifCond .eq 24, 3) := do_153 (rdb (p := 0) (i := 23) ch_cX3_tryRows_0 rfl) (rdb (p := 0) (i := 24) ch_cX3_tryRows_0 rfl) (rdb (p := 0) (i := 25) ch_cX3_tryRows_0 rfl) (by decide +kernel)
theorem dX3_tryRows_26 : decode cX3_tryRows 26 = .ok (.aload_n 0, 1) := do_42 (rdb (p := 0) (i := 26) ch_cX3_tryRows_0 rfl)
theorem dX3_tryRows_27 : decode cX3_tryRows 27 = .ok (.iconst 1, 1) := do_4 (rdb (p := 0) (i := 27) ch_cX3_tryRows_0 rfl)
theorem dX3_tryRows_28 : decode cX3_tryRows 28 = .ok (.putfield 41, 3) := do_181 (rdb (p := 0) (i := 28) ch_cX3_tryRows_0 rfl) (rdb (p := 0) (i := 29) ch_cX3_tryRows_0 rfl) (rdb (p := 0) (i := 30) ch_cX3_tryRows_0 rfl) rfl
theorem dX3_tryRows_31 : decode cX3_tryRows 31 = .ok (.aload_n 0, 1) := do_42 (rdb (p := 0) (i := 31) ch_cX3_tryRows_0 rfl)
theorem ch_cX3_tryRows_32 : (cX3_tryRows.data.toList.drop 32).take 36 = [29, 181, 0, 38, 42, 180, 0, 32, 42, 180, 0, 28, 182, 0, 56, 177, 42, 180, 0, 28, 182, 0, 60, 153, 0, 18, 42, 180, 0, 41, 153, 0, 12, 29, 42, 180] := by decide +kernel
theorem dX3_tryRows_32 : decode cX3_tryRows 32 = .ok (.iload_n 3, 1) := do_29 (rdb (p := 32) (i := 0) ch_cX3_tryRows_32 rfl)
theorem dX3_tryRows_33 : decode cX3_tryRows 33 = .ok (.putfield 38, 3) := do_181 (rdb (p := 32) (i := 1) ch_cX3_tryRows_32 rfl) (rdb (p := 32) (i := 2) ch_cX3_tryRows_32 rfl) (rdb (p := 32) (i := 3) ch_cX3_tryRows_32 rfl) rfl
theorem dX3_tryRows_36 : decode cX3_tryRows 36 = .ok (.aload_n 0, 1) := do_42 (rdb (p := 32) (i := 4) ch_cX3_tryRows_32 rfl)
theorem dX3_tryRows_37 : decode cX3_tryRows 37 = .ok (.getfield 32, 3) := do_180 (rdb (p := 32) (i := 5) ch_cX3_tryRows_32 rfl) (rdb (p := 32) (i := 6) ch_cX3_tryRows_32 rfl) (rdb (p := 32) (i := 7) ch_cX3_tryRows_32 rfl) rfl
theorem dX3_tryRows_40 : decode cX3_tryRows 40 = .ok (.aload_n 0, 1) := do_42 (rdb (p := 32) (i := 8) ch_cX3_tryRows_32 rfl)
theorem dX3_tryRows_41 : decode cX3_tryRows 41 = .ok (.getfield 28, 3) := do_180 (rdb (p := 32) (i := 9) ch_cX3_tryRows_32 rfl) (rdb (p := 32) (i := 10) ch_cX3_tryRows_32 rfl) (rdb (p := 32) (i := 11) ch_cX3_tryRows_32 rfl) rfl
theorem dX3_tryRows_44 : decode cX3_tryRows 44 = .ok (.invokevirtual 56, 3) := do_182 (rdb (p := 32) (i := 12) ch_cX3_tryRows_32 rfl) (rdb (p := 32) (i := 13) ch_cX3_tryRows_32 rfl) (rdb (p := 32) (i := 14) ch_cX3_tryRows_32 rfl) rfl
theorem dX3_tryRows_47 : decode cX3_tryRows 47 = .ok (.return_, 1) := do_177 (rdb (p := 32) (i := 15) ch_cX3_tryRows_32 rfl)
theorem dX3_tryRows_48 : decode cX3_tryRows 48 = .ok (.aload_n 0, 1) := do_42 (rdb (p := 32) (i := 16) ch_cX3_tryRows_32 rfl)
theorem dX3_tryRows_49 : decode cX3_tryRows 49 = .ok (.getfield 28, 3) := do_180 (rdb (p := 32) (i := 17) ch_cX3_tryRows_32 rfl) (rdb (p := 32) (i := 18) ch_cX3_tryRows_32 rfl) (rdb (p := 32) (i := 19) ch_cX3_tryRows_32 rfl) rfl
theorem dX3_tryRows_52 : decode cX3_tryRows 52 = .ok (.invokevirtual 60, 3) := do_182 (rdb (p := 32) (i := 20) ch_cX3_tryRows_32 rfl) (rdb (p := 32) (i := 21) ch_cX3_tryRows_32 rfl) (rdb (p := 32) (i := 22) ch_cX3_tryRows_32 rfl) rfl
theorem dX3_tryRows_55 : decode cX3_tryRows 55 = .ok (.ifCond .eq 18, 3) := do_153 (rdb (p := 32) (i := 23) ch_cX3_tryRows_32 rfl) (rdb (p := 32) (i := 24) ch_cX3_tryRows_32 rfl) (rdb (p := 32) (i := 25) ch_cX3_tryRows_32 rfl) (by decide +kernel)
theorem dX3_tryRows_58 : decode cX3_tryRows 58 = .ok (.aload_n 0, 1) := do_42 (rdb (p := 32) (i := 26) ch_cX3_tryRows_32 rfl)
theorem dX3_tryRows_59 : decode cX3_tryRows 59 = .ok (.getfield 41, 3) := do_180 (rdb (p := 32) (i := 27) ch_cX3_tryRows_32 rfl) (rdb (p := 32) (i := 28) ch_cX3_tryRows_32 rfl) (rdb (p := 32) (i := 29) ch_cX3_tryRows_32 rfl) rfl
theorem dX3_tryRows_62 : decode cX3_tryRows 62 = .ok (.ifCond .eq 12, 3) := do_153 (rdb (p := 32) (i := 30) ch_cX3_tryRows_32 rfl) (rdb (p := 32) (i := 31) ch_cX3_tryRows_32 rfl) (rdb (p := 32) (i := 32) ch_cX3_tryRows_32 rfl) (by decide +kernel)
theorem ch_cX3_tryRows_64 : (cX3_tryRows.data.toList.drop 64).take 36 = [12, 29, 42, 180, 0, 38, 164, 0, 4, 177, 3, 54, 4, 21, 4, 42, 180, 0, 19, 162, 0, 83, 21, 4, 16, 7, 162, 0, 76, 28, 4, 21, 4, 120, 126, 154] := by decide +kernel
theorem dX3_tryRows_65 : decode cX3_tryRows 65 = .ok (.iload_n 3, 1) := do_29 (rdb (p := 64) (i := 1) ch_cX3_tryRows_64 rfl)
theorem dX3_tryRows_66 : decode cX3_tryRows 66 = .ok (.aload_n 0, 1) := do_42 (rdb (p := 64) (i := 2) ch_cX3_tryRows_64 rfl)
theorem dX3_tryRows_67 : decode cX3_tryRows 67 = .ok (.getfield 38, 3) := do_180 (rdb (p := 64) (i := 3) ch_cX3_tryRows_64 rfl) (rdb (p := 64) (i := 4) ch_cX3_tryRows_64 rfl) (rdb (p := 64) (i := 5) ch_cX3_tryRows_64 rfl) rfl
theorem dX3_tryRows_70 : decode cX3_tryRows 70 = .ok (.if_icmp .le 4, 3) := do_164 (rdb (p := 64) (i := 6) ch_cX3_tryRows_64 rfl) (rdb (p := 64) (i := 7) ch_cX3_tryRows_64 rfl) (rdb (p := 64) (i := 8) ch_cX3_tryRows_64 rfl) (by decide +kernel)
theorem dX3_tryRows_73 : decode cX3_tryRows 73 = .ok (.return_, 1) := do_177 (rdb (p := 64) (i := 9) ch_cX3_tryRows_64 rfl)
theorem dX3_tryRows_74 : decode cX3_tryRows 74 = .ok (.iconst 0, 1) := do_3 (rdb (p := 64) (i := 10) ch_cX3_tryRows_64 rfl)
theorem dX3_tryRows_75 : decode cX3_tryRows 75 = .ok (.istore 4, 2) := do_54 (rdb (p := 64) (i := 11) ch_cX3_tryRows_64 rfl) (rdb (p := 64) (i := 12) ch_cX3_tryRows_64 rfl)
theorem dX3_tryRows_77 : decode cX3_tryRows 77 = .ok (.iload 4, 2) := do_21 (rdb (p := 64) (i := 13) ch_cX3_tryRows_64 rfl) (rdb (p := 64) (i := 14) ch_cX3_tryRows_64 rfl)
theorem dX3_tryRows_79 : decode cX3_tryRows 79 = .ok (.aload_n 0, 1) := do_42 (rdb (p := 64) (i := 15) ch_cX3_tryRows_64 rfl)
theorem dX3_tryRows_80 : decode cX3_tryRows 80 = .ok (.getfield 19, 3) := do_180 (rdb (p := 64) (i := 16) ch_cX3_tryRows_64 rfl) (rdb (p := 64) (i := 17) ch_cX3_tryRows_64 rfl) (rdb (p := 64) (i := 18) ch_cX3_tryRows_64 rfl) rfl
theorem dX3_tryRows_83 : decode cX3_tryRows 83 = .ok (.if_icmp .ge 83, 3) := do_162 (rdb (p := 64) (i := 19) ch_cX3_tryRows_64 rfl) (rdb (p := 64) (i := 20) ch_cX3_tryRows_64 rfl) (rdb (p := 64) (i := 21) ch_cX3_tryRows_64 rfl) (by decide +kernel)
theorem dX3_tryRows_86 : decode cX3_tryRows 86 = .ok (.iload 4, 2) := do_21 (rdb (p := 64) (i := 22) ch_cX3_tryRows_64 rfl) (rdb (p := 64) (i := 23) ch_cX3_tryRows_64 rfl)
theorem dX3_tryRows_88 : decode cX3_tryRows 88 = .ok (.bipush 7, 2) := do_16 (rdb (p := 64) (i := 24) ch_cX3_tryRows_64 rfl) (rdb (p := 64) (i := 25) ch_cX3_tryRows_64 rfl) (by decide +kernel)
theorem dX3_tryRows_90 : decode cX3_tryRows 90 = .ok (.if_icmp .ge 76, 3) := do_162 (rdb (p := 64) (i := 26) ch_cX3_tryRows_64 rfl) (rdb (p := 64) (i := 27) ch_cX3_tryRows_64 rfl) (rdb (p := 64) (i := 28) ch_cX3_tryRows_64 rfl) (by decide +kernel)
theorem dX3_tryRows_93 : decode cX3_tryRows 93 = .ok (.iload_n 2, 1) := do_28 (rdb (p := 64) (i := 29) ch_cX3_tryRows_64 rfl)
theorem dX3_tryRows_94 : decode cX3_tryRows 94 = .ok (.iconst 1, 1) := do_4 (rdb (p := 64) (i := 30) ch_cX3_tryRows_64 rfl)
theorem dX3_tryRows_95 : decode cX3_tryRows 95 = .ok (.iload 4, 2) := do_21 (rdb (p := 64) (i := 31) ch_cX3_tryRows_64 rfl) (rdb (p := 64) (i := 32) ch_cX3_tryRows_64 rfl)
theorem ch_cX3_tryRows_96 : (cX3_tryRows.data.toList.drop 96).take 36 = [4, 120, 126, 154, 0, 61, 42, 180, 0, 13, 21, 4, 46, 27, 2, 130, 126, 154, 0, 47, 42, 180, 0, 28, 21, 4, 182, 0, 64, 42, 27, 42, 180, 0, 9, 21] := by decide +kernel
theorem dX3_tryRows_97 : decode cX3_tryRows 97 = .ok (.ishl, 1) := do_120 (rdb (p := 96) (i := 1) ch_cX3_tryRows_96 rfl)
theorem dX3_tryRows_98 : decode cX3_tryRows 98 = .ok (.iand, 1) := do_126 (rdb (p := 96) (i := 2) ch_cX3_tryRows_96 rfl)
theorem dX3_tryRows_99 : decode cX3_tryRows 99 = .ok (.ifCond .ne 61, 3) := do_154 (rdb (p := 96) (i := 3) ch_cX3_tryRows_96 rfl) (rdb (p := 96) (i := 4) ch_cX3_tryRows_96 rfl) (rdb (p := 96) (i := 5) ch_cX3_tryRows_96 rfl) (by decide +kernel)
theorem dX3_tryRows_102 : decode cX3_tryRows 102 = .ok (.aload_n 0, 1) := do_42 (rdb (p := 96) (i := 6) ch_cX3_tryRows_96 rfl)
theorem dX3_tryRows_103 : decode cX3_tryRows 103 = .ok (.getfield 13, 3) := do_180 (rdb (p := 96) (i := 7) ch_cX3_tryRows_96 rfl) (rdb (p := 96) (i := 8) ch_cX3_tryRows_96 rfl) (rdb (p := 96) (i := 9) ch_cX3_tryRows_96 rfl) rfl
theorem dX3_tryRows_106 : decode cX3_tryRows 106 = .ok (.iload 4, 2) := do_21 (rdb (p := 96) (i := 10) ch_cX3_tryRows_96 rfl) (rdb (p := 96) (i := 11) ch_cX3_tryRows_96 rfl)
theorem dX3_tryRows_108 : decode cX3_tryRows 108 = .ok (.iaload, 1) := do_46 (rdb (p := 96) (i := 12) ch_cX3_tryRows_96 rfl)
theorem dX3_tryRows_109 : decode cX3_tryRows 109 = .ok (.iload_n 1, 1) := do_27 (rdb (p := 96) (i := 13) ch_cX3_tryRows_96 rfl)
theorem dX3_tryRows_110 : decode cX3_tryRows 110 = .ok (.iconst (-1), 1) := do_2 (rdb (p := 96) (i := 14) ch_cX3_tryRows_96 rfl)
theorem dX3_tryRows_111 : decode cX3_tryRows 111 = .ok (.ixor, 1) := do_130 (rdb (p := 96) (i := 15) ch_cX3_tryRows_96 rfl)
theorem dX3_tryRows_112 : decode cX3_tryRows 112 = .ok (.iand, 1) := do_126 (rdb (p := 96) (i := 16) ch_cX3_tryRows_96 rfl)
theorem dX3_tryRows_113 : decode cX3_tryRows 113 = .ok (.ifCond .ne 47, 3) := do_154 (rdb (p := 96) (i := 17) ch_cX3_tryRows_96 rfl) (rdb (p := 96) (i := 18) ch_cX3_tryRows_96 rfl) (rdb (p := 96) (i := 19) ch_cX3_tryRows_96 rfl) (by decide +kernel)
theorem dX3_tryRows_116 : decode cX3_tryRows 116 = .ok (.aload_n 0, 1) := do_42 (rdb (p := 96) (i := 20) ch_cX3_tryRows_96 rfl)
theorem dX3_tryRows_117 : decode cX3_tryRows 117 = .ok (.getfield 28, 3) := do_180 (rdb (p := 96) (i := 21) ch_cX3_tryRows_96 rfl) (rdb (p := 96) (i := 22) ch_cX3_tryRows_96 rfl) (rdb (p := 96) (i := 23) ch_cX3_tryRows_96 rfl) rfl
theorem dX3_tryRows_120 : decode cX3_tryRows 120 = .ok (.iload 4, 2) := do_21 (rdb (p := 96) (i := 24) ch_cX3_tryRows_96 rfl) (rdb (p := 96) (i := 25) ch_cX3_tryRows_96 rfl)
theorem dX3_tryRows_122 : decode cX3_tryRows 122 = .ok (.invokevirtual 64, 3) := do_182 (rdb (p := 96) (i := 26) ch_cX3_tryRows_96 rfl) (rdb (p := 96) (i := 27) ch_cX3_tryRows_96 rfl) (rdb (p := 96) (i := 28) ch_cX3_tryRows_96 rfl) rfl
theorem dX3_tryRows_125 : decode cX3_tryRows 125 = .ok (.aload_n 0, 1) := do_42 (rdb (p := 96) (i := 29) ch_cX3_tryRows_96 rfl)
theorem dX3_tryRows_126 : decode cX3_tryRows 126 = .ok (.iload_n 1, 1) := do_27 (rdb (p := 96) (i := 30) ch_cX3_tryRows_96 rfl)
theorem dX3_tryRows_127 : decode cX3_tryRows 127 = .ok (.aload_n 0, 1) := do_42 (rdb (p := 96) (i := 31) ch_cX3_tryRows_96 rfl)
theorem ch_cX3_tryRows_128 : (cX3_tryRows.data.toList.drop 128).take 36 = [180, 0, 9, 21, 4, 46, 128, 28, 4, 21, 4, 120, 128, 29, 42, 180, 0, 16, 21, 4, 46, 96, 182, 0, 48, 42, 180, 0, 28, 182, 0, 67, 132, 4, 1, 167] := by decide +kernel
theorem dX3_tryRows_128 : decode cX3_tryRows 128 = .ok (.getfield 9, 3) := do_180 (rdb (p := 128) (i := 0) ch_cX3_tryRows_128 rfl) (rdb (p := 128) (i := 1) ch_cX3_tryRows_128 rfl) (rdb (p := 128) (i := 2) ch_cX3_tryRows_128 rfl) rfl
theorem dX3_tryRows_131 : decode cX3_tryRows 131 = .ok (.iload 4, 2) := do_21 (rdb (p := 128) (i := 3) ch_cX3_tryRows_128 rfl) (rdb (p := 128) (i := 4) ch_cX3_tryRows_128 rfl)
theorem dX3_tryRows_133 : decode cX3_tryRows 133 = .ok (.iaload, 1) := do_46 (rdb (p := 128) (i := 5) ch_cX3_tryRows_128 rfl)
theorem dX3_tryRows_134 : decode cX3_tryRows 134 = .ok (.ior, 1) := do_128 (rdb (p := 128) (i := 6) ch_cX3_tryRows_128 rfl)
theorem dX3_tryRows_135 : decode cX3_tryRows 135 = .ok (.iload_n 2, 1) := do_28 (rdb (p := 128) (i := 7) ch_cX3_tryRows_128 rfl)
theorem dX3_tryRows_136 : decode cX3_tryRows 136 = .ok (.iconst 1, 1) := do_4 (rdb (p := 128) (i := 8) ch_cX3_tryRows_128 rfl)
theorem dX3_tryRows_137 : decode cX3_tryRows 137 = .ok (.iload 4, 2) := do_21 (rdb (p := 128) (i := 9) ch_cX3_tryRows_128 rfl) (rdb (p := 128) (i := 10) ch_cX3_tryRows_128 rfl)
theorem dX3_tryRows_139 : decode cX3_tryRows 139 = .ok (.ishl, 1) := do_120 (rdb (p := 128) (i := 11) ch_cX3_tryRows_128 rfl)
theorem dX3_tryRows_140 : decode cX3_tryRows 140 = .ok (.ior, 1) := do_128 (rdb (p := 128) (i := 12) ch_cX3_tryRows_128 rfl)
theorem dX3_tryRows_141 : decode cX3_tryRows 141 = .ok (.iload_n 3, 1) := do_29 (rdb (p := 128) (i := 13) ch_cX3_tryRows_128 rfl)
theorem dX3_tryRows_142 : decode cX3_tryRows 142 = .ok (.aload_n 0, 1) := do_42 (rdb (p := 128) (i := 14) ch_cX3_tryRows_128 rfl)
theorem dX3_tryRows_143 : decode cX3_tryRows 143 = .ok (.getfield 16, 3) := do_180 (rdb (p := 128) (i := 15) ch_cX3_tryRows_128 rfl) (rdb (p := 128) (i := 16) ch_cX3_tryRows_128 rfl) (rdb (p := 128) (i := 17) ch_cX3_tryRows_128 rfl) rfl
theorem dX3_tryRows_146 : decode cX3_tryRows 146 = .ok (.iload 4, 2) := do_21 (rdb (p := 128) (i := 18) ch_cX3_tryRows_128 rfl) (rdb (p := 128) (i := 19) ch_cX3_tryRows_128 rfl)
theorem dX3_tryRows_148 : decode cX3_tryRows 148 = .ok (.iaload, 1) := do_46 (rdb (p := 128) (i := 20) ch_cX3_tryRows_128 rfl)
theorem dX3_tryRows_149 : decode cX3_tryRows 149 = .ok (.iadd, 1) := do_96 (rdb (p := 128) (i := 21) ch_cX3_tryRows_128 rfl)
theorem dX3_tryRows_150 : decode cX3_tryRows 150 = .ok (.invokevirtual 48, 3) := do_182 (rdb (p := 128) (i := 22) ch_cX3_tryRows_128 rfl) (rdb (p := 128) (i := 23) ch_cX3_tryRows_128 rfl) (rdb (p := 128) (i := 24) ch_cX3_tryRows_128 rfl) rfl
theorem dX3_tryRows_153 : decode cX3_tryRows 153 = .ok (.aload_n 0, 1) := do_42 (rdb (p := 128) (i := 25) ch_cX3_tryRows_128 rfl)
theorem dX3_tryRows_154 : decode cX3_tryRows 154 = .ok (.getfield 28, 3) := do_180 (rdb (p := 128) (i := 26) ch_cX3_tryRows_128 rfl) (rdb (p := 128) (i := 27) ch_cX3_tryRows_128 rfl) (rdb (p := 128) (i := 28) ch_cX3_tryRows_128 rfl) rfl
theorem dX3_tryRows_157 : decode cX3_tryRows 157 = .ok (.invokevirtual 67, 3) := do_182 (rdb (p := 128) (i := 29) ch_cX3_tryRows_128 rfl) (rdb (p := 128) (i := 30) ch_cX3_tryRows_128 rfl) (rdb (p := 128) (i := 31) ch_cX3_tryRows_128 rfl) rfl
theorem ch_cX3_tryRows_160 : (cX3_tryRows.data.toList.drop 160).take 36 = [132, 4, 1, 167, 255, 170, 177] := by decide +kernel
theorem dX3_tryRows_160 : decode cX3_tryRows 160 = .ok (.iinc 4 1, 3) := do_132 (rdb (p := 160) (i := 0) ch_cX3_tryRows_160 rfl) (rdb (p := 160) (i := 1) ch_cX3_tryRows_160 rfl) (rdb (p := 160) (i := 2) ch_cX3_tryRows_160 rfl) (by decide +kernel)
theorem dX3_tryRows_163 : decode cX3_tryRows 163 = .ok (.goto (-86), 3) := do_167 (rdb (p := 160) (i := 3) ch_cX3_tryRows_160 rfl) (rdb (p := 160) (i := 4) ch_cX3_tryRows_160 rfl) (rdb (p := 160) (i := 5) ch_cX3_tryRows_160 rfl) (by decide +kernel)
theorem dX3_tryRows_166 : decode cX3_tryRows 166 = .ok (.return_, 1) := do_177 (rdb (p := 160) (i := 6) ch_cX3_tryRows_160 rfl)
