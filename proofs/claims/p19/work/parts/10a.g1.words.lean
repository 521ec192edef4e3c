/-! words of the tables that are used, by their places; decode rows; fields -/
theorem li_m1 : ((-1) : Int32).toInt = -1 := by decide
theorem li_0 : (0 : Int32).toInt = 0 := by decide
theorem li_1 : (1 : Int32).toInt = 1 := by decide
theorem li_3 : (3 : Int32).toInt = 3 := by decide
theorem li_4 : (4 : Int32).toInt = 4 := by decide
theorem li_7 : (7 : Int32).toInt = 7 := by decide
theorem li_8 : (8 : Int32).toInt = 8 := by decide
theorem li_12 : (12 : Int32).toInt = 12 := by decide
theorem li_16 : (16 : Int32).toInt = 16 := by decide
theorem li_31 : (31 : Int32).toInt = 31 := by decide
theorem li_192 : (192 : Int32).toInt = 192 := by decide
set_option maxRecDepth 20000 in
theorem m_79 : Cond.initialized RX11 ∈ BASE := bmT1 1 rfl rfl
set_option maxRecDepth 20000 in
theorem m_81 : Cond.initialized RX7 ∈ BASE := bmT1 3 rfl rfl
set_option maxRecDepth 20000 in
theorem m_494 : Cond.methodLink RX11 89 yX11_within ∈ BASE := bmT2 176 rfl rfl
set_option maxRecDepth 20000 in
theorem m_495 : Cond.static yX11_within ∈ BASE := bmT2 177 rfl rfl
set_option maxRecDepth 20000 in
theorem m_496 : Cond.code yX11_within cX11_within 3 (some .boolean) ∈ BASE := bmT2 178 rfl rfl
set_option maxRecDepth 20000 in
theorem m_498 : Cond.static yX7_isCell ∈ BASE := bmT2 180 rfl rfl
set_option maxRecDepth 20000 in
theorem m_499 : Cond.code yX7_isCell cX7_isCell 1 (some .boolean) ∈ BASE := bmT2 181 rfl rfl
set_option maxRecDepth 20000 in
theorem m_509 : Cond.methodLink RX7 29 yX7_isCell ∈ BASE := bmT2 191 rfl rfl
set_option maxRecDepth 20000 in
theorem m_540 : Cond.static yX7_isSide ∈ BASE := bmT2 222 rfl rfl
set_option maxRecDepth 20000 in
theorem m_541 : Cond.code yX7_isSide cX7_isSide 1 (some .boolean) ∈ BASE := bmT2 223 rfl rfl
set_option maxRecDepth 20000 in
theorem m_646 : Cond.fieldLink RX9 47 "ClickStreet$Walker" "ABOVE" "[I" ∈ BASE := bmT3 88 rfl rfl
set_option maxRecDepth 20000 in
theorem m_852 : Cond.methodLink RX7 33 yX7_isSide ∈ BASE := bmT4 54 rfl rfl
set_option maxRecDepth 20000 in
theorem m_853 : Cond.fieldLink RX7 36 "ClickStreet$Street" "EAST" "[I" ∈ BASE := bmT4 55 rfl rfl
set_option maxRecDepth 20000 in
theorem m_855 : Cond.fieldLink RX7 39 "ClickStreet$Street" "SOUTH" "[I" ∈ BASE := bmT4 57 rfl rfl
theorem kS_X11_within : KS yX11_within cX11_within 3 (some .boolean) 3 := ⟨m_495, m_79, m_496, nhM_0, nhV_0, pdn_0⟩
theorem kS_X7_isCell : KS yX7_isCell cX7_isCell 1 (some .boolean) 1 := ⟨m_498, m_81, m_499, nhM_1, nhV_1, pdn_1⟩
theorem kS_X7_isSide : KS yX7_isSide cX7_isSide 1 (some .boolean) 1 := ⟨m_540, m_81, m_541, nhM_1, nhV_1, pdn_1⟩
theorem dX11_isBits_0 : decode cX11_isBits 0 = .ok (.iload_n 0, 1) := by decide +kernel
theorem dX11_isBits_1 : decode cX11_isBits 1 = .ok (.iconst 0, 1) := by decide +kernel
theorem dX11_isBits_2 : decode cX11_isBits 2 = .ok (.bipush 31, 2) := by decide +kernel
theorem dX11_isBits_4 : decode cX11_isBits 4 = .ok (.invokestatic 89, 3) := by decide +kernel
theorem dX11_isBits_7 : decode cX11_isBits 7 = .ok (.ireturn, 1) := by decide +kernel
theorem dX11_isSheet_0 : decode cX11_isSheet 0 = .ok (.iload_n 0, 1) := by decide +kernel
theorem dX11_isSheet_1 : decode cX11_isSheet 1 = .ok (.iconst 0, 1) := by decide +kernel
theorem dX11_isSheet_2 : decode cX11_isSheet 2 = .ok (.iconst 3, 1) := by decide +kernel
theorem dX11_isSheet_3 : decode cX11_isSheet 3 = .ok (.invokestatic 89, 3) := by decide +kernel
theorem dX11_isSheet_6 : decode cX11_isSheet 6 = .ok (.ireturn, 1) := by decide +kernel
theorem dX11_isThingKind_0 : decode cX11_isThingKind 0 = .ok (.iload_n 0, 1) := by decide +kernel
theorem dX11_isThingKind_1 : decode cX11_isThingKind 1 = .ok (.iconst 0, 1) := by decide +kernel
theorem dX11_isThingKind_2 : decode cX11_isThingKind 2 = .ok (.iconst 4, 1) := by decide +kernel
theorem dX11_isThingKind_3 : decode cX11_isThingKind 3 = .ok (.invokestatic 89, 3) := by decide +kernel
theorem dX11_isThingKind_6 : decode cX11_isThingKind 6 = .ok (.ireturn, 1) := by decide +kernel
theorem dX11_isWalkerKind_0 : decode cX11_isWalkerKind 0 = .ok (.iload_n 0, 1) := by decide +kernel
theorem dX11_isWalkerKind_1 : decode cX11_isWalkerKind 1 = .ok (.iconst 0, 1) := by decide +kernel
theorem dX11_isWalkerKind_2 : decode cX11_isWalkerKind 2 = .ok (.bipush 7, 2) := by decide +kernel
theorem dX11_isWalkerKind_4 : decode cX11_isWalkerKind 4 = .ok (.invokestatic 89, 3) := by decide +kernel
theorem dX11_isWalkerKind_7 : decode cX11_isWalkerKind 7 = .ok (.ireturn, 1) := by decide +kernel
theorem dX11_within_0 : decode cX11_within 0 = .ok (.iload_n 0, 1) := by decide +kernel
theorem dX11_within_1 : decode cX11_within 1 = .ok (.iload_n 1, 1) := by decide +kernel
theorem dX11_within_2 : decode cX11_within 2 = .ok (.if_icmp .lt 12, 3) := by decide +kernel
theorem dX11_within_5 : decode cX11_within 5 = .ok (.iload_n 0, 1) := by decide +kernel
theorem dX11_within_6 : decode cX11_within 6 = .ok (.iload_n 2, 1) := by decide +kernel
theorem dX11_within_7 : decode cX11_within 7 = .ok (.if_icmp .gt 7, 3) := by decide +kernel
theorem dX11_within_10 : decode cX11_within 10 = .ok (.iconst 1, 1) := by decide +kernel
theorem dX11_within_11 : decode cX11_within 11 = .ok (.goto 4, 3) := by decide +kernel
theorem dX11_within_14 : decode cX11_within 14 = .ok (.iconst 0, 1) := by decide +kernel
theorem dX11_within_15 : decode cX11_within 15 = .ok (.ireturn, 1) := by decide +kernel
theorem ch_cX7_cellFrom_0 : (cX7_cellFrom.data.toList.drop 0).take 36 = [26, 184, 0, 29, 153, 0, 20, 27, 184, 0, 33, 153, 0, 13, 28, 155, 0, 9, 28, 16, 16, 164, 0, 5, 2, 172, 26, 16, 16, 112, 28, 178, 0, 36, 27, 46] := by decide +kernel
theorem dX7_cellFrom_0 : decode cX7_cellFrom 0 = .ok (.iload_n 0, 1) := do_26 (rdb (p := 0) (i := 0) ch_cX7_cellFrom_0 rfl)
theorem dX7_cellFrom_1 : decode cX7_cellFrom 1 = .ok (.invokestatic 29, 3) := do_184 (rdb (p := 0) (i := 1) ch_cX7_cellFrom_0 rfl) (rdb (p := 0) (i := 2) ch_cX7_cellFrom_0 rfl) (rdb (p := 0) (i := 3) ch_cX7_cellFrom_0 rfl) rfl
theorem dX7_cellFrom_4 : decode cX7_cellFrom 4 = .ok (.ifCond .eq 20, 3) := do_153 (rdb (p := 0) (i := 4) ch_cX7_cellFrom_0 rfl) (rdb (p := 0) (i := 5) ch_cX7_cellFrom_0 rfl) (rdb (p := 0) (i := 6) ch_cX7_cellFrom_0 rfl) (by decide +kernel)
theorem dX7_cellFrom_7 : decode cX7_cellFrom 7 = .ok (.iload_n 1, 1) := do_27 (rdb (p := 0) (i := 7) ch_cX7_cellFrom_0 rfl)
theorem dX7_cellFrom_8 : decode cX7_cellFrom 8 = .ok (.invokestatic 33, 3) := do_184 (rdb (p := 0) (i := 8) ch_cX7_cellFrom_0 rfl) (rdb (p := 0) (i := 9) ch_cX7_cellFrom_0 rfl) (rdb (p := 0) (i := 10) ch_cX7_cellFrom_0 rfl) rfl
theorem dX7_cellFrom_11 : decode cX7_cellFrom 11 = .ok (.ifCond .eq 13, 3) := do_153 (rdb (p := 0) (i := 11) ch_cX7_cellFrom_0 rfl) (rdb (p := 0) (i := 12) ch_cX7_cellFrom_0 rfl) (rdb (p := 0) (i := 13) ch_cX7_cellFrom_0 rfl) (by decide +kernel)
theorem dX7_cellFrom_14 : decode cX7_cellFrom 14 = .ok (.iload_n 2, 1) := do_28 (rdb (p := 0) (i := 14) ch_cX7_cellFrom_0 rfl)
theorem dX7_cellFrom_15 : decode cX7_cellFrom 15 = .ok (.ifCond .lt 9, 3) := do_155 (rdb (p := 0) (i := 15) ch_cX7_cellFrom_0 rfl) (rdb (p := 0) (i := 16) ch_cX7_cellFrom_0 rfl) (rdb (p := 0) (i := 17) ch_cX7_cellFrom_0 rfl) (by decide +kernel)
theorem dX7_cellFrom_18 : decode cX7_cellFrom 18 = .ok (.iload_n 2, 1) := do_28 (rdb (p := 0) (i := 18) ch_cX7_cellFrom_0 rfl)
theorem dX7_cellFrom_19 : decode cX7_cellFrom 19 = .ok (.bipush 16, 2) := do_16 (rdb (p := 0) (i := 19) ch_cX7_cellFrom_0 rfl) (rdb (p := 0) (i := 20) ch_cX7_cellFrom_0 rfl) (by decide +kernel)
theorem dX7_cellFrom_21 : decode cX7_cellFrom 21 = .ok (.if_icmp .le 5, 3) := do_164 (rdb (p := 0) (i := 21) ch_cX7_cellFrom_0 rfl) (rdb (p := 0) (i := 22) ch_cX7_cellFrom_0 rfl) (rdb (p := 0) (i := 23) ch_cX7_cellFrom_0 rfl) (by decide +kernel)
theorem dX7_cellFrom_24 : decode cX7_cellFrom 24 = .ok (.iconst (-1), 1) := do_2 (rdb (p := 0) (i := 24) ch_cX7_cellFrom_0 rfl)
theorem dX7_cellFrom_25 : decode cX7_cellFrom 25 = .ok (.ireturn, 1) := do_172 (rdb (p := 0) (i := 25) ch_cX7_cellFrom_0 rfl)
theorem dX7_cellFrom_26 : decode cX7_cellFrom 26 = .ok (.iload_n 0, 1) := do_26 (rdb (p := 0) (i := 26) ch_cX7_cellFrom_0 rfl)
theorem dX7_cellFrom_27 : decode cX7_cellFrom 27 = .ok (.bipush 16, 2) := do_16 (rdb (p := 0) (i := 27) ch_cX7_cellFrom_0 rfl) (rdb (p := 0) (i := 28) ch_cX7_cellFrom_0 rfl) (by decide +kernel)
theorem dX7_cellFrom_29 : decode cX7_cellFrom 29 = .ok (.irem, 1) := do_112 (rdb (p := 0) (i := 29) ch_cX7_cellFrom_0 rfl)
theorem dX7_cellFrom_30 : decode cX7_cellFrom 30 = .ok (.iload_n 2, 1) := do_28 (rdb (p := 0) (i := 30) ch_cX7_cellFrom_0 rfl)
theorem dX7_cellFrom_31 : decode cX7_cellFrom 31 = .ok (.getstatic 36, 3) := do_178 (rdb (p := 0) (i := 31) ch_cX7_cellFrom_0 rfl) (rdb (p := 0) (i := 32) ch_cX7_cellFrom_0 rfl) (rdb (p := 0) (i := 33) ch_cX7_cellFrom_0 rfl) rfl
theorem ch_cX7_cellFrom_32 : (cX7_cellFrom.data.toList.drop 32).take 36 = [0, 36, 27, 46, 104, 96, 62, 26, 16, 16, 108, 28, 178, 0, 39, 27, 46, 104, 96, 54, 4, 29, 155, 0, 21, 29, 16, 16, 162, 0, 15, 21, 4, 155, 0, 10] := by decide +kernel
theorem dX7_cellFrom_34 : decode cX7_cellFrom 34 = .ok (.iload_n 1, 1) := do_27 (rdb (p := 32) (i := 2) ch_cX7_cellFrom_32 rfl)
theorem dX7_cellFrom_35 : decode cX7_cellFrom 35 = .ok (.iaload, 1) := do_46 (rdb (p := 32) (i := 3) ch_cX7_cellFrom_32 rfl)
theorem dX7_cellFrom_36 : decode cX7_cellFrom 36 = .ok (.imul, 1) := do_104 (rdb (p := 32) (i := 4) ch_cX7_cellFrom_32 rfl)
theorem dX7_cellFrom_37 : decode cX7_cellFrom 37 = .ok (.iadd, 1) := do_96 (rdb (p := 32) (i := 5) ch_cX7_cellFrom_32 rfl)
theorem dX7_cellFrom_38 : decode cX7_cellFrom 38 = .ok (.istore_n 3, 1) := do_62 (rdb (p := 32) (i := 6) ch_cX7_cellFrom_32 rfl)
theorem dX7_cellFrom_39 : decode cX7_cellFrom 39 = .ok (.iload_n 0, 1) := do_26 (rdb (p := 32) (i := 7) ch_cX7_cellFrom_32 rfl)
theorem dX7_cellFrom_40 : decode cX7_cellFrom 40 = .ok (.bipush 16, 2) := do_16 (rdb (p := 32) (i := 8) ch_cX7_cellFrom_32 rfl) (rdb (p := 32) (i := 9) ch_cX7_cellFrom_32 rfl) (by decide +kernel)
theorem dX7_cellFrom_42 : decode cX7_cellFrom 42 = .ok (.idiv, 1) := do_108 (rdb (p := 32) (i := 10) ch_cX7_cellFrom_32 rfl)
theorem dX7_cellFrom_43 : decode cX7_cellFrom 43 = .ok (.iload_n 2, 1) := do_28 (rdb (p := 32) (i := 11) ch_cX7_cellFrom_32 rfl)
theorem dX7_cellFrom_44 : decode cX7_cellFrom 44 = .ok (.getstatic 39, 3) := do_178 (rdb (p := 32) (i := 12) ch_cX7_cellFrom_32 rfl) (rdb (p := 32) (i := 13) ch_cX7_cellFrom_32 rfl) (rdb (p := 32) (i := 14) ch_cX7_cellFrom_32 rfl) rfl
theorem dX7_cellFrom_47 : decode cX7_cellFrom 47 = .ok (.iload_n 1, 1) := do_27 (rdb (p := 32) (i := 15) ch_cX7_cellFrom_32 rfl)
theorem dX7_cellFrom_48 : decode cX7_cellFrom 48 = .ok (.iaload, 1) := do_46 (rdb (p := 32) (i := 16) ch_cX7_cellFrom_32 rfl)
theorem dX7_cellFrom_49 : decode cX7_cellFrom 49 = .ok (.imul, 1) := do_104 (rdb (p := 32) (i := 17) ch_cX7_cellFrom_32 rfl)
theorem dX7_cellFrom_50 : decode cX7_cellFrom 50 = .ok (.iadd, 1) := do_96 (rdb (p := 32) (i := 18) ch_cX7_cellFrom_32 rfl)
theorem dX7_cellFrom_51 : decode cX7_cellFrom 51 = .ok (.istore 4, 2) := do_54 (rdb (p := 32) (i := 19) ch_cX7_cellFrom_32 rfl) (rdb (p := 32) (i := 20) ch_cX7_cellFrom_32 rfl)
theorem dX7_cellFrom_53 : decode cX7_cellFrom 53 = .ok (.iload_n 3, 1) := do_29 (rdb (p := 32) (i := 21) ch_cX7_cellFrom_32 rfl)
theorem dX7_cellFrom_54 : decode cX7_cellFrom 54 = .ok (.ifCond .lt 21, 3) := do_155 (rdb (p := 32) (i := 22) ch_cX7_cellFrom_32 rfl) (rdb (p := 32) (i := 23) ch_cX7_cellFrom_32 rfl) (rdb (p := 32) (i := 24) ch_cX7_cellFrom_32 rfl) (by decide +kernel)
theorem dX7_cellFrom_57 : decode cX7_cellFrom 57 = .ok (.iload_n 3, 1) := do_29 (rdb (p := 32) (i := 25) ch_cX7_cellFrom_32 rfl)
theorem dX7_cellFrom_58 : decode cX7_cellFrom 58 = .ok (.bipush 16, 2) := do_16 (rdb (p := 32) (i := 26) ch_cX7_cellFrom_32 rfl) (rdb (p := 32) (i := 27) ch_cX7_cellFrom_32 rfl) (by decide +kernel)
theorem dX7_cellFrom_60 : decode cX7_cellFrom 60 = .ok (.if_icmp .ge 15, 3) := do_162 (rdb (p := 32) (i := 28) ch_cX7_cellFrom_32 rfl) (rdb (p := 32) (i := 29) ch_cX7_cellFrom_32 rfl) (rdb (p := 32) (i := 30) ch_cX7_cellFrom_32 rfl) (by decide +kernel)
theorem dX7_cellFrom_63 : decode cX7_cellFrom 63 = .ok (.iload 4, 2) := do_21 (rdb (p := 32) (i := 31) ch_cX7_cellFrom_32 rfl) (rdb (p := 32) (i := 32) ch_cX7_cellFrom_32 rfl)
theorem ch_cX7_cellFrom_64 : (cX7_cellFrom.data.toList.drop 64).take 36 = [4, 155, 0, 10, 21, 4, 16, 12, 161, 0, 7, 2, 167, 0, 10, 16, 16, 21, 4, 104, 29, 96, 172] := by decide +kernel
theorem dX7_cellFrom_65 : decode cX7_cellFrom 65 = .ok (.ifCond .lt 10, 3) := do_155 (rdb (p := 64) (i := 1) ch_cX7_cellFrom_64 rfl) (rdb (p := 64) (i := 2) ch_cX7_cellFrom_64 rfl) (rdb (p := 64) (i := 3) ch_cX7_cellFrom_64 rfl) (by decide +kernel)
theorem dX7_cellFrom_68 : decode cX7_cellFrom 68 = .ok (.iload 4, 2) := do_21 (rdb (p := 64) (i := 4) ch_cX7_cellFrom_64 rfl) (rdb (p := 64) (i := 5) ch_cX7_cellFrom_64 rfl)
theorem dX7_cellFrom_70 : decode cX7_cellFrom 70 = .ok (.bipush 12, 2) := do_16 (rdb (p := 64) (i := 6) ch_cX7_cellFrom_64 rfl) (rdb (p := 64) (i := 7) ch_cX7_cellFrom_64 rfl) (by decide +kernel)
theorem dX7_cellFrom_72 : decode cX7_cellFrom 72 = .ok (.if_icmp .lt 7, 3) := do_161 (rdb (p := 64) (i := 8) ch_cX7_cellFrom_64 rfl) (rdb (p := 64) (i := 9) ch_cX7_cellFrom_64 rfl) (rdb (p := 64) (i := 10) ch_cX7_cellFrom_64 rfl) (by decide +kernel)
theorem dX7_cellFrom_75 : decode cX7_cellFrom 75 = .ok (.iconst (-1), 1) := do_2 (rdb (p := 64) (i := 11) ch_cX7_cellFrom_64 rfl)
theorem dX7_cellFrom_76 : decode cX7_cellFrom 76 = .ok (.goto 10, 3) := do_167 (rdb (p := 64) (i := 12) ch_cX7_cellFrom_64 rfl) (rdb (p := 64) (i := 13) ch_cX7_cellFrom_64 rfl) (rdb (p := 64) (i := 14) ch_cX7_cellFrom_64 rfl) (by decide +kernel)
theorem dX7_cellFrom_79 : decode cX7_cellFrom 79 = .ok (.bipush 16, 2) := do_16 (rdb (p := 64) (i := 15) ch_cX7_cellFrom_64 rfl) (rdb (p := 64) (i := 16) ch_cX7_cellFrom_64 rfl) (by decide +kernel)
theorem dX7_cellFrom_81 : decode cX7_cellFrom 81 = .ok (.iload 4, 2) := do_21 (rdb (p := 64) (i := 17) ch_cX7_cellFrom_64 rfl) (rdb (p := 64) (i := 18) ch_cX7_cellFrom_64 rfl)
theorem dX7_cellFrom_83 : decode cX7_cellFrom 83 = .ok (.imul, 1) := do_104 (rdb (p := 64) (i := 19) ch_cX7_cellFrom_64 rfl)
theorem dX7_cellFrom_84 : decode cX7_cellFrom 84 = .ok (.iload_n 3, 1) := do_29 (rdb (p := 64) (i := 20) ch_cX7_cellFrom_64 rfl)
theorem dX7_cellFrom_85 : decode cX7_cellFrom 85 = .ok (.iadd, 1) := do_96 (rdb (p := 64) (i := 21) ch_cX7_cellFrom_64 rfl)
theorem dX7_cellFrom_86 : decode cX7_cellFrom 86 = .ok (.ireturn, 1) := do_172 (rdb (p := 64) (i := 22) ch_cX7_cellFrom_64 rfl)
theorem dX7_isCell_0 : decode cX7_isCell 0 = .ok (.iload_n 0, 1) := by decide +kernel
theorem dX7_isCell_1 : decode cX7_isCell 1 = .ok (.ifCond .lt 14, 3) := by decide +kernel
theorem dX7_isCell_4 : decode cX7_isCell 4 = .ok (.iload_n 0, 1) := by decide +kernel
theorem dX7_isCell_5 : decode cX7_isCell 5 = .ok (.sipush 192, 3) := by decide +kernel
theorem dX7_isCell_8 : decode cX7_isCell 8 = .ok (.if_icmp .ge 7, 3) := by decide +kernel
theorem dX7_isCell_11 : decode cX7_isCell 11 = .ok (.iconst 1, 1) := by decide +kernel
theorem dX7_isCell_12 : decode cX7_isCell 12 = .ok (.goto 4, 3) := by decide +kernel
theorem dX7_isCell_15 : decode cX7_isCell 15 = .ok (.iconst 0, 1) := by decide +kernel
theorem dX7_isCell_16 : decode cX7_isCell 16 = .ok (.ireturn, 1) := by decide +kernel
theorem dX7_isSide_0 : decode cX7_isSide 0 = .ok (.iload_n 0, 1) := by decide +kernel
theorem dX7_isSide_1 : decode cX7_isSide 1 = .ok (.ifCond .lt 13, 3) := by decide +kernel
theorem dX7_isSide_4 : decode cX7_isSide 4 = .ok (.iload_n 0, 1) := by decide +kernel
theorem dX7_isSide_5 : decode cX7_isSide 5 = .ok (.bipush 8, 2) := by decide +kernel
theorem dX7_isSide_7 : decode cX7_isSide 7 = .ok (.if_icmp .ge 7, 3) := by decide +kernel
theorem dX7_isSide_10 : decode cX7_isSide 10 = .ok (.iconst 1, 1) := by decide +kernel
theorem dX7_isSide_11 : decode cX7_isSide 11 = .ok (.goto 4, 3) := by decide +kernel
theorem dX7_isSide_14 : decode cX7_isSide 14 = .ok (.iconst 0, 1) := by decide +kernel
theorem dX7_isSide_15 : decode cX7_isSide 15 = .ok (.ireturn, 1) := by decide +kernel
theorem dX9_kindAbove_0 : decode cX9_kindAbove 0 = .ok (.iload_n 0, 1) := by decide +kernel
theorem dX9_kindAbove_1 : decode cX9_kindAbove 1 = .ok (.ifCond .lt 17, 3) := by decide +kernel
theorem dX9_kindAbove_4 : decode cX9_kindAbove 4 = .ok (.iload_n 0, 1) := by decide +kernel
theorem dX9_kindAbove_5 : decode cX9_kindAbove 5 = .ok (.bipush 8, 2) := by decide +kernel
theorem dX9_kindAbove_7 : decode cX9_kindAbove 7 = .ok (.if_icmp .ge 11, 3) := by decide +kernel
theorem dX9_kindAbove_10 : decode cX9_kindAbove 10 = .ok (.getstatic 47, 3) := by decide +kernel
theorem dX9_kindAbove_13 : decode cX9_kindAbove 13 = .ok (.iload_n 0, 1) := by decide +kernel
theorem dX9_kindAbove_14 : decode cX9_kindAbove 14 = .ok (.iaload, 1) := by decide +kernel
theorem dX9_kindAbove_15 : decode cX9_kindAbove 15 = .ok (.goto 4, 3) := by decide +kernel
theorem dX9_kindAbove_18 : decode cX9_kindAbove 18 = .ok (.iconst (-1), 1) := by decide +kernel
theorem dX9_kindAbove_19 : decode cX9_kindAbove 19 = .ok (.ireturn, 1) := by decide +kernel
