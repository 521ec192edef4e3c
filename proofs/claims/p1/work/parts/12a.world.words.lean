/-! words of the tables that are used, by their places; decode rows; classes -/
theorem m_82 : Cond.initialized RX2 ∈ BASE := bmem 82 (by decide +kernel) rfl
theorem m_87 : Cond.initialized RX9 ∈ BASE := bmem 87 (by decide +kernel) rfl
theorem m_114 : Cond.methodLink RX10 1 Lib.objectInit ∈ BASE := bmem 114 (by decide +kernel) rfl
theorem m_115 : Cond.classLink RX10 7 RX7 ∈ BASE := bmem 115 (by decide +kernel) rfl
theorem m_116 : Cond.instantiable RX7 6 ∈ BASE := bmem 116 (by decide +kernel) rfl
theorem m_117 : Cond.methodLink RX10 9 yX7_init ∈ BASE := bmem 117 (by decide +kernel) rfl
theorem m_118 : Cond.instanceMethod yX7_init ∈ BASE := bmem 118 (by decide +kernel) rfl
theorem m_119 : Cond.code yX7_init cX7_init 2 none ∈ BASE := bmem 119 (by decide +kernel) rfl
theorem m_147 : Cond.classLink RX10 16 RX2 ∈ BASE := bmem 147 (by decide +kernel) rfl
theorem m_148 : Cond.instantiable RX2 7 ∈ BASE := bmem 148 (by decide +kernel) rfl
theorem m_149 : Cond.methodLink RX10 18 yX2_init ∈ BASE := bmem 149 (by decide +kernel) rfl
theorem m_150 : Cond.instanceMethod yX2_init ∈ BASE := bmem 150 (by decide +kernel) rfl
theorem m_151 : Cond.code yX2_init cX2_init 2 none ∈ BASE := bmem 151 (by decide +kernel) rfl
theorem m_193 : Cond.classLink RX10 23 RX3 ∈ BASE := bmem 193 (by decide +kernel) rfl
theorem m_194 : Cond.instantiable RX3 9 ∈ BASE := bmem 194 (by decide +kernel) rfl
theorem m_196 : Cond.instanceMethod yX3_init ∈ BASE := bmem 196 (by decide +kernel) rfl
theorem m_197 : Cond.code yX3_init cX3_init 1 none ∈ BASE := bmem 197 (by decide +kernel) rfl
theorem m_249 : Cond.classLink RX10 30 RX5 ∈ BASE := bmem 249 (by decide +kernel) rfl
theorem m_250 : Cond.methodLink RX10 34 yX5_init ∈ BASE := bmem 250 (by decide +kernel) rfl
theorem m_251 : Cond.classLink RX10 44 RX9 ∈ BASE := bmem 251 (by decide +kernel) rfl
theorem m_253 : Cond.instantiable RX9 11 ∈ BASE := bmem 253 (by decide +kernel) rfl
theorem m_255 : Cond.instanceMethod yX9_init ∈ BASE := bmem 255 (by decide +kernel) rfl
theorem m_256 : Cond.code yX9_init cX9_init 1 none ∈ BASE := bmem 256 (by decide +kernel) rfl
theorem m_309 : Cond.fieldLink RX10 10 "ClickStreet$World" "street" "LClickStreet$Street;" ∈ BASE := bmem 309 (by decide +kernel) rfl
theorem m_312 : Cond.fieldLink RX10 19 "ClickStreet$World" "laws" "LClickStreet$Laws;" ∈ BASE := bmem 312 (by decide +kernel) rfl
theorem m_315 : Cond.fieldLink RX10 26 "ClickStreet$World" "lessons" "LClickStreet$Lessons;" ∈ BASE := bmem 315 (by decide +kernel) rfl
theorem m_317 : Cond.fieldLink RX10 37 "ClickStreet$World" "tape" "LClickStreet$Row;" ∈ BASE := bmem 317 (by decide +kernel) rfl
theorem m_319 : Cond.fieldLink RX10 41 "ClickStreet$World" "waiting" "LClickStreet$Row;" ∈ BASE := bmem 319 (by decide +kernel) rfl
theorem m_321 : Cond.fieldLink RX10 46 "ClickStreet$World" "walkers" "[LClickStreet$Walker;" ∈ BASE := bmem 321 (by decide +kernel) rfl
theorem m_324 : Cond.fieldLink RX10 50 "ClickStreet$World" "walkerCount" "I" ∈ BASE := bmem 324 (by decide +kernel) rfl
theorem m_326 : Cond.fieldLink RX10 54 "ClickStreet$World" "now" "I" ∈ BASE := bmem 326 (by decide +kernel) rfl
theorem m_600 : Cond.methodLink RX10 58 yX9_begin ∈ BASE := bmem 600 (by decide +kernel) rfl
theorem m_601 : Cond.instanceMethod yX9_begin ∈ BASE := bmem 601 (by decide +kernel) rfl
theorem m_602 : Cond.selects yX9_begin.cls yX9_begin yX9_begin ∈ BASE := bmem 602 (by decide +kernel) rfl
theorem m_603 : Cond.code yX9_begin cX9_begin 5 none ∈ BASE := bmem 603 (by decide +kernel) rfl
theorem m_604 : Cond.methodLink RX10 62 yX7_settle ∈ BASE := bmem 604 (by decide +kernel) rfl
theorem m_1029 : Cond.methodLink RX10 141 yX7_letThingsGo ∈ BASE := bmem 1029 (by decide +kernel) rfl
theorem m_1030 : Cond.instanceMethod yX7_letThingsGo ∈ BASE := bmem 1030 (by decide +kernel) rfl
theorem m_1031 : Cond.selects yX7_letThingsGo.cls yX7_letThingsGo yX7_letThingsGo ∈ BASE := bmem 1031 (by decide +kernel) rfl
theorem m_1032 : Cond.code yX7_letThingsGo cX7_letThingsGo 4 none ∈ BASE := bmem 1032 (by decide +kernel) rfl
theorem m_1258 : Cond.methodLink RX10 184 yX7_takeFrom ∈ BASE := bmem 1258 (by decide +kernel) rfl
theorem m_1259 : Cond.instanceMethod yX7_takeFrom ∈ BASE := bmem 1259 (by decide +kernel) rfl
theorem m_1260 : Cond.selects yX7_takeFrom.cls yX7_takeFrom yX7_takeFrom ∈ BASE := bmem 1260 (by decide +kernel) rfl
theorem m_1261 : Cond.code yX7_takeFrom cX7_takeFrom 2 none ∈ BASE := bmem 1261 (by decide +kernel) rfl
theorem m_1263 : Cond.methodLink RX10 188 yX2_takeFrom ∈ BASE := bmem 1263 (by decide +kernel) rfl
theorem m_1264 : Cond.instanceMethod yX2_takeFrom ∈ BASE := bmem 1264 (by decide +kernel) rfl
theorem m_1265 : Cond.selects yX2_takeFrom.cls yX2_takeFrom yX2_takeFrom ∈ BASE := bmem 1265 (by decide +kernel) rfl
theorem m_1266 : Cond.code yX2_takeFrom cX2_takeFrom 3 none ∈ BASE := bmem 1266 (by decide +kernel) rfl
theorem m_1269 : Cond.methodLink RX10 191 yX3_takeFrom ∈ BASE := bmem 1269 (by decide +kernel) rfl
theorem m_1270 : Cond.instanceMethod yX3_takeFrom ∈ BASE := bmem 1270 (by decide +kernel) rfl
theorem m_1271 : Cond.selects yX3_takeFrom.cls yX3_takeFrom yX3_takeFrom ∈ BASE := bmem 1271 (by decide +kernel) rfl
theorem m_1272 : Cond.code yX3_takeFrom cX3_takeFrom 2 none ∈ BASE := bmem 1272 (by decide +kernel) rfl
theorem m_1274 : Cond.methodLink RX10 194 yX5_takeFrom ∈ BASE := bmem 1274 (by decide +kernel) rfl
theorem kI_X2_init : KI yX2_init cX2_init 2 0 := ⟨m_150, rfl, m_82, m_151, by decide +kernel, by decide +kernel, by decide +kernel⟩
theorem kI_X3_init : KI yX3_init cX3_init 1 0 := ⟨m_196, rfl, m_84, m_197, by decide +kernel, by decide +kernel, by decide +kernel⟩
theorem kI_X7_init : KI yX7_init cX7_init 2 0 := ⟨m_118, rfl, m_81, m_119, by decide +kernel, by decide +kernel, by decide +kernel⟩
theorem kI_X9_init : KI yX9_init cX9_init 1 0 := ⟨m_255, rfl, m_87, m_256, by decide +kernel, by decide +kernel, by decide +kernel⟩
theorem kV_X2_takeFrom : KV yX2_takeFrom cX2_takeFrom 3 none 1 := ⟨m_1264, m_1265, m_82, m_1266, by decide +kernel, by decide +kernel, by decide +kernel⟩
theorem kV_X3_takeFrom : KV yX3_takeFrom cX3_takeFrom 2 none 1 := ⟨m_1270, m_1271, m_84, m_1272, by decide +kernel, by decide +kernel, by decide +kernel⟩
theorem kV_X7_letThingsGo : KV yX7_letThingsGo cX7_letThingsGo 4 none 1 := ⟨m_1030, m_1031, m_81, m_1032, by decide +kernel, by decide +kernel, by decide +kernel⟩
theorem kV_X7_takeFrom : KV yX7_takeFrom cX7_takeFrom 2 none 1 := ⟨m_1259, m_1260, m_81, m_1261, by decide +kernel, by decide +kernel, by decide +kernel⟩
theorem kV_X9_begin : KV yX9_begin cX9_begin 5 none 3 := ⟨m_601, m_602, m_87, m_603, by decide +kernel, by decide +kernel, by decide +kernel⟩
theorem inB10 : ∀ w ∈ u_ws RX10 TX10 8, w ∈ BASE := bmems (u_ws RX10 TX10 8) [328, 330, 332, 334, 336, 338, 340, 342] (by decide +kernel) (by decide +kernel)
theorem df10 : ∀ j, j < 8 → defaultValue (tyX10 j) = vp_V [.null, .null, .null, .null, .null, .null, .int 0, .int 0] j := fun j hj => by rcases (show j = 0 ∨ j = 1 ∨ j = 2 ∨ j = 3 ∨ j = 4 ∨ j = 5 ∨ j = 6 ∨ j = 7 by omega) with rfl | rfl | rfl | rfl | rfl | rfl | rfl | rfl <;> rfl
/-! decode rows -/
theorem dX10_addWalker_0 : decode cX10_addWalker 0 = .ok (.aload_n 0, 1) := by decide +kernel
theorem dX10_addWalker_1 : decode cX10_addWalker 1 = .ok (.getfield 50, 3) := by decide +kernel
theorem dX10_addWalker_4 : decode cX10_addWalker 4 = .ok (.istore 4, 2) := by decide +kernel
theorem dX10_addWalker_6 : decode cX10_addWalker 6 = .ok (.iload 4, 2) := by decide +kernel
theorem dX10_addWalker_8 : decode cX10_addWalker 8 = .ok (.ifCond .lt 10, 3) := by decide +kernel
theorem dX10_addWalker_11 : decode cX10_addWalker 11 = .ok (.iload 4, 2) := by decide +kernel
theorem dX10_addWalker_13 : decode cX10_addWalker 13 = .ok (.bipush 8, 2) := by decide +kernel
theorem dX10_addWalker_15 : decode cX10_addWalker 15 = .ok (.if_icmp .lt 5, 3) := by decide +kernel
theorem dX10_addWalker_20 : decode cX10_addWalker 20 = .ok (.aload_n 0, 1) := by decide +kernel
theorem dX10_addWalker_21 : decode cX10_addWalker 21 = .ok (.getfield 46, 3) := by decide +kernel
theorem dX10_addWalker_24 : decode cX10_addWalker 24 = .ok (.iload 4, 2) := by decide +kernel
theorem dX10_addWalker_26 : decode cX10_addWalker 26 = .ok (.aaload, 1) := by decide +kernel
theorem dX10_addWalker_27 : decode cX10_addWalker 27 = .ok (.iload_n 1, 1) := by decide +kernel
theorem dX10_addWalker_28 : decode cX10_addWalker 28 = .ok (.iload_n 2, 1) := by decide +kernel
theorem dX10_addWalker_29 : decode cX10_addWalker 29 = .ok (.iload_n 3, 1) := by decide +kernel
theorem dX10_addWalker_30 : decode cX10_addWalker 30 = .ok (.invokevirtual 58, 3) := by decide +kernel
theorem dX10_addWalker_33 : decode cX10_addWalker 33 = .ok (.aload_n 0, 1) := by decide +kernel
theorem dX10_addWalker_34 : decode cX10_addWalker 34 = .ok (.getfield 10, 3) := by decide +kernel
theorem dX10_addWalker_37 : decode cX10_addWalker 37 = .ok (.iload_n 2, 1) := by decide +kernel
theorem dX10_addWalker_38 : decode cX10_addWalker 38 = .ok (.bipush 100, 2) := by decide +kernel
theorem dX10_addWalker_40 : decode cX10_addWalker 40 = .ok (.iload 4, 2) := by decide +kernel
theorem dX10_addWalker_42 : decode cX10_addWalker 42 = .ok (.iadd, 1) := by decide +kernel
theorem dX10_addWalker_43 : decode cX10_addWalker 43 = .ok (.invokevirtual 62, 3) := by decide +kernel
theorem dX10_addWalker_46 : decode cX10_addWalker 46 = .ok (.aload_n 0, 1) := by decide +kernel
theorem dX10_addWalker_47 : decode cX10_addWalker 47 = .ok (.dup, 1) := by decide +kernel
theorem dX10_addWalker_48 : decode cX10_addWalker 48 = .ok (.getfield 50, 3) := by decide +kernel
theorem dX10_addWalker_51 : decode cX10_addWalker 51 = .ok (.iconst 1, 1) := by decide +kernel
theorem dX10_addWalker_52 : decode cX10_addWalker 52 = .ok (.iadd, 1) := by decide +kernel
theorem dX10_addWalker_53 : decode cX10_addWalker 53 = .ok (.putfield 50, 3) := by decide +kernel
theorem dX10_addWalker_56 : decode cX10_addWalker 56 = .ok (.iload 4, 2) := by decide +kernel
theorem dX10_addWalker_58 : decode cX10_addWalker 58 = .ok (.ireturn, 1) := by decide +kernel
theorem dX10_countBumps_0 : decode cX10_countBumps 0 = .ok (.iconst 0, 1) := by decide +kernel
theorem dX10_countBumps_1 : decode cX10_countBumps 1 = .ok (.istore_n 1, 1) := by decide +kernel
theorem dX10_countBumps_2 : decode cX10_countBumps 2 = .ok (.iconst 0, 1) := by decide +kernel
theorem dX10_countBumps_3 : decode cX10_countBumps 3 = .ok (.istore_n 2, 1) := by decide +kernel
theorem dX10_countBumps_4 : decode cX10_countBumps 4 = .ok (.iload_n 2, 1) := by decide +kernel
theorem dX10_countBumps_5 : decode cX10_countBumps 5 = .ok (.aload_n 0, 1) := by decide +kernel
theorem dX10_countBumps_6 : decode cX10_countBumps 6 = .ok (.getfield 50, 3) := by decide +kernel
theorem dX10_countBumps_9 : decode cX10_countBumps 9 = .ok (.if_icmp .ge 27, 3) := by decide +kernel
theorem dX10_countBumps_36 : decode cX10_countBumps 36 = .ok (.iload_n 1, 1) := by decide +kernel
theorem dX10_countBumps_37 : decode cX10_countBumps 37 = .ok (.ireturn, 1) := by decide +kernel
theorem dX10_countClicks_0 : decode cX10_countClicks 0 = .ok (.iconst 0, 1) := by decide +kernel
theorem dX10_countClicks_1 : decode cX10_countClicks 1 = .ok (.istore_n 1, 1) := by decide +kernel
theorem dX10_countClicks_2 : decode cX10_countClicks 2 = .ok (.iconst 0, 1) := by decide +kernel
theorem dX10_countClicks_3 : decode cX10_countClicks 3 = .ok (.istore_n 2, 1) := by decide +kernel
theorem dX10_countClicks_4 : decode cX10_countClicks 4 = .ok (.iload_n 2, 1) := by decide +kernel
theorem dX10_countClicks_5 : decode cX10_countClicks 5 = .ok (.aload_n 0, 1) := by decide +kernel
theorem dX10_countClicks_6 : decode cX10_countClicks 6 = .ok (.getfield 50, 3) := by decide +kernel
theorem dX10_countClicks_9 : decode cX10_countClicks 9 = .ok (.if_icmp .ge 27, 3) := by decide +kernel
theorem dX10_countClicks_36 : decode cX10_countClicks 36 = .ok (.iload_n 1, 1) := by decide +kernel
theorem dX10_countClicks_37 : decode cX10_countClicks 37 = .ok (.ireturn, 1) := by decide +kernel
theorem dX10_hasWalker_0 : decode cX10_hasWalker 0 = .ok (.iload_n 1, 1) := by decide +kernel
theorem dX10_hasWalker_1 : decode cX10_hasWalker 1 = .ok (.ifCond .lt 21, 3) := by decide +kernel
theorem dX10_hasWalker_4 : decode cX10_hasWalker 4 = .ok (.iload_n 1, 1) := by decide +kernel
theorem dX10_hasWalker_5 : decode cX10_hasWalker 5 = .ok (.aload_n 0, 1) := by decide +kernel
theorem dX10_hasWalker_6 : decode cX10_hasWalker 6 = .ok (.getfield 50, 3) := by decide +kernel
theorem dX10_hasWalker_9 : decode cX10_hasWalker 9 = .ok (.if_icmp .ge 13, 3) := by decide +kernel
theorem dX10_hasWalker_12 : decode cX10_hasWalker 12 = .ok (.iload_n 1, 1) := by decide +kernel
theorem dX10_hasWalker_13 : decode cX10_hasWalker 13 = .ok (.bipush 8, 2) := by decide +kernel
theorem dX10_hasWalker_15 : decode cX10_hasWalker 15 = .ok (.if_icmp .ge 7, 3) := by decide +kernel
theorem dX10_hasWalker_18 : decode cX10_hasWalker 18 = .ok (.iconst 1, 1) := by decide +kernel
theorem dX10_hasWalker_19 : decode cX10_hasWalker 19 = .ok (.goto 4, 3) := by decide +kernel
theorem dX10_hasWalker_22 : decode cX10_hasWalker 22 = .ok (.iconst 0, 1) := by decide +kernel
theorem dX10_hasWalker_23 : decode cX10_hasWalker 23 = .ok (.ireturn, 1) := by decide +kernel
theorem dX10_init_0 : decode cX10_init 0 = .ok (.aload_n 0, 1) := by decide +kernel
theorem dX10_init_1 : decode cX10_init 1 = .ok (.invokespecial 1, 3) := by decide +kernel
theorem dX10_init_4 : decode cX10_init 4 = .ok (.aload_n 0, 1) := by decide +kernel
theorem dX10_init_5 : decode cX10_init 5 = .ok (.new 7, 3) := by decide +kernel
theorem dX10_init_8 : decode cX10_init 8 = .ok (.dup, 1) := by decide +kernel
theorem dX10_init_9 : decode cX10_init 9 = .ok (.invokespecial 9, 3) := by decide +kernel
theorem dX10_init_12 : decode cX10_init 12 = .ok (.putfield 10, 3) := by decide +kernel
theorem dX10_init_15 : decode cX10_init 15 = .ok (.aload_n 0, 1) := by decide +kernel
theorem dX10_init_16 : decode cX10_init 16 = .ok (.new 16, 3) := by decide +kernel
theorem dX10_init_19 : decode cX10_init 19 = .ok (.dup, 1) := by decide +kernel
theorem dX10_init_20 : decode cX10_init 20 = .ok (.invokespecial 18, 3) := by decide +kernel
theorem dX10_init_23 : decode cX10_init 23 = .ok (.putfield 19, 3) := by decide +kernel
theorem dX10_init_26 : decode cX10_init 26 = .ok (.aload_n 0, 1) := by decide +kernel
theorem dX10_init_27 : decode cX10_init 27 = .ok (.new 23, 3) := by decide +kernel
theorem dX10_init_30 : decode cX10_init 30 = .ok (.dup, 1) := by decide +kernel
theorem dX10_init_31 : decode cX10_init 31 = .ok (.invokespecial 25, 3) := by decide +kernel
theorem dX10_init_34 : decode cX10_init 34 = .ok (.putfield 26, 3) := by decide +kernel
theorem dX10_init_37 : decode cX10_init 37 = .ok (.aload_n 0, 1) := by decide +kernel
theorem dX10_init_38 : decode cX10_init 38 = .ok (.new 30, 3) := by decide +kernel
theorem dX10_init_41 : decode cX10_init 41 = .ok (.dup, 1) := by decide +kernel
theorem dX10_init_42 : decode cX10_init 42 = .ok (.bipush 48, 2) := by decide +kernel
theorem dX10_init_44 : decode cX10_init 44 = .ok (.invokespecial 34, 3) := by decide +kernel
theorem dX10_init_47 : decode cX10_init 47 = .ok (.putfield 37, 3) := by decide +kernel
theorem dX10_init_50 : decode cX10_init 50 = .ok (.aload_n 0, 1) := by decide +kernel
theorem dX10_init_51 : decode cX10_init 51 = .ok (.new 30, 3) := by decide +kernel
theorem dX10_init_54 : decode cX10_init 54 = .ok (.dup, 1) := by decide +kernel
theorem dX10_init_55 : decode cX10_init 55 = .ok (.bipush 24, 2) := by decide +kernel
theorem dX10_init_57 : decode cX10_init 57 = .ok (.invokespecial 34, 3) := by decide +kernel
theorem dX10_init_60 : decode cX10_init 60 = .ok (.putfield 41, 3) := by decide +kernel
theorem dX10_init_63 : decode cX10_init 63 = .ok (.aload_n 0, 1) := by decide +kernel
theorem dX10_init_64 : decode cX10_init 64 = .ok (.bipush 8, 2) := by decide +kernel
theorem dX10_init_66 : decode cX10_init 66 = .ok (.anewarray 44, 3) := by decide +kernel
theorem dX10_init_69 : decode cX10_init 69 = .ok (.putfield 46, 3) := by decide +kernel
theorem dX10_init_72 : decode cX10_init 72 = .ok (.aload_n 0, 1) := by decide +kernel
theorem dX10_init_73 : decode cX10_init 73 = .ok (.iconst 0, 1) := by decide +kernel
theorem dX10_init_74 : decode cX10_init 74 = .ok (.putfield 50, 3) := by decide +kernel
theorem dX10_init_77 : decode cX10_init 77 = .ok (.aload_n 0, 1) := by decide +kernel
theorem dX10_init_78 : decode cX10_init 78 = .ok (.iconst 0, 1) := by decide +kernel
theorem dX10_init_79 : decode cX10_init 79 = .ok (.putfield 54, 3) := by decide +kernel
theorem dX10_init_82 : decode cX10_init 82 = .ok (.iconst 0, 1) := by decide +kernel
theorem dX10_init_83 : decode cX10_init 83 = .ok (.istore_n 1, 1) := by decide +kernel
theorem dX10_init_84 : decode cX10_init 84 = .ok (.iload_n 1, 1) := by decide +kernel
theorem dX10_init_85 : decode cX10_init 85 = .ok (.bipush 8, 2) := by decide +kernel
theorem dX10_init_87 : decode cX10_init 87 = .ok (.if_icmp .ge 22, 3) := by decide +kernel
theorem dX10_init_90 : decode cX10_init 90 = .ok (.aload_n 0, 1) := by decide +kernel
theorem dX10_init_91 : decode cX10_init 91 = .ok (.getfield 46, 3) := by decide +kernel
theorem dX10_init_94 : decode cX10_init 94 = .ok (.iload_n 1, 1) := by decide +kernel
theorem dX10_init_95 : decode cX10_init 95 = .ok (.new 44, 3) := by decide +kernel
theorem dX10_init_98 : decode cX10_init 98 = .ok (.dup, 1) := by decide +kernel
theorem dX10_init_99 : decode cX10_init 99 = .ok (.invokespecial 57, 3) := by decide +kernel
theorem dX10_init_102 : decode cX10_init 102 = .ok (.aastore, 1) := by decide +kernel
theorem dX10_init_103 : decode cX10_init 103 = .ok (.iinc 1 1, 3) := by decide +kernel
theorem dX10_init_106 : decode cX10_init 106 = .ok (.goto (-22), 3) := by decide +kernel
theorem dX10_init_109 : decode cX10_init 109 = .ok (.return_, 1) := by decide +kernel
theorem dX10_passTenth_0 : decode cX10_passTenth 0 = .ok (.aload_n 0, 1) := by decide +kernel
theorem dX10_passTenth_1 : decode cX10_passTenth 1 = .ok (.dup, 1) := by decide +kernel
theorem dX10_passTenth_2 : decode cX10_passTenth 2 = .ok (.getfield 54, 3) := by decide +kernel
theorem dX10_passTenth_5 : decode cX10_passTenth 5 = .ok (.iconst 1, 1) := by decide +kernel
theorem dX10_passTenth_6 : decode cX10_passTenth 6 = .ok (.iadd, 1) := by decide +kernel
theorem dX10_passTenth_7 : decode cX10_passTenth 7 = .ok (.putfield 54, 3) := by decide +kernel
theorem dX10_passTenth_10 : decode cX10_passTenth 10 = .ok (.aload_n 0, 1) := by decide +kernel
theorem dX10_passTenth_11 : decode cX10_passTenth 11 = .ok (.getfield 10, 3) := by decide +kernel
theorem dX10_passTenth_14 : decode cX10_passTenth 14 = .ok (.aload_n 0, 1) := by decide +kernel
theorem dX10_passTenth_15 : decode cX10_passTenth 15 = .ok (.getfield 54, 3) := by decide +kernel
theorem dX10_passTenth_18 : decode cX10_passTenth 18 = .ok (.invokevirtual 141, 3) := by decide +kernel
theorem dX10_passTenth_21 : decode cX10_passTenth 21 = .ok (.iconst 0, 1) := by decide +kernel
theorem dX10_passTenth_22 : decode cX10_passTenth 22 = .ok (.istore_n 1, 1) := by decide +kernel
theorem dX10_passTenth_23 : decode cX10_passTenth 23 = .ok (.iload_n 1, 1) := by decide +kernel
theorem dX10_passTenth_24 : decode cX10_passTenth 24 = .ok (.aload_n 0, 1) := by decide +kernel
theorem dX10_passTenth_25 : decode cX10_passTenth 25 = .ok (.getfield 50, 3) := by decide +kernel
theorem dX10_passTenth_28 : decode cX10_passTenth 28 = .ok (.if_icmp .ge 32, 3) := by decide +kernel
theorem dX10_passTenth_60 : decode cX10_passTenth 60 = .ok (.return_, 1) := by decide +kernel
theorem dX10_takeFrom_0 : decode cX10_takeFrom 0 = .ok (.aload_n 0, 1) := by decide +kernel
theorem dX10_takeFrom_1 : decode cX10_takeFrom 1 = .ok (.getfield 10, 3) := by decide +kernel
theorem dX10_takeFrom_4 : decode cX10_takeFrom 4 = .ok (.aload_n 1, 1) := by decide +kernel
theorem dX10_takeFrom_5 : decode cX10_takeFrom 5 = .ok (.getfield 10, 3) := by decide +kernel
theorem dX10_takeFrom_8 : decode cX10_takeFrom 8 = .ok (.invokevirtual 184, 3) := by decide +kernel
theorem dX10_takeFrom_11 : decode cX10_takeFrom 11 = .ok (.aload_n 0, 1) := by decide +kernel
theorem dX10_takeFrom_12 : decode cX10_takeFrom 12 = .ok (.getfield 19, 3) := by decide +kernel
theorem dX10_takeFrom_15 : decode cX10_takeFrom 15 = .ok (.aload_n 1, 1) := by decide +kernel
theorem dX10_takeFrom_16 : decode cX10_takeFrom 16 = .ok (.getfield 19, 3) := by decide +kernel
theorem dX10_takeFrom_19 : decode cX10_takeFrom 19 = .ok (.invokevirtual 188, 3) := by decide +kernel
theorem dX10_takeFrom_22 : decode cX10_takeFrom 22 = .ok (.aload_n 0, 1) := by decide +kernel
theorem dX10_takeFrom_23 : decode cX10_takeFrom 23 = .ok (.getfield 26, 3) := by decide +kernel
theorem dX10_takeFrom_26 : decode cX10_takeFrom 26 = .ok (.aload_n 1, 1) := by decide +kernel
theorem dX10_takeFrom_27 : decode cX10_takeFrom 27 = .ok (.getfield 26, 3) := by decide +kernel
theorem dX10_takeFrom_30 : decode cX10_takeFrom 30 = .ok (.invokevirtual 191, 3) := by decide +kernel
theorem dX10_takeFrom_33 : decode cX10_takeFrom 33 = .ok (.aload_n 0, 1) := by decide +kernel
theorem dX10_takeFrom_34 : decode cX10_takeFrom 34 = .ok (.getfield 37, 3) := by decide +kernel
theorem dX10_takeFrom_37 : decode cX10_takeFrom 37 = .ok (.aload_n 1, 1) := by decide +kernel
theorem dX10_takeFrom_38 : decode cX10_takeFrom 38 = .ok (.getfield 37, 3) := by decide +kernel
theorem dX10_takeFrom_41 : decode cX10_takeFrom 41 = .ok (.invokevirtual 194, 3) := by decide +kernel
theorem dX10_takeFrom_44 : decode cX10_takeFrom 44 = .ok (.aload_n 0, 1) := by decide +kernel
theorem dX10_takeFrom_45 : decode cX10_takeFrom 45 = .ok (.getfield 41, 3) := by decide +kernel
theorem dX10_takeFrom_48 : decode cX10_takeFrom 48 = .ok (.aload_n 1, 1) := by decide +kernel
theorem dX10_takeFrom_49 : decode cX10_takeFrom 49 = .ok (.getfield 41, 3) := by decide +kernel
theorem dX10_takeFrom_52 : decode cX10_takeFrom 52 = .ok (.invokevirtual 194, 3) := by decide +kernel
theorem dX10_takeFrom_55 : decode cX10_takeFrom 55 = .ok (.aload_n 0, 1) := by decide +kernel
theorem dX10_takeFrom_56 : decode cX10_takeFrom 56 = .ok (.aload_n 1, 1) := by decide +kernel
theorem dX10_takeFrom_57 : decode cX10_takeFrom 57 = .ok (.getfield 50, 3) := by decide +kernel
theorem dX10_takeFrom_60 : decode cX10_takeFrom 60 = .ok (.putfield 50, 3) := by decide +kernel
theorem dX10_takeFrom_63 : decode cX10_takeFrom 63 = .ok (.aload_n 0, 1) := by decide +kernel
theorem dX10_takeFrom_64 : decode cX10_takeFrom 64 = .ok (.aload_n 1, 1) := by decide +kernel
theorem dX10_takeFrom_65 : decode cX10_takeFrom 65 = .ok (.getfield 54, 3) := by decide +kernel
theorem dX10_takeFrom_68 : decode cX10_takeFrom 68 = .ok (.putfield 54, 3) := by decide +kernel
theorem dX10_takeFrom_71 : decode cX10_takeFrom 71 = .ok (.iconst 0, 1) := by decide +kernel
theorem dX10_takeFrom_72 : decode cX10_takeFrom 72 = .ok (.istore_n 2, 1) := by decide +kernel
theorem dX10_takeFrom_73 : decode cX10_takeFrom 73 = .ok (.iload_n 2, 1) := by decide +kernel
theorem dX10_takeFrom_74 : decode cX10_takeFrom 74 = .ok (.aload_n 0, 1) := by decide +kernel
theorem dX10_takeFrom_75 : decode cX10_takeFrom 75 = .ok (.getfield 50, 3) := by decide +kernel
theorem dX10_takeFrom_78 : decode cX10_takeFrom 78 = .ok (.if_icmp .ge 30, 3) := by decide +kernel
theorem dX10_takeFrom_108 : decode cX10_takeFrom 108 = .ok (.return_, 1) := by decide +kernel
