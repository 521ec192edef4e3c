/-! words of the tables that are used, by their places; decode rows; fields -/
theorem li_64 : (64 : Int32).toInt = 64 := by decide
theorem li_256 : (256 : Int32).toInt = 256 := by decide
theorem li_1000000 : (1000000 : Int32).toInt = 1000000 := by decide
theorem m_11 : Cond.selects yX0_noteLearned.cls yX0_noteLearned yX0_noteLearned ∈ BASE := bmem 11 (by decide +kernel) rfl
theorem m_12 : Cond.selects yX0_countLearned.cls yX0_countLearned yX0_countLearned ∈ BASE := bmem 12 (by decide +kernel) rfl
theorem m_16 : Cond.selects yX0_nearestOpen.cls yX0_nearestOpen yX0_nearestOpen ∈ BASE := bmem 16 (by decide +kernel) rfl
theorem m_17 : Cond.selects yX0_firstStep.cls yX0_firstStep yX0_firstStep ∈ BASE := bmem 17 (by decide +kernel) rfl
theorem m_20 : Cond.selects yX0_servesAll.cls yX0_servesAll yX0_servesAll ∈ BASE := bmem 20 (by decide +kernel) rfl
theorem m_89 : Cond.initialized RX0 ∈ BASE := bmem 89 (by decide +kernel) rfl
theorem m_99 : Cond.initialized "java/lang/Integer" ∈ BASE := bmem 99 (by decide +kernel) rfl
theorem m_100 : Cond.initialized "java/lang/Long" ∈ BASE := bmem 100 (by decide +kernel) rfl
theorem m_388 : Cond.fieldLink RX0 9 "ClickStreet$Finder" "costs" "[I" ∈ BASE := bmem 388 (by decide +kernel) rfl
theorem m_389 : Cond.fieldLink RX0 15 "ClickStreet$Finder" "isDone" "[Z" ∈ BASE := bmem 389 (by decide +kernel) rfl
theorem m_390 : Cond.fieldLink RX0 19 "ClickStreet$Finder" "learned" "[J" ∈ BASE := bmem 390 (by decide +kernel) rfl
theorem m_391 : Cond.fieldLink RX0 23 "ClickStreet$Finder" "heardPosts" "[I" ∈ BASE := bmem 391 (by decide +kernel) rfl
theorem m_392 : Cond.fieldLink RX0 26 "ClickStreet$Finder" "most" "I" ∈ BASE := bmem 392 (by decide +kernel) rfl
theorem m_394 : Cond.fieldLink RX0 30 "ClickStreet$Finder" "places" "I" ∈ BASE := bmem 394 (by decide +kernel) rfl
theorem m_992 : Cond.methodLink RX0 76 yX6_numberAt ∈ BASE := bmem 992 (by decide +kernel) rfl
theorem m_993 : Cond.methodLink RX0 79 yX7_isFree ∈ BASE := bmem 993 (by decide +kernel) rfl
theorem m_994 : Cond.methodLink RX0 82 yX0_noteLearned ∈ BASE := bmem 994 (by decide +kernel) rfl
theorem m_996 : Cond.instanceMethod yX0_noteLearned ∈ BASE := bmem 996 (by decide +kernel) rfl
theorem m_997 : Cond.code yX0_noteLearned cX0_noteLearned 10 none ∈ BASE := bmem 997 (by decide +kernel) rfl
theorem m_998 : Cond.methodLink RX0 94 yX10_hasWalker ∈ BASE := bmem 998 (by decide +kernel) rfl
theorem m_999 : Cond.methodLink RX0 101 yX10_heardYards ∈ BASE := bmem 999 (by decide +kernel) rfl
theorem m_1000 : Cond.methodLink RX0 46 yX7_cellFrom ∈ BASE := bmem 1000 (by decide +kernel) rfl
theorem m_1001 : Cond.methodLink RX0 104 yX9_canLearn ∈ BASE := bmem 1001 (by decide +kernel) rfl
theorem m_1002 : Cond.instanceMethod yX9_canLearn ∈ BASE := bmem 1002 (by decide +kernel) rfl
theorem m_1003 : Cond.selects yX9_canLearn.cls yX9_canLearn yX9_canLearn ∈ BASE := bmem 1003 (by decide +kernel) rfl
theorem m_1004 : Cond.code yX9_canLearn cX9_canLearn 2 (some .boolean) ∈ BASE := bmem 1004 (by decide +kernel) rfl
theorem m_1005 : Cond.methodLink RX0 86 yJI_bitCount ∈ BASE := bmem 1005 (by decide +kernel) rfl
theorem m_1006 : Cond.static yJI_bitCount ∈ BASE := bmem 1006 (by decide +kernel) rfl
theorem m_1007 : Cond.code yJI_bitCount cJI_bitCount 1 (some .int) ∈ BASE := bmem 1007 (by decide +kernel) rfl
theorem m_1011 : Cond.methodLink RX0 91 yX0_countLearned ∈ BASE := bmem 1011 (by decide +kernel) rfl
theorem m_1013 : Cond.instanceMethod yX0_countLearned ∈ BASE := bmem 1013 (by decide +kernel) rfl
theorem m_1014 : Cond.code yX0_countLearned cX0_countLearned 7 (some .int) ∈ BASE := bmem 1014 (by decide +kernel) rfl
theorem m_1015 : Cond.methodLink RX0 107 yJL_bitCount ∈ BASE := bmem 1015 (by decide +kernel) rfl
theorem m_1016 : Cond.static yJL_bitCount ∈ BASE := bmem 1016 (by decide +kernel) rfl
theorem m_1017 : Cond.code yJL_bitCount cJL_bitCount 2 (some .int) ∈ BASE := bmem 1017 (by decide +kernel) rfl
theorem m_1075 : Cond.constant RX0 33 (1000000) ∈ BASE := bmem 1075 (by decide +kernel) rfl
theorem m_1076 : Cond.methodLink RX0 34 yX7_isCell ∈ BASE := bmem 1076 (by decide +kernel) rfl
theorem m_1077 : Cond.methodLink RX0 38 yX0_nearestOpen ∈ BASE := bmem 1077 (by decide +kernel) rfl
theorem m_1079 : Cond.instanceMethod yX0_nearestOpen ∈ BASE := bmem 1079 (by decide +kernel) rfl
theorem m_1080 : Cond.code yX0_nearestOpen cX0_nearestOpen 3 (some .int) ∈ BASE := bmem 1080 (by decide +kernel) rfl
theorem m_1081 : Cond.methodLink RX0 42 yX0_costInto ∈ BASE := bmem 1081 (by decide +kernel) rfl
theorem m_1082 : Cond.static yX0_costInto ∈ BASE := bmem 1082 (by decide +kernel) rfl
theorem m_1083 : Cond.code yX0_costInto cX0_costInto 3 (some .int) ∈ BASE := bmem 1083 (by decide +kernel) rfl
theorem m_1084 : Cond.methodLink RX0 50 yX9_held ∈ BASE := bmem 1084 (by decide +kernel) rfl
theorem m_1086 : Cond.instanceMethod yX0_costFrom ∈ BASE := bmem 1086 (by decide +kernel) rfl
theorem m_1087 : Cond.selects yX0_costFrom.cls yX0_costFrom yX0_costFrom ∈ BASE := bmem 1087 (by decide +kernel) rfl
theorem m_1088 : Cond.code yX0_costFrom cX0_costFrom 2 (some .int) ∈ BASE := bmem 1088 (by decide +kernel) rfl
theorem m_1093 : Cond.methodLink RX0 59 yX0_firstStep ∈ BASE := bmem 1093 (by decide +kernel) rfl
theorem m_1095 : Cond.instanceMethod yX0_firstStep ∈ BASE := bmem 1095 (by decide +kernel) rfl
theorem m_1096 : Cond.code yX0_firstStep cX0_firstStep 5 (some .int) ∈ BASE := bmem 1096 (by decide +kernel) rfl
theorem m_1097 : Cond.methodLink RX0 62 yX0_costFrom ∈ BASE := bmem 1097 (by decide +kernel) rfl
theorem m_1163 : Cond.methodLink RX0 112 yX0_wouldHear ∈ BASE := bmem 1163 (by decide +kernel) rfl
theorem m_1164 : Cond.static yX0_wouldHear ∈ BASE := bmem 1164 (by decide +kernel) rfl
theorem m_1165 : Cond.code yX0_wouldHear cX0_wouldHear 8 (some .boolean) ∈ BASE := bmem 1165 (by decide +kernel) rfl
theorem m_1166 : Cond.methodLink RX0 120 yX9_reach ∈ BASE := bmem 1166 (by decide +kernel) rfl
theorem m_1167 : Cond.methodLink RX0 123 yX10_isFreeBut ∈ BASE := bmem 1167 (by decide +kernel) rfl
theorem m_1168 : Cond.methodLink RX0 130 yX9_ears ∈ BASE := bmem 1168 (by decide +kernel) rfl
theorem m_1169 : Cond.methodLink RX0 133 yX9_ownClick ∈ BASE := bmem 1169 (by decide +kernel) rfl
theorem m_1170 : Cond.methodLink RX0 136 yX2_hears ∈ BASE := bmem 1170 (by decide +kernel) rfl
theorem m_1171 : Cond.methodLink RX0 116 yX0_servesAll ∈ BASE := bmem 1171 (by decide +kernel) rfl
theorem m_1173 : Cond.instanceMethod yX0_servesAll ∈ BASE := bmem 1173 (by decide +kernel) rfl
theorem m_1174 : Cond.code yX0_servesAll cX0_servesAll 4 (some .boolean) ∈ BASE := bmem 1174 (by decide +kernel) rfl
theorem kS_JI_bitCount : KS yJI_bitCount cJI_bitCount 1 (some .int) 1 := ⟨m_1006, m_99, m_1007, by decide +kernel, by decide +kernel, by decide +kernel⟩
theorem kS_JL_bitCount : KS yJL_bitCount cJL_bitCount 2 (some .int) 1 := ⟨m_1016, m_100, m_1017, by decide +kernel, by decide +kernel, by decide +kernel⟩
theorem kS_X0_costInto : KS yX0_costInto cX0_costInto 3 (some .int) 2 := ⟨m_1082, m_89, m_1083, by decide +kernel, by decide +kernel, by decide +kernel⟩
theorem kS_X0_wouldHear : KS yX0_wouldHear cX0_wouldHear 8 (some .boolean) 4 := ⟨m_1164, m_89, m_1165, by decide +kernel, by decide +kernel, by decide +kernel⟩
theorem kV_X0_costFrom : KV yX0_costFrom cX0_costFrom 2 (some .int) 1 := ⟨m_1086, m_1087, m_89, m_1088, by decide +kernel, by decide +kernel, by decide +kernel⟩
theorem kV_X0_countLearned : KV yX0_countLearned cX0_countLearned 7 (some .int) 1 := ⟨m_1013, m_12, m_89, m_1014, by decide +kernel, by decide +kernel, by decide +kernel⟩
theorem kV_X0_firstStep : KV yX0_firstStep cX0_firstStep 5 (some .int) 2 := ⟨m_1095, m_17, m_89, m_1096, by decide +kernel, by decide +kernel, by decide +kernel⟩
theorem kV_X0_nearestOpen : KV yX0_nearestOpen cX0_nearestOpen 3 (some .int) 0 := ⟨m_1079, m_16, m_89, m_1080, by decide +kernel, by decide +kernel, by decide +kernel⟩
theorem kV_X0_noteLearned : KV yX0_noteLearned cX0_noteLearned 10 none 4 := ⟨m_996, m_11, m_89, m_997, by decide +kernel, by decide +kernel, by decide +kernel⟩
theorem kV_X0_servesAll : KV yX0_servesAll cX0_servesAll 4 (some .boolean) 2 := ⟨m_1173, m_20, m_89, m_1174, by decide +kernel, by decide +kernel, by decide +kernel⟩
theorem kV_X9_canLearn : KV yX9_canLearn cX9_canLearn 2 (some .boolean) 1 := ⟨m_1002, m_1003, m_87, m_1004, by decide +kernel, by decide +kernel, by decide +kernel⟩
theorem inB0 : ∀ w ∈ u_ws RX0 TX0 6, w ∈ BASE := bmems (u_ws RX0 TX0 6) [396, 398, 400, 402, 404, 406] (by decide +kernel) (by decide +kernel)
theorem fl_RX0_126 : FLK RX0 126 10 1 (.object "ClickStreet$Laws") true := ⟨RX10, TX10, 8, tyX10, rfl, inB10, tyX10_ok, nmX10, by decide, rfl, rfl, Or.inr ⟨"ClickStreet", List.mem_of_getElem? (l := NFs) (i := 33) rfl⟩⟩
theorem fl_RX0_15 : FLK RX0 15 0 1 (.array .boolean) true := ⟨RX0, TX0, 6, tyX0, rfl, inB0, tyX0_ok, nmX0, by decide, rfl, rfl, Or.inl m_389⟩
theorem fl_RX0_19 : FLK RX0 19 0 2 (.array .long) true := ⟨RX0, TX0, 6, tyX0, rfl, inB0, tyX0_ok, nmX0, by decide, rfl, rfl, Or.inl m_390⟩
theorem fl_RX0_23 : FLK RX0 23 0 3 (.array .int) true := ⟨RX0, TX0, 6, tyX0, rfl, inB0, tyX0_ok, nmX0, by decide, rfl, rfl, Or.inl m_391⟩
theorem fl_RX0_26 : FLK RX0 26 0 4 .int false := ⟨RX0, TX0, 6, tyX0, rfl, inB0, tyX0_ok, nmX0, by decide, rfl, rfl, Or.inl m_392⟩
theorem fl_RX0_30 : FLK RX0 30 0 5 .int false := ⟨RX0, TX0, 6, tyX0, rfl, inB0, tyX0_ok, nmX0, by decide, rfl, rfl, Or.inl m_394⟩
theorem fl_RX0_56 : FLK RX0 56 9 1 .int false := ⟨RX9, TX9, 11, tyX9, rfl, inB9, tyX9_ok, nmX9, by decide, rfl, rfl, Or.inr ⟨"ClickStreet", List.mem_of_getElem? (l := NFs) (i := 14) rfl⟩⟩
theorem fl_RX0_65 : FLK RX0 65 6 1 .int false := ⟨RX6, TX6, 3, tyX6, rfl, inB6, tyX6_ok, nmX6, by decide, rfl, rfl, Or.inr ⟨"ClickStreet", List.mem_of_getElem? (l := NFs) (i := 47) rfl⟩⟩
theorem fl_RX0_70 : FLK RX0 70 10 0 (.object "ClickStreet$Street") true := ⟨RX10, TX10, 8, tyX10, rfl, inB10, tyX10_ok, nmX10, by decide, rfl, rfl, Or.inr ⟨"ClickStreet", List.mem_of_getElem? (l := NFs) (i := 31) rfl⟩⟩
theorem fl_RX0_9 : FLK RX0 9 0 0 (.array .int) true := ⟨RX0, TX0, 6, tyX0, rfl, inB0, tyX0_ok, nmX0, by decide, rfl, rfl, Or.inl m_388⟩
theorem fl_RX0_97 : FLK RX0 97 10 5 (.array (.object "ClickStreet$Walker")) true := ⟨RX10, TX10, 8, tyX10, rfl, inB10, tyX10_ok, nmX10, by decide, rfl, rfl, Or.inr ⟨"ClickStreet", List.mem_of_getElem? (l := NFs) (i := 37) rfl⟩⟩
theorem ch_cX0_cellAfter_0 : (cX0_cellAfter.data.toList.drop 0).take 36 = [43, 180, 0, 56, 54, 4, 29, 17, 0, 192, 161, 0, 5, 2, 172, 3, 54, 5, 21, 5, 29, 162, 0, 31, 21, 4, 28, 159, 0, 8, 21, 4, 156, 0, 5, 2] := by decide +kernel
theorem dX0_cellAfter_0 : decode cX0_cellAfter 0 = .ok (.aload_n 1, 1) := do_43 (rdb (p := 0) (i := 0) ch_cX0_cellAfter_0 rfl)
theorem dX0_cellAfter_1 : decode cX0_cellAfter 1 = .ok (.getfield 56, 3) := do_180 (rdb (p := 0) (i := 1) ch_cX0_cellAfter_0 rfl) (rdb (p := 0) (i := 2) ch_cX0_cellAfter_0 rfl) (rdb (p := 0) (i := 3) ch_cX0_cellAfter_0 rfl) rfl
theorem dX0_cellAfter_4 : decode cX0_cellAfter 4 = .ok (.istore 4, 2) := do_54 (rdb (p := 0) (i := 4) ch_cX0_cellAfter_0 rfl) (rdb (p := 0) (i := 5) ch_cX0_cellAfter_0 rfl)
theorem dX0_cellAfter_6 : decode cX0_cellAfter 6 = .ok (.iload_n 3, 1) := do_29 (rdb (p := 0) (i := 6) ch_cX0_cellAfter_0 rfl)
theorem dX0_cellAfter_7 : decode cX0_cellAfter 7 = .ok (.sipush 192, 3) := do_17 (rdb (p := 0) (i := 7) ch_cX0_cellAfter_0 rfl) (rdb (p := 0) (i := 8) ch_cX0_cellAfter_0 rfl) (rdb (p := 0) (i := 9) ch_cX0_cellAfter_0 rfl) (by decide +kernel)
theorem dX0_cellAfter_10 : decode cX0_cellAfter 10 = .ok (.if_icmp .lt 5, 3) := do_161 (rdb (p := 0) (i := 10) ch_cX0_cellAfter_0 rfl) (rdb (p := 0) (i := 11) ch_cX0_cellAfter_0 rfl) (rdb (p := 0) (i := 12) ch_cX0_cellAfter_0 rfl) (by decide +kernel)
theorem dX0_cellAfter_13 : decode cX0_cellAfter 13 = .ok (.iconst (-1), 1) := do_2 (rdb (p := 0) (i := 13) ch_cX0_cellAfter_0 rfl)
theorem dX0_cellAfter_14 : decode cX0_cellAfter 14 = .ok (.ireturn, 1) := do_172 (rdb (p := 0) (i := 14) ch_cX0_cellAfter_0 rfl)
theorem dX0_cellAfter_15 : decode cX0_cellAfter 15 = .ok (.iconst 0, 1) := do_3 (rdb (p := 0) (i := 15) ch_cX0_cellAfter_0 rfl)
theorem dX0_cellAfter_16 : decode cX0_cellAfter 16 = .ok (.istore 5, 2) := do_54 (rdb (p := 0) (i := 16) ch_cX0_cellAfter_0 rfl) (rdb (p := 0) (i := 17) ch_cX0_cellAfter_0 rfl)
theorem dX0_cellAfter_18 : decode cX0_cellAfter 18 = .ok (.iload 5, 2) := do_21 (rdb (p := 0) (i := 18) ch_cX0_cellAfter_0 rfl) (rdb (p := 0) (i := 19) ch_cX0_cellAfter_0 rfl)
theorem dX0_cellAfter_20 : decode cX0_cellAfter 20 = .ok (.iload_n 3, 1) := do_29 (rdb (p := 0) (i := 20) ch_cX0_cellAfter_0 rfl)
theorem dX0_cellAfter_21 : decode cX0_cellAfter 21 = .ok (.if_icmp .ge 31, 3) := do_162 (rdb (p := 0) (i := 21) ch_cX0_cellAfter_0 rfl) (rdb (p := 0) (i := 22) ch_cX0_cellAfter_0 rfl) (rdb (p := 0) (i := 23) ch_cX0_cellAfter_0 rfl) (by decide +kernel)
theorem dX0_cellAfter_24 : decode cX0_cellAfter 24 = .ok (.iload 4, 2) := do_21 (rdb (p := 0) (i := 24) ch_cX0_cellAfter_0 rfl) (rdb (p := 0) (i := 25) ch_cX0_cellAfter_0 rfl)
theorem dX0_cellAfter_26 : decode cX0_cellAfter 26 = .ok (.iload_n 2, 1) := do_28 (rdb (p := 0) (i := 26) ch_cX0_cellAfter_0 rfl)
theorem dX0_cellAfter_27 : decode cX0_cellAfter 27 = .ok (.if_icmp .eq 8, 3) := do_159 (rdb (p := 0) (i := 27) ch_cX0_cellAfter_0 rfl) (rdb (p := 0) (i := 28) ch_cX0_cellAfter_0 rfl) (rdb (p := 0) (i := 29) ch_cX0_cellAfter_0 rfl) (by decide +kernel)
theorem dX0_cellAfter_30 : decode cX0_cellAfter 30 = .ok (.iload 4, 2) := do_21 (rdb (p := 0) (i := 30) ch_cX0_cellAfter_0 rfl) (rdb (p := 0) (i := 31) ch_cX0_cellAfter_0 rfl)
theorem ch_cX0_cellAfter_32 : (cX0_cellAfter.data.toList.drop 32).take 36 = [156, 0, 5, 2, 172, 42, 43, 21, 4, 182, 0, 59, 54, 4, 132, 5, 1, 167, 255, 225, 21, 4, 172] := by decide +kernel
theorem dX0_cellAfter_32 : decode cX0_cellAfter 32 = .ok (.ifCond .ge 5, 3) := do_156 (rdb (p := 32) (i := 0) ch_cX0_cellAfter_32 rfl) (rdb (p := 32) (i := 1) ch_cX0_cellAfter_32 rfl) (rdb (p := 32) (i := 2) ch_cX0_cellAfter_32 rfl) (by decide +kernel)
theorem dX0_cellAfter_35 : decode cX0_cellAfter 35 = .ok (.iconst (-1), 1) := do_2 (rdb (p := 32) (i := 3) ch_cX0_cellAfter_32 rfl)
theorem dX0_cellAfter_36 : decode cX0_cellAfter 36 = .ok (.ireturn, 1) := do_172 (rdb (p := 32) (i := 4) ch_cX0_cellAfter_32 rfl)
theorem dX0_cellAfter_37 : decode cX0_cellAfter 37 = .ok (.aload_n 0, 1) := do_42 (rdb (p := 32) (i := 5) ch_cX0_cellAfter_32 rfl)
theorem dX0_cellAfter_38 : decode cX0_cellAfter 38 = .ok (.aload_n 1, 1) := do_43 (rdb (p := 32) (i := 6) ch_cX0_cellAfter_32 rfl)
theorem dX0_cellAfter_39 : decode cX0_cellAfter 39 = .ok (.iload 4, 2) := do_21 (rdb (p := 32) (i := 7) ch_cX0_cellAfter_32 rfl) (rdb (p := 32) (i := 8) ch_cX0_cellAfter_32 rfl)
theorem dX0_cellAfter_41 : decode cX0_cellAfter 41 = .ok (.invokevirtual 59, 3) := do_182 (rdb (p := 32) (i := 9) ch_cX0_cellAfter_32 rfl) (rdb (p := 32) (i := 10) ch_cX0_cellAfter_32 rfl) (rdb (p := 32) (i := 11) ch_cX0_cellAfter_32 rfl) rfl
theorem dX0_cellAfter_44 : decode cX0_cellAfter 44 = .ok (.istore 4, 2) := do_54 (rdb (p := 32) (i := 12) ch_cX0_cellAfter_32 rfl) (rdb (p := 32) (i := 13) ch_cX0_cellAfter_32 rfl)
theorem dX0_cellAfter_46 : decode cX0_cellAfter 46 = .ok (.iinc 5 1, 3) := do_132 (rdb (p := 32) (i := 14) ch_cX0_cellAfter_32 rfl) (rdb (p := 32) (i := 15) ch_cX0_cellAfter_32 rfl) (rdb (p := 32) (i := 16) ch_cX0_cellAfter_32 rfl) (by decide +kernel)
theorem dX0_cellAfter_49 : decode cX0_cellAfter 49 = .ok (.goto (-31), 3) := do_167 (rdb (p := 32) (i := 17) ch_cX0_cellAfter_32 rfl) (rdb (p := 32) (i := 18) ch_cX0_cellAfter_32 rfl) (rdb (p := 32) (i := 19) ch_cX0_cellAfter_32 rfl) (by decide +kernel)
theorem dX0_cellAfter_52 : decode cX0_cellAfter 52 = .ok (.iload 4, 2) := do_21 (rdb (p := 32) (i := 20) ch_cX0_cellAfter_32 rfl) (rdb (p := 32) (i := 21) ch_cX0_cellAfter_32 rfl)
theorem dX0_cellAfter_54 : decode cX0_cellAfter 54 = .ok (.ireturn, 1) := do_172 (rdb (p := 32) (i := 22) ch_cX0_cellAfter_32 rfl)
theorem ch_cX0_choosePosts_0 : (cX0_choosePosts.data.toList.drop 0).take 36 = [3, 54, 5, 21, 5, 25, 4, 180, 0, 65, 162, 0, 84, 21, 5, 16, 8, 162, 0, 77, 42, 180, 0, 23, 21, 5, 3, 79, 3, 54, 6, 21, 6, 45, 180, 0] := by decide +kernel
theorem dX0_choosePosts_0 : decode cX0_choosePosts 0 = .ok (.iconst 0, 1) := do_3 (rdb (p := 0) (i := 0) ch_cX0_choosePosts_0 rfl)
theorem dX0_choosePosts_1 : decode cX0_choosePosts 1 = .ok (.istore 5, 2) := do_54 (rdb (p := 0) (i := 1) ch_cX0_choosePosts_0 rfl) (rdb (p := 0) (i := 2) ch_cX0_choosePosts_0 rfl)
theorem dX0_choosePosts_3 : decode cX0_choosePosts 3 = .ok (.iload 5, 2) := do_21 (rdb (p := 0) (i := 3) ch_cX0_choosePosts_0 rfl) (rdb (p := 0) (i := 4) ch_cX0_choosePosts_0 rfl)
theorem dX0_choosePosts_5 : decode cX0_choosePosts 5 = .ok (.aload 4, 2) := do_25 (rdb (p := 0) (i := 5) ch_cX0_choosePosts_0 rfl) (rdb (p := 0) (i := 6) ch_cX0_choosePosts_0 rfl)
theorem dX0_choosePosts_7 : decode cX0_choosePosts 7 = .ok (.getfield 65, 3) := do_180 (rdb (p := 0) (i := 7) ch_cX0_choosePosts_0 rfl) (rdb (p := 0) (i := 8) ch_cX0_choosePosts_0 rfl) (rdb (p := 0) (i := 9) ch_cX0_choosePosts_0 rfl) rfl
theorem dX0_choosePosts_10 : decode cX0_choosePosts 10 = .ok (.if_icmp .ge 84, 3) := do_162 (rdb (p := 0) (i := 10) ch_cX0_choosePosts_0 rfl) (rdb (p := 0) (i := 11) ch_cX0_choosePosts_0 rfl) (rdb (p := 0) (i := 12) ch_cX0_choosePosts_0 rfl) (by decide +kernel)
theorem dX0_choosePosts_13 : decode cX0_choosePosts 13 = .ok (.iload 5, 2) := do_21 (rdb (p := 0) (i := 13) ch_cX0_choosePosts_0 rfl) (rdb (p := 0) (i := 14) ch_cX0_choosePosts_0 rfl)
theorem dX0_choosePosts_15 : decode cX0_choosePosts 15 = .ok (.bipush 8, 2) := do_16 (rdb (p := 0) (i := 15) ch_cX0_choosePosts_0 rfl) (rdb (p := 0) (i := 16) ch_cX0_choosePosts_0 rfl) (by decide +kernel)
theorem dX0_choosePosts_17 : decode cX0_choosePosts 17 = .ok (.if_icmp .ge 77, 3) := do_162 (rdb (p := 0) (i := 17) ch_cX0_choosePosts_0 rfl) (rdb (p := 0) (i := 18) ch_cX0_choosePosts_0 rfl) (rdb (p := 0) (i := 19) ch_cX0_choosePosts_0 rfl) (by decide +kernel)
theorem dX0_choosePosts_20 : decode cX0_choosePosts 20 = .ok (.aload_n 0, 1) := do_42 (rdb (p := 0) (i := 20) ch_cX0_choosePosts_0 rfl)
theorem dX0_choosePosts_21 : decode cX0_choosePosts 21 = .ok (.getfield 23, 3) := do_180 (rdb (p := 0) (i := 21) ch_cX0_choosePosts_0 rfl) (rdb (p := 0) (i := 22) ch_cX0_choosePosts_0 rfl) (rdb (p := 0) (i := 23) ch_cX0_choosePosts_0 rfl) rfl
theorem dX0_choosePosts_24 : decode cX0_choosePosts 24 = .ok (.iload 5, 2) := do_21 (rdb (p := 0) (i := 24) ch_cX0_choosePosts_0 rfl) (rdb (p := 0) (i := 25) ch_cX0_choosePosts_0 rfl)
theorem dX0_choosePosts_26 : decode cX0_choosePosts 26 = .ok (.iconst 0, 1) := do_3 (rdb (p := 0) (i := 26) ch_cX0_choosePosts_0 rfl)
theorem dX0_choosePosts_27 : decode cX0_choosePosts 27 = .ok (.iastore, 1) := do_79 (rdb (p := 0) (i := 27) ch_cX0_choosePosts_0 rfl)
theorem dX0_choosePosts_28 : decode cX0_choosePosts 28 = .ok (.iconst 0, 1) := do_3 (rdb (p := 0) (i := 28) ch_cX0_choosePosts_0 rfl)
theorem dX0_choosePosts_29 : decode cX0_choosePosts 29 = .ok (.istore 6, 2) := do_54 (rdb (p := 0) (i := 29) ch_cX0_choosePosts_0 rfl) (rdb (p := 0) (i := 30) ch_cX0_choosePosts_0 rfl)
theorem dX0_choosePosts_31 : decode cX0_choosePosts 31 = .ok (.iload 6, 2) := do_21 (rdb (p := 0) (i := 31) ch_cX0_choosePosts_0 rfl) (rdb (p := 0) (i := 32) ch_cX0_choosePosts_0 rfl)
theorem ch_cX0_choosePosts_32 : (cX0_choosePosts.data.toList.drop 32).take 36 = [6, 45, 180, 0, 65, 162, 0, 51, 21, 6, 16, 8, 162, 0, 44, 43, 28, 25, 4, 21, 5, 182, 0, 76, 45, 21, 6, 182, 0, 76, 184, 0, 112, 153, 0, 17] := by decide +kernel
theorem dX0_choosePosts_33 : decode cX0_choosePosts 33 = .ok (.aload_n 3, 1) := do_45 (rdb (p := 32) (i := 1) ch_cX0_choosePosts_32 rfl)
theorem dX0_choosePosts_34 : decode cX0_choosePosts 34 = .ok (.getfield 65, 3) := do_180 (rdb (p := 32) (i := 2) ch_cX0_choosePosts_32 rfl) (rdb (p := 32) (i := 3) ch_cX0_choosePosts_32 rfl) (rdb (p := 32) (i := 4) ch_cX0_choosePosts_32 rfl) rfl
theorem dX0_choosePosts_37 : decode cX0_choosePosts 37 = .ok (.if_icmp .ge 51, 3) := do_162 (rdb (p := 32) (i := 5) ch_cX0_choosePosts_32 rfl) (rdb (p := 32) (i := 6) ch_cX0_choosePosts_32 rfl) (rdb (p := 32) (i := 7) ch_cX0_choosePosts_32 rfl) (by decide +kernel)
theorem dX0_choosePosts_40 : decode cX0_choosePosts 40 = .ok (.iload 6, 2) := do_21 (rdb (p := 32) (i := 8) ch_cX0_choosePosts_32 rfl) (rdb (p := 32) (i := 9) ch_cX0_choosePosts_32 rfl)
theorem dX0_choosePosts_42 : decode cX0_choosePosts 42 = .ok (.bipush 8, 2) := do_16 (rdb (p := 32) (i := 10) ch_cX0_choosePosts_32 rfl) (rdb (p := 32) (i := 11) ch_cX0_choosePosts_32 rfl) (by decide +kernel)
theorem dX0_choosePosts_44 : decode cX0_choosePosts 44 = .ok (.if_icmp .ge 44, 3) := do_162 (rdb (p := 32) (i := 12) ch_cX0_choosePosts_32 rfl) (rdb (p := 32) (i := 13) ch_cX0_choosePosts_32 rfl) (rdb (p := 32) (i := 14) ch_cX0_choosePosts_32 rfl) (by decide +kernel)
theorem dX0_choosePosts_47 : decode cX0_choosePosts 47 = .ok (.aload_n 1, 1) := do_43 (rdb (p := 32) (i := 15) ch_cX0_choosePosts_32 rfl)
theorem dX0_choosePosts_48 : decode cX0_choosePosts 48 = .ok (.iload_n 2, 1) := do_28 (rdb (p := 32) (i := 16) ch_cX0_choosePosts_32 rfl)
theorem dX0_choosePosts_49 : decode cX0_choosePosts 49 = .ok (.aload 4, 2) := do_25 (rdb (p := 32) (i := 17) ch_cX0_choosePosts_32 rfl) (rdb (p := 32) (i := 18) ch_cX0_choosePosts_32 rfl)
theorem dX0_choosePosts_51 : decode cX0_choosePosts 51 = .ok (.iload 5, 2) := do_21 (rdb (p := 32) (i := 19) ch_cX0_choosePosts_32 rfl) (rdb (p := 32) (i := 20) ch_cX0_choosePosts_32 rfl)
theorem dX0_choosePosts_53 : decode cX0_choosePosts 53 = .ok (.invokevirtual 76, 3) := do_182 (rdb (p := 32) (i := 21) ch_cX0_choosePosts_32 rfl) (rdb (p := 32) (i := 22) ch_cX0_choosePosts_32 rfl) (rdb (p := 32) (i := 23) ch_cX0_choosePosts_32 rfl) rfl
theorem dX0_choosePosts_56 : decode cX0_choosePosts 56 = .ok (.aload_n 3, 1) := do_45 (rdb (p := 32) (i := 24) ch_cX0_choosePosts_32 rfl)
theorem dX0_choosePosts_57 : decode cX0_choosePosts 57 = .ok (.iload 6, 2) := do_21 (rdb (p := 32) (i := 25) ch_cX0_choosePosts_32 rfl) (rdb (p := 32) (i := 26) ch_cX0_choosePosts_32 rfl)
theorem dX0_choosePosts_59 : decode cX0_choosePosts 59 = .ok (.invokevirtual 76, 3) := do_182 (rdb (p := 32) (i := 27) ch_cX0_choosePosts_32 rfl) (rdb (p := 32) (i := 28) ch_cX0_choosePosts_32 rfl) (rdb (p := 32) (i := 29) ch_cX0_choosePosts_32 rfl) rfl
theorem dX0_choosePosts_62 : decode cX0_choosePosts 62 = .ok (.invokestatic 112, 3) := do_184 (rdb (p := 32) (i := 30) ch_cX0_choosePosts_32 rfl) (rdb (p := 32) (i := 31) ch_cX0_choosePosts_32 rfl) (rdb (p := 32) (i := 32) ch_cX0_choosePosts_32 rfl) rfl
theorem ch_cX0_choosePosts_64 : (cX0_choosePosts.data.toList.drop 64).take 36 = [112, 153, 0, 17, 42, 180, 0, 23, 21, 5, 92, 46, 4, 21, 6, 120, 128, 79, 132, 6, 1, 167, 255, 202, 132, 5, 1, 167, 255, 168, 42, 3, 181, 0, 30, 4] := by decide +kernel
theorem dX0_choosePosts_65 : decode cX0_choosePosts 65 = .ok (.ifCond .eq 17, 3) := do_153 (rdb (p := 64) (i := 1) ch_cX0_choosePosts_64 rfl) (rdb (p := 64) (i := 2) ch_cX0_choosePosts_64 rfl) (rdb (p := 64) (i := 3) ch_cX0_choosePosts_64 rfl) (by decide +kernel)
theorem dX0_choosePosts_68 : decode cX0_choosePosts 68 = .ok (.aload_n 0, 1) := do_42 (rdb (p := 64) (i := 4) ch_cX0_choosePosts_64 rfl)
theorem dX0_choosePosts_69 : decode cX0_choosePosts 69 = .ok (.getfield 23, 3) := do_180 (rdb (p := 64) (i := 5) ch_cX0_choosePosts_64 rfl) (rdb (p := 64) (i := 6) ch_cX0_choosePosts_64 rfl) (rdb (p := 64) (i := 7) ch_cX0_choosePosts_64 rfl) rfl
theorem dX0_choosePosts_72 : decode cX0_choosePosts 72 = .ok (.iload 5, 2) := do_21 (rdb (p := 64) (i := 8) ch_cX0_choosePosts_64 rfl) (rdb (p := 64) (i := 9) ch_cX0_choosePosts_64 rfl)
theorem dX0_choosePosts_74 : decode cX0_choosePosts 74 = .ok (.dup2, 1) := do_92 (rdb (p := 64) (i := 10) ch_cX0_choosePosts_64 rfl)
theorem dX0_choosePosts_75 : decode cX0_choosePosts 75 = .ok (.iaload, 1) := do_46 (rdb (p := 64) (i := 11) ch_cX0_choosePosts_64 rfl)
theorem dX0_choosePosts_76 : decode cX0_choosePosts 76 = .ok (.iconst 1, 1) := do_4 (rdb (p := 64) (i := 12) ch_cX0_choosePosts_64 rfl)
theorem dX0_choosePosts_77 : decode cX0_choosePosts 77 = .ok (.iload 6, 2) := do_21 (rdb (p := 64) (i := 13) ch_cX0_choosePosts_64 rfl) (rdb (p := 64) (i := 14) ch_cX0_choosePosts_64 rfl)
theorem dX0_choosePosts_79 : decode cX0_choosePosts 79 = .ok (.ishl, 1) := do_120 (rdb (p := 64) (i := 15) ch_cX0_choosePosts_64 rfl)
theorem dX0_choosePosts_80 : decode cX0_choosePosts 80 = .ok (.ior, 1) := do_128 (rdb (p := 64) (i := 16) ch_cX0_choosePosts_64 rfl)
theorem dX0_choosePosts_81 : decode cX0_choosePosts 81 = .ok (.iastore, 1) := do_79 (rdb (p := 64) (i := 17) ch_cX0_choosePosts_64 rfl)
theorem dX0_choosePosts_82 : decode cX0_choosePosts 82 = .ok (.iinc 6 1, 3) := do_132 (rdb (p := 64) (i := 18) ch_cX0_choosePosts_64 rfl) (rdb (p := 64) (i := 19) ch_cX0_choosePosts_64 rfl) (rdb (p := 64) (i := 20) ch_cX0_choosePosts_64 rfl) (by decide +kernel)
theorem dX0_choosePosts_85 : decode cX0_choosePosts 85 = .ok (.goto (-54), 3) := do_167 (rdb (p := 64) (i := 21) ch_cX0_choosePosts_64 rfl) (rdb (p := 64) (i := 22) ch_cX0_choosePosts_64 rfl) (rdb (p := 64) (i := 23) ch_cX0_choosePosts_64 rfl) (by decide +kernel)
theorem dX0_choosePosts_88 : decode cX0_choosePosts 88 = .ok (.iinc 5 1, 3) := do_132 (rdb (p := 64) (i := 24) ch_cX0_choosePosts_64 rfl) (rdb (p := 64) (i := 25) ch_cX0_choosePosts_64 rfl) (rdb (p := 64) (i := 26) ch_cX0_choosePosts_64 rfl) (by decide +kernel)
theorem dX0_choosePosts_91 : decode cX0_choosePosts 91 = .ok (.goto (-88), 3) := do_167 (rdb (p := 64) (i := 27) ch_cX0_choosePosts_64 rfl) (rdb (p := 64) (i := 28) ch_cX0_choosePosts_64 rfl) (rdb (p := 64) (i := 29) ch_cX0_choosePosts_64 rfl) (by decide +kernel)
theorem dX0_choosePosts_94 : decode cX0_choosePosts 94 = .ok (.aload_n 0, 1) := do_42 (rdb (p := 64) (i := 30) ch_cX0_choosePosts_64 rfl)
theorem dX0_choosePosts_95 : decode cX0_choosePosts 95 = .ok (.iconst 0, 1) := do_3 (rdb (p := 64) (i := 31) ch_cX0_choosePosts_64 rfl)
theorem ch_cX0_choosePosts_96 : (cX0_choosePosts.data.toList.drop 96).take 36 = [181, 0, 30, 4, 54, 5, 21, 5, 17, 1, 0, 162, 0, 74, 42, 180, 0, 30, 153, 0, 18, 21, 5, 184, 0, 86, 42, 180, 0, 30, 184, 0, 86, 162, 0, 7] := by decide +kernel
theorem dX0_choosePosts_96 : decode cX0_choosePosts 96 = .ok (.putfield 30, 3) := do_181 (rdb (p := 96) (i := 0) ch_cX0_choosePosts_96 rfl) (rdb (p := 96) (i := 1) ch_cX0_choosePosts_96 rfl) (rdb (p := 96) (i := 2) ch_cX0_choosePosts_96 rfl) rfl
theorem dX0_choosePosts_99 : decode cX0_choosePosts 99 = .ok (.iconst 1, 1) := do_4 (rdb (p := 96) (i := 3) ch_cX0_choosePosts_96 rfl)
theorem dX0_choosePosts_100 : decode cX0_choosePosts 100 = .ok (.istore 5, 2) := do_54 (rdb (p := 96) (i := 4) ch_cX0_choosePosts_96 rfl) (rdb (p := 96) (i := 5) ch_cX0_choosePosts_96 rfl)
theorem dX0_choosePosts_102 : decode cX0_choosePosts 102 = .ok (.iload 5, 2) := do_21 (rdb (p := 96) (i := 6) ch_cX0_choosePosts_96 rfl) (rdb (p := 96) (i := 7) ch_cX0_choosePosts_96 rfl)
theorem dX0_choosePosts_104 : decode cX0_choosePosts 104 = .ok (.sipush 256, 3) := do_17 (rdb (p := 96) (i := 8) ch_cX0_choosePosts_96 rfl) (rdb (p := 96) (i := 9) ch_cX0_choosePosts_96 rfl) (rdb (p := 96) (i := 10) ch_cX0_choosePosts_96 rfl) (by decide +kernel)
theorem dX0_choosePosts_107 : decode cX0_choosePosts 107 = .ok (.if_icmp .ge 74, 3) := do_162 (rdb (p := 96) (i := 11) ch_cX0_choosePosts_96 rfl) (rdb (p := 96) (i := 12) ch_cX0_choosePosts_96 rfl) (rdb (p := 96) (i := 13) ch_cX0_choosePosts_96 rfl) (by decide +kernel)
theorem dX0_choosePosts_110 : decode cX0_choosePosts 110 = .ok (.aload_n 0, 1) := do_42 (rdb (p := 96) (i := 14) ch_cX0_choosePosts_96 rfl)
theorem dX0_choosePosts_111 : decode cX0_choosePosts 111 = .ok (.getfield 30, 3) := do_180 (rdb (p := 96) (i := 15) ch_cX0_choosePosts_96 rfl) (rdb (p := 96) (i := 16) ch_cX0_choosePosts_96 rfl) (rdb (p := 96) (i := 17) ch_cX0_choosePosts_96 rfl) rfl
theorem dX0_choosePosts_114 : decode cX0_choosePosts 114 = .ok (.ifCond .eq 18, 3) := do_153 (rdb (p := 96) (i := 18) ch_cX0_choosePosts_96 rfl) (rdb (p := 96) (i := 19) ch_cX0_choosePosts_96 rfl) (rdb (p := 96) (i := 20) ch_cX0_choosePosts_96 rfl) (by decide +kernel)
theorem dX0_choosePosts_117 : decode cX0_choosePosts 117 = .ok (.iload 5, 2) := do_21 (rdb (p := 96) (i := 21) ch_cX0_choosePosts_96 rfl) (rdb (p := 96) (i := 22) ch_cX0_choosePosts_96 rfl)
theorem dX0_choosePosts_119 : decode cX0_choosePosts 119 = .ok (.invokestatic 86, 3) := do_184 (rdb (p := 96) (i := 23) ch_cX0_choosePosts_96 rfl) (rdb (p := 96) (i := 24) ch_cX0_choosePosts_96 rfl) (rdb (p := 96) (i := 25) ch_cX0_choosePosts_96 rfl) rfl
theorem dX0_choosePosts_122 : decode cX0_choosePosts 122 = .ok (.aload_n 0, 1) := do_42 (rdb (p := 96) (i := 26) ch_cX0_choosePosts_96 rfl)
theorem dX0_choosePosts_123 : decode cX0_choosePosts 123 = .ok (.getfield 30, 3) := do_180 (rdb (p := 96) (i := 27) ch_cX0_choosePosts_96 rfl) (rdb (p := 96) (i := 28) ch_cX0_choosePosts_96 rfl) (rdb (p := 96) (i := 29) ch_cX0_choosePosts_96 rfl) rfl
theorem dX0_choosePosts_126 : decode cX0_choosePosts 126 = .ok (.invokestatic 86, 3) := do_184 (rdb (p := 96) (i := 30) ch_cX0_choosePosts_96 rfl) (rdb (p := 96) (i := 31) ch_cX0_choosePosts_96 rfl) (rdb (p := 96) (i := 32) ch_cX0_choosePosts_96 rfl) rfl
theorem ch_cX0_choosePosts_128 : (cX0_choosePosts.data.toList.drop 128).take 36 = [86, 162, 0, 7, 4, 167, 0, 4, 3, 54, 6, 21, 6, 153, 0, 34, 21, 5, 4, 45, 180, 0, 65, 120, 162, 0, 23, 42, 21, 5, 25, 4, 180, 0, 65, 182] := by decide +kernel
theorem dX0_choosePosts_129 : decode cX0_choosePosts 129 = .ok (.if_icmp .ge 7, 3) := do_162 (rdb (p := 128) (i := 1) ch_cX0_choosePosts_128 rfl) (rdb (p := 128) (i := 2) ch_cX0_choosePosts_128 rfl) (rdb (p := 128) (i := 3) ch_cX0_choosePosts_128 rfl) (by decide +kernel)
theorem dX0_choosePosts_132 : decode cX0_choosePosts 132 = .ok (.iconst 1, 1) := do_4 (rdb (p := 128) (i := 4) ch_cX0_choosePosts_128 rfl)
theorem dX0_choosePosts_133 : decode cX0_choosePosts 133 = .ok (.goto 4, 3) := do_167 (rdb (p := 128) (i := 5) ch_cX0_choosePosts_128 rfl) (rdb (p := 128) (i := 6) ch_cX0_choosePosts_128 rfl) (rdb (p := 128) (i := 7) ch_cX0_choosePosts_128 rfl) (by decide +kernel)
theorem dX0_choosePosts_136 : decode cX0_choosePosts 136 = .ok (.iconst 0, 1) := do_3 (rdb (p := 128) (i := 8) ch_cX0_choosePosts_128 rfl)
theorem dX0_choosePosts_137 : decode cX0_choosePosts 137 = .ok (.istore 6, 2) := do_54 (rdb (p := 128) (i := 9) ch_cX0_choosePosts_128 rfl) (rdb (p := 128) (i := 10) ch_cX0_choosePosts_128 rfl)
theorem dX0_choosePosts_139 : decode cX0_choosePosts 139 = .ok (.iload 6, 2) := do_21 (rdb (p := 128) (i := 11) ch_cX0_choosePosts_128 rfl) (rdb (p := 128) (i := 12) ch_cX0_choosePosts_128 rfl)
theorem dX0_choosePosts_141 : decode cX0_choosePosts 141 = .ok (.ifCond .eq 34, 3) := do_153 (rdb (p := 128) (i := 13) ch_cX0_choosePosts_128 rfl) (rdb (p := 128) (i := 14) ch_cX0_choosePosts_128 rfl) (rdb (p := 128) (i := 15) ch_cX0_choosePosts_128 rfl) (by decide +kernel)
theorem dX0_choosePosts_144 : decode cX0_choosePosts 144 = .ok (.iload 5, 2) := do_21 (rdb (p := 128) (i := 16) ch_cX0_choosePosts_128 rfl) (rdb (p := 128) (i := 17) ch_cX0_choosePosts_128 rfl)
theorem dX0_choosePosts_146 : decode cX0_choosePosts 146 = .ok (.iconst 1, 1) := do_4 (rdb (p := 128) (i := 18) ch_cX0_choosePosts_128 rfl)
theorem dX0_choosePosts_147 : decode cX0_choosePosts 147 = .ok (.aload_n 3, 1) := do_45 (rdb (p := 128) (i := 19) ch_cX0_choosePosts_128 rfl)
theorem dX0_choosePosts_148 : decode cX0_choosePosts 148 = .ok (.getfield 65, 3) := do_180 (rdb (p := 128) (i := 20) ch_cX0_choosePosts_128 rfl) (rdb (p := 128) (i := 21) ch_cX0_choosePosts_128 rfl) (rdb (p := 128) (i := 22) ch_cX0_choosePosts_128 rfl) rfl
theorem dX0_choosePosts_151 : decode cX0_choosePosts 151 = .ok (.ishl, 1) := do_120 (rdb (p := 128) (i := 23) ch_cX0_choosePosts_128 rfl)
theorem dX0_choosePosts_152 : decode cX0_choosePosts 152 = .ok (.if_icmp .ge 23, 3) := do_162 (rdb (p := 128) (i := 24) ch_cX0_choosePosts_128 rfl) (rdb (p := 128) (i := 25) ch_cX0_choosePosts_128 rfl) (rdb (p := 128) (i := 26) ch_cX0_choosePosts_128 rfl) (by decide +kernel)
theorem dX0_choosePosts_155 : decode cX0_choosePosts 155 = .ok (.aload_n 0, 1) := do_42 (rdb (p := 128) (i := 27) ch_cX0_choosePosts_128 rfl)
theorem dX0_choosePosts_156 : decode cX0_choosePosts 156 = .ok (.iload 5, 2) := do_21 (rdb (p := 128) (i := 28) ch_cX0_choosePosts_128 rfl) (rdb (p := 128) (i := 29) ch_cX0_choosePosts_128 rfl)
theorem dX0_choosePosts_158 : decode cX0_choosePosts 158 = .ok (.aload 4, 2) := do_25 (rdb (p := 128) (i := 30) ch_cX0_choosePosts_128 rfl) (rdb (p := 128) (i := 31) ch_cX0_choosePosts_128 rfl)
theorem ch_cX0_choosePosts_160 : (cX0_choosePosts.data.toList.drop 160).take 36 = [180, 0, 65, 182, 0, 116, 153, 0, 9, 42, 21, 5, 181, 0, 30, 132, 5, 1, 167, 255, 180, 42, 180, 0, 30, 153, 0, 7, 4, 167, 0, 4, 3, 172] := by decide +kernel
theorem dX0_choosePosts_160 : decode cX0_choosePosts 160 = .ok (.getfield 65, 3) := do_180 (rdb (p := 160) (i := 0) ch_cX0_choosePosts_160 rfl) (rdb (p := 160) (i := 1) ch_cX0_choosePosts_160 rfl) (rdb (p := 160) (i := 2) ch_cX0_choosePosts_160 rfl) rfl
theorem dX0_choosePosts_163 : decode cX0_choosePosts 163 = .ok (.invokevirtual 116, 3) := do_182 (rdb (p := 160) (i := 3) ch_cX0_choosePosts_160 rfl) (rdb (p := 160) (i := 4) ch_cX0_choosePosts_160 rfl) (rdb (p := 160) (i := 5) ch_cX0_choosePosts_160 rfl) rfl
theorem dX0_choosePosts_166 : decode cX0_choosePosts 166 = .ok (.ifCond .eq 9, 3) := do_153 (rdb (p := 160) (i := 6) ch_cX0_choosePosts_160 rfl) (rdb (p := 160) (i := 7) ch_cX0_choosePosts_160 rfl) (rdb (p := 160) (i := 8) ch_cX0_choosePosts_160 rfl) (by decide +kernel)
theorem dX0_choosePosts_169 : decode cX0_choosePosts 169 = .ok (.aload_n 0, 1) := do_42 (rdb (p := 160) (i := 9) ch_cX0_choosePosts_160 rfl)
theorem dX0_choosePosts_170 : decode cX0_choosePosts 170 = .ok (.iload 5, 2) := do_21 (rdb (p := 160) (i := 10) ch_cX0_choosePosts_160 rfl) (rdb (p := 160) (i := 11) ch_cX0_choosePosts_160 rfl)
theorem dX0_choosePosts_172 : decode cX0_choosePosts 172 = .ok (.putfield 30, 3) := do_181 (rdb (p := 160) (i := 12) ch_cX0_choosePosts_160 rfl) (rdb (p := 160) (i := 13) ch_cX0_choosePosts_160 rfl) (rdb (p := 160) (i := 14) ch_cX0_choosePosts_160 rfl) rfl
theorem dX0_choosePosts_175 : decode cX0_choosePosts 175 = .ok (.iinc 5 1, 3) := do_132 (rdb (p := 160) (i := 15) ch_cX0_choosePosts_160 rfl) (rdb (p := 160) (i := 16) ch_cX0_choosePosts_160 rfl) (rdb (p := 160) (i := 17) ch_cX0_choosePosts_160 rfl) (by decide +kernel)
theorem dX0_choosePosts_178 : decode cX0_choosePosts 178 = .ok (.goto (-76), 3) := do_167 (rdb (p := 160) (i := 18) ch_cX0_choosePosts_160 rfl) (rdb (p := 160) (i := 19) ch_cX0_choosePosts_160 rfl) (rdb (p := 160) (i := 20) ch_cX0_choosePosts_160 rfl) (by decide +kernel)
theorem dX0_choosePosts_181 : decode cX0_choosePosts 181 = .ok (.aload_n 0, 1) := do_42 (rdb (p := 160) (i := 21) ch_cX0_choosePosts_160 rfl)
theorem dX0_choosePosts_182 : decode cX0_choosePosts 182 = .ok (.getfield 30, 3) := do_180 (rdb (p := 160) (i := 22) ch_cX0_choosePosts_160 rfl) (rdb (p := 160) (i := 23) ch_cX0_choosePosts_160 rfl) (rdb (p := 160) (i := 24) ch_cX0_choosePosts_160 rfl) rfl
theorem dX0_choosePosts_185 : decode cX0_choosePosts 185 = .ok (.ifCond .eq 7, 3) := do_153 (rdb (p := 160) (i := 25) ch_cX0_choosePosts_160 rfl) (rdb (p := 160) (i := 26) ch_cX0_choosePosts_160 rfl) (rdb (p := 160) (i := 27) ch_cX0_choosePosts_160 rfl) (by decide +kernel)
theorem dX0_choosePosts_188 : decode cX0_choosePosts 188 = .ok (.iconst 1, 1) := do_4 (rdb (p := 160) (i := 28) ch_cX0_choosePosts_160 rfl)
theorem dX0_choosePosts_189 : decode cX0_choosePosts 189 = .ok (.goto 4, 3) := do_167 (rdb (p := 160) (i := 29) ch_cX0_choosePosts_160 rfl) (rdb (p := 160) (i := 30) ch_cX0_choosePosts_160 rfl) (rdb (p := 160) (i := 31) ch_cX0_choosePosts_160 rfl) (by decide +kernel)
theorem ch_cX0_choosePosts_192 : (cX0_choosePosts.data.toList.drop 192).take 36 = [3, 172] := by decide +kernel
theorem dX0_choosePosts_192 : decode cX0_choosePosts 192 = .ok (.iconst 0, 1) := do_3 (rdb (p := 192) (i := 0) ch_cX0_choosePosts_192 rfl)
theorem dX0_choosePosts_193 : decode cX0_choosePosts 193 = .ok (.ireturn, 1) := do_172 (rdb (p := 192) (i := 1) ch_cX0_choosePosts_192 rfl)
theorem ch_cX0_chooseSpots_0 : (cX0_chooseSpots.data.toList.drop 0).take 36 = [3, 54, 5, 3, 54, 6, 21, 6, 45, 180, 0, 65, 162, 0, 55, 21, 6, 16, 8, 162, 0, 48, 43, 180, 0, 70, 45, 21, 6, 182, 0, 76, 182, 0, 79, 153] := by decide +kernel
theorem dX0_chooseSpots_0 : decode cX0_chooseSpots 0 = .ok (.iconst 0, 1) := do_3 (rdb (p := 0) (i := 0) ch_cX0_chooseSpots_0 rfl)
theorem dX0_chooseSpots_1 : decode cX0_chooseSpots 1 = .ok (.istore 5, 2) := do_54 (rdb (p := 0) (i := 1) ch_cX0_chooseSpots_0 rfl) (rdb (p := 0) (i := 2) ch_cX0_chooseSpots_0 rfl)
theorem dX0_chooseSpots_3 : decode cX0_chooseSpots 3 = .ok (.iconst 0, 1) := do_3 (rdb (p := 0) (i := 3) ch_cX0_chooseSpots_0 rfl)
theorem dX0_chooseSpots_4 : decode cX0_chooseSpots 4 = .ok (.istore 6, 2) := do_54 (rdb (p := 0) (i := 4) ch_cX0_chooseSpots_0 rfl) (rdb (p := 0) (i := 5) ch_cX0_chooseSpots_0 rfl)
theorem dX0_chooseSpots_6 : decode cX0_chooseSpots 6 = .ok (.iload 6, 2) := do_21 (rdb (p := 0) (i := 6) ch_cX0_chooseSpots_0 rfl) (rdb (p := 0) (i := 7) ch_cX0_chooseSpots_0 rfl)
theorem dX0_chooseSpots_8 : decode cX0_chooseSpots 8 = .ok (.aload_n 3, 1) := do_45 (rdb (p := 0) (i := 8) ch_cX0_chooseSpots_0 rfl)
theorem dX0_chooseSpots_9 : decode cX0_chooseSpots 9 = .ok (.getfield 65, 3) := do_180 (rdb (p := 0) (i := 9) ch_cX0_chooseSpots_0 rfl) (rdb (p := 0) (i := 10) ch_cX0_chooseSpots_0 rfl) (rdb (p := 0) (i := 11) ch_cX0_chooseSpots_0 rfl) rfl
theorem dX0_chooseSpots_12 : decode cX0_chooseSpots 12 = .ok (.if_icmp .ge 55, 3) := do_162 (rdb (p := 0) (i := 12) ch_cX0_chooseSpots_0 rfl) (rdb (p := 0) (i := 13) ch_cX0_chooseSpots_0 rfl) (rdb (p := 0) (i := 14) ch_cX0_chooseSpots_0 rfl) (by decide +kernel)
theorem dX0_chooseSpots_15 : decode cX0_chooseSpots 15 = .ok (.iload 6, 2) := do_21 (rdb (p := 0) (i := 15) ch_cX0_chooseSpots_0 rfl) (rdb (p := 0) (i := 16) ch_cX0_chooseSpots_0 rfl)
theorem dX0_chooseSpots_17 : decode cX0_chooseSpots 17 = .ok (.bipush 8, 2) := do_16 (rdb (p := 0) (i := 17) ch_cX0_chooseSpots_0 rfl) (rdb (p := 0) (i := 18) ch_cX0_chooseSpots_0 rfl) (by decide +kernel)
theorem dX0_chooseSpots_19 : decode cX0_chooseSpots 19 = .ok (.if_icmp .ge 48, 3) := do_162 (rdb (p := 0) (i := 19) ch_cX0_chooseSpots_0 rfl) (rdb (p := 0) (i := 20) ch_cX0_chooseSpots_0 rfl) (rdb (p := 0) (i := 21) ch_cX0_chooseSpots_0 rfl) (by decide +kernel)
theorem dX0_chooseSpots_22 : decode cX0_chooseSpots 22 = .ok (.aload_n 1, 1) := do_43 (rdb (p := 0) (i := 22) ch_cX0_chooseSpots_0 rfl)
theorem dX0_chooseSpots_23 : decode cX0_chooseSpots 23 = .ok (.getfield 70, 3) := do_180 (rdb (p := 0) (i := 23) ch_cX0_chooseSpots_0 rfl) (rdb (p := 0) (i := 24) ch_cX0_chooseSpots_0 rfl) (rdb (p := 0) (i := 25) ch_cX0_chooseSpots_0 rfl) rfl
theorem dX0_chooseSpots_26 : decode cX0_chooseSpots 26 = .ok (.aload_n 3, 1) := do_45 (rdb (p := 0) (i := 26) ch_cX0_chooseSpots_0 rfl)
theorem dX0_chooseSpots_27 : decode cX0_chooseSpots 27 = .ok (.iload 6, 2) := do_21 (rdb (p := 0) (i := 27) ch_cX0_chooseSpots_0 rfl) (rdb (p := 0) (i := 28) ch_cX0_chooseSpots_0 rfl)
theorem dX0_chooseSpots_29 : decode cX0_chooseSpots 29 = .ok (.invokevirtual 76, 3) := do_182 (rdb (p := 0) (i := 29) ch_cX0_chooseSpots_0 rfl) (rdb (p := 0) (i := 30) ch_cX0_chooseSpots_0 rfl) (rdb (p := 0) (i := 31) ch_cX0_chooseSpots_0 rfl) rfl
theorem ch_cX0_chooseSpots_32 : (cX0_chooseSpots.data.toList.drop 32).take 36 = [182, 0, 79, 153, 0, 26, 21, 5, 4, 21, 6, 120, 128, 54, 5, 42, 43, 28, 21, 6, 45, 21, 6, 182, 0, 76, 182, 0, 82, 132, 6, 1, 167, 255, 198, 42] := by decide +kernel
theorem dX0_chooseSpots_32 : decode cX0_chooseSpots 32 = .ok (.invokevirtual 79, 3) := do_182 (rdb (p := 32) (i := 0) ch_cX0_chooseSpots_32 rfl) (rdb (p := 32) (i := 1) ch_cX0_chooseSpots_32 rfl) (rdb (p := 32) (i := 2) ch_cX0_chooseSpots_32 rfl) rfl
theorem dX0_chooseSpots_35 : decode cX0_chooseSpots 35 = .ok (.ifCond .eq 26, 3) := do_153 (rdb (p := 32) (i := 3) ch_cX0_chooseSpots_32 rfl) (rdb (p := 32) (i := 4) ch_cX0_chooseSpots_32 rfl) (rdb (p := 32) (i := 5) ch_cX0_chooseSpots_32 rfl) (by decide +kernel)
theorem dX0_chooseSpots_38 : decode cX0_chooseSpots 38 = .ok (.iload 5, 2) := do_21 (rdb (p := 32) (i := 6) ch_cX0_chooseSpots_32 rfl) (rdb (p := 32) (i := 7) ch_cX0_chooseSpots_32 rfl)
theorem dX0_chooseSpots_40 : decode cX0_chooseSpots 40 = .ok (.iconst 1, 1) := do_4 (rdb (p := 32) (i := 8) ch_cX0_chooseSpots_32 rfl)
theorem dX0_chooseSpots_41 : decode cX0_chooseSpots 41 = .ok (.iload 6, 2) := do_21 (rdb (p := 32) (i := 9) ch_cX0_chooseSpots_32 rfl) (rdb (p := 32) (i := 10) ch_cX0_chooseSpots_32 rfl)
theorem dX0_chooseSpots_43 : decode cX0_chooseSpots 43 = .ok (.ishl, 1) := do_120 (rdb (p := 32) (i := 11) ch_cX0_chooseSpots_32 rfl)
theorem dX0_chooseSpots_44 : decode cX0_chooseSpots 44 = .ok (.ior, 1) := do_128 (rdb (p := 32) (i := 12) ch_cX0_chooseSpots_32 rfl)
theorem dX0_chooseSpots_45 : decode cX0_chooseSpots 45 = .ok (.istore 5, 2) := do_54 (rdb (p := 32) (i := 13) ch_cX0_chooseSpots_32 rfl) (rdb (p := 32) (i := 14) ch_cX0_chooseSpots_32 rfl)
theorem dX0_chooseSpots_47 : decode cX0_chooseSpots 47 = .ok (.aload_n 0, 1) := do_42 (rdb (p := 32) (i := 15) ch_cX0_chooseSpots_32 rfl)
theorem dX0_chooseSpots_48 : decode cX0_chooseSpots 48 = .ok (.aload_n 1, 1) := do_43 (rdb (p := 32) (i := 16) ch_cX0_chooseSpots_32 rfl)
theorem dX0_chooseSpots_49 : decode cX0_chooseSpots 49 = .ok (.iload_n 2, 1) := do_28 (rdb (p := 32) (i := 17) ch_cX0_chooseSpots_32 rfl)
theorem dX0_chooseSpots_50 : decode cX0_chooseSpots 50 = .ok (.iload 6, 2) := do_21 (rdb (p := 32) (i := 18) ch_cX0_chooseSpots_32 rfl) (rdb (p := 32) (i := 19) ch_cX0_chooseSpots_32 rfl)
theorem dX0_chooseSpots_52 : decode cX0_chooseSpots 52 = .ok (.aload_n 3, 1) := do_45 (rdb (p := 32) (i := 20) ch_cX0_chooseSpots_32 rfl)
theorem dX0_chooseSpots_53 : decode cX0_chooseSpots 53 = .ok (.iload 6, 2) := do_21 (rdb (p := 32) (i := 21) ch_cX0_chooseSpots_32 rfl) (rdb (p := 32) (i := 22) ch_cX0_chooseSpots_32 rfl)
theorem dX0_chooseSpots_55 : decode cX0_chooseSpots 55 = .ok (.invokevirtual 76, 3) := do_182 (rdb (p := 32) (i := 23) ch_cX0_chooseSpots_32 rfl) (rdb (p := 32) (i := 24) ch_cX0_chooseSpots_32 rfl) (rdb (p := 32) (i := 25) ch_cX0_chooseSpots_32 rfl) rfl
theorem dX0_chooseSpots_58 : decode cX0_chooseSpots 58 = .ok (.invokevirtual 82, 3) := do_182 (rdb (p := 32) (i := 26) ch_cX0_chooseSpots_32 rfl) (rdb (p := 32) (i := 27) ch_cX0_chooseSpots_32 rfl) (rdb (p := 32) (i := 28) ch_cX0_chooseSpots_32 rfl) rfl
theorem dX0_chooseSpots_61 : decode cX0_chooseSpots 61 = .ok (.iinc 6 1, 3) := do_132 (rdb (p := 32) (i := 29) ch_cX0_chooseSpots_32 rfl) (rdb (p := 32) (i := 30) ch_cX0_chooseSpots_32 rfl) (rdb (p := 32) (i := 31) ch_cX0_chooseSpots_32 rfl) (by decide +kernel)
theorem ch_cX0_chooseSpots_64 : (cX0_chooseSpots.data.toList.drop 64).take 36 = [167, 255, 198, 42, 2, 181, 0, 26, 42, 3, 181, 0, 30, 4, 54, 6, 21, 6, 17, 1, 0, 162, 0, 58, 21, 6, 21, 5, 2, 130, 126, 154, 0, 42, 21, 6] := by decide +kernel
theorem dX0_chooseSpots_64 : decode cX0_chooseSpots 64 = .ok (.goto (-58), 3) := do_167 (rdb (p := 64) (i := 0) ch_cX0_chooseSpots_64 rfl) (rdb (p := 64) (i := 1) ch_cX0_chooseSpots_64 rfl) (rdb (p := 64) (i := 2) ch_cX0_chooseSpots_64 rfl) (by decide +kernel)
theorem dX0_chooseSpots_67 : decode cX0_chooseSpots 67 = .ok (.aload_n 0, 1) := do_42 (rdb (p := 64) (i := 3) ch_cX0_chooseSpots_64 rfl)
theorem dX0_chooseSpots_68 : decode cX0_chooseSpots 68 = .ok (.iconst (-1), 1) := do_2 (rdb (p := 64) (i := 4) ch_cX0_chooseSpots_64 rfl)
theorem dX0_chooseSpots_69 : decode cX0_chooseSpots 69 = .ok (.putfield 26, 3) := do_181 (rdb (p := 64) (i := 5) ch_cX0_chooseSpots_64 rfl) (rdb (p := 64) (i := 6) ch_cX0_chooseSpots_64 rfl) (rdb (p := 64) (i := 7) ch_cX0_chooseSpots_64 rfl) rfl
theorem dX0_chooseSpots_72 : decode cX0_chooseSpots 72 = .ok (.aload_n 0, 1) := do_42 (rdb (p := 64) (i := 8) ch_cX0_chooseSpots_64 rfl)
theorem dX0_chooseSpots_73 : decode cX0_chooseSpots 73 = .ok (.iconst 0, 1) := do_3 (rdb (p := 64) (i := 9) ch_cX0_chooseSpots_64 rfl)
theorem dX0_chooseSpots_74 : decode cX0_chooseSpots 74 = .ok (.putfield 30, 3) := do_181 (rdb (p := 64) (i := 10) ch_cX0_chooseSpots_64 rfl) (rdb (p := 64) (i := 11) ch_cX0_chooseSpots_64 rfl) (rdb (p := 64) (i := 12) ch_cX0_chooseSpots_64 rfl) rfl
theorem dX0_chooseSpots_77 : decode cX0_chooseSpots 77 = .ok (.iconst 1, 1) := do_4 (rdb (p := 64) (i := 13) ch_cX0_chooseSpots_64 rfl)
theorem dX0_chooseSpots_78 : decode cX0_chooseSpots 78 = .ok (.istore 6, 2) := do_54 (rdb (p := 64) (i := 14) ch_cX0_chooseSpots_64 rfl) (rdb (p := 64) (i := 15) ch_cX0_chooseSpots_64 rfl)
theorem dX0_chooseSpots_80 : decode cX0_chooseSpots 80 = .ok (.iload 6, 2) := do_21 (rdb (p := 64) (i := 16) ch_cX0_chooseSpots_64 rfl) (rdb (p := 64) (i := 17) ch_cX0_chooseSpots_64 rfl)
theorem dX0_chooseSpots_82 : decode cX0_chooseSpots 82 = .ok (.sipush 256, 3) := do_17 (rdb (p := 64) (i := 18) ch_cX0_chooseSpots_64 rfl) (rdb (p := 64) (i := 19) ch_cX0_chooseSpots_64 rfl) (rdb (p := 64) (i := 20) ch_cX0_chooseSpots_64 rfl) (by decide +kernel)
theorem dX0_chooseSpots_85 : decode cX0_chooseSpots 85 = .ok (.if_icmp .ge 58, 3) := do_162 (rdb (p := 64) (i := 21) ch_cX0_chooseSpots_64 rfl) (rdb (p := 64) (i := 22) ch_cX0_chooseSpots_64 rfl) (rdb (p := 64) (i := 23) ch_cX0_chooseSpots_64 rfl) (by decide +kernel)
theorem dX0_chooseSpots_88 : decode cX0_chooseSpots 88 = .ok (.iload 6, 2) := do_21 (rdb (p := 64) (i := 24) ch_cX0_chooseSpots_64 rfl) (rdb (p := 64) (i := 25) ch_cX0_chooseSpots_64 rfl)
theorem dX0_chooseSpots_90 : decode cX0_chooseSpots 90 = .ok (.iload 5, 2) := do_21 (rdb (p := 64) (i := 26) ch_cX0_chooseSpots_64 rfl) (rdb (p := 64) (i := 27) ch_cX0_chooseSpots_64 rfl)
theorem dX0_chooseSpots_92 : decode cX0_chooseSpots 92 = .ok (.iconst (-1), 1) := do_2 (rdb (p := 64) (i := 28) ch_cX0_chooseSpots_64 rfl)
theorem dX0_chooseSpots_93 : decode cX0_chooseSpots 93 = .ok (.ixor, 1) := do_130 (rdb (p := 64) (i := 29) ch_cX0_chooseSpots_64 rfl)
theorem dX0_chooseSpots_94 : decode cX0_chooseSpots 94 = .ok (.iand, 1) := do_126 (rdb (p := 64) (i := 30) ch_cX0_chooseSpots_64 rfl)
theorem dX0_chooseSpots_95 : decode cX0_chooseSpots 95 = .ok (.ifCond .ne 42, 3) := do_154 (rdb (p := 64) (i := 31) ch_cX0_chooseSpots_64 rfl) (rdb (p := 64) (i := 32) ch_cX0_chooseSpots_64 rfl) (rdb (p := 64) (i := 33) ch_cX0_chooseSpots_64 rfl) (by decide +kernel)
theorem ch_cX0_chooseSpots_96 : (cX0_chooseSpots.data.toList.drop 96).take 36 = [0, 42, 21, 6, 184, 0, 86, 21, 4, 160, 0, 32, 42, 21, 6, 182, 0, 91, 54, 7, 21, 7, 42, 180, 0, 26, 164, 0, 15, 42, 21, 7, 181, 0, 26, 42] := by decide +kernel
theorem dX0_chooseSpots_98 : decode cX0_chooseSpots 98 = .ok (.iload 6, 2) := do_21 (rdb (p := 96) (i := 2) ch_cX0_chooseSpots_96 rfl) (rdb (p := 96) (i := 3) ch_cX0_chooseSpots_96 rfl)
theorem dX0_chooseSpots_100 : decode cX0_chooseSpots 100 = .ok (.invokestatic 86, 3) := do_184 (rdb (p := 96) (i := 4) ch_cX0_chooseSpots_96 rfl) (rdb (p := 96) (i := 5) ch_cX0_chooseSpots_96 rfl) (rdb (p := 96) (i := 6) ch_cX0_chooseSpots_96 rfl) rfl
theorem dX0_chooseSpots_103 : decode cX0_chooseSpots 103 = .ok (.iload 4, 2) := do_21 (rdb (p := 96) (i := 7) ch_cX0_chooseSpots_96 rfl) (rdb (p := 96) (i := 8) ch_cX0_chooseSpots_96 rfl)
theorem dX0_chooseSpots_105 : decode cX0_chooseSpots 105 = .ok (.if_icmp .ne 32, 3) := do_160 (rdb (p := 96) (i := 9) ch_cX0_chooseSpots_96 rfl) (rdb (p := 96) (i := 10) ch_cX0_chooseSpots_96 rfl) (rdb (p := 96) (i := 11) ch_cX0_chooseSpots_96 rfl) (by decide +kernel)
theorem dX0_chooseSpots_108 : decode cX0_chooseSpots 108 = .ok (.aload_n 0, 1) := do_42 (rdb (p := 96) (i := 12) ch_cX0_chooseSpots_96 rfl)
theorem dX0_chooseSpots_109 : decode cX0_chooseSpots 109 = .ok (.iload 6, 2) := do_21 (rdb (p := 96) (i := 13) ch_cX0_chooseSpots_96 rfl) (rdb (p := 96) (i := 14) ch_cX0_chooseSpots_96 rfl)
theorem dX0_chooseSpots_111 : decode cX0_chooseSpots 111 = .ok (.invokevirtual 91, 3) := do_182 (rdb (p := 96) (i := 15) ch_cX0_chooseSpots_96 rfl) (rdb (p := 96) (i := 16) ch_cX0_chooseSpots_96 rfl) (rdb (p := 96) (i := 17) ch_cX0_chooseSpots_96 rfl) rfl
theorem dX0_chooseSpots_114 : decode cX0_chooseSpots 114 = .ok (.istore 7, 2) := do_54 (rdb (p := 96) (i := 18) ch_cX0_chooseSpots_96 rfl) (rdb (p := 96) (i := 19) ch_cX0_chooseSpots_96 rfl)
theorem dX0_chooseSpots_116 : decode cX0_chooseSpots 116 = .ok (.iload 7, 2) := do_21 (rdb (p := 96) (i := 20) ch_cX0_chooseSpots_96 rfl) (rdb (p := 96) (i := 21) ch_cX0_chooseSpots_96 rfl)
theorem dX0_chooseSpots_118 : decode cX0_chooseSpots 118 = .ok (.aload_n 0, 1) := do_42 (rdb (p := 96) (i := 22) ch_cX0_chooseSpots_96 rfl)
theorem dX0_chooseSpots_119 : decode cX0_chooseSpots 119 = .ok (.getfield 26, 3) := do_180 (rdb (p := 96) (i := 23) ch_cX0_chooseSpots_96 rfl) (rdb (p := 96) (i := 24) ch_cX0_chooseSpots_96 rfl) (rdb (p := 96) (i := 25) ch_cX0_chooseSpots_96 rfl) rfl
theorem dX0_chooseSpots_122 : decode cX0_chooseSpots 122 = .ok (.if_icmp .le 15, 3) := do_164 (rdb (p := 96) (i := 26) ch_cX0_chooseSpots_96 rfl) (rdb (p := 96) (i := 27) ch_cX0_chooseSpots_96 rfl) (rdb (p := 96) (i := 28) ch_cX0_chooseSpots_96 rfl) (by decide +kernel)
theorem dX0_chooseSpots_125 : decode cX0_chooseSpots 125 = .ok (.aload_n 0, 1) := do_42 (rdb (p := 96) (i := 29) ch_cX0_chooseSpots_96 rfl)
theorem dX0_chooseSpots_126 : decode cX0_chooseSpots 126 = .ok (.iload 7, 2) := do_21 (rdb (p := 96) (i := 30) ch_cX0_chooseSpots_96 rfl) (rdb (p := 96) (i := 31) ch_cX0_chooseSpots_96 rfl)
theorem ch_cX0_chooseSpots_128 : (cX0_chooseSpots.data.toList.drop 128).take 36 = [181, 0, 26, 42, 21, 6, 181, 0, 30, 132, 6, 1, 167, 255, 196, 42, 180, 0, 26, 155, 0, 7, 4, 167, 0, 4, 3, 172] := by decide +kernel
theorem dX0_chooseSpots_128 : decode cX0_chooseSpots 128 = .ok (.putfield 26, 3) := do_181 (rdb (p := 128) (i := 0) ch_cX0_chooseSpots_128 rfl) (rdb (p := 128) (i := 1) ch_cX0_chooseSpots_128 rfl) (rdb (p := 128) (i := 2) ch_cX0_chooseSpots_128 rfl) rfl
theorem dX0_chooseSpots_131 : decode cX0_chooseSpots 131 = .ok (.aload_n 0, 1) := do_42 (rdb (p := 128) (i := 3) ch_cX0_chooseSpots_128 rfl)
theorem dX0_chooseSpots_132 : decode cX0_chooseSpots 132 = .ok (.iload 6, 2) := do_21 (rdb (p := 128) (i := 4) ch_cX0_chooseSpots_128 rfl) (rdb (p := 128) (i := 5) ch_cX0_chooseSpots_128 rfl)
theorem dX0_chooseSpots_134 : decode cX0_chooseSpots 134 = .ok (.putfield 30, 3) := do_181 (rdb (p := 128) (i := 6) ch_cX0_chooseSpots_128 rfl) (rdb (p := 128) (i := 7) ch_cX0_chooseSpots_128 rfl) (rdb (p := 128) (i := 8) ch_cX0_chooseSpots_128 rfl) rfl
theorem dX0_chooseSpots_137 : decode cX0_chooseSpots 137 = .ok (.iinc 6 1, 3) := do_132 (rdb (p := 128) (i := 9) ch_cX0_chooseSpots_128 rfl) (rdb (p := 128) (i := 10) ch_cX0_chooseSpots_128 rfl) (rdb (p := 128) (i := 11) ch_cX0_chooseSpots_128 rfl) (by decide +kernel)
theorem dX0_chooseSpots_140 : decode cX0_chooseSpots 140 = .ok (.goto (-60), 3) := do_167 (rdb (p := 128) (i := 12) ch_cX0_chooseSpots_128 rfl) (rdb (p := 128) (i := 13) ch_cX0_chooseSpots_128 rfl) (rdb (p := 128) (i := 14) ch_cX0_chooseSpots_128 rfl) (by decide +kernel)
theorem dX0_chooseSpots_143 : decode cX0_chooseSpots 143 = .ok (.aload_n 0, 1) := do_42 (rdb (p := 128) (i := 15) ch_cX0_chooseSpots_128 rfl)
theorem dX0_chooseSpots_144 : decode cX0_chooseSpots 144 = .ok (.getfield 26, 3) := do_180 (rdb (p := 128) (i := 16) ch_cX0_chooseSpots_128 rfl) (rdb (p := 128) (i := 17) ch_cX0_chooseSpots_128 rfl) (rdb (p := 128) (i := 18) ch_cX0_chooseSpots_128 rfl) rfl
theorem dX0_chooseSpots_147 : decode cX0_chooseSpots 147 = .ok (.ifCond .lt 7, 3) := do_155 (rdb (p := 128) (i := 19) ch_cX0_chooseSpots_128 rfl) (rdb (p := 128) (i := 20) ch_cX0_chooseSpots_128 rfl) (rdb (p := 128) (i := 21) ch_cX0_chooseSpots_128 rfl) (by decide +kernel)
theorem dX0_chooseSpots_150 : decode cX0_chooseSpots 150 = .ok (.iconst 1, 1) := do_4 (rdb (p := 128) (i := 22) ch_cX0_chooseSpots_128 rfl)
theorem dX0_chooseSpots_151 : decode cX0_chooseSpots 151 = .ok (.goto 4, 3) := do_167 (rdb (p := 128) (i := 23) ch_cX0_chooseSpots_128 rfl) (rdb (p := 128) (i := 24) ch_cX0_chooseSpots_128 rfl) (rdb (p := 128) (i := 25) ch_cX0_chooseSpots_128 rfl) (by decide +kernel)
theorem dX0_chooseSpots_154 : decode cX0_chooseSpots 154 = .ok (.iconst 0, 1) := do_3 (rdb (p := 128) (i := 26) ch_cX0_chooseSpots_128 rfl)
theorem dX0_chooseSpots_155 : decode cX0_chooseSpots 155 = .ok (.ireturn, 1) := do_172 (rdb (p := 128) (i := 27) ch_cX0_chooseSpots_128 rfl)
theorem dX0_costFrom_0 : decode cX0_costFrom 0 = .ok (.iload_n 1, 1) := by decide +kernel
theorem dX0_costFrom_1 : decode cX0_costFrom 1 = .ok (.invokestatic 34, 3) := by decide +kernel
theorem dX0_costFrom_4 : decode cX0_costFrom 4 = .ok (.ifCond .eq 12, 3) := by decide +kernel
theorem dX0_costFrom_7 : decode cX0_costFrom 7 = .ok (.aload_n 0, 1) := by decide +kernel
theorem dX0_costFrom_8 : decode cX0_costFrom 8 = .ok (.getfield 9, 3) := by decide +kernel
theorem dX0_costFrom_11 : decode cX0_costFrom 11 = .ok (.iload_n 1, 1) := by decide +kernel
theorem dX0_costFrom_12 : decode cX0_costFrom 12 = .ok (.iaload, 1) := by decide +kernel
theorem dX0_costFrom_13 : decode cX0_costFrom 13 = .ok (.goto 5, 3) := by decide +kernel
theorem dX0_costFrom_16 : decode cX0_costFrom 16 = .ok (.ldc 33, 2) := by decide +kernel
theorem dX0_costFrom_18 : decode cX0_costFrom 18 = .ok (.ireturn, 1) := by decide +kernel
theorem dX0_costInto_0 : decode cX0_costInto 0 = .ok (.aload_n 0, 1) := by decide +kernel
theorem dX0_costInto_1 : decode cX0_costInto 1 = .ok (.iload_n 1, 1) := by decide +kernel
theorem dX0_costInto_2 : decode cX0_costInto 2 = .ok (.invokevirtual 50, 3) := by decide +kernel
theorem dX0_costInto_5 : decode cX0_costInto 5 = .ok (.istore_n 2, 1) := by decide +kernel
theorem dX0_costInto_6 : decode cX0_costInto 6 = .ok (.iload_n 2, 1) := by decide +kernel
theorem dX0_costInto_7 : decode cX0_costInto 7 = .ok (.iconst 1, 1) := by decide +kernel
theorem dX0_costInto_8 : decode cX0_costInto 8 = .ok (.if_icmp .ne 7, 3) := by decide +kernel
theorem dX0_costInto_11 : decode cX0_costInto 11 = .ok (.iconst 1, 1) := by decide +kernel
theorem dX0_costInto_12 : decode cX0_costInto 12 = .ok (.goto 14, 3) := by decide +kernel
theorem dX0_costInto_15 : decode cX0_costInto 15 = .ok (.iload_n 2, 1) := by decide +kernel
theorem dX0_costInto_16 : decode cX0_costInto 16 = .ok (.iconst 2, 1) := by decide +kernel
theorem dX0_costInto_17 : decode cX0_costInto 17 = .ok (.if_icmp .ne 8, 3) := by decide +kernel
theorem dX0_costInto_20 : decode cX0_costInto 20 = .ok (.bipush 20, 2) := by decide +kernel
theorem dX0_costInto_22 : decode cX0_costInto 22 = .ok (.goto 4, 3) := by decide +kernel
theorem dX0_costInto_25 : decode cX0_costInto 25 = .ok (.iconst 3, 1) := by decide +kernel
theorem dX0_costInto_26 : decode cX0_costInto 26 = .ok (.ireturn, 1) := by decide +kernel
theorem ch_cX0_countLearned_0 : (cX0_countLearned.data.toList.drop 0).take 36 = [3, 61, 3, 62, 29, 6, 162, 0, 61, 9, 55, 4, 3, 54, 6, 21, 6, 16, 8, 162, 0, 34, 27, 4, 21, 6, 120, 126, 153, 0, 19, 22, 4, 42, 180, 0] := by decide +kernel
theorem dX0_countLearned_0 : decode cX0_countLearned 0 = .ok (.iconst 0, 1) := do_3 (rdb (p := 0) (i := 0) ch_cX0_countLearned_0 rfl)
theorem dX0_countLearned_1 : decode cX0_countLearned 1 = .ok (.istore_n 2, 1) := do_61 (rdb (p := 0) (i := 1) ch_cX0_countLearned_0 rfl)
theorem dX0_countLearned_2 : decode cX0_countLearned 2 = .ok (.iconst 0, 1) := do_3 (rdb (p := 0) (i := 2) ch_cX0_countLearned_0 rfl)
theorem dX0_countLearned_3 : decode cX0_countLearned 3 = .ok (.istore_n 3, 1) := do_62 (rdb (p := 0) (i := 3) ch_cX0_countLearned_0 rfl)
theorem dX0_countLearned_4 : decode cX0_countLearned 4 = .ok (.iload_n 3, 1) := do_29 (rdb (p := 0) (i := 4) ch_cX0_countLearned_0 rfl)
theorem dX0_countLearned_5 : decode cX0_countLearned 5 = .ok (.iconst 3, 1) := do_6 (rdb (p := 0) (i := 5) ch_cX0_countLearned_0 rfl)
theorem dX0_countLearned_6 : decode cX0_countLearned 6 = .ok (.if_icmp .ge 61, 3) := do_162 (rdb (p := 0) (i := 6) ch_cX0_countLearned_0 rfl) (rdb (p := 0) (i := 7) ch_cX0_countLearned_0 rfl) (rdb (p := 0) (i := 8) ch_cX0_countLearned_0 rfl) (by decide +kernel)
theorem dX0_countLearned_9 : decode cX0_countLearned 9 = .ok (.lconst 0, 1) := do_9 (rdb (p := 0) (i := 9) ch_cX0_countLearned_0 rfl)
theorem dX0_countLearned_10 : decode cX0_countLearned 10 = .ok (.lstore 4, 2) := do_55 (rdb (p := 0) (i := 10) ch_cX0_countLearned_0 rfl) (rdb (p := 0) (i := 11) ch_cX0_countLearned_0 rfl)
theorem dX0_countLearned_12 : decode cX0_countLearned 12 = .ok (.iconst 0, 1) := do_3 (rdb (p := 0) (i := 12) ch_cX0_countLearned_0 rfl)
theorem dX0_countLearned_13 : decode cX0_countLearned 13 = .ok (.istore 6, 2) := do_54 (rdb (p := 0) (i := 13) ch_cX0_countLearned_0 rfl) (rdb (p := 0) (i := 14) ch_cX0_countLearned_0 rfl)
theorem dX0_countLearned_15 : decode cX0_countLearned 15 = .ok (.iload 6, 2) := do_21 (rdb (p := 0) (i := 15) ch_cX0_countLearned_0 rfl) (rdb (p := 0) (i := 16) ch_cX0_countLearned_0 rfl)
theorem dX0_countLearned_17 : decode cX0_countLearned 17 = .ok (.bipush 8, 2) := do_16 (rdb (p := 0) (i := 17) ch_cX0_countLearned_0 rfl) (rdb (p := 0) (i := 18) ch_cX0_countLearned_0 rfl) (by decide +kernel)
theorem dX0_countLearned_19 : decode cX0_countLearned 19 = .ok (.if_icmp .ge 34, 3) := do_162 (rdb (p := 0) (i := 19) ch_cX0_countLearned_0 rfl) (rdb (p := 0) (i := 20) ch_cX0_countLearned_0 rfl) (rdb (p := 0) (i := 21) ch_cX0_countLearned_0 rfl) (by decide +kernel)
theorem dX0_countLearned_22 : decode cX0_countLearned 22 = .ok (.iload_n 1, 1) := do_27 (rdb (p := 0) (i := 22) ch_cX0_countLearned_0 rfl)
theorem dX0_countLearned_23 : decode cX0_countLearned 23 = .ok (.iconst 1, 1) := do_4 (rdb (p := 0) (i := 23) ch_cX0_countLearned_0 rfl)
theorem dX0_countLearned_24 : decode cX0_countLearned 24 = .ok (.iload 6, 2) := do_21 (rdb (p := 0) (i := 24) ch_cX0_countLearned_0 rfl) (rdb (p := 0) (i := 25) ch_cX0_countLearned_0 rfl)
theorem dX0_countLearned_26 : decode cX0_countLearned 26 = .ok (.ishl, 1) := do_120 (rdb (p := 0) (i := 26) ch_cX0_countLearned_0 rfl)
theorem dX0_countLearned_27 : decode cX0_countLearned 27 = .ok (.iand, 1) := do_126 (rdb (p := 0) (i := 27) ch_cX0_countLearned_0 rfl)
theorem dX0_countLearned_28 : decode cX0_countLearned 28 = .ok (.ifCond .eq 19, 3) := do_153 (rdb (p := 0) (i := 28) ch_cX0_countLearned_0 rfl) (rdb (p := 0) (i := 29) ch_cX0_countLearned_0 rfl) (rdb (p := 0) (i := 30) ch_cX0_countLearned_0 rfl) (by decide +kernel)
theorem dX0_countLearned_31 : decode cX0_countLearned 31 = .ok (.lload 4, 2) := do_22 (rdb (p := 0) (i := 31) ch_cX0_countLearned_0 rfl) (rdb (p := 0) (i := 32) ch_cX0_countLearned_0 rfl)
theorem ch_cX0_countLearned_32 : (cX0_countLearned.data.toList.drop 32).take 36 = [4, 42, 180, 0, 19, 6, 21, 6, 104, 29, 96, 47, 129, 55, 4, 132, 6, 1, 167, 255, 221, 28, 22, 4, 184, 0, 107, 96, 61, 132, 3, 1, 167, 255, 196, 28] := by decide +kernel
theorem dX0_countLearned_33 : decode cX0_countLearned 33 = .ok (.aload_n 0, 1) := do_42 (rdb (p := 32) (i := 1) ch_cX0_countLearned_32 rfl)
theorem dX0_countLearned_34 : decode cX0_countLearned 34 = .ok (.getfield 19, 3) := do_180 (rdb (p := 32) (i := 2) ch_cX0_countLearned_32 rfl) (rdb (p := 32) (i := 3) ch_cX0_countLearned_32 rfl) (rdb (p := 32) (i := 4) ch_cX0_countLearned_32 rfl) rfl
theorem dX0_countLearned_37 : decode cX0_countLearned 37 = .ok (.iconst 3, 1) := do_6 (rdb (p := 32) (i := 5) ch_cX0_countLearned_32 rfl)
theorem dX0_countLearned_38 : decode cX0_countLearned 38 = .ok (.iload 6, 2) := do_21 (rdb (p := 32) (i := 6) ch_cX0_countLearned_32 rfl) (rdb (p := 32) (i := 7) ch_cX0_countLearned_32 rfl)
theorem dX0_countLearned_40 : decode cX0_countLearned 40 = .ok (.imul, 1) := do_104 (rdb (p := 32) (i := 8) ch_cX0_countLearned_32 rfl)
theorem dX0_countLearned_41 : decode cX0_countLearned 41 = .ok (.iload_n 3, 1) := do_29 (rdb (p := 32) (i := 9) ch_cX0_countLearned_32 rfl)
theorem dX0_countLearned_42 : decode cX0_countLearned 42 = .ok (.iadd, 1) := do_96 (rdb (p := 32) (i := 10) ch_cX0_countLearned_32 rfl)
theorem dX0_countLearned_43 : decode cX0_countLearned 43 = .ok (.laload, 1) := do_47 (rdb (p := 32) (i := 11) ch_cX0_countLearned_32 rfl)
theorem dX0_countLearned_44 : decode cX0_countLearned 44 = .ok (.lor, 1) := do_129 (rdb (p := 32) (i := 12) ch_cX0_countLearned_32 rfl)
theorem dX0_countLearned_45 : decode cX0_countLearned 45 = .ok (.lstore 4, 2) := do_55 (rdb (p := 32) (i := 13) ch_cX0_countLearned_32 rfl) (rdb (p := 32) (i := 14) ch_cX0_countLearned_32 rfl)
theorem dX0_countLearned_47 : decode cX0_countLearned 47 = .ok (.iinc 6 1, 3) := do_132 (rdb (p := 32) (i := 15) ch_cX0_countLearned_32 rfl) (rdb (p := 32) (i := 16) ch_cX0_countLearned_32 rfl) (rdb (p := 32) (i := 17) ch_cX0_countLearned_32 rfl) (by decide +kernel)
theorem dX0_countLearned_50 : decode cX0_countLearned 50 = .ok (.goto (-35), 3) := do_167 (rdb (p := 32) (i := 18) ch_cX0_countLearned_32 rfl) (rdb (p := 32) (i := 19) ch_cX0_countLearned_32 rfl) (rdb (p := 32) (i := 20) ch_cX0_countLearned_32 rfl) (by decide +kernel)
theorem dX0_countLearned_53 : decode cX0_countLearned 53 = .ok (.iload_n 2, 1) := do_28 (rdb (p := 32) (i := 21) ch_cX0_countLearned_32 rfl)
theorem dX0_countLearned_54 : decode cX0_countLearned 54 = .ok (.lload 4, 2) := do_22 (rdb (p := 32) (i := 22) ch_cX0_countLearned_32 rfl) (rdb (p := 32) (i := 23) ch_cX0_countLearned_32 rfl)
theorem dX0_countLearned_56 : decode cX0_countLearned 56 = .ok (.invokestatic 107, 3) := do_184 (rdb (p := 32) (i := 24) ch_cX0_countLearned_32 rfl) (rdb (p := 32) (i := 25) ch_cX0_countLearned_32 rfl) (rdb (p := 32) (i := 26) ch_cX0_countLearned_32 rfl) rfl
theorem dX0_countLearned_59 : decode cX0_countLearned 59 = .ok (.iadd, 1) := do_96 (rdb (p := 32) (i := 27) ch_cX0_countLearned_32 rfl)
theorem dX0_countLearned_60 : decode cX0_countLearned 60 = .ok (.istore_n 2, 1) := do_61 (rdb (p := 32) (i := 28) ch_cX0_countLearned_32 rfl)
theorem dX0_countLearned_61 : decode cX0_countLearned 61 = .ok (.iinc 3 1, 3) := do_132 (rdb (p := 32) (i := 29) ch_cX0_countLearned_32 rfl) (rdb (p := 32) (i := 30) ch_cX0_countLearned_32 rfl) (rdb (p := 32) (i := 31) ch_cX0_countLearned_32 rfl) (by decide +kernel)
theorem ch_cX0_countLearned_64 : (cX0_countLearned.data.toList.drop 64).take 36 = [167, 255, 196, 28, 172] := by decide +kernel
theorem dX0_countLearned_64 : decode cX0_countLearned 64 = .ok (.goto (-60), 3) := do_167 (rdb (p := 64) (i := 0) ch_cX0_countLearned_64 rfl) (rdb (p := 64) (i := 1) ch_cX0_countLearned_64 rfl) (rdb (p := 64) (i := 2) ch_cX0_countLearned_64 rfl) (by decide +kernel)
theorem dX0_countLearned_67 : decode cX0_countLearned 67 = .ok (.iload_n 2, 1) := do_28 (rdb (p := 64) (i := 3) ch_cX0_countLearned_64 rfl)
theorem dX0_countLearned_68 : decode cX0_countLearned 68 = .ok (.ireturn, 1) := do_172 (rdb (p := 64) (i := 4) ch_cX0_countLearned_64 rfl)
theorem ch_cX0_firstStep_0 : (cX0_firstStep.data.toList.drop 0).take 36 = [3, 62, 29, 16, 8, 162, 0, 46, 28, 29, 4, 184, 0, 46, 54, 4, 21, 4, 155, 0, 27, 42, 21, 4, 182, 0, 62, 43, 21, 4, 184, 0, 42, 96, 42, 28] := by decide +kernel
theorem dX0_firstStep_0 : decode cX0_firstStep 0 = .ok (.iconst 0, 1) := do_3 (rdb (p := 0) (i := 0) ch_cX0_firstStep_0 rfl)
theorem dX0_firstStep_1 : decode cX0_firstStep 1 = .ok (.istore_n 3, 1) := do_62 (rdb (p := 0) (i := 1) ch_cX0_firstStep_0 rfl)
theorem dX0_firstStep_2 : decode cX0_firstStep 2 = .ok (.iload_n 3, 1) := do_29 (rdb (p := 0) (i := 2) ch_cX0_firstStep_0 rfl)
theorem dX0_firstStep_3 : decode cX0_firstStep 3 = .ok (.bipush 8, 2) := do_16 (rdb (p := 0) (i := 3) ch_cX0_firstStep_0 rfl) (rdb (p := 0) (i := 4) ch_cX0_firstStep_0 rfl) (by decide +kernel)
theorem dX0_firstStep_5 : decode cX0_firstStep 5 = .ok (.if_icmp .ge 46, 3) := do_162 (rdb (p := 0) (i := 5) ch_cX0_firstStep_0 rfl) (rdb (p := 0) (i := 6) ch_cX0_firstStep_0 rfl) (rdb (p := 0) (i := 7) ch_cX0_firstStep_0 rfl) (by decide +kernel)
theorem dX0_firstStep_8 : decode cX0_firstStep 8 = .ok (.iload_n 2, 1) := do_28 (rdb (p := 0) (i := 8) ch_cX0_firstStep_0 rfl)
theorem dX0_firstStep_9 : decode cX0_firstStep 9 = .ok (.iload_n 3, 1) := do_29 (rdb (p := 0) (i := 9) ch_cX0_firstStep_0 rfl)
theorem dX0_firstStep_10 : decode cX0_firstStep 10 = .ok (.iconst 1, 1) := do_4 (rdb (p := 0) (i := 10) ch_cX0_firstStep_0 rfl)
theorem dX0_firstStep_11 : decode cX0_firstStep 11 = .ok (.invokestatic 46, 3) := do_184 (rdb (p := 0) (i := 11) ch_cX0_firstStep_0 rfl) (rdb (p := 0) (i := 12) ch_cX0_firstStep_0 rfl) (rdb (p := 0) (i := 13) ch_cX0_firstStep_0 rfl) rfl
theorem dX0_firstStep_14 : decode cX0_firstStep 14 = .ok (.istore 4, 2) := do_54 (rdb (p := 0) (i := 14) ch_cX0_firstStep_0 rfl) (rdb (p := 0) (i := 15) ch_cX0_firstStep_0 rfl)
theorem dX0_firstStep_16 : decode cX0_firstStep 16 = .ok (.iload 4, 2) := do_21 (rdb (p := 0) (i := 16) ch_cX0_firstStep_0 rfl) (rdb (p := 0) (i := 17) ch_cX0_firstStep_0 rfl)
theorem dX0_firstStep_18 : decode cX0_firstStep 18 = .ok (.ifCond .lt 27, 3) := do_155 (rdb (p := 0) (i := 18) ch_cX0_firstStep_0 rfl) (rdb (p := 0) (i := 19) ch_cX0_firstStep_0 rfl) (rdb (p := 0) (i := 20) ch_cX0_firstStep_0 rfl) (by decide +kernel)
theorem dX0_firstStep_21 : decode cX0_firstStep 21 = .ok (.aload_n 0, 1) := do_42 (rdb (p := 0) (i := 21) ch_cX0_firstStep_0 rfl)
theorem dX0_firstStep_22 : decode cX0_firstStep 22 = .ok (.iload 4, 2) := do_21 (rdb (p := 0) (i := 22) ch_cX0_firstStep_0 rfl) (rdb (p := 0) (i := 23) ch_cX0_firstStep_0 rfl)
theorem dX0_firstStep_24 : decode cX0_firstStep 24 = .ok (.invokevirtual 62, 3) := do_182 (rdb (p := 0) (i := 24) ch_cX0_firstStep_0 rfl) (rdb (p := 0) (i := 25) ch_cX0_firstStep_0 rfl) (rdb (p := 0) (i := 26) ch_cX0_firstStep_0 rfl) rfl
theorem dX0_firstStep_27 : decode cX0_firstStep 27 = .ok (.aload_n 1, 1) := do_43 (rdb (p := 0) (i := 27) ch_cX0_firstStep_0 rfl)
theorem dX0_firstStep_28 : decode cX0_firstStep 28 = .ok (.iload 4, 2) := do_21 (rdb (p := 0) (i := 28) ch_cX0_firstStep_0 rfl) (rdb (p := 0) (i := 29) ch_cX0_firstStep_0 rfl)
theorem dX0_firstStep_30 : decode cX0_firstStep 30 = .ok (.invokestatic 42, 3) := do_184 (rdb (p := 0) (i := 30) ch_cX0_firstStep_0 rfl) (rdb (p := 0) (i := 31) ch_cX0_firstStep_0 rfl) (rdb (p := 0) (i := 32) ch_cX0_firstStep_0 rfl) rfl
theorem ch_cX0_firstStep_32 : (cX0_firstStep.data.toList.drop 32).take 36 = [42, 96, 42, 28, 182, 0, 62, 160, 0, 6, 21, 4, 172, 132, 3, 2, 167, 255, 210, 2, 172] := by decide +kernel
theorem dX0_firstStep_33 : decode cX0_firstStep 33 = .ok (.iadd, 1) := do_96 (rdb (p := 32) (i := 1) ch_cX0_firstStep_32 rfl)
theorem dX0_firstStep_34 : decode cX0_firstStep 34 = .ok (.aload_n 0, 1) := do_42 (rdb (p := 32) (i := 2) ch_cX0_firstStep_32 rfl)
theorem dX0_firstStep_35 : decode cX0_firstStep 35 = .ok (.iload_n 2, 1) := do_28 (rdb (p := 32) (i := 3) ch_cX0_firstStep_32 rfl)
theorem dX0_firstStep_36 : decode cX0_firstStep 36 = .ok (.invokevirtual 62, 3) := do_182 (rdb (p := 32) (i := 4) ch_cX0_firstStep_32 rfl) (rdb (p := 32) (i := 5) ch_cX0_firstStep_32 rfl) (rdb (p := 32) (i := 6) ch_cX0_firstStep_32 rfl) rfl
theorem dX0_firstStep_39 : decode cX0_firstStep 39 = .ok (.if_icmp .ne 6, 3) := do_160 (rdb (p := 32) (i := 7) ch_cX0_firstStep_32 rfl) (rdb (p := 32) (i := 8) ch_cX0_firstStep_32 rfl) (rdb (p := 32) (i := 9) ch_cX0_firstStep_32 rfl) (by decide +kernel)
theorem dX0_firstStep_42 : decode cX0_firstStep 42 = .ok (.iload 4, 2) := do_21 (rdb (p := 32) (i := 10) ch_cX0_firstStep_32 rfl) (rdb (p := 32) (i := 11) ch_cX0_firstStep_32 rfl)
theorem dX0_firstStep_44 : decode cX0_firstStep 44 = .ok (.ireturn, 1) := do_172 (rdb (p := 32) (i := 12) ch_cX0_firstStep_32 rfl)
theorem dX0_firstStep_45 : decode cX0_firstStep 45 = .ok (.iinc 3 2, 3) := do_132 (rdb (p := 32) (i := 13) ch_cX0_firstStep_32 rfl) (rdb (p := 32) (i := 14) ch_cX0_firstStep_32 rfl) (rdb (p := 32) (i := 15) ch_cX0_firstStep_32 rfl) (by decide +kernel)
theorem dX0_firstStep_48 : decode cX0_firstStep 48 = .ok (.goto (-46), 3) := do_167 (rdb (p := 32) (i := 16) ch_cX0_firstStep_32 rfl) (rdb (p := 32) (i := 17) ch_cX0_firstStep_32 rfl) (rdb (p := 32) (i := 18) ch_cX0_firstStep_32 rfl) (by decide +kernel)
theorem dX0_firstStep_51 : decode cX0_firstStep 51 = .ok (.iconst (-1), 1) := do_2 (rdb (p := 32) (i := 19) ch_cX0_firstStep_32 rfl)
theorem dX0_firstStep_52 : decode cX0_firstStep 52 = .ok (.ireturn, 1) := do_172 (rdb (p := 32) (i := 20) ch_cX0_firstStep_32 rfl)
theorem ch_cX0_measure_0 : (cX0_measure.data.toList.drop 0).take 36 = [3, 62, 29, 17, 0, 192, 162, 0, 24, 42, 180, 0, 9, 29, 18, 33, 79, 42, 180, 0, 15, 29, 3, 84, 132, 3, 1, 167, 255, 231, 28, 184, 0, 34, 153, 0] := by decide +kernel
theorem dX0_measure_0 : decode cX0_measure 0 = .ok (.iconst 0, 1) := do_3 (rdb (p := 0) (i := 0) ch_cX0_measure_0 rfl)
theorem dX0_measure_1 : decode cX0_measure 1 = .ok (.istore_n 3, 1) := do_62 (rdb (p := 0) (i := 1) ch_cX0_measure_0 rfl)
theorem dX0_measure_2 : decode cX0_measure 2 = .ok (.iload_n 3, 1) := do_29 (rdb (p := 0) (i := 2) ch_cX0_measure_0 rfl)
theorem dX0_measure_3 : decode cX0_measure 3 = .ok (.sipush 192, 3) := do_17 (rdb (p := 0) (i := 3) ch_cX0_measure_0 rfl) (rdb (p := 0) (i := 4) ch_cX0_measure_0 rfl) (rdb (p := 0) (i := 5) ch_cX0_measure_0 rfl) (by decide +kernel)
theorem dX0_measure_6 : decode cX0_measure 6 = .ok (.if_icmp .ge 24, 3) := do_162 (rdb (p := 0) (i := 6) ch_cX0_measure_0 rfl) (rdb (p := 0) (i := 7) ch_cX0_measure_0 rfl) (rdb (p := 0) (i := 8) ch_cX0_measure_0 rfl) (by decide +kernel)
theorem dX0_measure_9 : decode cX0_measure 9 = .ok (.aload_n 0, 1) := do_42 (rdb (p := 0) (i := 9) ch_cX0_measure_0 rfl)
theorem dX0_measure_10 : decode cX0_measure 10 = .ok (.getfield 9, 3) := do_180 (rdb (p := 0) (i := 10) ch_cX0_measure_0 rfl) (rdb (p := 0) (i := 11) ch_cX0_measure_0 rfl) (rdb (p := 0) (i := 12) ch_cX0_measure_0 rfl) rfl
theorem dX0_measure_13 : decode cX0_measure 13 = .ok (.iload_n 3, 1) := do_29 (rdb (p := 0) (i := 13) ch_cX0_measure_0 rfl)
theorem dX0_measure_14 : decode cX0_measure 14 = .ok (.ldc 33, 2) := do_18 (rdb (p := 0) (i := 14) ch_cX0_measure_0 rfl) (rdb (p := 0) (i := 15) ch_cX0_measure_0 rfl)
theorem dX0_measure_16 : decode cX0_measure 16 = .ok (.iastore, 1) := do_79 (rdb (p := 0) (i := 16) ch_cX0_measure_0 rfl)
theorem dX0_measure_17 : decode cX0_measure 17 = .ok (.aload_n 0, 1) := do_42 (rdb (p := 0) (i := 17) ch_cX0_measure_0 rfl)
theorem dX0_measure_18 : decode cX0_measure 18 = .ok (.getfield 15, 3) := do_180 (rdb (p := 0) (i := 18) ch_cX0_measure_0 rfl) (rdb (p := 0) (i := 19) ch_cX0_measure_0 rfl) (rdb (p := 0) (i := 20) ch_cX0_measure_0 rfl) rfl
theorem dX0_measure_21 : decode cX0_measure 21 = .ok (.iload_n 3, 1) := do_29 (rdb (p := 0) (i := 21) ch_cX0_measure_0 rfl)
theorem dX0_measure_22 : decode cX0_measure 22 = .ok (.iconst 0, 1) := do_3 (rdb (p := 0) (i := 22) ch_cX0_measure_0 rfl)
theorem dX0_measure_23 : decode cX0_measure 23 = .ok (.bastore, 1) := do_84 (rdb (p := 0) (i := 23) ch_cX0_measure_0 rfl)
theorem dX0_measure_24 : decode cX0_measure 24 = .ok (.iinc 3 1, 3) := do_132 (rdb (p := 0) (i := 24) ch_cX0_measure_0 rfl) (rdb (p := 0) (i := 25) ch_cX0_measure_0 rfl) (rdb (p := 0) (i := 26) ch_cX0_measure_0 rfl) (by decide +kernel)
theorem dX0_measure_27 : decode cX0_measure 27 = .ok (.goto (-25), 3) := do_167 (rdb (p := 0) (i := 27) ch_cX0_measure_0 rfl) (rdb (p := 0) (i := 28) ch_cX0_measure_0 rfl) (rdb (p := 0) (i := 29) ch_cX0_measure_0 rfl) (by decide +kernel)
theorem dX0_measure_30 : decode cX0_measure 30 = .ok (.iload_n 2, 1) := do_28 (rdb (p := 0) (i := 30) ch_cX0_measure_0 rfl)
theorem dX0_measure_31 : decode cX0_measure 31 = .ok (.invokestatic 34, 3) := do_184 (rdb (p := 0) (i := 31) ch_cX0_measure_0 rfl) (rdb (p := 0) (i := 32) ch_cX0_measure_0 rfl) (rdb (p := 0) (i := 33) ch_cX0_measure_0 rfl) rfl
theorem ch_cX0_measure_32 : (cX0_measure.data.toList.drop 32).take 36 = [0, 34, 153, 0, 10, 42, 180, 0, 9, 28, 3, 79, 3, 62, 29, 17, 0, 192, 162, 0, 97, 42, 182, 0, 38, 54, 4, 21, 4, 156, 0, 4, 177, 42, 180, 0] := by decide +kernel
theorem dX0_measure_34 : decode cX0_measure 34 = .ok (.ifCond .eq 10, 3) := do_153 (rdb (p := 32) (i := 2) ch_cX0_measure_32 rfl) (rdb (p := 32) (i := 3) ch_cX0_measure_32 rfl) (rdb (p := 32) (i := 4) ch_cX0_measure_32 rfl) (by decide +kernel)
theorem dX0_measure_37 : decode cX0_measure 37 = .ok (.aload_n 0, 1) := do_42 (rdb (p := 32) (i := 5) ch_cX0_measure_32 rfl)
theorem dX0_measure_38 : decode cX0_measure 38 = .ok (.getfield 9, 3) := do_180 (rdb (p := 32) (i := 6) ch_cX0_measure_32 rfl) (rdb (p := 32) (i := 7) ch_cX0_measure_32 rfl) (rdb (p := 32) (i := 8) ch_cX0_measure_32 rfl) rfl
theorem dX0_measure_41 : decode cX0_measure 41 = .ok (.iload_n 2, 1) := do_28 (rdb (p := 32) (i := 9) ch_cX0_measure_32 rfl)
theorem dX0_measure_42 : decode cX0_measure 42 = .ok (.iconst 0, 1) := do_3 (rdb (p := 32) (i := 10) ch_cX0_measure_32 rfl)
theorem dX0_measure_43 : decode cX0_measure 43 = .ok (.iastore, 1) := do_79 (rdb (p := 32) (i := 11) ch_cX0_measure_32 rfl)
theorem dX0_measure_44 : decode cX0_measure 44 = .ok (.iconst 0, 1) := do_3 (rdb (p := 32) (i := 12) ch_cX0_measure_32 rfl)
theorem dX0_measure_45 : decode cX0_measure 45 = .ok (.istore_n 3, 1) := do_62 (rdb (p := 32) (i := 13) ch_cX0_measure_32 rfl)
theorem dX0_measure_46 : decode cX0_measure 46 = .ok (.iload_n 3, 1) := do_29 (rdb (p := 32) (i := 14) ch_cX0_measure_32 rfl)
theorem dX0_measure_47 : decode cX0_measure 47 = .ok (.sipush 192, 3) := do_17 (rdb (p := 32) (i := 15) ch_cX0_measure_32 rfl) (rdb (p := 32) (i := 16) ch_cX0_measure_32 rfl) (rdb (p := 32) (i := 17) ch_cX0_measure_32 rfl) (by decide +kernel)
theorem dX0_measure_50 : decode cX0_measure 50 = .ok (.if_icmp .ge 97, 3) := do_162 (rdb (p := 32) (i := 18) ch_cX0_measure_32 rfl) (rdb (p := 32) (i := 19) ch_cX0_measure_32 rfl) (rdb (p := 32) (i := 20) ch_cX0_measure_32 rfl) (by decide +kernel)
theorem dX0_measure_53 : decode cX0_measure 53 = .ok (.aload_n 0, 1) := do_42 (rdb (p := 32) (i := 21) ch_cX0_measure_32 rfl)
theorem dX0_measure_54 : decode cX0_measure 54 = .ok (.invokevirtual 38, 3) := do_182 (rdb (p := 32) (i := 22) ch_cX0_measure_32 rfl) (rdb (p := 32) (i := 23) ch_cX0_measure_32 rfl) (rdb (p := 32) (i := 24) ch_cX0_measure_32 rfl) rfl
theorem dX0_measure_57 : decode cX0_measure 57 = .ok (.istore 4, 2) := do_54 (rdb (p := 32) (i := 25) ch_cX0_measure_32 rfl) (rdb (p := 32) (i := 26) ch_cX0_measure_32 rfl)
theorem dX0_measure_59 : decode cX0_measure 59 = .ok (.iload 4, 2) := do_21 (rdb (p := 32) (i := 27) ch_cX0_measure_32 rfl) (rdb (p := 32) (i := 28) ch_cX0_measure_32 rfl)
theorem dX0_measure_61 : decode cX0_measure 61 = .ok (.ifCond .ge 4, 3) := do_156 (rdb (p := 32) (i := 29) ch_cX0_measure_32 rfl) (rdb (p := 32) (i := 30) ch_cX0_measure_32 rfl) (rdb (p := 32) (i := 31) ch_cX0_measure_32 rfl) (by decide +kernel)
theorem ch_cX0_measure_64 : (cX0_measure.data.toList.drop 64).take 36 = [177, 42, 180, 0, 15, 21, 4, 4, 84, 42, 180, 0, 9, 21, 4, 46, 43, 21, 4, 184, 0, 42, 96, 54, 5, 3, 54, 6, 21, 6, 16, 8, 162, 0, 45, 21] := by decide +kernel
theorem dX0_measure_64 : decode cX0_measure 64 = .ok (.return_, 1) := do_177 (rdb (p := 64) (i := 0) ch_cX0_measure_64 rfl)
theorem dX0_measure_65 : decode cX0_measure 65 = .ok (.aload_n 0, 1) := do_42 (rdb (p := 64) (i := 1) ch_cX0_measure_64 rfl)
theorem dX0_measure_66 : decode cX0_measure 66 = .ok (.getfield 15, 3) := do_180 (rdb (p := 64) (i := 2) ch_cX0_measure_64 rfl) (rdb (p := 64) (i := 3) ch_cX0_measure_64 rfl) (rdb (p := 64) (i := 4) ch_cX0_measure_64 rfl) rfl
theorem dX0_measure_69 : decode cX0_measure 69 = .ok (.iload 4, 2) := do_21 (rdb (p := 64) (i := 5) ch_cX0_measure_64 rfl) (rdb (p := 64) (i := 6) ch_cX0_measure_64 rfl)
theorem dX0_measure_71 : decode cX0_measure 71 = .ok (.iconst 1, 1) := do_4 (rdb (p := 64) (i := 7) ch_cX0_measure_64 rfl)
theorem dX0_measure_72 : decode cX0_measure 72 = .ok (.bastore, 1) := do_84 (rdb (p := 64) (i := 8) ch_cX0_measure_64 rfl)
theorem dX0_measure_73 : decode cX0_measure 73 = .ok (.aload_n 0, 1) := do_42 (rdb (p := 64) (i := 9) ch_cX0_measure_64 rfl)
theorem dX0_measure_74 : decode cX0_measure 74 = .ok (.getfield 9, 3) := do_180 (rdb (p := 64) (i := 10) ch_cX0_measure_64 rfl) (rdb (p := 64) (i := 11) ch_cX0_measure_64 rfl) (rdb (p := 64) (i := 12) ch_cX0_measure_64 rfl) rfl
theorem dX0_measure_77 : decode cX0_measure 77 = .ok (.iload 4, 2) := do_21 (rdb (p := 64) (i := 13) ch_cX0_measure_64 rfl) (rdb (p := 64) (i := 14) ch_cX0_measure_64 rfl)
theorem dX0_measure_79 : decode cX0_measure 79 = .ok (.iaload, 1) := do_46 (rdb (p := 64) (i := 15) ch_cX0_measure_64 rfl)
theorem dX0_measure_80 : decode cX0_measure 80 = .ok (.aload_n 1, 1) := do_43 (rdb (p := 64) (i := 16) ch_cX0_measure_64 rfl)
theorem dX0_measure_81 : decode cX0_measure 81 = .ok (.iload 4, 2) := do_21 (rdb (p := 64) (i := 17) ch_cX0_measure_64 rfl) (rdb (p := 64) (i := 18) ch_cX0_measure_64 rfl)
theorem dX0_measure_83 : decode cX0_measure 83 = .ok (.invokestatic 42, 3) := do_184 (rdb (p := 64) (i := 19) ch_cX0_measure_64 rfl) (rdb (p := 64) (i := 20) ch_cX0_measure_64 rfl) (rdb (p := 64) (i := 21) ch_cX0_measure_64 rfl) rfl
theorem dX0_measure_86 : decode cX0_measure 86 = .ok (.iadd, 1) := do_96 (rdb (p := 64) (i := 22) ch_cX0_measure_64 rfl)
theorem dX0_measure_87 : decode cX0_measure 87 = .ok (.istore 5, 2) := do_54 (rdb (p := 64) (i := 23) ch_cX0_measure_64 rfl) (rdb (p := 64) (i := 24) ch_cX0_measure_64 rfl)
theorem dX0_measure_89 : decode cX0_measure 89 = .ok (.iconst 0, 1) := do_3 (rdb (p := 64) (i := 25) ch_cX0_measure_64 rfl)
theorem dX0_measure_90 : decode cX0_measure 90 = .ok (.istore 6, 2) := do_54 (rdb (p := 64) (i := 26) ch_cX0_measure_64 rfl) (rdb (p := 64) (i := 27) ch_cX0_measure_64 rfl)
theorem dX0_measure_92 : decode cX0_measure 92 = .ok (.iload 6, 2) := do_21 (rdb (p := 64) (i := 28) ch_cX0_measure_64 rfl) (rdb (p := 64) (i := 29) ch_cX0_measure_64 rfl)
theorem dX0_measure_94 : decode cX0_measure 94 = .ok (.bipush 8, 2) := do_16 (rdb (p := 64) (i := 30) ch_cX0_measure_64 rfl) (rdb (p := 64) (i := 31) ch_cX0_measure_64 rfl) (by decide +kernel)
theorem ch_cX0_measure_96 : (cX0_measure.data.toList.drop 96).take 36 = [162, 0, 45, 21, 4, 21, 6, 4, 184, 0, 46, 54, 7, 21, 7, 155, 0, 24, 21, 5, 42, 180, 0, 9, 21, 7, 46, 162, 0, 12, 42, 180, 0, 9, 21, 7] := by decide +kernel
theorem dX0_measure_96 : decode cX0_measure 96 = .ok (.if_icmp .ge 45, 3) := do_162 (rdb (p := 96) (i := 0) ch_cX0_measure_96 rfl) (rdb (p := 96) (i := 1) ch_cX0_measure_96 rfl) (rdb (p := 96) (i := 2) ch_cX0_measure_96 rfl) (by decide +kernel)
theorem dX0_measure_99 : decode cX0_measure 99 = .ok (.iload 4, 2) := do_21 (rdb (p := 96) (i := 3) ch_cX0_measure_96 rfl) (rdb (p := 96) (i := 4) ch_cX0_measure_96 rfl)
theorem dX0_measure_101 : decode cX0_measure 101 = .ok (.iload 6, 2) := do_21 (rdb (p := 96) (i := 5) ch_cX0_measure_96 rfl) (rdb (p := 96) (i := 6) ch_cX0_measure_96 rfl)
theorem dX0_measure_103 : decode cX0_measure 103 = .ok (.iconst 1, 1) := do_4 (rdb (p := 96) (i := 7) ch_cX0_measure_96 rfl)
theorem dX0_measure_104 : decode cX0_measure 104 = .ok (.invokestatic 46, 3) := do_184 (rdb (p := 96) (i := 8) ch_cX0_measure_96 rfl) (rdb (p := 96) (i := 9) ch_cX0_measure_96 rfl) (rdb (p := 96) (i := 10) ch_cX0_measure_96 rfl) rfl
theorem dX0_measure_107 : decode cX0_measure 107 = .ok (.istore 7, 2) := do_54 (rdb (p := 96) (i := 11) ch_cX0_measure_96 rfl) (rdb (p := 96) (i := 12) ch_cX0_measure_96 rfl)
theorem dX0_measure_109 : decode cX0_measure 109 = .ok (.iload 7, 2) := do_21 (rdb (p := 96) (i := 13) ch_cX0_measure_96 rfl) (rdb (p := 96) (i := 14) ch_cX0_measure_96 rfl)
theorem dX0_measure_111 : decode cX0_measure 111 = .ok (.ifCond .lt 24, 3) := do_155 (rdb (p := 96) (i := 15) ch_cX0_measure_96 rfl) (rdb (p := 96) (i := 16) ch_cX0_measure_96 rfl) (rdb (p := 96) (i := 17) ch_cX0_measure_96 rfl) (by decide +kernel)
theorem dX0_measure_114 : decode cX0_measure 114 = .ok (.iload 5, 2) := do_21 (rdb (p := 96) (i := 18) ch_cX0_measure_96 rfl) (rdb (p := 96) (i := 19) ch_cX0_measure_96 rfl)
theorem dX0_measure_116 : decode cX0_measure 116 = .ok (.aload_n 0, 1) := do_42 (rdb (p := 96) (i := 20) ch_cX0_measure_96 rfl)
theorem dX0_measure_117 : decode cX0_measure 117 = .ok (.getfield 9, 3) := do_180 (rdb (p := 96) (i := 21) ch_cX0_measure_96 rfl) (rdb (p := 96) (i := 22) ch_cX0_measure_96 rfl) (rdb (p := 96) (i := 23) ch_cX0_measure_96 rfl) rfl
theorem dX0_measure_120 : decode cX0_measure 120 = .ok (.iload 7, 2) := do_21 (rdb (p := 96) (i := 24) ch_cX0_measure_96 rfl) (rdb (p := 96) (i := 25) ch_cX0_measure_96 rfl)
theorem dX0_measure_122 : decode cX0_measure 122 = .ok (.iaload, 1) := do_46 (rdb (p := 96) (i := 26) ch_cX0_measure_96 rfl)
theorem dX0_measure_123 : decode cX0_measure 123 = .ok (.if_icmp .ge 12, 3) := do_162 (rdb (p := 96) (i := 27) ch_cX0_measure_96 rfl) (rdb (p := 96) (i := 28) ch_cX0_measure_96 rfl) (rdb (p := 96) (i := 29) ch_cX0_measure_96 rfl) (by decide +kernel)
theorem dX0_measure_126 : decode cX0_measure 126 = .ok (.aload_n 0, 1) := do_42 (rdb (p := 96) (i := 30) ch_cX0_measure_96 rfl)
theorem dX0_measure_127 : decode cX0_measure 127 = .ok (.getfield 9, 3) := do_180 (rdb (p := 96) (i := 31) ch_cX0_measure_96 rfl) (rdb (p := 96) (i := 32) ch_cX0_measure_96 rfl) (rdb (p := 96) (i := 33) ch_cX0_measure_96 rfl) rfl
theorem ch_cX0_measure_128 : (cX0_measure.data.toList.drop 128).take 36 = [0, 9, 21, 7, 21, 5, 79, 132, 6, 2, 167, 255, 210, 132, 3, 1, 167, 255, 158, 177] := by decide +kernel
theorem dX0_measure_130 : decode cX0_measure 130 = .ok (.iload 7, 2) := do_21 (rdb (p := 128) (i := 2) ch_cX0_measure_128 rfl) (rdb (p := 128) (i := 3) ch_cX0_measure_128 rfl)
theorem dX0_measure_132 : decode cX0_measure 132 = .ok (.iload 5, 2) := do_21 (rdb (p := 128) (i := 4) ch_cX0_measure_128 rfl) (rdb (p := 128) (i := 5) ch_cX0_measure_128 rfl)
theorem dX0_measure_134 : decode cX0_measure 134 = .ok (.iastore, 1) := do_79 (rdb (p := 128) (i := 6) ch_cX0_measure_128 rfl)
theorem dX0_measure_135 : decode cX0_measure 135 = .ok (.iinc 6 2, 3) := do_132 (rdb (p := 128) (i := 7) ch_cX0_measure_128 rfl) (rdb (p := 128) (i := 8) ch_cX0_measure_128 rfl) (rdb (p := 128) (i := 9) ch_cX0_measure_128 rfl) (by decide +kernel)
theorem dX0_measure_138 : decode cX0_measure 138 = .ok (.goto (-46), 3) := do_167 (rdb (p := 128) (i := 10) ch_cX0_measure_128 rfl) (rdb (p := 128) (i := 11) ch_cX0_measure_128 rfl) (rdb (p := 128) (i := 12) ch_cX0_measure_128 rfl) (by decide +kernel)
theorem dX0_measure_141 : decode cX0_measure 141 = .ok (.iinc 3 1, 3) := do_132 (rdb (p := 128) (i := 13) ch_cX0_measure_128 rfl) (rdb (p := 128) (i := 14) ch_cX0_measure_128 rfl) (rdb (p := 128) (i := 15) ch_cX0_measure_128 rfl) (by decide +kernel)
theorem dX0_measure_144 : decode cX0_measure 144 = .ok (.goto (-98), 3) := do_167 (rdb (p := 128) (i := 16) ch_cX0_measure_128 rfl) (rdb (p := 128) (i := 17) ch_cX0_measure_128 rfl) (rdb (p := 128) (i := 18) ch_cX0_measure_128 rfl) (by decide +kernel)
theorem dX0_measure_147 : decode cX0_measure 147 = .ok (.return_, 1) := do_177 (rdb (p := 128) (i := 19) ch_cX0_measure_128 rfl)
theorem ch_cX0_nearestOpen_0 : (cX0_nearestOpen.data.toList.drop 0).take 36 = [2, 60, 3, 61, 28, 17, 0, 192, 162, 0, 50, 42, 180, 0, 15, 28, 51, 154, 0, 35, 42, 180, 0, 9, 28, 46, 18, 33, 162, 0, 24, 27, 155, 0, 18, 42] := by decide +kernel
theorem dX0_nearestOpen_0 : decode cX0_nearestOpen 0 = .ok (.iconst (-1), 1) := do_2 (rdb (p := 0) (i := 0) ch_cX0_nearestOpen_0 rfl)
theorem dX0_nearestOpen_1 : decode cX0_nearestOpen 1 = .ok (.istore_n 1, 1) := do_60 (rdb (p := 0) (i := 1) ch_cX0_nearestOpen_0 rfl)
theorem dX0_nearestOpen_2 : decode cX0_nearestOpen 2 = .ok (.iconst 0, 1) := do_3 (rdb (p := 0) (i := 2) ch_cX0_nearestOpen_0 rfl)
theorem dX0_nearestOpen_3 : decode cX0_nearestOpen 3 = .ok (.istore_n 2, 1) := do_61 (rdb (p := 0) (i := 3) ch_cX0_nearestOpen_0 rfl)
theorem dX0_nearestOpen_4 : decode cX0_nearestOpen 4 = .ok (.iload_n 2, 1) := do_28 (rdb (p := 0) (i := 4) ch_cX0_nearestOpen_0 rfl)
theorem dX0_nearestOpen_5 : decode cX0_nearestOpen 5 = .ok (.sipush 192, 3) := do_17 (rdb (p := 0) (i := 5) ch_cX0_nearestOpen_0 rfl) (rdb (p := 0) (i := 6) ch_cX0_nearestOpen_0 rfl) (rdb (p := 0) (i := 7) ch_cX0_nearestOpen_0 rfl) (by decide +kernel)
theorem dX0_nearestOpen_8 : decode cX0_nearestOpen 8 = .ok (.if_icmp .ge 50, 3) := do_162 (rdb (p := 0) (i := 8) ch_cX0_nearestOpen_0 rfl) (rdb (p := 0) (i := 9) ch_cX0_nearestOpen_0 rfl) (rdb (p := 0) (i := 10) ch_cX0_nearestOpen_0 rfl) (by decide +kernel)
theorem dX0_nearestOpen_11 : decode cX0_nearestOpen 11 = .ok (.aload_n 0, 1) := do_42 (rdb (p := 0) (i := 11) ch_cX0_nearestOpen_0 rfl)
theorem dX0_nearestOpen_12 : decode cX0_nearestOpen 12 = .ok (.getfield 15, 3) := do_180 (rdb (p := 0) (i := 12) ch_cX0_nearestOpen_0 rfl) (rdb (p := 0) (i := 13) ch_cX0_nearestOpen_0 rfl) (rdb (p := 0) (i := 14) ch_cX0_nearestOpen_0 rfl) rfl
theorem dX0_nearestOpen_15 : decode cX0_nearestOpen 15 = .ok (.iload_n 2, 1) := do_28 (rdb (p := 0) (i := 15) ch_cX0_nearestOpen_0 rfl)
theorem dX0_nearestOpen_16 : decode cX0_nearestOpen 16 = .ok (.baload, 1) := do_51 (rdb (p := 0) (i := 16) ch_cX0_nearestOpen_0 rfl)
theorem dX0_nearestOpen_17 : decode cX0_nearestOpen 17 = .ok (.ifCond .ne 35, 3) := do_154 (rdb (p := 0) (i := 17) ch_cX0_nearestOpen_0 rfl) (rdb (p := 0) (i := 18) ch_cX0_nearestOpen_0 rfl) (rdb (p := 0) (i := 19) ch_cX0_nearestOpen_0 rfl) (by decide +kernel)
theorem dX0_nearestOpen_20 : decode cX0_nearestOpen 20 = .ok (.aload_n 0, 1) := do_42 (rdb (p := 0) (i := 20) ch_cX0_nearestOpen_0 rfl)
theorem dX0_nearestOpen_21 : decode cX0_nearestOpen 21 = .ok (.getfield 9, 3) := do_180 (rdb (p := 0) (i := 21) ch_cX0_nearestOpen_0 rfl) (rdb (p := 0) (i := 22) ch_cX0_nearestOpen_0 rfl) (rdb (p := 0) (i := 23) ch_cX0_nearestOpen_0 rfl) rfl
theorem dX0_nearestOpen_24 : decode cX0_nearestOpen 24 = .ok (.iload_n 2, 1) := do_28 (rdb (p := 0) (i := 24) ch_cX0_nearestOpen_0 rfl)
theorem dX0_nearestOpen_25 : decode cX0_nearestOpen 25 = .ok (.iaload, 1) := do_46 (rdb (p := 0) (i := 25) ch_cX0_nearestOpen_0 rfl)
theorem dX0_nearestOpen_26 : decode cX0_nearestOpen 26 = .ok (.ldc 33, 2) := do_18 (rdb (p := 0) (i := 26) ch_cX0_nearestOpen_0 rfl) (rdb (p := 0) (i := 27) ch_cX0_nearestOpen_0 rfl)
theorem dX0_nearestOpen_28 : decode cX0_nearestOpen 28 = .ok (.if_icmp .ge 24, 3) := do_162 (rdb (p := 0) (i := 28) ch_cX0_nearestOpen_0 rfl) (rdb (p := 0) (i := 29) ch_cX0_nearestOpen_0 rfl) (rdb (p := 0) (i := 30) ch_cX0_nearestOpen_0 rfl) (by decide +kernel)
theorem dX0_nearestOpen_31 : decode cX0_nearestOpen 31 = .ok (.iload_n 1, 1) := do_27 (rdb (p := 0) (i := 31) ch_cX0_nearestOpen_0 rfl)
theorem ch_cX0_nearestOpen_32 : (cX0_nearestOpen.data.toList.drop 32).take 36 = [155, 0, 18, 42, 180, 0, 9, 28, 46, 42, 180, 0, 9, 27, 46, 162, 0, 5, 28, 60, 132, 2, 1, 167, 255, 205, 27, 172] := by decide +kernel
theorem dX0_nearestOpen_32 : decode cX0_nearestOpen 32 = .ok (.ifCond .lt 18, 3) := do_155 (rdb (p := 32) (i := 0) ch_cX0_nearestOpen_32 rfl) (rdb (p := 32) (i := 1) ch_cX0_nearestOpen_32 rfl) (rdb (p := 32) (i := 2) ch_cX0_nearestOpen_32 rfl) (by decide +kernel)
theorem dX0_nearestOpen_35 : decode cX0_nearestOpen 35 = .ok (.aload_n 0, 1) := do_42 (rdb (p := 32) (i := 3) ch_cX0_nearestOpen_32 rfl)
theorem dX0_nearestOpen_36 : decode cX0_nearestOpen 36 = .ok (.getfield 9, 3) := do_180 (rdb (p := 32) (i := 4) ch_cX0_nearestOpen_32 rfl) (rdb (p := 32) (i := 5) ch_cX0_nearestOpen_32 rfl) (rdb (p := 32) (i := 6) ch_cX0_nearestOpen_32 rfl) rfl
theorem dX0_nearestOpen_39 : decode cX0_nearestOpen 39 = .ok (.iload_n 2, 1) := do_28 (rdb (p := 32) (i := 7) ch_cX0_nearestOpen_32 rfl)
theorem dX0_nearestOpen_40 : decode cX0_nearestOpen 40 = .ok (.iaload, 1) := do_46 (rdb (p := 32) (i := 8) ch_cX0_nearestOpen_32 rfl)
theorem dX0_nearestOpen_41 : decode cX0_nearestOpen 41 = .ok (.aload_n 0, 1) := do_42 (rdb (p := 32) (i := 9) ch_cX0_nearestOpen_32 rfl)
theorem dX0_nearestOpen_42 : decode cX0_nearestOpen 42 = .ok (.getfield 9, 3) := do_180 (rdb (p := 32) (i := 10) ch_cX0_nearestOpen_32 rfl) (rdb (p := 32) (i := 11) ch_cX0_nearestOpen_32 rfl) (rdb (p := 32) (i := 12) ch_cX0_nearestOpen_32 rfl) rfl
theorem dX0_nearestOpen_45 : decode cX0_nearestOpen 45 = .ok (.iload_n 1, 1) := do_27 (rdb (p := 32) (i := 13) ch_cX0_nearestOpen_32 rfl)
theorem dX0_nearestOpen_46 : decode cX0_nearestOpen 46 = .ok (.iaload, 1) := do_46 (rdb (p := 32) (i := 14) ch_cX0_nearestOpen_32 rfl)
theorem dX0_nearestOpen_47 : decode cX0_nearestOpen 47 = .ok (.if_icmp .ge 5, 3) := do_162 (rdb (p := 32) (i := 15) ch_cX0_nearestOpen_32 rfl) (rdb (p := 32) (i := 16) ch_cX0_nearestOpen_32 rfl) (rdb (p := 32) (i := 17) ch_cX0_nearestOpen_32 rfl) (by decide +kernel)
theorem dX0_nearestOpen_50 : decode cX0_nearestOpen 50 = .ok (.iload_n 2, 1) := do_28 (rdb (p := 32) (i := 18) ch_cX0_nearestOpen_32 rfl)
theorem dX0_nearestOpen_51 : decode cX0_nearestOpen 51 = .ok (.istore_n 1, 1) := do_60 (rdb (p := 32) (i := 19) ch_cX0_nearestOpen_32 rfl)
theorem dX0_nearestOpen_52 : decode cX0_nearestOpen 52 = .ok (.iinc 2 1, 3) := do_132 (rdb (p := 32) (i := 20) ch_cX0_nearestOpen_32 rfl) (rdb (p := 32) (i := 21) ch_cX0_nearestOpen_32 rfl) (rdb (p := 32) (i := 22) ch_cX0_nearestOpen_32 rfl) (by decide +kernel)
theorem dX0_nearestOpen_55 : decode cX0_nearestOpen 55 = .ok (.goto (-51), 3) := do_167 (rdb (p := 32) (i := 23) ch_cX0_nearestOpen_32 rfl) (rdb (p := 32) (i := 24) ch_cX0_nearestOpen_32 rfl) (rdb (p := 32) (i := 25) ch_cX0_nearestOpen_32 rfl) (by decide +kernel)
theorem dX0_nearestOpen_58 : decode cX0_nearestOpen 58 = .ok (.iload_n 1, 1) := do_27 (rdb (p := 32) (i := 26) ch_cX0_nearestOpen_32 rfl)
theorem dX0_nearestOpen_59 : decode cX0_nearestOpen 59 = .ok (.ireturn, 1) := do_172 (rdb (p := 32) (i := 27) ch_cX0_nearestOpen_32 rfl)
theorem ch_cX0_noteLearned_0 : (cX0_noteLearned.data.toList.drop 0).take 36 = [29, 155, 0, 17, 29, 16, 8, 162, 0, 11, 43, 28, 182, 0, 94, 154, 0, 4, 177, 3, 54, 5, 21, 5, 6, 162, 0, 21, 42, 180, 0, 19, 6, 29, 104, 21] := by decide +kernel
theorem dX0_noteLearned_0 : decode cX0_noteLearned 0 = .ok (.iload_n 3, 1) := do_29 (rdb (p := 0) (i := 0) ch_cX0_noteLearned_0 rfl)
theorem dX0_noteLearned_1 : decode cX0_noteLearned 1 = .ok (.ifCond .lt 17, 3) := do_155 (rdb (p := 0) (i := 1) ch_cX0_noteLearned_0 rfl) (rdb (p := 0) (i := 2) ch_cX0_noteLearned_0 rfl) (rdb (p := 0) (i := 3) ch_cX0_noteLearned_0 rfl) (by decide +kernel)
theorem dX0_noteLearned_4 : decode cX0_noteLearned 4 = .ok (.iload_n 3, 1) := do_29 (rdb (p := 0) (i := 4) ch_cX0_noteLearned_0 rfl)
theorem dX0_noteLearned_5 : decode cX0_noteLearned 5 = .ok (.bipush 8, 2) := do_16 (rdb (p := 0) (i := 5) ch_cX0_noteLearned_0 rfl) (rdb (p := 0) (i := 6) ch_cX0_noteLearned_0 rfl) (by decide +kernel)
theorem dX0_noteLearned_7 : decode cX0_noteLearned 7 = .ok (.if_icmp .ge 11, 3) := do_162 (rdb (p := 0) (i := 7) ch_cX0_noteLearned_0 rfl) (rdb (p := 0) (i := 8) ch_cX0_noteLearned_0 rfl) (rdb (p := 0) (i := 9) ch_cX0_noteLearned_0 rfl) (by decide +kernel)
theorem dX0_noteLearned_10 : decode cX0_noteLearned 10 = .ok (.aload_n 1, 1) := do_43 (rdb (p := 0) (i := 10) ch_cX0_noteLearned_0 rfl)
theorem dX0_noteLearned_11 : decode cX0_noteLearned 11 = .ok (.iload_n 2, 1) := do_28 (rdb (p := 0) (i := 11) ch_cX0_noteLearned_0 rfl)
theorem dX0_noteLearned_12 : decode cX0_noteLearned 12 = .ok (.invokevirtual 94, 3) := do_182 (rdb (p := 0) (i := 12) ch_cX0_noteLearned_0 rfl) (rdb (p := 0) (i := 13) ch_cX0_noteLearned_0 rfl) (rdb (p := 0) (i := 14) ch_cX0_noteLearned_0 rfl) rfl
theorem dX0_noteLearned_15 : decode cX0_noteLearned 15 = .ok (.ifCond .ne 4, 3) := do_154 (rdb (p := 0) (i := 15) ch_cX0_noteLearned_0 rfl) (rdb (p := 0) (i := 16) ch_cX0_noteLearned_0 rfl) (rdb (p := 0) (i := 17) ch_cX0_noteLearned_0 rfl) (by decide +kernel)
theorem dX0_noteLearned_18 : decode cX0_noteLearned 18 = .ok (.return_, 1) := do_177 (rdb (p := 0) (i := 18) ch_cX0_noteLearned_0 rfl)
theorem dX0_noteLearned_19 : decode cX0_noteLearned 19 = .ok (.iconst 0, 1) := do_3 (rdb (p := 0) (i := 19) ch_cX0_noteLearned_0 rfl)
theorem dX0_noteLearned_20 : decode cX0_noteLearned 20 = .ok (.istore 5, 2) := do_54 (rdb (p := 0) (i := 20) ch_cX0_noteLearned_0 rfl) (rdb (p := 0) (i := 21) ch_cX0_noteLearned_0 rfl)
theorem dX0_noteLearned_22 : decode cX0_noteLearned 22 = .ok (.iload 5, 2) := do_21 (rdb (p := 0) (i := 22) ch_cX0_noteLearned_0 rfl) (rdb (p := 0) (i := 23) ch_cX0_noteLearned_0 rfl)
theorem dX0_noteLearned_24 : decode cX0_noteLearned 24 = .ok (.iconst 3, 1) := do_6 (rdb (p := 0) (i := 24) ch_cX0_noteLearned_0 rfl)
theorem dX0_noteLearned_25 : decode cX0_noteLearned 25 = .ok (.if_icmp .ge 21, 3) := do_162 (rdb (p := 0) (i := 25) ch_cX0_noteLearned_0 rfl) (rdb (p := 0) (i := 26) ch_cX0_noteLearned_0 rfl) (rdb (p := 0) (i := 27) ch_cX0_noteLearned_0 rfl) (by decide +kernel)
theorem dX0_noteLearned_28 : decode cX0_noteLearned 28 = .ok (.aload_n 0, 1) := do_42 (rdb (p := 0) (i := 28) ch_cX0_noteLearned_0 rfl)
theorem dX0_noteLearned_29 : decode cX0_noteLearned 29 = .ok (.getfield 19, 3) := do_180 (rdb (p := 0) (i := 29) ch_cX0_noteLearned_0 rfl) (rdb (p := 0) (i := 30) ch_cX0_noteLearned_0 rfl) (rdb (p := 0) (i := 31) ch_cX0_noteLearned_0 rfl) rfl
theorem ch_cX0_noteLearned_32 : (cX0_noteLearned.data.toList.drop 32).take 36 = [6, 29, 104, 21, 5, 96, 9, 80, 132, 5, 1, 167, 255, 235, 43, 180, 0, 97, 28, 50, 58, 5, 3, 54, 6, 21, 6, 16, 8, 162, 0, 81, 43, 28, 21, 4] := by decide +kernel
theorem dX0_noteLearned_32 : decode cX0_noteLearned 32 = .ok (.iconst 3, 1) := do_6 (rdb (p := 32) (i := 0) ch_cX0_noteLearned_32 rfl)
theorem dX0_noteLearned_33 : decode cX0_noteLearned 33 = .ok (.iload_n 3, 1) := do_29 (rdb (p := 32) (i := 1) ch_cX0_noteLearned_32 rfl)
theorem dX0_noteLearned_34 : decode cX0_noteLearned 34 = .ok (.imul, 1) := do_104 (rdb (p := 32) (i := 2) ch_cX0_noteLearned_32 rfl)
theorem dX0_noteLearned_35 : decode cX0_noteLearned 35 = .ok (.iload 5, 2) := do_21 (rdb (p := 32) (i := 3) ch_cX0_noteLearned_32 rfl) (rdb (p := 32) (i := 4) ch_cX0_noteLearned_32 rfl)
theorem dX0_noteLearned_37 : decode cX0_noteLearned 37 = .ok (.iadd, 1) := do_96 (rdb (p := 32) (i := 5) ch_cX0_noteLearned_32 rfl)
theorem dX0_noteLearned_38 : decode cX0_noteLearned 38 = .ok (.lconst 0, 1) := do_9 (rdb (p := 32) (i := 6) ch_cX0_noteLearned_32 rfl)
theorem dX0_noteLearned_39 : decode cX0_noteLearned 39 = .ok (.lastore, 1) := do_80 (rdb (p := 32) (i := 7) ch_cX0_noteLearned_32 rfl)
theorem dX0_noteLearned_40 : decode cX0_noteLearned 40 = .ok (.iinc 5 1, 3) := do_132 (rdb (p := 32) (i := 8) ch_cX0_noteLearned_32 rfl) (rdb (p := 32) (i := 9) ch_cX0_noteLearned_32 rfl) (rdb (p := 32) (i := 10) ch_cX0_noteLearned_32 rfl) (by decide +kernel)
theorem dX0_noteLearned_43 : decode cX0_noteLearned 43 = .ok (.goto (-21), 3) := do_167 (rdb (p := 32) (i := 11) ch_cX0_noteLearned_32 rfl) (rdb (p := 32) (i := 12) ch_cX0_noteLearned_32 rfl) (rdb (p := 32) (i := 13) ch_cX0_noteLearned_32 rfl) (by decide +kernel)
theorem dX0_noteLearned_46 : decode cX0_noteLearned 46 = .ok (.aload_n 1, 1) := do_43 (rdb (p := 32) (i := 14) ch_cX0_noteLearned_32 rfl)
theorem dX0_noteLearned_47 : decode cX0_noteLearned 47 = .ok (.getfield 97, 3) := do_180 (rdb (p := 32) (i := 15) ch_cX0_noteLearned_32 rfl) (rdb (p := 32) (i := 16) ch_cX0_noteLearned_32 rfl) (rdb (p := 32) (i := 17) ch_cX0_noteLearned_32 rfl) rfl
theorem dX0_noteLearned_50 : decode cX0_noteLearned 50 = .ok (.iload_n 2, 1) := do_28 (rdb (p := 32) (i := 18) ch_cX0_noteLearned_32 rfl)
theorem dX0_noteLearned_51 : decode cX0_noteLearned 51 = .ok (.aaload, 1) := do_50 (rdb (p := 32) (i := 19) ch_cX0_noteLearned_32 rfl)
theorem dX0_noteLearned_52 : decode cX0_noteLearned 52 = .ok (.astore 5, 2) := do_58 (rdb (p := 32) (i := 20) ch_cX0_noteLearned_32 rfl) (rdb (p := 32) (i := 21) ch_cX0_noteLearned_32 rfl)
theorem dX0_noteLearned_54 : decode cX0_noteLearned 54 = .ok (.iconst 0, 1) := do_3 (rdb (p := 32) (i := 22) ch_cX0_noteLearned_32 rfl)
theorem dX0_noteLearned_55 : decode cX0_noteLearned 55 = .ok (.istore 6, 2) := do_54 (rdb (p := 32) (i := 23) ch_cX0_noteLearned_32 rfl) (rdb (p := 32) (i := 24) ch_cX0_noteLearned_32 rfl)
theorem dX0_noteLearned_57 : decode cX0_noteLearned 57 = .ok (.iload 6, 2) := do_21 (rdb (p := 32) (i := 25) ch_cX0_noteLearned_32 rfl) (rdb (p := 32) (i := 26) ch_cX0_noteLearned_32 rfl)
theorem dX0_noteLearned_59 : decode cX0_noteLearned 59 = .ok (.bipush 8, 2) := do_16 (rdb (p := 32) (i := 27) ch_cX0_noteLearned_32 rfl) (rdb (p := 32) (i := 28) ch_cX0_noteLearned_32 rfl) (by decide +kernel)
theorem dX0_noteLearned_61 : decode cX0_noteLearned 61 = .ok (.if_icmp .ge 81, 3) := do_162 (rdb (p := 32) (i := 29) ch_cX0_noteLearned_32 rfl) (rdb (p := 32) (i := 30) ch_cX0_noteLearned_32 rfl) (rdb (p := 32) (i := 31) ch_cX0_noteLearned_32 rfl) (by decide +kernel)
theorem ch_cX0_noteLearned_64 : (cX0_noteLearned.data.toList.drop 64).take 36 = [43, 28, 21, 4, 21, 6, 182, 0, 101, 54, 7, 4, 54, 8, 21, 8, 21, 7, 163, 0, 54, 21, 4, 21, 6, 21, 8, 184, 0, 46, 54, 9, 25, 5, 21, 9] := by decide +kernel
theorem dX0_noteLearned_64 : decode cX0_noteLearned 64 = .ok (.aload_n 1, 1) := do_43 (rdb (p := 64) (i := 0) ch_cX0_noteLearned_64 rfl)
theorem dX0_noteLearned_65 : decode cX0_noteLearned 65 = .ok (.iload_n 2, 1) := do_28 (rdb (p := 64) (i := 1) ch_cX0_noteLearned_64 rfl)
theorem dX0_noteLearned_66 : decode cX0_noteLearned 66 = .ok (.iload 4, 2) := do_21 (rdb (p := 64) (i := 2) ch_cX0_noteLearned_64 rfl) (rdb (p := 64) (i := 3) ch_cX0_noteLearned_64 rfl)
theorem dX0_noteLearned_68 : decode cX0_noteLearned 68 = .ok (.iload 6, 2) := do_21 (rdb (p := 64) (i := 4) ch_cX0_noteLearned_64 rfl) (rdb (p := 64) (i := 5) ch_cX0_noteLearned_64 rfl)
theorem dX0_noteLearned_70 : decode cX0_noteLearned 70 = .ok (.invokevirtual 101, 3) := do_182 (rdb (p := 64) (i := 6) ch_cX0_noteLearned_64 rfl) (rdb (p := 64) (i := 7) ch_cX0_noteLearned_64 rfl) (rdb (p := 64) (i := 8) ch_cX0_noteLearned_64 rfl) rfl
theorem dX0_noteLearned_73 : decode cX0_noteLearned 73 = .ok (.istore 7, 2) := do_54 (rdb (p := 64) (i := 9) ch_cX0_noteLearned_64 rfl) (rdb (p := 64) (i := 10) ch_cX0_noteLearned_64 rfl)
theorem dX0_noteLearned_75 : decode cX0_noteLearned 75 = .ok (.iconst 1, 1) := do_4 (rdb (p := 64) (i := 11) ch_cX0_noteLearned_64 rfl)
theorem dX0_noteLearned_76 : decode cX0_noteLearned 76 = .ok (.istore 8, 2) := do_54 (rdb (p := 64) (i := 12) ch_cX0_noteLearned_64 rfl) (rdb (p := 64) (i := 13) ch_cX0_noteLearned_64 rfl)
theorem dX0_noteLearned_78 : decode cX0_noteLearned 78 = .ok (.iload 8, 2) := do_21 (rdb (p := 64) (i := 14) ch_cX0_noteLearned_64 rfl) (rdb (p := 64) (i := 15) ch_cX0_noteLearned_64 rfl)
theorem dX0_noteLearned_80 : decode cX0_noteLearned 80 = .ok (.iload 7, 2) := do_21 (rdb (p := 64) (i := 16) ch_cX0_noteLearned_64 rfl) (rdb (p := 64) (i := 17) ch_cX0_noteLearned_64 rfl)
theorem dX0_noteLearned_82 : decode cX0_noteLearned 82 = .ok (.if_icmp .gt 54, 3) := do_163 (rdb (p := 64) (i := 18) ch_cX0_noteLearned_64 rfl) (rdb (p := 64) (i := 19) ch_cX0_noteLearned_64 rfl) (rdb (p := 64) (i := 20) ch_cX0_noteLearned_64 rfl) (by decide +kernel)
theorem dX0_noteLearned_85 : decode cX0_noteLearned 85 = .ok (.iload 4, 2) := do_21 (rdb (p := 64) (i := 21) ch_cX0_noteLearned_64 rfl) (rdb (p := 64) (i := 22) ch_cX0_noteLearned_64 rfl)
theorem dX0_noteLearned_87 : decode cX0_noteLearned 87 = .ok (.iload 6, 2) := do_21 (rdb (p := 64) (i := 23) ch_cX0_noteLearned_64 rfl) (rdb (p := 64) (i := 24) ch_cX0_noteLearned_64 rfl)
theorem dX0_noteLearned_89 : decode cX0_noteLearned 89 = .ok (.iload 8, 2) := do_21 (rdb (p := 64) (i := 25) ch_cX0_noteLearned_64 rfl) (rdb (p := 64) (i := 26) ch_cX0_noteLearned_64 rfl)
theorem dX0_noteLearned_91 : decode cX0_noteLearned 91 = .ok (.invokestatic 46, 3) := do_184 (rdb (p := 64) (i := 27) ch_cX0_noteLearned_64 rfl) (rdb (p := 64) (i := 28) ch_cX0_noteLearned_64 rfl) (rdb (p := 64) (i := 29) ch_cX0_noteLearned_64 rfl) rfl
theorem dX0_noteLearned_94 : decode cX0_noteLearned 94 = .ok (.istore 9, 2) := do_54 (rdb (p := 64) (i := 30) ch_cX0_noteLearned_64 rfl) (rdb (p := 64) (i := 31) ch_cX0_noteLearned_64 rfl)
theorem ch_cX0_noteLearned_96 : (cX0_noteLearned.data.toList.drop 96).take 36 = [25, 5, 21, 9, 182, 0, 104, 153, 0, 27, 42, 180, 0, 19, 6, 29, 104, 21, 9, 16, 64, 108, 96, 92, 47, 10, 21, 9, 16, 64, 112, 121, 129, 80, 132, 8] := by decide +kernel
theorem dX0_noteLearned_96 : decode cX0_noteLearned 96 = .ok (.aload 5, 2) := do_25 (rdb (p := 96) (i := 0) ch_cX0_noteLearned_96 rfl) (rdb (p := 96) (i := 1) ch_cX0_noteLearned_96 rfl)
theorem dX0_noteLearned_98 : decode cX0_noteLearned 98 = .ok (.iload 9, 2) := do_21 (rdb (p := 96) (i := 2) ch_cX0_noteLearned_96 rfl) (rdb (p := 96) (i := 3) ch_cX0_noteLearned_96 rfl)
theorem dX0_noteLearned_100 : decode cX0_noteLearned 100 = .ok (.invokevirtual 104, 3) := do_182 (rdb (p := 96) (i := 4) ch_cX0_noteLearned_96 rfl) (rdb (p := 96) (i := 5) ch_cX0_noteLearned_96 rfl) (rdb (p := 96) (i := 6) ch_cX0_noteLearned_96 rfl) rfl
theorem dX0_noteLearned_103 : decode cX0_noteLearned 103 = .ok (.ifCond .eq 27, 3) := do_153 (rdb (p := 96) (i := 7) ch_cX0_noteLearned_96 rfl) (rdb (p := 96) (i := 8) ch_cX0_noteLearned_96 rfl) (rdb (p := 96) (i := 9) ch_cX0_noteLearned_96 rfl) (by decide +kernel)
theorem dX0_noteLearned_106 : decode cX0_noteLearned 106 = .ok (.aload_n 0, 1) := do_42 (rdb (p := 96) (i := 10) ch_cX0_noteLearned_96 rfl)
theorem dX0_noteLearned_107 : decode cX0_noteLearned 107 = .ok (.getfield 19, 3) := do_180 (rdb (p := 96) (i := 11) ch_cX0_noteLearned_96 rfl) (rdb (p := 96) (i := 12) ch_cX0_noteLearned_96 rfl) (rdb (p := 96) (i := 13) ch_cX0_noteLearned_96 rfl) rfl
theorem dX0_noteLearned_110 : decode cX0_noteLearned 110 = .ok (.iconst 3, 1) := do_6 (rdb (p := 96) (i := 14) ch_cX0_noteLearned_96 rfl)
theorem dX0_noteLearned_111 : decode cX0_noteLearned 111 = .ok (.iload_n 3, 1) := do_29 (rdb (p := 96) (i := 15) ch_cX0_noteLearned_96 rfl)
theorem dX0_noteLearned_112 : decode cX0_noteLearned 112 = .ok (.imul, 1) := do_104 (rdb (p := 96) (i := 16) ch_cX0_noteLearned_96 rfl)
theorem dX0_noteLearned_113 : decode cX0_noteLearned 113 = .ok (.iload 9, 2) := do_21 (rdb (p := 96) (i := 17) ch_cX0_noteLearned_96 rfl) (rdb (p := 96) (i := 18) ch_cX0_noteLearned_96 rfl)
theorem dX0_noteLearned_115 : decode cX0_noteLearned 115 = .ok (.bipush 64, 2) := do_16 (rdb (p := 96) (i := 19) ch_cX0_noteLearned_96 rfl) (rdb (p := 96) (i := 20) ch_cX0_noteLearned_96 rfl) (by decide +kernel)
theorem dX0_noteLearned_117 : decode cX0_noteLearned 117 = .ok (.idiv, 1) := do_108 (rdb (p := 96) (i := 21) ch_cX0_noteLearned_96 rfl)
theorem dX0_noteLearned_118 : decode cX0_noteLearned 118 = .ok (.iadd, 1) := do_96 (rdb (p := 96) (i := 22) ch_cX0_noteLearned_96 rfl)
theorem dX0_noteLearned_119 : decode cX0_noteLearned 119 = .ok (.dup2, 1) := do_92 (rdb (p := 96) (i := 23) ch_cX0_noteLearned_96 rfl)
theorem dX0_noteLearned_120 : decode cX0_noteLearned 120 = .ok (.laload, 1) := do_47 (rdb (p := 96) (i := 24) ch_cX0_noteLearned_96 rfl)
theorem dX0_noteLearned_121 : decode cX0_noteLearned 121 = .ok (.lconst 1, 1) := do_10 (rdb (p := 96) (i := 25) ch_cX0_noteLearned_96 rfl)
theorem dX0_noteLearned_122 : decode cX0_noteLearned 122 = .ok (.iload 9, 2) := do_21 (rdb (p := 96) (i := 26) ch_cX0_noteLearned_96 rfl) (rdb (p := 96) (i := 27) ch_cX0_noteLearned_96 rfl)
theorem dX0_noteLearned_124 : decode cX0_noteLearned 124 = .ok (.bipush 64, 2) := do_16 (rdb (p := 96) (i := 28) ch_cX0_noteLearned_96 rfl) (rdb (p := 96) (i := 29) ch_cX0_noteLearned_96 rfl) (by decide +kernel)
theorem dX0_noteLearned_126 : decode cX0_noteLearned 126 = .ok (.irem, 1) := do_112 (rdb (p := 96) (i := 30) ch_cX0_noteLearned_96 rfl)
theorem dX0_noteLearned_127 : decode cX0_noteLearned 127 = .ok (.lshl, 1) := do_121 (rdb (p := 96) (i := 31) ch_cX0_noteLearned_96 rfl)
theorem ch_cX0_noteLearned_128 : (cX0_noteLearned.data.toList.drop 128).take 36 = [129, 80, 132, 8, 1, 167, 255, 201, 132, 6, 1, 167, 255, 174, 177] := by decide +kernel
theorem dX0_noteLearned_128 : decode cX0_noteLearned 128 = .ok (.lor, 1) := do_129 (rdb (p := 128) (i := 0) ch_cX0_noteLearned_128 rfl)
theorem dX0_noteLearned_129 : decode cX0_noteLearned 129 = .ok (.lastore, 1) := do_80 (rdb (p := 128) (i := 1) ch_cX0_noteLearned_128 rfl)
theorem dX0_noteLearned_130 : decode cX0_noteLearned 130 = .ok (.iinc 8 1, 3) := do_132 (rdb (p := 128) (i := 2) ch_cX0_noteLearned_128 rfl) (rdb (p := 128) (i := 3) ch_cX0_noteLearned_128 rfl) (rdb (p := 128) (i := 4) ch_cX0_noteLearned_128 rfl) (by decide +kernel)
theorem dX0_noteLearned_133 : decode cX0_noteLearned 133 = .ok (.goto (-55), 3) := do_167 (rdb (p := 128) (i := 5) ch_cX0_noteLearned_128 rfl) (rdb (p := 128) (i := 6) ch_cX0_noteLearned_128 rfl) (rdb (p := 128) (i := 7) ch_cX0_noteLearned_128 rfl) (by decide +kernel)
theorem dX0_noteLearned_136 : decode cX0_noteLearned 136 = .ok (.iinc 6 1, 3) := do_132 (rdb (p := 128) (i := 8) ch_cX0_noteLearned_128 rfl) (rdb (p := 128) (i := 9) ch_cX0_noteLearned_128 rfl) (rdb (p := 128) (i := 10) ch_cX0_noteLearned_128 rfl) (by decide +kernel)
theorem dX0_noteLearned_139 : decode cX0_noteLearned 139 = .ok (.goto (-82), 3) := do_167 (rdb (p := 128) (i := 11) ch_cX0_noteLearned_128 rfl) (rdb (p := 128) (i := 12) ch_cX0_noteLearned_128 rfl) (rdb (p := 128) (i := 13) ch_cX0_noteLearned_128 rfl) (by decide +kernel)
theorem dX0_noteLearned_142 : decode cX0_noteLearned 142 = .ok (.return_, 1) := do_177 (rdb (p := 128) (i := 14) ch_cX0_noteLearned_128 rfl)
theorem dX0_servesAll_0 : decode cX0_servesAll 0 = .ok (.iconst 0, 1) := by decide +kernel
theorem dX0_servesAll_1 : decode cX0_servesAll 1 = .ok (.istore_n 3, 1) := by decide +kernel
theorem dX0_servesAll_2 : decode cX0_servesAll 2 = .ok (.iload_n 3, 1) := by decide +kernel
theorem dX0_servesAll_3 : decode cX0_servesAll 3 = .ok (.iload_n 2, 1) := by decide +kernel
theorem dX0_servesAll_4 : decode cX0_servesAll 4 = .ok (.if_icmp .ge 28, 3) := by decide +kernel
theorem dX0_servesAll_7 : decode cX0_servesAll 7 = .ok (.iload_n 3, 1) := by decide +kernel
theorem dX0_servesAll_8 : decode cX0_servesAll 8 = .ok (.bipush 8, 2) := by decide +kernel
theorem dX0_servesAll_10 : decode cX0_servesAll 10 = .ok (.if_icmp .ge 22, 3) := by decide +kernel
theorem dX0_servesAll_13 : decode cX0_servesAll 13 = .ok (.iload_n 1, 1) := by decide +kernel
theorem dX0_servesAll_14 : decode cX0_servesAll 14 = .ok (.aload_n 0, 1) := by decide +kernel
theorem dX0_servesAll_15 : decode cX0_servesAll 15 = .ok (.getfield 23, 3) := by decide +kernel
theorem dX0_servesAll_18 : decode cX0_servesAll 18 = .ok (.iload_n 3, 1) := by decide +kernel
theorem dX0_servesAll_19 : decode cX0_servesAll 19 = .ok (.iaload, 1) := by decide +kernel
theorem dX0_servesAll_20 : decode cX0_servesAll 20 = .ok (.iand, 1) := by decide +kernel
theorem dX0_servesAll_21 : decode cX0_servesAll 21 = .ok (.ifCond .ne 5, 3) := by decide +kernel
theorem dX0_servesAll_24 : decode cX0_servesAll 24 = .ok (.iconst 0, 1) := by decide +kernel
theorem dX0_servesAll_25 : decode cX0_servesAll 25 = .ok (.ireturn, 1) := by decide +kernel
theorem dX0_servesAll_26 : decode cX0_servesAll 26 = .ok (.iinc 3 1, 3) := by decide +kernel
theorem dX0_servesAll_29 : decode cX0_servesAll 29 = .ok (.goto (-27), 3) := by decide +kernel
theorem dX0_servesAll_32 : decode cX0_servesAll 32 = .ok (.iconst 1, 1) := by decide +kernel
theorem dX0_servesAll_33 : decode cX0_servesAll 33 = .ok (.ireturn, 1) := by decide +kernel
theorem ch_cX0_wouldHear_0 : (cX0_wouldHear.data.toList.drop 0).take 36 = [42, 27, 182, 0, 94, 154, 0, 5, 3, 172, 42, 180, 0, 97, 27, 50, 58, 4, 3, 54, 5, 21, 5, 16, 8, 162, 0, 80, 4, 54, 6, 21, 6, 25, 4, 182] := by decide +kernel
theorem dX0_wouldHear_0 : decode cX0_wouldHear 0 = .ok (.aload_n 0, 1) := do_42 (rdb (p := 0) (i := 0) ch_cX0_wouldHear_0 rfl)
theorem dX0_wouldHear_1 : decode cX0_wouldHear 1 = .ok (.iload_n 1, 1) := do_27 (rdb (p := 0) (i := 1) ch_cX0_wouldHear_0 rfl)
theorem dX0_wouldHear_2 : decode cX0_wouldHear 2 = .ok (.invokevirtual 94, 3) := do_182 (rdb (p := 0) (i := 2) ch_cX0_wouldHear_0 rfl) (rdb (p := 0) (i := 3) ch_cX0_wouldHear_0 rfl) (rdb (p := 0) (i := 4) ch_cX0_wouldHear_0 rfl) rfl
theorem dX0_wouldHear_5 : decode cX0_wouldHear 5 = .ok (.ifCond .ne 5, 3) := do_154 (rdb (p := 0) (i := 5) ch_cX0_wouldHear_0 rfl) (rdb (p := 0) (i := 6) ch_cX0_wouldHear_0 rfl) (rdb (p := 0) (i := 7) ch_cX0_wouldHear_0 rfl) (by decide +kernel)
theorem dX0_wouldHear_8 : decode cX0_wouldHear 8 = .ok (.iconst 0, 1) := do_3 (rdb (p := 0) (i := 8) ch_cX0_wouldHear_0 rfl)
theorem dX0_wouldHear_9 : decode cX0_wouldHear 9 = .ok (.ireturn, 1) := do_172 (rdb (p := 0) (i := 9) ch_cX0_wouldHear_0 rfl)
theorem dX0_wouldHear_10 : decode cX0_wouldHear 10 = .ok (.aload_n 0, 1) := do_42 (rdb (p := 0) (i := 10) ch_cX0_wouldHear_0 rfl)
theorem dX0_wouldHear_11 : decode cX0_wouldHear 11 = .ok (.getfield 97, 3) := do_180 (rdb (p := 0) (i := 11) ch_cX0_wouldHear_0 rfl) (rdb (p := 0) (i := 12) ch_cX0_wouldHear_0 rfl) (rdb (p := 0) (i := 13) ch_cX0_wouldHear_0 rfl) rfl
theorem dX0_wouldHear_14 : decode cX0_wouldHear 14 = .ok (.iload_n 1, 1) := do_27 (rdb (p := 0) (i := 14) ch_cX0_wouldHear_0 rfl)
theorem dX0_wouldHear_15 : decode cX0_wouldHear 15 = .ok (.aaload, 1) := do_50 (rdb (p := 0) (i := 15) ch_cX0_wouldHear_0 rfl)
theorem dX0_wouldHear_16 : decode cX0_wouldHear 16 = .ok (.astore 4, 2) := do_58 (rdb (p := 0) (i := 16) ch_cX0_wouldHear_0 rfl) (rdb (p := 0) (i := 17) ch_cX0_wouldHear_0 rfl)
theorem dX0_wouldHear_18 : decode cX0_wouldHear 18 = .ok (.iconst 0, 1) := do_3 (rdb (p := 0) (i := 18) ch_cX0_wouldHear_0 rfl)
theorem dX0_wouldHear_19 : decode cX0_wouldHear 19 = .ok (.istore 5, 2) := do_54 (rdb (p := 0) (i := 19) ch_cX0_wouldHear_0 rfl) (rdb (p := 0) (i := 20) ch_cX0_wouldHear_0 rfl)
theorem dX0_wouldHear_21 : decode cX0_wouldHear 21 = .ok (.iload 5, 2) := do_21 (rdb (p := 0) (i := 21) ch_cX0_wouldHear_0 rfl) (rdb (p := 0) (i := 22) ch_cX0_wouldHear_0 rfl)
theorem dX0_wouldHear_23 : decode cX0_wouldHear 23 = .ok (.bipush 8, 2) := do_16 (rdb (p := 0) (i := 23) ch_cX0_wouldHear_0 rfl) (rdb (p := 0) (i := 24) ch_cX0_wouldHear_0 rfl) (by decide +kernel)
theorem dX0_wouldHear_25 : decode cX0_wouldHear 25 = .ok (.if_icmp .ge 80, 3) := do_162 (rdb (p := 0) (i := 25) ch_cX0_wouldHear_0 rfl) (rdb (p := 0) (i := 26) ch_cX0_wouldHear_0 rfl) (rdb (p := 0) (i := 27) ch_cX0_wouldHear_0 rfl) (by decide +kernel)
theorem dX0_wouldHear_28 : decode cX0_wouldHear 28 = .ok (.iconst 1, 1) := do_4 (rdb (p := 0) (i := 28) ch_cX0_wouldHear_0 rfl)
theorem dX0_wouldHear_29 : decode cX0_wouldHear 29 = .ok (.istore 6, 2) := do_54 (rdb (p := 0) (i := 29) ch_cX0_wouldHear_0 rfl) (rdb (p := 0) (i := 30) ch_cX0_wouldHear_0 rfl)
theorem dX0_wouldHear_31 : decode cX0_wouldHear 31 = .ok (.iload 6, 2) := do_21 (rdb (p := 0) (i := 31) ch_cX0_wouldHear_0 rfl) (rdb (p := 0) (i := 32) ch_cX0_wouldHear_0 rfl)
theorem ch_cX0_wouldHear_32 : (cX0_wouldHear.data.toList.drop 32).take 36 = [6, 25, 4, 182, 0, 120, 163, 0, 61, 28, 21, 5, 21, 6, 184, 0, 46, 54, 7, 42, 27, 21, 7, 182, 0, 123, 154, 0, 6, 167, 0, 38, 21, 7, 29, 160] := by decide +kernel
theorem dX0_wouldHear_33 : decode cX0_wouldHear 33 = .ok (.aload 4, 2) := do_25 (rdb (p := 32) (i := 1) ch_cX0_wouldHear_32 rfl) (rdb (p := 32) (i := 2) ch_cX0_wouldHear_32 rfl)
theorem dX0_wouldHear_35 : decode cX0_wouldHear 35 = .ok (.invokevirtual 120, 3) := do_182 (rdb (p := 32) (i := 3) ch_cX0_wouldHear_32 rfl) (rdb (p := 32) (i := 4) ch_cX0_wouldHear_32 rfl) (rdb (p := 32) (i := 5) ch_cX0_wouldHear_32 rfl) rfl
theorem dX0_wouldHear_38 : decode cX0_wouldHear 38 = .ok (.if_icmp .gt 61, 3) := do_163 (rdb (p := 32) (i := 6) ch_cX0_wouldHear_32 rfl) (rdb (p := 32) (i := 7) ch_cX0_wouldHear_32 rfl) (rdb (p := 32) (i := 8) ch_cX0_wouldHear_32 rfl) (by decide +kernel)
theorem dX0_wouldHear_41 : decode cX0_wouldHear 41 = .ok (.iload_n 2, 1) := do_28 (rdb (p := 32) (i := 9) ch_cX0_wouldHear_32 rfl)
theorem dX0_wouldHear_42 : decode cX0_wouldHear 42 = .ok (.iload 5, 2) := do_21 (rdb (p := 32) (i := 10) ch_cX0_wouldHear_32 rfl) (rdb (p := 32) (i := 11) ch_cX0_wouldHear_32 rfl)
theorem dX0_wouldHear_44 : decode cX0_wouldHear 44 = .ok (.iload 6, 2) := do_21 (rdb (p := 32) (i := 12) ch_cX0_wouldHear_32 rfl) (rdb (p := 32) (i := 13) ch_cX0_wouldHear_32 rfl)
theorem dX0_wouldHear_46 : decode cX0_wouldHear 46 = .ok (.invokestatic 46, 3) := do_184 (rdb (p := 32) (i := 14) ch_cX0_wouldHear_32 rfl) (rdb (p := 32) (i := 15) ch_cX0_wouldHear_32 rfl) (rdb (p := 32) (i := 16) ch_cX0_wouldHear_32 rfl) rfl
theorem dX0_wouldHear_49 : decode cX0_wouldHear 49 = .ok (.istore 7, 2) := do_54 (rdb (p := 32) (i := 17) ch_cX0_wouldHear_32 rfl) (rdb (p := 32) (i := 18) ch_cX0_wouldHear_32 rfl)
theorem dX0_wouldHear_51 : decode cX0_wouldHear 51 = .ok (.aload_n 0, 1) := do_42 (rdb (p := 32) (i := 19) ch_cX0_wouldHear_32 rfl)
theorem dX0_wouldHear_52 : decode cX0_wouldHear 52 = .ok (.iload_n 1, 1) := do_27 (rdb (p := 32) (i := 20) ch_cX0_wouldHear_32 rfl)
theorem dX0_wouldHear_53 : decode cX0_wouldHear 53 = .ok (.iload 7, 2) := do_21 (rdb (p := 32) (i := 21) ch_cX0_wouldHear_32 rfl) (rdb (p := 32) (i := 22) ch_cX0_wouldHear_32 rfl)
theorem dX0_wouldHear_55 : decode cX0_wouldHear 55 = .ok (.invokevirtual 123, 3) := do_182 (rdb (p := 32) (i := 23) ch_cX0_wouldHear_32 rfl) (rdb (p := 32) (i := 24) ch_cX0_wouldHear_32 rfl) (rdb (p := 32) (i := 25) ch_cX0_wouldHear_32 rfl) rfl
theorem dX0_wouldHear_58 : decode cX0_wouldHear 58 = .ok (.ifCond .ne 6, 3) := do_154 (rdb (p := 32) (i := 26) ch_cX0_wouldHear_32 rfl) (rdb (p := 32) (i := 27) ch_cX0_wouldHear_32 rfl) (rdb (p := 32) (i := 28) ch_cX0_wouldHear_32 rfl) (by decide +kernel)
theorem dX0_wouldHear_61 : decode cX0_wouldHear 61 = .ok (.goto 38, 3) := do_167 (rdb (p := 32) (i := 29) ch_cX0_wouldHear_32 rfl) (rdb (p := 32) (i := 30) ch_cX0_wouldHear_32 rfl) (rdb (p := 32) (i := 31) ch_cX0_wouldHear_32 rfl) (by decide +kernel)
theorem ch_cX0_wouldHear_64 : (cX0_wouldHear.data.toList.drop 64).take 36 = [21, 7, 29, 160, 0, 26, 42, 180, 0, 126, 25, 4, 182, 0, 130, 4, 25, 4, 182, 0, 133, 21, 6, 21, 5, 182, 0, 136, 172, 132, 6, 1, 167, 255, 191, 132] := by decide +kernel
theorem dX0_wouldHear_64 : decode cX0_wouldHear 64 = .ok (.iload 7, 2) := do_21 (rdb (p := 64) (i := 0) ch_cX0_wouldHear_64 rfl) (rdb (p := 64) (i := 1) ch_cX0_wouldHear_64 rfl)
theorem dX0_wouldHear_66 : decode cX0_wouldHear 66 = .ok (.iload_n 3, 1) := do_29 (rdb (p := 64) (i := 2) ch_cX0_wouldHear_64 rfl)
theorem dX0_wouldHear_67 : decode cX0_wouldHear 67 = .ok (.if_icmp .ne 26, 3) := do_160 (rdb (p := 64) (i := 3) ch_cX0_wouldHear_64 rfl) (rdb (p := 64) (i := 4) ch_cX0_wouldHear_64 rfl) (rdb (p := 64) (i := 5) ch_cX0_wouldHear_64 rfl) (by decide +kernel)
theorem dX0_wouldHear_70 : decode cX0_wouldHear 70 = .ok (.aload_n 0, 1) := do_42 (rdb (p := 64) (i := 6) ch_cX0_wouldHear_64 rfl)
theorem dX0_wouldHear_71 : decode cX0_wouldHear 71 = .ok (.getfield 126, 3) := do_180 (rdb (p := 64) (i := 7) ch_cX0_wouldHear_64 rfl) (rdb (p := 64) (i := 8) ch_cX0_wouldHear_64 rfl) (rdb (p := 64) (i := 9) ch_cX0_wouldHear_64 rfl) rfl
theorem dX0_wouldHear_74 : decode cX0_wouldHear 74 = .ok (.aload 4, 2) := do_25 (rdb (p := 64) (i := 10) ch_cX0_wouldHear_64 rfl) (rdb (p := 64) (i := 11) ch_cX0_wouldHear_64 rfl)
theorem dX0_wouldHear_76 : decode cX0_wouldHear 76 = .ok (.invokevirtual 130, 3) := do_182 (rdb (p := 64) (i := 12) ch_cX0_wouldHear_64 rfl) (rdb (p := 64) (i := 13) ch_cX0_wouldHear_64 rfl) (rdb (p := 64) (i := 14) ch_cX0_wouldHear_64 rfl) rfl
theorem dX0_wouldHear_79 : decode cX0_wouldHear 79 = .ok (.iconst 1, 1) := do_4 (rdb (p := 64) (i := 15) ch_cX0_wouldHear_64 rfl)
theorem dX0_wouldHear_80 : decode cX0_wouldHear 80 = .ok (.aload 4, 2) := do_25 (rdb (p := 64) (i := 16) ch_cX0_wouldHear_64 rfl) (rdb (p := 64) (i := 17) ch_cX0_wouldHear_64 rfl)
theorem dX0_wouldHear_82 : decode cX0_wouldHear 82 = .ok (.invokevirtual 133, 3) := do_182 (rdb (p := 64) (i := 18) ch_cX0_wouldHear_64 rfl) (rdb (p := 64) (i := 19) ch_cX0_wouldHear_64 rfl) (rdb (p := 64) (i := 20) ch_cX0_wouldHear_64 rfl) rfl
theorem dX0_wouldHear_85 : decode cX0_wouldHear 85 = .ok (.iload 6, 2) := do_21 (rdb (p := 64) (i := 21) ch_cX0_wouldHear_64 rfl) (rdb (p := 64) (i := 22) ch_cX0_wouldHear_64 rfl)
theorem dX0_wouldHear_87 : decode cX0_wouldHear 87 = .ok (.iload 5, 2) := do_21 (rdb (p := 64) (i := 23) ch_cX0_wouldHear_64 rfl) (rdb (p := 64) (i := 24) ch_cX0_wouldHear_64 rfl)
theorem dX0_wouldHear_89 : decode cX0_wouldHear 89 = .ok (.invokevirtual 136, 3) := do_182 (rdb (p := 64) (i := 25) ch_cX0_wouldHear_64 rfl) (rdb (p := 64) (i := 26) ch_cX0_wouldHear_64 rfl) (rdb (p := 64) (i := 27) ch_cX0_wouldHear_64 rfl) rfl
theorem dX0_wouldHear_92 : decode cX0_wouldHear 92 = .ok (.ireturn, 1) := do_172 (rdb (p := 64) (i := 28) ch_cX0_wouldHear_64 rfl)
theorem dX0_wouldHear_93 : decode cX0_wouldHear 93 = .ok (.iinc 6 1, 3) := do_132 (rdb (p := 64) (i := 29) ch_cX0_wouldHear_64 rfl) (rdb (p := 64) (i := 30) ch_cX0_wouldHear_64 rfl) (rdb (p := 64) (i := 31) ch_cX0_wouldHear_64 rfl) (by decide +kernel)
theorem ch_cX0_wouldHear_96 : (cX0_wouldHear.data.toList.drop 96).take 36 = [167, 255, 191, 132, 5, 1, 167, 255, 175, 3, 172] := by decide +kernel
theorem dX0_wouldHear_96 : decode cX0_wouldHear 96 = .ok (.goto (-65), 3) := do_167 (rdb (p := 96) (i := 0) ch_cX0_wouldHear_96 rfl) (rdb (p := 96) (i := 1) ch_cX0_wouldHear_96 rfl) (rdb (p := 96) (i := 2) ch_cX0_wouldHear_96 rfl) (by decide +kernel)
theorem dX0_wouldHear_99 : decode cX0_wouldHear 99 = .ok (.iinc 5 1, 3) := do_132 (rdb (p := 96) (i := 3) ch_cX0_wouldHear_96 rfl) (rdb (p := 96) (i := 4) ch_cX0_wouldHear_96 rfl) (rdb (p := 96) (i := 5) ch_cX0_wouldHear_96 rfl) (by decide +kernel)
theorem dX0_wouldHear_102 : decode cX0_wouldHear 102 = .ok (.goto (-81), 3) := do_167 (rdb (p := 96) (i := 6) ch_cX0_wouldHear_96 rfl) (rdb (p := 96) (i := 7) ch_cX0_wouldHear_96 rfl) (rdb (p := 96) (i := 8) ch_cX0_wouldHear_96 rfl) (by decide +kernel)
theorem dX0_wouldHear_105 : decode cX0_wouldHear 105 = .ok (.iconst 0, 1) := do_3 (rdb (p := 96) (i := 9) ch_cX0_wouldHear_96 rfl)
theorem dX0_wouldHear_106 : decode cX0_wouldHear 106 = .ok (.ireturn, 1) := do_172 (rdb (p := 96) (i := 10) ch_cX0_wouldHear_96 rfl)
