/-! words of the tables that are used, by their places; decode rows; fields -/
theorem li_6 : (6 : Int32).toInt = 6 := by decide
theorem li_32 : (32 : Int32).toInt = 32 := by decide
theorem li_9999 : (9999 : Int32).toInt = 9999 := by decide
theorem m_460 : Cond.fieldLink RX11 16 "ClickStreet" "kept" "LClickStreet$World;" ∈ BASE := bmem 460 (by decide +kernel) rfl
theorem m_461 : Cond.fieldLink RX11 19 "ClickStreet" "trial" "LClickStreet$World;" ∈ BASE := bmem 461 (by decide +kernel) rfl
theorem m_465 : Cond.fieldLink RX11 42 "ClickStreet" "finder" "LClickStreet$Finder;" ∈ BASE := bmem 465 (by decide +kernel) rfl
theorem m_466 : Cond.fieldLink RX11 49 "ClickStreet" "voices" "LClickStreet$Voices;" ∈ BASE := bmem 466 (by decide +kernel) rfl
theorem m_467 : Cond.fieldLink RX11 53 "ClickStreet" "images" "I" ∈ BASE := bmem 467 (by decide +kernel) rfl
theorem m_669 : Cond.methodLink RX11 196 yX5_room ∈ BASE := bmem 669 (by decide +kernel) rfl
theorem m_670 : Cond.instanceMethod yX5_room ∈ BASE := bmem 670 (by decide +kernel) rfl
theorem m_671 : Cond.selects yX5_room.cls yX5_room yX5_room ∈ BASE := bmem 671 (by decide +kernel) rfl
theorem m_672 : Cond.code yX5_room cX5_room 1 (some .int) ∈ BASE := bmem 672 (by decide +kernel) rfl
theorem m_673 : Cond.methodLink RX11 201 yX5_add ∈ BASE := bmem 673 (by decide +kernel) rfl
theorem m_674 : Cond.instanceMethod yX5_add ∈ BASE := bmem 674 (by decide +kernel) rfl
theorem m_675 : Cond.selects yX5_add.cls yX5_add yX5_add ∈ BASE := bmem 675 (by decide +kernel) rfl
theorem m_676 : Cond.code yX5_add cX5_add 2 none ∈ BASE := bmem 676 (by decide +kernel) rfl
theorem m_831 : Cond.methodLink RX11 224 yX5_clear ∈ BASE := bmem 831 (by decide +kernel) rfl
theorem m_832 : Cond.instanceMethod yX5_clear ∈ BASE := bmem 832 (by decide +kernel) rfl
theorem m_833 : Cond.selects yX5_clear.cls yX5_clear yX5_clear ∈ BASE := bmem 833 (by decide +kernel) rfl
theorem m_834 : Cond.code yX5_clear cX5_clear 1 none ∈ BASE := bmem 834 (by decide +kernel) rfl
theorem m_978 : Cond.methodLink RX11 274 yX6_holdsFewCells ∈ BASE := bmem 978 (by decide +kernel) rfl
theorem m_979 : Cond.instanceMethod yX6_holdsFewCells ∈ BASE := bmem 979 (by decide +kernel) rfl
theorem m_980 : Cond.selects yX6_holdsFewCells.cls yX6_holdsFewCells yX6_holdsFewCells ∈ BASE := bmem 980 (by decide +kernel) rfl
theorem m_981 : Cond.code yX6_holdsFewCells cX6_holdsFewCells 2 (some .boolean) ∈ BASE := bmem 981 (by decide +kernel) rfl
theorem m_984 : Cond.methodLink RX11 277 yX6_hasTwoAlike ∈ BASE := bmem 984 (by decide +kernel) rfl
theorem m_985 : Cond.instanceMethod yX6_hasTwoAlike ∈ BASE := bmem 985 (by decide +kernel) rfl
theorem m_986 : Cond.selects yX6_hasTwoAlike.cls yX6_hasTwoAlike yX6_hasTwoAlike ∈ BASE := bmem 986 (by decide +kernel) rfl
theorem m_987 : Cond.code yX6_hasTwoAlike cX6_hasTwoAlike 3 (some .boolean) ∈ BASE := bmem 987 (by decide +kernel) rfl
theorem m_988 : Cond.methodLink RX11 280 yX0_chooseSpots ∈ BASE := bmem 988 (by decide +kernel) rfl
theorem m_989 : Cond.instanceMethod yX0_chooseSpots ∈ BASE := bmem 989 (by decide +kernel) rfl
theorem m_990 : Cond.selects yX0_chooseSpots.cls yX0_chooseSpots yX0_chooseSpots ∈ BASE := bmem 990 (by decide +kernel) rfl
theorem m_991 : Cond.code yX0_chooseSpots cX0_chooseSpots 8 (some .boolean) ∈ BASE := bmem 991 (by decide +kernel) rfl
theorem m_1025 : Cond.methodLink RX11 293 yX10_passTenth ∈ BASE := bmem 1025 (by decide +kernel) rfl
theorem m_1026 : Cond.instanceMethod yX10_passTenth ∈ BASE := bmem 1026 (by decide +kernel) rfl
theorem m_1027 : Cond.selects yX10_passTenth.cls yX10_passTenth yX10_passTenth ∈ BASE := bmem 1027 (by decide +kernel) rfl
theorem m_1028 : Cond.code yX10_passTenth cX10_passTenth 2 none ∈ BASE := bmem 1028 (by decide +kernel) rfl
theorem m_1071 : Cond.methodLink RX11 296 yX0_measure ∈ BASE := bmem 1071 (by decide +kernel) rfl
theorem m_1072 : Cond.instanceMethod yX0_measure ∈ BASE := bmem 1072 (by decide +kernel) rfl
theorem m_1073 : Cond.selects yX0_measure.cls yX0_measure yX0_measure ∈ BASE := bmem 1073 (by decide +kernel) rfl
theorem m_1074 : Cond.code yX0_measure cX0_measure 8 none ∈ BASE := bmem 1074 (by decide +kernel) rfl
theorem m_1085 : Cond.methodLink RX11 300 yX0_costFrom ∈ BASE := bmem 1085 (by decide +kernel) rfl
theorem m_1089 : Cond.methodLink RX11 303 yX0_cellAfter ∈ BASE := bmem 1089 (by decide +kernel) rfl
theorem m_1090 : Cond.instanceMethod yX0_cellAfter ∈ BASE := bmem 1090 (by decide +kernel) rfl
theorem m_1091 : Cond.selects yX0_cellAfter.cls yX0_cellAfter yX0_cellAfter ∈ BASE := bmem 1091 (by decide +kernel) rfl
theorem m_1092 : Cond.code yX0_cellAfter cX0_cellAfter 6 (some .int) ∈ BASE := bmem 1092 (by decide +kernel) rfl
theorem m_1102 : Cond.methodLink RX11 307 yX10_sureYards ∈ BASE := bmem 1102 (by decide +kernel) rfl
theorem m_1103 : Cond.instanceMethod yX10_sureYards ∈ BASE := bmem 1103 (by decide +kernel) rfl
theorem m_1104 : Cond.selects yX10_sureYards.cls yX10_sureYards yX10_sureYards ∈ BASE := bmem 1104 (by decide +kernel) rfl
theorem m_1105 : Cond.code yX10_sureYards cX10_sureYards 4 (some .int) ∈ BASE := bmem 1105 (by decide +kernel) rfl
theorem m_1114 : Cond.methodLink RX11 310 yX11_isBits ∈ BASE := bmem 1114 (by decide +kernel) rfl
theorem m_1115 : Cond.static yX11_isBits ∈ BASE := bmem 1115 (by decide +kernel) rfl
theorem m_1116 : Cond.code yX11_isBits cX11_isBits 1 (some .boolean) ∈ BASE := bmem 1116 (by decide +kernel) rfl
theorem m_1117 : Cond.methodLink RX11 317 yX3_hasRoom ∈ BASE := bmem 1117 (by decide +kernel) rfl
theorem m_1118 : Cond.instanceMethod yX3_hasRoom ∈ BASE := bmem 1118 (by decide +kernel) rfl
theorem m_1119 : Cond.selects yX3_hasRoom.cls yX3_hasRoom yX3_hasRoom ∈ BASE := bmem 1119 (by decide +kernel) rfl
theorem m_1120 : Cond.code yX3_hasRoom cX3_hasRoom 1 (some .boolean) ∈ BASE := bmem 1120 (by decide +kernel) rfl
theorem m_1121 : Cond.methodLink RX11 320 yX3_add ∈ BASE := bmem 1121 (by decide +kernel) rfl
theorem m_1122 : Cond.instanceMethod yX3_add ∈ BASE := bmem 1122 (by decide +kernel) rfl
theorem m_1123 : Cond.selects yX3_add.cls yX3_add yX3_add ∈ BASE := bmem 1123 (by decide +kernel) rfl
theorem m_1124 : Cond.code yX3_add cX3_add 5 (some .int) ∈ BASE := bmem 1124 (by decide +kernel) rfl
theorem m_1154 : Cond.methodLink RX11 331 yX5_get ∈ BASE := bmem 1154 (by decide +kernel) rfl
theorem m_1159 : Cond.methodLink RX11 334 yX0_choosePosts ∈ BASE := bmem 1159 (by decide +kernel) rfl
theorem m_1160 : Cond.instanceMethod yX0_choosePosts ∈ BASE := bmem 1160 (by decide +kernel) rfl
theorem m_1161 : Cond.selects yX0_choosePosts.cls yX0_choosePosts yX0_choosePosts ∈ BASE := bmem 1161 (by decide +kernel) rfl
theorem m_1162 : Cond.code yX0_choosePosts cX0_choosePosts 7 (some .boolean) ∈ BASE := bmem 1162 (by decide +kernel) rfl
theorem m_1175 : Cond.methodLink RX11 338 yJI_bitCount ∈ BASE := bmem 1175 (by decide +kernel) rfl
theorem m_1214 : Cond.methodLink RX11 356 yX5_has ∈ BASE := bmem 1214 (by decide +kernel) rfl
theorem m_1215 : Cond.instanceMethod yX5_has ∈ BASE := bmem 1215 (by decide +kernel) rfl
theorem m_1216 : Cond.selects yX5_has.cls yX5_has yX5_has ∈ BASE := bmem 1216 (by decide +kernel) rfl
theorem m_1217 : Cond.code yX5_has cX5_has 2 (some .boolean) ∈ BASE := bmem 1217 (by decide +kernel) rfl
theorem m_1222 : Cond.methodLink RX11 359 yX6_drop ∈ BASE := bmem 1222 (by decide +kernel) rfl
theorem m_1223 : Cond.instanceMethod yX6_drop ∈ BASE := bmem 1223 (by decide +kernel) rfl
theorem m_1224 : Cond.selects yX6_drop.cls yX6_drop yX6_drop ∈ BASE := bmem 1224 (by decide +kernel) rfl
theorem m_1225 : Cond.code yX6_drop cX6_drop 1 none ∈ BASE := bmem 1225 (by decide +kernel) rfl
theorem m_1226 : Cond.methodLink RX11 362 yX6_begin ∈ BASE := bmem 1226 (by decide +kernel) rfl
theorem m_1227 : Cond.instanceMethod yX6_begin ∈ BASE := bmem 1227 (by decide +kernel) rfl
theorem m_1228 : Cond.selects yX6_begin.cls yX6_begin yX6_begin ∈ BASE := bmem 1228 (by decide +kernel) rfl
theorem m_1229 : Cond.code yX6_begin cX6_begin 4 none ∈ BASE := bmem 1229 (by decide +kernel) rfl
theorem m_1236 : Cond.methodLink RX11 366 yX6_has ∈ BASE := bmem 1236 (by decide +kernel) rfl
theorem m_1237 : Cond.methodLink RX11 367 yX6_store ∈ BASE := bmem 1237 (by decide +kernel) rfl
theorem m_1238 : Cond.instanceMethod yX6_store ∈ BASE := bmem 1238 (by decide +kernel) rfl
theorem m_1239 : Cond.selects yX6_store.cls yX6_store yX6_store ∈ BASE := bmem 1239 (by decide +kernel) rfl
theorem m_1240 : Cond.code yX6_store cX6_store 3 none ∈ BASE := bmem 1240 (by decide +kernel) rfl
theorem m_1245 : Cond.methodLink RX11 370 yX6_hasRun ∈ BASE := bmem 1245 (by decide +kernel) rfl
theorem m_1246 : Cond.instanceMethod yX6_hasRun ∈ BASE := bmem 1246 (by decide +kernel) rfl
theorem m_1247 : Cond.selects yX6_hasRun.cls yX6_hasRun yX6_hasRun ∈ BASE := bmem 1247 (by decide +kernel) rfl
theorem m_1248 : Cond.code yX6_hasRun cX6_hasRun 3 (some .boolean) ∈ BASE := bmem 1248 (by decide +kernel) rfl
theorem m_1249 : Cond.methodLink RX11 376 arraycopyName ∈ BASE := bmem 1249 (by decide +kernel) rfl
theorem m_1254 : Cond.methodLink RX11 382 yX10_takeFrom ∈ BASE := bmem 1254 (by decide +kernel) rfl
theorem m_1255 : Cond.instanceMethod yX10_takeFrom ∈ BASE := bmem 1255 (by decide +kernel) rfl
theorem m_1256 : Cond.selects yX10_takeFrom.cls yX10_takeFrom yX10_takeFrom ∈ BASE := bmem 1256 (by decide +kernel) rfl
theorem m_1257 : Cond.code yX10_takeFrom cX10_takeFrom 3 none ∈ BASE := bmem 1257 (by decide +kernel) rfl
theorem m_1296 : Cond.methodLink RX11 388 yX7_countThings ∈ BASE := bmem 1296 (by decide +kernel) rfl
theorem m_1297 : Cond.instanceMethod yX7_countThings ∈ BASE := bmem 1297 (by decide +kernel) rfl
theorem m_1298 : Cond.selects yX7_countThings.cls yX7_countThings yX7_countThings ∈ BASE := bmem 1298 (by decide +kernel) rfl
theorem m_1299 : Cond.code yX7_countThings cX7_countThings 3 (some .int) ∈ BASE := bmem 1299 (by decide +kernel) rfl
theorem m_1300 : Cond.methodLink RX11 392 yX10_countBumps ∈ BASE := bmem 1300 (by decide +kernel) rfl
theorem m_1301 : Cond.instanceMethod yX10_countBumps ∈ BASE := bmem 1301 (by decide +kernel) rfl
theorem m_1302 : Cond.selects yX10_countBumps.cls yX10_countBumps yX10_countBumps ∈ BASE := bmem 1302 (by decide +kernel) rfl
theorem m_1303 : Cond.code yX10_countBumps cX10_countBumps 3 (some .int) ∈ BASE := bmem 1303 (by decide +kernel) rfl
theorem m_1304 : Cond.methodLink RX11 395 yX10_countClicks ∈ BASE := bmem 1304 (by decide +kernel) rfl
theorem m_1305 : Cond.instanceMethod yX10_countClicks ∈ BASE := bmem 1305 (by decide +kernel) rfl
theorem m_1306 : Cond.selects yX10_countClicks.cls yX10_countClicks yX10_countClicks ∈ BASE := bmem 1306 (by decide +kernel) rfl
theorem m_1307 : Cond.code yX10_countClicks cX10_countClicks 3 (some .int) ∈ BASE := bmem 1307 (by decide +kernel) rfl
theorem kS_X11_isBits : KS yX11_isBits cX11_isBits 1 (some .boolean) 1 := ⟨m_1115, m_79, m_1116, by decide +kernel, by decide +kernel, by decide +kernel⟩
theorem kV_X0_cellAfter : KV yX0_cellAfter cX0_cellAfter 6 (some .int) 3 := ⟨m_1090, m_1091, m_89, m_1092, by decide +kernel, by decide +kernel, by decide +kernel⟩
theorem kV_X0_choosePosts : KV yX0_choosePosts cX0_choosePosts 7 (some .boolean) 4 := ⟨m_1160, m_1161, m_89, m_1162, by decide +kernel, by decide +kernel, by decide +kernel⟩
theorem kV_X0_chooseSpots : KV yX0_chooseSpots cX0_chooseSpots 8 (some .boolean) 4 := ⟨m_989, m_990, m_89, m_991, by decide +kernel, by decide +kernel, by decide +kernel⟩
theorem kV_X0_measure : KV yX0_measure cX0_measure 8 none 2 := ⟨m_1072, m_1073, m_89, m_1074, by decide +kernel, by decide +kernel, by decide +kernel⟩
theorem kV_X10_countBumps : KV yX10_countBumps cX10_countBumps 3 (some .int) 0 := ⟨m_1301, m_1302, m_80, m_1303, by decide +kernel, by decide +kernel, by decide +kernel⟩
theorem kV_X10_countClicks : KV yX10_countClicks cX10_countClicks 3 (some .int) 0 := ⟨m_1305, m_1306, m_80, m_1307, by decide +kernel, by decide +kernel, by decide +kernel⟩
theorem kV_X10_passTenth : KV yX10_passTenth cX10_passTenth 2 none 0 := ⟨m_1026, m_1027, m_80, m_1028, by decide +kernel, by decide +kernel, by decide +kernel⟩
theorem kV_X10_sureYards : KV yX10_sureYards cX10_sureYards 4 (some .int) 1 := ⟨m_1103, m_1104, m_80, m_1105, by decide +kernel, by decide +kernel, by decide +kernel⟩
theorem kV_X10_takeFrom : KV yX10_takeFrom cX10_takeFrom 3 none 1 := ⟨m_1255, m_1256, m_80, m_1257, by decide +kernel, by decide +kernel, by decide +kernel⟩
theorem kV_X3_add : KV yX3_add cX3_add 5 (some .int) 3 := ⟨m_1122, m_1123, m_84, m_1124, by decide +kernel, by decide +kernel, by decide +kernel⟩
theorem kV_X3_hasRoom : KV yX3_hasRoom cX3_hasRoom 1 (some .boolean) 0 := ⟨m_1118, m_1119, m_84, m_1120, by decide +kernel, by decide +kernel, by decide +kernel⟩
theorem kV_X5_add : KV yX5_add cX5_add 2 none 1 := ⟨m_674, m_675, m_85, m_676, by decide +kernel, by decide +kernel, by decide +kernel⟩
theorem kV_X5_clear : KV yX5_clear cX5_clear 1 none 0 := ⟨m_832, m_833, m_85, m_834, by decide +kernel, by decide +kernel, by decide +kernel⟩
theorem kV_X5_has : KV yX5_has cX5_has 2 (some .boolean) 1 := ⟨m_1215, m_1216, m_85, m_1217, by decide +kernel, by decide +kernel, by decide +kernel⟩
theorem kV_X5_room : KV yX5_room cX5_room 1 (some .int) 0 := ⟨m_670, m_671, m_85, m_672, by decide +kernel, by decide +kernel, by decide +kernel⟩
theorem kV_X6_begin : KV yX6_begin cX6_begin 4 none 2 := ⟨m_1227, m_1228, m_91, m_1229, by decide +kernel, by decide +kernel, by decide +kernel⟩
theorem kV_X6_drop : KV yX6_drop cX6_drop 1 none 0 := ⟨m_1223, m_1224, m_91, m_1225, by decide +kernel, by decide +kernel, by decide +kernel⟩
theorem kV_X6_hasRun : KV yX6_hasRun cX6_hasRun 3 (some .boolean) 2 := ⟨m_1246, m_1247, m_91, m_1248, by decide +kernel, by decide +kernel, by decide +kernel⟩
theorem kV_X6_hasTwoAlike : KV yX6_hasTwoAlike cX6_hasTwoAlike 3 (some .boolean) 0 := ⟨m_985, m_986, m_91, m_987, by decide +kernel, by decide +kernel, by decide +kernel⟩
theorem kV_X6_holdsFewCells : KV yX6_holdsFewCells cX6_holdsFewCells 2 (some .boolean) 0 := ⟨m_979, m_980, m_91, m_981, by decide +kernel, by decide +kernel, by decide +kernel⟩
theorem kV_X6_store : KV yX6_store cX6_store 3 none 2 := ⟨m_1238, m_1239, m_91, m_1240, by decide +kernel, by decide +kernel, by decide +kernel⟩
theorem kV_X7_countThings : KV yX7_countThings cX7_countThings 3 (some .int) 0 := ⟨m_1297, m_1298, m_81, m_1299, by decide +kernel, by decide +kernel, by decide +kernel⟩
theorem fl_RX11_16 : FLK RX11 16 11 1 (.object "ClickStreet$World") true := ⟨RX11, TX11, 9, tyX11, rfl, inB11, tyX11_ok, nmX11, by decide, rfl, rfl, Or.inl m_460⟩
theorem fl_RX11_19 : FLK RX11 19 11 2 (.object "ClickStreet$World") true := ⟨RX11, TX11, 9, tyX11, rfl, inB11, tyX11_ok, nmX11, by decide, rfl, rfl, Or.inl m_461⟩
theorem fl_RX11_192 : FLK RX11 192 10 3 (.object "ClickStreet$Row") true := ⟨RX10, TX10, 8, tyX10, rfl, inB10, tyX10_ok, nmX10, by decide, rfl, rfl, Or.inr ⟨"ClickStreet", List.mem_of_getElem? (l := NFs) (i := 35) rfl⟩⟩
theorem fl_RX11_205 : FLK RX11 205 5 1 .int false := ⟨RX5, TX5, 2, tyX5, rfl, inB5, tyX5_ok, nmX5, by decide, rfl, rfl, Or.inr ⟨"ClickStreet", List.mem_of_getElem? (l := NFs) (i := 9) rfl⟩⟩
theorem fl_RX11_284 : FLK RX11 284 0 4 .int false := ⟨RX0, TX0, 6, tyX0, rfl, inB0, tyX0_ok, nmX0, by decide, rfl, rfl, Or.inr ⟨"ClickStreet", List.mem_of_getElem? (l := NFs) (i := 42) rfl⟩⟩
theorem fl_RX11_287 : FLK RX11 287 0 5 .int false := ⟨RX0, TX0, 6, tyX0, rfl, inB0, tyX0_ok, nmX0, by decide, rfl, rfl, Or.inr ⟨"ClickStreet", List.mem_of_getElem? (l := NFs) (i := 43) rfl⟩⟩
theorem fl_RX11_290 : FLK RX11 290 10 7 .int false := ⟨RX10, TX10, 8, tyX10, rfl, inB10, tyX10_ok, nmX10, by decide, rfl, rfl, Or.inr ⟨"ClickStreet", List.mem_of_getElem? (l := NFs) (i := 40) rfl⟩⟩
theorem fl_RX11_313 : FLK RX11 313 10 2 (.object "ClickStreet$Lessons") true := ⟨RX10, TX10, 8, tyX10, rfl, inB10, tyX10_ok, nmX10, by decide, rfl, rfl, Or.inr ⟨"ClickStreet", List.mem_of_getElem? (l := NFs) (i := 34) rfl⟩⟩
theorem fl_RX11_353 : FLK RX11 353 8 1 (.object "ClickStreet$Row") true := ⟨RX8, TX8, 6, tyX8, rfl, inB8, tyX8_ok, nmX8, by decide, rfl, rfl, Or.inr ⟨"ClickStreet", List.mem_of_getElem? (l := NFs) (i := 44) rfl⟩⟩
theorem fl_RX11_373 : FLK RX11 373 6 2 (.array .int) true := ⟨RX6, TX6, 3, tyX6, rfl, inB6, tyX6_ok, nmX6, by decide, rfl, rfl, Or.inr ⟨"ClickStreet", List.mem_of_getElem? (l := NFs) (i := 49) rfl⟩⟩
theorem fl_RX11_385 : FLK RX11 385 10 4 (.object "ClickStreet$Row") true := ⟨RX10, TX10, 8, tyX10, rfl, inB10, tyX10_ok, nmX10, by decide, rfl, rfl, Or.inr ⟨"ClickStreet", List.mem_of_getElem? (l := NFs) (i := 36) rfl⟩⟩
theorem fl_RX11_391 : FLK RX11 391 3 3 .int false := ⟨RX3, TX3, 9, tyX3, rfl, inB3, tyX3_ok, nmX3, by decide, rfl, rfl, Or.inr ⟨"ClickStreet", List.mem_of_getElem? (l := NFs) (i := 10) rfl⟩⟩
theorem fl_RX11_42 : FLK RX11 42 11 6 (.object "ClickStreet$Finder") true := ⟨RX11, TX11, 9, tyX11, rfl, inB11, tyX11_ok, nmX11, by decide, rfl, rfl, Or.inl m_465⟩
theorem fl_RX11_49 : FLK RX11 49 11 7 (.object "ClickStreet$Voices") true := ⟨RX11, TX11, 9, tyX11, rfl, inB11, tyX11_ok, nmX11, by decide, rfl, rfl, Or.inl m_466⟩
theorem fl_RX11_53 : FLK RX11 53 11 8 .int false := ⟨RX11, TX11, 9, tyX11, rfl, inB11, tyX11_ok, nmX11, by decide, rfl, rfl, Or.inl m_467⟩
theorem ch_cX11_check_0 : (cX11_check.data.toList.drop 0).take 36 = [42, 180, 0, 10, 27, 182, 0, 154, 154, 0, 19, 42, 180, 0, 10, 180, 1, 129, 182, 0, 224, 42, 4, 182, 0, 67, 172, 42, 180, 0, 19, 42, 180, 0, 10, 182] := by decide +kernel
theorem dX11_check_0 : decode cX11_check 0 = .ok (.aload_n 0, 1) := do_42 (rdb (p := 0) (i := 0) ch_cX11_check_0 rfl)
theorem dX11_check_1 : decode cX11_check 1 = .ok (.getfield 10, 3) := do_180 (rdb (p := 0) (i := 1) ch_cX11_check_0 rfl) (rdb (p := 0) (i := 2) ch_cX11_check_0 rfl) (rdb (p := 0) (i := 3) ch_cX11_check_0 rfl) rfl
theorem dX11_check_4 : decode cX11_check 4 = .ok (.iload_n 1, 1) := do_27 (rdb (p := 0) (i := 4) ch_cX11_check_0 rfl)
theorem dX11_check_5 : decode cX11_check 5 = .ok (.invokevirtual 154, 3) := do_182 (rdb (p := 0) (i := 5) ch_cX11_check_0 rfl) (rdb (p := 0) (i := 6) ch_cX11_check_0 rfl) (rdb (p := 0) (i := 7) ch_cX11_check_0 rfl) rfl
theorem dX11_check_8 : decode cX11_check 8 = .ok (.ifCond .ne 19, 3) := do_154 (rdb (p := 0) (i := 8) ch_cX11_check_0 rfl) (rdb (p := 0) (i := 9) ch_cX11_check_0 rfl) (rdb (p := 0) (i := 10) ch_cX11_check_0 rfl) (by decide +kernel)
theorem dX11_check_11 : decode cX11_check 11 = .ok (.aload_n 0, 1) := do_42 (rdb (p := 0) (i := 11) ch_cX11_check_0 rfl)
theorem dX11_check_12 : decode cX11_check 12 = .ok (.getfield 10, 3) := do_180 (rdb (p := 0) (i := 12) ch_cX11_check_0 rfl) (rdb (p := 0) (i := 13) ch_cX11_check_0 rfl) (rdb (p := 0) (i := 14) ch_cX11_check_0 rfl) rfl
theorem dX11_check_15 : decode cX11_check 15 = .ok (.getfield 385, 3) := do_180 (rdb (p := 0) (i := 15) ch_cX11_check_0 rfl) (rdb (p := 0) (i := 16) ch_cX11_check_0 rfl) (rdb (p := 0) (i := 17) ch_cX11_check_0 rfl) rfl
theorem dX11_check_18 : decode cX11_check 18 = .ok (.invokevirtual 224, 3) := do_182 (rdb (p := 0) (i := 18) ch_cX11_check_0 rfl) (rdb (p := 0) (i := 19) ch_cX11_check_0 rfl) (rdb (p := 0) (i := 20) ch_cX11_check_0 rfl) rfl
theorem dX11_check_21 : decode cX11_check 21 = .ok (.aload_n 0, 1) := do_42 (rdb (p := 0) (i := 21) ch_cX11_check_0 rfl)
theorem dX11_check_22 : decode cX11_check 22 = .ok (.iconst 1, 1) := do_4 (rdb (p := 0) (i := 22) ch_cX11_check_0 rfl)
theorem dX11_check_23 : decode cX11_check 23 = .ok (.invokevirtual 67, 3) := do_182 (rdb (p := 0) (i := 23) ch_cX11_check_0 rfl) (rdb (p := 0) (i := 24) ch_cX11_check_0 rfl) (rdb (p := 0) (i := 25) ch_cX11_check_0 rfl) rfl
theorem dX11_check_26 : decode cX11_check 26 = .ok (.ireturn, 1) := do_172 (rdb (p := 0) (i := 26) ch_cX11_check_0 rfl)
theorem dX11_check_27 : decode cX11_check 27 = .ok (.aload_n 0, 1) := do_42 (rdb (p := 0) (i := 27) ch_cX11_check_0 rfl)
theorem dX11_check_28 : decode cX11_check 28 = .ok (.getfield 19, 3) := do_180 (rdb (p := 0) (i := 28) ch_cX11_check_0 rfl) (rdb (p := 0) (i := 29) ch_cX11_check_0 rfl) (rdb (p := 0) (i := 30) ch_cX11_check_0 rfl) rfl
theorem dX11_check_31 : decode cX11_check 31 = .ok (.aload_n 0, 1) := do_42 (rdb (p := 0) (i := 31) ch_cX11_check_0 rfl)
theorem ch_cX11_check_32 : (cX11_check.data.toList.drop 32).take 36 = [180, 0, 10, 182, 1, 126, 42, 180, 0, 10, 180, 1, 129, 182, 0, 224, 3, 61, 28, 42, 180, 0, 19, 180, 1, 129, 180, 0, 205, 162, 0, 46, 42, 180, 0, 19] := by decide +kernel
theorem dX11_check_32 : decode cX11_check 32 = .ok (.getfield 10, 3) := do_180 (rdb (p := 32) (i := 0) ch_cX11_check_32 rfl) (rdb (p := 32) (i := 1) ch_cX11_check_32 rfl) (rdb (p := 32) (i := 2) ch_cX11_check_32 rfl) rfl
theorem dX11_check_35 : decode cX11_check 35 = .ok (.invokevirtual 382, 3) := do_182 (rdb (p := 32) (i := 3) ch_cX11_check_32 rfl) (rdb (p := 32) (i := 4) ch_cX11_check_32 rfl) (rdb (p := 32) (i := 5) ch_cX11_check_32 rfl) rfl
theorem dX11_check_38 : decode cX11_check 38 = .ok (.aload_n 0, 1) := do_42 (rdb (p := 32) (i := 6) ch_cX11_check_32 rfl)
theorem dX11_check_39 : decode cX11_check 39 = .ok (.getfield 10, 3) := do_180 (rdb (p := 32) (i := 7) ch_cX11_check_32 rfl) (rdb (p := 32) (i := 8) ch_cX11_check_32 rfl) (rdb (p := 32) (i := 9) ch_cX11_check_32 rfl) rfl
theorem dX11_check_42 : decode cX11_check 42 = .ok (.getfield 385, 3) := do_180 (rdb (p := 32) (i := 10) ch_cX11_check_32 rfl) (rdb (p := 32) (i := 11) ch_cX11_check_32 rfl) (rdb (p := 32) (i := 12) ch_cX11_check_32 rfl) rfl
theorem dX11_check_45 : decode cX11_check 45 = .ok (.invokevirtual 224, 3) := do_182 (rdb (p := 32) (i := 13) ch_cX11_check_32 rfl) (rdb (p := 32) (i := 14) ch_cX11_check_32 rfl) (rdb (p := 32) (i := 15) ch_cX11_check_32 rfl) rfl
theorem dX11_check_48 : decode cX11_check 48 = .ok (.iconst 0, 1) := do_3 (rdb (p := 32) (i := 16) ch_cX11_check_32 rfl)
theorem dX11_check_49 : decode cX11_check 49 = .ok (.istore_n 2, 1) := do_61 (rdb (p := 32) (i := 17) ch_cX11_check_32 rfl)
theorem dX11_check_50 : decode cX11_check 50 = .ok (.iload_n 2, 1) := do_28 (rdb (p := 32) (i := 18) ch_cX11_check_32 rfl)
theorem dX11_check_51 : decode cX11_check 51 = .ok (.aload_n 0, 1) := do_42 (rdb (p := 32) (i := 19) ch_cX11_check_32 rfl)
theorem dX11_check_52 : decode cX11_check 52 = .ok (.getfield 19, 3) := do_180 (rdb (p := 32) (i := 20) ch_cX11_check_32 rfl) (rdb (p := 32) (i := 21) ch_cX11_check_32 rfl) (rdb (p := 32) (i := 22) ch_cX11_check_32 rfl) rfl
theorem dX11_check_55 : decode cX11_check 55 = .ok (.getfield 385, 3) := do_180 (rdb (p := 32) (i := 23) ch_cX11_check_32 rfl) (rdb (p := 32) (i := 24) ch_cX11_check_32 rfl) (rdb (p := 32) (i := 25) ch_cX11_check_32 rfl) rfl
theorem dX11_check_58 : decode cX11_check 58 = .ok (.getfield 205, 3) := do_180 (rdb (p := 32) (i := 26) ch_cX11_check_32 rfl) (rdb (p := 32) (i := 27) ch_cX11_check_32 rfl) (rdb (p := 32) (i := 28) ch_cX11_check_32 rfl) rfl
theorem dX11_check_61 : decode cX11_check 61 = .ok (.if_icmp .ge 46, 3) := do_162 (rdb (p := 32) (i := 29) ch_cX11_check_32 rfl) (rdb (p := 32) (i := 30) ch_cX11_check_32 rfl) (rdb (p := 32) (i := 31) ch_cX11_check_32 rfl) (by decide +kernel)
theorem ch_cX11_check_64 : (cX11_check.data.toList.drop 64).take 36 = [42, 180, 0, 19, 182, 1, 37, 42, 180, 0, 19, 180, 0, 157, 27, 50, 180, 0, 229, 42, 180, 0, 19, 180, 1, 129, 28, 182, 1, 75, 159, 0, 7, 4, 28, 96] := by decide +kernel
theorem dX11_check_64 : decode cX11_check 64 = .ok (.aload_n 0, 1) := do_42 (rdb (p := 64) (i := 0) ch_cX11_check_64 rfl)
theorem dX11_check_65 : decode cX11_check 65 = .ok (.getfield 19, 3) := do_180 (rdb (p := 64) (i := 1) ch_cX11_check_64 rfl) (rdb (p := 64) (i := 2) ch_cX11_check_64 rfl) (rdb (p := 64) (i := 3) ch_cX11_check_64 rfl) rfl
theorem dX11_check_68 : decode cX11_check 68 = .ok (.invokevirtual 293, 3) := do_182 (rdb (p := 64) (i := 4) ch_cX11_check_64 rfl) (rdb (p := 64) (i := 5) ch_cX11_check_64 rfl) (rdb (p := 64) (i := 6) ch_cX11_check_64 rfl) rfl
theorem dX11_check_71 : decode cX11_check 71 = .ok (.aload_n 0, 1) := do_42 (rdb (p := 64) (i := 7) ch_cX11_check_64 rfl)
theorem dX11_check_72 : decode cX11_check 72 = .ok (.getfield 19, 3) := do_180 (rdb (p := 64) (i := 8) ch_cX11_check_64 rfl) (rdb (p := 64) (i := 9) ch_cX11_check_64 rfl) (rdb (p := 64) (i := 10) ch_cX11_check_64 rfl) rfl
theorem dX11_check_75 : decode cX11_check 75 = .ok (.getfield 157, 3) := do_180 (rdb (p := 64) (i := 11) ch_cX11_check_64 rfl) (rdb (p := 64) (i := 12) ch_cX11_check_64 rfl) (rdb (p := 64) (i := 13) ch_cX11_check_64 rfl) rfl
theorem dX11_check_78 : decode cX11_check 78 = .ok (.iload_n 1, 1) := do_27 (rdb (p := 64) (i := 14) ch_cX11_check_64 rfl)
theorem dX11_check_79 : decode cX11_check 79 = .ok (.aaload, 1) := do_50 (rdb (p := 64) (i := 15) ch_cX11_check_64 rfl)
theorem dX11_check_80 : decode cX11_check 80 = .ok (.getfield 229, 3) := do_180 (rdb (p := 64) (i := 16) ch_cX11_check_64 rfl) (rdb (p := 64) (i := 17) ch_cX11_check_64 rfl) (rdb (p := 64) (i := 18) ch_cX11_check_64 rfl) rfl
theorem dX11_check_83 : decode cX11_check 83 = .ok (.aload_n 0, 1) := do_42 (rdb (p := 64) (i := 19) ch_cX11_check_64 rfl)
theorem dX11_check_84 : decode cX11_check 84 = .ok (.getfield 19, 3) := do_180 (rdb (p := 64) (i := 20) ch_cX11_check_64 rfl) (rdb (p := 64) (i := 21) ch_cX11_check_64 rfl) (rdb (p := 64) (i := 22) ch_cX11_check_64 rfl) rfl
theorem dX11_check_87 : decode cX11_check 87 = .ok (.getfield 385, 3) := do_180 (rdb (p := 64) (i := 23) ch_cX11_check_64 rfl) (rdb (p := 64) (i := 24) ch_cX11_check_64 rfl) (rdb (p := 64) (i := 25) ch_cX11_check_64 rfl) rfl
theorem dX11_check_90 : decode cX11_check 90 = .ok (.iload_n 2, 1) := do_28 (rdb (p := 64) (i := 26) ch_cX11_check_64 rfl)
theorem dX11_check_91 : decode cX11_check 91 = .ok (.invokevirtual 331, 3) := do_182 (rdb (p := 64) (i := 27) ch_cX11_check_64 rfl) (rdb (p := 64) (i := 28) ch_cX11_check_64 rfl) (rdb (p := 64) (i := 29) ch_cX11_check_64 rfl) rfl
theorem dX11_check_94 : decode cX11_check 94 = .ok (.if_icmp .eq 7, 3) := do_159 (rdb (p := 64) (i := 30) ch_cX11_check_64 rfl) (rdb (p := 64) (i := 31) ch_cX11_check_64 rfl) (rdb (p := 64) (i := 32) ch_cX11_check_64 rfl) (by decide +kernel)
theorem ch_cX11_check_96 : (cX11_check.data.toList.drop 96).take 36 = [7, 4, 28, 96, 172, 132, 2, 1, 167, 255, 202, 3, 172] := by decide +kernel
theorem dX11_check_97 : decode cX11_check 97 = .ok (.iconst 1, 1) := do_4 (rdb (p := 96) (i := 1) ch_cX11_check_96 rfl)
theorem dX11_check_98 : decode cX11_check 98 = .ok (.iload_n 2, 1) := do_28 (rdb (p := 96) (i := 2) ch_cX11_check_96 rfl)
theorem dX11_check_99 : decode cX11_check 99 = .ok (.iadd, 1) := do_96 (rdb (p := 96) (i := 3) ch_cX11_check_96 rfl)
theorem dX11_check_100 : decode cX11_check 100 = .ok (.ireturn, 1) := do_172 (rdb (p := 96) (i := 4) ch_cX11_check_96 rfl)
theorem dX11_check_101 : decode cX11_check 101 = .ok (.iinc 2 1, 3) := do_132 (rdb (p := 96) (i := 5) ch_cX11_check_96 rfl) (rdb (p := 96) (i := 6) ch_cX11_check_96 rfl) (rdb (p := 96) (i := 7) ch_cX11_check_96 rfl) (by decide +kernel)
theorem dX11_check_104 : decode cX11_check 104 = .ok (.goto (-54), 3) := do_167 (rdb (p := 96) (i := 8) ch_cX11_check_96 rfl) (rdb (p := 96) (i := 9) ch_cX11_check_96 rfl) (rdb (p := 96) (i := 10) ch_cX11_check_96 rfl) (by decide +kernel)
theorem dX11_check_107 : decode cX11_check 107 = .ok (.iconst 0, 1) := do_3 (rdb (p := 96) (i := 11) ch_cX11_check_96 rfl)
theorem dX11_check_108 : decode cX11_check 108 = .ok (.ireturn, 1) := do_172 (rdb (p := 96) (i := 12) ch_cX11_check_96 rfl)
theorem ch_cX11_count_0 : (cX11_count.data.toList.drop 0).take 36 = [27, 170, 0, 0, 0, 0, 0, 138, 0, 0, 0, 0, 0, 0, 0, 8, 0, 0, 0, 51, 0, 0, 0, 59, 0, 0, 0, 70, 0, 0, 0, 78, 0, 0, 0, 89] := by decide +kernel
theorem dX11_count_0 : decode cX11_count 0 = .ok (.iload_n 1, 1) := do_27 (rdb (p := 0) (i := 0) ch_cX11_count_0 rfl)
theorem dX11_count_1 : decode cX11_count 1 = .ok (.tableswitch 138 0 8 #[51, 59, 70, 78, 89, 100, 111, 122, 130], 51) := by decide +kernel
theorem ch_cX11_count_32 : (cX11_count.data.toList.drop 32).take 36 = [0, 0, 0, 89, 0, 0, 0, 100, 0, 0, 0, 111, 0, 0, 0, 122, 0, 0, 0, 130, 42, 180, 0, 10, 180, 1, 34, 172, 42, 180, 0, 10, 180, 0, 71, 182] := by decide +kernel
theorem dX11_count_52 : decode cX11_count 52 = .ok (.aload_n 0, 1) := do_42 (rdb (p := 32) (i := 20) ch_cX11_count_32 rfl)
theorem dX11_count_53 : decode cX11_count 53 = .ok (.getfield 10, 3) := do_180 (rdb (p := 32) (i := 21) ch_cX11_count_32 rfl) (rdb (p := 32) (i := 22) ch_cX11_count_32 rfl) (rdb (p := 32) (i := 23) ch_cX11_count_32 rfl) rfl
theorem dX11_count_56 : decode cX11_count 56 = .ok (.getfield 290, 3) := do_180 (rdb (p := 32) (i := 24) ch_cX11_count_32 rfl) (rdb (p := 32) (i := 25) ch_cX11_count_32 rfl) (rdb (p := 32) (i := 26) ch_cX11_count_32 rfl) rfl
theorem dX11_count_59 : decode cX11_count 59 = .ok (.ireturn, 1) := do_172 (rdb (p := 32) (i := 27) ch_cX11_count_32 rfl)
theorem dX11_count_60 : decode cX11_count 60 = .ok (.aload_n 0, 1) := do_42 (rdb (p := 32) (i := 28) ch_cX11_count_32 rfl)
theorem dX11_count_61 : decode cX11_count 61 = .ok (.getfield 10, 3) := do_180 (rdb (p := 32) (i := 29) ch_cX11_count_32 rfl) (rdb (p := 32) (i := 30) ch_cX11_count_32 rfl) (rdb (p := 32) (i := 31) ch_cX11_count_32 rfl) rfl
theorem ch_cX11_count_64 : (cX11_count.data.toList.drop 64).take 36 = [180, 0, 71, 182, 1, 132, 172, 42, 180, 0, 10, 180, 0, 148, 172, 42, 180, 0, 10, 180, 1, 57, 180, 1, 135, 172, 42, 180, 0, 10, 180, 0, 192, 180, 0, 205] := by decide +kernel
theorem dX11_count_64 : decode cX11_count 64 = .ok (.getfield 71, 3) := do_180 (rdb (p := 64) (i := 0) ch_cX11_count_64 rfl) (rdb (p := 64) (i := 1) ch_cX11_count_64 rfl) (rdb (p := 64) (i := 2) ch_cX11_count_64 rfl) rfl
theorem dX11_count_67 : decode cX11_count 67 = .ok (.invokevirtual 388, 3) := do_182 (rdb (p := 64) (i := 3) ch_cX11_count_64 rfl) (rdb (p := 64) (i := 4) ch_cX11_count_64 rfl) (rdb (p := 64) (i := 5) ch_cX11_count_64 rfl) rfl
theorem dX11_count_70 : decode cX11_count 70 = .ok (.ireturn, 1) := do_172 (rdb (p := 64) (i := 6) ch_cX11_count_64 rfl)
theorem dX11_count_71 : decode cX11_count 71 = .ok (.aload_n 0, 1) := do_42 (rdb (p := 64) (i := 7) ch_cX11_count_64 rfl)
theorem dX11_count_72 : decode cX11_count 72 = .ok (.getfield 10, 3) := do_180 (rdb (p := 64) (i := 8) ch_cX11_count_64 rfl) (rdb (p := 64) (i := 9) ch_cX11_count_64 rfl) (rdb (p := 64) (i := 10) ch_cX11_count_64 rfl) rfl
theorem dX11_count_75 : decode cX11_count 75 = .ok (.getfield 148, 3) := do_180 (rdb (p := 64) (i := 11) ch_cX11_count_64 rfl) (rdb (p := 64) (i := 12) ch_cX11_count_64 rfl) (rdb (p := 64) (i := 13) ch_cX11_count_64 rfl) rfl
theorem dX11_count_78 : decode cX11_count 78 = .ok (.ireturn, 1) := do_172 (rdb (p := 64) (i := 14) ch_cX11_count_64 rfl)
theorem dX11_count_79 : decode cX11_count 79 = .ok (.aload_n 0, 1) := do_42 (rdb (p := 64) (i := 15) ch_cX11_count_64 rfl)
theorem dX11_count_80 : decode cX11_count 80 = .ok (.getfield 10, 3) := do_180 (rdb (p := 64) (i := 16) ch_cX11_count_64 rfl) (rdb (p := 64) (i := 17) ch_cX11_count_64 rfl) (rdb (p := 64) (i := 18) ch_cX11_count_64 rfl) rfl
theorem dX11_count_83 : decode cX11_count 83 = .ok (.getfield 313, 3) := do_180 (rdb (p := 64) (i := 19) ch_cX11_count_64 rfl) (rdb (p := 64) (i := 20) ch_cX11_count_64 rfl) (rdb (p := 64) (i := 21) ch_cX11_count_64 rfl) rfl
theorem dX11_count_86 : decode cX11_count 86 = .ok (.getfield 391, 3) := do_180 (rdb (p := 64) (i := 22) ch_cX11_count_64 rfl) (rdb (p := 64) (i := 23) ch_cX11_count_64 rfl) (rdb (p := 64) (i := 24) ch_cX11_count_64 rfl) rfl
theorem dX11_count_89 : decode cX11_count 89 = .ok (.ireturn, 1) := do_172 (rdb (p := 64) (i := 25) ch_cX11_count_64 rfl)
theorem dX11_count_90 : decode cX11_count 90 = .ok (.aload_n 0, 1) := do_42 (rdb (p := 64) (i := 26) ch_cX11_count_64 rfl)
theorem dX11_count_91 : decode cX11_count 91 = .ok (.getfield 10, 3) := do_180 (rdb (p := 64) (i := 27) ch_cX11_count_64 rfl) (rdb (p := 64) (i := 28) ch_cX11_count_64 rfl) (rdb (p := 64) (i := 29) ch_cX11_count_64 rfl) rfl
theorem dX11_count_94 : decode cX11_count 94 = .ok (.getfield 192, 3) := do_180 (rdb (p := 64) (i := 30) ch_cX11_count_64 rfl) (rdb (p := 64) (i := 31) ch_cX11_count_64 rfl) (rdb (p := 64) (i := 32) ch_cX11_count_64 rfl) rfl
theorem ch_cX11_count_96 : (cX11_count.data.toList.drop 96).take 36 = [192, 180, 0, 205, 172, 42, 180, 0, 10, 180, 1, 129, 180, 0, 205, 172, 42, 180, 0, 49, 180, 1, 97, 180, 0, 205, 172, 42, 180, 0, 10, 182, 1, 136, 172, 42] := by decide +kernel
theorem dX11_count_97 : decode cX11_count 97 = .ok (.getfield 205, 3) := do_180 (rdb (p := 96) (i := 1) ch_cX11_count_96 rfl) (rdb (p := 96) (i := 2) ch_cX11_count_96 rfl) (rdb (p := 96) (i := 3) ch_cX11_count_96 rfl) rfl
theorem dX11_count_100 : decode cX11_count 100 = .ok (.ireturn, 1) := do_172 (rdb (p := 96) (i := 4) ch_cX11_count_96 rfl)
theorem dX11_count_101 : decode cX11_count 101 = .ok (.aload_n 0, 1) := do_42 (rdb (p := 96) (i := 5) ch_cX11_count_96 rfl)
theorem dX11_count_102 : decode cX11_count 102 = .ok (.getfield 10, 3) := do_180 (rdb (p := 96) (i := 6) ch_cX11_count_96 rfl) (rdb (p := 96) (i := 7) ch_cX11_count_96 rfl) (rdb (p := 96) (i := 8) ch_cX11_count_96 rfl) rfl
theorem dX11_count_105 : decode cX11_count 105 = .ok (.getfield 385, 3) := do_180 (rdb (p := 96) (i := 9) ch_cX11_count_96 rfl) (rdb (p := 96) (i := 10) ch_cX11_count_96 rfl) (rdb (p := 96) (i := 11) ch_cX11_count_96 rfl) rfl
theorem dX11_count_108 : decode cX11_count 108 = .ok (.getfield 205, 3) := do_180 (rdb (p := 96) (i := 12) ch_cX11_count_96 rfl) (rdb (p := 96) (i := 13) ch_cX11_count_96 rfl) (rdb (p := 96) (i := 14) ch_cX11_count_96 rfl) rfl
theorem dX11_count_111 : decode cX11_count 111 = .ok (.ireturn, 1) := do_172 (rdb (p := 96) (i := 15) ch_cX11_count_96 rfl)
theorem dX11_count_112 : decode cX11_count 112 = .ok (.aload_n 0, 1) := do_42 (rdb (p := 96) (i := 16) ch_cX11_count_96 rfl)
theorem dX11_count_113 : decode cX11_count 113 = .ok (.getfield 49, 3) := do_180 (rdb (p := 96) (i := 17) ch_cX11_count_96 rfl) (rdb (p := 96) (i := 18) ch_cX11_count_96 rfl) (rdb (p := 96) (i := 19) ch_cX11_count_96 rfl) rfl
theorem dX11_count_116 : decode cX11_count 116 = .ok (.getfield 353, 3) := do_180 (rdb (p := 96) (i := 20) ch_cX11_count_96 rfl) (rdb (p := 96) (i := 21) ch_cX11_count_96 rfl) (rdb (p := 96) (i := 22) ch_cX11_count_96 rfl) rfl
theorem dX11_count_119 : decode cX11_count 119 = .ok (.getfield 205, 3) := do_180 (rdb (p := 96) (i := 23) ch_cX11_count_96 rfl) (rdb (p := 96) (i := 24) ch_cX11_count_96 rfl) (rdb (p := 96) (i := 25) ch_cX11_count_96 rfl) rfl
theorem dX11_count_122 : decode cX11_count 122 = .ok (.ireturn, 1) := do_172 (rdb (p := 96) (i := 26) ch_cX11_count_96 rfl)
theorem dX11_count_123 : decode cX11_count 123 = .ok (.aload_n 0, 1) := do_42 (rdb (p := 96) (i := 27) ch_cX11_count_96 rfl)
theorem dX11_count_124 : decode cX11_count 124 = .ok (.getfield 10, 3) := do_180 (rdb (p := 96) (i := 28) ch_cX11_count_96 rfl) (rdb (p := 96) (i := 29) ch_cX11_count_96 rfl) (rdb (p := 96) (i := 30) ch_cX11_count_96 rfl) rfl
theorem dX11_count_127 : decode cX11_count 127 = .ok (.invokevirtual 392, 3) := do_182 (rdb (p := 96) (i := 31) ch_cX11_count_96 rfl) (rdb (p := 96) (i := 32) ch_cX11_count_96 rfl) (rdb (p := 96) (i := 33) ch_cX11_count_96 rfl) rfl
theorem ch_cX11_count_128 : (cX11_count.data.toList.drop 128).take 36 = [1, 136, 172, 42, 180, 0, 10, 182, 1, 139, 172, 42, 4, 182, 0, 67, 172] := by decide +kernel
theorem dX11_count_130 : decode cX11_count 130 = .ok (.ireturn, 1) := do_172 (rdb (p := 128) (i := 2) ch_cX11_count_128 rfl)
theorem dX11_count_131 : decode cX11_count 131 = .ok (.aload_n 0, 1) := do_42 (rdb (p := 128) (i := 3) ch_cX11_count_128 rfl)
theorem dX11_count_132 : decode cX11_count 132 = .ok (.getfield 10, 3) := do_180 (rdb (p := 128) (i := 4) ch_cX11_count_128 rfl) (rdb (p := 128) (i := 5) ch_cX11_count_128 rfl) (rdb (p := 128) (i := 6) ch_cX11_count_128 rfl) rfl
theorem dX11_count_135 : decode cX11_count 135 = .ok (.invokevirtual 395, 3) := do_182 (rdb (p := 128) (i := 7) ch_cX11_count_128 rfl) (rdb (p := 128) (i := 8) ch_cX11_count_128 rfl) (rdb (p := 128) (i := 9) ch_cX11_count_128 rfl) rfl
theorem dX11_count_138 : decode cX11_count 138 = .ok (.ireturn, 1) := do_172 (rdb (p := 128) (i := 10) ch_cX11_count_128 rfl)
theorem dX11_count_139 : decode cX11_count 139 = .ok (.aload_n 0, 1) := do_42 (rdb (p := 128) (i := 11) ch_cX11_count_128 rfl)
theorem dX11_count_140 : decode cX11_count 140 = .ok (.iconst 1, 1) := do_4 (rdb (p := 128) (i := 12) ch_cX11_count_128 rfl)
theorem dX11_count_141 : decode cX11_count 141 = .ok (.invokevirtual 67, 3) := do_182 (rdb (p := 128) (i := 13) ch_cX11_count_128 rfl) (rdb (p := 128) (i := 14) ch_cX11_count_128 rfl) (rdb (p := 128) (i := 15) ch_cX11_count_128 rfl) rfl
theorem dX11_count_144 : decode cX11_count 144 = .ok (.ireturn, 1) := do_172 (rdb (p := 128) (i := 16) ch_cX11_count_128 rfl)
theorem ch_cX11_feed_0 : (cX11_feed.data.toList.drop 0).take 36 = [29, 4, 16, 8, 184, 0, 89, 154, 0, 9, 42, 4, 182, 0, 67, 172, 42, 180, 0, 10, 180, 0, 192, 182, 0, 196, 29, 162, 0, 9, 42, 7, 182, 0, 67, 172] := by decide +kernel
theorem dX11_feed_0 : decode cX11_feed 0 = .ok (.iload_n 3, 1) := do_29 (rdb (p := 0) (i := 0) ch_cX11_feed_0 rfl)
theorem dX11_feed_1 : decode cX11_feed 1 = .ok (.iconst 1, 1) := do_4 (rdb (p := 0) (i := 1) ch_cX11_feed_0 rfl)
theorem dX11_feed_2 : decode cX11_feed 2 = .ok (.bipush 8, 2) := do_16 (rdb (p := 0) (i := 2) ch_cX11_feed_0 rfl) (rdb (p := 0) (i := 3) ch_cX11_feed_0 rfl) (by decide +kernel)
theorem dX11_feed_4 : decode cX11_feed 4 = .ok (.invokestatic 89, 3) := do_184 (rdb (p := 0) (i := 4) ch_cX11_feed_0 rfl) (rdb (p := 0) (i := 5) ch_cX11_feed_0 rfl) (rdb (p := 0) (i := 6) ch_cX11_feed_0 rfl) rfl
theorem dX11_feed_7 : decode cX11_feed 7 = .ok (.ifCond .ne 9, 3) := do_154 (rdb (p := 0) (i := 7) ch_cX11_feed_0 rfl) (rdb (p := 0) (i := 8) ch_cX11_feed_0 rfl) (rdb (p := 0) (i := 9) ch_cX11_feed_0 rfl) (by decide +kernel)
theorem dX11_feed_10 : decode cX11_feed 10 = .ok (.aload_n 0, 1) := do_42 (rdb (p := 0) (i := 10) ch_cX11_feed_0 rfl)
theorem dX11_feed_11 : decode cX11_feed 11 = .ok (.iconst 1, 1) := do_4 (rdb (p := 0) (i := 11) ch_cX11_feed_0 rfl)
theorem dX11_feed_12 : decode cX11_feed 12 = .ok (.invokevirtual 67, 3) := do_182 (rdb (p := 0) (i := 12) ch_cX11_feed_0 rfl) (rdb (p := 0) (i := 13) ch_cX11_feed_0 rfl) (rdb (p := 0) (i := 14) ch_cX11_feed_0 rfl) rfl
theorem dX11_feed_15 : decode cX11_feed 15 = .ok (.ireturn, 1) := do_172 (rdb (p := 0) (i := 15) ch_cX11_feed_0 rfl)
theorem dX11_feed_16 : decode cX11_feed 16 = .ok (.aload_n 0, 1) := do_42 (rdb (p := 0) (i := 16) ch_cX11_feed_0 rfl)
theorem dX11_feed_17 : decode cX11_feed 17 = .ok (.getfield 10, 3) := do_180 (rdb (p := 0) (i := 17) ch_cX11_feed_0 rfl) (rdb (p := 0) (i := 18) ch_cX11_feed_0 rfl) (rdb (p := 0) (i := 19) ch_cX11_feed_0 rfl) rfl
theorem dX11_feed_20 : decode cX11_feed 20 = .ok (.getfield 192, 3) := do_180 (rdb (p := 0) (i := 20) ch_cX11_feed_0 rfl) (rdb (p := 0) (i := 21) ch_cX11_feed_0 rfl) (rdb (p := 0) (i := 22) ch_cX11_feed_0 rfl) rfl
theorem dX11_feed_23 : decode cX11_feed 23 = .ok (.invokevirtual 196, 3) := do_182 (rdb (p := 0) (i := 23) ch_cX11_feed_0 rfl) (rdb (p := 0) (i := 24) ch_cX11_feed_0 rfl) (rdb (p := 0) (i := 25) ch_cX11_feed_0 rfl) rfl
theorem dX11_feed_26 : decode cX11_feed 26 = .ok (.iload_n 3, 1) := do_29 (rdb (p := 0) (i := 26) ch_cX11_feed_0 rfl)
theorem dX11_feed_27 : decode cX11_feed 27 = .ok (.if_icmp .ge 9, 3) := do_162 (rdb (p := 0) (i := 27) ch_cX11_feed_0 rfl) (rdb (p := 0) (i := 28) ch_cX11_feed_0 rfl) (rdb (p := 0) (i := 29) ch_cX11_feed_0 rfl) (by decide +kernel)
theorem dX11_feed_30 : decode cX11_feed 30 = .ok (.aload_n 0, 1) := do_42 (rdb (p := 0) (i := 30) ch_cX11_feed_0 rfl)
theorem dX11_feed_31 : decode cX11_feed 31 = .ok (.iconst 4, 1) := do_7 (rdb (p := 0) (i := 31) ch_cX11_feed_0 rfl)
theorem ch_cX11_feed_32 : (cX11_feed.data.toList.drop 32).take 36 = [182, 0, 67, 172, 3, 54, 4, 21, 4, 29, 162, 0, 31, 42, 180, 0, 10, 180, 0, 192, 31, 16, 8, 21, 4, 104, 125, 136, 17, 0, 255, 126, 182, 0, 201, 132] := by decide +kernel
theorem dX11_feed_32 : decode cX11_feed 32 = .ok (.invokevirtual 67, 3) := do_182 (rdb (p := 32) (i := 0) ch_cX11_feed_32 rfl) (rdb (p := 32) (i := 1) ch_cX11_feed_32 rfl) (rdb (p := 32) (i := 2) ch_cX11_feed_32 rfl) rfl
theorem dX11_feed_35 : decode cX11_feed 35 = .ok (.ireturn, 1) := do_172 (rdb (p := 32) (i := 3) ch_cX11_feed_32 rfl)
theorem dX11_feed_36 : decode cX11_feed 36 = .ok (.iconst 0, 1) := do_3 (rdb (p := 32) (i := 4) ch_cX11_feed_32 rfl)
theorem dX11_feed_37 : decode cX11_feed 37 = .ok (.istore 4, 2) := do_54 (rdb (p := 32) (i := 5) ch_cX11_feed_32 rfl) (rdb (p := 32) (i := 6) ch_cX11_feed_32 rfl)
theorem dX11_feed_39 : decode cX11_feed 39 = .ok (.iload 4, 2) := do_21 (rdb (p := 32) (i := 7) ch_cX11_feed_32 rfl) (rdb (p := 32) (i := 8) ch_cX11_feed_32 rfl)
theorem dX11_feed_41 : decode cX11_feed 41 = .ok (.iload_n 3, 1) := do_29 (rdb (p := 32) (i := 9) ch_cX11_feed_32 rfl)
theorem dX11_feed_42 : decode cX11_feed 42 = .ok (.if_icmp .ge 31, 3) := do_162 (rdb (p := 32) (i := 10) ch_cX11_feed_32 rfl) (rdb (p := 32) (i := 11) ch_cX11_feed_32 rfl) (rdb (p := 32) (i := 12) ch_cX11_feed_32 rfl) (by decide +kernel)
theorem dX11_feed_45 : decode cX11_feed 45 = .ok (.aload_n 0, 1) := do_42 (rdb (p := 32) (i := 13) ch_cX11_feed_32 rfl)
theorem dX11_feed_46 : decode cX11_feed 46 = .ok (.getfield 10, 3) := do_180 (rdb (p := 32) (i := 14) ch_cX11_feed_32 rfl) (rdb (p := 32) (i := 15) ch_cX11_feed_32 rfl) (rdb (p := 32) (i := 16) ch_cX11_feed_32 rfl) rfl
theorem dX11_feed_49 : decode cX11_feed 49 = .ok (.getfield 192, 3) := do_180 (rdb (p := 32) (i := 17) ch_cX11_feed_32 rfl) (rdb (p := 32) (i := 18) ch_cX11_feed_32 rfl) (rdb (p := 32) (i := 19) ch_cX11_feed_32 rfl) rfl
theorem dX11_feed_52 : decode cX11_feed 52 = .ok (.lload_n 1, 1) := do_31 (rdb (p := 32) (i := 20) ch_cX11_feed_32 rfl)
theorem dX11_feed_53 : decode cX11_feed 53 = .ok (.bipush 8, 2) := do_16 (rdb (p := 32) (i := 21) ch_cX11_feed_32 rfl) (rdb (p := 32) (i := 22) ch_cX11_feed_32 rfl) (by decide +kernel)
theorem dX11_feed_55 : decode cX11_feed 55 = .ok (.iload 4, 2) := do_21 (rdb (p := 32) (i := 23) ch_cX11_feed_32 rfl) (rdb (p := 32) (i := 24) ch_cX11_feed_32 rfl)
theorem dX11_feed_57 : decode cX11_feed 57 = .ok (.imul, 1) := do_104 (rdb (p := 32) (i := 25) ch_cX11_feed_32 rfl)
theorem dX11_feed_58 : decode cX11_feed 58 = .ok (.lushr, 1) := do_125 (rdb (p := 32) (i := 26) ch_cX11_feed_32 rfl)
theorem dX11_feed_59 : decode cX11_feed 59 = .ok (.l2i, 1) := do_136 (rdb (p := 32) (i := 27) ch_cX11_feed_32 rfl)
theorem dX11_feed_60 : decode cX11_feed 60 = .ok (.sipush 255, 3) := do_17 (rdb (p := 32) (i := 28) ch_cX11_feed_32 rfl) (rdb (p := 32) (i := 29) ch_cX11_feed_32 rfl) (rdb (p := 32) (i := 30) ch_cX11_feed_32 rfl) (by decide +kernel)
theorem dX11_feed_63 : decode cX11_feed 63 = .ok (.iand, 1) := do_126 (rdb (p := 32) (i := 31) ch_cX11_feed_32 rfl)
theorem ch_cX11_feed_64 : (cX11_feed.data.toList.drop 64).take 36 = [182, 0, 201, 132, 4, 1, 167, 255, 225, 42, 180, 0, 10, 180, 0, 192, 180, 0, 205, 172] := by decide +kernel
theorem dX11_feed_64 : decode cX11_feed 64 = .ok (.invokevirtual 201, 3) := do_182 (rdb (p := 64) (i := 0) ch_cX11_feed_64 rfl) (rdb (p := 64) (i := 1) ch_cX11_feed_64 rfl) (rdb (p := 64) (i := 2) ch_cX11_feed_64 rfl) rfl
theorem dX11_feed_67 : decode cX11_feed 67 = .ok (.iinc 4 1, 3) := do_132 (rdb (p := 64) (i := 3) ch_cX11_feed_64 rfl) (rdb (p := 64) (i := 4) ch_cX11_feed_64 rfl) (rdb (p := 64) (i := 5) ch_cX11_feed_64 rfl) (by decide +kernel)
theorem dX11_feed_70 : decode cX11_feed 70 = .ok (.goto (-31), 3) := do_167 (rdb (p := 64) (i := 6) ch_cX11_feed_64 rfl) (rdb (p := 64) (i := 7) ch_cX11_feed_64 rfl) (rdb (p := 64) (i := 8) ch_cX11_feed_64 rfl) (by decide +kernel)
theorem dX11_feed_73 : decode cX11_feed 73 = .ok (.aload_n 0, 1) := do_42 (rdb (p := 64) (i := 9) ch_cX11_feed_64 rfl)
theorem dX11_feed_74 : decode cX11_feed 74 = .ok (.getfield 10, 3) := do_180 (rdb (p := 64) (i := 10) ch_cX11_feed_64 rfl) (rdb (p := 64) (i := 11) ch_cX11_feed_64 rfl) (rdb (p := 64) (i := 12) ch_cX11_feed_64 rfl) rfl
theorem dX11_feed_77 : decode cX11_feed 77 = .ok (.getfield 192, 3) := do_180 (rdb (p := 64) (i := 13) ch_cX11_feed_64 rfl) (rdb (p := 64) (i := 14) ch_cX11_feed_64 rfl) (rdb (p := 64) (i := 15) ch_cX11_feed_64 rfl) rfl
theorem dX11_feed_80 : decode cX11_feed 80 = .ok (.getfield 205, 3) := do_180 (rdb (p := 64) (i := 16) ch_cX11_feed_64 rfl) (rdb (p := 64) (i := 17) ch_cX11_feed_64 rfl) (rdb (p := 64) (i := 18) ch_cX11_feed_64 rfl) rfl
theorem dX11_feed_83 : decode cX11_feed 83 = .ok (.ireturn, 1) := do_172 (rdb (p := 64) (i := 19) ch_cX11_feed_64 rfl)
theorem dX11_image_0 : decode cX11_image 0 = .ok (.aload_n 0, 1) := by decide +kernel
theorem dX11_image_1 : decode cX11_image 1 = .ok (.getfield 16, 3) := by decide +kernel
theorem dX11_image_4 : decode cX11_image 4 = .ok (.aload_n 0, 1) := by decide +kernel
theorem dX11_image_5 : decode cX11_image 5 = .ok (.getfield 10, 3) := by decide +kernel
theorem dX11_image_8 : decode cX11_image 8 = .ok (.invokevirtual 382, 3) := by decide +kernel
theorem dX11_image_11 : decode cX11_image 11 = .ok (.aload_n 0, 1) := by decide +kernel
theorem dX11_image_12 : decode cX11_image 12 = .ok (.dup, 1) := by decide +kernel
theorem dX11_image_13 : decode cX11_image 13 = .ok (.getfield 53, 3) := by decide +kernel
theorem dX11_image_16 : decode cX11_image 16 = .ok (.iconst 1, 1) := by decide +kernel
theorem dX11_image_17 : decode cX11_image 17 = .ok (.iadd, 1) := by decide +kernel
theorem dX11_image_18 : decode cX11_image 18 = .ok (.putfield 53, 3) := by decide +kernel
theorem dX11_image_21 : decode cX11_image 21 = .ok (.aload_n 0, 1) := by decide +kernel
theorem dX11_image_22 : decode cX11_image 22 = .ok (.getfield 53, 3) := by decide +kernel
theorem dX11_image_25 : decode cX11_image 25 = .ok (.ireturn, 1) := by decide +kernel
theorem ch_cX11_lesson_0 : (cX11_lesson.data.toList.drop 0).take 36 = [27, 184, 1, 54, 153, 0, 20, 28, 184, 1, 54, 153, 0, 13, 29, 4, 16, 99, 184, 0, 89, 154, 0, 9, 42, 4, 182, 0, 67, 172, 42, 180, 0, 10, 180, 1] := by decide +kernel
theorem dX11_lesson_0 : decode cX11_lesson 0 = .ok (.iload_n 1, 1) := do_27 (rdb (p := 0) (i := 0) ch_cX11_lesson_0 rfl)
theorem dX11_lesson_1 : decode cX11_lesson 1 = .ok (.invokestatic 310, 3) := do_184 (rdb (p := 0) (i := 1) ch_cX11_lesson_0 rfl) (rdb (p := 0) (i := 2) ch_cX11_lesson_0 rfl) (rdb (p := 0) (i := 3) ch_cX11_lesson_0 rfl) rfl
theorem dX11_lesson_4 : decode cX11_lesson 4 = .ok (.ifCond .eq 20, 3) := do_153 (rdb (p := 0) (i := 4) ch_cX11_lesson_0 rfl) (rdb (p := 0) (i := 5) ch_cX11_lesson_0 rfl) (rdb (p := 0) (i := 6) ch_cX11_lesson_0 rfl) (by decide +kernel)
theorem dX11_lesson_7 : decode cX11_lesson 7 = .ok (.iload_n 2, 1) := do_28 (rdb (p := 0) (i := 7) ch_cX11_lesson_0 rfl)
theorem dX11_lesson_8 : decode cX11_lesson 8 = .ok (.invokestatic 310, 3) := do_184 (rdb (p := 0) (i := 8) ch_cX11_lesson_0 rfl) (rdb (p := 0) (i := 9) ch_cX11_lesson_0 rfl) (rdb (p := 0) (i := 10) ch_cX11_lesson_0 rfl) rfl
theorem dX11_lesson_11 : decode cX11_lesson 11 = .ok (.ifCond .eq 13, 3) := do_153 (rdb (p := 0) (i := 11) ch_cX11_lesson_0 rfl) (rdb (p := 0) (i := 12) ch_cX11_lesson_0 rfl) (rdb (p := 0) (i := 13) ch_cX11_lesson_0 rfl) (by decide +kernel)
theorem dX11_lesson_14 : decode cX11_lesson 14 = .ok (.iload_n 3, 1) := do_29 (rdb (p := 0) (i := 14) ch_cX11_lesson_0 rfl)
theorem dX11_lesson_15 : decode cX11_lesson 15 = .ok (.iconst 1, 1) := do_4 (rdb (p := 0) (i := 15) ch_cX11_lesson_0 rfl)
theorem dX11_lesson_16 : decode cX11_lesson 16 = .ok (.bipush 99, 2) := do_16 (rdb (p := 0) (i := 16) ch_cX11_lesson_0 rfl) (rdb (p := 0) (i := 17) ch_cX11_lesson_0 rfl) (by decide +kernel)
theorem dX11_lesson_18 : decode cX11_lesson 18 = .ok (.invokestatic 89, 3) := do_184 (rdb (p := 0) (i := 18) ch_cX11_lesson_0 rfl) (rdb (p := 0) (i := 19) ch_cX11_lesson_0 rfl) (rdb (p := 0) (i := 20) ch_cX11_lesson_0 rfl) rfl
theorem dX11_lesson_21 : decode cX11_lesson 21 = .ok (.ifCond .ne 9, 3) := do_154 (rdb (p := 0) (i := 21) ch_cX11_lesson_0 rfl) (rdb (p := 0) (i := 22) ch_cX11_lesson_0 rfl) (rdb (p := 0) (i := 23) ch_cX11_lesson_0 rfl) (by decide +kernel)
theorem dX11_lesson_24 : decode cX11_lesson 24 = .ok (.aload_n 0, 1) := do_42 (rdb (p := 0) (i := 24) ch_cX11_lesson_0 rfl)
theorem dX11_lesson_25 : decode cX11_lesson 25 = .ok (.iconst 1, 1) := do_4 (rdb (p := 0) (i := 25) ch_cX11_lesson_0 rfl)
theorem dX11_lesson_26 : decode cX11_lesson 26 = .ok (.invokevirtual 67, 3) := do_182 (rdb (p := 0) (i := 26) ch_cX11_lesson_0 rfl) (rdb (p := 0) (i := 27) ch_cX11_lesson_0 rfl) (rdb (p := 0) (i := 28) ch_cX11_lesson_0 rfl) rfl
theorem dX11_lesson_29 : decode cX11_lesson 29 = .ok (.ireturn, 1) := do_172 (rdb (p := 0) (i := 29) ch_cX11_lesson_0 rfl)
theorem dX11_lesson_30 : decode cX11_lesson 30 = .ok (.aload_n 0, 1) := do_42 (rdb (p := 0) (i := 30) ch_cX11_lesson_0 rfl)
theorem dX11_lesson_31 : decode cX11_lesson 31 = .ok (.getfield 10, 3) := do_180 (rdb (p := 0) (i := 31) ch_cX11_lesson_0 rfl) (rdb (p := 0) (i := 32) ch_cX11_lesson_0 rfl) (rdb (p := 0) (i := 33) ch_cX11_lesson_0 rfl) rfl
theorem ch_cX11_lesson_32 : (cX11_lesson.data.toList.drop 32).take 36 = [0, 10, 180, 1, 57, 182, 1, 61, 154, 0, 9, 42, 7, 182, 0, 67, 172, 42, 180, 0, 10, 180, 1, 57, 27, 28, 29, 182, 1, 64, 172] := by decide +kernel
theorem dX11_lesson_34 : decode cX11_lesson 34 = .ok (.getfield 313, 3) := do_180 (rdb (p := 32) (i := 2) ch_cX11_lesson_32 rfl) (rdb (p := 32) (i := 3) ch_cX11_lesson_32 rfl) (rdb (p := 32) (i := 4) ch_cX11_lesson_32 rfl) rfl
theorem dX11_lesson_37 : decode cX11_lesson 37 = .ok (.invokevirtual 317, 3) := do_182 (rdb (p := 32) (i := 5) ch_cX11_lesson_32 rfl) (rdb (p := 32) (i := 6) ch_cX11_lesson_32 rfl) (rdb (p := 32) (i := 7) ch_cX11_lesson_32 rfl) rfl
theorem dX11_lesson_40 : decode cX11_lesson 40 = .ok (.ifCond .ne 9, 3) := do_154 (rdb (p := 32) (i := 8) ch_cX11_lesson_32 rfl) (rdb (p := 32) (i := 9) ch_cX11_lesson_32 rfl) (rdb (p := 32) (i := 10) ch_cX11_lesson_32 rfl) (by decide +kernel)
theorem dX11_lesson_43 : decode cX11_lesson 43 = .ok (.aload_n 0, 1) := do_42 (rdb (p := 32) (i := 11) ch_cX11_lesson_32 rfl)
theorem dX11_lesson_44 : decode cX11_lesson 44 = .ok (.iconst 4, 1) := do_7 (rdb (p := 32) (i := 12) ch_cX11_lesson_32 rfl)
theorem dX11_lesson_45 : decode cX11_lesson 45 = .ok (.invokevirtual 67, 3) := do_182 (rdb (p := 32) (i := 13) ch_cX11_lesson_32 rfl) (rdb (p := 32) (i := 14) ch_cX11_lesson_32 rfl) (rdb (p := 32) (i := 15) ch_cX11_lesson_32 rfl) rfl
theorem dX11_lesson_48 : decode cX11_lesson 48 = .ok (.ireturn, 1) := do_172 (rdb (p := 32) (i := 16) ch_cX11_lesson_32 rfl)
theorem dX11_lesson_49 : decode cX11_lesson 49 = .ok (.aload_n 0, 1) := do_42 (rdb (p := 32) (i := 17) ch_cX11_lesson_32 rfl)
theorem dX11_lesson_50 : decode cX11_lesson 50 = .ok (.getfield 10, 3) := do_180 (rdb (p := 32) (i := 18) ch_cX11_lesson_32 rfl) (rdb (p := 32) (i := 19) ch_cX11_lesson_32 rfl) (rdb (p := 32) (i := 20) ch_cX11_lesson_32 rfl) rfl
theorem dX11_lesson_53 : decode cX11_lesson 53 = .ok (.getfield 313, 3) := do_180 (rdb (p := 32) (i := 21) ch_cX11_lesson_32 rfl) (rdb (p := 32) (i := 22) ch_cX11_lesson_32 rfl) (rdb (p := 32) (i := 23) ch_cX11_lesson_32 rfl) rfl
theorem dX11_lesson_56 : decode cX11_lesson 56 = .ok (.iload_n 1, 1) := do_27 (rdb (p := 32) (i := 24) ch_cX11_lesson_32 rfl)
theorem dX11_lesson_57 : decode cX11_lesson 57 = .ok (.iload_n 2, 1) := do_28 (rdb (p := 32) (i := 25) ch_cX11_lesson_32 rfl)
theorem dX11_lesson_58 : decode cX11_lesson 58 = .ok (.iload_n 3, 1) := do_29 (rdb (p := 32) (i := 26) ch_cX11_lesson_32 rfl)
theorem dX11_lesson_59 : decode cX11_lesson 59 = .ok (.invokevirtual 320, 3) := do_182 (rdb (p := 32) (i := 27) ch_cX11_lesson_32 rfl) (rdb (p := 32) (i := 28) ch_cX11_lesson_32 rfl) (rdb (p := 32) (i := 29) ch_cX11_lesson_32 rfl) rfl
theorem dX11_lesson_62 : decode cX11_lesson 62 = .ok (.ireturn, 1) := do_172 (rdb (p := 32) (i := 30) ch_cX11_lesson_32 rfl)
theorem ch_cX11_move_0 : (cX11_move.data.toList.drop 0).take 36 = [27, 184, 0, 127, 153, 0, 10, 29, 184, 0, 127, 154, 0, 9, 42, 4, 182, 0, 67, 172, 42, 180, 0, 24, 27, 50, 58, 6, 42, 180, 0, 24, 29, 50, 58, 7] := by decide +kernel
theorem dX11_move_0 : decode cX11_move 0 = .ok (.iload_n 1, 1) := do_27 (rdb (p := 0) (i := 0) ch_cX11_move_0 rfl)
theorem dX11_move_1 : decode cX11_move 1 = .ok (.invokestatic 127, 3) := do_184 (rdb (p := 0) (i := 1) ch_cX11_move_0 rfl) (rdb (p := 0) (i := 2) ch_cX11_move_0 rfl) (rdb (p := 0) (i := 3) ch_cX11_move_0 rfl) rfl
theorem dX11_move_4 : decode cX11_move 4 = .ok (.ifCond .eq 10, 3) := do_153 (rdb (p := 0) (i := 4) ch_cX11_move_0 rfl) (rdb (p := 0) (i := 5) ch_cX11_move_0 rfl) (rdb (p := 0) (i := 6) ch_cX11_move_0 rfl) (by decide +kernel)
theorem dX11_move_7 : decode cX11_move 7 = .ok (.iload_n 3, 1) := do_29 (rdb (p := 0) (i := 7) ch_cX11_move_0 rfl)
theorem dX11_move_8 : decode cX11_move 8 = .ok (.invokestatic 127, 3) := do_184 (rdb (p := 0) (i := 8) ch_cX11_move_0 rfl) (rdb (p := 0) (i := 9) ch_cX11_move_0 rfl) (rdb (p := 0) (i := 10) ch_cX11_move_0 rfl) rfl
theorem dX11_move_11 : decode cX11_move 11 = .ok (.ifCond .ne 9, 3) := do_154 (rdb (p := 0) (i := 11) ch_cX11_move_0 rfl) (rdb (p := 0) (i := 12) ch_cX11_move_0 rfl) (rdb (p := 0) (i := 13) ch_cX11_move_0 rfl) (by decide +kernel)
theorem dX11_move_14 : decode cX11_move 14 = .ok (.aload_n 0, 1) := do_42 (rdb (p := 0) (i := 14) ch_cX11_move_0 rfl)
theorem dX11_move_15 : decode cX11_move 15 = .ok (.iconst 1, 1) := do_4 (rdb (p := 0) (i := 15) ch_cX11_move_0 rfl)
theorem dX11_move_16 : decode cX11_move 16 = .ok (.invokevirtual 67, 3) := do_182 (rdb (p := 0) (i := 16) ch_cX11_move_0 rfl) (rdb (p := 0) (i := 17) ch_cX11_move_0 rfl) (rdb (p := 0) (i := 18) ch_cX11_move_0 rfl) rfl
theorem dX11_move_19 : decode cX11_move 19 = .ok (.ireturn, 1) := do_172 (rdb (p := 0) (i := 19) ch_cX11_move_0 rfl)
theorem dX11_move_20 : decode cX11_move 20 = .ok (.aload_n 0, 1) := do_42 (rdb (p := 0) (i := 20) ch_cX11_move_0 rfl)
theorem dX11_move_21 : decode cX11_move 21 = .ok (.getfield 24, 3) := do_180 (rdb (p := 0) (i := 21) ch_cX11_move_0 rfl) (rdb (p := 0) (i := 22) ch_cX11_move_0 rfl) (rdb (p := 0) (i := 23) ch_cX11_move_0 rfl) rfl
theorem dX11_move_24 : decode cX11_move 24 = .ok (.iload_n 1, 1) := do_27 (rdb (p := 0) (i := 24) ch_cX11_move_0 rfl)
theorem dX11_move_25 : decode cX11_move 25 = .ok (.aaload, 1) := do_50 (rdb (p := 0) (i := 25) ch_cX11_move_0 rfl)
theorem dX11_move_26 : decode cX11_move 26 = .ok (.astore 6, 2) := do_58 (rdb (p := 0) (i := 26) ch_cX11_move_0 rfl) (rdb (p := 0) (i := 27) ch_cX11_move_0 rfl)
theorem dX11_move_28 : decode cX11_move 28 = .ok (.aload_n 0, 1) := do_42 (rdb (p := 0) (i := 28) ch_cX11_move_0 rfl)
theorem dX11_move_29 : decode cX11_move 29 = .ok (.getfield 24, 3) := do_180 (rdb (p := 0) (i := 29) ch_cX11_move_0 rfl) (rdb (p := 0) (i := 30) ch_cX11_move_0 rfl) (rdb (p := 0) (i := 31) ch_cX11_move_0 rfl) rfl
theorem ch_cX11_move_32 : (cX11_move.data.toList.drop 32).take 36 = [29, 50, 58, 7, 25, 6, 182, 0, 130, 154, 0, 11, 25, 7, 182, 0, 130, 153, 0, 9, 42, 5, 182, 0, 67, 172, 25, 6, 180, 0, 133, 25, 7, 180, 0, 133] := by decide +kernel
theorem dX11_move_32 : decode cX11_move 32 = .ok (.iload_n 3, 1) := do_29 (rdb (p := 32) (i := 0) ch_cX11_move_32 rfl)
theorem dX11_move_33 : decode cX11_move 33 = .ok (.aaload, 1) := do_50 (rdb (p := 32) (i := 1) ch_cX11_move_32 rfl)
theorem dX11_move_34 : decode cX11_move 34 = .ok (.astore 7, 2) := do_58 (rdb (p := 32) (i := 2) ch_cX11_move_32 rfl) (rdb (p := 32) (i := 3) ch_cX11_move_32 rfl)
theorem dX11_move_36 : decode cX11_move 36 = .ok (.aload 6, 2) := do_25 (rdb (p := 32) (i := 4) ch_cX11_move_32 rfl) (rdb (p := 32) (i := 5) ch_cX11_move_32 rfl)
theorem dX11_move_38 : decode cX11_move 38 = .ok (.invokevirtual 130, 3) := do_182 (rdb (p := 32) (i := 6) ch_cX11_move_32 rfl) (rdb (p := 32) (i := 7) ch_cX11_move_32 rfl) (rdb (p := 32) (i := 8) ch_cX11_move_32 rfl) rfl
theorem dX11_move_41 : decode cX11_move 41 = .ok (.ifCond .ne 11, 3) := do_154 (rdb (p := 32) (i := 9) ch_cX11_move_32 rfl) (rdb (p := 32) (i := 10) ch_cX11_move_32 rfl) (rdb (p := 32) (i := 11) ch_cX11_move_32 rfl) (by decide +kernel)
theorem dX11_move_44 : decode cX11_move 44 = .ok (.aload 7, 2) := do_25 (rdb (p := 32) (i := 12) ch_cX11_move_32 rfl) (rdb (p := 32) (i := 13) ch_cX11_move_32 rfl)
theorem dX11_move_46 : decode cX11_move 46 = .ok (.invokevirtual 130, 3) := do_182 (rdb (p := 32) (i := 14) ch_cX11_move_32 rfl) (rdb (p := 32) (i := 15) ch_cX11_move_32 rfl) (rdb (p := 32) (i := 16) ch_cX11_move_32 rfl) rfl
theorem dX11_move_49 : decode cX11_move 49 = .ok (.ifCond .eq 9, 3) := do_153 (rdb (p := 32) (i := 17) ch_cX11_move_32 rfl) (rdb (p := 32) (i := 18) ch_cX11_move_32 rfl) (rdb (p := 32) (i := 19) ch_cX11_move_32 rfl) (by decide +kernel)
theorem dX11_move_52 : decode cX11_move 52 = .ok (.aload_n 0, 1) := do_42 (rdb (p := 32) (i := 20) ch_cX11_move_32 rfl)
theorem dX11_move_53 : decode cX11_move 53 = .ok (.iconst 2, 1) := do_5 (rdb (p := 32) (i := 21) ch_cX11_move_32 rfl)
theorem dX11_move_54 : decode cX11_move 54 = .ok (.invokevirtual 67, 3) := do_182 (rdb (p := 32) (i := 22) ch_cX11_move_32 rfl) (rdb (p := 32) (i := 23) ch_cX11_move_32 rfl) (rdb (p := 32) (i := 24) ch_cX11_move_32 rfl) rfl
theorem dX11_move_57 : decode cX11_move 57 = .ok (.ireturn, 1) := do_172 (rdb (p := 32) (i := 25) ch_cX11_move_32 rfl)
theorem dX11_move_58 : decode cX11_move 58 = .ok (.aload 6, 2) := do_25 (rdb (p := 32) (i := 26) ch_cX11_move_32 rfl) (rdb (p := 32) (i := 27) ch_cX11_move_32 rfl)
theorem dX11_move_60 : decode cX11_move 60 = .ok (.getfield 133, 3) := do_180 (rdb (p := 32) (i := 28) ch_cX11_move_32 rfl) (rdb (p := 32) (i := 29) ch_cX11_move_32 rfl) (rdb (p := 32) (i := 30) ch_cX11_move_32 rfl) rfl
theorem dX11_move_63 : decode cX11_move 63 = .ok (.aload 7, 2) := do_25 (rdb (p := 32) (i := 31) ch_cX11_move_32 rfl) (rdb (p := 32) (i := 32) ch_cX11_move_32 rfl)
theorem ch_cX11_move_64 : (cX11_move.data.toList.drop 64).take 36 = [7, 180, 0, 133, 159, 0, 9, 42, 8, 182, 0, 67, 172, 25, 6, 28, 21, 5, 182, 1, 114, 153, 0, 15, 25, 7, 21, 4, 21, 5, 182, 1, 114, 154, 0, 9] := by decide +kernel
theorem dX11_move_65 : decode cX11_move 65 = .ok (.getfield 133, 3) := do_180 (rdb (p := 64) (i := 1) ch_cX11_move_64 rfl) (rdb (p := 64) (i := 2) ch_cX11_move_64 rfl) (rdb (p := 64) (i := 3) ch_cX11_move_64 rfl) rfl
theorem dX11_move_68 : decode cX11_move 68 = .ok (.if_icmp .eq 9, 3) := do_159 (rdb (p := 64) (i := 4) ch_cX11_move_64 rfl) (rdb (p := 64) (i := 5) ch_cX11_move_64 rfl) (rdb (p := 64) (i := 6) ch_cX11_move_64 rfl) (by decide +kernel)
theorem dX11_move_71 : decode cX11_move 71 = .ok (.aload_n 0, 1) := do_42 (rdb (p := 64) (i := 7) ch_cX11_move_64 rfl)
theorem dX11_move_72 : decode cX11_move 72 = .ok (.iconst 5, 1) := do_8 (rdb (p := 64) (i := 8) ch_cX11_move_64 rfl)
theorem dX11_move_73 : decode cX11_move 73 = .ok (.invokevirtual 67, 3) := do_182 (rdb (p := 64) (i := 9) ch_cX11_move_64 rfl) (rdb (p := 64) (i := 10) ch_cX11_move_64 rfl) (rdb (p := 64) (i := 11) ch_cX11_move_64 rfl) rfl
theorem dX11_move_76 : decode cX11_move 76 = .ok (.ireturn, 1) := do_172 (rdb (p := 64) (i := 12) ch_cX11_move_64 rfl)
theorem dX11_move_77 : decode cX11_move 77 = .ok (.aload 6, 2) := do_25 (rdb (p := 64) (i := 13) ch_cX11_move_64 rfl) (rdb (p := 64) (i := 14) ch_cX11_move_64 rfl)
theorem dX11_move_79 : decode cX11_move 79 = .ok (.iload_n 2, 1) := do_28 (rdb (p := 64) (i := 15) ch_cX11_move_64 rfl)
theorem dX11_move_80 : decode cX11_move 80 = .ok (.iload 5, 2) := do_21 (rdb (p := 64) (i := 16) ch_cX11_move_64 rfl) (rdb (p := 64) (i := 17) ch_cX11_move_64 rfl)
theorem dX11_move_82 : decode cX11_move 82 = .ok (.invokevirtual 370, 3) := do_182 (rdb (p := 64) (i := 18) ch_cX11_move_64 rfl) (rdb (p := 64) (i := 19) ch_cX11_move_64 rfl) (rdb (p := 64) (i := 20) ch_cX11_move_64 rfl) rfl
theorem dX11_move_85 : decode cX11_move 85 = .ok (.ifCond .eq 15, 3) := do_153 (rdb (p := 64) (i := 21) ch_cX11_move_64 rfl) (rdb (p := 64) (i := 22) ch_cX11_move_64 rfl) (rdb (p := 64) (i := 23) ch_cX11_move_64 rfl) (by decide +kernel)
theorem dX11_move_88 : decode cX11_move 88 = .ok (.aload 7, 2) := do_25 (rdb (p := 64) (i := 24) ch_cX11_move_64 rfl) (rdb (p := 64) (i := 25) ch_cX11_move_64 rfl)
theorem dX11_move_90 : decode cX11_move 90 = .ok (.iload 4, 2) := do_21 (rdb (p := 64) (i := 26) ch_cX11_move_64 rfl) (rdb (p := 64) (i := 27) ch_cX11_move_64 rfl)
theorem dX11_move_92 : decode cX11_move 92 = .ok (.iload 5, 2) := do_21 (rdb (p := 64) (i := 28) ch_cX11_move_64 rfl) (rdb (p := 64) (i := 29) ch_cX11_move_64 rfl)
theorem dX11_move_94 : decode cX11_move 94 = .ok (.invokevirtual 370, 3) := do_182 (rdb (p := 64) (i := 30) ch_cX11_move_64 rfl) (rdb (p := 64) (i := 31) ch_cX11_move_64 rfl) (rdb (p := 64) (i := 32) ch_cX11_move_64 rfl) rfl
theorem ch_cX11_move_96 : (cX11_move.data.toList.drop 96).take 36 = [114, 154, 0, 9, 42, 4, 182, 0, 67, 172, 25, 6, 180, 1, 117, 28, 25, 7, 180, 1, 117, 21, 4, 21, 5, 184, 1, 120, 21, 5, 172] := by decide +kernel
theorem dX11_move_97 : decode cX11_move 97 = .ok (.ifCond .ne 9, 3) := do_154 (rdb (p := 96) (i := 1) ch_cX11_move_96 rfl) (rdb (p := 96) (i := 2) ch_cX11_move_96 rfl) (rdb (p := 96) (i := 3) ch_cX11_move_96 rfl) (by decide +kernel)
theorem dX11_move_100 : decode cX11_move 100 = .ok (.aload_n 0, 1) := do_42 (rdb (p := 96) (i := 4) ch_cX11_move_96 rfl)
theorem dX11_move_101 : decode cX11_move 101 = .ok (.iconst 1, 1) := do_4 (rdb (p := 96) (i := 5) ch_cX11_move_96 rfl)
theorem dX11_move_102 : decode cX11_move 102 = .ok (.invokevirtual 67, 3) := do_182 (rdb (p := 96) (i := 6) ch_cX11_move_96 rfl) (rdb (p := 96) (i := 7) ch_cX11_move_96 rfl) (rdb (p := 96) (i := 8) ch_cX11_move_96 rfl) rfl
theorem dX11_move_105 : decode cX11_move 105 = .ok (.ireturn, 1) := do_172 (rdb (p := 96) (i := 9) ch_cX11_move_96 rfl)
theorem dX11_move_106 : decode cX11_move 106 = .ok (.aload 6, 2) := do_25 (rdb (p := 96) (i := 10) ch_cX11_move_96 rfl) (rdb (p := 96) (i := 11) ch_cX11_move_96 rfl)
theorem dX11_move_108 : decode cX11_move 108 = .ok (.getfield 373, 3) := do_180 (rdb (p := 96) (i := 12) ch_cX11_move_96 rfl) (rdb (p := 96) (i := 13) ch_cX11_move_96 rfl) (rdb (p := 96) (i := 14) ch_cX11_move_96 rfl) rfl
theorem dX11_move_111 : decode cX11_move 111 = .ok (.iload_n 2, 1) := do_28 (rdb (p := 96) (i := 15) ch_cX11_move_96 rfl)
theorem dX11_move_112 : decode cX11_move 112 = .ok (.aload 7, 2) := do_25 (rdb (p := 96) (i := 16) ch_cX11_move_96 rfl) (rdb (p := 96) (i := 17) ch_cX11_move_96 rfl)
theorem dX11_move_114 : decode cX11_move 114 = .ok (.getfield 373, 3) := do_180 (rdb (p := 96) (i := 18) ch_cX11_move_96 rfl) (rdb (p := 96) (i := 19) ch_cX11_move_96 rfl) (rdb (p := 96) (i := 20) ch_cX11_move_96 rfl) rfl
theorem dX11_move_117 : decode cX11_move 117 = .ok (.iload 4, 2) := do_21 (rdb (p := 96) (i := 21) ch_cX11_move_96 rfl) (rdb (p := 96) (i := 22) ch_cX11_move_96 rfl)
theorem dX11_move_119 : decode cX11_move 119 = .ok (.iload 5, 2) := do_21 (rdb (p := 96) (i := 23) ch_cX11_move_96 rfl) (rdb (p := 96) (i := 24) ch_cX11_move_96 rfl)
theorem dX11_move_121 : decode cX11_move 121 = .ok (.invokestatic 376, 3) := do_184 (rdb (p := 96) (i := 25) ch_cX11_move_96 rfl) (rdb (p := 96) (i := 26) ch_cX11_move_96 rfl) (rdb (p := 96) (i := 27) ch_cX11_move_96 rfl) rfl
theorem dX11_move_124 : decode cX11_move 124 = .ok (.iload 5, 2) := do_21 (rdb (p := 96) (i := 28) ch_cX11_move_96 rfl) (rdb (p := 96) (i := 29) ch_cX11_move_96 rfl)
theorem dX11_move_126 : decode cX11_move 126 = .ok (.ireturn, 1) := do_172 (rdb (p := 96) (i := 30) ch_cX11_move_96 rfl)
theorem ch_cX11_posts_0 : (cX11_posts.data.toList.drop 0).take 36 = [42, 180, 0, 10, 27, 182, 0, 154, 153, 0, 27, 28, 184, 0, 127, 153, 0, 20, 29, 184, 0, 127, 153, 0, 13, 21, 4, 3, 4, 184, 0, 89, 154, 0, 9, 42] := by decide +kernel
theorem dX11_posts_0 : decode cX11_posts 0 = .ok (.aload_n 0, 1) := do_42 (rdb (p := 0) (i := 0) ch_cX11_posts_0 rfl)
theorem dX11_posts_1 : decode cX11_posts 1 = .ok (.getfield 10, 3) := do_180 (rdb (p := 0) (i := 1) ch_cX11_posts_0 rfl) (rdb (p := 0) (i := 2) ch_cX11_posts_0 rfl) (rdb (p := 0) (i := 3) ch_cX11_posts_0 rfl) rfl
theorem dX11_posts_4 : decode cX11_posts 4 = .ok (.iload_n 1, 1) := do_27 (rdb (p := 0) (i := 4) ch_cX11_posts_0 rfl)
theorem dX11_posts_5 : decode cX11_posts 5 = .ok (.invokevirtual 154, 3) := do_182 (rdb (p := 0) (i := 5) ch_cX11_posts_0 rfl) (rdb (p := 0) (i := 6) ch_cX11_posts_0 rfl) (rdb (p := 0) (i := 7) ch_cX11_posts_0 rfl) rfl
theorem dX11_posts_8 : decode cX11_posts 8 = .ok (.ifCond .eq 27, 3) := do_153 (rdb (p := 0) (i := 8) ch_cX11_posts_0 rfl) (rdb (p := 0) (i := 9) ch_cX11_posts_0 rfl) (rdb (p := 0) (i := 10) ch_cX11_posts_0 rfl) (by decide +kernel)
theorem dX11_posts_11 : decode cX11_posts 11 = .ok (.iload_n 2, 1) := do_28 (rdb (p := 0) (i := 11) ch_cX11_posts_0 rfl)
theorem dX11_posts_12 : decode cX11_posts 12 = .ok (.invokestatic 127, 3) := do_184 (rdb (p := 0) (i := 12) ch_cX11_posts_0 rfl) (rdb (p := 0) (i := 13) ch_cX11_posts_0 rfl) (rdb (p := 0) (i := 14) ch_cX11_posts_0 rfl) rfl
theorem dX11_posts_15 : decode cX11_posts 15 = .ok (.ifCond .eq 20, 3) := do_153 (rdb (p := 0) (i := 15) ch_cX11_posts_0 rfl) (rdb (p := 0) (i := 16) ch_cX11_posts_0 rfl) (rdb (p := 0) (i := 17) ch_cX11_posts_0 rfl) (by decide +kernel)
theorem dX11_posts_18 : decode cX11_posts 18 = .ok (.iload_n 3, 1) := do_29 (rdb (p := 0) (i := 18) ch_cX11_posts_0 rfl)
theorem dX11_posts_19 : decode cX11_posts 19 = .ok (.invokestatic 127, 3) := do_184 (rdb (p := 0) (i := 19) ch_cX11_posts_0 rfl) (rdb (p := 0) (i := 20) ch_cX11_posts_0 rfl) (rdb (p := 0) (i := 21) ch_cX11_posts_0 rfl) rfl
theorem dX11_posts_22 : decode cX11_posts 22 = .ok (.ifCond .eq 13, 3) := do_153 (rdb (p := 0) (i := 22) ch_cX11_posts_0 rfl) (rdb (p := 0) (i := 23) ch_cX11_posts_0 rfl) (rdb (p := 0) (i := 24) ch_cX11_posts_0 rfl) (by decide +kernel)
theorem dX11_posts_25 : decode cX11_posts 25 = .ok (.iload 4, 2) := do_21 (rdb (p := 0) (i := 25) ch_cX11_posts_0 rfl) (rdb (p := 0) (i := 26) ch_cX11_posts_0 rfl)
theorem dX11_posts_27 : decode cX11_posts 27 = .ok (.iconst 0, 1) := do_3 (rdb (p := 0) (i := 27) ch_cX11_posts_0 rfl)
theorem dX11_posts_28 : decode cX11_posts 28 = .ok (.iconst 1, 1) := do_4 (rdb (p := 0) (i := 28) ch_cX11_posts_0 rfl)
theorem dX11_posts_29 : decode cX11_posts 29 = .ok (.invokestatic 89, 3) := do_184 (rdb (p := 0) (i := 29) ch_cX11_posts_0 rfl) (rdb (p := 0) (i := 30) ch_cX11_posts_0 rfl) (rdb (p := 0) (i := 31) ch_cX11_posts_0 rfl) rfl
theorem ch_cX11_posts_32 : (cX11_posts.data.toList.drop 32).take 36 = [154, 0, 9, 42, 4, 182, 0, 67, 172, 42, 180, 0, 24, 28, 50, 182, 0, 130, 154, 0, 15, 42, 180, 0, 24, 29, 50, 182, 0, 130, 153, 0, 9, 42, 5, 182] := by decide +kernel
theorem dX11_posts_32 : decode cX11_posts 32 = .ok (.ifCond .ne 9, 3) := do_154 (rdb (p := 32) (i := 0) ch_cX11_posts_32 rfl) (rdb (p := 32) (i := 1) ch_cX11_posts_32 rfl) (rdb (p := 32) (i := 2) ch_cX11_posts_32 rfl) (by decide +kernel)
theorem dX11_posts_35 : decode cX11_posts 35 = .ok (.aload_n 0, 1) := do_42 (rdb (p := 32) (i := 3) ch_cX11_posts_32 rfl)
theorem dX11_posts_36 : decode cX11_posts 36 = .ok (.iconst 1, 1) := do_4 (rdb (p := 32) (i := 4) ch_cX11_posts_32 rfl)
theorem dX11_posts_37 : decode cX11_posts 37 = .ok (.invokevirtual 67, 3) := do_182 (rdb (p := 32) (i := 5) ch_cX11_posts_32 rfl) (rdb (p := 32) (i := 6) ch_cX11_posts_32 rfl) (rdb (p := 32) (i := 7) ch_cX11_posts_32 rfl) rfl
theorem dX11_posts_40 : decode cX11_posts 40 = .ok (.ireturn, 1) := do_172 (rdb (p := 32) (i := 8) ch_cX11_posts_32 rfl)
theorem dX11_posts_41 : decode cX11_posts 41 = .ok (.aload_n 0, 1) := do_42 (rdb (p := 32) (i := 9) ch_cX11_posts_32 rfl)
theorem dX11_posts_42 : decode cX11_posts 42 = .ok (.getfield 24, 3) := do_180 (rdb (p := 32) (i := 10) ch_cX11_posts_32 rfl) (rdb (p := 32) (i := 11) ch_cX11_posts_32 rfl) (rdb (p := 32) (i := 12) ch_cX11_posts_32 rfl) rfl
theorem dX11_posts_45 : decode cX11_posts 45 = .ok (.iload_n 2, 1) := do_28 (rdb (p := 32) (i := 13) ch_cX11_posts_32 rfl)
theorem dX11_posts_46 : decode cX11_posts 46 = .ok (.aaload, 1) := do_50 (rdb (p := 32) (i := 14) ch_cX11_posts_32 rfl)
theorem dX11_posts_47 : decode cX11_posts 47 = .ok (.invokevirtual 130, 3) := do_182 (rdb (p := 32) (i := 15) ch_cX11_posts_32 rfl) (rdb (p := 32) (i := 16) ch_cX11_posts_32 rfl) (rdb (p := 32) (i := 17) ch_cX11_posts_32 rfl) rfl
theorem dX11_posts_50 : decode cX11_posts 50 = .ok (.ifCond .ne 15, 3) := do_154 (rdb (p := 32) (i := 18) ch_cX11_posts_32 rfl) (rdb (p := 32) (i := 19) ch_cX11_posts_32 rfl) (rdb (p := 32) (i := 20) ch_cX11_posts_32 rfl) (by decide +kernel)
theorem dX11_posts_53 : decode cX11_posts 53 = .ok (.aload_n 0, 1) := do_42 (rdb (p := 32) (i := 21) ch_cX11_posts_32 rfl)
theorem dX11_posts_54 : decode cX11_posts 54 = .ok (.getfield 24, 3) := do_180 (rdb (p := 32) (i := 22) ch_cX11_posts_32 rfl) (rdb (p := 32) (i := 23) ch_cX11_posts_32 rfl) (rdb (p := 32) (i := 24) ch_cX11_posts_32 rfl) rfl
theorem dX11_posts_57 : decode cX11_posts 57 = .ok (.iload_n 3, 1) := do_29 (rdb (p := 32) (i := 25) ch_cX11_posts_32 rfl)
theorem dX11_posts_58 : decode cX11_posts 58 = .ok (.aaload, 1) := do_50 (rdb (p := 32) (i := 26) ch_cX11_posts_32 rfl)
theorem dX11_posts_59 : decode cX11_posts 59 = .ok (.invokevirtual 130, 3) := do_182 (rdb (p := 32) (i := 27) ch_cX11_posts_32 rfl) (rdb (p := 32) (i := 28) ch_cX11_posts_32 rfl) (rdb (p := 32) (i := 29) ch_cX11_posts_32 rfl) rfl
theorem dX11_posts_62 : decode cX11_posts 62 = .ok (.ifCond .eq 9, 3) := do_153 (rdb (p := 32) (i := 30) ch_cX11_posts_32 rfl) (rdb (p := 32) (i := 31) ch_cX11_posts_32 rfl) (rdb (p := 32) (i := 32) ch_cX11_posts_32 rfl) (by decide +kernel)
theorem ch_cX11_posts_64 : (cX11_posts.data.toList.drop 64).take 36 = [9, 42, 5, 182, 0, 67, 172, 42, 180, 0, 24, 28, 50, 182, 1, 18, 153, 0, 15, 42, 180, 0, 24, 29, 50, 182, 1, 18, 154, 0, 9, 42, 8, 182, 0, 67] := by decide +kernel
theorem dX11_posts_65 : decode cX11_posts 65 = .ok (.aload_n 0, 1) := do_42 (rdb (p := 64) (i := 1) ch_cX11_posts_64 rfl)
theorem dX11_posts_66 : decode cX11_posts 66 = .ok (.iconst 2, 1) := do_5 (rdb (p := 64) (i := 2) ch_cX11_posts_64 rfl)
theorem dX11_posts_67 : decode cX11_posts 67 = .ok (.invokevirtual 67, 3) := do_182 (rdb (p := 64) (i := 3) ch_cX11_posts_64 rfl) (rdb (p := 64) (i := 4) ch_cX11_posts_64 rfl) (rdb (p := 64) (i := 5) ch_cX11_posts_64 rfl) rfl
theorem dX11_posts_70 : decode cX11_posts 70 = .ok (.ireturn, 1) := do_172 (rdb (p := 64) (i := 6) ch_cX11_posts_64 rfl)
theorem dX11_posts_71 : decode cX11_posts 71 = .ok (.aload_n 0, 1) := do_42 (rdb (p := 64) (i := 7) ch_cX11_posts_64 rfl)
theorem dX11_posts_72 : decode cX11_posts 72 = .ok (.getfield 24, 3) := do_180 (rdb (p := 64) (i := 8) ch_cX11_posts_64 rfl) (rdb (p := 64) (i := 9) ch_cX11_posts_64 rfl) (rdb (p := 64) (i := 10) ch_cX11_posts_64 rfl) rfl
theorem dX11_posts_75 : decode cX11_posts 75 = .ok (.iload_n 2, 1) := do_28 (rdb (p := 64) (i := 11) ch_cX11_posts_64 rfl)
theorem dX11_posts_76 : decode cX11_posts 76 = .ok (.aaload, 1) := do_50 (rdb (p := 64) (i := 12) ch_cX11_posts_64 rfl)
theorem dX11_posts_77 : decode cX11_posts 77 = .ok (.invokevirtual 274, 3) := do_182 (rdb (p := 64) (i := 13) ch_cX11_posts_64 rfl) (rdb (p := 64) (i := 14) ch_cX11_posts_64 rfl) (rdb (p := 64) (i := 15) ch_cX11_posts_64 rfl) rfl
theorem dX11_posts_80 : decode cX11_posts 80 = .ok (.ifCond .eq 15, 3) := do_153 (rdb (p := 64) (i := 16) ch_cX11_posts_64 rfl) (rdb (p := 64) (i := 17) ch_cX11_posts_64 rfl) (rdb (p := 64) (i := 18) ch_cX11_posts_64 rfl) (by decide +kernel)
theorem dX11_posts_83 : decode cX11_posts 83 = .ok (.aload_n 0, 1) := do_42 (rdb (p := 64) (i := 19) ch_cX11_posts_64 rfl)
theorem dX11_posts_84 : decode cX11_posts 84 = .ok (.getfield 24, 3) := do_180 (rdb (p := 64) (i := 20) ch_cX11_posts_64 rfl) (rdb (p := 64) (i := 21) ch_cX11_posts_64 rfl) (rdb (p := 64) (i := 22) ch_cX11_posts_64 rfl) rfl
theorem dX11_posts_87 : decode cX11_posts 87 = .ok (.iload_n 3, 1) := do_29 (rdb (p := 64) (i := 23) ch_cX11_posts_64 rfl)
theorem dX11_posts_88 : decode cX11_posts 88 = .ok (.aaload, 1) := do_50 (rdb (p := 64) (i := 24) ch_cX11_posts_64 rfl)
theorem dX11_posts_89 : decode cX11_posts 89 = .ok (.invokevirtual 274, 3) := do_182 (rdb (p := 64) (i := 25) ch_cX11_posts_64 rfl) (rdb (p := 64) (i := 26) ch_cX11_posts_64 rfl) (rdb (p := 64) (i := 27) ch_cX11_posts_64 rfl) rfl
theorem dX11_posts_92 : decode cX11_posts 92 = .ok (.ifCond .ne 9, 3) := do_154 (rdb (p := 64) (i := 28) ch_cX11_posts_64 rfl) (rdb (p := 64) (i := 29) ch_cX11_posts_64 rfl) (rdb (p := 64) (i := 30) ch_cX11_posts_64 rfl) (by decide +kernel)
theorem dX11_posts_95 : decode cX11_posts 95 = .ok (.aload_n 0, 1) := do_42 (rdb (p := 64) (i := 31) ch_cX11_posts_64 rfl)
theorem ch_cX11_posts_96 : (cX11_posts.data.toList.drop 96).take 36 = [8, 182, 0, 67, 172, 42, 180, 0, 42, 42, 180, 0, 10, 27, 42, 180, 0, 24, 28, 50, 42, 180, 0, 24, 29, 50, 182, 1, 78, 154, 0, 9, 42, 6, 182, 0] := by decide +kernel
theorem dX11_posts_96 : decode cX11_posts 96 = .ok (.iconst 5, 1) := do_8 (rdb (p := 96) (i := 0) ch_cX11_posts_96 rfl)
theorem dX11_posts_97 : decode cX11_posts 97 = .ok (.invokevirtual 67, 3) := do_182 (rdb (p := 96) (i := 1) ch_cX11_posts_96 rfl) (rdb (p := 96) (i := 2) ch_cX11_posts_96 rfl) (rdb (p := 96) (i := 3) ch_cX11_posts_96 rfl) rfl
theorem dX11_posts_100 : decode cX11_posts 100 = .ok (.ireturn, 1) := do_172 (rdb (p := 96) (i := 4) ch_cX11_posts_96 rfl)
theorem dX11_posts_101 : decode cX11_posts 101 = .ok (.aload_n 0, 1) := do_42 (rdb (p := 96) (i := 5) ch_cX11_posts_96 rfl)
theorem dX11_posts_102 : decode cX11_posts 102 = .ok (.getfield 42, 3) := do_180 (rdb (p := 96) (i := 6) ch_cX11_posts_96 rfl) (rdb (p := 96) (i := 7) ch_cX11_posts_96 rfl) (rdb (p := 96) (i := 8) ch_cX11_posts_96 rfl) rfl
theorem dX11_posts_105 : decode cX11_posts 105 = .ok (.aload_n 0, 1) := do_42 (rdb (p := 96) (i := 9) ch_cX11_posts_96 rfl)
theorem dX11_posts_106 : decode cX11_posts 106 = .ok (.getfield 10, 3) := do_180 (rdb (p := 96) (i := 10) ch_cX11_posts_96 rfl) (rdb (p := 96) (i := 11) ch_cX11_posts_96 rfl) (rdb (p := 96) (i := 12) ch_cX11_posts_96 rfl) rfl
theorem dX11_posts_109 : decode cX11_posts 109 = .ok (.iload_n 1, 1) := do_27 (rdb (p := 96) (i := 13) ch_cX11_posts_96 rfl)
theorem dX11_posts_110 : decode cX11_posts 110 = .ok (.aload_n 0, 1) := do_42 (rdb (p := 96) (i := 14) ch_cX11_posts_96 rfl)
theorem dX11_posts_111 : decode cX11_posts 111 = .ok (.getfield 24, 3) := do_180 (rdb (p := 96) (i := 15) ch_cX11_posts_96 rfl) (rdb (p := 96) (i := 16) ch_cX11_posts_96 rfl) (rdb (p := 96) (i := 17) ch_cX11_posts_96 rfl) rfl
theorem dX11_posts_114 : decode cX11_posts 114 = .ok (.iload_n 2, 1) := do_28 (rdb (p := 96) (i := 18) ch_cX11_posts_96 rfl)
theorem dX11_posts_115 : decode cX11_posts 115 = .ok (.aaload, 1) := do_50 (rdb (p := 96) (i := 19) ch_cX11_posts_96 rfl)
theorem dX11_posts_116 : decode cX11_posts 116 = .ok (.aload_n 0, 1) := do_42 (rdb (p := 96) (i := 20) ch_cX11_posts_96 rfl)
theorem dX11_posts_117 : decode cX11_posts 117 = .ok (.getfield 24, 3) := do_180 (rdb (p := 96) (i := 21) ch_cX11_posts_96 rfl) (rdb (p := 96) (i := 22) ch_cX11_posts_96 rfl) (rdb (p := 96) (i := 23) ch_cX11_posts_96 rfl) rfl
theorem dX11_posts_120 : decode cX11_posts 120 = .ok (.iload_n 3, 1) := do_29 (rdb (p := 96) (i := 24) ch_cX11_posts_96 rfl)
theorem dX11_posts_121 : decode cX11_posts 121 = .ok (.aaload, 1) := do_50 (rdb (p := 96) (i := 25) ch_cX11_posts_96 rfl)
theorem dX11_posts_122 : decode cX11_posts 122 = .ok (.invokevirtual 334, 3) := do_182 (rdb (p := 96) (i := 26) ch_cX11_posts_96 rfl) (rdb (p := 96) (i := 27) ch_cX11_posts_96 rfl) (rdb (p := 96) (i := 28) ch_cX11_posts_96 rfl) rfl
theorem dX11_posts_125 : decode cX11_posts 125 = .ok (.ifCond .ne 9, 3) := do_154 (rdb (p := 96) (i := 29) ch_cX11_posts_96 rfl) (rdb (p := 96) (i := 30) ch_cX11_posts_96 rfl) (rdb (p := 96) (i := 31) ch_cX11_posts_96 rfl) (by decide +kernel)
theorem ch_cX11_posts_128 : (cX11_posts.data.toList.drop 128).take 36 = [42, 6, 182, 0, 67, 172, 21, 4, 154, 0, 16, 42, 180, 0, 42, 180, 1, 31, 184, 1, 82, 167, 0, 10, 42, 180, 0, 42, 180, 1, 31, 172] := by decide +kernel
theorem dX11_posts_128 : decode cX11_posts 128 = .ok (.aload_n 0, 1) := do_42 (rdb (p := 128) (i := 0) ch_cX11_posts_128 rfl)
theorem dX11_posts_129 : decode cX11_posts 129 = .ok (.iconst 3, 1) := do_6 (rdb (p := 128) (i := 1) ch_cX11_posts_128 rfl)
theorem dX11_posts_130 : decode cX11_posts 130 = .ok (.invokevirtual 67, 3) := do_182 (rdb (p := 128) (i := 2) ch_cX11_posts_128 rfl) (rdb (p := 128) (i := 3) ch_cX11_posts_128 rfl) (rdb (p := 128) (i := 4) ch_cX11_posts_128 rfl) rfl
theorem dX11_posts_133 : decode cX11_posts 133 = .ok (.ireturn, 1) := do_172 (rdb (p := 128) (i := 5) ch_cX11_posts_128 rfl)
theorem dX11_posts_134 : decode cX11_posts 134 = .ok (.iload 4, 2) := do_21 (rdb (p := 128) (i := 6) ch_cX11_posts_128 rfl) (rdb (p := 128) (i := 7) ch_cX11_posts_128 rfl)
theorem dX11_posts_136 : decode cX11_posts 136 = .ok (.ifCond .ne 16, 3) := do_154 (rdb (p := 128) (i := 8) ch_cX11_posts_128 rfl) (rdb (p := 128) (i := 9) ch_cX11_posts_128 rfl) (rdb (p := 128) (i := 10) ch_cX11_posts_128 rfl) (by decide +kernel)
theorem dX11_posts_139 : decode cX11_posts 139 = .ok (.aload_n 0, 1) := do_42 (rdb (p := 128) (i := 11) ch_cX11_posts_128 rfl)
theorem dX11_posts_140 : decode cX11_posts 140 = .ok (.getfield 42, 3) := do_180 (rdb (p := 128) (i := 12) ch_cX11_posts_128 rfl) (rdb (p := 128) (i := 13) ch_cX11_posts_128 rfl) (rdb (p := 128) (i := 14) ch_cX11_posts_128 rfl) rfl
theorem dX11_posts_143 : decode cX11_posts 143 = .ok (.getfield 287, 3) := do_180 (rdb (p := 128) (i := 15) ch_cX11_posts_128 rfl) (rdb (p := 128) (i := 16) ch_cX11_posts_128 rfl) (rdb (p := 128) (i := 17) ch_cX11_posts_128 rfl) rfl
theorem dX11_posts_146 : decode cX11_posts 146 = .ok (.invokestatic 338, 3) := do_184 (rdb (p := 128) (i := 18) ch_cX11_posts_128 rfl) (rdb (p := 128) (i := 19) ch_cX11_posts_128 rfl) (rdb (p := 128) (i := 20) ch_cX11_posts_128 rfl) rfl
theorem dX11_posts_149 : decode cX11_posts 149 = .ok (.goto 10, 3) := do_167 (rdb (p := 128) (i := 21) ch_cX11_posts_128 rfl) (rdb (p := 128) (i := 22) ch_cX11_posts_128 rfl) (rdb (p := 128) (i := 23) ch_cX11_posts_128 rfl) (by decide +kernel)
theorem dX11_posts_152 : decode cX11_posts 152 = .ok (.aload_n 0, 1) := do_42 (rdb (p := 128) (i := 24) ch_cX11_posts_128 rfl)
theorem dX11_posts_153 : decode cX11_posts 153 = .ok (.getfield 42, 3) := do_180 (rdb (p := 128) (i := 25) ch_cX11_posts_128 rfl) (rdb (p := 128) (i := 26) ch_cX11_posts_128 rfl) (rdb (p := 128) (i := 27) ch_cX11_posts_128 rfl) rfl
theorem dX11_posts_156 : decode cX11_posts 156 = .ok (.getfield 287, 3) := do_180 (rdb (p := 128) (i := 28) ch_cX11_posts_128 rfl) (rdb (p := 128) (i := 29) ch_cX11_posts_128 rfl) (rdb (p := 128) (i := 30) ch_cX11_posts_128 rfl) rfl
theorem dX11_posts_159 : decode cX11_posts 159 = .ok (.ireturn, 1) := do_172 (rdb (p := 128) (i := 31) ch_cX11_posts_128 rfl)
theorem ch_cX11_put_0 : (cX11_put.data.toList.drop 0).take 36 = [27, 184, 0, 127, 154, 0, 9, 42, 4, 182, 0, 67, 172, 42, 180, 0, 24, 27, 50, 182, 0, 130, 153, 0, 9, 42, 5, 182, 0, 67, 172, 42, 180, 0, 24, 27] := by decide +kernel
theorem dX11_put_0 : decode cX11_put 0 = .ok (.iload_n 1, 1) := do_27 (rdb (p := 0) (i := 0) ch_cX11_put_0 rfl)
theorem dX11_put_1 : decode cX11_put 1 = .ok (.invokestatic 127, 3) := do_184 (rdb (p := 0) (i := 1) ch_cX11_put_0 rfl) (rdb (p := 0) (i := 2) ch_cX11_put_0 rfl) (rdb (p := 0) (i := 3) ch_cX11_put_0 rfl) rfl
theorem dX11_put_4 : decode cX11_put 4 = .ok (.ifCond .ne 9, 3) := do_154 (rdb (p := 0) (i := 4) ch_cX11_put_0 rfl) (rdb (p := 0) (i := 5) ch_cX11_put_0 rfl) (rdb (p := 0) (i := 6) ch_cX11_put_0 rfl) (by decide +kernel)
theorem dX11_put_7 : decode cX11_put 7 = .ok (.aload_n 0, 1) := do_42 (rdb (p := 0) (i := 7) ch_cX11_put_0 rfl)
theorem dX11_put_8 : decode cX11_put 8 = .ok (.iconst 1, 1) := do_4 (rdb (p := 0) (i := 8) ch_cX11_put_0 rfl)
theorem dX11_put_9 : decode cX11_put 9 = .ok (.invokevirtual 67, 3) := do_182 (rdb (p := 0) (i := 9) ch_cX11_put_0 rfl) (rdb (p := 0) (i := 10) ch_cX11_put_0 rfl) (rdb (p := 0) (i := 11) ch_cX11_put_0 rfl) rfl
theorem dX11_put_12 : decode cX11_put 12 = .ok (.ireturn, 1) := do_172 (rdb (p := 0) (i := 12) ch_cX11_put_0 rfl)
theorem dX11_put_13 : decode cX11_put 13 = .ok (.aload_n 0, 1) := do_42 (rdb (p := 0) (i := 13) ch_cX11_put_0 rfl)
theorem dX11_put_14 : decode cX11_put 14 = .ok (.getfield 24, 3) := do_180 (rdb (p := 0) (i := 14) ch_cX11_put_0 rfl) (rdb (p := 0) (i := 15) ch_cX11_put_0 rfl) (rdb (p := 0) (i := 16) ch_cX11_put_0 rfl) rfl
theorem dX11_put_17 : decode cX11_put 17 = .ok (.iload_n 1, 1) := do_27 (rdb (p := 0) (i := 17) ch_cX11_put_0 rfl)
theorem dX11_put_18 : decode cX11_put 18 = .ok (.aaload, 1) := do_50 (rdb (p := 0) (i := 18) ch_cX11_put_0 rfl)
theorem dX11_put_19 : decode cX11_put 19 = .ok (.invokevirtual 130, 3) := do_182 (rdb (p := 0) (i := 19) ch_cX11_put_0 rfl) (rdb (p := 0) (i := 20) ch_cX11_put_0 rfl) (rdb (p := 0) (i := 21) ch_cX11_put_0 rfl) rfl
theorem dX11_put_22 : decode cX11_put 22 = .ok (.ifCond .eq 9, 3) := do_153 (rdb (p := 0) (i := 22) ch_cX11_put_0 rfl) (rdb (p := 0) (i := 23) ch_cX11_put_0 rfl) (rdb (p := 0) (i := 24) ch_cX11_put_0 rfl) (by decide +kernel)
theorem dX11_put_25 : decode cX11_put 25 = .ok (.aload_n 0, 1) := do_42 (rdb (p := 0) (i := 25) ch_cX11_put_0 rfl)
theorem dX11_put_26 : decode cX11_put 26 = .ok (.iconst 2, 1) := do_5 (rdb (p := 0) (i := 26) ch_cX11_put_0 rfl)
theorem dX11_put_27 : decode cX11_put 27 = .ok (.invokevirtual 67, 3) := do_182 (rdb (p := 0) (i := 27) ch_cX11_put_0 rfl) (rdb (p := 0) (i := 28) ch_cX11_put_0 rfl) (rdb (p := 0) (i := 29) ch_cX11_put_0 rfl) rfl
theorem dX11_put_30 : decode cX11_put 30 = .ok (.ireturn, 1) := do_172 (rdb (p := 0) (i := 30) ch_cX11_put_0 rfl)
theorem dX11_put_31 : decode cX11_put 31 = .ok (.aload_n 0, 1) := do_42 (rdb (p := 0) (i := 31) ch_cX11_put_0 rfl)
theorem ch_cX11_put_32 : (cX11_put.data.toList.drop 32).take 36 = [180, 0, 24, 27, 50, 28, 182, 1, 110, 154, 0, 9, 42, 4, 182, 0, 67, 172, 42, 180, 0, 24, 27, 50, 28, 29, 182, 1, 111, 4, 172] := by decide +kernel
theorem dX11_put_32 : decode cX11_put 32 = .ok (.getfield 24, 3) := do_180 (rdb (p := 32) (i := 0) ch_cX11_put_32 rfl) (rdb (p := 32) (i := 1) ch_cX11_put_32 rfl) (rdb (p := 32) (i := 2) ch_cX11_put_32 rfl) rfl
theorem dX11_put_35 : decode cX11_put 35 = .ok (.iload_n 1, 1) := do_27 (rdb (p := 32) (i := 3) ch_cX11_put_32 rfl)
theorem dX11_put_36 : decode cX11_put 36 = .ok (.aaload, 1) := do_50 (rdb (p := 32) (i := 4) ch_cX11_put_32 rfl)
theorem dX11_put_37 : decode cX11_put 37 = .ok (.iload_n 2, 1) := do_28 (rdb (p := 32) (i := 5) ch_cX11_put_32 rfl)
theorem dX11_put_38 : decode cX11_put 38 = .ok (.invokevirtual 366, 3) := do_182 (rdb (p := 32) (i := 6) ch_cX11_put_32 rfl) (rdb (p := 32) (i := 7) ch_cX11_put_32 rfl) (rdb (p := 32) (i := 8) ch_cX11_put_32 rfl) rfl
theorem dX11_put_41 : decode cX11_put 41 = .ok (.ifCond .ne 9, 3) := do_154 (rdb (p := 32) (i := 9) ch_cX11_put_32 rfl) (rdb (p := 32) (i := 10) ch_cX11_put_32 rfl) (rdb (p := 32) (i := 11) ch_cX11_put_32 rfl) (by decide +kernel)
theorem dX11_put_44 : decode cX11_put 44 = .ok (.aload_n 0, 1) := do_42 (rdb (p := 32) (i := 12) ch_cX11_put_32 rfl)
theorem dX11_put_45 : decode cX11_put 45 = .ok (.iconst 1, 1) := do_4 (rdb (p := 32) (i := 13) ch_cX11_put_32 rfl)
theorem dX11_put_46 : decode cX11_put 46 = .ok (.invokevirtual 67, 3) := do_182 (rdb (p := 32) (i := 14) ch_cX11_put_32 rfl) (rdb (p := 32) (i := 15) ch_cX11_put_32 rfl) (rdb (p := 32) (i := 16) ch_cX11_put_32 rfl) rfl
theorem dX11_put_49 : decode cX11_put 49 = .ok (.ireturn, 1) := do_172 (rdb (p := 32) (i := 17) ch_cX11_put_32 rfl)
theorem dX11_put_50 : decode cX11_put 50 = .ok (.aload_n 0, 1) := do_42 (rdb (p := 32) (i := 18) ch_cX11_put_32 rfl)
theorem dX11_put_51 : decode cX11_put 51 = .ok (.getfield 24, 3) := do_180 (rdb (p := 32) (i := 19) ch_cX11_put_32 rfl) (rdb (p := 32) (i := 20) ch_cX11_put_32 rfl) (rdb (p := 32) (i := 21) ch_cX11_put_32 rfl) rfl
theorem dX11_put_54 : decode cX11_put 54 = .ok (.iload_n 1, 1) := do_27 (rdb (p := 32) (i := 22) ch_cX11_put_32 rfl)
theorem dX11_put_55 : decode cX11_put 55 = .ok (.aaload, 1) := do_50 (rdb (p := 32) (i := 23) ch_cX11_put_32 rfl)
theorem dX11_put_56 : decode cX11_put 56 = .ok (.iload_n 2, 1) := do_28 (rdb (p := 32) (i := 24) ch_cX11_put_32 rfl)
theorem dX11_put_57 : decode cX11_put 57 = .ok (.iload_n 3, 1) := do_29 (rdb (p := 32) (i := 25) ch_cX11_put_32 rfl)
theorem dX11_put_58 : decode cX11_put 58 = .ok (.invokevirtual 367, 3) := do_182 (rdb (p := 32) (i := 26) ch_cX11_put_32 rfl) (rdb (p := 32) (i := 27) ch_cX11_put_32 rfl) (rdb (p := 32) (i := 28) ch_cX11_put_32 rfl) rfl
theorem dX11_put_61 : decode cX11_put 61 = .ok (.iconst 1, 1) := do_4 (rdb (p := 32) (i := 29) ch_cX11_put_32 rfl)
theorem dX11_put_62 : decode cX11_put 62 = .ok (.ireturn, 1) := do_172 (rdb (p := 32) (i := 30) ch_cX11_put_32 rfl)
theorem dX11_restore_0 : decode cX11_restore 0 = .ok (.aload_n 0, 1) := by decide +kernel
theorem dX11_restore_1 : decode cX11_restore 1 = .ok (.getfield 53, 3) := by decide +kernel
theorem dX11_restore_4 : decode cX11_restore 4 = .ok (.ifCond .ne 9, 3) := by decide +kernel
theorem dX11_restore_7 : decode cX11_restore 7 = .ok (.aload_n 0, 1) := by decide +kernel
theorem dX11_restore_8 : decode cX11_restore 8 = .ok (.iconst 2, 1) := by decide +kernel
theorem dX11_restore_9 : decode cX11_restore 9 = .ok (.invokevirtual 67, 3) := by decide +kernel
theorem dX11_restore_12 : decode cX11_restore 12 = .ok (.ireturn, 1) := by decide +kernel
theorem dX11_restore_13 : decode cX11_restore 13 = .ok (.aload_n 0, 1) := by decide +kernel
theorem dX11_restore_14 : decode cX11_restore 14 = .ok (.getfield 10, 3) := by decide +kernel
theorem dX11_restore_17 : decode cX11_restore 17 = .ok (.aload_n 0, 1) := by decide +kernel
theorem dX11_restore_18 : decode cX11_restore 18 = .ok (.getfield 16, 3) := by decide +kernel
theorem dX11_restore_21 : decode cX11_restore 21 = .ok (.invokevirtual 382, 3) := by decide +kernel
theorem dX11_restore_24 : decode cX11_restore 24 = .ok (.aload_n 0, 1) := by decide +kernel
theorem dX11_restore_25 : decode cX11_restore 25 = .ok (.getfield 10, 3) := by decide +kernel
theorem dX11_restore_28 : decode cX11_restore 28 = .ok (.getfield 290, 3) := by decide +kernel
theorem dX11_restore_31 : decode cX11_restore 31 = .ok (.ireturn, 1) := by decide +kernel
theorem ch_cX11_safe_0 : (cX11_safe.data.toList.drop 0).take 36 = [42, 180, 0, 10, 27, 182, 0, 154, 154, 0, 9, 42, 4, 182, 0, 67, 172, 42, 180, 0, 10, 27, 182, 1, 51, 61, 3, 62, 29, 16, 9, 162, 0, 22, 29, 4] := by decide +kernel
theorem dX11_safe_0 : decode cX11_safe 0 = .ok (.aload_n 0, 1) := do_42 (rdb (p := 0) (i := 0) ch_cX11_safe_0 rfl)
theorem dX11_safe_1 : decode cX11_safe 1 = .ok (.getfield 10, 3) := do_180 (rdb (p := 0) (i := 1) ch_cX11_safe_0 rfl) (rdb (p := 0) (i := 2) ch_cX11_safe_0 rfl) (rdb (p := 0) (i := 3) ch_cX11_safe_0 rfl) rfl
theorem dX11_safe_4 : decode cX11_safe 4 = .ok (.iload_n 1, 1) := do_27 (rdb (p := 0) (i := 4) ch_cX11_safe_0 rfl)
theorem dX11_safe_5 : decode cX11_safe 5 = .ok (.invokevirtual 154, 3) := do_182 (rdb (p := 0) (i := 5) ch_cX11_safe_0 rfl) (rdb (p := 0) (i := 6) ch_cX11_safe_0 rfl) (rdb (p := 0) (i := 7) ch_cX11_safe_0 rfl) rfl
theorem dX11_safe_8 : decode cX11_safe 8 = .ok (.ifCond .ne 9, 3) := do_154 (rdb (p := 0) (i := 8) ch_cX11_safe_0 rfl) (rdb (p := 0) (i := 9) ch_cX11_safe_0 rfl) (rdb (p := 0) (i := 10) ch_cX11_safe_0 rfl) (by decide +kernel)
theorem dX11_safe_11 : decode cX11_safe 11 = .ok (.aload_n 0, 1) := do_42 (rdb (p := 0) (i := 11) ch_cX11_safe_0 rfl)
theorem dX11_safe_12 : decode cX11_safe 12 = .ok (.iconst 1, 1) := do_4 (rdb (p := 0) (i := 12) ch_cX11_safe_0 rfl)
theorem dX11_safe_13 : decode cX11_safe 13 = .ok (.invokevirtual 67, 3) := do_182 (rdb (p := 0) (i := 13) ch_cX11_safe_0 rfl) (rdb (p := 0) (i := 14) ch_cX11_safe_0 rfl) (rdb (p := 0) (i := 15) ch_cX11_safe_0 rfl) rfl
theorem dX11_safe_16 : decode cX11_safe 16 = .ok (.ireturn, 1) := do_172 (rdb (p := 0) (i := 16) ch_cX11_safe_0 rfl)
theorem dX11_safe_17 : decode cX11_safe 17 = .ok (.aload_n 0, 1) := do_42 (rdb (p := 0) (i := 17) ch_cX11_safe_0 rfl)
theorem dX11_safe_18 : decode cX11_safe 18 = .ok (.getfield 10, 3) := do_180 (rdb (p := 0) (i := 18) ch_cX11_safe_0 rfl) (rdb (p := 0) (i := 19) ch_cX11_safe_0 rfl) (rdb (p := 0) (i := 20) ch_cX11_safe_0 rfl) rfl
theorem dX11_safe_21 : decode cX11_safe 21 = .ok (.iload_n 1, 1) := do_27 (rdb (p := 0) (i := 21) ch_cX11_safe_0 rfl)
theorem dX11_safe_22 : decode cX11_safe 22 = .ok (.invokevirtual 307, 3) := do_182 (rdb (p := 0) (i := 22) ch_cX11_safe_0 rfl) (rdb (p := 0) (i := 23) ch_cX11_safe_0 rfl) (rdb (p := 0) (i := 24) ch_cX11_safe_0 rfl) rfl
theorem dX11_safe_25 : decode cX11_safe 25 = .ok (.istore_n 2, 1) := do_61 (rdb (p := 0) (i := 25) ch_cX11_safe_0 rfl)
theorem dX11_safe_26 : decode cX11_safe 26 = .ok (.iconst 0, 1) := do_3 (rdb (p := 0) (i := 26) ch_cX11_safe_0 rfl)
theorem dX11_safe_27 : decode cX11_safe 27 = .ok (.istore_n 3, 1) := do_62 (rdb (p := 0) (i := 27) ch_cX11_safe_0 rfl)
theorem dX11_safe_28 : decode cX11_safe 28 = .ok (.iload_n 3, 1) := do_29 (rdb (p := 0) (i := 28) ch_cX11_safe_0 rfl)
theorem dX11_safe_29 : decode cX11_safe 29 = .ok (.bipush 9, 2) := do_16 (rdb (p := 0) (i := 29) ch_cX11_safe_0 rfl) (rdb (p := 0) (i := 30) ch_cX11_safe_0 rfl) (by decide +kernel)
theorem dX11_safe_31 : decode cX11_safe 31 = .ok (.if_icmp .ge 22, 3) := do_162 (rdb (p := 0) (i := 31) ch_cX11_safe_0 rfl) (rdb (p := 0) (i := 32) ch_cX11_safe_0 rfl) (rdb (p := 0) (i := 33) ch_cX11_safe_0 rfl) (by decide +kernel)
theorem ch_cX11_safe_32 : (cX11_safe.data.toList.drop 32).take 36 = [0, 22, 29, 4, 96, 29, 5, 96, 104, 5, 108, 28, 163, 0, 9, 132, 3, 1, 167, 255, 234, 29, 172] := by decide +kernel
theorem dX11_safe_34 : decode cX11_safe 34 = .ok (.iload_n 3, 1) := do_29 (rdb (p := 32) (i := 2) ch_cX11_safe_32 rfl)
theorem dX11_safe_35 : decode cX11_safe 35 = .ok (.iconst 1, 1) := do_4 (rdb (p := 32) (i := 3) ch_cX11_safe_32 rfl)
theorem dX11_safe_36 : decode cX11_safe 36 = .ok (.iadd, 1) := do_96 (rdb (p := 32) (i := 4) ch_cX11_safe_32 rfl)
theorem dX11_safe_37 : decode cX11_safe 37 = .ok (.iload_n 3, 1) := do_29 (rdb (p := 32) (i := 5) ch_cX11_safe_32 rfl)
theorem dX11_safe_38 : decode cX11_safe 38 = .ok (.iconst 2, 1) := do_5 (rdb (p := 32) (i := 6) ch_cX11_safe_32 rfl)
theorem dX11_safe_39 : decode cX11_safe 39 = .ok (.iadd, 1) := do_96 (rdb (p := 32) (i := 7) ch_cX11_safe_32 rfl)
theorem dX11_safe_40 : decode cX11_safe 40 = .ok (.imul, 1) := do_104 (rdb (p := 32) (i := 8) ch_cX11_safe_32 rfl)
theorem dX11_safe_41 : decode cX11_safe 41 = .ok (.iconst 2, 1) := do_5 (rdb (p := 32) (i := 9) ch_cX11_safe_32 rfl)
theorem dX11_safe_42 : decode cX11_safe 42 = .ok (.idiv, 1) := do_108 (rdb (p := 32) (i := 10) ch_cX11_safe_32 rfl)
theorem dX11_safe_43 : decode cX11_safe 43 = .ok (.iload_n 2, 1) := do_28 (rdb (p := 32) (i := 11) ch_cX11_safe_32 rfl)
theorem dX11_safe_44 : decode cX11_safe 44 = .ok (.if_icmp .gt 9, 3) := do_163 (rdb (p := 32) (i := 12) ch_cX11_safe_32 rfl) (rdb (p := 32) (i := 13) ch_cX11_safe_32 rfl) (rdb (p := 32) (i := 14) ch_cX11_safe_32 rfl) (by decide +kernel)
theorem dX11_safe_47 : decode cX11_safe 47 = .ok (.iinc 3 1, 3) := do_132 (rdb (p := 32) (i := 15) ch_cX11_safe_32 rfl) (rdb (p := 32) (i := 16) ch_cX11_safe_32 rfl) (rdb (p := 32) (i := 17) ch_cX11_safe_32 rfl) (by decide +kernel)
theorem dX11_safe_50 : decode cX11_safe 50 = .ok (.goto (-22), 3) := do_167 (rdb (p := 32) (i := 18) ch_cX11_safe_32 rfl) (rdb (p := 32) (i := 19) ch_cX11_safe_32 rfl) (rdb (p := 32) (i := 20) ch_cX11_safe_32 rfl) (by decide +kernel)
theorem dX11_safe_53 : decode cX11_safe 53 = .ok (.iload_n 3, 1) := do_29 (rdb (p := 32) (i := 21) ch_cX11_safe_32 rfl)
theorem dX11_safe_54 : decode cX11_safe 54 = .ok (.ireturn, 1) := do_172 (rdb (p := 32) (i := 22) ch_cX11_safe_32 rfl)
theorem ch_cX11_sheet_0 : (cX11_sheet.data.toList.drop 0).take 36 = [27, 184, 0, 127, 153, 0, 25, 28, 153, 0, 27, 28, 16, 8, 159, 0, 21, 28, 16, 16, 159, 0, 15, 28, 16, 32, 159, 0, 9, 42, 4, 182, 0, 67, 172, 28] := by decide +kernel
theorem dX11_sheet_0 : decode cX11_sheet 0 = .ok (.iload_n 1, 1) := do_27 (rdb (p := 0) (i := 0) ch_cX11_sheet_0 rfl)
theorem dX11_sheet_1 : decode cX11_sheet 1 = .ok (.invokestatic 127, 3) := do_184 (rdb (p := 0) (i := 1) ch_cX11_sheet_0 rfl) (rdb (p := 0) (i := 2) ch_cX11_sheet_0 rfl) (rdb (p := 0) (i := 3) ch_cX11_sheet_0 rfl) rfl
theorem dX11_sheet_4 : decode cX11_sheet 4 = .ok (.ifCond .eq 25, 3) := do_153 (rdb (p := 0) (i := 4) ch_cX11_sheet_0 rfl) (rdb (p := 0) (i := 5) ch_cX11_sheet_0 rfl) (rdb (p := 0) (i := 6) ch_cX11_sheet_0 rfl) (by decide +kernel)
theorem dX11_sheet_7 : decode cX11_sheet 7 = .ok (.iload_n 2, 1) := do_28 (rdb (p := 0) (i := 7) ch_cX11_sheet_0 rfl)
theorem dX11_sheet_8 : decode cX11_sheet 8 = .ok (.ifCond .eq 27, 3) := do_153 (rdb (p := 0) (i := 8) ch_cX11_sheet_0 rfl) (rdb (p := 0) (i := 9) ch_cX11_sheet_0 rfl) (rdb (p := 0) (i := 10) ch_cX11_sheet_0 rfl) (by decide +kernel)
theorem dX11_sheet_11 : decode cX11_sheet 11 = .ok (.iload_n 2, 1) := do_28 (rdb (p := 0) (i := 11) ch_cX11_sheet_0 rfl)
theorem dX11_sheet_12 : decode cX11_sheet 12 = .ok (.bipush 8, 2) := do_16 (rdb (p := 0) (i := 12) ch_cX11_sheet_0 rfl) (rdb (p := 0) (i := 13) ch_cX11_sheet_0 rfl) (by decide +kernel)
theorem dX11_sheet_14 : decode cX11_sheet 14 = .ok (.if_icmp .eq 21, 3) := do_159 (rdb (p := 0) (i := 14) ch_cX11_sheet_0 rfl) (rdb (p := 0) (i := 15) ch_cX11_sheet_0 rfl) (rdb (p := 0) (i := 16) ch_cX11_sheet_0 rfl) (by decide +kernel)
theorem dX11_sheet_17 : decode cX11_sheet 17 = .ok (.iload_n 2, 1) := do_28 (rdb (p := 0) (i := 17) ch_cX11_sheet_0 rfl)
theorem dX11_sheet_18 : decode cX11_sheet 18 = .ok (.bipush 16, 2) := do_16 (rdb (p := 0) (i := 18) ch_cX11_sheet_0 rfl) (rdb (p := 0) (i := 19) ch_cX11_sheet_0 rfl) (by decide +kernel)
theorem dX11_sheet_20 : decode cX11_sheet 20 = .ok (.if_icmp .eq 15, 3) := do_159 (rdb (p := 0) (i := 20) ch_cX11_sheet_0 rfl) (rdb (p := 0) (i := 21) ch_cX11_sheet_0 rfl) (rdb (p := 0) (i := 22) ch_cX11_sheet_0 rfl) (by decide +kernel)
theorem dX11_sheet_23 : decode cX11_sheet 23 = .ok (.iload_n 2, 1) := do_28 (rdb (p := 0) (i := 23) ch_cX11_sheet_0 rfl)
theorem dX11_sheet_24 : decode cX11_sheet 24 = .ok (.bipush 32, 2) := do_16 (rdb (p := 0) (i := 24) ch_cX11_sheet_0 rfl) (rdb (p := 0) (i := 25) ch_cX11_sheet_0 rfl) (by decide +kernel)
theorem dX11_sheet_26 : decode cX11_sheet 26 = .ok (.if_icmp .eq 9, 3) := do_159 (rdb (p := 0) (i := 26) ch_cX11_sheet_0 rfl) (rdb (p := 0) (i := 27) ch_cX11_sheet_0 rfl) (rdb (p := 0) (i := 28) ch_cX11_sheet_0 rfl) (by decide +kernel)
theorem dX11_sheet_29 : decode cX11_sheet 29 = .ok (.aload_n 0, 1) := do_42 (rdb (p := 0) (i := 29) ch_cX11_sheet_0 rfl)
theorem dX11_sheet_30 : decode cX11_sheet 30 = .ok (.iconst 1, 1) := do_4 (rdb (p := 0) (i := 30) ch_cX11_sheet_0 rfl)
theorem dX11_sheet_31 : decode cX11_sheet 31 = .ok (.invokevirtual 67, 3) := do_182 (rdb (p := 0) (i := 31) ch_cX11_sheet_0 rfl) (rdb (p := 0) (i := 32) ch_cX11_sheet_0 rfl) (rdb (p := 0) (i := 33) ch_cX11_sheet_0 rfl) rfl
theorem ch_cX11_sheet_32 : (cX11_sheet.data.toList.drop 32).take 36 = [0, 67, 172, 28, 154, 0, 14, 42, 180, 0, 24, 27, 50, 182, 1, 103, 4, 172, 29, 156, 0, 9, 42, 6, 182, 0, 67, 172, 29, 16, 24, 164, 0, 9, 42, 4] := by decide +kernel
theorem dX11_sheet_34 : decode cX11_sheet 34 = .ok (.ireturn, 1) := do_172 (rdb (p := 32) (i := 2) ch_cX11_sheet_32 rfl)
theorem dX11_sheet_35 : decode cX11_sheet 35 = .ok (.iload_n 2, 1) := do_28 (rdb (p := 32) (i := 3) ch_cX11_sheet_32 rfl)
theorem dX11_sheet_36 : decode cX11_sheet 36 = .ok (.ifCond .ne 14, 3) := do_154 (rdb (p := 32) (i := 4) ch_cX11_sheet_32 rfl) (rdb (p := 32) (i := 5) ch_cX11_sheet_32 rfl) (rdb (p := 32) (i := 6) ch_cX11_sheet_32 rfl) (by decide +kernel)
theorem dX11_sheet_39 : decode cX11_sheet 39 = .ok (.aload_n 0, 1) := do_42 (rdb (p := 32) (i := 7) ch_cX11_sheet_32 rfl)
theorem dX11_sheet_40 : decode cX11_sheet 40 = .ok (.getfield 24, 3) := do_180 (rdb (p := 32) (i := 8) ch_cX11_sheet_32 rfl) (rdb (p := 32) (i := 9) ch_cX11_sheet_32 rfl) (rdb (p := 32) (i := 10) ch_cX11_sheet_32 rfl) rfl
theorem dX11_sheet_43 : decode cX11_sheet 43 = .ok (.iload_n 1, 1) := do_27 (rdb (p := 32) (i := 11) ch_cX11_sheet_32 rfl)
theorem dX11_sheet_44 : decode cX11_sheet 44 = .ok (.aaload, 1) := do_50 (rdb (p := 32) (i := 12) ch_cX11_sheet_32 rfl)
theorem dX11_sheet_45 : decode cX11_sheet 45 = .ok (.invokevirtual 359, 3) := do_182 (rdb (p := 32) (i := 13) ch_cX11_sheet_32 rfl) (rdb (p := 32) (i := 14) ch_cX11_sheet_32 rfl) (rdb (p := 32) (i := 15) ch_cX11_sheet_32 rfl) rfl
theorem dX11_sheet_48 : decode cX11_sheet 48 = .ok (.iconst 1, 1) := do_4 (rdb (p := 32) (i := 16) ch_cX11_sheet_32 rfl)
theorem dX11_sheet_49 : decode cX11_sheet 49 = .ok (.ireturn, 1) := do_172 (rdb (p := 32) (i := 17) ch_cX11_sheet_32 rfl)
theorem dX11_sheet_50 : decode cX11_sheet 50 = .ok (.iload_n 3, 1) := do_29 (rdb (p := 32) (i := 18) ch_cX11_sheet_32 rfl)
theorem dX11_sheet_51 : decode cX11_sheet 51 = .ok (.ifCond .ge 9, 3) := do_156 (rdb (p := 32) (i := 19) ch_cX11_sheet_32 rfl) (rdb (p := 32) (i := 20) ch_cX11_sheet_32 rfl) (rdb (p := 32) (i := 21) ch_cX11_sheet_32 rfl) (by decide +kernel)
theorem dX11_sheet_54 : decode cX11_sheet 54 = .ok (.aload_n 0, 1) := do_42 (rdb (p := 32) (i := 22) ch_cX11_sheet_32 rfl)
theorem dX11_sheet_55 : decode cX11_sheet 55 = .ok (.iconst 3, 1) := do_6 (rdb (p := 32) (i := 23) ch_cX11_sheet_32 rfl)
theorem dX11_sheet_56 : decode cX11_sheet 56 = .ok (.invokevirtual 67, 3) := do_182 (rdb (p := 32) (i := 24) ch_cX11_sheet_32 rfl) (rdb (p := 32) (i := 25) ch_cX11_sheet_32 rfl) (rdb (p := 32) (i := 26) ch_cX11_sheet_32 rfl) rfl
theorem dX11_sheet_59 : decode cX11_sheet 59 = .ok (.ireturn, 1) := do_172 (rdb (p := 32) (i := 27) ch_cX11_sheet_32 rfl)
theorem dX11_sheet_60 : decode cX11_sheet 60 = .ok (.iload_n 3, 1) := do_29 (rdb (p := 32) (i := 28) ch_cX11_sheet_32 rfl)
theorem dX11_sheet_61 : decode cX11_sheet 61 = .ok (.bipush 24, 2) := do_16 (rdb (p := 32) (i := 29) ch_cX11_sheet_32 rfl) (rdb (p := 32) (i := 30) ch_cX11_sheet_32 rfl) (by decide +kernel)
theorem dX11_sheet_63 : decode cX11_sheet 63 = .ok (.if_icmp .le 9, 3) := do_164 (rdb (p := 32) (i := 31) ch_cX11_sheet_32 rfl) (rdb (p := 32) (i := 32) ch_cX11_sheet_32 rfl) (rdb (p := 32) (i := 33) ch_cX11_sheet_32 rfl) (by decide +kernel)
theorem ch_cX11_sheet_64 : (cX11_sheet.data.toList.drop 64).take 36 = [0, 9, 42, 4, 182, 0, 67, 172, 42, 180, 0, 24, 27, 50, 28, 29, 182, 1, 106, 4, 172] := by decide +kernel
theorem dX11_sheet_66 : decode cX11_sheet 66 = .ok (.aload_n 0, 1) := do_42 (rdb (p := 64) (i := 2) ch_cX11_sheet_64 rfl)
theorem dX11_sheet_67 : decode cX11_sheet 67 = .ok (.iconst 1, 1) := do_4 (rdb (p := 64) (i := 3) ch_cX11_sheet_64 rfl)
theorem dX11_sheet_68 : decode cX11_sheet 68 = .ok (.invokevirtual 67, 3) := do_182 (rdb (p := 64) (i := 4) ch_cX11_sheet_64 rfl) (rdb (p := 64) (i := 5) ch_cX11_sheet_64 rfl) (rdb (p := 64) (i := 6) ch_cX11_sheet_64 rfl) rfl
theorem dX11_sheet_71 : decode cX11_sheet 71 = .ok (.ireturn, 1) := do_172 (rdb (p := 64) (i := 7) ch_cX11_sheet_64 rfl)
theorem dX11_sheet_72 : decode cX11_sheet 72 = .ok (.aload_n 0, 1) := do_42 (rdb (p := 64) (i := 8) ch_cX11_sheet_64 rfl)
theorem dX11_sheet_73 : decode cX11_sheet 73 = .ok (.getfield 24, 3) := do_180 (rdb (p := 64) (i := 9) ch_cX11_sheet_64 rfl) (rdb (p := 64) (i := 10) ch_cX11_sheet_64 rfl) (rdb (p := 64) (i := 11) ch_cX11_sheet_64 rfl) rfl
theorem dX11_sheet_76 : decode cX11_sheet 76 = .ok (.iload_n 1, 1) := do_27 (rdb (p := 64) (i := 12) ch_cX11_sheet_64 rfl)
theorem dX11_sheet_77 : decode cX11_sheet 77 = .ok (.aaload, 1) := do_50 (rdb (p := 64) (i := 13) ch_cX11_sheet_64 rfl)
theorem dX11_sheet_78 : decode cX11_sheet 78 = .ok (.iload_n 2, 1) := do_28 (rdb (p := 64) (i := 14) ch_cX11_sheet_64 rfl)
theorem dX11_sheet_79 : decode cX11_sheet 79 = .ok (.iload_n 3, 1) := do_29 (rdb (p := 64) (i := 15) ch_cX11_sheet_64 rfl)
theorem dX11_sheet_80 : decode cX11_sheet 80 = .ok (.invokevirtual 362, 3) := do_182 (rdb (p := 64) (i := 16) ch_cX11_sheet_64 rfl) (rdb (p := 64) (i := 17) ch_cX11_sheet_64 rfl) (rdb (p := 64) (i := 18) ch_cX11_sheet_64 rfl) rfl
theorem dX11_sheet_83 : decode cX11_sheet 83 = .ok (.iconst 1, 1) := do_4 (rdb (p := 64) (i := 19) ch_cX11_sheet_64 rfl)
theorem dX11_sheet_84 : decode cX11_sheet 84 = .ok (.ireturn, 1) := do_172 (rdb (p := 64) (i := 20) ch_cX11_sheet_64 rfl)
theorem ch_cX11_spots_0 : (cX11_spots.data.toList.drop 0).take 36 = [42, 180, 0, 10, 27, 182, 0, 154, 153, 0, 29, 28, 184, 0, 127, 153, 0, 22, 29, 4, 6, 184, 0, 89, 153, 0, 13, 21, 4, 3, 4, 184, 0, 89, 154, 0] := by decide +kernel
theorem dX11_spots_0 : decode cX11_spots 0 = .ok (.aload_n 0, 1) := do_42 (rdb (p := 0) (i := 0) ch_cX11_spots_0 rfl)
theorem dX11_spots_1 : decode cX11_spots 1 = .ok (.getfield 10, 3) := do_180 (rdb (p := 0) (i := 1) ch_cX11_spots_0 rfl) (rdb (p := 0) (i := 2) ch_cX11_spots_0 rfl) (rdb (p := 0) (i := 3) ch_cX11_spots_0 rfl) rfl
theorem dX11_spots_4 : decode cX11_spots 4 = .ok (.iload_n 1, 1) := do_27 (rdb (p := 0) (i := 4) ch_cX11_spots_0 rfl)
theorem dX11_spots_5 : decode cX11_spots 5 = .ok (.invokevirtual 154, 3) := do_182 (rdb (p := 0) (i := 5) ch_cX11_spots_0 rfl) (rdb (p := 0) (i := 6) ch_cX11_spots_0 rfl) (rdb (p := 0) (i := 7) ch_cX11_spots_0 rfl) rfl
theorem dX11_spots_8 : decode cX11_spots 8 = .ok (.ifCond .eq 29, 3) := do_153 (rdb (p := 0) (i := 8) ch_cX11_spots_0 rfl) (rdb (p := 0) (i := 9) ch_cX11_spots_0 rfl) (rdb (p := 0) (i := 10) ch_cX11_spots_0 rfl) (by decide +kernel)
theorem dX11_spots_11 : decode cX11_spots 11 = .ok (.iload_n 2, 1) := do_28 (rdb (p := 0) (i := 11) ch_cX11_spots_0 rfl)
theorem dX11_spots_12 : decode cX11_spots 12 = .ok (.invokestatic 127, 3) := do_184 (rdb (p := 0) (i := 12) ch_cX11_spots_0 rfl) (rdb (p := 0) (i := 13) ch_cX11_spots_0 rfl) (rdb (p := 0) (i := 14) ch_cX11_spots_0 rfl) rfl
theorem dX11_spots_15 : decode cX11_spots 15 = .ok (.ifCond .eq 22, 3) := do_153 (rdb (p := 0) (i := 15) ch_cX11_spots_0 rfl) (rdb (p := 0) (i := 16) ch_cX11_spots_0 rfl) (rdb (p := 0) (i := 17) ch_cX11_spots_0 rfl) (by decide +kernel)
theorem dX11_spots_18 : decode cX11_spots 18 = .ok (.iload_n 3, 1) := do_29 (rdb (p := 0) (i := 18) ch_cX11_spots_0 rfl)
theorem dX11_spots_19 : decode cX11_spots 19 = .ok (.iconst 1, 1) := do_4 (rdb (p := 0) (i := 19) ch_cX11_spots_0 rfl)
theorem dX11_spots_20 : decode cX11_spots 20 = .ok (.iconst 3, 1) := do_6 (rdb (p := 0) (i := 20) ch_cX11_spots_0 rfl)
theorem dX11_spots_21 : decode cX11_spots 21 = .ok (.invokestatic 89, 3) := do_184 (rdb (p := 0) (i := 21) ch_cX11_spots_0 rfl) (rdb (p := 0) (i := 22) ch_cX11_spots_0 rfl) (rdb (p := 0) (i := 23) ch_cX11_spots_0 rfl) rfl
theorem dX11_spots_24 : decode cX11_spots 24 = .ok (.ifCond .eq 13, 3) := do_153 (rdb (p := 0) (i := 24) ch_cX11_spots_0 rfl) (rdb (p := 0) (i := 25) ch_cX11_spots_0 rfl) (rdb (p := 0) (i := 26) ch_cX11_spots_0 rfl) (by decide +kernel)
theorem dX11_spots_27 : decode cX11_spots 27 = .ok (.iload 4, 2) := do_21 (rdb (p := 0) (i := 27) ch_cX11_spots_0 rfl) (rdb (p := 0) (i := 28) ch_cX11_spots_0 rfl)
theorem dX11_spots_29 : decode cX11_spots 29 = .ok (.iconst 0, 1) := do_3 (rdb (p := 0) (i := 29) ch_cX11_spots_0 rfl)
theorem dX11_spots_30 : decode cX11_spots 30 = .ok (.iconst 1, 1) := do_4 (rdb (p := 0) (i := 30) ch_cX11_spots_0 rfl)
theorem dX11_spots_31 : decode cX11_spots 31 = .ok (.invokestatic 89, 3) := do_184 (rdb (p := 0) (i := 31) ch_cX11_spots_0 rfl) (rdb (p := 0) (i := 32) ch_cX11_spots_0 rfl) (rdb (p := 0) (i := 33) ch_cX11_spots_0 rfl) rfl
theorem ch_cX11_spots_32 : (cX11_spots.data.toList.drop 32).take 36 = [0, 89, 154, 0, 9, 42, 4, 182, 0, 67, 172, 42, 180, 0, 24, 28, 50, 182, 0, 130, 153, 0, 9, 42, 5, 182, 0, 67, 172, 42, 180, 0, 24, 28, 50, 182] := by decide +kernel
theorem dX11_spots_34 : decode cX11_spots 34 = .ok (.ifCond .ne 9, 3) := do_154 (rdb (p := 32) (i := 2) ch_cX11_spots_32 rfl) (rdb (p := 32) (i := 3) ch_cX11_spots_32 rfl) (rdb (p := 32) (i := 4) ch_cX11_spots_32 rfl) (by decide +kernel)
theorem dX11_spots_37 : decode cX11_spots 37 = .ok (.aload_n 0, 1) := do_42 (rdb (p := 32) (i := 5) ch_cX11_spots_32 rfl)
theorem dX11_spots_38 : decode cX11_spots 38 = .ok (.iconst 1, 1) := do_4 (rdb (p := 32) (i := 6) ch_cX11_spots_32 rfl)
theorem dX11_spots_39 : decode cX11_spots 39 = .ok (.invokevirtual 67, 3) := do_182 (rdb (p := 32) (i := 7) ch_cX11_spots_32 rfl) (rdb (p := 32) (i := 8) ch_cX11_spots_32 rfl) (rdb (p := 32) (i := 9) ch_cX11_spots_32 rfl) rfl
theorem dX11_spots_42 : decode cX11_spots 42 = .ok (.ireturn, 1) := do_172 (rdb (p := 32) (i := 10) ch_cX11_spots_32 rfl)
theorem dX11_spots_43 : decode cX11_spots 43 = .ok (.aload_n 0, 1) := do_42 (rdb (p := 32) (i := 11) ch_cX11_spots_32 rfl)
theorem dX11_spots_44 : decode cX11_spots 44 = .ok (.getfield 24, 3) := do_180 (rdb (p := 32) (i := 12) ch_cX11_spots_32 rfl) (rdb (p := 32) (i := 13) ch_cX11_spots_32 rfl) (rdb (p := 32) (i := 14) ch_cX11_spots_32 rfl) rfl
theorem dX11_spots_47 : decode cX11_spots 47 = .ok (.iload_n 2, 1) := do_28 (rdb (p := 32) (i := 15) ch_cX11_spots_32 rfl)
theorem dX11_spots_48 : decode cX11_spots 48 = .ok (.aaload, 1) := do_50 (rdb (p := 32) (i := 16) ch_cX11_spots_32 rfl)
theorem dX11_spots_49 : decode cX11_spots 49 = .ok (.invokevirtual 130, 3) := do_182 (rdb (p := 32) (i := 17) ch_cX11_spots_32 rfl) (rdb (p := 32) (i := 18) ch_cX11_spots_32 rfl) (rdb (p := 32) (i := 19) ch_cX11_spots_32 rfl) rfl
theorem dX11_spots_52 : decode cX11_spots 52 = .ok (.ifCond .eq 9, 3) := do_153 (rdb (p := 32) (i := 20) ch_cX11_spots_32 rfl) (rdb (p := 32) (i := 21) ch_cX11_spots_32 rfl) (rdb (p := 32) (i := 22) ch_cX11_spots_32 rfl) (by decide +kernel)
theorem dX11_spots_55 : decode cX11_spots 55 = .ok (.aload_n 0, 1) := do_42 (rdb (p := 32) (i := 23) ch_cX11_spots_32 rfl)
theorem dX11_spots_56 : decode cX11_spots 56 = .ok (.iconst 2, 1) := do_5 (rdb (p := 32) (i := 24) ch_cX11_spots_32 rfl)
theorem dX11_spots_57 : decode cX11_spots 57 = .ok (.invokevirtual 67, 3) := do_182 (rdb (p := 32) (i := 25) ch_cX11_spots_32 rfl) (rdb (p := 32) (i := 26) ch_cX11_spots_32 rfl) (rdb (p := 32) (i := 27) ch_cX11_spots_32 rfl) rfl
theorem dX11_spots_60 : decode cX11_spots 60 = .ok (.ireturn, 1) := do_172 (rdb (p := 32) (i := 28) ch_cX11_spots_32 rfl)
theorem dX11_spots_61 : decode cX11_spots 61 = .ok (.aload_n 0, 1) := do_42 (rdb (p := 32) (i := 29) ch_cX11_spots_32 rfl)
theorem dX11_spots_62 : decode cX11_spots 62 = .ok (.getfield 24, 3) := do_180 (rdb (p := 32) (i := 30) ch_cX11_spots_32 rfl) (rdb (p := 32) (i := 31) ch_cX11_spots_32 rfl) (rdb (p := 32) (i := 32) ch_cX11_spots_32 rfl) rfl
theorem ch_cX11_spots_64 : (cX11_spots.data.toList.drop 64).take 36 = [24, 28, 50, 182, 1, 18, 153, 0, 15, 42, 180, 0, 24, 28, 50, 182, 1, 21, 153, 0, 9, 42, 8, 182, 0, 67, 172, 42, 180, 0, 42, 42, 180, 0, 10, 27] := by decide +kernel
theorem dX11_spots_65 : decode cX11_spots 65 = .ok (.iload_n 2, 1) := do_28 (rdb (p := 64) (i := 1) ch_cX11_spots_64 rfl)
theorem dX11_spots_66 : decode cX11_spots 66 = .ok (.aaload, 1) := do_50 (rdb (p := 64) (i := 2) ch_cX11_spots_64 rfl)
theorem dX11_spots_67 : decode cX11_spots 67 = .ok (.invokevirtual 274, 3) := do_182 (rdb (p := 64) (i := 3) ch_cX11_spots_64 rfl) (rdb (p := 64) (i := 4) ch_cX11_spots_64 rfl) (rdb (p := 64) (i := 5) ch_cX11_spots_64 rfl) rfl
theorem dX11_spots_70 : decode cX11_spots 70 = .ok (.ifCond .eq 15, 3) := do_153 (rdb (p := 64) (i := 6) ch_cX11_spots_64 rfl) (rdb (p := 64) (i := 7) ch_cX11_spots_64 rfl) (rdb (p := 64) (i := 8) ch_cX11_spots_64 rfl) (by decide +kernel)
theorem dX11_spots_73 : decode cX11_spots 73 = .ok (.aload_n 0, 1) := do_42 (rdb (p := 64) (i := 9) ch_cX11_spots_64 rfl)
theorem dX11_spots_74 : decode cX11_spots 74 = .ok (.getfield 24, 3) := do_180 (rdb (p := 64) (i := 10) ch_cX11_spots_64 rfl) (rdb (p := 64) (i := 11) ch_cX11_spots_64 rfl) (rdb (p := 64) (i := 12) ch_cX11_spots_64 rfl) rfl
theorem dX11_spots_77 : decode cX11_spots 77 = .ok (.iload_n 2, 1) := do_28 (rdb (p := 64) (i := 13) ch_cX11_spots_64 rfl)
theorem dX11_spots_78 : decode cX11_spots 78 = .ok (.aaload, 1) := do_50 (rdb (p := 64) (i := 14) ch_cX11_spots_64 rfl)
theorem dX11_spots_79 : decode cX11_spots 79 = .ok (.invokevirtual 277, 3) := do_182 (rdb (p := 64) (i := 15) ch_cX11_spots_64 rfl) (rdb (p := 64) (i := 16) ch_cX11_spots_64 rfl) (rdb (p := 64) (i := 17) ch_cX11_spots_64 rfl) rfl
theorem dX11_spots_82 : decode cX11_spots 82 = .ok (.ifCond .eq 9, 3) := do_153 (rdb (p := 64) (i := 18) ch_cX11_spots_64 rfl) (rdb (p := 64) (i := 19) ch_cX11_spots_64 rfl) (rdb (p := 64) (i := 20) ch_cX11_spots_64 rfl) (by decide +kernel)
theorem dX11_spots_85 : decode cX11_spots 85 = .ok (.aload_n 0, 1) := do_42 (rdb (p := 64) (i := 21) ch_cX11_spots_64 rfl)
theorem dX11_spots_86 : decode cX11_spots 86 = .ok (.iconst 5, 1) := do_8 (rdb (p := 64) (i := 22) ch_cX11_spots_64 rfl)
theorem dX11_spots_87 : decode cX11_spots 87 = .ok (.invokevirtual 67, 3) := do_182 (rdb (p := 64) (i := 23) ch_cX11_spots_64 rfl) (rdb (p := 64) (i := 24) ch_cX11_spots_64 rfl) (rdb (p := 64) (i := 25) ch_cX11_spots_64 rfl) rfl
theorem dX11_spots_90 : decode cX11_spots 90 = .ok (.ireturn, 1) := do_172 (rdb (p := 64) (i := 26) ch_cX11_spots_64 rfl)
theorem dX11_spots_91 : decode cX11_spots 91 = .ok (.aload_n 0, 1) := do_42 (rdb (p := 64) (i := 27) ch_cX11_spots_64 rfl)
theorem dX11_spots_92 : decode cX11_spots 92 = .ok (.getfield 42, 3) := do_180 (rdb (p := 64) (i := 28) ch_cX11_spots_64 rfl) (rdb (p := 64) (i := 29) ch_cX11_spots_64 rfl) (rdb (p := 64) (i := 30) ch_cX11_spots_64 rfl) rfl
theorem dX11_spots_95 : decode cX11_spots 95 = .ok (.aload_n 0, 1) := do_42 (rdb (p := 64) (i := 31) ch_cX11_spots_64 rfl)
theorem ch_cX11_spots_96 : (cX11_spots.data.toList.drop 96).take 36 = [180, 0, 10, 27, 42, 180, 0, 24, 28, 50, 29, 182, 1, 24, 154, 0, 9, 42, 6, 182, 0, 67, 172, 21, 4, 154, 0, 13, 42, 180, 0, 42, 180, 1, 28, 167] := by decide +kernel
theorem dX11_spots_96 : decode cX11_spots 96 = .ok (.getfield 10, 3) := do_180 (rdb (p := 96) (i := 0) ch_cX11_spots_96 rfl) (rdb (p := 96) (i := 1) ch_cX11_spots_96 rfl) (rdb (p := 96) (i := 2) ch_cX11_spots_96 rfl) rfl
theorem dX11_spots_99 : decode cX11_spots 99 = .ok (.iload_n 1, 1) := do_27 (rdb (p := 96) (i := 3) ch_cX11_spots_96 rfl)
theorem dX11_spots_100 : decode cX11_spots 100 = .ok (.aload_n 0, 1) := do_42 (rdb (p := 96) (i := 4) ch_cX11_spots_96 rfl)
theorem dX11_spots_101 : decode cX11_spots 101 = .ok (.getfield 24, 3) := do_180 (rdb (p := 96) (i := 5) ch_cX11_spots_96 rfl) (rdb (p := 96) (i := 6) ch_cX11_spots_96 rfl) (rdb (p := 96) (i := 7) ch_cX11_spots_96 rfl) rfl
theorem dX11_spots_104 : decode cX11_spots 104 = .ok (.iload_n 2, 1) := do_28 (rdb (p := 96) (i := 8) ch_cX11_spots_96 rfl)
theorem dX11_spots_105 : decode cX11_spots 105 = .ok (.aaload, 1) := do_50 (rdb (p := 96) (i := 9) ch_cX11_spots_96 rfl)
theorem dX11_spots_106 : decode cX11_spots 106 = .ok (.iload_n 3, 1) := do_29 (rdb (p := 96) (i := 10) ch_cX11_spots_96 rfl)
theorem dX11_spots_107 : decode cX11_spots 107 = .ok (.invokevirtual 280, 3) := do_182 (rdb (p := 96) (i := 11) ch_cX11_spots_96 rfl) (rdb (p := 96) (i := 12) ch_cX11_spots_96 rfl) (rdb (p := 96) (i := 13) ch_cX11_spots_96 rfl) rfl
theorem dX11_spots_110 : decode cX11_spots 110 = .ok (.ifCond .ne 9, 3) := do_154 (rdb (p := 96) (i := 14) ch_cX11_spots_96 rfl) (rdb (p := 96) (i := 15) ch_cX11_spots_96 rfl) (rdb (p := 96) (i := 16) ch_cX11_spots_96 rfl) (by decide +kernel)
theorem dX11_spots_113 : decode cX11_spots 113 = .ok (.aload_n 0, 1) := do_42 (rdb (p := 96) (i := 17) ch_cX11_spots_96 rfl)
theorem dX11_spots_114 : decode cX11_spots 114 = .ok (.iconst 3, 1) := do_6 (rdb (p := 96) (i := 18) ch_cX11_spots_96 rfl)
theorem dX11_spots_115 : decode cX11_spots 115 = .ok (.invokevirtual 67, 3) := do_182 (rdb (p := 96) (i := 19) ch_cX11_spots_96 rfl) (rdb (p := 96) (i := 20) ch_cX11_spots_96 rfl) (rdb (p := 96) (i := 21) ch_cX11_spots_96 rfl) rfl
theorem dX11_spots_118 : decode cX11_spots 118 = .ok (.ireturn, 1) := do_172 (rdb (p := 96) (i := 22) ch_cX11_spots_96 rfl)
theorem dX11_spots_119 : decode cX11_spots 119 = .ok (.iload 4, 2) := do_21 (rdb (p := 96) (i := 23) ch_cX11_spots_96 rfl) (rdb (p := 96) (i := 24) ch_cX11_spots_96 rfl)
theorem dX11_spots_121 : decode cX11_spots 121 = .ok (.ifCond .ne 13, 3) := do_154 (rdb (p := 96) (i := 25) ch_cX11_spots_96 rfl) (rdb (p := 96) (i := 26) ch_cX11_spots_96 rfl) (rdb (p := 96) (i := 27) ch_cX11_spots_96 rfl) (by decide +kernel)
theorem dX11_spots_124 : decode cX11_spots 124 = .ok (.aload_n 0, 1) := do_42 (rdb (p := 96) (i := 28) ch_cX11_spots_96 rfl)
theorem dX11_spots_125 : decode cX11_spots 125 = .ok (.getfield 42, 3) := do_180 (rdb (p := 96) (i := 29) ch_cX11_spots_96 rfl) (rdb (p := 96) (i := 30) ch_cX11_spots_96 rfl) (rdb (p := 96) (i := 31) ch_cX11_spots_96 rfl) rfl
theorem ch_cX11_spots_128 : (cX11_spots.data.toList.drop 128).take 36 = [180, 1, 28, 167, 0, 10, 42, 180, 0, 42, 180, 1, 31, 172] := by decide +kernel
theorem dX11_spots_128 : decode cX11_spots 128 = .ok (.getfield 284, 3) := do_180 (rdb (p := 128) (i := 0) ch_cX11_spots_128 rfl) (rdb (p := 128) (i := 1) ch_cX11_spots_128 rfl) (rdb (p := 128) (i := 2) ch_cX11_spots_128 rfl) rfl
theorem dX11_spots_131 : decode cX11_spots 131 = .ok (.goto 10, 3) := do_167 (rdb (p := 128) (i := 3) ch_cX11_spots_128 rfl) (rdb (p := 128) (i := 4) ch_cX11_spots_128 rfl) (rdb (p := 128) (i := 5) ch_cX11_spots_128 rfl) (by decide +kernel)
theorem dX11_spots_134 : decode cX11_spots 134 = .ok (.aload_n 0, 1) := do_42 (rdb (p := 128) (i := 6) ch_cX11_spots_128 rfl)
theorem dX11_spots_135 : decode cX11_spots 135 = .ok (.getfield 42, 3) := do_180 (rdb (p := 128) (i := 7) ch_cX11_spots_128 rfl) (rdb (p := 128) (i := 8) ch_cX11_spots_128 rfl) (rdb (p := 128) (i := 9) ch_cX11_spots_128 rfl) rfl
theorem dX11_spots_138 : decode cX11_spots 138 = .ok (.getfield 287, 3) := do_180 (rdb (p := 128) (i := 10) ch_cX11_spots_128 rfl) (rdb (p := 128) (i := 11) ch_cX11_spots_128 rfl) (rdb (p := 128) (i := 12) ch_cX11_spots_128 rfl) rfl
theorem dX11_spots_141 : decode cX11_spots 141 = .ok (.ireturn, 1) := do_172 (rdb (p := 128) (i := 13) ch_cX11_spots_128 rfl)
theorem ch_cX11_tell_0 : (cX11_tell.data.toList.drop 0).take 36 = [42, 180, 0, 10, 180, 1, 129, 182, 0, 196, 154, 0, 9, 42, 7, 182, 0, 67, 172, 42, 180, 0, 10, 180, 1, 129, 27, 182, 0, 201, 42, 180, 0, 10, 180, 1] := by decide +kernel
theorem dX11_tell_0 : decode cX11_tell 0 = .ok (.aload_n 0, 1) := do_42 (rdb (p := 0) (i := 0) ch_cX11_tell_0 rfl)
theorem dX11_tell_1 : decode cX11_tell 1 = .ok (.getfield 10, 3) := do_180 (rdb (p := 0) (i := 1) ch_cX11_tell_0 rfl) (rdb (p := 0) (i := 2) ch_cX11_tell_0 rfl) (rdb (p := 0) (i := 3) ch_cX11_tell_0 rfl) rfl
theorem dX11_tell_4 : decode cX11_tell 4 = .ok (.getfield 385, 3) := do_180 (rdb (p := 0) (i := 4) ch_cX11_tell_0 rfl) (rdb (p := 0) (i := 5) ch_cX11_tell_0 rfl) (rdb (p := 0) (i := 6) ch_cX11_tell_0 rfl) rfl
theorem dX11_tell_7 : decode cX11_tell 7 = .ok (.invokevirtual 196, 3) := do_182 (rdb (p := 0) (i := 7) ch_cX11_tell_0 rfl) (rdb (p := 0) (i := 8) ch_cX11_tell_0 rfl) (rdb (p := 0) (i := 9) ch_cX11_tell_0 rfl) rfl
theorem dX11_tell_10 : decode cX11_tell 10 = .ok (.ifCond .ne 9, 3) := do_154 (rdb (p := 0) (i := 10) ch_cX11_tell_0 rfl) (rdb (p := 0) (i := 11) ch_cX11_tell_0 rfl) (rdb (p := 0) (i := 12) ch_cX11_tell_0 rfl) (by decide +kernel)
theorem dX11_tell_13 : decode cX11_tell 13 = .ok (.aload_n 0, 1) := do_42 (rdb (p := 0) (i := 13) ch_cX11_tell_0 rfl)
theorem dX11_tell_14 : decode cX11_tell 14 = .ok (.iconst 4, 1) := do_7 (rdb (p := 0) (i := 14) ch_cX11_tell_0 rfl)
theorem dX11_tell_15 : decode cX11_tell 15 = .ok (.invokevirtual 67, 3) := do_182 (rdb (p := 0) (i := 15) ch_cX11_tell_0 rfl) (rdb (p := 0) (i := 16) ch_cX11_tell_0 rfl) (rdb (p := 0) (i := 17) ch_cX11_tell_0 rfl) rfl
theorem dX11_tell_18 : decode cX11_tell 18 = .ok (.ireturn, 1) := do_172 (rdb (p := 0) (i := 18) ch_cX11_tell_0 rfl)
theorem dX11_tell_19 : decode cX11_tell 19 = .ok (.aload_n 0, 1) := do_42 (rdb (p := 0) (i := 19) ch_cX11_tell_0 rfl)
theorem dX11_tell_20 : decode cX11_tell 20 = .ok (.getfield 10, 3) := do_180 (rdb (p := 0) (i := 20) ch_cX11_tell_0 rfl) (rdb (p := 0) (i := 21) ch_cX11_tell_0 rfl) (rdb (p := 0) (i := 22) ch_cX11_tell_0 rfl) rfl
theorem dX11_tell_23 : decode cX11_tell 23 = .ok (.getfield 385, 3) := do_180 (rdb (p := 0) (i := 23) ch_cX11_tell_0 rfl) (rdb (p := 0) (i := 24) ch_cX11_tell_0 rfl) (rdb (p := 0) (i := 25) ch_cX11_tell_0 rfl) rfl
theorem dX11_tell_26 : decode cX11_tell 26 = .ok (.iload_n 1, 1) := do_27 (rdb (p := 0) (i := 26) ch_cX11_tell_0 rfl)
theorem dX11_tell_27 : decode cX11_tell 27 = .ok (.invokevirtual 201, 3) := do_182 (rdb (p := 0) (i := 27) ch_cX11_tell_0 rfl) (rdb (p := 0) (i := 28) ch_cX11_tell_0 rfl) (rdb (p := 0) (i := 29) ch_cX11_tell_0 rfl) rfl
theorem dX11_tell_30 : decode cX11_tell 30 = .ok (.aload_n 0, 1) := do_42 (rdb (p := 0) (i := 30) ch_cX11_tell_0 rfl)
theorem dX11_tell_31 : decode cX11_tell 31 = .ok (.getfield 10, 3) := do_180 (rdb (p := 0) (i := 31) ch_cX11_tell_0 rfl) (rdb (p := 0) (i := 32) ch_cX11_tell_0 rfl) (rdb (p := 0) (i := 33) ch_cX11_tell_0 rfl) rfl
theorem ch_cX11_tell_32 : (cX11_tell.data.toList.drop 32).take 36 = [0, 10, 180, 1, 129, 180, 0, 205, 172] := by decide +kernel
theorem dX11_tell_34 : decode cX11_tell 34 = .ok (.getfield 385, 3) := do_180 (rdb (p := 32) (i := 2) ch_cX11_tell_32 rfl) (rdb (p := 32) (i := 3) ch_cX11_tell_32 rfl) (rdb (p := 32) (i := 4) ch_cX11_tell_32 rfl) rfl
theorem dX11_tell_37 : decode cX11_tell 37 = .ok (.getfield 205, 3) := do_180 (rdb (p := 32) (i := 5) ch_cX11_tell_32 rfl) (rdb (p := 32) (i := 6) ch_cX11_tell_32 rfl) (rdb (p := 32) (i := 7) ch_cX11_tell_32 rfl) rfl
theorem dX11_tell_40 : decode cX11_tell 40 = .ok (.ireturn, 1) := do_172 (rdb (p := 32) (i := 8) ch_cX11_tell_32 rfl)
theorem ch_cX11_tenths_0 : (cX11_tenths.data.toList.drop 0).take 36 = [27, 4, 16, 100, 184, 0, 89, 154, 0, 9, 42, 4, 182, 0, 67, 172, 42, 180, 0, 10, 180, 1, 34, 27, 96, 17, 39, 15, 164, 0, 9, 42, 6, 182, 0, 67] := by decide +kernel
theorem dX11_tenths_0 : decode cX11_tenths 0 = .ok (.iload_n 1, 1) := do_27 (rdb (p := 0) (i := 0) ch_cX11_tenths_0 rfl)
theorem dX11_tenths_1 : decode cX11_tenths 1 = .ok (.iconst 1, 1) := do_4 (rdb (p := 0) (i := 1) ch_cX11_tenths_0 rfl)
theorem dX11_tenths_2 : decode cX11_tenths 2 = .ok (.bipush 100, 2) := do_16 (rdb (p := 0) (i := 2) ch_cX11_tenths_0 rfl) (rdb (p := 0) (i := 3) ch_cX11_tenths_0 rfl) (by decide +kernel)
theorem dX11_tenths_4 : decode cX11_tenths 4 = .ok (.invokestatic 89, 3) := do_184 (rdb (p := 0) (i := 4) ch_cX11_tenths_0 rfl) (rdb (p := 0) (i := 5) ch_cX11_tenths_0 rfl) (rdb (p := 0) (i := 6) ch_cX11_tenths_0 rfl) rfl
theorem dX11_tenths_7 : decode cX11_tenths 7 = .ok (.ifCond .ne 9, 3) := do_154 (rdb (p := 0) (i := 7) ch_cX11_tenths_0 rfl) (rdb (p := 0) (i := 8) ch_cX11_tenths_0 rfl) (rdb (p := 0) (i := 9) ch_cX11_tenths_0 rfl) (by decide +kernel)
theorem dX11_tenths_10 : decode cX11_tenths 10 = .ok (.aload_n 0, 1) := do_42 (rdb (p := 0) (i := 10) ch_cX11_tenths_0 rfl)
theorem dX11_tenths_11 : decode cX11_tenths 11 = .ok (.iconst 1, 1) := do_4 (rdb (p := 0) (i := 11) ch_cX11_tenths_0 rfl)
theorem dX11_tenths_12 : decode cX11_tenths 12 = .ok (.invokevirtual 67, 3) := do_182 (rdb (p := 0) (i := 12) ch_cX11_tenths_0 rfl) (rdb (p := 0) (i := 13) ch_cX11_tenths_0 rfl) (rdb (p := 0) (i := 14) ch_cX11_tenths_0 rfl) rfl
theorem dX11_tenths_15 : decode cX11_tenths 15 = .ok (.ireturn, 1) := do_172 (rdb (p := 0) (i := 15) ch_cX11_tenths_0 rfl)
theorem dX11_tenths_16 : decode cX11_tenths 16 = .ok (.aload_n 0, 1) := do_42 (rdb (p := 0) (i := 16) ch_cX11_tenths_0 rfl)
theorem dX11_tenths_17 : decode cX11_tenths 17 = .ok (.getfield 10, 3) := do_180 (rdb (p := 0) (i := 17) ch_cX11_tenths_0 rfl) (rdb (p := 0) (i := 18) ch_cX11_tenths_0 rfl) (rdb (p := 0) (i := 19) ch_cX11_tenths_0 rfl) rfl
theorem dX11_tenths_20 : decode cX11_tenths 20 = .ok (.getfield 290, 3) := do_180 (rdb (p := 0) (i := 20) ch_cX11_tenths_0 rfl) (rdb (p := 0) (i := 21) ch_cX11_tenths_0 rfl) (rdb (p := 0) (i := 22) ch_cX11_tenths_0 rfl) rfl
theorem dX11_tenths_23 : decode cX11_tenths 23 = .ok (.iload_n 1, 1) := do_27 (rdb (p := 0) (i := 23) ch_cX11_tenths_0 rfl)
theorem dX11_tenths_24 : decode cX11_tenths 24 = .ok (.iadd, 1) := do_96 (rdb (p := 0) (i := 24) ch_cX11_tenths_0 rfl)
theorem dX11_tenths_25 : decode cX11_tenths 25 = .ok (.sipush 9999, 3) := do_17 (rdb (p := 0) (i := 25) ch_cX11_tenths_0 rfl) (rdb (p := 0) (i := 26) ch_cX11_tenths_0 rfl) (rdb (p := 0) (i := 27) ch_cX11_tenths_0 rfl) (by decide +kernel)
theorem dX11_tenths_28 : decode cX11_tenths 28 = .ok (.if_icmp .le 9, 3) := do_164 (rdb (p := 0) (i := 28) ch_cX11_tenths_0 rfl) (rdb (p := 0) (i := 29) ch_cX11_tenths_0 rfl) (rdb (p := 0) (i := 30) ch_cX11_tenths_0 rfl) (by decide +kernel)
theorem dX11_tenths_31 : decode cX11_tenths 31 = .ok (.aload_n 0, 1) := do_42 (rdb (p := 0) (i := 31) ch_cX11_tenths_0 rfl)
theorem ch_cX11_tenths_32 : (cX11_tenths.data.toList.drop 32).take 36 = [6, 182, 0, 67, 172, 3, 61, 28, 27, 162, 0, 16, 42, 180, 0, 10, 182, 1, 37, 132, 2, 1, 167, 255, 241, 42, 180, 0, 10, 180, 1, 34, 172] := by decide +kernel
theorem dX11_tenths_32 : decode cX11_tenths 32 = .ok (.iconst 3, 1) := do_6 (rdb (p := 32) (i := 0) ch_cX11_tenths_32 rfl)
theorem dX11_tenths_33 : decode cX11_tenths 33 = .ok (.invokevirtual 67, 3) := do_182 (rdb (p := 32) (i := 1) ch_cX11_tenths_32 rfl) (rdb (p := 32) (i := 2) ch_cX11_tenths_32 rfl) (rdb (p := 32) (i := 3) ch_cX11_tenths_32 rfl) rfl
theorem dX11_tenths_36 : decode cX11_tenths 36 = .ok (.ireturn, 1) := do_172 (rdb (p := 32) (i := 4) ch_cX11_tenths_32 rfl)
theorem dX11_tenths_37 : decode cX11_tenths 37 = .ok (.iconst 0, 1) := do_3 (rdb (p := 32) (i := 5) ch_cX11_tenths_32 rfl)
theorem dX11_tenths_38 : decode cX11_tenths 38 = .ok (.istore_n 2, 1) := do_61 (rdb (p := 32) (i := 6) ch_cX11_tenths_32 rfl)
theorem dX11_tenths_39 : decode cX11_tenths 39 = .ok (.iload_n 2, 1) := do_28 (rdb (p := 32) (i := 7) ch_cX11_tenths_32 rfl)
theorem dX11_tenths_40 : decode cX11_tenths 40 = .ok (.iload_n 1, 1) := do_27 (rdb (p := 32) (i := 8) ch_cX11_tenths_32 rfl)
theorem dX11_tenths_41 : decode cX11_tenths 41 = .ok (.if_icmp .ge 16, 3) := do_162 (rdb (p := 32) (i := 9) ch_cX11_tenths_32 rfl) (rdb (p := 32) (i := 10) ch_cX11_tenths_32 rfl) (rdb (p := 32) (i := 11) ch_cX11_tenths_32 rfl) (by decide +kernel)
theorem dX11_tenths_44 : decode cX11_tenths 44 = .ok (.aload_n 0, 1) := do_42 (rdb (p := 32) (i := 12) ch_cX11_tenths_32 rfl)
theorem dX11_tenths_45 : decode cX11_tenths 45 = .ok (.getfield 10, 3) := do_180 (rdb (p := 32) (i := 13) ch_cX11_tenths_32 rfl) (rdb (p := 32) (i := 14) ch_cX11_tenths_32 rfl) (rdb (p := 32) (i := 15) ch_cX11_tenths_32 rfl) rfl
theorem dX11_tenths_48 : decode cX11_tenths 48 = .ok (.invokevirtual 293, 3) := do_182 (rdb (p := 32) (i := 16) ch_cX11_tenths_32 rfl) (rdb (p := 32) (i := 17) ch_cX11_tenths_32 rfl) (rdb (p := 32) (i := 18) ch_cX11_tenths_32 rfl) rfl
theorem dX11_tenths_51 : decode cX11_tenths 51 = .ok (.iinc 2 1, 3) := do_132 (rdb (p := 32) (i := 19) ch_cX11_tenths_32 rfl) (rdb (p := 32) (i := 20) ch_cX11_tenths_32 rfl) (rdb (p := 32) (i := 21) ch_cX11_tenths_32 rfl) (by decide +kernel)
theorem dX11_tenths_54 : decode cX11_tenths 54 = .ok (.goto (-15), 3) := do_167 (rdb (p := 32) (i := 22) ch_cX11_tenths_32 rfl) (rdb (p := 32) (i := 23) ch_cX11_tenths_32 rfl) (rdb (p := 32) (i := 24) ch_cX11_tenths_32 rfl) (by decide +kernel)
theorem dX11_tenths_57 : decode cX11_tenths 57 = .ok (.aload_n 0, 1) := do_42 (rdb (p := 32) (i := 25) ch_cX11_tenths_32 rfl)
theorem dX11_tenths_58 : decode cX11_tenths 58 = .ok (.getfield 10, 3) := do_180 (rdb (p := 32) (i := 26) ch_cX11_tenths_32 rfl) (rdb (p := 32) (i := 27) ch_cX11_tenths_32 rfl) (rdb (p := 32) (i := 28) ch_cX11_tenths_32 rfl) rfl
theorem dX11_tenths_61 : decode cX11_tenths 61 = .ok (.getfield 290, 3) := do_180 (rdb (p := 32) (i := 29) ch_cX11_tenths_32 rfl) (rdb (p := 32) (i := 30) ch_cX11_tenths_32 rfl) (rdb (p := 32) (i := 31) ch_cX11_tenths_32 rfl) rfl
theorem ch_cX11_tenths_64 : (cX11_tenths.data.toList.drop 64).take 36 = [172] := by decide +kernel
theorem dX11_tenths_64 : decode cX11_tenths 64 = .ok (.ireturn, 1) := do_172 (rdb (p := 64) (i := 0) ch_cX11_tenths_64 rfl)
theorem dX11_told_0 : decode cX11_told 0 = .ok (.iload_n 1, 1) := by decide +kernel
theorem dX11_told_1 : decode cX11_told 1 = .ok (.iconst 1, 1) := by decide +kernel
theorem dX11_told_2 : decode cX11_told 2 = .ok (.bipush 6, 2) := by decide +kernel
theorem dX11_told_4 : decode cX11_told 4 = .ok (.invokestatic 89, 3) := by decide +kernel
theorem dX11_told_7 : decode cX11_told 7 = .ok (.ifCond .eq 12, 3) := by decide +kernel
theorem dX11_told_10 : decode cX11_told 10 = .ok (.aload_n 0, 1) := by decide +kernel
theorem dX11_told_11 : decode cX11_told 11 = .ok (.getfield 28, 3) := by decide +kernel
theorem dX11_told_14 : decode cX11_told 14 = .ok (.iload_n 1, 1) := by decide +kernel
theorem dX11_told_15 : decode cX11_told 15 = .ok (.iaload, 1) := by decide +kernel
theorem dX11_told_16 : decode cX11_told 16 = .ok (.goto 8, 3) := by decide +kernel
theorem dX11_told_19 : decode cX11_told 19 = .ok (.aload_n 0, 1) := by decide +kernel
theorem dX11_told_20 : decode cX11_told 20 = .ok (.iconst 1, 1) := by decide +kernel
theorem dX11_told_21 : decode cX11_told 21 = .ok (.invokevirtual 67, 3) := by decide +kernel
theorem dX11_told_24 : decode cX11_told 24 = .ok (.ireturn, 1) := by decide +kernel
theorem dX11_trace_0 : decode cX11_trace 0 = .ok (.aload_n 0, 1) := by decide +kernel
theorem dX11_trace_1 : decode cX11_trace 1 = .ok (.getfield 49, 3) := by decide +kernel
theorem dX11_trace_4 : decode cX11_trace 4 = .ok (.getfield 353, 3) := by decide +kernel
theorem dX11_trace_7 : decode cX11_trace 7 = .ok (.iload_n 1, 1) := by decide +kernel
theorem dX11_trace_8 : decode cX11_trace 8 = .ok (.invokevirtual 356, 3) := by decide +kernel
theorem dX11_trace_11 : decode cX11_trace 11 = .ok (.ifCond .ne 9, 3) := by decide +kernel
theorem dX11_trace_14 : decode cX11_trace 14 = .ok (.aload_n 0, 1) := by decide +kernel
theorem dX11_trace_15 : decode cX11_trace 15 = .ok (.iconst 2, 1) := by decide +kernel
theorem dX11_trace_16 : decode cX11_trace 16 = .ok (.invokevirtual 67, 3) := by decide +kernel
theorem dX11_trace_19 : decode cX11_trace 19 = .ok (.ireturn, 1) := by decide +kernel
theorem dX11_trace_20 : decode cX11_trace 20 = .ok (.aload_n 0, 1) := by decide +kernel
theorem dX11_trace_21 : decode cX11_trace 21 = .ok (.getfield 49, 3) := by decide +kernel
theorem dX11_trace_24 : decode cX11_trace 24 = .ok (.getfield 353, 3) := by decide +kernel
theorem dX11_trace_27 : decode cX11_trace 27 = .ok (.iload_n 1, 1) := by decide +kernel
theorem dX11_trace_28 : decode cX11_trace 28 = .ok (.invokevirtual 331, 3) := by decide +kernel
theorem dX11_trace_31 : decode cX11_trace 31 = .ok (.ireturn, 1) := by decide +kernel
theorem ch_cX11_way_0 : (cX11_way.data.toList.drop 0).take 36 = [42, 180, 0, 10, 27, 182, 0, 154, 153, 0, 15, 28, 184, 0, 62, 153, 0, 8, 29, 2, 162, 0, 9, 42, 4, 182, 0, 67, 172, 42, 180, 0, 10, 180, 0, 157] := by decide +kernel
theorem dX11_way_0 : decode cX11_way 0 = .ok (.aload_n 0, 1) := do_42 (rdb (p := 0) (i := 0) ch_cX11_way_0 rfl)
theorem dX11_way_1 : decode cX11_way 1 = .ok (.getfield 10, 3) := do_180 (rdb (p := 0) (i := 1) ch_cX11_way_0 rfl) (rdb (p := 0) (i := 2) ch_cX11_way_0 rfl) (rdb (p := 0) (i := 3) ch_cX11_way_0 rfl) rfl
theorem dX11_way_4 : decode cX11_way 4 = .ok (.iload_n 1, 1) := do_27 (rdb (p := 0) (i := 4) ch_cX11_way_0 rfl)
theorem dX11_way_5 : decode cX11_way 5 = .ok (.invokevirtual 154, 3) := do_182 (rdb (p := 0) (i := 5) ch_cX11_way_0 rfl) (rdb (p := 0) (i := 6) ch_cX11_way_0 rfl) (rdb (p := 0) (i := 7) ch_cX11_way_0 rfl) rfl
theorem dX11_way_8 : decode cX11_way 8 = .ok (.ifCond .eq 15, 3) := do_153 (rdb (p := 0) (i := 8) ch_cX11_way_0 rfl) (rdb (p := 0) (i := 9) ch_cX11_way_0 rfl) (rdb (p := 0) (i := 10) ch_cX11_way_0 rfl) (by decide +kernel)
theorem dX11_way_11 : decode cX11_way 11 = .ok (.iload_n 2, 1) := do_28 (rdb (p := 0) (i := 11) ch_cX11_way_0 rfl)
theorem dX11_way_12 : decode cX11_way 12 = .ok (.invokestatic 62, 3) := do_184 (rdb (p := 0) (i := 12) ch_cX11_way_0 rfl) (rdb (p := 0) (i := 13) ch_cX11_way_0 rfl) (rdb (p := 0) (i := 14) ch_cX11_way_0 rfl) rfl
theorem dX11_way_15 : decode cX11_way 15 = .ok (.ifCond .eq 8, 3) := do_153 (rdb (p := 0) (i := 15) ch_cX11_way_0 rfl) (rdb (p := 0) (i := 16) ch_cX11_way_0 rfl) (rdb (p := 0) (i := 17) ch_cX11_way_0 rfl) (by decide +kernel)
theorem dX11_way_18 : decode cX11_way 18 = .ok (.iload_n 3, 1) := do_29 (rdb (p := 0) (i := 18) ch_cX11_way_0 rfl)
theorem dX11_way_19 : decode cX11_way 19 = .ok (.iconst (-1), 1) := do_2 (rdb (p := 0) (i := 19) ch_cX11_way_0 rfl)
theorem dX11_way_20 : decode cX11_way 20 = .ok (.if_icmp .ge 9, 3) := do_162 (rdb (p := 0) (i := 20) ch_cX11_way_0 rfl) (rdb (p := 0) (i := 21) ch_cX11_way_0 rfl) (rdb (p := 0) (i := 22) ch_cX11_way_0 rfl) (by decide +kernel)
theorem dX11_way_23 : decode cX11_way 23 = .ok (.aload_n 0, 1) := do_42 (rdb (p := 0) (i := 23) ch_cX11_way_0 rfl)
theorem dX11_way_24 : decode cX11_way 24 = .ok (.iconst 1, 1) := do_4 (rdb (p := 0) (i := 24) ch_cX11_way_0 rfl)
theorem dX11_way_25 : decode cX11_way 25 = .ok (.invokevirtual 67, 3) := do_182 (rdb (p := 0) (i := 25) ch_cX11_way_0 rfl) (rdb (p := 0) (i := 26) ch_cX11_way_0 rfl) (rdb (p := 0) (i := 27) ch_cX11_way_0 rfl) rfl
theorem dX11_way_28 : decode cX11_way 28 = .ok (.ireturn, 1) := do_172 (rdb (p := 0) (i := 28) ch_cX11_way_0 rfl)
theorem dX11_way_29 : decode cX11_way 29 = .ok (.aload_n 0, 1) := do_42 (rdb (p := 0) (i := 29) ch_cX11_way_0 rfl)
theorem dX11_way_30 : decode cX11_way 30 = .ok (.getfield 10, 3) := do_180 (rdb (p := 0) (i := 30) ch_cX11_way_0 rfl) (rdb (p := 0) (i := 31) ch_cX11_way_0 rfl) (rdb (p := 0) (i := 32) ch_cX11_way_0 rfl) rfl
theorem ch_cX11_way_32 : (cX11_way.data.toList.drop 32).take 36 = [10, 180, 0, 157, 27, 50, 58, 4, 42, 180, 0, 42, 25, 4, 28, 182, 1, 40, 29, 2, 160, 0, 16, 42, 180, 0, 42, 25, 4, 180, 0, 229, 182, 1, 44, 172] := by decide +kernel
theorem dX11_way_33 : decode cX11_way 33 = .ok (.getfield 157, 3) := do_180 (rdb (p := 32) (i := 1) ch_cX11_way_32 rfl) (rdb (p := 32) (i := 2) ch_cX11_way_32 rfl) (rdb (p := 32) (i := 3) ch_cX11_way_32 rfl) rfl
theorem dX11_way_36 : decode cX11_way 36 = .ok (.iload_n 1, 1) := do_27 (rdb (p := 32) (i := 4) ch_cX11_way_32 rfl)
theorem dX11_way_37 : decode cX11_way 37 = .ok (.aaload, 1) := do_50 (rdb (p := 32) (i := 5) ch_cX11_way_32 rfl)
theorem dX11_way_38 : decode cX11_way 38 = .ok (.astore 4, 2) := do_58 (rdb (p := 32) (i := 6) ch_cX11_way_32 rfl) (rdb (p := 32) (i := 7) ch_cX11_way_32 rfl)
theorem dX11_way_40 : decode cX11_way 40 = .ok (.aload_n 0, 1) := do_42 (rdb (p := 32) (i := 8) ch_cX11_way_32 rfl)
theorem dX11_way_41 : decode cX11_way 41 = .ok (.getfield 42, 3) := do_180 (rdb (p := 32) (i := 9) ch_cX11_way_32 rfl) (rdb (p := 32) (i := 10) ch_cX11_way_32 rfl) (rdb (p := 32) (i := 11) ch_cX11_way_32 rfl) rfl
theorem dX11_way_44 : decode cX11_way 44 = .ok (.aload 4, 2) := do_25 (rdb (p := 32) (i := 12) ch_cX11_way_32 rfl) (rdb (p := 32) (i := 13) ch_cX11_way_32 rfl)
theorem dX11_way_46 : decode cX11_way 46 = .ok (.iload_n 2, 1) := do_28 (rdb (p := 32) (i := 14) ch_cX11_way_32 rfl)
theorem dX11_way_47 : decode cX11_way 47 = .ok (.invokevirtual 296, 3) := do_182 (rdb (p := 32) (i := 15) ch_cX11_way_32 rfl) (rdb (p := 32) (i := 16) ch_cX11_way_32 rfl) (rdb (p := 32) (i := 17) ch_cX11_way_32 rfl) rfl
theorem dX11_way_50 : decode cX11_way 50 = .ok (.iload_n 3, 1) := do_29 (rdb (p := 32) (i := 18) ch_cX11_way_32 rfl)
theorem dX11_way_51 : decode cX11_way 51 = .ok (.iconst (-1), 1) := do_2 (rdb (p := 32) (i := 19) ch_cX11_way_32 rfl)
theorem dX11_way_52 : decode cX11_way 52 = .ok (.if_icmp .ne 16, 3) := do_160 (rdb (p := 32) (i := 20) ch_cX11_way_32 rfl) (rdb (p := 32) (i := 21) ch_cX11_way_32 rfl) (rdb (p := 32) (i := 22) ch_cX11_way_32 rfl) (by decide +kernel)
theorem dX11_way_55 : decode cX11_way 55 = .ok (.aload_n 0, 1) := do_42 (rdb (p := 32) (i := 23) ch_cX11_way_32 rfl)
theorem dX11_way_56 : decode cX11_way 56 = .ok (.getfield 42, 3) := do_180 (rdb (p := 32) (i := 24) ch_cX11_way_32 rfl) (rdb (p := 32) (i := 25) ch_cX11_way_32 rfl) (rdb (p := 32) (i := 26) ch_cX11_way_32 rfl) rfl
theorem dX11_way_59 : decode cX11_way 59 = .ok (.aload 4, 2) := do_25 (rdb (p := 32) (i := 27) ch_cX11_way_32 rfl) (rdb (p := 32) (i := 28) ch_cX11_way_32 rfl)
theorem dX11_way_61 : decode cX11_way 61 = .ok (.getfield 229, 3) := do_180 (rdb (p := 32) (i := 29) ch_cX11_way_32 rfl) (rdb (p := 32) (i := 30) ch_cX11_way_32 rfl) (rdb (p := 32) (i := 31) ch_cX11_way_32 rfl) rfl
theorem ch_cX11_way_64 : (cX11_way.data.toList.drop 64).take 36 = [182, 1, 44, 172, 42, 180, 0, 42, 25, 4, 28, 29, 182, 1, 47, 54, 5, 21, 5, 156, 0, 11, 42, 5, 182, 0, 67, 167, 0, 5, 21, 5, 172] := by decide +kernel
theorem dX11_way_64 : decode cX11_way 64 = .ok (.invokevirtual 300, 3) := do_182 (rdb (p := 64) (i := 0) ch_cX11_way_64 rfl) (rdb (p := 64) (i := 1) ch_cX11_way_64 rfl) (rdb (p := 64) (i := 2) ch_cX11_way_64 rfl) rfl
theorem dX11_way_67 : decode cX11_way 67 = .ok (.ireturn, 1) := do_172 (rdb (p := 64) (i := 3) ch_cX11_way_64 rfl)
theorem dX11_way_68 : decode cX11_way 68 = .ok (.aload_n 0, 1) := do_42 (rdb (p := 64) (i := 4) ch_cX11_way_64 rfl)
theorem dX11_way_69 : decode cX11_way 69 = .ok (.getfield 42, 3) := do_180 (rdb (p := 64) (i := 5) ch_cX11_way_64 rfl) (rdb (p := 64) (i := 6) ch_cX11_way_64 rfl) (rdb (p := 64) (i := 7) ch_cX11_way_64 rfl) rfl
theorem dX11_way_72 : decode cX11_way 72 = .ok (.aload 4, 2) := do_25 (rdb (p := 64) (i := 8) ch_cX11_way_64 rfl) (rdb (p := 64) (i := 9) ch_cX11_way_64 rfl)
theorem dX11_way_74 : decode cX11_way 74 = .ok (.iload_n 2, 1) := do_28 (rdb (p := 64) (i := 10) ch_cX11_way_64 rfl)
theorem dX11_way_75 : decode cX11_way 75 = .ok (.iload_n 3, 1) := do_29 (rdb (p := 64) (i := 11) ch_cX11_way_64 rfl)
theorem dX11_way_76 : decode cX11_way 76 = .ok (.invokevirtual 303, 3) := do_182 (rdb (p := 64) (i := 12) ch_cX11_way_64 rfl) (rdb (p := 64) (i := 13) ch_cX11_way_64 rfl) (rdb (p := 64) (i := 14) ch_cX11_way_64 rfl) rfl
theorem dX11_way_79 : decode cX11_way 79 = .ok (.istore 5, 2) := do_54 (rdb (p := 64) (i := 15) ch_cX11_way_64 rfl) (rdb (p := 64) (i := 16) ch_cX11_way_64 rfl)
theorem dX11_way_81 : decode cX11_way 81 = .ok (.iload 5, 2) := do_21 (rdb (p := 64) (i := 17) ch_cX11_way_64 rfl) (rdb (p := 64) (i := 18) ch_cX11_way_64 rfl)
theorem dX11_way_83 : decode cX11_way 83 = .ok (.ifCond .ge 11, 3) := do_156 (rdb (p := 64) (i := 19) ch_cX11_way_64 rfl) (rdb (p := 64) (i := 20) ch_cX11_way_64 rfl) (rdb (p := 64) (i := 21) ch_cX11_way_64 rfl) (by decide +kernel)
theorem dX11_way_86 : decode cX11_way 86 = .ok (.aload_n 0, 1) := do_42 (rdb (p := 64) (i := 22) ch_cX11_way_64 rfl)
theorem dX11_way_87 : decode cX11_way 87 = .ok (.iconst 2, 1) := do_5 (rdb (p := 64) (i := 23) ch_cX11_way_64 rfl)
theorem dX11_way_88 : decode cX11_way 88 = .ok (.invokevirtual 67, 3) := do_182 (rdb (p := 64) (i := 24) ch_cX11_way_64 rfl) (rdb (p := 64) (i := 25) ch_cX11_way_64 rfl) (rdb (p := 64) (i := 26) ch_cX11_way_64 rfl) rfl
theorem dX11_way_91 : decode cX11_way 91 = .ok (.goto 5, 3) := do_167 (rdb (p := 64) (i := 27) ch_cX11_way_64 rfl) (rdb (p := 64) (i := 28) ch_cX11_way_64 rfl) (rdb (p := 64) (i := 29) ch_cX11_way_64 rfl) (by decide +kernel)
theorem dX11_way_94 : decode cX11_way 94 = .ok (.iload 5, 2) := do_21 (rdb (p := 64) (i := 30) ch_cX11_way_64 rfl) (rdb (p := 64) (i := 31) ch_cX11_way_64 rfl)
theorem ch_cX11_way_96 : (cX11_way.data.toList.drop 96).take 36 = [172] := by decide +kernel
theorem dX11_way_96 : decode cX11_way 96 = .ok (.ireturn, 1) := do_172 (rdb (p := 96) (i := 0) ch_cX11_way_96 rfl)
