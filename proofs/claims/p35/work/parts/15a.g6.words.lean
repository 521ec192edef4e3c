/-! words of the tables that are used, by their places; decode rows; fields -/
theorem m_14 : Cond.selects yX10_letWalkerGo.cls yX10_letWalkerGo yX10_letWalkerGo ∈ BASE := bmem 14 (by decide +kernel) rfl
theorem m_15 : Cond.selects yX10_goOn.cls yX10_goOn yX10_goOn ∈ BASE := bmem 15 (by decide +kernel) rfl
theorem m_80 : Cond.initialized RX10 ∈ BASE := bmem 80 (by decide +kernel) rfl
theorem m_84 : Cond.initialized RX3 ∈ BASE := bmem 84 (by decide +kernel) rfl
theorem m_309 : Cond.fieldLink RX10 10 "ClickStreet$World" "street" "LClickStreet$Street;" ∈ BASE := bmem 309 (by decide +kernel) rfl
theorem m_312 : Cond.fieldLink RX10 19 "ClickStreet$World" "laws" "LClickStreet$Laws;" ∈ BASE := bmem 312 (by decide +kernel) rfl
theorem m_315 : Cond.fieldLink RX10 26 "ClickStreet$World" "lessons" "LClickStreet$Lessons;" ∈ BASE := bmem 315 (by decide +kernel) rfl
theorem m_317 : Cond.fieldLink RX10 37 "ClickStreet$World" "tape" "LClickStreet$Row;" ∈ BASE := bmem 317 (by decide +kernel) rfl
theorem m_319 : Cond.fieldLink RX10 41 "ClickStreet$World" "waiting" "LClickStreet$Row;" ∈ BASE := bmem 319 (by decide +kernel) rfl
theorem m_321 : Cond.fieldLink RX10 46 "ClickStreet$World" "walkers" "[LClickStreet$Walker;" ∈ BASE := bmem 321 (by decide +kernel) rfl
theorem m_324 : Cond.fieldLink RX10 50 "ClickStreet$World" "walkerCount" "I" ∈ BASE := bmem 324 (by decide +kernel) rfl
theorem m_326 : Cond.fieldLink RX10 54 "ClickStreet$World" "now" "I" ∈ BASE := bmem 326 (by decide +kernel) rfl
theorem m_600 : Cond.methodLink RX10 58 yX9_begin ∈ BASE := bmem 600 (by decide +kernel) rfl
theorem m_601 : Cond.instanceMethod yX9_begin ∈ BASE := bmem 601 (by decide +kernel) rfl
theorem m_602 : Cond.selects yX9_begin.cls yX9_begin yX9_begin ∈ BASE := bmem 602 (by decide +kernel) rfl
theorem m_603 : Cond.code yX9_begin cX9_begin 5 none ∈ BASE := bmem 603 (by decide +kernel) rfl
theorem m_604 : Cond.methodLink RX10 62 yX7_settle ∈ BASE := bmem 604 (by decide +kernel) rfl
theorem m_610 : Cond.instanceMethod yX10_hasWalker ∈ BASE := bmem 610 (by decide +kernel) rfl
theorem m_611 : Cond.selects yX10_hasWalker.cls yX10_hasWalker yX10_hasWalker ∈ BASE := bmem 611 (by decide +kernel) rfl
theorem m_612 : Cond.code yX10_hasWalker cX10_hasWalker 2 (some .boolean) ∈ BASE := bmem 612 (by decide +kernel) rfl
theorem m_640 : Cond.instanceMethod yX9_isOf ∈ BASE := bmem 640 (by decide +kernel) rfl
theorem m_641 : Cond.selects yX9_isOf.cls yX9_isOf yX9_isOf ∈ BASE := bmem 641 (by decide +kernel) rfl
theorem m_642 : Cond.code yX9_isOf cX9_isOf 4 (some .boolean) ∈ BASE := bmem 642 (by decide +kernel) rfl
theorem m_844 : Cond.instanceMethod yX10_echoYards ∈ BASE := bmem 844 (by decide +kernel) rfl
theorem m_845 : Cond.selects yX10_echoYards.cls yX10_echoYards yX10_echoYards ∈ BASE := bmem 845 (by decide +kernel) rfl
theorem m_846 : Cond.code yX10_echoYards cX10_echoYards 7 (some .int) ∈ BASE := bmem 846 (by decide +kernel) rfl
theorem m_847 : Cond.methodLink RX10 76 yX10_hasWalker ∈ BASE := bmem 847 (by decide +kernel) rfl
theorem m_848 : Cond.methodLink RX10 80 yX9_reach ∈ BASE := bmem 848 (by decide +kernel) rfl
theorem m_849 : Cond.methodLink RX10 84 yX7_cellFrom ∈ BASE := bmem 849 (by decide +kernel) rfl
theorem m_857 : Cond.methodLink RX10 88 yX10_isFreeBut ∈ BASE := bmem 857 (by decide +kernel) rfl
theorem m_858 : Cond.instanceMethod yX10_isFreeBut ∈ BASE := bmem 858 (by decide +kernel) rfl
theorem m_859 : Cond.selects yX10_isFreeBut.cls yX10_isFreeBut yX10_isFreeBut ∈ BASE := bmem 859 (by decide +kernel) rfl
theorem m_860 : Cond.code yX10_isFreeBut cX10_isFreeBut 4 (some .boolean) ∈ BASE := bmem 860 (by decide +kernel) rfl
theorem m_865 : Cond.methodLink RX10 92 yX10_echoYards ∈ BASE := bmem 865 (by decide +kernel) rfl
theorem m_866 : Cond.methodLink RX10 112 yX2_late ∈ BASE := bmem 866 (by decide +kernel) rfl
theorem m_869 : Cond.methodLink RX10 95 yX7_kindIn ∈ BASE := bmem 869 (by decide +kernel) rfl
theorem m_870 : Cond.instanceMethod yX7_kindIn ∈ BASE := bmem 870 (by decide +kernel) rfl
theorem m_871 : Cond.selects yX7_kindIn.cls yX7_kindIn yX7_kindIn ∈ BASE := bmem 871 (by decide +kernel) rfl
theorem m_872 : Cond.code yX7_kindIn cX7_kindIn 3 (some .int) ∈ BASE := bmem 872 (by decide +kernel) rfl
theorem m_873 : Cond.methodLink RX10 116 yX2_strength ∈ BASE := bmem 873 (by decide +kernel) rfl
theorem m_887 : Cond.methodLink RX10 99 yX9_ears ∈ BASE := bmem 887 (by decide +kernel) rfl
theorem m_888 : Cond.methodLink RX10 122 yX2_isHeard ∈ BASE := bmem 888 (by decide +kernel) rfl
theorem m_897 : Cond.instanceMethod yX10_makeClick ∈ BASE := bmem 897 (by decide +kernel) rfl
theorem m_898 : Cond.selects yX10_makeClick.cls yX10_makeClick yX10_makeClick ∈ BASE := bmem 898 (by decide +kernel) rfl
theorem m_899 : Cond.code yX10_makeClick cX10_makeClick 7 (some .int) ∈ BASE := bmem 899 (by decide +kernel) rfl
theorem m_900 : Cond.methodLink RX10 126 yX10_heardYards ∈ BASE := bmem 900 (by decide +kernel) rfl
theorem m_901 : Cond.instanceMethod yX10_heardYards ∈ BASE := bmem 901 (by decide +kernel) rfl
theorem m_902 : Cond.selects yX10_heardYards.cls yX10_heardYards yX10_heardYards ∈ BASE := bmem 902 (by decide +kernel) rfl
theorem m_903 : Cond.code yX10_heardYards cX10_heardYards 7 (some .int) ∈ BASE := bmem 903 (by decide +kernel) rfl
theorem m_904 : Cond.methodLink RX10 102 yX9_ownClick ∈ BASE := bmem 904 (by decide +kernel) rfl
theorem m_905 : Cond.instanceMethod yX9_ownClick ∈ BASE := bmem 905 (by decide +kernel) rfl
theorem m_906 : Cond.selects yX9_ownClick.cls yX9_ownClick yX9_ownClick ∈ BASE := bmem 906 (by decide +kernel) rfl
theorem m_907 : Cond.code yX9_ownClick cX9_ownClick 1 (some .int) ∈ BASE := bmem 907 (by decide +kernel) rfl
theorem m_908 : Cond.methodLink RX10 105 yX2_hears ∈ BASE := bmem 908 (by decide +kernel) rfl
theorem m_915 : Cond.methodLink RX10 129 yX9_addYes ∈ BASE := bmem 915 (by decide +kernel) rfl
theorem m_916 : Cond.instanceMethod yX9_addYes ∈ BASE := bmem 916 (by decide +kernel) rfl
theorem m_917 : Cond.selects yX9_addYes.cls yX9_addYes yX9_addYes ∈ BASE := bmem 917 (by decide +kernel) rfl
theorem m_918 : Cond.code yX9_addYes cX9_addYes 3 none ∈ BASE := bmem 918 (by decide +kernel) rfl
theorem m_921 : Cond.methodLink RX10 132 yX9_addNo ∈ BASE := bmem 921 (by decide +kernel) rfl
theorem m_922 : Cond.instanceMethod yX9_addNo ∈ BASE := bmem 922 (by decide +kernel) rfl
theorem m_923 : Cond.selects yX9_addNo.cls yX9_addNo yX9_addNo ∈ BASE := bmem 923 (by decide +kernel) rfl
theorem m_924 : Cond.code yX9_addNo cX9_addNo 2 none ∈ BASE := bmem 924 (by decide +kernel) rfl
theorem m_941 : Cond.methodLink RX10 135 yX9_held ∈ BASE := bmem 941 (by decide +kernel) rfl
theorem m_1029 : Cond.methodLink RX10 141 yX7_letThingsGo ∈ BASE := bmem 1029 (by decide +kernel) rfl
theorem m_1030 : Cond.instanceMethod yX7_letThingsGo ∈ BASE := bmem 1030 (by decide +kernel) rfl
theorem m_1031 : Cond.selects yX7_letThingsGo.cls yX7_letThingsGo yX7_letThingsGo ∈ BASE := bmem 1031 (by decide +kernel) rfl
theorem m_1032 : Cond.code yX7_letThingsGo cX7_letThingsGo 4 none ∈ BASE := bmem 1032 (by decide +kernel) rfl
theorem m_1039 : Cond.methodLink RX10 148 yX10_letWalkerGo ∈ BASE := bmem 1039 (by decide +kernel) rfl
theorem m_1041 : Cond.instanceMethod yX10_letWalkerGo ∈ BASE := bmem 1041 (by decide +kernel) rfl
theorem m_1042 : Cond.code yX10_letWalkerGo cX10_letWalkerGo 8 none ∈ BASE := bmem 1042 (by decide +kernel) rfl
theorem m_1043 : Cond.methodLink RX10 154 yX9_isOf ∈ BASE := bmem 1043 (by decide +kernel) rfl
theorem m_1044 : Cond.methodLink RX10 157 yX10_makeClick ∈ BASE := bmem 1044 (by decide +kernel) rfl
theorem m_1045 : Cond.methodLink RX10 160 yX9_yardsToFull ∈ BASE := bmem 1045 (by decide +kernel) rfl
theorem m_1046 : Cond.instanceMethod yX9_yardsToFull ∈ BASE := bmem 1046 (by decide +kernel) rfl
theorem m_1047 : Cond.selects yX9_yardsToFull.cls yX9_yardsToFull yX9_yardsToFull ∈ BASE := bmem 1047 (by decide +kernel) rfl
theorem m_1048 : Cond.code yX9_yardsToFull cX9_yardsToFull 3 (some .int) ∈ BASE := bmem 1048 (by decide +kernel) rfl
theorem m_1050 : Cond.methodLink RX10 163 yX2_habitValue ∈ BASE := bmem 1050 (by decide +kernel) rfl
theorem m_1051 : Cond.instanceMethod yX2_habitValue ∈ BASE := bmem 1051 (by decide +kernel) rfl
theorem m_1052 : Cond.selects yX2_habitValue.cls yX2_habitValue yX2_habitValue ∈ BASE := bmem 1052 (by decide +kernel) rfl
theorem m_1053 : Cond.code yX2_habitValue cX2_habitValue 6 (some .int) ∈ BASE := bmem 1053 (by decide +kernel) rfl
theorem m_1054 : Cond.methodLink RX10 167 yJM_floorMod ∈ BASE := bmem 1054 (by decide +kernel) rfl
theorem m_1055 : Cond.static yJM_floorMod ∈ BASE := bmem 1055 (by decide +kernel) rfl
theorem m_1056 : Cond.code yJM_floorMod cJM_floorMod 3 (some .int) ∈ BASE := bmem 1056 (by decide +kernel) rfl
theorem m_1057 : Cond.methodLink RX10 172 yX10_goOn ∈ BASE := bmem 1057 (by decide +kernel) rfl
theorem m_1059 : Cond.instanceMethod yX10_goOn ∈ BASE := bmem 1059 (by decide +kernel) rfl
theorem m_1060 : Cond.code yX10_goOn cX10_goOn 5 none ∈ BASE := bmem 1060 (by decide +kernel) rfl
theorem m_1061 : Cond.methodLink RX10 178 yX9_speed ∈ BASE := bmem 1061 (by decide +kernel) rfl
theorem m_1062 : Cond.methodLink RX10 181 yX7_isFree ∈ BASE := bmem 1062 (by decide +kernel) rfl
theorem m_1063 : Cond.methodLink RX10 175 yX9_turn ∈ BASE := bmem 1063 (by decide +kernel) rfl
theorem m_1064 : Cond.instanceMethod yX9_turn ∈ BASE := bmem 1064 (by decide +kernel) rfl
theorem m_1065 : Cond.selects yX9_turn.cls yX9_turn yX9_turn ∈ BASE := bmem 1065 (by decide +kernel) rfl
theorem m_1066 : Cond.code yX9_turn cX9_turn 2 none ∈ BASE := bmem 1066 (by decide +kernel) rfl
theorem m_1106 : Cond.methodLink RX10 138 yX9_yardsHeldFree ∈ BASE := bmem 1106 (by decide +kernel) rfl
theorem m_1107 : Cond.instanceMethod yX9_yardsHeldFree ∈ BASE := bmem 1107 (by decide +kernel) rfl
theorem m_1108 : Cond.selects yX9_yardsHeldFree.cls yX9_yardsHeldFree yX9_yardsHeldFree ∈ BASE := bmem 1108 (by decide +kernel) rfl
theorem m_1109 : Cond.code yX9_yardsHeldFree cX9_yardsHeldFree 2 (some .int) ∈ BASE := bmem 1109 (by decide +kernel) rfl
theorem m_1143 : Cond.instanceMethod yX5_takeFrom ∈ BASE := bmem 1143 (by decide +kernel) rfl
theorem m_1144 : Cond.selects yX5_takeFrom.cls yX5_takeFrom yX5_takeFrom ∈ BASE := bmem 1144 (by decide +kernel) rfl
theorem m_1145 : Cond.code yX5_takeFrom cX5_takeFrom 3 none ∈ BASE := bmem 1145 (by decide +kernel) rfl
theorem m_1258 : Cond.methodLink RX10 184 yX7_takeFrom ∈ BASE := bmem 1258 (by decide +kernel) rfl
theorem m_1259 : Cond.instanceMethod yX7_takeFrom ∈ BASE := bmem 1259 (by decide +kernel) rfl
theorem m_1260 : Cond.selects yX7_takeFrom.cls yX7_takeFrom yX7_takeFrom ∈ BASE := bmem 1260 (by decide +kernel) rfl
theorem m_1261 : Cond.code yX7_takeFrom cX7_takeFrom 2 none ∈ BASE := bmem 1261 (by decide +kernel) rfl
theorem m_1263 : Cond.methodLink RX10 188 yX2_takeFrom ∈ BASE := bmem 1263 (by decide +kernel) rfl
theorem m_1264 : Cond.instanceMethod yX2_takeFrom ∈ BASE := bmem 1264 (by decide +kernel) rfl
theorem m_1265 : Cond.selects yX2_takeFrom.cls yX2_takeFrom yX2_takeFrom ∈ BASE := bmem 1265 (by decide +kernel) rfl
theorem m_1266 : Cond.code yX2_takeFrom cX2_takeFrom 3 none ∈ BASE := bmem 1266 (by decide +kernel) rfl
theorem m_1269 : Cond.methodLink RX10 191 yX3_takeFrom ∈ BASE := bmem 1269 (by decide +kernel) rfl
theorem m_1270 : Cond.instanceMethod yX3_takeFrom ∈ BASE := bmem 1270 (by decide +kernel) rfl
theorem m_1271 : Cond.selects yX3_takeFrom.cls yX3_takeFrom yX3_takeFrom ∈ BASE := bmem 1271 (by decide +kernel) rfl
theorem m_1272 : Cond.code yX3_takeFrom cX3_takeFrom 2 none ∈ BASE := bmem 1272 (by decide +kernel) rfl
theorem m_1274 : Cond.methodLink RX10 194 yX5_takeFrom ∈ BASE := bmem 1274 (by decide +kernel) rfl
theorem m_1275 : Cond.methodLink RX10 197 yX9_takeFrom ∈ BASE := bmem 1275 (by decide +kernel) rfl
theorem m_1276 : Cond.instanceMethod yX9_takeFrom ∈ BASE := bmem 1276 (by decide +kernel) rfl
theorem m_1277 : Cond.selects yX9_takeFrom.cls yX9_takeFrom yX9_takeFrom ∈ BASE := bmem 1277 (by decide +kernel) rfl
theorem m_1278 : Cond.code yX9_takeFrom cX9_takeFrom 2 none ∈ BASE := bmem 1278 (by decide +kernel) rfl
theorem kV_X10_echoYards : KV yX10_echoYards cX10_echoYards 7 (some .int) 3 := ⟨m_844, m_845, m_80, m_846, by decide +kernel, by decide +kernel, by decide +kernel⟩
theorem kV_X10_goOn : KV yX10_goOn cX10_goOn 5 none 1 := ⟨m_1059, m_15, m_80, m_1060, by decide +kernel, by decide +kernel, by decide +kernel⟩
theorem kV_X10_hasWalker : KV yX10_hasWalker cX10_hasWalker 2 (some .boolean) 1 := ⟨m_610, m_611, m_80, m_612, by decide +kernel, by decide +kernel, by decide +kernel⟩
theorem kV_X10_heardYards : KV yX10_heardYards cX10_heardYards 7 (some .int) 3 := ⟨m_901, m_902, m_80, m_903, by decide +kernel, by decide +kernel, by decide +kernel⟩
theorem kV_X10_isFreeBut : KV yX10_isFreeBut cX10_isFreeBut 4 (some .boolean) 2 := ⟨m_858, m_859, m_80, m_860, by decide +kernel, by decide +kernel, by decide +kernel⟩
theorem kV_X10_letWalkerGo : KV yX10_letWalkerGo cX10_letWalkerGo 8 none 1 := ⟨m_1041, m_14, m_80, m_1042, by decide +kernel, by decide +kernel, by decide +kernel⟩
theorem kV_X10_makeClick : KV yX10_makeClick cX10_makeClick 7 (some .int) 1 := ⟨m_897, m_898, m_80, m_899, by decide +kernel, by decide +kernel, by decide +kernel⟩
theorem kV_X2_habitValue : KV yX2_habitValue cX2_habitValue 6 (some .int) 5 := ⟨m_1051, m_1052, m_82, m_1053, by decide +kernel, by decide +kernel, by decide +kernel⟩
theorem kV_X2_takeFrom : KV yX2_takeFrom cX2_takeFrom 3 none 1 := ⟨m_1264, m_1265, m_82, m_1266, by decide +kernel, by decide +kernel, by decide +kernel⟩
theorem kV_X3_takeFrom : KV yX3_takeFrom cX3_takeFrom 2 none 1 := ⟨m_1270, m_1271, m_84, m_1272, by decide +kernel, by decide +kernel, by decide +kernel⟩
theorem kV_X5_takeFrom : KV yX5_takeFrom cX5_takeFrom 3 none 1 := ⟨m_1143, m_1144, m_85, m_1145, by decide +kernel, by decide +kernel, by decide +kernel⟩
theorem kV_X7_kindIn : KV yX7_kindIn cX7_kindIn 3 (some .int) 1 := ⟨m_870, m_871, m_81, m_872, by decide +kernel, by decide +kernel, by decide +kernel⟩
theorem kV_X7_letThingsGo : KV yX7_letThingsGo cX7_letThingsGo 4 none 1 := ⟨m_1030, m_1031, m_81, m_1032, by decide +kernel, by decide +kernel, by decide +kernel⟩
theorem kV_X7_takeFrom : KV yX7_takeFrom cX7_takeFrom 2 none 1 := ⟨m_1259, m_1260, m_81, m_1261, by decide +kernel, by decide +kernel, by decide +kernel⟩
theorem kV_X9_addNo : KV yX9_addNo cX9_addNo 2 none 1 := ⟨m_922, m_923, m_87, m_924, by decide +kernel, by decide +kernel, by decide +kernel⟩
theorem kV_X9_addYes : KV yX9_addYes cX9_addYes 3 none 2 := ⟨m_916, m_917, m_87, m_918, by decide +kernel, by decide +kernel, by decide +kernel⟩
theorem kV_X9_begin : KV yX9_begin cX9_begin 5 none 3 := ⟨m_601, m_602, m_87, m_603, by decide +kernel, by decide +kernel, by decide +kernel⟩
theorem kV_X9_isOf : KV yX9_isOf cX9_isOf 4 (some .boolean) 1 := ⟨m_640, m_641, m_87, m_642, by decide +kernel, by decide +kernel, by decide +kernel⟩
theorem kV_X9_ownClick : KV yX9_ownClick cX9_ownClick 1 (some .int) 0 := ⟨m_905, m_906, m_87, m_907, by decide +kernel, by decide +kernel, by decide +kernel⟩
theorem kV_X9_takeFrom : KV yX9_takeFrom cX9_takeFrom 2 none 1 := ⟨m_1276, m_1277, m_87, m_1278, by decide +kernel, by decide +kernel, by decide +kernel⟩
theorem kV_X9_turn : KV yX9_turn cX9_turn 2 none 1 := ⟨m_1064, m_1065, m_87, m_1066, by decide +kernel, by decide +kernel, by decide +kernel⟩
theorem kV_X9_yardsHeldFree : KV yX9_yardsHeldFree cX9_yardsHeldFree 2 (some .int) 0 := ⟨m_1107, m_1108, m_87, m_1109, by decide +kernel, by decide +kernel, by decide +kernel⟩
theorem kV_X9_yardsToFull : KV yX9_yardsToFull cX9_yardsToFull 3 (some .int) 1 := ⟨m_1046, m_1047, m_87, m_1048, by decide +kernel, by decide +kernel, by decide +kernel⟩
theorem inB10 : ∀ w ∈ u_ws RX10 TX10 8, w ∈ BASE := bmems (u_ws RX10 TX10 8) [328, 330, 332, 334, 336, 338, 340, 342] (by decide +kernel) (by decide +kernel)
theorem fl_RX10_10 : FLK RX10 10 10 0 (.object "ClickStreet$Street") true := ⟨RX10, TX10, 8, tyX10, rfl, inB10, tyX10_ok, nmX10, by decide, rfl, rfl, Or.inl m_309⟩
theorem fl_RX10_109 : FLK RX10 109 9 1 .int false := ⟨RX9, TX9, 11, tyX9, rfl, inB9, tyX9_ok, nmX9, by decide, rfl, rfl, Or.inr ⟨"ClickStreet", List.mem_of_getElem? (l := NFs) (i := 15) rfl⟩⟩
theorem fl_RX10_119 : FLK RX10 119 9 2 .int false := ⟨RX9, TX9, 11, tyX9, rfl, inB9, tyX9_ok, nmX9, by decide, rfl, rfl, Or.inr ⟨"ClickStreet", List.mem_of_getElem? (l := NFs) (i := 17) rfl⟩⟩
theorem fl_RX10_144 : FLK RX10 144 9 6 .boolean false := ⟨RX9, TX9, 11, tyX9, rfl, inB9, tyX9_ok, nmX9, by decide, rfl, rfl, Or.inr ⟨"ClickStreet", List.mem_of_getElem? (l := NFs) (i := 24) rfl⟩⟩
theorem fl_RX10_151 : FLK RX10 151 9 5 .int false := ⟨RX9, TX9, 11, tyX9, rfl, inB9, tyX9_ok, nmX9, by decide, rfl, rfl, Or.inr ⟨"ClickStreet", List.mem_of_getElem? (l := NFs) (i := 23) rfl⟩⟩
theorem fl_RX10_19 : FLK RX10 19 10 1 (.object "ClickStreet$Laws") true := ⟨RX10, TX10, 8, tyX10, rfl, inB10, tyX10_ok, nmX10, by decide, rfl, rfl, Or.inl m_312⟩
theorem fl_RX10_26 : FLK RX10 26 10 2 (.object "ClickStreet$Lessons") true := ⟨RX10, TX10, 8, tyX10, rfl, inB10, tyX10_ok, nmX10, by decide, rfl, rfl, Or.inl m_315⟩
theorem fl_RX10_37 : FLK RX10 37 10 3 (.object "ClickStreet$Row") true := ⟨RX10, TX10, 8, tyX10, rfl, inB10, tyX10_ok, nmX10, by decide, rfl, rfl, Or.inl m_317⟩
theorem fl_RX10_41 : FLK RX10 41 10 4 (.object "ClickStreet$Row") true := ⟨RX10, TX10, 8, tyX10, rfl, inB10, tyX10_ok, nmX10, by decide, rfl, rfl, Or.inl m_319⟩
theorem fl_RX10_46 : FLK RX10 46 10 5 (.array (.object "ClickStreet$Walker")) true := ⟨RX10, TX10, 8, tyX10, rfl, inB10, tyX10_ok, nmX10, by decide, rfl, rfl, Or.inl m_321⟩
theorem fl_RX10_50 : FLK RX10 50 10 6 .int false := ⟨RX10, TX10, 8, tyX10, rfl, inB10, tyX10_ok, nmX10, by decide, rfl, rfl, Or.inl m_324⟩
theorem fl_RX10_54 : FLK RX10 54 10 7 .int false := ⟨RX10, TX10, 8, tyX10, rfl, inB10, tyX10_ok, nmX10, by decide, rfl, rfl, Or.inl m_326⟩
theorem fl_RX10_66 : FLK RX10 66 9 7 .int false := ⟨RX9, TX9, 11, tyX9, rfl, inB9, tyX9_ok, nmX9, by decide, rfl, rfl, Or.inr ⟨"ClickStreet", List.mem_of_getElem? (l := NFs) (i := 26) rfl⟩⟩
theorem fl_RX10_69 : FLK RX10 69 9 8 .int false := ⟨RX9, TX9, 11, tyX9, rfl, inB9, tyX9_ok, nmX9, by decide, rfl, rfl, Or.inr ⟨"ClickStreet", List.mem_of_getElem? (l := NFs) (i := 27) rfl⟩⟩
theorem fl_RX10_72 : FLK RX10 72 7 0 (.array .int) true := ⟨RX7, TX7, 6, tyX7, rfl, inB7, tyX7_ok, nmX7, by decide, rfl, rfl, Or.inr ⟨"ClickStreet", List.mem_of_getElem? (l := NFs) (i := 0) rfl⟩⟩
theorem ch_cX10_addWalker_0 : (cX10_addWalker.data.toList.drop 0).take 36 = [42, 180, 0, 50, 54, 4, 21, 4, 155, 0, 10, 21, 4, 16, 8, 161, 0, 5, 2, 172, 42, 180, 0, 46, 21, 4, 50, 27, 28, 29, 182, 0, 58, 42, 180, 0] := by decide +kernel
theorem dX10_addWalker_0 : decode cX10_addWalker 0 = .ok (.aload_n 0, 1) := do_42 (rdb (p := 0) (i := 0) ch_cX10_addWalker_0 rfl)
theorem dX10_addWalker_1 : decode cX10_addWalker 1 = .ok (.getfield 50, 3) := do_180 (rdb (p := 0) (i := 1) ch_cX10_addWalker_0 rfl) (rdb (p := 0) (i := 2) ch_cX10_addWalker_0 rfl) (rdb (p := 0) (i := 3) ch_cX10_addWalker_0 rfl) rfl
theorem dX10_addWalker_4 : decode cX10_addWalker 4 = .ok (.istore 4, 2) := do_54 (rdb (p := 0) (i := 4) ch_cX10_addWalker_0 rfl) (rdb (p := 0) (i := 5) ch_cX10_addWalker_0 rfl)
theorem dX10_addWalker_6 : decode cX10_addWalker 6 = .ok (.iload 4, 2) := do_21 (rdb (p := 0) (i := 6) ch_cX10_addWalker_0 rfl) (rdb (p := 0) (i := 7) ch_cX10_addWalker_0 rfl)
theorem dX10_addWalker_8 : decode cX10_addWalker 8 = .ok (.ifCond .lt 10, 3) := do_155 (rdb (p := 0) (i := 8) ch_cX10_addWalker_0 rfl) (rdb (p := 0) (i := 9) ch_cX10_addWalker_0 rfl) (rdb (p := 0) (i := 10) ch_cX10_addWalker_0 rfl) (by decide +kernel)
theorem dX10_addWalker_11 : decode cX10_addWalker 11 = .ok (.iload 4, 2) := do_21 (rdb (p := 0) (i := 11) ch_cX10_addWalker_0 rfl) (rdb (p := 0) (i := 12) ch_cX10_addWalker_0 rfl)
theorem dX10_addWalker_13 : decode cX10_addWalker 13 = .ok (.bipush 8, 2) := do_16 (rdb (p := 0) (i := 13) ch_cX10_addWalker_0 rfl) (rdb (p := 0) (i := 14) ch_cX10_addWalker_0 rfl) (by decide +kernel)
theorem dX10_addWalker_15 : decode cX10_addWalker 15 = .ok (.if_icmp .lt 5, 3) := do_161 (rdb (p := 0) (i := 15) ch_cX10_addWalker_0 rfl) (rdb (p := 0) (i := 16) ch_cX10_addWalker_0 rfl) (rdb (p := 0) (i := 17) ch_cX10_addWalker_0 rfl) (by decide +kernel)
theorem dX10_addWalker_18 : decode cX10_addWalker 18 = .ok (.iconst (-1), 1) := do_2 (rdb (p := 0) (i := 18) ch_cX10_addWalker_0 rfl)
theorem dX10_addWalker_19 : decode cX10_addWalker 19 = .ok (.ireturn, 1) := do_172 (rdb (p := 0) (i := 19) ch_cX10_addWalker_0 rfl)
theorem dX10_addWalker_20 : decode cX10_addWalker 20 = .ok (.aload_n 0, 1) := do_42 (rdb (p := 0) (i := 20) ch_cX10_addWalker_0 rfl)
theorem dX10_addWalker_21 : decode cX10_addWalker 21 = .ok (.getfield 46, 3) := do_180 (rdb (p := 0) (i := 21) ch_cX10_addWalker_0 rfl) (rdb (p := 0) (i := 22) ch_cX10_addWalker_0 rfl) (rdb (p := 0) (i := 23) ch_cX10_addWalker_0 rfl) rfl
theorem dX10_addWalker_24 : decode cX10_addWalker 24 = .ok (.iload 4, 2) := do_21 (rdb (p := 0) (i := 24) ch_cX10_addWalker_0 rfl) (rdb (p := 0) (i := 25) ch_cX10_addWalker_0 rfl)
theorem dX10_addWalker_26 : decode cX10_addWalker 26 = .ok (.aaload, 1) := do_50 (rdb (p := 0) (i := 26) ch_cX10_addWalker_0 rfl)
theorem dX10_addWalker_27 : decode cX10_addWalker 27 = .ok (.iload_n 1, 1) := do_27 (rdb (p := 0) (i := 27) ch_cX10_addWalker_0 rfl)
theorem dX10_addWalker_28 : decode cX10_addWalker 28 = .ok (.iload_n 2, 1) := do_28 (rdb (p := 0) (i := 28) ch_cX10_addWalker_0 rfl)
theorem dX10_addWalker_29 : decode cX10_addWalker 29 = .ok (.iload_n 3, 1) := do_29 (rdb (p := 0) (i := 29) ch_cX10_addWalker_0 rfl)
theorem dX10_addWalker_30 : decode cX10_addWalker 30 = .ok (.invokevirtual 58, 3) := do_182 (rdb (p := 0) (i := 30) ch_cX10_addWalker_0 rfl) (rdb (p := 0) (i := 31) ch_cX10_addWalker_0 rfl) (rdb (p := 0) (i := 32) ch_cX10_addWalker_0 rfl) rfl
theorem ch_cX10_addWalker_32 : (cX10_addWalker.data.toList.drop 32).take 36 = [58, 42, 180, 0, 10, 28, 16, 100, 21, 4, 96, 182, 0, 62, 42, 89, 180, 0, 50, 4, 96, 181, 0, 50, 21, 4, 172] := by decide +kernel
theorem dX10_addWalker_33 : decode cX10_addWalker 33 = .ok (.aload_n 0, 1) := do_42 (rdb (p := 32) (i := 1) ch_cX10_addWalker_32 rfl)
theorem dX10_addWalker_34 : decode cX10_addWalker 34 = .ok (.getfield 10, 3) := do_180 (rdb (p := 32) (i := 2) ch_cX10_addWalker_32 rfl) (rdb (p := 32) (i := 3) ch_cX10_addWalker_32 rfl) (rdb (p := 32) (i := 4) ch_cX10_addWalker_32 rfl) rfl
theorem dX10_addWalker_37 : decode cX10_addWalker 37 = .ok (.iload_n 2, 1) := do_28 (rdb (p := 32) (i := 5) ch_cX10_addWalker_32 rfl)
theorem dX10_addWalker_38 : decode cX10_addWalker 38 = .ok (.bipush 100, 2) := do_16 (rdb (p := 32) (i := 6) ch_cX10_addWalker_32 rfl) (rdb (p := 32) (i := 7) ch_cX10_addWalker_32 rfl) (by decide +kernel)
theorem dX10_addWalker_40 : decode cX10_addWalker 40 = .ok (.iload 4, 2) := do_21 (rdb (p := 32) (i := 8) ch_cX10_addWalker_32 rfl) (rdb (p := 32) (i := 9) ch_cX10_addWalker_32 rfl)
theorem dX10_addWalker_42 : decode cX10_addWalker 42 = .ok (.iadd, 1) := do_96 (rdb (p := 32) (i := 10) ch_cX10_addWalker_32 rfl)
theorem dX10_addWalker_43 : decode cX10_addWalker 43 = .ok (.invokevirtual 62, 3) := do_182 (rdb (p := 32) (i := 11) ch_cX10_addWalker_32 rfl) (rdb (p := 32) (i := 12) ch_cX10_addWalker_32 rfl) (rdb (p := 32) (i := 13) ch_cX10_addWalker_32 rfl) rfl
theorem dX10_addWalker_46 : decode cX10_addWalker 46 = .ok (.aload_n 0, 1) := do_42 (rdb (p := 32) (i := 14) ch_cX10_addWalker_32 rfl)
theorem dX10_addWalker_47 : decode cX10_addWalker 47 = .ok (.dup, 1) := do_89 (rdb (p := 32) (i := 15) ch_cX10_addWalker_32 rfl)
theorem dX10_addWalker_48 : decode cX10_addWalker 48 = .ok (.getfield 50, 3) := do_180 (rdb (p := 32) (i := 16) ch_cX10_addWalker_32 rfl) (rdb (p := 32) (i := 17) ch_cX10_addWalker_32 rfl) (rdb (p := 32) (i := 18) ch_cX10_addWalker_32 rfl) rfl
theorem dX10_addWalker_51 : decode cX10_addWalker 51 = .ok (.iconst 1, 1) := do_4 (rdb (p := 32) (i := 19) ch_cX10_addWalker_32 rfl)
theorem dX10_addWalker_52 : decode cX10_addWalker 52 = .ok (.iadd, 1) := do_96 (rdb (p := 32) (i := 20) ch_cX10_addWalker_32 rfl)
theorem dX10_addWalker_53 : decode cX10_addWalker 53 = .ok (.putfield 50, 3) := do_181 (rdb (p := 32) (i := 21) ch_cX10_addWalker_32 rfl) (rdb (p := 32) (i := 22) ch_cX10_addWalker_32 rfl) (rdb (p := 32) (i := 23) ch_cX10_addWalker_32 rfl) rfl
theorem dX10_addWalker_56 : decode cX10_addWalker 56 = .ok (.iload 4, 2) := do_21 (rdb (p := 32) (i := 24) ch_cX10_addWalker_32 rfl) (rdb (p := 32) (i := 25) ch_cX10_addWalker_32 rfl)
theorem dX10_addWalker_58 : decode cX10_addWalker 58 = .ok (.ireturn, 1) := do_172 (rdb (p := 32) (i := 26) ch_cX10_addWalker_32 rfl)
theorem dX10_countBumps_0 : decode cX10_countBumps 0 = .ok (.iconst 0, 1) := by decide +kernel
theorem dX10_countBumps_1 : decode cX10_countBumps 1 = .ok (.istore_n 1, 1) := by decide +kernel
theorem dX10_countBumps_2 : decode cX10_countBumps 2 = .ok (.iconst 0, 1) := by decide +kernel
theorem dX10_countBumps_3 : decode cX10_countBumps 3 = .ok (.istore_n 2, 1) := by decide +kernel
theorem dX10_countBumps_4 : decode cX10_countBumps 4 = .ok (.iload_n 2, 1) := by decide +kernel
theorem dX10_countBumps_5 : decode cX10_countBumps 5 = .ok (.aload_n 0, 1) := by decide +kernel
theorem dX10_countBumps_6 : decode cX10_countBumps 6 = .ok (.getfield 50, 3) := by decide +kernel
theorem dX10_countBumps_9 : decode cX10_countBumps 9 = .ok (.if_icmp .ge 27, 3) := by decide +kernel
theorem dX10_countBumps_12 : decode cX10_countBumps 12 = .ok (.iload_n 2, 1) := by decide +kernel
theorem dX10_countBumps_13 : decode cX10_countBumps 13 = .ok (.bipush 8, 2) := by decide +kernel
theorem dX10_countBumps_15 : decode cX10_countBumps 15 = .ok (.if_icmp .ge 21, 3) := by decide +kernel
theorem dX10_countBumps_18 : decode cX10_countBumps 18 = .ok (.iload_n 1, 1) := by decide +kernel
theorem dX10_countBumps_19 : decode cX10_countBumps 19 = .ok (.aload_n 0, 1) := by decide +kernel
theorem dX10_countBumps_20 : decode cX10_countBumps 20 = .ok (.getfield 46, 3) := by decide +kernel
theorem dX10_countBumps_23 : decode cX10_countBumps 23 = .ok (.iload_n 2, 1) := by decide +kernel
theorem dX10_countBumps_24 : decode cX10_countBumps 24 = .ok (.aaload, 1) := by decide +kernel
theorem dX10_countBumps_25 : decode cX10_countBumps 25 = .ok (.getfield 66, 3) := by decide +kernel
theorem dX10_countBumps_28 : decode cX10_countBumps 28 = .ok (.iadd, 1) := by decide +kernel
theorem dX10_countBumps_29 : decode cX10_countBumps 29 = .ok (.istore_n 1, 1) := by decide +kernel
theorem dX10_countBumps_30 : decode cX10_countBumps 30 = .ok (.iinc 2 1, 3) := by decide +kernel
theorem dX10_countBumps_33 : decode cX10_countBumps 33 = .ok (.goto (-29), 3) := by decide +kernel
theorem dX10_countBumps_36 : decode cX10_countBumps 36 = .ok (.iload_n 1, 1) := by decide +kernel
theorem dX10_countBumps_37 : decode cX10_countBumps 37 = .ok (.ireturn, 1) := by decide +kernel
theorem dX10_countClicks_0 : decode cX10_countClicks 0 = .ok (.iconst 0, 1) := by decide +kernel
theorem dX10_countClicks_1 : decode cX10_countClicks 1 = .ok (.istore_n 1, 1) := by decide +kernel
theorem dX10_countClicks_2 : decode cX10_countClicks 2 = .ok (.iconst 0, 1) := by decide +kernel
theorem dX10_countClicks_3 : decode cX10_countClicks 3 = .ok (.istore_n 2, 1) := by decide +kernel
theorem dX10_countClicks_4 : decode cX10_countClicks 4 = .ok (.iload_n 2, 1) := by decide +kernel
theorem dX10_countClicks_5 : decode cX10_countClicks 5 = .ok (.aload_n 0, 1) := by decide +kernel
theorem dX10_countClicks_6 : decode cX10_countClicks 6 = .ok (.getfield 50, 3) := by decide +kernel
theorem dX10_countClicks_9 : decode cX10_countClicks 9 = .ok (.if_icmp .ge 27, 3) := by decide +kernel
theorem dX10_countClicks_12 : decode cX10_countClicks 12 = .ok (.iload_n 2, 1) := by decide +kernel
theorem dX10_countClicks_13 : decode cX10_countClicks 13 = .ok (.bipush 8, 2) := by decide +kernel
theorem dX10_countClicks_15 : decode cX10_countClicks 15 = .ok (.if_icmp .ge 21, 3) := by decide +kernel
theorem dX10_countClicks_18 : decode cX10_countClicks 18 = .ok (.iload_n 1, 1) := by decide +kernel
theorem dX10_countClicks_19 : decode cX10_countClicks 19 = .ok (.aload_n 0, 1) := by decide +kernel
theorem dX10_countClicks_20 : decode cX10_countClicks 20 = .ok (.getfield 46, 3) := by decide +kernel
theorem dX10_countClicks_23 : decode cX10_countClicks 23 = .ok (.iload_n 2, 1) := by decide +kernel
theorem dX10_countClicks_24 : decode cX10_countClicks 24 = .ok (.aaload, 1) := by decide +kernel
theorem dX10_countClicks_25 : decode cX10_countClicks 25 = .ok (.getfield 69, 3) := by decide +kernel
theorem dX10_countClicks_28 : decode cX10_countClicks 28 = .ok (.iadd, 1) := by decide +kernel
theorem dX10_countClicks_29 : decode cX10_countClicks 29 = .ok (.istore_n 1, 1) := by decide +kernel
theorem dX10_countClicks_30 : decode cX10_countClicks 30 = .ok (.iinc 2 1, 3) := by decide +kernel
theorem dX10_countClicks_33 : decode cX10_countClicks 33 = .ok (.goto (-29), 3) := by decide +kernel
theorem dX10_countClicks_36 : decode cX10_countClicks 36 = .ok (.iload_n 1, 1) := by decide +kernel
theorem dX10_countClicks_37 : decode cX10_countClicks 37 = .ok (.ireturn, 1) := by decide +kernel
theorem ch_cX10_countWrong_0 : (cX10_countWrong.data.toList.drop 0).take 36 = [42, 27, 182, 0, 76, 154, 0, 5, 3, 172, 3, 61, 3, 62, 29, 17, 0, 192, 162, 0, 52, 42, 180, 0, 46, 27, 50, 29, 182, 0, 135, 54, 4, 42, 27, 29] := by decide +kernel
theorem dX10_countWrong_0 : decode cX10_countWrong 0 = .ok (.aload_n 0, 1) := do_42 (rdb (p := 0) (i := 0) ch_cX10_countWrong_0 rfl)
theorem dX10_countWrong_1 : decode cX10_countWrong 1 = .ok (.iload_n 1, 1) := do_27 (rdb (p := 0) (i := 1) ch_cX10_countWrong_0 rfl)
theorem dX10_countWrong_2 : decode cX10_countWrong 2 = .ok (.invokevirtual 76, 3) := do_182 (rdb (p := 0) (i := 2) ch_cX10_countWrong_0 rfl) (rdb (p := 0) (i := 3) ch_cX10_countWrong_0 rfl) (rdb (p := 0) (i := 4) ch_cX10_countWrong_0 rfl) rfl
theorem dX10_countWrong_5 : decode cX10_countWrong 5 = .ok (.ifCond .ne 5, 3) := do_154 (rdb (p := 0) (i := 5) ch_cX10_countWrong_0 rfl) (rdb (p := 0) (i := 6) ch_cX10_countWrong_0 rfl) (rdb (p := 0) (i := 7) ch_cX10_countWrong_0 rfl) (by decide +kernel)
theorem dX10_countWrong_8 : decode cX10_countWrong 8 = .ok (.iconst 0, 1) := do_3 (rdb (p := 0) (i := 8) ch_cX10_countWrong_0 rfl)
theorem dX10_countWrong_9 : decode cX10_countWrong 9 = .ok (.ireturn, 1) := do_172 (rdb (p := 0) (i := 9) ch_cX10_countWrong_0 rfl)
theorem dX10_countWrong_10 : decode cX10_countWrong 10 = .ok (.iconst 0, 1) := do_3 (rdb (p := 0) (i := 10) ch_cX10_countWrong_0 rfl)
theorem dX10_countWrong_11 : decode cX10_countWrong 11 = .ok (.istore_n 2, 1) := do_61 (rdb (p := 0) (i := 11) ch_cX10_countWrong_0 rfl)
theorem dX10_countWrong_12 : decode cX10_countWrong 12 = .ok (.iconst 0, 1) := do_3 (rdb (p := 0) (i := 12) ch_cX10_countWrong_0 rfl)
theorem dX10_countWrong_13 : decode cX10_countWrong 13 = .ok (.istore_n 3, 1) := do_62 (rdb (p := 0) (i := 13) ch_cX10_countWrong_0 rfl)
theorem dX10_countWrong_14 : decode cX10_countWrong 14 = .ok (.iload_n 3, 1) := do_29 (rdb (p := 0) (i := 14) ch_cX10_countWrong_0 rfl)
theorem dX10_countWrong_15 : decode cX10_countWrong 15 = .ok (.sipush 192, 3) := do_17 (rdb (p := 0) (i := 15) ch_cX10_countWrong_0 rfl) (rdb (p := 0) (i := 16) ch_cX10_countWrong_0 rfl) (rdb (p := 0) (i := 17) ch_cX10_countWrong_0 rfl) (by decide +kernel)
theorem dX10_countWrong_18 : decode cX10_countWrong 18 = .ok (.if_icmp .ge 52, 3) := do_162 (rdb (p := 0) (i := 18) ch_cX10_countWrong_0 rfl) (rdb (p := 0) (i := 19) ch_cX10_countWrong_0 rfl) (rdb (p := 0) (i := 20) ch_cX10_countWrong_0 rfl) (by decide +kernel)
theorem dX10_countWrong_21 : decode cX10_countWrong 21 = .ok (.aload_n 0, 1) := do_42 (rdb (p := 0) (i := 21) ch_cX10_countWrong_0 rfl)
theorem dX10_countWrong_22 : decode cX10_countWrong 22 = .ok (.getfield 46, 3) := do_180 (rdb (p := 0) (i := 22) ch_cX10_countWrong_0 rfl) (rdb (p := 0) (i := 23) ch_cX10_countWrong_0 rfl) (rdb (p := 0) (i := 24) ch_cX10_countWrong_0 rfl) rfl
theorem dX10_countWrong_25 : decode cX10_countWrong 25 = .ok (.iload_n 1, 1) := do_27 (rdb (p := 0) (i := 25) ch_cX10_countWrong_0 rfl)
theorem dX10_countWrong_26 : decode cX10_countWrong 26 = .ok (.aaload, 1) := do_50 (rdb (p := 0) (i := 26) ch_cX10_countWrong_0 rfl)
theorem dX10_countWrong_27 : decode cX10_countWrong 27 = .ok (.iload_n 3, 1) := do_29 (rdb (p := 0) (i := 27) ch_cX10_countWrong_0 rfl)
theorem dX10_countWrong_28 : decode cX10_countWrong 28 = .ok (.invokevirtual 135, 3) := do_182 (rdb (p := 0) (i := 28) ch_cX10_countWrong_0 rfl) (rdb (p := 0) (i := 29) ch_cX10_countWrong_0 rfl) (rdb (p := 0) (i := 30) ch_cX10_countWrong_0 rfl) rfl
theorem dX10_countWrong_31 : decode cX10_countWrong 31 = .ok (.istore 4, 2) := do_54 (rdb (p := 0) (i := 31) ch_cX10_countWrong_0 rfl) (rdb (p := 0) (i := 32) ch_cX10_countWrong_0 rfl)
theorem ch_cX10_countWrong_32 : (cX10_countWrong.data.toList.drop 32).take 36 = [4, 42, 27, 29, 182, 0, 88, 153, 0, 7, 4, 167, 0, 4, 5, 54, 5, 21, 4, 153, 0, 13, 21, 4, 21, 5, 159, 0, 6, 132, 2, 1, 132, 3, 1, 167] := by decide +kernel
theorem dX10_countWrong_33 : decode cX10_countWrong 33 = .ok (.aload_n 0, 1) := do_42 (rdb (p := 32) (i := 1) ch_cX10_countWrong_32 rfl)
theorem dX10_countWrong_34 : decode cX10_countWrong 34 = .ok (.iload_n 1, 1) := do_27 (rdb (p := 32) (i := 2) ch_cX10_countWrong_32 rfl)
theorem dX10_countWrong_35 : decode cX10_countWrong 35 = .ok (.iload_n 3, 1) := do_29 (rdb (p := 32) (i := 3) ch_cX10_countWrong_32 rfl)
theorem dX10_countWrong_36 : decode cX10_countWrong 36 = .ok (.invokevirtual 88, 3) := do_182 (rdb (p := 32) (i := 4) ch_cX10_countWrong_32 rfl) (rdb (p := 32) (i := 5) ch_cX10_countWrong_32 rfl) (rdb (p := 32) (i := 6) ch_cX10_countWrong_32 rfl) rfl
theorem dX10_countWrong_39 : decode cX10_countWrong 39 = .ok (.ifCond .eq 7, 3) := do_153 (rdb (p := 32) (i := 7) ch_cX10_countWrong_32 rfl) (rdb (p := 32) (i := 8) ch_cX10_countWrong_32 rfl) (rdb (p := 32) (i := 9) ch_cX10_countWrong_32 rfl) (by decide +kernel)
theorem dX10_countWrong_42 : decode cX10_countWrong 42 = .ok (.iconst 1, 1) := do_4 (rdb (p := 32) (i := 10) ch_cX10_countWrong_32 rfl)
theorem dX10_countWrong_43 : decode cX10_countWrong 43 = .ok (.goto 4, 3) := do_167 (rdb (p := 32) (i := 11) ch_cX10_countWrong_32 rfl) (rdb (p := 32) (i := 12) ch_cX10_countWrong_32 rfl) (rdb (p := 32) (i := 13) ch_cX10_countWrong_32 rfl) (by decide +kernel)
theorem dX10_countWrong_46 : decode cX10_countWrong 46 = .ok (.iconst 2, 1) := do_5 (rdb (p := 32) (i := 14) ch_cX10_countWrong_32 rfl)
theorem dX10_countWrong_47 : decode cX10_countWrong 47 = .ok (.istore 5, 2) := do_54 (rdb (p := 32) (i := 15) ch_cX10_countWrong_32 rfl) (rdb (p := 32) (i := 16) ch_cX10_countWrong_32 rfl)
theorem dX10_countWrong_49 : decode cX10_countWrong 49 = .ok (.iload 4, 2) := do_21 (rdb (p := 32) (i := 17) ch_cX10_countWrong_32 rfl) (rdb (p := 32) (i := 18) ch_cX10_countWrong_32 rfl)
theorem dX10_countWrong_51 : decode cX10_countWrong 51 = .ok (.ifCond .eq 13, 3) := do_153 (rdb (p := 32) (i := 19) ch_cX10_countWrong_32 rfl) (rdb (p := 32) (i := 20) ch_cX10_countWrong_32 rfl) (rdb (p := 32) (i := 21) ch_cX10_countWrong_32 rfl) (by decide +kernel)
theorem dX10_countWrong_54 : decode cX10_countWrong 54 = .ok (.iload 4, 2) := do_21 (rdb (p := 32) (i := 22) ch_cX10_countWrong_32 rfl) (rdb (p := 32) (i := 23) ch_cX10_countWrong_32 rfl)
theorem dX10_countWrong_56 : decode cX10_countWrong 56 = .ok (.iload 5, 2) := do_21 (rdb (p := 32) (i := 24) ch_cX10_countWrong_32 rfl) (rdb (p := 32) (i := 25) ch_cX10_countWrong_32 rfl)
theorem dX10_countWrong_58 : decode cX10_countWrong 58 = .ok (.if_icmp .eq 6, 3) := do_159 (rdb (p := 32) (i := 26) ch_cX10_countWrong_32 rfl) (rdb (p := 32) (i := 27) ch_cX10_countWrong_32 rfl) (rdb (p := 32) (i := 28) ch_cX10_countWrong_32 rfl) (by decide +kernel)
theorem dX10_countWrong_61 : decode cX10_countWrong 61 = .ok (.iinc 2 1, 3) := do_132 (rdb (p := 32) (i := 29) ch_cX10_countWrong_32 rfl) (rdb (p := 32) (i := 30) ch_cX10_countWrong_32 rfl) (rdb (p := 32) (i := 31) ch_cX10_countWrong_32 rfl) (by decide +kernel)
theorem ch_cX10_countWrong_64 : (cX10_countWrong.data.toList.drop 64).take 36 = [132, 3, 1, 167, 255, 203, 28, 172] := by decide +kernel
theorem dX10_countWrong_64 : decode cX10_countWrong 64 = .ok (.iinc 3 1, 3) := do_132 (rdb (p := 64) (i := 0) ch_cX10_countWrong_64 rfl) (rdb (p := 64) (i := 1) ch_cX10_countWrong_64 rfl) (rdb (p := 64) (i := 2) ch_cX10_countWrong_64 rfl) (by decide +kernel)
theorem dX10_countWrong_67 : decode cX10_countWrong 67 = .ok (.goto (-53), 3) := do_167 (rdb (p := 64) (i := 3) ch_cX10_countWrong_64 rfl) (rdb (p := 64) (i := 4) ch_cX10_countWrong_64 rfl) (rdb (p := 64) (i := 5) ch_cX10_countWrong_64 rfl) (by decide +kernel)
theorem dX10_countWrong_70 : decode cX10_countWrong 70 = .ok (.iload_n 2, 1) := do_28 (rdb (p := 64) (i := 6) ch_cX10_countWrong_64 rfl)
theorem dX10_countWrong_71 : decode cX10_countWrong 71 = .ok (.ireturn, 1) := do_172 (rdb (p := 64) (i := 7) ch_cX10_countWrong_64 rfl)
theorem ch_cX10_echoFact_0 : (cX10_echoFact.data.toList.drop 0).take 36 = [42, 27, 182, 0, 76, 154, 0, 5, 3, 172, 42, 180, 0, 46, 27, 50, 58, 5, 42, 27, 25, 5, 180, 0, 109, 29, 182, 0, 92, 54, 6, 29, 21, 6, 184, 0] := by decide +kernel
theorem dX10_echoFact_0 : decode cX10_echoFact 0 = .ok (.aload_n 0, 1) := do_42 (rdb (p := 0) (i := 0) ch_cX10_echoFact_0 rfl)
theorem dX10_echoFact_1 : decode cX10_echoFact 1 = .ok (.iload_n 1, 1) := do_27 (rdb (p := 0) (i := 1) ch_cX10_echoFact_0 rfl)
theorem dX10_echoFact_2 : decode cX10_echoFact 2 = .ok (.invokevirtual 76, 3) := do_182 (rdb (p := 0) (i := 2) ch_cX10_echoFact_0 rfl) (rdb (p := 0) (i := 3) ch_cX10_echoFact_0 rfl) (rdb (p := 0) (i := 4) ch_cX10_echoFact_0 rfl) rfl
theorem dX10_echoFact_5 : decode cX10_echoFact 5 = .ok (.ifCond .ne 5, 3) := do_154 (rdb (p := 0) (i := 5) ch_cX10_echoFact_0 rfl) (rdb (p := 0) (i := 6) ch_cX10_echoFact_0 rfl) (rdb (p := 0) (i := 7) ch_cX10_echoFact_0 rfl) (by decide +kernel)
theorem dX10_echoFact_8 : decode cX10_echoFact 8 = .ok (.iconst 0, 1) := do_3 (rdb (p := 0) (i := 8) ch_cX10_echoFact_0 rfl)
theorem dX10_echoFact_9 : decode cX10_echoFact 9 = .ok (.ireturn, 1) := do_172 (rdb (p := 0) (i := 9) ch_cX10_echoFact_0 rfl)
theorem dX10_echoFact_10 : decode cX10_echoFact 10 = .ok (.aload_n 0, 1) := do_42 (rdb (p := 0) (i := 10) ch_cX10_echoFact_0 rfl)
theorem dX10_echoFact_11 : decode cX10_echoFact 11 = .ok (.getfield 46, 3) := do_180 (rdb (p := 0) (i := 11) ch_cX10_echoFact_0 rfl) (rdb (p := 0) (i := 12) ch_cX10_echoFact_0 rfl) (rdb (p := 0) (i := 13) ch_cX10_echoFact_0 rfl) rfl
theorem dX10_echoFact_14 : decode cX10_echoFact 14 = .ok (.iload_n 1, 1) := do_27 (rdb (p := 0) (i := 14) ch_cX10_echoFact_0 rfl)
theorem dX10_echoFact_15 : decode cX10_echoFact 15 = .ok (.aaload, 1) := do_50 (rdb (p := 0) (i := 15) ch_cX10_echoFact_0 rfl)
theorem dX10_echoFact_16 : decode cX10_echoFact 16 = .ok (.astore 5, 2) := do_58 (rdb (p := 0) (i := 16) ch_cX10_echoFact_0 rfl) (rdb (p := 0) (i := 17) ch_cX10_echoFact_0 rfl)
theorem dX10_echoFact_18 : decode cX10_echoFact 18 = .ok (.aload_n 0, 1) := do_42 (rdb (p := 0) (i := 18) ch_cX10_echoFact_0 rfl)
theorem dX10_echoFact_19 : decode cX10_echoFact 19 = .ok (.iload_n 1, 1) := do_27 (rdb (p := 0) (i := 19) ch_cX10_echoFact_0 rfl)
theorem dX10_echoFact_20 : decode cX10_echoFact 20 = .ok (.aload 5, 2) := do_25 (rdb (p := 0) (i := 20) ch_cX10_echoFact_0 rfl) (rdb (p := 0) (i := 21) ch_cX10_echoFact_0 rfl)
theorem dX10_echoFact_22 : decode cX10_echoFact 22 = .ok (.getfield 109, 3) := do_180 (rdb (p := 0) (i := 22) ch_cX10_echoFact_0 rfl) (rdb (p := 0) (i := 23) ch_cX10_echoFact_0 rfl) (rdb (p := 0) (i := 24) ch_cX10_echoFact_0 rfl) rfl
theorem dX10_echoFact_25 : decode cX10_echoFact 25 = .ok (.iload_n 3, 1) := do_29 (rdb (p := 0) (i := 25) ch_cX10_echoFact_0 rfl)
theorem dX10_echoFact_26 : decode cX10_echoFact 26 = .ok (.invokevirtual 92, 3) := do_182 (rdb (p := 0) (i := 26) ch_cX10_echoFact_0 rfl) (rdb (p := 0) (i := 27) ch_cX10_echoFact_0 rfl) (rdb (p := 0) (i := 28) ch_cX10_echoFact_0 rfl) rfl
theorem dX10_echoFact_29 : decode cX10_echoFact 29 = .ok (.istore 6, 2) := do_54 (rdb (p := 0) (i := 29) ch_cX10_echoFact_0 rfl) (rdb (p := 0) (i := 30) ch_cX10_echoFact_0 rfl)
theorem dX10_echoFact_31 : decode cX10_echoFact 31 = .ok (.iload_n 3, 1) := do_29 (rdb (p := 0) (i := 31) ch_cX10_echoFact_0 rfl)
theorem ch_cX10_echoFact_32 : (cX10_echoFact.data.toList.drop 32).take 36 = [21, 6, 184, 0, 112, 54, 7, 42, 180, 0, 19, 42, 180, 0, 10, 25, 5, 180, 0, 109, 29, 21, 6, 184, 0, 84, 182, 0, 95, 28, 21, 6, 182, 0, 116, 54] := by decide +kernel
theorem dX10_echoFact_32 : decode cX10_echoFact 32 = .ok (.iload 6, 2) := do_21 (rdb (p := 32) (i := 0) ch_cX10_echoFact_32 rfl) (rdb (p := 32) (i := 1) ch_cX10_echoFact_32 rfl)
theorem dX10_echoFact_34 : decode cX10_echoFact 34 = .ok (.invokestatic 112, 3) := do_184 (rdb (p := 32) (i := 2) ch_cX10_echoFact_32 rfl) (rdb (p := 32) (i := 3) ch_cX10_echoFact_32 rfl) (rdb (p := 32) (i := 4) ch_cX10_echoFact_32 rfl) rfl
theorem dX10_echoFact_37 : decode cX10_echoFact 37 = .ok (.istore 7, 2) := do_54 (rdb (p := 32) (i := 5) ch_cX10_echoFact_32 rfl) (rdb (p := 32) (i := 6) ch_cX10_echoFact_32 rfl)
theorem dX10_echoFact_39 : decode cX10_echoFact 39 = .ok (.aload_n 0, 1) := do_42 (rdb (p := 32) (i := 7) ch_cX10_echoFact_32 rfl)
theorem dX10_echoFact_40 : decode cX10_echoFact 40 = .ok (.getfield 19, 3) := do_180 (rdb (p := 32) (i := 8) ch_cX10_echoFact_32 rfl) (rdb (p := 32) (i := 9) ch_cX10_echoFact_32 rfl) (rdb (p := 32) (i := 10) ch_cX10_echoFact_32 rfl) rfl
theorem dX10_echoFact_43 : decode cX10_echoFact 43 = .ok (.aload_n 0, 1) := do_42 (rdb (p := 32) (i := 11) ch_cX10_echoFact_32 rfl)
theorem dX10_echoFact_44 : decode cX10_echoFact 44 = .ok (.getfield 10, 3) := do_180 (rdb (p := 32) (i := 12) ch_cX10_echoFact_32 rfl) (rdb (p := 32) (i := 13) ch_cX10_echoFact_32 rfl) (rdb (p := 32) (i := 14) ch_cX10_echoFact_32 rfl) rfl
theorem dX10_echoFact_47 : decode cX10_echoFact 47 = .ok (.aload 5, 2) := do_25 (rdb (p := 32) (i := 15) ch_cX10_echoFact_32 rfl) (rdb (p := 32) (i := 16) ch_cX10_echoFact_32 rfl)
theorem dX10_echoFact_49 : decode cX10_echoFact 49 = .ok (.getfield 109, 3) := do_180 (rdb (p := 32) (i := 17) ch_cX10_echoFact_32 rfl) (rdb (p := 32) (i := 18) ch_cX10_echoFact_32 rfl) (rdb (p := 32) (i := 19) ch_cX10_echoFact_32 rfl) rfl
theorem dX10_echoFact_52 : decode cX10_echoFact 52 = .ok (.iload_n 3, 1) := do_29 (rdb (p := 32) (i := 20) ch_cX10_echoFact_32 rfl)
theorem dX10_echoFact_53 : decode cX10_echoFact 53 = .ok (.iload 6, 2) := do_21 (rdb (p := 32) (i := 21) ch_cX10_echoFact_32 rfl) (rdb (p := 32) (i := 22) ch_cX10_echoFact_32 rfl)
theorem dX10_echoFact_55 : decode cX10_echoFact 55 = .ok (.invokestatic 84, 3) := do_184 (rdb (p := 32) (i := 23) ch_cX10_echoFact_32 rfl) (rdb (p := 32) (i := 24) ch_cX10_echoFact_32 rfl) (rdb (p := 32) (i := 25) ch_cX10_echoFact_32 rfl) rfl
theorem dX10_echoFact_58 : decode cX10_echoFact 58 = .ok (.invokevirtual 95, 3) := do_182 (rdb (p := 32) (i := 26) ch_cX10_echoFact_32 rfl) (rdb (p := 32) (i := 27) ch_cX10_echoFact_32 rfl) (rdb (p := 32) (i := 28) ch_cX10_echoFact_32 rfl) rfl
theorem dX10_echoFact_61 : decode cX10_echoFact 61 = .ok (.iload_n 2, 1) := do_28 (rdb (p := 32) (i := 29) ch_cX10_echoFact_32 rfl)
theorem dX10_echoFact_62 : decode cX10_echoFact 62 = .ok (.iload 6, 2) := do_21 (rdb (p := 32) (i := 30) ch_cX10_echoFact_32 rfl) (rdb (p := 32) (i := 31) ch_cX10_echoFact_32 rfl)
theorem ch_cX10_echoFact_64 : (cX10_echoFact.data.toList.drop 64).take 36 = [182, 0, 116, 54, 8, 29, 25, 5, 180, 0, 119, 100, 16, 7, 126, 54, 9, 21, 4, 170, 0, 0, 0, 80, 0, 0, 0, 0, 0, 0, 0, 4, 0, 0, 0, 33] := by decide +kernel
theorem dX10_echoFact_64 : decode cX10_echoFact 64 = .ok (.invokevirtual 116, 3) := do_182 (rdb (p := 64) (i := 0) ch_cX10_echoFact_64 rfl) (rdb (p := 64) (i := 1) ch_cX10_echoFact_64 rfl) (rdb (p := 64) (i := 2) ch_cX10_echoFact_64 rfl) rfl
theorem dX10_echoFact_67 : decode cX10_echoFact 67 = .ok (.istore 8, 2) := do_54 (rdb (p := 64) (i := 3) ch_cX10_echoFact_64 rfl) (rdb (p := 64) (i := 4) ch_cX10_echoFact_64 rfl)
theorem dX10_echoFact_69 : decode cX10_echoFact 69 = .ok (.iload_n 3, 1) := do_29 (rdb (p := 64) (i := 5) ch_cX10_echoFact_64 rfl)
theorem dX10_echoFact_70 : decode cX10_echoFact 70 = .ok (.aload 5, 2) := do_25 (rdb (p := 64) (i := 6) ch_cX10_echoFact_64 rfl) (rdb (p := 64) (i := 7) ch_cX10_echoFact_64 rfl)
theorem dX10_echoFact_72 : decode cX10_echoFact 72 = .ok (.getfield 119, 3) := do_180 (rdb (p := 64) (i := 8) ch_cX10_echoFact_64 rfl) (rdb (p := 64) (i := 9) ch_cX10_echoFact_64 rfl) (rdb (p := 64) (i := 10) ch_cX10_echoFact_64 rfl) rfl
theorem dX10_echoFact_75 : decode cX10_echoFact 75 = .ok (.isub, 1) := do_100 (rdb (p := 64) (i := 11) ch_cX10_echoFact_64 rfl)
theorem dX10_echoFact_76 : decode cX10_echoFact 76 = .ok (.bipush 7, 2) := do_16 (rdb (p := 64) (i := 12) ch_cX10_echoFact_64 rfl) (rdb (p := 64) (i := 13) ch_cX10_echoFact_64 rfl) (by decide +kernel)
theorem dX10_echoFact_78 : decode cX10_echoFact 78 = .ok (.iand, 1) := do_126 (rdb (p := 64) (i := 14) ch_cX10_echoFact_64 rfl)
theorem dX10_echoFact_79 : decode cX10_echoFact 79 = .ok (.istore 9, 2) := do_54 (rdb (p := 64) (i := 15) ch_cX10_echoFact_64 rfl) (rdb (p := 64) (i := 16) ch_cX10_echoFact_64 rfl)
theorem dX10_echoFact_81 : decode cX10_echoFact 81 = .ok (.iload 4, 2) := do_21 (rdb (p := 64) (i := 17) ch_cX10_echoFact_64 rfl) (rdb (p := 64) (i := 18) ch_cX10_echoFact_64 rfl)
theorem dX10_echoFact_83 : decode cX10_echoFact 83 = .ok (.tableswitch 80 0 4 #[33, 36, 39, 42, 64], 33) := by decide +kernel
theorem ch_cX10_echoFact_96 : (cX10_echoFact.data.toList.drop 96).take 36 = [0, 0, 0, 33, 0, 0, 0, 36, 0, 0, 0, 39, 0, 0, 0, 42, 0, 0, 0, 64, 21, 6, 172, 21, 7, 172, 21, 8, 172, 21, 9, 4, 161, 0, 16, 21] := by decide +kernel
theorem dX10_echoFact_116 : decode cX10_echoFact 116 = .ok (.iload 6, 2) := do_21 (rdb (p := 96) (i := 20) ch_cX10_echoFact_96 rfl) (rdb (p := 96) (i := 21) ch_cX10_echoFact_96 rfl)
theorem dX10_echoFact_118 : decode cX10_echoFact 118 = .ok (.ireturn, 1) := do_172 (rdb (p := 96) (i := 22) ch_cX10_echoFact_96 rfl)
theorem dX10_echoFact_119 : decode cX10_echoFact 119 = .ok (.iload 7, 2) := do_21 (rdb (p := 96) (i := 23) ch_cX10_echoFact_96 rfl) (rdb (p := 96) (i := 24) ch_cX10_echoFact_96 rfl)
theorem dX10_echoFact_121 : decode cX10_echoFact 121 = .ok (.ireturn, 1) := do_172 (rdb (p := 96) (i := 25) ch_cX10_echoFact_96 rfl)
theorem dX10_echoFact_122 : decode cX10_echoFact 122 = .ok (.iload 8, 2) := do_21 (rdb (p := 96) (i := 26) ch_cX10_echoFact_96 rfl) (rdb (p := 96) (i := 27) ch_cX10_echoFact_96 rfl)
theorem dX10_echoFact_124 : decode cX10_echoFact 124 = .ok (.ireturn, 1) := do_172 (rdb (p := 96) (i := 28) ch_cX10_echoFact_96 rfl)
theorem dX10_echoFact_125 : decode cX10_echoFact 125 = .ok (.iload 9, 2) := do_21 (rdb (p := 96) (i := 29) ch_cX10_echoFact_96 rfl) (rdb (p := 96) (i := 30) ch_cX10_echoFact_96 rfl)
theorem dX10_echoFact_127 : decode cX10_echoFact 127 = .ok (.iconst 1, 1) := do_4 (rdb (p := 96) (i := 31) ch_cX10_echoFact_96 rfl)
theorem ch_cX10_echoFact_128 : (cX10_echoFact.data.toList.drop 128).take 36 = [161, 0, 16, 21, 9, 6, 163, 0, 10, 21, 8, 5, 108, 167, 0, 5, 21, 8, 172, 21, 9, 8, 161, 0, 10, 21, 8, 5, 108, 167, 0, 5, 21, 8, 172, 42] := by decide +kernel
theorem dX10_echoFact_128 : decode cX10_echoFact 128 = .ok (.if_icmp .lt 16, 3) := do_161 (rdb (p := 128) (i := 0) ch_cX10_echoFact_128 rfl) (rdb (p := 128) (i := 1) ch_cX10_echoFact_128 rfl) (rdb (p := 128) (i := 2) ch_cX10_echoFact_128 rfl) (by decide +kernel)
theorem dX10_echoFact_131 : decode cX10_echoFact 131 = .ok (.iload 9, 2) := do_21 (rdb (p := 128) (i := 3) ch_cX10_echoFact_128 rfl) (rdb (p := 128) (i := 4) ch_cX10_echoFact_128 rfl)
theorem dX10_echoFact_133 : decode cX10_echoFact 133 = .ok (.iconst 3, 1) := do_6 (rdb (p := 128) (i := 5) ch_cX10_echoFact_128 rfl)
theorem dX10_echoFact_134 : decode cX10_echoFact 134 = .ok (.if_icmp .gt 10, 3) := do_163 (rdb (p := 128) (i := 6) ch_cX10_echoFact_128 rfl) (rdb (p := 128) (i := 7) ch_cX10_echoFact_128 rfl) (rdb (p := 128) (i := 8) ch_cX10_echoFact_128 rfl) (by decide +kernel)
theorem dX10_echoFact_137 : decode cX10_echoFact 137 = .ok (.iload 8, 2) := do_21 (rdb (p := 128) (i := 9) ch_cX10_echoFact_128 rfl) (rdb (p := 128) (i := 10) ch_cX10_echoFact_128 rfl)
theorem dX10_echoFact_139 : decode cX10_echoFact 139 = .ok (.iconst 2, 1) := do_5 (rdb (p := 128) (i := 11) ch_cX10_echoFact_128 rfl)
theorem dX10_echoFact_140 : decode cX10_echoFact 140 = .ok (.idiv, 1) := do_108 (rdb (p := 128) (i := 12) ch_cX10_echoFact_128 rfl)
theorem dX10_echoFact_141 : decode cX10_echoFact 141 = .ok (.goto 5, 3) := do_167 (rdb (p := 128) (i := 13) ch_cX10_echoFact_128 rfl) (rdb (p := 128) (i := 14) ch_cX10_echoFact_128 rfl) (rdb (p := 128) (i := 15) ch_cX10_echoFact_128 rfl) (by decide +kernel)
theorem dX10_echoFact_144 : decode cX10_echoFact 144 = .ok (.iload 8, 2) := do_21 (rdb (p := 128) (i := 16) ch_cX10_echoFact_128 rfl) (rdb (p := 128) (i := 17) ch_cX10_echoFact_128 rfl)
theorem dX10_echoFact_146 : decode cX10_echoFact 146 = .ok (.ireturn, 1) := do_172 (rdb (p := 128) (i := 18) ch_cX10_echoFact_128 rfl)
theorem dX10_echoFact_147 : decode cX10_echoFact 147 = .ok (.iload 9, 2) := do_21 (rdb (p := 128) (i := 19) ch_cX10_echoFact_128 rfl) (rdb (p := 128) (i := 20) ch_cX10_echoFact_128 rfl)
theorem dX10_echoFact_149 : decode cX10_echoFact 149 = .ok (.iconst 5, 1) := do_8 (rdb (p := 128) (i := 21) ch_cX10_echoFact_128 rfl)
theorem dX10_echoFact_150 : decode cX10_echoFact 150 = .ok (.if_icmp .lt 10, 3) := do_161 (rdb (p := 128) (i := 22) ch_cX10_echoFact_128 rfl) (rdb (p := 128) (i := 23) ch_cX10_echoFact_128 rfl) (rdb (p := 128) (i := 24) ch_cX10_echoFact_128 rfl) (by decide +kernel)
theorem dX10_echoFact_153 : decode cX10_echoFact 153 = .ok (.iload 8, 2) := do_21 (rdb (p := 128) (i := 25) ch_cX10_echoFact_128 rfl) (rdb (p := 128) (i := 26) ch_cX10_echoFact_128 rfl)
theorem dX10_echoFact_155 : decode cX10_echoFact 155 = .ok (.iconst 2, 1) := do_5 (rdb (p := 128) (i := 27) ch_cX10_echoFact_128 rfl)
theorem dX10_echoFact_156 : decode cX10_echoFact 156 = .ok (.idiv, 1) := do_108 (rdb (p := 128) (i := 28) ch_cX10_echoFact_128 rfl)
theorem dX10_echoFact_157 : decode cX10_echoFact 157 = .ok (.goto 5, 3) := do_167 (rdb (p := 128) (i := 29) ch_cX10_echoFact_128 rfl) (rdb (p := 128) (i := 30) ch_cX10_echoFact_128 rfl) (rdb (p := 128) (i := 31) ch_cX10_echoFact_128 rfl) (by decide +kernel)
theorem ch_cX10_echoFact_160 : (cX10_echoFact.data.toList.drop 160).take 36 = [21, 8, 172, 42, 180, 0, 19, 25, 5, 182, 0, 99, 28, 21, 7, 21, 8, 182, 0, 122, 153, 0, 7, 4, 167, 0, 4, 3, 172] := by decide +kernel
theorem dX10_echoFact_160 : decode cX10_echoFact 160 = .ok (.iload 8, 2) := do_21 (rdb (p := 160) (i := 0) ch_cX10_echoFact_160 rfl) (rdb (p := 160) (i := 1) ch_cX10_echoFact_160 rfl)
theorem dX10_echoFact_162 : decode cX10_echoFact 162 = .ok (.ireturn, 1) := do_172 (rdb (p := 160) (i := 2) ch_cX10_echoFact_160 rfl)
theorem dX10_echoFact_163 : decode cX10_echoFact 163 = .ok (.aload_n 0, 1) := do_42 (rdb (p := 160) (i := 3) ch_cX10_echoFact_160 rfl)
theorem dX10_echoFact_164 : decode cX10_echoFact 164 = .ok (.getfield 19, 3) := do_180 (rdb (p := 160) (i := 4) ch_cX10_echoFact_160 rfl) (rdb (p := 160) (i := 5) ch_cX10_echoFact_160 rfl) (rdb (p := 160) (i := 6) ch_cX10_echoFact_160 rfl) rfl
theorem dX10_echoFact_167 : decode cX10_echoFact 167 = .ok (.aload 5, 2) := do_25 (rdb (p := 160) (i := 7) ch_cX10_echoFact_160 rfl) (rdb (p := 160) (i := 8) ch_cX10_echoFact_160 rfl)
theorem dX10_echoFact_169 : decode cX10_echoFact 169 = .ok (.invokevirtual 99, 3) := do_182 (rdb (p := 160) (i := 9) ch_cX10_echoFact_160 rfl) (rdb (p := 160) (i := 10) ch_cX10_echoFact_160 rfl) (rdb (p := 160) (i := 11) ch_cX10_echoFact_160 rfl) rfl
theorem dX10_echoFact_172 : decode cX10_echoFact 172 = .ok (.iload_n 2, 1) := do_28 (rdb (p := 160) (i := 12) ch_cX10_echoFact_160 rfl)
theorem dX10_echoFact_173 : decode cX10_echoFact 173 = .ok (.iload 7, 2) := do_21 (rdb (p := 160) (i := 13) ch_cX10_echoFact_160 rfl) (rdb (p := 160) (i := 14) ch_cX10_echoFact_160 rfl)
theorem dX10_echoFact_175 : decode cX10_echoFact 175 = .ok (.iload 8, 2) := do_21 (rdb (p := 160) (i := 15) ch_cX10_echoFact_160 rfl) (rdb (p := 160) (i := 16) ch_cX10_echoFact_160 rfl)
theorem dX10_echoFact_177 : decode cX10_echoFact 177 = .ok (.invokevirtual 122, 3) := do_182 (rdb (p := 160) (i := 17) ch_cX10_echoFact_160 rfl) (rdb (p := 160) (i := 18) ch_cX10_echoFact_160 rfl) (rdb (p := 160) (i := 19) ch_cX10_echoFact_160 rfl) rfl
theorem dX10_echoFact_180 : decode cX10_echoFact 180 = .ok (.ifCond .eq 7, 3) := do_153 (rdb (p := 160) (i := 20) ch_cX10_echoFact_160 rfl) (rdb (p := 160) (i := 21) ch_cX10_echoFact_160 rfl) (rdb (p := 160) (i := 22) ch_cX10_echoFact_160 rfl) (by decide +kernel)
theorem dX10_echoFact_183 : decode cX10_echoFact 183 = .ok (.iconst 1, 1) := do_4 (rdb (p := 160) (i := 23) ch_cX10_echoFact_160 rfl)
theorem dX10_echoFact_184 : decode cX10_echoFact 184 = .ok (.goto 4, 3) := do_167 (rdb (p := 160) (i := 24) ch_cX10_echoFact_160 rfl) (rdb (p := 160) (i := 25) ch_cX10_echoFact_160 rfl) (rdb (p := 160) (i := 26) ch_cX10_echoFact_160 rfl) (by decide +kernel)
theorem dX10_echoFact_187 : decode cX10_echoFact 187 = .ok (.iconst 0, 1) := do_3 (rdb (p := 160) (i := 27) ch_cX10_echoFact_160 rfl)
theorem dX10_echoFact_188 : decode cX10_echoFact 188 = .ok (.ireturn, 1) := do_172 (rdb (p := 160) (i := 28) ch_cX10_echoFact_160 rfl)
theorem ch_cX10_echoYards_0 : (cX10_echoYards.data.toList.drop 0).take 36 = [42, 27, 182, 0, 76, 153, 0, 15, 42, 180, 0, 46, 27, 50, 182, 0, 80, 167, 0, 4, 3, 54, 4, 4, 54, 5, 21, 5, 21, 4, 163, 0, 38, 28, 29, 21] := by decide +kernel
theorem dX10_echoYards_0 : decode cX10_echoYards 0 = .ok (.aload_n 0, 1) := do_42 (rdb (p := 0) (i := 0) ch_cX10_echoYards_0 rfl)
theorem dX10_echoYards_1 : decode cX10_echoYards 1 = .ok (.iload_n 1, 1) := do_27 (rdb (p := 0) (i := 1) ch_cX10_echoYards_0 rfl)
theorem dX10_echoYards_2 : decode cX10_echoYards 2 = .ok (.invokevirtual 76, 3) := do_182 (rdb (p := 0) (i := 2) ch_cX10_echoYards_0 rfl) (rdb (p := 0) (i := 3) ch_cX10_echoYards_0 rfl) (rdb (p := 0) (i := 4) ch_cX10_echoYards_0 rfl) rfl
theorem dX10_echoYards_5 : decode cX10_echoYards 5 = .ok (.ifCond .eq 15, 3) := do_153 (rdb (p := 0) (i := 5) ch_cX10_echoYards_0 rfl) (rdb (p := 0) (i := 6) ch_cX10_echoYards_0 rfl) (rdb (p := 0) (i := 7) ch_cX10_echoYards_0 rfl) (by decide +kernel)
theorem dX10_echoYards_8 : decode cX10_echoYards 8 = .ok (.aload_n 0, 1) := do_42 (rdb (p := 0) (i := 8) ch_cX10_echoYards_0 rfl)
theorem dX10_echoYards_9 : decode cX10_echoYards 9 = .ok (.getfield 46, 3) := do_180 (rdb (p := 0) (i := 9) ch_cX10_echoYards_0 rfl) (rdb (p := 0) (i := 10) ch_cX10_echoYards_0 rfl) (rdb (p := 0) (i := 11) ch_cX10_echoYards_0 rfl) rfl
theorem dX10_echoYards_12 : decode cX10_echoYards 12 = .ok (.iload_n 1, 1) := do_27 (rdb (p := 0) (i := 12) ch_cX10_echoYards_0 rfl)
theorem dX10_echoYards_13 : decode cX10_echoYards 13 = .ok (.aaload, 1) := do_50 (rdb (p := 0) (i := 13) ch_cX10_echoYards_0 rfl)
theorem dX10_echoYards_14 : decode cX10_echoYards 14 = .ok (.invokevirtual 80, 3) := do_182 (rdb (p := 0) (i := 14) ch_cX10_echoYards_0 rfl) (rdb (p := 0) (i := 15) ch_cX10_echoYards_0 rfl) (rdb (p := 0) (i := 16) ch_cX10_echoYards_0 rfl) rfl
theorem dX10_echoYards_17 : decode cX10_echoYards 17 = .ok (.goto 4, 3) := do_167 (rdb (p := 0) (i := 17) ch_cX10_echoYards_0 rfl) (rdb (p := 0) (i := 18) ch_cX10_echoYards_0 rfl) (rdb (p := 0) (i := 19) ch_cX10_echoYards_0 rfl) (by decide +kernel)
theorem dX10_echoYards_20 : decode cX10_echoYards 20 = .ok (.iconst 0, 1) := do_3 (rdb (p := 0) (i := 20) ch_cX10_echoYards_0 rfl)
theorem dX10_echoYards_21 : decode cX10_echoYards 21 = .ok (.istore 4, 2) := do_54 (rdb (p := 0) (i := 21) ch_cX10_echoYards_0 rfl) (rdb (p := 0) (i := 22) ch_cX10_echoYards_0 rfl)
theorem dX10_echoYards_23 : decode cX10_echoYards 23 = .ok (.iconst 1, 1) := do_4 (rdb (p := 0) (i := 23) ch_cX10_echoYards_0 rfl)
theorem dX10_echoYards_24 : decode cX10_echoYards 24 = .ok (.istore 5, 2) := do_54 (rdb (p := 0) (i := 24) ch_cX10_echoYards_0 rfl) (rdb (p := 0) (i := 25) ch_cX10_echoYards_0 rfl)
theorem dX10_echoYards_26 : decode cX10_echoYards 26 = .ok (.iload 5, 2) := do_21 (rdb (p := 0) (i := 26) ch_cX10_echoYards_0 rfl) (rdb (p := 0) (i := 27) ch_cX10_echoYards_0 rfl)
theorem dX10_echoYards_28 : decode cX10_echoYards 28 = .ok (.iload 4, 2) := do_21 (rdb (p := 0) (i := 28) ch_cX10_echoYards_0 rfl) (rdb (p := 0) (i := 29) ch_cX10_echoYards_0 rfl)
theorem dX10_echoYards_30 : decode cX10_echoYards 30 = .ok (.if_icmp .gt 38, 3) := do_163 (rdb (p := 0) (i := 30) ch_cX10_echoYards_0 rfl) (rdb (p := 0) (i := 31) ch_cX10_echoYards_0 rfl) (rdb (p := 0) (i := 32) ch_cX10_echoYards_0 rfl) (by decide +kernel)
theorem ch_cX10_echoYards_32 : (cX10_echoYards.data.toList.drop 32).take 36 = [38, 28, 29, 21, 5, 184, 0, 84, 54, 6, 21, 6, 156, 0, 5, 3, 172, 42, 27, 21, 6, 182, 0, 88, 154, 0, 6, 21, 5, 172, 132, 5, 1, 167, 255, 217] := by decide +kernel
theorem dX10_echoYards_33 : decode cX10_echoYards 33 = .ok (.iload_n 2, 1) := do_28 (rdb (p := 32) (i := 1) ch_cX10_echoYards_32 rfl)
theorem dX10_echoYards_34 : decode cX10_echoYards 34 = .ok (.iload_n 3, 1) := do_29 (rdb (p := 32) (i := 2) ch_cX10_echoYards_32 rfl)
theorem dX10_echoYards_35 : decode cX10_echoYards 35 = .ok (.iload 5, 2) := do_21 (rdb (p := 32) (i := 3) ch_cX10_echoYards_32 rfl) (rdb (p := 32) (i := 4) ch_cX10_echoYards_32 rfl)
theorem dX10_echoYards_37 : decode cX10_echoYards 37 = .ok (.invokestatic 84, 3) := do_184 (rdb (p := 32) (i := 5) ch_cX10_echoYards_32 rfl) (rdb (p := 32) (i := 6) ch_cX10_echoYards_32 rfl) (rdb (p := 32) (i := 7) ch_cX10_echoYards_32 rfl) rfl
theorem dX10_echoYards_40 : decode cX10_echoYards 40 = .ok (.istore 6, 2) := do_54 (rdb (p := 32) (i := 8) ch_cX10_echoYards_32 rfl) (rdb (p := 32) (i := 9) ch_cX10_echoYards_32 rfl)
theorem dX10_echoYards_42 : decode cX10_echoYards 42 = .ok (.iload 6, 2) := do_21 (rdb (p := 32) (i := 10) ch_cX10_echoYards_32 rfl) (rdb (p := 32) (i := 11) ch_cX10_echoYards_32 rfl)
theorem dX10_echoYards_44 : decode cX10_echoYards 44 = .ok (.ifCond .ge 5, 3) := do_156 (rdb (p := 32) (i := 12) ch_cX10_echoYards_32 rfl) (rdb (p := 32) (i := 13) ch_cX10_echoYards_32 rfl) (rdb (p := 32) (i := 14) ch_cX10_echoYards_32 rfl) (by decide +kernel)
theorem dX10_echoYards_47 : decode cX10_echoYards 47 = .ok (.iconst 0, 1) := do_3 (rdb (p := 32) (i := 15) ch_cX10_echoYards_32 rfl)
theorem dX10_echoYards_48 : decode cX10_echoYards 48 = .ok (.ireturn, 1) := do_172 (rdb (p := 32) (i := 16) ch_cX10_echoYards_32 rfl)
theorem dX10_echoYards_49 : decode cX10_echoYards 49 = .ok (.aload_n 0, 1) := do_42 (rdb (p := 32) (i := 17) ch_cX10_echoYards_32 rfl)
theorem dX10_echoYards_50 : decode cX10_echoYards 50 = .ok (.iload_n 1, 1) := do_27 (rdb (p := 32) (i := 18) ch_cX10_echoYards_32 rfl)
theorem dX10_echoYards_51 : decode cX10_echoYards 51 = .ok (.iload 6, 2) := do_21 (rdb (p := 32) (i := 19) ch_cX10_echoYards_32 rfl) (rdb (p := 32) (i := 20) ch_cX10_echoYards_32 rfl)
theorem dX10_echoYards_53 : decode cX10_echoYards 53 = .ok (.invokevirtual 88, 3) := do_182 (rdb (p := 32) (i := 21) ch_cX10_echoYards_32 rfl) (rdb (p := 32) (i := 22) ch_cX10_echoYards_32 rfl) (rdb (p := 32) (i := 23) ch_cX10_echoYards_32 rfl) rfl
theorem dX10_echoYards_56 : decode cX10_echoYards 56 = .ok (.ifCond .ne 6, 3) := do_154 (rdb (p := 32) (i := 24) ch_cX10_echoYards_32 rfl) (rdb (p := 32) (i := 25) ch_cX10_echoYards_32 rfl) (rdb (p := 32) (i := 26) ch_cX10_echoYards_32 rfl) (by decide +kernel)
theorem dX10_echoYards_59 : decode cX10_echoYards 59 = .ok (.iload 5, 2) := do_21 (rdb (p := 32) (i := 27) ch_cX10_echoYards_32 rfl) (rdb (p := 32) (i := 28) ch_cX10_echoYards_32 rfl)
theorem dX10_echoYards_61 : decode cX10_echoYards 61 = .ok (.ireturn, 1) := do_172 (rdb (p := 32) (i := 29) ch_cX10_echoYards_32 rfl)
theorem dX10_echoYards_62 : decode cX10_echoYards 62 = .ok (.iinc 5 1, 3) := do_132 (rdb (p := 32) (i := 30) ch_cX10_echoYards_32 rfl) (rdb (p := 32) (i := 31) ch_cX10_echoYards_32 rfl) (rdb (p := 32) (i := 32) ch_cX10_echoYards_32 rfl) (by decide +kernel)
theorem ch_cX10_echoYards_64 : (cX10_echoYards.data.toList.drop 64).take 36 = [1, 167, 255, 217, 3, 172] := by decide +kernel
theorem dX10_echoYards_65 : decode cX10_echoYards 65 = .ok (.goto (-39), 3) := do_167 (rdb (p := 64) (i := 1) ch_cX10_echoYards_64 rfl) (rdb (p := 64) (i := 2) ch_cX10_echoYards_64 rfl) (rdb (p := 64) (i := 3) ch_cX10_echoYards_64 rfl) (by decide +kernel)
theorem dX10_echoYards_68 : decode cX10_echoYards 68 = .ok (.iconst 0, 1) := do_3 (rdb (p := 64) (i := 4) ch_cX10_echoYards_64 rfl)
theorem dX10_echoYards_69 : decode cX10_echoYards 69 = .ok (.ireturn, 1) := do_172 (rdb (p := 64) (i := 5) ch_cX10_echoYards_64 rfl)
theorem ch_cX10_goOn_0 : (cX10_goOn.data.toList.drop 0).take 36 = [42, 27, 182, 0, 76, 154, 0, 4, 177, 42, 180, 0, 46, 27, 50, 77, 3, 62, 29, 44, 182, 0, 178, 162, 0, 84, 44, 180, 0, 109, 44, 180, 0, 119, 4, 184] := by decide +kernel
theorem dX10_goOn_0 : decode cX10_goOn 0 = .ok (.aload_n 0, 1) := do_42 (rdb (p := 0) (i := 0) ch_cX10_goOn_0 rfl)
theorem dX10_goOn_1 : decode cX10_goOn 1 = .ok (.iload_n 1, 1) := do_27 (rdb (p := 0) (i := 1) ch_cX10_goOn_0 rfl)
theorem dX10_goOn_2 : decode cX10_goOn 2 = .ok (.invokevirtual 76, 3) := do_182 (rdb (p := 0) (i := 2) ch_cX10_goOn_0 rfl) (rdb (p := 0) (i := 3) ch_cX10_goOn_0 rfl) (rdb (p := 0) (i := 4) ch_cX10_goOn_0 rfl) rfl
theorem dX10_goOn_5 : decode cX10_goOn 5 = .ok (.ifCond .ne 4, 3) := do_154 (rdb (p := 0) (i := 5) ch_cX10_goOn_0 rfl) (rdb (p := 0) (i := 6) ch_cX10_goOn_0 rfl) (rdb (p := 0) (i := 7) ch_cX10_goOn_0 rfl) (by decide +kernel)
theorem dX10_goOn_8 : decode cX10_goOn 8 = .ok (.return_, 1) := do_177 (rdb (p := 0) (i := 8) ch_cX10_goOn_0 rfl)
theorem dX10_goOn_9 : decode cX10_goOn 9 = .ok (.aload_n 0, 1) := do_42 (rdb (p := 0) (i := 9) ch_cX10_goOn_0 rfl)
theorem dX10_goOn_10 : decode cX10_goOn 10 = .ok (.getfield 46, 3) := do_180 (rdb (p := 0) (i := 10) ch_cX10_goOn_0 rfl) (rdb (p := 0) (i := 11) ch_cX10_goOn_0 rfl) (rdb (p := 0) (i := 12) ch_cX10_goOn_0 rfl) rfl
theorem dX10_goOn_13 : decode cX10_goOn 13 = .ok (.iload_n 1, 1) := do_27 (rdb (p := 0) (i := 13) ch_cX10_goOn_0 rfl)
theorem dX10_goOn_14 : decode cX10_goOn 14 = .ok (.aaload, 1) := do_50 (rdb (p := 0) (i := 14) ch_cX10_goOn_0 rfl)
theorem dX10_goOn_15 : decode cX10_goOn 15 = .ok (.astore_n 2, 1) := do_77 (rdb (p := 0) (i := 15) ch_cX10_goOn_0 rfl)
theorem dX10_goOn_16 : decode cX10_goOn 16 = .ok (.iconst 0, 1) := do_3 (rdb (p := 0) (i := 16) ch_cX10_goOn_0 rfl)
theorem dX10_goOn_17 : decode cX10_goOn 17 = .ok (.istore_n 3, 1) := do_62 (rdb (p := 0) (i := 17) ch_cX10_goOn_0 rfl)
theorem dX10_goOn_18 : decode cX10_goOn 18 = .ok (.iload_n 3, 1) := do_29 (rdb (p := 0) (i := 18) ch_cX10_goOn_0 rfl)
theorem dX10_goOn_19 : decode cX10_goOn 19 = .ok (.aload_n 2, 1) := do_44 (rdb (p := 0) (i := 19) ch_cX10_goOn_0 rfl)
theorem dX10_goOn_20 : decode cX10_goOn 20 = .ok (.invokevirtual 178, 3) := do_182 (rdb (p := 0) (i := 20) ch_cX10_goOn_0 rfl) (rdb (p := 0) (i := 21) ch_cX10_goOn_0 rfl) (rdb (p := 0) (i := 22) ch_cX10_goOn_0 rfl) rfl
theorem dX10_goOn_23 : decode cX10_goOn 23 = .ok (.if_icmp .ge 84, 3) := do_162 (rdb (p := 0) (i := 23) ch_cX10_goOn_0 rfl) (rdb (p := 0) (i := 24) ch_cX10_goOn_0 rfl) (rdb (p := 0) (i := 25) ch_cX10_goOn_0 rfl) (by decide +kernel)
theorem dX10_goOn_26 : decode cX10_goOn 26 = .ok (.aload_n 2, 1) := do_44 (rdb (p := 0) (i := 26) ch_cX10_goOn_0 rfl)
theorem dX10_goOn_27 : decode cX10_goOn 27 = .ok (.getfield 109, 3) := do_180 (rdb (p := 0) (i := 27) ch_cX10_goOn_0 rfl) (rdb (p := 0) (i := 28) ch_cX10_goOn_0 rfl) (rdb (p := 0) (i := 29) ch_cX10_goOn_0 rfl) rfl
theorem dX10_goOn_30 : decode cX10_goOn 30 = .ok (.aload_n 2, 1) := do_44 (rdb (p := 0) (i := 30) ch_cX10_goOn_0 rfl)
theorem dX10_goOn_31 : decode cX10_goOn 31 = .ok (.getfield 119, 3) := do_180 (rdb (p := 0) (i := 31) ch_cX10_goOn_0 rfl) (rdb (p := 0) (i := 32) ch_cX10_goOn_0 rfl) (rdb (p := 0) (i := 33) ch_cX10_goOn_0 rfl) rfl
theorem ch_cX10_goOn_32 : (cX10_goOn.data.toList.drop 32).take 36 = [0, 119, 4, 184, 0, 84, 54, 4, 42, 180, 0, 10, 21, 4, 182, 0, 181, 154, 0, 21, 44, 89, 180, 0, 66, 4, 96, 181, 0, 66, 44, 21, 4, 6, 182, 0] := by decide +kernel
theorem dX10_goOn_34 : decode cX10_goOn 34 = .ok (.iconst 1, 1) := do_4 (rdb (p := 32) (i := 2) ch_cX10_goOn_32 rfl)
theorem dX10_goOn_35 : decode cX10_goOn 35 = .ok (.invokestatic 84, 3) := do_184 (rdb (p := 32) (i := 3) ch_cX10_goOn_32 rfl) (rdb (p := 32) (i := 4) ch_cX10_goOn_32 rfl) (rdb (p := 32) (i := 5) ch_cX10_goOn_32 rfl) rfl
theorem dX10_goOn_38 : decode cX10_goOn 38 = .ok (.istore 4, 2) := do_54 (rdb (p := 32) (i := 6) ch_cX10_goOn_32 rfl) (rdb (p := 32) (i := 7) ch_cX10_goOn_32 rfl)
theorem dX10_goOn_40 : decode cX10_goOn 40 = .ok (.aload_n 0, 1) := do_42 (rdb (p := 32) (i := 8) ch_cX10_goOn_32 rfl)
theorem dX10_goOn_41 : decode cX10_goOn 41 = .ok (.getfield 10, 3) := do_180 (rdb (p := 32) (i := 9) ch_cX10_goOn_32 rfl) (rdb (p := 32) (i := 10) ch_cX10_goOn_32 rfl) (rdb (p := 32) (i := 11) ch_cX10_goOn_32 rfl) rfl
theorem dX10_goOn_44 : decode cX10_goOn 44 = .ok (.iload 4, 2) := do_21 (rdb (p := 32) (i := 12) ch_cX10_goOn_32 rfl) (rdb (p := 32) (i := 13) ch_cX10_goOn_32 rfl)
theorem dX10_goOn_46 : decode cX10_goOn 46 = .ok (.invokevirtual 181, 3) := do_182 (rdb (p := 32) (i := 14) ch_cX10_goOn_32 rfl) (rdb (p := 32) (i := 15) ch_cX10_goOn_32 rfl) (rdb (p := 32) (i := 16) ch_cX10_goOn_32 rfl) rfl
theorem dX10_goOn_49 : decode cX10_goOn 49 = .ok (.ifCond .ne 21, 3) := do_154 (rdb (p := 32) (i := 17) ch_cX10_goOn_32 rfl) (rdb (p := 32) (i := 18) ch_cX10_goOn_32 rfl) (rdb (p := 32) (i := 19) ch_cX10_goOn_32 rfl) (by decide +kernel)
theorem dX10_goOn_52 : decode cX10_goOn 52 = .ok (.aload_n 2, 1) := do_44 (rdb (p := 32) (i := 20) ch_cX10_goOn_32 rfl)
theorem dX10_goOn_53 : decode cX10_goOn 53 = .ok (.dup, 1) := do_89 (rdb (p := 32) (i := 21) ch_cX10_goOn_32 rfl)
theorem dX10_goOn_54 : decode cX10_goOn 54 = .ok (.getfield 66, 3) := do_180 (rdb (p := 32) (i := 22) ch_cX10_goOn_32 rfl) (rdb (p := 32) (i := 23) ch_cX10_goOn_32 rfl) (rdb (p := 32) (i := 24) ch_cX10_goOn_32 rfl) rfl
theorem dX10_goOn_57 : decode cX10_goOn 57 = .ok (.iconst 1, 1) := do_4 (rdb (p := 32) (i := 25) ch_cX10_goOn_32 rfl)
theorem dX10_goOn_58 : decode cX10_goOn 58 = .ok (.iadd, 1) := do_96 (rdb (p := 32) (i := 26) ch_cX10_goOn_32 rfl)
theorem dX10_goOn_59 : decode cX10_goOn 59 = .ok (.putfield 66, 3) := do_181 (rdb (p := 32) (i := 27) ch_cX10_goOn_32 rfl) (rdb (p := 32) (i := 28) ch_cX10_goOn_32 rfl) (rdb (p := 32) (i := 29) ch_cX10_goOn_32 rfl) rfl
theorem dX10_goOn_62 : decode cX10_goOn 62 = .ok (.aload_n 2, 1) := do_44 (rdb (p := 32) (i := 30) ch_cX10_goOn_32 rfl)
theorem dX10_goOn_63 : decode cX10_goOn 63 = .ok (.iload 4, 2) := do_21 (rdb (p := 32) (i := 31) ch_cX10_goOn_32 rfl) (rdb (p := 32) (i := 32) ch_cX10_goOn_32 rfl)
theorem ch_cX10_goOn_64 : (cX10_goOn.data.toList.drop 64).take 36 = [4, 6, 182, 0, 129, 177, 42, 180, 0, 10, 44, 180, 0, 109, 2, 182, 0, 62, 42, 180, 0, 10, 21, 4, 16, 100, 27, 96, 182, 0, 62, 44, 21, 4, 181, 0] := by decide +kernel
theorem dX10_goOn_65 : decode cX10_goOn 65 = .ok (.iconst 3, 1) := do_6 (rdb (p := 64) (i := 1) ch_cX10_goOn_64 rfl)
theorem dX10_goOn_66 : decode cX10_goOn 66 = .ok (.invokevirtual 129, 3) := do_182 (rdb (p := 64) (i := 2) ch_cX10_goOn_64 rfl) (rdb (p := 64) (i := 3) ch_cX10_goOn_64 rfl) (rdb (p := 64) (i := 4) ch_cX10_goOn_64 rfl) rfl
theorem dX10_goOn_69 : decode cX10_goOn 69 = .ok (.return_, 1) := do_177 (rdb (p := 64) (i := 5) ch_cX10_goOn_64 rfl)
theorem dX10_goOn_70 : decode cX10_goOn 70 = .ok (.aload_n 0, 1) := do_42 (rdb (p := 64) (i := 6) ch_cX10_goOn_64 rfl)
theorem dX10_goOn_71 : decode cX10_goOn 71 = .ok (.getfield 10, 3) := do_180 (rdb (p := 64) (i := 7) ch_cX10_goOn_64 rfl) (rdb (p := 64) (i := 8) ch_cX10_goOn_64 rfl) (rdb (p := 64) (i := 9) ch_cX10_goOn_64 rfl) rfl
theorem dX10_goOn_74 : decode cX10_goOn 74 = .ok (.aload_n 2, 1) := do_44 (rdb (p := 64) (i := 10) ch_cX10_goOn_64 rfl)
theorem dX10_goOn_75 : decode cX10_goOn 75 = .ok (.getfield 109, 3) := do_180 (rdb (p := 64) (i := 11) ch_cX10_goOn_64 rfl) (rdb (p := 64) (i := 12) ch_cX10_goOn_64 rfl) (rdb (p := 64) (i := 13) ch_cX10_goOn_64 rfl) rfl
theorem dX10_goOn_78 : decode cX10_goOn 78 = .ok (.iconst (-1), 1) := do_2 (rdb (p := 64) (i := 14) ch_cX10_goOn_64 rfl)
theorem dX10_goOn_79 : decode cX10_goOn 79 = .ok (.invokevirtual 62, 3) := do_182 (rdb (p := 64) (i := 15) ch_cX10_goOn_64 rfl) (rdb (p := 64) (i := 16) ch_cX10_goOn_64 rfl) (rdb (p := 64) (i := 17) ch_cX10_goOn_64 rfl) rfl
theorem dX10_goOn_82 : decode cX10_goOn 82 = .ok (.aload_n 0, 1) := do_42 (rdb (p := 64) (i := 18) ch_cX10_goOn_64 rfl)
theorem dX10_goOn_83 : decode cX10_goOn 83 = .ok (.getfield 10, 3) := do_180 (rdb (p := 64) (i := 19) ch_cX10_goOn_64 rfl) (rdb (p := 64) (i := 20) ch_cX10_goOn_64 rfl) (rdb (p := 64) (i := 21) ch_cX10_goOn_64 rfl) rfl
theorem dX10_goOn_86 : decode cX10_goOn 86 = .ok (.iload 4, 2) := do_21 (rdb (p := 64) (i := 22) ch_cX10_goOn_64 rfl) (rdb (p := 64) (i := 23) ch_cX10_goOn_64 rfl)
theorem dX10_goOn_88 : decode cX10_goOn 88 = .ok (.bipush 100, 2) := do_16 (rdb (p := 64) (i := 24) ch_cX10_goOn_64 rfl) (rdb (p := 64) (i := 25) ch_cX10_goOn_64 rfl) (by decide +kernel)
theorem dX10_goOn_90 : decode cX10_goOn 90 = .ok (.iload_n 1, 1) := do_27 (rdb (p := 64) (i := 26) ch_cX10_goOn_64 rfl)
theorem dX10_goOn_91 : decode cX10_goOn 91 = .ok (.iadd, 1) := do_96 (rdb (p := 64) (i := 27) ch_cX10_goOn_64 rfl)
theorem dX10_goOn_92 : decode cX10_goOn 92 = .ok (.invokevirtual 62, 3) := do_182 (rdb (p := 64) (i := 28) ch_cX10_goOn_64 rfl) (rdb (p := 64) (i := 29) ch_cX10_goOn_64 rfl) (rdb (p := 64) (i := 30) ch_cX10_goOn_64 rfl) rfl
theorem dX10_goOn_95 : decode cX10_goOn 95 = .ok (.aload_n 2, 1) := do_44 (rdb (p := 64) (i := 31) ch_cX10_goOn_64 rfl)
theorem ch_cX10_goOn_96 : (cX10_goOn.data.toList.drop 96).take 36 = [21, 4, 181, 0, 109, 132, 3, 1, 167, 255, 170, 177] := by decide +kernel
theorem dX10_goOn_96 : decode cX10_goOn 96 = .ok (.iload 4, 2) := do_21 (rdb (p := 96) (i := 0) ch_cX10_goOn_96 rfl) (rdb (p := 96) (i := 1) ch_cX10_goOn_96 rfl)
theorem dX10_goOn_98 : decode cX10_goOn 98 = .ok (.putfield 109, 3) := do_181 (rdb (p := 96) (i := 2) ch_cX10_goOn_96 rfl) (rdb (p := 96) (i := 3) ch_cX10_goOn_96 rfl) (rdb (p := 96) (i := 4) ch_cX10_goOn_96 rfl) rfl
theorem dX10_goOn_101 : decode cX10_goOn 101 = .ok (.iinc 3 1, 3) := do_132 (rdb (p := 96) (i := 5) ch_cX10_goOn_96 rfl) (rdb (p := 96) (i := 6) ch_cX10_goOn_96 rfl) (rdb (p := 96) (i := 7) ch_cX10_goOn_96 rfl) (by decide +kernel)
theorem dX10_goOn_104 : decode cX10_goOn 104 = .ok (.goto (-86), 3) := do_167 (rdb (p := 96) (i := 8) ch_cX10_goOn_96 rfl) (rdb (p := 96) (i := 9) ch_cX10_goOn_96 rfl) (rdb (p := 96) (i := 10) ch_cX10_goOn_96 rfl) (by decide +kernel)
theorem dX10_goOn_107 : decode cX10_goOn 107 = .ok (.return_, 1) := do_177 (rdb (p := 96) (i := 11) ch_cX10_goOn_96 rfl)
theorem dX10_hasWalker_0 : decode cX10_hasWalker 0 = .ok (.iload_n 1, 1) := by decide +kernel
theorem dX10_hasWalker_1 : decode cX10_hasWalker 1 = .ok (.ifCond .lt 21, 3) := by decide +kernel
theorem dX10_hasWalker_4 : decode cX10_hasWalker 4 = .ok (.iload_n 1, 1) := by decide +kernel
theorem dX10_hasWalker_5 : decode cX10_hasWalker 5 = .ok (.aload_n 0, 1) := by decide +kernel
theorem dX10_hasWalker_6 : decode cX10_hasWalker 6 = .ok (.getfield 50, 3) := by decide +kernel
theorem dX10_hasWalker_9 : decode cX10_hasWalker 9 = .ok (.if_icmp .ge 13, 3) := by decide +kernel
theorem dX10_hasWalker_12 : decode cX10_hasWalker 12 = .ok (.iload_n 1, 1) := by decide +kernel
theorem dX10_hasWalker_13 : decode cX10_hasWalker 13 = .ok (.bipush 8, 2) := by decide +kernel
theorem dX10_hasWalker_15 : decode cX10_hasWalker 15 = .ok (.if_icmp .ge 7, 3) := by decide +kernel
theorem dX10_hasWalker_18 : decode cX10_hasWalker 18 = .ok (.iconst 1, 1) := by decide +kernel
theorem dX10_hasWalker_19 : decode cX10_hasWalker 19 = .ok (.goto 4, 3) := by decide +kernel
theorem dX10_hasWalker_22 : decode cX10_hasWalker 22 = .ok (.iconst 0, 1) := by decide +kernel
theorem dX10_hasWalker_23 : decode cX10_hasWalker 23 = .ok (.ireturn, 1) := by decide +kernel
theorem ch_cX10_heardYards_0 : (cX10_heardYards.data.toList.drop 0).take 36 = [42, 27, 28, 29, 182, 0, 92, 54, 4, 21, 4, 153, 0, 11, 42, 27, 182, 0, 76, 154, 0, 5, 3, 172, 42, 180, 0, 46, 27, 50, 58, 5, 42, 180, 0, 10] := by decide +kernel
theorem dX10_heardYards_0 : decode cX10_heardYards 0 = .ok (.aload_n 0, 1) := do_42 (rdb (p := 0) (i := 0) ch_cX10_heardYards_0 rfl)
theorem dX10_heardYards_1 : decode cX10_heardYards 1 = .ok (.iload_n 1, 1) := do_27 (rdb (p := 0) (i := 1) ch_cX10_heardYards_0 rfl)
theorem dX10_heardYards_2 : decode cX10_heardYards 2 = .ok (.iload_n 2, 1) := do_28 (rdb (p := 0) (i := 2) ch_cX10_heardYards_0 rfl)
theorem dX10_heardYards_3 : decode cX10_heardYards 3 = .ok (.iload_n 3, 1) := do_29 (rdb (p := 0) (i := 3) ch_cX10_heardYards_0 rfl)
theorem dX10_heardYards_4 : decode cX10_heardYards 4 = .ok (.invokevirtual 92, 3) := do_182 (rdb (p := 0) (i := 4) ch_cX10_heardYards_0 rfl) (rdb (p := 0) (i := 5) ch_cX10_heardYards_0 rfl) (rdb (p := 0) (i := 6) ch_cX10_heardYards_0 rfl) rfl
theorem dX10_heardYards_7 : decode cX10_heardYards 7 = .ok (.istore 4, 2) := do_54 (rdb (p := 0) (i := 7) ch_cX10_heardYards_0 rfl) (rdb (p := 0) (i := 8) ch_cX10_heardYards_0 rfl)
theorem dX10_heardYards_9 : decode cX10_heardYards 9 = .ok (.iload 4, 2) := do_21 (rdb (p := 0) (i := 9) ch_cX10_heardYards_0 rfl) (rdb (p := 0) (i := 10) ch_cX10_heardYards_0 rfl)
theorem dX10_heardYards_11 : decode cX10_heardYards 11 = .ok (.ifCond .eq 11, 3) := do_153 (rdb (p := 0) (i := 11) ch_cX10_heardYards_0 rfl) (rdb (p := 0) (i := 12) ch_cX10_heardYards_0 rfl) (rdb (p := 0) (i := 13) ch_cX10_heardYards_0 rfl) (by decide +kernel)
theorem dX10_heardYards_14 : decode cX10_heardYards 14 = .ok (.aload_n 0, 1) := do_42 (rdb (p := 0) (i := 14) ch_cX10_heardYards_0 rfl)
theorem dX10_heardYards_15 : decode cX10_heardYards 15 = .ok (.iload_n 1, 1) := do_27 (rdb (p := 0) (i := 15) ch_cX10_heardYards_0 rfl)
theorem dX10_heardYards_16 : decode cX10_heardYards 16 = .ok (.invokevirtual 76, 3) := do_182 (rdb (p := 0) (i := 16) ch_cX10_heardYards_0 rfl) (rdb (p := 0) (i := 17) ch_cX10_heardYards_0 rfl) (rdb (p := 0) (i := 18) ch_cX10_heardYards_0 rfl) rfl
theorem dX10_heardYards_19 : decode cX10_heardYards 19 = .ok (.ifCond .ne 5, 3) := do_154 (rdb (p := 0) (i := 19) ch_cX10_heardYards_0 rfl) (rdb (p := 0) (i := 20) ch_cX10_heardYards_0 rfl) (rdb (p := 0) (i := 21) ch_cX10_heardYards_0 rfl) (by decide +kernel)
theorem dX10_heardYards_22 : decode cX10_heardYards 22 = .ok (.iconst 0, 1) := do_3 (rdb (p := 0) (i := 22) ch_cX10_heardYards_0 rfl)
theorem dX10_heardYards_23 : decode cX10_heardYards 23 = .ok (.ireturn, 1) := do_172 (rdb (p := 0) (i := 23) ch_cX10_heardYards_0 rfl)
theorem dX10_heardYards_24 : decode cX10_heardYards 24 = .ok (.aload_n 0, 1) := do_42 (rdb (p := 0) (i := 24) ch_cX10_heardYards_0 rfl)
theorem dX10_heardYards_25 : decode cX10_heardYards 25 = .ok (.getfield 46, 3) := do_180 (rdb (p := 0) (i := 25) ch_cX10_heardYards_0 rfl) (rdb (p := 0) (i := 26) ch_cX10_heardYards_0 rfl) (rdb (p := 0) (i := 27) ch_cX10_heardYards_0 rfl) rfl
theorem dX10_heardYards_28 : decode cX10_heardYards 28 = .ok (.iload_n 1, 1) := do_27 (rdb (p := 0) (i := 28) ch_cX10_heardYards_0 rfl)
theorem dX10_heardYards_29 : decode cX10_heardYards 29 = .ok (.aaload, 1) := do_50 (rdb (p := 0) (i := 29) ch_cX10_heardYards_0 rfl)
theorem dX10_heardYards_30 : decode cX10_heardYards 30 = .ok (.astore 5, 2) := do_58 (rdb (p := 0) (i := 30) ch_cX10_heardYards_0 rfl) (rdb (p := 0) (i := 31) ch_cX10_heardYards_0 rfl)
theorem ch_cX10_heardYards_32 : (cX10_heardYards.data.toList.drop 32).take 36 = [42, 180, 0, 10, 28, 29, 21, 4, 184, 0, 84, 182, 0, 95, 54, 6, 42, 180, 0, 19, 25, 5, 182, 0, 99, 21, 6, 25, 5, 182, 0, 102, 21, 4, 29, 182] := by decide +kernel
theorem dX10_heardYards_32 : decode cX10_heardYards 32 = .ok (.aload_n 0, 1) := do_42 (rdb (p := 32) (i := 0) ch_cX10_heardYards_32 rfl)
theorem dX10_heardYards_33 : decode cX10_heardYards 33 = .ok (.getfield 10, 3) := do_180 (rdb (p := 32) (i := 1) ch_cX10_heardYards_32 rfl) (rdb (p := 32) (i := 2) ch_cX10_heardYards_32 rfl) (rdb (p := 32) (i := 3) ch_cX10_heardYards_32 rfl) rfl
theorem dX10_heardYards_36 : decode cX10_heardYards 36 = .ok (.iload_n 2, 1) := do_28 (rdb (p := 32) (i := 4) ch_cX10_heardYards_32 rfl)
theorem dX10_heardYards_37 : decode cX10_heardYards 37 = .ok (.iload_n 3, 1) := do_29 (rdb (p := 32) (i := 5) ch_cX10_heardYards_32 rfl)
theorem dX10_heardYards_38 : decode cX10_heardYards 38 = .ok (.iload 4, 2) := do_21 (rdb (p := 32) (i := 6) ch_cX10_heardYards_32 rfl) (rdb (p := 32) (i := 7) ch_cX10_heardYards_32 rfl)
theorem dX10_heardYards_40 : decode cX10_heardYards 40 = .ok (.invokestatic 84, 3) := do_184 (rdb (p := 32) (i := 8) ch_cX10_heardYards_32 rfl) (rdb (p := 32) (i := 9) ch_cX10_heardYards_32 rfl) (rdb (p := 32) (i := 10) ch_cX10_heardYards_32 rfl) rfl
theorem dX10_heardYards_43 : decode cX10_heardYards 43 = .ok (.invokevirtual 95, 3) := do_182 (rdb (p := 32) (i := 11) ch_cX10_heardYards_32 rfl) (rdb (p := 32) (i := 12) ch_cX10_heardYards_32 rfl) (rdb (p := 32) (i := 13) ch_cX10_heardYards_32 rfl) rfl
theorem dX10_heardYards_46 : decode cX10_heardYards 46 = .ok (.istore 6, 2) := do_54 (rdb (p := 32) (i := 14) ch_cX10_heardYards_32 rfl) (rdb (p := 32) (i := 15) ch_cX10_heardYards_32 rfl)
theorem dX10_heardYards_48 : decode cX10_heardYards 48 = .ok (.aload_n 0, 1) := do_42 (rdb (p := 32) (i := 16) ch_cX10_heardYards_32 rfl)
theorem dX10_heardYards_49 : decode cX10_heardYards 49 = .ok (.getfield 19, 3) := do_180 (rdb (p := 32) (i := 17) ch_cX10_heardYards_32 rfl) (rdb (p := 32) (i := 18) ch_cX10_heardYards_32 rfl) (rdb (p := 32) (i := 19) ch_cX10_heardYards_32 rfl) rfl
theorem dX10_heardYards_52 : decode cX10_heardYards 52 = .ok (.aload 5, 2) := do_25 (rdb (p := 32) (i := 20) ch_cX10_heardYards_32 rfl) (rdb (p := 32) (i := 21) ch_cX10_heardYards_32 rfl)
theorem dX10_heardYards_54 : decode cX10_heardYards 54 = .ok (.invokevirtual 99, 3) := do_182 (rdb (p := 32) (i := 22) ch_cX10_heardYards_32 rfl) (rdb (p := 32) (i := 23) ch_cX10_heardYards_32 rfl) (rdb (p := 32) (i := 24) ch_cX10_heardYards_32 rfl) rfl
theorem dX10_heardYards_57 : decode cX10_heardYards 57 = .ok (.iload 6, 2) := do_21 (rdb (p := 32) (i := 25) ch_cX10_heardYards_32 rfl) (rdb (p := 32) (i := 26) ch_cX10_heardYards_32 rfl)
theorem dX10_heardYards_59 : decode cX10_heardYards 59 = .ok (.aload 5, 2) := do_25 (rdb (p := 32) (i := 27) ch_cX10_heardYards_32 rfl) (rdb (p := 32) (i := 28) ch_cX10_heardYards_32 rfl)
theorem dX10_heardYards_61 : decode cX10_heardYards 61 = .ok (.invokevirtual 102, 3) := do_182 (rdb (p := 32) (i := 29) ch_cX10_heardYards_32 rfl) (rdb (p := 32) (i := 30) ch_cX10_heardYards_32 rfl) (rdb (p := 32) (i := 31) ch_cX10_heardYards_32 rfl) rfl
theorem ch_cX10_heardYards_64 : (cX10_heardYards.data.toList.drop 64).take 36 = [21, 4, 29, 182, 0, 105, 153, 0, 8, 21, 4, 167, 0, 4, 3, 172] := by decide +kernel
theorem dX10_heardYards_64 : decode cX10_heardYards 64 = .ok (.iload 4, 2) := do_21 (rdb (p := 64) (i := 0) ch_cX10_heardYards_64 rfl) (rdb (p := 64) (i := 1) ch_cX10_heardYards_64 rfl)
theorem dX10_heardYards_66 : decode cX10_heardYards 66 = .ok (.iload_n 3, 1) := do_29 (rdb (p := 64) (i := 2) ch_cX10_heardYards_64 rfl)
theorem dX10_heardYards_67 : decode cX10_heardYards 67 = .ok (.invokevirtual 105, 3) := do_182 (rdb (p := 64) (i := 3) ch_cX10_heardYards_64 rfl) (rdb (p := 64) (i := 4) ch_cX10_heardYards_64 rfl) (rdb (p := 64) (i := 5) ch_cX10_heardYards_64 rfl) rfl
theorem dX10_heardYards_70 : decode cX10_heardYards 70 = .ok (.ifCond .eq 8, 3) := do_153 (rdb (p := 64) (i := 6) ch_cX10_heardYards_64 rfl) (rdb (p := 64) (i := 7) ch_cX10_heardYards_64 rfl) (rdb (p := 64) (i := 8) ch_cX10_heardYards_64 rfl) (by decide +kernel)
theorem dX10_heardYards_73 : decode cX10_heardYards 73 = .ok (.iload 4, 2) := do_21 (rdb (p := 64) (i := 9) ch_cX10_heardYards_64 rfl) (rdb (p := 64) (i := 10) ch_cX10_heardYards_64 rfl)
theorem dX10_heardYards_75 : decode cX10_heardYards 75 = .ok (.goto 4, 3) := do_167 (rdb (p := 64) (i := 11) ch_cX10_heardYards_64 rfl) (rdb (p := 64) (i := 12) ch_cX10_heardYards_64 rfl) (rdb (p := 64) (i := 13) ch_cX10_heardYards_64 rfl) (by decide +kernel)
theorem dX10_heardYards_78 : decode cX10_heardYards 78 = .ok (.iconst 0, 1) := do_3 (rdb (p := 64) (i := 14) ch_cX10_heardYards_64 rfl)
theorem dX10_heardYards_79 : decode cX10_heardYards 79 = .ok (.ireturn, 1) := do_172 (rdb (p := 64) (i := 15) ch_cX10_heardYards_64 rfl)
theorem ch_cX10_isFreeBut_0 : (cX10_isFreeBut.data.toList.drop 0).take 36 = [28, 155, 0, 10, 28, 17, 0, 192, 161, 0, 5, 3, 172, 42, 180, 0, 10, 180, 0, 72, 28, 46, 62, 29, 2, 159, 0, 11, 29, 16, 100, 27, 96, 160, 0, 7] := by decide +kernel
theorem dX10_isFreeBut_0 : decode cX10_isFreeBut 0 = .ok (.iload_n 2, 1) := do_28 (rdb (p := 0) (i := 0) ch_cX10_isFreeBut_0 rfl)
theorem dX10_isFreeBut_1 : decode cX10_isFreeBut 1 = .ok (.ifCond .lt 10, 3) := do_155 (rdb (p := 0) (i := 1) ch_cX10_isFreeBut_0 rfl) (rdb (p := 0) (i := 2) ch_cX10_isFreeBut_0 rfl) (rdb (p := 0) (i := 3) ch_cX10_isFreeBut_0 rfl) (by decide +kernel)
theorem dX10_isFreeBut_4 : decode cX10_isFreeBut 4 = .ok (.iload_n 2, 1) := do_28 (rdb (p := 0) (i := 4) ch_cX10_isFreeBut_0 rfl)
theorem dX10_isFreeBut_5 : decode cX10_isFreeBut 5 = .ok (.sipush 192, 3) := do_17 (rdb (p := 0) (i := 5) ch_cX10_isFreeBut_0 rfl) (rdb (p := 0) (i := 6) ch_cX10_isFreeBut_0 rfl) (rdb (p := 0) (i := 7) ch_cX10_isFreeBut_0 rfl) (by decide +kernel)
theorem dX10_isFreeBut_8 : decode cX10_isFreeBut 8 = .ok (.if_icmp .lt 5, 3) := do_161 (rdb (p := 0) (i := 8) ch_cX10_isFreeBut_0 rfl) (rdb (p := 0) (i := 9) ch_cX10_isFreeBut_0 rfl) (rdb (p := 0) (i := 10) ch_cX10_isFreeBut_0 rfl) (by decide +kernel)
theorem dX10_isFreeBut_11 : decode cX10_isFreeBut 11 = .ok (.iconst 0, 1) := do_3 (rdb (p := 0) (i := 11) ch_cX10_isFreeBut_0 rfl)
theorem dX10_isFreeBut_12 : decode cX10_isFreeBut 12 = .ok (.ireturn, 1) := do_172 (rdb (p := 0) (i := 12) ch_cX10_isFreeBut_0 rfl)
theorem dX10_isFreeBut_13 : decode cX10_isFreeBut 13 = .ok (.aload_n 0, 1) := do_42 (rdb (p := 0) (i := 13) ch_cX10_isFreeBut_0 rfl)
theorem dX10_isFreeBut_14 : decode cX10_isFreeBut 14 = .ok (.getfield 10, 3) := do_180 (rdb (p := 0) (i := 14) ch_cX10_isFreeBut_0 rfl) (rdb (p := 0) (i := 15) ch_cX10_isFreeBut_0 rfl) (rdb (p := 0) (i := 16) ch_cX10_isFreeBut_0 rfl) rfl
theorem dX10_isFreeBut_17 : decode cX10_isFreeBut 17 = .ok (.getfield 72, 3) := do_180 (rdb (p := 0) (i := 17) ch_cX10_isFreeBut_0 rfl) (rdb (p := 0) (i := 18) ch_cX10_isFreeBut_0 rfl) (rdb (p := 0) (i := 19) ch_cX10_isFreeBut_0 rfl) rfl
theorem dX10_isFreeBut_20 : decode cX10_isFreeBut 20 = .ok (.iload_n 2, 1) := do_28 (rdb (p := 0) (i := 20) ch_cX10_isFreeBut_0 rfl)
theorem dX10_isFreeBut_21 : decode cX10_isFreeBut 21 = .ok (.iaload, 1) := do_46 (rdb (p := 0) (i := 21) ch_cX10_isFreeBut_0 rfl)
theorem dX10_isFreeBut_22 : decode cX10_isFreeBut 22 = .ok (.istore_n 3, 1) := do_62 (rdb (p := 0) (i := 22) ch_cX10_isFreeBut_0 rfl)
theorem dX10_isFreeBut_23 : decode cX10_isFreeBut 23 = .ok (.iload_n 3, 1) := do_29 (rdb (p := 0) (i := 23) ch_cX10_isFreeBut_0 rfl)
theorem dX10_isFreeBut_24 : decode cX10_isFreeBut 24 = .ok (.iconst (-1), 1) := do_2 (rdb (p := 0) (i := 24) ch_cX10_isFreeBut_0 rfl)
theorem dX10_isFreeBut_25 : decode cX10_isFreeBut 25 = .ok (.if_icmp .eq 11, 3) := do_159 (rdb (p := 0) (i := 25) ch_cX10_isFreeBut_0 rfl) (rdb (p := 0) (i := 26) ch_cX10_isFreeBut_0 rfl) (rdb (p := 0) (i := 27) ch_cX10_isFreeBut_0 rfl) (by decide +kernel)
theorem dX10_isFreeBut_28 : decode cX10_isFreeBut 28 = .ok (.iload_n 3, 1) := do_29 (rdb (p := 0) (i := 28) ch_cX10_isFreeBut_0 rfl)
theorem dX10_isFreeBut_29 : decode cX10_isFreeBut 29 = .ok (.bipush 100, 2) := do_16 (rdb (p := 0) (i := 29) ch_cX10_isFreeBut_0 rfl) (rdb (p := 0) (i := 30) ch_cX10_isFreeBut_0 rfl) (by decide +kernel)
theorem dX10_isFreeBut_31 : decode cX10_isFreeBut 31 = .ok (.iload_n 1, 1) := do_27 (rdb (p := 0) (i := 31) ch_cX10_isFreeBut_0 rfl)
theorem ch_cX10_isFreeBut_32 : (cX10_isFreeBut.data.toList.drop 32).take 36 = [96, 160, 0, 7, 4, 167, 0, 4, 3, 172] := by decide +kernel
theorem dX10_isFreeBut_32 : decode cX10_isFreeBut 32 = .ok (.iadd, 1) := do_96 (rdb (p := 32) (i := 0) ch_cX10_isFreeBut_32 rfl)
theorem dX10_isFreeBut_33 : decode cX10_isFreeBut 33 = .ok (.if_icmp .ne 7, 3) := do_160 (rdb (p := 32) (i := 1) ch_cX10_isFreeBut_32 rfl) (rdb (p := 32) (i := 2) ch_cX10_isFreeBut_32 rfl) (rdb (p := 32) (i := 3) ch_cX10_isFreeBut_32 rfl) (by decide +kernel)
theorem dX10_isFreeBut_36 : decode cX10_isFreeBut 36 = .ok (.iconst 1, 1) := do_4 (rdb (p := 32) (i := 4) ch_cX10_isFreeBut_32 rfl)
theorem dX10_isFreeBut_37 : decode cX10_isFreeBut 37 = .ok (.goto 4, 3) := do_167 (rdb (p := 32) (i := 5) ch_cX10_isFreeBut_32 rfl) (rdb (p := 32) (i := 6) ch_cX10_isFreeBut_32 rfl) (rdb (p := 32) (i := 7) ch_cX10_isFreeBut_32 rfl) (by decide +kernel)
theorem dX10_isFreeBut_40 : decode cX10_isFreeBut 40 = .ok (.iconst 0, 1) := do_3 (rdb (p := 32) (i := 8) ch_cX10_isFreeBut_32 rfl)
theorem dX10_isFreeBut_41 : decode cX10_isFreeBut 41 = .ok (.ireturn, 1) := do_172 (rdb (p := 32) (i := 9) ch_cX10_isFreeBut_32 rfl)
theorem ch_cX10_letWalkerGo_0 : (cX10_letWalkerGo.data.toList.drop 0).take 36 = [42, 27, 182, 0, 76, 154, 0, 4, 177, 42, 180, 0, 46, 27, 50, 77, 44, 180, 0, 151, 62, 29, 158, 0, 26, 42, 180, 0, 54, 29, 112, 154, 0, 17, 44, 4] := by decide +kernel
theorem dX10_letWalkerGo_0 : decode cX10_letWalkerGo 0 = .ok (.aload_n 0, 1) := do_42 (rdb (p := 0) (i := 0) ch_cX10_letWalkerGo_0 rfl)
theorem dX10_letWalkerGo_1 : decode cX10_letWalkerGo 1 = .ok (.iload_n 1, 1) := do_27 (rdb (p := 0) (i := 1) ch_cX10_letWalkerGo_0 rfl)
theorem dX10_letWalkerGo_2 : decode cX10_letWalkerGo 2 = .ok (.invokevirtual 76, 3) := do_182 (rdb (p := 0) (i := 2) ch_cX10_letWalkerGo_0 rfl) (rdb (p := 0) (i := 3) ch_cX10_letWalkerGo_0 rfl) (rdb (p := 0) (i := 4) ch_cX10_letWalkerGo_0 rfl) rfl
theorem dX10_letWalkerGo_5 : decode cX10_letWalkerGo 5 = .ok (.ifCond .ne 4, 3) := do_154 (rdb (p := 0) (i := 5) ch_cX10_letWalkerGo_0 rfl) (rdb (p := 0) (i := 6) ch_cX10_letWalkerGo_0 rfl) (rdb (p := 0) (i := 7) ch_cX10_letWalkerGo_0 rfl) (by decide +kernel)
theorem dX10_letWalkerGo_8 : decode cX10_letWalkerGo 8 = .ok (.return_, 1) := do_177 (rdb (p := 0) (i := 8) ch_cX10_letWalkerGo_0 rfl)
theorem dX10_letWalkerGo_9 : decode cX10_letWalkerGo 9 = .ok (.aload_n 0, 1) := do_42 (rdb (p := 0) (i := 9) ch_cX10_letWalkerGo_0 rfl)
theorem dX10_letWalkerGo_10 : decode cX10_letWalkerGo 10 = .ok (.getfield 46, 3) := do_180 (rdb (p := 0) (i := 10) ch_cX10_letWalkerGo_0 rfl) (rdb (p := 0) (i := 11) ch_cX10_letWalkerGo_0 rfl) (rdb (p := 0) (i := 12) ch_cX10_letWalkerGo_0 rfl) rfl
theorem dX10_letWalkerGo_13 : decode cX10_letWalkerGo 13 = .ok (.iload_n 1, 1) := do_27 (rdb (p := 0) (i := 13) ch_cX10_letWalkerGo_0 rfl)
theorem dX10_letWalkerGo_14 : decode cX10_letWalkerGo 14 = .ok (.aaload, 1) := do_50 (rdb (p := 0) (i := 14) ch_cX10_letWalkerGo_0 rfl)
theorem dX10_letWalkerGo_15 : decode cX10_letWalkerGo 15 = .ok (.astore_n 2, 1) := do_77 (rdb (p := 0) (i := 15) ch_cX10_letWalkerGo_0 rfl)
theorem dX10_letWalkerGo_16 : decode cX10_letWalkerGo 16 = .ok (.aload_n 2, 1) := do_44 (rdb (p := 0) (i := 16) ch_cX10_letWalkerGo_0 rfl)
theorem dX10_letWalkerGo_17 : decode cX10_letWalkerGo 17 = .ok (.getfield 151, 3) := do_180 (rdb (p := 0) (i := 17) ch_cX10_letWalkerGo_0 rfl) (rdb (p := 0) (i := 18) ch_cX10_letWalkerGo_0 rfl) (rdb (p := 0) (i := 19) ch_cX10_letWalkerGo_0 rfl) rfl
theorem dX10_letWalkerGo_20 : decode cX10_letWalkerGo 20 = .ok (.istore_n 3, 1) := do_62 (rdb (p := 0) (i := 20) ch_cX10_letWalkerGo_0 rfl)
theorem dX10_letWalkerGo_21 : decode cX10_letWalkerGo 21 = .ok (.iload_n 3, 1) := do_29 (rdb (p := 0) (i := 21) ch_cX10_letWalkerGo_0 rfl)
theorem dX10_letWalkerGo_22 : decode cX10_letWalkerGo 22 = .ok (.ifCond .le 26, 3) := do_158 (rdb (p := 0) (i := 22) ch_cX10_letWalkerGo_0 rfl) (rdb (p := 0) (i := 23) ch_cX10_letWalkerGo_0 rfl) (rdb (p := 0) (i := 24) ch_cX10_letWalkerGo_0 rfl) (by decide +kernel)
theorem dX10_letWalkerGo_25 : decode cX10_letWalkerGo 25 = .ok (.aload_n 0, 1) := do_42 (rdb (p := 0) (i := 25) ch_cX10_letWalkerGo_0 rfl)
theorem dX10_letWalkerGo_26 : decode cX10_letWalkerGo 26 = .ok (.getfield 54, 3) := do_180 (rdb (p := 0) (i := 26) ch_cX10_letWalkerGo_0 rfl) (rdb (p := 0) (i := 27) ch_cX10_letWalkerGo_0 rfl) (rdb (p := 0) (i := 28) ch_cX10_letWalkerGo_0 rfl) rfl
theorem dX10_letWalkerGo_29 : decode cX10_letWalkerGo 29 = .ok (.iload_n 3, 1) := do_29 (rdb (p := 0) (i := 29) ch_cX10_letWalkerGo_0 rfl)
theorem dX10_letWalkerGo_30 : decode cX10_letWalkerGo 30 = .ok (.irem, 1) := do_112 (rdb (p := 0) (i := 30) ch_cX10_letWalkerGo_0 rfl)
theorem dX10_letWalkerGo_31 : decode cX10_letWalkerGo 31 = .ok (.ifCond .ne 17, 3) := do_154 (rdb (p := 0) (i := 31) ch_cX10_letWalkerGo_0 rfl) (rdb (p := 0) (i := 32) ch_cX10_letWalkerGo_0 rfl) (rdb (p := 0) (i := 33) ch_cX10_letWalkerGo_0 rfl) (by decide +kernel)
theorem ch_cX10_letWalkerGo_32 : (cX10_letWalkerGo.data.toList.drop 32).take 36 = [0, 17, 44, 4, 182, 0, 154, 153, 0, 9, 42, 27, 182, 0, 157, 87, 44, 44, 180, 0, 119, 182, 0, 160, 54, 4, 44, 44, 180, 0, 119, 16, 6, 96, 16, 7] := by decide +kernel
theorem dX10_letWalkerGo_34 : decode cX10_letWalkerGo 34 = .ok (.aload_n 2, 1) := do_44 (rdb (p := 32) (i := 2) ch_cX10_letWalkerGo_32 rfl)
theorem dX10_letWalkerGo_35 : decode cX10_letWalkerGo 35 = .ok (.iconst 1, 1) := do_4 (rdb (p := 32) (i := 3) ch_cX10_letWalkerGo_32 rfl)
theorem dX10_letWalkerGo_36 : decode cX10_letWalkerGo 36 = .ok (.invokevirtual 154, 3) := do_182 (rdb (p := 32) (i := 4) ch_cX10_letWalkerGo_32 rfl) (rdb (p := 32) (i := 5) ch_cX10_letWalkerGo_32 rfl) (rdb (p := 32) (i := 6) ch_cX10_letWalkerGo_32 rfl) rfl
theorem dX10_letWalkerGo_39 : decode cX10_letWalkerGo 39 = .ok (.ifCond .eq 9, 3) := do_153 (rdb (p := 32) (i := 7) ch_cX10_letWalkerGo_32 rfl) (rdb (p := 32) (i := 8) ch_cX10_letWalkerGo_32 rfl) (rdb (p := 32) (i := 9) ch_cX10_letWalkerGo_32 rfl) (by decide +kernel)
theorem dX10_letWalkerGo_42 : decode cX10_letWalkerGo 42 = .ok (.aload_n 0, 1) := do_42 (rdb (p := 32) (i := 10) ch_cX10_letWalkerGo_32 rfl)
theorem dX10_letWalkerGo_43 : decode cX10_letWalkerGo 43 = .ok (.iload_n 1, 1) := do_27 (rdb (p := 32) (i := 11) ch_cX10_letWalkerGo_32 rfl)
theorem dX10_letWalkerGo_44 : decode cX10_letWalkerGo 44 = .ok (.invokevirtual 157, 3) := do_182 (rdb (p := 32) (i := 12) ch_cX10_letWalkerGo_32 rfl) (rdb (p := 32) (i := 13) ch_cX10_letWalkerGo_32 rfl) (rdb (p := 32) (i := 14) ch_cX10_letWalkerGo_32 rfl) rfl
theorem dX10_letWalkerGo_47 : decode cX10_letWalkerGo 47 = .ok (.pop, 1) := do_87 (rdb (p := 32) (i := 15) ch_cX10_letWalkerGo_32 rfl)
theorem dX10_letWalkerGo_48 : decode cX10_letWalkerGo 48 = .ok (.aload_n 2, 1) := do_44 (rdb (p := 32) (i := 16) ch_cX10_letWalkerGo_32 rfl)
theorem dX10_letWalkerGo_49 : decode cX10_letWalkerGo 49 = .ok (.aload_n 2, 1) := do_44 (rdb (p := 32) (i := 17) ch_cX10_letWalkerGo_32 rfl)
theorem dX10_letWalkerGo_50 : decode cX10_letWalkerGo 50 = .ok (.getfield 119, 3) := do_180 (rdb (p := 32) (i := 18) ch_cX10_letWalkerGo_32 rfl) (rdb (p := 32) (i := 19) ch_cX10_letWalkerGo_32 rfl) (rdb (p := 32) (i := 20) ch_cX10_letWalkerGo_32 rfl) rfl
theorem dX10_letWalkerGo_53 : decode cX10_letWalkerGo 53 = .ok (.invokevirtual 160, 3) := do_182 (rdb (p := 32) (i := 21) ch_cX10_letWalkerGo_32 rfl) (rdb (p := 32) (i := 22) ch_cX10_letWalkerGo_32 rfl) (rdb (p := 32) (i := 23) ch_cX10_letWalkerGo_32 rfl) rfl
theorem dX10_letWalkerGo_56 : decode cX10_letWalkerGo 56 = .ok (.istore 4, 2) := do_54 (rdb (p := 32) (i := 24) ch_cX10_letWalkerGo_32 rfl) (rdb (p := 32) (i := 25) ch_cX10_letWalkerGo_32 rfl)
theorem dX10_letWalkerGo_58 : decode cX10_letWalkerGo 58 = .ok (.aload_n 2, 1) := do_44 (rdb (p := 32) (i := 26) ch_cX10_letWalkerGo_32 rfl)
theorem dX10_letWalkerGo_59 : decode cX10_letWalkerGo 59 = .ok (.aload_n 2, 1) := do_44 (rdb (p := 32) (i := 27) ch_cX10_letWalkerGo_32 rfl)
theorem dX10_letWalkerGo_60 : decode cX10_letWalkerGo 60 = .ok (.getfield 119, 3) := do_180 (rdb (p := 32) (i := 28) ch_cX10_letWalkerGo_32 rfl) (rdb (p := 32) (i := 29) ch_cX10_letWalkerGo_32 rfl) (rdb (p := 32) (i := 30) ch_cX10_letWalkerGo_32 rfl) rfl
theorem dX10_letWalkerGo_63 : decode cX10_letWalkerGo 63 = .ok (.bipush 6, 2) := do_16 (rdb (p := 32) (i := 31) ch_cX10_letWalkerGo_32 rfl) (rdb (p := 32) (i := 32) ch_cX10_letWalkerGo_32 rfl) (by decide +kernel)
theorem ch_cX10_letWalkerGo_64 : (cX10_letWalkerGo.data.toList.drop 64).take 36 = [6, 96, 16, 7, 126, 182, 0, 160, 54, 5, 44, 44, 180, 0, 119, 5, 96, 16, 7, 126, 182, 0, 160, 54, 6, 42, 180, 0, 19, 21, 4, 21, 5, 21, 6, 44] := by decide +kernel
theorem dX10_letWalkerGo_65 : decode cX10_letWalkerGo 65 = .ok (.iadd, 1) := do_96 (rdb (p := 64) (i := 1) ch_cX10_letWalkerGo_64 rfl)
theorem dX10_letWalkerGo_66 : decode cX10_letWalkerGo 66 = .ok (.bipush 7, 2) := do_16 (rdb (p := 64) (i := 2) ch_cX10_letWalkerGo_64 rfl) (rdb (p := 64) (i := 3) ch_cX10_letWalkerGo_64 rfl) (by decide +kernel)
theorem dX10_letWalkerGo_68 : decode cX10_letWalkerGo 68 = .ok (.iand, 1) := do_126 (rdb (p := 64) (i := 4) ch_cX10_letWalkerGo_64 rfl)
theorem dX10_letWalkerGo_69 : decode cX10_letWalkerGo 69 = .ok (.invokevirtual 160, 3) := do_182 (rdb (p := 64) (i := 5) ch_cX10_letWalkerGo_64 rfl) (rdb (p := 64) (i := 6) ch_cX10_letWalkerGo_64 rfl) (rdb (p := 64) (i := 7) ch_cX10_letWalkerGo_64 rfl) rfl
theorem dX10_letWalkerGo_72 : decode cX10_letWalkerGo 72 = .ok (.istore 5, 2) := do_54 (rdb (p := 64) (i := 8) ch_cX10_letWalkerGo_64 rfl) (rdb (p := 64) (i := 9) ch_cX10_letWalkerGo_64 rfl)
theorem dX10_letWalkerGo_74 : decode cX10_letWalkerGo 74 = .ok (.aload_n 2, 1) := do_44 (rdb (p := 64) (i := 10) ch_cX10_letWalkerGo_64 rfl)
theorem dX10_letWalkerGo_75 : decode cX10_letWalkerGo 75 = .ok (.aload_n 2, 1) := do_44 (rdb (p := 64) (i := 11) ch_cX10_letWalkerGo_64 rfl)
theorem dX10_letWalkerGo_76 : decode cX10_letWalkerGo 76 = .ok (.getfield 119, 3) := do_180 (rdb (p := 64) (i := 12) ch_cX10_letWalkerGo_64 rfl) (rdb (p := 64) (i := 13) ch_cX10_letWalkerGo_64 rfl) (rdb (p := 64) (i := 14) ch_cX10_letWalkerGo_64 rfl) rfl
theorem dX10_letWalkerGo_79 : decode cX10_letWalkerGo 79 = .ok (.iconst 2, 1) := do_5 (rdb (p := 64) (i := 15) ch_cX10_letWalkerGo_64 rfl)
theorem dX10_letWalkerGo_80 : decode cX10_letWalkerGo 80 = .ok (.iadd, 1) := do_96 (rdb (p := 64) (i := 16) ch_cX10_letWalkerGo_64 rfl)
theorem dX10_letWalkerGo_81 : decode cX10_letWalkerGo 81 = .ok (.bipush 7, 2) := do_16 (rdb (p := 64) (i := 17) ch_cX10_letWalkerGo_64 rfl) (rdb (p := 64) (i := 18) ch_cX10_letWalkerGo_64 rfl) (by decide +kernel)
theorem dX10_letWalkerGo_83 : decode cX10_letWalkerGo 83 = .ok (.iand, 1) := do_126 (rdb (p := 64) (i := 19) ch_cX10_letWalkerGo_64 rfl)
theorem dX10_letWalkerGo_84 : decode cX10_letWalkerGo 84 = .ok (.invokevirtual 160, 3) := do_182 (rdb (p := 64) (i := 20) ch_cX10_letWalkerGo_64 rfl) (rdb (p := 64) (i := 21) ch_cX10_letWalkerGo_64 rfl) (rdb (p := 64) (i := 22) ch_cX10_letWalkerGo_64 rfl) rfl
theorem dX10_letWalkerGo_87 : decode cX10_letWalkerGo 87 = .ok (.istore 6, 2) := do_54 (rdb (p := 64) (i := 23) ch_cX10_letWalkerGo_64 rfl) (rdb (p := 64) (i := 24) ch_cX10_letWalkerGo_64 rfl)
theorem dX10_letWalkerGo_89 : decode cX10_letWalkerGo 89 = .ok (.aload_n 0, 1) := do_42 (rdb (p := 64) (i := 25) ch_cX10_letWalkerGo_64 rfl)
theorem dX10_letWalkerGo_90 : decode cX10_letWalkerGo 90 = .ok (.getfield 19, 3) := do_180 (rdb (p := 64) (i := 26) ch_cX10_letWalkerGo_64 rfl) (rdb (p := 64) (i := 27) ch_cX10_letWalkerGo_64 rfl) (rdb (p := 64) (i := 28) ch_cX10_letWalkerGo_64 rfl) rfl
theorem dX10_letWalkerGo_93 : decode cX10_letWalkerGo 93 = .ok (.iload 4, 2) := do_21 (rdb (p := 64) (i := 29) ch_cX10_letWalkerGo_64 rfl) (rdb (p := 64) (i := 30) ch_cX10_letWalkerGo_64 rfl)
theorem dX10_letWalkerGo_95 : decode cX10_letWalkerGo 95 = .ok (.iload 5, 2) := do_21 (rdb (p := 64) (i := 31) ch_cX10_letWalkerGo_64 rfl) (rdb (p := 64) (i := 32) ch_cX10_letWalkerGo_64 rfl)
theorem ch_cX10_letWalkerGo_96 : (cX10_letWalkerGo.data.toList.drop 96).take 36 = [5, 21, 6, 44, 180, 0, 66, 42, 180, 0, 54, 182, 0, 163, 7, 184, 0, 167, 54, 7, 21, 7, 154, 0, 11, 42, 27, 182, 0, 172, 167, 0, 20, 44, 21, 7] := by decide +kernel
theorem dX10_letWalkerGo_97 : decode cX10_letWalkerGo 97 = .ok (.iload 6, 2) := do_21 (rdb (p := 96) (i := 1) ch_cX10_letWalkerGo_96 rfl) (rdb (p := 96) (i := 2) ch_cX10_letWalkerGo_96 rfl)
theorem dX10_letWalkerGo_99 : decode cX10_letWalkerGo 99 = .ok (.aload_n 2, 1) := do_44 (rdb (p := 96) (i := 3) ch_cX10_letWalkerGo_96 rfl)
theorem dX10_letWalkerGo_100 : decode cX10_letWalkerGo 100 = .ok (.getfield 66, 3) := do_180 (rdb (p := 96) (i := 4) ch_cX10_letWalkerGo_96 rfl) (rdb (p := 96) (i := 5) ch_cX10_letWalkerGo_96 rfl) (rdb (p := 96) (i := 6) ch_cX10_letWalkerGo_96 rfl) rfl
theorem dX10_letWalkerGo_103 : decode cX10_letWalkerGo 103 = .ok (.aload_n 0, 1) := do_42 (rdb (p := 96) (i := 7) ch_cX10_letWalkerGo_96 rfl)
theorem dX10_letWalkerGo_104 : decode cX10_letWalkerGo 104 = .ok (.getfield 54, 3) := do_180 (rdb (p := 96) (i := 8) ch_cX10_letWalkerGo_96 rfl) (rdb (p := 96) (i := 9) ch_cX10_letWalkerGo_96 rfl) (rdb (p := 96) (i := 10) ch_cX10_letWalkerGo_96 rfl) rfl
theorem dX10_letWalkerGo_107 : decode cX10_letWalkerGo 107 = .ok (.invokevirtual 163, 3) := do_182 (rdb (p := 96) (i := 11) ch_cX10_letWalkerGo_96 rfl) (rdb (p := 96) (i := 12) ch_cX10_letWalkerGo_96 rfl) (rdb (p := 96) (i := 13) ch_cX10_letWalkerGo_96 rfl) rfl
theorem dX10_letWalkerGo_110 : decode cX10_letWalkerGo 110 = .ok (.iconst 4, 1) := do_7 (rdb (p := 96) (i := 14) ch_cX10_letWalkerGo_96 rfl)
theorem dX10_letWalkerGo_111 : decode cX10_letWalkerGo 111 = .ok (.invokestatic 167, 3) := do_184 (rdb (p := 96) (i := 15) ch_cX10_letWalkerGo_96 rfl) (rdb (p := 96) (i := 16) ch_cX10_letWalkerGo_96 rfl) (rdb (p := 96) (i := 17) ch_cX10_letWalkerGo_96 rfl) rfl
theorem dX10_letWalkerGo_114 : decode cX10_letWalkerGo 114 = .ok (.istore 7, 2) := do_54 (rdb (p := 96) (i := 18) ch_cX10_letWalkerGo_96 rfl) (rdb (p := 96) (i := 19) ch_cX10_letWalkerGo_96 rfl)
theorem dX10_letWalkerGo_116 : decode cX10_letWalkerGo 116 = .ok (.iload 7, 2) := do_21 (rdb (p := 96) (i := 20) ch_cX10_letWalkerGo_96 rfl) (rdb (p := 96) (i := 21) ch_cX10_letWalkerGo_96 rfl)
theorem dX10_letWalkerGo_118 : decode cX10_letWalkerGo 118 = .ok (.ifCond .ne 11, 3) := do_154 (rdb (p := 96) (i := 22) ch_cX10_letWalkerGo_96 rfl) (rdb (p := 96) (i := 23) ch_cX10_letWalkerGo_96 rfl) (rdb (p := 96) (i := 24) ch_cX10_letWalkerGo_96 rfl) (by decide +kernel)
theorem dX10_letWalkerGo_121 : decode cX10_letWalkerGo 121 = .ok (.aload_n 0, 1) := do_42 (rdb (p := 96) (i := 25) ch_cX10_letWalkerGo_96 rfl)
theorem dX10_letWalkerGo_122 : decode cX10_letWalkerGo 122 = .ok (.iload_n 1, 1) := do_27 (rdb (p := 96) (i := 26) ch_cX10_letWalkerGo_96 rfl)
theorem dX10_letWalkerGo_123 : decode cX10_letWalkerGo 123 = .ok (.invokevirtual 172, 3) := do_182 (rdb (p := 96) (i := 27) ch_cX10_letWalkerGo_96 rfl) (rdb (p := 96) (i := 28) ch_cX10_letWalkerGo_96 rfl) (rdb (p := 96) (i := 29) ch_cX10_letWalkerGo_96 rfl) rfl
theorem dX10_letWalkerGo_126 : decode cX10_letWalkerGo 126 = .ok (.goto 20, 3) := do_167 (rdb (p := 96) (i := 30) ch_cX10_letWalkerGo_96 rfl) (rdb (p := 96) (i := 31) ch_cX10_letWalkerGo_96 rfl) (rdb (p := 96) (i := 32) ch_cX10_letWalkerGo_96 rfl) (by decide +kernel)
theorem ch_cX10_letWalkerGo_128 : (cX10_letWalkerGo.data.toList.drop 128).take 36 = [20, 44, 21, 7, 6, 160, 0, 8, 16, 254, 167, 0, 5, 21, 7, 182, 0, 175, 177] := by decide +kernel
theorem dX10_letWalkerGo_129 : decode cX10_letWalkerGo 129 = .ok (.aload_n 2, 1) := do_44 (rdb (p := 128) (i := 1) ch_cX10_letWalkerGo_128 rfl)
theorem dX10_letWalkerGo_130 : decode cX10_letWalkerGo 130 = .ok (.iload 7, 2) := do_21 (rdb (p := 128) (i := 2) ch_cX10_letWalkerGo_128 rfl) (rdb (p := 128) (i := 3) ch_cX10_letWalkerGo_128 rfl)
theorem dX10_letWalkerGo_132 : decode cX10_letWalkerGo 132 = .ok (.iconst 3, 1) := do_6 (rdb (p := 128) (i := 4) ch_cX10_letWalkerGo_128 rfl)
theorem dX10_letWalkerGo_133 : decode cX10_letWalkerGo 133 = .ok (.if_icmp .ne 8, 3) := do_160 (rdb (p := 128) (i := 5) ch_cX10_letWalkerGo_128 rfl) (rdb (p := 128) (i := 6) ch_cX10_letWalkerGo_128 rfl) (rdb (p := 128) (i := 7) ch_cX10_letWalkerGo_128 rfl) (by decide +kernel)
theorem dX10_letWalkerGo_136 : decode cX10_letWalkerGo 136 = .ok (.bipush (-2), 2) := do_16 (rdb (p := 128) (i := 8) ch_cX10_letWalkerGo_128 rfl) (rdb (p := 128) (i := 9) ch_cX10_letWalkerGo_128 rfl) (by decide +kernel)
theorem dX10_letWalkerGo_138 : decode cX10_letWalkerGo 138 = .ok (.goto 5, 3) := do_167 (rdb (p := 128) (i := 10) ch_cX10_letWalkerGo_128 rfl) (rdb (p := 128) (i := 11) ch_cX10_letWalkerGo_128 rfl) (rdb (p := 128) (i := 12) ch_cX10_letWalkerGo_128 rfl) (by decide +kernel)
theorem dX10_letWalkerGo_141 : decode cX10_letWalkerGo 141 = .ok (.iload 7, 2) := do_21 (rdb (p := 128) (i := 13) ch_cX10_letWalkerGo_128 rfl) (rdb (p := 128) (i := 14) ch_cX10_letWalkerGo_128 rfl)
theorem dX10_letWalkerGo_143 : decode cX10_letWalkerGo 143 = .ok (.invokevirtual 175, 3) := do_182 (rdb (p := 128) (i := 15) ch_cX10_letWalkerGo_128 rfl) (rdb (p := 128) (i := 16) ch_cX10_letWalkerGo_128 rfl) (rdb (p := 128) (i := 17) ch_cX10_letWalkerGo_128 rfl) rfl
theorem dX10_letWalkerGo_146 : decode cX10_letWalkerGo 146 = .ok (.return_, 1) := do_177 (rdb (p := 128) (i := 18) ch_cX10_letWalkerGo_128 rfl)
theorem ch_cX10_makeClick_0 : (cX10_makeClick.data.toList.drop 0).take 36 = [42, 27, 182, 0, 76, 154, 0, 5, 3, 172, 42, 180, 0, 46, 27, 50, 77, 44, 89, 180, 0, 69, 4, 96, 181, 0, 69, 3, 62, 3, 54, 4, 21, 4, 16, 8] := by decide +kernel
theorem dX10_makeClick_0 : decode cX10_makeClick 0 = .ok (.aload_n 0, 1) := do_42 (rdb (p := 0) (i := 0) ch_cX10_makeClick_0 rfl)
theorem dX10_makeClick_1 : decode cX10_makeClick 1 = .ok (.iload_n 1, 1) := do_27 (rdb (p := 0) (i := 1) ch_cX10_makeClick_0 rfl)
theorem dX10_makeClick_2 : decode cX10_makeClick 2 = .ok (.invokevirtual 76, 3) := do_182 (rdb (p := 0) (i := 2) ch_cX10_makeClick_0 rfl) (rdb (p := 0) (i := 3) ch_cX10_makeClick_0 rfl) (rdb (p := 0) (i := 4) ch_cX10_makeClick_0 rfl) rfl
theorem dX10_makeClick_5 : decode cX10_makeClick 5 = .ok (.ifCond .ne 5, 3) := do_154 (rdb (p := 0) (i := 5) ch_cX10_makeClick_0 rfl) (rdb (p := 0) (i := 6) ch_cX10_makeClick_0 rfl) (rdb (p := 0) (i := 7) ch_cX10_makeClick_0 rfl) (by decide +kernel)
theorem dX10_makeClick_8 : decode cX10_makeClick 8 = .ok (.iconst 0, 1) := do_3 (rdb (p := 0) (i := 8) ch_cX10_makeClick_0 rfl)
theorem dX10_makeClick_9 : decode cX10_makeClick 9 = .ok (.ireturn, 1) := do_172 (rdb (p := 0) (i := 9) ch_cX10_makeClick_0 rfl)
theorem dX10_makeClick_10 : decode cX10_makeClick 10 = .ok (.aload_n 0, 1) := do_42 (rdb (p := 0) (i := 10) ch_cX10_makeClick_0 rfl)
theorem dX10_makeClick_11 : decode cX10_makeClick 11 = .ok (.getfield 46, 3) := do_180 (rdb (p := 0) (i := 11) ch_cX10_makeClick_0 rfl) (rdb (p := 0) (i := 12) ch_cX10_makeClick_0 rfl) (rdb (p := 0) (i := 13) ch_cX10_makeClick_0 rfl) rfl
theorem dX10_makeClick_14 : decode cX10_makeClick 14 = .ok (.iload_n 1, 1) := do_27 (rdb (p := 0) (i := 14) ch_cX10_makeClick_0 rfl)
theorem dX10_makeClick_15 : decode cX10_makeClick 15 = .ok (.aaload, 1) := do_50 (rdb (p := 0) (i := 15) ch_cX10_makeClick_0 rfl)
theorem dX10_makeClick_16 : decode cX10_makeClick 16 = .ok (.astore_n 2, 1) := do_77 (rdb (p := 0) (i := 16) ch_cX10_makeClick_0 rfl)
theorem dX10_makeClick_17 : decode cX10_makeClick 17 = .ok (.aload_n 2, 1) := do_44 (rdb (p := 0) (i := 17) ch_cX10_makeClick_0 rfl)
theorem dX10_makeClick_18 : decode cX10_makeClick 18 = .ok (.dup, 1) := do_89 (rdb (p := 0) (i := 18) ch_cX10_makeClick_0 rfl)
theorem dX10_makeClick_19 : decode cX10_makeClick 19 = .ok (.getfield 69, 3) := do_180 (rdb (p := 0) (i := 19) ch_cX10_makeClick_0 rfl) (rdb (p := 0) (i := 20) ch_cX10_makeClick_0 rfl) (rdb (p := 0) (i := 21) ch_cX10_makeClick_0 rfl) rfl
theorem dX10_makeClick_22 : decode cX10_makeClick 22 = .ok (.iconst 1, 1) := do_4 (rdb (p := 0) (i := 22) ch_cX10_makeClick_0 rfl)
theorem dX10_makeClick_23 : decode cX10_makeClick 23 = .ok (.iadd, 1) := do_96 (rdb (p := 0) (i := 23) ch_cX10_makeClick_0 rfl)
theorem dX10_makeClick_24 : decode cX10_makeClick 24 = .ok (.putfield 69, 3) := do_181 (rdb (p := 0) (i := 24) ch_cX10_makeClick_0 rfl) (rdb (p := 0) (i := 25) ch_cX10_makeClick_0 rfl) (rdb (p := 0) (i := 26) ch_cX10_makeClick_0 rfl) rfl
theorem dX10_makeClick_27 : decode cX10_makeClick 27 = .ok (.iconst 0, 1) := do_3 (rdb (p := 0) (i := 27) ch_cX10_makeClick_0 rfl)
theorem dX10_makeClick_28 : decode cX10_makeClick 28 = .ok (.istore_n 3, 1) := do_62 (rdb (p := 0) (i := 28) ch_cX10_makeClick_0 rfl)
theorem dX10_makeClick_29 : decode cX10_makeClick 29 = .ok (.iconst 0, 1) := do_3 (rdb (p := 0) (i := 29) ch_cX10_makeClick_0 rfl)
theorem dX10_makeClick_30 : decode cX10_makeClick 30 = .ok (.istore 4, 2) := do_54 (rdb (p := 0) (i := 30) ch_cX10_makeClick_0 rfl) (rdb (p := 0) (i := 31) ch_cX10_makeClick_0 rfl)
theorem ch_cX10_makeClick_32 : (cX10_makeClick.data.toList.drop 32).take 36 = [21, 4, 16, 8, 162, 0, 77, 42, 27, 44, 180, 0, 109, 21, 4, 182, 0, 126, 54, 5, 21, 5, 158, 0, 22, 132, 3, 1, 44, 44, 180, 0, 109, 21, 4, 21] := by decide +kernel
theorem dX10_makeClick_32 : decode cX10_makeClick 32 = .ok (.iload 4, 2) := do_21 (rdb (p := 32) (i := 0) ch_cX10_makeClick_32 rfl) (rdb (p := 32) (i := 1) ch_cX10_makeClick_32 rfl)
theorem dX10_makeClick_34 : decode cX10_makeClick 34 = .ok (.bipush 8, 2) := do_16 (rdb (p := 32) (i := 2) ch_cX10_makeClick_32 rfl) (rdb (p := 32) (i := 3) ch_cX10_makeClick_32 rfl) (by decide +kernel)
theorem dX10_makeClick_36 : decode cX10_makeClick 36 = .ok (.if_icmp .ge 77, 3) := do_162 (rdb (p := 32) (i := 4) ch_cX10_makeClick_32 rfl) (rdb (p := 32) (i := 5) ch_cX10_makeClick_32 rfl) (rdb (p := 32) (i := 6) ch_cX10_makeClick_32 rfl) (by decide +kernel)
theorem dX10_makeClick_39 : decode cX10_makeClick 39 = .ok (.aload_n 0, 1) := do_42 (rdb (p := 32) (i := 7) ch_cX10_makeClick_32 rfl)
theorem dX10_makeClick_40 : decode cX10_makeClick 40 = .ok (.iload_n 1, 1) := do_27 (rdb (p := 32) (i := 8) ch_cX10_makeClick_32 rfl)
theorem dX10_makeClick_41 : decode cX10_makeClick 41 = .ok (.aload_n 2, 1) := do_44 (rdb (p := 32) (i := 9) ch_cX10_makeClick_32 rfl)
theorem dX10_makeClick_42 : decode cX10_makeClick 42 = .ok (.getfield 109, 3) := do_180 (rdb (p := 32) (i := 10) ch_cX10_makeClick_32 rfl) (rdb (p := 32) (i := 11) ch_cX10_makeClick_32 rfl) (rdb (p := 32) (i := 12) ch_cX10_makeClick_32 rfl) rfl
theorem dX10_makeClick_45 : decode cX10_makeClick 45 = .ok (.iload 4, 2) := do_21 (rdb (p := 32) (i := 13) ch_cX10_makeClick_32 rfl) (rdb (p := 32) (i := 14) ch_cX10_makeClick_32 rfl)
theorem dX10_makeClick_47 : decode cX10_makeClick 47 = .ok (.invokevirtual 126, 3) := do_182 (rdb (p := 32) (i := 15) ch_cX10_makeClick_32 rfl) (rdb (p := 32) (i := 16) ch_cX10_makeClick_32 rfl) (rdb (p := 32) (i := 17) ch_cX10_makeClick_32 rfl) rfl
theorem dX10_makeClick_50 : decode cX10_makeClick 50 = .ok (.istore 5, 2) := do_54 (rdb (p := 32) (i := 18) ch_cX10_makeClick_32 rfl) (rdb (p := 32) (i := 19) ch_cX10_makeClick_32 rfl)
theorem dX10_makeClick_52 : decode cX10_makeClick 52 = .ok (.iload 5, 2) := do_21 (rdb (p := 32) (i := 20) ch_cX10_makeClick_32 rfl) (rdb (p := 32) (i := 21) ch_cX10_makeClick_32 rfl)
theorem dX10_makeClick_54 : decode cX10_makeClick 54 = .ok (.ifCond .le 22, 3) := do_158 (rdb (p := 32) (i := 22) ch_cX10_makeClick_32 rfl) (rdb (p := 32) (i := 23) ch_cX10_makeClick_32 rfl) (rdb (p := 32) (i := 24) ch_cX10_makeClick_32 rfl) (by decide +kernel)
theorem dX10_makeClick_57 : decode cX10_makeClick 57 = .ok (.iinc 3 1, 3) := do_132 (rdb (p := 32) (i := 25) ch_cX10_makeClick_32 rfl) (rdb (p := 32) (i := 26) ch_cX10_makeClick_32 rfl) (rdb (p := 32) (i := 27) ch_cX10_makeClick_32 rfl) (by decide +kernel)
theorem dX10_makeClick_60 : decode cX10_makeClick 60 = .ok (.aload_n 2, 1) := do_44 (rdb (p := 32) (i := 28) ch_cX10_makeClick_32 rfl)
theorem dX10_makeClick_61 : decode cX10_makeClick 61 = .ok (.aload_n 2, 1) := do_44 (rdb (p := 32) (i := 29) ch_cX10_makeClick_32 rfl)
theorem dX10_makeClick_62 : decode cX10_makeClick 62 = .ok (.getfield 109, 3) := do_180 (rdb (p := 32) (i := 30) ch_cX10_makeClick_32 rfl) (rdb (p := 32) (i := 31) ch_cX10_makeClick_32 rfl) (rdb (p := 32) (i := 32) ch_cX10_makeClick_32 rfl) rfl
theorem ch_cX10_makeClick_64 : (cX10_makeClick.data.toList.drop 64).take 36 = [109, 21, 4, 21, 5, 184, 0, 84, 4, 182, 0, 129, 4, 54, 6, 21, 6, 21, 5, 162, 0, 24, 44, 44, 180, 0, 109, 21, 4, 21, 6, 184, 0, 84, 182, 0] := by decide +kernel
theorem dX10_makeClick_65 : decode cX10_makeClick 65 = .ok (.iload 4, 2) := do_21 (rdb (p := 64) (i := 1) ch_cX10_makeClick_64 rfl) (rdb (p := 64) (i := 2) ch_cX10_makeClick_64 rfl)
theorem dX10_makeClick_67 : decode cX10_makeClick 67 = .ok (.iload 5, 2) := do_21 (rdb (p := 64) (i := 3) ch_cX10_makeClick_64 rfl) (rdb (p := 64) (i := 4) ch_cX10_makeClick_64 rfl)
theorem dX10_makeClick_69 : decode cX10_makeClick 69 = .ok (.invokestatic 84, 3) := do_184 (rdb (p := 64) (i := 5) ch_cX10_makeClick_64 rfl) (rdb (p := 64) (i := 6) ch_cX10_makeClick_64 rfl) (rdb (p := 64) (i := 7) ch_cX10_makeClick_64 rfl) rfl
theorem dX10_makeClick_72 : decode cX10_makeClick 72 = .ok (.iconst 1, 1) := do_4 (rdb (p := 64) (i := 8) ch_cX10_makeClick_64 rfl)
theorem dX10_makeClick_73 : decode cX10_makeClick 73 = .ok (.invokevirtual 129, 3) := do_182 (rdb (p := 64) (i := 9) ch_cX10_makeClick_64 rfl) (rdb (p := 64) (i := 10) ch_cX10_makeClick_64 rfl) (rdb (p := 64) (i := 11) ch_cX10_makeClick_64 rfl) rfl
theorem dX10_makeClick_76 : decode cX10_makeClick 76 = .ok (.iconst 1, 1) := do_4 (rdb (p := 64) (i := 12) ch_cX10_makeClick_64 rfl)
theorem dX10_makeClick_77 : decode cX10_makeClick 77 = .ok (.istore 6, 2) := do_54 (rdb (p := 64) (i := 13) ch_cX10_makeClick_64 rfl) (rdb (p := 64) (i := 14) ch_cX10_makeClick_64 rfl)
theorem dX10_makeClick_79 : decode cX10_makeClick 79 = .ok (.iload 6, 2) := do_21 (rdb (p := 64) (i := 15) ch_cX10_makeClick_64 rfl) (rdb (p := 64) (i := 16) ch_cX10_makeClick_64 rfl)
theorem dX10_makeClick_81 : decode cX10_makeClick 81 = .ok (.iload 5, 2) := do_21 (rdb (p := 64) (i := 17) ch_cX10_makeClick_64 rfl) (rdb (p := 64) (i := 18) ch_cX10_makeClick_64 rfl)
theorem dX10_makeClick_83 : decode cX10_makeClick 83 = .ok (.if_icmp .ge 24, 3) := do_162 (rdb (p := 64) (i := 19) ch_cX10_makeClick_64 rfl) (rdb (p := 64) (i := 20) ch_cX10_makeClick_64 rfl) (rdb (p := 64) (i := 21) ch_cX10_makeClick_64 rfl) (by decide +kernel)
theorem dX10_makeClick_86 : decode cX10_makeClick 86 = .ok (.aload_n 2, 1) := do_44 (rdb (p := 64) (i := 22) ch_cX10_makeClick_64 rfl)
theorem dX10_makeClick_87 : decode cX10_makeClick 87 = .ok (.aload_n 2, 1) := do_44 (rdb (p := 64) (i := 23) ch_cX10_makeClick_64 rfl)
theorem dX10_makeClick_88 : decode cX10_makeClick 88 = .ok (.getfield 109, 3) := do_180 (rdb (p := 64) (i := 24) ch_cX10_makeClick_64 rfl) (rdb (p := 64) (i := 25) ch_cX10_makeClick_64 rfl) (rdb (p := 64) (i := 26) ch_cX10_makeClick_64 rfl) rfl
theorem dX10_makeClick_91 : decode cX10_makeClick 91 = .ok (.iload 4, 2) := do_21 (rdb (p := 64) (i := 27) ch_cX10_makeClick_64 rfl) (rdb (p := 64) (i := 28) ch_cX10_makeClick_64 rfl)
theorem dX10_makeClick_93 : decode cX10_makeClick 93 = .ok (.iload 6, 2) := do_21 (rdb (p := 64) (i := 29) ch_cX10_makeClick_64 rfl) (rdb (p := 64) (i := 30) ch_cX10_makeClick_64 rfl)
theorem dX10_makeClick_95 : decode cX10_makeClick 95 = .ok (.invokestatic 84, 3) := do_184 (rdb (p := 64) (i := 31) ch_cX10_makeClick_64 rfl) (rdb (p := 64) (i := 32) ch_cX10_makeClick_64 rfl) (rdb (p := 64) (i := 33) ch_cX10_makeClick_64 rfl) rfl
theorem ch_cX10_makeClick_96 : (cX10_makeClick.data.toList.drop 96).take 36 = [0, 84, 182, 0, 132, 132, 6, 1, 167, 255, 231, 132, 4, 1, 167, 255, 178, 29, 172] := by decide +kernel
theorem dX10_makeClick_98 : decode cX10_makeClick 98 = .ok (.invokevirtual 132, 3) := do_182 (rdb (p := 96) (i := 2) ch_cX10_makeClick_96 rfl) (rdb (p := 96) (i := 3) ch_cX10_makeClick_96 rfl) (rdb (p := 96) (i := 4) ch_cX10_makeClick_96 rfl) rfl
theorem dX10_makeClick_101 : decode cX10_makeClick 101 = .ok (.iinc 6 1, 3) := do_132 (rdb (p := 96) (i := 5) ch_cX10_makeClick_96 rfl) (rdb (p := 96) (i := 6) ch_cX10_makeClick_96 rfl) (rdb (p := 96) (i := 7) ch_cX10_makeClick_96 rfl) (by decide +kernel)
theorem dX10_makeClick_104 : decode cX10_makeClick 104 = .ok (.goto (-25), 3) := do_167 (rdb (p := 96) (i := 8) ch_cX10_makeClick_96 rfl) (rdb (p := 96) (i := 9) ch_cX10_makeClick_96 rfl) (rdb (p := 96) (i := 10) ch_cX10_makeClick_96 rfl) (by decide +kernel)
theorem dX10_makeClick_107 : decode cX10_makeClick 107 = .ok (.iinc 4 1, 3) := do_132 (rdb (p := 96) (i := 11) ch_cX10_makeClick_96 rfl) (rdb (p := 96) (i := 12) ch_cX10_makeClick_96 rfl) (rdb (p := 96) (i := 13) ch_cX10_makeClick_96 rfl) (by decide +kernel)
theorem dX10_makeClick_110 : decode cX10_makeClick 110 = .ok (.goto (-78), 3) := do_167 (rdb (p := 96) (i := 14) ch_cX10_makeClick_96 rfl) (rdb (p := 96) (i := 15) ch_cX10_makeClick_96 rfl) (rdb (p := 96) (i := 16) ch_cX10_makeClick_96 rfl) (by decide +kernel)
theorem dX10_makeClick_113 : decode cX10_makeClick 113 = .ok (.iload_n 3, 1) := do_29 (rdb (p := 96) (i := 17) ch_cX10_makeClick_96 rfl)
theorem dX10_makeClick_114 : decode cX10_makeClick 114 = .ok (.ireturn, 1) := do_172 (rdb (p := 96) (i := 18) ch_cX10_makeClick_96 rfl)
theorem ch_cX10_passTenth_0 : (cX10_passTenth.data.toList.drop 0).take 36 = [42, 89, 180, 0, 54, 4, 96, 181, 0, 54, 42, 180, 0, 10, 42, 180, 0, 54, 182, 0, 141, 3, 60, 27, 42, 180, 0, 50, 162, 0, 32, 27, 16, 8, 162, 0] := by decide +kernel
theorem dX10_passTenth_0 : decode cX10_passTenth 0 = .ok (.aload_n 0, 1) := do_42 (rdb (p := 0) (i := 0) ch_cX10_passTenth_0 rfl)
theorem dX10_passTenth_1 : decode cX10_passTenth 1 = .ok (.dup, 1) := do_89 (rdb (p := 0) (i := 1) ch_cX10_passTenth_0 rfl)
theorem dX10_passTenth_2 : decode cX10_passTenth 2 = .ok (.getfield 54, 3) := do_180 (rdb (p := 0) (i := 2) ch_cX10_passTenth_0 rfl) (rdb (p := 0) (i := 3) ch_cX10_passTenth_0 rfl) (rdb (p := 0) (i := 4) ch_cX10_passTenth_0 rfl) rfl
theorem dX10_passTenth_5 : decode cX10_passTenth 5 = .ok (.iconst 1, 1) := do_4 (rdb (p := 0) (i := 5) ch_cX10_passTenth_0 rfl)
theorem dX10_passTenth_6 : decode cX10_passTenth 6 = .ok (.iadd, 1) := do_96 (rdb (p := 0) (i := 6) ch_cX10_passTenth_0 rfl)
theorem dX10_passTenth_7 : decode cX10_passTenth 7 = .ok (.putfield 54, 3) := do_181 (rdb (p := 0) (i := 7) ch_cX10_passTenth_0 rfl) (rdb (p := 0) (i := 8) ch_cX10_passTenth_0 rfl) (rdb (p := 0) (i := 9) ch_cX10_passTenth_0 rfl) rfl
theorem dX10_passTenth_10 : decode cX10_passTenth 10 = .ok (.aload_n 0, 1) := do_42 (rdb (p := 0) (i := 10) ch_cX10_passTenth_0 rfl)
theorem dX10_passTenth_11 : decode cX10_passTenth 11 = .ok (.getfield 10, 3) := do_180 (rdb (p := 0) (i := 11) ch_cX10_passTenth_0 rfl) (rdb (p := 0) (i := 12) ch_cX10_passTenth_0 rfl) (rdb (p := 0) (i := 13) ch_cX10_passTenth_0 rfl) rfl
theorem dX10_passTenth_14 : decode cX10_passTenth 14 = .ok (.aload_n 0, 1) := do_42 (rdb (p := 0) (i := 14) ch_cX10_passTenth_0 rfl)
theorem dX10_passTenth_15 : decode cX10_passTenth 15 = .ok (.getfield 54, 3) := do_180 (rdb (p := 0) (i := 15) ch_cX10_passTenth_0 rfl) (rdb (p := 0) (i := 16) ch_cX10_passTenth_0 rfl) (rdb (p := 0) (i := 17) ch_cX10_passTenth_0 rfl) rfl
theorem dX10_passTenth_18 : decode cX10_passTenth 18 = .ok (.invokevirtual 141, 3) := do_182 (rdb (p := 0) (i := 18) ch_cX10_passTenth_0 rfl) (rdb (p := 0) (i := 19) ch_cX10_passTenth_0 rfl) (rdb (p := 0) (i := 20) ch_cX10_passTenth_0 rfl) rfl
theorem dX10_passTenth_21 : decode cX10_passTenth 21 = .ok (.iconst 0, 1) := do_3 (rdb (p := 0) (i := 21) ch_cX10_passTenth_0 rfl)
theorem dX10_passTenth_22 : decode cX10_passTenth 22 = .ok (.istore_n 1, 1) := do_60 (rdb (p := 0) (i := 22) ch_cX10_passTenth_0 rfl)
theorem dX10_passTenth_23 : decode cX10_passTenth 23 = .ok (.iload_n 1, 1) := do_27 (rdb (p := 0) (i := 23) ch_cX10_passTenth_0 rfl)
theorem dX10_passTenth_24 : decode cX10_passTenth 24 = .ok (.aload_n 0, 1) := do_42 (rdb (p := 0) (i := 24) ch_cX10_passTenth_0 rfl)
theorem dX10_passTenth_25 : decode cX10_passTenth 25 = .ok (.getfield 50, 3) := do_180 (rdb (p := 0) (i := 25) ch_cX10_passTenth_0 rfl) (rdb (p := 0) (i := 26) ch_cX10_passTenth_0 rfl) (rdb (p := 0) (i := 27) ch_cX10_passTenth_0 rfl) rfl
theorem dX10_passTenth_28 : decode cX10_passTenth 28 = .ok (.if_icmp .ge 32, 3) := do_162 (rdb (p := 0) (i := 28) ch_cX10_passTenth_0 rfl) (rdb (p := 0) (i := 29) ch_cX10_passTenth_0 rfl) (rdb (p := 0) (i := 30) ch_cX10_passTenth_0 rfl) (by decide +kernel)
theorem dX10_passTenth_31 : decode cX10_passTenth 31 = .ok (.iload_n 1, 1) := do_27 (rdb (p := 0) (i := 31) ch_cX10_passTenth_0 rfl)
theorem ch_cX10_passTenth_32 : (cX10_passTenth.data.toList.drop 32).take 36 = [16, 8, 162, 0, 26, 42, 180, 0, 46, 27, 50, 180, 0, 144, 153, 0, 8, 42, 27, 182, 0, 148, 132, 1, 1, 167, 255, 222, 177] := by decide +kernel
theorem dX10_passTenth_32 : decode cX10_passTenth 32 = .ok (.bipush 8, 2) := do_16 (rdb (p := 32) (i := 0) ch_cX10_passTenth_32 rfl) (rdb (p := 32) (i := 1) ch_cX10_passTenth_32 rfl) (by decide +kernel)
theorem dX10_passTenth_34 : decode cX10_passTenth 34 = .ok (.if_icmp .ge 26, 3) := do_162 (rdb (p := 32) (i := 2) ch_cX10_passTenth_32 rfl) (rdb (p := 32) (i := 3) ch_cX10_passTenth_32 rfl) (rdb (p := 32) (i := 4) ch_cX10_passTenth_32 rfl) (by decide +kernel)
theorem dX10_passTenth_37 : decode cX10_passTenth 37 = .ok (.aload_n 0, 1) := do_42 (rdb (p := 32) (i := 5) ch_cX10_passTenth_32 rfl)
theorem dX10_passTenth_38 : decode cX10_passTenth 38 = .ok (.getfield 46, 3) := do_180 (rdb (p := 32) (i := 6) ch_cX10_passTenth_32 rfl) (rdb (p := 32) (i := 7) ch_cX10_passTenth_32 rfl) (rdb (p := 32) (i := 8) ch_cX10_passTenth_32 rfl) rfl
theorem dX10_passTenth_41 : decode cX10_passTenth 41 = .ok (.iload_n 1, 1) := do_27 (rdb (p := 32) (i := 9) ch_cX10_passTenth_32 rfl)
theorem dX10_passTenth_42 : decode cX10_passTenth 42 = .ok (.aaload, 1) := do_50 (rdb (p := 32) (i := 10) ch_cX10_passTenth_32 rfl)
theorem dX10_passTenth_43 : decode cX10_passTenth 43 = .ok (.getfield 144, 3) := do_180 (rdb (p := 32) (i := 11) ch_cX10_passTenth_32 rfl) (rdb (p := 32) (i := 12) ch_cX10_passTenth_32 rfl) (rdb (p := 32) (i := 13) ch_cX10_passTenth_32 rfl) rfl
theorem dX10_passTenth_46 : decode cX10_passTenth 46 = .ok (.ifCond .eq 8, 3) := do_153 (rdb (p := 32) (i := 14) ch_cX10_passTenth_32 rfl) (rdb (p := 32) (i := 15) ch_cX10_passTenth_32 rfl) (rdb (p := 32) (i := 16) ch_cX10_passTenth_32 rfl) (by decide +kernel)
theorem dX10_passTenth_49 : decode cX10_passTenth 49 = .ok (.aload_n 0, 1) := do_42 (rdb (p := 32) (i := 17) ch_cX10_passTenth_32 rfl)
theorem dX10_passTenth_50 : decode cX10_passTenth 50 = .ok (.iload_n 1, 1) := do_27 (rdb (p := 32) (i := 18) ch_cX10_passTenth_32 rfl)
theorem dX10_passTenth_51 : decode cX10_passTenth 51 = .ok (.invokevirtual 148, 3) := do_182 (rdb (p := 32) (i := 19) ch_cX10_passTenth_32 rfl) (rdb (p := 32) (i := 20) ch_cX10_passTenth_32 rfl) (rdb (p := 32) (i := 21) ch_cX10_passTenth_32 rfl) rfl
theorem dX10_passTenth_54 : decode cX10_passTenth 54 = .ok (.iinc 1 1, 3) := do_132 (rdb (p := 32) (i := 22) ch_cX10_passTenth_32 rfl) (rdb (p := 32) (i := 23) ch_cX10_passTenth_32 rfl) (rdb (p := 32) (i := 24) ch_cX10_passTenth_32 rfl) (by decide +kernel)
theorem dX10_passTenth_57 : decode cX10_passTenth 57 = .ok (.goto (-34), 3) := do_167 (rdb (p := 32) (i := 25) ch_cX10_passTenth_32 rfl) (rdb (p := 32) (i := 26) ch_cX10_passTenth_32 rfl) (rdb (p := 32) (i := 27) ch_cX10_passTenth_32 rfl) (by decide +kernel)
theorem dX10_passTenth_60 : decode cX10_passTenth 60 = .ok (.return_, 1) := do_177 (rdb (p := 32) (i := 28) ch_cX10_passTenth_32 rfl)
theorem ch_cX10_sureYards_0 : (cX10_sureYards.data.toList.drop 0).take 36 = [42, 27, 182, 0, 76, 154, 0, 5, 3, 172, 42, 180, 0, 46, 27, 50, 77, 42, 27, 44, 180, 0, 109, 44, 180, 0, 119, 182, 0, 126, 62, 29, 158, 0, 9, 29] := by decide +kernel
theorem dX10_sureYards_0 : decode cX10_sureYards 0 = .ok (.aload_n 0, 1) := do_42 (rdb (p := 0) (i := 0) ch_cX10_sureYards_0 rfl)
theorem dX10_sureYards_1 : decode cX10_sureYards 1 = .ok (.iload_n 1, 1) := do_27 (rdb (p := 0) (i := 1) ch_cX10_sureYards_0 rfl)
theorem dX10_sureYards_2 : decode cX10_sureYards 2 = .ok (.invokevirtual 76, 3) := do_182 (rdb (p := 0) (i := 2) ch_cX10_sureYards_0 rfl) (rdb (p := 0) (i := 3) ch_cX10_sureYards_0 rfl) (rdb (p := 0) (i := 4) ch_cX10_sureYards_0 rfl) rfl
theorem dX10_sureYards_5 : decode cX10_sureYards 5 = .ok (.ifCond .ne 5, 3) := do_154 (rdb (p := 0) (i := 5) ch_cX10_sureYards_0 rfl) (rdb (p := 0) (i := 6) ch_cX10_sureYards_0 rfl) (rdb (p := 0) (i := 7) ch_cX10_sureYards_0 rfl) (by decide +kernel)
theorem dX10_sureYards_8 : decode cX10_sureYards 8 = .ok (.iconst 0, 1) := do_3 (rdb (p := 0) (i := 8) ch_cX10_sureYards_0 rfl)
theorem dX10_sureYards_9 : decode cX10_sureYards 9 = .ok (.ireturn, 1) := do_172 (rdb (p := 0) (i := 9) ch_cX10_sureYards_0 rfl)
theorem dX10_sureYards_10 : decode cX10_sureYards 10 = .ok (.aload_n 0, 1) := do_42 (rdb (p := 0) (i := 10) ch_cX10_sureYards_0 rfl)
theorem dX10_sureYards_11 : decode cX10_sureYards 11 = .ok (.getfield 46, 3) := do_180 (rdb (p := 0) (i := 11) ch_cX10_sureYards_0 rfl) (rdb (p := 0) (i := 12) ch_cX10_sureYards_0 rfl) (rdb (p := 0) (i := 13) ch_cX10_sureYards_0 rfl) rfl
theorem dX10_sureYards_14 : decode cX10_sureYards 14 = .ok (.iload_n 1, 1) := do_27 (rdb (p := 0) (i := 14) ch_cX10_sureYards_0 rfl)
theorem dX10_sureYards_15 : decode cX10_sureYards 15 = .ok (.aaload, 1) := do_50 (rdb (p := 0) (i := 15) ch_cX10_sureYards_0 rfl)
theorem dX10_sureYards_16 : decode cX10_sureYards 16 = .ok (.astore_n 2, 1) := do_77 (rdb (p := 0) (i := 16) ch_cX10_sureYards_0 rfl)
theorem dX10_sureYards_17 : decode cX10_sureYards 17 = .ok (.aload_n 0, 1) := do_42 (rdb (p := 0) (i := 17) ch_cX10_sureYards_0 rfl)
theorem dX10_sureYards_18 : decode cX10_sureYards 18 = .ok (.iload_n 1, 1) := do_27 (rdb (p := 0) (i := 18) ch_cX10_sureYards_0 rfl)
theorem dX10_sureYards_19 : decode cX10_sureYards 19 = .ok (.aload_n 2, 1) := do_44 (rdb (p := 0) (i := 19) ch_cX10_sureYards_0 rfl)
theorem dX10_sureYards_20 : decode cX10_sureYards 20 = .ok (.getfield 109, 3) := do_180 (rdb (p := 0) (i := 20) ch_cX10_sureYards_0 rfl) (rdb (p := 0) (i := 21) ch_cX10_sureYards_0 rfl) (rdb (p := 0) (i := 22) ch_cX10_sureYards_0 rfl) rfl
theorem dX10_sureYards_23 : decode cX10_sureYards 23 = .ok (.aload_n 2, 1) := do_44 (rdb (p := 0) (i := 23) ch_cX10_sureYards_0 rfl)
theorem dX10_sureYards_24 : decode cX10_sureYards 24 = .ok (.getfield 119, 3) := do_180 (rdb (p := 0) (i := 24) ch_cX10_sureYards_0 rfl) (rdb (p := 0) (i := 25) ch_cX10_sureYards_0 rfl) (rdb (p := 0) (i := 26) ch_cX10_sureYards_0 rfl) rfl
theorem dX10_sureYards_27 : decode cX10_sureYards 27 = .ok (.invokevirtual 126, 3) := do_182 (rdb (p := 0) (i := 27) ch_cX10_sureYards_0 rfl) (rdb (p := 0) (i := 28) ch_cX10_sureYards_0 rfl) (rdb (p := 0) (i := 29) ch_cX10_sureYards_0 rfl) rfl
theorem dX10_sureYards_30 : decode cX10_sureYards 30 = .ok (.istore_n 3, 1) := do_62 (rdb (p := 0) (i := 30) ch_cX10_sureYards_0 rfl)
theorem dX10_sureYards_31 : decode cX10_sureYards 31 = .ok (.iload_n 3, 1) := do_29 (rdb (p := 0) (i := 31) ch_cX10_sureYards_0 rfl)
theorem ch_cX10_sureYards_32 : (cX10_sureYards.data.toList.drop 32).take 36 = [158, 0, 9, 29, 4, 100, 167, 0, 7, 44, 182, 0, 138, 172] := by decide +kernel
theorem dX10_sureYards_32 : decode cX10_sureYards 32 = .ok (.ifCond .le 9, 3) := do_158 (rdb (p := 32) (i := 0) ch_cX10_sureYards_32 rfl) (rdb (p := 32) (i := 1) ch_cX10_sureYards_32 rfl) (rdb (p := 32) (i := 2) ch_cX10_sureYards_32 rfl) (by decide +kernel)
theorem dX10_sureYards_35 : decode cX10_sureYards 35 = .ok (.iload_n 3, 1) := do_29 (rdb (p := 32) (i := 3) ch_cX10_sureYards_32 rfl)
theorem dX10_sureYards_36 : decode cX10_sureYards 36 = .ok (.iconst 1, 1) := do_4 (rdb (p := 32) (i := 4) ch_cX10_sureYards_32 rfl)
theorem dX10_sureYards_37 : decode cX10_sureYards 37 = .ok (.isub, 1) := do_100 (rdb (p := 32) (i := 5) ch_cX10_sureYards_32 rfl)
theorem dX10_sureYards_38 : decode cX10_sureYards 38 = .ok (.goto 7, 3) := do_167 (rdb (p := 32) (i := 6) ch_cX10_sureYards_32 rfl) (rdb (p := 32) (i := 7) ch_cX10_sureYards_32 rfl) (rdb (p := 32) (i := 8) ch_cX10_sureYards_32 rfl) (by decide +kernel)
theorem dX10_sureYards_41 : decode cX10_sureYards 41 = .ok (.aload_n 2, 1) := do_44 (rdb (p := 32) (i := 9) ch_cX10_sureYards_32 rfl)
theorem dX10_sureYards_42 : decode cX10_sureYards 42 = .ok (.invokevirtual 138, 3) := do_182 (rdb (p := 32) (i := 10) ch_cX10_sureYards_32 rfl) (rdb (p := 32) (i := 11) ch_cX10_sureYards_32 rfl) (rdb (p := 32) (i := 12) ch_cX10_sureYards_32 rfl) rfl
theorem dX10_sureYards_45 : decode cX10_sureYards 45 = .ok (.ireturn, 1) := do_172 (rdb (p := 32) (i := 13) ch_cX10_sureYards_32 rfl)
theorem ch_cX10_takeFrom_0 : (cX10_takeFrom.data.toList.drop 0).take 36 = [42, 180, 0, 10, 43, 180, 0, 10, 182, 0, 184, 42, 180, 0, 19, 43, 180, 0, 19, 182, 0, 188, 42, 180, 0, 26, 43, 180, 0, 26, 182, 0, 191, 42, 180, 0] := by decide +kernel
theorem dX10_takeFrom_0 : decode cX10_takeFrom 0 = .ok (.aload_n 0, 1) := do_42 (rdb (p := 0) (i := 0) ch_cX10_takeFrom_0 rfl)
theorem dX10_takeFrom_1 : decode cX10_takeFrom 1 = .ok (.getfield 10, 3) := do_180 (rdb (p := 0) (i := 1) ch_cX10_takeFrom_0 rfl) (rdb (p := 0) (i := 2) ch_cX10_takeFrom_0 rfl) (rdb (p := 0) (i := 3) ch_cX10_takeFrom_0 rfl) rfl
theorem dX10_takeFrom_4 : decode cX10_takeFrom 4 = .ok (.aload_n 1, 1) := do_43 (rdb (p := 0) (i := 4) ch_cX10_takeFrom_0 rfl)
theorem dX10_takeFrom_5 : decode cX10_takeFrom 5 = .ok (.getfield 10, 3) := do_180 (rdb (p := 0) (i := 5) ch_cX10_takeFrom_0 rfl) (rdb (p := 0) (i := 6) ch_cX10_takeFrom_0 rfl) (rdb (p := 0) (i := 7) ch_cX10_takeFrom_0 rfl) rfl
theorem dX10_takeFrom_8 : decode cX10_takeFrom 8 = .ok (.invokevirtual 184, 3) := do_182 (rdb (p := 0) (i := 8) ch_cX10_takeFrom_0 rfl) (rdb (p := 0) (i := 9) ch_cX10_takeFrom_0 rfl) (rdb (p := 0) (i := 10) ch_cX10_takeFrom_0 rfl) rfl
theorem dX10_takeFrom_11 : decode cX10_takeFrom 11 = .ok (.aload_n 0, 1) := do_42 (rdb (p := 0) (i := 11) ch_cX10_takeFrom_0 rfl)
theorem dX10_takeFrom_12 : decode cX10_takeFrom 12 = .ok (.getfield 19, 3) := do_180 (rdb (p := 0) (i := 12) ch_cX10_takeFrom_0 rfl) (rdb (p := 0) (i := 13) ch_cX10_takeFrom_0 rfl) (rdb (p := 0) (i := 14) ch_cX10_takeFrom_0 rfl) rfl
theorem dX10_takeFrom_15 : decode cX10_takeFrom 15 = .ok (.aload_n 1, 1) := do_43 (rdb (p := 0) (i := 15) ch_cX10_takeFrom_0 rfl)
theorem dX10_takeFrom_16 : decode cX10_takeFrom 16 = .ok (.getfield 19, 3) := do_180 (rdb (p := 0) (i := 16) ch_cX10_takeFrom_0 rfl) (rdb (p := 0) (i := 17) ch_cX10_takeFrom_0 rfl) (rdb (p := 0) (i := 18) ch_cX10_takeFrom_0 rfl) rfl
theorem dX10_takeFrom_19 : decode cX10_takeFrom 19 = .ok (.invokevirtual 188, 3) := do_182 (rdb (p := 0) (i := 19) ch_cX10_takeFrom_0 rfl) (rdb (p := 0) (i := 20) ch_cX10_takeFrom_0 rfl) (rdb (p := 0) (i := 21) ch_cX10_takeFrom_0 rfl) rfl
theorem dX10_takeFrom_22 : decode cX10_takeFrom 22 = .ok (.aload_n 0, 1) := do_42 (rdb (p := 0) (i := 22) ch_cX10_takeFrom_0 rfl)
theorem dX10_takeFrom_23 : decode cX10_takeFrom 23 = .ok (.getfield 26, 3) := do_180 (rdb (p := 0) (i := 23) ch_cX10_takeFrom_0 rfl) (rdb (p := 0) (i := 24) ch_cX10_takeFrom_0 rfl) (rdb (p := 0) (i := 25) ch_cX10_takeFrom_0 rfl) rfl
theorem dX10_takeFrom_26 : decode cX10_takeFrom 26 = .ok (.aload_n 1, 1) := do_43 (rdb (p := 0) (i := 26) ch_cX10_takeFrom_0 rfl)
theorem dX10_takeFrom_27 : decode cX10_takeFrom 27 = .ok (.getfield 26, 3) := do_180 (rdb (p := 0) (i := 27) ch_cX10_takeFrom_0 rfl) (rdb (p := 0) (i := 28) ch_cX10_takeFrom_0 rfl) (rdb (p := 0) (i := 29) ch_cX10_takeFrom_0 rfl) rfl
theorem dX10_takeFrom_30 : decode cX10_takeFrom 30 = .ok (.invokevirtual 191, 3) := do_182 (rdb (p := 0) (i := 30) ch_cX10_takeFrom_0 rfl) (rdb (p := 0) (i := 31) ch_cX10_takeFrom_0 rfl) (rdb (p := 0) (i := 32) ch_cX10_takeFrom_0 rfl) rfl
theorem ch_cX10_takeFrom_32 : (cX10_takeFrom.data.toList.drop 32).take 36 = [191, 42, 180, 0, 37, 43, 180, 0, 37, 182, 0, 194, 42, 180, 0, 41, 43, 180, 0, 41, 182, 0, 194, 42, 43, 180, 0, 50, 181, 0, 50, 42, 43, 180, 0, 54] := by decide +kernel
theorem dX10_takeFrom_33 : decode cX10_takeFrom 33 = .ok (.aload_n 0, 1) := do_42 (rdb (p := 32) (i := 1) ch_cX10_takeFrom_32 rfl)
theorem dX10_takeFrom_34 : decode cX10_takeFrom 34 = .ok (.getfield 37, 3) := do_180 (rdb (p := 32) (i := 2) ch_cX10_takeFrom_32 rfl) (rdb (p := 32) (i := 3) ch_cX10_takeFrom_32 rfl) (rdb (p := 32) (i := 4) ch_cX10_takeFrom_32 rfl) rfl
theorem dX10_takeFrom_37 : decode cX10_takeFrom 37 = .ok (.aload_n 1, 1) := do_43 (rdb (p := 32) (i := 5) ch_cX10_takeFrom_32 rfl)
theorem dX10_takeFrom_38 : decode cX10_takeFrom 38 = .ok (.getfield 37, 3) := do_180 (rdb (p := 32) (i := 6) ch_cX10_takeFrom_32 rfl) (rdb (p := 32) (i := 7) ch_cX10_takeFrom_32 rfl) (rdb (p := 32) (i := 8) ch_cX10_takeFrom_32 rfl) rfl
theorem dX10_takeFrom_41 : decode cX10_takeFrom 41 = .ok (.invokevirtual 194, 3) := do_182 (rdb (p := 32) (i := 9) ch_cX10_takeFrom_32 rfl) (rdb (p := 32) (i := 10) ch_cX10_takeFrom_32 rfl) (rdb (p := 32) (i := 11) ch_cX10_takeFrom_32 rfl) rfl
theorem dX10_takeFrom_44 : decode cX10_takeFrom 44 = .ok (.aload_n 0, 1) := do_42 (rdb (p := 32) (i := 12) ch_cX10_takeFrom_32 rfl)
theorem dX10_takeFrom_45 : decode cX10_takeFrom 45 = .ok (.getfield 41, 3) := do_180 (rdb (p := 32) (i := 13) ch_cX10_takeFrom_32 rfl) (rdb (p := 32) (i := 14) ch_cX10_takeFrom_32 rfl) (rdb (p := 32) (i := 15) ch_cX10_takeFrom_32 rfl) rfl
theorem dX10_takeFrom_48 : decode cX10_takeFrom 48 = .ok (.aload_n 1, 1) := do_43 (rdb (p := 32) (i := 16) ch_cX10_takeFrom_32 rfl)
theorem dX10_takeFrom_49 : decode cX10_takeFrom 49 = .ok (.getfield 41, 3) := do_180 (rdb (p := 32) (i := 17) ch_cX10_takeFrom_32 rfl) (rdb (p := 32) (i := 18) ch_cX10_takeFrom_32 rfl) (rdb (p := 32) (i := 19) ch_cX10_takeFrom_32 rfl) rfl
theorem dX10_takeFrom_52 : decode cX10_takeFrom 52 = .ok (.invokevirtual 194, 3) := do_182 (rdb (p := 32) (i := 20) ch_cX10_takeFrom_32 rfl) (rdb (p := 32) (i := 21) ch_cX10_takeFrom_32 rfl) (rdb (p := 32) (i := 22) ch_cX10_takeFrom_32 rfl) rfl
theorem dX10_takeFrom_55 : decode cX10_takeFrom 55 = .ok (.aload_n 0, 1) := do_42 (rdb (p := 32) (i := 23) ch_cX10_takeFrom_32 rfl)
theorem dX10_takeFrom_56 : decode cX10_takeFrom 56 = .ok (.aload_n 1, 1) := do_43 (rdb (p := 32) (i := 24) ch_cX10_takeFrom_32 rfl)
theorem dX10_takeFrom_57 : decode cX10_takeFrom 57 = .ok (.getfield 50, 3) := do_180 (rdb (p := 32) (i := 25) ch_cX10_takeFrom_32 rfl) (rdb (p := 32) (i := 26) ch_cX10_takeFrom_32 rfl) (rdb (p := 32) (i := 27) ch_cX10_takeFrom_32 rfl) rfl
theorem dX10_takeFrom_60 : decode cX10_takeFrom 60 = .ok (.putfield 50, 3) := do_181 (rdb (p := 32) (i := 28) ch_cX10_takeFrom_32 rfl) (rdb (p := 32) (i := 29) ch_cX10_takeFrom_32 rfl) (rdb (p := 32) (i := 30) ch_cX10_takeFrom_32 rfl) rfl
theorem dX10_takeFrom_63 : decode cX10_takeFrom 63 = .ok (.aload_n 0, 1) := do_42 (rdb (p := 32) (i := 31) ch_cX10_takeFrom_32 rfl)
theorem ch_cX10_takeFrom_64 : (cX10_takeFrom.data.toList.drop 64).take 36 = [43, 180, 0, 54, 181, 0, 54, 3, 61, 28, 42, 180, 0, 50, 162, 0, 30, 28, 16, 8, 162, 0, 24, 42, 180, 0, 46, 28, 50, 43, 180, 0, 46, 28, 50, 182] := by decide +kernel
theorem dX10_takeFrom_64 : decode cX10_takeFrom 64 = .ok (.aload_n 1, 1) := do_43 (rdb (p := 64) (i := 0) ch_cX10_takeFrom_64 rfl)
theorem dX10_takeFrom_65 : decode cX10_takeFrom 65 = .ok (.getfield 54, 3) := do_180 (rdb (p := 64) (i := 1) ch_cX10_takeFrom_64 rfl) (rdb (p := 64) (i := 2) ch_cX10_takeFrom_64 rfl) (rdb (p := 64) (i := 3) ch_cX10_takeFrom_64 rfl) rfl
theorem dX10_takeFrom_68 : decode cX10_takeFrom 68 = .ok (.putfield 54, 3) := do_181 (rdb (p := 64) (i := 4) ch_cX10_takeFrom_64 rfl) (rdb (p := 64) (i := 5) ch_cX10_takeFrom_64 rfl) (rdb (p := 64) (i := 6) ch_cX10_takeFrom_64 rfl) rfl
theorem dX10_takeFrom_71 : decode cX10_takeFrom 71 = .ok (.iconst 0, 1) := do_3 (rdb (p := 64) (i := 7) ch_cX10_takeFrom_64 rfl)
theorem dX10_takeFrom_72 : decode cX10_takeFrom 72 = .ok (.istore_n 2, 1) := do_61 (rdb (p := 64) (i := 8) ch_cX10_takeFrom_64 rfl)
theorem dX10_takeFrom_73 : decode cX10_takeFrom 73 = .ok (.iload_n 2, 1) := do_28 (rdb (p := 64) (i := 9) ch_cX10_takeFrom_64 rfl)
theorem dX10_takeFrom_74 : decode cX10_takeFrom 74 = .ok (.aload_n 0, 1) := do_42 (rdb (p := 64) (i := 10) ch_cX10_takeFrom_64 rfl)
theorem dX10_takeFrom_75 : decode cX10_takeFrom 75 = .ok (.getfield 50, 3) := do_180 (rdb (p := 64) (i := 11) ch_cX10_takeFrom_64 rfl) (rdb (p := 64) (i := 12) ch_cX10_takeFrom_64 rfl) (rdb (p := 64) (i := 13) ch_cX10_takeFrom_64 rfl) rfl
theorem dX10_takeFrom_78 : decode cX10_takeFrom 78 = .ok (.if_icmp .ge 30, 3) := do_162 (rdb (p := 64) (i := 14) ch_cX10_takeFrom_64 rfl) (rdb (p := 64) (i := 15) ch_cX10_takeFrom_64 rfl) (rdb (p := 64) (i := 16) ch_cX10_takeFrom_64 rfl) (by decide +kernel)
theorem dX10_takeFrom_81 : decode cX10_takeFrom 81 = .ok (.iload_n 2, 1) := do_28 (rdb (p := 64) (i := 17) ch_cX10_takeFrom_64 rfl)
theorem dX10_takeFrom_82 : decode cX10_takeFrom 82 = .ok (.bipush 8, 2) := do_16 (rdb (p := 64) (i := 18) ch_cX10_takeFrom_64 rfl) (rdb (p := 64) (i := 19) ch_cX10_takeFrom_64 rfl) (by decide +kernel)
theorem dX10_takeFrom_84 : decode cX10_takeFrom 84 = .ok (.if_icmp .ge 24, 3) := do_162 (rdb (p := 64) (i := 20) ch_cX10_takeFrom_64 rfl) (rdb (p := 64) (i := 21) ch_cX10_takeFrom_64 rfl) (rdb (p := 64) (i := 22) ch_cX10_takeFrom_64 rfl) (by decide +kernel)
theorem dX10_takeFrom_87 : decode cX10_takeFrom 87 = .ok (.aload_n 0, 1) := do_42 (rdb (p := 64) (i := 23) ch_cX10_takeFrom_64 rfl)
theorem dX10_takeFrom_88 : decode cX10_takeFrom 88 = .ok (.getfield 46, 3) := do_180 (rdb (p := 64) (i := 24) ch_cX10_takeFrom_64 rfl) (rdb (p := 64) (i := 25) ch_cX10_takeFrom_64 rfl) (rdb (p := 64) (i := 26) ch_cX10_takeFrom_64 rfl) rfl
theorem dX10_takeFrom_91 : decode cX10_takeFrom 91 = .ok (.iload_n 2, 1) := do_28 (rdb (p := 64) (i := 27) ch_cX10_takeFrom_64 rfl)
theorem dX10_takeFrom_92 : decode cX10_takeFrom 92 = .ok (.aaload, 1) := do_50 (rdb (p := 64) (i := 28) ch_cX10_takeFrom_64 rfl)
theorem dX10_takeFrom_93 : decode cX10_takeFrom 93 = .ok (.aload_n 1, 1) := do_43 (rdb (p := 64) (i := 29) ch_cX10_takeFrom_64 rfl)
theorem dX10_takeFrom_94 : decode cX10_takeFrom 94 = .ok (.getfield 46, 3) := do_180 (rdb (p := 64) (i := 30) ch_cX10_takeFrom_64 rfl) (rdb (p := 64) (i := 31) ch_cX10_takeFrom_64 rfl) (rdb (p := 64) (i := 32) ch_cX10_takeFrom_64 rfl) rfl
theorem ch_cX10_takeFrom_96 : (cX10_takeFrom.data.toList.drop 96).take 36 = [46, 28, 50, 182, 0, 197, 132, 2, 1, 167, 255, 224, 177] := by decide +kernel
theorem dX10_takeFrom_97 : decode cX10_takeFrom 97 = .ok (.iload_n 2, 1) := do_28 (rdb (p := 96) (i := 1) ch_cX10_takeFrom_96 rfl)
theorem dX10_takeFrom_98 : decode cX10_takeFrom 98 = .ok (.aaload, 1) := do_50 (rdb (p := 96) (i := 2) ch_cX10_takeFrom_96 rfl)
theorem dX10_takeFrom_99 : decode cX10_takeFrom 99 = .ok (.invokevirtual 197, 3) := do_182 (rdb (p := 96) (i := 3) ch_cX10_takeFrom_96 rfl) (rdb (p := 96) (i := 4) ch_cX10_takeFrom_96 rfl) (rdb (p := 96) (i := 5) ch_cX10_takeFrom_96 rfl) rfl
theorem dX10_takeFrom_102 : decode cX10_takeFrom 102 = .ok (.iinc 2 1, 3) := do_132 (rdb (p := 96) (i := 6) ch_cX10_takeFrom_96 rfl) (rdb (p := 96) (i := 7) ch_cX10_takeFrom_96 rfl) (rdb (p := 96) (i := 8) ch_cX10_takeFrom_96 rfl) (by decide +kernel)
theorem dX10_takeFrom_105 : decode cX10_takeFrom 105 = .ok (.goto (-32), 3) := do_167 (rdb (p := 96) (i := 9) ch_cX10_takeFrom_96 rfl) (rdb (p := 96) (i := 10) ch_cX10_takeFrom_96 rfl) (rdb (p := 96) (i := 11) ch_cX10_takeFrom_96 rfl) (by decide +kernel)
theorem dX10_takeFrom_108 : decode cX10_takeFrom 108 = .ok (.return_, 1) := do_177 (rdb (p := 96) (i := 12) ch_cX10_takeFrom_96 rfl)
