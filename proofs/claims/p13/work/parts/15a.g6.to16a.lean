section
/-! words of the tables that are used, by their places; decode rows; fields -/
theorem m_14 : Cond.selects yX10_letWalkerGo.cls yX10_letWalkerGo yX10_letWalkerGo ∈ BASE := bmem 14 (by decide +kernel) rfl
theorem m_15 : Cond.selects yX10_goOn.cls yX10_goOn yX10_goOn ∈ BASE := bmem 15 (by decide +kernel) rfl
set_option maxRecDepth 20000 in
theorem m_80 : Cond.initialized RX10 ∈ BASE := bmT1 2 rfl rfl
set_option maxRecDepth 20000 in
theorem m_84 : Cond.initialized RX3 ∈ BASE := bmT1 6 rfl rfl
set_option maxRecDepth 20000 in
theorem m_309 : Cond.fieldLink RX10 10 "ClickStreet$World" "street" "LClickStreet$Street;" ∈ BASE := bmT1 231 rfl rfl
set_option maxRecDepth 20000 in
theorem m_312 : Cond.fieldLink RX10 19 "ClickStreet$World" "laws" "LClickStreet$Laws;" ∈ BASE := bmT1 234 rfl rfl
set_option maxRecDepth 20000 in
theorem m_315 : Cond.fieldLink RX10 26 "ClickStreet$World" "lessons" "LClickStreet$Lessons;" ∈ BASE := bmT1 237 rfl rfl
set_option maxRecDepth 20000 in
theorem m_317 : Cond.fieldLink RX10 37 "ClickStreet$World" "tape" "LClickStreet$Row;" ∈ BASE := bmT1 239 rfl rfl
set_option maxRecDepth 20000 in
theorem m_319 : Cond.fieldLink RX10 41 "ClickStreet$World" "waiting" "LClickStreet$Row;" ∈ BASE := bmT2 1 rfl rfl
set_option maxRecDepth 20000 in
theorem m_321 : Cond.fieldLink RX10 46 "ClickStreet$World" "walkers" "[LClickStreet$Walker;" ∈ BASE := bmT2 3 rfl rfl
set_option maxRecDepth 20000 in
theorem m_324 : Cond.fieldLink RX10 50 "ClickStreet$World" "walkerCount" "I" ∈ BASE := bmT2 6 rfl rfl
set_option maxRecDepth 20000 in
theorem m_326 : Cond.fieldLink RX10 54 "ClickStreet$World" "now" "I" ∈ BASE := bmT2 8 rfl rfl
set_option maxRecDepth 20000 in
theorem m_600 : Cond.methodLink RX10 58 yX9_begin ∈ BASE := bmT3 42 rfl rfl
set_option maxRecDepth 20000 in
theorem m_601 : Cond.instanceMethod yX9_begin ∈ BASE := bmT3 43 rfl rfl
set_option maxRecDepth 20000 in
theorem m_602 : Cond.selects yX9_begin.cls yX9_begin yX9_begin ∈ BASE := bmT3 44 rfl rfl
set_option maxRecDepth 20000 in
theorem m_603 : Cond.code yX9_begin cX9_begin 5 none ∈ BASE := bmT3 45 rfl rfl
set_option maxRecDepth 20000 in
theorem m_604 : Cond.methodLink RX10 62 yX7_settle ∈ BASE := bmT3 46 rfl rfl
set_option maxRecDepth 20000 in
theorem m_610 : Cond.instanceMethod yX10_hasWalker ∈ BASE := bmT3 52 rfl rfl
set_option maxRecDepth 20000 in
theorem m_611 : Cond.selects yX10_hasWalker.cls yX10_hasWalker yX10_hasWalker ∈ BASE := bmT3 53 rfl rfl
set_option maxRecDepth 20000 in
theorem m_612 : Cond.code yX10_hasWalker cX10_hasWalker 2 (some .boolean) ∈ BASE := bmT3 54 rfl rfl
set_option maxRecDepth 20000 in
theorem m_640 : Cond.instanceMethod yX9_isOf ∈ BASE := bmT3 82 rfl rfl
set_option maxRecDepth 20000 in
theorem m_641 : Cond.selects yX9_isOf.cls yX9_isOf yX9_isOf ∈ BASE := bmT3 83 rfl rfl
set_option maxRecDepth 20000 in
theorem m_642 : Cond.code yX9_isOf cX9_isOf 4 (some .boolean) ∈ BASE := bmT3 84 rfl rfl
set_option maxRecDepth 20000 in
theorem m_844 : Cond.instanceMethod yX10_echoYards ∈ BASE := bmT4 46 rfl rfl
set_option maxRecDepth 20000 in
theorem m_845 : Cond.selects yX10_echoYards.cls yX10_echoYards yX10_echoYards ∈ BASE := bmT4 47 rfl rfl
set_option maxRecDepth 20000 in
theorem m_846 : Cond.code yX10_echoYards cX10_echoYards 7 (some .int) ∈ BASE := bmT4 48 rfl rfl
set_option maxRecDepth 20000 in
theorem m_847 : Cond.methodLink RX10 76 yX10_hasWalker ∈ BASE := bmT4 49 rfl rfl
set_option maxRecDepth 20000 in
theorem m_848 : Cond.methodLink RX10 80 yX9_reach ∈ BASE := bmT4 50 rfl rfl
set_option maxRecDepth 20000 in
theorem m_849 : Cond.methodLink RX10 84 yX7_cellFrom ∈ BASE := bmT4 51 rfl rfl
set_option maxRecDepth 20000 in
theorem m_857 : Cond.methodLink RX10 88 yX10_isFreeBut ∈ BASE := bmT4 59 rfl rfl
set_option maxRecDepth 20000 in
theorem m_858 : Cond.instanceMethod yX10_isFreeBut ∈ BASE := bmT4 60 rfl rfl
set_option maxRecDepth 20000 in
theorem m_859 : Cond.selects yX10_isFreeBut.cls yX10_isFreeBut yX10_isFreeBut ∈ BASE := bmT4 61 rfl rfl
set_option maxRecDepth 20000 in
theorem m_860 : Cond.code yX10_isFreeBut cX10_isFreeBut 4 (some .boolean) ∈ BASE := bmT4 62 rfl rfl
set_option maxRecDepth 20000 in
theorem m_865 : Cond.methodLink RX10 92 yX10_echoYards ∈ BASE := bmT4 67 rfl rfl
set_option maxRecDepth 20000 in
theorem m_866 : Cond.methodLink RX10 112 yX2_late ∈ BASE := bmT4 68 rfl rfl
set_option maxRecDepth 20000 in
theorem m_869 : Cond.methodLink RX10 95 yX7_kindIn ∈ BASE := bmT4 71 rfl rfl
set_option maxRecDepth 20000 in
theorem m_870 : Cond.instanceMethod yX7_kindIn ∈ BASE := bmT4 72 rfl rfl
set_option maxRecDepth 20000 in
theorem m_871 : Cond.selects yX7_kindIn.cls yX7_kindIn yX7_kindIn ∈ BASE := bmT4 73 rfl rfl
set_option maxRecDepth 20000 in
theorem m_872 : Cond.code yX7_kindIn cX7_kindIn 3 (some .int) ∈ BASE := bmT4 74 rfl rfl
set_option maxRecDepth 20000 in
theorem m_873 : Cond.methodLink RX10 116 yX2_strength ∈ BASE := bmT4 75 rfl rfl
set_option maxRecDepth 20000 in
theorem m_887 : Cond.methodLink RX10 99 yX9_ears ∈ BASE := bmT4 89 rfl rfl
set_option maxRecDepth 20000 in
theorem m_888 : Cond.methodLink RX10 122 yX2_isHeard ∈ BASE := bmT4 90 rfl rfl
set_option maxRecDepth 20000 in
theorem m_897 : Cond.instanceMethod yX10_makeClick ∈ BASE := bmT4 99 rfl rfl
set_option maxRecDepth 20000 in
theorem m_898 : Cond.selects yX10_makeClick.cls yX10_makeClick yX10_makeClick ∈ BASE := bmT4 100 rfl rfl
set_option maxRecDepth 20000 in
theorem m_899 : Cond.code yX10_makeClick cX10_makeClick 7 (some .int) ∈ BASE := bmT4 101 rfl rfl
set_option maxRecDepth 20000 in
theorem m_900 : Cond.methodLink RX10 126 yX10_heardYards ∈ BASE := bmT4 102 rfl rfl
set_option maxRecDepth 20000 in
theorem m_901 : Cond.instanceMethod yX10_heardYards ∈ BASE := bmT4 103 rfl rfl
set_option maxRecDepth 20000 in
theorem m_902 : Cond.selects yX10_heardYards.cls yX10_heardYards yX10_heardYards ∈ BASE := bmT4 104 rfl rfl
set_option maxRecDepth 20000 in
theorem m_903 : Cond.code yX10_heardYards cX10_heardYards 7 (some .int) ∈ BASE := bmT4 105 rfl rfl
set_option maxRecDepth 20000 in
theorem m_904 : Cond.methodLink RX10 102 yX9_ownClick ∈ BASE := bmT4 106 rfl rfl
set_option maxRecDepth 20000 in
theorem m_905 : Cond.instanceMethod yX9_ownClick ∈ BASE := bmT4 107 rfl rfl
set_option maxRecDepth 20000 in
theorem m_906 : Cond.selects yX9_ownClick.cls yX9_ownClick yX9_ownClick ∈ BASE := bmT4 108 rfl rfl
set_option maxRecDepth 20000 in
theorem m_907 : Cond.code yX9_ownClick cX9_ownClick 1 (some .int) ∈ BASE := bmT4 109 rfl rfl
set_option maxRecDepth 20000 in
theorem m_908 : Cond.methodLink RX10 105 yX2_hears ∈ BASE := bmT4 110 rfl rfl
set_option maxRecDepth 20000 in
theorem m_915 : Cond.methodLink RX10 129 yX9_addYes ∈ BASE := bmT4 117 rfl rfl
set_option maxRecDepth 20000 in
theorem m_916 : Cond.instanceMethod yX9_addYes ∈ BASE := bmT4 118 rfl rfl
set_option maxRecDepth 20000 in
theorem m_917 : Cond.selects yX9_addYes.cls yX9_addYes yX9_addYes ∈ BASE := bmT4 119 rfl rfl
set_option maxRecDepth 20000 in
theorem m_918 : Cond.code yX9_addYes cX9_addYes 3 none ∈ BASE := bmT4 120 rfl rfl
set_option maxRecDepth 20000 in
theorem m_921 : Cond.methodLink RX10 132 yX9_addNo ∈ BASE := bmT4 123 rfl rfl
set_option maxRecDepth 20000 in
theorem m_922 : Cond.instanceMethod yX9_addNo ∈ BASE := bmT4 124 rfl rfl
set_option maxRecDepth 20000 in
theorem m_923 : Cond.selects yX9_addNo.cls yX9_addNo yX9_addNo ∈ BASE := bmT4 125 rfl rfl
set_option maxRecDepth 20000 in
theorem m_924 : Cond.code yX9_addNo cX9_addNo 2 none ∈ BASE := bmT4 126 rfl rfl
set_option maxRecDepth 20000 in
theorem m_941 : Cond.methodLink RX10 135 yX9_held ∈ BASE := bmT4 143 rfl rfl
set_option maxRecDepth 20000 in
theorem m_1029 : Cond.methodLink RX10 141 yX7_letThingsGo ∈ BASE := bmT4 231 rfl rfl
set_option maxRecDepth 20000 in
theorem m_1030 : Cond.instanceMethod yX7_letThingsGo ∈ BASE := bmT4 232 rfl rfl
set_option maxRecDepth 20000 in
theorem m_1031 : Cond.selects yX7_letThingsGo.cls yX7_letThingsGo yX7_letThingsGo ∈ BASE := bmT4 233 rfl rfl
set_option maxRecDepth 20000 in
theorem m_1032 : Cond.code yX7_letThingsGo cX7_letThingsGo 4 none ∈ BASE := bmT4 234 rfl rfl
set_option maxRecDepth 20000 in
theorem m_1039 : Cond.methodLink RX10 148 yX10_letWalkerGo ∈ BASE := bmT5 1 rfl rfl
set_option maxRecDepth 20000 in
theorem m_1041 : Cond.instanceMethod yX10_letWalkerGo ∈ BASE := bmT5 3 rfl rfl
set_option maxRecDepth 20000 in
theorem m_1042 : Cond.code yX10_letWalkerGo cX10_letWalkerGo 8 none ∈ BASE := bmT5 4 rfl rfl
set_option maxRecDepth 20000 in
theorem m_1043 : Cond.methodLink RX10 154 yX9_isOf ∈ BASE := bmT5 5 rfl rfl
set_option maxRecDepth 20000 in
theorem m_1044 : Cond.methodLink RX10 157 yX10_makeClick ∈ BASE := bmT5 6 rfl rfl
set_option maxRecDepth 20000 in
theorem m_1045 : Cond.methodLink RX10 160 yX9_yardsToFull ∈ BASE := bmT5 7 rfl rfl
set_option maxRecDepth 20000 in
theorem m_1046 : Cond.instanceMethod yX9_yardsToFull ∈ BASE := bmT5 8 rfl rfl
set_option maxRecDepth 20000 in
theorem m_1047 : Cond.selects yX9_yardsToFull.cls yX9_yardsToFull yX9_yardsToFull ∈ BASE := bmT5 9 rfl rfl
set_option maxRecDepth 20000 in
theorem m_1048 : Cond.code yX9_yardsToFull cX9_yardsToFull 3 (some .int) ∈ BASE := bmT5 10 rfl rfl
set_option maxRecDepth 20000 in
theorem m_1050 : Cond.methodLink RX10 163 yX2_habitValue ∈ BASE := bmT5 12 rfl rfl
set_option maxRecDepth 20000 in
theorem m_1051 : Cond.instanceMethod yX2_habitValue ∈ BASE := bmT5 13 rfl rfl
set_option maxRecDepth 20000 in
theorem m_1052 : Cond.selects yX2_habitValue.cls yX2_habitValue yX2_habitValue ∈ BASE := bmT5 14 rfl rfl
set_option maxRecDepth 20000 in
theorem m_1053 : Cond.code yX2_habitValue cX2_habitValue 6 (some .int) ∈ BASE := bmT5 15 rfl rfl
set_option maxRecDepth 20000 in
theorem m_1054 : Cond.methodLink RX10 167 yJM_floorMod ∈ BASE := bmT5 16 rfl rfl
set_option maxRecDepth 20000 in
theorem m_1055 : Cond.static yJM_floorMod ∈ BASE := bmT5 17 rfl rfl
set_option maxRecDepth 20000 in
theorem m_1056 : Cond.code yJM_floorMod cJM_floorMod 3 (some .int) ∈ BASE := bmT5 18 rfl rfl
set_option maxRecDepth 20000 in
theorem m_1057 : Cond.methodLink RX10 172 yX10_goOn ∈ BASE := bmT5 19 rfl rfl
set_option maxRecDepth 20000 in
theorem m_1059 : Cond.instanceMethod yX10_goOn ∈ BASE := bmT5 21 rfl rfl
set_option maxRecDepth 20000 in
theorem m_1060 : Cond.code yX10_goOn cX10_goOn 5 none ∈ BASE := bmT5 22 rfl rfl
set_option maxRecDepth 20000 in
theorem m_1061 : Cond.methodLink RX10 178 yX9_speed ∈ BASE := bmT5 23 rfl rfl
set_option maxRecDepth 20000 in
theorem m_1062 : Cond.methodLink RX10 181 yX7_isFree ∈ BASE := bmT5 24 rfl rfl
set_option maxRecDepth 20000 in
theorem m_1063 : Cond.methodLink RX10 175 yX9_turn ∈ BASE := bmT5 25 rfl rfl
set_option maxRecDepth 20000 in
theorem m_1064 : Cond.instanceMethod yX9_turn ∈ BASE := bmT5 26 rfl rfl
set_option maxRecDepth 20000 in
theorem m_1065 : Cond.selects yX9_turn.cls yX9_turn yX9_turn ∈ BASE := bmT5 27 rfl rfl
set_option maxRecDepth 20000 in
theorem m_1066 : Cond.code yX9_turn cX9_turn 2 none ∈ BASE := bmT5 28 rfl rfl
set_option maxRecDepth 20000 in
theorem m_1106 : Cond.methodLink RX10 138 yX9_yardsHeldFree ∈ BASE := bmT5 68 rfl rfl
set_option maxRecDepth 20000 in
theorem m_1107 : Cond.instanceMethod yX9_yardsHeldFree ∈ BASE := bmT5 69 rfl rfl
set_option maxRecDepth 20000 in
theorem m_1108 : Cond.selects yX9_yardsHeldFree.cls yX9_yardsHeldFree yX9_yardsHeldFree ∈ BASE := bmT5 70 rfl rfl
set_option maxRecDepth 20000 in
theorem m_1109 : Cond.code yX9_yardsHeldFree cX9_yardsHeldFree 2 (some .int) ∈ BASE := bmT5 71 rfl rfl
set_option maxRecDepth 20000 in
theorem m_1143 : Cond.instanceMethod yX5_takeFrom ∈ BASE := bmT5 105 rfl rfl
set_option maxRecDepth 20000 in
theorem m_1144 : Cond.selects yX5_takeFrom.cls yX5_takeFrom yX5_takeFrom ∈ BASE := bmT5 106 rfl rfl
set_option maxRecDepth 20000 in
theorem m_1145 : Cond.code yX5_takeFrom cX5_takeFrom 3 none ∈ BASE := bmT5 107 rfl rfl
set_option maxRecDepth 20000 in
theorem m_1258 : Cond.methodLink RX10 184 yX7_takeFrom ∈ BASE := bmT5 220 rfl rfl
set_option maxRecDepth 20000 in
theorem m_1259 : Cond.instanceMethod yX7_takeFrom ∈ BASE := bmT5 221 rfl rfl
set_option maxRecDepth 20000 in
theorem m_1260 : Cond.selects yX7_takeFrom.cls yX7_takeFrom yX7_takeFrom ∈ BASE := bmT5 222 rfl rfl
set_option maxRecDepth 20000 in
theorem m_1261 : Cond.code yX7_takeFrom cX7_takeFrom 2 none ∈ BASE := bmT5 223 rfl rfl
set_option maxRecDepth 20000 in
theorem m_1263 : Cond.methodLink RX10 188 yX2_takeFrom ∈ BASE := bmT5 225 rfl rfl
set_option maxRecDepth 20000 in
theorem m_1264 : Cond.instanceMethod yX2_takeFrom ∈ BASE := bmT5 226 rfl rfl
set_option maxRecDepth 20000 in
theorem m_1265 : Cond.selects yX2_takeFrom.cls yX2_takeFrom yX2_takeFrom ∈ BASE := bmT5 227 rfl rfl
set_option maxRecDepth 20000 in
theorem m_1266 : Cond.code yX2_takeFrom cX2_takeFrom 3 none ∈ BASE := bmT5 228 rfl rfl
set_option maxRecDepth 20000 in
theorem m_1269 : Cond.methodLink RX10 191 yX3_takeFrom ∈ BASE := bmT5 231 rfl rfl
set_option maxRecDepth 20000 in
theorem m_1270 : Cond.instanceMethod yX3_takeFrom ∈ BASE := bmT5 232 rfl rfl
set_option maxRecDepth 20000 in
theorem m_1271 : Cond.selects yX3_takeFrom.cls yX3_takeFrom yX3_takeFrom ∈ BASE := bmT5 233 rfl rfl
set_option maxRecDepth 20000 in
theorem m_1272 : Cond.code yX3_takeFrom cX3_takeFrom 2 none ∈ BASE := bmT5 234 rfl rfl
set_option maxRecDepth 20000 in
theorem m_1274 : Cond.methodLink RX10 194 yX5_takeFrom ∈ BASE := bmT5 236 rfl rfl
set_option maxRecDepth 20000 in
theorem m_1275 : Cond.methodLink RX10 197 yX9_takeFrom ∈ BASE := bmT5 237 rfl rfl
set_option maxRecDepth 20000 in
theorem m_1276 : Cond.instanceMethod yX9_takeFrom ∈ BASE := bmT5 238 rfl rfl
set_option maxRecDepth 20000 in
theorem m_1277 : Cond.selects yX9_takeFrom.cls yX9_takeFrom yX9_takeFrom ∈ BASE := bmT5 239 rfl rfl
set_option maxRecDepth 20000 in
theorem m_1278 : Cond.code yX9_takeFrom cX9_takeFrom 2 none ∈ BASE := bmT6 0 rfl rfl
theorem kV_X10_echoYards : KV yX10_echoYards cX10_echoYards 7 (some .int) 3 := ⟨m_844, m_845, m_80, m_846, nhM_7, nhV_7, pdn_3⟩
theorem kV_X10_goOn : KV yX10_goOn cX10_goOn 5 none 1 := ⟨m_1059, m_15, m_80, m_1060, nhM_7, nhV_7, pdn_4⟩
theorem kV_X10_hasWalker : KV yX10_hasWalker cX10_hasWalker 2 (some .boolean) 1 := ⟨m_610, m_611, m_80, m_612, nhM_7, nhV_7, pdn_1⟩
theorem kV_X10_heardYards : KV yX10_heardYards cX10_heardYards 7 (some .int) 3 := ⟨m_901, m_902, m_80, m_903, nhM_7, nhV_7, pdn_3⟩
theorem kV_X10_isFreeBut : KV yX10_isFreeBut cX10_isFreeBut 4 (some .boolean) 2 := ⟨m_858, m_859, m_80, m_860, nhM_7, nhV_7, pdn_7⟩
theorem kV_X10_letWalkerGo : KV yX10_letWalkerGo cX10_letWalkerGo 8 none 1 := ⟨m_1041, m_14, m_80, m_1042, nhM_7, nhV_7, pdn_4⟩
theorem kV_X10_makeClick : KV yX10_makeClick cX10_makeClick 7 (some .int) 1 := ⟨m_897, m_898, m_80, m_899, nhM_7, nhV_7, pdn_2⟩
theorem kV_X2_habitValue : KV yX2_habitValue cX2_habitValue 6 (some .int) 5 := ⟨m_1051, m_1052, m_82, m_1053, nhM_5, nhV_5, pdn_14⟩
theorem kV_X2_takeFrom : KV yX2_takeFrom cX2_takeFrom 3 none 1 := ⟨m_1264, m_1265, m_82, m_1266, nhM_5, nhV_5, pdn_15⟩
theorem kV_X3_takeFrom : KV yX3_takeFrom cX3_takeFrom 2 none 1 := ⟨m_1270, m_1271, m_84, m_1272, nhM_8, nhV_8, pdn_16⟩
theorem kV_X5_takeFrom : KV yX5_takeFrom cX5_takeFrom 3 none 1 := ⟨m_1143, m_1144, m_85, m_1145, nhM_2, nhV_2, pdn_17⟩
theorem kV_X7_kindIn : KV yX7_kindIn cX7_kindIn 3 (some .int) 1 := ⟨m_870, m_871, m_81, m_872, nhM_1, nhV_1, pdn_2⟩
theorem kV_X7_letThingsGo : KV yX7_letThingsGo cX7_letThingsGo 4 none 1 := ⟨m_1030, m_1031, m_81, m_1032, nhM_1, nhV_1, pdn_4⟩
theorem kV_X7_takeFrom : KV yX7_takeFrom cX7_takeFrom 2 none 1 := ⟨m_1259, m_1260, m_81, m_1261, nhM_1, nhV_1, pdn_18⟩
theorem kV_X9_addNo : KV yX9_addNo cX9_addNo 2 none 1 := ⟨m_922, m_923, m_87, m_924, nhM_3, nhV_3, pdn_4⟩
theorem kV_X9_addYes : KV yX9_addYes cX9_addYes 3 none 2 := ⟨m_916, m_917, m_87, m_918, nhM_3, nhV_3, pdn_5⟩
theorem kV_X9_begin : KV yX9_begin cX9_begin 5 none 3 := ⟨m_601, m_602, m_87, m_603, nhM_3, nhV_3, pdn_19⟩
theorem kV_X9_isOf : KV yX9_isOf cX9_isOf 4 (some .boolean) 1 := ⟨m_640, m_641, m_87, m_642, nhM_3, nhV_3, pdn_1⟩
theorem kV_X9_ownClick : KV yX9_ownClick cX9_ownClick 1 (some .int) 0 := ⟨m_905, m_906, m_87, m_907, nhM_3, nhV_3, pdn_6⟩
theorem kV_X9_takeFrom : KV yX9_takeFrom cX9_takeFrom 2 none 1 := ⟨m_1276, m_1277, m_87, m_1278, nhM_3, nhV_3, pdn_20⟩
theorem kV_X9_turn : KV yX9_turn cX9_turn 2 none 1 := ⟨m_1064, m_1065, m_87, m_1066, nhM_3, nhV_3, pdn_4⟩
theorem kV_X9_yardsHeldFree : KV yX9_yardsHeldFree cX9_yardsHeldFree 2 (some .int) 0 := ⟨m_1107, m_1108, m_87, m_1109, nhM_3, nhV_3, pdn_6⟩
theorem kV_X9_yardsToFull : KV yX9_yardsToFull cX9_yardsToFull 3 (some .int) 1 := ⟨m_1046, m_1047, m_87, m_1048, nhM_3, nhV_3, pdn_2⟩
theorem inB10 : ∀ w ∈ u_ws RX10 TX10 8, w ∈ BASE := bmems (u_ws RX10 TX10 8) [328, 330, 332, 334, 336, 338, 340, 342] (by decide +kernel) (by decide +kernel)
theorem fl_RX10_10 : FLK RX10 10 10 0 (.object "ClickStreet$Street") true := ⟨RX10, TX10, 8, tyX10, rfl, inB10, tyX10_ok, nmX10, by decide, rfl, rfl, Or.inl m_309⟩
theorem fl_RX10_109 : FLK RX10 109 9 1 .int false := ⟨RX9, TX9, 11, tyX9, rfl, inB9, tyX9_ok, nmX9, by decide, rfl, rfl, Or.inr ⟨"ClickStreet", List.mem_of_getElem? (l := NFs) (i := 15) rfl⟩⟩
theorem fl_RX10_119 : FLK RX10 119 9 2 .int false := ⟨RX9, TX9, 11, tyX9, rfl, inB9, tyX9_ok, nmX9, by decide, rfl, rfl, Or.inr ⟨"ClickStreet", List.mem_of_getElem? (l := NFs) (i := 17) rfl⟩⟩
theorem fl_RX10_144 : FLK RX10 144 9 6 .boolean false := ⟨RX9, TX9, 11, tyX9, rfl, inB9, tyX9_ok, nmX9, by decide, rfl, rfl, Or.inr ⟨"ClickStreet", List.mem_of_getElem? (l := NFs) (i := 24) rfl⟩⟩
theorem fl_RX10_151 : FLK RX10 151 9 5 .int false := ⟨RX9, TX9, 11, tyX9, rfl, inB9, tyX9_ok, nmX9, by decide, rfl, rfl, Or.inr ⟨"ClickStreet", List.mem_of_getElem? (l := NFs) (i := 23) rfl⟩⟩
theorem fl_RX10_19 : FLK RX10 19 10 1 (.object "ClickStreet$Laws") true := ⟨RX10, TX10, 8, tyX10, rfl, inB10, tyX10_ok, nmX10, by decide, rfl, rfl, Or.inl m_312⟩
theorem fl_RX10_26 : FLK RX10 26 10 2 (.object "ClickStreet$Lessons") true := ⟨RX10, TX10, 8, tyX10, rfl, inB10, tyX10_ok, nmX10, by decide, rfl, rfl, Or.inl m_315⟩
theorem fl_RX10_37 : FLK RX10 37 10 3 (.object "ClickStreet$Row") true := ⟨RX10, TX10, 8, tyX10, rfl, inB10, tyX10_ok, nmX10, by decide, rfl, rfl, Or.inl m_317⟩
theorem fl_RX10_41 : FLK RX10 41 10 4 (.object "ClickStreet$Row") true := ⟨RX10, TX10, 8, tyX10, rfl, inB10, tyX10_ok, nmX10, by decide, rfl, rfl, Or.inl m_319⟩
theorem fl_RX10_46 : FLK RX10 46 10 5 (.array (.object "ClickStreet$Walker")) true := ⟨RX10, TX10, 8, tyX10, rfl, inB10, tyX10_ok, nmX10, by decide, rfl, rfl, Or.inl m_321⟩
theorem fl_RX10_50 : FLK RX10 50 10 6 .int false := ⟨RX10, TX10, 8, tyX10, rfl, inB10, tyX10_ok, nmX10, by decide, rfl, rfl, Or.inl m_324⟩
theorem fl_RX10_54 : FLK RX10 54 10 7 .int false := ⟨RX10, TX10, 8, tyX10, rfl, inB10, tyX10_ok, nmX10, by decide, rfl, rfl, Or.inl m_326⟩
theorem fl_RX10_66 : FLK RX10 66 9 7 .int false := ⟨RX9, TX9, 11, tyX9, rfl, inB9, tyX9_ok, nmX9, by decide, rfl, rfl, Or.inr ⟨"ClickStreet", List.mem_of_getElem? (l := NFs) (i := 26) rfl⟩⟩
theorem fl_RX10_69 : FLK RX10 69 9 8 .int false := ⟨RX9, TX9, 11, tyX9, rfl, inB9, tyX9_ok, nmX9, by decide, rfl, rfl, Or.inr ⟨"ClickStreet", List.mem_of_getElem? (l := NFs) (i := 27) rfl⟩⟩
theorem fl_RX10_72 : FLK RX10 72 7 0 (.array .int) true := ⟨RX7, TX7, 6, tyX7, rfl, inB7, tyX7_ok, nmX7, by decide, rfl, rfl, Or.inr ⟨"ClickStreet", List.mem_of_getElem? (l := NFs) (i := 0) rfl⟩⟩
theorem ch_cX10_addWalker_0 : (cX10_addWalker.data.toList.drop 0).take 36 = [42, 180, 0, 50, 54, 4, 21, 4, 155, 0, 10, 21, 4, 16, 8, 161, 0, 5, 2, 172, 42, 180, 0, 46, 21, 4, 50, 27, 28, 29, 182, 0, 58, 42, 180, 0] := by decide +kernel
theorem dX10_addWalker_0 : decode cX10_addWalker 0 = .ok (.aload_n 0, 1) := do_42 (rdb (p := 0) (i := 0) ch_cX10_addWalker_0 rfl)
theorem dX10_addWalker_1 : decode cX10_addWalker 1 = .ok (.getfield 50, 3) := do_180 (rdb (p := 0) (i := 1) ch_cX10_addWalker_0 rfl) (rdb (p := 0) (i := 2) ch_cX10_addWalker_0 rfl) (rdb (p := 0) (i := 3) ch_cX10_addWalker_0 rfl) rfl
theorem dX10_addWalker_4 : decode cX10_addWalker 4 = .ok (.istore 4, 2) := do_54 (rdb (p := 0) (i := 4) ch_cX10_addWalker_0 rfl) (rdb (p := 0) (i := 5) ch_cX10_addWalker_0 rfl)
theorem dX10_addWalker_6 : decode cX10_addWalker 6 = .ok (.iload 4, 2) := do_21 (rdb (p := 0) (i := 6) ch_cX10_addWalker_0 rfl) (rdb (p := 0) (i := 7) ch_cX10_addWalker_0 rfl)
theorem dX10_addWalker_8 : decode cX10_addWalker 8 = .ok (.ifCond .lt 10, 3) := do_155 (rdb (p := 0) (i := 8) ch_cX10_addWalker_0 rfl) (rdb (p := 0) (i := 9) ch_cX10_addWalker_0 rfl) (rdb (p := 0) (i := 10) ch_cX10_addWalker_0 rfl) (by decide +kernel)
theorem dX10_addWalker_11 : decode cX10_addWalker 11 = .ok (.iload 4, 2) := do_21 (rdb (p := 0) (i := 11) ch_cX10_addWalker_0 rfl) (rdb (p := 0) (i := 12) ch_cX10_addWalker_0 rfl)
theorem dX10_addWalker_13 : decode cX10_addWalker 13 = .ok (.bipush 8, 2) := do_16 (rdb (p := 0) (i := 13) ch_cX10_addWalker_0 rfl) (rdb (p := 0) (i := 14) ch_cX10_addWalker_0 rfl) (by decide +kernel)
theorem dX10_addWalker_15 : decode cX10_addWalker 15 = .ok (.if_icmp .lt 5, 3) := do_161 (rdb (p := 0) (i := 15) ch_cX10_addWalker_0 rfl) (rdb (p := 0) (i := 16) ch_cX10_addWalker_0 rfl) (rdb (p := 0) (i := 17) ch_cX10_addWalker_0 rfl) (by decide +kernel)
theorem dX10_addWalker_18 : decode cX10_addWalker 18 = .ok (.iconst (-1), 1) := do_2 (rdb (p := 0) (i := 18) ch_cX10_addWalker_0 rfl)
theorem dX10_addWalker_19 : decode cX10_addWalker 19 = .ok (.ireturn, 1) := do_172 (rdb (p := 0) (i := 19) ch_cX10_addWalker_0 rfl)
theorem dX10_addWalker_20 : decode cX10_addWalker 20 = .ok (.aload_n 0, 1) := do_42 (rdb (p := 0) (i := 20) ch_cX10_addWalker_0 rfl)
theorem dX10_addWalker_21 : decode cX10_addWalker 21 = .ok (.getfield 46, 3) := do_180 (rdb (p := 0) (i := 21) ch_cX10_addWalker_0 rfl) (rdb (p := 0) (i := 22) ch_cX10_addWalker_0 rfl) (rdb (p := 0) (i := 23) ch_cX10_addWalker_0 rfl) rfl
theorem dX10_addWalker_24 : decode cX10_addWalker 24 = .ok (.iload 4, 2) := do_21 (rdb (p := 0) (i := 24) ch_cX10_addWalker_0 rfl) (rdb (p := 0) (i := 25) ch_cX10_addWalker_0 rfl)
theorem dX10_addWalker_26 : decode cX10_addWalker 26 = .ok (.aaload, 1) := do_50 (rdb (p := 0) (i := 26) ch_cX10_addWalker_0 rfl)
theorem dX10_addWalker_27 : decode cX10_addWalker 27 = .ok (.iload_n 1, 1) := do_27 (rdb (p := 0) (i := 27) ch_cX10_addWalker_0 rfl)
theorem dX10_addWalker_28 : decode cX10_addWalker 28 = .ok (.iload_n 2, 1) := do_28 (rdb (p := 0) (i := 28) ch_cX10_addWalker_0 rfl)
theorem dX10_addWalker_29 : decode cX10_addWalker 29 = .ok (.iload_n 3, 1) := do_29 (rdb (p := 0) (i := 29) ch_cX10_addWalker_0 rfl)
theorem dX10_addWalker_30 : decode cX10_addWalker 30 = .ok (.invokevirtual 58, 3) := do_182 (rdb (p := 0) (i := 30) ch_cX10_addWalker_0 rfl) (rdb (p := 0) (i := 31) ch_cX10_addWalker_0 rfl) (rdb (p := 0) (i := 32) ch_cX10_addWalker_0 rfl) rfl
theorem ch_cX10_addWalker_32 : (cX10_addWalker.data.toList.drop 32).take 36 = [58, 42, 180, 0, 10, 28, 16, 100, 21, 4, 96, 182, 0, 62, 42, 89, 180, 0, 50, 4, 96, 181, 0, 50, 21, 4, 172] := by decide +kernel
theorem dX10_addWalker_33 : decode cX10_addWalker 33 = .ok (.aload_n 0, 1) := do_42 (rdb (p := 32) (i := 1) ch_cX10_addWalker_32 rfl)
theorem dX10_addWalker_34 : decode cX10_addWalker 34 = .ok (.getfield 10, 3) := do_180 (rdb (p := 32) (i := 2) ch_cX10_addWalker_32 rfl) (rdb (p := 32) (i := 3) ch_cX10_addWalker_32 rfl) (rdb (p := 32) (i := 4) ch_cX10_addWalker_32 rfl) rfl
theorem dX10_addWalker_37 : decode cX10_addWalker 37 = .ok (.iload_n 2, 1) := do_28 (rdb (p := 32) (i := 5) ch_cX10_addWalker_32 rfl)
theorem dX10_addWalker_38 : decode cX10_addWalker 38 = .ok (.bipush 100, 2) := do_16 (rdb (p := 32) (i := 6) ch_cX10_addWalker_32 rfl) (rdb (p := 32) (i := 7) ch_cX10_addWalker_32 rfl) (by decide +kernel)
theorem dX10_addWalker_40 : decode cX10_addWalker 40 = .ok (.iload 4, 2) := do_21 (rdb (p := 32) (i := 8) ch_cX10_addWalker_32 rfl) (rdb (p := 32) (i := 9) ch_cX10_addWalker_32 rfl)
theorem dX10_addWalker_42 : decode cX10_addWalker 42 = .ok (.iadd, 1) := do_96 (rdb (p := 32) (i := 10) ch_cX10_addWalker_32 rfl)
theorem dX10_addWalker_43 : decode cX10_addWalker 43 = .ok (.invokevirtual 62, 3) := do_182 (rdb (p := 32) (i := 11) ch_cX10_addWalker_32 rfl) (rdb (p := 32) (i := 12) ch_cX10_addWalker_32 rfl) (rdb (p := 32) (i := 13) ch_cX10_addWalker_32 rfl) rfl
theorem dX10_addWalker_46 : decode cX10_addWalker 46 = .ok (.aload_n 0, 1) := do_42 (rdb (p := 32) (i := 14) ch_cX10_addWalker_32 rfl)
theorem dX10_addWalker_47 : decode cX10_addWalker 47 = .ok (.dup, 1) := do_89 (rdb (p := 32) (i := 15) ch_cX10_addWalker_32 rfl)
theorem dX10_addWalker_48 : decode cX10_addWalker 48 = .ok (.getfield 50, 3) := do_180 (rdb (p := 32) (i := 16) ch_cX10_addWalker_32 rfl) (rdb (p := 32) (i := 17) ch_cX10_addWalker_32 rfl) (rdb (p := 32) (i := 18) ch_cX10_addWalker_32 rfl) rfl
theorem dX10_addWalker_51 : decode cX10_addWalker 51 = .ok (.iconst 1, 1) := do_4 (rdb (p := 32) (i := 19) ch_cX10_addWalker_32 rfl)
theorem dX10_addWalker_52 : decode cX10_addWalker 52 = .ok (.iadd, 1) := do_96 (rdb (p := 32) (i := 20) ch_cX10_addWalker_32 rfl)
theorem dX10_addWalker_53 : decode cX10_addWalker 53 = .ok (.putfield 50, 3) := do_181 (rdb (p := 32) (i := 21) ch_cX10_addWalker_32 rfl) (rdb (p := 32) (i := 22) ch_cX10_addWalker_32 rfl) (rdb (p := 32) (i := 23) ch_cX10_addWalker_32 rfl) rfl
theorem dX10_addWalker_56 : decode cX10_addWalker 56 = .ok (.iload 4, 2) := do_21 (rdb (p := 32) (i := 24) ch_cX10_addWalker_32 rfl) (rdb (p := 32) (i := 25) ch_cX10_addWalker_32 rfl)
theorem dX10_addWalker_58 : decode cX10_addWalker 58 = .ok (.ireturn, 1) := do_172 (rdb (p := 32) (i := 26) ch_cX10_addWalker_32 rfl)
theorem dX10_countBumps_0 : decode cX10_countBumps 0 = .ok (.iconst 0, 1) := by decide +kernel
theorem dX10_countBumps_1 : decode cX10_countBumps 1 = .ok (.istore_n 1, 1) := by decide +kernel
theorem dX10_countBumps_2 : decode cX10_countBumps 2 = .ok (.iconst 0, 1) := by decide +kernel
theorem dX10_countBumps_3 : decode cX10_countBumps 3 = .ok (.istore_n 2, 1) := by decide +kernel
theorem dX10_countBumps_4 : decode cX10_countBumps 4 = .ok (.iload_n 2, 1) := by decide +kernel
theorem dX10_countBumps_5 : decode cX10_countBumps 5 = .ok (.aload_n 0, 1) := by decide +kernel
theorem dX10_countBumps_6 : decode cX10_countBumps 6 = .ok (.getfield 50, 3) := by decide +kernel
theorem dX10_countBumps_9 : decode cX10_countBumps 9 = .ok (.if_icmp .ge 27, 3) := by decide +kernel
theorem dX10_countBumps_12 : decode cX10_countBumps 12 = .ok (.iload_n 2, 1) := by decide +kernel
theorem dX10_countBumps_13 : decode cX10_countBumps 13 = .ok (.bipush 8, 2) := by decide +kernel
theorem dX10_countBumps_15 : decode cX10_countBumps 15 = .ok (.if_icmp .ge 21, 3) := by decide +kernel
theorem dX10_countBumps_18 : decode cX10_countBumps 18 = .ok (.iload_n 1, 1) := by decide +kernel
theorem dX10_countBumps_19 : decode cX10_countBumps 19 = .ok (.aload_n 0, 1) := by decide +kernel
theorem dX10_countBumps_20 : decode cX10_countBumps 20 = .ok (.getfield 46, 3) := by decide +kernel
theorem dX10_countBumps_23 : decode cX10_countBumps 23 = .ok (.iload_n 2, 1) := by decide +kernel
theorem dX10_countBumps_24 : decode cX10_countBumps 24 = .ok (.aaload, 1) := by decide +kernel
theorem dX10_countBumps_25 : decode cX10_countBumps 25 = .ok (.getfield 66, 3) := by decide +kernel
theorem dX10_countBumps_28 : decode cX10_countBumps 28 = .ok (.iadd, 1) := by decide +kernel
theorem dX10_countBumps_29 : decode cX10_countBumps 29 = .ok (.istore_n 1, 1) := by decide +kernel
theorem dX10_countBumps_30 : decode cX10_countBumps 30 = .ok (.iinc 2 1, 3) := by decide +kernel
theorem dX10_countBumps_33 : decode cX10_countBumps 33 = .ok (.goto (-29), 3) := by decide +kernel
theorem dX10_countBumps_36 : decode cX10_countBumps 36 = .ok (.iload_n 1, 1) := by decide +kernel
theorem dX10_countBumps_37 : decode cX10_countBumps 37 = .ok (.ireturn, 1) := by decide +kernel
theorem dX10_countClicks_0 : decode cX10_countClicks 0 = .ok (.iconst 0, 1) := by decide +kernel
theorem dX10_countClicks_1 : decode cX10_countClicks 1 = .ok (.istore_n 1, 1) := by decide +kernel
theorem dX10_countClicks_2 : decode cX10_countClicks 2 = .ok (.iconst 0, 1) := by decide +kernel
theorem dX10_countClicks_3 : decode cX10_countClicks 3 = .ok (.istore_n 2, 1) := by decide +kernel
theorem dX10_countClicks_4 : decode cX10_countClicks 4 = .ok (.iload_n 2, 1) := by decide +kernel
theorem dX10_countClicks_5 : decode cX10_countClicks 5 = .ok (.aload_n 0, 1) := by decide +kernel
theorem dX10_countClicks_6 : decode cX10_countClicks 6 = .ok (.getfield 50, 3) := by decide +kernel
theorem dX10_countClicks_9 : decode cX10_countClicks 9 = .ok (.if_icmp .ge 27, 3) := by decide +kernel
theorem dX10_countClicks_12 : decode cX10_countClicks 12 = .ok (.iload_n 2, 1) := by decide +kernel
theorem dX10_countClicks_13 : decode cX10_countClicks 13 = .ok (.bipush 8, 2) := by decide +kernel
theorem dX10_countClicks_15 : decode cX10_countClicks 15 = .ok (.if_icmp .ge 21, 3) := by decide +kernel
theorem dX10_countClicks_18 : decode cX10_countClicks 18 = .ok (.iload_n 1, 1) := by decide +kernel
theorem dX10_countClicks_19 : decode cX10_countClicks 19 = .ok (.aload_n 0, 1) := by decide +kernel
theorem dX10_countClicks_20 : decode cX10_countClicks 20 = .ok (.getfield 46, 3) := by decide +kernel
theorem dX10_countClicks_23 : decode cX10_countClicks 23 = .ok (.iload_n 2, 1) := by decide +kernel
theorem dX10_countClicks_24 : decode cX10_countClicks 24 = .ok (.aaload, 1) := by decide +kernel
theorem dX10_countClicks_25 : decode cX10_countClicks 25 = .ok (.getfield 69, 3) := by decide +kernel
theorem dX10_countClicks_28 : decode cX10_countClicks 28 = .ok (.iadd, 1) := by decide +kernel
theorem dX10_countClicks_29 : decode cX10_countClicks 29 = .ok (.istore_n 1, 1) := by decide +kernel
theorem dX10_countClicks_30 : decode cX10_countClicks 30 = .ok (.iinc 2 1, 3) := by decide +kernel
theorem dX10_countClicks_33 : decode cX10_countClicks 33 = .ok (.goto (-29), 3) := by decide +kernel
theorem dX10_countClicks_36 : decode cX10_countClicks 36 = .ok (.iload_n 1, 1) := by decide +kernel
theorem dX10_countClicks_37 : decode cX10_countClicks 37 = .ok (.ireturn, 1) := by decide +kernel
theorem ch_cX10_countWrong_0 : (cX10_countWrong.data.toList.drop 0).take 36 = [42, 27, 182, 0, 76, 154, 0, 5, 3, 172, 3, 61, 3, 62, 29, 17, 0, 192, 162, 0, 52, 42, 180, 0, 46, 27, 50, 29, 182, 0, 135, 54, 4, 42, 27, 29] := by decide +kernel
theorem dX10_countWrong_0 : decode cX10_countWrong 0 = .ok (.aload_n 0, 1) := do_42 (rdb (p := 0) (i := 0) ch_cX10_countWrong_0 rfl)
theorem dX10_countWrong_1 : decode cX10_countWrong 1 = .ok (.iload_n 1, 1) := do_27 (rdb (p := 0) (i := 1) ch_cX10_countWrong_0 rfl)
theorem dX10_countWrong_2 : decode cX10_countWrong 2 = .ok (.invokevirtual 76, 3) := do_182 (rdb (p := 0) (i := 2) ch_cX10_countWrong_0 rfl) (rdb (p := 0) (i := 3) ch_cX10_countWrong_0 rfl) (rdb (p := 0) (i := 4) ch_cX10_countWrong_0 rfl) rfl
theorem dX10_countWrong_5 : decode cX10_countWrong 5 = .ok (.ifCond .ne 5, 3) := do_154 (rdb (p := 0) (i := 5) ch_cX10_countWrong_0 rfl) (rdb (p := 0) (i := 6) ch_cX10_countWrong_0 rfl) (rdb (p := 0) (i := 7) ch_cX10_countWrong_0 rfl) (by decide +kernel)
theorem dX10_countWrong_8 : decode cX10_countWrong 8 = .ok (.iconst 0, 1) := do_3 (rdb (p := 0) (i := 8) ch_cX10_countWrong_0 rfl)
theorem dX10_countWrong_9 : decode cX10_countWrong 9 = .ok (.ireturn, 1) := do_172 (rdb (p := 0) (i := 9) ch_cX10_countWrong_0 rfl)
theorem dX10_countWrong_10 : decode cX10_countWrong 10 = .ok (.iconst 0, 1) := do_3 (rdb (p := 0) (i := 10) ch_cX10_countWrong_0 rfl)
theorem dX10_countWrong_11 : decode cX10_countWrong 11 = .ok (.istore_n 2, 1) := do_61 (rdb (p := 0) (i := 11) ch_cX10_countWrong_0 rfl)
theorem dX10_countWrong_12 : decode cX10_countWrong 12 = .ok (.iconst 0, 1) := do_3 (rdb (p := 0) (i := 12) ch_cX10_countWrong_0 rfl)
theorem dX10_countWrong_13 : decode cX10_countWrong 13 = .ok (.istore_n 3, 1) := do_62 (rdb (p := 0) (i := 13) ch_cX10_countWrong_0 rfl)
theorem dX10_countWrong_14 : decode cX10_countWrong 14 = .ok (.iload_n 3, 1) := do_29 (rdb (p := 0) (i := 14) ch_cX10_countWrong_0 rfl)
theorem dX10_countWrong_15 : decode cX10_countWrong 15 = .ok (.sipush 192, 3) := do_17 (rdb (p := 0) (i := 15) ch_cX10_countWrong_0 rfl) (rdb (p := 0) (i := 16) ch_cX10_countWrong_0 rfl) (rdb (p := 0) (i := 17) ch_cX10_countWrong_0 rfl) (by decide +kernel)
theorem dX10_countWrong_18 : decode cX10_countWrong 18 = .ok (.if_icmp .ge 52, 3) := do_162 (rdb (p := 0) (i := 18) ch_cX10_countWrong_0 rfl) (rdb (p := 0) (i := 19) ch_cX10_countWrong_0 rfl) (rdb (p := 0) (i := 20) ch_cX10_countWrong_0 rfl) (by decide +kernel)
theorem dX10_countWrong_21 : decode cX10_countWrong 21 = .ok (.aload_n 0, 1) := do_42 (rdb (p := 0) (i := 21) ch_cX10_countWrong_0 rfl)
theorem dX10_countWrong_22 : decode cX10_countWrong 22 = .ok (.getfield 46, 3) := do_180 (rdb (p := 0) (i := 22) ch_cX10_countWrong_0 rfl) (rdb (p := 0) (i := 23) ch_cX10_countWrong_0 rfl) (rdb (p := 0) (i := 24) ch_cX10_countWrong_0 rfl) rfl
theorem dX10_countWrong_25 : decode cX10_countWrong 25 = .ok (.iload_n 1, 1) := do_27 (rdb (p := 0) (i := 25) ch_cX10_countWrong_0 rfl)
theorem dX10_countWrong_26 : decode cX10_countWrong 26 = .ok (.aaload, 1) := do_50 (rdb (p := 0) (i := 26) ch_cX10_countWrong_0 rfl)
theorem dX10_countWrong_27 : decode cX10_countWrong 27 = .ok (.iload_n 3, 1) := do_29 (rdb (p := 0) (i := 27) ch_cX10_countWrong_0 rfl)
theorem dX10_countWrong_28 : decode cX10_countWrong 28 = .ok (.invokevirtual 135, 3) := do_182 (rdb (p := 0) (i := 28) ch_cX10_countWrong_0 rfl) (rdb (p := 0) (i := 29) ch_cX10_countWrong_0 rfl) (rdb (p := 0) (i := 30) ch_cX10_countWrong_0 rfl) rfl
theorem dX10_countWrong_31 : decode cX10_countWrong 31 = .ok (.istore 4, 2) := do_54 (rdb (p := 0) (i := 31) ch_cX10_countWrong_0 rfl) (rdb (p := 0) (i := 32) ch_cX10_countWrong_0 rfl)
theorem ch_cX10_countWrong_32 : (cX10_countWrong.data.toList.drop 32).take 36 = [4, 42, 27, 29, 182, 0, 88, 153, 0, 7, 4, 167, 0, 4, 5, 54, 5, 21, 4, 153, 0, 13, 21, 4, 21, 5, 159, 0, 6, 132, 2, 1, 132, 3, 1, 167] := by decide +kernel
theorem dX10_countWrong_33 : decode cX10_countWrong 33 = .ok (.aload_n 0, 1) := do_42 (rdb (p := 32) (i := 1) ch_cX10_countWrong_32 rfl)
theorem dX10_countWrong_34 : decode cX10_countWrong 34 = .ok (.iload_n 1, 1) := do_27 (rdb (p := 32) (i := 2) ch_cX10_countWrong_32 rfl)
theorem dX10_countWrong_35 : decode cX10_countWrong 35 = .ok (.iload_n 3, 1) := do_29 (rdb (p := 32) (i := 3) ch_cX10_countWrong_32 rfl)
theorem dX10_countWrong_36 : decode cX10_countWrong 36 = .ok (.invokevirtual 88, 3) := do_182 (rdb (p := 32) (i := 4) ch_cX10_countWrong_32 rfl) (rdb (p := 32) (i := 5) ch_cX10_countWrong_32 rfl) (rdb (p := 32) (i := 6) ch_cX10_countWrong_32 rfl) rfl
theorem dX10_countWrong_39 : decode cX10_countWrong 39 = .ok (.ifCond .eq 7, 3) := do_153 (rdb (p := 32) (i := 7) ch_cX10_countWrong_32 rfl) (rdb (p := 32) (i := 8) ch_cX10_countWrong_32 rfl) (rdb (p := 32) (i := 9) ch_cX10_countWrong_32 rfl) (by decide +kernel)
theorem dX10_countWrong_42 : decode cX10_countWrong 42 = .ok (.iconst 1, 1) := do_4 (rdb (p := 32) (i := 10) ch_cX10_countWrong_32 rfl)
theorem dX10_countWrong_43 : decode cX10_countWrong 43 = .ok (.goto 4, 3) := do_167 (rdb (p := 32) (i := 11) ch_cX10_countWrong_32 rfl) (rdb (p := 32) (i := 12) ch_cX10_countWrong_32 rfl) (rdb (p := 32) (i := 13) ch_cX10_countWrong_32 rfl) (by decide +kernel)
theorem dX10_countWrong_46 : decode cX10_countWrong 46 = .ok (.iconst 2, 1) := do_5 (rdb (p := 32) (i := 14) ch_cX10_countWrong_32 rfl)
theorem dX10_countWrong_47 : decode cX10_countWrong 47 = .ok (.istore 5, 2) := do_54 (rdb (p := 32) (i := 15) ch_cX10_countWrong_32 rfl) (rdb (p := 32) (i := 16) ch_cX10_countWrong_32 rfl)
theorem dX10_countWrong_49 : decode cX10_countWrong 49 = .ok (.iload 4, 2) := do_21 (rdb (p := 32) (i := 17) ch_cX10_countWrong_32 rfl) (rdb (p := 32) (i := 18) ch_cX10_countWrong_32 rfl)
theorem dX10_countWrong_51 : decode cX10_countWrong 51 = .ok (.ifCond .eq 13, 3) := do_153 (rdb (p := 32) (i := 19) ch_cX10_countWrong_32 rfl) (rdb (p := 32) (i := 20) ch_cX10_countWrong_32 rfl) (rdb (p := 32) (i := 21) ch_cX10_countWrong_32 rfl) (by decide +kernel)
theorem dX10_countWrong_54 : decode cX10_countWrong 54 = .ok (.iload 4, 2) := do_21 (rdb (p := 32) (i := 22) ch_cX10_countWrong_32 rfl) (rdb (p := 32) (i := 23) ch_cX10_countWrong_32 rfl)
theorem dX10_countWrong_56 : decode cX10_countWrong 56 = .ok (.iload 5, 2) := do_21 (rdb (p := 32) (i := 24) ch_cX10_countWrong_32 rfl) (rdb (p := 32) (i := 25) ch_cX10_countWrong_32 rfl)
theorem dX10_countWrong_58 : decode cX10_countWrong 58 = .ok (.if_icmp .eq 6, 3) := do_159 (rdb (p := 32) (i := 26) ch_cX10_countWrong_32 rfl) (rdb (p := 32) (i := 27) ch_cX10_countWrong_32 rfl) (rdb (p := 32) (i := 28) ch_cX10_countWrong_32 rfl) (by decide +kernel)
theorem dX10_countWrong_61 : decode cX10_countWrong 61 = .ok (.iinc 2 1, 3) := do_132 (rdb (p := 32) (i := 29) ch_cX10_countWrong_32 rfl) (rdb (p := 32) (i := 30) ch_cX10_countWrong_32 rfl) (rdb (p := 32) (i := 31) ch_cX10_countWrong_32 rfl) (by decide +kernel)
theorem ch_cX10_countWrong_64 : (cX10_countWrong.data.toList.drop 64).take 36 = [132, 3, 1, 167, 255, 203, 28, 172] := by decide +kernel
theorem dX10_countWrong_64 : decode cX10_countWrong 64 = .ok (.iinc 3 1, 3) := do_132 (rdb (p := 64) (i := 0) ch_cX10_countWrong_64 rfl) (rdb (p := 64) (i := 1) ch_cX10_countWrong_64 rfl) (rdb (p := 64) (i := 2) ch_cX10_countWrong_64 rfl) (by decide +kernel)
theorem dX10_countWrong_67 : decode cX10_countWrong 67 = .ok (.goto (-53), 3) := do_167 (rdb (p := 64) (i := 3) ch_cX10_countWrong_64 rfl) (rdb (p := 64) (i := 4) ch_cX10_countWrong_64 rfl) (rdb (p := 64) (i := 5) ch_cX10_countWrong_64 rfl) (by decide +kernel)
theorem dX10_countWrong_70 : decode cX10_countWrong 70 = .ok (.iload_n 2, 1) := do_28 (rdb (p := 64) (i := 6) ch_cX10_countWrong_64 rfl)
theorem dX10_countWrong_71 : decode cX10_countWrong 71 = .ok (.ireturn, 1) := do_172 (rdb (p := 64) (i := 7) ch_cX10_countWrong_64 rfl)
theorem ch_cX10_echoFact_0 : (cX10_echoFact.data.toList.drop 0).take 36 = [42, 27, 182, 0, 76, 154, 0, 5, 3, 172, 42, 180, 0, 46, 27, 50, 58, 5, 42, 27, 25, 5, 180, 0, 109, 29, 182, 0, 92, 54, 6, 29, 21, 6, 184, 0] := by decide +kernel
theorem dX10_echoFact_0 : decode cX10_echoFact 0 = .ok (.aload_n 0, 1) := do_42 (rdb (p := 0) (i := 0) ch_cX10_echoFact_0 rfl)
theorem dX10_echoFact_1 : decode cX10_echoFact 1 = .ok (.iload_n 1, 1) := do_27 (rdb (p := 0) (i := 1) ch_cX10_echoFact_0 rfl)
theorem dX10_echoFact_2 : decode cX10_echoFact 2 = .ok (.invokevirtual 76, 3) := do_182 (rdb (p := 0) (i := 2) ch_cX10_echoFact_0 rfl) (rdb (p := 0) (i := 3) ch_cX10_echoFact_0 rfl) (rdb (p := 0) (i := 4) ch_cX10_echoFact_0 rfl) rfl
theorem dX10_echoFact_5 : decode cX10_echoFact 5 = .ok (.ifCond .ne 5, 3) := do_154 (rdb (p := 0) (i := 5) ch_cX10_echoFact_0 rfl) (rdb (p := 0) (i := 6) ch_cX10_echoFact_0 rfl) (rdb (p := 0) (i := 7) ch_cX10_echoFact_0 rfl) (by decide +kernel)
theorem dX10_echoFact_8 : decode cX10_echoFact 8 = .ok (.iconst 0, 1) := do_3 (rdb (p := 0) (i := 8) ch_cX10_echoFact_0 rfl)
theorem dX10_echoFact_9 : decode cX10_echoFact 9 = .ok (.ireturn, 1) := do_172 (rdb (p := 0) (i := 9) ch_cX10_echoFact_0 rfl)
theorem dX10_echoFact_10 : decode cX10_echoFact 10 = .ok (.aload_n 0, 1) := do_42 (rdb (p := 0) (i := 10) ch_cX10_echoFact_0 rfl)
theorem dX10_echoFact_11 : decode cX10_echoFact 11 = .ok (.getfield 46, 3) := do_180 (rdb (p := 0) (i := 11) ch_cX10_echoFact_0 rfl) (rdb (p := 0) (i := 12) ch_cX10_echoFact_0 rfl) (rdb (p := 0) (i := 13) ch_cX10_echoFact_0 rfl) rfl
theorem dX10_echoFact_14 : decode cX10_echoFact 14 = .ok (.iload_n 1, 1) := do_27 (rdb (p := 0) (i := 14) ch_cX10_echoFact_0 rfl)
theorem dX10_echoFact_15 : decode cX10_echoFact 15 = .ok (.aaload, 1) := do_50 (rdb (p := 0) (i := 15) ch_cX10_echoFact_0 rfl)
theorem dX10_echoFact_16 : decode cX10_echoFact 16 = .ok (.astore 5, 2) := do_58 (rdb (p := 0) (i := 16) ch_cX10_echoFact_0 rfl) (rdb (p := 0) (i := 17) ch_cX10_echoFact_0 rfl)
theorem dX10_echoFact_18 : decode cX10_echoFact 18 = .ok (.aload_n 0, 1) := do_42 (rdb (p := 0) (i := 18) ch_cX10_echoFact_0 rfl)
theorem dX10_echoFact_19 : decode cX10_echoFact 19 = .ok (.iload_n 1, 1) := do_27 (rdb (p := 0) (i := 19) ch_cX10_echoFact_0 rfl)
theorem dX10_echoFact_20 : decode cX10_echoFact 20 = .ok (.aload 5, 2) := do_25 (rdb (p := 0) (i := 20) ch_cX10_echoFact_0 rfl) (rdb (p := 0) (i := 21) ch_cX10_echoFact_0 rfl)
theorem dX10_echoFact_22 : decode cX10_echoFact 22 = .ok (.getfield 109, 3) := do_180 (rdb (p := 0) (i := 22) ch_cX10_echoFact_0 rfl) (rdb (p := 0) (i := 23) ch_cX10_echoFact_0 rfl) (rdb (p := 0) (i := 24) ch_cX10_echoFact_0 rfl) rfl
theorem dX10_echoFact_25 : decode cX10_echoFact 25 = .ok (.iload_n 3, 1) := do_29 (rdb (p := 0) (i := 25) ch_cX10_echoFact_0 rfl)
theorem dX10_echoFact_26 : decode cX10_echoFact 26 = .ok (.invokevirtual 92, 3) := do_182 (rdb (p := 0) (i := 26) ch_cX10_echoFact_0 rfl) (rdb (p := 0) (i := 27) ch_cX10_echoFact_0 rfl) (rdb (p := 0) (i := 28) ch_cX10_echoFact_0 rfl) rfl
theorem dX10_echoFact_29 : decode cX10_echoFact 29 = .ok (.istore 6, 2) := do_54 (rdb (p := 0) (i := 29) ch_cX10_echoFact_0 rfl) (rdb (p := 0) (i := 30) ch_cX10_echoFact_0 rfl)
theorem dX10_echoFact_31 : decode cX10_echoFact 31 = .ok (.iload_n 3, 1) := do_29 (rdb (p := 0) (i := 31) ch_cX10_echoFact_0 rfl)
theorem ch_cX10_echoFact_32 : (cX10_echoFact.data.toList.drop 32).take 36 = [21, 6, 184, 0, 112, 54, 7, 42, 180, 0, 19, 42, 180, 0, 10, 25, 5, 180, 0, 109, 29, 21, 6, 184, 0, 84, 182, 0, 95, 28, 21, 6, 182, 0, 116, 54] := by decide +kernel
theorem dX10_echoFact_32 : decode cX10_echoFact 32 = .ok (.iload 6, 2) := do_21 (rdb (p := 32) (i := 0) ch_cX10_echoFact_32 rfl) (rdb (p := 32) (i := 1) ch_cX10_echoFact_32 rfl)
theorem dX10_echoFact_34 : decode cX10_echoFact 34 = .ok (.invokestatic 112, 3) := do_184 (rdb (p := 32) (i := 2) ch_cX10_echoFact_32 rfl) (rdb (p := 32) (i := 3) ch_cX10_echoFact_32 rfl) (rdb (p := 32) (i := 4) ch_cX10_echoFact_32 rfl) rfl
theorem dX10_echoFact_37 : decode cX10_echoFact 37 = .ok (.istore 7, 2) := do_54 (rdb (p := 32) (i := 5) ch_cX10_echoFact_32 rfl) (rdb (p := 32) (i := 6) ch_cX10_echoFact_32 rfl)
theorem dX10_echoFact_39 : decode cX10_echoFact 39 = .ok (.aload_n 0, 1) := do_42 (rdb (p := 32) (i := 7) ch_cX10_echoFact_32 rfl)
theorem dX10_echoFact_40 : decode cX10_echoFact 40 = .ok (.getfield 19, 3) := do_180 (rdb (p := 32) (i := 8) ch_cX10_echoFact_32 rfl) (rdb (p := 32) (i := 9) ch_cX10_echoFact_32 rfl) (rdb (p := 32) (i := 10) ch_cX10_echoFact_32 rfl) rfl
theorem dX10_echoFact_43 : decode cX10_echoFact 43 = .ok (.aload_n 0, 1) := do_42 (rdb (p := 32) (i := 11) ch_cX10_echoFact_32 rfl)
theorem dX10_echoFact_44 : decode cX10_echoFact 44 = .ok (.getfield 10, 3) := do_180 (rdb (p := 32) (i := 12) ch_cX10_echoFact_32 rfl) (rdb (p := 32) (i := 13) ch_cX10_echoFact_32 rfl) (rdb (p := 32) (i := 14) ch_cX10_echoFact_32 rfl) rfl
theorem dX10_echoFact_47 : decode cX10_echoFact 47 = .ok (.aload 5, 2) := do_25 (rdb (p := 32) (i := 15) ch_cX10_echoFact_32 rfl) (rdb (p := 32) (i := 16) ch_cX10_echoFact_32 rfl)
theorem dX10_echoFact_49 : decode cX10_echoFact 49 = .ok (.getfield 109, 3) := do_180 (rdb (p := 32) (i := 17) ch_cX10_echoFact_32 rfl) (rdb (p := 32) (i := 18) ch_cX10_echoFact_32 rfl) (rdb (p := 32) (i := 19) ch_cX10_echoFact_32 rfl) rfl
theorem dX10_echoFact_52 : decode cX10_echoFact 52 = .ok (.iload_n 3, 1) := do_29 (rdb (p := 32) (i := 20) ch_cX10_echoFact_32 rfl)
theorem dX10_echoFact_53 : decode cX10_echoFact 53 = .ok (.iload 6, 2) := do_21 (rdb (p := 32) (i := 21) ch_cX10_echoFact_32 rfl) (rdb (p := 32) (i := 22) ch_cX10_echoFact_32 rfl)
theorem dX10_echoFact_55 : decode cX10_echoFact 55 = .ok (.invokestatic 84, 3) := do_184 (rdb (p := 32) (i := 23) ch_cX10_echoFact_32 rfl) (rdb (p := 32) (i := 24) ch_cX10_echoFact_32 rfl) (rdb (p := 32) (i := 25) ch_cX10_echoFact_32 rfl) rfl
theorem dX10_echoFact_58 : decode cX10_echoFact 58 = .ok (.invokevirtual 95, 3) := do_182 (rdb (p := 32) (i := 26) ch_cX10_echoFact_32 rfl) (rdb (p := 32) (i := 27) ch_cX10_echoFact_32 rfl) (rdb (p := 32) (i := 28) ch_cX10_echoFact_32 rfl) rfl
theorem dX10_echoFact_61 : decode cX10_echoFact 61 = .ok (.iload_n 2, 1) := do_28 (rdb (p := 32) (i := 29) ch_cX10_echoFact_32 rfl)
theorem dX10_echoFact_62 : decode cX10_echoFact 62 = .ok (.iload 6, 2) := do_21 (rdb (p := 32) (i := 30) ch_cX10_echoFact_32 rfl) (rdb (p := 32) (i := 31) ch_cX10_echoFact_32 rfl)
theorem ch_cX10_echoFact_64 : (cX10_echoFact.data.toList.drop 64).take 36 = [182, 0, 116, 54, 8, 29, 25, 5, 180, 0, 119, 100, 16, 7, 126, 54, 9, 21, 4, 170, 0, 0, 0, 80, 0, 0, 0, 0, 0, 0, 0, 4, 0, 0, 0, 33] := by decide +kernel
theorem dX10_echoFact_64 : decode cX10_echoFact 64 = .ok (.invokevirtual 116, 3) := do_182 (rdb (p := 64) (i := 0) ch_cX10_echoFact_64 rfl) (rdb (p := 64) (i := 1) ch_cX10_echoFact_64 rfl) (rdb (p := 64) (i := 2) ch_cX10_echoFact_64 rfl) rfl
theorem dX10_echoFact_67 : decode cX10_echoFact 67 = .ok (.istore 8, 2) := do_54 (rdb (p := 64) (i := 3) ch_cX10_echoFact_64 rfl) (rdb (p := 64) (i := 4) ch_cX10_echoFact_64 rfl)
theorem dX10_echoFact_69 : decode cX10_echoFact 69 = .ok (.iload_n 3, 1) := do_29 (rdb (p := 64) (i := 5) ch_cX10_echoFact_64 rfl)
theorem dX10_echoFact_70 : decode cX10_echoFact 70 = .ok (.aload 5, 2) := do_25 (rdb (p := 64) (i := 6) ch_cX10_echoFact_64 rfl) (rdb (p := 64) (i := 7) ch_cX10_echoFact_64 rfl)
theorem dX10_echoFact_72 : decode cX10_echoFact 72 = .ok (.getfield 119, 3) := do_180 (rdb (p := 64) (i := 8) ch_cX10_echoFact_64 rfl) (rdb (p := 64) (i := 9) ch_cX10_echoFact_64 rfl) (rdb (p := 64) (i := 10) ch_cX10_echoFact_64 rfl) rfl
theorem dX10_echoFact_75 : decode cX10_echoFact 75 = .ok (.isub, 1) := do_100 (rdb (p := 64) (i := 11) ch_cX10_echoFact_64 rfl)
theorem dX10_echoFact_76 : decode cX10_echoFact 76 = .ok (.bipush 7, 2) := do_16 (rdb (p := 64) (i := 12) ch_cX10_echoFact_64 rfl) (rdb (p := 64) (i := 13) ch_cX10_echoFact_64 rfl) (by decide +kernel)
theorem dX10_echoFact_78 : decode cX10_echoFact 78 = .ok (.iand, 1) := do_126 (rdb (p := 64) (i := 14) ch_cX10_echoFact_64 rfl)
theorem dX10_echoFact_79 : decode cX10_echoFact 79 = .ok (.istore 9, 2) := do_54 (rdb (p := 64) (i := 15) ch_cX10_echoFact_64 rfl) (rdb (p := 64) (i := 16) ch_cX10_echoFact_64 rfl)
theorem dX10_echoFact_81 : decode cX10_echoFact 81 = .ok (.iload 4, 2) := do_21 (rdb (p := 64) (i := 17) ch_cX10_echoFact_64 rfl) (rdb (p := 64) (i := 18) ch_cX10_echoFact_64 rfl)
theorem dX10_echoFact_83 : decode cX10_echoFact 83 = .ok (.tableswitch 80 0 4 #[33, 36, 39, 42, 64], 33) := by decide +kernel
theorem ch_cX10_echoFact_96 : (cX10_echoFact.data.toList.drop 96).take 36 = [0, 0, 0, 33, 0, 0, 0, 36, 0, 0, 0, 39, 0, 0, 0, 42, 0, 0, 0, 64, 21, 6, 172, 21, 7, 172, 21, 8, 172, 21, 9, 4, 161, 0, 16, 21] := by decide +kernel
theorem dX10_echoFact_116 : decode cX10_echoFact 116 = .ok (.iload 6, 2) := do_21 (rdb (p := 96) (i := 20) ch_cX10_echoFact_96 rfl) (rdb (p := 96) (i := 21) ch_cX10_echoFact_96 rfl)
theorem dX10_echoFact_118 : decode cX10_echoFact 118 = .ok (.ireturn, 1) := do_172 (rdb (p := 96) (i := 22) ch_cX10_echoFact_96 rfl)
theorem dX10_echoFact_119 : decode cX10_echoFact 119 = .ok (.iload 7, 2) := do_21 (rdb (p := 96) (i := 23) ch_cX10_echoFact_96 rfl) (rdb (p := 96) (i := 24) ch_cX10_echoFact_96 rfl)
theorem dX10_echoFact_121 : decode cX10_echoFact 121 = .ok (.ireturn, 1) := do_172 (rdb (p := 96) (i := 25) ch_cX10_echoFact_96 rfl)
theorem dX10_echoFact_122 : decode cX10_echoFact 122 = .ok (.iload 8, 2) := do_21 (rdb (p := 96) (i := 26) ch_cX10_echoFact_96 rfl) (rdb (p := 96) (i := 27) ch_cX10_echoFact_96 rfl)
theorem dX10_echoFact_124 : decode cX10_echoFact 124 = .ok (.ireturn, 1) := do_172 (rdb (p := 96) (i := 28) ch_cX10_echoFact_96 rfl)
theorem dX10_echoFact_125 : decode cX10_echoFact 125 = .ok (.iload 9, 2) := do_21 (rdb (p := 96) (i := 29) ch_cX10_echoFact_96 rfl) (rdb (p := 96) (i := 30) ch_cX10_echoFact_96 rfl)
theorem dX10_echoFact_127 : decode cX10_echoFact 127 = .ok (.iconst 1, 1) := do_4 (rdb (p := 96) (i := 31) ch_cX10_echoFact_96 rfl)
theorem ch_cX10_echoFact_128 : (cX10_echoFact.data.toList.drop 128).take 36 = [161, 0, 16, 21, 9, 6, 163, 0, 10, 21, 8, 5, 108, 167, 0, 5, 21, 8, 172, 21, 9, 8, 161, 0, 10, 21, 8, 5, 108, 167, 0, 5, 21, 8, 172, 42] := by decide +kernel
theorem dX10_echoFact_128 : decode cX10_echoFact 128 = .ok (.if_icmp .lt 16, 3) := do_161 (rdb (p := 128) (i := 0) ch_cX10_echoFact_128 rfl) (rdb (p := 128) (i := 1) ch_cX10_echoFact_128 rfl) (rdb (p := 128) (i := 2) ch_cX10_echoFact_128 rfl) (by decide +kernel)
theorem dX10_echoFact_131 : decode cX10_echoFact 131 = .ok (.iload 9, 2) := do_21 (rdb (p := 128) (i := 3) ch_cX10_echoFact_128 rfl) (rdb (p := 128) (i := 4) ch_cX10_echoFact_128 rfl)
theorem dX10_echoFact_133 : decode cX10_echoFact 133 = .ok (.iconst 3, 1) := do_6 (rdb (p := 128) (i := 5) ch_cX10_echoFact_128 rfl)
theorem dX10_echoFact_134 : decode cX10_echoFact 134 = .ok (.if_icmp .gt 10, 3) := do_163 (rdb (p := 128) (i := 6) ch_cX10_echoFact_128 rfl) (rdb (p := 128) (i := 7) ch_cX10_echoFact_128 rfl) (rdb (p := 128) (i := 8) ch_cX10_echoFact_128 rfl) (by decide +kernel)
theorem dX10_echoFact_137 : decode cX10_echoFact 137 = .ok (.iload 8, 2) := do_21 (rdb (p := 128) (i := 9) ch_cX10_echoFact_128 rfl) (rdb (p := 128) (i := 10) ch_cX10_echoFact_128 rfl)
theorem dX10_echoFact_139 : decode cX10_echoFact 139 = .ok (.iconst 2, 1) := do_5 (rdb (p := 128) (i := 11) ch_cX10_echoFact_128 rfl)
theorem dX10_echoFact_140 : decode cX10_echoFact 140 = .ok (.idiv, 1) := do_108 (rdb (p := 128) (i := 12) ch_cX10_echoFact_128 rfl)
theorem dX10_echoFact_141 : decode cX10_echoFact 141 = .ok (.goto 5, 3) := do_167 (rdb (p := 128) (i := 13) ch_cX10_echoFact_128 rfl) (rdb (p := 128) (i := 14) ch_cX10_echoFact_128 rfl) (rdb (p := 128) (i := 15) ch_cX10_echoFact_128 rfl) (by decide +kernel)
theorem dX10_echoFact_144 : decode cX10_echoFact 144 = .ok (.iload 8, 2) := do_21 (rdb (p := 128) (i := 16) ch_cX10_echoFact_128 rfl) (rdb (p := 128) (i := 17) ch_cX10_echoFact_128 rfl)
theorem dX10_echoFact_146 : decode cX10_echoFact 146 = .ok (.ireturn, 1) := do_172 (rdb (p := 128) (i := 18) ch_cX10_echoFact_128 rfl)
theorem dX10_echoFact_147 : decode cX10_echoFact 147 = .ok (.iload 9, 2) := do_21 (rdb (p := 128) (i := 19) ch_cX10_echoFact_128 rfl) (rdb (p := 128) (i := 20) ch_cX10_echoFact_128 rfl)
theorem dX10_echoFact_149 : decode cX10_echoFact 149 = .ok (.iconst 5, 1) := do_8 (rdb (p := 128) (i := 21) ch_cX10_echoFact_128 rfl)
theorem dX10_echoFact_150 : decode cX10_echoFact 150 = .ok (.if_icmp .lt 10, 3) := do_161 (rdb (p := 128) (i := 22) ch_cX10_echoFact_128 rfl) (rdb (p := 128) (i := 23) ch_cX10_echoFact_128 rfl) (rdb (p := 128) (i := 24) ch_cX10_echoFact_128 rfl) (by decide +kernel)
theorem dX10_echoFact_153 : decode cX10_echoFact 153 = .ok (.iload 8, 2) := do_21 (rdb (p := 128) (i := 25) ch_cX10_echoFact_128 rfl) (rdb (p := 128) (i := 26) ch_cX10_echoFact_128 rfl)
theorem dX10_echoFact_155 : decode cX10_echoFact 155 = .ok (.iconst 2, 1) := do_5 (rdb (p := 128) (i := 27) ch_cX10_echoFact_128 rfl)
theorem dX10_echoFact_156 : decode cX10_echoFact 156 = .ok (.idiv, 1) := do_108 (rdb (p := 128) (i := 28) ch_cX10_echoFact_128 rfl)
theorem dX10_echoFact_157 : decode cX10_echoFact 157 = .ok (.goto 5, 3) := do_167 (rdb (p := 128) (i := 29) ch_cX10_echoFact_128 rfl) (rdb (p := 128) (i := 30) ch_cX10_echoFact_128 rfl) (rdb (p := 128) (i := 31) ch_cX10_echoFact_128 rfl) (by decide +kernel)
theorem ch_cX10_echoFact_160 : (cX10_echoFact.data.toList.drop 160).take 36 = [21, 8, 172, 42, 180, 0, 19, 25, 5, 182, 0, 99, 28, 21, 7, 21, 8, 182, 0, 122, 153, 0, 7, 4, 167, 0, 4, 3, 172] := by decide +kernel
theorem dX10_echoFact_160 : decode cX10_echoFact 160 = .ok (.iload 8, 2) := do_21 (rdb (p := 160) (i := 0) ch_cX10_echoFact_160 rfl) (rdb (p := 160) (i := 1) ch_cX10_echoFact_160 rfl)
theorem dX10_echoFact_162 : decode cX10_echoFact 162 = .ok (.ireturn, 1) := do_172 (rdb (p := 160) (i := 2) ch_cX10_echoFact_160 rfl)
theorem dX10_echoFact_163 : decode cX10_echoFact 163 = .ok (.aload_n 0, 1) := do_42 (rdb (p := 160) (i := 3) ch_cX10_echoFact_160 rfl)
theorem dX10_echoFact_164 : decode cX10_echoFact 164 = .ok (.getfield 19, 3) := do_180 (rdb (p := 160) (i := 4) ch_cX10_echoFact_160 rfl) (rdb (p := 160) (i := 5) ch_cX10_echoFact_160 rfl) (rdb (p := 160) (i := 6) ch_cX10_echoFact_160 rfl) rfl
theorem dX10_echoFact_167 : decode cX10_echoFact 167 = .ok (.aload 5, 2) := do_25 (rdb (p := 160) (i := 7) ch_cX10_echoFact_160 rfl) (rdb (p := 160) (i := 8) ch_cX10_echoFact_160 rfl)
theorem dX10_echoFact_169 : decode cX10_echoFact 169 = .ok (.invokevirtual 99, 3) := do_182 (rdb (p := 160) (i := 9) ch_cX10_echoFact_160 rfl) (rdb (p := 160) (i := 10) ch_cX10_echoFact_160 rfl) (rdb (p := 160) (i := 11) ch_cX10_echoFact_160 rfl) rfl
theorem dX10_echoFact_172 : decode cX10_echoFact 172 = .ok (.iload_n 2, 1) := do_28 (rdb (p := 160) (i := 12) ch_cX10_echoFact_160 rfl)
theorem dX10_echoFact_173 : decode cX10_echoFact 173 = .ok (.iload 7, 2) := do_21 (rdb (p := 160) (i := 13) ch_cX10_echoFact_160 rfl) (rdb (p := 160) (i := 14) ch_cX10_echoFact_160 rfl)
theorem dX10_echoFact_175 : decode cX10_echoFact 175 = .ok (.iload 8, 2) := do_21 (rdb (p := 160) (i := 15) ch_cX10_echoFact_160 rfl) (rdb (p := 160) (i := 16) ch_cX10_echoFact_160 rfl)
theorem dX10_echoFact_177 : decode cX10_echoFact 177 = .ok (.invokevirtual 122, 3) := do_182 (rdb (p := 160) (i := 17) ch_cX10_echoFact_160 rfl) (rdb (p := 160) (i := 18) ch_cX10_echoFact_160 rfl) (rdb (p := 160) (i := 19) ch_cX10_echoFact_160 rfl) rfl
theorem dX10_echoFact_180 : decode cX10_echoFact 180 = .ok (.ifCond .eq 7, 3) := do_153 (rdb (p := 160) (i := 20) ch_cX10_echoFact_160 rfl) (rdb (p := 160) (i := 21) ch_cX10_echoFact_160 rfl) (rdb (p := 160) (i := 22) ch_cX10_echoFact_160 rfl) (by decide +kernel)
theorem dX10_echoFact_183 : decode cX10_echoFact 183 = .ok (.iconst 1, 1) := do_4 (rdb (p := 160) (i := 23) ch_cX10_echoFact_160 rfl)
theorem dX10_echoFact_184 : decode cX10_echoFact 184 = .ok (.goto 4, 3) := do_167 (rdb (p := 160) (i := 24) ch_cX10_echoFact_160 rfl) (rdb (p := 160) (i := 25) ch_cX10_echoFact_160 rfl) (rdb (p := 160) (i := 26) ch_cX10_echoFact_160 rfl) (by decide +kernel)
theorem dX10_echoFact_187 : decode cX10_echoFact 187 = .ok (.iconst 0, 1) := do_3 (rdb (p := 160) (i := 27) ch_cX10_echoFact_160 rfl)
theorem dX10_echoFact_188 : decode cX10_echoFact 188 = .ok (.ireturn, 1) := do_172 (rdb (p := 160) (i := 28) ch_cX10_echoFact_160 rfl)
theorem ch_cX10_echoYards_0 : (cX10_echoYards.data.toList.drop 0).take 36 = [42, 27, 182, 0, 76, 153, 0, 15, 42, 180, 0, 46, 27, 50, 182, 0, 80, 167, 0, 4, 3, 54, 4, 4, 54, 5, 21, 5, 21, 4, 163, 0, 38, 28, 29, 21] := by decide +kernel
theorem dX10_echoYards_0 : decode cX10_echoYards 0 = .ok (.aload_n 0, 1) := do_42 (rdb (p := 0) (i := 0) ch_cX10_echoYards_0 rfl)
theorem dX10_echoYards_1 : decode cX10_echoYards 1 = .ok (.iload_n 1, 1) := do_27 (rdb (p := 0) (i := 1) ch_cX10_echoYards_0 rfl)
theorem dX10_echoYards_2 : decode cX10_echoYards 2 = .ok (.invokevirtual 76, 3) := do_182 (rdb (p := 0) (i := 2) ch_cX10_echoYards_0 rfl) (rdb (p := 0) (i := 3) ch_cX10_echoYards_0 rfl) (rdb (p := 0) (i := 4) ch_cX10_echoYards_0 rfl) rfl
theorem dX10_echoYards_5 : decode cX10_echoYards 5 = .ok (.ifCond .eq 15, 3) := do_153 (rdb (p := 0) (i := 5) ch_cX10_echoYards_0 rfl) (rdb (p := 0) (i := 6) ch_cX10_echoYards_0 rfl) (rdb (p := 0) (i := 7) ch_cX10_echoYards_0 rfl) (by decide +kernel)
theorem dX10_echoYards_8 : decode cX10_echoYards 8 = .ok (.aload_n 0, 1) := do_42 (rdb (p := 0) (i := 8) ch_cX10_echoYards_0 rfl)
theorem dX10_echoYards_9 : decode cX10_echoYards 9 = .ok (.getfield 46, 3) := do_180 (rdb (p := 0) (i := 9) ch_cX10_echoYards_0 rfl) (rdb (p := 0) (i := 10) ch_cX10_echoYards_0 rfl) (rdb (p := 0) (i := 11) ch_cX10_echoYards_0 rfl) rfl
theorem dX10_echoYards_12 : decode cX10_echoYards 12 = .ok (.iload_n 1, 1) := do_27 (rdb (p := 0) (i := 12) ch_cX10_echoYards_0 rfl)
theorem dX10_echoYards_13 : decode cX10_echoYards 13 = .ok (.aaload, 1) := do_50 (rdb (p := 0) (i := 13) ch_cX10_echoYards_0 rfl)
theorem dX10_echoYards_14 : decode cX10_echoYards 14 = .ok (.invokevirtual 80, 3) := do_182 (rdb (p := 0) (i := 14) ch_cX10_echoYards_0 rfl) (rdb (p := 0) (i := 15) ch_cX10_echoYards_0 rfl) (rdb (p := 0) (i := 16) ch_cX10_echoYards_0 rfl) rfl
theorem dX10_echoYards_17 : decode cX10_echoYards 17 = .ok (.goto 4, 3) := do_167 (rdb (p := 0) (i := 17) ch_cX10_echoYards_0 rfl) (rdb (p := 0) (i := 18) ch_cX10_echoYards_0 rfl) (rdb (p := 0) (i := 19) ch_cX10_echoYards_0 rfl) (by decide +kernel)
theorem dX10_echoYards_20 : decode cX10_echoYards 20 = .ok (.iconst 0, 1) := do_3 (rdb (p := 0) (i := 20) ch_cX10_echoYards_0 rfl)
theorem dX10_echoYards_21 : decode cX10_echoYards 21 = .ok (.istore 4, 2) := do_54 (rdb (p := 0) (i := 21) ch_cX10_echoYards_0 rfl) (rdb (p := 0) (i := 22) ch_cX10_echoYards_0 rfl)
theorem dX10_echoYards_23 : decode cX10_echoYards 23 = .ok (.iconst 1, 1) := do_4 (rdb (p := 0) (i := 23) ch_cX10_echoYards_0 rfl)
theorem dX10_echoYards_24 : decode cX10_echoYards 24 = .ok (.istore 5, 2) := do_54 (rdb (p := 0) (i := 24) ch_cX10_echoYards_0 rfl) (rdb (p := 0) (i := 25) ch_cX10_echoYards_0 rfl)
theorem dX10_echoYards_26 : decode cX10_echoYards 26 = .ok (.iload 5, 2) := do_21 (rdb (p := 0) (i := 26) ch_cX10_echoYards_0 rfl) (rdb (p := 0) (i := 27) ch_cX10_echoYards_0 rfl)
theorem dX10_echoYards_28 : decode cX10_echoYards 28 = .ok (.iload 4, 2) := do_21 (rdb (p := 0) (i := 28) ch_cX10_echoYards_0 rfl) (rdb (p := 0) (i := 29) ch_cX10_echoYards_0 rfl)
theorem dX10_echoYards_30 : decode cX10_echoYards 30 = .ok (.if_icmp .gt 38, 3) := do_163 (rdb (p := 0) (i := 30) ch_cX10_echoYards_0 rfl) (rdb (p := 0) (i := 31) ch_cX10_echoYards_0 rfl) (rdb (p := 0) (i := 32) ch_cX10_echoYards_0 rfl) (by decide +kernel)
theorem ch_cX10_echoYards_32 : (cX10_echoYards.data.toList.drop 32).take 36 = [38, 28, 29, 21, 5, 184, 0, 84, 54, 6, 21, 6, 156, 0, 5, 3, 172, 42, 27, 21, 6, 182, 0, 88, 154, 0, 6, 21, 5, 172, 132, 5, 1, 167, 255, 217] := by decide +kernel
theorem dX10_echoYards_33 : decode cX10_echoYards 33 = .ok (.iload_n 2, 1) := do_28 (rdb (p := 32) (i := 1) ch_cX10_echoYards_32 rfl)
theorem dX10_echoYards_34 : decode cX10_echoYards 34 = .ok (.iload_n 3, 1) := do_29 (rdb (p := 32) (i := 2) ch_cX10_echoYards_32 rfl)
theorem dX10_echoYards_35 : decode cX10_echoYards 35 = .ok (.iload 5, 2) := do_21 (rdb (p := 32) (i := 3) ch_cX10_echoYards_32 rfl) (rdb (p := 32) (i := 4) ch_cX10_echoYards_32 rfl)
theorem dX10_echoYards_37 : decode cX10_echoYards 37 = .ok (.invokestatic 84, 3) := do_184 (rdb (p := 32) (i := 5) ch_cX10_echoYards_32 rfl) (rdb (p := 32) (i := 6) ch_cX10_echoYards_32 rfl) (rdb (p := 32) (i := 7) ch_cX10_echoYards_32 rfl) rfl
theorem dX10_echoYards_40 : decode cX10_echoYards 40 = .ok (.istore 6, 2) := do_54 (rdb (p := 32) (i := 8) ch_cX10_echoYards_32 rfl) (rdb (p := 32) (i := 9) ch_cX10_echoYards_32 rfl)
theorem dX10_echoYards_42 : decode cX10_echoYards 42 = .ok (.iload 6, 2) := do_21 (rdb (p := 32) (i := 10) ch_cX10_echoYards_32 rfl) (rdb (p := 32) (i := 11) ch_cX10_echoYards_32 rfl)
theorem dX10_echoYards_44 : decode cX10_echoYards 44 = .ok (.ifCond .ge 5, 3) := do_156 (rdb (p := 32) (i := 12) ch_cX10_echoYards_32 rfl) (rdb (p := 32) (i := 13) ch_cX10_echoYards_32 rfl) (rdb (p := 32) (i := 14) ch_cX10_echoYards_32 rfl) (by decide +kernel)
theorem dX10_echoYards_47 : decode cX10_echoYards 47 = .ok (.iconst 0, 1) := do_3 (rdb (p := 32) (i := 15) ch_cX10_echoYards_32 rfl)
theorem dX10_echoYards_48 : decode cX10_echoYards 48 = .ok (.ireturn, 1) := do_172 (rdb (p := 32) (i := 16) ch_cX10_echoYards_32 rfl)
theorem dX10_echoYards_49 : decode cX10_echoYards 49 = .ok (.aload_n 0, 1) := do_42 (rdb (p := 32) (i := 17) ch_cX10_echoYards_32 rfl)
theorem dX10_echoYards_50 : decode cX10_echoYards 50 = .ok (.iload_n 1, 1) := do_27 (rdb (p := 32) (i := 18) ch_cX10_echoYards_32 rfl)
theorem dX10_echoYards_51 : decode cX10_echoYards 51 = .ok (.iload 6, 2) := do_21 (rdb (p := 32) (i := 19) ch_cX10_echoYards_32 rfl) (rdb (p := 32) (i := 20) ch_cX10_echoYards_32 rfl)
theorem dX10_echoYards_53 : decode cX10_echoYards 53 = .ok (.invokevirtual 88, 3) := do_182 (rdb (p := 32) (i := 21) ch_cX10_echoYards_32 rfl) (rdb (p := 32) (i := 22) ch_cX10_echoYards_32 rfl) (rdb (p := 32) (i := 23) ch_cX10_echoYards_32 rfl) rfl
theorem dX10_echoYards_56 : decode cX10_echoYards 56 = .ok (.ifCond .ne 6, 3) := do_154 (rdb (p := 32) (i := 24) ch_cX10_echoYards_32 rfl) (rdb (p := 32) (i := 25) ch_cX10_echoYards_32 rfl) (rdb (p := 32) (i := 26) ch_cX10_echoYards_32 rfl) (by decide +kernel)
theorem dX10_echoYards_59 : decode cX10_echoYards 59 = .ok (.iload 5, 2) := do_21 (rdb (p := 32) (i := 27) ch_cX10_echoYards_32 rfl) (rdb (p := 32) (i := 28) ch_cX10_echoYards_32 rfl)
theorem dX10_echoYards_61 : decode cX10_echoYards 61 = .ok (.ireturn, 1) := do_172 (rdb (p := 32) (i := 29) ch_cX10_echoYards_32 rfl)
theorem dX10_echoYards_62 : decode cX10_echoYards 62 = .ok (.iinc 5 1, 3) := do_132 (rdb (p := 32) (i := 30) ch_cX10_echoYards_32 rfl) (rdb (p := 32) (i := 31) ch_cX10_echoYards_32 rfl) (rdb (p := 32) (i := 32) ch_cX10_echoYards_32 rfl) (by decide +kernel)
theorem ch_cX10_echoYards_64 : (cX10_echoYards.data.toList.drop 64).take 36 = [1, 167, 255, 217, 3, 172] := by decide +kernel
theorem dX10_echoYards_65 : decode cX10_echoYards 65 = .ok (.goto (-39), 3) := do_167 (rdb (p := 64) (i := 1) ch_cX10_echoYards_64 rfl) (rdb (p := 64) (i := 2) ch_cX10_echoYards_64 rfl) (rdb (p := 64) (i := 3) ch_cX10_echoYards_64 rfl) (by decide +kernel)
theorem dX10_echoYards_68 : decode cX10_echoYards 68 = .ok (.iconst 0, 1) := do_3 (rdb (p := 64) (i := 4) ch_cX10_echoYards_64 rfl)
theorem dX10_echoYards_69 : decode cX10_echoYards 69 = .ok (.ireturn, 1) := do_172 (rdb (p := 64) (i := 5) ch_cX10_echoYards_64 rfl)
theorem ch_cX10_goOn_0 : (cX10_goOn.data.toList.drop 0).take 36 = [42, 27, 182, 0, 76, 154, 0, 4, 177, 42, 180, 0, 46, 27, 50, 77, 3, 62, 29, 44, 182, 0, 178, 162, 0, 84, 44, 180, 0, 109, 44, 180, 0, 119, 4, 184] := by decide +kernel
theorem dX10_goOn_0 : decode cX10_goOn 0 = .ok (.aload_n 0, 1) := do_42 (rdb (p := 0) (i := 0) ch_cX10_goOn_0 rfl)
theorem dX10_goOn_1 : decode cX10_goOn 1 = .ok (.iload_n 1, 1) := do_27 (rdb (p := 0) (i := 1) ch_cX10_goOn_0 rfl)
theorem dX10_goOn_2 : decode cX10_goOn 2 = .ok (.invokevirtual 76, 3) := do_182 (rdb (p := 0) (i := 2) ch_cX10_goOn_0 rfl) (rdb (p := 0) (i := 3) ch_cX10_goOn_0 rfl) (rdb (p := 0) (i := 4) ch_cX10_goOn_0 rfl) rfl
theorem dX10_goOn_5 : decode cX10_goOn 5 = .ok (.ifCond .ne 4, 3) := do_154 (rdb (p := 0) (i := 5) ch_cX10_goOn_0 rfl) (rdb (p := 0) (i := 6) ch_cX10_goOn_0 rfl) (rdb (p := 0) (i := 7) ch_cX10_goOn_0 rfl) (by decide +kernel)
theorem dX10_goOn_8 : decode cX10_goOn 8 = .ok (.return_, 1) := do_177 (rdb (p := 0) (i := 8) ch_cX10_goOn_0 rfl)
theorem dX10_goOn_9 : decode cX10_goOn 9 = .ok (.aload_n 0, 1) := do_42 (rdb (p := 0) (i := 9) ch_cX10_goOn_0 rfl)
theorem dX10_goOn_10 : decode cX10_goOn 10 = .ok (.getfield 46, 3) := do_180 (rdb (p := 0) (i := 10) ch_cX10_goOn_0 rfl) (rdb (p := 0) (i := 11) ch_cX10_goOn_0 rfl) (rdb (p := 0) (i := 12) ch_cX10_goOn_0 rfl) rfl
theorem dX10_goOn_13 : decode cX10_goOn 13 = .ok (.iload_n 1, 1) := do_27 (rdb (p := 0) (i := 13) ch_cX10_goOn_0 rfl)
theorem dX10_goOn_14 : decode cX10_goOn 14 = .ok (.aaload, 1) := do_50 (rdb (p := 0) (i := 14) ch_cX10_goOn_0 rfl)
theorem dX10_goOn_15 : decode cX10_goOn 15 = .ok (.astore_n 2, 1) := do_77 (rdb (p := 0) (i := 15) ch_cX10_goOn_0 rfl)
theorem dX10_goOn_16 : decode cX10_goOn 16 = .ok (.iconst 0, 1) := do_3 (rdb (p := 0) (i := 16) ch_cX10_goOn_0 rfl)
theorem dX10_goOn_17 : decode cX10_goOn 17 = .ok (.istore_n 3, 1) := do_62 (rdb (p := 0) (i := 17) ch_cX10_goOn_0 rfl)
theorem dX10_goOn_18 : decode cX10_goOn 18 = .ok (.iload_n 3, 1) := do_29 (rdb (p := 0) (i := 18) ch_cX10_goOn_0 rfl)
theorem dX10_goOn_19 : decode cX10_goOn 19 = .ok (.aload_n 2, 1) := do_44 (rdb (p := 0) (i := 19) ch_cX10_goOn_0 rfl)
theorem dX10_goOn_20 : decode cX10_goOn 20 = .ok (.invokevirtual 178, 3) := do_182 (rdb (p := 0) (i := 20) ch_cX10_goOn_0 rfl) (rdb (p := 0) (i := 21) ch_cX10_goOn_0 rfl) (rdb (p := 0) (i := 22) ch_cX10_goOn_0 rfl) rfl
theorem dX10_goOn_23 : decode cX10_goOn 23 = .ok (.if_icmp .ge 84, 3) := do_162 (rdb (p := 0) (i := 23) ch_cX10_goOn_0 rfl) (rdb (p := 0) (i := 24) ch_cX10_goOn_0 rfl) (rdb (p := 0) (i := 25) ch_cX10_goOn_0 rfl) (by decide +kernel)
theorem dX10_goOn_26 : decode cX10_goOn 26 = .ok (.aload_n 2, 1) := do_44 (rdb (p := 0) (i := 26) ch_cX10_goOn_0 rfl)
theorem dX10_goOn_27 : decode cX10_goOn 27 = .ok (.getfield 109, 3) := do_180 (rdb (p := 0) (i := 27) ch_cX10_goOn_0 rfl) (rdb (p := 0) (i := 28) ch_cX10_goOn_0 rfl) (rdb (p := 0) (i := 29) ch_cX10_goOn_0 rfl) rfl
theorem dX10_goOn_30 : decode cX10_goOn 30 = .ok (.aload_n 2, 1) := do_44 (rdb (p := 0) (i := 30) ch_cX10_goOn_0 rfl)
theorem dX10_goOn_31 : decode cX10_goOn 31 = .ok (.getfield 119, 3) := do_180 (rdb (p := 0) (i := 31) ch_cX10_goOn_0 rfl) (rdb (p := 0) (i := 32) ch_cX10_goOn_0 rfl) (rdb (p := 0) (i := 33) ch_cX10_goOn_0 rfl) rfl
theorem ch_cX10_goOn_32 : (cX10_goOn.data.toList.drop 32).take 36 = [0, 119, 4, 184, 0, 84, 54, 4, 42, 180, 0, 10, 21, 4, 182, 0, 181, 154, 0, 21, 44, 89, 180, 0, 66, 4, 96, 181, 0, 66, 44, 21, 4, 6, 182, 0] := by decide +kernel
theorem dX10_goOn_34 : decode cX10_goOn 34 = .ok (.iconst 1, 1) := do_4 (rdb (p := 32) (i := 2) ch_cX10_goOn_32 rfl)
theorem dX10_goOn_35 : decode cX10_goOn 35 = .ok (.invokestatic 84, 3) := do_184 (rdb (p := 32) (i := 3) ch_cX10_goOn_32 rfl) (rdb (p := 32) (i := 4) ch_cX10_goOn_32 rfl) (rdb (p := 32) (i := 5) ch_cX10_goOn_32 rfl) rfl
theorem dX10_goOn_38 : decode cX10_goOn 38 = .ok (.istore 4, 2) := do_54 (rdb (p := 32) (i := 6) ch_cX10_goOn_32 rfl) (rdb (p := 32) (i := 7) ch_cX10_goOn_32 rfl)
theorem dX10_goOn_40 : decode cX10_goOn 40 = .ok (.aload_n 0, 1) := do_42 (rdb (p := 32) (i := 8) ch_cX10_goOn_32 rfl)
theorem dX10_goOn_41 : decode cX10_goOn 41 = .ok (.getfield 10, 3) := do_180 (rdb (p := 32) (i := 9) ch_cX10_goOn_32 rfl) (rdb (p := 32) (i := 10) ch_cX10_goOn_32 rfl) (rdb (p := 32) (i := 11) ch_cX10_goOn_32 rfl) rfl
theorem dX10_goOn_44 : decode cX10_goOn 44 = .ok (.iload 4, 2) := do_21 (rdb (p := 32) (i := 12) ch_cX10_goOn_32 rfl) (rdb (p := 32) (i := 13) ch_cX10_goOn_32 rfl)
theorem dX10_goOn_46 : decode cX10_goOn 46 = .ok (.invokevirtual 181, 3) := do_182 (rdb (p := 32) (i := 14) ch_cX10_goOn_32 rfl) (rdb (p := 32) (i := 15) ch_cX10_goOn_32 rfl) (rdb (p := 32) (i := 16) ch_cX10_goOn_32 rfl) rfl
theorem dX10_goOn_49 : decode cX10_goOn 49 = .ok (.ifCond .ne 21, 3) := do_154 (rdb (p := 32) (i := 17) ch_cX10_goOn_32 rfl) (rdb (p := 32) (i := 18) ch_cX10_goOn_32 rfl) (rdb (p := 32) (i := 19) ch_cX10_goOn_32 rfl) (by decide +kernel)
theorem dX10_goOn_52 : decode cX10_goOn 52 = .ok (.aload_n 2, 1) := do_44 (rdb (p := 32) (i := 20) ch_cX10_goOn_32 rfl)
theorem dX10_goOn_53 : decode cX10_goOn 53 = .ok (.dup, 1) := do_89 (rdb (p := 32) (i := 21) ch_cX10_goOn_32 rfl)
theorem dX10_goOn_54 : decode cX10_goOn 54 = .ok (.getfield 66, 3) := do_180 (rdb (p := 32) (i := 22) ch_cX10_goOn_32 rfl) (rdb (p := 32) (i := 23) ch_cX10_goOn_32 rfl) (rdb (p := 32) (i := 24) ch_cX10_goOn_32 rfl) rfl
theorem dX10_goOn_57 : decode cX10_goOn 57 = .ok (.iconst 1, 1) := do_4 (rdb (p := 32) (i := 25) ch_cX10_goOn_32 rfl)
theorem dX10_goOn_58 : decode cX10_goOn 58 = .ok (.iadd, 1) := do_96 (rdb (p := 32) (i := 26) ch_cX10_goOn_32 rfl)
theorem dX10_goOn_59 : decode cX10_goOn 59 = .ok (.putfield 66, 3) := do_181 (rdb (p := 32) (i := 27) ch_cX10_goOn_32 rfl) (rdb (p := 32) (i := 28) ch_cX10_goOn_32 rfl) (rdb (p := 32) (i := 29) ch_cX10_goOn_32 rfl) rfl
theorem dX10_goOn_62 : decode cX10_goOn 62 = .ok (.aload_n 2, 1) := do_44 (rdb (p := 32) (i := 30) ch_cX10_goOn_32 rfl)
theorem dX10_goOn_63 : decode cX10_goOn 63 = .ok (.iload 4, 2) := do_21 (rdb (p := 32) (i := 31) ch_cX10_goOn_32 rfl) (rdb (p := 32) (i := 32) ch_cX10_goOn_32 rfl)
theorem ch_cX10_goOn_64 : (cX10_goOn.data.toList.drop 64).take 36 = [4, 6, 182, 0, 129, 177, 42, 180, 0, 10, 44, 180, 0, 109, 2, 182, 0, 62, 42, 180, 0, 10, 21, 4, 16, 100, 27, 96, 182, 0, 62, 44, 21, 4, 181, 0] := by decide +kernel
theorem dX10_goOn_65 : decode cX10_goOn 65 = .ok (.iconst 3, 1) := do_6 (rdb (p := 64) (i := 1) ch_cX10_goOn_64 rfl)
theorem dX10_goOn_66 : decode cX10_goOn 66 = .ok (.invokevirtual 129, 3) := do_182 (rdb (p := 64) (i := 2) ch_cX10_goOn_64 rfl) (rdb (p := 64) (i := 3) ch_cX10_goOn_64 rfl) (rdb (p := 64) (i := 4) ch_cX10_goOn_64 rfl) rfl
theorem dX10_goOn_69 : decode cX10_goOn 69 = .ok (.return_, 1) := do_177 (rdb (p := 64) (i := 5) ch_cX10_goOn_64 rfl)
theorem dX10_goOn_70 : decode cX10_goOn 70 = .ok (.aload_n 0, 1) := do_42 (rdb (p := 64) (i := 6) ch_cX10_goOn_64 rfl)
theorem dX10_goOn_71 : decode cX10_goOn 71 = .ok (.getfield 10, 3) := do_180 (rdb (p := 64) (i := 7) ch_cX10_goOn_64 rfl) (rdb (p := 64) (i := 8) ch_cX10_goOn_64 rfl) (rdb (p := 64) (i := 9) ch_cX10_goOn_64 rfl) rfl
theorem dX10_goOn_74 : decode cX10_goOn 74 = .ok (.aload_n 2, 1) := do_44 (rdb (p := 64) (i := 10) ch_cX10_goOn_64 rfl)
theorem dX10_goOn_75 : decode cX10_goOn 75 = .ok (.getfield 109, 3) := do_180 (rdb (p := 64) (i := 11) ch_cX10_goOn_64 rfl) (rdb (p := 64) (i := 12) ch_cX10_goOn_64 rfl) (rdb (p := 64) (i := 13) ch_cX10_goOn_64 rfl) rfl
theorem dX10_goOn_78 : decode cX10_goOn 78 = .ok (.iconst (-1), 1) := do_2 (rdb (p := 64) (i := 14) ch_cX10_goOn_64 rfl)
theorem dX10_goOn_79 : decode cX10_goOn 79 = .ok (.invokevirtual 62, 3) := do_182 (rdb (p := 64) (i := 15) ch_cX10_goOn_64 rfl) (rdb (p := 64) (i := 16) ch_cX10_goOn_64 rfl) (rdb (p := 64) (i := 17) ch_cX10_goOn_64 rfl) rfl
theorem dX10_goOn_82 : decode cX10_goOn 82 = .ok (.aload_n 0, 1) := do_42 (rdb (p := 64) (i := 18) ch_cX10_goOn_64 rfl)
theorem dX10_goOn_83 : decode cX10_goOn 83 = .ok (.getfield 10, 3) := do_180 (rdb (p := 64) (i := 19) ch_cX10_goOn_64 rfl) (rdb (p := 64) (i := 20) ch_cX10_goOn_64 rfl) (rdb (p := 64) (i := 21) ch_cX10_goOn_64 rfl) rfl
theorem dX10_goOn_86 : decode cX10_goOn 86 = .ok (.iload 4, 2) := do_21 (rdb (p := 64) (i := 22) ch_cX10_goOn_64 rfl) (rdb (p := 64) (i := 23) ch_cX10_goOn_64 rfl)
theorem dX10_goOn_88 : decode cX10_goOn 88 = .ok (.bipush 100, 2) := do_16 (rdb (p := 64) (i := 24) ch_cX10_goOn_64 rfl) (rdb (p := 64) (i := 25) ch_cX10_goOn_64 rfl) (by decide +kernel)
theorem dX10_goOn_90 : decode cX10_goOn 90 = .ok (.iload_n 1, 1) := do_27 (rdb (p := 64) (i := 26) ch_cX10_goOn_64 rfl)
theorem dX10_goOn_91 : decode cX10_goOn 91 = .ok (.iadd, 1) := do_96 (rdb (p := 64) (i := 27) ch_cX10_goOn_64 rfl)
theorem dX10_goOn_92 : decode cX10_goOn 92 = .ok (.invokevirtual 62, 3) := do_182 (rdb (p := 64) (i := 28) ch_cX10_goOn_64 rfl) (rdb (p := 64) (i := 29) ch_cX10_goOn_64 rfl) (rdb (p := 64) (i := 30) ch_cX10_goOn_64 rfl) rfl
theorem dX10_goOn_95 : decode cX10_goOn 95 = .ok (.aload_n 2, 1) := do_44 (rdb (p := 64) (i := 31) ch_cX10_goOn_64 rfl)
theorem ch_cX10_goOn_96 : (cX10_goOn.data.toList.drop 96).take 36 = [21, 4, 181, 0, 109, 132, 3, 1, 167, 255, 170, 177] := by decide +kernel
theorem dX10_goOn_96 : decode cX10_goOn 96 = .ok (.iload 4, 2) := do_21 (rdb (p := 96) (i := 0) ch_cX10_goOn_96 rfl) (rdb (p := 96) (i := 1) ch_cX10_goOn_96 rfl)
theorem dX10_goOn_98 : decode cX10_goOn 98 = .ok (.putfield 109, 3) := do_181 (rdb (p := 96) (i := 2) ch_cX10_goOn_96 rfl) (rdb (p := 96) (i := 3) ch_cX10_goOn_96 rfl) (rdb (p := 96) (i := 4) ch_cX10_goOn_96 rfl) rfl
theorem dX10_goOn_101 : decode cX10_goOn 101 = .ok (.iinc 3 1, 3) := do_132 (rdb (p := 96) (i := 5) ch_cX10_goOn_96 rfl) (rdb (p := 96) (i := 6) ch_cX10_goOn_96 rfl) (rdb (p := 96) (i := 7) ch_cX10_goOn_96 rfl) (by decide +kernel)
theorem dX10_goOn_104 : decode cX10_goOn 104 = .ok (.goto (-86), 3) := do_167 (rdb (p := 96) (i := 8) ch_cX10_goOn_96 rfl) (rdb (p := 96) (i := 9) ch_cX10_goOn_96 rfl) (rdb (p := 96) (i := 10) ch_cX10_goOn_96 rfl) (by decide +kernel)
theorem dX10_goOn_107 : decode cX10_goOn 107 = .ok (.return_, 1) := do_177 (rdb (p := 96) (i := 11) ch_cX10_goOn_96 rfl)
theorem dX10_hasWalker_0 : decode cX10_hasWalker 0 = .ok (.iload_n 1, 1) := by decide +kernel
theorem dX10_hasWalker_1 : decode cX10_hasWalker 1 = .ok (.ifCond .lt 21, 3) := by decide +kernel
theorem dX10_hasWalker_4 : decode cX10_hasWalker 4 = .ok (.iload_n 1, 1) := by decide +kernel
theorem dX10_hasWalker_5 : decode cX10_hasWalker 5 = .ok (.aload_n 0, 1) := by decide +kernel
theorem dX10_hasWalker_6 : decode cX10_hasWalker 6 = .ok (.getfield 50, 3) := by decide +kernel
theorem dX10_hasWalker_9 : decode cX10_hasWalker 9 = .ok (.if_icmp .ge 13, 3) := by decide +kernel
theorem dX10_hasWalker_12 : decode cX10_hasWalker 12 = .ok (.iload_n 1, 1) := by decide +kernel
theorem dX10_hasWalker_13 : decode cX10_hasWalker 13 = .ok (.bipush 8, 2) := by decide +kernel
theorem dX10_hasWalker_15 : decode cX10_hasWalker 15 = .ok (.if_icmp .ge 7, 3) := by decide +kernel
theorem dX10_hasWalker_18 : decode cX10_hasWalker 18 = .ok (.iconst 1, 1) := by decide +kernel
theorem dX10_hasWalker_19 : decode cX10_hasWalker 19 = .ok (.goto 4, 3) := by decide +kernel
theorem dX10_hasWalker_22 : decode cX10_hasWalker 22 = .ok (.iconst 0, 1) := by decide +kernel
theorem dX10_hasWalker_23 : decode cX10_hasWalker 23 = .ok (.ireturn, 1) := by decide +kernel
theorem ch_cX10_heardYards_0 : (cX10_heardYards.data.toList.drop 0).take 36 = [42, 27, 28, 29, 182, 0, 92, 54, 4, 21, 4, 153, 0, 11, 42, 27, 182, 0, 76, 154, 0, 5, 3, 172, 42, 180, 0, 46, 27, 50, 58, 5, 42, 180, 0, 10] := by decide +kernel
theorem dX10_heardYards_0 : decode cX10_heardYards 0 = .ok (.aload_n 0, 1) := do_42 (rdb (p := 0) (i := 0) ch_cX10_heardYards_0 rfl)
theorem dX10_heardYards_1 : decode cX10_heardYards 1 = .ok (.iload_n 1, 1) := do_27 (rdb (p := 0) (i := 1) ch_cX10_heardYards_0 rfl)
theorem dX10_heardYards_2 : decode cX10_heardYards 2 = .ok (.iload_n 2, 1) := do_28 (rdb (p := 0) (i := 2) ch_cX10_heardYards_0 rfl)
theorem dX10_heardYards_3 : decode cX10_heardYards 3 = .ok (.iload_n 3, 1) := do_29 (rdb (p := 0) (i := 3) ch_cX10_heardYards_0 rfl)
theorem dX10_heardYards_4 : decode cX10_heardYards 4 = .ok (.invokevirtual 92, 3) := do_182 (rdb (p := 0) (i := 4) ch_cX10_heardYards_0 rfl) (rdb (p := 0) (i := 5) ch_cX10_heardYards_0 rfl) (rdb (p := 0) (i := 6) ch_cX10_heardYards_0 rfl) rfl
theorem dX10_heardYards_7 : decode cX10_heardYards 7 = .ok (.istore 4, 2) := do_54 (rdb (p := 0) (i := 7) ch_cX10_heardYards_0 rfl) (rdb (p := 0) (i := 8) ch_cX10_heardYards_0 rfl)
theorem dX10_heardYards_9 : decode cX10_heardYards 9 = .ok (.iload 4, 2) := do_21 (rdb (p := 0) (i := 9) ch_cX10_heardYards_0 rfl) (rdb (p := 0) (i := 10) ch_cX10_heardYards_0 rfl)
theorem dX10_heardYards_11 : decode cX10_heardYards 11 = .ok (.ifCond .eq 11, 3) := do_153 (rdb (p := 0) (i := 11) ch_cX10_heardYards_0 rfl) (rdb (p := 0) (i := 12) ch_cX10_heardYards_0 rfl) (rdb (p := 0) (i := 13) ch_cX10_heardYards_0 rfl) (by decide +kernel)
theorem dX10_heardYards_14 : decode cX10_heardYards 14 = .ok (.aload_n 0, 1) := do_42 (rdb (p := 0) (i := 14) ch_cX10_heardYards_0 rfl)
theorem dX10_heardYards_15 : decode cX10_heardYards 15 = .ok (.iload_n 1, 1) := do_27 (rdb (p := 0) (i := 15) ch_cX10_heardYards_0 rfl)
theorem dX10_heardYards_16 : decode cX10_heardYards 16 = .ok (.invokevirtual 76, 3) := do_182 (rdb (p := 0) (i := 16) ch_cX10_heardYards_0 rfl) (rdb (p := 0) (i := 17) ch_cX10_heardYards_0 rfl) (rdb (p := 0) (i := 18) ch_cX10_heardYards_0 rfl) rfl
theorem dX10_heardYards_19 : decode cX10_heardYards 19 = .ok (.ifCond .ne 5, 3) := do_154 (rdb (p := 0) (i := 19) ch_cX10_heardYards_0 rfl) (rdb (p := 0) (i := 20) ch_cX10_heardYards_0 rfl) (rdb (p := 0) (i := 21) ch_cX10_heardYards_0 rfl) (by decide +kernel)
theorem dX10_heardYards_22 : decode cX10_heardYards 22 = .ok (.iconst 0, 1) := do_3 (rdb (p := 0) (i := 22) ch_cX10_heardYards_0 rfl)
theorem dX10_heardYards_23 : decode cX10_heardYards 23 = .ok (.ireturn, 1) := do_172 (rdb (p := 0) (i := 23) ch_cX10_heardYards_0 rfl)
theorem dX10_heardYards_24 : decode cX10_heardYards 24 = .ok (.aload_n 0, 1) := do_42 (rdb (p := 0) (i := 24) ch_cX10_heardYards_0 rfl)
theorem dX10_heardYards_25 : decode cX10_heardYards 25 = .ok (.getfield 46, 3) := do_180 (rdb (p := 0) (i := 25) ch_cX10_heardYards_0 rfl) (rdb (p := 0) (i := 26) ch_cX10_heardYards_0 rfl) (rdb (p := 0) (i := 27) ch_cX10_heardYards_0 rfl) rfl
theorem dX10_heardYards_28 : decode cX10_heardYards 28 = .ok (.iload_n 1, 1) := do_27 (rdb (p := 0) (i := 28) ch_cX10_heardYards_0 rfl)
theorem dX10_heardYards_29 : decode cX10_heardYards 29 = .ok (.aaload, 1) := do_50 (rdb (p := 0) (i := 29) ch_cX10_heardYards_0 rfl)
theorem dX10_heardYards_30 : decode cX10_heardYards 30 = .ok (.astore 5, 2) := do_58 (rdb (p := 0) (i := 30) ch_cX10_heardYards_0 rfl) (rdb (p := 0) (i := 31) ch_cX10_heardYards_0 rfl)
theorem ch_cX10_heardYards_32 : (cX10_heardYards.data.toList.drop 32).take 36 = [42, 180, 0, 10, 28, 29, 21, 4, 184, 0, 84, 182, 0, 95, 54, 6, 42, 180, 0, 19, 25, 5, 182, 0, 99, 21, 6, 25, 5, 182, 0, 102, 21, 4, 29, 182] := by decide +kernel
theorem dX10_heardYards_32 : decode cX10_heardYards 32 = .ok (.aload_n 0, 1) := do_42 (rdb (p := 32) (i := 0) ch_cX10_heardYards_32 rfl)
theorem dX10_heardYards_33 : decode cX10_heardYards 33 = .ok (.getfield 10, 3) := do_180 (rdb (p := 32) (i := 1) ch_cX10_heardYards_32 rfl) (rdb (p := 32) (i := 2) ch_cX10_heardYards_32 rfl) (rdb (p := 32) (i := 3) ch_cX10_heardYards_32 rfl) rfl
theorem dX10_heardYards_36 : decode cX10_heardYards 36 = .ok (.iload_n 2, 1) := do_28 (rdb (p := 32) (i := 4) ch_cX10_heardYards_32 rfl)
theorem dX10_heardYards_37 : decode cX10_heardYards 37 = .ok (.iload_n 3, 1) := do_29 (rdb (p := 32) (i := 5) ch_cX10_heardYards_32 rfl)
theorem dX10_heardYards_38 : decode cX10_heardYards 38 = .ok (.iload 4, 2) := do_21 (rdb (p := 32) (i := 6) ch_cX10_heardYards_32 rfl) (rdb (p := 32) (i := 7) ch_cX10_heardYards_32 rfl)
theorem dX10_heardYards_40 : decode cX10_heardYards 40 = .ok (.invokestatic 84, 3) := do_184 (rdb (p := 32) (i := 8) ch_cX10_heardYards_32 rfl) (rdb (p := 32) (i := 9) ch_cX10_heardYards_32 rfl) (rdb (p := 32) (i := 10) ch_cX10_heardYards_32 rfl) rfl
theorem dX10_heardYards_43 : decode cX10_heardYards 43 = .ok (.invokevirtual 95, 3) := do_182 (rdb (p := 32) (i := 11) ch_cX10_heardYards_32 rfl) (rdb (p := 32) (i := 12) ch_cX10_heardYards_32 rfl) (rdb (p := 32) (i := 13) ch_cX10_heardYards_32 rfl) rfl
theorem dX10_heardYards_46 : decode cX10_heardYards 46 = .ok (.istore 6, 2) := do_54 (rdb (p := 32) (i := 14) ch_cX10_heardYards_32 rfl) (rdb (p := 32) (i := 15) ch_cX10_heardYards_32 rfl)
theorem dX10_heardYards_48 : decode cX10_heardYards 48 = .ok (.aload_n 0, 1) := do_42 (rdb (p := 32) (i := 16) ch_cX10_heardYards_32 rfl)
theorem dX10_heardYards_49 : decode cX10_heardYards 49 = .ok (.getfield 19, 3) := do_180 (rdb (p := 32) (i := 17) ch_cX10_heardYards_32 rfl) (rdb (p := 32) (i := 18) ch_cX10_heardYards_32 rfl) (rdb (p := 32) (i := 19) ch_cX10_heardYards_32 rfl) rfl
theorem dX10_heardYards_52 : decode cX10_heardYards 52 = .ok (.aload 5, 2) := do_25 (rdb (p := 32) (i := 20) ch_cX10_heardYards_32 rfl) (rdb (p := 32) (i := 21) ch_cX10_heardYards_32 rfl)
theorem dX10_heardYards_54 : decode cX10_heardYards 54 = .ok (.invokevirtual 99, 3) := do_182 (rdb (p := 32) (i := 22) ch_cX10_heardYards_32 rfl) (rdb (p := 32) (i := 23) ch_cX10_heardYards_32 rfl) (rdb (p := 32) (i := 24) ch_cX10_heardYards_32 rfl) rfl
theorem dX10_heardYards_57 : decode cX10_heardYards 57 = .ok (.iload 6, 2) := do_21 (rdb (p := 32) (i := 25) ch_cX10_heardYards_32 rfl) (rdb (p := 32) (i := 26) ch_cX10_heardYards_32 rfl)
theorem dX10_heardYards_59 : decode cX10_heardYards 59 = .ok (.aload 5, 2) := do_25 (rdb (p := 32) (i := 27) ch_cX10_heardYards_32 rfl) (rdb (p := 32) (i := 28) ch_cX10_heardYards_32 rfl)
theorem dX10_heardYards_61 : decode cX10_heardYards 61 = .ok (.invokevirtual 102, 3) := do_182 (rdb (p := 32) (i := 29) ch_cX10_heardYards_32 rfl) (rdb (p := 32) (i := 30) ch_cX10_heardYards_32 rfl) (rdb (p := 32) (i := 31) ch_cX10_heardYards_32 rfl) rfl
theorem ch_cX10_heardYards_64 : (cX10_heardYards.data.toList.drop 64).take 36 = [21, 4, 29, 182, 0, 105, 153, 0, 8, 21, 4, 167, 0, 4, 3, 172] := by decide +kernel
theorem dX10_heardYards_64 : decode cX10_heardYards 64 = .ok (.iload 4, 2) := do_21 (rdb (p := 64) (i := 0) ch_cX10_heardYards_64 rfl) (rdb (p := 64) (i := 1) ch_cX10_heardYards_64 rfl)
theorem dX10_heardYards_66 : decode cX10_heardYards 66 = .ok (.iload_n 3, 1) := do_29 (rdb (p := 64) (i := 2) ch_cX10_heardYards_64 rfl)
theorem dX10_heardYards_67 : decode cX10_heardYards 67 = .ok (.invokevirtual 105, 3) := do_182 (rdb (p := 64) (i := 3) ch_cX10_heardYards_64 rfl) (rdb (p := 64) (i := 4) ch_cX10_heardYards_64 rfl) (rdb (p := 64) (i := 5) ch_cX10_heardYards_64 rfl) rfl
theorem dX10_heardYards_70 : decode cX10_heardYards 70 = .ok (.ifCond .eq 8, 3) := do_153 (rdb (p := 64) (i := 6) ch_cX10_heardYards_64 rfl) (rdb (p := 64) (i := 7) ch_cX10_heardYards_64 rfl) (rdb (p := 64) (i := 8) ch_cX10_heardYards_64 rfl) (by decide +kernel)
theorem dX10_heardYards_73 : decode cX10_heardYards 73 = .ok (.iload 4, 2) := do_21 (rdb (p := 64) (i := 9) ch_cX10_heardYards_64 rfl) (rdb (p := 64) (i := 10) ch_cX10_heardYards_64 rfl)
theorem dX10_heardYards_75 : decode cX10_heardYards 75 = .ok (.goto 4, 3) := do_167 (rdb (p := 64) (i := 11) ch_cX10_heardYards_64 rfl) (rdb (p := 64) (i := 12) ch_cX10_heardYards_64 rfl) (rdb (p := 64) (i := 13) ch_cX10_heardYards_64 rfl) (by decide +kernel)
theorem dX10_heardYards_78 : decode cX10_heardYards 78 = .ok (.iconst 0, 1) := do_3 (rdb (p := 64) (i := 14) ch_cX10_heardYards_64 rfl)
theorem dX10_heardYards_79 : decode cX10_heardYards 79 = .ok (.ireturn, 1) := do_172 (rdb (p := 64) (i := 15) ch_cX10_heardYards_64 rfl)
theorem ch_cX10_isFreeBut_0 : (cX10_isFreeBut.data.toList.drop 0).take 36 = [28, 155, 0, 10, 28, 17, 0, 192, 161, 0, 5, 3, 172, 42, 180, 0, 10, 180, 0, 72, 28, 46, 62, 29, 2, 159, 0, 11, 29, 16, 100, 27, 96, 160, 0, 7] := by decide +kernel
theorem dX10_isFreeBut_0 : decode cX10_isFreeBut 0 = .ok (.iload_n 2, 1) := do_28 (rdb (p := 0) (i := 0) ch_cX10_isFreeBut_0 rfl)
theorem dX10_isFreeBut_1 : decode cX10_isFreeBut 1 = .ok (.ifCond .lt 10, 3) := do_155 (rdb (p := 0) (i := 1) ch_cX10_isFreeBut_0 rfl) (rdb (p := 0) (i := 2) ch_cX10_isFreeBut_0 rfl) (rdb (p := 0) (i := 3) ch_cX10_isFreeBut_0 rfl) (by decide +kernel)
theorem dX10_isFreeBut_4 : decode cX10_isFreeBut 4 = .ok (.iload_n 2, 1) := do_28 (rdb (p := 0) (i := 4) ch_cX10_isFreeBut_0 rfl)
theorem dX10_isFreeBut_5 : decode cX10_isFreeBut 5 = .ok (.sipush 192, 3) := do_17 (rdb (p := 0) (i := 5) ch_cX10_isFreeBut_0 rfl) (rdb (p := 0) (i := 6) ch_cX10_isFreeBut_0 rfl) (rdb (p := 0) (i := 7) ch_cX10_isFreeBut_0 rfl) (by decide +kernel)
theorem dX10_isFreeBut_8 : decode cX10_isFreeBut 8 = .ok (.if_icmp .lt 5, 3) := do_161 (rdb (p := 0) (i := 8) ch_cX10_isFreeBut_0 rfl) (rdb (p := 0) (i := 9) ch_cX10_isFreeBut_0 rfl) (rdb (p := 0) (i := 10) ch_cX10_isFreeBut_0 rfl) (by decide +kernel)
theorem dX10_isFreeBut_11 : decode cX10_isFreeBut 11 = .ok (.iconst 0, 1) := do_3 (rdb (p := 0) (i := 11) ch_cX10_isFreeBut_0 rfl)
theorem dX10_isFreeBut_12 : decode cX10_isFreeBut 12 = .ok (.ireturn, 1) := do_172 (rdb (p := 0) (i := 12) ch_cX10_isFreeBut_0 rfl)
theorem dX10_isFreeBut_13 : decode cX10_isFreeBut 13 = .ok (.aload_n 0, 1) := do_42 (rdb (p := 0) (i := 13) ch_cX10_isFreeBut_0 rfl)
theorem dX10_isFreeBut_14 : decode cX10_isFreeBut 14 = .ok (.getfield 10, 3) := do_180 (rdb (p := 0) (i := 14) ch_cX10_isFreeBut_0 rfl) (rdb (p := 0) (i := 15) ch_cX10_isFreeBut_0 rfl) (rdb (p := 0) (i := 16) ch_cX10_isFreeBut_0 rfl) rfl
theorem dX10_isFreeBut_17 : decode cX10_isFreeBut 17 = .ok (.getfield 72, 3) := do_180 (rdb (p := 0) (i := 17) ch_cX10_isFreeBut_0 rfl) (rdb (p := 0) (i := 18) ch_cX10_isFreeBut_0 rfl) (rdb (p := 0) (i := 19) ch_cX10_isFreeBut_0 rfl) rfl
theorem dX10_isFreeBut_20 : decode cX10_isFreeBut 20 = .ok (.iload_n 2, 1) := do_28 (rdb (p := 0) (i := 20) ch_cX10_isFreeBut_0 rfl)
theorem dX10_isFreeBut_21 : decode cX10_isFreeBut 21 = .ok (.iaload, 1) := do_46 (rdb (p := 0) (i := 21) ch_cX10_isFreeBut_0 rfl)
theorem dX10_isFreeBut_22 : decode cX10_isFreeBut 22 = .ok (.istore_n 3, 1) := do_62 (rdb (p := 0) (i := 22) ch_cX10_isFreeBut_0 rfl)
theorem dX10_isFreeBut_23 : decode cX10_isFreeBut 23 = .ok (.iload_n 3, 1) := do_29 (rdb (p := 0) (i := 23) ch_cX10_isFreeBut_0 rfl)
theorem dX10_isFreeBut_24 : decode cX10_isFreeBut 24 = .ok (.iconst (-1), 1) := do_2 (rdb (p := 0) (i := 24) ch_cX10_isFreeBut_0 rfl)
theorem dX10_isFreeBut_25 : decode cX10_isFreeBut 25 = .ok (.if_icmp .eq 11, 3) := do_159 (rdb (p := 0) (i := 25) ch_cX10_isFreeBut_0 rfl) (rdb (p := 0) (i := 26) ch_cX10_isFreeBut_0 rfl) (rdb (p := 0) (i := 27) ch_cX10_isFreeBut_0 rfl) (by decide +kernel)
theorem dX10_isFreeBut_28 : decode cX10_isFreeBut 28 = .ok (.iload_n 3, 1) := do_29 (rdb (p := 0) (i := 28) ch_cX10_isFreeBut_0 rfl)
theorem dX10_isFreeBut_29 : decode cX10_isFreeBut 29 = .ok (.bipush 100, 2) := do_16 (rdb (p := 0) (i := 29) ch_cX10_isFreeBut_0 rfl) (rdb (p := 0) (i := 30) ch_cX10_isFreeBut_0 rfl) (by decide +kernel)
theorem dX10_isFreeBut_31 : decode cX10_isFreeBut 31 = .ok (.iload_n 1, 1) := do_27 (rdb (p := 0) (i := 31) ch_cX10_isFreeBut_0 rfl)
theorem ch_cX10_isFreeBut_32 : (cX10_isFreeBut.data.toList.drop 32).take 36 = [96, 160, 0, 7, 4, 167, 0, 4, 3, 172] := by decide +kernel
theorem dX10_isFreeBut_32 : decode cX10_isFreeBut 32 = .ok (.iadd, 1) := do_96 (rdb (p := 32) (i := 0) ch_cX10_isFreeBut_32 rfl)
theorem dX10_isFreeBut_33 : decode cX10_isFreeBut 33 = .ok (.if_icmp .ne 7, 3) := do_160 (rdb (p := 32) (i := 1) ch_cX10_isFreeBut_32 rfl) (rdb (p := 32) (i := 2) ch_cX10_isFreeBut_32 rfl) (rdb (p := 32) (i := 3) ch_cX10_isFreeBut_32 rfl) (by decide +kernel)
theorem dX10_isFreeBut_36 : decode cX10_isFreeBut 36 = .ok (.iconst 1, 1) := do_4 (rdb (p := 32) (i := 4) ch_cX10_isFreeBut_32 rfl)
theorem dX10_isFreeBut_37 : decode cX10_isFreeBut 37 = .ok (.goto 4, 3) := do_167 (rdb (p := 32) (i := 5) ch_cX10_isFreeBut_32 rfl) (rdb (p := 32) (i := 6) ch_cX10_isFreeBut_32 rfl) (rdb (p := 32) (i := 7) ch_cX10_isFreeBut_32 rfl) (by decide +kernel)
theorem dX10_isFreeBut_40 : decode cX10_isFreeBut 40 = .ok (.iconst 0, 1) := do_3 (rdb (p := 32) (i := 8) ch_cX10_isFreeBut_32 rfl)
theorem dX10_isFreeBut_41 : decode cX10_isFreeBut 41 = .ok (.ireturn, 1) := do_172 (rdb (p := 32) (i := 9) ch_cX10_isFreeBut_32 rfl)
theorem ch_cX10_letWalkerGo_0 : (cX10_letWalkerGo.data.toList.drop 0).take 36 = [42, 27, 182, 0, 76, 154, 0, 4, 177, 42, 180, 0, 46, 27, 50, 77, 44, 180, 0, 151, 62, 29, 158, 0, 26, 42, 180, 0, 54, 29, 112, 154, 0, 17, 44, 4] := by decide +kernel
theorem dX10_letWalkerGo_0 : decode cX10_letWalkerGo 0 = .ok (.aload_n 0, 1) := do_42 (rdb (p := 0) (i := 0) ch_cX10_letWalkerGo_0 rfl)
theorem dX10_letWalkerGo_1 : decode cX10_letWalkerGo 1 = .ok (.iload_n 1, 1) := do_27 (rdb (p := 0) (i := 1) ch_cX10_letWalkerGo_0 rfl)
theorem dX10_letWalkerGo_2 : decode cX10_letWalkerGo 2 = .ok (.invokevirtual 76, 3) := do_182 (rdb (p := 0) (i := 2) ch_cX10_letWalkerGo_0 rfl) (rdb (p := 0) (i := 3) ch_cX10_letWalkerGo_0 rfl) (rdb (p := 0) (i := 4) ch_cX10_letWalkerGo_0 rfl) rfl
theorem dX10_letWalkerGo_5 : decode cX10_letWalkerGo 5 = .ok (.ifCond .ne 4, 3) := do_154 (rdb (p := 0) (i := 5) ch_cX10_letWalkerGo_0 rfl) (rdb (p := 0) (i := 6) ch_cX10_letWalkerGo_0 rfl) (rdb (p := 0) (i := 7) ch_cX10_letWalkerGo_0 rfl) (by decide +kernel)
theorem dX10_letWalkerGo_8 : decode cX10_letWalkerGo 8 = .ok (.return_, 1) := do_177 (rdb (p := 0) (i := 8) ch_cX10_letWalkerGo_0 rfl)
theorem dX10_letWalkerGo_9 : decode cX10_letWalkerGo 9 = .ok (.aload_n 0, 1) := do_42 (rdb (p := 0) (i := 9) ch_cX10_letWalkerGo_0 rfl)
theorem dX10_letWalkerGo_10 : decode cX10_letWalkerGo 10 = .ok (.getfield 46, 3) := do_180 (rdb (p := 0) (i := 10) ch_cX10_letWalkerGo_0 rfl) (rdb (p := 0) (i := 11) ch_cX10_letWalkerGo_0 rfl) (rdb (p := 0) (i := 12) ch_cX10_letWalkerGo_0 rfl) rfl
theorem dX10_letWalkerGo_13 : decode cX10_letWalkerGo 13 = .ok (.iload_n 1, 1) := do_27 (rdb (p := 0) (i := 13) ch_cX10_letWalkerGo_0 rfl)
theorem dX10_letWalkerGo_14 : decode cX10_letWalkerGo 14 = .ok (.aaload, 1) := do_50 (rdb (p := 0) (i := 14) ch_cX10_letWalkerGo_0 rfl)
theorem dX10_letWalkerGo_15 : decode cX10_letWalkerGo 15 = .ok (.astore_n 2, 1) := do_77 (rdb (p := 0) (i := 15) ch_cX10_letWalkerGo_0 rfl)
theorem dX10_letWalkerGo_16 : decode cX10_letWalkerGo 16 = .ok (.aload_n 2, 1) := do_44 (rdb (p := 0) (i := 16) ch_cX10_letWalkerGo_0 rfl)
theorem dX10_letWalkerGo_17 : decode cX10_letWalkerGo 17 = .ok (.getfield 151, 3) := do_180 (rdb (p := 0) (i := 17) ch_cX10_letWalkerGo_0 rfl) (rdb (p := 0) (i := 18) ch_cX10_letWalkerGo_0 rfl) (rdb (p := 0) (i := 19) ch_cX10_letWalkerGo_0 rfl) rfl
theorem dX10_letWalkerGo_20 : decode cX10_letWalkerGo 20 = .ok (.istore_n 3, 1) := do_62 (rdb (p := 0) (i := 20) ch_cX10_letWalkerGo_0 rfl)
theorem dX10_letWalkerGo_21 : decode cX10_letWalkerGo 21 = .ok (.iload_n 3, 1) := do_29 (rdb (p := 0) (i := 21) ch_cX10_letWalkerGo_0 rfl)
theorem dX10_letWalkerGo_22 : decode cX10_letWalkerGo 22 = .ok (.ifCond .le 26, 3) := do_158 (rdb (p := 0) (i := 22) ch_cX10_letWalkerGo_0 rfl) (rdb (p := 0) (i := 23) ch_cX10_letWalkerGo_0 rfl) (rdb (p := 0) (i := 24) ch_cX10_letWalkerGo_0 rfl) (by decide +kernel)
theorem dX10_letWalkerGo_25 : decode cX10_letWalkerGo 25 = .ok (.aload_n 0, 1) := do_42 (rdb (p := 0) (i := 25) ch_cX10_letWalkerGo_0 rfl)
theorem dX10_letWalkerGo_26 : decode cX10_letWalkerGo 26 = .ok (.getfield 54, 3) := do_180 (rdb (p := 0) (i := 26) ch_cX10_letWalkerGo_0 rfl) (rdb (p := 0) (i := 27) ch_cX10_letWalkerGo_0 rfl) (rdb (p := 0) (i := 28) ch_cX10_letWalkerGo_0 rfl) rfl
theorem dX10_letWalkerGo_29 : decode cX10_letWalkerGo 29 = .ok (.iload_n 3, 1) := do_29 (rdb (p := 0) (i := 29) ch_cX10_letWalkerGo_0 rfl)
theorem dX10_letWalkerGo_30 : decode cX10_letWalkerGo 30 = .ok (.irem, 1) := do_112 (rdb (p := 0) (i := 30) ch_cX10_letWalkerGo_0 rfl)
theorem dX10_letWalkerGo_31 : decode cX10_letWalkerGo 31 = .ok (.ifCond .ne 17, 3) := do_154 (rdb (p := 0) (i := 31) ch_cX10_letWalkerGo_0 rfl) (rdb (p := 0) (i := 32) ch_cX10_letWalkerGo_0 rfl) (rdb (p := 0) (i := 33) ch_cX10_letWalkerGo_0 rfl) (by decide +kernel)
theorem ch_cX10_letWalkerGo_32 : (cX10_letWalkerGo.data.toList.drop 32).take 36 = [0, 17, 44, 4, 182, 0, 154, 153, 0, 9, 42, 27, 182, 0, 157, 87, 44, 44, 180, 0, 119, 182, 0, 160, 54, 4, 44, 44, 180, 0, 119, 16, 6, 96, 16, 7] := by decide +kernel
theorem dX10_letWalkerGo_34 : decode cX10_letWalkerGo 34 = .ok (.aload_n 2, 1) := do_44 (rdb (p := 32) (i := 2) ch_cX10_letWalkerGo_32 rfl)
theorem dX10_letWalkerGo_35 : decode cX10_letWalkerGo 35 = .ok (.iconst 1, 1) := do_4 (rdb (p := 32) (i := 3) ch_cX10_letWalkerGo_32 rfl)
theorem dX10_letWalkerGo_36 : decode cX10_letWalkerGo 36 = .ok (.invokevirtual 154, 3) := do_182 (rdb (p := 32) (i := 4) ch_cX10_letWalkerGo_32 rfl) (rdb (p := 32) (i := 5) ch_cX10_letWalkerGo_32 rfl) (rdb (p := 32) (i := 6) ch_cX10_letWalkerGo_32 rfl) rfl
theorem dX10_letWalkerGo_39 : decode cX10_letWalkerGo 39 = .ok (.ifCond .eq 9, 3) := do_153 (rdb (p := 32) (i := 7) ch_cX10_letWalkerGo_32 rfl) (rdb (p := 32) (i := 8) ch_cX10_letWalkerGo_32 rfl) (rdb (p := 32) (i := 9) ch_cX10_letWalkerGo_32 rfl) (by decide +kernel)
theorem dX10_letWalkerGo_42 : decode cX10_letWalkerGo 42 = .ok (.aload_n 0, 1) := do_42 (rdb (p := 32) (i := 10) ch_cX10_letWalkerGo_32 rfl)
theorem dX10_letWalkerGo_43 : decode cX10_letWalkerGo 43 = .ok (.iload_n 1, 1) := do_27 (rdb (p := 32) (i := 11) ch_cX10_letWalkerGo_32 rfl)
theorem dX10_letWalkerGo_44 : decode cX10_letWalkerGo 44 = .ok (.invokevirtual 157, 3) := do_182 (rdb (p := 32) (i := 12) ch_cX10_letWalkerGo_32 rfl) (rdb (p := 32) (i := 13) ch_cX10_letWalkerGo_32 rfl) (rdb (p := 32) (i := 14) ch_cX10_letWalkerGo_32 rfl) rfl
theorem dX10_letWalkerGo_47 : decode cX10_letWalkerGo 47 = .ok (.pop, 1) := do_87 (rdb (p := 32) (i := 15) ch_cX10_letWalkerGo_32 rfl)
theorem dX10_letWalkerGo_48 : decode cX10_letWalkerGo 48 = .ok (.aload_n 2, 1) := do_44 (rdb (p := 32) (i := 16) ch_cX10_letWalkerGo_32 rfl)
theorem dX10_letWalkerGo_49 : decode cX10_letWalkerGo 49 = .ok (.aload_n 2, 1) := do_44 (rdb (p := 32) (i := 17) ch_cX10_letWalkerGo_32 rfl)
theorem dX10_letWalkerGo_50 : decode cX10_letWalkerGo 50 = .ok (.getfield 119, 3) := do_180 (rdb (p := 32) (i := 18) ch_cX10_letWalkerGo_32 rfl) (rdb (p := 32) (i := 19) ch_cX10_letWalkerGo_32 rfl) (rdb (p := 32) (i := 20) ch_cX10_letWalkerGo_32 rfl) rfl
theorem dX10_letWalkerGo_53 : decode cX10_letWalkerGo 53 = .ok (.invokevirtual 160, 3) := do_182 (rdb (p := 32) (i := 21) ch_cX10_letWalkerGo_32 rfl) (rdb (p := 32) (i := 22) ch_cX10_letWalkerGo_32 rfl) (rdb (p := 32) (i := 23) ch_cX10_letWalkerGo_32 rfl) rfl
theorem dX10_letWalkerGo_56 : decode cX10_letWalkerGo 56 = .ok (.istore 4, 2) := do_54 (rdb (p := 32) (i := 24) ch_cX10_letWalkerGo_32 rfl) (rdb (p := 32) (i := 25) ch_cX10_letWalkerGo_32 rfl)
theorem dX10_letWalkerGo_58 : decode cX10_letWalkerGo 58 = .ok (.aload_n 2, 1) := do_44 (rdb (p := 32) (i := 26) ch_cX10_letWalkerGo_32 rfl)
theorem dX10_letWalkerGo_59 : decode cX10_letWalkerGo 59 = .ok (.aload_n 2, 1) := do_44 (rdb (p := 32) (i := 27) ch_cX10_letWalkerGo_32 rfl)
theorem dX10_letWalkerGo_60 : decode cX10_letWalkerGo 60 = .ok (.getfield 119, 3) := do_180 (rdb (p := 32) (i := 28) ch_cX10_letWalkerGo_32 rfl) (rdb (p := 32) (i := 29) ch_cX10_letWalkerGo_32 rfl) (rdb (p := 32) (i := 30) ch_cX10_letWalkerGo_32 rfl) rfl
theorem dX10_letWalkerGo_63 : decode cX10_letWalkerGo 63 = .ok (.bipush 6, 2) := do_16 (rdb (p := 32) (i := 31) ch_cX10_letWalkerGo_32 rfl) (rdb (p := 32) (i := 32) ch_cX10_letWalkerGo_32 rfl) (by decide +kernel)
theorem ch_cX10_letWalkerGo_64 : (cX10_letWalkerGo.data.toList.drop 64).take 36 = [6, 96, 16, 7, 126, 182, 0, 160, 54, 5, 44, 44, 180, 0, 119, 5, 96, 16, 7, 126, 182, 0, 160, 54, 6, 42, 180, 0, 19, 21, 4, 21, 5, 21, 6, 44] := by decide +kernel
theorem dX10_letWalkerGo_65 : decode cX10_letWalkerGo 65 = .ok (.iadd, 1) := do_96 (rdb (p := 64) (i := 1) ch_cX10_letWalkerGo_64 rfl)
theorem dX10_letWalkerGo_66 : decode cX10_letWalkerGo 66 = .ok (.bipush 7, 2) := do_16 (rdb (p := 64) (i := 2) ch_cX10_letWalkerGo_64 rfl) (rdb (p := 64) (i := 3) ch_cX10_letWalkerGo_64 rfl) (by decide +kernel)
theorem dX10_letWalkerGo_68 : decode cX10_letWalkerGo 68 = .ok (.iand, 1) := do_126 (rdb (p := 64) (i := 4) ch_cX10_letWalkerGo_64 rfl)
theorem dX10_letWalkerGo_69 : decode cX10_letWalkerGo 69 = .ok (.invokevirtual 160, 3) := do_182 (rdb (p := 64) (i := 5) ch_cX10_letWalkerGo_64 rfl) (rdb (p := 64) (i := 6) ch_cX10_letWalkerGo_64 rfl) (rdb (p := 64) (i := 7) ch_cX10_letWalkerGo_64 rfl) rfl
theorem dX10_letWalkerGo_72 : decode cX10_letWalkerGo 72 = .ok (.istore 5, 2) := do_54 (rdb (p := 64) (i := 8) ch_cX10_letWalkerGo_64 rfl) (rdb (p := 64) (i := 9) ch_cX10_letWalkerGo_64 rfl)
theorem dX10_letWalkerGo_74 : decode cX10_letWalkerGo 74 = .ok (.aload_n 2, 1) := do_44 (rdb (p := 64) (i := 10) ch_cX10_letWalkerGo_64 rfl)
theorem dX10_letWalkerGo_75 : decode cX10_letWalkerGo 75 = .ok (.aload_n 2, 1) := do_44 (rdb (p := 64) (i := 11) ch_cX10_letWalkerGo_64 rfl)
theorem dX10_letWalkerGo_76 : decode cX10_letWalkerGo 76 = .ok (.getfield 119, 3) := do_180 (rdb (p := 64) (i := 12) ch_cX10_letWalkerGo_64 rfl) (rdb (p := 64) (i := 13) ch_cX10_letWalkerGo_64 rfl) (rdb (p := 64) (i := 14) ch_cX10_letWalkerGo_64 rfl) rfl
theorem dX10_letWalkerGo_79 : decode cX10_letWalkerGo 79 = .ok (.iconst 2, 1) := do_5 (rdb (p := 64) (i := 15) ch_cX10_letWalkerGo_64 rfl)
theorem dX10_letWalkerGo_80 : decode cX10_letWalkerGo 80 = .ok (.iadd, 1) := do_96 (rdb (p := 64) (i := 16) ch_cX10_letWalkerGo_64 rfl)
theorem dX10_letWalkerGo_81 : decode cX10_letWalkerGo 81 = .ok (.bipush 7, 2) := do_16 (rdb (p := 64) (i := 17) ch_cX10_letWalkerGo_64 rfl) (rdb (p := 64) (i := 18) ch_cX10_letWalkerGo_64 rfl) (by decide +kernel)
theorem dX10_letWalkerGo_83 : decode cX10_letWalkerGo 83 = .ok (.iand, 1) := do_126 (rdb (p := 64) (i := 19) ch_cX10_letWalkerGo_64 rfl)
theorem dX10_letWalkerGo_84 : decode cX10_letWalkerGo 84 = .ok (.invokevirtual 160, 3) := do_182 (rdb (p := 64) (i := 20) ch_cX10_letWalkerGo_64 rfl) (rdb (p := 64) (i := 21) ch_cX10_letWalkerGo_64 rfl) (rdb (p := 64) (i := 22) ch_cX10_letWalkerGo_64 rfl) rfl
theorem dX10_letWalkerGo_87 : decode cX10_letWalkerGo 87 = .ok (.istore 6, 2) := do_54 (rdb (p := 64) (i := 23) ch_cX10_letWalkerGo_64 rfl) (rdb (p := 64) (i := 24) ch_cX10_letWalkerGo_64 rfl)
theorem dX10_letWalkerGo_89 : decode cX10_letWalkerGo 89 = .ok (.aload_n 0, 1) := do_42 (rdb (p := 64) (i := 25) ch_cX10_letWalkerGo_64 rfl)
theorem dX10_letWalkerGo_90 : decode cX10_letWalkerGo 90 = .ok (.getfield 19, 3) := do_180 (rdb (p := 64) (i := 26) ch_cX10_letWalkerGo_64 rfl) (rdb (p := 64) (i := 27) ch_cX10_letWalkerGo_64 rfl) (rdb (p := 64) (i := 28) ch_cX10_letWalkerGo_64 rfl) rfl
theorem dX10_letWalkerGo_93 : decode cX10_letWalkerGo 93 = .ok (.iload 4, 2) := do_21 (rdb (p := 64) (i := 29) ch_cX10_letWalkerGo_64 rfl) (rdb (p := 64) (i := 30) ch_cX10_letWalkerGo_64 rfl)
theorem dX10_letWalkerGo_95 : decode cX10_letWalkerGo 95 = .ok (.iload 5, 2) := do_21 (rdb (p := 64) (i := 31) ch_cX10_letWalkerGo_64 rfl) (rdb (p := 64) (i := 32) ch_cX10_letWalkerGo_64 rfl)
theorem ch_cX10_letWalkerGo_96 : (cX10_letWalkerGo.data.toList.drop 96).take 36 = [5, 21, 6, 44, 180, 0, 66, 42, 180, 0, 54, 182, 0, 163, 7, 184, 0, 167, 54, 7, 21, 7, 154, 0, 11, 42, 27, 182, 0, 172, 167, 0, 20, 44, 21, 7] := by decide +kernel
theorem dX10_letWalkerGo_97 : decode cX10_letWalkerGo 97 = .ok (.iload 6, 2) := do_21 (rdb (p := 96) (i := 1) ch_cX10_letWalkerGo_96 rfl) (rdb (p := 96) (i := 2) ch_cX10_letWalkerGo_96 rfl)
theorem dX10_letWalkerGo_99 : decode cX10_letWalkerGo 99 = .ok (.aload_n 2, 1) := do_44 (rdb (p := 96) (i := 3) ch_cX10_letWalkerGo_96 rfl)
theorem dX10_letWalkerGo_100 : decode cX10_letWalkerGo 100 = .ok (.getfield 66, 3) := do_180 (rdb (p := 96) (i := 4) ch_cX10_letWalkerGo_96 rfl) (rdb (p := 96) (i := 5) ch_cX10_letWalkerGo_96 rfl) (rdb (p := 96) (i := 6) ch_cX10_letWalkerGo_96 rfl) rfl
theorem dX10_letWalkerGo_103 : decode cX10_letWalkerGo 103 = .ok (.aload_n 0, 1) := do_42 (rdb (p := 96) (i := 7) ch_cX10_letWalkerGo_96 rfl)
theorem dX10_letWalkerGo_104 : decode cX10_letWalkerGo 104 = .ok (.getfield 54, 3) := do_180 (rdb (p := 96) (i := 8) ch_cX10_letWalkerGo_96 rfl) (rdb (p := 96) (i := 9) ch_cX10_letWalkerGo_96 rfl) (rdb (p := 96) (i := 10) ch_cX10_letWalkerGo_96 rfl) rfl
theorem dX10_letWalkerGo_107 : decode cX10_letWalkerGo 107 = .ok (.invokevirtual 163, 3) := do_182 (rdb (p := 96) (i := 11) ch_cX10_letWalkerGo_96 rfl) (rdb (p := 96) (i := 12) ch_cX10_letWalkerGo_96 rfl) (rdb (p := 96) (i := 13) ch_cX10_letWalkerGo_96 rfl) rfl
theorem dX10_letWalkerGo_110 : decode cX10_letWalkerGo 110 = .ok (.iconst 4, 1) := do_7 (rdb (p := 96) (i := 14) ch_cX10_letWalkerGo_96 rfl)
theorem dX10_letWalkerGo_111 : decode cX10_letWalkerGo 111 = .ok (.invokestatic 167, 3) := do_184 (rdb (p := 96) (i := 15) ch_cX10_letWalkerGo_96 rfl) (rdb (p := 96) (i := 16) ch_cX10_letWalkerGo_96 rfl) (rdb (p := 96) (i := 17) ch_cX10_letWalkerGo_96 rfl) rfl
theorem dX10_letWalkerGo_114 : decode cX10_letWalkerGo 114 = .ok (.istore 7, 2) := do_54 (rdb (p := 96) (i := 18) ch_cX10_letWalkerGo_96 rfl) (rdb (p := 96) (i := 19) ch_cX10_letWalkerGo_96 rfl)
theorem dX10_letWalkerGo_116 : decode cX10_letWalkerGo 116 = .ok (.iload 7, 2) := do_21 (rdb (p := 96) (i := 20) ch_cX10_letWalkerGo_96 rfl) (rdb (p := 96) (i := 21) ch_cX10_letWalkerGo_96 rfl)
theorem dX10_letWalkerGo_118 : decode cX10_letWalkerGo 118 = .ok (.ifCond .ne 11, 3) := do_154 (rdb (p := 96) (i := 22) ch_cX10_letWalkerGo_96 rfl) (rdb (p := 96) (i := 23) ch_cX10_letWalkerGo_96 rfl) (rdb (p := 96) (i := 24) ch_cX10_letWalkerGo_96 rfl) (by decide +kernel)
theorem dX10_letWalkerGo_121 : decode cX10_letWalkerGo 121 = .ok (.aload_n 0, 1) := do_42 (rdb (p := 96) (i := 25) ch_cX10_letWalkerGo_96 rfl)
theorem dX10_letWalkerGo_122 : decode cX10_letWalkerGo 122 = .ok (.iload_n 1, 1) := do_27 (rdb (p := 96) (i := 26) ch_cX10_letWalkerGo_96 rfl)
theorem dX10_letWalkerGo_123 : decode cX10_letWalkerGo 123 = .ok (.invokevirtual 172, 3) := do_182 (rdb (p := 96) (i := 27) ch_cX10_letWalkerGo_96 rfl) (rdb (p := 96) (i := 28) ch_cX10_letWalkerGo_96 rfl) (rdb (p := 96) (i := 29) ch_cX10_letWalkerGo_96 rfl) rfl
theorem dX10_letWalkerGo_126 : decode cX10_letWalkerGo 126 = .ok (.goto 20, 3) := do_167 (rdb (p := 96) (i := 30) ch_cX10_letWalkerGo_96 rfl) (rdb (p := 96) (i := 31) ch_cX10_letWalkerGo_96 rfl) (rdb (p := 96) (i := 32) ch_cX10_letWalkerGo_96 rfl) (by decide +kernel)
theorem ch_cX10_letWalkerGo_128 : (cX10_letWalkerGo.data.toList.drop 128).take 36 = [20, 44, 21, 7, 6, 160, 0, 8, 16, 254, 167, 0, 5, 21, 7, 182, 0, 175, 177] := by decide +kernel
theorem dX10_letWalkerGo_129 : decode cX10_letWalkerGo 129 = .ok (.aload_n 2, 1) := do_44 (rdb (p := 128) (i := 1) ch_cX10_letWalkerGo_128 rfl)
theorem dX10_letWalkerGo_130 : decode cX10_letWalkerGo 130 = .ok (.iload 7, 2) := do_21 (rdb (p := 128) (i := 2) ch_cX10_letWalkerGo_128 rfl) (rdb (p := 128) (i := 3) ch_cX10_letWalkerGo_128 rfl)
theorem dX10_letWalkerGo_132 : decode cX10_letWalkerGo 132 = .ok (.iconst 3, 1) := do_6 (rdb (p := 128) (i := 4) ch_cX10_letWalkerGo_128 rfl)
theorem dX10_letWalkerGo_133 : decode cX10_letWalkerGo 133 = .ok (.if_icmp .ne 8, 3) := do_160 (rdb (p := 128) (i := 5) ch_cX10_letWalkerGo_128 rfl) (rdb (p := 128) (i := 6) ch_cX10_letWalkerGo_128 rfl) (rdb (p := 128) (i := 7) ch_cX10_letWalkerGo_128 rfl) (by decide +kernel)
theorem dX10_letWalkerGo_136 : decode cX10_letWalkerGo 136 = .ok (.bipush (-2), 2) := do_16 (rdb (p := 128) (i := 8) ch_cX10_letWalkerGo_128 rfl) (rdb (p := 128) (i := 9) ch_cX10_letWalkerGo_128 rfl) (by decide +kernel)
theorem dX10_letWalkerGo_138 : decode cX10_letWalkerGo 138 = .ok (.goto 5, 3) := do_167 (rdb (p := 128) (i := 10) ch_cX10_letWalkerGo_128 rfl) (rdb (p := 128) (i := 11) ch_cX10_letWalkerGo_128 rfl) (rdb (p := 128) (i := 12) ch_cX10_letWalkerGo_128 rfl) (by decide +kernel)
theorem dX10_letWalkerGo_141 : decode cX10_letWalkerGo 141 = .ok (.iload 7, 2) := do_21 (rdb (p := 128) (i := 13) ch_cX10_letWalkerGo_128 rfl) (rdb (p := 128) (i := 14) ch_cX10_letWalkerGo_128 rfl)
theorem dX10_letWalkerGo_143 : decode cX10_letWalkerGo 143 = .ok (.invokevirtual 175, 3) := do_182 (rdb (p := 128) (i := 15) ch_cX10_letWalkerGo_128 rfl) (rdb (p := 128) (i := 16) ch_cX10_letWalkerGo_128 rfl) (rdb (p := 128) (i := 17) ch_cX10_letWalkerGo_128 rfl) rfl
theorem dX10_letWalkerGo_146 : decode cX10_letWalkerGo 146 = .ok (.return_, 1) := do_177 (rdb (p := 128) (i := 18) ch_cX10_letWalkerGo_128 rfl)
theorem ch_cX10_makeClick_0 : (cX10_makeClick.data.toList.drop 0).take 36 = [42, 27, 182, 0, 76, 154, 0, 5, 3, 172, 42, 180, 0, 46, 27, 50, 77, 44, 89, 180, 0, 69, 4, 96, 181, 0, 69, 3, 62, 3, 54, 4, 21, 4, 16, 8] := by decide +kernel
theorem dX10_makeClick_0 : decode cX10_makeClick 0 = .ok (.aload_n 0, 1) := do_42 (rdb (p := 0) (i := 0) ch_cX10_makeClick_0 rfl)
theorem dX10_makeClick_1 : decode cX10_makeClick 1 = .ok (.iload_n 1, 1) := do_27 (rdb (p := 0) (i := 1) ch_cX10_makeClick_0 rfl)
theorem dX10_makeClick_2 : decode cX10_makeClick 2 = .ok (.invokevirtual 76, 3) := do_182 (rdb (p := 0) (i := 2) ch_cX10_makeClick_0 rfl) (rdb (p := 0) (i := 3) ch_cX10_makeClick_0 rfl) (rdb (p := 0) (i := 4) ch_cX10_makeClick_0 rfl) rfl
theorem dX10_makeClick_5 : decode cX10_makeClick 5 = .ok (.ifCond .ne 5, 3) := do_154 (rdb (p := 0) (i := 5) ch_cX10_makeClick_0 rfl) (rdb (p := 0) (i := 6) ch_cX10_makeClick_0 rfl) (rdb (p := 0) (i := 7) ch_cX10_makeClick_0 rfl) (by decide +kernel)
theorem dX10_makeClick_8 : decode cX10_makeClick 8 = .ok (.iconst 0, 1) := do_3 (rdb (p := 0) (i := 8) ch_cX10_makeClick_0 rfl)
theorem dX10_makeClick_9 : decode cX10_makeClick 9 = .ok (.ireturn, 1) := do_172 (rdb (p := 0) (i := 9) ch_cX10_makeClick_0 rfl)
theorem dX10_makeClick_10 : decode cX10_makeClick 10 = .ok (.aload_n 0, 1) := do_42 (rdb (p := 0) (i := 10) ch_cX10_makeClick_0 rfl)
theorem dX10_makeClick_11 : decode cX10_makeClick 11 = .ok (.getfield 46, 3) := do_180 (rdb (p := 0) (i := 11) ch_cX10_makeClick_0 rfl) (rdb (p := 0) (i := 12) ch_cX10_makeClick_0 rfl) (rdb (p := 0) (i := 13) ch_cX10_makeClick_0 rfl) rfl
theorem dX10_makeClick_14 : decode cX10_makeClick 14 = .ok (.iload_n 1, 1) := do_27 (rdb (p := 0) (i := 14) ch_cX10_makeClick_0 rfl)
theorem dX10_makeClick_15 : decode cX10_makeClick 15 = .ok (.aaload, 1) := do_50 (rdb (p := 0) (i := 15) ch_cX10_makeClick_0 rfl)
theorem dX10_makeClick_16 : decode cX10_makeClick 16 = .ok (.astore_n 2, 1) := do_77 (rdb (p := 0) (i := 16) ch_cX10_makeClick_0 rfl)
theorem dX10_makeClick_17 : decode cX10_makeClick 17 = .ok (.aload_n 2, 1) := do_44 (rdb (p := 0) (i := 17) ch_cX10_makeClick_0 rfl)
theorem dX10_makeClick_18 : decode cX10_makeClick 18 = .ok (.dup, 1) := do_89 (rdb (p := 0) (i := 18) ch_cX10_makeClick_0 rfl)
theorem dX10_makeClick_19 : decode cX10_makeClick 19 = .ok (.getfield 69, 3) := do_180 (rdb (p := 0) (i := 19) ch_cX10_makeClick_0 rfl) (rdb (p := 0) (i := 20) ch_cX10_makeClick_0 rfl) (rdb (p := 0) (i := 21) ch_cX10_makeClick_0 rfl) rfl
theorem dX10_makeClick_22 : decode cX10_makeClick 22 = .ok (.iconst 1, 1) := do_4 (rdb (p := 0) (i := 22) ch_cX10_makeClick_0 rfl)
theorem dX10_makeClick_23 : decode cX10_makeClick 23 = .ok (.iadd, 1) := do_96 (rdb (p := 0) (i := 23) ch_cX10_makeClick_0 rfl)
theorem dX10_makeClick_24 : decode cX10_makeClick 24 = .ok (.putfield 69, 3) := do_181 (rdb (p := 0) (i := 24) ch_cX10_makeClick_0 rfl) (rdb (p := 0) (i := 25) ch_cX10_makeClick_0 rfl) (rdb (p := 0) (i := 26) ch_cX10_makeClick_0 rfl) rfl
theorem dX10_makeClick_27 : decode cX10_makeClick 27 = .ok (.iconst 0, 1) := do_3 (rdb (p := 0) (i := 27) ch_cX10_makeClick_0 rfl)
theorem dX10_makeClick_28 : decode cX10_makeClick 28 = .ok (.istore_n 3, 1) := do_62 (rdb (p := 0) (i := 28) ch_cX10_makeClick_0 rfl)
theorem dX10_makeClick_29 : decode cX10_makeClick 29 = .ok (.iconst 0, 1) := do_3 (rdb (p := 0) (i := 29) ch_cX10_makeClick_0 rfl)
theorem dX10_makeClick_30 : decode cX10_makeClick 30 = .ok (.istore 4, 2) := do_54 (rdb (p := 0) (i := 30) ch_cX10_makeClick_0 rfl) (rdb (p := 0) (i := 31) ch_cX10_makeClick_0 rfl)
theorem ch_cX10_makeClick_32 : (cX10_makeClick.data.toList.drop 32).take 36 = [21, 4, 16, 8, 162, 0, 77, 42, 27, 44, 180, 0, 109, 21, 4, 182, 0, 126, 54, 5, 21, 5, 158, 0, 22, 132, 3, 1, 44, 44, 180, 0, 109, 21, 4, 21] := by decide +kernel
theorem dX10_makeClick_32 : decode cX10_makeClick 32 = .ok (.iload 4, 2) := do_21 (rdb (p := 32) (i := 0) ch_cX10_makeClick_32 rfl) (rdb (p := 32) (i := 1) ch_cX10_makeClick_32 rfl)
theorem dX10_makeClick_34 : decode cX10_makeClick 34 = .ok (.bipush 8, 2) := do_16 (rdb (p := 32) (i := 2) ch_cX10_makeClick_32 rfl) (rdb (p := 32) (i := 3) ch_cX10_makeClick_32 rfl) (by decide +kernel)
theorem dX10_makeClick_36 : decode cX10_makeClick 36 = .ok (.if_icmp .ge 77, 3) := do_162 (rdb (p := 32) (i := 4) ch_cX10_makeClick_32 rfl) (rdb (p := 32) (i := 5) ch_cX10_makeClick_32 rfl) (rdb (p := 32) (i := 6) ch_cX10_makeClick_32 rfl) (by decide +kernel)
theorem dX10_makeClick_39 : decode cX10_makeClick 39 = .ok (.aload_n 0, 1) := do_42 (rdb (p := 32) (i := 7) ch_cX10_makeClick_32 rfl)
theorem dX10_makeClick_40 : decode cX10_makeClick 40 = .ok (.iload_n 1, 1) := do_27 (rdb (p := 32) (i := 8) ch_cX10_makeClick_32 rfl)
theorem dX10_makeClick_41 : decode cX10_makeClick 41 = .ok (.aload_n 2, 1) := do_44 (rdb (p := 32) (i := 9) ch_cX10_makeClick_32 rfl)
theorem dX10_makeClick_42 : decode cX10_makeClick 42 = .ok (.getfield 109, 3) := do_180 (rdb (p := 32) (i := 10) ch_cX10_makeClick_32 rfl) (rdb (p := 32) (i := 11) ch_cX10_makeClick_32 rfl) (rdb (p := 32) (i := 12) ch_cX10_makeClick_32 rfl) rfl
theorem dX10_makeClick_45 : decode cX10_makeClick 45 = .ok (.iload 4, 2) := do_21 (rdb (p := 32) (i := 13) ch_cX10_makeClick_32 rfl) (rdb (p := 32) (i := 14) ch_cX10_makeClick_32 rfl)
theorem dX10_makeClick_47 : decode cX10_makeClick 47 = .ok (.invokevirtual 126, 3) := do_182 (rdb (p := 32) (i := 15) ch_cX10_makeClick_32 rfl) (rdb (p := 32) (i := 16) ch_cX10_makeClick_32 rfl) (rdb (p := 32) (i := 17) ch_cX10_makeClick_32 rfl) rfl
theorem dX10_makeClick_50 : decode cX10_makeClick 50 = .ok (.istore 5, 2) := do_54 (rdb (p := 32) (i := 18) ch_cX10_makeClick_32 rfl) (rdb (p := 32) (i := 19) ch_cX10_makeClick_32 rfl)
theorem dX10_makeClick_52 : decode cX10_makeClick 52 = .ok (.iload 5, 2) := do_21 (rdb (p := 32) (i := 20) ch_cX10_makeClick_32 rfl) (rdb (p := 32) (i := 21) ch_cX10_makeClick_32 rfl)
theorem dX10_makeClick_54 : decode cX10_makeClick 54 = .ok (.ifCond .le 22, 3) := do_158 (rdb (p := 32) (i := 22) ch_cX10_makeClick_32 rfl) (rdb (p := 32) (i := 23) ch_cX10_makeClick_32 rfl) (rdb (p := 32) (i := 24) ch_cX10_makeClick_32 rfl) (by decide +kernel)
theorem dX10_makeClick_57 : decode cX10_makeClick 57 = .ok (.iinc 3 1, 3) := do_132 (rdb (p := 32) (i := 25) ch_cX10_makeClick_32 rfl) (rdb (p := 32) (i := 26) ch_cX10_makeClick_32 rfl) (rdb (p := 32) (i := 27) ch_cX10_makeClick_32 rfl) (by decide +kernel)
theorem dX10_makeClick_60 : decode cX10_makeClick 60 = .ok (.aload_n 2, 1) := do_44 (rdb (p := 32) (i := 28) ch_cX10_makeClick_32 rfl)
theorem dX10_makeClick_61 : decode cX10_makeClick 61 = .ok (.aload_n 2, 1) := do_44 (rdb (p := 32) (i := 29) ch_cX10_makeClick_32 rfl)
theorem dX10_makeClick_62 : decode cX10_makeClick 62 = .ok (.getfield 109, 3) := do_180 (rdb (p := 32) (i := 30) ch_cX10_makeClick_32 rfl) (rdb (p := 32) (i := 31) ch_cX10_makeClick_32 rfl) (rdb (p := 32) (i := 32) ch_cX10_makeClick_32 rfl) rfl
theorem ch_cX10_makeClick_64 : (cX10_makeClick.data.toList.drop 64).take 36 = [109, 21, 4, 21, 5, 184, 0, 84, 4, 182, 0, 129, 4, 54, 6, 21, 6, 21, 5, 162, 0, 24, 44, 44, 180, 0, 109, 21, 4, 21, 6, 184, 0, 84, 182, 0] := by decide +kernel
theorem dX10_makeClick_65 : decode cX10_makeClick 65 = .ok (.iload 4, 2) := do_21 (rdb (p := 64) (i := 1) ch_cX10_makeClick_64 rfl) (rdb (p := 64) (i := 2) ch_cX10_makeClick_64 rfl)
theorem dX10_makeClick_67 : decode cX10_makeClick 67 = .ok (.iload 5, 2) := do_21 (rdb (p := 64) (i := 3) ch_cX10_makeClick_64 rfl) (rdb (p := 64) (i := 4) ch_cX10_makeClick_64 rfl)
theorem dX10_makeClick_69 : decode cX10_makeClick 69 = .ok (.invokestatic 84, 3) := do_184 (rdb (p := 64) (i := 5) ch_cX10_makeClick_64 rfl) (rdb (p := 64) (i := 6) ch_cX10_makeClick_64 rfl) (rdb (p := 64) (i := 7) ch_cX10_makeClick_64 rfl) rfl
theorem dX10_makeClick_72 : decode cX10_makeClick 72 = .ok (.iconst 1, 1) := do_4 (rdb (p := 64) (i := 8) ch_cX10_makeClick_64 rfl)
theorem dX10_makeClick_73 : decode cX10_makeClick 73 = .ok (.invokevirtual 129, 3) := do_182 (rdb (p := 64) (i := 9) ch_cX10_makeClick_64 rfl) (rdb (p := 64) (i := 10) ch_cX10_makeClick_64 rfl) (rdb (p := 64) (i := 11) ch_cX10_makeClick_64 rfl) rfl
theorem dX10_makeClick_76 : decode cX10_makeClick 76 = .ok (.iconst 1, 1) := do_4 (rdb (p := 64) (i := 12) ch_cX10_makeClick_64 rfl)
theorem dX10_makeClick_77 : decode cX10_makeClick 77 = .ok (.istore 6, 2) := do_54 (rdb (p := 64) (i := 13) ch_cX10_makeClick_64 rfl) (rdb (p := 64) (i := 14) ch_cX10_makeClick_64 rfl)
theorem dX10_makeClick_79 : decode cX10_makeClick 79 = .ok (.iload 6, 2) := do_21 (rdb (p := 64) (i := 15) ch_cX10_makeClick_64 rfl) (rdb (p := 64) (i := 16) ch_cX10_makeClick_64 rfl)
theorem dX10_makeClick_81 : decode cX10_makeClick 81 = .ok (.iload 5, 2) := do_21 (rdb (p := 64) (i := 17) ch_cX10_makeClick_64 rfl) (rdb (p := 64) (i := 18) ch_cX10_makeClick_64 rfl)
theorem dX10_makeClick_83 : decode cX10_makeClick 83 = .ok (.if_icmp .ge 24, 3) := do_162 (rdb (p := 64) (i := 19) ch_cX10_makeClick_64 rfl) (rdb (p := 64) (i := 20) ch_cX10_makeClick_64 rfl) (rdb (p := 64) (i := 21) ch_cX10_makeClick_64 rfl) (by decide +kernel)
theorem dX10_makeClick_86 : decode cX10_makeClick 86 = .ok (.aload_n 2, 1) := do_44 (rdb (p := 64) (i := 22) ch_cX10_makeClick_64 rfl)
theorem dX10_makeClick_87 : decode cX10_makeClick 87 = .ok (.aload_n 2, 1) := do_44 (rdb (p := 64) (i := 23) ch_cX10_makeClick_64 rfl)
theorem dX10_makeClick_88 : decode cX10_makeClick 88 = .ok (.getfield 109, 3) := do_180 (rdb (p := 64) (i := 24) ch_cX10_makeClick_64 rfl) (rdb (p := 64) (i := 25) ch_cX10_makeClick_64 rfl) (rdb (p := 64) (i := 26) ch_cX10_makeClick_64 rfl) rfl
theorem dX10_makeClick_91 : decode cX10_makeClick 91 = .ok (.iload 4, 2) := do_21 (rdb (p := 64) (i := 27) ch_cX10_makeClick_64 rfl) (rdb (p := 64) (i := 28) ch_cX10_makeClick_64 rfl)
theorem dX10_makeClick_93 : decode cX10_makeClick 93 = .ok (.iload 6, 2) := do_21 (rdb (p := 64) (i := 29) ch_cX10_makeClick_64 rfl) (rdb (p := 64) (i := 30) ch_cX10_makeClick_64 rfl)
theorem dX10_makeClick_95 : decode cX10_makeClick 95 = .ok (.invokestatic 84, 3) := do_184 (rdb (p := 64) (i := 31) ch_cX10_makeClick_64 rfl) (rdb (p := 64) (i := 32) ch_cX10_makeClick_64 rfl) (rdb (p := 64) (i := 33) ch_cX10_makeClick_64 rfl) rfl
theorem ch_cX10_makeClick_96 : (cX10_makeClick.data.toList.drop 96).take 36 = [0, 84, 182, 0, 132, 132, 6, 1, 167, 255, 231, 132, 4, 1, 167, 255, 178, 29, 172] := by decide +kernel
theorem dX10_makeClick_98 : decode cX10_makeClick 98 = .ok (.invokevirtual 132, 3) := do_182 (rdb (p := 96) (i := 2) ch_cX10_makeClick_96 rfl) (rdb (p := 96) (i := 3) ch_cX10_makeClick_96 rfl) (rdb (p := 96) (i := 4) ch_cX10_makeClick_96 rfl) rfl
theorem dX10_makeClick_101 : decode cX10_makeClick 101 = .ok (.iinc 6 1, 3) := do_132 (rdb (p := 96) (i := 5) ch_cX10_makeClick_96 rfl) (rdb (p := 96) (i := 6) ch_cX10_makeClick_96 rfl) (rdb (p := 96) (i := 7) ch_cX10_makeClick_96 rfl) (by decide +kernel)
theorem dX10_makeClick_104 : decode cX10_makeClick 104 = .ok (.goto (-25), 3) := do_167 (rdb (p := 96) (i := 8) ch_cX10_makeClick_96 rfl) (rdb (p := 96) (i := 9) ch_cX10_makeClick_96 rfl) (rdb (p := 96) (i := 10) ch_cX10_makeClick_96 rfl) (by decide +kernel)
theorem dX10_makeClick_107 : decode cX10_makeClick 107 = .ok (.iinc 4 1, 3) := do_132 (rdb (p := 96) (i := 11) ch_cX10_makeClick_96 rfl) (rdb (p := 96) (i := 12) ch_cX10_makeClick_96 rfl) (rdb (p := 96) (i := 13) ch_cX10_makeClick_96 rfl) (by decide +kernel)
theorem dX10_makeClick_110 : decode cX10_makeClick 110 = .ok (.goto (-78), 3) := do_167 (rdb (p := 96) (i := 14) ch_cX10_makeClick_96 rfl) (rdb (p := 96) (i := 15) ch_cX10_makeClick_96 rfl) (rdb (p := 96) (i := 16) ch_cX10_makeClick_96 rfl) (by decide +kernel)
theorem dX10_makeClick_113 : decode cX10_makeClick 113 = .ok (.iload_n 3, 1) := do_29 (rdb (p := 96) (i := 17) ch_cX10_makeClick_96 rfl)
theorem dX10_makeClick_114 : decode cX10_makeClick 114 = .ok (.ireturn, 1) := do_172 (rdb (p := 96) (i := 18) ch_cX10_makeClick_96 rfl)
theorem ch_cX10_passTenth_0 : (cX10_passTenth.data.toList.drop 0).take 36 = [42, 89, 180, 0, 54, 4, 96, 181, 0, 54, 42, 180, 0, 10, 42, 180, 0, 54, 182, 0, 141, 3, 60, 27, 42, 180, 0, 50, 162, 0, 32, 27, 16, 8, 162, 0] := by decide +kernel
theorem dX10_passTenth_0 : decode cX10_passTenth 0 = .ok (.aload_n 0, 1) := do_42 (rdb (p := 0) (i := 0) ch_cX10_passTenth_0 rfl)
theorem dX10_passTenth_1 : decode cX10_passTenth 1 = .ok (.dup, 1) := do_89 (rdb (p := 0) (i := 1) ch_cX10_passTenth_0 rfl)
theorem dX10_passTenth_2 : decode cX10_passTenth 2 = .ok (.getfield 54, 3) := do_180 (rdb (p := 0) (i := 2) ch_cX10_passTenth_0 rfl) (rdb (p := 0) (i := 3) ch_cX10_passTenth_0 rfl) (rdb (p := 0) (i := 4) ch_cX10_passTenth_0 rfl) rfl
theorem dX10_passTenth_5 : decode cX10_passTenth 5 = .ok (.iconst 1, 1) := do_4 (rdb (p := 0) (i := 5) ch_cX10_passTenth_0 rfl)
theorem dX10_passTenth_6 : decode cX10_passTenth 6 = .ok (.iadd, 1) := do_96 (rdb (p := 0) (i := 6) ch_cX10_passTenth_0 rfl)
theorem dX10_passTenth_7 : decode cX10_passTenth 7 = .ok (.putfield 54, 3) := do_181 (rdb (p := 0) (i := 7) ch_cX10_passTenth_0 rfl) (rdb (p := 0) (i := 8) ch_cX10_passTenth_0 rfl) (rdb (p := 0) (i := 9) ch_cX10_passTenth_0 rfl) rfl
theorem dX10_passTenth_10 : decode cX10_passTenth 10 = .ok (.aload_n 0, 1) := do_42 (rdb (p := 0) (i := 10) ch_cX10_passTenth_0 rfl)
theorem dX10_passTenth_11 : decode cX10_passTenth 11 = .ok (.getfield 10, 3) := do_180 (rdb (p := 0) (i := 11) ch_cX10_passTenth_0 rfl) (rdb (p := 0) (i := 12) ch_cX10_passTenth_0 rfl) (rdb (p := 0) (i := 13) ch_cX10_passTenth_0 rfl) rfl
theorem dX10_passTenth_14 : decode cX10_passTenth 14 = .ok (.aload_n 0, 1) := do_42 (rdb (p := 0) (i := 14) ch_cX10_passTenth_0 rfl)
theorem dX10_passTenth_15 : decode cX10_passTenth 15 = .ok (.getfield 54, 3) := do_180 (rdb (p := 0) (i := 15) ch_cX10_passTenth_0 rfl) (rdb (p := 0) (i := 16) ch_cX10_passTenth_0 rfl) (rdb (p := 0) (i := 17) ch_cX10_passTenth_0 rfl) rfl
theorem dX10_passTenth_18 : decode cX10_passTenth 18 = .ok (.invokevirtual 141, 3) := do_182 (rdb (p := 0) (i := 18) ch_cX10_passTenth_0 rfl) (rdb (p := 0) (i := 19) ch_cX10_passTenth_0 rfl) (rdb (p := 0) (i := 20) ch_cX10_passTenth_0 rfl) rfl
theorem dX10_passTenth_21 : decode cX10_passTenth 21 = .ok (.iconst 0, 1) := do_3 (rdb (p := 0) (i := 21) ch_cX10_passTenth_0 rfl)
theorem dX10_passTenth_22 : decode cX10_passTenth 22 = .ok (.istore_n 1, 1) := do_60 (rdb (p := 0) (i := 22) ch_cX10_passTenth_0 rfl)
theorem dX10_passTenth_23 : decode cX10_passTenth 23 = .ok (.iload_n 1, 1) := do_27 (rdb (p := 0) (i := 23) ch_cX10_passTenth_0 rfl)
theorem dX10_passTenth_24 : decode cX10_passTenth 24 = .ok (.aload_n 0, 1) := do_42 (rdb (p := 0) (i := 24) ch_cX10_passTenth_0 rfl)
theorem dX10_passTenth_25 : decode cX10_passTenth 25 = .ok (.getfield 50, 3) := do_180 (rdb (p := 0) (i := 25) ch_cX10_passTenth_0 rfl) (rdb (p := 0) (i := 26) ch_cX10_passTenth_0 rfl) (rdb (p := 0) (i := 27) ch_cX10_passTenth_0 rfl) rfl
theorem dX10_passTenth_28 : decode cX10_passTenth 28 = .ok (.if_icmp .ge 32, 3) := do_162 (rdb (p := 0) (i := 28) ch_cX10_passTenth_0 rfl) (rdb (p := 0) (i := 29) ch_cX10_passTenth_0 rfl) (rdb (p := 0) (i := 30) ch_cX10_passTenth_0 rfl) (by decide +kernel)
theorem dX10_passTenth_31 : decode cX10_passTenth 31 = .ok (.iload_n 1, 1) := do_27 (rdb (p := 0) (i := 31) ch_cX10_passTenth_0 rfl)
theorem ch_cX10_passTenth_32 : (cX10_passTenth.data.toList.drop 32).take 36 = [16, 8, 162, 0, 26, 42, 180, 0, 46, 27, 50, 180, 0, 144, 153, 0, 8, 42, 27, 182, 0, 148, 132, 1, 1, 167, 255, 222, 177] := by decide +kernel
theorem dX10_passTenth_32 : decode cX10_passTenth 32 = .ok (.bipush 8, 2) := do_16 (rdb (p := 32) (i := 0) ch_cX10_passTenth_32 rfl) (rdb (p := 32) (i := 1) ch_cX10_passTenth_32 rfl) (by decide +kernel)
theorem dX10_passTenth_34 : decode cX10_passTenth 34 = .ok (.if_icmp .ge 26, 3) := do_162 (rdb (p := 32) (i := 2) ch_cX10_passTenth_32 rfl) (rdb (p := 32) (i := 3) ch_cX10_passTenth_32 rfl) (rdb (p := 32) (i := 4) ch_cX10_passTenth_32 rfl) (by decide +kernel)
theorem dX10_passTenth_37 : decode cX10_passTenth 37 = .ok (.aload_n 0, 1) := do_42 (rdb (p := 32) (i := 5) ch_cX10_passTenth_32 rfl)
theorem dX10_passTenth_38 : decode cX10_passTenth 38 = .ok (.getfield 46, 3) := do_180 (rdb (p := 32) (i := 6) ch_cX10_passTenth_32 rfl) (rdb (p := 32) (i := 7) ch_cX10_passTenth_32 rfl) (rdb (p := 32) (i := 8) ch_cX10_passTenth_32 rfl) rfl
theorem dX10_passTenth_41 : decode cX10_passTenth 41 = .ok (.iload_n 1, 1) := do_27 (rdb (p := 32) (i := 9) ch_cX10_passTenth_32 rfl)
theorem dX10_passTenth_42 : decode cX10_passTenth 42 = .ok (.aaload, 1) := do_50 (rdb (p := 32) (i := 10) ch_cX10_passTenth_32 rfl)
theorem dX10_passTenth_43 : decode cX10_passTenth 43 = .ok (.getfield 144, 3) := do_180 (rdb (p := 32) (i := 11) ch_cX10_passTenth_32 rfl) (rdb (p := 32) (i := 12) ch_cX10_passTenth_32 rfl) (rdb (p := 32) (i := 13) ch_cX10_passTenth_32 rfl) rfl
theorem dX10_passTenth_46 : decode cX10_passTenth 46 = .ok (.ifCond .eq 8, 3) := do_153 (rdb (p := 32) (i := 14) ch_cX10_passTenth_32 rfl) (rdb (p := 32) (i := 15) ch_cX10_passTenth_32 rfl) (rdb (p := 32) (i := 16) ch_cX10_passTenth_32 rfl) (by decide +kernel)
theorem dX10_passTenth_49 : decode cX10_passTenth 49 = .ok (.aload_n 0, 1) := do_42 (rdb (p := 32) (i := 17) ch_cX10_passTenth_32 rfl)
theorem dX10_passTenth_50 : decode cX10_passTenth 50 = .ok (.iload_n 1, 1) := do_27 (rdb (p := 32) (i := 18) ch_cX10_passTenth_32 rfl)
theorem dX10_passTenth_51 : decode cX10_passTenth 51 = .ok (.invokevirtual 148, 3) := do_182 (rdb (p := 32) (i := 19) ch_cX10_passTenth_32 rfl) (rdb (p := 32) (i := 20) ch_cX10_passTenth_32 rfl) (rdb (p := 32) (i := 21) ch_cX10_passTenth_32 rfl) rfl
theorem dX10_passTenth_54 : decode cX10_passTenth 54 = .ok (.iinc 1 1, 3) := do_132 (rdb (p := 32) (i := 22) ch_cX10_passTenth_32 rfl) (rdb (p := 32) (i := 23) ch_cX10_passTenth_32 rfl) (rdb (p := 32) (i := 24) ch_cX10_passTenth_32 rfl) (by decide +kernel)
theorem dX10_passTenth_57 : decode cX10_passTenth 57 = .ok (.goto (-34), 3) := do_167 (rdb (p := 32) (i := 25) ch_cX10_passTenth_32 rfl) (rdb (p := 32) (i := 26) ch_cX10_passTenth_32 rfl) (rdb (p := 32) (i := 27) ch_cX10_passTenth_32 rfl) (by decide +kernel)
theorem dX10_passTenth_60 : decode cX10_passTenth 60 = .ok (.return_, 1) := do_177 (rdb (p := 32) (i := 28) ch_cX10_passTenth_32 rfl)
theorem ch_cX10_sureYards_0 : (cX10_sureYards.data.toList.drop 0).take 36 = [42, 27, 182, 0, 76, 154, 0, 5, 3, 172, 42, 180, 0, 46, 27, 50, 77, 42, 27, 44, 180, 0, 109, 44, 180, 0, 119, 182, 0, 126, 62, 29, 158, 0, 9, 29] := by decide +kernel
theorem dX10_sureYards_0 : decode cX10_sureYards 0 = .ok (.aload_n 0, 1) := do_42 (rdb (p := 0) (i := 0) ch_cX10_sureYards_0 rfl)
theorem dX10_sureYards_1 : decode cX10_sureYards 1 = .ok (.iload_n 1, 1) := do_27 (rdb (p := 0) (i := 1) ch_cX10_sureYards_0 rfl)
theorem dX10_sureYards_2 : decode cX10_sureYards 2 = .ok (.invokevirtual 76, 3) := do_182 (rdb (p := 0) (i := 2) ch_cX10_sureYards_0 rfl) (rdb (p := 0) (i := 3) ch_cX10_sureYards_0 rfl) (rdb (p := 0) (i := 4) ch_cX10_sureYards_0 rfl) rfl
theorem dX10_sureYards_5 : decode cX10_sureYards 5 = .ok (.ifCond .ne 5, 3) := do_154 (rdb (p := 0) (i := 5) ch_cX10_sureYards_0 rfl) (rdb (p := 0) (i := 6) ch_cX10_sureYards_0 rfl) (rdb (p := 0) (i := 7) ch_cX10_sureYards_0 rfl) (by decide +kernel)
theorem dX10_sureYards_8 : decode cX10_sureYards 8 = .ok (.iconst 0, 1) := do_3 (rdb (p := 0) (i := 8) ch_cX10_sureYards_0 rfl)
theorem dX10_sureYards_9 : decode cX10_sureYards 9 = .ok (.ireturn, 1) := do_172 (rdb (p := 0) (i := 9) ch_cX10_sureYards_0 rfl)
theorem dX10_sureYards_10 : decode cX10_sureYards 10 = .ok (.aload_n 0, 1) := do_42 (rdb (p := 0) (i := 10) ch_cX10_sureYards_0 rfl)
theorem dX10_sureYards_11 : decode cX10_sureYards 11 = .ok (.getfield 46, 3) := do_180 (rdb (p := 0) (i := 11) ch_cX10_sureYards_0 rfl) (rdb (p := 0) (i := 12) ch_cX10_sureYards_0 rfl) (rdb (p := 0) (i := 13) ch_cX10_sureYards_0 rfl) rfl
theorem dX10_sureYards_14 : decode cX10_sureYards 14 = .ok (.iload_n 1, 1) := do_27 (rdb (p := 0) (i := 14) ch_cX10_sureYards_0 rfl)
theorem dX10_sureYards_15 : decode cX10_sureYards 15 = .ok (.aaload, 1) := do_50 (rdb (p := 0) (i := 15) ch_cX10_sureYards_0 rfl)
theorem dX10_sureYards_16 : decode cX10_sureYards 16 = .ok (.astore_n 2, 1) := do_77 (rdb (p := 0) (i := 16) ch_cX10_sureYards_0 rfl)
theorem dX10_sureYards_17 : decode cX10_sureYards 17 = .ok (.aload_n 0, 1) := do_42 (rdb (p := 0) (i := 17) ch_cX10_sureYards_0 rfl)
theorem dX10_sureYards_18 : decode cX10_sureYards 18 = .ok (.iload_n 1, 1) := do_27 (rdb (p := 0) (i := 18) ch_cX10_sureYards_0 rfl)
theorem dX10_sureYards_19 : decode cX10_sureYards 19 = .ok (.aload_n 2, 1) := do_44 (rdb (p := 0) (i := 19) ch_cX10_sureYards_0 rfl)
theorem dX10_sureYards_20 : decode cX10_sureYards 20 = .ok (.getfield 109, 3) := do_180 (rdb (p := 0) (i := 20) ch_cX10_sureYards_0 rfl) (rdb (p := 0) (i := 21) ch_cX10_sureYards_0 rfl) (rdb (p := 0) (i := 22) ch_cX10_sureYards_0 rfl) rfl
theorem dX10_sureYards_23 : decode cX10_sureYards 23 = .ok (.aload_n 2, 1) := do_44 (rdb (p := 0) (i := 23) ch_cX10_sureYards_0 rfl)
theorem dX10_sureYards_24 : decode cX10_sureYards 24 = .ok (.getfield 119, 3) := do_180 (rdb (p := 0) (i := 24) ch_cX10_sureYards_0 rfl) (rdb (p := 0) (i := 25) ch_cX10_sureYards_0 rfl) (rdb (p := 0) (i := 26) ch_cX10_sureYards_0 rfl) rfl
theorem dX10_sureYards_27 : decode cX10_sureYards 27 = .ok (.invokevirtual 126, 3) := do_182 (rdb (p := 0) (i := 27) ch_cX10_sureYards_0 rfl) (rdb (p := 0) (i := 28) ch_cX10_sureYards_0 rfl) (rdb (p := 0) (i := 29) ch_cX10_sureYards_0 rfl) rfl
theorem dX10_sureYards_30 : decode cX10_sureYards 30 = .ok (.istore_n 3, 1) := do_62 (rdb (p := 0) (i := 30) ch_cX10_sureYards_0 rfl)
theorem dX10_sureYards_31 : decode cX10_sureYards 31 = .ok (.iload_n 3, 1) := do_29 (rdb (p := 0) (i := 31) ch_cX10_sureYards_0 rfl)
theorem ch_cX10_sureYards_32 : (cX10_sureYards.data.toList.drop 32).take 36 = [158, 0, 9, 29, 4, 100, 167, 0, 7, 44, 182, 0, 138, 172] := by decide +kernel
theorem dX10_sureYards_32 : decode cX10_sureYards 32 = .ok (.ifCond .le 9, 3) := do_158 (rdb (p := 32) (i := 0) ch_cX10_sureYards_32 rfl) (rdb (p := 32) (i := 1) ch_cX10_sureYards_32 rfl) (rdb (p := 32) (i := 2) ch_cX10_sureYards_32 rfl) (by decide +kernel)
theorem dX10_sureYards_35 : decode cX10_sureYards 35 = .ok (.iload_n 3, 1) := do_29 (rdb (p := 32) (i := 3) ch_cX10_sureYards_32 rfl)
theorem dX10_sureYards_36 : decode cX10_sureYards 36 = .ok (.iconst 1, 1) := do_4 (rdb (p := 32) (i := 4) ch_cX10_sureYards_32 rfl)
theorem dX10_sureYards_37 : decode cX10_sureYards 37 = .ok (.isub, 1) := do_100 (rdb (p := 32) (i := 5) ch_cX10_sureYards_32 rfl)
theorem dX10_sureYards_38 : decode cX10_sureYards 38 = .ok (.goto 7, 3) := do_167 (rdb (p := 32) (i := 6) ch_cX10_sureYards_32 rfl) (rdb (p := 32) (i := 7) ch_cX10_sureYards_32 rfl) (rdb (p := 32) (i := 8) ch_cX10_sureYards_32 rfl) (by decide +kernel)
theorem dX10_sureYards_41 : decode cX10_sureYards 41 = .ok (.aload_n 2, 1) := do_44 (rdb (p := 32) (i := 9) ch_cX10_sureYards_32 rfl)
theorem dX10_sureYards_42 : decode cX10_sureYards 42 = .ok (.invokevirtual 138, 3) := do_182 (rdb (p := 32) (i := 10) ch_cX10_sureYards_32 rfl) (rdb (p := 32) (i := 11) ch_cX10_sureYards_32 rfl) (rdb (p := 32) (i := 12) ch_cX10_sureYards_32 rfl) rfl
theorem dX10_sureYards_45 : decode cX10_sureYards 45 = .ok (.ireturn, 1) := do_172 (rdb (p := 32) (i := 13) ch_cX10_sureYards_32 rfl)
theorem ch_cX10_takeFrom_0 : (cX10_takeFrom.data.toList.drop 0).take 36 = [42, 180, 0, 10, 43, 180, 0, 10, 182, 0, 184, 42, 180, 0, 19, 43, 180, 0, 19, 182, 0, 188, 42, 180, 0, 26, 43, 180, 0, 26, 182, 0, 191, 42, 180, 0] := by decide +kernel
theorem dX10_takeFrom_0 : decode cX10_takeFrom 0 = .ok (.aload_n 0, 1) := do_42 (rdb (p := 0) (i := 0) ch_cX10_takeFrom_0 rfl)
theorem dX10_takeFrom_1 : decode cX10_takeFrom 1 = .ok (.getfield 10, 3) := do_180 (rdb (p := 0) (i := 1) ch_cX10_takeFrom_0 rfl) (rdb (p := 0) (i := 2) ch_cX10_takeFrom_0 rfl) (rdb (p := 0) (i := 3) ch_cX10_takeFrom_0 rfl) rfl
theorem dX10_takeFrom_4 : decode cX10_takeFrom 4 = .ok (.aload_n 1, 1) := do_43 (rdb (p := 0) (i := 4) ch_cX10_takeFrom_0 rfl)
theorem dX10_takeFrom_5 : decode cX10_takeFrom 5 = .ok (.getfield 10, 3) := do_180 (rdb (p := 0) (i := 5) ch_cX10_takeFrom_0 rfl) (rdb (p := 0) (i := 6) ch_cX10_takeFrom_0 rfl) (rdb (p := 0) (i := 7) ch_cX10_takeFrom_0 rfl) rfl
theorem dX10_takeFrom_8 : decode cX10_takeFrom 8 = .ok (.invokevirtual 184, 3) := do_182 (rdb (p := 0) (i := 8) ch_cX10_takeFrom_0 rfl) (rdb (p := 0) (i := 9) ch_cX10_takeFrom_0 rfl) (rdb (p := 0) (i := 10) ch_cX10_takeFrom_0 rfl) rfl
theorem dX10_takeFrom_11 : decode cX10_takeFrom 11 = .ok (.aload_n 0, 1) := do_42 (rdb (p := 0) (i := 11) ch_cX10_takeFrom_0 rfl)
theorem dX10_takeFrom_12 : decode cX10_takeFrom 12 = .ok (.getfield 19, 3) := do_180 (rdb (p := 0) (i := 12) ch_cX10_takeFrom_0 rfl) (rdb (p := 0) (i := 13) ch_cX10_takeFrom_0 rfl) (rdb (p := 0) (i := 14) ch_cX10_takeFrom_0 rfl) rfl
theorem dX10_takeFrom_15 : decode cX10_takeFrom 15 = .ok (.aload_n 1, 1) := do_43 (rdb (p := 0) (i := 15) ch_cX10_takeFrom_0 rfl)
theorem dX10_takeFrom_16 : decode cX10_takeFrom 16 = .ok (.getfield 19, 3) := do_180 (rdb (p := 0) (i := 16) ch_cX10_takeFrom_0 rfl) (rdb (p := 0) (i := 17) ch_cX10_takeFrom_0 rfl) (rdb (p := 0) (i := 18) ch_cX10_takeFrom_0 rfl) rfl
theorem dX10_takeFrom_19 : decode cX10_takeFrom 19 = .ok (.invokevirtual 188, 3) := do_182 (rdb (p := 0) (i := 19) ch_cX10_takeFrom_0 rfl) (rdb (p := 0) (i := 20) ch_cX10_takeFrom_0 rfl) (rdb (p := 0) (i := 21) ch_cX10_takeFrom_0 rfl) rfl
theorem dX10_takeFrom_22 : decode cX10_takeFrom 22 = .ok (.aload_n 0, 1) := do_42 (rdb (p := 0) (i := 22) ch_cX10_takeFrom_0 rfl)
theorem dX10_takeFrom_23 : decode cX10_takeFrom 23 = .ok (.getfield 26, 3) := do_180 (rdb (p := 0) (i := 23) ch_cX10_takeFrom_0 rfl) (rdb (p := 0) (i := 24) ch_cX10_takeFrom_0 rfl) (rdb (p := 0) (i := 25) ch_cX10_takeFrom_0 rfl) rfl
theorem dX10_takeFrom_26 : decode cX10_takeFrom 26 = .ok (.aload_n 1, 1) := do_43 (rdb (p := 0) (i := 26) ch_cX10_takeFrom_0 rfl)
theorem dX10_takeFrom_27 : decode cX10_takeFrom 27 = .ok (.getfield 26, 3) := do_180 (rdb (p := 0) (i := 27) ch_cX10_takeFrom_0 rfl) (rdb (p := 0) (i := 28) ch_cX10_takeFrom_0 rfl) (rdb (p := 0) (i := 29) ch_cX10_takeFrom_0 rfl) rfl
theorem dX10_takeFrom_30 : decode cX10_takeFrom 30 = .ok (.invokevirtual 191, 3) := do_182 (rdb (p := 0) (i := 30) ch_cX10_takeFrom_0 rfl) (rdb (p := 0) (i := 31) ch_cX10_takeFrom_0 rfl) (rdb (p := 0) (i := 32) ch_cX10_takeFrom_0 rfl) rfl
theorem ch_cX10_takeFrom_32 : (cX10_takeFrom.data.toList.drop 32).take 36 = [191, 42, 180, 0, 37, 43, 180, 0, 37, 182, 0, 194, 42, 180, 0, 41, 43, 180, 0, 41, 182, 0, 194, 42, 43, 180, 0, 50, 181, 0, 50, 42, 43, 180, 0, 54] := by decide +kernel
theorem dX10_takeFrom_33 : decode cX10_takeFrom 33 = .ok (.aload_n 0, 1) := do_42 (rdb (p := 32) (i := 1) ch_cX10_takeFrom_32 rfl)
theorem dX10_takeFrom_34 : decode cX10_takeFrom 34 = .ok (.getfield 37, 3) := do_180 (rdb (p := 32) (i := 2) ch_cX10_takeFrom_32 rfl) (rdb (p := 32) (i := 3) ch_cX10_takeFrom_32 rfl) (rdb (p := 32) (i := 4) ch_cX10_takeFrom_32 rfl) rfl
theorem dX10_takeFrom_37 : decode cX10_takeFrom 37 = .ok (.aload_n 1, 1) := do_43 (rdb (p := 32) (i := 5) ch_cX10_takeFrom_32 rfl)
theorem dX10_takeFrom_38 : decode cX10_takeFrom 38 = .ok (.getfield 37, 3) := do_180 (rdb (p := 32) (i := 6) ch_cX10_takeFrom_32 rfl) (rdb (p := 32) (i := 7) ch_cX10_takeFrom_32 rfl) (rdb (p := 32) (i := 8) ch_cX10_takeFrom_32 rfl) rfl
theorem dX10_takeFrom_41 : decode cX10_takeFrom 41 = .ok (.invokevirtual 194, 3) := do_182 (rdb (p := 32) (i := 9) ch_cX10_takeFrom_32 rfl) (rdb (p := 32) (i := 10) ch_cX10_takeFrom_32 rfl) (rdb (p := 32) (i := 11) ch_cX10_takeFrom_32 rfl) rfl
theorem dX10_takeFrom_44 : decode cX10_takeFrom 44 = .ok (.aload_n 0, 1) := do_42 (rdb (p := 32) (i := 12) ch_cX10_takeFrom_32 rfl)
theorem dX10_takeFrom_45 : decode cX10_takeFrom 45 = .ok (.getfield 41, 3) := do_180 (rdb (p := 32) (i := 13) ch_cX10_takeFrom_32 rfl) (rdb (p := 32) (i := 14) ch_cX10_takeFrom_32 rfl) (rdb (p := 32) (i := 15) ch_cX10_takeFrom_32 rfl) rfl
theorem dX10_takeFrom_48 : decode cX10_takeFrom 48 = .ok (.aload_n 1, 1) := do_43 (rdb (p := 32) (i := 16) ch_cX10_takeFrom_32 rfl)
theorem dX10_takeFrom_49 : decode cX10_takeFrom 49 = .ok (.getfield 41, 3) := do_180 (rdb (p := 32) (i := 17) ch_cX10_takeFrom_32 rfl) (rdb (p := 32) (i := 18) ch_cX10_takeFrom_32 rfl) (rdb (p := 32) (i := 19) ch_cX10_takeFrom_32 rfl) rfl
theorem dX10_takeFrom_52 : decode cX10_takeFrom 52 = .ok (.invokevirtual 194, 3) := do_182 (rdb (p := 32) (i := 20) ch_cX10_takeFrom_32 rfl) (rdb (p := 32) (i := 21) ch_cX10_takeFrom_32 rfl) (rdb (p := 32) (i := 22) ch_cX10_takeFrom_32 rfl) rfl
theorem dX10_takeFrom_55 : decode cX10_takeFrom 55 = .ok (.aload_n 0, 1) := do_42 (rdb (p := 32) (i := 23) ch_cX10_takeFrom_32 rfl)
theorem dX10_takeFrom_56 : decode cX10_takeFrom 56 = .ok (.aload_n 1, 1) := do_43 (rdb (p := 32) (i := 24) ch_cX10_takeFrom_32 rfl)
theorem dX10_takeFrom_57 : decode cX10_takeFrom 57 = .ok (.getfield 50, 3) := do_180 (rdb (p := 32) (i := 25) ch_cX10_takeFrom_32 rfl) (rdb (p := 32) (i := 26) ch_cX10_takeFrom_32 rfl) (rdb (p := 32) (i := 27) ch_cX10_takeFrom_32 rfl) rfl
theorem dX10_takeFrom_60 : decode cX10_takeFrom 60 = .ok (.putfield 50, 3) := do_181 (rdb (p := 32) (i := 28) ch_cX10_takeFrom_32 rfl) (rdb (p := 32) (i := 29) ch_cX10_takeFrom_32 rfl) (rdb (p := 32) (i := 30) ch_cX10_takeFrom_32 rfl) rfl
theorem dX10_takeFrom_63 : decode cX10_takeFrom 63 = .ok (.aload_n 0, 1) := do_42 (rdb (p := 32) (i := 31) ch_cX10_takeFrom_32 rfl)
theorem ch_cX10_takeFrom_64 : (cX10_takeFrom.data.toList.drop 64).take 36 = [43, 180, 0, 54, 181, 0, 54, 3, 61, 28, 42, 180, 0, 50, 162, 0, 30, 28, 16, 8, 162, 0, 24, 42, 180, 0, 46, 28, 50, 43, 180, 0, 46, 28, 50, 182] := by decide +kernel
theorem dX10_takeFrom_64 : decode cX10_takeFrom 64 = .ok (.aload_n 1, 1) := do_43 (rdb (p := 64) (i := 0) ch_cX10_takeFrom_64 rfl)
theorem dX10_takeFrom_65 : decode cX10_takeFrom 65 = .ok (.getfield 54, 3) := do_180 (rdb (p := 64) (i := 1) ch_cX10_takeFrom_64 rfl) (rdb (p := 64) (i := 2) ch_cX10_takeFrom_64 rfl) (rdb (p := 64) (i := 3) ch_cX10_takeFrom_64 rfl) rfl
theorem dX10_takeFrom_68 : decode cX10_takeFrom 68 = .ok (.putfield 54, 3) := do_181 (rdb (p := 64) (i := 4) ch_cX10_takeFrom_64 rfl) (rdb (p := 64) (i := 5) ch_cX10_takeFrom_64 rfl) (rdb (p := 64) (i := 6) ch_cX10_takeFrom_64 rfl) rfl
theorem dX10_takeFrom_71 : decode cX10_takeFrom 71 = .ok (.iconst 0, 1) := do_3 (rdb (p := 64) (i := 7) ch_cX10_takeFrom_64 rfl)
theorem dX10_takeFrom_72 : decode cX10_takeFrom 72 = .ok (.istore_n 2, 1) := do_61 (rdb (p := 64) (i := 8) ch_cX10_takeFrom_64 rfl)
theorem dX10_takeFrom_73 : decode cX10_takeFrom 73 = .ok (.iload_n 2, 1) := do_28 (rdb (p := 64) (i := 9) ch_cX10_takeFrom_64 rfl)
theorem dX10_takeFrom_74 : decode cX10_takeFrom 74 = .ok (.aload_n 0, 1) := do_42 (rdb (p := 64) (i := 10) ch_cX10_takeFrom_64 rfl)
theorem dX10_takeFrom_75 : decode cX10_takeFrom 75 = .ok (.getfield 50, 3) := do_180 (rdb (p := 64) (i := 11) ch_cX10_takeFrom_64 rfl) (rdb (p := 64) (i := 12) ch_cX10_takeFrom_64 rfl) (rdb (p := 64) (i := 13) ch_cX10_takeFrom_64 rfl) rfl
theorem dX10_takeFrom_78 : decode cX10_takeFrom 78 = .ok (.if_icmp .ge 30, 3) := do_162 (rdb (p := 64) (i := 14) ch_cX10_takeFrom_64 rfl) (rdb (p := 64) (i := 15) ch_cX10_takeFrom_64 rfl) (rdb (p := 64) (i := 16) ch_cX10_takeFrom_64 rfl) (by decide +kernel)
theorem dX10_takeFrom_81 : decode cX10_takeFrom 81 = .ok (.iload_n 2, 1) := do_28 (rdb (p := 64) (i := 17) ch_cX10_takeFrom_64 rfl)
theorem dX10_takeFrom_82 : decode cX10_takeFrom 82 = .ok (.bipush 8, 2) := do_16 (rdb (p := 64) (i := 18) ch_cX10_takeFrom_64 rfl) (rdb (p := 64) (i := 19) ch_cX10_takeFrom_64 rfl) (by decide +kernel)
theorem dX10_takeFrom_84 : decode cX10_takeFrom 84 = .ok (.if_icmp .ge 24, 3) := do_162 (rdb (p := 64) (i := 20) ch_cX10_takeFrom_64 rfl) (rdb (p := 64) (i := 21) ch_cX10_takeFrom_64 rfl) (rdb (p := 64) (i := 22) ch_cX10_takeFrom_64 rfl) (by decide +kernel)
theorem dX10_takeFrom_87 : decode cX10_takeFrom 87 = .ok (.aload_n 0, 1) := do_42 (rdb (p := 64) (i := 23) ch_cX10_takeFrom_64 rfl)
theorem dX10_takeFrom_88 : decode cX10_takeFrom 88 = .ok (.getfield 46, 3) := do_180 (rdb (p := 64) (i := 24) ch_cX10_takeFrom_64 rfl) (rdb (p := 64) (i := 25) ch_cX10_takeFrom_64 rfl) (rdb (p := 64) (i := 26) ch_cX10_takeFrom_64 rfl) rfl
theorem dX10_takeFrom_91 : decode cX10_takeFrom 91 = .ok (.iload_n 2, 1) := do_28 (rdb (p := 64) (i := 27) ch_cX10_takeFrom_64 rfl)
theorem dX10_takeFrom_92 : decode cX10_takeFrom 92 = .ok (.aaload, 1) := do_50 (rdb (p := 64) (i := 28) ch_cX10_takeFrom_64 rfl)
theorem dX10_takeFrom_93 : decode cX10_takeFrom 93 = .ok (.aload_n 1, 1) := do_43 (rdb (p := 64) (i := 29) ch_cX10_takeFrom_64 rfl)
theorem dX10_takeFrom_94 : decode cX10_takeFrom 94 = .ok (.getfield 46, 3) := do_180 (rdb (p := 64) (i := 30) ch_cX10_takeFrom_64 rfl) (rdb (p := 64) (i := 31) ch_cX10_takeFrom_64 rfl) (rdb (p := 64) (i := 32) ch_cX10_takeFrom_64 rfl) rfl
theorem ch_cX10_takeFrom_96 : (cX10_takeFrom.data.toList.drop 96).take 36 = [46, 28, 50, 182, 0, 197, 132, 2, 1, 167, 255, 224, 177] := by decide +kernel
theorem dX10_takeFrom_97 : decode cX10_takeFrom 97 = .ok (.iload_n 2, 1) := do_28 (rdb (p := 96) (i := 1) ch_cX10_takeFrom_96 rfl)
theorem dX10_takeFrom_98 : decode cX10_takeFrom 98 = .ok (.aaload, 1) := do_50 (rdb (p := 96) (i := 2) ch_cX10_takeFrom_96 rfl)
theorem dX10_takeFrom_99 : decode cX10_takeFrom 99 = .ok (.invokevirtual 197, 3) := do_182 (rdb (p := 96) (i := 3) ch_cX10_takeFrom_96 rfl) (rdb (p := 96) (i := 4) ch_cX10_takeFrom_96 rfl) (rdb (p := 96) (i := 5) ch_cX10_takeFrom_96 rfl) rfl
theorem dX10_takeFrom_102 : decode cX10_takeFrom 102 = .ok (.iinc 2 1, 3) := do_132 (rdb (p := 96) (i := 6) ch_cX10_takeFrom_96 rfl) (rdb (p := 96) (i := 7) ch_cX10_takeFrom_96 rfl) (rdb (p := 96) (i := 8) ch_cX10_takeFrom_96 rfl) (by decide +kernel)
theorem dX10_takeFrom_105 : decode cX10_takeFrom 105 = .ok (.goto (-32), 3) := do_167 (rdb (p := 96) (i := 9) ch_cX10_takeFrom_96 rfl) (rdb (p := 96) (i := 10) ch_cX10_takeFrom_96 rfl) (rdb (p := 96) (i := 11) ch_cX10_takeFrom_96 rfl) (by decide +kernel)
theorem dX10_takeFrom_108 : decode cX10_takeFrom 108 = .ok (.return_, 1) := do_177 (rdb (p := 96) (i := 12) ch_cX10_takeFrom_96 rfl)
end
section
def SP_X10_hasWalker (b : Nat) (v : Int32) (Mz : mM) (r_ : Int32) : Prop := (((v.toInt < 0) ∧ r_ = 0) ∨ ((0 ≤ v.toInt) ∧ ∃ z2_ : Int32, (z2_ = Mz.1 (10, b, 0) 6) ∧ (((z2_.toInt ≤ v.toInt) ∧ r_ = 0) ∨ ((v.toInt < z2_.toInt) ∧ (((8 ≤ v.toInt) ∧ r_ = 0) ∨ ((v.toInt < 8) ∧ r_ = 1))))))
theorem lf_c_X10_hasWalker_0 (Mz : mM) (b : Nat) (v : Int32) (z2_ : Int32) (hb : b < 3) (h1_ : 0 ≤ v.toInt) (e3_ : z2_ = Mz.1 (10, b, 0) 6) (h4_ : v.toInt < z2_.toInt) (h5_ : v.toInt < 8) : 0 ≤ v.toInt ∧ v.toInt ≤ 7 := by have r_v := rngI v; have r_z2_ := rngI z2_; subst e3_; omega
set_option maxHeartbeats 4000000 in
set_option maxRecDepth 100000 in
theorem c_X10_hasWalker (l : Launch) (G : va_G) (cy : Nat → ClassId) (ad : rf → Nat) (d : Nat) (b : Nat) (v : Int32) (Mz : mM) (hIz : Inv Mz) (hb : b < 3) : WP CC l G cy ad yX10_hasWalker cX10_hasWalker 2 (some .boolean) d 0 [(0, vR (10, b, 0)), (1, vI v)] [] Mz (fun r M' => Mz = M' ∧ (((r = 1 ∧ 0 ≤ v.toInt ∧ v.toInt ≤ 7) ∨ r = 0)) ∧ SP_X10_hasWalker b v Mz r) := by
  refine w_iload_n dX10_hasWalker_0 rfl 1 rfl ?_
  refine w_if_lt (tgt := 22) dX10_hasWalker_1 (by decide) (rfl : v.toInt = v.toInt) (fun h1_ => ?_) (fun h1_ => ?_)
  · refine w_iconst (v := 0) dX10_hasWalker_22 (by decide) ?_
    exact w_zret rfl dX10_hasWalker_23 ⟨by decide, by decide⟩ ⟨rfl, (Or.inr rfl), (Or.inl ⟨h1_, rfl⟩)⟩
  · refine w_iload_n dX10_hasWalker_4 rfl 1 rfl ?_
    refine w_aload_n dX10_hasWalker_5 rfl 0 rfl ?_
    refine w_getI fl_RX10_50 rfl rfl (ic_10 hb) dX10_hasWalker_6 (fun z2_ e3_ => ?_)
    refine w_icmp_ge (tgt := 22) dX10_hasWalker_9 (by decide) (rfl : v.toInt = v.toInt) (rfl : z2_.toInt = z2_.toInt) (fun h4_ => ?_) (fun h4_ => ?_)
    · refine w_iconst (v := 0) dX10_hasWalker_22 (by decide) ?_
      exact w_zret rfl dX10_hasWalker_23 ⟨by decide, by decide⟩ ⟨rfl, (Or.inr rfl), (Or.inr ⟨h1_, z2_, e3_, (Or.inl ⟨h4_, rfl⟩)⟩)⟩
    · refine w_iload_n dX10_hasWalker_12 rfl 1 rfl ?_
      refine w_bipush (v := 8) dX10_hasWalker_13 (by decide) ?_
      refine w_icmp_ge (tgt := 22) dX10_hasWalker_15 (by decide) (rfl : v.toInt = v.toInt) li_8 (fun h5_ => ?_) (fun h5_ => ?_)
      · refine w_iconst (v := 0) dX10_hasWalker_22 (by decide) ?_
        exact w_zret rfl dX10_hasWalker_23 ⟨by decide, by decide⟩ ⟨rfl, (Or.inr rfl), (Or.inr ⟨h1_, z2_, e3_, (Or.inr ⟨h4_, (Or.inl ⟨h5_, rfl⟩)⟩)⟩)⟩
      · refine w_iconst (v := 1) dX10_hasWalker_18 (by decide) ?_
        refine w_goto (tgt := 23) dX10_hasWalker_19 (by decide) ?_
        exact w_zret rfl dX10_hasWalker_23 ⟨by decide, by decide⟩ ⟨rfl, (Or.inl ⟨rfl, (lf_c_X10_hasWalker_0 Mz b v z2_ hb h1_ e3_ h4_ h5_)⟩), (Or.inr ⟨h1_, z2_, e3_, (Or.inr ⟨h4_, (Or.inr ⟨h5_, rfl⟩)⟩)⟩)⟩
def S_c_X10_addWalker (b : Nat) : rf → Nat → Prop := fun c k => (c.1 = 9 ∧ c.2.1 = b ∧ k = 0) ∨ (c.1 = 9 ∧ c.2.1 = b ∧ k = 1) ∨ (c.1 = 9 ∧ c.2.1 = b ∧ k = 2) ∨ (c.1 = 9 ∧ c.2.1 = b ∧ k = 3) ∨ (c.1 = 9 ∧ c.2.1 = b ∧ k = 4) ∨ (c.1 = 9 ∧ c.2.1 = b ∧ k = 5) ∨ (c.1 = 9 ∧ c.2.1 = b ∧ k = 6) ∨ (c.1 = 9 ∧ c.2.1 = b ∧ k = 7) ∨ (c.1 = 9 ∧ c.2.1 = b ∧ k = 8) ∨ (c.1 = 40 ∧ c.2.1 = b) ∨ (c.1 = 41 ∧ c.2.1 = b) ∨ (c.1 = 35 ∧ c.2.1 = b) ∨ (c.1 = 10 ∧ c.2.1 = b ∧ k = 6) ∨ False
def SP_X10_addWalker (b : Nat) (v : Int32) (u : Int32) (t : Int32) (Mz : mM) (r_ : Int32) (M_ : mM) : Prop := ∃ z1_ : Int32, (z1_ = Mz.1 (10, b, 0) 6) ∧ (((z1_.toInt < 0) ∧ r_ = (-1) ∧ M_ = Mz) ∨ ((0 ≤ z1_.toInt) ∧ (((z1_.toInt < 8) ∧ ∃ j5_ : Nat, ((j5_ : Int) = z1_.toInt) ∧ (j5_ < 8) ∧ ∃ M8_ : mM, (Inv M8_) ∧ (FR (S_c_X9_begin b j5_) Mz M8_) ∧ (SP_X9_begin b j5_ v u t Mz M8_) ∧ ∃ z15_ : Int32, (z15_.toInt = 100 + z1_.toInt) ∧ ∃ M17_ : mM, (Inv M17_) ∧ (FR (S_c_X7_settle b) M8_ M17_) ∧ (SP_X7_settle b u z15_ M8_ M17_) ∧ ∃ z24_ : Int32, (z24_ = M17_.1 (10, b, 0) 6) ∧ ∃ z26_ : Int32, (z26_ = z24_ + (1 : Int32)) ∧ ∃ M28_ : mM, (M28_ = up M17_ (10, b, 0) 6 z26_) ∧ r_ = z1_ ∧ M_ = M28_) ∨ ((8 ≤ z1_.toInt) ∧ r_ = (-1) ∧ M_ = Mz))))
theorem lf_c_X10_addWalker_0 (Mz : mM) (b : Nat) (z1_ : Int32) (hb : b < 3) (e2_ : z1_ = Mz.1 (10, b, 0) 6) (h3_ : 0 ≤ z1_.toInt) (h4_ : z1_.toInt < 8) : 0 ≤ z1_.toInt ∧ z1_.toInt < ((8 : Nat) : Int) := by have r_z1_ := rngI z1_; subst e2_; omega
theorem lf_c_X10_addWalker_1 (Mz : mM) (b : Nat) (z1_ : Int32) (j5_ : Nat) (hb : b < 3) (e2_ : z1_ = Mz.1 (10, b, 0) 6) (h3_ : 0 ≤ z1_.toInt) (h4_ : z1_.toInt < 8) (h6_ : (j5_ : Int) = z1_.toInt) (h7_ : j5_ < 8) : -2147483648 ≤ 100 + z1_.toInt ∧ 100 + z1_.toInt < 2147483648 := by have r_z1_ := rngI z1_; subst e2_; omega
set_option maxHeartbeats 4000000 in
set_option maxRecDepth 100000 in
theorem c_X10_addWalker (l : Launch) (G : va_G) (cy : Nat → ClassId) (ad : rf → Nat) (d : Nat) (b : Nat) (v : Int32) (u : Int32) (t : Int32) (Mz : mM) (hIz : Inv Mz) (hb : b < 3) : WP CC l G cy ad yX10_addWalker cX10_addWalker 5 (some .int) (d + 2) 0 [(0, vR (10, b, 0)), (1, vI v), (2, vI u), (3, vI t)] [] Mz (fun r M' => Inv M' ∧ FR (S_c_X10_addWalker b) Mz M' ∧ (True) ∧ SP_X10_addWalker b v u t Mz r M') := by
  have hFz : FR (S_c_X10_addWalker b) Mz Mz := FR.self
  refine w_aload_n dX10_addWalker_0 rfl 0 rfl ?_
  refine w_getI fl_RX10_50 rfl rfl (ic_10 hb) dX10_addWalker_1 (fun z1_ e2_ => ?_)
  refine w_istore (ls' := [(4, vI z1_), (0, vR (10, b, 0)), (1, vI v), (2, vI u), (3, vI t)]) dX10_addWalker_4 (by decide) rfl ?_
  refine w_iload dX10_addWalker_6 0 rfl ?_
  refine w_if_lt (tgt := 18) dX10_addWalker_8 (by decide) (rfl : z1_.toInt = z1_.toInt) (fun h3_ => ?_) (fun h3_ => ?_)
  · refine w_iconst (v := (-1)) dX10_addWalker_18 (by decide) ?_
    exact w_iret rfl dX10_addWalker_19 ⟨hIz, hFz, trivial, ⟨z1_, e2_, (Or.inl ⟨h3_, rfl, rfl⟩)⟩⟩
  · refine w_iload dX10_addWalker_11 0 rfl ?_
    refine w_bipush (v := 8) dX10_addWalker_13 (by decide) ?_
    refine w_icmp_lt (tgt := 20) dX10_addWalker_15 (by decide) (rfl : z1_.toInt = z1_.toInt) li_8 (fun h4_ => ?_) (fun h4_ => ?_)
    · refine w_aload_n dX10_addWalker_20 rfl 1 rfl ?_
      refine w_getR (c' := (42, b, 0)) fl_RX10_46 rfl rfl (ic_10 hb) dX10_addWalker_21 rfl ?_
      refine w_iload dX10_addWalker_24 0 rfl ?_
      refine w_aald rfl rfl rfl (fun _ => rfl) (ic_42 hb) (rfl : z1_.toInt = z1_.toInt) (lf_c_X10_addWalker_0 Mz b z1_ hb e2_ h3_ h4_) dX10_addWalker_26 (fun j5_ h6_ h7_ => ?_)
      refine w_iload_n dX10_addWalker_27 rfl 2 rfl ?_
      refine w_iload_n dX10_addWalker_28 rfl 3 rfl ?_
      refine w_iload_n dX10_addWalker_29 rfl 4 rfl ?_
      refine w_callVv (as := [vI v, vI u, vI t]) (rest := []) (c_X9_begin l G cy ad (d + 1) b j5_ v u t Mz hIz hb h7_) kV_X9_begin (by decide +kernel) (Nat.le_of_ble_eq_true rfl) m_600 rfl rfl rfl (ic_9 hb h7_) rfl rfl (by decide) (Nat.le_of_ble_eq_true rfl) dX10_addWalker_30 (fun M8_ q9_ => ?_)
      obtain ⟨hI11_, hF12_, h10_, hs14_⟩ := q9_
      have hF13_ := hFz.tr hF12_ (fun c k => (fun h => h.elim (fun h => (Or.inl ⟨h.1, h.2.1, h.2.2.2⟩)) (fun h => h.elim (fun h => (Or.inr (Or.inl ⟨h.1, h.2.1, h.2.2.2⟩))) (fun h => h.elim (fun h => (Or.inr (Or.inr (Or.inl ⟨h.1, h.2.1, h.2.2.2⟩)))) (fun h => h.elim (fun h => (Or.inr (Or.inr (Or.inr (Or.inl ⟨h.1, h.2.1, h.2.2.2⟩))))) (fun h => h.elim (fun h => (Or.inr (Or.inr (Or.inr (Or.inr (Or.inl ⟨h.1, h.2.1, h.2.2.2⟩)))))) (fun h => h.elim (fun h => (Or.inr (Or.inr (Or.inr (Or.inr (Or.inr (Or.inl ⟨h.1, h.2.1, h.2.2.2⟩))))))) (fun h => h.elim (fun h => (Or.inr (Or.inr (Or.inr (Or.inr (Or.inr (Or.inr (Or.inl ⟨h.1, h.2.1, h.2.2.2⟩)))))))) (fun h => h.elim (fun h => (Or.inr (Or.inr (Or.inr (Or.inr (Or.inr (Or.inr (Or.inr (Or.inl ⟨h.1, h.2.1, h.2.2.2⟩))))))))) (fun h => h.elim (fun h => (Or.inr (Or.inr (Or.inr (Or.inr (Or.inr (Or.inr (Or.inr (Or.inr (Or.inl ⟨h.1, h.2.1, h.2.2.2⟩)))))))))) (fun h => h.elim (fun h => (Or.inr (Or.inr (Or.inr (Or.inr (Or.inr (Or.inr (Or.inr (Or.inr (Or.inr (Or.inl ⟨h.1, h.2.1⟩))))))))))) (fun h => h.elim (fun h => (Or.inr (Or.inr (Or.inr (Or.inr (Or.inr (Or.inr (Or.inr (Or.inr (Or.inr (Or.inr (Or.inl ⟨h.1, h.2.1⟩)))))))))))) (fun h => h.elim)))))))))))))
      refine w_aload_n dX10_addWalker_33 rfl 1 rfl ?_
      refine w_getR (c' := (7, b, 0)) fl_RX10_10 rfl rfl (ic_10 hb) dX10_addWalker_34 rfl ?_
      refine w_iload_n dX10_addWalker_37 rfl 3 rfl ?_
      refine w_bipush (v := 100) dX10_addWalker_38 (by decide) ?_
      refine w_iload dX10_addWalker_40 0 rfl ?_
      refine w_iaddB dX10_addWalker_42 li_100 (rfl : z1_.toInt = z1_.toInt) (lf_c_X10_addWalker_1 Mz b z1_ j5_ hb e2_ h3_ h4_ h6_ h7_) (fun z15_ h16_ => ?_)
      refine w_callVv (as := [vI u, vI z15_]) (rest := []) (c_X7_settle l G cy ad d b u z15_ M8_ hI11_ hb) kV_X7_settle (by decide +kernel) (Nat.le_of_ble_eq_true rfl) m_604 rfl rfl rfl (ic_7 hb) rfl rfl (by decide) (Nat.le_of_ble_eq_true rfl) dX10_addWalker_43 (fun M17_ q18_ => ?_)
      obtain ⟨hI20_, hF21_, h19_, hs23_⟩ := q18_
      have hF22_ := hF13_.tr hF21_ (fun c k => (fun h => h.elim (fun h => (Or.inr (Or.inr (Or.inr (Or.inr (Or.inr (Or.inr (Or.inr (Or.inr (Or.inr (Or.inr (Or.inr (Or.inl ⟨h.1, h.2⟩))))))))))))) (fun h => h.elim)))
      refine w_aload_n dX10_addWalker_46 rfl 1 rfl ?_
      refine w_dup dX10_addWalker_47 rfl ?_
      refine w_getI fl_RX10_50 rfl rfl (ic_10 hb) dX10_addWalker_48 (fun z24_ e25_ => ?_)
      refine w_iconst (v := 1) dX10_addWalker_51 (by decide) ?_
      refine w_iadd dX10_addWalker_52 (fun z26_ h27_ => ?_)
      refine w_putI CC_nd fl_RX10_50 rfl rfl (ic_10 hb) dX10_addWalker_53 (fun M28_ hM29_ => ?_)
      have hI30_ := hI20_.put hM29_ trivial
      have hF31_ := hF22_.put hM29_ (Or.inr (Or.inr (Or.inr (Or.inr (Or.inr (Or.inr (Or.inr (Or.inr (Or.inr (Or.inr (Or.inr (Or.inr (Or.inl ⟨rfl, rfl, rfl⟩)))))))))))))
      refine w_iload dX10_addWalker_56 0 rfl ?_
      exact w_iret rfl dX10_addWalker_58 ⟨hI30_, hF31_, trivial, ⟨z1_, e2_, (Or.inr ⟨h3_, (Or.inl ⟨h4_, j5_, h6_, h7_, M8_, hI11_, hF12_, hs14_, z15_, h16_, M17_, hI20_, hF21_, hs23_, z24_, e25_, z26_, h27_, M28_, hM29_, rfl, rfl⟩)⟩)⟩⟩
    · refine w_iconst (v := (-1)) dX10_addWalker_18 (by decide) ?_
      exact w_iret rfl dX10_addWalker_19 ⟨hIz, hFz, trivial, ⟨z1_, e2_, (Or.inr ⟨h3_, (Or.inr ⟨h4_, rfl, rfl⟩)⟩)⟩⟩
def ST_X10_countBumps_4 (b : Nat) (Mz : mM) (v2_4 : Int32) (v1_4 : Int32) (v2_4y : Int32) (v1_4y : Int32) : Prop := (0 ≤ v2_4.toInt) ∧ ∃ z2_ : Int32, (z2_ = Mz.1 (10, b, 0) 6) ∧ (v2_4.toInt < z2_.toInt) ∧ (v2_4.toInt < 8) ∧ ∃ j6_ : Nat, ((j6_ : Int) = v2_4.toInt) ∧ (j6_ < 8) ∧ ∃ z9_ : Int32, (z9_ = Mz.1 (9, b, j6_) 7) ∧ ∃ z11_ : Int32, (z11_ = v1_4 + z9_) ∧ ∃ z13_ : Int32, (z13_.toInt = v2_4.toInt + 1) ∧ v2_4y = z13_ ∧ v1_4y = z11_
def SP_X10_countBumps (b : Nat) (Mz : mM) (r_ : Int32) : Prop := ∃ v2_4 : Int32, (0 ≤ v2_4.toInt) ∧ ∃ v1_4 : Int32, (RCH (fun x_ y_ => ST_X10_countBumps_4 b Mz x_.1 x_.2 y_.1 y_.2) ((0 : Int32), (0 : Int32)) (v2_4, v1_4)) ∧ ∃ z2_ : Int32, (z2_ = Mz.1 (10, b, 0) 6) ∧ (((z2_.toInt ≤ v2_4.toInt) ∧ r_ = v1_4) ∨ ((v2_4.toInt < z2_.toInt) ∧ (8 ≤ v2_4.toInt) ∧ r_ = v1_4))
theorem lf_c_X10_countBumps_0 (Mz : mM) (b : Nat) (v2_4 : Int32) (z2_ : Int32) (hb : b < 3) (hv0_4 : 0 ≤ v2_4.toInt) (e3_ : z2_ = Mz.1 (10, b, 0) 6) (h4_ : v2_4.toInt < z2_.toInt) (h5_ : v2_4.toInt < 8) : 0 ≤ v2_4.toInt ∧ v2_4.toInt < ((8 : Nat) : Int) := by have r_v2_4 := rngI v2_4; have r_z2_ := rngI z2_; subst e3_; omega
theorem lf_c_X10_countBumps_1 (Mz : mM) (b : Nat) (v2_4 : Int32) (z2_ : Int32) (j6_ : Nat) (z9_ : Int32) (hb : b < 3) (hv0_4 : 0 ≤ v2_4.toInt) (e3_ : z2_ = Mz.1 (10, b, 0) 6) (h4_ : v2_4.toInt < z2_.toInt) (h5_ : v2_4.toInt < 8) (h7_ : (j6_ : Int) = v2_4.toInt) (h8_ : j6_ < 8) (e10_ : z9_ = Mz.1 (9, b, j6_) 7) : -2147483648 ≤ v2_4.toInt + 1 ∧ v2_4.toInt + 1 < 2147483648 := by have r_v2_4 := rngI v2_4; have r_z2_ := rngI z2_; have r_z9_ := rngI z9_; subst e3_; subst e10_; omega
theorem lf_c_X10_countBumps_2 (Mz : mM) (b : Nat) (v2_4 : Int32) (z2_ : Int32) (j6_ : Nat) (z9_ : Int32) (z13_ : Int32) (hb : b < 3) (hv0_4 : 0 ≤ v2_4.toInt) (e3_ : z2_ = Mz.1 (10, b, 0) 6) (h4_ : v2_4.toInt < z2_.toInt) (h5_ : v2_4.toInt < 8) (h7_ : (j6_ : Int) = v2_4.toInt) (h8_ : j6_ < 8) (e10_ : z9_ = Mz.1 (9, b, j6_) 7) (h14_ : z13_.toInt = v2_4.toInt + 1) : 0 ≤ z13_.toInt := by have r_v2_4 := rngI v2_4; have r_z2_ := rngI z2_; have r_z9_ := rngI z9_; have r_z13_ := rngI z13_; omega
theorem lf_c_X10_countBumps_3 (Mz : mM) (b : Nat) (v2_4 : Int32) (z2_ : Int32) (j6_ : Nat) (z9_ : Int32) (z13_ : Int32) (hb : b < 3) (hv0_4 : 0 ≤ v2_4.toInt) (e3_ : z2_ = Mz.1 (10, b, 0) 6) (h4_ : v2_4.toInt < z2_.toInt) (h5_ : v2_4.toInt < 8) (h7_ : (j6_ : Int) = v2_4.toInt) (h8_ : j6_ < 8) (e10_ : z9_ = Mz.1 (9, b, j6_) 7) (h14_ : z13_.toInt = v2_4.toInt + 1) : (2147483648 - z13_.toInt).toNat < (2147483648 - v2_4.toInt).toNat := by have r_v2_4 := rngI v2_4; have r_z2_ := rngI z2_; have r_z9_ := rngI z9_; have r_z13_ := rngI z13_; omega
theorem lf_c_X10_countBumps_4    : 0 ≤ (0 : Int32).toInt := by have q0 := li_0; omega
set_option maxHeartbeats 4000000 in
set_option maxRecDepth 100000 in
theorem c_X10_countBumps (l : Launch) (G : va_G) (cy : Nat → ClassId) (ad : rf → Nat) (d : Nat) (b : Nat) (Mz : mM) (hIz : Inv Mz) (hb : b < 3) : WP CC l G cy ad yX10_countBumps cX10_countBumps 3 (some .int) d 0 [(0, vR (10, b, 0))] [] Mz (fun r M' => Mz = M' ∧ (True) ∧ SP_X10_countBumps b Mz r) := by
  refine w_iconst (v := 0) dX10_countBumps_0 (by decide) ?_
  refine w_istore_n (ls' := [(1, vI 0), (0, vR (10, b, 0))]) dX10_countBumps_1 rfl (by decide) rfl ?_
  refine w_iconst (v := 0) dX10_countBumps_2 (by decide) ?_
  refine w_istore_n (ls' := [(2, vI 0), (1, vI 0), (0, vR (10, b, 0))]) dX10_countBumps_3 rfl (by decide) rfl ?_
  have lp1_ : ∀ (nn_4 : Nat) (v2_4 : Int32) (v1_4 : Int32) (hv0_4 : 0 ≤ v2_4.toInt) (hL_4 : RCH (fun x_ y_ => ST_X10_countBumps_4 b Mz x_.1 x_.2 y_.1 y_.2) ((0 : Int32), (0 : Int32)) (v2_4, v1_4)), (2147483648 - v2_4.toInt).toNat < nn_4 → WP CC l G cy ad yX10_countBumps cX10_countBumps 3 (some .int) d 4 [(2, vI v2_4), (1, vI v1_4), (0, vR (10, b, 0))] [] Mz (fun r M' => Mz = M' ∧ (True) ∧ SP_X10_countBumps b Mz r) := by
    intro nn_4
    induction nn_4 with
    | zero => intro v2_4 v1_4 hv0_4 hL_4 hm_4; exact absurd hm_4 (Nat.not_lt_zero _)
    | succ nn_4 ih_4 =>
      intro v2_4 v1_4 hv0_4 hL_4 hm_4
      refine w_iload_n dX10_countBumps_4 rfl 0 rfl ?_
      refine w_aload_n dX10_countBumps_5 rfl 2 rfl ?_
      refine w_getI fl_RX10_50 rfl rfl (ic_10 hb) dX10_countBumps_6 (fun z2_ e3_ => ?_)
      refine w_icmp_ge (tgt := 36) dX10_countBumps_9 (by decide) (rfl : v2_4.toInt = v2_4.toInt) (rfl : z2_.toInt = z2_.toInt) (fun h4_ => ?_) (fun h4_ => ?_)
      · refine w_iload_n dX10_countBumps_36 rfl 1 rfl ?_
        exact w_iret rfl dX10_countBumps_37 ⟨rfl, trivial, ⟨v2_4, hv0_4, v1_4, hL_4, z2_, e3_, (Or.inl ⟨h4_, rfl⟩)⟩⟩
      · refine w_iload_n dX10_countBumps_12 rfl 0 rfl ?_
        refine w_bipush (v := 8) dX10_countBumps_13 (by decide) ?_
        refine w_icmp_ge (tgt := 36) dX10_countBumps_15 (by decide) (rfl : v2_4.toInt = v2_4.toInt) li_8 (fun h5_ => ?_) (fun h5_ => ?_)
        · refine w_iload_n dX10_countBumps_36 rfl 1 rfl ?_
          exact w_iret rfl dX10_countBumps_37 ⟨rfl, trivial, ⟨v2_4, hv0_4, v1_4, hL_4, z2_, e3_, (Or.inr ⟨h4_, h5_, rfl⟩)⟩⟩
        · refine w_iload_n dX10_countBumps_18 rfl 1 rfl ?_
          refine w_aload_n dX10_countBumps_19 rfl 2 rfl ?_
          refine w_getR (c' := (42, b, 0)) fl_RX10_46 rfl rfl (ic_10 hb) dX10_countBumps_20 rfl ?_
          refine w_iload_n dX10_countBumps_23 rfl 0 rfl ?_
          refine w_aald rfl rfl rfl (fun _ => rfl) (ic_42 hb) (rfl : v2_4.toInt = v2_4.toInt) (lf_c_X10_countBumps_0 Mz b v2_4 z2_ hb hv0_4 e3_ h4_ h5_) dX10_countBumps_24 (fun j6_ h7_ h8_ => ?_)
          refine w_getI fl_RX10_66 rfl rfl (ic_9 hb h8_) dX10_countBumps_25 (fun z9_ e10_ => ?_)
          refine w_iadd dX10_countBumps_28 (fun z11_ h12_ => ?_)
          refine w_istore_n (ls' := [(1, vI z11_), (2, vI v2_4), (0, vR (10, b, 0))]) dX10_countBumps_29 rfl (by decide) rfl ?_
          refine w_iincB (j := 1) (f := fun z13_ => [(2, vI z13_), (1, vI z11_), (0, vR (10, b, 0))]) dX10_countBumps_30 rfl (by decide) (fun _ => rfl) (rfl : v2_4.toInt = v2_4.toInt) li_1 (lf_c_X10_countBumps_1 Mz b v2_4 z2_ j6_ z9_ hb hv0_4 e3_ h4_ h5_ h7_ h8_ e10_) (fun z13_ h14_ => ?_)
          refine w_goto (tgt := 4) dX10_countBumps_33 (by decide) ?_
          refine w_loc (ls' := [(2, vI z13_), (1, vI z11_), (0, vR (10, b, 0))]) [0, 1, 2] rfl ?_
          exact ih_4 z13_ z11_ (lf_c_X10_countBumps_2 Mz b v2_4 z2_ j6_ z9_ z13_ hb hv0_4 e3_ h4_ h5_ h7_ h8_ e10_ h14_) (RCH.tail hL_4 ⟨hv0_4, z2_, e3_, h4_, h5_, j6_, h7_, h8_, z9_, e10_, z11_, h12_, z13_, h14_, rfl, rfl⟩) (Nat.lt_of_lt_of_le (lf_c_X10_countBumps_3 Mz b v2_4 z2_ j6_ z9_ z13_ hb hv0_4 e3_ h4_ h5_ h7_ h8_ e10_ h14_) (Nat.le_of_lt_succ hm_4))
  exact lp1_ _ 0 0 (lf_c_X10_countBumps_4 ) RCH.refl (Nat.lt_succ_self _)
def ST_X10_countClicks_4 (b : Nat) (Mz : mM) (v2_4 : Int32) (v1_4 : Int32) (v2_4y : Int32) (v1_4y : Int32) : Prop := (0 ≤ v2_4.toInt) ∧ ∃ z2_ : Int32, (z2_ = Mz.1 (10, b, 0) 6) ∧ (v2_4.toInt < z2_.toInt) ∧ (v2_4.toInt < 8) ∧ ∃ j6_ : Nat, ((j6_ : Int) = v2_4.toInt) ∧ (j6_ < 8) ∧ ∃ z9_ : Int32, (z9_ = Mz.1 (9, b, j6_) 8) ∧ ∃ z11_ : Int32, (z11_ = v1_4 + z9_) ∧ ∃ z13_ : Int32, (z13_.toInt = v2_4.toInt + 1) ∧ v2_4y = z13_ ∧ v1_4y = z11_
def SP_X10_countClicks (b : Nat) (Mz : mM) (r_ : Int32) : Prop := ∃ v2_4 : Int32, (0 ≤ v2_4.toInt) ∧ ∃ v1_4 : Int32, (RCH (fun x_ y_ => ST_X10_countClicks_4 b Mz x_.1 x_.2 y_.1 y_.2) ((0 : Int32), (0 : Int32)) (v2_4, v1_4)) ∧ ∃ z2_ : Int32, (z2_ = Mz.1 (10, b, 0) 6) ∧ (((z2_.toInt ≤ v2_4.toInt) ∧ r_ = v1_4) ∨ ((v2_4.toInt < z2_.toInt) ∧ (8 ≤ v2_4.toInt) ∧ r_ = v1_4))
theorem lf_c_X10_countClicks_0 (Mz : mM) (b : Nat) (v2_4 : Int32) (z2_ : Int32) (hb : b < 3) (hv0_4 : 0 ≤ v2_4.toInt) (e3_ : z2_ = Mz.1 (10, b, 0) 6) (h4_ : v2_4.toInt < z2_.toInt) (h5_ : v2_4.toInt < 8) : 0 ≤ v2_4.toInt ∧ v2_4.toInt < ((8 : Nat) : Int) := by have r_v2_4 := rngI v2_4; have r_z2_ := rngI z2_; subst e3_; omega
theorem lf_c_X10_countClicks_1 (Mz : mM) (b : Nat) (v2_4 : Int32) (z2_ : Int32) (j6_ : Nat) (z9_ : Int32) (hb : b < 3) (hv0_4 : 0 ≤ v2_4.toInt) (e3_ : z2_ = Mz.1 (10, b, 0) 6) (h4_ : v2_4.toInt < z2_.toInt) (h5_ : v2_4.toInt < 8) (h7_ : (j6_ : Int) = v2_4.toInt) (h8_ : j6_ < 8) (e10_ : z9_ = Mz.1 (9, b, j6_) 8) : -2147483648 ≤ v2_4.toInt + 1 ∧ v2_4.toInt + 1 < 2147483648 := by have r_v2_4 := rngI v2_4; have r_z2_ := rngI z2_; have r_z9_ := rngI z9_; subst e3_; subst e10_; omega
theorem lf_c_X10_countClicks_2 (Mz : mM) (b : Nat) (v2_4 : Int32) (z2_ : Int32) (j6_ : Nat) (z9_ : Int32) (z13_ : Int32) (hb : b < 3) (hv0_4 : 0 ≤ v2_4.toInt) (e3_ : z2_ = Mz.1 (10, b, 0) 6) (h4_ : v2_4.toInt < z2_.toInt) (h5_ : v2_4.toInt < 8) (h7_ : (j6_ : Int) = v2_4.toInt) (h8_ : j6_ < 8) (e10_ : z9_ = Mz.1 (9, b, j6_) 8) (h14_ : z13_.toInt = v2_4.toInt + 1) : 0 ≤ z13_.toInt := by have r_v2_4 := rngI v2_4; have r_z2_ := rngI z2_; have r_z9_ := rngI z9_; have r_z13_ := rngI z13_; omega
theorem lf_c_X10_countClicks_3 (Mz : mM) (b : Nat) (v2_4 : Int32) (z2_ : Int32) (j6_ : Nat) (z9_ : Int32) (z13_ : Int32) (hb : b < 3) (hv0_4 : 0 ≤ v2_4.toInt) (e3_ : z2_ = Mz.1 (10, b, 0) 6) (h4_ : v2_4.toInt < z2_.toInt) (h5_ : v2_4.toInt < 8) (h7_ : (j6_ : Int) = v2_4.toInt) (h8_ : j6_ < 8) (e10_ : z9_ = Mz.1 (9, b, j6_) 8) (h14_ : z13_.toInt = v2_4.toInt + 1) : (2147483648 - z13_.toInt).toNat < (2147483648 - v2_4.toInt).toNat := by have r_v2_4 := rngI v2_4; have r_z2_ := rngI z2_; have r_z9_ := rngI z9_; have r_z13_ := rngI z13_; omega
theorem lf_c_X10_countClicks_4    : 0 ≤ (0 : Int32).toInt := by have q0 := li_0; omega
set_option maxHeartbeats 4000000 in
set_option maxRecDepth 100000 in
theorem c_X10_countClicks (l : Launch) (G : va_G) (cy : Nat → ClassId) (ad : rf → Nat) (d : Nat) (b : Nat) (Mz : mM) (hIz : Inv Mz) (hb : b < 3) : WP CC l G cy ad yX10_countClicks cX10_countClicks 3 (some .int) d 0 [(0, vR (10, b, 0))] [] Mz (fun r M' => Mz = M' ∧ (True) ∧ SP_X10_countClicks b Mz r) := by
  refine w_iconst (v := 0) dX10_countClicks_0 (by decide) ?_
  refine w_istore_n (ls' := [(1, vI 0), (0, vR (10, b, 0))]) dX10_countClicks_1 rfl (by decide) rfl ?_
  refine w_iconst (v := 0) dX10_countClicks_2 (by decide) ?_
  refine w_istore_n (ls' := [(2, vI 0), (1, vI 0), (0, vR (10, b, 0))]) dX10_countClicks_3 rfl (by decide) rfl ?_
  have lp1_ : ∀ (nn_4 : Nat) (v2_4 : Int32) (v1_4 : Int32) (hv0_4 : 0 ≤ v2_4.toInt) (hL_4 : RCH (fun x_ y_ => ST_X10_countClicks_4 b Mz x_.1 x_.2 y_.1 y_.2) ((0 : Int32), (0 : Int32)) (v2_4, v1_4)), (2147483648 - v2_4.toInt).toNat < nn_4 → WP CC l G cy ad yX10_countClicks cX10_countClicks 3 (some .int) d 4 [(2, vI v2_4), (1, vI v1_4), (0, vR (10, b, 0))] [] Mz (fun r M' => Mz = M' ∧ (True) ∧ SP_X10_countClicks b Mz r) := by
    intro nn_4
    induction nn_4 with
    | zero => intro v2_4 v1_4 hv0_4 hL_4 hm_4; exact absurd hm_4 (Nat.not_lt_zero _)
    | succ nn_4 ih_4 =>
      intro v2_4 v1_4 hv0_4 hL_4 hm_4
      refine w_iload_n dX10_countClicks_4 rfl 0 rfl ?_
      refine w_aload_n dX10_countClicks_5 rfl 2 rfl ?_
      refine w_getI fl_RX10_50 rfl rfl (ic_10 hb) dX10_countClicks_6 (fun z2_ e3_ => ?_)
      refine w_icmp_ge (tgt := 36) dX10_countClicks_9 (by decide) (rfl : v2_4.toInt = v2_4.toInt) (rfl : z2_.toInt = z2_.toInt) (fun h4_ => ?_) (fun h4_ => ?_)
      · refine w_iload_n dX10_countClicks_36 rfl 1 rfl ?_
        exact w_iret rfl dX10_countClicks_37 ⟨rfl, trivial, ⟨v2_4, hv0_4, v1_4, hL_4, z2_, e3_, (Or.inl ⟨h4_, rfl⟩)⟩⟩
      · refine w_iload_n dX10_countClicks_12 rfl 0 rfl ?_
        refine w_bipush (v := 8) dX10_countClicks_13 (by decide) ?_
        refine w_icmp_ge (tgt := 36) dX10_countClicks_15 (by decide) (rfl : v2_4.toInt = v2_4.toInt) li_8 (fun h5_ => ?_) (fun h5_ => ?_)
        · refine w_iload_n dX10_countClicks_36 rfl 1 rfl ?_
          exact w_iret rfl dX10_countClicks_37 ⟨rfl, trivial, ⟨v2_4, hv0_4, v1_4, hL_4, z2_, e3_, (Or.inr ⟨h4_, h5_, rfl⟩)⟩⟩
        · refine w_iload_n dX10_countClicks_18 rfl 1 rfl ?_
          refine w_aload_n dX10_countClicks_19 rfl 2 rfl ?_
          refine w_getR (c' := (42, b, 0)) fl_RX10_46 rfl rfl (ic_10 hb) dX10_countClicks_20 rfl ?_
          refine w_iload_n dX10_countClicks_23 rfl 0 rfl ?_
          refine w_aald rfl rfl rfl (fun _ => rfl) (ic_42 hb) (rfl : v2_4.toInt = v2_4.toInt) (lf_c_X10_countClicks_0 Mz b v2_4 z2_ hb hv0_4 e3_ h4_ h5_) dX10_countClicks_24 (fun j6_ h7_ h8_ => ?_)
          refine w_getI fl_RX10_69 rfl rfl (ic_9 hb h8_) dX10_countClicks_25 (fun z9_ e10_ => ?_)
          refine w_iadd dX10_countClicks_28 (fun z11_ h12_ => ?_)
          refine w_istore_n (ls' := [(1, vI z11_), (2, vI v2_4), (0, vR (10, b, 0))]) dX10_countClicks_29 rfl (by decide) rfl ?_
          refine w_iincB (j := 1) (f := fun z13_ => [(2, vI z13_), (1, vI z11_), (0, vR (10, b, 0))]) dX10_countClicks_30 rfl (by decide) (fun _ => rfl) (rfl : v2_4.toInt = v2_4.toInt) li_1 (lf_c_X10_countClicks_1 Mz b v2_4 z2_ j6_ z9_ hb hv0_4 e3_ h4_ h5_ h7_ h8_ e10_) (fun z13_ h14_ => ?_)
          refine w_goto (tgt := 4) dX10_countClicks_33 (by decide) ?_
          refine w_loc (ls' := [(2, vI z13_), (1, vI z11_), (0, vR (10, b, 0))]) [0, 1, 2] rfl ?_
          exact ih_4 z13_ z11_ (lf_c_X10_countClicks_2 Mz b v2_4 z2_ j6_ z9_ z13_ hb hv0_4 e3_ h4_ h5_ h7_ h8_ e10_ h14_) (RCH.tail hL_4 ⟨hv0_4, z2_, e3_, h4_, h5_, j6_, h7_, h8_, z9_, e10_, z11_, h12_, z13_, h14_, rfl, rfl⟩) (Nat.lt_of_lt_of_le (lf_c_X10_countClicks_3 Mz b v2_4 z2_ j6_ z9_ z13_ hb hv0_4 e3_ h4_ h5_ h7_ h8_ e10_ h14_) (Nat.le_of_lt_succ hm_4))
  exact lp1_ _ 0 0 (lf_c_X10_countClicks_4 ) RCH.refl (Nat.lt_succ_self _)
def SP_X10_isFreeBut (b : Nat) (v : Int32) (u : Int32) (Mz : mM) (r_ : Int32) : Prop := (((u.toInt < 0) ∧ r_ = 0) ∨ ((0 ≤ u.toInt) ∧ (((u.toInt < 192) ∧ ∃ j5_ : Nat, ((j5_ : Int) = u.toInt) ∧ ∃ z3_ : Int32, (z3_ = Mz.1 (35, b, 0) j5_) ∧ (((z3_.toInt = -1) ∧ r_ = 1) ∨ ((¬ z3_.toInt = -1) ∧ ∃ z8_ : Int32, (z8_ = (100 : Int32) + v) ∧ (((¬ z3_.toInt = z8_.toInt) ∧ r_ = 0) ∨ ((z3_.toInt = z8_.toInt) ∧ r_ = 1))))) ∨ ((192 ≤ u.toInt) ∧ r_ = 0))))
theorem lf_c_X10_isFreeBut_0  (u : Int32) (h1_ : 0 ≤ u.toInt) (h2_ : u.toInt < 192) : 0 ≤ u.toInt ∧ u.toInt < ((192 : Nat) : Int) := by have r_u := rngI u; omega
set_option maxHeartbeats 4000000 in
set_option maxRecDepth 100000 in
theorem c_X10_isFreeBut (l : Launch) (G : va_G) (cy : Nat → ClassId) (ad : rf → Nat) (d : Nat) (b : Nat) (v : Int32) (u : Int32) (Mz : mM) (hIz : Inv Mz) (hb : b < 3) : WP CC l G cy ad yX10_isFreeBut cX10_isFreeBut 4 (some .boolean) d 0 [(0, vR (10, b, 0)), (1, vI v), (2, vI u)] [] Mz (fun r M' => Mz = M' ∧ ((0 ≤ r.toInt ∧ r.toInt ≤ 1)) ∧ SP_X10_isFreeBut b v u Mz r) := by
  refine w_iload_n dX10_isFreeBut_0 rfl 2 rfl ?_
  refine w_if_lt (tgt := 11) dX10_isFreeBut_1 (by decide) (rfl : u.toInt = u.toInt) (fun h1_ => ?_) (fun h1_ => ?_)
  · refine w_iconst (v := 0) dX10_isFreeBut_11 (by decide) ?_
    exact w_zret rfl dX10_isFreeBut_12 ⟨by decide, by decide⟩ ⟨rfl, ⟨by decide, by decide⟩, (Or.inl ⟨h1_, rfl⟩)⟩
  · refine w_iload_n dX10_isFreeBut_4 rfl 2 rfl ?_
    refine w_sipush (v := 192) dX10_isFreeBut_5 (by decide) ?_
    refine w_icmp_lt (tgt := 13) dX10_isFreeBut_8 (by decide) (rfl : u.toInt = u.toInt) li_192 (fun h2_ => ?_) (fun h2_ => ?_)
    · refine w_aload_n dX10_isFreeBut_13 rfl 0 rfl ?_
      refine w_getR (c' := (7, b, 0)) fl_RX10_10 rfl rfl (ic_10 hb) dX10_isFreeBut_14 rfl ?_
      refine w_getR (c' := (35, b, 0)) fl_RX10_72 rfl rfl (ic_7 hb) dX10_isFreeBut_17 rfl ?_
      refine w_iload_n dX10_isFreeBut_20 rfl 2 rfl ?_
      refine w_iald rfl rfl (ic_35 hb) (rfl : u.toInt = u.toInt) (lf_c_X10_isFreeBut_0 u h1_ h2_) dX10_isFreeBut_21 (fun j5_ h6_ z3_ e4_ => ?_)
      refine w_istore_n (ls' := [(3, vI z3_), (0, vR (10, b, 0)), (1, vI v), (2, vI u)]) dX10_isFreeBut_22 rfl (by decide) rfl ?_
      refine w_iload_n dX10_isFreeBut_23 rfl 0 rfl ?_
      refine w_iconst (v := (-1)) dX10_isFreeBut_24 (by decide) ?_
      refine w_icmp_eq (tgt := 36) dX10_isFreeBut_25 (by decide) (rfl : z3_.toInt = z3_.toInt) li_m1 (fun h7_ => ?_) (fun h7_ => ?_)
      · refine w_iconst (v := 1) dX10_isFreeBut_36 (by decide) ?_
        refine w_goto (tgt := 41) dX10_isFreeBut_37 (by decide) ?_
        exact w_zret rfl dX10_isFreeBut_41 ⟨by decide, by decide⟩ ⟨rfl, ⟨by decide, by decide⟩, (Or.inr ⟨h1_, (Or.inl ⟨h2_, j5_, h6_, z3_, e4_, (Or.inl ⟨h7_, rfl⟩)⟩)⟩)⟩
      · refine w_iload_n dX10_isFreeBut_28 rfl 0 rfl ?_
        refine w_bipush (v := 100) dX10_isFreeBut_29 (by decide) ?_
        refine w_iload_n dX10_isFreeBut_31 rfl 2 rfl ?_
        refine w_iadd dX10_isFreeBut_32 (fun z8_ h9_ => ?_)
        refine w_icmp_ne (tgt := 40) dX10_isFreeBut_33 (by decide) (rfl : z3_.toInt = z3_.toInt) (rfl : z8_.toInt = z8_.toInt) (fun h10_ => ?_) (fun h10_ => ?_)
        · refine w_iconst (v := 0) dX10_isFreeBut_40 (by decide) ?_
          exact w_zret rfl dX10_isFreeBut_41 ⟨by decide, by decide⟩ ⟨rfl, ⟨by decide, by decide⟩, (Or.inr ⟨h1_, (Or.inl ⟨h2_, j5_, h6_, z3_, e4_, (Or.inr ⟨h7_, z8_, h9_, (Or.inl ⟨h10_, rfl⟩)⟩)⟩)⟩)⟩
        · refine w_iconst (v := 1) dX10_isFreeBut_36 (by decide) ?_
          refine w_goto (tgt := 41) dX10_isFreeBut_37 (by decide) ?_
          exact w_zret rfl dX10_isFreeBut_41 ⟨by decide, by decide⟩ ⟨rfl, ⟨by decide, by decide⟩, (Or.inr ⟨h1_, (Or.inl ⟨h2_, j5_, h6_, z3_, e4_, (Or.inr ⟨h7_, z8_, h9_, (Or.inr ⟨h10_, rfl⟩)⟩)⟩)⟩)⟩
    · refine w_iconst (v := 0) dX10_isFreeBut_11 (by decide) ?_
      exact w_zret rfl dX10_isFreeBut_12 ⟨by decide, by decide⟩ ⟨rfl, ⟨by decide, by decide⟩, (Or.inr ⟨h1_, (Or.inr ⟨h2_, rfl⟩)⟩)⟩
def ST_X10_echoYards_26 (b : Nat) (v : Int32) (u : Int32) (t : Int32) (Mz : mM) (r10_ : Int32) (v5_26 : Int32) (v5_26y : Int32) : Prop := (1 ≤ v5_26.toInt) ∧ (v5_26.toInt ≤ r10_.toInt) ∧ ∃ r17_ : Int32, (SP_X7_cellFrom u t v5_26 Mz r17_) ∧ (-1 ≤ r17_.toInt ∧ r17_.toInt ≤ 191) ∧ (0 ≤ r17_.toInt) ∧ ∃ r23_ : Int32, (SP_X10_isFreeBut b v r17_ Mz r23_) ∧ ((0 ≤ r23_.toInt ∧ r23_.toInt ≤ 1)) ∧ (¬ r23_.toInt = 0) ∧ ∃ z29_ : Int32, (z29_.toInt = v5_26.toInt + 1) ∧ v5_26y = z29_
def ST_X10_echoYards_26b (v5_26 : Int32) (v5_26y : Int32) : Prop := False
def SP_X10_echoYards (b : Nat) (v : Int32) (u : Int32) (t : Int32) (Mz : mM) (r_ : Int32) : Prop := (((SP_X10_hasWalker b v Mz (1 : Int32)) ∧ (0 ≤ v.toInt ∧ v.toInt ≤ 7) ∧ ∃ j7_ : Nat, ((j7_ : Int) = v.toInt) ∧ (j7_ < 8) ∧ ∃ r10_ : Int32, (SP_X9_reach b j7_ Mz r10_) ∧ (0 ≤ r10_.toInt ∧ r10_.toInt ≤ 12) ∧ ∃ v5_26 : Int32, (1 ≤ v5_26.toInt) ∧ (RCH (fun x_ y_ => ST_X10_echoYards_26 b v u t Mz r10_ x_ y_) (1 : Int32) v5_26) ∧ (((r10_.toInt < v5_26.toInt) ∧ r_ = 0) ∨ ((v5_26.toInt ≤ r10_.toInt) ∧ ∃ r17_ : Int32, (SP_X7_cellFrom u t v5_26 Mz r17_) ∧ (-1 ≤ r17_.toInt ∧ r17_.toInt ≤ 191) ∧ (((0 ≤ r17_.toInt) ∧ ∃ r23_ : Int32, (SP_X10_isFreeBut b v r17_ Mz r23_) ∧ ((0 ≤ r23_.toInt ∧ r23_.toInt ≤ 1)) ∧ (r23_.toInt = 0) ∧ r_ = v5_26) ∨ ((r17_.toInt < 0) ∧ r_ = 0))))) ∨ ((SP_X10_hasWalker b v Mz (0 : Int32)) ∧ ∃ v5_26 : Int32, (1 ≤ v5_26.toInt) ∧ (RCH (fun x_ y_ => ST_X10_echoYards_26b x_ y_) (1 : Int32) v5_26) ∧ (0 < v5_26.toInt) ∧ r_ = 0))
theorem lf_c_X10_echoYards_0  (v : Int32) (h4_ : 0 ≤ v.toInt ∧ v.toInt ≤ 7) : 0 ≤ v.toInt ∧ v.toInt < ((8 : Nat) : Int) := by have r_v := rngI v; omega
theorem lf_c_X10_echoYards_1    : 0 ≤ (0 : Int32).toInt ∧ (0 : Int32).toInt ≤ 12 := by have r9 := li_0; omega
theorem lf_c_X10_echoYards_2  (r10_ : Int32) (v5_26 : Int32) (h13_ : 0 ≤ r10_.toInt ∧ r10_.toInt ≤ 12) (hv0_26 : 1 ≤ v5_26.toInt) (h16_ : v5_26.toInt ≤ r10_.toInt) : -2147483648 ≤ v5_26.toInt + 1 ∧ v5_26.toInt + 1 < 2147483648 := by have r_r10_ := rngI r10_; have r_v5_26 := rngI v5_26; omega
theorem lf_c_X10_echoYards_3  (r10_ : Int32) (v5_26 : Int32) (z29_ : Int32) (h13_ : 0 ≤ r10_.toInt ∧ r10_.toInt ≤ 12) (hv0_26 : 1 ≤ v5_26.toInt) (h16_ : v5_26.toInt ≤ r10_.toInt) (h30_ : z29_.toInt = v5_26.toInt + 1) : 1 ≤ z29_.toInt := by have r_r10_ := rngI r10_; have r_v5_26 := rngI v5_26; have r_z29_ := rngI z29_; omega
theorem lf_c_X10_echoYards_4  (r10_ : Int32) (v5_26 : Int32) (z29_ : Int32) (h13_ : 0 ≤ r10_.toInt ∧ r10_.toInt ≤ 12) (hv0_26 : 1 ≤ v5_26.toInt) (h16_ : v5_26.toInt ≤ r10_.toInt) (h30_ : z29_.toInt = v5_26.toInt + 1) : (2147483648 - z29_.toInt).toNat < (2147483648 - v5_26.toInt).toNat := by have r_r10_ := rngI r10_; have r_v5_26 := rngI v5_26; have r_z29_ := rngI z29_; omega
theorem lf_c_X10_echoYards_5  (r10_ : Int32) (v5_26 : Int32) (h13_ : 0 ≤ r10_.toInt ∧ r10_.toInt ≤ 12) (hv0_26 : 1 ≤ v5_26.toInt) (h16_ : v5_26.toInt ≤ r10_.toInt) : 0 ≤ v5_26.toInt ∧ v5_26.toInt ≤ 12 := by have r_r10_ := rngI r10_; have r_v5_26 := rngI v5_26; omega
theorem lf_c_X10_echoYards_6    : 0 ≤ (0 : Int32).toInt ∧ (0 : Int32).toInt ≤ 12 := by have r9 := li_0; omega
theorem lf_c_X10_echoYards_7    : 1 ≤ (1 : Int32).toInt := by have q0 := li_1; omega
theorem lf_c_X10_echoYards_8  (v5_26 : Int32) (hv0_26 : 1 ≤ v5_26.toInt) (h9 : v5_26.toInt ≤ 0) : False := by have r_v5_26 := rngI v5_26; omega
theorem lf_c_X10_echoYards_9    : 0 ≤ (0 : Int32).toInt ∧ (0 : Int32).toInt ≤ 12 := by have r9 := li_0; omega
theorem lf_c_X10_echoYards_10    : 1 ≤ (1 : Int32).toInt := by have q0 := li_1; omega
set_option maxHeartbeats 4000000 in
set_option maxRecDepth 100000 in
theorem c_X10_echoYards (l : Launch) (G : va_G) (cy : Nat → ClassId) (ad : rf → Nat) (d : Nat) (b : Nat) (v : Int32) (u : Int32) (t : Int32) (Mz : mM) (hIz : Inv Mz) (hb : b < 3) : WP CC l G cy ad yX10_echoYards cX10_echoYards 7 (some .int) (d + 2) 0 [(0, vR (10, b, 0)), (1, vI v), (2, vI u), (3, vI t)] [] Mz (fun r M' => Mz = M' ∧ (0 ≤ r.toInt ∧ r.toInt ≤ 12) ∧ SP_X10_echoYards b v u t Mz r) := by
  refine w_aload_n dX10_echoYards_0 rfl 0 rfl ?_
  refine w_iload_n dX10_echoYards_1 rfl 1 rfl ?_
  refine w_callV (as := [vI v]) (rest := []) (c_X10_hasWalker l G cy ad (d + 1) b v Mz hIz hb) kV_X10_hasWalker (by decide +kernel) (Nat.le_of_ble_eq_true rfl) m_847 rfl rfl rfl (ic_10 hb) rfl rfl (by decide) (Nat.le_of_ble_eq_true rfl) dX10_echoYards_2 (fun r1_ M2_ q3_ => ?_)
  obtain ⟨rfl, h4_, hs5_⟩ := q3_
  rcases h4_ with ⟨rfl, h4_⟩ | rfl
  · refine w_if_eq (tgt := 20) dX10_echoYards_5 (by decide) li_1 (fun h9 => (absurd h9 (by decide))) (fun h6_ => ?_)
    refine w_aload_n dX10_echoYards_8 rfl 0 rfl ?_
    refine w_getR (c' := (42, b, 0)) fl_RX10_46 rfl rfl (ic_10 hb) dX10_echoYards_9 rfl ?_
    refine w_iload_n dX10_echoYards_12 rfl 1 rfl ?_
    refine w_aald rfl rfl rfl (fun _ => rfl) (ic_42 hb) (rfl : v.toInt = v.toInt) (lf_c_X10_echoYards_0 v h4_) dX10_echoYards_13 (fun j7_ h8_ h9_ => ?_)
    refine w_callV (as := []) (rest := []) (c_X9_reach l G cy ad (d + 1) b j7_ Mz hIz hb h9_) kV_X9_reach (by decide +kernel) (Nat.le_of_ble_eq_true rfl) m_848 rfl rfl rfl (ic_9 hb h9_) rfl rfl (by decide) (Nat.le_of_ble_eq_true rfl) dX10_echoYards_14 (fun r10_ M11_ q12_ => ?_)
    obtain ⟨rfl, h13_, hs14_⟩ := q12_
    refine w_goto (tgt := 21) dX10_echoYards_17 (by decide) ?_
    refine w_istore (ls' := [(4, vI r10_), (0, vR (10, b, 0)), (1, vI v), (2, vI u), (3, vI t)]) dX10_echoYards_21 (by decide) rfl ?_
    refine w_iconst (v := 1) dX10_echoYards_23 (by decide) ?_
    refine w_istore (ls' := [(5, vI 1), (4, vI r10_), (0, vR (10, b, 0)), (1, vI v), (2, vI u), (3, vI t)]) dX10_echoYards_24 (by decide) rfl ?_
    have lp15_ : ∀ (nn_26 : Nat) (v5_26 : Int32) (hv0_26 : 1 ≤ v5_26.toInt) (hL_26 : RCH (fun x_ y_ => ST_X10_echoYards_26 b v u t Mz r10_ x_ y_) (1 : Int32) v5_26), (2147483648 - v5_26.toInt).toNat < nn_26 → WP CC l G cy ad yX10_echoYards cX10_echoYards 7 (some .int) (d + 2) 26 [(5, vI v5_26), (4, vI r10_), (0, vR (10, b, 0)), (1, vI v), (2, vI u), (3, vI t)] [] Mz (fun r M' => Mz = M' ∧ (0 ≤ r.toInt ∧ r.toInt ≤ 12) ∧ SP_X10_echoYards b v u t Mz r) := by
      intro nn_26
      induction nn_26 with
      | zero => intro v5_26 hv0_26 hL_26 hm_26; exact absurd hm_26 (Nat.not_lt_zero _)
      | succ nn_26 ih_26 =>
        intro v5_26 hv0_26 hL_26 hm_26
        refine w_iload dX10_echoYards_26 0 rfl ?_
        refine w_iload dX10_echoYards_28 1 rfl ?_
        refine w_icmp_gt (tgt := 68) dX10_echoYards_30 (by decide) (rfl : v5_26.toInt = v5_26.toInt) (rfl : r10_.toInt = r10_.toInt) (fun h16_ => ?_) (fun h16_ => ?_)
        · refine w_iconst (v := 0) dX10_echoYards_68 (by decide) ?_
          exact w_iret rfl dX10_echoYards_69 ⟨rfl, (lf_c_X10_echoYards_1 ), (Or.inl ⟨hs5_, h4_, j7_, h8_, h9_, r10_, hs14_, h13_, v5_26, hv0_26, hL_26, (Or.inl ⟨h16_, rfl⟩)⟩)⟩
        · refine w_iload_n dX10_echoYards_33 rfl 4 rfl ?_
          refine w_iload_n dX10_echoYards_34 rfl 5 rfl ?_
          refine w_iload dX10_echoYards_35 0 rfl ?_
          refine w_callS (as := [vI u, vI t, vI v5_26]) (rest := []) (c_X7_cellFrom l G cy ad d u t v5_26 Mz hIz) kS_X7_cellFrom (by decide +kernel) (Nat.le_of_ble_eq_true rfl) m_849 rfl rfl (by decide) (Nat.le_of_ble_eq_true rfl) dX10_echoYards_37 (fun r17_ M18_ q19_ => ?_)
          obtain ⟨rfl, h20_, hs21_⟩ := q19_
          refine w_istore (ls' := [(6, vI r17_), (5, vI v5_26), (4, vI r10_), (0, vR (10, b, 0)), (1, vI v), (2, vI u), (3, vI t)]) dX10_echoYards_40 (by decide) rfl ?_
          refine w_iload dX10_echoYards_42 0 rfl ?_
          refine w_if_ge (tgt := 49) dX10_echoYards_44 (by decide) (rfl : r17_.toInt = r17_.toInt) (fun h22_ => ?_) (fun h22_ => ?_)
          · refine w_aload_n dX10_echoYards_49 rfl 3 rfl ?_
            refine w_iload_n dX10_echoYards_50 rfl 4 rfl ?_
            refine w_iload dX10_echoYards_51 0 rfl ?_
            refine w_callV (as := [vI v, vI r17_]) (rest := []) (c_X10_isFreeBut l G cy ad (d + 1) b v r17_ Mz hIz hb) kV_X10_isFreeBut (by decide +kernel) (Nat.le_of_ble_eq_true rfl) m_857 rfl rfl rfl (ic_10 hb) rfl rfl (by decide) (Nat.le_of_ble_eq_true rfl) dX10_echoYards_53 (fun r23_ M24_ q25_ => ?_)
            obtain ⟨rfl, h26_, hs27_⟩ := q25_
            refine w_if_ne (tgt := 62) dX10_echoYards_56 (by decide) (rfl : r23_.toInt = r23_.toInt) (fun h28_ => ?_) (fun h28_ => ?_)
            · refine w_iincB (j := 1) (f := fun z29_ => [(5, vI z29_), (6, vI r17_), (4, vI r10_), (0, vR (10, b, 0)), (1, vI v), (2, vI u), (3, vI t)]) dX10_echoYards_62 rfl (by decide) (fun _ => rfl) (rfl : v5_26.toInt = v5_26.toInt) li_1 (lf_c_X10_echoYards_2 r10_ v5_26 h13_ hv0_26 h16_) (fun z29_ h30_ => ?_)
              refine w_goto (tgt := 26) dX10_echoYards_65 (by decide) ?_
              refine w_loc (ls' := [(5, vI z29_), (4, vI r10_), (0, vR (10, b, 0)), (1, vI v), (2, vI u), (3, vI t)]) [0, 2, 3, 4, 5, 6] rfl ?_
              exact ih_26 z29_ (lf_c_X10_echoYards_3 r10_ v5_26 z29_ h13_ hv0_26 h16_ h30_) (RCH.tail hL_26 ⟨hv0_26, h16_, r17_, hs21_, h20_, h22_, r23_, hs27_, h26_, h28_, z29_, h30_, rfl⟩) (Nat.lt_of_lt_of_le (lf_c_X10_echoYards_4 r10_ v5_26 z29_ h13_ hv0_26 h16_ h30_) (Nat.le_of_lt_succ hm_26))
            · refine w_iload dX10_echoYards_59 1 rfl ?_
              exact w_iret rfl dX10_echoYards_61 ⟨rfl, (lf_c_X10_echoYards_5 r10_ v5_26 h13_ hv0_26 h16_), (Or.inl ⟨hs5_, h4_, j7_, h8_, h9_, r10_, hs14_, h13_, v5_26, hv0_26, hL_26, (Or.inr ⟨h16_, r17_, hs21_, h20_, (Or.inl ⟨h22_, r23_, hs27_, h26_, h28_, rfl⟩)⟩)⟩)⟩
          · refine w_iconst (v := 0) dX10_echoYards_47 (by decide) ?_
            exact w_iret rfl dX10_echoYards_48 ⟨rfl, (lf_c_X10_echoYards_6 ), (Or.inl ⟨hs5_, h4_, j7_, h8_, h9_, r10_, hs14_, h13_, v5_26, hv0_26, hL_26, (Or.inr ⟨h16_, r17_, hs21_, h20_, (Or.inr ⟨h22_, rfl⟩)⟩)⟩)⟩
    exact lp15_ _ 1 (lf_c_X10_echoYards_7 ) RCH.refl (Nat.lt_succ_self _)
  · refine w_if_eq (tgt := 20) dX10_echoYards_5 (by decide) li_0 (fun h31_ => ?_) (fun h9 => (absurd h9 (by decide)))
    refine w_iconst (v := 0) dX10_echoYards_20 (by decide) ?_
    refine w_istore (ls' := [(4, vI 0), (0, vR (10, b, 0)), (1, vI v), (2, vI u), (3, vI t)]) dX10_echoYards_21 (by decide) rfl ?_
    refine w_iconst (v := 1) dX10_echoYards_23 (by decide) ?_
    refine w_istore (ls' := [(5, vI 1), (4, vI 0), (0, vR (10, b, 0)), (1, vI v), (2, vI u), (3, vI t)]) dX10_echoYards_24 (by decide) rfl ?_
    have lp32_ : ∀ (nn_26 : Nat) (v5_26 : Int32) (hv0_26 : 1 ≤ v5_26.toInt) (hL_26 : RCH (fun x_ y_ => ST_X10_echoYards_26b x_ y_) (1 : Int32) v5_26), (2147483648 - v5_26.toInt).toNat < nn_26 → WP CC l G cy ad yX10_echoYards cX10_echoYards 7 (some .int) (d + 2) 26 [(5, vI v5_26), (4, vI 0), (0, vR (10, b, 0)), (1, vI v), (2, vI u), (3, vI t)] [] Mz (fun r M' => Mz = M' ∧ (0 ≤ r.toInt ∧ r.toInt ≤ 12) ∧ SP_X10_echoYards b v u t Mz r) := by
      intro nn_26
      induction nn_26 with
      | zero => intro v5_26 hv0_26 hL_26 hm_26; exact absurd hm_26 (Nat.not_lt_zero _)
      | succ nn_26 ih_26 =>
        intro v5_26 hv0_26 hL_26 hm_26
        refine w_iload dX10_echoYards_26 0 rfl ?_
        refine w_iload dX10_echoYards_28 1 rfl ?_
        refine w_icmp_gt (tgt := 68) dX10_echoYards_30 (by decide) (rfl : v5_26.toInt = v5_26.toInt) li_0 (fun h33_ => ?_) (fun h9 => (lf_c_X10_echoYards_8 v5_26 hv0_26 h9).elim)
        refine w_iconst (v := 0) dX10_echoYards_68 (by decide) ?_
        exact w_iret rfl dX10_echoYards_69 ⟨rfl, (lf_c_X10_echoYards_9 ), (Or.inr ⟨hs5_, v5_26, hv0_26, hL_26, h33_, rfl⟩)⟩
    exact lp32_ _ 1 (lf_c_X10_echoYards_10 ) RCH.refl (Nat.lt_succ_self _)
def S_c_X10_heardYards (b : Nat) : rf → Nat → Prop := fun c k => (c.1 = 29 ∧ c.2.1 = b ∧ k = 0) ∨ (c.1 = 29 ∧ c.2.1 = b ∧ k = 1) ∨ (c.1 = 29 ∧ c.2.1 = b ∧ k = 2) ∨ (c.1 = 29 ∧ c.2.1 = b ∧ k = 3) ∨ (c.1 = 25 ∧ c.2.1 = b ∧ c.2.2 = 0) ∨ (c.1 = 25 ∧ c.2.1 = b ∧ c.2.2 = 1) ∨ False
def SP_X10_heardYards (b : Nat) (v : Int32) (u : Int32) (t : Int32) (Mz : mM) (r_ : Int32) (M_ : mM) : Prop := ∃ r1_ : Int32, (SP_X10_echoYards b v u t Mz r1_) ∧ (0 ≤ r1_.toInt ∧ r1_.toInt ≤ 12) ∧ (((r1_.toInt = 0) ∧ r_ = 0 ∧ M_ = Mz) ∨ ((¬ r1_.toInt = 0) ∧ (((SP_X10_hasWalker b v Mz (1 : Int32)) ∧ (0 ≤ v.toInt ∧ v.toInt ≤ 7) ∧ ∃ j13_ : Nat, ((j13_ : Int) = v.toInt) ∧ (j13_ < 8) ∧ ∃ r16_ : Int32, (SP_X7_cellFrom u t r1_ Mz r16_) ∧ (-1 ≤ r16_.toInt ∧ r16_.toInt ≤ 191) ∧ ∃ r21_ : Int32, (SP_X7_kindIn b r16_ Mz r21_) ∧ ∃ r26_ : Int32, (SP_X9_ears b j13_ Mz r26_) ∧ (0 ≤ r26_.toInt ∧ r26_.toInt ≤ 9) ∧ ∃ r31_ : Int32, (SP_X9_ownClick b j13_ Mz r31_) ∧ ∃ M37_ : mM, (Inv M37_) ∧ (FR (S_c_X2_hears b) Mz M37_) ∧ ∃ r36_ : Int32, (SP_X2_hears b r26_ r21_ r31_ r1_ t Mz r36_ M37_) ∧ ((0 ≤ r36_.toInt ∧ r36_.toInt ≤ 1)) ∧ (((r36_.toInt = 0) ∧ r_ = 0 ∧ M_ = M37_) ∨ ((¬ r36_.toInt = 0) ∧ r_ = r1_ ∧ M_ = M37_))) ∨ ((SP_X10_hasWalker b v Mz (0 : Int32)) ∧ r_ = 0 ∧ M_ = Mz))))
theorem lf_c_X10_heardYards_0    : 0 ≤ (0 : Int32).toInt ∧ (0 : Int32).toInt ≤ 12 := by have r9 := li_0; omega
theorem lf_c_X10_heardYards_1  (v : Int32) (h10_ : 0 ≤ v.toInt ∧ v.toInt ≤ 7) : 0 ≤ v.toInt ∧ v.toInt < ((8 : Nat) : Int) := by have r_v := rngI v; omega
theorem lf_c_X10_heardYards_2    : 0 ≤ (0 : Int32).toInt ∧ (0 : Int32).toInt ≤ 12 := by have r9 := li_0; omega
theorem lf_c_X10_heardYards_3    : 0 ≤ (0 : Int32).toInt ∧ (0 : Int32).toInt ≤ 12 := by have r9 := li_0; omega
set_option maxHeartbeats 4000000 in
set_option maxRecDepth 100000 in
theorem c_X10_heardYards (l : Launch) (G : va_G) (cy : Nat → ClassId) (ad : rf → Nat) (d : Nat) (b : Nat) (v : Int32) (u : Int32) (t : Int32) (Mz : mM) (hIz : Inv Mz) (hb : b < 3) : WP CC l G cy ad yX10_heardYards cX10_heardYards 7 (some .int) (d + 3) 0 [(0, vR (10, b, 0)), (1, vI v), (2, vI u), (3, vI t)] [] Mz (fun r M' => Inv M' ∧ FR (S_c_X10_heardYards b) Mz M' ∧ (0 ≤ r.toInt ∧ r.toInt ≤ 12) ∧ SP_X10_heardYards b v u t Mz r M') := by
  have hFz : FR (S_c_X10_heardYards b) Mz Mz := FR.self
  refine w_aload_n dX10_heardYards_0 rfl 0 rfl ?_
  refine w_iload_n dX10_heardYards_1 rfl 1 rfl ?_
  refine w_iload_n dX10_heardYards_2 rfl 2 rfl ?_
  refine w_iload_n dX10_heardYards_3 rfl 3 rfl ?_
  refine w_callV (as := [vI v, vI u, vI t]) (rest := []) (c_X10_echoYards l G cy ad d b v u t Mz hIz hb) kV_X10_echoYards (by decide +kernel) (Nat.le_of_ble_eq_true rfl) m_865 rfl rfl rfl (ic_10 hb) rfl rfl (by decide) (Nat.le_of_ble_eq_true rfl) dX10_heardYards_4 (fun r1_ M2_ q3_ => ?_)
  obtain ⟨rfl, h4_, hs5_⟩ := q3_
  refine w_istore (ls' := [(4, vI r1_), (0, vR (10, b, 0)), (1, vI v), (2, vI u), (3, vI t)]) dX10_heardYards_7 (by decide) rfl ?_
  refine w_iload dX10_heardYards_9 0 rfl ?_
  refine w_if_eq (tgt := 22) dX10_heardYards_11 (by decide) (rfl : r1_.toInt = r1_.toInt) (fun h6_ => ?_) (fun h6_ => ?_)
  · refine w_iconst (v := 0) dX10_heardYards_22 (by decide) ?_
    exact w_iret rfl dX10_heardYards_23 ⟨hIz, hFz, (lf_c_X10_heardYards_0 ), ⟨r1_, hs5_, h4_, (Or.inl ⟨h6_, rfl, rfl⟩)⟩⟩
  · refine w_aload_n dX10_heardYards_14 rfl 1 rfl ?_
    refine w_iload_n dX10_heardYards_15 rfl 2 rfl ?_
    refine w_callV (as := [vI v]) (rest := []) (c_X10_hasWalker l G cy ad (d + 2) b v Mz hIz hb) kV_X10_hasWalker (by decide +kernel) (Nat.le_of_ble_eq_true rfl) m_847 rfl rfl rfl (ic_10 hb) rfl rfl (by decide) (Nat.le_of_ble_eq_true rfl) dX10_heardYards_16 (fun r7_ M8_ q9_ => ?_)
    obtain ⟨rfl, h10_, hs11_⟩ := q9_
    rcases h10_ with ⟨rfl, h10_⟩ | rfl
    · refine w_if_ne (tgt := 24) dX10_heardYards_19 (by decide) li_1 (fun h12_ => ?_) (fun h9 => (absurd h9 (by decide)))
      refine w_aload_n dX10_heardYards_24 rfl 1 rfl ?_
      refine w_getR (c' := (42, b, 0)) fl_RX10_46 rfl rfl (ic_10 hb) dX10_heardYards_25 rfl ?_
      refine w_iload_n dX10_heardYards_28 rfl 2 rfl ?_
      refine w_aald rfl rfl rfl (fun _ => rfl) (ic_42 hb) (rfl : v.toInt = v.toInt) (lf_c_X10_heardYards_1 v h10_) dX10_heardYards_29 (fun j13_ h14_ h15_ => ?_)
      refine w_astore (ls' := [(5, vR (9, b, j13_)), (4, vI r1_), (0, vR (10, b, 0)), (1, vI v), (2, vI u), (3, vI t)]) dX10_heardYards_30 (by decide) rfl ?_
      refine w_aload_n dX10_heardYards_32 rfl 2 rfl ?_
      refine w_getR (c' := (7, b, 0)) fl_RX10_10 rfl rfl (ic_10 hb) dX10_heardYards_33 rfl ?_
      refine w_iload_n dX10_heardYards_36 rfl 4 rfl ?_
      refine w_iload_n dX10_heardYards_37 rfl 5 rfl ?_
      refine w_iload dX10_heardYards_38 1 rfl ?_
      refine w_callS (as := [vI u, vI t, vI r1_]) (rest := [vR (7, b, 0)]) (c_X7_cellFrom l G cy ad (d + 1) u t r1_ Mz hIz) kS_X7_cellFrom (by decide +kernel) (Nat.le_of_ble_eq_true rfl) m_849 rfl rfl (by decide) (Nat.le_of_ble_eq_true rfl) dX10_heardYards_40 (fun r16_ M17_ q18_ => ?_)
      obtain ⟨rfl, h19_, hs20_⟩ := q18_
      refine w_callV (as := [vI r16_]) (rest := []) (c_X7_kindIn l G cy ad (d + 1) b r16_ Mz hIz hb) kV_X7_kindIn (by decide +kernel) (Nat.le_of_ble_eq_true rfl) m_869 rfl rfl rfl (ic_7 hb) rfl rfl (by decide) (Nat.le_of_ble_eq_true rfl) dX10_heardYards_43 (fun r21_ M22_ q23_ => ?_)
      obtain ⟨rfl, h24_, hs25_⟩ := q23_
      refine w_istore (ls' := [(6, vI r21_), (5, vR (9, b, j13_)), (4, vI r1_), (0, vR (10, b, 0)), (1, vI v), (2, vI u), (3, vI t)]) dX10_heardYards_46 (by decide) rfl ?_
      refine w_aload_n dX10_heardYards_48 rfl 3 rfl ?_
      refine w_getR (c' := (2, b, 0)) fl_RX10_19 rfl rfl (ic_10 hb) dX10_heardYards_49 rfl ?_
      refine w_aload dX10_heardYards_52 1 rfl ?_
      refine w_callV (as := []) (rest := [vR (2, b, 0)]) (c_X9_ears l G cy ad (d + 2) b j13_ Mz hIz hb h15_) kV_X9_ears (by decide +kernel) (Nat.le_of_ble_eq_true rfl) m_887 rfl rfl rfl (ic_9 hb h15_) rfl rfl (by decide) (Nat.le_of_ble_eq_true rfl) dX10_heardYards_54 (fun r26_ M27_ q28_ => ?_)
      obtain ⟨rfl, h29_, hs30_⟩ := q28_
      refine w_iload dX10_heardYards_57 0 rfl ?_
      refine w_aload dX10_heardYards_59 1 rfl ?_
      refine w_callV (as := []) (rest := [vI r21_, vI r26_, vR (2, b, 0)]) (c_X9_ownClick l G cy ad (d + 2) b j13_ Mz hIz hb h15_) kV_X9_ownClick (by decide +kernel) (Nat.le_of_ble_eq_true rfl) m_904 rfl rfl rfl (ic_9 hb h15_) rfl rfl (by decide) (Nat.le_of_ble_eq_true rfl) dX10_heardYards_61 (fun r31_ M32_ q33_ => ?_)
      obtain ⟨rfl, h34_, hs35_⟩ := q33_
      refine w_iload dX10_heardYards_64 2 rfl ?_
      refine w_iload_n dX10_heardYards_66 rfl 6 rfl ?_
      refine w_callV (as := [vI r26_, vI r21_, vI r31_, vI r1_, vI t]) (rest := []) (c_X2_hears l G cy ad d b r26_ r21_ r31_ r1_ t Mz hIz hb) kV_X2_hears (by decide +kernel) (Nat.le_of_ble_eq_true rfl) m_908 rfl rfl rfl (ic_2 hb) rfl rfl (by decide) (Nat.le_of_ble_eq_true rfl) dX10_heardYards_67 (fun r36_ M37_ q38_ => ?_)
      obtain ⟨hI40_, hF41_, h39_, hs43_⟩ := q38_
      have hF42_ := hFz.tr hF41_ (fun c k => (fun h => h.elim (fun h => (Or.inl ⟨h.1, h.2.1, h.2.2⟩)) (fun h => h.elim (fun h => (Or.inr (Or.inl ⟨h.1, h.2.1, h.2.2⟩))) (fun h => h.elim (fun h => (Or.inr (Or.inr (Or.inl ⟨h.1, h.2.1, h.2.2⟩)))) (fun h => h.elim (fun h => (Or.inr (Or.inr (Or.inr (Or.inl ⟨h.1, h.2.1, h.2.2⟩))))) (fun h => h.elim (fun h => (Or.inr (Or.inr (Or.inr (Or.inr (Or.inl ⟨h.1, h.2.1, h.2.2⟩)))))) (fun h => h.elim (fun h => (Or.inr (Or.inr (Or.inr (Or.inr (Or.inr (Or.inl ⟨h.1, h.2.1, h.2.2⟩))))))) (fun h => h.elim))))))))
      refine w_if_eq (tgt := 78) dX10_heardYards_70 (by decide) (rfl : r36_.toInt = r36_.toInt) (fun h44_ => ?_) (fun h44_ => ?_)
      · refine w_iconst (v := 0) dX10_heardYards_78 (by decide) ?_
        exact w_iret rfl dX10_heardYards_79 ⟨hI40_, hF42_, (lf_c_X10_heardYards_2 ), ⟨r1_, hs5_, h4_, (Or.inr ⟨h6_, (Or.inl ⟨hs11_, h10_, j13_, h14_, h15_, r16_, hs20_, h19_, r21_, hs25_, r26_, hs30_, h29_, r31_, hs35_, M37_, hI40_, hF41_, r36_, hs43_, h39_, (Or.inl ⟨h44_, rfl, rfl⟩)⟩)⟩)⟩⟩
      · refine w_iload dX10_heardYards_73 2 rfl ?_
        refine w_goto (tgt := 79) dX10_heardYards_75 (by decide) ?_
        exact w_iret rfl dX10_heardYards_79 ⟨hI40_, hF42_, h4_, ⟨r1_, hs5_, h4_, (Or.inr ⟨h6_, (Or.inl ⟨hs11_, h10_, j13_, h14_, h15_, r16_, hs20_, h19_, r21_, hs25_, r26_, hs30_, h29_, r31_, hs35_, M37_, hI40_, hF41_, r36_, hs43_, h39_, (Or.inr ⟨h44_, rfl, rfl⟩)⟩)⟩)⟩⟩
    · refine w_if_ne (tgt := 24) dX10_heardYards_19 (by decide) li_0 (fun h9 => (absurd h9 (by decide))) (fun h45_ => ?_)
      refine w_iconst (v := 0) dX10_heardYards_22 (by decide) ?_
      exact w_iret rfl dX10_heardYards_23 ⟨hIz, hFz, (lf_c_X10_heardYards_3 ), ⟨r1_, hs5_, h4_, (Or.inr ⟨h6_, (Or.inr ⟨hs11_, rfl, rfl⟩)⟩)⟩⟩
def S_c_X10_echoFact (b : Nat) : rf → Nat → Prop := fun c k => (c.1 = 29 ∧ c.2.1 = b ∧ k = 0) ∨ (c.1 = 29 ∧ c.2.1 = b ∧ k = 1) ∨ (c.1 = 29 ∧ c.2.1 = b ∧ k = 2) ∨ (c.1 = 29 ∧ c.2.1 = b ∧ k = 3) ∨ (c.1 = 25 ∧ c.2.1 = b ∧ c.2.2 = 0) ∨ (c.1 = 25 ∧ c.2.1 = b ∧ c.2.2 = 1) ∨ False
def SP_X10_echoFact (b : Nat) (v : Int32) (u : Int32) (t : Int32) (s : Int32) (Mz : mM) (r_ : Int32) (M_ : mM) : Prop := (((SP_X10_hasWalker b v Mz (1 : Int32)) ∧ (0 ≤ v.toInt ∧ v.toInt ≤ 7) ∧ ∃ j7_ : Nat, ((j7_ : Int) = v.toInt) ∧ (j7_ < 8) ∧ ∃ z10_ : Int32, (z10_ = Mz.1 (9, b, j7_) 1) ∧ ∃ r12_ : Int32, (SP_X10_echoYards b v z10_ t Mz r12_) ∧ (0 ≤ r12_.toInt ∧ r12_.toInt ≤ 12) ∧ ∃ r17_ : Int32, (SP_X2_late t r12_ Mz r17_) ∧ ∃ r24_ : Int32, (SP_X7_cellFrom z10_ t r12_ Mz r24_) ∧ (-1 ≤ r24_.toInt ∧ r24_.toInt ≤ 191) ∧ ∃ r29_ : Int32, (SP_X7_kindIn b r24_ Mz r29_) ∧ ∃ M35_ : mM, (Inv M35_) ∧ (FR (S_c_X2_strength b) Mz M35_) ∧ ∃ r34_ : Int32, (SP_X2_strength b r29_ u r12_ Mz r34_ M35_) ∧ ∃ z42_ : Int32, (z42_ = M35_.1 (9, b, j7_) 2) ∧ ∃ z44_ : Int32, (z44_ = t - z42_) ∧ ∃ z46_ : Int32, (z46_ = z44_ &&& (7 : Int32)) ∧ (0 ≤ z46_.toInt ∧ z46_.toInt < ((2 ^ 3 : Nat) : Int)) ∧ (((s.toInt = 0) ∧ r_ = r12_ ∧ M_ = M35_) ∨ ((s.toInt = 1) ∧ r_ = r17_ ∧ M_ = M35_) ∨ ((s.toInt = 2) ∧ r_ = r34_ ∧ M_ = M35_) ∨ ((s.toInt = 3) ∧ (((z46_.toInt < 1) ∧ r_ = r34_ ∧ M_ = M35_) ∨ ((1 ≤ z46_.toInt) ∧ (((3 < z46_.toInt) ∧ r_ = r34_ ∧ M_ = M35_) ∨ ((z46_.toInt ≤ 3) ∧ ∃ z52_ : Int32, (z52_ = r34_ / (2 : Int32)) ∧ r_ = z52_ ∧ M_ = M35_))))) ∨ ((s.toInt = 4) ∧ (((z46_.toInt < 5) ∧ r_ = r34_ ∧ M_ = M35_) ∨ ((5 ≤ z46_.toInt) ∧ ∃ z55_ : Int32, (z55_ = r34_ / (2 : Int32)) ∧ r_ = z55_ ∧ M_ = M35_))) ∨ (((¬ s.toInt = 0 ∧ ¬ s.toInt = 1 ∧ ¬ s.toInt = 2 ∧ ¬ s.toInt = 3 ∧ ¬ s.toInt = 4)) ∧ ∃ r57_ : Int32, (SP_X9_ears b j7_ M35_ r57_) ∧ (0 ≤ r57_.toInt ∧ r57_.toInt ≤ 9) ∧ ∃ M63_ : mM, (Inv M63_) ∧ (FR (S_c_X2_isHeard b) M35_ M63_) ∧ ∃ r62_ : Int32, (SP_X2_isHeard b r57_ u r17_ r34_ M35_ r62_ M63_) ∧ ((0 ≤ r62_.toInt ∧ r62_.toInt ≤ 1)) ∧ (((r62_.toInt = 0) ∧ r_ = 0 ∧ M_ = M63_) ∨ ((¬ r62_.toInt = 0) ∧ r_ = 1 ∧ M_ = M63_))))) ∨ ((SP_X10_hasWalker b v Mz (0 : Int32)) ∧ r_ = 0 ∧ M_ = Mz))
theorem lf_c_X10_echoFact_0  (v : Int32) (h4_ : 0 ≤ v.toInt ∧ v.toInt ≤ 7) : 0 ≤ v.toInt ∧ v.toInt < ((8 : Nat) : Int) := by have r_v := rngI v; omega
theorem lf_c_X10_echoFact_1  (s : Int32)  : s.toInt = 0 ∨ s.toInt = 1 ∨ s.toInt = 2 ∨ s.toInt = 3 ∨ s.toInt = 4 ∨ (¬ s.toInt = 0 ∧ ¬ s.toInt = 1 ∧ ¬ s.toInt = 2 ∧ ¬ s.toInt = 3 ∧ ¬ s.toInt = 4) := by have r_s := rngI s; omega
theorem lf_c_X10_echoFact_2  (s : Int32) (e49_ : (¬ s.toInt = 0 ∧ ¬ s.toInt = 1 ∧ ¬ s.toInt = 2 ∧ ¬ s.toInt = 3 ∧ ¬ s.toInt = 4)) : s.toInt < 0 ∨ 4 < s.toInt := by have r_s := rngI s; omega
set_option maxHeartbeats 4000000 in
set_option maxRecDepth 100000 in
theorem c_X10_echoFact (l : Launch) (G : va_G) (cy : Nat → ClassId) (ad : rf → Nat) (d : Nat) (b : Nat) (v : Int32) (u : Int32) (t : Int32) (s : Int32) (Mz : mM) (hIz : Inv Mz) (hb : b < 3) : WP CC l G cy ad yX10_echoFact cX10_echoFact 10 (some .int) (d + 3) 0 [(0, vR (10, b, 0)), (1, vI v), (2, vI u), (3, vI t), (4, vI s)] [] Mz (fun r M' => Inv M' ∧ FR (S_c_X10_echoFact b) Mz M' ∧ (True) ∧ SP_X10_echoFact b v u t s Mz r M') := by
  have hFz : FR (S_c_X10_echoFact b) Mz Mz := FR.self
  refine w_aload_n dX10_echoFact_0 rfl 0 rfl ?_
  refine w_iload_n dX10_echoFact_1 rfl 1 rfl ?_
  refine w_callV (as := [vI v]) (rest := []) (c_X10_hasWalker l G cy ad (d + 2) b v Mz hIz hb) kV_X10_hasWalker (by decide +kernel) (Nat.le_of_ble_eq_true rfl) m_847 rfl rfl rfl (ic_10 hb) rfl rfl (by decide) (Nat.le_of_ble_eq_true rfl) dX10_echoFact_2 (fun r1_ M2_ q3_ => ?_)
  obtain ⟨rfl, h4_, hs5_⟩ := q3_
  rcases h4_ with ⟨rfl, h4_⟩ | rfl
  · refine w_if_ne (tgt := 10) dX10_echoFact_5 (by decide) li_1 (fun h6_ => ?_) (fun h9 => (absurd h9 (by decide)))
    refine w_aload_n dX10_echoFact_10 rfl 0 rfl ?_
    refine w_getR (c' := (42, b, 0)) fl_RX10_46 rfl rfl (ic_10 hb) dX10_echoFact_11 rfl ?_
    refine w_iload_n dX10_echoFact_14 rfl 1 rfl ?_
    refine w_aald rfl rfl rfl (fun _ => rfl) (ic_42 hb) (rfl : v.toInt = v.toInt) (lf_c_X10_echoFact_0 v h4_) dX10_echoFact_15 (fun j7_ h8_ h9_ => ?_)
    refine w_astore (ls' := [(5, vR (9, b, j7_)), (0, vR (10, b, 0)), (1, vI v), (2, vI u), (3, vI t), (4, vI s)]) dX10_echoFact_16 (by decide) rfl ?_
    refine w_aload_n dX10_echoFact_18 rfl 1 rfl ?_
    refine w_iload_n dX10_echoFact_19 rfl 2 rfl ?_
    refine w_aload dX10_echoFact_20 0 rfl ?_
    refine w_getI fl_RX10_109 rfl rfl (ic_9 hb h9_) dX10_echoFact_22 (fun z10_ e11_ => ?_)
    refine w_iload_n dX10_echoFact_25 rfl 4 rfl ?_
    refine w_callV (as := [vI v, vI z10_, vI t]) (rest := []) (c_X10_echoYards l G cy ad d b v z10_ t Mz hIz hb) kV_X10_echoYards (by decide +kernel) (Nat.le_of_ble_eq_true rfl) m_865 rfl rfl rfl (ic_10 hb) rfl rfl (by decide) (Nat.le_of_ble_eq_true rfl) dX10_echoFact_26 (fun r12_ M13_ q14_ => ?_)
    obtain ⟨rfl, h15_, hs16_⟩ := q14_
    refine w_istore (ls' := [(6, vI r12_), (5, vR (9, b, j7_)), (0, vR (10, b, 0)), (1, vI v), (2, vI u), (3, vI t), (4, vI s)]) dX10_echoFact_29 (by decide) rfl ?_
    refine w_iload_n dX10_echoFact_31 rfl 5 rfl ?_
    refine w_iload dX10_echoFact_32 0 rfl ?_
    refine w_callS (as := [vI t, vI r12_]) (rest := []) (c_X2_late l G cy ad (d + 2) t r12_ Mz hIz) kS_X2_late (by decide +kernel) (Nat.le_of_ble_eq_true rfl) m_866 rfl rfl (by decide) (Nat.le_of_ble_eq_true rfl) dX10_echoFact_34 (fun r17_ M18_ q19_ => ?_)
    obtain ⟨rfl, h20_, hs21_⟩ := q19_
    refine w_istore (ls' := [(7, vI r17_), (6, vI r12_), (5, vR (9, b, j7_)), (0, vR (10, b, 0)), (1, vI v), (2, vI u), (3, vI t), (4, vI s)]) dX10_echoFact_37 (by decide) rfl ?_
    refine w_aload_n dX10_echoFact_39 rfl 3 rfl ?_
    refine w_getR (c' := (2, b, 0)) fl_RX10_19 rfl rfl (ic_10 hb) dX10_echoFact_40 rfl ?_
    refine w_aload_n dX10_echoFact_43 rfl 3 rfl ?_
    refine w_getR (c' := (7, b, 0)) fl_RX10_10 rfl rfl (ic_10 hb) dX10_echoFact_44 rfl ?_
    refine w_aload dX10_echoFact_47 2 rfl ?_
    refine w_getI fl_RX10_109 rfl rfl (ic_9 hb h9_) dX10_echoFact_49 (fun z22_ e23_ => ?_)
    obtain rfl : z10_ = z22_ := e11_.trans e23_.symm
    refine w_iload_n dX10_echoFact_52 rfl 6 rfl ?_
    refine w_iload dX10_echoFact_53 1 rfl ?_
    refine w_callS (as := [vI z10_, vI t, vI r12_]) (rest := [vR (7, b, 0), vR (2, b, 0)]) (c_X7_cellFrom l G cy ad (d + 1) z10_ t r12_ Mz hIz) kS_X7_cellFrom (by decide +kernel) (Nat.le_of_ble_eq_true rfl) m_849 rfl rfl (by decide) (Nat.le_of_ble_eq_true rfl) dX10_echoFact_55 (fun r24_ M25_ q26_ => ?_)
    obtain ⟨rfl, h27_, hs28_⟩ := q26_
    refine w_callV (as := [vI r24_]) (rest := [vR (2, b, 0)]) (c_X7_kindIn l G cy ad (d + 1) b r24_ Mz hIz hb) kV_X7_kindIn (by decide +kernel) (Nat.le_of_ble_eq_true rfl) m_869 rfl rfl rfl (ic_7 hb) rfl rfl (by decide) (Nat.le_of_ble_eq_true rfl) dX10_echoFact_58 (fun r29_ M30_ q31_ => ?_)
    obtain ⟨rfl, h32_, hs33_⟩ := q31_
    refine w_iload_n dX10_echoFact_61 rfl 5 rfl ?_
    refine w_iload dX10_echoFact_62 1 rfl ?_
    refine w_callV (as := [vI r29_, vI u, vI r12_]) (rest := []) (c_X2_strength l G cy ad (d + 1) b r29_ u r12_ Mz hIz hb) kV_X2_strength (by decide +kernel) (Nat.le_of_ble_eq_true rfl) m_873 rfl rfl rfl (ic_2 hb) rfl rfl (by decide) (Nat.le_of_ble_eq_true rfl) dX10_echoFact_64 (fun r34_ M35_ q36_ => ?_)
    obtain ⟨hI38_, hF39_, h37_, hs41_⟩ := q36_
    have hF40_ := hFz.tr hF39_ (fun c k => (fun h => h.elim (fun h => (Or.inl ⟨h.1, h.2.1, h.2.2⟩)) (fun h => h.elim (fun h => (Or.inr (Or.inl ⟨h.1, h.2.1, h.2.2⟩))) (fun h => h.elim (fun h => (Or.inr (Or.inr (Or.inl ⟨h.1, h.2.1, h.2.2⟩)))) (fun h => h.elim (fun h => (Or.inr (Or.inr (Or.inr (Or.inl ⟨h.1, h.2.1, h.2.2⟩))))) (fun h => h.elim (fun h => (Or.inr (Or.inr (Or.inr (Or.inr (Or.inl ⟨h.1, h.2.1, h.2.2⟩)))))) (fun h => h.elim)))))))
    refine w_istore (ls' := [(8, vI r34_), (7, vI r17_), (6, vI r12_), (5, vR (9, b, j7_)), (0, vR (10, b, 0)), (1, vI v), (2, vI u), (3, vI t), (4, vI s)]) dX10_echoFact_67 (by decide) rfl ?_
    refine w_iload_n dX10_echoFact_69 rfl 7 rfl ?_
    refine w_aload dX10_echoFact_70 3 rfl ?_
    refine w_getI fl_RX10_119 rfl rfl (ic_9 hb h9_) dX10_echoFact_72 (fun z42_ e43_ => ?_)
    refine w_isub dX10_echoFact_75 (fun z44_ h45_ => ?_)
    refine w_bipush (v := 7) dX10_echoFact_76 (by decide) ?_
    refine w_iand dX10_echoFact_78 (fun z46_ h48_ => ?_)
    have h47_ : 0 ≤ z46_.toInt ∧ z46_.toInt < ((2 ^ 3 : Nat) : Int) := by rw [h48_]; exact andI _ 3 (by decide) (by decide)
    refine w_istore (ls' := [(9, vI z46_), (8, vI r34_), (7, vI r17_), (6, vI r12_), (5, vR (9, b, j7_)), (0, vR (10, b, 0)), (1, vI v), (2, vI u), (3, vI t), (4, vI s)]) dX10_echoFact_79 (by decide) rfl ?_
    refine w_iload dX10_echoFact_81 9 rfl ?_
    rcases (lf_c_X10_echoFact_1 s) with e49_ | e49_ | e49_ | e49_ | e49_ | e49_
    · refine w_tsIn (tgt := 116) (off := 33) dX10_echoFact_83 e49_ (by decide) (by decide) rfl (by decide) ?_
      refine w_iload dX10_echoFact_116 3 rfl ?_
      exact w_iret rfl dX10_echoFact_118 ⟨hI38_, hF40_, trivial, (Or.inl ⟨hs5_, h4_, j7_, h8_, h9_, z10_, e11_, r12_, hs16_, h15_, r17_, hs21_, r24_, hs28_, h27_, r29_, hs33_, M35_, hI38_, hF39_, r34_, hs41_, z42_, e43_, z44_, h45_, z46_, h48_, h47_, (Or.inl ⟨e49_, rfl, rfl⟩)⟩)⟩
    · refine w_tsIn (tgt := 119) (off := 36) dX10_echoFact_83 e49_ (by decide) (by decide) rfl (by decide) ?_
      refine w_iload dX10_echoFact_119 2 rfl ?_
      exact w_iret rfl dX10_echoFact_121 ⟨hI38_, hF40_, trivial, (Or.inl ⟨hs5_, h4_, j7_, h8_, h9_, z10_, e11_, r12_, hs16_, h15_, r17_, hs21_, r24_, hs28_, h27_, r29_, hs33_, M35_, hI38_, hF39_, r34_, hs41_, z42_, e43_, z44_, h45_, z46_, h48_, h47_, (Or.inr (Or.inl ⟨e49_, rfl, rfl⟩))⟩)⟩
    · refine w_tsIn (tgt := 122) (off := 39) dX10_echoFact_83 e49_ (by decide) (by decide) rfl (by decide) ?_
      refine w_iload dX10_echoFact_122 1 rfl ?_
      exact w_iret rfl dX10_echoFact_124 ⟨hI38_, hF40_, trivial, (Or.inl ⟨hs5_, h4_, j7_, h8_, h9_, z10_, e11_, r12_, hs16_, h15_, r17_, hs21_, r24_, hs28_, h27_, r29_, hs33_, M35_, hI38_, hF39_, r34_, hs41_, z42_, e43_, z44_, h45_, z46_, h48_, h47_, (Or.inr (Or.inr (Or.inl ⟨e49_, rfl, rfl⟩)))⟩)⟩
    · refine w_tsIn (tgt := 125) (off := 42) dX10_echoFact_83 e49_ (by decide) (by decide) rfl (by decide) ?_
      refine w_iload dX10_echoFact_125 0 rfl ?_
      refine w_iconst (v := 1) dX10_echoFact_127 (by decide) ?_
      refine w_icmp_lt (tgt := 144) dX10_echoFact_128 (by decide) (rfl : z46_.toInt = z46_.toInt) li_1 (fun h50_ => ?_) (fun h50_ => ?_)
      · refine w_iload dX10_echoFact_144 1 rfl ?_
        exact w_iret rfl dX10_echoFact_146 ⟨hI38_, hF40_, trivial, (Or.inl ⟨hs5_, h4_, j7_, h8_, h9_, z10_, e11_, r12_, hs16_, h15_, r17_, hs21_, r24_, hs28_, h27_, r29_, hs33_, M35_, hI38_, hF39_, r34_, hs41_, z42_, e43_, z44_, h45_, z46_, h48_, h47_, (Or.inr (Or.inr (Or.inr (Or.inl ⟨e49_, (Or.inl ⟨h50_, rfl, rfl⟩)⟩))))⟩)⟩
      · refine w_iload dX10_echoFact_131 0 rfl ?_
        refine w_iconst (v := 3) dX10_echoFact_133 (by decide) ?_
        refine w_icmp_gt (tgt := 144) dX10_echoFact_134 (by decide) (rfl : z46_.toInt = z46_.toInt) li_3 (fun h51_ => ?_) (fun h51_ => ?_)
        · refine w_iload dX10_echoFact_144 1 rfl ?_
          exact w_iret rfl dX10_echoFact_146 ⟨hI38_, hF40_, trivial, (Or.inl ⟨hs5_, h4_, j7_, h8_, h9_, z10_, e11_, r12_, hs16_, h15_, r17_, hs21_, r24_, hs28_, h27_, r29_, hs33_, M35_, hI38_, hF39_, r34_, hs41_, z42_, e43_, z44_, h45_, z46_, h48_, h47_, (Or.inr (Or.inr (Or.inr (Or.inl ⟨e49_, (Or.inr ⟨h50_, (Or.inl ⟨h51_, rfl, rfl⟩)⟩)⟩))))⟩)⟩
        · refine w_iload dX10_echoFact_137 1 rfl ?_
          refine w_iconst (v := 2) dX10_echoFact_139 (by decide) ?_
          refine w_idiv dX10_echoFact_140 (by decide) (fun z52_ h53_ => ?_)
          refine w_goto (tgt := 146) dX10_echoFact_141 (by decide) ?_
          exact w_iret rfl dX10_echoFact_146 ⟨hI38_, hF40_, trivial, (Or.inl ⟨hs5_, h4_, j7_, h8_, h9_, z10_, e11_, r12_, hs16_, h15_, r17_, hs21_, r24_, hs28_, h27_, r29_, hs33_, M35_, hI38_, hF39_, r34_, hs41_, z42_, e43_, z44_, h45_, z46_, h48_, h47_, (Or.inr (Or.inr (Or.inr (Or.inl ⟨e49_, (Or.inr ⟨h50_, (Or.inr ⟨h51_, z52_, h53_, rfl, rfl⟩)⟩)⟩))))⟩)⟩
    · refine w_tsIn (tgt := 147) (off := 64) dX10_echoFact_83 e49_ (by decide) (by decide) rfl (by decide) ?_
      refine w_iload dX10_echoFact_147 0 rfl ?_
      refine w_iconst (v := 5) dX10_echoFact_149 (by decide) ?_
      refine w_icmp_lt (tgt := 160) dX10_echoFact_150 (by decide) (rfl : z46_.toInt = z46_.toInt) li_5 (fun h54_ => ?_) (fun h54_ => ?_)
      · refine w_iload dX10_echoFact_160 1 rfl ?_
        exact w_iret rfl dX10_echoFact_162 ⟨hI38_, hF40_, trivial, (Or.inl ⟨hs5_, h4_, j7_, h8_, h9_, z10_, e11_, r12_, hs16_, h15_, r17_, hs21_, r24_, hs28_, h27_, r29_, hs33_, M35_, hI38_, hF39_, r34_, hs41_, z42_, e43_, z44_, h45_, z46_, h48_, h47_, (Or.inr (Or.inr (Or.inr (Or.inr (Or.inl ⟨e49_, (Or.inl ⟨h54_, rfl, rfl⟩)⟩)))))⟩)⟩
      · refine w_iload dX10_echoFact_153 1 rfl ?_
        refine w_iconst (v := 2) dX10_echoFact_155 (by decide) ?_
        refine w_idiv dX10_echoFact_156 (by decide) (fun z55_ h56_ => ?_)
        refine w_goto (tgt := 162) dX10_echoFact_157 (by decide) ?_
        exact w_iret rfl dX10_echoFact_162 ⟨hI38_, hF40_, trivial, (Or.inl ⟨hs5_, h4_, j7_, h8_, h9_, z10_, e11_, r12_, hs16_, h15_, r17_, hs21_, r24_, hs28_, h27_, r29_, hs33_, M35_, hI38_, hF39_, r34_, hs41_, z42_, e43_, z44_, h45_, z46_, h48_, h47_, (Or.inr (Or.inr (Or.inr (Or.inr (Or.inl ⟨e49_, (Or.inr ⟨h54_, z55_, h56_, rfl, rfl⟩)⟩)))))⟩)⟩
    · refine w_tsOut (tgt := 163) dX10_echoFact_83 rfl (lf_c_X10_echoFact_2 s e49_) (by decide) ?_
      refine w_aload_n dX10_echoFact_163 rfl 5 rfl ?_
      refine w_getR (c' := (2, b, 0)) fl_RX10_19 rfl rfl (ic_10 hb) dX10_echoFact_164 rfl ?_
      refine w_aload dX10_echoFact_167 4 rfl ?_
      refine w_callV (as := []) (rest := [vR (2, b, 0)]) (c_X9_ears l G cy ad (d + 2) b j7_ M35_ hI38_ hb h9_) kV_X9_ears (by decide +kernel) (Nat.le_of_ble_eq_true rfl) m_887 rfl rfl rfl (ic_9 hb h9_) rfl rfl (by decide) (Nat.le_of_ble_eq_true rfl) dX10_echoFact_169 (fun r57_ M58_ q59_ => ?_)
      obtain ⟨rfl, h60_, hs61_⟩ := q59_
      refine w_iload_n dX10_echoFact_172 rfl 7 rfl ?_
      refine w_iload dX10_echoFact_173 2 rfl ?_
      refine w_iload dX10_echoFact_175 1 rfl ?_
      refine w_callV (as := [vI r57_, vI u, vI r17_, vI r34_]) (rest := []) (c_X2_isHeard l G cy ad (d + 1) b r57_ u r17_ r34_ M35_ hI38_ hb) kV_X2_isHeard (by decide +kernel) (Nat.le_of_ble_eq_true rfl) m_888 rfl rfl rfl (ic_2 hb) rfl rfl (by decide) (Nat.le_of_ble_eq_true rfl) dX10_echoFact_177 (fun r62_ M63_ q64_ => ?_)
      obtain ⟨hI66_, hF67_, h65_, hs69_⟩ := q64_
      have hF68_ := hF40_.tr hF67_ (fun c k => (fun h => h.elim (fun h => (Or.inl ⟨h.1, h.2.1, h.2.2⟩)) (fun h => h.elim (fun h => (Or.inr (Or.inl ⟨h.1, h.2.1, h.2.2⟩))) (fun h => h.elim (fun h => (Or.inr (Or.inr (Or.inl ⟨h.1, h.2.1, h.2.2⟩)))) (fun h => h.elim (fun h => (Or.inr (Or.inr (Or.inr (Or.inr (Or.inr (Or.inl ⟨h.1, h.2.1, h.2.2⟩))))))) (fun h => h.elim))))))
      refine w_if_eq (tgt := 187) dX10_echoFact_180 (by decide) (rfl : r62_.toInt = r62_.toInt) (fun h70_ => ?_) (fun h70_ => ?_)
      · refine w_iconst (v := 0) dX10_echoFact_187 (by decide) ?_
        exact w_iret rfl dX10_echoFact_188 ⟨hI66_, hF68_, trivial, (Or.inl ⟨hs5_, h4_, j7_, h8_, h9_, z10_, e11_, r12_, hs16_, h15_, r17_, hs21_, r24_, hs28_, h27_, r29_, hs33_, M35_, hI38_, hF39_, r34_, hs41_, z42_, e43_, z44_, h45_, z46_, h48_, h47_, (Or.inr (Or.inr (Or.inr (Or.inr (Or.inr ⟨e49_, r57_, hs61_, h60_, M63_, hI66_, hF67_, r62_, hs69_, h65_, (Or.inl ⟨h70_, rfl, rfl⟩)⟩)))))⟩)⟩
      · refine w_iconst (v := 1) dX10_echoFact_183 (by decide) ?_
        refine w_goto (tgt := 188) dX10_echoFact_184 (by decide) ?_
        exact w_iret rfl dX10_echoFact_188 ⟨hI66_, hF68_, trivial, (Or.inl ⟨hs5_, h4_, j7_, h8_, h9_, z10_, e11_, r12_, hs16_, h15_, r17_, hs21_, r24_, hs28_, h27_, r29_, hs33_, M35_, hI38_, hF39_, r34_, hs41_, z42_, e43_, z44_, h45_, z46_, h48_, h47_, (Or.inr (Or.inr (Or.inr (Or.inr (Or.inr ⟨e49_, r57_, hs61_, h60_, M63_, hI66_, hF67_, r62_, hs69_, h65_, (Or.inr ⟨h70_, rfl, rfl⟩)⟩)))))⟩)⟩
  · refine w_if_ne (tgt := 10) dX10_echoFact_5 (by decide) li_0 (fun h9 => (absurd h9 (by decide))) (fun h71_ => ?_)
    refine w_iconst (v := 0) dX10_echoFact_8 (by decide) ?_
    exact w_iret rfl dX10_echoFact_9 ⟨hIz, hFz, trivial, (Or.inr ⟨hs5_, rfl, rfl⟩)⟩
def S_c_X10_makeClick (b : Nat) : rf → Nat → Prop := fun c k => (c.1 = 9 ∧ c.2.1 = b ∧ k = 8) ∨ (c.1 = 29 ∧ c.2.1 = b ∧ k = 0) ∨ (c.1 = 29 ∧ c.2.1 = b ∧ k = 1) ∨ (c.1 = 29 ∧ c.2.1 = b ∧ k = 2) ∨ (c.1 = 29 ∧ c.2.1 = b ∧ k = 3) ∨ (c.1 = 25 ∧ c.2.1 = b ∧ c.2.2 = 0) ∨ (c.1 = 25 ∧ c.2.1 = b ∧ c.2.2 = 1) ∨ (c.1 = 40 ∧ c.2.1 = b) ∨ (c.1 = 41 ∧ c.2.1 = b) ∨ False
def ST_X10_makeClick_79 (v6_79 : Int32) (M_79 : mM) (v6_79y : Int32) (M_79y : mM) : Prop := False
def ST_X10_makeClick_79b (b : Nat) (Mz : mM) (j7_ : Nat) (v4_32 : Int32) (r22_ : Int32) (v6_79 : Int32) (M_79 : mM) (v6_79y : Int32) (M_79y : mM) : Prop := (1 ≤ v6_79.toInt) ∧ (Inv M_79) ∧ (FR (S_c_X10_makeClick b) Mz M_79) ∧ (v6_79.toInt < r22_.toInt) ∧ ∃ z55_ : Int32, (z55_ = M_79.1 (9, b, j7_) 1) ∧ ∃ r57_ : Int32, (SP_X7_cellFrom z55_ v4_32 v6_79 M_79 r57_) ∧ (-1 ≤ r57_.toInt ∧ r57_.toInt ≤ 191) ∧ ∃ M62_ : mM, (Inv M62_) ∧ (FR (S_c_X9_addNo b j7_) M_79 M62_) ∧ (SP_X9_addNo b j7_ r57_ M_79 M62_) ∧ ∃ z69_ : Int32, (z69_.toInt = v6_79.toInt + 1) ∧ v6_79y = z69_ ∧ M_79y = M62_
def ST_X10_makeClick_32 (b : Nat) (v : Int32) (Mz : mM) (j7_ : Nat) (v4_32 : Int32) (v3_32 : Int32) (M_32 : mM) (v4_32y : Int32) (v3_32y : Int32) (M_32y : mM) : Prop := (0 ≤ v4_32.toInt) ∧ (v4_32.toInt ≤ 8) ∧ (Inv M_32) ∧ (FR (S_c_X10_makeClick b) Mz M_32) ∧ (v4_32.toInt < 8) ∧ ∃ z20_ : Int32, (z20_ = M_32.1 (9, b, j7_) 1) ∧ ∃ M23_ : mM, (Inv M23_) ∧ (FR (S_c_X10_heardYards b) M_32 M23_) ∧ ∃ r22_ : Int32, (SP_X10_heardYards b v z20_ v4_32 M_32 r22_ M23_) ∧ (0 ≤ r22_.toInt ∧ r22_.toInt ≤ 12) ∧ (((r22_.toInt ≤ 0) ∧ ∃ v6_79 : Int32, (1 ≤ v6_79.toInt) ∧ ∃ M_79 : mM, (RCH (fun x_ y_ => ST_X10_makeClick_79 x_.1 x_.2 y_.1 y_.2) ((1 : Int32), M23_) (v6_79, M_79)) ∧ (Inv M_79) ∧ (FR (S_c_X10_makeClick b) Mz M_79) ∧ (r22_.toInt ≤ v6_79.toInt) ∧ ∃ z33_ : Int32, (z33_.toInt = v4_32.toInt + 1) ∧ v4_32y = z33_ ∧ v3_32y = v3_32 ∧ M_32y = M_79) ∨ ((0 < r22_.toInt) ∧ ∃ z35_ : Int32, (z35_ = v3_32 + Int32.ofInt 1) ∧ ∃ z37_ : Int32, (z37_ = M23_.1 (9, b, j7_) 1) ∧ ∃ r39_ : Int32, (SP_X7_cellFrom z37_ v4_32 r22_ M23_ r39_) ∧ (-1 ≤ r39_.toInt ∧ r39_.toInt ≤ 191) ∧ ∃ M44_ : mM, (Inv M44_) ∧ (FR (S_c_X9_addYes b j7_) M23_ M44_) ∧ (SP_X9_addYes b j7_ r39_ 1 M23_ M44_) ∧ ∃ v6_79 : Int32, (1 ≤ v6_79.toInt) ∧ ∃ M_79 : mM, (RCH (fun x_ y_ => ST_X10_makeClick_79b b Mz j7_ v4_32 r22_ x_.1 x_.2 y_.1 y_.2) ((1 : Int32), M44_) (v6_79, M_79)) ∧ (Inv M_79) ∧ (FR (S_c_X10_makeClick b) Mz M_79) ∧ (r22_.toInt ≤ v6_79.toInt) ∧ ∃ z53_ : Int32, (z53_.toInt = v4_32.toInt + 1) ∧ v4_32y = z53_ ∧ v3_32y = z35_ ∧ M_32y = M_79))
def SP_X10_makeClick (b : Nat) (v : Int32) (Mz : mM) (r_ : Int32) (M_ : mM) : Prop := (((SP_X10_hasWalker b v Mz (1 : Int32)) ∧ (0 ≤ v.toInt ∧ v.toInt ≤ 7) ∧ ∃ j7_ : Nat, ((j7_ : Int) = v.toInt) ∧ (j7_ < 8) ∧ ∃ z10_ : Int32, (z10_ = Mz.1 (9, b, j7_) 8) ∧ ∃ z12_ : Int32, (z12_ = z10_ + (1 : Int32)) ∧ ∃ M14_ : mM, (M14_ = up Mz (9, b, j7_) 8 z12_) ∧ ∃ v4_32 : Int32, (0 ≤ v4_32.toInt) ∧ (v4_32.toInt ≤ 8) ∧ ∃ v3_32 : Int32, ∃ M_32 : mM, (RCH (fun x_ y_ => ST_X10_makeClick_32 b v Mz j7_ x_.1 x_.2.1 x_.2.2 y_.1 y_.2.1 y_.2.2) ((0 : Int32), (0 : Int32), M14_) (v4_32, v3_32, M_32)) ∧ (Inv M_32) ∧ (FR (S_c_X10_makeClick b) Mz M_32) ∧ (8 ≤ v4_32.toInt) ∧ r_ = v3_32 ∧ M_ = M_32) ∨ ((SP_X10_hasWalker b v Mz (0 : Int32)) ∧ r_ = 0 ∧ M_ = Mz))
theorem lf_c_X10_makeClick_0  (v : Int32) (h4_ : 0 ≤ v.toInt ∧ v.toInt ≤ 7) : 0 ≤ v.toInt ∧ v.toInt < ((8 : Nat) : Int) := by have r_v := rngI v; omega
theorem lf_c_X10_makeClick_1  (r22_ : Int32) (v6_79 : Int32) (h25_ : 0 ≤ r22_.toInt ∧ r22_.toInt ≤ 12) (h30_ : r22_.toInt ≤ 0) (hv0_79 : 1 ≤ v6_79.toInt) (h9 : v6_79.toInt < r22_.toInt) : False := by have r_r22_ := rngI r22_; have r_v6_79 := rngI v6_79; omega
theorem lf_c_X10_makeClick_2  (v4_32 : Int32) (hv0_32 : 0 ≤ v4_32.toInt) (hv1_32 : v4_32.toInt ≤ 8) (h19_ : v4_32.toInt < 8) : -2147483648 ≤ v4_32.toInt + 1 ∧ v4_32.toInt + 1 < 2147483648 := by have r_v4_32 := rngI v4_32; omega
theorem lf_c_X10_makeClick_3  (v4_32 : Int32) (z33_ : Int32) (hv0_32 : 0 ≤ v4_32.toInt) (hv1_32 : v4_32.toInt ≤ 8) (h19_ : v4_32.toInt < 8) (h34_ : z33_.toInt = v4_32.toInt + 1) : 0 ≤ z33_.toInt := by have r_v4_32 := rngI v4_32; have r_z33_ := rngI z33_; omega
theorem lf_c_X10_makeClick_4  (v4_32 : Int32) (z33_ : Int32) (hv0_32 : 0 ≤ v4_32.toInt) (hv1_32 : v4_32.toInt ≤ 8) (h19_ : v4_32.toInt < 8) (h34_ : z33_.toInt = v4_32.toInt + 1) : z33_.toInt ≤ 8 := by have r_v4_32 := rngI v4_32; have r_z33_ := rngI z33_; omega
theorem lf_c_X10_makeClick_5  (v4_32 : Int32) (z33_ : Int32) (hv0_32 : 0 ≤ v4_32.toInt) (hv1_32 : v4_32.toInt ≤ 8) (h19_ : v4_32.toInt < 8) (h34_ : z33_.toInt = v4_32.toInt + 1) : (2147483648 - z33_.toInt).toNat < (2147483648 - v4_32.toInt).toNat := by have r_v4_32 := rngI v4_32; have r_z33_ := rngI z33_; omega
theorem lf_c_X10_makeClick_6    : 1 ≤ (1 : Int32).toInt := by have q0 := li_1; omega
theorem lf_c_X10_makeClick_7  (v4_32 : Int32) (hv0_32 : 0 ≤ v4_32.toInt) (hv1_32 : v4_32.toInt ≤ 8) (h19_ : v4_32.toInt < 8) : -2147483648 ≤ v4_32.toInt + 1 ∧ v4_32.toInt + 1 < 2147483648 := by have r_v4_32 := rngI v4_32; omega
theorem lf_c_X10_makeClick_8  (v4_32 : Int32) (z53_ : Int32) (hv0_32 : 0 ≤ v4_32.toInt) (hv1_32 : v4_32.toInt ≤ 8) (h19_ : v4_32.toInt < 8) (h54_ : z53_.toInt = v4_32.toInt + 1) : 0 ≤ z53_.toInt := by have r_v4_32 := rngI v4_32; have r_z53_ := rngI z53_; omega
theorem lf_c_X10_makeClick_9  (v4_32 : Int32) (z53_ : Int32) (hv0_32 : 0 ≤ v4_32.toInt) (hv1_32 : v4_32.toInt ≤ 8) (h19_ : v4_32.toInt < 8) (h54_ : z53_.toInt = v4_32.toInt + 1) : z53_.toInt ≤ 8 := by have r_v4_32 := rngI v4_32; have r_z53_ := rngI z53_; omega
theorem lf_c_X10_makeClick_10  (v4_32 : Int32) (z53_ : Int32) (hv0_32 : 0 ≤ v4_32.toInt) (hv1_32 : v4_32.toInt ≤ 8) (h19_ : v4_32.toInt < 8) (h54_ : z53_.toInt = v4_32.toInt + 1) : (2147483648 - z53_.toInt).toNat < (2147483648 - v4_32.toInt).toNat := by have r_v4_32 := rngI v4_32; have r_z53_ := rngI z53_; omega
theorem lf_c_X10_makeClick_11  (r22_ : Int32) (v6_79 : Int32) (h25_ : 0 ≤ r22_.toInt ∧ r22_.toInt ≤ 12) (h30_ : 0 < r22_.toInt) (hv0_79 : 1 ≤ v6_79.toInt) (h52_ : v6_79.toInt < r22_.toInt) : -2147483648 ≤ v6_79.toInt + 1 ∧ v6_79.toInt + 1 < 2147483648 := by have r_r22_ := rngI r22_; have r_v6_79 := rngI v6_79; omega
theorem lf_c_X10_makeClick_12  (r22_ : Int32) (v6_79 : Int32) (z69_ : Int32) (h25_ : 0 ≤ r22_.toInt ∧ r22_.toInt ≤ 12) (h30_ : 0 < r22_.toInt) (hv0_79 : 1 ≤ v6_79.toInt) (h52_ : v6_79.toInt < r22_.toInt) (h70_ : z69_.toInt = v6_79.toInt + 1) : 1 ≤ z69_.toInt := by have r_r22_ := rngI r22_; have r_v6_79 := rngI v6_79; have r_z69_ := rngI z69_; omega
theorem lf_c_X10_makeClick_13  (r22_ : Int32) (v6_79 : Int32) (z69_ : Int32) (h25_ : 0 ≤ r22_.toInt ∧ r22_.toInt ≤ 12) (h30_ : 0 < r22_.toInt) (hv0_79 : 1 ≤ v6_79.toInt) (h52_ : v6_79.toInt < r22_.toInt) (h70_ : z69_.toInt = v6_79.toInt + 1) : (2147483648 - z69_.toInt).toNat < (2147483648 - v6_79.toInt).toNat := by have r_r22_ := rngI r22_; have r_v6_79 := rngI v6_79; have r_z69_ := rngI z69_; omega
theorem lf_c_X10_makeClick_14    : 1 ≤ (1 : Int32).toInt := by have q0 := li_1; omega
theorem lf_c_X10_makeClick_15    : 0 ≤ (0 : Int32).toInt := by have q0 := li_0; omega
theorem lf_c_X10_makeClick_16    : (0 : Int32).toInt ≤ 8 := by have q0 := li_0; omega
set_option maxHeartbeats 4000000 in
set_option maxRecDepth 100000 in
theorem c_X10_makeClick (l : Launch) (G : va_G) (cy : Nat → ClassId) (ad : rf → Nat) (d : Nat) (b : Nat) (v : Int32) (Mz : mM) (hIz : Inv Mz) (hb : b < 3) : WP CC l G cy ad yX10_makeClick cX10_makeClick 7 (some .int) (d + 4) 0 [(0, vR (10, b, 0)), (1, vI v)] [] Mz (fun r M' => Inv M' ∧ FR (S_c_X10_makeClick b) Mz M' ∧ (True) ∧ SP_X10_makeClick b v Mz r M') := by
  have hFz : FR (S_c_X10_makeClick b) Mz Mz := FR.self
  refine w_aload_n dX10_makeClick_0 rfl 0 rfl ?_
  refine w_iload_n dX10_makeClick_1 rfl 1 rfl ?_
  refine w_callV (as := [vI v]) (rest := []) (c_X10_hasWalker l G cy ad (d + 3) b v Mz hIz hb) kV_X10_hasWalker (by decide +kernel) (Nat.le_of_ble_eq_true rfl) m_847 rfl rfl rfl (ic_10 hb) rfl rfl (by decide) (Nat.le_of_ble_eq_true rfl) dX10_makeClick_2 (fun r1_ M2_ q3_ => ?_)
  obtain ⟨rfl, h4_, hs5_⟩ := q3_
  rcases h4_ with ⟨rfl, h4_⟩ | rfl
  · refine w_if_ne (tgt := 10) dX10_makeClick_5 (by decide) li_1 (fun h6_ => ?_) (fun h9 => (absurd h9 (by decide)))
    refine w_aload_n dX10_makeClick_10 rfl 0 rfl ?_
    refine w_getR (c' := (42, b, 0)) fl_RX10_46 rfl rfl (ic_10 hb) dX10_makeClick_11 rfl ?_
    refine w_iload_n dX10_makeClick_14 rfl 1 rfl ?_
    refine w_aald rfl rfl rfl (fun _ => rfl) (ic_42 hb) (rfl : v.toInt = v.toInt) (lf_c_X10_makeClick_0 v h4_) dX10_makeClick_15 (fun j7_ h8_ h9_ => ?_)
    refine w_astore_n (ls' := [(2, vR (9, b, j7_)), (0, vR (10, b, 0)), (1, vI v)]) dX10_makeClick_16 rfl (by decide) rfl ?_
    refine w_aload_n dX10_makeClick_17 rfl 0 rfl ?_
    refine w_dup dX10_makeClick_18 rfl ?_
    refine w_getI fl_RX10_69 rfl rfl (ic_9 hb h9_) dX10_makeClick_19 (fun z10_ e11_ => ?_)
    refine w_iconst (v := 1) dX10_makeClick_22 (by decide) ?_
    refine w_iadd dX10_makeClick_23 (fun z12_ h13_ => ?_)
    refine w_putI CC_nd fl_RX10_69 rfl rfl (ic_9 hb h9_) dX10_makeClick_24 (fun M14_ hM15_ => ?_)
    have hI16_ := hIz.put hM15_ (fun h => absurd h (by decide))
    have hF17_ := hFz.put hM15_ (Or.inl ⟨rfl, rfl, rfl⟩)
    refine w_iconst (v := 0) dX10_makeClick_27 (by decide) ?_
    refine w_istore_n (ls' := [(3, vI 0), (2, vR (9, b, j7_)), (0, vR (10, b, 0)), (1, vI v)]) dX10_makeClick_28 rfl (by decide) rfl ?_
    refine w_iconst (v := 0) dX10_makeClick_29 (by decide) ?_
    refine w_istore (ls' := [(4, vI 0), (3, vI 0), (2, vR (9, b, j7_)), (0, vR (10, b, 0)), (1, vI v)]) dX10_makeClick_30 (by decide) rfl ?_
    have lp18_ : ∀ (nn_32 : Nat) (M_32 : mM) (hI_32 : Inv M_32) (hF_32 : FR (S_c_X10_makeClick b) Mz M_32) (v4_32 : Int32) (v3_32 : Int32) (hv0_32 : 0 ≤ v4_32.toInt) (hv1_32 : v4_32.toInt ≤ 8) (hL_32 : RCH (fun x_ y_ => ST_X10_makeClick_32 b v Mz j7_ x_.1 x_.2.1 x_.2.2 y_.1 y_.2.1 y_.2.2) ((0 : Int32), (0 : Int32), M14_) (v4_32, v3_32, M_32)), (2147483648 - v4_32.toInt).toNat < nn_32 → WP CC l G cy ad yX10_makeClick cX10_makeClick 7 (some .int) (d + 4) 32 [(4, vI v4_32), (3, vI v3_32), (2, vR (9, b, j7_)), (0, vR (10, b, 0)), (1, vI v)] [] M_32 (fun r M' => Inv M' ∧ FR (S_c_X10_makeClick b) Mz M' ∧ (True) ∧ SP_X10_makeClick b v Mz r M') := by
      intro nn_32
      induction nn_32 with
      | zero => intro M_32 hI_32 hF_32 v4_32 v3_32 hv0_32 hv1_32 hL_32 hm_32; exact absurd hm_32 (Nat.not_lt_zero _)
      | succ nn_32 ih_32 =>
        intro M_32 hI_32 hF_32 v4_32 v3_32 hv0_32 hv1_32 hL_32 hm_32
        refine w_iload dX10_makeClick_32 0 rfl ?_
        refine w_bipush (v := 8) dX10_makeClick_34 (by decide) ?_
        refine w_icmp_ge (tgt := 113) dX10_makeClick_36 (by decide) (rfl : v4_32.toInt = v4_32.toInt) li_8 (fun h19_ => ?_) (fun h19_ => ?_)
        · refine w_iload_n dX10_makeClick_113 rfl 1 rfl ?_
          exact w_iret rfl dX10_makeClick_114 ⟨hI_32, hF_32, trivial, (Or.inl ⟨hs5_, h4_, j7_, h8_, h9_, z10_, e11_, z12_, h13_, M14_, hM15_, v4_32, hv0_32, hv1_32, v3_32, M_32, hL_32, hI_32, hF_32, h19_, rfl, rfl⟩)⟩
        · refine w_aload_n dX10_makeClick_39 rfl 3 rfl ?_
          refine w_iload_n dX10_makeClick_40 rfl 4 rfl ?_
          refine w_aload_n dX10_makeClick_41 rfl 2 rfl ?_
          refine w_getI fl_RX10_109 rfl rfl (ic_9 hb h9_) dX10_makeClick_42 (fun z20_ e21_ => ?_)
          refine w_iload dX10_makeClick_45 0 rfl ?_
          refine w_callV (as := [vI v, vI z20_, vI v4_32]) (rest := []) (c_X10_heardYards l G cy ad d b v z20_ v4_32 M_32 hI_32 hb) kV_X10_heardYards (by decide +kernel) (Nat.le_of_ble_eq_true rfl) m_900 rfl rfl rfl (ic_10 hb) rfl rfl (by decide) (Nat.le_of_ble_eq_true rfl) dX10_makeClick_47 (fun r22_ M23_ q24_ => ?_)
          obtain ⟨hI26_, hF27_, h25_, hs29_⟩ := q24_
          have hF28_ := hF_32.tr hF27_ (fun c k => (fun h => h.elim (fun h => (Or.inr (Or.inl ⟨h.1, h.2.1, h.2.2⟩))) (fun h => h.elim (fun h => (Or.inr (Or.inr (Or.inl ⟨h.1, h.2.1, h.2.2⟩)))) (fun h => h.elim (fun h => (Or.inr (Or.inr (Or.inr (Or.inl ⟨h.1, h.2.1, h.2.2⟩))))) (fun h => h.elim (fun h => (Or.inr (Or.inr (Or.inr (Or.inr (Or.inl ⟨h.1, h.2.1, h.2.2⟩)))))) (fun h => h.elim (fun h => (Or.inr (Or.inr (Or.inr (Or.inr (Or.inr (Or.inl ⟨h.1, h.2.1, h.2.2⟩))))))) (fun h => h.elim (fun h => (Or.inr (Or.inr (Or.inr (Or.inr (Or.inr (Or.inr (Or.inl ⟨h.1, h.2.1, h.2.2⟩)))))))) (fun h => h.elim))))))))
          refine w_istore (ls' := [(5, vI r22_), (4, vI v4_32), (3, vI v3_32), (2, vR (9, b, j7_)), (0, vR (10, b, 0)), (1, vI v)]) dX10_makeClick_50 (by decide) rfl ?_
          refine w_iload dX10_makeClick_52 0 rfl ?_
          refine w_if_le (tgt := 76) dX10_makeClick_54 (by decide) (rfl : r22_.toInt = r22_.toInt) (fun h30_ => ?_) (fun h30_ => ?_)
          · refine w_iconst (v := 1) dX10_makeClick_76 (by decide) ?_
            refine w_istore (ls' := [(6, vI 1), (5, vI r22_), (4, vI v4_32), (3, vI v3_32), (2, vR (9, b, j7_)), (0, vR (10, b, 0)), (1, vI v)]) dX10_makeClick_77 (by decide) rfl ?_
            have lp31_ : ∀ (nn_79 : Nat) (M_79 : mM) (hI_79 : Inv M_79) (hF_79 : FR (S_c_X10_makeClick b) Mz M_79) (v6_79 : Int32) (hv0_79 : 1 ≤ v6_79.toInt) (hL_79 : RCH (fun x_ y_ => ST_X10_makeClick_79 x_.1 x_.2 y_.1 y_.2) ((1 : Int32), M23_) (v6_79, M_79)), (2147483648 - v6_79.toInt).toNat < nn_79 → WP CC l G cy ad yX10_makeClick cX10_makeClick 7 (some .int) (d + 4) 79 [(6, vI v6_79), (5, vI r22_), (4, vI v4_32), (3, vI v3_32), (2, vR (9, b, j7_)), (0, vR (10, b, 0)), (1, vI v)] [] M_79 (fun r M' => Inv M' ∧ FR (S_c_X10_makeClick b) Mz M' ∧ (True) ∧ SP_X10_makeClick b v Mz r M') := by
              intro nn_79
              induction nn_79 with
              | zero => intro M_79 hI_79 hF_79 v6_79 hv0_79 hL_79 hm_79; exact absurd hm_79 (Nat.not_lt_zero _)
              | succ nn_79 ih_79 =>
                intro M_79 hI_79 hF_79 v6_79 hv0_79 hL_79 hm_79
                refine w_iload dX10_makeClick_79 0 rfl ?_
                refine w_iload dX10_makeClick_81 1 rfl ?_
                refine w_icmp_ge (tgt := 107) dX10_makeClick_83 (by decide) (rfl : v6_79.toInt = v6_79.toInt) (rfl : r22_.toInt = r22_.toInt) (fun h32_ => ?_) (fun h9 => (lf_c_X10_makeClick_1 r22_ v6_79 h25_ h30_ hv0_79 h9).elim)
                refine w_iincB (j := 2) (f := fun z33_ => [(4, vI z33_), (6, vI v6_79), (5, vI r22_), (3, vI v3_32), (2, vR (9, b, j7_)), (0, vR (10, b, 0)), (1, vI v)]) dX10_makeClick_107 rfl (by decide) (fun _ => rfl) (rfl : v4_32.toInt = v4_32.toInt) li_1 (lf_c_X10_makeClick_2 v4_32 hv0_32 hv1_32 h19_) (fun z33_ h34_ => ?_)
                refine w_goto (tgt := 32) dX10_makeClick_110 (by decide) ?_
                refine w_loc (ls' := [(4, vI z33_), (3, vI v3_32), (2, vR (9, b, j7_)), (0, vR (10, b, 0)), (1, vI v)]) [0, 3, 4, 5, 6] rfl ?_
                exact ih_32 M_79 hI_79 hF_79 z33_ v3_32 (lf_c_X10_makeClick_3 v4_32 z33_ hv0_32 hv1_32 h19_ h34_) (lf_c_X10_makeClick_4 v4_32 z33_ hv0_32 hv1_32 h19_ h34_) (RCH.tail hL_32 ⟨hv0_32, hv1_32, hI_32, hF_32, h19_, z20_, e21_, M23_, hI26_, hF27_, r22_, hs29_, h25_, (Or.inl ⟨h30_, v6_79, hv0_79, M_79, hL_79, hI_79, hF_79, h32_, z33_, h34_, rfl, rfl, rfl⟩)⟩) (Nat.lt_of_lt_of_le (lf_c_X10_makeClick_5 v4_32 z33_ hv0_32 hv1_32 h19_ h34_) (Nat.le_of_lt_succ hm_32))
            exact lp31_ _ M23_ hI26_ hF28_ 1 (lf_c_X10_makeClick_6 ) RCH.refl (Nat.lt_succ_self _)
          · refine w_iincX (j := 2) (f := fun z35_ => [(3, vI z35_), (5, vI r22_), (4, vI v4_32), (2, vR (9, b, j7_)), (0, vR (10, b, 0)), (1, vI v)]) dX10_makeClick_57 rfl (by decide) (fun _ => rfl) (fun z35_ h36_ => ?_)
            refine w_aload_n dX10_makeClick_60 rfl 3 rfl ?_
            refine w_aload_n dX10_makeClick_61 rfl 3 rfl ?_
            refine w_getI fl_RX10_109 rfl rfl (ic_9 hb h9_) dX10_makeClick_62 (fun z37_ e38_ => ?_)
            refine w_iload dX10_makeClick_65 2 rfl ?_
            refine w_iload dX10_makeClick_67 1 rfl ?_
            refine w_callS (as := [vI z37_, vI v4_32, vI r22_]) (rest := [vR (9, b, j7_)]) (c_X7_cellFrom l G cy ad (d + 2) z37_ v4_32 r22_ M23_ hI26_) kS_X7_cellFrom (by decide +kernel) (Nat.le_of_ble_eq_true rfl) m_849 rfl rfl (by decide) (Nat.le_of_ble_eq_true rfl) dX10_makeClick_69 (fun r39_ M40_ q41_ => ?_)
            obtain ⟨rfl, h42_, hs43_⟩ := q41_
            refine w_iconst (v := 1) dX10_makeClick_72 (by decide) ?_
            refine w_callVv (as := [vI r39_, vI 1]) (rest := []) (c_X9_addYes l G cy ad (d + 2) b j7_ r39_ 1 M23_ hI26_ hb h9_) kV_X9_addYes (by decide +kernel) (Nat.le_of_ble_eq_true rfl) m_915 rfl rfl rfl (ic_9 hb h9_) rfl rfl (by decide) (Nat.le_of_ble_eq_true rfl) dX10_makeClick_73 (fun M44_ q45_ => ?_)
            obtain ⟨hI47_, hF48_, h46_, hs50_⟩ := q45_
            have hF49_ := hF28_.tr hF48_ (fun c k => (fun h => h.elim (fun h => (Or.inr (Or.inr (Or.inr (Or.inr (Or.inr (Or.inr (Or.inr (Or.inl ⟨h.1, h.2.1⟩))))))))) (fun h => h.elim)))
            refine w_iconst (v := 1) dX10_makeClick_76 (by decide) ?_
            refine w_istore (ls' := [(6, vI 1), (3, vI z35_), (5, vI r22_), (4, vI v4_32), (2, vR (9, b, j7_)), (0, vR (10, b, 0)), (1, vI v)]) dX10_makeClick_77 (by decide) rfl ?_
            have lp51_ : ∀ (nn_79 : Nat) (M_79 : mM) (hI_79 : Inv M_79) (hF_79 : FR (S_c_X10_makeClick b) Mz M_79) (v6_79 : Int32) (hv0_79 : 1 ≤ v6_79.toInt) (hL_79 : RCH (fun x_ y_ => ST_X10_makeClick_79b b Mz j7_ v4_32 r22_ x_.1 x_.2 y_.1 y_.2) ((1 : Int32), M44_) (v6_79, M_79)), (2147483648 - v6_79.toInt).toNat < nn_79 → WP CC l G cy ad yX10_makeClick cX10_makeClick 7 (some .int) (d + 4) 79 [(6, vI v6_79), (3, vI z35_), (5, vI r22_), (4, vI v4_32), (2, vR (9, b, j7_)), (0, vR (10, b, 0)), (1, vI v)] [] M_79 (fun r M' => Inv M' ∧ FR (S_c_X10_makeClick b) Mz M' ∧ (True) ∧ SP_X10_makeClick b v Mz r M') := by
              intro nn_79
              induction nn_79 with
              | zero => intro M_79 hI_79 hF_79 v6_79 hv0_79 hL_79 hm_79; exact absurd hm_79 (Nat.not_lt_zero _)
              | succ nn_79 ih_79 =>
                intro M_79 hI_79 hF_79 v6_79 hv0_79 hL_79 hm_79
                refine w_iload dX10_makeClick_79 0 rfl ?_
                refine w_iload dX10_makeClick_81 2 rfl ?_
                refine w_icmp_ge (tgt := 107) dX10_makeClick_83 (by decide) (rfl : v6_79.toInt = v6_79.toInt) (rfl : r22_.toInt = r22_.toInt) (fun h52_ => ?_) (fun h52_ => ?_)
                · refine w_iincB (j := 3) (f := fun z53_ => [(4, vI z53_), (6, vI v6_79), (3, vI z35_), (5, vI r22_), (2, vR (9, b, j7_)), (0, vR (10, b, 0)), (1, vI v)]) dX10_makeClick_107 rfl (by decide) (fun _ => rfl) (rfl : v4_32.toInt = v4_32.toInt) li_1 (lf_c_X10_makeClick_7 v4_32 hv0_32 hv1_32 h19_) (fun z53_ h54_ => ?_)
                  refine w_goto (tgt := 32) dX10_makeClick_110 (by decide) ?_
                  refine w_loc (ls' := [(4, vI z53_), (3, vI z35_), (2, vR (9, b, j7_)), (0, vR (10, b, 0)), (1, vI v)]) [0, 2, 4, 5, 6] rfl ?_
                  exact ih_32 M_79 hI_79 hF_79 z53_ z35_ (lf_c_X10_makeClick_8 v4_32 z53_ hv0_32 hv1_32 h19_ h54_) (lf_c_X10_makeClick_9 v4_32 z53_ hv0_32 hv1_32 h19_ h54_) (RCH.tail hL_32 ⟨hv0_32, hv1_32, hI_32, hF_32, h19_, z20_, e21_, M23_, hI26_, hF27_, r22_, hs29_, h25_, (Or.inr ⟨h30_, z35_, h36_, z37_, e38_, r39_, hs43_, h42_, M44_, hI47_, hF48_, hs50_, v6_79, hv0_79, M_79, hL_79, hI_79, hF_79, h52_, z53_, h54_, rfl, rfl, rfl⟩)⟩) (Nat.lt_of_lt_of_le (lf_c_X10_makeClick_10 v4_32 z53_ hv0_32 hv1_32 h19_ h54_) (Nat.le_of_lt_succ hm_32))
                · refine w_aload_n dX10_makeClick_86 rfl 4 rfl ?_
                  refine w_aload_n dX10_makeClick_87 rfl 4 rfl ?_
                  refine w_getI fl_RX10_109 rfl rfl (ic_9 hb h9_) dX10_makeClick_88 (fun z55_ e56_ => ?_)
                  refine w_iload dX10_makeClick_91 3 rfl ?_
                  refine w_iload dX10_makeClick_93 0 rfl ?_
                  refine w_callS (as := [vI z55_, vI v4_32, vI v6_79]) (rest := [vR (9, b, j7_)]) (c_X7_cellFrom l G cy ad (d + 2) z55_ v4_32 v6_79 M_79 hI_79) kS_X7_cellFrom (by decide +kernel) (Nat.le_of_ble_eq_true rfl) m_849 rfl rfl (by decide) (Nat.le_of_ble_eq_true rfl) dX10_makeClick_95 (fun r57_ M58_ q59_ => ?_)
                  obtain ⟨rfl, h60_, hs61_⟩ := q59_
                  refine w_callVv (as := [vI r57_]) (rest := []) (c_X9_addNo l G cy ad (d + 2) b j7_ r57_ M_79 hI_79 hb h9_) kV_X9_addNo (by decide +kernel) (Nat.le_of_ble_eq_true rfl) m_921 rfl rfl rfl (ic_9 hb h9_) rfl rfl (by decide) (Nat.le_of_ble_eq_true rfl) dX10_makeClick_98 (fun M62_ q63_ => ?_)
                  obtain ⟨hI65_, hF66_, h64_, hs68_⟩ := q63_
                  have hF67_ := hF_79.tr hF66_ (fun c k => (fun h => h.elim (fun h => (Or.inr (Or.inr (Or.inr (Or.inr (Or.inr (Or.inr (Or.inr (Or.inr (Or.inl ⟨h.1, h.2.1⟩)))))))))) (fun h => h.elim)))
                  refine w_iincB (j := 0) (f := fun z69_ => [(6, vI z69_), (3, vI z35_), (5, vI r22_), (4, vI v4_32), (2, vR (9, b, j7_)), (0, vR (10, b, 0)), (1, vI v)]) dX10_makeClick_101 rfl (by decide) (fun _ => rfl) (rfl : v6_79.toInt = v6_79.toInt) li_1 (lf_c_X10_makeClick_11 r22_ v6_79 h25_ h30_ hv0_79 h52_) (fun z69_ h70_ => ?_)
                  refine w_goto (tgt := 79) dX10_makeClick_104 (by decide) ?_
                  refine w_loc (ls' := [(6, vI z69_), (3, vI z35_), (5, vI r22_), (4, vI v4_32), (2, vR (9, b, j7_)), (0, vR (10, b, 0)), (1, vI v)]) [0, 1, 2, 3, 4, 5, 6] rfl ?_
                  exact ih_79 M62_ hI65_ hF67_ z69_ (lf_c_X10_makeClick_12 r22_ v6_79 z69_ h25_ h30_ hv0_79 h52_ h70_) (RCH.tail hL_79 ⟨hv0_79, hI_79, hF_79, h52_, z55_, e56_, r57_, hs61_, h60_, M62_, hI65_, hF66_, hs68_, z69_, h70_, rfl, rfl⟩) (Nat.lt_of_lt_of_le (lf_c_X10_makeClick_13 r22_ v6_79 z69_ h25_ h30_ hv0_79 h52_ h70_) (Nat.le_of_lt_succ hm_79))
            exact lp51_ _ M44_ hI47_ hF49_ 1 (lf_c_X10_makeClick_14 ) RCH.refl (Nat.lt_succ_self _)
    exact lp18_ _ M14_ hI16_ hF17_ 0 0 (lf_c_X10_makeClick_15 ) (lf_c_X10_makeClick_16 ) RCH.refl (Nat.lt_succ_self _)
  · refine w_if_ne (tgt := 10) dX10_makeClick_5 (by decide) li_0 (fun h9 => (absurd h9 (by decide))) (fun h71_ => ?_)
    refine w_iconst (v := 0) dX10_makeClick_8 (by decide) ?_
    exact w_iret rfl dX10_makeClick_9 ⟨hIz, hFz, trivial, (Or.inr ⟨hs5_, rfl, rfl⟩)⟩
def ST_X10_countWrong_14 (b : Nat) (v : Int32) (Mz : mM) (v3_14 : Int32) (v2_14 : Int32) (v3_14y : Int32) (v2_14y : Int32) : Prop := (0 ≤ v3_14.toInt) ∧ (v3_14.toInt ≤ 192) ∧ (v3_14.toInt < 192) ∧ ∃ j9_ : Nat, ((j9_ : Int) = v.toInt) ∧ (j9_ < 8) ∧ ∃ r12_ : Int32, (SP_X9_held b j9_ v3_14 Mz r12_) ∧ ∃ r17_ : Int32, (SP_X10_isFreeBut b v v3_14 Mz r17_) ∧ ((0 ≤ r17_.toInt ∧ r17_.toInt ≤ 1)) ∧ (((r17_.toInt = 0) ∧ (((r12_.toInt = 0) ∧ ∃ z24_ : Int32, (z24_.toInt = v3_14.toInt + 1) ∧ v3_14y = z24_ ∧ v2_14y = v2_14) ∨ ((¬ r12_.toInt = 0) ∧ (((r12_.toInt = 2) ∧ ∃ z27_ : Int32, (z27_.toInt = v3_14.toInt + 1) ∧ v3_14y = z27_ ∧ v2_14y = v2_14) ∨ ((¬ r12_.toInt = 2) ∧ ∃ z29_ : Int32, (z29_ = v2_14 + Int32.ofInt 1) ∧ ∃ z31_ : Int32, (z31_.toInt = v3_14.toInt + 1) ∧ v3_14y = z31_ ∧ v2_14y = z29_))))) ∨ ((¬ r17_.toInt = 0) ∧ (((r12_.toInt = 0) ∧ ∃ z34_ : Int32, (z34_.toInt = v3_14.toInt + 1) ∧ v3_14y = z34_ ∧ v2_14y = v2_14) ∨ ((¬ r12_.toInt = 0) ∧ (((r12_.toInt = 1) ∧ ∃ z37_ : Int32, (z37_.toInt = v3_14.toInt + 1) ∧ v3_14y = z37_ ∧ v2_14y = v2_14) ∨ ((¬ r12_.toInt = 1) ∧ ∃ z39_ : Int32, (z39_ = v2_14 + Int32.ofInt 1) ∧ ∃ z41_ : Int32, (z41_.toInt = v3_14.toInt + 1) ∧ v3_14y = z41_ ∧ v2_14y = z39_))))))
def SP_X10_countWrong (b : Nat) (v : Int32) (Mz : mM) (r_ : Int32) : Prop := (((SP_X10_hasWalker b v Mz (1 : Int32)) ∧ (0 ≤ v.toInt ∧ v.toInt ≤ 7) ∧ ∃ v3_14 : Int32, (0 ≤ v3_14.toInt) ∧ (v3_14.toInt ≤ 192) ∧ ∃ v2_14 : Int32, (RCH (fun x_ y_ => ST_X10_countWrong_14 b v Mz x_.1 x_.2 y_.1 y_.2) ((0 : Int32), (0 : Int32)) (v3_14, v2_14)) ∧ (192 ≤ v3_14.toInt) ∧ r_ = v2_14) ∨ ((SP_X10_hasWalker b v Mz (0 : Int32)) ∧ r_ = 0))
theorem lf_c_X10_countWrong_0  (v : Int32) (h4_ : 0 ≤ v.toInt ∧ v.toInt ≤ 7) : 0 ≤ v.toInt ∧ v.toInt < ((8 : Nat) : Int) := by have r_v := rngI v; omega
theorem lf_c_X10_countWrong_1  (v3_14 : Int32) (hv0_14 : 0 ≤ v3_14.toInt) (hv1_14 : v3_14.toInt ≤ 192) (h8_ : v3_14.toInt < 192) : -2147483648 ≤ v3_14.toInt + 1 ∧ v3_14.toInt + 1 < 2147483648 := by have r_v3_14 := rngI v3_14; omega
theorem lf_c_X10_countWrong_2  (v3_14 : Int32) (z24_ : Int32) (hv0_14 : 0 ≤ v3_14.toInt) (hv1_14 : v3_14.toInt ≤ 192) (h8_ : v3_14.toInt < 192) (h25_ : z24_.toInt = v3_14.toInt + 1) : 0 ≤ z24_.toInt := by have r_v3_14 := rngI v3_14; have r_z24_ := rngI z24_; omega
theorem lf_c_X10_countWrong_3  (v3_14 : Int32) (z24_ : Int32) (hv0_14 : 0 ≤ v3_14.toInt) (hv1_14 : v3_14.toInt ≤ 192) (h8_ : v3_14.toInt < 192) (h25_ : z24_.toInt = v3_14.toInt + 1) : z24_.toInt ≤ 192 := by have r_v3_14 := rngI v3_14; have r_z24_ := rngI z24_; omega
theorem lf_c_X10_countWrong_4  (v3_14 : Int32) (z24_ : Int32) (hv0_14 : 0 ≤ v3_14.toInt) (hv1_14 : v3_14.toInt ≤ 192) (h8_ : v3_14.toInt < 192) (h25_ : z24_.toInt = v3_14.toInt + 1) : (2147483648 - z24_.toInt).toNat < (2147483648 - v3_14.toInt).toNat := by have r_v3_14 := rngI v3_14; have r_z24_ := rngI z24_; omega
theorem lf_c_X10_countWrong_5  (v3_14 : Int32) (hv0_14 : 0 ≤ v3_14.toInt) (hv1_14 : v3_14.toInt ≤ 192) (h8_ : v3_14.toInt < 192) : -2147483648 ≤ v3_14.toInt + 1 ∧ v3_14.toInt + 1 < 2147483648 := by have r_v3_14 := rngI v3_14; omega
theorem lf_c_X10_countWrong_6  (v3_14 : Int32) (z27_ : Int32) (hv0_14 : 0 ≤ v3_14.toInt) (hv1_14 : v3_14.toInt ≤ 192) (h8_ : v3_14.toInt < 192) (h28_ : z27_.toInt = v3_14.toInt + 1) : 0 ≤ z27_.toInt := by have r_v3_14 := rngI v3_14; have r_z27_ := rngI z27_; omega
theorem lf_c_X10_countWrong_7  (v3_14 : Int32) (z27_ : Int32) (hv0_14 : 0 ≤ v3_14.toInt) (hv1_14 : v3_14.toInt ≤ 192) (h8_ : v3_14.toInt < 192) (h28_ : z27_.toInt = v3_14.toInt + 1) : z27_.toInt ≤ 192 := by have r_v3_14 := rngI v3_14; have r_z27_ := rngI z27_; omega
theorem lf_c_X10_countWrong_8  (v3_14 : Int32) (z27_ : Int32) (hv0_14 : 0 ≤ v3_14.toInt) (hv1_14 : v3_14.toInt ≤ 192) (h8_ : v3_14.toInt < 192) (h28_ : z27_.toInt = v3_14.toInt + 1) : (2147483648 - z27_.toInt).toNat < (2147483648 - v3_14.toInt).toNat := by have r_v3_14 := rngI v3_14; have r_z27_ := rngI z27_; omega
theorem lf_c_X10_countWrong_9  (v3_14 : Int32) (hv0_14 : 0 ≤ v3_14.toInt) (hv1_14 : v3_14.toInt ≤ 192) (h8_ : v3_14.toInt < 192) : -2147483648 ≤ v3_14.toInt + 1 ∧ v3_14.toInt + 1 < 2147483648 := by have r_v3_14 := rngI v3_14; omega
theorem lf_c_X10_countWrong_10  (v3_14 : Int32) (z31_ : Int32) (hv0_14 : 0 ≤ v3_14.toInt) (hv1_14 : v3_14.toInt ≤ 192) (h8_ : v3_14.toInt < 192) (h32_ : z31_.toInt = v3_14.toInt + 1) : 0 ≤ z31_.toInt := by have r_v3_14 := rngI v3_14; have r_z31_ := rngI z31_; omega
theorem lf_c_X10_countWrong_11  (v3_14 : Int32) (z31_ : Int32) (hv0_14 : 0 ≤ v3_14.toInt) (hv1_14 : v3_14.toInt ≤ 192) (h8_ : v3_14.toInt < 192) (h32_ : z31_.toInt = v3_14.toInt + 1) : z31_.toInt ≤ 192 := by have r_v3_14 := rngI v3_14; have r_z31_ := rngI z31_; omega
theorem lf_c_X10_countWrong_12  (v3_14 : Int32) (z31_ : Int32) (hv0_14 : 0 ≤ v3_14.toInt) (hv1_14 : v3_14.toInt ≤ 192) (h8_ : v3_14.toInt < 192) (h32_ : z31_.toInt = v3_14.toInt + 1) : (2147483648 - z31_.toInt).toNat < (2147483648 - v3_14.toInt).toNat := by have r_v3_14 := rngI v3_14; have r_z31_ := rngI z31_; omega
theorem lf_c_X10_countWrong_13  (v3_14 : Int32) (hv0_14 : 0 ≤ v3_14.toInt) (hv1_14 : v3_14.toInt ≤ 192) (h8_ : v3_14.toInt < 192) : -2147483648 ≤ v3_14.toInt + 1 ∧ v3_14.toInt + 1 < 2147483648 := by have r_v3_14 := rngI v3_14; omega
theorem lf_c_X10_countWrong_14  (v3_14 : Int32) (z34_ : Int32) (hv0_14 : 0 ≤ v3_14.toInt) (hv1_14 : v3_14.toInt ≤ 192) (h8_ : v3_14.toInt < 192) (h35_ : z34_.toInt = v3_14.toInt + 1) : 0 ≤ z34_.toInt := by have r_v3_14 := rngI v3_14; have r_z34_ := rngI z34_; omega
theorem lf_c_X10_countWrong_15  (v3_14 : Int32) (z34_ : Int32) (hv0_14 : 0 ≤ v3_14.toInt) (hv1_14 : v3_14.toInt ≤ 192) (h8_ : v3_14.toInt < 192) (h35_ : z34_.toInt = v3_14.toInt + 1) : z34_.toInt ≤ 192 := by have r_v3_14 := rngI v3_14; have r_z34_ := rngI z34_; omega
theorem lf_c_X10_countWrong_16  (v3_14 : Int32) (z34_ : Int32) (hv0_14 : 0 ≤ v3_14.toInt) (hv1_14 : v3_14.toInt ≤ 192) (h8_ : v3_14.toInt < 192) (h35_ : z34_.toInt = v3_14.toInt + 1) : (2147483648 - z34_.toInt).toNat < (2147483648 - v3_14.toInt).toNat := by have r_v3_14 := rngI v3_14; have r_z34_ := rngI z34_; omega
theorem lf_c_X10_countWrong_17  (v3_14 : Int32) (hv0_14 : 0 ≤ v3_14.toInt) (hv1_14 : v3_14.toInt ≤ 192) (h8_ : v3_14.toInt < 192) : -2147483648 ≤ v3_14.toInt + 1 ∧ v3_14.toInt + 1 < 2147483648 := by have r_v3_14 := rngI v3_14; omega
theorem lf_c_X10_countWrong_18  (v3_14 : Int32) (z37_ : Int32) (hv0_14 : 0 ≤ v3_14.toInt) (hv1_14 : v3_14.toInt ≤ 192) (h8_ : v3_14.toInt < 192) (h38_ : z37_.toInt = v3_14.toInt + 1) : 0 ≤ z37_.toInt := by have r_v3_14 := rngI v3_14; have r_z37_ := rngI z37_; omega
theorem lf_c_X10_countWrong_19  (v3_14 : Int32) (z37_ : Int32) (hv0_14 : 0 ≤ v3_14.toInt) (hv1_14 : v3_14.toInt ≤ 192) (h8_ : v3_14.toInt < 192) (h38_ : z37_.toInt = v3_14.toInt + 1) : z37_.toInt ≤ 192 := by have r_v3_14 := rngI v3_14; have r_z37_ := rngI z37_; omega
theorem lf_c_X10_countWrong_20  (v3_14 : Int32) (z37_ : Int32) (hv0_14 : 0 ≤ v3_14.toInt) (hv1_14 : v3_14.toInt ≤ 192) (h8_ : v3_14.toInt < 192) (h38_ : z37_.toInt = v3_14.toInt + 1) : (2147483648 - z37_.toInt).toNat < (2147483648 - v3_14.toInt).toNat := by have r_v3_14 := rngI v3_14; have r_z37_ := rngI z37_; omega
theorem lf_c_X10_countWrong_21  (v3_14 : Int32) (hv0_14 : 0 ≤ v3_14.toInt) (hv1_14 : v3_14.toInt ≤ 192) (h8_ : v3_14.toInt < 192) : -2147483648 ≤ v3_14.toInt + 1 ∧ v3_14.toInt + 1 < 2147483648 := by have r_v3_14 := rngI v3_14; omega
theorem lf_c_X10_countWrong_22  (v3_14 : Int32) (z41_ : Int32) (hv0_14 : 0 ≤ v3_14.toInt) (hv1_14 : v3_14.toInt ≤ 192) (h8_ : v3_14.toInt < 192) (h42_ : z41_.toInt = v3_14.toInt + 1) : 0 ≤ z41_.toInt := by have r_v3_14 := rngI v3_14; have r_z41_ := rngI z41_; omega
theorem lf_c_X10_countWrong_23  (v3_14 : Int32) (z41_ : Int32) (hv0_14 : 0 ≤ v3_14.toInt) (hv1_14 : v3_14.toInt ≤ 192) (h8_ : v3_14.toInt < 192) (h42_ : z41_.toInt = v3_14.toInt + 1) : z41_.toInt ≤ 192 := by have r_v3_14 := rngI v3_14; have r_z41_ := rngI z41_; omega
theorem lf_c_X10_countWrong_24  (v3_14 : Int32) (z41_ : Int32) (hv0_14 : 0 ≤ v3_14.toInt) (hv1_14 : v3_14.toInt ≤ 192) (h8_ : v3_14.toInt < 192) (h42_ : z41_.toInt = v3_14.toInt + 1) : (2147483648 - z41_.toInt).toNat < (2147483648 - v3_14.toInt).toNat := by have r_v3_14 := rngI v3_14; have r_z41_ := rngI z41_; omega
theorem lf_c_X10_countWrong_25    : 0 ≤ (0 : Int32).toInt := by have q0 := li_0; omega
theorem lf_c_X10_countWrong_26    : (0 : Int32).toInt ≤ 192 := by have q0 := li_0; omega
set_option maxHeartbeats 4000000 in
set_option maxRecDepth 100000 in
theorem c_X10_countWrong (l : Launch) (G : va_G) (cy : Nat → ClassId) (ad : rf → Nat) (d : Nat) (b : Nat) (v : Int32) (Mz : mM) (hIz : Inv Mz) (hb : b < 3) : WP CC l G cy ad yX10_countWrong cX10_countWrong 6 (some .int) (d + 2) 0 [(0, vR (10, b, 0)), (1, vI v)] [] Mz (fun r M' => Mz = M' ∧ (True) ∧ SP_X10_countWrong b v Mz r) := by
  refine w_aload_n dX10_countWrong_0 rfl 0 rfl ?_
  refine w_iload_n dX10_countWrong_1 rfl 1 rfl ?_
  refine w_callV (as := [vI v]) (rest := []) (c_X10_hasWalker l G cy ad (d + 1) b v Mz hIz hb) kV_X10_hasWalker (by decide +kernel) (Nat.le_of_ble_eq_true rfl) m_847 rfl rfl rfl (ic_10 hb) rfl rfl (by decide) (Nat.le_of_ble_eq_true rfl) dX10_countWrong_2 (fun r1_ M2_ q3_ => ?_)
  obtain ⟨rfl, h4_, hs5_⟩ := q3_
  rcases h4_ with ⟨rfl, h4_⟩ | rfl
  · refine w_if_ne (tgt := 10) dX10_countWrong_5 (by decide) li_1 (fun h6_ => ?_) (fun h9 => (absurd h9 (by decide)))
    refine w_iconst (v := 0) dX10_countWrong_10 (by decide) ?_
    refine w_istore_n (ls' := [(2, vI 0), (0, vR (10, b, 0)), (1, vI v)]) dX10_countWrong_11 rfl (by decide) rfl ?_
    refine w_iconst (v := 0) dX10_countWrong_12 (by decide) ?_
    refine w_istore_n (ls' := [(3, vI 0), (2, vI 0), (0, vR (10, b, 0)), (1, vI v)]) dX10_countWrong_13 rfl (by decide) rfl ?_
    have lp7_ : ∀ (nn_14 : Nat) (v3_14 : Int32) (v2_14 : Int32) (hv0_14 : 0 ≤ v3_14.toInt) (hv1_14 : v3_14.toInt ≤ 192) (hL_14 : RCH (fun x_ y_ => ST_X10_countWrong_14 b v Mz x_.1 x_.2 y_.1 y_.2) ((0 : Int32), (0 : Int32)) (v3_14, v2_14)), (2147483648 - v3_14.toInt).toNat < nn_14 → WP CC l G cy ad yX10_countWrong cX10_countWrong 6 (some .int) (d + 2) 14 [(3, vI v3_14), (2, vI v2_14), (0, vR (10, b, 0)), (1, vI v)] [] Mz (fun r M' => Mz = M' ∧ (True) ∧ SP_X10_countWrong b v Mz r) := by
      intro nn_14
      induction nn_14 with
      | zero => intro v3_14 v2_14 hv0_14 hv1_14 hL_14 hm_14; exact absurd hm_14 (Nat.not_lt_zero _)
      | succ nn_14 ih_14 =>
        intro v3_14 v2_14 hv0_14 hv1_14 hL_14 hm_14
        refine w_iload_n dX10_countWrong_14 rfl 0 rfl ?_
        refine w_sipush (v := 192) dX10_countWrong_15 (by decide) ?_
        refine w_icmp_ge (tgt := 70) dX10_countWrong_18 (by decide) (rfl : v3_14.toInt = v3_14.toInt) li_192 (fun h8_ => ?_) (fun h8_ => ?_)
        · refine w_iload_n dX10_countWrong_70 rfl 1 rfl ?_
          exact w_iret rfl dX10_countWrong_71 ⟨rfl, trivial, (Or.inl ⟨hs5_, h4_, v3_14, hv0_14, hv1_14, v2_14, hL_14, h8_, rfl⟩)⟩
        · refine w_aload_n dX10_countWrong_21 rfl 2 rfl ?_
          refine w_getR (c' := (42, b, 0)) fl_RX10_46 rfl rfl (ic_10 hb) dX10_countWrong_22 rfl ?_
          refine w_iload_n dX10_countWrong_25 rfl 3 rfl ?_
          refine w_aald rfl rfl rfl (fun _ => rfl) (ic_42 hb) (rfl : v.toInt = v.toInt) (lf_c_X10_countWrong_0 v h4_) dX10_countWrong_26 (fun j9_ h10_ h11_ => ?_)
          refine w_iload_n dX10_countWrong_27 rfl 0 rfl ?_
          refine w_callV (as := [vI v3_14]) (rest := []) (c_X9_held l G cy ad d b j9_ v3_14 Mz hIz hb h11_) kV_X9_held (by decide +kernel) (Nat.le_of_ble_eq_true rfl) m_941 rfl rfl rfl (ic_9 hb h11_) rfl rfl (by decide) (Nat.le_of_ble_eq_true rfl) dX10_countWrong_28 (fun r12_ M13_ q14_ => ?_)
          obtain ⟨rfl, h15_, hs16_⟩ := q14_
          refine w_istore (ls' := [(4, vI r12_), (3, vI v3_14), (2, vI v2_14), (0, vR (10, b, 0)), (1, vI v)]) dX10_countWrong_31 (by decide) rfl ?_
          refine w_aload_n dX10_countWrong_33 rfl 3 rfl ?_
          refine w_iload_n dX10_countWrong_34 rfl 4 rfl ?_
          refine w_iload_n dX10_countWrong_35 rfl 1 rfl ?_
          refine w_callV (as := [vI v, vI v3_14]) (rest := []) (c_X10_isFreeBut l G cy ad (d + 1) b v v3_14 Mz hIz hb) kV_X10_isFreeBut (by decide +kernel) (Nat.le_of_ble_eq_true rfl) m_857 rfl rfl rfl (ic_10 hb) rfl rfl (by decide) (Nat.le_of_ble_eq_true rfl) dX10_countWrong_36 (fun r17_ M18_ q19_ => ?_)
          obtain ⟨rfl, h20_, hs21_⟩ := q19_
          refine w_if_eq (tgt := 46) dX10_countWrong_39 (by decide) (rfl : r17_.toInt = r17_.toInt) (fun h22_ => ?_) (fun h22_ => ?_)
          · refine w_iconst (v := 2) dX10_countWrong_46 (by decide) ?_
            refine w_istore (ls' := [(5, vI 2), (4, vI r12_), (3, vI v3_14), (2, vI v2_14), (0, vR (10, b, 0)), (1, vI v)]) dX10_countWrong_47 (by decide) rfl ?_
            refine w_iload dX10_countWrong_49 1 rfl ?_
            refine w_if_eq (tgt := 64) dX10_countWrong_51 (by decide) (rfl : r12_.toInt = r12_.toInt) (fun h23_ => ?_) (fun h23_ => ?_)
            · refine w_iincB (j := 2) (f := fun z24_ => [(3, vI z24_), (5, vI 2), (4, vI r12_), (2, vI v2_14), (0, vR (10, b, 0)), (1, vI v)]) dX10_countWrong_64 rfl (by decide) (fun _ => rfl) (rfl : v3_14.toInt = v3_14.toInt) li_1 (lf_c_X10_countWrong_1 v3_14 hv0_14 hv1_14 h8_) (fun z24_ h25_ => ?_)
              refine w_goto (tgt := 14) dX10_countWrong_67 (by decide) ?_
              refine w_loc (ls' := [(3, vI z24_), (2, vI v2_14), (0, vR (10, b, 0)), (1, vI v)]) [0, 3, 4, 5] rfl ?_
              exact ih_14 z24_ v2_14 (lf_c_X10_countWrong_2 v3_14 z24_ hv0_14 hv1_14 h8_ h25_) (lf_c_X10_countWrong_3 v3_14 z24_ hv0_14 hv1_14 h8_ h25_) (RCH.tail hL_14 ⟨hv0_14, hv1_14, h8_, j9_, h10_, h11_, r12_, hs16_, r17_, hs21_, h20_, (Or.inl ⟨h22_, (Or.inl ⟨h23_, z24_, h25_, rfl, rfl⟩)⟩)⟩) (Nat.lt_of_lt_of_le (lf_c_X10_countWrong_4 v3_14 z24_ hv0_14 hv1_14 h8_ h25_) (Nat.le_of_lt_succ hm_14))
            · refine w_iload dX10_countWrong_54 1 rfl ?_
              refine w_iload dX10_countWrong_56 0 rfl ?_
              refine w_icmp_eq (tgt := 64) dX10_countWrong_58 (by decide) (rfl : r12_.toInt = r12_.toInt) li_2 (fun h26_ => ?_) (fun h26_ => ?_)
              · refine w_iincB (j := 2) (f := fun z27_ => [(3, vI z27_), (5, vI 2), (4, vI r12_), (2, vI v2_14), (0, vR (10, b, 0)), (1, vI v)]) dX10_countWrong_64 rfl (by decide) (fun _ => rfl) (rfl : v3_14.toInt = v3_14.toInt) li_1 (lf_c_X10_countWrong_5 v3_14 hv0_14 hv1_14 h8_) (fun z27_ h28_ => ?_)
                refine w_goto (tgt := 14) dX10_countWrong_67 (by decide) ?_
                refine w_loc (ls' := [(3, vI z27_), (2, vI v2_14), (0, vR (10, b, 0)), (1, vI v)]) [0, 3, 4, 5] rfl ?_
                exact ih_14 z27_ v2_14 (lf_c_X10_countWrong_6 v3_14 z27_ hv0_14 hv1_14 h8_ h28_) (lf_c_X10_countWrong_7 v3_14 z27_ hv0_14 hv1_14 h8_ h28_) (RCH.tail hL_14 ⟨hv0_14, hv1_14, h8_, j9_, h10_, h11_, r12_, hs16_, r17_, hs21_, h20_, (Or.inl ⟨h22_, (Or.inr ⟨h23_, (Or.inl ⟨h26_, z27_, h28_, rfl, rfl⟩)⟩)⟩)⟩) (Nat.lt_of_lt_of_le (lf_c_X10_countWrong_8 v3_14 z27_ hv0_14 hv1_14 h8_ h28_) (Nat.le_of_lt_succ hm_14))
              · refine w_iincX (j := 3) (f := fun z29_ => [(2, vI z29_), (5, vI 2), (4, vI r12_), (3, vI v3_14), (0, vR (10, b, 0)), (1, vI v)]) dX10_countWrong_61 rfl (by decide) (fun _ => rfl) (fun z29_ h30_ => ?_)
                refine w_iincB (j := 3) (f := fun z31_ => [(3, vI z31_), (2, vI z29_), (5, vI 2), (4, vI r12_), (0, vR (10, b, 0)), (1, vI v)]) dX10_countWrong_64 rfl (by decide) (fun _ => rfl) (rfl : v3_14.toInt = v3_14.toInt) li_1 (lf_c_X10_countWrong_9 v3_14 hv0_14 hv1_14 h8_) (fun z31_ h32_ => ?_)
                refine w_goto (tgt := 14) dX10_countWrong_67 (by decide) ?_
                refine w_loc (ls' := [(3, vI z31_), (2, vI z29_), (0, vR (10, b, 0)), (1, vI v)]) [0, 1, 4, 5] rfl ?_
                exact ih_14 z31_ z29_ (lf_c_X10_countWrong_10 v3_14 z31_ hv0_14 hv1_14 h8_ h32_) (lf_c_X10_countWrong_11 v3_14 z31_ hv0_14 hv1_14 h8_ h32_) (RCH.tail hL_14 ⟨hv0_14, hv1_14, h8_, j9_, h10_, h11_, r12_, hs16_, r17_, hs21_, h20_, (Or.inl ⟨h22_, (Or.inr ⟨h23_, (Or.inr ⟨h26_, z29_, h30_, z31_, h32_, rfl, rfl⟩)⟩)⟩)⟩) (Nat.lt_of_lt_of_le (lf_c_X10_countWrong_12 v3_14 z31_ hv0_14 hv1_14 h8_ h32_) (Nat.le_of_lt_succ hm_14))
          · refine w_iconst (v := 1) dX10_countWrong_42 (by decide) ?_
            refine w_goto (tgt := 47) dX10_countWrong_43 (by decide) ?_
            refine w_istore (ls' := [(5, vI 1), (4, vI r12_), (3, vI v3_14), (2, vI v2_14), (0, vR (10, b, 0)), (1, vI v)]) dX10_countWrong_47 (by decide) rfl ?_
            refine w_iload dX10_countWrong_49 1 rfl ?_
            refine w_if_eq (tgt := 64) dX10_countWrong_51 (by decide) (rfl : r12_.toInt = r12_.toInt) (fun h33_ => ?_) (fun h33_ => ?_)
            · refine w_iincB (j := 2) (f := fun z34_ => [(3, vI z34_), (5, vI 1), (4, vI r12_), (2, vI v2_14), (0, vR (10, b, 0)), (1, vI v)]) dX10_countWrong_64 rfl (by decide) (fun _ => rfl) (rfl : v3_14.toInt = v3_14.toInt) li_1 (lf_c_X10_countWrong_13 v3_14 hv0_14 hv1_14 h8_) (fun z34_ h35_ => ?_)
              refine w_goto (tgt := 14) dX10_countWrong_67 (by decide) ?_
              refine w_loc (ls' := [(3, vI z34_), (2, vI v2_14), (0, vR (10, b, 0)), (1, vI v)]) [0, 3, 4, 5] rfl ?_
              exact ih_14 z34_ v2_14 (lf_c_X10_countWrong_14 v3_14 z34_ hv0_14 hv1_14 h8_ h35_) (lf_c_X10_countWrong_15 v3_14 z34_ hv0_14 hv1_14 h8_ h35_) (RCH.tail hL_14 ⟨hv0_14, hv1_14, h8_, j9_, h10_, h11_, r12_, hs16_, r17_, hs21_, h20_, (Or.inr ⟨h22_, (Or.inl ⟨h33_, z34_, h35_, rfl, rfl⟩)⟩)⟩) (Nat.lt_of_lt_of_le (lf_c_X10_countWrong_16 v3_14 z34_ hv0_14 hv1_14 h8_ h35_) (Nat.le_of_lt_succ hm_14))
            · refine w_iload dX10_countWrong_54 1 rfl ?_
              refine w_iload dX10_countWrong_56 0 rfl ?_
              refine w_icmp_eq (tgt := 64) dX10_countWrong_58 (by decide) (rfl : r12_.toInt = r12_.toInt) li_1 (fun h36_ => ?_) (fun h36_ => ?_)
              · refine w_iincB (j := 2) (f := fun z37_ => [(3, vI z37_), (5, vI 1), (4, vI r12_), (2, vI v2_14), (0, vR (10, b, 0)), (1, vI v)]) dX10_countWrong_64 rfl (by decide) (fun _ => rfl) (rfl : v3_14.toInt = v3_14.toInt) li_1 (lf_c_X10_countWrong_17 v3_14 hv0_14 hv1_14 h8_) (fun z37_ h38_ => ?_)
                refine w_goto (tgt := 14) dX10_countWrong_67 (by decide) ?_
                refine w_loc (ls' := [(3, vI z37_), (2, vI v2_14), (0, vR (10, b, 0)), (1, vI v)]) [0, 3, 4, 5] rfl ?_
                exact ih_14 z37_ v2_14 (lf_c_X10_countWrong_18 v3_14 z37_ hv0_14 hv1_14 h8_ h38_) (lf_c_X10_countWrong_19 v3_14 z37_ hv0_14 hv1_14 h8_ h38_) (RCH.tail hL_14 ⟨hv0_14, hv1_14, h8_, j9_, h10_, h11_, r12_, hs16_, r17_, hs21_, h20_, (Or.inr ⟨h22_, (Or.inr ⟨h33_, (Or.inl ⟨h36_, z37_, h38_, rfl, rfl⟩)⟩)⟩)⟩) (Nat.lt_of_lt_of_le (lf_c_X10_countWrong_20 v3_14 z37_ hv0_14 hv1_14 h8_ h38_) (Nat.le_of_lt_succ hm_14))
              · refine w_iincX (j := 3) (f := fun z39_ => [(2, vI z39_), (5, vI 1), (4, vI r12_), (3, vI v3_14), (0, vR (10, b, 0)), (1, vI v)]) dX10_countWrong_61 rfl (by decide) (fun _ => rfl) (fun z39_ h40_ => ?_)
                refine w_iincB (j := 3) (f := fun z41_ => [(3, vI z41_), (2, vI z39_), (5, vI 1), (4, vI r12_), (0, vR (10, b, 0)), (1, vI v)]) dX10_countWrong_64 rfl (by decide) (fun _ => rfl) (rfl : v3_14.toInt = v3_14.toInt) li_1 (lf_c_X10_countWrong_21 v3_14 hv0_14 hv1_14 h8_) (fun z41_ h42_ => ?_)
                refine w_goto (tgt := 14) dX10_countWrong_67 (by decide) ?_
                refine w_loc (ls' := [(3, vI z41_), (2, vI z39_), (0, vR (10, b, 0)), (1, vI v)]) [0, 1, 4, 5] rfl ?_
                exact ih_14 z41_ z39_ (lf_c_X10_countWrong_22 v3_14 z41_ hv0_14 hv1_14 h8_ h42_) (lf_c_X10_countWrong_23 v3_14 z41_ hv0_14 hv1_14 h8_ h42_) (RCH.tail hL_14 ⟨hv0_14, hv1_14, h8_, j9_, h10_, h11_, r12_, hs16_, r17_, hs21_, h20_, (Or.inr ⟨h22_, (Or.inr ⟨h33_, (Or.inr ⟨h36_, z39_, h40_, z41_, h42_, rfl, rfl⟩)⟩)⟩)⟩) (Nat.lt_of_lt_of_le (lf_c_X10_countWrong_24 v3_14 z41_ hv0_14 hv1_14 h8_ h42_) (Nat.le_of_lt_succ hm_14))
    exact lp7_ _ 0 0 (lf_c_X10_countWrong_25 ) (lf_c_X10_countWrong_26 ) RCH.refl (Nat.lt_succ_self _)
  · refine w_if_ne (tgt := 10) dX10_countWrong_5 (by decide) li_0 (fun h9 => (absurd h9 (by decide))) (fun h43_ => ?_)
    refine w_iconst (v := 0) dX10_countWrong_8 (by decide) ?_
    exact w_iret rfl dX10_countWrong_9 ⟨rfl, trivial, (Or.inr ⟨hs5_, rfl⟩)⟩
def S_c_X10_sureYards (b : Nat) : rf → Nat → Prop := fun c k => (c.1 = 29 ∧ c.2.1 = b ∧ k = 0) ∨ (c.1 = 29 ∧ c.2.1 = b ∧ k = 1) ∨ (c.1 = 29 ∧ c.2.1 = b ∧ k = 2) ∨ (c.1 = 29 ∧ c.2.1 = b ∧ k = 3) ∨ (c.1 = 25 ∧ c.2.1 = b ∧ c.2.2 = 0) ∨ (c.1 = 25 ∧ c.2.1 = b ∧ c.2.2 = 1) ∨ False
def SP_X10_sureYards (b : Nat) (v : Int32) (Mz : mM) (r_ : Int32) (M_ : mM) : Prop := (((SP_X10_hasWalker b v Mz (1 : Int32)) ∧ (0 ≤ v.toInt ∧ v.toInt ≤ 7) ∧ ∃ j7_ : Nat, ((j7_ : Int) = v.toInt) ∧ (j7_ < 8) ∧ ∃ z10_ : Int32, (z10_ = Mz.1 (9, b, j7_) 1) ∧ ∃ z12_ : Int32, (z12_ = Mz.1 (9, b, j7_) 2) ∧ ∃ M15_ : mM, (Inv M15_) ∧ (FR (S_c_X10_heardYards b) Mz M15_) ∧ ∃ r14_ : Int32, (SP_X10_heardYards b v z10_ z12_ Mz r14_ M15_) ∧ (0 ≤ r14_.toInt ∧ r14_.toInt ≤ 12) ∧ (((r14_.toInt ≤ 0) ∧ ∃ r23_ : Int32, (SP_X9_yardsHeldFree b j7_ M15_ r23_) ∧ r_ = r23_ ∧ M_ = M15_) ∨ ((0 < r14_.toInt) ∧ ∃ z28_ : Int32, (z28_.toInt = r14_.toInt - 1) ∧ r_ = z28_ ∧ M_ = M15_))) ∨ ((SP_X10_hasWalker b v Mz (0 : Int32)) ∧ r_ = 0 ∧ M_ = Mz))
theorem lf_c_X10_sureYards_0  (v : Int32) (h4_ : 0 ≤ v.toInt ∧ v.toInt ≤ 7) : 0 ≤ v.toInt ∧ v.toInt < ((8 : Nat) : Int) := by have r_v := rngI v; omega
theorem lf_c_X10_sureYards_1  (r14_ : Int32) (h17_ : 0 ≤ r14_.toInt ∧ r14_.toInt ≤ 12) (h22_ : 0 < r14_.toInt) : -2147483648 ≤ r14_.toInt - 1 ∧ r14_.toInt - 1 < 2147483648 := by have r_r14_ := rngI r14_; omega
set_option maxHeartbeats 4000000 in
set_option maxRecDepth 100000 in
theorem c_X10_sureYards (l : Launch) (G : va_G) (cy : Nat → ClassId) (ad : rf → Nat) (d : Nat) (b : Nat) (v : Int32) (Mz : mM) (hIz : Inv Mz) (hb : b < 3) : WP CC l G cy ad yX10_sureYards cX10_sureYards 4 (some .int) (d + 4) 0 [(0, vR (10, b, 0)), (1, vI v)] [] Mz (fun r M' => Inv M' ∧ FR (S_c_X10_sureYards b) Mz M' ∧ (True) ∧ SP_X10_sureYards b v Mz r M') := by
  have hFz : FR (S_c_X10_sureYards b) Mz Mz := FR.self
  refine w_aload_n dX10_sureYards_0 rfl 0 rfl ?_
  refine w_iload_n dX10_sureYards_1 rfl 1 rfl ?_
  refine w_callV (as := [vI v]) (rest := []) (c_X10_hasWalker l G cy ad (d + 3) b v Mz hIz hb) kV_X10_hasWalker (by decide +kernel) (Nat.le_of_ble_eq_true rfl) m_847 rfl rfl rfl (ic_10 hb) rfl rfl (by decide) (Nat.le_of_ble_eq_true rfl) dX10_sureYards_2 (fun r1_ M2_ q3_ => ?_)
  obtain ⟨rfl, h4_, hs5_⟩ := q3_
  rcases h4_ with ⟨rfl, h4_⟩ | rfl
  · refine w_if_ne (tgt := 10) dX10_sureYards_5 (by decide) li_1 (fun h6_ => ?_) (fun h9 => (absurd h9 (by decide)))
    refine w_aload_n dX10_sureYards_10 rfl 0 rfl ?_
    refine w_getR (c' := (42, b, 0)) fl_RX10_46 rfl rfl (ic_10 hb) dX10_sureYards_11 rfl ?_
    refine w_iload_n dX10_sureYards_14 rfl 1 rfl ?_
    refine w_aald rfl rfl rfl (fun _ => rfl) (ic_42 hb) (rfl : v.toInt = v.toInt) (lf_c_X10_sureYards_0 v h4_) dX10_sureYards_15 (fun j7_ h8_ h9_ => ?_)
    refine w_astore_n (ls' := [(2, vR (9, b, j7_)), (0, vR (10, b, 0)), (1, vI v)]) dX10_sureYards_16 rfl (by decide) rfl ?_
    refine w_aload_n dX10_sureYards_17 rfl 1 rfl ?_
    refine w_iload_n dX10_sureYards_18 rfl 2 rfl ?_
    refine w_aload_n dX10_sureYards_19 rfl 0 rfl ?_
    refine w_getI fl_RX10_109 rfl rfl (ic_9 hb h9_) dX10_sureYards_20 (fun z10_ e11_ => ?_)
    refine w_aload_n dX10_sureYards_23 rfl 0 rfl ?_
    refine w_getI fl_RX10_119 rfl rfl (ic_9 hb h9_) dX10_sureYards_24 (fun z12_ e13_ => ?_)
    refine w_callV (as := [vI v, vI z10_, vI z12_]) (rest := []) (c_X10_heardYards l G cy ad d b v z10_ z12_ Mz hIz hb) kV_X10_heardYards (by decide +kernel) (Nat.le_of_ble_eq_true rfl) m_900 rfl rfl rfl (ic_10 hb) rfl rfl (by decide) (Nat.le_of_ble_eq_true rfl) dX10_sureYards_27 (fun r14_ M15_ q16_ => ?_)
    obtain ⟨hI18_, hF19_, h17_, hs21_⟩ := q16_
    have hF20_ := hFz.tr hF19_ (fun c k => (fun h => h.elim (fun h => (Or.inl ⟨h.1, h.2.1, h.2.2⟩)) (fun h => h.elim (fun h => (Or.inr (Or.inl ⟨h.1, h.2.1, h.2.2⟩))) (fun h => h.elim (fun h => (Or.inr (Or.inr (Or.inl ⟨h.1, h.2.1, h.2.2⟩)))) (fun h => h.elim (fun h => (Or.inr (Or.inr (Or.inr (Or.inl ⟨h.1, h.2.1, h.2.2⟩))))) (fun h => h.elim (fun h => (Or.inr (Or.inr (Or.inr (Or.inr (Or.inl ⟨h.1, h.2.1, h.2.2⟩)))))) (fun h => h.elim (fun h => (Or.inr (Or.inr (Or.inr (Or.inr (Or.inr (Or.inl ⟨h.1, h.2.1, h.2.2⟩))))))) (fun h => h.elim))))))))
    refine w_istore_n (ls' := [(3, vI r14_), (2, vR (9, b, j7_)), (0, vR (10, b, 0)), (1, vI v)]) dX10_sureYards_30 rfl (by decide) rfl ?_
    refine w_iload_n dX10_sureYards_31 rfl 0 rfl ?_
    refine w_if_le (tgt := 41) dX10_sureYards_32 (by decide) (rfl : r14_.toInt = r14_.toInt) (fun h22_ => ?_) (fun h22_ => ?_)
    · refine w_aload_n dX10_sureYards_41 rfl 1 rfl ?_
      refine w_callV (as := []) (rest := []) (c_X9_yardsHeldFree l G cy ad (d + 1) b j7_ M15_ hI18_ hb h9_) kV_X9_yardsHeldFree (by decide +kernel) (Nat.le_of_ble_eq_true rfl) m_1106 rfl rfl rfl (ic_9 hb h9_) rfl rfl (by decide) (Nat.le_of_ble_eq_true rfl) dX10_sureYards_42 (fun r23_ M24_ q25_ => ?_)
      obtain ⟨rfl, h26_, hs27_⟩ := q25_
      exact w_iret rfl dX10_sureYards_45 ⟨hI18_, hF20_, trivial, (Or.inl ⟨hs5_, h4_, j7_, h8_, h9_, z10_, e11_, z12_, e13_, M15_, hI18_, hF19_, r14_, hs21_, h17_, (Or.inl ⟨h22_, r23_, hs27_, rfl, rfl⟩)⟩)⟩
    · refine w_iload_n dX10_sureYards_35 rfl 0 rfl ?_
      refine w_iconst (v := 1) dX10_sureYards_36 (by decide) ?_
      refine w_isubB dX10_sureYards_37 (rfl : r14_.toInt = r14_.toInt) li_1 (lf_c_X10_sureYards_1 r14_ h17_ h22_) (fun z28_ h29_ => ?_)
      refine w_goto (tgt := 45) dX10_sureYards_38 (by decide) ?_
      exact w_iret rfl dX10_sureYards_45 ⟨hI18_, hF20_, trivial, (Or.inl ⟨hs5_, h4_, j7_, h8_, h9_, z10_, e11_, z12_, e13_, M15_, hI18_, hF19_, r14_, hs21_, h17_, (Or.inr ⟨h22_, z28_, h29_, rfl, rfl⟩)⟩)⟩
  · refine w_if_ne (tgt := 10) dX10_sureYards_5 (by decide) li_0 (fun h9 => (absurd h9 (by decide))) (fun h30_ => ?_)
    refine w_iconst (v := 0) dX10_sureYards_8 (by decide) ?_
    exact w_iret rfl dX10_sureYards_9 ⟨hIz, hFz, trivial, (Or.inr ⟨hs5_, rfl, rfl⟩)⟩
def S_c_X10_goOn (b : Nat) : rf → Nat → Prop := fun c k => (c.1 = 35 ∧ c.2.1 = b) ∨ (c.1 = 9 ∧ c.2.1 = b ∧ k = 1) ∨ (c.1 = 9 ∧ c.2.1 = b ∧ k = 7) ∨ (c.1 = 40 ∧ c.2.1 = b) ∨ False
def ST_X10_goOn_18 (b : Nat) (v : Int32) (Mz : mM) (j7_ : Nat) (v3_18 : Int32) (M_18 : mM) (v3_18y : Int32) (M_18y : mM) : Prop := (0 ≤ v3_18.toInt) ∧ (Inv M_18) ∧ (FR (S_c_X10_goOn b) Mz M_18) ∧ ∃ r11_ : Int32, (SP_X9_speed b j7_ M_18 r11_) ∧ (0 ≤ r11_.toInt ∧ r11_.toInt ≤ 2) ∧ (v3_18.toInt < r11_.toInt) ∧ ∃ z17_ : Int32, (z17_ = M_18.1 (9, b, j7_) 1) ∧ ∃ z19_ : Int32, (z19_ = M_18.1 (9, b, j7_) 2) ∧ ∃ r21_ : Int32, (SP_X7_cellFrom z17_ z19_ 1 M_18 r21_) ∧ (-1 ≤ r21_.toInt ∧ r21_.toInt ≤ 191) ∧ (SP_X7_isFree b r21_ M_18 (1 : Int32)) ∧ (0 ≤ r21_.toInt ∧ r21_.toInt ≤ 191) ∧ ∃ M34_ : mM, (Inv M34_) ∧ (FR (S_c_X7_settle b) M_18 M34_) ∧ (SP_X7_settle b z17_ (-1) M_18 M34_) ∧ ∃ z41_ : Int32, (z41_.toInt = 100 + v.toInt) ∧ ∃ M43_ : mM, (Inv M43_) ∧ (FR (S_c_X7_settle b) M34_ M43_) ∧ (SP_X7_settle b r21_ z41_ M34_ M43_) ∧ ∃ M50_ : mM, (M50_ = up M43_ (9, b, j7_) 1 r21_) ∧ ∃ z54_ : Int32, (z54_.toInt = v3_18.toInt + 1) ∧ v3_18y = z54_ ∧ M_18y = M50_
def SP_X10_goOn (b : Nat) (v : Int32) (Mz : mM) (M_ : mM) : Prop := (((SP_X10_hasWalker b v Mz (1 : Int32)) ∧ (0 ≤ v.toInt ∧ v.toInt ≤ 7) ∧ ∃ j7_ : Nat, ((j7_ : Int) = v.toInt) ∧ (j7_ < 8) ∧ ∃ v3_18 : Int32, (0 ≤ v3_18.toInt) ∧ ∃ M_18 : mM, (RCH (fun x_ y_ => ST_X10_goOn_18 b v Mz j7_ x_.1 x_.2 y_.1 y_.2) ((0 : Int32), Mz) (v3_18, M_18)) ∧ (Inv M_18) ∧ (FR (S_c_X10_goOn b) Mz M_18) ∧ ∃ r11_ : Int32, (SP_X9_speed b j7_ M_18 r11_) ∧ (0 ≤ r11_.toInt ∧ r11_.toInt ≤ 2) ∧ (((r11_.toInt ≤ v3_18.toInt) ∧ M_ = M_18) ∨ ((v3_18.toInt < r11_.toInt) ∧ ∃ z17_ : Int32, (z17_ = M_18.1 (9, b, j7_) 1) ∧ ∃ z19_ : Int32, (z19_ = M_18.1 (9, b, j7_) 2) ∧ ∃ r21_ : Int32, (SP_X7_cellFrom z17_ z19_ 1 M_18 r21_) ∧ (-1 ≤ r21_.toInt ∧ r21_.toInt ≤ 191) ∧ (SP_X7_isFree b r21_ M_18 (0 : Int32)) ∧ ∃ z57_ : Int32, (z57_ = M_18.1 (9, b, j7_) 7) ∧ ∃ z59_ : Int32, (z59_ = z57_ + (1 : Int32)) ∧ ∃ M61_ : mM, (M61_ = up M_18 (9, b, j7_) 7 z59_) ∧ (Inv M61_) ∧ ∃ M65_ : mM, (Inv M65_) ∧ (FR (S_c_X9_addYes b j7_) M61_ M65_) ∧ (SP_X9_addYes b j7_ r21_ 3 M61_ M65_) ∧ M_ = M65_))) ∨ ((SP_X10_hasWalker b v Mz (0 : Int32)) ∧ M_ = Mz))
theorem lf_c_X10_goOn_0  (v : Int32) (h4_ : 0 ≤ v.toInt ∧ v.toInt ≤ 7) : 0 ≤ v.toInt ∧ v.toInt < ((8 : Nat) : Int) := by have r_v := rngI v; omega
theorem lf_c_X10_goOn_1 (M_18 : mM) (b : Nat) (v : Int32) (j7_ : Nat) (z17_ : Int32) (z19_ : Int32) (hb : b < 3) (h4_ : 0 ≤ v.toInt ∧ v.toInt ≤ 7) (h8_ : (j7_ : Int) = v.toInt) (h9_ : j7_ < 8) (e18_ : z17_ = M_18.1 (9, b, j7_) 1) (e20_ : z19_ = M_18.1 (9, b, j7_) 2) : -2147483648 ≤ 100 + v.toInt ∧ 100 + v.toInt < 2147483648 := by have r_v := rngI v; have r_z17_ := rngI z17_; have r_z19_ := rngI z19_; subst e18_; subst e20_; omega
theorem lf_c_X10_goOn_2  (v3_18 : Int32) (r11_ : Int32) (hv0_18 : 0 ≤ v3_18.toInt) (h14_ : 0 ≤ r11_.toInt ∧ r11_.toInt ≤ 2) (h16_ : v3_18.toInt < r11_.toInt) : -2147483648 ≤ v3_18.toInt + 1 ∧ v3_18.toInt + 1 < 2147483648 := by have r_v3_18 := rngI v3_18; have r_r11_ := rngI r11_; omega
theorem lf_c_X10_goOn_3  (v3_18 : Int32) (r11_ : Int32) (z54_ : Int32) (hv0_18 : 0 ≤ v3_18.toInt) (h14_ : 0 ≤ r11_.toInt ∧ r11_.toInt ≤ 2) (h16_ : v3_18.toInt < r11_.toInt) (h55_ : z54_.toInt = v3_18.toInt + 1) : 0 ≤ z54_.toInt := by have r_v3_18 := rngI v3_18; have r_r11_ := rngI r11_; have r_z54_ := rngI z54_; omega
theorem lf_c_X10_goOn_4  (v3_18 : Int32) (r11_ : Int32) (z54_ : Int32) (hv0_18 : 0 ≤ v3_18.toInt) (h14_ : 0 ≤ r11_.toInt ∧ r11_.toInt ≤ 2) (h16_ : v3_18.toInt < r11_.toInt) (h55_ : z54_.toInt = v3_18.toInt + 1) : (2147483648 - z54_.toInt).toNat < (2147483648 - v3_18.toInt).toNat := by have r_v3_18 := rngI v3_18; have r_r11_ := rngI r11_; have r_z54_ := rngI z54_; omega
theorem lf_c_X10_goOn_5    : 0 ≤ (0 : Int32).toInt := by have q0 := li_0; omega
set_option maxHeartbeats 4000000 in
set_option maxRecDepth 100000 in
theorem c_X10_goOn (l : Launch) (G : va_G) (cy : Nat → ClassId) (ad : rf → Nat) (d : Nat) (b : Nat) (v : Int32) (Mz : mM) (hIz : Inv Mz) (hb : b < 3) : WP CC l G cy ad yX10_goOn cX10_goOn 5 none (d + 2) 0 [(0, vR (10, b, 0)), (1, vI v)] [] Mz (fun r M' => Inv M' ∧ FR (S_c_X10_goOn b) Mz M' ∧ (True) ∧ SP_X10_goOn b v Mz M') := by
  have hFz : FR (S_c_X10_goOn b) Mz Mz := FR.self
  refine w_aload_n dX10_goOn_0 rfl 0 rfl ?_
  refine w_iload_n dX10_goOn_1 rfl 1 rfl ?_
  refine w_callV (as := [vI v]) (rest := []) (c_X10_hasWalker l G cy ad (d + 1) b v Mz hIz hb) kV_X10_hasWalker (by decide +kernel) (Nat.le_of_ble_eq_true rfl) m_847 rfl rfl rfl (ic_10 hb) rfl rfl (by decide) (Nat.le_of_ble_eq_true rfl) dX10_goOn_2 (fun r1_ M2_ q3_ => ?_)
  obtain ⟨rfl, h4_, hs5_⟩ := q3_
  rcases h4_ with ⟨rfl, h4_⟩ | rfl
  · refine w_if_ne (tgt := 9) dX10_goOn_5 (by decide) li_1 (fun h6_ => ?_) (fun h9 => (absurd h9 (by decide)))
    refine w_aload_n dX10_goOn_9 rfl 0 rfl ?_
    refine w_getR (c' := (42, b, 0)) fl_RX10_46 rfl rfl (ic_10 hb) dX10_goOn_10 rfl ?_
    refine w_iload_n dX10_goOn_13 rfl 1 rfl ?_
    refine w_aald rfl rfl rfl (fun _ => rfl) (ic_42 hb) (rfl : v.toInt = v.toInt) (lf_c_X10_goOn_0 v h4_) dX10_goOn_14 (fun j7_ h8_ h9_ => ?_)
    refine w_astore_n (ls' := [(2, vR (9, b, j7_)), (0, vR (10, b, 0)), (1, vI v)]) dX10_goOn_15 rfl (by decide) rfl ?_
    refine w_iconst (v := 0) dX10_goOn_16 (by decide) ?_
    refine w_istore_n (ls' := [(3, vI 0), (2, vR (9, b, j7_)), (0, vR (10, b, 0)), (1, vI v)]) dX10_goOn_17 rfl (by decide) rfl ?_
    have lp10_ : ∀ (nn_18 : Nat) (M_18 : mM) (hI_18 : Inv M_18) (hF_18 : FR (S_c_X10_goOn b) Mz M_18) (v3_18 : Int32) (hv0_18 : 0 ≤ v3_18.toInt) (hL_18 : RCH (fun x_ y_ => ST_X10_goOn_18 b v Mz j7_ x_.1 x_.2 y_.1 y_.2) ((0 : Int32), Mz) (v3_18, M_18)), (2147483648 - v3_18.toInt).toNat < nn_18 → WP CC l G cy ad yX10_goOn cX10_goOn 5 none (d + 2) 18 [(3, vI v3_18), (2, vR (9, b, j7_)), (0, vR (10, b, 0)), (1, vI v)] [] M_18 (fun r M' => Inv M' ∧ FR (S_c_X10_goOn b) Mz M' ∧ (True) ∧ SP_X10_goOn b v Mz M') := by
      intro nn_18
      induction nn_18 with
      | zero => intro M_18 hI_18 hF_18 v3_18 hv0_18 hL_18 hm_18; exact absurd hm_18 (Nat.not_lt_zero _)
      | succ nn_18 ih_18 =>
        intro M_18 hI_18 hF_18 v3_18 hv0_18 hL_18 hm_18
        refine w_iload_n dX10_goOn_18 rfl 0 rfl ?_
        refine w_aload_n dX10_goOn_19 rfl 1 rfl ?_
        refine w_callV (as := []) (rest := [vI v3_18]) (c_X9_speed l G cy ad (d + 1) b j7_ M_18 hI_18 hb h9_) kV_X9_speed (by decide +kernel) (Nat.le_of_ble_eq_true rfl) m_1061 rfl rfl rfl (ic_9 hb h9_) rfl rfl (by decide) (Nat.le_of_ble_eq_true rfl) dX10_goOn_20 (fun r11_ M12_ q13_ => ?_)
        obtain ⟨rfl, h14_, hs15_⟩ := q13_
        refine w_icmp_ge (tgt := 107) dX10_goOn_23 (by decide) (rfl : v3_18.toInt = v3_18.toInt) (rfl : r11_.toInt = r11_.toInt) (fun h16_ => ?_) (fun h16_ => ?_)
        · exact w_vret rfl dX10_goOn_107 ⟨hI_18, hF_18, trivial, (Or.inl ⟨hs5_, h4_, j7_, h8_, h9_, v3_18, hv0_18, M_18, hL_18, hI_18, hF_18, r11_, hs15_, h14_, (Or.inl ⟨h16_, rfl⟩)⟩)⟩
        · refine w_aload_n dX10_goOn_26 rfl 1 rfl ?_
          refine w_getI fl_RX10_109 rfl rfl (ic_9 hb h9_) dX10_goOn_27 (fun z17_ e18_ => ?_)
          refine w_aload_n dX10_goOn_30 rfl 1 rfl ?_
          refine w_getI fl_RX10_119 rfl rfl (ic_9 hb h9_) dX10_goOn_31 (fun z19_ e20_ => ?_)
          refine w_iconst (v := 1) dX10_goOn_34 (by decide) ?_
          refine w_callS (as := [vI z17_, vI z19_, vI 1]) (rest := []) (c_X7_cellFrom l G cy ad d z17_ z19_ 1 M_18 hI_18) kS_X7_cellFrom (by decide +kernel) (Nat.le_of_ble_eq_true rfl) m_849 rfl rfl (by decide) (Nat.le_of_ble_eq_true rfl) dX10_goOn_35 (fun r21_ M22_ q23_ => ?_)
          obtain ⟨rfl, h24_, hs25_⟩ := q23_
          refine w_istore (ls' := [(4, vI r21_), (3, vI v3_18), (2, vR (9, b, j7_)), (0, vR (10, b, 0)), (1, vI v)]) dX10_goOn_38 (by decide) rfl ?_
          refine w_aload_n dX10_goOn_40 rfl 3 rfl ?_
          refine w_getR (c' := (7, b, 0)) fl_RX10_10 rfl rfl (ic_10 hb) dX10_goOn_41 rfl ?_
          refine w_iload dX10_goOn_44 0 rfl ?_
          refine w_callV (as := [vI r21_]) (rest := []) (c_X7_isFree l G cy ad d b r21_ M_18 hI_18 hb) kV_X7_isFree (by decide +kernel) (Nat.le_of_ble_eq_true rfl) m_1062 rfl rfl rfl (ic_7 hb) rfl rfl (by decide) (Nat.le_of_ble_eq_true rfl) dX10_goOn_46 (fun r26_ M27_ q28_ => ?_)
          obtain ⟨rfl, h29_, hs30_⟩ := q28_
          rcases h29_ with ⟨rfl, h29_⟩ | rfl
          · refine w_if_ne (tgt := 70) dX10_goOn_49 (by decide) li_1 (fun h31_ => ?_) (fun h9 => (absurd h9 (by decide)))
            refine w_aload_n dX10_goOn_70 rfl 3 rfl ?_
            refine w_getR (c' := (7, b, 0)) fl_RX10_10 rfl rfl (ic_10 hb) dX10_goOn_71 rfl ?_
            refine w_aload_n dX10_goOn_74 rfl 2 rfl ?_
            refine w_getI fl_RX10_109 rfl rfl (ic_9 hb h9_) dX10_goOn_75 (fun z32_ e33_ => ?_)
            obtain rfl : z17_ = z32_ := e18_.trans e33_.symm
            refine w_iconst (v := (-1)) dX10_goOn_78 (by decide) ?_
            refine w_callVv (as := [vI z17_, vI (-1)]) (rest := []) (c_X7_settle l G cy ad d b z17_ (-1) M_18 hI_18 hb) kV_X7_settle (by decide +kernel) (Nat.le_of_ble_eq_true rfl) m_604 rfl rfl rfl (ic_7 hb) rfl rfl (by decide) (Nat.le_of_ble_eq_true rfl) dX10_goOn_79 (fun M34_ q35_ => ?_)
            obtain ⟨hI37_, hF38_, h36_, hs40_⟩ := q35_
            have hF39_ := hF_18.tr hF38_ (fun c k => (fun h => h.elim (fun h => (Or.inl ⟨h.1, h.2⟩)) (fun h => h.elim)))
            refine w_aload_n dX10_goOn_82 rfl 3 rfl ?_
            refine w_getR (c' := (7, b, 0)) fl_RX10_10 rfl rfl (ic_10 hb) dX10_goOn_83 rfl ?_
            refine w_iload dX10_goOn_86 0 rfl ?_
            refine w_bipush (v := 100) dX10_goOn_88 (by decide) ?_
            refine w_iload_n dX10_goOn_90 rfl 4 rfl ?_
            refine w_iaddB dX10_goOn_91 li_100 (rfl : v.toInt = v.toInt) (lf_c_X10_goOn_1 M_18 b v j7_ z17_ z19_ hb h4_ h8_ h9_ e18_ e20_) (fun z41_ h42_ => ?_)
            refine w_callVv (as := [vI r21_, vI z41_]) (rest := []) (c_X7_settle l G cy ad d b r21_ z41_ M34_ hI37_ hb) kV_X7_settle (by decide +kernel) (Nat.le_of_ble_eq_true rfl) m_604 rfl rfl rfl (ic_7 hb) rfl rfl (by decide) (Nat.le_of_ble_eq_true rfl) dX10_goOn_92 (fun M43_ q44_ => ?_)
            obtain ⟨hI46_, hF47_, h45_, hs49_⟩ := q44_
            have hF48_ := hF39_.tr hF47_ (fun c k => (fun h => h.elim (fun h => (Or.inl ⟨h.1, h.2⟩)) (fun h => h.elim)))
            refine w_aload_n dX10_goOn_95 rfl 2 rfl ?_
            refine w_iload dX10_goOn_96 0 rfl ?_
            refine w_putI CC_nd fl_RX10_109 rfl rfl (ic_9 hb h9_) dX10_goOn_98 (fun M50_ hM51_ => ?_)
            have hI52_ := hI46_.put hM51_ (fun h => absurd h (by decide))
            have hF53_ := hF48_.put hM51_ (Or.inr (Or.inl ⟨rfl, rfl, rfl⟩))
            refine w_iincB (j := 1) (f := fun z54_ => [(3, vI z54_), (4, vI r21_), (2, vR (9, b, j7_)), (0, vR (10, b, 0)), (1, vI v)]) dX10_goOn_101 rfl (by decide) (fun _ => rfl) (rfl : v3_18.toInt = v3_18.toInt) li_1 (lf_c_X10_goOn_2 v3_18 r11_ hv0_18 h14_ h16_) (fun z54_ h55_ => ?_)
            refine w_goto (tgt := 18) dX10_goOn_104 (by decide) ?_
            refine w_loc (ls' := [(3, vI z54_), (2, vR (9, b, j7_)), (0, vR (10, b, 0)), (1, vI v)]) [0, 2, 3, 4] rfl ?_
            exact ih_18 M50_ hI52_ hF53_ z54_ (lf_c_X10_goOn_3 v3_18 r11_ z54_ hv0_18 h14_ h16_ h55_) (RCH.tail hL_18 ⟨hv0_18, hI_18, hF_18, r11_, hs15_, h14_, h16_, z17_, e18_, z19_, e20_, r21_, hs25_, h24_, hs30_, h29_, M34_, hI37_, hF38_, hs40_, z41_, h42_, M43_, hI46_, hF47_, hs49_, M50_, hM51_, z54_, h55_, rfl, rfl⟩) (Nat.lt_of_lt_of_le (lf_c_X10_goOn_4 v3_18 r11_ z54_ hv0_18 h14_ h16_ h55_) (Nat.le_of_lt_succ hm_18))
          · refine w_if_ne (tgt := 70) dX10_goOn_49 (by decide) li_0 (fun h9 => (absurd h9 (by decide))) (fun h56_ => ?_)
            refine w_aload_n dX10_goOn_52 rfl 2 rfl ?_
            refine w_dup dX10_goOn_53 rfl ?_
            refine w_getI fl_RX10_66 rfl rfl (ic_9 hb h9_) dX10_goOn_54 (fun z57_ e58_ => ?_)
            refine w_iconst (v := 1) dX10_goOn_57 (by decide) ?_
            refine w_iadd dX10_goOn_58 (fun z59_ h60_ => ?_)
            refine w_putI CC_nd fl_RX10_66 rfl rfl (ic_9 hb h9_) dX10_goOn_59 (fun M61_ hM62_ => ?_)
            have hI63_ := hI_18.put hM62_ (fun h => absurd h (by decide))
            have hF64_ := hF_18.put hM62_ (Or.inr (Or.inr (Or.inl ⟨rfl, rfl, rfl⟩)))
            refine w_aload_n dX10_goOn_62 rfl 2 rfl ?_
            refine w_iload dX10_goOn_63 0 rfl ?_
            refine w_iconst (v := 3) dX10_goOn_65 (by decide) ?_
            refine w_callVv (as := [vI r21_, vI 3]) (rest := []) (c_X9_addYes l G cy ad d b j7_ r21_ 3 M61_ hI63_ hb h9_) kV_X9_addYes (by decide +kernel) (Nat.le_of_ble_eq_true rfl) m_915 rfl rfl rfl (ic_9 hb h9_) rfl rfl (by decide) (Nat.le_of_ble_eq_true rfl) dX10_goOn_66 (fun M65_ q66_ => ?_)
            obtain ⟨hI68_, hF69_, h67_, hs71_⟩ := q66_
            have hF70_ := hF64_.tr hF69_ (fun c k => (fun h => h.elim (fun h => (Or.inr (Or.inr (Or.inr (Or.inl ⟨h.1, h.2.1⟩))))) (fun h => h.elim)))
            exact w_vret rfl dX10_goOn_69 ⟨hI68_, hF70_, trivial, (Or.inl ⟨hs5_, h4_, j7_, h8_, h9_, v3_18, hv0_18, M_18, hL_18, hI_18, hF_18, r11_, hs15_, h14_, (Or.inr ⟨h16_, z17_, e18_, z19_, e20_, r21_, hs25_, h24_, hs30_, z57_, e58_, z59_, h60_, M61_, hM62_, hI63_, M65_, hI68_, hF69_, hs71_, rfl⟩)⟩)⟩
    exact lp10_ _ Mz hIz hFz 0 (lf_c_X10_goOn_5 ) RCH.refl (Nat.lt_succ_self _)
  · refine w_if_ne (tgt := 9) dX10_goOn_5 (by decide) li_0 (fun h9 => (absurd h9 (by decide))) (fun h72_ => ?_)
    exact w_vret rfl dX10_goOn_8 ⟨hIz, hFz, trivial, (Or.inr ⟨hs5_, rfl⟩)⟩
def S_c_X10_letWalkerGo (b : Nat) : rf → Nat → Prop := fun c k => (c.1 = 29 ∧ c.2.1 = b ∧ k = 0) ∨ (c.1 = 29 ∧ c.2.1 = b ∧ k = 1) ∨ (c.1 = 29 ∧ c.2.1 = b ∧ k = 2) ∨ (c.1 = 29 ∧ c.2.1 = b ∧ k = 3) ∨ (c.1 = 29 ∧ c.2.1 = b ∧ k = 4) ∨ (c.1 = 25 ∧ c.2.1 = b ∧ c.2.2 = 2) ∨ (c.1 = 9 ∧ c.2.1 = b ∧ k = 2) ∨ (c.1 = 35 ∧ c.2.1 = b) ∨ (c.1 = 9 ∧ c.2.1 = b ∧ k = 1) ∨ (c.1 = 9 ∧ c.2.1 = b ∧ k = 7) ∨ (c.1 = 40 ∧ c.2.1 = b) ∨ (c.1 = 9 ∧ c.2.1 = b ∧ k = 8) ∨ (c.1 = 25 ∧ c.2.1 = b ∧ c.2.2 = 0) ∨ (c.1 = 25 ∧ c.2.1 = b ∧ c.2.2 = 1) ∨ (c.1 = 41 ∧ c.2.1 = b) ∨ False
def SP_X10_letWalkerGo (b : Nat) (v : Int32) (Mz : mM) (M_ : mM) : Prop := (((SP_X10_hasWalker b v Mz (1 : Int32)) ∧ (0 ≤ v.toInt ∧ v.toInt ≤ 7) ∧ ∃ j7_ : Nat, ((j7_ : Int) = v.toInt) ∧ (j7_ < 8) ∧ ∃ z10_ : Int32, (z10_ = Mz.1 (9, b, j7_) 5) ∧ (((z10_.toInt ≤ 0) ∧ ∃ z13_ : Int32, (z13_ = Mz.1 (9, b, j7_) 2) ∧ ∃ r15_ : Int32, (SP_X9_yardsToFull b j7_ z13_ Mz r15_) ∧ ∃ z22_ : Int32, (z22_ = z13_ + (6 : Int32)) ∧ ∃ z24_ : Int32, (z24_ = z22_ &&& (7 : Int32)) ∧ (0 ≤ z24_.toInt ∧ z24_.toInt < ((2 ^ 3 : Nat) : Int)) ∧ ∃ r27_ : Int32, (SP_X9_yardsToFull b j7_ z24_ Mz r27_) ∧ ∃ z34_ : Int32, (z34_ = z13_ + (2 : Int32)) ∧ ∃ z36_ : Int32, (z36_ = z34_ &&& (7 : Int32)) ∧ (0 ≤ z36_.toInt ∧ z36_.toInt < ((2 ^ 3 : Nat) : Int)) ∧ ∃ r39_ : Int32, (SP_X9_yardsToFull b j7_ z36_ Mz r39_) ∧ ∃ z44_ : Int32, (z44_ = Mz.1 (9, b, j7_) 7) ∧ ∃ z46_ : Int32, (z46_ = Mz.1 (10, b, 0) 7) ∧ ∃ M49_ : mM, (Inv M49_) ∧ (FR (S_c_X2_habitValue b) Mz M49_) ∧ ∃ r48_ : Int32, (SP_X2_habitValue b r15_ r27_ r39_ z44_ z46_ Mz r48_ M49_) ∧ ∃ z56_ : Int32, (z56_ = fmX r48_) ∧ (((¬ z56_.toInt = 0) ∧ (((¬ z56_.toInt = 3) ∧ ∃ M59_ : mM, (Inv M59_) ∧ (FR (S_c_X9_turn b j7_) M49_ M59_) ∧ (SP_X9_turn b j7_ z56_ M49_ M59_) ∧ M_ = M59_) ∨ ((z56_.toInt = 3) ∧ ∃ M66_ : mM, (Inv M66_) ∧ (FR (S_c_X9_turn b j7_) M49_ M66_) ∧ (SP_X9_turn b j7_ (-2) M49_ M66_) ∧ M_ = M66_))) ∨ ((z56_.toInt = 0) ∧ ∃ M73_ : mM, (Inv M73_) ∧ (FR (S_c_X10_goOn b) M49_ M73_) ∧ (SP_X10_goOn b v M49_ M73_) ∧ M_ = M73_))) ∨ ((0 < z10_.toInt) ∧ ∃ z80_ : Int32, (z80_ = Mz.1 (10, b, 0) 7) ∧ ∃ z82_ : Int32, (z82_ = z80_ - z80_ / z10_ * z10_) ∧ (((¬ z82_.toInt = 0) ∧ ∃ z85_ : Int32, (z85_ = Mz.1 (9, b, j7_) 2) ∧ ∃ r87_ : Int32, (SP_X9_yardsToFull b j7_ z85_ Mz r87_) ∧ ∃ z94_ : Int32, (z94_ = z85_ + (6 : Int32)) ∧ ∃ z96_ : Int32, (z96_ = z94_ &&& (7 : Int32)) ∧ (0 ≤ z96_.toInt ∧ z96_.toInt < ((2 ^ 3 : Nat) : Int)) ∧ ∃ r99_ : Int32, (SP_X9_yardsToFull b j7_ z96_ Mz r99_) ∧ ∃ z106_ : Int32, (z106_ = z85_ + (2 : Int32)) ∧ ∃ z108_ : Int32, (z108_ = z106_ &&& (7 : Int32)) ∧ (0 ≤ z108_.toInt ∧ z108_.toInt < ((2 ^ 3 : Nat) : Int)) ∧ ∃ r111_ : Int32, (SP_X9_yardsToFull b j7_ z108_ Mz r111_) ∧ ∃ z116_ : Int32, (z116_ = Mz.1 (9, b, j7_) 7) ∧ ∃ M121_ : mM, (Inv M121_) ∧ (FR (S_c_X2_habitValue b) Mz M121_) ∧ ∃ r120_ : Int32, (SP_X2_habitValue b r87_ r99_ r111_ z116_ z80_ Mz r120_ M121_) ∧ ∃ z128_ : Int32, (z128_ = fmX r120_) ∧ (((¬ z128_.toInt = 0) ∧ (((¬ z128_.toInt = 3) ∧ ∃ M131_ : mM, (Inv M131_) ∧ (FR (S_c_X9_turn b j7_) M121_ M131_) ∧ (SP_X9_turn b j7_ z128_ M121_ M131_) ∧ M_ = M131_) ∨ ((z128_.toInt = 3) ∧ ∃ M138_ : mM, (Inv M138_) ∧ (FR (S_c_X9_turn b j7_) M121_ M138_) ∧ (SP_X9_turn b j7_ (-2) M121_ M138_) ∧ M_ = M138_))) ∨ ((z128_.toInt = 0) ∧ ∃ M145_ : mM, (Inv M145_) ∧ (FR (S_c_X10_goOn b) M121_ M145_) ∧ (SP_X10_goOn b v M121_ M145_) ∧ M_ = M145_))) ∨ ((z82_.toInt = 0) ∧ ∃ r152_ : Int32, (SP_X9_isOf b j7_ 1 Mz r152_) ∧ ((0 ≤ r152_.toInt ∧ r152_.toInt ≤ 1)) ∧ (((r152_.toInt = 0) ∧ ∃ z158_ : Int32, (z158_ = Mz.1 (9, b, j7_) 2) ∧ ∃ r160_ : Int32, (SP_X9_yardsToFull b j7_ z158_ Mz r160_) ∧ ∃ z167_ : Int32, (z167_ = z158_ + (6 : Int32)) ∧ ∃ z169_ : Int32, (z169_ = z167_ &&& (7 : Int32)) ∧ (0 ≤ z169_.toInt ∧ z169_.toInt < ((2 ^ 3 : Nat) : Int)) ∧ ∃ r172_ : Int32, (SP_X9_yardsToFull b j7_ z169_ Mz r172_) ∧ ∃ z179_ : Int32, (z179_ = z158_ + (2 : Int32)) ∧ ∃ z181_ : Int32, (z181_ = z179_ &&& (7 : Int32)) ∧ (0 ≤ z181_.toInt ∧ z181_.toInt < ((2 ^ 3 : Nat) : Int)) ∧ ∃ r184_ : Int32, (SP_X9_yardsToFull b j7_ z181_ Mz r184_) ∧ ∃ z189_ : Int32, (z189_ = Mz.1 (9, b, j7_) 7) ∧ ∃ M194_ : mM, (Inv M194_) ∧ (FR (S_c_X2_habitValue b) Mz M194_) ∧ ∃ r193_ : Int32, (SP_X2_habitValue b r160_ r172_ r184_ z189_ z80_ Mz r193_ M194_) ∧ ∃ z201_ : Int32, (z201_ = fmX r193_) ∧ (((¬ z201_.toInt = 0) ∧ (((¬ z201_.toInt = 3) ∧ ∃ M204_ : mM, (Inv M204_) ∧ (FR (S_c_X9_turn b j7_) M194_ M204_) ∧ (SP_X9_turn b j7_ z201_ M194_ M204_) ∧ M_ = M204_) ∨ ((z201_.toInt = 3) ∧ ∃ M211_ : mM, (Inv M211_) ∧ (FR (S_c_X9_turn b j7_) M194_ M211_) ∧ (SP_X9_turn b j7_ (-2) M194_ M211_) ∧ M_ = M211_))) ∨ ((z201_.toInt = 0) ∧ ∃ M218_ : mM, (Inv M218_) ∧ (FR (S_c_X10_goOn b) M194_ M218_) ∧ (SP_X10_goOn b v M194_ M218_) ∧ M_ = M218_))) ∨ ((¬ r152_.toInt = 0) ∧ ∃ M226_ : mM, (Inv M226_) ∧ (FR (S_c_X10_makeClick b) Mz M226_) ∧ ∃ r225_ : Int32, (SP_X10_makeClick b v Mz r225_ M226_) ∧ ∃ z233_ : Int32, (z233_ = M226_.1 (9, b, j7_) 2) ∧ ∃ r235_ : Int32, (SP_X9_yardsToFull b j7_ z233_ M226_ r235_) ∧ ∃ z242_ : Int32, (z242_ = z233_ + (6 : Int32)) ∧ ∃ z244_ : Int32, (z244_ = z242_ &&& (7 : Int32)) ∧ (0 ≤ z244_.toInt ∧ z244_.toInt < ((2 ^ 3 : Nat) : Int)) ∧ ∃ r247_ : Int32, (SP_X9_yardsToFull b j7_ z244_ M226_ r247_) ∧ ∃ z254_ : Int32, (z254_ = z233_ + (2 : Int32)) ∧ ∃ z256_ : Int32, (z256_ = z254_ &&& (7 : Int32)) ∧ (0 ≤ z256_.toInt ∧ z256_.toInt < ((2 ^ 3 : Nat) : Int)) ∧ ∃ r259_ : Int32, (SP_X9_yardsToFull b j7_ z256_ M226_ r259_) ∧ ∃ z264_ : Int32, (z264_ = M226_.1 (9, b, j7_) 7) ∧ ∃ z266_ : Int32, (z266_ = M226_.1 (10, b, 0) 7) ∧ ∃ M269_ : mM, (Inv M269_) ∧ (FR (S_c_X2_habitValue b) M226_ M269_) ∧ ∃ r268_ : Int32, (SP_X2_habitValue b r235_ r247_ r259_ z264_ z266_ M226_ r268_ M269_) ∧ ∃ z276_ : Int32, (z276_ = fmX r268_) ∧ (((¬ z276_.toInt = 0) ∧ (((¬ z276_.toInt = 3) ∧ ∃ M279_ : mM, (Inv M279_) ∧ (FR (S_c_X9_turn b j7_) M269_ M279_) ∧ (SP_X9_turn b j7_ z276_ M269_ M279_) ∧ M_ = M279_) ∨ ((z276_.toInt = 3) ∧ ∃ M286_ : mM, (Inv M286_) ∧ (FR (S_c_X9_turn b j7_) M269_ M286_) ∧ (SP_X9_turn b j7_ (-2) M269_ M286_) ∧ M_ = M286_))) ∨ ((z276_.toInt = 0) ∧ ∃ M293_ : mM, (Inv M293_) ∧ (FR (S_c_X10_goOn b) M269_ M293_) ∧ (SP_X10_goOn b v M269_ M293_) ∧ M_ = M293_))))))))) ∨ ((SP_X10_hasWalker b v Mz (0 : Int32)) ∧ M_ = Mz))
theorem lf_c_X10_letWalkerGo_0  (v : Int32) (h4_ : 0 ≤ v.toInt ∧ v.toInt ≤ 7) : 0 ≤ v.toInt ∧ v.toInt < ((8 : Nat) : Int) := by have r_v := rngI v; omega
theorem lf_c_X10_letWalkerGo_1 (Mz : mM) (b : Nat) (v : Int32) (j7_ : Nat) (z10_ : Int32) (z80_ : Int32) (hb : b < 3) (h4_ : 0 ≤ v.toInt ∧ v.toInt ≤ 7) (h8_ : (j7_ : Int) = v.toInt) (h9_ : j7_ < 8) (e11_ : z10_ = Mz.1 (9, b, j7_) 5) (h12_ : 0 < z10_.toInt) (e81_ : z80_ = Mz.1 (10, b, 0) 7) : ¬ z10_ = 0 := by have r_v := rngI v; have r_z10_ := rngI z10_; have r_z80_ := rngI z80_; intro h9; subst h9; simp at *; try omega
set_option maxHeartbeats 4000000 in
set_option maxRecDepth 100000 in
theorem c_X10_letWalkerGo (l : Launch) (G : va_G) (cy : Nat → ClassId) (ad : rf → Nat) (d : Nat) (b : Nat) (v : Int32) (Mz : mM) (hIz : Inv Mz) (hb : b < 3) : WP CC l G cy ad yX10_letWalkerGo cX10_letWalkerGo 8 none (d + 5) 0 [(0, vR (10, b, 0)), (1, vI v)] [] Mz (fun r M' => Inv M' ∧ FR (S_c_X10_letWalkerGo b) Mz M' ∧ (True) ∧ SP_X10_letWalkerGo b v Mz M') := by
  have hFz : FR (S_c_X10_letWalkerGo b) Mz Mz := FR.self
  refine w_aload_n dX10_letWalkerGo_0 rfl 0 rfl ?_
  refine w_iload_n dX10_letWalkerGo_1 rfl 1 rfl ?_
  refine w_callV (as := [vI v]) (rest := []) (c_X10_hasWalker l G cy ad (d + 4) b v Mz hIz hb) kV_X10_hasWalker (by decide +kernel) (Nat.le_of_ble_eq_true rfl) m_847 rfl rfl rfl (ic_10 hb) rfl rfl (by decide) (Nat.le_of_ble_eq_true rfl) dX10_letWalkerGo_2 (fun r1_ M2_ q3_ => ?_)
  obtain ⟨rfl, h4_, hs5_⟩ := q3_
  rcases h4_ with ⟨rfl, h4_⟩ | rfl
  · refine w_if_ne (tgt := 9) dX10_letWalkerGo_5 (by decide) li_1 (fun h6_ => ?_) (fun h9 => (absurd h9 (by decide)))
    refine w_aload_n dX10_letWalkerGo_9 rfl 0 rfl ?_
    refine w_getR (c' := (42, b, 0)) fl_RX10_46 rfl rfl (ic_10 hb) dX10_letWalkerGo_10 rfl ?_
    refine w_iload_n dX10_letWalkerGo_13 rfl 1 rfl ?_
    refine w_aald rfl rfl rfl (fun _ => rfl) (ic_42 hb) (rfl : v.toInt = v.toInt) (lf_c_X10_letWalkerGo_0 v h4_) dX10_letWalkerGo_14 (fun j7_ h8_ h9_ => ?_)
    refine w_astore_n (ls' := [(2, vR (9, b, j7_)), (0, vR (10, b, 0)), (1, vI v)]) dX10_letWalkerGo_15 rfl (by decide) rfl ?_
    refine w_aload_n dX10_letWalkerGo_16 rfl 0 rfl ?_
    refine w_getI fl_RX10_151 rfl rfl (ic_9 hb h9_) dX10_letWalkerGo_17 (fun z10_ e11_ => ?_)
    refine w_istore_n (ls' := [(3, vI z10_), (2, vR (9, b, j7_)), (0, vR (10, b, 0)), (1, vI v)]) dX10_letWalkerGo_20 rfl (by decide) rfl ?_
    refine w_iload_n dX10_letWalkerGo_21 rfl 0 rfl ?_
    refine w_if_le (tgt := 48) dX10_letWalkerGo_22 (by decide) (rfl : z10_.toInt = z10_.toInt) (fun h12_ => ?_) (fun h12_ => ?_)
    · refine w_aload_n dX10_letWalkerGo_48 rfl 1 rfl ?_
      refine w_aload_n dX10_letWalkerGo_49 rfl 1 rfl ?_
      refine w_getI fl_RX10_119 rfl rfl (ic_9 hb h9_) dX10_letWalkerGo_50 (fun z13_ e14_ => ?_)
      refine w_callV (as := [vI z13_]) (rest := []) (c_X9_yardsToFull l G cy ad (d + 2) b j7_ z13_ Mz hIz hb h9_) kV_X9_yardsToFull (by decide +kernel) (Nat.le_of_ble_eq_true rfl) m_1045 rfl rfl rfl (ic_9 hb h9_) rfl rfl (by decide) (Nat.le_of_ble_eq_true rfl) dX10_letWalkerGo_53 (fun r15_ M16_ q17_ => ?_)
      obtain ⟨rfl, h18_, hs19_⟩ := q17_
      refine w_istore (ls' := [(4, vI r15_), (3, vI z10_), (2, vR (9, b, j7_)), (0, vR (10, b, 0)), (1, vI v)]) dX10_letWalkerGo_56 (by decide) rfl ?_
      refine w_aload_n dX10_letWalkerGo_58 rfl 2 rfl ?_
      refine w_aload_n dX10_letWalkerGo_59 rfl 2 rfl ?_
      refine w_getI fl_RX10_119 rfl rfl (ic_9 hb h9_) dX10_letWalkerGo_60 (fun z20_ e21_ => ?_)
      obtain rfl : z13_ = z20_ := e14_.trans e21_.symm
      refine w_bipush (v := 6) dX10_letWalkerGo_63 (by decide) ?_
      refine w_iadd dX10_letWalkerGo_65 (fun z22_ h23_ => ?_)
      refine w_bipush (v := 7) dX10_letWalkerGo_66 (by decide) ?_
      refine w_iand dX10_letWalkerGo_68 (fun z24_ h26_ => ?_)
      have h25_ : 0 ≤ z24_.toInt ∧ z24_.toInt < ((2 ^ 3 : Nat) : Int) := by rw [h26_]; exact andI _ 3 (by decide) (by decide)
      refine w_callV (as := [vI z24_]) (rest := []) (c_X9_yardsToFull l G cy ad (d + 2) b j7_ z24_ Mz hIz hb h9_) kV_X9_yardsToFull (by decide +kernel) (Nat.le_of_ble_eq_true rfl) m_1045 rfl rfl rfl (ic_9 hb h9_) rfl rfl (by decide) (Nat.le_of_ble_eq_true rfl) dX10_letWalkerGo_69 (fun r27_ M28_ q29_ => ?_)
      obtain ⟨rfl, h30_, hs31_⟩ := q29_
      refine w_istore (ls' := [(5, vI r27_), (4, vI r15_), (3, vI z10_), (2, vR (9, b, j7_)), (0, vR (10, b, 0)), (1, vI v)]) dX10_letWalkerGo_72 (by decide) rfl ?_
      refine w_aload_n dX10_letWalkerGo_74 rfl 3 rfl ?_
      refine w_aload_n dX10_letWalkerGo_75 rfl 3 rfl ?_
      refine w_getI fl_RX10_119 rfl rfl (ic_9 hb h9_) dX10_letWalkerGo_76 (fun z32_ e33_ => ?_)
      obtain rfl : z13_ = z32_ := e14_.trans e33_.symm
      refine w_iconst (v := 2) dX10_letWalkerGo_79 (by decide) ?_
      refine w_iadd dX10_letWalkerGo_80 (fun z34_ h35_ => ?_)
      refine w_bipush (v := 7) dX10_letWalkerGo_81 (by decide) ?_
      refine w_iand dX10_letWalkerGo_83 (fun z36_ h38_ => ?_)
      have h37_ : 0 ≤ z36_.toInt ∧ z36_.toInt < ((2 ^ 3 : Nat) : Int) := by rw [h38_]; exact andI _ 3 (by decide) (by decide)
      refine w_callV (as := [vI z36_]) (rest := []) (c_X9_yardsToFull l G cy ad (d + 2) b j7_ z36_ Mz hIz hb h9_) kV_X9_yardsToFull (by decide +kernel) (Nat.le_of_ble_eq_true rfl) m_1045 rfl rfl rfl (ic_9 hb h9_) rfl rfl (by decide) (Nat.le_of_ble_eq_true rfl) dX10_letWalkerGo_84 (fun r39_ M40_ q41_ => ?_)
      obtain ⟨rfl, h42_, hs43_⟩ := q41_
      refine w_istore (ls' := [(6, vI r39_), (5, vI r27_), (4, vI r15_), (3, vI z10_), (2, vR (9, b, j7_)), (0, vR (10, b, 0)), (1, vI v)]) dX10_letWalkerGo_87 (by decide) rfl ?_
      refine w_aload_n dX10_letWalkerGo_89 rfl 5 rfl ?_
      refine w_getR (c' := (2, b, 0)) fl_RX10_19 rfl rfl (ic_10 hb) dX10_letWalkerGo_90 rfl ?_
      refine w_iload dX10_letWalkerGo_93 2 rfl ?_
      refine w_iload dX10_letWalkerGo_95 1 rfl ?_
      refine w_iload dX10_letWalkerGo_97 0 rfl ?_
      refine w_aload_n dX10_letWalkerGo_99 rfl 4 rfl ?_
      refine w_getI fl_RX10_66 rfl rfl (ic_9 hb h9_) dX10_letWalkerGo_100 (fun z44_ e45_ => ?_)
      refine w_aload_n dX10_letWalkerGo_103 rfl 5 rfl ?_
      refine w_getI fl_RX10_54 rfl rfl (ic_10 hb) dX10_letWalkerGo_104 (fun z46_ e47_ => ?_)
      refine w_callV (as := [vI r15_, vI r27_, vI r39_, vI z44_, vI z46_]) (rest := []) (c_X2_habitValue l G cy ad (d + 3) b r15_ r27_ r39_ z44_ z46_ Mz hIz hb) kV_X2_habitValue (by decide +kernel) (Nat.le_of_ble_eq_true rfl) m_1050 rfl rfl rfl (ic_2 hb) rfl rfl (by decide) (Nat.le_of_ble_eq_true rfl) dX10_letWalkerGo_107 (fun r48_ M49_ q50_ => ?_)
      obtain ⟨hI52_, hF53_, h51_, hs55_⟩ := q50_
      have hF54_ := hFz.tr hF53_ (fun c k => (fun h => h.elim (fun h => (Or.inl ⟨h.1, h.2.1, h.2.2⟩)) (fun h => h.elim (fun h => (Or.inr (Or.inl ⟨h.1, h.2.1, h.2.2⟩))) (fun h => h.elim (fun h => (Or.inr (Or.inr (Or.inl ⟨h.1, h.2.1, h.2.2⟩)))) (fun h => h.elim (fun h => (Or.inr (Or.inr (Or.inr (Or.inl ⟨h.1, h.2.1, h.2.2⟩))))) (fun h => h.elim (fun h => (Or.inr (Or.inr (Or.inr (Or.inr (Or.inl ⟨h.1, h.2.1, h.2.2⟩)))))) (fun h => h.elim (fun h => (Or.inr (Or.inr (Or.inr (Or.inr (Or.inr (Or.inl ⟨h.1, h.2.1, h.2.2⟩))))))) (fun h => h.elim))))))))
      refine w_iconst (v := 4) dX10_letWalkerGo_110 (by decide) ?_
      refine w_floorMod4 m_1054 m_1055 m_86 m_1056 (Nat.le_of_ble_eq_true rfl) (by omega) dX10_letWalkerGo_111 (fun z56_ z56_h => ?_)
      refine w_istore (ls' := [(7, vI z56_), (6, vI r39_), (5, vI r27_), (4, vI r15_), (3, vI z10_), (2, vR (9, b, j7_)), (0, vR (10, b, 0)), (1, vI v)]) dX10_letWalkerGo_114 (by decide) rfl ?_
      refine w_iload dX10_letWalkerGo_116 0 rfl ?_
      refine w_if_ne (tgt := 129) dX10_letWalkerGo_118 (by decide) (rfl : z56_.toInt = z56_.toInt) (fun h57_ => ?_) (fun h57_ => ?_)
      · refine w_aload_n dX10_letWalkerGo_129 rfl 5 rfl ?_
        refine w_iload dX10_letWalkerGo_130 0 rfl ?_
        refine w_iconst (v := 3) dX10_letWalkerGo_132 (by decide) ?_
        refine w_icmp_ne (tgt := 141) dX10_letWalkerGo_133 (by decide) (rfl : z56_.toInt = z56_.toInt) li_3 (fun h58_ => ?_) (fun h58_ => ?_)
        · refine w_iload dX10_letWalkerGo_141 0 rfl ?_
          refine w_callVv (as := [vI z56_]) (rest := []) (c_X9_turn l G cy ad (d + 4) b j7_ z56_ M49_ hI52_ hb h9_) kV_X9_turn (by decide +kernel) (Nat.le_of_ble_eq_true rfl) m_1063 rfl rfl rfl (ic_9 hb h9_) rfl rfl (by decide) (Nat.le_of_ble_eq_true rfl) dX10_letWalkerGo_143 (fun M59_ q60_ => ?_)
          obtain ⟨hI62_, hF63_, h61_, hs65_⟩ := q60_
          have hF64_ := hF54_.tr hF63_ (fun c k => (fun h => h.elim (fun h => (Or.inr (Or.inr (Or.inr (Or.inr (Or.inr (Or.inr (Or.inl ⟨h.1, h.2.1, h.2.2.2⟩)))))))) (fun h => h.elim)))
          exact w_vret rfl dX10_letWalkerGo_146 ⟨hI62_, hF64_, trivial, (Or.inl ⟨hs5_, h4_, j7_, h8_, h9_, z10_, e11_, (Or.inl ⟨h12_, z13_, e14_, r15_, hs19_, z22_, h23_, z24_, h26_, h25_, r27_, hs31_, z34_, h35_, z36_, h38_, h37_, r39_, hs43_, z44_, e45_, z46_, e47_, M49_, hI52_, hF53_, r48_, hs55_, z56_, z56_h, (Or.inl ⟨h57_, (Or.inl ⟨h58_, M59_, hI62_, hF63_, hs65_, rfl⟩)⟩)⟩)⟩)⟩
        · refine w_bipush (v := (-2)) dX10_letWalkerGo_136 (by decide) ?_
          refine w_goto (tgt := 143) dX10_letWalkerGo_138 (by decide) ?_
          refine w_callVv (as := [vI (-2)]) (rest := []) (c_X9_turn l G cy ad (d + 4) b j7_ (-2) M49_ hI52_ hb h9_) kV_X9_turn (by decide +kernel) (Nat.le_of_ble_eq_true rfl) m_1063 rfl rfl rfl (ic_9 hb h9_) rfl rfl (by decide) (Nat.le_of_ble_eq_true rfl) dX10_letWalkerGo_143 (fun M66_ q67_ => ?_)
          obtain ⟨hI69_, hF70_, h68_, hs72_⟩ := q67_
          have hF71_ := hF54_.tr hF70_ (fun c k => (fun h => h.elim (fun h => (Or.inr (Or.inr (Or.inr (Or.inr (Or.inr (Or.inr (Or.inl ⟨h.1, h.2.1, h.2.2.2⟩)))))))) (fun h => h.elim)))
          exact w_vret rfl dX10_letWalkerGo_146 ⟨hI69_, hF71_, trivial, (Or.inl ⟨hs5_, h4_, j7_, h8_, h9_, z10_, e11_, (Or.inl ⟨h12_, z13_, e14_, r15_, hs19_, z22_, h23_, z24_, h26_, h25_, r27_, hs31_, z34_, h35_, z36_, h38_, h37_, r39_, hs43_, z44_, e45_, z46_, e47_, M49_, hI52_, hF53_, r48_, hs55_, z56_, z56_h, (Or.inl ⟨h57_, (Or.inr ⟨h58_, M66_, hI69_, hF70_, hs72_, rfl⟩)⟩)⟩)⟩)⟩
      · refine w_aload_n dX10_letWalkerGo_121 rfl 6 rfl ?_
        refine w_iload_n dX10_letWalkerGo_122 rfl 7 rfl ?_
        refine w_callVv (as := [vI v]) (rest := []) (c_X10_goOn l G cy ad (d + 2) b v M49_ hI52_ hb) kV_X10_goOn (by decide +kernel) (Nat.le_of_ble_eq_true rfl) m_1057 rfl rfl rfl (ic_10 hb) rfl rfl (by decide) (Nat.le_of_ble_eq_true rfl) dX10_letWalkerGo_123 (fun M73_ q74_ => ?_)
        obtain ⟨hI76_, hF77_, h75_, hs79_⟩ := q74_
        have hF78_ := hF54_.tr hF77_ (fun c k => (fun h => h.elim (fun h => (Or.inr (Or.inr (Or.inr (Or.inr (Or.inr (Or.inr (Or.inr (Or.inl ⟨h.1, h.2⟩))))))))) (fun h => h.elim (fun h => (Or.inr (Or.inr (Or.inr (Or.inr (Or.inr (Or.inr (Or.inr (Or.inr (Or.inl ⟨h.1, h.2.1, h.2.2⟩)))))))))) (fun h => h.elim (fun h => (Or.inr (Or.inr (Or.inr (Or.inr (Or.inr (Or.inr (Or.inr (Or.inr (Or.inr (Or.inl ⟨h.1, h.2.1, h.2.2⟩))))))))))) (fun h => h.elim (fun h => (Or.inr (Or.inr (Or.inr (Or.inr (Or.inr (Or.inr (Or.inr (Or.inr (Or.inr (Or.inr (Or.inl ⟨h.1, h.2⟩)))))))))))) (fun h => h.elim))))))
        refine w_goto (tgt := 146) dX10_letWalkerGo_126 (by decide) ?_
        exact w_vret rfl dX10_letWalkerGo_146 ⟨hI76_, hF78_, trivial, (Or.inl ⟨hs5_, h4_, j7_, h8_, h9_, z10_, e11_, (Or.inl ⟨h12_, z13_, e14_, r15_, hs19_, z22_, h23_, z24_, h26_, h25_, r27_, hs31_, z34_, h35_, z36_, h38_, h37_, r39_, hs43_, z44_, e45_, z46_, e47_, M49_, hI52_, hF53_, r48_, hs55_, z56_, z56_h, (Or.inr ⟨h57_, M73_, hI76_, hF77_, hs79_, rfl⟩)⟩)⟩)⟩
    · refine w_aload_n dX10_letWalkerGo_25 rfl 2 rfl ?_
      refine w_getI fl_RX10_54 rfl rfl (ic_10 hb) dX10_letWalkerGo_26 (fun z80_ e81_ => ?_)
      refine w_iload_n dX10_letWalkerGo_29 rfl 0 rfl ?_
      refine w_irem dX10_letWalkerGo_30 (lf_c_X10_letWalkerGo_1 Mz b v j7_ z10_ z80_ hb h4_ h8_ h9_ e11_ h12_ e81_) (fun z82_ h83_ => ?_)
      refine w_if_ne (tgt := 48) dX10_letWalkerGo_31 (by decide) (rfl : z82_.toInt = z82_.toInt) (fun h84_ => ?_) (fun h84_ => ?_)
      · refine w_aload_n dX10_letWalkerGo_48 rfl 1 rfl ?_
        refine w_aload_n dX10_letWalkerGo_49 rfl 1 rfl ?_
        refine w_getI fl_RX10_119 rfl rfl (ic_9 hb h9_) dX10_letWalkerGo_50 (fun z85_ e86_ => ?_)
        refine w_callV (as := [vI z85_]) (rest := []) (c_X9_yardsToFull l G cy ad (d + 2) b j7_ z85_ Mz hIz hb h9_) kV_X9_yardsToFull (by decide +kernel) (Nat.le_of_ble_eq_true rfl) m_1045 rfl rfl rfl (ic_9 hb h9_) rfl rfl (by decide) (Nat.le_of_ble_eq_true rfl) dX10_letWalkerGo_53 (fun r87_ M88_ q89_ => ?_)
        obtain ⟨rfl, h90_, hs91_⟩ := q89_
        refine w_istore (ls' := [(4, vI r87_), (3, vI z10_), (2, vR (9, b, j7_)), (0, vR (10, b, 0)), (1, vI v)]) dX10_letWalkerGo_56 (by decide) rfl ?_
        refine w_aload_n dX10_letWalkerGo_58 rfl 2 rfl ?_
        refine w_aload_n dX10_letWalkerGo_59 rfl 2 rfl ?_
        refine w_getI fl_RX10_119 rfl rfl (ic_9 hb h9_) dX10_letWalkerGo_60 (fun z92_ e93_ => ?_)
        obtain rfl : z85_ = z92_ := e86_.trans e93_.symm
        refine w_bipush (v := 6) dX10_letWalkerGo_63 (by decide) ?_
        refine w_iadd dX10_letWalkerGo_65 (fun z94_ h95_ => ?_)
        refine w_bipush (v := 7) dX10_letWalkerGo_66 (by decide) ?_
        refine w_iand dX10_letWalkerGo_68 (fun z96_ h98_ => ?_)
        have h97_ : 0 ≤ z96_.toInt ∧ z96_.toInt < ((2 ^ 3 : Nat) : Int) := by rw [h98_]; exact andI _ 3 (by decide) (by decide)
        refine w_callV (as := [vI z96_]) (rest := []) (c_X9_yardsToFull l G cy ad (d + 2) b j7_ z96_ Mz hIz hb h9_) kV_X9_yardsToFull (by decide +kernel) (Nat.le_of_ble_eq_true rfl) m_1045 rfl rfl rfl (ic_9 hb h9_) rfl rfl (by decide) (Nat.le_of_ble_eq_true rfl) dX10_letWalkerGo_69 (fun r99_ M100_ q101_ => ?_)
        obtain ⟨rfl, h102_, hs103_⟩ := q101_
        refine w_istore (ls' := [(5, vI r99_), (4, vI r87_), (3, vI z10_), (2, vR (9, b, j7_)), (0, vR (10, b, 0)), (1, vI v)]) dX10_letWalkerGo_72 (by decide) rfl ?_
        refine w_aload_n dX10_letWalkerGo_74 rfl 3 rfl ?_
        refine w_aload_n dX10_letWalkerGo_75 rfl 3 rfl ?_
        refine w_getI fl_RX10_119 rfl rfl (ic_9 hb h9_) dX10_letWalkerGo_76 (fun z104_ e105_ => ?_)
        obtain rfl : z85_ = z104_ := e86_.trans e105_.symm
        refine w_iconst (v := 2) dX10_letWalkerGo_79 (by decide) ?_
        refine w_iadd dX10_letWalkerGo_80 (fun z106_ h107_ => ?_)
        refine w_bipush (v := 7) dX10_letWalkerGo_81 (by decide) ?_
        refine w_iand dX10_letWalkerGo_83 (fun z108_ h110_ => ?_)
        have h109_ : 0 ≤ z108_.toInt ∧ z108_.toInt < ((2 ^ 3 : Nat) : Int) := by rw [h110_]; exact andI _ 3 (by decide) (by decide)
        refine w_callV (as := [vI z108_]) (rest := []) (c_X9_yardsToFull l G cy ad (d + 2) b j7_ z108_ Mz hIz hb h9_) kV_X9_yardsToFull (by decide +kernel) (Nat.le_of_ble_eq_true rfl) m_1045 rfl rfl rfl (ic_9 hb h9_) rfl rfl (by decide) (Nat.le_of_ble_eq_true rfl) dX10_letWalkerGo_84 (fun r111_ M112_ q113_ => ?_)
        obtain ⟨rfl, h114_, hs115_⟩ := q113_
        refine w_istore (ls' := [(6, vI r111_), (5, vI r99_), (4, vI r87_), (3, vI z10_), (2, vR (9, b, j7_)), (0, vR (10, b, 0)), (1, vI v)]) dX10_letWalkerGo_87 (by decide) rfl ?_
        refine w_aload_n dX10_letWalkerGo_89 rfl 5 rfl ?_
        refine w_getR (c' := (2, b, 0)) fl_RX10_19 rfl rfl (ic_10 hb) dX10_letWalkerGo_90 rfl ?_
        refine w_iload dX10_letWalkerGo_93 2 rfl ?_
        refine w_iload dX10_letWalkerGo_95 1 rfl ?_
        refine w_iload dX10_letWalkerGo_97 0 rfl ?_
        refine w_aload_n dX10_letWalkerGo_99 rfl 4 rfl ?_
        refine w_getI fl_RX10_66 rfl rfl (ic_9 hb h9_) dX10_letWalkerGo_100 (fun z116_ e117_ => ?_)
        refine w_aload_n dX10_letWalkerGo_103 rfl 5 rfl ?_
        refine w_getI fl_RX10_54 rfl rfl (ic_10 hb) dX10_letWalkerGo_104 (fun z118_ e119_ => ?_)
        obtain rfl : z80_ = z118_ := e81_.trans e119_.symm
        refine w_callV (as := [vI r87_, vI r99_, vI r111_, vI z116_, vI z80_]) (rest := []) (c_X2_habitValue l G cy ad (d + 3) b r87_ r99_ r111_ z116_ z80_ Mz hIz hb) kV_X2_habitValue (by decide +kernel) (Nat.le_of_ble_eq_true rfl) m_1050 rfl rfl rfl (ic_2 hb) rfl rfl (by decide) (Nat.le_of_ble_eq_true rfl) dX10_letWalkerGo_107 (fun r120_ M121_ q122_ => ?_)
        obtain ⟨hI124_, hF125_, h123_, hs127_⟩ := q122_
        have hF126_ := hFz.tr hF125_ (fun c k => (fun h => h.elim (fun h => (Or.inl ⟨h.1, h.2.1, h.2.2⟩)) (fun h => h.elim (fun h => (Or.inr (Or.inl ⟨h.1, h.2.1, h.2.2⟩))) (fun h => h.elim (fun h => (Or.inr (Or.inr (Or.inl ⟨h.1, h.2.1, h.2.2⟩)))) (fun h => h.elim (fun h => (Or.inr (Or.inr (Or.inr (Or.inl ⟨h.1, h.2.1, h.2.2⟩))))) (fun h => h.elim (fun h => (Or.inr (Or.inr (Or.inr (Or.inr (Or.inl ⟨h.1, h.2.1, h.2.2⟩)))))) (fun h => h.elim (fun h => (Or.inr (Or.inr (Or.inr (Or.inr (Or.inr (Or.inl ⟨h.1, h.2.1, h.2.2⟩))))))) (fun h => h.elim))))))))
        refine w_iconst (v := 4) dX10_letWalkerGo_110 (by decide) ?_
        refine w_floorMod4 m_1054 m_1055 m_86 m_1056 (Nat.le_of_ble_eq_true rfl) (by omega) dX10_letWalkerGo_111 (fun z128_ z128_h => ?_)
        refine w_istore (ls' := [(7, vI z128_), (6, vI r111_), (5, vI r99_), (4, vI r87_), (3, vI z10_), (2, vR (9, b, j7_)), (0, vR (10, b, 0)), (1, vI v)]) dX10_letWalkerGo_114 (by decide) rfl ?_
        refine w_iload dX10_letWalkerGo_116 0 rfl ?_
        refine w_if_ne (tgt := 129) dX10_letWalkerGo_118 (by decide) (rfl : z128_.toInt = z128_.toInt) (fun h129_ => ?_) (fun h129_ => ?_)
        · refine w_aload_n dX10_letWalkerGo_129 rfl 5 rfl ?_
          refine w_iload dX10_letWalkerGo_130 0 rfl ?_
          refine w_iconst (v := 3) dX10_letWalkerGo_132 (by decide) ?_
          refine w_icmp_ne (tgt := 141) dX10_letWalkerGo_133 (by decide) (rfl : z128_.toInt = z128_.toInt) li_3 (fun h130_ => ?_) (fun h130_ => ?_)
          · refine w_iload dX10_letWalkerGo_141 0 rfl ?_
            refine w_callVv (as := [vI z128_]) (rest := []) (c_X9_turn l G cy ad (d + 4) b j7_ z128_ M121_ hI124_ hb h9_) kV_X9_turn (by decide +kernel) (Nat.le_of_ble_eq_true rfl) m_1063 rfl rfl rfl (ic_9 hb h9_) rfl rfl (by decide) (Nat.le_of_ble_eq_true rfl) dX10_letWalkerGo_143 (fun M131_ q132_ => ?_)
            obtain ⟨hI134_, hF135_, h133_, hs137_⟩ := q132_
            have hF136_ := hF126_.tr hF135_ (fun c k => (fun h => h.elim (fun h => (Or.inr (Or.inr (Or.inr (Or.inr (Or.inr (Or.inr (Or.inl ⟨h.1, h.2.1, h.2.2.2⟩)))))))) (fun h => h.elim)))
            exact w_vret rfl dX10_letWalkerGo_146 ⟨hI134_, hF136_, trivial, (Or.inl ⟨hs5_, h4_, j7_, h8_, h9_, z10_, e11_, (Or.inr ⟨h12_, z80_, e81_, z82_, h83_, (Or.inl ⟨h84_, z85_, e86_, r87_, hs91_, z94_, h95_, z96_, h98_, h97_, r99_, hs103_, z106_, h107_, z108_, h110_, h109_, r111_, hs115_, z116_, e117_, M121_, hI124_, hF125_, r120_, hs127_, z128_, z128_h, (Or.inl ⟨h129_, (Or.inl ⟨h130_, M131_, hI134_, hF135_, hs137_, rfl⟩)⟩)⟩)⟩)⟩)⟩
          · refine w_bipush (v := (-2)) dX10_letWalkerGo_136 (by decide) ?_
            refine w_goto (tgt := 143) dX10_letWalkerGo_138 (by decide) ?_
            refine w_callVv (as := [vI (-2)]) (rest := []) (c_X9_turn l G cy ad (d + 4) b j7_ (-2) M121_ hI124_ hb h9_) kV_X9_turn (by decide +kernel) (Nat.le_of_ble_eq_true rfl) m_1063 rfl rfl rfl (ic_9 hb h9_) rfl rfl (by decide) (Nat.le_of_ble_eq_true rfl) dX10_letWalkerGo_143 (fun M138_ q139_ => ?_)
            obtain ⟨hI141_, hF142_, h140_, hs144_⟩ := q139_
            have hF143_ := hF126_.tr hF142_ (fun c k => (fun h => h.elim (fun h => (Or.inr (Or.inr (Or.inr (Or.inr (Or.inr (Or.inr (Or.inl ⟨h.1, h.2.1, h.2.2.2⟩)))))))) (fun h => h.elim)))
            exact w_vret rfl dX10_letWalkerGo_146 ⟨hI141_, hF143_, trivial, (Or.inl ⟨hs5_, h4_, j7_, h8_, h9_, z10_, e11_, (Or.inr ⟨h12_, z80_, e81_, z82_, h83_, (Or.inl ⟨h84_, z85_, e86_, r87_, hs91_, z94_, h95_, z96_, h98_, h97_, r99_, hs103_, z106_, h107_, z108_, h110_, h109_, r111_, hs115_, z116_, e117_, M121_, hI124_, hF125_, r120_, hs127_, z128_, z128_h, (Or.inl ⟨h129_, (Or.inr ⟨h130_, M138_, hI141_, hF142_, hs144_, rfl⟩)⟩)⟩)⟩)⟩)⟩
        · refine w_aload_n dX10_letWalkerGo_121 rfl 6 rfl ?_
          refine w_iload_n dX10_letWalkerGo_122 rfl 7 rfl ?_
          refine w_callVv (as := [vI v]) (rest := []) (c_X10_goOn l G cy ad (d + 2) b v M121_ hI124_ hb) kV_X10_goOn (by decide +kernel) (Nat.le_of_ble_eq_true rfl) m_1057 rfl rfl rfl (ic_10 hb) rfl rfl (by decide) (Nat.le_of_ble_eq_true rfl) dX10_letWalkerGo_123 (fun M145_ q146_ => ?_)
          obtain ⟨hI148_, hF149_, h147_, hs151_⟩ := q146_
          have hF150_ := hF126_.tr hF149_ (fun c k => (fun h => h.elim (fun h => (Or.inr (Or.inr (Or.inr (Or.inr (Or.inr (Or.inr (Or.inr (Or.inl ⟨h.1, h.2⟩))))))))) (fun h => h.elim (fun h => (Or.inr (Or.inr (Or.inr (Or.inr (Or.inr (Or.inr (Or.inr (Or.inr (Or.inl ⟨h.1, h.2.1, h.2.2⟩)))))))))) (fun h => h.elim (fun h => (Or.inr (Or.inr (Or.inr (Or.inr (Or.inr (Or.inr (Or.inr (Or.inr (Or.inr (Or.inl ⟨h.1, h.2.1, h.2.2⟩))))))))))) (fun h => h.elim (fun h => (Or.inr (Or.inr (Or.inr (Or.inr (Or.inr (Or.inr (Or.inr (Or.inr (Or.inr (Or.inr (Or.inl ⟨h.1, h.2⟩)))))))))))) (fun h => h.elim))))))
          refine w_goto (tgt := 146) dX10_letWalkerGo_126 (by decide) ?_
          exact w_vret rfl dX10_letWalkerGo_146 ⟨hI148_, hF150_, trivial, (Or.inl ⟨hs5_, h4_, j7_, h8_, h9_, z10_, e11_, (Or.inr ⟨h12_, z80_, e81_, z82_, h83_, (Or.inl ⟨h84_, z85_, e86_, r87_, hs91_, z94_, h95_, z96_, h98_, h97_, r99_, hs103_, z106_, h107_, z108_, h110_, h109_, r111_, hs115_, z116_, e117_, M121_, hI124_, hF125_, r120_, hs127_, z128_, z128_h, (Or.inr ⟨h129_, M145_, hI148_, hF149_, hs151_, rfl⟩)⟩)⟩)⟩)⟩
      · refine w_aload_n dX10_letWalkerGo_34 rfl 1 rfl ?_
        refine w_iconst (v := 1) dX10_letWalkerGo_35 (by decide) ?_
        refine w_callV (as := [vI 1]) (rest := []) (c_X9_isOf l G cy ad (d + 3) b j7_ 1 Mz hIz hb h9_) kV_X9_isOf (by decide +kernel) (Nat.le_of_ble_eq_true rfl) m_1043 rfl rfl rfl (ic_9 hb h9_) rfl rfl (by decide) (Nat.le_of_ble_eq_true rfl) dX10_letWalkerGo_36 (fun r152_ M153_ q154_ => ?_)
        obtain ⟨rfl, h155_, hs156_⟩ := q154_
        refine w_if_eq (tgt := 48) dX10_letWalkerGo_39 (by decide) (rfl : r152_.toInt = r152_.toInt) (fun h157_ => ?_) (fun h157_ => ?_)
        · refine w_aload_n dX10_letWalkerGo_48 rfl 1 rfl ?_
          refine w_aload_n dX10_letWalkerGo_49 rfl 1 rfl ?_
          refine w_getI fl_RX10_119 rfl rfl (ic_9 hb h9_) dX10_letWalkerGo_50 (fun z158_ e159_ => ?_)
          refine w_callV (as := [vI z158_]) (rest := []) (c_X9_yardsToFull l G cy ad (d + 2) b j7_ z158_ Mz hIz hb h9_) kV_X9_yardsToFull (by decide +kernel) (Nat.le_of_ble_eq_true rfl) m_1045 rfl rfl rfl (ic_9 hb h9_) rfl rfl (by decide) (Nat.le_of_ble_eq_true rfl) dX10_letWalkerGo_53 (fun r160_ M161_ q162_ => ?_)
          obtain ⟨rfl, h163_, hs164_⟩ := q162_
          refine w_istore (ls' := [(4, vI r160_), (3, vI z10_), (2, vR (9, b, j7_)), (0, vR (10, b, 0)), (1, vI v)]) dX10_letWalkerGo_56 (by decide) rfl ?_
          refine w_aload_n dX10_letWalkerGo_58 rfl 2 rfl ?_
          refine w_aload_n dX10_letWalkerGo_59 rfl 2 rfl ?_
          refine w_getI fl_RX10_119 rfl rfl (ic_9 hb h9_) dX10_letWalkerGo_60 (fun z165_ e166_ => ?_)
          obtain rfl : z158_ = z165_ := e159_.trans e166_.symm
          refine w_bipush (v := 6) dX10_letWalkerGo_63 (by decide) ?_
          refine w_iadd dX10_letWalkerGo_65 (fun z167_ h168_ => ?_)
          refine w_bipush (v := 7) dX10_letWalkerGo_66 (by decide) ?_
          refine w_iand dX10_letWalkerGo_68 (fun z169_ h171_ => ?_)
          have h170_ : 0 ≤ z169_.toInt ∧ z169_.toInt < ((2 ^ 3 : Nat) : Int) := by rw [h171_]; exact andI _ 3 (by decide) (by decide)
          refine w_callV (as := [vI z169_]) (rest := []) (c_X9_yardsToFull l G cy ad (d + 2) b j7_ z169_ Mz hIz hb h9_) kV_X9_yardsToFull (by decide +kernel) (Nat.le_of_ble_eq_true rfl) m_1045 rfl rfl rfl (ic_9 hb h9_) rfl rfl (by decide) (Nat.le_of_ble_eq_true rfl) dX10_letWalkerGo_69 (fun r172_ M173_ q174_ => ?_)
          obtain ⟨rfl, h175_, hs176_⟩ := q174_
          refine w_istore (ls' := [(5, vI r172_), (4, vI r160_), (3, vI z10_), (2, vR (9, b, j7_)), (0, vR (10, b, 0)), (1, vI v)]) dX10_letWalkerGo_72 (by decide) rfl ?_
          refine w_aload_n dX10_letWalkerGo_74 rfl 3 rfl ?_
          refine w_aload_n dX10_letWalkerGo_75 rfl 3 rfl ?_
          refine w_getI fl_RX10_119 rfl rfl (ic_9 hb h9_) dX10_letWalkerGo_76 (fun z177_ e178_ => ?_)
          obtain rfl : z158_ = z177_ := e159_.trans e178_.symm
          refine w_iconst (v := 2) dX10_letWalkerGo_79 (by decide) ?_
          refine w_iadd dX10_letWalkerGo_80 (fun z179_ h180_ => ?_)
          refine w_bipush (v := 7) dX10_letWalkerGo_81 (by decide) ?_
          refine w_iand dX10_letWalkerGo_83 (fun z181_ h183_ => ?_)
          have h182_ : 0 ≤ z181_.toInt ∧ z181_.toInt < ((2 ^ 3 : Nat) : Int) := by rw [h183_]; exact andI _ 3 (by decide) (by decide)
          refine w_callV (as := [vI z181_]) (rest := []) (c_X9_yardsToFull l G cy ad (d + 2) b j7_ z181_ Mz hIz hb h9_) kV_X9_yardsToFull (by decide +kernel) (Nat.le_of_ble_eq_true rfl) m_1045 rfl rfl rfl (ic_9 hb h9_) rfl rfl (by decide) (Nat.le_of_ble_eq_true rfl) dX10_letWalkerGo_84 (fun r184_ M185_ q186_ => ?_)
          obtain ⟨rfl, h187_, hs188_⟩ := q186_
          refine w_istore (ls' := [(6, vI r184_), (5, vI r172_), (4, vI r160_), (3, vI z10_), (2, vR (9, b, j7_)), (0, vR (10, b, 0)), (1, vI v)]) dX10_letWalkerGo_87 (by decide) rfl ?_
          refine w_aload_n dX10_letWalkerGo_89 rfl 5 rfl ?_
          refine w_getR (c' := (2, b, 0)) fl_RX10_19 rfl rfl (ic_10 hb) dX10_letWalkerGo_90 rfl ?_
          refine w_iload dX10_letWalkerGo_93 2 rfl ?_
          refine w_iload dX10_letWalkerGo_95 1 rfl ?_
          refine w_iload dX10_letWalkerGo_97 0 rfl ?_
          refine w_aload_n dX10_letWalkerGo_99 rfl 4 rfl ?_
          refine w_getI fl_RX10_66 rfl rfl (ic_9 hb h9_) dX10_letWalkerGo_100 (fun z189_ e190_ => ?_)
          refine w_aload_n dX10_letWalkerGo_103 rfl 5 rfl ?_
          refine w_getI fl_RX10_54 rfl rfl (ic_10 hb) dX10_letWalkerGo_104 (fun z191_ e192_ => ?_)
          obtain rfl : z80_ = z191_ := e81_.trans e192_.symm
          refine w_callV (as := [vI r160_, vI r172_, vI r184_, vI z189_, vI z80_]) (rest := []) (c_X2_habitValue l G cy ad (d + 3) b r160_ r172_ r184_ z189_ z80_ Mz hIz hb) kV_X2_habitValue (by decide +kernel) (Nat.le_of_ble_eq_true rfl) m_1050 rfl rfl rfl (ic_2 hb) rfl rfl (by decide) (Nat.le_of_ble_eq_true rfl) dX10_letWalkerGo_107 (fun r193_ M194_ q195_ => ?_)
          obtain ⟨hI197_, hF198_, h196_, hs200_⟩ := q195_
          have hF199_ := hFz.tr hF198_ (fun c k => (fun h => h.elim (fun h => (Or.inl ⟨h.1, h.2.1, h.2.2⟩)) (fun h => h.elim (fun h => (Or.inr (Or.inl ⟨h.1, h.2.1, h.2.2⟩))) (fun h => h.elim (fun h => (Or.inr (Or.inr (Or.inl ⟨h.1, h.2.1, h.2.2⟩)))) (fun h => h.elim (fun h => (Or.inr (Or.inr (Or.inr (Or.inl ⟨h.1, h.2.1, h.2.2⟩))))) (fun h => h.elim (fun h => (Or.inr (Or.inr (Or.inr (Or.inr (Or.inl ⟨h.1, h.2.1, h.2.2⟩)))))) (fun h => h.elim (fun h => (Or.inr (Or.inr (Or.inr (Or.inr (Or.inr (Or.inl ⟨h.1, h.2.1, h.2.2⟩))))))) (fun h => h.elim))))))))
          refine w_iconst (v := 4) dX10_letWalkerGo_110 (by decide) ?_
          refine w_floorMod4 m_1054 m_1055 m_86 m_1056 (Nat.le_of_ble_eq_true rfl) (by omega) dX10_letWalkerGo_111 (fun z201_ z201_h => ?_)
          refine w_istore (ls' := [(7, vI z201_), (6, vI r184_), (5, vI r172_), (4, vI r160_), (3, vI z10_), (2, vR (9, b, j7_)), (0, vR (10, b, 0)), (1, vI v)]) dX10_letWalkerGo_114 (by decide) rfl ?_
          refine w_iload dX10_letWalkerGo_116 0 rfl ?_
          refine w_if_ne (tgt := 129) dX10_letWalkerGo_118 (by decide) (rfl : z201_.toInt = z201_.toInt) (fun h202_ => ?_) (fun h202_ => ?_)
          · refine w_aload_n dX10_letWalkerGo_129 rfl 5 rfl ?_
            refine w_iload dX10_letWalkerGo_130 0 rfl ?_
            refine w_iconst (v := 3) dX10_letWalkerGo_132 (by decide) ?_
            refine w_icmp_ne (tgt := 141) dX10_letWalkerGo_133 (by decide) (rfl : z201_.toInt = z201_.toInt) li_3 (fun h203_ => ?_) (fun h203_ => ?_)
            · refine w_iload dX10_letWalkerGo_141 0 rfl ?_
              refine w_callVv (as := [vI z201_]) (rest := []) (c_X9_turn l G cy ad (d + 4) b j7_ z201_ M194_ hI197_ hb h9_) kV_X9_turn (by decide +kernel) (Nat.le_of_ble_eq_true rfl) m_1063 rfl rfl rfl (ic_9 hb h9_) rfl rfl (by decide) (Nat.le_of_ble_eq_true rfl) dX10_letWalkerGo_143 (fun M204_ q205_ => ?_)
              obtain ⟨hI207_, hF208_, h206_, hs210_⟩ := q205_
              have hF209_ := hF199_.tr hF208_ (fun c k => (fun h => h.elim (fun h => (Or.inr (Or.inr (Or.inr (Or.inr (Or.inr (Or.inr (Or.inl ⟨h.1, h.2.1, h.2.2.2⟩)))))))) (fun h => h.elim)))
              exact w_vret rfl dX10_letWalkerGo_146 ⟨hI207_, hF209_, trivial, (Or.inl ⟨hs5_, h4_, j7_, h8_, h9_, z10_, e11_, (Or.inr ⟨h12_, z80_, e81_, z82_, h83_, (Or.inr ⟨h84_, r152_, hs156_, h155_, (Or.inl ⟨h157_, z158_, e159_, r160_, hs164_, z167_, h168_, z169_, h171_, h170_, r172_, hs176_, z179_, h180_, z181_, h183_, h182_, r184_, hs188_, z189_, e190_, M194_, hI197_, hF198_, r193_, hs200_, z201_, z201_h, (Or.inl ⟨h202_, (Or.inl ⟨h203_, M204_, hI207_, hF208_, hs210_, rfl⟩)⟩)⟩)⟩)⟩)⟩)⟩
            · refine w_bipush (v := (-2)) dX10_letWalkerGo_136 (by decide) ?_
              refine w_goto (tgt := 143) dX10_letWalkerGo_138 (by decide) ?_
              refine w_callVv (as := [vI (-2)]) (rest := []) (c_X9_turn l G cy ad (d + 4) b j7_ (-2) M194_ hI197_ hb h9_) kV_X9_turn (by decide +kernel) (Nat.le_of_ble_eq_true rfl) m_1063 rfl rfl rfl (ic_9 hb h9_) rfl rfl (by decide) (Nat.le_of_ble_eq_true rfl) dX10_letWalkerGo_143 (fun M211_ q212_ => ?_)
              obtain ⟨hI214_, hF215_, h213_, hs217_⟩ := q212_
              have hF216_ := hF199_.tr hF215_ (fun c k => (fun h => h.elim (fun h => (Or.inr (Or.inr (Or.inr (Or.inr (Or.inr (Or.inr (Or.inl ⟨h.1, h.2.1, h.2.2.2⟩)))))))) (fun h => h.elim)))
              exact w_vret rfl dX10_letWalkerGo_146 ⟨hI214_, hF216_, trivial, (Or.inl ⟨hs5_, h4_, j7_, h8_, h9_, z10_, e11_, (Or.inr ⟨h12_, z80_, e81_, z82_, h83_, (Or.inr ⟨h84_, r152_, hs156_, h155_, (Or.inl ⟨h157_, z158_, e159_, r160_, hs164_, z167_, h168_, z169_, h171_, h170_, r172_, hs176_, z179_, h180_, z181_, h183_, h182_, r184_, hs188_, z189_, e190_, M194_, hI197_, hF198_, r193_, hs200_, z201_, z201_h, (Or.inl ⟨h202_, (Or.inr ⟨h203_, M211_, hI214_, hF215_, hs217_, rfl⟩)⟩)⟩)⟩)⟩)⟩)⟩
          · refine w_aload_n dX10_letWalkerGo_121 rfl 6 rfl ?_
            refine w_iload_n dX10_letWalkerGo_122 rfl 7 rfl ?_
            refine w_callVv (as := [vI v]) (rest := []) (c_X10_goOn l G cy ad (d + 2) b v M194_ hI197_ hb) kV_X10_goOn (by decide +kernel) (Nat.le_of_ble_eq_true rfl) m_1057 rfl rfl rfl (ic_10 hb) rfl rfl (by decide) (Nat.le_of_ble_eq_true rfl) dX10_letWalkerGo_123 (fun M218_ q219_ => ?_)
            obtain ⟨hI221_, hF222_, h220_, hs224_⟩ := q219_
            have hF223_ := hF199_.tr hF222_ (fun c k => (fun h => h.elim (fun h => (Or.inr (Or.inr (Or.inr (Or.inr (Or.inr (Or.inr (Or.inr (Or.inl ⟨h.1, h.2⟩))))))))) (fun h => h.elim (fun h => (Or.inr (Or.inr (Or.inr (Or.inr (Or.inr (Or.inr (Or.inr (Or.inr (Or.inl ⟨h.1, h.2.1, h.2.2⟩)))))))))) (fun h => h.elim (fun h => (Or.inr (Or.inr (Or.inr (Or.inr (Or.inr (Or.inr (Or.inr (Or.inr (Or.inr (Or.inl ⟨h.1, h.2.1, h.2.2⟩))))))))))) (fun h => h.elim (fun h => (Or.inr (Or.inr (Or.inr (Or.inr (Or.inr (Or.inr (Or.inr (Or.inr (Or.inr (Or.inr (Or.inl ⟨h.1, h.2⟩)))))))))))) (fun h => h.elim))))))
            refine w_goto (tgt := 146) dX10_letWalkerGo_126 (by decide) ?_
            exact w_vret rfl dX10_letWalkerGo_146 ⟨hI221_, hF223_, trivial, (Or.inl ⟨hs5_, h4_, j7_, h8_, h9_, z10_, e11_, (Or.inr ⟨h12_, z80_, e81_, z82_, h83_, (Or.inr ⟨h84_, r152_, hs156_, h155_, (Or.inl ⟨h157_, z158_, e159_, r160_, hs164_, z167_, h168_, z169_, h171_, h170_, r172_, hs176_, z179_, h180_, z181_, h183_, h182_, r184_, hs188_, z189_, e190_, M194_, hI197_, hF198_, r193_, hs200_, z201_, z201_h, (Or.inr ⟨h202_, M218_, hI221_, hF222_, hs224_, rfl⟩)⟩)⟩)⟩)⟩)⟩
        · refine w_aload_n dX10_letWalkerGo_42 rfl 2 rfl ?_
          refine w_iload_n dX10_letWalkerGo_43 rfl 3 rfl ?_
          refine w_callV (as := [vI v]) (rest := []) (c_X10_makeClick l G cy ad d b v Mz hIz hb) kV_X10_makeClick (by decide +kernel) (Nat.le_of_ble_eq_true rfl) m_1044 rfl rfl rfl (ic_10 hb) rfl rfl (by decide) (Nat.le_of_ble_eq_true rfl) dX10_letWalkerGo_44 (fun r225_ M226_ q227_ => ?_)
          obtain ⟨hI229_, hF230_, h228_, hs232_⟩ := q227_
          have hF231_ := hFz.tr hF230_ (fun c k => (fun h => h.elim (fun h => (Or.inr (Or.inr (Or.inr (Or.inr (Or.inr (Or.inr (Or.inr (Or.inr (Or.inr (Or.inr (Or.inr (Or.inl ⟨h.1, h.2.1, h.2.2⟩))))))))))))) (fun h => h.elim (fun h => (Or.inl ⟨h.1, h.2.1, h.2.2⟩)) (fun h => h.elim (fun h => (Or.inr (Or.inl ⟨h.1, h.2.1, h.2.2⟩))) (fun h => h.elim (fun h => (Or.inr (Or.inr (Or.inl ⟨h.1, h.2.1, h.2.2⟩)))) (fun h => h.elim (fun h => (Or.inr (Or.inr (Or.inr (Or.inl ⟨h.1, h.2.1, h.2.2⟩))))) (fun h => h.elim (fun h => (Or.inr (Or.inr (Or.inr (Or.inr (Or.inr (Or.inr (Or.inr (Or.inr (Or.inr (Or.inr (Or.inr (Or.inr (Or.inl ⟨h.1, h.2.1, h.2.2⟩)))))))))))))) (fun h => h.elim (fun h => (Or.inr (Or.inr (Or.inr (Or.inr (Or.inr (Or.inr (Or.inr (Or.inr (Or.inr (Or.inr (Or.inr (Or.inr (Or.inr (Or.inl ⟨h.1, h.2.1, h.2.2⟩))))))))))))))) (fun h => h.elim (fun h => (Or.inr (Or.inr (Or.inr (Or.inr (Or.inr (Or.inr (Or.inr (Or.inr (Or.inr (Or.inr (Or.inl ⟨h.1, h.2⟩)))))))))))) (fun h => h.elim (fun h => (Or.inr (Or.inr (Or.inr (Or.inr (Or.inr (Or.inr (Or.inr (Or.inr (Or.inr (Or.inr (Or.inr (Or.inr (Or.inr (Or.inr (Or.inl ⟨h.1, h.2⟩)))))))))))))))) (fun h => h.elim)))))))))))
          refine w_pop dX10_letWalkerGo_47 rfl ?_
          refine w_aload_n dX10_letWalkerGo_48 rfl 1 rfl ?_
          refine w_aload_n dX10_letWalkerGo_49 rfl 1 rfl ?_
          refine w_getI fl_RX10_119 rfl rfl (ic_9 hb h9_) dX10_letWalkerGo_50 (fun z233_ e234_ => ?_)
          refine w_callV (as := [vI z233_]) (rest := []) (c_X9_yardsToFull l G cy ad (d + 2) b j7_ z233_ M226_ hI229_ hb h9_) kV_X9_yardsToFull (by decide +kernel) (Nat.le_of_ble_eq_true rfl) m_1045 rfl rfl rfl (ic_9 hb h9_) rfl rfl (by decide) (Nat.le_of_ble_eq_true rfl) dX10_letWalkerGo_53 (fun r235_ M236_ q237_ => ?_)
          obtain ⟨rfl, h238_, hs239_⟩ := q237_
          refine w_istore (ls' := [(4, vI r235_), (3, vI z10_), (2, vR (9, b, j7_)), (0, vR (10, b, 0)), (1, vI v)]) dX10_letWalkerGo_56 (by decide) rfl ?_
          refine w_aload_n dX10_letWalkerGo_58 rfl 2 rfl ?_
          refine w_aload_n dX10_letWalkerGo_59 rfl 2 rfl ?_
          refine w_getI fl_RX10_119 rfl rfl (ic_9 hb h9_) dX10_letWalkerGo_60 (fun z240_ e241_ => ?_)
          obtain rfl : z233_ = z240_ := e234_.trans e241_.symm
          refine w_bipush (v := 6) dX10_letWalkerGo_63 (by decide) ?_
          refine w_iadd dX10_letWalkerGo_65 (fun z242_ h243_ => ?_)
          refine w_bipush (v := 7) dX10_letWalkerGo_66 (by decide) ?_
          refine w_iand dX10_letWalkerGo_68 (fun z244_ h246_ => ?_)
          have h245_ : 0 ≤ z244_.toInt ∧ z244_.toInt < ((2 ^ 3 : Nat) : Int) := by rw [h246_]; exact andI _ 3 (by decide) (by decide)
          refine w_callV (as := [vI z244_]) (rest := []) (c_X9_yardsToFull l G cy ad (d + 2) b j7_ z244_ M226_ hI229_ hb h9_) kV_X9_yardsToFull (by decide +kernel) (Nat.le_of_ble_eq_true rfl) m_1045 rfl rfl rfl (ic_9 hb h9_) rfl rfl (by decide) (Nat.le_of_ble_eq_true rfl) dX10_letWalkerGo_69 (fun r247_ M248_ q249_ => ?_)
          obtain ⟨rfl, h250_, hs251_⟩ := q249_
          refine w_istore (ls' := [(5, vI r247_), (4, vI r235_), (3, vI z10_), (2, vR (9, b, j7_)), (0, vR (10, b, 0)), (1, vI v)]) dX10_letWalkerGo_72 (by decide) rfl ?_
          refine w_aload_n dX10_letWalkerGo_74 rfl 3 rfl ?_
          refine w_aload_n dX10_letWalkerGo_75 rfl 3 rfl ?_
          refine w_getI fl_RX10_119 rfl rfl (ic_9 hb h9_) dX10_letWalkerGo_76 (fun z252_ e253_ => ?_)
          obtain rfl : z233_ = z252_ := e234_.trans e253_.symm
          refine w_iconst (v := 2) dX10_letWalkerGo_79 (by decide) ?_
          refine w_iadd dX10_letWalkerGo_80 (fun z254_ h255_ => ?_)
          refine w_bipush (v := 7) dX10_letWalkerGo_81 (by decide) ?_
          refine w_iand dX10_letWalkerGo_83 (fun z256_ h258_ => ?_)
          have h257_ : 0 ≤ z256_.toInt ∧ z256_.toInt < ((2 ^ 3 : Nat) : Int) := by rw [h258_]; exact andI _ 3 (by decide) (by decide)
          refine w_callV (as := [vI z256_]) (rest := []) (c_X9_yardsToFull l G cy ad (d + 2) b j7_ z256_ M226_ hI229_ hb h9_) kV_X9_yardsToFull (by decide +kernel) (Nat.le_of_ble_eq_true rfl) m_1045 rfl rfl rfl (ic_9 hb h9_) rfl rfl (by decide) (Nat.le_of_ble_eq_true rfl) dX10_letWalkerGo_84 (fun r259_ M260_ q261_ => ?_)
          obtain ⟨rfl, h262_, hs263_⟩ := q261_
          refine w_istore (ls' := [(6, vI r259_), (5, vI r247_), (4, vI r235_), (3, vI z10_), (2, vR (9, b, j7_)), (0, vR (10, b, 0)), (1, vI v)]) dX10_letWalkerGo_87 (by decide) rfl ?_
          refine w_aload_n dX10_letWalkerGo_89 rfl 5 rfl ?_
          refine w_getR (c' := (2, b, 0)) fl_RX10_19 rfl rfl (ic_10 hb) dX10_letWalkerGo_90 rfl ?_
          refine w_iload dX10_letWalkerGo_93 2 rfl ?_
          refine w_iload dX10_letWalkerGo_95 1 rfl ?_
          refine w_iload dX10_letWalkerGo_97 0 rfl ?_
          refine w_aload_n dX10_letWalkerGo_99 rfl 4 rfl ?_
          refine w_getI fl_RX10_66 rfl rfl (ic_9 hb h9_) dX10_letWalkerGo_100 (fun z264_ e265_ => ?_)
          refine w_aload_n dX10_letWalkerGo_103 rfl 5 rfl ?_
          refine w_getI fl_RX10_54 rfl rfl (ic_10 hb) dX10_letWalkerGo_104 (fun z266_ e267_ => ?_)
          refine w_callV (as := [vI r235_, vI r247_, vI r259_, vI z264_, vI z266_]) (rest := []) (c_X2_habitValue l G cy ad (d + 3) b r235_ r247_ r259_ z264_ z266_ M226_ hI229_ hb) kV_X2_habitValue (by decide +kernel) (Nat.le_of_ble_eq_true rfl) m_1050 rfl rfl rfl (ic_2 hb) rfl rfl (by decide) (Nat.le_of_ble_eq_true rfl) dX10_letWalkerGo_107 (fun r268_ M269_ q270_ => ?_)
          obtain ⟨hI272_, hF273_, h271_, hs275_⟩ := q270_
          have hF274_ := hF231_.tr hF273_ (fun c k => (fun h => h.elim (fun h => (Or.inl ⟨h.1, h.2.1, h.2.2⟩)) (fun h => h.elim (fun h => (Or.inr (Or.inl ⟨h.1, h.2.1, h.2.2⟩))) (fun h => h.elim (fun h => (Or.inr (Or.inr (Or.inl ⟨h.1, h.2.1, h.2.2⟩)))) (fun h => h.elim (fun h => (Or.inr (Or.inr (Or.inr (Or.inl ⟨h.1, h.2.1, h.2.2⟩))))) (fun h => h.elim (fun h => (Or.inr (Or.inr (Or.inr (Or.inr (Or.inl ⟨h.1, h.2.1, h.2.2⟩)))))) (fun h => h.elim (fun h => (Or.inr (Or.inr (Or.inr (Or.inr (Or.inr (Or.inl ⟨h.1, h.2.1, h.2.2⟩))))))) (fun h => h.elim))))))))
          refine w_iconst (v := 4) dX10_letWalkerGo_110 (by decide) ?_
          refine w_floorMod4 m_1054 m_1055 m_86 m_1056 (Nat.le_of_ble_eq_true rfl) (by omega) dX10_letWalkerGo_111 (fun z276_ z276_h => ?_)
          refine w_istore (ls' := [(7, vI z276_), (6, vI r259_), (5, vI r247_), (4, vI r235_), (3, vI z10_), (2, vR (9, b, j7_)), (0, vR (10, b, 0)), (1, vI v)]) dX10_letWalkerGo_114 (by decide) rfl ?_
          refine w_iload dX10_letWalkerGo_116 0 rfl ?_
          refine w_if_ne (tgt := 129) dX10_letWalkerGo_118 (by decide) (rfl : z276_.toInt = z276_.toInt) (fun h277_ => ?_) (fun h277_ => ?_)
          · refine w_aload_n dX10_letWalkerGo_129 rfl 5 rfl ?_
            refine w_iload dX10_letWalkerGo_130 0 rfl ?_
            refine w_iconst (v := 3) dX10_letWalkerGo_132 (by decide) ?_
            refine w_icmp_ne (tgt := 141) dX10_letWalkerGo_133 (by decide) (rfl : z276_.toInt = z276_.toInt) li_3 (fun h278_ => ?_) (fun h278_ => ?_)
            · refine w_iload dX10_letWalkerGo_141 0 rfl ?_
              refine w_callVv (as := [vI z276_]) (rest := []) (c_X9_turn l G cy ad (d + 4) b j7_ z276_ M269_ hI272_ hb h9_) kV_X9_turn (by decide +kernel) (Nat.le_of_ble_eq_true rfl) m_1063 rfl rfl rfl (ic_9 hb h9_) rfl rfl (by decide) (Nat.le_of_ble_eq_true rfl) dX10_letWalkerGo_143 (fun M279_ q280_ => ?_)
              obtain ⟨hI282_, hF283_, h281_, hs285_⟩ := q280_
              have hF284_ := hF274_.tr hF283_ (fun c k => (fun h => h.elim (fun h => (Or.inr (Or.inr (Or.inr (Or.inr (Or.inr (Or.inr (Or.inl ⟨h.1, h.2.1, h.2.2.2⟩)))))))) (fun h => h.elim)))
              exact w_vret rfl dX10_letWalkerGo_146 ⟨hI282_, hF284_, trivial, (Or.inl ⟨hs5_, h4_, j7_, h8_, h9_, z10_, e11_, (Or.inr ⟨h12_, z80_, e81_, z82_, h83_, (Or.inr ⟨h84_, r152_, hs156_, h155_, (Or.inr ⟨h157_, M226_, hI229_, hF230_, r225_, hs232_, z233_, e234_, r235_, hs239_, z242_, h243_, z244_, h246_, h245_, r247_, hs251_, z254_, h255_, z256_, h258_, h257_, r259_, hs263_, z264_, e265_, z266_, e267_, M269_, hI272_, hF273_, r268_, hs275_, z276_, z276_h, (Or.inl ⟨h277_, (Or.inl ⟨h278_, M279_, hI282_, hF283_, hs285_, rfl⟩)⟩)⟩)⟩)⟩)⟩)⟩
            · refine w_bipush (v := (-2)) dX10_letWalkerGo_136 (by decide) ?_
              refine w_goto (tgt := 143) dX10_letWalkerGo_138 (by decide) ?_
              refine w_callVv (as := [vI (-2)]) (rest := []) (c_X9_turn l G cy ad (d + 4) b j7_ (-2) M269_ hI272_ hb h9_) kV_X9_turn (by decide +kernel) (Nat.le_of_ble_eq_true rfl) m_1063 rfl rfl rfl (ic_9 hb h9_) rfl rfl (by decide) (Nat.le_of_ble_eq_true rfl) dX10_letWalkerGo_143 (fun M286_ q287_ => ?_)
              obtain ⟨hI289_, hF290_, h288_, hs292_⟩ := q287_
              have hF291_ := hF274_.tr hF290_ (fun c k => (fun h => h.elim (fun h => (Or.inr (Or.inr (Or.inr (Or.inr (Or.inr (Or.inr (Or.inl ⟨h.1, h.2.1, h.2.2.2⟩)))))))) (fun h => h.elim)))
              exact w_vret rfl dX10_letWalkerGo_146 ⟨hI289_, hF291_, trivial, (Or.inl ⟨hs5_, h4_, j7_, h8_, h9_, z10_, e11_, (Or.inr ⟨h12_, z80_, e81_, z82_, h83_, (Or.inr ⟨h84_, r152_, hs156_, h155_, (Or.inr ⟨h157_, M226_, hI229_, hF230_, r225_, hs232_, z233_, e234_, r235_, hs239_, z242_, h243_, z244_, h246_, h245_, r247_, hs251_, z254_, h255_, z256_, h258_, h257_, r259_, hs263_, z264_, e265_, z266_, e267_, M269_, hI272_, hF273_, r268_, hs275_, z276_, z276_h, (Or.inl ⟨h277_, (Or.inr ⟨h278_, M286_, hI289_, hF290_, hs292_, rfl⟩)⟩)⟩)⟩)⟩)⟩)⟩
          · refine w_aload_n dX10_letWalkerGo_121 rfl 6 rfl ?_
            refine w_iload_n dX10_letWalkerGo_122 rfl 7 rfl ?_
            refine w_callVv (as := [vI v]) (rest := []) (c_X10_goOn l G cy ad (d + 2) b v M269_ hI272_ hb) kV_X10_goOn (by decide +kernel) (Nat.le_of_ble_eq_true rfl) m_1057 rfl rfl rfl (ic_10 hb) rfl rfl (by decide) (Nat.le_of_ble_eq_true rfl) dX10_letWalkerGo_123 (fun M293_ q294_ => ?_)
            obtain ⟨hI296_, hF297_, h295_, hs299_⟩ := q294_
            have hF298_ := hF274_.tr hF297_ (fun c k => (fun h => h.elim (fun h => (Or.inr (Or.inr (Or.inr (Or.inr (Or.inr (Or.inr (Or.inr (Or.inl ⟨h.1, h.2⟩))))))))) (fun h => h.elim (fun h => (Or.inr (Or.inr (Or.inr (Or.inr (Or.inr (Or.inr (Or.inr (Or.inr (Or.inl ⟨h.1, h.2.1, h.2.2⟩)))))))))) (fun h => h.elim (fun h => (Or.inr (Or.inr (Or.inr (Or.inr (Or.inr (Or.inr (Or.inr (Or.inr (Or.inr (Or.inl ⟨h.1, h.2.1, h.2.2⟩))))))))))) (fun h => h.elim (fun h => (Or.inr (Or.inr (Or.inr (Or.inr (Or.inr (Or.inr (Or.inr (Or.inr (Or.inr (Or.inr (Or.inl ⟨h.1, h.2⟩)))))))))))) (fun h => h.elim))))))
            refine w_goto (tgt := 146) dX10_letWalkerGo_126 (by decide) ?_
            exact w_vret rfl dX10_letWalkerGo_146 ⟨hI296_, hF298_, trivial, (Or.inl ⟨hs5_, h4_, j7_, h8_, h9_, z10_, e11_, (Or.inr ⟨h12_, z80_, e81_, z82_, h83_, (Or.inr ⟨h84_, r152_, hs156_, h155_, (Or.inr ⟨h157_, M226_, hI229_, hF230_, r225_, hs232_, z233_, e234_, r235_, hs239_, z242_, h243_, z244_, h246_, h245_, r247_, hs251_, z254_, h255_, z256_, h258_, h257_, r259_, hs263_, z264_, e265_, z266_, e267_, M269_, hI272_, hF273_, r268_, hs275_, z276_, z276_h, (Or.inr ⟨h277_, M293_, hI296_, hF297_, hs299_, rfl⟩)⟩)⟩)⟩)⟩)⟩
  · refine w_if_ne (tgt := 9) dX10_letWalkerGo_5 (by decide) li_0 (fun h9 => (absurd h9 (by decide))) (fun h300_ => ?_)
    exact w_vret rfl dX10_letWalkerGo_8 ⟨hIz, hFz, trivial, (Or.inr ⟨hs5_, rfl⟩)⟩
def S_c_X10_passTenth (b : Nat) : rf → Nat → Prop := fun c k => (c.1 = 10 ∧ c.2.1 = b ∧ k = 7) ∨ (c.1 = 35 ∧ c.2.1 = b) ∨ (c.1 = 37 ∧ c.2.1 = b) ∨ (c.1 = 38 ∧ c.2.1 = b) ∨ (c.1 = 29 ∧ c.2.1 = b ∧ k = 0) ∨ (c.1 = 29 ∧ c.2.1 = b ∧ k = 1) ∨ (c.1 = 29 ∧ c.2.1 = b ∧ k = 2) ∨ (c.1 = 29 ∧ c.2.1 = b ∧ k = 3) ∨ (c.1 = 29 ∧ c.2.1 = b ∧ k = 4) ∨ (c.1 = 25 ∧ c.2.1 = b ∧ c.2.2 = 2) ∨ (c.1 = 9 ∧ c.2.1 = b ∧ k = 2) ∨ (c.1 = 9 ∧ c.2.1 = b ∧ k = 1) ∨ (c.1 = 9 ∧ c.2.1 = b ∧ k = 7) ∨ (c.1 = 40 ∧ c.2.1 = b) ∨ (c.1 = 9 ∧ c.2.1 = b ∧ k = 8) ∨ (c.1 = 25 ∧ c.2.1 = b ∧ c.2.2 = 0) ∨ (c.1 = 25 ∧ c.2.1 = b ∧ c.2.2 = 1) ∨ (c.1 = 41 ∧ c.2.1 = b) ∨ False
def ST_X10_passTenth_23 (b : Nat) (Mz : mM) (v1_23 : Int32) (M_23 : mM) (v1_23y : Int32) (M_23y : mM) : Prop := (0 ≤ v1_23.toInt) ∧ (Inv M_23) ∧ (FR (S_c_X10_passTenth b) Mz M_23) ∧ ∃ z19_ : Int32, (z19_ = M_23.1 (10, b, 0) 6) ∧ (v1_23.toInt < z19_.toInt) ∧ (v1_23.toInt < 8) ∧ ∃ j23_ : Nat, ((j23_ : Int) = v1_23.toInt) ∧ (j23_ < 8) ∧ ∃ z26_ : Int32, (z26_ = M_23.1 (9, b, j23_) 6) ∧ (0 ≤ z26_.toInt ∧ z26_.toInt ≤ 1) ∧ (((z26_.toInt = 0) ∧ ∃ z30_ : Int32, (z30_.toInt = v1_23.toInt + 1) ∧ v1_23y = z30_ ∧ M_23y = M_23) ∨ ((¬ z26_.toInt = 0) ∧ ∃ M32_ : mM, (Inv M32_) ∧ (FR (S_c_X10_letWalkerGo b) M_23 M32_) ∧ (SP_X10_letWalkerGo b v1_23 M_23 M32_) ∧ ∃ z39_ : Int32, (z39_.toInt = v1_23.toInt + 1) ∧ v1_23y = z39_ ∧ M_23y = M32_))
def SP_X10_passTenth (b : Nat) (Mz : mM) (M_ : mM) : Prop := ∃ z1_ : Int32, (z1_ = Mz.1 (10, b, 0) 7) ∧ ∃ z3_ : Int32, (z3_ = z1_ + (1 : Int32)) ∧ ∃ M5_ : mM, (M5_ = up Mz (10, b, 0) 7 z3_) ∧ ∃ z9_ : Int32, (z9_ = M5_.1 (10, b, 0) 7) ∧ (Inv M5_) ∧ ∃ M11_ : mM, (Inv M11_) ∧ (FR (S_c_X7_letThingsGo b) M5_ M11_) ∧ (SP_X7_letThingsGo b z9_ M5_ M11_) ∧ ∃ v1_23 : Int32, (0 ≤ v1_23.toInt) ∧ ∃ M_23 : mM, (RCH (fun x_ y_ => ST_X10_passTenth_23 b Mz x_.1 x_.2 y_.1 y_.2) ((0 : Int32), M11_) (v1_23, M_23)) ∧ (Inv M_23) ∧ (FR (S_c_X10_passTenth b) Mz M_23) ∧ ∃ z19_ : Int32, (z19_ = M_23.1 (10, b, 0) 6) ∧ (((z19_.toInt ≤ v1_23.toInt) ∧ M_ = M_23) ∨ ((v1_23.toInt < z19_.toInt) ∧ (8 ≤ v1_23.toInt) ∧ M_ = M_23))
theorem lf_c_X10_passTenth_0 (M5_ : mM) (M_23 : mM) (Mz : mM) (b : Nat) (z1_ : Int32) (z3_ : Int32) (z9_ : Int32) (v1_23 : Int32) (z19_ : Int32) (hb : b < 3) (e2_ : z1_ = Mz.1 (10, b, 0) 7) (hM6_ : M5_ = up Mz (10, b, 0) 7 z3_) (e10_ : z9_ = M5_.1 (10, b, 0) 7) (hv0_23 : 0 ≤ v1_23.toInt) (e20_ : z19_ = M_23.1 (10, b, 0) 6) (h21_ : v1_23.toInt < z19_.toInt) (h22_ : v1_23.toInt < 8) : 0 ≤ v1_23.toInt ∧ v1_23.toInt < ((8 : Nat) : Int) := by have r_z1_ := rngI z1_; have r_z3_ := rngI z3_; have r_z9_ := rngI z9_; have r_v1_23 := rngI v1_23; have r_z19_ := rngI z19_; subst e2_; subst e10_; subst e20_; omega
theorem lf_c_X10_passTenth_1 (M5_ : mM) (M_23 : mM) (Mz : mM) (b : Nat) (z1_ : Int32) (z3_ : Int32) (z9_ : Int32) (v1_23 : Int32) (z19_ : Int32) (j23_ : Nat) (z26_ : Int32) (hb : b < 3) (e2_ : z1_ = Mz.1 (10, b, 0) 7) (hM6_ : M5_ = up Mz (10, b, 0) 7 z3_) (e10_ : z9_ = M5_.1 (10, b, 0) 7) (hv0_23 : 0 ≤ v1_23.toInt) (e20_ : z19_ = M_23.1 (10, b, 0) 6) (h21_ : v1_23.toInt < z19_.toInt) (h22_ : v1_23.toInt < 8) (h24_ : (j23_ : Int) = v1_23.toInt) (h25_ : j23_ < 8) (e27_ : z26_ = M_23.1 (9, b, j23_) 6) (h28_ : 0 ≤ z26_.toInt ∧ z26_.toInt ≤ 1) (h29_ : z26_.toInt = 0) : -2147483648 ≤ v1_23.toInt + 1 ∧ v1_23.toInt + 1 < 2147483648 := by have r_z1_ := rngI z1_; have r_z3_ := rngI z3_; have r_z9_ := rngI z9_; have r_v1_23 := rngI v1_23; have r_z19_ := rngI z19_; have r_z26_ := rngI z26_; subst e2_; subst e10_; subst e20_; subst e27_; omega
theorem lf_c_X10_passTenth_2 (M5_ : mM) (M_23 : mM) (Mz : mM) (b : Nat) (z1_ : Int32) (z3_ : Int32) (z9_ : Int32) (v1_23 : Int32) (z19_ : Int32) (j23_ : Nat) (z26_ : Int32) (z30_ : Int32) (hb : b < 3) (e2_ : z1_ = Mz.1 (10, b, 0) 7) (hM6_ : M5_ = up Mz (10, b, 0) 7 z3_) (e10_ : z9_ = M5_.1 (10, b, 0) 7) (hv0_23 : 0 ≤ v1_23.toInt) (e20_ : z19_ = M_23.1 (10, b, 0) 6) (h21_ : v1_23.toInt < z19_.toInt) (h22_ : v1_23.toInt < 8) (h24_ : (j23_ : Int) = v1_23.toInt) (h25_ : j23_ < 8) (e27_ : z26_ = M_23.1 (9, b, j23_) 6) (h28_ : 0 ≤ z26_.toInt ∧ z26_.toInt ≤ 1) (h29_ : z26_.toInt = 0) (h31_ : z30_.toInt = v1_23.toInt + 1) : 0 ≤ z30_.toInt := by have r_z1_ := rngI z1_; have r_z3_ := rngI z3_; have r_z9_ := rngI z9_; have r_v1_23 := rngI v1_23; have r_z19_ := rngI z19_; have r_z26_ := rngI z26_; have r_z30_ := rngI z30_; omega
theorem lf_c_X10_passTenth_3 (M5_ : mM) (M_23 : mM) (Mz : mM) (b : Nat) (z1_ : Int32) (z3_ : Int32) (z9_ : Int32) (v1_23 : Int32) (z19_ : Int32) (j23_ : Nat) (z26_ : Int32) (z30_ : Int32) (hb : b < 3) (e2_ : z1_ = Mz.1 (10, b, 0) 7) (hM6_ : M5_ = up Mz (10, b, 0) 7 z3_) (e10_ : z9_ = M5_.1 (10, b, 0) 7) (hv0_23 : 0 ≤ v1_23.toInt) (e20_ : z19_ = M_23.1 (10, b, 0) 6) (h21_ : v1_23.toInt < z19_.toInt) (h22_ : v1_23.toInt < 8) (h24_ : (j23_ : Int) = v1_23.toInt) (h25_ : j23_ < 8) (e27_ : z26_ = M_23.1 (9, b, j23_) 6) (h28_ : 0 ≤ z26_.toInt ∧ z26_.toInt ≤ 1) (h29_ : z26_.toInt = 0) (h31_ : z30_.toInt = v1_23.toInt + 1) : (2147483648 - z30_.toInt).toNat < (2147483648 - v1_23.toInt).toNat := by have r_z1_ := rngI z1_; have r_z3_ := rngI z3_; have r_z9_ := rngI z9_; have r_v1_23 := rngI v1_23; have r_z19_ := rngI z19_; have r_z26_ := rngI z26_; have r_z30_ := rngI z30_; omega
theorem lf_c_X10_passTenth_4 (M5_ : mM) (M_23 : mM) (Mz : mM) (b : Nat) (z1_ : Int32) (z3_ : Int32) (z9_ : Int32) (v1_23 : Int32) (z19_ : Int32) (j23_ : Nat) (z26_ : Int32) (hb : b < 3) (e2_ : z1_ = Mz.1 (10, b, 0) 7) (hM6_ : M5_ = up Mz (10, b, 0) 7 z3_) (e10_ : z9_ = M5_.1 (10, b, 0) 7) (hv0_23 : 0 ≤ v1_23.toInt) (e20_ : z19_ = M_23.1 (10, b, 0) 6) (h21_ : v1_23.toInt < z19_.toInt) (h22_ : v1_23.toInt < 8) (h24_ : (j23_ : Int) = v1_23.toInt) (h25_ : j23_ < 8) (e27_ : z26_ = M_23.1 (9, b, j23_) 6) (h28_ : 0 ≤ z26_.toInt ∧ z26_.toInt ≤ 1) (h29_ : ¬ z26_.toInt = 0) : -2147483648 ≤ v1_23.toInt + 1 ∧ v1_23.toInt + 1 < 2147483648 := by have r_z1_ := rngI z1_; have r_z3_ := rngI z3_; have r_z9_ := rngI z9_; have r_v1_23 := rngI v1_23; have r_z19_ := rngI z19_; have r_z26_ := rngI z26_; subst e2_; subst e10_; subst e20_; subst e27_; omega
theorem lf_c_X10_passTenth_5 (M5_ : mM) (M_23 : mM) (Mz : mM) (b : Nat) (z1_ : Int32) (z3_ : Int32) (z9_ : Int32) (v1_23 : Int32) (z19_ : Int32) (j23_ : Nat) (z26_ : Int32) (z39_ : Int32) (hb : b < 3) (e2_ : z1_ = Mz.1 (10, b, 0) 7) (hM6_ : M5_ = up Mz (10, b, 0) 7 z3_) (e10_ : z9_ = M5_.1 (10, b, 0) 7) (hv0_23 : 0 ≤ v1_23.toInt) (e20_ : z19_ = M_23.1 (10, b, 0) 6) (h21_ : v1_23.toInt < z19_.toInt) (h22_ : v1_23.toInt < 8) (h24_ : (j23_ : Int) = v1_23.toInt) (h25_ : j23_ < 8) (e27_ : z26_ = M_23.1 (9, b, j23_) 6) (h28_ : 0 ≤ z26_.toInt ∧ z26_.toInt ≤ 1) (h29_ : ¬ z26_.toInt = 0) (h40_ : z39_.toInt = v1_23.toInt + 1) : 0 ≤ z39_.toInt := by have r_z1_ := rngI z1_; have r_z3_ := rngI z3_; have r_z9_ := rngI z9_; have r_v1_23 := rngI v1_23; have r_z19_ := rngI z19_; have r_z26_ := rngI z26_; have r_z39_ := rngI z39_; omega
theorem lf_c_X10_passTenth_6 (M5_ : mM) (M_23 : mM) (Mz : mM) (b : Nat) (z1_ : Int32) (z3_ : Int32) (z9_ : Int32) (v1_23 : Int32) (z19_ : Int32) (j23_ : Nat) (z26_ : Int32) (z39_ : Int32) (hb : b < 3) (e2_ : z1_ = Mz.1 (10, b, 0) 7) (hM6_ : M5_ = up Mz (10, b, 0) 7 z3_) (e10_ : z9_ = M5_.1 (10, b, 0) 7) (hv0_23 : 0 ≤ v1_23.toInt) (e20_ : z19_ = M_23.1 (10, b, 0) 6) (h21_ : v1_23.toInt < z19_.toInt) (h22_ : v1_23.toInt < 8) (h24_ : (j23_ : Int) = v1_23.toInt) (h25_ : j23_ < 8) (e27_ : z26_ = M_23.1 (9, b, j23_) 6) (h28_ : 0 ≤ z26_.toInt ∧ z26_.toInt ≤ 1) (h29_ : ¬ z26_.toInt = 0) (h40_ : z39_.toInt = v1_23.toInt + 1) : (2147483648 - z39_.toInt).toNat < (2147483648 - v1_23.toInt).toNat := by have r_z1_ := rngI z1_; have r_z3_ := rngI z3_; have r_z9_ := rngI z9_; have r_v1_23 := rngI v1_23; have r_z19_ := rngI z19_; have r_z26_ := rngI z26_; have r_z39_ := rngI z39_; omega
theorem lf_c_X10_passTenth_7    : 0 ≤ (0 : Int32).toInt := by have q0 := li_0; omega
set_option maxHeartbeats 4000000 in
set_option maxRecDepth 100000 in
theorem c_X10_passTenth (l : Launch) (G : va_G) (cy : Nat → ClassId) (ad : rf → Nat) (d : Nat) (b : Nat) (Mz : mM) (hIz : Inv Mz) (hb : b < 3) : WP CC l G cy ad yX10_passTenth cX10_passTenth 2 none (d + 6) 0 [(0, vR (10, b, 0))] [] Mz (fun r M' => Inv M' ∧ FR (S_c_X10_passTenth b) Mz M' ∧ (True) ∧ SP_X10_passTenth b Mz M') := by
  have hFz : FR (S_c_X10_passTenth b) Mz Mz := FR.self
  refine w_aload_n dX10_passTenth_0 rfl 0 rfl ?_
  refine w_dup dX10_passTenth_1 rfl ?_
  refine w_getI fl_RX10_54 rfl rfl (ic_10 hb) dX10_passTenth_2 (fun z1_ e2_ => ?_)
  refine w_iconst (v := 1) dX10_passTenth_5 (by decide) ?_
  refine w_iadd dX10_passTenth_6 (fun z3_ h4_ => ?_)
  refine w_putI CC_nd fl_RX10_54 rfl rfl (ic_10 hb) dX10_passTenth_7 (fun M5_ hM6_ => ?_)
  have hI7_ := hIz.put hM6_ trivial
  have hF8_ := hFz.put hM6_ (Or.inl ⟨rfl, rfl, rfl⟩)
  refine w_aload_n dX10_passTenth_10 rfl 0 rfl ?_
  refine w_getR (c' := (7, b, 0)) fl_RX10_10 rfl rfl (ic_10 hb) dX10_passTenth_11 rfl ?_
  refine w_aload_n dX10_passTenth_14 rfl 0 rfl ?_
  refine w_getI fl_RX10_54 rfl rfl (ic_10 hb) dX10_passTenth_15 (fun z9_ e10_ => ?_)
  refine w_callVv (as := [vI z9_]) (rest := []) (c_X7_letThingsGo l G cy ad (d + 2) b z9_ M5_ hI7_ hb) kV_X7_letThingsGo (by decide +kernel) (Nat.le_of_ble_eq_true rfl) m_1029 rfl rfl rfl (ic_7 hb) rfl rfl (by decide) (Nat.le_of_ble_eq_true rfl) dX10_passTenth_18 (fun M11_ q12_ => ?_)
  obtain ⟨hI14_, hF15_, h13_, hs17_⟩ := q12_
  have hF16_ := hF8_.tr hF15_ (fun c k => (fun h => h.elim (fun h => (Or.inr (Or.inl ⟨h.1, h.2⟩))) (fun h => h.elim (fun h => (Or.inr (Or.inr (Or.inl ⟨h.1, h.2⟩)))) (fun h => h.elim (fun h => (Or.inr (Or.inr (Or.inr (Or.inl ⟨h.1, h.2⟩))))) (fun h => h.elim)))))
  refine w_iconst (v := 0) dX10_passTenth_21 (by decide) ?_
  refine w_istore_n (ls' := [(1, vI 0), (0, vR (10, b, 0))]) dX10_passTenth_22 rfl (by decide) rfl ?_
  have lp18_ : ∀ (nn_23 : Nat) (M_23 : mM) (hI_23 : Inv M_23) (hF_23 : FR (S_c_X10_passTenth b) Mz M_23) (v1_23 : Int32) (hv0_23 : 0 ≤ v1_23.toInt) (hL_23 : RCH (fun x_ y_ => ST_X10_passTenth_23 b Mz x_.1 x_.2 y_.1 y_.2) ((0 : Int32), M11_) (v1_23, M_23)), (2147483648 - v1_23.toInt).toNat < nn_23 → WP CC l G cy ad yX10_passTenth cX10_passTenth 2 none (d + 6) 23 [(1, vI v1_23), (0, vR (10, b, 0))] [] M_23 (fun r M' => Inv M' ∧ FR (S_c_X10_passTenth b) Mz M' ∧ (True) ∧ SP_X10_passTenth b Mz M') := by
    intro nn_23
    induction nn_23 with
    | zero => intro M_23 hI_23 hF_23 v1_23 hv0_23 hL_23 hm_23; exact absurd hm_23 (Nat.not_lt_zero _)
    | succ nn_23 ih_23 =>
      intro M_23 hI_23 hF_23 v1_23 hv0_23 hL_23 hm_23
      refine w_iload_n dX10_passTenth_23 rfl 0 rfl ?_
      refine w_aload_n dX10_passTenth_24 rfl 1 rfl ?_
      refine w_getI fl_RX10_50 rfl rfl (ic_10 hb) dX10_passTenth_25 (fun z19_ e20_ => ?_)
      refine w_icmp_ge (tgt := 60) dX10_passTenth_28 (by decide) (rfl : v1_23.toInt = v1_23.toInt) (rfl : z19_.toInt = z19_.toInt) (fun h21_ => ?_) (fun h21_ => ?_)
      · exact w_vret rfl dX10_passTenth_60 ⟨hI_23, hF_23, trivial, ⟨z1_, e2_, z3_, h4_, M5_, hM6_, z9_, e10_, hI7_, M11_, hI14_, hF15_, hs17_, v1_23, hv0_23, M_23, hL_23, hI_23, hF_23, z19_, e20_, (Or.inl ⟨h21_, rfl⟩)⟩⟩
      · refine w_iload_n dX10_passTenth_31 rfl 0 rfl ?_
        refine w_bipush (v := 8) dX10_passTenth_32 (by decide) ?_
        refine w_icmp_ge (tgt := 60) dX10_passTenth_34 (by decide) (rfl : v1_23.toInt = v1_23.toInt) li_8 (fun h22_ => ?_) (fun h22_ => ?_)
        · exact w_vret rfl dX10_passTenth_60 ⟨hI_23, hF_23, trivial, ⟨z1_, e2_, z3_, h4_, M5_, hM6_, z9_, e10_, hI7_, M11_, hI14_, hF15_, hs17_, v1_23, hv0_23, M_23, hL_23, hI_23, hF_23, z19_, e20_, (Or.inr ⟨h21_, h22_, rfl⟩)⟩⟩
        · refine w_aload_n dX10_passTenth_37 rfl 1 rfl ?_
          refine w_getR (c' := (42, b, 0)) fl_RX10_46 rfl rfl (ic_10 hb) dX10_passTenth_38 rfl ?_
          refine w_iload_n dX10_passTenth_41 rfl 0 rfl ?_
          refine w_aald rfl rfl rfl (fun _ => rfl) (ic_42 hb) (rfl : v1_23.toInt = v1_23.toInt) (lf_c_X10_passTenth_0 M5_ M_23 Mz b z1_ z3_ z9_ v1_23 z19_ hb e2_ hM6_ e10_ hv0_23 e20_ h21_ h22_) dX10_passTenth_42 (fun j23_ h24_ h25_ => ?_)
          refine w_getI fl_RX10_144 rfl rfl (ic_9 hb h25_) dX10_passTenth_43 (fun z26_ e27_ => ?_)
          have h28_ : 0 ≤ z26_.toInt ∧ z26_.toInt ≤ 1 := ofEq (P := fun v => 0 ≤ v.toInt ∧ v.toInt ≤ 1) e27_ (hI_23 (9, b, j23_) 6 rfl)
          refine w_if_eq (tgt := 54) dX10_passTenth_46 (by decide) (rfl : z26_.toInt = z26_.toInt) (fun h29_ => ?_) (fun h29_ => ?_)
          · refine w_iincB (j := 0) (f := fun z30_ => [(1, vI z30_), (0, vR (10, b, 0))]) dX10_passTenth_54 rfl (by decide) (fun _ => rfl) (rfl : v1_23.toInt = v1_23.toInt) li_1 (lf_c_X10_passTenth_1 M5_ M_23 Mz b z1_ z3_ z9_ v1_23 z19_ j23_ z26_ hb e2_ hM6_ e10_ hv0_23 e20_ h21_ h22_ h24_ h25_ e27_ h28_ h29_) (fun z30_ h31_ => ?_)
            refine w_goto (tgt := 23) dX10_passTenth_57 (by decide) ?_
            refine w_loc (ls' := [(1, vI z30_), (0, vR (10, b, 0))]) [0, 1] rfl ?_
            exact ih_23 M_23 hI_23 hF_23 z30_ (lf_c_X10_passTenth_2 M5_ M_23 Mz b z1_ z3_ z9_ v1_23 z19_ j23_ z26_ z30_ hb e2_ hM6_ e10_ hv0_23 e20_ h21_ h22_ h24_ h25_ e27_ h28_ h29_ h31_) (RCH.tail hL_23 ⟨hv0_23, hI_23, hF_23, z19_, e20_, h21_, h22_, j23_, h24_, h25_, z26_, e27_, h28_, (Or.inl ⟨h29_, z30_, h31_, rfl, rfl⟩)⟩) (Nat.lt_of_lt_of_le (lf_c_X10_passTenth_3 M5_ M_23 Mz b z1_ z3_ z9_ v1_23 z19_ j23_ z26_ z30_ hb e2_ hM6_ e10_ hv0_23 e20_ h21_ h22_ h24_ h25_ e27_ h28_ h29_ h31_) (Nat.le_of_lt_succ hm_23))
          · refine w_aload_n dX10_passTenth_49 rfl 1 rfl ?_
            refine w_iload_n dX10_passTenth_50 rfl 0 rfl ?_
            refine w_callVv (as := [vI v1_23]) (rest := []) (c_X10_letWalkerGo l G cy ad d b v1_23 M_23 hI_23 hb) kV_X10_letWalkerGo (by decide +kernel) (Nat.le_of_ble_eq_true rfl) m_1039 rfl rfl rfl (ic_10 hb) rfl rfl (by decide) (Nat.le_of_ble_eq_true rfl) dX10_passTenth_51 (fun M32_ q33_ => ?_)
            obtain ⟨hI35_, hF36_, h34_, hs38_⟩ := q33_
            have hF37_ := hF_23.tr hF36_ (fun c k => (fun h => h.elim (fun h => (Or.inr (Or.inr (Or.inr (Or.inr (Or.inl ⟨h.1, h.2.1, h.2.2⟩)))))) (fun h => h.elim (fun h => (Or.inr (Or.inr (Or.inr (Or.inr (Or.inr (Or.inl ⟨h.1, h.2.1, h.2.2⟩))))))) (fun h => h.elim (fun h => (Or.inr (Or.inr (Or.inr (Or.inr (Or.inr (Or.inr (Or.inl ⟨h.1, h.2.1, h.2.2⟩)))))))) (fun h => h.elim (fun h => (Or.inr (Or.inr (Or.inr (Or.inr (Or.inr (Or.inr (Or.inr (Or.inl ⟨h.1, h.2.1, h.2.2⟩))))))))) (fun h => h.elim (fun h => (Or.inr (Or.inr (Or.inr (Or.inr (Or.inr (Or.inr (Or.inr (Or.inr (Or.inl ⟨h.1, h.2.1, h.2.2⟩)))))))))) (fun h => h.elim (fun h => (Or.inr (Or.inr (Or.inr (Or.inr (Or.inr (Or.inr (Or.inr (Or.inr (Or.inr (Or.inl ⟨h.1, h.2.1, h.2.2⟩))))))))))) (fun h => h.elim (fun h => (Or.inr (Or.inr (Or.inr (Or.inr (Or.inr (Or.inr (Or.inr (Or.inr (Or.inr (Or.inr (Or.inl ⟨h.1, h.2.1, h.2.2⟩)))))))))))) (fun h => h.elim (fun h => (Or.inr (Or.inl ⟨h.1, h.2⟩))) (fun h => h.elim (fun h => (Or.inr (Or.inr (Or.inr (Or.inr (Or.inr (Or.inr (Or.inr (Or.inr (Or.inr (Or.inr (Or.inr (Or.inl ⟨h.1, h.2.1, h.2.2⟩))))))))))))) (fun h => h.elim (fun h => (Or.inr (Or.inr (Or.inr (Or.inr (Or.inr (Or.inr (Or.inr (Or.inr (Or.inr (Or.inr (Or.inr (Or.inr (Or.inl ⟨h.1, h.2.1, h.2.2⟩)))))))))))))) (fun h => h.elim (fun h => (Or.inr (Or.inr (Or.inr (Or.inr (Or.inr (Or.inr (Or.inr (Or.inr (Or.inr (Or.inr (Or.inr (Or.inr (Or.inr (Or.inl ⟨h.1, h.2⟩))))))))))))))) (fun h => h.elim (fun h => (Or.inr (Or.inr (Or.inr (Or.inr (Or.inr (Or.inr (Or.inr (Or.inr (Or.inr (Or.inr (Or.inr (Or.inr (Or.inr (Or.inr (Or.inl ⟨h.1, h.2.1, h.2.2⟩)))))))))))))))) (fun h => h.elim (fun h => (Or.inr (Or.inr (Or.inr (Or.inr (Or.inr (Or.inr (Or.inr (Or.inr (Or.inr (Or.inr (Or.inr (Or.inr (Or.inr (Or.inr (Or.inr (Or.inl ⟨h.1, h.2.1, h.2.2⟩))))))))))))))))) (fun h => h.elim (fun h => (Or.inr (Or.inr (Or.inr (Or.inr (Or.inr (Or.inr (Or.inr (Or.inr (Or.inr (Or.inr (Or.inr (Or.inr (Or.inr (Or.inr (Or.inr (Or.inr (Or.inl ⟨h.1, h.2.1, h.2.2⟩)))))))))))))))))) (fun h => h.elim (fun h => (Or.inr (Or.inr (Or.inr (Or.inr (Or.inr (Or.inr (Or.inr (Or.inr (Or.inr (Or.inr (Or.inr (Or.inr (Or.inr (Or.inr (Or.inr (Or.inr (Or.inr (Or.inl ⟨h.1, h.2⟩))))))))))))))))))) (fun h => h.elim)))))))))))))))))
            refine w_iincB (j := 0) (f := fun z39_ => [(1, vI z39_), (0, vR (10, b, 0))]) dX10_passTenth_54 rfl (by decide) (fun _ => rfl) (rfl : v1_23.toInt = v1_23.toInt) li_1 (lf_c_X10_passTenth_4 M5_ M_23 Mz b z1_ z3_ z9_ v1_23 z19_ j23_ z26_ hb e2_ hM6_ e10_ hv0_23 e20_ h21_ h22_ h24_ h25_ e27_ h28_ h29_) (fun z39_ h40_ => ?_)
            refine w_goto (tgt := 23) dX10_passTenth_57 (by decide) ?_
            refine w_loc (ls' := [(1, vI z39_), (0, vR (10, b, 0))]) [0, 1] rfl ?_
            exact ih_23 M32_ hI35_ hF37_ z39_ (lf_c_X10_passTenth_5 M5_ M_23 Mz b z1_ z3_ z9_ v1_23 z19_ j23_ z26_ z39_ hb e2_ hM6_ e10_ hv0_23 e20_ h21_ h22_ h24_ h25_ e27_ h28_ h29_ h40_) (RCH.tail hL_23 ⟨hv0_23, hI_23, hF_23, z19_, e20_, h21_, h22_, j23_, h24_, h25_, z26_, e27_, h28_, (Or.inr ⟨h29_, M32_, hI35_, hF36_, hs38_, z39_, h40_, rfl, rfl⟩)⟩) (Nat.lt_of_lt_of_le (lf_c_X10_passTenth_6 M5_ M_23 Mz b z1_ z3_ z9_ v1_23 z19_ j23_ z26_ z39_ hb e2_ hM6_ e10_ hv0_23 e20_ h21_ h22_ h24_ h25_ e27_ h28_ h29_ h40_) (Nat.le_of_lt_succ hm_23))
  exact lp18_ _ M11_ hI14_ hF16_ 0 (lf_c_X10_passTenth_7 ) RCH.refl (Nat.lt_succ_self _)
def S_c_X10_takeFrom (b : Nat) (b2 : Nat) : rf → Nat → Prop := fun c k => (c.1 = 35 ∧ c.2.1 = b) ∨ (c.1 = 36 ∧ c.2.1 = b) ∨ (c.1 = 37 ∧ c.2.1 = b) ∨ (c.1 = 38 ∧ c.2.1 = b) ∨ (c.1 = 39 ∧ c.2.1 = b) ∨ (c.1 = 7 ∧ c.2.1 = b ∧ k = 5) ∨ (c.1 = 2 ∧ c.2.1 = b ∧ k = 0) ∨ (c.1 = 2 ∧ c.2.1 = b ∧ k = 1) ∨ (c.1 = 2 ∧ c.2.1 = b ∧ k = 2) ∨ (c.1 = 26 ∧ c.2.1 = b) ∨ (c.1 = 27 ∧ c.2.1 = b) ∨ (c.1 = 1 ∧ c.2.1 = b ∧ k = 2) ∨ (c.1 = 24 ∧ c.2.1 = b) ∨ (c.1 = 30 ∧ c.2.1 = b) ∨ (c.1 = 31 ∧ c.2.1 = b) ∨ (c.1 = 32 ∧ c.2.1 = b) ∨ (c.1 = 3 ∧ c.2.1 = b ∧ k = 3) ∨ (c.1 = 5 ∧ c.2.1 = b ∧ c.2.2 = 0 ∧ k = 1) ∨ (c.1 = 33 ∧ c.2.1 = b ∧ c.2.2 = 0) ∨ (c.1 = 5 ∧ c.2.1 = b ∧ c.2.2 = 1 ∧ k = 1) ∨ (c.1 = 33 ∧ c.2.1 = b ∧ c.2.2 = 1) ∨ (c.1 = 10 ∧ c.2.1 = b ∧ k = 6) ∨ (c.1 = 10 ∧ c.2.1 = b ∧ k = 7) ∨ (c.1 = 9 ∧ c.2.1 = b ∧ k = 0) ∨ (c.1 = 9 ∧ c.2.1 = b ∧ k = 1) ∨ (c.1 = 9 ∧ c.2.1 = b ∧ k = 2) ∨ (c.1 = 9 ∧ c.2.1 = b ∧ k = 3) ∨ (c.1 = 9 ∧ c.2.1 = b ∧ k = 4) ∨ (c.1 = 9 ∧ c.2.1 = b ∧ k = 5) ∨ (c.1 = 9 ∧ c.2.1 = b ∧ k = 6) ∨ (c.1 = 9 ∧ c.2.1 = b ∧ k = 7) ∨ (c.1 = 9 ∧ c.2.1 = b ∧ k = 8) ∨ (c.1 = 40 ∧ c.2.1 = b) ∨ (c.1 = 41 ∧ c.2.1 = b) ∨ False
def ST_X10_takeFrom_73 (b : Nat) (b2 : Nat) (Mz : mM) (v2_73 : Int32) (M_73 : mM) (v2_73y : Int32) (M_73y : mM) : Prop := (0 ≤ v2_73.toInt) ∧ (Inv M_73) ∧ (FR (S_c_X10_takeFrom b b2) Mz M_73) ∧ ∃ z49_ : Int32, (z49_ = M_73.1 (10, b, 0) 6) ∧ (v2_73.toInt < z49_.toInt) ∧ (v2_73.toInt < 8) ∧ ∃ j53_ : Nat, ((j53_ : Int) = v2_73.toInt) ∧ (j53_ < 8) ∧ ∃ j56_ : Nat, ((j56_ : Int) = v2_73.toInt) ∧ (j56_ < 8) ∧ ∃ M59_ : mM, (Inv M59_) ∧ (FR (S_c_X9_takeFrom b j53_ b2 j56_) M_73 M59_) ∧ (SP_X9_takeFrom b j53_ b2 j56_ M_73 M59_) ∧ ∃ z66_ : Int32, (z66_.toInt = v2_73.toInt + 1) ∧ v2_73y = z66_ ∧ M_73y = M59_
def SP_X10_takeFrom (b : Nat) (b2 : Nat) (Mz : mM) (M_ : mM) : Prop := ∃ M1_ : mM, (Inv M1_) ∧ (FR (S_c_X7_takeFrom b b2) Mz M1_) ∧ (SP_X7_takeFrom b b2 Mz M1_) ∧ ∃ M8_ : mM, (Inv M8_) ∧ (FR (S_c_X2_takeFrom b b2) M1_ M8_) ∧ (SP_X2_takeFrom b b2 M1_ M8_) ∧ ∃ M15_ : mM, (Inv M15_) ∧ (FR (S_c_X3_takeFrom b b2) M8_ M15_) ∧ (SP_X3_takeFrom b b2 M8_ M15_) ∧ ∃ M22_ : mM, (Inv M22_) ∧ (FR (S_c_X5_takeFrom b 0 b2 0) M15_ M22_) ∧ (SP_X5_takeFrom b 0 b2 0 M15_ M22_) ∧ ∃ M29_ : mM, (Inv M29_) ∧ (FR (S_c_X5_takeFrom b 1 b2 1) M22_ M29_) ∧ (SP_X5_takeFrom b 1 b2 1 M22_ M29_) ∧ ∃ z36_ : Int32, (z36_ = M29_.1 (10, b2, 0) 6) ∧ ∃ M38_ : mM, (M38_ = up M29_ (10, b, 0) 6 z36_) ∧ ∃ z42_ : Int32, (z42_ = M38_.1 (10, b2, 0) 7) ∧ ∃ M44_ : mM, (M44_ = up M38_ (10, b, 0) 7 z42_) ∧ ∃ v2_73 : Int32, (0 ≤ v2_73.toInt) ∧ ∃ M_73 : mM, (RCH (fun x_ y_ => ST_X10_takeFrom_73 b b2 Mz x_.1 x_.2 y_.1 y_.2) ((0 : Int32), M44_) (v2_73, M_73)) ∧ (Inv M_73) ∧ (FR (S_c_X10_takeFrom b b2) Mz M_73) ∧ ∃ z49_ : Int32, (z49_ = M_73.1 (10, b, 0) 6) ∧ (((z49_.toInt ≤ v2_73.toInt) ∧ M_ = M_73) ∨ ((v2_73.toInt < z49_.toInt) ∧ (8 ≤ v2_73.toInt) ∧ M_ = M_73))
theorem lf_c_X10_takeFrom_0  (b : Nat) (hb : b < 3) : vRw b 0 := by unfold vRw; omega
theorem lf_c_X10_takeFrom_1  (b2 : Nat) (hb2 : b2 < 3) : vRw b2 0 := by unfold vRw; omega
theorem lf_c_X10_takeFrom_2  (b : Nat) (hb : b < 3) : vRw b 0 := by unfold vRw; omega
theorem lf_c_X10_takeFrom_3  (b : Nat) (hb : b < 3) : vRw b 1 := by unfold vRw; omega
theorem lf_c_X10_takeFrom_4  (b2 : Nat) (hb2 : b2 < 3) : vRw b2 1 := by unfold vRw; omega
theorem lf_c_X10_takeFrom_5  (b : Nat) (hb : b < 3) : vRw b 1 := by unfold vRw; omega
theorem lf_c_X10_takeFrom_6 (M29_ : mM) (M38_ : mM) (M44_ : mM) (M_73 : mM) (b : Nat) (b2 : Nat) (z36_ : Int32) (z42_ : Int32) (v2_73 : Int32) (z49_ : Int32) (hb : b < 3) (hb2 : b2 < 3) (e37_ : z36_ = M29_.1 (10, b2, 0) 6) (hM39_ : M38_ = up M29_ (10, b, 0) 6 z36_) (e43_ : z42_ = M38_.1 (10, b2, 0) 7) (hM45_ : M44_ = up M38_ (10, b, 0) 7 z42_) (hv0_73 : 0 ≤ v2_73.toInt) (e50_ : z49_ = M_73.1 (10, b, 0) 6) (h51_ : v2_73.toInt < z49_.toInt) (h52_ : v2_73.toInt < 8) : 0 ≤ v2_73.toInt ∧ v2_73.toInt < ((8 : Nat) : Int) := by have r_z36_ := rngI z36_; have r_z42_ := rngI z42_; have r_v2_73 := rngI v2_73; have r_z49_ := rngI z49_; subst e37_; subst e43_; subst e50_; omega
theorem lf_c_X10_takeFrom_7 (M29_ : mM) (M38_ : mM) (M44_ : mM) (M_73 : mM) (b : Nat) (b2 : Nat) (z36_ : Int32) (z42_ : Int32) (v2_73 : Int32) (z49_ : Int32) (j53_ : Nat) (hb : b < 3) (hb2 : b2 < 3) (e37_ : z36_ = M29_.1 (10, b2, 0) 6) (hM39_ : M38_ = up M29_ (10, b, 0) 6 z36_) (e43_ : z42_ = M38_.1 (10, b2, 0) 7) (hM45_ : M44_ = up M38_ (10, b, 0) 7 z42_) (hv0_73 : 0 ≤ v2_73.toInt) (e50_ : z49_ = M_73.1 (10, b, 0) 6) (h51_ : v2_73.toInt < z49_.toInt) (h52_ : v2_73.toInt < 8) (h54_ : (j53_ : Int) = v2_73.toInt) (h55_ : j53_ < 8) : 0 ≤ v2_73.toInt ∧ v2_73.toInt < ((8 : Nat) : Int) := by have r_z36_ := rngI z36_; have r_z42_ := rngI z42_; have r_v2_73 := rngI v2_73; have r_z49_ := rngI z49_; subst e37_; subst e43_; subst e50_; omega
theorem lf_c_X10_takeFrom_8 (M29_ : mM) (M38_ : mM) (M44_ : mM) (M_73 : mM) (b : Nat) (b2 : Nat) (z36_ : Int32) (z42_ : Int32) (v2_73 : Int32) (z49_ : Int32) (j53_ : Nat) (j56_ : Nat) (hb : b < 3) (hb2 : b2 < 3) (e37_ : z36_ = M29_.1 (10, b2, 0) 6) (hM39_ : M38_ = up M29_ (10, b, 0) 6 z36_) (e43_ : z42_ = M38_.1 (10, b2, 0) 7) (hM45_ : M44_ = up M38_ (10, b, 0) 7 z42_) (hv0_73 : 0 ≤ v2_73.toInt) (e50_ : z49_ = M_73.1 (10, b, 0) 6) (h51_ : v2_73.toInt < z49_.toInt) (h52_ : v2_73.toInt < 8) (h54_ : (j53_ : Int) = v2_73.toInt) (h55_ : j53_ < 8) (h57_ : (j56_ : Int) = v2_73.toInt) (h58_ : j56_ < 8) : -2147483648 ≤ v2_73.toInt + 1 ∧ v2_73.toInt + 1 < 2147483648 := by have r_z36_ := rngI z36_; have r_z42_ := rngI z42_; have r_v2_73 := rngI v2_73; have r_z49_ := rngI z49_; subst e37_; subst e43_; subst e50_; omega
theorem lf_c_X10_takeFrom_9 (M29_ : mM) (M38_ : mM) (M44_ : mM) (M_73 : mM) (b : Nat) (b2 : Nat) (z36_ : Int32) (z42_ : Int32) (v2_73 : Int32) (z49_ : Int32) (j53_ : Nat) (j56_ : Nat) (z66_ : Int32) (hb : b < 3) (hb2 : b2 < 3) (e37_ : z36_ = M29_.1 (10, b2, 0) 6) (hM39_ : M38_ = up M29_ (10, b, 0) 6 z36_) (e43_ : z42_ = M38_.1 (10, b2, 0) 7) (hM45_ : M44_ = up M38_ (10, b, 0) 7 z42_) (hv0_73 : 0 ≤ v2_73.toInt) (e50_ : z49_ = M_73.1 (10, b, 0) 6) (h51_ : v2_73.toInt < z49_.toInt) (h52_ : v2_73.toInt < 8) (h54_ : (j53_ : Int) = v2_73.toInt) (h55_ : j53_ < 8) (h57_ : (j56_ : Int) = v2_73.toInt) (h58_ : j56_ < 8) (h67_ : z66_.toInt = v2_73.toInt + 1) : 0 ≤ z66_.toInt := by have r_z36_ := rngI z36_; have r_z42_ := rngI z42_; have r_v2_73 := rngI v2_73; have r_z49_ := rngI z49_; have r_z66_ := rngI z66_; omega
theorem lf_c_X10_takeFrom_10 (M29_ : mM) (M38_ : mM) (M44_ : mM) (M_73 : mM) (b : Nat) (b2 : Nat) (z36_ : Int32) (z42_ : Int32) (v2_73 : Int32) (z49_ : Int32) (j53_ : Nat) (j56_ : Nat) (z66_ : Int32) (hb : b < 3) (hb2 : b2 < 3) (e37_ : z36_ = M29_.1 (10, b2, 0) 6) (hM39_ : M38_ = up M29_ (10, b, 0) 6 z36_) (e43_ : z42_ = M38_.1 (10, b2, 0) 7) (hM45_ : M44_ = up M38_ (10, b, 0) 7 z42_) (hv0_73 : 0 ≤ v2_73.toInt) (e50_ : z49_ = M_73.1 (10, b, 0) 6) (h51_ : v2_73.toInt < z49_.toInt) (h52_ : v2_73.toInt < 8) (h54_ : (j53_ : Int) = v2_73.toInt) (h55_ : j53_ < 8) (h57_ : (j56_ : Int) = v2_73.toInt) (h58_ : j56_ < 8) (h67_ : z66_.toInt = v2_73.toInt + 1) : (2147483648 - z66_.toInt).toNat < (2147483648 - v2_73.toInt).toNat := by have r_z36_ := rngI z36_; have r_z42_ := rngI z42_; have r_v2_73 := rngI v2_73; have r_z49_ := rngI z49_; have r_z66_ := rngI z66_; omega
theorem lf_c_X10_takeFrom_11    : 0 ≤ (0 : Int32).toInt := by have q0 := li_0; omega
set_option maxHeartbeats 4000000 in
set_option maxRecDepth 100000 in
theorem c_X10_takeFrom (l : Launch) (G : va_G) (cy : Nat → ClassId) (ad : rf → Nat) (d : Nat) (b : Nat) (b2 : Nat) (Mz : mM) (hIz : Inv Mz) (hb : b < 3) (hb2 : b2 < 3) : WP CC l G cy ad yX10_takeFrom cX10_takeFrom 3 none (d + 3) 0 [(0, vR (10, b, 0)), (1, vR (10, b2, 0))] [] Mz (fun r M' => Inv M' ∧ FR (S_c_X10_takeFrom b b2) Mz M' ∧ (True) ∧ SP_X10_takeFrom b b2 Mz M') := by
  have hFz : FR (S_c_X10_takeFrom b b2) Mz Mz := FR.self
  refine w_aload_n dX10_takeFrom_0 rfl 0 rfl ?_
  refine w_getR (c' := (7, b, 0)) fl_RX10_10 rfl rfl (ic_10 hb) dX10_takeFrom_1 rfl ?_
  refine w_aload_n dX10_takeFrom_4 rfl 1 rfl ?_
  refine w_getR (c' := (7, b2, 0)) fl_RX10_10 rfl rfl (ic_10 hb2) dX10_takeFrom_5 rfl ?_
  refine w_callVv (as := [vR (7, b2, 0)]) (rest := []) (c_X7_takeFrom l G cy ad (d + 1) b b2 Mz hIz hb hb2) kV_X7_takeFrom (by decide +kernel) (Nat.le_of_ble_eq_true rfl) m_1258 rfl rfl rfl (ic_7 hb) rfl rfl (by decide) (Nat.le_of_ble_eq_true rfl) dX10_takeFrom_8 (fun M1_ q2_ => ?_)
  obtain ⟨hI4_, hF5_, h3_, hs7_⟩ := q2_
  have hF6_ := hFz.tr hF5_ (fun c k => (fun h => h.elim (fun h => (Or.inl ⟨h.1, h.2⟩)) (fun h => h.elim (fun h => (Or.inr (Or.inl ⟨h.1, h.2⟩))) (fun h => h.elim (fun h => (Or.inr (Or.inr (Or.inl ⟨h.1, h.2⟩)))) (fun h => h.elim (fun h => (Or.inr (Or.inr (Or.inr (Or.inl ⟨h.1, h.2⟩))))) (fun h => h.elim (fun h => (Or.inr (Or.inr (Or.inr (Or.inr (Or.inl ⟨h.1, h.2⟩)))))) (fun h => h.elim (fun h => (Or.inr (Or.inr (Or.inr (Or.inr (Or.inr (Or.inl ⟨h.1, h.2.1, h.2.2⟩))))))) (fun h => h.elim))))))))
  refine w_aload_n dX10_takeFrom_11 rfl 0 rfl ?_
  refine w_getR (c' := (2, b, 0)) fl_RX10_19 rfl rfl (ic_10 hb) dX10_takeFrom_12 rfl ?_
  refine w_aload_n dX10_takeFrom_15 rfl 1 rfl ?_
  refine w_getR (c' := (2, b2, 0)) fl_RX10_19 rfl rfl (ic_10 hb2) dX10_takeFrom_16 rfl ?_
  refine w_callVv (as := [vR (2, b2, 0)]) (rest := []) (c_X2_takeFrom l G cy ad d b b2 M1_ hI4_ hb hb2) kV_X2_takeFrom (by decide +kernel) (Nat.le_of_ble_eq_true rfl) m_1263 rfl rfl rfl (ic_2 hb) rfl rfl (by decide) (Nat.le_of_ble_eq_true rfl) dX10_takeFrom_19 (fun M8_ q9_ => ?_)
  obtain ⟨hI11_, hF12_, h10_, hs14_⟩ := q9_
  have hF13_ := hF6_.tr hF12_ (fun c k => (fun h => h.elim (fun h => (Or.inr (Or.inr (Or.inr (Or.inr (Or.inr (Or.inr (Or.inl ⟨h.1, h.2.1, h.2.2⟩)))))))) (fun h => h.elim (fun h => (Or.inr (Or.inr (Or.inr (Or.inr (Or.inr (Or.inr (Or.inr (Or.inl ⟨h.1, h.2.1, h.2.2⟩))))))))) (fun h => h.elim (fun h => (Or.inr (Or.inr (Or.inr (Or.inr (Or.inr (Or.inr (Or.inr (Or.inr (Or.inl ⟨h.1, h.2.1, h.2.2⟩)))))))))) (fun h => h.elim (fun h => (Or.inr (Or.inr (Or.inr (Or.inr (Or.inr (Or.inr (Or.inr (Or.inr (Or.inr (Or.inl ⟨h.1, h.2⟩))))))))))) (fun h => h.elim (fun h => (Or.inr (Or.inr (Or.inr (Or.inr (Or.inr (Or.inr (Or.inr (Or.inr (Or.inr (Or.inr (Or.inl ⟨h.1, h.2⟩)))))))))))) (fun h => h.elim (fun h => (Or.inr (Or.inr (Or.inr (Or.inr (Or.inr (Or.inr (Or.inr (Or.inr (Or.inr (Or.inr (Or.inr (Or.inl ⟨h.1, h.2.1, h.2.2⟩))))))))))))) (fun h => h.elim (fun h => (Or.inr (Or.inr (Or.inr (Or.inr (Or.inr (Or.inr (Or.inr (Or.inr (Or.inr (Or.inr (Or.inr (Or.inr (Or.inl ⟨h.1, h.2⟩)))))))))))))) (fun h => h.elim)))))))))
  refine w_aload_n dX10_takeFrom_22 rfl 0 rfl ?_
  refine w_getR (c' := (3, b, 0)) fl_RX10_26 rfl rfl (ic_10 hb) dX10_takeFrom_23 rfl ?_
  refine w_aload_n dX10_takeFrom_26 rfl 1 rfl ?_
  refine w_getR (c' := (3, b2, 0)) fl_RX10_26 rfl rfl (ic_10 hb2) dX10_takeFrom_27 rfl ?_
  refine w_callVv (as := [vR (3, b2, 0)]) (rest := []) (c_X3_takeFrom l G cy ad (d + 1) b b2 M8_ hI11_ hb hb2) kV_X3_takeFrom (by decide +kernel) (Nat.le_of_ble_eq_true rfl) m_1269 rfl rfl rfl (ic_3 hb) rfl rfl (by decide) (Nat.le_of_ble_eq_true rfl) dX10_takeFrom_30 (fun M15_ q16_ => ?_)
  obtain ⟨hI18_, hF19_, h17_, hs21_⟩ := q16_
  have hF20_ := hF13_.tr hF19_ (fun c k => (fun h => h.elim (fun h => (Or.inr (Or.inr (Or.inr (Or.inr (Or.inr (Or.inr (Or.inr (Or.inr (Or.inr (Or.inr (Or.inr (Or.inr (Or.inr (Or.inl ⟨h.1, h.2⟩))))))))))))))) (fun h => h.elim (fun h => (Or.inr (Or.inr (Or.inr (Or.inr (Or.inr (Or.inr (Or.inr (Or.inr (Or.inr (Or.inr (Or.inr (Or.inr (Or.inr (Or.inr (Or.inl ⟨h.1, h.2⟩)))))))))))))))) (fun h => h.elim (fun h => (Or.inr (Or.inr (Or.inr (Or.inr (Or.inr (Or.inr (Or.inr (Or.inr (Or.inr (Or.inr (Or.inr (Or.inr (Or.inr (Or.inr (Or.inr (Or.inl ⟨h.1, h.2⟩))))))))))))))))) (fun h => h.elim (fun h => (Or.inr (Or.inr (Or.inr (Or.inr (Or.inr (Or.inr (Or.inr (Or.inr (Or.inr (Or.inr (Or.inr (Or.inr (Or.inr (Or.inr (Or.inr (Or.inr (Or.inl ⟨h.1, h.2.1, h.2.2⟩)))))))))))))))))) (fun h => h.elim))))))
  refine w_aload_n dX10_takeFrom_33 rfl 0 rfl ?_
  refine w_getR (c' := (5, b, 0)) fl_RX10_37 rfl rfl (ic_10 hb) dX10_takeFrom_34 rfl ?_
  refine w_aload_n dX10_takeFrom_37 rfl 1 rfl ?_
  refine w_getR (c' := (5, b2, 0)) fl_RX10_37 rfl rfl (ic_10 hb2) dX10_takeFrom_38 rfl ?_
  refine w_callVv (as := [vR (5, b2, 0)]) (rest := []) (c_X5_takeFrom l G cy ad (d + 1) b 0 b2 0 M15_ hI18_ (lf_c_X10_takeFrom_0 b hb) (lf_c_X10_takeFrom_1 b2 hb2)) kV_X5_takeFrom (by decide +kernel) (Nat.le_of_ble_eq_true rfl) m_1274 rfl rfl rfl (ic_5 (lf_c_X10_takeFrom_2 b hb)) rfl rfl (by decide) (Nat.le_of_ble_eq_true rfl) dX10_takeFrom_41 (fun M22_ q23_ => ?_)
  obtain ⟨hI25_, hF26_, h24_, hs28_⟩ := q23_
  have hF27_ := hF20_.tr hF26_ (fun c k => (fun h => h.elim (fun h => (Or.inr (Or.inr (Or.inr (Or.inr (Or.inr (Or.inr (Or.inr (Or.inr (Or.inr (Or.inr (Or.inr (Or.inr (Or.inr (Or.inr (Or.inr (Or.inr (Or.inr (Or.inl ⟨h.1, h.2.1, h.2.2.1, h.2.2.2⟩))))))))))))))))))) (fun h => h.elim (fun h => (Or.inr (Or.inr (Or.inr (Or.inr (Or.inr (Or.inr (Or.inr (Or.inr (Or.inr (Or.inr (Or.inr (Or.inr (Or.inr (Or.inr (Or.inr (Or.inr (Or.inr (Or.inr (Or.inl ⟨h.1, h.2.1, h.2.2⟩)))))))))))))))))))) (fun h => h.elim))))
  refine w_aload_n dX10_takeFrom_44 rfl 0 rfl ?_
  refine w_getR (c' := (5, b, 1)) fl_RX10_41 rfl rfl (ic_10 hb) dX10_takeFrom_45 rfl ?_
  refine w_aload_n dX10_takeFrom_48 rfl 1 rfl ?_
  refine w_getR (c' := (5, b2, 1)) fl_RX10_41 rfl rfl (ic_10 hb2) dX10_takeFrom_49 rfl ?_
  refine w_callVv (as := [vR (5, b2, 1)]) (rest := []) (c_X5_takeFrom l G cy ad (d + 1) b 1 b2 1 M22_ hI25_ (lf_c_X10_takeFrom_3 b hb) (lf_c_X10_takeFrom_4 b2 hb2)) kV_X5_takeFrom (by decide +kernel) (Nat.le_of_ble_eq_true rfl) m_1274 rfl rfl rfl (ic_5 (lf_c_X10_takeFrom_5 b hb)) rfl rfl (by decide) (Nat.le_of_ble_eq_true rfl) dX10_takeFrom_52 (fun M29_ q30_ => ?_)
  obtain ⟨hI32_, hF33_, h31_, hs35_⟩ := q30_
  have hF34_ := hF27_.tr hF33_ (fun c k => (fun h => h.elim (fun h => (Or.inr (Or.inr (Or.inr (Or.inr (Or.inr (Or.inr (Or.inr (Or.inr (Or.inr (Or.inr (Or.inr (Or.inr (Or.inr (Or.inr (Or.inr (Or.inr (Or.inr (Or.inr (Or.inr (Or.inl ⟨h.1, h.2.1, h.2.2.1, h.2.2.2⟩))))))))))))))))))))) (fun h => h.elim (fun h => (Or.inr (Or.inr (Or.inr (Or.inr (Or.inr (Or.inr (Or.inr (Or.inr (Or.inr (Or.inr (Or.inr (Or.inr (Or.inr (Or.inr (Or.inr (Or.inr (Or.inr (Or.inr (Or.inr (Or.inr (Or.inl ⟨h.1, h.2.1, h.2.2⟩)))))))))))))))))))))) (fun h => h.elim))))
  refine w_aload_n dX10_takeFrom_55 rfl 0 rfl ?_
  refine w_aload_n dX10_takeFrom_56 rfl 1 rfl ?_
  refine w_getI fl_RX10_50 rfl rfl (ic_10 hb2) dX10_takeFrom_57 (fun z36_ e37_ => ?_)
  refine w_putI CC_nd fl_RX10_50 rfl rfl (ic_10 hb) dX10_takeFrom_60 (fun M38_ hM39_ => ?_)
  have hI40_ := hI32_.put hM39_ trivial
  have hF41_ := hF34_.put hM39_ (Or.inr (Or.inr (Or.inr (Or.inr (Or.inr (Or.inr (Or.inr (Or.inr (Or.inr (Or.inr (Or.inr (Or.inr (Or.inr (Or.inr (Or.inr (Or.inr (Or.inr (Or.inr (Or.inr (Or.inr (Or.inr (Or.inl ⟨rfl, rfl, rfl⟩))))))))))))))))))))))
  refine w_aload_n dX10_takeFrom_63 rfl 0 rfl ?_
  refine w_aload_n dX10_takeFrom_64 rfl 1 rfl ?_
  refine w_getI fl_RX10_54 rfl rfl (ic_10 hb2) dX10_takeFrom_65 (fun z42_ e43_ => ?_)
  refine w_putI CC_nd fl_RX10_54 rfl rfl (ic_10 hb) dX10_takeFrom_68 (fun M44_ hM45_ => ?_)
  have hI46_ := hI40_.put hM45_ trivial
  have hF47_ := hF41_.put hM45_ (Or.inr (Or.inr (Or.inr (Or.inr (Or.inr (Or.inr (Or.inr (Or.inr (Or.inr (Or.inr (Or.inr (Or.inr (Or.inr (Or.inr (Or.inr (Or.inr (Or.inr (Or.inr (Or.inr (Or.inr (Or.inr (Or.inr (Or.inl ⟨rfl, rfl, rfl⟩)))))))))))))))))))))))
  refine w_iconst (v := 0) dX10_takeFrom_71 (by decide) ?_
  refine w_istore_n (ls' := [(2, vI 0), (0, vR (10, b, 0)), (1, vR (10, b2, 0))]) dX10_takeFrom_72 rfl (by decide) rfl ?_
  have lp48_ : ∀ (nn_73 : Nat) (M_73 : mM) (hI_73 : Inv M_73) (hF_73 : FR (S_c_X10_takeFrom b b2) Mz M_73) (v2_73 : Int32) (hv0_73 : 0 ≤ v2_73.toInt) (hL_73 : RCH (fun x_ y_ => ST_X10_takeFrom_73 b b2 Mz x_.1 x_.2 y_.1 y_.2) ((0 : Int32), M44_) (v2_73, M_73)), (2147483648 - v2_73.toInt).toNat < nn_73 → WP CC l G cy ad yX10_takeFrom cX10_takeFrom 3 none (d + 3) 73 [(2, vI v2_73), (0, vR (10, b, 0)), (1, vR (10, b2, 0))] [] M_73 (fun r M' => Inv M' ∧ FR (S_c_X10_takeFrom b b2) Mz M' ∧ (True) ∧ SP_X10_takeFrom b b2 Mz M') := by
    intro nn_73
    induction nn_73 with
    | zero => intro M_73 hI_73 hF_73 v2_73 hv0_73 hL_73 hm_73; exact absurd hm_73 (Nat.not_lt_zero _)
    | succ nn_73 ih_73 =>
      intro M_73 hI_73 hF_73 v2_73 hv0_73 hL_73 hm_73
      refine w_iload_n dX10_takeFrom_73 rfl 0 rfl ?_
      refine w_aload_n dX10_takeFrom_74 rfl 1 rfl ?_
      refine w_getI fl_RX10_50 rfl rfl (ic_10 hb) dX10_takeFrom_75 (fun z49_ e50_ => ?_)
      refine w_icmp_ge (tgt := 108) dX10_takeFrom_78 (by decide) (rfl : v2_73.toInt = v2_73.toInt) (rfl : z49_.toInt = z49_.toInt) (fun h51_ => ?_) (fun h51_ => ?_)
      · exact w_vret rfl dX10_takeFrom_108 ⟨hI_73, hF_73, trivial, ⟨M1_, hI4_, hF5_, hs7_, M8_, hI11_, hF12_, hs14_, M15_, hI18_, hF19_, hs21_, M22_, hI25_, hF26_, hs28_, M29_, hI32_, hF33_, hs35_, z36_, e37_, M38_, hM39_, z42_, e43_, M44_, hM45_, v2_73, hv0_73, M_73, hL_73, hI_73, hF_73, z49_, e50_, (Or.inl ⟨h51_, rfl⟩)⟩⟩
      · refine w_iload_n dX10_takeFrom_81 rfl 0 rfl ?_
        refine w_bipush (v := 8) dX10_takeFrom_82 (by decide) ?_
        refine w_icmp_ge (tgt := 108) dX10_takeFrom_84 (by decide) (rfl : v2_73.toInt = v2_73.toInt) li_8 (fun h52_ => ?_) (fun h52_ => ?_)
        · exact w_vret rfl dX10_takeFrom_108 ⟨hI_73, hF_73, trivial, ⟨M1_, hI4_, hF5_, hs7_, M8_, hI11_, hF12_, hs14_, M15_, hI18_, hF19_, hs21_, M22_, hI25_, hF26_, hs28_, M29_, hI32_, hF33_, hs35_, z36_, e37_, M38_, hM39_, z42_, e43_, M44_, hM45_, v2_73, hv0_73, M_73, hL_73, hI_73, hF_73, z49_, e50_, (Or.inr ⟨h51_, h52_, rfl⟩)⟩⟩
        · refine w_aload_n dX10_takeFrom_87 rfl 1 rfl ?_
          refine w_getR (c' := (42, b, 0)) fl_RX10_46 rfl rfl (ic_10 hb) dX10_takeFrom_88 rfl ?_
          refine w_iload_n dX10_takeFrom_91 rfl 0 rfl ?_
          refine w_aald rfl rfl rfl (fun _ => rfl) (ic_42 hb) (rfl : v2_73.toInt = v2_73.toInt) (lf_c_X10_takeFrom_6 M29_ M38_ M44_ M_73 b b2 z36_ z42_ v2_73 z49_ hb hb2 e37_ hM39_ e43_ hM45_ hv0_73 e50_ h51_ h52_) dX10_takeFrom_92 (fun j53_ h54_ h55_ => ?_)
          refine w_aload_n dX10_takeFrom_93 rfl 2 rfl ?_
          refine w_getR (c' := (42, b2, 0)) fl_RX10_46 rfl rfl (ic_10 hb2) dX10_takeFrom_94 rfl ?_
          refine w_iload_n dX10_takeFrom_97 rfl 0 rfl ?_
          refine w_aald rfl rfl rfl (fun _ => rfl) (ic_42 hb2) (rfl : v2_73.toInt = v2_73.toInt) (lf_c_X10_takeFrom_7 M29_ M38_ M44_ M_73 b b2 z36_ z42_ v2_73 z49_ j53_ hb hb2 e37_ hM39_ e43_ hM45_ hv0_73 e50_ h51_ h52_ h54_ h55_) dX10_takeFrom_98 (fun j56_ h57_ h58_ => ?_)
          refine w_callVv (as := [vR (9, b2, j56_)]) (rest := []) (c_X9_takeFrom l G cy ad (d + 1) b j53_ b2 j56_ M_73 hI_73 hb h55_ hb2 h58_) kV_X9_takeFrom (by decide +kernel) (Nat.le_of_ble_eq_true rfl) m_1275 rfl rfl rfl (ic_9 hb h55_) rfl rfl (by decide) (Nat.le_of_ble_eq_true rfl) dX10_takeFrom_99 (fun M59_ q60_ => ?_)
          obtain ⟨hI62_, hF63_, h61_, hs65_⟩ := q60_
          have hF64_ := hF_73.tr hF63_ (fun c k => (fun h => h.elim (fun h => (Or.inr (Or.inr (Or.inr (Or.inr (Or.inr (Or.inr (Or.inr (Or.inr (Or.inr (Or.inr (Or.inr (Or.inr (Or.inr (Or.inr (Or.inr (Or.inr (Or.inr (Or.inr (Or.inr (Or.inr (Or.inr (Or.inr (Or.inr (Or.inl ⟨h.1, h.2.1, h.2.2.2⟩))))))))))))))))))))))))) (fun h => h.elim (fun h => (Or.inr (Or.inr (Or.inr (Or.inr (Or.inr (Or.inr (Or.inr (Or.inr (Or.inr (Or.inr (Or.inr (Or.inr (Or.inr (Or.inr (Or.inr (Or.inr (Or.inr (Or.inr (Or.inr (Or.inr (Or.inr (Or.inr (Or.inr (Or.inr (Or.inl ⟨h.1, h.2.1, h.2.2.2⟩)))))))))))))))))))))))))) (fun h => h.elim (fun h => (Or.inr (Or.inr (Or.inr (Or.inr (Or.inr (Or.inr (Or.inr (Or.inr (Or.inr (Or.inr (Or.inr (Or.inr (Or.inr (Or.inr (Or.inr (Or.inr (Or.inr (Or.inr (Or.inr (Or.inr (Or.inr (Or.inr (Or.inr (Or.inr (Or.inr (Or.inl ⟨h.1, h.2.1, h.2.2.2⟩))))))))))))))))))))))))))) (fun h => h.elim (fun h => (Or.inr (Or.inr (Or.inr (Or.inr (Or.inr (Or.inr (Or.inr (Or.inr (Or.inr (Or.inr (Or.inr (Or.inr (Or.inr (Or.inr (Or.inr (Or.inr (Or.inr (Or.inr (Or.inr (Or.inr (Or.inr (Or.inr (Or.inr (Or.inr (Or.inr (Or.inr (Or.inl ⟨h.1, h.2.1, h.2.2.2⟩)))))))))))))))))))))))))))) (fun h => h.elim (fun h => (Or.inr (Or.inr (Or.inr (Or.inr (Or.inr (Or.inr (Or.inr (Or.inr (Or.inr (Or.inr (Or.inr (Or.inr (Or.inr (Or.inr (Or.inr (Or.inr (Or.inr (Or.inr (Or.inr (Or.inr (Or.inr (Or.inr (Or.inr (Or.inr (Or.inr (Or.inr (Or.inr (Or.inl ⟨h.1, h.2.1, h.2.2.2⟩))))))))))))))))))))))))))))) (fun h => h.elim (fun h => (Or.inr (Or.inr (Or.inr (Or.inr (Or.inr (Or.inr (Or.inr (Or.inr (Or.inr (Or.inr (Or.inr (Or.inr (Or.inr (Or.inr (Or.inr (Or.inr (Or.inr (Or.inr (Or.inr (Or.inr (Or.inr (Or.inr (Or.inr (Or.inr (Or.inr (Or.inr (Or.inr (Or.inr (Or.inl ⟨h.1, h.2.1, h.2.2.2⟩)))))))))))))))))))))))))))))) (fun h => h.elim (fun h => (Or.inr (Or.inr (Or.inr (Or.inr (Or.inr (Or.inr (Or.inr (Or.inr (Or.inr (Or.inr (Or.inr (Or.inr (Or.inr (Or.inr (Or.inr (Or.inr (Or.inr (Or.inr (Or.inr (Or.inr (Or.inr (Or.inr (Or.inr (Or.inr (Or.inr (Or.inr (Or.inr (Or.inr (Or.inr (Or.inl ⟨h.1, h.2.1, h.2.2.2⟩))))))))))))))))))))))))))))))) (fun h => h.elim (fun h => (Or.inr (Or.inr (Or.inr (Or.inr (Or.inr (Or.inr (Or.inr (Or.inr (Or.inr (Or.inr (Or.inr (Or.inr (Or.inr (Or.inr (Or.inr (Or.inr (Or.inr (Or.inr (Or.inr (Or.inr (Or.inr (Or.inr (Or.inr (Or.inr (Or.inr (Or.inr (Or.inr (Or.inr (Or.inr (Or.inr (Or.inl ⟨h.1, h.2.1, h.2.2.2⟩)))))))))))))))))))))))))))))))) (fun h => h.elim (fun h => (Or.inr (Or.inr (Or.inr (Or.inr (Or.inr (Or.inr (Or.inr (Or.inr (Or.inr (Or.inr (Or.inr (Or.inr (Or.inr (Or.inr (Or.inr (Or.inr (Or.inr (Or.inr (Or.inr (Or.inr (Or.inr (Or.inr (Or.inr (Or.inr (Or.inr (Or.inr (Or.inr (Or.inr (Or.inr (Or.inr (Or.inr (Or.inl ⟨h.1, h.2.1, h.2.2.2⟩))))))))))))))))))))))))))))))))) (fun h => h.elim (fun h => (Or.inr (Or.inr (Or.inr (Or.inr (Or.inr (Or.inr (Or.inr (Or.inr (Or.inr (Or.inr (Or.inr (Or.inr (Or.inr (Or.inr (Or.inr (Or.inr (Or.inr (Or.inr (Or.inr (Or.inr (Or.inr (Or.inr (Or.inr (Or.inr (Or.inr (Or.inr (Or.inr (Or.inr (Or.inr (Or.inr (Or.inr (Or.inr (Or.inl ⟨h.1, h.2.1⟩)))))))))))))))))))))))))))))))))) (fun h => h.elim (fun h => (Or.inr (Or.inr (Or.inr (Or.inr (Or.inr (Or.inr (Or.inr (Or.inr (Or.inr (Or.inr (Or.inr (Or.inr (Or.inr (Or.inr (Or.inr (Or.inr (Or.inr (Or.inr (Or.inr (Or.inr (Or.inr (Or.inr (Or.inr (Or.inr (Or.inr (Or.inr (Or.inr (Or.inr (Or.inr (Or.inr (Or.inr (Or.inr (Or.inr (Or.inl ⟨h.1, h.2.1⟩))))))))))))))))))))))))))))))))))) (fun h => h.elim)))))))))))))
          refine w_iincB (j := 0) (f := fun z66_ => [(2, vI z66_), (0, vR (10, b, 0)), (1, vR (10, b2, 0))]) dX10_takeFrom_102 rfl (by decide) (fun _ => rfl) (rfl : v2_73.toInt = v2_73.toInt) li_1 (lf_c_X10_takeFrom_8 M29_ M38_ M44_ M_73 b b2 z36_ z42_ v2_73 z49_ j53_ j56_ hb hb2 e37_ hM39_ e43_ hM45_ hv0_73 e50_ h51_ h52_ h54_ h55_ h57_ h58_) (fun z66_ h67_ => ?_)
          refine w_goto (tgt := 73) dX10_takeFrom_105 (by decide) ?_
          refine w_loc (ls' := [(2, vI z66_), (0, vR (10, b, 0)), (1, vR (10, b2, 0))]) [0, 1, 2] rfl ?_
          exact ih_73 M59_ hI62_ hF64_ z66_ (lf_c_X10_takeFrom_9 M29_ M38_ M44_ M_73 b b2 z36_ z42_ v2_73 z49_ j53_ j56_ z66_ hb hb2 e37_ hM39_ e43_ hM45_ hv0_73 e50_ h51_ h52_ h54_ h55_ h57_ h58_ h67_) (RCH.tail hL_73 ⟨hv0_73, hI_73, hF_73, z49_, e50_, h51_, h52_, j53_, h54_, h55_, j56_, h57_, h58_, M59_, hI62_, hF63_, hs65_, z66_, h67_, rfl, rfl⟩) (Nat.lt_of_lt_of_le (lf_c_X10_takeFrom_10 M29_ M38_ M44_ M_73 b b2 z36_ z42_ v2_73 z49_ j53_ j56_ z66_ hb hb2 e37_ hM39_ e43_ hM45_ hv0_73 e50_ h51_ h52_ h54_ h55_ h57_ h58_ h67_) (Nat.le_of_lt_succ hm_73))
  exact lp48_ _ M44_ hI46_ hF47_ 0 (lf_c_X10_takeFrom_11 ) RCH.refl (Nat.lt_succ_self _)
end
section
/-! words of the tables that are used, by their places; decode rows; fields -/
theorem li_64 : (64 : Int32).toInt = 64 := by decide
theorem li_256 : (256 : Int32).toInt = 256 := by decide
theorem li_1000000 : (1000000 : Int32).toInt = 1000000 := by decide
theorem m_11 : Cond.selects yX0_noteLearned.cls yX0_noteLearned yX0_noteLearned ∈ BASE := bmem 11 (by decide +kernel) rfl
theorem m_12 : Cond.selects yX0_countLearned.cls yX0_countLearned yX0_countLearned ∈ BASE := bmem 12 (by decide +kernel) rfl
theorem m_16 : Cond.selects yX0_nearestOpen.cls yX0_nearestOpen yX0_nearestOpen ∈ BASE := bmem 16 (by decide +kernel) rfl
theorem m_17 : Cond.selects yX0_firstStep.cls yX0_firstStep yX0_firstStep ∈ BASE := bmem 17 (by decide +kernel) rfl
theorem m_20 : Cond.selects yX0_servesAll.cls yX0_servesAll yX0_servesAll ∈ BASE := bmem 20 (by decide +kernel) rfl
set_option maxRecDepth 20000 in
theorem m_89 : Cond.initialized RX0 ∈ BASE := bmT1 11 rfl rfl
set_option maxRecDepth 20000 in
theorem m_99 : Cond.initialized "java/lang/Integer" ∈ BASE := bmT1 21 rfl rfl
set_option maxRecDepth 20000 in
theorem m_100 : Cond.initialized "java/lang/Long" ∈ BASE := bmT1 22 rfl rfl
set_option maxRecDepth 20000 in
theorem m_388 : Cond.fieldLink RX0 9 "ClickStreet$Finder" "costs" "[I" ∈ BASE := bmT2 70 rfl rfl
set_option maxRecDepth 20000 in
theorem m_389 : Cond.fieldLink RX0 15 "ClickStreet$Finder" "isDone" "[Z" ∈ BASE := bmT2 71 rfl rfl
set_option maxRecDepth 20000 in
theorem m_390 : Cond.fieldLink RX0 19 "ClickStreet$Finder" "learned" "[J" ∈ BASE := bmT2 72 rfl rfl
set_option maxRecDepth 20000 in
theorem m_391 : Cond.fieldLink RX0 23 "ClickStreet$Finder" "heardPosts" "[I" ∈ BASE := bmT2 73 rfl rfl
set_option maxRecDepth 20000 in
theorem m_392 : Cond.fieldLink RX0 26 "ClickStreet$Finder" "most" "I" ∈ BASE := bmT2 74 rfl rfl
set_option maxRecDepth 20000 in
theorem m_394 : Cond.fieldLink RX0 30 "ClickStreet$Finder" "places" "I" ∈ BASE := bmT2 76 rfl rfl
set_option maxRecDepth 20000 in
theorem m_992 : Cond.methodLink RX0 76 yX6_numberAt ∈ BASE := bmT4 194 rfl rfl
set_option maxRecDepth 20000 in
theorem m_993 : Cond.methodLink RX0 79 yX7_isFree ∈ BASE := bmT4 195 rfl rfl
set_option maxRecDepth 20000 in
theorem m_994 : Cond.methodLink RX0 82 yX0_noteLearned ∈ BASE := bmT4 196 rfl rfl
set_option maxRecDepth 20000 in
theorem m_996 : Cond.instanceMethod yX0_noteLearned ∈ BASE := bmT4 198 rfl rfl
set_option maxRecDepth 20000 in
theorem m_997 : Cond.code yX0_noteLearned cX0_noteLearned 10 none ∈ BASE := bmT4 199 rfl rfl
set_option maxRecDepth 20000 in
theorem m_998 : Cond.methodLink RX0 94 yX10_hasWalker ∈ BASE := bmT4 200 rfl rfl
set_option maxRecDepth 20000 in
theorem m_999 : Cond.methodLink RX0 101 yX10_heardYards ∈ BASE := bmT4 201 rfl rfl
set_option maxRecDepth 20000 in
theorem m_1000 : Cond.methodLink RX0 46 yX7_cellFrom ∈ BASE := bmT4 202 rfl rfl
set_option maxRecDepth 20000 in
theorem m_1001 : Cond.methodLink RX0 104 yX9_canLearn ∈ BASE := bmT4 203 rfl rfl
set_option maxRecDepth 20000 in
theorem m_1002 : Cond.instanceMethod yX9_canLearn ∈ BASE := bmT4 204 rfl rfl
set_option maxRecDepth 20000 in
theorem m_1003 : Cond.selects yX9_canLearn.cls yX9_canLearn yX9_canLearn ∈ BASE := bmT4 205 rfl rfl
set_option maxRecDepth 20000 in
theorem m_1004 : Cond.code yX9_canLearn cX9_canLearn 2 (some .boolean) ∈ BASE := bmT4 206 rfl rfl
set_option maxRecDepth 20000 in
theorem m_1005 : Cond.methodLink RX0 86 yJI_bitCount ∈ BASE := bmT4 207 rfl rfl
set_option maxRecDepth 20000 in
theorem m_1006 : Cond.static yJI_bitCount ∈ BASE := bmT4 208 rfl rfl
set_option maxRecDepth 20000 in
theorem m_1007 : Cond.code yJI_bitCount cJI_bitCount 1 (some .int) ∈ BASE := bmT4 209 rfl rfl
set_option maxRecDepth 20000 in
theorem m_1011 : Cond.methodLink RX0 91 yX0_countLearned ∈ BASE := bmT4 213 rfl rfl
set_option maxRecDepth 20000 in
theorem m_1013 : Cond.instanceMethod yX0_countLearned ∈ BASE := bmT4 215 rfl rfl
set_option maxRecDepth 20000 in
theorem m_1014 : Cond.code yX0_countLearned cX0_countLearned 7 (some .int) ∈ BASE := bmT4 216 rfl rfl
set_option maxRecDepth 20000 in
theorem m_1015 : Cond.methodLink RX0 107 yJL_bitCount ∈ BASE := bmT4 217 rfl rfl
set_option maxRecDepth 20000 in
theorem m_1016 : Cond.static yJL_bitCount ∈ BASE := bmT4 218 rfl rfl
set_option maxRecDepth 20000 in
theorem m_1017 : Cond.code yJL_bitCount cJL_bitCount 2 (some .int) ∈ BASE := bmT4 219 rfl rfl
set_option maxRecDepth 20000 in
theorem m_1075 : Cond.constant RX0 33 (1000000) ∈ BASE := bmT5 37 rfl rfl
set_option maxRecDepth 20000 in
theorem m_1076 : Cond.methodLink RX0 34 yX7_isCell ∈ BASE := bmT5 38 rfl rfl
set_option maxRecDepth 20000 in
theorem m_1077 : Cond.methodLink RX0 38 yX0_nearestOpen ∈ BASE := bmT5 39 rfl rfl
set_option maxRecDepth 20000 in
theorem m_1079 : Cond.instanceMethod yX0_nearestOpen ∈ BASE := bmT5 41 rfl rfl
set_option maxRecDepth 20000 in
theorem m_1080 : Cond.code yX0_nearestOpen cX0_nearestOpen 3 (some .int) ∈ BASE := bmT5 42 rfl rfl
set_option maxRecDepth 20000 in
theorem m_1081 : Cond.methodLink RX0 42 yX0_costInto ∈ BASE := bmT5 43 rfl rfl
set_option maxRecDepth 20000 in
theorem m_1082 : Cond.static yX0_costInto ∈ BASE := bmT5 44 rfl rfl
set_option maxRecDepth 20000 in
theorem m_1083 : Cond.code yX0_costInto cX0_costInto 3 (some .int) ∈ BASE := bmT5 45 rfl rfl
set_option maxRecDepth 20000 in
theorem m_1084 : Cond.methodLink RX0 50 yX9_held ∈ BASE := bmT5 46 rfl rfl
set_option maxRecDepth 20000 in
theorem m_1086 : Cond.instanceMethod yX0_costFrom ∈ BASE := bmT5 48 rfl rfl
set_option maxRecDepth 20000 in
theorem m_1087 : Cond.selects yX0_costFrom.cls yX0_costFrom yX0_costFrom ∈ BASE := bmT5 49 rfl rfl
set_option maxRecDepth 20000 in
theorem m_1088 : Cond.code yX0_costFrom cX0_costFrom 2 (some .int) ∈ BASE := bmT5 50 rfl rfl
set_option maxRecDepth 20000 in
theorem m_1093 : Cond.methodLink RX0 59 yX0_firstStep ∈ BASE := bmT5 55 rfl rfl
set_option maxRecDepth 20000 in
theorem m_1095 : Cond.instanceMethod yX0_firstStep ∈ BASE := bmT5 57 rfl rfl
set_option maxRecDepth 20000 in
theorem m_1096 : Cond.code yX0_firstStep cX0_firstStep 5 (some .int) ∈ BASE := bmT5 58 rfl rfl
set_option maxRecDepth 20000 in
theorem m_1097 : Cond.methodLink RX0 62 yX0_costFrom ∈ BASE := bmT5 59 rfl rfl
set_option maxRecDepth 20000 in
theorem m_1163 : Cond.methodLink RX0 112 yX0_wouldHear ∈ BASE := bmT5 125 rfl rfl
set_option maxRecDepth 20000 in
theorem m_1164 : Cond.static yX0_wouldHear ∈ BASE := bmT5 126 rfl rfl
set_option maxRecDepth 20000 in
theorem m_1165 : Cond.code yX0_wouldHear cX0_wouldHear 8 (some .boolean) ∈ BASE := bmT5 127 rfl rfl
set_option maxRecDepth 20000 in
theorem m_1166 : Cond.methodLink RX0 120 yX9_reach ∈ BASE := bmT5 128 rfl rfl
set_option maxRecDepth 20000 in
theorem m_1167 : Cond.methodLink RX0 123 yX10_isFreeBut ∈ BASE := bmT5 129 rfl rfl
set_option maxRecDepth 20000 in
theorem m_1168 : Cond.methodLink RX0 130 yX9_ears ∈ BASE := bmT5 130 rfl rfl
set_option maxRecDepth 20000 in
theorem m_1169 : Cond.methodLink RX0 133 yX9_ownClick ∈ BASE := bmT5 131 rfl rfl
set_option maxRecDepth 20000 in
theorem m_1170 : Cond.methodLink RX0 136 yX2_hears ∈ BASE := bmT5 132 rfl rfl
set_option maxRecDepth 20000 in
theorem m_1171 : Cond.methodLink RX0 116 yX0_servesAll ∈ BASE := bmT5 133 rfl rfl
set_option maxRecDepth 20000 in
theorem m_1173 : Cond.instanceMethod yX0_servesAll ∈ BASE := bmT5 135 rfl rfl
set_option maxRecDepth 20000 in
theorem m_1174 : Cond.code yX0_servesAll cX0_servesAll 4 (some .boolean) ∈ BASE := bmT5 136 rfl rfl
theorem kS_JI_bitCount : KS yJI_bitCount cJI_bitCount 1 (some .int) 1 := ⟨m_1006, m_99, m_1007, nhM_9, nhV_9, pdn_2⟩
theorem kS_JL_bitCount : KS yJL_bitCount cJL_bitCount 2 (some .int) 1 := ⟨m_1016, m_100, m_1017, nhM_10, nhV_10, pdn_21⟩
theorem kS_X0_costInto : KS yX0_costInto cX0_costInto 3 (some .int) 2 := ⟨m_1082, m_89, m_1083, nhM_11, nhV_11, pdn_22⟩
theorem kS_X0_wouldHear : KS yX0_wouldHear cX0_wouldHear 8 (some .boolean) 4 := ⟨m_1164, m_89, m_1165, nhM_11, nhV_11, pdn_23⟩
theorem kV_X0_costFrom : KV yX0_costFrom cX0_costFrom 2 (some .int) 1 := ⟨m_1086, m_1087, m_89, m_1088, nhM_11, nhV_11, pdn_2⟩
theorem kV_X0_countLearned : KV yX0_countLearned cX0_countLearned 7 (some .int) 1 := ⟨m_1013, m_12, m_89, m_1014, nhM_11, nhV_11, pdn_2⟩
theorem kV_X0_firstStep : KV yX0_firstStep cX0_firstStep 5 (some .int) 2 := ⟨m_1095, m_17, m_89, m_1096, nhM_11, nhV_11, pdn_22⟩
theorem kV_X0_nearestOpen : KV yX0_nearestOpen cX0_nearestOpen 3 (some .int) 0 := ⟨m_1079, m_16, m_89, m_1080, nhM_11, nhV_11, pdn_6⟩
theorem kV_X0_noteLearned : KV yX0_noteLearned cX0_noteLearned 10 none 4 := ⟨m_996, m_11, m_89, m_997, nhM_11, nhV_11, pdn_24⟩
theorem kV_X0_servesAll : KV yX0_servesAll cX0_servesAll 4 (some .boolean) 2 := ⟨m_1173, m_20, m_89, m_1174, nhM_11, nhV_11, pdn_7⟩
theorem kV_X9_canLearn : KV yX9_canLearn cX9_canLearn 2 (some .boolean) 1 := ⟨m_1002, m_1003, m_87, m_1004, nhM_3, nhV_3, pdn_1⟩
theorem inB0 : ∀ w ∈ u_ws RX0 TX0 6, w ∈ BASE := bmems (u_ws RX0 TX0 6) [396, 398, 400, 402, 404, 406] (by decide +kernel) (by decide +kernel)
theorem fl_RX0_126 : FLK RX0 126 10 1 (.object "ClickStreet$Laws") true := ⟨RX10, TX10, 8, tyX10, rfl, inB10, tyX10_ok, nmX10, by decide, rfl, rfl, Or.inr ⟨"ClickStreet", List.mem_of_getElem? (l := NFs) (i := 33) rfl⟩⟩
theorem fl_RX0_15 : FLK RX0 15 0 1 (.array .boolean) true := ⟨RX0, TX0, 6, tyX0, rfl, inB0, tyX0_ok, nmX0, by decide, rfl, rfl, Or.inl m_389⟩
theorem fl_RX0_19 : FLK RX0 19 0 2 (.array .long) true := ⟨RX0, TX0, 6, tyX0, rfl, inB0, tyX0_ok, nmX0, by decide, rfl, rfl, Or.inl m_390⟩
theorem fl_RX0_23 : FLK RX0 23 0 3 (.array .int) true := ⟨RX0, TX0, 6, tyX0, rfl, inB0, tyX0_ok, nmX0, by decide, rfl, rfl, Or.inl m_391⟩
theorem fl_RX0_26 : FLK RX0 26 0 4 .int false := ⟨RX0, TX0, 6, tyX0, rfl, inB0, tyX0_ok, nmX0, by decide, rfl, rfl, Or.inl m_392⟩
theorem fl_RX0_30 : FLK RX0 30 0 5 .int false := ⟨RX0, TX0, 6, tyX0, rfl, inB0, tyX0_ok, nmX0, by decide, rfl, rfl, Or.inl m_394⟩
theorem fl_RX0_56 : FLK RX0 56 9 1 .int false := ⟨RX9, TX9, 11, tyX9, rfl, inB9, tyX9_ok, nmX9, by decide, rfl, rfl, Or.inr ⟨"ClickStreet", List.mem_of_getElem? (l := NFs) (i := 14) rfl⟩⟩
theorem fl_RX0_65 : FLK RX0 65 6 1 .int false := ⟨RX6, TX6, 3, tyX6, rfl, inB6, tyX6_ok, nmX6, by decide, rfl, rfl, Or.inr ⟨"ClickStreet", List.mem_of_getElem? (l := NFs) (i := 47) rfl⟩⟩
theorem fl_RX0_70 : FLK RX0 70 10 0 (.object "ClickStreet$Street") true := ⟨RX10, TX10, 8, tyX10, rfl, inB10, tyX10_ok, nmX10, by decide, rfl, rfl, Or.inr ⟨"ClickStreet", List.mem_of_getElem? (l := NFs) (i := 31) rfl⟩⟩
theorem fl_RX0_9 : FLK RX0 9 0 0 (.array .int) true := ⟨RX0, TX0, 6, tyX0, rfl, inB0, tyX0_ok, nmX0, by decide, rfl, rfl, Or.inl m_388⟩
theorem fl_RX0_97 : FLK RX0 97 10 5 (.array (.object "ClickStreet$Walker")) true := ⟨RX10, TX10, 8, tyX10, rfl, inB10, tyX10_ok, nmX10, by decide, rfl, rfl, Or.inr ⟨"ClickStreet", List.mem_of_getElem? (l := NFs) (i := 37) rfl⟩⟩
theorem ch_cX0_cellAfter_0 : (cX0_cellAfter.data.toList.drop 0).take 36 = [43, 180, 0, 56, 54, 4, 29, 17, 0, 192, 161, 0, 5, 2, 172, 3, 54, 5, 21, 5, 29, 162, 0, 31, 21, 4, 28, 159, 0, 8, 21, 4, 156, 0, 5, 2] := by decide +kernel
theorem dX0_cellAfter_0 : decode cX0_cellAfter 0 = .ok (.aload_n 1, 1) := do_43 (rdb (p := 0) (i := 0) ch_cX0_cellAfter_0 rfl)
theorem dX0_cellAfter_1 : decode cX0_cellAfter 1 = .ok (.getfield 56, 3) := do_180 (rdb (p := 0) (i := 1) ch_cX0_cellAfter_0 rfl) (rdb (p := 0) (i := 2) ch_cX0_cellAfter_0 rfl) (rdb (p := 0) (i := 3) ch_cX0_cellAfter_0 rfl) rfl
theorem dX0_cellAfter_4 : decode cX0_cellAfter 4 = .ok (.istore 4, 2) := do_54 (rdb (p := 0) (i := 4) ch_cX0_cellAfter_0 rfl) (rdb (p := 0) (i := 5) ch_cX0_cellAfter_0 rfl)
theorem dX0_cellAfter_6 : decode cX0_cellAfter 6 = .ok (.iload_n 3, 1) := do_29 (rdb (p := 0) (i := 6) ch_cX0_cellAfter_0 rfl)
theorem dX0_cellAfter_7 : decode cX0_cellAfter 7 = .ok (.sipush 192, 3) := do_17 (rdb (p := 0) (i := 7) ch_cX0_cellAfter_0 rfl) (rdb (p := 0) (i := 8) ch_cX0_cellAfter_0 rfl) (rdb (p := 0) (i := 9) ch_cX0_cellAfter_0 rfl) (by decide +kernel)
theorem dX0_cellAfter_10 : decode cX0_cellAfter 10 = .ok (.if_icmp .lt 5, 3) := do_161 (rdb (p := 0) (i := 10) ch_cX0_cellAfter_0 rfl) (rdb (p := 0) (i := 11) ch_cX0_cellAfter_0 rfl) (rdb (p := 0) (i := 12) ch_cX0_cellAfter_0 rfl) (by decide +kernel)
theorem dX0_cellAfter_13 : decode cX0_cellAfter 13 = .ok (.iconst (-1), 1) := do_2 (rdb (p := 0) (i := 13) ch_cX0_cellAfter_0 rfl)
theorem dX0_cellAfter_14 : decode cX0_cellAfter 14 = .ok (.ireturn, 1) := do_172 (rdb (p := 0) (i := 14) ch_cX0_cellAfter_0 rfl)
theorem dX0_cellAfter_15 : decode cX0_cellAfter 15 = .ok (.iconst 0, 1) := do_3 (rdb (p := 0) (i := 15) ch_cX0_cellAfter_0 rfl)
theorem dX0_cellAfter_16 : decode cX0_cellAfter 16 = .ok (.istore 5, 2) := do_54 (rdb (p := 0) (i := 16) ch_cX0_cellAfter_0 rfl) (rdb (p := 0) (i := 17) ch_cX0_cellAfter_0 rfl)
theorem dX0_cellAfter_18 : decode cX0_cellAfter 18 = .ok (.iload 5, 2) := do_21 (rdb (p := 0) (i := 18) ch_cX0_cellAfter_0 rfl) (rdb (p := 0) (i := 19) ch_cX0_cellAfter_0 rfl)
theorem dX0_cellAfter_20 : decode cX0_cellAfter 20 = .ok (.iload_n 3, 1) := do_29 (rdb (p := 0) (i := 20) ch_cX0_cellAfter_0 rfl)
theorem dX0_cellAfter_21 : decode cX0_cellAfter 21 = .ok (.if_icmp .ge 31, 3) := do_162 (rdb (p := 0) (i := 21) ch_cX0_cellAfter_0 rfl) (rdb (p := 0) (i := 22) ch_cX0_cellAfter_0 rfl) (rdb (p := 0) (i := 23) ch_cX0_cellAfter_0 rfl) (by decide +kernel)
theorem dX0_cellAfter_24 : decode cX0_cellAfter 24 = .ok (.iload 4, 2) := do_21 (rdb (p := 0) (i := 24) ch_cX0_cellAfter_0 rfl) (rdb (p := 0) (i := 25) ch_cX0_cellAfter_0 rfl)
theorem dX0_cellAfter_26 : decode cX0_cellAfter 26 = .ok (.iload_n 2, 1) := do_28 (rdb (p := 0) (i := 26) ch_cX0_cellAfter_0 rfl)
theorem dX0_cellAfter_27 : decode cX0_cellAfter 27 = .ok (.if_icmp .eq 8, 3) := do_159 (rdb (p := 0) (i := 27) ch_cX0_cellAfter_0 rfl) (rdb (p := 0) (i := 28) ch_cX0_cellAfter_0 rfl) (rdb (p := 0) (i := 29) ch_cX0_cellAfter_0 rfl) (by decide +kernel)
theorem dX0_cellAfter_30 : decode cX0_cellAfter 30 = .ok (.iload 4, 2) := do_21 (rdb (p := 0) (i := 30) ch_cX0_cellAfter_0 rfl) (rdb (p := 0) (i := 31) ch_cX0_cellAfter_0 rfl)
theorem ch_cX0_cellAfter_32 : (cX0_cellAfter.data.toList.drop 32).take 36 = [156, 0, 5, 2, 172, 42, 43, 21, 4, 182, 0, 59, 54, 4, 132, 5, 1, 167, 255, 225, 21, 4, 172] := by decide +kernel
theorem dX0_cellAfter_32 : decode cX0_cellAfter 32 = .ok (.ifCond .ge 5, 3) := do_156 (rdb (p := 32) (i := 0) ch_cX0_cellAfter_32 rfl) (rdb (p := 32) (i := 1) ch_cX0_cellAfter_32 rfl) (rdb (p := 32) (i := 2) ch_cX0_cellAfter_32 rfl) (by decide +kernel)
theorem dX0_cellAfter_35 : decode cX0_cellAfter 35 = .ok (.iconst (-1), 1) := do_2 (rdb (p := 32) (i := 3) ch_cX0_cellAfter_32 rfl)
theorem dX0_cellAfter_36 : decode cX0_cellAfter 36 = .ok (.ireturn, 1) := do_172 (rdb (p := 32) (i := 4) ch_cX0_cellAfter_32 rfl)
theorem dX0_cellAfter_37 : decode cX0_cellAfter 37 = .ok (.aload_n 0, 1) := do_42 (rdb (p := 32) (i := 5) ch_cX0_cellAfter_32 rfl)
theorem dX0_cellAfter_38 : decode cX0_cellAfter 38 = .ok (.aload_n 1, 1) := do_43 (rdb (p := 32) (i := 6) ch_cX0_cellAfter_32 rfl)
theorem dX0_cellAfter_39 : decode cX0_cellAfter 39 = .ok (.iload 4, 2) := do_21 (rdb (p := 32) (i := 7) ch_cX0_cellAfter_32 rfl) (rdb (p := 32) (i := 8) ch_cX0_cellAfter_32 rfl)
theorem dX0_cellAfter_41 : decode cX0_cellAfter 41 = .ok (.invokevirtual 59, 3) := do_182 (rdb (p := 32) (i := 9) ch_cX0_cellAfter_32 rfl) (rdb (p := 32) (i := 10) ch_cX0_cellAfter_32 rfl) (rdb (p := 32) (i := 11) ch_cX0_cellAfter_32 rfl) rfl
theorem dX0_cellAfter_44 : decode cX0_cellAfter 44 = .ok (.istore 4, 2) := do_54 (rdb (p := 32) (i := 12) ch_cX0_cellAfter_32 rfl) (rdb (p := 32) (i := 13) ch_cX0_cellAfter_32 rfl)
theorem dX0_cellAfter_46 : decode cX0_cellAfter 46 = .ok (.iinc 5 1, 3) := do_132 (rdb (p := 32) (i := 14) ch_cX0_cellAfter_32 rfl) (rdb (p := 32) (i := 15) ch_cX0_cellAfter_32 rfl) (rdb (p := 32) (i := 16) ch_cX0_cellAfter_32 rfl) (by decide +kernel)
theorem dX0_cellAfter_49 : decode cX0_cellAfter 49 = .ok (.goto (-31), 3) := do_167 (rdb (p := 32) (i := 17) ch_cX0_cellAfter_32 rfl) (rdb (p := 32) (i := 18) ch_cX0_cellAfter_32 rfl) (rdb (p := 32) (i := 19) ch_cX0_cellAfter_32 rfl) (by decide +kernel)
theorem dX0_cellAfter_52 : decode cX0_cellAfter 52 = .ok (.iload 4, 2) := do_21 (rdb (p := 32) (i := 20) ch_cX0_cellAfter_32 rfl) (rdb (p := 32) (i := 21) ch_cX0_cellAfter_32 rfl)
theorem dX0_cellAfter_54 : decode cX0_cellAfter 54 = .ok (.ireturn, 1) := do_172 (rdb (p := 32) (i := 22) ch_cX0_cellAfter_32 rfl)
theorem ch_cX0_choosePosts_0 : (cX0_choosePosts.data.toList.drop 0).take 36 = [3, 54, 5, 21, 5, 25, 4, 180, 0, 65, 162, 0, 84, 21, 5, 16, 8, 162, 0, 77, 42, 180, 0, 23, 21, 5, 3, 79, 3, 54, 6, 21, 6, 45, 180, 0] := by decide +kernel
theorem dX0_choosePosts_0 : decode cX0_choosePosts 0 = .ok (.iconst 0, 1) := do_3 (rdb (p := 0) (i := 0) ch_cX0_choosePosts_0 rfl)
theorem dX0_choosePosts_1 : decode cX0_choosePosts 1 = .ok (.istore 5, 2) := do_54 (rdb (p := 0) (i := 1) ch_cX0_choosePosts_0 rfl) (rdb (p := 0) (i := 2) ch_cX0_choosePosts_0 rfl)
theorem dX0_choosePosts_3 : decode cX0_choosePosts 3 = .ok (.iload 5, 2) := do_21 (rdb (p := 0) (i := 3) ch_cX0_choosePosts_0 rfl) (rdb (p := 0) (i := 4) ch_cX0_choosePosts_0 rfl)
theorem dX0_choosePosts_5 : decode cX0_choosePosts 5 = .ok (.aload 4, 2) := do_25 (rdb (p := 0) (i := 5) ch_cX0_choosePosts_0 rfl) (rdb (p := 0) (i := 6) ch_cX0_choosePosts_0 rfl)
theorem dX0_choosePosts_7 : decode cX0_choosePosts 7 = .ok (.getfield 65, 3) := do_180 (rdb (p := 0) (i := 7) ch_cX0_choosePosts_0 rfl) (rdb (p := 0) (i := 8) ch_cX0_choosePosts_0 rfl) (rdb (p := 0) (i := 9) ch_cX0_choosePosts_0 rfl) rfl
theorem dX0_choosePosts_10 : decode cX0_choosePosts 10 = .ok (.if_icmp .ge 84, 3) := do_162 (rdb (p := 0) (i := 10) ch_cX0_choosePosts_0 rfl) (rdb (p := 0) (i := 11) ch_cX0_choosePosts_0 rfl) (rdb (p := 0) (i := 12) ch_cX0_choosePosts_0 rfl) (by decide +kernel)
theorem dX0_choosePosts_13 : decode cX0_choosePosts 13 = .ok (.iload 5, 2) := do_21 (rdb (p := 0) (i := 13) ch_cX0_choosePosts_0 rfl) (rdb (p := 0) (i := 14) ch_cX0_choosePosts_0 rfl)
theorem dX0_choosePosts_15 : decode cX0_choosePosts 15 = .ok (.bipush 8, 2) := do_16 (rdb (p := 0) (i := 15) ch_cX0_choosePosts_0 rfl) (rdb (p := 0) (i := 16) ch_cX0_choosePosts_0 rfl) (by decide +kernel)
theorem dX0_choosePosts_17 : decode cX0_choosePosts 17 = .ok (.if_icmp .ge 77, 3) := do_162 (rdb (p := 0) (i := 17) ch_cX0_choosePosts_0 rfl) (rdb (p := 0) (i := 18) ch_cX0_choosePosts_0 rfl) (rdb (p := 0) (i := 19) ch_cX0_choosePosts_0 rfl) (by decide +kernel)
theorem dX0_choosePosts_20 : decode cX0_choosePosts 20 = .ok (.aload_n 0, 1) := do_42 (rdb (p := 0) (i := 20) ch_cX0_choosePosts_0 rfl)
theorem dX0_choosePosts_21 : decode cX0_choosePosts 21 = .ok (.getfield 23, 3) := do_180 (rdb (p := 0) (i := 21) ch_cX0_choosePosts_0 rfl) (rdb (p := 0) (i := 22) ch_cX0_choosePosts_0 rfl) (rdb (p := 0) (i := 23) ch_cX0_choosePosts_0 rfl) rfl
theorem dX0_choosePosts_24 : decode cX0_choosePosts 24 = .ok (.iload 5, 2) := do_21 (rdb (p := 0) (i := 24) ch_cX0_choosePosts_0 rfl) (rdb (p := 0) (i := 25) ch_cX0_choosePosts_0 rfl)
theorem dX0_choosePosts_26 : decode cX0_choosePosts 26 = .ok (.iconst 0, 1) := do_3 (rdb (p := 0) (i := 26) ch_cX0_choosePosts_0 rfl)
theorem dX0_choosePosts_27 : decode cX0_choosePosts 27 = .ok (.iastore, 1) := do_79 (rdb (p := 0) (i := 27) ch_cX0_choosePosts_0 rfl)
theorem dX0_choosePosts_28 : decode cX0_choosePosts 28 = .ok (.iconst 0, 1) := do_3 (rdb (p := 0) (i := 28) ch_cX0_choosePosts_0 rfl)
theorem dX0_choosePosts_29 : decode cX0_choosePosts 29 = .ok (.istore 6, 2) := do_54 (rdb (p := 0) (i := 29) ch_cX0_choosePosts_0 rfl) (rdb (p := 0) (i := 30) ch_cX0_choosePosts_0 rfl)
theorem dX0_choosePosts_31 : decode cX0_choosePosts 31 = .ok (.iload 6, 2) := do_21 (rdb (p := 0) (i := 31) ch_cX0_choosePosts_0 rfl) (rdb (p := 0) (i := 32) ch_cX0_choosePosts_0 rfl)
theorem ch_cX0_choosePosts_32 : (cX0_choosePosts.data.toList.drop 32).take 36 = [6, 45, 180, 0, 65, 162, 0, 51, 21, 6, 16, 8, 162, 0, 44, 43, 28, 25, 4, 21, 5, 182, 0, 76, 45, 21, 6, 182, 0, 76, 184, 0, 112, 153, 0, 17] := by decide +kernel
theorem dX0_choosePosts_33 : decode cX0_choosePosts 33 = .ok (.aload_n 3, 1) := do_45 (rdb (p := 32) (i := 1) ch_cX0_choosePosts_32 rfl)
theorem dX0_choosePosts_34 : decode cX0_choosePosts 34 = .ok (.getfield 65, 3) := do_180 (rdb (p := 32) (i := 2) ch_cX0_choosePosts_32 rfl) (rdb (p := 32) (i := 3) ch_cX0_choosePosts_32 rfl) (rdb (p := 32) (i := 4) ch_cX0_choosePosts_32 rfl) rfl
theorem dX0_choosePosts_37 : decode cX0_choosePosts 37 = .ok (.if_icmp .ge 51, 3) := do_162 (rdb (p := 32) (i := 5) ch_cX0_choosePosts_32 rfl) (rdb (p := 32) (i := 6) ch_cX0_choosePosts_32 rfl) (rdb (p := 32) (i := 7) ch_cX0_choosePosts_32 rfl) (by decide +kernel)
theorem dX0_choosePosts_40 : decode cX0_choosePosts 40 = .ok (.iload 6, 2) := do_21 (rdb (p := 32) (i := 8) ch_cX0_choosePosts_32 rfl) (rdb (p := 32) (i := 9) ch_cX0_choosePosts_32 rfl)
theorem dX0_choosePosts_42 : decode cX0_choosePosts 42 = .ok (.bipush 8, 2) := do_16 (rdb (p := 32) (i := 10) ch_cX0_choosePosts_32 rfl) (rdb (p := 32) (i := 11) ch_cX0_choosePosts_32 rfl) (by decide +kernel)
theorem dX0_choosePosts_44 : decode cX0_choosePosts 44 = .ok (.if_icmp .ge 44, 3) := do_162 (rdb (p := 32) (i := 12) ch_cX0_choosePosts_32 rfl) (rdb (p := 32) (i := 13) ch_cX0_choosePosts_32 rfl) (rdb (p := 32) (i := 14) ch_cX0_choosePosts_32 rfl) (by decide +kernel)
theorem dX0_choosePosts_47 : decode cX0_choosePosts 47 = .ok (.aload_n 1, 1) := do_43 (rdb (p := 32) (i := 15) ch_cX0_choosePosts_32 rfl)
theorem dX0_choosePosts_48 : decode cX0_choosePosts 48 = .ok (.iload_n 2, 1) := do_28 (rdb (p := 32) (i := 16) ch_cX0_choosePosts_32 rfl)
theorem dX0_choosePosts_49 : decode cX0_choosePosts 49 = .ok (.aload 4, 2) := do_25 (rdb (p := 32) (i := 17) ch_cX0_choosePosts_32 rfl) (rdb (p := 32) (i := 18) ch_cX0_choosePosts_32 rfl)
theorem dX0_choosePosts_51 : decode cX0_choosePosts 51 = .ok (.iload 5, 2) := do_21 (rdb (p := 32) (i := 19) ch_cX0_choosePosts_32 rfl) (rdb (p := 32) (i := 20) ch_cX0_choosePosts_32 rfl)
theorem dX0_choosePosts_53 : decode cX0_choosePosts 53 = .ok (.invokevirtual 76, 3) := do_182 (rdb (p := 32) (i := 21) ch_cX0_choosePosts_32 rfl) (rdb (p := 32) (i := 22) ch_cX0_choosePosts_32 rfl) (rdb (p := 32) (i := 23) ch_cX0_choosePosts_32 rfl) rfl
theorem dX0_choosePosts_56 : decode cX0_choosePosts 56 = .ok (.aload_n 3, 1) := do_45 (rdb (p := 32) (i := 24) ch_cX0_choosePosts_32 rfl)
theorem dX0_choosePosts_57 : decode cX0_choosePosts 57 = .ok (.iload 6, 2) := do_21 (rdb (p := 32) (i := 25) ch_cX0_choosePosts_32 rfl) (rdb (p := 32) (i := 26) ch_cX0_choosePosts_32 rfl)
theorem dX0_choosePosts_59 : decode cX0_choosePosts 59 = .ok (.invokevirtual 76, 3) := do_182 (rdb (p := 32) (i := 27) ch_cX0_choosePosts_32 rfl) (rdb (p := 32) (i := 28) ch_cX0_choosePosts_32 rfl) (rdb (p := 32) (i := 29) ch_cX0_choosePosts_32 rfl) rfl
theorem dX0_choosePosts_62 : decode cX0_choosePosts 62 = .ok (.invokestatic 112, 3) := do_184 (rdb (p := 32) (i := 30) ch_cX0_choosePosts_32 rfl) (rdb (p := 32) (i := 31) ch_cX0_choosePosts_32 rfl) (rdb (p := 32) (i := 32) ch_cX0_choosePosts_32 rfl) rfl
theorem ch_cX0_choosePosts_64 : (cX0_choosePosts.data.toList.drop 64).take 36 = [112, 153, 0, 17, 42, 180, 0, 23, 21, 5, 92, 46, 4, 21, 6, 120, 128, 79, 132, 6, 1, 167, 255, 202, 132, 5, 1, 167, 255, 168, 42, 3, 181, 0, 30, 4] := by decide +kernel
theorem dX0_choosePosts_65 : decode cX0_choosePosts 65 = .ok (.ifCond .eq 17, 3) := do_153 (rdb (p := 64) (i := 1) ch_cX0_choosePosts_64 rfl) (rdb (p := 64) (i := 2) ch_cX0_choosePosts_64 rfl) (rdb (p := 64) (i := 3) ch_cX0_choosePosts_64 rfl) (by decide +kernel)
theorem dX0_choosePosts_68 : decode cX0_choosePosts 68 = .ok (.aload_n 0, 1) := do_42 (rdb (p := 64) (i := 4) ch_cX0_choosePosts_64 rfl)
theorem dX0_choosePosts_69 : decode cX0_choosePosts 69 = .ok (.getfield 23, 3) := do_180 (rdb (p := 64) (i := 5) ch_cX0_choosePosts_64 rfl) (rdb (p := 64) (i := 6) ch_cX0_choosePosts_64 rfl) (rdb (p := 64) (i := 7) ch_cX0_choosePosts_64 rfl) rfl
theorem dX0_choosePosts_72 : decode cX0_choosePosts 72 = .ok (.iload 5, 2) := do_21 (rdb (p := 64) (i := 8) ch_cX0_choosePosts_64 rfl) (rdb (p := 64) (i := 9) ch_cX0_choosePosts_64 rfl)
theorem dX0_choosePosts_74 : decode cX0_choosePosts 74 = .ok (.dup2, 1) := do_92 (rdb (p := 64) (i := 10) ch_cX0_choosePosts_64 rfl)
theorem dX0_choosePosts_75 : decode cX0_choosePosts 75 = .ok (.iaload, 1) := do_46 (rdb (p := 64) (i := 11) ch_cX0_choosePosts_64 rfl)
theorem dX0_choosePosts_76 : decode cX0_choosePosts 76 = .ok (.iconst 1, 1) := do_4 (rdb (p := 64) (i := 12) ch_cX0_choosePosts_64 rfl)
theorem dX0_choosePosts_77 : decode cX0_choosePosts 77 = .ok (.iload 6, 2) := do_21 (rdb (p := 64) (i := 13) ch_cX0_choosePosts_64 rfl) (rdb (p := 64) (i := 14) ch_cX0_choosePosts_64 rfl)
theorem dX0_choosePosts_79 : decode cX0_choosePosts 79 = .ok (.ishl, 1) := do_120 (rdb (p := 64) (i := 15) ch_cX0_choosePosts_64 rfl)
theorem dX0_choosePosts_80 : decode cX0_choosePosts 80 = .ok (.ior, 1) := do_128 (rdb (p := 64) (i := 16) ch_cX0_choosePosts_64 rfl)
theorem dX0_choosePosts_81 : decode cX0_choosePosts 81 = .ok (.iastore, 1) := do_79 (rdb (p := 64) (i := 17) ch_cX0_choosePosts_64 rfl)
theorem dX0_choosePosts_82 : decode cX0_choosePosts 82 = .ok (.iinc 6 1, 3) := do_132 (rdb (p := 64) (i := 18) ch_cX0_choosePosts_64 rfl) (rdb (p := 64) (i := 19) ch_cX0_choosePosts_64 rfl) (rdb (p := 64) (i := 20) ch_cX0_choosePosts_64 rfl) (by decide +kernel)
theorem dX0_choosePosts_85 : decode cX0_choosePosts 85 = .ok (.goto (-54), 3) := do_167 (rdb (p := 64) (i := 21) ch_cX0_choosePosts_64 rfl) (rdb (p := 64) (i := 22) ch_cX0_choosePosts_64 rfl) (rdb (p := 64) (i := 23) ch_cX0_choosePosts_64 rfl) (by decide +kernel)
theorem dX0_choosePosts_88 : decode cX0_choosePosts 88 = .ok (.iinc 5 1, 3) := do_132 (rdb (p := 64) (i := 24) ch_cX0_choosePosts_64 rfl) (rdb (p := 64) (i := 25) ch_cX0_choosePosts_64 rfl) (rdb (p := 64) (i := 26) ch_cX0_choosePosts_64 rfl) (by decide +kernel)
theorem dX0_choosePosts_91 : decode cX0_choosePosts 91 = .ok (.goto (-88), 3) := do_167 (rdb (p := 64) (i := 27) ch_cX0_choosePosts_64 rfl) (rdb (p := 64) (i := 28) ch_cX0_choosePosts_64 rfl) (rdb (p := 64) (i := 29) ch_cX0_choosePosts_64 rfl) (by decide +kernel)
theorem dX0_choosePosts_94 : decode cX0_choosePosts 94 = .ok (.aload_n 0, 1) := do_42 (rdb (p := 64) (i := 30) ch_cX0_choosePosts_64 rfl)
theorem dX0_choosePosts_95 : decode cX0_choosePosts 95 = .ok (.iconst 0, 1) := do_3 (rdb (p := 64) (i := 31) ch_cX0_choosePosts_64 rfl)
theorem ch_cX0_choosePosts_96 : (cX0_choosePosts.data.toList.drop 96).take 36 = [181, 0, 30, 4, 54, 5, 21, 5, 17, 1, 0, 162, 0, 74, 42, 180, 0, 30, 153, 0, 18, 21, 5, 184, 0, 86, 42, 180, 0, 30, 184, 0, 86, 162, 0, 7] := by decide +kernel
theorem dX0_choosePosts_96 : decode cX0_choosePosts 96 = .ok (.putfield 30, 3) := do_181 (rdb (p := 96) (i := 0) ch_cX0_choosePosts_96 rfl) (rdb (p := 96) (i := 1) ch_cX0_choosePosts_96 rfl) (rdb (p := 96) (i := 2) ch_cX0_choosePosts_96 rfl) rfl
theorem dX0_choosePosts_99 : decode cX0_choosePosts 99 = .ok (.iconst 1, 1) := do_4 (rdb (p := 96) (i := 3) ch_cX0_choosePosts_96 rfl)
theorem dX0_choosePosts_100 : decode cX0_choosePosts 100 = .ok (.istore 5, 2) := do_54 (rdb (p := 96) (i := 4) ch_cX0_choosePosts_96 rfl) (rdb (p := 96) (i := 5) ch_cX0_choosePosts_96 rfl)
theorem dX0_choosePosts_102 : decode cX0_choosePosts 102 = .ok (.iload 5, 2) := do_21 (rdb (p := 96) (i := 6) ch_cX0_choosePosts_96 rfl) (rdb (p := 96) (i := 7) ch_cX0_choosePosts_96 rfl)
theorem dX0_choosePosts_104 : decode cX0_choosePosts 104 = .ok (.sipush 256, 3) := do_17 (rdb (p := 96) (i := 8) ch_cX0_choosePosts_96 rfl) (rdb (p := 96) (i := 9) ch_cX0_choosePosts_96 rfl) (rdb (p := 96) (i := 10) ch_cX0_choosePosts_96 rfl) (by decide +kernel)
theorem dX0_choosePosts_107 : decode cX0_choosePosts 107 = .ok (.if_icmp .ge 74, 3) := do_162 (rdb (p := 96) (i := 11) ch_cX0_choosePosts_96 rfl) (rdb (p := 96) (i := 12) ch_cX0_choosePosts_96 rfl) (rdb (p := 96) (i := 13) ch_cX0_choosePosts_96 rfl) (by decide +kernel)
theorem dX0_choosePosts_110 : decode cX0_choosePosts 110 = .ok (.aload_n 0, 1) := do_42 (rdb (p := 96) (i := 14) ch_cX0_choosePosts_96 rfl)
theorem dX0_choosePosts_111 : decode cX0_choosePosts 111 = .ok (.getfield 30, 3) := do_180 (rdb (p := 96) (i := 15) ch_cX0_choosePosts_96 rfl) (rdb (p := 96) (i := 16) ch_cX0_choosePosts_96 rfl) (rdb (p := 96) (i := 17) ch_cX0_choosePosts_96 rfl) rfl
theorem dX0_choosePosts_114 : decode cX0_choosePosts 114 = .ok (.ifCond .eq 18, 3) := do_153 (rdb (p := 96) (i := 18) ch_cX0_choosePosts_96 rfl) (rdb (p := 96) (i := 19) ch_cX0_choosePosts_96 rfl) (rdb (p := 96) (i := 20) ch_cX0_choosePosts_96 rfl) (by decide +kernel)
theorem dX0_choosePosts_117 : decode cX0_choosePosts 117 = .ok (.iload 5, 2) := do_21 (rdb (p := 96) (i := 21) ch_cX0_choosePosts_96 rfl) (rdb (p := 96) (i := 22) ch_cX0_choosePosts_96 rfl)
theorem dX0_choosePosts_119 : decode cX0_choosePosts 119 = .ok (.invokestatic 86, 3) := do_184 (rdb (p := 96) (i := 23) ch_cX0_choosePosts_96 rfl) (rdb (p := 96) (i := 24) ch_cX0_choosePosts_96 rfl) (rdb (p := 96) (i := 25) ch_cX0_choosePosts_96 rfl) rfl
theorem dX0_choosePosts_122 : decode cX0_choosePosts 122 = .ok (.aload_n 0, 1) := do_42 (rdb (p := 96) (i := 26) ch_cX0_choosePosts_96 rfl)
theorem dX0_choosePosts_123 : decode cX0_choosePosts 123 = .ok (.getfield 30, 3) := do_180 (rdb (p := 96) (i := 27) ch_cX0_choosePosts_96 rfl) (rdb (p := 96) (i := 28) ch_cX0_choosePosts_96 rfl) (rdb (p := 96) (i := 29) ch_cX0_choosePosts_96 rfl) rfl
theorem dX0_choosePosts_126 : decode cX0_choosePosts 126 = .ok (.invokestatic 86, 3) := do_184 (rdb (p := 96) (i := 30) ch_cX0_choosePosts_96 rfl) (rdb (p := 96) (i := 31) ch_cX0_choosePosts_96 rfl) (rdb (p := 96) (i := 32) ch_cX0_choosePosts_96 rfl) rfl
theorem ch_cX0_choosePosts_128 : (cX0_choosePosts.data.toList.drop 128).take 36 = [86, 162, 0, 7, 4, 167, 0, 4, 3, 54, 6, 21, 6, 153, 0, 34, 21, 5, 4, 45, 180, 0, 65, 120, 162, 0, 23, 42, 21, 5, 25, 4, 180, 0, 65, 182] := by decide +kernel
theorem dX0_choosePosts_129 : decode cX0_choosePosts 129 = .ok (.if_icmp .ge 7, 3) := do_162 (rdb (p := 128) (i := 1) ch_cX0_choosePosts_128 rfl) (rdb (p := 128) (i := 2) ch_cX0_choosePosts_128 rfl) (rdb (p := 128) (i := 3) ch_cX0_choosePosts_128 rfl) (by decide +kernel)
theorem dX0_choosePosts_132 : decode cX0_choosePosts 132 = .ok (.iconst 1, 1) := do_4 (rdb (p := 128) (i := 4) ch_cX0_choosePosts_128 rfl)
theorem dX0_choosePosts_133 : decode cX0_choosePosts 133 = .ok (.goto 4, 3) := do_167 (rdb (p := 128) (i := 5) ch_cX0_choosePosts_128 rfl) (rdb (p := 128) (i := 6) ch_cX0_choosePosts_128 rfl) (rdb (p := 128) (i := 7) ch_cX0_choosePosts_128 rfl) (by decide +kernel)
theorem dX0_choosePosts_136 : decode cX0_choosePosts 136 = .ok (.iconst 0, 1) := do_3 (rdb (p := 128) (i := 8) ch_cX0_choosePosts_128 rfl)
theorem dX0_choosePosts_137 : decode cX0_choosePosts 137 = .ok (.istore 6, 2) := do_54 (rdb (p := 128) (i := 9) ch_cX0_choosePosts_128 rfl) (rdb (p := 128) (i := 10) ch_cX0_choosePosts_128 rfl)
theorem dX0_choosePosts_139 : decode cX0_choosePosts 139 = .ok (.iload 6, 2) := do_21 (rdb (p := 128) (i := 11) ch_cX0_choosePosts_128 rfl) (rdb (p := 128) (i := 12) ch_cX0_choosePosts_128 rfl)
theorem dX0_choosePosts_141 : decode cX0_choosePosts 141 = .ok (.ifCond .eq 34, 3) := do_153 (rdb (p := 128) (i := 13) ch_cX0_choosePosts_128 rfl) (rdb (p := 128) (i := 14) ch_cX0_choosePosts_128 rfl) (rdb (p := 128) (i := 15) ch_cX0_choosePosts_128 rfl) (by decide +kernel)
theorem dX0_choosePosts_144 : decode cX0_choosePosts 144 = .ok (.iload 5, 2) := do_21 (rdb (p := 128) (i := 16) ch_cX0_choosePosts_128 rfl) (rdb (p := 128) (i := 17) ch_cX0_choosePosts_128 rfl)
theorem dX0_choosePosts_146 : decode cX0_choosePosts 146 = .ok (.iconst 1, 1) := do_4 (rdb (p := 128) (i := 18) ch_cX0_choosePosts_128 rfl)
theorem dX0_choosePosts_147 : decode cX0_choosePosts 147 = .ok (.aload_n 3, 1) := do_45 (rdb (p := 128) (i := 19) ch_cX0_choosePosts_128 rfl)
theorem dX0_choosePosts_148 : decode cX0_choosePosts 148 = .ok (.getfield 65, 3) := do_180 (rdb (p := 128) (i := 20) ch_cX0_choosePosts_128 rfl) (rdb (p := 128) (i := 21) ch_cX0_choosePosts_128 rfl) (rdb (p := 128) (i := 22) ch_cX0_choosePosts_128 rfl) rfl
theorem dX0_choosePosts_151 : decode cX0_choosePosts 151 = .ok (.ishl, 1) := do_120 (rdb (p := 128) (i := 23) ch_cX0_choosePosts_128 rfl)
theorem dX0_choosePosts_152 : decode cX0_choosePosts 152 = .ok (.if_icmp .ge 23, 3) := do_162 (rdb (p := 128) (i := 24) ch_cX0_choosePosts_128 rfl) (rdb (p := 128) (i := 25) ch_cX0_choosePosts_128 rfl) (rdb (p := 128) (i := 26) ch_cX0_choosePosts_128 rfl) (by decide +kernel)
theorem dX0_choosePosts_155 : decode cX0_choosePosts 155 = .ok (.aload_n 0, 1) := do_42 (rdb (p := 128) (i := 27) ch_cX0_choosePosts_128 rfl)
theorem dX0_choosePosts_156 : decode cX0_choosePosts 156 = .ok (.iload 5, 2) := do_21 (rdb (p := 128) (i := 28) ch_cX0_choosePosts_128 rfl) (rdb (p := 128) (i := 29) ch_cX0_choosePosts_128 rfl)
theorem dX0_choosePosts_158 : decode cX0_choosePosts 158 = .ok (.aload 4, 2) := do_25 (rdb (p := 128) (i := 30) ch_cX0_choosePosts_128 rfl) (rdb (p := 128) (i := 31) ch_cX0_choosePosts_128 rfl)
theorem ch_cX0_choosePosts_160 : (cX0_choosePosts.data.toList.drop 160).take 36 = [180, 0, 65, 182, 0, 116, 153, 0, 9, 42, 21, 5, 181, 0, 30, 132, 5, 1, 167, 255, 180, 42, 180, 0, 30, 153, 0, 7, 4, 167, 0, 4, 3, 172] := by decide +kernel
theorem dX0_choosePosts_160 : decode cX0_choosePosts 160 = .ok (.getfield 65, 3) := do_180 (rdb (p := 160) (i := 0) ch_cX0_choosePosts_160 rfl) (rdb (p := 160) (i := 1) ch_cX0_choosePosts_160 rfl) (rdb (p := 160) (i := 2) ch_cX0_choosePosts_160 rfl) rfl
theorem dX0_choosePosts_163 : decode cX0_choosePosts 163 = .ok (.invokevirtual 116, 3) := do_182 (rdb (p := 160) (i := 3) ch_cX0_choosePosts_160 rfl) (rdb (p := 160) (i := 4) ch_cX0_choosePosts_160 rfl) (rdb (p := 160) (i := 5) ch_cX0_choosePosts_160 rfl) rfl
theorem dX0_choosePosts_166 : decode cX0_choosePosts 166 = .ok (.ifCond .eq 9, 3) := do_153 (rdb (p := 160) (i := 6) ch_cX0_choosePosts_160 rfl) (rdb (p := 160) (i := 7) ch_cX0_choosePosts_160 rfl) (rdb (p := 160) (i := 8) ch_cX0_choosePosts_160 rfl) (by decide +kernel)
theorem dX0_choosePosts_169 : decode cX0_choosePosts 169 = .ok (.aload_n 0, 1) := do_42 (rdb (p := 160) (i := 9) ch_cX0_choosePosts_160 rfl)
theorem dX0_choosePosts_170 : decode cX0_choosePosts 170 = .ok (.iload 5, 2) := do_21 (rdb (p := 160) (i := 10) ch_cX0_choosePosts_160 rfl) (rdb (p := 160) (i := 11) ch_cX0_choosePosts_160 rfl)
theorem dX0_choosePosts_172 : decode cX0_choosePosts 172 = .ok (.putfield 30, 3) := do_181 (rdb (p := 160) (i := 12) ch_cX0_choosePosts_160 rfl) (rdb (p := 160) (i := 13) ch_cX0_choosePosts_160 rfl) (rdb (p := 160) (i := 14) ch_cX0_choosePosts_160 rfl) rfl
theorem dX0_choosePosts_175 : decode cX0_choosePosts 175 = .ok (.iinc 5 1, 3) := do_132 (rdb (p := 160) (i := 15) ch_cX0_choosePosts_160 rfl) (rdb (p := 160) (i := 16) ch_cX0_choosePosts_160 rfl) (rdb (p := 160) (i := 17) ch_cX0_choosePosts_160 rfl) (by decide +kernel)
theorem dX0_choosePosts_178 : decode cX0_choosePosts 178 = .ok (.goto (-76), 3) := do_167 (rdb (p := 160) (i := 18) ch_cX0_choosePosts_160 rfl) (rdb (p := 160) (i := 19) ch_cX0_choosePosts_160 rfl) (rdb (p := 160) (i := 20) ch_cX0_choosePosts_160 rfl) (by decide +kernel)
theorem dX0_choosePosts_181 : decode cX0_choosePosts 181 = .ok (.aload_n 0, 1) := do_42 (rdb (p := 160) (i := 21) ch_cX0_choosePosts_160 rfl)
theorem dX0_choosePosts_182 : decode cX0_choosePosts 182 = .ok (.getfield 30, 3) := do_180 (rdb (p := 160) (i := 22) ch_cX0_choosePosts_160 rfl) (rdb (p := 160) (i := 23) ch_cX0_choosePosts_160 rfl) (rdb (p := 160) (i := 24) ch_cX0_choosePosts_160 rfl) rfl
theorem dX0_choosePosts_185 : decode cX0_choosePosts 185 = .ok (.ifCond .eq 7, 3) := do_153 (rdb (p := 160) (i := 25) ch_cX0_choosePosts_160 rfl) (rdb (p := 160) (i := 26) ch_cX0_choosePosts_160 rfl) (rdb (p := 160) (i := 27) ch_cX0_choosePosts_160 rfl) (by decide +kernel)
theorem dX0_choosePosts_188 : decode cX0_choosePosts 188 = .ok (.iconst 1, 1) := do_4 (rdb (p := 160) (i := 28) ch_cX0_choosePosts_160 rfl)
theorem dX0_choosePosts_189 : decode cX0_choosePosts 189 = .ok (.goto 4, 3) := do_167 (rdb (p := 160) (i := 29) ch_cX0_choosePosts_160 rfl) (rdb (p := 160) (i := 30) ch_cX0_choosePosts_160 rfl) (rdb (p := 160) (i := 31) ch_cX0_choosePosts_160 rfl) (by decide +kernel)
theorem ch_cX0_choosePosts_192 : (cX0_choosePosts.data.toList.drop 192).take 36 = [3, 172] := by decide +kernel
theorem dX0_choosePosts_192 : decode cX0_choosePosts 192 = .ok (.iconst 0, 1) := do_3 (rdb (p := 192) (i := 0) ch_cX0_choosePosts_192 rfl)
theorem dX0_choosePosts_193 : decode cX0_choosePosts 193 = .ok (.ireturn, 1) := do_172 (rdb (p := 192) (i := 1) ch_cX0_choosePosts_192 rfl)
theorem ch_cX0_chooseSpots_0 : (cX0_chooseSpots.data.toList.drop 0).take 36 = [3, 54, 5, 3, 54, 6, 21, 6, 45, 180, 0, 65, 162, 0, 55, 21, 6, 16, 8, 162, 0, 48, 43, 180, 0, 70, 45, 21, 6, 182, 0, 76, 182, 0, 79, 153] := by decide +kernel
theorem dX0_chooseSpots_0 : decode cX0_chooseSpots 0 = .ok (.iconst 0, 1) := do_3 (rdb (p := 0) (i := 0) ch_cX0_chooseSpots_0 rfl)
theorem dX0_chooseSpots_1 : decode cX0_chooseSpots 1 = .ok (.istore 5, 2) := do_54 (rdb (p := 0) (i := 1) ch_cX0_chooseSpots_0 rfl) (rdb (p := 0) (i := 2) ch_cX0_chooseSpots_0 rfl)
theorem dX0_chooseSpots_3 : decode cX0_chooseSpots 3 = .ok (.iconst 0, 1) := do_3 (rdb (p := 0) (i := 3) ch_cX0_chooseSpots_0 rfl)
theorem dX0_chooseSpots_4 : decode cX0_chooseSpots 4 = .ok (.istore 6, 2) := do_54 (rdb (p := 0) (i := 4) ch_cX0_chooseSpots_0 rfl) (rdb (p := 0) (i := 5) ch_cX0_chooseSpots_0 rfl)
theorem dX0_chooseSpots_6 : decode cX0_chooseSpots 6 = .ok (.iload 6, 2) := do_21 (rdb (p := 0) (i := 6) ch_cX0_chooseSpots_0 rfl) (rdb (p := 0) (i := 7) ch_cX0_chooseSpots_0 rfl)
theorem dX0_chooseSpots_8 : decode cX0_chooseSpots 8 = .ok (.aload_n 3, 1) := do_45 (rdb (p := 0) (i := 8) ch_cX0_chooseSpots_0 rfl)
theorem dX0_chooseSpots_9 : decode cX0_chooseSpots 9 = .ok (.getfield 65, 3) := do_180 (rdb (p := 0) (i := 9) ch_cX0_chooseSpots_0 rfl) (rdb (p := 0) (i := 10) ch_cX0_chooseSpots_0 rfl) (rdb (p := 0) (i := 11) ch_cX0_chooseSpots_0 rfl) rfl
theorem dX0_chooseSpots_12 : decode cX0_chooseSpots 12 = .ok (.if_icmp .ge 55, 3) := do_162 (rdb (p := 0) (i := 12) ch_cX0_chooseSpots_0 rfl) (rdb (p := 0) (i := 13) ch_cX0_chooseSpots_0 rfl) (rdb (p := 0) (i := 14) ch_cX0_chooseSpots_0 rfl) (by decide +kernel)
theorem dX0_chooseSpots_15 : decode cX0_chooseSpots 15 = .ok (.iload 6, 2) := do_21 (rdb (p := 0) (i := 15) ch_cX0_chooseSpots_0 rfl) (rdb (p := 0) (i := 16) ch_cX0_chooseSpots_0 rfl)
theorem dX0_chooseSpots_17 : decode cX0_chooseSpots 17 = .ok (.bipush 8, 2) := do_16 (rdb (p := 0) (i := 17) ch_cX0_chooseSpots_0 rfl) (rdb (p := 0) (i := 18) ch_cX0_chooseSpots_0 rfl) (by decide +kernel)
theorem dX0_chooseSpots_19 : decode cX0_chooseSpots 19 = .ok (.if_icmp .ge 48, 3) := do_162 (rdb (p := 0) (i := 19) ch_cX0_chooseSpots_0 rfl) (rdb (p := 0) (i := 20) ch_cX0_chooseSpots_0 rfl) (rdb (p := 0) (i := 21) ch_cX0_chooseSpots_0 rfl) (by decide +kernel)
theorem dX0_chooseSpots_22 : decode cX0_chooseSpots 22 = .ok (.aload_n 1, 1) := do_43 (rdb (p := 0) (i := 22) ch_cX0_chooseSpots_0 rfl)
theorem dX0_chooseSpots_23 : decode cX0_chooseSpots 23 = .ok (.getfield 70, 3) := do_180 (rdb (p := 0) (i := 23) ch_cX0_chooseSpots_0 rfl) (rdb (p := 0) (i := 24) ch_cX0_chooseSpots_0 rfl) (rdb (p := 0) (i := 25) ch_cX0_chooseSpots_0 rfl) rfl
theorem dX0_chooseSpots_26 : decode cX0_chooseSpots 26 = .ok (.aload_n 3, 1) := do_45 (rdb (p := 0) (i := 26) ch_cX0_chooseSpots_0 rfl)
theorem dX0_chooseSpots_27 : decode cX0_chooseSpots 27 = .ok (.iload 6, 2) := do_21 (rdb (p := 0) (i := 27) ch_cX0_chooseSpots_0 rfl) (rdb (p := 0) (i := 28) ch_cX0_chooseSpots_0 rfl)
theorem dX0_chooseSpots_29 : decode cX0_chooseSpots 29 = .ok (.invokevirtual 76, 3) := do_182 (rdb (p := 0) (i := 29) ch_cX0_chooseSpots_0 rfl) (rdb (p := 0) (i := 30) ch_cX0_chooseSpots_0 rfl) (rdb (p := 0) (i := 31) ch_cX0_chooseSpots_0 rfl) rfl
theorem ch_cX0_chooseSpots_32 : (cX0_chooseSpots.data.toList.drop 32).take 36 = [182, 0, 79, 153, 0, 26, 21, 5, 4, 21, 6, 120, 128, 54, 5, 42, 43, 28, 21, 6, 45, 21, 6, 182, 0, 76, 182, 0, 82, 132, 6, 1, 167, 255, 198, 42] := by decide +kernel
theorem dX0_chooseSpots_32 : decode cX0_chooseSpots 32 = .ok (.invokevirtual 79, 3) := do_182 (rdb (p := 32) (i := 0) ch_cX0_chooseSpots_32 rfl) (rdb (p := 32) (i := 1) ch_cX0_chooseSpots_32 rfl) (rdb (p := 32) (i := 2) ch_cX0_chooseSpots_32 rfl) rfl
theorem dX0_chooseSpots_35 : decode cX0_chooseSpots 35 = .ok (.ifCond .eq 26, 3) := do_153 (rdb (p := 32) (i := 3) ch_cX0_chooseSpots_32 rfl) (rdb (p := 32) (i := 4) ch_cX0_chooseSpots_32 rfl) (rdb (p := 32) (i := 5) ch_cX0_chooseSpots_32 rfl) (by decide +kernel)
theorem dX0_chooseSpots_38 : decode cX0_chooseSpots 38 = .ok (.iload 5, 2) := do_21 (rdb (p := 32) (i := 6) ch_cX0_chooseSpots_32 rfl) (rdb (p := 32) (i := 7) ch_cX0_chooseSpots_32 rfl)
theorem dX0_chooseSpots_40 : decode cX0_chooseSpots 40 = .ok (.iconst 1, 1) := do_4 (rdb (p := 32) (i := 8) ch_cX0_chooseSpots_32 rfl)
theorem dX0_chooseSpots_41 : decode cX0_chooseSpots 41 = .ok (.iload 6, 2) := do_21 (rdb (p := 32) (i := 9) ch_cX0_chooseSpots_32 rfl) (rdb (p := 32) (i := 10) ch_cX0_chooseSpots_32 rfl)
theorem dX0_chooseSpots_43 : decode cX0_chooseSpots 43 = .ok (.ishl, 1) := do_120 (rdb (p := 32) (i := 11) ch_cX0_chooseSpots_32 rfl)
theorem dX0_chooseSpots_44 : decode cX0_chooseSpots 44 = .ok (.ior, 1) := do_128 (rdb (p := 32) (i := 12) ch_cX0_chooseSpots_32 rfl)
theorem dX0_chooseSpots_45 : decode cX0_chooseSpots 45 = .ok (.istore 5, 2) := do_54 (rdb (p := 32) (i := 13) ch_cX0_chooseSpots_32 rfl) (rdb (p := 32) (i := 14) ch_cX0_chooseSpots_32 rfl)
theorem dX0_chooseSpots_47 : decode cX0_chooseSpots 47 = .ok (.aload_n 0, 1) := do_42 (rdb (p := 32) (i := 15) ch_cX0_chooseSpots_32 rfl)
theorem dX0_chooseSpots_48 : decode cX0_chooseSpots 48 = .ok (.aload_n 1, 1) := do_43 (rdb (p := 32) (i := 16) ch_cX0_chooseSpots_32 rfl)
theorem dX0_chooseSpots_49 : decode cX0_chooseSpots 49 = .ok (.iload_n 2, 1) := do_28 (rdb (p := 32) (i := 17) ch_cX0_chooseSpots_32 rfl)
theorem dX0_chooseSpots_50 : decode cX0_chooseSpots 50 = .ok (.iload 6, 2) := do_21 (rdb (p := 32) (i := 18) ch_cX0_chooseSpots_32 rfl) (rdb (p := 32) (i := 19) ch_cX0_chooseSpots_32 rfl)
theorem dX0_chooseSpots_52 : decode cX0_chooseSpots 52 = .ok (.aload_n 3, 1) := do_45 (rdb (p := 32) (i := 20) ch_cX0_chooseSpots_32 rfl)
theorem dX0_chooseSpots_53 : decode cX0_chooseSpots 53 = .ok (.iload 6, 2) := do_21 (rdb (p := 32) (i := 21) ch_cX0_chooseSpots_32 rfl) (rdb (p := 32) (i := 22) ch_cX0_chooseSpots_32 rfl)
theorem dX0_chooseSpots_55 : decode cX0_chooseSpots 55 = .ok (.invokevirtual 76, 3) := do_182 (rdb (p := 32) (i := 23) ch_cX0_chooseSpots_32 rfl) (rdb (p := 32) (i := 24) ch_cX0_chooseSpots_32 rfl) (rdb (p := 32) (i := 25) ch_cX0_chooseSpots_32 rfl) rfl
theorem dX0_chooseSpots_58 : decode cX0_chooseSpots 58 = .ok (.invokevirtual 82, 3) := do_182 (rdb (p := 32) (i := 26) ch_cX0_chooseSpots_32 rfl) (rdb (p := 32) (i := 27) ch_cX0_chooseSpots_32 rfl) (rdb (p := 32) (i := 28) ch_cX0_chooseSpots_32 rfl) rfl
theorem dX0_chooseSpots_61 : decode cX0_chooseSpots 61 = .ok (.iinc 6 1, 3) := do_132 (rdb (p := 32) (i := 29) ch_cX0_chooseSpots_32 rfl) (rdb (p := 32) (i := 30) ch_cX0_chooseSpots_32 rfl) (rdb (p := 32) (i := 31) ch_cX0_chooseSpots_32 rfl) (by decide +kernel)
theorem ch_cX0_chooseSpots_64 : (cX0_chooseSpots.data.toList.drop 64).take 36 = [167, 255, 198, 42, 2, 181, 0, 26, 42, 3, 181, 0, 30, 4, 54, 6, 21, 6, 17, 1, 0, 162, 0, 58, 21, 6, 21, 5, 2, 130, 126, 154, 0, 42, 21, 6] := by decide +kernel
theorem dX0_chooseSpots_64 : decode cX0_chooseSpots 64 = .ok (.goto (-58), 3) := do_167 (rdb (p := 64) (i := 0) ch_cX0_chooseSpots_64 rfl) (rdb (p := 64) (i := 1) ch_cX0_chooseSpots_64 rfl) (rdb (p := 64) (i := 2) ch_cX0_chooseSpots_64 rfl) (by decide +kernel)
theorem dX0_chooseSpots_67 : decode cX0_chooseSpots 67 = .ok (.aload_n 0, 1) := do_42 (rdb (p := 64) (i := 3) ch_cX0_chooseSpots_64 rfl)
theorem dX0_chooseSpots_68 : decode cX0_chooseSpots 68 = .ok (.iconst (-1), 1) := do_2 (rdb (p := 64) (i := 4) ch_cX0_chooseSpots_64 rfl)
theorem dX0_chooseSpots_69 : decode cX0_chooseSpots 69 = .ok (.putfield 26, 3) := do_181 (rdb (p := 64) (i := 5) ch_cX0_chooseSpots_64 rfl) (rdb (p := 64) (i := 6) ch_cX0_chooseSpots_64 rfl) (rdb (p := 64) (i := 7) ch_cX0_chooseSpots_64 rfl) rfl
theorem dX0_chooseSpots_72 : decode cX0_chooseSpots 72 = .ok (.aload_n 0, 1) := do_42 (rdb (p := 64) (i := 8) ch_cX0_chooseSpots_64 rfl)
theorem dX0_chooseSpots_73 : decode cX0_chooseSpots 73 = .ok (.iconst 0, 1) := do_3 (rdb (p := 64) (i := 9) ch_cX0_chooseSpots_64 rfl)
theorem dX0_chooseSpots_74 : decode cX0_chooseSpots 74 = .ok (.putfield 30, 3) := do_181 (rdb (p := 64) (i := 10) ch_cX0_chooseSpots_64 rfl) (rdb (p := 64) (i := 11) ch_cX0_chooseSpots_64 rfl) (rdb (p := 64) (i := 12) ch_cX0_chooseSpots_64 rfl) rfl
theorem dX0_chooseSpots_77 : decode cX0_chooseSpots 77 = .ok (.iconst 1, 1) := do_4 (rdb (p := 64) (i := 13) ch_cX0_chooseSpots_64 rfl)
theorem dX0_chooseSpots_78 : decode cX0_chooseSpots 78 = .ok (.istore 6, 2) := do_54 (rdb (p := 64) (i := 14) ch_cX0_chooseSpots_64 rfl) (rdb (p := 64) (i := 15) ch_cX0_chooseSpots_64 rfl)
theorem dX0_chooseSpots_80 : decode cX0_chooseSpots 80 = .ok (.iload 6, 2) := do_21 (rdb (p := 64) (i := 16) ch_cX0_chooseSpots_64 rfl) (rdb (p := 64) (i := 17) ch_cX0_chooseSpots_64 rfl)
theorem dX0_chooseSpots_82 : decode cX0_chooseSpots 82 = .ok (.sipush 256, 3) := do_17 (rdb (p := 64) (i := 18) ch_cX0_chooseSpots_64 rfl) (rdb (p := 64) (i := 19) ch_cX0_chooseSpots_64 rfl) (rdb (p := 64) (i := 20) ch_cX0_chooseSpots_64 rfl) (by decide +kernel)
theorem dX0_chooseSpots_85 : decode cX0_chooseSpots 85 = .ok (.if_icmp .ge 58, 3) := do_162 (rdb (p := 64) (i := 21) ch_cX0_chooseSpots_64 rfl) (rdb (p := 64) (i := 22) ch_cX0_chooseSpots_64 rfl) (rdb (p := 64) (i := 23) ch_cX0_chooseSpots_64 rfl) (by decide +kernel)
theorem dX0_chooseSpots_88 : decode cX0_chooseSpots 88 = .ok (.iload 6, 2) := do_21 (rdb (p := 64) (i := 24) ch_cX0_chooseSpots_64 rfl) (rdb (p := 64) (i := 25) ch_cX0_chooseSpots_64 rfl)
theorem dX0_chooseSpots_90 : decode cX0_chooseSpots 90 = .ok (.iload 5, 2) := do_21 (rdb (p := 64) (i := 26) ch_cX0_chooseSpots_64 rfl) (rdb (p := 64) (i := 27) ch_cX0_chooseSpots_64 rfl)
theorem dX0_chooseSpots_92 : decode cX0_chooseSpots 92 = .ok (.iconst (-1), 1) := do_2 (rdb (p := 64) (i := 28) ch_cX0_chooseSpots_64 rfl)
theorem dX0_chooseSpots_93 : decode cX0_chooseSpots 93 = .ok (.ixor, 1) := do_130 (rdb (p := 64) (i := 29) ch_cX0_chooseSpots_64 rfl)
theorem dX0_chooseSpots_94 : decode cX0_chooseSpots 94 = .ok (.iand, 1) := do_126 (rdb (p := 64) (i := 30) ch_cX0_chooseSpots_64 rfl)
theorem dX0_chooseSpots_95 : decode cX0_chooseSpots 95 = .ok (.ifCond .ne 42, 3) := do_154 (rdb (p := 64) (i := 31) ch_cX0_chooseSpots_64 rfl) (rdb (p := 64) (i := 32) ch_cX0_chooseSpots_64 rfl) (rdb (p := 64) (i := 33) ch_cX0_chooseSpots_64 rfl) (by decide +kernel)
theorem ch_cX0_chooseSpots_96 : (cX0_chooseSpots.data.toList.drop 96).take 36 = [0, 42, 21, 6, 184, 0, 86, 21, 4, 160, 0, 32, 42, 21, 6, 182, 0, 91, 54, 7, 21, 7, 42, 180, 0, 26, 164, 0, 15, 42, 21, 7, 181, 0, 26, 42] := by decide +kernel
theorem dX0_chooseSpots_98 : decode cX0_chooseSpots 98 = .ok (.iload 6, 2) := do_21 (rdb (p := 96) (i := 2) ch_cX0_chooseSpots_96 rfl) (rdb (p := 96) (i := 3) ch_cX0_chooseSpots_96 rfl)
theorem dX0_chooseSpots_100 : decode cX0_chooseSpots 100 = .ok (.invokestatic 86, 3) := do_184 (rdb (p := 96) (i := 4) ch_cX0_chooseSpots_96 rfl) (rdb (p := 96) (i := 5) ch_cX0_chooseSpots_96 rfl) (rdb (p := 96) (i := 6) ch_cX0_chooseSpots_96 rfl) rfl
theorem dX0_chooseSpots_103 : decode cX0_chooseSpots 103 = .ok (.iload 4, 2) := do_21 (rdb (p := 96) (i := 7) ch_cX0_chooseSpots_96 rfl) (rdb (p := 96) (i := 8) ch_cX0_chooseSpots_96 rfl)
theorem dX0_chooseSpots_105 : decode cX0_chooseSpots 105 = .ok (.if_icmp .ne 32, 3) := do_160 (rdb (p := 96) (i := 9) ch_cX0_chooseSpots_96 rfl) (rdb (p := 96) (i := 10) ch_cX0_chooseSpots_96 rfl) (rdb (p := 96) (i := 11) ch_cX0_chooseSpots_96 rfl) (by decide +kernel)
theorem dX0_chooseSpots_108 : decode cX0_chooseSpots 108 = .ok (.aload_n 0, 1) := do_42 (rdb (p := 96) (i := 12) ch_cX0_chooseSpots_96 rfl)
theorem dX0_chooseSpots_109 : decode cX0_chooseSpots 109 = .ok (.iload 6, 2) := do_21 (rdb (p := 96) (i := 13) ch_cX0_chooseSpots_96 rfl) (rdb (p := 96) (i := 14) ch_cX0_chooseSpots_96 rfl)
theorem dX0_chooseSpots_111 : decode cX0_chooseSpots 111 = .ok (.invokevirtual 91, 3) := do_182 (rdb (p := 96) (i := 15) ch_cX0_chooseSpots_96 rfl) (rdb (p := 96) (i := 16) ch_cX0_chooseSpots_96 rfl) (rdb (p := 96) (i := 17) ch_cX0_chooseSpots_96 rfl) rfl
theorem dX0_chooseSpots_114 : decode cX0_chooseSpots 114 = .ok (.istore 7, 2) := do_54 (rdb (p := 96) (i := 18) ch_cX0_chooseSpots_96 rfl) (rdb (p := 96) (i := 19) ch_cX0_chooseSpots_96 rfl)
theorem dX0_chooseSpots_116 : decode cX0_chooseSpots 116 = .ok (.iload 7, 2) := do_21 (rdb (p := 96) (i := 20) ch_cX0_chooseSpots_96 rfl) (rdb (p := 96) (i := 21) ch_cX0_chooseSpots_96 rfl)
theorem dX0_chooseSpots_118 : decode cX0_chooseSpots 118 = .ok (.aload_n 0, 1) := do_42 (rdb (p := 96) (i := 22) ch_cX0_chooseSpots_96 rfl)
theorem dX0_chooseSpots_119 : decode cX0_chooseSpots 119 = .ok (.getfield 26, 3) := do_180 (rdb (p := 96) (i := 23) ch_cX0_chooseSpots_96 rfl) (rdb (p := 96) (i := 24) ch_cX0_chooseSpots_96 rfl) (rdb (p := 96) (i := 25) ch_cX0_chooseSpots_96 rfl) rfl
theorem dX0_chooseSpots_122 : decode cX0_chooseSpots 122 = .ok (.if_icmp .le 15, 3) := do_164 (rdb (p := 96) (i := 26) ch_cX0_chooseSpots_96 rfl) (rdb (p := 96) (i := 27) ch_cX0_chooseSpots_96 rfl) (rdb (p := 96) (i := 28) ch_cX0_chooseSpots_96 rfl) (by decide +kernel)
theorem dX0_chooseSpots_125 : decode cX0_chooseSpots 125 = .ok (.aload_n 0, 1) := do_42 (rdb (p := 96) (i := 29) ch_cX0_chooseSpots_96 rfl)
theorem dX0_chooseSpots_126 : decode cX0_chooseSpots 126 = .ok (.iload 7, 2) := do_21 (rdb (p := 96) (i := 30) ch_cX0_chooseSpots_96 rfl) (rdb (p := 96) (i := 31) ch_cX0_chooseSpots_96 rfl)
theorem ch_cX0_chooseSpots_128 : (cX0_chooseSpots.data.toList.drop 128).take 36 = [181, 0, 26, 42, 21, 6, 181, 0, 30, 132, 6, 1, 167, 255, 196, 42, 180, 0, 26, 155, 0, 7, 4, 167, 0, 4, 3, 172] := by decide +kernel
theorem dX0_chooseSpots_128 : decode cX0_chooseSpots 128 = .ok (.putfield 26, 3) := do_181 (rdb (p := 128) (i := 0) ch_cX0_chooseSpots_128 rfl) (rdb (p := 128) (i := 1) ch_cX0_chooseSpots_128 rfl) (rdb (p := 128) (i := 2) ch_cX0_chooseSpots_128 rfl) rfl
theorem dX0_chooseSpots_131 : decode cX0_chooseSpots 131 = .ok (.aload_n 0, 1) := do_42 (rdb (p := 128) (i := 3) ch_cX0_chooseSpots_128 rfl)
theorem dX0_chooseSpots_132 : decode cX0_chooseSpots 132 = .ok (.iload 6, 2) := do_21 (rdb (p := 128) (i := 4) ch_cX0_chooseSpots_128 rfl) (rdb (p := 128) (i := 5) ch_cX0_chooseSpots_128 rfl)
theorem dX0_chooseSpots_134 : decode cX0_chooseSpots 134 = .ok (.putfield 30, 3) := do_181 (rdb (p := 128) (i := 6) ch_cX0_chooseSpots_128 rfl) (rdb (p := 128) (i := 7) ch_cX0_chooseSpots_128 rfl) (rdb (p := 128) (i := 8) ch_cX0_chooseSpots_128 rfl) rfl
theorem dX0_chooseSpots_137 : decode cX0_chooseSpots 137 = .ok (.iinc 6 1, 3) := do_132 (rdb (p := 128) (i := 9) ch_cX0_chooseSpots_128 rfl) (rdb (p := 128) (i := 10) ch_cX0_chooseSpots_128 rfl) (rdb (p := 128) (i := 11) ch_cX0_chooseSpots_128 rfl) (by decide +kernel)
theorem dX0_chooseSpots_140 : decode cX0_chooseSpots 140 = .ok (.goto (-60), 3) := do_167 (rdb (p := 128) (i := 12) ch_cX0_chooseSpots_128 rfl) (rdb (p := 128) (i := 13) ch_cX0_chooseSpots_128 rfl) (rdb (p := 128) (i := 14) ch_cX0_chooseSpots_128 rfl) (by decide +kernel)
theorem dX0_chooseSpots_143 : decode cX0_chooseSpots 143 = .ok (.aload_n 0, 1) := do_42 (rdb (p := 128) (i := 15) ch_cX0_chooseSpots_128 rfl)
theorem dX0_chooseSpots_144 : decode cX0_chooseSpots 144 = .ok (.getfield 26, 3) := do_180 (rdb (p := 128) (i := 16) ch_cX0_chooseSpots_128 rfl) (rdb (p := 128) (i := 17) ch_cX0_chooseSpots_128 rfl) (rdb (p := 128) (i := 18) ch_cX0_chooseSpots_128 rfl) rfl
theorem dX0_chooseSpots_147 : decode cX0_chooseSpots 147 = .ok (.ifCond .lt 7, 3) := do_155 (rdb (p := 128) (i := 19) ch_cX0_chooseSpots_128 rfl) (rdb (p := 128) (i := 20) ch_cX0_chooseSpots_128 rfl) (rdb (p := 128) (i := 21) ch_cX0_chooseSpots_128 rfl) (by decide +kernel)
theorem dX0_chooseSpots_150 : decode cX0_chooseSpots 150 = .ok (.iconst 1, 1) := do_4 (rdb (p := 128) (i := 22) ch_cX0_chooseSpots_128 rfl)
theorem dX0_chooseSpots_151 : decode cX0_chooseSpots 151 = .ok (.goto 4, 3) := do_167 (rdb (p := 128) (i := 23) ch_cX0_chooseSpots_128 rfl) (rdb (p := 128) (i := 24) ch_cX0_chooseSpots_128 rfl) (rdb (p := 128) (i := 25) ch_cX0_chooseSpots_128 rfl) (by decide +kernel)
theorem dX0_chooseSpots_154 : decode cX0_chooseSpots 154 = .ok (.iconst 0, 1) := do_3 (rdb (p := 128) (i := 26) ch_cX0_chooseSpots_128 rfl)
theorem dX0_chooseSpots_155 : decode cX0_chooseSpots 155 = .ok (.ireturn, 1) := do_172 (rdb (p := 128) (i := 27) ch_cX0_chooseSpots_128 rfl)
theorem dX0_costFrom_0 : decode cX0_costFrom 0 = .ok (.iload_n 1, 1) := by decide +kernel
theorem dX0_costFrom_1 : decode cX0_costFrom 1 = .ok (.invokestatic 34, 3) := by decide +kernel
theorem dX0_costFrom_4 : decode cX0_costFrom 4 = .ok (.ifCond .eq 12, 3) := by decide +kernel
theorem dX0_costFrom_7 : decode cX0_costFrom 7 = .ok (.aload_n 0, 1) := by decide +kernel
theorem dX0_costFrom_8 : decode cX0_costFrom 8 = .ok (.getfield 9, 3) := by decide +kernel
theorem dX0_costFrom_11 : decode cX0_costFrom 11 = .ok (.iload_n 1, 1) := by decide +kernel
theorem dX0_costFrom_12 : decode cX0_costFrom 12 = .ok (.iaload, 1) := by decide +kernel
theorem dX0_costFrom_13 : decode cX0_costFrom 13 = .ok (.goto 5, 3) := by decide +kernel
theorem dX0_costFrom_16 : decode cX0_costFrom 16 = .ok (.ldc 33, 2) := by decide +kernel
theorem dX0_costFrom_18 : decode cX0_costFrom 18 = .ok (.ireturn, 1) := by decide +kernel
theorem dX0_costInto_0 : decode cX0_costInto 0 = .ok (.aload_n 0, 1) := by decide +kernel
theorem dX0_costInto_1 : decode cX0_costInto 1 = .ok (.iload_n 1, 1) := by decide +kernel
theorem dX0_costInto_2 : decode cX0_costInto 2 = .ok (.invokevirtual 50, 3) := by decide +kernel
theorem dX0_costInto_5 : decode cX0_costInto 5 = .ok (.istore_n 2, 1) := by decide +kernel
theorem dX0_costInto_6 : decode cX0_costInto 6 = .ok (.iload_n 2, 1) := by decide +kernel
theorem dX0_costInto_7 : decode cX0_costInto 7 = .ok (.iconst 1, 1) := by decide +kernel
theorem dX0_costInto_8 : decode cX0_costInto 8 = .ok (.if_icmp .ne 7, 3) := by decide +kernel
theorem dX0_costInto_11 : decode cX0_costInto 11 = .ok (.iconst 1, 1) := by decide +kernel
theorem dX0_costInto_12 : decode cX0_costInto 12 = .ok (.goto 14, 3) := by decide +kernel
theorem dX0_costInto_15 : decode cX0_costInto 15 = .ok (.iload_n 2, 1) := by decide +kernel
theorem dX0_costInto_16 : decode cX0_costInto 16 = .ok (.iconst 2, 1) := by decide +kernel
theorem dX0_costInto_17 : decode cX0_costInto 17 = .ok (.if_icmp .ne 8, 3) := by decide +kernel
theorem dX0_costInto_20 : decode cX0_costInto 20 = .ok (.bipush 20, 2) := by decide +kernel
theorem dX0_costInto_22 : decode cX0_costInto 22 = .ok (.goto 4, 3) := by decide +kernel
theorem dX0_costInto_25 : decode cX0_costInto 25 = .ok (.iconst 3, 1) := by decide +kernel
theorem dX0_costInto_26 : decode cX0_costInto 26 = .ok (.ireturn, 1) := by decide +kernel
theorem ch_cX0_countLearned_0 : (cX0_countLearned.data.toList.drop 0).take 36 = [3, 61, 3, 62, 29, 6, 162, 0, 61, 9, 55, 4, 3, 54, 6, 21, 6, 16, 8, 162, 0, 34, 27, 4, 21, 6, 120, 126, 153, 0, 19, 22, 4, 42, 180, 0] := by decide +kernel
theorem dX0_countLearned_0 : decode cX0_countLearned 0 = .ok (.iconst 0, 1) := do_3 (rdb (p := 0) (i := 0) ch_cX0_countLearned_0 rfl)
theorem dX0_countLearned_1 : decode cX0_countLearned 1 = .ok (.istore_n 2, 1) := do_61 (rdb (p := 0) (i := 1) ch_cX0_countLearned_0 rfl)
theorem dX0_countLearned_2 : decode cX0_countLearned 2 = .ok (.iconst 0, 1) := do_3 (rdb (p := 0) (i := 2) ch_cX0_countLearned_0 rfl)
theorem dX0_countLearned_3 : decode cX0_countLearned 3 = .ok (.istore_n 3, 1) := do_62 (rdb (p := 0) (i := 3) ch_cX0_countLearned_0 rfl)
theorem dX0_countLearned_4 : decode cX0_countLearned 4 = .ok (.iload_n 3, 1) := do_29 (rdb (p := 0) (i := 4) ch_cX0_countLearned_0 rfl)
theorem dX0_countLearned_5 : decode cX0_countLearned 5 = .ok (.iconst 3, 1) := do_6 (rdb (p := 0) (i := 5) ch_cX0_countLearned_0 rfl)
theorem dX0_countLearned_6 : decode cX0_countLearned 6 = .ok (.if_icmp .ge 61, 3) := do_162 (rdb (p := 0) (i := 6) ch_cX0_countLearned_0 rfl) (rdb (p := 0) (i := 7) ch_cX0_countLearned_0 rfl) (rdb (p := 0) (i := 8) ch_cX0_countLearned_0 rfl) (by decide +kernel)
theorem dX0_countLearned_9 : decode cX0_countLearned 9 = .ok (.lconst 0, 1) := do_9 (rdb (p := 0) (i := 9) ch_cX0_countLearned_0 rfl)
theorem dX0_countLearned_10 : decode cX0_countLearned 10 = .ok (.lstore 4, 2) := do_55 (rdb (p := 0) (i := 10) ch_cX0_countLearned_0 rfl) (rdb (p := 0) (i := 11) ch_cX0_countLearned_0 rfl)
theorem dX0_countLearned_12 : decode cX0_countLearned 12 = .ok (.iconst 0, 1) := do_3 (rdb (p := 0) (i := 12) ch_cX0_countLearned_0 rfl)
theorem dX0_countLearned_13 : decode cX0_countLearned 13 = .ok (.istore 6, 2) := do_54 (rdb (p := 0) (i := 13) ch_cX0_countLearned_0 rfl) (rdb (p := 0) (i := 14) ch_cX0_countLearned_0 rfl)
theorem dX0_countLearned_15 : decode cX0_countLearned 15 = .ok (.iload 6, 2) := do_21 (rdb (p := 0) (i := 15) ch_cX0_countLearned_0 rfl) (rdb (p := 0) (i := 16) ch_cX0_countLearned_0 rfl)
theorem dX0_countLearned_17 : decode cX0_countLearned 17 = .ok (.bipush 8, 2) := do_16 (rdb (p := 0) (i := 17) ch_cX0_countLearned_0 rfl) (rdb (p := 0) (i := 18) ch_cX0_countLearned_0 rfl) (by decide +kernel)
theorem dX0_countLearned_19 : decode cX0_countLearned 19 = .ok (.if_icmp .ge 34, 3) := do_162 (rdb (p := 0) (i := 19) ch_cX0_countLearned_0 rfl) (rdb (p := 0) (i := 20) ch_cX0_countLearned_0 rfl) (rdb (p := 0) (i := 21) ch_cX0_countLearned_0 rfl) (by decide +kernel)
theorem dX0_countLearned_22 : decode cX0_countLearned 22 = .ok (.iload_n 1, 1) := do_27 (rdb (p := 0) (i := 22) ch_cX0_countLearned_0 rfl)
theorem dX0_countLearned_23 : decode cX0_countLearned 23 = .ok (.iconst 1, 1) := do_4 (rdb (p := 0) (i := 23) ch_cX0_countLearned_0 rfl)
theorem dX0_countLearned_24 : decode cX0_countLearned 24 = .ok (.iload 6, 2) := do_21 (rdb (p := 0) (i := 24) ch_cX0_countLearned_0 rfl) (rdb (p := 0) (i := 25) ch_cX0_countLearned_0 rfl)
theorem dX0_countLearned_26 : decode cX0_countLearned 26 = .ok (.ishl, 1) := do_120 (rdb (p := 0) (i := 26) ch_cX0_countLearned_0 rfl)
theorem dX0_countLearned_27 : decode cX0_countLearned 27 = .ok (.iand, 1) := do_126 (rdb (p := 0) (i := 27) ch_cX0_countLearned_0 rfl)
theorem dX0_countLearned_28 : decode cX0_countLearned 28 = .ok (.ifCond .eq 19, 3) := do_153 (rdb (p := 0) (i := 28) ch_cX0_countLearned_0 rfl) (rdb (p := 0) (i := 29) ch_cX0_countLearned_0 rfl) (rdb (p := 0) (i := 30) ch_cX0_countLearned_0 rfl) (by decide +kernel)
theorem dX0_countLearned_31 : decode cX0_countLearned 31 = .ok (.lload 4, 2) := do_22 (rdb (p := 0) (i := 31) ch_cX0_countLearned_0 rfl) (rdb (p := 0) (i := 32) ch_cX0_countLearned_0 rfl)
theorem ch_cX0_countLearned_32 : (cX0_countLearned.data.toList.drop 32).take 36 = [4, 42, 180, 0, 19, 6, 21, 6, 104, 29, 96, 47, 129, 55, 4, 132, 6, 1, 167, 255, 221, 28, 22, 4, 184, 0, 107, 96, 61, 132, 3, 1, 167, 255, 196, 28] := by decide +kernel
theorem dX0_countLearned_33 : decode cX0_countLearned 33 = .ok (.aload_n 0, 1) := do_42 (rdb (p := 32) (i := 1) ch_cX0_countLearned_32 rfl)
theorem dX0_countLearned_34 : decode cX0_countLearned 34 = .ok (.getfield 19, 3) := do_180 (rdb (p := 32) (i := 2) ch_cX0_countLearned_32 rfl) (rdb (p := 32) (i := 3) ch_cX0_countLearned_32 rfl) (rdb (p := 32) (i := 4) ch_cX0_countLearned_32 rfl) rfl
theorem dX0_countLearned_37 : decode cX0_countLearned 37 = .ok (.iconst 3, 1) := do_6 (rdb (p := 32) (i := 5) ch_cX0_countLearned_32 rfl)
theorem dX0_countLearned_38 : decode cX0_countLearned 38 = .ok (.iload 6, 2) := do_21 (rdb (p := 32) (i := 6) ch_cX0_countLearned_32 rfl) (rdb (p := 32) (i := 7) ch_cX0_countLearned_32 rfl)
theorem dX0_countLearned_40 : decode cX0_countLearned 40 = .ok (.imul, 1) := do_104 (rdb (p := 32) (i := 8) ch_cX0_countLearned_32 rfl)
theorem dX0_countLearned_41 : decode cX0_countLearned 41 = .ok (.iload_n 3, 1) := do_29 (rdb (p := 32) (i := 9) ch_cX0_countLearned_32 rfl)
theorem dX0_countLearned_42 : decode cX0_countLearned 42 = .ok (.iadd, 1) := do_96 (rdb (p := 32) (i := 10) ch_cX0_countLearned_32 rfl)
theorem dX0_countLearned_43 : decode cX0_countLearned 43 = .ok (.laload, 1) := do_47 (rdb (p := 32) (i := 11) ch_cX0_countLearned_32 rfl)
theorem dX0_countLearned_44 : decode cX0_countLearned 44 = .ok (.lor, 1) := do_129 (rdb (p := 32) (i := 12) ch_cX0_countLearned_32 rfl)
theorem dX0_countLearned_45 : decode cX0_countLearned 45 = .ok (.lstore 4, 2) := do_55 (rdb (p := 32) (i := 13) ch_cX0_countLearned_32 rfl) (rdb (p := 32) (i := 14) ch_cX0_countLearned_32 rfl)
theorem dX0_countLearned_47 : decode cX0_countLearned 47 = .ok (.iinc 6 1, 3) := do_132 (rdb (p := 32) (i := 15) ch_cX0_countLearned_32 rfl) (rdb (p := 32) (i := 16) ch_cX0_countLearned_32 rfl) (rdb (p := 32) (i := 17) ch_cX0_countLearned_32 rfl) (by decide +kernel)
theorem dX0_countLearned_50 : decode cX0_countLearned 50 = .ok (.goto (-35), 3) := do_167 (rdb (p := 32) (i := 18) ch_cX0_countLearned_32 rfl) (rdb (p := 32) (i := 19) ch_cX0_countLearned_32 rfl) (rdb (p := 32) (i := 20) ch_cX0_countLearned_32 rfl) (by decide +kernel)
theorem dX0_countLearned_53 : decode cX0_countLearned 53 = .ok (.iload_n 2, 1) := do_28 (rdb (p := 32) (i := 21) ch_cX0_countLearned_32 rfl)
theorem dX0_countLearned_54 : decode cX0_countLearned 54 = .ok (.lload 4, 2) := do_22 (rdb (p := 32) (i := 22) ch_cX0_countLearned_32 rfl) (rdb (p := 32) (i := 23) ch_cX0_countLearned_32 rfl)
theorem dX0_countLearned_56 : decode cX0_countLearned 56 = .ok (.invokestatic 107, 3) := do_184 (rdb (p := 32) (i := 24) ch_cX0_countLearned_32 rfl) (rdb (p := 32) (i := 25) ch_cX0_countLearned_32 rfl) (rdb (p := 32) (i := 26) ch_cX0_countLearned_32 rfl) rfl
theorem dX0_countLearned_59 : decode cX0_countLearned 59 = .ok (.iadd, 1) := do_96 (rdb (p := 32) (i := 27) ch_cX0_countLearned_32 rfl)
theorem dX0_countLearned_60 : decode cX0_countLearned 60 = .ok (.istore_n 2, 1) := do_61 (rdb (p := 32) (i := 28) ch_cX0_countLearned_32 rfl)
theorem dX0_countLearned_61 : decode cX0_countLearned 61 = .ok (.iinc 3 1, 3) := do_132 (rdb (p := 32) (i := 29) ch_cX0_countLearned_32 rfl) (rdb (p := 32) (i := 30) ch_cX0_countLearned_32 rfl) (rdb (p := 32) (i := 31) ch_cX0_countLearned_32 rfl) (by decide +kernel)
theorem ch_cX0_countLearned_64 : (cX0_countLearned.data.toList.drop 64).take 36 = [167, 255, 196, 28, 172] := by decide +kernel
theorem dX0_countLearned_64 : decode cX0_countLearned 64 = .ok (.goto (-60), 3) := do_167 (rdb (p := 64) (i := 0) ch_cX0_countLearned_64 rfl) (rdb (p := 64) (i := 1) ch_cX0_countLearned_64 rfl) (rdb (p := 64) (i := 2) ch_cX0_countLearned_64 rfl) (by decide +kernel)
theorem dX0_countLearned_67 : decode cX0_countLearned 67 = .ok (.iload_n 2, 1) := do_28 (rdb (p := 64) (i := 3) ch_cX0_countLearned_64 rfl)
theorem dX0_countLearned_68 : decode cX0_countLearned 68 = .ok (.ireturn, 1) := do_172 (rdb (p := 64) (i := 4) ch_cX0_countLearned_64 rfl)
theorem ch_cX0_firstStep_0 : (cX0_firstStep.data.toList.drop 0).take 36 = [3, 62, 29, 16, 8, 162, 0, 46, 28, 29, 4, 184, 0, 46, 54, 4, 21, 4, 155, 0, 27, 42, 21, 4, 182, 0, 62, 43, 21, 4, 184, 0, 42, 96, 42, 28] := by decide +kernel
theorem dX0_firstStep_0 : decode cX0_firstStep 0 = .ok (.iconst 0, 1) := do_3 (rdb (p := 0) (i := 0) ch_cX0_firstStep_0 rfl)
theorem dX0_firstStep_1 : decode cX0_firstStep 1 = .ok (.istore_n 3, 1) := do_62 (rdb (p := 0) (i := 1) ch_cX0_firstStep_0 rfl)
theorem dX0_firstStep_2 : decode cX0_firstStep 2 = .ok (.iload_n 3, 1) := do_29 (rdb (p := 0) (i := 2) ch_cX0_firstStep_0 rfl)
theorem dX0_firstStep_3 : decode cX0_firstStep 3 = .ok (.bipush 8, 2) := do_16 (rdb (p := 0) (i := 3) ch_cX0_firstStep_0 rfl) (rdb (p := 0) (i := 4) ch_cX0_firstStep_0 rfl) (by decide +kernel)
theorem dX0_firstStep_5 : decode cX0_firstStep 5 = .ok (.if_icmp .ge 46, 3) := do_162 (rdb (p := 0) (i := 5) ch_cX0_firstStep_0 rfl) (rdb (p := 0) (i := 6) ch_cX0_firstStep_0 rfl) (rdb (p := 0) (i := 7) ch_cX0_firstStep_0 rfl) (by decide +kernel)
theorem dX0_firstStep_8 : decode cX0_firstStep 8 = .ok (.iload_n 2, 1) := do_28 (rdb (p := 0) (i := 8) ch_cX0_firstStep_0 rfl)
theorem dX0_firstStep_9 : decode cX0_firstStep 9 = .ok (.iload_n 3, 1) := do_29 (rdb (p := 0) (i := 9) ch_cX0_firstStep_0 rfl)
theorem dX0_firstStep_10 : decode cX0_firstStep 10 = .ok (.iconst 1, 1) := do_4 (rdb (p := 0) (i := 10) ch_cX0_firstStep_0 rfl)
theorem dX0_firstStep_11 : decode cX0_firstStep 11 = .ok (.invokestatic 46, 3) := do_184 (rdb (p := 0) (i := 11) ch_cX0_firstStep_0 rfl) (rdb (p := 0) (i := 12) ch_cX0_firstStep_0 rfl) (rdb (p := 0) (i := 13) ch_cX0_firstStep_0 rfl) rfl
theorem dX0_firstStep_14 : decode cX0_firstStep 14 = .ok (.istore 4, 2) := do_54 (rdb (p := 0) (i := 14) ch_cX0_firstStep_0 rfl) (rdb (p := 0) (i := 15) ch_cX0_firstStep_0 rfl)
theorem dX0_firstStep_16 : decode cX0_firstStep 16 = .ok (.iload 4, 2) := do_21 (rdb (p := 0) (i := 16) ch_cX0_firstStep_0 rfl) (rdb (p := 0) (i := 17) ch_cX0_firstStep_0 rfl)
theorem dX0_firstStep_18 : decode cX0_firstStep 18 = .ok (.ifCond .lt 27, 3) := do_155 (rdb (p := 0) (i := 18) ch_cX0_firstStep_0 rfl) (rdb (p := 0) (i := 19) ch_cX0_firstStep_0 rfl) (rdb (p := 0) (i := 20) ch_cX0_firstStep_0 rfl) (by decide +kernel)
theorem dX0_firstStep_21 : decode cX0_firstStep 21 = .ok (.aload_n 0, 1) := do_42 (rdb (p := 0) (i := 21) ch_cX0_firstStep_0 rfl)
theorem dX0_firstStep_22 : decode cX0_firstStep 22 = .ok (.iload 4, 2) := do_21 (rdb (p := 0) (i := 22) ch_cX0_firstStep_0 rfl) (rdb (p := 0) (i := 23) ch_cX0_firstStep_0 rfl)
theorem dX0_firstStep_24 : decode cX0_firstStep 24 = .ok (.invokevirtual 62, 3) := do_182 (rdb (p := 0) (i := 24) ch_cX0_firstStep_0 rfl) (rdb (p := 0) (i := 25) ch_cX0_firstStep_0 rfl) (rdb (p := 0) (i := 26) ch_cX0_firstStep_0 rfl) rfl
theorem dX0_firstStep_27 : decode cX0_firstStep 27 = .ok (.aload_n 1, 1) := do_43 (rdb (p := 0) (i := 27) ch_cX0_firstStep_0 rfl)
theorem dX0_firstStep_28 : decode cX0_firstStep 28 = .ok (.iload 4, 2) := do_21 (rdb (p := 0) (i := 28) ch_cX0_firstStep_0 rfl) (rdb (p := 0) (i := 29) ch_cX0_firstStep_0 rfl)
theorem dX0_firstStep_30 : decode cX0_firstStep 30 = .ok (.invokestatic 42, 3) := do_184 (rdb (p := 0) (i := 30) ch_cX0_firstStep_0 rfl) (rdb (p := 0) (i := 31) ch_cX0_firstStep_0 rfl) (rdb (p := 0) (i := 32) ch_cX0_firstStep_0 rfl) rfl
theorem ch_cX0_firstStep_32 : (cX0_firstStep.data.toList.drop 32).take 36 = [42, 96, 42, 28, 182, 0, 62, 160, 0, 6, 21, 4, 172, 132, 3, 2, 167, 255, 210, 2, 172] := by decide +kernel
theorem dX0_firstStep_33 : decode cX0_firstStep 33 = .ok (.iadd, 1) := do_96 (rdb (p := 32) (i := 1) ch_cX0_firstStep_32 rfl)
theorem dX0_firstStep_34 : decode cX0_firstStep 34 = .ok (.aload_n 0, 1) := do_42 (rdb (p := 32) (i := 2) ch_cX0_firstStep_32 rfl)
theorem dX0_firstStep_35 : decode cX0_firstStep 35 = .ok (.iload_n 2, 1) := do_28 (rdb (p := 32) (i := 3) ch_cX0_firstStep_32 rfl)
theorem dX0_firstStep_36 : decode cX0_firstStep 36 = .ok (.invokevirtual 62, 3) := do_182 (rdb (p := 32) (i := 4) ch_cX0_firstStep_32 rfl) (rdb (p := 32) (i := 5) ch_cX0_firstStep_32 rfl) (rdb (p := 32) (i := 6) ch_cX0_firstStep_32 rfl) rfl
theorem dX0_firstStep_39 : decode cX0_firstStep 39 = .ok (.if_icmp .ne 6, 3) := do_160 (rdb (p := 32) (i := 7) ch_cX0_firstStep_32 rfl) (rdb (p := 32) (i := 8) ch_cX0_firstStep_32 rfl) (rdb (p := 32) (i := 9) ch_cX0_firstStep_32 rfl) (by decide +kernel)
theorem dX0_firstStep_42 : decode cX0_firstStep 42 = .ok (.iload 4, 2) := do_21 (rdb (p := 32) (i := 10) ch_cX0_firstStep_32 rfl) (rdb (p := 32) (i := 11) ch_cX0_firstStep_32 rfl)
theorem dX0_firstStep_44 : decode cX0_firstStep 44 = .ok (.ireturn, 1) := do_172 (rdb (p := 32) (i := 12) ch_cX0_firstStep_32 rfl)
theorem dX0_firstStep_45 : decode cX0_firstStep 45 = .ok (.iinc 3 2, 3) := do_132 (rdb (p := 32) (i := 13) ch_cX0_firstStep_32 rfl) (rdb (p := 32) (i := 14) ch_cX0_firstStep_32 rfl) (rdb (p := 32) (i := 15) ch_cX0_firstStep_32 rfl) (by decide +kernel)
theorem dX0_firstStep_48 : decode cX0_firstStep 48 = .ok (.goto (-46), 3) := do_167 (rdb (p := 32) (i := 16) ch_cX0_firstStep_32 rfl) (rdb (p := 32) (i := 17) ch_cX0_firstStep_32 rfl) (rdb (p := 32) (i := 18) ch_cX0_firstStep_32 rfl) (by decide +kernel)
theorem dX0_firstStep_51 : decode cX0_firstStep 51 = .ok (.iconst (-1), 1) := do_2 (rdb (p := 32) (i := 19) ch_cX0_firstStep_32 rfl)
theorem dX0_firstStep_52 : decode cX0_firstStep 52 = .ok (.ireturn, 1) := do_172 (rdb (p := 32) (i := 20) ch_cX0_firstStep_32 rfl)
theorem ch_cX0_measure_0 : (cX0_measure.data.toList.drop 0).take 36 = [3, 62, 29, 17, 0, 192, 162, 0, 24, 42, 180, 0, 9, 29, 18, 33, 79, 42, 180, 0, 15, 29, 3, 84, 132, 3, 1, 167, 255, 231, 28, 184, 0, 34, 153, 0] := by decide +kernel
theorem dX0_measure_0 : decode cX0_measure 0 = .ok (.iconst 0, 1) := do_3 (rdb (p := 0) (i := 0) ch_cX0_measure_0 rfl)
theorem dX0_measure_1 : decode cX0_measure 1 = .ok (.istore_n 3, 1) := do_62 (rdb (p := 0) (i := 1) ch_cX0_measure_0 rfl)
theorem dX0_measure_2 : decode cX0_measure 2 = .ok (.iload_n 3, 1) := do_29 (rdb (p := 0) (i := 2) ch_cX0_measure_0 rfl)
theorem dX0_measure_3 : decode cX0_measure 3 = .ok (.sipush 192, 3) := do_17 (rdb (p := 0) (i := 3) ch_cX0_measure_0 rfl) (rdb (p := 0) (i := 4) ch_cX0_measure_0 rfl) (rdb (p := 0) (i := 5) ch_cX0_measure_0 rfl) (by decide +kernel)
theorem dX0_measure_6 : decode cX0_measure 6 = .ok (.if_icmp .ge 24, 3) := do_162 (rdb (p := 0) (i := 6) ch_cX0_measure_0 rfl) (rdb (p := 0) (i := 7) ch_cX0_measure_0 rfl) (rdb (p := 0) (i := 8) ch_cX0_measure_0 rfl) (by decide +kernel)
theorem dX0_measure_9 : decode cX0_measure 9 = .ok (.aload_n 0, 1) := do_42 (rdb (p := 0) (i := 9) ch_cX0_measure_0 rfl)
theorem dX0_measure_10 : decode cX0_measure 10 = .ok (.getfield 9, 3) := do_180 (rdb (p := 0) (i := 10) ch_cX0_measure_0 rfl) (rdb (p := 0) (i := 11) ch_cX0_measure_0 rfl) (rdb (p := 0) (i := 12) ch_cX0_measure_0 rfl) rfl
theorem dX0_measure_13 : decode cX0_measure 13 = .ok (.iload_n 3, 1) := do_29 (rdb (p := 0) (i := 13) ch_cX0_measure_0 rfl)
theorem dX0_measure_14 : decode cX0_measure 14 = .ok (.ldc 33, 2) := do_18 (rdb (p := 0) (i := 14) ch_cX0_measure_0 rfl) (rdb (p := 0) (i := 15) ch_cX0_measure_0 rfl)
theorem dX0_measure_16 : decode cX0_measure 16 = .ok (.iastore, 1) := do_79 (rdb (p := 0) (i := 16) ch_cX0_measure_0 rfl)
theorem dX0_measure_17 : decode cX0_measure 17 = .ok (.aload_n 0, 1) := do_42 (rdb (p := 0) (i := 17) ch_cX0_measure_0 rfl)
theorem dX0_measure_18 : decode cX0_measure 18 = .ok (.getfield 15, 3) := do_180 (rdb (p := 0) (i := 18) ch_cX0_measure_0 rfl) (rdb (p := 0) (i := 19) ch_cX0_measure_0 rfl) (rdb (p := 0) (i := 20) ch_cX0_measure_0 rfl) rfl
theorem dX0_measure_21 : decode cX0_measure 21 = .ok (.iload_n 3, 1) := do_29 (rdb (p := 0) (i := 21) ch_cX0_measure_0 rfl)
theorem dX0_measure_22 : decode cX0_measure 22 = .ok (.iconst 0, 1) := do_3 (rdb (p := 0) (i := 22) ch_cX0_measure_0 rfl)
theorem dX0_measure_23 : decode cX0_measure 23 = .ok (.bastore, 1) := do_84 (rdb (p := 0) (i := 23) ch_cX0_measure_0 rfl)
theorem dX0_measure_24 : decode cX0_measure 24 = .ok (.iinc 3 1, 3) := do_132 (rdb (p := 0) (i := 24) ch_cX0_measure_0 rfl) (rdb (p := 0) (i := 25) ch_cX0_measure_0 rfl) (rdb (p := 0) (i := 26) ch_cX0_measure_0 rfl) (by decide +kernel)
theorem dX0_measure_27 : decode cX0_measure 27 = .ok (.goto (-25), 3) := do_167 (rdb (p := 0) (i := 27) ch_cX0_measure_0 rfl) (rdb (p := 0) (i := 28) ch_cX0_measure_0 rfl) (rdb (p := 0) (i := 29) ch_cX0_measure_0 rfl) (by decide +kernel)
theorem dX0_measure_30 : decode cX0_measure 30 = .ok (.iload_n 2, 1) := do_28 (rdb (p := 0) (i := 30) ch_cX0_measure_0 rfl)
theorem dX0_measure_31 : decode cX0_measure 31 = .ok (.invokestatic 34, 3) := do_184 (rdb (p := 0) (i := 31) ch_cX0_measure_0 rfl) (rdb (p := 0) (i := 32) ch_cX0_measure_0 rfl) (rdb (p := 0) (i := 33) ch_cX0_measure_0 rfl) rfl
theorem ch_cX0_measure_32 : (cX0_measure.data.toList.drop 32).take 36 = [0, 34, 153, 0, 10, 42, 180, 0, 9, 28, 3, 79, 3, 62, 29, 17, 0, 192, 162, 0, 97, 42, 182, 0, 38, 54, 4, 21, 4, 156, 0, 4, 177, 42, 180, 0] := by decide +kernel
theorem dX0_measure_34 : decode cX0_measure 34 = .ok (.ifCond .eq 10, 3) := do_153 (rdb (p := 32) (i := 2) ch_cX0_measure_32 rfl) (rdb (p := 32) (i := 3) ch_cX0_measure_32 rfl) (rdb (p := 32) (i := 4) ch_cX0_measure_32 rfl) (by decide +kernel)
theorem dX0_measure_37 : decode cX0_measure 37 = .ok (.aload_n 0, 1) := do_42 (rdb (p := 32) (i := 5) ch_cX0_measure_32 rfl)
theorem dX0_measure_38 : decode cX0_measure 38 = .ok (.getfield 9, 3) := do_180 (rdb (p := 32) (i := 6) ch_cX0_measure_32 rfl) (rdb (p := 32) (i := 7) ch_cX0_measure_32 rfl) (rdb (p := 32) (i := 8) ch_cX0_measure_32 rfl) rfl
theorem dX0_measure_41 : decode cX0_measure 41 = .ok (.iload_n 2, 1) := do_28 (rdb (p := 32) (i := 9) ch_cX0_measure_32 rfl)
theorem dX0_measure_42 : decode cX0_measure 42 = .ok (.iconst 0, 1) := do_3 (rdb (p := 32) (i := 10) ch_cX0_measure_32 rfl)
theorem dX0_measure_43 : decode cX0_measure 43 = .ok (.iastore, 1) := do_79 (rdb (p := 32) (i := 11) ch_cX0_measure_32 rfl)
theorem dX0_measure_44 : decode cX0_measure 44 = .ok (.iconst 0, 1) := do_3 (rdb (p := 32) (i := 12) ch_cX0_measure_32 rfl)
theorem dX0_measure_45 : decode cX0_measure 45 = .ok (.istore_n 3, 1) := do_62 (rdb (p := 32) (i := 13) ch_cX0_measure_32 rfl)
theorem dX0_measure_46 : decode cX0_measure 46 = .ok (.iload_n 3, 1) := do_29 (rdb (p := 32) (i := 14) ch_cX0_measure_32 rfl)
theorem dX0_measure_47 : decode cX0_measure 47 = .ok (.sipush 192, 3) := do_17 (rdb (p := 32) (i := 15) ch_cX0_measure_32 rfl) (rdb (p := 32) (i := 16) ch_cX0_measure_32 rfl) (rdb (p := 32) (i := 17) ch_cX0_measure_32 rfl) (by decide +kernel)
theorem dX0_measure_50 : decode cX0_measure 50 = .ok (.if_icmp .ge 97, 3) := do_162 (rdb (p := 32) (i := 18) ch_cX0_measure_32 rfl) (rdb (p := 32) (i := 19) ch_cX0_measure_32 rfl) (rdb (p := 32) (i := 20) ch_cX0_measure_32 rfl) (by decide +kernel)
theorem dX0_measure_53 : decode cX0_measure 53 = .ok (.aload_n 0, 1) := do_42 (rdb (p := 32) (i := 21) ch_cX0_measure_32 rfl)
theorem dX0_measure_54 : decode cX0_measure 54 = .ok (.invokevirtual 38, 3) := do_182 (rdb (p := 32) (i := 22) ch_cX0_measure_32 rfl) (rdb (p := 32) (i := 23) ch_cX0_measure_32 rfl) (rdb (p := 32) (i := 24) ch_cX0_measure_32 rfl) rfl
theorem dX0_measure_57 : decode cX0_measure 57 = .ok (.istore 4, 2) := do_54 (rdb (p := 32) (i := 25) ch_cX0_measure_32 rfl) (rdb (p := 32) (i := 26) ch_cX0_measure_32 rfl)
theorem dX0_measure_59 : decode cX0_measure 59 = .ok (.iload 4, 2) := do_21 (rdb (p := 32) (i := 27) ch_cX0_measure_32 rfl) (rdb (p := 32) (i := 28) ch_cX0_measure_32 rfl)
theorem dX0_measure_61 : decode cX0_measure 61 = .ok (.ifCond .ge 4, 3) := do_156 (rdb (p := 32) (i := 29) ch_cX0_measure_32 rfl) (rdb (p := 32) (i := 30) ch_cX0_measure_32 rfl) (rdb (p := 32) (i := 31) ch_cX0_measure_32 rfl) (by decide +kernel)
theorem ch_cX0_measure_64 : (cX0_measure.data.toList.drop 64).take 36 = [177, 42, 180, 0, 15, 21, 4, 4, 84, 42, 180, 0, 9, 21, 4, 46, 43, 21, 4, 184, 0, 42, 96, 54, 5, 3, 54, 6, 21, 6, 16, 8, 162, 0, 45, 21] := by decide +kernel
theorem dX0_measure_64 : decode cX0_measure 64 = .ok (.return_, 1) := do_177 (rdb (p := 64) (i := 0) ch_cX0_measure_64 rfl)
theorem dX0_measure_65 : decode cX0_measure 65 = .ok (.aload_n 0, 1) := do_42 (rdb (p := 64) (i := 1) ch_cX0_measure_64 rfl)
theorem dX0_measure_66 : decode cX0_measure 66 = .ok (.getfield 15, 3) := do_180 (rdb (p := 64) (i := 2) ch_cX0_measure_64 rfl) (rdb (p := 64) (i := 3) ch_cX0_measure_64 rfl) (rdb (p := 64) (i := 4) ch_cX0_measure_64 rfl) rfl
theorem dX0_measure_69 : decode cX0_measure 69 = .ok (.iload 4, 2) := do_21 (rdb (p := 64) (i := 5) ch_cX0_measure_64 rfl) (rdb (p := 64) (i := 6) ch_cX0_measure_64 rfl)
theorem dX0_measure_71 : decode cX0_measure 71 = .ok (.iconst 1, 1) := do_4 (rdb (p := 64) (i := 7) ch_cX0_measure_64 rfl)
theorem dX0_measure_72 : decode cX0_measure 72 = .ok (.bastore, 1) := do_84 (rdb (p := 64) (i := 8) ch_cX0_measure_64 rfl)
theorem dX0_measure_73 : decode cX0_measure 73 = .ok (.aload_n 0, 1) := do_42 (rdb (p := 64) (i := 9) ch_cX0_measure_64 rfl)
theorem dX0_measure_74 : decode cX0_measure 74 = .ok (.getfield 9, 3) := do_180 (rdb (p := 64) (i := 10) ch_cX0_measure_64 rfl) (rdb (p := 64) (i := 11) ch_cX0_measure_64 rfl) (rdb (p := 64) (i := 12) ch_cX0_measure_64 rfl) rfl
theorem dX0_measure_77 : decode cX0_measure 77 = .ok (.iload 4, 2) := do_21 (rdb (p := 64) (i := 13) ch_cX0_measure_64 rfl) (rdb (p := 64) (i := 14) ch_cX0_measure_64 rfl)
theorem dX0_measure_79 : decode cX0_measure 79 = .ok (.iaload, 1) := do_46 (rdb (p := 64) (i := 15) ch_cX0_measure_64 rfl)
theorem dX0_measure_80 : decode cX0_measure 80 = .ok (.aload_n 1, 1) := do_43 (rdb (p := 64) (i := 16) ch_cX0_measure_64 rfl)
theorem dX0_measure_81 : decode cX0_measure 81 = .ok (.iload 4, 2) := do_21 (rdb (p := 64) (i := 17) ch_cX0_measure_64 rfl) (rdb (p := 64) (i := 18) ch_cX0_measure_64 rfl)
theorem dX0_measure_83 : decode cX0_measure 83 = .ok (.invokestatic 42, 3) := do_184 (rdb (p := 64) (i := 19) ch_cX0_measure_64 rfl) (rdb (p := 64) (i := 20) ch_cX0_measure_64 rfl) (rdb (p := 64) (i := 21) ch_cX0_measure_64 rfl) rfl
theorem dX0_measure_86 : decode cX0_measure 86 = .ok (.iadd, 1) := do_96 (rdb (p := 64) (i := 22) ch_cX0_measure_64 rfl)
theorem dX0_measure_87 : decode cX0_measure 87 = .ok (.istore 5, 2) := do_54 (rdb (p := 64) (i := 23) ch_cX0_measure_64 rfl) (rdb (p := 64) (i := 24) ch_cX0_measure_64 rfl)
theorem dX0_measure_89 : decode cX0_measure 89 = .ok (.iconst 0, 1) := do_3 (rdb (p := 64) (i := 25) ch_cX0_measure_64 rfl)
theorem dX0_measure_90 : decode cX0_measure 90 = .ok (.istore 6, 2) := do_54 (rdb (p := 64) (i := 26) ch_cX0_measure_64 rfl) (rdb (p := 64) (i := 27) ch_cX0_measure_64 rfl)
theorem dX0_measure_92 : decode cX0_measure 92 = .ok (.iload 6, 2) := do_21 (rdb (p := 64) (i := 28) ch_cX0_measure_64 rfl) (rdb (p := 64) (i := 29) ch_cX0_measure_64 rfl)
theorem dX0_measure_94 : decode cX0_measure 94 = .ok (.bipush 8, 2) := do_16 (rdb (p := 64) (i := 30) ch_cX0_measure_64 rfl) (rdb (p := 64) (i := 31) ch_cX0_measure_64 rfl) (by decide +kernel)
theorem ch_cX0_measure_96 : (cX0_measure.data.toList.drop 96).take 36 = [162, 0, 45, 21, 4, 21, 6, 4, 184, 0, 46, 54, 7, 21, 7, 155, 0, 24, 21, 5, 42, 180, 0, 9, 21, 7, 46, 162, 0, 12, 42, 180, 0, 9, 21, 7] := by decide +kernel
theorem dX0_measure_96 : decode cX0_measure 96 = .ok (.if_icmp .ge 45, 3) := do_162 (rdb (p := 96) (i := 0) ch_cX0_measure_96 rfl) (rdb (p := 96) (i := 1) ch_cX0_measure_96 rfl) (rdb (p := 96) (i := 2) ch_cX0_measure_96 rfl) (by decide +kernel)
theorem dX0_measure_99 : decode cX0_measure 99 = .ok (.iload 4, 2) := do_21 (rdb (p := 96) (i := 3) ch_cX0_measure_96 rfl) (rdb (p := 96) (i := 4) ch_cX0_measure_96 rfl)
theorem dX0_measure_101 : decode cX0_measure 101 = .ok (.iload 6, 2) := do_21 (rdb (p := 96) (i := 5) ch_cX0_measure_96 rfl) (rdb (p := 96) (i := 6) ch_cX0_measure_96 rfl)
theorem dX0_measure_103 : decode cX0_measure 103 = .ok (.iconst 1, 1) := do_4 (rdb (p := 96) (i := 7) ch_cX0_measure_96 rfl)
theorem dX0_measure_104 : decode cX0_measure 104 = .ok (.invokestatic 46, 3) := do_184 (rdb (p := 96) (i := 8) ch_cX0_measure_96 rfl) (rdb (p := 96) (i := 9) ch_cX0_measure_96 rfl) (rdb (p := 96) (i := 10) ch_cX0_measure_96 rfl) rfl
theorem dX0_measure_107 : decode cX0_measure 107 = .ok (.istore 7, 2) := do_54 (rdb (p := 96) (i := 11) ch_cX0_measure_96 rfl) (rdb (p := 96) (i := 12) ch_cX0_measure_96 rfl)
theorem dX0_measure_109 : decode cX0_measure 109 = .ok (.iload 7, 2) := do_21 (rdb (p := 96) (i := 13) ch_cX0_measure_96 rfl) (rdb (p := 96) (i := 14) ch_cX0_measure_96 rfl)
theorem dX0_measure_111 : decode cX0_measure 111 = .ok (.ifCond .lt 24, 3) := do_155 (rdb (p := 96) (i := 15) ch_cX0_measure_96 rfl) (rdb (p := 96) (i := 16) ch_cX0_measure_96 rfl) (rdb (p := 96) (i := 17) ch_cX0_measure_96 rfl) (by decide +kernel)
theorem dX0_measure_114 : decode cX0_measure 114 = .ok (.iload 5, 2) := do_21 (rdb (p := 96) (i := 18) ch_cX0_measure_96 rfl) (rdb (p := 96) (i := 19) ch_cX0_measure_96 rfl)
theorem dX0_measure_116 : decode cX0_measure 116 = .ok (.aload_n 0, 1) := do_42 (rdb (p := 96) (i := 20) ch_cX0_measure_96 rfl)
theorem dX0_measure_117 : decode cX0_measure 117 = .ok (.getfield 9, 3) := do_180 (rdb (p := 96) (i := 21) ch_cX0_measure_96 rfl) (rdb (p := 96) (i := 22) ch_cX0_measure_96 rfl) (rdb (p := 96) (i := 23) ch_cX0_measure_96 rfl) rfl
theorem dX0_measure_120 : decode cX0_measure 120 = .ok (.iload 7, 2) := do_21 (rdb (p := 96) (i := 24) ch_cX0_measure_96 rfl) (rdb (p := 96) (i := 25) ch_cX0_measure_96 rfl)
theorem dX0_measure_122 : decode cX0_measure 122 = .ok (.iaload, 1) := do_46 (rdb (p := 96) (i := 26) ch_cX0_measure_96 rfl)
theorem dX0_measure_123 : decode cX0_measure 123 = .ok (.if_icmp .ge 12, 3) := do_162 (rdb (p := 96) (i := 27) ch_cX0_measure_96 rfl) (rdb (p := 96) (i := 28) ch_cX0_measure_96 rfl) (rdb (p := 96) (i := 29) ch_cX0_measure_96 rfl) (by decide +kernel)
theorem dX0_measure_126 : decode cX0_measure 126 = .ok (.aload_n 0, 1) := do_42 (rdb (p := 96) (i := 30) ch_cX0_measure_96 rfl)
theorem dX0_measure_127 : decode cX0_measure 127 = .ok (.getfield 9, 3) := do_180 (rdb (p := 96) (i := 31) ch_cX0_measure_96 rfl) (rdb (p := 96) (i := 32) ch_cX0_measure_96 rfl) (rdb (p := 96) (i := 33) ch_cX0_measure_96 rfl) rfl
theorem ch_cX0_measure_128 : (cX0_measure.data.toList.drop 128).take 36 = [0, 9, 21, 7, 21, 5, 79, 132, 6, 2, 167, 255, 210, 132, 3, 1, 167, 255, 158, 177] := by decide +kernel
theorem dX0_measure_130 : decode cX0_measure 130 = .ok (.iload 7, 2) := do_21 (rdb (p := 128) (i := 2) ch_cX0_measure_128 rfl) (rdb (p := 128) (i := 3) ch_cX0_measure_128 rfl)
theorem dX0_measure_132 : decode cX0_measure 132 = .ok (.iload 5, 2) := do_21 (rdb (p := 128) (i := 4) ch_cX0_measure_128 rfl) (rdb (p := 128) (i := 5) ch_cX0_measure_128 rfl)
theorem dX0_measure_134 : decode cX0_measure 134 = .ok (.iastore, 1) := do_79 (rdb (p := 128) (i := 6) ch_cX0_measure_128 rfl)
theorem dX0_measure_135 : decode cX0_measure 135 = .ok (.iinc 6 2, 3) := do_132 (rdb (p := 128) (i := 7) ch_cX0_measure_128 rfl) (rdb (p := 128) (i := 8) ch_cX0_measure_128 rfl) (rdb (p := 128) (i := 9) ch_cX0_measure_128 rfl) (by decide +kernel)
theorem dX0_measure_138 : decode cX0_measure 138 = .ok (.goto (-46), 3) := do_167 (rdb (p := 128) (i := 10) ch_cX0_measure_128 rfl) (rdb (p := 128) (i := 11) ch_cX0_measure_128 rfl) (rdb (p := 128) (i := 12) ch_cX0_measure_128 rfl) (by decide +kernel)
theorem dX0_measure_141 : decode cX0_measure 141 = .ok (.iinc 3 1, 3) := do_132 (rdb (p := 128) (i := 13) ch_cX0_measure_128 rfl) (rdb (p := 128) (i := 14) ch_cX0_measure_128 rfl) (rdb (p := 128) (i := 15) ch_cX0_measure_128 rfl) (by decide +kernel)
theorem dX0_measure_144 : decode cX0_measure 144 = .ok (.goto (-98), 3) := do_167 (rdb (p := 128) (i := 16) ch_cX0_measure_128 rfl) (rdb (p := 128) (i := 17) ch_cX0_measure_128 rfl) (rdb (p := 128) (i := 18) ch_cX0_measure_128 rfl) (by decide +kernel)
theorem dX0_measure_147 : decode cX0_measure 147 = .ok (.return_, 1) := do_177 (rdb (p := 128) (i := 19) ch_cX0_measure_128 rfl)
theorem ch_cX0_nearestOpen_0 : (cX0_nearestOpen.data.toList.drop 0).take 36 = [2, 60, 3, 61, 28, 17, 0, 192, 162, 0, 50, 42, 180, 0, 15, 28, 51, 154, 0, 35, 42, 180, 0, 9, 28, 46, 18, 33, 162, 0, 24, 27, 155, 0, 18, 42] := by decide +kernel
theorem dX0_nearestOpen_0 : decode cX0_nearestOpen 0 = .ok (.iconst (-1), 1) := do_2 (rdb (p := 0) (i := 0) ch_cX0_nearestOpen_0 rfl)
theorem dX0_nearestOpen_1 : decode cX0_nearestOpen 1 = .ok (.istore_n 1, 1) := do_60 (rdb (p := 0) (i := 1) ch_cX0_nearestOpen_0 rfl)
theorem dX0_nearestOpen_2 : decode cX0_nearestOpen 2 = .ok (.iconst 0, 1) := do_3 (rdb (p := 0) (i := 2) ch_cX0_nearestOpen_0 rfl)
theorem dX0_nearestOpen_3 : decode cX0_nearestOpen 3 = .ok (.istore_n 2, 1) := do_61 (rdb (p := 0) (i := 3) ch_cX0_nearestOpen_0 rfl)
theorem dX0_nearestOpen_4 : decode cX0_nearestOpen 4 = .ok (.iload_n 2, 1) := do_28 (rdb (p := 0) (i := 4) ch_cX0_nearestOpen_0 rfl)
theorem dX0_nearestOpen_5 : decode cX0_nearestOpen 5 = .ok (.sipush 192, 3) := do_17 (rdb (p := 0) (i := 5) ch_cX0_nearestOpen_0 rfl) (rdb (p := 0) (i := 6) ch_cX0_nearestOpen_0 rfl) (rdb (p := 0) (i := 7) ch_cX0_nearestOpen_0 rfl) (by decide +kernel)
theorem dX0_nearestOpen_8 : decode cX0_nearestOpen 8 = .ok (.if_icmp .ge 50, 3) := do_162 (rdb (p := 0) (i := 8) ch_cX0_nearestOpen_0 rfl) (rdb (p := 0) (i := 9) ch_cX0_nearestOpen_0 rfl) (rdb (p := 0) (i := 10) ch_cX0_nearestOpen_0 rfl) (by decide +kernel)
theorem dX0_nearestOpen_11 : decode cX0_nearestOpen 11 = .ok (.aload_n 0, 1) := do_42 (rdb (p := 0) (i := 11) ch_cX0_nearestOpen_0 rfl)
theorem dX0_nearestOpen_12 : decode cX0_nearestOpen 12 = .ok (.getfield 15, 3) := do_180 (rdb (p := 0) (i := 12) ch_cX0_nearestOpen_0 rfl) (rdb (p := 0) (i := 13) ch_cX0_nearestOpen_0 rfl) (rdb (p := 0) (i := 14) ch_cX0_nearestOpen_0 rfl) rfl
theorem dX0_nearestOpen_15 : decode cX0_nearestOpen 15 = .ok (.iload_n 2, 1) := do_28 (rdb (p := 0) (i := 15) ch_cX0_nearestOpen_0 rfl)
theorem dX0_nearestOpen_16 : decode cX0_nearestOpen 16 = .ok (.baload, 1) := do_51 (rdb (p := 0) (i := 16) ch_cX0_nearestOpen_0 rfl)
theorem dX0_nearestOpen_17 : decode cX0_nearestOpen 17 = .ok (.ifCond .ne 35, 3) := do_154 (rdb (p := 0) (i := 17) ch_cX0_nearestOpen_0 rfl) (rdb (p := 0) (i := 18) ch_cX0_nearestOpen_0 rfl) (rdb (p := 0) (i := 19) ch_cX0_nearestOpen_0 rfl) (by decide +kernel)
theorem dX0_nearestOpen_20 : decode cX0_nearestOpen 20 = .ok (.aload_n 0, 1) := do_42 (rdb (p := 0) (i := 20) ch_cX0_nearestOpen_0 rfl)
theorem dX0_nearestOpen_21 : decode cX0_nearestOpen 21 = .ok (.getfield 9, 3) := do_180 (rdb (p := 0) (i := 21) ch_cX0_nearestOpen_0 rfl) (rdb (p := 0) (i := 22) ch_cX0_nearestOpen_0 rfl) (rdb (p := 0) (i := 23) ch_cX0_nearestOpen_0 rfl) rfl
theorem dX0_nearestOpen_24 : decode cX0_nearestOpen 24 = .ok (.iload_n 2, 1) := do_28 (rdb (p := 0) (i := 24) ch_cX0_nearestOpen_0 rfl)
theorem dX0_nearestOpen_25 : decode cX0_nearestOpen 25 = .ok (.iaload, 1) := do_46 (rdb (p := 0) (i := 25) ch_cX0_nearestOpen_0 rfl)
theorem dX0_nearestOpen_26 : decode cX0_nearestOpen 26 = .ok (.ldc 33, 2) := do_18 (rdb (p := 0) (i := 26) ch_cX0_nearestOpen_0 rfl) (rdb (p := 0) (i := 27) ch_cX0_nearestOpen_0 rfl)
theorem dX0_nearestOpen_28 : decode cX0_nearestOpen 28 = .ok (.if_icmp .ge 24, 3) := do_162 (rdb (p := 0) (i := 28) ch_cX0_nearestOpen_0 rfl) (rdb (p := 0) (i := 29) ch_cX0_nearestOpen_0 rfl) (rdb (p := 0) (i := 30) ch_cX0_nearestOpen_0 rfl) (by decide +kernel)
theorem dX0_nearestOpen_31 : decode cX0_nearestOpen 31 = .ok (.iload_n 1, 1) := do_27 (rdb (p := 0) (i := 31) ch_cX0_nearestOpen_0 rfl)
theorem ch_cX0_nearestOpen_32 : (cX0_nearestOpen.data.toList.drop 32).take 36 = [155, 0, 18, 42, 180, 0, 9, 28, 46, 42, 180, 0, 9, 27, 46, 162, 0, 5, 28, 60, 132, 2, 1, 167, 255, 205, 27, 172] := by decide +kernel
theorem dX0_nearestOpen_32 : decode cX0_nearestOpen 32 = .ok (.ifCond .lt 18, 3) := do_155 (rdb (p := 32) (i := 0) ch_cX0_nearestOpen_32 rfl) (rdb (p := 32) (i := 1) ch_cX0_nearestOpen_32 rfl) (rdb (p := 32) (i := 2) ch_cX0_nearestOpen_32 rfl) (by decide +kernel)
theorem dX0_nearestOpen_35 : decode cX0_nearestOpen 35 = .ok (.aload_n 0, 1) := do_42 (rdb (p := 32) (i := 3) ch_cX0_nearestOpen_32 rfl)
theorem dX0_nearestOpen_36 : decode cX0_nearestOpen 36 = .ok (.getfield 9, 3) := do_180 (rdb (p := 32) (i := 4) ch_cX0_nearestOpen_32 rfl) (rdb (p := 32) (i := 5) ch_cX0_nearestOpen_32 rfl) (rdb (p := 32) (i := 6) ch_cX0_nearestOpen_32 rfl) rfl
theorem dX0_nearestOpen_39 : decode cX0_nearestOpen 39 = .ok (.iload_n 2, 1) := do_28 (rdb (p := 32) (i := 7) ch_cX0_nearestOpen_32 rfl)
theorem dX0_nearestOpen_40 : decode cX0_nearestOpen 40 = .ok (.iaload, 1) := do_46 (rdb (p := 32) (i := 8) ch_cX0_nearestOpen_32 rfl)
theorem dX0_nearestOpen_41 : decode cX0_nearestOpen 41 = .ok (.aload_n 0, 1) := do_42 (rdb (p := 32) (i := 9) ch_cX0_nearestOpen_32 rfl)
theorem dX0_nearestOpen_42 : decode cX0_nearestOpen 42 = .ok (.getfield 9, 3) := do_180 (rdb (p := 32) (i := 10) ch_cX0_nearestOpen_32 rfl) (rdb (p := 32) (i := 11) ch_cX0_nearestOpen_32 rfl) (rdb (p := 32) (i := 12) ch_cX0_nearestOpen_32 rfl) rfl
theorem dX0_nearestOpen_45 : decode cX0_nearestOpen 45 = .ok (.iload_n 1, 1) := do_27 (rdb (p := 32) (i := 13) ch_cX0_nearestOpen_32 rfl)
theorem dX0_nearestOpen_46 : decode cX0_nearestOpen 46 = .ok (.iaload, 1) := do_46 (rdb (p := 32) (i := 14) ch_cX0_nearestOpen_32 rfl)
theorem dX0_nearestOpen_47 : decode cX0_nearestOpen 47 = .ok (.if_icmp .ge 5, 3) := do_162 (rdb (p := 32) (i := 15) ch_cX0_nearestOpen_32 rfl) (rdb (p := 32) (i := 16) ch_cX0_nearestOpen_32 rfl) (rdb (p := 32) (i := 17) ch_cX0_nearestOpen_32 rfl) (by decide +kernel)
theorem dX0_nearestOpen_50 : decode cX0_nearestOpen 50 = .ok (.iload_n 2, 1) := do_28 (rdb (p := 32) (i := 18) ch_cX0_nearestOpen_32 rfl)
theorem dX0_nearestOpen_51 : decode cX0_nearestOpen 51 = .ok (.istore_n 1, 1) := do_60 (rdb (p := 32) (i := 19) ch_cX0_nearestOpen_32 rfl)
theorem dX0_nearestOpen_52 : decode cX0_nearestOpen 52 = .ok (.iinc 2 1, 3) := do_132 (rdb (p := 32) (i := 20) ch_cX0_nearestOpen_32 rfl) (rdb (p := 32) (i := 21) ch_cX0_nearestOpen_32 rfl) (rdb (p := 32) (i := 22) ch_cX0_nearestOpen_32 rfl) (by decide +kernel)
theorem dX0_nearestOpen_55 : decode cX0_nearestOpen 55 = .ok (.goto (-51), 3) := do_167 (rdb (p := 32) (i := 23) ch_cX0_nearestOpen_32 rfl) (rdb (p := 32) (i := 24) ch_cX0_nearestOpen_32 rfl) (rdb (p := 32) (i := 25) ch_cX0_nearestOpen_32 rfl) (by decide +kernel)
theorem dX0_nearestOpen_58 : decode cX0_nearestOpen 58 = .ok (.iload_n 1, 1) := do_27 (rdb (p := 32) (i := 26) ch_cX0_nearestOpen_32 rfl)
theorem dX0_nearestOpen_59 : decode cX0_nearestOpen 59 = .ok (.ireturn, 1) := do_172 (rdb (p := 32) (i := 27) ch_cX0_nearestOpen_32 rfl)
theorem ch_cX0_noteLearned_0 : (cX0_noteLearned.data.toList.drop 0).take 36 = [29, 155, 0, 17, 29, 16, 8, 162, 0, 11, 43, 28, 182, 0, 94, 154, 0, 4, 177, 3, 54, 5, 21, 5, 6, 162, 0, 21, 42, 180, 0, 19, 6, 29, 104, 21] := by decide +kernel
theorem dX0_noteLearned_0 : decode cX0_noteLearned 0 = .ok (.iload_n 3, 1) := do_29 (rdb (p := 0) (i := 0) ch_cX0_noteLearned_0 rfl)
theorem dX0_noteLearned_1 : decode cX0_noteLearned 1 = .ok (.ifCond .lt 17, 3) := do_155 (rdb (p := 0) (i := 1) ch_cX0_noteLearned_0 rfl) (rdb (p := 0) (i := 2) ch_cX0_noteLearned_0 rfl) (rdb (p := 0) (i := 3) ch_cX0_noteLearned_0 rfl) (by decide +kernel)
theorem dX0_noteLearned_4 : decode cX0_noteLearned 4 = .ok (.iload_n 3, 1) := do_29 (rdb (p := 0) (i := 4) ch_cX0_noteLearned_0 rfl)
theorem dX0_noteLearned_5 : decode cX0_noteLearned 5 = .ok (.bipush 8, 2) := do_16 (rdb (p := 0) (i := 5) ch_cX0_noteLearned_0 rfl) (rdb (p := 0) (i := 6) ch_cX0_noteLearned_0 rfl) (by decide +kernel)
theorem dX0_noteLearned_7 : decode cX0_noteLearned 7 = .ok (.if_icmp .ge 11, 3) := do_162 (rdb (p := 0) (i := 7) ch_cX0_noteLearned_0 rfl) (rdb (p := 0) (i := 8) ch_cX0_noteLearned_0 rfl) (rdb (p := 0) (i := 9) ch_cX0_noteLearned_0 rfl) (by decide +kernel)
theorem dX0_noteLearned_10 : decode cX0_noteLearned 10 = .ok (.aload_n 1, 1) := do_43 (rdb (p := 0) (i := 10) ch_cX0_noteLearned_0 rfl)
theorem dX0_noteLearned_11 : decode cX0_noteLearned 11 = .ok (.iload_n 2, 1) := do_28 (rdb (p := 0) (i := 11) ch_cX0_noteLearned_0 rfl)
theorem dX0_noteLearned_12 : decode cX0_noteLearned 12 = .ok (.invokevirtual 94, 3) := do_182 (rdb (p := 0) (i := 12) ch_cX0_noteLearned_0 rfl) (rdb (p := 0) (i := 13) ch_cX0_noteLearned_0 rfl) (rdb (p := 0) (i := 14) ch_cX0_noteLearned_0 rfl) rfl
theorem dX0_noteLearned_15 : decode cX0_noteLearned 15 = .ok (.ifCond .ne 4, 3) := do_154 (rdb (p := 0) (i := 15) ch_cX0_noteLearned_0 rfl) (rdb (p := 0) (i := 16) ch_cX0_noteLearned_0 rfl) (rdb (p := 0) (i := 17) ch_cX0_noteLearned_0 rfl) (by decide +kernel)
theorem dX0_noteLearned_18 : decode cX0_noteLearned 18 = .ok (.return_, 1) := do_177 (rdb (p := 0) (i := 18) ch_cX0_noteLearned_0 rfl)
theorem dX0_noteLearned_19 : decode cX0_noteLearned 19 = .ok (.iconst 0, 1) := do_3 (rdb (p := 0) (i := 19) ch_cX0_noteLearned_0 rfl)
theorem dX0_noteLearned_20 : decode cX0_noteLearned 20 = .ok (.istore 5, 2) := do_54 (rdb (p := 0) (i := 20) ch_cX0_noteLearned_0 rfl) (rdb (p := 0) (i := 21) ch_cX0_noteLearned_0 rfl)
theorem dX0_noteLearned_22 : decode cX0_noteLearned 22 = .ok (.iload 5, 2) := do_21 (rdb (p := 0) (i := 22) ch_cX0_noteLearned_0 rfl) (rdb (p := 0) (i := 23) ch_cX0_noteLearned_0 rfl)
theorem dX0_noteLearned_24 : decode cX0_noteLearned 24 = .ok (.iconst 3, 1) := do_6 (rdb (p := 0) (i := 24) ch_cX0_noteLearned_0 rfl)
theorem dX0_noteLearned_25 : decode cX0_noteLearned 25 = .ok (.if_icmp .ge 21, 3) := do_162 (rdb (p := 0) (i := 25) ch_cX0_noteLearned_0 rfl) (rdb (p := 0) (i := 26) ch_cX0_noteLearned_0 rfl) (rdb (p := 0) (i := 27) ch_cX0_noteLearned_0 rfl) (by decide +kernel)
theorem dX0_noteLearned_28 : decode cX0_noteLearned 28 = .ok (.aload_n 0, 1) := do_42 (rdb (p := 0) (i := 28) ch_cX0_noteLearned_0 rfl)
theorem dX0_noteLearned_29 : decode cX0_noteLearned 29 = .ok (.getfield 19, 3) := do_180 (rdb (p := 0) (i := 29) ch_cX0_noteLearned_0 rfl) (rdb (p := 0) (i := 30) ch_cX0_noteLearned_0 rfl) (rdb (p := 0) (i := 31) ch_cX0_noteLearned_0 rfl) rfl
theorem ch_cX0_noteLearned_32 : (cX0_noteLearned.data.toList.drop 32).take 36 = [6, 29, 104, 21, 5, 96, 9, 80, 132, 5, 1, 167, 255, 235, 43, 180, 0, 97, 28, 50, 58, 5, 3, 54, 6, 21, 6, 16, 8, 162, 0, 81, 43, 28, 21, 4] := by decide +kernel
theorem dX0_noteLearned_32 : decode cX0_noteLearned 32 = .ok (.iconst 3, 1) := do_6 (rdb (p := 32) (i := 0) ch_cX0_noteLearned_32 rfl)
theorem dX0_noteLearned_33 : decode cX0_noteLearned 33 = .ok (.iload_n 3, 1) := do_29 (rdb (p := 32) (i := 1) ch_cX0_noteLearned_32 rfl)
theorem dX0_noteLearned_34 : decode cX0_noteLearned 34 = .ok (.imul, 1) := do_104 (rdb (p := 32) (i := 2) ch_cX0_noteLearned_32 rfl)
theorem dX0_noteLearned_35 : decode cX0_noteLearned 35 = .ok (.iload 5, 2) := do_21 (rdb (p := 32) (i := 3) ch_cX0_noteLearned_32 rfl) (rdb (p := 32) (i := 4) ch_cX0_noteLearned_32 rfl)
theorem dX0_noteLearned_37 : decode cX0_noteLearned 37 = .ok (.iadd, 1) := do_96 (rdb (p := 32) (i := 5) ch_cX0_noteLearned_32 rfl)
theorem dX0_noteLearned_38 : decode cX0_noteLearned 38 = .ok (.lconst 0, 1) := do_9 (rdb (p := 32) (i := 6) ch_cX0_noteLearned_32 rfl)
theorem dX0_noteLearned_39 : decode cX0_noteLearned 39 = .ok (.lastore, 1) := do_80 (rdb (p := 32) (i := 7) ch_cX0_noteLearned_32 rfl)
theorem dX0_noteLearned_40 : decode cX0_noteLearned 40 = .ok (.iinc 5 1, 3) := do_132 (rdb (p := 32) (i := 8) ch_cX0_noteLearned_32 rfl) (rdb (p := 32) (i := 9) ch_cX0_noteLearned_32 rfl) (rdb (p := 32) (i := 10) ch_cX0_noteLearned_32 rfl) (by decide +kernel)
theorem dX0_noteLearned_43 : decode cX0_noteLearned 43 = .ok (.goto (-21), 3) := do_167 (rdb (p := 32) (i := 11) ch_cX0_noteLearned_32 rfl) (rdb (p := 32) (i := 12) ch_cX0_noteLearned_32 rfl) (rdb (p := 32) (i := 13) ch_cX0_noteLearned_32 rfl) (by decide +kernel)
theorem dX0_noteLearned_46 : decode cX0_noteLearned 46 = .ok (.aload_n 1, 1) := do_43 (rdb (p := 32) (i := 14) ch_cX0_noteLearned_32 rfl)
theorem dX0_noteLearned_47 : decode cX0_noteLearned 47 = .ok (.getfield 97, 3) := do_180 (rdb (p := 32) (i := 15) ch_cX0_noteLearned_32 rfl) (rdb (p := 32) (i := 16) ch_cX0_noteLearned_32 rfl) (rdb (p := 32) (i := 17) ch_cX0_noteLearned_32 rfl) rfl
theorem dX0_noteLearned_50 : decode cX0_noteLearned 50 = .ok (.iload_n 2, 1) := do_28 (rdb (p := 32) (i := 18) ch_cX0_noteLearned_32 rfl)
theorem dX0_noteLearned_51 : decode cX0_noteLearned 51 = .ok (.aaload, 1) := do_50 (rdb (p := 32) (i := 19) ch_cX0_noteLearned_32 rfl)
theorem dX0_noteLearned_52 : decode cX0_noteLearned 52 = .ok (.astore 5, 2) := do_58 (rdb (p := 32) (i := 20) ch_cX0_noteLearned_32 rfl) (rdb (p := 32) (i := 21) ch_cX0_noteLearned_32 rfl)
theorem dX0_noteLearned_54 : decode cX0_noteLearned 54 = .ok (.iconst 0, 1) := do_3 (rdb (p := 32) (i := 22) ch_cX0_noteLearned_32 rfl)
theorem dX0_noteLearned_55 : decode cX0_noteLearned 55 = .ok (.istore 6, 2) := do_54 (rdb (p := 32) (i := 23) ch_cX0_noteLearned_32 rfl) (rdb (p := 32) (i := 24) ch_cX0_noteLearned_32 rfl)
theorem dX0_noteLearned_57 : decode cX0_noteLearned 57 = .ok (.iload 6, 2) := do_21 (rdb (p := 32) (i := 25) ch_cX0_noteLearned_32 rfl) (rdb (p := 32) (i := 26) ch_cX0_noteLearned_32 rfl)
theorem dX0_noteLearned_59 : decode cX0_noteLearned 59 = .ok (.bipush 8, 2) := do_16 (rdb (p := 32) (i := 27) ch_cX0_noteLearned_32 rfl) (rdb (p := 32) (i := 28) ch_cX0_noteLearned_32 rfl) (by decide +kernel)
theorem dX0_noteLearned_61 : decode cX0_noteLearned 61 = .ok (.if_icmp .ge 81, 3) := do_162 (rdb (p := 32) (i := 29) ch_cX0_noteLearned_32 rfl) (rdb (p := 32) (i := 30) ch_cX0_noteLearned_32 rfl) (rdb (p := 32) (i := 31) ch_cX0_noteLearned_32 rfl) (by decide +kernel)
theorem ch_cX0_noteLearned_64 : (cX0_noteLearned.data.toList.drop 64).take 36 = [43, 28, 21, 4, 21, 6, 182, 0, 101, 54, 7, 4, 54, 8, 21, 8, 21, 7, 163, 0, 54, 21, 4, 21, 6, 21, 8, 184, 0, 46, 54, 9, 25, 5, 21, 9] := by decide +kernel
theorem dX0_noteLearned_64 : decode cX0_noteLearned 64 = .ok (.aload_n 1, 1) := do_43 (rdb (p := 64) (i := 0) ch_cX0_noteLearned_64 rfl)
theorem dX0_noteLearned_65 : decode cX0_noteLearned 65 = .ok (.iload_n 2, 1) := do_28 (rdb (p := 64) (i := 1) ch_cX0_noteLearned_64 rfl)
theorem dX0_noteLearned_66 : decode cX0_noteLearned 66 = .ok (.iload 4, 2) := do_21 (rdb (p := 64) (i := 2) ch_cX0_noteLearned_64 rfl) (rdb (p := 64) (i := 3) ch_cX0_noteLearned_64 rfl)
theorem dX0_noteLearned_68 : decode cX0_noteLearned 68 = .ok (.iload 6, 2) := do_21 (rdb (p := 64) (i := 4) ch_cX0_noteLearned_64 rfl) (rdb (p := 64) (i := 5) ch_cX0_noteLearned_64 rfl)
theorem dX0_noteLearned_70 : decode cX0_noteLearned 70 = .ok (.invokevirtual 101, 3) := do_182 (rdb (p := 64) (i := 6) ch_cX0_noteLearned_64 rfl) (rdb (p := 64) (i := 7) ch_cX0_noteLearned_64 rfl) (rdb (p := 64) (i := 8) ch_cX0_noteLearned_64 rfl) rfl
theorem dX0_noteLearned_73 : decode cX0_noteLearned 73 = .ok (.istore 7, 2) := do_54 (rdb (p := 64) (i := 9) ch_cX0_noteLearned_64 rfl) (rdb (p := 64) (i := 10) ch_cX0_noteLearned_64 rfl)
theorem dX0_noteLearned_75 : decode cX0_noteLearned 75 = .ok (.iconst 1, 1) := do_4 (rdb (p := 64) (i := 11) ch_cX0_noteLearned_64 rfl)
theorem dX0_noteLearned_76 : decode cX0_noteLearned 76 = .ok (.istore 8, 2) := do_54 (rdb (p := 64) (i := 12) ch_cX0_noteLearned_64 rfl) (rdb (p := 64) (i := 13) ch_cX0_noteLearned_64 rfl)
theorem dX0_noteLearned_78 : decode cX0_noteLearned 78 = .ok (.iload 8, 2) := do_21 (rdb (p := 64) (i := 14) ch_cX0_noteLearned_64 rfl) (rdb (p := 64) (i := 15) ch_cX0_noteLearned_64 rfl)
theorem dX0_noteLearned_80 : decode cX0_noteLearned 80 = .ok (.iload 7, 2) := do_21 (rdb (p := 64) (i := 16) ch_cX0_noteLearned_64 rfl) (rdb (p := 64) (i := 17) ch_cX0_noteLearned_64 rfl)
theorem dX0_noteLearned_82 : decode cX0_noteLearned 82 = .ok (.if_icmp .gt 54, 3) := do_163 (rdb (p := 64) (i := 18) ch_cX0_noteLearned_64 rfl) (rdb (p := 64) (i := 19) ch_cX0_noteLearned_64 rfl) (rdb (p := 64) (i := 20) ch_cX0_noteLearned_64 rfl) (by decide +kernel)
theorem dX0_noteLearned_85 : decode cX0_noteLearned 85 = .ok (.iload 4, 2) := do_21 (rdb (p := 64) (i := 21) ch_cX0_noteLearned_64 rfl) (rdb (p := 64) (i := 22) ch_cX0_noteLearned_64 rfl)
theorem dX0_noteLearned_87 : decode cX0_noteLearned 87 = .ok (.iload 6, 2) := do_21 (rdb (p := 64) (i := 23) ch_cX0_noteLearned_64 rfl) (rdb (p := 64) (i := 24) ch_cX0_noteLearned_64 rfl)
theorem dX0_noteLearned_89 : decode cX0_noteLearned 89 = .ok (.iload 8, 2) := do_21 (rdb (p := 64) (i := 25) ch_cX0_noteLearned_64 rfl) (rdb (p := 64) (i := 26) ch_cX0_noteLearned_64 rfl)
theorem dX0_noteLearned_91 : decode cX0_noteLearned 91 = .ok (.invokestatic 46, 3) := do_184 (rdb (p := 64) (i := 27) ch_cX0_noteLearned_64 rfl) (rdb (p := 64) (i := 28) ch_cX0_noteLearned_64 rfl) (rdb (p := 64) (i := 29) ch_cX0_noteLearned_64 rfl) rfl
theorem dX0_noteLearned_94 : decode cX0_noteLearned 94 = .ok (.istore 9, 2) := do_54 (rdb (p := 64) (i := 30) ch_cX0_noteLearned_64 rfl) (rdb (p := 64) (i := 31) ch_cX0_noteLearned_64 rfl)
theorem ch_cX0_noteLearned_96 : (cX0_noteLearned.data.toList.drop 96).take 36 = [25, 5, 21, 9, 182, 0, 104, 153, 0, 27, 42, 180, 0, 19, 6, 29, 104, 21, 9, 16, 64, 108, 96, 92, 47, 10, 21, 9, 16, 64, 112, 121, 129, 80, 132, 8] := by decide +kernel
theorem dX0_noteLearned_96 : decode cX0_noteLearned 96 = .ok (.aload 5, 2) := do_25 (rdb (p := 96) (i := 0) ch_cX0_noteLearned_96 rfl) (rdb (p := 96) (i := 1) ch_cX0_noteLearned_96 rfl)
theorem dX0_noteLearned_98 : decode cX0_noteLearned 98 = .ok (.iload 9, 2) := do_21 (rdb (p := 96) (i := 2) ch_cX0_noteLearned_96 rfl) (rdb (p := 96) (i := 3) ch_cX0_noteLearned_96 rfl)
theorem dX0_noteLearned_100 : decode cX0_noteLearned 100 = .ok (.invokevirtual 104, 3) := do_182 (rdb (p := 96) (i := 4) ch_cX0_noteLearned_96 rfl) (rdb (p := 96) (i := 5) ch_cX0_noteLearned_96 rfl) (rdb (p := 96) (i := 6) ch_cX0_noteLearned_96 rfl) rfl
theorem dX0_noteLearned_103 : decode cX0_noteLearned 103 = .ok (.ifCond .eq 27, 3) := do_153 (rdb (p := 96) (i := 7) ch_cX0_noteLearned_96 rfl) (rdb (p := 96) (i := 8) ch_cX0_noteLearned_96 rfl) (rdb (p := 96) (i := 9) ch_cX0_noteLearned_96 rfl) (by decide +kernel)
theorem dX0_noteLearned_106 : decode cX0_noteLearned 106 = .ok (.aload_n 0, 1) := do_42 (rdb (p := 96) (i := 10) ch_cX0_noteLearned_96 rfl)
theorem dX0_noteLearned_107 : decode cX0_noteLearned 107 = .ok (.getfield 19, 3) := do_180 (rdb (p := 96) (i := 11) ch_cX0_noteLearned_96 rfl) (rdb (p := 96) (i := 12) ch_cX0_noteLearned_96 rfl) (rdb (p := 96) (i := 13) ch_cX0_noteLearned_96 rfl) rfl
theorem dX0_noteLearned_110 : decode cX0_noteLearned 110 = .ok (.iconst 3, 1) := do_6 (rdb (p := 96) (i := 14) ch_cX0_noteLearned_96 rfl)
theorem dX0_noteLearned_111 : decode cX0_noteLearned 111 = .ok (.iload_n 3, 1) := do_29 (rdb (p := 96) (i := 15) ch_cX0_noteLearned_96 rfl)
theorem dX0_noteLearned_112 : decode cX0_noteLearned 112 = .ok (.imul, 1) := do_104 (rdb (p := 96) (i := 16) ch_cX0_noteLearned_96 rfl)
theorem dX0_noteLearned_113 : decode cX0_noteLearned 113 = .ok (.iload 9, 2) := do_21 (rdb (p := 96) (i := 17) ch_cX0_noteLearned_96 rfl) (rdb (p := 96) (i := 18) ch_cX0_noteLearned_96 rfl)
theorem dX0_noteLearned_115 : decode cX0_noteLearned 115 = .ok (.bipush 64, 2) := do_16 (rdb (p := 96) (i := 19) ch_cX0_noteLearned_96 rfl) (rdb (p := 96) (i := 20) ch_cX0_noteLearned_96 rfl) (by decide +kernel)
theorem dX0_noteLearned_117 : decode cX0_noteLearned 117 = .ok (.idiv, 1) := do_108 (rdb (p := 96) (i := 21) ch_cX0_noteLearned_96 rfl)
theorem dX0_noteLearned_118 : decode cX0_noteLearned 118 = .ok (.iadd, 1) := do_96 (rdb (p := 96) (i := 22) ch_cX0_noteLearned_96 rfl)
theorem dX0_noteLearned_119 : decode cX0_noteLearned 119 = .ok (.dup2, 1) := do_92 (rdb (p := 96) (i := 23) ch_cX0_noteLearned_96 rfl)
theorem dX0_noteLearned_120 : decode cX0_noteLearned 120 = .ok (.laload, 1) := do_47 (rdb (p := 96) (i := 24) ch_cX0_noteLearned_96 rfl)
theorem dX0_noteLearned_121 : decode cX0_noteLearned 121 = .ok (.lconst 1, 1) := do_10 (rdb (p := 96) (i := 25) ch_cX0_noteLearned_96 rfl)
theorem dX0_noteLearned_122 : decode cX0_noteLearned 122 = .ok (.iload 9, 2) := do_21 (rdb (p := 96) (i := 26) ch_cX0_noteLearned_96 rfl) (rdb (p := 96) (i := 27) ch_cX0_noteLearned_96 rfl)
theorem dX0_noteLearned_124 : decode cX0_noteLearned 124 = .ok (.bipush 64, 2) := do_16 (rdb (p := 96) (i := 28) ch_cX0_noteLearned_96 rfl) (rdb (p := 96) (i := 29) ch_cX0_noteLearned_96 rfl) (by decide +kernel)
theorem dX0_noteLearned_126 : decode cX0_noteLearned 126 = .ok (.irem, 1) := do_112 (rdb (p := 96) (i := 30) ch_cX0_noteLearned_96 rfl)
theorem dX0_noteLearned_127 : decode cX0_noteLearned 127 = .ok (.lshl, 1) := do_121 (rdb (p := 96) (i := 31) ch_cX0_noteLearned_96 rfl)
theorem ch_cX0_noteLearned_128 : (cX0_noteLearned.data.toList.drop 128).take 36 = [129, 80, 132, 8, 1, 167, 255, 201, 132, 6, 1, 167, 255, 174, 177] := by decide +kernel
theorem dX0_noteLearned_128 : decode cX0_noteLearned 128 = .ok (.lor, 1) := do_129 (rdb (p := 128) (i := 0) ch_cX0_noteLearned_128 rfl)
theorem dX0_noteLearned_129 : decode cX0_noteLearned 129 = .ok (.lastore, 1) := do_80 (rdb (p := 128) (i := 1) ch_cX0_noteLearned_128 rfl)
theorem dX0_noteLearned_130 : decode cX0_noteLearned 130 = .ok (.iinc 8 1, 3) := do_132 (rdb (p := 128) (i := 2) ch_cX0_noteLearned_128 rfl) (rdb (p := 128) (i := 3) ch_cX0_noteLearned_128 rfl) (rdb (p := 128) (i := 4) ch_cX0_noteLearned_128 rfl) (by decide +kernel)
theorem dX0_noteLearned_133 : decode cX0_noteLearned 133 = .ok (.goto (-55), 3) := do_167 (rdb (p := 128) (i := 5) ch_cX0_noteLearned_128 rfl) (rdb (p := 128) (i := 6) ch_cX0_noteLearned_128 rfl) (rdb (p := 128) (i := 7) ch_cX0_noteLearned_128 rfl) (by decide +kernel)
theorem dX0_noteLearned_136 : decode cX0_noteLearned 136 = .ok (.iinc 6 1, 3) := do_132 (rdb (p := 128) (i := 8) ch_cX0_noteLearned_128 rfl) (rdb (p := 128) (i := 9) ch_cX0_noteLearned_128 rfl) (rdb (p := 128) (i := 10) ch_cX0_noteLearned_128 rfl) (by decide +kernel)
theorem dX0_noteLearned_139 : decode cX0_noteLearned 139 = .ok (.goto (-82), 3) := do_167 (rdb (p := 128) (i := 11) ch_cX0_noteLearned_128 rfl) (rdb (p := 128) (i := 12) ch_cX0_noteLearned_128 rfl) (rdb (p := 128) (i := 13) ch_cX0_noteLearned_128 rfl) (by decide +kernel)
theorem dX0_noteLearned_142 : decode cX0_noteLearned 142 = .ok (.return_, 1) := do_177 (rdb (p := 128) (i := 14) ch_cX0_noteLearned_128 rfl)
theorem dX0_servesAll_0 : decode cX0_servesAll 0 = .ok (.iconst 0, 1) := by decide +kernel
theorem dX0_servesAll_1 : decode cX0_servesAll 1 = .ok (.istore_n 3, 1) := by decide +kernel
theorem dX0_servesAll_2 : decode cX0_servesAll 2 = .ok (.iload_n 3, 1) := by decide +kernel
theorem dX0_servesAll_3 : decode cX0_servesAll 3 = .ok (.iload_n 2, 1) := by decide +kernel
theorem dX0_servesAll_4 : decode cX0_servesAll 4 = .ok (.if_icmp .ge 28, 3) := by decide +kernel
theorem dX0_servesAll_7 : decode cX0_servesAll 7 = .ok (.iload_n 3, 1) := by decide +kernel
theorem dX0_servesAll_8 : decode cX0_servesAll 8 = .ok (.bipush 8, 2) := by decide +kernel
theorem dX0_servesAll_10 : decode cX0_servesAll 10 = .ok (.if_icmp .ge 22, 3) := by decide +kernel
theorem dX0_servesAll_13 : decode cX0_servesAll 13 = .ok (.iload_n 1, 1) := by decide +kernel
theorem dX0_servesAll_14 : decode cX0_servesAll 14 = .ok (.aload_n 0, 1) := by decide +kernel
theorem dX0_servesAll_15 : decode cX0_servesAll 15 = .ok (.getfield 23, 3) := by decide +kernel
theorem dX0_servesAll_18 : decode cX0_servesAll 18 = .ok (.iload_n 3, 1) := by decide +kernel
theorem dX0_servesAll_19 : decode cX0_servesAll 19 = .ok (.iaload, 1) := by decide +kernel
theorem dX0_servesAll_20 : decode cX0_servesAll 20 = .ok (.iand, 1) := by decide +kernel
theorem dX0_servesAll_21 : decode cX0_servesAll 21 = .ok (.ifCond .ne 5, 3) := by decide +kernel
theorem dX0_servesAll_24 : decode cX0_servesAll 24 = .ok (.iconst 0, 1) := by decide +kernel
theorem dX0_servesAll_25 : decode cX0_servesAll 25 = .ok (.ireturn, 1) := by decide +kernel
theorem dX0_servesAll_26 : decode cX0_servesAll 26 = .ok (.iinc 3 1, 3) := by decide +kernel
theorem dX0_servesAll_29 : decode cX0_servesAll 29 = .ok (.goto (-27), 3) := by decide +kernel
theorem dX0_servesAll_32 : decode cX0_servesAll 32 = .ok (.iconst 1, 1) := by decide +kernel
theorem dX0_servesAll_33 : decode cX0_servesAll 33 = .ok (.ireturn, 1) := by decide +kernel
theorem ch_cX0_wouldHear_0 : (cX0_wouldHear.data.toList.drop 0).take 36 = [42, 27, 182, 0, 94, 154, 0, 5, 3, 172, 42, 180, 0, 97, 27, 50, 58, 4, 3, 54, 5, 21, 5, 16, 8, 162, 0, 80, 4, 54, 6, 21, 6, 25, 4, 182] := by decide +kernel
theorem dX0_wouldHear_0 : decode cX0_wouldHear 0 = .ok (.aload_n 0, 1) := do_42 (rdb (p := 0) (i := 0) ch_cX0_wouldHear_0 rfl)
theorem dX0_wouldHear_1 : decode cX0_wouldHear 1 = .ok (.iload_n 1, 1) := do_27 (rdb (p := 0) (i := 1) ch_cX0_wouldHear_0 rfl)
theorem dX0_wouldHear_2 : decode cX0_wouldHear 2 = .ok (.invokevirtual 94, 3) := do_182 (rdb (p := 0) (i := 2) ch_cX0_wouldHear_0 rfl) (rdb (p := 0) (i := 3) ch_cX0_wouldHear_0 rfl) (rdb (p := 0) (i := 4) ch_cX0_wouldHear_0 rfl) rfl
theorem dX0_wouldHear_5 : decode cX0_wouldHear 5 = .ok (.ifCond .ne 5, 3) := do_154 (rdb (p := 0) (i := 5) ch_cX0_wouldHear_0 rfl) (rdb (p := 0) (i := 6) ch_cX0_wouldHear_0 rfl) (rdb (p := 0) (i := 7) ch_cX0_wouldHear_0 rfl) (by decide +kernel)
theorem dX0_wouldHear_8 : decode cX0_wouldHear 8 = .ok (.iconst 0, 1) := do_3 (rdb (p := 0) (i := 8) ch_cX0_wouldHear_0 rfl)
theorem dX0_wouldHear_9 : decode cX0_wouldHear 9 = .ok (.ireturn, 1) := do_172 (rdb (p := 0) (i := 9) ch_cX0_wouldHear_0 rfl)
theorem dX0_wouldHear_10 : decode cX0_wouldHear 10 = .ok (.aload_n 0, 1) := do_42 (rdb (p := 0) (i := 10) ch_cX0_wouldHear_0 rfl)
theorem dX0_wouldHear_11 : decode cX0_wouldHear 11 = .ok (.getfield 97, 3) := do_180 (rdb (p := 0) (i := 11) ch_cX0_wouldHear_0 rfl) (rdb (p := 0) (i := 12) ch_cX0_wouldHear_0 rfl) (rdb (p := 0) (i := 13) ch_cX0_wouldHear_0 rfl) rfl
theorem dX0_wouldHear_14 : decode cX0_wouldHear 14 = .ok (.iload_n 1, 1) := do_27 (rdb (p := 0) (i := 14) ch_cX0_wouldHear_0 rfl)
theorem dX0_wouldHear_15 : decode cX0_wouldHear 15 = .ok (.aaload, 1) := do_50 (rdb (p := 0) (i := 15) ch_cX0_wouldHear_0 rfl)
theorem dX0_wouldHear_16 : decode cX0_wouldHear 16 = .ok (.astore 4, 2) := do_58 (rdb (p := 0) (i := 16) ch_cX0_wouldHear_0 rfl) (rdb (p := 0) (i := 17) ch_cX0_wouldHear_0 rfl)
theorem dX0_wouldHear_18 : decode cX0_wouldHear 18 = .ok (.iconst 0, 1) := do_3 (rdb (p := 0) (i := 18) ch_cX0_wouldHear_0 rfl)
theorem dX0_wouldHear_19 : decode cX0_wouldHear 19 = .ok (.istore 5, 2) := do_54 (rdb (p := 0) (i := 19) ch_cX0_wouldHear_0 rfl) (rdb (p := 0) (i := 20) ch_cX0_wouldHear_0 rfl)
theorem dX0_wouldHear_21 : decode cX0_wouldHear 21 = .ok (.iload 5, 2) := do_21 (rdb (p := 0) (i := 21) ch_cX0_wouldHear_0 rfl) (rdb (p := 0) (i := 22) ch_cX0_wouldHear_0 rfl)
theorem dX0_wouldHear_23 : decode cX0_wouldHear 23 = .ok (.bipush 8, 2) := do_16 (rdb (p := 0) (i := 23) ch_cX0_wouldHear_0 rfl) (rdb (p := 0) (i := 24) ch_cX0_wouldHear_0 rfl) (by decide +kernel)
theorem dX0_wouldHear_25 : decode cX0_wouldHear 25 = .ok (.if_icmp .ge 80, 3) := do_162 (rdb (p := 0) (i := 25) ch_cX0_wouldHear_0 rfl) (rdb (p := 0) (i := 26) ch_cX0_wouldHear_0 rfl) (rdb (p := 0) (i := 27) ch_cX0_wouldHear_0 rfl) (by decide +kernel)
theorem dX0_wouldHear_28 : decode cX0_wouldHear 28 = .ok (.iconst 1, 1) := do_4 (rdb (p := 0) (i := 28) ch_cX0_wouldHear_0 rfl)
theorem dX0_wouldHear_29 : decode cX0_wouldHear 29 = .ok (.istore 6, 2) := do_54 (rdb (p := 0) (i := 29) ch_cX0_wouldHear_0 rfl) (rdb (p := 0) (i := 30) ch_cX0_wouldHear_0 rfl)
theorem dX0_wouldHear_31 : decode cX0_wouldHear 31 = .ok (.iload 6, 2) := do_21 (rdb (p := 0) (i := 31) ch_cX0_wouldHear_0 rfl) (rdb (p := 0) (i := 32) ch_cX0_wouldHear_0 rfl)
theorem ch_cX0_wouldHear_32 : (cX0_wouldHear.data.toList.drop 32).take 36 = [6, 25, 4, 182, 0, 120, 163, 0, 61, 28, 21, 5, 21, 6, 184, 0, 46, 54, 7, 42, 27, 21, 7, 182, 0, 123, 154, 0, 6, 167, 0, 38, 21, 7, 29, 160] := by decide +kernel
theorem dX0_wouldHear_33 : decode cX0_wouldHear 33 = .ok (.aload 4, 2) := do_25 (rdb (p := 32) (i := 1) ch_cX0_wouldHear_32 rfl) (rdb (p := 32) (i := 2) ch_cX0_wouldHear_32 rfl)
theorem dX0_wouldHear_35 : decode cX0_wouldHear 35 = .ok (.invokevirtual 120, 3) := do_182 (rdb (p := 32) (i := 3) ch_cX0_wouldHear_32 rfl) (rdb (p := 32) (i := 4) ch_cX0_wouldHear_32 rfl) (rdb (p := 32) (i := 5) ch_cX0_wouldHear_32 rfl) rfl
theorem dX0_wouldHear_38 : decode cX0_wouldHear 38 = .ok (.if_icmp .gt 61, 3) := do_163 (rdb (p := 32) (i := 6) ch_cX0_wouldHear_32 rfl) (rdb (p := 32) (i := 7) ch_cX0_wouldHear_32 rfl) (rdb (p := 32) (i := 8) ch_cX0_wouldHear_32 rfl) (by decide +kernel)
theorem dX0_wouldHear_41 : decode cX0_wouldHear 41 = .ok (.iload_n 2, 1) := do_28 (rdb (p := 32) (i := 9) ch_cX0_wouldHear_32 rfl)
theorem dX0_wouldHear_42 : decode cX0_wouldHear 42 = .ok (.iload 5, 2) := do_21 (rdb (p := 32) (i := 10) ch_cX0_wouldHear_32 rfl) (rdb (p := 32) (i := 11) ch_cX0_wouldHear_32 rfl)
theorem dX0_wouldHear_44 : decode cX0_wouldHear 44 = .ok (.iload 6, 2) := do_21 (rdb (p := 32) (i := 12) ch_cX0_wouldHear_32 rfl) (rdb (p := 32) (i := 13) ch_cX0_wouldHear_32 rfl)
theorem dX0_wouldHear_46 : decode cX0_wouldHear 46 = .ok (.invokestatic 46, 3) := do_184 (rdb (p := 32) (i := 14) ch_cX0_wouldHear_32 rfl) (rdb (p := 32) (i := 15) ch_cX0_wouldHear_32 rfl) (rdb (p := 32) (i := 16) ch_cX0_wouldHear_32 rfl) rfl
theorem dX0_wouldHear_49 : decode cX0_wouldHear 49 = .ok (.istore 7, 2) := do_54 (rdb (p := 32) (i := 17) ch_cX0_wouldHear_32 rfl) (rdb (p := 32) (i := 18) ch_cX0_wouldHear_32 rfl)
theorem dX0_wouldHear_51 : decode cX0_wouldHear 51 = .ok (.aload_n 0, 1) := do_42 (rdb (p := 32) (i := 19) ch_cX0_wouldHear_32 rfl)
theorem dX0_wouldHear_52 : decode cX0_wouldHear 52 = .ok (.iload_n 1, 1) := do_27 (rdb (p := 32) (i := 20) ch_cX0_wouldHear_32 rfl)
theorem dX0_wouldHear_53 : decode cX0_wouldHear 53 = .ok (.iload 7, 2) := do_21 (rdb (p := 32) (i := 21) ch_cX0_wouldHear_32 rfl) (rdb (p := 32) (i := 22) ch_cX0_wouldHear_32 rfl)
theorem dX0_wouldHear_55 : decode cX0_wouldHear 55 = .ok (.invokevirtual 123, 3) := do_182 (rdb (p := 32) (i := 23) ch_cX0_wouldHear_32 rfl) (rdb (p := 32) (i := 24) ch_cX0_wouldHear_32 rfl) (rdb (p := 32) (i := 25) ch_cX0_wouldHear_32 rfl) rfl
theorem dX0_wouldHear_58 : decode cX0_wouldHear 58 = .ok (.ifCond .ne 6, 3) := do_154 (rdb (p := 32) (i := 26) ch_cX0_wouldHear_32 rfl) (rdb (p := 32) (i := 27) ch_cX0_wouldHear_32 rfl) (rdb (p := 32) (i := 28) ch_cX0_wouldHear_32 rfl) (by decide +kernel)
theorem dX0_wouldHear_61 : decode cX0_wouldHear 61 = .ok (.goto 38, 3) := do_167 (rdb (p := 32) (i := 29) ch_cX0_wouldHear_32 rfl) (rdb (p := 32) (i := 30) ch_cX0_wouldHear_32 rfl) (rdb (p := 32) (i := 31) ch_cX0_wouldHear_32 rfl) (by decide +kernel)
theorem ch_cX0_wouldHear_64 : (cX0_wouldHear.data.toList.drop 64).take 36 = [21, 7, 29, 160, 0, 26, 42, 180, 0, 126, 25, 4, 182, 0, 130, 4, 25, 4, 182, 0, 133, 21, 6, 21, 5, 182, 0, 136, 172, 132, 6, 1, 167, 255, 191, 132] := by decide +kernel
theorem dX0_wouldHear_64 : decode cX0_wouldHear 64 = .ok (.iload 7, 2) := do_21 (rdb (p := 64) (i := 0) ch_cX0_wouldHear_64 rfl) (rdb (p := 64) (i := 1) ch_cX0_wouldHear_64 rfl)
theorem dX0_wouldHear_66 : decode cX0_wouldHear 66 = .ok (.iload_n 3, 1) := do_29 (rdb (p := 64) (i := 2) ch_cX0_wouldHear_64 rfl)
theorem dX0_wouldHear_67 : decode cX0_wouldHear 67 = .ok (.if_icmp .ne 26, 3) := do_160 (rdb (p := 64) (i := 3) ch_cX0_wouldHear_64 rfl) (rdb (p := 64) (i := 4) ch_cX0_wouldHear_64 rfl) (rdb (p := 64) (i := 5) ch_cX0_wouldHear_64 rfl) (by decide +kernel)
theorem dX0_wouldHear_70 : decode cX0_wouldHear 70 = .ok (.aload_n 0, 1) := do_42 (rdb (p := 64) (i := 6) ch_cX0_wouldHear_64 rfl)
theorem dX0_wouldHear_71 : decode cX0_wouldHear 71 = .ok (.getfield 126, 3) := do_180 (rdb (p := 64) (i := 7) ch_cX0_wouldHear_64 rfl) (rdb (p := 64) (i := 8) ch_cX0_wouldHear_64 rfl) (rdb (p := 64) (i := 9) ch_cX0_wouldHear_64 rfl) rfl
theorem dX0_wouldHear_74 : decode cX0_wouldHear 74 = .ok (.aload 4, 2) := do_25 (rdb (p := 64) (i := 10) ch_cX0_wouldHear_64 rfl) (rdb (p := 64) (i := 11) ch_cX0_wouldHear_64 rfl)
theorem dX0_wouldHear_76 : decode cX0_wouldHear 76 = .ok (.invokevirtual 130, 3) := do_182 (rdb (p := 64) (i := 12) ch_cX0_wouldHear_64 rfl) (rdb (p := 64) (i := 13) ch_cX0_wouldHear_64 rfl) (rdb (p := 64) (i := 14) ch_cX0_wouldHear_64 rfl) rfl
theorem dX0_wouldHear_79 : decode cX0_wouldHear 79 = .ok (.iconst 1, 1) := do_4 (rdb (p := 64) (i := 15) ch_cX0_wouldHear_64 rfl)
theorem dX0_wouldHear_80 : decode cX0_wouldHear 80 = .ok (.aload 4, 2) := do_25 (rdb (p := 64) (i := 16) ch_cX0_wouldHear_64 rfl) (rdb (p := 64) (i := 17) ch_cX0_wouldHear_64 rfl)
theorem dX0_wouldHear_82 : decode cX0_wouldHear 82 = .ok (.invokevirtual 133, 3) := do_182 (rdb (p := 64) (i := 18) ch_cX0_wouldHear_64 rfl) (rdb (p := 64) (i := 19) ch_cX0_wouldHear_64 rfl) (rdb (p := 64) (i := 20) ch_cX0_wouldHear_64 rfl) rfl
theorem dX0_wouldHear_85 : decode cX0_wouldHear 85 = .ok (.iload 6, 2) := do_21 (rdb (p := 64) (i := 21) ch_cX0_wouldHear_64 rfl) (rdb (p := 64) (i := 22) ch_cX0_wouldHear_64 rfl)
theorem dX0_wouldHear_87 : decode cX0_wouldHear 87 = .ok (.iload 5, 2) := do_21 (rdb (p := 64) (i := 23) ch_cX0_wouldHear_64 rfl) (rdb (p := 64) (i := 24) ch_cX0_wouldHear_64 rfl)
theorem dX0_wouldHear_89 : decode cX0_wouldHear 89 = .ok (.invokevirtual 136, 3) := do_182 (rdb (p := 64) (i := 25) ch_cX0_wouldHear_64 rfl) (rdb (p := 64) (i := 26) ch_cX0_wouldHear_64 rfl) (rdb (p := 64) (i := 27) ch_cX0_wouldHear_64 rfl) rfl
theorem dX0_wouldHear_92 : decode cX0_wouldHear 92 = .ok (.ireturn, 1) := do_172 (rdb (p := 64) (i := 28) ch_cX0_wouldHear_64 rfl)
theorem dX0_wouldHear_93 : decode cX0_wouldHear 93 = .ok (.iinc 6 1, 3) := do_132 (rdb (p := 64) (i := 29) ch_cX0_wouldHear_64 rfl) (rdb (p := 64) (i := 30) ch_cX0_wouldHear_64 rfl) (rdb (p := 64) (i := 31) ch_cX0_wouldHear_64 rfl) (by decide +kernel)
theorem ch_cX0_wouldHear_96 : (cX0_wouldHear.data.toList.drop 96).take 36 = [167, 255, 191, 132, 5, 1, 167, 255, 175, 3, 172] := by decide +kernel
theorem dX0_wouldHear_96 : decode cX0_wouldHear 96 = .ok (.goto (-65), 3) := do_167 (rdb (p := 96) (i := 0) ch_cX0_wouldHear_96 rfl) (rdb (p := 96) (i := 1) ch_cX0_wouldHear_96 rfl) (rdb (p := 96) (i := 2) ch_cX0_wouldHear_96 rfl) (by decide +kernel)
theorem dX0_wouldHear_99 : decode cX0_wouldHear 99 = .ok (.iinc 5 1, 3) := do_132 (rdb (p := 96) (i := 3) ch_cX0_wouldHear_96 rfl) (rdb (p := 96) (i := 4) ch_cX0_wouldHear_96 rfl) (rdb (p := 96) (i := 5) ch_cX0_wouldHear_96 rfl) (by decide +kernel)
theorem dX0_wouldHear_102 : decode cX0_wouldHear 102 = .ok (.goto (-81), 3) := do_167 (rdb (p := 96) (i := 6) ch_cX0_wouldHear_96 rfl) (rdb (p := 96) (i := 7) ch_cX0_wouldHear_96 rfl) (rdb (p := 96) (i := 8) ch_cX0_wouldHear_96 rfl) (by decide +kernel)
theorem dX0_wouldHear_105 : decode cX0_wouldHear 105 = .ok (.iconst 0, 1) := do_3 (rdb (p := 96) (i := 9) ch_cX0_wouldHear_96 rfl)
theorem dX0_wouldHear_106 : decode cX0_wouldHear 106 = .ok (.ireturn, 1) := do_172 (rdb (p := 96) (i := 10) ch_cX0_wouldHear_96 rfl)
end
