/-! words of the tables that are used, by their places; decode rows; classes -/
theorem m_460 : Cond.fieldLink RX11 16 "ClickStreet" "kept" "LClickStreet$World;" ∈ BASE := bmem 460 (by decide +kernel) rfl
theorem m_464 : Cond.fieldLink RX11 35 "ClickStreet" "reader" "LClickStreet$Reader;" ∈ BASE := bmem 464 (by decide +kernel) rfl
theorem m_466 : Cond.fieldLink RX11 49 "ClickStreet" "voices" "LClickStreet$Voices;" ∈ BASE := bmem 466 (by decide +kernel) rfl
theorem m_467 : Cond.fieldLink RX11 53 "ClickStreet" "images" "I" ∈ BASE := bmem 467 (by decide +kernel) rfl
theorem m_669 : Cond.methodLink RX11 196 yX5_room ∈ BASE := bmem 669 (by decide +kernel) rfl
theorem m_673 : Cond.methodLink RX11 201 yX5_add ∈ BASE := bmem 673 (by decide +kernel) rfl
theorem m_674 : Cond.instanceMethod yX5_add ∈ BASE := bmem 674 (by decide +kernel) rfl
theorem m_675 : Cond.selects yX5_add.cls yX5_add yX5_add ∈ BASE := bmem 675 (by decide +kernel) rfl
theorem m_676 : Cond.code yX5_add cX5_add 2 none ∈ BASE := bmem 676 (by decide +kernel) rfl
theorem m_681 : Cond.methodLink RX11 206 yX4_read ∈ BASE := bmem 681 (by decide +kernel) rfl
theorem m_682 : Cond.instanceMethod yX4_read ∈ BASE := bmem 682 (by decide +kernel) rfl
theorem m_683 : Cond.selects yX4_read.cls yX4_read yX4_read ∈ BASE := bmem 683 (by decide +kernel) rfl
theorem m_684 : Cond.code yX4_read cX4_read 3 (some .int) ∈ BASE := bmem 684 (by decide +kernel) rfl
theorem m_831 : Cond.methodLink RX11 224 yX5_clear ∈ BASE := bmem 831 (by decide +kernel) rfl
theorem m_1025 : Cond.methodLink RX11 293 yX10_passTenth ∈ BASE := bmem 1025 (by decide +kernel) rfl
theorem m_1026 : Cond.instanceMethod yX10_passTenth ∈ BASE := bmem 1026 (by decide +kernel) rfl
theorem m_1027 : Cond.selects yX10_passTenth.cls yX10_passTenth yX10_passTenth ∈ BASE := bmem 1027 (by decide +kernel) rfl
theorem m_1028 : Cond.code yX10_passTenth cX10_passTenth 2 none ∈ BASE := bmem 1028 (by decide +kernel) rfl
theorem m_1114 : Cond.methodLink RX11 310 yX11_isBits ∈ BASE := bmem 1114 (by decide +kernel) rfl
theorem m_1115 : Cond.static yX11_isBits ∈ BASE := bmem 1115 (by decide +kernel) rfl
theorem m_1116 : Cond.code yX11_isBits cX11_isBits 1 (some .boolean) ∈ BASE := bmem 1116 (by decide +kernel) rfl
theorem m_1117 : Cond.methodLink RX11 317 yX3_hasRoom ∈ BASE := bmem 1117 (by decide +kernel) rfl
theorem m_1118 : Cond.instanceMethod yX3_hasRoom ∈ BASE := bmem 1118 (by decide +kernel) rfl
theorem m_1119 : Cond.selects yX3_hasRoom.cls yX3_hasRoom yX3_hasRoom ∈ BASE := bmem 1119 (by decide +kernel) rfl
theorem m_1120 : Cond.code yX3_hasRoom cX3_hasRoom 1 (some .boolean) ∈ BASE := bmem 1120 (by decide +kernel) rfl
theorem m_1121 : Cond.methodLink RX11 320 yX3_add ∈ BASE := bmem 1121 (by decide +kernel) rfl
theorem m_1122 : Cond.instanceMethod yX3_add ∈ BASE := bmem 1122 (by decide +kernel) rfl
theorem m_1123 : Cond.selects yX3_add.cls yX3_add yX3_add ∈ BASE := bmem 1123 (by decide +kernel) rfl
theorem m_1124 : Cond.code yX3_add cX3_add 5 (some .int) ∈ BASE := bmem 1124 (by decide +kernel) rfl
theorem m_1129 : Cond.methodLink RX11 322 yX3_findRow ∈ BASE := bmem 1129 (by decide +kernel) rfl
theorem m_1130 : Cond.instanceMethod yX3_findRow ∈ BASE := bmem 1130 (by decide +kernel) rfl
theorem m_1131 : Cond.selects yX3_findRow.cls yX3_findRow yX3_findRow ∈ BASE := bmem 1131 (by decide +kernel) rfl
theorem m_1132 : Cond.code yX3_findRow cX3_findRow 3 (some .boolean) ∈ BASE := bmem 1132 (by decide +kernel) rfl
theorem m_1214 : Cond.methodLink RX11 356 yX5_has ∈ BASE := bmem 1214 (by decide +kernel) rfl
theorem m_1215 : Cond.instanceMethod yX5_has ∈ BASE := bmem 1215 (by decide +kernel) rfl
theorem m_1216 : Cond.selects yX5_has.cls yX5_has yX5_has ∈ BASE := bmem 1216 (by decide +kernel) rfl
theorem m_1217 : Cond.code yX5_has cX5_has 2 (some .boolean) ∈ BASE := bmem 1217 (by decide +kernel) rfl
theorem m_1222 : Cond.methodLink RX11 359 yX6_drop ∈ BASE := bmem 1222 (by decide +kernel) rfl
theorem m_1223 : Cond.instanceMethod yX6_drop ∈ BASE := bmem 1223 (by decide +kernel) rfl
theorem m_1224 : Cond.selects yX6_drop.cls yX6_drop yX6_drop ∈ BASE := bmem 1224 (by decide +kernel) rfl
theorem m_1225 : Cond.code yX6_drop cX6_drop 1 none ∈ BASE := bmem 1225 (by decide +kernel) rfl
theorem m_1226 : Cond.methodLink RX11 362 yX6_begin ∈ BASE := bmem 1226 (by decide +kernel) rfl
theorem m_1227 : Cond.instanceMethod yX6_begin ∈ BASE := bmem 1227 (by decide +kernel) rfl
theorem m_1228 : Cond.selects yX6_begin.cls yX6_begin yX6_begin ∈ BASE := bmem 1228 (by decide +kernel) rfl
theorem m_1229 : Cond.code yX6_begin cX6_begin 4 none ∈ BASE := bmem 1229 (by decide +kernel) rfl
theorem m_1254 : Cond.methodLink RX11 382 yX10_takeFrom ∈ BASE := bmem 1254 (by decide +kernel) rfl
theorem m_1255 : Cond.instanceMethod yX10_takeFrom ∈ BASE := bmem 1255 (by decide +kernel) rfl
theorem m_1256 : Cond.selects yX10_takeFrom.cls yX10_takeFrom yX10_takeFrom ∈ BASE := bmem 1256 (by decide +kernel) rfl
theorem m_1257 : Cond.code yX10_takeFrom cX10_takeFrom 3 none ∈ BASE := bmem 1257 (by decide +kernel) rfl
theorem m_1296 : Cond.methodLink RX11 388 yX7_countThings ∈ BASE := bmem 1296 (by decide +kernel) rfl
theorem m_1297 : Cond.instanceMethod yX7_countThings ∈ BASE := bmem 1297 (by decide +kernel) rfl
theorem m_1298 : Cond.selects yX7_countThings.cls yX7_countThings yX7_countThings ∈ BASE := bmem 1298 (by decide +kernel) rfl
theorem m_1299 : Cond.code yX7_countThings cX7_countThings 3 (some .int) ∈ BASE := bmem 1299 (by decide +kernel) rfl
theorem m_1300 : Cond.methodLink RX11 392 yX10_countBumps ∈ BASE := bmem 1300 (by decide +kernel) rfl
theorem m_1301 : Cond.instanceMethod yX10_countBumps ∈ BASE := bmem 1301 (by decide +kernel) rfl
theorem m_1302 : Cond.selects yX10_countBumps.cls yX10_countBumps yX10_countBumps ∈ BASE := bmem 1302 (by decide +kernel) rfl
theorem m_1303 : Cond.code yX10_countBumps cX10_countBumps 3 (some .int) ∈ BASE := bmem 1303 (by decide +kernel) rfl
theorem m_1304 : Cond.methodLink RX11 395 yX10_countClicks ∈ BASE := bmem 1304 (by decide +kernel) rfl
theorem m_1305 : Cond.instanceMethod yX10_countClicks ∈ BASE := bmem 1305 (by decide +kernel) rfl
theorem m_1306 : Cond.selects yX10_countClicks.cls yX10_countClicks yX10_countClicks ∈ BASE := bmem 1306 (by decide +kernel) rfl
theorem m_1307 : Cond.code yX10_countClicks cX10_countClicks 3 (some .int) ∈ BASE := bmem 1307 (by decide +kernel) rfl
theorem kS_X11_isBits : KS yX11_isBits cX11_isBits 1 (some .boolean) 1 := ⟨m_1115, m_79, m_1116, by decide +kernel, by decide +kernel, by decide +kernel⟩
theorem kV_X10_countBumps : KV yX10_countBumps cX10_countBumps 3 (some .int) 0 := ⟨m_1301, m_1302, m_80, m_1303, by decide +kernel, by decide +kernel, by decide +kernel⟩
theorem kV_X10_countClicks : KV yX10_countClicks cX10_countClicks 3 (some .int) 0 := ⟨m_1305, m_1306, m_80, m_1307, by decide +kernel, by decide +kernel, by decide +kernel⟩
theorem kV_X10_passTenth : KV yX10_passTenth cX10_passTenth 2 none 0 := ⟨m_1026, m_1027, m_80, m_1028, by decide +kernel, by decide +kernel, by decide +kernel⟩
theorem kV_X10_takeFrom : KV yX10_takeFrom cX10_takeFrom 3 none 1 := ⟨m_1255, m_1256, m_80, m_1257, by decide +kernel, by decide +kernel, by decide +kernel⟩
theorem kV_X3_add : KV yX3_add cX3_add 5 (some .int) 3 := ⟨m_1122, m_1123, m_84, m_1124, by decide +kernel, by decide +kernel, by decide +kernel⟩
theorem kV_X3_findRow : KV yX3_findRow cX3_findRow 3 (some .boolean) 2 := ⟨m_1130, m_1131, m_84, m_1132, by decide +kernel, by decide +kernel, by decide +kernel⟩
theorem kV_X3_hasRoom : KV yX3_hasRoom cX3_hasRoom 1 (some .boolean) 0 := ⟨m_1118, m_1119, m_84, m_1120, by decide +kernel, by decide +kernel, by decide +kernel⟩
theorem kV_X4_read : KV yX4_read cX4_read 3 (some .int) 2 := ⟨m_682, m_683, m_88, m_684, by decide +kernel, by decide +kernel, by decide +kernel⟩
theorem kV_X5_add : KV yX5_add cX5_add 2 none 1 := ⟨m_674, m_675, m_85, m_676, by decide +kernel, by decide +kernel, by decide +kernel⟩
theorem kV_X5_has : KV yX5_has cX5_has 2 (some .boolean) 1 := ⟨m_1215, m_1216, m_85, m_1217, by decide +kernel, by decide +kernel, by decide +kernel⟩
theorem kV_X6_begin : KV yX6_begin cX6_begin 4 none 2 := ⟨m_1227, m_1228, m_91, m_1229, by decide +kernel, by decide +kernel, by decide +kernel⟩
theorem kV_X6_drop : KV yX6_drop cX6_drop 1 none 0 := ⟨m_1223, m_1224, m_91, m_1225, by decide +kernel, by decide +kernel, by decide +kernel⟩
theorem kV_X7_countThings : KV yX7_countThings cX7_countThings 3 (some .int) 0 := ⟨m_1297, m_1298, m_81, m_1299, by decide +kernel, by decide +kernel, by decide +kernel⟩
theorem nf_RX11_192 {G : va_G} {cy : Nat → ClassId} {sk : Nat → Nat} {s : State} {args : Array Value} (h : EN G cy sk s) : (Cond.fieldLinkNest RX11 192 "ClickStreet$World" "tape" "LClickStreet$Row;" "ClickStreet").before args s = true := va_Nw.use rfl (h.2.1 _ (List.mem_of_getElem? (l := NFs) (i := 35) rfl))
theorem nf_RX11_205 {G : va_G} {cy : Nat → ClassId} {sk : Nat → Nat} {s : State} {args : Array Value} (h : EN G cy sk s) : (Cond.fieldLinkNest RX11 205 "ClickStreet$Row" "size" "I" "ClickStreet").before args s = true := va_Nw.use rfl (h.2.1 _ (List.mem_of_getElem? (l := NFs) (i := 9) rfl))
theorem nf_RX11_290 {G : va_G} {cy : Nat → ClassId} {sk : Nat → Nat} {s : State} {args : Array Value} (h : EN G cy sk s) : (Cond.fieldLinkNest RX11 290 "ClickStreet$World" "now" "I" "ClickStreet").before args s = true := va_Nw.use rfl (h.2.1 _ (List.mem_of_getElem? (l := NFs) (i := 40) rfl))
theorem nf_RX11_313 {G : va_G} {cy : Nat → ClassId} {sk : Nat → Nat} {s : State} {args : Array Value} (h : EN G cy sk s) : (Cond.fieldLinkNest RX11 313 "ClickStreet$World" "lessons" "LClickStreet$Lessons;" "ClickStreet").before args s = true := va_Nw.use rfl (h.2.1 _ (List.mem_of_getElem? (l := NFs) (i := 34) rfl))
theorem nf_RX11_325 {G : va_G} {cy : Nat → ClassId} {sk : Nat → Nat} {s : State} {args : Array Value} (h : EN G cy sk s) : (Cond.fieldLinkNest RX11 325 "ClickStreet$Lessons" "fewestMinutes" "I" "ClickStreet").before args s = true := va_Nw.use rfl (h.2.1 _ (List.mem_of_getElem? (l := NFs) (i := 12) rfl))
theorem nf_RX11_328 {G : va_G} {cy : Nat → ClassId} {sk : Nat → Nat} {s : State} {args : Array Value} (h : EN G cy sk s) : (Cond.fieldLinkNest RX11 328 "ClickStreet$Lessons" "best" "LClickStreet$Row;" "ClickStreet").before args s = true := va_Nw.use rfl (h.2.1 _ (List.mem_of_getElem? (l := NFs) (i := 11) rfl))
theorem nf_RX11_353 {G : va_G} {cy : Nat → ClassId} {sk : Nat → Nat} {s : State} {args : Array Value} (h : EN G cy sk s) : (Cond.fieldLinkNest RX11 353 "ClickStreet$Voices" "trace" "LClickStreet$Row;" "ClickStreet").before args s = true := va_Nw.use rfl (h.2.1 _ (List.mem_of_getElem? (l := NFs) (i := 44) rfl))
theorem nf_RX11_385 {G : va_G} {cy : Nat → ClassId} {sk : Nat → Nat} {s : State} {args : Array Value} (h : EN G cy sk s) : (Cond.fieldLinkNest RX11 385 "ClickStreet$World" "waiting" "LClickStreet$Row;" "ClickStreet").before args s = true := va_Nw.use rfl (h.2.1 _ (List.mem_of_getElem? (l := NFs) (i := 36) rfl))
theorem nf_RX11_391 {G : va_G} {cy : Nat → ClassId} {sk : Nat → Nat} {s : State} {args : Array Value} (h : EN G cy sk s) : (Cond.fieldLinkNest RX11 391 "ClickStreet$Lessons" "size" "I" "ClickStreet").before args s = true := va_Nw.use rfl (h.2.1 _ (List.mem_of_getElem? (l := NFs) (i := 10) rfl))
/-! decode rows -/
theorem dX11_check_0 : decode cX11_check 0 = .ok (.aload_n 0, 1) := by decide +kernel
theorem dX11_check_1 : decode cX11_check 1 = .ok (.getfield 10, 3) := by decide +kernel
theorem dX11_check_4 : decode cX11_check 4 = .ok (.iload_n 1, 1) := by decide +kernel
theorem dX11_check_5 : decode cX11_check 5 = .ok (.invokevirtual 154, 3) := by decide +kernel
theorem dX11_check_8 : decode cX11_check 8 = .ok (.ifCond .ne 19, 3) := by decide +kernel
theorem dX11_check_11 : decode cX11_check 11 = .ok (.aload_n 0, 1) := by decide +kernel
theorem dX11_check_12 : decode cX11_check 12 = .ok (.getfield 10, 3) := by decide +kernel
theorem dX11_check_15 : decode cX11_check 15 = .ok (.getfield 385, 3) := by decide +kernel
theorem dX11_check_18 : decode cX11_check 18 = .ok (.invokevirtual 224, 3) := by decide +kernel
theorem dX11_check_21 : decode cX11_check 21 = .ok (.aload_n 0, 1) := by decide +kernel
theorem dX11_check_22 : decode cX11_check 22 = .ok (.iconst 1, 1) := by decide +kernel
theorem dX11_check_23 : decode cX11_check 23 = .ok (.invokevirtual 67, 3) := by decide +kernel
theorem dX11_check_26 : decode cX11_check 26 = .ok (.ireturn, 1) := by decide +kernel
theorem dX11_count_0 : decode cX11_count 0 = .ok (.iload_n 1, 1) := by decide +kernel
theorem dX11_count_1 : decode cX11_count 1 = .ok (.tableswitch 138 0 8 #[51, 59, 70, 78, 89, 100, 111, 122, 130], 51) := by decide +kernel
theorem dX11_count_52 : decode cX11_count 52 = .ok (.aload_n 0, 1) := by decide +kernel
theorem dX11_count_53 : decode cX11_count 53 = .ok (.getfield 10, 3) := by decide +kernel
theorem dX11_count_56 : decode cX11_count 56 = .ok (.getfield 290, 3) := by decide +kernel
theorem dX11_count_59 : decode cX11_count 59 = .ok (.ireturn, 1) := by decide +kernel
theorem dX11_count_60 : decode cX11_count 60 = .ok (.aload_n 0, 1) := by decide +kernel
theorem dX11_count_61 : decode cX11_count 61 = .ok (.getfield 10, 3) := by decide +kernel
theorem dX11_count_64 : decode cX11_count 64 = .ok (.getfield 71, 3) := by decide +kernel
theorem dX11_count_67 : decode cX11_count 67 = .ok (.invokevirtual 388, 3) := by decide +kernel
theorem dX11_count_70 : decode cX11_count 70 = .ok (.ireturn, 1) := by decide +kernel
theorem dX11_count_71 : decode cX11_count 71 = .ok (.aload_n 0, 1) := by decide +kernel
theorem dX11_count_72 : decode cX11_count 72 = .ok (.getfield 10, 3) := by decide +kernel
theorem dX11_count_75 : decode cX11_count 75 = .ok (.getfield 148, 3) := by decide +kernel
theorem dX11_count_78 : decode cX11_count 78 = .ok (.ireturn, 1) := by decide +kernel
theorem dX11_count_79 : decode cX11_count 79 = .ok (.aload_n 0, 1) := by decide +kernel
theorem dX11_count_80 : decode cX11_count 80 = .ok (.getfield 10, 3) := by decide +kernel
theorem dX11_count_83 : decode cX11_count 83 = .ok (.getfield 313, 3) := by decide +kernel
theorem dX11_count_86 : decode cX11_count 86 = .ok (.getfield 391, 3) := by decide +kernel
theorem dX11_count_89 : decode cX11_count 89 = .ok (.ireturn, 1) := by decide +kernel
theorem dX11_count_90 : decode cX11_count 90 = .ok (.aload_n 0, 1) := by decide +kernel
theorem dX11_count_91 : decode cX11_count 91 = .ok (.getfield 10, 3) := by decide +kernel
theorem dX11_count_94 : decode cX11_count 94 = .ok (.getfield 192, 3) := by decide +kernel
theorem dX11_count_97 : decode cX11_count 97 = .ok (.getfield 205, 3) := by decide +kernel
theorem dX11_count_100 : decode cX11_count 100 = .ok (.ireturn, 1) := by decide +kernel
theorem dX11_count_101 : decode cX11_count 101 = .ok (.aload_n 0, 1) := by decide +kernel
theorem dX11_count_102 : decode cX11_count 102 = .ok (.getfield 10, 3) := by decide +kernel
theorem dX11_count_105 : decode cX11_count 105 = .ok (.getfield 385, 3) := by decide +kernel
theorem dX11_count_108 : decode cX11_count 108 = .ok (.getfield 205, 3) := by decide +kernel
theorem dX11_count_111 : decode cX11_count 111 = .ok (.ireturn, 1) := by decide +kernel
theorem dX11_count_112 : decode cX11_count 112 = .ok (.aload_n 0, 1) := by decide +kernel
theorem dX11_count_113 : decode cX11_count 113 = .ok (.getfield 49, 3) := by decide +kernel
theorem dX11_count_116 : decode cX11_count 116 = .ok (.getfield 353, 3) := by decide +kernel
theorem dX11_count_119 : decode cX11_count 119 = .ok (.getfield 205, 3) := by decide +kernel
theorem dX11_count_122 : decode cX11_count 122 = .ok (.ireturn, 1) := by decide +kernel
theorem dX11_count_123 : decode cX11_count 123 = .ok (.aload_n 0, 1) := by decide +kernel
theorem dX11_count_124 : decode cX11_count 124 = .ok (.getfield 10, 3) := by decide +kernel
theorem dX11_count_127 : decode cX11_count 127 = .ok (.invokevirtual 392, 3) := by decide +kernel
theorem dX11_count_130 : decode cX11_count 130 = .ok (.ireturn, 1) := by decide +kernel
theorem dX11_count_131 : decode cX11_count 131 = .ok (.aload_n 0, 1) := by decide +kernel
theorem dX11_count_132 : decode cX11_count 132 = .ok (.getfield 10, 3) := by decide +kernel
theorem dX11_count_135 : decode cX11_count 135 = .ok (.invokevirtual 395, 3) := by decide +kernel
theorem dX11_count_138 : decode cX11_count 138 = .ok (.ireturn, 1) := by decide +kernel
theorem dX11_count_139 : decode cX11_count 139 = .ok (.aload_n 0, 1) := by decide +kernel
theorem dX11_count_140 : decode cX11_count 140 = .ok (.iconst 1, 1) := by decide +kernel
theorem dX11_count_141 : decode cX11_count 141 = .ok (.invokevirtual 67, 3) := by decide +kernel
theorem dX11_count_144 : decode cX11_count 144 = .ok (.ireturn, 1) := by decide +kernel
theorem dX11_feed_0 : decode cX11_feed 0 = .ok (.iload_n 3, 1) := by decide +kernel
theorem dX11_feed_1 : decode cX11_feed 1 = .ok (.iconst 1, 1) := by decide +kernel
theorem dX11_feed_2 : decode cX11_feed 2 = .ok (.bipush 8, 2) := by decide +kernel
theorem dX11_feed_4 : decode cX11_feed 4 = .ok (.invokestatic 89, 3) := by decide +kernel
theorem dX11_feed_7 : decode cX11_feed 7 = .ok (.ifCond .ne 9, 3) := by decide +kernel
theorem dX11_feed_10 : decode cX11_feed 10 = .ok (.aload_n 0, 1) := by decide +kernel
theorem dX11_feed_11 : decode cX11_feed 11 = .ok (.iconst 1, 1) := by decide +kernel
theorem dX11_feed_12 : decode cX11_feed 12 = .ok (.invokevirtual 67, 3) := by decide +kernel
theorem dX11_feed_15 : decode cX11_feed 15 = .ok (.ireturn, 1) := by decide +kernel
theorem dX11_feed_16 : decode cX11_feed 16 = .ok (.aload_n 0, 1) := by decide +kernel
theorem dX11_feed_17 : decode cX11_feed 17 = .ok (.getfield 10, 3) := by decide +kernel
theorem dX11_feed_20 : decode cX11_feed 20 = .ok (.getfield 192, 3) := by decide +kernel
theorem dX11_feed_23 : decode cX11_feed 23 = .ok (.invokevirtual 196, 3) := by decide +kernel
theorem dX11_feed_26 : decode cX11_feed 26 = .ok (.iload_n 3, 1) := by decide +kernel
theorem dX11_feed_27 : decode cX11_feed 27 = .ok (.if_icmp .ge 9, 3) := by decide +kernel
theorem dX11_feed_36 : decode cX11_feed 36 = .ok (.iconst 0, 1) := by decide +kernel
theorem dX11_feed_37 : decode cX11_feed 37 = .ok (.istore 4, 2) := by decide +kernel
theorem dX11_feed_39 : decode cX11_feed 39 = .ok (.iload 4, 2) := by decide +kernel
theorem dX11_feed_41 : decode cX11_feed 41 = .ok (.iload_n 3, 1) := by decide +kernel
theorem dX11_feed_42 : decode cX11_feed 42 = .ok (.if_icmp .ge 31, 3) := by decide +kernel
theorem dX11_feed_45 : decode cX11_feed 45 = .ok (.aload_n 0, 1) := by decide +kernel
theorem dX11_feed_46 : decode cX11_feed 46 = .ok (.getfield 10, 3) := by decide +kernel
theorem dX11_feed_49 : decode cX11_feed 49 = .ok (.getfield 192, 3) := by decide +kernel
theorem dX11_feed_52 : decode cX11_feed 52 = .ok (.lload_n 1, 1) := by decide +kernel
theorem dX11_feed_53 : decode cX11_feed 53 = .ok (.bipush 8, 2) := by decide +kernel
theorem dX11_feed_55 : decode cX11_feed 55 = .ok (.iload 4, 2) := by decide +kernel
theorem dX11_feed_57 : decode cX11_feed 57 = .ok (.imul, 1) := by decide +kernel
theorem dX11_feed_58 : decode cX11_feed 58 = .ok (.lushr, 1) := by decide +kernel
theorem dX11_feed_59 : decode cX11_feed 59 = .ok (.l2i, 1) := by decide +kernel
theorem dX11_feed_60 : decode cX11_feed 60 = .ok (.sipush 255, 3) := by decide +kernel
theorem dX11_feed_63 : decode cX11_feed 63 = .ok (.iand, 1) := by decide +kernel
theorem dX11_feed_64 : decode cX11_feed 64 = .ok (.invokevirtual 201, 3) := by decide +kernel
theorem dX11_feed_67 : decode cX11_feed 67 = .ok (.iinc 4 1, 3) := by decide +kernel
theorem dX11_feed_70 : decode cX11_feed 70 = .ok (.goto (-31), 3) := by decide +kernel
theorem dX11_feed_73 : decode cX11_feed 73 = .ok (.aload_n 0, 1) := by decide +kernel
theorem dX11_feed_74 : decode cX11_feed 74 = .ok (.getfield 10, 3) := by decide +kernel
theorem dX11_feed_77 : decode cX11_feed 77 = .ok (.getfield 192, 3) := by decide +kernel
theorem dX11_feed_80 : decode cX11_feed 80 = .ok (.getfield 205, 3) := by decide +kernel
theorem dX11_feed_83 : decode cX11_feed 83 = .ok (.ireturn, 1) := by decide +kernel
theorem dX11_image_0 : decode cX11_image 0 = .ok (.aload_n 0, 1) := by decide +kernel
theorem dX11_image_1 : decode cX11_image 1 = .ok (.getfield 16, 3) := by decide +kernel
theorem dX11_image_4 : decode cX11_image 4 = .ok (.aload_n 0, 1) := by decide +kernel
theorem dX11_image_5 : decode cX11_image 5 = .ok (.getfield 10, 3) := by decide +kernel
theorem dX11_image_8 : decode cX11_image 8 = .ok (.invokevirtual 382, 3) := by decide +kernel
theorem dX11_image_11 : decode cX11_image 11 = .ok (.aload_n 0, 1) := by decide +kernel
theorem dX11_image_12 : decode cX11_image 12 = .ok (.dup, 1) := by decide +kernel
theorem dX11_image_13 : decode cX11_image 13 = .ok (.getfield 53, 3) := by decide +kernel
theorem dX11_image_16 : decode cX11_image 16 = .ok (.iconst 1, 1) := by decide +kernel
theorem dX11_image_17 : decode cX11_image 17 = .ok (.iadd, 1) := by decide +kernel
theorem dX11_image_18 : decode cX11_image 18 = .ok (.putfield 53, 3) := by decide +kernel
theorem dX11_image_21 : decode cX11_image 21 = .ok (.aload_n 0, 1) := by decide +kernel
theorem dX11_image_22 : decode cX11_image 22 = .ok (.getfield 53, 3) := by decide +kernel
theorem dX11_image_25 : decode cX11_image 25 = .ok (.ireturn, 1) := by decide +kernel
theorem dX11_learn_0 : decode cX11_learn 0 = .ok (.iload_n 1, 1) := by decide +kernel
theorem dX11_learn_1 : decode cX11_learn 1 = .ok (.invokestatic 310, 3) := by decide +kernel
theorem dX11_learn_4 : decode cX11_learn 4 = .ok (.ifCond .eq 16, 3) := by decide +kernel
theorem dX11_learn_7 : decode cX11_learn 7 = .ok (.iload_n 2, 1) := by decide +kernel
theorem dX11_learn_8 : decode cX11_learn 8 = .ok (.invokestatic 310, 3) := by decide +kernel
theorem dX11_learn_11 : decode cX11_learn 11 = .ok (.ifCond .eq 9, 3) := by decide +kernel
theorem dX11_learn_14 : decode cX11_learn 14 = .ok (.iload_n 3, 1) := by decide +kernel
theorem dX11_learn_15 : decode cX11_learn 15 = .ok (.bipush (-2), 2) := by decide +kernel
theorem dX11_learn_17 : decode cX11_learn 17 = .ok (.if_icmp .ge 9, 3) := by decide +kernel
theorem dX11_learn_20 : decode cX11_learn 20 = .ok (.aload_n 0, 1) := by decide +kernel
theorem dX11_learn_21 : decode cX11_learn 21 = .ok (.iconst 1, 1) := by decide +kernel
theorem dX11_learn_22 : decode cX11_learn 22 = .ok (.invokevirtual 67, 3) := by decide +kernel
theorem dX11_learn_25 : decode cX11_learn 25 = .ok (.ireturn, 1) := by decide +kernel
theorem dX11_learn_26 : decode cX11_learn 26 = .ok (.aload_n 0, 1) := by decide +kernel
theorem dX11_learn_27 : decode cX11_learn 27 = .ok (.getfield 10, 3) := by decide +kernel
theorem dX11_learn_30 : decode cX11_learn 30 = .ok (.getfield 313, 3) := by decide +kernel
theorem dX11_learn_33 : decode cX11_learn 33 = .ok (.astore 4, 2) := by decide +kernel
theorem dX11_learn_35 : decode cX11_learn 35 = .ok (.aload 4, 2) := by decide +kernel
theorem dX11_learn_37 : decode cX11_learn 37 = .ok (.iload_n 1, 1) := by decide +kernel
theorem dX11_learn_38 : decode cX11_learn 38 = .ok (.iload_n 2, 1) := by decide +kernel
theorem dX11_learn_39 : decode cX11_learn 39 = .ok (.invokevirtual 322, 3) := by decide +kernel
theorem dX11_learn_42 : decode cX11_learn 42 = .ok (.ifCond .ne 9, 3) := by decide +kernel
theorem dX11_learn_45 : decode cX11_learn 45 = .ok (.aload_n 0, 1) := by decide +kernel
theorem dX11_learn_46 : decode cX11_learn 46 = .ok (.iconst 2, 1) := by decide +kernel
theorem dX11_learn_47 : decode cX11_learn 47 = .ok (.invokevirtual 67, 3) := by decide +kernel
theorem dX11_learn_50 : decode cX11_learn 50 = .ok (.ireturn, 1) := by decide +kernel
theorem dX11_learn_51 : decode cX11_learn 51 = .ok (.iload_n 3, 1) := by decide +kernel
theorem dX11_learn_52 : decode cX11_learn 52 = .ok (.iconst (-1), 1) := by decide +kernel
theorem dX11_learn_53 : decode cX11_learn 53 = .ok (.if_icmp .ne 9, 3) := by decide +kernel
theorem dX11_learn_56 : decode cX11_learn 56 = .ok (.aload 4, 2) := by decide +kernel
theorem dX11_learn_58 : decode cX11_learn 58 = .ok (.getfield 325, 3) := by decide +kernel
theorem dX11_learn_61 : decode cX11_learn 61 = .ok (.ireturn, 1) := by decide +kernel
theorem dX11_learn_62 : decode cX11_learn 62 = .ok (.iload_n 3, 1) := by decide +kernel
theorem dX11_learn_63 : decode cX11_learn 63 = .ok (.bipush (-2), 2) := by decide +kernel
theorem dX11_learn_65 : decode cX11_learn 65 = .ok (.if_icmp .ne 12, 3) := by decide +kernel
theorem dX11_learn_68 : decode cX11_learn 68 = .ok (.aload 4, 2) := by decide +kernel
theorem dX11_learn_70 : decode cX11_learn 70 = .ok (.getfield 328, 3) := by decide +kernel
theorem dX11_learn_73 : decode cX11_learn 73 = .ok (.getfield 205, 3) := by decide +kernel
theorem dX11_learn_76 : decode cX11_learn 76 = .ok (.ireturn, 1) := by decide +kernel
theorem dX11_learn_77 : decode cX11_learn 77 = .ok (.iload_n 3, 1) := by decide +kernel
theorem dX11_learn_78 : decode cX11_learn 78 = .ok (.aload 4, 2) := by decide +kernel
theorem dX11_learn_80 : decode cX11_learn 80 = .ok (.getfield 328, 3) := by decide +kernel
theorem dX11_learn_83 : decode cX11_learn 83 = .ok (.getfield 205, 3) := by decide +kernel
theorem dX11_learn_86 : decode cX11_learn 86 = .ok (.if_icmp .ge 15, 3) := by decide +kernel
theorem dX11_learn_101 : decode cX11_learn 101 = .ok (.aload_n 0, 1) := by decide +kernel
theorem dX11_learn_102 : decode cX11_learn 102 = .ok (.iconst 2, 1) := by decide +kernel
theorem dX11_learn_103 : decode cX11_learn 103 = .ok (.invokevirtual 67, 3) := by decide +kernel
theorem dX11_learn_106 : decode cX11_learn 106 = .ok (.ireturn, 1) := by decide +kernel
theorem dX11_lesson_0 : decode cX11_lesson 0 = .ok (.iload_n 1, 1) := by decide +kernel
theorem dX11_lesson_1 : decode cX11_lesson 1 = .ok (.invokestatic 310, 3) := by decide +kernel
theorem dX11_lesson_4 : decode cX11_lesson 4 = .ok (.ifCond .eq 20, 3) := by decide +kernel
theorem dX11_lesson_7 : decode cX11_lesson 7 = .ok (.iload_n 2, 1) := by decide +kernel
theorem dX11_lesson_8 : decode cX11_lesson 8 = .ok (.invokestatic 310, 3) := by decide +kernel
theorem dX11_lesson_11 : decode cX11_lesson 11 = .ok (.ifCond .eq 13, 3) := by decide +kernel
theorem dX11_lesson_14 : decode cX11_lesson 14 = .ok (.iload_n 3, 1) := by decide +kernel
theorem dX11_lesson_15 : decode cX11_lesson 15 = .ok (.iconst 1, 1) := by decide +kernel
theorem dX11_lesson_16 : decode cX11_lesson 16 = .ok (.bipush 99, 2) := by decide +kernel
theorem dX11_lesson_18 : decode cX11_lesson 18 = .ok (.invokestatic 89, 3) := by decide +kernel
theorem dX11_lesson_21 : decode cX11_lesson 21 = .ok (.ifCond .ne 9, 3) := by decide +kernel
theorem dX11_lesson_24 : decode cX11_lesson 24 = .ok (.aload_n 0, 1) := by decide +kernel
theorem dX11_lesson_25 : decode cX11_lesson 25 = .ok (.iconst 1, 1) := by decide +kernel
theorem dX11_lesson_26 : decode cX11_lesson 26 = .ok (.invokevirtual 67, 3) := by decide +kernel
theorem dX11_lesson_29 : decode cX11_lesson 29 = .ok (.ireturn, 1) := by decide +kernel
theorem dX11_lesson_30 : decode cX11_lesson 30 = .ok (.aload_n 0, 1) := by decide +kernel
theorem dX11_lesson_31 : decode cX11_lesson 31 = .ok (.getfield 10, 3) := by decide +kernel
theorem dX11_lesson_34 : decode cX11_lesson 34 = .ok (.getfield 313, 3) := by decide +kernel
theorem dX11_lesson_37 : decode cX11_lesson 37 = .ok (.invokevirtual 317, 3) := by decide +kernel
theorem dX11_lesson_40 : decode cX11_lesson 40 = .ok (.ifCond .ne 9, 3) := by decide +kernel
theorem dX11_lesson_49 : decode cX11_lesson 49 = .ok (.aload_n 0, 1) := by decide +kernel
theorem dX11_lesson_50 : decode cX11_lesson 50 = .ok (.getfield 10, 3) := by decide +kernel
theorem dX11_lesson_53 : decode cX11_lesson 53 = .ok (.getfield 313, 3) := by decide +kernel
theorem dX11_lesson_56 : decode cX11_lesson 56 = .ok (.iload_n 1, 1) := by decide +kernel
theorem dX11_lesson_57 : decode cX11_lesson 57 = .ok (.iload_n 2, 1) := by decide +kernel
theorem dX11_lesson_58 : decode cX11_lesson 58 = .ok (.iload_n 3, 1) := by decide +kernel
theorem dX11_lesson_59 : decode cX11_lesson 59 = .ok (.invokevirtual 320, 3) := by decide +kernel
theorem dX11_lesson_62 : decode cX11_lesson 62 = .ok (.ireturn, 1) := by decide +kernel
theorem dX11_move_0 : decode cX11_move 0 = .ok (.iload_n 1, 1) := by decide +kernel
theorem dX11_move_1 : decode cX11_move 1 = .ok (.invokestatic 127, 3) := by decide +kernel
theorem dX11_move_4 : decode cX11_move 4 = .ok (.ifCond .eq 10, 3) := by decide +kernel
theorem dX11_move_7 : decode cX11_move 7 = .ok (.iload_n 3, 1) := by decide +kernel
theorem dX11_move_8 : decode cX11_move 8 = .ok (.invokestatic 127, 3) := by decide +kernel
theorem dX11_move_11 : decode cX11_move 11 = .ok (.ifCond .ne 9, 3) := by decide +kernel
theorem dX11_move_14 : decode cX11_move 14 = .ok (.aload_n 0, 1) := by decide +kernel
theorem dX11_move_15 : decode cX11_move 15 = .ok (.iconst 1, 1) := by decide +kernel
theorem dX11_move_16 : decode cX11_move 16 = .ok (.invokevirtual 67, 3) := by decide +kernel
theorem dX11_move_19 : decode cX11_move 19 = .ok (.ireturn, 1) := by decide +kernel
theorem dX11_move_20 : decode cX11_move 20 = .ok (.aload_n 0, 1) := by decide +kernel
theorem dX11_move_21 : decode cX11_move 21 = .ok (.getfield 24, 3) := by decide +kernel
theorem dX11_move_24 : decode cX11_move 24 = .ok (.iload_n 1, 1) := by decide +kernel
theorem dX11_move_25 : decode cX11_move 25 = .ok (.aaload, 1) := by decide +kernel
theorem dX11_move_26 : decode cX11_move 26 = .ok (.astore 6, 2) := by decide +kernel
theorem dX11_move_28 : decode cX11_move 28 = .ok (.aload_n 0, 1) := by decide +kernel
theorem dX11_move_29 : decode cX11_move 29 = .ok (.getfield 24, 3) := by decide +kernel
theorem dX11_move_32 : decode cX11_move 32 = .ok (.iload_n 3, 1) := by decide +kernel
theorem dX11_move_33 : decode cX11_move 33 = .ok (.aaload, 1) := by decide +kernel
theorem dX11_move_34 : decode cX11_move 34 = .ok (.astore 7, 2) := by decide +kernel
theorem dX11_move_36 : decode cX11_move 36 = .ok (.aload 6, 2) := by decide +kernel
theorem dX11_move_38 : decode cX11_move 38 = .ok (.invokevirtual 130, 3) := by decide +kernel
theorem dX11_move_41 : decode cX11_move 41 = .ok (.ifCond .ne 11, 3) := by decide +kernel
theorem dX11_move_52 : decode cX11_move 52 = .ok (.aload_n 0, 1) := by decide +kernel
theorem dX11_move_53 : decode cX11_move 53 = .ok (.iconst 2, 1) := by decide +kernel
theorem dX11_move_54 : decode cX11_move 54 = .ok (.invokevirtual 67, 3) := by decide +kernel
theorem dX11_move_57 : decode cX11_move 57 = .ok (.ireturn, 1) := by decide +kernel
theorem dX11_put_0 : decode cX11_put 0 = .ok (.iload_n 1, 1) := by decide +kernel
theorem dX11_put_1 : decode cX11_put 1 = .ok (.invokestatic 127, 3) := by decide +kernel
theorem dX11_put_4 : decode cX11_put 4 = .ok (.ifCond .ne 9, 3) := by decide +kernel
theorem dX11_put_7 : decode cX11_put 7 = .ok (.aload_n 0, 1) := by decide +kernel
theorem dX11_put_8 : decode cX11_put 8 = .ok (.iconst 1, 1) := by decide +kernel
theorem dX11_put_9 : decode cX11_put 9 = .ok (.invokevirtual 67, 3) := by decide +kernel
theorem dX11_put_12 : decode cX11_put 12 = .ok (.ireturn, 1) := by decide +kernel
theorem dX11_put_13 : decode cX11_put 13 = .ok (.aload_n 0, 1) := by decide +kernel
theorem dX11_put_14 : decode cX11_put 14 = .ok (.getfield 24, 3) := by decide +kernel
theorem dX11_put_17 : decode cX11_put 17 = .ok (.iload_n 1, 1) := by decide +kernel
theorem dX11_put_18 : decode cX11_put 18 = .ok (.aaload, 1) := by decide +kernel
theorem dX11_put_19 : decode cX11_put 19 = .ok (.invokevirtual 130, 3) := by decide +kernel
theorem dX11_put_22 : decode cX11_put 22 = .ok (.ifCond .eq 9, 3) := by decide +kernel
theorem dX11_put_25 : decode cX11_put 25 = .ok (.aload_n 0, 1) := by decide +kernel
theorem dX11_put_26 : decode cX11_put 26 = .ok (.iconst 2, 1) := by decide +kernel
theorem dX11_put_27 : decode cX11_put 27 = .ok (.invokevirtual 67, 3) := by decide +kernel
theorem dX11_put_30 : decode cX11_put 30 = .ok (.ireturn, 1) := by decide +kernel
theorem dX11_restore_0 : decode cX11_restore 0 = .ok (.aload_n 0, 1) := by decide +kernel
theorem dX11_restore_1 : decode cX11_restore 1 = .ok (.getfield 53, 3) := by decide +kernel
theorem dX11_restore_4 : decode cX11_restore 4 = .ok (.ifCond .ne 9, 3) := by decide +kernel
theorem dX11_restore_7 : decode cX11_restore 7 = .ok (.aload_n 0, 1) := by decide +kernel
theorem dX11_restore_8 : decode cX11_restore 8 = .ok (.iconst 2, 1) := by decide +kernel
theorem dX11_restore_9 : decode cX11_restore 9 = .ok (.invokevirtual 67, 3) := by decide +kernel
theorem dX11_restore_12 : decode cX11_restore 12 = .ok (.ireturn, 1) := by decide +kernel
theorem dX11_sheet_0 : decode cX11_sheet 0 = .ok (.iload_n 1, 1) := by decide +kernel
theorem dX11_sheet_1 : decode cX11_sheet 1 = .ok (.invokestatic 127, 3) := by decide +kernel
theorem dX11_sheet_4 : decode cX11_sheet 4 = .ok (.ifCond .eq 25, 3) := by decide +kernel
theorem dX11_sheet_7 : decode cX11_sheet 7 = .ok (.iload_n 2, 1) := by decide +kernel
theorem dX11_sheet_8 : decode cX11_sheet 8 = .ok (.ifCond .eq 27, 3) := by decide +kernel
theorem dX11_sheet_11 : decode cX11_sheet 11 = .ok (.iload_n 2, 1) := by decide +kernel
theorem dX11_sheet_12 : decode cX11_sheet 12 = .ok (.bipush 8, 2) := by decide +kernel
theorem dX11_sheet_14 : decode cX11_sheet 14 = .ok (.if_icmp .eq 21, 3) := by decide +kernel
theorem dX11_sheet_17 : decode cX11_sheet 17 = .ok (.iload_n 2, 1) := by decide +kernel
theorem dX11_sheet_18 : decode cX11_sheet 18 = .ok (.bipush 16, 2) := by decide +kernel
theorem dX11_sheet_20 : decode cX11_sheet 20 = .ok (.if_icmp .eq 15, 3) := by decide +kernel
theorem dX11_sheet_23 : decode cX11_sheet 23 = .ok (.iload_n 2, 1) := by decide +kernel
theorem dX11_sheet_24 : decode cX11_sheet 24 = .ok (.bipush 32, 2) := by decide +kernel
theorem dX11_sheet_26 : decode cX11_sheet 26 = .ok (.if_icmp .eq 9, 3) := by decide +kernel
theorem dX11_sheet_29 : decode cX11_sheet 29 = .ok (.aload_n 0, 1) := by decide +kernel
theorem dX11_sheet_30 : decode cX11_sheet 30 = .ok (.iconst 1, 1) := by decide +kernel
theorem dX11_sheet_31 : decode cX11_sheet 31 = .ok (.invokevirtual 67, 3) := by decide +kernel
theorem dX11_sheet_34 : decode cX11_sheet 34 = .ok (.ireturn, 1) := by decide +kernel
theorem dX11_sheet_35 : decode cX11_sheet 35 = .ok (.iload_n 2, 1) := by decide +kernel
theorem dX11_sheet_36 : decode cX11_sheet 36 = .ok (.ifCond .ne 14, 3) := by decide +kernel
theorem dX11_sheet_39 : decode cX11_sheet 39 = .ok (.aload_n 0, 1) := by decide +kernel
theorem dX11_sheet_40 : decode cX11_sheet 40 = .ok (.getfield 24, 3) := by decide +kernel
theorem dX11_sheet_43 : decode cX11_sheet 43 = .ok (.iload_n 1, 1) := by decide +kernel
theorem dX11_sheet_44 : decode cX11_sheet 44 = .ok (.aaload, 1) := by decide +kernel
theorem dX11_sheet_45 : decode cX11_sheet 45 = .ok (.invokevirtual 359, 3) := by decide +kernel
theorem dX11_sheet_48 : decode cX11_sheet 48 = .ok (.iconst 1, 1) := by decide +kernel
theorem dX11_sheet_49 : decode cX11_sheet 49 = .ok (.ireturn, 1) := by decide +kernel
theorem dX11_sheet_50 : decode cX11_sheet 50 = .ok (.iload_n 3, 1) := by decide +kernel
theorem dX11_sheet_51 : decode cX11_sheet 51 = .ok (.ifCond .ge 9, 3) := by decide +kernel
theorem dX11_sheet_54 : decode cX11_sheet 54 = .ok (.aload_n 0, 1) := by decide +kernel
theorem dX11_sheet_55 : decode cX11_sheet 55 = .ok (.iconst 3, 1) := by decide +kernel
theorem dX11_sheet_56 : decode cX11_sheet 56 = .ok (.invokevirtual 67, 3) := by decide +kernel
theorem dX11_sheet_59 : decode cX11_sheet 59 = .ok (.ireturn, 1) := by decide +kernel
theorem dX11_sheet_60 : decode cX11_sheet 60 = .ok (.iload_n 3, 1) := by decide +kernel
theorem dX11_sheet_61 : decode cX11_sheet 61 = .ok (.bipush 24, 2) := by decide +kernel
theorem dX11_sheet_63 : decode cX11_sheet 63 = .ok (.if_icmp .le 9, 3) := by decide +kernel
theorem dX11_sheet_66 : decode cX11_sheet 66 = .ok (.aload_n 0, 1) := by decide +kernel
theorem dX11_sheet_67 : decode cX11_sheet 67 = .ok (.iconst 1, 1) := by decide +kernel
theorem dX11_sheet_68 : decode cX11_sheet 68 = .ok (.invokevirtual 67, 3) := by decide +kernel
theorem dX11_sheet_71 : decode cX11_sheet 71 = .ok (.ireturn, 1) := by decide +kernel
theorem dX11_sheet_72 : decode cX11_sheet 72 = .ok (.aload_n 0, 1) := by decide +kernel
theorem dX11_sheet_73 : decode cX11_sheet 73 = .ok (.getfield 24, 3) := by decide +kernel
theorem dX11_sheet_76 : decode cX11_sheet 76 = .ok (.iload_n 1, 1) := by decide +kernel
theorem dX11_sheet_77 : decode cX11_sheet 77 = .ok (.aaload, 1) := by decide +kernel
theorem dX11_sheet_78 : decode cX11_sheet 78 = .ok (.iload_n 2, 1) := by decide +kernel
theorem dX11_sheet_79 : decode cX11_sheet 79 = .ok (.iload_n 3, 1) := by decide +kernel
theorem dX11_sheet_80 : decode cX11_sheet 80 = .ok (.invokevirtual 362, 3) := by decide +kernel
theorem dX11_sheet_83 : decode cX11_sheet 83 = .ok (.iconst 1, 1) := by decide +kernel
theorem dX11_sheet_84 : decode cX11_sheet 84 = .ok (.ireturn, 1) := by decide +kernel
theorem dX11_tell_0 : decode cX11_tell 0 = .ok (.aload_n 0, 1) := by decide +kernel
theorem dX11_tell_1 : decode cX11_tell 1 = .ok (.getfield 10, 3) := by decide +kernel
theorem dX11_tell_4 : decode cX11_tell 4 = .ok (.getfield 385, 3) := by decide +kernel
theorem dX11_tell_7 : decode cX11_tell 7 = .ok (.invokevirtual 196, 3) := by decide +kernel
theorem dX11_tell_10 : decode cX11_tell 10 = .ok (.ifCond .ne 9, 3) := by decide +kernel
theorem dX11_tell_19 : decode cX11_tell 19 = .ok (.aload_n 0, 1) := by decide +kernel
theorem dX11_tell_20 : decode cX11_tell 20 = .ok (.getfield 10, 3) := by decide +kernel
theorem dX11_tell_23 : decode cX11_tell 23 = .ok (.getfield 385, 3) := by decide +kernel
theorem dX11_tell_26 : decode cX11_tell 26 = .ok (.iload_n 1, 1) := by decide +kernel
theorem dX11_tell_27 : decode cX11_tell 27 = .ok (.invokevirtual 201, 3) := by decide +kernel
theorem dX11_tell_30 : decode cX11_tell 30 = .ok (.aload_n 0, 1) := by decide +kernel
theorem dX11_tell_31 : decode cX11_tell 31 = .ok (.getfield 10, 3) := by decide +kernel
theorem dX11_tell_34 : decode cX11_tell 34 = .ok (.getfield 385, 3) := by decide +kernel
theorem dX11_tell_37 : decode cX11_tell 37 = .ok (.getfield 205, 3) := by decide +kernel
theorem dX11_tell_40 : decode cX11_tell 40 = .ok (.ireturn, 1) := by decide +kernel
theorem dX11_tenths_0 : decode cX11_tenths 0 = .ok (.iload_n 1, 1) := by decide +kernel
theorem dX11_tenths_1 : decode cX11_tenths 1 = .ok (.iconst 1, 1) := by decide +kernel
theorem dX11_tenths_2 : decode cX11_tenths 2 = .ok (.bipush 100, 2) := by decide +kernel
theorem dX11_tenths_4 : decode cX11_tenths 4 = .ok (.invokestatic 89, 3) := by decide +kernel
theorem dX11_tenths_7 : decode cX11_tenths 7 = .ok (.ifCond .ne 9, 3) := by decide +kernel
theorem dX11_tenths_10 : decode cX11_tenths 10 = .ok (.aload_n 0, 1) := by decide +kernel
theorem dX11_tenths_11 : decode cX11_tenths 11 = .ok (.iconst 1, 1) := by decide +kernel
theorem dX11_tenths_12 : decode cX11_tenths 12 = .ok (.invokevirtual 67, 3) := by decide +kernel
theorem dX11_tenths_15 : decode cX11_tenths 15 = .ok (.ireturn, 1) := by decide +kernel
theorem dX11_tenths_16 : decode cX11_tenths 16 = .ok (.aload_n 0, 1) := by decide +kernel
theorem dX11_tenths_17 : decode cX11_tenths 17 = .ok (.getfield 10, 3) := by decide +kernel
theorem dX11_tenths_20 : decode cX11_tenths 20 = .ok (.getfield 290, 3) := by decide +kernel
theorem dX11_tenths_23 : decode cX11_tenths 23 = .ok (.iload_n 1, 1) := by decide +kernel
theorem dX11_tenths_24 : decode cX11_tenths 24 = .ok (.iadd, 1) := by decide +kernel
theorem dX11_tenths_25 : decode cX11_tenths 25 = .ok (.sipush 9999, 3) := by decide +kernel
theorem dX11_tenths_28 : decode cX11_tenths 28 = .ok (.if_icmp .le 9, 3) := by decide +kernel
theorem dX11_tenths_37 : decode cX11_tenths 37 = .ok (.iconst 0, 1) := by decide +kernel
theorem dX11_tenths_38 : decode cX11_tenths 38 = .ok (.istore_n 2, 1) := by decide +kernel
theorem dX11_tenths_39 : decode cX11_tenths 39 = .ok (.iload_n 2, 1) := by decide +kernel
theorem dX11_tenths_40 : decode cX11_tenths 40 = .ok (.iload_n 1, 1) := by decide +kernel
theorem dX11_tenths_41 : decode cX11_tenths 41 = .ok (.if_icmp .ge 16, 3) := by decide +kernel
theorem dX11_tenths_44 : decode cX11_tenths 44 = .ok (.aload_n 0, 1) := by decide +kernel
theorem dX11_tenths_45 : decode cX11_tenths 45 = .ok (.getfield 10, 3) := by decide +kernel
theorem dX11_tenths_48 : decode cX11_tenths 48 = .ok (.invokevirtual 293, 3) := by decide +kernel
theorem dX11_tenths_51 : decode cX11_tenths 51 = .ok (.iinc 2 1, 3) := by decide +kernel
theorem dX11_tenths_54 : decode cX11_tenths 54 = .ok (.goto (-15), 3) := by decide +kernel
theorem dX11_tenths_57 : decode cX11_tenths 57 = .ok (.aload_n 0, 1) := by decide +kernel
theorem dX11_tenths_58 : decode cX11_tenths 58 = .ok (.getfield 10, 3) := by decide +kernel
theorem dX11_tenths_61 : decode cX11_tenths 61 = .ok (.getfield 290, 3) := by decide +kernel
theorem dX11_tenths_64 : decode cX11_tenths 64 = .ok (.ireturn, 1) := by decide +kernel
theorem dX11_text_0 : decode cX11_text 0 = .ok (.iload_n 1, 1) := by decide +kernel
theorem dX11_text_1 : decode cX11_text 1 = .ok (.iconst 0, 1) := by decide +kernel
theorem dX11_text_2 : decode cX11_text 2 = .ok (.iconst 2, 1) := by decide +kernel
theorem dX11_text_3 : decode cX11_text 3 = .ok (.invokestatic 89, 3) := by decide +kernel
theorem dX11_text_6 : decode cX11_text 6 = .ok (.ifCond .ne 9, 3) := by decide +kernel
theorem dX11_text_9 : decode cX11_text 9 = .ok (.aload_n 0, 1) := by decide +kernel
theorem dX11_text_10 : decode cX11_text 10 = .ok (.iconst 1, 1) := by decide +kernel
theorem dX11_text_11 : decode cX11_text 11 = .ok (.invokevirtual 67, 3) := by decide +kernel
theorem dX11_text_14 : decode cX11_text 14 = .ok (.ireturn, 1) := by decide +kernel
theorem dX11_text_15 : decode cX11_text 15 = .ok (.aload_n 0, 1) := by decide +kernel
theorem dX11_text_16 : decode cX11_text 16 = .ok (.getfield 35, 3) := by decide +kernel
theorem dX11_text_19 : decode cX11_text 19 = .ok (.aload_n 0, 1) := by decide +kernel
theorem dX11_text_20 : decode cX11_text 20 = .ok (.getfield 10, 3) := by decide +kernel
theorem dX11_text_23 : decode cX11_text 23 = .ok (.getfield 192, 3) := by decide +kernel
theorem dX11_text_26 : decode cX11_text 26 = .ok (.iload_n 1, 1) := by decide +kernel
theorem dX11_text_27 : decode cX11_text 27 = .ok (.invokevirtual 206, 3) := by decide +kernel
theorem dX11_text_30 : decode cX11_text 30 = .ok (.istore_n 2, 1) := by decide +kernel
theorem dX11_text_31 : decode cX11_text 31 = .ok (.iload_n 2, 1) := by decide +kernel
theorem dX11_text_32 : decode cX11_text 32 = .ok (.ifCond .lt 25, 3) := by decide +kernel
theorem dX11_text_57 : decode cX11_text 57 = .ok (.aload_n 0, 1) := by decide +kernel
theorem dX11_text_58 : decode cX11_text 58 = .ok (.getfield 10, 3) := by decide +kernel
theorem dX11_text_61 : decode cX11_text 61 = .ok (.getfield 192, 3) := by decide +kernel
theorem dX11_text_64 : decode cX11_text 64 = .ok (.invokevirtual 224, 3) := by decide +kernel
theorem dX11_text_67 : decode cX11_text 67 = .ok (.iload_n 2, 1) := by decide +kernel
theorem dX11_text_68 : decode cX11_text 68 = .ok (.ireturn, 1) := by decide +kernel
theorem dX11_told_0 : decode cX11_told 0 = .ok (.iload_n 1, 1) := by decide +kernel
theorem dX11_told_1 : decode cX11_told 1 = .ok (.iconst 1, 1) := by decide +kernel
theorem dX11_told_2 : decode cX11_told 2 = .ok (.bipush 6, 2) := by decide +kernel
theorem dX11_told_4 : decode cX11_told 4 = .ok (.invokestatic 89, 3) := by decide +kernel
theorem dX11_told_7 : decode cX11_told 7 = .ok (.ifCond .eq 12, 3) := by decide +kernel
theorem dX11_told_10 : decode cX11_told 10 = .ok (.aload_n 0, 1) := by decide +kernel
theorem dX11_told_11 : decode cX11_told 11 = .ok (.getfield 28, 3) := by decide +kernel
theorem dX11_told_14 : decode cX11_told 14 = .ok (.iload_n 1, 1) := by decide +kernel
theorem dX11_told_15 : decode cX11_told 15 = .ok (.iaload, 1) := by decide +kernel
theorem dX11_told_16 : decode cX11_told 16 = .ok (.goto 8, 3) := by decide +kernel
theorem dX11_told_19 : decode cX11_told 19 = .ok (.aload_n 0, 1) := by decide +kernel
theorem dX11_told_20 : decode cX11_told 20 = .ok (.iconst 1, 1) := by decide +kernel
theorem dX11_told_21 : decode cX11_told 21 = .ok (.invokevirtual 67, 3) := by decide +kernel
theorem dX11_told_24 : decode cX11_told 24 = .ok (.ireturn, 1) := by decide +kernel
theorem dX11_trace_0 : decode cX11_trace 0 = .ok (.aload_n 0, 1) := by decide +kernel
theorem dX11_trace_1 : decode cX11_trace 1 = .ok (.getfield 49, 3) := by decide +kernel
theorem dX11_trace_4 : decode cX11_trace 4 = .ok (.getfield 353, 3) := by decide +kernel
theorem dX11_trace_7 : decode cX11_trace 7 = .ok (.iload_n 1, 1) := by decide +kernel
theorem dX11_trace_8 : decode cX11_trace 8 = .ok (.invokevirtual 356, 3) := by decide +kernel
theorem dX11_trace_11 : decode cX11_trace 11 = .ok (.ifCond .ne 9, 3) := by decide +kernel
theorem dX11_trace_14 : decode cX11_trace 14 = .ok (.aload_n 0, 1) := by decide +kernel
theorem dX11_trace_15 : decode cX11_trace 15 = .ok (.iconst 2, 1) := by decide +kernel
theorem dX11_trace_16 : decode cX11_trace 16 = .ok (.invokevirtual 67, 3) := by decide +kernel
theorem dX11_trace_19 : decode cX11_trace 19 = .ok (.ireturn, 1) := by decide +kernel
