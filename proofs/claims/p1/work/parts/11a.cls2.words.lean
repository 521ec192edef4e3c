/-! words of the tables that are used, by their places; decode rows; classes -/
theorem m_1 : Cond.selects yX4_readComparisons.cls yX4_readComparisons yX4_readComparisons ∈ BASE := bmem 1 (by decide +kernel) rfl
theorem m_2 : Cond.selects yX4_readSum.cls yX4_readSum yX4_readSum ∈ BASE := bmem 2 (by decide +kernel) rfl
theorem m_3 : Cond.selects yX4_readTerm.cls yX4_readTerm yX4_readTerm ∈ BASE := bmem 3 (by decide +kernel) rfl
theorem m_4 : Cond.selects yX4_readOne.cls yX4_readOne yX4_readOne ∈ BASE := bmem 4 (by decide +kernel) rfl
theorem m_5 : Cond.selects yX4_next.cls yX4_next yX4_next ∈ BASE := bmem 5 (by decide +kernel) rfl
theorem m_8 : Cond.selects yX4_fail.cls yX4_fail yX4_fail ∈ BASE := bmem 8 (by decide +kernel) rfl
theorem m_10 : Cond.selects yX4_readName.cls yX4_readName yX4_readName ∈ BASE := bmem 10 (by decide +kernel) rfl
theorem m_18 : Cond.selects yX3_tryRows.cls yX3_tryRows yX3_tryRows ∈ BASE := bmem 18 (by decide +kernel) rfl
theorem m_83 : Cond.initialized RX1 ∈ BASE := bmem 83 (by decide +kernel) rfl
theorem m_84 : Cond.initialized RX3 ∈ BASE := bmem 84 (by decide +kernel) rfl
theorem m_88 : Cond.initialized RX4 ∈ BASE := bmem 88 (by decide +kernel) rfl
theorem m_152 : Cond.methodLink RX2 1 Lib.objectInit ∈ BASE := bmem 152 (by decide +kernel) rfl
theorem m_153 : Cond.classLink RX2 28 RX1 ∈ BASE := bmem 153 (by decide +kernel) rfl
theorem m_155 : Cond.instantiable RX1 3 ∈ BASE := bmem 155 (by decide +kernel) rfl
theorem m_157 : Cond.instanceMethod yX1_init ∈ BASE := bmem 157 (by decide +kernel) rfl
theorem m_158 : Cond.code yX1_init cX1_init 1 none ∈ BASE := bmem 158 (by decide +kernel) rfl
theorem m_170 : Cond.fieldLink RX2 7 "ClickStreet$Laws" "noise" "I" ∈ BASE := bmem 170 (by decide +kernel) rfl
theorem m_171 : Cond.fieldLink RX2 13 "ClickStreet$Laws" "mask" "I" ∈ BASE := bmem 171 (by decide +kernel) rfl
theorem m_172 : Cond.fieldLink RX2 16 "ClickStreet$Laws" "snow" "I" ∈ BASE := bmem 172 (by decide +kernel) rfl
theorem m_173 : Cond.fieldLink RX2 21 "ClickStreet$Laws" "loud" "[I" ∈ BASE := bmem 173 (by decide +kernel) rfl
theorem m_174 : Cond.fieldLink RX2 25 "ClickStreet$Laws" "sharp" "[I" ∈ BASE := bmem 174 (by decide +kernel) rfl
theorem m_175 : Cond.fieldLink RX2 30 "ClickStreet$Laws" "texts" "[LClickStreet$Formula;" ∈ BASE := bmem 175 (by decide +kernel) rfl
theorem m_177 : Cond.fieldLink RX2 34 "ClickStreet$Laws" "values" "[I" ∈ BASE := bmem 177 (by decide +kernel) rfl
theorem m_352 : Cond.methodLink RX4 1 Lib.objectInit ∈ BASE := bmem 352 (by decide +kernel) rfl
theorem m_353 : Cond.classLink RX4 7 RX1 ∈ BASE := bmem 353 (by decide +kernel) rfl
theorem m_355 : Cond.classLink RX4 16 RX5 ∈ BASE := bmem 355 (by decide +kernel) rfl
theorem m_356 : Cond.methodLink RX4 18 yX5_init ∈ BASE := bmem 356 (by decide +kernel) rfl
theorem m_358 : Cond.fieldLink RX4 10 "ClickStreet$Reader" "draft" "LClickStreet$Formula;" ∈ BASE := bmem 358 (by decide +kernel) rfl
theorem m_360 : Cond.fieldLink RX4 21 "ClickStreet$Reader" "tape" "LClickStreet$Row;" ∈ BASE := bmem 360 (by decide +kernel) rfl
theorem m_361 : Cond.fieldLink RX4 27 "ClickStreet$Reader" "names" "Ljava/lang/String;" ∈ BASE := bmem 361 (by decide +kernel) rfl
theorem m_362 : Cond.fieldLink RX4 31 "ClickStreet$Reader" "place" "I" ∈ BASE := bmem 362 (by decide +kernel) rfl
theorem m_363 : Cond.fieldLink RX4 35 "ClickStreet$Reader" "fault" "I" ∈ BASE := bmem 363 (by decide +kernel) rfl
theorem m_364 : Cond.fieldLink RX4 38 "ClickStreet$Reader" "open" "I" ∈ BASE := bmem 364 (by decide +kernel) rfl
theorem m_365 : Cond.fieldLink RX4 41 "ClickStreet$Reader" "parts" "I" ∈ BASE := bmem 365 (by decide +kernel) rfl
theorem m_387 : Cond.methodLink RX0 1 Lib.objectInit ∈ BASE := bmem 387 (by decide +kernel) rfl
theorem m_388 : Cond.fieldLink RX0 9 "ClickStreet$Finder" "costs" "[I" ∈ BASE := bmem 388 (by decide +kernel) rfl
theorem m_389 : Cond.fieldLink RX0 15 "ClickStreet$Finder" "isDone" "[Z" ∈ BASE := bmem 389 (by decide +kernel) rfl
theorem m_390 : Cond.fieldLink RX0 19 "ClickStreet$Finder" "learned" "[J" ∈ BASE := bmem 390 (by decide +kernel) rfl
theorem m_391 : Cond.fieldLink RX0 23 "ClickStreet$Finder" "heardPosts" "[I" ∈ BASE := bmem 391 (by decide +kernel) rfl
theorem m_392 : Cond.fieldLink RX0 26 "ClickStreet$Finder" "most" "I" ∈ BASE := bmem 392 (by decide +kernel) rfl
theorem m_394 : Cond.fieldLink RX0 30 "ClickStreet$Finder" "places" "I" ∈ BASE := bmem 394 (by decide +kernel) rfl
theorem m_409 : Cond.arrayClass .boolean ∈ BASE := bmem 409 (by decide +kernel) rfl
theorem m_410 : Cond.arrayClass .long ∈ BASE := bmem 410 (by decide +kernel) rfl
theorem m_416 : Cond.methodLink RX8 1 Lib.objectInit ∈ BASE := bmem 416 (by decide +kernel) rfl
theorem m_417 : Cond.classLink RX8 7 RX5 ∈ BASE := bmem 417 (by decide +kernel) rfl
theorem m_418 : Cond.methodLink RX8 9 yX5_init ∈ BASE := bmem 418 (by decide +kernel) rfl
theorem m_419 : Cond.fieldLink RX8 12 "ClickStreet$Voices" "begun" "LClickStreet$Row;" ∈ BASE := bmem 419 (by decide +kernel) rfl
theorem m_420 : Cond.fieldLink RX8 18 "ClickStreet$Voices" "trace" "LClickStreet$Row;" ∈ BASE := bmem 420 (by decide +kernel) rfl
theorem m_422 : Cond.fieldLink RX8 21 "ClickStreet$Voices" "kind" "I" ∈ BASE := bmem 422 (by decide +kernel) rfl
theorem m_423 : Cond.fieldLink RX8 25 "ClickStreet$Voices" "number" "I" ∈ BASE := bmem 423 (by decide +kernel) rfl
theorem m_424 : Cond.fieldLink RX8 28 "ClickStreet$Voices" "pitch" "I" ∈ BASE := bmem 424 (by decide +kernel) rfl
theorem m_425 : Cond.fieldLink RX8 31 "ClickStreet$Voices" "isParted" "Z" ∈ BASE := bmem 425 (by decide +kernel) rfl
theorem m_670 : Cond.instanceMethod yX5_room ∈ BASE := bmem 670 (by decide +kernel) rfl
theorem m_671 : Cond.selects yX5_room.cls yX5_room yX5_room ∈ BASE := bmem 671 (by decide +kernel) rfl
theorem m_672 : Cond.code yX5_room cX5_room 1 (some .int) ∈ BASE := bmem 672 (by decide +kernel) rfl
theorem m_688 : Cond.methodLink RX4 52 yX1_clear ∈ BASE := bmem 688 (by decide +kernel) rfl
theorem m_689 : Cond.instanceMethod yX1_clear ∈ BASE := bmem 689 (by decide +kernel) rfl
theorem m_690 : Cond.selects yX1_clear.cls yX1_clear yX1_clear ∈ BASE := bmem 690 (by decide +kernel) rfl
theorem m_691 : Cond.code yX1_clear cX1_clear 1 none ∈ BASE := bmem 691 (by decide +kernel) rfl
theorem m_692 : Cond.methodLink RX4 55 yX4_readComparisons ∈ BASE := bmem 692 (by decide +kernel) rfl
theorem m_694 : Cond.instanceMethod yX4_readComparisons ∈ BASE := bmem 694 (by decide +kernel) rfl
theorem m_695 : Cond.code yX4_readComparisons cX4_readComparisons 3 none ∈ BASE := bmem 695 (by decide +kernel) rfl
theorem m_696 : Cond.methodLink RX4 72 yX4_readSum ∈ BASE := bmem 696 (by decide +kernel) rfl
theorem m_698 : Cond.instanceMethod yX4_readSum ∈ BASE := bmem 698 (by decide +kernel) rfl
theorem m_699 : Cond.code yX4_readSum cX4_readSum 3 none ∈ BASE := bmem 699 (by decide +kernel) rfl
theorem m_700 : Cond.methodLink RX4 78 yX4_readTerm ∈ BASE := bmem 700 (by decide +kernel) rfl
theorem m_702 : Cond.instanceMethod yX4_readTerm ∈ BASE := bmem 702 (by decide +kernel) rfl
theorem m_703 : Cond.code yX4_readTerm cX4_readTerm 3 none ∈ BASE := bmem 703 (by decide +kernel) rfl
theorem m_704 : Cond.methodLink RX4 81 yX4_readOne ∈ BASE := bmem 704 (by decide +kernel) rfl
theorem m_706 : Cond.instanceMethod yX4_readOne ∈ BASE := bmem 706 (by decide +kernel) rfl
theorem m_707 : Cond.code yX4_readOne cX4_readOne 2 none ∈ BASE := bmem 707 (by decide +kernel) rfl
theorem m_708 : Cond.methodLink RX4 58 yX4_next ∈ BASE := bmem 708 (by decide +kernel) rfl
theorem m_710 : Cond.instanceMethod yX4_next ∈ BASE := bmem 710 (by decide +kernel) rfl
theorem m_711 : Cond.code yX4_next cX4_next 1 (some .int) ∈ BASE := bmem 711 (by decide +kernel) rfl
theorem m_728 : Cond.methodLink RX4 62 yX4_fail ∈ BASE := bmem 728 (by decide +kernel) rfl
theorem m_730 : Cond.instanceMethod yX4_fail ∈ BASE := bmem 730 (by decide +kernel) rfl
theorem m_731 : Cond.code yX4_fail cX4_fail 1 none ∈ BASE := bmem 731 (by decide +kernel) rfl
theorem m_736 : Cond.methodLink RX4 90 yX4_readName ∈ BASE := bmem 736 (by decide +kernel) rfl
theorem m_738 : Cond.instanceMethod yX4_readName ∈ BASE := bmem 738 (by decide +kernel) rfl
theorem m_739 : Cond.code yX4_readName cX4_readName 3 none ∈ BASE := bmem 739 (by decide +kernel) rfl
theorem m_825 : Cond.instanceMethod yX1_takeFrom ∈ BASE := bmem 825 (by decide +kernel) rfl
theorem m_826 : Cond.selects yX1_takeFrom.cls yX1_takeFrom yX1_takeFrom ∈ BASE := bmem 826 (by decide +kernel) rfl
theorem m_827 : Cond.code yX1_takeFrom cX1_takeFrom 2 none ∈ BASE := bmem 827 (by decide +kernel) rfl
theorem m_832 : Cond.instanceMethod yX5_clear ∈ BASE := bmem 832 (by decide +kernel) rfl
theorem m_833 : Cond.selects yX5_clear.cls yX5_clear yX5_clear ∈ BASE := bmem 833 (by decide +kernel) rfl
theorem m_834 : Cond.code yX5_clear cX5_clear 1 none ∈ BASE := bmem 834 (by decide +kernel) rfl
theorem m_1133 : Cond.methodLink RX3 45 yX5_clear ∈ BASE := bmem 1133 (by decide +kernel) rfl
theorem m_1134 : Cond.methodLink RX3 48 yX3_tryRows ∈ BASE := bmem 1134 (by decide +kernel) rfl
theorem m_1136 : Cond.instanceMethod yX3_tryRows ∈ BASE := bmem 1136 (by decide +kernel) rfl
theorem m_1137 : Cond.code yX3_tryRows cX3_tryRows 5 none ∈ BASE := bmem 1137 (by decide +kernel) rfl
theorem m_1142 : Cond.methodLink RX3 56 yX5_takeFrom ∈ BASE := bmem 1142 (by decide +kernel) rfl
theorem m_1143 : Cond.instanceMethod yX5_takeFrom ∈ BASE := bmem 1143 (by decide +kernel) rfl
theorem m_1144 : Cond.selects yX5_takeFrom.cls yX5_takeFrom yX5_takeFrom ∈ BASE := bmem 1144 (by decide +kernel) rfl
theorem m_1145 : Cond.code yX5_takeFrom cX5_takeFrom 3 none ∈ BASE := bmem 1145 (by decide +kernel) rfl
theorem m_1148 : Cond.methodLink RX3 60 yX5_room ∈ BASE := bmem 1148 (by decide +kernel) rfl
theorem m_1267 : Cond.methodLink RX2 80 arraycopyName ∈ BASE := bmem 1267 (by decide +kernel) rfl
theorem m_1268 : Cond.methodLink RX2 86 yX1_takeFrom ∈ BASE := bmem 1268 (by decide +kernel) rfl
theorem m_1273 : Cond.methodLink RX3 71 arraycopyName ∈ BASE := bmem 1273 (by decide +kernel) rfl
theorem kI_X1_init : KI yX1_init cX1_init 1 0 := ⟨m_157, rfl, m_83, m_158, by decide +kernel, by decide +kernel, by decide +kernel⟩
theorem kV_X1_clear : KV yX1_clear cX1_clear 1 none 0 := ⟨m_689, m_690, m_83, m_691, by decide +kernel, by decide +kernel, by decide +kernel⟩
theorem kV_X1_takeFrom : KV yX1_takeFrom cX1_takeFrom 2 none 1 := ⟨m_825, m_826, m_83, m_827, by decide +kernel, by decide +kernel, by decide +kernel⟩
theorem kV_X3_tryRows : KV yX3_tryRows cX3_tryRows 5 none 3 := ⟨m_1136, m_18, m_84, m_1137, by decide +kernel, by decide +kernel, by decide +kernel⟩
theorem kV_X4_fail : KV yX4_fail cX4_fail 1 none 0 := ⟨m_730, m_8, m_88, m_731, by decide +kernel, by decide +kernel, by decide +kernel⟩
theorem kV_X4_next : KV yX4_next cX4_next 1 (some .int) 0 := ⟨m_710, m_5, m_88, m_711, by decide +kernel, by decide +kernel, by decide +kernel⟩
theorem kV_X4_readComparisons : KV yX4_readComparisons cX4_readComparisons 3 none 0 := ⟨m_694, m_1, m_88, m_695, by decide +kernel, by decide +kernel, by decide +kernel⟩
theorem kV_X4_readName : KV yX4_readName cX4_readName 3 none 1 := ⟨m_738, m_10, m_88, m_739, by decide +kernel, by decide +kernel, by decide +kernel⟩
theorem kV_X4_readOne : KV yX4_readOne cX4_readOne 2 none 0 := ⟨m_706, m_4, m_88, m_707, by decide +kernel, by decide +kernel, by decide +kernel⟩
theorem kV_X4_readSum : KV yX4_readSum cX4_readSum 3 none 0 := ⟨m_698, m_2, m_88, m_699, by decide +kernel, by decide +kernel, by decide +kernel⟩
theorem kV_X4_readTerm : KV yX4_readTerm cX4_readTerm 3 none 0 := ⟨m_702, m_3, m_88, m_703, by decide +kernel, by decide +kernel, by decide +kernel⟩
theorem kV_X5_clear : KV yX5_clear cX5_clear 1 none 0 := ⟨m_832, m_833, m_85, m_834, by decide +kernel, by decide +kernel, by decide +kernel⟩
theorem kV_X5_room : KV yX5_room cX5_room 1 (some .int) 0 := ⟨m_670, m_671, m_85, m_672, by decide +kernel, by decide +kernel, by decide +kernel⟩
theorem kV_X5_takeFrom : KV yX5_takeFrom cX5_takeFrom 3 none 1 := ⟨m_1143, m_1144, m_85, m_1145, by decide +kernel, by decide +kernel, by decide +kernel⟩
theorem inB0 : ∀ w ∈ u_ws RX0 TX0 6, w ∈ BASE := bmems (u_ws RX0 TX0 6) [396, 398, 400, 402, 404, 406] (by decide +kernel) (by decide +kernel)
theorem df0 : ∀ j, j < 6 → defaultValue (tyX0 j) = vp_V [.null, .null, .null, .null, .int 0, .int 0] j := fun j hj => by rcases (show j = 0 ∨ j = 1 ∨ j = 2 ∨ j = 3 ∨ j = 4 ∨ j = 5 by omega) with rfl | rfl | rfl | rfl | rfl | rfl <;> rfl
theorem inB2 : ∀ w ∈ u_ws RX2 TX2 7, w ∈ BASE := bmems (u_ws RX2 TX2 7) [178, 180, 182, 184, 186, 188, 190] (by decide +kernel) (by decide +kernel)
theorem df2 : ∀ j, j < 7 → defaultValue (tyX2 j) = vp_V [.int 0, .int 0, .int 0, .null, .null, .null, .null] j := fun j hj => by rcases (show j = 0 ∨ j = 1 ∨ j = 2 ∨ j = 3 ∨ j = 4 ∨ j = 5 ∨ j = 6 by omega) with rfl | rfl | rfl | rfl | rfl | rfl | rfl <;> rfl
theorem inB4 : ∀ w ∈ u_ws RX4 TX4 7, w ∈ BASE := bmems (u_ws RX4 TX4 7) [366, 368, 370, 372, 374, 376, 378] (by decide +kernel) (by decide +kernel)
theorem df4 : ∀ j, j < 7 → defaultValue (tyX4 j) = vp_V [.null, .null, .null, .int 0, .int 0, .int 0, .int 0] j := fun j hj => by rcases (show j = 0 ∨ j = 1 ∨ j = 2 ∨ j = 3 ∨ j = 4 ∨ j = 5 ∨ j = 6 by omega) with rfl | rfl | rfl | rfl | rfl | rfl | rfl <;> rfl
theorem inB8 : ∀ w ∈ u_ws RX8 TX8 6, w ∈ BASE := bmems (u_ws RX8 TX8 6) [427, 429, 431, 433, 435, 437] (by decide +kernel) (by decide +kernel)
theorem df8 : ∀ j, j < 6 → defaultValue (tyX8 j) = vp_V [.null, .null, .int 0, .int 0, .int 0, .int 0] j := fun j hj => by rcases (show j = 0 ∨ j = 1 ∨ j = 2 ∨ j = 3 ∨ j = 4 ∨ j = 5 by omega) with rfl | rfl | rfl | rfl | rfl | rfl <;> rfl
theorem nf_RX4_65 {G : va_G} {cy : Nat → ClassId} {sk : Nat → Nat} {s : State} {args : Array Value} (h : EN G cy sk s) : (Cond.fieldLinkNest RX4 65 "ClickStreet$Row" "size" "I" "ClickStreet").before args s = true := va_Nw.use rfl (h.2.1 _ (List.mem_of_getElem? (l := NFs) (i := 7) rfl))
/-! decode rows -/
theorem dX0_init_0 : decode cX0_init 0 = .ok (.aload_n 0, 1) := by decide +kernel
theorem dX0_init_1 : decode cX0_init 1 = .ok (.invokespecial 1, 3) := by decide +kernel
theorem dX0_init_4 : decode cX0_init 4 = .ok (.aload_n 0, 1) := by decide +kernel
theorem dX0_init_5 : decode cX0_init 5 = .ok (.sipush 192, 3) := by decide +kernel
theorem dX0_init_8 : decode cX0_init 8 = .ok (.newarray .int, 2) := by decide +kernel
theorem dX0_init_10 : decode cX0_init 10 = .ok (.putfield 9, 3) := by decide +kernel
theorem dX0_init_13 : decode cX0_init 13 = .ok (.aload_n 0, 1) := by decide +kernel
theorem dX0_init_14 : decode cX0_init 14 = .ok (.sipush 192, 3) := by decide +kernel
theorem dX0_init_17 : decode cX0_init 17 = .ok (.newarray .boolean, 2) := by decide +kernel
theorem dX0_init_19 : decode cX0_init 19 = .ok (.putfield 15, 3) := by decide +kernel
theorem dX0_init_22 : decode cX0_init 22 = .ok (.aload_n 0, 1) := by decide +kernel
theorem dX0_init_23 : decode cX0_init 23 = .ok (.bipush 24, 2) := by decide +kernel
theorem dX0_init_25 : decode cX0_init 25 = .ok (.newarray .long, 2) := by decide +kernel
theorem dX0_init_27 : decode cX0_init 27 = .ok (.putfield 19, 3) := by decide +kernel
theorem dX0_init_30 : decode cX0_init 30 = .ok (.aload_n 0, 1) := by decide +kernel
theorem dX0_init_31 : decode cX0_init 31 = .ok (.bipush 8, 2) := by decide +kernel
theorem dX0_init_33 : decode cX0_init 33 = .ok (.newarray .int, 2) := by decide +kernel
theorem dX0_init_35 : decode cX0_init 35 = .ok (.putfield 23, 3) := by decide +kernel
theorem dX0_init_38 : decode cX0_init 38 = .ok (.aload_n 0, 1) := by decide +kernel
theorem dX0_init_39 : decode cX0_init 39 = .ok (.iconst 0, 1) := by decide +kernel
theorem dX0_init_40 : decode cX0_init 40 = .ok (.putfield 26, 3) := by decide +kernel
theorem dX0_init_43 : decode cX0_init 43 = .ok (.aload_n 0, 1) := by decide +kernel
theorem dX0_init_44 : decode cX0_init 44 = .ok (.iconst 0, 1) := by decide +kernel
theorem dX0_init_45 : decode cX0_init 45 = .ok (.putfield 30, 3) := by decide +kernel
theorem dX0_init_48 : decode cX0_init 48 = .ok (.return_, 1) := by decide +kernel
theorem dX2_changeAir_0 : decode cX2_changeAir 0 = .ok (.iload_n 1, 1) := by decide +kernel
theorem dX2_changeAir_1 : decode cX2_changeAir 1 = .ok (.ifCond .ne 10, 3) := by decide +kernel
theorem dX2_changeAir_4 : decode cX2_changeAir 4 = .ok (.aload_n 0, 1) := by decide +kernel
theorem dX2_changeAir_5 : decode cX2_changeAir 5 = .ok (.getfield 7, 3) := by decide +kernel
theorem dX2_changeAir_8 : decode cX2_changeAir 8 = .ok (.goto 19, 3) := by decide +kernel
theorem dX2_changeAir_11 : decode cX2_changeAir 11 = .ok (.iload_n 1, 1) := by decide +kernel
theorem dX2_changeAir_12 : decode cX2_changeAir 12 = .ok (.iconst 1, 1) := by decide +kernel
theorem dX2_changeAir_13 : decode cX2_changeAir 13 = .ok (.if_icmp .ne 10, 3) := by decide +kernel
theorem dX2_changeAir_16 : decode cX2_changeAir 16 = .ok (.aload_n 0, 1) := by decide +kernel
theorem dX2_changeAir_17 : decode cX2_changeAir 17 = .ok (.getfield 13, 3) := by decide +kernel
theorem dX2_changeAir_20 : decode cX2_changeAir 20 = .ok (.goto 7, 3) := by decide +kernel
theorem dX2_changeAir_23 : decode cX2_changeAir 23 = .ok (.aload_n 0, 1) := by decide +kernel
theorem dX2_changeAir_24 : decode cX2_changeAir 24 = .ok (.getfield 16, 3) := by decide +kernel
theorem dX2_changeAir_27 : decode cX2_changeAir 27 = .ok (.istore_n 3, 1) := by decide +kernel
theorem dX2_changeAir_28 : decode cX2_changeAir 28 = .ok (.iload_n 1, 1) := by decide +kernel
theorem dX2_changeAir_29 : decode cX2_changeAir 29 = .ok (.ifCond .ne 11, 3) := by decide +kernel
theorem dX2_changeAir_32 : decode cX2_changeAir 32 = .ok (.aload_n 0, 1) := by decide +kernel
theorem dX2_changeAir_33 : decode cX2_changeAir 33 = .ok (.iload_n 2, 1) := by decide +kernel
theorem dX2_changeAir_34 : decode cX2_changeAir 34 = .ok (.putfield 7, 3) := by decide +kernel
theorem dX2_changeAir_37 : decode cX2_changeAir 37 = .ok (.goto 21, 3) := by decide +kernel
theorem dX2_changeAir_40 : decode cX2_changeAir 40 = .ok (.iload_n 1, 1) := by decide +kernel
theorem dX2_changeAir_41 : decode cX2_changeAir 41 = .ok (.iconst 1, 1) := by decide +kernel
theorem dX2_changeAir_42 : decode cX2_changeAir 42 = .ok (.if_icmp .ne 11, 3) := by decide +kernel
theorem dX2_changeAir_45 : decode cX2_changeAir 45 = .ok (.aload_n 0, 1) := by decide +kernel
theorem dX2_changeAir_46 : decode cX2_changeAir 46 = .ok (.iload_n 2, 1) := by decide +kernel
theorem dX2_changeAir_47 : decode cX2_changeAir 47 = .ok (.putfield 13, 3) := by decide +kernel
theorem dX2_changeAir_50 : decode cX2_changeAir 50 = .ok (.goto 8, 3) := by decide +kernel
theorem dX2_changeAir_53 : decode cX2_changeAir 53 = .ok (.aload_n 0, 1) := by decide +kernel
theorem dX2_changeAir_54 : decode cX2_changeAir 54 = .ok (.iload_n 2, 1) := by decide +kernel
theorem dX2_changeAir_55 : decode cX2_changeAir 55 = .ok (.putfield 16, 3) := by decide +kernel
theorem dX2_changeAir_58 : decode cX2_changeAir 58 = .ok (.iload_n 3, 1) := by decide +kernel
theorem dX2_changeAir_59 : decode cX2_changeAir 59 = .ok (.ireturn, 1) := by decide +kernel
theorem dX2_changeKind_0 : decode cX2_changeKind 0 = .ok (.iload_n 2, 1) := by decide +kernel
theorem dX2_changeKind_1 : decode cX2_changeKind 1 = .ok (.ifCond .ne 10, 3) := by decide +kernel
theorem dX2_changeKind_4 : decode cX2_changeKind 4 = .ok (.aload_n 0, 1) := by decide +kernel
theorem dX2_changeKind_5 : decode cX2_changeKind 5 = .ok (.getfield 21, 3) := by decide +kernel
theorem dX2_changeKind_8 : decode cX2_changeKind 8 = .ok (.goto 7, 3) := by decide +kernel
theorem dX2_changeKind_11 : decode cX2_changeKind 11 = .ok (.aload_n 0, 1) := by decide +kernel
theorem dX2_changeKind_12 : decode cX2_changeKind 12 = .ok (.getfield 25, 3) := by decide +kernel
theorem dX2_changeKind_15 : decode cX2_changeKind 15 = .ok (.astore 4, 2) := by decide +kernel
theorem dX2_changeKind_17 : decode cX2_changeKind 17 = .ok (.iload_n 1, 1) := by decide +kernel
theorem dX2_changeKind_18 : decode cX2_changeKind 18 = .ok (.ifCond .lt 10, 3) := by decide +kernel
theorem dX2_changeKind_21 : decode cX2_changeKind 21 = .ok (.iload_n 1, 1) := by decide +kernel
theorem dX2_changeKind_22 : decode cX2_changeKind 22 = .ok (.aload 4, 2) := by decide +kernel
theorem dX2_changeKind_24 : decode cX2_changeKind 24 = .ok (.arraylength, 1) := by decide +kernel
theorem dX2_changeKind_25 : decode cX2_changeKind 25 = .ok (.if_icmp .lt 5, 3) := by decide +kernel
theorem dX2_changeKind_30 : decode cX2_changeKind 30 = .ok (.aload 4, 2) := by decide +kernel
theorem dX2_changeKind_32 : decode cX2_changeKind 32 = .ok (.iload_n 1, 1) := by decide +kernel
theorem dX2_changeKind_33 : decode cX2_changeKind 33 = .ok (.iaload, 1) := by decide +kernel
theorem dX2_changeKind_34 : decode cX2_changeKind 34 = .ok (.istore 5, 2) := by decide +kernel
theorem dX2_changeKind_36 : decode cX2_changeKind 36 = .ok (.aload 4, 2) := by decide +kernel
theorem dX2_changeKind_38 : decode cX2_changeKind 38 = .ok (.iload_n 1, 1) := by decide +kernel
theorem dX2_changeKind_39 : decode cX2_changeKind 39 = .ok (.iload_n 3, 1) := by decide +kernel
theorem dX2_changeKind_40 : decode cX2_changeKind 40 = .ok (.iastore, 1) := by decide +kernel
theorem dX2_changeKind_41 : decode cX2_changeKind 41 = .ok (.iload 5, 2) := by decide +kernel
theorem dX2_changeKind_43 : decode cX2_changeKind 43 = .ok (.ireturn, 1) := by decide +kernel
theorem dX2_init_0 : decode cX2_init 0 = .ok (.aload_n 0, 1) := by decide +kernel
theorem dX2_init_1 : decode cX2_init 1 = .ok (.invokespecial 1, 3) := by decide +kernel
theorem dX2_init_4 : decode cX2_init 4 = .ok (.aload_n 0, 1) := by decide +kernel
theorem dX2_init_5 : decode cX2_init 5 = .ok (.iconst 5, 1) := by decide +kernel
theorem dX2_init_6 : decode cX2_init 6 = .ok (.putfield 7, 3) := by decide +kernel
theorem dX2_init_9 : decode cX2_init 9 = .ok (.aload_n 0, 1) := by decide +kernel
theorem dX2_init_10 : decode cX2_init 10 = .ok (.bipush 9, 2) := by decide +kernel
theorem dX2_init_12 : decode cX2_init 12 = .ok (.putfield 13, 3) := by decide +kernel
theorem dX2_init_15 : decode cX2_init 15 = .ok (.aload_n 0, 1) := by decide +kernel
theorem dX2_init_16 : decode cX2_init 16 = .ok (.iconst 0, 1) := by decide +kernel
theorem dX2_init_17 : decode cX2_init 17 = .ok (.putfield 16, 3) := by decide +kernel
theorem dX2_init_20 : decode cX2_init 20 = .ok (.aload_n 0, 1) := by decide +kernel
theorem dX2_init_21 : decode cX2_init 21 = .ok (.iconst 5, 1) := by decide +kernel
theorem dX2_init_22 : decode cX2_init 22 = .ok (.newarray .int, 2) := by decide +kernel
theorem dX2_init_24 : decode cX2_init 24 = .ok (.putfield 21, 3) := by decide +kernel
theorem dX2_init_27 : decode cX2_init 27 = .ok (.aload_n 0, 1) := by decide +kernel
theorem dX2_init_28 : decode cX2_init 28 = .ok (.iconst 5, 1) := by decide +kernel
theorem dX2_init_29 : decode cX2_init 29 = .ok (.newarray .int, 2) := by decide +kernel
theorem dX2_init_31 : decode cX2_init 31 = .ok (.putfield 25, 3) := by decide +kernel
theorem dX2_init_34 : decode cX2_init 34 = .ok (.aload_n 0, 1) := by decide +kernel
theorem dX2_init_35 : decode cX2_init 35 = .ok (.iconst 3, 1) := by decide +kernel
theorem dX2_init_36 : decode cX2_init 36 = .ok (.anewarray 28, 3) := by decide +kernel
theorem dX2_init_39 : decode cX2_init 39 = .ok (.putfield 30, 3) := by decide +kernel
theorem dX2_init_42 : decode cX2_init 42 = .ok (.aload_n 0, 1) := by decide +kernel
theorem dX2_init_43 : decode cX2_init 43 = .ok (.iconst 5, 1) := by decide +kernel
theorem dX2_init_44 : decode cX2_init 44 = .ok (.newarray .int, 2) := by decide +kernel
theorem dX2_init_46 : decode cX2_init 46 = .ok (.putfield 34, 3) := by decide +kernel
theorem dX2_init_49 : decode cX2_init 49 = .ok (.iconst 0, 1) := by decide +kernel
theorem dX2_init_50 : decode cX2_init 50 = .ok (.istore_n 1, 1) := by decide +kernel
theorem dX2_init_51 : decode cX2_init 51 = .ok (.iload_n 1, 1) := by decide +kernel
theorem dX2_init_52 : decode cX2_init 52 = .ok (.iconst 5, 1) := by decide +kernel
theorem dX2_init_53 : decode cX2_init 53 = .ok (.if_icmp .ge 17, 3) := by decide +kernel
theorem dX2_init_56 : decode cX2_init 56 = .ok (.aload_n 0, 1) := by decide +kernel
theorem dX2_init_57 : decode cX2_init 57 = .ok (.getfield 21, 3) := by decide +kernel
theorem dX2_init_60 : decode cX2_init 60 = .ok (.iload_n 1, 1) := by decide +kernel
theorem dX2_init_61 : decode cX2_init 61 = .ok (.bipush 50, 2) := by decide +kernel
theorem dX2_init_63 : decode cX2_init 63 = .ok (.iastore, 1) := by decide +kernel
theorem dX2_init_64 : decode cX2_init 64 = .ok (.iinc 1 1, 3) := by decide +kernel
theorem dX2_init_67 : decode cX2_init 67 = .ok (.goto (-16), 3) := by decide +kernel
theorem dX2_init_70 : decode cX2_init 70 = .ok (.iconst 0, 1) := by decide +kernel
theorem dX2_init_71 : decode cX2_init 71 = .ok (.istore_n 1, 1) := by decide +kernel
theorem dX2_init_72 : decode cX2_init 72 = .ok (.iload_n 1, 1) := by decide +kernel
theorem dX2_init_73 : decode cX2_init 73 = .ok (.iconst 3, 1) := by decide +kernel
theorem dX2_init_74 : decode cX2_init 74 = .ok (.if_icmp .ge 22, 3) := by decide +kernel
theorem dX2_init_77 : decode cX2_init 77 = .ok (.aload_n 0, 1) := by decide +kernel
theorem dX2_init_78 : decode cX2_init 78 = .ok (.getfield 30, 3) := by decide +kernel
theorem dX2_init_81 : decode cX2_init 81 = .ok (.iload_n 1, 1) := by decide +kernel
theorem dX2_init_82 : decode cX2_init 82 = .ok (.new 28, 3) := by decide +kernel
theorem dX2_init_85 : decode cX2_init 85 = .ok (.dup, 1) := by decide +kernel
theorem dX2_init_86 : decode cX2_init 86 = .ok (.invokespecial 37, 3) := by decide +kernel
theorem dX2_init_89 : decode cX2_init 89 = .ok (.aastore, 1) := by decide +kernel
theorem dX2_init_90 : decode cX2_init 90 = .ok (.iinc 1 1, 3) := by decide +kernel
theorem dX2_init_93 : decode cX2_init 93 = .ok (.goto (-21), 3) := by decide +kernel
theorem dX2_init_96 : decode cX2_init 96 = .ok (.return_, 1) := by decide +kernel
theorem dX2_takeFrom_0 : decode cX2_takeFrom 0 = .ok (.aload_n 0, 1) := by decide +kernel
theorem dX2_takeFrom_1 : decode cX2_takeFrom 1 = .ok (.aload_n 1, 1) := by decide +kernel
theorem dX2_takeFrom_2 : decode cX2_takeFrom 2 = .ok (.getfield 7, 3) := by decide +kernel
theorem dX2_takeFrom_5 : decode cX2_takeFrom 5 = .ok (.putfield 7, 3) := by decide +kernel
theorem dX2_takeFrom_8 : decode cX2_takeFrom 8 = .ok (.aload_n 0, 1) := by decide +kernel
theorem dX2_takeFrom_9 : decode cX2_takeFrom 9 = .ok (.aload_n 1, 1) := by decide +kernel
theorem dX2_takeFrom_10 : decode cX2_takeFrom 10 = .ok (.getfield 13, 3) := by decide +kernel
theorem dX2_takeFrom_13 : decode cX2_takeFrom 13 = .ok (.putfield 13, 3) := by decide +kernel
theorem dX2_takeFrom_16 : decode cX2_takeFrom 16 = .ok (.aload_n 0, 1) := by decide +kernel
theorem dX2_takeFrom_17 : decode cX2_takeFrom 17 = .ok (.aload_n 1, 1) := by decide +kernel
theorem dX2_takeFrom_18 : decode cX2_takeFrom 18 = .ok (.getfield 16, 3) := by decide +kernel
theorem dX2_takeFrom_21 : decode cX2_takeFrom 21 = .ok (.putfield 16, 3) := by decide +kernel
theorem dX2_takeFrom_24 : decode cX2_takeFrom 24 = .ok (.aload_n 1, 1) := by decide +kernel
theorem dX2_takeFrom_25 : decode cX2_takeFrom 25 = .ok (.getfield 21, 3) := by decide +kernel
theorem dX2_takeFrom_28 : decode cX2_takeFrom 28 = .ok (.iconst 0, 1) := by decide +kernel
theorem dX2_takeFrom_29 : decode cX2_takeFrom 29 = .ok (.aload_n 0, 1) := by decide +kernel
theorem dX2_takeFrom_30 : decode cX2_takeFrom 30 = .ok (.getfield 21, 3) := by decide +kernel
theorem dX2_takeFrom_33 : decode cX2_takeFrom 33 = .ok (.iconst 0, 1) := by decide +kernel
theorem dX2_takeFrom_34 : decode cX2_takeFrom 34 = .ok (.iconst 5, 1) := by decide +kernel
theorem dX2_takeFrom_35 : decode cX2_takeFrom 35 = .ok (.invokestatic 80, 3) := by decide +kernel
theorem dX2_takeFrom_38 : decode cX2_takeFrom 38 = .ok (.aload_n 1, 1) := by decide +kernel
theorem dX2_takeFrom_39 : decode cX2_takeFrom 39 = .ok (.getfield 25, 3) := by decide +kernel
theorem dX2_takeFrom_42 : decode cX2_takeFrom 42 = .ok (.iconst 0, 1) := by decide +kernel
theorem dX2_takeFrom_43 : decode cX2_takeFrom 43 = .ok (.aload_n 0, 1) := by decide +kernel
theorem dX2_takeFrom_44 : decode cX2_takeFrom 44 = .ok (.getfield 25, 3) := by decide +kernel
theorem dX2_takeFrom_47 : decode cX2_takeFrom 47 = .ok (.iconst 0, 1) := by decide +kernel
theorem dX2_takeFrom_48 : decode cX2_takeFrom 48 = .ok (.iconst 5, 1) := by decide +kernel
theorem dX2_takeFrom_49 : decode cX2_takeFrom 49 = .ok (.invokestatic 80, 3) := by decide +kernel
theorem dX2_takeFrom_52 : decode cX2_takeFrom 52 = .ok (.iconst 0, 1) := by decide +kernel
theorem dX2_takeFrom_53 : decode cX2_takeFrom 53 = .ok (.istore_n 2, 1) := by decide +kernel
theorem dX2_takeFrom_54 : decode cX2_takeFrom 54 = .ok (.iload_n 2, 1) := by decide +kernel
theorem dX2_takeFrom_55 : decode cX2_takeFrom 55 = .ok (.iconst 3, 1) := by decide +kernel
theorem dX2_takeFrom_56 : decode cX2_takeFrom 56 = .ok (.if_icmp .ge 24, 3) := by decide +kernel
theorem dX2_takeFrom_59 : decode cX2_takeFrom 59 = .ok (.aload_n 0, 1) := by decide +kernel
theorem dX2_takeFrom_60 : decode cX2_takeFrom 60 = .ok (.getfield 30, 3) := by decide +kernel
theorem dX2_takeFrom_63 : decode cX2_takeFrom 63 = .ok (.iload_n 2, 1) := by decide +kernel
theorem dX2_takeFrom_64 : decode cX2_takeFrom 64 = .ok (.aaload, 1) := by decide +kernel
theorem dX2_takeFrom_65 : decode cX2_takeFrom 65 = .ok (.aload_n 1, 1) := by decide +kernel
theorem dX2_takeFrom_66 : decode cX2_takeFrom 66 = .ok (.getfield 30, 3) := by decide +kernel
theorem dX2_takeFrom_69 : decode cX2_takeFrom 69 = .ok (.iload_n 2, 1) := by decide +kernel
theorem dX2_takeFrom_70 : decode cX2_takeFrom 70 = .ok (.aaload, 1) := by decide +kernel
theorem dX2_takeFrom_71 : decode cX2_takeFrom 71 = .ok (.invokevirtual 86, 3) := by decide +kernel
theorem dX2_takeFrom_74 : decode cX2_takeFrom 74 = .ok (.iinc 2 1, 3) := by decide +kernel
theorem dX2_takeFrom_77 : decode cX2_takeFrom 77 = .ok (.goto (-23), 3) := by decide +kernel
theorem dX2_takeFrom_80 : decode cX2_takeFrom 80 = .ok (.return_, 1) := by decide +kernel
theorem dX3_findRow_0 : decode cX3_findRow 0 = .ok (.aload_n 0, 1) := by decide +kernel
theorem dX3_findRow_1 : decode cX3_findRow 1 = .ok (.iload_n 2, 1) := by decide +kernel
theorem dX3_findRow_2 : decode cX3_findRow 2 = .ok (.putfield 35, 3) := by decide +kernel
theorem dX3_findRow_5 : decode cX3_findRow 5 = .ok (.aload_n 0, 1) := by decide +kernel
theorem dX3_findRow_6 : decode cX3_findRow 6 = .ok (.iconst 0, 1) := by decide +kernel
theorem dX3_findRow_7 : decode cX3_findRow 7 = .ok (.putfield 41, 3) := by decide +kernel
theorem dX3_findRow_10 : decode cX3_findRow 10 = .ok (.aload_n 0, 1) := by decide +kernel
theorem dX3_findRow_11 : decode cX3_findRow 11 = .ok (.iconst 0, 1) := by decide +kernel
theorem dX3_findRow_12 : decode cX3_findRow 12 = .ok (.putfield 38, 3) := by decide +kernel
theorem dX3_findRow_15 : decode cX3_findRow 15 = .ok (.aload_n 0, 1) := by decide +kernel
theorem dX3_findRow_16 : decode cX3_findRow 16 = .ok (.getfield 28, 3) := by decide +kernel
theorem dX3_findRow_19 : decode cX3_findRow 19 = .ok (.invokevirtual 45, 3) := by decide +kernel
theorem dX3_findRow_22 : decode cX3_findRow 22 = .ok (.aload_n 0, 1) := by decide +kernel
theorem dX3_findRow_23 : decode cX3_findRow 23 = .ok (.getfield 32, 3) := by decide +kernel
theorem dX3_findRow_26 : decode cX3_findRow 26 = .ok (.invokevirtual 45, 3) := by decide +kernel
theorem dX3_findRow_29 : decode cX3_findRow 29 = .ok (.aload_n 0, 1) := by decide +kernel
theorem dX3_findRow_30 : decode cX3_findRow 30 = .ok (.iload_n 1, 1) := by decide +kernel
theorem dX3_findRow_31 : decode cX3_findRow 31 = .ok (.iconst 0, 1) := by decide +kernel
theorem dX3_findRow_32 : decode cX3_findRow 32 = .ok (.iconst 0, 1) := by decide +kernel
theorem dX3_findRow_33 : decode cX3_findRow 33 = .ok (.invokevirtual 48, 3) := by decide +kernel
theorem dX3_findRow_36 : decode cX3_findRow 36 = .ok (.aload_n 0, 1) := by decide +kernel
theorem dX3_findRow_37 : decode cX3_findRow 37 = .ok (.getfield 41, 3) := by decide +kernel
theorem dX3_findRow_40 : decode cX3_findRow 40 = .ok (.ireturn, 1) := by decide +kernel
theorem dX3_takeFrom_0 : decode cX3_takeFrom 0 = .ok (.aload_n 1, 1) := by decide +kernel
theorem dX3_takeFrom_1 : decode cX3_takeFrom 1 = .ok (.getfield 9, 3) := by decide +kernel
theorem dX3_takeFrom_4 : decode cX3_takeFrom 4 = .ok (.iconst 0, 1) := by decide +kernel
theorem dX3_takeFrom_5 : decode cX3_takeFrom 5 = .ok (.aload_n 0, 1) := by decide +kernel
theorem dX3_takeFrom_6 : decode cX3_takeFrom 6 = .ok (.getfield 9, 3) := by decide +kernel
theorem dX3_takeFrom_9 : decode cX3_takeFrom 9 = .ok (.iconst 0, 1) := by decide +kernel
theorem dX3_takeFrom_10 : decode cX3_takeFrom 10 = .ok (.bipush 7, 2) := by decide +kernel
theorem dX3_takeFrom_12 : decode cX3_takeFrom 12 = .ok (.invokestatic 71, 3) := by decide +kernel
theorem dX3_takeFrom_15 : decode cX3_takeFrom 15 = .ok (.aload_n 1, 1) := by decide +kernel
theorem dX3_takeFrom_16 : decode cX3_takeFrom 16 = .ok (.getfield 13, 3) := by decide +kernel
theorem dX3_takeFrom_19 : decode cX3_takeFrom 19 = .ok (.iconst 0, 1) := by decide +kernel
theorem dX3_takeFrom_20 : decode cX3_takeFrom 20 = .ok (.aload_n 0, 1) := by decide +kernel
theorem dX3_takeFrom_21 : decode cX3_takeFrom 21 = .ok (.getfield 13, 3) := by decide +kernel
theorem dX3_takeFrom_24 : decode cX3_takeFrom 24 = .ok (.iconst 0, 1) := by decide +kernel
theorem dX3_takeFrom_25 : decode cX3_takeFrom 25 = .ok (.bipush 7, 2) := by decide +kernel
theorem dX3_takeFrom_27 : decode cX3_takeFrom 27 = .ok (.invokestatic 71, 3) := by decide +kernel
theorem dX3_takeFrom_30 : decode cX3_takeFrom 30 = .ok (.aload_n 1, 1) := by decide +kernel
theorem dX3_takeFrom_31 : decode cX3_takeFrom 31 = .ok (.getfield 16, 3) := by decide +kernel
theorem dX3_takeFrom_34 : decode cX3_takeFrom 34 = .ok (.iconst 0, 1) := by decide +kernel
theorem dX3_takeFrom_35 : decode cX3_takeFrom 35 = .ok (.aload_n 0, 1) := by decide +kernel
theorem dX3_takeFrom_36 : decode cX3_takeFrom 36 = .ok (.getfield 16, 3) := by decide +kernel
theorem dX3_takeFrom_39 : decode cX3_takeFrom 39 = .ok (.iconst 0, 1) := by decide +kernel
theorem dX3_takeFrom_40 : decode cX3_takeFrom 40 = .ok (.bipush 7, 2) := by decide +kernel
theorem dX3_takeFrom_42 : decode cX3_takeFrom 42 = .ok (.invokestatic 71, 3) := by decide +kernel
theorem dX3_takeFrom_45 : decode cX3_takeFrom 45 = .ok (.aload_n 0, 1) := by decide +kernel
theorem dX3_takeFrom_46 : decode cX3_takeFrom 46 = .ok (.aload_n 1, 1) := by decide +kernel
theorem dX3_takeFrom_47 : decode cX3_takeFrom 47 = .ok (.getfield 19, 3) := by decide +kernel
theorem dX3_takeFrom_50 : decode cX3_takeFrom 50 = .ok (.putfield 19, 3) := by decide +kernel
theorem dX3_takeFrom_53 : decode cX3_takeFrom 53 = .ok (.return_, 1) := by decide +kernel
theorem dX3_tryRows_0 : decode cX3_tryRows 0 = .ok (.aload_n 0, 1) := by decide +kernel
theorem dX3_tryRows_1 : decode cX3_tryRows 1 = .ok (.getfield 35, 3) := by decide +kernel
theorem dX3_tryRows_4 : decode cX3_tryRows 4 = .ok (.iload_n 1, 1) := by decide +kernel
theorem dX3_tryRows_5 : decode cX3_tryRows 5 = .ok (.iconst (-1), 1) := by decide +kernel
theorem dX3_tryRows_6 : decode cX3_tryRows 6 = .ok (.ixor, 1) := by decide +kernel
theorem dX3_tryRows_7 : decode cX3_tryRows 7 = .ok (.iand, 1) := by decide +kernel
theorem dX3_tryRows_8 : decode cX3_tryRows 8 = .ok (.ifCond .ne 40, 3) := by decide +kernel
theorem dX3_tryRows_11 : decode cX3_tryRows 11 = .ok (.aload_n 0, 1) := by decide +kernel
theorem dX3_tryRows_12 : decode cX3_tryRows 12 = .ok (.getfield 41, 3) := by decide +kernel
theorem dX3_tryRows_15 : decode cX3_tryRows 15 = .ok (.ifCond .eq 11, 3) := by decide +kernel
theorem dX3_tryRows_26 : decode cX3_tryRows 26 = .ok (.aload_n 0, 1) := by decide +kernel
theorem dX3_tryRows_27 : decode cX3_tryRows 27 = .ok (.iconst 1, 1) := by decide +kernel
theorem dX3_tryRows_28 : decode cX3_tryRows 28 = .ok (.putfield 41, 3) := by decide +kernel
theorem dX3_tryRows_31 : decode cX3_tryRows 31 = .ok (.aload_n 0, 1) := by decide +kernel
theorem dX3_tryRows_32 : decode cX3_tryRows 32 = .ok (.iload_n 3, 1) := by decide +kernel
theorem dX3_tryRows_33 : decode cX3_tryRows 33 = .ok (.putfield 38, 3) := by decide +kernel
theorem dX3_tryRows_36 : decode cX3_tryRows 36 = .ok (.aload_n 0, 1) := by decide +kernel
theorem dX3_tryRows_37 : decode cX3_tryRows 37 = .ok (.getfield 32, 3) := by decide +kernel
theorem dX3_tryRows_40 : decode cX3_tryRows 40 = .ok (.aload_n 0, 1) := by decide +kernel
theorem dX3_tryRows_41 : decode cX3_tryRows 41 = .ok (.getfield 28, 3) := by decide +kernel
theorem dX3_tryRows_44 : decode cX3_tryRows 44 = .ok (.invokevirtual 56, 3) := by decide +kernel
theorem dX3_tryRows_47 : decode cX3_tryRows 47 = .ok (.return_, 1) := by decide +kernel
theorem dX3_tryRows_48 : decode cX3_tryRows 48 = .ok (.aload_n 0, 1) := by decide +kernel
theorem dX3_tryRows_49 : decode cX3_tryRows 49 = .ok (.getfield 28, 3) := by decide +kernel
theorem dX3_tryRows_52 : decode cX3_tryRows 52 = .ok (.invokevirtual 60, 3) := by decide +kernel
theorem dX3_tryRows_55 : decode cX3_tryRows 55 = .ok (.ifCond .eq 18, 3) := by decide +kernel
theorem dX3_tryRows_58 : decode cX3_tryRows 58 = .ok (.aload_n 0, 1) := by decide +kernel
theorem dX3_tryRows_59 : decode cX3_tryRows 59 = .ok (.getfield 41, 3) := by decide +kernel
theorem dX3_tryRows_62 : decode cX3_tryRows 62 = .ok (.ifCond .eq 12, 3) := by decide +kernel
theorem dX3_tryRows_74 : decode cX3_tryRows 74 = .ok (.iconst 0, 1) := by decide +kernel
theorem dX3_tryRows_75 : decode cX3_tryRows 75 = .ok (.istore 4, 2) := by decide +kernel
theorem dX3_tryRows_77 : decode cX3_tryRows 77 = .ok (.iload 4, 2) := by decide +kernel
theorem dX3_tryRows_79 : decode cX3_tryRows 79 = .ok (.aload_n 0, 1) := by decide +kernel
theorem dX3_tryRows_80 : decode cX3_tryRows 80 = .ok (.getfield 19, 3) := by decide +kernel
theorem dX3_tryRows_83 : decode cX3_tryRows 83 = .ok (.if_icmp .ge 83, 3) := by decide +kernel
theorem dX3_tryRows_166 : decode cX3_tryRows 166 = .ok (.return_, 1) := by decide +kernel
theorem dX4_fail_0 : decode cX4_fail 0 = .ok (.aload_n 0, 1) := by decide +kernel
theorem dX4_fail_1 : decode cX4_fail 1 = .ok (.getfield 35, 3) := by decide +kernel
theorem dX4_fail_4 : decode cX4_fail 4 = .ok (.ifCond .ge 11, 3) := by decide +kernel
theorem dX4_fail_7 : decode cX4_fail 7 = .ok (.aload_n 0, 1) := by decide +kernel
theorem dX4_fail_8 : decode cX4_fail 8 = .ok (.aload_n 0, 1) := by decide +kernel
theorem dX4_fail_9 : decode cX4_fail 9 = .ok (.getfield 31, 3) := by decide +kernel
theorem dX4_fail_12 : decode cX4_fail 12 = .ok (.putfield 35, 3) := by decide +kernel
theorem dX4_fail_15 : decode cX4_fail 15 = .ok (.return_, 1) := by decide +kernel
theorem dX4_init_0 : decode cX4_init 0 = .ok (.aload_n 0, 1) := by decide +kernel
theorem dX4_init_1 : decode cX4_init 1 = .ok (.invokespecial 1, 3) := by decide +kernel
theorem dX4_init_4 : decode cX4_init 4 = .ok (.aload_n 0, 1) := by decide +kernel
theorem dX4_init_5 : decode cX4_init 5 = .ok (.new 7, 3) := by decide +kernel
theorem dX4_init_8 : decode cX4_init 8 = .ok (.dup, 1) := by decide +kernel
theorem dX4_init_9 : decode cX4_init 9 = .ok (.invokespecial 9, 3) := by decide +kernel
theorem dX4_init_12 : decode cX4_init 12 = .ok (.putfield 10, 3) := by decide +kernel
theorem dX4_init_15 : decode cX4_init 15 = .ok (.aload_n 0, 1) := by decide +kernel
theorem dX4_init_16 : decode cX4_init 16 = .ok (.new 16, 3) := by decide +kernel
theorem dX4_init_19 : decode cX4_init 19 = .ok (.dup, 1) := by decide +kernel
theorem dX4_init_20 : decode cX4_init 20 = .ok (.iconst 0, 1) := by decide +kernel
theorem dX4_init_21 : decode cX4_init 21 = .ok (.invokespecial 18, 3) := by decide +kernel
theorem dX4_init_24 : decode cX4_init 24 = .ok (.putfield 21, 3) := by decide +kernel
theorem dX4_init_27 : decode cX4_init 27 = .ok (.aload_n 0, 1) := by decide +kernel
theorem dX4_init_28 : decode cX4_init 28 = .ok (.ldc 25, 2) := by decide +kernel
theorem dX4_init_30 : decode cX4_init 30 = .ok (.putfield 27, 3) := by decide +kernel
theorem dX4_init_33 : decode cX4_init 33 = .ok (.aload_n 0, 1) := by decide +kernel
theorem dX4_init_34 : decode cX4_init 34 = .ok (.iconst 0, 1) := by decide +kernel
theorem dX4_init_35 : decode cX4_init 35 = .ok (.putfield 31, 3) := by decide +kernel
theorem dX4_init_38 : decode cX4_init 38 = .ok (.aload_n 0, 1) := by decide +kernel
theorem dX4_init_39 : decode cX4_init 39 = .ok (.iconst (-1), 1) := by decide +kernel
theorem dX4_init_40 : decode cX4_init 40 = .ok (.putfield 35, 3) := by decide +kernel
theorem dX4_init_43 : decode cX4_init 43 = .ok (.aload_n 0, 1) := by decide +kernel
theorem dX4_init_44 : decode cX4_init 44 = .ok (.iconst 0, 1) := by decide +kernel
theorem dX4_init_45 : decode cX4_init 45 = .ok (.putfield 38, 3) := by decide +kernel
theorem dX4_init_48 : decode cX4_init 48 = .ok (.aload_n 0, 1) := by decide +kernel
theorem dX4_init_49 : decode cX4_init 49 = .ok (.iconst 0, 1) := by decide +kernel
theorem dX4_init_50 : decode cX4_init 50 = .ok (.putfield 41, 3) := by decide +kernel
theorem dX4_init_53 : decode cX4_init 53 = .ok (.return_, 1) := by decide +kernel
theorem dX4_next_0 : decode cX4_next 0 = .ok (.aload_n 0, 1) := by decide +kernel
theorem dX4_next_1 : decode cX4_next 1 = .ok (.getfield 31, 3) := by decide +kernel
theorem dX4_next_4 : decode cX4_next 4 = .ok (.aload_n 0, 1) := by decide +kernel
theorem dX4_next_5 : decode cX4_next 5 = .ok (.getfield 21, 3) := by decide +kernel
theorem dX4_next_8 : decode cX4_next 8 = .ok (.getfield 65, 3) := by decide +kernel
theorem dX4_next_11 : decode cX4_next 11 = .ok (.if_icmp .ge 32, 3) := by decide +kernel
theorem dX4_next_43 : decode cX4_next 43 = .ok (.aload_n 0, 1) := by decide +kernel
theorem dX4_next_44 : decode cX4_next 44 = .ok (.getfield 31, 3) := by decide +kernel
theorem dX4_next_47 : decode cX4_next 47 = .ok (.aload_n 0, 1) := by decide +kernel
theorem dX4_next_48 : decode cX4_next 48 = .ok (.getfield 21, 3) := by decide +kernel
theorem dX4_next_51 : decode cX4_next 51 = .ok (.getfield 65, 3) := by decide +kernel
theorem dX4_next_54 : decode cX4_next 54 = .ok (.if_icmp .ge 17, 3) := by decide +kernel
theorem dX4_next_71 : decode cX4_next 71 = .ok (.iconst (-1), 1) := by decide +kernel
theorem dX4_next_72 : decode cX4_next 72 = .ok (.ireturn, 1) := by decide +kernel
theorem dX4_read_0 : decode cX4_read 0 = .ok (.aload_n 0, 1) := by decide +kernel
theorem dX4_read_1 : decode cX4_read 1 = .ok (.aload_n 1, 1) := by decide +kernel
theorem dX4_read_2 : decode cX4_read 2 = .ok (.putfield 21, 3) := by decide +kernel
theorem dX4_read_5 : decode cX4_read 5 = .ok (.aload_n 0, 1) := by decide +kernel
theorem dX4_read_6 : decode cX4_read 6 = .ok (.iload_n 2, 1) := by decide +kernel
theorem dX4_read_7 : decode cX4_read 7 = .ok (.ifCond .ne 8, 3) := by decide +kernel
theorem dX4_read_10 : decode cX4_read 10 = .ok (.ldc 44, 2) := by decide +kernel
theorem dX4_read_12 : decode cX4_read 12 = .ok (.goto 15, 3) := by decide +kernel
theorem dX4_read_15 : decode cX4_read 15 = .ok (.iload_n 2, 1) := by decide +kernel
theorem dX4_read_16 : decode cX4_read 16 = .ok (.iconst 1, 1) := by decide +kernel
theorem dX4_read_17 : decode cX4_read 17 = .ok (.if_icmp .ne 8, 3) := by decide +kernel
theorem dX4_read_20 : decode cX4_read 20 = .ok (.ldc 48, 2) := by decide +kernel
theorem dX4_read_22 : decode cX4_read 22 = .ok (.goto 5, 3) := by decide +kernel
theorem dX4_read_25 : decode cX4_read 25 = .ok (.ldc 50, 2) := by decide +kernel
theorem dX4_read_27 : decode cX4_read 27 = .ok (.putfield 27, 3) := by decide +kernel
theorem dX4_read_30 : decode cX4_read 30 = .ok (.aload_n 0, 1) := by decide +kernel
theorem dX4_read_31 : decode cX4_read 31 = .ok (.iconst 0, 1) := by decide +kernel
theorem dX4_read_32 : decode cX4_read 32 = .ok (.putfield 31, 3) := by decide +kernel
theorem dX4_read_35 : decode cX4_read 35 = .ok (.aload_n 0, 1) := by decide +kernel
theorem dX4_read_36 : decode cX4_read 36 = .ok (.iconst (-1), 1) := by decide +kernel
theorem dX4_read_37 : decode cX4_read 37 = .ok (.putfield 35, 3) := by decide +kernel
theorem dX4_read_40 : decode cX4_read 40 = .ok (.aload_n 0, 1) := by decide +kernel
theorem dX4_read_41 : decode cX4_read 41 = .ok (.iconst 0, 1) := by decide +kernel
theorem dX4_read_42 : decode cX4_read 42 = .ok (.putfield 38, 3) := by decide +kernel
theorem dX4_read_45 : decode cX4_read 45 = .ok (.aload_n 0, 1) := by decide +kernel
theorem dX4_read_46 : decode cX4_read 46 = .ok (.iconst 0, 1) := by decide +kernel
theorem dX4_read_47 : decode cX4_read 47 = .ok (.putfield 41, 3) := by decide +kernel
theorem dX4_read_50 : decode cX4_read 50 = .ok (.aload_n 0, 1) := by decide +kernel
theorem dX4_read_51 : decode cX4_read 51 = .ok (.getfield 10, 3) := by decide +kernel
theorem dX4_read_54 : decode cX4_read 54 = .ok (.invokevirtual 52, 3) := by decide +kernel
theorem dX4_read_57 : decode cX4_read 57 = .ok (.aload_n 0, 1) := by decide +kernel
theorem dX4_read_58 : decode cX4_read 58 = .ok (.invokevirtual 55, 3) := by decide +kernel
theorem dX4_read_61 : decode cX4_read 61 = .ok (.aload_n 0, 1) := by decide +kernel
theorem dX4_read_62 : decode cX4_read 62 = .ok (.invokevirtual 58, 3) := by decide +kernel
theorem dX4_read_65 : decode cX4_read 65 = .ok (.ifCond .lt 7, 3) := by decide +kernel
theorem dX4_read_72 : decode cX4_read 72 = .ok (.aload_n 0, 1) := by decide +kernel
theorem dX4_read_73 : decode cX4_read 73 = .ok (.getfield 35, 3) := by decide +kernel
theorem dX4_read_76 : decode cX4_read 76 = .ok (.ifCond .ge 10, 3) := by decide +kernel
theorem dX4_read_86 : decode cX4_read 86 = .ok (.bipush (-10), 2) := by decide +kernel
theorem dX4_read_88 : decode cX4_read 88 = .ok (.aload_n 0, 1) := by decide +kernel
theorem dX4_read_89 : decode cX4_read 89 = .ok (.getfield 35, 3) := by decide +kernel
theorem dX4_read_92 : decode cX4_read 92 = .ok (.isub, 1) := by decide +kernel
theorem dX4_read_93 : decode cX4_read 93 = .ok (.ireturn, 1) := by decide +kernel
theorem dX4_readComparisons_0 : decode cX4_readComparisons 0 = .ok (.aload_n 0, 1) := by decide +kernel
theorem dX4_readComparisons_1 : decode cX4_readComparisons 1 = .ok (.invokevirtual 72, 3) := by decide +kernel
theorem dX4_readComparisons_4 : decode cX4_readComparisons 4 = .ok (.iconst 0, 1) := by decide +kernel
theorem dX4_readComparisons_5 : decode cX4_readComparisons 5 = .ok (.istore_n 1, 1) := by decide +kernel
theorem dX4_readComparisons_6 : decode cX4_readComparisons 6 = .ok (.iload_n 1, 1) := by decide +kernel
theorem dX4_readComparisons_7 : decode cX4_readComparisons 7 = .ok (.bipush 48, 2) := by decide +kernel
theorem dX4_readComparisons_9 : decode cX4_readComparisons 9 = .ok (.if_icmp .ge 66, 3) := by decide +kernel
theorem dX4_readComparisons_12 : decode cX4_readComparisons 12 = .ok (.aload_n 0, 1) := by decide +kernel
theorem dX4_readComparisons_13 : decode cX4_readComparisons 13 = .ok (.getfield 35, 3) := by decide +kernel
theorem dX4_readComparisons_16 : decode cX4_readComparisons 16 = .ok (.ifCond .ge 59, 3) := by decide +kernel
theorem dX4_readComparisons_75 : decode cX4_readComparisons 75 = .ok (.return_, 1) := by decide +kernel
theorem dX4_readName_0 : decode cX4_readName 0 = .ok (.iload_n 1, 1) := by decide +kernel
theorem dX4_readName_1 : decode cX4_readName 1 = .ok (.ifCond .lt 9, 3) := by decide +kernel
theorem dX4_readName_10 : decode cX4_readName 10 = .ok (.iconst (-1), 1) := by decide +kernel
theorem dX4_readName_11 : decode cX4_readName 11 = .ok (.goto 12, 3) := by decide +kernel
theorem dX4_readName_23 : decode cX4_readName 23 = .ok (.istore_n 2, 1) := by decide +kernel
theorem dX4_readName_24 : decode cX4_readName 24 = .ok (.iload_n 2, 1) := by decide +kernel
theorem dX4_readName_25 : decode cX4_readName 25 = .ok (.ifCond .ge 8, 3) := by decide +kernel
theorem dX4_readName_28 : decode cX4_readName 28 = .ok (.aload_n 0, 1) := by decide +kernel
theorem dX4_readName_29 : decode cX4_readName 29 = .ok (.invokevirtual 62, 3) := by decide +kernel
theorem dX4_readName_32 : decode cX4_readName 32 = .ok (.return_, 1) := by decide +kernel
theorem dX4_readOne_0 : decode cX4_readOne 0 = .ok (.aload_n 0, 1) := by decide +kernel
theorem dX4_readOne_1 : decode cX4_readOne 1 = .ok (.getfield 35, 3) := by decide +kernel
theorem dX4_readOne_4 : decode cX4_readOne 4 = .ok (.ifCond .lt 4, 3) := by decide +kernel
theorem dX4_readOne_8 : decode cX4_readOne 8 = .ok (.aload_n 0, 1) := by decide +kernel
theorem dX4_readOne_9 : decode cX4_readOne 9 = .ok (.invokevirtual 58, 3) := by decide +kernel
theorem dX4_readOne_12 : decode cX4_readOne 12 = .ok (.istore_n 1, 1) := by decide +kernel
theorem dX4_readOne_13 : decode cX4_readOne 13 = .ok (.iload_n 1, 1) := by decide +kernel
theorem dX4_readOne_14 : decode cX4_readOne 14 = .ok (.bipush 48, 2) := by decide +kernel
theorem dX4_readOne_16 : decode cX4_readOne 16 = .ok (.if_icmp .lt 16, 3) := by decide +kernel
theorem dX4_readOne_32 : decode cX4_readOne 32 = .ok (.iload_n 1, 1) := by decide +kernel
theorem dX4_readOne_33 : decode cX4_readOne 33 = .ok (.bipush 45, 2) := by decide +kernel
theorem dX4_readOne_35 : decode cX4_readOne 35 = .ok (.if_icmp .eq 15, 3) := by decide +kernel
theorem dX4_readOne_38 : decode cX4_readOne 38 = .ok (.iload_n 1, 1) := by decide +kernel
theorem dX4_readOne_39 : decode cX4_readOne 39 = .ok (.bipush 40, 2) := by decide +kernel
theorem dX4_readOne_41 : decode cX4_readOne 41 = .ok (.if_icmp .eq 9, 3) := by decide +kernel
theorem dX4_readOne_44 : decode cX4_readOne 44 = .ok (.iload_n 1, 1) := by decide +kernel
theorem dX4_readOne_45 : decode cX4_readOne 45 = .ok (.bipush 91, 2) := by decide +kernel
theorem dX4_readOne_47 : decode cX4_readOne 47 = .ok (.if_icmp .ne 11, 3) := by decide +kernel
theorem dX4_readOne_58 : decode cX4_readOne 58 = .ok (.aload_n 0, 1) := by decide +kernel
theorem dX4_readOne_59 : decode cX4_readOne 59 = .ok (.iload_n 1, 1) := by decide +kernel
theorem dX4_readOne_60 : decode cX4_readOne 60 = .ok (.invokevirtual 90, 3) := by decide +kernel
theorem dX4_readOne_63 : decode cX4_readOne 63 = .ok (.return_, 1) := by decide +kernel
theorem dX4_readSum_0 : decode cX4_readSum 0 = .ok (.aload_n 0, 1) := by decide +kernel
theorem dX4_readSum_1 : decode cX4_readSum 1 = .ok (.invokevirtual 78, 3) := by decide +kernel
theorem dX4_readSum_4 : decode cX4_readSum 4 = .ok (.iconst 0, 1) := by decide +kernel
theorem dX4_readSum_5 : decode cX4_readSum 5 = .ok (.istore_n 1, 1) := by decide +kernel
theorem dX4_readSum_6 : decode cX4_readSum 6 = .ok (.iload_n 1, 1) := by decide +kernel
theorem dX4_readSum_7 : decode cX4_readSum 7 = .ok (.bipush 48, 2) := by decide +kernel
theorem dX4_readSum_9 : decode cX4_readSum 9 = .ok (.if_icmp .ge 60, 3) := by decide +kernel
theorem dX4_readSum_12 : decode cX4_readSum 12 = .ok (.aload_n 0, 1) := by decide +kernel
theorem dX4_readSum_13 : decode cX4_readSum 13 = .ok (.getfield 35, 3) := by decide +kernel
theorem dX4_readSum_16 : decode cX4_readSum 16 = .ok (.ifCond .ge 53, 3) := by decide +kernel
theorem dX4_readSum_69 : decode cX4_readSum 69 = .ok (.return_, 1) := by decide +kernel
theorem dX4_readTerm_0 : decode cX4_readTerm 0 = .ok (.aload_n 0, 1) := by decide +kernel
theorem dX4_readTerm_1 : decode cX4_readTerm 1 = .ok (.invokevirtual 81, 3) := by decide +kernel
theorem dX4_readTerm_4 : decode cX4_readTerm 4 = .ok (.iconst 0, 1) := by decide +kernel
theorem dX4_readTerm_5 : decode cX4_readTerm 5 = .ok (.istore_n 1, 1) := by decide +kernel
theorem dX4_readTerm_6 : decode cX4_readTerm 6 = .ok (.iload_n 1, 1) := by decide +kernel
theorem dX4_readTerm_7 : decode cX4_readTerm 7 = .ok (.bipush 48, 2) := by decide +kernel
theorem dX4_readTerm_9 : decode cX4_readTerm 9 = .ok (.if_icmp .ge 66, 3) := by decide +kernel
theorem dX4_readTerm_12 : decode cX4_readTerm 12 = .ok (.aload_n 0, 1) := by decide +kernel
theorem dX4_readTerm_13 : decode cX4_readTerm 13 = .ok (.getfield 35, 3) := by decide +kernel
theorem dX4_readTerm_16 : decode cX4_readTerm 16 = .ok (.ifCond .ge 59, 3) := by decide +kernel
theorem dX4_readTerm_75 : decode cX4_readTerm 75 = .ok (.return_, 1) := by decide +kernel
theorem dX8_init_0 : decode cX8_init 0 = .ok (.aload_n 0, 1) := by decide +kernel
theorem dX8_init_1 : decode cX8_init 1 = .ok (.invokespecial 1, 3) := by decide +kernel
theorem dX8_init_4 : decode cX8_init 4 = .ok (.aload_n 0, 1) := by decide +kernel
theorem dX8_init_5 : decode cX8_init 5 = .ok (.new 7, 3) := by decide +kernel
theorem dX8_init_8 : decode cX8_init 8 = .ok (.dup, 1) := by decide +kernel
theorem dX8_init_9 : decode cX8_init 9 = .ok (.bipush 30, 2) := by decide +kernel
theorem dX8_init_11 : decode cX8_init 11 = .ok (.invokespecial 9, 3) := by decide +kernel
theorem dX8_init_14 : decode cX8_init 14 = .ok (.putfield 12, 3) := by decide +kernel
theorem dX8_init_17 : decode cX8_init 17 = .ok (.aload_n 0, 1) := by decide +kernel
theorem dX8_init_18 : decode cX8_init 18 = .ok (.new 7, 3) := by decide +kernel
theorem dX8_init_21 : decode cX8_init 21 = .ok (.dup, 1) := by decide +kernel
theorem dX8_init_22 : decode cX8_init 22 = .ok (.bipush 30, 2) := by decide +kernel
theorem dX8_init_24 : decode cX8_init 24 = .ok (.invokespecial 9, 3) := by decide +kernel
theorem dX8_init_27 : decode cX8_init 27 = .ok (.putfield 18, 3) := by decide +kernel
theorem dX8_init_30 : decode cX8_init 30 = .ok (.aload_n 0, 1) := by decide +kernel
theorem dX8_init_31 : decode cX8_init 31 = .ok (.iconst 0, 1) := by decide +kernel
theorem dX8_init_32 : decode cX8_init 32 = .ok (.putfield 21, 3) := by decide +kernel
theorem dX8_init_35 : decode cX8_init 35 = .ok (.aload_n 0, 1) := by decide +kernel
theorem dX8_init_36 : decode cX8_init 36 = .ok (.iconst 0, 1) := by decide +kernel
theorem dX8_init_37 : decode cX8_init 37 = .ok (.putfield 25, 3) := by decide +kernel
theorem dX8_init_40 : decode cX8_init 40 = .ok (.aload_n 0, 1) := by decide +kernel
theorem dX8_init_41 : decode cX8_init 41 = .ok (.iconst 0, 1) := by decide +kernel
theorem dX8_init_42 : decode cX8_init 42 = .ok (.putfield 28, 3) := by decide +kernel
theorem dX8_init_45 : decode cX8_init 45 = .ok (.aload_n 0, 1) := by decide +kernel
theorem dX8_init_46 : decode cX8_init 46 = .ok (.iconst 0, 1) := by decide +kernel
theorem dX8_init_47 : decode cX8_init 47 = .ok (.putfield 31, 3) := by decide +kernel
theorem dX8_init_50 : decode cX8_init 50 = .ok (.return_, 1) := by decide +kernel
