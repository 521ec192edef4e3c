/-! words of the tables that are used, by their places; decode rows; classes -/
theorem m_0 : Cond.selects yX11_error.cls yX11_error yX11_error ∈ BASE := bmem 0 (by decide +kernel) rfl
theorem m_80 : Cond.initialized RX10 ∈ BASE := bmem 80 (by decide +kernel) rfl
theorem m_91 : Cond.initialized RX6 ∈ BASE := bmem 91 (by decide +kernel) rfl
theorem m_459 : Cond.fieldLink RX11 10 "ClickStreet" "live" "LClickStreet$World;" ∈ BASE := bmem 459 (by decide +kernel) rfl
theorem m_462 : Cond.fieldLink RX11 24 "ClickStreet" "sheets" "[LClickStreet$Sheet;" ∈ BASE := bmem 462 (by decide +kernel) rfl
theorem m_463 : Cond.fieldLink RX11 28 "ClickStreet" "errors" "[I" ∈ BASE := bmem 463 (by decide +kernel) rfl
theorem m_491 : Cond.methodLink RX11 58 yX11_isThingKind ∈ BASE := bmem 491 (by decide +kernel) rfl
theorem m_492 : Cond.static yX11_isThingKind ∈ BASE := bmem 492 (by decide +kernel) rfl
theorem m_493 : Cond.code yX11_isThingKind cX11_isThingKind 1 (some .boolean) ∈ BASE := bmem 493 (by decide +kernel) rfl
theorem m_497 : Cond.methodLink RX11 62 yX7_isCell ∈ BASE := bmem 497 (by decide +kernel) rfl
theorem m_500 : Cond.methodLink RX11 67 yX11_error ∈ BASE := bmem 500 (by decide +kernel) rfl
theorem m_502 : Cond.instanceMethod yX11_error ∈ BASE := bmem 502 (by decide +kernel) rfl
theorem m_503 : Cond.code yX11_error cX11_error 2 (some .int) ∈ BASE := bmem 503 (by decide +kernel) rfl
theorem m_504 : Cond.constant RX11 398 (-1000000) ∈ BASE := bmem 504 (by decide +kernel) rfl
theorem m_505 : Cond.methodLink RX11 75 yX7_isFree ∈ BASE := bmem 505 (by decide +kernel) rfl
theorem m_506 : Cond.instanceMethod yX7_isFree ∈ BASE := bmem 506 (by decide +kernel) rfl
theorem m_507 : Cond.selects yX7_isFree.cls yX7_isFree yX7_isFree ∈ BASE := bmem 507 (by decide +kernel) rfl
theorem m_508 : Cond.code yX7_isFree cX7_isFree 2 (some .boolean) ∈ BASE := bmem 508 (by decide +kernel) rfl
theorem m_510 : Cond.methodLink RX11 78 yX7_hasRoom ∈ BASE := bmem 510 (by decide +kernel) rfl
theorem m_511 : Cond.instanceMethod yX7_hasRoom ∈ BASE := bmem 511 (by decide +kernel) rfl
theorem m_512 : Cond.selects yX7_hasRoom.cls yX7_hasRoom yX7_hasRoom ∈ BASE := bmem 512 (by decide +kernel) rfl
theorem m_513 : Cond.code yX7_hasRoom cX7_hasRoom 1 (some .boolean) ∈ BASE := bmem 513 (by decide +kernel) rfl
theorem m_514 : Cond.methodLink RX11 82 yX7_addThing ∈ BASE := bmem 514 (by decide +kernel) rfl
theorem m_515 : Cond.instanceMethod yX7_addThing ∈ BASE := bmem 515 (by decide +kernel) rfl
theorem m_516 : Cond.selects yX7_addThing.cls yX7_addThing yX7_addThing ∈ BASE := bmem 516 (by decide +kernel) rfl
theorem m_517 : Cond.code yX7_addThing cX7_addThing 4 (some .int) ∈ BASE := bmem 517 (by decide +kernel) rfl
theorem m_526 : Cond.methodLink RX11 86 yX7_hasThing ∈ BASE := bmem 526 (by decide +kernel) rfl
theorem m_527 : Cond.instanceMethod yX7_hasThing ∈ BASE := bmem 527 (by decide +kernel) rfl
theorem m_528 : Cond.selects yX7_hasThing.cls yX7_hasThing yX7_hasThing ∈ BASE := bmem 528 (by decide +kernel) rfl
theorem m_529 : Cond.code yX7_hasThing cX7_hasThing 2 (some .boolean) ∈ BASE := bmem 529 (by decide +kernel) rfl
theorem m_539 : Cond.methodLink RX11 96 yX7_isSide ∈ BASE := bmem 539 (by decide +kernel) rfl
theorem m_540 : Cond.static yX7_isSide ∈ BASE := bmem 540 (by decide +kernel) rfl
theorem m_541 : Cond.code yX7_isSide cX7_isSide 1 (some .boolean) ∈ BASE := bmem 541 (by decide +kernel) rfl
theorem m_554 : Cond.methodLink RX11 118 yX2_changeKind ∈ BASE := bmem 554 (by decide +kernel) rfl
theorem m_555 : Cond.instanceMethod yX2_changeKind ∈ BASE := bmem 555 (by decide +kernel) rfl
theorem m_556 : Cond.selects yX2_changeKind.cls yX2_changeKind yX2_changeKind ∈ BASE := bmem 556 (by decide +kernel) rfl
theorem m_557 : Cond.code yX2_changeKind cX2_changeKind 6 (some .int) ∈ BASE := bmem 557 (by decide +kernel) rfl
theorem m_566 : Cond.methodLink RX11 127 yX11_isSheet ∈ BASE := bmem 566 (by decide +kernel) rfl
theorem m_567 : Cond.static yX11_isSheet ∈ BASE := bmem 567 (by decide +kernel) rfl
theorem m_568 : Cond.code yX11_isSheet cX11_isSheet 1 (some .boolean) ∈ BASE := bmem 568 (by decide +kernel) rfl
theorem m_569 : Cond.methodLink RX11 130 yX6_isMissing ∈ BASE := bmem 569 (by decide +kernel) rfl
theorem m_570 : Cond.instanceMethod yX6_isMissing ∈ BASE := bmem 570 (by decide +kernel) rfl
theorem m_571 : Cond.selects yX6_isMissing.cls yX6_isMissing yX6_isMissing ∈ BASE := bmem 571 (by decide +kernel) rfl
theorem m_572 : Cond.code yX6_isMissing cX6_isMissing 1 (some .boolean) ∈ BASE := bmem 572 (by decide +kernel) rfl
theorem m_585 : Cond.methodLink RX11 142 yX2_changeAir ∈ BASE := bmem 585 (by decide +kernel) rfl
theorem m_586 : Cond.instanceMethod yX2_changeAir ∈ BASE := bmem 586 (by decide +kernel) rfl
theorem m_587 : Cond.selects yX2_changeAir.cls yX2_changeAir yX2_changeAir ∈ BASE := bmem 587 (by decide +kernel) rfl
theorem m_588 : Cond.code yX2_changeAir cX2_changeAir 4 (some .int) ∈ BASE := bmem 588 (by decide +kernel) rfl
theorem m_593 : Cond.methodLink RX11 145 yX11_isWalkerKind ∈ BASE := bmem 593 (by decide +kernel) rfl
theorem m_594 : Cond.static yX11_isWalkerKind ∈ BASE := bmem 594 (by decide +kernel) rfl
theorem m_595 : Cond.code yX11_isWalkerKind cX11_isWalkerKind 1 (some .boolean) ∈ BASE := bmem 595 (by decide +kernel) rfl
theorem m_596 : Cond.methodLink RX11 151 yX10_addWalker ∈ BASE := bmem 596 (by decide +kernel) rfl
theorem m_597 : Cond.instanceMethod yX10_addWalker ∈ BASE := bmem 597 (by decide +kernel) rfl
theorem m_598 : Cond.selects yX10_addWalker.cls yX10_addWalker yX10_addWalker ∈ BASE := bmem 598 (by decide +kernel) rfl
theorem m_599 : Cond.code yX10_addWalker cX10_addWalker 5 (some .int) ∈ BASE := bmem 599 (by decide +kernel) rfl
theorem kS_X11_isSheet : KS yX11_isSheet cX11_isSheet 1 (some .boolean) 1 := ⟨m_567, m_79, m_568, by decide +kernel, by decide +kernel, by decide +kernel⟩
theorem kS_X11_isThingKind : KS yX11_isThingKind cX11_isThingKind 1 (some .boolean) 1 := ⟨m_492, m_79, m_493, by decide +kernel, by decide +kernel, by decide +kernel⟩
theorem kS_X11_isWalkerKind : KS yX11_isWalkerKind cX11_isWalkerKind 1 (some .boolean) 1 := ⟨m_594, m_79, m_595, by decide +kernel, by decide +kernel, by decide +kernel⟩
theorem kS_X7_isSide : KS yX7_isSide cX7_isSide 1 (some .boolean) 1 := ⟨m_540, m_81, m_541, by decide +kernel, by decide +kernel, by decide +kernel⟩
theorem kV_X10_addWalker : KV yX10_addWalker cX10_addWalker 5 (some .int) 3 := ⟨m_597, m_598, m_80, m_599, by decide +kernel, by decide +kernel, by decide +kernel⟩
theorem kV_X11_error : KV yX11_error cX11_error 2 (some .int) 1 := ⟨m_502, m_0, m_79, m_503, by decide +kernel, by decide +kernel, by decide +kernel⟩
theorem kV_X2_changeAir : KV yX2_changeAir cX2_changeAir 4 (some .int) 2 := ⟨m_586, m_587, m_82, m_588, by decide +kernel, by decide +kernel, by decide +kernel⟩
theorem kV_X2_changeKind : KV yX2_changeKind cX2_changeKind 6 (some .int) 3 := ⟨m_555, m_556, m_82, m_557, by decide +kernel, by decide +kernel, by decide +kernel⟩
theorem kV_X6_isMissing : KV yX6_isMissing cX6_isMissing 1 (some .boolean) 0 := ⟨m_570, m_571, m_91, m_572, by decide +kernel, by decide +kernel, by decide +kernel⟩
theorem kV_X7_addThing : KV yX7_addThing cX7_addThing 4 (some .int) 2 := ⟨m_515, m_516, m_81, m_517, by decide +kernel, by decide +kernel, by decide +kernel⟩
theorem kV_X7_hasRoom : KV yX7_hasRoom cX7_hasRoom 1 (some .boolean) 0 := ⟨m_511, m_512, m_81, m_513, by decide +kernel, by decide +kernel, by decide +kernel⟩
theorem kV_X7_hasThing : KV yX7_hasThing cX7_hasThing 2 (some .boolean) 1 := ⟨m_527, m_528, m_81, m_529, by decide +kernel, by decide +kernel, by decide +kernel⟩
theorem kV_X7_isFree : KV yX7_isFree cX7_isFree 2 (some .boolean) 1 := ⟨m_506, m_507, m_81, m_508, by decide +kernel, by decide +kernel, by decide +kernel⟩
theorem inB11 : ∀ w ∈ u_ws RX11 TX11 9, w ∈ BASE := bmems (u_ws RX11 TX11 9) [468, 470, 472, 474, 476, 478, 480, 482, 484] (by decide +kernel) (by decide +kernel)
theorem df11 : ∀ j, j < 9 → defaultValue (tyX11 j) = vp_V [.null, .null, .null, .null, .null, .null, .null, .null, .int 0] j := fun j hj => by rcases (show j = 0 ∨ j = 1 ∨ j = 2 ∨ j = 3 ∨ j = 4 ∨ j = 5 ∨ j = 6 ∨ j = 7 ∨ j = 8 by omega) with rfl | rfl | rfl | rfl | rfl | rfl | rfl | rfl | rfl <;> rfl
theorem nf_RX11_71 {G : va_G} {cy : Nat → ClassId} {sk : Nat → Nat} {s : State} {args : Array Value} (h : EN G cy sk s) : (Cond.fieldLinkNest RX11 71 "ClickStreet$World" "street" "LClickStreet$Street;" "ClickStreet").before args s = true := va_Nw.use rfl (h.2.1 _ (List.mem_of_getElem? (l := NFs) (i := 30) rfl))
theorem nf_RX11_114 {G : va_G} {cy : Nat → ClassId} {sk : Nat → Nat} {s : State} {args : Array Value} (h : EN G cy sk s) : (Cond.fieldLinkNest RX11 114 "ClickStreet$World" "laws" "LClickStreet$Laws;" "ClickStreet").before args s = true := va_Nw.use rfl (h.2.1 _ (List.mem_of_getElem? (l := NFs) (i := 32) rfl))
theorem nf_RX11_124 {G : va_G} {cy : Nat → ClassId} {sk : Nat → Nat} {s : State} {args : Array Value} (h : EN G cy sk s) : (Cond.fieldLinkNest RX11 124 "ClickStreet$Street" "occupants" "[I" "ClickStreet").before args s = true := va_Nw.use rfl (h.2.1 _ (List.mem_of_getElem? (l := NFs) (i := 1) rfl))
theorem nf_RX11_148 {G : va_G} {cy : Nat → ClassId} {sk : Nat → Nat} {s : State} {args : Array Value} (h : EN G cy sk s) : (Cond.fieldLinkNest RX11 148 "ClickStreet$World" "walkerCount" "I" "ClickStreet").before args s = true := va_Nw.use rfl (h.2.1 _ (List.mem_of_getElem? (l := NFs) (i := 39) rfl))
/-! decode rows -/
theorem dX11_air_0 : decode cX11_air 0 = .ok (.iload_n 1, 1) := by decide +kernel
theorem dX11_air_1 : decode cX11_air 1 = .ok (.iconst 0, 1) := by decide +kernel
theorem dX11_air_2 : decode cX11_air 2 = .ok (.iconst 2, 1) := by decide +kernel
theorem dX11_air_3 : decode cX11_air 3 = .ok (.invokestatic 89, 3) := by decide +kernel
theorem dX11_air_6 : decode cX11_air 6 = .ok (.ifCond .eq 31, 3) := by decide +kernel
theorem dX11_air_9 : decode cX11_air 9 = .ok (.iload_n 2, 1) := by decide +kernel
theorem dX11_air_10 : decode cX11_air 10 = .ok (.iconst 0, 1) := by decide +kernel
theorem dX11_air_11 : decode cX11_air 11 = .ok (.iload_n 1, 1) := by decide +kernel
theorem dX11_air_12 : decode cX11_air 12 = .ok (.ifCond .ne 8, 3) := by decide +kernel
theorem dX11_air_15 : decode cX11_air 15 = .ok (.bipush 99, 2) := by decide +kernel
theorem dX11_air_17 : decode cX11_air 17 = .ok (.goto 14, 3) := by decide +kernel
theorem dX11_air_20 : decode cX11_air 20 = .ok (.iload_n 1, 1) := by decide +kernel
theorem dX11_air_21 : decode cX11_air 21 = .ok (.iconst 1, 1) := by decide +kernel
theorem dX11_air_22 : decode cX11_air 22 = .ok (.if_icmp .ne 8, 3) := by decide +kernel
theorem dX11_air_25 : decode cX11_air 25 = .ok (.bipush 90, 2) := by decide +kernel
theorem dX11_air_27 : decode cX11_air 27 = .ok (.goto 4, 3) := by decide +kernel
theorem dX11_air_30 : decode cX11_air 30 = .ok (.iconst 1, 1) := by decide +kernel
theorem dX11_air_31 : decode cX11_air 31 = .ok (.invokestatic 89, 3) := by decide +kernel
theorem dX11_air_34 : decode cX11_air 34 = .ok (.ifCond .ne 9, 3) := by decide +kernel
theorem dX11_air_37 : decode cX11_air 37 = .ok (.aload_n 0, 1) := by decide +kernel
theorem dX11_air_38 : decode cX11_air 38 = .ok (.iconst 1, 1) := by decide +kernel
theorem dX11_air_39 : decode cX11_air 39 = .ok (.invokevirtual 67, 3) := by decide +kernel
theorem dX11_air_42 : decode cX11_air 42 = .ok (.ireturn, 1) := by decide +kernel
theorem dX11_air_43 : decode cX11_air 43 = .ok (.aload_n 0, 1) := by decide +kernel
theorem dX11_air_44 : decode cX11_air 44 = .ok (.getfield 10, 3) := by decide +kernel
theorem dX11_air_47 : decode cX11_air 47 = .ok (.getfield 114, 3) := by decide +kernel
theorem dX11_air_50 : decode cX11_air 50 = .ok (.iload_n 1, 1) := by decide +kernel
theorem dX11_air_51 : decode cX11_air 51 = .ok (.iload_n 2, 1) := by decide +kernel
theorem dX11_air_52 : decode cX11_air 52 = .ok (.invokevirtual 142, 3) := by decide +kernel
theorem dX11_air_55 : decode cX11_air 55 = .ok (.ireturn, 1) := by decide +kernel
theorem dX11_at_0 : decode cX11_at 0 = .ok (.iload_n 1, 1) := by decide +kernel
theorem dX11_at_1 : decode cX11_at 1 = .ok (.invokestatic 62, 3) := by decide +kernel
theorem dX11_at_4 : decode cX11_at 4 = .ok (.ifCond .ne 9, 3) := by decide +kernel
theorem dX11_at_7 : decode cX11_at 7 = .ok (.aload_n 0, 1) := by decide +kernel
theorem dX11_at_8 : decode cX11_at 8 = .ok (.iconst 1, 1) := by decide +kernel
theorem dX11_at_9 : decode cX11_at 9 = .ok (.invokevirtual 67, 3) := by decide +kernel
theorem dX11_at_12 : decode cX11_at 12 = .ok (.ireturn, 1) := by decide +kernel
theorem dX11_at_13 : decode cX11_at 13 = .ok (.aload_n 0, 1) := by decide +kernel
theorem dX11_at_14 : decode cX11_at 14 = .ok (.getfield 10, 3) := by decide +kernel
theorem dX11_at_17 : decode cX11_at 17 = .ok (.getfield 71, 3) := by decide +kernel
theorem dX11_at_20 : decode cX11_at 20 = .ok (.getfield 124, 3) := by decide +kernel
theorem dX11_at_23 : decode cX11_at 23 = .ok (.iload_n 1, 1) := by decide +kernel
theorem dX11_at_24 : decode cX11_at 24 = .ok (.iaload, 1) := by decide +kernel
theorem dX11_at_25 : decode cX11_at 25 = .ok (.ireturn, 1) := by decide +kernel
theorem dX11_away_0 : decode cX11_away 0 = .ok (.aload_n 0, 1) := by decide +kernel
theorem dX11_away_1 : decode cX11_away 1 = .ok (.getfield 10, 3) := by decide +kernel
theorem dX11_away_4 : decode cX11_away 4 = .ok (.getfield 71, 3) := by decide +kernel
theorem dX11_away_7 : decode cX11_away 7 = .ok (.iload_n 1, 1) := by decide +kernel
theorem dX11_away_8 : decode cX11_away 8 = .ok (.invokevirtual 86, 3) := by decide +kernel
theorem dX11_away_11 : decode cX11_away 11 = .ok (.ifCond .ne 9, 3) := by decide +kernel
theorem dX11_away_14 : decode cX11_away 14 = .ok (.aload_n 0, 1) := by decide +kernel
theorem dX11_away_15 : decode cX11_away 15 = .ok (.iconst 1, 1) := by decide +kernel
theorem dX11_away_16 : decode cX11_away 16 = .ok (.invokevirtual 67, 3) := by decide +kernel
theorem dX11_away_19 : decode cX11_away 19 = .ok (.ireturn, 1) := by decide +kernel
theorem dX11_error_0 : decode cX11_error 0 = .ok (.iload_n 1, 1) := by decide +kernel
theorem dX11_error_1 : decode cX11_error 1 = .ok (.ifCond .lt 22, 3) := by decide +kernel
theorem dX11_error_4 : decode cX11_error 4 = .ok (.iload_n 1, 1) := by decide +kernel
theorem dX11_error_5 : decode cX11_error 5 = .ok (.aload_n 0, 1) := by decide +kernel
theorem dX11_error_6 : decode cX11_error 6 = .ok (.getfield 28, 3) := by decide +kernel
theorem dX11_error_9 : decode cX11_error 9 = .ok (.arraylength, 1) := by decide +kernel
theorem dX11_error_10 : decode cX11_error 10 = .ok (.if_icmp .ge 13, 3) := by decide +kernel
theorem dX11_error_13 : decode cX11_error 13 = .ok (.aload_n 0, 1) := by decide +kernel
theorem dX11_error_14 : decode cX11_error 14 = .ok (.getfield 28, 3) := by decide +kernel
theorem dX11_error_17 : decode cX11_error 17 = .ok (.iload_n 1, 1) := by decide +kernel
theorem dX11_error_18 : decode cX11_error 18 = .ok (.dup2, 1) := by decide +kernel
theorem dX11_error_19 : decode cX11_error 19 = .ok (.iaload, 1) := by decide +kernel
theorem dX11_error_20 : decode cX11_error 20 = .ok (.iconst 1, 1) := by decide +kernel
theorem dX11_error_21 : decode cX11_error 21 = .ok (.iadd, 1) := by decide +kernel
theorem dX11_error_22 : decode cX11_error 22 = .ok (.iastore, 1) := by decide +kernel
theorem dX11_error_23 : decode cX11_error 23 = .ok (.ldc_w 398, 3) := by decide +kernel
theorem dX11_error_26 : decode cX11_error 26 = .ok (.iload_n 1, 1) := by decide +kernel
theorem dX11_error_27 : decode cX11_error 27 = .ok (.isub, 1) := by decide +kernel
theorem dX11_error_28 : decode cX11_error 28 = .ok (.ireturn, 1) := by decide +kernel
theorem dX11_kind_0 : decode cX11_kind 0 = .ok (.iload_n 1, 1) := by decide +kernel
theorem dX11_kind_1 : decode cX11_kind 1 = .ok (.invokestatic 58, 3) := by decide +kernel
theorem dX11_kind_4 : decode cX11_kind 4 = .ok (.ifCond .eq 31, 3) := by decide +kernel
theorem dX11_kind_7 : decode cX11_kind 7 = .ok (.iload_n 2, 1) := by decide +kernel
theorem dX11_kind_8 : decode cX11_kind 8 = .ok (.iconst 0, 1) := by decide +kernel
theorem dX11_kind_9 : decode cX11_kind 9 = .ok (.iconst 1, 1) := by decide +kernel
theorem dX11_kind_10 : decode cX11_kind 10 = .ok (.invokestatic 89, 3) := by decide +kernel
theorem dX11_kind_13 : decode cX11_kind 13 = .ok (.ifCond .eq 22, 3) := by decide +kernel
theorem dX11_kind_16 : decode cX11_kind 16 = .ok (.iload_n 3, 1) := by decide +kernel
theorem dX11_kind_17 : decode cX11_kind 17 = .ok (.iconst 0, 1) := by decide +kernel
theorem dX11_kind_18 : decode cX11_kind 18 = .ok (.iload_n 2, 1) := by decide +kernel
theorem dX11_kind_19 : decode cX11_kind 19 = .ok (.ifCond .ne 8, 3) := by decide +kernel
theorem dX11_kind_22 : decode cX11_kind 22 = .ok (.bipush 99, 2) := by decide +kernel
theorem dX11_kind_24 : decode cX11_kind 24 = .ok (.goto 5, 3) := by decide +kernel
theorem dX11_kind_27 : decode cX11_kind 27 = .ok (.bipush 9, 2) := by decide +kernel
theorem dX11_kind_29 : decode cX11_kind 29 = .ok (.invokestatic 89, 3) := by decide +kernel
theorem dX11_kind_32 : decode cX11_kind 32 = .ok (.ifCond .ne 9, 3) := by decide +kernel
theorem dX11_kind_35 : decode cX11_kind 35 = .ok (.aload_n 0, 1) := by decide +kernel
theorem dX11_kind_36 : decode cX11_kind 36 = .ok (.iconst 1, 1) := by decide +kernel
theorem dX11_kind_37 : decode cX11_kind 37 = .ok (.invokevirtual 67, 3) := by decide +kernel
theorem dX11_kind_40 : decode cX11_kind 40 = .ok (.ireturn, 1) := by decide +kernel
theorem dX11_kind_41 : decode cX11_kind 41 = .ok (.aload_n 0, 1) := by decide +kernel
theorem dX11_kind_42 : decode cX11_kind 42 = .ok (.getfield 10, 3) := by decide +kernel
theorem dX11_kind_45 : decode cX11_kind 45 = .ok (.getfield 114, 3) := by decide +kernel
theorem dX11_kind_48 : decode cX11_kind 48 = .ok (.iload_n 1, 1) := by decide +kernel
theorem dX11_kind_49 : decode cX11_kind 49 = .ok (.iload_n 2, 1) := by decide +kernel
theorem dX11_kind_50 : decode cX11_kind 50 = .ok (.iload_n 3, 1) := by decide +kernel
theorem dX11_kind_51 : decode cX11_kind 51 = .ok (.invokevirtual 118, 3) := by decide +kernel
theorem dX11_kind_54 : decode cX11_kind 54 = .ok (.ireturn, 1) := by decide +kernel
theorem dX11_lays_0 : decode cX11_lays 0 = .ok (.iload_n 1, 1) := by decide +kernel
theorem dX11_lays_1 : decode cX11_lays 1 = .ok (.invokestatic 127, 3) := by decide +kernel
theorem dX11_lays_4 : decode cX11_lays 4 = .ok (.ifCond .eq 13, 3) := by decide +kernel
theorem dX11_lays_7 : decode cX11_lays 7 = .ok (.iload_n 2, 1) := by decide +kernel
theorem dX11_lays_8 : decode cX11_lays 8 = .ok (.iconst 0, 1) := by decide +kernel
theorem dX11_lays_9 : decode cX11_lays 9 = .ok (.bipush 11, 2) := by decide +kernel
theorem dX11_lays_11 : decode cX11_lays 11 = .ok (.invokestatic 89, 3) := by decide +kernel
theorem dX11_lays_14 : decode cX11_lays 14 = .ok (.ifCond .ne 9, 3) := by decide +kernel
theorem dX11_lays_17 : decode cX11_lays 17 = .ok (.aload_n 0, 1) := by decide +kernel
theorem dX11_lays_18 : decode cX11_lays 18 = .ok (.iconst 1, 1) := by decide +kernel
theorem dX11_lays_19 : decode cX11_lays 19 = .ok (.invokevirtual 67, 3) := by decide +kernel
theorem dX11_lays_22 : decode cX11_lays 22 = .ok (.ireturn, 1) := by decide +kernel
theorem dX11_lays_23 : decode cX11_lays 23 = .ok (.aload_n 0, 1) := by decide +kernel
theorem dX11_lays_24 : decode cX11_lays 24 = .ok (.getfield 24, 3) := by decide +kernel
theorem dX11_lays_27 : decode cX11_lays 27 = .ok (.iload_n 1, 1) := by decide +kernel
theorem dX11_lays_28 : decode cX11_lays 28 = .ok (.aaload, 1) := by decide +kernel
theorem dX11_lays_29 : decode cX11_lays 29 = .ok (.astore_n 3, 1) := by decide +kernel
theorem dX11_lays_30 : decode cX11_lays 30 = .ok (.aload_n 3, 1) := by decide +kernel
theorem dX11_lays_31 : decode cX11_lays 31 = .ok (.invokevirtual 130, 3) := by decide +kernel
theorem dX11_lays_34 : decode cX11_lays 34 = .ok (.ifCond .eq 9, 3) := by decide +kernel
theorem dX11_lays_37 : decode cX11_lays 37 = .ok (.aload_n 0, 1) := by decide +kernel
theorem dX11_lays_38 : decode cX11_lays 38 = .ok (.iconst 2, 1) := by decide +kernel
theorem dX11_lays_39 : decode cX11_lays 39 = .ok (.invokevirtual 67, 3) := by decide +kernel
theorem dX11_lays_42 : decode cX11_lays 42 = .ok (.ireturn, 1) := by decide +kernel
theorem dX11_moves_0 : decode cX11_moves 0 = .ok (.aload_n 0, 1) := by decide +kernel
theorem dX11_moves_1 : decode cX11_moves 1 = .ok (.getfield 10, 3) := by decide +kernel
theorem dX11_moves_4 : decode cX11_moves 4 = .ok (.getfield 71, 3) := by decide +kernel
theorem dX11_moves_7 : decode cX11_moves 7 = .ok (.astore 4, 2) := by decide +kernel
theorem dX11_moves_9 : decode cX11_moves 9 = .ok (.aload 4, 2) := by decide +kernel
theorem dX11_moves_11 : decode cX11_moves 11 = .ok (.iload_n 1, 1) := by decide +kernel
theorem dX11_moves_12 : decode cX11_moves 12 = .ok (.invokevirtual 86, 3) := by decide +kernel
theorem dX11_moves_15 : decode cX11_moves 15 = .ok (.ifCond .eq 20, 3) := by decide +kernel
theorem dX11_moves_35 : decode cX11_moves 35 = .ok (.aload_n 0, 1) := by decide +kernel
theorem dX11_moves_36 : decode cX11_moves 36 = .ok (.iconst 1, 1) := by decide +kernel
theorem dX11_moves_37 : decode cX11_moves 37 = .ok (.invokevirtual 67, 3) := by decide +kernel
theorem dX11_moves_40 : decode cX11_moves 40 = .ok (.ireturn, 1) := by decide +kernel
theorem dX11_thing_0 : decode cX11_thing 0 = .ok (.iload_n 1, 1) := by decide +kernel
theorem dX11_thing_1 : decode cX11_thing 1 = .ok (.invokestatic 58, 3) := by decide +kernel
theorem dX11_thing_4 : decode cX11_thing 4 = .ok (.ifCond .eq 10, 3) := by decide +kernel
theorem dX11_thing_7 : decode cX11_thing 7 = .ok (.iload_n 2, 1) := by decide +kernel
theorem dX11_thing_8 : decode cX11_thing 8 = .ok (.invokestatic 62, 3) := by decide +kernel
theorem dX11_thing_11 : decode cX11_thing 11 = .ok (.ifCond .ne 9, 3) := by decide +kernel
theorem dX11_thing_14 : decode cX11_thing 14 = .ok (.aload_n 0, 1) := by decide +kernel
theorem dX11_thing_15 : decode cX11_thing 15 = .ok (.iconst 1, 1) := by decide +kernel
theorem dX11_thing_16 : decode cX11_thing 16 = .ok (.invokevirtual 67, 3) := by decide +kernel
theorem dX11_thing_19 : decode cX11_thing 19 = .ok (.ireturn, 1) := by decide +kernel
theorem dX11_thing_20 : decode cX11_thing 20 = .ok (.aload_n 0, 1) := by decide +kernel
theorem dX11_thing_21 : decode cX11_thing 21 = .ok (.getfield 10, 3) := by decide +kernel
theorem dX11_thing_24 : decode cX11_thing 24 = .ok (.getfield 71, 3) := by decide +kernel
theorem dX11_thing_27 : decode cX11_thing 27 = .ok (.iload_n 2, 1) := by decide +kernel
theorem dX11_thing_28 : decode cX11_thing 28 = .ok (.invokevirtual 75, 3) := by decide +kernel
theorem dX11_thing_31 : decode cX11_thing 31 = .ok (.ifCond .ne 9, 3) := by decide +kernel
theorem dX11_thing_40 : decode cX11_thing 40 = .ok (.aload_n 0, 1) := by decide +kernel
theorem dX11_thing_41 : decode cX11_thing 41 = .ok (.getfield 10, 3) := by decide +kernel
theorem dX11_thing_44 : decode cX11_thing 44 = .ok (.getfield 71, 3) := by decide +kernel
theorem dX11_thing_47 : decode cX11_thing 47 = .ok (.invokevirtual 78, 3) := by decide +kernel
theorem dX11_thing_50 : decode cX11_thing 50 = .ok (.ifCond .ne 9, 3) := by decide +kernel
theorem dX11_thing_59 : decode cX11_thing 59 = .ok (.aload_n 0, 1) := by decide +kernel
theorem dX11_thing_60 : decode cX11_thing 60 = .ok (.getfield 10, 3) := by decide +kernel
theorem dX11_thing_63 : decode cX11_thing 63 = .ok (.getfield 71, 3) := by decide +kernel
theorem dX11_thing_66 : decode cX11_thing 66 = .ok (.iload_n 1, 1) := by decide +kernel
theorem dX11_thing_67 : decode cX11_thing 67 = .ok (.iload_n 2, 1) := by decide +kernel
theorem dX11_thing_68 : decode cX11_thing 68 = .ok (.invokevirtual 82, 3) := by decide +kernel
theorem dX11_thing_71 : decode cX11_thing 71 = .ok (.ireturn, 1) := by decide +kernel
theorem dX11_thingIs_0 : decode cX11_thingIs 0 = .ok (.aload_n 0, 1) := by decide +kernel
theorem dX11_thingIs_1 : decode cX11_thingIs 1 = .ok (.getfield 10, 3) := by decide +kernel
theorem dX11_thingIs_4 : decode cX11_thingIs 4 = .ok (.getfield 71, 3) := by decide +kernel
theorem dX11_thingIs_7 : decode cX11_thingIs 7 = .ok (.iload_n 1, 1) := by decide +kernel
theorem dX11_thingIs_8 : decode cX11_thingIs 8 = .ok (.invokevirtual 86, 3) := by decide +kernel
theorem dX11_thingIs_11 : decode cX11_thingIs 11 = .ok (.ifCond .eq 12, 3) := by decide +kernel
theorem dX11_thingIs_23 : decode cX11_thingIs 23 = .ok (.aload_n 0, 1) := by decide +kernel
theorem dX11_thingIs_24 : decode cX11_thingIs 24 = .ok (.iconst 1, 1) := by decide +kernel
theorem dX11_thingIs_25 : decode cX11_thingIs 25 = .ok (.invokevirtual 67, 3) := by decide +kernel
theorem dX11_thingIs_28 : decode cX11_thingIs 28 = .ok (.ireturn, 1) := by decide +kernel
theorem dX11_walker_0 : decode cX11_walker 0 = .ok (.iload_n 1, 1) := by decide +kernel
theorem dX11_walker_1 : decode cX11_walker 1 = .ok (.invokestatic 145, 3) := by decide +kernel
theorem dX11_walker_4 : decode cX11_walker 4 = .ok (.ifCond .eq 17, 3) := by decide +kernel
theorem dX11_walker_7 : decode cX11_walker 7 = .ok (.iload_n 2, 1) := by decide +kernel
theorem dX11_walker_8 : decode cX11_walker 8 = .ok (.invokestatic 62, 3) := by decide +kernel
theorem dX11_walker_11 : decode cX11_walker 11 = .ok (.ifCond .eq 10, 3) := by decide +kernel
theorem dX11_walker_14 : decode cX11_walker 14 = .ok (.iload_n 3, 1) := by decide +kernel
theorem dX11_walker_15 : decode cX11_walker 15 = .ok (.invokestatic 96, 3) := by decide +kernel
theorem dX11_walker_18 : decode cX11_walker 18 = .ok (.ifCond .ne 9, 3) := by decide +kernel
theorem dX11_walker_21 : decode cX11_walker 21 = .ok (.aload_n 0, 1) := by decide +kernel
theorem dX11_walker_22 : decode cX11_walker 22 = .ok (.iconst 1, 1) := by decide +kernel
theorem dX11_walker_23 : decode cX11_walker 23 = .ok (.invokevirtual 67, 3) := by decide +kernel
theorem dX11_walker_26 : decode cX11_walker 26 = .ok (.ireturn, 1) := by decide +kernel
theorem dX11_walker_27 : decode cX11_walker 27 = .ok (.aload_n 0, 1) := by decide +kernel
theorem dX11_walker_28 : decode cX11_walker 28 = .ok (.getfield 10, 3) := by decide +kernel
theorem dX11_walker_31 : decode cX11_walker 31 = .ok (.getfield 71, 3) := by decide +kernel
theorem dX11_walker_34 : decode cX11_walker 34 = .ok (.iload_n 2, 1) := by decide +kernel
theorem dX11_walker_35 : decode cX11_walker 35 = .ok (.invokevirtual 75, 3) := by decide +kernel
theorem dX11_walker_38 : decode cX11_walker 38 = .ok (.ifCond .ne 9, 3) := by decide +kernel
theorem dX11_walker_47 : decode cX11_walker 47 = .ok (.aload_n 0, 1) := by decide +kernel
theorem dX11_walker_48 : decode cX11_walker 48 = .ok (.getfield 10, 3) := by decide +kernel
theorem dX11_walker_51 : decode cX11_walker 51 = .ok (.getfield 148, 3) := by decide +kernel
theorem dX11_walker_54 : decode cX11_walker 54 = .ok (.bipush 8, 2) := by decide +kernel
theorem dX11_walker_56 : decode cX11_walker 56 = .ok (.if_icmp .lt 9, 3) := by decide +kernel
theorem dX11_walker_65 : decode cX11_walker 65 = .ok (.aload_n 0, 1) := by decide +kernel
theorem dX11_walker_66 : decode cX11_walker 66 = .ok (.getfield 10, 3) := by decide +kernel
theorem dX11_walker_69 : decode cX11_walker 69 = .ok (.iload_n 1, 1) := by decide +kernel
theorem dX11_walker_70 : decode cX11_walker 70 = .ok (.iload_n 2, 1) := by decide +kernel
theorem dX11_walker_71 : decode cX11_walker 71 = .ok (.iload_n 3, 1) := by decide +kernel
theorem dX11_walker_72 : decode cX11_walker 72 = .ok (.invokevirtual 151, 3) := by decide +kernel
theorem dX11_walker_75 : decode cX11_walker 75 = .ok (.ireturn, 1) := by decide +kernel
