/-! words of the tables that are used, by their places; decode rows; fields -/
theorem li_m1000000 : ((-1000000) : Int32).toInt = -1000000 := by decide
theorem li_11 : (11 : Int32).toInt = 11 := by decide
theorem li_20 : (20 : Int32).toInt = 20 := by decide
theorem li_30 : (30 : Int32).toInt = 30 := by decide
theorem li_90 : (90 : Int32).toInt = 90 := by decide
theorem m_0 : Cond.selects yX11_error.cls yX11_error yX11_error ∈ BASE := bmem 0 (by decide +kernel) rfl
theorem m_419 : Cond.fieldLink RX8 12 "ClickStreet$Voices" "begun" "LClickStreet$Row;" ∈ BASE := bmem 419 (by decide +kernel) rfl
theorem m_420 : Cond.fieldLink RX8 18 "ClickStreet$Voices" "trace" "LClickStreet$Row;" ∈ BASE := bmem 420 (by decide +kernel) rfl
theorem m_423 : Cond.fieldLink RX8 25 "ClickStreet$Voices" "number" "I" ∈ BASE := bmem 423 (by decide +kernel) rfl
theorem m_425 : Cond.fieldLink RX8 31 "ClickStreet$Voices" "isParted" "Z" ∈ BASE := bmem 425 (by decide +kernel) rfl
theorem m_459 : Cond.fieldLink RX11 10 "ClickStreet" "live" "LClickStreet$World;" ∈ BASE := bmem 459 (by decide +kernel) rfl
theorem m_462 : Cond.fieldLink RX11 24 "ClickStreet" "sheets" "[LClickStreet$Sheet;" ∈ BASE := bmem 462 (by decide +kernel) rfl
theorem m_463 : Cond.fieldLink RX11 28 "ClickStreet" "errors" "[I" ∈ BASE := bmem 463 (by decide +kernel) rfl
theorem m_491 : Cond.methodLink RX11 58 yX11_isThingKind ∈ BASE := bmem 491 (by decide +kernel) rfl
theorem m_492 : Cond.static yX11_isThingKind ∈ BASE := bmem 492 (by decide +kernel) rfl
theorem m_493 : Cond.code yX11_isThingKind cX11_isThingKind 1 (some .boolean) ∈ BASE := bmem 493 (by decide +kernel) rfl
theorem m_497 : Cond.methodLink RX11 62 yX7_isCell ∈ BASE := bmem 497 (by decide +kernel) rfl
theorem m_500 : Cond.methodLink RX11 67 yX11_error ∈ BASE := bmem 500 (by decide +kernel) rfl
theorem m_502 : Cond.instanceMethod yX11_error ∈ BASE := bmem 502 (by decide +kernel) rfl
theorem m_503 : Cond.code yX11_error cX11_error 2 (some .int) ∈ BASE := bmem 503 (by decide +kernel) rfl
theorem m_504 : Cond.constant RX11 398 (-1000000) ∈ BASE := bmem 504 (by decide +kernel) rfl
theorem m_505 : Cond.methodLink RX11 75 yX7_isFree ∈ BASE := bmem 505 (by decide +kernel) rfl
theorem m_510 : Cond.methodLink RX11 78 yX7_hasRoom ∈ BASE := bmem 510 (by decide +kernel) rfl
theorem m_511 : Cond.instanceMethod yX7_hasRoom ∈ BASE := bmem 511 (by decide +kernel) rfl
theorem m_512 : Cond.selects yX7_hasRoom.cls yX7_hasRoom yX7_hasRoom ∈ BASE := bmem 512 (by decide +kernel) rfl
theorem m_513 : Cond.code yX7_hasRoom cX7_hasRoom 1 (some .boolean) ∈ BASE := bmem 513 (by decide +kernel) rfl
theorem m_514 : Cond.methodLink RX11 82 yX7_addThing ∈ BASE := bmem 514 (by decide +kernel) rfl
theorem m_515 : Cond.instanceMethod yX7_addThing ∈ BASE := bmem 515 (by decide +kernel) rfl
theorem m_516 : Cond.selects yX7_addThing.cls yX7_addThing yX7_addThing ∈ BASE := bmem 516 (by decide +kernel) rfl
theorem m_517 : Cond.code yX7_addThing cX7_addThing 4 (some .int) ∈ BASE := bmem 517 (by decide +kernel) rfl
theorem m_526 : Cond.methodLink RX11 86 yX7_hasThing ∈ BASE := bmem 526 (by decide +kernel) rfl
theorem m_530 : Cond.methodLink RX11 93 yX7_factOf ∈ BASE := bmem 530 (by decide +kernel) rfl
theorem m_531 : Cond.instanceMethod yX7_factOf ∈ BASE := bmem 531 (by decide +kernel) rfl
theorem m_532 : Cond.selects yX7_factOf.cls yX7_factOf yX7_factOf ∈ BASE := bmem 532 (by decide +kernel) rfl
theorem m_533 : Cond.code yX7_factOf cX7_factOf 3 (some .int) ∈ BASE := bmem 533 (by decide +kernel) rfl
theorem m_539 : Cond.methodLink RX11 96 yX7_isSide ∈ BASE := bmem 539 (by decide +kernel) rfl
theorem m_546 : Cond.methodLink RX11 111 yX7_takeAway ∈ BASE := bmem 546 (by decide +kernel) rfl
theorem m_547 : Cond.instanceMethod yX7_takeAway ∈ BASE := bmem 547 (by decide +kernel) rfl
theorem m_548 : Cond.selects yX7_takeAway.cls yX7_takeAway yX7_takeAway ∈ BASE := bmem 548 (by decide +kernel) rfl
theorem m_549 : Cond.code yX7_takeAway cX7_takeAway 3 (some .int) ∈ BASE := bmem 549 (by decide +kernel) rfl
theorem m_554 : Cond.methodLink RX11 118 yX2_changeKind ∈ BASE := bmem 554 (by decide +kernel) rfl
theorem m_555 : Cond.instanceMethod yX2_changeKind ∈ BASE := bmem 555 (by decide +kernel) rfl
theorem m_556 : Cond.selects yX2_changeKind.cls yX2_changeKind yX2_changeKind ∈ BASE := bmem 556 (by decide +kernel) rfl
theorem m_557 : Cond.code yX2_changeKind cX2_changeKind 6 (some .int) ∈ BASE := bmem 557 (by decide +kernel) rfl
theorem m_566 : Cond.methodLink RX11 127 yX11_isSheet ∈ BASE := bmem 566 (by decide +kernel) rfl
theorem m_567 : Cond.static yX11_isSheet ∈ BASE := bmem 567 (by decide +kernel) rfl
theorem m_568 : Cond.code yX11_isSheet cX11_isSheet 1 (some .boolean) ∈ BASE := bmem 568 (by decide +kernel) rfl
theorem m_569 : Cond.methodLink RX11 130 yX6_isMissing ∈ BASE := bmem 569 (by decide +kernel) rfl
theorem m_570 : Cond.instanceMethod yX6_isMissing ∈ BASE := bmem 570 (by decide +kernel) rfl
theorem m_571 : Cond.selects yX6_isMissing.cls yX6_isMissing yX6_isMissing ∈ BASE := bmem 571 (by decide +kernel) rfl
theorem m_572 : Cond.code yX6_isMissing cX6_isMissing 1 (some .boolean) ∈ BASE := bmem 572 (by decide +kernel) rfl
theorem m_573 : Cond.methodLink RX11 139 yX6_numberAt ∈ BASE := bmem 573 (by decide +kernel) rfl
theorem m_585 : Cond.methodLink RX11 142 yX2_changeAir ∈ BASE := bmem 585 (by decide +kernel) rfl
theorem m_586 : Cond.instanceMethod yX2_changeAir ∈ BASE := bmem 586 (by decide +kernel) rfl
theorem m_587 : Cond.selects yX2_changeAir.cls yX2_changeAir yX2_changeAir ∈ BASE := bmem 587 (by decide +kernel) rfl
theorem m_588 : Cond.code yX2_changeAir cX2_changeAir 4 (some .int) ∈ BASE := bmem 588 (by decide +kernel) rfl
theorem m_593 : Cond.methodLink RX11 145 yX11_isWalkerKind ∈ BASE := bmem 593 (by decide +kernel) rfl
theorem m_594 : Cond.static yX11_isWalkerKind ∈ BASE := bmem 594 (by decide +kernel) rfl
theorem m_595 : Cond.code yX11_isWalkerKind cX11_isWalkerKind 1 (some .boolean) ∈ BASE := bmem 595 (by decide +kernel) rfl
theorem m_596 : Cond.methodLink RX11 151 yX10_addWalker ∈ BASE := bmem 596 (by decide +kernel) rfl
theorem m_597 : Cond.instanceMethod yX10_addWalker ∈ BASE := bmem 597 (by decide +kernel) rfl
theorem m_598 : Cond.selects yX10_addWalker.cls yX10_addWalker yX10_addWalker ∈ BASE := bmem 598 (by decide +kernel) rfl
theorem m_599 : Cond.code yX10_addWalker cX10_addWalker 5 (some .int) ∈ BASE := bmem 599 (by decide +kernel) rfl
theorem m_609 : Cond.methodLink RX11 154 yX10_hasWalker ∈ BASE := bmem 609 (by decide +kernel) rfl
theorem m_613 : Cond.methodLink RX11 161 yX9_factOf ∈ BASE := bmem 613 (by decide +kernel) rfl
theorem m_614 : Cond.instanceMethod yX9_factOf ∈ BASE := bmem 614 (by decide +kernel) rfl
theorem m_615 : Cond.selects yX9_factOf.cls yX9_factOf yX9_factOf ∈ BASE := bmem 615 (by decide +kernel) rfl
theorem m_616 : Cond.code yX9_factOf cX9_factOf 2 (some .int) ∈ BASE := bmem 616 (by decide +kernel) rfl
theorem m_639 : Cond.methodLink RX11 165 yX9_isOf ∈ BASE := bmem 639 (by decide +kernel) rfl
theorem m_648 : Cond.methodLink RX11 168 yX9_reach ∈ BASE := bmem 648 (by decide +kernel) rfl
theorem m_653 : Cond.methodLink RX11 172 yX2_isClick ∈ BASE := bmem 653 (by decide +kernel) rfl
theorem m_839 : Cond.methodLink RX11 227 yX2_isClick_ ∈ BASE := bmem 839 (by decide +kernel) rfl
theorem m_840 : Cond.static yX2_isClick_ ∈ BASE := bmem 840 (by decide +kernel) rfl
theorem m_841 : Cond.code yX2_isClick_ cX2_isClick_ 1 (some .boolean) ∈ BASE := bmem 841 (by decide +kernel) rfl
theorem m_843 : Cond.methodLink RX11 232 yX10_echoYards ∈ BASE := bmem 843 (by decide +kernel) rfl
theorem m_861 : Cond.methodLink RX11 235 yX10_echoFact ∈ BASE := bmem 861 (by decide +kernel) rfl
theorem m_862 : Cond.instanceMethod yX10_echoFact ∈ BASE := bmem 862 (by decide +kernel) rfl
theorem m_863 : Cond.selects yX10_echoFact.cls yX10_echoFact yX10_echoFact ∈ BASE := bmem 863 (by decide +kernel) rfl
theorem m_864 : Cond.code yX10_echoFact cX10_echoFact 10 (some .int) ∈ BASE := bmem 864 (by decide +kernel) rfl
theorem m_896 : Cond.methodLink RX11 239 yX10_makeClick ∈ BASE := bmem 896 (by decide +kernel) rfl
theorem m_929 : Cond.methodLink RX11 248 yX9_held ∈ BASE := bmem 929 (by decide +kernel) rfl
theorem m_937 : Cond.methodLink RX11 251 yX10_countWrong ∈ BASE := bmem 937 (by decide +kernel) rfl
theorem m_938 : Cond.instanceMethod yX10_countWrong ∈ BASE := bmem 938 (by decide +kernel) rfl
theorem m_939 : Cond.selects yX10_countWrong.cls yX10_countWrong yX10_countWrong ∈ BASE := bmem 939 (by decide +kernel) rfl
theorem m_940 : Cond.code yX10_countWrong cX10_countWrong 6 (some .int) ∈ BASE := bmem 940 (by decide +kernel) rfl
theorem m_942 : Cond.methodLink RX11 254 yX9_countHeld ∈ BASE := bmem 942 (by decide +kernel) rfl
theorem m_943 : Cond.instanceMethod yX9_countHeld ∈ BASE := bmem 943 (by decide +kernel) rfl
theorem m_944 : Cond.selects yX9_countHeld.cls yX9_countHeld yX9_countHeld ∈ BASE := bmem 944 (by decide +kernel) rfl
theorem m_945 : Cond.code yX9_countHeld cX9_countHeld 4 (some .int) ∈ BASE := bmem 945 (by decide +kernel) rfl
theorem m_951 : Cond.methodLink RX11 257 yX9_ears ∈ BASE := bmem 951 (by decide +kernel) rfl
theorem m_952 : Cond.methodLink RX11 260 yX2_kindsAlike ∈ BASE := bmem 952 (by decide +kernel) rfl
theorem m_953 : Cond.instanceMethod yX2_kindsAlike ∈ BASE := bmem 953 (by decide +kernel) rfl
theorem m_954 : Cond.selects yX2_kindsAlike.cls yX2_kindsAlike yX2_kindsAlike ∈ BASE := bmem 954 (by decide +kernel) rfl
theorem m_955 : Cond.code yX2_kindsAlike cX2_kindsAlike 8 (some .int) ∈ BASE := bmem 955 (by decide +kernel) rfl
theorem m_961 : Cond.methodLink RX11 264 yX2_leastPitch ∈ BASE := bmem 961 (by decide +kernel) rfl
theorem m_962 : Cond.instanceMethod yX2_leastPitch ∈ BASE := bmem 962 (by decide +kernel) rfl
theorem m_963 : Cond.selects yX2_leastPitch.cls yX2_leastPitch yX2_leastPitch ∈ BASE := bmem 963 (by decide +kernel) rfl
theorem m_964 : Cond.code yX2_leastPitch cX2_leastPitch 5 (some .int) ∈ BASE := bmem 964 (by decide +kernel) rfl
theorem m_965 : Cond.methodLink RX11 267 yX2_leastLoudness ∈ BASE := bmem 965 (by decide +kernel) rfl
theorem m_966 : Cond.instanceMethod yX2_leastLoudness ∈ BASE := bmem 966 (by decide +kernel) rfl
theorem m_967 : Cond.selects yX2_leastLoudness.cls yX2_leastLoudness yX2_leastLoudness ∈ BASE := bmem 967 (by decide +kernel) rfl
theorem m_968 : Cond.code yX2_leastLoudness cX2_leastLoudness 5 (some .int) ∈ BASE := bmem 968 (by decide +kernel) rfl
theorem m_973 : Cond.methodLink RX11 270 yX2_hears ∈ BASE := bmem 973 (by decide +kernel) rfl
theorem m_1209 : Cond.methodLink RX8 46 yX5_takeFrom ∈ BASE := bmem 1209 (by decide +kernel) rfl
theorem kS_X11_isSheet : KS yX11_isSheet cX11_isSheet 1 (some .boolean) 1 := ⟨m_567, m_79, m_568, by decide +kernel, by decide +kernel, by decide +kernel⟩
theorem kS_X11_isThingKind : KS yX11_isThingKind cX11_isThingKind 1 (some .boolean) 1 := ⟨m_492, m_79, m_493, by decide +kernel, by decide +kernel, by decide +kernel⟩
theorem kS_X11_isWalkerKind : KS yX11_isWalkerKind cX11_isWalkerKind 1 (some .boolean) 1 := ⟨m_594, m_79, m_595, by decide +kernel, by decide +kernel, by decide +kernel⟩
theorem kS_X2_isClick_ : KS yX2_isClick_ cX2_isClick_ 1 (some .boolean) 1 := ⟨m_840, m_82, m_841, by decide +kernel, by decide +kernel, by decide +kernel⟩
theorem kV_X10_addWalker : KV yX10_addWalker cX10_addWalker 5 (some .int) 3 := ⟨m_597, m_598, m_80, m_599, by decide +kernel, by decide +kernel, by decide +kernel⟩
theorem kV_X10_countWrong : KV yX10_countWrong cX10_countWrong 6 (some .int) 1 := ⟨m_938, m_939, m_80, m_940, by decide +kernel, by decide +kernel, by decide +kernel⟩
theorem kV_X10_echoFact : KV yX10_echoFact cX10_echoFact 10 (some .int) 4 := ⟨m_862, m_863, m_80, m_864, by decide +kernel, by decide +kernel, by decide +kernel⟩
theorem kV_X11_error : KV yX11_error cX11_error 2 (some .int) 1 := ⟨m_502, m_0, m_79, m_503, by decide +kernel, by decide +kernel, by decide +kernel⟩
theorem kV_X2_changeAir : KV yX2_changeAir cX2_changeAir 4 (some .int) 2 := ⟨m_586, m_587, m_82, m_588, by decide +kernel, by decide +kernel, by decide +kernel⟩
theorem kV_X2_changeKind : KV yX2_changeKind cX2_changeKind 6 (some .int) 3 := ⟨m_555, m_556, m_82, m_557, by decide +kernel, by decide +kernel, by decide +kernel⟩
theorem kV_X2_kindsAlike : KV yX2_kindsAlike cX2_kindsAlike 8 (some .int) 5 := ⟨m_953, m_954, m_82, m_955, by decide +kernel, by decide +kernel, by decide +kernel⟩
theorem kV_X2_leastLoudness : KV yX2_leastLoudness cX2_leastLoudness 5 (some .int) 3 := ⟨m_966, m_967, m_82, m_968, by decide +kernel, by decide +kernel, by decide +kernel⟩
theorem kV_X2_leastPitch : KV yX2_leastPitch cX2_leastPitch 5 (some .int) 3 := ⟨m_962, m_963, m_82, m_964, by decide +kernel, by decide +kernel, by decide +kernel⟩
theorem kV_X6_isMissing : KV yX6_isMissing cX6_isMissing 1 (some .boolean) 0 := ⟨m_570, m_571, m_91, m_572, by decide +kernel, by decide +kernel, by decide +kernel⟩
theorem kV_X7_addThing : KV yX7_addThing cX7_addThing 4 (some .int) 2 := ⟨m_515, m_516, m_81, m_517, by decide +kernel, by decide +kernel, by decide +kernel⟩
theorem kV_X7_factOf : KV yX7_factOf cX7_factOf 3 (some .int) 2 := ⟨m_531, m_532, m_81, m_533, by decide +kernel, by decide +kernel, by decide +kernel⟩
theorem kV_X7_hasRoom : KV yX7_hasRoom cX7_hasRoom 1 (some .boolean) 0 := ⟨m_511, m_512, m_81, m_513, by decide +kernel, by decide +kernel, by decide +kernel⟩
theorem kV_X7_takeAway : KV yX7_takeAway cX7_takeAway 3 (some .int) 1 := ⟨m_547, m_548, m_81, m_549, by decide +kernel, by decide +kernel, by decide +kernel⟩
theorem kV_X9_countHeld : KV yX9_countHeld cX9_countHeld 4 (some .int) 1 := ⟨m_943, m_944, m_87, m_945, by decide +kernel, by decide +kernel, by decide +kernel⟩
theorem kV_X9_factOf : KV yX9_factOf cX9_factOf 2 (some .int) 1 := ⟨m_614, m_615, m_87, m_616, by decide +kernel, by decide +kernel, by decide +kernel⟩
theorem inB8 : ∀ w ∈ u_ws RX8 TX8 6, w ∈ BASE := bmems (u_ws RX8 TX8 6) [427, 429, 431, 433, 435, 437] (by decide +kernel) (by decide +kernel)
theorem inB11 : ∀ w ∈ u_ws RX11 TX11 9, w ∈ BASE := bmems (u_ws RX11 TX11 9) [468, 470, 472, 474, 476, 478, 480, 482, 484] (by decide +kernel) (by decide +kernel)
theorem fl_RX11_10 : FLK RX11 10 11 0 (.object "ClickStreet$World") true := ⟨RX11, TX11, 9, tyX11, rfl, inB11, tyX11_ok, nmX11, by decide, rfl, rfl, Or.inl m_459⟩
theorem fl_RX11_102 : FLK RX11 102 7 2 (.array .int) true := ⟨RX7, TX7, 6, tyX7, rfl, inB7, tyX7_ok, nmX7, by decide, rfl, rfl, Or.inr ⟨"ClickStreet", List.mem_of_getElem? (l := NFs) (i := 3) rfl⟩⟩
theorem fl_RX11_105 : FLK RX11 105 7 3 (.array .int) true := ⟨RX7, TX7, 6, tyX7, rfl, inB7, tyX7_ok, nmX7, by decide, rfl, rfl, Or.inr ⟨"ClickStreet", List.mem_of_getElem? (l := NFs) (i := 4) rfl⟩⟩
theorem fl_RX11_108 : FLK RX11 108 7 4 (.array .int) true := ⟨RX7, TX7, 6, tyX7, rfl, inB7, tyX7_ok, nmX7, by decide, rfl, rfl, Or.inr ⟨"ClickStreet", List.mem_of_getElem? (l := NFs) (i := 5) rfl⟩⟩
theorem fl_RX11_114 : FLK RX11 114 10 1 (.object "ClickStreet$Laws") true := ⟨RX10, TX10, 8, tyX10, rfl, inB10, tyX10_ok, nmX10, by decide, rfl, rfl, Or.inr ⟨"ClickStreet", List.mem_of_getElem? (l := NFs) (i := 32) rfl⟩⟩
theorem fl_RX11_124 : FLK RX11 124 7 0 (.array .int) true := ⟨RX7, TX7, 6, tyX7, rfl, inB7, tyX7_ok, nmX7, by decide, rfl, rfl, Or.inr ⟨"ClickStreet", List.mem_of_getElem? (l := NFs) (i := 1) rfl⟩⟩
theorem fl_RX11_133 : FLK RX11 133 6 0 .int false := ⟨RX6, TX6, 3, tyX6, rfl, inB6, tyX6_ok, nmX6, by decide, rfl, rfl, Or.inr ⟨"ClickStreet", List.mem_of_getElem? (l := NFs) (i := 46) rfl⟩⟩
theorem fl_RX11_136 : FLK RX11 136 6 1 .int false := ⟨RX6, TX6, 3, tyX6, rfl, inB6, tyX6_ok, nmX6, by decide, rfl, rfl, Or.inr ⟨"ClickStreet", List.mem_of_getElem? (l := NFs) (i := 48) rfl⟩⟩
theorem fl_RX11_148 : FLK RX11 148 10 6 .int false := ⟨RX10, TX10, 8, tyX10, rfl, inB10, tyX10_ok, nmX10, by decide, rfl, rfl, Or.inr ⟨"ClickStreet", List.mem_of_getElem? (l := NFs) (i := 39) rfl⟩⟩
theorem fl_RX11_157 : FLK RX11 157 10 5 (.array (.object "ClickStreet$Walker")) true := ⟨RX10, TX10, 8, tyX10, rfl, inB10, tyX10_ok, nmX10, by decide, rfl, rfl, Or.inr ⟨"ClickStreet", List.mem_of_getElem? (l := NFs) (i := 38) rfl⟩⟩
theorem fl_RX11_176 : FLK RX11 176 9 3 .int false := ⟨RX9, TX9, 11, tyX9, rfl, inB9, tyX9_ok, nmX9, by decide, rfl, rfl, Or.inr ⟨"ClickStreet", List.mem_of_getElem? (l := NFs) (i := 20) rfl⟩⟩
theorem fl_RX11_179 : FLK RX11 179 9 4 .int false := ⟨RX9, TX9, 11, tyX9, rfl, inB9, tyX9_ok, nmX9, by decide, rfl, rfl, Or.inr ⟨"ClickStreet", List.mem_of_getElem? (l := NFs) (i := 21) rfl⟩⟩
theorem fl_RX11_182 : FLK RX11 182 9 5 .int false := ⟨RX9, TX9, 11, tyX9, rfl, inB9, tyX9_ok, nmX9, by decide, rfl, rfl, Or.inr ⟨"ClickStreet", List.mem_of_getElem? (l := NFs) (i := 22) rfl⟩⟩
theorem fl_RX11_185 : FLK RX11 185 9 2 .int false := ⟨RX9, TX9, 11, tyX9, rfl, inB9, tyX9_ok, nmX9, by decide, rfl, rfl, Or.inr ⟨"ClickStreet", List.mem_of_getElem? (l := NFs) (i := 18) rfl⟩⟩
theorem fl_RX11_188 : FLK RX11 188 9 6 .boolean false := ⟨RX9, TX9, 11, tyX9, rfl, inB9, tyX9_ok, nmX9, by decide, rfl, rfl, Or.inr ⟨"ClickStreet", List.mem_of_getElem? (l := NFs) (i := 25) rfl⟩⟩
theorem fl_RX11_229 : FLK RX11 229 9 1 .int false := ⟨RX9, TX9, 11, tyX9, rfl, inB9, tyX9_ok, nmX9, by decide, rfl, rfl, Or.inr ⟨"ClickStreet", List.mem_of_getElem? (l := NFs) (i := 16) rfl⟩⟩
theorem fl_RX11_24 : FLK RX11 24 11 3 (.array (.object "ClickStreet$Sheet")) true := ⟨RX11, TX11, 9, tyX11, rfl, inB11, tyX11_ok, nmX11, by decide, rfl, rfl, Or.inl m_462⟩
theorem fl_RX11_242 : FLK RX11 242 9 9 (.array .int) true := ⟨RX9, TX9, 11, tyX9, rfl, inB9, tyX9_ok, nmX9, by decide, rfl, rfl, Or.inr ⟨"ClickStreet", List.mem_of_getElem? (l := NFs) (i := 28) rfl⟩⟩
theorem fl_RX11_245 : FLK RX11 245 9 10 (.array .int) true := ⟨RX9, TX9, 11, tyX9, rfl, inB9, tyX9_ok, nmX9, by decide, rfl, rfl, Or.inr ⟨"ClickStreet", List.mem_of_getElem? (l := NFs) (i := 29) rfl⟩⟩
theorem fl_RX11_28 : FLK RX11 28 11 4 (.array .int) true := ⟨RX11, TX11, 9, tyX11, rfl, inB11, tyX11_ok, nmX11, by decide, rfl, rfl, Or.inl m_463⟩
theorem fl_RX11_71 : FLK RX11 71 10 0 (.object "ClickStreet$Street") true := ⟨RX10, TX10, 8, tyX10, rfl, inB10, tyX10_ok, nmX10, by decide, rfl, rfl, Or.inr ⟨"ClickStreet", List.mem_of_getElem? (l := NFs) (i := 30) rfl⟩⟩
theorem fl_RX11_99 : FLK RX11 99 7 1 (.array .int) true := ⟨RX7, TX7, 6, tyX7, rfl, inB7, tyX7_ok, nmX7, by decide, rfl, rfl, Or.inr ⟨"ClickStreet", List.mem_of_getElem? (l := NFs) (i := 2) rfl⟩⟩
theorem fl_RX8_12 : FLK RX8 12 8 0 (.object "ClickStreet$Row") true := ⟨RX8, TX8, 6, tyX8, rfl, inB8, tyX8_ok, nmX8, by decide, rfl, rfl, Or.inl m_419⟩
theorem fl_RX8_18 : FLK RX8 18 8 1 (.object "ClickStreet$Row") true := ⟨RX8, TX8, 6, tyX8, rfl, inB8, tyX8_ok, nmX8, by decide, rfl, rfl, Or.inl m_420⟩
theorem fl_RX8_25 : FLK RX8 25 8 3 .int false := ⟨RX8, TX8, 6, tyX8, rfl, inB8, tyX8_ok, nmX8, by decide, rfl, rfl, Or.inl m_423⟩
theorem fl_RX8_31 : FLK RX8 31 8 5 .boolean false := ⟨RX8, TX8, 6, tyX8, rfl, inB8, tyX8_ok, nmX8, by decide, rfl, rfl, Or.inl m_425⟩
theorem ch_cX11_air_0 : (cX11_air.data.toList.drop 0).take 36 = [27, 3, 5, 184, 0, 89, 153, 0, 31, 28, 3, 27, 154, 0, 8, 16, 99, 167, 0, 14, 27, 4, 160, 0, 8, 16, 90, 167, 0, 4, 4, 184, 0, 89, 154, 0] := by decide +kernel
theorem dX11_air_0 : decode cX11_air 0 = .ok (.iload_n 1, 1) := do_27 (rdb (p := 0) (i := 0) ch_cX11_air_0 rfl)
theorem dX11_air_1 : decode cX11_air 1 = .ok (.iconst 0, 1) := do_3 (rdb (p := 0) (i := 1) ch_cX11_air_0 rfl)
theorem dX11_air_2 : decode cX11_air 2 = .ok (.iconst 2, 1) := do_5 (rdb (p := 0) (i := 2) ch_cX11_air_0 rfl)
theorem dX11_air_3 : decode cX11_air 3 = .ok (.invokestatic 89, 3) := do_184 (rdb (p := 0) (i := 3) ch_cX11_air_0 rfl) (rdb (p := 0) (i := 4) ch_cX11_air_0 rfl) (rdb (p := 0) (i := 5) ch_cX11_air_0 rfl) rfl
theorem dX11_air_6 : decode cX11_air 6 = .ok (.ifCond .eq 31, 3) := do_153 (rdb (p := 0) (i := 6) ch_cX11_air_0 rfl) (rdb (p := 0) (i := 7) ch_cX11_air_0 rfl) (rdb (p := 0) (i := 8) ch_cX11_air_0 rfl) (by decide +kernel)
theorem dX11_air_9 : decode cX11_air 9 = .ok (.iload_n 2, 1) := do_28 (rdb (p := 0) (i := 9) ch_cX11_air_0 rfl)
theorem dX11_air_10 : decode cX11_air 10 = .ok (.iconst 0, 1) := do_3 (rdb (p := 0) (i := 10) ch_cX11_air_0 rfl)
theorem dX11_air_11 : decode cX11_air 11 = .ok (.iload_n 1, 1) := do_27 (rdb (p := 0) (i := 11) ch_cX11_air_0 rfl)
theorem dX11_air_12 : decode cX11_air 12 = .ok (.ifCond .ne 8, 3) := do_154 (rdb (p := 0) (i := 12) ch_cX11_air_0 rfl) (rdb (p := 0) (i := 13) ch_cX11_air_0 rfl) (rdb (p := 0) (i := 14) ch_cX11_air_0 rfl) (by decide +kernel)
theorem dX11_air_15 : decode cX11_air 15 = .ok (.bipush 99, 2) := do_16 (rdb (p := 0) (i := 15) ch_cX11_air_0 rfl) (rdb (p := 0) (i := 16) ch_cX11_air_0 rfl) (by decide +kernel)
theorem dX11_air_17 : decode cX11_air 17 = .ok (.goto 14, 3) := do_167 (rdb (p := 0) (i := 17) ch_cX11_air_0 rfl) (rdb (p := 0) (i := 18) ch_cX11_air_0 rfl) (rdb (p := 0) (i := 19) ch_cX11_air_0 rfl) (by decide +kernel)
theorem dX11_air_20 : decode cX11_air 20 = .ok (.iload_n 1, 1) := do_27 (rdb (p := 0) (i := 20) ch_cX11_air_0 rfl)
theorem dX11_air_21 : decode cX11_air 21 = .ok (.iconst 1, 1) := do_4 (rdb (p := 0) (i := 21) ch_cX11_air_0 rfl)
theorem dX11_air_22 : decode cX11_air 22 = .ok (.if_icmp .ne 8, 3) := do_160 (rdb (p := 0) (i := 22) ch_cX11_air_0 rfl) (rdb (p := 0) (i := 23) ch_cX11_air_0 rfl) (rdb (p := 0) (i := 24) ch_cX11_air_0 rfl) (by decide +kernel)
theorem dX11_air_25 : decode cX11_air 25 = .ok (.bipush 90, 2) := do_16 (rdb (p := 0) (i := 25) ch_cX11_air_0 rfl) (rdb (p := 0) (i := 26) ch_cX11_air_0 rfl) (by decide +kernel)
theorem dX11_air_27 : decode cX11_air 27 = .ok (.goto 4, 3) := do_167 (rdb (p := 0) (i := 27) ch_cX11_air_0 rfl) (rdb (p := 0) (i := 28) ch_cX11_air_0 rfl) (rdb (p := 0) (i := 29) ch_cX11_air_0 rfl) (by decide +kernel)
theorem dX11_air_30 : decode cX11_air 30 = .ok (.iconst 1, 1) := do_4 (rdb (p := 0) (i := 30) ch_cX11_air_0 rfl)
theorem dX11_air_31 : decode cX11_air 31 = .ok (.invokestatic 89, 3) := do_184 (rdb (p := 0) (i := 31) ch_cX11_air_0 rfl) (rdb (p := 0) (i := 32) ch_cX11_air_0 rfl) (rdb (p := 0) (i := 33) ch_cX11_air_0 rfl) rfl
theorem ch_cX11_air_32 : (cX11_air.data.toList.drop 32).take 36 = [0, 89, 154, 0, 9, 42, 4, 182, 0, 67, 172, 42, 180, 0, 10, 180, 0, 114, 27, 28, 182, 0, 142, 172] := by decide +kernel
theorem dX11_air_34 : decode cX11_air 34 = .ok (.ifCond .ne 9, 3) := do_154 (rdb (p := 32) (i := 2) ch_cX11_air_32 rfl) (rdb (p := 32) (i := 3) ch_cX11_air_32 rfl) (rdb (p := 32) (i := 4) ch_cX11_air_32 rfl) (by decide +kernel)
theorem dX11_air_37 : decode cX11_air 37 = .ok (.aload_n 0, 1) := do_42 (rdb (p := 32) (i := 5) ch_cX11_air_32 rfl)
theorem dX11_air_38 : decode cX11_air 38 = .ok (.iconst 1, 1) := do_4 (rdb (p := 32) (i := 6) ch_cX11_air_32 rfl)
theorem dX11_air_39 : decode cX11_air 39 = .ok (.invokevirtual 67, 3) := do_182 (rdb (p := 32) (i := 7) ch_cX11_air_32 rfl) (rdb (p := 32) (i := 8) ch_cX11_air_32 rfl) (rdb (p := 32) (i := 9) ch_cX11_air_32 rfl) rfl
theorem dX11_air_42 : decode cX11_air 42 = .ok (.ireturn, 1) := do_172 (rdb (p := 32) (i := 10) ch_cX11_air_32 rfl)
theorem dX11_air_43 : decode cX11_air 43 = .ok (.aload_n 0, 1) := do_42 (rdb (p := 32) (i := 11) ch_cX11_air_32 rfl)
theorem dX11_air_44 : decode cX11_air 44 = .ok (.getfield 10, 3) := do_180 (rdb (p := 32) (i := 12) ch_cX11_air_32 rfl) (rdb (p := 32) (i := 13) ch_cX11_air_32 rfl) (rdb (p := 32) (i := 14) ch_cX11_air_32 rfl) rfl
theorem dX11_air_47 : decode cX11_air 47 = .ok (.getfield 114, 3) := do_180 (rdb (p := 32) (i := 15) ch_cX11_air_32 rfl) (rdb (p := 32) (i := 16) ch_cX11_air_32 rfl) (rdb (p := 32) (i := 17) ch_cX11_air_32 rfl) rfl
theorem dX11_air_50 : decode cX11_air 50 = .ok (.iload_n 1, 1) := do_27 (rdb (p := 32) (i := 18) ch_cX11_air_32 rfl)
theorem dX11_air_51 : decode cX11_air 51 = .ok (.iload_n 2, 1) := do_28 (rdb (p := 32) (i := 19) ch_cX11_air_32 rfl)
theorem dX11_air_52 : decode cX11_air 52 = .ok (.invokevirtual 142, 3) := do_182 (rdb (p := 32) (i := 20) ch_cX11_air_32 rfl) (rdb (p := 32) (i := 21) ch_cX11_air_32 rfl) (rdb (p := 32) (i := 22) ch_cX11_air_32 rfl) rfl
theorem dX11_air_55 : decode cX11_air 55 = .ok (.ireturn, 1) := do_172 (rdb (p := 32) (i := 23) ch_cX11_air_32 rfl)
theorem ch_cX11_alike_0 : (cX11_alike.data.toList.drop 0).take 36 = [42, 180, 0, 10, 27, 182, 0, 154, 153, 0, 18, 28, 184, 0, 227, 153, 0, 11, 21, 4, 184, 0, 96, 154, 0, 9, 42, 4, 182, 0, 67, 172, 42, 180, 0, 10] := by decide +kernel
theorem dX11_alike_0 : decode cX11_alike 0 = .ok (.aload_n 0, 1) := do_42 (rdb (p := 0) (i := 0) ch_cX11_alike_0 rfl)
theorem dX11_alike_1 : decode cX11_alike 1 = .ok (.getfield 10, 3) := do_180 (rdb (p := 0) (i := 1) ch_cX11_alike_0 rfl) (rdb (p := 0) (i := 2) ch_cX11_alike_0 rfl) (rdb (p := 0) (i := 3) ch_cX11_alike_0 rfl) rfl
theorem dX11_alike_4 : decode cX11_alike 4 = .ok (.iload_n 1, 1) := do_27 (rdb (p := 0) (i := 4) ch_cX11_alike_0 rfl)
theorem dX11_alike_5 : decode cX11_alike 5 = .ok (.invokevirtual 154, 3) := do_182 (rdb (p := 0) (i := 5) ch_cX11_alike_0 rfl) (rdb (p := 0) (i := 6) ch_cX11_alike_0 rfl) (rdb (p := 0) (i := 7) ch_cX11_alike_0 rfl) rfl
theorem dX11_alike_8 : decode cX11_alike 8 = .ok (.ifCond .eq 18, 3) := do_153 (rdb (p := 0) (i := 8) ch_cX11_alike_0 rfl) (rdb (p := 0) (i := 9) ch_cX11_alike_0 rfl) (rdb (p := 0) (i := 10) ch_cX11_alike_0 rfl) (by decide +kernel)
theorem dX11_alike_11 : decode cX11_alike 11 = .ok (.iload_n 2, 1) := do_28 (rdb (p := 0) (i := 11) ch_cX11_alike_0 rfl)
theorem dX11_alike_12 : decode cX11_alike 12 = .ok (.invokestatic 227, 3) := do_184 (rdb (p := 0) (i := 12) ch_cX11_alike_0 rfl) (rdb (p := 0) (i := 13) ch_cX11_alike_0 rfl) (rdb (p := 0) (i := 14) ch_cX11_alike_0 rfl) rfl
theorem dX11_alike_15 : decode cX11_alike 15 = .ok (.ifCond .eq 11, 3) := do_153 (rdb (p := 0) (i := 15) ch_cX11_alike_0 rfl) (rdb (p := 0) (i := 16) ch_cX11_alike_0 rfl) (rdb (p := 0) (i := 17) ch_cX11_alike_0 rfl) (by decide +kernel)
theorem dX11_alike_18 : decode cX11_alike 18 = .ok (.iload 4, 2) := do_21 (rdb (p := 0) (i := 18) ch_cX11_alike_0 rfl) (rdb (p := 0) (i := 19) ch_cX11_alike_0 rfl)
theorem dX11_alike_20 : decode cX11_alike 20 = .ok (.invokestatic 96, 3) := do_184 (rdb (p := 0) (i := 20) ch_cX11_alike_0 rfl) (rdb (p := 0) (i := 21) ch_cX11_alike_0 rfl) (rdb (p := 0) (i := 22) ch_cX11_alike_0 rfl) rfl
theorem dX11_alike_23 : decode cX11_alike 23 = .ok (.ifCond .ne 9, 3) := do_154 (rdb (p := 0) (i := 23) ch_cX11_alike_0 rfl) (rdb (p := 0) (i := 24) ch_cX11_alike_0 rfl) (rdb (p := 0) (i := 25) ch_cX11_alike_0 rfl) (by decide +kernel)
theorem dX11_alike_26 : decode cX11_alike 26 = .ok (.aload_n 0, 1) := do_42 (rdb (p := 0) (i := 26) ch_cX11_alike_0 rfl)
theorem dX11_alike_27 : decode cX11_alike 27 = .ok (.iconst 1, 1) := do_4 (rdb (p := 0) (i := 27) ch_cX11_alike_0 rfl)
theorem dX11_alike_28 : decode cX11_alike 28 = .ok (.invokevirtual 67, 3) := do_182 (rdb (p := 0) (i := 28) ch_cX11_alike_0 rfl) (rdb (p := 0) (i := 29) ch_cX11_alike_0 rfl) (rdb (p := 0) (i := 30) ch_cX11_alike_0 rfl) rfl
theorem dX11_alike_31 : decode cX11_alike 31 = .ok (.ireturn, 1) := do_172 (rdb (p := 0) (i := 31) ch_cX11_alike_0 rfl)
theorem ch_cX11_alike_32 : (cX11_alike.data.toList.drop 32).take 36 = [42, 180, 0, 10, 180, 0, 157, 27, 50, 58, 6, 29, 4, 25, 6, 182, 0, 168, 184, 0, 89, 153, 0, 15, 21, 5, 3, 17, 3, 231, 184, 0, 89, 154, 0, 9] := by decide +kernel
theorem dX11_alike_32 : decode cX11_alike 32 = .ok (.aload_n 0, 1) := do_42 (rdb (p := 32) (i := 0) ch_cX11_alike_32 rfl)
theorem dX11_alike_33 : decode cX11_alike 33 = .ok (.getfield 10, 3) := do_180 (rdb (p := 32) (i := 1) ch_cX11_alike_32 rfl) (rdb (p := 32) (i := 2) ch_cX11_alike_32 rfl) (rdb (p := 32) (i := 3) ch_cX11_alike_32 rfl) rfl
theorem dX11_alike_36 : decode cX11_alike 36 = .ok (.getfield 157, 3) := do_180 (rdb (p := 32) (i := 4) ch_cX11_alike_32 rfl) (rdb (p := 32) (i := 5) ch_cX11_alike_32 rfl) (rdb (p := 32) (i := 6) ch_cX11_alike_32 rfl) rfl
theorem dX11_alike_39 : decode cX11_alike 39 = .ok (.iload_n 1, 1) := do_27 (rdb (p := 32) (i := 7) ch_cX11_alike_32 rfl)
theorem dX11_alike_40 : decode cX11_alike 40 = .ok (.aaload, 1) := do_50 (rdb (p := 32) (i := 8) ch_cX11_alike_32 rfl)
theorem dX11_alike_41 : decode cX11_alike 41 = .ok (.astore 6, 2) := do_58 (rdb (p := 32) (i := 9) ch_cX11_alike_32 rfl) (rdb (p := 32) (i := 10) ch_cX11_alike_32 rfl)
theorem dX11_alike_43 : decode cX11_alike 43 = .ok (.iload_n 3, 1) := do_29 (rdb (p := 32) (i := 11) ch_cX11_alike_32 rfl)
theorem dX11_alike_44 : decode cX11_alike 44 = .ok (.iconst 1, 1) := do_4 (rdb (p := 32) (i := 12) ch_cX11_alike_32 rfl)
theorem dX11_alike_45 : decode cX11_alike 45 = .ok (.aload 6, 2) := do_25 (rdb (p := 32) (i := 13) ch_cX11_alike_32 rfl) (rdb (p := 32) (i := 14) ch_cX11_alike_32 rfl)
theorem dX11_alike_47 : decode cX11_alike 47 = .ok (.invokevirtual 168, 3) := do_182 (rdb (p := 32) (i := 15) ch_cX11_alike_32 rfl) (rdb (p := 32) (i := 16) ch_cX11_alike_32 rfl) (rdb (p := 32) (i := 17) ch_cX11_alike_32 rfl) rfl
theorem dX11_alike_50 : decode cX11_alike 50 = .ok (.invokestatic 89, 3) := do_184 (rdb (p := 32) (i := 18) ch_cX11_alike_32 rfl) (rdb (p := 32) (i := 19) ch_cX11_alike_32 rfl) (rdb (p := 32) (i := 20) ch_cX11_alike_32 rfl) rfl
theorem dX11_alike_53 : decode cX11_alike 53 = .ok (.ifCond .eq 15, 3) := do_153 (rdb (p := 32) (i := 21) ch_cX11_alike_32 rfl) (rdb (p := 32) (i := 22) ch_cX11_alike_32 rfl) (rdb (p := 32) (i := 23) ch_cX11_alike_32 rfl) (by decide +kernel)
theorem dX11_alike_56 : decode cX11_alike 56 = .ok (.iload 5, 2) := do_21 (rdb (p := 32) (i := 24) ch_cX11_alike_32 rfl) (rdb (p := 32) (i := 25) ch_cX11_alike_32 rfl)
theorem dX11_alike_58 : decode cX11_alike 58 = .ok (.iconst 0, 1) := do_3 (rdb (p := 32) (i := 26) ch_cX11_alike_32 rfl)
theorem dX11_alike_59 : decode cX11_alike 59 = .ok (.sipush 999, 3) := do_17 (rdb (p := 32) (i := 27) ch_cX11_alike_32 rfl) (rdb (p := 32) (i := 28) ch_cX11_alike_32 rfl) (rdb (p := 32) (i := 29) ch_cX11_alike_32 rfl) (by decide +kernel)
theorem dX11_alike_62 : decode cX11_alike 62 = .ok (.invokestatic 89, 3) := do_184 (rdb (p := 32) (i := 30) ch_cX11_alike_32 rfl) (rdb (p := 32) (i := 31) ch_cX11_alike_32 rfl) (rdb (p := 32) (i := 32) ch_cX11_alike_32 rfl) rfl
theorem ch_cX11_alike_64 : (cX11_alike.data.toList.drop 64).take 36 = [89, 154, 0, 9, 42, 4, 182, 0, 67, 172, 42, 180, 0, 10, 180, 0, 114, 25, 6, 182, 1, 1, 28, 29, 21, 4, 21, 5, 182, 1, 4, 172] := by decide +kernel
theorem dX11_alike_65 : decode cX11_alike 65 = .ok (.ifCond .ne 9, 3) := do_154 (rdb (p := 64) (i := 1) ch_cX11_alike_64 rfl) (rdb (p := 64) (i := 2) ch_cX11_alike_64 rfl) (rdb (p := 64) (i := 3) ch_cX11_alike_64 rfl) (by decide +kernel)
theorem dX11_alike_68 : decode cX11_alike 68 = .ok (.aload_n 0, 1) := do_42 (rdb (p := 64) (i := 4) ch_cX11_alike_64 rfl)
theorem dX11_alike_69 : decode cX11_alike 69 = .ok (.iconst 1, 1) := do_4 (rdb (p := 64) (i := 5) ch_cX11_alike_64 rfl)
theorem dX11_alike_70 : decode cX11_alike 70 = .ok (.invokevirtual 67, 3) := do_182 (rdb (p := 64) (i := 6) ch_cX11_alike_64 rfl) (rdb (p := 64) (i := 7) ch_cX11_alike_64 rfl) (rdb (p := 64) (i := 8) ch_cX11_alike_64 rfl) rfl
theorem dX11_alike_73 : decode cX11_alike 73 = .ok (.ireturn, 1) := do_172 (rdb (p := 64) (i := 9) ch_cX11_alike_64 rfl)
theorem dX11_alike_74 : decode cX11_alike 74 = .ok (.aload_n 0, 1) := do_42 (rdb (p := 64) (i := 10) ch_cX11_alike_64 rfl)
theorem dX11_alike_75 : decode cX11_alike 75 = .ok (.getfield 10, 3) := do_180 (rdb (p := 64) (i := 11) ch_cX11_alike_64 rfl) (rdb (p := 64) (i := 12) ch_cX11_alike_64 rfl) (rdb (p := 64) (i := 13) ch_cX11_alike_64 rfl) rfl
theorem dX11_alike_78 : decode cX11_alike 78 = .ok (.getfield 114, 3) := do_180 (rdb (p := 64) (i := 14) ch_cX11_alike_64 rfl) (rdb (p := 64) (i := 15) ch_cX11_alike_64 rfl) (rdb (p := 64) (i := 16) ch_cX11_alike_64 rfl) rfl
theorem dX11_alike_81 : decode cX11_alike 81 = .ok (.aload 6, 2) := do_25 (rdb (p := 64) (i := 17) ch_cX11_alike_64 rfl) (rdb (p := 64) (i := 18) ch_cX11_alike_64 rfl)
theorem dX11_alike_83 : decode cX11_alike 83 = .ok (.invokevirtual 257, 3) := do_182 (rdb (p := 64) (i := 19) ch_cX11_alike_64 rfl) (rdb (p := 64) (i := 20) ch_cX11_alike_64 rfl) (rdb (p := 64) (i := 21) ch_cX11_alike_64 rfl) rfl
theorem dX11_alike_86 : decode cX11_alike 86 = .ok (.iload_n 2, 1) := do_28 (rdb (p := 64) (i := 22) ch_cX11_alike_64 rfl)
theorem dX11_alike_87 : decode cX11_alike 87 = .ok (.iload_n 3, 1) := do_29 (rdb (p := 64) (i := 23) ch_cX11_alike_64 rfl)
theorem dX11_alike_88 : decode cX11_alike 88 = .ok (.iload 4, 2) := do_21 (rdb (p := 64) (i := 24) ch_cX11_alike_64 rfl) (rdb (p := 64) (i := 25) ch_cX11_alike_64 rfl)
theorem dX11_alike_90 : decode cX11_alike 90 = .ok (.iload 5, 2) := do_21 (rdb (p := 64) (i := 26) ch_cX11_alike_64 rfl) (rdb (p := 64) (i := 27) ch_cX11_alike_64 rfl)
theorem dX11_alike_92 : decode cX11_alike 92 = .ok (.invokevirtual 260, 3) := do_182 (rdb (p := 64) (i := 28) ch_cX11_alike_64 rfl) (rdb (p := 64) (i := 29) ch_cX11_alike_64 rfl) (rdb (p := 64) (i := 30) ch_cX11_alike_64 rfl) rfl
theorem dX11_alike_95 : decode cX11_alike 95 = .ok (.ireturn, 1) := do_172 (rdb (p := 64) (i := 31) ch_cX11_alike_64 rfl)
theorem ch_cX11_as_0 : (cX11_as.data.toList.drop 0).take 36 = [42, 180, 0, 10, 27, 182, 0, 154, 153, 0, 10, 28, 184, 0, 145, 154, 0, 9, 42, 4, 182, 0, 67, 172, 42, 180, 0, 10, 180, 0, 157, 27, 50, 28, 182, 0] := by decide +kernel
theorem dX11_as_0 : decode cX11_as 0 = .ok (.aload_n 0, 1) := do_42 (rdb (p := 0) (i := 0) ch_cX11_as_0 rfl)
theorem dX11_as_1 : decode cX11_as 1 = .ok (.getfield 10, 3) := do_180 (rdb (p := 0) (i := 1) ch_cX11_as_0 rfl) (rdb (p := 0) (i := 2) ch_cX11_as_0 rfl) (rdb (p := 0) (i := 3) ch_cX11_as_0 rfl) rfl
theorem dX11_as_4 : decode cX11_as 4 = .ok (.iload_n 1, 1) := do_27 (rdb (p := 0) (i := 4) ch_cX11_as_0 rfl)
theorem dX11_as_5 : decode cX11_as 5 = .ok (.invokevirtual 154, 3) := do_182 (rdb (p := 0) (i := 5) ch_cX11_as_0 rfl) (rdb (p := 0) (i := 6) ch_cX11_as_0 rfl) (rdb (p := 0) (i := 7) ch_cX11_as_0 rfl) rfl
theorem dX11_as_8 : decode cX11_as 8 = .ok (.ifCond .eq 10, 3) := do_153 (rdb (p := 0) (i := 8) ch_cX11_as_0 rfl) (rdb (p := 0) (i := 9) ch_cX11_as_0 rfl) (rdb (p := 0) (i := 10) ch_cX11_as_0 rfl) (by decide +kernel)
theorem dX11_as_11 : decode cX11_as 11 = .ok (.iload_n 2, 1) := do_28 (rdb (p := 0) (i := 11) ch_cX11_as_0 rfl)
theorem dX11_as_12 : decode cX11_as 12 = .ok (.invokestatic 145, 3) := do_184 (rdb (p := 0) (i := 12) ch_cX11_as_0 rfl) (rdb (p := 0) (i := 13) ch_cX11_as_0 rfl) (rdb (p := 0) (i := 14) ch_cX11_as_0 rfl) rfl
theorem dX11_as_15 : decode cX11_as 15 = .ok (.ifCond .ne 9, 3) := do_154 (rdb (p := 0) (i := 15) ch_cX11_as_0 rfl) (rdb (p := 0) (i := 16) ch_cX11_as_0 rfl) (rdb (p := 0) (i := 17) ch_cX11_as_0 rfl) (by decide +kernel)
theorem dX11_as_18 : decode cX11_as 18 = .ok (.aload_n 0, 1) := do_42 (rdb (p := 0) (i := 18) ch_cX11_as_0 rfl)
theorem dX11_as_19 : decode cX11_as 19 = .ok (.iconst 1, 1) := do_4 (rdb (p := 0) (i := 19) ch_cX11_as_0 rfl)
theorem dX11_as_20 : decode cX11_as 20 = .ok (.invokevirtual 67, 3) := do_182 (rdb (p := 0) (i := 20) ch_cX11_as_0 rfl) (rdb (p := 0) (i := 21) ch_cX11_as_0 rfl) (rdb (p := 0) (i := 22) ch_cX11_as_0 rfl) rfl
theorem dX11_as_23 : decode cX11_as 23 = .ok (.ireturn, 1) := do_172 (rdb (p := 0) (i := 23) ch_cX11_as_0 rfl)
theorem dX11_as_24 : decode cX11_as 24 = .ok (.aload_n 0, 1) := do_42 (rdb (p := 0) (i := 24) ch_cX11_as_0 rfl)
theorem dX11_as_25 : decode cX11_as 25 = .ok (.getfield 10, 3) := do_180 (rdb (p := 0) (i := 25) ch_cX11_as_0 rfl) (rdb (p := 0) (i := 26) ch_cX11_as_0 rfl) (rdb (p := 0) (i := 27) ch_cX11_as_0 rfl) rfl
theorem dX11_as_28 : decode cX11_as 28 = .ok (.getfield 157, 3) := do_180 (rdb (p := 0) (i := 28) ch_cX11_as_0 rfl) (rdb (p := 0) (i := 29) ch_cX11_as_0 rfl) (rdb (p := 0) (i := 30) ch_cX11_as_0 rfl) rfl
theorem dX11_as_31 : decode cX11_as 31 = .ok (.iload_n 1, 1) := do_27 (rdb (p := 0) (i := 31) ch_cX11_as_0 rfl)
theorem ch_cX11_as_32 : (cX11_as.data.toList.drop 32).take 36 = [50, 28, 182, 0, 165, 154, 0, 9, 42, 8, 182, 0, 67, 172, 42, 180, 0, 10, 180, 0, 157, 27, 50, 182, 0, 168, 172] := by decide +kernel
theorem dX11_as_32 : decode cX11_as 32 = .ok (.aaload, 1) := do_50 (rdb (p := 32) (i := 0) ch_cX11_as_32 rfl)
theorem dX11_as_33 : decode cX11_as 33 = .ok (.iload_n 2, 1) := do_28 (rdb (p := 32) (i := 1) ch_cX11_as_32 rfl)
theorem dX11_as_34 : decode cX11_as 34 = .ok (.invokevirtual 165, 3) := do_182 (rdb (p := 32) (i := 2) ch_cX11_as_32 rfl) (rdb (p := 32) (i := 3) ch_cX11_as_32 rfl) (rdb (p := 32) (i := 4) ch_cX11_as_32 rfl) rfl
theorem dX11_as_37 : decode cX11_as 37 = .ok (.ifCond .ne 9, 3) := do_154 (rdb (p := 32) (i := 5) ch_cX11_as_32 rfl) (rdb (p := 32) (i := 6) ch_cX11_as_32 rfl) (rdb (p := 32) (i := 7) ch_cX11_as_32 rfl) (by decide +kernel)
theorem dX11_as_40 : decode cX11_as 40 = .ok (.aload_n 0, 1) := do_42 (rdb (p := 32) (i := 8) ch_cX11_as_32 rfl)
theorem dX11_as_41 : decode cX11_as 41 = .ok (.iconst 5, 1) := do_8 (rdb (p := 32) (i := 9) ch_cX11_as_32 rfl)
theorem dX11_as_42 : decode cX11_as 42 = .ok (.invokevirtual 67, 3) := do_182 (rdb (p := 32) (i := 10) ch_cX11_as_32 rfl) (rdb (p := 32) (i := 11) ch_cX11_as_32 rfl) (rdb (p := 32) (i := 12) ch_cX11_as_32 rfl) rfl
theorem dX11_as_45 : decode cX11_as 45 = .ok (.ireturn, 1) := do_172 (rdb (p := 32) (i := 13) ch_cX11_as_32 rfl)
theorem dX11_as_46 : decode cX11_as 46 = .ok (.aload_n 0, 1) := do_42 (rdb (p := 32) (i := 14) ch_cX11_as_32 rfl)
theorem dX11_as_47 : decode cX11_as 47 = .ok (.getfield 10, 3) := do_180 (rdb (p := 32) (i := 15) ch_cX11_as_32 rfl) (rdb (p := 32) (i := 16) ch_cX11_as_32 rfl) (rdb (p := 32) (i := 17) ch_cX11_as_32 rfl) rfl
theorem dX11_as_50 : decode cX11_as 50 = .ok (.getfield 157, 3) := do_180 (rdb (p := 32) (i := 18) ch_cX11_as_32 rfl) (rdb (p := 32) (i := 19) ch_cX11_as_32 rfl) (rdb (p := 32) (i := 20) ch_cX11_as_32 rfl) rfl
theorem dX11_as_53 : decode cX11_as 53 = .ok (.iload_n 1, 1) := do_27 (rdb (p := 32) (i := 21) ch_cX11_as_32 rfl)
theorem dX11_as_54 : decode cX11_as 54 = .ok (.aaload, 1) := do_50 (rdb (p := 32) (i := 22) ch_cX11_as_32 rfl)
theorem dX11_as_55 : decode cX11_as 55 = .ok (.invokevirtual 168, 3) := do_182 (rdb (p := 32) (i := 23) ch_cX11_as_32 rfl) (rdb (p := 32) (i := 24) ch_cX11_as_32 rfl) (rdb (p := 32) (i := 25) ch_cX11_as_32 rfl) rfl
theorem dX11_as_58 : decode cX11_as 58 = .ok (.ireturn, 1) := do_172 (rdb (p := 32) (i := 26) ch_cX11_as_32 rfl)
theorem dX11_at_0 : decode cX11_at 0 = .ok (.iload_n 1, 1) := by decide +kernel
theorem dX11_at_1 : decode cX11_at 1 = .ok (.invokestatic 62, 3) := by decide +kernel
theorem dX11_at_4 : decode cX11_at 4 = .ok (.ifCond .ne 9, 3) := by decide +kernel
theorem dX11_at_7 : decode cX11_at 7 = .ok (.aload_n 0, 1) := by decide +kernel
theorem dX11_at_8 : decode cX11_at 8 = .ok (.iconst 1, 1) := by decide +kernel
theorem dX11_at_9 : decode cX11_at 9 = .ok (.invokevirtual 67, 3) := by decide +kernel
theorem dX11_at_12 : decode cX11_at 12 = .ok (.ireturn, 1) := by decide +kernel
theorem dX11_at_13 : decode cX11_at 13 = .ok (.aload_n 0, 1) := by decide +kernel
theorem dX11_at_14 : decode cX11_at 14 = .ok (.getfield 10, 3) := by decide +kernel
theorem dX11_at_17 : decode cX11_at 17 = .ok (.getfield 71, 3) := by decide +kernel
theorem dX11_at_20 : decode cX11_at 20 = .ok (.getfield 124, 3) := by decide +kernel
theorem dX11_at_23 : decode cX11_at 23 = .ok (.iload_n 1, 1) := by decide +kernel
theorem dX11_at_24 : decode cX11_at 24 = .ok (.iaload, 1) := by decide +kernel
theorem dX11_at_25 : decode cX11_at 25 = .ok (.ireturn, 1) := by decide +kernel
theorem ch_cX11_away_0 : (cX11_away.data.toList.drop 0).take 36 = [42, 180, 0, 10, 180, 0, 71, 27, 182, 0, 86, 154, 0, 9, 42, 4, 182, 0, 67, 172, 42, 180, 0, 10, 180, 0, 71, 180, 0, 102, 27, 46, 156, 0, 9, 42] := by decide +kernel
theorem dX11_away_0 : decode cX11_away 0 = .ok (.aload_n 0, 1) := do_42 (rdb (p := 0) (i := 0) ch_cX11_away_0 rfl)
theorem dX11_away_1 : decode cX11_away 1 = .ok (.getfield 10, 3) := do_180 (rdb (p := 0) (i := 1) ch_cX11_away_0 rfl) (rdb (p := 0) (i := 2) ch_cX11_away_0 rfl) (rdb (p := 0) (i := 3) ch_cX11_away_0 rfl) rfl
theorem dX11_away_4 : decode cX11_away 4 = .ok (.getfield 71, 3) := do_180 (rdb (p := 0) (i := 4) ch_cX11_away_0 rfl) (rdb (p := 0) (i := 5) ch_cX11_away_0 rfl) (rdb (p := 0) (i := 6) ch_cX11_away_0 rfl) rfl
theorem dX11_away_7 : decode cX11_away 7 = .ok (.iload_n 1, 1) := do_27 (rdb (p := 0) (i := 7) ch_cX11_away_0 rfl)
theorem dX11_away_8 : decode cX11_away 8 = .ok (.invokevirtual 86, 3) := do_182 (rdb (p := 0) (i := 8) ch_cX11_away_0 rfl) (rdb (p := 0) (i := 9) ch_cX11_away_0 rfl) (rdb (p := 0) (i := 10) ch_cX11_away_0 rfl) rfl
theorem dX11_away_11 : decode cX11_away 11 = .ok (.ifCond .ne 9, 3) := do_154 (rdb (p := 0) (i := 11) ch_cX11_away_0 rfl) (rdb (p := 0) (i := 12) ch_cX11_away_0 rfl) (rdb (p := 0) (i := 13) ch_cX11_away_0 rfl) (by decide +kernel)
theorem dX11_away_14 : decode cX11_away 14 = .ok (.aload_n 0, 1) := do_42 (rdb (p := 0) (i := 14) ch_cX11_away_0 rfl)
theorem dX11_away_15 : decode cX11_away 15 = .ok (.iconst 1, 1) := do_4 (rdb (p := 0) (i := 15) ch_cX11_away_0 rfl)
theorem dX11_away_16 : decode cX11_away 16 = .ok (.invokevirtual 67, 3) := do_182 (rdb (p := 0) (i := 16) ch_cX11_away_0 rfl) (rdb (p := 0) (i := 17) ch_cX11_away_0 rfl) (rdb (p := 0) (i := 18) ch_cX11_away_0 rfl) rfl
theorem dX11_away_19 : decode cX11_away 19 = .ok (.ireturn, 1) := do_172 (rdb (p := 0) (i := 19) ch_cX11_away_0 rfl)
theorem dX11_away_20 : decode cX11_away 20 = .ok (.aload_n 0, 1) := do_42 (rdb (p := 0) (i := 20) ch_cX11_away_0 rfl)
theorem dX11_away_21 : decode cX11_away 21 = .ok (.getfield 10, 3) := do_180 (rdb (p := 0) (i := 21) ch_cX11_away_0 rfl) (rdb (p := 0) (i := 22) ch_cX11_away_0 rfl) (rdb (p := 0) (i := 23) ch_cX11_away_0 rfl) rfl
theorem dX11_away_24 : decode cX11_away 24 = .ok (.getfield 71, 3) := do_180 (rdb (p := 0) (i := 24) ch_cX11_away_0 rfl) (rdb (p := 0) (i := 25) ch_cX11_away_0 rfl) (rdb (p := 0) (i := 26) ch_cX11_away_0 rfl) rfl
theorem dX11_away_27 : decode cX11_away 27 = .ok (.getfield 102, 3) := do_180 (rdb (p := 0) (i := 27) ch_cX11_away_0 rfl) (rdb (p := 0) (i := 28) ch_cX11_away_0 rfl) (rdb (p := 0) (i := 29) ch_cX11_away_0 rfl) rfl
theorem dX11_away_30 : decode cX11_away 30 = .ok (.iload_n 1, 1) := do_27 (rdb (p := 0) (i := 30) ch_cX11_away_0 rfl)
theorem dX11_away_31 : decode cX11_away 31 = .ok (.iaload, 1) := do_46 (rdb (p := 0) (i := 31) ch_cX11_away_0 rfl)
theorem ch_cX11_away_32 : (cX11_away.data.toList.drop 32).take 36 = [156, 0, 9, 42, 6, 182, 0, 67, 172, 42, 180, 0, 10, 180, 0, 71, 27, 182, 0, 111, 172] := by decide +kernel
theorem dX11_away_32 : decode cX11_away 32 = .ok (.ifCond .ge 9, 3) := do_156 (rdb (p := 32) (i := 0) ch_cX11_away_32 rfl) (rdb (p := 32) (i := 1) ch_cX11_away_32 rfl) (rdb (p := 32) (i := 2) ch_cX11_away_32 rfl) (by decide +kernel)
theorem dX11_away_35 : decode cX11_away 35 = .ok (.aload_n 0, 1) := do_42 (rdb (p := 32) (i := 3) ch_cX11_away_32 rfl)
theorem dX11_away_36 : decode cX11_away 36 = .ok (.iconst 3, 1) := do_6 (rdb (p := 32) (i := 4) ch_cX11_away_32 rfl)
theorem dX11_away_37 : decode cX11_away 37 = .ok (.invokevirtual 67, 3) := do_182 (rdb (p := 32) (i := 5) ch_cX11_away_32 rfl) (rdb (p := 32) (i := 6) ch_cX11_away_32 rfl) (rdb (p := 32) (i := 7) ch_cX11_away_32 rfl) rfl
theorem dX11_away_40 : decode cX11_away 40 = .ok (.ireturn, 1) := do_172 (rdb (p := 32) (i := 8) ch_cX11_away_32 rfl)
theorem dX11_away_41 : decode cX11_away 41 = .ok (.aload_n 0, 1) := do_42 (rdb (p := 32) (i := 9) ch_cX11_away_32 rfl)
theorem dX11_away_42 : decode cX11_away 42 = .ok (.getfield 10, 3) := do_180 (rdb (p := 32) (i := 10) ch_cX11_away_32 rfl) (rdb (p := 32) (i := 11) ch_cX11_away_32 rfl) (rdb (p := 32) (i := 12) ch_cX11_away_32 rfl) rfl
theorem dX11_away_45 : decode cX11_away 45 = .ok (.getfield 71, 3) := do_180 (rdb (p := 32) (i := 13) ch_cX11_away_32 rfl) (rdb (p := 32) (i := 14) ch_cX11_away_32 rfl) (rdb (p := 32) (i := 15) ch_cX11_away_32 rfl) rfl
theorem dX11_away_48 : decode cX11_away 48 = .ok (.iload_n 1, 1) := do_27 (rdb (p := 32) (i := 16) ch_cX11_away_32 rfl)
theorem dX11_away_49 : decode cX11_away 49 = .ok (.invokevirtual 111, 3) := do_182 (rdb (p := 32) (i := 17) ch_cX11_away_32 rfl) (rdb (p := 32) (i := 18) ch_cX11_away_32 rfl) (rdb (p := 32) (i := 19) ch_cX11_away_32 rfl) rfl
theorem dX11_away_52 : decode cX11_away 52 = .ok (.ireturn, 1) := do_172 (rdb (p := 32) (i := 20) ch_cX11_away_32 rfl)
theorem ch_cX11_click_0 : (cX11_click.data.toList.drop 0).take 36 = [42, 180, 0, 10, 27, 182, 0, 154, 154, 0, 9, 42, 4, 182, 0, 67, 172, 42, 180, 0, 10, 180, 0, 157, 27, 50, 4, 182, 0, 165, 154, 0, 9, 42, 8, 182] := by decide +kernel
theorem dX11_click_0 : decode cX11_click 0 = .ok (.aload_n 0, 1) := do_42 (rdb (p := 0) (i := 0) ch_cX11_click_0 rfl)
theorem dX11_click_1 : decode cX11_click 1 = .ok (.getfield 10, 3) := do_180 (rdb (p := 0) (i := 1) ch_cX11_click_0 rfl) (rdb (p := 0) (i := 2) ch_cX11_click_0 rfl) (rdb (p := 0) (i := 3) ch_cX11_click_0 rfl) rfl
theorem dX11_click_4 : decode cX11_click 4 = .ok (.iload_n 1, 1) := do_27 (rdb (p := 0) (i := 4) ch_cX11_click_0 rfl)
theorem dX11_click_5 : decode cX11_click 5 = .ok (.invokevirtual 154, 3) := do_182 (rdb (p := 0) (i := 5) ch_cX11_click_0 rfl) (rdb (p := 0) (i := 6) ch_cX11_click_0 rfl) (rdb (p := 0) (i := 7) ch_cX11_click_0 rfl) rfl
theorem dX11_click_8 : decode cX11_click 8 = .ok (.ifCond .ne 9, 3) := do_154 (rdb (p := 0) (i := 8) ch_cX11_click_0 rfl) (rdb (p := 0) (i := 9) ch_cX11_click_0 rfl) (rdb (p := 0) (i := 10) ch_cX11_click_0 rfl) (by decide +kernel)
theorem dX11_click_11 : decode cX11_click 11 = .ok (.aload_n 0, 1) := do_42 (rdb (p := 0) (i := 11) ch_cX11_click_0 rfl)
theorem dX11_click_12 : decode cX11_click 12 = .ok (.iconst 1, 1) := do_4 (rdb (p := 0) (i := 12) ch_cX11_click_0 rfl)
theorem dX11_click_13 : decode cX11_click 13 = .ok (.invokevirtual 67, 3) := do_182 (rdb (p := 0) (i := 13) ch_cX11_click_0 rfl) (rdb (p := 0) (i := 14) ch_cX11_click_0 rfl) (rdb (p := 0) (i := 15) ch_cX11_click_0 rfl) rfl
theorem dX11_click_16 : decode cX11_click 16 = .ok (.ireturn, 1) := do_172 (rdb (p := 0) (i := 16) ch_cX11_click_0 rfl)
theorem dX11_click_17 : decode cX11_click 17 = .ok (.aload_n 0, 1) := do_42 (rdb (p := 0) (i := 17) ch_cX11_click_0 rfl)
theorem dX11_click_18 : decode cX11_click 18 = .ok (.getfield 10, 3) := do_180 (rdb (p := 0) (i := 18) ch_cX11_click_0 rfl) (rdb (p := 0) (i := 19) ch_cX11_click_0 rfl) (rdb (p := 0) (i := 20) ch_cX11_click_0 rfl) rfl
theorem dX11_click_21 : decode cX11_click 21 = .ok (.getfield 157, 3) := do_180 (rdb (p := 0) (i := 21) ch_cX11_click_0 rfl) (rdb (p := 0) (i := 22) ch_cX11_click_0 rfl) (rdb (p := 0) (i := 23) ch_cX11_click_0 rfl) rfl
theorem dX11_click_24 : decode cX11_click 24 = .ok (.iload_n 1, 1) := do_27 (rdb (p := 0) (i := 24) ch_cX11_click_0 rfl)
theorem dX11_click_25 : decode cX11_click 25 = .ok (.aaload, 1) := do_50 (rdb (p := 0) (i := 25) ch_cX11_click_0 rfl)
theorem dX11_click_26 : decode cX11_click 26 = .ok (.iconst 1, 1) := do_4 (rdb (p := 0) (i := 26) ch_cX11_click_0 rfl)
theorem dX11_click_27 : decode cX11_click 27 = .ok (.invokevirtual 165, 3) := do_182 (rdb (p := 0) (i := 27) ch_cX11_click_0 rfl) (rdb (p := 0) (i := 28) ch_cX11_click_0 rfl) (rdb (p := 0) (i := 29) ch_cX11_click_0 rfl) rfl
theorem dX11_click_30 : decode cX11_click 30 = .ok (.ifCond .ne 9, 3) := do_154 (rdb (p := 0) (i := 30) ch_cX11_click_0 rfl) (rdb (p := 0) (i := 31) ch_cX11_click_0 rfl) (rdb (p := 0) (i := 32) ch_cX11_click_0 rfl) (by decide +kernel)
theorem ch_cX11_click_32 : (cX11_click.data.toList.drop 32).take 36 = [9, 42, 8, 182, 0, 67, 172, 42, 180, 0, 10, 27, 182, 0, 239, 172] := by decide +kernel
theorem dX11_click_33 : decode cX11_click 33 = .ok (.aload_n 0, 1) := do_42 (rdb (p := 32) (i := 1) ch_cX11_click_32 rfl)
theorem dX11_click_34 : decode cX11_click 34 = .ok (.iconst 5, 1) := do_8 (rdb (p := 32) (i := 2) ch_cX11_click_32 rfl)
theorem dX11_click_35 : decode cX11_click 35 = .ok (.invokevirtual 67, 3) := do_182 (rdb (p := 32) (i := 3) ch_cX11_click_32 rfl) (rdb (p := 32) (i := 4) ch_cX11_click_32 rfl) (rdb (p := 32) (i := 5) ch_cX11_click_32 rfl) rfl
theorem dX11_click_38 : decode cX11_click 38 = .ok (.ireturn, 1) := do_172 (rdb (p := 32) (i := 6) ch_cX11_click_32 rfl)
theorem dX11_click_39 : decode cX11_click 39 = .ok (.aload_n 0, 1) := do_42 (rdb (p := 32) (i := 7) ch_cX11_click_32 rfl)
theorem dX11_click_40 : decode cX11_click 40 = .ok (.getfield 10, 3) := do_180 (rdb (p := 32) (i := 8) ch_cX11_click_32 rfl) (rdb (p := 32) (i := 9) ch_cX11_click_32 rfl) (rdb (p := 32) (i := 10) ch_cX11_click_32 rfl) rfl
theorem dX11_click_43 : decode cX11_click 43 = .ok (.iload_n 1, 1) := do_27 (rdb (p := 32) (i := 11) ch_cX11_click_32 rfl)
theorem dX11_click_44 : decode cX11_click 44 = .ok (.invokevirtual 239, 3) := do_182 (rdb (p := 32) (i := 12) ch_cX11_click_32 rfl) (rdb (p := 32) (i := 13) ch_cX11_click_32 rfl) (rdb (p := 32) (i := 14) ch_cX11_click_32 rfl) rfl
theorem dX11_click_47 : decode cX11_click 47 = .ok (.ireturn, 1) := do_172 (rdb (p := 32) (i := 15) ch_cX11_click_32 rfl)
theorem ch_cX11_echo_0 : (cX11_echo.data.toList.drop 0).take 36 = [42, 180, 0, 10, 27, 182, 0, 154, 153, 0, 27, 28, 184, 0, 227, 153, 0, 20, 29, 184, 0, 96, 153, 0, 13, 21, 4, 3, 8, 184, 0, 89, 154, 0, 9, 42] := by decide +kernel
theorem dX11_echo_0 : decode cX11_echo 0 = .ok (.aload_n 0, 1) := do_42 (rdb (p := 0) (i := 0) ch_cX11_echo_0 rfl)
theorem dX11_echo_1 : decode cX11_echo 1 = .ok (.getfield 10, 3) := do_180 (rdb (p := 0) (i := 1) ch_cX11_echo_0 rfl) (rdb (p := 0) (i := 2) ch_cX11_echo_0 rfl) (rdb (p := 0) (i := 3) ch_cX11_echo_0 rfl) rfl
theorem dX11_echo_4 : decode cX11_echo 4 = .ok (.iload_n 1, 1) := do_27 (rdb (p := 0) (i := 4) ch_cX11_echo_0 rfl)
theorem dX11_echo_5 : decode cX11_echo 5 = .ok (.invokevirtual 154, 3) := do_182 (rdb (p := 0) (i := 5) ch_cX11_echo_0 rfl) (rdb (p := 0) (i := 6) ch_cX11_echo_0 rfl) (rdb (p := 0) (i := 7) ch_cX11_echo_0 rfl) rfl
theorem dX11_echo_8 : decode cX11_echo 8 = .ok (.ifCond .eq 27, 3) := do_153 (rdb (p := 0) (i := 8) ch_cX11_echo_0 rfl) (rdb (p := 0) (i := 9) ch_cX11_echo_0 rfl) (rdb (p := 0) (i := 10) ch_cX11_echo_0 rfl) (by decide +kernel)
theorem dX11_echo_11 : decode cX11_echo 11 = .ok (.iload_n 2, 1) := do_28 (rdb (p := 0) (i := 11) ch_cX11_echo_0 rfl)
theorem dX11_echo_12 : decode cX11_echo 12 = .ok (.invokestatic 227, 3) := do_184 (rdb (p := 0) (i := 12) ch_cX11_echo_0 rfl) (rdb (p := 0) (i := 13) ch_cX11_echo_0 rfl) (rdb (p := 0) (i := 14) ch_cX11_echo_0 rfl) rfl
theorem dX11_echo_15 : decode cX11_echo 15 = .ok (.ifCond .eq 20, 3) := do_153 (rdb (p := 0) (i := 15) ch_cX11_echo_0 rfl) (rdb (p := 0) (i := 16) ch_cX11_echo_0 rfl) (rdb (p := 0) (i := 17) ch_cX11_echo_0 rfl) (by decide +kernel)
theorem dX11_echo_18 : decode cX11_echo 18 = .ok (.iload_n 3, 1) := do_29 (rdb (p := 0) (i := 18) ch_cX11_echo_0 rfl)
theorem dX11_echo_19 : decode cX11_echo 19 = .ok (.invokestatic 96, 3) := do_184 (rdb (p := 0) (i := 19) ch_cX11_echo_0 rfl) (rdb (p := 0) (i := 20) ch_cX11_echo_0 rfl) (rdb (p := 0) (i := 21) ch_cX11_echo_0 rfl) rfl
theorem dX11_echo_22 : decode cX11_echo 22 = .ok (.ifCond .eq 13, 3) := do_153 (rdb (p := 0) (i := 22) ch_cX11_echo_0 rfl) (rdb (p := 0) (i := 23) ch_cX11_echo_0 rfl) (rdb (p := 0) (i := 24) ch_cX11_echo_0 rfl) (by decide +kernel)
theorem dX11_echo_25 : decode cX11_echo 25 = .ok (.iload 4, 2) := do_21 (rdb (p := 0) (i := 25) ch_cX11_echo_0 rfl) (rdb (p := 0) (i := 26) ch_cX11_echo_0 rfl)
theorem dX11_echo_27 : decode cX11_echo 27 = .ok (.iconst 0, 1) := do_3 (rdb (p := 0) (i := 27) ch_cX11_echo_0 rfl)
theorem dX11_echo_28 : decode cX11_echo 28 = .ok (.iconst 5, 1) := do_8 (rdb (p := 0) (i := 28) ch_cX11_echo_0 rfl)
theorem dX11_echo_29 : decode cX11_echo 29 = .ok (.invokestatic 89, 3) := do_184 (rdb (p := 0) (i := 29) ch_cX11_echo_0 rfl) (rdb (p := 0) (i := 30) ch_cX11_echo_0 rfl) (rdb (p := 0) (i := 31) ch_cX11_echo_0 rfl) rfl
theorem ch_cX11_echo_32 : (cX11_echo.data.toList.drop 32).take 36 = [154, 0, 9, 42, 4, 182, 0, 67, 172, 42, 180, 0, 10, 27, 42, 180, 0, 10, 180, 0, 157, 27, 50, 180, 0, 229, 29, 182, 0, 232, 154, 0, 9, 42, 5, 182] := by decide +kernel
theorem dX11_echo_32 : decode cX11_echo 32 = .ok (.ifCond .ne 9, 3) := do_154 (rdb (p := 32) (i := 0) ch_cX11_echo_32 rfl) (rdb (p := 32) (i := 1) ch_cX11_echo_32 rfl) (rdb (p := 32) (i := 2) ch_cX11_echo_32 rfl) (by decide +kernel)
theorem dX11_echo_35 : decode cX11_echo 35 = .ok (.aload_n 0, 1) := do_42 (rdb (p := 32) (i := 3) ch_cX11_echo_32 rfl)
theorem dX11_echo_36 : decode cX11_echo 36 = .ok (.iconst 1, 1) := do_4 (rdb (p := 32) (i := 4) ch_cX11_echo_32 rfl)
theorem dX11_echo_37 : decode cX11_echo 37 = .ok (.invokevirtual 67, 3) := do_182 (rdb (p := 32) (i := 5) ch_cX11_echo_32 rfl) (rdb (p := 32) (i := 6) ch_cX11_echo_32 rfl) (rdb (p := 32) (i := 7) ch_cX11_echo_32 rfl) rfl
theorem dX11_echo_40 : decode cX11_echo 40 = .ok (.ireturn, 1) := do_172 (rdb (p := 32) (i := 8) ch_cX11_echo_32 rfl)
theorem dX11_echo_41 : decode cX11_echo 41 = .ok (.aload_n 0, 1) := do_42 (rdb (p := 32) (i := 9) ch_cX11_echo_32 rfl)
theorem dX11_echo_42 : decode cX11_echo 42 = .ok (.getfield 10, 3) := do_180 (rdb (p := 32) (i := 10) ch_cX11_echo_32 rfl) (rdb (p := 32) (i := 11) ch_cX11_echo_32 rfl) (rdb (p := 32) (i := 12) ch_cX11_echo_32 rfl) rfl
theorem dX11_echo_45 : decode cX11_echo 45 = .ok (.iload_n 1, 1) := do_27 (rdb (p := 32) (i := 13) ch_cX11_echo_32 rfl)
theorem dX11_echo_46 : decode cX11_echo 46 = .ok (.aload_n 0, 1) := do_42 (rdb (p := 32) (i := 14) ch_cX11_echo_32 rfl)
theorem dX11_echo_47 : decode cX11_echo 47 = .ok (.getfield 10, 3) := do_180 (rdb (p := 32) (i := 15) ch_cX11_echo_32 rfl) (rdb (p := 32) (i := 16) ch_cX11_echo_32 rfl) (rdb (p := 32) (i := 17) ch_cX11_echo_32 rfl) rfl
theorem dX11_echo_50 : decode cX11_echo 50 = .ok (.getfield 157, 3) := do_180 (rdb (p := 32) (i := 18) ch_cX11_echo_32 rfl) (rdb (p := 32) (i := 19) ch_cX11_echo_32 rfl) (rdb (p := 32) (i := 20) ch_cX11_echo_32 rfl) rfl
theorem dX11_echo_53 : decode cX11_echo 53 = .ok (.iload_n 1, 1) := do_27 (rdb (p := 32) (i := 21) ch_cX11_echo_32 rfl)
theorem dX11_echo_54 : decode cX11_echo 54 = .ok (.aaload, 1) := do_50 (rdb (p := 32) (i := 22) ch_cX11_echo_32 rfl)
theorem dX11_echo_55 : decode cX11_echo 55 = .ok (.getfield 229, 3) := do_180 (rdb (p := 32) (i := 23) ch_cX11_echo_32 rfl) (rdb (p := 32) (i := 24) ch_cX11_echo_32 rfl) (rdb (p := 32) (i := 25) ch_cX11_echo_32 rfl) rfl
theorem dX11_echo_58 : decode cX11_echo 58 = .ok (.iload_n 3, 1) := do_29 (rdb (p := 32) (i := 26) ch_cX11_echo_32 rfl)
theorem dX11_echo_59 : decode cX11_echo 59 = .ok (.invokevirtual 232, 3) := do_182 (rdb (p := 32) (i := 27) ch_cX11_echo_32 rfl) (rdb (p := 32) (i := 28) ch_cX11_echo_32 rfl) (rdb (p := 32) (i := 29) ch_cX11_echo_32 rfl) rfl
theorem dX11_echo_62 : decode cX11_echo 62 = .ok (.ifCond .ne 9, 3) := do_154 (rdb (p := 32) (i := 30) ch_cX11_echo_32 rfl) (rdb (p := 32) (i := 31) ch_cX11_echo_32 rfl) (rdb (p := 32) (i := 32) ch_cX11_echo_32 rfl) (by decide +kernel)
theorem ch_cX11_echo_64 : (cX11_echo.data.toList.drop 64).take 36 = [9, 42, 5, 182, 0, 67, 172, 42, 180, 0, 10, 27, 28, 29, 21, 4, 182, 0, 235, 172] := by decide +kernel
theorem dX11_echo_65 : decode cX11_echo 65 = .ok (.aload_n 0, 1) := do_42 (rdb (p := 64) (i := 1) ch_cX11_echo_64 rfl)
theorem dX11_echo_66 : decode cX11_echo 66 = .ok (.iconst 2, 1) := do_5 (rdb (p := 64) (i := 2) ch_cX11_echo_64 rfl)
theorem dX11_echo_67 : decode cX11_echo 67 = .ok (.invokevirtual 67, 3) := do_182 (rdb (p := 64) (i := 3) ch_cX11_echo_64 rfl) (rdb (p := 64) (i := 4) ch_cX11_echo_64 rfl) (rdb (p := 64) (i := 5) ch_cX11_echo_64 rfl) rfl
theorem dX11_echo_70 : decode cX11_echo 70 = .ok (.ireturn, 1) := do_172 (rdb (p := 64) (i := 6) ch_cX11_echo_64 rfl)
theorem dX11_echo_71 : decode cX11_echo 71 = .ok (.aload_n 0, 1) := do_42 (rdb (p := 64) (i := 7) ch_cX11_echo_64 rfl)
theorem dX11_echo_72 : decode cX11_echo 72 = .ok (.getfield 10, 3) := do_180 (rdb (p := 64) (i := 8) ch_cX11_echo_64 rfl) (rdb (p := 64) (i := 9) ch_cX11_echo_64 rfl) (rdb (p := 64) (i := 10) ch_cX11_echo_64 rfl) rfl
theorem dX11_echo_75 : decode cX11_echo 75 = .ok (.iload_n 1, 1) := do_27 (rdb (p := 64) (i := 11) ch_cX11_echo_64 rfl)
theorem dX11_echo_76 : decode cX11_echo 76 = .ok (.iload_n 2, 1) := do_28 (rdb (p := 64) (i := 12) ch_cX11_echo_64 rfl)
theorem dX11_echo_77 : decode cX11_echo 77 = .ok (.iload_n 3, 1) := do_29 (rdb (p := 64) (i := 13) ch_cX11_echo_64 rfl)
theorem dX11_echo_78 : decode cX11_echo 78 = .ok (.iload 4, 2) := do_21 (rdb (p := 64) (i := 14) ch_cX11_echo_64 rfl) (rdb (p := 64) (i := 15) ch_cX11_echo_64 rfl)
theorem dX11_echo_80 : decode cX11_echo 80 = .ok (.invokevirtual 235, 3) := do_182 (rdb (p := 64) (i := 16) ch_cX11_echo_64 rfl) (rdb (p := 64) (i := 17) ch_cX11_echo_64 rfl) (rdb (p := 64) (i := 18) ch_cX11_echo_64 rfl) rfl
theorem dX11_echo_83 : decode cX11_echo 83 = .ok (.ireturn, 1) := do_172 (rdb (p := 64) (i := 19) ch_cX11_echo_64 rfl)
theorem dX11_error_0 : decode cX11_error 0 = .ok (.iload_n 1, 1) := by decide +kernel
theorem dX11_error_1 : decode cX11_error 1 = .ok (.ifCond .lt 22, 3) := by decide +kernel
theorem dX11_error_4 : decode cX11_error 4 = .ok (.iload_n 1, 1) := by decide +kernel
theorem dX11_error_5 : decode cX11_error 5 = .ok (.aload_n 0, 1) := by decide +kernel
theorem dX11_error_6 : decode cX11_error 6 = .ok (.getfield 28, 3) := by decide +kernel
theorem dX11_error_9 : decode cX11_error 9 = .ok (.arraylength, 1) := by decide +kernel
theorem dX11_error_10 : decode cX11_error 10 = .ok (.if_icmp .ge 13, 3) := by decide +kernel
theorem dX11_error_13 : decode cX11_error 13 = .ok (.aload_n 0, 1) := by decide +kernel
theorem dX11_error_14 : decode cX11_error 14 = .ok (.getfield 28, 3) := by decide +kernel
theorem dX11_error_17 : decode cX11_error 17 = .ok (.iload_n 1, 1) := by decide +kernel
theorem dX11_error_18 : decode cX11_error 18 = .ok (.dup2, 1) := by decide +kernel
theorem dX11_error_19 : decode cX11_error 19 = .ok (.iaload, 1) := by decide +kernel
theorem dX11_error_20 : decode cX11_error 20 = .ok (.iconst 1, 1) := by decide +kernel
theorem dX11_error_21 : decode cX11_error 21 = .ok (.iadd, 1) := by decide +kernel
theorem dX11_error_22 : decode cX11_error 22 = .ok (.iastore, 1) := by decide +kernel
theorem dX11_error_23 : decode cX11_error 23 = .ok (.ldc_w 398, 3) := by decide +kernel
theorem dX11_error_26 : decode cX11_error 26 = .ok (.iload_n 1, 1) := by decide +kernel
theorem dX11_error_27 : decode cX11_error 27 = .ok (.isub, 1) := by decide +kernel
theorem dX11_error_28 : decode cX11_error 28 = .ok (.ireturn, 1) := by decide +kernel
theorem ch_cX11_face_0 : (cX11_face.data.toList.drop 0).take 36 = [42, 180, 0, 10, 27, 182, 0, 154, 153, 0, 10, 28, 184, 0, 96, 154, 0, 9, 42, 4, 182, 0, 67, 172, 42, 180, 0, 10, 180, 0, 157, 27, 50, 180, 0, 185] := by decide +kernel
theorem dX11_face_0 : decode cX11_face 0 = .ok (.aload_n 0, 1) := do_42 (rdb (p := 0) (i := 0) ch_cX11_face_0 rfl)
theorem dX11_face_1 : decode cX11_face 1 = .ok (.getfield 10, 3) := do_180 (rdb (p := 0) (i := 1) ch_cX11_face_0 rfl) (rdb (p := 0) (i := 2) ch_cX11_face_0 rfl) (rdb (p := 0) (i := 3) ch_cX11_face_0 rfl) rfl
theorem dX11_face_4 : decode cX11_face 4 = .ok (.iload_n 1, 1) := do_27 (rdb (p := 0) (i := 4) ch_cX11_face_0 rfl)
theorem dX11_face_5 : decode cX11_face 5 = .ok (.invokevirtual 154, 3) := do_182 (rdb (p := 0) (i := 5) ch_cX11_face_0 rfl) (rdb (p := 0) (i := 6) ch_cX11_face_0 rfl) (rdb (p := 0) (i := 7) ch_cX11_face_0 rfl) rfl
theorem dX11_face_8 : decode cX11_face 8 = .ok (.ifCond .eq 10, 3) := do_153 (rdb (p := 0) (i := 8) ch_cX11_face_0 rfl) (rdb (p := 0) (i := 9) ch_cX11_face_0 rfl) (rdb (p := 0) (i := 10) ch_cX11_face_0 rfl) (by decide +kernel)
theorem dX11_face_11 : decode cX11_face 11 = .ok (.iload_n 2, 1) := do_28 (rdb (p := 0) (i := 11) ch_cX11_face_0 rfl)
theorem dX11_face_12 : decode cX11_face 12 = .ok (.invokestatic 96, 3) := do_184 (rdb (p := 0) (i := 12) ch_cX11_face_0 rfl) (rdb (p := 0) (i := 13) ch_cX11_face_0 rfl) (rdb (p := 0) (i := 14) ch_cX11_face_0 rfl) rfl
theorem dX11_face_15 : decode cX11_face 15 = .ok (.ifCond .ne 9, 3) := do_154 (rdb (p := 0) (i := 15) ch_cX11_face_0 rfl) (rdb (p := 0) (i := 16) ch_cX11_face_0 rfl) (rdb (p := 0) (i := 17) ch_cX11_face_0 rfl) (by decide +kernel)
theorem dX11_face_18 : decode cX11_face 18 = .ok (.aload_n 0, 1) := do_42 (rdb (p := 0) (i := 18) ch_cX11_face_0 rfl)
theorem dX11_face_19 : decode cX11_face 19 = .ok (.iconst 1, 1) := do_4 (rdb (p := 0) (i := 19) ch_cX11_face_0 rfl)
theorem dX11_face_20 : decode cX11_face 20 = .ok (.invokevirtual 67, 3) := do_182 (rdb (p := 0) (i := 20) ch_cX11_face_0 rfl) (rdb (p := 0) (i := 21) ch_cX11_face_0 rfl) (rdb (p := 0) (i := 22) ch_cX11_face_0 rfl) rfl
theorem dX11_face_23 : decode cX11_face 23 = .ok (.ireturn, 1) := do_172 (rdb (p := 0) (i := 23) ch_cX11_face_0 rfl)
theorem dX11_face_24 : decode cX11_face 24 = .ok (.aload_n 0, 1) := do_42 (rdb (p := 0) (i := 24) ch_cX11_face_0 rfl)
theorem dX11_face_25 : decode cX11_face 25 = .ok (.getfield 10, 3) := do_180 (rdb (p := 0) (i := 25) ch_cX11_face_0 rfl) (rdb (p := 0) (i := 26) ch_cX11_face_0 rfl) (rdb (p := 0) (i := 27) ch_cX11_face_0 rfl) rfl
theorem dX11_face_28 : decode cX11_face 28 = .ok (.getfield 157, 3) := do_180 (rdb (p := 0) (i := 28) ch_cX11_face_0 rfl) (rdb (p := 0) (i := 29) ch_cX11_face_0 rfl) (rdb (p := 0) (i := 30) ch_cX11_face_0 rfl) rfl
theorem dX11_face_31 : decode cX11_face 31 = .ok (.iload_n 1, 1) := do_27 (rdb (p := 0) (i := 31) ch_cX11_face_0 rfl)
theorem ch_cX11_face_32 : (cX11_face.data.toList.drop 32).take 36 = [50, 180, 0, 185, 62, 42, 180, 0, 10, 180, 0, 157, 27, 50, 28, 181, 0, 185, 29, 172] := by decide +kernel
theorem dX11_face_32 : decode cX11_face 32 = .ok (.aaload, 1) := do_50 (rdb (p := 32) (i := 0) ch_cX11_face_32 rfl)
theorem dX11_face_33 : decode cX11_face 33 = .ok (.getfield 185, 3) := do_180 (rdb (p := 32) (i := 1) ch_cX11_face_32 rfl) (rdb (p := 32) (i := 2) ch_cX11_face_32 rfl) (rdb (p := 32) (i := 3) ch_cX11_face_32 rfl) rfl
theorem dX11_face_36 : decode cX11_face 36 = .ok (.istore_n 3, 1) := do_62 (rdb (p := 32) (i := 4) ch_cX11_face_32 rfl)
theorem dX11_face_37 : decode cX11_face 37 = .ok (.aload_n 0, 1) := do_42 (rdb (p := 32) (i := 5) ch_cX11_face_32 rfl)
theorem dX11_face_38 : decode cX11_face 38 = .ok (.getfield 10, 3) := do_180 (rdb (p := 32) (i := 6) ch_cX11_face_32 rfl) (rdb (p := 32) (i := 7) ch_cX11_face_32 rfl) (rdb (p := 32) (i := 8) ch_cX11_face_32 rfl) rfl
theorem dX11_face_41 : decode cX11_face 41 = .ok (.getfield 157, 3) := do_180 (rdb (p := 32) (i := 9) ch_cX11_face_32 rfl) (rdb (p := 32) (i := 10) ch_cX11_face_32 rfl) (rdb (p := 32) (i := 11) ch_cX11_face_32 rfl) rfl
theorem dX11_face_44 : decode cX11_face 44 = .ok (.iload_n 1, 1) := do_27 (rdb (p := 32) (i := 12) ch_cX11_face_32 rfl)
theorem dX11_face_45 : decode cX11_face 45 = .ok (.aaload, 1) := do_50 (rdb (p := 32) (i := 13) ch_cX11_face_32 rfl)
theorem dX11_face_46 : decode cX11_face 46 = .ok (.iload_n 2, 1) := do_28 (rdb (p := 32) (i := 14) ch_cX11_face_32 rfl)
theorem dX11_face_47 : decode cX11_face 47 = .ok (.putfield 185, 3) := do_181 (rdb (p := 32) (i := 15) ch_cX11_face_32 rfl) (rdb (p := 32) (i := 16) ch_cX11_face_32 rfl) (rdb (p := 32) (i := 17) ch_cX11_face_32 rfl) rfl
theorem dX11_face_50 : decode cX11_face 50 = .ok (.iload_n 3, 1) := do_29 (rdb (p := 32) (i := 18) ch_cX11_face_32 rfl)
theorem dX11_face_51 : decode cX11_face 51 = .ok (.ireturn, 1) := do_172 (rdb (p := 32) (i := 19) ch_cX11_face_32 rfl)
theorem ch_cX11_farthest_0 : (cX11_farthest.data.toList.drop 0).take 36 = [42, 180, 0, 10, 27, 182, 0, 154, 153, 0, 17, 28, 184, 0, 58, 153, 0, 10, 29, 184, 0, 227, 154, 0, 9, 42, 4, 182, 0, 67, 172, 42, 180, 0, 10, 180] := by decide +kernel
theorem dX11_farthest_0 : decode cX11_farthest 0 = .ok (.aload_n 0, 1) := do_42 (rdb (p := 0) (i := 0) ch_cX11_farthest_0 rfl)
theorem dX11_farthest_1 : decode cX11_farthest 1 = .ok (.getfield 10, 3) := do_180 (rdb (p := 0) (i := 1) ch_cX11_farthest_0 rfl) (rdb (p := 0) (i := 2) ch_cX11_farthest_0 rfl) (rdb (p := 0) (i := 3) ch_cX11_farthest_0 rfl) rfl
theorem dX11_farthest_4 : decode cX11_farthest 4 = .ok (.iload_n 1, 1) := do_27 (rdb (p := 0) (i := 4) ch_cX11_farthest_0 rfl)
theorem dX11_farthest_5 : decode cX11_farthest 5 = .ok (.invokevirtual 154, 3) := do_182 (rdb (p := 0) (i := 5) ch_cX11_farthest_0 rfl) (rdb (p := 0) (i := 6) ch_cX11_farthest_0 rfl) (rdb (p := 0) (i := 7) ch_cX11_farthest_0 rfl) rfl
theorem dX11_farthest_8 : decode cX11_farthest 8 = .ok (.ifCond .eq 17, 3) := do_153 (rdb (p := 0) (i := 8) ch_cX11_farthest_0 rfl) (rdb (p := 0) (i := 9) ch_cX11_farthest_0 rfl) (rdb (p := 0) (i := 10) ch_cX11_farthest_0 rfl) (by decide +kernel)
theorem dX11_farthest_11 : decode cX11_farthest 11 = .ok (.iload_n 2, 1) := do_28 (rdb (p := 0) (i := 11) ch_cX11_farthest_0 rfl)
theorem dX11_farthest_12 : decode cX11_farthest 12 = .ok (.invokestatic 58, 3) := do_184 (rdb (p := 0) (i := 12) ch_cX11_farthest_0 rfl) (rdb (p := 0) (i := 13) ch_cX11_farthest_0 rfl) (rdb (p := 0) (i := 14) ch_cX11_farthest_0 rfl) rfl
theorem dX11_farthest_15 : decode cX11_farthest 15 = .ok (.ifCond .eq 10, 3) := do_153 (rdb (p := 0) (i := 15) ch_cX11_farthest_0 rfl) (rdb (p := 0) (i := 16) ch_cX11_farthest_0 rfl) (rdb (p := 0) (i := 17) ch_cX11_farthest_0 rfl) (by decide +kernel)
theorem dX11_farthest_18 : decode cX11_farthest 18 = .ok (.iload_n 3, 1) := do_29 (rdb (p := 0) (i := 18) ch_cX11_farthest_0 rfl)
theorem dX11_farthest_19 : decode cX11_farthest 19 = .ok (.invokestatic 227, 3) := do_184 (rdb (p := 0) (i := 19) ch_cX11_farthest_0 rfl) (rdb (p := 0) (i := 20) ch_cX11_farthest_0 rfl) (rdb (p := 0) (i := 21) ch_cX11_farthest_0 rfl) rfl
theorem dX11_farthest_22 : decode cX11_farthest 22 = .ok (.ifCond .ne 9, 3) := do_154 (rdb (p := 0) (i := 22) ch_cX11_farthest_0 rfl) (rdb (p := 0) (i := 23) ch_cX11_farthest_0 rfl) (rdb (p := 0) (i := 24) ch_cX11_farthest_0 rfl) (by decide +kernel)
theorem dX11_farthest_25 : decode cX11_farthest 25 = .ok (.aload_n 0, 1) := do_42 (rdb (p := 0) (i := 25) ch_cX11_farthest_0 rfl)
theorem dX11_farthest_26 : decode cX11_farthest 26 = .ok (.iconst 1, 1) := do_4 (rdb (p := 0) (i := 26) ch_cX11_farthest_0 rfl)
theorem dX11_farthest_27 : decode cX11_farthest 27 = .ok (.invokevirtual 67, 3) := do_182 (rdb (p := 0) (i := 27) ch_cX11_farthest_0 rfl) (rdb (p := 0) (i := 28) ch_cX11_farthest_0 rfl) (rdb (p := 0) (i := 29) ch_cX11_farthest_0 rfl) rfl
theorem dX11_farthest_30 : decode cX11_farthest 30 = .ok (.ireturn, 1) := do_172 (rdb (p := 0) (i := 30) ch_cX11_farthest_0 rfl)
theorem dX11_farthest_31 : decode cX11_farthest 31 = .ok (.aload_n 0, 1) := do_42 (rdb (p := 0) (i := 31) ch_cX11_farthest_0 rfl)
theorem ch_cX11_farthest_32 : (cX11_farthest.data.toList.drop 32).take 36 = [180, 0, 10, 180, 0, 157, 27, 50, 58, 4, 25, 4, 182, 0, 168, 54, 5, 21, 5, 4, 161, 0, 35, 42, 180, 0, 10, 180, 0, 114, 25, 4, 182, 1, 1, 28] := by decide +kernel
theorem dX11_farthest_32 : decode cX11_farthest 32 = .ok (.getfield 10, 3) := do_180 (rdb (p := 32) (i := 0) ch_cX11_farthest_32 rfl) (rdb (p := 32) (i := 1) ch_cX11_farthest_32 rfl) (rdb (p := 32) (i := 2) ch_cX11_farthest_32 rfl) rfl
theorem dX11_farthest_35 : decode cX11_farthest 35 = .ok (.getfield 157, 3) := do_180 (rdb (p := 32) (i := 3) ch_cX11_farthest_32 rfl) (rdb (p := 32) (i := 4) ch_cX11_farthest_32 rfl) (rdb (p := 32) (i := 5) ch_cX11_farthest_32 rfl) rfl
theorem dX11_farthest_38 : decode cX11_farthest 38 = .ok (.iload_n 1, 1) := do_27 (rdb (p := 32) (i := 6) ch_cX11_farthest_32 rfl)
theorem dX11_farthest_39 : decode cX11_farthest 39 = .ok (.aaload, 1) := do_50 (rdb (p := 32) (i := 7) ch_cX11_farthest_32 rfl)
theorem dX11_farthest_40 : decode cX11_farthest 40 = .ok (.astore 4, 2) := do_58 (rdb (p := 32) (i := 8) ch_cX11_farthest_32 rfl) (rdb (p := 32) (i := 9) ch_cX11_farthest_32 rfl)
theorem dX11_farthest_42 : decode cX11_farthest 42 = .ok (.aload 4, 2) := do_25 (rdb (p := 32) (i := 10) ch_cX11_farthest_32 rfl) (rdb (p := 32) (i := 11) ch_cX11_farthest_32 rfl)
theorem dX11_farthest_44 : decode cX11_farthest 44 = .ok (.invokevirtual 168, 3) := do_182 (rdb (p := 32) (i := 12) ch_cX11_farthest_32 rfl) (rdb (p := 32) (i := 13) ch_cX11_farthest_32 rfl) (rdb (p := 32) (i := 14) ch_cX11_farthest_32 rfl) rfl
theorem dX11_farthest_47 : decode cX11_farthest 47 = .ok (.istore 5, 2) := do_54 (rdb (p := 32) (i := 15) ch_cX11_farthest_32 rfl) (rdb (p := 32) (i := 16) ch_cX11_farthest_32 rfl)
theorem dX11_farthest_49 : decode cX11_farthest 49 = .ok (.iload 5, 2) := do_21 (rdb (p := 32) (i := 17) ch_cX11_farthest_32 rfl) (rdb (p := 32) (i := 18) ch_cX11_farthest_32 rfl)
theorem dX11_farthest_51 : decode cX11_farthest 51 = .ok (.iconst 1, 1) := do_4 (rdb (p := 32) (i := 19) ch_cX11_farthest_32 rfl)
theorem dX11_farthest_52 : decode cX11_farthest 52 = .ok (.if_icmp .lt 35, 3) := do_161 (rdb (p := 32) (i := 20) ch_cX11_farthest_32 rfl) (rdb (p := 32) (i := 21) ch_cX11_farthest_32 rfl) (rdb (p := 32) (i := 22) ch_cX11_farthest_32 rfl) (by decide +kernel)
theorem dX11_farthest_55 : decode cX11_farthest 55 = .ok (.aload_n 0, 1) := do_42 (rdb (p := 32) (i := 23) ch_cX11_farthest_32 rfl)
theorem dX11_farthest_56 : decode cX11_farthest 56 = .ok (.getfield 10, 3) := do_180 (rdb (p := 32) (i := 24) ch_cX11_farthest_32 rfl) (rdb (p := 32) (i := 25) ch_cX11_farthest_32 rfl) (rdb (p := 32) (i := 26) ch_cX11_farthest_32 rfl) rfl
theorem dX11_farthest_59 : decode cX11_farthest 59 = .ok (.getfield 114, 3) := do_180 (rdb (p := 32) (i := 27) ch_cX11_farthest_32 rfl) (rdb (p := 32) (i := 28) ch_cX11_farthest_32 rfl) (rdb (p := 32) (i := 29) ch_cX11_farthest_32 rfl) rfl
theorem dX11_farthest_62 : decode cX11_farthest 62 = .ok (.aload 4, 2) := do_25 (rdb (p := 32) (i := 30) ch_cX11_farthest_32 rfl) (rdb (p := 32) (i := 31) ch_cX11_farthest_32 rfl)
theorem ch_cX11_farthest_64 : (cX11_farthest.data.toList.drop 64).take 36 = [182, 1, 1, 28, 29, 21, 5, 3, 182, 1, 14, 153, 0, 6, 21, 5, 172, 132, 5, 255, 167, 255, 221, 42, 5, 182, 0, 67, 172] := by decide +kernel
theorem dX11_farthest_64 : decode cX11_farthest 64 = .ok (.invokevirtual 257, 3) := do_182 (rdb (p := 64) (i := 0) ch_cX11_farthest_64 rfl) (rdb (p := 64) (i := 1) ch_cX11_farthest_64 rfl) (rdb (p := 64) (i := 2) ch_cX11_farthest_64 rfl) rfl
theorem dX11_farthest_67 : decode cX11_farthest 67 = .ok (.iload_n 2, 1) := do_28 (rdb (p := 64) (i := 3) ch_cX11_farthest_64 rfl)
theorem dX11_farthest_68 : decode cX11_farthest 68 = .ok (.iload_n 3, 1) := do_29 (rdb (p := 64) (i := 4) ch_cX11_farthest_64 rfl)
theorem dX11_farthest_69 : decode cX11_farthest 69 = .ok (.iload 5, 2) := do_21 (rdb (p := 64) (i := 5) ch_cX11_farthest_64 rfl) (rdb (p := 64) (i := 6) ch_cX11_farthest_64 rfl)
theorem dX11_farthest_71 : decode cX11_farthest 71 = .ok (.iconst 0, 1) := do_3 (rdb (p := 64) (i := 7) ch_cX11_farthest_64 rfl)
theorem dX11_farthest_72 : decode cX11_farthest 72 = .ok (.invokevirtual 270, 3) := do_182 (rdb (p := 64) (i := 8) ch_cX11_farthest_64 rfl) (rdb (p := 64) (i := 9) ch_cX11_farthest_64 rfl) (rdb (p := 64) (i := 10) ch_cX11_farthest_64 rfl) rfl
theorem dX11_farthest_75 : decode cX11_farthest 75 = .ok (.ifCond .eq 6, 3) := do_153 (rdb (p := 64) (i := 11) ch_cX11_farthest_64 rfl) (rdb (p := 64) (i := 12) ch_cX11_farthest_64 rfl) (rdb (p := 64) (i := 13) ch_cX11_farthest_64 rfl) (by decide +kernel)
theorem dX11_farthest_78 : decode cX11_farthest 78 = .ok (.iload 5, 2) := do_21 (rdb (p := 64) (i := 14) ch_cX11_farthest_64 rfl) (rdb (p := 64) (i := 15) ch_cX11_farthest_64 rfl)
theorem dX11_farthest_80 : decode cX11_farthest 80 = .ok (.ireturn, 1) := do_172 (rdb (p := 64) (i := 16) ch_cX11_farthest_64 rfl)
theorem dX11_farthest_81 : decode cX11_farthest 81 = .ok (.iinc 5 (-1), 3) := do_132 (rdb (p := 64) (i := 17) ch_cX11_farthest_64 rfl) (rdb (p := 64) (i := 18) ch_cX11_farthest_64 rfl) (rdb (p := 64) (i := 19) ch_cX11_farthest_64 rfl) (by decide +kernel)
theorem dX11_farthest_84 : decode cX11_farthest 84 = .ok (.goto (-35), 3) := do_167 (rdb (p := 64) (i := 20) ch_cX11_farthest_64 rfl) (rdb (p := 64) (i := 21) ch_cX11_farthest_64 rfl) (rdb (p := 64) (i := 22) ch_cX11_farthest_64 rfl) (by decide +kernel)
theorem dX11_farthest_87 : decode cX11_farthest 87 = .ok (.aload_n 0, 1) := do_42 (rdb (p := 64) (i := 23) ch_cX11_farthest_64 rfl)
theorem dX11_farthest_88 : decode cX11_farthest 88 = .ok (.iconst 2, 1) := do_5 (rdb (p := 64) (i := 24) ch_cX11_farthest_64 rfl)
theorem dX11_farthest_89 : decode cX11_farthest 89 = .ok (.invokevirtual 67, 3) := do_182 (rdb (p := 64) (i := 25) ch_cX11_farthest_64 rfl) (rdb (p := 64) (i := 26) ch_cX11_farthest_64 rfl) (rdb (p := 64) (i := 27) ch_cX11_farthest_64 rfl) rfl
theorem dX11_farthest_92 : decode cX11_farthest 92 = .ok (.ireturn, 1) := do_172 (rdb (p := 64) (i := 28) ch_cX11_farthest_64 rfl)
theorem ch_cX11_goes_0 : (cX11_goes.data.toList.drop 0).take 36 = [42, 180, 0, 10, 27, 182, 0, 154, 154, 0, 9, 42, 4, 182, 0, 67, 172, 42, 180, 0, 10, 180, 0, 157, 27, 50, 180, 0, 188, 62, 42, 180, 0, 10, 180, 0] := by decide +kernel
theorem dX11_goes_0 : decode cX11_goes 0 = .ok (.aload_n 0, 1) := do_42 (rdb (p := 0) (i := 0) ch_cX11_goes_0 rfl)
theorem dX11_goes_1 : decode cX11_goes 1 = .ok (.getfield 10, 3) := do_180 (rdb (p := 0) (i := 1) ch_cX11_goes_0 rfl) (rdb (p := 0) (i := 2) ch_cX11_goes_0 rfl) (rdb (p := 0) (i := 3) ch_cX11_goes_0 rfl) rfl
theorem dX11_goes_4 : decode cX11_goes 4 = .ok (.iload_n 1, 1) := do_27 (rdb (p := 0) (i := 4) ch_cX11_goes_0 rfl)
theorem dX11_goes_5 : decode cX11_goes 5 = .ok (.invokevirtual 154, 3) := do_182 (rdb (p := 0) (i := 5) ch_cX11_goes_0 rfl) (rdb (p := 0) (i := 6) ch_cX11_goes_0 rfl) (rdb (p := 0) (i := 7) ch_cX11_goes_0 rfl) rfl
theorem dX11_goes_8 : decode cX11_goes 8 = .ok (.ifCond .ne 9, 3) := do_154 (rdb (p := 0) (i := 8) ch_cX11_goes_0 rfl) (rdb (p := 0) (i := 9) ch_cX11_goes_0 rfl) (rdb (p := 0) (i := 10) ch_cX11_goes_0 rfl) (by decide +kernel)
theorem dX11_goes_11 : decode cX11_goes 11 = .ok (.aload_n 0, 1) := do_42 (rdb (p := 0) (i := 11) ch_cX11_goes_0 rfl)
theorem dX11_goes_12 : decode cX11_goes 12 = .ok (.iconst 1, 1) := do_4 (rdb (p := 0) (i := 12) ch_cX11_goes_0 rfl)
theorem dX11_goes_13 : decode cX11_goes 13 = .ok (.invokevirtual 67, 3) := do_182 (rdb (p := 0) (i := 13) ch_cX11_goes_0 rfl) (rdb (p := 0) (i := 14) ch_cX11_goes_0 rfl) (rdb (p := 0) (i := 15) ch_cX11_goes_0 rfl) rfl
theorem dX11_goes_16 : decode cX11_goes 16 = .ok (.ireturn, 1) := do_172 (rdb (p := 0) (i := 16) ch_cX11_goes_0 rfl)
theorem dX11_goes_17 : decode cX11_goes 17 = .ok (.aload_n 0, 1) := do_42 (rdb (p := 0) (i := 17) ch_cX11_goes_0 rfl)
theorem dX11_goes_18 : decode cX11_goes 18 = .ok (.getfield 10, 3) := do_180 (rdb (p := 0) (i := 18) ch_cX11_goes_0 rfl) (rdb (p := 0) (i := 19) ch_cX11_goes_0 rfl) (rdb (p := 0) (i := 20) ch_cX11_goes_0 rfl) rfl
theorem dX11_goes_21 : decode cX11_goes 21 = .ok (.getfield 157, 3) := do_180 (rdb (p := 0) (i := 21) ch_cX11_goes_0 rfl) (rdb (p := 0) (i := 22) ch_cX11_goes_0 rfl) (rdb (p := 0) (i := 23) ch_cX11_goes_0 rfl) rfl
theorem dX11_goes_24 : decode cX11_goes 24 = .ok (.iload_n 1, 1) := do_27 (rdb (p := 0) (i := 24) ch_cX11_goes_0 rfl)
theorem dX11_goes_25 : decode cX11_goes 25 = .ok (.aaload, 1) := do_50 (rdb (p := 0) (i := 25) ch_cX11_goes_0 rfl)
theorem dX11_goes_26 : decode cX11_goes 26 = .ok (.getfield 188, 3) := do_180 (rdb (p := 0) (i := 26) ch_cX11_goes_0 rfl) (rdb (p := 0) (i := 27) ch_cX11_goes_0 rfl) (rdb (p := 0) (i := 28) ch_cX11_goes_0 rfl) rfl
theorem dX11_goes_29 : decode cX11_goes 29 = .ok (.istore_n 3, 1) := do_62 (rdb (p := 0) (i := 29) ch_cX11_goes_0 rfl)
theorem dX11_goes_30 : decode cX11_goes 30 = .ok (.aload_n 0, 1) := do_42 (rdb (p := 0) (i := 30) ch_cX11_goes_0 rfl)
theorem dX11_goes_31 : decode cX11_goes 31 = .ok (.getfield 10, 3) := do_180 (rdb (p := 0) (i := 31) ch_cX11_goes_0 rfl) (rdb (p := 0) (i := 32) ch_cX11_goes_0 rfl) (rdb (p := 0) (i := 33) ch_cX11_goes_0 rfl) rfl
theorem ch_cX11_goes_32 : (cX11_goes.data.toList.drop 32).take 36 = [0, 10, 180, 0, 157, 27, 50, 28, 181, 0, 188, 29, 153, 0, 7, 4, 167, 0, 4, 3, 172] := by decide +kernel
theorem dX11_goes_34 : decode cX11_goes 34 = .ok (.getfield 157, 3) := do_180 (rdb (p := 32) (i := 2) ch_cX11_goes_32 rfl) (rdb (p := 32) (i := 3) ch_cX11_goes_32 rfl) (rdb (p := 32) (i := 4) ch_cX11_goes_32 rfl) rfl
theorem dX11_goes_37 : decode cX11_goes 37 = .ok (.iload_n 1, 1) := do_27 (rdb (p := 32) (i := 5) ch_cX11_goes_32 rfl)
theorem dX11_goes_38 : decode cX11_goes 38 = .ok (.aaload, 1) := do_50 (rdb (p := 32) (i := 6) ch_cX11_goes_32 rfl)
theorem dX11_goes_39 : decode cX11_goes 39 = .ok (.iload_n 2, 1) := do_28 (rdb (p := 32) (i := 7) ch_cX11_goes_32 rfl)
theorem dX11_goes_40 : decode cX11_goes 40 = .ok (.putfield 188, 3) := do_181 (rdb (p := 32) (i := 8) ch_cX11_goes_32 rfl) (rdb (p := 32) (i := 9) ch_cX11_goes_32 rfl) (rdb (p := 32) (i := 10) ch_cX11_goes_32 rfl) rfl
theorem dX11_goes_43 : decode cX11_goes 43 = .ok (.iload_n 3, 1) := do_29 (rdb (p := 32) (i := 11) ch_cX11_goes_32 rfl)
theorem dX11_goes_44 : decode cX11_goes 44 = .ok (.ifCond .eq 7, 3) := do_153 (rdb (p := 32) (i := 12) ch_cX11_goes_32 rfl) (rdb (p := 32) (i := 13) ch_cX11_goes_32 rfl) (rdb (p := 32) (i := 14) ch_cX11_goes_32 rfl) (by decide +kernel)
theorem dX11_goes_47 : decode cX11_goes 47 = .ok (.iconst 1, 1) := do_4 (rdb (p := 32) (i := 15) ch_cX11_goes_32 rfl)
theorem dX11_goes_48 : decode cX11_goes 48 = .ok (.goto 4, 3) := do_167 (rdb (p := 32) (i := 16) ch_cX11_goes_32 rfl) (rdb (p := 32) (i := 17) ch_cX11_goes_32 rfl) (rdb (p := 32) (i := 18) ch_cX11_goes_32 rfl) (by decide +kernel)
theorem dX11_goes_51 : decode cX11_goes 51 = .ok (.iconst 0, 1) := do_3 (rdb (p := 32) (i := 19) ch_cX11_goes_32 rfl)
theorem dX11_goes_52 : decode cX11_goes 52 = .ok (.ireturn, 1) := do_172 (rdb (p := 32) (i := 20) ch_cX11_goes_32 rfl)
theorem ch_cX11_habit_0 : (cX11_habit.data.toList.drop 0).take 36 = [42, 180, 0, 10, 27, 182, 0, 154, 153, 0, 22, 28, 29, 184, 0, 172, 153, 0, 14, 21, 4, 3, 16, 30, 184, 0, 89, 154, 0, 9, 42, 4, 182, 0, 67, 172] := by decide +kernel
theorem dX11_habit_0 : decode cX11_habit 0 = .ok (.aload_n 0, 1) := do_42 (rdb (p := 0) (i := 0) ch_cX11_habit_0 rfl)
theorem dX11_habit_1 : decode cX11_habit 1 = .ok (.getfield 10, 3) := do_180 (rdb (p := 0) (i := 1) ch_cX11_habit_0 rfl) (rdb (p := 0) (i := 2) ch_cX11_habit_0 rfl) (rdb (p := 0) (i := 3) ch_cX11_habit_0 rfl) rfl
theorem dX11_habit_4 : decode cX11_habit 4 = .ok (.iload_n 1, 1) := do_27 (rdb (p := 0) (i := 4) ch_cX11_habit_0 rfl)
theorem dX11_habit_5 : decode cX11_habit 5 = .ok (.invokevirtual 154, 3) := do_182 (rdb (p := 0) (i := 5) ch_cX11_habit_0 rfl) (rdb (p := 0) (i := 6) ch_cX11_habit_0 rfl) (rdb (p := 0) (i := 7) ch_cX11_habit_0 rfl) rfl
theorem dX11_habit_8 : decode cX11_habit 8 = .ok (.ifCond .eq 22, 3) := do_153 (rdb (p := 0) (i := 8) ch_cX11_habit_0 rfl) (rdb (p := 0) (i := 9) ch_cX11_habit_0 rfl) (rdb (p := 0) (i := 10) ch_cX11_habit_0 rfl) (by decide +kernel)
theorem dX11_habit_11 : decode cX11_habit 11 = .ok (.iload_n 2, 1) := do_28 (rdb (p := 0) (i := 11) ch_cX11_habit_0 rfl)
theorem dX11_habit_12 : decode cX11_habit 12 = .ok (.iload_n 3, 1) := do_29 (rdb (p := 0) (i := 12) ch_cX11_habit_0 rfl)
theorem dX11_habit_13 : decode cX11_habit 13 = .ok (.invokestatic 172, 3) := do_184 (rdb (p := 0) (i := 13) ch_cX11_habit_0 rfl) (rdb (p := 0) (i := 14) ch_cX11_habit_0 rfl) (rdb (p := 0) (i := 15) ch_cX11_habit_0 rfl) rfl
theorem dX11_habit_16 : decode cX11_habit 16 = .ok (.ifCond .eq 14, 3) := do_153 (rdb (p := 0) (i := 16) ch_cX11_habit_0 rfl) (rdb (p := 0) (i := 17) ch_cX11_habit_0 rfl) (rdb (p := 0) (i := 18) ch_cX11_habit_0 rfl) (by decide +kernel)
theorem dX11_habit_19 : decode cX11_habit 19 = .ok (.iload 4, 2) := do_21 (rdb (p := 0) (i := 19) ch_cX11_habit_0 rfl) (rdb (p := 0) (i := 20) ch_cX11_habit_0 rfl)
theorem dX11_habit_21 : decode cX11_habit 21 = .ok (.iconst 0, 1) := do_3 (rdb (p := 0) (i := 21) ch_cX11_habit_0 rfl)
theorem dX11_habit_22 : decode cX11_habit 22 = .ok (.bipush 30, 2) := do_16 (rdb (p := 0) (i := 22) ch_cX11_habit_0 rfl) (rdb (p := 0) (i := 23) ch_cX11_habit_0 rfl) (by decide +kernel)
theorem dX11_habit_24 : decode cX11_habit 24 = .ok (.invokestatic 89, 3) := do_184 (rdb (p := 0) (i := 24) ch_cX11_habit_0 rfl) (rdb (p := 0) (i := 25) ch_cX11_habit_0 rfl) (rdb (p := 0) (i := 26) ch_cX11_habit_0 rfl) rfl
theorem dX11_habit_27 : decode cX11_habit 27 = .ok (.ifCond .ne 9, 3) := do_154 (rdb (p := 0) (i := 27) ch_cX11_habit_0 rfl) (rdb (p := 0) (i := 28) ch_cX11_habit_0 rfl) (rdb (p := 0) (i := 29) ch_cX11_habit_0 rfl) (by decide +kernel)
theorem dX11_habit_30 : decode cX11_habit 30 = .ok (.aload_n 0, 1) := do_42 (rdb (p := 0) (i := 30) ch_cX11_habit_0 rfl)
theorem dX11_habit_31 : decode cX11_habit 31 = .ok (.iconst 1, 1) := do_4 (rdb (p := 0) (i := 31) ch_cX11_habit_0 rfl)
theorem ch_cX11_habit_32 : (cX11_habit.data.toList.drop 32).take 36 = [182, 0, 67, 172, 42, 180, 0, 10, 180, 0, 157, 27, 50, 58, 5, 25, 5, 28, 181, 0, 176, 25, 5, 29, 181, 0, 179, 25, 5, 21, 4, 181, 0, 182, 4, 172] := by decide +kernel
theorem dX11_habit_32 : decode cX11_habit 32 = .ok (.invokevirtual 67, 3) := do_182 (rdb (p := 32) (i := 0) ch_cX11_habit_32 rfl) (rdb (p := 32) (i := 1) ch_cX11_habit_32 rfl) (rdb (p := 32) (i := 2) ch_cX11_habit_32 rfl) rfl
theorem dX11_habit_35 : decode cX11_habit 35 = .ok (.ireturn, 1) := do_172 (rdb (p := 32) (i := 3) ch_cX11_habit_32 rfl)
theorem dX11_habit_36 : decode cX11_habit 36 = .ok (.aload_n 0, 1) := do_42 (rdb (p := 32) (i := 4) ch_cX11_habit_32 rfl)
theorem dX11_habit_37 : decode cX11_habit 37 = .ok (.getfield 10, 3) := do_180 (rdb (p := 32) (i := 5) ch_cX11_habit_32 rfl) (rdb (p := 32) (i := 6) ch_cX11_habit_32 rfl) (rdb (p := 32) (i := 7) ch_cX11_habit_32 rfl) rfl
theorem dX11_habit_40 : decode cX11_habit 40 = .ok (.getfield 157, 3) := do_180 (rdb (p := 32) (i := 8) ch_cX11_habit_32 rfl) (rdb (p := 32) (i := 9) ch_cX11_habit_32 rfl) (rdb (p := 32) (i := 10) ch_cX11_habit_32 rfl) rfl
theorem dX11_habit_43 : decode cX11_habit 43 = .ok (.iload_n 1, 1) := do_27 (rdb (p := 32) (i := 11) ch_cX11_habit_32 rfl)
theorem dX11_habit_44 : decode cX11_habit 44 = .ok (.aaload, 1) := do_50 (rdb (p := 32) (i := 12) ch_cX11_habit_32 rfl)
theorem dX11_habit_45 : decode cX11_habit 45 = .ok (.astore 5, 2) := do_58 (rdb (p := 32) (i := 13) ch_cX11_habit_32 rfl) (rdb (p := 32) (i := 14) ch_cX11_habit_32 rfl)
theorem dX11_habit_47 : decode cX11_habit 47 = .ok (.aload 5, 2) := do_25 (rdb (p := 32) (i := 15) ch_cX11_habit_32 rfl) (rdb (p := 32) (i := 16) ch_cX11_habit_32 rfl)
theorem dX11_habit_49 : decode cX11_habit 49 = .ok (.iload_n 2, 1) := do_28 (rdb (p := 32) (i := 17) ch_cX11_habit_32 rfl)
theorem dX11_habit_50 : decode cX11_habit 50 = .ok (.putfield 176, 3) := do_181 (rdb (p := 32) (i := 18) ch_cX11_habit_32 rfl) (rdb (p := 32) (i := 19) ch_cX11_habit_32 rfl) (rdb (p := 32) (i := 20) ch_cX11_habit_32 rfl) rfl
theorem dX11_habit_53 : decode cX11_habit 53 = .ok (.aload 5, 2) := do_25 (rdb (p := 32) (i := 21) ch_cX11_habit_32 rfl) (rdb (p := 32) (i := 22) ch_cX11_habit_32 rfl)
theorem dX11_habit_55 : decode cX11_habit 55 = .ok (.iload_n 3, 1) := do_29 (rdb (p := 32) (i := 23) ch_cX11_habit_32 rfl)
theorem dX11_habit_56 : decode cX11_habit 56 = .ok (.putfield 179, 3) := do_181 (rdb (p := 32) (i := 24) ch_cX11_habit_32 rfl) (rdb (p := 32) (i := 25) ch_cX11_habit_32 rfl) (rdb (p := 32) (i := 26) ch_cX11_habit_32 rfl) rfl
theorem dX11_habit_59 : decode cX11_habit 59 = .ok (.aload 5, 2) := do_25 (rdb (p := 32) (i := 27) ch_cX11_habit_32 rfl) (rdb (p := 32) (i := 28) ch_cX11_habit_32 rfl)
theorem dX11_habit_61 : decode cX11_habit 61 = .ok (.iload 4, 2) := do_21 (rdb (p := 32) (i := 29) ch_cX11_habit_32 rfl) (rdb (p := 32) (i := 30) ch_cX11_habit_32 rfl)
theorem dX11_habit_63 : decode cX11_habit 63 = .ok (.putfield 182, 3) := do_181 (rdb (p := 32) (i := 31) ch_cX11_habit_32 rfl) (rdb (p := 32) (i := 32) ch_cX11_habit_32 rfl) (rdb (p := 32) (i := 33) ch_cX11_habit_32 rfl) rfl
theorem ch_cX11_habit_64 : (cX11_habit.data.toList.drop 64).take 36 = [0, 182, 4, 172] := by decide +kernel
theorem dX11_habit_66 : decode cX11_habit 66 = .ok (.iconst 1, 1) := do_4 (rdb (p := 64) (i := 2) ch_cX11_habit_64 rfl)
theorem dX11_habit_67 : decode cX11_habit 67 = .ok (.ireturn, 1) := do_172 (rdb (p := 64) (i := 3) ch_cX11_habit_64 rfl)
theorem ch_cX11_head_0 : (cX11_head.data.toList.drop 0).take 36 = [42, 180, 0, 10, 27, 182, 0, 154, 153, 0, 19, 28, 184, 0, 62, 153, 0, 12, 29, 3, 5, 184, 0, 89, 154, 0, 9, 42, 4, 182, 0, 67, 172, 42, 180, 0] := by decide +kernel
theorem dX11_head_0 : decode cX11_head 0 = .ok (.aload_n 0, 1) := do_42 (rdb (p := 0) (i := 0) ch_cX11_head_0 rfl)
theorem dX11_head_1 : decode cX11_head 1 = .ok (.getfield 10, 3) := do_180 (rdb (p := 0) (i := 1) ch_cX11_head_0 rfl) (rdb (p := 0) (i := 2) ch_cX11_head_0 rfl) (rdb (p := 0) (i := 3) ch_cX11_head_0 rfl) rfl
theorem dX11_head_4 : decode cX11_head 4 = .ok (.iload_n 1, 1) := do_27 (rdb (p := 0) (i := 4) ch_cX11_head_0 rfl)
theorem dX11_head_5 : decode cX11_head 5 = .ok (.invokevirtual 154, 3) := do_182 (rdb (p := 0) (i := 5) ch_cX11_head_0 rfl) (rdb (p := 0) (i := 6) ch_cX11_head_0 rfl) (rdb (p := 0) (i := 7) ch_cX11_head_0 rfl) rfl
theorem dX11_head_8 : decode cX11_head 8 = .ok (.ifCond .eq 19, 3) := do_153 (rdb (p := 0) (i := 8) ch_cX11_head_0 rfl) (rdb (p := 0) (i := 9) ch_cX11_head_0 rfl) (rdb (p := 0) (i := 10) ch_cX11_head_0 rfl) (by decide +kernel)
theorem dX11_head_11 : decode cX11_head 11 = .ok (.iload_n 2, 1) := do_28 (rdb (p := 0) (i := 11) ch_cX11_head_0 rfl)
theorem dX11_head_12 : decode cX11_head 12 = .ok (.invokestatic 62, 3) := do_184 (rdb (p := 0) (i := 12) ch_cX11_head_0 rfl) (rdb (p := 0) (i := 13) ch_cX11_head_0 rfl) (rdb (p := 0) (i := 14) ch_cX11_head_0 rfl) rfl
theorem dX11_head_15 : decode cX11_head 15 = .ok (.ifCond .eq 12, 3) := do_153 (rdb (p := 0) (i := 15) ch_cX11_head_0 rfl) (rdb (p := 0) (i := 16) ch_cX11_head_0 rfl) (rdb (p := 0) (i := 17) ch_cX11_head_0 rfl) (by decide +kernel)
theorem dX11_head_18 : decode cX11_head 18 = .ok (.iload_n 3, 1) := do_29 (rdb (p := 0) (i := 18) ch_cX11_head_0 rfl)
theorem dX11_head_19 : decode cX11_head 19 = .ok (.iconst 0, 1) := do_3 (rdb (p := 0) (i := 19) ch_cX11_head_0 rfl)
theorem dX11_head_20 : decode cX11_head 20 = .ok (.iconst 2, 1) := do_5 (rdb (p := 0) (i := 20) ch_cX11_head_0 rfl)
theorem dX11_head_21 : decode cX11_head 21 = .ok (.invokestatic 89, 3) := do_184 (rdb (p := 0) (i := 21) ch_cX11_head_0 rfl) (rdb (p := 0) (i := 22) ch_cX11_head_0 rfl) (rdb (p := 0) (i := 23) ch_cX11_head_0 rfl) rfl
theorem dX11_head_24 : decode cX11_head 24 = .ok (.ifCond .ne 9, 3) := do_154 (rdb (p := 0) (i := 24) ch_cX11_head_0 rfl) (rdb (p := 0) (i := 25) ch_cX11_head_0 rfl) (rdb (p := 0) (i := 26) ch_cX11_head_0 rfl) (by decide +kernel)
theorem dX11_head_27 : decode cX11_head 27 = .ok (.aload_n 0, 1) := do_42 (rdb (p := 0) (i := 27) ch_cX11_head_0 rfl)
theorem dX11_head_28 : decode cX11_head 28 = .ok (.iconst 1, 1) := do_4 (rdb (p := 0) (i := 28) ch_cX11_head_0 rfl)
theorem dX11_head_29 : decode cX11_head 29 = .ok (.invokevirtual 67, 3) := do_182 (rdb (p := 0) (i := 29) ch_cX11_head_0 rfl) (rdb (p := 0) (i := 30) ch_cX11_head_0 rfl) (rdb (p := 0) (i := 31) ch_cX11_head_0 rfl) rfl
theorem ch_cX11_head_32 : (cX11_head.data.toList.drop 32).take 36 = [172, 42, 180, 0, 10, 180, 0, 157, 27, 50, 58, 4, 29, 154, 0, 13, 25, 4, 180, 0, 242, 28, 46, 167, 0, 24, 29, 4, 160, 0, 13, 25, 4, 180, 0, 245] := by decide +kernel
theorem dX11_head_32 : decode cX11_head 32 = .ok (.ireturn, 1) := do_172 (rdb (p := 32) (i := 0) ch_cX11_head_32 rfl)
theorem dX11_head_33 : decode cX11_head 33 = .ok (.aload_n 0, 1) := do_42 (rdb (p := 32) (i := 1) ch_cX11_head_32 rfl)
theorem dX11_head_34 : decode cX11_head 34 = .ok (.getfield 10, 3) := do_180 (rdb (p := 32) (i := 2) ch_cX11_head_32 rfl) (rdb (p := 32) (i := 3) ch_cX11_head_32 rfl) (rdb (p := 32) (i := 4) ch_cX11_head_32 rfl) rfl
theorem dX11_head_37 : decode cX11_head 37 = .ok (.getfield 157, 3) := do_180 (rdb (p := 32) (i := 5) ch_cX11_head_32 rfl) (rdb (p := 32) (i := 6) ch_cX11_head_32 rfl) (rdb (p := 32) (i := 7) ch_cX11_head_32 rfl) rfl
theorem dX11_head_40 : decode cX11_head 40 = .ok (.iload_n 1, 1) := do_27 (rdb (p := 32) (i := 8) ch_cX11_head_32 rfl)
theorem dX11_head_41 : decode cX11_head 41 = .ok (.aaload, 1) := do_50 (rdb (p := 32) (i := 9) ch_cX11_head_32 rfl)
theorem dX11_head_42 : decode cX11_head 42 = .ok (.astore 4, 2) := do_58 (rdb (p := 32) (i := 10) ch_cX11_head_32 rfl) (rdb (p := 32) (i := 11) ch_cX11_head_32 rfl)
theorem dX11_head_44 : decode cX11_head 44 = .ok (.iload_n 3, 1) := do_29 (rdb (p := 32) (i := 12) ch_cX11_head_32 rfl)
theorem dX11_head_45 : decode cX11_head 45 = .ok (.ifCond .ne 13, 3) := do_154 (rdb (p := 32) (i := 13) ch_cX11_head_32 rfl) (rdb (p := 32) (i := 14) ch_cX11_head_32 rfl) (rdb (p := 32) (i := 15) ch_cX11_head_32 rfl) (by decide +kernel)
theorem dX11_head_48 : decode cX11_head 48 = .ok (.aload 4, 2) := do_25 (rdb (p := 32) (i := 16) ch_cX11_head_32 rfl) (rdb (p := 32) (i := 17) ch_cX11_head_32 rfl)
theorem dX11_head_50 : decode cX11_head 50 = .ok (.getfield 242, 3) := do_180 (rdb (p := 32) (i := 18) ch_cX11_head_32 rfl) (rdb (p := 32) (i := 19) ch_cX11_head_32 rfl) (rdb (p := 32) (i := 20) ch_cX11_head_32 rfl) rfl
theorem dX11_head_53 : decode cX11_head 53 = .ok (.iload_n 2, 1) := do_28 (rdb (p := 32) (i := 21) ch_cX11_head_32 rfl)
theorem dX11_head_54 : decode cX11_head 54 = .ok (.iaload, 1) := do_46 (rdb (p := 32) (i := 22) ch_cX11_head_32 rfl)
theorem dX11_head_55 : decode cX11_head 55 = .ok (.goto 24, 3) := do_167 (rdb (p := 32) (i := 23) ch_cX11_head_32 rfl) (rdb (p := 32) (i := 24) ch_cX11_head_32 rfl) (rdb (p := 32) (i := 25) ch_cX11_head_32 rfl) (by decide +kernel)
theorem dX11_head_58 : decode cX11_head 58 = .ok (.iload_n 3, 1) := do_29 (rdb (p := 32) (i := 26) ch_cX11_head_32 rfl)
theorem dX11_head_59 : decode cX11_head 59 = .ok (.iconst 1, 1) := do_4 (rdb (p := 32) (i := 27) ch_cX11_head_32 rfl)
theorem dX11_head_60 : decode cX11_head 60 = .ok (.if_icmp .ne 13, 3) := do_160 (rdb (p := 32) (i := 28) ch_cX11_head_32 rfl) (rdb (p := 32) (i := 29) ch_cX11_head_32 rfl) (rdb (p := 32) (i := 30) ch_cX11_head_32 rfl) (by decide +kernel)
theorem dX11_head_63 : decode cX11_head 63 = .ok (.aload 4, 2) := do_25 (rdb (p := 32) (i := 31) ch_cX11_head_32 rfl) (rdb (p := 32) (i := 32) ch_cX11_head_32 rfl)
theorem ch_cX11_head_64 : (cX11_head.data.toList.drop 64).take 36 = [4, 180, 0, 245, 28, 46, 167, 0, 9, 25, 4, 28, 182, 0, 248, 172] := by decide +kernel
theorem dX11_head_65 : decode cX11_head 65 = .ok (.getfield 245, 3) := do_180 (rdb (p := 64) (i := 1) ch_cX11_head_64 rfl) (rdb (p := 64) (i := 2) ch_cX11_head_64 rfl) (rdb (p := 64) (i := 3) ch_cX11_head_64 rfl) rfl
theorem dX11_head_68 : decode cX11_head 68 = .ok (.iload_n 2, 1) := do_28 (rdb (p := 64) (i := 4) ch_cX11_head_64 rfl)
theorem dX11_head_69 : decode cX11_head 69 = .ok (.iaload, 1) := do_46 (rdb (p := 64) (i := 5) ch_cX11_head_64 rfl)
theorem dX11_head_70 : decode cX11_head 70 = .ok (.goto 9, 3) := do_167 (rdb (p := 64) (i := 6) ch_cX11_head_64 rfl) (rdb (p := 64) (i := 7) ch_cX11_head_64 rfl) (rdb (p := 64) (i := 8) ch_cX11_head_64 rfl) (by decide +kernel)
theorem dX11_head_73 : decode cX11_head 73 = .ok (.aload 4, 2) := do_25 (rdb (p := 64) (i := 9) ch_cX11_head_64 rfl) (rdb (p := 64) (i := 10) ch_cX11_head_64 rfl)
theorem dX11_head_75 : decode cX11_head 75 = .ok (.iload_n 2, 1) := do_28 (rdb (p := 64) (i := 11) ch_cX11_head_64 rfl)
theorem dX11_head_76 : decode cX11_head 76 = .ok (.invokevirtual 248, 3) := do_182 (rdb (p := 64) (i := 12) ch_cX11_head_64 rfl) (rdb (p := 64) (i := 13) ch_cX11_head_64 rfl) (rdb (p := 64) (i := 14) ch_cX11_head_64 rfl) rfl
theorem dX11_head_79 : decode cX11_head 79 = .ok (.ireturn, 1) := do_172 (rdb (p := 64) (i := 15) ch_cX11_head_64 rfl)
theorem ch_cX11_heads_0 : (cX11_heads.data.toList.drop 0).take 36 = [42, 180, 0, 10, 27, 182, 0, 154, 153, 0, 12, 28, 3, 6, 184, 0, 89, 154, 0, 9, 42, 4, 182, 0, 67, 172, 28, 6, 160, 0, 14, 42, 180, 0, 10, 27] := by decide +kernel
theorem dX11_heads_0 : decode cX11_heads 0 = .ok (.aload_n 0, 1) := do_42 (rdb (p := 0) (i := 0) ch_cX11_heads_0 rfl)
theorem dX11_heads_1 : decode cX11_heads 1 = .ok (.getfield 10, 3) := do_180 (rdb (p := 0) (i := 1) ch_cX11_heads_0 rfl) (rdb (p := 0) (i := 2) ch_cX11_heads_0 rfl) (rdb (p := 0) (i := 3) ch_cX11_heads_0 rfl) rfl
theorem dX11_heads_4 : decode cX11_heads 4 = .ok (.iload_n 1, 1) := do_27 (rdb (p := 0) (i := 4) ch_cX11_heads_0 rfl)
theorem dX11_heads_5 : decode cX11_heads 5 = .ok (.invokevirtual 154, 3) := do_182 (rdb (p := 0) (i := 5) ch_cX11_heads_0 rfl) (rdb (p := 0) (i := 6) ch_cX11_heads_0 rfl) (rdb (p := 0) (i := 7) ch_cX11_heads_0 rfl) rfl
theorem dX11_heads_8 : decode cX11_heads 8 = .ok (.ifCond .eq 12, 3) := do_153 (rdb (p := 0) (i := 8) ch_cX11_heads_0 rfl) (rdb (p := 0) (i := 9) ch_cX11_heads_0 rfl) (rdb (p := 0) (i := 10) ch_cX11_heads_0 rfl) (by decide +kernel)
theorem dX11_heads_11 : decode cX11_heads 11 = .ok (.iload_n 2, 1) := do_28 (rdb (p := 0) (i := 11) ch_cX11_heads_0 rfl)
theorem dX11_heads_12 : decode cX11_heads 12 = .ok (.iconst 0, 1) := do_3 (rdb (p := 0) (i := 12) ch_cX11_heads_0 rfl)
theorem dX11_heads_13 : decode cX11_heads 13 = .ok (.iconst 3, 1) := do_6 (rdb (p := 0) (i := 13) ch_cX11_heads_0 rfl)
theorem dX11_heads_14 : decode cX11_heads 14 = .ok (.invokestatic 89, 3) := do_184 (rdb (p := 0) (i := 14) ch_cX11_heads_0 rfl) (rdb (p := 0) (i := 15) ch_cX11_heads_0 rfl) (rdb (p := 0) (i := 16) ch_cX11_heads_0 rfl) rfl
theorem dX11_heads_17 : decode cX11_heads 17 = .ok (.ifCond .ne 9, 3) := do_154 (rdb (p := 0) (i := 17) ch_cX11_heads_0 rfl) (rdb (p := 0) (i := 18) ch_cX11_heads_0 rfl) (rdb (p := 0) (i := 19) ch_cX11_heads_0 rfl) (by decide +kernel)
theorem dX11_heads_20 : decode cX11_heads 20 = .ok (.aload_n 0, 1) := do_42 (rdb (p := 0) (i := 20) ch_cX11_heads_0 rfl)
theorem dX11_heads_21 : decode cX11_heads 21 = .ok (.iconst 1, 1) := do_4 (rdb (p := 0) (i := 21) ch_cX11_heads_0 rfl)
theorem dX11_heads_22 : decode cX11_heads 22 = .ok (.invokevirtual 67, 3) := do_182 (rdb (p := 0) (i := 22) ch_cX11_heads_0 rfl) (rdb (p := 0) (i := 23) ch_cX11_heads_0 rfl) (rdb (p := 0) (i := 24) ch_cX11_heads_0 rfl) rfl
theorem dX11_heads_25 : decode cX11_heads 25 = .ok (.ireturn, 1) := do_172 (rdb (p := 0) (i := 25) ch_cX11_heads_0 rfl)
theorem dX11_heads_26 : decode cX11_heads 26 = .ok (.iload_n 2, 1) := do_28 (rdb (p := 0) (i := 26) ch_cX11_heads_0 rfl)
theorem dX11_heads_27 : decode cX11_heads 27 = .ok (.iconst 3, 1) := do_6 (rdb (p := 0) (i := 27) ch_cX11_heads_0 rfl)
theorem dX11_heads_28 : decode cX11_heads 28 = .ok (.if_icmp .ne 14, 3) := do_160 (rdb (p := 0) (i := 28) ch_cX11_heads_0 rfl) (rdb (p := 0) (i := 29) ch_cX11_heads_0 rfl) (rdb (p := 0) (i := 30) ch_cX11_heads_0 rfl) (by decide +kernel)
theorem dX11_heads_31 : decode cX11_heads 31 = .ok (.aload_n 0, 1) := do_42 (rdb (p := 0) (i := 31) ch_cX11_heads_0 rfl)
theorem ch_cX11_heads_32 : (cX11_heads.data.toList.drop 32).take 36 = [180, 0, 10, 27, 182, 0, 251, 167, 0, 16, 42, 180, 0, 10, 180, 0, 157, 27, 50, 28, 182, 0, 254, 172] := by decide +kernel
theorem dX11_heads_32 : decode cX11_heads 32 = .ok (.getfield 10, 3) := do_180 (rdb (p := 32) (i := 0) ch_cX11_heads_32 rfl) (rdb (p := 32) (i := 1) ch_cX11_heads_32 rfl) (rdb (p := 32) (i := 2) ch_cX11_heads_32 rfl) rfl
theorem dX11_heads_35 : decode cX11_heads 35 = .ok (.iload_n 1, 1) := do_27 (rdb (p := 32) (i := 3) ch_cX11_heads_32 rfl)
theorem dX11_heads_36 : decode cX11_heads 36 = .ok (.invokevirtual 251, 3) := do_182 (rdb (p := 32) (i := 4) ch_cX11_heads_32 rfl) (rdb (p := 32) (i := 5) ch_cX11_heads_32 rfl) (rdb (p := 32) (i := 6) ch_cX11_heads_32 rfl) rfl
theorem dX11_heads_39 : decode cX11_heads 39 = .ok (.goto 16, 3) := do_167 (rdb (p := 32) (i := 7) ch_cX11_heads_32 rfl) (rdb (p := 32) (i := 8) ch_cX11_heads_32 rfl) (rdb (p := 32) (i := 9) ch_cX11_heads_32 rfl) (by decide +kernel)
theorem dX11_heads_42 : decode cX11_heads 42 = .ok (.aload_n 0, 1) := do_42 (rdb (p := 32) (i := 10) ch_cX11_heads_32 rfl)
theorem dX11_heads_43 : decode cX11_heads 43 = .ok (.getfield 10, 3) := do_180 (rdb (p := 32) (i := 11) ch_cX11_heads_32 rfl) (rdb (p := 32) (i := 12) ch_cX11_heads_32 rfl) (rdb (p := 32) (i := 13) ch_cX11_heads_32 rfl) rfl
theorem dX11_heads_46 : decode cX11_heads 46 = .ok (.getfield 157, 3) := do_180 (rdb (p := 32) (i := 14) ch_cX11_heads_32 rfl) (rdb (p := 32) (i := 15) ch_cX11_heads_32 rfl) (rdb (p := 32) (i := 16) ch_cX11_heads_32 rfl) rfl
theorem dX11_heads_49 : decode cX11_heads 49 = .ok (.iload_n 1, 1) := do_27 (rdb (p := 32) (i := 17) ch_cX11_heads_32 rfl)
theorem dX11_heads_50 : decode cX11_heads 50 = .ok (.aaload, 1) := do_50 (rdb (p := 32) (i := 18) ch_cX11_heads_32 rfl)
theorem dX11_heads_51 : decode cX11_heads 51 = .ok (.iload_n 2, 1) := do_28 (rdb (p := 32) (i := 19) ch_cX11_heads_32 rfl)
theorem dX11_heads_52 : decode cX11_heads 52 = .ok (.invokevirtual 254, 3) := do_182 (rdb (p := 32) (i := 20) ch_cX11_heads_32 rfl) (rdb (p := 32) (i := 21) ch_cX11_heads_32 rfl) (rdb (p := 32) (i := 22) ch_cX11_heads_32 rfl) rfl
theorem dX11_heads_55 : decode cX11_heads 55 = .ok (.ireturn, 1) := do_172 (rdb (p := 32) (i := 23) ch_cX11_heads_32 rfl)
theorem ch_cX11_kind_0 : (cX11_kind.data.toList.drop 0).take 36 = [27, 184, 0, 58, 153, 0, 31, 28, 3, 4, 184, 0, 89, 153, 0, 22, 29, 3, 28, 154, 0, 8, 16, 99, 167, 0, 5, 16, 9, 184, 0, 89, 154, 0, 9, 42] := by decide +kernel
theorem dX11_kind_0 : decode cX11_kind 0 = .ok (.iload_n 1, 1) := do_27 (rdb (p := 0) (i := 0) ch_cX11_kind_0 rfl)
theorem dX11_kind_1 : decode cX11_kind 1 = .ok (.invokestatic 58, 3) := do_184 (rdb (p := 0) (i := 1) ch_cX11_kind_0 rfl) (rdb (p := 0) (i := 2) ch_cX11_kind_0 rfl) (rdb (p := 0) (i := 3) ch_cX11_kind_0 rfl) rfl
theorem dX11_kind_4 : decode cX11_kind 4 = .ok (.ifCond .eq 31, 3) := do_153 (rdb (p := 0) (i := 4) ch_cX11_kind_0 rfl) (rdb (p := 0) (i := 5) ch_cX11_kind_0 rfl) (rdb (p := 0) (i := 6) ch_cX11_kind_0 rfl) (by decide +kernel)
theorem dX11_kind_7 : decode cX11_kind 7 = .ok (.iload_n 2, 1) := do_28 (rdb (p := 0) (i := 7) ch_cX11_kind_0 rfl)
theorem dX11_kind_8 : decode cX11_kind 8 = .ok (.iconst 0, 1) := do_3 (rdb (p := 0) (i := 8) ch_cX11_kind_0 rfl)
theorem dX11_kind_9 : decode cX11_kind 9 = .ok (.iconst 1, 1) := do_4 (rdb (p := 0) (i := 9) ch_cX11_kind_0 rfl)
theorem dX11_kind_10 : decode cX11_kind 10 = .ok (.invokestatic 89, 3) := do_184 (rdb (p := 0) (i := 10) ch_cX11_kind_0 rfl) (rdb (p := 0) (i := 11) ch_cX11_kind_0 rfl) (rdb (p := 0) (i := 12) ch_cX11_kind_0 rfl) rfl
theorem dX11_kind_13 : decode cX11_kind 13 = .ok (.ifCond .eq 22, 3) := do_153 (rdb (p := 0) (i := 13) ch_cX11_kind_0 rfl) (rdb (p := 0) (i := 14) ch_cX11_kind_0 rfl) (rdb (p := 0) (i := 15) ch_cX11_kind_0 rfl) (by decide +kernel)
theorem dX11_kind_16 : decode cX11_kind 16 = .ok (.iload_n 3, 1) := do_29 (rdb (p := 0) (i := 16) ch_cX11_kind_0 rfl)
theorem dX11_kind_17 : decode cX11_kind 17 = .ok (.iconst 0, 1) := do_3 (rdb (p := 0) (i := 17) ch_cX11_kind_0 rfl)
theorem dX11_kind_18 : decode cX11_kind 18 = .ok (.iload_n 2, 1) := do_28 (rdb (p := 0) (i := 18) ch_cX11_kind_0 rfl)
theorem dX11_kind_19 : decode cX11_kind 19 = .ok (.ifCond .ne 8, 3) := do_154 (rdb (p := 0) (i := 19) ch_cX11_kind_0 rfl) (rdb (p := 0) (i := 20) ch_cX11_kind_0 rfl) (rdb (p := 0) (i := 21) ch_cX11_kind_0 rfl) (by decide +kernel)
theorem dX11_kind_22 : decode cX11_kind 22 = .ok (.bipush 99, 2) := do_16 (rdb (p := 0) (i := 22) ch_cX11_kind_0 rfl) (rdb (p := 0) (i := 23) ch_cX11_kind_0 rfl) (by decide +kernel)
theorem dX11_kind_24 : decode cX11_kind 24 = .ok (.goto 5, 3) := do_167 (rdb (p := 0) (i := 24) ch_cX11_kind_0 rfl) (rdb (p := 0) (i := 25) ch_cX11_kind_0 rfl) (rdb (p := 0) (i := 26) ch_cX11_kind_0 rfl) (by decide +kernel)
theorem dX11_kind_27 : decode cX11_kind 27 = .ok (.bipush 9, 2) := do_16 (rdb (p := 0) (i := 27) ch_cX11_kind_0 rfl) (rdb (p := 0) (i := 28) ch_cX11_kind_0 rfl) (by decide +kernel)
theorem dX11_kind_29 : decode cX11_kind 29 = .ok (.invokestatic 89, 3) := do_184 (rdb (p := 0) (i := 29) ch_cX11_kind_0 rfl) (rdb (p := 0) (i := 30) ch_cX11_kind_0 rfl) (rdb (p := 0) (i := 31) ch_cX11_kind_0 rfl) rfl
theorem ch_cX11_kind_32 : (cX11_kind.data.toList.drop 32).take 36 = [154, 0, 9, 42, 4, 182, 0, 67, 172, 42, 180, 0, 10, 180, 0, 114, 27, 28, 29, 182, 0, 118, 172] := by decide +kernel
theorem dX11_kind_32 : decode cX11_kind 32 = .ok (.ifCond .ne 9, 3) := do_154 (rdb (p := 32) (i := 0) ch_cX11_kind_32 rfl) (rdb (p := 32) (i := 1) ch_cX11_kind_32 rfl) (rdb (p := 32) (i := 2) ch_cX11_kind_32 rfl) (by decide +kernel)
theorem dX11_kind_35 : decode cX11_kind 35 = .ok (.aload_n 0, 1) := do_42 (rdb (p := 32) (i := 3) ch_cX11_kind_32 rfl)
theorem dX11_kind_36 : decode cX11_kind 36 = .ok (.iconst 1, 1) := do_4 (rdb (p := 32) (i := 4) ch_cX11_kind_32 rfl)
theorem dX11_kind_37 : decode cX11_kind 37 = .ok (.invokevirtual 67, 3) := do_182 (rdb (p := 32) (i := 5) ch_cX11_kind_32 rfl) (rdb (p := 32) (i := 6) ch_cX11_kind_32 rfl) (rdb (p := 32) (i := 7) ch_cX11_kind_32 rfl) rfl
theorem dX11_kind_40 : decode cX11_kind 40 = .ok (.ireturn, 1) := do_172 (rdb (p := 32) (i := 8) ch_cX11_kind_32 rfl)
theorem dX11_kind_41 : decode cX11_kind 41 = .ok (.aload_n 0, 1) := do_42 (rdb (p := 32) (i := 9) ch_cX11_kind_32 rfl)
theorem dX11_kind_42 : decode cX11_kind 42 = .ok (.getfield 10, 3) := do_180 (rdb (p := 32) (i := 10) ch_cX11_kind_32 rfl) (rdb (p := 32) (i := 11) ch_cX11_kind_32 rfl) (rdb (p := 32) (i := 12) ch_cX11_kind_32 rfl) rfl
theorem dX11_kind_45 : decode cX11_kind 45 = .ok (.getfield 114, 3) := do_180 (rdb (p := 32) (i := 13) ch_cX11_kind_32 rfl) (rdb (p := 32) (i := 14) ch_cX11_kind_32 rfl) (rdb (p := 32) (i := 15) ch_cX11_kind_32 rfl) rfl
theorem dX11_kind_48 : decode cX11_kind 48 = .ok (.iload_n 1, 1) := do_27 (rdb (p := 32) (i := 16) ch_cX11_kind_32 rfl)
theorem dX11_kind_49 : decode cX11_kind 49 = .ok (.iload_n 2, 1) := do_28 (rdb (p := 32) (i := 17) ch_cX11_kind_32 rfl)
theorem dX11_kind_50 : decode cX11_kind 50 = .ok (.iload_n 3, 1) := do_29 (rdb (p := 32) (i := 18) ch_cX11_kind_32 rfl)
theorem dX11_kind_51 : decode cX11_kind 51 = .ok (.invokevirtual 118, 3) := do_182 (rdb (p := 32) (i := 19) ch_cX11_kind_32 rfl) (rdb (p := 32) (i := 20) ch_cX11_kind_32 rfl) (rdb (p := 32) (i := 21) ch_cX11_kind_32 rfl) rfl
theorem dX11_kind_54 : decode cX11_kind 54 = .ok (.ireturn, 1) := do_172 (rdb (p := 32) (i := 22) ch_cX11_kind_32 rfl)
theorem ch_cX11_lays_0 : (cX11_lays.data.toList.drop 0).take 36 = [27, 184, 0, 127, 153, 0, 13, 28, 3, 16, 11, 184, 0, 89, 154, 0, 9, 42, 4, 182, 0, 67, 172, 42, 180, 0, 24, 27, 50, 78, 45, 182, 0, 130, 153, 0] := by decide +kernel
theorem dX11_lays_0 : decode cX11_lays 0 = .ok (.iload_n 1, 1) := do_27 (rdb (p := 0) (i := 0) ch_cX11_lays_0 rfl)
theorem dX11_lays_1 : decode cX11_lays 1 = .ok (.invokestatic 127, 3) := do_184 (rdb (p := 0) (i := 1) ch_cX11_lays_0 rfl) (rdb (p := 0) (i := 2) ch_cX11_lays_0 rfl) (rdb (p := 0) (i := 3) ch_cX11_lays_0 rfl) rfl
theorem dX11_lays_4 : decode cX11_lays 4 = .ok (.ifCond .eq 13, 3) := do_153 (rdb (p := 0) (i := 4) ch_cX11_lays_0 rfl) (rdb (p := 0) (i := 5) ch_cX11_lays_0 rfl) (rdb (p := 0) (i := 6) ch_cX11_lays_0 rfl) (by decide +kernel)
theorem dX11_lays_7 : decode cX11_lays 7 = .ok (.iload_n 2, 1) := do_28 (rdb (p := 0) (i := 7) ch_cX11_lays_0 rfl)
theorem dX11_lays_8 : decode cX11_lays 8 = .ok (.iconst 0, 1) := do_3 (rdb (p := 0) (i := 8) ch_cX11_lays_0 rfl)
theorem dX11_lays_9 : decode cX11_lays 9 = .ok (.bipush 11, 2) := do_16 (rdb (p := 0) (i := 9) ch_cX11_lays_0 rfl) (rdb (p := 0) (i := 10) ch_cX11_lays_0 rfl) (by decide +kernel)
theorem dX11_lays_11 : decode cX11_lays 11 = .ok (.invokestatic 89, 3) := do_184 (rdb (p := 0) (i := 11) ch_cX11_lays_0 rfl) (rdb (p := 0) (i := 12) ch_cX11_lays_0 rfl) (rdb (p := 0) (i := 13) ch_cX11_lays_0 rfl) rfl
theorem dX11_lays_14 : decode cX11_lays 14 = .ok (.ifCond .ne 9, 3) := do_154 (rdb (p := 0) (i := 14) ch_cX11_lays_0 rfl) (rdb (p := 0) (i := 15) ch_cX11_lays_0 rfl) (rdb (p := 0) (i := 16) ch_cX11_lays_0 rfl) (by decide +kernel)
theorem dX11_lays_17 : decode cX11_lays 17 = .ok (.aload_n 0, 1) := do_42 (rdb (p := 0) (i := 17) ch_cX11_lays_0 rfl)
theorem dX11_lays_18 : decode cX11_lays 18 = .ok (.iconst 1, 1) := do_4 (rdb (p := 0) (i := 18) ch_cX11_lays_0 rfl)
theorem dX11_lays_19 : decode cX11_lays 19 = .ok (.invokevirtual 67, 3) := do_182 (rdb (p := 0) (i := 19) ch_cX11_lays_0 rfl) (rdb (p := 0) (i := 20) ch_cX11_lays_0 rfl) (rdb (p := 0) (i := 21) ch_cX11_lays_0 rfl) rfl
theorem dX11_lays_22 : decode cX11_lays 22 = .ok (.ireturn, 1) := do_172 (rdb (p := 0) (i := 22) ch_cX11_lays_0 rfl)
theorem dX11_lays_23 : decode cX11_lays 23 = .ok (.aload_n 0, 1) := do_42 (rdb (p := 0) (i := 23) ch_cX11_lays_0 rfl)
theorem dX11_lays_24 : decode cX11_lays 24 = .ok (.getfield 24, 3) := do_180 (rdb (p := 0) (i := 24) ch_cX11_lays_0 rfl) (rdb (p := 0) (i := 25) ch_cX11_lays_0 rfl) (rdb (p := 0) (i := 26) ch_cX11_lays_0 rfl) rfl
theorem dX11_lays_27 : decode cX11_lays 27 = .ok (.iload_n 1, 1) := do_27 (rdb (p := 0) (i := 27) ch_cX11_lays_0 rfl)
theorem dX11_lays_28 : decode cX11_lays 28 = .ok (.aaload, 1) := do_50 (rdb (p := 0) (i := 28) ch_cX11_lays_0 rfl)
theorem dX11_lays_29 : decode cX11_lays 29 = .ok (.astore_n 3, 1) := do_78 (rdb (p := 0) (i := 29) ch_cX11_lays_0 rfl)
theorem dX11_lays_30 : decode cX11_lays 30 = .ok (.aload_n 3, 1) := do_45 (rdb (p := 0) (i := 30) ch_cX11_lays_0 rfl)
theorem dX11_lays_31 : decode cX11_lays 31 = .ok (.invokevirtual 130, 3) := do_182 (rdb (p := 0) (i := 31) ch_cX11_lays_0 rfl) (rdb (p := 0) (i := 32) ch_cX11_lays_0 rfl) (rdb (p := 0) (i := 33) ch_cX11_lays_0 rfl) rfl
theorem ch_cX11_lays_32 : (cX11_lays.data.toList.drop 32).take 36 = [0, 130, 153, 0, 9, 42, 5, 182, 0, 67, 172, 45, 180, 0, 133, 16, 8, 159, 0, 9, 42, 8, 182, 0, 67, 172, 45, 180, 0, 136, 16, 16, 164, 0, 9, 42] := by decide +kernel
theorem dX11_lays_34 : decode cX11_lays 34 = .ok (.ifCond .eq 9, 3) := do_153 (rdb (p := 32) (i := 2) ch_cX11_lays_32 rfl) (rdb (p := 32) (i := 3) ch_cX11_lays_32 rfl) (rdb (p := 32) (i := 4) ch_cX11_lays_32 rfl) (by decide +kernel)
theorem dX11_lays_37 : decode cX11_lays 37 = .ok (.aload_n 0, 1) := do_42 (rdb (p := 32) (i := 5) ch_cX11_lays_32 rfl)
theorem dX11_lays_38 : decode cX11_lays 38 = .ok (.iconst 2, 1) := do_5 (rdb (p := 32) (i := 6) ch_cX11_lays_32 rfl)
theorem dX11_lays_39 : decode cX11_lays 39 = .ok (.invokevirtual 67, 3) := do_182 (rdb (p := 32) (i := 7) ch_cX11_lays_32 rfl) (rdb (p := 32) (i := 8) ch_cX11_lays_32 rfl) (rdb (p := 32) (i := 9) ch_cX11_lays_32 rfl) rfl
theorem dX11_lays_42 : decode cX11_lays 42 = .ok (.ireturn, 1) := do_172 (rdb (p := 32) (i := 10) ch_cX11_lays_32 rfl)
theorem dX11_lays_43 : decode cX11_lays 43 = .ok (.aload_n 3, 1) := do_45 (rdb (p := 32) (i := 11) ch_cX11_lays_32 rfl)
theorem dX11_lays_44 : decode cX11_lays 44 = .ok (.getfield 133, 3) := do_180 (rdb (p := 32) (i := 12) ch_cX11_lays_32 rfl) (rdb (p := 32) (i := 13) ch_cX11_lays_32 rfl) (rdb (p := 32) (i := 14) ch_cX11_lays_32 rfl) rfl
theorem dX11_lays_47 : decode cX11_lays 47 = .ok (.bipush 8, 2) := do_16 (rdb (p := 32) (i := 15) ch_cX11_lays_32 rfl) (rdb (p := 32) (i := 16) ch_cX11_lays_32 rfl) (by decide +kernel)
theorem dX11_lays_49 : decode cX11_lays 49 = .ok (.if_icmp .eq 9, 3) := do_159 (rdb (p := 32) (i := 17) ch_cX11_lays_32 rfl) (rdb (p := 32) (i := 18) ch_cX11_lays_32 rfl) (rdb (p := 32) (i := 19) ch_cX11_lays_32 rfl) (by decide +kernel)
theorem dX11_lays_52 : decode cX11_lays 52 = .ok (.aload_n 0, 1) := do_42 (rdb (p := 32) (i := 20) ch_cX11_lays_32 rfl)
theorem dX11_lays_53 : decode cX11_lays 53 = .ok (.iconst 5, 1) := do_8 (rdb (p := 32) (i := 21) ch_cX11_lays_32 rfl)
theorem dX11_lays_54 : decode cX11_lays 54 = .ok (.invokevirtual 67, 3) := do_182 (rdb (p := 32) (i := 22) ch_cX11_lays_32 rfl) (rdb (p := 32) (i := 23) ch_cX11_lays_32 rfl) (rdb (p := 32) (i := 24) ch_cX11_lays_32 rfl) rfl
theorem dX11_lays_57 : decode cX11_lays 57 = .ok (.ireturn, 1) := do_172 (rdb (p := 32) (i := 25) ch_cX11_lays_32 rfl)
theorem dX11_lays_58 : decode cX11_lays 58 = .ok (.aload_n 3, 1) := do_45 (rdb (p := 32) (i := 26) ch_cX11_lays_32 rfl)
theorem dX11_lays_59 : decode cX11_lays 59 = .ok (.getfield 136, 3) := do_180 (rdb (p := 32) (i := 27) ch_cX11_lays_32 rfl) (rdb (p := 32) (i := 28) ch_cX11_lays_32 rfl) (rdb (p := 32) (i := 29) ch_cX11_lays_32 rfl) rfl
theorem dX11_lays_62 : decode cX11_lays 62 = .ok (.bipush 16, 2) := do_16 (rdb (p := 32) (i := 30) ch_cX11_lays_32 rfl) (rdb (p := 32) (i := 31) ch_cX11_lays_32 rfl) (by decide +kernel)
theorem ch_cX11_lays_64 : (cX11_lays.data.toList.drop 64).take 36 = [164, 0, 9, 42, 6, 182, 0, 67, 172, 3, 54, 4, 3, 54, 5, 21, 5, 45, 180, 0, 136, 162, 0, 82, 45, 21, 5, 182, 0, 139, 4, 100, 54, 6, 16, 16] := by decide +kernel
theorem dX11_lays_64 : decode cX11_lays 64 = .ok (.if_icmp .le 9, 3) := do_164 (rdb (p := 64) (i := 0) ch_cX11_lays_64 rfl) (rdb (p := 64) (i := 1) ch_cX11_lays_64 rfl) (rdb (p := 64) (i := 2) ch_cX11_lays_64 rfl) (by decide +kernel)
theorem dX11_lays_67 : decode cX11_lays 67 = .ok (.aload_n 0, 1) := do_42 (rdb (p := 64) (i := 3) ch_cX11_lays_64 rfl)
theorem dX11_lays_68 : decode cX11_lays 68 = .ok (.iconst 3, 1) := do_6 (rdb (p := 64) (i := 4) ch_cX11_lays_64 rfl)
theorem dX11_lays_69 : decode cX11_lays 69 = .ok (.invokevirtual 67, 3) := do_182 (rdb (p := 64) (i := 5) ch_cX11_lays_64 rfl) (rdb (p := 64) (i := 6) ch_cX11_lays_64 rfl) (rdb (p := 64) (i := 7) ch_cX11_lays_64 rfl) rfl
theorem dX11_lays_72 : decode cX11_lays 72 = .ok (.ireturn, 1) := do_172 (rdb (p := 64) (i := 8) ch_cX11_lays_64 rfl)
theorem dX11_lays_73 : decode cX11_lays 73 = .ok (.iconst 0, 1) := do_3 (rdb (p := 64) (i := 9) ch_cX11_lays_64 rfl)
theorem dX11_lays_74 : decode cX11_lays 74 = .ok (.istore 4, 2) := do_54 (rdb (p := 64) (i := 10) ch_cX11_lays_64 rfl) (rdb (p := 64) (i := 11) ch_cX11_lays_64 rfl)
theorem dX11_lays_76 : decode cX11_lays 76 = .ok (.iconst 0, 1) := do_3 (rdb (p := 64) (i := 12) ch_cX11_lays_64 rfl)
theorem dX11_lays_77 : decode cX11_lays 77 = .ok (.istore 5, 2) := do_54 (rdb (p := 64) (i := 13) ch_cX11_lays_64 rfl) (rdb (p := 64) (i := 14) ch_cX11_lays_64 rfl)
theorem dX11_lays_79 : decode cX11_lays 79 = .ok (.iload 5, 2) := do_21 (rdb (p := 64) (i := 15) ch_cX11_lays_64 rfl) (rdb (p := 64) (i := 16) ch_cX11_lays_64 rfl)
theorem dX11_lays_81 : decode cX11_lays 81 = .ok (.aload_n 3, 1) := do_45 (rdb (p := 64) (i := 17) ch_cX11_lays_64 rfl)
theorem dX11_lays_82 : decode cX11_lays 82 = .ok (.getfield 136, 3) := do_180 (rdb (p := 64) (i := 18) ch_cX11_lays_64 rfl) (rdb (p := 64) (i := 19) ch_cX11_lays_64 rfl) (rdb (p := 64) (i := 20) ch_cX11_lays_64 rfl) rfl
theorem dX11_lays_85 : decode cX11_lays 85 = .ok (.if_icmp .ge 82, 3) := do_162 (rdb (p := 64) (i := 21) ch_cX11_lays_64 rfl) (rdb (p := 64) (i := 22) ch_cX11_lays_64 rfl) (rdb (p := 64) (i := 23) ch_cX11_lays_64 rfl) (by decide +kernel)
theorem dX11_lays_88 : decode cX11_lays 88 = .ok (.aload_n 3, 1) := do_45 (rdb (p := 64) (i := 24) ch_cX11_lays_64 rfl)
theorem dX11_lays_89 : decode cX11_lays 89 = .ok (.iload 5, 2) := do_21 (rdb (p := 64) (i := 25) ch_cX11_lays_64 rfl) (rdb (p := 64) (i := 26) ch_cX11_lays_64 rfl)
theorem dX11_lays_91 : decode cX11_lays 91 = .ok (.invokevirtual 139, 3) := do_182 (rdb (p := 64) (i := 27) ch_cX11_lays_64 rfl) (rdb (p := 64) (i := 28) ch_cX11_lays_64 rfl) (rdb (p := 64) (i := 29) ch_cX11_lays_64 rfl) rfl
theorem dX11_lays_94 : decode cX11_lays 94 = .ok (.iconst 1, 1) := do_4 (rdb (p := 64) (i := 30) ch_cX11_lays_64 rfl)
theorem dX11_lays_95 : decode cX11_lays 95 = .ok (.isub, 1) := do_100 (rdb (p := 64) (i := 31) ch_cX11_lays_64 rfl)
theorem ch_cX11_lays_96 : (cX11_lays.data.toList.drop 96).take 36 = [54, 6, 16, 16, 28, 104, 21, 5, 96, 54, 7, 21, 6, 184, 0, 58, 153, 0, 49, 42, 180, 0, 10, 180, 0, 71, 21, 7, 182, 0, 75, 153, 0, 34, 42, 180] := by decide +kernel
theorem dX11_lays_96 : decode cX11_lays 96 = .ok (.istore 6, 2) := do_54 (rdb (p := 96) (i := 0) ch_cX11_lays_96 rfl) (rdb (p := 96) (i := 1) ch_cX11_lays_96 rfl)
theorem dX11_lays_98 : decode cX11_lays 98 = .ok (.bipush 16, 2) := do_16 (rdb (p := 96) (i := 2) ch_cX11_lays_96 rfl) (rdb (p := 96) (i := 3) ch_cX11_lays_96 rfl) (by decide +kernel)
theorem dX11_lays_100 : decode cX11_lays 100 = .ok (.iload_n 2, 1) := do_28 (rdb (p := 96) (i := 4) ch_cX11_lays_96 rfl)
theorem dX11_lays_101 : decode cX11_lays 101 = .ok (.imul, 1) := do_104 (rdb (p := 96) (i := 5) ch_cX11_lays_96 rfl)
theorem dX11_lays_102 : decode cX11_lays 102 = .ok (.iload 5, 2) := do_21 (rdb (p := 96) (i := 6) ch_cX11_lays_96 rfl) (rdb (p := 96) (i := 7) ch_cX11_lays_96 rfl)
theorem dX11_lays_104 : decode cX11_lays 104 = .ok (.iadd, 1) := do_96 (rdb (p := 96) (i := 8) ch_cX11_lays_96 rfl)
theorem dX11_lays_105 : decode cX11_lays 105 = .ok (.istore 7, 2) := do_54 (rdb (p := 96) (i := 9) ch_cX11_lays_96 rfl) (rdb (p := 96) (i := 10) ch_cX11_lays_96 rfl)
theorem dX11_lays_107 : decode cX11_lays 107 = .ok (.iload 6, 2) := do_21 (rdb (p := 96) (i := 11) ch_cX11_lays_96 rfl) (rdb (p := 96) (i := 12) ch_cX11_lays_96 rfl)
theorem dX11_lays_109 : decode cX11_lays 109 = .ok (.invokestatic 58, 3) := do_184 (rdb (p := 96) (i := 13) ch_cX11_lays_96 rfl) (rdb (p := 96) (i := 14) ch_cX11_lays_96 rfl) (rdb (p := 96) (i := 15) ch_cX11_lays_96 rfl) rfl
theorem dX11_lays_112 : decode cX11_lays 112 = .ok (.ifCond .eq 49, 3) := do_153 (rdb (p := 96) (i := 16) ch_cX11_lays_96 rfl) (rdb (p := 96) (i := 17) ch_cX11_lays_96 rfl) (rdb (p := 96) (i := 18) ch_cX11_lays_96 rfl) (by decide +kernel)
theorem dX11_lays_115 : decode cX11_lays 115 = .ok (.aload_n 0, 1) := do_42 (rdb (p := 96) (i := 19) ch_cX11_lays_96 rfl)
theorem dX11_lays_116 : decode cX11_lays 116 = .ok (.getfield 10, 3) := do_180 (rdb (p := 96) (i := 20) ch_cX11_lays_96 rfl) (rdb (p := 96) (i := 21) ch_cX11_lays_96 rfl) (rdb (p := 96) (i := 22) ch_cX11_lays_96 rfl) rfl
theorem dX11_lays_119 : decode cX11_lays 119 = .ok (.getfield 71, 3) := do_180 (rdb (p := 96) (i := 23) ch_cX11_lays_96 rfl) (rdb (p := 96) (i := 24) ch_cX11_lays_96 rfl) (rdb (p := 96) (i := 25) ch_cX11_lays_96 rfl) rfl
theorem dX11_lays_122 : decode cX11_lays 122 = .ok (.iload 7, 2) := do_21 (rdb (p := 96) (i := 26) ch_cX11_lays_96 rfl) (rdb (p := 96) (i := 27) ch_cX11_lays_96 rfl)
theorem dX11_lays_124 : decode cX11_lays 124 = .ok (.invokevirtual 75, 3) := do_182 (rdb (p := 96) (i := 28) ch_cX11_lays_96 rfl) (rdb (p := 96) (i := 29) ch_cX11_lays_96 rfl) (rdb (p := 96) (i := 30) ch_cX11_lays_96 rfl) rfl
theorem dX11_lays_127 : decode cX11_lays 127 = .ok (.ifCond .eq 34, 3) := do_153 (rdb (p := 96) (i := 31) ch_cX11_lays_96 rfl) (rdb (p := 96) (i := 32) ch_cX11_lays_96 rfl) (rdb (p := 96) (i := 33) ch_cX11_lays_96 rfl) (by decide +kernel)
theorem ch_cX11_lays_128 : (cX11_lays.data.toList.drop 128).take 36 = [0, 34, 42, 180, 0, 10, 180, 0, 71, 182, 0, 78, 153, 0, 21, 42, 180, 0, 10, 180, 0, 71, 21, 6, 21, 7, 182, 0, 82, 87, 132, 4, 1, 132, 5, 1] := by decide +kernel
theorem dX11_lays_130 : decode cX11_lays 130 = .ok (.aload_n 0, 1) := do_42 (rdb (p := 128) (i := 2) ch_cX11_lays_128 rfl)
theorem dX11_lays_131 : decode cX11_lays 131 = .ok (.getfield 10, 3) := do_180 (rdb (p := 128) (i := 3) ch_cX11_lays_128 rfl) (rdb (p := 128) (i := 4) ch_cX11_lays_128 rfl) (rdb (p := 128) (i := 5) ch_cX11_lays_128 rfl) rfl
theorem dX11_lays_134 : decode cX11_lays 134 = .ok (.getfield 71, 3) := do_180 (rdb (p := 128) (i := 6) ch_cX11_lays_128 rfl) (rdb (p := 128) (i := 7) ch_cX11_lays_128 rfl) (rdb (p := 128) (i := 8) ch_cX11_lays_128 rfl) rfl
theorem dX11_lays_137 : decode cX11_lays 137 = .ok (.invokevirtual 78, 3) := do_182 (rdb (p := 128) (i := 9) ch_cX11_lays_128 rfl) (rdb (p := 128) (i := 10) ch_cX11_lays_128 rfl) (rdb (p := 128) (i := 11) ch_cX11_lays_128 rfl) rfl
theorem dX11_lays_140 : decode cX11_lays 140 = .ok (.ifCond .eq 21, 3) := do_153 (rdb (p := 128) (i := 12) ch_cX11_lays_128 rfl) (rdb (p := 128) (i := 13) ch_cX11_lays_128 rfl) (rdb (p := 128) (i := 14) ch_cX11_lays_128 rfl) (by decide +kernel)
theorem dX11_lays_143 : decode cX11_lays 143 = .ok (.aload_n 0, 1) := do_42 (rdb (p := 128) (i := 15) ch_cX11_lays_128 rfl)
theorem dX11_lays_144 : decode cX11_lays 144 = .ok (.getfield 10, 3) := do_180 (rdb (p := 128) (i := 16) ch_cX11_lays_128 rfl) (rdb (p := 128) (i := 17) ch_cX11_lays_128 rfl) (rdb (p := 128) (i := 18) ch_cX11_lays_128 rfl) rfl
theorem dX11_lays_147 : decode cX11_lays 147 = .ok (.getfield 71, 3) := do_180 (rdb (p := 128) (i := 19) ch_cX11_lays_128 rfl) (rdb (p := 128) (i := 20) ch_cX11_lays_128 rfl) (rdb (p := 128) (i := 21) ch_cX11_lays_128 rfl) rfl
theorem dX11_lays_150 : decode cX11_lays 150 = .ok (.iload 6, 2) := do_21 (rdb (p := 128) (i := 22) ch_cX11_lays_128 rfl) (rdb (p := 128) (i := 23) ch_cX11_lays_128 rfl)
theorem dX11_lays_152 : decode cX11_lays 152 = .ok (.iload 7, 2) := do_21 (rdb (p := 128) (i := 24) ch_cX11_lays_128 rfl) (rdb (p := 128) (i := 25) ch_cX11_lays_128 rfl)
theorem dX11_lays_154 : decode cX11_lays 154 = .ok (.invokevirtual 82, 3) := do_182 (rdb (p := 128) (i := 26) ch_cX11_lays_128 rfl) (rdb (p := 128) (i := 27) ch_cX11_lays_128 rfl) (rdb (p := 128) (i := 28) ch_cX11_lays_128 rfl) rfl
theorem dX11_lays_157 : decode cX11_lays 157 = .ok (.pop, 1) := do_87 (rdb (p := 128) (i := 29) ch_cX11_lays_128 rfl)
theorem dX11_lays_158 : decode cX11_lays 158 = .ok (.iinc 4 1, 3) := do_132 (rdb (p := 128) (i := 30) ch_cX11_lays_128 rfl) (rdb (p := 128) (i := 31) ch_cX11_lays_128 rfl) (rdb (p := 128) (i := 32) ch_cX11_lays_128 rfl) (by decide +kernel)
theorem ch_cX11_lays_160 : (cX11_lays.data.toList.drop 160).take 36 = [1, 132, 5, 1, 167, 255, 171, 21, 4, 172] := by decide +kernel
theorem dX11_lays_161 : decode cX11_lays 161 = .ok (.iinc 5 1, 3) := do_132 (rdb (p := 160) (i := 1) ch_cX11_lays_160 rfl) (rdb (p := 160) (i := 2) ch_cX11_lays_160 rfl) (rdb (p := 160) (i := 3) ch_cX11_lays_160 rfl) (by decide +kernel)
theorem dX11_lays_164 : decode cX11_lays 164 = .ok (.goto (-85), 3) := do_167 (rdb (p := 160) (i := 4) ch_cX11_lays_160 rfl) (rdb (p := 160) (i := 5) ch_cX11_lays_160 rfl) (rdb (p := 160) (i := 6) ch_cX11_lays_160 rfl) (by decide +kernel)
theorem dX11_lays_167 : decode cX11_lays 167 = .ok (.iload 4, 2) := do_21 (rdb (p := 160) (i := 7) ch_cX11_lays_160 rfl) (rdb (p := 160) (i := 8) ch_cX11_lays_160 rfl)
theorem dX11_lays_169 : decode cX11_lays 169 = .ok (.ireturn, 1) := do_172 (rdb (p := 160) (i := 9) ch_cX11_lays_160 rfl)
theorem ch_cX11_least_0 : (cX11_least.data.toList.drop 0).take 36 = [42, 180, 0, 10, 27, 182, 0, 154, 153, 0, 30, 28, 184, 0, 58, 153, 0, 23, 29, 4, 16, 15, 184, 0, 89, 153, 0, 13, 21, 4, 3, 4, 184, 0, 89, 154] := by decide +kernel
theorem dX11_least_0 : decode cX11_least 0 = .ok (.aload_n 0, 1) := do_42 (rdb (p := 0) (i := 0) ch_cX11_least_0 rfl)
theorem dX11_least_1 : decode cX11_least 1 = .ok (.getfield 10, 3) := do_180 (rdb (p := 0) (i := 1) ch_cX11_least_0 rfl) (rdb (p := 0) (i := 2) ch_cX11_least_0 rfl) (rdb (p := 0) (i := 3) ch_cX11_least_0 rfl) rfl
theorem dX11_least_4 : decode cX11_least 4 = .ok (.iload_n 1, 1) := do_27 (rdb (p := 0) (i := 4) ch_cX11_least_0 rfl)
theorem dX11_least_5 : decode cX11_least 5 = .ok (.invokevirtual 154, 3) := do_182 (rdb (p := 0) (i := 5) ch_cX11_least_0 rfl) (rdb (p := 0) (i := 6) ch_cX11_least_0 rfl) (rdb (p := 0) (i := 7) ch_cX11_least_0 rfl) rfl
theorem dX11_least_8 : decode cX11_least 8 = .ok (.ifCond .eq 30, 3) := do_153 (rdb (p := 0) (i := 8) ch_cX11_least_0 rfl) (rdb (p := 0) (i := 9) ch_cX11_least_0 rfl) (rdb (p := 0) (i := 10) ch_cX11_least_0 rfl) (by decide +kernel)
theorem dX11_least_11 : decode cX11_least 11 = .ok (.iload_n 2, 1) := do_28 (rdb (p := 0) (i := 11) ch_cX11_least_0 rfl)
theorem dX11_least_12 : decode cX11_least 12 = .ok (.invokestatic 58, 3) := do_184 (rdb (p := 0) (i := 12) ch_cX11_least_0 rfl) (rdb (p := 0) (i := 13) ch_cX11_least_0 rfl) (rdb (p := 0) (i := 14) ch_cX11_least_0 rfl) rfl
theorem dX11_least_15 : decode cX11_least 15 = .ok (.ifCond .eq 23, 3) := do_153 (rdb (p := 0) (i := 15) ch_cX11_least_0 rfl) (rdb (p := 0) (i := 16) ch_cX11_least_0 rfl) (rdb (p := 0) (i := 17) ch_cX11_least_0 rfl) (by decide +kernel)
theorem dX11_least_18 : decode cX11_least 18 = .ok (.iload_n 3, 1) := do_29 (rdb (p := 0) (i := 18) ch_cX11_least_0 rfl)
theorem dX11_least_19 : decode cX11_least 19 = .ok (.iconst 1, 1) := do_4 (rdb (p := 0) (i := 19) ch_cX11_least_0 rfl)
theorem dX11_least_20 : decode cX11_least 20 = .ok (.bipush 15, 2) := do_16 (rdb (p := 0) (i := 20) ch_cX11_least_0 rfl) (rdb (p := 0) (i := 21) ch_cX11_least_0 rfl) (by decide +kernel)
theorem dX11_least_22 : decode cX11_least 22 = .ok (.invokestatic 89, 3) := do_184 (rdb (p := 0) (i := 22) ch_cX11_least_0 rfl) (rdb (p := 0) (i := 23) ch_cX11_least_0 rfl) (rdb (p := 0) (i := 24) ch_cX11_least_0 rfl) rfl
theorem dX11_least_25 : decode cX11_least 25 = .ok (.ifCond .eq 13, 3) := do_153 (rdb (p := 0) (i := 25) ch_cX11_least_0 rfl) (rdb (p := 0) (i := 26) ch_cX11_least_0 rfl) (rdb (p := 0) (i := 27) ch_cX11_least_0 rfl) (by decide +kernel)
theorem dX11_least_28 : decode cX11_least 28 = .ok (.iload 4, 2) := do_21 (rdb (p := 0) (i := 28) ch_cX11_least_0 rfl) (rdb (p := 0) (i := 29) ch_cX11_least_0 rfl)
theorem dX11_least_30 : decode cX11_least 30 = .ok (.iconst 0, 1) := do_3 (rdb (p := 0) (i := 30) ch_cX11_least_0 rfl)
theorem dX11_least_31 : decode cX11_least 31 = .ok (.iconst 1, 1) := do_4 (rdb (p := 0) (i := 31) ch_cX11_least_0 rfl)
theorem ch_cX11_least_32 : (cX11_least.data.toList.drop 32).take 36 = [184, 0, 89, 154, 0, 9, 42, 4, 182, 0, 67, 172, 42, 180, 0, 10, 180, 0, 157, 27, 50, 58, 5, 29, 25, 5, 182, 0, 168, 164, 0, 9, 42, 5, 182, 0] := by decide +kernel
theorem dX11_least_32 : decode cX11_least 32 = .ok (.invokestatic 89, 3) := do_184 (rdb (p := 32) (i := 0) ch_cX11_least_32 rfl) (rdb (p := 32) (i := 1) ch_cX11_least_32 rfl) (rdb (p := 32) (i := 2) ch_cX11_least_32 rfl) rfl
theorem dX11_least_35 : decode cX11_least 35 = .ok (.ifCond .ne 9, 3) := do_154 (rdb (p := 32) (i := 3) ch_cX11_least_32 rfl) (rdb (p := 32) (i := 4) ch_cX11_least_32 rfl) (rdb (p := 32) (i := 5) ch_cX11_least_32 rfl) (by decide +kernel)
theorem dX11_least_38 : decode cX11_least 38 = .ok (.aload_n 0, 1) := do_42 (rdb (p := 32) (i := 6) ch_cX11_least_32 rfl)
theorem dX11_least_39 : decode cX11_least 39 = .ok (.iconst 1, 1) := do_4 (rdb (p := 32) (i := 7) ch_cX11_least_32 rfl)
theorem dX11_least_40 : decode cX11_least 40 = .ok (.invokevirtual 67, 3) := do_182 (rdb (p := 32) (i := 8) ch_cX11_least_32 rfl) (rdb (p := 32) (i := 9) ch_cX11_least_32 rfl) (rdb (p := 32) (i := 10) ch_cX11_least_32 rfl) rfl
theorem dX11_least_43 : decode cX11_least 43 = .ok (.ireturn, 1) := do_172 (rdb (p := 32) (i := 11) ch_cX11_least_32 rfl)
theorem dX11_least_44 : decode cX11_least 44 = .ok (.aload_n 0, 1) := do_42 (rdb (p := 32) (i := 12) ch_cX11_least_32 rfl)
theorem dX11_least_45 : decode cX11_least 45 = .ok (.getfield 10, 3) := do_180 (rdb (p := 32) (i := 13) ch_cX11_least_32 rfl) (rdb (p := 32) (i := 14) ch_cX11_least_32 rfl) (rdb (p := 32) (i := 15) ch_cX11_least_32 rfl) rfl
theorem dX11_least_48 : decode cX11_least 48 = .ok (.getfield 157, 3) := do_180 (rdb (p := 32) (i := 16) ch_cX11_least_32 rfl) (rdb (p := 32) (i := 17) ch_cX11_least_32 rfl) (rdb (p := 32) (i := 18) ch_cX11_least_32 rfl) rfl
theorem dX11_least_51 : decode cX11_least 51 = .ok (.iload_n 1, 1) := do_27 (rdb (p := 32) (i := 19) ch_cX11_least_32 rfl)
theorem dX11_least_52 : decode cX11_least 52 = .ok (.aaload, 1) := do_50 (rdb (p := 32) (i := 20) ch_cX11_least_32 rfl)
theorem dX11_least_53 : decode cX11_least 53 = .ok (.astore 5, 2) := do_58 (rdb (p := 32) (i := 21) ch_cX11_least_32 rfl) (rdb (p := 32) (i := 22) ch_cX11_least_32 rfl)
theorem dX11_least_55 : decode cX11_least 55 = .ok (.iload_n 3, 1) := do_29 (rdb (p := 32) (i := 23) ch_cX11_least_32 rfl)
theorem dX11_least_56 : decode cX11_least 56 = .ok (.aload 5, 2) := do_25 (rdb (p := 32) (i := 24) ch_cX11_least_32 rfl) (rdb (p := 32) (i := 25) ch_cX11_least_32 rfl)
theorem dX11_least_58 : decode cX11_least 58 = .ok (.invokevirtual 168, 3) := do_182 (rdb (p := 32) (i := 26) ch_cX11_least_32 rfl) (rdb (p := 32) (i := 27) ch_cX11_least_32 rfl) (rdb (p := 32) (i := 28) ch_cX11_least_32 rfl) rfl
theorem dX11_least_61 : decode cX11_least 61 = .ok (.if_icmp .le 9, 3) := do_164 (rdb (p := 32) (i := 29) ch_cX11_least_32 rfl) (rdb (p := 32) (i := 30) ch_cX11_least_32 rfl) (rdb (p := 32) (i := 31) ch_cX11_least_32 rfl) (by decide +kernel)
theorem ch_cX11_least_64 : (cX11_least.data.toList.drop 64).take 36 = [42, 5, 182, 0, 67, 172, 21, 4, 154, 0, 23, 42, 180, 0, 10, 180, 0, 114, 25, 5, 182, 1, 1, 28, 29, 182, 1, 8, 167, 0, 20, 42, 180, 0, 10, 180] := by decide +kernel
theorem dX11_least_64 : decode cX11_least 64 = .ok (.aload_n 0, 1) := do_42 (rdb (p := 64) (i := 0) ch_cX11_least_64 rfl)
theorem dX11_least_65 : decode cX11_least 65 = .ok (.iconst 2, 1) := do_5 (rdb (p := 64) (i := 1) ch_cX11_least_64 rfl)
theorem dX11_least_66 : decode cX11_least 66 = .ok (.invokevirtual 67, 3) := do_182 (rdb (p := 64) (i := 2) ch_cX11_least_64 rfl) (rdb (p := 64) (i := 3) ch_cX11_least_64 rfl) (rdb (p := 64) (i := 4) ch_cX11_least_64 rfl) rfl
theorem dX11_least_69 : decode cX11_least 69 = .ok (.ireturn, 1) := do_172 (rdb (p := 64) (i := 5) ch_cX11_least_64 rfl)
theorem dX11_least_70 : decode cX11_least 70 = .ok (.iload 4, 2) := do_21 (rdb (p := 64) (i := 6) ch_cX11_least_64 rfl) (rdb (p := 64) (i := 7) ch_cX11_least_64 rfl)
theorem dX11_least_72 : decode cX11_least 72 = .ok (.ifCond .ne 23, 3) := do_154 (rdb (p := 64) (i := 8) ch_cX11_least_64 rfl) (rdb (p := 64) (i := 9) ch_cX11_least_64 rfl) (rdb (p := 64) (i := 10) ch_cX11_least_64 rfl) (by decide +kernel)
theorem dX11_least_75 : decode cX11_least 75 = .ok (.aload_n 0, 1) := do_42 (rdb (p := 64) (i := 11) ch_cX11_least_64 rfl)
theorem dX11_least_76 : decode cX11_least 76 = .ok (.getfield 10, 3) := do_180 (rdb (p := 64) (i := 12) ch_cX11_least_64 rfl) (rdb (p := 64) (i := 13) ch_cX11_least_64 rfl) (rdb (p := 64) (i := 14) ch_cX11_least_64 rfl) rfl
theorem dX11_least_79 : decode cX11_least 79 = .ok (.getfield 114, 3) := do_180 (rdb (p := 64) (i := 15) ch_cX11_least_64 rfl) (rdb (p := 64) (i := 16) ch_cX11_least_64 rfl) (rdb (p := 64) (i := 17) ch_cX11_least_64 rfl) rfl
theorem dX11_least_82 : decode cX11_least 82 = .ok (.aload 5, 2) := do_25 (rdb (p := 64) (i := 18) ch_cX11_least_64 rfl) (rdb (p := 64) (i := 19) ch_cX11_least_64 rfl)
theorem dX11_least_84 : decode cX11_least 84 = .ok (.invokevirtual 257, 3) := do_182 (rdb (p := 64) (i := 20) ch_cX11_least_64 rfl) (rdb (p := 64) (i := 21) ch_cX11_least_64 rfl) (rdb (p := 64) (i := 22) ch_cX11_least_64 rfl) rfl
theorem dX11_least_87 : decode cX11_least 87 = .ok (.iload_n 2, 1) := do_28 (rdb (p := 64) (i := 23) ch_cX11_least_64 rfl)
theorem dX11_least_88 : decode cX11_least 88 = .ok (.iload_n 3, 1) := do_29 (rdb (p := 64) (i := 24) ch_cX11_least_64 rfl)
theorem dX11_least_89 : decode cX11_least 89 = .ok (.invokevirtual 264, 3) := do_182 (rdb (p := 64) (i := 25) ch_cX11_least_64 rfl) (rdb (p := 64) (i := 26) ch_cX11_least_64 rfl) (rdb (p := 64) (i := 27) ch_cX11_least_64 rfl) rfl
theorem dX11_least_92 : decode cX11_least 92 = .ok (.goto 20, 3) := do_167 (rdb (p := 64) (i := 28) ch_cX11_least_64 rfl) (rdb (p := 64) (i := 29) ch_cX11_least_64 rfl) (rdb (p := 64) (i := 30) ch_cX11_least_64 rfl) (by decide +kernel)
theorem dX11_least_95 : decode cX11_least 95 = .ok (.aload_n 0, 1) := do_42 (rdb (p := 64) (i := 31) ch_cX11_least_64 rfl)
theorem ch_cX11_least_96 : (cX11_least.data.toList.drop 96).take 36 = [180, 0, 10, 180, 0, 114, 25, 5, 182, 1, 1, 28, 29, 182, 1, 11, 54, 6, 21, 6, 154, 0, 11, 42, 5, 182, 0, 67, 167, 0, 5, 21, 6, 172] := by decide +kernel
theorem dX11_least_96 : decode cX11_least 96 = .ok (.getfield 10, 3) := do_180 (rdb (p := 96) (i := 0) ch_cX11_least_96 rfl) (rdb (p := 96) (i := 1) ch_cX11_least_96 rfl) (rdb (p := 96) (i := 2) ch_cX11_least_96 rfl) rfl
theorem dX11_least_99 : decode cX11_least 99 = .ok (.getfield 114, 3) := do_180 (rdb (p := 96) (i := 3) ch_cX11_least_96 rfl) (rdb (p := 96) (i := 4) ch_cX11_least_96 rfl) (rdb (p := 96) (i := 5) ch_cX11_least_96 rfl) rfl
theorem dX11_least_102 : decode cX11_least 102 = .ok (.aload 5, 2) := do_25 (rdb (p := 96) (i := 6) ch_cX11_least_96 rfl) (rdb (p := 96) (i := 7) ch_cX11_least_96 rfl)
theorem dX11_least_104 : decode cX11_least 104 = .ok (.invokevirtual 257, 3) := do_182 (rdb (p := 96) (i := 8) ch_cX11_least_96 rfl) (rdb (p := 96) (i := 9) ch_cX11_least_96 rfl) (rdb (p := 96) (i := 10) ch_cX11_least_96 rfl) rfl
theorem dX11_least_107 : decode cX11_least 107 = .ok (.iload_n 2, 1) := do_28 (rdb (p := 96) (i := 11) ch_cX11_least_96 rfl)
theorem dX11_least_108 : decode cX11_least 108 = .ok (.iload_n 3, 1) := do_29 (rdb (p := 96) (i := 12) ch_cX11_least_96 rfl)
theorem dX11_least_109 : decode cX11_least 109 = .ok (.invokevirtual 267, 3) := do_182 (rdb (p := 96) (i := 13) ch_cX11_least_96 rfl) (rdb (p := 96) (i := 14) ch_cX11_least_96 rfl) (rdb (p := 96) (i := 15) ch_cX11_least_96 rfl) rfl
theorem dX11_least_112 : decode cX11_least 112 = .ok (.istore 6, 2) := do_54 (rdb (p := 96) (i := 16) ch_cX11_least_96 rfl) (rdb (p := 96) (i := 17) ch_cX11_least_96 rfl)
theorem dX11_least_114 : decode cX11_least 114 = .ok (.iload 6, 2) := do_21 (rdb (p := 96) (i := 18) ch_cX11_least_96 rfl) (rdb (p := 96) (i := 19) ch_cX11_least_96 rfl)
theorem dX11_least_116 : decode cX11_least 116 = .ok (.ifCond .ne 11, 3) := do_154 (rdb (p := 96) (i := 20) ch_cX11_least_96 rfl) (rdb (p := 96) (i := 21) ch_cX11_least_96 rfl) (rdb (p := 96) (i := 22) ch_cX11_least_96 rfl) (by decide +kernel)
theorem dX11_least_119 : decode cX11_least 119 = .ok (.aload_n 0, 1) := do_42 (rdb (p := 96) (i := 23) ch_cX11_least_96 rfl)
theorem dX11_least_120 : decode cX11_least 120 = .ok (.iconst 2, 1) := do_5 (rdb (p := 96) (i := 24) ch_cX11_least_96 rfl)
theorem dX11_least_121 : decode cX11_least 121 = .ok (.invokevirtual 67, 3) := do_182 (rdb (p := 96) (i := 25) ch_cX11_least_96 rfl) (rdb (p := 96) (i := 26) ch_cX11_least_96 rfl) (rdb (p := 96) (i := 27) ch_cX11_least_96 rfl) rfl
theorem dX11_least_124 : decode cX11_least 124 = .ok (.goto 5, 3) := do_167 (rdb (p := 96) (i := 28) ch_cX11_least_96 rfl) (rdb (p := 96) (i := 29) ch_cX11_least_96 rfl) (rdb (p := 96) (i := 30) ch_cX11_least_96 rfl) (by decide +kernel)
theorem dX11_least_127 : decode cX11_least 127 = .ok (.iload 6, 2) := do_21 (rdb (p := 96) (i := 31) ch_cX11_least_96 rfl) (rdb (p := 96) (i := 32) ch_cX11_least_96 rfl)
theorem ch_cX11_least_128 : (cX11_least.data.toList.drop 128).take 36 = [6, 172] := by decide +kernel
theorem dX11_least_129 : decode cX11_least 129 = .ok (.ireturn, 1) := do_172 (rdb (p := 128) (i := 1) ch_cX11_least_128 rfl)
theorem ch_cX11_moves_0 : (cX11_moves.data.toList.drop 0).take 36 = [42, 180, 0, 10, 180, 0, 71, 58, 4, 25, 4, 27, 182, 0, 86, 153, 0, 20, 28, 184, 0, 96, 153, 0, 13, 29, 3, 16, 20, 184, 0, 89, 154, 0, 9, 42] := by decide +kernel
theorem dX11_moves_0 : decode cX11_moves 0 = .ok (.aload_n 0, 1) := do_42 (rdb (p := 0) (i := 0) ch_cX11_moves_0 rfl)
theorem dX11_moves_1 : decode cX11_moves 1 = .ok (.getfield 10, 3) := do_180 (rdb (p := 0) (i := 1) ch_cX11_moves_0 rfl) (rdb (p := 0) (i := 2) ch_cX11_moves_0 rfl) (rdb (p := 0) (i := 3) ch_cX11_moves_0 rfl) rfl
theorem dX11_moves_4 : decode cX11_moves 4 = .ok (.getfield 71, 3) := do_180 (rdb (p := 0) (i := 4) ch_cX11_moves_0 rfl) (rdb (p := 0) (i := 5) ch_cX11_moves_0 rfl) (rdb (p := 0) (i := 6) ch_cX11_moves_0 rfl) rfl
theorem dX11_moves_7 : decode cX11_moves 7 = .ok (.astore 4, 2) := do_58 (rdb (p := 0) (i := 7) ch_cX11_moves_0 rfl) (rdb (p := 0) (i := 8) ch_cX11_moves_0 rfl)
theorem dX11_moves_9 : decode cX11_moves 9 = .ok (.aload 4, 2) := do_25 (rdb (p := 0) (i := 9) ch_cX11_moves_0 rfl) (rdb (p := 0) (i := 10) ch_cX11_moves_0 rfl)
theorem dX11_moves_11 : decode cX11_moves 11 = .ok (.iload_n 1, 1) := do_27 (rdb (p := 0) (i := 11) ch_cX11_moves_0 rfl)
theorem dX11_moves_12 : decode cX11_moves 12 = .ok (.invokevirtual 86, 3) := do_182 (rdb (p := 0) (i := 12) ch_cX11_moves_0 rfl) (rdb (p := 0) (i := 13) ch_cX11_moves_0 rfl) (rdb (p := 0) (i := 14) ch_cX11_moves_0 rfl) rfl
theorem dX11_moves_15 : decode cX11_moves 15 = .ok (.ifCond .eq 20, 3) := do_153 (rdb (p := 0) (i := 15) ch_cX11_moves_0 rfl) (rdb (p := 0) (i := 16) ch_cX11_moves_0 rfl) (rdb (p := 0) (i := 17) ch_cX11_moves_0 rfl) (by decide +kernel)
theorem dX11_moves_18 : decode cX11_moves 18 = .ok (.iload_n 2, 1) := do_28 (rdb (p := 0) (i := 18) ch_cX11_moves_0 rfl)
theorem dX11_moves_19 : decode cX11_moves 19 = .ok (.invokestatic 96, 3) := do_184 (rdb (p := 0) (i := 19) ch_cX11_moves_0 rfl) (rdb (p := 0) (i := 20) ch_cX11_moves_0 rfl) (rdb (p := 0) (i := 21) ch_cX11_moves_0 rfl) rfl
theorem dX11_moves_22 : decode cX11_moves 22 = .ok (.ifCond .eq 13, 3) := do_153 (rdb (p := 0) (i := 22) ch_cX11_moves_0 rfl) (rdb (p := 0) (i := 23) ch_cX11_moves_0 rfl) (rdb (p := 0) (i := 24) ch_cX11_moves_0 rfl) (by decide +kernel)
theorem dX11_moves_25 : decode cX11_moves 25 = .ok (.iload_n 3, 1) := do_29 (rdb (p := 0) (i := 25) ch_cX11_moves_0 rfl)
theorem dX11_moves_26 : decode cX11_moves 26 = .ok (.iconst 0, 1) := do_3 (rdb (p := 0) (i := 26) ch_cX11_moves_0 rfl)
theorem dX11_moves_27 : decode cX11_moves 27 = .ok (.bipush 20, 2) := do_16 (rdb (p := 0) (i := 27) ch_cX11_moves_0 rfl) (rdb (p := 0) (i := 28) ch_cX11_moves_0 rfl) (by decide +kernel)
theorem dX11_moves_29 : decode cX11_moves 29 = .ok (.invokestatic 89, 3) := do_184 (rdb (p := 0) (i := 29) ch_cX11_moves_0 rfl) (rdb (p := 0) (i := 30) ch_cX11_moves_0 rfl) (rdb (p := 0) (i := 31) ch_cX11_moves_0 rfl) rfl
theorem ch_cX11_moves_32 : (cX11_moves.data.toList.drop 32).take 36 = [154, 0, 9, 42, 4, 182, 0, 67, 172, 25, 4, 180, 0, 99, 27, 46, 6, 162, 0, 9, 42, 8, 182, 0, 67, 172, 25, 4, 180, 0, 102, 27, 46, 156, 0, 9] := by decide +kernel
theorem dX11_moves_32 : decode cX11_moves 32 = .ok (.ifCond .ne 9, 3) := do_154 (rdb (p := 32) (i := 0) ch_cX11_moves_32 rfl) (rdb (p := 32) (i := 1) ch_cX11_moves_32 rfl) (rdb (p := 32) (i := 2) ch_cX11_moves_32 rfl) (by decide +kernel)
theorem dX11_moves_35 : decode cX11_moves 35 = .ok (.aload_n 0, 1) := do_42 (rdb (p := 32) (i := 3) ch_cX11_moves_32 rfl)
theorem dX11_moves_36 : decode cX11_moves 36 = .ok (.iconst 1, 1) := do_4 (rdb (p := 32) (i := 4) ch_cX11_moves_32 rfl)
theorem dX11_moves_37 : decode cX11_moves 37 = .ok (.invokevirtual 67, 3) := do_182 (rdb (p := 32) (i := 5) ch_cX11_moves_32 rfl) (rdb (p := 32) (i := 6) ch_cX11_moves_32 rfl) (rdb (p := 32) (i := 7) ch_cX11_moves_32 rfl) rfl
theorem dX11_moves_40 : decode cX11_moves 40 = .ok (.ireturn, 1) := do_172 (rdb (p := 32) (i := 8) ch_cX11_moves_32 rfl)
theorem dX11_moves_41 : decode cX11_moves 41 = .ok (.aload 4, 2) := do_25 (rdb (p := 32) (i := 9) ch_cX11_moves_32 rfl) (rdb (p := 32) (i := 10) ch_cX11_moves_32 rfl)
theorem dX11_moves_43 : decode cX11_moves 43 = .ok (.getfield 99, 3) := do_180 (rdb (p := 32) (i := 11) ch_cX11_moves_32 rfl) (rdb (p := 32) (i := 12) ch_cX11_moves_32 rfl) (rdb (p := 32) (i := 13) ch_cX11_moves_32 rfl) rfl
theorem dX11_moves_46 : decode cX11_moves 46 = .ok (.iload_n 1, 1) := do_27 (rdb (p := 32) (i := 14) ch_cX11_moves_32 rfl)
theorem dX11_moves_47 : decode cX11_moves 47 = .ok (.iaload, 1) := do_46 (rdb (p := 32) (i := 15) ch_cX11_moves_32 rfl)
theorem dX11_moves_48 : decode cX11_moves 48 = .ok (.iconst 3, 1) := do_6 (rdb (p := 32) (i := 16) ch_cX11_moves_32 rfl)
theorem dX11_moves_49 : decode cX11_moves 49 = .ok (.if_icmp .ge 9, 3) := do_162 (rdb (p := 32) (i := 17) ch_cX11_moves_32 rfl) (rdb (p := 32) (i := 18) ch_cX11_moves_32 rfl) (rdb (p := 32) (i := 19) ch_cX11_moves_32 rfl) (by decide +kernel)
theorem dX11_moves_52 : decode cX11_moves 52 = .ok (.aload_n 0, 1) := do_42 (rdb (p := 32) (i := 20) ch_cX11_moves_32 rfl)
theorem dX11_moves_53 : decode cX11_moves 53 = .ok (.iconst 5, 1) := do_8 (rdb (p := 32) (i := 21) ch_cX11_moves_32 rfl)
theorem dX11_moves_54 : decode cX11_moves 54 = .ok (.invokevirtual 67, 3) := do_182 (rdb (p := 32) (i := 22) ch_cX11_moves_32 rfl) (rdb (p := 32) (i := 23) ch_cX11_moves_32 rfl) (rdb (p := 32) (i := 24) ch_cX11_moves_32 rfl) rfl
theorem dX11_moves_57 : decode cX11_moves 57 = .ok (.ireturn, 1) := do_172 (rdb (p := 32) (i := 25) ch_cX11_moves_32 rfl)
theorem dX11_moves_58 : decode cX11_moves 58 = .ok (.aload 4, 2) := do_25 (rdb (p := 32) (i := 26) ch_cX11_moves_32 rfl) (rdb (p := 32) (i := 27) ch_cX11_moves_32 rfl)
theorem dX11_moves_60 : decode cX11_moves 60 = .ok (.getfield 102, 3) := do_180 (rdb (p := 32) (i := 28) ch_cX11_moves_32 rfl) (rdb (p := 32) (i := 29) ch_cX11_moves_32 rfl) (rdb (p := 32) (i := 30) ch_cX11_moves_32 rfl) rfl
theorem dX11_moves_63 : decode cX11_moves 63 = .ok (.iload_n 1, 1) := do_27 (rdb (p := 32) (i := 31) ch_cX11_moves_32 rfl)
theorem ch_cX11_moves_64 : (cX11_moves.data.toList.drop 64).take 36 = [46, 156, 0, 9, 42, 6, 182, 0, 67, 172, 25, 4, 180, 0, 105, 27, 28, 79, 25, 4, 180, 0, 108, 27, 29, 79, 4, 172] := by decide +kernel
theorem dX11_moves_64 : decode cX11_moves 64 = .ok (.iaload, 1) := do_46 (rdb (p := 64) (i := 0) ch_cX11_moves_64 rfl)
theorem dX11_moves_65 : decode cX11_moves 65 = .ok (.ifCond .ge 9, 3) := do_156 (rdb (p := 64) (i := 1) ch_cX11_moves_64 rfl) (rdb (p := 64) (i := 2) ch_cX11_moves_64 rfl) (rdb (p := 64) (i := 3) ch_cX11_moves_64 rfl) (by decide +kernel)
theorem dX11_moves_68 : decode cX11_moves 68 = .ok (.aload_n 0, 1) := do_42 (rdb (p := 64) (i := 4) ch_cX11_moves_64 rfl)
theorem dX11_moves_69 : decode cX11_moves 69 = .ok (.iconst 3, 1) := do_6 (rdb (p := 64) (i := 5) ch_cX11_moves_64 rfl)
theorem dX11_moves_70 : decode cX11_moves 70 = .ok (.invokevirtual 67, 3) := do_182 (rdb (p := 64) (i := 6) ch_cX11_moves_64 rfl) (rdb (p := 64) (i := 7) ch_cX11_moves_64 rfl) (rdb (p := 64) (i := 8) ch_cX11_moves_64 rfl) rfl
theorem dX11_moves_73 : decode cX11_moves 73 = .ok (.ireturn, 1) := do_172 (rdb (p := 64) (i := 9) ch_cX11_moves_64 rfl)
theorem dX11_moves_74 : decode cX11_moves 74 = .ok (.aload 4, 2) := do_25 (rdb (p := 64) (i := 10) ch_cX11_moves_64 rfl) (rdb (p := 64) (i := 11) ch_cX11_moves_64 rfl)
theorem dX11_moves_76 : decode cX11_moves 76 = .ok (.getfield 105, 3) := do_180 (rdb (p := 64) (i := 12) ch_cX11_moves_64 rfl) (rdb (p := 64) (i := 13) ch_cX11_moves_64 rfl) (rdb (p := 64) (i := 14) ch_cX11_moves_64 rfl) rfl
theorem dX11_moves_79 : decode cX11_moves 79 = .ok (.iload_n 1, 1) := do_27 (rdb (p := 64) (i := 15) ch_cX11_moves_64 rfl)
theorem dX11_moves_80 : decode cX11_moves 80 = .ok (.iload_n 2, 1) := do_28 (rdb (p := 64) (i := 16) ch_cX11_moves_64 rfl)
theorem dX11_moves_81 : decode cX11_moves 81 = .ok (.iastore, 1) := do_79 (rdb (p := 64) (i := 17) ch_cX11_moves_64 rfl)
theorem dX11_moves_82 : decode cX11_moves 82 = .ok (.aload 4, 2) := do_25 (rdb (p := 64) (i := 18) ch_cX11_moves_64 rfl) (rdb (p := 64) (i := 19) ch_cX11_moves_64 rfl)
theorem dX11_moves_84 : decode cX11_moves 84 = .ok (.getfield 108, 3) := do_180 (rdb (p := 64) (i := 20) ch_cX11_moves_64 rfl) (rdb (p := 64) (i := 21) ch_cX11_moves_64 rfl) (rdb (p := 64) (i := 22) ch_cX11_moves_64 rfl) rfl
theorem dX11_moves_87 : decode cX11_moves 87 = .ok (.iload_n 1, 1) := do_27 (rdb (p := 64) (i := 23) ch_cX11_moves_64 rfl)
theorem dX11_moves_88 : decode cX11_moves 88 = .ok (.iload_n 3, 1) := do_29 (rdb (p := 64) (i := 24) ch_cX11_moves_64 rfl)
theorem dX11_moves_89 : decode cX11_moves 89 = .ok (.iastore, 1) := do_79 (rdb (p := 64) (i := 25) ch_cX11_moves_64 rfl)
theorem dX11_moves_90 : decode cX11_moves 90 = .ok (.iconst 1, 1) := do_4 (rdb (p := 64) (i := 26) ch_cX11_moves_64 rfl)
theorem dX11_moves_91 : decode cX11_moves 91 = .ok (.ireturn, 1) := do_172 (rdb (p := 64) (i := 27) ch_cX11_moves_64 rfl)
theorem ch_cX11_thing_0 : (cX11_thing.data.toList.drop 0).take 36 = [27, 184, 0, 58, 153, 0, 10, 28, 184, 0, 62, 154, 0, 9, 42, 4, 182, 0, 67, 172, 42, 180, 0, 10, 180, 0, 71, 28, 182, 0, 75, 154, 0, 9, 42, 6] := by decide +kernel
theorem dX11_thing_0 : decode cX11_thing 0 = .ok (.iload_n 1, 1) := do_27 (rdb (p := 0) (i := 0) ch_cX11_thing_0 rfl)
theorem dX11_thing_1 : decode cX11_thing 1 = .ok (.invokestatic 58, 3) := do_184 (rdb (p := 0) (i := 1) ch_cX11_thing_0 rfl) (rdb (p := 0) (i := 2) ch_cX11_thing_0 rfl) (rdb (p := 0) (i := 3) ch_cX11_thing_0 rfl) rfl
theorem dX11_thing_4 : decode cX11_thing 4 = .ok (.ifCond .eq 10, 3) := do_153 (rdb (p := 0) (i := 4) ch_cX11_thing_0 rfl) (rdb (p := 0) (i := 5) ch_cX11_thing_0 rfl) (rdb (p := 0) (i := 6) ch_cX11_thing_0 rfl) (by decide +kernel)
theorem dX11_thing_7 : decode cX11_thing 7 = .ok (.iload_n 2, 1) := do_28 (rdb (p := 0) (i := 7) ch_cX11_thing_0 rfl)
theorem dX11_thing_8 : decode cX11_thing 8 = .ok (.invokestatic 62, 3) := do_184 (rdb (p := 0) (i := 8) ch_cX11_thing_0 rfl) (rdb (p := 0) (i := 9) ch_cX11_thing_0 rfl) (rdb (p := 0) (i := 10) ch_cX11_thing_0 rfl) rfl
theorem dX11_thing_11 : decode cX11_thing 11 = .ok (.ifCond .ne 9, 3) := do_154 (rdb (p := 0) (i := 11) ch_cX11_thing_0 rfl) (rdb (p := 0) (i := 12) ch_cX11_thing_0 rfl) (rdb (p := 0) (i := 13) ch_cX11_thing_0 rfl) (by decide +kernel)
theorem dX11_thing_14 : decode cX11_thing 14 = .ok (.aload_n 0, 1) := do_42 (rdb (p := 0) (i := 14) ch_cX11_thing_0 rfl)
theorem dX11_thing_15 : decode cX11_thing 15 = .ok (.iconst 1, 1) := do_4 (rdb (p := 0) (i := 15) ch_cX11_thing_0 rfl)
theorem dX11_thing_16 : decode cX11_thing 16 = .ok (.invokevirtual 67, 3) := do_182 (rdb (p := 0) (i := 16) ch_cX11_thing_0 rfl) (rdb (p := 0) (i := 17) ch_cX11_thing_0 rfl) (rdb (p := 0) (i := 18) ch_cX11_thing_0 rfl) rfl
theorem dX11_thing_19 : decode cX11_thing 19 = .ok (.ireturn, 1) := do_172 (rdb (p := 0) (i := 19) ch_cX11_thing_0 rfl)
theorem dX11_thing_20 : decode cX11_thing 20 = .ok (.aload_n 0, 1) := do_42 (rdb (p := 0) (i := 20) ch_cX11_thing_0 rfl)
theorem dX11_thing_21 : decode cX11_thing 21 = .ok (.getfield 10, 3) := do_180 (rdb (p := 0) (i := 21) ch_cX11_thing_0 rfl) (rdb (p := 0) (i := 22) ch_cX11_thing_0 rfl) (rdb (p := 0) (i := 23) ch_cX11_thing_0 rfl) rfl
theorem dX11_thing_24 : decode cX11_thing 24 = .ok (.getfield 71, 3) := do_180 (rdb (p := 0) (i := 24) ch_cX11_thing_0 rfl) (rdb (p := 0) (i := 25) ch_cX11_thing_0 rfl) (rdb (p := 0) (i := 26) ch_cX11_thing_0 rfl) rfl
theorem dX11_thing_27 : decode cX11_thing 27 = .ok (.iload_n 2, 1) := do_28 (rdb (p := 0) (i := 27) ch_cX11_thing_0 rfl)
theorem dX11_thing_28 : decode cX11_thing 28 = .ok (.invokevirtual 75, 3) := do_182 (rdb (p := 0) (i := 28) ch_cX11_thing_0 rfl) (rdb (p := 0) (i := 29) ch_cX11_thing_0 rfl) (rdb (p := 0) (i := 30) ch_cX11_thing_0 rfl) rfl
theorem dX11_thing_31 : decode cX11_thing 31 = .ok (.ifCond .ne 9, 3) := do_154 (rdb (p := 0) (i := 31) ch_cX11_thing_0 rfl) (rdb (p := 0) (i := 32) ch_cX11_thing_0 rfl) (rdb (p := 0) (i := 33) ch_cX11_thing_0 rfl) (by decide +kernel)
theorem ch_cX11_thing_32 : (cX11_thing.data.toList.drop 32).take 36 = [0, 9, 42, 6, 182, 0, 67, 172, 42, 180, 0, 10, 180, 0, 71, 182, 0, 78, 154, 0, 9, 42, 7, 182, 0, 67, 172, 42, 180, 0, 10, 180, 0, 71, 27, 28] := by decide +kernel
theorem dX11_thing_34 : decode cX11_thing 34 = .ok (.aload_n 0, 1) := do_42 (rdb (p := 32) (i := 2) ch_cX11_thing_32 rfl)
theorem dX11_thing_35 : decode cX11_thing 35 = .ok (.iconst 3, 1) := do_6 (rdb (p := 32) (i := 3) ch_cX11_thing_32 rfl)
theorem dX11_thing_36 : decode cX11_thing 36 = .ok (.invokevirtual 67, 3) := do_182 (rdb (p := 32) (i := 4) ch_cX11_thing_32 rfl) (rdb (p := 32) (i := 5) ch_cX11_thing_32 rfl) (rdb (p := 32) (i := 6) ch_cX11_thing_32 rfl) rfl
theorem dX11_thing_39 : decode cX11_thing 39 = .ok (.ireturn, 1) := do_172 (rdb (p := 32) (i := 7) ch_cX11_thing_32 rfl)
theorem dX11_thing_40 : decode cX11_thing 40 = .ok (.aload_n 0, 1) := do_42 (rdb (p := 32) (i := 8) ch_cX11_thing_32 rfl)
theorem dX11_thing_41 : decode cX11_thing 41 = .ok (.getfield 10, 3) := do_180 (rdb (p := 32) (i := 9) ch_cX11_thing_32 rfl) (rdb (p := 32) (i := 10) ch_cX11_thing_32 rfl) (rdb (p := 32) (i := 11) ch_cX11_thing_32 rfl) rfl
theorem dX11_thing_44 : decode cX11_thing 44 = .ok (.getfield 71, 3) := do_180 (rdb (p := 32) (i := 12) ch_cX11_thing_32 rfl) (rdb (p := 32) (i := 13) ch_cX11_thing_32 rfl) (rdb (p := 32) (i := 14) ch_cX11_thing_32 rfl) rfl
theorem dX11_thing_47 : decode cX11_thing 47 = .ok (.invokevirtual 78, 3) := do_182 (rdb (p := 32) (i := 15) ch_cX11_thing_32 rfl) (rdb (p := 32) (i := 16) ch_cX11_thing_32 rfl) (rdb (p := 32) (i := 17) ch_cX11_thing_32 rfl) rfl
theorem dX11_thing_50 : decode cX11_thing 50 = .ok (.ifCond .ne 9, 3) := do_154 (rdb (p := 32) (i := 18) ch_cX11_thing_32 rfl) (rdb (p := 32) (i := 19) ch_cX11_thing_32 rfl) (rdb (p := 32) (i := 20) ch_cX11_thing_32 rfl) (by decide +kernel)
theorem dX11_thing_53 : decode cX11_thing 53 = .ok (.aload_n 0, 1) := do_42 (rdb (p := 32) (i := 21) ch_cX11_thing_32 rfl)
theorem dX11_thing_54 : decode cX11_thing 54 = .ok (.iconst 4, 1) := do_7 (rdb (p := 32) (i := 22) ch_cX11_thing_32 rfl)
theorem dX11_thing_55 : decode cX11_thing 55 = .ok (.invokevirtual 67, 3) := do_182 (rdb (p := 32) (i := 23) ch_cX11_thing_32 rfl) (rdb (p := 32) (i := 24) ch_cX11_thing_32 rfl) (rdb (p := 32) (i := 25) ch_cX11_thing_32 rfl) rfl
theorem dX11_thing_58 : decode cX11_thing 58 = .ok (.ireturn, 1) := do_172 (rdb (p := 32) (i := 26) ch_cX11_thing_32 rfl)
theorem dX11_thing_59 : decode cX11_thing 59 = .ok (.aload_n 0, 1) := do_42 (rdb (p := 32) (i := 27) ch_cX11_thing_32 rfl)
theorem dX11_thing_60 : decode cX11_thing 60 = .ok (.getfield 10, 3) := do_180 (rdb (p := 32) (i := 28) ch_cX11_thing_32 rfl) (rdb (p := 32) (i := 29) ch_cX11_thing_32 rfl) (rdb (p := 32) (i := 30) ch_cX11_thing_32 rfl) rfl
theorem dX11_thing_63 : decode cX11_thing 63 = .ok (.getfield 71, 3) := do_180 (rdb (p := 32) (i := 31) ch_cX11_thing_32 rfl) (rdb (p := 32) (i := 32) ch_cX11_thing_32 rfl) (rdb (p := 32) (i := 33) ch_cX11_thing_32 rfl) rfl
theorem ch_cX11_thing_64 : (cX11_thing.data.toList.drop 64).take 36 = [0, 71, 27, 28, 182, 0, 82, 172] := by decide +kernel
theorem dX11_thing_66 : decode cX11_thing 66 = .ok (.iload_n 1, 1) := do_27 (rdb (p := 64) (i := 2) ch_cX11_thing_64 rfl)
theorem dX11_thing_67 : decode cX11_thing 67 = .ok (.iload_n 2, 1) := do_28 (rdb (p := 64) (i := 3) ch_cX11_thing_64 rfl)
theorem dX11_thing_68 : decode cX11_thing 68 = .ok (.invokevirtual 82, 3) := do_182 (rdb (p := 64) (i := 4) ch_cX11_thing_64 rfl) (rdb (p := 64) (i := 5) ch_cX11_thing_64 rfl) (rdb (p := 64) (i := 6) ch_cX11_thing_64 rfl) rfl
theorem dX11_thing_71 : decode cX11_thing 71 = .ok (.ireturn, 1) := do_172 (rdb (p := 64) (i := 7) ch_cX11_thing_64 rfl)
theorem ch_cX11_thingIs_0 : (cX11_thingIs.data.toList.drop 0).take 36 = [42, 180, 0, 10, 180, 0, 71, 27, 182, 0, 86, 153, 0, 12, 28, 3, 6, 184, 0, 89, 154, 0, 9, 42, 4, 182, 0, 67, 172, 42, 180, 0, 10, 180, 0, 71] := by decide +kernel
theorem dX11_thingIs_0 : decode cX11_thingIs 0 = .ok (.aload_n 0, 1) := do_42 (rdb (p := 0) (i := 0) ch_cX11_thingIs_0 rfl)
theorem dX11_thingIs_1 : decode cX11_thingIs 1 = .ok (.getfield 10, 3) := do_180 (rdb (p := 0) (i := 1) ch_cX11_thingIs_0 rfl) (rdb (p := 0) (i := 2) ch_cX11_thingIs_0 rfl) (rdb (p := 0) (i := 3) ch_cX11_thingIs_0 rfl) rfl
theorem dX11_thingIs_4 : decode cX11_thingIs 4 = .ok (.getfield 71, 3) := do_180 (rdb (p := 0) (i := 4) ch_cX11_thingIs_0 rfl) (rdb (p := 0) (i := 5) ch_cX11_thingIs_0 rfl) (rdb (p := 0) (i := 6) ch_cX11_thingIs_0 rfl) rfl
theorem dX11_thingIs_7 : decode cX11_thingIs 7 = .ok (.iload_n 1, 1) := do_27 (rdb (p := 0) (i := 7) ch_cX11_thingIs_0 rfl)
theorem dX11_thingIs_8 : decode cX11_thingIs 8 = .ok (.invokevirtual 86, 3) := do_182 (rdb (p := 0) (i := 8) ch_cX11_thingIs_0 rfl) (rdb (p := 0) (i := 9) ch_cX11_thingIs_0 rfl) (rdb (p := 0) (i := 10) ch_cX11_thingIs_0 rfl) rfl
theorem dX11_thingIs_11 : decode cX11_thingIs 11 = .ok (.ifCond .eq 12, 3) := do_153 (rdb (p := 0) (i := 11) ch_cX11_thingIs_0 rfl) (rdb (p := 0) (i := 12) ch_cX11_thingIs_0 rfl) (rdb (p := 0) (i := 13) ch_cX11_thingIs_0 rfl) (by decide +kernel)
theorem dX11_thingIs_14 : decode cX11_thingIs 14 = .ok (.iload_n 2, 1) := do_28 (rdb (p := 0) (i := 14) ch_cX11_thingIs_0 rfl)
theorem dX11_thingIs_15 : decode cX11_thingIs 15 = .ok (.iconst 0, 1) := do_3 (rdb (p := 0) (i := 15) ch_cX11_thingIs_0 rfl)
theorem dX11_thingIs_16 : decode cX11_thingIs 16 = .ok (.iconst 3, 1) := do_6 (rdb (p := 0) (i := 16) ch_cX11_thingIs_0 rfl)
theorem dX11_thingIs_17 : decode cX11_thingIs 17 = .ok (.invokestatic 89, 3) := do_184 (rdb (p := 0) (i := 17) ch_cX11_thingIs_0 rfl) (rdb (p := 0) (i := 18) ch_cX11_thingIs_0 rfl) (rdb (p := 0) (i := 19) ch_cX11_thingIs_0 rfl) rfl
theorem dX11_thingIs_20 : decode cX11_thingIs 20 = .ok (.ifCond .ne 9, 3) := do_154 (rdb (p := 0) (i := 20) ch_cX11_thingIs_0 rfl) (rdb (p := 0) (i := 21) ch_cX11_thingIs_0 rfl) (rdb (p := 0) (i := 22) ch_cX11_thingIs_0 rfl) (by decide +kernel)
theorem dX11_thingIs_23 : decode cX11_thingIs 23 = .ok (.aload_n 0, 1) := do_42 (rdb (p := 0) (i := 23) ch_cX11_thingIs_0 rfl)
theorem dX11_thingIs_24 : decode cX11_thingIs 24 = .ok (.iconst 1, 1) := do_4 (rdb (p := 0) (i := 24) ch_cX11_thingIs_0 rfl)
theorem dX11_thingIs_25 : decode cX11_thingIs 25 = .ok (.invokevirtual 67, 3) := do_182 (rdb (p := 0) (i := 25) ch_cX11_thingIs_0 rfl) (rdb (p := 0) (i := 26) ch_cX11_thingIs_0 rfl) (rdb (p := 0) (i := 27) ch_cX11_thingIs_0 rfl) rfl
theorem dX11_thingIs_28 : decode cX11_thingIs 28 = .ok (.ireturn, 1) := do_172 (rdb (p := 0) (i := 28) ch_cX11_thingIs_0 rfl)
theorem dX11_thingIs_29 : decode cX11_thingIs 29 = .ok (.aload_n 0, 1) := do_42 (rdb (p := 0) (i := 29) ch_cX11_thingIs_0 rfl)
theorem dX11_thingIs_30 : decode cX11_thingIs 30 = .ok (.getfield 10, 3) := do_180 (rdb (p := 0) (i := 30) ch_cX11_thingIs_0 rfl) (rdb (p := 0) (i := 31) ch_cX11_thingIs_0 rfl) (rdb (p := 0) (i := 32) ch_cX11_thingIs_0 rfl) rfl
theorem ch_cX11_thingIs_32 : (cX11_thingIs.data.toList.drop 32).take 36 = [10, 180, 0, 71, 27, 28, 182, 0, 93, 172] := by decide +kernel
theorem dX11_thingIs_33 : decode cX11_thingIs 33 = .ok (.getfield 71, 3) := do_180 (rdb (p := 32) (i := 1) ch_cX11_thingIs_32 rfl) (rdb (p := 32) (i := 2) ch_cX11_thingIs_32 rfl) (rdb (p := 32) (i := 3) ch_cX11_thingIs_32 rfl) rfl
theorem dX11_thingIs_36 : decode cX11_thingIs 36 = .ok (.iload_n 1, 1) := do_27 (rdb (p := 32) (i := 4) ch_cX11_thingIs_32 rfl)
theorem dX11_thingIs_37 : decode cX11_thingIs 37 = .ok (.iload_n 2, 1) := do_28 (rdb (p := 32) (i := 5) ch_cX11_thingIs_32 rfl)
theorem dX11_thingIs_38 : decode cX11_thingIs 38 = .ok (.invokevirtual 93, 3) := do_182 (rdb (p := 32) (i := 6) ch_cX11_thingIs_32 rfl) (rdb (p := 32) (i := 7) ch_cX11_thingIs_32 rfl) (rdb (p := 32) (i := 8) ch_cX11_thingIs_32 rfl) rfl
theorem dX11_thingIs_41 : decode cX11_thingIs 41 = .ok (.ireturn, 1) := do_172 (rdb (p := 32) (i := 9) ch_cX11_thingIs_32 rfl)
theorem ch_cX11_walker_0 : (cX11_walker.data.toList.drop 0).take 36 = [27, 184, 0, 145, 153, 0, 17, 28, 184, 0, 62, 153, 0, 10, 29, 184, 0, 96, 154, 0, 9, 42, 4, 182, 0, 67, 172, 42, 180, 0, 10, 180, 0, 71, 28, 182] := by decide +kernel
theorem dX11_walker_0 : decode cX11_walker 0 = .ok (.iload_n 1, 1) := do_27 (rdb (p := 0) (i := 0) ch_cX11_walker_0 rfl)
theorem dX11_walker_1 : decode cX11_walker 1 = .ok (.invokestatic 145, 3) := do_184 (rdb (p := 0) (i := 1) ch_cX11_walker_0 rfl) (rdb (p := 0) (i := 2) ch_cX11_walker_0 rfl) (rdb (p := 0) (i := 3) ch_cX11_walker_0 rfl) rfl
theorem dX11_walker_4 : decode cX11_walker 4 = .ok (.ifCond .eq 17, 3) := do_153 (rdb (p := 0) (i := 4) ch_cX11_walker_0 rfl) (rdb (p := 0) (i := 5) ch_cX11_walker_0 rfl) (rdb (p := 0) (i := 6) ch_cX11_walker_0 rfl) (by decide +kernel)
theorem dX11_walker_7 : decode cX11_walker 7 = .ok (.iload_n 2, 1) := do_28 (rdb (p := 0) (i := 7) ch_cX11_walker_0 rfl)
theorem dX11_walker_8 : decode cX11_walker 8 = .ok (.invokestatic 62, 3) := do_184 (rdb (p := 0) (i := 8) ch_cX11_walker_0 rfl) (rdb (p := 0) (i := 9) ch_cX11_walker_0 rfl) (rdb (p := 0) (i := 10) ch_cX11_walker_0 rfl) rfl
theorem dX11_walker_11 : decode cX11_walker 11 = .ok (.ifCond .eq 10, 3) := do_153 (rdb (p := 0) (i := 11) ch_cX11_walker_0 rfl) (rdb (p := 0) (i := 12) ch_cX11_walker_0 rfl) (rdb (p := 0) (i := 13) ch_cX11_walker_0 rfl) (by decide +kernel)
theorem dX11_walker_14 : decode cX11_walker 14 = .ok (.iload_n 3, 1) := do_29 (rdb (p := 0) (i := 14) ch_cX11_walker_0 rfl)
theorem dX11_walker_15 : decode cX11_walker 15 = .ok (.invokestatic 96, 3) := do_184 (rdb (p := 0) (i := 15) ch_cX11_walker_0 rfl) (rdb (p := 0) (i := 16) ch_cX11_walker_0 rfl) (rdb (p := 0) (i := 17) ch_cX11_walker_0 rfl) rfl
theorem dX11_walker_18 : decode cX11_walker 18 = .ok (.ifCond .ne 9, 3) := do_154 (rdb (p := 0) (i := 18) ch_cX11_walker_0 rfl) (rdb (p := 0) (i := 19) ch_cX11_walker_0 rfl) (rdb (p := 0) (i := 20) ch_cX11_walker_0 rfl) (by decide +kernel)
theorem dX11_walker_21 : decode cX11_walker 21 = .ok (.aload_n 0, 1) := do_42 (rdb (p := 0) (i := 21) ch_cX11_walker_0 rfl)
theorem dX11_walker_22 : decode cX11_walker 22 = .ok (.iconst 1, 1) := do_4 (rdb (p := 0) (i := 22) ch_cX11_walker_0 rfl)
theorem dX11_walker_23 : decode cX11_walker 23 = .ok (.invokevirtual 67, 3) := do_182 (rdb (p := 0) (i := 23) ch_cX11_walker_0 rfl) (rdb (p := 0) (i := 24) ch_cX11_walker_0 rfl) (rdb (p := 0) (i := 25) ch_cX11_walker_0 rfl) rfl
theorem dX11_walker_26 : decode cX11_walker 26 = .ok (.ireturn, 1) := do_172 (rdb (p := 0) (i := 26) ch_cX11_walker_0 rfl)
theorem dX11_walker_27 : decode cX11_walker 27 = .ok (.aload_n 0, 1) := do_42 (rdb (p := 0) (i := 27) ch_cX11_walker_0 rfl)
theorem dX11_walker_28 : decode cX11_walker 28 = .ok (.getfield 10, 3) := do_180 (rdb (p := 0) (i := 28) ch_cX11_walker_0 rfl) (rdb (p := 0) (i := 29) ch_cX11_walker_0 rfl) (rdb (p := 0) (i := 30) ch_cX11_walker_0 rfl) rfl
theorem dX11_walker_31 : decode cX11_walker 31 = .ok (.getfield 71, 3) := do_180 (rdb (p := 0) (i := 31) ch_cX11_walker_0 rfl) (rdb (p := 0) (i := 32) ch_cX11_walker_0 rfl) (rdb (p := 0) (i := 33) ch_cX11_walker_0 rfl) rfl
theorem ch_cX11_walker_32 : (cX11_walker.data.toList.drop 32).take 36 = [0, 71, 28, 182, 0, 75, 154, 0, 9, 42, 6, 182, 0, 67, 172, 42, 180, 0, 10, 180, 0, 148, 16, 8, 161, 0, 9, 42, 7, 182, 0, 67, 172, 42, 180, 0] := by decide +kernel
theorem dX11_walker_34 : decode cX11_walker 34 = .ok (.iload_n 2, 1) := do_28 (rdb (p := 32) (i := 2) ch_cX11_walker_32 rfl)
theorem dX11_walker_35 : decode cX11_walker 35 = .ok (.invokevirtual 75, 3) := do_182 (rdb (p := 32) (i := 3) ch_cX11_walker_32 rfl) (rdb (p := 32) (i := 4) ch_cX11_walker_32 rfl) (rdb (p := 32) (i := 5) ch_cX11_walker_32 rfl) rfl
theorem dX11_walker_38 : decode cX11_walker 38 = .ok (.ifCond .ne 9, 3) := do_154 (rdb (p := 32) (i := 6) ch_cX11_walker_32 rfl) (rdb (p := 32) (i := 7) ch_cX11_walker_32 rfl) (rdb (p := 32) (i := 8) ch_cX11_walker_32 rfl) (by decide +kernel)
theorem dX11_walker_41 : decode cX11_walker 41 = .ok (.aload_n 0, 1) := do_42 (rdb (p := 32) (i := 9) ch_cX11_walker_32 rfl)
theorem dX11_walker_42 : decode cX11_walker 42 = .ok (.iconst 3, 1) := do_6 (rdb (p := 32) (i := 10) ch_cX11_walker_32 rfl)
theorem dX11_walker_43 : decode cX11_walker 43 = .ok (.invokevirtual 67, 3) := do_182 (rdb (p := 32) (i := 11) ch_cX11_walker_32 rfl) (rdb (p := 32) (i := 12) ch_cX11_walker_32 rfl) (rdb (p := 32) (i := 13) ch_cX11_walker_32 rfl) rfl
theorem dX11_walker_46 : decode cX11_walker 46 = .ok (.ireturn, 1) := do_172 (rdb (p := 32) (i := 14) ch_cX11_walker_32 rfl)
theorem dX11_walker_47 : decode cX11_walker 47 = .ok (.aload_n 0, 1) := do_42 (rdb (p := 32) (i := 15) ch_cX11_walker_32 rfl)
theorem dX11_walker_48 : decode cX11_walker 48 = .ok (.getfield 10, 3) := do_180 (rdb (p := 32) (i := 16) ch_cX11_walker_32 rfl) (rdb (p := 32) (i := 17) ch_cX11_walker_32 rfl) (rdb (p := 32) (i := 18) ch_cX11_walker_32 rfl) rfl
theorem dX11_walker_51 : decode cX11_walker 51 = .ok (.getfield 148, 3) := do_180 (rdb (p := 32) (i := 19) ch_cX11_walker_32 rfl) (rdb (p := 32) (i := 20) ch_cX11_walker_32 rfl) (rdb (p := 32) (i := 21) ch_cX11_walker_32 rfl) rfl
theorem dX11_walker_54 : decode cX11_walker 54 = .ok (.bipush 8, 2) := do_16 (rdb (p := 32) (i := 22) ch_cX11_walker_32 rfl) (rdb (p := 32) (i := 23) ch_cX11_walker_32 rfl) (by decide +kernel)
theorem dX11_walker_56 : decode cX11_walker 56 = .ok (.if_icmp .lt 9, 3) := do_161 (rdb (p := 32) (i := 24) ch_cX11_walker_32 rfl) (rdb (p := 32) (i := 25) ch_cX11_walker_32 rfl) (rdb (p := 32) (i := 26) ch_cX11_walker_32 rfl) (by decide +kernel)
theorem dX11_walker_59 : decode cX11_walker 59 = .ok (.aload_n 0, 1) := do_42 (rdb (p := 32) (i := 27) ch_cX11_walker_32 rfl)
theorem dX11_walker_60 : decode cX11_walker 60 = .ok (.iconst 4, 1) := do_7 (rdb (p := 32) (i := 28) ch_cX11_walker_32 rfl)
theorem dX11_walker_61 : decode cX11_walker 61 = .ok (.invokevirtual 67, 3) := do_182 (rdb (p := 32) (i := 29) ch_cX11_walker_32 rfl) (rdb (p := 32) (i := 30) ch_cX11_walker_32 rfl) (rdb (p := 32) (i := 31) ch_cX11_walker_32 rfl) rfl
theorem ch_cX11_walker_64 : (cX11_walker.data.toList.drop 64).take 36 = [172, 42, 180, 0, 10, 27, 28, 29, 182, 0, 151, 172] := by decide +kernel
theorem dX11_walker_64 : decode cX11_walker 64 = .ok (.ireturn, 1) := do_172 (rdb (p := 64) (i := 0) ch_cX11_walker_64 rfl)
theorem dX11_walker_65 : decode cX11_walker 65 = .ok (.aload_n 0, 1) := do_42 (rdb (p := 64) (i := 1) ch_cX11_walker_64 rfl)
theorem dX11_walker_66 : decode cX11_walker 66 = .ok (.getfield 10, 3) := do_180 (rdb (p := 64) (i := 2) ch_cX11_walker_64 rfl) (rdb (p := 64) (i := 3) ch_cX11_walker_64 rfl) (rdb (p := 64) (i := 4) ch_cX11_walker_64 rfl) rfl
theorem dX11_walker_69 : decode cX11_walker 69 = .ok (.iload_n 1, 1) := do_27 (rdb (p := 64) (i := 5) ch_cX11_walker_64 rfl)
theorem dX11_walker_70 : decode cX11_walker 70 = .ok (.iload_n 2, 1) := do_28 (rdb (p := 64) (i := 6) ch_cX11_walker_64 rfl)
theorem dX11_walker_71 : decode cX11_walker 71 = .ok (.iload_n 3, 1) := do_29 (rdb (p := 64) (i := 7) ch_cX11_walker_64 rfl)
theorem dX11_walker_72 : decode cX11_walker 72 = .ok (.invokevirtual 151, 3) := do_182 (rdb (p := 64) (i := 8) ch_cX11_walker_64 rfl) (rdb (p := 64) (i := 9) ch_cX11_walker_64 rfl) (rdb (p := 64) (i := 10) ch_cX11_walker_64 rfl) rfl
theorem dX11_walker_75 : decode cX11_walker 75 = .ok (.ireturn, 1) := do_172 (rdb (p := 64) (i := 11) ch_cX11_walker_64 rfl)
theorem ch_cX11_walkerIs_0 : (cX11_walkerIs.data.toList.drop 0).take 36 = [42, 180, 0, 10, 27, 182, 0, 154, 153, 0, 13, 28, 3, 16, 11, 184, 0, 89, 154, 0, 9, 42, 4, 182, 0, 67, 172, 42, 180, 0, 10, 180, 0, 157, 27, 50] := by decide +kernel
theorem dX11_walkerIs_0 : decode cX11_walkerIs 0 = .ok (.aload_n 0, 1) := do_42 (rdb (p := 0) (i := 0) ch_cX11_walkerIs_0 rfl)
theorem dX11_walkerIs_1 : decode cX11_walkerIs 1 = .ok (.getfield 10, 3) := do_180 (rdb (p := 0) (i := 1) ch_cX11_walkerIs_0 rfl) (rdb (p := 0) (i := 2) ch_cX11_walkerIs_0 rfl) (rdb (p := 0) (i := 3) ch_cX11_walkerIs_0 rfl) rfl
theorem dX11_walkerIs_4 : decode cX11_walkerIs 4 = .ok (.iload_n 1, 1) := do_27 (rdb (p := 0) (i := 4) ch_cX11_walkerIs_0 rfl)
theorem dX11_walkerIs_5 : decode cX11_walkerIs 5 = .ok (.invokevirtual 154, 3) := do_182 (rdb (p := 0) (i := 5) ch_cX11_walkerIs_0 rfl) (rdb (p := 0) (i := 6) ch_cX11_walkerIs_0 rfl) (rdb (p := 0) (i := 7) ch_cX11_walkerIs_0 rfl) rfl
theorem dX11_walkerIs_8 : decode cX11_walkerIs 8 = .ok (.ifCond .eq 13, 3) := do_153 (rdb (p := 0) (i := 8) ch_cX11_walkerIs_0 rfl) (rdb (p := 0) (i := 9) ch_cX11_walkerIs_0 rfl) (rdb (p := 0) (i := 10) ch_cX11_walkerIs_0 rfl) (by decide +kernel)
theorem dX11_walkerIs_11 : decode cX11_walkerIs 11 = .ok (.iload_n 2, 1) := do_28 (rdb (p := 0) (i := 11) ch_cX11_walkerIs_0 rfl)
theorem dX11_walkerIs_12 : decode cX11_walkerIs 12 = .ok (.iconst 0, 1) := do_3 (rdb (p := 0) (i := 12) ch_cX11_walkerIs_0 rfl)
theorem dX11_walkerIs_13 : decode cX11_walkerIs 13 = .ok (.bipush 11, 2) := do_16 (rdb (p := 0) (i := 13) ch_cX11_walkerIs_0 rfl) (rdb (p := 0) (i := 14) ch_cX11_walkerIs_0 rfl) (by decide +kernel)
theorem dX11_walkerIs_15 : decode cX11_walkerIs 15 = .ok (.invokestatic 89, 3) := do_184 (rdb (p := 0) (i := 15) ch_cX11_walkerIs_0 rfl) (rdb (p := 0) (i := 16) ch_cX11_walkerIs_0 rfl) (rdb (p := 0) (i := 17) ch_cX11_walkerIs_0 rfl) rfl
theorem dX11_walkerIs_18 : decode cX11_walkerIs 18 = .ok (.ifCond .ne 9, 3) := do_154 (rdb (p := 0) (i := 18) ch_cX11_walkerIs_0 rfl) (rdb (p := 0) (i := 19) ch_cX11_walkerIs_0 rfl) (rdb (p := 0) (i := 20) ch_cX11_walkerIs_0 rfl) (by decide +kernel)
theorem dX11_walkerIs_21 : decode cX11_walkerIs 21 = .ok (.aload_n 0, 1) := do_42 (rdb (p := 0) (i := 21) ch_cX11_walkerIs_0 rfl)
theorem dX11_walkerIs_22 : decode cX11_walkerIs 22 = .ok (.iconst 1, 1) := do_4 (rdb (p := 0) (i := 22) ch_cX11_walkerIs_0 rfl)
theorem dX11_walkerIs_23 : decode cX11_walkerIs 23 = .ok (.invokevirtual 67, 3) := do_182 (rdb (p := 0) (i := 23) ch_cX11_walkerIs_0 rfl) (rdb (p := 0) (i := 24) ch_cX11_walkerIs_0 rfl) (rdb (p := 0) (i := 25) ch_cX11_walkerIs_0 rfl) rfl
theorem dX11_walkerIs_26 : decode cX11_walkerIs 26 = .ok (.ireturn, 1) := do_172 (rdb (p := 0) (i := 26) ch_cX11_walkerIs_0 rfl)
theorem dX11_walkerIs_27 : decode cX11_walkerIs 27 = .ok (.aload_n 0, 1) := do_42 (rdb (p := 0) (i := 27) ch_cX11_walkerIs_0 rfl)
theorem dX11_walkerIs_28 : decode cX11_walkerIs 28 = .ok (.getfield 10, 3) := do_180 (rdb (p := 0) (i := 28) ch_cX11_walkerIs_0 rfl) (rdb (p := 0) (i := 29) ch_cX11_walkerIs_0 rfl) (rdb (p := 0) (i := 30) ch_cX11_walkerIs_0 rfl) rfl
theorem dX11_walkerIs_31 : decode cX11_walkerIs 31 = .ok (.getfield 157, 3) := do_180 (rdb (p := 0) (i := 31) ch_cX11_walkerIs_0 rfl) (rdb (p := 0) (i := 32) ch_cX11_walkerIs_0 rfl) (rdb (p := 0) (i := 33) ch_cX11_walkerIs_0 rfl) rfl
theorem ch_cX11_walkerIs_32 : (cX11_walkerIs.data.toList.drop 32).take 36 = [0, 157, 27, 50, 28, 182, 0, 161, 172] := by decide +kernel
theorem dX11_walkerIs_34 : decode cX11_walkerIs 34 = .ok (.iload_n 1, 1) := do_27 (rdb (p := 32) (i := 2) ch_cX11_walkerIs_32 rfl)
theorem dX11_walkerIs_35 : decode cX11_walkerIs 35 = .ok (.aaload, 1) := do_50 (rdb (p := 32) (i := 3) ch_cX11_walkerIs_32 rfl)
theorem dX11_walkerIs_36 : decode cX11_walkerIs 36 = .ok (.iload_n 2, 1) := do_28 (rdb (p := 32) (i := 4) ch_cX11_walkerIs_32 rfl)
theorem dX11_walkerIs_37 : decode cX11_walkerIs 37 = .ok (.invokevirtual 161, 3) := do_182 (rdb (p := 32) (i := 5) ch_cX11_walkerIs_32 rfl) (rdb (p := 32) (i := 6) ch_cX11_walkerIs_32 rfl) (rdb (p := 32) (i := 7) ch_cX11_walkerIs_32 rfl) rfl
theorem dX11_walkerIs_40 : decode cX11_walkerIs 40 = .ok (.ireturn, 1) := do_172 (rdb (p := 32) (i := 8) ch_cX11_walkerIs_32 rfl)
theorem dX8_keepTrace_0 : decode cX8_keepTrace 0 = .ok (.aload_n 0, 1) := by decide +kernel
theorem dX8_keepTrace_1 : decode cX8_keepTrace 1 = .ok (.getfield 18, 3) := by decide +kernel
theorem dX8_keepTrace_4 : decode cX8_keepTrace 4 = .ok (.aload_n 0, 1) := by decide +kernel
theorem dX8_keepTrace_5 : decode cX8_keepTrace 5 = .ok (.getfield 12, 3) := by decide +kernel
theorem dX8_keepTrace_8 : decode cX8_keepTrace 8 = .ok (.invokevirtual 46, 3) := by decide +kernel
theorem dX8_keepTrace_11 : decode cX8_keepTrace 11 = .ok (.return_, 1) := by decide +kernel
theorem dX8_parted_0 : decode cX8_parted 0 = .ok (.aload_n 0, 1) := by decide +kernel
theorem dX8_parted_1 : decode cX8_parted 1 = .ok (.getfield 25, 3) := by decide +kernel
theorem dX8_parted_4 : decode cX8_parted 4 = .ok (.iconst 3, 1) := by decide +kernel
theorem dX8_parted_5 : decode cX8_parted 5 = .ok (.if_icmp .ne 10, 3) := by decide +kernel
theorem dX8_parted_8 : decode cX8_parted 8 = .ok (.aload_n 0, 1) := by decide +kernel
theorem dX8_parted_9 : decode cX8_parted 9 = .ok (.iconst 1, 1) := by decide +kernel
theorem dX8_parted_10 : decode cX8_parted 10 = .ok (.putfield 31, 3) := by decide +kernel
theorem dX8_parted_13 : decode cX8_parted 13 = .ok (.iconst 0, 1) := by decide +kernel
theorem dX8_parted_14 : decode cX8_parted 14 = .ok (.ireturn, 1) := by decide +kernel
theorem dX8_parted_15 : decode cX8_parted 15 = .ok (.iload_n 1, 1) := by decide +kernel
theorem dX8_parted_16 : decode cX8_parted 16 = .ok (.aload_n 0, 1) := by decide +kernel
theorem dX8_parted_17 : decode cX8_parted 17 = .ok (.getfield 25, 3) := by decide +kernel
theorem dX8_parted_20 : decode cX8_parted 20 = .ok (.iconst 3, 1) := by decide +kernel
theorem dX8_parted_21 : decode cX8_parted 21 = .ok (.isub, 1) := by decide +kernel
theorem dX8_parted_22 : decode cX8_parted 22 = .ok (.idiv, 1) := by decide +kernel
theorem dX8_parted_23 : decode cX8_parted 23 = .ok (.ireturn, 1) := by decide +kernel
