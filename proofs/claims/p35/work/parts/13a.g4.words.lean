/-! words of the tables that are used, by their places; decode rows; fields -/
theorem li_9 : (9 : Int32).toInt = 9 := by decide
theorem li_15 : (15 : Int32).toInt = 15 := by decide
theorem li_24 : (24 : Int32).toInt = 24 := by decide
theorem li_99 : (99 : Int32).toInt = 99 := by decide
theorem m_87 : Cond.initialized RX9 ∈ BASE := bmem 87 (by decide +kernel) rfl
theorem m_91 : Cond.initialized RX6 ∈ BASE := bmem 91 (by decide +kernel) rfl
theorem m_206 : Cond.static Lib.Math.max.name ∈ BASE := bmem 206 (by decide +kernel) rfl
theorem m_207 : Cond.code Lib.Math.max.name Lib.Math.max.code 2 (some .int) ∈ BASE := bmem 207 (by decide +kernel) rfl
theorem m_258 : Cond.fieldLink RX9 7 "ClickStreet$Walker" "kind" "I" ∈ BASE := bmem 258 (by decide +kernel) rfl
theorem m_260 : Cond.fieldLink RX9 13 "ClickStreet$Walker" "cell" "I" ∈ BASE := bmem 260 (by decide +kernel) rfl
theorem m_264 : Cond.fieldLink RX9 16 "ClickStreet$Walker" "side" "I" ∈ BASE := bmem 264 (by decide +kernel) rfl
theorem m_267 : Cond.fieldLink RX9 19 "ClickStreet$Walker" "pitch" "I" ∈ BASE := bmem 267 (by decide +kernel) rfl
theorem m_270 : Cond.fieldLink RX9 22 "ClickStreet$Walker" "loudness" "I" ∈ BASE := bmem 270 (by decide +kernel) rfl
theorem m_272 : Cond.fieldLink RX9 25 "ClickStreet$Walker" "every" "I" ∈ BASE := bmem 272 (by decide +kernel) rfl
theorem m_275 : Cond.fieldLink RX9 28 "ClickStreet$Walker" "isGoing" "Z" ∈ BASE := bmem 275 (by decide +kernel) rfl
theorem m_278 : Cond.fieldLink RX9 32 "ClickStreet$Walker" "bumps" "I" ∈ BASE := bmem 278 (by decide +kernel) rfl
theorem m_280 : Cond.fieldLink RX9 35 "ClickStreet$Walker" "clicks" "I" ∈ BASE := bmem 280 (by decide +kernel) rfl
theorem m_282 : Cond.fieldLink RX9 40 "ClickStreet$Walker" "yes" "[I" ∈ BASE := bmem 282 (by decide +kernel) rfl
theorem m_284 : Cond.fieldLink RX9 44 "ClickStreet$Walker" "no" "[I" ∈ BASE := bmem 284 (by decide +kernel) rfl
theorem m_445 : Cond.fieldLink RX6 7 "ClickStreet$Sheet" "bits" "I" ∈ BASE := bmem 445 (by decide +kernel) rfl
theorem m_447 : Cond.fieldLink RX6 13 "ClickStreet$Sheet" "size" "I" ∈ BASE := bmem 447 (by decide +kernel) rfl
theorem m_450 : Cond.fieldLink RX6 16 "ClickStreet$Sheet" "numbers" "[I" ∈ BASE := bmem 450 (by decide +kernel) rfl
theorem m_574 : Cond.instanceMethod yX6_numberAt ∈ BASE := bmem 574 (by decide +kernel) rfl
theorem m_575 : Cond.selects yX6_numberAt.cls yX6_numberAt yX6_numberAt ∈ BASE := bmem 575 (by decide +kernel) rfl
theorem m_576 : Cond.code yX6_numberAt cX6_numberAt 2 (some .int) ∈ BASE := bmem 576 (by decide +kernel) rfl
theorem m_577 : Cond.methodLink RX6 29 yX6_has ∈ BASE := bmem 577 (by decide +kernel) rfl
theorem m_578 : Cond.instanceMethod yX6_has ∈ BASE := bmem 578 (by decide +kernel) rfl
theorem m_579 : Cond.selects yX6_has.cls yX6_has yX6_has ∈ BASE := bmem 579 (by decide +kernel) rfl
theorem m_580 : Cond.code yX6_has cX6_has 2 (some .boolean) ∈ BASE := bmem 580 (by decide +kernel) rfl
theorem m_617 : Cond.methodLink RX9 63 yX9_reach ∈ BASE := bmem 617 (by decide +kernel) rfl
theorem m_618 : Cond.instanceMethod yX9_reach ∈ BASE := bmem 618 (by decide +kernel) rfl
theorem m_619 : Cond.selects yX9_reach.cls yX9_reach yX9_reach ∈ BASE := bmem 619 (by decide +kernel) rfl
theorem m_620 : Cond.code yX9_reach cX9_reach 1 (some .int) ∈ BASE := bmem 620 (by decide +kernel) rfl
theorem m_621 : Cond.fieldLink RX9 54 "ClickStreet$Walker" "REACHES" "[I" ∈ BASE := bmem 621 (by decide +kernel) rfl
theorem m_623 : Cond.methodLink RX9 67 yX9_speed ∈ BASE := bmem 623 (by decide +kernel) rfl
theorem m_624 : Cond.instanceMethod yX9_speed ∈ BASE := bmem 624 (by decide +kernel) rfl
theorem m_625 : Cond.selects yX9_speed.cls yX9_speed yX9_speed ∈ BASE := bmem 625 (by decide +kernel) rfl
theorem m_626 : Cond.code yX9_speed cX9_speed 1 (some .int) ∈ BASE := bmem 626 (by decide +kernel) rfl
theorem m_627 : Cond.fieldLink RX9 57 "ClickStreet$Walker" "SPEEDS" "[I" ∈ BASE := bmem 627 (by decide +kernel) rfl
theorem m_629 : Cond.methodLink RX9 70 yX9_ears ∈ BASE := bmem 629 (by decide +kernel) rfl
theorem m_630 : Cond.instanceMethod yX9_ears ∈ BASE := bmem 630 (by decide +kernel) rfl
theorem m_631 : Cond.selects yX9_ears.cls yX9_ears yX9_ears ∈ BASE := bmem 631 (by decide +kernel) rfl
theorem m_632 : Cond.code yX9_ears cX9_ears 1 (some .int) ∈ BASE := bmem 632 (by decide +kernel) rfl
theorem m_633 : Cond.fieldLink RX9 60 "ClickStreet$Walker" "HEARS_TO" "[I" ∈ BASE := bmem 633 (by decide +kernel) rfl
theorem m_643 : Cond.methodLink RX9 50 yX9_kindAbove ∈ BASE := bmem 643 (by decide +kernel) rfl
theorem m_644 : Cond.static yX9_kindAbove ∈ BASE := bmem 644 (by decide +kernel) rfl
theorem m_645 : Cond.code yX9_kindAbove cX9_kindAbove 1 (some .int) ∈ BASE := bmem 645 (by decide +kernel) rfl
theorem m_919 : Cond.methodLink RX9 73 yX7_isCell ∈ BASE := bmem 919 (by decide +kernel) rfl
theorem m_920 : Cond.methodLink RX9 77 Lib.Math.min.name ∈ BASE := bmem 920 (by decide +kernel) rfl
theorem m_930 : Cond.instanceMethod yX9_held ∈ BASE := bmem 930 (by decide +kernel) rfl
theorem m_931 : Cond.selects yX9_held.cls yX9_held yX9_held ∈ BASE := bmem 931 (by decide +kernel) rfl
theorem m_932 : Cond.code yX9_held cX9_held 2 (some .int) ∈ BASE := bmem 932 (by decide +kernel) rfl
theorem m_946 : Cond.methodLink RX9 83 yX9_held ∈ BASE := bmem 946 (by decide +kernel) rfl
theorem m_982 : Cond.methodLink RX6 33 yX6_numberAt ∈ BASE := bmem 982 (by decide +kernel) rfl
theorem m_983 : Cond.methodLink RX6 37 yX7_isCell ∈ BASE := bmem 983 (by decide +kernel) rfl
theorem m_1049 : Cond.methodLink RX9 86 yX7_cellFrom ∈ BASE := bmem 1049 (by decide +kernel) rfl
theorem m_1230 : Cond.methodLink RX6 20 Lib.Math.min.name ∈ BASE := bmem 1230 (by decide +kernel) rfl
theorem m_1231 : Cond.methodLink RX6 26 Lib.Math.max.name ∈ BASE := bmem 1231 (by decide +kernel) rfl
theorem m_1279 : Cond.methodLink RX9 90 arraycopyName ∈ BASE := bmem 1279 (by decide +kernel) rfl
theorem kS_X9_kindAbove : KS yX9_kindAbove cX9_kindAbove 1 (some .int) 1 := ⟨m_644, m_87, m_645, by decide +kernel, by decide +kernel, by decide +kernel⟩
theorem kV_X6_has : KV yX6_has cX6_has 2 (some .boolean) 1 := ⟨m_578, m_579, m_91, m_580, by decide +kernel, by decide +kernel, by decide +kernel⟩
theorem kV_X6_numberAt : KV yX6_numberAt cX6_numberAt 2 (some .int) 1 := ⟨m_574, m_575, m_91, m_576, by decide +kernel, by decide +kernel, by decide +kernel⟩
theorem kV_X9_ears : KV yX9_ears cX9_ears 1 (some .int) 0 := ⟨m_630, m_631, m_87, m_632, by decide +kernel, by decide +kernel, by decide +kernel⟩
theorem kV_X9_held : KV yX9_held cX9_held 2 (some .int) 1 := ⟨m_930, m_931, m_87, m_932, by decide +kernel, by decide +kernel, by decide +kernel⟩
theorem kV_X9_reach : KV yX9_reach cX9_reach 1 (some .int) 0 := ⟨m_618, m_619, m_87, m_620, by decide +kernel, by decide +kernel, by decide +kernel⟩
theorem kV_X9_speed : KV yX9_speed cX9_speed 1 (some .int) 0 := ⟨m_624, m_625, m_87, m_626, by decide +kernel, by decide +kernel, by decide +kernel⟩
theorem stb_0 : ∀ j, j < 8 → 0 ≤ (([3, 12, 1, 6, 0, 6, 5, 10] : List Int32).getD j 0).toInt ∧ (([3, 12, 1, 6, 0, 6, 5, 10] : List Int32).getD j 0).toInt ≤ 12 := by decide +kernel
theorem stb_1 : ∀ j, j < 8 → 1 ≤ (([1, 1, 1, 1, 1, 1, 1, 2] : List Int32).getD j 0).toInt ∧ (([1, 1, 1, 1, 1, 1, 1, 2] : List Int32).getD j 0).toInt ≤ 2 := by decide +kernel
theorem stb_2 : ∀ j, j < 8 → 5 ≤ (([9, 9, 9, 9, 9, 9, 5, 9] : List Int32).getD j 0).toInt ∧ (([9, 9, 9, 9, 9, 9, 5, 9] : List Int32).getD j 0).toInt ≤ 9 := by decide +kernel
theorem inB6 : ∀ w ∈ u_ws RX6 TX6 3, w ∈ BASE := bmems (u_ws RX6 TX6 3) [452, 454, 456] (by decide +kernel) (by decide +kernel)
theorem inB9 : ∀ w ∈ u_ws RX9 TX9 11, w ∈ BASE := bmems (u_ws RX9 TX9 11) [286, 288, 290, 292, 294, 296, 298, 300, 302, 304, 306] (by decide +kernel) (by decide +kernel)
theorem fl_RX6_13 : FLK RX6 13 6 1 .int false := ⟨RX6, TX6, 3, tyX6, rfl, inB6, tyX6_ok, nmX6, by decide, rfl, rfl, Or.inl m_447⟩
theorem fl_RX6_16 : FLK RX6 16 6 2 (.array .int) true := ⟨RX6, TX6, 3, tyX6, rfl, inB6, tyX6_ok, nmX6, by decide, rfl, rfl, Or.inl m_450⟩
theorem fl_RX6_7 : FLK RX6 7 6 0 .int false := ⟨RX6, TX6, 3, tyX6, rfl, inB6, tyX6_ok, nmX6, by decide, rfl, rfl, Or.inl m_445⟩
theorem fl_RX9_13 : FLK RX9 13 9 1 .int false := ⟨RX9, TX9, 11, tyX9, rfl, inB9, tyX9_ok, nmX9, by decide, rfl, rfl, Or.inl m_260⟩
theorem fl_RX9_16 : FLK RX9 16 9 2 .int false := ⟨RX9, TX9, 11, tyX9, rfl, inB9, tyX9_ok, nmX9, by decide, rfl, rfl, Or.inl m_264⟩
theorem fl_RX9_19 : FLK RX9 19 9 3 .int false := ⟨RX9, TX9, 11, tyX9, rfl, inB9, tyX9_ok, nmX9, by decide, rfl, rfl, Or.inl m_267⟩
theorem fl_RX9_22 : FLK RX9 22 9 4 .int false := ⟨RX9, TX9, 11, tyX9, rfl, inB9, tyX9_ok, nmX9, by decide, rfl, rfl, Or.inl m_270⟩
theorem fl_RX9_25 : FLK RX9 25 9 5 .int false := ⟨RX9, TX9, 11, tyX9, rfl, inB9, tyX9_ok, nmX9, by decide, rfl, rfl, Or.inl m_272⟩
theorem fl_RX9_28 : FLK RX9 28 9 6 .boolean false := ⟨RX9, TX9, 11, tyX9, rfl, inB9, tyX9_ok, nmX9, by decide, rfl, rfl, Or.inl m_275⟩
theorem fl_RX9_32 : FLK RX9 32 9 7 .int false := ⟨RX9, TX9, 11, tyX9, rfl, inB9, tyX9_ok, nmX9, by decide, rfl, rfl, Or.inl m_278⟩
theorem fl_RX9_35 : FLK RX9 35 9 8 .int false := ⟨RX9, TX9, 11, tyX9, rfl, inB9, tyX9_ok, nmX9, by decide, rfl, rfl, Or.inl m_280⟩
theorem fl_RX9_40 : FLK RX9 40 9 9 (.array .int) true := ⟨RX9, TX9, 11, tyX9, rfl, inB9, tyX9_ok, nmX9, by decide, rfl, rfl, Or.inl m_282⟩
theorem fl_RX9_44 : FLK RX9 44 9 10 (.array .int) true := ⟨RX9, TX9, 11, tyX9, rfl, inB9, tyX9_ok, nmX9, by decide, rfl, rfl, Or.inl m_284⟩
theorem fl_RX9_7 : FLK RX9 7 9 0 .int false := ⟨RX9, TX9, 11, tyX9, rfl, inB9, tyX9_ok, nmX9, by decide, rfl, rfl, Or.inl m_258⟩
theorem ch_cX6_begin_0 : (cX6_begin.data.toList.drop 0).take 36 = [42, 27, 181, 0, 7, 42, 3, 16, 24, 28, 184, 0, 20, 184, 0, 26, 181, 0, 13, 3, 62, 29, 16, 24, 162, 0, 16, 42, 180, 0, 16, 29, 3, 79, 132, 3] := by decide +kernel
theorem dX6_begin_0 : decode cX6_begin 0 = .ok (.aload_n 0, 1) := do_42 (rdb (p := 0) (i := 0) ch_cX6_begin_0 rfl)
theorem dX6_begin_1 : decode cX6_begin 1 = .ok (.iload_n 1, 1) := do_27 (rdb (p := 0) (i := 1) ch_cX6_begin_0 rfl)
theorem dX6_begin_2 : decode cX6_begin 2 = .ok (.putfield 7, 3) := do_181 (rdb (p := 0) (i := 2) ch_cX6_begin_0 rfl) (rdb (p := 0) (i := 3) ch_cX6_begin_0 rfl) (rdb (p := 0) (i := 4) ch_cX6_begin_0 rfl) rfl
theorem dX6_begin_5 : decode cX6_begin 5 = .ok (.aload_n 0, 1) := do_42 (rdb (p := 0) (i := 5) ch_cX6_begin_0 rfl)
theorem dX6_begin_6 : decode cX6_begin 6 = .ok (.iconst 0, 1) := do_3 (rdb (p := 0) (i := 6) ch_cX6_begin_0 rfl)
theorem dX6_begin_7 : decode cX6_begin 7 = .ok (.bipush 24, 2) := do_16 (rdb (p := 0) (i := 7) ch_cX6_begin_0 rfl) (rdb (p := 0) (i := 8) ch_cX6_begin_0 rfl) (by decide +kernel)
theorem dX6_begin_9 : decode cX6_begin 9 = .ok (.iload_n 2, 1) := do_28 (rdb (p := 0) (i := 9) ch_cX6_begin_0 rfl)
theorem dX6_begin_10 : decode cX6_begin 10 = .ok (.invokestatic 20, 3) := do_184 (rdb (p := 0) (i := 10) ch_cX6_begin_0 rfl) (rdb (p := 0) (i := 11) ch_cX6_begin_0 rfl) (rdb (p := 0) (i := 12) ch_cX6_begin_0 rfl) rfl
theorem dX6_begin_13 : decode cX6_begin 13 = .ok (.invokestatic 26, 3) := do_184 (rdb (p := 0) (i := 13) ch_cX6_begin_0 rfl) (rdb (p := 0) (i := 14) ch_cX6_begin_0 rfl) (rdb (p := 0) (i := 15) ch_cX6_begin_0 rfl) rfl
theorem dX6_begin_16 : decode cX6_begin 16 = .ok (.putfield 13, 3) := do_181 (rdb (p := 0) (i := 16) ch_cX6_begin_0 rfl) (rdb (p := 0) (i := 17) ch_cX6_begin_0 rfl) (rdb (p := 0) (i := 18) ch_cX6_begin_0 rfl) rfl
theorem dX6_begin_19 : decode cX6_begin 19 = .ok (.iconst 0, 1) := do_3 (rdb (p := 0) (i := 19) ch_cX6_begin_0 rfl)
theorem dX6_begin_20 : decode cX6_begin 20 = .ok (.istore_n 3, 1) := do_62 (rdb (p := 0) (i := 20) ch_cX6_begin_0 rfl)
theorem dX6_begin_21 : decode cX6_begin 21 = .ok (.iload_n 3, 1) := do_29 (rdb (p := 0) (i := 21) ch_cX6_begin_0 rfl)
theorem dX6_begin_22 : decode cX6_begin 22 = .ok (.bipush 24, 2) := do_16 (rdb (p := 0) (i := 22) ch_cX6_begin_0 rfl) (rdb (p := 0) (i := 23) ch_cX6_begin_0 rfl) (by decide +kernel)
theorem dX6_begin_24 : decode cX6_begin 24 = .ok (.if_icmp .ge 16, 3) := do_162 (rdb (p := 0) (i := 24) ch_cX6_begin_0 rfl) (rdb (p := 0) (i := 25) ch_cX6_begin_0 rfl) (rdb (p := 0) (i := 26) ch_cX6_begin_0 rfl) (by decide +kernel)
theorem dX6_begin_27 : decode cX6_begin 27 = .ok (.aload_n 0, 1) := do_42 (rdb (p := 0) (i := 27) ch_cX6_begin_0 rfl)
theorem dX6_begin_28 : decode cX6_begin 28 = .ok (.getfield 16, 3) := do_180 (rdb (p := 0) (i := 28) ch_cX6_begin_0 rfl) (rdb (p := 0) (i := 29) ch_cX6_begin_0 rfl) (rdb (p := 0) (i := 30) ch_cX6_begin_0 rfl) rfl
theorem dX6_begin_31 : decode cX6_begin 31 = .ok (.iload_n 3, 1) := do_29 (rdb (p := 0) (i := 31) ch_cX6_begin_0 rfl)
theorem ch_cX6_begin_32 : (cX6_begin.data.toList.drop 32).take 36 = [3, 79, 132, 3, 1, 167, 255, 240, 177] := by decide +kernel
theorem dX6_begin_32 : decode cX6_begin 32 = .ok (.iconst 0, 1) := do_3 (rdb (p := 32) (i := 0) ch_cX6_begin_32 rfl)
theorem dX6_begin_33 : decode cX6_begin 33 = .ok (.iastore, 1) := do_79 (rdb (p := 32) (i := 1) ch_cX6_begin_32 rfl)
theorem dX6_begin_34 : decode cX6_begin 34 = .ok (.iinc 3 1, 3) := do_132 (rdb (p := 32) (i := 2) ch_cX6_begin_32 rfl) (rdb (p := 32) (i := 3) ch_cX6_begin_32 rfl) (rdb (p := 32) (i := 4) ch_cX6_begin_32 rfl) (by decide +kernel)
theorem dX6_begin_37 : decode cX6_begin 37 = .ok (.goto (-16), 3) := do_167 (rdb (p := 32) (i := 5) ch_cX6_begin_32 rfl) (rdb (p := 32) (i := 6) ch_cX6_begin_32 rfl) (rdb (p := 32) (i := 7) ch_cX6_begin_32 rfl) (by decide +kernel)
theorem dX6_begin_40 : decode cX6_begin 40 = .ok (.return_, 1) := do_177 (rdb (p := 32) (i := 8) ch_cX6_begin_32 rfl)
theorem dX6_drop_0 : decode cX6_drop 0 = .ok (.aload_n 0, 1) := by decide +kernel
theorem dX6_drop_1 : decode cX6_drop 1 = .ok (.iconst 0, 1) := by decide +kernel
theorem dX6_drop_2 : decode cX6_drop 2 = .ok (.putfield 7, 3) := by decide +kernel
theorem dX6_drop_5 : decode cX6_drop 5 = .ok (.aload_n 0, 1) := by decide +kernel
theorem dX6_drop_6 : decode cX6_drop 6 = .ok (.iconst 0, 1) := by decide +kernel
theorem dX6_drop_7 : decode cX6_drop 7 = .ok (.putfield 13, 3) := by decide +kernel
theorem dX6_drop_10 : decode cX6_drop 10 = .ok (.return_, 1) := by decide +kernel
theorem dX6_has_0 : decode cX6_has 0 = .ok (.iload_n 1, 1) := by decide +kernel
theorem dX6_has_1 : decode cX6_has 1 = .ok (.ifCond .lt 21, 3) := by decide +kernel
theorem dX6_has_4 : decode cX6_has 4 = .ok (.iload_n 1, 1) := by decide +kernel
theorem dX6_has_5 : decode cX6_has 5 = .ok (.aload_n 0, 1) := by decide +kernel
theorem dX6_has_6 : decode cX6_has 6 = .ok (.getfield 13, 3) := by decide +kernel
theorem dX6_has_9 : decode cX6_has 9 = .ok (.if_icmp .ge 13, 3) := by decide +kernel
theorem dX6_has_12 : decode cX6_has 12 = .ok (.iload_n 1, 1) := by decide +kernel
theorem dX6_has_13 : decode cX6_has 13 = .ok (.bipush 24, 2) := by decide +kernel
theorem dX6_has_15 : decode cX6_has 15 = .ok (.if_icmp .ge 7, 3) := by decide +kernel
theorem dX6_has_18 : decode cX6_has 18 = .ok (.iconst 1, 1) := by decide +kernel
theorem dX6_has_19 : decode cX6_has 19 = .ok (.goto 4, 3) := by decide +kernel
theorem dX6_has_22 : decode cX6_has 22 = .ok (.iconst 0, 1) := by decide +kernel
theorem dX6_has_23 : decode cX6_has 23 = .ok (.ireturn, 1) := by decide +kernel
theorem dX6_hasRun_0 : decode cX6_hasRun 0 = .ok (.iload_n 1, 1) := by decide +kernel
theorem dX6_hasRun_1 : decode cX6_hasRun 1 = .ok (.ifCond .lt 29, 3) := by decide +kernel
theorem dX6_hasRun_4 : decode cX6_hasRun 4 = .ok (.iload_n 2, 1) := by decide +kernel
theorem dX6_hasRun_5 : decode cX6_hasRun 5 = .ok (.ifCond .lt 25, 3) := by decide +kernel
theorem dX6_hasRun_8 : decode cX6_hasRun 8 = .ok (.iload_n 1, 1) := by decide +kernel
theorem dX6_hasRun_9 : decode cX6_hasRun 9 = .ok (.aload_n 0, 1) := by decide +kernel
theorem dX6_hasRun_10 : decode cX6_hasRun 10 = .ok (.getfield 13, 3) := by decide +kernel
theorem dX6_hasRun_13 : decode cX6_hasRun 13 = .ok (.if_icmp .gt 17, 3) := by decide +kernel
theorem dX6_hasRun_16 : decode cX6_hasRun 16 = .ok (.iload_n 2, 1) := by decide +kernel
theorem dX6_hasRun_17 : decode cX6_hasRun 17 = .ok (.aload_n 0, 1) := by decide +kernel
theorem dX6_hasRun_18 : decode cX6_hasRun 18 = .ok (.getfield 13, 3) := by decide +kernel
theorem dX6_hasRun_21 : decode cX6_hasRun 21 = .ok (.iload_n 1, 1) := by decide +kernel
theorem dX6_hasRun_22 : decode cX6_hasRun 22 = .ok (.isub, 1) := by decide +kernel
theorem dX6_hasRun_23 : decode cX6_hasRun 23 = .ok (.if_icmp .gt 7, 3) := by decide +kernel
theorem dX6_hasRun_26 : decode cX6_hasRun 26 = .ok (.iconst 1, 1) := by decide +kernel
theorem dX6_hasRun_27 : decode cX6_hasRun 27 = .ok (.goto 4, 3) := by decide +kernel
theorem dX6_hasRun_30 : decode cX6_hasRun 30 = .ok (.iconst 0, 1) := by decide +kernel
theorem dX6_hasRun_31 : decode cX6_hasRun 31 = .ok (.ireturn, 1) := by decide +kernel
theorem ch_cX6_hasTwoAlike_0 : (cX6_hasTwoAlike.data.toList.drop 0).take 36 = [4, 60, 27, 42, 180, 0, 13, 162, 0, 37, 3, 61, 28, 27, 162, 0, 24, 42, 27, 182, 0, 33, 42, 28, 182, 0, 33, 160, 0, 5, 4, 172, 132, 2, 1, 167] := by decide +kernel
theorem dX6_hasTwoAlike_0 : decode cX6_hasTwoAlike 0 = .ok (.iconst 1, 1) := do_4 (rdb (p := 0) (i := 0) ch_cX6_hasTwoAlike_0 rfl)
theorem dX6_hasTwoAlike_1 : decode cX6_hasTwoAlike 1 = .ok (.istore_n 1, 1) := do_60 (rdb (p := 0) (i := 1) ch_cX6_hasTwoAlike_0 rfl)
theorem dX6_hasTwoAlike_2 : decode cX6_hasTwoAlike 2 = .ok (.iload_n 1, 1) := do_27 (rdb (p := 0) (i := 2) ch_cX6_hasTwoAlike_0 rfl)
theorem dX6_hasTwoAlike_3 : decode cX6_hasTwoAlike 3 = .ok (.aload_n 0, 1) := do_42 (rdb (p := 0) (i := 3) ch_cX6_hasTwoAlike_0 rfl)
theorem dX6_hasTwoAlike_4 : decode cX6_hasTwoAlike 4 = .ok (.getfield 13, 3) := do_180 (rdb (p := 0) (i := 4) ch_cX6_hasTwoAlike_0 rfl) (rdb (p := 0) (i := 5) ch_cX6_hasTwoAlike_0 rfl) (rdb (p := 0) (i := 6) ch_cX6_hasTwoAlike_0 rfl) rfl
theorem dX6_hasTwoAlike_7 : decode cX6_hasTwoAlike 7 = .ok (.if_icmp .ge 37, 3) := do_162 (rdb (p := 0) (i := 7) ch_cX6_hasTwoAlike_0 rfl) (rdb (p := 0) (i := 8) ch_cX6_hasTwoAlike_0 rfl) (rdb (p := 0) (i := 9) ch_cX6_hasTwoAlike_0 rfl) (by decide +kernel)
theorem dX6_hasTwoAlike_10 : decode cX6_hasTwoAlike 10 = .ok (.iconst 0, 1) := do_3 (rdb (p := 0) (i := 10) ch_cX6_hasTwoAlike_0 rfl)
theorem dX6_hasTwoAlike_11 : decode cX6_hasTwoAlike 11 = .ok (.istore_n 2, 1) := do_61 (rdb (p := 0) (i := 11) ch_cX6_hasTwoAlike_0 rfl)
theorem dX6_hasTwoAlike_12 : decode cX6_hasTwoAlike 12 = .ok (.iload_n 2, 1) := do_28 (rdb (p := 0) (i := 12) ch_cX6_hasTwoAlike_0 rfl)
theorem dX6_hasTwoAlike_13 : decode cX6_hasTwoAlike 13 = .ok (.iload_n 1, 1) := do_27 (rdb (p := 0) (i := 13) ch_cX6_hasTwoAlike_0 rfl)
theorem dX6_hasTwoAlike_14 : decode cX6_hasTwoAlike 14 = .ok (.if_icmp .ge 24, 3) := do_162 (rdb (p := 0) (i := 14) ch_cX6_hasTwoAlike_0 rfl) (rdb (p := 0) (i := 15) ch_cX6_hasTwoAlike_0 rfl) (rdb (p := 0) (i := 16) ch_cX6_hasTwoAlike_0 rfl) (by decide +kernel)
theorem dX6_hasTwoAlike_17 : decode cX6_hasTwoAlike 17 = .ok (.aload_n 0, 1) := do_42 (rdb (p := 0) (i := 17) ch_cX6_hasTwoAlike_0 rfl)
theorem dX6_hasTwoAlike_18 : decode cX6_hasTwoAlike 18 = .ok (.iload_n 1, 1) := do_27 (rdb (p := 0) (i := 18) ch_cX6_hasTwoAlike_0 rfl)
theorem dX6_hasTwoAlike_19 : decode cX6_hasTwoAlike 19 = .ok (.invokevirtual 33, 3) := do_182 (rdb (p := 0) (i := 19) ch_cX6_hasTwoAlike_0 rfl) (rdb (p := 0) (i := 20) ch_cX6_hasTwoAlike_0 rfl) (rdb (p := 0) (i := 21) ch_cX6_hasTwoAlike_0 rfl) rfl
theorem dX6_hasTwoAlike_22 : decode cX6_hasTwoAlike 22 = .ok (.aload_n 0, 1) := do_42 (rdb (p := 0) (i := 22) ch_cX6_hasTwoAlike_0 rfl)
theorem dX6_hasTwoAlike_23 : decode cX6_hasTwoAlike 23 = .ok (.iload_n 2, 1) := do_28 (rdb (p := 0) (i := 23) ch_cX6_hasTwoAlike_0 rfl)
theorem dX6_hasTwoAlike_24 : decode cX6_hasTwoAlike 24 = .ok (.invokevirtual 33, 3) := do_182 (rdb (p := 0) (i := 24) ch_cX6_hasTwoAlike_0 rfl) (rdb (p := 0) (i := 25) ch_cX6_hasTwoAlike_0 rfl) (rdb (p := 0) (i := 26) ch_cX6_hasTwoAlike_0 rfl) rfl
theorem dX6_hasTwoAlike_27 : decode cX6_hasTwoAlike 27 = .ok (.if_icmp .ne 5, 3) := do_160 (rdb (p := 0) (i := 27) ch_cX6_hasTwoAlike_0 rfl) (rdb (p := 0) (i := 28) ch_cX6_hasTwoAlike_0 rfl) (rdb (p := 0) (i := 29) ch_cX6_hasTwoAlike_0 rfl) (by decide +kernel)
theorem dX6_hasTwoAlike_30 : decode cX6_hasTwoAlike 30 = .ok (.iconst 1, 1) := do_4 (rdb (p := 0) (i := 30) ch_cX6_hasTwoAlike_0 rfl)
theorem dX6_hasTwoAlike_31 : decode cX6_hasTwoAlike 31 = .ok (.ireturn, 1) := do_172 (rdb (p := 0) (i := 31) ch_cX6_hasTwoAlike_0 rfl)
theorem ch_cX6_hasTwoAlike_32 : (cX6_hasTwoAlike.data.toList.drop 32).take 36 = [132, 2, 1, 167, 255, 233, 132, 1, 1, 167, 255, 217, 3, 172] := by decide +kernel
theorem dX6_hasTwoAlike_32 : decode cX6_hasTwoAlike 32 = .ok (.iinc 2 1, 3) := do_132 (rdb (p := 32) (i := 0) ch_cX6_hasTwoAlike_32 rfl) (rdb (p := 32) (i := 1) ch_cX6_hasTwoAlike_32 rfl) (rdb (p := 32) (i := 2) ch_cX6_hasTwoAlike_32 rfl) (by decide +kernel)
theorem dX6_hasTwoAlike_35 : decode cX6_hasTwoAlike 35 = .ok (.goto (-23), 3) := do_167 (rdb (p := 32) (i := 3) ch_cX6_hasTwoAlike_32 rfl) (rdb (p := 32) (i := 4) ch_cX6_hasTwoAlike_32 rfl) (rdb (p := 32) (i := 5) ch_cX6_hasTwoAlike_32 rfl) (by decide +kernel)
theorem dX6_hasTwoAlike_38 : decode cX6_hasTwoAlike 38 = .ok (.iinc 1 1, 3) := do_132 (rdb (p := 32) (i := 6) ch_cX6_hasTwoAlike_32 rfl) (rdb (p := 32) (i := 7) ch_cX6_hasTwoAlike_32 rfl) (rdb (p := 32) (i := 8) ch_cX6_hasTwoAlike_32 rfl) (by decide +kernel)
theorem dX6_hasTwoAlike_41 : decode cX6_hasTwoAlike 41 = .ok (.goto (-39), 3) := do_167 (rdb (p := 32) (i := 9) ch_cX6_hasTwoAlike_32 rfl) (rdb (p := 32) (i := 10) ch_cX6_hasTwoAlike_32 rfl) (rdb (p := 32) (i := 11) ch_cX6_hasTwoAlike_32 rfl) (by decide +kernel)
theorem dX6_hasTwoAlike_44 : decode cX6_hasTwoAlike 44 = .ok (.iconst 0, 1) := do_3 (rdb (p := 32) (i := 12) ch_cX6_hasTwoAlike_32 rfl)
theorem dX6_hasTwoAlike_45 : decode cX6_hasTwoAlike 45 = .ok (.ireturn, 1) := do_172 (rdb (p := 32) (i := 13) ch_cX6_hasTwoAlike_32 rfl)
theorem ch_cX6_holdsFewCells_0 : (cX6_holdsFewCells.data.toList.drop 0).take 36 = [42, 180, 0, 13, 4, 161, 0, 12, 42, 180, 0, 13, 16, 8, 164, 0, 5, 3, 172, 3, 60, 27, 42, 180, 0, 13, 162, 0, 22, 42, 27, 182, 0, 33, 184, 0] := by decide +kernel
theorem dX6_holdsFewCells_0 : decode cX6_holdsFewCells 0 = .ok (.aload_n 0, 1) := do_42 (rdb (p := 0) (i := 0) ch_cX6_holdsFewCells_0 rfl)
theorem dX6_holdsFewCells_1 : decode cX6_holdsFewCells 1 = .ok (.getfield 13, 3) := do_180 (rdb (p := 0) (i := 1) ch_cX6_holdsFewCells_0 rfl) (rdb (p := 0) (i := 2) ch_cX6_holdsFewCells_0 rfl) (rdb (p := 0) (i := 3) ch_cX6_holdsFewCells_0 rfl) rfl
theorem dX6_holdsFewCells_4 : decode cX6_holdsFewCells 4 = .ok (.iconst 1, 1) := do_4 (rdb (p := 0) (i := 4) ch_cX6_holdsFewCells_0 rfl)
theorem dX6_holdsFewCells_5 : decode cX6_holdsFewCells 5 = .ok (.if_icmp .lt 12, 3) := do_161 (rdb (p := 0) (i := 5) ch_cX6_holdsFewCells_0 rfl) (rdb (p := 0) (i := 6) ch_cX6_holdsFewCells_0 rfl) (rdb (p := 0) (i := 7) ch_cX6_holdsFewCells_0 rfl) (by decide +kernel)
theorem dX6_holdsFewCells_8 : decode cX6_holdsFewCells 8 = .ok (.aload_n 0, 1) := do_42 (rdb (p := 0) (i := 8) ch_cX6_holdsFewCells_0 rfl)
theorem dX6_holdsFewCells_9 : decode cX6_holdsFewCells 9 = .ok (.getfield 13, 3) := do_180 (rdb (p := 0) (i := 9) ch_cX6_holdsFewCells_0 rfl) (rdb (p := 0) (i := 10) ch_cX6_holdsFewCells_0 rfl) (rdb (p := 0) (i := 11) ch_cX6_holdsFewCells_0 rfl) rfl
theorem dX6_holdsFewCells_12 : decode cX6_holdsFewCells 12 = .ok (.bipush 8, 2) := do_16 (rdb (p := 0) (i := 12) ch_cX6_holdsFewCells_0 rfl) (rdb (p := 0) (i := 13) ch_cX6_holdsFewCells_0 rfl) (by decide +kernel)
theorem dX6_holdsFewCells_14 : decode cX6_holdsFewCells 14 = .ok (.if_icmp .le 5, 3) := do_164 (rdb (p := 0) (i := 14) ch_cX6_holdsFewCells_0 rfl) (rdb (p := 0) (i := 15) ch_cX6_holdsFewCells_0 rfl) (rdb (p := 0) (i := 16) ch_cX6_holdsFewCells_0 rfl) (by decide +kernel)
theorem dX6_holdsFewCells_17 : decode cX6_holdsFewCells 17 = .ok (.iconst 0, 1) := do_3 (rdb (p := 0) (i := 17) ch_cX6_holdsFewCells_0 rfl)
theorem dX6_holdsFewCells_18 : decode cX6_holdsFewCells 18 = .ok (.ireturn, 1) := do_172 (rdb (p := 0) (i := 18) ch_cX6_holdsFewCells_0 rfl)
theorem dX6_holdsFewCells_19 : decode cX6_holdsFewCells 19 = .ok (.iconst 0, 1) := do_3 (rdb (p := 0) (i := 19) ch_cX6_holdsFewCells_0 rfl)
theorem dX6_holdsFewCells_20 : decode cX6_holdsFewCells 20 = .ok (.istore_n 1, 1) := do_60 (rdb (p := 0) (i := 20) ch_cX6_holdsFewCells_0 rfl)
theorem dX6_holdsFewCells_21 : decode cX6_holdsFewCells 21 = .ok (.iload_n 1, 1) := do_27 (rdb (p := 0) (i := 21) ch_cX6_holdsFewCells_0 rfl)
theorem dX6_holdsFewCells_22 : decode cX6_holdsFewCells 22 = .ok (.aload_n 0, 1) := do_42 (rdb (p := 0) (i := 22) ch_cX6_holdsFewCells_0 rfl)
theorem dX6_holdsFewCells_23 : decode cX6_holdsFewCells 23 = .ok (.getfield 13, 3) := do_180 (rdb (p := 0) (i := 23) ch_cX6_holdsFewCells_0 rfl) (rdb (p := 0) (i := 24) ch_cX6_holdsFewCells_0 rfl) (rdb (p := 0) (i := 25) ch_cX6_holdsFewCells_0 rfl) rfl
theorem dX6_holdsFewCells_26 : decode cX6_holdsFewCells 26 = .ok (.if_icmp .ge 22, 3) := do_162 (rdb (p := 0) (i := 26) ch_cX6_holdsFewCells_0 rfl) (rdb (p := 0) (i := 27) ch_cX6_holdsFewCells_0 rfl) (rdb (p := 0) (i := 28) ch_cX6_holdsFewCells_0 rfl) (by decide +kernel)
theorem dX6_holdsFewCells_29 : decode cX6_holdsFewCells 29 = .ok (.aload_n 0, 1) := do_42 (rdb (p := 0) (i := 29) ch_cX6_holdsFewCells_0 rfl)
theorem dX6_holdsFewCells_30 : decode cX6_holdsFewCells 30 = .ok (.iload_n 1, 1) := do_27 (rdb (p := 0) (i := 30) ch_cX6_holdsFewCells_0 rfl)
theorem dX6_holdsFewCells_31 : decode cX6_holdsFewCells 31 = .ok (.invokevirtual 33, 3) := do_182 (rdb (p := 0) (i := 31) ch_cX6_holdsFewCells_0 rfl) (rdb (p := 0) (i := 32) ch_cX6_holdsFewCells_0 rfl) (rdb (p := 0) (i := 33) ch_cX6_holdsFewCells_0 rfl) rfl
theorem ch_cX6_holdsFewCells_32 : (cX6_holdsFewCells.data.toList.drop 32).take 36 = [0, 33, 184, 0, 37, 154, 0, 5, 3, 172, 132, 1, 1, 167, 255, 232, 4, 172] := by decide +kernel
theorem dX6_holdsFewCells_34 : decode cX6_holdsFewCells 34 = .ok (.invokestatic 37, 3) := do_184 (rdb (p := 32) (i := 2) ch_cX6_holdsFewCells_32 rfl) (rdb (p := 32) (i := 3) ch_cX6_holdsFewCells_32 rfl) (rdb (p := 32) (i := 4) ch_cX6_holdsFewCells_32 rfl) rfl
theorem dX6_holdsFewCells_37 : decode cX6_holdsFewCells 37 = .ok (.ifCond .ne 5, 3) := do_154 (rdb (p := 32) (i := 5) ch_cX6_holdsFewCells_32 rfl) (rdb (p := 32) (i := 6) ch_cX6_holdsFewCells_32 rfl) (rdb (p := 32) (i := 7) ch_cX6_holdsFewCells_32 rfl) (by decide +kernel)
theorem dX6_holdsFewCells_40 : decode cX6_holdsFewCells 40 = .ok (.iconst 0, 1) := do_3 (rdb (p := 32) (i := 8) ch_cX6_holdsFewCells_32 rfl)
theorem dX6_holdsFewCells_41 : decode cX6_holdsFewCells 41 = .ok (.ireturn, 1) := do_172 (rdb (p := 32) (i := 9) ch_cX6_holdsFewCells_32 rfl)
theorem dX6_holdsFewCells_42 : decode cX6_holdsFewCells 42 = .ok (.iinc 1 1, 3) := do_132 (rdb (p := 32) (i := 10) ch_cX6_holdsFewCells_32 rfl) (rdb (p := 32) (i := 11) ch_cX6_holdsFewCells_32 rfl) (rdb (p := 32) (i := 12) ch_cX6_holdsFewCells_32 rfl) (by decide +kernel)
theorem dX6_holdsFewCells_45 : decode cX6_holdsFewCells 45 = .ok (.goto (-24), 3) := do_167 (rdb (p := 32) (i := 13) ch_cX6_holdsFewCells_32 rfl) (rdb (p := 32) (i := 14) ch_cX6_holdsFewCells_32 rfl) (rdb (p := 32) (i := 15) ch_cX6_holdsFewCells_32 rfl) (by decide +kernel)
theorem dX6_holdsFewCells_48 : decode cX6_holdsFewCells 48 = .ok (.iconst 1, 1) := do_4 (rdb (p := 32) (i := 16) ch_cX6_holdsFewCells_32 rfl)
theorem dX6_holdsFewCells_49 : decode cX6_holdsFewCells 49 = .ok (.ireturn, 1) := do_172 (rdb (p := 32) (i := 17) ch_cX6_holdsFewCells_32 rfl)
theorem dX6_isMissing_0 : decode cX6_isMissing 0 = .ok (.aload_n 0, 1) := by decide +kernel
theorem dX6_isMissing_1 : decode cX6_isMissing 1 = .ok (.getfield 7, 3) := by decide +kernel
theorem dX6_isMissing_4 : decode cX6_isMissing 4 = .ok (.ifCond .ne 7, 3) := by decide +kernel
theorem dX6_isMissing_7 : decode cX6_isMissing 7 = .ok (.iconst 1, 1) := by decide +kernel
theorem dX6_isMissing_8 : decode cX6_isMissing 8 = .ok (.goto 4, 3) := by decide +kernel
theorem dX6_isMissing_11 : decode cX6_isMissing 11 = .ok (.iconst 0, 1) := by decide +kernel
theorem dX6_isMissing_12 : decode cX6_isMissing 12 = .ok (.ireturn, 1) := by decide +kernel
theorem dX6_numberAt_0 : decode cX6_numberAt 0 = .ok (.aload_n 0, 1) := by decide +kernel
theorem dX6_numberAt_1 : decode cX6_numberAt 1 = .ok (.iload_n 1, 1) := by decide +kernel
theorem dX6_numberAt_2 : decode cX6_numberAt 2 = .ok (.invokevirtual 29, 3) := by decide +kernel
theorem dX6_numberAt_5 : decode cX6_numberAt 5 = .ok (.ifCond .eq 12, 3) := by decide +kernel
theorem dX6_numberAt_8 : decode cX6_numberAt 8 = .ok (.aload_n 0, 1) := by decide +kernel
theorem dX6_numberAt_9 : decode cX6_numberAt 9 = .ok (.getfield 16, 3) := by decide +kernel
theorem dX6_numberAt_12 : decode cX6_numberAt 12 = .ok (.iload_n 1, 1) := by decide +kernel
theorem dX6_numberAt_13 : decode cX6_numberAt 13 = .ok (.iaload, 1) := by decide +kernel
theorem dX6_numberAt_14 : decode cX6_numberAt 14 = .ok (.goto 4, 3) := by decide +kernel
theorem dX6_numberAt_17 : decode cX6_numberAt 17 = .ok (.iconst 0, 1) := by decide +kernel
theorem dX6_numberAt_18 : decode cX6_numberAt 18 = .ok (.ireturn, 1) := by decide +kernel
theorem ch_cX6_store_0 : (cX6_store.data.toList.drop 0).take 36 = [42, 27, 182, 0, 29, 153, 0, 38, 42, 180, 0, 16, 27, 42, 180, 0, 7, 16, 8, 160, 0, 8, 28, 145, 167, 0, 18, 42, 180, 0, 7, 16, 16, 160, 0, 8] := by decide +kernel
theorem dX6_store_0 : decode cX6_store 0 = .ok (.aload_n 0, 1) := do_42 (rdb (p := 0) (i := 0) ch_cX6_store_0 rfl)
theorem dX6_store_1 : decode cX6_store 1 = .ok (.iload_n 1, 1) := do_27 (rdb (p := 0) (i := 1) ch_cX6_store_0 rfl)
theorem dX6_store_2 : decode cX6_store 2 = .ok (.invokevirtual 29, 3) := do_182 (rdb (p := 0) (i := 2) ch_cX6_store_0 rfl) (rdb (p := 0) (i := 3) ch_cX6_store_0 rfl) (rdb (p := 0) (i := 4) ch_cX6_store_0 rfl) rfl
theorem dX6_store_5 : decode cX6_store 5 = .ok (.ifCond .eq 38, 3) := do_153 (rdb (p := 0) (i := 5) ch_cX6_store_0 rfl) (rdb (p := 0) (i := 6) ch_cX6_store_0 rfl) (rdb (p := 0) (i := 7) ch_cX6_store_0 rfl) (by decide +kernel)
theorem dX6_store_8 : decode cX6_store 8 = .ok (.aload_n 0, 1) := do_42 (rdb (p := 0) (i := 8) ch_cX6_store_0 rfl)
theorem dX6_store_9 : decode cX6_store 9 = .ok (.getfield 16, 3) := do_180 (rdb (p := 0) (i := 9) ch_cX6_store_0 rfl) (rdb (p := 0) (i := 10) ch_cX6_store_0 rfl) (rdb (p := 0) (i := 11) ch_cX6_store_0 rfl) rfl
theorem dX6_store_12 : decode cX6_store 12 = .ok (.iload_n 1, 1) := do_27 (rdb (p := 0) (i := 12) ch_cX6_store_0 rfl)
theorem dX6_store_13 : decode cX6_store 13 = .ok (.aload_n 0, 1) := do_42 (rdb (p := 0) (i := 13) ch_cX6_store_0 rfl)
theorem dX6_store_14 : decode cX6_store 14 = .ok (.getfield 7, 3) := do_180 (rdb (p := 0) (i := 14) ch_cX6_store_0 rfl) (rdb (p := 0) (i := 15) ch_cX6_store_0 rfl) (rdb (p := 0) (i := 16) ch_cX6_store_0 rfl) rfl
theorem dX6_store_17 : decode cX6_store 17 = .ok (.bipush 8, 2) := do_16 (rdb (p := 0) (i := 17) ch_cX6_store_0 rfl) (rdb (p := 0) (i := 18) ch_cX6_store_0 rfl) (by decide +kernel)
theorem dX6_store_19 : decode cX6_store 19 = .ok (.if_icmp .ne 8, 3) := do_160 (rdb (p := 0) (i := 19) ch_cX6_store_0 rfl) (rdb (p := 0) (i := 20) ch_cX6_store_0 rfl) (rdb (p := 0) (i := 21) ch_cX6_store_0 rfl) (by decide +kernel)
theorem dX6_store_22 : decode cX6_store 22 = .ok (.iload_n 2, 1) := do_28 (rdb (p := 0) (i := 22) ch_cX6_store_0 rfl)
theorem dX6_store_23 : decode cX6_store 23 = .ok (.i2b, 1) := do_145 (rdb (p := 0) (i := 23) ch_cX6_store_0 rfl)
theorem dX6_store_24 : decode cX6_store 24 = .ok (.goto 18, 3) := do_167 (rdb (p := 0) (i := 24) ch_cX6_store_0 rfl) (rdb (p := 0) (i := 25) ch_cX6_store_0 rfl) (rdb (p := 0) (i := 26) ch_cX6_store_0 rfl) (by decide +kernel)
theorem dX6_store_27 : decode cX6_store 27 = .ok (.aload_n 0, 1) := do_42 (rdb (p := 0) (i := 27) ch_cX6_store_0 rfl)
theorem dX6_store_28 : decode cX6_store 28 = .ok (.getfield 7, 3) := do_180 (rdb (p := 0) (i := 28) ch_cX6_store_0 rfl) (rdb (p := 0) (i := 29) ch_cX6_store_0 rfl) (rdb (p := 0) (i := 30) ch_cX6_store_0 rfl) rfl
theorem dX6_store_31 : decode cX6_store 31 = .ok (.bipush 16, 2) := do_16 (rdb (p := 0) (i := 31) ch_cX6_store_0 rfl) (rdb (p := 0) (i := 32) ch_cX6_store_0 rfl) (by decide +kernel)
theorem ch_cX6_store_32 : (cX6_store.data.toList.drop 32).take 36 = [16, 160, 0, 8, 28, 147, 167, 0, 4, 28, 79, 177] := by decide +kernel
theorem dX6_store_33 : decode cX6_store 33 = .ok (.if_icmp .ne 8, 3) := do_160 (rdb (p := 32) (i := 1) ch_cX6_store_32 rfl) (rdb (p := 32) (i := 2) ch_cX6_store_32 rfl) (rdb (p := 32) (i := 3) ch_cX6_store_32 rfl) (by decide +kernel)
theorem dX6_store_36 : decode cX6_store 36 = .ok (.iload_n 2, 1) := do_28 (rdb (p := 32) (i := 4) ch_cX6_store_32 rfl)
theorem dX6_store_37 : decode cX6_store 37 = .ok (.i2s, 1) := do_147 (rdb (p := 32) (i := 5) ch_cX6_store_32 rfl)
theorem dX6_store_38 : decode cX6_store 38 = .ok (.goto 4, 3) := do_167 (rdb (p := 32) (i := 6) ch_cX6_store_32 rfl) (rdb (p := 32) (i := 7) ch_cX6_store_32 rfl) (rdb (p := 32) (i := 8) ch_cX6_store_32 rfl) (by decide +kernel)
theorem dX6_store_41 : decode cX6_store 41 = .ok (.iload_n 2, 1) := do_28 (rdb (p := 32) (i := 9) ch_cX6_store_32 rfl)
theorem dX6_store_42 : decode cX6_store 42 = .ok (.iastore, 1) := do_79 (rdb (p := 32) (i := 10) ch_cX6_store_32 rfl)
theorem dX6_store_43 : decode cX6_store 43 = .ok (.return_, 1) := do_177 (rdb (p := 32) (i := 11) ch_cX6_store_32 rfl)
theorem dX9_addNo_0 : decode cX9_addNo 0 = .ok (.iload_n 1, 1) := by decide +kernel
theorem dX9_addNo_1 : decode cX9_addNo 1 = .ok (.invokestatic 73, 3) := by decide +kernel
theorem dX9_addNo_4 : decode cX9_addNo 4 = .ok (.ifCond .eq 22, 3) := by decide +kernel
theorem dX9_addNo_7 : decode cX9_addNo 7 = .ok (.aload_n 0, 1) := by decide +kernel
theorem dX9_addNo_8 : decode cX9_addNo 8 = .ok (.getfield 44, 3) := by decide +kernel
theorem dX9_addNo_11 : decode cX9_addNo 11 = .ok (.iload_n 1, 1) := by decide +kernel
theorem dX9_addNo_12 : decode cX9_addNo 12 = .ok (.bipush 99, 2) := by decide +kernel
theorem dX9_addNo_14 : decode cX9_addNo 14 = .ok (.aload_n 0, 1) := by decide +kernel
theorem dX9_addNo_15 : decode cX9_addNo 15 = .ok (.getfield 44, 3) := by decide +kernel
theorem dX9_addNo_18 : decode cX9_addNo 18 = .ok (.iload_n 1, 1) := by decide +kernel
theorem dX9_addNo_19 : decode cX9_addNo 19 = .ok (.iaload, 1) := by decide +kernel
theorem dX9_addNo_20 : decode cX9_addNo 20 = .ok (.iconst 1, 1) := by decide +kernel
theorem dX9_addNo_21 : decode cX9_addNo 21 = .ok (.iadd, 1) := by decide +kernel
theorem dX9_addNo_22 : decode cX9_addNo 22 = .ok (.invokestatic 77, 3) := by decide +kernel
theorem dX9_addNo_25 : decode cX9_addNo 25 = .ok (.iastore, 1) := by decide +kernel
theorem dX9_addNo_26 : decode cX9_addNo 26 = .ok (.return_, 1) := by decide +kernel
theorem dX9_addYes_0 : decode cX9_addYes 0 = .ok (.iload_n 1, 1) := by decide +kernel
theorem dX9_addYes_1 : decode cX9_addYes 1 = .ok (.invokestatic 73, 3) := by decide +kernel
theorem dX9_addYes_4 : decode cX9_addYes 4 = .ok (.ifCond .eq 22, 3) := by decide +kernel
theorem dX9_addYes_7 : decode cX9_addYes 7 = .ok (.aload_n 0, 1) := by decide +kernel
theorem dX9_addYes_8 : decode cX9_addYes 8 = .ok (.getfield 40, 3) := by decide +kernel
theorem dX9_addYes_11 : decode cX9_addYes 11 = .ok (.iload_n 1, 1) := by decide +kernel
theorem dX9_addYes_12 : decode cX9_addYes 12 = .ok (.bipush 99, 2) := by decide +kernel
theorem dX9_addYes_14 : decode cX9_addYes 14 = .ok (.aload_n 0, 1) := by decide +kernel
theorem dX9_addYes_15 : decode cX9_addYes 15 = .ok (.getfield 40, 3) := by decide +kernel
theorem dX9_addYes_18 : decode cX9_addYes 18 = .ok (.iload_n 1, 1) := by decide +kernel
theorem dX9_addYes_19 : decode cX9_addYes 19 = .ok (.iaload, 1) := by decide +kernel
theorem dX9_addYes_20 : decode cX9_addYes 20 = .ok (.iload_n 2, 1) := by decide +kernel
theorem dX9_addYes_21 : decode cX9_addYes 21 = .ok (.iadd, 1) := by decide +kernel
theorem dX9_addYes_22 : decode cX9_addYes 22 = .ok (.invokestatic 77, 3) := by decide +kernel
theorem dX9_addYes_25 : decode cX9_addYes 25 = .ok (.iastore, 1) := by decide +kernel
theorem dX9_addYes_26 : decode cX9_addYes 26 = .ok (.return_, 1) := by decide +kernel
theorem ch_cX9_begin_0 : (cX9_begin.data.toList.drop 0).take 36 = [42, 27, 181, 0, 7, 42, 28, 181, 0, 13, 42, 29, 181, 0, 16, 42, 8, 181, 0, 19, 42, 16, 60, 181, 0, 22, 42, 3, 181, 0, 25, 42, 3, 181, 0, 28] := by decide +kernel
theorem dX9_begin_0 : decode cX9_begin 0 = .ok (.aload_n 0, 1) := do_42 (rdb (p := 0) (i := 0) ch_cX9_begin_0 rfl)
theorem dX9_begin_1 : decode cX9_begin 1 = .ok (.iload_n 1, 1) := do_27 (rdb (p := 0) (i := 1) ch_cX9_begin_0 rfl)
theorem dX9_begin_2 : decode cX9_begin 2 = .ok (.putfield 7, 3) := do_181 (rdb (p := 0) (i := 2) ch_cX9_begin_0 rfl) (rdb (p := 0) (i := 3) ch_cX9_begin_0 rfl) (rdb (p := 0) (i := 4) ch_cX9_begin_0 rfl) rfl
theorem dX9_begin_5 : decode cX9_begin 5 = .ok (.aload_n 0, 1) := do_42 (rdb (p := 0) (i := 5) ch_cX9_begin_0 rfl)
theorem dX9_begin_6 : decode cX9_begin 6 = .ok (.iload_n 2, 1) := do_28 (rdb (p := 0) (i := 6) ch_cX9_begin_0 rfl)
theorem dX9_begin_7 : decode cX9_begin 7 = .ok (.putfield 13, 3) := do_181 (rdb (p := 0) (i := 7) ch_cX9_begin_0 rfl) (rdb (p := 0) (i := 8) ch_cX9_begin_0 rfl) (rdb (p := 0) (i := 9) ch_cX9_begin_0 rfl) rfl
theorem dX9_begin_10 : decode cX9_begin 10 = .ok (.aload_n 0, 1) := do_42 (rdb (p := 0) (i := 10) ch_cX9_begin_0 rfl)
theorem dX9_begin_11 : decode cX9_begin 11 = .ok (.iload_n 3, 1) := do_29 (rdb (p := 0) (i := 11) ch_cX9_begin_0 rfl)
theorem dX9_begin_12 : decode cX9_begin 12 = .ok (.putfield 16, 3) := do_181 (rdb (p := 0) (i := 12) ch_cX9_begin_0 rfl) (rdb (p := 0) (i := 13) ch_cX9_begin_0 rfl) (rdb (p := 0) (i := 14) ch_cX9_begin_0 rfl) rfl
theorem dX9_begin_15 : decode cX9_begin 15 = .ok (.aload_n 0, 1) := do_42 (rdb (p := 0) (i := 15) ch_cX9_begin_0 rfl)
theorem dX9_begin_16 : decode cX9_begin 16 = .ok (.iconst 5, 1) := do_8 (rdb (p := 0) (i := 16) ch_cX9_begin_0 rfl)
theorem dX9_begin_17 : decode cX9_begin 17 = .ok (.putfield 19, 3) := do_181 (rdb (p := 0) (i := 17) ch_cX9_begin_0 rfl) (rdb (p := 0) (i := 18) ch_cX9_begin_0 rfl) (rdb (p := 0) (i := 19) ch_cX9_begin_0 rfl) rfl
theorem dX9_begin_20 : decode cX9_begin 20 = .ok (.aload_n 0, 1) := do_42 (rdb (p := 0) (i := 20) ch_cX9_begin_0 rfl)
theorem dX9_begin_21 : decode cX9_begin 21 = .ok (.bipush 60, 2) := do_16 (rdb (p := 0) (i := 21) ch_cX9_begin_0 rfl) (rdb (p := 0) (i := 22) ch_cX9_begin_0 rfl) (by decide +kernel)
theorem dX9_begin_23 : decode cX9_begin 23 = .ok (.putfield 22, 3) := do_181 (rdb (p := 0) (i := 23) ch_cX9_begin_0 rfl) (rdb (p := 0) (i := 24) ch_cX9_begin_0 rfl) (rdb (p := 0) (i := 25) ch_cX9_begin_0 rfl) rfl
theorem dX9_begin_26 : decode cX9_begin 26 = .ok (.aload_n 0, 1) := do_42 (rdb (p := 0) (i := 26) ch_cX9_begin_0 rfl)
theorem dX9_begin_27 : decode cX9_begin 27 = .ok (.iconst 0, 1) := do_3 (rdb (p := 0) (i := 27) ch_cX9_begin_0 rfl)
theorem dX9_begin_28 : decode cX9_begin 28 = .ok (.putfield 25, 3) := do_181 (rdb (p := 0) (i := 28) ch_cX9_begin_0 rfl) (rdb (p := 0) (i := 29) ch_cX9_begin_0 rfl) (rdb (p := 0) (i := 30) ch_cX9_begin_0 rfl) rfl
theorem dX9_begin_31 : decode cX9_begin 31 = .ok (.aload_n 0, 1) := do_42 (rdb (p := 0) (i := 31) ch_cX9_begin_0 rfl)
theorem ch_cX9_begin_32 : (cX9_begin.data.toList.drop 32).take 36 = [3, 181, 0, 28, 42, 3, 181, 0, 32, 42, 3, 181, 0, 35, 3, 54, 4, 21, 4, 17, 0, 192, 162, 0, 25, 42, 180, 0, 40, 21, 4, 3, 79, 42, 180, 0] := by decide +kernel
theorem dX9_begin_32 : decode cX9_begin 32 = .ok (.iconst 0, 1) := do_3 (rdb (p := 32) (i := 0) ch_cX9_begin_32 rfl)
theorem dX9_begin_33 : decode cX9_begin 33 = .ok (.putfield 28, 3) := do_181 (rdb (p := 32) (i := 1) ch_cX9_begin_32 rfl) (rdb (p := 32) (i := 2) ch_cX9_begin_32 rfl) (rdb (p := 32) (i := 3) ch_cX9_begin_32 rfl) rfl
theorem dX9_begin_36 : decode cX9_begin 36 = .ok (.aload_n 0, 1) := do_42 (rdb (p := 32) (i := 4) ch_cX9_begin_32 rfl)
theorem dX9_begin_37 : decode cX9_begin 37 = .ok (.iconst 0, 1) := do_3 (rdb (p := 32) (i := 5) ch_cX9_begin_32 rfl)
theorem dX9_begin_38 : decode cX9_begin 38 = .ok (.putfield 32, 3) := do_181 (rdb (p := 32) (i := 6) ch_cX9_begin_32 rfl) (rdb (p := 32) (i := 7) ch_cX9_begin_32 rfl) (rdb (p := 32) (i := 8) ch_cX9_begin_32 rfl) rfl
theorem dX9_begin_41 : decode cX9_begin 41 = .ok (.aload_n 0, 1) := do_42 (rdb (p := 32) (i := 9) ch_cX9_begin_32 rfl)
theorem dX9_begin_42 : decode cX9_begin 42 = .ok (.iconst 0, 1) := do_3 (rdb (p := 32) (i := 10) ch_cX9_begin_32 rfl)
theorem dX9_begin_43 : decode cX9_begin 43 = .ok (.putfield 35, 3) := do_181 (rdb (p := 32) (i := 11) ch_cX9_begin_32 rfl) (rdb (p := 32) (i := 12) ch_cX9_begin_32 rfl) (rdb (p := 32) (i := 13) ch_cX9_begin_32 rfl) rfl
theorem dX9_begin_46 : decode cX9_begin 46 = .ok (.iconst 0, 1) := do_3 (rdb (p := 32) (i := 14) ch_cX9_begin_32 rfl)
theorem dX9_begin_47 : decode cX9_begin 47 = .ok (.istore 4, 2) := do_54 (rdb (p := 32) (i := 15) ch_cX9_begin_32 rfl) (rdb (p := 32) (i := 16) ch_cX9_begin_32 rfl)
theorem dX9_begin_49 : decode cX9_begin 49 = .ok (.iload 4, 2) := do_21 (rdb (p := 32) (i := 17) ch_cX9_begin_32 rfl) (rdb (p := 32) (i := 18) ch_cX9_begin_32 rfl)
theorem dX9_begin_51 : decode cX9_begin 51 = .ok (.sipush 192, 3) := do_17 (rdb (p := 32) (i := 19) ch_cX9_begin_32 rfl) (rdb (p := 32) (i := 20) ch_cX9_begin_32 rfl) (rdb (p := 32) (i := 21) ch_cX9_begin_32 rfl) (by decide +kernel)
theorem dX9_begin_54 : decode cX9_begin 54 = .ok (.if_icmp .ge 25, 3) := do_162 (rdb (p := 32) (i := 22) ch_cX9_begin_32 rfl) (rdb (p := 32) (i := 23) ch_cX9_begin_32 rfl) (rdb (p := 32) (i := 24) ch_cX9_begin_32 rfl) (by decide +kernel)
theorem dX9_begin_57 : decode cX9_begin 57 = .ok (.aload_n 0, 1) := do_42 (rdb (p := 32) (i := 25) ch_cX9_begin_32 rfl)
theorem dX9_begin_58 : decode cX9_begin 58 = .ok (.getfield 40, 3) := do_180 (rdb (p := 32) (i := 26) ch_cX9_begin_32 rfl) (rdb (p := 32) (i := 27) ch_cX9_begin_32 rfl) (rdb (p := 32) (i := 28) ch_cX9_begin_32 rfl) rfl
theorem dX9_begin_61 : decode cX9_begin 61 = .ok (.iload 4, 2) := do_21 (rdb (p := 32) (i := 29) ch_cX9_begin_32 rfl) (rdb (p := 32) (i := 30) ch_cX9_begin_32 rfl)
theorem dX9_begin_63 : decode cX9_begin 63 = .ok (.iconst 0, 1) := do_3 (rdb (p := 32) (i := 31) ch_cX9_begin_32 rfl)
theorem ch_cX9_begin_64 : (cX9_begin.data.toList.drop 64).take 36 = [79, 42, 180, 0, 44, 21, 4, 3, 79, 132, 4, 1, 167, 255, 229, 177] := by decide +kernel
theorem dX9_begin_64 : decode cX9_begin 64 = .ok (.iastore, 1) := do_79 (rdb (p := 64) (i := 0) ch_cX9_begin_64 rfl)
theorem dX9_begin_65 : decode cX9_begin 65 = .ok (.aload_n 0, 1) := do_42 (rdb (p := 64) (i := 1) ch_cX9_begin_64 rfl)
theorem dX9_begin_66 : decode cX9_begin 66 = .ok (.getfield 44, 3) := do_180 (rdb (p := 64) (i := 2) ch_cX9_begin_64 rfl) (rdb (p := 64) (i := 3) ch_cX9_begin_64 rfl) (rdb (p := 64) (i := 4) ch_cX9_begin_64 rfl) rfl
theorem dX9_begin_69 : decode cX9_begin 69 = .ok (.iload 4, 2) := do_21 (rdb (p := 64) (i := 5) ch_cX9_begin_64 rfl) (rdb (p := 64) (i := 6) ch_cX9_begin_64 rfl)
theorem dX9_begin_71 : decode cX9_begin 71 = .ok (.iconst 0, 1) := do_3 (rdb (p := 64) (i := 7) ch_cX9_begin_64 rfl)
theorem dX9_begin_72 : decode cX9_begin 72 = .ok (.iastore, 1) := do_79 (rdb (p := 64) (i := 8) ch_cX9_begin_64 rfl)
theorem dX9_begin_73 : decode cX9_begin 73 = .ok (.iinc 4 1, 3) := do_132 (rdb (p := 64) (i := 9) ch_cX9_begin_64 rfl) (rdb (p := 64) (i := 10) ch_cX9_begin_64 rfl) (rdb (p := 64) (i := 11) ch_cX9_begin_64 rfl) (by decide +kernel)
theorem dX9_begin_76 : decode cX9_begin 76 = .ok (.goto (-27), 3) := do_167 (rdb (p := 64) (i := 12) ch_cX9_begin_64 rfl) (rdb (p := 64) (i := 13) ch_cX9_begin_64 rfl) (rdb (p := 64) (i := 14) ch_cX9_begin_64 rfl) (by decide +kernel)
theorem dX9_begin_79 : decode cX9_begin 79 = .ok (.return_, 1) := do_177 (rdb (p := 64) (i := 15) ch_cX9_begin_64 rfl)
theorem dX9_canLearn_0 : decode cX9_canLearn 0 = .ok (.iload_n 1, 1) := by decide +kernel
theorem dX9_canLearn_1 : decode cX9_canLearn 1 = .ok (.invokestatic 73, 3) := by decide +kernel
theorem dX9_canLearn_4 : decode cX9_canLearn 4 = .ok (.ifCond .eq 33, 3) := by decide +kernel
theorem dX9_canLearn_7 : decode cX9_canLearn 7 = .ok (.aload_n 0, 1) := by decide +kernel
theorem dX9_canLearn_8 : decode cX9_canLearn 8 = .ok (.getfield 40, 3) := by decide +kernel
theorem dX9_canLearn_11 : decode cX9_canLearn 11 = .ok (.iload_n 1, 1) := by decide +kernel
theorem dX9_canLearn_12 : decode cX9_canLearn 12 = .ok (.iaload, 1) := by decide +kernel
theorem dX9_canLearn_13 : decode cX9_canLearn 13 = .ok (.aload_n 0, 1) := by decide +kernel
theorem dX9_canLearn_14 : decode cX9_canLearn 14 = .ok (.getfield 44, 3) := by decide +kernel
theorem dX9_canLearn_17 : decode cX9_canLearn 17 = .ok (.iload_n 1, 1) := by decide +kernel
theorem dX9_canLearn_18 : decode cX9_canLearn 18 = .ok (.iaload, 1) := by decide +kernel
theorem dX9_canLearn_19 : decode cX9_canLearn 19 = .ok (.if_icmp .ne 18, 3) := by decide +kernel
theorem dX9_canLearn_22 : decode cX9_canLearn 22 = .ok (.aload_n 0, 1) := by decide +kernel
theorem dX9_canLearn_23 : decode cX9_canLearn 23 = .ok (.getfield 40, 3) := by decide +kernel
theorem dX9_canLearn_26 : decode cX9_canLearn 26 = .ok (.iload_n 1, 1) := by decide +kernel
theorem dX9_canLearn_27 : decode cX9_canLearn 27 = .ok (.iaload, 1) := by decide +kernel
theorem dX9_canLearn_28 : decode cX9_canLearn 28 = .ok (.bipush 99, 2) := by decide +kernel
theorem dX9_canLearn_30 : decode cX9_canLearn 30 = .ok (.if_icmp .ge 7, 3) := by decide +kernel
theorem dX9_canLearn_33 : decode cX9_canLearn 33 = .ok (.iconst 1, 1) := by decide +kernel
theorem dX9_canLearn_34 : decode cX9_canLearn 34 = .ok (.goto 4, 3) := by decide +kernel
theorem dX9_canLearn_37 : decode cX9_canLearn 37 = .ok (.iconst 0, 1) := by decide +kernel
theorem dX9_canLearn_38 : decode cX9_canLearn 38 = .ok (.ireturn, 1) := by decide +kernel
theorem dX9_countHeld_0 : decode cX9_countHeld 0 = .ok (.iconst 0, 1) := by decide +kernel
theorem dX9_countHeld_1 : decode cX9_countHeld 1 = .ok (.istore_n 2, 1) := by decide +kernel
theorem dX9_countHeld_2 : decode cX9_countHeld 2 = .ok (.iconst 0, 1) := by decide +kernel
theorem dX9_countHeld_3 : decode cX9_countHeld 3 = .ok (.istore_n 3, 1) := by decide +kernel
theorem dX9_countHeld_4 : decode cX9_countHeld 4 = .ok (.iload_n 3, 1) := by decide +kernel
theorem dX9_countHeld_5 : decode cX9_countHeld 5 = .ok (.sipush 192, 3) := by decide +kernel
theorem dX9_countHeld_8 : decode cX9_countHeld 8 = .ok (.if_icmp .ge 21, 3) := by decide +kernel
theorem dX9_countHeld_11 : decode cX9_countHeld 11 = .ok (.aload_n 0, 1) := by decide +kernel
theorem dX9_countHeld_12 : decode cX9_countHeld 12 = .ok (.iload_n 3, 1) := by decide +kernel
theorem dX9_countHeld_13 : decode cX9_countHeld 13 = .ok (.invokevirtual 83, 3) := by decide +kernel
theorem dX9_countHeld_16 : decode cX9_countHeld 16 = .ok (.iload_n 1, 1) := by decide +kernel
theorem dX9_countHeld_17 : decode cX9_countHeld 17 = .ok (.if_icmp .ne 6, 3) := by decide +kernel
theorem dX9_countHeld_20 : decode cX9_countHeld 20 = .ok (.iinc 2 1, 3) := by decide +kernel
theorem dX9_countHeld_23 : decode cX9_countHeld 23 = .ok (.iinc 3 1, 3) := by decide +kernel
theorem dX9_countHeld_26 : decode cX9_countHeld 26 = .ok (.goto (-22), 3) := by decide +kernel
theorem dX9_countHeld_29 : decode cX9_countHeld 29 = .ok (.iload_n 2, 1) := by decide +kernel
theorem dX9_countHeld_30 : decode cX9_countHeld 30 = .ok (.ireturn, 1) := by decide +kernel
theorem dX9_ears_0 : decode cX9_ears 0 = .ok (.aload_n 0, 1) := by decide +kernel
theorem dX9_ears_1 : decode cX9_ears 1 = .ok (.getfield 7, 3) := by decide +kernel
theorem dX9_ears_4 : decode cX9_ears 4 = .ok (.ifCond .lt 23, 3) := by decide +kernel
theorem dX9_ears_7 : decode cX9_ears 7 = .ok (.aload_n 0, 1) := by decide +kernel
theorem dX9_ears_8 : decode cX9_ears 8 = .ok (.getfield 7, 3) := by decide +kernel
theorem dX9_ears_11 : decode cX9_ears 11 = .ok (.bipush 8, 2) := by decide +kernel
theorem dX9_ears_13 : decode cX9_ears 13 = .ok (.if_icmp .ge 14, 3) := by decide +kernel
theorem dX9_ears_16 : decode cX9_ears 16 = .ok (.getstatic 60, 3) := by decide +kernel
theorem dX9_ears_19 : decode cX9_ears 19 = .ok (.aload_n 0, 1) := by decide +kernel
theorem dX9_ears_20 : decode cX9_ears 20 = .ok (.getfield 7, 3) := by decide +kernel
theorem dX9_ears_23 : decode cX9_ears 23 = .ok (.iaload, 1) := by decide +kernel
theorem dX9_ears_24 : decode cX9_ears 24 = .ok (.goto 4, 3) := by decide +kernel
theorem dX9_ears_27 : decode cX9_ears 27 = .ok (.iconst 0, 1) := by decide +kernel
theorem dX9_ears_28 : decode cX9_ears 28 = .ok (.ireturn, 1) := by decide +kernel
theorem ch_cX9_factOf_0 : (cX9_factOf.data.toList.drop 0).take 36 = [27, 170, 0, 0, 0, 0, 0, 122, 0, 0, 0, 0, 0, 0, 0, 10, 0, 0, 0, 59, 0, 0, 0, 64, 0, 0, 0, 69, 0, 0, 0, 74, 0, 0, 0, 79] := by decide +kernel
theorem dX9_factOf_0 : decode cX9_factOf 0 = .ok (.iload_n 1, 1) := do_27 (rdb (p := 0) (i := 0) ch_cX9_factOf_0 rfl)
theorem dX9_factOf_1 : decode cX9_factOf 1 = .ok (.tableswitch 122 0 10 #[59, 64, 69, 74, 79, 84, 89, 102, 107, 112, 117], 59) := by decide +kernel
theorem ch_cX9_factOf_32 : (cX9_factOf.data.toList.drop 32).take 36 = [0, 0, 0, 79, 0, 0, 0, 84, 0, 0, 0, 89, 0, 0, 0, 102, 0, 0, 0, 107, 0, 0, 0, 112, 0, 0, 0, 117, 42, 180, 0, 7, 172, 42, 180, 0] := by decide +kernel
theorem dX9_factOf_60 : decode cX9_factOf 60 = .ok (.aload_n 0, 1) := do_42 (rdb (p := 32) (i := 28) ch_cX9_factOf_32 rfl)
theorem dX9_factOf_61 : decode cX9_factOf 61 = .ok (.getfield 7, 3) := do_180 (rdb (p := 32) (i := 29) ch_cX9_factOf_32 rfl) (rdb (p := 32) (i := 30) ch_cX9_factOf_32 rfl) (rdb (p := 32) (i := 31) ch_cX9_factOf_32 rfl) rfl
theorem ch_cX9_factOf_64 : (cX9_factOf.data.toList.drop 64).take 36 = [172, 42, 180, 0, 13, 172, 42, 180, 0, 16, 172, 42, 180, 0, 19, 172, 42, 180, 0, 22, 172, 42, 180, 0, 25, 172, 42, 180, 0, 28, 153, 0, 7, 4, 167, 0] := by decide +kernel
theorem dX9_factOf_64 : decode cX9_factOf 64 = .ok (.ireturn, 1) := do_172 (rdb (p := 64) (i := 0) ch_cX9_factOf_64 rfl)
theorem dX9_factOf_65 : decode cX9_factOf 65 = .ok (.aload_n 0, 1) := do_42 (rdb (p := 64) (i := 1) ch_cX9_factOf_64 rfl)
theorem dX9_factOf_66 : decode cX9_factOf 66 = .ok (.getfield 13, 3) := do_180 (rdb (p := 64) (i := 2) ch_cX9_factOf_64 rfl) (rdb (p := 64) (i := 3) ch_cX9_factOf_64 rfl) (rdb (p := 64) (i := 4) ch_cX9_factOf_64 rfl) rfl
theorem dX9_factOf_69 : decode cX9_factOf 69 = .ok (.ireturn, 1) := do_172 (rdb (p := 64) (i := 5) ch_cX9_factOf_64 rfl)
theorem dX9_factOf_70 : decode cX9_factOf 70 = .ok (.aload_n 0, 1) := do_42 (rdb (p := 64) (i := 6) ch_cX9_factOf_64 rfl)
theorem dX9_factOf_71 : decode cX9_factOf 71 = .ok (.getfield 16, 3) := do_180 (rdb (p := 64) (i := 7) ch_cX9_factOf_64 rfl) (rdb (p := 64) (i := 8) ch_cX9_factOf_64 rfl) (rdb (p := 64) (i := 9) ch_cX9_factOf_64 rfl) rfl
theorem dX9_factOf_74 : decode cX9_factOf 74 = .ok (.ireturn, 1) := do_172 (rdb (p := 64) (i := 10) ch_cX9_factOf_64 rfl)
theorem dX9_factOf_75 : decode cX9_factOf 75 = .ok (.aload_n 0, 1) := do_42 (rdb (p := 64) (i := 11) ch_cX9_factOf_64 rfl)
theorem dX9_factOf_76 : decode cX9_factOf 76 = .ok (.getfield 19, 3) := do_180 (rdb (p := 64) (i := 12) ch_cX9_factOf_64 rfl) (rdb (p := 64) (i := 13) ch_cX9_factOf_64 rfl) (rdb (p := 64) (i := 14) ch_cX9_factOf_64 rfl) rfl
theorem dX9_factOf_79 : decode cX9_factOf 79 = .ok (.ireturn, 1) := do_172 (rdb (p := 64) (i := 15) ch_cX9_factOf_64 rfl)
theorem dX9_factOf_80 : decode cX9_factOf 80 = .ok (.aload_n 0, 1) := do_42 (rdb (p := 64) (i := 16) ch_cX9_factOf_64 rfl)
theorem dX9_factOf_81 : decode cX9_factOf 81 = .ok (.getfield 22, 3) := do_180 (rdb (p := 64) (i := 17) ch_cX9_factOf_64 rfl) (rdb (p := 64) (i := 18) ch_cX9_factOf_64 rfl) (rdb (p := 64) (i := 19) ch_cX9_factOf_64 rfl) rfl
theorem dX9_factOf_84 : decode cX9_factOf 84 = .ok (.ireturn, 1) := do_172 (rdb (p := 64) (i := 20) ch_cX9_factOf_64 rfl)
theorem dX9_factOf_85 : decode cX9_factOf 85 = .ok (.aload_n 0, 1) := do_42 (rdb (p := 64) (i := 21) ch_cX9_factOf_64 rfl)
theorem dX9_factOf_86 : decode cX9_factOf 86 = .ok (.getfield 25, 3) := do_180 (rdb (p := 64) (i := 22) ch_cX9_factOf_64 rfl) (rdb (p := 64) (i := 23) ch_cX9_factOf_64 rfl) (rdb (p := 64) (i := 24) ch_cX9_factOf_64 rfl) rfl
theorem dX9_factOf_89 : decode cX9_factOf 89 = .ok (.ireturn, 1) := do_172 (rdb (p := 64) (i := 25) ch_cX9_factOf_64 rfl)
theorem dX9_factOf_90 : decode cX9_factOf 90 = .ok (.aload_n 0, 1) := do_42 (rdb (p := 64) (i := 26) ch_cX9_factOf_64 rfl)
theorem dX9_factOf_91 : decode cX9_factOf 91 = .ok (.getfield 28, 3) := do_180 (rdb (p := 64) (i := 27) ch_cX9_factOf_64 rfl) (rdb (p := 64) (i := 28) ch_cX9_factOf_64 rfl) (rdb (p := 64) (i := 29) ch_cX9_factOf_64 rfl) rfl
theorem dX9_factOf_94 : decode cX9_factOf 94 = .ok (.ifCond .eq 7, 3) := do_153 (rdb (p := 64) (i := 30) ch_cX9_factOf_64 rfl) (rdb (p := 64) (i := 31) ch_cX9_factOf_64 rfl) (rdb (p := 64) (i := 32) ch_cX9_factOf_64 rfl) (by decide +kernel)
theorem ch_cX9_factOf_96 : (cX9_factOf.data.toList.drop 96).take 36 = [7, 4, 167, 0, 4, 3, 172, 42, 180, 0, 32, 172, 42, 180, 0, 35, 172, 42, 182, 0, 63, 172, 42, 182, 0, 67, 172, 42, 182, 0, 70, 172] := by decide +kernel
theorem dX9_factOf_97 : decode cX9_factOf 97 = .ok (.iconst 1, 1) := do_4 (rdb (p := 96) (i := 1) ch_cX9_factOf_96 rfl)
theorem dX9_factOf_98 : decode cX9_factOf 98 = .ok (.goto 4, 3) := do_167 (rdb (p := 96) (i := 2) ch_cX9_factOf_96 rfl) (rdb (p := 96) (i := 3) ch_cX9_factOf_96 rfl) (rdb (p := 96) (i := 4) ch_cX9_factOf_96 rfl) (by decide +kernel)
theorem dX9_factOf_101 : decode cX9_factOf 101 = .ok (.iconst 0, 1) := do_3 (rdb (p := 96) (i := 5) ch_cX9_factOf_96 rfl)
theorem dX9_factOf_102 : decode cX9_factOf 102 = .ok (.ireturn, 1) := do_172 (rdb (p := 96) (i := 6) ch_cX9_factOf_96 rfl)
theorem dX9_factOf_103 : decode cX9_factOf 103 = .ok (.aload_n 0, 1) := do_42 (rdb (p := 96) (i := 7) ch_cX9_factOf_96 rfl)
theorem dX9_factOf_104 : decode cX9_factOf 104 = .ok (.getfield 32, 3) := do_180 (rdb (p := 96) (i := 8) ch_cX9_factOf_96 rfl) (rdb (p := 96) (i := 9) ch_cX9_factOf_96 rfl) (rdb (p := 96) (i := 10) ch_cX9_factOf_96 rfl) rfl
theorem dX9_factOf_107 : decode cX9_factOf 107 = .ok (.ireturn, 1) := do_172 (rdb (p := 96) (i := 11) ch_cX9_factOf_96 rfl)
theorem dX9_factOf_108 : decode cX9_factOf 108 = .ok (.aload_n 0, 1) := do_42 (rdb (p := 96) (i := 12) ch_cX9_factOf_96 rfl)
theorem dX9_factOf_109 : decode cX9_factOf 109 = .ok (.getfield 35, 3) := do_180 (rdb (p := 96) (i := 13) ch_cX9_factOf_96 rfl) (rdb (p := 96) (i := 14) ch_cX9_factOf_96 rfl) (rdb (p := 96) (i := 15) ch_cX9_factOf_96 rfl) rfl
theorem dX9_factOf_112 : decode cX9_factOf 112 = .ok (.ireturn, 1) := do_172 (rdb (p := 96) (i := 16) ch_cX9_factOf_96 rfl)
theorem dX9_factOf_113 : decode cX9_factOf 113 = .ok (.aload_n 0, 1) := do_42 (rdb (p := 96) (i := 17) ch_cX9_factOf_96 rfl)
theorem dX9_factOf_114 : decode cX9_factOf 114 = .ok (.invokevirtual 63, 3) := do_182 (rdb (p := 96) (i := 18) ch_cX9_factOf_96 rfl) (rdb (p := 96) (i := 19) ch_cX9_factOf_96 rfl) (rdb (p := 96) (i := 20) ch_cX9_factOf_96 rfl) rfl
theorem dX9_factOf_117 : decode cX9_factOf 117 = .ok (.ireturn, 1) := do_172 (rdb (p := 96) (i := 21) ch_cX9_factOf_96 rfl)
theorem dX9_factOf_118 : decode cX9_factOf 118 = .ok (.aload_n 0, 1) := do_42 (rdb (p := 96) (i := 22) ch_cX9_factOf_96 rfl)
theorem dX9_factOf_119 : decode cX9_factOf 119 = .ok (.invokevirtual 67, 3) := do_182 (rdb (p := 96) (i := 23) ch_cX9_factOf_96 rfl) (rdb (p := 96) (i := 24) ch_cX9_factOf_96 rfl) (rdb (p := 96) (i := 25) ch_cX9_factOf_96 rfl) rfl
theorem dX9_factOf_122 : decode cX9_factOf 122 = .ok (.ireturn, 1) := do_172 (rdb (p := 96) (i := 26) ch_cX9_factOf_96 rfl)
theorem dX9_factOf_123 : decode cX9_factOf 123 = .ok (.aload_n 0, 1) := do_42 (rdb (p := 96) (i := 27) ch_cX9_factOf_96 rfl)
theorem dX9_factOf_124 : decode cX9_factOf 124 = .ok (.invokevirtual 70, 3) := do_182 (rdb (p := 96) (i := 28) ch_cX9_factOf_96 rfl) (rdb (p := 96) (i := 29) ch_cX9_factOf_96 rfl) (rdb (p := 96) (i := 30) ch_cX9_factOf_96 rfl) rfl
theorem dX9_factOf_127 : decode cX9_factOf 127 = .ok (.ireturn, 1) := do_172 (rdb (p := 96) (i := 31) ch_cX9_factOf_96 rfl)
theorem ch_cX9_held_0 : (cX9_held.data.toList.drop 0).take 36 = [27, 184, 0, 73, 153, 0, 18, 42, 180, 0, 40, 27, 46, 42, 180, 0, 44, 27, 46, 160, 0, 5, 3, 172, 42, 180, 0, 40, 27, 46, 42, 180, 0, 44, 27, 46] := by decide +kernel
theorem dX9_held_0 : decode cX9_held 0 = .ok (.iload_n 1, 1) := do_27 (rdb (p := 0) (i := 0) ch_cX9_held_0 rfl)
theorem dX9_held_1 : decode cX9_held 1 = .ok (.invokestatic 73, 3) := do_184 (rdb (p := 0) (i := 1) ch_cX9_held_0 rfl) (rdb (p := 0) (i := 2) ch_cX9_held_0 rfl) (rdb (p := 0) (i := 3) ch_cX9_held_0 rfl) rfl
theorem dX9_held_4 : decode cX9_held 4 = .ok (.ifCond .eq 18, 3) := do_153 (rdb (p := 0) (i := 4) ch_cX9_held_0 rfl) (rdb (p := 0) (i := 5) ch_cX9_held_0 rfl) (rdb (p := 0) (i := 6) ch_cX9_held_0 rfl) (by decide +kernel)
theorem dX9_held_7 : decode cX9_held 7 = .ok (.aload_n 0, 1) := do_42 (rdb (p := 0) (i := 7) ch_cX9_held_0 rfl)
theorem dX9_held_8 : decode cX9_held 8 = .ok (.getfield 40, 3) := do_180 (rdb (p := 0) (i := 8) ch_cX9_held_0 rfl) (rdb (p := 0) (i := 9) ch_cX9_held_0 rfl) (rdb (p := 0) (i := 10) ch_cX9_held_0 rfl) rfl
theorem dX9_held_11 : decode cX9_held 11 = .ok (.iload_n 1, 1) := do_27 (rdb (p := 0) (i := 11) ch_cX9_held_0 rfl)
theorem dX9_held_12 : decode cX9_held 12 = .ok (.iaload, 1) := do_46 (rdb (p := 0) (i := 12) ch_cX9_held_0 rfl)
theorem dX9_held_13 : decode cX9_held 13 = .ok (.aload_n 0, 1) := do_42 (rdb (p := 0) (i := 13) ch_cX9_held_0 rfl)
theorem dX9_held_14 : decode cX9_held 14 = .ok (.getfield 44, 3) := do_180 (rdb (p := 0) (i := 14) ch_cX9_held_0 rfl) (rdb (p := 0) (i := 15) ch_cX9_held_0 rfl) (rdb (p := 0) (i := 16) ch_cX9_held_0 rfl) rfl
theorem dX9_held_17 : decode cX9_held 17 = .ok (.iload_n 1, 1) := do_27 (rdb (p := 0) (i := 17) ch_cX9_held_0 rfl)
theorem dX9_held_18 : decode cX9_held 18 = .ok (.iaload, 1) := do_46 (rdb (p := 0) (i := 18) ch_cX9_held_0 rfl)
theorem dX9_held_19 : decode cX9_held 19 = .ok (.if_icmp .ne 5, 3) := do_160 (rdb (p := 0) (i := 19) ch_cX9_held_0 rfl) (rdb (p := 0) (i := 20) ch_cX9_held_0 rfl) (rdb (p := 0) (i := 21) ch_cX9_held_0 rfl) (by decide +kernel)
theorem dX9_held_22 : decode cX9_held 22 = .ok (.iconst 0, 1) := do_3 (rdb (p := 0) (i := 22) ch_cX9_held_0 rfl)
theorem dX9_held_23 : decode cX9_held 23 = .ok (.ireturn, 1) := do_172 (rdb (p := 0) (i := 23) ch_cX9_held_0 rfl)
theorem dX9_held_24 : decode cX9_held 24 = .ok (.aload_n 0, 1) := do_42 (rdb (p := 0) (i := 24) ch_cX9_held_0 rfl)
theorem dX9_held_25 : decode cX9_held 25 = .ok (.getfield 40, 3) := do_180 (rdb (p := 0) (i := 25) ch_cX9_held_0 rfl) (rdb (p := 0) (i := 26) ch_cX9_held_0 rfl) (rdb (p := 0) (i := 27) ch_cX9_held_0 rfl) rfl
theorem dX9_held_28 : decode cX9_held 28 = .ok (.iload_n 1, 1) := do_27 (rdb (p := 0) (i := 28) ch_cX9_held_0 rfl)
theorem dX9_held_29 : decode cX9_held 29 = .ok (.iaload, 1) := do_46 (rdb (p := 0) (i := 29) ch_cX9_held_0 rfl)
theorem dX9_held_30 : decode cX9_held 30 = .ok (.aload_n 0, 1) := do_42 (rdb (p := 0) (i := 30) ch_cX9_held_0 rfl)
theorem dX9_held_31 : decode cX9_held 31 = .ok (.getfield 44, 3) := do_180 (rdb (p := 0) (i := 31) ch_cX9_held_0 rfl) (rdb (p := 0) (i := 32) ch_cX9_held_0 rfl) (rdb (p := 0) (i := 33) ch_cX9_held_0 rfl) rfl
theorem ch_cX9_held_32 : (cX9_held.data.toList.drop 32).take 36 = [0, 44, 27, 46, 164, 0, 7, 5, 167, 0, 4, 4, 172] := by decide +kernel
theorem dX9_held_34 : decode cX9_held 34 = .ok (.iload_n 1, 1) := do_27 (rdb (p := 32) (i := 2) ch_cX9_held_32 rfl)
theorem dX9_held_35 : decode cX9_held 35 = .ok (.iaload, 1) := do_46 (rdb (p := 32) (i := 3) ch_cX9_held_32 rfl)
theorem dX9_held_36 : decode cX9_held 36 = .ok (.if_icmp .le 7, 3) := do_164 (rdb (p := 32) (i := 4) ch_cX9_held_32 rfl) (rdb (p := 32) (i := 5) ch_cX9_held_32 rfl) (rdb (p := 32) (i := 6) ch_cX9_held_32 rfl) (by decide +kernel)
theorem dX9_held_39 : decode cX9_held 39 = .ok (.iconst 2, 1) := do_5 (rdb (p := 32) (i := 7) ch_cX9_held_32 rfl)
theorem dX9_held_40 : decode cX9_held 40 = .ok (.goto 4, 3) := do_167 (rdb (p := 32) (i := 8) ch_cX9_held_32 rfl) (rdb (p := 32) (i := 9) ch_cX9_held_32 rfl) (rdb (p := 32) (i := 10) ch_cX9_held_32 rfl) (by decide +kernel)
theorem dX9_held_43 : decode cX9_held 43 = .ok (.iconst 1, 1) := do_4 (rdb (p := 32) (i := 11) ch_cX9_held_32 rfl)
theorem dX9_held_44 : decode cX9_held 44 = .ok (.ireturn, 1) := do_172 (rdb (p := 32) (i := 12) ch_cX9_held_32 rfl)
theorem dX9_isOf_0 : decode cX9_isOf 0 = .ok (.aload_n 0, 1) := by decide +kernel
theorem dX9_isOf_1 : decode cX9_isOf 1 = .ok (.getfield 7, 3) := by decide +kernel
theorem dX9_isOf_4 : decode cX9_isOf 4 = .ok (.istore_n 2, 1) := by decide +kernel
theorem dX9_isOf_5 : decode cX9_isOf 5 = .ok (.iconst 0, 1) := by decide +kernel
theorem dX9_isOf_6 : decode cX9_isOf 6 = .ok (.istore_n 3, 1) := by decide +kernel
theorem dX9_isOf_7 : decode cX9_isOf 7 = .ok (.iload_n 3, 1) := by decide +kernel
theorem dX9_isOf_8 : decode cX9_isOf 8 = .ok (.bipush 8, 2) := by decide +kernel
theorem dX9_isOf_10 : decode cX9_isOf 10 = .ok (.if_icmp .ge 25, 3) := by decide +kernel
theorem dX9_isOf_13 : decode cX9_isOf 13 = .ok (.iload_n 2, 1) := by decide +kernel
theorem dX9_isOf_14 : decode cX9_isOf 14 = .ok (.ifCond .lt 21, 3) := by decide +kernel
theorem dX9_isOf_17 : decode cX9_isOf 17 = .ok (.iload_n 2, 1) := by decide +kernel
theorem dX9_isOf_18 : decode cX9_isOf 18 = .ok (.iload_n 1, 1) := by decide +kernel
theorem dX9_isOf_19 : decode cX9_isOf 19 = .ok (.if_icmp .ne 5, 3) := by decide +kernel
theorem dX9_isOf_22 : decode cX9_isOf 22 = .ok (.iconst 1, 1) := by decide +kernel
theorem dX9_isOf_23 : decode cX9_isOf 23 = .ok (.ireturn, 1) := by decide +kernel
theorem dX9_isOf_24 : decode cX9_isOf 24 = .ok (.iload_n 2, 1) := by decide +kernel
theorem dX9_isOf_25 : decode cX9_isOf 25 = .ok (.invokestatic 50, 3) := by decide +kernel
theorem dX9_isOf_28 : decode cX9_isOf 28 = .ok (.istore_n 2, 1) := by decide +kernel
theorem dX9_isOf_29 : decode cX9_isOf 29 = .ok (.iinc 3 1, 3) := by decide +kernel
theorem dX9_isOf_32 : decode cX9_isOf 32 = .ok (.goto (-25), 3) := by decide +kernel
theorem dX9_isOf_35 : decode cX9_isOf 35 = .ok (.iconst 0, 1) := by decide +kernel
theorem dX9_isOf_36 : decode cX9_isOf 36 = .ok (.ireturn, 1) := by decide +kernel
theorem dX9_ownClick_0 : decode cX9_ownClick 0 = .ok (.bipush 100, 2) := by decide +kernel
theorem dX9_ownClick_2 : decode cX9_ownClick 2 = .ok (.aload_n 0, 1) := by decide +kernel
theorem dX9_ownClick_3 : decode cX9_ownClick 3 = .ok (.getfield 19, 3) := by decide +kernel
theorem dX9_ownClick_6 : decode cX9_ownClick 6 = .ok (.imul, 1) := by decide +kernel
theorem dX9_ownClick_7 : decode cX9_ownClick 7 = .ok (.aload_n 0, 1) := by decide +kernel
theorem dX9_ownClick_8 : decode cX9_ownClick 8 = .ok (.getfield 22, 3) := by decide +kernel
theorem dX9_ownClick_11 : decode cX9_ownClick 11 = .ok (.iadd, 1) := by decide +kernel
theorem dX9_ownClick_12 : decode cX9_ownClick 12 = .ok (.ireturn, 1) := by decide +kernel
theorem dX9_reach_0 : decode cX9_reach 0 = .ok (.aload_n 0, 1) := by decide +kernel
theorem dX9_reach_1 : decode cX9_reach 1 = .ok (.getfield 7, 3) := by decide +kernel
theorem dX9_reach_4 : decode cX9_reach 4 = .ok (.ifCond .lt 23, 3) := by decide +kernel
theorem dX9_reach_7 : decode cX9_reach 7 = .ok (.aload_n 0, 1) := by decide +kernel
theorem dX9_reach_8 : decode cX9_reach 8 = .ok (.getfield 7, 3) := by decide +kernel
theorem dX9_reach_11 : decode cX9_reach 11 = .ok (.bipush 8, 2) := by decide +kernel
theorem dX9_reach_13 : decode cX9_reach 13 = .ok (.if_icmp .ge 14, 3) := by decide +kernel
theorem dX9_reach_16 : decode cX9_reach 16 = .ok (.getstatic 54, 3) := by decide +kernel
theorem dX9_reach_19 : decode cX9_reach 19 = .ok (.aload_n 0, 1) := by decide +kernel
theorem dX9_reach_20 : decode cX9_reach 20 = .ok (.getfield 7, 3) := by decide +kernel
theorem dX9_reach_23 : decode cX9_reach 23 = .ok (.iaload, 1) := by decide +kernel
theorem dX9_reach_24 : decode cX9_reach 24 = .ok (.goto 4, 3) := by decide +kernel
theorem dX9_reach_27 : decode cX9_reach 27 = .ok (.iconst 0, 1) := by decide +kernel
theorem dX9_reach_28 : decode cX9_reach 28 = .ok (.ireturn, 1) := by decide +kernel
theorem dX9_speed_0 : decode cX9_speed 0 = .ok (.aload_n 0, 1) := by decide +kernel
theorem dX9_speed_1 : decode cX9_speed 1 = .ok (.getfield 7, 3) := by decide +kernel
theorem dX9_speed_4 : decode cX9_speed 4 = .ok (.ifCond .lt 23, 3) := by decide +kernel
theorem dX9_speed_7 : decode cX9_speed 7 = .ok (.aload_n 0, 1) := by decide +kernel
theorem dX9_speed_8 : decode cX9_speed 8 = .ok (.getfield 7, 3) := by decide +kernel
theorem dX9_speed_11 : decode cX9_speed 11 = .ok (.bipush 8, 2) := by decide +kernel
theorem dX9_speed_13 : decode cX9_speed 13 = .ok (.if_icmp .ge 14, 3) := by decide +kernel
theorem dX9_speed_16 : decode cX9_speed 16 = .ok (.getstatic 57, 3) := by decide +kernel
theorem dX9_speed_19 : decode cX9_speed 19 = .ok (.aload_n 0, 1) := by decide +kernel
theorem dX9_speed_20 : decode cX9_speed 20 = .ok (.getfield 7, 3) := by decide +kernel
theorem dX9_speed_23 : decode cX9_speed 23 = .ok (.iaload, 1) := by decide +kernel
theorem dX9_speed_24 : decode cX9_speed 24 = .ok (.goto 4, 3) := by decide +kernel
theorem dX9_speed_27 : decode cX9_speed 27 = .ok (.iconst 0, 1) := by decide +kernel
theorem dX9_speed_28 : decode cX9_speed 28 = .ok (.ireturn, 1) := by decide +kernel
theorem ch_cX9_takeFrom_0 : (cX9_takeFrom.data.toList.drop 0).take 36 = [42, 43, 180, 0, 7, 181, 0, 7, 42, 43, 180, 0, 13, 181, 0, 13, 42, 43, 180, 0, 16, 181, 0, 16, 42, 43, 180, 0, 19, 181, 0, 19, 42, 43, 180, 0] := by decide +kernel
theorem dX9_takeFrom_0 : decode cX9_takeFrom 0 = .ok (.aload_n 0, 1) := do_42 (rdb (p := 0) (i := 0) ch_cX9_takeFrom_0 rfl)
theorem dX9_takeFrom_1 : decode cX9_takeFrom 1 = .ok (.aload_n 1, 1) := do_43 (rdb (p := 0) (i := 1) ch_cX9_takeFrom_0 rfl)
theorem dX9_takeFrom_2 : decode cX9_takeFrom 2 = .ok (.getfield 7, 3) := do_180 (rdb (p := 0) (i := 2) ch_cX9_takeFrom_0 rfl) (rdb (p := 0) (i := 3) ch_cX9_takeFrom_0 rfl) (rdb (p := 0) (i := 4) ch_cX9_takeFrom_0 rfl) rfl
theorem dX9_takeFrom_5 : decode cX9_takeFrom 5 = .ok (.putfield 7, 3) := do_181 (rdb (p := 0) (i := 5) ch_cX9_takeFrom_0 rfl) (rdb (p := 0) (i := 6) ch_cX9_takeFrom_0 rfl) (rdb (p := 0) (i := 7) ch_cX9_takeFrom_0 rfl) rfl
theorem dX9_takeFrom_8 : decode cX9_takeFrom 8 = .ok (.aload_n 0, 1) := do_42 (rdb (p := 0) (i := 8) ch_cX9_takeFrom_0 rfl)
theorem dX9_takeFrom_9 : decode cX9_takeFrom 9 = .ok (.aload_n 1, 1) := do_43 (rdb (p := 0) (i := 9) ch_cX9_takeFrom_0 rfl)
theorem dX9_takeFrom_10 : decode cX9_takeFrom 10 = .ok (.getfield 13, 3) := do_180 (rdb (p := 0) (i := 10) ch_cX9_takeFrom_0 rfl) (rdb (p := 0) (i := 11) ch_cX9_takeFrom_0 rfl) (rdb (p := 0) (i := 12) ch_cX9_takeFrom_0 rfl) rfl
theorem dX9_takeFrom_13 : decode cX9_takeFrom 13 = .ok (.putfield 13, 3) := do_181 (rdb (p := 0) (i := 13) ch_cX9_takeFrom_0 rfl) (rdb (p := 0) (i := 14) ch_cX9_takeFrom_0 rfl) (rdb (p := 0) (i := 15) ch_cX9_takeFrom_0 rfl) rfl
theorem dX9_takeFrom_16 : decode cX9_takeFrom 16 = .ok (.aload_n 0, 1) := do_42 (rdb (p := 0) (i := 16) ch_cX9_takeFrom_0 rfl)
theorem dX9_takeFrom_17 : decode cX9_takeFrom 17 = .ok (.aload_n 1, 1) := do_43 (rdb (p := 0) (i := 17) ch_cX9_takeFrom_0 rfl)
theorem dX9_takeFrom_18 : decode cX9_takeFrom 18 = .ok (.getfield 16, 3) := do_180 (rdb (p := 0) (i := 18) ch_cX9_takeFrom_0 rfl) (rdb (p := 0) (i := 19) ch_cX9_takeFrom_0 rfl) (rdb (p := 0) (i := 20) ch_cX9_takeFrom_0 rfl) rfl
theorem dX9_takeFrom_21 : decode cX9_takeFrom 21 = .ok (.putfield 16, 3) := do_181 (rdb (p := 0) (i := 21) ch_cX9_takeFrom_0 rfl) (rdb (p := 0) (i := 22) ch_cX9_takeFrom_0 rfl) (rdb (p := 0) (i := 23) ch_cX9_takeFrom_0 rfl) rfl
theorem dX9_takeFrom_24 : decode cX9_takeFrom 24 = .ok (.aload_n 0, 1) := do_42 (rdb (p := 0) (i := 24) ch_cX9_takeFrom_0 rfl)
theorem dX9_takeFrom_25 : decode cX9_takeFrom 25 = .ok (.aload_n 1, 1) := do_43 (rdb (p := 0) (i := 25) ch_cX9_takeFrom_0 rfl)
theorem dX9_takeFrom_26 : decode cX9_takeFrom 26 = .ok (.getfield 19, 3) := do_180 (rdb (p := 0) (i := 26) ch_cX9_takeFrom_0 rfl) (rdb (p := 0) (i := 27) ch_cX9_takeFrom_0 rfl) (rdb (p := 0) (i := 28) ch_cX9_takeFrom_0 rfl) rfl
theorem dX9_takeFrom_29 : decode cX9_takeFrom 29 = .ok (.putfield 19, 3) := do_181 (rdb (p := 0) (i := 29) ch_cX9_takeFrom_0 rfl) (rdb (p := 0) (i := 30) ch_cX9_takeFrom_0 rfl) (rdb (p := 0) (i := 31) ch_cX9_takeFrom_0 rfl) rfl
theorem ch_cX9_takeFrom_32 : (cX9_takeFrom.data.toList.drop 32).take 36 = [42, 43, 180, 0, 22, 181, 0, 22, 42, 43, 180, 0, 25, 181, 0, 25, 42, 43, 180, 0, 28, 181, 0, 28, 42, 43, 180, 0, 32, 181, 0, 32, 42, 43, 180, 0] := by decide +kernel
theorem dX9_takeFrom_32 : decode cX9_takeFrom 32 = .ok (.aload_n 0, 1) := do_42 (rdb (p := 32) (i := 0) ch_cX9_takeFrom_32 rfl)
theorem dX9_takeFrom_33 : decode cX9_takeFrom 33 = .ok (.aload_n 1, 1) := do_43 (rdb (p := 32) (i := 1) ch_cX9_takeFrom_32 rfl)
theorem dX9_takeFrom_34 : decode cX9_takeFrom 34 = .ok (.getfield 22, 3) := do_180 (rdb (p := 32) (i := 2) ch_cX9_takeFrom_32 rfl) (rdb (p := 32) (i := 3) ch_cX9_takeFrom_32 rfl) (rdb (p := 32) (i := 4) ch_cX9_takeFrom_32 rfl) rfl
theorem dX9_takeFrom_37 : decode cX9_takeFrom 37 = .ok (.putfield 22, 3) := do_181 (rdb (p := 32) (i := 5) ch_cX9_takeFrom_32 rfl) (rdb (p := 32) (i := 6) ch_cX9_takeFrom_32 rfl) (rdb (p := 32) (i := 7) ch_cX9_takeFrom_32 rfl) rfl
theorem dX9_takeFrom_40 : decode cX9_takeFrom 40 = .ok (.aload_n 0, 1) := do_42 (rdb (p := 32) (i := 8) ch_cX9_takeFrom_32 rfl)
theorem dX9_takeFrom_41 : decode cX9_takeFrom 41 = .ok (.aload_n 1, 1) := do_43 (rdb (p := 32) (i := 9) ch_cX9_takeFrom_32 rfl)
theorem dX9_takeFrom_42 : decode cX9_takeFrom 42 = .ok (.getfield 25, 3) := do_180 (rdb (p := 32) (i := 10) ch_cX9_takeFrom_32 rfl) (rdb (p := 32) (i := 11) ch_cX9_takeFrom_32 rfl) (rdb (p := 32) (i := 12) ch_cX9_takeFrom_32 rfl) rfl
theorem dX9_takeFrom_45 : decode cX9_takeFrom 45 = .ok (.putfield 25, 3) := do_181 (rdb (p := 32) (i := 13) ch_cX9_takeFrom_32 rfl) (rdb (p := 32) (i := 14) ch_cX9_takeFrom_32 rfl) (rdb (p := 32) (i := 15) ch_cX9_takeFrom_32 rfl) rfl
theorem dX9_takeFrom_48 : decode cX9_takeFrom 48 = .ok (.aload_n 0, 1) := do_42 (rdb (p := 32) (i := 16) ch_cX9_takeFrom_32 rfl)
theorem dX9_takeFrom_49 : decode cX9_takeFrom 49 = .ok (.aload_n 1, 1) := do_43 (rdb (p := 32) (i := 17) ch_cX9_takeFrom_32 rfl)
theorem dX9_takeFrom_50 : decode cX9_takeFrom 50 = .ok (.getfield 28, 3) := do_180 (rdb (p := 32) (i := 18) ch_cX9_takeFrom_32 rfl) (rdb (p := 32) (i := 19) ch_cX9_takeFrom_32 rfl) (rdb (p := 32) (i := 20) ch_cX9_takeFrom_32 rfl) rfl
theorem dX9_takeFrom_53 : decode cX9_takeFrom 53 = .ok (.putfield 28, 3) := do_181 (rdb (p := 32) (i := 21) ch_cX9_takeFrom_32 rfl) (rdb (p := 32) (i := 22) ch_cX9_takeFrom_32 rfl) (rdb (p := 32) (i := 23) ch_cX9_takeFrom_32 rfl) rfl
theorem dX9_takeFrom_56 : decode cX9_takeFrom 56 = .ok (.aload_n 0, 1) := do_42 (rdb (p := 32) (i := 24) ch_cX9_takeFrom_32 rfl)
theorem dX9_takeFrom_57 : decode cX9_takeFrom 57 = .ok (.aload_n 1, 1) := do_43 (rdb (p := 32) (i := 25) ch_cX9_takeFrom_32 rfl)
theorem dX9_takeFrom_58 : decode cX9_takeFrom 58 = .ok (.getfield 32, 3) := do_180 (rdb (p := 32) (i := 26) ch_cX9_takeFrom_32 rfl) (rdb (p := 32) (i := 27) ch_cX9_takeFrom_32 rfl) (rdb (p := 32) (i := 28) ch_cX9_takeFrom_32 rfl) rfl
theorem dX9_takeFrom_61 : decode cX9_takeFrom 61 = .ok (.putfield 32, 3) := do_181 (rdb (p := 32) (i := 29) ch_cX9_takeFrom_32 rfl) (rdb (p := 32) (i := 30) ch_cX9_takeFrom_32 rfl) (rdb (p := 32) (i := 31) ch_cX9_takeFrom_32 rfl) rfl
theorem ch_cX9_takeFrom_64 : (cX9_takeFrom.data.toList.drop 64).take 36 = [42, 43, 180, 0, 35, 181, 0, 35, 43, 180, 0, 40, 3, 42, 180, 0, 40, 3, 17, 0, 192, 184, 0, 90, 43, 180, 0, 44, 3, 42, 180, 0, 44, 3, 17, 0] := by decide +kernel
theorem dX9_takeFrom_64 : decode cX9_takeFrom 64 = .ok (.aload_n 0, 1) := do_42 (rdb (p := 64) (i := 0) ch_cX9_takeFrom_64 rfl)
theorem dX9_takeFrom_65 : decode cX9_takeFrom 65 = .ok (.aload_n 1, 1) := do_43 (rdb (p := 64) (i := 1) ch_cX9_takeFrom_64 rfl)
theorem dX9_takeFrom_66 : decode cX9_takeFrom 66 = .ok (.getfield 35, 3) := do_180 (rdb (p := 64) (i := 2) ch_cX9_takeFrom_64 rfl) (rdb (p := 64) (i := 3) ch_cX9_takeFrom_64 rfl) (rdb (p := 64) (i := 4) ch_cX9_takeFrom_64 rfl) rfl
theorem dX9_takeFrom_69 : decode cX9_takeFrom 69 = .ok (.putfield 35, 3) := do_181 (rdb (p := 64) (i := 5) ch_cX9_takeFrom_64 rfl) (rdb (p := 64) (i := 6) ch_cX9_takeFrom_64 rfl) (rdb (p := 64) (i := 7) ch_cX9_takeFrom_64 rfl) rfl
theorem dX9_takeFrom_72 : decode cX9_takeFrom 72 = .ok (.aload_n 1, 1) := do_43 (rdb (p := 64) (i := 8) ch_cX9_takeFrom_64 rfl)
theorem dX9_takeFrom_73 : decode cX9_takeFrom 73 = .ok (.getfield 40, 3) := do_180 (rdb (p := 64) (i := 9) ch_cX9_takeFrom_64 rfl) (rdb (p := 64) (i := 10) ch_cX9_takeFrom_64 rfl) (rdb (p := 64) (i := 11) ch_cX9_takeFrom_64 rfl) rfl
theorem dX9_takeFrom_76 : decode cX9_takeFrom 76 = .ok (.iconst 0, 1) := do_3 (rdb (p := 64) (i := 12) ch_cX9_takeFrom_64 rfl)
theorem dX9_takeFrom_77 : decode cX9_takeFrom 77 = .ok (.aload_n 0, 1) := do_42 (rdb (p := 64) (i := 13) ch_cX9_takeFrom_64 rfl)
theorem dX9_takeFrom_78 : decode cX9_takeFrom 78 = .ok (.getfield 40, 3) := do_180 (rdb (p := 64) (i := 14) ch_cX9_takeFrom_64 rfl) (rdb (p := 64) (i := 15) ch_cX9_takeFrom_64 rfl) (rdb (p := 64) (i := 16) ch_cX9_takeFrom_64 rfl) rfl
theorem dX9_takeFrom_81 : decode cX9_takeFrom 81 = .ok (.iconst 0, 1) := do_3 (rdb (p := 64) (i := 17) ch_cX9_takeFrom_64 rfl)
theorem dX9_takeFrom_82 : decode cX9_takeFrom 82 = .ok (.sipush 192, 3) := do_17 (rdb (p := 64) (i := 18) ch_cX9_takeFrom_64 rfl) (rdb (p := 64) (i := 19) ch_cX9_takeFrom_64 rfl) (rdb (p := 64) (i := 20) ch_cX9_takeFrom_64 rfl) (by decide +kernel)
theorem dX9_takeFrom_85 : decode cX9_takeFrom 85 = .ok (.invokestatic 90, 3) := do_184 (rdb (p := 64) (i := 21) ch_cX9_takeFrom_64 rfl) (rdb (p := 64) (i := 22) ch_cX9_takeFrom_64 rfl) (rdb (p := 64) (i := 23) ch_cX9_takeFrom_64 rfl) rfl
theorem dX9_takeFrom_88 : decode cX9_takeFrom 88 = .ok (.aload_n 1, 1) := do_43 (rdb (p := 64) (i := 24) ch_cX9_takeFrom_64 rfl)
theorem dX9_takeFrom_89 : decode cX9_takeFrom 89 = .ok (.getfield 44, 3) := do_180 (rdb (p := 64) (i := 25) ch_cX9_takeFrom_64 rfl) (rdb (p := 64) (i := 26) ch_cX9_takeFrom_64 rfl) (rdb (p := 64) (i := 27) ch_cX9_takeFrom_64 rfl) rfl
theorem dX9_takeFrom_92 : decode cX9_takeFrom 92 = .ok (.iconst 0, 1) := do_3 (rdb (p := 64) (i := 28) ch_cX9_takeFrom_64 rfl)
theorem dX9_takeFrom_93 : decode cX9_takeFrom 93 = .ok (.aload_n 0, 1) := do_42 (rdb (p := 64) (i := 29) ch_cX9_takeFrom_64 rfl)
theorem dX9_takeFrom_94 : decode cX9_takeFrom 94 = .ok (.getfield 44, 3) := do_180 (rdb (p := 64) (i := 30) ch_cX9_takeFrom_64 rfl) (rdb (p := 64) (i := 31) ch_cX9_takeFrom_64 rfl) (rdb (p := 64) (i := 32) ch_cX9_takeFrom_64 rfl) rfl
theorem ch_cX9_takeFrom_96 : (cX9_takeFrom.data.toList.drop 96).take 36 = [44, 3, 17, 0, 192, 184, 0, 90, 177] := by decide +kernel
theorem dX9_takeFrom_97 : decode cX9_takeFrom 97 = .ok (.iconst 0, 1) := do_3 (rdb (p := 96) (i := 1) ch_cX9_takeFrom_96 rfl)
theorem dX9_takeFrom_98 : decode cX9_takeFrom 98 = .ok (.sipush 192, 3) := do_17 (rdb (p := 96) (i := 2) ch_cX9_takeFrom_96 rfl) (rdb (p := 96) (i := 3) ch_cX9_takeFrom_96 rfl) (rdb (p := 96) (i := 4) ch_cX9_takeFrom_96 rfl) (by decide +kernel)
theorem dX9_takeFrom_101 : decode cX9_takeFrom 101 = .ok (.invokestatic 90, 3) := do_184 (rdb (p := 96) (i := 5) ch_cX9_takeFrom_96 rfl) (rdb (p := 96) (i := 6) ch_cX9_takeFrom_96 rfl) (rdb (p := 96) (i := 7) ch_cX9_takeFrom_96 rfl) rfl
theorem dX9_takeFrom_104 : decode cX9_takeFrom 104 = .ok (.return_, 1) := do_177 (rdb (p := 96) (i := 8) ch_cX9_takeFrom_96 rfl)
theorem dX9_turn_0 : decode cX9_turn 0 = .ok (.aload_n 0, 1) := by decide +kernel
theorem dX9_turn_1 : decode cX9_turn 1 = .ok (.aload_n 0, 1) := by decide +kernel
theorem dX9_turn_2 : decode cX9_turn 2 = .ok (.getfield 16, 3) := by decide +kernel
theorem dX9_turn_5 : decode cX9_turn 5 = .ok (.iload_n 1, 1) := by decide +kernel
theorem dX9_turn_6 : decode cX9_turn 6 = .ok (.iadd, 1) := by decide +kernel
theorem dX9_turn_7 : decode cX9_turn 7 = .ok (.bipush 7, 2) := by decide +kernel
theorem dX9_turn_9 : decode cX9_turn 9 = .ok (.iand, 1) := by decide +kernel
theorem dX9_turn_10 : decode cX9_turn 10 = .ok (.putfield 16, 3) := by decide +kernel
theorem dX9_turn_13 : decode cX9_turn 13 = .ok (.return_, 1) := by decide +kernel
theorem dX9_yardsHeldFree_0 : decode cX9_yardsHeldFree 0 = .ok (.iconst 0, 1) := by decide +kernel
theorem dX9_yardsHeldFree_1 : decode cX9_yardsHeldFree 1 = .ok (.istore_n 1, 1) := by decide +kernel
theorem dX9_yardsHeldFree_2 : decode cX9_yardsHeldFree 2 = .ok (.iload_n 1, 1) := by decide +kernel
theorem dX9_yardsHeldFree_3 : decode cX9_yardsHeldFree 3 = .ok (.bipush 15, 2) := by decide +kernel
theorem dX9_yardsHeldFree_5 : decode cX9_yardsHeldFree 5 = .ok (.if_icmp .ge 31, 3) := by decide +kernel
theorem dX9_yardsHeldFree_8 : decode cX9_yardsHeldFree 8 = .ok (.aload_n 0, 1) := by decide +kernel
theorem dX9_yardsHeldFree_9 : decode cX9_yardsHeldFree 9 = .ok (.aload_n 0, 1) := by decide +kernel
theorem dX9_yardsHeldFree_10 : decode cX9_yardsHeldFree 10 = .ok (.getfield 13, 3) := by decide +kernel
theorem dX9_yardsHeldFree_13 : decode cX9_yardsHeldFree 13 = .ok (.aload_n 0, 1) := by decide +kernel
theorem dX9_yardsHeldFree_14 : decode cX9_yardsHeldFree 14 = .ok (.getfield 16, 3) := by decide +kernel
theorem dX9_yardsHeldFree_17 : decode cX9_yardsHeldFree 17 = .ok (.iload_n 1, 1) := by decide +kernel
theorem dX9_yardsHeldFree_18 : decode cX9_yardsHeldFree 18 = .ok (.iconst 1, 1) := by decide +kernel
theorem dX9_yardsHeldFree_19 : decode cX9_yardsHeldFree 19 = .ok (.iadd, 1) := by decide +kernel
theorem dX9_yardsHeldFree_20 : decode cX9_yardsHeldFree 20 = .ok (.invokestatic 86, 3) := by decide +kernel
theorem dX9_yardsHeldFree_23 : decode cX9_yardsHeldFree 23 = .ok (.invokevirtual 83, 3) := by decide +kernel
theorem dX9_yardsHeldFree_26 : decode cX9_yardsHeldFree 26 = .ok (.iconst 1, 1) := by decide +kernel
theorem dX9_yardsHeldFree_27 : decode cX9_yardsHeldFree 27 = .ok (.if_icmp .ne 9, 3) := by decide +kernel
theorem dX9_yardsHeldFree_30 : decode cX9_yardsHeldFree 30 = .ok (.iinc 1 1, 3) := by decide +kernel
theorem dX9_yardsHeldFree_33 : decode cX9_yardsHeldFree 33 = .ok (.goto (-31), 3) := by decide +kernel
theorem dX9_yardsHeldFree_36 : decode cX9_yardsHeldFree 36 = .ok (.iload_n 1, 1) := by decide +kernel
theorem dX9_yardsHeldFree_37 : decode cX9_yardsHeldFree 37 = .ok (.ireturn, 1) := by decide +kernel
theorem dX9_yardsToFull_0 : decode cX9_yardsToFull 0 = .ok (.iconst 1, 1) := by decide +kernel
theorem dX9_yardsToFull_1 : decode cX9_yardsToFull 1 = .ok (.istore_n 2, 1) := by decide +kernel
theorem dX9_yardsToFull_2 : decode cX9_yardsToFull 2 = .ok (.iload_n 2, 1) := by decide +kernel
theorem dX9_yardsToFull_3 : decode cX9_yardsToFull 3 = .ok (.bipush 9, 2) := by decide +kernel
theorem dX9_yardsToFull_5 : decode cX9_yardsToFull 5 = .ok (.if_icmp .gt 28, 3) := by decide +kernel
theorem dX9_yardsToFull_8 : decode cX9_yardsToFull 8 = .ok (.aload_n 0, 1) := by decide +kernel
theorem dX9_yardsToFull_9 : decode cX9_yardsToFull 9 = .ok (.aload_n 0, 1) := by decide +kernel
theorem dX9_yardsToFull_10 : decode cX9_yardsToFull 10 = .ok (.getfield 13, 3) := by decide +kernel
theorem dX9_yardsToFull_13 : decode cX9_yardsToFull 13 = .ok (.iload_n 1, 1) := by decide +kernel
theorem dX9_yardsToFull_14 : decode cX9_yardsToFull 14 = .ok (.iload_n 2, 1) := by decide +kernel
theorem dX9_yardsToFull_15 : decode cX9_yardsToFull 15 = .ok (.invokestatic 86, 3) := by decide +kernel
theorem dX9_yardsToFull_18 : decode cX9_yardsToFull 18 = .ok (.invokevirtual 83, 3) := by decide +kernel
theorem dX9_yardsToFull_21 : decode cX9_yardsToFull 21 = .ok (.iconst 2, 1) := by decide +kernel
theorem dX9_yardsToFull_22 : decode cX9_yardsToFull 22 = .ok (.if_icmp .ne 5, 3) := by decide +kernel
theorem dX9_yardsToFull_25 : decode cX9_yardsToFull 25 = .ok (.iload_n 2, 1) := by decide +kernel
theorem dX9_yardsToFull_26 : decode cX9_yardsToFull 26 = .ok (.ireturn, 1) := by decide +kernel
theorem dX9_yardsToFull_27 : decode cX9_yardsToFull 27 = .ok (.iinc 2 1, 3) := by decide +kernel
theorem dX9_yardsToFull_30 : decode cX9_yardsToFull 30 = .ok (.goto (-28), 3) := by decide +kernel
theorem dX9_yardsToFull_33 : decode cX9_yardsToFull 33 = .ok (.iconst 0, 1) := by decide +kernel
theorem dX9_yardsToFull_34 : decode cX9_yardsToFull 34 = .ok (.ireturn, 1) := by decide +kernel
