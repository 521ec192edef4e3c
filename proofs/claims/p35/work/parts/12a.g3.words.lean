/-! words of the tables that are used, by their places; decode rows; fields -/
theorem li_40 : (40 : Int32).toInt = 40 := by decide
theorem m_13 : Cond.selects yX7_letThingGo.cls yX7_letThingGo yX7_letThingGo ∈ BASE := bmem 13 (by decide +kernel) rfl
theorem m_121 : Cond.fieldLink RX7 9 "ClickStreet$Street" "occupants" "[I" ∈ BASE := bmem 121 (by decide +kernel) rfl
theorem m_124 : Cond.fieldLink RX7 13 "ClickStreet$Street" "kinds" "[I" ∈ BASE := bmem 124 (by decide +kernel) rfl
theorem m_126 : Cond.fieldLink RX7 16 "ClickStreet$Street" "cells" "[I" ∈ BASE := bmem 126 (by decide +kernel) rfl
theorem m_128 : Cond.fieldLink RX7 19 "ClickStreet$Street" "sides" "[I" ∈ BASE := bmem 128 (by decide +kernel) rfl
theorem m_130 : Cond.fieldLink RX7 22 "ClickStreet$Street" "steps" "[I" ∈ BASE := bmem 130 (by decide +kernel) rfl
theorem m_132 : Cond.fieldLink RX7 25 "ClickStreet$Street" "things" "I" ∈ BASE := bmem 132 (by decide +kernel) rfl
theorem m_506 : Cond.instanceMethod yX7_isFree ∈ BASE := bmem 506 (by decide +kernel) rfl
theorem m_507 : Cond.selects yX7_isFree.cls yX7_isFree yX7_isFree ∈ BASE := bmem 507 (by decide +kernel) rfl
theorem m_508 : Cond.code yX7_isFree cX7_isFree 2 (some .boolean) ∈ BASE := bmem 508 (by decide +kernel) rfl
theorem m_518 : Cond.methodLink RX7 42 yX7_settle ∈ BASE := bmem 518 (by decide +kernel) rfl
theorem m_519 : Cond.instanceMethod yX7_settle ∈ BASE := bmem 519 (by decide +kernel) rfl
theorem m_520 : Cond.selects yX7_settle.cls yX7_settle yX7_settle ∈ BASE := bmem 520 (by decide +kernel) rfl
theorem m_521 : Cond.code yX7_settle cX7_settle 3 none ∈ BASE := bmem 521 (by decide +kernel) rfl
theorem m_527 : Cond.instanceMethod yX7_hasThing ∈ BASE := bmem 527 (by decide +kernel) rfl
theorem m_528 : Cond.selects yX7_hasThing.cls yX7_hasThing yX7_hasThing ∈ BASE := bmem 528 (by decide +kernel) rfl
theorem m_529 : Cond.code yX7_hasThing cX7_hasThing 2 (some .boolean) ∈ BASE := bmem 529 (by decide +kernel) rfl
theorem m_534 : Cond.methodLink RX7 46 yX7_hasThing ∈ BASE := bmem 534 (by decide +kernel) rfl
theorem m_850 : Cond.static yX7_cellFrom ∈ BASE := bmem 850 (by decide +kernel) rfl
theorem m_851 : Cond.code yX7_cellFrom cX7_cellFrom 5 (some .int) ∈ BASE := bmem 851 (by decide +kernel) rfl
theorem m_1033 : Cond.methodLink RX7 49 yX7_letThingGo ∈ BASE := bmem 1033 (by decide +kernel) rfl
theorem m_1035 : Cond.instanceMethod yX7_letThingGo ∈ BASE := bmem 1035 (by decide +kernel) rfl
theorem m_1036 : Cond.code yX7_letThingGo cX7_letThingGo 3 none ∈ BASE := bmem 1036 (by decide +kernel) rfl
theorem m_1037 : Cond.methodLink RX7 53 yX7_cellFrom ∈ BASE := bmem 1037 (by decide +kernel) rfl
theorem m_1038 : Cond.methodLink RX7 57 yX7_isFree ∈ BASE := bmem 1038 (by decide +kernel) rfl
theorem m_1262 : Cond.methodLink RX7 60 arraycopyName ∈ BASE := bmem 1262 (by decide +kernel) rfl
theorem kS_X7_cellFrom : KS yX7_cellFrom cX7_cellFrom 5 (some .int) 3 := ⟨m_850, m_81, m_851, by decide +kernel, by decide +kernel, by decide +kernel⟩
theorem kV_X7_hasThing : KV yX7_hasThing cX7_hasThing 2 (some .boolean) 1 := ⟨m_527, m_528, m_81, m_529, by decide +kernel, by decide +kernel, by decide +kernel⟩
theorem kV_X7_isFree : KV yX7_isFree cX7_isFree 2 (some .boolean) 1 := ⟨m_506, m_507, m_81, m_508, by decide +kernel, by decide +kernel, by decide +kernel⟩
theorem kV_X7_letThingGo : KV yX7_letThingGo cX7_letThingGo 3 none 1 := ⟨m_1035, m_13, m_81, m_1036, by decide +kernel, by decide +kernel, by decide +kernel⟩
theorem kV_X7_settle : KV yX7_settle cX7_settle 3 none 2 := ⟨m_519, m_520, m_81, m_521, by decide +kernel, by decide +kernel, by decide +kernel⟩
theorem inB7 : ∀ w ∈ u_ws RX7 TX7 6, w ∈ BASE := bmems (u_ws RX7 TX7 6) [133, 135, 137, 139, 141, 143] (by decide +kernel) (by decide +kernel)
theorem fl_RX7_13 : FLK RX7 13 7 1 (.array .int) true := ⟨RX7, TX7, 6, tyX7, rfl, inB7, tyX7_ok, nmX7, by decide, rfl, rfl, Or.inl m_124⟩
theorem fl_RX7_16 : FLK RX7 16 7 2 (.array .int) true := ⟨RX7, TX7, 6, tyX7, rfl, inB7, tyX7_ok, nmX7, by decide, rfl, rfl, Or.inl m_126⟩
theorem fl_RX7_19 : FLK RX7 19 7 3 (.array .int) true := ⟨RX7, TX7, 6, tyX7, rfl, inB7, tyX7_ok, nmX7, by decide, rfl, rfl, Or.inl m_128⟩
theorem fl_RX7_22 : FLK RX7 22 7 4 (.array .int) true := ⟨RX7, TX7, 6, tyX7, rfl, inB7, tyX7_ok, nmX7, by decide, rfl, rfl, Or.inl m_130⟩
theorem fl_RX7_25 : FLK RX7 25 7 5 .int false := ⟨RX7, TX7, 6, tyX7, rfl, inB7, tyX7_ok, nmX7, by decide, rfl, rfl, Or.inl m_132⟩
theorem fl_RX7_9 : FLK RX7 9 7 0 (.array .int) true := ⟨RX7, TX7, 6, tyX7, rfl, inB7, tyX7_ok, nmX7, by decide, rfl, rfl, Or.inl m_121⟩
theorem ch_cX7_addThing_0 : (cX7_addThing.data.toList.drop 0).take 36 = [42, 180, 0, 25, 62, 29, 155, 0, 9, 29, 16, 40, 161, 0, 5, 2, 172, 42, 180, 0, 13, 29, 27, 79, 42, 180, 0, 16, 29, 28, 79, 42, 180, 0, 19, 29] := by decide +kernel
theorem dX7_addThing_0 : decode cX7_addThing 0 = .ok (.aload_n 0, 1) := do_42 (rdb (p := 0) (i := 0) ch_cX7_addThing_0 rfl)
theorem dX7_addThing_1 : decode cX7_addThing 1 = .ok (.getfield 25, 3) := do_180 (rdb (p := 0) (i := 1) ch_cX7_addThing_0 rfl) (rdb (p := 0) (i := 2) ch_cX7_addThing_0 rfl) (rdb (p := 0) (i := 3) ch_cX7_addThing_0 rfl) rfl
theorem dX7_addThing_4 : decode cX7_addThing 4 = .ok (.istore_n 3, 1) := do_62 (rdb (p := 0) (i := 4) ch_cX7_addThing_0 rfl)
theorem dX7_addThing_5 : decode cX7_addThing 5 = .ok (.iload_n 3, 1) := do_29 (rdb (p := 0) (i := 5) ch_cX7_addThing_0 rfl)
theorem dX7_addThing_6 : decode cX7_addThing 6 = .ok (.ifCond .lt 9, 3) := do_155 (rdb (p := 0) (i := 6) ch_cX7_addThing_0 rfl) (rdb (p := 0) (i := 7) ch_cX7_addThing_0 rfl) (rdb (p := 0) (i := 8) ch_cX7_addThing_0 rfl) (by decide +kernel)
theorem dX7_addThing_9 : decode cX7_addThing 9 = .ok (.iload_n 3, 1) := do_29 (rdb (p := 0) (i := 9) ch_cX7_addThing_0 rfl)
theorem dX7_addThing_10 : decode cX7_addThing 10 = .ok (.bipush 40, 2) := do_16 (rdb (p := 0) (i := 10) ch_cX7_addThing_0 rfl) (rdb (p := 0) (i := 11) ch_cX7_addThing_0 rfl) (by decide +kernel)
theorem dX7_addThing_12 : decode cX7_addThing 12 = .ok (.if_icmp .lt 5, 3) := do_161 (rdb (p := 0) (i := 12) ch_cX7_addThing_0 rfl) (rdb (p := 0) (i := 13) ch_cX7_addThing_0 rfl) (rdb (p := 0) (i := 14) ch_cX7_addThing_0 rfl) (by decide +kernel)
theorem dX7_addThing_15 : decode cX7_addThing 15 = .ok (.iconst (-1), 1) := do_2 (rdb (p := 0) (i := 15) ch_cX7_addThing_0 rfl)
theorem dX7_addThing_16 : decode cX7_addThing 16 = .ok (.ireturn, 1) := do_172 (rdb (p := 0) (i := 16) ch_cX7_addThing_0 rfl)
theorem dX7_addThing_17 : decode cX7_addThing 17 = .ok (.aload_n 0, 1) := do_42 (rdb (p := 0) (i := 17) ch_cX7_addThing_0 rfl)
theorem dX7_addThing_18 : decode cX7_addThing 18 = .ok (.getfield 13, 3) := do_180 (rdb (p := 0) (i := 18) ch_cX7_addThing_0 rfl) (rdb (p := 0) (i := 19) ch_cX7_addThing_0 rfl) (rdb (p := 0) (i := 20) ch_cX7_addThing_0 rfl) rfl
theorem dX7_addThing_21 : decode cX7_addThing 21 = .ok (.iload_n 3, 1) := do_29 (rdb (p := 0) (i := 21) ch_cX7_addThing_0 rfl)
theorem dX7_addThing_22 : decode cX7_addThing 22 = .ok (.iload_n 1, 1) := do_27 (rdb (p := 0) (i := 22) ch_cX7_addThing_0 rfl)
theorem dX7_addThing_23 : decode cX7_addThing 23 = .ok (.iastore, 1) := do_79 (rdb (p := 0) (i := 23) ch_cX7_addThing_0 rfl)
theorem dX7_addThing_24 : decode cX7_addThing 24 = .ok (.aload_n 0, 1) := do_42 (rdb (p := 0) (i := 24) ch_cX7_addThing_0 rfl)
theorem dX7_addThing_25 : decode cX7_addThing 25 = .ok (.getfield 16, 3) := do_180 (rdb (p := 0) (i := 25) ch_cX7_addThing_0 rfl) (rdb (p := 0) (i := 26) ch_cX7_addThing_0 rfl) (rdb (p := 0) (i := 27) ch_cX7_addThing_0 rfl) rfl
theorem dX7_addThing_28 : decode cX7_addThing 28 = .ok (.iload_n 3, 1) := do_29 (rdb (p := 0) (i := 28) ch_cX7_addThing_0 rfl)
theorem dX7_addThing_29 : decode cX7_addThing 29 = .ok (.iload_n 2, 1) := do_28 (rdb (p := 0) (i := 29) ch_cX7_addThing_0 rfl)
theorem dX7_addThing_30 : decode cX7_addThing 30 = .ok (.iastore, 1) := do_79 (rdb (p := 0) (i := 30) ch_cX7_addThing_0 rfl)
theorem dX7_addThing_31 : decode cX7_addThing 31 = .ok (.aload_n 0, 1) := do_42 (rdb (p := 0) (i := 31) ch_cX7_addThing_0 rfl)
theorem ch_cX7_addThing_32 : (cX7_addThing.data.toList.drop 32).take 36 = [180, 0, 19, 29, 3, 79, 42, 180, 0, 22, 29, 3, 79, 42, 28, 29, 182, 0, 42, 42, 89, 180, 0, 25, 4, 96, 181, 0, 25, 29, 172] := by decide +kernel
theorem dX7_addThing_32 : decode cX7_addThing 32 = .ok (.getfield 19, 3) := do_180 (rdb (p := 32) (i := 0) ch_cX7_addThing_32 rfl) (rdb (p := 32) (i := 1) ch_cX7_addThing_32 rfl) (rdb (p := 32) (i := 2) ch_cX7_addThing_32 rfl) rfl
theorem dX7_addThing_35 : decode cX7_addThing 35 = .ok (.iload_n 3, 1) := do_29 (rdb (p := 32) (i := 3) ch_cX7_addThing_32 rfl)
theorem dX7_addThing_36 : decode cX7_addThing 36 = .ok (.iconst 0, 1) := do_3 (rdb (p := 32) (i := 4) ch_cX7_addThing_32 rfl)
theorem dX7_addThing_37 : decode cX7_addThing 37 = .ok (.iastore, 1) := do_79 (rdb (p := 32) (i := 5) ch_cX7_addThing_32 rfl)
theorem dX7_addThing_38 : decode cX7_addThing 38 = .ok (.aload_n 0, 1) := do_42 (rdb (p := 32) (i := 6) ch_cX7_addThing_32 rfl)
theorem dX7_addThing_39 : decode cX7_addThing 39 = .ok (.getfield 22, 3) := do_180 (rdb (p := 32) (i := 7) ch_cX7_addThing_32 rfl) (rdb (p := 32) (i := 8) ch_cX7_addThing_32 rfl) (rdb (p := 32) (i := 9) ch_cX7_addThing_32 rfl) rfl
theorem dX7_addThing_42 : decode cX7_addThing 42 = .ok (.iload_n 3, 1) := do_29 (rdb (p := 32) (i := 10) ch_cX7_addThing_32 rfl)
theorem dX7_addThing_43 : decode cX7_addThing 43 = .ok (.iconst 0, 1) := do_3 (rdb (p := 32) (i := 11) ch_cX7_addThing_32 rfl)
theorem dX7_addThing_44 : decode cX7_addThing 44 = .ok (.iastore, 1) := do_79 (rdb (p := 32) (i := 12) ch_cX7_addThing_32 rfl)
theorem dX7_addThing_45 : decode cX7_addThing 45 = .ok (.aload_n 0, 1) := do_42 (rdb (p := 32) (i := 13) ch_cX7_addThing_32 rfl)
theorem dX7_addThing_46 : decode cX7_addThing 46 = .ok (.iload_n 2, 1) := do_28 (rdb (p := 32) (i := 14) ch_cX7_addThing_32 rfl)
theorem dX7_addThing_47 : decode cX7_addThing 47 = .ok (.iload_n 3, 1) := do_29 (rdb (p := 32) (i := 15) ch_cX7_addThing_32 rfl)
theorem dX7_addThing_48 : decode cX7_addThing 48 = .ok (.invokevirtual 42, 3) := do_182 (rdb (p := 32) (i := 16) ch_cX7_addThing_32 rfl) (rdb (p := 32) (i := 17) ch_cX7_addThing_32 rfl) (rdb (p := 32) (i := 18) ch_cX7_addThing_32 rfl) rfl
theorem dX7_addThing_51 : decode cX7_addThing 51 = .ok (.aload_n 0, 1) := do_42 (rdb (p := 32) (i := 19) ch_cX7_addThing_32 rfl)
theorem dX7_addThing_52 : decode cX7_addThing 52 = .ok (.dup, 1) := do_89 (rdb (p := 32) (i := 20) ch_cX7_addThing_32 rfl)
theorem dX7_addThing_53 : decode cX7_addThing 53 = .ok (.getfield 25, 3) := do_180 (rdb (p := 32) (i := 21) ch_cX7_addThing_32 rfl) (rdb (p := 32) (i := 22) ch_cX7_addThing_32 rfl) (rdb (p := 32) (i := 23) ch_cX7_addThing_32 rfl) rfl
theorem dX7_addThing_56 : decode cX7_addThing 56 = .ok (.iconst 1, 1) := do_4 (rdb (p := 32) (i := 24) ch_cX7_addThing_32 rfl)
theorem dX7_addThing_57 : decode cX7_addThing 57 = .ok (.iadd, 1) := do_96 (rdb (p := 32) (i := 25) ch_cX7_addThing_32 rfl)
theorem dX7_addThing_58 : decode cX7_addThing 58 = .ok (.putfield 25, 3) := do_181 (rdb (p := 32) (i := 26) ch_cX7_addThing_32 rfl) (rdb (p := 32) (i := 27) ch_cX7_addThing_32 rfl) (rdb (p := 32) (i := 28) ch_cX7_addThing_32 rfl) rfl
theorem dX7_addThing_61 : decode cX7_addThing 61 = .ok (.iload_n 3, 1) := do_29 (rdb (p := 32) (i := 29) ch_cX7_addThing_32 rfl)
theorem dX7_addThing_62 : decode cX7_addThing 62 = .ok (.ireturn, 1) := do_172 (rdb (p := 32) (i := 30) ch_cX7_addThing_32 rfl)
theorem dX7_countThings_0 : decode cX7_countThings 0 = .ok (.iconst 0, 1) := by decide +kernel
theorem dX7_countThings_1 : decode cX7_countThings 1 = .ok (.istore_n 1, 1) := by decide +kernel
theorem dX7_countThings_2 : decode cX7_countThings 2 = .ok (.iconst 0, 1) := by decide +kernel
theorem dX7_countThings_3 : decode cX7_countThings 3 = .ok (.istore_n 2, 1) := by decide +kernel
theorem dX7_countThings_4 : decode cX7_countThings 4 = .ok (.iload_n 2, 1) := by decide +kernel
theorem dX7_countThings_5 : decode cX7_countThings 5 = .ok (.aload_n 0, 1) := by decide +kernel
theorem dX7_countThings_6 : decode cX7_countThings 6 = .ok (.getfield 25, 3) := by decide +kernel
theorem dX7_countThings_9 : decode cX7_countThings 9 = .ok (.if_icmp .ge 27, 3) := by decide +kernel
theorem dX7_countThings_12 : decode cX7_countThings 12 = .ok (.iload_n 2, 1) := by decide +kernel
theorem dX7_countThings_13 : decode cX7_countThings 13 = .ok (.bipush 40, 2) := by decide +kernel
theorem dX7_countThings_15 : decode cX7_countThings 15 = .ok (.if_icmp .ge 21, 3) := by decide +kernel
theorem dX7_countThings_18 : decode cX7_countThings 18 = .ok (.aload_n 0, 1) := by decide +kernel
theorem dX7_countThings_19 : decode cX7_countThings 19 = .ok (.getfield 16, 3) := by decide +kernel
theorem dX7_countThings_22 : decode cX7_countThings 22 = .ok (.iload_n 2, 1) := by decide +kernel
theorem dX7_countThings_23 : decode cX7_countThings 23 = .ok (.iaload, 1) := by decide +kernel
theorem dX7_countThings_24 : decode cX7_countThings 24 = .ok (.ifCond .lt 6, 3) := by decide +kernel
theorem dX7_countThings_27 : decode cX7_countThings 27 = .ok (.iinc 1 1, 3) := by decide +kernel
theorem dX7_countThings_30 : decode cX7_countThings 30 = .ok (.iinc 2 1, 3) := by decide +kernel
theorem dX7_countThings_33 : decode cX7_countThings 33 = .ok (.goto (-29), 3) := by decide +kernel
theorem dX7_countThings_36 : decode cX7_countThings 36 = .ok (.iload_n 1, 1) := by decide +kernel
theorem dX7_countThings_37 : decode cX7_countThings 37 = .ok (.ireturn, 1) := by decide +kernel
theorem ch_cX7_factOf_0 : (cX7_factOf.data.toList.drop 0).take 36 = [42, 27, 182, 0, 46, 154, 0, 5, 3, 172, 28, 170, 0, 0, 0, 46, 0, 0, 0, 0, 0, 0, 0, 2, 0, 0, 0, 25, 0, 0, 0, 32, 0, 0, 0, 39] := by decide +kernel
theorem dX7_factOf_0 : decode cX7_factOf 0 = .ok (.aload_n 0, 1) := do_42 (rdb (p := 0) (i := 0) ch_cX7_factOf_0 rfl)
theorem dX7_factOf_1 : decode cX7_factOf 1 = .ok (.iload_n 1, 1) := do_27 (rdb (p := 0) (i := 1) ch_cX7_factOf_0 rfl)
theorem dX7_factOf_2 : decode cX7_factOf 2 = .ok (.invokevirtual 46, 3) := do_182 (rdb (p := 0) (i := 2) ch_cX7_factOf_0 rfl) (rdb (p := 0) (i := 3) ch_cX7_factOf_0 rfl) (rdb (p := 0) (i := 4) ch_cX7_factOf_0 rfl) rfl
theorem dX7_factOf_5 : decode cX7_factOf 5 = .ok (.ifCond .ne 5, 3) := do_154 (rdb (p := 0) (i := 5) ch_cX7_factOf_0 rfl) (rdb (p := 0) (i := 6) ch_cX7_factOf_0 rfl) (rdb (p := 0) (i := 7) ch_cX7_factOf_0 rfl) (by decide +kernel)
theorem dX7_factOf_8 : decode cX7_factOf 8 = .ok (.iconst 0, 1) := do_3 (rdb (p := 0) (i := 8) ch_cX7_factOf_0 rfl)
theorem dX7_factOf_9 : decode cX7_factOf 9 = .ok (.ireturn, 1) := do_172 (rdb (p := 0) (i := 9) ch_cX7_factOf_0 rfl)
theorem dX7_factOf_10 : decode cX7_factOf 10 = .ok (.iload_n 2, 1) := do_28 (rdb (p := 0) (i := 10) ch_cX7_factOf_0 rfl)
theorem dX7_factOf_11 : decode cX7_factOf 11 = .ok (.tableswitch 46 0 2 #[25, 32, 39], 25) := by decide +kernel
theorem ch_cX7_factOf_32 : (cX7_factOf.data.toList.drop 32).take 36 = [0, 0, 0, 39, 42, 180, 0, 13, 27, 46, 172, 42, 180, 0, 16, 27, 46, 172, 42, 180, 0, 19, 27, 46, 172, 42, 180, 0, 22, 27, 46, 172] := by decide +kernel
theorem dX7_factOf_36 : decode cX7_factOf 36 = .ok (.aload_n 0, 1) := do_42 (rdb (p := 32) (i := 4) ch_cX7_factOf_32 rfl)
theorem dX7_factOf_37 : decode cX7_factOf 37 = .ok (.getfield 13, 3) := do_180 (rdb (p := 32) (i := 5) ch_cX7_factOf_32 rfl) (rdb (p := 32) (i := 6) ch_cX7_factOf_32 rfl) (rdb (p := 32) (i := 7) ch_cX7_factOf_32 rfl) rfl
theorem dX7_factOf_40 : decode cX7_factOf 40 = .ok (.iload_n 1, 1) := do_27 (rdb (p := 32) (i := 8) ch_cX7_factOf_32 rfl)
theorem dX7_factOf_41 : decode cX7_factOf 41 = .ok (.iaload, 1) := do_46 (rdb (p := 32) (i := 9) ch_cX7_factOf_32 rfl)
theorem dX7_factOf_42 : decode cX7_factOf 42 = .ok (.ireturn, 1) := do_172 (rdb (p := 32) (i := 10) ch_cX7_factOf_32 rfl)
theorem dX7_factOf_43 : decode cX7_factOf 43 = .ok (.aload_n 0, 1) := do_42 (rdb (p := 32) (i := 11) ch_cX7_factOf_32 rfl)
theorem dX7_factOf_44 : decode cX7_factOf 44 = .ok (.getfield 16, 3) := do_180 (rdb (p := 32) (i := 12) ch_cX7_factOf_32 rfl) (rdb (p := 32) (i := 13) ch_cX7_factOf_32 rfl) (rdb (p := 32) (i := 14) ch_cX7_factOf_32 rfl) rfl
theorem dX7_factOf_47 : decode cX7_factOf 47 = .ok (.iload_n 1, 1) := do_27 (rdb (p := 32) (i := 15) ch_cX7_factOf_32 rfl)
theorem dX7_factOf_48 : decode cX7_factOf 48 = .ok (.iaload, 1) := do_46 (rdb (p := 32) (i := 16) ch_cX7_factOf_32 rfl)
theorem dX7_factOf_49 : decode cX7_factOf 49 = .ok (.ireturn, 1) := do_172 (rdb (p := 32) (i := 17) ch_cX7_factOf_32 rfl)
theorem dX7_factOf_50 : decode cX7_factOf 50 = .ok (.aload_n 0, 1) := do_42 (rdb (p := 32) (i := 18) ch_cX7_factOf_32 rfl)
theorem dX7_factOf_51 : decode cX7_factOf 51 = .ok (.getfield 19, 3) := do_180 (rdb (p := 32) (i := 19) ch_cX7_factOf_32 rfl) (rdb (p := 32) (i := 20) ch_cX7_factOf_32 rfl) (rdb (p := 32) (i := 21) ch_cX7_factOf_32 rfl) rfl
theorem dX7_factOf_54 : decode cX7_factOf 54 = .ok (.iload_n 1, 1) := do_27 (rdb (p := 32) (i := 22) ch_cX7_factOf_32 rfl)
theorem dX7_factOf_55 : decode cX7_factOf 55 = .ok (.iaload, 1) := do_46 (rdb (p := 32) (i := 23) ch_cX7_factOf_32 rfl)
theorem dX7_factOf_56 : decode cX7_factOf 56 = .ok (.ireturn, 1) := do_172 (rdb (p := 32) (i := 24) ch_cX7_factOf_32 rfl)
theorem dX7_factOf_57 : decode cX7_factOf 57 = .ok (.aload_n 0, 1) := do_42 (rdb (p := 32) (i := 25) ch_cX7_factOf_32 rfl)
theorem dX7_factOf_58 : decode cX7_factOf 58 = .ok (.getfield 22, 3) := do_180 (rdb (p := 32) (i := 26) ch_cX7_factOf_32 rfl) (rdb (p := 32) (i := 27) ch_cX7_factOf_32 rfl) (rdb (p := 32) (i := 28) ch_cX7_factOf_32 rfl) rfl
theorem dX7_factOf_61 : decode cX7_factOf 61 = .ok (.iload_n 1, 1) := do_27 (rdb (p := 32) (i := 29) ch_cX7_factOf_32 rfl)
theorem dX7_factOf_62 : decode cX7_factOf 62 = .ok (.iaload, 1) := do_46 (rdb (p := 32) (i := 30) ch_cX7_factOf_32 rfl)
theorem dX7_factOf_63 : decode cX7_factOf 63 = .ok (.ireturn, 1) := do_172 (rdb (p := 32) (i := 31) ch_cX7_factOf_32 rfl)
theorem dX7_hasRoom_0 : decode cX7_hasRoom 0 = .ok (.aload_n 0, 1) := by decide +kernel
theorem dX7_hasRoom_1 : decode cX7_hasRoom 1 = .ok (.getfield 25, 3) := by decide +kernel
theorem dX7_hasRoom_4 : decode cX7_hasRoom 4 = .ok (.bipush 40, 2) := by decide +kernel
theorem dX7_hasRoom_6 : decode cX7_hasRoom 6 = .ok (.if_icmp .ge 7, 3) := by decide +kernel
theorem dX7_hasRoom_9 : decode cX7_hasRoom 9 = .ok (.iconst 1, 1) := by decide +kernel
theorem dX7_hasRoom_10 : decode cX7_hasRoom 10 = .ok (.goto 4, 3) := by decide +kernel
theorem dX7_hasRoom_13 : decode cX7_hasRoom 13 = .ok (.iconst 0, 1) := by decide +kernel
theorem dX7_hasRoom_14 : decode cX7_hasRoom 14 = .ok (.ireturn, 1) := by decide +kernel
theorem dX7_hasThing_0 : decode cX7_hasThing 0 = .ok (.iload_n 1, 1) := by decide +kernel
theorem dX7_hasThing_1 : decode cX7_hasThing 1 = .ok (.ifCond .lt 21, 3) := by decide +kernel
theorem dX7_hasThing_4 : decode cX7_hasThing 4 = .ok (.iload_n 1, 1) := by decide +kernel
theorem dX7_hasThing_5 : decode cX7_hasThing 5 = .ok (.aload_n 0, 1) := by decide +kernel
theorem dX7_hasThing_6 : decode cX7_hasThing 6 = .ok (.getfield 25, 3) := by decide +kernel
theorem dX7_hasThing_9 : decode cX7_hasThing 9 = .ok (.if_icmp .ge 13, 3) := by decide +kernel
theorem dX7_hasThing_12 : decode cX7_hasThing 12 = .ok (.iload_n 1, 1) := by decide +kernel
theorem dX7_hasThing_13 : decode cX7_hasThing 13 = .ok (.bipush 40, 2) := by decide +kernel
theorem dX7_hasThing_15 : decode cX7_hasThing 15 = .ok (.if_icmp .ge 7, 3) := by decide +kernel
theorem dX7_hasThing_18 : decode cX7_hasThing 18 = .ok (.iconst 1, 1) := by decide +kernel
theorem dX7_hasThing_19 : decode cX7_hasThing 19 = .ok (.goto 4, 3) := by decide +kernel
theorem dX7_hasThing_22 : decode cX7_hasThing 22 = .ok (.iconst 0, 1) := by decide +kernel
theorem dX7_hasThing_23 : decode cX7_hasThing 23 = .ok (.ireturn, 1) := by decide +kernel
theorem dX7_isFree_0 : decode cX7_isFree 0 = .ok (.iload_n 1, 1) := by decide +kernel
theorem dX7_isFree_1 : decode cX7_isFree 1 = .ok (.invokestatic 29, 3) := by decide +kernel
theorem dX7_isFree_4 : decode cX7_isFree 4 = .ok (.ifCond .eq 17, 3) := by decide +kernel
theorem dX7_isFree_7 : decode cX7_isFree 7 = .ok (.aload_n 0, 1) := by decide +kernel
theorem dX7_isFree_8 : decode cX7_isFree 8 = .ok (.getfield 9, 3) := by decide +kernel
theorem dX7_isFree_11 : decode cX7_isFree 11 = .ok (.iload_n 1, 1) := by decide +kernel
theorem dX7_isFree_12 : decode cX7_isFree 12 = .ok (.iaload, 1) := by decide +kernel
theorem dX7_isFree_13 : decode cX7_isFree 13 = .ok (.iconst (-1), 1) := by decide +kernel
theorem dX7_isFree_14 : decode cX7_isFree 14 = .ok (.if_icmp .ne 7, 3) := by decide +kernel
theorem dX7_isFree_17 : decode cX7_isFree 17 = .ok (.iconst 1, 1) := by decide +kernel
theorem dX7_isFree_18 : decode cX7_isFree 18 = .ok (.goto 4, 3) := by decide +kernel
theorem dX7_isFree_21 : decode cX7_isFree 21 = .ok (.iconst 0, 1) := by decide +kernel
theorem dX7_isFree_22 : decode cX7_isFree 22 = .ok (.ireturn, 1) := by decide +kernel
theorem dX7_kindIn_0 : decode cX7_kindIn 0 = .ok (.iload_n 1, 1) := by decide +kernel
theorem dX7_kindIn_1 : decode cX7_kindIn 1 = .ok (.invokestatic 29, 3) := by decide +kernel
theorem dX7_kindIn_4 : decode cX7_kindIn 4 = .ok (.ifCond .eq 12, 3) := by decide +kernel
theorem dX7_kindIn_7 : decode cX7_kindIn 7 = .ok (.aload_n 0, 1) := by decide +kernel
theorem dX7_kindIn_8 : decode cX7_kindIn 8 = .ok (.getfield 9, 3) := by decide +kernel
theorem dX7_kindIn_11 : decode cX7_kindIn 11 = .ok (.iload_n 1, 1) := by decide +kernel
theorem dX7_kindIn_12 : decode cX7_kindIn 12 = .ok (.iaload, 1) := by decide +kernel
theorem dX7_kindIn_13 : decode cX7_kindIn 13 = .ok (.goto 4, 3) := by decide +kernel
theorem dX7_kindIn_16 : decode cX7_kindIn 16 = .ok (.iconst (-1), 1) := by decide +kernel
theorem dX7_kindIn_17 : decode cX7_kindIn 17 = .ok (.istore_n 2, 1) := by decide +kernel
theorem dX7_kindIn_18 : decode cX7_kindIn 18 = .ok (.aload_n 0, 1) := by decide +kernel
theorem dX7_kindIn_19 : decode cX7_kindIn 19 = .ok (.iload_n 2, 1) := by decide +kernel
theorem dX7_kindIn_20 : decode cX7_kindIn 20 = .ok (.invokevirtual 46, 3) := by decide +kernel
theorem dX7_kindIn_23 : decode cX7_kindIn 23 = .ok (.ifCond .eq 12, 3) := by decide +kernel
theorem dX7_kindIn_26 : decode cX7_kindIn 26 = .ok (.aload_n 0, 1) := by decide +kernel
theorem dX7_kindIn_27 : decode cX7_kindIn 27 = .ok (.getfield 13, 3) := by decide +kernel
theorem dX7_kindIn_30 : decode cX7_kindIn 30 = .ok (.iload_n 2, 1) := by decide +kernel
theorem dX7_kindIn_31 : decode cX7_kindIn 31 = .ok (.iaload, 1) := by decide +kernel
theorem dX7_kindIn_32 : decode cX7_kindIn 32 = .ok (.goto 4, 3) := by decide +kernel
theorem dX7_kindIn_35 : decode cX7_kindIn 35 = .ok (.iconst 3, 1) := by decide +kernel
theorem dX7_kindIn_36 : decode cX7_kindIn 36 = .ok (.ireturn, 1) := by decide +kernel
theorem ch_cX7_letThingGo_0 : (cX7_letThingGo.data.toList.drop 0).take 36 = [42, 27, 182, 0, 46, 154, 0, 4, 177, 42, 180, 0, 16, 27, 46, 42, 180, 0, 19, 27, 46, 4, 184, 0, 53, 61, 42, 28, 182, 0, 57, 153, 0, 30, 42, 42] := by decide +kernel
theorem dX7_letThingGo_0 : decode cX7_letThingGo 0 = .ok (.aload_n 0, 1) := do_42 (rdb (p := 0) (i := 0) ch_cX7_letThingGo_0 rfl)
theorem dX7_letThingGo_1 : decode cX7_letThingGo 1 = .ok (.iload_n 1, 1) := do_27 (rdb (p := 0) (i := 1) ch_cX7_letThingGo_0 rfl)
theorem dX7_letThingGo_2 : decode cX7_letThingGo 2 = .ok (.invokevirtual 46, 3) := do_182 (rdb (p := 0) (i := 2) ch_cX7_letThingGo_0 rfl) (rdb (p := 0) (i := 3) ch_cX7_letThingGo_0 rfl) (rdb (p := 0) (i := 4) ch_cX7_letThingGo_0 rfl) rfl
theorem dX7_letThingGo_5 : decode cX7_letThingGo 5 = .ok (.ifCond .ne 4, 3) := do_154 (rdb (p := 0) (i := 5) ch_cX7_letThingGo_0 rfl) (rdb (p := 0) (i := 6) ch_cX7_letThingGo_0 rfl) (rdb (p := 0) (i := 7) ch_cX7_letThingGo_0 rfl) (by decide +kernel)
theorem dX7_letThingGo_8 : decode cX7_letThingGo 8 = .ok (.return_, 1) := do_177 (rdb (p := 0) (i := 8) ch_cX7_letThingGo_0 rfl)
theorem dX7_letThingGo_9 : decode cX7_letThingGo 9 = .ok (.aload_n 0, 1) := do_42 (rdb (p := 0) (i := 9) ch_cX7_letThingGo_0 rfl)
theorem dX7_letThingGo_10 : decode cX7_letThingGo 10 = .ok (.getfield 16, 3) := do_180 (rdb (p := 0) (i := 10) ch_cX7_letThingGo_0 rfl) (rdb (p := 0) (i := 11) ch_cX7_letThingGo_0 rfl) (rdb (p := 0) (i := 12) ch_cX7_letThingGo_0 rfl) rfl
theorem dX7_letThingGo_13 : decode cX7_letThingGo 13 = .ok (.iload_n 1, 1) := do_27 (rdb (p := 0) (i := 13) ch_cX7_letThingGo_0 rfl)
theorem dX7_letThingGo_14 : decode cX7_letThingGo 14 = .ok (.iaload, 1) := do_46 (rdb (p := 0) (i := 14) ch_cX7_letThingGo_0 rfl)
theorem dX7_letThingGo_15 : decode cX7_letThingGo 15 = .ok (.aload_n 0, 1) := do_42 (rdb (p := 0) (i := 15) ch_cX7_letThingGo_0 rfl)
theorem dX7_letThingGo_16 : decode cX7_letThingGo 16 = .ok (.getfield 19, 3) := do_180 (rdb (p := 0) (i := 16) ch_cX7_letThingGo_0 rfl) (rdb (p := 0) (i := 17) ch_cX7_letThingGo_0 rfl) (rdb (p := 0) (i := 18) ch_cX7_letThingGo_0 rfl) rfl
theorem dX7_letThingGo_19 : decode cX7_letThingGo 19 = .ok (.iload_n 1, 1) := do_27 (rdb (p := 0) (i := 19) ch_cX7_letThingGo_0 rfl)
theorem dX7_letThingGo_20 : decode cX7_letThingGo 20 = .ok (.iaload, 1) := do_46 (rdb (p := 0) (i := 20) ch_cX7_letThingGo_0 rfl)
theorem dX7_letThingGo_21 : decode cX7_letThingGo 21 = .ok (.iconst 1, 1) := do_4 (rdb (p := 0) (i := 21) ch_cX7_letThingGo_0 rfl)
theorem dX7_letThingGo_22 : decode cX7_letThingGo 22 = .ok (.invokestatic 53, 3) := do_184 (rdb (p := 0) (i := 22) ch_cX7_letThingGo_0 rfl) (rdb (p := 0) (i := 23) ch_cX7_letThingGo_0 rfl) (rdb (p := 0) (i := 24) ch_cX7_letThingGo_0 rfl) rfl
theorem dX7_letThingGo_25 : decode cX7_letThingGo 25 = .ok (.istore_n 2, 1) := do_61 (rdb (p := 0) (i := 25) ch_cX7_letThingGo_0 rfl)
theorem dX7_letThingGo_26 : decode cX7_letThingGo 26 = .ok (.aload_n 0, 1) := do_42 (rdb (p := 0) (i := 26) ch_cX7_letThingGo_0 rfl)
theorem dX7_letThingGo_27 : decode cX7_letThingGo 27 = .ok (.iload_n 2, 1) := do_28 (rdb (p := 0) (i := 27) ch_cX7_letThingGo_0 rfl)
theorem dX7_letThingGo_28 : decode cX7_letThingGo 28 = .ok (.invokevirtual 57, 3) := do_182 (rdb (p := 0) (i := 28) ch_cX7_letThingGo_0 rfl) (rdb (p := 0) (i := 29) ch_cX7_letThingGo_0 rfl) (rdb (p := 0) (i := 30) ch_cX7_letThingGo_0 rfl) rfl
theorem dX7_letThingGo_31 : decode cX7_letThingGo 31 = .ok (.ifCond .eq 30, 3) := do_153 (rdb (p := 0) (i := 31) ch_cX7_letThingGo_0 rfl) (rdb (p := 0) (i := 32) ch_cX7_letThingGo_0 rfl) (rdb (p := 0) (i := 33) ch_cX7_letThingGo_0 rfl) (by decide +kernel)
theorem ch_cX7_letThingGo_32 : (cX7_letThingGo.data.toList.drop 32).take 36 = [0, 30, 42, 42, 180, 0, 16, 27, 46, 2, 182, 0, 42, 42, 28, 27, 182, 0, 42, 42, 180, 0, 16, 27, 28, 79, 167, 0, 20, 42, 180, 0, 19, 27, 42, 180] := by decide +kernel
theorem dX7_letThingGo_34 : decode cX7_letThingGo 34 = .ok (.aload_n 0, 1) := do_42 (rdb (p := 32) (i := 2) ch_cX7_letThingGo_32 rfl)
theorem dX7_letThingGo_35 : decode cX7_letThingGo 35 = .ok (.aload_n 0, 1) := do_42 (rdb (p := 32) (i := 3) ch_cX7_letThingGo_32 rfl)
theorem dX7_letThingGo_36 : decode cX7_letThingGo 36 = .ok (.getfield 16, 3) := do_180 (rdb (p := 32) (i := 4) ch_cX7_letThingGo_32 rfl) (rdb (p := 32) (i := 5) ch_cX7_letThingGo_32 rfl) (rdb (p := 32) (i := 6) ch_cX7_letThingGo_32 rfl) rfl
theorem dX7_letThingGo_39 : decode cX7_letThingGo 39 = .ok (.iload_n 1, 1) := do_27 (rdb (p := 32) (i := 7) ch_cX7_letThingGo_32 rfl)
theorem dX7_letThingGo_40 : decode cX7_letThingGo 40 = .ok (.iaload, 1) := do_46 (rdb (p := 32) (i := 8) ch_cX7_letThingGo_32 rfl)
theorem dX7_letThingGo_41 : decode cX7_letThingGo 41 = .ok (.iconst (-1), 1) := do_2 (rdb (p := 32) (i := 9) ch_cX7_letThingGo_32 rfl)
theorem dX7_letThingGo_42 : decode cX7_letThingGo 42 = .ok (.invokevirtual 42, 3) := do_182 (rdb (p := 32) (i := 10) ch_cX7_letThingGo_32 rfl) (rdb (p := 32) (i := 11) ch_cX7_letThingGo_32 rfl) (rdb (p := 32) (i := 12) ch_cX7_letThingGo_32 rfl) rfl
theorem dX7_letThingGo_45 : decode cX7_letThingGo 45 = .ok (.aload_n 0, 1) := do_42 (rdb (p := 32) (i := 13) ch_cX7_letThingGo_32 rfl)
theorem dX7_letThingGo_46 : decode cX7_letThingGo 46 = .ok (.iload_n 2, 1) := do_28 (rdb (p := 32) (i := 14) ch_cX7_letThingGo_32 rfl)
theorem dX7_letThingGo_47 : decode cX7_letThingGo 47 = .ok (.iload_n 1, 1) := do_27 (rdb (p := 32) (i := 15) ch_cX7_letThingGo_32 rfl)
theorem dX7_letThingGo_48 : decode cX7_letThingGo 48 = .ok (.invokevirtual 42, 3) := do_182 (rdb (p := 32) (i := 16) ch_cX7_letThingGo_32 rfl) (rdb (p := 32) (i := 17) ch_cX7_letThingGo_32 rfl) (rdb (p := 32) (i := 18) ch_cX7_letThingGo_32 rfl) rfl
theorem dX7_letThingGo_51 : decode cX7_letThingGo 51 = .ok (.aload_n 0, 1) := do_42 (rdb (p := 32) (i := 19) ch_cX7_letThingGo_32 rfl)
theorem dX7_letThingGo_52 : decode cX7_letThingGo 52 = .ok (.getfield 16, 3) := do_180 (rdb (p := 32) (i := 20) ch_cX7_letThingGo_32 rfl) (rdb (p := 32) (i := 21) ch_cX7_letThingGo_32 rfl) (rdb (p := 32) (i := 22) ch_cX7_letThingGo_32 rfl) rfl
theorem dX7_letThingGo_55 : decode cX7_letThingGo 55 = .ok (.iload_n 1, 1) := do_27 (rdb (p := 32) (i := 23) ch_cX7_letThingGo_32 rfl)
theorem dX7_letThingGo_56 : decode cX7_letThingGo 56 = .ok (.iload_n 2, 1) := do_28 (rdb (p := 32) (i := 24) ch_cX7_letThingGo_32 rfl)
theorem dX7_letThingGo_57 : decode cX7_letThingGo 57 = .ok (.iastore, 1) := do_79 (rdb (p := 32) (i := 25) ch_cX7_letThingGo_32 rfl)
theorem dX7_letThingGo_58 : decode cX7_letThingGo 58 = .ok (.goto 20, 3) := do_167 (rdb (p := 32) (i := 26) ch_cX7_letThingGo_32 rfl) (rdb (p := 32) (i := 27) ch_cX7_letThingGo_32 rfl) (rdb (p := 32) (i := 28) ch_cX7_letThingGo_32 rfl) (by decide +kernel)
theorem dX7_letThingGo_61 : decode cX7_letThingGo 61 = .ok (.aload_n 0, 1) := do_42 (rdb (p := 32) (i := 29) ch_cX7_letThingGo_32 rfl)
theorem dX7_letThingGo_62 : decode cX7_letThingGo 62 = .ok (.getfield 19, 3) := do_180 (rdb (p := 32) (i := 30) ch_cX7_letThingGo_32 rfl) (rdb (p := 32) (i := 31) ch_cX7_letThingGo_32 rfl) (rdb (p := 32) (i := 32) ch_cX7_letThingGo_32 rfl) rfl
theorem ch_cX7_letThingGo_64 : (cX7_letThingGo.data.toList.drop 64).take 36 = [19, 27, 42, 180, 0, 19, 27, 46, 7, 96, 16, 7, 126, 79, 177] := by decide +kernel
theorem dX7_letThingGo_65 : decode cX7_letThingGo 65 = .ok (.iload_n 1, 1) := do_27 (rdb (p := 64) (i := 1) ch_cX7_letThingGo_64 rfl)
theorem dX7_letThingGo_66 : decode cX7_letThingGo 66 = .ok (.aload_n 0, 1) := do_42 (rdb (p := 64) (i := 2) ch_cX7_letThingGo_64 rfl)
theorem dX7_letThingGo_67 : decode cX7_letThingGo 67 = .ok (.getfield 19, 3) := do_180 (rdb (p := 64) (i := 3) ch_cX7_letThingGo_64 rfl) (rdb (p := 64) (i := 4) ch_cX7_letThingGo_64 rfl) (rdb (p := 64) (i := 5) ch_cX7_letThingGo_64 rfl) rfl
theorem dX7_letThingGo_70 : decode cX7_letThingGo 70 = .ok (.iload_n 1, 1) := do_27 (rdb (p := 64) (i := 6) ch_cX7_letThingGo_64 rfl)
theorem dX7_letThingGo_71 : decode cX7_letThingGo 71 = .ok (.iaload, 1) := do_46 (rdb (p := 64) (i := 7) ch_cX7_letThingGo_64 rfl)
theorem dX7_letThingGo_72 : decode cX7_letThingGo 72 = .ok (.iconst 4, 1) := do_7 (rdb (p := 64) (i := 8) ch_cX7_letThingGo_64 rfl)
theorem dX7_letThingGo_73 : decode cX7_letThingGo 73 = .ok (.iadd, 1) := do_96 (rdb (p := 64) (i := 9) ch_cX7_letThingGo_64 rfl)
theorem dX7_letThingGo_74 : decode cX7_letThingGo 74 = .ok (.bipush 7, 2) := do_16 (rdb (p := 64) (i := 10) ch_cX7_letThingGo_64 rfl) (rdb (p := 64) (i := 11) ch_cX7_letThingGo_64 rfl) (by decide +kernel)
theorem dX7_letThingGo_76 : decode cX7_letThingGo 76 = .ok (.iand, 1) := do_126 (rdb (p := 64) (i := 12) ch_cX7_letThingGo_64 rfl)
theorem dX7_letThingGo_77 : decode cX7_letThingGo 77 = .ok (.iastore, 1) := do_79 (rdb (p := 64) (i := 13) ch_cX7_letThingGo_64 rfl)
theorem dX7_letThingGo_78 : decode cX7_letThingGo 78 = .ok (.return_, 1) := do_177 (rdb (p := 64) (i := 14) ch_cX7_letThingGo_64 rfl)
theorem ch_cX7_letThingsGo_0 : (cX7_letThingsGo.data.toList.drop 0).take 36 = [3, 61, 28, 42, 180, 0, 25, 162, 0, 46, 28, 16, 40, 162, 0, 40, 42, 180, 0, 22, 28, 46, 62, 42, 180, 0, 16, 28, 46, 155, 0, 18, 29, 158, 0, 14] := by decide +kernel
theorem dX7_letThingsGo_0 : decode cX7_letThingsGo 0 = .ok (.iconst 0, 1) := do_3 (rdb (p := 0) (i := 0) ch_cX7_letThingsGo_0 rfl)
theorem dX7_letThingsGo_1 : decode cX7_letThingsGo 1 = .ok (.istore_n 2, 1) := do_61 (rdb (p := 0) (i := 1) ch_cX7_letThingsGo_0 rfl)
theorem dX7_letThingsGo_2 : decode cX7_letThingsGo 2 = .ok (.iload_n 2, 1) := do_28 (rdb (p := 0) (i := 2) ch_cX7_letThingsGo_0 rfl)
theorem dX7_letThingsGo_3 : decode cX7_letThingsGo 3 = .ok (.aload_n 0, 1) := do_42 (rdb (p := 0) (i := 3) ch_cX7_letThingsGo_0 rfl)
theorem dX7_letThingsGo_4 : decode cX7_letThingsGo 4 = .ok (.getfield 25, 3) := do_180 (rdb (p := 0) (i := 4) ch_cX7_letThingsGo_0 rfl) (rdb (p := 0) (i := 5) ch_cX7_letThingsGo_0 rfl) (rdb (p := 0) (i := 6) ch_cX7_letThingsGo_0 rfl) rfl
theorem dX7_letThingsGo_7 : decode cX7_letThingsGo 7 = .ok (.if_icmp .ge 46, 3) := do_162 (rdb (p := 0) (i := 7) ch_cX7_letThingsGo_0 rfl) (rdb (p := 0) (i := 8) ch_cX7_letThingsGo_0 rfl) (rdb (p := 0) (i := 9) ch_cX7_letThingsGo_0 rfl) (by decide +kernel)
theorem dX7_letThingsGo_10 : decode cX7_letThingsGo 10 = .ok (.iload_n 2, 1) := do_28 (rdb (p := 0) (i := 10) ch_cX7_letThingsGo_0 rfl)
theorem dX7_letThingsGo_11 : decode cX7_letThingsGo 11 = .ok (.bipush 40, 2) := do_16 (rdb (p := 0) (i := 11) ch_cX7_letThingsGo_0 rfl) (rdb (p := 0) (i := 12) ch_cX7_letThingsGo_0 rfl) (by decide +kernel)
theorem dX7_letThingsGo_13 : decode cX7_letThingsGo 13 = .ok (.if_icmp .ge 40, 3) := do_162 (rdb (p := 0) (i := 13) ch_cX7_letThingsGo_0 rfl) (rdb (p := 0) (i := 14) ch_cX7_letThingsGo_0 rfl) (rdb (p := 0) (i := 15) ch_cX7_letThingsGo_0 rfl) (by decide +kernel)
theorem dX7_letThingsGo_16 : decode cX7_letThingsGo 16 = .ok (.aload_n 0, 1) := do_42 (rdb (p := 0) (i := 16) ch_cX7_letThingsGo_0 rfl)
theorem dX7_letThingsGo_17 : decode cX7_letThingsGo 17 = .ok (.getfield 22, 3) := do_180 (rdb (p := 0) (i := 17) ch_cX7_letThingsGo_0 rfl) (rdb (p := 0) (i := 18) ch_cX7_letThingsGo_0 rfl) (rdb (p := 0) (i := 19) ch_cX7_letThingsGo_0 rfl) rfl
theorem dX7_letThingsGo_20 : decode cX7_letThingsGo 20 = .ok (.iload_n 2, 1) := do_28 (rdb (p := 0) (i := 20) ch_cX7_letThingsGo_0 rfl)
theorem dX7_letThingsGo_21 : decode cX7_letThingsGo 21 = .ok (.iaload, 1) := do_46 (rdb (p := 0) (i := 21) ch_cX7_letThingsGo_0 rfl)
theorem dX7_letThingsGo_22 : decode cX7_letThingsGo 22 = .ok (.istore_n 3, 1) := do_62 (rdb (p := 0) (i := 22) ch_cX7_letThingsGo_0 rfl)
theorem dX7_letThingsGo_23 : decode cX7_letThingsGo 23 = .ok (.aload_n 0, 1) := do_42 (rdb (p := 0) (i := 23) ch_cX7_letThingsGo_0 rfl)
theorem dX7_letThingsGo_24 : decode cX7_letThingsGo 24 = .ok (.getfield 16, 3) := do_180 (rdb (p := 0) (i := 24) ch_cX7_letThingsGo_0 rfl) (rdb (p := 0) (i := 25) ch_cX7_letThingsGo_0 rfl) (rdb (p := 0) (i := 26) ch_cX7_letThingsGo_0 rfl) rfl
theorem dX7_letThingsGo_27 : decode cX7_letThingsGo 27 = .ok (.iload_n 2, 1) := do_28 (rdb (p := 0) (i := 27) ch_cX7_letThingsGo_0 rfl)
theorem dX7_letThingsGo_28 : decode cX7_letThingsGo 28 = .ok (.iaload, 1) := do_46 (rdb (p := 0) (i := 28) ch_cX7_letThingsGo_0 rfl)
theorem dX7_letThingsGo_29 : decode cX7_letThingsGo 29 = .ok (.ifCond .lt 18, 3) := do_155 (rdb (p := 0) (i := 29) ch_cX7_letThingsGo_0 rfl) (rdb (p := 0) (i := 30) ch_cX7_letThingsGo_0 rfl) (rdb (p := 0) (i := 31) ch_cX7_letThingsGo_0 rfl) (by decide +kernel)
theorem ch_cX7_letThingsGo_32 : (cX7_letThingsGo.data.toList.drop 32).take 36 = [29, 158, 0, 14, 27, 29, 112, 154, 0, 8, 42, 28, 182, 0, 49, 132, 2, 1, 167, 255, 208, 177] := by decide +kernel
theorem dX7_letThingsGo_32 : decode cX7_letThingsGo 32 = .ok (.iload_n 3, 1) := do_29 (rdb (p := 32) (i := 0) ch_cX7_letThingsGo_32 rfl)
theorem dX7_letThingsGo_33 : decode cX7_letThingsGo 33 = .ok (.ifCond .le 14, 3) := do_158 (rdb (p := 32) (i := 1) ch_cX7_letThingsGo_32 rfl) (rdb (p := 32) (i := 2) ch_cX7_letThingsGo_32 rfl) (rdb (p := 32) (i := 3) ch_cX7_letThingsGo_32 rfl) (by decide +kernel)
theorem dX7_letThingsGo_36 : decode cX7_letThingsGo 36 = .ok (.iload_n 1, 1) := do_27 (rdb (p := 32) (i := 4) ch_cX7_letThingsGo_32 rfl)
theorem dX7_letThingsGo_37 : decode cX7_letThingsGo 37 = .ok (.iload_n 3, 1) := do_29 (rdb (p := 32) (i := 5) ch_cX7_letThingsGo_32 rfl)
theorem dX7_letThingsGo_38 : decode cX7_letThingsGo 38 = .ok (.irem, 1) := do_112 (rdb (p := 32) (i := 6) ch_cX7_letThingsGo_32 rfl)
theorem dX7_letThingsGo_39 : decode cX7_letThingsGo 39 = .ok (.ifCond .ne 8, 3) := do_154 (rdb (p := 32) (i := 7) ch_cX7_letThingsGo_32 rfl) (rdb (p := 32) (i := 8) ch_cX7_letThingsGo_32 rfl) (rdb (p := 32) (i := 9) ch_cX7_letThingsGo_32 rfl) (by decide +kernel)
theorem dX7_letThingsGo_42 : decode cX7_letThingsGo 42 = .ok (.aload_n 0, 1) := do_42 (rdb (p := 32) (i := 10) ch_cX7_letThingsGo_32 rfl)
theorem dX7_letThingsGo_43 : decode cX7_letThingsGo 43 = .ok (.iload_n 2, 1) := do_28 (rdb (p := 32) (i := 11) ch_cX7_letThingsGo_32 rfl)
theorem dX7_letThingsGo_44 : decode cX7_letThingsGo 44 = .ok (.invokevirtual 49, 3) := do_182 (rdb (p := 32) (i := 12) ch_cX7_letThingsGo_32 rfl) (rdb (p := 32) (i := 13) ch_cX7_letThingsGo_32 rfl) (rdb (p := 32) (i := 14) ch_cX7_letThingsGo_32 rfl) rfl
theorem dX7_letThingsGo_47 : decode cX7_letThingsGo 47 = .ok (.iinc 2 1, 3) := do_132 (rdb (p := 32) (i := 15) ch_cX7_letThingsGo_32 rfl) (rdb (p := 32) (i := 16) ch_cX7_letThingsGo_32 rfl) (rdb (p := 32) (i := 17) ch_cX7_letThingsGo_32 rfl) (by decide +kernel)
theorem dX7_letThingsGo_50 : decode cX7_letThingsGo 50 = .ok (.goto (-48), 3) := do_167 (rdb (p := 32) (i := 18) ch_cX7_letThingsGo_32 rfl) (rdb (p := 32) (i := 19) ch_cX7_letThingsGo_32 rfl) (rdb (p := 32) (i := 20) ch_cX7_letThingsGo_32 rfl) (by decide +kernel)
theorem dX7_letThingsGo_53 : decode cX7_letThingsGo 53 = .ok (.return_, 1) := do_177 (rdb (p := 32) (i := 21) ch_cX7_letThingsGo_32 rfl)
theorem dX7_settle_0 : decode cX7_settle 0 = .ok (.iload_n 1, 1) := by decide +kernel
theorem dX7_settle_1 : decode cX7_settle 1 = .ok (.invokestatic 29, 3) := by decide +kernel
theorem dX7_settle_4 : decode cX7_settle 4 = .ok (.ifCond .eq 10, 3) := by decide +kernel
theorem dX7_settle_7 : decode cX7_settle 7 = .ok (.aload_n 0, 1) := by decide +kernel
theorem dX7_settle_8 : decode cX7_settle 8 = .ok (.getfield 9, 3) := by decide +kernel
theorem dX7_settle_11 : decode cX7_settle 11 = .ok (.iload_n 1, 1) := by decide +kernel
theorem dX7_settle_12 : decode cX7_settle 12 = .ok (.iload_n 2, 1) := by decide +kernel
theorem dX7_settle_13 : decode cX7_settle 13 = .ok (.iastore, 1) := by decide +kernel
theorem dX7_settle_14 : decode cX7_settle 14 = .ok (.return_, 1) := by decide +kernel
theorem dX7_takeAway_0 : decode cX7_takeAway 0 = .ok (.aload_n 0, 1) := by decide +kernel
theorem dX7_takeAway_1 : decode cX7_takeAway 1 = .ok (.iload_n 1, 1) := by decide +kernel
theorem dX7_takeAway_2 : decode cX7_takeAway 2 = .ok (.invokevirtual 46, 3) := by decide +kernel
theorem dX7_takeAway_5 : decode cX7_takeAway 5 = .ok (.ifCond .ne 5, 3) := by decide +kernel
theorem dX7_takeAway_8 : decode cX7_takeAway 8 = .ok (.iconst (-1), 1) := by decide +kernel
theorem dX7_takeAway_9 : decode cX7_takeAway 9 = .ok (.ireturn, 1) := by decide +kernel
theorem dX7_takeAway_10 : decode cX7_takeAway 10 = .ok (.aload_n 0, 1) := by decide +kernel
theorem dX7_takeAway_11 : decode cX7_takeAway 11 = .ok (.getfield 16, 3) := by decide +kernel
theorem dX7_takeAway_14 : decode cX7_takeAway 14 = .ok (.iload_n 1, 1) := by decide +kernel
theorem dX7_takeAway_15 : decode cX7_takeAway 15 = .ok (.iaload, 1) := by decide +kernel
theorem dX7_takeAway_16 : decode cX7_takeAway 16 = .ok (.istore_n 2, 1) := by decide +kernel
theorem dX7_takeAway_17 : decode cX7_takeAway 17 = .ok (.aload_n 0, 1) := by decide +kernel
theorem dX7_takeAway_18 : decode cX7_takeAway 18 = .ok (.iload_n 2, 1) := by decide +kernel
theorem dX7_takeAway_19 : decode cX7_takeAway 19 = .ok (.iconst (-1), 1) := by decide +kernel
theorem dX7_takeAway_20 : decode cX7_takeAway 20 = .ok (.invokevirtual 42, 3) := by decide +kernel
theorem dX7_takeAway_23 : decode cX7_takeAway 23 = .ok (.aload_n 0, 1) := by decide +kernel
theorem dX7_takeAway_24 : decode cX7_takeAway 24 = .ok (.getfield 16, 3) := by decide +kernel
theorem dX7_takeAway_27 : decode cX7_takeAway 27 = .ok (.iload_n 1, 1) := by decide +kernel
theorem dX7_takeAway_28 : decode cX7_takeAway 28 = .ok (.iconst (-1), 1) := by decide +kernel
theorem dX7_takeAway_29 : decode cX7_takeAway 29 = .ok (.iastore, 1) := by decide +kernel
theorem dX7_takeAway_30 : decode cX7_takeAway 30 = .ok (.iload_n 2, 1) := by decide +kernel
theorem dX7_takeAway_31 : decode cX7_takeAway 31 = .ok (.ireturn, 1) := by decide +kernel
theorem ch_cX7_takeFrom_0 : (cX7_takeFrom.data.toList.drop 0).take 36 = [43, 180, 0, 9, 3, 42, 180, 0, 9, 3, 17, 0, 192, 184, 0, 60, 43, 180, 0, 13, 3, 42, 180, 0, 13, 3, 16, 40, 184, 0, 60, 43, 180, 0, 16, 3] := by decide +kernel
theorem dX7_takeFrom_0 : decode cX7_takeFrom 0 = .ok (.aload_n 1, 1) := do_43 (rdb (p := 0) (i := 0) ch_cX7_takeFrom_0 rfl)
theorem dX7_takeFrom_1 : decode cX7_takeFrom 1 = .ok (.getfield 9, 3) := do_180 (rdb (p := 0) (i := 1) ch_cX7_takeFrom_0 rfl) (rdb (p := 0) (i := 2) ch_cX7_takeFrom_0 rfl) (rdb (p := 0) (i := 3) ch_cX7_takeFrom_0 rfl) rfl
theorem dX7_takeFrom_4 : decode cX7_takeFrom 4 = .ok (.iconst 0, 1) := do_3 (rdb (p := 0) (i := 4) ch_cX7_takeFrom_0 rfl)
theorem dX7_takeFrom_5 : decode cX7_takeFrom 5 = .ok (.aload_n 0, 1) := do_42 (rdb (p := 0) (i := 5) ch_cX7_takeFrom_0 rfl)
theorem dX7_takeFrom_6 : decode cX7_takeFrom 6 = .ok (.getfield 9, 3) := do_180 (rdb (p := 0) (i := 6) ch_cX7_takeFrom_0 rfl) (rdb (p := 0) (i := 7) ch_cX7_takeFrom_0 rfl) (rdb (p := 0) (i := 8) ch_cX7_takeFrom_0 rfl) rfl
theorem dX7_takeFrom_9 : decode cX7_takeFrom 9 = .ok (.iconst 0, 1) := do_3 (rdb (p := 0) (i := 9) ch_cX7_takeFrom_0 rfl)
theorem dX7_takeFrom_10 : decode cX7_takeFrom 10 = .ok (.sipush 192, 3) := do_17 (rdb (p := 0) (i := 10) ch_cX7_takeFrom_0 rfl) (rdb (p := 0) (i := 11) ch_cX7_takeFrom_0 rfl) (rdb (p := 0) (i := 12) ch_cX7_takeFrom_0 rfl) (by decide +kernel)
theorem dX7_takeFrom_13 : decode cX7_takeFrom 13 = .ok (.invokestatic 60, 3) := do_184 (rdb (p := 0) (i := 13) ch_cX7_takeFrom_0 rfl) (rdb (p := 0) (i := 14) ch_cX7_takeFrom_0 rfl) (rdb (p := 0) (i := 15) ch_cX7_takeFrom_0 rfl) rfl
theorem dX7_takeFrom_16 : decode cX7_takeFrom 16 = .ok (.aload_n 1, 1) := do_43 (rdb (p := 0) (i := 16) ch_cX7_takeFrom_0 rfl)
theorem dX7_takeFrom_17 : decode cX7_takeFrom 17 = .ok (.getfield 13, 3) := do_180 (rdb (p := 0) (i := 17) ch_cX7_takeFrom_0 rfl) (rdb (p := 0) (i := 18) ch_cX7_takeFrom_0 rfl) (rdb (p := 0) (i := 19) ch_cX7_takeFrom_0 rfl) rfl
theorem dX7_takeFrom_20 : decode cX7_takeFrom 20 = .ok (.iconst 0, 1) := do_3 (rdb (p := 0) (i := 20) ch_cX7_takeFrom_0 rfl)
theorem dX7_takeFrom_21 : decode cX7_takeFrom 21 = .ok (.aload_n 0, 1) := do_42 (rdb (p := 0) (i := 21) ch_cX7_takeFrom_0 rfl)
theorem dX7_takeFrom_22 : decode cX7_takeFrom 22 = .ok (.getfield 13, 3) := do_180 (rdb (p := 0) (i := 22) ch_cX7_takeFrom_0 rfl) (rdb (p := 0) (i := 23) ch_cX7_takeFrom_0 rfl) (rdb (p := 0) (i := 24) ch_cX7_takeFrom_0 rfl) rfl
theorem dX7_takeFrom_25 : decode cX7_takeFrom 25 = .ok (.iconst 0, 1) := do_3 (rdb (p := 0) (i := 25) ch_cX7_takeFrom_0 rfl)
theorem dX7_takeFrom_26 : decode cX7_takeFrom 26 = .ok (.bipush 40, 2) := do_16 (rdb (p := 0) (i := 26) ch_cX7_takeFrom_0 rfl) (rdb (p := 0) (i := 27) ch_cX7_takeFrom_0 rfl) (by decide +kernel)
theorem dX7_takeFrom_28 : decode cX7_takeFrom 28 = .ok (.invokestatic 60, 3) := do_184 (rdb (p := 0) (i := 28) ch_cX7_takeFrom_0 rfl) (rdb (p := 0) (i := 29) ch_cX7_takeFrom_0 rfl) (rdb (p := 0) (i := 30) ch_cX7_takeFrom_0 rfl) rfl
theorem dX7_takeFrom_31 : decode cX7_takeFrom 31 = .ok (.aload_n 1, 1) := do_43 (rdb (p := 0) (i := 31) ch_cX7_takeFrom_0 rfl)
theorem ch_cX7_takeFrom_32 : (cX7_takeFrom.data.toList.drop 32).take 36 = [180, 0, 16, 3, 42, 180, 0, 16, 3, 16, 40, 184, 0, 60, 43, 180, 0, 19, 3, 42, 180, 0, 19, 3, 16, 40, 184, 0, 60, 43, 180, 0, 22, 3, 42, 180] := by decide +kernel
theorem dX7_takeFrom_32 : decode cX7_takeFrom 32 = .ok (.getfield 16, 3) := do_180 (rdb (p := 32) (i := 0) ch_cX7_takeFrom_32 rfl) (rdb (p := 32) (i := 1) ch_cX7_takeFrom_32 rfl) (rdb (p := 32) (i := 2) ch_cX7_takeFrom_32 rfl) rfl
theorem dX7_takeFrom_35 : decode cX7_takeFrom 35 = .ok (.iconst 0, 1) := do_3 (rdb (p := 32) (i := 3) ch_cX7_takeFrom_32 rfl)
theorem dX7_takeFrom_36 : decode cX7_takeFrom 36 = .ok (.aload_n 0, 1) := do_42 (rdb (p := 32) (i := 4) ch_cX7_takeFrom_32 rfl)
theorem dX7_takeFrom_37 : decode cX7_takeFrom 37 = .ok (.getfield 16, 3) := do_180 (rdb (p := 32) (i := 5) ch_cX7_takeFrom_32 rfl) (rdb (p := 32) (i := 6) ch_cX7_takeFrom_32 rfl) (rdb (p := 32) (i := 7) ch_cX7_takeFrom_32 rfl) rfl
theorem dX7_takeFrom_40 : decode cX7_takeFrom 40 = .ok (.iconst 0, 1) := do_3 (rdb (p := 32) (i := 8) ch_cX7_takeFrom_32 rfl)
theorem dX7_takeFrom_41 : decode cX7_takeFrom 41 = .ok (.bipush 40, 2) := do_16 (rdb (p := 32) (i := 9) ch_cX7_takeFrom_32 rfl) (rdb (p := 32) (i := 10) ch_cX7_takeFrom_32 rfl) (by decide +kernel)
theorem dX7_takeFrom_43 : decode cX7_takeFrom 43 = .ok (.invokestatic 60, 3) := do_184 (rdb (p := 32) (i := 11) ch_cX7_takeFrom_32 rfl) (rdb (p := 32) (i := 12) ch_cX7_takeFrom_32 rfl) (rdb (p := 32) (i := 13) ch_cX7_takeFrom_32 rfl) rfl
theorem dX7_takeFrom_46 : decode cX7_takeFrom 46 = .ok (.aload_n 1, 1) := do_43 (rdb (p := 32) (i := 14) ch_cX7_takeFrom_32 rfl)
theorem dX7_takeFrom_47 : decode cX7_takeFrom 47 = .ok (.getfield 19, 3) := do_180 (rdb (p := 32) (i := 15) ch_cX7_takeFrom_32 rfl) (rdb (p := 32) (i := 16) ch_cX7_takeFrom_32 rfl) (rdb (p := 32) (i := 17) ch_cX7_takeFrom_32 rfl) rfl
theorem dX7_takeFrom_50 : decode cX7_takeFrom 50 = .ok (.iconst 0, 1) := do_3 (rdb (p := 32) (i := 18) ch_cX7_takeFrom_32 rfl)
theorem dX7_takeFrom_51 : decode cX7_takeFrom 51 = .ok (.aload_n 0, 1) := do_42 (rdb (p := 32) (i := 19) ch_cX7_takeFrom_32 rfl)
theorem dX7_takeFrom_52 : decode cX7_takeFrom 52 = .ok (.getfield 19, 3) := do_180 (rdb (p := 32) (i := 20) ch_cX7_takeFrom_32 rfl) (rdb (p := 32) (i := 21) ch_cX7_takeFrom_32 rfl) (rdb (p := 32) (i := 22) ch_cX7_takeFrom_32 rfl) rfl
theorem dX7_takeFrom_55 : decode cX7_takeFrom 55 = .ok (.iconst 0, 1) := do_3 (rdb (p := 32) (i := 23) ch_cX7_takeFrom_32 rfl)
theorem dX7_takeFrom_56 : decode cX7_takeFrom 56 = .ok (.bipush 40, 2) := do_16 (rdb (p := 32) (i := 24) ch_cX7_takeFrom_32 rfl) (rdb (p := 32) (i := 25) ch_cX7_takeFrom_32 rfl) (by decide +kernel)
theorem dX7_takeFrom_58 : decode cX7_takeFrom 58 = .ok (.invokestatic 60, 3) := do_184 (rdb (p := 32) (i := 26) ch_cX7_takeFrom_32 rfl) (rdb (p := 32) (i := 27) ch_cX7_takeFrom_32 rfl) (rdb (p := 32) (i := 28) ch_cX7_takeFrom_32 rfl) rfl
theorem dX7_takeFrom_61 : decode cX7_takeFrom 61 = .ok (.aload_n 1, 1) := do_43 (rdb (p := 32) (i := 29) ch_cX7_takeFrom_32 rfl)
theorem dX7_takeFrom_62 : decode cX7_takeFrom 62 = .ok (.getfield 22, 3) := do_180 (rdb (p := 32) (i := 30) ch_cX7_takeFrom_32 rfl) (rdb (p := 32) (i := 31) ch_cX7_takeFrom_32 rfl) (rdb (p := 32) (i := 32) ch_cX7_takeFrom_32 rfl) rfl
theorem ch_cX7_takeFrom_64 : (cX7_takeFrom.data.toList.drop 64).take 36 = [22, 3, 42, 180, 0, 22, 3, 16, 40, 184, 0, 60, 42, 43, 180, 0, 25, 181, 0, 25, 177] := by decide +kernel
theorem dX7_takeFrom_65 : decode cX7_takeFrom 65 = .ok (.iconst 0, 1) := do_3 (rdb (p := 64) (i := 1) ch_cX7_takeFrom_64 rfl)
theorem dX7_takeFrom_66 : decode cX7_takeFrom 66 = .ok (.aload_n 0, 1) := do_42 (rdb (p := 64) (i := 2) ch_cX7_takeFrom_64 rfl)
theorem dX7_takeFrom_67 : decode cX7_takeFrom 67 = .ok (.getfield 22, 3) := do_180 (rdb (p := 64) (i := 3) ch_cX7_takeFrom_64 rfl) (rdb (p := 64) (i := 4) ch_cX7_takeFrom_64 rfl) (rdb (p := 64) (i := 5) ch_cX7_takeFrom_64 rfl) rfl
theorem dX7_takeFrom_70 : decode cX7_takeFrom 70 = .ok (.iconst 0, 1) := do_3 (rdb (p := 64) (i := 6) ch_cX7_takeFrom_64 rfl)
theorem dX7_takeFrom_71 : decode cX7_takeFrom 71 = .ok (.bipush 40, 2) := do_16 (rdb (p := 64) (i := 7) ch_cX7_takeFrom_64 rfl) (rdb (p := 64) (i := 8) ch_cX7_takeFrom_64 rfl) (by decide +kernel)
theorem dX7_takeFrom_73 : decode cX7_takeFrom 73 = .ok (.invokestatic 60, 3) := do_184 (rdb (p := 64) (i := 9) ch_cX7_takeFrom_64 rfl) (rdb (p := 64) (i := 10) ch_cX7_takeFrom_64 rfl) (rdb (p := 64) (i := 11) ch_cX7_takeFrom_64 rfl) rfl
theorem dX7_takeFrom_76 : decode cX7_takeFrom 76 = .ok (.aload_n 0, 1) := do_42 (rdb (p := 64) (i := 12) ch_cX7_takeFrom_64 rfl)
theorem dX7_takeFrom_77 : decode cX7_takeFrom 77 = .ok (.aload_n 1, 1) := do_43 (rdb (p := 64) (i := 13) ch_cX7_takeFrom_64 rfl)
theorem dX7_takeFrom_78 : decode cX7_takeFrom 78 = .ok (.getfield 25, 3) := do_180 (rdb (p := 64) (i := 14) ch_cX7_takeFrom_64 rfl) (rdb (p := 64) (i := 15) ch_cX7_takeFrom_64 rfl) (rdb (p := 64) (i := 16) ch_cX7_takeFrom_64 rfl) rfl
theorem dX7_takeFrom_81 : decode cX7_takeFrom 81 = .ok (.putfield 25, 3) := do_181 (rdb (p := 64) (i := 17) ch_cX7_takeFrom_64 rfl) (rdb (p := 64) (i := 18) ch_cX7_takeFrom_64 rfl) (rdb (p := 64) (i := 19) ch_cX7_takeFrom_64 rfl) rfl
theorem dX7_takeFrom_84 : decode cX7_takeFrom 84 = .ok (.return_, 1) := do_177 (rdb (p := 64) (i := 20) ch_cX7_takeFrom_64 rfl)
