section
/-! words of the tables that are used, by their places; decode rows; fields -/
theorem li_40 : (40 : Int32).toInt = 40 := by decide
theorem m_13 : Cond.selects yX7_letThingGo.cls yX7_letThingGo yX7_letThingGo ∈ BASE := bmem 13 (by decide +kernel) rfl
set_option maxRecDepth 20000 in
theorem m_121 : Cond.fieldLink RX7 9 "ClickStreet$Street" "occupants" "[I" ∈ BASE := bmT1 43 rfl rfl
set_option maxRecDepth 20000 in
theorem m_124 : Cond.fieldLink RX7 13 "ClickStreet$Street" "kinds" "[I" ∈ BASE := bmT1 46 rfl rfl
set_option maxRecDepth 20000 in
theorem m_126 : Cond.fieldLink RX7 16 "ClickStreet$Street" "cells" "[I" ∈ BASE := bmT1 48 rfl rfl
set_option maxRecDepth 20000 in
theorem m_128 : Cond.fieldLink RX7 19 "ClickStreet$Street" "sides" "[I" ∈ BASE := bmT1 50 rfl rfl
set_option maxRecDepth 20000 in
theorem m_130 : Cond.fieldLink RX7 22 "ClickStreet$Street" "steps" "[I" ∈ BASE := bmT1 52 rfl rfl
set_option maxRecDepth 20000 in
theorem m_132 : Cond.fieldLink RX7 25 "ClickStreet$Street" "things" "I" ∈ BASE := bmT1 54 rfl rfl
set_option maxRecDepth 20000 in
theorem m_506 : Cond.instanceMethod yX7_isFree ∈ BASE := bmT2 188 rfl rfl
set_option maxRecDepth 20000 in
theorem m_507 : Cond.selects yX7_isFree.cls yX7_isFree yX7_isFree ∈ BASE := bmT2 189 rfl rfl
set_option maxRecDepth 20000 in
theorem m_508 : Cond.code yX7_isFree cX7_isFree 2 (some .boolean) ∈ BASE := bmT2 190 rfl rfl
set_option maxRecDepth 20000 in
theorem m_518 : Cond.methodLink RX7 42 yX7_settle ∈ BASE := bmT2 200 rfl rfl
set_option maxRecDepth 20000 in
theorem m_519 : Cond.instanceMethod yX7_settle ∈ BASE := bmT2 201 rfl rfl
set_option maxRecDepth 20000 in
theorem m_520 : Cond.selects yX7_settle.cls yX7_settle yX7_settle ∈ BASE := bmT2 202 rfl rfl
set_option maxRecDepth 20000 in
theorem m_521 : Cond.code yX7_settle cX7_settle 3 none ∈ BASE := bmT2 203 rfl rfl
set_option maxRecDepth 20000 in
theorem m_527 : Cond.instanceMethod yX7_hasThing ∈ BASE := bmT2 209 rfl rfl
set_option maxRecDepth 20000 in
theorem m_528 : Cond.selects yX7_hasThing.cls yX7_hasThing yX7_hasThing ∈ BASE := bmT2 210 rfl rfl
set_option maxRecDepth 20000 in
theorem m_529 : Cond.code yX7_hasThing cX7_hasThing 2 (some .boolean) ∈ BASE := bmT2 211 rfl rfl
set_option maxRecDepth 20000 in
theorem m_534 : Cond.methodLink RX7 46 yX7_hasThing ∈ BASE := bmT2 216 rfl rfl
set_option maxRecDepth 20000 in
theorem m_850 : Cond.static yX7_cellFrom ∈ BASE := bmT4 52 rfl rfl
set_option maxRecDepth 20000 in
theorem m_851 : Cond.code yX7_cellFrom cX7_cellFrom 5 (some .int) ∈ BASE := bmT4 53 rfl rfl
set_option maxRecDepth 20000 in
theorem m_1033 : Cond.methodLink RX7 49 yX7_letThingGo ∈ BASE := bmT4 235 rfl rfl
set_option maxRecDepth 20000 in
theorem m_1035 : Cond.instanceMethod yX7_letThingGo ∈ BASE := bmT4 237 rfl rfl
set_option maxRecDepth 20000 in
theorem m_1036 : Cond.code yX7_letThingGo cX7_letThingGo 3 none ∈ BASE := bmT4 238 rfl rfl
set_option maxRecDepth 20000 in
theorem m_1037 : Cond.methodLink RX7 53 yX7_cellFrom ∈ BASE := bmT4 239 rfl rfl
set_option maxRecDepth 20000 in
theorem m_1038 : Cond.methodLink RX7 57 yX7_isFree ∈ BASE := bmT5 0 rfl rfl
set_option maxRecDepth 20000 in
theorem m_1262 : Cond.methodLink RX7 60 arraycopyName ∈ BASE := bmT5 224 rfl rfl
theorem kS_X7_cellFrom : KS yX7_cellFrom cX7_cellFrom 5 (some .int) 3 := ⟨m_850, m_81, m_851, nhM_1, nhV_1, pdn_3⟩
theorem kV_X7_hasThing : KV yX7_hasThing cX7_hasThing 2 (some .boolean) 1 := ⟨m_527, m_528, m_81, m_529, nhM_1, nhV_1, pdn_1⟩
theorem kV_X7_isFree : KV yX7_isFree cX7_isFree 2 (some .boolean) 1 := ⟨m_506, m_507, m_81, m_508, nhM_1, nhV_1, pdn_1⟩
theorem kV_X7_letThingGo : KV yX7_letThingGo cX7_letThingGo 3 none 1 := ⟨m_1035, m_13, m_81, m_1036, nhM_1, nhV_1, pdn_4⟩
theorem kV_X7_settle : KV yX7_settle cX7_settle 3 none 2 := ⟨m_519, m_520, m_81, m_521, nhM_1, nhV_1, pdn_5⟩
theorem inB7 : ∀ w ∈ u_ws RX7 TX7 6, w ∈ BASE := bmems (u_ws RX7 TX7 6) [133, 135, 137, 139, 141, 143] (by decide +kernel) (by decide +kernel)
theorem fl_RX7_13 : FLK RX7 13 7 1 (.array .int) true := ⟨RX7, TX7, 6, tyX7, rfl, inB7, tyX7_ok, nmX7, by decide, rfl, rfl, Or.inl m_124⟩
theorem fl_RX7_16 : FLK RX7 16 7 2 (.array .int) true := ⟨RX7, TX7, 6, tyX7, rfl, inB7, tyX7_ok, nmX7, by decide, rfl, rfl, Or.inl m_126⟩
theorem fl_RX7_19 : FLK RX7 19 7 3 (.array .int) true := ⟨RX7, TX7, 6, tyX7, rfl, inB7, tyX7_ok, nmX7, by decide, rfl, rfl, Or.inl m_128⟩
theorem fl_RX7_22 : FLK RX7 22 7 4 (.array .int) true := ⟨RX7, TX7, 6, tyX7, rfl, inB7, tyX7_ok, nmX7, by decide, rfl, rfl, Or.inl m_130⟩
theorem fl_RX7_25 : FLK RX7 25 7 5 .int false := ⟨RX7, TX7, 6, tyX7, rfl, inB7, tyX7_ok, nmX7, by decide, rfl, rfl, Or.inl m_132⟩
theorem fl_RX7_9 : FLK RX7 9 7 0 (.array .int) true := ⟨RX7, TX7, 6, tyX7, rfl, inB7, tyX7_ok, nmX7, by decide, rfl, rfl, Or.inl m_121⟩
theorem ch_cX7_addThing_0 : (cX7_addThing.data.toList.drop 0).take 36 = [42, 180, 0, 25, 62, 29, 155, 0, 9, 29, 16, 40, 161, 0, 5, 2, 172, 42, 180, 0, 13, 29, 27, 79, 42, 180, 0, 16, 29, 28, 79, 42, 180, 0, 19, 29] := by decide +kernel
theorem dX7_addThing_0 : decode cX7_addThing 0 = .ok (.aload_n 0, 1) := do_42 (rdb (p := 0) (i := 0) ch_cX7_addThing_0 rfl)
theorem dX7_addThing_1 : decode cX7_addThing 1 = .ok (.getfield 25, 3) := do_180 (rdb (p := 0) (i := 1) ch_cX7_addThing_0 rfl) (rdb (p := 0) (i := 2) ch_cX7_addThing_0 rfl) (rdb (p := 0) (i := 3) ch_cX7_addThing_0 rfl) rfl
theorem dX7_addThing_4 : decode cX7_addThing 4 = .ok (.istore_n 3, 1) := do_62 (rdb (p := 0) (i := 4) ch_cX7_addThing_0 rfl)
theorem dX7_addThing_5 : decode cX7_addThing 5 = .ok (.iload_n 3, 1) := do_29 (rdb (p := 0) (i := 5) ch_cX7_addThing_0 rfl)
theorem dX7_addThing_6 : decode cX7_addThing 6 = .ok (.ifCond .lt 9, 3) := do_155 (rdb (p := 0) (i := 6) ch_cX7_addThing_0 rfl) (rdb (p := 0) (i := 7) ch_cX7_addThing_0 rfl) (rdb (p := 0) (i := 8) ch_cX7_addThing_0 rfl) (by decide +kernel)
theorem dX7_addThing_9 : decode cX7_addThing 9 = .ok (.iload_n 3, 1) := do_29 (rdb (p := 0) (i := 9) ch_cX7_addThing_0 rfl)
theorem dX7_addThing_10 : decode cX7_addThing 10 = .ok (.bipush 40, 2) := do_16 (rdb (p := 0) (i := 10) ch_cX7_addThing_0 rfl) (rdb (p := 0) (i := 11) ch_cX7_addThing_0 rfl) (by decide +kernel)
theorem dX7_addThing_12 : decode cX7_addThing 12 = .ok (.if_icmp .lt 5, 3) := do_161 (rdb (p := 0) (i := 12) ch_cX7_addThing_0 rfl) (rdb (p := 0) (i := 13) ch_cX7_addThing_0 rfl) (rdb (p := 0) (i := 14) ch_cX7_addThing_0 rfl) (by decide +kernel)
theorem dX7_addThing_15 : decode cX7_addThing 15 = .ok (.iconst (-1), 1) := do_2 (rdb (p := 0) (i := 15) ch_cX7_addThing_0 rfl)
theorem dX7_addThing_16 : decode cX7_addThing 16 = .ok (.ireturn, 1) := do_172 (rdb (p := 0) (i := 16) ch_cX7_addThing_0 rfl)
theorem dX7_addThing_17 : decode cX7_addThing 17 = .ok (.aload_n 0, 1) := do_42 (rdb (p := 0) (i := 17) ch_cX7_addThing_0 rfl)
theorem dX7_addThing_18 : decode cX7_addThing 18 = .ok (.getfield 13, 3) := do_180 (rdb (p := 0) (i := 18) ch_cX7_addThing_0 rfl) (rdb (p := 0) (i := 19) ch_cX7_addThing_0 rfl) (rdb (p := 0) (i := 20) ch_cX7_addThing_0 rfl) rfl
theorem dX7_addThing_21 : decode cX7_addThing 21 = .ok (.iload_n 3, 1) := do_29 (rdb (p := 0) (i := 21) ch_cX7_addThing_0 rfl)
theorem dX7_addThing_22 : decode cX7_addThing 22 = .ok (.iload_n 1, 1) := do_27 (rdb (p := 0) (i := 22) ch_cX7_addThing_0 rfl)
theorem dX7_addThing_23 : decode cX7_addThing 23 = .ok (.iastore, 1) := do_79 (rdb (p := 0) (i := 23) ch_cX7_addThing_0 rfl)
theorem dX7_addThing_24 : decode cX7_addThing 24 = .ok (.aload_n 0, 1) := do_42 (rdb (p := 0) (i := 24) ch_cX7_addThing_0 rfl)
theorem dX7_addThing_25 : decode cX7_addThing 25 = .ok (.getfield 16, 3) := do_180 (rdb (p := 0) (i := 25) ch_cX7_addThing_0 rfl) (rdb (p := 0) (i := 26) ch_cX7_addThing_0 rfl) (rdb (p := 0) (i := 27) ch_cX7_addThing_0 rfl) rfl
theorem dX7_addThing_28 : decode cX7_addThing 28 = .ok (.iload_n 3, 1) := do_29 (rdb (p := 0) (i := 28) ch_cX7_addThing_0 rfl)
theorem dX7_addThing_29 : decode cX7_addThing 29 = .ok (.iload_n 2, 1) := do_28 (rdb (p := 0) (i := 29) ch_cX7_addThing_0 rfl)
theorem dX7_addThing_30 : decode cX7_addThing 30 = .ok (.iastore, 1) := do_79 (rdb (p := 0) (i := 30) ch_cX7_addThing_0 rfl)
theorem dX7_addThing_31 : decode cX7_addThing 31 = .ok (.aload_n 0, 1) := do_42 (rdb (p := 0) (i := 31) ch_cX7_addThing_0 rfl)
theorem ch_cX7_addThing_32 : (cX7_addThing.data.toList.drop 32).take 36 = [180, 0, 19, 29, 3, 79, 42, 180, 0, 22, 29, 3, 79, 42, 28, 29, 182, 0, 42, 42, 89, 180, 0, 25, 4, 96, 181, 0, 25, 29, 172] := by decide +kernel
theorem dX7_addThing_32 : decode cX7_addThing 32 = .ok (.getfield 19, 3) := do_180 (rdb (p := 32) (i := 0) ch_cX7_addThing_32 rfl) (rdb (p := 32) (i := 1) ch_cX7_addThing_32 rfl) (rdb (p := 32) (i := 2) ch_cX7_addThing_32 rfl) rfl
theorem dX7_addThing_35 : decode cX7_addThing 35 = .ok (.iload_n 3, 1) := do_29 (rdb (p := 32) (i := 3) ch_cX7_addThing_32 rfl)
theorem dX7_addThing_36 : decode cX7_addThing 36 = .ok (.iconst 0, 1) := do_3 (rdb (p := 32) (i := 4) ch_cX7_addThing_32 rfl)
theorem dX7_addThing_37 : decode cX7_addThing 37 = .ok (.iastore, 1) := do_79 (rdb (p := 32) (i := 5) ch_cX7_addThing_32 rfl)
theorem dX7_addThing_38 : decode cX7_addThing 38 = .ok (.aload_n 0, 1) := do_42 (rdb (p := 32) (i := 6) ch_cX7_addThing_32 rfl)
theorem dX7_addThing_39 : decode cX7_addThing 39 = .ok (.getfield 22, 3) := do_180 (rdb (p := 32) (i := 7) ch_cX7_addThing_32 rfl) (rdb (p := 32) (i := 8) ch_cX7_addThing_32 rfl) (rdb (p := 32) (i := 9) ch_cX7_addThing_32 rfl) rfl
theorem dX7_addThing_42 : decode cX7_addThing 42 = .ok (.iload_n 3, 1) := do_29 (rdb (p := 32) (i := 10) ch_cX7_addThing_32 rfl)
theorem dX7_addThing_43 : decode cX7_addThing 43 = .ok (.iconst 0, 1) := do_3 (rdb (p := 32) (i := 11) ch_cX7_addThing_32 rfl)
theorem dX7_addThing_44 : decode cX7_addThing 44 = .ok (.iastore, 1) := do_79 (rdb (p := 32) (i := 12) ch_cX7_addThing_32 rfl)
theorem dX7_addThing_45 : decode cX7_addThing 45 = .ok (.aload_n 0, 1) := do_42 (rdb (p := 32) (i := 13) ch_cX7_addThing_32 rfl)
theorem dX7_addThing_46 : decode cX7_addThing 46 = .ok (.iload_n 2, 1) := do_28 (rdb (p := 32) (i := 14) ch_cX7_addThing_32 rfl)
theorem dX7_addThing_47 : decode cX7_addThing 47 = .ok (.iload_n 3, 1) := do_29 (rdb (p := 32) (i := 15) ch_cX7_addThing_32 rfl)
theorem dX7_addThing_48 : decode cX7_addThing 48 = .ok (.invokevirtual 42, 3) := do_182 (rdb (p := 32) (i := 16) ch_cX7_addThing_32 rfl) (rdb (p := 32) (i := 17) ch_cX7_addThing_32 rfl) (rdb (p := 32) (i := 18) ch_cX7_addThing_32 rfl) rfl
theorem dX7_addThing_51 : decode cX7_addThing 51 = .ok (.aload_n 0, 1) := do_42 (rdb (p := 32) (i := 19) ch_cX7_addThing_32 rfl)
theorem dX7_addThing_52 : decode cX7_addThing 52 = .ok (.dup, 1) := do_89 (rdb (p := 32) (i := 20) ch_cX7_addThing_32 rfl)
theorem dX7_addThing_53 : decode cX7_addThing 53 = .ok (.getfield 25, 3) := do_180 (rdb (p := 32) (i := 21) ch_cX7_addThing_32 rfl) (rdb (p := 32) (i := 22) ch_cX7_addThing_32 rfl) (rdb (p := 32) (i := 23) ch_cX7_addThing_32 rfl) rfl
theorem dX7_addThing_56 : decode cX7_addThing 56 = .ok (.iconst 1, 1) := do_4 (rdb (p := 32) (i := 24) ch_cX7_addThing_32 rfl)
theorem dX7_addThing_57 : decode cX7_addThing 57 = .ok (.iadd, 1) := do_96 (rdb (p := 32) (i := 25) ch_cX7_addThing_32 rfl)
theorem dX7_addThing_58 : decode cX7_addThing 58 = .ok (.putfield 25, 3) := do_181 (rdb (p := 32) (i := 26) ch_cX7_addThing_32 rfl) (rdb (p := 32) (i := 27) ch_cX7_addThing_32 rfl) (rdb (p := 32) (i := 28) ch_cX7_addThing_32 rfl) rfl
theorem dX7_addThing_61 : decode cX7_addThing 61 = .ok (.iload_n 3, 1) := do_29 (rdb (p := 32) (i := 29) ch_cX7_addThing_32 rfl)
theorem dX7_addThing_62 : decode cX7_addThing 62 = .ok (.ireturn, 1) := do_172 (rdb (p := 32) (i := 30) ch_cX7_addThing_32 rfl)
theorem dX7_countThings_0 : decode cX7_countThings 0 = .ok (.iconst 0, 1) := by decide +kernel
theorem dX7_countThings_1 : decode cX7_countThings 1 = .ok (.istore_n 1, 1) := by decide +kernel
theorem dX7_countThings_2 : decode cX7_countThings 2 = .ok (.iconst 0, 1) := by decide +kernel
theorem dX7_countThings_3 : decode cX7_countThings 3 = .ok (.istore_n 2, 1) := by decide +kernel
theorem dX7_countThings_4 : decode cX7_countThings 4 = .ok (.iload_n 2, 1) := by decide +kernel
theorem dX7_countThings_5 : decode cX7_countThings 5 = .ok (.aload_n 0, 1) := by decide +kernel
theorem dX7_countThings_6 : decode cX7_countThings 6 = .ok (.getfield 25, 3) := by decide +kernel
theorem dX7_countThings_9 : decode cX7_countThings 9 = .ok (.if_icmp .ge 27, 3) := by decide +kernel
theorem dX7_countThings_12 : decode cX7_countThings 12 = .ok (.iload_n 2, 1) := by decide +kernel
theorem dX7_countThings_13 : decode cX7_countThings 13 = .ok (.bipush 40, 2) := by decide +kernel
theorem dX7_countThings_15 : decode cX7_countThings 15 = .ok (.if_icmp .ge 21, 3) := by decide +kernel
theorem dX7_countThings_18 : decode cX7_countThings 18 = .ok (.aload_n 0, 1) := by decide +kernel
theorem dX7_countThings_19 : decode cX7_countThings 19 = .ok (.getfield 16, 3) := by decide +kernel
theorem dX7_countThings_22 : decode cX7_countThings 22 = .ok (.iload_n 2, 1) := by decide +kernel
theorem dX7_countThings_23 : decode cX7_countThings 23 = .ok (.iaload, 1) := by decide +kernel
theorem dX7_countThings_24 : decode cX7_countThings 24 = .ok (.ifCond .lt 6, 3) := by decide +kernel
theorem dX7_countThings_27 : decode cX7_countThings 27 = .ok (.iinc 1 1, 3) := by decide +kernel
theorem dX7_countThings_30 : decode cX7_countThings 30 = .ok (.iinc 2 1, 3) := by decide +kernel
theorem dX7_countThings_33 : decode cX7_countThings 33 = .ok (.goto (-29), 3) := by decide +kernel
theorem dX7_countThings_36 : decode cX7_countThings 36 = .ok (.iload_n 1, 1) := by decide +kernel
theorem dX7_countThings_37 : decode cX7_countThings 37 = .ok (.ireturn, 1) := by decide +kernel
theorem ch_cX7_factOf_0 : (cX7_factOf.data.toList.drop 0).take 36 = [42, 27, 182, 0, 46, 154, 0, 5, 3, 172, 28, 170, 0, 0, 0, 46, 0, 0, 0, 0, 0, 0, 0, 2, 0, 0, 0, 25, 0, 0, 0, 32, 0, 0, 0, 39] := by decide +kernel
theorem dX7_factOf_0 : decode cX7_factOf 0 = .ok (.aload_n 0, 1) := do_42 (rdb (p := 0) (i := 0) ch_cX7_factOf_0 rfl)
theorem dX7_factOf_1 : decode cX7_factOf 1 = .ok (.iload_n 1, 1) := do_27 (rdb (p := 0) (i := 1) ch_cX7_factOf_0 rfl)
theorem dX7_factOf_2 : decode cX7_factOf 2 = .ok (.invokevirtual 46, 3) := do_182 (rdb (p := 0) (i := 2) ch_cX7_factOf_0 rfl) (rdb (p := 0) (i := 3) ch_cX7_factOf_0 rfl) (rdb (p := 0) (i := 4) ch_cX7_factOf_0 rfl) rfl
theorem dX7_factOf_5 : decode cX7_factOf 5 = .ok (.ifCond .ne 5, 3) := do_154 (rdb (p := 0) (i := 5) ch_cX7_factOf_0 rfl) (rdb (p := 0) (i := 6) ch_cX7_factOf_0 rfl) (rdb (p := 0) (i := 7) ch_cX7_factOf_0 rfl) (by decide +kernel)
theorem dX7_factOf_8 : decode cX7_factOf 8 = .ok (.iconst 0, 1) := do_3 (rdb (p := 0) (i := 8) ch_cX7_factOf_0 rfl)
theorem dX7_factOf_9 : decode cX7_factOf 9 = .ok (.ireturn, 1) := do_172 (rdb (p := 0) (i := 9) ch_cX7_factOf_0 rfl)
theorem dX7_factOf_10 : decode cX7_factOf 10 = .ok (.iload_n 2, 1) := do_28 (rdb (p := 0) (i := 10) ch_cX7_factOf_0 rfl)
theorem dX7_factOf_11 : decode cX7_factOf 11 = .ok (.tableswitch 46 0 2 #[25, 32, 39], 25) := by decide +kernel
theorem ch_cX7_factOf_32 : (cX7_factOf.data.toList.drop 32).take 36 = [0, 0, 0, 39, 42, 180, 0, 13, 27, 46, 172, 42, 180, 0, 16, 27, 46, 172, 42, 180, 0, 19, 27, 46, 172, 42, 180, 0, 22, 27, 46, 172] := by decide +kernel
theorem dX7_factOf_36 : decode cX7_factOf 36 = .ok (.aload_n 0, 1) := do_42 (rdb (p := 32) (i := 4) ch_cX7_factOf_32 rfl)
theorem dX7_factOf_37 : decode cX7_factOf 37 = .ok (.getfield 13, 3) := do_180 (rdb (p := 32) (i := 5) ch_cX7_factOf_32 rfl) (rdb (p := 32) (i := 6) ch_cX7_factOf_32 rfl) (rdb (p := 32) (i := 7) ch_cX7_factOf_32 rfl) rfl
theorem dX7_factOf_40 : decode cX7_factOf 40 = .ok (.iload_n 1, 1) := do_27 (rdb (p := 32) (i := 8) ch_cX7_factOf_32 rfl)
theorem dX7_factOf_41 : decode cX7_factOf 41 = .ok (.iaload, 1) := do_46 (rdb (p := 32) (i := 9) ch_cX7_factOf_32 rfl)
theorem dX7_factOf_42 : decode cX7_factOf 42 = .ok (.ireturn, 1) := do_172 (rdb (p := 32) (i := 10) ch_cX7_factOf_32 rfl)
theorem dX7_factOf_43 : decode cX7_factOf 43 = .ok (.aload_n 0, 1) := do_42 (rdb (p := 32) (i := 11) ch_cX7_factOf_32 rfl)
theorem dX7_factOf_44 : decode cX7_factOf 44 = .ok (.getfield 16, 3) := do_180 (rdb (p := 32) (i := 12) ch_cX7_factOf_32 rfl) (rdb (p := 32) (i := 13) ch_cX7_factOf_32 rfl) (rdb (p := 32) (i := 14) ch_cX7_factOf_32 rfl) rfl
theorem dX7_factOf_47 : decode cX7_factOf 47 = .ok (.iload_n 1, 1) := do_27 (rdb (p := 32) (i := 15) ch_cX7_factOf_32 rfl)
theorem dX7_factOf_48 : decode cX7_factOf 48 = .ok (.iaload, 1) := do_46 (rdb (p := 32) (i := 16) ch_cX7_factOf_32 rfl)
theorem dX7_factOf_49 : decode cX7_factOf 49 = .ok (.ireturn, 1) := do_172 (rdb (p := 32) (i := 17) ch_cX7_factOf_32 rfl)
theorem dX7_factOf_50 : decode cX7_factOf 50 = .ok (.aload_n 0, 1) := do_42 (rdb (p := 32) (i := 18) ch_cX7_factOf_32 rfl)
theorem dX7_factOf_51 : decode cX7_factOf 51 = .ok (.getfield 19, 3) := do_180 (rdb (p := 32) (i := 19) ch_cX7_factOf_32 rfl) (rdb (p := 32) (i := 20) ch_cX7_factOf_32 rfl) (rdb (p := 32) (i := 21) ch_cX7_factOf_32 rfl) rfl
theorem dX7_factOf_54 : decode cX7_factOf 54 = .ok (.iload_n 1, 1) := do_27 (rdb (p := 32) (i := 22) ch_cX7_factOf_32 rfl)
theorem dX7_factOf_55 : decode cX7_factOf 55 = .ok (.iaload, 1) := do_46 (rdb (p := 32) (i := 23) ch_cX7_factOf_32 rfl)
theorem dX7_factOf_56 : decode cX7_factOf 56 = .ok (.ireturn, 1) := do_172 (rdb (p := 32) (i := 24) ch_cX7_factOf_32 rfl)
theorem dX7_factOf_57 : decode cX7_factOf 57 = .ok (.aload_n 0, 1) := do_42 (rdb (p := 32) (i := 25) ch_cX7_factOf_32 rfl)
theorem dX7_factOf_58 : decode cX7_factOf 58 = .ok (.getfield 22, 3) := do_180 (rdb (p := 32) (i := 26) ch_cX7_factOf_32 rfl) (rdb (p := 32) (i := 27) ch_cX7_factOf_32 rfl) (rdb (p := 32) (i := 28) ch_cX7_factOf_32 rfl) rfl
theorem dX7_factOf_61 : decode cX7_factOf 61 = .ok (.iload_n 1, 1) := do_27 (rdb (p := 32) (i := 29) ch_cX7_factOf_32 rfl)
theorem dX7_factOf_62 : decode cX7_factOf 62 = .ok (.iaload, 1) := do_46 (rdb (p := 32) (i := 30) ch_cX7_factOf_32 rfl)
theorem dX7_factOf_63 : decode cX7_factOf 63 = .ok (.ireturn, 1) := do_172 (rdb (p := 32) (i := 31) ch_cX7_factOf_32 rfl)
theorem dX7_hasRoom_0 : decode cX7_hasRoom 0 = .ok (.aload_n 0, 1) := by decide +kernel
theorem dX7_hasRoom_1 : decode cX7_hasRoom 1 = .ok (.getfield 25, 3) := by decide +kernel
theorem dX7_hasRoom_4 : decode cX7_hasRoom 4 = .ok (.bipush 40, 2) := by decide +kernel
theorem dX7_hasRoom_6 : decode cX7_hasRoom 6 = .ok (.if_icmp .ge 7, 3) := by decide +kernel
theorem dX7_hasRoom_9 : decode cX7_hasRoom 9 = .ok (.iconst 1, 1) := by decide +kernel
theorem dX7_hasRoom_10 : decode cX7_hasRoom 10 = .ok (.goto 4, 3) := by decide +kernel
theorem dX7_hasRoom_13 : decode cX7_hasRoom 13 = .ok (.iconst 0, 1) := by decide +kernel
theorem dX7_hasRoom_14 : decode cX7_hasRoom 14 = .ok (.ireturn, 1) := by decide +kernel
theorem dX7_hasThing_0 : decode cX7_hasThing 0 = .ok (.iload_n 1, 1) := by decide +kernel
theorem dX7_hasThing_1 : decode cX7_hasThing 1 = .ok (.ifCond .lt 21, 3) := by decide +kernel
theorem dX7_hasThing_4 : decode cX7_hasThing 4 = .ok (.iload_n 1, 1) := by decide +kernel
theorem dX7_hasThing_5 : decode cX7_hasThing 5 = .ok (.aload_n 0, 1) := by decide +kernel
theorem dX7_hasThing_6 : decode cX7_hasThing 6 = .ok (.getfield 25, 3) := by decide +kernel
theorem dX7_hasThing_9 : decode cX7_hasThing 9 = .ok (.if_icmp .ge 13, 3) := by decide +kernel
theorem dX7_hasThing_12 : decode cX7_hasThing 12 = .ok (.iload_n 1, 1) := by decide +kernel
theorem dX7_hasThing_13 : decode cX7_hasThing 13 = .ok (.bipush 40, 2) := by decide +kernel
theorem dX7_hasThing_15 : decode cX7_hasThing 15 = .ok (.if_icmp .ge 7, 3) := by decide +kernel
theorem dX7_hasThing_18 : decode cX7_hasThing 18 = .ok (.iconst 1, 1) := by decide +kernel
theorem dX7_hasThing_19 : decode cX7_hasThing 19 = .ok (.goto 4, 3) := by decide +kernel
theorem dX7_hasThing_22 : decode cX7_hasThing 22 = .ok (.iconst 0, 1) := by decide +kernel
theorem dX7_hasThing_23 : decode cX7_hasThing 23 = .ok (.ireturn, 1) := by decide +kernel
theorem dX7_isFree_0 : decode cX7_isFree 0 = .ok (.iload_n 1, 1) := by decide +kernel
theorem dX7_isFree_1 : decode cX7_isFree 1 = .ok (.invokestatic 29, 3) := by decide +kernel
theorem dX7_isFree_4 : decode cX7_isFree 4 = .ok (.ifCond .eq 17, 3) := by decide +kernel
theorem dX7_isFree_7 : decode cX7_isFree 7 = .ok (.aload_n 0, 1) := by decide +kernel
theorem dX7_isFree_8 : decode cX7_isFree 8 = .ok (.getfield 9, 3) := by decide +kernel
theorem dX7_isFree_11 : decode cX7_isFree 11 = .ok (.iload_n 1, 1) := by decide +kernel
theorem dX7_isFree_12 : decode cX7_isFree 12 = .ok (.iaload, 1) := by decide +kernel
theorem dX7_isFree_13 : decode cX7_isFree 13 = .ok (.iconst (-1), 1) := by decide +kernel
theorem dX7_isFree_14 : decode cX7_isFree 14 = .ok (.if_icmp .ne 7, 3) := by decide +kernel
theorem dX7_isFree_17 : decode cX7_isFree 17 = .ok (.iconst 1, 1) := by decide +kernel
theorem dX7_isFree_18 : decode cX7_isFree 18 = .ok (.goto 4, 3) := by decide +kernel
theorem dX7_isFree_21 : decode cX7_isFree 21 = .ok (.iconst 0, 1) := by decide +kernel
theorem dX7_isFree_22 : decode cX7_isFree 22 = .ok (.ireturn, 1) := by decide +kernel
theorem dX7_kindIn_0 : decode cX7_kindIn 0 = .ok (.iload_n 1, 1) := by decide +kernel
theorem dX7_kindIn_1 : decode cX7_kindIn 1 = .ok (.invokestatic 29, 3) := by decide +kernel
theorem dX7_kindIn_4 : decode cX7_kindIn 4 = .ok (.ifCond .eq 12, 3) := by decide +kernel
theorem dX7_kindIn_7 : decode cX7_kindIn 7 = .ok (.aload_n 0, 1) := by decide +kernel
theorem dX7_kindIn_8 : decode cX7_kindIn 8 = .ok (.getfield 9, 3) := by decide +kernel
theorem dX7_kindIn_11 : decode cX7_kindIn 11 = .ok (.iload_n 1, 1) := by decide +kernel
theorem dX7_kindIn_12 : decode cX7_kindIn 12 = .ok (.iaload, 1) := by decide +kernel
theorem dX7_kindIn_13 : decode cX7_kindIn 13 = .ok (.goto 4, 3) := by decide +kernel
theorem dX7_kindIn_16 : decode cX7_kindIn 16 = .ok (.iconst (-1), 1) := by decide +kernel
theorem dX7_kindIn_17 : decode cX7_kindIn 17 = .ok (.istore_n 2, 1) := by decide +kernel
theorem dX7_kindIn_18 : decode cX7_kindIn 18 = .ok (.aload_n 0, 1) := by decide +kernel
theorem dX7_kindIn_19 : decode cX7_kindIn 19 = .ok (.iload_n 2, 1) := by decide +kernel
theorem dX7_kindIn_20 : decode cX7_kindIn 20 = .ok (.invokevirtual 46, 3) := by decide +kernel
theorem dX7_kindIn_23 : decode cX7_kindIn 23 = .ok (.ifCond .eq 12, 3) := by decide +kernel
theorem dX7_kindIn_26 : decode cX7_kindIn 26 = .ok (.aload_n 0, 1) := by decide +kernel
theorem dX7_kindIn_27 : decode cX7_kindIn 27 = .ok (.getfield 13, 3) := by decide +kernel
theorem dX7_kindIn_30 : decode cX7_kindIn 30 = .ok (.iload_n 2, 1) := by decide +kernel
theorem dX7_kindIn_31 : decode cX7_kindIn 31 = .ok (.iaload, 1) := by decide +kernel
theorem dX7_kindIn_32 : decode cX7_kindIn 32 = .ok (.goto 4, 3) := by decide +kernel
theorem dX7_kindIn_35 : decode cX7_kindIn 35 = .ok (.iconst 3, 1) := by decide +kernel
theorem dX7_kindIn_36 : decode cX7_kindIn 36 = .ok (.ireturn, 1) := by decide +kernel
theorem ch_cX7_letThingGo_0 : (cX7_letThingGo.data.toList.drop 0).take 36 = [42, 27, 182, 0, 46, 154, 0, 4, 177, 42, 180, 0, 16, 27, 46, 42, 180, 0, 19, 27, 46, 4, 184, 0, 53, 61, 42, 28, 182, 0, 57, 153, 0, 30, 42, 42] := by decide +kernel
theorem dX7_letThingGo_0 : decode cX7_letThingGo 0 = .ok (.aload_n 0, 1) := do_42 (rdb (p := 0) (i := 0) ch_cX7_letThingGo_0 rfl)
theorem dX7_letThingGo_1 : decode cX7_letThingGo 1 = .ok (.iload_n 1, 1) := do_27 (rdb (p := 0) (i := 1) ch_cX7_letThingGo_0 rfl)
theorem dX7_letThingGo_2 : decode cX7_letThingGo 2 = .ok (.invokevirtual 46, 3) := do_182 (rdb (p := 0) (i := 2) ch_cX7_letThingGo_0 rfl) (rdb (p := 0) (i := 3) ch_cX7_letThingGo_0 rfl) (rdb (p := 0) (i := 4) ch_cX7_letThingGo_0 rfl) rfl
theorem dX7_letThingGo_5 : decode cX7_letThingGo 5 = .ok (.ifCond .ne 4, 3) := do_154 (rdb (p := 0) (i := 5) ch_cX7_letThingGo_0 rfl) (rdb (p := 0) (i := 6) ch_cX7_letThingGo_0 rfl) (rdb (p := 0) (i := 7) ch_cX7_letThingGo_0 rfl) (by decide +kernel)
theorem dX7_letThingGo_8 : decode cX7_letThingGo 8 = .ok (.return_, 1) := do_177 (rdb (p := 0) (i := 8) ch_cX7_letThingGo_0 rfl)
theorem dX7_letThingGo_9 : decode cX7_letThingGo 9 = .ok (.aload_n 0, 1) := do_42 (rdb (p := 0) (i := 9) ch_cX7_letThingGo_0 rfl)
theorem dX7_letThingGo_10 : decode cX7_letThingGo 10 = .ok (.getfield 16, 3) := do_180 (rdb (p := 0) (i := 10) ch_cX7_letThingGo_0 rfl) (rdb (p := 0) (i := 11) ch_cX7_letThingGo_0 rfl) (rdb (p := 0) (i := 12) ch_cX7_letThingGo_0 rfl) rfl
theorem dX7_letThingGo_13 : decode cX7_letThingGo 13 = .ok (.iload_n 1, 1) := do_27 (rdb (p := 0) (i := 13) ch_cX7_letThingGo_0 rfl)
theorem dX7_letThingGo_14 : decode cX7_letThingGo 14 = .ok (.iaload, 1) := do_46 (rdb (p := 0) (i := 14) ch_cX7_letThingGo_0 rfl)
theorem dX7_letThingGo_15 : decode cX7_letThingGo 15 = .ok (.aload_n 0, 1) := do_42 (rdb (p := 0) (i := 15) ch_cX7_letThingGo_0 rfl)
theorem dX7_letThingGo_16 : decode cX7_letThingGo 16 = .ok (.getfield 19, 3) := do_180 (rdb (p := 0) (i := 16) ch_cX7_letThingGo_0 rfl) (rdb (p := 0) (i := 17) ch_cX7_letThingGo_0 rfl) (rdb (p := 0) (i := 18) ch_cX7_letThingGo_0 rfl) rfl
theorem dX7_letThingGo_19 : decode cX7_letThingGo 19 = .ok (.iload_n 1, 1) := do_27 (rdb (p := 0) (i := 19) ch_cX7_letThingGo_0 rfl)
theorem dX7_letThingGo_20 : decode cX7_letThingGo 20 = .ok (.iaload, 1) := do_46 (rdb (p := 0) (i := 20) ch_cX7_letThingGo_0 rfl)
theorem dX7_letThingGo_21 : decode cX7_letThingGo 21 = .ok (.iconst 1, 1) := do_4 (rdb (p := 0) (i := 21) ch_cX7_letThingGo_0 rfl)
theorem dX7_letThingGo_22 : decode cX7_letThingGo 22 = .ok (.invokestatic 53, 3) := do_184 (rdb (p := 0) (i := 22) ch_cX7_letThingGo_0 rfl) (rdb (p := 0) (i := 23) ch_cX7_letThingGo_0 rfl) (rdb (p := 0) (i := 24) ch_cX7_letThingGo_0 rfl) rfl
theorem dX7_letThingGo_25 : decode cX7_letThingGo 25 = .ok (.istore_n 2, 1) := do_61 (rdb (p := 0) (i := 25) ch_cX7_letThingGo_0 rfl)
theorem dX7_letThingGo_26 : decode cX7_letThingGo 26 = .ok (.aload_n 0, 1) := do_42 (rdb (p := 0) (i := 26) ch_cX7_letThingGo_0 rfl)
theorem dX7_letThingGo_27 : decode cX7_letThingGo 27 = .ok (.iload_n 2, 1) := do_28 (rdb (p := 0) (i := 27) ch_cX7_letThingGo_0 rfl)
theorem dX7_letThingGo_28 : decode cX7_letThingGo 28 = .ok (.invokevirtual 57, 3) := do_182 (rdb (p := 0) (i := 28) ch_cX7_letThingGo_0 rfl) (rdb (p := 0) (i := 29) ch_cX7_letThingGo_0 rfl) (rdb (p := 0) (i := 30) ch_cX7_letThingGo_0 rfl) rfl
theorem dX7_letThingGo_31 : decode cX7_letThingGo 31 = .ok (.ifCond .eq 30, 3) := do_153 (rdb (p := 0) (i := 31) ch_cX7_letThingGo_0 rfl) (rdb (p := 0) (i := 32) ch_cX7_letThingGo_0 rfl) (rdb (p := 0) (i := 33) ch_cX7_letThingGo_0 rfl) (by decide +kernel)
theorem ch_cX7_letThingGo_32 : (cX7_letThingGo.data.toList.drop 32).take 36 = [0, 30, 42, 42, 180, 0, 16, 27, 46, 2, 182, 0, 42, 42, 28, 27, 182, 0, 42, 42, 180, 0, 16, 27, 28, 79, 167, 0, 20, 42, 180, 0, 19, 27, 42, 180] := by decide +kernel
theorem dX7_letThingGo_34 : decode cX7_letThingGo 34 = .ok (.aload_n 0, 1) := do_42 (rdb (p := 32) (i := 2) ch_cX7_letThingGo_32 rfl)
theorem dX7_letThingGo_35 : decode cX7_letThingGo 35 = .ok (.aload_n 0, 1) := do_42 (rdb (p := 32) (i := 3) ch_cX7_letThingGo_32 rfl)
theorem dX7_letThingGo_36 : decode cX7_letThingGo 36 = .ok (.getfield 16, 3) := do_180 (rdb (p := 32) (i := 4) ch_cX7_letThingGo_32 rfl) (rdb (p := 32) (i := 5) ch_cX7_letThingGo_32 rfl) (rdb (p := 32) (i := 6) ch_cX7_letThingGo_32 rfl) rfl
theorem dX7_letThingGo_39 : decode cX7_letThingGo 39 = .ok (.iload_n 1, 1) := do_27 (rdb (p := 32) (i := 7) ch_cX7_letThingGo_32 rfl)
theorem dX7_letThingGo_40 : decode cX7_letThingGo 40 = .ok (.iaload, 1) := do_46 (rdb (p := 32) (i := 8) ch_cX7_letThingGo_32 rfl)
theorem dX7_letThingGo_41 : decode cX7_letThingGo 41 = .ok (.iconst (-1), 1) := do_2 (rdb (p := 32) (i := 9) ch_cX7_letThingGo_32 rfl)
theorem dX7_letThingGo_42 : decode cX7_letThingGo 42 = .ok (.invokevirtual 42, 3) := do_182 (rdb (p := 32) (i := 10) ch_cX7_letThingGo_32 rfl) (rdb (p := 32) (i := 11) ch_cX7_letThingGo_32 rfl) (rdb (p := 32) (i := 12) ch_cX7_letThingGo_32 rfl) rfl
theorem dX7_letThingGo_45 : decode cX7_letThingGo 45 = .ok (.aload_n 0, 1) := do_42 (rdb (p := 32) (i := 13) ch_cX7_letThingGo_32 rfl)
theorem dX7_letThingGo_46 : decode cX7_letThingGo 46 = .ok (.iload_n 2, 1) := do_28 (rdb (p := 32) (i := 14) ch_cX7_letThingGo_32 rfl)
theorem dX7_letThingGo_47 : decode cX7_letThingGo 47 = .ok (.iload_n 1, 1) := do_27 (rdb (p := 32) (i := 15) ch_cX7_letThingGo_32 rfl)
theorem dX7_letThingGo_48 : decode cX7_letThingGo 48 = .ok (.invokevirtual 42, 3) := do_182 (rdb (p := 32) (i := 16) ch_cX7_letThingGo_32 rfl) (rdb (p := 32) (i := 17) ch_cX7_letThingGo_32 rfl) (rdb (p := 32) (i := 18) ch_cX7_letThingGo_32 rfl) rfl
theorem dX7_letThingGo_51 : decode cX7_letThingGo 51 = .ok (.aload_n 0, 1) := do_42 (rdb (p := 32) (i := 19) ch_cX7_letThingGo_32 rfl)
theorem dX7_letThingGo_52 : decode cX7_letThingGo 52 = .ok (.getfield 16, 3) := do_180 (rdb (p := 32) (i := 20) ch_cX7_letThingGo_32 rfl) (rdb (p := 32) (i := 21) ch_cX7_letThingGo_32 rfl) (rdb (p := 32) (i := 22) ch_cX7_letThingGo_32 rfl) rfl
theorem dX7_letThingGo_55 : decode cX7_letThingGo 55 = .ok (.iload_n 1, 1) := do_27 (rdb (p := 32) (i := 23) ch_cX7_letThingGo_32 rfl)
theorem dX7_letThingGo_56 : decode cX7_letThingGo 56 = .ok (.iload_n 2, 1) := do_28 (rdb (p := 32) (i := 24) ch_cX7_letThingGo_32 rfl)
theorem dX7_letThingGo_57 : decode cX7_letThingGo 57 = .ok (.iastore, 1) := do_79 (rdb (p := 32) (i := 25) ch_cX7_letThingGo_32 rfl)
theorem dX7_letThingGo_58 : decode cX7_letThingGo 58 = .ok (.goto 20, 3) := do_167 (rdb (p := 32) (i := 26) ch_cX7_letThingGo_32 rfl) (rdb (p := 32) (i := 27) ch_cX7_letThingGo_32 rfl) (rdb (p := 32) (i := 28) ch_cX7_letThingGo_32 rfl) (by decide +kernel)
theorem dX7_letThingGo_61 : decode cX7_letThingGo 61 = .ok (.aload_n 0, 1) := do_42 (rdb (p := 32) (i := 29) ch_cX7_letThingGo_32 rfl)
theorem dX7_letThingGo_62 : decode cX7_letThingGo 62 = .ok (.getfield 19, 3) := do_180 (rdb (p := 32) (i := 30) ch_cX7_letThingGo_32 rfl) (rdb (p := 32) (i := 31) ch_cX7_letThingGo_32 rfl) (rdb (p := 32) (i := 32) ch_cX7_letThingGo_32 rfl) rfl
theorem ch_cX7_letThingGo_64 : (cX7_letThingGo.data.toList.drop 64).take 36 = [19, 27, 42, 180, 0, 19, 27, 46, 7, 96, 16, 7, 126, 79, 177] := by decide +kernel
theorem dX7_letThingGo_65 : decode cX7_letThingGo 65 = .ok (.iload_n 1, 1) := do_27 (rdb (p := 64) (i := 1) ch_cX7_letThingGo_64 rfl)
theorem dX7_letThingGo_66 : decode cX7_letThingGo 66 = .ok (.aload_n 0, 1) := do_42 (rdb (p := 64) (i := 2) ch_cX7_letThingGo_64 rfl)
theorem dX7_letThingGo_67 : decode cX7_letThingGo 67 = .ok (.getfield 19, 3) := do_180 (rdb (p := 64) (i := 3) ch_cX7_letThingGo_64 rfl) (rdb (p := 64) (i := 4) ch_cX7_letThingGo_64 rfl) (rdb (p := 64) (i := 5) ch_cX7_letThingGo_64 rfl) rfl
theorem dX7_letThingGo_70 : decode cX7_letThingGo 70 = .ok (.iload_n 1, 1) := do_27 (rdb (p := 64) (i := 6) ch_cX7_letThingGo_64 rfl)
theorem dX7_letThingGo_71 : decode cX7_letThingGo 71 = .ok (.iaload, 1) := do_46 (rdb (p := 64) (i := 7) ch_cX7_letThingGo_64 rfl)
theorem dX7_letThingGo_72 : decode cX7_letThingGo 72 = .ok (.iconst 4, 1) := do_7 (rdb (p := 64) (i := 8) ch_cX7_letThingGo_64 rfl)
theorem dX7_letThingGo_73 : decode cX7_letThingGo 73 = .ok (.iadd, 1) := do_96 (rdb (p := 64) (i := 9) ch_cX7_letThingGo_64 rfl)
theorem dX7_letThingGo_74 : decode cX7_letThingGo 74 = .ok (.bipush 7, 2) := do_16 (rdb (p := 64) (i := 10) ch_cX7_letThingGo_64 rfl) (rdb (p := 64) (i := 11) ch_cX7_letThingGo_64 rfl) (by decide +kernel)
theorem dX7_letThingGo_76 : decode cX7_letThingGo 76 = .ok (.iand, 1) := do_126 (rdb (p := 64) (i := 12) ch_cX7_letThingGo_64 rfl)
theorem dX7_letThingGo_77 : decode cX7_letThingGo 77 = .ok (.iastore, 1) := do_79 (rdb (p := 64) (i := 13) ch_cX7_letThingGo_64 rfl)
theorem dX7_letThingGo_78 : decode cX7_letThingGo 78 = .ok (.return_, 1) := do_177 (rdb (p := 64) (i := 14) ch_cX7_letThingGo_64 rfl)
theorem ch_cX7_letThingsGo_0 : (cX7_letThingsGo.data.toList.drop 0).take 36 = [3, 61, 28, 42, 180, 0, 25, 162, 0, 46, 28, 16, 40, 162, 0, 40, 42, 180, 0, 22, 28, 46, 62, 42, 180, 0, 16, 28, 46, 155, 0, 18, 29, 158, 0, 14] := by decide +kernel
theorem dX7_letThingsGo_0 : decode cX7_letThingsGo 0 = .ok (.iconst 0, 1) := do_3 (rdb (p := 0) (i := 0) ch_cX7_letThingsGo_0 rfl)
theorem dX7_letThingsGo_1 : decode cX7_letThingsGo 1 = .ok (.istore_n 2, 1) := do_61 (rdb (p := 0) (i := 1) ch_cX7_letThingsGo_0 rfl)
theorem dX7_letThingsGo_2 : decode cX7_letThingsGo 2 = .ok (.iload_n 2, 1) := do_28 (rdb (p := 0) (i := 2) ch_cX7_letThingsGo_0 rfl)
theorem dX7_letThingsGo_3 : decode cX7_letThingsGo 3 = .ok (.aload_n 0, 1) := do_42 (rdb (p := 0) (i := 3) ch_cX7_letThingsGo_0 rfl)
theorem dX7_letThingsGo_4 : decode cX7_letThingsGo 4 = .ok (.getfield 25, 3) := do_180 (rdb (p := 0) (i := 4) ch_cX7_letThingsGo_0 rfl) (rdb (p := 0) (i := 5) ch_cX7_letThingsGo_0 rfl) (rdb (p := 0) (i := 6) ch_cX7_letThingsGo_0 rfl) rfl
theorem dX7_letThingsGo_7 : decode cX7_letThingsGo 7 = .ok (.if_icmp .ge 46, 3) := do_162 (rdb (p := 0) (i := 7) ch_cX7_letThingsGo_0 rfl) (rdb (p := 0) (i := 8) ch_cX7_letThingsGo_0 rfl) (rdb (p := 0) (i := 9) ch_cX7_letThingsGo_0 rfl) (by decide +kernel)
theorem dX7_letThingsGo_10 : decode cX7_letThingsGo 10 = .ok (.iload_n 2, 1) := do_28 (rdb (p := 0) (i := 10) ch_cX7_letThingsGo_0 rfl)
theorem dX7_letThingsGo_11 : decode cX7_letThingsGo 11 = .ok (.bipush 40, 2) := do_16 (rdb (p := 0) (i := 11) ch_cX7_letThingsGo_0 rfl) (rdb (p := 0) (i := 12) ch_cX7_letThingsGo_0 rfl) (by decide +kernel)
theorem dX7_letThingsGo_13 : decode cX7_letThingsGo 13 = .ok (.if_icmp .ge 40, 3) := do_162 (rdb (p := 0) (i := 13) ch_cX7_letThingsGo_0 rfl) (rdb (p := 0) (i := 14) ch_cX7_letThingsGo_0 rfl) (rdb (p := 0) (i := 15) ch_cX7_letThingsGo_0 rfl) (by decide +kernel)
theorem dX7_letThingsGo_16 : decode cX7_letThingsGo 16 = .ok (.aload_n 0, 1) := do_42 (rdb (p := 0) (i := 16) ch_cX7_letThingsGo_0 rfl)
theorem dX7_letThingsGo_17 : decode cX7_letThingsGo 17 = .ok (.getfield 22, 3) := do_180 (rdb (p := 0) (i := 17) ch_cX7_letThingsGo_0 rfl) (rdb (p := 0) (i := 18) ch_cX7_letThingsGo_0 rfl) (rdb (p := 0) (i := 19) ch_cX7_letThingsGo_0 rfl) rfl
theorem dX7_letThingsGo_20 : decode cX7_letThingsGo 20 = .ok (.iload_n 2, 1) := do_28 (rdb (p := 0) (i := 20) ch_cX7_letThingsGo_0 rfl)
theorem dX7_letThingsGo_21 : decode cX7_letThingsGo 21 = .ok (.iaload, 1) := do_46 (rdb (p := 0) (i := 21) ch_cX7_letThingsGo_0 rfl)
theorem dX7_letThingsGo_22 : decode cX7_letThingsGo 22 = .ok (.istore_n 3, 1) := do_62 (rdb (p := 0) (i := 22) ch_cX7_letThingsGo_0 rfl)
theorem dX7_letThingsGo_23 : decode cX7_letThingsGo 23 = .ok (.aload_n 0, 1) := do_42 (rdb (p := 0) (i := 23) ch_cX7_letThingsGo_0 rfl)
theorem dX7_letThingsGo_24 : decode cX7_letThingsGo 24 = .ok (.getfield 16, 3) := do_180 (rdb (p := 0) (i := 24) ch_cX7_letThingsGo_0 rfl) (rdb (p := 0) (i := 25) ch_cX7_letThingsGo_0 rfl) (rdb (p := 0) (i := 26) ch_cX7_letThingsGo_0 rfl) rfl
theorem dX7_letThingsGo_27 : decode cX7_letThingsGo 27 = .ok (.iload_n 2, 1) := do_28 (rdb (p := 0) (i := 27) ch_cX7_letThingsGo_0 rfl)
theorem dX7_letThingsGo_28 : decode cX7_letThingsGo 28 = .ok (.iaload, 1) := do_46 (rdb (p := 0) (i := 28) ch_cX7_letThingsGo_0 rfl)
theorem dX7_letThingsGo_29 : decode cX7_letThingsGo 29 = .ok (.ifCond .lt 18, 3) := do_155 (rdb (p := 0) (i := 29) ch_cX7_letThingsGo_0 rfl) (rdb (p := 0) (i := 30) ch_cX7_letThingsGo_0 rfl) (rdb (p := 0) (i := 31) ch_cX7_letThingsGo_0 rfl) (by decide +kernel)
theorem ch_cX7_letThingsGo_32 : (cX7_letThingsGo.data.toList.drop 32).take 36 = [29, 158, 0, 14, 27, 29, 112, 154, 0, 8, 42, 28, 182, 0, 49, 132, 2, 1, 167, 255, 208, 177] := by decide +kernel
theorem dX7_letThingsGo_32 : decode cX7_letThingsGo 32 = .ok (.iload_n 3, 1) := do_29 (rdb (p := 32) (i := 0) ch_cX7_letThingsGo_32 rfl)
theorem dX7_letThingsGo_33 : decode cX7_letThingsGo 33 = .ok (.ifCond .le 14, 3) := do_158 (rdb (p := 32) (i := 1) ch_cX7_letThingsGo_32 rfl) (rdb (p := 32) (i := 2) ch_cX7_letThingsGo_32 rfl) (rdb (p := 32) (i := 3) ch_cX7_letThingsGo_32 rfl) (by decide +kernel)
theorem dX7_letThingsGo_36 : decode cX7_letThingsGo 36 = .ok (.iload_n 1, 1) := do_27 (rdb (p := 32) (i := 4) ch_cX7_letThingsGo_32 rfl)
theorem dX7_letThingsGo_37 : decode cX7_letThingsGo 37 = .ok (.iload_n 3, 1) := do_29 (rdb (p := 32) (i := 5) ch_cX7_letThingsGo_32 rfl)
theorem dX7_letThingsGo_38 : decode cX7_letThingsGo 38 = .ok (.irem, 1) := do_112 (rdb (p := 32) (i := 6) ch_cX7_letThingsGo_32 rfl)
theorem dX7_letThingsGo_39 : decode cX7_letThingsGo 39 = .ok (.ifCond .ne 8, 3) := do_154 (rdb (p := 32) (i := 7) ch_cX7_letThingsGo_32 rfl) (rdb (p := 32) (i := 8) ch_cX7_letThingsGo_32 rfl) (rdb (p := 32) (i := 9) ch_cX7_letThingsGo_32 rfl) (by decide +kernel)
theorem dX7_letThingsGo_42 : decode cX7_letThingsGo 42 = .ok (.aload_n 0, 1) := do_42 (rdb (p := 32) (i := 10) ch_cX7_letThingsGo_32 rfl)
theorem dX7_letThingsGo_43 : decode cX7_letThingsGo 43 = .ok (.iload_n 2, 1) := do_28 (rdb (p := 32) (i := 11) ch_cX7_letThingsGo_32 rfl)
theorem dX7_letThingsGo_44 : decode cX7_letThingsGo 44 = .ok (.invokevirtual 49, 3) := do_182 (rdb (p := 32) (i := 12) ch_cX7_letThingsGo_32 rfl) (rdb (p := 32) (i := 13) ch_cX7_letThingsGo_32 rfl) (rdb (p := 32) (i := 14) ch_cX7_letThingsGo_32 rfl) rfl
theorem dX7_letThingsGo_47 : decode cX7_letThingsGo 47 = .ok (.iinc 2 1, 3) := do_132 (rdb (p := 32) (i := 15) ch_cX7_letThingsGo_32 rfl) (rdb (p := 32) (i := 16) ch_cX7_letThingsGo_32 rfl) (rdb (p := 32) (i := 17) ch_cX7_letThingsGo_32 rfl) (by decide +kernel)
theorem dX7_letThingsGo_50 : decode cX7_letThingsGo 50 = .ok (.goto (-48), 3) := do_167 (rdb (p := 32) (i := 18) ch_cX7_letThingsGo_32 rfl) (rdb (p := 32) (i := 19) ch_cX7_letThingsGo_32 rfl) (rdb (p := 32) (i := 20) ch_cX7_letThingsGo_32 rfl) (by decide +kernel)
theorem dX7_letThingsGo_53 : decode cX7_letThingsGo 53 = .ok (.return_, 1) := do_177 (rdb (p := 32) (i := 21) ch_cX7_letThingsGo_32 rfl)
theorem dX7_settle_0 : decode cX7_settle 0 = .ok (.iload_n 1, 1) := by decide +kernel
theorem dX7_settle_1 : decode cX7_settle 1 = .ok (.invokestatic 29, 3) := by decide +kernel
theorem dX7_settle_4 : decode cX7_settle 4 = .ok (.ifCond .eq 10, 3) := by decide +kernel
theorem dX7_settle_7 : decode cX7_settle 7 = .ok (.aload_n 0, 1) := by decide +kernel
theorem dX7_settle_8 : decode cX7_settle 8 = .ok (.getfield 9, 3) := by decide +kernel
theorem dX7_settle_11 : decode cX7_settle 11 = .ok (.iload_n 1, 1) := by decide +kernel
theorem dX7_settle_12 : decode cX7_settle 12 = .ok (.iload_n 2, 1) := by decide +kernel
theorem dX7_settle_13 : decode cX7_settle 13 = .ok (.iastore, 1) := by decide +kernel
theorem dX7_settle_14 : decode cX7_settle 14 = .ok (.return_, 1) := by decide +kernel
theorem dX7_takeAway_0 : decode cX7_takeAway 0 = .ok (.aload_n 0, 1) := by decide +kernel
theorem dX7_takeAway_1 : decode cX7_takeAway 1 = .ok (.iload_n 1, 1) := by decide +kernel
theorem dX7_takeAway_2 : decode cX7_takeAway 2 = .ok (.invokevirtual 46, 3) := by decide +kernel
theorem dX7_takeAway_5 : decode cX7_takeAway 5 = .ok (.ifCond .ne 5, 3) := by decide +kernel
theorem dX7_takeAway_8 : decode cX7_takeAway 8 = .ok (.iconst (-1), 1) := by decide +kernel
theorem dX7_takeAway_9 : decode cX7_takeAway 9 = .ok (.ireturn, 1) := by decide +kernel
theorem dX7_takeAway_10 : decode cX7_takeAway 10 = .ok (.aload_n 0, 1) := by decide +kernel
theorem dX7_takeAway_11 : decode cX7_takeAway 11 = .ok (.getfield 16, 3) := by decide +kernel
theorem dX7_takeAway_14 : decode cX7_takeAway 14 = .ok (.iload_n 1, 1) := by decide +kernel
theorem dX7_takeAway_15 : decode cX7_takeAway 15 = .ok (.iaload, 1) := by decide +kernel
theorem dX7_takeAway_16 : decode cX7_takeAway 16 = .ok (.istore_n 2, 1) := by decide +kernel
theorem dX7_takeAway_17 : decode cX7_takeAway 17 = .ok (.aload_n 0, 1) := by decide +kernel
theorem dX7_takeAway_18 : decode cX7_takeAway 18 = .ok (.iload_n 2, 1) := by decide +kernel
theorem dX7_takeAway_19 : decode cX7_takeAway 19 = .ok (.iconst (-1), 1) := by decide +kernel
theorem dX7_takeAway_20 : decode cX7_takeAway 20 = .ok (.invokevirtual 42, 3) := by decide +kernel
theorem dX7_takeAway_23 : decode cX7_takeAway 23 = .ok (.aload_n 0, 1) := by decide +kernel
theorem dX7_takeAway_24 : decode cX7_takeAway 24 = .ok (.getfield 16, 3) := by decide +kernel
theorem dX7_takeAway_27 : decode cX7_takeAway 27 = .ok (.iload_n 1, 1) := by decide +kernel
theorem dX7_takeAway_28 : decode cX7_takeAway 28 = .ok (.iconst (-1), 1) := by decide +kernel
theorem dX7_takeAway_29 : decode cX7_takeAway 29 = .ok (.iastore, 1) := by decide +kernel
theorem dX7_takeAway_30 : decode cX7_takeAway 30 = .ok (.iload_n 2, 1) := by decide +kernel
theorem dX7_takeAway_31 : decode cX7_takeAway 31 = .ok (.ireturn, 1) := by decide +kernel
theorem ch_cX7_takeFrom_0 : (cX7_takeFrom.data.toList.drop 0).take 36 = [43, 180, 0, 9, 3, 42, 180, 0, 9, 3, 17, 0, 192, 184, 0, 60, 43, 180, 0, 13, 3, 42, 180, 0, 13, 3, 16, 40, 184, 0, 60, 43, 180, 0, 16, 3] := by decide +kernel
theorem dX7_takeFrom_0 : decode cX7_takeFrom 0 = .ok (.aload_n 1, 1) := do_43 (rdb (p := 0) (i := 0) ch_cX7_takeFrom_0 rfl)
theorem dX7_takeFrom_1 : decode cX7_takeFrom 1 = .ok (.getfield 9, 3) := do_180 (rdb (p := 0) (i := 1) ch_cX7_takeFrom_0 rfl) (rdb (p := 0) (i := 2) ch_cX7_takeFrom_0 rfl) (rdb (p := 0) (i := 3) ch_cX7_takeFrom_0 rfl) rfl
theorem dX7_takeFrom_4 : decode cX7_takeFrom 4 = .ok (.iconst 0, 1) := do_3 (rdb (p := 0) (i := 4) ch_cX7_takeFrom_0 rfl)
theorem dX7_takeFrom_5 : decode cX7_takeFrom 5 = .ok (.aload_n 0, 1) := do_42 (rdb (p := 0) (i := 5) ch_cX7_takeFrom_0 rfl)
theorem dX7_takeFrom_6 : decode cX7_takeFrom 6 = .ok (.getfield 9, 3) := do_180 (rdb (p := 0) (i := 6) ch_cX7_takeFrom_0 rfl) (rdb (p := 0) (i := 7) ch_cX7_takeFrom_0 rfl) (rdb (p := 0) (i := 8) ch_cX7_takeFrom_0 rfl) rfl
theorem dX7_takeFrom_9 : decode cX7_takeFrom 9 = .ok (.iconst 0, 1) := do_3 (rdb (p := 0) (i := 9) ch_cX7_takeFrom_0 rfl)
theorem dX7_takeFrom_10 : decode cX7_takeFrom 10 = .ok (.sipush 192, 3) := do_17 (rdb (p := 0) (i := 10) ch_cX7_takeFrom_0 rfl) (rdb (p := 0) (i := 11) ch_cX7_takeFrom_0 rfl) (rdb (p := 0) (i := 12) ch_cX7_takeFrom_0 rfl) (by decide +kernel)
theorem dX7_takeFrom_13 : decode cX7_takeFrom 13 = .ok (.invokestatic 60, 3) := do_184 (rdb (p := 0) (i := 13) ch_cX7_takeFrom_0 rfl) (rdb (p := 0) (i := 14) ch_cX7_takeFrom_0 rfl) (rdb (p := 0) (i := 15) ch_cX7_takeFrom_0 rfl) rfl
theorem dX7_takeFrom_16 : decode cX7_takeFrom 16 = .ok (.aload_n 1, 1) := do_43 (rdb (p := 0) (i := 16) ch_cX7_takeFrom_0 rfl)
theorem dX7_takeFrom_17 : decode cX7_takeFrom 17 = .ok (.getfield 13, 3) := do_180 (rdb (p := 0) (i := 17) ch_cX7_takeFrom_0 rfl) (rdb (p := 0) (i := 18) ch_cX7_takeFrom_0 rfl) (rdb (p := 0) (i := 19) ch_cX7_takeFrom_0 rfl) rfl
theorem dX7_takeFrom_20 : decode cX7_takeFrom 20 = .ok (.iconst 0, 1) := do_3 (rdb (p := 0) (i := 20) ch_cX7_takeFrom_0 rfl)
theorem dX7_takeFrom_21 : decode cX7_takeFrom 21 = .ok (.aload_n 0, 1) := do_42 (rdb (p := 0) (i := 21) ch_cX7_takeFrom_0 rfl)
theorem dX7_takeFrom_22 : decode cX7_takeFrom 22 = .ok (.getfield 13, 3) := do_180 (rdb (p := 0) (i := 22) ch_cX7_takeFrom_0 rfl) (rdb (p := 0) (i := 23) ch_cX7_takeFrom_0 rfl) (rdb (p := 0) (i := 24) ch_cX7_takeFrom_0 rfl) rfl
theorem dX7_takeFrom_25 : decode cX7_takeFrom 25 = .ok (.iconst 0, 1) := do_3 (rdb (p := 0) (i := 25) ch_cX7_takeFrom_0 rfl)
theorem dX7_takeFrom_26 : decode cX7_takeFrom 26 = .ok (.bipush 40, 2) := do_16 (rdb (p := 0) (i := 26) ch_cX7_takeFrom_0 rfl) (rdb (p := 0) (i := 27) ch_cX7_takeFrom_0 rfl) (by decide +kernel)
theorem dX7_takeFrom_28 : decode cX7_takeFrom 28 = .ok (.invokestatic 60, 3) := do_184 (rdb (p := 0) (i := 28) ch_cX7_takeFrom_0 rfl) (rdb (p := 0) (i := 29) ch_cX7_takeFrom_0 rfl) (rdb (p := 0) (i := 30) ch_cX7_takeFrom_0 rfl) rfl
theorem dX7_takeFrom_31 : decode cX7_takeFrom 31 = .ok (.aload_n 1, 1) := do_43 (rdb (p := 0) (i := 31) ch_cX7_takeFrom_0 rfl)
theorem ch_cX7_takeFrom_32 : (cX7_takeFrom.data.toList.drop 32).take 36 = [180, 0, 16, 3, 42, 180, 0, 16, 3, 16, 40, 184, 0, 60, 43, 180, 0, 19, 3, 42, 180, 0, 19, 3, 16, 40, 184, 0, 60, 43, 180, 0, 22, 3, 42, 180] := by decide +kernel
theorem dX7_takeFrom_32 : decode cX7_takeFrom 32 = .ok (.getfield 16, 3) := do_180 (rdb (p := 32) (i := 0) ch_cX7_takeFrom_32 rfl) (rdb (p := 32) (i := 1) ch_cX7_takeFrom_32 rfl) (rdb (p := 32) (i := 2) ch_cX7_takeFrom_32 rfl) rfl
theorem dX7_takeFrom_35 : decode cX7_takeFrom 35 = .ok (.iconst 0, 1) := do_3 (rdb (p := 32) (i := 3) ch_cX7_takeFrom_32 rfl)
theorem dX7_takeFrom_36 : decode cX7_takeFrom 36 = .ok (.aload_n 0, 1) := do_42 (rdb (p := 32) (i := 4) ch_cX7_takeFrom_32 rfl)
theorem dX7_takeFrom_37 : decode cX7_takeFrom 37 = .ok (.getfield 16, 3) := do_180 (rdb (p := 32) (i := 5) ch_cX7_takeFrom_32 rfl) (rdb (p := 32) (i := 6) ch_cX7_takeFrom_32 rfl) (rdb (p := 32) (i := 7) ch_cX7_takeFrom_32 rfl) rfl
theorem dX7_takeFrom_40 : decode cX7_takeFrom 40 = .ok (.iconst 0, 1) := do_3 (rdb (p := 32) (i := 8) ch_cX7_takeFrom_32 rfl)
theorem dX7_takeFrom_41 : decode cX7_takeFrom 41 = .ok (.bipush 40, 2) := do_16 (rdb (p := 32) (i := 9) ch_cX7_takeFrom_32 rfl) (rdb (p := 32) (i := 10) ch_cX7_takeFrom_32 rfl) (by decide +kernel)
theorem dX7_takeFrom_43 : decode cX7_takeFrom 43 = .ok (.invokestatic 60, 3) := do_184 (rdb (p := 32) (i := 11) ch_cX7_takeFrom_32 rfl) (rdb (p := 32) (i := 12) ch_cX7_takeFrom_32 rfl) (rdb (p := 32) (i := 13) ch_cX7_takeFrom_32 rfl) rfl
theorem dX7_takeFrom_46 : decode cX7_takeFrom 46 = .ok (.aload_n 1, 1) := do_43 (rdb (p := 32) (i := 14) ch_cX7_takeFrom_32 rfl)
theorem dX7_takeFrom_47 : decode cX7_takeFrom 47 = .ok (.getfield 19, 3) := do_180 (rdb (p := 32) (i := 15) ch_cX7_takeFrom_32 rfl) (rdb (p := 32) (i := 16) ch_cX7_takeFrom_32 rfl) (rdb (p := 32) (i := 17) ch_cX7_takeFrom_32 rfl) rfl
theorem dX7_takeFrom_50 : decode cX7_takeFrom 50 = .ok (.iconst 0, 1) := do_3 (rdb (p := 32) (i := 18) ch_cX7_takeFrom_32 rfl)
theorem dX7_takeFrom_51 : decode cX7_takeFrom 51 = .ok (.aload_n 0, 1) := do_42 (rdb (p := 32) (i := 19) ch_cX7_takeFrom_32 rfl)
theorem dX7_takeFrom_52 : decode cX7_takeFrom 52 = .ok (.getfield 19, 3) := do_180 (rdb (p := 32) (i := 20) ch_cX7_takeFrom_32 rfl) (rdb (p := 32) (i := 21) ch_cX7_takeFrom_32 rfl) (rdb (p := 32) (i := 22) ch_cX7_takeFrom_32 rfl) rfl
theorem dX7_takeFrom_55 : decode cX7_takeFrom 55 = .ok (.iconst 0, 1) := do_3 (rdb (p := 32) (i := 23) ch_cX7_takeFrom_32 rfl)
theorem dX7_takeFrom_56 : decode cX7_takeFrom 56 = .ok (.bipush 40, 2) := do_16 (rdb (p := 32) (i := 24) ch_cX7_takeFrom_32 rfl) (rdb (p := 32) (i := 25) ch_cX7_takeFrom_32 rfl) (by decide +kernel)
theorem dX7_takeFrom_58 : decode cX7_takeFrom 58 = .ok (.invokestatic 60, 3) := do_184 (rdb (p := 32) (i := 26) ch_cX7_takeFrom_32 rfl) (rdb (p := 32) (i := 27) ch_cX7_takeFrom_32 rfl) (rdb (p := 32) (i := 28) ch_cX7_takeFrom_32 rfl) rfl
theorem dX7_takeFrom_61 : decode cX7_takeFrom 61 = .ok (.aload_n 1, 1) := do_43 (rdb (p := 32) (i := 29) ch_cX7_takeFrom_32 rfl)
theorem dX7_takeFrom_62 : decode cX7_takeFrom 62 = .ok (.getfield 22, 3) := do_180 (rdb (p := 32) (i := 30) ch_cX7_takeFrom_32 rfl) (rdb (p := 32) (i := 31) ch_cX7_takeFrom_32 rfl) (rdb (p := 32) (i := 32) ch_cX7_takeFrom_32 rfl) rfl
theorem ch_cX7_takeFrom_64 : (cX7_takeFrom.data.toList.drop 64).take 36 = [22, 3, 42, 180, 0, 22, 3, 16, 40, 184, 0, 60, 42, 43, 180, 0, 25, 181, 0, 25, 177] := by decide +kernel
theorem dX7_takeFrom_65 : decode cX7_takeFrom 65 = .ok (.iconst 0, 1) := do_3 (rdb (p := 64) (i := 1) ch_cX7_takeFrom_64 rfl)
theorem dX7_takeFrom_66 : decode cX7_takeFrom 66 = .ok (.aload_n 0, 1) := do_42 (rdb (p := 64) (i := 2) ch_cX7_takeFrom_64 rfl)
theorem dX7_takeFrom_67 : decode cX7_takeFrom 67 = .ok (.getfield 22, 3) := do_180 (rdb (p := 64) (i := 3) ch_cX7_takeFrom_64 rfl) (rdb (p := 64) (i := 4) ch_cX7_takeFrom_64 rfl) (rdb (p := 64) (i := 5) ch_cX7_takeFrom_64 rfl) rfl
theorem dX7_takeFrom_70 : decode cX7_takeFrom 70 = .ok (.iconst 0, 1) := do_3 (rdb (p := 64) (i := 6) ch_cX7_takeFrom_64 rfl)
theorem dX7_takeFrom_71 : decode cX7_takeFrom 71 = .ok (.bipush 40, 2) := do_16 (rdb (p := 64) (i := 7) ch_cX7_takeFrom_64 rfl) (rdb (p := 64) (i := 8) ch_cX7_takeFrom_64 rfl) (by decide +kernel)
theorem dX7_takeFrom_73 : decode cX7_takeFrom 73 = .ok (.invokestatic 60, 3) := do_184 (rdb (p := 64) (i := 9) ch_cX7_takeFrom_64 rfl) (rdb (p := 64) (i := 10) ch_cX7_takeFrom_64 rfl) (rdb (p := 64) (i := 11) ch_cX7_takeFrom_64 rfl) rfl
theorem dX7_takeFrom_76 : decode cX7_takeFrom 76 = .ok (.aload_n 0, 1) := do_42 (rdb (p := 64) (i := 12) ch_cX7_takeFrom_64 rfl)
theorem dX7_takeFrom_77 : decode cX7_takeFrom 77 = .ok (.aload_n 1, 1) := do_43 (rdb (p := 64) (i := 13) ch_cX7_takeFrom_64 rfl)
theorem dX7_takeFrom_78 : decode cX7_takeFrom 78 = .ok (.getfield 25, 3) := do_180 (rdb (p := 64) (i := 14) ch_cX7_takeFrom_64 rfl) (rdb (p := 64) (i := 15) ch_cX7_takeFrom_64 rfl) (rdb (p := 64) (i := 16) ch_cX7_takeFrom_64 rfl) rfl
theorem dX7_takeFrom_81 : decode cX7_takeFrom 81 = .ok (.putfield 25, 3) := do_181 (rdb (p := 64) (i := 17) ch_cX7_takeFrom_64 rfl) (rdb (p := 64) (i := 18) ch_cX7_takeFrom_64 rfl) (rdb (p := 64) (i := 19) ch_cX7_takeFrom_64 rfl) rfl
theorem dX7_takeFrom_84 : decode cX7_takeFrom 84 = .ok (.return_, 1) := do_177 (rdb (p := 64) (i := 20) ch_cX7_takeFrom_64 rfl)
end
section
def SP_X7_isFree (b : Nat) (v : Int32) (Mz : mM) (r_ : Int32) : Prop := (((SP_X7_isCell v Mz (1 : Int32)) ∧ (0 ≤ v.toInt ∧ v.toInt ≤ 191) ∧ ∃ j9_ : Nat, ((j9_ : Int) = v.toInt) ∧ ∃ z7_ : Int32, (z7_ = Mz.1 (35, b, 0) j9_) ∧ (((¬ z7_.toInt = -1) ∧ r_ = 0) ∨ ((z7_.toInt = -1) ∧ r_ = 1))) ∨ ((SP_X7_isCell v Mz (0 : Int32)) ∧ (¬ (0 ≤ v.toInt ∧ v.toInt ≤ 191)) ∧ r_ = 0))
theorem lf_c_X7_isFree_0  (v : Int32) (h4_ : 0 ≤ v.toInt ∧ v.toInt ≤ 191) : 0 ≤ v.toInt ∧ v.toInt < ((192 : Nat) : Int) := by have r_v := rngI v; omega
set_option maxHeartbeats 4000000 in
set_option maxRecDepth 100000 in
theorem c_X7_isFree (l : Launch) (G : va_G) (cy : Nat → ClassId) (ad : rf → Nat) (d : Nat) (b : Nat) (v : Int32) (Mz : mM) (hIz : Inv Mz) (hb : b < 3) : WP CC l G cy ad yX7_isFree cX7_isFree 2 (some .boolean) (d + 1) 0 [(0, vR (7, b, 0)), (1, vI v)] [] Mz (fun r M' => Mz = M' ∧ (((r = 1 ∧ 0 ≤ v.toInt ∧ v.toInt ≤ 191) ∨ r = 0)) ∧ SP_X7_isFree b v Mz r) := by
  refine w_iload_n dX7_isFree_0 rfl 1 rfl ?_
  refine w_callS (as := [vI v]) (rest := []) (c_X7_isCell l G cy ad d v Mz hIz) kS_X7_isCell (by decide +kernel) (Nat.le_of_ble_eq_true rfl) m_509 rfl rfl (by decide) (Nat.le_of_ble_eq_true rfl) dX7_isFree_1 (fun r1_ M2_ q3_ => ?_)
  obtain ⟨rfl, h4_, hs5_⟩ := q3_
  rcases h4_ with ⟨rfl, h4_⟩ | ⟨rfl, h4_⟩
  · refine w_if_eq (tgt := 21) dX7_isFree_4 (by decide) li_1 (fun h9 => (absurd h9 (by decide))) (fun h6_ => ?_)
    refine w_aload_n dX7_isFree_7 rfl 0 rfl ?_
    refine w_getR (c' := (35, b, 0)) fl_RX7_9 rfl rfl (ic_7 hb) dX7_isFree_8 rfl ?_
    refine w_iload_n dX7_isFree_11 rfl 1 rfl ?_
    refine w_iald rfl rfl (ic_35 hb) (rfl : v.toInt = v.toInt) (lf_c_X7_isFree_0 v h4_) dX7_isFree_12 (fun j9_ h10_ z7_ e8_ => ?_)
    refine w_iconst (v := (-1)) dX7_isFree_13 (by decide) ?_
    refine w_icmp_ne (tgt := 21) dX7_isFree_14 (by decide) (rfl : z7_.toInt = z7_.toInt) li_m1 (fun h11_ => ?_) (fun h11_ => ?_)
    · refine w_iconst (v := 0) dX7_isFree_21 (by decide) ?_
      exact w_zret rfl dX7_isFree_22 ⟨by decide, by decide⟩ ⟨rfl, (Or.inr rfl), (Or.inl ⟨hs5_, h4_, j9_, h10_, z7_, e8_, (Or.inl ⟨h11_, rfl⟩)⟩)⟩
    · refine w_iconst (v := 1) dX7_isFree_17 (by decide) ?_
      refine w_goto (tgt := 22) dX7_isFree_18 (by decide) ?_
      exact w_zret rfl dX7_isFree_22 ⟨by decide, by decide⟩ ⟨rfl, (Or.inl ⟨rfl, h4_⟩), (Or.inl ⟨hs5_, h4_, j9_, h10_, z7_, e8_, (Or.inr ⟨h11_, rfl⟩)⟩)⟩
  · refine w_if_eq (tgt := 21) dX7_isFree_4 (by decide) li_0 (fun h12_ => ?_) (fun h9 => (absurd h9 (by decide)))
    refine w_iconst (v := 0) dX7_isFree_21 (by decide) ?_
    exact w_zret rfl dX7_isFree_22 ⟨by decide, by decide⟩ ⟨rfl, (Or.inr rfl), (Or.inr ⟨hs5_, h4_, rfl⟩)⟩
def S_c_X7_settle (b : Nat) : rf → Nat → Prop := fun c k => (c.1 = 35 ∧ c.2.1 = b) ∨ False
def SP_X7_settle (b : Nat) (v : Int32) (u : Int32) (Mz : mM) (M_ : mM) : Prop := (((SP_X7_isCell v Mz (1 : Int32)) ∧ (0 ≤ v.toInt ∧ v.toInt ≤ 191) ∧ ∃ j9_ : Nat, ((j9_ : Int) = v.toInt) ∧ ∃ M7_ : mM, (M7_ = up Mz (35, b, 0) j9_ u) ∧ M_ = M7_) ∨ ((SP_X7_isCell v Mz (0 : Int32)) ∧ (¬ (0 ≤ v.toInt ∧ v.toInt ≤ 191)) ∧ M_ = Mz))
theorem lf_c_X7_settle_0  (v : Int32) (h4_ : 0 ≤ v.toInt ∧ v.toInt ≤ 191) : 0 ≤ v.toInt ∧ v.toInt < ((192 : Nat) : Int) := by have r_v := rngI v; omega
set_option maxHeartbeats 4000000 in
set_option maxRecDepth 100000 in
theorem c_X7_settle (l : Launch) (G : va_G) (cy : Nat → ClassId) (ad : rf → Nat) (d : Nat) (b : Nat) (v : Int32) (u : Int32) (Mz : mM) (hIz : Inv Mz) (hb : b < 3) : WP CC l G cy ad yX7_settle cX7_settle 3 none (d + 1) 0 [(0, vR (7, b, 0)), (1, vI v), (2, vI u)] [] Mz (fun r M' => Inv M' ∧ FR (S_c_X7_settle b) Mz M' ∧ (True) ∧ SP_X7_settle b v u Mz M') := by
  have hFz : FR (S_c_X7_settle b) Mz Mz := FR.self
  refine w_iload_n dX7_settle_0 rfl 1 rfl ?_
  refine w_callS (as := [vI v]) (rest := []) (c_X7_isCell l G cy ad d v Mz hIz) kS_X7_isCell (by decide +kernel) (Nat.le_of_ble_eq_true rfl) m_509 rfl rfl (by decide) (Nat.le_of_ble_eq_true rfl) dX7_settle_1 (fun r1_ M2_ q3_ => ?_)
  obtain ⟨rfl, h4_, hs5_⟩ := q3_
  rcases h4_ with ⟨rfl, h4_⟩ | ⟨rfl, h4_⟩
  · refine w_if_eq (tgt := 14) dX7_settle_4 (by decide) li_1 (fun h9 => (absurd h9 (by decide))) (fun h6_ => ?_)
    refine w_aload_n dX7_settle_7 rfl 0 rfl ?_
    refine w_getR (c' := (35, b, 0)) fl_RX7_9 rfl rfl (ic_7 hb) dX7_settle_8 rfl ?_
    refine w_iload_n dX7_settle_11 rfl 1 rfl ?_
    refine w_iload_n dX7_settle_12 rfl 2 rfl ?_
    refine w_iast CC_nd rfl rfl (ic_35 hb) (rfl : v.toInt = v.toInt) (lf_c_X7_settle_0 v h4_) dX7_settle_13 (fun j9_ h10_ M7_ hM8_ => ?_)
    have hI11_ := hIz.put hM8_ trivial
    have hF12_ := hFz.put hM8_ (Or.inl ⟨rfl, rfl⟩)
    exact w_vret rfl dX7_settle_14 ⟨hI11_, hF12_, trivial, (Or.inl ⟨hs5_, h4_, j9_, h10_, M7_, hM8_, rfl⟩)⟩
  · refine w_if_eq (tgt := 14) dX7_settle_4 (by decide) li_0 (fun h13_ => ?_) (fun h9 => (absurd h9 (by decide)))
    exact w_vret rfl dX7_settle_14 ⟨hIz, hFz, trivial, (Or.inr ⟨hs5_, h4_, rfl⟩)⟩
def SP_X7_hasRoom (b : Nat) (Mz : mM) (r_ : Int32) : Prop := ∃ z1_ : Int32, (z1_ = Mz.1 (7, b, 0) 5) ∧ (((40 ≤ z1_.toInt) ∧ r_ = 0) ∨ ((z1_.toInt < 40) ∧ r_ = 1))
set_option maxHeartbeats 4000000 in
set_option maxRecDepth 100000 in
theorem c_X7_hasRoom (l : Launch) (G : va_G) (cy : Nat → ClassId) (ad : rf → Nat) (d : Nat) (b : Nat) (Mz : mM) (hIz : Inv Mz) (hb : b < 3) : WP CC l G cy ad yX7_hasRoom cX7_hasRoom 1 (some .boolean) d 0 [(0, vR (7, b, 0))] [] Mz (fun r M' => Mz = M' ∧ ((0 ≤ r.toInt ∧ r.toInt ≤ 1)) ∧ SP_X7_hasRoom b Mz r) := by
  refine w_aload_n dX7_hasRoom_0 rfl 0 rfl ?_
  refine w_getI fl_RX7_25 rfl rfl (ic_7 hb) dX7_hasRoom_1 (fun z1_ e2_ => ?_)
  refine w_bipush (v := 40) dX7_hasRoom_4 (by decide) ?_
  refine w_icmp_ge (tgt := 13) dX7_hasRoom_6 (by decide) (rfl : z1_.toInt = z1_.toInt) li_40 (fun h3_ => ?_) (fun h3_ => ?_)
  · refine w_iconst (v := 0) dX7_hasRoom_13 (by decide) ?_
    exact w_zret rfl dX7_hasRoom_14 ⟨by decide, by decide⟩ ⟨rfl, ⟨by decide, by decide⟩, ⟨z1_, e2_, (Or.inl ⟨h3_, rfl⟩)⟩⟩
  · refine w_iconst (v := 1) dX7_hasRoom_9 (by decide) ?_
    refine w_goto (tgt := 14) dX7_hasRoom_10 (by decide) ?_
    exact w_zret rfl dX7_hasRoom_14 ⟨by decide, by decide⟩ ⟨rfl, ⟨by decide, by decide⟩, ⟨z1_, e2_, (Or.inr ⟨h3_, rfl⟩)⟩⟩
def SP_X7_hasThing (b : Nat) (v : Int32) (Mz : mM) (r_ : Int32) : Prop := (((v.toInt < 0) ∧ r_ = 0) ∨ ((0 ≤ v.toInt) ∧ ∃ z2_ : Int32, (z2_ = Mz.1 (7, b, 0) 5) ∧ (((z2_.toInt ≤ v.toInt) ∧ r_ = 0) ∨ ((v.toInt < z2_.toInt) ∧ (((40 ≤ v.toInt) ∧ r_ = 0) ∨ ((v.toInt < 40) ∧ r_ = 1))))))
theorem lf_c_X7_hasThing_0 (Mz : mM) (b : Nat) (v : Int32) (z2_ : Int32) (hb : b < 3) (h1_ : 0 ≤ v.toInt) (e3_ : z2_ = Mz.1 (7, b, 0) 5) (h4_ : v.toInt < z2_.toInt) (h5_ : v.toInt < 40) : 0 ≤ v.toInt ∧ v.toInt ≤ 39 := by have r_v := rngI v; have r_z2_ := rngI z2_; subst e3_; omega
set_option maxHeartbeats 4000000 in
set_option maxRecDepth 100000 in
theorem c_X7_hasThing (l : Launch) (G : va_G) (cy : Nat → ClassId) (ad : rf → Nat) (d : Nat) (b : Nat) (v : Int32) (Mz : mM) (hIz : Inv Mz) (hb : b < 3) : WP CC l G cy ad yX7_hasThing cX7_hasThing 2 (some .boolean) d 0 [(0, vR (7, b, 0)), (1, vI v)] [] Mz (fun r M' => Mz = M' ∧ (((r = 1 ∧ 0 ≤ v.toInt ∧ v.toInt ≤ 39) ∨ r = 0)) ∧ SP_X7_hasThing b v Mz r) := by
  refine w_iload_n dX7_hasThing_0 rfl 1 rfl ?_
  refine w_if_lt (tgt := 22) dX7_hasThing_1 (by decide) (rfl : v.toInt = v.toInt) (fun h1_ => ?_) (fun h1_ => ?_)
  · refine w_iconst (v := 0) dX7_hasThing_22 (by decide) ?_
    exact w_zret rfl dX7_hasThing_23 ⟨by decide, by decide⟩ ⟨rfl, (Or.inr rfl), (Or.inl ⟨h1_, rfl⟩)⟩
  · refine w_iload_n dX7_hasThing_4 rfl 1 rfl ?_
    refine w_aload_n dX7_hasThing_5 rfl 0 rfl ?_
    refine w_getI fl_RX7_25 rfl rfl (ic_7 hb) dX7_hasThing_6 (fun z2_ e3_ => ?_)
    refine w_icmp_ge (tgt := 22) dX7_hasThing_9 (by decide) (rfl : v.toInt = v.toInt) (rfl : z2_.toInt = z2_.toInt) (fun h4_ => ?_) (fun h4_ => ?_)
    · refine w_iconst (v := 0) dX7_hasThing_22 (by decide) ?_
      exact w_zret rfl dX7_hasThing_23 ⟨by decide, by decide⟩ ⟨rfl, (Or.inr rfl), (Or.inr ⟨h1_, z2_, e3_, (Or.inl ⟨h4_, rfl⟩)⟩)⟩
    · refine w_iload_n dX7_hasThing_12 rfl 1 rfl ?_
      refine w_bipush (v := 40) dX7_hasThing_13 (by decide) ?_
      refine w_icmp_ge (tgt := 22) dX7_hasThing_15 (by decide) (rfl : v.toInt = v.toInt) li_40 (fun h5_ => ?_) (fun h5_ => ?_)
      · refine w_iconst (v := 0) dX7_hasThing_22 (by decide) ?_
        exact w_zret rfl dX7_hasThing_23 ⟨by decide, by decide⟩ ⟨rfl, (Or.inr rfl), (Or.inr ⟨h1_, z2_, e3_, (Or.inr ⟨h4_, (Or.inl ⟨h5_, rfl⟩)⟩)⟩)⟩
      · refine w_iconst (v := 1) dX7_hasThing_18 (by decide) ?_
        refine w_goto (tgt := 23) dX7_hasThing_19 (by decide) ?_
        exact w_zret rfl dX7_hasThing_23 ⟨by decide, by decide⟩ ⟨rfl, (Or.inl ⟨rfl, (lf_c_X7_hasThing_0 Mz b v z2_ hb h1_ e3_ h4_ h5_)⟩), (Or.inr ⟨h1_, z2_, e3_, (Or.inr ⟨h4_, (Or.inr ⟨h5_, rfl⟩)⟩)⟩)⟩
def S_c_X7_addThing (b : Nat) : rf → Nat → Prop := fun c k => (c.1 = 36 ∧ c.2.1 = b) ∨ (c.1 = 37 ∧ c.2.1 = b) ∨ (c.1 = 38 ∧ c.2.1 = b) ∨ (c.1 = 39 ∧ c.2.1 = b) ∨ (c.1 = 35 ∧ c.2.1 = b) ∨ (c.1 = 7 ∧ c.2.1 = b ∧ k = 5) ∨ False
def SP_X7_addThing (b : Nat) (v : Int32) (u : Int32) (Mz : mM) (r_ : Int32) (M_ : mM) : Prop := ∃ z1_ : Int32, (z1_ = Mz.1 (7, b, 0) 5) ∧ (((z1_.toInt < 0) ∧ r_ = (-1) ∧ M_ = Mz) ∨ ((0 ≤ z1_.toInt) ∧ (((z1_.toInt < 40) ∧ ∃ j7_ : Nat, ((j7_ : Int) = z1_.toInt) ∧ ∃ M5_ : mM, (M5_ = up Mz (36, b, 0) j7_ v) ∧ ∃ j13_ : Nat, ((j13_ : Int) = z1_.toInt) ∧ ∃ M11_ : mM, (M11_ = up M5_ (37, b, 0) j13_ u) ∧ ∃ j19_ : Nat, ((j19_ : Int) = z1_.toInt) ∧ ∃ M17_ : mM, (M17_ = up M11_ (38, b, 0) j19_ 0) ∧ ∃ j25_ : Nat, ((j25_ : Int) = z1_.toInt) ∧ ∃ M23_ : mM, (M23_ = up M17_ (39, b, 0) j25_ 0) ∧ (Inv M23_) ∧ ∃ M29_ : mM, (Inv M29_) ∧ (FR (S_c_X7_settle b) M23_ M29_) ∧ (SP_X7_settle b u z1_ M23_ M29_) ∧ ∃ z36_ : Int32, (z36_ = M29_.1 (7, b, 0) 5) ∧ ∃ z38_ : Int32, (z38_ = z36_ + (1 : Int32)) ∧ ∃ M40_ : mM, (M40_ = up M29_ (7, b, 0) 5 z38_) ∧ r_ = z1_ ∧ M_ = M40_) ∨ ((40 ≤ z1_.toInt) ∧ r_ = (-1) ∧ M_ = Mz))))
theorem lf_c_X7_addThing_0 (Mz : mM) (b : Nat) (z1_ : Int32) (hb : b < 3) (e2_ : z1_ = Mz.1 (7, b, 0) 5) (h3_ : 0 ≤ z1_.toInt) (h4_ : z1_.toInt < 40) : 0 ≤ z1_.toInt ∧ z1_.toInt < ((40 : Nat) : Int) := by have r_z1_ := rngI z1_; subst e2_; omega
theorem lf_c_X7_addThing_1 (M5_ : mM) (Mz : mM) (b : Nat) (v : Int32) (z1_ : Int32) (j7_ : Nat) (hb : b < 3) (e2_ : z1_ = Mz.1 (7, b, 0) 5) (h3_ : 0 ≤ z1_.toInt) (h4_ : z1_.toInt < 40) (h8_ : (j7_ : Int) = z1_.toInt) (hM6_ : M5_ = up Mz (36, b, 0) j7_ v) : 0 ≤ z1_.toInt ∧ z1_.toInt < ((40 : Nat) : Int) := by have r_v := rngI v; have r_z1_ := rngI z1_; subst e2_; omega
theorem lf_c_X7_addThing_2 (M11_ : mM) (M5_ : mM) (Mz : mM) (b : Nat) (v : Int32) (u : Int32) (z1_ : Int32) (j7_ : Nat) (j13_ : Nat) (hb : b < 3) (e2_ : z1_ = Mz.1 (7, b, 0) 5) (h3_ : 0 ≤ z1_.toInt) (h4_ : z1_.toInt < 40) (h8_ : (j7_ : Int) = z1_.toInt) (hM6_ : M5_ = up Mz (36, b, 0) j7_ v) (h14_ : (j13_ : Int) = z1_.toInt) (hM12_ : M11_ = up M5_ (37, b, 0) j13_ u) : 0 ≤ z1_.toInt ∧ z1_.toInt < ((40 : Nat) : Int) := by have r_v := rngI v; have r_u := rngI u; have r_z1_ := rngI z1_; subst e2_; omega
theorem lf_c_X7_addThing_3 (M11_ : mM) (M17_ : mM) (M5_ : mM) (Mz : mM) (b : Nat) (v : Int32) (u : Int32) (z1_ : Int32) (j7_ : Nat) (j13_ : Nat) (j19_ : Nat) (hb : b < 3) (e2_ : z1_ = Mz.1 (7, b, 0) 5) (h3_ : 0 ≤ z1_.toInt) (h4_ : z1_.toInt < 40) (h8_ : (j7_ : Int) = z1_.toInt) (hM6_ : M5_ = up Mz (36, b, 0) j7_ v) (h14_ : (j13_ : Int) = z1_.toInt) (hM12_ : M11_ = up M5_ (37, b, 0) j13_ u) (h20_ : (j19_ : Int) = z1_.toInt) (hM18_ : M17_ = up M11_ (38, b, 0) j19_ 0) : 0 ≤ z1_.toInt ∧ z1_.toInt < ((40 : Nat) : Int) := by have r_v := rngI v; have r_u := rngI u; have r_z1_ := rngI z1_; subst e2_; omega
set_option maxHeartbeats 4000000 in
set_option maxRecDepth 100000 in
theorem c_X7_addThing (l : Launch) (G : va_G) (cy : Nat → ClassId) (ad : rf → Nat) (d : Nat) (b : Nat) (v : Int32) (u : Int32) (Mz : mM) (hIz : Inv Mz) (hb : b < 3) : WP CC l G cy ad yX7_addThing cX7_addThing 4 (some .int) (d + 2) 0 [(0, vR (7, b, 0)), (1, vI v), (2, vI u)] [] Mz (fun r M' => Inv M' ∧ FR (S_c_X7_addThing b) Mz M' ∧ (True) ∧ SP_X7_addThing b v u Mz r M') := by
  have hFz : FR (S_c_X7_addThing b) Mz Mz := FR.self
  refine w_aload_n dX7_addThing_0 rfl 0 rfl ?_
  refine w_getI fl_RX7_25 rfl rfl (ic_7 hb) dX7_addThing_1 (fun z1_ e2_ => ?_)
  refine w_istore_n (ls' := [(3, vI z1_), (0, vR (7, b, 0)), (1, vI v), (2, vI u)]) dX7_addThing_4 rfl (by decide) rfl ?_
  refine w_iload_n dX7_addThing_5 rfl 0 rfl ?_
  refine w_if_lt (tgt := 15) dX7_addThing_6 (by decide) (rfl : z1_.toInt = z1_.toInt) (fun h3_ => ?_) (fun h3_ => ?_)
  · refine w_iconst (v := (-1)) dX7_addThing_15 (by decide) ?_
    exact w_iret rfl dX7_addThing_16 ⟨hIz, hFz, trivial, ⟨z1_, e2_, (Or.inl ⟨h3_, rfl, rfl⟩)⟩⟩
  · refine w_iload_n dX7_addThing_9 rfl 0 rfl ?_
    refine w_bipush (v := 40) dX7_addThing_10 (by decide) ?_
    refine w_icmp_lt (tgt := 17) dX7_addThing_12 (by decide) (rfl : z1_.toInt = z1_.toInt) li_40 (fun h4_ => ?_) (fun h4_ => ?_)
    · refine w_aload_n dX7_addThing_17 rfl 1 rfl ?_
      refine w_getR (c' := (36, b, 0)) fl_RX7_13 rfl rfl (ic_7 hb) dX7_addThing_18 rfl ?_
      refine w_iload_n dX7_addThing_21 rfl 0 rfl ?_
      refine w_iload_n dX7_addThing_22 rfl 2 rfl ?_
      refine w_iast CC_nd rfl rfl (ic_36 hb) (rfl : z1_.toInt = z1_.toInt) (lf_c_X7_addThing_0 Mz b z1_ hb e2_ h3_ h4_) dX7_addThing_23 (fun j7_ h8_ M5_ hM6_ => ?_)
      have hI9_ := hIz.put hM6_ trivial
      have hF10_ := hFz.put hM6_ (Or.inl ⟨rfl, rfl⟩)
      refine w_aload_n dX7_addThing_24 rfl 1 rfl ?_
      refine w_getR (c' := (37, b, 0)) fl_RX7_16 rfl rfl (ic_7 hb) dX7_addThing_25 rfl ?_
      refine w_iload_n dX7_addThing_28 rfl 0 rfl ?_
      refine w_iload_n dX7_addThing_29 rfl 3 rfl ?_
      refine w_iast CC_nd rfl rfl (ic_37 hb) (rfl : z1_.toInt = z1_.toInt) (lf_c_X7_addThing_1 M5_ Mz b v z1_ j7_ hb e2_ h3_ h4_ h8_ hM6_) dX7_addThing_30 (fun j13_ h14_ M11_ hM12_ => ?_)
      have hI15_ := hI9_.put hM12_ trivial
      have hF16_ := hF10_.put hM12_ (Or.inr (Or.inl ⟨rfl, rfl⟩))
      refine w_aload_n dX7_addThing_31 rfl 1 rfl ?_
      refine w_getR (c' := (38, b, 0)) fl_RX7_19 rfl rfl (ic_7 hb) dX7_addThing_32 rfl ?_
      refine w_iload_n dX7_addThing_35 rfl 0 rfl ?_
      refine w_iconst (v := 0) dX7_addThing_36 (by decide) ?_
      refine w_iast CC_nd rfl rfl (ic_38 hb) (rfl : z1_.toInt = z1_.toInt) (lf_c_X7_addThing_2 M11_ M5_ Mz b v u z1_ j7_ j13_ hb e2_ h3_ h4_ h8_ hM6_ h14_ hM12_) dX7_addThing_37 (fun j19_ h20_ M17_ hM18_ => ?_)
      have hI21_ := hI15_.put hM18_ trivial
      have hF22_ := hF16_.put hM18_ (Or.inr (Or.inr (Or.inl ⟨rfl, rfl⟩)))
      refine w_aload_n dX7_addThing_38 rfl 1 rfl ?_
      refine w_getR (c' := (39, b, 0)) fl_RX7_22 rfl rfl (ic_7 hb) dX7_addThing_39 rfl ?_
      refine w_iload_n dX7_addThing_42 rfl 0 rfl ?_
      refine w_iconst (v := 0) dX7_addThing_43 (by decide) ?_
      refine w_iast CC_nd rfl rfl (ic_39 hb) (rfl : z1_.toInt = z1_.toInt) (lf_c_X7_addThing_3 M11_ M17_ M5_ Mz b v u z1_ j7_ j13_ j19_ hb e2_ h3_ h4_ h8_ hM6_ h14_ hM12_ h20_ hM18_) dX7_addThing_44 (fun j25_ h26_ M23_ hM24_ => ?_)
      have hI27_ := hI21_.put hM24_ trivial
      have hF28_ := hF22_.put hM24_ (Or.inr (Or.inr (Or.inr (Or.inl ⟨rfl, rfl⟩))))
      refine w_aload_n dX7_addThing_45 rfl 1 rfl ?_
      refine w_iload_n dX7_addThing_46 rfl 3 rfl ?_
      refine w_iload_n dX7_addThing_47 rfl 0 rfl ?_
      refine w_callVv (as := [vI u, vI z1_]) (rest := []) (c_X7_settle l G cy ad d b u z1_ M23_ hI27_ hb) kV_X7_settle (by decide +kernel) (Nat.le_of_ble_eq_true rfl) m_518 rfl rfl rfl (ic_7 hb) rfl rfl (by decide) (Nat.le_of_ble_eq_true rfl) dX7_addThing_48 (fun M29_ q30_ => ?_)
      obtain ⟨hI32_, hF33_, h31_, hs35_⟩ := q30_
      have hF34_ := hF28_.tr hF33_ (fun c k => (fun h => h.elim (fun h => (Or.inr (Or.inr (Or.inr (Or.inr (Or.inl ⟨h.1, h.2⟩)))))) (fun h => h.elim)))
      refine w_aload_n dX7_addThing_51 rfl 1 rfl ?_
      refine w_dup dX7_addThing_52 rfl ?_
      refine w_getI fl_RX7_25 rfl rfl (ic_7 hb) dX7_addThing_53 (fun z36_ e37_ => ?_)
      refine w_iconst (v := 1) dX7_addThing_56 (by decide) ?_
      refine w_iadd dX7_addThing_57 (fun z38_ h39_ => ?_)
      refine w_putI CC_nd fl_RX7_25 rfl rfl (ic_7 hb) dX7_addThing_58 (fun M40_ hM41_ => ?_)
      have hI42_ := hI32_.put hM41_ trivial
      have hF43_ := hF34_.put hM41_ (Or.inr (Or.inr (Or.inr (Or.inr (Or.inr (Or.inl ⟨rfl, rfl, rfl⟩))))))
      refine w_iload_n dX7_addThing_61 rfl 0 rfl ?_
      exact w_iret rfl dX7_addThing_62 ⟨hI42_, hF43_, trivial, ⟨z1_, e2_, (Or.inr ⟨h3_, (Or.inl ⟨h4_, j7_, h8_, M5_, hM6_, j13_, h14_, M11_, hM12_, j19_, h20_, M17_, hM18_, j25_, h26_, M23_, hM24_, hI27_, M29_, hI32_, hF33_, hs35_, z36_, e37_, z38_, h39_, M40_, hM41_, rfl, rfl⟩)⟩)⟩⟩
    · refine w_iconst (v := (-1)) dX7_addThing_15 (by decide) ?_
      exact w_iret rfl dX7_addThing_16 ⟨hIz, hFz, trivial, ⟨z1_, e2_, (Or.inr ⟨h3_, (Or.inr ⟨h4_, rfl, rfl⟩)⟩)⟩⟩
def SP_X7_factOf (b : Nat) (v : Int32) (u : Int32) (Mz : mM) (r_ : Int32) : Prop := (((SP_X7_hasThing b v Mz (1 : Int32)) ∧ (0 ≤ v.toInt ∧ v.toInt ≤ 39) ∧ (((u.toInt = 0) ∧ ∃ j10_ : Nat, ((j10_ : Int) = v.toInt) ∧ ∃ z8_ : Int32, (z8_ = Mz.1 (36, b, 0) j10_) ∧ r_ = z8_) ∨ ((u.toInt = 1) ∧ ∃ j14_ : Nat, ((j14_ : Int) = v.toInt) ∧ ∃ z12_ : Int32, (z12_ = Mz.1 (37, b, 0) j14_) ∧ r_ = z12_) ∨ ((u.toInt = 2) ∧ ∃ j18_ : Nat, ((j18_ : Int) = v.toInt) ∧ ∃ z16_ : Int32, (z16_ = Mz.1 (38, b, 0) j18_) ∧ r_ = z16_) ∨ (((¬ u.toInt = 0 ∧ ¬ u.toInt = 1 ∧ ¬ u.toInt = 2)) ∧ ∃ j22_ : Nat, ((j22_ : Int) = v.toInt) ∧ ∃ z20_ : Int32, (z20_ = Mz.1 (39, b, 0) j22_) ∧ r_ = z20_))) ∨ ((SP_X7_hasThing b v Mz (0 : Int32)) ∧ r_ = 0))
theorem lf_c_X7_factOf_0  (u : Int32)  : u.toInt = 0 ∨ u.toInt = 1 ∨ u.toInt = 2 ∨ (¬ u.toInt = 0 ∧ ¬ u.toInt = 1 ∧ ¬ u.toInt = 2) := by have r_u := rngI u; omega
theorem lf_c_X7_factOf_1  (v : Int32) (h4_ : 0 ≤ v.toInt ∧ v.toInt ≤ 39) : 0 ≤ v.toInt ∧ v.toInt < ((40 : Nat) : Int) := by have r_v := rngI v; omega
theorem lf_c_X7_factOf_2  (v : Int32) (h4_ : 0 ≤ v.toInt ∧ v.toInt ≤ 39) : 0 ≤ v.toInt ∧ v.toInt < ((40 : Nat) : Int) := by have r_v := rngI v; omega
theorem lf_c_X7_factOf_3  (v : Int32) (h4_ : 0 ≤ v.toInt ∧ v.toInt ≤ 39) : 0 ≤ v.toInt ∧ v.toInt < ((40 : Nat) : Int) := by have r_v := rngI v; omega
theorem lf_c_X7_factOf_4  (u : Int32) (e7_ : (¬ u.toInt = 0 ∧ ¬ u.toInt = 1 ∧ ¬ u.toInt = 2)) : u.toInt < 0 ∨ 2 < u.toInt := by have r_u := rngI u; omega
theorem lf_c_X7_factOf_5  (v : Int32) (h4_ : 0 ≤ v.toInt ∧ v.toInt ≤ 39) : 0 ≤ v.toInt ∧ v.toInt < ((40 : Nat) : Int) := by have r_v := rngI v; omega
set_option maxHeartbeats 4000000 in
set_option maxRecDepth 100000 in
theorem c_X7_factOf (l : Launch) (G : va_G) (cy : Nat → ClassId) (ad : rf → Nat) (d : Nat) (b : Nat) (v : Int32) (u : Int32) (Mz : mM) (hIz : Inv Mz) (hb : b < 3) : WP CC l G cy ad yX7_factOf cX7_factOf 3 (some .int) (d + 1) 0 [(0, vR (7, b, 0)), (1, vI v), (2, vI u)] [] Mz (fun r M' => Mz = M' ∧ (True) ∧ SP_X7_factOf b v u Mz r) := by
  refine w_aload_n dX7_factOf_0 rfl 0 rfl ?_
  refine w_iload_n dX7_factOf_1 rfl 1 rfl ?_
  refine w_callV (as := [vI v]) (rest := []) (c_X7_hasThing l G cy ad d b v Mz hIz hb) kV_X7_hasThing (by decide +kernel) (Nat.le_of_ble_eq_true rfl) m_534 rfl rfl rfl (ic_7 hb) rfl rfl (by decide) (Nat.le_of_ble_eq_true rfl) dX7_factOf_2 (fun r1_ M2_ q3_ => ?_)
  obtain ⟨rfl, h4_, hs5_⟩ := q3_
  rcases h4_ with ⟨rfl, h4_⟩ | rfl
  · refine w_if_ne (tgt := 10) dX7_factOf_5 (by decide) li_1 (fun h6_ => ?_) (fun h9 => (absurd h9 (by decide)))
    refine w_iload_n dX7_factOf_10 rfl 2 rfl ?_
    rcases (lf_c_X7_factOf_0 u) with e7_ | e7_ | e7_ | e7_
    · refine w_tsIn (tgt := 36) (off := 25) dX7_factOf_11 e7_ (by decide) (by decide) rfl (by decide) ?_
      refine w_aload_n dX7_factOf_36 rfl 0 rfl ?_
      refine w_getR (c' := (36, b, 0)) fl_RX7_13 rfl rfl (ic_7 hb) dX7_factOf_37 rfl ?_
      refine w_iload_n dX7_factOf_40 rfl 1 rfl ?_
      refine w_iald rfl rfl (ic_36 hb) (rfl : v.toInt = v.toInt) (lf_c_X7_factOf_1 v h4_) dX7_factOf_41 (fun j10_ h11_ z8_ e9_ => ?_)
      exact w_iret rfl dX7_factOf_42 ⟨rfl, trivial, (Or.inl ⟨hs5_, h4_, (Or.inl ⟨e7_, j10_, h11_, z8_, e9_, rfl⟩)⟩)⟩
    · refine w_tsIn (tgt := 43) (off := 32) dX7_factOf_11 e7_ (by decide) (by decide) rfl (by decide) ?_
      refine w_aload_n dX7_factOf_43 rfl 0 rfl ?_
      refine w_getR (c' := (37, b, 0)) fl_RX7_16 rfl rfl (ic_7 hb) dX7_factOf_44 rfl ?_
      refine w_iload_n dX7_factOf_47 rfl 1 rfl ?_
      refine w_iald rfl rfl (ic_37 hb) (rfl : v.toInt = v.toInt) (lf_c_X7_factOf_2 v h4_) dX7_factOf_48 (fun j14_ h15_ z12_ e13_ => ?_)
      exact w_iret rfl dX7_factOf_49 ⟨rfl, trivial, (Or.inl ⟨hs5_, h4_, (Or.inr (Or.inl ⟨e7_, j14_, h15_, z12_, e13_, rfl⟩))⟩)⟩
    · refine w_tsIn (tgt := 50) (off := 39) dX7_factOf_11 e7_ (by decide) (by decide) rfl (by decide) ?_
      refine w_aload_n dX7_factOf_50 rfl 0 rfl ?_
      refine w_getR (c' := (38, b, 0)) fl_RX7_19 rfl rfl (ic_7 hb) dX7_factOf_51 rfl ?_
      refine w_iload_n dX7_factOf_54 rfl 1 rfl ?_
      refine w_iald rfl rfl (ic_38 hb) (rfl : v.toInt = v.toInt) (lf_c_X7_factOf_3 v h4_) dX7_factOf_55 (fun j18_ h19_ z16_ e17_ => ?_)
      exact w_iret rfl dX7_factOf_56 ⟨rfl, trivial, (Or.inl ⟨hs5_, h4_, (Or.inr (Or.inr (Or.inl ⟨e7_, j18_, h19_, z16_, e17_, rfl⟩)))⟩)⟩
    · refine w_tsOut (tgt := 57) dX7_factOf_11 rfl (lf_c_X7_factOf_4 u e7_) (by decide) ?_
      refine w_aload_n dX7_factOf_57 rfl 0 rfl ?_
      refine w_getR (c' := (39, b, 0)) fl_RX7_22 rfl rfl (ic_7 hb) dX7_factOf_58 rfl ?_
      refine w_iload_n dX7_factOf_61 rfl 1 rfl ?_
      refine w_iald rfl rfl (ic_39 hb) (rfl : v.toInt = v.toInt) (lf_c_X7_factOf_5 v h4_) dX7_factOf_62 (fun j22_ h23_ z20_ e21_ => ?_)
      exact w_iret rfl dX7_factOf_63 ⟨rfl, trivial, (Or.inl ⟨hs5_, h4_, (Or.inr (Or.inr (Or.inr ⟨e7_, j22_, h23_, z20_, e21_, rfl⟩)))⟩)⟩
  · refine w_if_ne (tgt := 10) dX7_factOf_5 (by decide) li_0 (fun h9 => (absurd h9 (by decide))) (fun h24_ => ?_)
    refine w_iconst (v := 0) dX7_factOf_8 (by decide) ?_
    exact w_iret rfl dX7_factOf_9 ⟨rfl, trivial, (Or.inr ⟨hs5_, rfl⟩)⟩
def S_c_X7_takeAway (b : Nat) : rf → Nat → Prop := fun c k => (c.1 = 35 ∧ c.2.1 = b) ∨ (c.1 = 37 ∧ c.2.1 = b) ∨ False
def SP_X7_takeAway (b : Nat) (v : Int32) (Mz : mM) (r_ : Int32) (M_ : mM) : Prop := (((SP_X7_hasThing b v Mz (1 : Int32)) ∧ (0 ≤ v.toInt ∧ v.toInt ≤ 39) ∧ ∃ j9_ : Nat, ((j9_ : Int) = v.toInt) ∧ ∃ z7_ : Int32, (z7_ = Mz.1 (37, b, 0) j9_) ∧ ∃ M11_ : mM, (Inv M11_) ∧ (FR (S_c_X7_settle b) Mz M11_) ∧ (SP_X7_settle b z7_ (-1) Mz M11_) ∧ ∃ j20_ : Nat, ((j20_ : Int) = v.toInt) ∧ ∃ M18_ : mM, (M18_ = up M11_ (37, b, 0) j20_ (-1)) ∧ r_ = z7_ ∧ M_ = M18_) ∨ ((SP_X7_hasThing b v Mz (0 : Int32)) ∧ r_ = (-1) ∧ M_ = Mz))
theorem lf_c_X7_takeAway_0  (v : Int32) (h4_ : 0 ≤ v.toInt ∧ v.toInt ≤ 39) : 0 ≤ v.toInt ∧ v.toInt < ((40 : Nat) : Int) := by have r_v := rngI v; omega
theorem lf_c_X7_takeAway_1 (Mz : mM) (b : Nat) (v : Int32) (j9_ : Nat) (z7_ : Int32) (hb : b < 3) (h4_ : 0 ≤ v.toInt ∧ v.toInt ≤ 39) (h10_ : (j9_ : Int) = v.toInt) (e8_ : z7_ = Mz.1 (37, b, 0) j9_) : 0 ≤ v.toInt ∧ v.toInt < ((40 : Nat) : Int) := by have r_v := rngI v; have r_z7_ := rngI z7_; subst e8_; omega
set_option maxHeartbeats 4000000 in
set_option maxRecDepth 100000 in
theorem c_X7_takeAway (l : Launch) (G : va_G) (cy : Nat → ClassId) (ad : rf → Nat) (d : Nat) (b : Nat) (v : Int32) (Mz : mM) (hIz : Inv Mz) (hb : b < 3) : WP CC l G cy ad yX7_takeAway cX7_takeAway 3 (some .int) (d + 2) 0 [(0, vR (7, b, 0)), (1, vI v)] [] Mz (fun r M' => Inv M' ∧ FR (S_c_X7_takeAway b) Mz M' ∧ (True) ∧ SP_X7_takeAway b v Mz r M') := by
  have hFz : FR (S_c_X7_takeAway b) Mz Mz := FR.self
  refine w_aload_n dX7_takeAway_0 rfl 0 rfl ?_
  refine w_iload_n dX7_takeAway_1 rfl 1 rfl ?_
  refine w_callV (as := [vI v]) (rest := []) (c_X7_hasThing l G cy ad (d + 1) b v Mz hIz hb) kV_X7_hasThing (by decide +kernel) (Nat.le_of_ble_eq_true rfl) m_534 rfl rfl rfl (ic_7 hb) rfl rfl (by decide) (Nat.le_of_ble_eq_true rfl) dX7_takeAway_2 (fun r1_ M2_ q3_ => ?_)
  obtain ⟨rfl, h4_, hs5_⟩ := q3_
  rcases h4_ with ⟨rfl, h4_⟩ | rfl
  · refine w_if_ne (tgt := 10) dX7_takeAway_5 (by decide) li_1 (fun h6_ => ?_) (fun h9 => (absurd h9 (by decide)))
    refine w_aload_n dX7_takeAway_10 rfl 0 rfl ?_
    refine w_getR (c' := (37, b, 0)) fl_RX7_16 rfl rfl (ic_7 hb) dX7_takeAway_11 rfl ?_
    refine w_iload_n dX7_takeAway_14 rfl 1 rfl ?_
    refine w_iald rfl rfl (ic_37 hb) (rfl : v.toInt = v.toInt) (lf_c_X7_takeAway_0 v h4_) dX7_takeAway_15 (fun j9_ h10_ z7_ e8_ => ?_)
    refine w_istore_n (ls' := [(2, vI z7_), (0, vR (7, b, 0)), (1, vI v)]) dX7_takeAway_16 rfl (by decide) rfl ?_
    refine w_aload_n dX7_takeAway_17 rfl 1 rfl ?_
    refine w_iload_n dX7_takeAway_18 rfl 0 rfl ?_
    refine w_iconst (v := (-1)) dX7_takeAway_19 (by decide) ?_
    refine w_callVv (as := [vI z7_, vI (-1)]) (rest := []) (c_X7_settle l G cy ad d b z7_ (-1) Mz hIz hb) kV_X7_settle (by decide +kernel) (Nat.le_of_ble_eq_true rfl) m_518 rfl rfl rfl (ic_7 hb) rfl rfl (by decide) (Nat.le_of_ble_eq_true rfl) dX7_takeAway_20 (fun M11_ q12_ => ?_)
    obtain ⟨hI14_, hF15_, h13_, hs17_⟩ := q12_
    have hF16_ := hFz.tr hF15_ (fun c k => (fun h => h.elim (fun h => (Or.inl ⟨h.1, h.2⟩)) (fun h => h.elim)))
    refine w_aload_n dX7_takeAway_23 rfl 1 rfl ?_
    refine w_getR (c' := (37, b, 0)) fl_RX7_16 rfl rfl (ic_7 hb) dX7_takeAway_24 rfl ?_
    refine w_iload_n dX7_takeAway_27 rfl 2 rfl ?_
    refine w_iconst (v := (-1)) dX7_takeAway_28 (by decide) ?_
    refine w_iast CC_nd rfl rfl (ic_37 hb) (rfl : v.toInt = v.toInt) (lf_c_X7_takeAway_1 Mz b v j9_ z7_ hb h4_ h10_ e8_) dX7_takeAway_29 (fun j20_ h21_ M18_ hM19_ => ?_)
    have hI22_ := hI14_.put hM19_ trivial
    have hF23_ := hF16_.put hM19_ (Or.inr (Or.inl ⟨rfl, rfl⟩))
    refine w_iload_n dX7_takeAway_30 rfl 0 rfl ?_
    exact w_iret rfl dX7_takeAway_31 ⟨hI22_, hF23_, trivial, (Or.inl ⟨hs5_, h4_, j9_, h10_, z7_, e8_, M11_, hI14_, hF15_, hs17_, j20_, h21_, M18_, hM19_, rfl, rfl⟩)⟩
  · refine w_if_ne (tgt := 10) dX7_takeAway_5 (by decide) li_0 (fun h9 => (absurd h9 (by decide))) (fun h24_ => ?_)
    refine w_iconst (v := (-1)) dX7_takeAway_8 (by decide) ?_
    exact w_iret rfl dX7_takeAway_9 ⟨hIz, hFz, trivial, (Or.inr ⟨hs5_, rfl, rfl⟩)⟩
def ST_X7_countThings_4 (b : Nat) (Mz : mM) (v2_4 : Int32) (v1_4 : Int32) (v2_4y : Int32) (v1_4y : Int32) : Prop := (0 ≤ v2_4.toInt) ∧ ∃ z2_ : Int32, (z2_ = Mz.1 (7, b, 0) 5) ∧ (v2_4.toInt < z2_.toInt) ∧ (v2_4.toInt < 40) ∧ ∃ j8_ : Nat, ((j8_ : Int) = v2_4.toInt) ∧ ∃ z6_ : Int32, (z6_ = Mz.1 (37, b, 0) j8_) ∧ (((z6_.toInt < 0) ∧ ∃ z11_ : Int32, (z11_.toInt = v2_4.toInt + 1) ∧ v2_4y = z11_ ∧ v1_4y = v1_4) ∨ ((0 ≤ z6_.toInt) ∧ ∃ z13_ : Int32, (z13_ = v1_4 + Int32.ofInt 1) ∧ ∃ z15_ : Int32, (z15_.toInt = v2_4.toInt + 1) ∧ v2_4y = z15_ ∧ v1_4y = z13_))
def SP_X7_countThings (b : Nat) (Mz : mM) (r_ : Int32) : Prop := ∃ v2_4 : Int32, (0 ≤ v2_4.toInt) ∧ ∃ v1_4 : Int32, (RCH (fun x_ y_ => ST_X7_countThings_4 b Mz x_.1 x_.2 y_.1 y_.2) ((0 : Int32), (0 : Int32)) (v2_4, v1_4)) ∧ ∃ z2_ : Int32, (z2_ = Mz.1 (7, b, 0) 5) ∧ (((z2_.toInt ≤ v2_4.toInt) ∧ r_ = v1_4) ∨ ((v2_4.toInt < z2_.toInt) ∧ (40 ≤ v2_4.toInt) ∧ r_ = v1_4))
theorem lf_c_X7_countThings_0 (Mz : mM) (b : Nat) (v2_4 : Int32) (z2_ : Int32) (hb : b < 3) (hv0_4 : 0 ≤ v2_4.toInt) (e3_ : z2_ = Mz.1 (7, b, 0) 5) (h4_ : v2_4.toInt < z2_.toInt) (h5_ : v2_4.toInt < 40) : 0 ≤ v2_4.toInt ∧ v2_4.toInt < ((40 : Nat) : Int) := by have r_v2_4 := rngI v2_4; have r_z2_ := rngI z2_; subst e3_; omega
theorem lf_c_X7_countThings_1 (Mz : mM) (b : Nat) (v2_4 : Int32) (z2_ : Int32) (j8_ : Nat) (z6_ : Int32) (hb : b < 3) (hv0_4 : 0 ≤ v2_4.toInt) (e3_ : z2_ = Mz.1 (7, b, 0) 5) (h4_ : v2_4.toInt < z2_.toInt) (h5_ : v2_4.toInt < 40) (h9_ : (j8_ : Int) = v2_4.toInt) (e7_ : z6_ = Mz.1 (37, b, 0) j8_) (h10_ : z6_.toInt < 0) : -2147483648 ≤ v2_4.toInt + 1 ∧ v2_4.toInt + 1 < 2147483648 := by have r_v2_4 := rngI v2_4; have r_z2_ := rngI z2_; have r_z6_ := rngI z6_; subst e3_; subst e7_; omega
theorem lf_c_X7_countThings_2 (Mz : mM) (b : Nat) (v2_4 : Int32) (z2_ : Int32) (j8_ : Nat) (z6_ : Int32) (z11_ : Int32) (hb : b < 3) (hv0_4 : 0 ≤ v2_4.toInt) (e3_ : z2_ = Mz.1 (7, b, 0) 5) (h4_ : v2_4.toInt < z2_.toInt) (h5_ : v2_4.toInt < 40) (h9_ : (j8_ : Int) = v2_4.toInt) (e7_ : z6_ = Mz.1 (37, b, 0) j8_) (h10_ : z6_.toInt < 0) (h12_ : z11_.toInt = v2_4.toInt + 1) : 0 ≤ z11_.toInt := by have r_v2_4 := rngI v2_4; have r_z2_ := rngI z2_; have r_z6_ := rngI z6_; have r_z11_ := rngI z11_; omega
theorem lf_c_X7_countThings_3 (Mz : mM) (b : Nat) (v2_4 : Int32) (z2_ : Int32) (j8_ : Nat) (z6_ : Int32) (z11_ : Int32) (hb : b < 3) (hv0_4 : 0 ≤ v2_4.toInt) (e3_ : z2_ = Mz.1 (7, b, 0) 5) (h4_ : v2_4.toInt < z2_.toInt) (h5_ : v2_4.toInt < 40) (h9_ : (j8_ : Int) = v2_4.toInt) (e7_ : z6_ = Mz.1 (37, b, 0) j8_) (h10_ : z6_.toInt < 0) (h12_ : z11_.toInt = v2_4.toInt + 1) : (2147483648 - z11_.toInt).toNat < (2147483648 - v2_4.toInt).toNat := by have r_v2_4 := rngI v2_4; have r_z2_ := rngI z2_; have r_z6_ := rngI z6_; have r_z11_ := rngI z11_; omega
theorem lf_c_X7_countThings_4 (Mz : mM) (b : Nat) (v2_4 : Int32) (z2_ : Int32) (j8_ : Nat) (z6_ : Int32) (hb : b < 3) (hv0_4 : 0 ≤ v2_4.toInt) (e3_ : z2_ = Mz.1 (7, b, 0) 5) (h4_ : v2_4.toInt < z2_.toInt) (h5_ : v2_4.toInt < 40) (h9_ : (j8_ : Int) = v2_4.toInt) (e7_ : z6_ = Mz.1 (37, b, 0) j8_) (h10_ : 0 ≤ z6_.toInt) : -2147483648 ≤ v2_4.toInt + 1 ∧ v2_4.toInt + 1 < 2147483648 := by have r_v2_4 := rngI v2_4; have r_z2_ := rngI z2_; have r_z6_ := rngI z6_; subst e3_; subst e7_; omega
theorem lf_c_X7_countThings_5 (Mz : mM) (b : Nat) (v2_4 : Int32) (z2_ : Int32) (j8_ : Nat) (z6_ : Int32) (z15_ : Int32) (hb : b < 3) (hv0_4 : 0 ≤ v2_4.toInt) (e3_ : z2_ = Mz.1 (7, b, 0) 5) (h4_ : v2_4.toInt < z2_.toInt) (h5_ : v2_4.toInt < 40) (h9_ : (j8_ : Int) = v2_4.toInt) (e7_ : z6_ = Mz.1 (37, b, 0) j8_) (h10_ : 0 ≤ z6_.toInt) (h16_ : z15_.toInt = v2_4.toInt + 1) : 0 ≤ z15_.toInt := by have r_v2_4 := rngI v2_4; have r_z2_ := rngI z2_; have r_z6_ := rngI z6_; have r_z15_ := rngI z15_; omega
theorem lf_c_X7_countThings_6 (Mz : mM) (b : Nat) (v2_4 : Int32) (z2_ : Int32) (j8_ : Nat) (z6_ : Int32) (z15_ : Int32) (hb : b < 3) (hv0_4 : 0 ≤ v2_4.toInt) (e3_ : z2_ = Mz.1 (7, b, 0) 5) (h4_ : v2_4.toInt < z2_.toInt) (h5_ : v2_4.toInt < 40) (h9_ : (j8_ : Int) = v2_4.toInt) (e7_ : z6_ = Mz.1 (37, b, 0) j8_) (h10_ : 0 ≤ z6_.toInt) (h16_ : z15_.toInt = v2_4.toInt + 1) : (2147483648 - z15_.toInt).toNat < (2147483648 - v2_4.toInt).toNat := by have r_v2_4 := rngI v2_4; have r_z2_ := rngI z2_; have r_z6_ := rngI z6_; have r_z15_ := rngI z15_; omega
theorem lf_c_X7_countThings_7    : 0 ≤ (0 : Int32).toInt := by have q0 := li_0; omega
set_option maxHeartbeats 4000000 in
set_option maxRecDepth 100000 in
theorem c_X7_countThings (l : Launch) (G : va_G) (cy : Nat → ClassId) (ad : rf → Nat) (d : Nat) (b : Nat) (Mz : mM) (hIz : Inv Mz) (hb : b < 3) : WP CC l G cy ad yX7_countThings cX7_countThings 3 (some .int) d 0 [(0, vR (7, b, 0))] [] Mz (fun r M' => Mz = M' ∧ (True) ∧ SP_X7_countThings b Mz r) := by
  refine w_iconst (v := 0) dX7_countThings_0 (by decide) ?_
  refine w_istore_n (ls' := [(1, vI 0), (0, vR (7, b, 0))]) dX7_countThings_1 rfl (by decide) rfl ?_
  refine w_iconst (v := 0) dX7_countThings_2 (by decide) ?_
  refine w_istore_n (ls' := [(2, vI 0), (1, vI 0), (0, vR (7, b, 0))]) dX7_countThings_3 rfl (by decide) rfl ?_
  have lp1_ : ∀ (nn_4 : Nat) (v2_4 : Int32) (v1_4 : Int32) (hv0_4 : 0 ≤ v2_4.toInt) (hL_4 : RCH (fun x_ y_ => ST_X7_countThings_4 b Mz x_.1 x_.2 y_.1 y_.2) ((0 : Int32), (0 : Int32)) (v2_4, v1_4)), (2147483648 - v2_4.toInt).toNat < nn_4 → WP CC l G cy ad yX7_countThings cX7_countThings 3 (some .int) d 4 [(2, vI v2_4), (1, vI v1_4), (0, vR (7, b, 0))] [] Mz (fun r M' => Mz = M' ∧ (True) ∧ SP_X7_countThings b Mz r) := by
    intro nn_4
    induction nn_4 with
    | zero => intro v2_4 v1_4 hv0_4 hL_4 hm_4; exact absurd hm_4 (Nat.not_lt_zero _)
    | succ nn_4 ih_4 =>
      intro v2_4 v1_4 hv0_4 hL_4 hm_4
      refine w_iload_n dX7_countThings_4 rfl 0 rfl ?_
      refine w_aload_n dX7_countThings_5 rfl 2 rfl ?_
      refine w_getI fl_RX7_25 rfl rfl (ic_7 hb) dX7_countThings_6 (fun z2_ e3_ => ?_)
      refine w_icmp_ge (tgt := 36) dX7_countThings_9 (by decide) (rfl : v2_4.toInt = v2_4.toInt) (rfl : z2_.toInt = z2_.toInt) (fun h4_ => ?_) (fun h4_ => ?_)
      · refine w_iload_n dX7_countThings_36 rfl 1 rfl ?_
        exact w_iret rfl dX7_countThings_37 ⟨rfl, trivial, ⟨v2_4, hv0_4, v1_4, hL_4, z2_, e3_, (Or.inl ⟨h4_, rfl⟩)⟩⟩
      · refine w_iload_n dX7_countThings_12 rfl 0 rfl ?_
        refine w_bipush (v := 40) dX7_countThings_13 (by decide) ?_
        refine w_icmp_ge (tgt := 36) dX7_countThings_15 (by decide) (rfl : v2_4.toInt = v2_4.toInt) li_40 (fun h5_ => ?_) (fun h5_ => ?_)
        · refine w_iload_n dX7_countThings_36 rfl 1 rfl ?_
          exact w_iret rfl dX7_countThings_37 ⟨rfl, trivial, ⟨v2_4, hv0_4, v1_4, hL_4, z2_, e3_, (Or.inr ⟨h4_, h5_, rfl⟩)⟩⟩
        · refine w_aload_n dX7_countThings_18 rfl 2 rfl ?_
          refine w_getR (c' := (37, b, 0)) fl_RX7_16 rfl rfl (ic_7 hb) dX7_countThings_19 rfl ?_
          refine w_iload_n dX7_countThings_22 rfl 0 rfl ?_
          refine w_iald rfl rfl (ic_37 hb) (rfl : v2_4.toInt = v2_4.toInt) (lf_c_X7_countThings_0 Mz b v2_4 z2_ hb hv0_4 e3_ h4_ h5_) dX7_countThings_23 (fun j8_ h9_ z6_ e7_ => ?_)
          refine w_if_lt (tgt := 30) dX7_countThings_24 (by decide) (rfl : z6_.toInt = z6_.toInt) (fun h10_ => ?_) (fun h10_ => ?_)
          · refine w_iincB (j := 0) (f := fun z11_ => [(2, vI z11_), (1, vI v1_4), (0, vR (7, b, 0))]) dX7_countThings_30 rfl (by decide) (fun _ => rfl) (rfl : v2_4.toInt = v2_4.toInt) li_1 (lf_c_X7_countThings_1 Mz b v2_4 z2_ j8_ z6_ hb hv0_4 e3_ h4_ h5_ h9_ e7_ h10_) (fun z11_ h12_ => ?_)
            refine w_goto (tgt := 4) dX7_countThings_33 (by decide) ?_
            refine w_loc (ls' := [(2, vI z11_), (1, vI v1_4), (0, vR (7, b, 0))]) [0, 1, 2] rfl ?_
            exact ih_4 z11_ v1_4 (lf_c_X7_countThings_2 Mz b v2_4 z2_ j8_ z6_ z11_ hb hv0_4 e3_ h4_ h5_ h9_ e7_ h10_ h12_) (RCH.tail hL_4 ⟨hv0_4, z2_, e3_, h4_, h5_, j8_, h9_, z6_, e7_, (Or.inl ⟨h10_, z11_, h12_, rfl, rfl⟩)⟩) (Nat.lt_of_lt_of_le (lf_c_X7_countThings_3 Mz b v2_4 z2_ j8_ z6_ z11_ hb hv0_4 e3_ h4_ h5_ h9_ e7_ h10_ h12_) (Nat.le_of_lt_succ hm_4))
          · refine w_iincX (j := 1) (f := fun z13_ => [(1, vI z13_), (2, vI v2_4), (0, vR (7, b, 0))]) dX7_countThings_27 rfl (by decide) (fun _ => rfl) (fun z13_ h14_ => ?_)
            refine w_iincB (j := 1) (f := fun z15_ => [(2, vI z15_), (1, vI z13_), (0, vR (7, b, 0))]) dX7_countThings_30 rfl (by decide) (fun _ => rfl) (rfl : v2_4.toInt = v2_4.toInt) li_1 (lf_c_X7_countThings_4 Mz b v2_4 z2_ j8_ z6_ hb hv0_4 e3_ h4_ h5_ h9_ e7_ h10_) (fun z15_ h16_ => ?_)
            refine w_goto (tgt := 4) dX7_countThings_33 (by decide) ?_
            refine w_loc (ls' := [(2, vI z15_), (1, vI z13_), (0, vR (7, b, 0))]) [0, 1, 2] rfl ?_
            exact ih_4 z15_ z13_ (lf_c_X7_countThings_5 Mz b v2_4 z2_ j8_ z6_ z15_ hb hv0_4 e3_ h4_ h5_ h9_ e7_ h10_ h16_) (RCH.tail hL_4 ⟨hv0_4, z2_, e3_, h4_, h5_, j8_, h9_, z6_, e7_, (Or.inr ⟨h10_, z13_, h14_, z15_, h16_, rfl, rfl⟩)⟩) (Nat.lt_of_lt_of_le (lf_c_X7_countThings_6 Mz b v2_4 z2_ j8_ z6_ z15_ hb hv0_4 e3_ h4_ h5_ h9_ e7_ h10_ h16_) (Nat.le_of_lt_succ hm_4))
  exact lp1_ _ 0 0 (lf_c_X7_countThings_7 ) RCH.refl (Nat.lt_succ_self _)
def SP_X7_kindIn (b : Nat) (v : Int32) (Mz : mM) (r_ : Int32) : Prop := (((SP_X7_isCell v Mz (1 : Int32)) ∧ (0 ≤ v.toInt ∧ v.toInt ≤ 191) ∧ ∃ j9_ : Nat, ((j9_ : Int) = v.toInt) ∧ ∃ z7_ : Int32, (z7_ = Mz.1 (35, b, 0) j9_) ∧ (((SP_X7_hasThing b z7_ Mz (1 : Int32)) ∧ (0 ≤ z7_.toInt ∧ z7_.toInt ≤ 39) ∧ ∃ j19_ : Nat, ((j19_ : Int) = z7_.toInt) ∧ ∃ z17_ : Int32, (z17_ = Mz.1 (36, b, 0) j19_) ∧ r_ = z17_) ∨ ((SP_X7_hasThing b z7_ Mz (0 : Int32)) ∧ r_ = 3))) ∨ ((SP_X7_isCell v Mz (0 : Int32)) ∧ (¬ (0 ≤ v.toInt ∧ v.toInt ≤ 191)) ∧ (SP_X7_hasThing b (-1) Mz (0 : Int32)) ∧ r_ = 3))
theorem lf_c_X7_kindIn_0  (v : Int32) (h4_ : 0 ≤ v.toInt ∧ v.toInt ≤ 191) : 0 ≤ v.toInt ∧ v.toInt < ((192 : Nat) : Int) := by have r_v := rngI v; omega
theorem lf_c_X7_kindIn_1 (Mz : mM) (b : Nat) (v : Int32) (j9_ : Nat) (z7_ : Int32) (hb : b < 3) (h4_ : 0 ≤ v.toInt ∧ v.toInt ≤ 191) (h10_ : (j9_ : Int) = v.toInt) (e8_ : z7_ = Mz.1 (35, b, 0) j9_) (h14_ : 0 ≤ z7_.toInt ∧ z7_.toInt ≤ 39) : 0 ≤ z7_.toInt ∧ z7_.toInt < ((40 : Nat) : Int) := by have r_v := rngI v; have r_z7_ := rngI z7_; subst e8_; omega
set_option maxHeartbeats 4000000 in
set_option maxRecDepth 100000 in
theorem c_X7_kindIn (l : Launch) (G : va_G) (cy : Nat → ClassId) (ad : rf → Nat) (d : Nat) (b : Nat) (v : Int32) (Mz : mM) (hIz : Inv Mz) (hb : b < 3) : WP CC l G cy ad yX7_kindIn cX7_kindIn 3 (some .int) (d + 1) 0 [(0, vR (7, b, 0)), (1, vI v)] [] Mz (fun r M' => Mz = M' ∧ (True) ∧ SP_X7_kindIn b v Mz r) := by
  refine w_iload_n dX7_kindIn_0 rfl 1 rfl ?_
  refine w_callS (as := [vI v]) (rest := []) (c_X7_isCell l G cy ad d v Mz hIz) kS_X7_isCell (by decide +kernel) (Nat.le_of_ble_eq_true rfl) m_509 rfl rfl (by decide) (Nat.le_of_ble_eq_true rfl) dX7_kindIn_1 (fun r1_ M2_ q3_ => ?_)
  obtain ⟨rfl, h4_, hs5_⟩ := q3_
  rcases h4_ with ⟨rfl, h4_⟩ | ⟨rfl, h4_⟩
  · refine w_if_eq (tgt := 16) dX7_kindIn_4 (by decide) li_1 (fun h9 => (absurd h9 (by decide))) (fun h6_ => ?_)
    refine w_aload_n dX7_kindIn_7 rfl 0 rfl ?_
    refine w_getR (c' := (35, b, 0)) fl_RX7_9 rfl rfl (ic_7 hb) dX7_kindIn_8 rfl ?_
    refine w_iload_n dX7_kindIn_11 rfl 1 rfl ?_
    refine w_iald rfl rfl (ic_35 hb) (rfl : v.toInt = v.toInt) (lf_c_X7_kindIn_0 v h4_) dX7_kindIn_12 (fun j9_ h10_ z7_ e8_ => ?_)
    refine w_goto (tgt := 17) dX7_kindIn_13 (by decide) ?_
    refine w_istore_n (ls' := [(2, vI z7_), (0, vR (7, b, 0)), (1, vI v)]) dX7_kindIn_17 rfl (by decide) rfl ?_
    refine w_aload_n dX7_kindIn_18 rfl 1 rfl ?_
    refine w_iload_n dX7_kindIn_19 rfl 0 rfl ?_
    refine w_callV (as := [vI z7_]) (rest := []) (c_X7_hasThing l G cy ad d b z7_ Mz hIz hb) kV_X7_hasThing (by decide +kernel) (Nat.le_of_ble_eq_true rfl) m_534 rfl rfl rfl (ic_7 hb) rfl rfl (by decide) (Nat.le_of_ble_eq_true rfl) dX7_kindIn_20 (fun r11_ M12_ q13_ => ?_)
    obtain ⟨rfl, h14_, hs15_⟩ := q13_
    rcases h14_ with ⟨rfl, h14_⟩ | rfl
    · refine w_if_eq (tgt := 35) dX7_kindIn_23 (by decide) li_1 (fun h9 => (absurd h9 (by decide))) (fun h16_ => ?_)
      refine w_aload_n dX7_kindIn_26 rfl 1 rfl ?_
      refine w_getR (c' := (36, b, 0)) fl_RX7_13 rfl rfl (ic_7 hb) dX7_kindIn_27 rfl ?_
      refine w_iload_n dX7_kindIn_30 rfl 0 rfl ?_
      refine w_iald rfl rfl (ic_36 hb) (rfl : z7_.toInt = z7_.toInt) (lf_c_X7_kindIn_1 Mz b v j9_ z7_ hb h4_ h10_ e8_ h14_) dX7_kindIn_31 (fun j19_ h20_ z17_ e18_ => ?_)
      refine w_goto (tgt := 36) dX7_kindIn_32 (by decide) ?_
      exact w_iret rfl dX7_kindIn_36 ⟨rfl, trivial, (Or.inl ⟨hs5_, h4_, j9_, h10_, z7_, e8_, (Or.inl ⟨hs15_, h14_, j19_, h20_, z17_, e18_, rfl⟩)⟩)⟩
    · refine w_if_eq (tgt := 35) dX7_kindIn_23 (by decide) li_0 (fun h21_ => ?_) (fun h9 => (absurd h9 (by decide)))
      refine w_iconst (v := 3) dX7_kindIn_35 (by decide) ?_
      exact w_iret rfl dX7_kindIn_36 ⟨rfl, trivial, (Or.inl ⟨hs5_, h4_, j9_, h10_, z7_, e8_, (Or.inr ⟨hs15_, rfl⟩)⟩)⟩
  · refine w_if_eq (tgt := 16) dX7_kindIn_4 (by decide) li_0 (fun h22_ => ?_) (fun h9 => (absurd h9 (by decide)))
    refine w_iconst (v := (-1)) dX7_kindIn_16 (by decide) ?_
    refine w_istore_n (ls' := [(2, vI (-1)), (0, vR (7, b, 0)), (1, vI v)]) dX7_kindIn_17 rfl (by decide) rfl ?_
    refine w_aload_n dX7_kindIn_18 rfl 1 rfl ?_
    refine w_iload_n dX7_kindIn_19 rfl 0 rfl ?_
    refine w_callV (as := [vI (-1)]) (rest := []) (c_X7_hasThing l G cy ad d b (-1) Mz hIz hb) kV_X7_hasThing (by decide +kernel) (Nat.le_of_ble_eq_true rfl) m_534 rfl rfl rfl (ic_7 hb) rfl rfl (by decide) (Nat.le_of_ble_eq_true rfl) dX7_kindIn_20 (fun r23_ M24_ q25_ => ?_)
    obtain ⟨rfl, h26_, hs27_⟩ := q25_
    rcases h26_ with ⟨rfl, h26_⟩ | rfl
    · simp only [li_m1] at h26_
      exact absurd h26_ (by decide)
    · refine w_if_eq (tgt := 35) dX7_kindIn_23 (by decide) li_0 (fun h28_ => ?_) (fun h9 => (absurd h9 (by decide)))
      refine w_iconst (v := 3) dX7_kindIn_35 (by decide) ?_
      exact w_iret rfl dX7_kindIn_36 ⟨rfl, trivial, (Or.inr ⟨hs5_, h4_, hs27_, rfl⟩)⟩
def S_c_X7_letThingGo (b : Nat) : rf → Nat → Prop := fun c k => (c.1 = 35 ∧ c.2.1 = b) ∨ (c.1 = 37 ∧ c.2.1 = b) ∨ (c.1 = 38 ∧ c.2.1 = b) ∨ False
def SP_X7_letThingGo (b : Nat) (v : Int32) (Mz : mM) (M_ : mM) : Prop := (((SP_X7_hasThing b v Mz (1 : Int32)) ∧ (0 ≤ v.toInt ∧ v.toInt ≤ 39) ∧ ∃ j9_ : Nat, ((j9_ : Int) = v.toInt) ∧ ∃ z7_ : Int32, (z7_ = Mz.1 (37, b, 0) j9_) ∧ ∃ j13_ : Nat, ((j13_ : Int) = v.toInt) ∧ ∃ z11_ : Int32, (z11_ = Mz.1 (38, b, 0) j13_) ∧ ∃ r15_ : Int32, (SP_X7_cellFrom z7_ z11_ 1 Mz r15_) ∧ (-1 ≤ r15_.toInt ∧ r15_.toInt ≤ 191) ∧ (((SP_X7_isFree b r15_ Mz (1 : Int32)) ∧ (0 ≤ r15_.toInt ∧ r15_.toInt ≤ 191) ∧ ∃ j28_ : Nat, ((j28_ : Int) = v.toInt) ∧ ∃ z26_ : Int32, (z26_ = Mz.1 (37, b, 0) j28_) ∧ ∃ M30_ : mM, (Inv M30_) ∧ (FR (S_c_X7_settle b) Mz M30_) ∧ (SP_X7_settle b z26_ (-1) Mz M30_) ∧ ∃ M37_ : mM, (Inv M37_) ∧ (FR (S_c_X7_settle b) M30_ M37_) ∧ (SP_X7_settle b r15_ v M30_ M37_) ∧ ∃ j46_ : Nat, ((j46_ : Int) = v.toInt) ∧ ∃ M44_ : mM, (M44_ = up M37_ (37, b, 0) j46_ r15_) ∧ M_ = M44_) ∨ ((SP_X7_isFree b r15_ Mz (0 : Int32)) ∧ ∃ j53_ : Nat, ((j53_ : Int) = v.toInt) ∧ ∃ z51_ : Int32, (z51_ = Mz.1 (38, b, 0) j53_) ∧ ∃ z55_ : Int32, (z55_ = z51_ + (4 : Int32)) ∧ ∃ z57_ : Int32, (z57_ = z55_ &&& (7 : Int32)) ∧ (0 ≤ z57_.toInt ∧ z57_.toInt < ((2 ^ 3 : Nat) : Int)) ∧ ∃ j62_ : Nat, ((j62_ : Int) = v.toInt) ∧ ∃ M60_ : mM, (M60_ = up Mz (38, b, 0) j62_ z57_) ∧ M_ = M60_))) ∨ ((SP_X7_hasThing b v Mz (0 : Int32)) ∧ M_ = Mz))
theorem lf_c_X7_letThingGo_0  (v : Int32) (h4_ : 0 ≤ v.toInt ∧ v.toInt ≤ 39) : 0 ≤ v.toInt ∧ v.toInt < ((40 : Nat) : Int) := by have r_v := rngI v; omega
theorem lf_c_X7_letThingGo_1 (Mz : mM) (b : Nat) (v : Int32) (j9_ : Nat) (z7_ : Int32) (hb : b < 3) (h4_ : 0 ≤ v.toInt ∧ v.toInt ≤ 39) (h10_ : (j9_ : Int) = v.toInt) (e8_ : z7_ = Mz.1 (37, b, 0) j9_) : 0 ≤ v.toInt ∧ v.toInt < ((40 : Nat) : Int) := by have r_v := rngI v; have r_z7_ := rngI z7_; subst e8_; omega
theorem lf_c_X7_letThingGo_2 (Mz : mM) (b : Nat) (v : Int32) (j9_ : Nat) (z7_ : Int32) (j13_ : Nat) (z11_ : Int32) (hb : b < 3) (h4_ : 0 ≤ v.toInt ∧ v.toInt ≤ 39) (h10_ : (j9_ : Int) = v.toInt) (e8_ : z7_ = Mz.1 (37, b, 0) j9_) (h14_ : (j13_ : Int) = v.toInt) (e12_ : z11_ = Mz.1 (38, b, 0) j13_) : 0 ≤ v.toInt ∧ v.toInt < ((40 : Nat) : Int) := by have r_v := rngI v; have r_z7_ := rngI z7_; have r_z11_ := rngI z11_; subst e8_; subst e12_; omega
theorem lf_c_X7_letThingGo_3 (Mz : mM) (b : Nat) (v : Int32) (j9_ : Nat) (z7_ : Int32) (j13_ : Nat) (z11_ : Int32) (j28_ : Nat) (z26_ : Int32) (hb : b < 3) (h4_ : 0 ≤ v.toInt ∧ v.toInt ≤ 39) (h10_ : (j9_ : Int) = v.toInt) (e8_ : z7_ = Mz.1 (37, b, 0) j9_) (h14_ : (j13_ : Int) = v.toInt) (e12_ : z11_ = Mz.1 (38, b, 0) j13_) (h29_ : (j28_ : Int) = v.toInt) (e27_ : z26_ = Mz.1 (37, b, 0) j28_) : 0 ≤ v.toInt ∧ v.toInt < ((40 : Nat) : Int) := by have r_v := rngI v; have r_z7_ := rngI z7_; have r_z11_ := rngI z11_; have r_z26_ := rngI z26_; subst e8_; subst e12_; subst e27_; omega
theorem lf_c_X7_letThingGo_4 (Mz : mM) (b : Nat) (v : Int32) (j9_ : Nat) (z7_ : Int32) (j13_ : Nat) (z11_ : Int32) (hb : b < 3) (h4_ : 0 ≤ v.toInt ∧ v.toInt ≤ 39) (h10_ : (j9_ : Int) = v.toInt) (e8_ : z7_ = Mz.1 (37, b, 0) j9_) (h14_ : (j13_ : Int) = v.toInt) (e12_ : z11_ = Mz.1 (38, b, 0) j13_) : 0 ≤ v.toInt ∧ v.toInt < ((40 : Nat) : Int) := by have r_v := rngI v; have r_z7_ := rngI z7_; have r_z11_ := rngI z11_; subst e8_; subst e12_; omega
theorem lf_c_X7_letThingGo_5 (Mz : mM) (b : Nat) (v : Int32) (j9_ : Nat) (z7_ : Int32) (j13_ : Nat) (z11_ : Int32) (j53_ : Nat) (z51_ : Int32) (hb : b < 3) (h4_ : 0 ≤ v.toInt ∧ v.toInt ≤ 39) (h10_ : (j9_ : Int) = v.toInt) (e8_ : z7_ = Mz.1 (37, b, 0) j9_) (h14_ : (j13_ : Int) = v.toInt) (e12_ : z11_ = Mz.1 (38, b, 0) j13_) (h54_ : (j53_ : Int) = v.toInt) (e52_ : z51_ = Mz.1 (38, b, 0) j53_) : 0 ≤ v.toInt ∧ v.toInt < ((40 : Nat) : Int) := by have r_v := rngI v; have r_z7_ := rngI z7_; have r_z11_ := rngI z11_; have r_z51_ := rngI z51_; subst e8_; subst e12_; subst e52_; omega
set_option maxHeartbeats 4000000 in
set_option maxRecDepth 100000 in
theorem c_X7_letThingGo (l : Launch) (G : va_G) (cy : Nat → ClassId) (ad : rf → Nat) (d : Nat) (b : Nat) (v : Int32) (Mz : mM) (hIz : Inv Mz) (hb : b < 3) : WP CC l G cy ad yX7_letThingGo cX7_letThingGo 3 none (d + 2) 0 [(0, vR (7, b, 0)), (1, vI v)] [] Mz (fun r M' => Inv M' ∧ FR (S_c_X7_letThingGo b) Mz M' ∧ (True) ∧ SP_X7_letThingGo b v Mz M') := by
  have hFz : FR (S_c_X7_letThingGo b) Mz Mz := FR.self
  refine w_aload_n dX7_letThingGo_0 rfl 0 rfl ?_
  refine w_iload_n dX7_letThingGo_1 rfl 1 rfl ?_
  refine w_callV (as := [vI v]) (rest := []) (c_X7_hasThing l G cy ad (d + 1) b v Mz hIz hb) kV_X7_hasThing (by decide +kernel) (Nat.le_of_ble_eq_true rfl) m_534 rfl rfl rfl (ic_7 hb) rfl rfl (by decide) (Nat.le_of_ble_eq_true rfl) dX7_letThingGo_2 (fun r1_ M2_ q3_ => ?_)
  obtain ⟨rfl, h4_, hs5_⟩ := q3_
  rcases h4_ with ⟨rfl, h4_⟩ | rfl
  · refine w_if_ne (tgt := 9) dX7_letThingGo_5 (by decide) li_1 (fun h6_ => ?_) (fun h9 => (absurd h9 (by decide)))
    refine w_aload_n dX7_letThingGo_9 rfl 0 rfl ?_
    refine w_getR (c' := (37, b, 0)) fl_RX7_16 rfl rfl (ic_7 hb) dX7_letThingGo_10 rfl ?_
    refine w_iload_n dX7_letThingGo_13 rfl 1 rfl ?_
    refine w_iald rfl rfl (ic_37 hb) (rfl : v.toInt = v.toInt) (lf_c_X7_letThingGo_0 v h4_) dX7_letThingGo_14 (fun j9_ h10_ z7_ e8_ => ?_)
    refine w_aload_n dX7_letThingGo_15 rfl 0 rfl ?_
    refine w_getR (c' := (38, b, 0)) fl_RX7_19 rfl rfl (ic_7 hb) dX7_letThingGo_16 rfl ?_
    refine w_iload_n dX7_letThingGo_19 rfl 1 rfl ?_
    refine w_iald rfl rfl (ic_38 hb) (rfl : v.toInt = v.toInt) (lf_c_X7_letThingGo_1 Mz b v j9_ z7_ hb h4_ h10_ e8_) dX7_letThingGo_20 (fun j13_ h14_ z11_ e12_ => ?_)
    refine w_iconst (v := 1) dX7_letThingGo_21 (by decide) ?_
    refine w_callS (as := [vI z7_, vI z11_, vI 1]) (rest := []) (c_X7_cellFrom l G cy ad d z7_ z11_ 1 Mz hIz) kS_X7_cellFrom (by decide +kernel) (Nat.le_of_ble_eq_true rfl) m_1037 rfl rfl (by decide) (Nat.le_of_ble_eq_true rfl) dX7_letThingGo_22 (fun r15_ M16_ q17_ => ?_)
    obtain ⟨rfl, h18_, hs19_⟩ := q17_
    refine w_istore_n (ls' := [(2, vI r15_), (0, vR (7, b, 0)), (1, vI v)]) dX7_letThingGo_25 rfl (by decide) rfl ?_
    refine w_aload_n dX7_letThingGo_26 rfl 1 rfl ?_
    refine w_iload_n dX7_letThingGo_27 rfl 0 rfl ?_
    refine w_callV (as := [vI r15_]) (rest := []) (c_X7_isFree l G cy ad d b r15_ Mz hIz hb) kV_X7_isFree (by decide +kernel) (Nat.le_of_ble_eq_true rfl) m_1038 rfl rfl rfl (ic_7 hb) rfl rfl (by decide) (Nat.le_of_ble_eq_true rfl) dX7_letThingGo_28 (fun r20_ M21_ q22_ => ?_)
    obtain ⟨rfl, h23_, hs24_⟩ := q22_
    rcases h23_ with ⟨rfl, h23_⟩ | rfl
    · refine w_if_eq (tgt := 61) dX7_letThingGo_31 (by decide) li_1 (fun h9 => (absurd h9 (by decide))) (fun h25_ => ?_)
      refine w_aload_n dX7_letThingGo_34 rfl 1 rfl ?_
      refine w_aload_n dX7_letThingGo_35 rfl 1 rfl ?_
      refine w_getR (c' := (37, b, 0)) fl_RX7_16 rfl rfl (ic_7 hb) dX7_letThingGo_36 rfl ?_
      refine w_iload_n dX7_letThingGo_39 rfl 2 rfl ?_
      refine w_iald rfl rfl (ic_37 hb) (rfl : v.toInt = v.toInt) (lf_c_X7_letThingGo_2 Mz b v j9_ z7_ j13_ z11_ hb h4_ h10_ e8_ h14_ e12_) dX7_letThingGo_40 (fun j28_ h29_ z26_ e27_ => ?_)
      refine w_iconst (v := (-1)) dX7_letThingGo_41 (by decide) ?_
      refine w_callVv (as := [vI z26_, vI (-1)]) (rest := []) (c_X7_settle l G cy ad d b z26_ (-1) Mz hIz hb) kV_X7_settle (by decide +kernel) (Nat.le_of_ble_eq_true rfl) m_518 rfl rfl rfl (ic_7 hb) rfl rfl (by decide) (Nat.le_of_ble_eq_true rfl) dX7_letThingGo_42 (fun M30_ q31_ => ?_)
      obtain ⟨hI33_, hF34_, h32_, hs36_⟩ := q31_
      have hF35_ := hFz.tr hF34_ (fun c k => (fun h => h.elim (fun h => (Or.inl ⟨h.1, h.2⟩)) (fun h => h.elim)))
      refine w_aload_n dX7_letThingGo_45 rfl 1 rfl ?_
      refine w_iload_n dX7_letThingGo_46 rfl 0 rfl ?_
      refine w_iload_n dX7_letThingGo_47 rfl 2 rfl ?_
      refine w_callVv (as := [vI r15_, vI v]) (rest := []) (c_X7_settle l G cy ad d b r15_ v M30_ hI33_ hb) kV_X7_settle (by decide +kernel) (Nat.le_of_ble_eq_true rfl) m_518 rfl rfl rfl (ic_7 hb) rfl rfl (by decide) (Nat.le_of_ble_eq_true rfl) dX7_letThingGo_48 (fun M37_ q38_ => ?_)
      obtain ⟨hI40_, hF41_, h39_, hs43_⟩ := q38_
      have hF42_ := hF35_.tr hF41_ (fun c k => (fun h => h.elim (fun h => (Or.inl ⟨h.1, h.2⟩)) (fun h => h.elim)))
      refine w_aload_n dX7_letThingGo_51 rfl 1 rfl ?_
      refine w_getR (c' := (37, b, 0)) fl_RX7_16 rfl rfl (ic_7 hb) dX7_letThingGo_52 rfl ?_
      refine w_iload_n dX7_letThingGo_55 rfl 2 rfl ?_
      refine w_iload_n dX7_letThingGo_56 rfl 0 rfl ?_
      refine w_iast CC_nd rfl rfl (ic_37 hb) (rfl : v.toInt = v.toInt) (lf_c_X7_letThingGo_3 Mz b v j9_ z7_ j13_ z11_ j28_ z26_ hb h4_ h10_ e8_ h14_ e12_ h29_ e27_) dX7_letThingGo_57 (fun j46_ h47_ M44_ hM45_ => ?_)
      have hI48_ := hI40_.put hM45_ trivial
      have hF49_ := hF42_.put hM45_ (Or.inr (Or.inl ⟨rfl, rfl⟩))
      refine w_goto (tgt := 78) dX7_letThingGo_58 (by decide) ?_
      exact w_vret rfl dX7_letThingGo_78 ⟨hI48_, hF49_, trivial, (Or.inl ⟨hs5_, h4_, j9_, h10_, z7_, e8_, j13_, h14_, z11_, e12_, r15_, hs19_, h18_, (Or.inl ⟨hs24_, h23_, j28_, h29_, z26_, e27_, M30_, hI33_, hF34_, hs36_, M37_, hI40_, hF41_, hs43_, j46_, h47_, M44_, hM45_, rfl⟩)⟩)⟩
    · refine w_if_eq (tgt := 61) dX7_letThingGo_31 (by decide) li_0 (fun h50_ => ?_) (fun h9 => (absurd h9 (by decide)))
      refine w_aload_n dX7_letThingGo_61 rfl 1 rfl ?_
      refine w_getR (c' := (38, b, 0)) fl_RX7_19 rfl rfl (ic_7 hb) dX7_letThingGo_62 rfl ?_
      refine w_iload_n dX7_letThingGo_65 rfl 2 rfl ?_
      refine w_aload_n dX7_letThingGo_66 rfl 1 rfl ?_
      refine w_getR (c' := (38, b, 0)) fl_RX7_19 rfl rfl (ic_7 hb) dX7_letThingGo_67 rfl ?_
      refine w_iload_n dX7_letThingGo_70 rfl 2 rfl ?_
      refine w_iald rfl rfl (ic_38 hb) (rfl : v.toInt = v.toInt) (lf_c_X7_letThingGo_4 Mz b v j9_ z7_ j13_ z11_ hb h4_ h10_ e8_ h14_ e12_) dX7_letThingGo_71 (fun j53_ h54_ z51_ e52_ => ?_)
      refine w_iconst (v := 4) dX7_letThingGo_72 (by decide) ?_
      refine w_iadd dX7_letThingGo_73 (fun z55_ h56_ => ?_)
      refine w_bipush (v := 7) dX7_letThingGo_74 (by decide) ?_
      refine w_iand dX7_letThingGo_76 (fun z57_ h59_ => ?_)
      have h58_ : 0 ≤ z57_.toInt ∧ z57_.toInt < ((2 ^ 3 : Nat) : Int) := by rw [h59_]; exact andI _ 3 (by decide) (by decide)
      refine w_iast CC_nd rfl rfl (ic_38 hb) (rfl : v.toInt = v.toInt) (lf_c_X7_letThingGo_5 Mz b v j9_ z7_ j13_ z11_ j53_ z51_ hb h4_ h10_ e8_ h14_ e12_ h54_ e52_) dX7_letThingGo_77 (fun j62_ h63_ M60_ hM61_ => ?_)
      have hI64_ := hIz.put hM61_ trivial
      have hF65_ := hFz.put hM61_ (Or.inr (Or.inr (Or.inl ⟨rfl, rfl⟩)))
      exact w_vret rfl dX7_letThingGo_78 ⟨hI64_, hF65_, trivial, (Or.inl ⟨hs5_, h4_, j9_, h10_, z7_, e8_, j13_, h14_, z11_, e12_, r15_, hs19_, h18_, (Or.inr ⟨hs24_, j53_, h54_, z51_, e52_, z55_, h56_, z57_, h59_, h58_, j62_, h63_, M60_, hM61_, rfl⟩)⟩)⟩
  · refine w_if_ne (tgt := 9) dX7_letThingGo_5 (by decide) li_0 (fun h9 => (absurd h9 (by decide))) (fun h66_ => ?_)
    exact w_vret rfl dX7_letThingGo_8 ⟨hIz, hFz, trivial, (Or.inr ⟨hs5_, rfl⟩)⟩
def S_c_X7_letThingsGo (b : Nat) : rf → Nat → Prop := fun c k => (c.1 = 35 ∧ c.2.1 = b) ∨ (c.1 = 37 ∧ c.2.1 = b) ∨ (c.1 = 38 ∧ c.2.1 = b) ∨ False
def ST_X7_letThingsGo_2 (b : Nat) (v : Int32) (Mz : mM) (v2_2 : Int32) (M_2 : mM) (v2_2y : Int32) (M_2y : mM) : Prop := (0 ≤ v2_2.toInt) ∧ (Inv M_2) ∧ (FR (S_c_X7_letThingsGo b) Mz M_2) ∧ ∃ z2_ : Int32, (z2_ = M_2.1 (7, b, 0) 5) ∧ (v2_2.toInt < z2_.toInt) ∧ (v2_2.toInt < 40) ∧ ∃ j8_ : Nat, ((j8_ : Int) = v2_2.toInt) ∧ ∃ z6_ : Int32, (z6_ = M_2.1 (39, b, 0) j8_) ∧ ∃ j12_ : Nat, ((j12_ : Int) = v2_2.toInt) ∧ ∃ z10_ : Int32, (z10_ = M_2.1 (37, b, 0) j12_) ∧ (((z10_.toInt < 0) ∧ ∃ z15_ : Int32, (z15_.toInt = v2_2.toInt + 1) ∧ v2_2y = z15_ ∧ M_2y = M_2) ∨ ((0 ≤ z10_.toInt) ∧ (((z6_.toInt ≤ 0) ∧ ∃ z18_ : Int32, (z18_.toInt = v2_2.toInt + 1) ∧ v2_2y = z18_ ∧ M_2y = M_2) ∨ ((0 < z6_.toInt) ∧ ∃ z20_ : Int32, (z20_ = v - v / z6_ * z6_) ∧ (((¬ z20_.toInt = 0) ∧ ∃ z23_ : Int32, (z23_.toInt = v2_2.toInt + 1) ∧ v2_2y = z23_ ∧ M_2y = M_2) ∨ ((z20_.toInt = 0) ∧ ∃ M25_ : mM, (Inv M25_) ∧ (FR (S_c_X7_letThingGo b) M_2 M25_) ∧ (SP_X7_letThingGo b v2_2 M_2 M25_) ∧ ∃ z32_ : Int32, (z32_.toInt = v2_2.toInt + 1) ∧ v2_2y = z32_ ∧ M_2y = M25_))))))
def SP_X7_letThingsGo (b : Nat) (v : Int32) (Mz : mM) (M_ : mM) : Prop := ∃ v2_2 : Int32, (0 ≤ v2_2.toInt) ∧ ∃ M_2 : mM, (RCH (fun x_ y_ => ST_X7_letThingsGo_2 b v Mz x_.1 x_.2 y_.1 y_.2) ((0 : Int32), Mz) (v2_2, M_2)) ∧ (Inv M_2) ∧ (FR (S_c_X7_letThingsGo b) Mz M_2) ∧ ∃ z2_ : Int32, (z2_ = M_2.1 (7, b, 0) 5) ∧ (((z2_.toInt ≤ v2_2.toInt) ∧ M_ = M_2) ∨ ((v2_2.toInt < z2_.toInt) ∧ (40 ≤ v2_2.toInt) ∧ M_ = M_2))
theorem lf_c_X7_letThingsGo_0 (M_2 : mM) (b : Nat) (v2_2 : Int32) (z2_ : Int32) (hb : b < 3) (hv0_2 : 0 ≤ v2_2.toInt) (e3_ : z2_ = M_2.1 (7, b, 0) 5) (h4_ : v2_2.toInt < z2_.toInt) (h5_ : v2_2.toInt < 40) : 0 ≤ v2_2.toInt ∧ v2_2.toInt < ((40 : Nat) : Int) := by have r_v2_2 := rngI v2_2; have r_z2_ := rngI z2_; subst e3_; omega
theorem lf_c_X7_letThingsGo_1 (M_2 : mM) (b : Nat) (v2_2 : Int32) (z2_ : Int32) (j8_ : Nat) (z6_ : Int32) (hb : b < 3) (hv0_2 : 0 ≤ v2_2.toInt) (e3_ : z2_ = M_2.1 (7, b, 0) 5) (h4_ : v2_2.toInt < z2_.toInt) (h5_ : v2_2.toInt < 40) (h9_ : (j8_ : Int) = v2_2.toInt) (e7_ : z6_ = M_2.1 (39, b, 0) j8_) : 0 ≤ v2_2.toInt ∧ v2_2.toInt < ((40 : Nat) : Int) := by have r_v2_2 := rngI v2_2; have r_z2_ := rngI z2_; have r_z6_ := rngI z6_; subst e3_; subst e7_; omega
theorem lf_c_X7_letThingsGo_2 (M_2 : mM) (b : Nat) (v2_2 : Int32) (z2_ : Int32) (j8_ : Nat) (z6_ : Int32) (j12_ : Nat) (z10_ : Int32) (hb : b < 3) (hv0_2 : 0 ≤ v2_2.toInt) (e3_ : z2_ = M_2.1 (7, b, 0) 5) (h4_ : v2_2.toInt < z2_.toInt) (h5_ : v2_2.toInt < 40) (h9_ : (j8_ : Int) = v2_2.toInt) (e7_ : z6_ = M_2.1 (39, b, 0) j8_) (h13_ : (j12_ : Int) = v2_2.toInt) (e11_ : z10_ = M_2.1 (37, b, 0) j12_) (h14_ : z10_.toInt < 0) : -2147483648 ≤ v2_2.toInt + 1 ∧ v2_2.toInt + 1 < 2147483648 := by have r_v2_2 := rngI v2_2; have r_z2_ := rngI z2_; have r_z6_ := rngI z6_; have r_z10_ := rngI z10_; subst e3_; subst e7_; subst e11_; omega
theorem lf_c_X7_letThingsGo_3 (M_2 : mM) (b : Nat) (v2_2 : Int32) (z2_ : Int32) (j8_ : Nat) (z6_ : Int32) (j12_ : Nat) (z10_ : Int32) (z15_ : Int32) (hb : b < 3) (hv0_2 : 0 ≤ v2_2.toInt) (e3_ : z2_ = M_2.1 (7, b, 0) 5) (h4_ : v2_2.toInt < z2_.toInt) (h5_ : v2_2.toInt < 40) (h9_ : (j8_ : Int) = v2_2.toInt) (e7_ : z6_ = M_2.1 (39, b, 0) j8_) (h13_ : (j12_ : Int) = v2_2.toInt) (e11_ : z10_ = M_2.1 (37, b, 0) j12_) (h14_ : z10_.toInt < 0) (h16_ : z15_.toInt = v2_2.toInt + 1) : 0 ≤ z15_.toInt := by have r_v2_2 := rngI v2_2; have r_z2_ := rngI z2_; have r_z6_ := rngI z6_; have r_z10_ := rngI z10_; have r_z15_ := rngI z15_; omega
theorem lf_c_X7_letThingsGo_4 (M_2 : mM) (b : Nat) (v2_2 : Int32) (z2_ : Int32) (j8_ : Nat) (z6_ : Int32) (j12_ : Nat) (z10_ : Int32) (z15_ : Int32) (hb : b < 3) (hv0_2 : 0 ≤ v2_2.toInt) (e3_ : z2_ = M_2.1 (7, b, 0) 5) (h4_ : v2_2.toInt < z2_.toInt) (h5_ : v2_2.toInt < 40) (h9_ : (j8_ : Int) = v2_2.toInt) (e7_ : z6_ = M_2.1 (39, b, 0) j8_) (h13_ : (j12_ : Int) = v2_2.toInt) (e11_ : z10_ = M_2.1 (37, b, 0) j12_) (h14_ : z10_.toInt < 0) (h16_ : z15_.toInt = v2_2.toInt + 1) : (2147483648 - z15_.toInt).toNat < (2147483648 - v2_2.toInt).toNat := by have r_v2_2 := rngI v2_2; have r_z2_ := rngI z2_; have r_z6_ := rngI z6_; have r_z10_ := rngI z10_; have r_z15_ := rngI z15_; omega
theorem lf_c_X7_letThingsGo_5 (M_2 : mM) (b : Nat) (v2_2 : Int32) (z2_ : Int32) (j8_ : Nat) (z6_ : Int32) (j12_ : Nat) (z10_ : Int32) (hb : b < 3) (hv0_2 : 0 ≤ v2_2.toInt) (e3_ : z2_ = M_2.1 (7, b, 0) 5) (h4_ : v2_2.toInt < z2_.toInt) (h5_ : v2_2.toInt < 40) (h9_ : (j8_ : Int) = v2_2.toInt) (e7_ : z6_ = M_2.1 (39, b, 0) j8_) (h13_ : (j12_ : Int) = v2_2.toInt) (e11_ : z10_ = M_2.1 (37, b, 0) j12_) (h14_ : 0 ≤ z10_.toInt) (h17_ : z6_.toInt ≤ 0) : -2147483648 ≤ v2_2.toInt + 1 ∧ v2_2.toInt + 1 < 2147483648 := by have r_v2_2 := rngI v2_2; have r_z2_ := rngI z2_; have r_z6_ := rngI z6_; have r_z10_ := rngI z10_; subst e3_; subst e7_; subst e11_; omega
theorem lf_c_X7_letThingsGo_6 (M_2 : mM) (b : Nat) (v2_2 : Int32) (z2_ : Int32) (j8_ : Nat) (z6_ : Int32) (j12_ : Nat) (z10_ : Int32) (z18_ : Int32) (hb : b < 3) (hv0_2 : 0 ≤ v2_2.toInt) (e3_ : z2_ = M_2.1 (7, b, 0) 5) (h4_ : v2_2.toInt < z2_.toInt) (h5_ : v2_2.toInt < 40) (h9_ : (j8_ : Int) = v2_2.toInt) (e7_ : z6_ = M_2.1 (39, b, 0) j8_) (h13_ : (j12_ : Int) = v2_2.toInt) (e11_ : z10_ = M_2.1 (37, b, 0) j12_) (h14_ : 0 ≤ z10_.toInt) (h17_ : z6_.toInt ≤ 0) (h19_ : z18_.toInt = v2_2.toInt + 1) : 0 ≤ z18_.toInt := by have r_v2_2 := rngI v2_2; have r_z2_ := rngI z2_; have r_z6_ := rngI z6_; have r_z10_ := rngI z10_; have r_z18_ := rngI z18_; omega
theorem lf_c_X7_letThingsGo_7 (M_2 : mM) (b : Nat) (v2_2 : Int32) (z2_ : Int32) (j8_ : Nat) (z6_ : Int32) (j12_ : Nat) (z10_ : Int32) (z18_ : Int32) (hb : b < 3) (hv0_2 : 0 ≤ v2_2.toInt) (e3_ : z2_ = M_2.1 (7, b, 0) 5) (h4_ : v2_2.toInt < z2_.toInt) (h5_ : v2_2.toInt < 40) (h9_ : (j8_ : Int) = v2_2.toInt) (e7_ : z6_ = M_2.1 (39, b, 0) j8_) (h13_ : (j12_ : Int) = v2_2.toInt) (e11_ : z10_ = M_2.1 (37, b, 0) j12_) (h14_ : 0 ≤ z10_.toInt) (h17_ : z6_.toInt ≤ 0) (h19_ : z18_.toInt = v2_2.toInt + 1) : (2147483648 - z18_.toInt).toNat < (2147483648 - v2_2.toInt).toNat := by have r_v2_2 := rngI v2_2; have r_z2_ := rngI z2_; have r_z6_ := rngI z6_; have r_z10_ := rngI z10_; have r_z18_ := rngI z18_; omega
theorem lf_c_X7_letThingsGo_8 (M_2 : mM) (b : Nat) (v2_2 : Int32) (z2_ : Int32) (j8_ : Nat) (z6_ : Int32) (j12_ : Nat) (z10_ : Int32) (hb : b < 3) (hv0_2 : 0 ≤ v2_2.toInt) (e3_ : z2_ = M_2.1 (7, b, 0) 5) (h4_ : v2_2.toInt < z2_.toInt) (h5_ : v2_2.toInt < 40) (h9_ : (j8_ : Int) = v2_2.toInt) (e7_ : z6_ = M_2.1 (39, b, 0) j8_) (h13_ : (j12_ : Int) = v2_2.toInt) (e11_ : z10_ = M_2.1 (37, b, 0) j12_) (h14_ : 0 ≤ z10_.toInt) (h17_ : 0 < z6_.toInt) : ¬ z6_ = 0 := by have r_v2_2 := rngI v2_2; have r_z2_ := rngI z2_; have r_z6_ := rngI z6_; have r_z10_ := rngI z10_; intro h9; subst h9; simp at *; try omega
theorem lf_c_X7_letThingsGo_9 (M_2 : mM) (b : Nat) (v2_2 : Int32) (z2_ : Int32) (j8_ : Nat) (z6_ : Int32) (j12_ : Nat) (z10_ : Int32) (hb : b < 3) (hv0_2 : 0 ≤ v2_2.toInt) (e3_ : z2_ = M_2.1 (7, b, 0) 5) (h4_ : v2_2.toInt < z2_.toInt) (h5_ : v2_2.toInt < 40) (h9_ : (j8_ : Int) = v2_2.toInt) (e7_ : z6_ = M_2.1 (39, b, 0) j8_) (h13_ : (j12_ : Int) = v2_2.toInt) (e11_ : z10_ = M_2.1 (37, b, 0) j12_) (h14_ : 0 ≤ z10_.toInt) (h17_ : 0 < z6_.toInt) : -2147483648 ≤ v2_2.toInt + 1 ∧ v2_2.toInt + 1 < 2147483648 := by have r_v2_2 := rngI v2_2; have r_z2_ := rngI z2_; have r_z6_ := rngI z6_; have r_z10_ := rngI z10_; subst e3_; subst e7_; subst e11_; omega
theorem lf_c_X7_letThingsGo_10 (M_2 : mM) (b : Nat) (v2_2 : Int32) (z2_ : Int32) (j8_ : Nat) (z6_ : Int32) (j12_ : Nat) (z10_ : Int32) (z23_ : Int32) (hb : b < 3) (hv0_2 : 0 ≤ v2_2.toInt) (e3_ : z2_ = M_2.1 (7, b, 0) 5) (h4_ : v2_2.toInt < z2_.toInt) (h5_ : v2_2.toInt < 40) (h9_ : (j8_ : Int) = v2_2.toInt) (e7_ : z6_ = M_2.1 (39, b, 0) j8_) (h13_ : (j12_ : Int) = v2_2.toInt) (e11_ : z10_ = M_2.1 (37, b, 0) j12_) (h14_ : 0 ≤ z10_.toInt) (h17_ : 0 < z6_.toInt) (h24_ : z23_.toInt = v2_2.toInt + 1) : 0 ≤ z23_.toInt := by have r_v2_2 := rngI v2_2; have r_z2_ := rngI z2_; have r_z6_ := rngI z6_; have r_z10_ := rngI z10_; have r_z23_ := rngI z23_; omega
theorem lf_c_X7_letThingsGo_11 (M_2 : mM) (b : Nat) (v2_2 : Int32) (z2_ : Int32) (j8_ : Nat) (z6_ : Int32) (j12_ : Nat) (z10_ : Int32) (z23_ : Int32) (hb : b < 3) (hv0_2 : 0 ≤ v2_2.toInt) (e3_ : z2_ = M_2.1 (7, b, 0) 5) (h4_ : v2_2.toInt < z2_.toInt) (h5_ : v2_2.toInt < 40) (h9_ : (j8_ : Int) = v2_2.toInt) (e7_ : z6_ = M_2.1 (39, b, 0) j8_) (h13_ : (j12_ : Int) = v2_2.toInt) (e11_ : z10_ = M_2.1 (37, b, 0) j12_) (h14_ : 0 ≤ z10_.toInt) (h17_ : 0 < z6_.toInt) (h24_ : z23_.toInt = v2_2.toInt + 1) : (2147483648 - z23_.toInt).toNat < (2147483648 - v2_2.toInt).toNat := by have r_v2_2 := rngI v2_2; have r_z2_ := rngI z2_; have r_z6_ := rngI z6_; have r_z10_ := rngI z10_; have r_z23_ := rngI z23_; omega
theorem lf_c_X7_letThingsGo_12 (M_2 : mM) (b : Nat) (v2_2 : Int32) (z2_ : Int32) (j8_ : Nat) (z6_ : Int32) (j12_ : Nat) (z10_ : Int32) (hb : b < 3) (hv0_2 : 0 ≤ v2_2.toInt) (e3_ : z2_ = M_2.1 (7, b, 0) 5) (h4_ : v2_2.toInt < z2_.toInt) (h5_ : v2_2.toInt < 40) (h9_ : (j8_ : Int) = v2_2.toInt) (e7_ : z6_ = M_2.1 (39, b, 0) j8_) (h13_ : (j12_ : Int) = v2_2.toInt) (e11_ : z10_ = M_2.1 (37, b, 0) j12_) (h14_ : 0 ≤ z10_.toInt) (h17_ : 0 < z6_.toInt) : -2147483648 ≤ v2_2.toInt + 1 ∧ v2_2.toInt + 1 < 2147483648 := by have r_v2_2 := rngI v2_2; have r_z2_ := rngI z2_; have r_z6_ := rngI z6_; have r_z10_ := rngI z10_; subst e3_; subst e7_; subst e11_; omega
theorem lf_c_X7_letThingsGo_13 (M_2 : mM) (b : Nat) (v2_2 : Int32) (z2_ : Int32) (j8_ : Nat) (z6_ : Int32) (j12_ : Nat) (z10_ : Int32) (z32_ : Int32) (hb : b < 3) (hv0_2 : 0 ≤ v2_2.toInt) (e3_ : z2_ = M_2.1 (7, b, 0) 5) (h4_ : v2_2.toInt < z2_.toInt) (h5_ : v2_2.toInt < 40) (h9_ : (j8_ : Int) = v2_2.toInt) (e7_ : z6_ = M_2.1 (39, b, 0) j8_) (h13_ : (j12_ : Int) = v2_2.toInt) (e11_ : z10_ = M_2.1 (37, b, 0) j12_) (h14_ : 0 ≤ z10_.toInt) (h17_ : 0 < z6_.toInt) (h33_ : z32_.toInt = v2_2.toInt + 1) : 0 ≤ z32_.toInt := by have r_v2_2 := rngI v2_2; have r_z2_ := rngI z2_; have r_z6_ := rngI z6_; have r_z10_ := rngI z10_; have r_z32_ := rngI z32_; omega
theorem lf_c_X7_letThingsGo_14 (M_2 : mM) (b : Nat) (v2_2 : Int32) (z2_ : Int32) (j8_ : Nat) (z6_ : Int32) (j12_ : Nat) (z10_ : Int32) (z32_ : Int32) (hb : b < 3) (hv0_2 : 0 ≤ v2_2.toInt) (e3_ : z2_ = M_2.1 (7, b, 0) 5) (h4_ : v2_2.toInt < z2_.toInt) (h5_ : v2_2.toInt < 40) (h9_ : (j8_ : Int) = v2_2.toInt) (e7_ : z6_ = M_2.1 (39, b, 0) j8_) (h13_ : (j12_ : Int) = v2_2.toInt) (e11_ : z10_ = M_2.1 (37, b, 0) j12_) (h14_ : 0 ≤ z10_.toInt) (h17_ : 0 < z6_.toInt) (h33_ : z32_.toInt = v2_2.toInt + 1) : (2147483648 - z32_.toInt).toNat < (2147483648 - v2_2.toInt).toNat := by have r_v2_2 := rngI v2_2; have r_z2_ := rngI z2_; have r_z6_ := rngI z6_; have r_z10_ := rngI z10_; have r_z32_ := rngI z32_; omega
theorem lf_c_X7_letThingsGo_15    : 0 ≤ (0 : Int32).toInt := by have q0 := li_0; omega
set_option maxHeartbeats 4000000 in
set_option maxRecDepth 100000 in
theorem c_X7_letThingsGo (l : Launch) (G : va_G) (cy : Nat → ClassId) (ad : rf → Nat) (d : Nat) (b : Nat) (v : Int32) (Mz : mM) (hIz : Inv Mz) (hb : b < 3) : WP CC l G cy ad yX7_letThingsGo cX7_letThingsGo 4 none (d + 3) 0 [(0, vR (7, b, 0)), (1, vI v)] [] Mz (fun r M' => Inv M' ∧ FR (S_c_X7_letThingsGo b) Mz M' ∧ (True) ∧ SP_X7_letThingsGo b v Mz M') := by
  have hFz : FR (S_c_X7_letThingsGo b) Mz Mz := FR.self
  refine w_iconst (v := 0) dX7_letThingsGo_0 (by decide) ?_
  refine w_istore_n (ls' := [(2, vI 0), (0, vR (7, b, 0)), (1, vI v)]) dX7_letThingsGo_1 rfl (by decide) rfl ?_
  have lp1_ : ∀ (nn_2 : Nat) (M_2 : mM) (hI_2 : Inv M_2) (hF_2 : FR (S_c_X7_letThingsGo b) Mz M_2) (v2_2 : Int32) (hv0_2 : 0 ≤ v2_2.toInt) (hL_2 : RCH (fun x_ y_ => ST_X7_letThingsGo_2 b v Mz x_.1 x_.2 y_.1 y_.2) ((0 : Int32), Mz) (v2_2, M_2)), (2147483648 - v2_2.toInt).toNat < nn_2 → WP CC l G cy ad yX7_letThingsGo cX7_letThingsGo 4 none (d + 3) 2 [(2, vI v2_2), (0, vR (7, b, 0)), (1, vI v)] [] M_2 (fun r M' => Inv M' ∧ FR (S_c_X7_letThingsGo b) Mz M' ∧ (True) ∧ SP_X7_letThingsGo b v Mz M') := by
    intro nn_2
    induction nn_2 with
    | zero => intro M_2 hI_2 hF_2 v2_2 hv0_2 hL_2 hm_2; exact absurd hm_2 (Nat.not_lt_zero _)
    | succ nn_2 ih_2 =>
      intro M_2 hI_2 hF_2 v2_2 hv0_2 hL_2 hm_2
      refine w_iload_n dX7_letThingsGo_2 rfl 0 rfl ?_
      refine w_aload_n dX7_letThingsGo_3 rfl 1 rfl ?_
      refine w_getI fl_RX7_25 rfl rfl (ic_7 hb) dX7_letThingsGo_4 (fun z2_ e3_ => ?_)
      refine w_icmp_ge (tgt := 53) dX7_letThingsGo_7 (by decide) (rfl : v2_2.toInt = v2_2.toInt) (rfl : z2_.toInt = z2_.toInt) (fun h4_ => ?_) (fun h4_ => ?_)
      · exact w_vret rfl dX7_letThingsGo_53 ⟨hI_2, hF_2, trivial, ⟨v2_2, hv0_2, M_2, hL_2, hI_2, hF_2, z2_, e3_, (Or.inl ⟨h4_, rfl⟩)⟩⟩
      · refine w_iload_n dX7_letThingsGo_10 rfl 0 rfl ?_
        refine w_bipush (v := 40) dX7_letThingsGo_11 (by decide) ?_
        refine w_icmp_ge (tgt := 53) dX7_letThingsGo_13 (by decide) (rfl : v2_2.toInt = v2_2.toInt) li_40 (fun h5_ => ?_) (fun h5_ => ?_)
        · exact w_vret rfl dX7_letThingsGo_53 ⟨hI_2, hF_2, trivial, ⟨v2_2, hv0_2, M_2, hL_2, hI_2, hF_2, z2_, e3_, (Or.inr ⟨h4_, h5_, rfl⟩)⟩⟩
        · refine w_aload_n dX7_letThingsGo_16 rfl 1 rfl ?_
          refine w_getR (c' := (39, b, 0)) fl_RX7_22 rfl rfl (ic_7 hb) dX7_letThingsGo_17 rfl ?_
          refine w_iload_n dX7_letThingsGo_20 rfl 0 rfl ?_
          refine w_iald rfl rfl (ic_39 hb) (rfl : v2_2.toInt = v2_2.toInt) (lf_c_X7_letThingsGo_0 M_2 b v2_2 z2_ hb hv0_2 e3_ h4_ h5_) dX7_letThingsGo_21 (fun j8_ h9_ z6_ e7_ => ?_)
          refine w_istore_n (ls' := [(3, vI z6_), (2, vI v2_2), (0, vR (7, b, 0)), (1, vI v)]) dX7_letThingsGo_22 rfl (by decide) rfl ?_
          refine w_aload_n dX7_letThingsGo_23 rfl 2 rfl ?_
          refine w_getR (c' := (37, b, 0)) fl_RX7_16 rfl rfl (ic_7 hb) dX7_letThingsGo_24 rfl ?_
          refine w_iload_n dX7_letThingsGo_27 rfl 1 rfl ?_
          refine w_iald rfl rfl (ic_37 hb) (rfl : v2_2.toInt = v2_2.toInt) (lf_c_X7_letThingsGo_1 M_2 b v2_2 z2_ j8_ z6_ hb hv0_2 e3_ h4_ h5_ h9_ e7_) dX7_letThingsGo_28 (fun j12_ h13_ z10_ e11_ => ?_)
          refine w_if_lt (tgt := 47) dX7_letThingsGo_29 (by decide) (rfl : z10_.toInt = z10_.toInt) (fun h14_ => ?_) (fun h14_ => ?_)
          · refine w_iincB (j := 1) (f := fun z15_ => [(2, vI z15_), (3, vI z6_), (0, vR (7, b, 0)), (1, vI v)]) dX7_letThingsGo_47 rfl (by decide) (fun _ => rfl) (rfl : v2_2.toInt = v2_2.toInt) li_1 (lf_c_X7_letThingsGo_2 M_2 b v2_2 z2_ j8_ z6_ j12_ z10_ hb hv0_2 e3_ h4_ h5_ h9_ e7_ h13_ e11_ h14_) (fun z15_ h16_ => ?_)
            refine w_goto (tgt := 2) dX7_letThingsGo_50 (by decide) ?_
            refine w_loc (ls' := [(2, vI z15_), (0, vR (7, b, 0)), (1, vI v)]) [0, 2, 3] rfl ?_
            exact ih_2 M_2 hI_2 hF_2 z15_ (lf_c_X7_letThingsGo_3 M_2 b v2_2 z2_ j8_ z6_ j12_ z10_ z15_ hb hv0_2 e3_ h4_ h5_ h9_ e7_ h13_ e11_ h14_ h16_) (RCH.tail hL_2 ⟨hv0_2, hI_2, hF_2, z2_, e3_, h4_, h5_, j8_, h9_, z6_, e7_, j12_, h13_, z10_, e11_, (Or.inl ⟨h14_, z15_, h16_, rfl, rfl⟩)⟩) (Nat.lt_of_lt_of_le (lf_c_X7_letThingsGo_4 M_2 b v2_2 z2_ j8_ z6_ j12_ z10_ z15_ hb hv0_2 e3_ h4_ h5_ h9_ e7_ h13_ e11_ h14_ h16_) (Nat.le_of_lt_succ hm_2))
          · refine w_iload_n dX7_letThingsGo_32 rfl 0 rfl ?_
            refine w_if_le (tgt := 47) dX7_letThingsGo_33 (by decide) (rfl : z6_.toInt = z6_.toInt) (fun h17_ => ?_) (fun h17_ => ?_)
            · refine w_iincB (j := 1) (f := fun z18_ => [(2, vI z18_), (3, vI z6_), (0, vR (7, b, 0)), (1, vI v)]) dX7_letThingsGo_47 rfl (by decide) (fun _ => rfl) (rfl : v2_2.toInt = v2_2.toInt) li_1 (lf_c_X7_letThingsGo_5 M_2 b v2_2 z2_ j8_ z6_ j12_ z10_ hb hv0_2 e3_ h4_ h5_ h9_ e7_ h13_ e11_ h14_ h17_) (fun z18_ h19_ => ?_)
              refine w_goto (tgt := 2) dX7_letThingsGo_50 (by decide) ?_
              refine w_loc (ls' := [(2, vI z18_), (0, vR (7, b, 0)), (1, vI v)]) [0, 2, 3] rfl ?_
              exact ih_2 M_2 hI_2 hF_2 z18_ (lf_c_X7_letThingsGo_6 M_2 b v2_2 z2_ j8_ z6_ j12_ z10_ z18_ hb hv0_2 e3_ h4_ h5_ h9_ e7_ h13_ e11_ h14_ h17_ h19_) (RCH.tail hL_2 ⟨hv0_2, hI_2, hF_2, z2_, e3_, h4_, h5_, j8_, h9_, z6_, e7_, j12_, h13_, z10_, e11_, (Or.inr ⟨h14_, (Or.inl ⟨h17_, z18_, h19_, rfl, rfl⟩)⟩)⟩) (Nat.lt_of_lt_of_le (lf_c_X7_letThingsGo_7 M_2 b v2_2 z2_ j8_ z6_ j12_ z10_ z18_ hb hv0_2 e3_ h4_ h5_ h9_ e7_ h13_ e11_ h14_ h17_ h19_) (Nat.le_of_lt_succ hm_2))
            · refine w_iload_n dX7_letThingsGo_36 rfl 3 rfl ?_
              refine w_iload_n dX7_letThingsGo_37 rfl 0 rfl ?_
              refine w_irem dX7_letThingsGo_38 (lf_c_X7_letThingsGo_8 M_2 b v2_2 z2_ j8_ z6_ j12_ z10_ hb hv0_2 e3_ h4_ h5_ h9_ e7_ h13_ e11_ h14_ h17_) (fun z20_ h21_ => ?_)
              refine w_if_ne (tgt := 47) dX7_letThingsGo_39 (by decide) (rfl : z20_.toInt = z20_.toInt) (fun h22_ => ?_) (fun h22_ => ?_)
              · refine w_iincB (j := 1) (f := fun z23_ => [(2, vI z23_), (3, vI z6_), (0, vR (7, b, 0)), (1, vI v)]) dX7_letThingsGo_47 rfl (by decide) (fun _ => rfl) (rfl : v2_2.toInt = v2_2.toInt) li_1 (lf_c_X7_letThingsGo_9 M_2 b v2_2 z2_ j8_ z6_ j12_ z10_ hb hv0_2 e3_ h4_ h5_ h9_ e7_ h13_ e11_ h14_ h17_) (fun z23_ h24_ => ?_)
                refine w_goto (tgt := 2) dX7_letThingsGo_50 (by decide) ?_
                refine w_loc (ls' := [(2, vI z23_), (0, vR (7, b, 0)), (1, vI v)]) [0, 2, 3] rfl ?_
                exact ih_2 M_2 hI_2 hF_2 z23_ (lf_c_X7_letThingsGo_10 M_2 b v2_2 z2_ j8_ z6_ j12_ z10_ z23_ hb hv0_2 e3_ h4_ h5_ h9_ e7_ h13_ e11_ h14_ h17_ h24_) (RCH.tail hL_2 ⟨hv0_2, hI_2, hF_2, z2_, e3_, h4_, h5_, j8_, h9_, z6_, e7_, j12_, h13_, z10_, e11_, (Or.inr ⟨h14_, (Or.inr ⟨h17_, z20_, h21_, (Or.inl ⟨h22_, z23_, h24_, rfl, rfl⟩)⟩)⟩)⟩) (Nat.lt_of_lt_of_le (lf_c_X7_letThingsGo_11 M_2 b v2_2 z2_ j8_ z6_ j12_ z10_ z23_ hb hv0_2 e3_ h4_ h5_ h9_ e7_ h13_ e11_ h14_ h17_ h24_) (Nat.le_of_lt_succ hm_2))
              · refine w_aload_n dX7_letThingsGo_42 rfl 2 rfl ?_
                refine w_iload_n dX7_letThingsGo_43 rfl 1 rfl ?_
                refine w_callVv (as := [vI v2_2]) (rest := []) (c_X7_letThingGo l G cy ad d b v2_2 M_2 hI_2 hb) kV_X7_letThingGo (by decide +kernel) (Nat.le_of_ble_eq_true rfl) m_1033 rfl rfl rfl (ic_7 hb) rfl rfl (by decide) (Nat.le_of_ble_eq_true rfl) dX7_letThingsGo_44 (fun M25_ q26_ => ?_)
                obtain ⟨hI28_, hF29_, h27_, hs31_⟩ := q26_
                have hF30_ := hF_2.tr hF29_ (fun c k => (fun h => h.elim (fun h => (Or.inl ⟨h.1, h.2⟩)) (fun h => h.elim (fun h => (Or.inr (Or.inl ⟨h.1, h.2⟩))) (fun h => h.elim (fun h => (Or.inr (Or.inr (Or.inl ⟨h.1, h.2⟩)))) (fun h => h.elim)))))
                refine w_iincB (j := 1) (f := fun z32_ => [(2, vI z32_), (3, vI z6_), (0, vR (7, b, 0)), (1, vI v)]) dX7_letThingsGo_47 rfl (by decide) (fun _ => rfl) (rfl : v2_2.toInt = v2_2.toInt) li_1 (lf_c_X7_letThingsGo_12 M_2 b v2_2 z2_ j8_ z6_ j12_ z10_ hb hv0_2 e3_ h4_ h5_ h9_ e7_ h13_ e11_ h14_ h17_) (fun z32_ h33_ => ?_)
                refine w_goto (tgt := 2) dX7_letThingsGo_50 (by decide) ?_
                refine w_loc (ls' := [(2, vI z32_), (0, vR (7, b, 0)), (1, vI v)]) [0, 2, 3] rfl ?_
                exact ih_2 M25_ hI28_ hF30_ z32_ (lf_c_X7_letThingsGo_13 M_2 b v2_2 z2_ j8_ z6_ j12_ z10_ z32_ hb hv0_2 e3_ h4_ h5_ h9_ e7_ h13_ e11_ h14_ h17_ h33_) (RCH.tail hL_2 ⟨hv0_2, hI_2, hF_2, z2_, e3_, h4_, h5_, j8_, h9_, z6_, e7_, j12_, h13_, z10_, e11_, (Or.inr ⟨h14_, (Or.inr ⟨h17_, z20_, h21_, (Or.inr ⟨h22_, M25_, hI28_, hF29_, hs31_, z32_, h33_, rfl, rfl⟩)⟩)⟩)⟩) (Nat.lt_of_lt_of_le (lf_c_X7_letThingsGo_14 M_2 b v2_2 z2_ j8_ z6_ j12_ z10_ z32_ hb hv0_2 e3_ h4_ h5_ h9_ e7_ h13_ e11_ h14_ h17_ h33_) (Nat.le_of_lt_succ hm_2))
  exact lp1_ _ Mz hIz hFz 0 (lf_c_X7_letThingsGo_15 ) RCH.refl (Nat.lt_succ_self _)
def S_c_X7_takeFrom (b : Nat) (b2 : Nat) : rf → Nat → Prop := fun c k => (c.1 = 35 ∧ c.2.1 = b) ∨ (c.1 = 36 ∧ c.2.1 = b) ∨ (c.1 = 37 ∧ c.2.1 = b) ∨ (c.1 = 38 ∧ c.2.1 = b) ∨ (c.1 = 39 ∧ c.2.1 = b) ∨ (c.1 = 7 ∧ c.2.1 = b ∧ k = 5) ∨ False
def SP_X7_takeFrom (b : Nat) (b2 : Nat) (Mz : mM) (M_ : mM) : Prop := ∃ M1_ : mM, (M1_ = cp Mz (35, b2, 0) (35, b, 0) (0 : Int32).toNatClampNeg (0 : Int32).toNatClampNeg (192 : Int32).toNatClampNeg) ∧ ∃ M5_ : mM, (M5_ = cp M1_ (36, b2, 0) (36, b, 0) (0 : Int32).toNatClampNeg (0 : Int32).toNatClampNeg (40 : Int32).toNatClampNeg) ∧ ∃ M9_ : mM, (M9_ = cp M5_ (37, b2, 0) (37, b, 0) (0 : Int32).toNatClampNeg (0 : Int32).toNatClampNeg (40 : Int32).toNatClampNeg) ∧ ∃ M13_ : mM, (M13_ = cp M9_ (38, b2, 0) (38, b, 0) (0 : Int32).toNatClampNeg (0 : Int32).toNatClampNeg (40 : Int32).toNatClampNeg) ∧ ∃ M17_ : mM, (M17_ = cp M13_ (39, b2, 0) (39, b, 0) (0 : Int32).toNatClampNeg (0 : Int32).toNatClampNeg (40 : Int32).toNatClampNeg) ∧ ∃ z21_ : Int32, (z21_ = M17_.1 (7, b2, 0) 5) ∧ ∃ M23_ : mM, (M23_ = up M17_ (7, b, 0) 5 z21_) ∧ M_ = M23_
set_option maxHeartbeats 4000000 in
set_option maxRecDepth 100000 in
theorem c_X7_takeFrom (l : Launch) (G : va_G) (cy : Nat → ClassId) (ad : rf → Nat) (d : Nat) (b : Nat) (b2 : Nat) (Mz : mM) (hIz : Inv Mz) (hb : b < 3) (hb2 : b2 < 3) : WP CC l G cy ad yX7_takeFrom cX7_takeFrom 2 none (d + 1) 0 [(0, vR (7, b, 0)), (1, vR (7, b2, 0))] [] Mz (fun r M' => Inv M' ∧ FR (S_c_X7_takeFrom b b2) Mz M' ∧ (True) ∧ SP_X7_takeFrom b b2 Mz M') := by
  have hFz : FR (S_c_X7_takeFrom b b2) Mz Mz := FR.self
  refine w_aload_n dX7_takeFrom_0 rfl 1 rfl ?_
  refine w_getR (c' := (35, b2, 0)) fl_RX7_9 rfl rfl (ic_7 hb2) dX7_takeFrom_1 rfl ?_
  refine w_iconst (v := 0) dX7_takeFrom_4 (by decide) ?_
  refine w_aload_n dX7_takeFrom_5 rfl 0 rfl ?_
  refine w_getR (c' := (35, b, 0)) fl_RX7_9 rfl rfl (ic_7 hb) dX7_takeFrom_6 rfl ?_
  refine w_iconst (v := 0) dX7_takeFrom_9 (by decide) ?_
  refine w_sipush (v := 192) dX7_takeFrom_10 (by decide) ?_
  refine w_copy CC_nd rfl rfl (ic_35 hb2) rfl rfl (ic_35 hb) m_1262 m_830 m_829 m_98 li_0 li_0 li_192 (by decide) rfl (by omega) dX7_takeFrom_13 (fun M1_ hM2_ => ?_)
  have hI3_ := hIz.cpy hM2_ (fun _ _ => trivial)
  have hF4_ := hFz.cpy hM2_ (fun _ => (Or.inl ⟨rfl, rfl⟩))
  refine w_aload_n dX7_takeFrom_16 rfl 1 rfl ?_
  refine w_getR (c' := (36, b2, 0)) fl_RX7_13 rfl rfl (ic_7 hb2) dX7_takeFrom_17 rfl ?_
  refine w_iconst (v := 0) dX7_takeFrom_20 (by decide) ?_
  refine w_aload_n dX7_takeFrom_21 rfl 0 rfl ?_
  refine w_getR (c' := (36, b, 0)) fl_RX7_13 rfl rfl (ic_7 hb) dX7_takeFrom_22 rfl ?_
  refine w_iconst (v := 0) dX7_takeFrom_25 (by decide) ?_
  refine w_bipush (v := 40) dX7_takeFrom_26 (by decide) ?_
  refine w_copy CC_nd rfl rfl (ic_36 hb2) rfl rfl (ic_36 hb) m_1262 m_830 m_829 m_98 li_0 li_0 li_40 (by decide) rfl (by omega) dX7_takeFrom_28 (fun M5_ hM6_ => ?_)
  have hI7_ := hI3_.cpy hM6_ (fun _ _ => trivial)
  have hF8_ := hF4_.cpy hM6_ (fun _ => (Or.inr (Or.inl ⟨rfl, rfl⟩)))
  refine w_aload_n dX7_takeFrom_31 rfl 1 rfl ?_
  refine w_getR (c' := (37, b2, 0)) fl_RX7_16 rfl rfl (ic_7 hb2) dX7_takeFrom_32 rfl ?_
  refine w_iconst (v := 0) dX7_takeFrom_35 (by decide) ?_
  refine w_aload_n dX7_takeFrom_36 rfl 0 rfl ?_
  refine w_getR (c' := (37, b, 0)) fl_RX7_16 rfl rfl (ic_7 hb) dX7_takeFrom_37 rfl ?_
  refine w_iconst (v := 0) dX7_takeFrom_40 (by decide) ?_
  refine w_bipush (v := 40) dX7_takeFrom_41 (by decide) ?_
  refine w_copy CC_nd rfl rfl (ic_37 hb2) rfl rfl (ic_37 hb) m_1262 m_830 m_829 m_98 li_0 li_0 li_40 (by decide) rfl (by omega) dX7_takeFrom_43 (fun M9_ hM10_ => ?_)
  have hI11_ := hI7_.cpy hM10_ (fun _ _ => trivial)
  have hF12_ := hF8_.cpy hM10_ (fun _ => (Or.inr (Or.inr (Or.inl ⟨rfl, rfl⟩))))
  refine w_aload_n dX7_takeFrom_46 rfl 1 rfl ?_
  refine w_getR (c' := (38, b2, 0)) fl_RX7_19 rfl rfl (ic_7 hb2) dX7_takeFrom_47 rfl ?_
  refine w_iconst (v := 0) dX7_takeFrom_50 (by decide) ?_
  refine w_aload_n dX7_takeFrom_51 rfl 0 rfl ?_
  refine w_getR (c' := (38, b, 0)) fl_RX7_19 rfl rfl (ic_7 hb) dX7_takeFrom_52 rfl ?_
  refine w_iconst (v := 0) dX7_takeFrom_55 (by decide) ?_
  refine w_bipush (v := 40) dX7_takeFrom_56 (by decide) ?_
  refine w_copy CC_nd rfl rfl (ic_38 hb2) rfl rfl (ic_38 hb) m_1262 m_830 m_829 m_98 li_0 li_0 li_40 (by decide) rfl (by omega) dX7_takeFrom_58 (fun M13_ hM14_ => ?_)
  have hI15_ := hI11_.cpy hM14_ (fun _ _ => trivial)
  have hF16_ := hF12_.cpy hM14_ (fun _ => (Or.inr (Or.inr (Or.inr (Or.inl ⟨rfl, rfl⟩)))))
  refine w_aload_n dX7_takeFrom_61 rfl 1 rfl ?_
  refine w_getR (c' := (39, b2, 0)) fl_RX7_22 rfl rfl (ic_7 hb2) dX7_takeFrom_62 rfl ?_
  refine w_iconst (v := 0) dX7_takeFrom_65 (by decide) ?_
  refine w_aload_n dX7_takeFrom_66 rfl 0 rfl ?_
  refine w_getR (c' := (39, b, 0)) fl_RX7_22 rfl rfl (ic_7 hb) dX7_takeFrom_67 rfl ?_
  refine w_iconst (v := 0) dX7_takeFrom_70 (by decide) ?_
  refine w_bipush (v := 40) dX7_takeFrom_71 (by decide) ?_
  refine w_copy CC_nd rfl rfl (ic_39 hb2) rfl rfl (ic_39 hb) m_1262 m_830 m_829 m_98 li_0 li_0 li_40 (by decide) rfl (by omega) dX7_takeFrom_73 (fun M17_ hM18_ => ?_)
  have hI19_ := hI15_.cpy hM18_ (fun _ _ => trivial)
  have hF20_ := hF16_.cpy hM18_ (fun _ => (Or.inr (Or.inr (Or.inr (Or.inr (Or.inl ⟨rfl, rfl⟩))))))
  refine w_aload_n dX7_takeFrom_76 rfl 0 rfl ?_
  refine w_aload_n dX7_takeFrom_77 rfl 1 rfl ?_
  refine w_getI fl_RX7_25 rfl rfl (ic_7 hb2) dX7_takeFrom_78 (fun z21_ e22_ => ?_)
  refine w_putI CC_nd fl_RX7_25 rfl rfl (ic_7 hb) dX7_takeFrom_81 (fun M23_ hM24_ => ?_)
  have hI25_ := hI19_.put hM24_ trivial
  have hF26_ := hF20_.put hM24_ (Or.inr (Or.inr (Or.inr (Or.inr (Or.inr (Or.inl ⟨rfl, rfl, rfl⟩))))))
  exact w_vret rfl dX7_takeFrom_84 ⟨hI25_, hF26_, trivial, ⟨M1_, hM2_, M5_, hM6_, M9_, hM10_, M13_, hM14_, M17_, hM18_, z21_, e22_, M23_, hM24_, rfl⟩⟩
end
section
/-! words of the tables that are used, by their places; decode rows; fields -/
theorem li_9 : (9 : Int32).toInt = 9 := by decide
theorem li_15 : (15 : Int32).toInt = 15 := by decide
theorem li_24 : (24 : Int32).toInt = 24 := by decide
theorem li_99 : (99 : Int32).toInt = 99 := by decide
set_option maxRecDepth 20000 in
theorem m_87 : Cond.initialized RX9 ∈ BASE := bmT1 9 rfl rfl
set_option maxRecDepth 20000 in
theorem m_91 : Cond.initialized RX6 ∈ BASE := bmT1 13 rfl rfl
set_option maxRecDepth 20000 in
theorem m_206 : Cond.static Lib.Math.max.name ∈ BASE := bmT1 128 rfl rfl
set_option maxRecDepth 20000 in
theorem m_207 : Cond.code Lib.Math.max.name Lib.Math.max.code 2 (some .int) ∈ BASE := bmT1 129 rfl rfl
set_option maxRecDepth 20000 in
theorem m_258 : Cond.fieldLink RX9 7 "ClickStreet$Walker" "kind" "I" ∈ BASE := bmT1 180 rfl rfl
set_option maxRecDepth 20000 in
theorem m_260 : Cond.fieldLink RX9 13 "ClickStreet$Walker" "cell" "I" ∈ BASE := bmT1 182 rfl rfl
set_option maxRecDepth 20000 in
theorem m_264 : Cond.fieldLink RX9 16 "ClickStreet$Walker" "side" "I" ∈ BASE := bmT1 186 rfl rfl
set_option maxRecDepth 20000 in
theorem m_267 : Cond.fieldLink RX9 19 "ClickStreet$Walker" "pitch" "I" ∈ BASE := bmT1 189 rfl rfl
set_option maxRecDepth 20000 in
theorem m_270 : Cond.fieldLink RX9 22 "ClickStreet$Walker" "loudness" "I" ∈ BASE := bmT1 192 rfl rfl
set_option maxRecDepth 20000 in
theorem m_272 : Cond.fieldLink RX9 25 "ClickStreet$Walker" "every" "I" ∈ BASE := bmT1 194 rfl rfl
set_option maxRecDepth 20000 in
theorem m_275 : Cond.fieldLink RX9 28 "ClickStreet$Walker" "isGoing" "Z" ∈ BASE := bmT1 197 rfl rfl
set_option maxRecDepth 20000 in
theorem m_278 : Cond.fieldLink RX9 32 "ClickStreet$Walker" "bumps" "I" ∈ BASE := bmT1 200 rfl rfl
set_option maxRecDepth 20000 in
theorem m_280 : Cond.fieldLink RX9 35 "ClickStreet$Walker" "clicks" "I" ∈ BASE := bmT1 202 rfl rfl
set_option maxRecDepth 20000 in
theorem m_282 : Cond.fieldLink RX9 40 "ClickStreet$Walker" "yes" "[I" ∈ BASE := bmT1 204 rfl rfl
set_option maxRecDepth 20000 in
theorem m_284 : Cond.fieldLink RX9 44 "ClickStreet$Walker" "no" "[I" ∈ BASE := bmT1 206 rfl rfl
set_option maxRecDepth 20000 in
theorem m_445 : Cond.fieldLink RX6 7 "ClickStreet$Sheet" "bits" "I" ∈ BASE := bmT2 127 rfl rfl
set_option maxRecDepth 20000 in
theorem m_447 : Cond.fieldLink RX6 13 "ClickStreet$Sheet" "size" "I" ∈ BASE := bmT2 129 rfl rfl
set_option maxRecDepth 20000 in
theorem m_450 : Cond.fieldLink RX6 16 "ClickStreet$Sheet" "numbers" "[I" ∈ BASE := bmT2 132 rfl rfl
set_option maxRecDepth 20000 in
theorem m_574 : Cond.instanceMethod yX6_numberAt ∈ BASE := bmT3 16 rfl rfl
set_option maxRecDepth 20000 in
theorem m_575 : Cond.selects yX6_numberAt.cls yX6_numberAt yX6_numberAt ∈ BASE := bmT3 17 rfl rfl
set_option maxRecDepth 20000 in
theorem m_576 : Cond.code yX6_numberAt cX6_numberAt 2 (some .int) ∈ BASE := bmT3 18 rfl rfl
set_option maxRecDepth 20000 in
theorem m_577 : Cond.methodLink RX6 29 yX6_has ∈ BASE := bmT3 19 rfl rfl
set_option maxRecDepth 20000 in
theorem m_578 : Cond.instanceMethod yX6_has ∈ BASE := bmT3 20 rfl rfl
set_option maxRecDepth 20000 in
theorem m_579 : Cond.selects yX6_has.cls yX6_has yX6_has ∈ BASE := bmT3 21 rfl rfl
set_option maxRecDepth 20000 in
theorem m_580 : Cond.code yX6_has cX6_has 2 (some .boolean) ∈ BASE := bmT3 22 rfl rfl
set_option maxRecDepth 20000 in
theorem m_617 : Cond.methodLink RX9 63 yX9_reach ∈ BASE := bmT3 59 rfl rfl
set_option maxRecDepth 20000 in
theorem m_618 : Cond.instanceMethod yX9_reach ∈ BASE := bmT3 60 rfl rfl
set_option maxRecDepth 20000 in
theorem m_619 : Cond.selects yX9_reach.cls yX9_reach yX9_reach ∈ BASE := bmT3 61 rfl rfl
set_option maxRecDepth 20000 in
theorem m_620 : Cond.code yX9_reach cX9_reach 1 (some .int) ∈ BASE := bmT3 62 rfl rfl
set_option maxRecDepth 20000 in
theorem m_621 : Cond.fieldLink RX9 54 "ClickStreet$Walker" "REACHES" "[I" ∈ BASE := bmT3 63 rfl rfl
set_option maxRecDepth 20000 in
theorem m_623 : Cond.methodLink RX9 67 yX9_speed ∈ BASE := bmT3 65 rfl rfl
set_option maxRecDepth 20000 in
theorem m_624 : Cond.instanceMethod yX9_speed ∈ BASE := bmT3 66 rfl rfl
set_option maxRecDepth 20000 in
theorem m_625 : Cond.selects yX9_speed.cls yX9_speed yX9_speed ∈ BASE := bmT3 67 rfl rfl
set_option maxRecDepth 20000 in
theorem m_626 : Cond.code yX9_speed cX9_speed 1 (some .int) ∈ BASE := bmT3 68 rfl rfl
set_option maxRecDepth 20000 in
theorem m_627 : Cond.fieldLink RX9 57 "ClickStreet$Walker" "SPEEDS" "[I" ∈ BASE := bmT3 69 rfl rfl
set_option maxRecDepth 20000 in
theorem m_629 : Cond.methodLink RX9 70 yX9_ears ∈ BASE := bmT3 71 rfl rfl
set_option maxRecDepth 20000 in
theorem m_630 : Cond.instanceMethod yX9_ears ∈ BASE := bmT3 72 rfl rfl
set_option maxRecDepth 20000 in
theorem m_631 : Cond.selects yX9_ears.cls yX9_ears yX9_ears ∈ BASE := bmT3 73 rfl rfl
set_option maxRecDepth 20000 in
theorem m_632 : Cond.code yX9_ears cX9_ears 1 (some .int) ∈ BASE := bmT3 74 rfl rfl
set_option maxRecDepth 20000 in
theorem m_633 : Cond.fieldLink RX9 60 "ClickStreet$Walker" "HEARS_TO" "[I" ∈ BASE := bmT3 75 rfl rfl
set_option maxRecDepth 20000 in
theorem m_643 : Cond.methodLink RX9 50 yX9_kindAbove ∈ BASE := bmT3 85 rfl rfl
set_option maxRecDepth 20000 in
theorem m_644 : Cond.static yX9_kindAbove ∈ BASE := bmT3 86 rfl rfl
set_option maxRecDepth 20000 in
theorem m_645 : Cond.code yX9_kindAbove cX9_kindAbove 1 (some .int) ∈ BASE := bmT3 87 rfl rfl
set_option maxRecDepth 20000 in
theorem m_919 : Cond.methodLink RX9 73 yX7_isCell ∈ BASE := bmT4 121 rfl rfl
set_option maxRecDepth 20000 in
theorem m_920 : Cond.methodLink RX9 77 Lib.Math.min.name ∈ BASE := bmT4 122 rfl rfl
set_option maxRecDepth 20000 in
theorem m_930 : Cond.instanceMethod yX9_held ∈ BASE := bmT4 132 rfl rfl
set_option maxRecDepth 20000 in
theorem m_931 : Cond.selects yX9_held.cls yX9_held yX9_held ∈ BASE := bmT4 133 rfl rfl
set_option maxRecDepth 20000 in
theorem m_932 : Cond.code yX9_held cX9_held 2 (some .int) ∈ BASE := bmT4 134 rfl rfl
set_option maxRecDepth 20000 in
theorem m_946 : Cond.methodLink RX9 83 yX9_held ∈ BASE := bmT4 148 rfl rfl
set_option maxRecDepth 20000 in
theorem m_982 : Cond.methodLink RX6 33 yX6_numberAt ∈ BASE := bmT4 184 rfl rfl
set_option maxRecDepth 20000 in
theorem m_983 : Cond.methodLink RX6 37 yX7_isCell ∈ BASE := bmT4 185 rfl rfl
set_option maxRecDepth 20000 in
theorem m_1049 : Cond.methodLink RX9 86 yX7_cellFrom ∈ BASE := bmT5 11 rfl rfl
set_option maxRecDepth 20000 in
theorem m_1230 : Cond.methodLink RX6 20 Lib.Math.min.name ∈ BASE := bmT5 192 rfl rfl
set_option maxRecDepth 20000 in
theorem m_1231 : Cond.methodLink RX6 26 Lib.Math.max.name ∈ BASE := bmT5 193 rfl rfl
set_option maxRecDepth 20000 in
theorem m_1279 : Cond.methodLink RX9 90 arraycopyName ∈ BASE := bmT6 1 rfl rfl
theorem kS_X9_kindAbove : KS yX9_kindAbove cX9_kindAbove 1 (some .int) 1 := ⟨m_644, m_87, m_645, nhM_3, nhV_3, pdn_2⟩
theorem kV_X6_has : KV yX6_has cX6_has 2 (some .boolean) 1 := ⟨m_578, m_579, m_91, m_580, nhM_4, nhV_4, pdn_1⟩
theorem kV_X6_numberAt : KV yX6_numberAt cX6_numberAt 2 (some .int) 1 := ⟨m_574, m_575, m_91, m_576, nhM_4, nhV_4, pdn_2⟩
theorem kV_X9_ears : KV yX9_ears cX9_ears 1 (some .int) 0 := ⟨m_630, m_631, m_87, m_632, nhM_3, nhV_3, pdn_6⟩
theorem kV_X9_held : KV yX9_held cX9_held 2 (some .int) 1 := ⟨m_930, m_931, m_87, m_932, nhM_3, nhV_3, pdn_2⟩
theorem kV_X9_reach : KV yX9_reach cX9_reach 1 (some .int) 0 := ⟨m_618, m_619, m_87, m_620, nhM_3, nhV_3, pdn_6⟩
theorem kV_X9_speed : KV yX9_speed cX9_speed 1 (some .int) 0 := ⟨m_624, m_625, m_87, m_626, nhM_3, nhV_3, pdn_6⟩
theorem stb_0 : ∀ j, j < 8 → 0 ≤ (([3, 12, 1, 6, 0, 6, 5, 10] : List Int32).getD j 0).toInt ∧ (([3, 12, 1, 6, 0, 6, 5, 10] : List Int32).getD j 0).toInt ≤ 12 := by decide +kernel
theorem stb_1 : ∀ j, j < 8 → 1 ≤ (([1, 1, 1, 1, 1, 1, 1, 2] : List Int32).getD j 0).toInt ∧ (([1, 1, 1, 1, 1, 1, 1, 2] : List Int32).getD j 0).toInt ≤ 2 := by decide +kernel
theorem stb_2 : ∀ j, j < 8 → 5 ≤ (([9, 9, 9, 9, 9, 9, 5, 9] : List Int32).getD j 0).toInt ∧ (([9, 9, 9, 9, 9, 9, 5, 9] : List Int32).getD j 0).toInt ≤ 9 := by decide +kernel
theorem inB6 : ∀ w ∈ u_ws RX6 TX6 3, w ∈ BASE := bmems (u_ws RX6 TX6 3) [452, 454, 456] (by decide +kernel) (by decide +kernel)
theorem inB9 : ∀ w ∈ u_ws RX9 TX9 11, w ∈ BASE := bmems (u_ws RX9 TX9 11) [286, 288, 290, 292, 294, 296, 298, 300, 302, 304, 306] (by decide +kernel) (by decide +kernel)
theorem fl_RX6_13 : FLK RX6 13 6 1 .int false := ⟨RX6, TX6, 3, tyX6, rfl, inB6, tyX6_ok, nmX6, by decide, rfl, rfl, Or.inl m_447⟩
theorem fl_RX6_16 : FLK RX6 16 6 2 (.array .int) true := ⟨RX6, TX6, 3, tyX6, rfl, inB6, tyX6_ok, nmX6, by decide, rfl, rfl, Or.inl m_450⟩
theorem fl_RX6_7 : FLK RX6 7 6 0 .int false := ⟨RX6, TX6, 3, tyX6, rfl, inB6, tyX6_ok, nmX6, by decide, rfl, rfl, Or.inl m_445⟩
theorem fl_RX9_13 : FLK RX9 13 9 1 .int false := ⟨RX9, TX9, 11, tyX9, rfl, inB9, tyX9_ok, nmX9, by decide, rfl, rfl, Or.inl m_260⟩
theorem fl_RX9_16 : FLK RX9 16 9 2 .int false := ⟨RX9, TX9, 11, tyX9, rfl, inB9, tyX9_ok, nmX9, by decide, rfl, rfl, Or.inl m_264⟩
theorem fl_RX9_19 : FLK RX9 19 9 3 .int false := ⟨RX9, TX9, 11, tyX9, rfl, inB9, tyX9_ok, nmX9, by decide, rfl, rfl, Or.inl m_267⟩
theorem fl_RX9_22 : FLK RX9 22 9 4 .int false := ⟨RX9, TX9, 11, tyX9, rfl, inB9, tyX9_ok, nmX9, by decide, rfl, rfl, Or.inl m_270⟩
theorem fl_RX9_25 : FLK RX9 25 9 5 .int false := ⟨RX9, TX9, 11, tyX9, rfl, inB9, tyX9_ok, nmX9, by decide, rfl, rfl, Or.inl m_272⟩
theorem fl_RX9_28 : FLK RX9 28 9 6 .boolean false := ⟨RX9, TX9, 11, tyX9, rfl, inB9, tyX9_ok, nmX9, by decide, rfl, rfl, Or.inl m_275⟩
theorem fl_RX9_32 : FLK RX9 32 9 7 .int false := ⟨RX9, TX9, 11, tyX9, rfl, inB9, tyX9_ok, nmX9, by decide, rfl, rfl, Or.inl m_278⟩
theorem fl_RX9_35 : FLK RX9 35 9 8 .int false := ⟨RX9, TX9, 11, tyX9, rfl, inB9, tyX9_ok, nmX9, by decide, rfl, rfl, Or.inl m_280⟩
theorem fl_RX9_40 : FLK RX9 40 9 9 (.array .int) true := ⟨RX9, TX9, 11, tyX9, rfl, inB9, tyX9_ok, nmX9, by decide, rfl, rfl, Or.inl m_282⟩
theorem fl_RX9_44 : FLK RX9 44 9 10 (.array .int) true := ⟨RX9, TX9, 11, tyX9, rfl, inB9, tyX9_ok, nmX9, by decide, rfl, rfl, Or.inl m_284⟩
theorem fl_RX9_7 : FLK RX9 7 9 0 .int false := ⟨RX9, TX9, 11, tyX9, rfl, inB9, tyX9_ok, nmX9, by decide, rfl, rfl, Or.inl m_258⟩
theorem ch_cX6_begin_0 : (cX6_begin.data.toList.drop 0).take 36 = [42, 27, 181, 0, 7, 42, 3, 16, 24, 28, 184, 0, 20, 184, 0, 26, 181, 0, 13, 3, 62, 29, 16, 24, 162, 0, 16, 42, 180, 0, 16, 29, 3, 79, 132, 3] := by decide +kernel
theorem dX6_begin_0 : decode cX6_begin 0 = .ok (.aload_n 0, 1) := do_42 (rdb (p := 0) (i := 0) ch_cX6_begin_0 rfl)
theorem dX6_begin_1 : decode cX6_begin 1 = .ok (.iload_n 1, 1) := do_27 (rdb (p := 0) (i := 1) ch_cX6_begin_0 rfl)
theorem dX6_begin_2 : decode cX6_begin 2 = .ok (.putfield 7, 3) := do_181 (rdb (p := 0) (i := 2) ch_cX6_begin_0 rfl) (rdb (p := 0) (i := 3) ch_cX6_begin_0 rfl) (rdb (p := 0) (i := 4) ch_cX6_begin_0 rfl) rfl
theorem dX6_begin_5 : decode cX6_begin 5 = .ok (.aload_n 0, 1) := do_42 (rdb (p := 0) (i := 5) ch_cX6_begin_0 rfl)
theorem dX6_begin_6 : decode cX6_begin 6 = .ok (.iconst 0, 1) := do_3 (rdb (p := 0) (i := 6) ch_cX6_begin_0 rfl)
theorem dX6_begin_7 : decode cX6_begin 7 = .ok (.bipush 24, 2) := do_16 (rdb (p := 0) (i := 7) ch_cX6_begin_0 rfl) (rdb (p := 0) (i := 8) ch_cX6_begin_0 rfl) (by decide +kernel)
theorem dX6_begin_9 : decode cX6_begin 9 = .ok (.iload_n 2, 1) := do_28 (rdb (p := 0) (i := 9) ch_cX6_begin_0 rfl)
theorem dX6_begin_10 : decode cX6_begin 10 = .ok (.invokestatic 20, 3) := do_184 (rdb (p := 0) (i := 10) ch_cX6_begin_0 rfl) (rdb (p := 0) (i := 11) ch_cX6_begin_0 rfl) (rdb (p := 0) (i := 12) ch_cX6_begin_0 rfl) rfl
theorem dX6_begin_13 : decode cX6_begin 13 = .ok (.invokestatic 26, 3) := do_184 (rdb (p := 0) (i := 13) ch_cX6_begin_0 rfl) (rdb (p := 0) (i := 14) ch_cX6_begin_0 rfl) (rdb (p := 0) (i := 15) ch_cX6_begin_0 rfl) rfl
theorem dX6_begin_16 : decode cX6_begin 16 = .ok (.putfield 13, 3) := do_181 (rdb (p := 0) (i := 16) ch_cX6_begin_0 rfl) (rdb (p := 0) (i := 17) ch_cX6_begin_0 rfl) (rdb (p := 0) (i := 18) ch_cX6_begin_0 rfl) rfl
theorem dX6_begin_19 : decode cX6_begin 19 = .ok (.iconst 0, 1) := do_3 (rdb (p := 0) (i := 19) ch_cX6_begin_0 rfl)
theorem dX6_begin_20 : decode cX6_begin 20 = .ok (.istore_n 3, 1) := do_62 (rdb (p := 0) (i := 20) ch_cX6_begin_0 rfl)
theorem dX6_begin_21 : decode cX6_begin 21 = .ok (.iload_n 3, 1) := do_29 (rdb (p := 0) (i := 21) ch_cX6_begin_0 rfl)
theorem dX6_begin_22 : decode cX6_begin 22 = .ok (.bipush 24, 2) := do_16 (rdb (p := 0) (i := 22) ch_cX6_begin_0 rfl) (rdb (p := 0) (i := 23) ch_cX6_begin_0 rfl) (by decide +kernel)
theorem dX6_begin_24 : decode cX6_begin 24 = .ok (.if_icmp .ge 16, 3) := do_162 (rdb (p := 0) (i := 24) ch_cX6_begin_0 rfl) (rdb (p := 0) (i := 25) ch_cX6_begin_0 rfl) (rdb (p := 0) (i := 26) ch_cX6_begin_0 rfl) (by decide +kernel)
theorem dX6_begin_27 : decode cX6_begin 27 = .ok (.aload_n 0, 1) := do_42 (rdb (p := 0) (i := 27) ch_cX6_begin_0 rfl)
theorem dX6_begin_28 : decode cX6_begin 28 = .ok (.getfield 16, 3) := do_180 (rdb (p := 0) (i := 28) ch_cX6_begin_0 rfl) (rdb (p := 0) (i := 29) ch_cX6_begin_0 rfl) (rdb (p := 0) (i := 30) ch_cX6_begin_0 rfl) rfl
theorem dX6_begin_31 : decode cX6_begin 31 = .ok (.iload_n 3, 1) := do_29 (rdb (p := 0) (i := 31) ch_cX6_begin_0 rfl)
theorem ch_cX6_begin_32 : (cX6_begin.data.toList.drop 32).take 36 = [3, 79, 132, 3, 1, 167, 255, 240, 177] := by decide +kernel
theorem dX6_begin_32 : decode cX6_begin 32 = .ok (.iconst 0, 1) := do_3 (rdb (p := 32) (i := 0) ch_cX6_begin_32 rfl)
theorem dX6_begin_33 : decode cX6_begin 33 = .ok (.iastore, 1) := do_79 (rdb (p := 32) (i := 1) ch_cX6_begin_32 rfl)
theorem dX6_begin_34 : decode cX6_begin 34 = .ok (.iinc 3 1, 3) := do_132 (rdb (p := 32) (i := 2) ch_cX6_begin_32 rfl) (rdb (p := 32) (i := 3) ch_cX6_begin_32 rfl) (rdb (p := 32) (i := 4) ch_cX6_begin_32 rfl) (by decide +kernel)
theorem dX6_begin_37 : decode cX6_begin 37 = .ok (.goto (-16), 3) := do_167 (rdb (p := 32) (i := 5) ch_cX6_begin_32 rfl) (rdb (p := 32) (i := 6) ch_cX6_begin_32 rfl) (rdb (p := 32) (i := 7) ch_cX6_begin_32 rfl) (by decide +kernel)
theorem dX6_begin_40 : decode cX6_begin 40 = .ok (.return_, 1) := do_177 (rdb (p := 32) (i := 8) ch_cX6_begin_32 rfl)
theorem dX6_drop_0 : decode cX6_drop 0 = .ok (.aload_n 0, 1) := by decide +kernel
theorem dX6_drop_1 : decode cX6_drop 1 = .ok (.iconst 0, 1) := by decide +kernel
theorem dX6_drop_2 : decode cX6_drop 2 = .ok (.putfield 7, 3) := by decide +kernel
theorem dX6_drop_5 : decode cX6_drop 5 = .ok (.aload_n 0, 1) := by decide +kernel
theorem dX6_drop_6 : decode cX6_drop 6 = .ok (.iconst 0, 1) := by decide +kernel
theorem dX6_drop_7 : decode cX6_drop 7 = .ok (.putfield 13, 3) := by decide +kernel
theorem dX6_drop_10 : decode cX6_drop 10 = .ok (.return_, 1) := by decide +kernel
theorem dX6_has_0 : decode cX6_has 0 = .ok (.iload_n 1, 1) := by decide +kernel
theorem dX6_has_1 : decode cX6_has 1 = .ok (.ifCond .lt 21, 3) := by decide +kernel
theorem dX6_has_4 : decode cX6_has 4 = .ok (.iload_n 1, 1) := by decide +kernel
theorem dX6_has_5 : decode cX6_has 5 = .ok (.aload_n 0, 1) := by decide +kernel
theorem dX6_has_6 : decode cX6_has 6 = .ok (.getfield 13, 3) := by decide +kernel
theorem dX6_has_9 : decode cX6_has 9 = .ok (.if_icmp .ge 13, 3) := by decide +kernel
theorem dX6_has_12 : decode cX6_has 12 = .ok (.iload_n 1, 1) := by decide +kernel
theorem dX6_has_13 : decode cX6_has 13 = .ok (.bipush 24, 2) := by decide +kernel
theorem dX6_has_15 : decode cX6_has 15 = .ok (.if_icmp .ge 7, 3) := by decide +kernel
theorem dX6_has_18 : decode cX6_has 18 = .ok (.iconst 1, 1) := by decide +kernel
theorem dX6_has_19 : decode cX6_has 19 = .ok (.goto 4, 3) := by decide +kernel
theorem dX6_has_22 : decode cX6_has 22 = .ok (.iconst 0, 1) := by decide +kernel
theorem dX6_has_23 : decode cX6_has 23 = .ok (.ireturn, 1) := by decide +kernel
theorem dX6_hasRun_0 : decode cX6_hasRun 0 = .ok (.iload_n 1, 1) := by decide +kernel
theorem dX6_hasRun_1 : decode cX6_hasRun 1 = .ok (.ifCond .lt 29, 3) := by decide +kernel
theorem dX6_hasRun_4 : decode cX6_hasRun 4 = .ok (.iload_n 2, 1) := by decide +kernel
theorem dX6_hasRun_5 : decode cX6_hasRun 5 = .ok (.ifCond .lt 25, 3) := by decide +kernel
theorem dX6_hasRun_8 : decode cX6_hasRun 8 = .ok (.iload_n 1, 1) := by decide +kernel
theorem dX6_hasRun_9 : decode cX6_hasRun 9 = .ok (.aload_n 0, 1) := by decide +kernel
theorem dX6_hasRun_10 : decode cX6_hasRun 10 = .ok (.getfield 13, 3) := by decide +kernel
theorem dX6_hasRun_13 : decode cX6_hasRun 13 = .ok (.if_icmp .gt 17, 3) := by decide +kernel
theorem dX6_hasRun_16 : decode cX6_hasRun 16 = .ok (.iload_n 2, 1) := by decide +kernel
theorem dX6_hasRun_17 : decode cX6_hasRun 17 = .ok (.aload_n 0, 1) := by decide +kernel
theorem dX6_hasRun_18 : decode cX6_hasRun 18 = .ok (.getfield 13, 3) := by decide +kernel
theorem dX6_hasRun_21 : decode cX6_hasRun 21 = .ok (.iload_n 1, 1) := by decide +kernel
theorem dX6_hasRun_22 : decode cX6_hasRun 22 = .ok (.isub, 1) := by decide +kernel
theorem dX6_hasRun_23 : decode cX6_hasRun 23 = .ok (.if_icmp .gt 7, 3) := by decide +kernel
theorem dX6_hasRun_26 : decode cX6_hasRun 26 = .ok (.iconst 1, 1) := by decide +kernel
theorem dX6_hasRun_27 : decode cX6_hasRun 27 = .ok (.goto 4, 3) := by decide +kernel
theorem dX6_hasRun_30 : decode cX6_hasRun 30 = .ok (.iconst 0, 1) := by decide +kernel
theorem dX6_hasRun_31 : decode cX6_hasRun 31 = .ok (.ireturn, 1) := by decide +kernel
theorem ch_cX6_hasTwoAlike_0 : (cX6_hasTwoAlike.data.toList.drop 0).take 36 = [4, 60, 27, 42, 180, 0, 13, 162, 0, 37, 3, 61, 28, 27, 162, 0, 24, 42, 27, 182, 0, 33, 42, 28, 182, 0, 33, 160, 0, 5, 4, 172, 132, 2, 1, 167] := by decide +kernel
theorem dX6_hasTwoAlike_0 : decode cX6_hasTwoAlike 0 = .ok (.iconst 1, 1) := do_4 (rdb (p := 0) (i := 0) ch_cX6_hasTwoAlike_0 rfl)
theorem dX6_hasTwoAlike_1 : decode cX6_hasTwoAlike 1 = .ok (.istore_n 1, 1) := do_60 (rdb (p := 0) (i := 1) ch_cX6_hasTwoAlike_0 rfl)
theorem dX6_hasTwoAlike_2 : decode cX6_hasTwoAlike 2 = .ok (.iload_n 1, 1) := do_27 (rdb (p := 0) (i := 2) ch_cX6_hasTwoAlike_0 rfl)
theorem dX6_hasTwoAlike_3 : decode cX6_hasTwoAlike 3 = .ok (.aload_n 0, 1) := do_42 (rdb (p := 0) (i := 3) ch_cX6_hasTwoAlike_0 rfl)
theorem dX6_hasTwoAlike_4 : decode cX6_hasTwoAlike 4 = .ok (.getfield 13, 3) := do_180 (rdb (p := 0) (i := 4) ch_cX6_hasTwoAlike_0 rfl) (rdb (p := 0) (i := 5) ch_cX6_hasTwoAlike_0 rfl) (rdb (p := 0) (i := 6) ch_cX6_hasTwoAlike_0 rfl) rfl
theorem dX6_hasTwoAlike_7 : decode cX6_hasTwoAlike 7 = .ok (.if_icmp .ge 37, 3) := do_162 (rdb (p := 0) (i := 7) ch_cX6_hasTwoAlike_0 rfl) (rdb (p := 0) (i := 8) ch_cX6_hasTwoAlike_0 rfl) (rdb (p := 0) (i := 9) ch_cX6_hasTwoAlike_0 rfl) (by decide +kernel)
theorem dX6_hasTwoAlike_10 : decode cX6_hasTwoAlike 10 = .ok (.iconst 0, 1) := do_3 (rdb (p := 0) (i := 10) ch_cX6_hasTwoAlike_0 rfl)
theorem dX6_hasTwoAlike_11 : decode cX6_hasTwoAlike 11 = .ok (.istore_n 2, 1) := do_61 (rdb (p := 0) (i := 11) ch_cX6_hasTwoAlike_0 rfl)
theorem dX6_hasTwoAlike_12 : decode cX6_hasTwoAlike 12 = .ok (.iload_n 2, 1) := do_28 (rdb (p := 0) (i := 12) ch_cX6_hasTwoAlike_0 rfl)
theorem dX6_hasTwoAlike_13 : decode cX6_hasTwoAlike 13 = .ok (.iload_n 1, 1) := do_27 (rdb (p := 0) (i := 13) ch_cX6_hasTwoAlike_0 rfl)
theorem dX6_hasTwoAlike_14 : decode cX6_hasTwoAlike 14 = .ok (.if_icmp .ge 24, 3) := do_162 (rdb (p := 0) (i := 14) ch_cX6_hasTwoAlike_0 rfl) (rdb (p := 0) (i := 15) ch_cX6_hasTwoAlike_0 rfl) (rdb (p := 0) (i := 16) ch_cX6_hasTwoAlike_0 rfl) (by decide +kernel)
theorem dX6_hasTwoAlike_17 : decode cX6_hasTwoAlike 17 = .ok (.aload_n 0, 1) := do_42 (rdb (p := 0) (i := 17) ch_cX6_hasTwoAlike_0 rfl)
theorem dX6_hasTwoAlike_18 : decode cX6_hasTwoAlike 18 = .ok (.iload_n 1, 1) := do_27 (rdb (p := 0) (i := 18) ch_cX6_hasTwoAlike_0 rfl)
theorem dX6_hasTwoAlike_19 : decode cX6_hasTwoAlike 19 = .ok (.invokevirtual 33, 3) := do_182 (rdb (p := 0) (i := 19) ch_cX6_hasTwoAlike_0 rfl) (rdb (p := 0) (i := 20) ch_cX6_hasTwoAlike_0 rfl) (rdb (p := 0) (i := 21) ch_cX6_hasTwoAlike_0 rfl) rfl
theorem dX6_hasTwoAlike_22 : decode cX6_hasTwoAlike 22 = .ok (.aload_n 0, 1) := do_42 (rdb (p := 0) (i := 22) ch_cX6_hasTwoAlike_0 rfl)
theorem dX6_hasTwoAlike_23 : decode cX6_hasTwoAlike 23 = .ok (.iload_n 2, 1) := do_28 (rdb (p := 0) (i := 23) ch_cX6_hasTwoAlike_0 rfl)
theorem dX6_hasTwoAlike_24 : decode cX6_hasTwoAlike 24 = .ok (.invokevirtual 33, 3) := do_182 (rdb (p := 0) (i := 24) ch_cX6_hasTwoAlike_0 rfl) (rdb (p := 0) (i := 25) ch_cX6_hasTwoAlike_0 rfl) (rdb (p := 0) (i := 26) ch_cX6_hasTwoAlike_0 rfl) rfl
theorem dX6_hasTwoAlike_27 : decode cX6_hasTwoAlike 27 = .ok (.if_icmp .ne 5, 3) := do_160 (rdb (p := 0) (i := 27) ch_cX6_hasTwoAlike_0 rfl) (rdb (p := 0) (i := 28) ch_cX6_hasTwoAlike_0 rfl) (rdb (p := 0) (i := 29) ch_cX6_hasTwoAlike_0 rfl) (by decide +kernel)
theorem dX6_hasTwoAlike_30 : decode cX6_hasTwoAlike 30 = .ok (.iconst 1, 1) := do_4 (rdb (p := 0) (i := 30) ch_cX6_hasTwoAlike_0 rfl)
theorem dX6_hasTwoAlike_31 : decode cX6_hasTwoAlike 31 = .ok (.ireturn, 1) := do_172 (rdb (p := 0) (i := 31) ch_cX6_hasTwoAlike_0 rfl)
theorem ch_cX6_hasTwoAlike_32 : (cX6_hasTwoAlike.data.toList.drop 32).take 36 = [132, 2, 1, 167, 255, 233, 132, 1, 1, 167, 255, 217, 3, 172] := by decide +kernel
theorem dX6_hasTwoAlike_32 : decode cX6_hasTwoAlike 32 = .ok (.iinc 2 1, 3) := do_132 (rdb (p := 32) (i := 0) ch_cX6_hasTwoAlike_32 rfl) (rdb (p := 32) (i := 1) ch_cX6_hasTwoAlike_32 rfl) (rdb (p := 32) (i := 2) ch_cX6_hasTwoAlike_32 rfl) (by decide +kernel)
theorem dX6_hasTwoAlike_35 : decode cX6_hasTwoAlike 35 = .ok (.goto (-23), 3) := do_167 (rdb (p := 32) (i := 3) ch_cX6_hasTwoAlike_32 rfl) (rdb (p := 32) (i := 4) ch_cX6_hasTwoAlike_32 rfl) (rdb (p := 32) (i := 5) ch_cX6_hasTwoAlike_32 rfl) (by decide +kernel)
theorem dX6_hasTwoAlike_38 : decode cX6_hasTwoAlike 38 = .ok (.iinc 1 1, 3) := do_132 (rdb (p := 32) (i := 6) ch_cX6_hasTwoAlike_32 rfl) (rdb (p := 32) (i := 7) ch_cX6_hasTwoAlike_32 rfl) (rdb (p := 32) (i := 8) ch_cX6_hasTwoAlike_32 rfl) (by decide +kernel)
theorem dX6_hasTwoAlike_41 : decode cX6_hasTwoAlike 41 = .ok (.goto (-39), 3) := do_167 (rdb (p := 32) (i := 9) ch_cX6_hasTwoAlike_32 rfl) (rdb (p := 32) (i := 10) ch_cX6_hasTwoAlike_32 rfl) (rdb (p := 32) (i := 11) ch_cX6_hasTwoAlike_32 rfl) (by decide +kernel)
theorem dX6_hasTwoAlike_44 : decode cX6_hasTwoAlike 44 = .ok (.iconst 0, 1) := do_3 (rdb (p := 32) (i := 12) ch_cX6_hasTwoAlike_32 rfl)
theorem dX6_hasTwoAlike_45 : decode cX6_hasTwoAlike 45 = .ok (.ireturn, 1) := do_172 (rdb (p := 32) (i := 13) ch_cX6_hasTwoAlike_32 rfl)
theorem ch_cX6_holdsFewCells_0 : (cX6_holdsFewCells.data.toList.drop 0).take 36 = [42, 180, 0, 13, 4, 161, 0, 12, 42, 180, 0, 13, 16, 8, 164, 0, 5, 3, 172, 3, 60, 27, 42, 180, 0, 13, 162, 0, 22, 42, 27, 182, 0, 33, 184, 0] := by decide +kernel
theorem dX6_holdsFewCells_0 : decode cX6_holdsFewCells 0 = .ok (.aload_n 0, 1) := do_42 (rdb (p := 0) (i := 0) ch_cX6_holdsFewCells_0 rfl)
theorem dX6_holdsFewCells_1 : decode cX6_holdsFewCells 1 = .ok (.getfield 13, 3) := do_180 (rdb (p := 0) (i := 1) ch_cX6_holdsFewCells_0 rfl) (rdb (p := 0) (i := 2) ch_cX6_holdsFewCells_0 rfl) (rdb (p := 0) (i := 3) ch_cX6_holdsFewCells_0 rfl) rfl
theorem dX6_holdsFewCells_4 : decode cX6_holdsFewCells 4 = .ok (.iconst 1, 1) := do_4 (rdb (p := 0) (i := 4) ch_cX6_holdsFewCells_0 rfl)
theorem dX6_holdsFewCells_5 : decode cX6_holdsFewCells 5 = .ok (.if_icmp .lt 12, 3) := do_161 (rdb (p := 0) (i := 5) ch_cX6_holdsFewCells_0 rfl) (rdb (p := 0) (i := 6) ch_cX6_holdsFewCells_0 rfl) (rdb (p := 0) (i := 7) ch_cX6_holdsFewCells_0 rfl) (by decide +kernel)
theorem dX6_holdsFewCells_8 : decode cX6_holdsFewCells 8 = .ok (.aload_n 0, 1) := do_42 (rdb (p := 0) (i := 8) ch_cX6_holdsFewCells_0 rfl)
theorem dX6_holdsFewCells_9 : decode cX6_holdsFewCells 9 = .ok (.getfield 13, 3) := do_180 (rdb (p := 0) (i := 9) ch_cX6_holdsFewCells_0 rfl) (rdb (p := 0) (i := 10) ch_cX6_holdsFewCells_0 rfl) (rdb (p := 0) (i := 11) ch_cX6_holdsFewCells_0 rfl) rfl
theorem dX6_holdsFewCells_12 : decode cX6_holdsFewCells 12 = .ok (.bipush 8, 2) := do_16 (rdb (p := 0) (i := 12) ch_cX6_holdsFewCells_0 rfl) (rdb (p := 0) (i := 13) ch_cX6_holdsFewCells_0 rfl) (by decide +kernel)
theorem dX6_holdsFewCells_14 : decode cX6_holdsFewCells 14 = .ok (.if_icmp .le 5, 3) := do_164 (rdb (p := 0) (i := 14) ch_cX6_holdsFewCells_0 rfl) (rdb (p := 0) (i := 15) ch_cX6_holdsFewCells_0 rfl) (rdb (p := 0) (i := 16) ch_cX6_holdsFewCells_0 rfl) (by decide +kernel)
theorem dX6_holdsFewCells_17 : decode cX6_holdsFewCells 17 = .ok (.iconst 0, 1) := do_3 (rdb (p := 0) (i := 17) ch_cX6_holdsFewCells_0 rfl)
theorem dX6_holdsFewCells_18 : decode cX6_holdsFewCells 18 = .ok (.ireturn, 1) := do_172 (rdb (p := 0) (i := 18) ch_cX6_holdsFewCells_0 rfl)
theorem dX6_holdsFewCells_19 : decode cX6_holdsFewCells 19 = .ok (.iconst 0, 1) := do_3 (rdb (p := 0) (i := 19) ch_cX6_holdsFewCells_0 rfl)
theorem dX6_holdsFewCells_20 : decode cX6_holdsFewCells 20 = .ok (.istore_n 1, 1) := do_60 (rdb (p := 0) (i := 20) ch_cX6_holdsFewCells_0 rfl)
theorem dX6_holdsFewCells_21 : decode cX6_holdsFewCells 21 = .ok (.iload_n 1, 1) := do_27 (rdb (p := 0) (i := 21) ch_cX6_holdsFewCells_0 rfl)
theorem dX6_holdsFewCells_22 : decode cX6_holdsFewCells 22 = .ok (.aload_n 0, 1) := do_42 (rdb (p := 0) (i := 22) ch_cX6_holdsFewCells_0 rfl)
theorem dX6_holdsFewCells_23 : decode cX6_holdsFewCells 23 = .ok (.getfield 13, 3) := do_180 (rdb (p := 0) (i := 23) ch_cX6_holdsFewCells_0 rfl) (rdb (p := 0) (i := 24) ch_cX6_holdsFewCells_0 rfl) (rdb (p := 0) (i := 25) ch_cX6_holdsFewCells_0 rfl) rfl
theorem dX6_holdsFewCells_26 : decode cX6_holdsFewCells 26 = .ok (.if_icmp .ge 22, 3) := do_162 (rdb (p := 0) (i := 26) ch_cX6_holdsFewCells_0 rfl) (rdb (p := 0) (i := 27) ch_cX6_holdsFewCells_0 rfl) (rdb (p := 0) (i := 28) ch_cX6_holdsFewCells_0 rfl) (by decide +kernel)
theorem dX6_holdsFewCells_29 : decode cX6_holdsFewCells 29 = .ok (.aload_n 0, 1) := do_42 (rdb (p := 0) (i := 29) ch_cX6_holdsFewCells_0 rfl)
theorem dX6_holdsFewCells_30 : decode cX6_holdsFewCells 30 = .ok (.iload_n 1, 1) := do_27 (rdb (p := 0) (i := 30) ch_cX6_holdsFewCells_0 rfl)
theorem dX6_holdsFewCells_31 : decode cX6_holdsFewCells 31 = .ok (.invokevirtual 33, 3) := do_182 (rdb (p := 0) (i := 31) ch_cX6_holdsFewCells_0 rfl) (rdb (p := 0) (i := 32) ch_cX6_holdsFewCells_0 rfl) (rdb (p := 0) (i := 33) ch_cX6_holdsFewCells_0 rfl) rfl
theorem ch_cX6_holdsFewCells_32 : (cX6_holdsFewCells.data.toList.drop 32).take 36 = [0, 33, 184, 0, 37, 154, 0, 5, 3, 172, 132, 1, 1, 167, 255, 232, 4, 172] := by decide +kernel
theorem dX6_holdsFewCells_34 : decode cX6_holdsFewCells 34 = .ok (.invokestatic 37, 3) := do_184 (rdb (p := 32) (i := 2) ch_cX6_holdsFewCells_32 rfl) (rdb (p := 32) (i := 3) ch_cX6_holdsFewCells_32 rfl) (rdb (p := 32) (i := 4) ch_cX6_holdsFewCells_32 rfl) rfl
theorem dX6_holdsFewCells_37 : decode cX6_holdsFewCells 37 = .ok (.ifCond .ne 5, 3) := do_154 (rdb (p := 32) (i := 5) ch_cX6_holdsFewCells_32 rfl) (rdb (p := 32) (i := 6) ch_cX6_holdsFewCells_32 rfl) (rdb (p := 32) (i := 7) ch_cX6_holdsFewCells_32 rfl) (by decide +kernel)
theorem dX6_holdsFewCells_40 : decode cX6_holdsFewCells 40 = .ok (.iconst 0, 1) := do_3 (rdb (p := 32) (i := 8) ch_cX6_holdsFewCells_32 rfl)
theorem dX6_holdsFewCells_41 : decode cX6_holdsFewCells 41 = .ok (.ireturn, 1) := do_172 (rdb (p := 32) (i := 9) ch_cX6_holdsFewCells_32 rfl)
theorem dX6_holdsFewCells_42 : decode cX6_holdsFewCells 42 = .ok (.iinc 1 1, 3) := do_132 (rdb (p := 32) (i := 10) ch_cX6_holdsFewCells_32 rfl) (rdb (p := 32) (i := 11) ch_cX6_holdsFewCells_32 rfl) (rdb (p := 32) (i := 12) ch_cX6_holdsFewCells_32 rfl) (by decide +kernel)
theorem dX6_holdsFewCells_45 : decode cX6_holdsFewCells 45 = .ok (.goto (-24), 3) := do_167 (rdb (p := 32) (i := 13) ch_cX6_holdsFewCells_32 rfl) (rdb (p := 32) (i := 14) ch_cX6_holdsFewCells_32 rfl) (rdb (p := 32) (i := 15) ch_cX6_holdsFewCells_32 rfl) (by decide +kernel)
theorem dX6_holdsFewCells_48 : decode cX6_holdsFewCells 48 = .ok (.iconst 1, 1) := do_4 (rdb (p := 32) (i := 16) ch_cX6_holdsFewCells_32 rfl)
theorem dX6_holdsFewCells_49 : decode cX6_holdsFewCells 49 = .ok (.ireturn, 1) := do_172 (rdb (p := 32) (i := 17) ch_cX6_holdsFewCells_32 rfl)
theorem dX6_isMissing_0 : decode cX6_isMissing 0 = .ok (.aload_n 0, 1) := by decide +kernel
theorem dX6_isMissing_1 : decode cX6_isMissing 1 = .ok (.getfield 7, 3) := by decide +kernel
theorem dX6_isMissing_4 : decode cX6_isMissing 4 = .ok (.ifCond .ne 7, 3) := by decide +kernel
theorem dX6_isMissing_7 : decode cX6_isMissing 7 = .ok (.iconst 1, 1) := by decide +kernel
theorem dX6_isMissing_8 : decode cX6_isMissing 8 = .ok (.goto 4, 3) := by decide +kernel
theorem dX6_isMissing_11 : decode cX6_isMissing 11 = .ok (.iconst 0, 1) := by decide +kernel
theorem dX6_isMissing_12 : decode cX6_isMissing 12 = .ok (.ireturn, 1) := by decide +kernel
theorem dX6_numberAt_0 : decode cX6_numberAt 0 = .ok (.aload_n 0, 1) := by decide +kernel
theorem dX6_numberAt_1 : decode cX6_numberAt 1 = .ok (.iload_n 1, 1) := by decide +kernel
theorem dX6_numberAt_2 : decode cX6_numberAt 2 = .ok (.invokevirtual 29, 3) := by decide +kernel
theorem dX6_numberAt_5 : decode cX6_numberAt 5 = .ok (.ifCond .eq 12, 3) := by decide +kernel
theorem dX6_numberAt_8 : decode cX6_numberAt 8 = .ok (.aload_n 0, 1) := by decide +kernel
theorem dX6_numberAt_9 : decode cX6_numberAt 9 = .ok (.getfield 16, 3) := by decide +kernel
theorem dX6_numberAt_12 : decode cX6_numberAt 12 = .ok (.iload_n 1, 1) := by decide +kernel
theorem dX6_numberAt_13 : decode cX6_numberAt 13 = .ok (.iaload, 1) := by decide +kernel
theorem dX6_numberAt_14 : decode cX6_numberAt 14 = .ok (.goto 4, 3) := by decide +kernel
theorem dX6_numberAt_17 : decode cX6_numberAt 17 = .ok (.iconst 0, 1) := by decide +kernel
theorem dX6_numberAt_18 : decode cX6_numberAt 18 = .ok (.ireturn, 1) := by decide +kernel
theorem ch_cX6_store_0 : (cX6_store.data.toList.drop 0).take 36 = [42, 27, 182, 0, 29, 153, 0, 38, 42, 180, 0, 16, 27, 42, 180, 0, 7, 16, 8, 160, 0, 8, 28, 145, 167, 0, 18, 42, 180, 0, 7, 16, 16, 160, 0, 8] := by decide +kernel
theorem dX6_store_0 : decode cX6_store 0 = .ok (.aload_n 0, 1) := do_42 (rdb (p := 0) (i := 0) ch_cX6_store_0 rfl)
theorem dX6_store_1 : decode cX6_store 1 = .ok (.iload_n 1, 1) := do_27 (rdb (p := 0) (i := 1) ch_cX6_store_0 rfl)
theorem dX6_store_2 : decode cX6_store 2 = .ok (.invokevirtual 29, 3) := do_182 (rdb (p := 0) (i := 2) ch_cX6_store_0 rfl) (rdb (p := 0) (i := 3) ch_cX6_store_0 rfl) (rdb (p := 0) (i := 4) ch_cX6_store_0 rfl) rfl
theorem dX6_store_5 : decode cX6_store 5 = .ok (.ifCond .eq 38, 3) := do_153 (rdb (p := 0) (i := 5) ch_cX6_store_0 rfl) (rdb (p := 0) (i := 6) ch_cX6_store_0 rfl) (rdb (p := 0) (i := 7) ch_cX6_store_0 rfl) (by decide +kernel)
theorem dX6_store_8 : decode cX6_store 8 = .ok (.aload_n 0, 1) := do_42 (rdb (p := 0) (i := 8) ch_cX6_store_0 rfl)
theorem dX6_store_9 : decode cX6_store 9 = .ok (.getfield 16, 3) := do_180 (rdb (p := 0) (i := 9) ch_cX6_store_0 rfl) (rdb (p := 0) (i := 10) ch_cX6_store_0 rfl) (rdb (p := 0) (i := 11) ch_cX6_store_0 rfl) rfl
theorem dX6_store_12 : decode cX6_store 12 = .ok (.iload_n 1, 1) := do_27 (rdb (p := 0) (i := 12) ch_cX6_store_0 rfl)
theorem dX6_store_13 : decode cX6_store 13 = .ok (.aload_n 0, 1) := do_42 (rdb (p := 0) (i := 13) ch_cX6_store_0 rfl)
theorem dX6_store_14 : decode cX6_store 14 = .ok (.getfield 7, 3) := do_180 (rdb (p := 0) (i := 14) ch_cX6_store_0 rfl) (rdb (p := 0) (i := 15) ch_cX6_store_0 rfl) (rdb (p := 0) (i := 16) ch_cX6_store_0 rfl) rfl
theorem dX6_store_17 : decode cX6_store 17 = .ok (.bipush 8, 2) := do_16 (rdb (p := 0) (i := 17) ch_cX6_store_0 rfl) (rdb (p := 0) (i := 18) ch_cX6_store_0 rfl) (by decide +kernel)
theorem dX6_store_19 : decode cX6_store 19 = .ok (.if_icmp .ne 8, 3) := do_160 (rdb (p := 0) (i := 19) ch_cX6_store_0 rfl) (rdb (p := 0) (i := 20) ch_cX6_store_0 rfl) (rdb (p := 0) (i := 21) ch_cX6_store_0 rfl) (by decide +kernel)
theorem dX6_store_22 : decode cX6_store 22 = .ok (.iload_n 2, 1) := do_28 (rdb (p := 0) (i := 22) ch_cX6_store_0 rfl)
theorem dX6_store_23 : decode cX6_store 23 = .ok (.i2b, 1) := do_145 (rdb (p := 0) (i := 23) ch_cX6_store_0 rfl)
theorem dX6_store_24 : decode cX6_store 24 = .ok (.goto 18, 3) := do_167 (rdb (p := 0) (i := 24) ch_cX6_store_0 rfl) (rdb (p := 0) (i := 25) ch_cX6_store_0 rfl) (rdb (p := 0) (i := 26) ch_cX6_store_0 rfl) (by decide +kernel)
theorem dX6_store_27 : decode cX6_store 27 = .ok (.aload_n 0, 1) := do_42 (rdb (p := 0) (i := 27) ch_cX6_store_0 rfl)
theorem dX6_store_28 : decode cX6_store 28 = .ok (.getfield 7, 3) := do_180 (rdb (p := 0) (i := 28) ch_cX6_store_0 rfl) (rdb (p := 0) (i := 29) ch_cX6_store_0 rfl) (rdb (p := 0) (i := 30) ch_cX6_store_0 rfl) rfl
theorem dX6_store_31 : decode cX6_store 31 = .ok (.bipush 16, 2) := do_16 (rdb (p := 0) (i := 31) ch_cX6_store_0 rfl) (rdb (p := 0) (i := 32) ch_cX6_store_0 rfl) (by decide +kernel)
theorem ch_cX6_store_32 : (cX6_store.data.toList.drop 32).take 36 = [16, 160, 0, 8, 28, 147, 167, 0, 4, 28, 79, 177] := by decide +kernel
theorem dX6_store_33 : decode cX6_store 33 = .ok (.if_icmp .ne 8, 3) := do_160 (rdb (p := 32) (i := 1) ch_cX6_store_32 rfl) (rdb (p := 32) (i := 2) ch_cX6_store_32 rfl) (rdb (p := 32) (i := 3) ch_cX6_store_32 rfl) (by decide +kernel)
theorem dX6_store_36 : decode cX6_store 36 = .ok (.iload_n 2, 1) := do_28 (rdb (p := 32) (i := 4) ch_cX6_store_32 rfl)
theorem dX6_store_37 : decode cX6_store 37 = .ok (.i2s, 1) := do_147 (rdb (p := 32) (i := 5) ch_cX6_store_32 rfl)
theorem dX6_store_38 : decode cX6_store 38 = .ok (.goto 4, 3) := do_167 (rdb (p := 32) (i := 6) ch_cX6_store_32 rfl) (rdb (p := 32) (i := 7) ch_cX6_store_32 rfl) (rdb (p := 32) (i := 8) ch_cX6_store_32 rfl) (by decide +kernel)
theorem dX6_store_41 : decode cX6_store 41 = .ok (.iload_n 2, 1) := do_28 (rdb (p := 32) (i := 9) ch_cX6_store_32 rfl)
theorem dX6_store_42 : decode cX6_store 42 = .ok (.iastore, 1) := do_79 (rdb (p := 32) (i := 10) ch_cX6_store_32 rfl)
theorem dX6_store_43 : decode cX6_store 43 = .ok (.return_, 1) := do_177 (rdb (p := 32) (i := 11) ch_cX6_store_32 rfl)
theorem dX9_addNo_0 : decode cX9_addNo 0 = .ok (.iload_n 1, 1) := by decide +kernel
theorem dX9_addNo_1 : decode cX9_addNo 1 = .ok (.invokestatic 73, 3) := by decide +kernel
theorem dX9_addNo_4 : decode cX9_addNo 4 = .ok (.ifCond .eq 22, 3) := by decide +kernel
theorem dX9_addNo_7 : decode cX9_addNo 7 = .ok (.aload_n 0, 1) := by decide +kernel
theorem dX9_addNo_8 : decode cX9_addNo 8 = .ok (.getfield 44, 3) := by decide +kernel
theorem dX9_addNo_11 : decode cX9_addNo 11 = .ok (.iload_n 1, 1) := by decide +kernel
theorem dX9_addNo_12 : decode cX9_addNo 12 = .ok (.bipush 99, 2) := by decide +kernel
theorem dX9_addNo_14 : decode cX9_addNo 14 = .ok (.aload_n 0, 1) := by decide +kernel
theorem dX9_addNo_15 : decode cX9_addNo 15 = .ok (.getfield 44, 3) := by decide +kernel
theorem dX9_addNo_18 : decode cX9_addNo 18 = .ok (.iload_n 1, 1) := by decide +kernel
theorem dX9_addNo_19 : decode cX9_addNo 19 = .ok (.iaload, 1) := by decide +kernel
theorem dX9_addNo_20 : decode cX9_addNo 20 = .ok (.iconst 1, 1) := by decide +kernel
theorem dX9_addNo_21 : decode cX9_addNo 21 = .ok (.iadd, 1) := by decide +kernel
theorem dX9_addNo_22 : decode cX9_addNo 22 = .ok (.invokestatic 77, 3) := by decide +kernel
theorem dX9_addNo_25 : decode cX9_addNo 25 = .ok (.iastore, 1) := by decide +kernel
theorem dX9_addNo_26 : decode cX9_addNo 26 = .ok (.return_, 1) := by decide +kernel
theorem dX9_addYes_0 : decode cX9_addYes 0 = .ok (.iload_n 1, 1) := by decide +kernel
theorem dX9_addYes_1 : decode cX9_addYes 1 = .ok (.invokestatic 73, 3) := by decide +kernel
theorem dX9_addYes_4 : decode cX9_addYes 4 = .ok (.ifCond .eq 22, 3) := by decide +kernel
theorem dX9_addYes_7 : decode cX9_addYes 7 = .ok (.aload_n 0, 1) := by decide +kernel
theorem dX9_addYes_8 : decode cX9_addYes 8 = .ok (.getfield 40, 3) := by decide +kernel
theorem dX9_addYes_11 : decode cX9_addYes 11 = .ok (.iload_n 1, 1) := by decide +kernel
theorem dX9_addYes_12 : decode cX9_addYes 12 = .ok (.bipush 99, 2) := by decide +kernel
theorem dX9_addYes_14 : decode cX9_addYes 14 = .ok (.aload_n 0, 1) := by decide +kernel
theorem dX9_addYes_15 : decode cX9_addYes 15 = .ok (.getfield 40, 3) := by decide +kernel
theorem dX9_addYes_18 : decode cX9_addYes 18 = .ok (.iload_n 1, 1) := by decide +kernel
theorem dX9_addYes_19 : decode cX9_addYes 19 = .ok (.iaload, 1) := by decide +kernel
theorem dX9_addYes_20 : decode cX9_addYes 20 = .ok (.iload_n 2, 1) := by decide +kernel
theorem dX9_addYes_21 : decode cX9_addYes 21 = .ok (.iadd, 1) := by decide +kernel
theorem dX9_addYes_22 : decode cX9_addYes 22 = .ok (.invokestatic 77, 3) := by decide +kernel
theorem dX9_addYes_25 : decode cX9_addYes 25 = .ok (.iastore, 1) := by decide +kernel
theorem dX9_addYes_26 : decode cX9_addYes 26 = .ok (.return_, 1) := by decide +kernel
theorem ch_cX9_begin_0 : (cX9_begin.data.toList.drop 0).take 36 = [42, 27, 181, 0, 7, 42, 28, 181, 0, 13, 42, 29, 181, 0, 16, 42, 8, 181, 0, 19, 42, 16, 60, 181, 0, 22, 42, 3, 181, 0, 25, 42, 3, 181, 0, 28] := by decide +kernel
theorem dX9_begin_0 : decode cX9_begin 0 = .ok (.aload_n 0, 1) := do_42 (rdb (p := 0) (i := 0) ch_cX9_begin_0 rfl)
theorem dX9_begin_1 : decode cX9_begin 1 = .ok (.iload_n 1, 1) := do_27 (rdb (p := 0) (i := 1) ch_cX9_begin_0 rfl)
theorem dX9_begin_2 : decode cX9_begin 2 = .ok (.putfield 7, 3) := do_181 (rdb (p := 0) (i := 2) ch_cX9_begin_0 rfl) (rdb (p := 0) (i := 3) ch_cX9_begin_0 rfl) (rdb (p := 0) (i := 4) ch_cX9_begin_0 rfl) rfl
theorem dX9_begin_5 : decode cX9_begin 5 = .ok (.aload_n 0, 1) := do_42 (rdb (p := 0) (i := 5) ch_cX9_begin_0 rfl)
theorem dX9_begin_6 : decode cX9_begin 6 = .ok (.iload_n 2, 1) := do_28 (rdb (p := 0) (i := 6) ch_cX9_begin_0 rfl)
theorem dX9_begin_7 : decode cX9_begin 7 = .ok (.putfield 13, 3) := do_181 (rdb (p := 0) (i := 7) ch_cX9_begin_0 rfl) (rdb (p := 0) (i := 8) ch_cX9_begin_0 rfl) (rdb (p := 0) (i := 9) ch_cX9_begin_0 rfl) rfl
theorem dX9_begin_10 : decode cX9_begin 10 = .ok (.aload_n 0, 1) := do_42 (rdb (p := 0) (i := 10) ch_cX9_begin_0 rfl)
theorem dX9_begin_11 : decode cX9_begin 11 = .ok (.iload_n 3, 1) := do_29 (rdb (p := 0) (i := 11) ch_cX9_begin_0 rfl)
theorem dX9_begin_12 : decode cX9_begin 12 = .ok (.putfield 16, 3) := do_181 (rdb (p := 0) (i := 12) ch_cX9_begin_0 rfl) (rdb (p := 0) (i := 13) ch_cX9_begin_0 rfl) (rdb (p := 0) (i := 14) ch_cX9_begin_0 rfl) rfl
theorem dX9_begin_15 : decode cX9_begin 15 = .ok (.aload_n 0, 1) := do_42 (rdb (p := 0) (i := 15) ch_cX9_begin_0 rfl)
theorem dX9_begin_16 : decode cX9_begin 16 = .ok (.iconst 5, 1) := do_8 (rdb (p := 0) (i := 16) ch_cX9_begin_0 rfl)
theorem dX9_begin_17 : decode cX9_begin 17 = .ok (.putfield 19, 3) := do_181 (rdb (p := 0) (i := 17) ch_cX9_begin_0 rfl) (rdb (p := 0) (i := 18) ch_cX9_begin_0 rfl) (rdb (p := 0) (i := 19) ch_cX9_begin_0 rfl) rfl
theorem dX9_begin_20 : decode cX9_begin 20 = .ok (.aload_n 0, 1) := do_42 (rdb (p := 0) (i := 20) ch_cX9_begin_0 rfl)
theorem dX9_begin_21 : decode cX9_begin 21 = .ok (.bipush 60, 2) := do_16 (rdb (p := 0) (i := 21) ch_cX9_begin_0 rfl) (rdb (p := 0) (i := 22) ch_cX9_begin_0 rfl) (by decide +kernel)
theorem dX9_begin_23 : decode cX9_begin 23 = .ok (.putfield 22, 3) := do_181 (rdb (p := 0) (i := 23) ch_cX9_begin_0 rfl) (rdb (p := 0) (i := 24) ch_cX9_begin_0 rfl) (rdb (p := 0) (i := 25) ch_cX9_begin_0 rfl) rfl
theorem dX9_begin_26 : decode cX9_begin 26 = .ok (.aload_n 0, 1) := do_42 (rdb (p := 0) (i := 26) ch_cX9_begin_0 rfl)
theorem dX9_begin_27 : decode cX9_begin 27 = .ok (.iconst 0, 1) := do_3 (rdb (p := 0) (i := 27) ch_cX9_begin_0 rfl)
theorem dX9_begin_28 : decode cX9_begin 28 = .ok (.putfield 25, 3) := do_181 (rdb (p := 0) (i := 28) ch_cX9_begin_0 rfl) (rdb (p := 0) (i := 29) ch_cX9_begin_0 rfl) (rdb (p := 0) (i := 30) ch_cX9_begin_0 rfl) rfl
theorem dX9_begin_31 : decode cX9_begin 31 = .ok (.aload_n 0, 1) := do_42 (rdb (p := 0) (i := 31) ch_cX9_begin_0 rfl)
theorem ch_cX9_begin_32 : (cX9_begin.data.toList.drop 32).take 36 = [3, 181, 0, 28, 42, 3, 181, 0, 32, 42, 3, 181, 0, 35, 3, 54, 4, 21, 4, 17, 0, 192, 162, 0, 25, 42, 180, 0, 40, 21, 4, 3, 79, 42, 180, 0] := by decide +kernel
theorem dX9_begin_32 : decode cX9_begin 32 = .ok (.iconst 0, 1) := do_3 (rdb (p := 32) (i := 0) ch_cX9_begin_32 rfl)
theorem dX9_begin_33 : decode cX9_begin 33 = .ok (.putfield 28, 3) := do_181 (rdb (p := 32) (i := 1) ch_cX9_begin_32 rfl) (rdb (p := 32) (i := 2) ch_cX9_begin_32 rfl) (rdb (p := 32) (i := 3) ch_cX9_begin_32 rfl) rfl
theorem dX9_begin_36 : decode cX9_begin 36 = .ok (.aload_n 0, 1) := do_42 (rdb (p := 32) (i := 4) ch_cX9_begin_32 rfl)
theorem dX9_begin_37 : decode cX9_begin 37 = .ok (.iconst 0, 1) := do_3 (rdb (p := 32) (i := 5) ch_cX9_begin_32 rfl)
theorem dX9_begin_38 : decode cX9_begin 38 = .ok (.putfield 32, 3) := do_181 (rdb (p := 32) (i := 6) ch_cX9_begin_32 rfl) (rdb (p := 32) (i := 7) ch_cX9_begin_32 rfl) (rdb (p := 32) (i := 8) ch_cX9_begin_32 rfl) rfl
theorem dX9_begin_41 : decode cX9_begin 41 = .ok (.aload_n 0, 1) := do_42 (rdb (p := 32) (i := 9) ch_cX9_begin_32 rfl)
theorem dX9_begin_42 : decode cX9_begin 42 = .ok (.iconst 0, 1) := do_3 (rdb (p := 32) (i := 10) ch_cX9_begin_32 rfl)
theorem dX9_begin_43 : decode cX9_begin 43 = .ok (.putfield 35, 3) := do_181 (rdb (p := 32) (i := 11) ch_cX9_begin_32 rfl) (rdb (p := 32) (i := 12) ch_cX9_begin_32 rfl) (rdb (p := 32) (i := 13) ch_cX9_begin_32 rfl) rfl
theorem dX9_begin_46 : decode cX9_begin 46 = .ok (.iconst 0, 1) := do_3 (rdb (p := 32) (i := 14) ch_cX9_begin_32 rfl)
theorem dX9_begin_47 : decode cX9_begin 47 = .ok (.istore 4, 2) := do_54 (rdb (p := 32) (i := 15) ch_cX9_begin_32 rfl) (rdb (p := 32) (i := 16) ch_cX9_begin_32 rfl)
theorem dX9_begin_49 : decode cX9_begin 49 = .ok (.iload 4, 2) := do_21 (rdb (p := 32) (i := 17) ch_cX9_begin_32 rfl) (rdb (p := 32) (i := 18) ch_cX9_begin_32 rfl)
theorem dX9_begin_51 : decode cX9_begin 51 = .ok (.sipush 192, 3) := do_17 (rdb (p := 32) (i := 19) ch_cX9_begin_32 rfl) (rdb (p := 32) (i := 20) ch_cX9_begin_32 rfl) (rdb (p := 32) (i := 21) ch_cX9_begin_32 rfl) (by decide +kernel)
theorem dX9_begin_54 : decode cX9_begin 54 = .ok (.if_icmp .ge 25, 3) := do_162 (rdb (p := 32) (i := 22) ch_cX9_begin_32 rfl) (rdb (p := 32) (i := 23) ch_cX9_begin_32 rfl) (rdb (p := 32) (i := 24) ch_cX9_begin_32 rfl) (by decide +kernel)
theorem dX9_begin_57 : decode cX9_begin 57 = .ok (.aload_n 0, 1) := do_42 (rdb (p := 32) (i := 25) ch_cX9_begin_32 rfl)
theorem dX9_begin_58 : decode cX9_begin 58 = .ok (.getfield 40, 3) := do_180 (rdb (p := 32) (i := 26) ch_cX9_begin_32 rfl) (rdb (p := 32) (i := 27) ch_cX9_begin_32 rfl) (rdb (p := 32) (i := 28) ch_cX9_begin_32 rfl) rfl
theorem dX9_begin_61 : decode cX9_begin 61 = .ok (.iload 4, 2) := do_21 (rdb (p := 32) (i := 29) ch_cX9_begin_32 rfl) (rdb (p := 32) (i := 30) ch_cX9_begin_32 rfl)
theorem dX9_begin_63 : decode cX9_begin 63 = .ok (.iconst 0, 1) := do_3 (rdb (p := 32) (i := 31) ch_cX9_begin_32 rfl)
theorem ch_cX9_begin_64 : (cX9_begin.data.toList.drop 64).take 36 = [79, 42, 180, 0, 44, 21, 4, 3, 79, 132, 4, 1, 167, 255, 229, 177] := by decide +kernel
theorem dX9_begin_64 : decode cX9_begin 64 = .ok (.iastore, 1) := do_79 (rdb (p := 64) (i := 0) ch_cX9_begin_64 rfl)
theorem dX9_begin_65 : decode cX9_begin 65 = .ok (.aload_n 0, 1) := do_42 (rdb (p := 64) (i := 1) ch_cX9_begin_64 rfl)
theorem dX9_begin_66 : decode cX9_begin 66 = .ok (.getfield 44, 3) := do_180 (rdb (p := 64) (i := 2) ch_cX9_begin_64 rfl) (rdb (p := 64) (i := 3) ch_cX9_begin_64 rfl) (rdb (p := 64) (i := 4) ch_cX9_begin_64 rfl) rfl
theorem dX9_begin_69 : decode cX9_begin 69 = .ok (.iload 4, 2) := do_21 (rdb (p := 64) (i := 5) ch_cX9_begin_64 rfl) (rdb (p := 64) (i := 6) ch_cX9_begin_64 rfl)
theorem dX9_begin_71 : decode cX9_begin 71 = .ok (.iconst 0, 1) := do_3 (rdb (p := 64) (i := 7) ch_cX9_begin_64 rfl)
theorem dX9_begin_72 : decode cX9_begin 72 = .ok (.iastore, 1) := do_79 (rdb (p := 64) (i := 8) ch_cX9_begin_64 rfl)
theorem dX9_begin_73 : decode cX9_begin 73 = .ok (.iinc 4 1, 3) := do_132 (rdb (p := 64) (i := 9) ch_cX9_begin_64 rfl) (rdb (p := 64) (i := 10) ch_cX9_begin_64 rfl) (rdb (p := 64) (i := 11) ch_cX9_begin_64 rfl) (by decide +kernel)
theorem dX9_begin_76 : decode cX9_begin 76 = .ok (.goto (-27), 3) := do_167 (rdb (p := 64) (i := 12) ch_cX9_begin_64 rfl) (rdb (p := 64) (i := 13) ch_cX9_begin_64 rfl) (rdb (p := 64) (i := 14) ch_cX9_begin_64 rfl) (by decide +kernel)
theorem dX9_begin_79 : decode cX9_begin 79 = .ok (.return_, 1) := do_177 (rdb (p := 64) (i := 15) ch_cX9_begin_64 rfl)
theorem dX9_canLearn_0 : decode cX9_canLearn 0 = .ok (.iload_n 1, 1) := by decide +kernel
theorem dX9_canLearn_1 : decode cX9_canLearn 1 = .ok (.invokestatic 73, 3) := by decide +kernel
theorem dX9_canLearn_4 : decode cX9_canLearn 4 = .ok (.ifCond .eq 33, 3) := by decide +kernel
theorem dX9_canLearn_7 : decode cX9_canLearn 7 = .ok (.aload_n 0, 1) := by decide +kernel
theorem dX9_canLearn_8 : decode cX9_canLearn 8 = .ok (.getfield 40, 3) := by decide +kernel
theorem dX9_canLearn_11 : decode cX9_canLearn 11 = .ok (.iload_n 1, 1) := by decide +kernel
theorem dX9_canLearn_12 : decode cX9_canLearn 12 = .ok (.iaload, 1) := by decide +kernel
theorem dX9_canLearn_13 : decode cX9_canLearn 13 = .ok (.aload_n 0, 1) := by decide +kernel
theorem dX9_canLearn_14 : decode cX9_canLearn 14 = .ok (.getfield 44, 3) := by decide +kernel
theorem dX9_canLearn_17 : decode cX9_canLearn 17 = .ok (.iload_n 1, 1) := by decide +kernel
theorem dX9_canLearn_18 : decode cX9_canLearn 18 = .ok (.iaload, 1) := by decide +kernel
theorem dX9_canLearn_19 : decode cX9_canLearn 19 = .ok (.if_icmp .ne 18, 3) := by decide +kernel
theorem dX9_canLearn_22 : decode cX9_canLearn 22 = .ok (.aload_n 0, 1) := by decide +kernel
theorem dX9_canLearn_23 : decode cX9_canLearn 23 = .ok (.getfield 40, 3) := by decide +kernel
theorem dX9_canLearn_26 : decode cX9_canLearn 26 = .ok (.iload_n 1, 1) := by decide +kernel
theorem dX9_canLearn_27 : decode cX9_canLearn 27 = .ok (.iaload, 1) := by decide +kernel
theorem dX9_canLearn_28 : decode cX9_canLearn 28 = .ok (.bipush 99, 2) := by decide +kernel
theorem dX9_canLearn_30 : decode cX9_canLearn 30 = .ok (.if_icmp .ge 7, 3) := by decide +kernel
theorem dX9_canLearn_33 : decode cX9_canLearn 33 = .ok (.iconst 1, 1) := by decide +kernel
theorem dX9_canLearn_34 : decode cX9_canLearn 34 = .ok (.goto 4, 3) := by decide +kernel
theorem dX9_canLearn_37 : decode cX9_canLearn 37 = .ok (.iconst 0, 1) := by decide +kernel
theorem dX9_canLearn_38 : decode cX9_canLearn 38 = .ok (.ireturn, 1) := by decide +kernel
theorem dX9_countHeld_0 : decode cX9_countHeld 0 = .ok (.iconst 0, 1) := by decide +kernel
theorem dX9_countHeld_1 : decode cX9_countHeld 1 = .ok (.istore_n 2, 1) := by decide +kernel
theorem dX9_countHeld_2 : decode cX9_countHeld 2 = .ok (.iconst 0, 1) := by decide +kernel
theorem dX9_countHeld_3 : decode cX9_countHeld 3 = .ok (.istore_n 3, 1) := by decide +kernel
theorem dX9_countHeld_4 : decode cX9_countHeld 4 = .ok (.iload_n 3, 1) := by decide +kernel
theorem dX9_countHeld_5 : decode cX9_countHeld 5 = .ok (.sipush 192, 3) := by decide +kernel
theorem dX9_countHeld_8 : decode cX9_countHeld 8 = .ok (.if_icmp .ge 21, 3) := by decide +kernel
theorem dX9_countHeld_11 : decode cX9_countHeld 11 = .ok (.aload_n 0, 1) := by decide +kernel
theorem dX9_countHeld_12 : decode cX9_countHeld 12 = .ok (.iload_n 3, 1) := by decide +kernel
theorem dX9_countHeld_13 : decode cX9_countHeld 13 = .ok (.invokevirtual 83, 3) := by decide +kernel
theorem dX9_countHeld_16 : decode cX9_countHeld 16 = .ok (.iload_n 1, 1) := by decide +kernel
theorem dX9_countHeld_17 : decode cX9_countHeld 17 = .ok (.if_icmp .ne 6, 3) := by decide +kernel
theorem dX9_countHeld_20 : decode cX9_countHeld 20 = .ok (.iinc 2 1, 3) := by decide +kernel
theorem dX9_countHeld_23 : decode cX9_countHeld 23 = .ok (.iinc 3 1, 3) := by decide +kernel
theorem dX9_countHeld_26 : decode cX9_countHeld 26 = .ok (.goto (-22), 3) := by decide +kernel
theorem dX9_countHeld_29 : decode cX9_countHeld 29 = .ok (.iload_n 2, 1) := by decide +kernel
theorem dX9_countHeld_30 : decode cX9_countHeld 30 = .ok (.ireturn, 1) := by decide +kernel
theorem dX9_ears_0 : decode cX9_ears 0 = .ok (.aload_n 0, 1) := by decide +kernel
theorem dX9_ears_1 : decode cX9_ears 1 = .ok (.getfield 7, 3) := by decide +kernel
theorem dX9_ears_4 : decode cX9_ears 4 = .ok (.ifCond .lt 23, 3) := by decide +kernel
theorem dX9_ears_7 : decode cX9_ears 7 = .ok (.aload_n 0, 1) := by decide +kernel
theorem dX9_ears_8 : decode cX9_ears 8 = .ok (.getfield 7, 3) := by decide +kernel
theorem dX9_ears_11 : decode cX9_ears 11 = .ok (.bipush 8, 2) := by decide +kernel
theorem dX9_ears_13 : decode cX9_ears 13 = .ok (.if_icmp .ge 14, 3) := by decide +kernel
theorem dX9_ears_16 : decode cX9_ears 16 = .ok (.getstatic 60, 3) := by decide +kernel
theorem dX9_ears_19 : decode cX9_ears 19 = .ok (.aload_n 0, 1) := by decide +kernel
theorem dX9_ears_20 : decode cX9_ears 20 = .ok (.getfield 7, 3) := by decide +kernel
theorem dX9_ears_23 : decode cX9_ears 23 = .ok (.iaload, 1) := by decide +kernel
theorem dX9_ears_24 : decode cX9_ears 24 = .ok (.goto 4, 3) := by decide +kernel
theorem dX9_ears_27 : decode cX9_ears 27 = .ok (.iconst 0, 1) := by decide +kernel
theorem dX9_ears_28 : decode cX9_ears 28 = .ok (.ireturn, 1) := by decide +kernel
theorem ch_cX9_factOf_0 : (cX9_factOf.data.toList.drop 0).take 36 = [27, 170, 0, 0, 0, 0, 0, 122, 0, 0, 0, 0, 0, 0, 0, 10, 0, 0, 0, 59, 0, 0, 0, 64, 0, 0, 0, 69, 0, 0, 0, 74, 0, 0, 0, 79] := by decide +kernel
theorem dX9_factOf_0 : decode cX9_factOf 0 = .ok (.iload_n 1, 1) := do_27 (rdb (p := 0) (i := 0) ch_cX9_factOf_0 rfl)
theorem dX9_factOf_1 : decode cX9_factOf 1 = .ok (.tableswitch 122 0 10 #[59, 64, 69, 74, 79, 84, 89, 102, 107, 112, 117], 59) := by decide +kernel
theorem ch_cX9_factOf_32 : (cX9_factOf.data.toList.drop 32).take 36 = [0, 0, 0, 79, 0, 0, 0, 84, 0, 0, 0, 89, 0, 0, 0, 102, 0, 0, 0, 107, 0, 0, 0, 112, 0, 0, 0, 117, 42, 180, 0, 7, 172, 42, 180, 0] := by decide +kernel
theorem dX9_factOf_60 : decode cX9_factOf 60 = .ok (.aload_n 0, 1) := do_42 (rdb (p := 32) (i := 28) ch_cX9_factOf_32 rfl)
theorem dX9_factOf_61 : decode cX9_factOf 61 = .ok (.getfield 7, 3) := do_180 (rdb (p := 32) (i := 29) ch_cX9_factOf_32 rfl) (rdb (p := 32) (i := 30) ch_cX9_factOf_32 rfl) (rdb (p := 32) (i := 31) ch_cX9_factOf_32 rfl) rfl
theorem ch_cX9_factOf_64 : (cX9_factOf.data.toList.drop 64).take 36 = [172, 42, 180, 0, 13, 172, 42, 180, 0, 16, 172, 42, 180, 0, 19, 172, 42, 180, 0, 22, 172, 42, 180, 0, 25, 172, 42, 180, 0, 28, 153, 0, 7, 4, 167, 0] := by decide +kernel
theorem dX9_factOf_64 : decode cX9_factOf 64 = .ok (.ireturn, 1) := do_172 (rdb (p := 64) (i := 0) ch_cX9_factOf_64 rfl)
theorem dX9_factOf_65 : decode cX9_factOf 65 = .ok (.aload_n 0, 1) := do_42 (rdb (p := 64) (i := 1) ch_cX9_factOf_64 rfl)
theorem dX9_factOf_66 : decode cX9_factOf 66 = .ok (.getfield 13, 3) := do_180 (rdb (p := 64) (i := 2) ch_cX9_factOf_64 rfl) (rdb (p := 64) (i := 3) ch_cX9_factOf_64 rfl) (rdb (p := 64) (i := 4) ch_cX9_factOf_64 rfl) rfl
theorem dX9_factOf_69 : decode cX9_factOf 69 = .ok (.ireturn, 1) := do_172 (rdb (p := 64) (i := 5) ch_cX9_factOf_64 rfl)
theorem dX9_factOf_70 : decode cX9_factOf 70 = .ok (.aload_n 0, 1) := do_42 (rdb (p := 64) (i := 6) ch_cX9_factOf_64 rfl)
theorem dX9_factOf_71 : decode cX9_factOf 71 = .ok (.getfield 16, 3) := do_180 (rdb (p := 64) (i := 7) ch_cX9_factOf_64 rfl) (rdb (p := 64) (i := 8) ch_cX9_factOf_64 rfl) (rdb (p := 64) (i := 9) ch_cX9_factOf_64 rfl) rfl
theorem dX9_factOf_74 : decode cX9_factOf 74 = .ok (.ireturn, 1) := do_172 (rdb (p := 64) (i := 10) ch_cX9_factOf_64 rfl)
theorem dX9_factOf_75 : decode cX9_factOf 75 = .ok (.aload_n 0, 1) := do_42 (rdb (p := 64) (i := 11) ch_cX9_factOf_64 rfl)
theorem dX9_factOf_76 : decode cX9_factOf 76 = .ok (.getfield 19, 3) := do_180 (rdb (p := 64) (i := 12) ch_cX9_factOf_64 rfl) (rdb (p := 64) (i := 13) ch_cX9_factOf_64 rfl) (rdb (p := 64) (i := 14) ch_cX9_factOf_64 rfl) rfl
theorem dX9_factOf_79 : decode cX9_factOf 79 = .ok (.ireturn, 1) := do_172 (rdb (p := 64) (i := 15) ch_cX9_factOf_64 rfl)
theorem dX9_factOf_80 : decode cX9_factOf 80 = .ok (.aload_n 0, 1) := do_42 (rdb (p := 64) (i := 16) ch_cX9_factOf_64 rfl)
theorem dX9_factOf_81 : decode cX9_factOf 81 = .ok (.getfield 22, 3) := do_180 (rdb (p := 64) (i := 17) ch_cX9_factOf_64 rfl) (rdb (p := 64) (i := 18) ch_cX9_factOf_64 rfl) (rdb (p := 64) (i := 19) ch_cX9_factOf_64 rfl) rfl
theorem dX9_factOf_84 : decode cX9_factOf 84 = .ok (.ireturn, 1) := do_172 (rdb (p := 64) (i := 20) ch_cX9_factOf_64 rfl)
theorem dX9_factOf_85 : decode cX9_factOf 85 = .ok (.aload_n 0, 1) := do_42 (rdb (p := 64) (i := 21) ch_cX9_factOf_64 rfl)
theorem dX9_factOf_86 : decode cX9_factOf 86 = .ok (.getfield 25, 3) := do_180 (rdb (p := 64) (i := 22) ch_cX9_factOf_64 rfl) (rdb (p := 64) (i := 23) ch_cX9_factOf_64 rfl) (rdb (p := 64) (i := 24) ch_cX9_factOf_64 rfl) rfl
theorem dX9_factOf_89 : decode cX9_factOf 89 = .ok (.ireturn, 1) := do_172 (rdb (p := 64) (i := 25) ch_cX9_factOf_64 rfl)
theorem dX9_factOf_90 : decode cX9_factOf 90 = .ok (.aload_n 0, 1) := do_42 (rdb (p := 64) (i := 26) ch_cX9_factOf_64 rfl)
theorem dX9_factOf_91 : decode cX9_factOf 91 = .ok (.getfield 28, 3) := do_180 (rdb (p := 64) (i := 27) ch_cX9_factOf_64 rfl) (rdb (p := 64) (i := 28) ch_cX9_factOf_64 rfl) (rdb (p := 64) (i := 29) ch_cX9_factOf_64 rfl) rfl
theorem dX9_factOf_94 : decode cX9_factOf 94 = .ok (.ifCond .eq 7, 3) := do_153 (rdb (p := 64) (i := 30) ch_cX9_factOf_64 rfl) (rdb (p := 64) (i := 31) ch_cX9_factOf_64 rfl) (rdb (p := 64) (i := 32) ch_cX9_factOf_64 rfl) (by decide +kernel)
theorem ch_cX9_factOf_96 : (cX9_factOf.data.toList.drop 96).take 36 = [7, 4, 167, 0, 4, 3, 172, 42, 180, 0, 32, 172, 42, 180, 0, 35, 172, 42, 182, 0, 63, 172, 42, 182, 0, 67, 172, 42, 182, 0, 70, 172] := by decide +kernel
theorem dX9_factOf_97 : decode cX9_factOf 97 = .ok (.iconst 1, 1) := do_4 (rdb (p := 96) (i := 1) ch_cX9_factOf_96 rfl)
theorem dX9_factOf_98 : decode cX9_factOf 98 = .ok (.goto 4, 3) := do_167 (rdb (p := 96) (i := 2) ch_cX9_factOf_96 rfl) (rdb (p := 96) (i := 3) ch_cX9_factOf_96 rfl) (rdb (p := 96) (i := 4) ch_cX9_factOf_96 rfl) (by decide +kernel)
theorem dX9_factOf_101 : decode cX9_factOf 101 = .ok (.iconst 0, 1) := do_3 (rdb (p := 96) (i := 5) ch_cX9_factOf_96 rfl)
theorem dX9_factOf_102 : decode cX9_factOf 102 = .ok (.ireturn, 1) := do_172 (rdb (p := 96) (i := 6) ch_cX9_factOf_96 rfl)
theorem dX9_factOf_103 : decode cX9_factOf 103 = .ok (.aload_n 0, 1) := do_42 (rdb (p := 96) (i := 7) ch_cX9_factOf_96 rfl)
theorem dX9_factOf_104 : decode cX9_factOf 104 = .ok (.getfield 32, 3) := do_180 (rdb (p := 96) (i := 8) ch_cX9_factOf_96 rfl) (rdb (p := 96) (i := 9) ch_cX9_factOf_96 rfl) (rdb (p := 96) (i := 10) ch_cX9_factOf_96 rfl) rfl
theorem dX9_factOf_107 : decode cX9_factOf 107 = .ok (.ireturn, 1) := do_172 (rdb (p := 96) (i := 11) ch_cX9_factOf_96 rfl)
theorem dX9_factOf_108 : decode cX9_factOf 108 = .ok (.aload_n 0, 1) := do_42 (rdb (p := 96) (i := 12) ch_cX9_factOf_96 rfl)
theorem dX9_factOf_109 : decode cX9_factOf 109 = .ok (.getfield 35, 3) := do_180 (rdb (p := 96) (i := 13) ch_cX9_factOf_96 rfl) (rdb (p := 96) (i := 14) ch_cX9_factOf_96 rfl) (rdb (p := 96) (i := 15) ch_cX9_factOf_96 rfl) rfl
theorem dX9_factOf_112 : decode cX9_factOf 112 = .ok (.ireturn, 1) := do_172 (rdb (p := 96) (i := 16) ch_cX9_factOf_96 rfl)
theorem dX9_factOf_113 : decode cX9_factOf 113 = .ok (.aload_n 0, 1) := do_42 (rdb (p := 96) (i := 17) ch_cX9_factOf_96 rfl)
theorem dX9_factOf_114 : decode cX9_factOf 114 = .ok (.invokevirtual 63, 3) := do_182 (rdb (p := 96) (i := 18) ch_cX9_factOf_96 rfl) (rdb (p := 96) (i := 19) ch_cX9_factOf_96 rfl) (rdb (p := 96) (i := 20) ch_cX9_factOf_96 rfl) rfl
theorem dX9_factOf_117 : decode cX9_factOf 117 = .ok (.ireturn, 1) := do_172 (rdb (p := 96) (i := 21) ch_cX9_factOf_96 rfl)
theorem dX9_factOf_118 : decode cX9_factOf 118 = .ok (.aload_n 0, 1) := do_42 (rdb (p := 96) (i := 22) ch_cX9_factOf_96 rfl)
theorem dX9_factOf_119 : decode cX9_factOf 119 = .ok (.invokevirtual 67, 3) := do_182 (rdb (p := 96) (i := 23) ch_cX9_factOf_96 rfl) (rdb (p := 96) (i := 24) ch_cX9_factOf_96 rfl) (rdb (p := 96) (i := 25) ch_cX9_factOf_96 rfl) rfl
theorem dX9_factOf_122 : decode cX9_factOf 122 = .ok (.ireturn, 1) := do_172 (rdb (p := 96) (i := 26) ch_cX9_factOf_96 rfl)
theorem dX9_factOf_123 : decode cX9_factOf 123 = .ok (.aload_n 0, 1) := do_42 (rdb (p := 96) (i := 27) ch_cX9_factOf_96 rfl)
theorem dX9_factOf_124 : decode cX9_factOf 124 = .ok (.invokevirtual 70, 3) := do_182 (rdb (p := 96) (i := 28) ch_cX9_factOf_96 rfl) (rdb (p := 96) (i := 29) ch_cX9_factOf_96 rfl) (rdb (p := 96) (i := 30) ch_cX9_factOf_96 rfl) rfl
theorem dX9_factOf_127 : decode cX9_factOf 127 = .ok (.ireturn, 1) := do_172 (rdb (p := 96) (i := 31) ch_cX9_factOf_96 rfl)
theorem ch_cX9_held_0 : (cX9_held.data.toList.drop 0).take 36 = [27, 184, 0, 73, 153, 0, 18, 42, 180, 0, 40, 27, 46, 42, 180, 0, 44, 27, 46, 160, 0, 5, 3, 172, 42, 180, 0, 40, 27, 46, 42, 180, 0, 44, 27, 46] := by decide +kernel
theorem dX9_held_0 : decode cX9_held 0 = .ok (.iload_n 1, 1) := do_27 (rdb (p := 0) (i := 0) ch_cX9_held_0 rfl)
theorem dX9_held_1 : decode cX9_held 1 = .ok (.invokestatic 73, 3) := do_184 (rdb (p := 0) (i := 1) ch_cX9_held_0 rfl) (rdb (p := 0) (i := 2) ch_cX9_held_0 rfl) (rdb (p := 0) (i := 3) ch_cX9_held_0 rfl) rfl
theorem dX9_held_4 : decode cX9_held 4 = .ok (.ifCond .eq 18, 3) := do_153 (rdb (p := 0) (i := 4) ch_cX9_held_0 rfl) (rdb (p := 0) (i := 5) ch_cX9_held_0 rfl) (rdb (p := 0) (i := 6) ch_cX9_held_0 rfl) (by decide +kernel)
theorem dX9_held_7 : decode cX9_held 7 = .ok (.aload_n 0, 1) := do_42 (rdb (p := 0) (i := 7) ch_cX9_held_0 rfl)
theorem dX9_held_8 : decode cX9_held 8 = .ok (.getfield 40, 3) := do_180 (rdb (p := 0) (i := 8) ch_cX9_held_0 rfl) (rdb (p := 0) (i := 9) ch_cX9_held_0 rfl) (rdb (p := 0) (i := 10) ch_cX9_held_0 rfl) rfl
theorem dX9_held_11 : decode cX9_held 11 = .ok (.iload_n 1, 1) := do_27 (rdb (p := 0) (i := 11) ch_cX9_held_0 rfl)
theorem dX9_held_12 : decode cX9_held 12 = .ok (.iaload, 1) := do_46 (rdb (p := 0) (i := 12) ch_cX9_held_0 rfl)
theorem dX9_held_13 : decode cX9_held 13 = .ok (.aload_n 0, 1) := do_42 (rdb (p := 0) (i := 13) ch_cX9_held_0 rfl)
theorem dX9_held_14 : decode cX9_held 14 = .ok (.getfield 44, 3) := do_180 (rdb (p := 0) (i := 14) ch_cX9_held_0 rfl) (rdb (p := 0) (i := 15) ch_cX9_held_0 rfl) (rdb (p := 0) (i := 16) ch_cX9_held_0 rfl) rfl
theorem dX9_held_17 : decode cX9_held 17 = .ok (.iload_n 1, 1) := do_27 (rdb (p := 0) (i := 17) ch_cX9_held_0 rfl)
theorem dX9_held_18 : decode cX9_held 18 = .ok (.iaload, 1) := do_46 (rdb (p := 0) (i := 18) ch_cX9_held_0 rfl)
theorem dX9_held_19 : decode cX9_held 19 = .ok (.if_icmp .ne 5, 3) := do_160 (rdb (p := 0) (i := 19) ch_cX9_held_0 rfl) (rdb (p := 0) (i := 20) ch_cX9_held_0 rfl) (rdb (p := 0) (i := 21) ch_cX9_held_0 rfl) (by decide +kernel)
theorem dX9_held_22 : decode cX9_held 22 = .ok (.iconst 0, 1) := do_3 (rdb (p := 0) (i := 22) ch_cX9_held_0 rfl)
theorem dX9_held_23 : decode cX9_held 23 = .ok (.ireturn, 1) := do_172 (rdb (p := 0) (i := 23) ch_cX9_held_0 rfl)
theorem dX9_held_24 : decode cX9_held 24 = .ok (.aload_n 0, 1) := do_42 (rdb (p := 0) (i := 24) ch_cX9_held_0 rfl)
theorem dX9_held_25 : decode cX9_held 25 = .ok (.getfield 40, 3) := do_180 (rdb (p := 0) (i := 25) ch_cX9_held_0 rfl) (rdb (p := 0) (i := 26) ch_cX9_held_0 rfl) (rdb (p := 0) (i := 27) ch_cX9_held_0 rfl) rfl
theorem dX9_held_28 : decode cX9_held 28 = .ok (.iload_n 1, 1) := do_27 (rdb (p := 0) (i := 28) ch_cX9_held_0 rfl)
theorem dX9_held_29 : decode cX9_held 29 = .ok (.iaload, 1) := do_46 (rdb (p := 0) (i := 29) ch_cX9_held_0 rfl)
theorem dX9_held_30 : decode cX9_held 30 = .ok (.aload_n 0, 1) := do_42 (rdb (p := 0) (i := 30) ch_cX9_held_0 rfl)
theorem dX9_held_31 : decode cX9_held 31 = .ok (.getfield 44, 3) := do_180 (rdb (p := 0) (i := 31) ch_cX9_held_0 rfl) (rdb (p := 0) (i := 32) ch_cX9_held_0 rfl) (rdb (p := 0) (i := 33) ch_cX9_held_0 rfl) rfl
theorem ch_cX9_held_32 : (cX9_held.data.toList.drop 32).take 36 = [0, 44, 27, 46, 164, 0, 7, 5, 167, 0, 4, 4, 172] := by decide +kernel
theorem dX9_held_34 : decode cX9_held 34 = .ok (.iload_n 1, 1) := do_27 (rdb (p := 32) (i := 2) ch_cX9_held_32 rfl)
theorem dX9_held_35 : decode cX9_held 35 = .ok (.iaload, 1) := do_46 (rdb (p := 32) (i := 3) ch_cX9_held_32 rfl)
theorem dX9_held_36 : decode cX9_held 36 = .ok (.if_icmp .le 7, 3) := do_164 (rdb (p := 32) (i := 4) ch_cX9_held_32 rfl) (rdb (p := 32) (i := 5) ch_cX9_held_32 rfl) (rdb (p := 32) (i := 6) ch_cX9_held_32 rfl) (by decide +kernel)
theorem dX9_held_39 : decode cX9_held 39 = .ok (.iconst 2, 1) := do_5 (rdb (p := 32) (i := 7) ch_cX9_held_32 rfl)
theorem dX9_held_40 : decode cX9_held 40 = .ok (.goto 4, 3) := do_167 (rdb (p := 32) (i := 8) ch_cX9_held_32 rfl) (rdb (p := 32) (i := 9) ch_cX9_held_32 rfl) (rdb (p := 32) (i := 10) ch_cX9_held_32 rfl) (by decide +kernel)
theorem dX9_held_43 : decode cX9_held 43 = .ok (.iconst 1, 1) := do_4 (rdb (p := 32) (i := 11) ch_cX9_held_32 rfl)
theorem dX9_held_44 : decode cX9_held 44 = .ok (.ireturn, 1) := do_172 (rdb (p := 32) (i := 12) ch_cX9_held_32 rfl)
theorem dX9_isOf_0 : decode cX9_isOf 0 = .ok (.aload_n 0, 1) := by decide +kernel
theorem dX9_isOf_1 : decode cX9_isOf 1 = .ok (.getfield 7, 3) := by decide +kernel
theorem dX9_isOf_4 : decode cX9_isOf 4 = .ok (.istore_n 2, 1) := by decide +kernel
theorem dX9_isOf_5 : decode cX9_isOf 5 = .ok (.iconst 0, 1) := by decide +kernel
theorem dX9_isOf_6 : decode cX9_isOf 6 = .ok (.istore_n 3, 1) := by decide +kernel
theorem dX9_isOf_7 : decode cX9_isOf 7 = .ok (.iload_n 3, 1) := by decide +kernel
theorem dX9_isOf_8 : decode cX9_isOf 8 = .ok (.bipush 8, 2) := by decide +kernel
theorem dX9_isOf_10 : decode cX9_isOf 10 = .ok (.if_icmp .ge 25, 3) := by decide +kernel
theorem dX9_isOf_13 : decode cX9_isOf 13 = .ok (.iload_n 2, 1) := by decide +kernel
theorem dX9_isOf_14 : decode cX9_isOf 14 = .ok (.ifCond .lt 21, 3) := by decide +kernel
theorem dX9_isOf_17 : decode cX9_isOf 17 = .ok (.iload_n 2, 1) := by decide +kernel
theorem dX9_isOf_18 : decode cX9_isOf 18 = .ok (.iload_n 1, 1) := by decide +kernel
theorem dX9_isOf_19 : decode cX9_isOf 19 = .ok (.if_icmp .ne 5, 3) := by decide +kernel
theorem dX9_isOf_22 : decode cX9_isOf 22 = .ok (.iconst 1, 1) := by decide +kernel
theorem dX9_isOf_23 : decode cX9_isOf 23 = .ok (.ireturn, 1) := by decide +kernel
theorem dX9_isOf_24 : decode cX9_isOf 24 = .ok (.iload_n 2, 1) := by decide +kernel
theorem dX9_isOf_25 : decode cX9_isOf 25 = .ok (.invokestatic 50, 3) := by decide +kernel
theorem dX9_isOf_28 : decode cX9_isOf 28 = .ok (.istore_n 2, 1) := by decide +kernel
theorem dX9_isOf_29 : decode cX9_isOf 29 = .ok (.iinc 3 1, 3) := by decide +kernel
theorem dX9_isOf_32 : decode cX9_isOf 32 = .ok (.goto (-25), 3) := by decide +kernel
theorem dX9_isOf_35 : decode cX9_isOf 35 = .ok (.iconst 0, 1) := by decide +kernel
theorem dX9_isOf_36 : decode cX9_isOf 36 = .ok (.ireturn, 1) := by decide +kernel
theorem dX9_ownClick_0 : decode cX9_ownClick 0 = .ok (.bipush 100, 2) := by decide +kernel
theorem dX9_ownClick_2 : decode cX9_ownClick 2 = .ok (.aload_n 0, 1) := by decide +kernel
theorem dX9_ownClick_3 : decode cX9_ownClick 3 = .ok (.getfield 19, 3) := by decide +kernel
theorem dX9_ownClick_6 : decode cX9_ownClick 6 = .ok (.imul, 1) := by decide +kernel
theorem dX9_ownClick_7 : decode cX9_ownClick 7 = .ok (.aload_n 0, 1) := by decide +kernel
theorem dX9_ownClick_8 : decode cX9_ownClick 8 = .ok (.getfield 22, 3) := by decide +kernel
theorem dX9_ownClick_11 : decode cX9_ownClick 11 = .ok (.iadd, 1) := by decide +kernel
theorem dX9_ownClick_12 : decode cX9_ownClick 12 = .ok (.ireturn, 1) := by decide +kernel
theorem dX9_reach_0 : decode cX9_reach 0 = .ok (.aload_n 0, 1) := by decide +kernel
theorem dX9_reach_1 : decode cX9_reach 1 = .ok (.getfield 7, 3) := by decide +kernel
theorem dX9_reach_4 : decode cX9_reach 4 = .ok (.ifCond .lt 23, 3) := by decide +kernel
theorem dX9_reach_7 : decode cX9_reach 7 = .ok (.aload_n 0, 1) := by decide +kernel
theorem dX9_reach_8 : decode cX9_reach 8 = .ok (.getfield 7, 3) := by decide +kernel
theorem dX9_reach_11 : decode cX9_reach 11 = .ok (.bipush 8, 2) := by decide +kernel
theorem dX9_reach_13 : decode cX9_reach 13 = .ok (.if_icmp .ge 14, 3) := by decide +kernel
theorem dX9_reach_16 : decode cX9_reach 16 = .ok (.getstatic 54, 3) := by decide +kernel
theorem dX9_reach_19 : decode cX9_reach 19 = .ok (.aload_n 0, 1) := by decide +kernel
theorem dX9_reach_20 : decode cX9_reach 20 = .ok (.getfield 7, 3) := by decide +kernel
theorem dX9_reach_23 : decode cX9_reach 23 = .ok (.iaload, 1) := by decide +kernel
theorem dX9_reach_24 : decode cX9_reach 24 = .ok (.goto 4, 3) := by decide +kernel
theorem dX9_reach_27 : decode cX9_reach 27 = .ok (.iconst 0, 1) := by decide +kernel
theorem dX9_reach_28 : decode cX9_reach 28 = .ok (.ireturn, 1) := by decide +kernel
theorem dX9_speed_0 : decode cX9_speed 0 = .ok (.aload_n 0, 1) := by decide +kernel
theorem dX9_speed_1 : decode cX9_speed 1 = .ok (.getfield 7, 3) := by decide +kernel
theorem dX9_speed_4 : decode cX9_speed 4 = .ok (.ifCond .lt 23, 3) := by decide +kernel
theorem dX9_speed_7 : decode cX9_speed 7 = .ok (.aload_n 0, 1) := by decide +kernel
theorem dX9_speed_8 : decode cX9_speed 8 = .ok (.getfield 7, 3) := by decide +kernel
theorem dX9_speed_11 : decode cX9_speed 11 = .ok (.bipush 8, 2) := by decide +kernel
theorem dX9_speed_13 : decode cX9_speed 13 = .ok (.if_icmp .ge 14, 3) := by decide +kernel
theorem dX9_speed_16 : decode cX9_speed 16 = .ok (.getstatic 57, 3) := by decide +kernel
theorem dX9_speed_19 : decode cX9_speed 19 = .ok (.aload_n 0, 1) := by decide +kernel
theorem dX9_speed_20 : decode cX9_speed 20 = .ok (.getfield 7, 3) := by decide +kernel
theorem dX9_speed_23 : decode cX9_speed 23 = .ok (.iaload, 1) := by decide +kernel
theorem dX9_speed_24 : decode cX9_speed 24 = .ok (.goto 4, 3) := by decide +kernel
theorem dX9_speed_27 : decode cX9_speed 27 = .ok (.iconst 0, 1) := by decide +kernel
theorem dX9_speed_28 : decode cX9_speed 28 = .ok (.ireturn, 1) := by decide +kernel
theorem ch_cX9_takeFrom_0 : (cX9_takeFrom.data.toList.drop 0).take 36 = [42, 43, 180, 0, 7, 181, 0, 7, 42, 43, 180, 0, 13, 181, 0, 13, 42, 43, 180, 0, 16, 181, 0, 16, 42, 43, 180, 0, 19, 181, 0, 19, 42, 43, 180, 0] := by decide +kernel
theorem dX9_takeFrom_0 : decode cX9_takeFrom 0 = .ok (.aload_n 0, 1) := do_42 (rdb (p := 0) (i := 0) ch_cX9_takeFrom_0 rfl)
theorem dX9_takeFrom_1 : decode cX9_takeFrom 1 = .ok (.aload_n 1, 1) := do_43 (rdb (p := 0) (i := 1) ch_cX9_takeFrom_0 rfl)
theorem dX9_takeFrom_2 : decode cX9_takeFrom 2 = .ok (.getfield 7, 3) := do_180 (rdb (p := 0) (i := 2) ch_cX9_takeFrom_0 rfl) (rdb (p := 0) (i := 3) ch_cX9_takeFrom_0 rfl) (rdb (p := 0) (i := 4) ch_cX9_takeFrom_0 rfl) rfl
theorem dX9_takeFrom_5 : decode cX9_takeFrom 5 = .ok (.putfield 7, 3) := do_181 (rdb (p := 0) (i := 5) ch_cX9_takeFrom_0 rfl) (rdb (p := 0) (i := 6) ch_cX9_takeFrom_0 rfl) (rdb (p := 0) (i := 7) ch_cX9_takeFrom_0 rfl) rfl
theorem dX9_takeFrom_8 : decode cX9_takeFrom 8 = .ok (.aload_n 0, 1) := do_42 (rdb (p := 0) (i := 8) ch_cX9_takeFrom_0 rfl)
theorem dX9_takeFrom_9 : decode cX9_takeFrom 9 = .ok (.aload_n 1, 1) := do_43 (rdb (p := 0) (i := 9) ch_cX9_takeFrom_0 rfl)
theorem dX9_takeFrom_10 : decode cX9_takeFrom 10 = .ok (.getfield 13, 3) := do_180 (rdb (p := 0) (i := 10) ch_cX9_takeFrom_0 rfl) (rdb (p := 0) (i := 11) ch_cX9_takeFrom_0 rfl) (rdb (p := 0) (i := 12) ch_cX9_takeFrom_0 rfl) rfl
theorem dX9_takeFrom_13 : decode cX9_takeFrom 13 = .ok (.putfield 13, 3) := do_181 (rdb (p := 0) (i := 13) ch_cX9_takeFrom_0 rfl) (rdb (p := 0) (i := 14) ch_cX9_takeFrom_0 rfl) (rdb (p := 0) (i := 15) ch_cX9_takeFrom_0 rfl) rfl
theorem dX9_takeFrom_16 : decode cX9_takeFrom 16 = .ok (.aload_n 0, 1) := do_42 (rdb (p := 0) (i := 16) ch_cX9_takeFrom_0 rfl)
theorem dX9_takeFrom_17 : decode cX9_takeFrom 17 = .ok (.aload_n 1, 1) := do_43 (rdb (p := 0) (i := 17) ch_cX9_takeFrom_0 rfl)
theorem dX9_takeFrom_18 : decode cX9_takeFrom 18 = .ok (.getfield 16, 3) := do_180 (rdb (p := 0) (i := 18) ch_cX9_takeFrom_0 rfl) (rdb (p := 0) (i := 19) ch_cX9_takeFrom_0 rfl) (rdb (p := 0) (i := 20) ch_cX9_takeFrom_0 rfl) rfl
theorem dX9_takeFrom_21 : decode cX9_takeFrom 21 = .ok (.putfield 16, 3) := do_181 (rdb (p := 0) (i := 21) ch_cX9_takeFrom_0 rfl) (rdb (p := 0) (i := 22) ch_cX9_takeFrom_0 rfl) (rdb (p := 0) (i := 23) ch_cX9_takeFrom_0 rfl) rfl
theorem dX9_takeFrom_24 : decode cX9_takeFrom 24 = .ok (.aload_n 0, 1) := do_42 (rdb (p := 0) (i := 24) ch_cX9_takeFrom_0 rfl)
theorem dX9_takeFrom_25 : decode cX9_takeFrom 25 = .ok (.aload_n 1, 1) := do_43 (rdb (p := 0) (i := 25) ch_cX9_takeFrom_0 rfl)
theorem dX9_takeFrom_26 : decode cX9_takeFrom 26 = .ok (.getfield 19, 3) := do_180 (rdb (p := 0) (i := 26) ch_cX9_takeFrom_0 rfl) (rdb (p := 0) (i := 27) ch_cX9_takeFrom_0 rfl) (rdb (p := 0) (i := 28) ch_cX9_takeFrom_0 rfl) rfl
theorem dX9_takeFrom_29 : decode cX9_takeFrom 29 = .ok (.putfield 19, 3) := do_181 (rdb (p := 0) (i := 29) ch_cX9_takeFrom_0 rfl) (rdb (p := 0) (i := 30) ch_cX9_takeFrom_0 rfl) (rdb (p := 0) (i := 31) ch_cX9_takeFrom_0 rfl) rfl
theorem ch_cX9_takeFrom_32 : (cX9_takeFrom.data.toList.drop 32).take 36 = [42, 43, 180, 0, 22, 181, 0, 22, 42, 43, 180, 0, 25, 181, 0, 25, 42, 43, 180, 0, 28, 181, 0, 28, 42, 43, 180, 0, 32, 181, 0, 32, 42, 43, 180, 0] := by decide +kernel
theorem dX9_takeFrom_32 : decode cX9_takeFrom 32 = .ok (.aload_n 0, 1) := do_42 (rdb (p := 32) (i := 0) ch_cX9_takeFrom_32 rfl)
theorem dX9_takeFrom_33 : decode cX9_takeFrom 33 = .ok (.aload_n 1, 1) := do_43 (rdb (p := 32) (i := 1) ch_cX9_takeFrom_32 rfl)
theorem dX9_takeFrom_34 : decode cX9_takeFrom 34 = .ok (.getfield 22, 3) := do_180 (rdb (p := 32) (i := 2) ch_cX9_takeFrom_32 rfl) (rdb (p := 32) (i := 3) ch_cX9_takeFrom_32 rfl) (rdb (p := 32) (i := 4) ch_cX9_takeFrom_32 rfl) rfl
theorem dX9_takeFrom_37 : decode cX9_takeFrom 37 = .ok (.putfield 22, 3) := do_181 (rdb (p := 32) (i := 5) ch_cX9_takeFrom_32 rfl) (rdb (p := 32) (i := 6) ch_cX9_takeFrom_32 rfl) (rdb (p := 32) (i := 7) ch_cX9_takeFrom_32 rfl) rfl
theorem dX9_takeFrom_40 : decode cX9_takeFrom 40 = .ok (.aload_n 0, 1) := do_42 (rdb (p := 32) (i := 8) ch_cX9_takeFrom_32 rfl)
theorem dX9_takeFrom_41 : decode cX9_takeFrom 41 = .ok (.aload_n 1, 1) := do_43 (rdb (p := 32) (i := 9) ch_cX9_takeFrom_32 rfl)
theorem dX9_takeFrom_42 : decode cX9_takeFrom 42 = .ok (.getfield 25, 3) := do_180 (rdb (p := 32) (i := 10) ch_cX9_takeFrom_32 rfl) (rdb (p := 32) (i := 11) ch_cX9_takeFrom_32 rfl) (rdb (p := 32) (i := 12) ch_cX9_takeFrom_32 rfl) rfl
theorem dX9_takeFrom_45 : decode cX9_takeFrom 45 = .ok (.putfield 25, 3) := do_181 (rdb (p := 32) (i := 13) ch_cX9_takeFrom_32 rfl) (rdb (p := 32) (i := 14) ch_cX9_takeFrom_32 rfl) (rdb (p := 32) (i := 15) ch_cX9_takeFrom_32 rfl) rfl
theorem dX9_takeFrom_48 : decode cX9_takeFrom 48 = .ok (.aload_n 0, 1) := do_42 (rdb (p := 32) (i := 16) ch_cX9_takeFrom_32 rfl)
theorem dX9_takeFrom_49 : decode cX9_takeFrom 49 = .ok (.aload_n 1, 1) := do_43 (rdb (p := 32) (i := 17) ch_cX9_takeFrom_32 rfl)
theorem dX9_takeFrom_50 : decode cX9_takeFrom 50 = .ok (.getfield 28, 3) := do_180 (rdb (p := 32) (i := 18) ch_cX9_takeFrom_32 rfl) (rdb (p := 32) (i := 19) ch_cX9_takeFrom_32 rfl) (rdb (p := 32) (i := 20) ch_cX9_takeFrom_32 rfl) rfl
theorem dX9_takeFrom_53 : decode cX9_takeFrom 53 = .ok (.putfield 28, 3) := do_181 (rdb (p := 32) (i := 21) ch_cX9_takeFrom_32 rfl) (rdb (p := 32) (i := 22) ch_cX9_takeFrom_32 rfl) (rdb (p := 32) (i := 23) ch_cX9_takeFrom_32 rfl) rfl
theorem dX9_takeFrom_56 : decode cX9_takeFrom 56 = .ok (.aload_n 0, 1) := do_42 (rdb (p := 32) (i := 24) ch_cX9_takeFrom_32 rfl)
theorem dX9_takeFrom_57 : decode cX9_takeFrom 57 = .ok (.aload_n 1, 1) := do_43 (rdb (p := 32) (i := 25) ch_cX9_takeFrom_32 rfl)
theorem dX9_takeFrom_58 : decode cX9_takeFrom 58 = .ok (.getfield 32, 3) := do_180 (rdb (p := 32) (i := 26) ch_cX9_takeFrom_32 rfl) (rdb (p := 32) (i := 27) ch_cX9_takeFrom_32 rfl) (rdb (p := 32) (i := 28) ch_cX9_takeFrom_32 rfl) rfl
theorem dX9_takeFrom_61 : decode cX9_takeFrom 61 = .ok (.putfield 32, 3) := do_181 (rdb (p := 32) (i := 29) ch_cX9_takeFrom_32 rfl) (rdb (p := 32) (i := 30) ch_cX9_takeFrom_32 rfl) (rdb (p := 32) (i := 31) ch_cX9_takeFrom_32 rfl) rfl
theorem ch_cX9_takeFrom_64 : (cX9_takeFrom.data.toList.drop 64).take 36 = [42, 43, 180, 0, 35, 181, 0, 35, 43, 180, 0, 40, 3, 42, 180, 0, 40, 3, 17, 0, 192, 184, 0, 90, 43, 180, 0, 44, 3, 42, 180, 0, 44, 3, 17, 0] := by decide +kernel
theorem dX9_takeFrom_64 : decode cX9_takeFrom 64 = .ok (.aload_n 0, 1) := do_42 (rdb (p := 64) (i := 0) ch_cX9_takeFrom_64 rfl)
theorem dX9_takeFrom_65 : decode cX9_takeFrom 65 = .ok (.aload_n 1, 1) := do_43 (rdb (p := 64) (i := 1) ch_cX9_takeFrom_64 rfl)
theorem dX9_takeFrom_66 : decode cX9_takeFrom 66 = .ok (.getfield 35, 3) := do_180 (rdb (p := 64) (i := 2) ch_cX9_takeFrom_64 rfl) (rdb (p := 64) (i := 3) ch_cX9_takeFrom_64 rfl) (rdb (p := 64) (i := 4) ch_cX9_takeFrom_64 rfl) rfl
theorem dX9_takeFrom_69 : decode cX9_takeFrom 69 = .ok (.putfield 35, 3) := do_181 (rdb (p := 64) (i := 5) ch_cX9_takeFrom_64 rfl) (rdb (p := 64) (i := 6) ch_cX9_takeFrom_64 rfl) (rdb (p := 64) (i := 7) ch_cX9_takeFrom_64 rfl) rfl
theorem dX9_takeFrom_72 : decode cX9_takeFrom 72 = .ok (.aload_n 1, 1) := do_43 (rdb (p := 64) (i := 8) ch_cX9_takeFrom_64 rfl)
theorem dX9_takeFrom_73 : decode cX9_takeFrom 73 = .ok (.getfield 40, 3) := do_180 (rdb (p := 64) (i := 9) ch_cX9_takeFrom_64 rfl) (rdb (p := 64) (i := 10) ch_cX9_takeFrom_64 rfl) (rdb (p := 64) (i := 11) ch_cX9_takeFrom_64 rfl) rfl
theorem dX9_takeFrom_76 : decode cX9_takeFrom 76 = .ok (.iconst 0, 1) := do_3 (rdb (p := 64) (i := 12) ch_cX9_takeFrom_64 rfl)
theorem dX9_takeFrom_77 : decode cX9_takeFrom 77 = .ok (.aload_n 0, 1) := do_42 (rdb (p := 64) (i := 13) ch_cX9_takeFrom_64 rfl)
theorem dX9_takeFrom_78 : decode cX9_takeFrom 78 = .ok (.getfield 40, 3) := do_180 (rdb (p := 64) (i := 14) ch_cX9_takeFrom_64 rfl) (rdb (p := 64) (i := 15) ch_cX9_takeFrom_64 rfl) (rdb (p := 64) (i := 16) ch_cX9_takeFrom_64 rfl) rfl
theorem dX9_takeFrom_81 : decode cX9_takeFrom 81 = .ok (.iconst 0, 1) := do_3 (rdb (p := 64) (i := 17) ch_cX9_takeFrom_64 rfl)
theorem dX9_takeFrom_82 : decode cX9_takeFrom 82 = .ok (.sipush 192, 3) := do_17 (rdb (p := 64) (i := 18) ch_cX9_takeFrom_64 rfl) (rdb (p := 64) (i := 19) ch_cX9_takeFrom_64 rfl) (rdb (p := 64) (i := 20) ch_cX9_takeFrom_64 rfl) (by decide +kernel)
theorem dX9_takeFrom_85 : decode cX9_takeFrom 85 = .ok (.invokestatic 90, 3) := do_184 (rdb (p := 64) (i := 21) ch_cX9_takeFrom_64 rfl) (rdb (p := 64) (i := 22) ch_cX9_takeFrom_64 rfl) (rdb (p := 64) (i := 23) ch_cX9_takeFrom_64 rfl) rfl
theorem dX9_takeFrom_88 : decode cX9_takeFrom 88 = .ok (.aload_n 1, 1) := do_43 (rdb (p := 64) (i := 24) ch_cX9_takeFrom_64 rfl)
theorem dX9_takeFrom_89 : decode cX9_takeFrom 89 = .ok (.getfield 44, 3) := do_180 (rdb (p := 64) (i := 25) ch_cX9_takeFrom_64 rfl) (rdb (p := 64) (i := 26) ch_cX9_takeFrom_64 rfl) (rdb (p := 64) (i := 27) ch_cX9_takeFrom_64 rfl) rfl
theorem dX9_takeFrom_92 : decode cX9_takeFrom 92 = .ok (.iconst 0, 1) := do_3 (rdb (p := 64) (i := 28) ch_cX9_takeFrom_64 rfl)
theorem dX9_takeFrom_93 : decode cX9_takeFrom 93 = .ok (.aload_n 0, 1) := do_42 (rdb (p := 64) (i := 29) ch_cX9_takeFrom_64 rfl)
theorem dX9_takeFrom_94 : decode cX9_takeFrom 94 = .ok (.getfield 44, 3) := do_180 (rdb (p := 64) (i := 30) ch_cX9_takeFrom_64 rfl) (rdb (p := 64) (i := 31) ch_cX9_takeFrom_64 rfl) (rdb (p := 64) (i := 32) ch_cX9_takeFrom_64 rfl) rfl
theorem ch_cX9_takeFrom_96 : (cX9_takeFrom.data.toList.drop 96).take 36 = [44, 3, 17, 0, 192, 184, 0, 90, 177] := by decide +kernel
theorem dX9_takeFrom_97 : decode cX9_takeFrom 97 = .ok (.iconst 0, 1) := do_3 (rdb (p := 96) (i := 1) ch_cX9_takeFrom_96 rfl)
theorem dX9_takeFrom_98 : decode cX9_takeFrom 98 = .ok (.sipush 192, 3) := do_17 (rdb (p := 96) (i := 2) ch_cX9_takeFrom_96 rfl) (rdb (p := 96) (i := 3) ch_cX9_takeFrom_96 rfl) (rdb (p := 96) (i := 4) ch_cX9_takeFrom_96 rfl) (by decide +kernel)
theorem dX9_takeFrom_101 : decode cX9_takeFrom 101 = .ok (.invokestatic 90, 3) := do_184 (rdb (p := 96) (i := 5) ch_cX9_takeFrom_96 rfl) (rdb (p := 96) (i := 6) ch_cX9_takeFrom_96 rfl) (rdb (p := 96) (i := 7) ch_cX9_takeFrom_96 rfl) rfl
theorem dX9_takeFrom_104 : decode cX9_takeFrom 104 = .ok (.return_, 1) := do_177 (rdb (p := 96) (i := 8) ch_cX9_takeFrom_96 rfl)
theorem dX9_turn_0 : decode cX9_turn 0 = .ok (.aload_n 0, 1) := by decide +kernel
theorem dX9_turn_1 : decode cX9_turn 1 = .ok (.aload_n 0, 1) := by decide +kernel
theorem dX9_turn_2 : decode cX9_turn 2 = .ok (.getfield 16, 3) := by decide +kernel
theorem dX9_turn_5 : decode cX9_turn 5 = .ok (.iload_n 1, 1) := by decide +kernel
theorem dX9_turn_6 : decode cX9_turn 6 = .ok (.iadd, 1) := by decide +kernel
theorem dX9_turn_7 : decode cX9_turn 7 = .ok (.bipush 7, 2) := by decide +kernel
theorem dX9_turn_9 : decode cX9_turn 9 = .ok (.iand, 1) := by decide +kernel
theorem dX9_turn_10 : decode cX9_turn 10 = .ok (.putfield 16, 3) := by decide +kernel
theorem dX9_turn_13 : decode cX9_turn 13 = .ok (.return_, 1) := by decide +kernel
theorem dX9_yardsHeldFree_0 : decode cX9_yardsHeldFree 0 = .ok (.iconst 0, 1) := by decide +kernel
theorem dX9_yardsHeldFree_1 : decode cX9_yardsHeldFree 1 = .ok (.istore_n 1, 1) := by decide +kernel
theorem dX9_yardsHeldFree_2 : decode cX9_yardsHeldFree 2 = .ok (.iload_n 1, 1) := by decide +kernel
theorem dX9_yardsHeldFree_3 : decode cX9_yardsHeldFree 3 = .ok (.bipush 15, 2) := by decide +kernel
theorem dX9_yardsHeldFree_5 : decode cX9_yardsHeldFree 5 = .ok (.if_icmp .ge 31, 3) := by decide +kernel
theorem dX9_yardsHeldFree_8 : decode cX9_yardsHeldFree 8 = .ok (.aload_n 0, 1) := by decide +kernel
theorem dX9_yardsHeldFree_9 : decode cX9_yardsHeldFree 9 = .ok (.aload_n 0, 1) := by decide +kernel
theorem dX9_yardsHeldFree_10 : decode cX9_yardsHeldFree 10 = .ok (.getfield 13, 3) := by decide +kernel
theorem dX9_yardsHeldFree_13 : decode cX9_yardsHeldFree 13 = .ok (.aload_n 0, 1) := by decide +kernel
theorem dX9_yardsHeldFree_14 : decode cX9_yardsHeldFree 14 = .ok (.getfield 16, 3) := by decide +kernel
theorem dX9_yardsHeldFree_17 : decode cX9_yardsHeldFree 17 = .ok (.iload_n 1, 1) := by decide +kernel
theorem dX9_yardsHeldFree_18 : decode cX9_yardsHeldFree 18 = .ok (.iconst 1, 1) := by decide +kernel
theorem dX9_yardsHeldFree_19 : decode cX9_yardsHeldFree 19 = .ok (.iadd, 1) := by decide +kernel
theorem dX9_yardsHeldFree_20 : decode cX9_yardsHeldFree 20 = .ok (.invokestatic 86, 3) := by decide +kernel
theorem dX9_yardsHeldFree_23 : decode cX9_yardsHeldFree 23 = .ok (.invokevirtual 83, 3) := by decide +kernel
theorem dX9_yardsHeldFree_26 : decode cX9_yardsHeldFree 26 = .ok (.iconst 1, 1) := by decide +kernel
theorem dX9_yardsHeldFree_27 : decode cX9_yardsHeldFree 27 = .ok (.if_icmp .ne 9, 3) := by decide +kernel
theorem dX9_yardsHeldFree_30 : decode cX9_yardsHeldFree 30 = .ok (.iinc 1 1, 3) := by decide +kernel
theorem dX9_yardsHeldFree_33 : decode cX9_yardsHeldFree 33 = .ok (.goto (-31), 3) := by decide +kernel
theorem dX9_yardsHeldFree_36 : decode cX9_yardsHeldFree 36 = .ok (.iload_n 1, 1) := by decide +kernel
theorem dX9_yardsHeldFree_37 : decode cX9_yardsHeldFree 37 = .ok (.ireturn, 1) := by decide +kernel
theorem dX9_yardsToFull_0 : decode cX9_yardsToFull 0 = .ok (.iconst 1, 1) := by decide +kernel
theorem dX9_yardsToFull_1 : decode cX9_yardsToFull 1 = .ok (.istore_n 2, 1) := by decide +kernel
theorem dX9_yardsToFull_2 : decode cX9_yardsToFull 2 = .ok (.iload_n 2, 1) := by decide +kernel
theorem dX9_yardsToFull_3 : decode cX9_yardsToFull 3 = .ok (.bipush 9, 2) := by decide +kernel
theorem dX9_yardsToFull_5 : decode cX9_yardsToFull 5 = .ok (.if_icmp .gt 28, 3) := by decide +kernel
theorem dX9_yardsToFull_8 : decode cX9_yardsToFull 8 = .ok (.aload_n 0, 1) := by decide +kernel
theorem dX9_yardsToFull_9 : decode cX9_yardsToFull 9 = .ok (.aload_n 0, 1) := by decide +kernel
theorem dX9_yardsToFull_10 : decode cX9_yardsToFull 10 = .ok (.getfield 13, 3) := by decide +kernel
theorem dX9_yardsToFull_13 : decode cX9_yardsToFull 13 = .ok (.iload_n 1, 1) := by decide +kernel
theorem dX9_yardsToFull_14 : decode cX9_yardsToFull 14 = .ok (.iload_n 2, 1) := by decide +kernel
theorem dX9_yardsToFull_15 : decode cX9_yardsToFull 15 = .ok (.invokestatic 86, 3) := by decide +kernel
theorem dX9_yardsToFull_18 : decode cX9_yardsToFull 18 = .ok (.invokevirtual 83, 3) := by decide +kernel
theorem dX9_yardsToFull_21 : decode cX9_yardsToFull 21 = .ok (.iconst 2, 1) := by decide +kernel
theorem dX9_yardsToFull_22 : decode cX9_yardsToFull 22 = .ok (.if_icmp .ne 5, 3) := by decide +kernel
theorem dX9_yardsToFull_25 : decode cX9_yardsToFull 25 = .ok (.iload_n 2, 1) := by decide +kernel
theorem dX9_yardsToFull_26 : decode cX9_yardsToFull 26 = .ok (.ireturn, 1) := by decide +kernel
theorem dX9_yardsToFull_27 : decode cX9_yardsToFull 27 = .ok (.iinc 2 1, 3) := by decide +kernel
theorem dX9_yardsToFull_30 : decode cX9_yardsToFull 30 = .ok (.goto (-28), 3) := by decide +kernel
theorem dX9_yardsToFull_33 : decode cX9_yardsToFull 33 = .ok (.iconst 0, 1) := by decide +kernel
theorem dX9_yardsToFull_34 : decode cX9_yardsToFull 34 = .ok (.ireturn, 1) := by decide +kernel
end
section
def SP_X9_reach (b : Nat) (w : Nat) (Mz : mM) (r_ : Int32) : Prop := ∃ z1_ : Int32, (z1_ = Mz.1 (9, b, w) 0) ∧ (((z1_.toInt < 0) ∧ r_ = 0) ∨ ((0 ≤ z1_.toInt) ∧ (((8 ≤ z1_.toInt) ∧ r_ = 0) ∨ ((z1_.toInt < 8) ∧ ∃ j11_ : Nat, ((j11_ : Int) = z1_.toInt) ∧ ∃ z9_ : Int32, (z9_ = ([3, 12, 1, 6, 0, 6, 5, 10] : List Int32).getD j11_ 0) ∧ (0 ≤ z9_.toInt ∧ z9_.toInt ≤ 12) ∧ r_ = z9_))))
theorem lf_c_X9_reach_0    : 0 ≤ (0 : Int32).toInt ∧ (0 : Int32).toInt ≤ 12 := by have r9 := li_0; omega
theorem lf_c_X9_reach_1    : 0 ≤ (0 : Int32).toInt ∧ (0 : Int32).toInt ≤ 12 := by have r9 := li_0; omega
theorem lf_c_X9_reach_2 (Mz : mM) (b : Nat) (w : Nat) (z1_ : Int32) (hb : b < 3) (hw : w < 8) (e2_ : z1_ = Mz.1 (9, b, w) 0) (h3_ : 0 ≤ z1_.toInt) (h6_ : z1_.toInt < 8) : 0 ≤ z1_.toInt ∧ z1_.toInt < ((8 : Nat) : Int) := by have r_z1_ := rngI z1_; subst e2_; omega
theorem lf_c_X9_reach_3 (Mz : mM) (b : Nat) (w : Nat) (z1_ : Int32) (j11_ : Nat) (hb : b < 3) (hw : w < 8) (e2_ : z1_ = Mz.1 (9, b, w) 0) (h3_ : 0 ≤ z1_.toInt) (h6_ : z1_.toInt < 8) (h12_ : (j11_ : Int) = z1_.toInt) : j11_ < 8 := by have r_z1_ := rngI z1_; subst e2_; omega
set_option maxHeartbeats 4000000 in
set_option maxRecDepth 100000 in
theorem c_X9_reach (l : Launch) (G : va_G) (cy : Nat → ClassId) (ad : rf → Nat) (d : Nat) (b : Nat) (w : Nat) (Mz : mM) (hIz : Inv Mz) (hb : b < 3) (hw : w < 8) : WP CC l G cy ad yX9_reach cX9_reach 1 (some .int) d 0 [(0, vR (9, b, w))] [] Mz (fun r M' => Mz = M' ∧ (0 ≤ r.toInt ∧ r.toInt ≤ 12) ∧ SP_X9_reach b w Mz r) := by
  refine w_aload_n dX9_reach_0 rfl 0 rfl ?_
  refine w_getI fl_RX9_7 rfl rfl (ic_9 hb hw) dX9_reach_1 (fun z1_ e2_ => ?_)
  refine w_if_lt (tgt := 27) dX9_reach_4 (by decide) (rfl : z1_.toInt = z1_.toInt) (fun h3_ => ?_) (fun h3_ => ?_)
  · refine w_iconst (v := 0) dX9_reach_27 (by decide) ?_
    exact w_iret rfl dX9_reach_28 ⟨rfl, (lf_c_X9_reach_0 ), ⟨z1_, e2_, (Or.inl ⟨h3_, rfl⟩)⟩⟩
  · refine w_aload_n dX9_reach_7 rfl 0 rfl ?_
    refine w_getI fl_RX9_7 rfl rfl (ic_9 hb hw) dX9_reach_8 (fun z4_ e5_ => ?_)
    obtain rfl : z1_ = z4_ := e2_.trans e5_.symm
    refine w_bipush (v := 8) dX9_reach_11 (by decide) ?_
    refine w_icmp_ge (tgt := 27) dX9_reach_13 (by decide) (rfl : z1_.toInt = z1_.toInt) li_8 (fun h6_ => ?_) (fun h6_ => ?_)
    · refine w_iconst (v := 0) dX9_reach_27 (by decide) ?_
      exact w_iret rfl dX9_reach_28 ⟨rfl, (lf_c_X9_reach_1 ), ⟨z1_, e2_, (Or.inr ⟨h3_, (Or.inl ⟨h6_, rfl⟩)⟩)⟩⟩
    · refine w_gets (k := 0) rfl m_621 dX9_reach_16 ?_
      refine w_aload_n dX9_reach_19 rfl 0 rfl ?_
      refine w_getI fl_RX9_7 rfl rfl (ic_9 hb hw) dX9_reach_20 (fun z7_ e8_ => ?_)
      obtain rfl : z1_ = z7_ := e2_.trans e8_.symm
      refine w_iaT (k := 0) rfl (rfl : z1_.toInt = z1_.toInt) (lf_c_X9_reach_2 Mz b w z1_ hb hw e2_ h3_ h6_) dX9_reach_23 (fun j11_ h12_ z9_ e10_ => ?_)
      have h13_ : 0 ≤ z9_.toInt ∧ z9_.toInt ≤ 12 := by rw [e10_]; exact stb_0 j11_ (lf_c_X9_reach_3 Mz b w z1_ j11_ hb hw e2_ h3_ h6_ h12_)
      refine w_goto (tgt := 28) dX9_reach_24 (by decide) ?_
      exact w_iret rfl dX9_reach_28 ⟨rfl, h13_, ⟨z1_, e2_, (Or.inr ⟨h3_, (Or.inr ⟨h6_, j11_, h12_, z9_, e10_, h13_, rfl⟩)⟩)⟩⟩
def SP_X9_speed (b : Nat) (w : Nat) (Mz : mM) (r_ : Int32) : Prop := ∃ z1_ : Int32, (z1_ = Mz.1 (9, b, w) 0) ∧ (((z1_.toInt < 0) ∧ r_ = 0) ∨ ((0 ≤ z1_.toInt) ∧ (((8 ≤ z1_.toInt) ∧ r_ = 0) ∨ ((z1_.toInt < 8) ∧ ∃ j11_ : Nat, ((j11_ : Int) = z1_.toInt) ∧ ∃ z9_ : Int32, (z9_ = ([1, 1, 1, 1, 1, 1, 1, 2] : List Int32).getD j11_ 0) ∧ (1 ≤ z9_.toInt ∧ z9_.toInt ≤ 2) ∧ r_ = z9_))))
theorem lf_c_X9_speed_0    : 0 ≤ (0 : Int32).toInt ∧ (0 : Int32).toInt ≤ 2 := by have r9 := li_0; omega
theorem lf_c_X9_speed_1    : 0 ≤ (0 : Int32).toInt ∧ (0 : Int32).toInt ≤ 2 := by have r9 := li_0; omega
theorem lf_c_X9_speed_2 (Mz : mM) (b : Nat) (w : Nat) (z1_ : Int32) (hb : b < 3) (hw : w < 8) (e2_ : z1_ = Mz.1 (9, b, w) 0) (h3_ : 0 ≤ z1_.toInt) (h6_ : z1_.toInt < 8) : 0 ≤ z1_.toInt ∧ z1_.toInt < ((8 : Nat) : Int) := by have r_z1_ := rngI z1_; subst e2_; omega
theorem lf_c_X9_speed_3 (Mz : mM) (b : Nat) (w : Nat) (z1_ : Int32) (j11_ : Nat) (hb : b < 3) (hw : w < 8) (e2_ : z1_ = Mz.1 (9, b, w) 0) (h3_ : 0 ≤ z1_.toInt) (h6_ : z1_.toInt < 8) (h12_ : (j11_ : Int) = z1_.toInt) : j11_ < 8 := by have r_z1_ := rngI z1_; subst e2_; omega
theorem lf_c_X9_speed_4  (z9_ : Int32) (h13_ : 1 ≤ z9_.toInt ∧ z9_.toInt ≤ 2) : 0 ≤ z9_.toInt ∧ z9_.toInt ≤ 2 := by have r_z9_ := rngI z9_; omega
set_option maxHeartbeats 4000000 in
set_option maxRecDepth 100000 in
theorem c_X9_speed (l : Launch) (G : va_G) (cy : Nat → ClassId) (ad : rf → Nat) (d : Nat) (b : Nat) (w : Nat) (Mz : mM) (hIz : Inv Mz) (hb : b < 3) (hw : w < 8) : WP CC l G cy ad yX9_speed cX9_speed 1 (some .int) d 0 [(0, vR (9, b, w))] [] Mz (fun r M' => Mz = M' ∧ (0 ≤ r.toInt ∧ r.toInt ≤ 2) ∧ SP_X9_speed b w Mz r) := by
  refine w_aload_n dX9_speed_0 rfl 0 rfl ?_
  refine w_getI fl_RX9_7 rfl rfl (ic_9 hb hw) dX9_speed_1 (fun z1_ e2_ => ?_)
  refine w_if_lt (tgt := 27) dX9_speed_4 (by decide) (rfl : z1_.toInt = z1_.toInt) (fun h3_ => ?_) (fun h3_ => ?_)
  · refine w_iconst (v := 0) dX9_speed_27 (by decide) ?_
    exact w_iret rfl dX9_speed_28 ⟨rfl, (lf_c_X9_speed_0 ), ⟨z1_, e2_, (Or.inl ⟨h3_, rfl⟩)⟩⟩
  · refine w_aload_n dX9_speed_7 rfl 0 rfl ?_
    refine w_getI fl_RX9_7 rfl rfl (ic_9 hb hw) dX9_speed_8 (fun z4_ e5_ => ?_)
    obtain rfl : z1_ = z4_ := e2_.trans e5_.symm
    refine w_bipush (v := 8) dX9_speed_11 (by decide) ?_
    refine w_icmp_ge (tgt := 27) dX9_speed_13 (by decide) (rfl : z1_.toInt = z1_.toInt) li_8 (fun h6_ => ?_) (fun h6_ => ?_)
    · refine w_iconst (v := 0) dX9_speed_27 (by decide) ?_
      exact w_iret rfl dX9_speed_28 ⟨rfl, (lf_c_X9_speed_1 ), ⟨z1_, e2_, (Or.inr ⟨h3_, (Or.inl ⟨h6_, rfl⟩)⟩)⟩⟩
    · refine w_gets (k := 1) rfl m_627 dX9_speed_16 ?_
      refine w_aload_n dX9_speed_19 rfl 0 rfl ?_
      refine w_getI fl_RX9_7 rfl rfl (ic_9 hb hw) dX9_speed_20 (fun z7_ e8_ => ?_)
      obtain rfl : z1_ = z7_ := e2_.trans e8_.symm
      refine w_iaT (k := 1) rfl (rfl : z1_.toInt = z1_.toInt) (lf_c_X9_speed_2 Mz b w z1_ hb hw e2_ h3_ h6_) dX9_speed_23 (fun j11_ h12_ z9_ e10_ => ?_)
      have h13_ : 1 ≤ z9_.toInt ∧ z9_.toInt ≤ 2 := by rw [e10_]; exact stb_1 j11_ (lf_c_X9_speed_3 Mz b w z1_ j11_ hb hw e2_ h3_ h6_ h12_)
      refine w_goto (tgt := 28) dX9_speed_24 (by decide) ?_
      exact w_iret rfl dX9_speed_28 ⟨rfl, (lf_c_X9_speed_4 z9_ h13_), ⟨z1_, e2_, (Or.inr ⟨h3_, (Or.inr ⟨h6_, j11_, h12_, z9_, e10_, h13_, rfl⟩)⟩)⟩⟩
def SP_X9_ears (b : Nat) (w : Nat) (Mz : mM) (r_ : Int32) : Prop := ∃ z1_ : Int32, (z1_ = Mz.1 (9, b, w) 0) ∧ (((z1_.toInt < 0) ∧ r_ = 0) ∨ ((0 ≤ z1_.toInt) ∧ (((8 ≤ z1_.toInt) ∧ r_ = 0) ∨ ((z1_.toInt < 8) ∧ ∃ j11_ : Nat, ((j11_ : Int) = z1_.toInt) ∧ ∃ z9_ : Int32, (z9_ = ([9, 9, 9, 9, 9, 9, 5, 9] : List Int32).getD j11_ 0) ∧ (5 ≤ z9_.toInt ∧ z9_.toInt ≤ 9) ∧ r_ = z9_))))
theorem lf_c_X9_ears_0    : 0 ≤ (0 : Int32).toInt ∧ (0 : Int32).toInt ≤ 9 := by have r9 := li_0; omega
theorem lf_c_X9_ears_1    : 0 ≤ (0 : Int32).toInt ∧ (0 : Int32).toInt ≤ 9 := by have r9 := li_0; omega
theorem lf_c_X9_ears_2 (Mz : mM) (b : Nat) (w : Nat) (z1_ : Int32) (hb : b < 3) (hw : w < 8) (e2_ : z1_ = Mz.1 (9, b, w) 0) (h3_ : 0 ≤ z1_.toInt) (h6_ : z1_.toInt < 8) : 0 ≤ z1_.toInt ∧ z1_.toInt < ((8 : Nat) : Int) := by have r_z1_ := rngI z1_; subst e2_; omega
theorem lf_c_X9_ears_3 (Mz : mM) (b : Nat) (w : Nat) (z1_ : Int32) (j11_ : Nat) (hb : b < 3) (hw : w < 8) (e2_ : z1_ = Mz.1 (9, b, w) 0) (h3_ : 0 ≤ z1_.toInt) (h6_ : z1_.toInt < 8) (h12_ : (j11_ : Int) = z1_.toInt) : j11_ < 8 := by have r_z1_ := rngI z1_; subst e2_; omega
theorem lf_c_X9_ears_4  (z9_ : Int32) (h13_ : 5 ≤ z9_.toInt ∧ z9_.toInt ≤ 9) : 0 ≤ z9_.toInt ∧ z9_.toInt ≤ 9 := by have r_z9_ := rngI z9_; omega
set_option maxHeartbeats 4000000 in
set_option maxRecDepth 100000 in
theorem c_X9_ears (l : Launch) (G : va_G) (cy : Nat → ClassId) (ad : rf → Nat) (d : Nat) (b : Nat) (w : Nat) (Mz : mM) (hIz : Inv Mz) (hb : b < 3) (hw : w < 8) : WP CC l G cy ad yX9_ears cX9_ears 1 (some .int) d 0 [(0, vR (9, b, w))] [] Mz (fun r M' => Mz = M' ∧ (0 ≤ r.toInt ∧ r.toInt ≤ 9) ∧ SP_X9_ears b w Mz r) := by
  refine w_aload_n dX9_ears_0 rfl 0 rfl ?_
  refine w_getI fl_RX9_7 rfl rfl (ic_9 hb hw) dX9_ears_1 (fun z1_ e2_ => ?_)
  refine w_if_lt (tgt := 27) dX9_ears_4 (by decide) (rfl : z1_.toInt = z1_.toInt) (fun h3_ => ?_) (fun h3_ => ?_)
  · refine w_iconst (v := 0) dX9_ears_27 (by decide) ?_
    exact w_iret rfl dX9_ears_28 ⟨rfl, (lf_c_X9_ears_0 ), ⟨z1_, e2_, (Or.inl ⟨h3_, rfl⟩)⟩⟩
  · refine w_aload_n dX9_ears_7 rfl 0 rfl ?_
    refine w_getI fl_RX9_7 rfl rfl (ic_9 hb hw) dX9_ears_8 (fun z4_ e5_ => ?_)
    obtain rfl : z1_ = z4_ := e2_.trans e5_.symm
    refine w_bipush (v := 8) dX9_ears_11 (by decide) ?_
    refine w_icmp_ge (tgt := 27) dX9_ears_13 (by decide) (rfl : z1_.toInt = z1_.toInt) li_8 (fun h6_ => ?_) (fun h6_ => ?_)
    · refine w_iconst (v := 0) dX9_ears_27 (by decide) ?_
      exact w_iret rfl dX9_ears_28 ⟨rfl, (lf_c_X9_ears_1 ), ⟨z1_, e2_, (Or.inr ⟨h3_, (Or.inl ⟨h6_, rfl⟩)⟩)⟩⟩
    · refine w_gets (k := 2) rfl m_633 dX9_ears_16 ?_
      refine w_aload_n dX9_ears_19 rfl 0 rfl ?_
      refine w_getI fl_RX9_7 rfl rfl (ic_9 hb hw) dX9_ears_20 (fun z7_ e8_ => ?_)
      obtain rfl : z1_ = z7_ := e2_.trans e8_.symm
      refine w_iaT (k := 2) rfl (rfl : z1_.toInt = z1_.toInt) (lf_c_X9_ears_2 Mz b w z1_ hb hw e2_ h3_ h6_) dX9_ears_23 (fun j11_ h12_ z9_ e10_ => ?_)
      have h13_ : 5 ≤ z9_.toInt ∧ z9_.toInt ≤ 9 := by rw [e10_]; exact stb_2 j11_ (lf_c_X9_ears_3 Mz b w z1_ j11_ hb hw e2_ h3_ h6_ h12_)
      refine w_goto (tgt := 28) dX9_ears_24 (by decide) ?_
      exact w_iret rfl dX9_ears_28 ⟨rfl, (lf_c_X9_ears_4 z9_ h13_), ⟨z1_, e2_, (Or.inr ⟨h3_, (Or.inr ⟨h6_, j11_, h12_, z9_, e10_, h13_, rfl⟩)⟩)⟩⟩
def SP_X9_ownClick (b : Nat) (w : Nat) (Mz : mM) (r_ : Int32) : Prop := ∃ z1_ : Int32, (z1_ = Mz.1 (9, b, w) 3) ∧ ∃ z3_ : Int32, (z3_ = (100 : Int32) * z1_) ∧ ∃ z5_ : Int32, (z5_ = Mz.1 (9, b, w) 4) ∧ ∃ z7_ : Int32, (z7_ = z3_ + z5_) ∧ r_ = z7_
set_option maxHeartbeats 4000000 in
set_option maxRecDepth 100000 in
theorem c_X9_ownClick (l : Launch) (G : va_G) (cy : Nat → ClassId) (ad : rf → Nat) (d : Nat) (b : Nat) (w : Nat) (Mz : mM) (hIz : Inv Mz) (hb : b < 3) (hw : w < 8) : WP CC l G cy ad yX9_ownClick cX9_ownClick 1 (some .int) d 0 [(0, vR (9, b, w))] [] Mz (fun r M' => Mz = M' ∧ (True) ∧ SP_X9_ownClick b w Mz r) := by
  refine w_bipush (v := 100) dX9_ownClick_0 (by decide) ?_
  refine w_aload_n dX9_ownClick_2 rfl 0 rfl ?_
  refine w_getI fl_RX9_19 rfl rfl (ic_9 hb hw) dX9_ownClick_3 (fun z1_ e2_ => ?_)
  refine w_imul dX9_ownClick_6 (fun z3_ h4_ => ?_)
  refine w_aload_n dX9_ownClick_7 rfl 0 rfl ?_
  refine w_getI fl_RX9_22 rfl rfl (ic_9 hb hw) dX9_ownClick_8 (fun z5_ e6_ => ?_)
  refine w_iadd dX9_ownClick_11 (fun z7_ h8_ => ?_)
  exact w_iret rfl dX9_ownClick_12 ⟨rfl, trivial, ⟨z1_, e2_, z3_, h4_, z5_, e6_, z7_, h8_, rfl⟩⟩
def S_c_X9_begin (b : Nat) (w : Nat) : rf → Nat → Prop := fun c k => (c.1 = 9 ∧ c.2.1 = b ∧ c.2.2 = w ∧ k = 0) ∨ (c.1 = 9 ∧ c.2.1 = b ∧ c.2.2 = w ∧ k = 1) ∨ (c.1 = 9 ∧ c.2.1 = b ∧ c.2.2 = w ∧ k = 2) ∨ (c.1 = 9 ∧ c.2.1 = b ∧ c.2.2 = w ∧ k = 3) ∨ (c.1 = 9 ∧ c.2.1 = b ∧ c.2.2 = w ∧ k = 4) ∨ (c.1 = 9 ∧ c.2.1 = b ∧ c.2.2 = w ∧ k = 5) ∨ (c.1 = 9 ∧ c.2.1 = b ∧ c.2.2 = w ∧ k = 6) ∨ (c.1 = 9 ∧ c.2.1 = b ∧ c.2.2 = w ∧ k = 7) ∨ (c.1 = 9 ∧ c.2.1 = b ∧ c.2.2 = w ∧ k = 8) ∨ (c.1 = 40 ∧ c.2.1 = b ∧ c.2.2 = w) ∨ (c.1 = 41 ∧ c.2.1 = b ∧ c.2.2 = w) ∨ False
def ST_X9_begin_49 (b : Nat) (w : Nat) (Mz : mM) (v4_49 : Int32) (M_49 : mM) (v4_49y : Int32) (M_49y : mM) : Prop := (0 ≤ v4_49.toInt) ∧ (v4_49.toInt ≤ 192) ∧ (Inv M_49) ∧ (FR (S_c_X9_begin b w) Mz M_49) ∧ (v4_49.toInt < 192) ∧ ∃ j41_ : Nat, ((j41_ : Int) = v4_49.toInt) ∧ ∃ M39_ : mM, (M39_ = up M_49 (40, b, w) j41_ 0) ∧ ∃ j47_ : Nat, ((j47_ : Int) = v4_49.toInt) ∧ ∃ M45_ : mM, (M45_ = up M39_ (41, b, w) j47_ 0) ∧ ∃ z51_ : Int32, (z51_.toInt = v4_49.toInt + 1) ∧ v4_49y = z51_ ∧ M_49y = M45_
def SP_X9_begin (b : Nat) (w : Nat) (v : Int32) (u : Int32) (t : Int32) (Mz : mM) (M_ : mM) : Prop := ∃ M1_ : mM, (M1_ = up Mz (9, b, w) 0 v) ∧ ∃ M5_ : mM, (M5_ = up M1_ (9, b, w) 1 u) ∧ ∃ M9_ : mM, (M9_ = up M5_ (9, b, w) 2 t) ∧ ∃ M13_ : mM, (M13_ = up M9_ (9, b, w) 3 5) ∧ ∃ M17_ : mM, (M17_ = up M13_ (9, b, w) 4 60) ∧ ∃ M21_ : mM, (M21_ = up M17_ (9, b, w) 5 0) ∧ ∃ M25_ : mM, (M25_ = up M21_ (9, b, w) 6 0) ∧ ∃ M29_ : mM, (M29_ = up M25_ (9, b, w) 7 0) ∧ ∃ M33_ : mM, (M33_ = up M29_ (9, b, w) 8 0) ∧ ∃ v4_49 : Int32, (0 ≤ v4_49.toInt) ∧ (v4_49.toInt ≤ 192) ∧ ∃ M_49 : mM, (RCH (fun x_ y_ => ST_X9_begin_49 b w Mz x_.1 x_.2 y_.1 y_.2) ((0 : Int32), M33_) (v4_49, M_49)) ∧ (Inv M_49) ∧ (FR (S_c_X9_begin b w) Mz M_49) ∧ (192 ≤ v4_49.toInt) ∧ M_ = M_49
theorem lf_c_X9_begin_0  (v4_49 : Int32) (hv0_49 : 0 ≤ v4_49.toInt) (hv1_49 : v4_49.toInt ≤ 192) (h38_ : v4_49.toInt < 192) : 0 ≤ v4_49.toInt ∧ v4_49.toInt < ((192 : Nat) : Int) := by have r_v4_49 := rngI v4_49; omega
theorem lf_c_X9_begin_1 (M13_ : mM) (M17_ : mM) (M1_ : mM) (M21_ : mM) (M25_ : mM) (M29_ : mM) (M33_ : mM) (M39_ : mM) (M5_ : mM) (M9_ : mM) (M_49 : mM) (Mz : mM) (b : Nat) (w : Nat) (v : Int32) (u : Int32) (t : Int32) (v4_49 : Int32) (j41_ : Nat) (hb : b < 3) (hw : w < 8) (hM2_ : M1_ = up Mz (9, b, w) 0 v) (hM6_ : M5_ = up M1_ (9, b, w) 1 u) (hM10_ : M9_ = up M5_ (9, b, w) 2 t) (hM14_ : M13_ = up M9_ (9, b, w) 3 5) (hM18_ : M17_ = up M13_ (9, b, w) 4 60) (hM22_ : M21_ = up M17_ (9, b, w) 5 0) (hM26_ : M25_ = up M21_ (9, b, w) 6 0) (hM30_ : M29_ = up M25_ (9, b, w) 7 0) (hM34_ : M33_ = up M29_ (9, b, w) 8 0) (hv0_49 : 0 ≤ v4_49.toInt) (hv1_49 : v4_49.toInt ≤ 192) (h38_ : v4_49.toInt < 192) (h42_ : (j41_ : Int) = v4_49.toInt) (hM40_ : M39_ = up M_49 (40, b, w) j41_ 0) : 0 ≤ v4_49.toInt ∧ v4_49.toInt < ((192 : Nat) : Int) := by have r_v := rngI v; have r_u := rngI u; have r_t := rngI t; have r_v4_49 := rngI v4_49; omega
theorem lf_c_X9_begin_2 (M13_ : mM) (M17_ : mM) (M1_ : mM) (M21_ : mM) (M25_ : mM) (M29_ : mM) (M33_ : mM) (M39_ : mM) (M45_ : mM) (M5_ : mM) (M9_ : mM) (M_49 : mM) (Mz : mM) (b : Nat) (w : Nat) (v : Int32) (u : Int32) (t : Int32) (v4_49 : Int32) (j41_ : Nat) (j47_ : Nat) (hb : b < 3) (hw : w < 8) (hM2_ : M1_ = up Mz (9, b, w) 0 v) (hM6_ : M5_ = up M1_ (9, b, w) 1 u) (hM10_ : M9_ = up M5_ (9, b, w) 2 t) (hM14_ : M13_ = up M9_ (9, b, w) 3 5) (hM18_ : M17_ = up M13_ (9, b, w) 4 60) (hM22_ : M21_ = up M17_ (9, b, w) 5 0) (hM26_ : M25_ = up M21_ (9, b, w) 6 0) (hM30_ : M29_ = up M25_ (9, b, w) 7 0) (hM34_ : M33_ = up M29_ (9, b, w) 8 0) (hv0_49 : 0 ≤ v4_49.toInt) (hv1_49 : v4_49.toInt ≤ 192) (h38_ : v4_49.toInt < 192) (h42_ : (j41_ : Int) = v4_49.toInt) (hM40_ : M39_ = up M_49 (40, b, w) j41_ 0) (h48_ : (j47_ : Int) = v4_49.toInt) (hM46_ : M45_ = up M39_ (41, b, w) j47_ 0) : -2147483648 ≤ v4_49.toInt + 1 ∧ v4_49.toInt + 1 < 2147483648 := by have r_v := rngI v; have r_u := rngI u; have r_t := rngI t; have r_v4_49 := rngI v4_49; omega
theorem lf_c_X9_begin_3 (M13_ : mM) (M17_ : mM) (M1_ : mM) (M21_ : mM) (M25_ : mM) (M29_ : mM) (M33_ : mM) (M39_ : mM) (M45_ : mM) (M5_ : mM) (M9_ : mM) (M_49 : mM) (Mz : mM) (b : Nat) (w : Nat) (v : Int32) (u : Int32) (t : Int32) (v4_49 : Int32) (j41_ : Nat) (j47_ : Nat) (z51_ : Int32) (hb : b < 3) (hw : w < 8) (hM2_ : M1_ = up Mz (9, b, w) 0 v) (hM6_ : M5_ = up M1_ (9, b, w) 1 u) (hM10_ : M9_ = up M5_ (9, b, w) 2 t) (hM14_ : M13_ = up M9_ (9, b, w) 3 5) (hM18_ : M17_ = up M13_ (9, b, w) 4 60) (hM22_ : M21_ = up M17_ (9, b, w) 5 0) (hM26_ : M25_ = up M21_ (9, b, w) 6 0) (hM30_ : M29_ = up M25_ (9, b, w) 7 0) (hM34_ : M33_ = up M29_ (9, b, w) 8 0) (hv0_49 : 0 ≤ v4_49.toInt) (hv1_49 : v4_49.toInt ≤ 192) (h38_ : v4_49.toInt < 192) (h42_ : (j41_ : Int) = v4_49.toInt) (hM40_ : M39_ = up M_49 (40, b, w) j41_ 0) (h48_ : (j47_ : Int) = v4_49.toInt) (hM46_ : M45_ = up M39_ (41, b, w) j47_ 0) (h52_ : z51_.toInt = v4_49.toInt + 1) : 0 ≤ z51_.toInt := by have r_v := rngI v; have r_u := rngI u; have r_t := rngI t; have r_v4_49 := rngI v4_49; have r_z51_ := rngI z51_; omega
theorem lf_c_X9_begin_4 (M13_ : mM) (M17_ : mM) (M1_ : mM) (M21_ : mM) (M25_ : mM) (M29_ : mM) (M33_ : mM) (M39_ : mM) (M45_ : mM) (M5_ : mM) (M9_ : mM) (M_49 : mM) (Mz : mM) (b : Nat) (w : Nat) (v : Int32) (u : Int32) (t : Int32) (v4_49 : Int32) (j41_ : Nat) (j47_ : Nat) (z51_ : Int32) (hb : b < 3) (hw : w < 8) (hM2_ : M1_ = up Mz (9, b, w) 0 v) (hM6_ : M5_ = up M1_ (9, b, w) 1 u) (hM10_ : M9_ = up M5_ (9, b, w) 2 t) (hM14_ : M13_ = up M9_ (9, b, w) 3 5) (hM18_ : M17_ = up M13_ (9, b, w) 4 60) (hM22_ : M21_ = up M17_ (9, b, w) 5 0) (hM26_ : M25_ = up M21_ (9, b, w) 6 0) (hM30_ : M29_ = up M25_ (9, b, w) 7 0) (hM34_ : M33_ = up M29_ (9, b, w) 8 0) (hv0_49 : 0 ≤ v4_49.toInt) (hv1_49 : v4_49.toInt ≤ 192) (h38_ : v4_49.toInt < 192) (h42_ : (j41_ : Int) = v4_49.toInt) (hM40_ : M39_ = up M_49 (40, b, w) j41_ 0) (h48_ : (j47_ : Int) = v4_49.toInt) (hM46_ : M45_ = up M39_ (41, b, w) j47_ 0) (h52_ : z51_.toInt = v4_49.toInt + 1) : z51_.toInt ≤ 192 := by have r_v := rngI v; have r_u := rngI u; have r_t := rngI t; have r_v4_49 := rngI v4_49; have r_z51_ := rngI z51_; omega
theorem lf_c_X9_begin_5 (M13_ : mM) (M17_ : mM) (M1_ : mM) (M21_ : mM) (M25_ : mM) (M29_ : mM) (M33_ : mM) (M39_ : mM) (M45_ : mM) (M5_ : mM) (M9_ : mM) (M_49 : mM) (Mz : mM) (b : Nat) (w : Nat) (v : Int32) (u : Int32) (t : Int32) (v4_49 : Int32) (j41_ : Nat) (j47_ : Nat) (z51_ : Int32) (hb : b < 3) (hw : w < 8) (hM2_ : M1_ = up Mz (9, b, w) 0 v) (hM6_ : M5_ = up M1_ (9, b, w) 1 u) (hM10_ : M9_ = up M5_ (9, b, w) 2 t) (hM14_ : M13_ = up M9_ (9, b, w) 3 5) (hM18_ : M17_ = up M13_ (9, b, w) 4 60) (hM22_ : M21_ = up M17_ (9, b, w) 5 0) (hM26_ : M25_ = up M21_ (9, b, w) 6 0) (hM30_ : M29_ = up M25_ (9, b, w) 7 0) (hM34_ : M33_ = up M29_ (9, b, w) 8 0) (hv0_49 : 0 ≤ v4_49.toInt) (hv1_49 : v4_49.toInt ≤ 192) (h38_ : v4_49.toInt < 192) (h42_ : (j41_ : Int) = v4_49.toInt) (hM40_ : M39_ = up M_49 (40, b, w) j41_ 0) (h48_ : (j47_ : Int) = v4_49.toInt) (hM46_ : M45_ = up M39_ (41, b, w) j47_ 0) (h52_ : z51_.toInt = v4_49.toInt + 1) : (2147483648 - z51_.toInt).toNat < (2147483648 - v4_49.toInt).toNat := by have r_v := rngI v; have r_u := rngI u; have r_t := rngI t; have r_v4_49 := rngI v4_49; have r_z51_ := rngI z51_; omega
theorem lf_c_X9_begin_6    : 0 ≤ (0 : Int32).toInt := by have q0 := li_0; omega
theorem lf_c_X9_begin_7    : (0 : Int32).toInt ≤ 192 := by have q0 := li_0; omega
set_option maxHeartbeats 4000000 in
set_option maxRecDepth 100000 in
theorem c_X9_begin (l : Launch) (G : va_G) (cy : Nat → ClassId) (ad : rf → Nat) (d : Nat) (b : Nat) (w : Nat) (v : Int32) (u : Int32) (t : Int32) (Mz : mM) (hIz : Inv Mz) (hb : b < 3) (hw : w < 8) : WP CC l G cy ad yX9_begin cX9_begin 5 none d 0 [(0, vR (9, b, w)), (1, vI v), (2, vI u), (3, vI t)] [] Mz (fun r M' => Inv M' ∧ FR (S_c_X9_begin b w) Mz M' ∧ (True) ∧ SP_X9_begin b w v u t Mz M') := by
  have hFz : FR (S_c_X9_begin b w) Mz Mz := FR.self
  refine w_aload_n dX9_begin_0 rfl 0 rfl ?_
  refine w_iload_n dX9_begin_1 rfl 1 rfl ?_
  refine w_putI CC_nd fl_RX9_7 rfl rfl (ic_9 hb hw) dX9_begin_2 (fun M1_ hM2_ => ?_)
  have hI3_ := hIz.put hM2_ (fun h => absurd h (by decide))
  have hF4_ := hFz.put hM2_ (Or.inl ⟨rfl, rfl, rfl, rfl⟩)
  refine w_aload_n dX9_begin_5 rfl 0 rfl ?_
  refine w_iload_n dX9_begin_6 rfl 2 rfl ?_
  refine w_putI CC_nd fl_RX9_13 rfl rfl (ic_9 hb hw) dX9_begin_7 (fun M5_ hM6_ => ?_)
  have hI7_ := hI3_.put hM6_ (fun h => absurd h (by decide))
  have hF8_ := hF4_.put hM6_ (Or.inr (Or.inl ⟨rfl, rfl, rfl, rfl⟩))
  refine w_aload_n dX9_begin_10 rfl 0 rfl ?_
  refine w_iload_n dX9_begin_11 rfl 3 rfl ?_
  refine w_putI CC_nd fl_RX9_16 rfl rfl (ic_9 hb hw) dX9_begin_12 (fun M9_ hM10_ => ?_)
  have hI11_ := hI7_.put hM10_ (fun h => absurd h (by decide))
  have hF12_ := hF8_.put hM10_ (Or.inr (Or.inr (Or.inl ⟨rfl, rfl, rfl, rfl⟩)))
  refine w_aload_n dX9_begin_15 rfl 0 rfl ?_
  refine w_iconst (v := 5) dX9_begin_16 (by decide) ?_
  refine w_putI CC_nd fl_RX9_19 rfl rfl (ic_9 hb hw) dX9_begin_17 (fun M13_ hM14_ => ?_)
  have hI15_ := hI11_.put hM14_ (fun h => absurd h (by decide))
  have hF16_ := hF12_.put hM14_ (Or.inr (Or.inr (Or.inr (Or.inl ⟨rfl, rfl, rfl, rfl⟩))))
  refine w_aload_n dX9_begin_20 rfl 0 rfl ?_
  refine w_bipush (v := 60) dX9_begin_21 (by decide) ?_
  refine w_putI CC_nd fl_RX9_22 rfl rfl (ic_9 hb hw) dX9_begin_23 (fun M17_ hM18_ => ?_)
  have hI19_ := hI15_.put hM18_ (fun h => absurd h (by decide))
  have hF20_ := hF16_.put hM18_ (Or.inr (Or.inr (Or.inr (Or.inr (Or.inl ⟨rfl, rfl, rfl, rfl⟩)))))
  refine w_aload_n dX9_begin_26 rfl 0 rfl ?_
  refine w_iconst (v := 0) dX9_begin_27 (by decide) ?_
  refine w_putI CC_nd fl_RX9_25 rfl rfl (ic_9 hb hw) dX9_begin_28 (fun M21_ hM22_ => ?_)
  have hI23_ := hI19_.put hM22_ (fun h => absurd h (by decide))
  have hF24_ := hF20_.put hM22_ (Or.inr (Or.inr (Or.inr (Or.inr (Or.inr (Or.inl ⟨rfl, rfl, rfl, rfl⟩))))))
  refine w_aload_n dX9_begin_31 rfl 0 rfl ?_
  refine w_iconst (v := 0) dX9_begin_32 (by decide) ?_
  refine w_putZ CC_nd fl_RX9_28 rfl rfl (ic_9 hb hw) ⟨by decide, by decide⟩ dX9_begin_33 (fun M25_ hM26_ => ?_)
  have hI27_ := hI23_.put hM26_ (fun _ => ⟨by decide, by decide⟩)
  have hF28_ := hF24_.put hM26_ (Or.inr (Or.inr (Or.inr (Or.inr (Or.inr (Or.inr (Or.inl ⟨rfl, rfl, rfl, rfl⟩)))))))
  refine w_aload_n dX9_begin_36 rfl 0 rfl ?_
  refine w_iconst (v := 0) dX9_begin_37 (by decide) ?_
  refine w_putI CC_nd fl_RX9_32 rfl rfl (ic_9 hb hw) dX9_begin_38 (fun M29_ hM30_ => ?_)
  have hI31_ := hI27_.put hM30_ (fun h => absurd h (by decide))
  have hF32_ := hF28_.put hM30_ (Or.inr (Or.inr (Or.inr (Or.inr (Or.inr (Or.inr (Or.inr (Or.inl ⟨rfl, rfl, rfl, rfl⟩))))))))
  refine w_aload_n dX9_begin_41 rfl 0 rfl ?_
  refine w_iconst (v := 0) dX9_begin_42 (by decide) ?_
  refine w_putI CC_nd fl_RX9_35 rfl rfl (ic_9 hb hw) dX9_begin_43 (fun M33_ hM34_ => ?_)
  have hI35_ := hI31_.put hM34_ (fun h => absurd h (by decide))
  have hF36_ := hF32_.put hM34_ (Or.inr (Or.inr (Or.inr (Or.inr (Or.inr (Or.inr (Or.inr (Or.inr (Or.inl ⟨rfl, rfl, rfl, rfl⟩)))))))))
  refine w_iconst (v := 0) dX9_begin_46 (by decide) ?_
  refine w_istore (ls' := [(4, vI 0), (0, vR (9, b, w)), (1, vI v), (2, vI u), (3, vI t)]) dX9_begin_47 (by decide) rfl ?_
  have lp37_ : ∀ (nn_49 : Nat) (M_49 : mM) (hI_49 : Inv M_49) (hF_49 : FR (S_c_X9_begin b w) Mz M_49) (v4_49 : Int32) (hv0_49 : 0 ≤ v4_49.toInt) (hv1_49 : v4_49.toInt ≤ 192) (hL_49 : RCH (fun x_ y_ => ST_X9_begin_49 b w Mz x_.1 x_.2 y_.1 y_.2) ((0 : Int32), M33_) (v4_49, M_49)), (2147483648 - v4_49.toInt).toNat < nn_49 → WP CC l G cy ad yX9_begin cX9_begin 5 none d 49 [(4, vI v4_49), (0, vR (9, b, w)), (1, vI v), (2, vI u), (3, vI t)] [] M_49 (fun r M' => Inv M' ∧ FR (S_c_X9_begin b w) Mz M' ∧ (True) ∧ SP_X9_begin b w v u t Mz M') := by
    intro nn_49
    induction nn_49 with
    | zero => intro M_49 hI_49 hF_49 v4_49 hv0_49 hv1_49 hL_49 hm_49; exact absurd hm_49 (Nat.not_lt_zero _)
    | succ nn_49 ih_49 =>
      intro M_49 hI_49 hF_49 v4_49 hv0_49 hv1_49 hL_49 hm_49
      refine w_iload dX9_begin_49 0 rfl ?_
      refine w_sipush (v := 192) dX9_begin_51 (by decide) ?_
      refine w_icmp_ge (tgt := 79) dX9_begin_54 (by decide) (rfl : v4_49.toInt = v4_49.toInt) li_192 (fun h38_ => ?_) (fun h38_ => ?_)
      · exact w_vret rfl dX9_begin_79 ⟨hI_49, hF_49, trivial, ⟨M1_, hM2_, M5_, hM6_, M9_, hM10_, M13_, hM14_, M17_, hM18_, M21_, hM22_, M25_, hM26_, M29_, hM30_, M33_, hM34_, v4_49, hv0_49, hv1_49, M_49, hL_49, hI_49, hF_49, h38_, rfl⟩⟩
      · refine w_aload_n dX9_begin_57 rfl 1 rfl ?_
        refine w_getR (c' := (40, b, w)) fl_RX9_40 rfl rfl (ic_9 hb hw) dX9_begin_58 rfl ?_
        refine w_iload dX9_begin_61 0 rfl ?_
        refine w_iconst (v := 0) dX9_begin_63 (by decide) ?_
        refine w_iast CC_nd rfl rfl (ic_40 hb hw) (rfl : v4_49.toInt = v4_49.toInt) (lf_c_X9_begin_0 v4_49 hv0_49 hv1_49 h38_) dX9_begin_64 (fun j41_ h42_ M39_ hM40_ => ?_)
        have hI43_ := hI_49.put hM40_ trivial
        have hF44_ := hF_49.put hM40_ (Or.inr (Or.inr (Or.inr (Or.inr (Or.inr (Or.inr (Or.inr (Or.inr (Or.inr (Or.inl ⟨rfl, rfl, rfl⟩))))))))))
        refine w_aload_n dX9_begin_65 rfl 1 rfl ?_
        refine w_getR (c' := (41, b, w)) fl_RX9_44 rfl rfl (ic_9 hb hw) dX9_begin_66 rfl ?_
        refine w_iload dX9_begin_69 0 rfl ?_
        refine w_iconst (v := 0) dX9_begin_71 (by decide) ?_
        refine w_iast CC_nd rfl rfl (ic_41 hb hw) (rfl : v4_49.toInt = v4_49.toInt) (lf_c_X9_begin_1 M13_ M17_ M1_ M21_ M25_ M29_ M33_ M39_ M5_ M9_ M_49 Mz b w v u t v4_49 j41_ hb hw hM2_ hM6_ hM10_ hM14_ hM18_ hM22_ hM26_ hM30_ hM34_ hv0_49 hv1_49 h38_ h42_ hM40_) dX9_begin_72 (fun j47_ h48_ M45_ hM46_ => ?_)
        have hI49_ := hI43_.put hM46_ trivial
        have hF50_ := hF44_.put hM46_ (Or.inr (Or.inr (Or.inr (Or.inr (Or.inr (Or.inr (Or.inr (Or.inr (Or.inr (Or.inr (Or.inl ⟨rfl, rfl, rfl⟩)))))))))))
        refine w_iincB (j := 0) (f := fun z51_ => [(4, vI z51_), (0, vR (9, b, w)), (1, vI v), (2, vI u), (3, vI t)]) dX9_begin_73 rfl (by decide) (fun _ => rfl) (rfl : v4_49.toInt = v4_49.toInt) li_1 (lf_c_X9_begin_2 M13_ M17_ M1_ M21_ M25_ M29_ M33_ M39_ M45_ M5_ M9_ M_49 Mz b w v u t v4_49 j41_ j47_ hb hw hM2_ hM6_ hM10_ hM14_ hM18_ hM22_ hM26_ hM30_ hM34_ hv0_49 hv1_49 h38_ h42_ hM40_ h48_ hM46_) (fun z51_ h52_ => ?_)
        refine w_goto (tgt := 49) dX9_begin_76 (by decide) ?_
        refine w_loc (ls' := [(4, vI z51_), (0, vR (9, b, w)), (1, vI v), (2, vI u), (3, vI t)]) [0, 1, 2, 3, 4] rfl ?_
        exact ih_49 M45_ hI49_ hF50_ z51_ (lf_c_X9_begin_3 M13_ M17_ M1_ M21_ M25_ M29_ M33_ M39_ M45_ M5_ M9_ M_49 Mz b w v u t v4_49 j41_ j47_ z51_ hb hw hM2_ hM6_ hM10_ hM14_ hM18_ hM22_ hM26_ hM30_ hM34_ hv0_49 hv1_49 h38_ h42_ hM40_ h48_ hM46_ h52_) (lf_c_X9_begin_4 M13_ M17_ M1_ M21_ M25_ M29_ M33_ M39_ M45_ M5_ M9_ M_49 Mz b w v u t v4_49 j41_ j47_ z51_ hb hw hM2_ hM6_ hM10_ hM14_ hM18_ hM22_ hM26_ hM30_ hM34_ hv0_49 hv1_49 h38_ h42_ hM40_ h48_ hM46_ h52_) (RCH.tail hL_49 ⟨hv0_49, hv1_49, hI_49, hF_49, h38_, j41_, h42_, M39_, hM40_, j47_, h48_, M45_, hM46_, z51_, h52_, rfl, rfl⟩) (Nat.lt_of_lt_of_le (lf_c_X9_begin_5 M13_ M17_ M1_ M21_ M25_ M29_ M33_ M39_ M45_ M5_ M9_ M_49 Mz b w v u t v4_49 j41_ j47_ z51_ hb hw hM2_ hM6_ hM10_ hM14_ hM18_ hM22_ hM26_ hM30_ hM34_ hv0_49 hv1_49 h38_ h42_ hM40_ h48_ hM46_ h52_) (Nat.le_of_lt_succ hm_49))
  exact lp37_ _ M33_ hI35_ hF36_ 0 (lf_c_X9_begin_6 ) (lf_c_X9_begin_7 ) RCH.refl (Nat.lt_succ_self _)
def ST_X9_isOf_7 (v : Int32) (Mz : mM) (v3_7 : Int32) (v2_7 : Int32) (v3_7y : Int32) (v2_7y : Int32) : Prop := (0 ≤ v3_7.toInt) ∧ (v3_7.toInt ≤ 8) ∧ (v3_7.toInt < 8) ∧ (0 ≤ v2_7.toInt) ∧ (¬ v2_7.toInt = v.toInt) ∧ ∃ r7_ : Int32, (SP_X9_kindAbove v2_7 Mz r7_) ∧ ∃ z12_ : Int32, (z12_.toInt = v3_7.toInt + 1) ∧ v3_7y = z12_ ∧ v2_7y = r7_
def SP_X9_isOf (b : Nat) (w : Nat) (v : Int32) (Mz : mM) (r_ : Int32) : Prop := ∃ z1_ : Int32, (z1_ = Mz.1 (9, b, w) 0) ∧ ∃ v3_7 : Int32, (0 ≤ v3_7.toInt) ∧ (v3_7.toInt ≤ 8) ∧ ∃ v2_7 : Int32, (RCH (fun x_ y_ => ST_X9_isOf_7 v Mz x_.1 x_.2 y_.1 y_.2) ((0 : Int32), z1_) (v3_7, v2_7)) ∧ (((8 ≤ v3_7.toInt) ∧ r_ = 0) ∨ ((v3_7.toInt < 8) ∧ (((v2_7.toInt < 0) ∧ r_ = 0) ∨ ((0 ≤ v2_7.toInt) ∧ (v2_7.toInt = v.toInt) ∧ r_ = 1))))
theorem lf_c_X9_isOf_0  (v3_7 : Int32) (hv0_7 : 0 ≤ v3_7.toInt) (hv1_7 : v3_7.toInt ≤ 8) (h4_ : v3_7.toInt < 8) : -2147483648 ≤ v3_7.toInt + 1 ∧ v3_7.toInt + 1 < 2147483648 := by have r_v3_7 := rngI v3_7; omega
theorem lf_c_X9_isOf_1  (v3_7 : Int32) (z12_ : Int32) (hv0_7 : 0 ≤ v3_7.toInt) (hv1_7 : v3_7.toInt ≤ 8) (h4_ : v3_7.toInt < 8) (h13_ : z12_.toInt = v3_7.toInt + 1) : 0 ≤ z12_.toInt := by have r_v3_7 := rngI v3_7; have r_z12_ := rngI z12_; omega
theorem lf_c_X9_isOf_2  (v3_7 : Int32) (z12_ : Int32) (hv0_7 : 0 ≤ v3_7.toInt) (hv1_7 : v3_7.toInt ≤ 8) (h4_ : v3_7.toInt < 8) (h13_ : z12_.toInt = v3_7.toInt + 1) : z12_.toInt ≤ 8 := by have r_v3_7 := rngI v3_7; have r_z12_ := rngI z12_; omega
theorem lf_c_X9_isOf_3  (v3_7 : Int32) (z12_ : Int32) (hv0_7 : 0 ≤ v3_7.toInt) (hv1_7 : v3_7.toInt ≤ 8) (h4_ : v3_7.toInt < 8) (h13_ : z12_.toInt = v3_7.toInt + 1) : (2147483648 - z12_.toInt).toNat < (2147483648 - v3_7.toInt).toNat := by have r_v3_7 := rngI v3_7; have r_z12_ := rngI z12_; omega
theorem lf_c_X9_isOf_4    : 0 ≤ (0 : Int32).toInt := by have q0 := li_0; omega
theorem lf_c_X9_isOf_5    : (0 : Int32).toInt ≤ 8 := by have q0 := li_0; omega
set_option maxHeartbeats 4000000 in
set_option maxRecDepth 100000 in
theorem c_X9_isOf (l : Launch) (G : va_G) (cy : Nat → ClassId) (ad : rf → Nat) (d : Nat) (b : Nat) (w : Nat) (v : Int32) (Mz : mM) (hIz : Inv Mz) (hb : b < 3) (hw : w < 8) : WP CC l G cy ad yX9_isOf cX9_isOf 4 (some .boolean) (d + 1) 0 [(0, vR (9, b, w)), (1, vI v)] [] Mz (fun r M' => Mz = M' ∧ ((0 ≤ r.toInt ∧ r.toInt ≤ 1)) ∧ SP_X9_isOf b w v Mz r) := by
  refine w_aload_n dX9_isOf_0 rfl 0 rfl ?_
  refine w_getI fl_RX9_7 rfl rfl (ic_9 hb hw) dX9_isOf_1 (fun z1_ e2_ => ?_)
  refine w_istore_n (ls' := [(2, vI z1_), (0, vR (9, b, w)), (1, vI v)]) dX9_isOf_4 rfl (by decide) rfl ?_
  refine w_iconst (v := 0) dX9_isOf_5 (by decide) ?_
  refine w_istore_n (ls' := [(3, vI 0), (2, vI z1_), (0, vR (9, b, w)), (1, vI v)]) dX9_isOf_6 rfl (by decide) rfl ?_
  have lp3_ : ∀ (nn_7 : Nat) (v3_7 : Int32) (v2_7 : Int32) (hv0_7 : 0 ≤ v3_7.toInt) (hv1_7 : v3_7.toInt ≤ 8) (hL_7 : RCH (fun x_ y_ => ST_X9_isOf_7 v Mz x_.1 x_.2 y_.1 y_.2) ((0 : Int32), z1_) (v3_7, v2_7)), (2147483648 - v3_7.toInt).toNat < nn_7 → WP CC l G cy ad yX9_isOf cX9_isOf 4 (some .boolean) (d + 1) 7 [(3, vI v3_7), (2, vI v2_7), (0, vR (9, b, w)), (1, vI v)] [] Mz (fun r M' => Mz = M' ∧ ((0 ≤ r.toInt ∧ r.toInt ≤ 1)) ∧ SP_X9_isOf b w v Mz r) := by
    intro nn_7
    induction nn_7 with
    | zero => intro v3_7 v2_7 hv0_7 hv1_7 hL_7 hm_7; exact absurd hm_7 (Nat.not_lt_zero _)
    | succ nn_7 ih_7 =>
      intro v3_7 v2_7 hv0_7 hv1_7 hL_7 hm_7
      refine w_iload_n dX9_isOf_7 rfl 0 rfl ?_
      refine w_bipush (v := 8) dX9_isOf_8 (by decide) ?_
      refine w_icmp_ge (tgt := 35) dX9_isOf_10 (by decide) (rfl : v3_7.toInt = v3_7.toInt) li_8 (fun h4_ => ?_) (fun h4_ => ?_)
      · refine w_iconst (v := 0) dX9_isOf_35 (by decide) ?_
        exact w_zret rfl dX9_isOf_36 ⟨by decide, by decide⟩ ⟨rfl, ⟨by decide, by decide⟩, ⟨z1_, e2_, v3_7, hv0_7, hv1_7, v2_7, hL_7, (Or.inl ⟨h4_, rfl⟩)⟩⟩
      · refine w_iload_n dX9_isOf_13 rfl 1 rfl ?_
        refine w_if_lt (tgt := 35) dX9_isOf_14 (by decide) (rfl : v2_7.toInt = v2_7.toInt) (fun h5_ => ?_) (fun h5_ => ?_)
        · refine w_iconst (v := 0) dX9_isOf_35 (by decide) ?_
          exact w_zret rfl dX9_isOf_36 ⟨by decide, by decide⟩ ⟨rfl, ⟨by decide, by decide⟩, ⟨z1_, e2_, v3_7, hv0_7, hv1_7, v2_7, hL_7, (Or.inr ⟨h4_, (Or.inl ⟨h5_, rfl⟩)⟩)⟩⟩
        · refine w_iload_n dX9_isOf_17 rfl 1 rfl ?_
          refine w_iload_n dX9_isOf_18 rfl 3 rfl ?_
          refine w_icmp_ne (tgt := 24) dX9_isOf_19 (by decide) (rfl : v2_7.toInt = v2_7.toInt) (rfl : v.toInt = v.toInt) (fun h6_ => ?_) (fun h6_ => ?_)
          · refine w_iload_n dX9_isOf_24 rfl 1 rfl ?_
            refine w_callS (as := [vI v2_7]) (rest := []) (c_X9_kindAbove l G cy ad d v2_7 Mz hIz) kS_X9_kindAbove (by decide +kernel) (Nat.le_of_ble_eq_true rfl) m_643 rfl rfl (by decide) (Nat.le_of_ble_eq_true rfl) dX9_isOf_25 (fun r7_ M8_ q9_ => ?_)
            obtain ⟨rfl, h10_, hs11_⟩ := q9_
            refine w_istore_n (ls' := [(2, vI r7_), (3, vI v3_7), (0, vR (9, b, w)), (1, vI v)]) dX9_isOf_28 rfl (by decide) rfl ?_
            refine w_iincB (j := 1) (f := fun z12_ => [(3, vI z12_), (2, vI r7_), (0, vR (9, b, w)), (1, vI v)]) dX9_isOf_29 rfl (by decide) (fun _ => rfl) (rfl : v3_7.toInt = v3_7.toInt) li_1 (lf_c_X9_isOf_0 v3_7 hv0_7 hv1_7 h4_) (fun z12_ h13_ => ?_)
            refine w_goto (tgt := 7) dX9_isOf_32 (by decide) ?_
            refine w_loc (ls' := [(3, vI z12_), (2, vI r7_), (0, vR (9, b, w)), (1, vI v)]) [0, 1, 2, 3] rfl ?_
            exact ih_7 z12_ r7_ (lf_c_X9_isOf_1 v3_7 z12_ hv0_7 hv1_7 h4_ h13_) (lf_c_X9_isOf_2 v3_7 z12_ hv0_7 hv1_7 h4_ h13_) (RCH.tail hL_7 ⟨hv0_7, hv1_7, h4_, h5_, h6_, r7_, hs11_, z12_, h13_, rfl, rfl⟩) (Nat.lt_of_lt_of_le (lf_c_X9_isOf_3 v3_7 z12_ hv0_7 hv1_7 h4_ h13_) (Nat.le_of_lt_succ hm_7))
          · refine w_iconst (v := 1) dX9_isOf_22 (by decide) ?_
            exact w_zret rfl dX9_isOf_23 ⟨by decide, by decide⟩ ⟨rfl, ⟨by decide, by decide⟩, ⟨z1_, e2_, v3_7, hv0_7, hv1_7, v2_7, hL_7, (Or.inr ⟨h4_, (Or.inr ⟨h5_, h6_, rfl⟩)⟩)⟩⟩
  exact lp3_ _ 0 z1_ (lf_c_X9_isOf_4 ) (lf_c_X9_isOf_5 ) RCH.refl (Nat.lt_succ_self _)
def SP_X9_factOf (b : Nat) (w : Nat) (v : Int32) (Mz : mM) (r_ : Int32) : Prop := (((v.toInt = 0) ∧ ∃ z2_ : Int32, (z2_ = Mz.1 (9, b, w) 0) ∧ r_ = z2_) ∨ ((v.toInt = 1) ∧ ∃ z4_ : Int32, (z4_ = Mz.1 (9, b, w) 1) ∧ r_ = z4_) ∨ ((v.toInt = 2) ∧ ∃ z6_ : Int32, (z6_ = Mz.1 (9, b, w) 2) ∧ r_ = z6_) ∨ ((v.toInt = 3) ∧ ∃ z8_ : Int32, (z8_ = Mz.1 (9, b, w) 3) ∧ r_ = z8_) ∨ ((v.toInt = 4) ∧ ∃ z10_ : Int32, (z10_ = Mz.1 (9, b, w) 4) ∧ r_ = z10_) ∨ ((v.toInt = 5) ∧ ∃ z12_ : Int32, (z12_ = Mz.1 (9, b, w) 5) ∧ r_ = z12_) ∨ ((v.toInt = 6) ∧ ∃ z14_ : Int32, (z14_ = Mz.1 (9, b, w) 6) ∧ (0 ≤ z14_.toInt ∧ z14_.toInt ≤ 1) ∧ (((z14_.toInt = 0) ∧ r_ = 0) ∨ ((¬ z14_.toInt = 0) ∧ r_ = 1))) ∨ ((v.toInt = 7) ∧ ∃ z18_ : Int32, (z18_ = Mz.1 (9, b, w) 7) ∧ r_ = z18_) ∨ ((v.toInt = 8) ∧ ∃ z20_ : Int32, (z20_ = Mz.1 (9, b, w) 8) ∧ r_ = z20_) ∨ ((v.toInt = 9) ∧ ∃ r22_ : Int32, (SP_X9_reach b w Mz r22_) ∧ (0 ≤ r22_.toInt ∧ r22_.toInt ≤ 12) ∧ r_ = r22_) ∨ ((v.toInt = 10) ∧ ∃ r27_ : Int32, (SP_X9_speed b w Mz r27_) ∧ (0 ≤ r27_.toInt ∧ r27_.toInt ≤ 2) ∧ r_ = r27_) ∨ (((¬ v.toInt = 0 ∧ ¬ v.toInt = 1 ∧ ¬ v.toInt = 2 ∧ ¬ v.toInt = 3 ∧ ¬ v.toInt = 4 ∧ ¬ v.toInt = 5 ∧ ¬ v.toInt = 6 ∧ ¬ v.toInt = 7 ∧ ¬ v.toInt = 8 ∧ ¬ v.toInt = 9 ∧ ¬ v.toInt = 10)) ∧ ∃ r32_ : Int32, (SP_X9_ears b w Mz r32_) ∧ (0 ≤ r32_.toInt ∧ r32_.toInt ≤ 9) ∧ r_ = r32_))
theorem lf_c_X9_factOf_0  (v : Int32)  : v.toInt = 0 ∨ v.toInt = 1 ∨ v.toInt = 2 ∨ v.toInt = 3 ∨ v.toInt = 4 ∨ v.toInt = 5 ∨ v.toInt = 6 ∨ v.toInt = 7 ∨ v.toInt = 8 ∨ v.toInt = 9 ∨ v.toInt = 10 ∨ (¬ v.toInt = 0 ∧ ¬ v.toInt = 1 ∧ ¬ v.toInt = 2 ∧ ¬ v.toInt = 3 ∧ ¬ v.toInt = 4 ∧ ¬ v.toInt = 5 ∧ ¬ v.toInt = 6 ∧ ¬ v.toInt = 7 ∧ ¬ v.toInt = 8 ∧ ¬ v.toInt = 9 ∧ ¬ v.toInt = 10) := by have r_v := rngI v; omega
theorem lf_c_X9_factOf_1  (v : Int32) (e1_ : (¬ v.toInt = 0 ∧ ¬ v.toInt = 1 ∧ ¬ v.toInt = 2 ∧ ¬ v.toInt = 3 ∧ ¬ v.toInt = 4 ∧ ¬ v.toInt = 5 ∧ ¬ v.toInt = 6 ∧ ¬ v.toInt = 7 ∧ ¬ v.toInt = 8 ∧ ¬ v.toInt = 9 ∧ ¬ v.toInt = 10)) : v.toInt < 0 ∨ 10 < v.toInt := by have r_v := rngI v; omega
set_option maxHeartbeats 4000000 in
set_option maxRecDepth 100000 in
theorem c_X9_factOf (l : Launch) (G : va_G) (cy : Nat → ClassId) (ad : rf → Nat) (d : Nat) (b : Nat) (w : Nat) (v : Int32) (Mz : mM) (hIz : Inv Mz) (hb : b < 3) (hw : w < 8) : WP CC l G cy ad yX9_factOf cX9_factOf 2 (some .int) (d + 1) 0 [(0, vR (9, b, w)), (1, vI v)] [] Mz (fun r M' => Mz = M' ∧ (True) ∧ SP_X9_factOf b w v Mz r) := by
  refine w_iload_n dX9_factOf_0 rfl 1 rfl ?_
  rcases (lf_c_X9_factOf_0 v) with e1_ | e1_ | e1_ | e1_ | e1_ | e1_ | e1_ | e1_ | e1_ | e1_ | e1_ | e1_
  · refine w_tsIn (tgt := 60) (off := 59) dX9_factOf_1 e1_ (by decide) (by decide) rfl (by decide) ?_
    refine w_aload_n dX9_factOf_60 rfl 0 rfl ?_
    refine w_getI fl_RX9_7 rfl rfl (ic_9 hb hw) dX9_factOf_61 (fun z2_ e3_ => ?_)
    exact w_iret rfl dX9_factOf_64 ⟨rfl, trivial, (Or.inl ⟨e1_, z2_, e3_, rfl⟩)⟩
  · refine w_tsIn (tgt := 65) (off := 64) dX9_factOf_1 e1_ (by decide) (by decide) rfl (by decide) ?_
    refine w_aload_n dX9_factOf_65 rfl 0 rfl ?_
    refine w_getI fl_RX9_13 rfl rfl (ic_9 hb hw) dX9_factOf_66 (fun z4_ e5_ => ?_)
    exact w_iret rfl dX9_factOf_69 ⟨rfl, trivial, (Or.inr (Or.inl ⟨e1_, z4_, e5_, rfl⟩))⟩
  · refine w_tsIn (tgt := 70) (off := 69) dX9_factOf_1 e1_ (by decide) (by decide) rfl (by decide) ?_
    refine w_aload_n dX9_factOf_70 rfl 0 rfl ?_
    refine w_getI fl_RX9_16 rfl rfl (ic_9 hb hw) dX9_factOf_71 (fun z6_ e7_ => ?_)
    exact w_iret rfl dX9_factOf_74 ⟨rfl, trivial, (Or.inr (Or.inr (Or.inl ⟨e1_, z6_, e7_, rfl⟩)))⟩
  · refine w_tsIn (tgt := 75) (off := 74) dX9_factOf_1 e1_ (by decide) (by decide) rfl (by decide) ?_
    refine w_aload_n dX9_factOf_75 rfl 0 rfl ?_
    refine w_getI fl_RX9_19 rfl rfl (ic_9 hb hw) dX9_factOf_76 (fun z8_ e9_ => ?_)
    exact w_iret rfl dX9_factOf_79 ⟨rfl, trivial, (Or.inr (Or.inr (Or.inr (Or.inl ⟨e1_, z8_, e9_, rfl⟩))))⟩
  · refine w_tsIn (tgt := 80) (off := 79) dX9_factOf_1 e1_ (by decide) (by decide) rfl (by decide) ?_
    refine w_aload_n dX9_factOf_80 rfl 0 rfl ?_
    refine w_getI fl_RX9_22 rfl rfl (ic_9 hb hw) dX9_factOf_81 (fun z10_ e11_ => ?_)
    exact w_iret rfl dX9_factOf_84 ⟨rfl, trivial, (Or.inr (Or.inr (Or.inr (Or.inr (Or.inl ⟨e1_, z10_, e11_, rfl⟩)))))⟩
  · refine w_tsIn (tgt := 85) (off := 84) dX9_factOf_1 e1_ (by decide) (by decide) rfl (by decide) ?_
    refine w_aload_n dX9_factOf_85 rfl 0 rfl ?_
    refine w_getI fl_RX9_25 rfl rfl (ic_9 hb hw) dX9_factOf_86 (fun z12_ e13_ => ?_)
    exact w_iret rfl dX9_factOf_89 ⟨rfl, trivial, (Or.inr (Or.inr (Or.inr (Or.inr (Or.inr (Or.inl ⟨e1_, z12_, e13_, rfl⟩))))))⟩
  · refine w_tsIn (tgt := 90) (off := 89) dX9_factOf_1 e1_ (by decide) (by decide) rfl (by decide) ?_
    refine w_aload_n dX9_factOf_90 rfl 0 rfl ?_
    refine w_getI fl_RX9_28 rfl rfl (ic_9 hb hw) dX9_factOf_91 (fun z14_ e15_ => ?_)
    have h16_ : 0 ≤ z14_.toInt ∧ z14_.toInt ≤ 1 := ofEq (P := fun v => 0 ≤ v.toInt ∧ v.toInt ≤ 1) e15_ (hIz (9, b, w) 6 rfl)
    refine w_if_eq (tgt := 101) dX9_factOf_94 (by decide) (rfl : z14_.toInt = z14_.toInt) (fun h17_ => ?_) (fun h17_ => ?_)
    · refine w_iconst (v := 0) dX9_factOf_101 (by decide) ?_
      exact w_iret rfl dX9_factOf_102 ⟨rfl, trivial, (Or.inr (Or.inr (Or.inr (Or.inr (Or.inr (Or.inr (Or.inl ⟨e1_, z14_, e15_, h16_, (Or.inl ⟨h17_, rfl⟩)⟩)))))))⟩
    · refine w_iconst (v := 1) dX9_factOf_97 (by decide) ?_
      refine w_goto (tgt := 102) dX9_factOf_98 (by decide) ?_
      exact w_iret rfl dX9_factOf_102 ⟨rfl, trivial, (Or.inr (Or.inr (Or.inr (Or.inr (Or.inr (Or.inr (Or.inl ⟨e1_, z14_, e15_, h16_, (Or.inr ⟨h17_, rfl⟩)⟩)))))))⟩
  · refine w_tsIn (tgt := 103) (off := 102) dX9_factOf_1 e1_ (by decide) (by decide) rfl (by decide) ?_
    refine w_aload_n dX9_factOf_103 rfl 0 rfl ?_
    refine w_getI fl_RX9_32 rfl rfl (ic_9 hb hw) dX9_factOf_104 (fun z18_ e19_ => ?_)
    exact w_iret rfl dX9_factOf_107 ⟨rfl, trivial, (Or.inr (Or.inr (Or.inr (Or.inr (Or.inr (Or.inr (Or.inr (Or.inl ⟨e1_, z18_, e19_, rfl⟩))))))))⟩
  · refine w_tsIn (tgt := 108) (off := 107) dX9_factOf_1 e1_ (by decide) (by decide) rfl (by decide) ?_
    refine w_aload_n dX9_factOf_108 rfl 0 rfl ?_
    refine w_getI fl_RX9_35 rfl rfl (ic_9 hb hw) dX9_factOf_109 (fun z20_ e21_ => ?_)
    exact w_iret rfl dX9_factOf_112 ⟨rfl, trivial, (Or.inr (Or.inr (Or.inr (Or.inr (Or.inr (Or.inr (Or.inr (Or.inr (Or.inl ⟨e1_, z20_, e21_, rfl⟩)))))))))⟩
  · refine w_tsIn (tgt := 113) (off := 112) dX9_factOf_1 e1_ (by decide) (by decide) rfl (by decide) ?_
    refine w_aload_n dX9_factOf_113 rfl 0 rfl ?_
    refine w_callV (as := []) (rest := []) (c_X9_reach l G cy ad d b w Mz hIz hb hw) kV_X9_reach (by decide +kernel) (Nat.le_of_ble_eq_true rfl) m_617 rfl rfl rfl (ic_9 hb hw) rfl rfl (by decide) (Nat.le_of_ble_eq_true rfl) dX9_factOf_114 (fun r22_ M23_ q24_ => ?_)
    obtain ⟨rfl, h25_, hs26_⟩ := q24_
    exact w_iret rfl dX9_factOf_117 ⟨rfl, trivial, (Or.inr (Or.inr (Or.inr (Or.inr (Or.inr (Or.inr (Or.inr (Or.inr (Or.inr (Or.inl ⟨e1_, r22_, hs26_, h25_, rfl⟩))))))))))⟩
  · refine w_tsIn (tgt := 118) (off := 117) dX9_factOf_1 e1_ (by decide) (by decide) rfl (by decide) ?_
    refine w_aload_n dX9_factOf_118 rfl 0 rfl ?_
    refine w_callV (as := []) (rest := []) (c_X9_speed l G cy ad d b w Mz hIz hb hw) kV_X9_speed (by decide +kernel) (Nat.le_of_ble_eq_true rfl) m_623 rfl rfl rfl (ic_9 hb hw) rfl rfl (by decide) (Nat.le_of_ble_eq_true rfl) dX9_factOf_119 (fun r27_ M28_ q29_ => ?_)
    obtain ⟨rfl, h30_, hs31_⟩ := q29_
    exact w_iret rfl dX9_factOf_122 ⟨rfl, trivial, (Or.inr (Or.inr (Or.inr (Or.inr (Or.inr (Or.inr (Or.inr (Or.inr (Or.inr (Or.inr (Or.inl ⟨e1_, r27_, hs31_, h30_, rfl⟩)))))))))))⟩
  · refine w_tsOut (tgt := 123) dX9_factOf_1 rfl (lf_c_X9_factOf_1 v e1_) (by decide) ?_
    refine w_aload_n dX9_factOf_123 rfl 0 rfl ?_
    refine w_callV (as := []) (rest := []) (c_X9_ears l G cy ad d b w Mz hIz hb hw) kV_X9_ears (by decide +kernel) (Nat.le_of_ble_eq_true rfl) m_629 rfl rfl rfl (ic_9 hb hw) rfl rfl (by decide) (Nat.le_of_ble_eq_true rfl) dX9_factOf_124 (fun r32_ M33_ q34_ => ?_)
    obtain ⟨rfl, h35_, hs36_⟩ := q34_
    exact w_iret rfl dX9_factOf_127 ⟨rfl, trivial, (Or.inr (Or.inr (Or.inr (Or.inr (Or.inr (Or.inr (Or.inr (Or.inr (Or.inr (Or.inr (Or.inr ⟨e1_, r32_, hs36_, h35_, rfl⟩)))))))))))⟩
def S_c_X9_addYes (b : Nat) (w : Nat) : rf → Nat → Prop := fun c k => (c.1 = 40 ∧ c.2.1 = b ∧ c.2.2 = w) ∨ False
def SP_X9_addYes (b : Nat) (w : Nat) (v : Int32) (u : Int32) (Mz : mM) (M_ : mM) : Prop := (((SP_X7_isCell v Mz (1 : Int32)) ∧ (0 ≤ v.toInt ∧ v.toInt ≤ 191) ∧ ∃ j9_ : Nat, ((j9_ : Int) = v.toInt) ∧ ∃ z7_ : Int32, (z7_ = Mz.1 (40, b, w) j9_) ∧ ∃ z11_ : Int32, (z11_ = z7_ + u) ∧ ∃ z13_ : Int32, ((z13_.toInt = 99 ∧ 99 ≤ z11_.toInt) ∨ (z13_.toInt = z11_.toInt ∧ z11_.toInt ≤ 99)) ∧ ∃ j17_ : Nat, ((j17_ : Int) = v.toInt) ∧ ∃ M15_ : mM, (M15_ = up Mz (40, b, w) j17_ z13_) ∧ M_ = M15_) ∨ ((SP_X7_isCell v Mz (0 : Int32)) ∧ (¬ (0 ≤ v.toInt ∧ v.toInt ≤ 191)) ∧ M_ = Mz))
theorem lf_c_X9_addYes_0  (v : Int32) (h4_ : 0 ≤ v.toInt ∧ v.toInt ≤ 191) : 0 ≤ v.toInt ∧ v.toInt < ((192 : Nat) : Int) := by have r_v := rngI v; omega
theorem lf_c_X9_addYes_1 (Mz : mM) (b : Nat) (w : Nat) (v : Int32) (j9_ : Nat) (z7_ : Int32) (hb : b < 3) (hw : w < 8) (h4_ : 0 ≤ v.toInt ∧ v.toInt ≤ 191) (h10_ : (j9_ : Int) = v.toInt) (e8_ : z7_ = Mz.1 (40, b, w) j9_) : 0 ≤ v.toInt ∧ v.toInt < ((192 : Nat) : Int) := by have r_v := rngI v; have r_z7_ := rngI z7_; subst e8_; omega
set_option maxHeartbeats 4000000 in
set_option maxRecDepth 100000 in
theorem c_X9_addYes (l : Launch) (G : va_G) (cy : Nat → ClassId) (ad : rf → Nat) (d : Nat) (b : Nat) (w : Nat) (v : Int32) (u : Int32) (Mz : mM) (hIz : Inv Mz) (hb : b < 3) (hw : w < 8) : WP CC l G cy ad yX9_addYes cX9_addYes 3 none (d + 1) 0 [(0, vR (9, b, w)), (1, vI v), (2, vI u)] [] Mz (fun r M' => Inv M' ∧ FR (S_c_X9_addYes b w) Mz M' ∧ (True) ∧ SP_X9_addYes b w v u Mz M') := by
  have hFz : FR (S_c_X9_addYes b w) Mz Mz := FR.self
  refine w_iload_n dX9_addYes_0 rfl 1 rfl ?_
  refine w_callS (as := [vI v]) (rest := []) (c_X7_isCell l G cy ad d v Mz hIz) kS_X7_isCell (by decide +kernel) (Nat.le_of_ble_eq_true rfl) m_919 rfl rfl (by decide) (Nat.le_of_ble_eq_true rfl) dX9_addYes_1 (fun r1_ M2_ q3_ => ?_)
  obtain ⟨rfl, h4_, hs5_⟩ := q3_
  rcases h4_ with ⟨rfl, h4_⟩ | ⟨rfl, h4_⟩
  · refine w_if_eq (tgt := 26) dX9_addYes_4 (by decide) li_1 (fun h9 => (absurd h9 (by decide))) (fun h6_ => ?_)
    refine w_aload_n dX9_addYes_7 rfl 0 rfl ?_
    refine w_getR (c' := (40, b, w)) fl_RX9_40 rfl rfl (ic_9 hb hw) dX9_addYes_8 rfl ?_
    refine w_iload_n dX9_addYes_11 rfl 1 rfl ?_
    refine w_bipush (v := 99) dX9_addYes_12 (by decide) ?_
    refine w_aload_n dX9_addYes_14 rfl 0 rfl ?_
    refine w_getR (c' := (40, b, w)) fl_RX9_40 rfl rfl (ic_9 hb hw) dX9_addYes_15 rfl ?_
    refine w_iload_n dX9_addYes_18 rfl 1 rfl ?_
    refine w_iald rfl rfl (ic_40 hb hw) (rfl : v.toInt = v.toInt) (lf_c_X9_addYes_0 v h4_) dX9_addYes_19 (fun j9_ h10_ z7_ e8_ => ?_)
    refine w_iload_n dX9_addYes_20 rfl 2 rfl ?_
    refine w_iadd dX9_addYes_21 (fun z11_ h12_ => ?_)
    refine w_min m_920 m_770 m_86 m_771 li_99 (rfl : z11_.toInt = z11_.toInt) (Nat.le_of_ble_eq_true rfl) (by omega) dX9_addYes_22 (fun z13_ h14_ => ?_)
    refine w_iast CC_nd rfl rfl (ic_40 hb hw) (rfl : v.toInt = v.toInt) (lf_c_X9_addYes_1 Mz b w v j9_ z7_ hb hw h4_ h10_ e8_) dX9_addYes_25 (fun j17_ h18_ M15_ hM16_ => ?_)
    have hI19_ := hIz.put hM16_ trivial
    have hF20_ := hFz.put hM16_ (Or.inl ⟨rfl, rfl, rfl⟩)
    exact w_vret rfl dX9_addYes_26 ⟨hI19_, hF20_, trivial, (Or.inl ⟨hs5_, h4_, j9_, h10_, z7_, e8_, z11_, h12_, z13_, h14_, j17_, h18_, M15_, hM16_, rfl⟩)⟩
  · refine w_if_eq (tgt := 26) dX9_addYes_4 (by decide) li_0 (fun h21_ => ?_) (fun h9 => (absurd h9 (by decide)))
    exact w_vret rfl dX9_addYes_26 ⟨hIz, hFz, trivial, (Or.inr ⟨hs5_, h4_, rfl⟩)⟩
def S_c_X9_addNo (b : Nat) (w : Nat) : rf → Nat → Prop := fun c k => (c.1 = 41 ∧ c.2.1 = b ∧ c.2.2 = w) ∨ False
def SP_X9_addNo (b : Nat) (w : Nat) (v : Int32) (Mz : mM) (M_ : mM) : Prop := (((SP_X7_isCell v Mz (1 : Int32)) ∧ (0 ≤ v.toInt ∧ v.toInt ≤ 191) ∧ ∃ j9_ : Nat, ((j9_ : Int) = v.toInt) ∧ ∃ z7_ : Int32, (z7_ = Mz.1 (41, b, w) j9_) ∧ ∃ z11_ : Int32, (z11_ = z7_ + (1 : Int32)) ∧ ∃ z13_ : Int32, ((z13_.toInt = 99 ∧ 99 ≤ z11_.toInt) ∨ (z13_.toInt = z11_.toInt ∧ z11_.toInt ≤ 99)) ∧ ∃ j17_ : Nat, ((j17_ : Int) = v.toInt) ∧ ∃ M15_ : mM, (M15_ = up Mz (41, b, w) j17_ z13_) ∧ M_ = M15_) ∨ ((SP_X7_isCell v Mz (0 : Int32)) ∧ (¬ (0 ≤ v.toInt ∧ v.toInt ≤ 191)) ∧ M_ = Mz))
theorem lf_c_X9_addNo_0  (v : Int32) (h4_ : 0 ≤ v.toInt ∧ v.toInt ≤ 191) : 0 ≤ v.toInt ∧ v.toInt < ((192 : Nat) : Int) := by have r_v := rngI v; omega
theorem lf_c_X9_addNo_1 (Mz : mM) (b : Nat) (w : Nat) (v : Int32) (j9_ : Nat) (z7_ : Int32) (hb : b < 3) (hw : w < 8) (h4_ : 0 ≤ v.toInt ∧ v.toInt ≤ 191) (h10_ : (j9_ : Int) = v.toInt) (e8_ : z7_ = Mz.1 (41, b, w) j9_) : 0 ≤ v.toInt ∧ v.toInt < ((192 : Nat) : Int) := by have r_v := rngI v; have r_z7_ := rngI z7_; subst e8_; omega
set_option maxHeartbeats 4000000 in
set_option maxRecDepth 100000 in
theorem c_X9_addNo (l : Launch) (G : va_G) (cy : Nat → ClassId) (ad : rf → Nat) (d : Nat) (b : Nat) (w : Nat) (v : Int32) (Mz : mM) (hIz : Inv Mz) (hb : b < 3) (hw : w < 8) : WP CC l G cy ad yX9_addNo cX9_addNo 2 none (d + 1) 0 [(0, vR (9, b, w)), (1, vI v)] [] Mz (fun r M' => Inv M' ∧ FR (S_c_X9_addNo b w) Mz M' ∧ (True) ∧ SP_X9_addNo b w v Mz M') := by
  have hFz : FR (S_c_X9_addNo b w) Mz Mz := FR.self
  refine w_iload_n dX9_addNo_0 rfl 1 rfl ?_
  refine w_callS (as := [vI v]) (rest := []) (c_X7_isCell l G cy ad d v Mz hIz) kS_X7_isCell (by decide +kernel) (Nat.le_of_ble_eq_true rfl) m_919 rfl rfl (by decide) (Nat.le_of_ble_eq_true rfl) dX9_addNo_1 (fun r1_ M2_ q3_ => ?_)
  obtain ⟨rfl, h4_, hs5_⟩ := q3_
  rcases h4_ with ⟨rfl, h4_⟩ | ⟨rfl, h4_⟩
  · refine w_if_eq (tgt := 26) dX9_addNo_4 (by decide) li_1 (fun h9 => (absurd h9 (by decide))) (fun h6_ => ?_)
    refine w_aload_n dX9_addNo_7 rfl 0 rfl ?_
    refine w_getR (c' := (41, b, w)) fl_RX9_44 rfl rfl (ic_9 hb hw) dX9_addNo_8 rfl ?_
    refine w_iload_n dX9_addNo_11 rfl 1 rfl ?_
    refine w_bipush (v := 99) dX9_addNo_12 (by decide) ?_
    refine w_aload_n dX9_addNo_14 rfl 0 rfl ?_
    refine w_getR (c' := (41, b, w)) fl_RX9_44 rfl rfl (ic_9 hb hw) dX9_addNo_15 rfl ?_
    refine w_iload_n dX9_addNo_18 rfl 1 rfl ?_
    refine w_iald rfl rfl (ic_41 hb hw) (rfl : v.toInt = v.toInt) (lf_c_X9_addNo_0 v h4_) dX9_addNo_19 (fun j9_ h10_ z7_ e8_ => ?_)
    refine w_iconst (v := 1) dX9_addNo_20 (by decide) ?_
    refine w_iadd dX9_addNo_21 (fun z11_ h12_ => ?_)
    refine w_min m_920 m_770 m_86 m_771 li_99 (rfl : z11_.toInt = z11_.toInt) (Nat.le_of_ble_eq_true rfl) (by omega) dX9_addNo_22 (fun z13_ h14_ => ?_)
    refine w_iast CC_nd rfl rfl (ic_41 hb hw) (rfl : v.toInt = v.toInt) (lf_c_X9_addNo_1 Mz b w v j9_ z7_ hb hw h4_ h10_ e8_) dX9_addNo_25 (fun j17_ h18_ M15_ hM16_ => ?_)
    have hI19_ := hIz.put hM16_ trivial
    have hF20_ := hFz.put hM16_ (Or.inl ⟨rfl, rfl, rfl⟩)
    exact w_vret rfl dX9_addNo_26 ⟨hI19_, hF20_, trivial, (Or.inl ⟨hs5_, h4_, j9_, h10_, z7_, e8_, z11_, h12_, z13_, h14_, j17_, h18_, M15_, hM16_, rfl⟩)⟩
  · refine w_if_eq (tgt := 26) dX9_addNo_4 (by decide) li_0 (fun h21_ => ?_) (fun h9 => (absurd h9 (by decide)))
    exact w_vret rfl dX9_addNo_26 ⟨hIz, hFz, trivial, (Or.inr ⟨hs5_, h4_, rfl⟩)⟩
def SP_X9_held (b : Nat) (w : Nat) (v : Int32) (Mz : mM) (r_ : Int32) : Prop := (((SP_X7_isCell v Mz (1 : Int32)) ∧ (0 ≤ v.toInt ∧ v.toInt ≤ 191) ∧ ∃ j9_ : Nat, ((j9_ : Int) = v.toInt) ∧ ∃ z7_ : Int32, (z7_ = Mz.1 (40, b, w) j9_) ∧ ∃ j13_ : Nat, ((j13_ : Int) = v.toInt) ∧ ∃ z11_ : Int32, (z11_ = Mz.1 (41, b, w) j13_) ∧ (((¬ z7_.toInt = z11_.toInt) ∧ ∃ j18_ : Nat, ((j18_ : Int) = v.toInt) ∧ ∃ z16_ : Int32, (z16_ = Mz.1 (40, b, w) j18_) ∧ ∃ j22_ : Nat, ((j22_ : Int) = v.toInt) ∧ ∃ z20_ : Int32, (z20_ = Mz.1 (41, b, w) j22_) ∧ (((z16_.toInt ≤ z20_.toInt) ∧ r_ = 1) ∨ ((z20_.toInt < z16_.toInt) ∧ r_ = 2))) ∨ ((z7_.toInt = z11_.toInt) ∧ r_ = 0))) ∨ ((SP_X7_isCell v Mz (0 : Int32)) ∧ (¬ (0 ≤ v.toInt ∧ v.toInt ≤ 191)) ∧ r_ = 0))
theorem lf_c_X9_held_0  (v : Int32) (h4_ : 0 ≤ v.toInt ∧ v.toInt ≤ 191) : 0 ≤ v.toInt ∧ v.toInt < ((192 : Nat) : Int) := by have r_v := rngI v; omega
theorem lf_c_X9_held_1 (Mz : mM) (b : Nat) (w : Nat) (v : Int32) (j9_ : Nat) (z7_ : Int32) (hb : b < 3) (hw : w < 8) (h4_ : 0 ≤ v.toInt ∧ v.toInt ≤ 191) (h10_ : (j9_ : Int) = v.toInt) (e8_ : z7_ = Mz.1 (40, b, w) j9_) : 0 ≤ v.toInt ∧ v.toInt < ((192 : Nat) : Int) := by have r_v := rngI v; have r_z7_ := rngI z7_; subst e8_; omega
theorem lf_c_X9_held_2 (Mz : mM) (b : Nat) (w : Nat) (v : Int32) (j9_ : Nat) (z7_ : Int32) (j13_ : Nat) (z11_ : Int32) (hb : b < 3) (hw : w < 8) (h4_ : 0 ≤ v.toInt ∧ v.toInt ≤ 191) (h10_ : (j9_ : Int) = v.toInt) (e8_ : z7_ = Mz.1 (40, b, w) j9_) (h14_ : (j13_ : Int) = v.toInt) (e12_ : z11_ = Mz.1 (41, b, w) j13_) (h15_ : ¬ z7_.toInt = z11_.toInt) : 0 ≤ v.toInt ∧ v.toInt < ((192 : Nat) : Int) := by have r_v := rngI v; have r_z7_ := rngI z7_; have r_z11_ := rngI z11_; subst e8_; subst e12_; omega
theorem lf_c_X9_held_3 (Mz : mM) (b : Nat) (w : Nat) (v : Int32) (j9_ : Nat) (z7_ : Int32) (j13_ : Nat) (z11_ : Int32) (j18_ : Nat) (z16_ : Int32) (hb : b < 3) (hw : w < 8) (h4_ : 0 ≤ v.toInt ∧ v.toInt ≤ 191) (h10_ : (j9_ : Int) = v.toInt) (e8_ : z7_ = Mz.1 (40, b, w) j9_) (h14_ : (j13_ : Int) = v.toInt) (e12_ : z11_ = Mz.1 (41, b, w) j13_) (h15_ : ¬ z7_.toInt = z11_.toInt) (h19_ : (j18_ : Int) = v.toInt) (e17_ : z16_ = Mz.1 (40, b, w) j18_) : 0 ≤ v.toInt ∧ v.toInt < ((192 : Nat) : Int) := by have r_v := rngI v; have r_z7_ := rngI z7_; have r_z11_ := rngI z11_; have r_z16_ := rngI z16_; subst e8_; subst e12_; subst e17_; omega
set_option maxHeartbeats 4000000 in
set_option maxRecDepth 100000 in
theorem c_X9_held (l : Launch) (G : va_G) (cy : Nat → ClassId) (ad : rf → Nat) (d : Nat) (b : Nat) (w : Nat) (v : Int32) (Mz : mM) (hIz : Inv Mz) (hb : b < 3) (hw : w < 8) : WP CC l G cy ad yX9_held cX9_held 2 (some .int) (d + 1) 0 [(0, vR (9, b, w)), (1, vI v)] [] Mz (fun r M' => Mz = M' ∧ (True) ∧ SP_X9_held b w v Mz r) := by
  refine w_iload_n dX9_held_0 rfl 1 rfl ?_
  refine w_callS (as := [vI v]) (rest := []) (c_X7_isCell l G cy ad d v Mz hIz) kS_X7_isCell (by decide +kernel) (Nat.le_of_ble_eq_true rfl) m_919 rfl rfl (by decide) (Nat.le_of_ble_eq_true rfl) dX9_held_1 (fun r1_ M2_ q3_ => ?_)
  obtain ⟨rfl, h4_, hs5_⟩ := q3_
  rcases h4_ with ⟨rfl, h4_⟩ | ⟨rfl, h4_⟩
  · refine w_if_eq (tgt := 22) dX9_held_4 (by decide) li_1 (fun h9 => (absurd h9 (by decide))) (fun h6_ => ?_)
    refine w_aload_n dX9_held_7 rfl 0 rfl ?_
    refine w_getR (c' := (40, b, w)) fl_RX9_40 rfl rfl (ic_9 hb hw) dX9_held_8 rfl ?_
    refine w_iload_n dX9_held_11 rfl 1 rfl ?_
    refine w_iald rfl rfl (ic_40 hb hw) (rfl : v.toInt = v.toInt) (lf_c_X9_held_0 v h4_) dX9_held_12 (fun j9_ h10_ z7_ e8_ => ?_)
    refine w_aload_n dX9_held_13 rfl 0 rfl ?_
    refine w_getR (c' := (41, b, w)) fl_RX9_44 rfl rfl (ic_9 hb hw) dX9_held_14 rfl ?_
    refine w_iload_n dX9_held_17 rfl 1 rfl ?_
    refine w_iald rfl rfl (ic_41 hb hw) (rfl : v.toInt = v.toInt) (lf_c_X9_held_1 Mz b w v j9_ z7_ hb hw h4_ h10_ e8_) dX9_held_18 (fun j13_ h14_ z11_ e12_ => ?_)
    refine w_icmp_ne (tgt := 24) dX9_held_19 (by decide) (rfl : z7_.toInt = z7_.toInt) (rfl : z11_.toInt = z11_.toInt) (fun h15_ => ?_) (fun h15_ => ?_)
    · refine w_aload_n dX9_held_24 rfl 0 rfl ?_
      refine w_getR (c' := (40, b, w)) fl_RX9_40 rfl rfl (ic_9 hb hw) dX9_held_25 rfl ?_
      refine w_iload_n dX9_held_28 rfl 1 rfl ?_
      refine w_iald rfl rfl (ic_40 hb hw) (rfl : v.toInt = v.toInt) (lf_c_X9_held_2 Mz b w v j9_ z7_ j13_ z11_ hb hw h4_ h10_ e8_ h14_ e12_ h15_) dX9_held_29 (fun j18_ h19_ z16_ e17_ => ?_)
      refine w_aload_n dX9_held_30 rfl 0 rfl ?_
      refine w_getR (c' := (41, b, w)) fl_RX9_44 rfl rfl (ic_9 hb hw) dX9_held_31 rfl ?_
      refine w_iload_n dX9_held_34 rfl 1 rfl ?_
      refine w_iald rfl rfl (ic_41 hb hw) (rfl : v.toInt = v.toInt) (lf_c_X9_held_3 Mz b w v j9_ z7_ j13_ z11_ j18_ z16_ hb hw h4_ h10_ e8_ h14_ e12_ h15_ h19_ e17_) dX9_held_35 (fun j22_ h23_ z20_ e21_ => ?_)
      refine w_icmp_le (tgt := 43) dX9_held_36 (by decide) (rfl : z16_.toInt = z16_.toInt) (rfl : z20_.toInt = z20_.toInt) (fun h24_ => ?_) (fun h24_ => ?_)
      · refine w_iconst (v := 1) dX9_held_43 (by decide) ?_
        exact w_iret rfl dX9_held_44 ⟨rfl, trivial, (Or.inl ⟨hs5_, h4_, j9_, h10_, z7_, e8_, j13_, h14_, z11_, e12_, (Or.inl ⟨h15_, j18_, h19_, z16_, e17_, j22_, h23_, z20_, e21_, (Or.inl ⟨h24_, rfl⟩)⟩)⟩)⟩
      · refine w_iconst (v := 2) dX9_held_39 (by decide) ?_
        refine w_goto (tgt := 44) dX9_held_40 (by decide) ?_
        exact w_iret rfl dX9_held_44 ⟨rfl, trivial, (Or.inl ⟨hs5_, h4_, j9_, h10_, z7_, e8_, j13_, h14_, z11_, e12_, (Or.inl ⟨h15_, j18_, h19_, z16_, e17_, j22_, h23_, z20_, e21_, (Or.inr ⟨h24_, rfl⟩)⟩)⟩)⟩
    · refine w_iconst (v := 0) dX9_held_22 (by decide) ?_
      exact w_iret rfl dX9_held_23 ⟨rfl, trivial, (Or.inl ⟨hs5_, h4_, j9_, h10_, z7_, e8_, j13_, h14_, z11_, e12_, (Or.inr ⟨h15_, rfl⟩)⟩)⟩
  · refine w_if_eq (tgt := 22) dX9_held_4 (by decide) li_0 (fun h25_ => ?_) (fun h9 => (absurd h9 (by decide)))
    refine w_iconst (v := 0) dX9_held_22 (by decide) ?_
    exact w_iret rfl dX9_held_23 ⟨rfl, trivial, (Or.inr ⟨hs5_, h4_, rfl⟩)⟩
def SP_X9_canLearn (b : Nat) (w : Nat) (v : Int32) (Mz : mM) (r_ : Int32) : Prop := (((SP_X7_isCell v Mz (1 : Int32)) ∧ (0 ≤ v.toInt ∧ v.toInt ≤ 191) ∧ ∃ j9_ : Nat, ((j9_ : Int) = v.toInt) ∧ ∃ z7_ : Int32, (z7_ = Mz.1 (40, b, w) j9_) ∧ ∃ j13_ : Nat, ((j13_ : Int) = v.toInt) ∧ ∃ z11_ : Int32, (z11_ = Mz.1 (41, b, w) j13_) ∧ (((¬ z7_.toInt = z11_.toInt) ∧ r_ = 0) ∨ ((z7_.toInt = z11_.toInt) ∧ ∃ j18_ : Nat, ((j18_ : Int) = v.toInt) ∧ ∃ z16_ : Int32, (z16_ = Mz.1 (40, b, w) j18_) ∧ (((99 ≤ z16_.toInt) ∧ r_ = 0) ∨ ((z16_.toInt < 99) ∧ r_ = 1))))) ∨ ((SP_X7_isCell v Mz (0 : Int32)) ∧ (¬ (0 ≤ v.toInt ∧ v.toInt ≤ 191)) ∧ r_ = 0))
theorem lf_c_X9_canLearn_0  (v : Int32) (h4_ : 0 ≤ v.toInt ∧ v.toInt ≤ 191) : 0 ≤ v.toInt ∧ v.toInt < ((192 : Nat) : Int) := by have r_v := rngI v; omega
theorem lf_c_X9_canLearn_1 (Mz : mM) (b : Nat) (w : Nat) (v : Int32) (j9_ : Nat) (z7_ : Int32) (hb : b < 3) (hw : w < 8) (h4_ : 0 ≤ v.toInt ∧ v.toInt ≤ 191) (h10_ : (j9_ : Int) = v.toInt) (e8_ : z7_ = Mz.1 (40, b, w) j9_) : 0 ≤ v.toInt ∧ v.toInt < ((192 : Nat) : Int) := by have r_v := rngI v; have r_z7_ := rngI z7_; subst e8_; omega
theorem lf_c_X9_canLearn_2 (Mz : mM) (b : Nat) (w : Nat) (v : Int32) (j9_ : Nat) (z7_ : Int32) (j13_ : Nat) (z11_ : Int32) (hb : b < 3) (hw : w < 8) (h4_ : 0 ≤ v.toInt ∧ v.toInt ≤ 191) (h10_ : (j9_ : Int) = v.toInt) (e8_ : z7_ = Mz.1 (40, b, w) j9_) (h14_ : (j13_ : Int) = v.toInt) (e12_ : z11_ = Mz.1 (41, b, w) j13_) (h15_ : z7_.toInt = z11_.toInt) : 0 ≤ v.toInt ∧ v.toInt < ((192 : Nat) : Int) := by have r_v := rngI v; have r_z7_ := rngI z7_; have r_z11_ := rngI z11_; subst e8_; subst e12_; omega
set_option maxHeartbeats 4000000 in
set_option maxRecDepth 100000 in
theorem c_X9_canLearn (l : Launch) (G : va_G) (cy : Nat → ClassId) (ad : rf → Nat) (d : Nat) (b : Nat) (w : Nat) (v : Int32) (Mz : mM) (hIz : Inv Mz) (hb : b < 3) (hw : w < 8) : WP CC l G cy ad yX9_canLearn cX9_canLearn 2 (some .boolean) (d + 1) 0 [(0, vR (9, b, w)), (1, vI v)] [] Mz (fun r M' => Mz = M' ∧ (((r = 1 ∧ 0 ≤ v.toInt ∧ v.toInt ≤ 191) ∨ r = 0)) ∧ SP_X9_canLearn b w v Mz r) := by
  refine w_iload_n dX9_canLearn_0 rfl 1 rfl ?_
  refine w_callS (as := [vI v]) (rest := []) (c_X7_isCell l G cy ad d v Mz hIz) kS_X7_isCell (by decide +kernel) (Nat.le_of_ble_eq_true rfl) m_919 rfl rfl (by decide) (Nat.le_of_ble_eq_true rfl) dX9_canLearn_1 (fun r1_ M2_ q3_ => ?_)
  obtain ⟨rfl, h4_, hs5_⟩ := q3_
  rcases h4_ with ⟨rfl, h4_⟩ | ⟨rfl, h4_⟩
  · refine w_if_eq (tgt := 37) dX9_canLearn_4 (by decide) li_1 (fun h9 => (absurd h9 (by decide))) (fun h6_ => ?_)
    refine w_aload_n dX9_canLearn_7 rfl 0 rfl ?_
    refine w_getR (c' := (40, b, w)) fl_RX9_40 rfl rfl (ic_9 hb hw) dX9_canLearn_8 rfl ?_
    refine w_iload_n dX9_canLearn_11 rfl 1 rfl ?_
    refine w_iald rfl rfl (ic_40 hb hw) (rfl : v.toInt = v.toInt) (lf_c_X9_canLearn_0 v h4_) dX9_canLearn_12 (fun j9_ h10_ z7_ e8_ => ?_)
    refine w_aload_n dX9_canLearn_13 rfl 0 rfl ?_
    refine w_getR (c' := (41, b, w)) fl_RX9_44 rfl rfl (ic_9 hb hw) dX9_canLearn_14 rfl ?_
    refine w_iload_n dX9_canLearn_17 rfl 1 rfl ?_
    refine w_iald rfl rfl (ic_41 hb hw) (rfl : v.toInt = v.toInt) (lf_c_X9_canLearn_1 Mz b w v j9_ z7_ hb hw h4_ h10_ e8_) dX9_canLearn_18 (fun j13_ h14_ z11_ e12_ => ?_)
    refine w_icmp_ne (tgt := 37) dX9_canLearn_19 (by decide) (rfl : z7_.toInt = z7_.toInt) (rfl : z11_.toInt = z11_.toInt) (fun h15_ => ?_) (fun h15_ => ?_)
    · refine w_iconst (v := 0) dX9_canLearn_37 (by decide) ?_
      exact w_zret rfl dX9_canLearn_38 ⟨by decide, by decide⟩ ⟨rfl, (Or.inr rfl), (Or.inl ⟨hs5_, h4_, j9_, h10_, z7_, e8_, j13_, h14_, z11_, e12_, (Or.inl ⟨h15_, rfl⟩)⟩)⟩
    · refine w_aload_n dX9_canLearn_22 rfl 0 rfl ?_
      refine w_getR (c' := (40, b, w)) fl_RX9_40 rfl rfl (ic_9 hb hw) dX9_canLearn_23 rfl ?_
      refine w_iload_n dX9_canLearn_26 rfl 1 rfl ?_
      refine w_iald rfl rfl (ic_40 hb hw) (rfl : v.toInt = v.toInt) (lf_c_X9_canLearn_2 Mz b w v j9_ z7_ j13_ z11_ hb hw h4_ h10_ e8_ h14_ e12_ h15_) dX9_canLearn_27 (fun j18_ h19_ z16_ e17_ => ?_)
      refine w_bipush (v := 99) dX9_canLearn_28 (by decide) ?_
      refine w_icmp_ge (tgt := 37) dX9_canLearn_30 (by decide) (rfl : z16_.toInt = z16_.toInt) li_99 (fun h20_ => ?_) (fun h20_ => ?_)
      · refine w_iconst (v := 0) dX9_canLearn_37 (by decide) ?_
        exact w_zret rfl dX9_canLearn_38 ⟨by decide, by decide⟩ ⟨rfl, (Or.inr rfl), (Or.inl ⟨hs5_, h4_, j9_, h10_, z7_, e8_, j13_, h14_, z11_, e12_, (Or.inr ⟨h15_, j18_, h19_, z16_, e17_, (Or.inl ⟨h20_, rfl⟩)⟩)⟩)⟩
      · refine w_iconst (v := 1) dX9_canLearn_33 (by decide) ?_
        refine w_goto (tgt := 38) dX9_canLearn_34 (by decide) ?_
        exact w_zret rfl dX9_canLearn_38 ⟨by decide, by decide⟩ ⟨rfl, (Or.inl ⟨rfl, h4_⟩), (Or.inl ⟨hs5_, h4_, j9_, h10_, z7_, e8_, j13_, h14_, z11_, e12_, (Or.inr ⟨h15_, j18_, h19_, z16_, e17_, (Or.inr ⟨h20_, rfl⟩)⟩)⟩)⟩
  · refine w_if_eq (tgt := 37) dX9_canLearn_4 (by decide) li_0 (fun h21_ => ?_) (fun h9 => (absurd h9 (by decide)))
    refine w_iconst (v := 0) dX9_canLearn_37 (by decide) ?_
    exact w_zret rfl dX9_canLearn_38 ⟨by decide, by decide⟩ ⟨rfl, (Or.inr rfl), (Or.inr ⟨hs5_, h4_, rfl⟩)⟩
def ST_X9_countHeld_4 (b : Nat) (w : Nat) (v : Int32) (Mz : mM) (v3_4 : Int32) (v2_4 : Int32) (v3_4y : Int32) (v2_4y : Int32) : Prop := (0 ≤ v3_4.toInt) ∧ (v3_4.toInt ≤ 192) ∧ (v3_4.toInt < 192) ∧ ∃ r3_ : Int32, (SP_X9_held b w v3_4 Mz r3_) ∧ (((¬ r3_.toInt = v.toInt) ∧ ∃ z9_ : Int32, (z9_.toInt = v3_4.toInt + 1) ∧ v3_4y = z9_ ∧ v2_4y = v2_4) ∨ ((r3_.toInt = v.toInt) ∧ ∃ z11_ : Int32, (z11_ = v2_4 + Int32.ofInt 1) ∧ ∃ z13_ : Int32, (z13_.toInt = v3_4.toInt + 1) ∧ v3_4y = z13_ ∧ v2_4y = z11_))
def SP_X9_countHeld (b : Nat) (w : Nat) (v : Int32) (Mz : mM) (r_ : Int32) : Prop := ∃ v3_4 : Int32, (0 ≤ v3_4.toInt) ∧ (v3_4.toInt ≤ 192) ∧ ∃ v2_4 : Int32, (RCH (fun x_ y_ => ST_X9_countHeld_4 b w v Mz x_.1 x_.2 y_.1 y_.2) ((0 : Int32), (0 : Int32)) (v3_4, v2_4)) ∧ (192 ≤ v3_4.toInt) ∧ r_ = v2_4
theorem lf_c_X9_countHeld_0  (v3_4 : Int32) (hv0_4 : 0 ≤ v3_4.toInt) (hv1_4 : v3_4.toInt ≤ 192) (h2_ : v3_4.toInt < 192) : -2147483648 ≤ v3_4.toInt + 1 ∧ v3_4.toInt + 1 < 2147483648 := by have r_v3_4 := rngI v3_4; omega
theorem lf_c_X9_countHeld_1  (v3_4 : Int32) (z9_ : Int32) (hv0_4 : 0 ≤ v3_4.toInt) (hv1_4 : v3_4.toInt ≤ 192) (h2_ : v3_4.toInt < 192) (h10_ : z9_.toInt = v3_4.toInt + 1) : 0 ≤ z9_.toInt := by have r_v3_4 := rngI v3_4; have r_z9_ := rngI z9_; omega
theorem lf_c_X9_countHeld_2  (v3_4 : Int32) (z9_ : Int32) (hv0_4 : 0 ≤ v3_4.toInt) (hv1_4 : v3_4.toInt ≤ 192) (h2_ : v3_4.toInt < 192) (h10_ : z9_.toInt = v3_4.toInt + 1) : z9_.toInt ≤ 192 := by have r_v3_4 := rngI v3_4; have r_z9_ := rngI z9_; omega
theorem lf_c_X9_countHeld_3  (v3_4 : Int32) (z9_ : Int32) (hv0_4 : 0 ≤ v3_4.toInt) (hv1_4 : v3_4.toInt ≤ 192) (h2_ : v3_4.toInt < 192) (h10_ : z9_.toInt = v3_4.toInt + 1) : (2147483648 - z9_.toInt).toNat < (2147483648 - v3_4.toInt).toNat := by have r_v3_4 := rngI v3_4; have r_z9_ := rngI z9_; omega
theorem lf_c_X9_countHeld_4  (v3_4 : Int32) (hv0_4 : 0 ≤ v3_4.toInt) (hv1_4 : v3_4.toInt ≤ 192) (h2_ : v3_4.toInt < 192) : -2147483648 ≤ v3_4.toInt + 1 ∧ v3_4.toInt + 1 < 2147483648 := by have r_v3_4 := rngI v3_4; omega
theorem lf_c_X9_countHeld_5  (v3_4 : Int32) (z13_ : Int32) (hv0_4 : 0 ≤ v3_4.toInt) (hv1_4 : v3_4.toInt ≤ 192) (h2_ : v3_4.toInt < 192) (h14_ : z13_.toInt = v3_4.toInt + 1) : 0 ≤ z13_.toInt := by have r_v3_4 := rngI v3_4; have r_z13_ := rngI z13_; omega
theorem lf_c_X9_countHeld_6  (v3_4 : Int32) (z13_ : Int32) (hv0_4 : 0 ≤ v3_4.toInt) (hv1_4 : v3_4.toInt ≤ 192) (h2_ : v3_4.toInt < 192) (h14_ : z13_.toInt = v3_4.toInt + 1) : z13_.toInt ≤ 192 := by have r_v3_4 := rngI v3_4; have r_z13_ := rngI z13_; omega
theorem lf_c_X9_countHeld_7  (v3_4 : Int32) (z13_ : Int32) (hv0_4 : 0 ≤ v3_4.toInt) (hv1_4 : v3_4.toInt ≤ 192) (h2_ : v3_4.toInt < 192) (h14_ : z13_.toInt = v3_4.toInt + 1) : (2147483648 - z13_.toInt).toNat < (2147483648 - v3_4.toInt).toNat := by have r_v3_4 := rngI v3_4; have r_z13_ := rngI z13_; omega
theorem lf_c_X9_countHeld_8    : 0 ≤ (0 : Int32).toInt := by have q0 := li_0; omega
theorem lf_c_X9_countHeld_9    : (0 : Int32).toInt ≤ 192 := by have q0 := li_0; omega
set_option maxHeartbeats 4000000 in
set_option maxRecDepth 100000 in
theorem c_X9_countHeld (l : Launch) (G : va_G) (cy : Nat → ClassId) (ad : rf → Nat) (d : Nat) (b : Nat) (w : Nat) (v : Int32) (Mz : mM) (hIz : Inv Mz) (hb : b < 3) (hw : w < 8) : WP CC l G cy ad yX9_countHeld cX9_countHeld 4 (some .int) (d + 2) 0 [(0, vR (9, b, w)), (1, vI v)] [] Mz (fun r M' => Mz = M' ∧ (True) ∧ SP_X9_countHeld b w v Mz r) := by
  refine w_iconst (v := 0) dX9_countHeld_0 (by decide) ?_
  refine w_istore_n (ls' := [(2, vI 0), (0, vR (9, b, w)), (1, vI v)]) dX9_countHeld_1 rfl (by decide) rfl ?_
  refine w_iconst (v := 0) dX9_countHeld_2 (by decide) ?_
  refine w_istore_n (ls' := [(3, vI 0), (2, vI 0), (0, vR (9, b, w)), (1, vI v)]) dX9_countHeld_3 rfl (by decide) rfl ?_
  have lp1_ : ∀ (nn_4 : Nat) (v3_4 : Int32) (v2_4 : Int32) (hv0_4 : 0 ≤ v3_4.toInt) (hv1_4 : v3_4.toInt ≤ 192) (hL_4 : RCH (fun x_ y_ => ST_X9_countHeld_4 b w v Mz x_.1 x_.2 y_.1 y_.2) ((0 : Int32), (0 : Int32)) (v3_4, v2_4)), (2147483648 - v3_4.toInt).toNat < nn_4 → WP CC l G cy ad yX9_countHeld cX9_countHeld 4 (some .int) (d + 2) 4 [(3, vI v3_4), (2, vI v2_4), (0, vR (9, b, w)), (1, vI v)] [] Mz (fun r M' => Mz = M' ∧ (True) ∧ SP_X9_countHeld b w v Mz r) := by
    intro nn_4
    induction nn_4 with
    | zero => intro v3_4 v2_4 hv0_4 hv1_4 hL_4 hm_4; exact absurd hm_4 (Nat.not_lt_zero _)
    | succ nn_4 ih_4 =>
      intro v3_4 v2_4 hv0_4 hv1_4 hL_4 hm_4
      refine w_iload_n dX9_countHeld_4 rfl 0 rfl ?_
      refine w_sipush (v := 192) dX9_countHeld_5 (by decide) ?_
      refine w_icmp_ge (tgt := 29) dX9_countHeld_8 (by decide) (rfl : v3_4.toInt = v3_4.toInt) li_192 (fun h2_ => ?_) (fun h2_ => ?_)
      · refine w_iload_n dX9_countHeld_29 rfl 1 rfl ?_
        exact w_iret rfl dX9_countHeld_30 ⟨rfl, trivial, ⟨v3_4, hv0_4, hv1_4, v2_4, hL_4, h2_, rfl⟩⟩
      · refine w_aload_n dX9_countHeld_11 rfl 2 rfl ?_
        refine w_iload_n dX9_countHeld_12 rfl 0 rfl ?_
        refine w_callV (as := [vI v3_4]) (rest := []) (c_X9_held l G cy ad d b w v3_4 Mz hIz hb hw) kV_X9_held (by decide +kernel) (Nat.le_of_ble_eq_true rfl) m_946 rfl rfl rfl (ic_9 hb hw) rfl rfl (by decide) (Nat.le_of_ble_eq_true rfl) dX9_countHeld_13 (fun r3_ M4_ q5_ => ?_)
        obtain ⟨rfl, h6_, hs7_⟩ := q5_
        refine w_iload_n dX9_countHeld_16 rfl 3 rfl ?_
        refine w_icmp_ne (tgt := 23) dX9_countHeld_17 (by decide) (rfl : r3_.toInt = r3_.toInt) (rfl : v.toInt = v.toInt) (fun h8_ => ?_) (fun h8_ => ?_)
        · refine w_iincB (j := 0) (f := fun z9_ => [(3, vI z9_), (2, vI v2_4), (0, vR (9, b, w)), (1, vI v)]) dX9_countHeld_23 rfl (by decide) (fun _ => rfl) (rfl : v3_4.toInt = v3_4.toInt) li_1 (lf_c_X9_countHeld_0 v3_4 hv0_4 hv1_4 h2_) (fun z9_ h10_ => ?_)
          refine w_goto (tgt := 4) dX9_countHeld_26 (by decide) ?_
          refine w_loc (ls' := [(3, vI z9_), (2, vI v2_4), (0, vR (9, b, w)), (1, vI v)]) [0, 1, 2, 3] rfl ?_
          exact ih_4 z9_ v2_4 (lf_c_X9_countHeld_1 v3_4 z9_ hv0_4 hv1_4 h2_ h10_) (lf_c_X9_countHeld_2 v3_4 z9_ hv0_4 hv1_4 h2_ h10_) (RCH.tail hL_4 ⟨hv0_4, hv1_4, h2_, r3_, hs7_, (Or.inl ⟨h8_, z9_, h10_, rfl, rfl⟩)⟩) (Nat.lt_of_lt_of_le (lf_c_X9_countHeld_3 v3_4 z9_ hv0_4 hv1_4 h2_ h10_) (Nat.le_of_lt_succ hm_4))
        · refine w_iincX (j := 1) (f := fun z11_ => [(2, vI z11_), (3, vI v3_4), (0, vR (9, b, w)), (1, vI v)]) dX9_countHeld_20 rfl (by decide) (fun _ => rfl) (fun z11_ h12_ => ?_)
          refine w_iincB (j := 1) (f := fun z13_ => [(3, vI z13_), (2, vI z11_), (0, vR (9, b, w)), (1, vI v)]) dX9_countHeld_23 rfl (by decide) (fun _ => rfl) (rfl : v3_4.toInt = v3_4.toInt) li_1 (lf_c_X9_countHeld_4 v3_4 hv0_4 hv1_4 h2_) (fun z13_ h14_ => ?_)
          refine w_goto (tgt := 4) dX9_countHeld_26 (by decide) ?_
          refine w_loc (ls' := [(3, vI z13_), (2, vI z11_), (0, vR (9, b, w)), (1, vI v)]) [0, 1, 2, 3] rfl ?_
          exact ih_4 z13_ z11_ (lf_c_X9_countHeld_5 v3_4 z13_ hv0_4 hv1_4 h2_ h14_) (lf_c_X9_countHeld_6 v3_4 z13_ hv0_4 hv1_4 h2_ h14_) (RCH.tail hL_4 ⟨hv0_4, hv1_4, h2_, r3_, hs7_, (Or.inr ⟨h8_, z11_, h12_, z13_, h14_, rfl, rfl⟩)⟩) (Nat.lt_of_lt_of_le (lf_c_X9_countHeld_7 v3_4 z13_ hv0_4 hv1_4 h2_ h14_) (Nat.le_of_lt_succ hm_4))
  exact lp1_ _ 0 0 (lf_c_X9_countHeld_8 ) (lf_c_X9_countHeld_9 ) RCH.refl (Nat.lt_succ_self _)
def ST_X9_yardsToFull_2 (b : Nat) (w : Nat) (v : Int32) (Mz : mM) (v2_2 : Int32) (v2_2y : Int32) : Prop := (1 ≤ v2_2.toInt) ∧ (v2_2.toInt ≤ 10) ∧ (v2_2.toInt ≤ 9) ∧ ∃ z3_ : Int32, (z3_ = Mz.1 (9, b, w) 1) ∧ ∃ r5_ : Int32, (SP_X7_cellFrom z3_ v v2_2 Mz r5_) ∧ (-1 ≤ r5_.toInt ∧ r5_.toInt ≤ 191) ∧ ∃ r10_ : Int32, (SP_X9_held b w r5_ Mz r10_) ∧ (¬ r10_.toInt = 2) ∧ ∃ z16_ : Int32, (z16_.toInt = v2_2.toInt + 1) ∧ v2_2y = z16_
def SP_X9_yardsToFull (b : Nat) (w : Nat) (v : Int32) (Mz : mM) (r_ : Int32) : Prop := ∃ v2_2 : Int32, (1 ≤ v2_2.toInt) ∧ (v2_2.toInt ≤ 10) ∧ (RCH (fun x_ y_ => ST_X9_yardsToFull_2 b w v Mz x_ y_) (1 : Int32) v2_2) ∧ (((9 < v2_2.toInt) ∧ r_ = 0) ∨ ((v2_2.toInt ≤ 9) ∧ ∃ z3_ : Int32, (z3_ = Mz.1 (9, b, w) 1) ∧ ∃ r5_ : Int32, (SP_X7_cellFrom z3_ v v2_2 Mz r5_) ∧ (-1 ≤ r5_.toInt ∧ r5_.toInt ≤ 191) ∧ ∃ r10_ : Int32, (SP_X9_held b w r5_ Mz r10_) ∧ (r10_.toInt = 2) ∧ r_ = v2_2))
theorem lf_c_X9_yardsToFull_0  (v2_2 : Int32) (hv0_2 : 1 ≤ v2_2.toInt) (hv1_2 : v2_2.toInt ≤ 10) (h2_ : v2_2.toInt ≤ 9) : -2147483648 ≤ v2_2.toInt + 1 ∧ v2_2.toInt + 1 < 2147483648 := by have r_v2_2 := rngI v2_2; omega
theorem lf_c_X9_yardsToFull_1  (v2_2 : Int32) (z16_ : Int32) (hv0_2 : 1 ≤ v2_2.toInt) (hv1_2 : v2_2.toInt ≤ 10) (h2_ : v2_2.toInt ≤ 9) (h17_ : z16_.toInt = v2_2.toInt + 1) : 1 ≤ z16_.toInt := by have r_v2_2 := rngI v2_2; have r_z16_ := rngI z16_; omega
theorem lf_c_X9_yardsToFull_2  (v2_2 : Int32) (z16_ : Int32) (hv0_2 : 1 ≤ v2_2.toInt) (hv1_2 : v2_2.toInt ≤ 10) (h2_ : v2_2.toInt ≤ 9) (h17_ : z16_.toInt = v2_2.toInt + 1) : z16_.toInt ≤ 10 := by have r_v2_2 := rngI v2_2; have r_z16_ := rngI z16_; omega
theorem lf_c_X9_yardsToFull_3  (v2_2 : Int32) (z16_ : Int32) (hv0_2 : 1 ≤ v2_2.toInt) (hv1_2 : v2_2.toInt ≤ 10) (h2_ : v2_2.toInt ≤ 9) (h17_ : z16_.toInt = v2_2.toInt + 1) : (2147483648 - z16_.toInt).toNat < (2147483648 - v2_2.toInt).toNat := by have r_v2_2 := rngI v2_2; have r_z16_ := rngI z16_; omega
theorem lf_c_X9_yardsToFull_4    : 1 ≤ (1 : Int32).toInt := by have q0 := li_1; omega
theorem lf_c_X9_yardsToFull_5    : (1 : Int32).toInt ≤ 10 := by have q0 := li_1; omega
set_option maxHeartbeats 4000000 in
set_option maxRecDepth 100000 in
theorem c_X9_yardsToFull (l : Launch) (G : va_G) (cy : Nat → ClassId) (ad : rf → Nat) (d : Nat) (b : Nat) (w : Nat) (v : Int32) (Mz : mM) (hIz : Inv Mz) (hb : b < 3) (hw : w < 8) : WP CC l G cy ad yX9_yardsToFull cX9_yardsToFull 3 (some .int) (d + 2) 0 [(0, vR (9, b, w)), (1, vI v)] [] Mz (fun r M' => Mz = M' ∧ (True) ∧ SP_X9_yardsToFull b w v Mz r) := by
  refine w_iconst (v := 1) dX9_yardsToFull_0 (by decide) ?_
  refine w_istore_n (ls' := [(2, vI 1), (0, vR (9, b, w)), (1, vI v)]) dX9_yardsToFull_1 rfl (by decide) rfl ?_
  have lp1_ : ∀ (nn_2 : Nat) (v2_2 : Int32) (hv0_2 : 1 ≤ v2_2.toInt) (hv1_2 : v2_2.toInt ≤ 10) (hL_2 : RCH (fun x_ y_ => ST_X9_yardsToFull_2 b w v Mz x_ y_) (1 : Int32) v2_2), (2147483648 - v2_2.toInt).toNat < nn_2 → WP CC l G cy ad yX9_yardsToFull cX9_yardsToFull 3 (some .int) (d + 2) 2 [(2, vI v2_2), (0, vR (9, b, w)), (1, vI v)] [] Mz (fun r M' => Mz = M' ∧ (True) ∧ SP_X9_yardsToFull b w v Mz r) := by
    intro nn_2
    induction nn_2 with
    | zero => intro v2_2 hv0_2 hv1_2 hL_2 hm_2; exact absurd hm_2 (Nat.not_lt_zero _)
    | succ nn_2 ih_2 =>
      intro v2_2 hv0_2 hv1_2 hL_2 hm_2
      refine w_iload_n dX9_yardsToFull_2 rfl 0 rfl ?_
      refine w_bipush (v := 9) dX9_yardsToFull_3 (by decide) ?_
      refine w_icmp_gt (tgt := 33) dX9_yardsToFull_5 (by decide) (rfl : v2_2.toInt = v2_2.toInt) li_9 (fun h2_ => ?_) (fun h2_ => ?_)
      · refine w_iconst (v := 0) dX9_yardsToFull_33 (by decide) ?_
        exact w_iret rfl dX9_yardsToFull_34 ⟨rfl, trivial, ⟨v2_2, hv0_2, hv1_2, hL_2, (Or.inl ⟨h2_, rfl⟩)⟩⟩
      · refine w_aload_n dX9_yardsToFull_8 rfl 1 rfl ?_
        refine w_aload_n dX9_yardsToFull_9 rfl 1 rfl ?_
        refine w_getI fl_RX9_13 rfl rfl (ic_9 hb hw) dX9_yardsToFull_10 (fun z3_ e4_ => ?_)
        refine w_iload_n dX9_yardsToFull_13 rfl 2 rfl ?_
        refine w_iload_n dX9_yardsToFull_14 rfl 0 rfl ?_
        refine w_callS (as := [vI z3_, vI v, vI v2_2]) (rest := [vR (9, b, w)]) (c_X7_cellFrom l G cy ad d z3_ v v2_2 Mz hIz) kS_X7_cellFrom (by decide +kernel) (Nat.le_of_ble_eq_true rfl) m_1049 rfl rfl (by decide) (Nat.le_of_ble_eq_true rfl) dX9_yardsToFull_15 (fun r5_ M6_ q7_ => ?_)
        obtain ⟨rfl, h8_, hs9_⟩ := q7_
        refine w_callV (as := [vI r5_]) (rest := []) (c_X9_held l G cy ad d b w r5_ Mz hIz hb hw) kV_X9_held (by decide +kernel) (Nat.le_of_ble_eq_true rfl) m_946 rfl rfl rfl (ic_9 hb hw) rfl rfl (by decide) (Nat.le_of_ble_eq_true rfl) dX9_yardsToFull_18 (fun r10_ M11_ q12_ => ?_)
        obtain ⟨rfl, h13_, hs14_⟩ := q12_
        refine w_iconst (v := 2) dX9_yardsToFull_21 (by decide) ?_
        refine w_icmp_ne (tgt := 27) dX9_yardsToFull_22 (by decide) (rfl : r10_.toInt = r10_.toInt) li_2 (fun h15_ => ?_) (fun h15_ => ?_)
        · refine w_iincB (j := 0) (f := fun z16_ => [(2, vI z16_), (0, vR (9, b, w)), (1, vI v)]) dX9_yardsToFull_27 rfl (by decide) (fun _ => rfl) (rfl : v2_2.toInt = v2_2.toInt) li_1 (lf_c_X9_yardsToFull_0 v2_2 hv0_2 hv1_2 h2_) (fun z16_ h17_ => ?_)
          refine w_goto (tgt := 2) dX9_yardsToFull_30 (by decide) ?_
          refine w_loc (ls' := [(2, vI z16_), (0, vR (9, b, w)), (1, vI v)]) [0, 1, 2] rfl ?_
          exact ih_2 z16_ (lf_c_X9_yardsToFull_1 v2_2 z16_ hv0_2 hv1_2 h2_ h17_) (lf_c_X9_yardsToFull_2 v2_2 z16_ hv0_2 hv1_2 h2_ h17_) (RCH.tail hL_2 ⟨hv0_2, hv1_2, h2_, z3_, e4_, r5_, hs9_, h8_, r10_, hs14_, h15_, z16_, h17_, rfl⟩) (Nat.lt_of_lt_of_le (lf_c_X9_yardsToFull_3 v2_2 z16_ hv0_2 hv1_2 h2_ h17_) (Nat.le_of_lt_succ hm_2))
        · refine w_iload_n dX9_yardsToFull_25 rfl 0 rfl ?_
          exact w_iret rfl dX9_yardsToFull_26 ⟨rfl, trivial, ⟨v2_2, hv0_2, hv1_2, hL_2, (Or.inr ⟨h2_, z3_, e4_, r5_, hs9_, h8_, r10_, hs14_, h15_, rfl⟩)⟩⟩
  exact lp1_ _ 1 (lf_c_X9_yardsToFull_4 ) (lf_c_X9_yardsToFull_5 ) RCH.refl (Nat.lt_succ_self _)
def ST_X9_yardsHeldFree_2 (b : Nat) (w : Nat) (Mz : mM) (v1_2 : Int32) (v1_2y : Int32) : Prop := (0 ≤ v1_2.toInt) ∧ (v1_2.toInt ≤ 15) ∧ (v1_2.toInt < 15) ∧ ∃ z3_ : Int32, (z3_ = Mz.1 (9, b, w) 1) ∧ ∃ z5_ : Int32, (z5_ = Mz.1 (9, b, w) 2) ∧ ∃ z7_ : Int32, (z7_.toInt = v1_2.toInt + 1) ∧ ∃ r9_ : Int32, (SP_X7_cellFrom z3_ z5_ z7_ Mz r9_) ∧ (-1 ≤ r9_.toInt ∧ r9_.toInt ≤ 191) ∧ ∃ r14_ : Int32, (SP_X9_held b w r9_ Mz r14_) ∧ (r14_.toInt = 1) ∧ ∃ z20_ : Int32, (z20_.toInt = v1_2.toInt + 1) ∧ v1_2y = z20_
def SP_X9_yardsHeldFree (b : Nat) (w : Nat) (Mz : mM) (r_ : Int32) : Prop := ∃ v1_2 : Int32, (0 ≤ v1_2.toInt) ∧ (v1_2.toInt ≤ 15) ∧ (RCH (fun x_ y_ => ST_X9_yardsHeldFree_2 b w Mz x_ y_) (0 : Int32) v1_2) ∧ (((15 ≤ v1_2.toInt) ∧ r_ = v1_2) ∨ ((v1_2.toInt < 15) ∧ ∃ z3_ : Int32, (z3_ = Mz.1 (9, b, w) 1) ∧ ∃ z5_ : Int32, (z5_ = Mz.1 (9, b, w) 2) ∧ ∃ z7_ : Int32, (z7_.toInt = v1_2.toInt + 1) ∧ ∃ r9_ : Int32, (SP_X7_cellFrom z3_ z5_ z7_ Mz r9_) ∧ (-1 ≤ r9_.toInt ∧ r9_.toInt ≤ 191) ∧ ∃ r14_ : Int32, (SP_X9_held b w r9_ Mz r14_) ∧ (¬ r14_.toInt = 1) ∧ r_ = v1_2))
theorem lf_c_X9_yardsHeldFree_0  (v1_2 : Int32) (hv0_2 : 0 ≤ v1_2.toInt) (hv1_2 : v1_2.toInt ≤ 15) (h2_ : v1_2.toInt < 15) : -2147483648 ≤ v1_2.toInt + 1 ∧ v1_2.toInt + 1 < 2147483648 := by have r_v1_2 := rngI v1_2; omega
theorem lf_c_X9_yardsHeldFree_1  (v1_2 : Int32) (z7_ : Int32) (hv0_2 : 0 ≤ v1_2.toInt) (hv1_2 : v1_2.toInt ≤ 15) (h2_ : v1_2.toInt < 15) (h8_ : z7_.toInt = v1_2.toInt + 1) : -2147483648 ≤ v1_2.toInt + 1 ∧ v1_2.toInt + 1 < 2147483648 := by have r_v1_2 := rngI v1_2; have r_z7_ := rngI z7_; omega
theorem lf_c_X9_yardsHeldFree_2  (v1_2 : Int32) (z7_ : Int32) (z20_ : Int32) (hv0_2 : 0 ≤ v1_2.toInt) (hv1_2 : v1_2.toInt ≤ 15) (h2_ : v1_2.toInt < 15) (h8_ : z7_.toInt = v1_2.toInt + 1) (h21_ : z20_.toInt = v1_2.toInt + 1) : 0 ≤ z20_.toInt := by have r_v1_2 := rngI v1_2; have r_z7_ := rngI z7_; have r_z20_ := rngI z20_; omega
theorem lf_c_X9_yardsHeldFree_3  (v1_2 : Int32) (z7_ : Int32) (z20_ : Int32) (hv0_2 : 0 ≤ v1_2.toInt) (hv1_2 : v1_2.toInt ≤ 15) (h2_ : v1_2.toInt < 15) (h8_ : z7_.toInt = v1_2.toInt + 1) (h21_ : z20_.toInt = v1_2.toInt + 1) : z20_.toInt ≤ 15 := by have r_v1_2 := rngI v1_2; have r_z7_ := rngI z7_; have r_z20_ := rngI z20_; omega
theorem lf_c_X9_yardsHeldFree_4  (v1_2 : Int32) (z7_ : Int32) (z20_ : Int32) (hv0_2 : 0 ≤ v1_2.toInt) (hv1_2 : v1_2.toInt ≤ 15) (h2_ : v1_2.toInt < 15) (h8_ : z7_.toInt = v1_2.toInt + 1) (h21_ : z20_.toInt = v1_2.toInt + 1) : (2147483648 - z20_.toInt).toNat < (2147483648 - v1_2.toInt).toNat := by have r_v1_2 := rngI v1_2; have r_z7_ := rngI z7_; have r_z20_ := rngI z20_; omega
theorem lf_c_X9_yardsHeldFree_5    : 0 ≤ (0 : Int32).toInt := by have q0 := li_0; omega
theorem lf_c_X9_yardsHeldFree_6    : (0 : Int32).toInt ≤ 15 := by have q0 := li_0; omega
set_option maxHeartbeats 4000000 in
set_option maxRecDepth 100000 in
theorem c_X9_yardsHeldFree (l : Launch) (G : va_G) (cy : Nat → ClassId) (ad : rf → Nat) (d : Nat) (b : Nat) (w : Nat) (Mz : mM) (hIz : Inv Mz) (hb : b < 3) (hw : w < 8) : WP CC l G cy ad yX9_yardsHeldFree cX9_yardsHeldFree 2 (some .int) (d + 2) 0 [(0, vR (9, b, w))] [] Mz (fun r M' => Mz = M' ∧ (True) ∧ SP_X9_yardsHeldFree b w Mz r) := by
  refine w_iconst (v := 0) dX9_yardsHeldFree_0 (by decide) ?_
  refine w_istore_n (ls' := [(1, vI 0), (0, vR (9, b, w))]) dX9_yardsHeldFree_1 rfl (by decide) rfl ?_
  have lp1_ : ∀ (nn_2 : Nat) (v1_2 : Int32) (hv0_2 : 0 ≤ v1_2.toInt) (hv1_2 : v1_2.toInt ≤ 15) (hL_2 : RCH (fun x_ y_ => ST_X9_yardsHeldFree_2 b w Mz x_ y_) (0 : Int32) v1_2), (2147483648 - v1_2.toInt).toNat < nn_2 → WP CC l G cy ad yX9_yardsHeldFree cX9_yardsHeldFree 2 (some .int) (d + 2) 2 [(1, vI v1_2), (0, vR (9, b, w))] [] Mz (fun r M' => Mz = M' ∧ (True) ∧ SP_X9_yardsHeldFree b w Mz r) := by
    intro nn_2
    induction nn_2 with
    | zero => intro v1_2 hv0_2 hv1_2 hL_2 hm_2; exact absurd hm_2 (Nat.not_lt_zero _)
    | succ nn_2 ih_2 =>
      intro v1_2 hv0_2 hv1_2 hL_2 hm_2
      refine w_iload_n dX9_yardsHeldFree_2 rfl 0 rfl ?_
      refine w_bipush (v := 15) dX9_yardsHeldFree_3 (by decide) ?_
      refine w_icmp_ge (tgt := 36) dX9_yardsHeldFree_5 (by decide) (rfl : v1_2.toInt = v1_2.toInt) li_15 (fun h2_ => ?_) (fun h2_ => ?_)
      · refine w_iload_n dX9_yardsHeldFree_36 rfl 0 rfl ?_
        exact w_iret rfl dX9_yardsHeldFree_37 ⟨rfl, trivial, ⟨v1_2, hv0_2, hv1_2, hL_2, (Or.inl ⟨h2_, rfl⟩)⟩⟩
      · refine w_aload_n dX9_yardsHeldFree_8 rfl 1 rfl ?_
        refine w_aload_n dX9_yardsHeldFree_9 rfl 1 rfl ?_
        refine w_getI fl_RX9_13 rfl rfl (ic_9 hb hw) dX9_yardsHeldFree_10 (fun z3_ e4_ => ?_)
        refine w_aload_n dX9_yardsHeldFree_13 rfl 1 rfl ?_
        refine w_getI fl_RX9_16 rfl rfl (ic_9 hb hw) dX9_yardsHeldFree_14 (fun z5_ e6_ => ?_)
        refine w_iload_n dX9_yardsHeldFree_17 rfl 0 rfl ?_
        refine w_iconst (v := 1) dX9_yardsHeldFree_18 (by decide) ?_
        refine w_iaddB dX9_yardsHeldFree_19 (rfl : v1_2.toInt = v1_2.toInt) li_1 (lf_c_X9_yardsHeldFree_0 v1_2 hv0_2 hv1_2 h2_) (fun z7_ h8_ => ?_)
        refine w_callS (as := [vI z3_, vI z5_, vI z7_]) (rest := [vR (9, b, w)]) (c_X7_cellFrom l G cy ad d z3_ z5_ z7_ Mz hIz) kS_X7_cellFrom (by decide +kernel) (Nat.le_of_ble_eq_true rfl) m_1049 rfl rfl (by decide) (Nat.le_of_ble_eq_true rfl) dX9_yardsHeldFree_20 (fun r9_ M10_ q11_ => ?_)
        obtain ⟨rfl, h12_, hs13_⟩ := q11_
        refine w_callV (as := [vI r9_]) (rest := []) (c_X9_held l G cy ad d b w r9_ Mz hIz hb hw) kV_X9_held (by decide +kernel) (Nat.le_of_ble_eq_true rfl) m_946 rfl rfl rfl (ic_9 hb hw) rfl rfl (by decide) (Nat.le_of_ble_eq_true rfl) dX9_yardsHeldFree_23 (fun r14_ M15_ q16_ => ?_)
        obtain ⟨rfl, h17_, hs18_⟩ := q16_
        refine w_iconst (v := 1) dX9_yardsHeldFree_26 (by decide) ?_
        refine w_icmp_ne (tgt := 36) dX9_yardsHeldFree_27 (by decide) (rfl : r14_.toInt = r14_.toInt) li_1 (fun h19_ => ?_) (fun h19_ => ?_)
        · refine w_iload_n dX9_yardsHeldFree_36 rfl 0 rfl ?_
          exact w_iret rfl dX9_yardsHeldFree_37 ⟨rfl, trivial, ⟨v1_2, hv0_2, hv1_2, hL_2, (Or.inr ⟨h2_, z3_, e4_, z5_, e6_, z7_, h8_, r9_, hs13_, h12_, r14_, hs18_, h19_, rfl⟩)⟩⟩
        · refine w_iincB (j := 0) (f := fun z20_ => [(1, vI z20_), (0, vR (9, b, w))]) dX9_yardsHeldFree_30 rfl (by decide) (fun _ => rfl) (rfl : v1_2.toInt = v1_2.toInt) li_1 (lf_c_X9_yardsHeldFree_1 v1_2 z7_ hv0_2 hv1_2 h2_ h8_) (fun z20_ h21_ => ?_)
          refine w_goto (tgt := 2) dX9_yardsHeldFree_33 (by decide) ?_
          refine w_loc (ls' := [(1, vI z20_), (0, vR (9, b, w))]) [0, 1] rfl ?_
          exact ih_2 z20_ (lf_c_X9_yardsHeldFree_2 v1_2 z7_ z20_ hv0_2 hv1_2 h2_ h8_ h21_) (lf_c_X9_yardsHeldFree_3 v1_2 z7_ z20_ hv0_2 hv1_2 h2_ h8_ h21_) (RCH.tail hL_2 ⟨hv0_2, hv1_2, h2_, z3_, e4_, z5_, e6_, z7_, h8_, r9_, hs13_, h12_, r14_, hs18_, h19_, z20_, h21_, rfl⟩) (Nat.lt_of_lt_of_le (lf_c_X9_yardsHeldFree_4 v1_2 z7_ z20_ hv0_2 hv1_2 h2_ h8_ h21_) (Nat.le_of_lt_succ hm_2))
  exact lp1_ _ 0 (lf_c_X9_yardsHeldFree_5 ) (lf_c_X9_yardsHeldFree_6 ) RCH.refl (Nat.lt_succ_self _)
def S_c_X9_turn (b : Nat) (w : Nat) : rf → Nat → Prop := fun c k => (c.1 = 9 ∧ c.2.1 = b ∧ c.2.2 = w ∧ k = 2) ∨ False
def SP_X9_turn (b : Nat) (w : Nat) (v : Int32) (Mz : mM) (M_ : mM) : Prop := ∃ z1_ : Int32, (z1_ = Mz.1 (9, b, w) 2) ∧ ∃ z3_ : Int32, (z3_ = z1_ + v) ∧ ∃ z5_ : Int32, (z5_ = z3_ &&& (7 : Int32)) ∧ (0 ≤ z5_.toInt ∧ z5_.toInt < ((2 ^ 3 : Nat) : Int)) ∧ ∃ M8_ : mM, (M8_ = up Mz (9, b, w) 2 z5_) ∧ M_ = M8_
set_option maxHeartbeats 4000000 in
set_option maxRecDepth 100000 in
theorem c_X9_turn (l : Launch) (G : va_G) (cy : Nat → ClassId) (ad : rf → Nat) (d : Nat) (b : Nat) (w : Nat) (v : Int32) (Mz : mM) (hIz : Inv Mz) (hb : b < 3) (hw : w < 8) : WP CC l G cy ad yX9_turn cX9_turn 2 none d 0 [(0, vR (9, b, w)), (1, vI v)] [] Mz (fun r M' => Inv M' ∧ FR (S_c_X9_turn b w) Mz M' ∧ (True) ∧ SP_X9_turn b w v Mz M') := by
  have hFz : FR (S_c_X9_turn b w) Mz Mz := FR.self
  refine w_aload_n dX9_turn_0 rfl 0 rfl ?_
  refine w_aload_n dX9_turn_1 rfl 0 rfl ?_
  refine w_getI fl_RX9_16 rfl rfl (ic_9 hb hw) dX9_turn_2 (fun z1_ e2_ => ?_)
  refine w_iload_n dX9_turn_5 rfl 1 rfl ?_
  refine w_iadd dX9_turn_6 (fun z3_ h4_ => ?_)
  refine w_bipush (v := 7) dX9_turn_7 (by decide) ?_
  refine w_iand dX9_turn_9 (fun z5_ h7_ => ?_)
  have h6_ : 0 ≤ z5_.toInt ∧ z5_.toInt < ((2 ^ 3 : Nat) : Int) := by rw [h7_]; exact andI _ 3 (by decide) (by decide)
  refine w_putI CC_nd fl_RX9_16 rfl rfl (ic_9 hb hw) dX9_turn_10 (fun M8_ hM9_ => ?_)
  have hI10_ := hIz.put hM9_ (fun h => absurd h (by decide))
  have hF11_ := hFz.put hM9_ (Or.inl ⟨rfl, rfl, rfl, rfl⟩)
  exact w_vret rfl dX9_turn_13 ⟨hI10_, hF11_, trivial, ⟨z1_, e2_, z3_, h4_, z5_, h7_, h6_, M8_, hM9_, rfl⟩⟩
def S_c_X9_takeFrom (b : Nat) (w : Nat) (b2 : Nat) (w2 : Nat) : rf → Nat → Prop := fun c k => (c.1 = 9 ∧ c.2.1 = b ∧ c.2.2 = w ∧ k = 0) ∨ (c.1 = 9 ∧ c.2.1 = b ∧ c.2.2 = w ∧ k = 1) ∨ (c.1 = 9 ∧ c.2.1 = b ∧ c.2.2 = w ∧ k = 2) ∨ (c.1 = 9 ∧ c.2.1 = b ∧ c.2.2 = w ∧ k = 3) ∨ (c.1 = 9 ∧ c.2.1 = b ∧ c.2.2 = w ∧ k = 4) ∨ (c.1 = 9 ∧ c.2.1 = b ∧ c.2.2 = w ∧ k = 5) ∨ (c.1 = 9 ∧ c.2.1 = b ∧ c.2.2 = w ∧ k = 6) ∨ (c.1 = 9 ∧ c.2.1 = b ∧ c.2.2 = w ∧ k = 7) ∨ (c.1 = 9 ∧ c.2.1 = b ∧ c.2.2 = w ∧ k = 8) ∨ (c.1 = 40 ∧ c.2.1 = b ∧ c.2.2 = w) ∨ (c.1 = 41 ∧ c.2.1 = b ∧ c.2.2 = w) ∨ False
def SP_X9_takeFrom (b : Nat) (w : Nat) (b2 : Nat) (w2 : Nat) (Mz : mM) (M_ : mM) : Prop := ∃ z1_ : Int32, (z1_ = Mz.1 (9, b2, w2) 0) ∧ ∃ M3_ : mM, (M3_ = up Mz (9, b, w) 0 z1_) ∧ ∃ z7_ : Int32, (z7_ = M3_.1 (9, b2, w2) 1) ∧ ∃ M9_ : mM, (M9_ = up M3_ (9, b, w) 1 z7_) ∧ ∃ z13_ : Int32, (z13_ = M9_.1 (9, b2, w2) 2) ∧ ∃ M15_ : mM, (M15_ = up M9_ (9, b, w) 2 z13_) ∧ ∃ z19_ : Int32, (z19_ = M15_.1 (9, b2, w2) 3) ∧ ∃ M21_ : mM, (M21_ = up M15_ (9, b, w) 3 z19_) ∧ ∃ z25_ : Int32, (z25_ = M21_.1 (9, b2, w2) 4) ∧ ∃ M27_ : mM, (M27_ = up M21_ (9, b, w) 4 z25_) ∧ ∃ z31_ : Int32, (z31_ = M27_.1 (9, b2, w2) 5) ∧ ∃ M33_ : mM, (M33_ = up M27_ (9, b, w) 5 z31_) ∧ ∃ z37_ : Int32, (z37_ = M33_.1 (9, b2, w2) 6) ∧ (0 ≤ z37_.toInt ∧ z37_.toInt ≤ 1) ∧ ∃ M40_ : mM, (M40_ = up M33_ (9, b, w) 6 z37_) ∧ ∃ z44_ : Int32, (z44_ = M40_.1 (9, b2, w2) 7) ∧ ∃ M46_ : mM, (M46_ = up M40_ (9, b, w) 7 z44_) ∧ ∃ z50_ : Int32, (z50_ = M46_.1 (9, b2, w2) 8) ∧ ∃ M52_ : mM, (M52_ = up M46_ (9, b, w) 8 z50_) ∧ ∃ M56_ : mM, (M56_ = cp M52_ (40, b2, w2) (40, b, w) (0 : Int32).toNatClampNeg (0 : Int32).toNatClampNeg (192 : Int32).toNatClampNeg) ∧ ∃ M60_ : mM, (M60_ = cp M56_ (41, b2, w2) (41, b, w) (0 : Int32).toNatClampNeg (0 : Int32).toNatClampNeg (192 : Int32).toNatClampNeg) ∧ M_ = M60_
set_option maxHeartbeats 4000000 in
set_option maxRecDepth 100000 in
theorem c_X9_takeFrom (l : Launch) (G : va_G) (cy : Nat → ClassId) (ad : rf → Nat) (d : Nat) (b : Nat) (w : Nat) (b2 : Nat) (w2 : Nat) (Mz : mM) (hIz : Inv Mz) (hb : b < 3) (hw : w < 8) (hb2 : b2 < 3) (hw2 : w2 < 8) : WP CC l G cy ad yX9_takeFrom cX9_takeFrom 2 none (d + 1) 0 [(0, vR (9, b, w)), (1, vR (9, b2, w2))] [] Mz (fun r M' => Inv M' ∧ FR (S_c_X9_takeFrom b w b2 w2) Mz M' ∧ (True) ∧ SP_X9_takeFrom b w b2 w2 Mz M') := by
  have hFz : FR (S_c_X9_takeFrom b w b2 w2) Mz Mz := FR.self
  refine w_aload_n dX9_takeFrom_0 rfl 0 rfl ?_
  refine w_aload_n dX9_takeFrom_1 rfl 1 rfl ?_
  refine w_getI fl_RX9_7 rfl rfl (ic_9 hb2 hw2) dX9_takeFrom_2 (fun z1_ e2_ => ?_)
  refine w_putI CC_nd fl_RX9_7 rfl rfl (ic_9 hb hw) dX9_takeFrom_5 (fun M3_ hM4_ => ?_)
  have hI5_ := hIz.put hM4_ (fun h => absurd h (by decide))
  have hF6_ := hFz.put hM4_ (Or.inl ⟨rfl, rfl, rfl, rfl⟩)
  refine w_aload_n dX9_takeFrom_8 rfl 0 rfl ?_
  refine w_aload_n dX9_takeFrom_9 rfl 1 rfl ?_
  refine w_getI fl_RX9_13 rfl rfl (ic_9 hb2 hw2) dX9_takeFrom_10 (fun z7_ e8_ => ?_)
  refine w_putI CC_nd fl_RX9_13 rfl rfl (ic_9 hb hw) dX9_takeFrom_13 (fun M9_ hM10_ => ?_)
  have hI11_ := hI5_.put hM10_ (fun h => absurd h (by decide))
  have hF12_ := hF6_.put hM10_ (Or.inr (Or.inl ⟨rfl, rfl, rfl, rfl⟩))
  refine w_aload_n dX9_takeFrom_16 rfl 0 rfl ?_
  refine w_aload_n dX9_takeFrom_17 rfl 1 rfl ?_
  refine w_getI fl_RX9_16 rfl rfl (ic_9 hb2 hw2) dX9_takeFrom_18 (fun z13_ e14_ => ?_)
  refine w_putI CC_nd fl_RX9_16 rfl rfl (ic_9 hb hw) dX9_takeFrom_21 (fun M15_ hM16_ => ?_)
  have hI17_ := hI11_.put hM16_ (fun h => absurd h (by decide))
  have hF18_ := hF12_.put hM16_ (Or.inr (Or.inr (Or.inl ⟨rfl, rfl, rfl, rfl⟩)))
  refine w_aload_n dX9_takeFrom_24 rfl 0 rfl ?_
  refine w_aload_n dX9_takeFrom_25 rfl 1 rfl ?_
  refine w_getI fl_RX9_19 rfl rfl (ic_9 hb2 hw2) dX9_takeFrom_26 (fun z19_ e20_ => ?_)
  refine w_putI CC_nd fl_RX9_19 rfl rfl (ic_9 hb hw) dX9_takeFrom_29 (fun M21_ hM22_ => ?_)
  have hI23_ := hI17_.put hM22_ (fun h => absurd h (by decide))
  have hF24_ := hF18_.put hM22_ (Or.inr (Or.inr (Or.inr (Or.inl ⟨rfl, rfl, rfl, rfl⟩))))
  refine w_aload_n dX9_takeFrom_32 rfl 0 rfl ?_
  refine w_aload_n dX9_takeFrom_33 rfl 1 rfl ?_
  refine w_getI fl_RX9_22 rfl rfl (ic_9 hb2 hw2) dX9_takeFrom_34 (fun z25_ e26_ => ?_)
  refine w_putI CC_nd fl_RX9_22 rfl rfl (ic_9 hb hw) dX9_takeFrom_37 (fun M27_ hM28_ => ?_)
  have hI29_ := hI23_.put hM28_ (fun h => absurd h (by decide))
  have hF30_ := hF24_.put hM28_ (Or.inr (Or.inr (Or.inr (Or.inr (Or.inl ⟨rfl, rfl, rfl, rfl⟩)))))
  refine w_aload_n dX9_takeFrom_40 rfl 0 rfl ?_
  refine w_aload_n dX9_takeFrom_41 rfl 1 rfl ?_
  refine w_getI fl_RX9_25 rfl rfl (ic_9 hb2 hw2) dX9_takeFrom_42 (fun z31_ e32_ => ?_)
  refine w_putI CC_nd fl_RX9_25 rfl rfl (ic_9 hb hw) dX9_takeFrom_45 (fun M33_ hM34_ => ?_)
  have hI35_ := hI29_.put hM34_ (fun h => absurd h (by decide))
  have hF36_ := hF30_.put hM34_ (Or.inr (Or.inr (Or.inr (Or.inr (Or.inr (Or.inl ⟨rfl, rfl, rfl, rfl⟩))))))
  refine w_aload_n dX9_takeFrom_48 rfl 0 rfl ?_
  refine w_aload_n dX9_takeFrom_49 rfl 1 rfl ?_
  refine w_getI fl_RX9_28 rfl rfl (ic_9 hb2 hw2) dX9_takeFrom_50 (fun z37_ e38_ => ?_)
  have h39_ : 0 ≤ z37_.toInt ∧ z37_.toInt ≤ 1 := ofEq (P := fun v => 0 ≤ v.toInt ∧ v.toInt ≤ 1) e38_ (hI35_ (9, b2, w2) 6 rfl)
  refine w_putZ CC_nd fl_RX9_28 rfl rfl (ic_9 hb hw) h39_ dX9_takeFrom_53 (fun M40_ hM41_ => ?_)
  have hI42_ := hI35_.put hM41_ (fun _ => h39_)
  have hF43_ := hF36_.put hM41_ (Or.inr (Or.inr (Or.inr (Or.inr (Or.inr (Or.inr (Or.inl ⟨rfl, rfl, rfl, rfl⟩)))))))
  refine w_aload_n dX9_takeFrom_56 rfl 0 rfl ?_
  refine w_aload_n dX9_takeFrom_57 rfl 1 rfl ?_
  refine w_getI fl_RX9_32 rfl rfl (ic_9 hb2 hw2) dX9_takeFrom_58 (fun z44_ e45_ => ?_)
  refine w_putI CC_nd fl_RX9_32 rfl rfl (ic_9 hb hw) dX9_takeFrom_61 (fun M46_ hM47_ => ?_)
  have hI48_ := hI42_.put hM47_ (fun h => absurd h (by decide))
  have hF49_ := hF43_.put hM47_ (Or.inr (Or.inr (Or.inr (Or.inr (Or.inr (Or.inr (Or.inr (Or.inl ⟨rfl, rfl, rfl, rfl⟩))))))))
  refine w_aload_n dX9_takeFrom_64 rfl 0 rfl ?_
  refine w_aload_n dX9_takeFrom_65 rfl 1 rfl ?_
  refine w_getI fl_RX9_35 rfl rfl (ic_9 hb2 hw2) dX9_takeFrom_66 (fun z50_ e51_ => ?_)
  refine w_putI CC_nd fl_RX9_35 rfl rfl (ic_9 hb hw) dX9_takeFrom_69 (fun M52_ hM53_ => ?_)
  have hI54_ := hI48_.put hM53_ (fun h => absurd h (by decide))
  have hF55_ := hF49_.put hM53_ (Or.inr (Or.inr (Or.inr (Or.inr (Or.inr (Or.inr (Or.inr (Or.inr (Or.inl ⟨rfl, rfl, rfl, rfl⟩)))))))))
  refine w_aload_n dX9_takeFrom_72 rfl 1 rfl ?_
  refine w_getR (c' := (40, b2, w2)) fl_RX9_40 rfl rfl (ic_9 hb2 hw2) dX9_takeFrom_73 rfl ?_
  refine w_iconst (v := 0) dX9_takeFrom_76 (by decide) ?_
  refine w_aload_n dX9_takeFrom_77 rfl 0 rfl ?_
  refine w_getR (c' := (40, b, w)) fl_RX9_40 rfl rfl (ic_9 hb hw) dX9_takeFrom_78 rfl ?_
  refine w_iconst (v := 0) dX9_takeFrom_81 (by decide) ?_
  refine w_sipush (v := 192) dX9_takeFrom_82 (by decide) ?_
  refine w_copy CC_nd rfl rfl (ic_40 hb2 hw2) rfl rfl (ic_40 hb hw) m_1279 m_830 m_829 m_98 li_0 li_0 li_192 (by decide) rfl (by omega) dX9_takeFrom_85 (fun M56_ hM57_ => ?_)
  have hI58_ := hI54_.cpy hM57_ (fun _ _ => trivial)
  have hF59_ := hF55_.cpy hM57_ (fun _ => (Or.inr (Or.inr (Or.inr (Or.inr (Or.inr (Or.inr (Or.inr (Or.inr (Or.inr (Or.inl ⟨rfl, rfl, rfl⟩)))))))))))
  refine w_aload_n dX9_takeFrom_88 rfl 1 rfl ?_
  refine w_getR (c' := (41, b2, w2)) fl_RX9_44 rfl rfl (ic_9 hb2 hw2) dX9_takeFrom_89 rfl ?_
  refine w_iconst (v := 0) dX9_takeFrom_92 (by decide) ?_
  refine w_aload_n dX9_takeFrom_93 rfl 0 rfl ?_
  refine w_getR (c' := (41, b, w)) fl_RX9_44 rfl rfl (ic_9 hb hw) dX9_takeFrom_94 rfl ?_
  refine w_iconst (v := 0) dX9_takeFrom_97 (by decide) ?_
  refine w_sipush (v := 192) dX9_takeFrom_98 (by decide) ?_
  refine w_copy CC_nd rfl rfl (ic_41 hb2 hw2) rfl rfl (ic_41 hb hw) m_1279 m_830 m_829 m_98 li_0 li_0 li_192 (by decide) rfl (by omega) dX9_takeFrom_101 (fun M60_ hM61_ => ?_)
  have hI62_ := hI58_.cpy hM61_ (fun _ _ => trivial)
  have hF63_ := hF59_.cpy hM61_ (fun _ => (Or.inr (Or.inr (Or.inr (Or.inr (Or.inr (Or.inr (Or.inr (Or.inr (Or.inr (Or.inr (Or.inl ⟨rfl, rfl, rfl⟩))))))))))))
  exact w_vret rfl dX9_takeFrom_104 ⟨hI62_, hF63_, trivial, ⟨z1_, e2_, M3_, hM4_, z7_, e8_, M9_, hM10_, z13_, e14_, M15_, hM16_, z19_, e20_, M21_, hM22_, z25_, e26_, M27_, hM28_, z31_, e32_, M33_, hM34_, z37_, e38_, h39_, M40_, hM41_, z44_, e45_, M46_, hM47_, z50_, e51_, M52_, hM53_, M56_, hM57_, M60_, hM61_, rfl⟩⟩
def SP_X6_isMissing (w : Nat) (Mz : mM) (r_ : Int32) : Prop := ∃ z1_ : Int32, (z1_ = Mz.1 (6, 0, w) 0) ∧ (((¬ z1_.toInt = 0) ∧ r_ = 0) ∨ ((z1_.toInt = 0) ∧ r_ = 1))
set_option maxHeartbeats 4000000 in
set_option maxRecDepth 100000 in
theorem c_X6_isMissing (l : Launch) (G : va_G) (cy : Nat → ClassId) (ad : rf → Nat) (d : Nat) (w : Nat) (Mz : mM) (hIz : Inv Mz) (hw : w < 4) : WP CC l G cy ad yX6_isMissing cX6_isMissing 1 (some .boolean) d 0 [(0, vR (6, 0, w))] [] Mz (fun r M' => Mz = M' ∧ ((0 ≤ r.toInt ∧ r.toInt ≤ 1)) ∧ SP_X6_isMissing w Mz r) := by
  refine w_aload_n dX6_isMissing_0 rfl 0 rfl ?_
  refine w_getI fl_RX6_7 rfl rfl (ic_6 hw) dX6_isMissing_1 (fun z1_ e2_ => ?_)
  refine w_if_ne (tgt := 11) dX6_isMissing_4 (by decide) (rfl : z1_.toInt = z1_.toInt) (fun h3_ => ?_) (fun h3_ => ?_)
  · refine w_iconst (v := 0) dX6_isMissing_11 (by decide) ?_
    exact w_zret rfl dX6_isMissing_12 ⟨by decide, by decide⟩ ⟨rfl, ⟨by decide, by decide⟩, ⟨z1_, e2_, (Or.inl ⟨h3_, rfl⟩)⟩⟩
  · refine w_iconst (v := 1) dX6_isMissing_7 (by decide) ?_
    refine w_goto (tgt := 12) dX6_isMissing_8 (by decide) ?_
    exact w_zret rfl dX6_isMissing_12 ⟨by decide, by decide⟩ ⟨rfl, ⟨by decide, by decide⟩, ⟨z1_, e2_, (Or.inr ⟨h3_, rfl⟩)⟩⟩
def S_c_X6_drop (w : Nat) : rf → Nat → Prop := fun c k => (c.1 = 6 ∧ c.2.1 = 0 ∧ c.2.2 = w ∧ k = 0) ∨ (c.1 = 6 ∧ c.2.1 = 0 ∧ c.2.2 = w ∧ k = 1) ∨ False
def SP_X6_drop (w : Nat) (Mz : mM) (M_ : mM) : Prop := ∃ M1_ : mM, (M1_ = up Mz (6, 0, w) 0 0) ∧ ∃ M5_ : mM, (M5_ = up M1_ (6, 0, w) 1 0) ∧ M_ = M5_
set_option maxHeartbeats 4000000 in
set_option maxRecDepth 100000 in
theorem c_X6_drop (l : Launch) (G : va_G) (cy : Nat → ClassId) (ad : rf → Nat) (d : Nat) (w : Nat) (Mz : mM) (hIz : Inv Mz) (hw : w < 4) : WP CC l G cy ad yX6_drop cX6_drop 1 none d 0 [(0, vR (6, 0, w))] [] Mz (fun r M' => Inv M' ∧ FR (S_c_X6_drop w) Mz M' ∧ (True) ∧ SP_X6_drop w Mz M') := by
  have hFz : FR (S_c_X6_drop w) Mz Mz := FR.self
  refine w_aload_n dX6_drop_0 rfl 0 rfl ?_
  refine w_iconst (v := 0) dX6_drop_1 (by decide) ?_
  refine w_putI CC_nd fl_RX6_7 rfl rfl (ic_6 hw) dX6_drop_2 (fun M1_ hM2_ => ?_)
  have hI3_ := hIz.put hM2_ (fun h => absurd h (by decide))
  have hF4_ := hFz.put hM2_ (Or.inl ⟨rfl, rfl, rfl, rfl⟩)
  refine w_aload_n dX6_drop_5 rfl 0 rfl ?_
  refine w_iconst (v := 0) dX6_drop_6 (by decide) ?_
  refine w_putI CC_nd fl_RX6_13 rfl rfl (ic_6 hw) dX6_drop_7 (fun M5_ hM6_ => ?_)
  have hI7_ := hI3_.put hM6_ (fun _ => ⟨by decide, by decide⟩)
  have hF8_ := hF4_.put hM6_ (Or.inr (Or.inl ⟨rfl, rfl, rfl, rfl⟩))
  exact w_vret rfl dX6_drop_10 ⟨hI7_, hF8_, trivial, ⟨M1_, hM2_, M5_, hM6_, rfl⟩⟩
def S_c_X6_begin (w : Nat) : rf → Nat → Prop := fun c k => (c.1 = 6 ∧ c.2.1 = 0 ∧ c.2.2 = w ∧ k = 0) ∨ (c.1 = 6 ∧ c.2.1 = 0 ∧ c.2.2 = w ∧ k = 1) ∨ (c.1 = 34 ∧ c.2.1 = 0 ∧ c.2.2 = w) ∨ False
def ST_X6_begin_21 (w : Nat) (Mz : mM) (v3_21 : Int32) (M_21 : mM) (v3_21y : Int32) (M_21y : mM) : Prop := (0 ≤ v3_21.toInt) ∧ (v3_21.toInt ≤ 24) ∧ (Inv M_21) ∧ (FR (S_c_X6_begin w) Mz M_21) ∧ (v3_21.toInt < 24) ∧ ∃ j17_ : Nat, ((j17_ : Int) = v3_21.toInt) ∧ ∃ M15_ : mM, (M15_ = up M_21 (34, 0, w) j17_ 0) ∧ ∃ z21_ : Int32, (z21_.toInt = v3_21.toInt + 1) ∧ v3_21y = z21_ ∧ M_21y = M15_
def SP_X6_begin (w : Nat) (v : Int32) (u : Int32) (Mz : mM) (M_ : mM) : Prop := ∃ M1_ : mM, (M1_ = up Mz (6, 0, w) 0 v) ∧ ∃ z5_ : Int32, ((z5_.toInt = 24 ∧ 24 ≤ u.toInt) ∨ (z5_.toInt = u.toInt ∧ u.toInt ≤ 24)) ∧ ∃ z7_ : Int32, ((z7_.toInt = 0 ∧ z5_.toInt ≤ 0) ∨ (z7_.toInt = z5_.toInt ∧ 0 ≤ z5_.toInt)) ∧ ∃ M9_ : mM, (M9_ = up M1_ (6, 0, w) 1 z7_) ∧ ∃ v3_21 : Int32, (0 ≤ v3_21.toInt) ∧ (v3_21.toInt ≤ 24) ∧ ∃ M_21 : mM, (RCH (fun x_ y_ => ST_X6_begin_21 w Mz x_.1 x_.2 y_.1 y_.2) ((0 : Int32), M9_) (v3_21, M_21)) ∧ (Inv M_21) ∧ (FR (S_c_X6_begin w) Mz M_21) ∧ (24 ≤ v3_21.toInt) ∧ M_ = M_21
theorem lf_c_X6_begin_0 (M1_ : mM) (M9_ : mM) (Mz : mM) (w : Nat) (v : Int32) (u : Int32) (z5_ : Int32) (z7_ : Int32) (hw : w < 4) (hM2_ : M1_ = up Mz (6, 0, w) 0 v) (h6_ : (z5_.toInt = 24 ∧ 24 ≤ u.toInt) ∨ (z5_.toInt = u.toInt ∧ u.toInt ≤ 24)) (h8_ : (z7_.toInt = 0 ∧ z5_.toInt ≤ 0) ∨ (z7_.toInt = z5_.toInt ∧ 0 ≤ z5_.toInt)) (hM10_ : M9_ = up M1_ (6, 0, w) 1 z7_) : 0 ≤ z7_.toInt ∧ z7_.toInt ≤ 24 := by have r_v := rngI v; have r_u := rngI u; have r_z5_ := rngI z5_; have r_z7_ := rngI z7_; omega
theorem lf_c_X6_begin_1  (v3_21 : Int32) (hv0_21 : 0 ≤ v3_21.toInt) (hv1_21 : v3_21.toInt ≤ 24) (h14_ : v3_21.toInt < 24) : 0 ≤ v3_21.toInt ∧ v3_21.toInt < ((24 : Nat) : Int) := by have r_v3_21 := rngI v3_21; omega
theorem lf_c_X6_begin_2 (M15_ : mM) (M1_ : mM) (M9_ : mM) (M_21 : mM) (Mz : mM) (w : Nat) (v : Int32) (u : Int32) (z5_ : Int32) (z7_ : Int32) (v3_21 : Int32) (j17_ : Nat) (hw : w < 4) (hM2_ : M1_ = up Mz (6, 0, w) 0 v) (h6_ : (z5_.toInt = 24 ∧ 24 ≤ u.toInt) ∨ (z5_.toInt = u.toInt ∧ u.toInt ≤ 24)) (h8_ : (z7_.toInt = 0 ∧ z5_.toInt ≤ 0) ∨ (z7_.toInt = z5_.toInt ∧ 0 ≤ z5_.toInt)) (hM10_ : M9_ = up M1_ (6, 0, w) 1 z7_) (hv0_21 : 0 ≤ v3_21.toInt) (hv1_21 : v3_21.toInt ≤ 24) (h14_ : v3_21.toInt < 24) (h18_ : (j17_ : Int) = v3_21.toInt) (hM16_ : M15_ = up M_21 (34, 0, w) j17_ 0) : -2147483648 ≤ v3_21.toInt + 1 ∧ v3_21.toInt + 1 < 2147483648 := by have r_v := rngI v; have r_u := rngI u; have r_z5_ := rngI z5_; have r_z7_ := rngI z7_; have r_v3_21 := rngI v3_21; omega
theorem lf_c_X6_begin_3 (M15_ : mM) (M1_ : mM) (M9_ : mM) (M_21 : mM) (Mz : mM) (w : Nat) (v : Int32) (u : Int32) (z5_ : Int32) (z7_ : Int32) (v3_21 : Int32) (j17_ : Nat) (z21_ : Int32) (hw : w < 4) (hM2_ : M1_ = up Mz (6, 0, w) 0 v) (h6_ : (z5_.toInt = 24 ∧ 24 ≤ u.toInt) ∨ (z5_.toInt = u.toInt ∧ u.toInt ≤ 24)) (h8_ : (z7_.toInt = 0 ∧ z5_.toInt ≤ 0) ∨ (z7_.toInt = z5_.toInt ∧ 0 ≤ z5_.toInt)) (hM10_ : M9_ = up M1_ (6, 0, w) 1 z7_) (hv0_21 : 0 ≤ v3_21.toInt) (hv1_21 : v3_21.toInt ≤ 24) (h14_ : v3_21.toInt < 24) (h18_ : (j17_ : Int) = v3_21.toInt) (hM16_ : M15_ = up M_21 (34, 0, w) j17_ 0) (h22_ : z21_.toInt = v3_21.toInt + 1) : 0 ≤ z21_.toInt := by have r_v := rngI v; have r_u := rngI u; have r_z5_ := rngI z5_; have r_z7_ := rngI z7_; have r_v3_21 := rngI v3_21; have r_z21_ := rngI z21_; omega
theorem lf_c_X6_begin_4 (M15_ : mM) (M1_ : mM) (M9_ : mM) (M_21 : mM) (Mz : mM) (w : Nat) (v : Int32) (u : Int32) (z5_ : Int32) (z7_ : Int32) (v3_21 : Int32) (j17_ : Nat) (z21_ : Int32) (hw : w < 4) (hM2_ : M1_ = up Mz (6, 0, w) 0 v) (h6_ : (z5_.toInt = 24 ∧ 24 ≤ u.toInt) ∨ (z5_.toInt = u.toInt ∧ u.toInt ≤ 24)) (h8_ : (z7_.toInt = 0 ∧ z5_.toInt ≤ 0) ∨ (z7_.toInt = z5_.toInt ∧ 0 ≤ z5_.toInt)) (hM10_ : M9_ = up M1_ (6, 0, w) 1 z7_) (hv0_21 : 0 ≤ v3_21.toInt) (hv1_21 : v3_21.toInt ≤ 24) (h14_ : v3_21.toInt < 24) (h18_ : (j17_ : Int) = v3_21.toInt) (hM16_ : M15_ = up M_21 (34, 0, w) j17_ 0) (h22_ : z21_.toInt = v3_21.toInt + 1) : z21_.toInt ≤ 24 := by have r_v := rngI v; have r_u := rngI u; have r_z5_ := rngI z5_; have r_z7_ := rngI z7_; have r_v3_21 := rngI v3_21; have r_z21_ := rngI z21_; omega
theorem lf_c_X6_begin_5 (M15_ : mM) (M1_ : mM) (M9_ : mM) (M_21 : mM) (Mz : mM) (w : Nat) (v : Int32) (u : Int32) (z5_ : Int32) (z7_ : Int32) (v3_21 : Int32) (j17_ : Nat) (z21_ : Int32) (hw : w < 4) (hM2_ : M1_ = up Mz (6, 0, w) 0 v) (h6_ : (z5_.toInt = 24 ∧ 24 ≤ u.toInt) ∨ (z5_.toInt = u.toInt ∧ u.toInt ≤ 24)) (h8_ : (z7_.toInt = 0 ∧ z5_.toInt ≤ 0) ∨ (z7_.toInt = z5_.toInt ∧ 0 ≤ z5_.toInt)) (hM10_ : M9_ = up M1_ (6, 0, w) 1 z7_) (hv0_21 : 0 ≤ v3_21.toInt) (hv1_21 : v3_21.toInt ≤ 24) (h14_ : v3_21.toInt < 24) (h18_ : (j17_ : Int) = v3_21.toInt) (hM16_ : M15_ = up M_21 (34, 0, w) j17_ 0) (h22_ : z21_.toInt = v3_21.toInt + 1) : (2147483648 - z21_.toInt).toNat < (2147483648 - v3_21.toInt).toNat := by have r_v := rngI v; have r_u := rngI u; have r_z5_ := rngI z5_; have r_z7_ := rngI z7_; have r_v3_21 := rngI v3_21; have r_z21_ := rngI z21_; omega
theorem lf_c_X6_begin_6    : 0 ≤ (0 : Int32).toInt := by have q0 := li_0; omega
theorem lf_c_X6_begin_7    : (0 : Int32).toInt ≤ 24 := by have q0 := li_0; omega
set_option maxHeartbeats 4000000 in
set_option maxRecDepth 100000 in
theorem c_X6_begin (l : Launch) (G : va_G) (cy : Nat → ClassId) (ad : rf → Nat) (d : Nat) (w : Nat) (v : Int32) (u : Int32) (Mz : mM) (hIz : Inv Mz) (hw : w < 4) : WP CC l G cy ad yX6_begin cX6_begin 4 none (d + 1) 0 [(0, vR (6, 0, w)), (1, vI v), (2, vI u)] [] Mz (fun r M' => Inv M' ∧ FR (S_c_X6_begin w) Mz M' ∧ (True) ∧ SP_X6_begin w v u Mz M') := by
  have hFz : FR (S_c_X6_begin w) Mz Mz := FR.self
  refine w_aload_n dX6_begin_0 rfl 0 rfl ?_
  refine w_iload_n dX6_begin_1 rfl 1 rfl ?_
  refine w_putI CC_nd fl_RX6_7 rfl rfl (ic_6 hw) dX6_begin_2 (fun M1_ hM2_ => ?_)
  have hI3_ := hIz.put hM2_ (fun h => absurd h (by decide))
  have hF4_ := hFz.put hM2_ (Or.inl ⟨rfl, rfl, rfl, rfl⟩)
  refine w_aload_n dX6_begin_5 rfl 0 rfl ?_
  refine w_iconst (v := 0) dX6_begin_6 (by decide) ?_
  refine w_bipush (v := 24) dX6_begin_7 (by decide) ?_
  refine w_iload_n dX6_begin_9 rfl 2 rfl ?_
  refine w_min m_1230 m_770 m_86 m_771 li_24 (rfl : u.toInt = u.toInt) (Nat.le_of_ble_eq_true rfl) (by omega) dX6_begin_10 (fun z5_ h6_ => ?_)
  refine w_max m_1231 m_206 m_86 m_207 li_0 (rfl : z5_.toInt = z5_.toInt) (Nat.le_of_ble_eq_true rfl) (by omega) dX6_begin_13 (fun z7_ h8_ => ?_)
  refine w_putI CC_nd fl_RX6_13 rfl rfl (ic_6 hw) dX6_begin_16 (fun M9_ hM10_ => ?_)
  have hI11_ := hI3_.put hM10_ (fun _ => (lf_c_X6_begin_0 M1_ M9_ Mz w v u z5_ z7_ hw hM2_ h6_ h8_ hM10_))
  have hF12_ := hF4_.put hM10_ (Or.inr (Or.inl ⟨rfl, rfl, rfl, rfl⟩))
  refine w_iconst (v := 0) dX6_begin_19 (by decide) ?_
  refine w_istore_n (ls' := [(3, vI 0), (0, vR (6, 0, w)), (1, vI v), (2, vI u)]) dX6_begin_20 rfl (by decide) rfl ?_
  have lp13_ : ∀ (nn_21 : Nat) (M_21 : mM) (hI_21 : Inv M_21) (hF_21 : FR (S_c_X6_begin w) Mz M_21) (v3_21 : Int32) (hv0_21 : 0 ≤ v3_21.toInt) (hv1_21 : v3_21.toInt ≤ 24) (hL_21 : RCH (fun x_ y_ => ST_X6_begin_21 w Mz x_.1 x_.2 y_.1 y_.2) ((0 : Int32), M9_) (v3_21, M_21)), (2147483648 - v3_21.toInt).toNat < nn_21 → WP CC l G cy ad yX6_begin cX6_begin 4 none (d + 1) 21 [(3, vI v3_21), (0, vR (6, 0, w)), (1, vI v), (2, vI u)] [] M_21 (fun r M' => Inv M' ∧ FR (S_c_X6_begin w) Mz M' ∧ (True) ∧ SP_X6_begin w v u Mz M') := by
    intro nn_21
    induction nn_21 with
    | zero => intro M_21 hI_21 hF_21 v3_21 hv0_21 hv1_21 hL_21 hm_21; exact absurd hm_21 (Nat.not_lt_zero _)
    | succ nn_21 ih_21 =>
      intro M_21 hI_21 hF_21 v3_21 hv0_21 hv1_21 hL_21 hm_21
      refine w_iload_n dX6_begin_21 rfl 0 rfl ?_
      refine w_bipush (v := 24) dX6_begin_22 (by decide) ?_
      refine w_icmp_ge (tgt := 40) dX6_begin_24 (by decide) (rfl : v3_21.toInt = v3_21.toInt) li_24 (fun h14_ => ?_) (fun h14_ => ?_)
      · exact w_vret rfl dX6_begin_40 ⟨hI_21, hF_21, trivial, ⟨M1_, hM2_, z5_, h6_, z7_, h8_, M9_, hM10_, v3_21, hv0_21, hv1_21, M_21, hL_21, hI_21, hF_21, h14_, rfl⟩⟩
      · refine w_aload_n dX6_begin_27 rfl 1 rfl ?_
        refine w_getR (c' := (34, 0, w)) fl_RX6_16 rfl rfl (ic_6 hw) dX6_begin_28 rfl ?_
        refine w_iload_n dX6_begin_31 rfl 0 rfl ?_
        refine w_iconst (v := 0) dX6_begin_32 (by decide) ?_
        refine w_iast CC_nd rfl rfl (ic_34 hw) (rfl : v3_21.toInt = v3_21.toInt) (lf_c_X6_begin_1 v3_21 hv0_21 hv1_21 h14_) dX6_begin_33 (fun j17_ h18_ M15_ hM16_ => ?_)
        have hI19_ := hI_21.put hM16_ trivial
        have hF20_ := hF_21.put hM16_ (Or.inr (Or.inr (Or.inl ⟨rfl, rfl, rfl⟩)))
        refine w_iincB (j := 0) (f := fun z21_ => [(3, vI z21_), (0, vR (6, 0, w)), (1, vI v), (2, vI u)]) dX6_begin_34 rfl (by decide) (fun _ => rfl) (rfl : v3_21.toInt = v3_21.toInt) li_1 (lf_c_X6_begin_2 M15_ M1_ M9_ M_21 Mz w v u z5_ z7_ v3_21 j17_ hw hM2_ h6_ h8_ hM10_ hv0_21 hv1_21 h14_ h18_ hM16_) (fun z21_ h22_ => ?_)
        refine w_goto (tgt := 21) dX6_begin_37 (by decide) ?_
        refine w_loc (ls' := [(3, vI z21_), (0, vR (6, 0, w)), (1, vI v), (2, vI u)]) [0, 1, 2, 3] rfl ?_
        exact ih_21 M15_ hI19_ hF20_ z21_ (lf_c_X6_begin_3 M15_ M1_ M9_ M_21 Mz w v u z5_ z7_ v3_21 j17_ z21_ hw hM2_ h6_ h8_ hM10_ hv0_21 hv1_21 h14_ h18_ hM16_ h22_) (lf_c_X6_begin_4 M15_ M1_ M9_ M_21 Mz w v u z5_ z7_ v3_21 j17_ z21_ hw hM2_ h6_ h8_ hM10_ hv0_21 hv1_21 h14_ h18_ hM16_ h22_) (RCH.tail hL_21 ⟨hv0_21, hv1_21, hI_21, hF_21, h14_, j17_, h18_, M15_, hM16_, z21_, h22_, rfl, rfl⟩) (Nat.lt_of_lt_of_le (lf_c_X6_begin_5 M15_ M1_ M9_ M_21 Mz w v u z5_ z7_ v3_21 j17_ z21_ hw hM2_ h6_ h8_ hM10_ hv0_21 hv1_21 h14_ h18_ hM16_ h22_) (Nat.le_of_lt_succ hm_21))
  exact lp13_ _ M9_ hI11_ hF12_ 0 (lf_c_X6_begin_6 ) (lf_c_X6_begin_7 ) RCH.refl (Nat.lt_succ_self _)
def SP_X6_has (w : Nat) (v : Int32) (Mz : mM) (r_ : Int32) : Prop := (((v.toInt < 0) ∧ r_ = 0) ∨ ((0 ≤ v.toInt) ∧ ∃ z2_ : Int32, (z2_ = Mz.1 (6, 0, w) 1) ∧ (0 ≤ z2_.toInt ∧ z2_.toInt ≤ 24) ∧ (((z2_.toInt ≤ v.toInt) ∧ r_ = 0) ∨ ((v.toInt < z2_.toInt) ∧ (v.toInt < 24) ∧ r_ = 1))))
theorem lf_c_X6_has_0 (Mz : mM) (w : Nat) (v : Int32) (z2_ : Int32) (hw : w < 4) (h1_ : 0 ≤ v.toInt) (e3_ : z2_ = Mz.1 (6, 0, w) 1) (h4_ : 0 ≤ z2_.toInt ∧ z2_.toInt ≤ 24) (h5_ : v.toInt < z2_.toInt) (h9 : 24 ≤ v.toInt) : False := by have r_v := rngI v; have r_z2_ := rngI z2_; subst e3_; omega
theorem lf_c_X6_has_1 (Mz : mM) (w : Nat) (v : Int32) (z2_ : Int32) (hw : w < 4) (h1_ : 0 ≤ v.toInt) (e3_ : z2_ = Mz.1 (6, 0, w) 1) (h4_ : 0 ≤ z2_.toInt ∧ z2_.toInt ≤ 24) (h5_ : v.toInt < z2_.toInt) (h6_ : v.toInt < 24) : 0 ≤ v.toInt ∧ v.toInt ≤ 23 := by have r_v := rngI v; have r_z2_ := rngI z2_; subst e3_; omega
set_option maxHeartbeats 4000000 in
set_option maxRecDepth 100000 in
theorem c_X6_has (l : Launch) (G : va_G) (cy : Nat → ClassId) (ad : rf → Nat) (d : Nat) (w : Nat) (v : Int32) (Mz : mM) (hIz : Inv Mz) (hw : w < 4) : WP CC l G cy ad yX6_has cX6_has 2 (some .boolean) d 0 [(0, vR (6, 0, w)), (1, vI v)] [] Mz (fun r M' => Mz = M' ∧ (((r = 1 ∧ 0 ≤ v.toInt ∧ v.toInt ≤ 23) ∨ r = 0)) ∧ SP_X6_has w v Mz r) := by
  refine w_iload_n dX6_has_0 rfl 1 rfl ?_
  refine w_if_lt (tgt := 22) dX6_has_1 (by decide) (rfl : v.toInt = v.toInt) (fun h1_ => ?_) (fun h1_ => ?_)
  · refine w_iconst (v := 0) dX6_has_22 (by decide) ?_
    exact w_zret rfl dX6_has_23 ⟨by decide, by decide⟩ ⟨rfl, (Or.inr rfl), (Or.inl ⟨h1_, rfl⟩)⟩
  · refine w_iload_n dX6_has_4 rfl 1 rfl ?_
    refine w_aload_n dX6_has_5 rfl 0 rfl ?_
    refine w_getI fl_RX6_13 rfl rfl (ic_6 hw) dX6_has_6 (fun z2_ e3_ => ?_)
    have h4_ : 0 ≤ z2_.toInt ∧ z2_.toInt ≤ 24 := ofEq (P := fun v => 0 ≤ v.toInt ∧ v.toInt ≤ 24) e3_ (hIz (6, 0, w) 1 rfl)
    refine w_icmp_ge (tgt := 22) dX6_has_9 (by decide) (rfl : v.toInt = v.toInt) (rfl : z2_.toInt = z2_.toInt) (fun h5_ => ?_) (fun h5_ => ?_)
    · refine w_iconst (v := 0) dX6_has_22 (by decide) ?_
      exact w_zret rfl dX6_has_23 ⟨by decide, by decide⟩ ⟨rfl, (Or.inr rfl), (Or.inr ⟨h1_, z2_, e3_, h4_, (Or.inl ⟨h5_, rfl⟩)⟩)⟩
    · refine w_iload_n dX6_has_12 rfl 1 rfl ?_
      refine w_bipush (v := 24) dX6_has_13 (by decide) ?_
      refine w_icmp_ge (tgt := 22) dX6_has_15 (by decide) (rfl : v.toInt = v.toInt) li_24 (fun h9 => (lf_c_X6_has_0 Mz w v z2_ hw h1_ e3_ h4_ h5_ h9).elim) (fun h6_ => ?_)
      refine w_iconst (v := 1) dX6_has_18 (by decide) ?_
      refine w_goto (tgt := 23) dX6_has_19 (by decide) ?_
      exact w_zret rfl dX6_has_23 ⟨by decide, by decide⟩ ⟨rfl, (Or.inl ⟨rfl, (lf_c_X6_has_1 Mz w v z2_ hw h1_ e3_ h4_ h5_ h6_)⟩), (Or.inr ⟨h1_, z2_, e3_, h4_, (Or.inr ⟨h5_, h6_, rfl⟩)⟩)⟩
def SP_X6_numberAt (w : Nat) (v : Int32) (Mz : mM) (r_ : Int32) : Prop := (((SP_X6_has w v Mz (1 : Int32)) ∧ (0 ≤ v.toInt ∧ v.toInt ≤ 23) ∧ ∃ j9_ : Nat, ((j9_ : Int) = v.toInt) ∧ ∃ z7_ : Int32, (z7_ = Mz.1 (34, 0, w) j9_) ∧ r_ = z7_) ∨ ((SP_X6_has w v Mz (0 : Int32)) ∧ r_ = 0))
theorem lf_c_X6_numberAt_0  (v : Int32) (h4_ : 0 ≤ v.toInt ∧ v.toInt ≤ 23) : 0 ≤ v.toInt ∧ v.toInt < ((24 : Nat) : Int) := by have r_v := rngI v; omega
set_option maxHeartbeats 4000000 in
set_option maxRecDepth 100000 in
theorem c_X6_numberAt (l : Launch) (G : va_G) (cy : Nat → ClassId) (ad : rf → Nat) (d : Nat) (w : Nat) (v : Int32) (Mz : mM) (hIz : Inv Mz) (hw : w < 4) : WP CC l G cy ad yX6_numberAt cX6_numberAt 2 (some .int) (d + 1) 0 [(0, vR (6, 0, w)), (1, vI v)] [] Mz (fun r M' => Mz = M' ∧ (True) ∧ SP_X6_numberAt w v Mz r) := by
  refine w_aload_n dX6_numberAt_0 rfl 0 rfl ?_
  refine w_iload_n dX6_numberAt_1 rfl 1 rfl ?_
  refine w_callV (as := [vI v]) (rest := []) (c_X6_has l G cy ad d w v Mz hIz hw) kV_X6_has (by decide +kernel) (Nat.le_of_ble_eq_true rfl) m_577 rfl rfl rfl (ic_6 hw) rfl rfl (by decide) (Nat.le_of_ble_eq_true rfl) dX6_numberAt_2 (fun r1_ M2_ q3_ => ?_)
  obtain ⟨rfl, h4_, hs5_⟩ := q3_
  rcases h4_ with ⟨rfl, h4_⟩ | rfl
  · refine w_if_eq (tgt := 17) dX6_numberAt_5 (by decide) li_1 (fun h9 => (absurd h9 (by decide))) (fun h6_ => ?_)
    refine w_aload_n dX6_numberAt_8 rfl 0 rfl ?_
    refine w_getR (c' := (34, 0, w)) fl_RX6_16 rfl rfl (ic_6 hw) dX6_numberAt_9 rfl ?_
    refine w_iload_n dX6_numberAt_12 rfl 1 rfl ?_
    refine w_iald rfl rfl (ic_34 hw) (rfl : v.toInt = v.toInt) (lf_c_X6_numberAt_0 v h4_) dX6_numberAt_13 (fun j9_ h10_ z7_ e8_ => ?_)
    refine w_goto (tgt := 18) dX6_numberAt_14 (by decide) ?_
    exact w_iret rfl dX6_numberAt_18 ⟨rfl, trivial, (Or.inl ⟨hs5_, h4_, j9_, h10_, z7_, e8_, rfl⟩)⟩
  · refine w_if_eq (tgt := 17) dX6_numberAt_5 (by decide) li_0 (fun h11_ => ?_) (fun h9 => (absurd h9 (by decide)))
    refine w_iconst (v := 0) dX6_numberAt_17 (by decide) ?_
    exact w_iret rfl dX6_numberAt_18 ⟨rfl, trivial, (Or.inr ⟨hs5_, rfl⟩)⟩
def S_c_X6_store (w : Nat) : rf → Nat → Prop := fun c k => (c.1 = 34 ∧ c.2.1 = 0 ∧ c.2.2 = w) ∨ False
def SP_X6_store (w : Nat) (v : Int32) (u : Int32) (Mz : mM) (M_ : mM) : Prop := (((SP_X6_has w v Mz (1 : Int32)) ∧ (0 ≤ v.toInt ∧ v.toInt ≤ 23) ∧ ∃ z7_ : Int32, (z7_ = Mz.1 (6, 0, w) 0) ∧ (((¬ z7_.toInt = 8) ∧ (((¬ z7_.toInt = 16) ∧ ∃ j15_ : Nat, ((j15_ : Int) = v.toInt) ∧ ∃ M13_ : mM, (M13_ = up Mz (34, 0, w) j15_ u) ∧ M_ = M13_) ∨ ((z7_.toInt = 16) ∧ ∃ z19_ : Int32, (z19_ = u.toInt16.toInt32) ∧ ∃ j23_ : Nat, ((j23_ : Int) = v.toInt) ∧ ∃ M21_ : mM, (M21_ = up Mz (34, 0, w) j23_ z19_) ∧ M_ = M21_))) ∨ ((z7_.toInt = 8) ∧ ∃ z27_ : Int32, (z27_ = u.toInt8.toInt32) ∧ ∃ j31_ : Nat, ((j31_ : Int) = v.toInt) ∧ ∃ M29_ : mM, (M29_ = up Mz (34, 0, w) j31_ z27_) ∧ M_ = M29_))) ∨ ((SP_X6_has w v Mz (0 : Int32)) ∧ M_ = Mz))
theorem lf_c_X6_store_0  (v : Int32) (h4_ : 0 ≤ v.toInt ∧ v.toInt ≤ 23) : 0 ≤ v.toInt ∧ v.toInt < ((24 : Nat) : Int) := by have r_v := rngI v; omega
theorem lf_c_X6_store_1  (v : Int32) (h4_ : 0 ≤ v.toInt ∧ v.toInt ≤ 23) : 0 ≤ v.toInt ∧ v.toInt < ((24 : Nat) : Int) := by have r_v := rngI v; omega
theorem lf_c_X6_store_2  (v : Int32) (h4_ : 0 ≤ v.toInt ∧ v.toInt ≤ 23) : 0 ≤ v.toInt ∧ v.toInt < ((24 : Nat) : Int) := by have r_v := rngI v; omega
set_option maxHeartbeats 4000000 in
set_option maxRecDepth 100000 in
theorem c_X6_store (l : Launch) (G : va_G) (cy : Nat → ClassId) (ad : rf → Nat) (d : Nat) (w : Nat) (v : Int32) (u : Int32) (Mz : mM) (hIz : Inv Mz) (hw : w < 4) : WP CC l G cy ad yX6_store cX6_store 3 none (d + 1) 0 [(0, vR (6, 0, w)), (1, vI v), (2, vI u)] [] Mz (fun r M' => Inv M' ∧ FR (S_c_X6_store w) Mz M' ∧ (True) ∧ SP_X6_store w v u Mz M') := by
  have hFz : FR (S_c_X6_store w) Mz Mz := FR.self
  refine w_aload_n dX6_store_0 rfl 0 rfl ?_
  refine w_iload_n dX6_store_1 rfl 1 rfl ?_
  refine w_callV (as := [vI v]) (rest := []) (c_X6_has l G cy ad d w v Mz hIz hw) kV_X6_has (by decide +kernel) (Nat.le_of_ble_eq_true rfl) m_577 rfl rfl rfl (ic_6 hw) rfl rfl (by decide) (Nat.le_of_ble_eq_true rfl) dX6_store_2 (fun r1_ M2_ q3_ => ?_)
  obtain ⟨rfl, h4_, hs5_⟩ := q3_
  rcases h4_ with ⟨rfl, h4_⟩ | rfl
  · refine w_if_eq (tgt := 43) dX6_store_5 (by decide) li_1 (fun h9 => (absurd h9 (by decide))) (fun h6_ => ?_)
    refine w_aload_n dX6_store_8 rfl 0 rfl ?_
    refine w_getR (c' := (34, 0, w)) fl_RX6_16 rfl rfl (ic_6 hw) dX6_store_9 rfl ?_
    refine w_iload_n dX6_store_12 rfl 1 rfl ?_
    refine w_aload_n dX6_store_13 rfl 0 rfl ?_
    refine w_getI fl_RX6_7 rfl rfl (ic_6 hw) dX6_store_14 (fun z7_ e8_ => ?_)
    refine w_bipush (v := 8) dX6_store_17 (by decide) ?_
    refine w_icmp_ne (tgt := 27) dX6_store_19 (by decide) (rfl : z7_.toInt = z7_.toInt) li_8 (fun h9_ => ?_) (fun h9_ => ?_)
    · refine w_aload_n dX6_store_27 rfl 0 rfl ?_
      refine w_getI fl_RX6_7 rfl rfl (ic_6 hw) dX6_store_28 (fun z10_ e11_ => ?_)
      obtain rfl : z7_ = z10_ := e8_.trans e11_.symm
      refine w_bipush (v := 16) dX6_store_31 (by decide) ?_
      refine w_icmp_ne (tgt := 41) dX6_store_33 (by decide) (rfl : z7_.toInt = z7_.toInt) li_16 (fun h12_ => ?_) (fun h12_ => ?_)
      · refine w_iload_n dX6_store_41 rfl 2 rfl ?_
        refine w_iast CC_nd rfl rfl (ic_34 hw) (rfl : v.toInt = v.toInt) (lf_c_X6_store_0 v h4_) dX6_store_42 (fun j15_ h16_ M13_ hM14_ => ?_)
        have hI17_ := hIz.put hM14_ trivial
        have hF18_ := hFz.put hM14_ (Or.inl ⟨rfl, rfl, rfl⟩)
        exact w_vret rfl dX6_store_43 ⟨hI17_, hF18_, trivial, (Or.inl ⟨hs5_, h4_, z7_, e8_, (Or.inl ⟨h9_, (Or.inl ⟨h12_, j15_, h16_, M13_, hM14_, rfl⟩)⟩)⟩)⟩
      · refine w_iload_n dX6_store_36 rfl 2 rfl ?_
        refine w_i2s dX6_store_37 (fun z19_ h20_ => ?_)
        refine w_goto (tgt := 42) dX6_store_38 (by decide) ?_
        refine w_iast CC_nd rfl rfl (ic_34 hw) (rfl : v.toInt = v.toInt) (lf_c_X6_store_1 v h4_) dX6_store_42 (fun j23_ h24_ M21_ hM22_ => ?_)
        have hI25_ := hIz.put hM22_ trivial
        have hF26_ := hFz.put hM22_ (Or.inl ⟨rfl, rfl, rfl⟩)
        exact w_vret rfl dX6_store_43 ⟨hI25_, hF26_, trivial, (Or.inl ⟨hs5_, h4_, z7_, e8_, (Or.inl ⟨h9_, (Or.inr ⟨h12_, z19_, h20_, j23_, h24_, M21_, hM22_, rfl⟩)⟩)⟩)⟩
    · refine w_iload_n dX6_store_22 rfl 2 rfl ?_
      refine w_i2b dX6_store_23 (fun z27_ h28_ => ?_)
      refine w_goto (tgt := 42) dX6_store_24 (by decide) ?_
      refine w_iast CC_nd rfl rfl (ic_34 hw) (rfl : v.toInt = v.toInt) (lf_c_X6_store_2 v h4_) dX6_store_42 (fun j31_ h32_ M29_ hM30_ => ?_)
      have hI33_ := hIz.put hM30_ trivial
      have hF34_ := hFz.put hM30_ (Or.inl ⟨rfl, rfl, rfl⟩)
      exact w_vret rfl dX6_store_43 ⟨hI33_, hF34_, trivial, (Or.inl ⟨hs5_, h4_, z7_, e8_, (Or.inr ⟨h9_, z27_, h28_, j31_, h32_, M29_, hM30_, rfl⟩)⟩)⟩
  · refine w_if_eq (tgt := 43) dX6_store_5 (by decide) li_0 (fun h35_ => ?_) (fun h9 => (absurd h9 (by decide)))
    exact w_vret rfl dX6_store_43 ⟨hIz, hFz, trivial, (Or.inr ⟨hs5_, rfl⟩)⟩
def SP_X6_hasRun (w : Nat) (v : Int32) (u : Int32) (Mz : mM) (r_ : Int32) : Prop := (((v.toInt < 0) ∧ r_ = 0) ∨ ((0 ≤ v.toInt) ∧ (((u.toInt < 0) ∧ r_ = 0) ∨ ((0 ≤ u.toInt) ∧ ∃ z3_ : Int32, (z3_ = Mz.1 (6, 0, w) 1) ∧ (0 ≤ z3_.toInt ∧ z3_.toInt ≤ 24) ∧ (((z3_.toInt < v.toInt) ∧ r_ = 0) ∨ ((v.toInt ≤ z3_.toInt) ∧ ∃ z9_ : Int32, (z9_.toInt = z3_.toInt - v.toInt) ∧ (((z9_.toInt < u.toInt) ∧ r_ = 0) ∨ ((u.toInt ≤ z9_.toInt) ∧ r_ = 1))))))))
theorem lf_c_X6_hasRun_0 (Mz : mM) (w : Nat) (v : Int32) (z3_ : Int32) (hw : w < 4) (h1_ : 0 ≤ v.toInt) (e4_ : z3_ = Mz.1 (6, 0, w) 1) (h5_ : 0 ≤ z3_.toInt ∧ z3_.toInt ≤ 24) (h6_ : v.toInt ≤ z3_.toInt) : -2147483648 ≤ z3_.toInt - v.toInt ∧ z3_.toInt - v.toInt < 2147483648 := by have r_v := rngI v; have r_z3_ := rngI z3_; subst e4_; omega
theorem lf_c_X6_hasRun_1 (Mz : mM) (w : Nat) (v : Int32) (u : Int32) (z3_ : Int32) (z9_ : Int32) (hw : w < 4) (h1_ : 0 ≤ v.toInt) (h2_ : 0 ≤ u.toInt) (e4_ : z3_ = Mz.1 (6, 0, w) 1) (h5_ : 0 ≤ z3_.toInt ∧ z3_.toInt ≤ 24) (h6_ : v.toInt ≤ z3_.toInt) (h10_ : z9_.toInt = z3_.toInt - v.toInt) (h11_ : u.toInt ≤ z9_.toInt) : 0 ≤ v.toInt ∧ 0 ≤ u.toInt ∧ v.toInt + u.toInt ≤ 24 := by have r_v := rngI v; have r_u := rngI u; have r_z3_ := rngI z3_; have r_z9_ := rngI z9_; subst e4_; omega
set_option maxHeartbeats 4000000 in
set_option maxRecDepth 100000 in
theorem c_X6_hasRun (l : Launch) (G : va_G) (cy : Nat → ClassId) (ad : rf → Nat) (d : Nat) (w : Nat) (v : Int32) (u : Int32) (Mz : mM) (hIz : Inv Mz) (hw : w < 4) : WP CC l G cy ad yX6_hasRun cX6_hasRun 3 (some .boolean) d 0 [(0, vR (6, 0, w)), (1, vI v), (2, vI u)] [] Mz (fun r M' => Mz = M' ∧ (((r = 1 ∧ 0 ≤ v.toInt ∧ 0 ≤ u.toInt ∧ v.toInt + u.toInt ≤ 24) ∨ r = 0)) ∧ SP_X6_hasRun w v u Mz r) := by
  refine w_iload_n dX6_hasRun_0 rfl 1 rfl ?_
  refine w_if_lt (tgt := 30) dX6_hasRun_1 (by decide) (rfl : v.toInt = v.toInt) (fun h1_ => ?_) (fun h1_ => ?_)
  · refine w_iconst (v := 0) dX6_hasRun_30 (by decide) ?_
    exact w_zret rfl dX6_hasRun_31 ⟨by decide, by decide⟩ ⟨rfl, (Or.inr rfl), (Or.inl ⟨h1_, rfl⟩)⟩
  · refine w_iload_n dX6_hasRun_4 rfl 2 rfl ?_
    refine w_if_lt (tgt := 30) dX6_hasRun_5 (by decide) (rfl : u.toInt = u.toInt) (fun h2_ => ?_) (fun h2_ => ?_)
    · refine w_iconst (v := 0) dX6_hasRun_30 (by decide) ?_
      exact w_zret rfl dX6_hasRun_31 ⟨by decide, by decide⟩ ⟨rfl, (Or.inr rfl), (Or.inr ⟨h1_, (Or.inl ⟨h2_, rfl⟩)⟩)⟩
    · refine w_iload_n dX6_hasRun_8 rfl 1 rfl ?_
      refine w_aload_n dX6_hasRun_9 rfl 0 rfl ?_
      refine w_getI fl_RX6_13 rfl rfl (ic_6 hw) dX6_hasRun_10 (fun z3_ e4_ => ?_)
      have h5_ : 0 ≤ z3_.toInt ∧ z3_.toInt ≤ 24 := ofEq (P := fun v => 0 ≤ v.toInt ∧ v.toInt ≤ 24) e4_ (hIz (6, 0, w) 1 rfl)
      refine w_icmp_gt (tgt := 30) dX6_hasRun_13 (by decide) (rfl : v.toInt = v.toInt) (rfl : z3_.toInt = z3_.toInt) (fun h6_ => ?_) (fun h6_ => ?_)
      · refine w_iconst (v := 0) dX6_hasRun_30 (by decide) ?_
        exact w_zret rfl dX6_hasRun_31 ⟨by decide, by decide⟩ ⟨rfl, (Or.inr rfl), (Or.inr ⟨h1_, (Or.inr ⟨h2_, z3_, e4_, h5_, (Or.inl ⟨h6_, rfl⟩)⟩)⟩)⟩
      · refine w_iload_n dX6_hasRun_16 rfl 2 rfl ?_
        refine w_aload_n dX6_hasRun_17 rfl 0 rfl ?_
        refine w_getI fl_RX6_13 rfl rfl (ic_6 hw) dX6_hasRun_18 (fun z7_ e8_ => ?_)
        obtain rfl : z3_ = z7_ := e4_.trans e8_.symm
        refine w_iload_n dX6_hasRun_21 rfl 1 rfl ?_
        refine w_isubB dX6_hasRun_22 (rfl : z3_.toInt = z3_.toInt) (rfl : v.toInt = v.toInt) (lf_c_X6_hasRun_0 Mz w v z3_ hw h1_ e4_ h5_ h6_) (fun z9_ h10_ => ?_)
        refine w_icmp_gt (tgt := 30) dX6_hasRun_23 (by decide) (rfl : u.toInt = u.toInt) (rfl : z9_.toInt = z9_.toInt) (fun h11_ => ?_) (fun h11_ => ?_)
        · refine w_iconst (v := 0) dX6_hasRun_30 (by decide) ?_
          exact w_zret rfl dX6_hasRun_31 ⟨by decide, by decide⟩ ⟨rfl, (Or.inr rfl), (Or.inr ⟨h1_, (Or.inr ⟨h2_, z3_, e4_, h5_, (Or.inr ⟨h6_, z9_, h10_, (Or.inl ⟨h11_, rfl⟩)⟩)⟩)⟩)⟩
        · refine w_iconst (v := 1) dX6_hasRun_26 (by decide) ?_
          refine w_goto (tgt := 31) dX6_hasRun_27 (by decide) ?_
          exact w_zret rfl dX6_hasRun_31 ⟨by decide, by decide⟩ ⟨rfl, (Or.inl ⟨rfl, (lf_c_X6_hasRun_1 Mz w v u z3_ z9_ hw h1_ h2_ e4_ h5_ h6_ h10_ h11_)⟩), (Or.inr ⟨h1_, (Or.inr ⟨h2_, z3_, e4_, h5_, (Or.inr ⟨h6_, z9_, h10_, (Or.inr ⟨h11_, rfl⟩)⟩)⟩)⟩)⟩
def ST_X6_holdsFewCells_21 (w : Nat) (Mz : mM) (z1_ : Int32) (v1_21 : Int32) (v1_21y : Int32) : Prop := (0 ≤ v1_21.toInt) ∧ (v1_21.toInt < z1_.toInt) ∧ ∃ r12_ : Int32, (SP_X6_numberAt w v1_21 Mz r12_) ∧ (SP_X7_isCell r12_ Mz (1 : Int32)) ∧ (0 ≤ r12_.toInt ∧ r12_.toInt ≤ 191) ∧ ∃ z23_ : Int32, (z23_.toInt = v1_21.toInt + 1) ∧ v1_21y = z23_
def SP_X6_holdsFewCells (w : Nat) (Mz : mM) (r_ : Int32) : Prop := ∃ z1_ : Int32, (z1_ = Mz.1 (6, 0, w) 1) ∧ (0 ≤ z1_.toInt ∧ z1_.toInt ≤ 24) ∧ (((z1_.toInt < 1) ∧ r_ = 0) ∨ ((1 ≤ z1_.toInt) ∧ (((z1_.toInt ≤ 8) ∧ ∃ v1_21 : Int32, (0 ≤ v1_21.toInt) ∧ (RCH (fun x_ y_ => ST_X6_holdsFewCells_21 w Mz z1_ x_ y_) (0 : Int32) v1_21) ∧ (((z1_.toInt ≤ v1_21.toInt) ∧ r_ = 1) ∨ ((v1_21.toInt < z1_.toInt) ∧ ∃ r12_ : Int32, (SP_X6_numberAt w v1_21 Mz r12_) ∧ (SP_X7_isCell r12_ Mz (0 : Int32)) ∧ (¬ (0 ≤ r12_.toInt ∧ r12_.toInt ≤ 191)) ∧ r_ = 0))) ∨ ((8 < z1_.toInt) ∧ r_ = 0))))
theorem lf_c_X6_holdsFewCells_0 (Mz : mM) (w : Nat) (z1_ : Int32) (v1_21 : Int32) (hw : w < 4) (e2_ : z1_ = Mz.1 (6, 0, w) 1) (h3_ : 0 ≤ z1_.toInt ∧ z1_.toInt ≤ 24) (h4_ : 1 ≤ z1_.toInt) (h7_ : z1_.toInt ≤ 8) (hv0_21 : 0 ≤ v1_21.toInt) (h11_ : v1_21.toInt < z1_.toInt) : -2147483648 ≤ v1_21.toInt + 1 ∧ v1_21.toInt + 1 < 2147483648 := by have r_z1_ := rngI z1_; have r_v1_21 := rngI v1_21; subst e2_; omega
theorem lf_c_X6_holdsFewCells_1 (Mz : mM) (w : Nat) (z1_ : Int32) (v1_21 : Int32) (z23_ : Int32) (hw : w < 4) (e2_ : z1_ = Mz.1 (6, 0, w) 1) (h3_ : 0 ≤ z1_.toInt ∧ z1_.toInt ≤ 24) (h4_ : 1 ≤ z1_.toInt) (h7_ : z1_.toInt ≤ 8) (hv0_21 : 0 ≤ v1_21.toInt) (h11_ : v1_21.toInt < z1_.toInt) (h24_ : z23_.toInt = v1_21.toInt + 1) : 0 ≤ z23_.toInt := by have r_z1_ := rngI z1_; have r_v1_21 := rngI v1_21; have r_z23_ := rngI z23_; omega
theorem lf_c_X6_holdsFewCells_2 (Mz : mM) (w : Nat) (z1_ : Int32) (v1_21 : Int32) (z23_ : Int32) (hw : w < 4) (e2_ : z1_ = Mz.1 (6, 0, w) 1) (h3_ : 0 ≤ z1_.toInt ∧ z1_.toInt ≤ 24) (h4_ : 1 ≤ z1_.toInt) (h7_ : z1_.toInt ≤ 8) (hv0_21 : 0 ≤ v1_21.toInt) (h11_ : v1_21.toInt < z1_.toInt) (h24_ : z23_.toInt = v1_21.toInt + 1) : (2147483648 - z23_.toInt).toNat < (2147483648 - v1_21.toInt).toNat := by have r_z1_ := rngI z1_; have r_v1_21 := rngI v1_21; have r_z23_ := rngI z23_; omega
theorem lf_c_X6_holdsFewCells_3    : 0 ≤ (0 : Int32).toInt := by have q0 := li_0; omega
set_option maxHeartbeats 4000000 in
set_option maxRecDepth 100000 in
theorem c_X6_holdsFewCells (l : Launch) (G : va_G) (cy : Nat → ClassId) (ad : rf → Nat) (d : Nat) (w : Nat) (Mz : mM) (hIz : Inv Mz) (hw : w < 4) : WP CC l G cy ad yX6_holdsFewCells cX6_holdsFewCells 2 (some .boolean) (d + 2) 0 [(0, vR (6, 0, w))] [] Mz (fun r M' => Mz = M' ∧ ((0 ≤ r.toInt ∧ r.toInt ≤ 1)) ∧ SP_X6_holdsFewCells w Mz r) := by
  refine w_aload_n dX6_holdsFewCells_0 rfl 0 rfl ?_
  refine w_getI fl_RX6_13 rfl rfl (ic_6 hw) dX6_holdsFewCells_1 (fun z1_ e2_ => ?_)
  have h3_ : 0 ≤ z1_.toInt ∧ z1_.toInt ≤ 24 := ofEq (P := fun v => 0 ≤ v.toInt ∧ v.toInt ≤ 24) e2_ (hIz (6, 0, w) 1 rfl)
  refine w_iconst (v := 1) dX6_holdsFewCells_4 (by decide) ?_
  refine w_icmp_lt (tgt := 17) dX6_holdsFewCells_5 (by decide) (rfl : z1_.toInt = z1_.toInt) li_1 (fun h4_ => ?_) (fun h4_ => ?_)
  · refine w_iconst (v := 0) dX6_holdsFewCells_17 (by decide) ?_
    exact w_zret rfl dX6_holdsFewCells_18 ⟨by decide, by decide⟩ ⟨rfl, ⟨by decide, by decide⟩, ⟨z1_, e2_, h3_, (Or.inl ⟨h4_, rfl⟩)⟩⟩
  · refine w_aload_n dX6_holdsFewCells_8 rfl 0 rfl ?_
    refine w_getI fl_RX6_13 rfl rfl (ic_6 hw) dX6_holdsFewCells_9 (fun z5_ e6_ => ?_)
    obtain rfl : z1_ = z5_ := e2_.trans e6_.symm
    refine w_bipush (v := 8) dX6_holdsFewCells_12 (by decide) ?_
    refine w_icmp_le (tgt := 19) dX6_holdsFewCells_14 (by decide) (rfl : z1_.toInt = z1_.toInt) li_8 (fun h7_ => ?_) (fun h7_ => ?_)
    · refine w_iconst (v := 0) dX6_holdsFewCells_19 (by decide) ?_
      refine w_istore_n (ls' := [(1, vI 0), (0, vR (6, 0, w))]) dX6_holdsFewCells_20 rfl (by decide) rfl ?_
      have lp8_ : ∀ (nn_21 : Nat) (v1_21 : Int32) (hv0_21 : 0 ≤ v1_21.toInt) (hL_21 : RCH (fun x_ y_ => ST_X6_holdsFewCells_21 w Mz z1_ x_ y_) (0 : Int32) v1_21), (2147483648 - v1_21.toInt).toNat < nn_21 → WP CC l G cy ad yX6_holdsFewCells cX6_holdsFewCells 2 (some .boolean) (d + 2) 21 [(1, vI v1_21), (0, vR (6, 0, w))] [] Mz (fun r M' => Mz = M' ∧ ((0 ≤ r.toInt ∧ r.toInt ≤ 1)) ∧ SP_X6_holdsFewCells w Mz r) := by
        intro nn_21
        induction nn_21 with
        | zero => intro v1_21 hv0_21 hL_21 hm_21; exact absurd hm_21 (Nat.not_lt_zero _)
        | succ nn_21 ih_21 =>
          intro v1_21 hv0_21 hL_21 hm_21
          refine w_iload_n dX6_holdsFewCells_21 rfl 0 rfl ?_
          refine w_aload_n dX6_holdsFewCells_22 rfl 1 rfl ?_
          refine w_getI fl_RX6_13 rfl rfl (ic_6 hw) dX6_holdsFewCells_23 (fun z9_ e10_ => ?_)
          obtain rfl : z1_ = z9_ := e2_.trans e10_.symm
          refine w_icmp_ge (tgt := 48) dX6_holdsFewCells_26 (by decide) (rfl : v1_21.toInt = v1_21.toInt) (rfl : z1_.toInt = z1_.toInt) (fun h11_ => ?_) (fun h11_ => ?_)
          · refine w_iconst (v := 1) dX6_holdsFewCells_48 (by decide) ?_
            exact w_zret rfl dX6_holdsFewCells_49 ⟨by decide, by decide⟩ ⟨rfl, ⟨by decide, by decide⟩, ⟨z1_, e2_, h3_, (Or.inr ⟨h4_, (Or.inl ⟨h7_, v1_21, hv0_21, hL_21, (Or.inl ⟨h11_, rfl⟩)⟩)⟩)⟩⟩
          · refine w_aload_n dX6_holdsFewCells_29 rfl 1 rfl ?_
            refine w_iload_n dX6_holdsFewCells_30 rfl 0 rfl ?_
            refine w_callV (as := [vI v1_21]) (rest := []) (c_X6_numberAt l G cy ad d w v1_21 Mz hIz hw) kV_X6_numberAt (by decide +kernel) (Nat.le_of_ble_eq_true rfl) m_982 rfl rfl rfl (ic_6 hw) rfl rfl (by decide) (Nat.le_of_ble_eq_true rfl) dX6_holdsFewCells_31 (fun r12_ M13_ q14_ => ?_)
            obtain ⟨rfl, h15_, hs16_⟩ := q14_
            refine w_callS (as := [vI r12_]) (rest := []) (c_X7_isCell l G cy ad (d + 1) r12_ Mz hIz) kS_X7_isCell (by decide +kernel) (Nat.le_of_ble_eq_true rfl) m_983 rfl rfl (by decide) (Nat.le_of_ble_eq_true rfl) dX6_holdsFewCells_34 (fun r17_ M18_ q19_ => ?_)
            obtain ⟨rfl, h20_, hs21_⟩ := q19_
            rcases h20_ with ⟨rfl, h20_⟩ | ⟨rfl, h20_⟩
            · refine w_if_ne (tgt := 42) dX6_holdsFewCells_37 (by decide) li_1 (fun h22_ => ?_) (fun h9 => (absurd h9 (by decide)))
              refine w_iincB (j := 0) (f := fun z23_ => [(1, vI z23_), (0, vR (6, 0, w))]) dX6_holdsFewCells_42 rfl (by decide) (fun _ => rfl) (rfl : v1_21.toInt = v1_21.toInt) li_1 (lf_c_X6_holdsFewCells_0 Mz w z1_ v1_21 hw e2_ h3_ h4_ h7_ hv0_21 h11_) (fun z23_ h24_ => ?_)
              refine w_goto (tgt := 21) dX6_holdsFewCells_45 (by decide) ?_
              refine w_loc (ls' := [(1, vI z23_), (0, vR (6, 0, w))]) [0, 1] rfl ?_
              exact ih_21 z23_ (lf_c_X6_holdsFewCells_1 Mz w z1_ v1_21 z23_ hw e2_ h3_ h4_ h7_ hv0_21 h11_ h24_) (RCH.tail hL_21 ⟨hv0_21, h11_, r12_, hs16_, hs21_, h20_, z23_, h24_, rfl⟩) (Nat.lt_of_lt_of_le (lf_c_X6_holdsFewCells_2 Mz w z1_ v1_21 z23_ hw e2_ h3_ h4_ h7_ hv0_21 h11_ h24_) (Nat.le_of_lt_succ hm_21))
            · refine w_if_ne (tgt := 42) dX6_holdsFewCells_37 (by decide) li_0 (fun h9 => (absurd h9 (by decide))) (fun h25_ => ?_)
              refine w_iconst (v := 0) dX6_holdsFewCells_40 (by decide) ?_
              exact w_zret rfl dX6_holdsFewCells_41 ⟨by decide, by decide⟩ ⟨rfl, ⟨by decide, by decide⟩, ⟨z1_, e2_, h3_, (Or.inr ⟨h4_, (Or.inl ⟨h7_, v1_21, hv0_21, hL_21, (Or.inr ⟨h11_, r12_, hs16_, hs21_, h20_, rfl⟩)⟩)⟩)⟩⟩
      exact lp8_ _ 0 (lf_c_X6_holdsFewCells_3 ) RCH.refl (Nat.lt_succ_self _)
    · refine w_iconst (v := 0) dX6_holdsFewCells_17 (by decide) ?_
      exact w_zret rfl dX6_holdsFewCells_18 ⟨by decide, by decide⟩ ⟨rfl, ⟨by decide, by decide⟩, ⟨z1_, e2_, h3_, (Or.inr ⟨h4_, (Or.inr ⟨h7_, rfl⟩)⟩)⟩⟩
def ST_X6_hasTwoAlike_12 (w : Nat) (Mz : mM) (v1_2 : Int32) (v2_12 : Int32) (v2_12y : Int32) : Prop := (0 ≤ v2_12.toInt) ∧ (v2_12.toInt < v1_2.toInt) ∧ ∃ r10_ : Int32, (SP_X6_numberAt w v1_2 Mz r10_) ∧ ∃ r15_ : Int32, (SP_X6_numberAt w v2_12 Mz r15_) ∧ (¬ r10_.toInt = r15_.toInt) ∧ ∃ z21_ : Int32, (z21_.toInt = v2_12.toInt + 1) ∧ v2_12y = z21_
def ST_X6_hasTwoAlike_2 (w : Nat) (Mz : mM) (v1_2 : Int32) (v1_2y : Int32) : Prop := (1 ≤ v1_2.toInt) ∧ ∃ z2_ : Int32, (z2_ = Mz.1 (6, 0, w) 1) ∧ (0 ≤ z2_.toInt ∧ z2_.toInt ≤ 24) ∧ (v1_2.toInt < z2_.toInt) ∧ ∃ v2_12 : Int32, (0 ≤ v2_12.toInt) ∧ (RCH (fun x_ y_ => ST_X6_hasTwoAlike_12 w Mz v1_2 x_ y_) (0 : Int32) v2_12) ∧ (v1_2.toInt ≤ v2_12.toInt) ∧ ∃ z8_ : Int32, (z8_.toInt = v1_2.toInt + 1) ∧ v1_2y = z8_
def SP_X6_hasTwoAlike (w : Nat) (Mz : mM) (r_ : Int32) : Prop := ∃ v1_2 : Int32, (1 ≤ v1_2.toInt) ∧ (RCH (fun x_ y_ => ST_X6_hasTwoAlike_2 w Mz x_ y_) (1 : Int32) v1_2) ∧ ∃ z2_ : Int32, (z2_ = Mz.1 (6, 0, w) 1) ∧ (0 ≤ z2_.toInt ∧ z2_.toInt ≤ 24) ∧ (((z2_.toInt ≤ v1_2.toInt) ∧ r_ = 0) ∨ ((v1_2.toInt < z2_.toInt) ∧ ∃ v2_12 : Int32, (0 ≤ v2_12.toInt) ∧ (RCH (fun x_ y_ => ST_X6_hasTwoAlike_12 w Mz v1_2 x_ y_) (0 : Int32) v2_12) ∧ (v2_12.toInt < v1_2.toInt) ∧ ∃ r10_ : Int32, (SP_X6_numberAt w v1_2 Mz r10_) ∧ ∃ r15_ : Int32, (SP_X6_numberAt w v2_12 Mz r15_) ∧ (r10_.toInt = r15_.toInt) ∧ r_ = 1))
theorem lf_c_X6_hasTwoAlike_0 (Mz : mM) (w : Nat) (v1_2 : Int32) (z2_ : Int32) (v2_12 : Int32) (hw : w < 4) (hv0_2 : 1 ≤ v1_2.toInt) (e3_ : z2_ = Mz.1 (6, 0, w) 1) (h4_ : 0 ≤ z2_.toInt ∧ z2_.toInt ≤ 24) (h5_ : v1_2.toInt < z2_.toInt) (hv0_12 : 0 ≤ v2_12.toInt) (h7_ : v1_2.toInt ≤ v2_12.toInt) : -2147483648 ≤ v1_2.toInt + 1 ∧ v1_2.toInt + 1 < 2147483648 := by have r_v1_2 := rngI v1_2; have r_z2_ := rngI z2_; have r_v2_12 := rngI v2_12; subst e3_; omega
theorem lf_c_X6_hasTwoAlike_1 (Mz : mM) (w : Nat) (v1_2 : Int32) (z2_ : Int32) (v2_12 : Int32) (z8_ : Int32) (hw : w < 4) (hv0_2 : 1 ≤ v1_2.toInt) (e3_ : z2_ = Mz.1 (6, 0, w) 1) (h4_ : 0 ≤ z2_.toInt ∧ z2_.toInt ≤ 24) (h5_ : v1_2.toInt < z2_.toInt) (hv0_12 : 0 ≤ v2_12.toInt) (h7_ : v1_2.toInt ≤ v2_12.toInt) (h9_ : z8_.toInt = v1_2.toInt + 1) : 1 ≤ z8_.toInt := by have r_v1_2 := rngI v1_2; have r_z2_ := rngI z2_; have r_v2_12 := rngI v2_12; have r_z8_ := rngI z8_; omega
theorem lf_c_X6_hasTwoAlike_2 (Mz : mM) (w : Nat) (v1_2 : Int32) (z2_ : Int32) (v2_12 : Int32) (z8_ : Int32) (hw : w < 4) (hv0_2 : 1 ≤ v1_2.toInt) (e3_ : z2_ = Mz.1 (6, 0, w) 1) (h4_ : 0 ≤ z2_.toInt ∧ z2_.toInt ≤ 24) (h5_ : v1_2.toInt < z2_.toInt) (hv0_12 : 0 ≤ v2_12.toInt) (h7_ : v1_2.toInt ≤ v2_12.toInt) (h9_ : z8_.toInt = v1_2.toInt + 1) : (2147483648 - z8_.toInt).toNat < (2147483648 - v1_2.toInt).toNat := by have r_v1_2 := rngI v1_2; have r_z2_ := rngI z2_; have r_v2_12 := rngI v2_12; have r_z8_ := rngI z8_; omega
theorem lf_c_X6_hasTwoAlike_3 (Mz : mM) (w : Nat) (v1_2 : Int32) (z2_ : Int32) (v2_12 : Int32) (hw : w < 4) (hv0_2 : 1 ≤ v1_2.toInt) (e3_ : z2_ = Mz.1 (6, 0, w) 1) (h4_ : 0 ≤ z2_.toInt ∧ z2_.toInt ≤ 24) (h5_ : v1_2.toInt < z2_.toInt) (hv0_12 : 0 ≤ v2_12.toInt) (h7_ : v2_12.toInt < v1_2.toInt) : -2147483648 ≤ v2_12.toInt + 1 ∧ v2_12.toInt + 1 < 2147483648 := by have r_v1_2 := rngI v1_2; have r_z2_ := rngI z2_; have r_v2_12 := rngI v2_12; subst e3_; omega
theorem lf_c_X6_hasTwoAlike_4 (Mz : mM) (w : Nat) (v1_2 : Int32) (z2_ : Int32) (v2_12 : Int32) (z21_ : Int32) (hw : w < 4) (hv0_2 : 1 ≤ v1_2.toInt) (e3_ : z2_ = Mz.1 (6, 0, w) 1) (h4_ : 0 ≤ z2_.toInt ∧ z2_.toInt ≤ 24) (h5_ : v1_2.toInt < z2_.toInt) (hv0_12 : 0 ≤ v2_12.toInt) (h7_ : v2_12.toInt < v1_2.toInt) (h22_ : z21_.toInt = v2_12.toInt + 1) : 0 ≤ z21_.toInt := by have r_v1_2 := rngI v1_2; have r_z2_ := rngI z2_; have r_v2_12 := rngI v2_12; have r_z21_ := rngI z21_; omega
theorem lf_c_X6_hasTwoAlike_5 (Mz : mM) (w : Nat) (v1_2 : Int32) (z2_ : Int32) (v2_12 : Int32) (z21_ : Int32) (hw : w < 4) (hv0_2 : 1 ≤ v1_2.toInt) (e3_ : z2_ = Mz.1 (6, 0, w) 1) (h4_ : 0 ≤ z2_.toInt ∧ z2_.toInt ≤ 24) (h5_ : v1_2.toInt < z2_.toInt) (hv0_12 : 0 ≤ v2_12.toInt) (h7_ : v2_12.toInt < v1_2.toInt) (h22_ : z21_.toInt = v2_12.toInt + 1) : (2147483648 - z21_.toInt).toNat < (2147483648 - v2_12.toInt).toNat := by have r_v1_2 := rngI v1_2; have r_z2_ := rngI z2_; have r_v2_12 := rngI v2_12; have r_z21_ := rngI z21_; omega
theorem lf_c_X6_hasTwoAlike_6    : 0 ≤ (0 : Int32).toInt := by have q0 := li_0; omega
theorem lf_c_X6_hasTwoAlike_7    : 1 ≤ (1 : Int32).toInt := by have q0 := li_1; omega
set_option maxHeartbeats 4000000 in
set_option maxRecDepth 100000 in
theorem c_X6_hasTwoAlike (l : Launch) (G : va_G) (cy : Nat → ClassId) (ad : rf → Nat) (d : Nat) (w : Nat) (Mz : mM) (hIz : Inv Mz) (hw : w < 4) : WP CC l G cy ad yX6_hasTwoAlike cX6_hasTwoAlike 3 (some .boolean) (d + 2) 0 [(0, vR (6, 0, w))] [] Mz (fun r M' => Mz = M' ∧ ((0 ≤ r.toInt ∧ r.toInt ≤ 1)) ∧ SP_X6_hasTwoAlike w Mz r) := by
  refine w_iconst (v := 1) dX6_hasTwoAlike_0 (by decide) ?_
  refine w_istore_n (ls' := [(1, vI 1), (0, vR (6, 0, w))]) dX6_hasTwoAlike_1 rfl (by decide) rfl ?_
  have lp1_ : ∀ (nn_2 : Nat) (v1_2 : Int32) (hv0_2 : 1 ≤ v1_2.toInt) (hL_2 : RCH (fun x_ y_ => ST_X6_hasTwoAlike_2 w Mz x_ y_) (1 : Int32) v1_2), (2147483648 - v1_2.toInt).toNat < nn_2 → WP CC l G cy ad yX6_hasTwoAlike cX6_hasTwoAlike 3 (some .boolean) (d + 2) 2 [(1, vI v1_2), (0, vR (6, 0, w))] [] Mz (fun r M' => Mz = M' ∧ ((0 ≤ r.toInt ∧ r.toInt ≤ 1)) ∧ SP_X6_hasTwoAlike w Mz r) := by
    intro nn_2
    induction nn_2 with
    | zero => intro v1_2 hv0_2 hL_2 hm_2; exact absurd hm_2 (Nat.not_lt_zero _)
    | succ nn_2 ih_2 =>
      intro v1_2 hv0_2 hL_2 hm_2
      refine w_iload_n dX6_hasTwoAlike_2 rfl 0 rfl ?_
      refine w_aload_n dX6_hasTwoAlike_3 rfl 1 rfl ?_
      refine w_getI fl_RX6_13 rfl rfl (ic_6 hw) dX6_hasTwoAlike_4 (fun z2_ e3_ => ?_)
      have h4_ : 0 ≤ z2_.toInt ∧ z2_.toInt ≤ 24 := ofEq (P := fun v => 0 ≤ v.toInt ∧ v.toInt ≤ 24) e3_ (hIz (6, 0, w) 1 rfl)
      refine w_icmp_ge (tgt := 44) dX6_hasTwoAlike_7 (by decide) (rfl : v1_2.toInt = v1_2.toInt) (rfl : z2_.toInt = z2_.toInt) (fun h5_ => ?_) (fun h5_ => ?_)
      · refine w_iconst (v := 0) dX6_hasTwoAlike_44 (by decide) ?_
        exact w_zret rfl dX6_hasTwoAlike_45 ⟨by decide, by decide⟩ ⟨rfl, ⟨by decide, by decide⟩, ⟨v1_2, hv0_2, hL_2, z2_, e3_, h4_, (Or.inl ⟨h5_, rfl⟩)⟩⟩
      · refine w_iconst (v := 0) dX6_hasTwoAlike_10 (by decide) ?_
        refine w_istore_n (ls' := [(2, vI 0), (1, vI v1_2), (0, vR (6, 0, w))]) dX6_hasTwoAlike_11 rfl (by decide) rfl ?_
        have lp6_ : ∀ (nn_12 : Nat) (v2_12 : Int32) (hv0_12 : 0 ≤ v2_12.toInt) (hL_12 : RCH (fun x_ y_ => ST_X6_hasTwoAlike_12 w Mz v1_2 x_ y_) (0 : Int32) v2_12), (2147483648 - v2_12.toInt).toNat < nn_12 → WP CC l G cy ad yX6_hasTwoAlike cX6_hasTwoAlike 3 (some .boolean) (d + 2) 12 [(2, vI v2_12), (1, vI v1_2), (0, vR (6, 0, w))] [] Mz (fun r M' => Mz = M' ∧ ((0 ≤ r.toInt ∧ r.toInt ≤ 1)) ∧ SP_X6_hasTwoAlike w Mz r) := by
          intro nn_12
          induction nn_12 with
          | zero => intro v2_12 hv0_12 hL_12 hm_12; exact absurd hm_12 (Nat.not_lt_zero _)
          | succ nn_12 ih_12 =>
            intro v2_12 hv0_12 hL_12 hm_12
            refine w_iload_n dX6_hasTwoAlike_12 rfl 0 rfl ?_
            refine w_iload_n dX6_hasTwoAlike_13 rfl 1 rfl ?_
            refine w_icmp_ge (tgt := 38) dX6_hasTwoAlike_14 (by decide) (rfl : v2_12.toInt = v2_12.toInt) (rfl : v1_2.toInt = v1_2.toInt) (fun h7_ => ?_) (fun h7_ => ?_)
            · refine w_iincB (j := 1) (f := fun z8_ => [(1, vI z8_), (2, vI v2_12), (0, vR (6, 0, w))]) dX6_hasTwoAlike_38 rfl (by decide) (fun _ => rfl) (rfl : v1_2.toInt = v1_2.toInt) li_1 (lf_c_X6_hasTwoAlike_0 Mz w v1_2 z2_ v2_12 hw hv0_2 e3_ h4_ h5_ hv0_12 h7_) (fun z8_ h9_ => ?_)
              refine w_goto (tgt := 2) dX6_hasTwoAlike_41 (by decide) ?_
              refine w_loc (ls' := [(1, vI z8_), (0, vR (6, 0, w))]) [0, 2] rfl ?_
              exact ih_2 z8_ (lf_c_X6_hasTwoAlike_1 Mz w v1_2 z2_ v2_12 z8_ hw hv0_2 e3_ h4_ h5_ hv0_12 h7_ h9_) (RCH.tail hL_2 ⟨hv0_2, z2_, e3_, h4_, h5_, v2_12, hv0_12, hL_12, h7_, z8_, h9_, rfl⟩) (Nat.lt_of_lt_of_le (lf_c_X6_hasTwoAlike_2 Mz w v1_2 z2_ v2_12 z8_ hw hv0_2 e3_ h4_ h5_ hv0_12 h7_ h9_) (Nat.le_of_lt_succ hm_2))
            · refine w_aload_n dX6_hasTwoAlike_17 rfl 2 rfl ?_
              refine w_iload_n dX6_hasTwoAlike_18 rfl 1 rfl ?_
              refine w_callV (as := [vI v1_2]) (rest := []) (c_X6_numberAt l G cy ad d w v1_2 Mz hIz hw) kV_X6_numberAt (by decide +kernel) (Nat.le_of_ble_eq_true rfl) m_982 rfl rfl rfl (ic_6 hw) rfl rfl (by decide) (Nat.le_of_ble_eq_true rfl) dX6_hasTwoAlike_19 (fun r10_ M11_ q12_ => ?_)
              obtain ⟨rfl, h13_, hs14_⟩ := q12_
              refine w_aload_n dX6_hasTwoAlike_22 rfl 2 rfl ?_
              refine w_iload_n dX6_hasTwoAlike_23 rfl 0 rfl ?_
              refine w_callV (as := [vI v2_12]) (rest := [vI r10_]) (c_X6_numberAt l G cy ad d w v2_12 Mz hIz hw) kV_X6_numberAt (by decide +kernel) (Nat.le_of_ble_eq_true rfl) m_982 rfl rfl rfl (ic_6 hw) rfl rfl (by decide) (Nat.le_of_ble_eq_true rfl) dX6_hasTwoAlike_24 (fun r15_ M16_ q17_ => ?_)
              obtain ⟨rfl, h18_, hs19_⟩ := q17_
              refine w_icmp_ne (tgt := 32) dX6_hasTwoAlike_27 (by decide) (rfl : r10_.toInt = r10_.toInt) (rfl : r15_.toInt = r15_.toInt) (fun h20_ => ?_) (fun h20_ => ?_)
              · refine w_iincB (j := 0) (f := fun z21_ => [(2, vI z21_), (1, vI v1_2), (0, vR (6, 0, w))]) dX6_hasTwoAlike_32 rfl (by decide) (fun _ => rfl) (rfl : v2_12.toInt = v2_12.toInt) li_1 (lf_c_X6_hasTwoAlike_3 Mz w v1_2 z2_ v2_12 hw hv0_2 e3_ h4_ h5_ hv0_12 h7_) (fun z21_ h22_ => ?_)
                refine w_goto (tgt := 12) dX6_hasTwoAlike_35 (by decide) ?_
                refine w_loc (ls' := [(2, vI z21_), (1, vI v1_2), (0, vR (6, 0, w))]) [0, 1, 2] rfl ?_
                exact ih_12 z21_ (lf_c_X6_hasTwoAlike_4 Mz w v1_2 z2_ v2_12 z21_ hw hv0_2 e3_ h4_ h5_ hv0_12 h7_ h22_) (RCH.tail hL_12 ⟨hv0_12, h7_, r10_, hs14_, r15_, hs19_, h20_, z21_, h22_, rfl⟩) (Nat.lt_of_lt_of_le (lf_c_X6_hasTwoAlike_5 Mz w v1_2 z2_ v2_12 z21_ hw hv0_2 e3_ h4_ h5_ hv0_12 h7_ h22_) (Nat.le_of_lt_succ hm_12))
              · refine w_iconst (v := 1) dX6_hasTwoAlike_30 (by decide) ?_
                exact w_zret rfl dX6_hasTwoAlike_31 ⟨by decide, by decide⟩ ⟨rfl, ⟨by decide, by decide⟩, ⟨v1_2, hv0_2, hL_2, z2_, e3_, h4_, (Or.inr ⟨h5_, v2_12, hv0_12, hL_12, h7_, r10_, hs14_, r15_, hs19_, h20_, rfl⟩)⟩⟩
        exact lp6_ _ 0 (lf_c_X6_hasTwoAlike_6 ) RCH.refl (Nat.lt_succ_self _)
  exact lp1_ _ 1 (lf_c_X6_hasTwoAlike_7 ) RCH.refl (Nat.lt_succ_self _)
end
section
/-! members of the JDK that are walked as methods of the class are -/
def yJI_bitCount : MethodName := ⟨"java/lang/Integer", "bitCount", "(I)I"⟩
abbrev cJI_bitCount : ByteArray := prog_16_method_49_code
def yJL_bitCount : MethodName := ⟨"java/lang/Long", "bitCount", "(J)I"⟩
abbrev cJL_bitCount : ByteArray := prog_17_method_50_code
def yJM_floorMod : MethodName := ⟨"java/lang/Math", "floorMod", "(II)I"⟩
abbrev cJM_floorMod : ByteArray := prog_18_method_50_code
section WPJDK
variable {cls : List rf} {l : Launch} {G : va_G} {cy : Nat → ClassId} {ad : rf → Nat} {y : MethodName} {b : ByteArray} {n : Nat} {r : Option FieldType} {d : Nat} {pc : Nat} {ls : List (Nat × mV)} {st : List mV} {M : mM} {Q : Int32 → mM → Prop}
theorem w_iushr {x w : Int32} (hd : decode b pc = .ok (.iushr, 1)) (kk : ∀ z : Int32, z = iushrX x w → WP cls l G cy ad y b n r d (pc + 1) ls (vI z :: st) M Q) : WP cls l G cy ad y b n r d pc ls (vI w :: vI x :: st) M Q := fun p e s m args below meth c A X lsA H locs hl hP hS => lv_iushr X.1 X.2.1 hd rfl (kk (iushrX x w) rfl p e s m args below meth c A X lsA H locs hl hP hS)
theorem w_lsub {x w : Int64} (hd : decode b pc = .ok (.lsub, 1)) (kk : ∀ z : Int64, z = x - w → WP cls l G cy ad y b n r d (pc + 1) ls (vL z :: st) M Q) : WP cls l G cy ad y b n r d pc ls (vL w :: vL x :: st) M Q := fun p e s m args below meth c A X lsA H locs hl hP hS => lv_lsub X.1 X.2.1 hd (kk (x - w) rfl p e s m args below meth c A X lsA H locs hl hP hS)
end WPJDK
/-! Math.floorMod by 4, by a contract of the library kind -/
theorem fm_d0 : decode cJM_floorMod 0 = .ok (.iload_n 0, 1) := by decide +kernel
theorem fm_d1 : decode cJM_floorMod 1 = .ok (.iload_n 1, 1) := by decide +kernel
theorem fm_d2 : decode cJM_floorMod 2 = .ok (.irem, 1) := by decide +kernel
theorem fm_d3 : decode cJM_floorMod 3 = .ok (.istore_n 2, 1) := by decide +kernel
theorem fm_d4 : decode cJM_floorMod 4 = .ok (.iload_n 0, 1) := by decide +kernel
theorem fm_d5 : decode cJM_floorMod 5 = .ok (.iload_n 1, 1) := by decide +kernel
theorem fm_d6 : decode cJM_floorMod 6 = .ok (.ixor, 1) := by decide +kernel
theorem fm_d7 : decode cJM_floorMod 7 = .ok (.ifCond .ge 11, 3) := by decide +kernel
theorem fm_d10 : decode cJM_floorMod 10 = .ok (.iload_n 2, 1) := by decide +kernel
theorem fm_d11 : decode cJM_floorMod 11 = .ok (.ifCond .eq 7, 3) := by decide +kernel
theorem fm_d14 : decode cJM_floorMod 14 = .ok (.iload_n 2, 1) := by decide +kernel
theorem fm_d15 : decode cJM_floorMod 15 = .ok (.iload_n 1, 1) := by decide +kernel
theorem fm_d16 : decode cJM_floorMod 16 = .ok (.iadd, 1) := by decide +kernel
theorem fm_d17 : decode cJM_floorMod 17 = .ok (.ireturn, 1) := by decide +kernel
theorem fm_d18 : decode cJM_floorMod 18 = .ok (.iload_n 2, 1) := by decide +kernel
theorem fm_d19 : decode cJM_floorMod 19 = .ok (.ireturn, 1) := by decide +kernel
theorem fm_noRow0 : (NativeRow.find? natives yJM_floorMod.cls yJM_floorMod.name yJM_floorMod.desc).isNone = true := by decide +kernel
theorem fm_noRow (p : Program) : NativeRow.find? p.tables.natives yJM_floorMod.cls yJM_floorMod.name yJM_floorMod.desc = none := by
  cases p <;> exact Option.isNone_iff_eq_none.mp fm_noRow0
def fmX (a : Int32) : Int32 := if 0 ≤ a ^^^ 4 then a - a / 4 * 4 else if a - a / 4 * 4 = 0 then a - a / 4 * 4 else a - a / 4 * 4 + 4
def fmSpec (a0 : Int32) : Spec where
  pre := .and (.code yJM_floorMod cJM_floorMod 3 (some .int)) (.and (.and (.count 2) (.and (.isInt (.arg 0)) (.isInt (.arg 1)))) (.and (.eq (.arg 1) (.int 4)) (.eq (.arg 0) (.int a0))))
  post := .and .returned (.eq .result (.int (fmX a0)))
  changes := some []
theorem fm_meets (l : Launch) (a0 : Int32) : MeetsLoose l yJM_floorMod (fmSpec a0) := by
  refine MeetsLoose.of_body_ov (code := cJM_floorMod) (maxLocals := 3) (ret := some .int) fm_noRow ?_ ?_
  · intro args s h
    simp only [fmSpec, Cond.before_and, Bool.and_eq_true] at h
    exact h.1
  · intro p e s m args below meth c s₁ B
    have hpre := B.pre
    simp only [fmSpec, Cond.before_and, Bool.and_eq_true] at hpre
    obtain ⟨a, b, rfl⟩ := Cond.two_ints hpre.2.1.1 hpre.2.1.2.1 hpre.2.1.2.2
    have hb4 : b = 4 := by
      have h := hpre.2.2.1
      simpa [Cond.before, Cond.holds, Cond.value, Term.eval] using h
    subst hb4
    have ha0 : a = a0 := by
      have h := hpre.2.2.2
      simpa [Cond.before, Cond.holds, Cond.value, Term.eval] using h
    subst ha0
    have hloc : argsToLocals #[.int a, .int 4] 3 = #[.val (.int a), .val (.int 4), .unset] := rfl
    have fin : ∀ r : Int32, r = fmX a → (∀ fs, Steps p.tables e below (s₁.setTop (entryFrame m #[.int a, .int 4] 3)) (s₁.setFrames fs) ∨ handOver s₁ (some (.int r)) below ≠ some fs) →
        ∃ s₂ o, Steps p.tables e below (s₁.setTop (entryFrame m #[.int a, .int 4] 3)) s₂ ∧ s₂.status = .running ∧ Ended s₂ below o ∧
          (fmSpec a).ensures #[.int a, .int 4] s o s₂ := by
      intro r hr hwalk
      obtain ⟨fs, hfs⟩ := handOver_isSome (s := s₁) (some (.int r)) B.hears₁
      refine ⟨s₁.setFrames fs, .returned (some (.int r)), (hwalk fs).resolve_right (fun h => h hfs), B.here.running, B.ended hfs (by intro h; cases h), ?_, State.sameBut_nil.mpr ?_⟩
      · simp [fmSpec, Cond.after, Cond.holds, Cond.value, Term.eval, hr]
      · rw [State.frames_setFrames _ B.cur₁, B.back]
    by_cases h1 : 0 ≤ a ^^^ 4
    · refine fin (a - a / 4 * 4) (by unfold fmX; rw [if_pos h1]) (fun fs => ?_)
      by_cases hfs : handOver s₁ (some (.int (a - a / 4 * 4))) below = some fs
      · left
        unfold entryFrame; rw [hloc]
        refine Steps.instrAtOv (c := _) (by simpa using B.here) ?_
        simp [jvm, wpRun, exec, B.here.top, B.exec, B.bytes, fm_d0]
        refine Steps.instrAtOv (c := _) (by simpa using B.here) ?_
        simp [jvm, wpRun, exec, B.here.top, B.exec, B.bytes, fm_d1]
        refine Steps.instrAtOv (c := _) (by simpa using B.here) ?_
        simp [jvm, wpRun, exec, B.here.top, B.exec, B.bytes, fm_d2]
        refine Steps.instrAtOv (c := _) (by simpa using B.here) ?_
        simp [jvm, wpRun, exec, B.here.top, B.exec, B.bytes, fm_d3]
        refine ⟨#[.val (.int a), .val (.int 4), .val (.int (a - a / 4 * 4))], rfl, ?_⟩
        refine Steps.instrAtOv (c := _) (by simpa using B.here) ?_
        simp [jvm, wpRun, exec, B.here.top, B.exec, B.bytes, fm_d4]
        refine Steps.instrAtOv (c := _) (by simpa using B.here) ?_
        simp [jvm, wpRun, exec, B.here.top, B.exec, B.bytes, fm_d5]
        refine Steps.instrAtOv (c := _) (by simpa using B.here) ?_
        simp [jvm, wpRun, exec, B.here.top, B.exec, B.bytes, fm_d6]
        refine Steps.instrAtOv (c := _) (by simpa using B.here) ?_
        simp [jvm, wpRun, exec, B.here.top, B.exec, B.bytes, fm_d7, ifCond.holds, h1]
        refine Steps.instrAtOv (c := _) (by simpa using B.here) ?_
        simp [jvm, wpRun, exec, B.here.top, B.exec, B.bytes, fm_d18]
        refine Steps.instrAtOv (c := _) (by simpa using B.here) ?_
        simp [jvm, wpRun, exec, B.here.top, B.exec, B.bytes, fm_d19, B.method₁, B.returns, narrow]
        intro acts
        rw [ret_to B.frames₁ B.method₁ B.notSynchronized rfl rfl hfs]
        exact Steps.refl _
      · exact Or.inr hfs
    · by_cases h2 : a - a / 4 * 4 = 0
      · refine fin (a - a / 4 * 4) (by unfold fmX; rw [if_neg h1, if_pos h2]) (fun fs => ?_)
        by_cases hfs : handOver s₁ (some (.int (a - a / 4 * 4))) below = some fs
        · left
          unfold entryFrame; rw [hloc]
          refine Steps.instrAtOv (c := _) (by simpa using B.here) ?_
          simp [jvm, wpRun, exec, B.here.top, B.exec, B.bytes, fm_d0]
          refine Steps.instrAtOv (c := _) (by simpa using B.here) ?_
          simp [jvm, wpRun, exec, B.here.top, B.exec, B.bytes, fm_d1]
          refine Steps.instrAtOv (c := _) (by simpa using B.here) ?_
          simp [jvm, wpRun, exec, B.here.top, B.exec, B.bytes, fm_d2]
          refine Steps.instrAtOv (c := _) (by simpa using B.here) ?_
          simp [jvm, wpRun, exec, B.here.top, B.exec, B.bytes, fm_d3]
          refine ⟨#[.val (.int a), .val (.int 4), .val (.int (a - a / 4 * 4))], rfl, ?_⟩
          refine Steps.instrAtOv (c := _) (by simpa using B.here) ?_
          simp [jvm, wpRun, exec, B.here.top, B.exec, B.bytes, fm_d4]
          refine Steps.instrAtOv (c := _) (by simpa using B.here) ?_
          simp [jvm, wpRun, exec, B.here.top, B.exec, B.bytes, fm_d5]
          refine Steps.instrAtOv (c := _) (by simpa using B.here) ?_
          simp [jvm, wpRun, exec, B.here.top, B.exec, B.bytes, fm_d6]
          refine Steps.instrAtOv (c := _) (by simpa using B.here) ?_
          simp [jvm, wpRun, exec, B.here.top, B.exec, B.bytes, fm_d7, ifCond.holds, h1]
          refine Steps.instrAtOv (c := _) (by simpa using B.here) ?_
          simp [jvm, wpRun, exec, B.here.top, B.exec, B.bytes, fm_d10]
          refine Steps.instrAtOv (c := _) (by simpa using B.here) ?_
          simp [jvm, wpRun, exec, B.here.top, B.exec, B.bytes, fm_d11, ifCond.holds, h2]
          refine Steps.instrAtOv (c := _) (by simpa using B.here) ?_
          simp [jvm, wpRun, exec, B.here.top, B.exec, B.bytes, fm_d18]
          refine Steps.instrAtOv (c := _) (by simpa using B.here) ?_
          simp [jvm, wpRun, exec, B.here.top, B.exec, B.bytes, fm_d19, B.method₁, B.returns, narrow]
          intro acts
          rw [h2] at hfs
          rw [ret_to B.frames₁ B.method₁ B.notSynchronized rfl rfl hfs]
          exact Steps.refl _
        · exact Or.inr hfs
      · refine fin (a - a / 4 * 4 + 4) (by unfold fmX; rw [if_neg h1, if_neg h2]) (fun fs => ?_)
        by_cases hfs : handOver s₁ (some (.int (a - a / 4 * 4 + 4))) below = some fs
        · left
          unfold entryFrame; rw [hloc]
          refine Steps.instrAtOv (c := _) (by simpa using B.here) ?_
          simp [jvm, wpRun, exec, B.here.top, B.exec, B.bytes, fm_d0]
          refine Steps.instrAtOv (c := _) (by simpa using B.here) ?_
          simp [jvm, wpRun, exec, B.here.top, B.exec, B.bytes, fm_d1]
          refine Steps.instrAtOv (c := _) (by simpa using B.here) ?_
          simp [jvm, wpRun, exec, B.here.top, B.exec, B.bytes, fm_d2]
          refine Steps.instrAtOv (c := _) (by simpa using B.here) ?_
          simp [jvm, wpRun, exec, B.here.top, B.exec, B.bytes, fm_d3]
          refine ⟨#[.val (.int a), .val (.int 4), .val (.int (a - a / 4 * 4))], rfl, ?_⟩
          refine Steps.instrAtOv (c := _) (by simpa using B.here) ?_
          simp [jvm, wpRun, exec, B.here.top, B.exec, B.bytes, fm_d4]
          refine Steps.instrAtOv (c := _) (by simpa using B.here) ?_
          simp [jvm, wpRun, exec, B.here.top, B.exec, B.bytes, fm_d5]
          refine Steps.instrAtOv (c := _) (by simpa using B.here) ?_
          simp [jvm, wpRun, exec, B.here.top, B.exec, B.bytes, fm_d6]
          refine Steps.instrAtOv (c := _) (by simpa using B.here) ?_
          simp [jvm, wpRun, exec, B.here.top, B.exec, B.bytes, fm_d7, ifCond.holds, h1]
          refine Steps.instrAtOv (c := _) (by simpa using B.here) ?_
          simp [jvm, wpRun, exec, B.here.top, B.exec, B.bytes, fm_d10]
          refine Steps.instrAtOv (c := _) (by simpa using B.here) ?_
          simp [jvm, wpRun, exec, B.here.top, B.exec, B.bytes, fm_d11, ifCond.holds, h2]
          refine Steps.instrAtOv (c := _) (by simpa using B.here) ?_
          simp [jvm, wpRun, exec, B.here.top, B.exec, B.bytes, fm_d14]
          refine Steps.instrAtOv (c := _) (by simpa using B.here) ?_
          simp [jvm, wpRun, exec, B.here.top, B.exec, B.bytes, fm_d15]
          refine Steps.instrAtOv (c := _) (by simpa using B.here) ?_
          simp [jvm, wpRun, exec, B.here.top, B.exec, B.bytes, fm_d16]
          refine Steps.instrAtOv (c := _) (by simpa using B.here) ?_
          simp [jvm, wpRun, exec, B.here.top, B.exec, B.bytes, fm_d17, B.method₁, B.returns, narrow]
          intro acts
          rw [ret_to B.frames₁ B.method₁ B.notSynchronized rfl rfl hfs]
          exact Steps.refl _
        · exact Or.inr hfs
section VFM
variable {p : Program} {l : Launch} {e : Env} {R : Room} {s : State} {m : MethodId} {args : Array Value} {below : List Frame} {meth : Method} {c : Code} {cells slots : Nat} {T : State} {locs : List Loc}
theorem fm_V (X : Stand p l e R s m args below meth c T locs cells slots) (hexec : p.tables.exec = Jvm.exec) {own : String} {index : Nat} (hown : s.vm.findClass own = some m.cls)
    (hlink : (Cond.methodLink own index yJM_floorMod).before args s = true) (hstat : (Cond.static yJM_floorMod).before args s = true) (hinit : (Cond.initialized "java/lang/Math").before args s = true)
    (hcode : (Cond.code yJM_floorMod cJM_floorMod 3 (some .int)).before args s = true)
    {g : JFrame} (hg : g.method = m) (hsize : g.locals.size = c.maxLocals) {a : Int32} {rest : List Value} (hstack : g.stack = .int 4 :: .int a :: rest) (hdg : decode c.code g.pc = .ok (.invokestatic index, 3))
    (hframes : 1 ≤ R.frames) (hlocals : 2 * g.monitorRoom + (rest.map fun v => v.category).sum + 14 ≤ R.locals) (hcells : cells ≤ R.cells) (hslots : slots ≤ R.slots) :
    ∃ vm' : Vm, Stand p l e R s m args below meth c (T.setVm vm') locs cells slots ∧
      ∀ target, Steps p.tables e below ((T.setVm vm').setTop { g with pc := g.pc + 3, stack := .int (fmX a) :: rest }) target → Steps p.tables e below (T.setTop g) target := by
  obtain ⟨v, T', X', ⟨first, t, hpost⟩, hstep⟩ := X.staticByContractV hexec hown hlink hstat hinit hcode (by decide)
    (fm_meets l a)
    rfl rfl rfl rfl
    (fun args' first o s₂ h => by
      simp only [fmSpec, Cond.after_and, Bool.and_eq_true] at h
      cases o with
      | returned r => exact ⟨r, rfl⟩
      | threw y => simp [Cond.after, Cond.holds, Cond.value] at h)
    hg hsize (argsL := [.int a, .int 4]) (rest := rest)
    (fun sig hs => by
      have h : parseMethodDescriptor "(II)I" = some { parameters := [.int, .int], returnType := some .int } := by decide +kernel
      rw [show yJM_floorMod.desc = "(II)I" from rfl, h] at hs
      rw [← Option.some.inj hs]; rfl)
    hstack hdg
    (fun vm' hW => by
      simp only [fmSpec, Cond.before_and, Bool.and_eq_true]
      refine ⟨?_, ⟨rfl, rfl, rfl⟩, rfl, by simp [Cond.before, Cond.holds, Cond.value, Term.eval]⟩
      have q := hcode
      rw [← Cond.code_setVm hW.alike] at q
      simp only [Cond.before, Cond.holds, Cond.value, State.methodNamed?, State.vm_setVm] at q ⊢
      exact q)
    (by show 0 + 1 ≤ R.frames; omega) (by show 2 * g.monitorRoom + (rest.map fun v => v.category).sum + (3 + 11) + 0 ≤ R.locals; omega) (by show cells + 0 ≤ R.cells; omega) (by show slots + 0 ≤ R.slots; omega)
  rcases v with _ | w
  · simp [fmSpec, Cond.after, Cond.holds, Cond.value, Term.eval] at hpost
  · cases w with
    | int r =>
      have hr : r = fmX a := by simpa [fmSpec, Cond.after, Cond.holds, Cond.value, Term.eval] using hpost
      subst hr
      exact ⟨T', X', hstep⟩
    | _ => simp [fmSpec, Cond.after, Cond.holds, Cond.value, Term.eval] at hpost
end VFM
section WFM
variable {cls : List rf} {l : Launch} {G : va_G} {cy : Nat → ClassId} {ad : rf → Nat} {y : MethodName} {b : ByteArray} {n : Nat} {r : Option FieldType} {d : Nat} {pc : Nat} {ls : List (Nat × mV)} {st : List mV} {M : mM} {Q : Int32 → mM → Prop}
theorem w_floorMod4 {x : Int32} {idx : Nat} (hl1 : Cond.methodLink y.cls idx yJM_floorMod ∈ BASE) (h2 : Cond.static yJM_floorMod ∈ BASE) (h3 : Cond.initialized "java/lang/Math" ∈ BASE) (h4 : Cond.code yJM_floorMod cJM_floorMod 3 (some .int) ∈ BASE) (hs : st.length ≤ 4) (hd1 : 1 ≤ d) (hd : decode b pc = .ok (.invokestatic idx, 3)) (kk : ∀ z : Int32, z = fmX x → WP cls l G cy ad y b n r d (pc + 3) ls (vI z :: st) M Q) : WP cls l G cy ad y b n r d pc ls (vI 4 :: vI x :: st) M Q := by
  intro p e s m args below meth c' A X lsA H locs hl hP hS T hT hXs
  have hX := X
  obtain ⟨hx1, hb, hr, hml, hts, hown, hlk, hE, hT2, hA⟩ := X
  have hc := catsum ad st
  obtain ⟨vm', X', hst⟩ := fm_V hXs hx1 hown (hts _ hl1) (hts _ h2) (hts _ h3) (hts _ h4) (g := F0 m pc lsA ((vI 4 :: vI x :: st).map (gv ad))) rfl (hl.1.trans hml.symm) (a := x) (rest := st.map (gv ad)) rfl (by rw [hb]; exact hd) (by show 1 ≤ d; exact hd1) (by show 2 * 0 + _ + 14 ≤ 100 * d; omega) (Nat.zero_le _) (Nat.zero_le _)
  obtain ⟨t, a1, b1⟩ := kk (fmX x) rfl p e s m args below meth c' A hX lsA H locs hl hP hS (T.setVm vm') hT X'
  exact ⟨t, hst t a1, b1⟩
end WFM
end
section
/-! words of the tables that are used, by their places; decode rows; fields -/
theorem li_100 : (100 : Int32).toInt = 100 := by decide
theorem li_999 : (999 : Int32).toInt = 999 := by decide
set_option maxRecDepth 20000 in
theorem m_82 : Cond.initialized RX2 ∈ BASE := bmT1 4 rfl rfl
set_option maxRecDepth 20000 in
theorem m_83 : Cond.initialized RX1 ∈ BASE := bmT1 5 rfl rfl
set_option maxRecDepth 20000 in
theorem m_170 : Cond.fieldLink RX2 7 "ClickStreet$Laws" "noise" "I" ∈ BASE := bmT1 92 rfl rfl
set_option maxRecDepth 20000 in
theorem m_171 : Cond.fieldLink RX2 13 "ClickStreet$Laws" "mask" "I" ∈ BASE := bmT1 93 rfl rfl
set_option maxRecDepth 20000 in
theorem m_172 : Cond.fieldLink RX2 16 "ClickStreet$Laws" "snow" "I" ∈ BASE := bmT1 94 rfl rfl
set_option maxRecDepth 20000 in
theorem m_173 : Cond.fieldLink RX2 21 "ClickStreet$Laws" "loud" "[I" ∈ BASE := bmT1 95 rfl rfl
set_option maxRecDepth 20000 in
theorem m_174 : Cond.fieldLink RX2 25 "ClickStreet$Laws" "sharp" "[I" ∈ BASE := bmT1 96 rfl rfl
set_option maxRecDepth 20000 in
theorem m_175 : Cond.fieldLink RX2 30 "ClickStreet$Laws" "texts" "[LClickStreet$Formula;" ∈ BASE := bmT1 97 rfl rfl
set_option maxRecDepth 20000 in
theorem m_177 : Cond.fieldLink RX2 34 "ClickStreet$Laws" "values" "[I" ∈ BASE := bmT1 99 rfl rfl
set_option maxRecDepth 20000 in
theorem m_218 : Cond.fieldLink RX3 9 "ClickStreet$Lessons" "tells" "[I" ∈ BASE := bmT1 140 rfl rfl
set_option maxRecDepth 20000 in
theorem m_219 : Cond.fieldLink RX3 13 "ClickStreet$Lessons" "needs" "[I" ∈ BASE := bmT1 141 rfl rfl
set_option maxRecDepth 20000 in
theorem m_220 : Cond.fieldLink RX3 16 "ClickStreet$Lessons" "minutes" "[I" ∈ BASE := bmT1 142 rfl rfl
set_option maxRecDepth 20000 in
theorem m_221 : Cond.fieldLink RX3 19 "ClickStreet$Lessons" "size" "I" ∈ BASE := bmT1 143 rfl rfl
set_option maxRecDepth 20000 in
theorem m_223 : Cond.fieldLink RX3 28 "ClickStreet$Lessons" "tried" "LClickStreet$Row;" ∈ BASE := bmT1 145 rfl rfl
set_option maxRecDepth 20000 in
theorem m_224 : Cond.fieldLink RX3 32 "ClickStreet$Lessons" "best" "LClickStreet$Row;" ∈ BASE := bmT1 146 rfl rfl
set_option maxRecDepth 20000 in
theorem m_227 : Cond.fieldLink RX3 38 "ClickStreet$Lessons" "fewestMinutes" "I" ∈ BASE := bmT1 149 rfl rfl
set_option maxRecDepth 20000 in
theorem m_654 : Cond.static yX2_isClick ∈ BASE := bmT3 96 rfl rfl
set_option maxRecDepth 20000 in
theorem m_655 : Cond.code yX2_isClick cX2_isClick 2 (some .boolean) ∈ BASE := bmT3 97 rfl rfl
set_option maxRecDepth 20000 in
theorem m_825 : Cond.instanceMethod yX1_takeFrom ∈ BASE := bmT4 27 rfl rfl
set_option maxRecDepth 20000 in
theorem m_826 : Cond.selects yX1_takeFrom.cls yX1_takeFrom yX1_takeFrom ∈ BASE := bmT4 28 rfl rfl
set_option maxRecDepth 20000 in
theorem m_827 : Cond.code yX1_takeFrom cX1_takeFrom 2 none ∈ BASE := bmT4 29 rfl rfl
set_option maxRecDepth 20000 in
theorem m_842 : Cond.methodLink RX2 44 yX2_isClick ∈ BASE := bmT4 44 rfl rfl
set_option maxRecDepth 20000 in
theorem m_867 : Cond.static yX2_late ∈ BASE := bmT4 69 rfl rfl
set_option maxRecDepth 20000 in
theorem m_868 : Cond.code yX2_late cX2_late 2 (some .int) ∈ BASE := bmT4 70 rfl rfl
set_option maxRecDepth 20000 in
theorem m_874 : Cond.instanceMethod yX2_strength ∈ BASE := bmT4 76 rfl rfl
set_option maxRecDepth 20000 in
theorem m_875 : Cond.selects yX2_strength.cls yX2_strength yX2_strength ∈ BASE := bmT4 77 rfl rfl
set_option maxRecDepth 20000 in
theorem m_876 : Cond.code yX2_strength cX2_strength 8 (some .int) ∈ BASE := bmT4 78 rfl rfl
set_option maxRecDepth 20000 in
theorem m_877 : Cond.methodLink RX2 48 yX1_isGiven ∈ BASE := bmT4 79 rfl rfl
set_option maxRecDepth 20000 in
theorem m_878 : Cond.instanceMethod yX1_isGiven ∈ BASE := bmT4 80 rfl rfl
set_option maxRecDepth 20000 in
theorem m_879 : Cond.selects yX1_isGiven.cls yX1_isGiven yX1_isGiven ∈ BASE := bmT4 81 rfl rfl
set_option maxRecDepth 20000 in
theorem m_880 : Cond.code yX1_isGiven cX1_isGiven 1 (some .boolean) ∈ BASE := bmT4 82 rfl rfl
set_option maxRecDepth 20000 in
theorem m_881 : Cond.methodLink RX2 52 yX1_work ∈ BASE := bmT4 83 rfl rfl
set_option maxRecDepth 20000 in
theorem m_882 : Cond.instanceMethod yX1_work ∈ BASE := bmT4 84 rfl rfl
set_option maxRecDepth 20000 in
theorem m_883 : Cond.selects yX1_work.cls yX1_work yX1_work ∈ BASE := bmT4 85 rfl rfl
set_option maxRecDepth 20000 in
theorem m_884 : Cond.code yX1_work cX1_work 9 (some .int) ∈ BASE := bmT4 86 rfl rfl
set_option maxRecDepth 20000 in
theorem m_885 : Cond.methodLink RX2 56 Lib.Math.min.name ∈ BASE := bmT4 87 rfl rfl
set_option maxRecDepth 20000 in
theorem m_886 : Cond.methodLink RX2 62 Lib.Math.max.name ∈ BASE := bmT4 88 rfl rfl
set_option maxRecDepth 20000 in
theorem m_889 : Cond.instanceMethod yX2_isHeard ∈ BASE := bmT4 91 rfl rfl
set_option maxRecDepth 20000 in
theorem m_890 : Cond.selects yX2_isHeard.cls yX2_isHeard yX2_isHeard ∈ BASE := bmT4 92 rfl rfl
set_option maxRecDepth 20000 in
theorem m_891 : Cond.code yX2_isHeard cX2_isHeard 5 (some .boolean) ∈ BASE := bmT4 93 rfl rfl
set_option maxRecDepth 20000 in
theorem m_909 : Cond.instanceMethod yX2_hears ∈ BASE := bmT4 111 rfl rfl
set_option maxRecDepth 20000 in
theorem m_910 : Cond.selects yX2_hears.cls yX2_hears yX2_hears ∈ BASE := bmT4 112 rfl rfl
set_option maxRecDepth 20000 in
theorem m_911 : Cond.code yX2_hears cX2_hears 6 (some .boolean) ∈ BASE := bmT4 113 rfl rfl
set_option maxRecDepth 20000 in
theorem m_912 : Cond.methodLink RX2 65 yX2_late ∈ BASE := bmT4 114 rfl rfl
set_option maxRecDepth 20000 in
theorem m_913 : Cond.methodLink RX2 68 yX2_strength ∈ BASE := bmT4 115 rfl rfl
set_option maxRecDepth 20000 in
theorem m_914 : Cond.methodLink RX2 72 yX2_isHeard ∈ BASE := bmT4 116 rfl rfl
set_option maxRecDepth 20000 in
theorem m_956 : Cond.methodLink RX2 76 yX2_hears ∈ BASE := bmT4 158 rfl rfl
set_option maxRecDepth 20000 in
theorem m_1008 : Cond.constant "java/lang/Integer" 265 (1431655765) ∈ BASE := bmT4 210 rfl rfl
set_option maxRecDepth 20000 in
theorem m_1009 : Cond.constant "java/lang/Integer" 266 (858993459) ∈ BASE := bmT4 211 rfl rfl
set_option maxRecDepth 20000 in
theorem m_1010 : Cond.constant "java/lang/Integer" 267 (252645135) ∈ BASE := bmT4 212 rfl rfl
set_option maxRecDepth 20000 in
theorem m_1018 : Cond.constantLong "java/lang/Long" 314 (6148914691236517205) ∈ BASE := bmT4 220 rfl rfl
set_option maxRecDepth 20000 in
theorem m_1019 : Cond.constantLong "java/lang/Long" 316 (3689348814741910323) ∈ BASE := bmT4 221 rfl rfl
set_option maxRecDepth 20000 in
theorem m_1020 : Cond.constantLong "java/lang/Long" 318 (1085102592571150095) ∈ BASE := bmT4 222 rfl rfl
set_option maxRecDepth 20000 in
theorem m_1267 : Cond.methodLink RX2 80 arraycopyName ∈ BASE := bmT5 229 rfl rfl
set_option maxRecDepth 20000 in
theorem m_1268 : Cond.methodLink RX2 86 yX1_takeFrom ∈ BASE := bmT5 230 rfl rfl
set_option maxRecDepth 20000 in
theorem m_1273 : Cond.methodLink RX3 71 arraycopyName ∈ BASE := bmT5 235 rfl rfl
theorem kS_X2_isClick : KS yX2_isClick cX2_isClick 2 (some .boolean) 2 := ⟨m_654, m_82, m_655, nhM_5, nhV_5, pdn_7⟩
theorem kS_X2_late : KS yX2_late cX2_late 2 (some .int) 2 := ⟨m_867, m_82, m_868, nhM_5, nhV_5, pdn_8⟩
theorem kV_X1_isGiven : KV yX1_isGiven cX1_isGiven 1 (some .boolean) 0 := ⟨m_878, m_879, m_83, m_880, nhM_6, nhV_6, pdn_9⟩
theorem kV_X1_takeFrom : KV yX1_takeFrom cX1_takeFrom 2 none 1 := ⟨m_825, m_826, m_83, m_827, nhM_6, nhV_6, pdn_10⟩
theorem kV_X1_work : KV yX1_work cX1_work 9 (some .int) 1 := ⟨m_882, m_883, m_83, m_884, nhM_6, nhV_6, pdn_11⟩
theorem kV_X2_hears : KV yX2_hears cX2_hears 6 (some .boolean) 5 := ⟨m_909, m_910, m_82, m_911, nhM_5, nhV_5, pdn_12⟩
theorem kV_X2_isHeard : KV yX2_isHeard cX2_isHeard 5 (some .boolean) 4 := ⟨m_889, m_890, m_82, m_891, nhM_5, nhV_5, pdn_13⟩
theorem kV_X2_strength : KV yX2_strength cX2_strength 8 (some .int) 3 := ⟨m_874, m_875, m_82, m_876, nhM_5, nhV_5, pdn_3⟩
theorem inB2 : ∀ w ∈ u_ws RX2 TX2 7, w ∈ BASE := bmems (u_ws RX2 TX2 7) [178, 180, 182, 184, 186, 188, 190] (by decide +kernel) (by decide +kernel)
theorem inB3 : ∀ w ∈ u_ws RX3 TX3 9, w ∈ BASE := bmems (u_ws RX3 TX3 9) [230, 232, 234, 236, 238, 240, 242, 244, 246] (by decide +kernel) (by decide +kernel)
theorem fl_RX2_13 : FLK RX2 13 2 1 .int false := ⟨RX2, TX2, 7, tyX2, rfl, inB2, tyX2_ok, nmX2, by decide, rfl, rfl, Or.inl m_171⟩
theorem fl_RX2_16 : FLK RX2 16 2 2 .int false := ⟨RX2, TX2, 7, tyX2, rfl, inB2, tyX2_ok, nmX2, by decide, rfl, rfl, Or.inl m_172⟩
theorem fl_RX2_21 : FLK RX2 21 2 3 (.array .int) true := ⟨RX2, TX2, 7, tyX2, rfl, inB2, tyX2_ok, nmX2, by decide, rfl, rfl, Or.inl m_173⟩
theorem fl_RX2_25 : FLK RX2 25 2 4 (.array .int) true := ⟨RX2, TX2, 7, tyX2, rfl, inB2, tyX2_ok, nmX2, by decide, rfl, rfl, Or.inl m_174⟩
theorem fl_RX2_30 : FLK RX2 30 2 5 (.array (.object "ClickStreet$Formula")) true := ⟨RX2, TX2, 7, tyX2, rfl, inB2, tyX2_ok, nmX2, by decide, rfl, rfl, Or.inl m_175⟩
theorem fl_RX2_34 : FLK RX2 34 2 6 (.array .int) true := ⟨RX2, TX2, 7, tyX2, rfl, inB2, tyX2_ok, nmX2, by decide, rfl, rfl, Or.inl m_177⟩
theorem fl_RX2_7 : FLK RX2 7 2 0 .int false := ⟨RX2, TX2, 7, tyX2, rfl, inB2, tyX2_ok, nmX2, by decide, rfl, rfl, Or.inl m_170⟩
theorem fl_RX3_13 : FLK RX3 13 3 1 (.array .int) true := ⟨RX3, TX3, 9, tyX3, rfl, inB3, tyX3_ok, nmX3, by decide, rfl, rfl, Or.inl m_219⟩
theorem fl_RX3_16 : FLK RX3 16 3 2 (.array .int) true := ⟨RX3, TX3, 9, tyX3, rfl, inB3, tyX3_ok, nmX3, by decide, rfl, rfl, Or.inl m_220⟩
theorem fl_RX3_19 : FLK RX3 19 3 3 .int false := ⟨RX3, TX3, 9, tyX3, rfl, inB3, tyX3_ok, nmX3, by decide, rfl, rfl, Or.inl m_221⟩
theorem fl_RX3_28 : FLK RX3 28 3 4 (.object "ClickStreet$Row") true := ⟨RX3, TX3, 9, tyX3, rfl, inB3, tyX3_ok, nmX3, by decide, rfl, rfl, Or.inl m_223⟩
theorem fl_RX3_32 : FLK RX3 32 3 5 (.object "ClickStreet$Row") true := ⟨RX3, TX3, 9, tyX3, rfl, inB3, tyX3_ok, nmX3, by decide, rfl, rfl, Or.inl m_224⟩
theorem fl_RX3_38 : FLK RX3 38 3 7 .int false := ⟨RX3, TX3, 9, tyX3, rfl, inB3, tyX3_ok, nmX3, by decide, rfl, rfl, Or.inl m_227⟩
theorem fl_RX3_70 : FLK RX3 70 5 1 .int false := ⟨RX5, TX5, 2, tyX5, rfl, inB5, tyX5_ok, nmX5, by decide, rfl, rfl, Or.inr ⟨"ClickStreet", List.mem_of_getElem? (l := NFs) (i := 8) rfl⟩⟩
theorem fl_RX3_9 : FLK RX3 9 3 0 (.array .int) true := ⟨RX3, TX3, 9, tyX3, rfl, inB3, tyX3_ok, nmX3, by decide, rfl, rfl, Or.inl m_218⟩
theorem ch_cJI_bitCount_0 : (cJI_bitCount.data.toList.drop 0).take 36 = [26, 26, 4, 124, 19, 1, 9, 126, 100, 59, 26, 19, 1, 10, 126, 26, 5, 124, 19, 1, 10, 126, 96, 59, 26, 26, 7, 124, 96, 19, 1, 11, 126, 59, 26, 26] := by decide +kernel
theorem dJI_bitCount_0 : decode cJI_bitCount 0 = .ok (.iload_n 0, 1) := do_26 (rdb (p := 0) (i := 0) ch_cJI_bitCount_0 rfl)
theorem dJI_bitCount_1 : decode cJI_bitCount 1 = .ok (.iload_n 0, 1) := do_26 (rdb (p := 0) (i := 1) ch_cJI_bitCount_0 rfl)
theorem dJI_bitCount_2 : decode cJI_bitCount 2 = .ok (.iconst 1, 1) := do_4 (rdb (p := 0) (i := 2) ch_cJI_bitCount_0 rfl)
theorem dJI_bitCount_3 : decode cJI_bitCount 3 = .ok (.iushr, 1) := by decide +kernel
theorem dJI_bitCount_4 : decode cJI_bitCount 4 = .ok (.ldc_w 265, 3) := do_19 (rdb (p := 0) (i := 4) ch_cJI_bitCount_0 rfl) (rdb (p := 0) (i := 5) ch_cJI_bitCount_0 rfl) (rdb (p := 0) (i := 6) ch_cJI_bitCount_0 rfl) rfl
theorem dJI_bitCount_7 : decode cJI_bitCount 7 = .ok (.iand, 1) := do_126 (rdb (p := 0) (i := 7) ch_cJI_bitCount_0 rfl)
theorem dJI_bitCount_8 : decode cJI_bitCount 8 = .ok (.isub, 1) := do_100 (rdb (p := 0) (i := 8) ch_cJI_bitCount_0 rfl)
theorem dJI_bitCount_9 : decode cJI_bitCount 9 = .ok (.istore_n 0, 1) := by decide +kernel
theorem dJI_bitCount_10 : decode cJI_bitCount 10 = .ok (.iload_n 0, 1) := do_26 (rdb (p := 0) (i := 10) ch_cJI_bitCount_0 rfl)
theorem dJI_bitCount_11 : decode cJI_bitCount 11 = .ok (.ldc_w 266, 3) := do_19 (rdb (p := 0) (i := 11) ch_cJI_bitCount_0 rfl) (rdb (p := 0) (i := 12) ch_cJI_bitCount_0 rfl) (rdb (p := 0) (i := 13) ch_cJI_bitCount_0 rfl) rfl
theorem dJI_bitCount_14 : decode cJI_bitCount 14 = .ok (.iand, 1) := do_126 (rdb (p := 0) (i := 14) ch_cJI_bitCount_0 rfl)
theorem dJI_bitCount_15 : decode cJI_bitCount 15 = .ok (.iload_n 0, 1) := do_26 (rdb (p := 0) (i := 15) ch_cJI_bitCount_0 rfl)
theorem dJI_bitCount_16 : decode cJI_bitCount 16 = .ok (.iconst 2, 1) := do_5 (rdb (p := 0) (i := 16) ch_cJI_bitCount_0 rfl)
theorem dJI_bitCount_17 : decode cJI_bitCount 17 = .ok (.iushr, 1) := by decide +kernel
theorem dJI_bitCount_18 : decode cJI_bitCount 18 = .ok (.ldc_w 266, 3) := do_19 (rdb (p := 0) (i := 18) ch_cJI_bitCount_0 rfl) (rdb (p := 0) (i := 19) ch_cJI_bitCount_0 rfl) (rdb (p := 0) (i := 20) ch_cJI_bitCount_0 rfl) rfl
theorem dJI_bitCount_21 : decode cJI_bitCount 21 = .ok (.iand, 1) := do_126 (rdb (p := 0) (i := 21) ch_cJI_bitCount_0 rfl)
theorem dJI_bitCount_22 : decode cJI_bitCount 22 = .ok (.iadd, 1) := do_96 (rdb (p := 0) (i := 22) ch_cJI_bitCount_0 rfl)
theorem dJI_bitCount_23 : decode cJI_bitCount 23 = .ok (.istore_n 0, 1) := by decide +kernel
theorem dJI_bitCount_24 : decode cJI_bitCount 24 = .ok (.iload_n 0, 1) := do_26 (rdb (p := 0) (i := 24) ch_cJI_bitCount_0 rfl)
theorem dJI_bitCount_25 : decode cJI_bitCount 25 = .ok (.iload_n 0, 1) := do_26 (rdb (p := 0) (i := 25) ch_cJI_bitCount_0 rfl)
theorem dJI_bitCount_26 : decode cJI_bitCount 26 = .ok (.iconst 4, 1) := do_7 (rdb (p := 0) (i := 26) ch_cJI_bitCount_0 rfl)
theorem dJI_bitCount_27 : decode cJI_bitCount 27 = .ok (.iushr, 1) := by decide +kernel
theorem dJI_bitCount_28 : decode cJI_bitCount 28 = .ok (.iadd, 1) := do_96 (rdb (p := 0) (i := 28) ch_cJI_bitCount_0 rfl)
theorem dJI_bitCount_29 : decode cJI_bitCount 29 = .ok (.ldc_w 267, 3) := do_19 (rdb (p := 0) (i := 29) ch_cJI_bitCount_0 rfl) (rdb (p := 0) (i := 30) ch_cJI_bitCount_0 rfl) (rdb (p := 0) (i := 31) ch_cJI_bitCount_0 rfl) rfl
theorem ch_cJI_bitCount_32 : (cJI_bitCount.data.toList.drop 32).take 36 = [126, 59, 26, 26, 16, 8, 124, 96, 59, 26, 26, 16, 16, 124, 96, 59, 26, 16, 63, 126, 172] := by decide +kernel
theorem dJI_bitCount_32 : decode cJI_bitCount 32 = .ok (.iand, 1) := do_126 (rdb (p := 32) (i := 0) ch_cJI_bitCount_32 rfl)
theorem dJI_bitCount_33 : decode cJI_bitCount 33 = .ok (.istore_n 0, 1) := by decide +kernel
theorem dJI_bitCount_34 : decode cJI_bitCount 34 = .ok (.iload_n 0, 1) := do_26 (rdb (p := 32) (i := 2) ch_cJI_bitCount_32 rfl)
theorem dJI_bitCount_35 : decode cJI_bitCount 35 = .ok (.iload_n 0, 1) := do_26 (rdb (p := 32) (i := 3) ch_cJI_bitCount_32 rfl)
theorem dJI_bitCount_36 : decode cJI_bitCount 36 = .ok (.bipush 8, 2) := do_16 (rdb (p := 32) (i := 4) ch_cJI_bitCount_32 rfl) (rdb (p := 32) (i := 5) ch_cJI_bitCount_32 rfl) (by decide +kernel)
theorem dJI_bitCount_38 : decode cJI_bitCount 38 = .ok (.iushr, 1) := by decide +kernel
theorem dJI_bitCount_39 : decode cJI_bitCount 39 = .ok (.iadd, 1) := do_96 (rdb (p := 32) (i := 7) ch_cJI_bitCount_32 rfl)
theorem dJI_bitCount_40 : decode cJI_bitCount 40 = .ok (.istore_n 0, 1) := by decide +kernel
theorem dJI_bitCount_41 : decode cJI_bitCount 41 = .ok (.iload_n 0, 1) := do_26 (rdb (p := 32) (i := 9) ch_cJI_bitCount_32 rfl)
theorem dJI_bitCount_42 : decode cJI_bitCount 42 = .ok (.iload_n 0, 1) := do_26 (rdb (p := 32) (i := 10) ch_cJI_bitCount_32 rfl)
theorem dJI_bitCount_43 : decode cJI_bitCount 43 = .ok (.bipush 16, 2) := do_16 (rdb (p := 32) (i := 11) ch_cJI_bitCount_32 rfl) (rdb (p := 32) (i := 12) ch_cJI_bitCount_32 rfl) (by decide +kernel)
theorem dJI_bitCount_45 : decode cJI_bitCount 45 = .ok (.iushr, 1) := by decide +kernel
theorem dJI_bitCount_46 : decode cJI_bitCount 46 = .ok (.iadd, 1) := do_96 (rdb (p := 32) (i := 14) ch_cJI_bitCount_32 rfl)
theorem dJI_bitCount_47 : decode cJI_bitCount 47 = .ok (.istore_n 0, 1) := by decide +kernel
theorem dJI_bitCount_48 : decode cJI_bitCount 48 = .ok (.iload_n 0, 1) := do_26 (rdb (p := 32) (i := 16) ch_cJI_bitCount_32 rfl)
theorem dJI_bitCount_49 : decode cJI_bitCount 49 = .ok (.bipush 63, 2) := do_16 (rdb (p := 32) (i := 17) ch_cJI_bitCount_32 rfl) (rdb (p := 32) (i := 18) ch_cJI_bitCount_32 rfl) (by decide +kernel)
theorem dJI_bitCount_51 : decode cJI_bitCount 51 = .ok (.iand, 1) := do_126 (rdb (p := 32) (i := 19) ch_cJI_bitCount_32 rfl)
theorem dJI_bitCount_52 : decode cJI_bitCount 52 = .ok (.ireturn, 1) := do_172 (rdb (p := 32) (i := 20) ch_cJI_bitCount_32 rfl)
theorem dJL_bitCount_0 : decode cJL_bitCount 0 = .ok (.lload_n 0, 1) := by decide +kernel
theorem dJL_bitCount_1 : decode cJL_bitCount 1 = .ok (.lload_n 0, 1) := by decide +kernel
theorem ch_cJL_bitCount_0 : (cJL_bitCount.data.toList.drop 0).take 36 = [30, 30, 4, 125, 20, 1, 58, 127, 101, 63, 30, 20, 1, 60, 127, 30, 5, 125, 20, 1, 60, 127, 97, 63, 30, 30, 7, 125, 97, 20, 1, 62, 127, 63, 30, 30] := by decide +kernel
theorem dJL_bitCount_2 : decode cJL_bitCount 2 = .ok (.iconst 1, 1) := do_4 (rdb (p := 0) (i := 2) ch_cJL_bitCount_0 rfl)
theorem dJL_bitCount_3 : decode cJL_bitCount 3 = .ok (.lushr, 1) := do_125 (rdb (p := 0) (i := 3) ch_cJL_bitCount_0 rfl)
theorem dJL_bitCount_4 : decode cJL_bitCount 4 = .ok (.ldc2_w 314, 3) := do_20 (rdb (p := 0) (i := 4) ch_cJL_bitCount_0 rfl) (rdb (p := 0) (i := 5) ch_cJL_bitCount_0 rfl) (rdb (p := 0) (i := 6) ch_cJL_bitCount_0 rfl) rfl
theorem dJL_bitCount_7 : decode cJL_bitCount 7 = .ok (.land, 1) := do_127 (rdb (p := 0) (i := 7) ch_cJL_bitCount_0 rfl)
theorem dJL_bitCount_8 : decode cJL_bitCount 8 = .ok (.lsub, 1) := by decide +kernel
theorem dJL_bitCount_9 : decode cJL_bitCount 9 = .ok (.lstore_n 0, 1) := by decide +kernel
theorem dJL_bitCount_10 : decode cJL_bitCount 10 = .ok (.lload_n 0, 1) := by decide +kernel
theorem dJL_bitCount_11 : decode cJL_bitCount 11 = .ok (.ldc2_w 316, 3) := do_20 (rdb (p := 0) (i := 11) ch_cJL_bitCount_0 rfl) (rdb (p := 0) (i := 12) ch_cJL_bitCount_0 rfl) (rdb (p := 0) (i := 13) ch_cJL_bitCount_0 rfl) rfl
theorem dJL_bitCount_14 : decode cJL_bitCount 14 = .ok (.land, 1) := do_127 (rdb (p := 0) (i := 14) ch_cJL_bitCount_0 rfl)
theorem dJL_bitCount_15 : decode cJL_bitCount 15 = .ok (.lload_n 0, 1) := by decide +kernel
theorem dJL_bitCount_16 : decode cJL_bitCount 16 = .ok (.iconst 2, 1) := do_5 (rdb (p := 0) (i := 16) ch_cJL_bitCount_0 rfl)
theorem dJL_bitCount_17 : decode cJL_bitCount 17 = .ok (.lushr, 1) := do_125 (rdb (p := 0) (i := 17) ch_cJL_bitCount_0 rfl)
theorem dJL_bitCount_18 : decode cJL_bitCount 18 = .ok (.ldc2_w 316, 3) := do_20 (rdb (p := 0) (i := 18) ch_cJL_bitCount_0 rfl) (rdb (p := 0) (i := 19) ch_cJL_bitCount_0 rfl) (rdb (p := 0) (i := 20) ch_cJL_bitCount_0 rfl) rfl
theorem dJL_bitCount_21 : decode cJL_bitCount 21 = .ok (.land, 1) := do_127 (rdb (p := 0) (i := 21) ch_cJL_bitCount_0 rfl)
theorem dJL_bitCount_22 : decode cJL_bitCount 22 = .ok (.ladd, 1) := do_97 (rdb (p := 0) (i := 22) ch_cJL_bitCount_0 rfl)
theorem dJL_bitCount_23 : decode cJL_bitCount 23 = .ok (.lstore_n 0, 1) := by decide +kernel
theorem dJL_bitCount_24 : decode cJL_bitCount 24 = .ok (.lload_n 0, 1) := by decide +kernel
theorem dJL_bitCount_25 : decode cJL_bitCount 25 = .ok (.lload_n 0, 1) := by decide +kernel
theorem dJL_bitCount_26 : decode cJL_bitCount 26 = .ok (.iconst 4, 1) := do_7 (rdb (p := 0) (i := 26) ch_cJL_bitCount_0 rfl)
theorem dJL_bitCount_27 : decode cJL_bitCount 27 = .ok (.lushr, 1) := do_125 (rdb (p := 0) (i := 27) ch_cJL_bitCount_0 rfl)
theorem dJL_bitCount_28 : decode cJL_bitCount 28 = .ok (.ladd, 1) := do_97 (rdb (p := 0) (i := 28) ch_cJL_bitCount_0 rfl)
theorem dJL_bitCount_29 : decode cJL_bitCount 29 = .ok (.ldc2_w 318, 3) := do_20 (rdb (p := 0) (i := 29) ch_cJL_bitCount_0 rfl) (rdb (p := 0) (i := 30) ch_cJL_bitCount_0 rfl) (rdb (p := 0) (i := 31) ch_cJL_bitCount_0 rfl) rfl
theorem ch_cJL_bitCount_32 : (cJL_bitCount.data.toList.drop 32).take 36 = [127, 63, 30, 30, 16, 8, 125, 97, 63, 30, 30, 16, 16, 125, 97, 63, 30, 30, 16, 32, 125, 97, 63, 30, 136, 16, 127, 126, 172] := by decide +kernel
theorem dJL_bitCount_32 : decode cJL_bitCount 32 = .ok (.land, 1) := do_127 (rdb (p := 32) (i := 0) ch_cJL_bitCount_32 rfl)
theorem dJL_bitCount_33 : decode cJL_bitCount 33 = .ok (.lstore_n 0, 1) := by decide +kernel
theorem dJL_bitCount_34 : decode cJL_bitCount 34 = .ok (.lload_n 0, 1) := by decide +kernel
theorem dJL_bitCount_35 : decode cJL_bitCount 35 = .ok (.lload_n 0, 1) := by decide +kernel
theorem dJL_bitCount_36 : decode cJL_bitCount 36 = .ok (.bipush 8, 2) := do_16 (rdb (p := 32) (i := 4) ch_cJL_bitCount_32 rfl) (rdb (p := 32) (i := 5) ch_cJL_bitCount_32 rfl) (by decide +kernel)
theorem dJL_bitCount_38 : decode cJL_bitCount 38 = .ok (.lushr, 1) := do_125 (rdb (p := 32) (i := 6) ch_cJL_bitCount_32 rfl)
theorem dJL_bitCount_39 : decode cJL_bitCount 39 = .ok (.ladd, 1) := do_97 (rdb (p := 32) (i := 7) ch_cJL_bitCount_32 rfl)
theorem dJL_bitCount_40 : decode cJL_bitCount 40 = .ok (.lstore_n 0, 1) := by decide +kernel
theorem dJL_bitCount_41 : decode cJL_bitCount 41 = .ok (.lload_n 0, 1) := by decide +kernel
theorem dJL_bitCount_42 : decode cJL_bitCount 42 = .ok (.lload_n 0, 1) := by decide +kernel
theorem dJL_bitCount_43 : decode cJL_bitCount 43 = .ok (.bipush 16, 2) := do_16 (rdb (p := 32) (i := 11) ch_cJL_bitCount_32 rfl) (rdb (p := 32) (i := 12) ch_cJL_bitCount_32 rfl) (by decide +kernel)
theorem dJL_bitCount_45 : decode cJL_bitCount 45 = .ok (.lushr, 1) := do_125 (rdb (p := 32) (i := 13) ch_cJL_bitCount_32 rfl)
theorem dJL_bitCount_46 : decode cJL_bitCount 46 = .ok (.ladd, 1) := do_97 (rdb (p := 32) (i := 14) ch_cJL_bitCount_32 rfl)
theorem dJL_bitCount_47 : decode cJL_bitCount 47 = .ok (.lstore_n 0, 1) := by decide +kernel
theorem dJL_bitCount_48 : decode cJL_bitCount 48 = .ok (.lload_n 0, 1) := by decide +kernel
theorem dJL_bitCount_49 : decode cJL_bitCount 49 = .ok (.lload_n 0, 1) := by decide +kernel
theorem dJL_bitCount_50 : decode cJL_bitCount 50 = .ok (.bipush 32, 2) := do_16 (rdb (p := 32) (i := 18) ch_cJL_bitCount_32 rfl) (rdb (p := 32) (i := 19) ch_cJL_bitCount_32 rfl) (by decide +kernel)
theorem dJL_bitCount_52 : decode cJL_bitCount 52 = .ok (.lushr, 1) := do_125 (rdb (p := 32) (i := 20) ch_cJL_bitCount_32 rfl)
theorem dJL_bitCount_53 : decode cJL_bitCount 53 = .ok (.ladd, 1) := do_97 (rdb (p := 32) (i := 21) ch_cJL_bitCount_32 rfl)
theorem dJL_bitCount_54 : decode cJL_bitCount 54 = .ok (.lstore_n 0, 1) := by decide +kernel
theorem dJL_bitCount_55 : decode cJL_bitCount 55 = .ok (.lload_n 0, 1) := by decide +kernel
theorem dJL_bitCount_56 : decode cJL_bitCount 56 = .ok (.l2i, 1) := do_136 (rdb (p := 32) (i := 24) ch_cJL_bitCount_32 rfl)
theorem dJL_bitCount_57 : decode cJL_bitCount 57 = .ok (.bipush 127, 2) := do_16 (rdb (p := 32) (i := 25) ch_cJL_bitCount_32 rfl) (rdb (p := 32) (i := 26) ch_cJL_bitCount_32 rfl) (by decide +kernel)
theorem dJL_bitCount_59 : decode cJL_bitCount 59 = .ok (.iand, 1) := do_126 (rdb (p := 32) (i := 27) ch_cJL_bitCount_32 rfl)
theorem dJL_bitCount_60 : decode cJL_bitCount 60 = .ok (.ireturn, 1) := do_172 (rdb (p := 32) (i := 28) ch_cJL_bitCount_32 rfl)
theorem ch_cX2_changeAir_0 : (cX2_changeAir.data.toList.drop 0).take 36 = [27, 154, 0, 10, 42, 180, 0, 7, 167, 0, 19, 27, 4, 160, 0, 10, 42, 180, 0, 13, 167, 0, 7, 42, 180, 0, 16, 62, 27, 154, 0, 11, 42, 28, 181, 0] := by decide +kernel
theorem dX2_changeAir_0 : decode cX2_changeAir 0 = .ok (.iload_n 1, 1) := do_27 (rdb (p := 0) (i := 0) ch_cX2_changeAir_0 rfl)
theorem dX2_changeAir_1 : decode cX2_changeAir 1 = .ok (.ifCond .ne 10, 3) := do_154 (rdb (p := 0) (i := 1) ch_cX2_changeAir_0 rfl) (rdb (p := 0) (i := 2) ch_cX2_changeAir_0 rfl) (rdb (p := 0) (i := 3) ch_cX2_changeAir_0 rfl) (by decide +kernel)
theorem dX2_changeAir_4 : decode cX2_changeAir 4 = .ok (.aload_n 0, 1) := do_42 (rdb (p := 0) (i := 4) ch_cX2_changeAir_0 rfl)
theorem dX2_changeAir_5 : decode cX2_changeAir 5 = .ok (.getfield 7, 3) := do_180 (rdb (p := 0) (i := 5) ch_cX2_changeAir_0 rfl) (rdb (p := 0) (i := 6) ch_cX2_changeAir_0 rfl) (rdb (p := 0) (i := 7) ch_cX2_changeAir_0 rfl) rfl
theorem dX2_changeAir_8 : decode cX2_changeAir 8 = .ok (.goto 19, 3) := do_167 (rdb (p := 0) (i := 8) ch_cX2_changeAir_0 rfl) (rdb (p := 0) (i := 9) ch_cX2_changeAir_0 rfl) (rdb (p := 0) (i := 10) ch_cX2_changeAir_0 rfl) (by decide +kernel)
theorem dX2_changeAir_11 : decode cX2_changeAir 11 = .ok (.iload_n 1, 1) := do_27 (rdb (p := 0) (i := 11) ch_cX2_changeAir_0 rfl)
theorem dX2_changeAir_12 : decode cX2_changeAir 12 = .ok (.iconst 1, 1) := do_4 (rdb (p := 0) (i := 12) ch_cX2_changeAir_0 rfl)
theorem dX2_changeAir_13 : decode cX2_changeAir 13 = .ok (.if_icmp .ne 10, 3) := do_160 (rdb (p := 0) (i := 13) ch_cX2_changeAir_0 rfl) (rdb (p := 0) (i := 14) ch_cX2_changeAir_0 rfl) (rdb (p := 0) (i := 15) ch_cX2_changeAir_0 rfl) (by decide +kernel)
theorem dX2_changeAir_16 : decode cX2_changeAir 16 = .ok (.aload_n 0, 1) := do_42 (rdb (p := 0) (i := 16) ch_cX2_changeAir_0 rfl)
theorem dX2_changeAir_17 : decode cX2_changeAir 17 = .ok (.getfield 13, 3) := do_180 (rdb (p := 0) (i := 17) ch_cX2_changeAir_0 rfl) (rdb (p := 0) (i := 18) ch_cX2_changeAir_0 rfl) (rdb (p := 0) (i := 19) ch_cX2_changeAir_0 rfl) rfl
theorem dX2_changeAir_20 : decode cX2_changeAir 20 = .ok (.goto 7, 3) := do_167 (rdb (p := 0) (i := 20) ch_cX2_changeAir_0 rfl) (rdb (p := 0) (i := 21) ch_cX2_changeAir_0 rfl) (rdb (p := 0) (i := 22) ch_cX2_changeAir_0 rfl) (by decide +kernel)
theorem dX2_changeAir_23 : decode cX2_changeAir 23 = .ok (.aload_n 0, 1) := do_42 (rdb (p := 0) (i := 23) ch_cX2_changeAir_0 rfl)
theorem dX2_changeAir_24 : decode cX2_changeAir 24 = .ok (.getfield 16, 3) := do_180 (rdb (p := 0) (i := 24) ch_cX2_changeAir_0 rfl) (rdb (p := 0) (i := 25) ch_cX2_changeAir_0 rfl) (rdb (p := 0) (i := 26) ch_cX2_changeAir_0 rfl) rfl
theorem dX2_changeAir_27 : decode cX2_changeAir 27 = .ok (.istore_n 3, 1) := do_62 (rdb (p := 0) (i := 27) ch_cX2_changeAir_0 rfl)
theorem dX2_changeAir_28 : decode cX2_changeAir 28 = .ok (.iload_n 1, 1) := do_27 (rdb (p := 0) (i := 28) ch_cX2_changeAir_0 rfl)
theorem dX2_changeAir_29 : decode cX2_changeAir 29 = .ok (.ifCond .ne 11, 3) := do_154 (rdb (p := 0) (i := 29) ch_cX2_changeAir_0 rfl) (rdb (p := 0) (i := 30) ch_cX2_changeAir_0 rfl) (rdb (p := 0) (i := 31) ch_cX2_changeAir_0 rfl) (by decide +kernel)
theorem ch_cX2_changeAir_32 : (cX2_changeAir.data.toList.drop 32).take 36 = [42, 28, 181, 0, 7, 167, 0, 21, 27, 4, 160, 0, 11, 42, 28, 181, 0, 13, 167, 0, 8, 42, 28, 181, 0, 16, 29, 172] := by decide +kernel
theorem dX2_changeAir_32 : decode cX2_changeAir 32 = .ok (.aload_n 0, 1) := do_42 (rdb (p := 32) (i := 0) ch_cX2_changeAir_32 rfl)
theorem dX2_changeAir_33 : decode cX2_changeAir 33 = .ok (.iload_n 2, 1) := do_28 (rdb (p := 32) (i := 1) ch_cX2_changeAir_32 rfl)
theorem dX2_changeAir_34 : decode cX2_changeAir 34 = .ok (.putfield 7, 3) := do_181 (rdb (p := 32) (i := 2) ch_cX2_changeAir_32 rfl) (rdb (p := 32) (i := 3) ch_cX2_changeAir_32 rfl) (rdb (p := 32) (i := 4) ch_cX2_changeAir_32 rfl) rfl
theorem dX2_changeAir_37 : decode cX2_changeAir 37 = .ok (.goto 21, 3) := do_167 (rdb (p := 32) (i := 5) ch_cX2_changeAir_32 rfl) (rdb (p := 32) (i := 6) ch_cX2_changeAir_32 rfl) (rdb (p := 32) (i := 7) ch_cX2_changeAir_32 rfl) (by decide +kernel)
theorem dX2_changeAir_40 : decode cX2_changeAir 40 = .ok (.iload_n 1, 1) := do_27 (rdb (p := 32) (i := 8) ch_cX2_changeAir_32 rfl)
theorem dX2_changeAir_41 : decode cX2_changeAir 41 = .ok (.iconst 1, 1) := do_4 (rdb (p := 32) (i := 9) ch_cX2_changeAir_32 rfl)
theorem dX2_changeAir_42 : decode cX2_changeAir 42 = .ok (.if_icmp .ne 11, 3) := do_160 (rdb (p := 32) (i := 10) ch_cX2_changeAir_32 rfl) (rdb (p := 32) (i := 11) ch_cX2_changeAir_32 rfl) (rdb (p := 32) (i := 12) ch_cX2_changeAir_32 rfl) (by decide +kernel)
theorem dX2_changeAir_45 : decode cX2_changeAir 45 = .ok (.aload_n 0, 1) := do_42 (rdb (p := 32) (i := 13) ch_cX2_changeAir_32 rfl)
theorem dX2_changeAir_46 : decode cX2_changeAir 46 = .ok (.iload_n 2, 1) := do_28 (rdb (p := 32) (i := 14) ch_cX2_changeAir_32 rfl)
theorem dX2_changeAir_47 : decode cX2_changeAir 47 = .ok (.putfield 13, 3) := do_181 (rdb (p := 32) (i := 15) ch_cX2_changeAir_32 rfl) (rdb (p := 32) (i := 16) ch_cX2_changeAir_32 rfl) (rdb (p := 32) (i := 17) ch_cX2_changeAir_32 rfl) rfl
theorem dX2_changeAir_50 : decode cX2_changeAir 50 = .ok (.goto 8, 3) := do_167 (rdb (p := 32) (i := 18) ch_cX2_changeAir_32 rfl) (rdb (p := 32) (i := 19) ch_cX2_changeAir_32 rfl) (rdb (p := 32) (i := 20) ch_cX2_changeAir_32 rfl) (by decide +kernel)
theorem dX2_changeAir_53 : decode cX2_changeAir 53 = .ok (.aload_n 0, 1) := do_42 (rdb (p := 32) (i := 21) ch_cX2_changeAir_32 rfl)
theorem dX2_changeAir_54 : decode cX2_changeAir 54 = .ok (.iload_n 2, 1) := do_28 (rdb (p := 32) (i := 22) ch_cX2_changeAir_32 rfl)
theorem dX2_changeAir_55 : decode cX2_changeAir 55 = .ok (.putfield 16, 3) := do_181 (rdb (p := 32) (i := 23) ch_cX2_changeAir_32 rfl) (rdb (p := 32) (i := 24) ch_cX2_changeAir_32 rfl) (rdb (p := 32) (i := 25) ch_cX2_changeAir_32 rfl) rfl
theorem dX2_changeAir_58 : decode cX2_changeAir 58 = .ok (.iload_n 3, 1) := do_29 (rdb (p := 32) (i := 26) ch_cX2_changeAir_32 rfl)
theorem dX2_changeAir_59 : decode cX2_changeAir 59 = .ok (.ireturn, 1) := do_172 (rdb (p := 32) (i := 27) ch_cX2_changeAir_32 rfl)
theorem ch_cX2_changeKind_0 : (cX2_changeKind.data.toList.drop 0).take 36 = [28, 154, 0, 10, 42, 180, 0, 21, 167, 0, 7, 42, 180, 0, 25, 58, 4, 27, 155, 0, 10, 27, 25, 4, 190, 161, 0, 5, 3, 172, 25, 4, 27, 46, 54, 5] := by decide +kernel
theorem dX2_changeKind_0 : decode cX2_changeKind 0 = .ok (.iload_n 2, 1) := do_28 (rdb (p := 0) (i := 0) ch_cX2_changeKind_0 rfl)
theorem dX2_changeKind_1 : decode cX2_changeKind 1 = .ok (.ifCond .ne 10, 3) := do_154 (rdb (p := 0) (i := 1) ch_cX2_changeKind_0 rfl) (rdb (p := 0) (i := 2) ch_cX2_changeKind_0 rfl) (rdb (p := 0) (i := 3) ch_cX2_changeKind_0 rfl) (by decide +kernel)
theorem dX2_changeKind_4 : decode cX2_changeKind 4 = .ok (.aload_n 0, 1) := do_42 (rdb (p := 0) (i := 4) ch_cX2_changeKind_0 rfl)
theorem dX2_changeKind_5 : decode cX2_changeKind 5 = .ok (.getfield 21, 3) := do_180 (rdb (p := 0) (i := 5) ch_cX2_changeKind_0 rfl) (rdb (p := 0) (i := 6) ch_cX2_changeKind_0 rfl) (rdb (p := 0) (i := 7) ch_cX2_changeKind_0 rfl) rfl
theorem dX2_changeKind_8 : decode cX2_changeKind 8 = .ok (.goto 7, 3) := do_167 (rdb (p := 0) (i := 8) ch_cX2_changeKind_0 rfl) (rdb (p := 0) (i := 9) ch_cX2_changeKind_0 rfl) (rdb (p := 0) (i := 10) ch_cX2_changeKind_0 rfl) (by decide +kernel)
theorem dX2_changeKind_11 : decode cX2_changeKind 11 = .ok (.aload_n 0, 1) := do_42 (rdb (p := 0) (i := 11) ch_cX2_changeKind_0 rfl)
theorem dX2_changeKind_12 : decode cX2_changeKind 12 = .ok (.getfield 25, 3) := do_180 (rdb (p := 0) (i := 12) ch_cX2_changeKind_0 rfl) (rdb (p := 0) (i := 13) ch_cX2_changeKind_0 rfl) (rdb (p := 0) (i := 14) ch_cX2_changeKind_0 rfl) rfl
theorem dX2_changeKind_15 : decode cX2_changeKind 15 = .ok (.astore 4, 2) := do_58 (rdb (p := 0) (i := 15) ch_cX2_changeKind_0 rfl) (rdb (p := 0) (i := 16) ch_cX2_changeKind_0 rfl)
theorem dX2_changeKind_17 : decode cX2_changeKind 17 = .ok (.iload_n 1, 1) := do_27 (rdb (p := 0) (i := 17) ch_cX2_changeKind_0 rfl)
theorem dX2_changeKind_18 : decode cX2_changeKind 18 = .ok (.ifCond .lt 10, 3) := do_155 (rdb (p := 0) (i := 18) ch_cX2_changeKind_0 rfl) (rdb (p := 0) (i := 19) ch_cX2_changeKind_0 rfl) (rdb (p := 0) (i := 20) ch_cX2_changeKind_0 rfl) (by decide +kernel)
theorem dX2_changeKind_21 : decode cX2_changeKind 21 = .ok (.iload_n 1, 1) := do_27 (rdb (p := 0) (i := 21) ch_cX2_changeKind_0 rfl)
theorem dX2_changeKind_22 : decode cX2_changeKind 22 = .ok (.aload 4, 2) := do_25 (rdb (p := 0) (i := 22) ch_cX2_changeKind_0 rfl) (rdb (p := 0) (i := 23) ch_cX2_changeKind_0 rfl)
theorem dX2_changeKind_24 : decode cX2_changeKind 24 = .ok (.arraylength, 1) := do_190 (rdb (p := 0) (i := 24) ch_cX2_changeKind_0 rfl)
theorem dX2_changeKind_25 : decode cX2_changeKind 25 = .ok (.if_icmp .lt 5, 3) := do_161 (rdb (p := 0) (i := 25) ch_cX2_changeKind_0 rfl) (rdb (p := 0) (i := 26) ch_cX2_changeKind_0 rfl) (rdb (p := 0) (i := 27) ch_cX2_changeKind_0 rfl) (by decide +kernel)
theorem dX2_changeKind_28 : decode cX2_changeKind 28 = .ok (.iconst 0, 1) := do_3 (rdb (p := 0) (i := 28) ch_cX2_changeKind_0 rfl)
theorem dX2_changeKind_29 : decode cX2_changeKind 29 = .ok (.ireturn, 1) := do_172 (rdb (p := 0) (i := 29) ch_cX2_changeKind_0 rfl)
theorem dX2_changeKind_30 : decode cX2_changeKind 30 = .ok (.aload 4, 2) := do_25 (rdb (p := 0) (i := 30) ch_cX2_changeKind_0 rfl) (rdb (p := 0) (i := 31) ch_cX2_changeKind_0 rfl)
theorem ch_cX2_changeKind_32 : (cX2_changeKind.data.toList.drop 32).take 36 = [27, 46, 54, 5, 25, 4, 27, 29, 79, 21, 5, 172] := by decide +kernel
theorem dX2_changeKind_32 : decode cX2_changeKind 32 = .ok (.iload_n 1, 1) := do_27 (rdb (p := 32) (i := 0) ch_cX2_changeKind_32 rfl)
theorem dX2_changeKind_33 : decode cX2_changeKind 33 = .ok (.iaload, 1) := do_46 (rdb (p := 32) (i := 1) ch_cX2_changeKind_32 rfl)
theorem dX2_changeKind_34 : decode cX2_changeKind 34 = .ok (.istore 5, 2) := do_54 (rdb (p := 32) (i := 2) ch_cX2_changeKind_32 rfl) (rdb (p := 32) (i := 3) ch_cX2_changeKind_32 rfl)
theorem dX2_changeKind_36 : decode cX2_changeKind 36 = .ok (.aload 4, 2) := do_25 (rdb (p := 32) (i := 4) ch_cX2_changeKind_32 rfl) (rdb (p := 32) (i := 5) ch_cX2_changeKind_32 rfl)
theorem dX2_changeKind_38 : decode cX2_changeKind 38 = .ok (.iload_n 1, 1) := do_27 (rdb (p := 32) (i := 6) ch_cX2_changeKind_32 rfl)
theorem dX2_changeKind_39 : decode cX2_changeKind 39 = .ok (.iload_n 3, 1) := do_29 (rdb (p := 32) (i := 7) ch_cX2_changeKind_32 rfl)
theorem dX2_changeKind_40 : decode cX2_changeKind 40 = .ok (.iastore, 1) := do_79 (rdb (p := 32) (i := 8) ch_cX2_changeKind_32 rfl)
theorem dX2_changeKind_41 : decode cX2_changeKind 41 = .ok (.iload 5, 2) := do_21 (rdb (p := 32) (i := 9) ch_cX2_changeKind_32 rfl) (rdb (p := 32) (i := 10) ch_cX2_changeKind_32 rfl)
theorem dX2_changeKind_43 : decode cX2_changeKind 43 = .ok (.ireturn, 1) := do_172 (rdb (p := 32) (i := 11) ch_cX2_changeKind_32 rfl)
theorem ch_cX2_habitValue_0 : (cX2_habitValue.data.toList.drop 0).take 36 = [42, 180, 0, 30, 5, 50, 182, 0, 48, 154, 0, 14, 27, 4, 160, 0, 7, 4, 167, 0, 4, 3, 172, 42, 180, 0, 34, 3, 27, 79, 42, 180, 0, 34, 4, 28] := by decide +kernel
theorem dX2_habitValue_0 : decode cX2_habitValue 0 = .ok (.aload_n 0, 1) := do_42 (rdb (p := 0) (i := 0) ch_cX2_habitValue_0 rfl)
theorem dX2_habitValue_1 : decode cX2_habitValue 1 = .ok (.getfield 30, 3) := do_180 (rdb (p := 0) (i := 1) ch_cX2_habitValue_0 rfl) (rdb (p := 0) (i := 2) ch_cX2_habitValue_0 rfl) (rdb (p := 0) (i := 3) ch_cX2_habitValue_0 rfl) rfl
theorem dX2_habitValue_4 : decode cX2_habitValue 4 = .ok (.iconst 2, 1) := do_5 (rdb (p := 0) (i := 4) ch_cX2_habitValue_0 rfl)
theorem dX2_habitValue_5 : decode cX2_habitValue 5 = .ok (.aaload, 1) := do_50 (rdb (p := 0) (i := 5) ch_cX2_habitValue_0 rfl)
theorem dX2_habitValue_6 : decode cX2_habitValue 6 = .ok (.invokevirtual 48, 3) := do_182 (rdb (p := 0) (i := 6) ch_cX2_habitValue_0 rfl) (rdb (p := 0) (i := 7) ch_cX2_habitValue_0 rfl) (rdb (p := 0) (i := 8) ch_cX2_habitValue_0 rfl) rfl
theorem dX2_habitValue_9 : decode cX2_habitValue 9 = .ok (.ifCond .ne 14, 3) := do_154 (rdb (p := 0) (i := 9) ch_cX2_habitValue_0 rfl) (rdb (p := 0) (i := 10) ch_cX2_habitValue_0 rfl) (rdb (p := 0) (i := 11) ch_cX2_habitValue_0 rfl) (by decide +kernel)
theorem dX2_habitValue_12 : decode cX2_habitValue 12 = .ok (.iload_n 1, 1) := do_27 (rdb (p := 0) (i := 12) ch_cX2_habitValue_0 rfl)
theorem dX2_habitValue_13 : decode cX2_habitValue 13 = .ok (.iconst 1, 1) := do_4 (rdb (p := 0) (i := 13) ch_cX2_habitValue_0 rfl)
theorem dX2_habitValue_14 : decode cX2_habitValue 14 = .ok (.if_icmp .ne 7, 3) := do_160 (rdb (p := 0) (i := 14) ch_cX2_habitValue_0 rfl) (rdb (p := 0) (i := 15) ch_cX2_habitValue_0 rfl) (rdb (p := 0) (i := 16) ch_cX2_habitValue_0 rfl) (by decide +kernel)
theorem dX2_habitValue_17 : decode cX2_habitValue 17 = .ok (.iconst 1, 1) := do_4 (rdb (p := 0) (i := 17) ch_cX2_habitValue_0 rfl)
theorem dX2_habitValue_18 : decode cX2_habitValue 18 = .ok (.goto 4, 3) := do_167 (rdb (p := 0) (i := 18) ch_cX2_habitValue_0 rfl) (rdb (p := 0) (i := 19) ch_cX2_habitValue_0 rfl) (rdb (p := 0) (i := 20) ch_cX2_habitValue_0 rfl) (by decide +kernel)
theorem dX2_habitValue_21 : decode cX2_habitValue 21 = .ok (.iconst 0, 1) := do_3 (rdb (p := 0) (i := 21) ch_cX2_habitValue_0 rfl)
theorem dX2_habitValue_22 : decode cX2_habitValue 22 = .ok (.ireturn, 1) := do_172 (rdb (p := 0) (i := 22) ch_cX2_habitValue_0 rfl)
theorem dX2_habitValue_23 : decode cX2_habitValue 23 = .ok (.aload_n 0, 1) := do_42 (rdb (p := 0) (i := 23) ch_cX2_habitValue_0 rfl)
theorem dX2_habitValue_24 : decode cX2_habitValue 24 = .ok (.getfield 34, 3) := do_180 (rdb (p := 0) (i := 24) ch_cX2_habitValue_0 rfl) (rdb (p := 0) (i := 25) ch_cX2_habitValue_0 rfl) (rdb (p := 0) (i := 26) ch_cX2_habitValue_0 rfl) rfl
theorem dX2_habitValue_27 : decode cX2_habitValue 27 = .ok (.iconst 0, 1) := do_3 (rdb (p := 0) (i := 27) ch_cX2_habitValue_0 rfl)
theorem dX2_habitValue_28 : decode cX2_habitValue 28 = .ok (.iload_n 1, 1) := do_27 (rdb (p := 0) (i := 28) ch_cX2_habitValue_0 rfl)
theorem dX2_habitValue_29 : decode cX2_habitValue 29 = .ok (.iastore, 1) := do_79 (rdb (p := 0) (i := 29) ch_cX2_habitValue_0 rfl)
theorem dX2_habitValue_30 : decode cX2_habitValue 30 = .ok (.aload_n 0, 1) := do_42 (rdb (p := 0) (i := 30) ch_cX2_habitValue_0 rfl)
theorem dX2_habitValue_31 : decode cX2_habitValue 31 = .ok (.getfield 34, 3) := do_180 (rdb (p := 0) (i := 31) ch_cX2_habitValue_0 rfl) (rdb (p := 0) (i := 32) ch_cX2_habitValue_0 rfl) (rdb (p := 0) (i := 33) ch_cX2_habitValue_0 rfl) rfl
theorem ch_cX2_habitValue_32 : (cX2_habitValue.data.toList.drop 32).take 36 = [0, 34, 4, 28, 79, 42, 180, 0, 34, 5, 29, 79, 42, 180, 0, 34, 6, 21, 4, 79, 42, 180, 0, 34, 7, 21, 5, 79, 42, 180, 0, 30, 5, 50, 42, 180] := by decide +kernel
theorem dX2_habitValue_34 : decode cX2_habitValue 34 = .ok (.iconst 1, 1) := do_4 (rdb (p := 32) (i := 2) ch_cX2_habitValue_32 rfl)
theorem dX2_habitValue_35 : decode cX2_habitValue 35 = .ok (.iload_n 2, 1) := do_28 (rdb (p := 32) (i := 3) ch_cX2_habitValue_32 rfl)
theorem dX2_habitValue_36 : decode cX2_habitValue 36 = .ok (.iastore, 1) := do_79 (rdb (p := 32) (i := 4) ch_cX2_habitValue_32 rfl)
theorem dX2_habitValue_37 : decode cX2_habitValue 37 = .ok (.aload_n 0, 1) := do_42 (rdb (p := 32) (i := 5) ch_cX2_habitValue_32 rfl)
theorem dX2_habitValue_38 : decode cX2_habitValue 38 = .ok (.getfield 34, 3) := do_180 (rdb (p := 32) (i := 6) ch_cX2_habitValue_32 rfl) (rdb (p := 32) (i := 7) ch_cX2_habitValue_32 rfl) (rdb (p := 32) (i := 8) ch_cX2_habitValue_32 rfl) rfl
theorem dX2_habitValue_41 : decode cX2_habitValue 41 = .ok (.iconst 2, 1) := do_5 (rdb (p := 32) (i := 9) ch_cX2_habitValue_32 rfl)
theorem dX2_habitValue_42 : decode cX2_habitValue 42 = .ok (.iload_n 3, 1) := do_29 (rdb (p := 32) (i := 10) ch_cX2_habitValue_32 rfl)
theorem dX2_habitValue_43 : decode cX2_habitValue 43 = .ok (.iastore, 1) := do_79 (rdb (p := 32) (i := 11) ch_cX2_habitValue_32 rfl)
theorem dX2_habitValue_44 : decode cX2_habitValue 44 = .ok (.aload_n 0, 1) := do_42 (rdb (p := 32) (i := 12) ch_cX2_habitValue_32 rfl)
theorem dX2_habitValue_45 : decode cX2_habitValue 45 = .ok (.getfield 34, 3) := do_180 (rdb (p := 32) (i := 13) ch_cX2_habitValue_32 rfl) (rdb (p := 32) (i := 14) ch_cX2_habitValue_32 rfl) (rdb (p := 32) (i := 15) ch_cX2_habitValue_32 rfl) rfl
theorem dX2_habitValue_48 : decode cX2_habitValue 48 = .ok (.iconst 3, 1) := do_6 (rdb (p := 32) (i := 16) ch_cX2_habitValue_32 rfl)
theorem dX2_habitValue_49 : decode cX2_habitValue 49 = .ok (.iload 4, 2) := do_21 (rdb (p := 32) (i := 17) ch_cX2_habitValue_32 rfl) (rdb (p := 32) (i := 18) ch_cX2_habitValue_32 rfl)
theorem dX2_habitValue_51 : decode cX2_habitValue 51 = .ok (.iastore, 1) := do_79 (rdb (p := 32) (i := 19) ch_cX2_habitValue_32 rfl)
theorem dX2_habitValue_52 : decode cX2_habitValue 52 = .ok (.aload_n 0, 1) := do_42 (rdb (p := 32) (i := 20) ch_cX2_habitValue_32 rfl)
theorem dX2_habitValue_53 : decode cX2_habitValue 53 = .ok (.getfield 34, 3) := do_180 (rdb (p := 32) (i := 21) ch_cX2_habitValue_32 rfl) (rdb (p := 32) (i := 22) ch_cX2_habitValue_32 rfl) (rdb (p := 32) (i := 23) ch_cX2_habitValue_32 rfl) rfl
theorem dX2_habitValue_56 : decode cX2_habitValue 56 = .ok (.iconst 4, 1) := do_7 (rdb (p := 32) (i := 24) ch_cX2_habitValue_32 rfl)
theorem dX2_habitValue_57 : decode cX2_habitValue 57 = .ok (.iload 5, 2) := do_21 (rdb (p := 32) (i := 25) ch_cX2_habitValue_32 rfl) (rdb (p := 32) (i := 26) ch_cX2_habitValue_32 rfl)
theorem dX2_habitValue_59 : decode cX2_habitValue 59 = .ok (.iastore, 1) := do_79 (rdb (p := 32) (i := 27) ch_cX2_habitValue_32 rfl)
theorem dX2_habitValue_60 : decode cX2_habitValue 60 = .ok (.aload_n 0, 1) := do_42 (rdb (p := 32) (i := 28) ch_cX2_habitValue_32 rfl)
theorem dX2_habitValue_61 : decode cX2_habitValue 61 = .ok (.getfield 30, 3) := do_180 (rdb (p := 32) (i := 29) ch_cX2_habitValue_32 rfl) (rdb (p := 32) (i := 30) ch_cX2_habitValue_32 rfl) (rdb (p := 32) (i := 31) ch_cX2_habitValue_32 rfl) rfl
theorem ch_cX2_habitValue_64 : (cX2_habitValue.data.toList.drop 64).take 36 = [5, 50, 42, 180, 0, 34, 182, 0, 52, 172] := by decide +kernel
theorem dX2_habitValue_64 : decode cX2_habitValue 64 = .ok (.iconst 2, 1) := do_5 (rdb (p := 64) (i := 0) ch_cX2_habitValue_64 rfl)
theorem dX2_habitValue_65 : decode cX2_habitValue 65 = .ok (.aaload, 1) := do_50 (rdb (p := 64) (i := 1) ch_cX2_habitValue_64 rfl)
theorem dX2_habitValue_66 : decode cX2_habitValue 66 = .ok (.aload_n 0, 1) := do_42 (rdb (p := 64) (i := 2) ch_cX2_habitValue_64 rfl)
theorem dX2_habitValue_67 : decode cX2_habitValue 67 = .ok (.getfield 34, 3) := do_180 (rdb (p := 64) (i := 3) ch_cX2_habitValue_64 rfl) (rdb (p := 64) (i := 4) ch_cX2_habitValue_64 rfl) (rdb (p := 64) (i := 5) ch_cX2_habitValue_64 rfl) rfl
theorem dX2_habitValue_70 : decode cX2_habitValue 70 = .ok (.invokevirtual 52, 3) := do_182 (rdb (p := 64) (i := 6) ch_cX2_habitValue_64 rfl) (rdb (p := 64) (i := 7) ch_cX2_habitValue_64 rfl) (rdb (p := 64) (i := 8) ch_cX2_habitValue_64 rfl) rfl
theorem dX2_habitValue_73 : decode cX2_habitValue 73 = .ok (.ireturn, 1) := do_172 (rdb (p := 64) (i := 9) ch_cX2_habitValue_64 rfl)
theorem dX2_hears_0 : decode cX2_hears 0 = .ok (.aload_n 0, 1) := by decide +kernel
theorem dX2_hears_1 : decode cX2_hears 1 = .ok (.iload_n 1, 1) := by decide +kernel
theorem dX2_hears_2 : decode cX2_hears 2 = .ok (.iload_n 3, 1) := by decide +kernel
theorem dX2_hears_3 : decode cX2_hears 3 = .ok (.iload 5, 2) := by decide +kernel
theorem dX2_hears_5 : decode cX2_hears 5 = .ok (.iload 4, 2) := by decide +kernel
theorem dX2_hears_7 : decode cX2_hears 7 = .ok (.invokestatic 65, 3) := by decide +kernel
theorem dX2_hears_10 : decode cX2_hears 10 = .ok (.aload_n 0, 1) := by decide +kernel
theorem dX2_hears_11 : decode cX2_hears 11 = .ok (.iload_n 2, 1) := by decide +kernel
theorem dX2_hears_12 : decode cX2_hears 12 = .ok (.iload_n 3, 1) := by decide +kernel
theorem dX2_hears_13 : decode cX2_hears 13 = .ok (.iload 4, 2) := by decide +kernel
theorem dX2_hears_15 : decode cX2_hears 15 = .ok (.invokevirtual 68, 3) := by decide +kernel
theorem dX2_hears_18 : decode cX2_hears 18 = .ok (.invokevirtual 72, 3) := by decide +kernel
theorem dX2_hears_21 : decode cX2_hears 21 = .ok (.ireturn, 1) := by decide +kernel
theorem dX2_isClick_0 : decode cX2_isClick 0 = .ok (.iload_n 0, 1) := by decide +kernel
theorem dX2_isClick_1 : decode cX2_isClick 1 = .ok (.iconst 1, 1) := by decide +kernel
theorem dX2_isClick_2 : decode cX2_isClick 2 = .ok (.bipush 9, 2) := by decide +kernel
theorem dX2_isClick_4 : decode cX2_isClick 4 = .ok (.invokestatic 38, 3) := by decide +kernel
theorem dX2_isClick_7 : decode cX2_isClick 7 = .ok (.ifCond .eq 17, 3) := by decide +kernel
theorem dX2_isClick_10 : decode cX2_isClick 10 = .ok (.iload_n 1, 1) := by decide +kernel
theorem dX2_isClick_11 : decode cX2_isClick 11 = .ok (.iconst 1, 1) := by decide +kernel
theorem dX2_isClick_12 : decode cX2_isClick 12 = .ok (.bipush 99, 2) := by decide +kernel
theorem dX2_isClick_14 : decode cX2_isClick 14 = .ok (.invokestatic 38, 3) := by decide +kernel
theorem dX2_isClick_17 : decode cX2_isClick 17 = .ok (.ifCond .eq 7, 3) := by decide +kernel
theorem dX2_isClick_20 : decode cX2_isClick 20 = .ok (.iconst 1, 1) := by decide +kernel
theorem dX2_isClick_21 : decode cX2_isClick 21 = .ok (.goto 4, 3) := by decide +kernel
theorem dX2_isClick_24 : decode cX2_isClick 24 = .ok (.iconst 0, 1) := by decide +kernel
theorem dX2_isClick_25 : decode cX2_isClick 25 = .ok (.ireturn, 1) := by decide +kernel
theorem dX2_isClick__0 : decode cX2_isClick_ 0 = .ok (.iload_n 0, 1) := by decide +kernel
theorem dX2_isClick__1 : decode cX2_isClick_ 1 = .ok (.ifCond .le 21, 3) := by decide +kernel
theorem dX2_isClick__4 : decode cX2_isClick_ 4 = .ok (.iload_n 0, 1) := by decide +kernel
theorem dX2_isClick__5 : decode cX2_isClick_ 5 = .ok (.bipush 100, 2) := by decide +kernel
theorem dX2_isClick__7 : decode cX2_isClick_ 7 = .ok (.idiv, 1) := by decide +kernel
theorem dX2_isClick__8 : decode cX2_isClick_ 8 = .ok (.iload_n 0, 1) := by decide +kernel
theorem dX2_isClick__9 : decode cX2_isClick_ 9 = .ok (.bipush 100, 2) := by decide +kernel
theorem dX2_isClick__11 : decode cX2_isClick_ 11 = .ok (.irem, 1) := by decide +kernel
theorem dX2_isClick__12 : decode cX2_isClick_ 12 = .ok (.invokestatic 44, 3) := by decide +kernel
theorem dX2_isClick__15 : decode cX2_isClick_ 15 = .ok (.ifCond .eq 7, 3) := by decide +kernel
theorem dX2_isClick__18 : decode cX2_isClick_ 18 = .ok (.iconst 1, 1) := by decide +kernel
theorem dX2_isClick__19 : decode cX2_isClick_ 19 = .ok (.goto 4, 3) := by decide +kernel
theorem dX2_isClick__22 : decode cX2_isClick_ 22 = .ok (.iconst 0, 1) := by decide +kernel
theorem dX2_isClick__23 : decode cX2_isClick_ 23 = .ok (.ireturn, 1) := by decide +kernel
theorem ch_cX2_isHeard_0 : (cX2_isHeard.data.toList.drop 0).take 36 = [28, 16, 100, 108, 27, 163, 0, 16, 29, 42, 180, 0, 13, 164, 0, 8, 21, 4, 154, 0, 5, 3, 172, 42, 180, 0, 30, 4, 50, 182, 0, 48, 154, 0, 18, 21] := by decide +kernel
theorem dX2_isHeard_0 : decode cX2_isHeard 0 = .ok (.iload_n 2, 1) := do_28 (rdb (p := 0) (i := 0) ch_cX2_isHeard_0 rfl)
theorem dX2_isHeard_1 : decode cX2_isHeard 1 = .ok (.bipush 100, 2) := do_16 (rdb (p := 0) (i := 1) ch_cX2_isHeard_0 rfl) (rdb (p := 0) (i := 2) ch_cX2_isHeard_0 rfl) (by decide +kernel)
theorem dX2_isHeard_3 : decode cX2_isHeard 3 = .ok (.idiv, 1) := do_108 (rdb (p := 0) (i := 3) ch_cX2_isHeard_0 rfl)
theorem dX2_isHeard_4 : decode cX2_isHeard 4 = .ok (.iload_n 1, 1) := do_27 (rdb (p := 0) (i := 4) ch_cX2_isHeard_0 rfl)
theorem dX2_isHeard_5 : decode cX2_isHeard 5 = .ok (.if_icmp .gt 16, 3) := do_163 (rdb (p := 0) (i := 5) ch_cX2_isHeard_0 rfl) (rdb (p := 0) (i := 6) ch_cX2_isHeard_0 rfl) (rdb (p := 0) (i := 7) ch_cX2_isHeard_0 rfl) (by decide +kernel)
theorem dX2_isHeard_8 : decode cX2_isHeard 8 = .ok (.iload_n 3, 1) := do_29 (rdb (p := 0) (i := 8) ch_cX2_isHeard_0 rfl)
theorem dX2_isHeard_9 : decode cX2_isHeard 9 = .ok (.aload_n 0, 1) := do_42 (rdb (p := 0) (i := 9) ch_cX2_isHeard_0 rfl)
theorem dX2_isHeard_10 : decode cX2_isHeard 10 = .ok (.getfield 13, 3) := do_180 (rdb (p := 0) (i := 10) ch_cX2_isHeard_0 rfl) (rdb (p := 0) (i := 11) ch_cX2_isHeard_0 rfl) (rdb (p := 0) (i := 12) ch_cX2_isHeard_0 rfl) rfl
theorem dX2_isHeard_13 : decode cX2_isHeard 13 = .ok (.if_icmp .le 8, 3) := do_164 (rdb (p := 0) (i := 13) ch_cX2_isHeard_0 rfl) (rdb (p := 0) (i := 14) ch_cX2_isHeard_0 rfl) (rdb (p := 0) (i := 15) ch_cX2_isHeard_0 rfl) (by decide +kernel)
theorem dX2_isHeard_16 : decode cX2_isHeard 16 = .ok (.iload 4, 2) := do_21 (rdb (p := 0) (i := 16) ch_cX2_isHeard_0 rfl) (rdb (p := 0) (i := 17) ch_cX2_isHeard_0 rfl)
theorem dX2_isHeard_18 : decode cX2_isHeard 18 = .ok (.ifCond .ne 5, 3) := do_154 (rdb (p := 0) (i := 18) ch_cX2_isHeard_0 rfl) (rdb (p := 0) (i := 19) ch_cX2_isHeard_0 rfl) (rdb (p := 0) (i := 20) ch_cX2_isHeard_0 rfl) (by decide +kernel)
theorem dX2_isHeard_21 : decode cX2_isHeard 21 = .ok (.iconst 0, 1) := do_3 (rdb (p := 0) (i := 21) ch_cX2_isHeard_0 rfl)
theorem dX2_isHeard_22 : decode cX2_isHeard 22 = .ok (.ireturn, 1) := do_172 (rdb (p := 0) (i := 22) ch_cX2_isHeard_0 rfl)
theorem dX2_isHeard_23 : decode cX2_isHeard 23 = .ok (.aload_n 0, 1) := do_42 (rdb (p := 0) (i := 23) ch_cX2_isHeard_0 rfl)
theorem dX2_isHeard_24 : decode cX2_isHeard 24 = .ok (.getfield 30, 3) := do_180 (rdb (p := 0) (i := 24) ch_cX2_isHeard_0 rfl) (rdb (p := 0) (i := 25) ch_cX2_isHeard_0 rfl) (rdb (p := 0) (i := 26) ch_cX2_isHeard_0 rfl) rfl
theorem dX2_isHeard_27 : decode cX2_isHeard 27 = .ok (.iconst 1, 1) := do_4 (rdb (p := 0) (i := 27) ch_cX2_isHeard_0 rfl)
theorem dX2_isHeard_28 : decode cX2_isHeard 28 = .ok (.aaload, 1) := do_50 (rdb (p := 0) (i := 28) ch_cX2_isHeard_0 rfl)
theorem dX2_isHeard_29 : decode cX2_isHeard 29 = .ok (.invokevirtual 48, 3) := do_182 (rdb (p := 0) (i := 29) ch_cX2_isHeard_0 rfl) (rdb (p := 0) (i := 30) ch_cX2_isHeard_0 rfl) (rdb (p := 0) (i := 31) ch_cX2_isHeard_0 rfl) rfl
theorem ch_cX2_isHeard_32 : (cX2_isHeard.data.toList.drop 32).take 36 = [154, 0, 18, 21, 4, 42, 180, 0, 7, 164, 0, 7, 4, 167, 0, 4, 3, 172, 42, 180, 0, 34, 3, 21, 4, 79, 42, 180, 0, 34, 4, 42, 180, 0, 7, 79] := by decide +kernel
theorem dX2_isHeard_32 : decode cX2_isHeard 32 = .ok (.ifCond .ne 18, 3) := do_154 (rdb (p := 32) (i := 0) ch_cX2_isHeard_32 rfl) (rdb (p := 32) (i := 1) ch_cX2_isHeard_32 rfl) (rdb (p := 32) (i := 2) ch_cX2_isHeard_32 rfl) (by decide +kernel)
theorem dX2_isHeard_35 : decode cX2_isHeard 35 = .ok (.iload 4, 2) := do_21 (rdb (p := 32) (i := 3) ch_cX2_isHeard_32 rfl) (rdb (p := 32) (i := 4) ch_cX2_isHeard_32 rfl)
theorem dX2_isHeard_37 : decode cX2_isHeard 37 = .ok (.aload_n 0, 1) := do_42 (rdb (p := 32) (i := 5) ch_cX2_isHeard_32 rfl)
theorem dX2_isHeard_38 : decode cX2_isHeard 38 = .ok (.getfield 7, 3) := do_180 (rdb (p := 32) (i := 6) ch_cX2_isHeard_32 rfl) (rdb (p := 32) (i := 7) ch_cX2_isHeard_32 rfl) (rdb (p := 32) (i := 8) ch_cX2_isHeard_32 rfl) rfl
theorem dX2_isHeard_41 : decode cX2_isHeard 41 = .ok (.if_icmp .le 7, 3) := do_164 (rdb (p := 32) (i := 9) ch_cX2_isHeard_32 rfl) (rdb (p := 32) (i := 10) ch_cX2_isHeard_32 rfl) (rdb (p := 32) (i := 11) ch_cX2_isHeard_32 rfl) (by decide +kernel)
theorem dX2_isHeard_44 : decode cX2_isHeard 44 = .ok (.iconst 1, 1) := do_4 (rdb (p := 32) (i := 12) ch_cX2_isHeard_32 rfl)
theorem dX2_isHeard_45 : decode cX2_isHeard 45 = .ok (.goto 4, 3) := do_167 (rdb (p := 32) (i := 13) ch_cX2_isHeard_32 rfl) (rdb (p := 32) (i := 14) ch_cX2_isHeard_32 rfl) (rdb (p := 32) (i := 15) ch_cX2_isHeard_32 rfl) (by decide +kernel)
theorem dX2_isHeard_48 : decode cX2_isHeard 48 = .ok (.iconst 0, 1) := do_3 (rdb (p := 32) (i := 16) ch_cX2_isHeard_32 rfl)
theorem dX2_isHeard_49 : decode cX2_isHeard 49 = .ok (.ireturn, 1) := do_172 (rdb (p := 32) (i := 17) ch_cX2_isHeard_32 rfl)
theorem dX2_isHeard_50 : decode cX2_isHeard 50 = .ok (.aload_n 0, 1) := do_42 (rdb (p := 32) (i := 18) ch_cX2_isHeard_32 rfl)
theorem dX2_isHeard_51 : decode cX2_isHeard 51 = .ok (.getfield 34, 3) := do_180 (rdb (p := 32) (i := 19) ch_cX2_isHeard_32 rfl) (rdb (p := 32) (i := 20) ch_cX2_isHeard_32 rfl) (rdb (p := 32) (i := 21) ch_cX2_isHeard_32 rfl) rfl
theorem dX2_isHeard_54 : decode cX2_isHeard 54 = .ok (.iconst 0, 1) := do_3 (rdb (p := 32) (i := 22) ch_cX2_isHeard_32 rfl)
theorem dX2_isHeard_55 : decode cX2_isHeard 55 = .ok (.iload 4, 2) := do_21 (rdb (p := 32) (i := 23) ch_cX2_isHeard_32 rfl) (rdb (p := 32) (i := 24) ch_cX2_isHeard_32 rfl)
theorem dX2_isHeard_57 : decode cX2_isHeard 57 = .ok (.iastore, 1) := do_79 (rdb (p := 32) (i := 25) ch_cX2_isHeard_32 rfl)
theorem dX2_isHeard_58 : decode cX2_isHeard 58 = .ok (.aload_n 0, 1) := do_42 (rdb (p := 32) (i := 26) ch_cX2_isHeard_32 rfl)
theorem dX2_isHeard_59 : decode cX2_isHeard 59 = .ok (.getfield 34, 3) := do_180 (rdb (p := 32) (i := 27) ch_cX2_isHeard_32 rfl) (rdb (p := 32) (i := 28) ch_cX2_isHeard_32 rfl) (rdb (p := 32) (i := 29) ch_cX2_isHeard_32 rfl) rfl
theorem dX2_isHeard_62 : decode cX2_isHeard 62 = .ok (.iconst 1, 1) := do_4 (rdb (p := 32) (i := 30) ch_cX2_isHeard_32 rfl)
theorem dX2_isHeard_63 : decode cX2_isHeard 63 = .ok (.aload_n 0, 1) := do_42 (rdb (p := 32) (i := 31) ch_cX2_isHeard_32 rfl)
theorem ch_cX2_isHeard_64 : (cX2_isHeard.data.toList.drop 64).take 36 = [180, 0, 7, 79, 42, 180, 0, 34, 5, 29, 79, 42, 180, 0, 30, 4, 50, 42, 180, 0, 34, 182, 0, 52, 153, 0, 7, 4, 167, 0, 4, 3, 172] := by decide +kernel
theorem dX2_isHeard_64 : decode cX2_isHeard 64 = .ok (.getfield 7, 3) := do_180 (rdb (p := 64) (i := 0) ch_cX2_isHeard_64 rfl) (rdb (p := 64) (i := 1) ch_cX2_isHeard_64 rfl) (rdb (p := 64) (i := 2) ch_cX2_isHeard_64 rfl) rfl
theorem dX2_isHeard_67 : decode cX2_isHeard 67 = .ok (.iastore, 1) := do_79 (rdb (p := 64) (i := 3) ch_cX2_isHeard_64 rfl)
theorem dX2_isHeard_68 : decode cX2_isHeard 68 = .ok (.aload_n 0, 1) := do_42 (rdb (p := 64) (i := 4) ch_cX2_isHeard_64 rfl)
theorem dX2_isHeard_69 : decode cX2_isHeard 69 = .ok (.getfield 34, 3) := do_180 (rdb (p := 64) (i := 5) ch_cX2_isHeard_64 rfl) (rdb (p := 64) (i := 6) ch_cX2_isHeard_64 rfl) (rdb (p := 64) (i := 7) ch_cX2_isHeard_64 rfl) rfl
theorem dX2_isHeard_72 : decode cX2_isHeard 72 = .ok (.iconst 2, 1) := do_5 (rdb (p := 64) (i := 8) ch_cX2_isHeard_64 rfl)
theorem dX2_isHeard_73 : decode cX2_isHeard 73 = .ok (.iload_n 3, 1) := do_29 (rdb (p := 64) (i := 9) ch_cX2_isHeard_64 rfl)
theorem dX2_isHeard_74 : decode cX2_isHeard 74 = .ok (.iastore, 1) := do_79 (rdb (p := 64) (i := 10) ch_cX2_isHeard_64 rfl)
theorem dX2_isHeard_75 : decode cX2_isHeard 75 = .ok (.aload_n 0, 1) := do_42 (rdb (p := 64) (i := 11) ch_cX2_isHeard_64 rfl)
theorem dX2_isHeard_76 : decode cX2_isHeard 76 = .ok (.getfield 30, 3) := do_180 (rdb (p := 64) (i := 12) ch_cX2_isHeard_64 rfl) (rdb (p := 64) (i := 13) ch_cX2_isHeard_64 rfl) (rdb (p := 64) (i := 14) ch_cX2_isHeard_64 rfl) rfl
theorem dX2_isHeard_79 : decode cX2_isHeard 79 = .ok (.iconst 1, 1) := do_4 (rdb (p := 64) (i := 15) ch_cX2_isHeard_64 rfl)
theorem dX2_isHeard_80 : decode cX2_isHeard 80 = .ok (.aaload, 1) := do_50 (rdb (p := 64) (i := 16) ch_cX2_isHeard_64 rfl)
theorem dX2_isHeard_81 : decode cX2_isHeard 81 = .ok (.aload_n 0, 1) := do_42 (rdb (p := 64) (i := 17) ch_cX2_isHeard_64 rfl)
theorem dX2_isHeard_82 : decode cX2_isHeard 82 = .ok (.getfield 34, 3) := do_180 (rdb (p := 64) (i := 18) ch_cX2_isHeard_64 rfl) (rdb (p := 64) (i := 19) ch_cX2_isHeard_64 rfl) (rdb (p := 64) (i := 20) ch_cX2_isHeard_64 rfl) rfl
theorem dX2_isHeard_85 : decode cX2_isHeard 85 = .ok (.invokevirtual 52, 3) := do_182 (rdb (p := 64) (i := 21) ch_cX2_isHeard_64 rfl) (rdb (p := 64) (i := 22) ch_cX2_isHeard_64 rfl) (rdb (p := 64) (i := 23) ch_cX2_isHeard_64 rfl) rfl
theorem dX2_isHeard_88 : decode cX2_isHeard 88 = .ok (.ifCond .eq 7, 3) := do_153 (rdb (p := 64) (i := 24) ch_cX2_isHeard_64 rfl) (rdb (p := 64) (i := 25) ch_cX2_isHeard_64 rfl) (rdb (p := 64) (i := 26) ch_cX2_isHeard_64 rfl) (by decide +kernel)
theorem dX2_isHeard_91 : decode cX2_isHeard 91 = .ok (.iconst 1, 1) := do_4 (rdb (p := 64) (i := 27) ch_cX2_isHeard_64 rfl)
theorem dX2_isHeard_92 : decode cX2_isHeard 92 = .ok (.goto 4, 3) := do_167 (rdb (p := 64) (i := 28) ch_cX2_isHeard_64 rfl) (rdb (p := 64) (i := 29) ch_cX2_isHeard_64 rfl) (rdb (p := 64) (i := 30) ch_cX2_isHeard_64 rfl) (by decide +kernel)
theorem dX2_isHeard_95 : decode cX2_isHeard 95 = .ok (.iconst 0, 1) := do_3 (rdb (p := 64) (i := 31) ch_cX2_isHeard_64 rfl)
theorem ch_cX2_isHeard_96 : (cX2_isHeard.data.toList.drop 96).take 36 = [172] := by decide +kernel
theorem dX2_isHeard_96 : decode cX2_isHeard 96 = .ok (.ireturn, 1) := do_172 (rdb (p := 96) (i := 0) ch_cX2_isHeard_96 rfl)
theorem ch_cX2_kindsAlike_0 : (cX2_kindsAlike.data.toList.drop 0).take 36 = [3, 54, 6, 3, 54, 7, 21, 7, 8, 162, 0, 45, 42, 21, 7, 28, 29, 182, 0, 68, 21, 5, 160, 0, 26, 42, 27, 21, 7, 28, 29, 21, 4, 182, 0, 76] := by decide +kernel
theorem dX2_kindsAlike_0 : decode cX2_kindsAlike 0 = .ok (.iconst 0, 1) := do_3 (rdb (p := 0) (i := 0) ch_cX2_kindsAlike_0 rfl)
theorem dX2_kindsAlike_1 : decode cX2_kindsAlike 1 = .ok (.istore 6, 2) := do_54 (rdb (p := 0) (i := 1) ch_cX2_kindsAlike_0 rfl) (rdb (p := 0) (i := 2) ch_cX2_kindsAlike_0 rfl)
theorem dX2_kindsAlike_3 : decode cX2_kindsAlike 3 = .ok (.iconst 0, 1) := do_3 (rdb (p := 0) (i := 3) ch_cX2_kindsAlike_0 rfl)
theorem dX2_kindsAlike_4 : decode cX2_kindsAlike 4 = .ok (.istore 7, 2) := do_54 (rdb (p := 0) (i := 4) ch_cX2_kindsAlike_0 rfl) (rdb (p := 0) (i := 5) ch_cX2_kindsAlike_0 rfl)
theorem dX2_kindsAlike_6 : decode cX2_kindsAlike 6 = .ok (.iload 7, 2) := do_21 (rdb (p := 0) (i := 6) ch_cX2_kindsAlike_0 rfl) (rdb (p := 0) (i := 7) ch_cX2_kindsAlike_0 rfl)
theorem dX2_kindsAlike_8 : decode cX2_kindsAlike 8 = .ok (.iconst 5, 1) := do_8 (rdb (p := 0) (i := 8) ch_cX2_kindsAlike_0 rfl)
theorem dX2_kindsAlike_9 : decode cX2_kindsAlike 9 = .ok (.if_icmp .ge 45, 3) := do_162 (rdb (p := 0) (i := 9) ch_cX2_kindsAlike_0 rfl) (rdb (p := 0) (i := 10) ch_cX2_kindsAlike_0 rfl) (rdb (p := 0) (i := 11) ch_cX2_kindsAlike_0 rfl) (by decide +kernel)
theorem dX2_kindsAlike_12 : decode cX2_kindsAlike 12 = .ok (.aload_n 0, 1) := do_42 (rdb (p := 0) (i := 12) ch_cX2_kindsAlike_0 rfl)
theorem dX2_kindsAlike_13 : decode cX2_kindsAlike 13 = .ok (.iload 7, 2) := do_21 (rdb (p := 0) (i := 13) ch_cX2_kindsAlike_0 rfl) (rdb (p := 0) (i := 14) ch_cX2_kindsAlike_0 rfl)
theorem dX2_kindsAlike_15 : decode cX2_kindsAlike 15 = .ok (.iload_n 2, 1) := do_28 (rdb (p := 0) (i := 15) ch_cX2_kindsAlike_0 rfl)
theorem dX2_kindsAlike_16 : decode cX2_kindsAlike 16 = .ok (.iload_n 3, 1) := do_29 (rdb (p := 0) (i := 16) ch_cX2_kindsAlike_0 rfl)
theorem dX2_kindsAlike_17 : decode cX2_kindsAlike 17 = .ok (.invokevirtual 68, 3) := do_182 (rdb (p := 0) (i := 17) ch_cX2_kindsAlike_0 rfl) (rdb (p := 0) (i := 18) ch_cX2_kindsAlike_0 rfl) (rdb (p := 0) (i := 19) ch_cX2_kindsAlike_0 rfl) rfl
theorem dX2_kindsAlike_20 : decode cX2_kindsAlike 20 = .ok (.iload 5, 2) := do_21 (rdb (p := 0) (i := 20) ch_cX2_kindsAlike_0 rfl) (rdb (p := 0) (i := 21) ch_cX2_kindsAlike_0 rfl)
theorem dX2_kindsAlike_22 : decode cX2_kindsAlike 22 = .ok (.if_icmp .ne 26, 3) := do_160 (rdb (p := 0) (i := 22) ch_cX2_kindsAlike_0 rfl) (rdb (p := 0) (i := 23) ch_cX2_kindsAlike_0 rfl) (rdb (p := 0) (i := 24) ch_cX2_kindsAlike_0 rfl) (by decide +kernel)
theorem dX2_kindsAlike_25 : decode cX2_kindsAlike 25 = .ok (.aload_n 0, 1) := do_42 (rdb (p := 0) (i := 25) ch_cX2_kindsAlike_0 rfl)
theorem dX2_kindsAlike_26 : decode cX2_kindsAlike 26 = .ok (.iload_n 1, 1) := do_27 (rdb (p := 0) (i := 26) ch_cX2_kindsAlike_0 rfl)
theorem dX2_kindsAlike_27 : decode cX2_kindsAlike 27 = .ok (.iload 7, 2) := do_21 (rdb (p := 0) (i := 27) ch_cX2_kindsAlike_0 rfl) (rdb (p := 0) (i := 28) ch_cX2_kindsAlike_0 rfl)
theorem dX2_kindsAlike_29 : decode cX2_kindsAlike 29 = .ok (.iload_n 2, 1) := do_28 (rdb (p := 0) (i := 29) ch_cX2_kindsAlike_0 rfl)
theorem dX2_kindsAlike_30 : decode cX2_kindsAlike 30 = .ok (.iload_n 3, 1) := do_29 (rdb (p := 0) (i := 30) ch_cX2_kindsAlike_0 rfl)
theorem dX2_kindsAlike_31 : decode cX2_kindsAlike 31 = .ok (.iload 4, 2) := do_21 (rdb (p := 0) (i := 31) ch_cX2_kindsAlike_0 rfl) (rdb (p := 0) (i := 32) ch_cX2_kindsAlike_0 rfl)
theorem ch_cX2_kindsAlike_32 : (cX2_kindsAlike.data.toList.drop 32).take 36 = [4, 182, 0, 76, 153, 0, 12, 21, 6, 4, 21, 7, 120, 128, 54, 6, 132, 7, 1, 167, 255, 211, 21, 6, 172] := by decide +kernel
theorem dX2_kindsAlike_33 : decode cX2_kindsAlike 33 = .ok (.invokevirtual 76, 3) := do_182 (rdb (p := 32) (i := 1) ch_cX2_kindsAlike_32 rfl) (rdb (p := 32) (i := 2) ch_cX2_kindsAlike_32 rfl) (rdb (p := 32) (i := 3) ch_cX2_kindsAlike_32 rfl) rfl
theorem dX2_kindsAlike_36 : decode cX2_kindsAlike 36 = .ok (.ifCond .eq 12, 3) := do_153 (rdb (p := 32) (i := 4) ch_cX2_kindsAlike_32 rfl) (rdb (p := 32) (i := 5) ch_cX2_kindsAlike_32 rfl) (rdb (p := 32) (i := 6) ch_cX2_kindsAlike_32 rfl) (by decide +kernel)
theorem dX2_kindsAlike_39 : decode cX2_kindsAlike 39 = .ok (.iload 6, 2) := do_21 (rdb (p := 32) (i := 7) ch_cX2_kindsAlike_32 rfl) (rdb (p := 32) (i := 8) ch_cX2_kindsAlike_32 rfl)
theorem dX2_kindsAlike_41 : decode cX2_kindsAlike 41 = .ok (.iconst 1, 1) := do_4 (rdb (p := 32) (i := 9) ch_cX2_kindsAlike_32 rfl)
theorem dX2_kindsAlike_42 : decode cX2_kindsAlike 42 = .ok (.iload 7, 2) := do_21 (rdb (p := 32) (i := 10) ch_cX2_kindsAlike_32 rfl) (rdb (p := 32) (i := 11) ch_cX2_kindsAlike_32 rfl)
theorem dX2_kindsAlike_44 : decode cX2_kindsAlike 44 = .ok (.ishl, 1) := do_120 (rdb (p := 32) (i := 12) ch_cX2_kindsAlike_32 rfl)
theorem dX2_kindsAlike_45 : decode cX2_kindsAlike 45 = .ok (.ior, 1) := do_128 (rdb (p := 32) (i := 13) ch_cX2_kindsAlike_32 rfl)
theorem dX2_kindsAlike_46 : decode cX2_kindsAlike 46 = .ok (.istore 6, 2) := do_54 (rdb (p := 32) (i := 14) ch_cX2_kindsAlike_32 rfl) (rdb (p := 32) (i := 15) ch_cX2_kindsAlike_32 rfl)
theorem dX2_kindsAlike_48 : decode cX2_kindsAlike 48 = .ok (.iinc 7 1, 3) := do_132 (rdb (p := 32) (i := 16) ch_cX2_kindsAlike_32 rfl) (rdb (p := 32) (i := 17) ch_cX2_kindsAlike_32 rfl) (rdb (p := 32) (i := 18) ch_cX2_kindsAlike_32 rfl) (by decide +kernel)
theorem dX2_kindsAlike_51 : decode cX2_kindsAlike 51 = .ok (.goto (-45), 3) := do_167 (rdb (p := 32) (i := 19) ch_cX2_kindsAlike_32 rfl) (rdb (p := 32) (i := 20) ch_cX2_kindsAlike_32 rfl) (rdb (p := 32) (i := 21) ch_cX2_kindsAlike_32 rfl) (by decide +kernel)
theorem dX2_kindsAlike_54 : decode cX2_kindsAlike 54 = .ok (.iload 6, 2) := do_21 (rdb (p := 32) (i := 22) ch_cX2_kindsAlike_32 rfl) (rdb (p := 32) (i := 23) ch_cX2_kindsAlike_32 rfl)
theorem dX2_kindsAlike_56 : decode cX2_kindsAlike 56 = .ok (.ireturn, 1) := do_172 (rdb (p := 32) (i := 24) ch_cX2_kindsAlike_32 rfl)
theorem dX2_late_0 : decode cX2_late 0 = .ok (.iload_n 1, 1) := by decide +kernel
theorem dX2_late_1 : decode cX2_late 1 = .ok (.iload_n 0, 1) := by decide +kernel
theorem dX2_late_2 : decode cX2_late 2 = .ok (.iconst 1, 1) := by decide +kernel
theorem dX2_late_3 : decode cX2_late 3 = .ok (.iand, 1) := by decide +kernel
theorem dX2_late_4 : decode cX2_late 4 = .ok (.iconst 1, 1) := by decide +kernel
theorem dX2_late_5 : decode cX2_late 5 = .ok (.if_icmp .ne 8, 3) := by decide +kernel
theorem dX2_late_8 : decode cX2_late 8 = .ok (.bipush 8, 2) := by decide +kernel
theorem dX2_late_10 : decode cX2_late 10 = .ok (.goto 5, 3) := by decide +kernel
theorem dX2_late_13 : decode cX2_late 13 = .ok (.bipush 6, 2) := by decide +kernel
theorem dX2_late_15 : decode cX2_late 15 = .ok (.imul, 1) := by decide +kernel
theorem dX2_late_16 : decode cX2_late 16 = .ok (.ireturn, 1) := by decide +kernel
theorem ch_cX2_leastLoudness_0 : (cX2_leastLoudness.data.toList.drop 0).take 36 = [4, 54, 4, 21, 4, 16, 99, 163, 0, 35, 42, 27, 28, 16, 100, 16, 9, 27, 184, 0, 56, 104, 21, 4, 96, 29, 3, 182, 0, 76, 153, 0, 6, 21, 4, 172] := by decide +kernel
theorem dX2_leastLoudness_0 : decode cX2_leastLoudness 0 = .ok (.iconst 1, 1) := do_4 (rdb (p := 0) (i := 0) ch_cX2_leastLoudness_0 rfl)
theorem dX2_leastLoudness_1 : decode cX2_leastLoudness 1 = .ok (.istore 4, 2) := do_54 (rdb (p := 0) (i := 1) ch_cX2_leastLoudness_0 rfl) (rdb (p := 0) (i := 2) ch_cX2_leastLoudness_0 rfl)
theorem dX2_leastLoudness_3 : decode cX2_leastLoudness 3 = .ok (.iload 4, 2) := do_21 (rdb (p := 0) (i := 3) ch_cX2_leastLoudness_0 rfl) (rdb (p := 0) (i := 4) ch_cX2_leastLoudness_0 rfl)
theorem dX2_leastLoudness_5 : decode cX2_leastLoudness 5 = .ok (.bipush 99, 2) := do_16 (rdb (p := 0) (i := 5) ch_cX2_leastLoudness_0 rfl) (rdb (p := 0) (i := 6) ch_cX2_leastLoudness_0 rfl) (by decide +kernel)
theorem dX2_leastLoudness_7 : decode cX2_leastLoudness 7 = .ok (.if_icmp .gt 35, 3) := do_163 (rdb (p := 0) (i := 7) ch_cX2_leastLoudness_0 rfl) (rdb (p := 0) (i := 8) ch_cX2_leastLoudness_0 rfl) (rdb (p := 0) (i := 9) ch_cX2_leastLoudness_0 rfl) (by decide +kernel)
theorem dX2_leastLoudness_10 : decode cX2_leastLoudness 10 = .ok (.aload_n 0, 1) := do_42 (rdb (p := 0) (i := 10) ch_cX2_leastLoudness_0 rfl)
theorem dX2_leastLoudness_11 : decode cX2_leastLoudness 11 = .ok (.iload_n 1, 1) := do_27 (rdb (p := 0) (i := 11) ch_cX2_leastLoudness_0 rfl)
theorem dX2_leastLoudness_12 : decode cX2_leastLoudness 12 = .ok (.iload_n 2, 1) := do_28 (rdb (p := 0) (i := 12) ch_cX2_leastLoudness_0 rfl)
theorem dX2_leastLoudness_13 : decode cX2_leastLoudness 13 = .ok (.bipush 100, 2) := do_16 (rdb (p := 0) (i := 13) ch_cX2_leastLoudness_0 rfl) (rdb (p := 0) (i := 14) ch_cX2_leastLoudness_0 rfl) (by decide +kernel)
theorem dX2_leastLoudness_15 : decode cX2_leastLoudness 15 = .ok (.bipush 9, 2) := do_16 (rdb (p := 0) (i := 15) ch_cX2_leastLoudness_0 rfl) (rdb (p := 0) (i := 16) ch_cX2_leastLoudness_0 rfl) (by decide +kernel)
theorem dX2_leastLoudness_17 : decode cX2_leastLoudness 17 = .ok (.iload_n 1, 1) := do_27 (rdb (p := 0) (i := 17) ch_cX2_leastLoudness_0 rfl)
theorem dX2_leastLoudness_18 : decode cX2_leastLoudness 18 = .ok (.invokestatic 56, 3) := do_184 (rdb (p := 0) (i := 18) ch_cX2_leastLoudness_0 rfl) (rdb (p := 0) (i := 19) ch_cX2_leastLoudness_0 rfl) (rdb (p := 0) (i := 20) ch_cX2_leastLoudness_0 rfl) rfl
theorem dX2_leastLoudness_21 : decode cX2_leastLoudness 21 = .ok (.imul, 1) := do_104 (rdb (p := 0) (i := 21) ch_cX2_leastLoudness_0 rfl)
theorem dX2_leastLoudness_22 : decode cX2_leastLoudness 22 = .ok (.iload 4, 2) := do_21 (rdb (p := 0) (i := 22) ch_cX2_leastLoudness_0 rfl) (rdb (p := 0) (i := 23) ch_cX2_leastLoudness_0 rfl)
theorem dX2_leastLoudness_24 : decode cX2_leastLoudness 24 = .ok (.iadd, 1) := do_96 (rdb (p := 0) (i := 24) ch_cX2_leastLoudness_0 rfl)
theorem dX2_leastLoudness_25 : decode cX2_leastLoudness 25 = .ok (.iload_n 3, 1) := do_29 (rdb (p := 0) (i := 25) ch_cX2_leastLoudness_0 rfl)
theorem dX2_leastLoudness_26 : decode cX2_leastLoudness 26 = .ok (.iconst 0, 1) := do_3 (rdb (p := 0) (i := 26) ch_cX2_leastLoudness_0 rfl)
theorem dX2_leastLoudness_27 : decode cX2_leastLoudness 27 = .ok (.invokevirtual 76, 3) := do_182 (rdb (p := 0) (i := 27) ch_cX2_leastLoudness_0 rfl) (rdb (p := 0) (i := 28) ch_cX2_leastLoudness_0 rfl) (rdb (p := 0) (i := 29) ch_cX2_leastLoudness_0 rfl) rfl
theorem dX2_leastLoudness_30 : decode cX2_leastLoudness 30 = .ok (.ifCond .eq 6, 3) := do_153 (rdb (p := 0) (i := 30) ch_cX2_leastLoudness_0 rfl) (rdb (p := 0) (i := 31) ch_cX2_leastLoudness_0 rfl) (rdb (p := 0) (i := 32) ch_cX2_leastLoudness_0 rfl) (by decide +kernel)
theorem ch_cX2_leastLoudness_32 : (cX2_leastLoudness.data.toList.drop 32).take 36 = [6, 21, 4, 172, 132, 4, 1, 167, 255, 220, 3, 172] := by decide +kernel
theorem dX2_leastLoudness_33 : decode cX2_leastLoudness 33 = .ok (.iload 4, 2) := do_21 (rdb (p := 32) (i := 1) ch_cX2_leastLoudness_32 rfl) (rdb (p := 32) (i := 2) ch_cX2_leastLoudness_32 rfl)
theorem dX2_leastLoudness_35 : decode cX2_leastLoudness 35 = .ok (.ireturn, 1) := do_172 (rdb (p := 32) (i := 3) ch_cX2_leastLoudness_32 rfl)
theorem dX2_leastLoudness_36 : decode cX2_leastLoudness 36 = .ok (.iinc 4 1, 3) := do_132 (rdb (p := 32) (i := 4) ch_cX2_leastLoudness_32 rfl) (rdb (p := 32) (i := 5) ch_cX2_leastLoudness_32 rfl) (rdb (p := 32) (i := 6) ch_cX2_leastLoudness_32 rfl) (by decide +kernel)
theorem dX2_leastLoudness_39 : decode cX2_leastLoudness 39 = .ok (.goto (-36), 3) := do_167 (rdb (p := 32) (i := 7) ch_cX2_leastLoudness_32 rfl) (rdb (p := 32) (i := 8) ch_cX2_leastLoudness_32 rfl) (rdb (p := 32) (i := 9) ch_cX2_leastLoudness_32 rfl) (by decide +kernel)
theorem dX2_leastLoudness_42 : decode cX2_leastLoudness 42 = .ok (.iconst 0, 1) := do_3 (rdb (p := 32) (i := 10) ch_cX2_leastLoudness_32 rfl)
theorem dX2_leastLoudness_43 : decode cX2_leastLoudness 43 = .ok (.ireturn, 1) := do_172 (rdb (p := 32) (i := 11) ch_cX2_leastLoudness_32 rfl)
theorem dX2_leastPitch_0 : decode cX2_leastPitch 0 = .ok (.iconst 1, 1) := by decide +kernel
theorem dX2_leastPitch_1 : decode cX2_leastPitch 1 = .ok (.istore 4, 2) := by decide +kernel
theorem dX2_leastPitch_3 : decode cX2_leastPitch 3 = .ok (.iload 4, 2) := by decide +kernel
theorem dX2_leastPitch_5 : decode cX2_leastPitch 5 = .ok (.bipush 9, 2) := by decide +kernel
theorem dX2_leastPitch_7 : decode cX2_leastPitch 7 = .ok (.if_icmp .gt 31, 3) := by decide +kernel
theorem dX2_leastPitch_10 : decode cX2_leastPitch 10 = .ok (.aload_n 0, 1) := by decide +kernel
theorem dX2_leastPitch_11 : decode cX2_leastPitch 11 = .ok (.iload_n 1, 1) := by decide +kernel
theorem dX2_leastPitch_12 : decode cX2_leastPitch 12 = .ok (.iload_n 2, 1) := by decide +kernel
theorem dX2_leastPitch_13 : decode cX2_leastPitch 13 = .ok (.bipush 100, 2) := by decide +kernel
theorem dX2_leastPitch_15 : decode cX2_leastPitch 15 = .ok (.iload 4, 2) := by decide +kernel
theorem dX2_leastPitch_17 : decode cX2_leastPitch 17 = .ok (.imul, 1) := by decide +kernel
theorem dX2_leastPitch_18 : decode cX2_leastPitch 18 = .ok (.bipush 99, 2) := by decide +kernel
theorem dX2_leastPitch_20 : decode cX2_leastPitch 20 = .ok (.iadd, 1) := by decide +kernel
theorem dX2_leastPitch_21 : decode cX2_leastPitch 21 = .ok (.iload_n 3, 1) := by decide +kernel
theorem dX2_leastPitch_22 : decode cX2_leastPitch 22 = .ok (.iconst 0, 1) := by decide +kernel
theorem dX2_leastPitch_23 : decode cX2_leastPitch 23 = .ok (.invokevirtual 76, 3) := by decide +kernel
theorem dX2_leastPitch_26 : decode cX2_leastPitch 26 = .ok (.ifCond .eq 6, 3) := by decide +kernel
theorem dX2_leastPitch_29 : decode cX2_leastPitch 29 = .ok (.iload 4, 2) := by decide +kernel
theorem dX2_leastPitch_31 : decode cX2_leastPitch 31 = .ok (.ireturn, 1) := by decide +kernel
theorem dX2_leastPitch_32 : decode cX2_leastPitch 32 = .ok (.iinc 4 1, 3) := by decide +kernel
theorem dX2_leastPitch_35 : decode cX2_leastPitch 35 = .ok (.goto (-32), 3) := by decide +kernel
theorem dX2_leastPitch_38 : decode cX2_leastPitch 38 = .ok (.iconst 0, 1) := by decide +kernel
theorem dX2_leastPitch_39 : decode cX2_leastPitch 39 = .ok (.ireturn, 1) := by decide +kernel
theorem ch_cX2_strength_0 : (cX2_strength.data.toList.drop 0).take 36 = [28, 16, 100, 108, 54, 4, 28, 16, 100, 112, 54, 5, 27, 155, 0, 19, 27, 8, 162, 0, 14, 42, 180, 0, 25, 27, 46, 21, 4, 164, 0, 5, 3, 172, 21, 5] := by decide +kernel
theorem dX2_strength_0 : decode cX2_strength 0 = .ok (.iload_n 2, 1) := do_28 (rdb (p := 0) (i := 0) ch_cX2_strength_0 rfl)
theorem dX2_strength_1 : decode cX2_strength 1 = .ok (.bipush 100, 2) := do_16 (rdb (p := 0) (i := 1) ch_cX2_strength_0 rfl) (rdb (p := 0) (i := 2) ch_cX2_strength_0 rfl) (by decide +kernel)
theorem dX2_strength_3 : decode cX2_strength 3 = .ok (.idiv, 1) := do_108 (rdb (p := 0) (i := 3) ch_cX2_strength_0 rfl)
theorem dX2_strength_4 : decode cX2_strength 4 = .ok (.istore 4, 2) := do_54 (rdb (p := 0) (i := 4) ch_cX2_strength_0 rfl) (rdb (p := 0) (i := 5) ch_cX2_strength_0 rfl)
theorem dX2_strength_6 : decode cX2_strength 6 = .ok (.iload_n 2, 1) := do_28 (rdb (p := 0) (i := 6) ch_cX2_strength_0 rfl)
theorem dX2_strength_7 : decode cX2_strength 7 = .ok (.bipush 100, 2) := do_16 (rdb (p := 0) (i := 7) ch_cX2_strength_0 rfl) (rdb (p := 0) (i := 8) ch_cX2_strength_0 rfl) (by decide +kernel)
theorem dX2_strength_9 : decode cX2_strength 9 = .ok (.irem, 1) := do_112 (rdb (p := 0) (i := 9) ch_cX2_strength_0 rfl)
theorem dX2_strength_10 : decode cX2_strength 10 = .ok (.istore 5, 2) := do_54 (rdb (p := 0) (i := 10) ch_cX2_strength_0 rfl) (rdb (p := 0) (i := 11) ch_cX2_strength_0 rfl)
theorem dX2_strength_12 : decode cX2_strength 12 = .ok (.iload_n 1, 1) := do_27 (rdb (p := 0) (i := 12) ch_cX2_strength_0 rfl)
theorem dX2_strength_13 : decode cX2_strength 13 = .ok (.ifCond .lt 19, 3) := do_155 (rdb (p := 0) (i := 13) ch_cX2_strength_0 rfl) (rdb (p := 0) (i := 14) ch_cX2_strength_0 rfl) (rdb (p := 0) (i := 15) ch_cX2_strength_0 rfl) (by decide +kernel)
theorem dX2_strength_16 : decode cX2_strength 16 = .ok (.iload_n 1, 1) := do_27 (rdb (p := 0) (i := 16) ch_cX2_strength_0 rfl)
theorem dX2_strength_17 : decode cX2_strength 17 = .ok (.iconst 5, 1) := do_8 (rdb (p := 0) (i := 17) ch_cX2_strength_0 rfl)
theorem dX2_strength_18 : decode cX2_strength 18 = .ok (.if_icmp .ge 14, 3) := do_162 (rdb (p := 0) (i := 18) ch_cX2_strength_0 rfl) (rdb (p := 0) (i := 19) ch_cX2_strength_0 rfl) (rdb (p := 0) (i := 20) ch_cX2_strength_0 rfl) (by decide +kernel)
theorem dX2_strength_21 : decode cX2_strength 21 = .ok (.aload_n 0, 1) := do_42 (rdb (p := 0) (i := 21) ch_cX2_strength_0 rfl)
theorem dX2_strength_22 : decode cX2_strength 22 = .ok (.getfield 25, 3) := do_180 (rdb (p := 0) (i := 22) ch_cX2_strength_0 rfl) (rdb (p := 0) (i := 23) ch_cX2_strength_0 rfl) (rdb (p := 0) (i := 24) ch_cX2_strength_0 rfl) rfl
theorem dX2_strength_25 : decode cX2_strength 25 = .ok (.iload_n 1, 1) := do_27 (rdb (p := 0) (i := 25) ch_cX2_strength_0 rfl)
theorem dX2_strength_26 : decode cX2_strength 26 = .ok (.iaload, 1) := do_46 (rdb (p := 0) (i := 26) ch_cX2_strength_0 rfl)
theorem dX2_strength_27 : decode cX2_strength 27 = .ok (.iload 4, 2) := do_21 (rdb (p := 0) (i := 27) ch_cX2_strength_0 rfl) (rdb (p := 0) (i := 28) ch_cX2_strength_0 rfl)
theorem dX2_strength_29 : decode cX2_strength 29 = .ok (.if_icmp .le 5, 3) := do_164 (rdb (p := 0) (i := 29) ch_cX2_strength_0 rfl) (rdb (p := 0) (i := 30) ch_cX2_strength_0 rfl) (rdb (p := 0) (i := 31) ch_cX2_strength_0 rfl) (by decide +kernel)
theorem ch_cX2_strength_32 : (cX2_strength.data.toList.drop 32).take 36 = [3, 172, 21, 5, 42, 180, 0, 21, 27, 46, 104, 16, 50, 108, 5, 29, 104, 100, 54, 6, 42, 180, 0, 30, 3, 50, 182, 0, 48, 153, 0, 53, 42, 180, 0, 34] := by decide +kernel
theorem dX2_strength_32 : decode cX2_strength 32 = .ok (.iconst 0, 1) := do_3 (rdb (p := 32) (i := 0) ch_cX2_strength_32 rfl)
theorem dX2_strength_33 : decode cX2_strength 33 = .ok (.ireturn, 1) := do_172 (rdb (p := 32) (i := 1) ch_cX2_strength_32 rfl)
theorem dX2_strength_34 : decode cX2_strength 34 = .ok (.iload 5, 2) := do_21 (rdb (p := 32) (i := 2) ch_cX2_strength_32 rfl) (rdb (p := 32) (i := 3) ch_cX2_strength_32 rfl)
theorem dX2_strength_36 : decode cX2_strength 36 = .ok (.aload_n 0, 1) := do_42 (rdb (p := 32) (i := 4) ch_cX2_strength_32 rfl)
theorem dX2_strength_37 : decode cX2_strength 37 = .ok (.getfield 21, 3) := do_180 (rdb (p := 32) (i := 5) ch_cX2_strength_32 rfl) (rdb (p := 32) (i := 6) ch_cX2_strength_32 rfl) (rdb (p := 32) (i := 7) ch_cX2_strength_32 rfl) rfl
theorem dX2_strength_40 : decode cX2_strength 40 = .ok (.iload_n 1, 1) := do_27 (rdb (p := 32) (i := 8) ch_cX2_strength_32 rfl)
theorem dX2_strength_41 : decode cX2_strength 41 = .ok (.iaload, 1) := do_46 (rdb (p := 32) (i := 9) ch_cX2_strength_32 rfl)
theorem dX2_strength_42 : decode cX2_strength 42 = .ok (.imul, 1) := do_104 (rdb (p := 32) (i := 10) ch_cX2_strength_32 rfl)
theorem dX2_strength_43 : decode cX2_strength 43 = .ok (.bipush 50, 2) := do_16 (rdb (p := 32) (i := 11) ch_cX2_strength_32 rfl) (rdb (p := 32) (i := 12) ch_cX2_strength_32 rfl) (by decide +kernel)
theorem dX2_strength_45 : decode cX2_strength 45 = .ok (.idiv, 1) := do_108 (rdb (p := 32) (i := 13) ch_cX2_strength_32 rfl)
theorem dX2_strength_46 : decode cX2_strength 46 = .ok (.iconst 2, 1) := do_5 (rdb (p := 32) (i := 14) ch_cX2_strength_32 rfl)
theorem dX2_strength_47 : decode cX2_strength 47 = .ok (.iload_n 3, 1) := do_29 (rdb (p := 32) (i := 15) ch_cX2_strength_32 rfl)
theorem dX2_strength_48 : decode cX2_strength 48 = .ok (.imul, 1) := do_104 (rdb (p := 32) (i := 16) ch_cX2_strength_32 rfl)
theorem dX2_strength_49 : decode cX2_strength 49 = .ok (.isub, 1) := do_100 (rdb (p := 32) (i := 17) ch_cX2_strength_32 rfl)
theorem dX2_strength_50 : decode cX2_strength 50 = .ok (.istore 6, 2) := do_54 (rdb (p := 32) (i := 18) ch_cX2_strength_32 rfl) (rdb (p := 32) (i := 19) ch_cX2_strength_32 rfl)
theorem dX2_strength_52 : decode cX2_strength 52 = .ok (.aload_n 0, 1) := do_42 (rdb (p := 32) (i := 20) ch_cX2_strength_32 rfl)
theorem dX2_strength_53 : decode cX2_strength 53 = .ok (.getfield 30, 3) := do_180 (rdb (p := 32) (i := 21) ch_cX2_strength_32 rfl) (rdb (p := 32) (i := 22) ch_cX2_strength_32 rfl) (rdb (p := 32) (i := 23) ch_cX2_strength_32 rfl) rfl
theorem dX2_strength_56 : decode cX2_strength 56 = .ok (.iconst 0, 1) := do_3 (rdb (p := 32) (i := 24) ch_cX2_strength_32 rfl)
theorem dX2_strength_57 : decode cX2_strength 57 = .ok (.aaload, 1) := do_50 (rdb (p := 32) (i := 25) ch_cX2_strength_32 rfl)
theorem dX2_strength_58 : decode cX2_strength 58 = .ok (.invokevirtual 48, 3) := do_182 (rdb (p := 32) (i := 26) ch_cX2_strength_32 rfl) (rdb (p := 32) (i := 27) ch_cX2_strength_32 rfl) (rdb (p := 32) (i := 28) ch_cX2_strength_32 rfl) rfl
theorem dX2_strength_61 : decode cX2_strength 61 = .ok (.ifCond .eq 53, 3) := do_153 (rdb (p := 32) (i := 29) ch_cX2_strength_32 rfl) (rdb (p := 32) (i := 30) ch_cX2_strength_32 rfl) (rdb (p := 32) (i := 31) ch_cX2_strength_32 rfl) (by decide +kernel)
theorem ch_cX2_strength_64 : (cX2_strength.data.toList.drop 64).take 36 = [42, 180, 0, 34, 3, 21, 5, 79, 42, 180, 0, 34, 4, 42, 180, 0, 21, 27, 46, 79, 42, 180, 0, 34, 5, 29, 79, 42, 180, 0, 34, 6, 21, 4, 79, 42] := by decide +kernel
theorem dX2_strength_64 : decode cX2_strength 64 = .ok (.aload_n 0, 1) := do_42 (rdb (p := 64) (i := 0) ch_cX2_strength_64 rfl)
theorem dX2_strength_65 : decode cX2_strength 65 = .ok (.getfield 34, 3) := do_180 (rdb (p := 64) (i := 1) ch_cX2_strength_64 rfl) (rdb (p := 64) (i := 2) ch_cX2_strength_64 rfl) (rdb (p := 64) (i := 3) ch_cX2_strength_64 rfl) rfl
theorem dX2_strength_68 : decode cX2_strength 68 = .ok (.iconst 0, 1) := do_3 (rdb (p := 64) (i := 4) ch_cX2_strength_64 rfl)
theorem dX2_strength_69 : decode cX2_strength 69 = .ok (.iload 5, 2) := do_21 (rdb (p := 64) (i := 5) ch_cX2_strength_64 rfl) (rdb (p := 64) (i := 6) ch_cX2_strength_64 rfl)
theorem dX2_strength_71 : decode cX2_strength 71 = .ok (.iastore, 1) := do_79 (rdb (p := 64) (i := 7) ch_cX2_strength_64 rfl)
theorem dX2_strength_72 : decode cX2_strength 72 = .ok (.aload_n 0, 1) := do_42 (rdb (p := 64) (i := 8) ch_cX2_strength_64 rfl)
theorem dX2_strength_73 : decode cX2_strength 73 = .ok (.getfield 34, 3) := do_180 (rdb (p := 64) (i := 9) ch_cX2_strength_64 rfl) (rdb (p := 64) (i := 10) ch_cX2_strength_64 rfl) (rdb (p := 64) (i := 11) ch_cX2_strength_64 rfl) rfl
theorem dX2_strength_76 : decode cX2_strength 76 = .ok (.iconst 1, 1) := do_4 (rdb (p := 64) (i := 12) ch_cX2_strength_64 rfl)
theorem dX2_strength_77 : decode cX2_strength 77 = .ok (.aload_n 0, 1) := do_42 (rdb (p := 64) (i := 13) ch_cX2_strength_64 rfl)
theorem dX2_strength_78 : decode cX2_strength 78 = .ok (.getfield 21, 3) := do_180 (rdb (p := 64) (i := 14) ch_cX2_strength_64 rfl) (rdb (p := 64) (i := 15) ch_cX2_strength_64 rfl) (rdb (p := 64) (i := 16) ch_cX2_strength_64 rfl) rfl
theorem dX2_strength_81 : decode cX2_strength 81 = .ok (.iload_n 1, 1) := do_27 (rdb (p := 64) (i := 17) ch_cX2_strength_64 rfl)
theorem dX2_strength_82 : decode cX2_strength 82 = .ok (.iaload, 1) := do_46 (rdb (p := 64) (i := 18) ch_cX2_strength_64 rfl)
theorem dX2_strength_83 : decode cX2_strength 83 = .ok (.iastore, 1) := do_79 (rdb (p := 64) (i := 19) ch_cX2_strength_64 rfl)
theorem dX2_strength_84 : decode cX2_strength 84 = .ok (.aload_n 0, 1) := do_42 (rdb (p := 64) (i := 20) ch_cX2_strength_64 rfl)
theorem dX2_strength_85 : decode cX2_strength 85 = .ok (.getfield 34, 3) := do_180 (rdb (p := 64) (i := 21) ch_cX2_strength_64 rfl) (rdb (p := 64) (i := 22) ch_cX2_strength_64 rfl) (rdb (p := 64) (i := 23) ch_cX2_strength_64 rfl) rfl
theorem dX2_strength_88 : decode cX2_strength 88 = .ok (.iconst 2, 1) := do_5 (rdb (p := 64) (i := 24) ch_cX2_strength_64 rfl)
theorem dX2_strength_89 : decode cX2_strength 89 = .ok (.iload_n 3, 1) := do_29 (rdb (p := 64) (i := 25) ch_cX2_strength_64 rfl)
theorem dX2_strength_90 : decode cX2_strength 90 = .ok (.iastore, 1) := do_79 (rdb (p := 64) (i := 26) ch_cX2_strength_64 rfl)
theorem dX2_strength_91 : decode cX2_strength 91 = .ok (.aload_n 0, 1) := do_42 (rdb (p := 64) (i := 27) ch_cX2_strength_64 rfl)
theorem dX2_strength_92 : decode cX2_strength 92 = .ok (.getfield 34, 3) := do_180 (rdb (p := 64) (i := 28) ch_cX2_strength_64 rfl) (rdb (p := 64) (i := 29) ch_cX2_strength_64 rfl) (rdb (p := 64) (i := 30) ch_cX2_strength_64 rfl) rfl
theorem dX2_strength_95 : decode cX2_strength 95 = .ok (.iconst 3, 1) := do_6 (rdb (p := 64) (i := 31) ch_cX2_strength_64 rfl)
theorem ch_cX2_strength_96 : (cX2_strength.data.toList.drop 96).take 36 = [21, 4, 79, 42, 180, 0, 30, 3, 50, 42, 180, 0, 34, 182, 0, 52, 54, 6, 3, 17, 3, 231, 21, 6, 184, 0, 56, 184, 0, 62, 54, 7, 42, 180, 0, 16] := by decide +kernel
theorem dX2_strength_96 : decode cX2_strength 96 = .ok (.iload 4, 2) := do_21 (rdb (p := 96) (i := 0) ch_cX2_strength_96 rfl) (rdb (p := 96) (i := 1) ch_cX2_strength_96 rfl)
theorem dX2_strength_98 : decode cX2_strength 98 = .ok (.iastore, 1) := do_79 (rdb (p := 96) (i := 2) ch_cX2_strength_96 rfl)
theorem dX2_strength_99 : decode cX2_strength 99 = .ok (.aload_n 0, 1) := do_42 (rdb (p := 96) (i := 3) ch_cX2_strength_96 rfl)
theorem dX2_strength_100 : decode cX2_strength 100 = .ok (.getfield 30, 3) := do_180 (rdb (p := 96) (i := 4) ch_cX2_strength_96 rfl) (rdb (p := 96) (i := 5) ch_cX2_strength_96 rfl) (rdb (p := 96) (i := 6) ch_cX2_strength_96 rfl) rfl
theorem dX2_strength_103 : decode cX2_strength 103 = .ok (.iconst 0, 1) := do_3 (rdb (p := 96) (i := 7) ch_cX2_strength_96 rfl)
theorem dX2_strength_104 : decode cX2_strength 104 = .ok (.aaload, 1) := do_50 (rdb (p := 96) (i := 8) ch_cX2_strength_96 rfl)
theorem dX2_strength_105 : decode cX2_strength 105 = .ok (.aload_n 0, 1) := do_42 (rdb (p := 96) (i := 9) ch_cX2_strength_96 rfl)
theorem dX2_strength_106 : decode cX2_strength 106 = .ok (.getfield 34, 3) := do_180 (rdb (p := 96) (i := 10) ch_cX2_strength_96 rfl) (rdb (p := 96) (i := 11) ch_cX2_strength_96 rfl) (rdb (p := 96) (i := 12) ch_cX2_strength_96 rfl) rfl
theorem dX2_strength_109 : decode cX2_strength 109 = .ok (.invokevirtual 52, 3) := do_182 (rdb (p := 96) (i := 13) ch_cX2_strength_96 rfl) (rdb (p := 96) (i := 14) ch_cX2_strength_96 rfl) (rdb (p := 96) (i := 15) ch_cX2_strength_96 rfl) rfl
theorem dX2_strength_112 : decode cX2_strength 112 = .ok (.istore 6, 2) := do_54 (rdb (p := 96) (i := 16) ch_cX2_strength_96 rfl) (rdb (p := 96) (i := 17) ch_cX2_strength_96 rfl)
theorem dX2_strength_114 : decode cX2_strength 114 = .ok (.iconst 0, 1) := do_3 (rdb (p := 96) (i := 18) ch_cX2_strength_96 rfl)
theorem dX2_strength_115 : decode cX2_strength 115 = .ok (.sipush 999, 3) := do_17 (rdb (p := 96) (i := 19) ch_cX2_strength_96 rfl) (rdb (p := 96) (i := 20) ch_cX2_strength_96 rfl) (rdb (p := 96) (i := 21) ch_cX2_strength_96 rfl) (by decide +kernel)
theorem dX2_strength_118 : decode cX2_strength 118 = .ok (.iload 6, 2) := do_21 (rdb (p := 96) (i := 22) ch_cX2_strength_96 rfl) (rdb (p := 96) (i := 23) ch_cX2_strength_96 rfl)
theorem dX2_strength_120 : decode cX2_strength 120 = .ok (.invokestatic 56, 3) := do_184 (rdb (p := 96) (i := 24) ch_cX2_strength_96 rfl) (rdb (p := 96) (i := 25) ch_cX2_strength_96 rfl) (rdb (p := 96) (i := 26) ch_cX2_strength_96 rfl) rfl
theorem dX2_strength_123 : decode cX2_strength 123 = .ok (.invokestatic 62, 3) := do_184 (rdb (p := 96) (i := 27) ch_cX2_strength_96 rfl) (rdb (p := 96) (i := 28) ch_cX2_strength_96 rfl) (rdb (p := 96) (i := 29) ch_cX2_strength_96 rfl) rfl
theorem dX2_strength_126 : decode cX2_strength 126 = .ok (.istore 7, 2) := do_54 (rdb (p := 96) (i := 30) ch_cX2_strength_96 rfl) (rdb (p := 96) (i := 31) ch_cX2_strength_96 rfl)
theorem ch_cX2_strength_128 : (cX2_strength.data.toList.drop 128).take 36 = [42, 180, 0, 16, 4, 160, 0, 10, 21, 7, 5, 108, 167, 0, 5, 21, 7, 172] := by decide +kernel
theorem dX2_strength_128 : decode cX2_strength 128 = .ok (.aload_n 0, 1) := do_42 (rdb (p := 128) (i := 0) ch_cX2_strength_128 rfl)
theorem dX2_strength_129 : decode cX2_strength 129 = .ok (.getfield 16, 3) := do_180 (rdb (p := 128) (i := 1) ch_cX2_strength_128 rfl) (rdb (p := 128) (i := 2) ch_cX2_strength_128 rfl) (rdb (p := 128) (i := 3) ch_cX2_strength_128 rfl) rfl
theorem dX2_strength_132 : decode cX2_strength 132 = .ok (.iconst 1, 1) := do_4 (rdb (p := 128) (i := 4) ch_cX2_strength_128 rfl)
theorem dX2_strength_133 : decode cX2_strength 133 = .ok (.if_icmp .ne 10, 3) := do_160 (rdb (p := 128) (i := 5) ch_cX2_strength_128 rfl) (rdb (p := 128) (i := 6) ch_cX2_strength_128 rfl) (rdb (p := 128) (i := 7) ch_cX2_strength_128 rfl) (by decide +kernel)
theorem dX2_strength_136 : decode cX2_strength 136 = .ok (.iload 7, 2) := do_21 (rdb (p := 128) (i := 8) ch_cX2_strength_128 rfl) (rdb (p := 128) (i := 9) ch_cX2_strength_128 rfl)
theorem dX2_strength_138 : decode cX2_strength 138 = .ok (.iconst 2, 1) := do_5 (rdb (p := 128) (i := 10) ch_cX2_strength_128 rfl)
theorem dX2_strength_139 : decode cX2_strength 139 = .ok (.idiv, 1) := do_108 (rdb (p := 128) (i := 11) ch_cX2_strength_128 rfl)
theorem dX2_strength_140 : decode cX2_strength 140 = .ok (.goto 5, 3) := do_167 (rdb (p := 128) (i := 12) ch_cX2_strength_128 rfl) (rdb (p := 128) (i := 13) ch_cX2_strength_128 rfl) (rdb (p := 128) (i := 14) ch_cX2_strength_128 rfl) (by decide +kernel)
theorem dX2_strength_143 : decode cX2_strength 143 = .ok (.iload 7, 2) := do_21 (rdb (p := 128) (i := 15) ch_cX2_strength_128 rfl) (rdb (p := 128) (i := 16) ch_cX2_strength_128 rfl)
theorem dX2_strength_145 : decode cX2_strength 145 = .ok (.ireturn, 1) := do_172 (rdb (p := 128) (i := 17) ch_cX2_strength_128 rfl)
theorem ch_cX2_takeFrom_0 : (cX2_takeFrom.data.toList.drop 0).take 36 = [42, 43, 180, 0, 7, 181, 0, 7, 42, 43, 180, 0, 13, 181, 0, 13, 42, 43, 180, 0, 16, 181, 0, 16, 43, 180, 0, 21, 3, 42, 180, 0, 21, 3, 8, 184] := by decide +kernel
theorem dX2_takeFrom_0 : decode cX2_takeFrom 0 = .ok (.aload_n 0, 1) := do_42 (rdb (p := 0) (i := 0) ch_cX2_takeFrom_0 rfl)
theorem dX2_takeFrom_1 : decode cX2_takeFrom 1 = .ok (.aload_n 1, 1) := do_43 (rdb (p := 0) (i := 1) ch_cX2_takeFrom_0 rfl)
theorem dX2_takeFrom_2 : decode cX2_takeFrom 2 = .ok (.getfield 7, 3) := do_180 (rdb (p := 0) (i := 2) ch_cX2_takeFrom_0 rfl) (rdb (p := 0) (i := 3) ch_cX2_takeFrom_0 rfl) (rdb (p := 0) (i := 4) ch_cX2_takeFrom_0 rfl) rfl
theorem dX2_takeFrom_5 : decode cX2_takeFrom 5 = .ok (.putfield 7, 3) := do_181 (rdb (p := 0) (i := 5) ch_cX2_takeFrom_0 rfl) (rdb (p := 0) (i := 6) ch_cX2_takeFrom_0 rfl) (rdb (p := 0) (i := 7) ch_cX2_takeFrom_0 rfl) rfl
theorem dX2_takeFrom_8 : decode cX2_takeFrom 8 = .ok (.aload_n 0, 1) := do_42 (rdb (p := 0) (i := 8) ch_cX2_takeFrom_0 rfl)
theorem dX2_takeFrom_9 : decode cX2_takeFrom 9 = .ok (.aload_n 1, 1) := do_43 (rdb (p := 0) (i := 9) ch_cX2_takeFrom_0 rfl)
theorem dX2_takeFrom_10 : decode cX2_takeFrom 10 = .ok (.getfield 13, 3) := do_180 (rdb (p := 0) (i := 10) ch_cX2_takeFrom_0 rfl) (rdb (p := 0) (i := 11) ch_cX2_takeFrom_0 rfl) (rdb (p := 0) (i := 12) ch_cX2_takeFrom_0 rfl) rfl
theorem dX2_takeFrom_13 : decode cX2_takeFrom 13 = .ok (.putfield 13, 3) := do_181 (rdb (p := 0) (i := 13) ch_cX2_takeFrom_0 rfl) (rdb (p := 0) (i := 14) ch_cX2_takeFrom_0 rfl) (rdb (p := 0) (i := 15) ch_cX2_takeFrom_0 rfl) rfl
theorem dX2_takeFrom_16 : decode cX2_takeFrom 16 = .ok (.aload_n 0, 1) := do_42 (rdb (p := 0) (i := 16) ch_cX2_takeFrom_0 rfl)
theorem dX2_takeFrom_17 : decode cX2_takeFrom 17 = .ok (.aload_n 1, 1) := do_43 (rdb (p := 0) (i := 17) ch_cX2_takeFrom_0 rfl)
theorem dX2_takeFrom_18 : decode cX2_takeFrom 18 = .ok (.getfield 16, 3) := do_180 (rdb (p := 0) (i := 18) ch_cX2_takeFrom_0 rfl) (rdb (p := 0) (i := 19) ch_cX2_takeFrom_0 rfl) (rdb (p := 0) (i := 20) ch_cX2_takeFrom_0 rfl) rfl
theorem dX2_takeFrom_21 : decode cX2_takeFrom 21 = .ok (.putfield 16, 3) := do_181 (rdb (p := 0) (i := 21) ch_cX2_takeFrom_0 rfl) (rdb (p := 0) (i := 22) ch_cX2_takeFrom_0 rfl) (rdb (p := 0) (i := 23) ch_cX2_takeFrom_0 rfl) rfl
theorem dX2_takeFrom_24 : decode cX2_takeFrom 24 = .ok (.aload_n 1, 1) := do_43 (rdb (p := 0) (i := 24) ch_cX2_takeFrom_0 rfl)
theorem dX2_takeFrom_25 : decode cX2_takeFrom 25 = .ok (.getfield 21, 3) := do_180 (rdb (p := 0) (i := 25) ch_cX2_takeFrom_0 rfl) (rdb (p := 0) (i := 26) ch_cX2_takeFrom_0 rfl) (rdb (p := 0) (i := 27) ch_cX2_takeFrom_0 rfl) rfl
theorem dX2_takeFrom_28 : decode cX2_takeFrom 28 = .ok (.iconst 0, 1) := do_3 (rdb (p := 0) (i := 28) ch_cX2_takeFrom_0 rfl)
theorem dX2_takeFrom_29 : decode cX2_takeFrom 29 = .ok (.aload_n 0, 1) := do_42 (rdb (p := 0) (i := 29) ch_cX2_takeFrom_0 rfl)
theorem dX2_takeFrom_30 : decode cX2_takeFrom 30 = .ok (.getfield 21, 3) := do_180 (rdb (p := 0) (i := 30) ch_cX2_takeFrom_0 rfl) (rdb (p := 0) (i := 31) ch_cX2_takeFrom_0 rfl) (rdb (p := 0) (i := 32) ch_cX2_takeFrom_0 rfl) rfl
theorem ch_cX2_takeFrom_32 : (cX2_takeFrom.data.toList.drop 32).take 36 = [21, 3, 8, 184, 0, 80, 43, 180, 0, 25, 3, 42, 180, 0, 25, 3, 8, 184, 0, 80, 3, 61, 28, 6, 162, 0, 24, 42, 180, 0, 30, 28, 50, 43, 180, 0] := by decide +kernel
theorem dX2_takeFrom_33 : decode cX2_takeFrom 33 = .ok (.iconst 0, 1) := do_3 (rdb (p := 32) (i := 1) ch_cX2_takeFrom_32 rfl)
theorem dX2_takeFrom_34 : decode cX2_takeFrom 34 = .ok (.iconst 5, 1) := do_8 (rdb (p := 32) (i := 2) ch_cX2_takeFrom_32 rfl)
theorem dX2_takeFrom_35 : decode cX2_takeFrom 35 = .ok (.invokestatic 80, 3) := do_184 (rdb (p := 32) (i := 3) ch_cX2_takeFrom_32 rfl) (rdb (p := 32) (i := 4) ch_cX2_takeFrom_32 rfl) (rdb (p := 32) (i := 5) ch_cX2_takeFrom_32 rfl) rfl
theorem dX2_takeFrom_38 : decode cX2_takeFrom 38 = .ok (.aload_n 1, 1) := do_43 (rdb (p := 32) (i := 6) ch_cX2_takeFrom_32 rfl)
theorem dX2_takeFrom_39 : decode cX2_takeFrom 39 = .ok (.getfield 25, 3) := do_180 (rdb (p := 32) (i := 7) ch_cX2_takeFrom_32 rfl) (rdb (p := 32) (i := 8) ch_cX2_takeFrom_32 rfl) (rdb (p := 32) (i := 9) ch_cX2_takeFrom_32 rfl) rfl
theorem dX2_takeFrom_42 : decode cX2_takeFrom 42 = .ok (.iconst 0, 1) := do_3 (rdb (p := 32) (i := 10) ch_cX2_takeFrom_32 rfl)
theorem dX2_takeFrom_43 : decode cX2_takeFrom 43 = .ok (.aload_n 0, 1) := do_42 (rdb (p := 32) (i := 11) ch_cX2_takeFrom_32 rfl)
theorem dX2_takeFrom_44 : decode cX2_takeFrom 44 = .ok (.getfield 25, 3) := do_180 (rdb (p := 32) (i := 12) ch_cX2_takeFrom_32 rfl) (rdb (p := 32) (i := 13) ch_cX2_takeFrom_32 rfl) (rdb (p := 32) (i := 14) ch_cX2_takeFrom_32 rfl) rfl
theorem dX2_takeFrom_47 : decode cX2_takeFrom 47 = .ok (.iconst 0, 1) := do_3 (rdb (p := 32) (i := 15) ch_cX2_takeFrom_32 rfl)
theorem dX2_takeFrom_48 : decode cX2_takeFrom 48 = .ok (.iconst 5, 1) := do_8 (rdb (p := 32) (i := 16) ch_cX2_takeFrom_32 rfl)
theorem dX2_takeFrom_49 : decode cX2_takeFrom 49 = .ok (.invokestatic 80, 3) := do_184 (rdb (p := 32) (i := 17) ch_cX2_takeFrom_32 rfl) (rdb (p := 32) (i := 18) ch_cX2_takeFrom_32 rfl) (rdb (p := 32) (i := 19) ch_cX2_takeFrom_32 rfl) rfl
theorem dX2_takeFrom_52 : decode cX2_takeFrom 52 = .ok (.iconst 0, 1) := do_3 (rdb (p := 32) (i := 20) ch_cX2_takeFrom_32 rfl)
theorem dX2_takeFrom_53 : decode cX2_takeFrom 53 = .ok (.istore_n 2, 1) := do_61 (rdb (p := 32) (i := 21) ch_cX2_takeFrom_32 rfl)
theorem dX2_takeFrom_54 : decode cX2_takeFrom 54 = .ok (.iload_n 2, 1) := do_28 (rdb (p := 32) (i := 22) ch_cX2_takeFrom_32 rfl)
theorem dX2_takeFrom_55 : decode cX2_takeFrom 55 = .ok (.iconst 3, 1) := do_6 (rdb (p := 32) (i := 23) ch_cX2_takeFrom_32 rfl)
theorem dX2_takeFrom_56 : decode cX2_takeFrom 56 = .ok (.if_icmp .ge 24, 3) := do_162 (rdb (p := 32) (i := 24) ch_cX2_takeFrom_32 rfl) (rdb (p := 32) (i := 25) ch_cX2_takeFrom_32 rfl) (rdb (p := 32) (i := 26) ch_cX2_takeFrom_32 rfl) (by decide +kernel)
theorem dX2_takeFrom_59 : decode cX2_takeFrom 59 = .ok (.aload_n 0, 1) := do_42 (rdb (p := 32) (i := 27) ch_cX2_takeFrom_32 rfl)
theorem dX2_takeFrom_60 : decode cX2_takeFrom 60 = .ok (.getfield 30, 3) := do_180 (rdb (p := 32) (i := 28) ch_cX2_takeFrom_32 rfl) (rdb (p := 32) (i := 29) ch_cX2_takeFrom_32 rfl) (rdb (p := 32) (i := 30) ch_cX2_takeFrom_32 rfl) rfl
theorem dX2_takeFrom_63 : decode cX2_takeFrom 63 = .ok (.iload_n 2, 1) := do_28 (rdb (p := 32) (i := 31) ch_cX2_takeFrom_32 rfl)
theorem ch_cX2_takeFrom_64 : (cX2_takeFrom.data.toList.drop 64).take 36 = [50, 43, 180, 0, 30, 28, 50, 182, 0, 86, 132, 2, 1, 167, 255, 233, 177] := by decide +kernel
theorem dX2_takeFrom_64 : decode cX2_takeFrom 64 = .ok (.aaload, 1) := do_50 (rdb (p := 64) (i := 0) ch_cX2_takeFrom_64 rfl)
theorem dX2_takeFrom_65 : decode cX2_takeFrom 65 = .ok (.aload_n 1, 1) := do_43 (rdb (p := 64) (i := 1) ch_cX2_takeFrom_64 rfl)
theorem dX2_takeFrom_66 : decode cX2_takeFrom 66 = .ok (.getfield 30, 3) := do_180 (rdb (p := 64) (i := 2) ch_cX2_takeFrom_64 rfl) (rdb (p := 64) (i := 3) ch_cX2_takeFrom_64 rfl) (rdb (p := 64) (i := 4) ch_cX2_takeFrom_64 rfl) rfl
theorem dX2_takeFrom_69 : decode cX2_takeFrom 69 = .ok (.iload_n 2, 1) := do_28 (rdb (p := 64) (i := 5) ch_cX2_takeFrom_64 rfl)
theorem dX2_takeFrom_70 : decode cX2_takeFrom 70 = .ok (.aaload, 1) := do_50 (rdb (p := 64) (i := 6) ch_cX2_takeFrom_64 rfl)
theorem dX2_takeFrom_71 : decode cX2_takeFrom 71 = .ok (.invokevirtual 86, 3) := do_182 (rdb (p := 64) (i := 7) ch_cX2_takeFrom_64 rfl) (rdb (p := 64) (i := 8) ch_cX2_takeFrom_64 rfl) (rdb (p := 64) (i := 9) ch_cX2_takeFrom_64 rfl) rfl
theorem dX2_takeFrom_74 : decode cX2_takeFrom 74 = .ok (.iinc 2 1, 3) := do_132 (rdb (p := 64) (i := 10) ch_cX2_takeFrom_64 rfl) (rdb (p := 64) (i := 11) ch_cX2_takeFrom_64 rfl) (rdb (p := 64) (i := 12) ch_cX2_takeFrom_64 rfl) (by decide +kernel)
theorem dX2_takeFrom_77 : decode cX2_takeFrom 77 = .ok (.goto (-23), 3) := do_167 (rdb (p := 64) (i := 13) ch_cX2_takeFrom_64 rfl) (rdb (p := 64) (i := 14) ch_cX2_takeFrom_64 rfl) (rdb (p := 64) (i := 15) ch_cX2_takeFrom_64 rfl) (by decide +kernel)
theorem dX2_takeFrom_80 : decode cX2_takeFrom 80 = .ok (.return_, 1) := do_177 (rdb (p := 64) (i := 16) ch_cX2_takeFrom_64 rfl)
theorem ch_cX3_add_0 : (cX3_add.data.toList.drop 0).take 36 = [42, 180, 0, 19, 54, 4, 21, 4, 155, 0, 10, 21, 4, 16, 7, 161, 0, 5, 2, 172, 42, 180, 0, 9, 21, 4, 27, 79, 42, 180, 0, 13, 21, 4, 28, 79] := by decide +kernel
theorem dX3_add_0 : decode cX3_add 0 = .ok (.aload_n 0, 1) := do_42 (rdb (p := 0) (i := 0) ch_cX3_add_0 rfl)
theorem dX3_add_1 : decode cX3_add 1 = .ok (.getfield 19, 3) := do_180 (rdb (p := 0) (i := 1) ch_cX3_add_0 rfl) (rdb (p := 0) (i := 2) ch_cX3_add_0 rfl) (rdb (p := 0) (i := 3) ch_cX3_add_0 rfl) rfl
theorem dX3_add_4 : decode cX3_add 4 = .ok (.istore 4, 2) := do_54 (rdb (p := 0) (i := 4) ch_cX3_add_0 rfl) (rdb (p := 0) (i := 5) ch_cX3_add_0 rfl)
theorem dX3_add_6 : decode cX3_add 6 = .ok (.iload 4, 2) := do_21 (rdb (p := 0) (i := 6) ch_cX3_add_0 rfl) (rdb (p := 0) (i := 7) ch_cX3_add_0 rfl)
theorem dX3_add_8 : decode cX3_add 8 = .ok (.ifCond .lt 10, 3) := do_155 (rdb (p := 0) (i := 8) ch_cX3_add_0 rfl) (rdb (p := 0) (i := 9) ch_cX3_add_0 rfl) (rdb (p := 0) (i := 10) ch_cX3_add_0 rfl) (by decide +kernel)
theorem dX3_add_11 : decode cX3_add 11 = .ok (.iload 4, 2) := do_21 (rdb (p := 0) (i := 11) ch_cX3_add_0 rfl) (rdb (p := 0) (i := 12) ch_cX3_add_0 rfl)
theorem dX3_add_13 : decode cX3_add 13 = .ok (.bipush 7, 2) := do_16 (rdb (p := 0) (i := 13) ch_cX3_add_0 rfl) (rdb (p := 0) (i := 14) ch_cX3_add_0 rfl) (by decide +kernel)
theorem dX3_add_15 : decode cX3_add 15 = .ok (.if_icmp .lt 5, 3) := do_161 (rdb (p := 0) (i := 15) ch_cX3_add_0 rfl) (rdb (p := 0) (i := 16) ch_cX3_add_0 rfl) (rdb (p := 0) (i := 17) ch_cX3_add_0 rfl) (by decide +kernel)
theorem dX3_add_18 : decode cX3_add 18 = .ok (.iconst (-1), 1) := do_2 (rdb (p := 0) (i := 18) ch_cX3_add_0 rfl)
theorem dX3_add_19 : decode cX3_add 19 = .ok (.ireturn, 1) := do_172 (rdb (p := 0) (i := 19) ch_cX3_add_0 rfl)
theorem dX3_add_20 : decode cX3_add 20 = .ok (.aload_n 0, 1) := do_42 (rdb (p := 0) (i := 20) ch_cX3_add_0 rfl)
theorem dX3_add_21 : decode cX3_add 21 = .ok (.getfield 9, 3) := do_180 (rdb (p := 0) (i := 21) ch_cX3_add_0 rfl) (rdb (p := 0) (i := 22) ch_cX3_add_0 rfl) (rdb (p := 0) (i := 23) ch_cX3_add_0 rfl) rfl
theorem dX3_add_24 : decode cX3_add 24 = .ok (.iload 4, 2) := do_21 (rdb (p := 0) (i := 24) ch_cX3_add_0 rfl) (rdb (p := 0) (i := 25) ch_cX3_add_0 rfl)
theorem dX3_add_26 : decode cX3_add 26 = .ok (.iload_n 1, 1) := do_27 (rdb (p := 0) (i := 26) ch_cX3_add_0 rfl)
theorem dX3_add_27 : decode cX3_add 27 = .ok (.iastore, 1) := do_79 (rdb (p := 0) (i := 27) ch_cX3_add_0 rfl)
theorem dX3_add_28 : decode cX3_add 28 = .ok (.aload_n 0, 1) := do_42 (rdb (p := 0) (i := 28) ch_cX3_add_0 rfl)
theorem dX3_add_29 : decode cX3_add 29 = .ok (.getfield 13, 3) := do_180 (rdb (p := 0) (i := 29) ch_cX3_add_0 rfl) (rdb (p := 0) (i := 30) ch_cX3_add_0 rfl) (rdb (p := 0) (i := 31) ch_cX3_add_0 rfl) rfl
theorem ch_cX3_add_32 : (cX3_add.data.toList.drop 32).take 36 = [21, 4, 28, 79, 42, 180, 0, 16, 21, 4, 29, 79, 42, 89, 180, 0, 19, 4, 96, 181, 0, 19, 21, 4, 172] := by decide +kernel
theorem dX3_add_32 : decode cX3_add 32 = .ok (.iload 4, 2) := do_21 (rdb (p := 32) (i := 0) ch_cX3_add_32 rfl) (rdb (p := 32) (i := 1) ch_cX3_add_32 rfl)
theorem dX3_add_34 : decode cX3_add 34 = .ok (.iload_n 2, 1) := do_28 (rdb (p := 32) (i := 2) ch_cX3_add_32 rfl)
theorem dX3_add_35 : decode cX3_add 35 = .ok (.iastore, 1) := do_79 (rdb (p := 32) (i := 3) ch_cX3_add_32 rfl)
theorem dX3_add_36 : decode cX3_add 36 = .ok (.aload_n 0, 1) := do_42 (rdb (p := 32) (i := 4) ch_cX3_add_32 rfl)
theorem dX3_add_37 : decode cX3_add 37 = .ok (.getfield 16, 3) := do_180 (rdb (p := 32) (i := 5) ch_cX3_add_32 rfl) (rdb (p := 32) (i := 6) ch_cX3_add_32 rfl) (rdb (p := 32) (i := 7) ch_cX3_add_32 rfl) rfl
theorem dX3_add_40 : decode cX3_add 40 = .ok (.iload 4, 2) := do_21 (rdb (p := 32) (i := 8) ch_cX3_add_32 rfl) (rdb (p := 32) (i := 9) ch_cX3_add_32 rfl)
theorem dX3_add_42 : decode cX3_add 42 = .ok (.iload_n 3, 1) := do_29 (rdb (p := 32) (i := 10) ch_cX3_add_32 rfl)
theorem dX3_add_43 : decode cX3_add 43 = .ok (.iastore, 1) := do_79 (rdb (p := 32) (i := 11) ch_cX3_add_32 rfl)
theorem dX3_add_44 : decode cX3_add 44 = .ok (.aload_n 0, 1) := do_42 (rdb (p := 32) (i := 12) ch_cX3_add_32 rfl)
theorem dX3_add_45 : decode cX3_add 45 = .ok (.dup, 1) := do_89 (rdb (p := 32) (i := 13) ch_cX3_add_32 rfl)
theorem dX3_add_46 : decode cX3_add 46 = .ok (.getfield 19, 3) := do_180 (rdb (p := 32) (i := 14) ch_cX3_add_32 rfl) (rdb (p := 32) (i := 15) ch_cX3_add_32 rfl) (rdb (p := 32) (i := 16) ch_cX3_add_32 rfl) rfl
theorem dX3_add_49 : decode cX3_add 49 = .ok (.iconst 1, 1) := do_4 (rdb (p := 32) (i := 17) ch_cX3_add_32 rfl)
theorem dX3_add_50 : decode cX3_add 50 = .ok (.iadd, 1) := do_96 (rdb (p := 32) (i := 18) ch_cX3_add_32 rfl)
theorem dX3_add_51 : decode cX3_add 51 = .ok (.putfield 19, 3) := do_181 (rdb (p := 32) (i := 19) ch_cX3_add_32 rfl) (rdb (p := 32) (i := 20) ch_cX3_add_32 rfl) (rdb (p := 32) (i := 21) ch_cX3_add_32 rfl) rfl
theorem dX3_add_54 : decode cX3_add 54 = .ok (.iload 4, 2) := do_21 (rdb (p := 32) (i := 22) ch_cX3_add_32 rfl) (rdb (p := 32) (i := 23) ch_cX3_add_32 rfl)
theorem dX3_add_56 : decode cX3_add 56 = .ok (.ireturn, 1) := do_172 (rdb (p := 32) (i := 24) ch_cX3_add_32 rfl)
theorem dX3_hasRoom_0 : decode cX3_hasRoom 0 = .ok (.aload_n 0, 1) := by decide +kernel
theorem dX3_hasRoom_1 : decode cX3_hasRoom 1 = .ok (.getfield 19, 3) := by decide +kernel
theorem dX3_hasRoom_4 : decode cX3_hasRoom 4 = .ok (.bipush 7, 2) := by decide +kernel
theorem dX3_hasRoom_6 : decode cX3_hasRoom 6 = .ok (.if_icmp .ge 7, 3) := by decide +kernel
theorem dX3_hasRoom_9 : decode cX3_hasRoom 9 = .ok (.iconst 1, 1) := by decide +kernel
theorem dX3_hasRoom_10 : decode cX3_hasRoom 10 = .ok (.goto 4, 3) := by decide +kernel
theorem dX3_hasRoom_13 : decode cX3_hasRoom 13 = .ok (.iconst 0, 1) := by decide +kernel
theorem dX3_hasRoom_14 : decode cX3_hasRoom 14 = .ok (.ireturn, 1) := by decide +kernel
theorem dX3_isBetter_0 : decode cX3_isBetter 0 = .ok (.iload_n 1, 1) := by decide +kernel
theorem dX3_isBetter_1 : decode cX3_isBetter 1 = .ok (.aload_n 0, 1) := by decide +kernel
theorem dX3_isBetter_2 : decode cX3_isBetter 2 = .ok (.getfield 38, 3) := by decide +kernel
theorem dX3_isBetter_5 : decode cX3_isBetter 5 = .ok (.if_icmp .lt 28, 3) := by decide +kernel
theorem dX3_isBetter_8 : decode cX3_isBetter 8 = .ok (.iload_n 1, 1) := by decide +kernel
theorem dX3_isBetter_9 : decode cX3_isBetter 9 = .ok (.aload_n 0, 1) := by decide +kernel
theorem dX3_isBetter_10 : decode cX3_isBetter 10 = .ok (.getfield 38, 3) := by decide +kernel
theorem dX3_isBetter_13 : decode cX3_isBetter 13 = .ok (.if_icmp .ne 24, 3) := by decide +kernel
theorem dX3_isBetter_16 : decode cX3_isBetter 16 = .ok (.aload_n 0, 1) := by decide +kernel
theorem dX3_isBetter_17 : decode cX3_isBetter 17 = .ok (.getfield 28, 3) := by decide +kernel
theorem dX3_isBetter_20 : decode cX3_isBetter 20 = .ok (.getfield 70, 3) := by decide +kernel
theorem dX3_isBetter_23 : decode cX3_isBetter 23 = .ok (.aload_n 0, 1) := by decide +kernel
theorem dX3_isBetter_24 : decode cX3_isBetter 24 = .ok (.getfield 32, 3) := by decide +kernel
theorem dX3_isBetter_27 : decode cX3_isBetter 27 = .ok (.getfield 70, 3) := by decide +kernel
theorem dX3_isBetter_30 : decode cX3_isBetter 30 = .ok (.if_icmp .ge 7, 3) := by decide +kernel
theorem dX3_isBetter_33 : decode cX3_isBetter 33 = .ok (.iconst 1, 1) := by decide +kernel
theorem dX3_isBetter_34 : decode cX3_isBetter 34 = .ok (.goto 4, 3) := by decide +kernel
theorem dX3_isBetter_37 : decode cX3_isBetter 37 = .ok (.iconst 0, 1) := by decide +kernel
theorem dX3_isBetter_38 : decode cX3_isBetter 38 = .ok (.ireturn, 1) := by decide +kernel
theorem ch_cX3_takeFrom_0 : (cX3_takeFrom.data.toList.drop 0).take 36 = [43, 180, 0, 9, 3, 42, 180, 0, 9, 3, 16, 7, 184, 0, 71, 43, 180, 0, 13, 3, 42, 180, 0, 13, 3, 16, 7, 184, 0, 71, 43, 180, 0, 16, 3, 42] := by decide +kernel
theorem dX3_takeFrom_0 : decode cX3_takeFrom 0 = .ok (.aload_n 1, 1) := do_43 (rdb (p := 0) (i := 0) ch_cX3_takeFrom_0 rfl)
theorem dX3_takeFrom_1 : decode cX3_takeFrom 1 = .ok (.getfield 9, 3) := do_180 (rdb (p := 0) (i := 1) ch_cX3_takeFrom_0 rfl) (rdb (p := 0) (i := 2) ch_cX3_takeFrom_0 rfl) (rdb (p := 0) (i := 3) ch_cX3_takeFrom_0 rfl) rfl
theorem dX3_takeFrom_4 : decode cX3_takeFrom 4 = .ok (.iconst 0, 1) := do_3 (rdb (p := 0) (i := 4) ch_cX3_takeFrom_0 rfl)
theorem dX3_takeFrom_5 : decode cX3_takeFrom 5 = .ok (.aload_n 0, 1) := do_42 (rdb (p := 0) (i := 5) ch_cX3_takeFrom_0 rfl)
theorem dX3_takeFrom_6 : decode cX3_takeFrom 6 = .ok (.getfield 9, 3) := do_180 (rdb (p := 0) (i := 6) ch_cX3_takeFrom_0 rfl) (rdb (p := 0) (i := 7) ch_cX3_takeFrom_0 rfl) (rdb (p := 0) (i := 8) ch_cX3_takeFrom_0 rfl) rfl
theorem dX3_takeFrom_9 : decode cX3_takeFrom 9 = .ok (.iconst 0, 1) := do_3 (rdb (p := 0) (i := 9) ch_cX3_takeFrom_0 rfl)
theorem dX3_takeFrom_10 : decode cX3_takeFrom 10 = .ok (.bipush 7, 2) := do_16 (rdb (p := 0) (i := 10) ch_cX3_takeFrom_0 rfl) (rdb (p := 0) (i := 11) ch_cX3_takeFrom_0 rfl) (by decide +kernel)
theorem dX3_takeFrom_12 : decode cX3_takeFrom 12 = .ok (.invokestatic 71, 3) := do_184 (rdb (p := 0) (i := 12) ch_cX3_takeFrom_0 rfl) (rdb (p := 0) (i := 13) ch_cX3_takeFrom_0 rfl) (rdb (p := 0) (i := 14) ch_cX3_takeFrom_0 rfl) rfl
theorem dX3_takeFrom_15 : decode cX3_takeFrom 15 = .ok (.aload_n 1, 1) := do_43 (rdb (p := 0) (i := 15) ch_cX3_takeFrom_0 rfl)
theorem dX3_takeFrom_16 : decode cX3_takeFrom 16 = .ok (.getfield 13, 3) := do_180 (rdb (p := 0) (i := 16) ch_cX3_takeFrom_0 rfl) (rdb (p := 0) (i := 17) ch_cX3_takeFrom_0 rfl) (rdb (p := 0) (i := 18) ch_cX3_takeFrom_0 rfl) rfl
theorem dX3_takeFrom_19 : decode cX3_takeFrom 19 = .ok (.iconst 0, 1) := do_3 (rdb (p := 0) (i := 19) ch_cX3_takeFrom_0 rfl)
theorem dX3_takeFrom_20 : decode cX3_takeFrom 20 = .ok (.aload_n 0, 1) := do_42 (rdb (p := 0) (i := 20) ch_cX3_takeFrom_0 rfl)
theorem dX3_takeFrom_21 : decode cX3_takeFrom 21 = .ok (.getfield 13, 3) := do_180 (rdb (p := 0) (i := 21) ch_cX3_takeFrom_0 rfl) (rdb (p := 0) (i := 22) ch_cX3_takeFrom_0 rfl) (rdb (p := 0) (i := 23) ch_cX3_takeFrom_0 rfl) rfl
theorem dX3_takeFrom_24 : decode cX3_takeFrom 24 = .ok (.iconst 0, 1) := do_3 (rdb (p := 0) (i := 24) ch_cX3_takeFrom_0 rfl)
theorem dX3_takeFrom_25 : decode cX3_takeFrom 25 = .ok (.bipush 7, 2) := do_16 (rdb (p := 0) (i := 25) ch_cX3_takeFrom_0 rfl) (rdb (p := 0) (i := 26) ch_cX3_takeFrom_0 rfl) (by decide +kernel)
theorem dX3_takeFrom_27 : decode cX3_takeFrom 27 = .ok (.invokestatic 71, 3) := do_184 (rdb (p := 0) (i := 27) ch_cX3_takeFrom_0 rfl) (rdb (p := 0) (i := 28) ch_cX3_takeFrom_0 rfl) (rdb (p := 0) (i := 29) ch_cX3_takeFrom_0 rfl) rfl
theorem dX3_takeFrom_30 : decode cX3_takeFrom 30 = .ok (.aload_n 1, 1) := do_43 (rdb (p := 0) (i := 30) ch_cX3_takeFrom_0 rfl)
theorem dX3_takeFrom_31 : decode cX3_takeFrom 31 = .ok (.getfield 16, 3) := do_180 (rdb (p := 0) (i := 31) ch_cX3_takeFrom_0 rfl) (rdb (p := 0) (i := 32) ch_cX3_takeFrom_0 rfl) (rdb (p := 0) (i := 33) ch_cX3_takeFrom_0 rfl) rfl
theorem ch_cX3_takeFrom_32 : (cX3_takeFrom.data.toList.drop 32).take 36 = [0, 16, 3, 42, 180, 0, 16, 3, 16, 7, 184, 0, 71, 42, 43, 180, 0, 19, 181, 0, 19, 177] := by decide +kernel
theorem dX3_takeFrom_34 : decode cX3_takeFrom 34 = .ok (.iconst 0, 1) := do_3 (rdb (p := 32) (i := 2) ch_cX3_takeFrom_32 rfl)
theorem dX3_takeFrom_35 : decode cX3_takeFrom 35 = .ok (.aload_n 0, 1) := do_42 (rdb (p := 32) (i := 3) ch_cX3_takeFrom_32 rfl)
theorem dX3_takeFrom_36 : decode cX3_takeFrom 36 = .ok (.getfield 16, 3) := do_180 (rdb (p := 32) (i := 4) ch_cX3_takeFrom_32 rfl) (rdb (p := 32) (i := 5) ch_cX3_takeFrom_32 rfl) (rdb (p := 32) (i := 6) ch_cX3_takeFrom_32 rfl) rfl
theorem dX3_takeFrom_39 : decode cX3_takeFrom 39 = .ok (.iconst 0, 1) := do_3 (rdb (p := 32) (i := 7) ch_cX3_takeFrom_32 rfl)
theorem dX3_takeFrom_40 : decode cX3_takeFrom 40 = .ok (.bipush 7, 2) := do_16 (rdb (p := 32) (i := 8) ch_cX3_takeFrom_32 rfl) (rdb (p := 32) (i := 9) ch_cX3_takeFrom_32 rfl) (by decide +kernel)
theorem dX3_takeFrom_42 : decode cX3_takeFrom 42 = .ok (.invokestatic 71, 3) := do_184 (rdb (p := 32) (i := 10) ch_cX3_takeFrom_32 rfl) (rdb (p := 32) (i := 11) ch_cX3_takeFrom_32 rfl) (rdb (p := 32) (i := 12) ch_cX3_takeFrom_32 rfl) rfl
theorem dX3_takeFrom_45 : decode cX3_takeFrom 45 = .ok (.aload_n 0, 1) := do_42 (rdb (p := 32) (i := 13) ch_cX3_takeFrom_32 rfl)
theorem dX3_takeFrom_46 : decode cX3_takeFrom 46 = .ok (.aload_n 1, 1) := do_43 (rdb (p := 32) (i := 14) ch_cX3_takeFrom_32 rfl)
theorem dX3_takeFrom_47 : decode cX3_takeFrom 47 = .ok (.getfield 19, 3) := do_180 (rdb (p := 32) (i := 15) ch_cX3_takeFrom_32 rfl) (rdb (p := 32) (i := 16) ch_cX3_takeFrom_32 rfl) (rdb (p := 32) (i := 17) ch_cX3_takeFrom_32 rfl) rfl
theorem dX3_takeFrom_50 : decode cX3_takeFrom 50 = .ok (.putfield 19, 3) := do_181 (rdb (p := 32) (i := 18) ch_cX3_takeFrom_32 rfl) (rdb (p := 32) (i := 19) ch_cX3_takeFrom_32 rfl) (rdb (p := 32) (i := 20) ch_cX3_takeFrom_32 rfl) rfl
theorem dX3_takeFrom_53 : decode cX3_takeFrom 53 = .ok (.return_, 1) := do_177 (rdb (p := 32) (i := 21) ch_cX3_takeFrom_32 rfl)
end
section
def SP_JI_bitCount (v : Int32) (Mz : mM) (r_ : Int32) : Prop := ∃ z1_ : Int32, (z1_ = iushrX v (1 : Int32)) ∧ ∃ z3_ : Int32, (z3_ = z1_ &&& (1431655765 : Int32)) ∧ ∃ z5_ : Int32, (z5_ = v - z3_) ∧ ∃ z7_ : Int32, (z7_ = z5_ &&& (858993459 : Int32)) ∧ ∃ z9_ : Int32, (z9_ = iushrX z5_ (2 : Int32)) ∧ ∃ z11_ : Int32, (z11_ = z9_ &&& (858993459 : Int32)) ∧ ∃ z13_ : Int32, (z13_ = z7_ + z11_) ∧ ∃ z15_ : Int32, (z15_ = iushrX z13_ (4 : Int32)) ∧ ∃ z17_ : Int32, (z17_ = z13_ + z15_) ∧ ∃ z19_ : Int32, (z19_ = z17_ &&& (252645135 : Int32)) ∧ ∃ z21_ : Int32, (z21_ = iushrX z19_ (8 : Int32)) ∧ ∃ z23_ : Int32, (z23_ = z19_ + z21_) ∧ ∃ z25_ : Int32, (z25_ = iushrX z23_ (16 : Int32)) ∧ ∃ z27_ : Int32, (z27_ = z23_ + z25_) ∧ ∃ z29_ : Int32, (z29_ = z27_ &&& (63 : Int32)) ∧ (0 ≤ z29_.toInt ∧ z29_.toInt < ((2 ^ 6 : Nat) : Int)) ∧ r_ = z29_
set_option maxHeartbeats 4000000 in
set_option maxRecDepth 100000 in
theorem c_JI_bitCount (l : Launch) (G : va_G) (cy : Nat → ClassId) (ad : rf → Nat) (d : Nat) (v : Int32) (Mz : mM) (hIz : Inv Mz) : WP CC l G cy ad yJI_bitCount cJI_bitCount 1 (some .int) d 0 [(0, vI v)] [] Mz (fun r M' => Mz = M' ∧ (True) ∧ SP_JI_bitCount v Mz r) := by
  refine w_iload_n dJI_bitCount_0 rfl 0 rfl ?_
  refine w_iload_n dJI_bitCount_1 rfl 0 rfl ?_
  refine w_iconst (v := 1) dJI_bitCount_2 (by decide) ?_
  refine w_iushr dJI_bitCount_3 (fun z1_ h2_ => ?_)
  refine w_ldc_w (v := 1431655765) m_1008 dJI_bitCount_4 ?_
  refine w_iand dJI_bitCount_7 (fun z3_ h4_ => ?_)
  refine w_isub dJI_bitCount_8 (fun z5_ h6_ => ?_)
  refine w_istore_n (ls' := [(0, vI z5_)]) dJI_bitCount_9 rfl (by decide) rfl ?_
  refine w_iload_n dJI_bitCount_10 rfl 0 rfl ?_
  refine w_ldc_w (v := 858993459) m_1009 dJI_bitCount_11 ?_
  refine w_iand dJI_bitCount_14 (fun z7_ h8_ => ?_)
  refine w_iload_n dJI_bitCount_15 rfl 0 rfl ?_
  refine w_iconst (v := 2) dJI_bitCount_16 (by decide) ?_
  refine w_iushr dJI_bitCount_17 (fun z9_ h10_ => ?_)
  refine w_ldc_w (v := 858993459) m_1009 dJI_bitCount_18 ?_
  refine w_iand dJI_bitCount_21 (fun z11_ h12_ => ?_)
  refine w_iadd dJI_bitCount_22 (fun z13_ h14_ => ?_)
  refine w_istore_n (ls' := [(0, vI z13_)]) dJI_bitCount_23 rfl (by decide) rfl ?_
  refine w_iload_n dJI_bitCount_24 rfl 0 rfl ?_
  refine w_iload_n dJI_bitCount_25 rfl 0 rfl ?_
  refine w_iconst (v := 4) dJI_bitCount_26 (by decide) ?_
  refine w_iushr dJI_bitCount_27 (fun z15_ h16_ => ?_)
  refine w_iadd dJI_bitCount_28 (fun z17_ h18_ => ?_)
  refine w_ldc_w (v := 252645135) m_1010 dJI_bitCount_29 ?_
  refine w_iand dJI_bitCount_32 (fun z19_ h20_ => ?_)
  refine w_istore_n (ls' := [(0, vI z19_)]) dJI_bitCount_33 rfl (by decide) rfl ?_
  refine w_iload_n dJI_bitCount_34 rfl 0 rfl ?_
  refine w_iload_n dJI_bitCount_35 rfl 0 rfl ?_
  refine w_bipush (v := 8) dJI_bitCount_36 (by decide) ?_
  refine w_iushr dJI_bitCount_38 (fun z21_ h22_ => ?_)
  refine w_iadd dJI_bitCount_39 (fun z23_ h24_ => ?_)
  refine w_istore_n (ls' := [(0, vI z23_)]) dJI_bitCount_40 rfl (by decide) rfl ?_
  refine w_iload_n dJI_bitCount_41 rfl 0 rfl ?_
  refine w_iload_n dJI_bitCount_42 rfl 0 rfl ?_
  refine w_bipush (v := 16) dJI_bitCount_43 (by decide) ?_
  refine w_iushr dJI_bitCount_45 (fun z25_ h26_ => ?_)
  refine w_iadd dJI_bitCount_46 (fun z27_ h28_ => ?_)
  refine w_istore_n (ls' := [(0, vI z27_)]) dJI_bitCount_47 rfl (by decide) rfl ?_
  refine w_iload_n dJI_bitCount_48 rfl 0 rfl ?_
  refine w_bipush (v := 63) dJI_bitCount_49 (by decide) ?_
  refine w_iand dJI_bitCount_51 (fun z29_ h31_ => ?_)
  have h30_ : 0 ≤ z29_.toInt ∧ z29_.toInt < ((2 ^ 6 : Nat) : Int) := by rw [h31_]; exact andI _ 6 (by decide) (by decide)
  exact w_iret rfl dJI_bitCount_52 ⟨rfl, trivial, ⟨z1_, h2_, z3_, h4_, z5_, h6_, z7_, h8_, z9_, h10_, z11_, h12_, z13_, h14_, z15_, h16_, z17_, h18_, z19_, h20_, z21_, h22_, z23_, h24_, z25_, h26_, z27_, h28_, z29_, h31_, h30_, rfl⟩⟩
def SP_JL_bitCount (v : Int64) (Mz : mM) (r_ : Int32) : Prop := ∃ w1_ : Int64, (w1_ = (v.toUInt64 >>> ((1 : Int32).toInt64.toUInt64 &&& Int64.toUInt64 63)).toInt64) ∧ ∃ w3_ : Int64, (w3_ = w1_ &&& (6148914691236517205 : Int64)) ∧ ∃ w5_ : Int64, (w5_ = v - w3_) ∧ ∃ w7_ : Int64, (w7_ = w5_ &&& (3689348814741910323 : Int64)) ∧ ∃ w9_ : Int64, (w9_ = (w5_.toUInt64 >>> ((2 : Int32).toInt64.toUInt64 &&& Int64.toUInt64 63)).toInt64) ∧ ∃ w11_ : Int64, (w11_ = w9_ &&& (3689348814741910323 : Int64)) ∧ ∃ w13_ : Int64, (w13_ = w7_ + w11_) ∧ ∃ w15_ : Int64, (w15_ = (w13_.toUInt64 >>> ((4 : Int32).toInt64.toUInt64 &&& Int64.toUInt64 63)).toInt64) ∧ ∃ w17_ : Int64, (w17_ = w13_ + w15_) ∧ ∃ w19_ : Int64, (w19_ = w17_ &&& (1085102592571150095 : Int64)) ∧ ∃ w21_ : Int64, (w21_ = (w19_.toUInt64 >>> ((8 : Int32).toInt64.toUInt64 &&& Int64.toUInt64 63)).toInt64) ∧ ∃ w23_ : Int64, (w23_ = w19_ + w21_) ∧ ∃ w25_ : Int64, (w25_ = (w23_.toUInt64 >>> ((16 : Int32).toInt64.toUInt64 &&& Int64.toUInt64 63)).toInt64) ∧ ∃ w27_ : Int64, (w27_ = w23_ + w25_) ∧ ∃ w29_ : Int64, (w29_ = (w27_.toUInt64 >>> ((32 : Int32).toInt64.toUInt64 &&& Int64.toUInt64 63)).toInt64) ∧ ∃ w31_ : Int64, (w31_ = w27_ + w29_) ∧ ∃ z33_ : Int32, (z33_ = w31_.toInt32) ∧ ∃ z35_ : Int32, (z35_ = z33_ &&& (127 : Int32)) ∧ (0 ≤ z35_.toInt ∧ z35_.toInt < ((2 ^ 7 : Nat) : Int)) ∧ r_ = z35_
set_option maxHeartbeats 4000000 in
set_option maxRecDepth 100000 in
theorem c_JL_bitCount (l : Launch) (G : va_G) (cy : Nat → ClassId) (ad : rf → Nat) (d : Nat) (v : Int64) (Mz : mM) (hIz : Inv Mz) : WP CC l G cy ad yJL_bitCount cJL_bitCount 2 (some .int) d 0 [(0, vL v)] [] Mz (fun r M' => Mz = M' ∧ (True) ∧ SP_JL_bitCount v Mz r) := by
  refine w_lload_n dJL_bitCount_0 rfl 0 rfl ?_
  refine w_lload_n dJL_bitCount_1 rfl 0 rfl ?_
  refine w_iconst (v := 1) dJL_bitCount_2 (by decide) ?_
  refine w_lushr dJL_bitCount_3 (fun w1_ h2_ => ?_)
  refine w_ldc2 (v := 6148914691236517205) m_1018 dJL_bitCount_4 ?_
  refine w_land dJL_bitCount_7 (fun w3_ h4_ => ?_)
  refine w_lsub dJL_bitCount_8 (fun w5_ h6_ => ?_)
  refine w_lstore_n (ls' := [(0, vL w5_)]) dJL_bitCount_9 rfl (by decide) rfl ?_
  refine w_lload_n dJL_bitCount_10 rfl 0 rfl ?_
  refine w_ldc2 (v := 3689348814741910323) m_1019 dJL_bitCount_11 ?_
  refine w_land dJL_bitCount_14 (fun w7_ h8_ => ?_)
  refine w_lload_n dJL_bitCount_15 rfl 0 rfl ?_
  refine w_iconst (v := 2) dJL_bitCount_16 (by decide) ?_
  refine w_lushr dJL_bitCount_17 (fun w9_ h10_ => ?_)
  refine w_ldc2 (v := 3689348814741910323) m_1019 dJL_bitCount_18 ?_
  refine w_land dJL_bitCount_21 (fun w11_ h12_ => ?_)
  refine w_ladd dJL_bitCount_22 (fun w13_ h14_ => ?_)
  refine w_lstore_n (ls' := [(0, vL w13_)]) dJL_bitCount_23 rfl (by decide) rfl ?_
  refine w_lload_n dJL_bitCount_24 rfl 0 rfl ?_
  refine w_lload_n dJL_bitCount_25 rfl 0 rfl ?_
  refine w_iconst (v := 4) dJL_bitCount_26 (by decide) ?_
  refine w_lushr dJL_bitCount_27 (fun w15_ h16_ => ?_)
  refine w_ladd dJL_bitCount_28 (fun w17_ h18_ => ?_)
  refine w_ldc2 (v := 1085102592571150095) m_1020 dJL_bitCount_29 ?_
  refine w_land dJL_bitCount_32 (fun w19_ h20_ => ?_)
  refine w_lstore_n (ls' := [(0, vL w19_)]) dJL_bitCount_33 rfl (by decide) rfl ?_
  refine w_lload_n dJL_bitCount_34 rfl 0 rfl ?_
  refine w_lload_n dJL_bitCount_35 rfl 0 rfl ?_
  refine w_bipush (v := 8) dJL_bitCount_36 (by decide) ?_
  refine w_lushr dJL_bitCount_38 (fun w21_ h22_ => ?_)
  refine w_ladd dJL_bitCount_39 (fun w23_ h24_ => ?_)
  refine w_lstore_n (ls' := [(0, vL w23_)]) dJL_bitCount_40 rfl (by decide) rfl ?_
  refine w_lload_n dJL_bitCount_41 rfl 0 rfl ?_
  refine w_lload_n dJL_bitCount_42 rfl 0 rfl ?_
  refine w_bipush (v := 16) dJL_bitCount_43 (by decide) ?_
  refine w_lushr dJL_bitCount_45 (fun w25_ h26_ => ?_)
  refine w_ladd dJL_bitCount_46 (fun w27_ h28_ => ?_)
  refine w_lstore_n (ls' := [(0, vL w27_)]) dJL_bitCount_47 rfl (by decide) rfl ?_
  refine w_lload_n dJL_bitCount_48 rfl 0 rfl ?_
  refine w_lload_n dJL_bitCount_49 rfl 0 rfl ?_
  refine w_bipush (v := 32) dJL_bitCount_50 (by decide) ?_
  refine w_lushr dJL_bitCount_52 (fun w29_ h30_ => ?_)
  refine w_ladd dJL_bitCount_53 (fun w31_ h32_ => ?_)
  refine w_lstore_n (ls' := [(0, vL w31_)]) dJL_bitCount_54 rfl (by decide) rfl ?_
  refine w_lload_n dJL_bitCount_55 rfl 0 rfl ?_
  refine w_l2i dJL_bitCount_56 (fun z33_ h34_ => ?_)
  refine w_bipush (v := 127) dJL_bitCount_57 (by decide) ?_
  refine w_iand dJL_bitCount_59 (fun z35_ h37_ => ?_)
  have h36_ : 0 ≤ z35_.toInt ∧ z35_.toInt < ((2 ^ 7 : Nat) : Int) := by rw [h37_]; exact andI _ 7 (by decide) (by decide)
  exact w_iret rfl dJL_bitCount_60 ⟨rfl, trivial, ⟨w1_, h2_, w3_, h4_, w5_, h6_, w7_, h8_, w9_, h10_, w11_, h12_, w13_, h14_, w15_, h16_, w17_, h18_, w19_, h20_, w21_, h22_, w23_, h24_, w25_, h26_, w27_, h28_, w29_, h30_, w31_, h32_, z33_, h34_, z35_, h37_, h36_, rfl⟩⟩
def SP_X2_isClick (v : Int32) (u : Int32) (Mz : mM) (r_ : Int32) : Prop := (((SP_X11_within v 1 9 Mz (1 : Int32)) ∧ (1 ≤ v.toInt ∧ v.toInt ≤ 9) ∧ (((SP_X11_within u 1 99 Mz (1 : Int32)) ∧ (1 ≤ u.toInt ∧ u.toInt ≤ 99) ∧ r_ = 1) ∨ ((SP_X11_within u 1 99 Mz (0 : Int32)) ∧ (¬ (1 ≤ u.toInt ∧ u.toInt ≤ 99)) ∧ r_ = 0))) ∨ ((SP_X11_within v 1 9 Mz (0 : Int32)) ∧ (¬ (1 ≤ v.toInt ∧ v.toInt ≤ 9)) ∧ r_ = 0))
set_option maxHeartbeats 4000000 in
set_option maxRecDepth 100000 in
theorem c_X2_isClick (l : Launch) (G : va_G) (cy : Nat → ClassId) (ad : rf → Nat) (d : Nat) (v : Int32) (u : Int32) (Mz : mM) (hIz : Inv Mz) : WP CC l G cy ad yX2_isClick cX2_isClick 2 (some .boolean) (d + 1) 0 [(0, vI v), (1, vI u)] [] Mz (fun r M' => Mz = M' ∧ ((0 ≤ r.toInt ∧ r.toInt ≤ 1)) ∧ SP_X2_isClick v u Mz r) := by
  refine w_iload_n dX2_isClick_0 rfl 0 rfl ?_
  refine w_iconst (v := 1) dX2_isClick_1 (by decide) ?_
  refine w_bipush (v := 9) dX2_isClick_2 (by decide) ?_
  refine w_callSN (as := [vI v, vI 1, vI 9]) (rest := []) (c_X11_within l G cy ad d v 1 9 Mz hIz) kS_X11_within (by decide +kernel) (Nat.le_of_ble_eq_true rfl) (List.mem_of_getElem? (l := NMs) (i := 8) rfl) rfl rfl (by decide) (Nat.le_of_ble_eq_true rfl) dX2_isClick_4 (fun r1_ M2_ q3_ => ?_)
  obtain ⟨rfl, h4_, hs5_⟩ := q3_
  rcases h4_ with ⟨rfl, h4_⟩ | ⟨rfl, h4_⟩
  · simp only [li_1, li_9] at h4_
    refine w_if_eq (tgt := 24) dX2_isClick_7 (by decide) li_1 (fun h9 => (absurd h9 (by decide))) (fun h6_ => ?_)
    refine w_iload_n dX2_isClick_10 rfl 1 rfl ?_
    refine w_iconst (v := 1) dX2_isClick_11 (by decide) ?_
    refine w_bipush (v := 99) dX2_isClick_12 (by decide) ?_
    refine w_callSN (as := [vI u, vI 1, vI 99]) (rest := []) (c_X11_within l G cy ad d u 1 99 Mz hIz) kS_X11_within (by decide +kernel) (Nat.le_of_ble_eq_true rfl) (List.mem_of_getElem? (l := NMs) (i := 8) rfl) rfl rfl (by decide) (Nat.le_of_ble_eq_true rfl) dX2_isClick_14 (fun r7_ M8_ q9_ => ?_)
    obtain ⟨rfl, h10_, hs11_⟩ := q9_
    rcases h10_ with ⟨rfl, h10_⟩ | ⟨rfl, h10_⟩
    · simp only [li_1, li_99] at h10_
      refine w_if_eq (tgt := 24) dX2_isClick_17 (by decide) li_1 (fun h9 => (absurd h9 (by decide))) (fun h12_ => ?_)
      refine w_iconst (v := 1) dX2_isClick_20 (by decide) ?_
      refine w_goto (tgt := 25) dX2_isClick_21 (by decide) ?_
      exact w_zret rfl dX2_isClick_25 ⟨by decide, by decide⟩ ⟨rfl, ⟨by decide, by decide⟩, (Or.inl ⟨hs5_, h4_, (Or.inl ⟨hs11_, h10_, rfl⟩)⟩)⟩
    · simp only [li_1, li_99] at h10_
      refine w_if_eq (tgt := 24) dX2_isClick_17 (by decide) li_0 (fun h13_ => ?_) (fun h9 => (absurd h9 (by decide)))
      refine w_iconst (v := 0) dX2_isClick_24 (by decide) ?_
      exact w_zret rfl dX2_isClick_25 ⟨by decide, by decide⟩ ⟨rfl, ⟨by decide, by decide⟩, (Or.inl ⟨hs5_, h4_, (Or.inr ⟨hs11_, h10_, rfl⟩)⟩)⟩
  · simp only [li_1, li_9] at h4_
    refine w_if_eq (tgt := 24) dX2_isClick_7 (by decide) li_0 (fun h14_ => ?_) (fun h9 => (absurd h9 (by decide)))
    refine w_iconst (v := 0) dX2_isClick_24 (by decide) ?_
    exact w_zret rfl dX2_isClick_25 ⟨by decide, by decide⟩ ⟨rfl, ⟨by decide, by decide⟩, (Or.inr ⟨hs5_, h4_, rfl⟩)⟩
def SP_X2_isClick_ (v : Int32) (Mz : mM) (r_ : Int32) : Prop := (((v.toInt ≤ 0) ∧ r_ = 0) ∨ ((0 < v.toInt) ∧ ∃ z2_ : Int32, (z2_.toInt = v.toInt / 100) ∧ ∃ z4_ : Int32, (z4_.toInt = v.toInt % 100) ∧ ∃ r6_ : Int32, (SP_X2_isClick z2_ z4_ Mz r6_) ∧ ((0 ≤ r6_.toInt ∧ r6_.toInt ≤ 1)) ∧ (((r6_.toInt = 0) ∧ r_ = 0) ∨ ((¬ r6_.toInt = 0) ∧ r_ = 1))))
theorem lf_c_X2_isClick__0  (v : Int32) (h1_ : 0 < v.toInt) : 0 ≤ v.toInt := by have r_v := rngI v; omega
theorem lf_c_X2_isClick__1  (v : Int32) (z2_ : Int32) (h1_ : 0 < v.toInt) (h3_ : z2_.toInt = v.toInt / 100) : 0 ≤ v.toInt := by have r_v := rngI v; have r_z2_ := rngI z2_; omega
set_option maxHeartbeats 4000000 in
set_option maxRecDepth 100000 in
theorem c_X2_isClick_ (l : Launch) (G : va_G) (cy : Nat → ClassId) (ad : rf → Nat) (d : Nat) (v : Int32) (Mz : mM) (hIz : Inv Mz) : WP CC l G cy ad yX2_isClick_ cX2_isClick_ 1 (some .boolean) (d + 2) 0 [(0, vI v)] [] Mz (fun r M' => Mz = M' ∧ ((0 ≤ r.toInt ∧ r.toInt ≤ 1)) ∧ SP_X2_isClick_ v Mz r) := by
  refine w_iload_n dX2_isClick__0 rfl 0 rfl ?_
  refine w_if_le (tgt := 22) dX2_isClick__1 (by decide) (rfl : v.toInt = v.toInt) (fun h1_ => ?_) (fun h1_ => ?_)
  · refine w_iconst (v := 0) dX2_isClick__22 (by decide) ?_
    exact w_zret rfl dX2_isClick__23 ⟨by decide, by decide⟩ ⟨rfl, ⟨by decide, by decide⟩, (Or.inl ⟨h1_, rfl⟩)⟩
  · refine w_iload_n dX2_isClick__4 rfl 0 rfl ?_
    refine w_bipush (v := 100) dX2_isClick__5 (by decide) ?_
    refine w_idivB dX2_isClick__7 (by decide) (rfl : v.toInt = v.toInt) li_100 (lf_c_X2_isClick__0 v h1_) (by decide) (fun z2_ h3_ => ?_)
    refine w_iload_n dX2_isClick__8 rfl 0 rfl ?_
    refine w_bipush (v := 100) dX2_isClick__9 (by decide) ?_
    refine w_iremB dX2_isClick__11 (by decide) (rfl : v.toInt = v.toInt) li_100 (lf_c_X2_isClick__1 v z2_ h1_ h3_) (by decide) (fun z4_ h5_ => ?_)
    refine w_callS (as := [vI z2_, vI z4_]) (rest := []) (c_X2_isClick l G cy ad d z2_ z4_ Mz hIz) kS_X2_isClick (by decide +kernel) (Nat.le_of_ble_eq_true rfl) m_842 rfl rfl (by decide) (Nat.le_of_ble_eq_true rfl) dX2_isClick__12 (fun r6_ M7_ q8_ => ?_)
    obtain ⟨rfl, h9_, hs10_⟩ := q8_
    refine w_if_eq (tgt := 22) dX2_isClick__15 (by decide) (rfl : r6_.toInt = r6_.toInt) (fun h11_ => ?_) (fun h11_ => ?_)
    · refine w_iconst (v := 0) dX2_isClick__22 (by decide) ?_
      exact w_zret rfl dX2_isClick__23 ⟨by decide, by decide⟩ ⟨rfl, ⟨by decide, by decide⟩, (Or.inr ⟨h1_, z2_, h3_, z4_, h5_, r6_, hs10_, h9_, (Or.inl ⟨h11_, rfl⟩)⟩)⟩
    · refine w_iconst (v := 1) dX2_isClick__18 (by decide) ?_
      refine w_goto (tgt := 23) dX2_isClick__19 (by decide) ?_
      exact w_zret rfl dX2_isClick__23 ⟨by decide, by decide⟩ ⟨rfl, ⟨by decide, by decide⟩, (Or.inr ⟨h1_, z2_, h3_, z4_, h5_, r6_, hs10_, h9_, (Or.inr ⟨h11_, rfl⟩)⟩)⟩
def SP_X2_late (v : Int32) (u : Int32) (Mz : mM) (r_ : Int32) : Prop := ∃ z1_ : Int32, (z1_ = v &&& (1 : Int32)) ∧ (0 ≤ z1_.toInt ∧ z1_.toInt < ((2 ^ 1 : Nat) : Int)) ∧ (((¬ z1_.toInt = 1) ∧ ∃ z5_ : Int32, (z5_ = u * (6 : Int32)) ∧ r_ = z5_) ∨ ((z1_.toInt = 1) ∧ ∃ z7_ : Int32, (z7_ = u * (8 : Int32)) ∧ r_ = z7_))
set_option maxHeartbeats 4000000 in
set_option maxRecDepth 100000 in
theorem c_X2_late (l : Launch) (G : va_G) (cy : Nat → ClassId) (ad : rf → Nat) (d : Nat) (v : Int32) (u : Int32) (Mz : mM) (hIz : Inv Mz) : WP CC l G cy ad yX2_late cX2_late 2 (some .int) d 0 [(0, vI v), (1, vI u)] [] Mz (fun r M' => Mz = M' ∧ (True) ∧ SP_X2_late v u Mz r) := by
  refine w_iload_n dX2_late_0 rfl 1 rfl ?_
  refine w_iload_n dX2_late_1 rfl 0 rfl ?_
  refine w_iconst (v := 1) dX2_late_2 (by decide) ?_
  refine w_iand dX2_late_3 (fun z1_ h3_ => ?_)
  have h2_ : 0 ≤ z1_.toInt ∧ z1_.toInt < ((2 ^ 1 : Nat) : Int) := by rw [h3_]; exact andI _ 1 (by decide) (by decide)
  refine w_iconst (v := 1) dX2_late_4 (by decide) ?_
  refine w_icmp_ne (tgt := 13) dX2_late_5 (by decide) (rfl : z1_.toInt = z1_.toInt) li_1 (fun h4_ => ?_) (fun h4_ => ?_)
  · refine w_bipush (v := 6) dX2_late_13 (by decide) ?_
    refine w_imul dX2_late_15 (fun z5_ h6_ => ?_)
    exact w_iret rfl dX2_late_16 ⟨rfl, trivial, ⟨z1_, h3_, h2_, (Or.inl ⟨h4_, z5_, h6_, rfl⟩)⟩⟩
  · refine w_bipush (v := 8) dX2_late_8 (by decide) ?_
    refine w_goto (tgt := 15) dX2_late_10 (by decide) ?_
    refine w_imul dX2_late_15 (fun z7_ h8_ => ?_)
    exact w_iret rfl dX2_late_16 ⟨rfl, trivial, ⟨z1_, h3_, h2_, (Or.inr ⟨h4_, z7_, h8_, rfl⟩)⟩⟩
def S_c_X2_changeKind (b : Nat) : rf → Nat → Prop := fun c k => (c.1 = 27 ∧ c.2.1 = b) ∨ (c.1 = 26 ∧ c.2.1 = b) ∨ False
def SP_X2_changeKind (b : Nat) (v : Int32) (u : Int32) (t : Int32) (Mz : mM) (r_ : Int32) (M_ : mM) : Prop := (((¬ u.toInt = 0) ∧ (((v.toInt < 0) ∧ r_ = 0 ∧ M_ = Mz) ∨ ((0 ≤ v.toInt) ∧ (((v.toInt < 5) ∧ ∃ j6_ : Nat, ((j6_ : Int) = v.toInt) ∧ ∃ z4_ : Int32, (z4_ = Mz.1 (27, b, 0) j6_) ∧ ∃ j10_ : Nat, ((j10_ : Int) = v.toInt) ∧ ∃ M8_ : mM, (M8_ = up Mz (27, b, 0) j10_ t) ∧ r_ = z4_ ∧ M_ = M8_) ∨ ((5 ≤ v.toInt) ∧ r_ = 0 ∧ M_ = Mz))))) ∨ ((u.toInt = 0) ∧ (((v.toInt < 0) ∧ r_ = 0 ∧ M_ = Mz) ∨ ((0 ≤ v.toInt) ∧ (((v.toInt < 5) ∧ ∃ j18_ : Nat, ((j18_ : Int) = v.toInt) ∧ ∃ z16_ : Int32, (z16_ = Mz.1 (26, b, 0) j18_) ∧ ∃ j22_ : Nat, ((j22_ : Int) = v.toInt) ∧ ∃ M20_ : mM, (M20_ = up Mz (26, b, 0) j22_ t) ∧ r_ = z16_ ∧ M_ = M20_) ∨ ((5 ≤ v.toInt) ∧ r_ = 0 ∧ M_ = Mz))))))
theorem lf_c_X2_changeKind_0  (v : Int32) (h2_ : 0 ≤ v.toInt) (h3_ : v.toInt < 5) : 0 ≤ v.toInt ∧ v.toInt < ((5 : Nat) : Int) := by have r_v := rngI v; omega
theorem lf_c_X2_changeKind_1 (Mz : mM) (b : Nat) (v : Int32) (j6_ : Nat) (z4_ : Int32) (hb : b < 3) (h2_ : 0 ≤ v.toInt) (h3_ : v.toInt < 5) (h7_ : (j6_ : Int) = v.toInt) (e5_ : z4_ = Mz.1 (27, b, 0) j6_) : 0 ≤ v.toInt ∧ v.toInt < ((5 : Nat) : Int) := by have r_v := rngI v; have r_z4_ := rngI z4_; subst e5_; omega
theorem lf_c_X2_changeKind_2  (v : Int32) (h14_ : 0 ≤ v.toInt) (h15_ : v.toInt < 5) : 0 ≤ v.toInt ∧ v.toInt < ((5 : Nat) : Int) := by have r_v := rngI v; omega
theorem lf_c_X2_changeKind_3 (Mz : mM) (b : Nat) (v : Int32) (j18_ : Nat) (z16_ : Int32) (hb : b < 3) (h14_ : 0 ≤ v.toInt) (h15_ : v.toInt < 5) (h19_ : (j18_ : Int) = v.toInt) (e17_ : z16_ = Mz.1 (26, b, 0) j18_) : 0 ≤ v.toInt ∧ v.toInt < ((5 : Nat) : Int) := by have r_v := rngI v; have r_z16_ := rngI z16_; subst e17_; omega
set_option maxHeartbeats 4000000 in
set_option maxRecDepth 100000 in
theorem c_X2_changeKind (l : Launch) (G : va_G) (cy : Nat → ClassId) (ad : rf → Nat) (d : Nat) (b : Nat) (v : Int32) (u : Int32) (t : Int32) (Mz : mM) (hIz : Inv Mz) (hb : b < 3) : WP CC l G cy ad yX2_changeKind cX2_changeKind 6 (some .int) d 0 [(0, vR (2, b, 0)), (1, vI v), (2, vI u), (3, vI t)] [] Mz (fun r M' => Inv M' ∧ FR (S_c_X2_changeKind b) Mz M' ∧ (True) ∧ SP_X2_changeKind b v u t Mz r M') := by
  have hFz : FR (S_c_X2_changeKind b) Mz Mz := FR.self
  refine w_iload_n dX2_changeKind_0 rfl 2 rfl ?_
  refine w_if_ne (tgt := 11) dX2_changeKind_1 (by decide) (rfl : u.toInt = u.toInt) (fun h1_ => ?_) (fun h1_ => ?_)
  · refine w_aload_n dX2_changeKind_11 rfl 0 rfl ?_
    refine w_getR (c' := (27, b, 0)) fl_RX2_25 rfl rfl (ic_2 hb) dX2_changeKind_12 rfl ?_
    refine w_astore (ls' := [(4, vR (27, b, 0)), (0, vR (2, b, 0)), (1, vI v), (2, vI u), (3, vI t)]) dX2_changeKind_15 (by decide) rfl ?_
    refine w_iload_n dX2_changeKind_17 rfl 2 rfl ?_
    refine w_if_lt (tgt := 28) dX2_changeKind_18 (by decide) (rfl : v.toInt = v.toInt) (fun h2_ => ?_) (fun h2_ => ?_)
    · refine w_iconst (v := 0) dX2_changeKind_28 (by decide) ?_
      exact w_iret rfl dX2_changeKind_29 ⟨hIz, hFz, trivial, (Or.inl ⟨h1_, (Or.inl ⟨h2_, rfl, rfl⟩)⟩)⟩
    · refine w_iload_n dX2_changeKind_21 rfl 2 rfl ?_
      refine w_aload dX2_changeKind_22 0 rfl ?_
      refine w_alen (v := 5) (by decide) rfl rfl (ic_27 hb) dX2_changeKind_24 rfl ?_
      refine w_icmp_lt (tgt := 30) dX2_changeKind_25 (by decide) (rfl : v.toInt = v.toInt) li_5 (fun h3_ => ?_) (fun h3_ => ?_)
      · refine w_aload dX2_changeKind_30 0 rfl ?_
        refine w_iload_n dX2_changeKind_32 rfl 2 rfl ?_
        refine w_iald rfl rfl (ic_27 hb) (rfl : v.toInt = v.toInt) (lf_c_X2_changeKind_0 v h2_ h3_) dX2_changeKind_33 (fun j6_ h7_ z4_ e5_ => ?_)
        refine w_istore (ls' := [(5, vI z4_), (4, vR (27, b, 0)), (0, vR (2, b, 0)), (1, vI v), (2, vI u), (3, vI t)]) dX2_changeKind_34 (by decide) rfl ?_
        refine w_aload dX2_changeKind_36 1 rfl ?_
        refine w_iload_n dX2_changeKind_38 rfl 3 rfl ?_
        refine w_iload_n dX2_changeKind_39 rfl 5 rfl ?_
        refine w_iast CC_nd rfl rfl (ic_27 hb) (rfl : v.toInt = v.toInt) (lf_c_X2_changeKind_1 Mz b v j6_ z4_ hb h2_ h3_ h7_ e5_) dX2_changeKind_40 (fun j10_ h11_ M8_ hM9_ => ?_)
        have hI12_ := hIz.put hM9_ trivial
        have hF13_ := hFz.put hM9_ (Or.inl ⟨rfl, rfl⟩)
        refine w_iload dX2_changeKind_41 0 rfl ?_
        exact w_iret rfl dX2_changeKind_43 ⟨hI12_, hF13_, trivial, (Or.inl ⟨h1_, (Or.inr ⟨h2_, (Or.inl ⟨h3_, j6_, h7_, z4_, e5_, j10_, h11_, M8_, hM9_, rfl, rfl⟩)⟩)⟩)⟩
      · refine w_iconst (v := 0) dX2_changeKind_28 (by decide) ?_
        exact w_iret rfl dX2_changeKind_29 ⟨hIz, hFz, trivial, (Or.inl ⟨h1_, (Or.inr ⟨h2_, (Or.inr ⟨h3_, rfl, rfl⟩)⟩)⟩)⟩
  · refine w_aload_n dX2_changeKind_4 rfl 0 rfl ?_
    refine w_getR (c' := (26, b, 0)) fl_RX2_21 rfl rfl (ic_2 hb) dX2_changeKind_5 rfl ?_
    refine w_goto (tgt := 15) dX2_changeKind_8 (by decide) ?_
    refine w_astore (ls' := [(4, vR (26, b, 0)), (0, vR (2, b, 0)), (1, vI v), (2, vI u), (3, vI t)]) dX2_changeKind_15 (by decide) rfl ?_
    refine w_iload_n dX2_changeKind_17 rfl 2 rfl ?_
    refine w_if_lt (tgt := 28) dX2_changeKind_18 (by decide) (rfl : v.toInt = v.toInt) (fun h14_ => ?_) (fun h14_ => ?_)
    · refine w_iconst (v := 0) dX2_changeKind_28 (by decide) ?_
      exact w_iret rfl dX2_changeKind_29 ⟨hIz, hFz, trivial, (Or.inr ⟨h1_, (Or.inl ⟨h14_, rfl, rfl⟩)⟩)⟩
    · refine w_iload_n dX2_changeKind_21 rfl 2 rfl ?_
      refine w_aload dX2_changeKind_22 0 rfl ?_
      refine w_alen (v := 5) (by decide) rfl rfl (ic_26 hb) dX2_changeKind_24 rfl ?_
      refine w_icmp_lt (tgt := 30) dX2_changeKind_25 (by decide) (rfl : v.toInt = v.toInt) li_5 (fun h15_ => ?_) (fun h15_ => ?_)
      · refine w_aload dX2_changeKind_30 0 rfl ?_
        refine w_iload_n dX2_changeKind_32 rfl 2 rfl ?_
        refine w_iald rfl rfl (ic_26 hb) (rfl : v.toInt = v.toInt) (lf_c_X2_changeKind_2 v h14_ h15_) dX2_changeKind_33 (fun j18_ h19_ z16_ e17_ => ?_)
        refine w_istore (ls' := [(5, vI z16_), (4, vR (26, b, 0)), (0, vR (2, b, 0)), (1, vI v), (2, vI u), (3, vI t)]) dX2_changeKind_34 (by decide) rfl ?_
        refine w_aload dX2_changeKind_36 1 rfl ?_
        refine w_iload_n dX2_changeKind_38 rfl 3 rfl ?_
        refine w_iload_n dX2_changeKind_39 rfl 5 rfl ?_
        refine w_iast CC_nd rfl rfl (ic_26 hb) (rfl : v.toInt = v.toInt) (lf_c_X2_changeKind_3 Mz b v j18_ z16_ hb h14_ h15_ h19_ e17_) dX2_changeKind_40 (fun j22_ h23_ M20_ hM21_ => ?_)
        have hI24_ := hIz.put hM21_ trivial
        have hF25_ := hFz.put hM21_ (Or.inr (Or.inl ⟨rfl, rfl⟩))
        refine w_iload dX2_changeKind_41 0 rfl ?_
        exact w_iret rfl dX2_changeKind_43 ⟨hI24_, hF25_, trivial, (Or.inr ⟨h1_, (Or.inr ⟨h14_, (Or.inl ⟨h15_, j18_, h19_, z16_, e17_, j22_, h23_, M20_, hM21_, rfl, rfl⟩)⟩)⟩)⟩
      · refine w_iconst (v := 0) dX2_changeKind_28 (by decide) ?_
        exact w_iret rfl dX2_changeKind_29 ⟨hIz, hFz, trivial, (Or.inr ⟨h1_, (Or.inr ⟨h14_, (Or.inr ⟨h15_, rfl, rfl⟩)⟩)⟩)⟩
def S_c_X2_changeAir (b : Nat) : rf → Nat → Prop := fun c k => (c.1 = 2 ∧ c.2.1 = b ∧ k = 2) ∨ (c.1 = 2 ∧ c.2.1 = b ∧ k = 1) ∨ (c.1 = 2 ∧ c.2.1 = b ∧ k = 0) ∨ False
def SP_X2_changeAir (b : Nat) (v : Int32) (u : Int32) (Mz : mM) (r_ : Int32) (M_ : mM) : Prop := (((¬ v.toInt = 0) ∧ (((¬ v.toInt = 1) ∧ ∃ z3_ : Int32, (z3_ = Mz.1 (2, b, 0) 2) ∧ (((¬ v.toInt = 0) ∧ (((¬ v.toInt = 1) ∧ ∃ M7_ : mM, (M7_ = up Mz (2, b, 0) 2 u) ∧ r_ = z3_ ∧ M_ = M7_) ∨ ((v.toInt = 1) ∧ ∃ M11_ : mM, (M11_ = up Mz (2, b, 0) 1 u) ∧ r_ = z3_ ∧ M_ = M11_))) ∨ ((v.toInt = 0) ∧ ∃ M15_ : mM, (M15_ = up Mz (2, b, 0) 0 u) ∧ r_ = z3_ ∧ M_ = M15_))) ∨ ((v.toInt = 1) ∧ ∃ z19_ : Int32, (z19_ = Mz.1 (2, b, 0) 1) ∧ (¬ v.toInt = 0) ∧ (v.toInt = 1) ∧ ∃ M23_ : mM, (M23_ = up Mz (2, b, 0) 1 u) ∧ r_ = z19_ ∧ M_ = M23_))) ∨ ((v.toInt = 0) ∧ ∃ z27_ : Int32, (z27_ = Mz.1 (2, b, 0) 0) ∧ (v.toInt = 0) ∧ ∃ M30_ : mM, (M30_ = up Mz (2, b, 0) 0 u) ∧ r_ = z27_ ∧ M_ = M30_))
theorem lf_c_X2_changeAir_0  (v : Int32) (h1_ : ¬ v.toInt = 0) (h2_ : v.toInt = 1) (h9 : v.toInt = 0) : False := by have r_v := rngI v; omega
theorem lf_c_X2_changeAir_1  (v : Int32) (h1_ : ¬ v.toInt = 0) (h2_ : v.toInt = 1) (h21_ : ¬ v.toInt = 0) (h9 : ¬ v.toInt = 1) : False := by have r_v := rngI v; omega
theorem lf_c_X2_changeAir_2  (v : Int32) (h1_ : v.toInt = 0) (h9 : ¬ v.toInt = 0) : False := by have r_v := rngI v; omega
set_option maxHeartbeats 4000000 in
set_option maxRecDepth 100000 in
theorem c_X2_changeAir (l : Launch) (G : va_G) (cy : Nat → ClassId) (ad : rf → Nat) (d : Nat) (b : Nat) (v : Int32) (u : Int32) (Mz : mM) (hIz : Inv Mz) (hb : b < 3) : WP CC l G cy ad yX2_changeAir cX2_changeAir 4 (some .int) d 0 [(0, vR (2, b, 0)), (1, vI v), (2, vI u)] [] Mz (fun r M' => Inv M' ∧ FR (S_c_X2_changeAir b) Mz M' ∧ (True) ∧ SP_X2_changeAir b v u Mz r M') := by
  have hFz : FR (S_c_X2_changeAir b) Mz Mz := FR.self
  refine w_iload_n dX2_changeAir_0 rfl 1 rfl ?_
  refine w_if_ne (tgt := 11) dX2_changeAir_1 (by decide) (rfl : v.toInt = v.toInt) (fun h1_ => ?_) (fun h1_ => ?_)
  · refine w_iload_n dX2_changeAir_11 rfl 1 rfl ?_
    refine w_iconst (v := 1) dX2_changeAir_12 (by decide) ?_
    refine w_icmp_ne (tgt := 23) dX2_changeAir_13 (by decide) (rfl : v.toInt = v.toInt) li_1 (fun h2_ => ?_) (fun h2_ => ?_)
    · refine w_aload_n dX2_changeAir_23 rfl 0 rfl ?_
      refine w_getI fl_RX2_16 rfl rfl (ic_2 hb) dX2_changeAir_24 (fun z3_ e4_ => ?_)
      refine w_istore_n (ls' := [(3, vI z3_), (0, vR (2, b, 0)), (1, vI v), (2, vI u)]) dX2_changeAir_27 rfl (by decide) rfl ?_
      refine w_iload_n dX2_changeAir_28 rfl 2 rfl ?_
      refine w_if_ne (tgt := 40) dX2_changeAir_29 (by decide) (rfl : v.toInt = v.toInt) (fun h5_ => ?_) (fun h5_ => ?_)
      · refine w_iload_n dX2_changeAir_40 rfl 2 rfl ?_
        refine w_iconst (v := 1) dX2_changeAir_41 (by decide) ?_
        refine w_icmp_ne (tgt := 53) dX2_changeAir_42 (by decide) (rfl : v.toInt = v.toInt) li_1 (fun h6_ => ?_) (fun h6_ => ?_)
        · refine w_aload_n dX2_changeAir_53 rfl 1 rfl ?_
          refine w_iload_n dX2_changeAir_54 rfl 3 rfl ?_
          refine w_putI CC_nd fl_RX2_16 rfl rfl (ic_2 hb) dX2_changeAir_55 (fun M7_ hM8_ => ?_)
          have hI9_ := hIz.put hM8_ trivial
          have hF10_ := hFz.put hM8_ (Or.inl ⟨rfl, rfl, rfl⟩)
          refine w_iload_n dX2_changeAir_58 rfl 0 rfl ?_
          exact w_iret rfl dX2_changeAir_59 ⟨hI9_, hF10_, trivial, (Or.inl ⟨h1_, (Or.inl ⟨h2_, z3_, e4_, (Or.inl ⟨h5_, (Or.inl ⟨h6_, M7_, hM8_, rfl, rfl⟩)⟩)⟩)⟩)⟩
        · refine w_aload_n dX2_changeAir_45 rfl 1 rfl ?_
          refine w_iload_n dX2_changeAir_46 rfl 3 rfl ?_
          refine w_putI CC_nd fl_RX2_13 rfl rfl (ic_2 hb) dX2_changeAir_47 (fun M11_ hM12_ => ?_)
          have hI13_ := hIz.put hM12_ trivial
          have hF14_ := hFz.put hM12_ (Or.inr (Or.inl ⟨rfl, rfl, rfl⟩))
          refine w_goto (tgt := 58) dX2_changeAir_50 (by decide) ?_
          refine w_iload_n dX2_changeAir_58 rfl 0 rfl ?_
          exact w_iret rfl dX2_changeAir_59 ⟨hI13_, hF14_, trivial, (Or.inl ⟨h1_, (Or.inl ⟨h2_, z3_, e4_, (Or.inl ⟨h5_, (Or.inr ⟨h6_, M11_, hM12_, rfl, rfl⟩)⟩)⟩)⟩)⟩
      · refine w_aload_n dX2_changeAir_32 rfl 1 rfl ?_
        refine w_iload_n dX2_changeAir_33 rfl 3 rfl ?_
        refine w_putI CC_nd fl_RX2_7 rfl rfl (ic_2 hb) dX2_changeAir_34 (fun M15_ hM16_ => ?_)
        have hI17_ := hIz.put hM16_ trivial
        have hF18_ := hFz.put hM16_ (Or.inr (Or.inr (Or.inl ⟨rfl, rfl, rfl⟩)))
        refine w_goto (tgt := 58) dX2_changeAir_37 (by decide) ?_
        refine w_iload_n dX2_changeAir_58 rfl 0 rfl ?_
        exact w_iret rfl dX2_changeAir_59 ⟨hI17_, hF18_, trivial, (Or.inl ⟨h1_, (Or.inl ⟨h2_, z3_, e4_, (Or.inr ⟨h5_, M15_, hM16_, rfl, rfl⟩)⟩)⟩)⟩
    · refine w_aload_n dX2_changeAir_16 rfl 0 rfl ?_
      refine w_getI fl_RX2_13 rfl rfl (ic_2 hb) dX2_changeAir_17 (fun z19_ e20_ => ?_)
      refine w_goto (tgt := 27) dX2_changeAir_20 (by decide) ?_
      refine w_istore_n (ls' := [(3, vI z19_), (0, vR (2, b, 0)), (1, vI v), (2, vI u)]) dX2_changeAir_27 rfl (by decide) rfl ?_
      refine w_iload_n dX2_changeAir_28 rfl 2 rfl ?_
      refine w_if_ne (tgt := 40) dX2_changeAir_29 (by decide) (rfl : v.toInt = v.toInt) (fun h21_ => ?_) (fun h9 => (lf_c_X2_changeAir_0 v h1_ h2_ h9).elim)
      refine w_iload_n dX2_changeAir_40 rfl 2 rfl ?_
      refine w_iconst (v := 1) dX2_changeAir_41 (by decide) ?_
      refine w_icmp_ne (tgt := 53) dX2_changeAir_42 (by decide) (rfl : v.toInt = v.toInt) li_1 (fun h9 => (lf_c_X2_changeAir_1 v h1_ h2_ h21_ h9).elim) (fun h22_ => ?_)
      refine w_aload_n dX2_changeAir_45 rfl 1 rfl ?_
      refine w_iload_n dX2_changeAir_46 rfl 3 rfl ?_
      refine w_putI CC_nd fl_RX2_13 rfl rfl (ic_2 hb) dX2_changeAir_47 (fun M23_ hM24_ => ?_)
      have hI25_ := hIz.put hM24_ trivial
      have hF26_ := hFz.put hM24_ (Or.inr (Or.inl ⟨rfl, rfl, rfl⟩))
      refine w_goto (tgt := 58) dX2_changeAir_50 (by decide) ?_
      refine w_iload_n dX2_changeAir_58 rfl 0 rfl ?_
      exact w_iret rfl dX2_changeAir_59 ⟨hI25_, hF26_, trivial, (Or.inl ⟨h1_, (Or.inr ⟨h2_, z19_, e20_, h21_, h22_, M23_, hM24_, rfl, rfl⟩)⟩)⟩
  · refine w_aload_n dX2_changeAir_4 rfl 0 rfl ?_
    refine w_getI fl_RX2_7 rfl rfl (ic_2 hb) dX2_changeAir_5 (fun z27_ e28_ => ?_)
    refine w_goto (tgt := 27) dX2_changeAir_8 (by decide) ?_
    refine w_istore_n (ls' := [(3, vI z27_), (0, vR (2, b, 0)), (1, vI v), (2, vI u)]) dX2_changeAir_27 rfl (by decide) rfl ?_
    refine w_iload_n dX2_changeAir_28 rfl 2 rfl ?_
    refine w_if_ne (tgt := 40) dX2_changeAir_29 (by decide) (rfl : v.toInt = v.toInt) (fun h9 => (lf_c_X2_changeAir_2 v h1_ h9).elim) (fun h29_ => ?_)
    refine w_aload_n dX2_changeAir_32 rfl 1 rfl ?_
    refine w_iload_n dX2_changeAir_33 rfl 3 rfl ?_
    refine w_putI CC_nd fl_RX2_7 rfl rfl (ic_2 hb) dX2_changeAir_34 (fun M30_ hM31_ => ?_)
    have hI32_ := hIz.put hM31_ trivial
    have hF33_ := hFz.put hM31_ (Or.inr (Or.inr (Or.inl ⟨rfl, rfl, rfl⟩)))
    refine w_goto (tgt := 58) dX2_changeAir_37 (by decide) ?_
    refine w_iload_n dX2_changeAir_58 rfl 0 rfl ?_
    exact w_iret rfl dX2_changeAir_59 ⟨hI32_, hF33_, trivial, (Or.inr ⟨h1_, z27_, e28_, h29_, M30_, hM31_, rfl, rfl⟩)⟩
def S_c_X2_strength (b : Nat) : rf → Nat → Prop := fun c k => (c.1 = 29 ∧ c.2.1 = b ∧ k = 0) ∨ (c.1 = 29 ∧ c.2.1 = b ∧ k = 1) ∨ (c.1 = 29 ∧ c.2.1 = b ∧ k = 2) ∨ (c.1 = 29 ∧ c.2.1 = b ∧ k = 3) ∨ (c.1 = 25 ∧ c.2.1 = b ∧ c.2.2 = 0) ∨ False
def SP_X2_strength (b : Nat) (v : Int32) (u : Int32) (t : Int32) (Mz : mM) (r_ : Int32) (M_ : mM) : Prop := ∃ z1_ : Int32, (z1_ = u / (100 : Int32)) ∧ ∃ z3_ : Int32, (z3_ = u - u / (100 : Int32) * (100 : Int32)) ∧ (((v.toInt < 0) ∧ r_ = 0 ∧ M_ = Mz) ∨ ((0 ≤ v.toInt) ∧ (((5 ≤ v.toInt) ∧ r_ = 0 ∧ M_ = Mz) ∨ ((v.toInt < 5) ∧ ∃ j9_ : Nat, ((j9_ : Int) = v.toInt) ∧ ∃ z7_ : Int32, (z7_ = Mz.1 (27, b, 0) j9_) ∧ (((z7_.toInt ≤ z1_.toInt) ∧ ∃ j14_ : Nat, ((j14_ : Int) = v.toInt) ∧ ∃ z12_ : Int32, (z12_ = Mz.1 (26, b, 0) j14_) ∧ ∃ z16_ : Int32, (z16_ = z3_ * z12_) ∧ ∃ z18_ : Int32, (z18_ = z16_ / (50 : Int32)) ∧ ∃ z20_ : Int32, (z20_ = (2 : Int32) * t) ∧ ∃ z22_ : Int32, (z22_ = z18_ - z20_) ∧ ∃ r24_ : Int32, (SP_X1_isGiven b 0 Mz r24_) ∧ ((0 ≤ r24_.toInt ∧ r24_.toInt ≤ 1)) ∧ (((r24_.toInt = 0) ∧ ∃ z30_ : Int32, ((z30_.toInt = 999 ∧ 999 ≤ z22_.toInt) ∨ (z30_.toInt = z22_.toInt ∧ z22_.toInt ≤ 999)) ∧ ∃ z32_ : Int32, ((z32_.toInt = 0 ∧ z30_.toInt ≤ 0) ∨ (z32_.toInt = z30_.toInt ∧ 0 ≤ z30_.toInt)) ∧ ∃ z34_ : Int32, (z34_ = Mz.1 (2, b, 0) 2) ∧ (((¬ z34_.toInt = 1) ∧ r_ = z32_ ∧ M_ = Mz) ∨ ((z34_.toInt = 1) ∧ ∃ z37_ : Int32, (z37_.toInt = z32_.toInt / 2) ∧ r_ = z37_ ∧ M_ = Mz))) ∨ ((¬ r24_.toInt = 0) ∧ ∃ M39_ : mM, (M39_ = up Mz (29, b, 0) 0 z3_) ∧ ∃ j45_ : Nat, ((j45_ : Int) = v.toInt) ∧ ∃ z43_ : Int32, (z43_ = M39_.1 (26, b, 0) j45_) ∧ ∃ M47_ : mM, (M47_ = up M39_ (29, b, 0) 1 z43_) ∧ ∃ M51_ : mM, (M51_ = up M47_ (29, b, 0) 2 t) ∧ ∃ M55_ : mM, (M55_ = up M51_ (29, b, 0) 3 z1_) ∧ (Inv M55_) ∧ ∃ M60_ : mM, (Inv M60_) ∧ (FR (S_c_X1_work b 0 b) M55_ M60_) ∧ ∃ r59_ : Int32, (SP_X1_work b 0 b M55_ r59_ M60_) ∧ ∃ z67_ : Int32, ((z67_.toInt = 999 ∧ 999 ≤ r59_.toInt) ∨ (z67_.toInt = r59_.toInt ∧ r59_.toInt ≤ 999)) ∧ ∃ z69_ : Int32, ((z69_.toInt = 0 ∧ z67_.toInt ≤ 0) ∨ (z69_.toInt = z67_.toInt ∧ 0 ≤ z67_.toInt)) ∧ ∃ z71_ : Int32, (z71_ = M60_.1 (2, b, 0) 2) ∧ (((¬ z71_.toInt = 1) ∧ r_ = z69_ ∧ M_ = M60_) ∨ ((z71_.toInt = 1) ∧ ∃ z74_ : Int32, (z74_.toInt = z69_.toInt / 2) ∧ r_ = z74_ ∧ M_ = M60_))))) ∨ ((z1_.toInt < z7_.toInt) ∧ r_ = 0 ∧ M_ = Mz))))))
theorem lf_c_X2_strength_0  (v : Int32) (h5_ : 0 ≤ v.toInt) (h6_ : v.toInt < 5) : 0 ≤ v.toInt ∧ v.toInt < ((5 : Nat) : Int) := by have r_v := rngI v; omega
theorem lf_c_X2_strength_1 (Mz : mM) (b : Nat) (v : Int32) (z1_ : Int32) (j9_ : Nat) (z7_ : Int32) (hb : b < 3) (h5_ : 0 ≤ v.toInt) (h6_ : v.toInt < 5) (h10_ : (j9_ : Int) = v.toInt) (e8_ : z7_ = Mz.1 (27, b, 0) j9_) (h11_ : z7_.toInt ≤ z1_.toInt) : 0 ≤ v.toInt ∧ v.toInt < ((5 : Nat) : Int) := by have r_v := rngI v; have r_z1_ := rngI z1_; have r_z7_ := rngI z7_; subst e8_; omega
theorem lf_c_X2_strength_2 (Mz : mM) (b : Nat) (v : Int32) (z1_ : Int32) (j9_ : Nat) (z7_ : Int32) (j14_ : Nat) (z12_ : Int32) (hb : b < 3) (h5_ : 0 ≤ v.toInt) (h6_ : v.toInt < 5) (h10_ : (j9_ : Int) = v.toInt) (e8_ : z7_ = Mz.1 (27, b, 0) j9_) (h11_ : z7_.toInt ≤ z1_.toInt) (h15_ : (j14_ : Int) = v.toInt) (e13_ : z12_ = Mz.1 (26, b, 0) j14_) : vF b 0 := by have r_v := rngI v; have r_z1_ := rngI z1_; have r_z7_ := rngI z7_; have r_z12_ := rngI z12_; unfold vF; omega
theorem lf_c_X2_strength_3 (Mz : mM) (b : Nat) (v : Int32) (z1_ : Int32) (j9_ : Nat) (z7_ : Int32) (j14_ : Nat) (z12_ : Int32) (hb : b < 3) (h5_ : 0 ≤ v.toInt) (h6_ : v.toInt < 5) (h10_ : (j9_ : Int) = v.toInt) (e8_ : z7_ = Mz.1 (27, b, 0) j9_) (h11_ : z7_.toInt ≤ z1_.toInt) (h15_ : (j14_ : Int) = v.toInt) (e13_ : z12_ = Mz.1 (26, b, 0) j14_) : vF b 0 := by have r_v := rngI v; have r_z1_ := rngI z1_; have r_z7_ := rngI z7_; have r_z12_ := rngI z12_; unfold vF; omega
theorem lf_c_X2_strength_4  (z22_ : Int32) (z30_ : Int32) (z32_ : Int32) (h31_ : (z30_.toInt = 999 ∧ 999 ≤ z22_.toInt) ∨ (z30_.toInt = z22_.toInt ∧ z22_.toInt ≤ 999)) (h33_ : (z32_.toInt = 0 ∧ z30_.toInt ≤ 0) ∨ (z32_.toInt = z30_.toInt ∧ 0 ≤ z30_.toInt)) : 0 ≤ z32_.toInt := by have r_z22_ := rngI z22_; have r_z30_ := rngI z30_; have r_z32_ := rngI z32_; omega
theorem lf_c_X2_strength_5 (M39_ : mM) (Mz : mM) (b : Nat) (v : Int32) (z1_ : Int32) (z3_ : Int32) (j9_ : Nat) (z7_ : Int32) (j14_ : Nat) (z12_ : Int32) (hb : b < 3) (h5_ : 0 ≤ v.toInt) (h6_ : v.toInt < 5) (h10_ : (j9_ : Int) = v.toInt) (e8_ : z7_ = Mz.1 (27, b, 0) j9_) (h11_ : z7_.toInt ≤ z1_.toInt) (h15_ : (j14_ : Int) = v.toInt) (e13_ : z12_ = Mz.1 (26, b, 0) j14_) (hM40_ : M39_ = up Mz (29, b, 0) 0 z3_) : 0 ≤ v.toInt ∧ v.toInt < ((5 : Nat) : Int) := by have r_v := rngI v; have r_z1_ := rngI z1_; have r_z3_ := rngI z3_; have r_z7_ := rngI z7_; have r_z12_ := rngI z12_; subst e8_; subst e13_; omega
theorem lf_c_X2_strength_6 (M39_ : mM) (M47_ : mM) (M51_ : mM) (M55_ : mM) (Mz : mM) (b : Nat) (v : Int32) (t : Int32) (z1_ : Int32) (z3_ : Int32) (j9_ : Nat) (z7_ : Int32) (j14_ : Nat) (z12_ : Int32) (j45_ : Nat) (z43_ : Int32) (hb : b < 3) (h5_ : 0 ≤ v.toInt) (h6_ : v.toInt < 5) (h10_ : (j9_ : Int) = v.toInt) (e8_ : z7_ = Mz.1 (27, b, 0) j9_) (h11_ : z7_.toInt ≤ z1_.toInt) (h15_ : (j14_ : Int) = v.toInt) (e13_ : z12_ = Mz.1 (26, b, 0) j14_) (hM40_ : M39_ = up Mz (29, b, 0) 0 z3_) (h46_ : (j45_ : Int) = v.toInt) (e44_ : z43_ = M39_.1 (26, b, 0) j45_) (hM48_ : M47_ = up M39_ (29, b, 0) 1 z43_) (hM52_ : M51_ = up M47_ (29, b, 0) 2 t) (hM56_ : M55_ = up M51_ (29, b, 0) 3 z1_) : vF b 0 := by have r_v := rngI v; have r_t := rngI t; have r_z1_ := rngI z1_; have r_z3_ := rngI z3_; have r_z7_ := rngI z7_; have r_z12_ := rngI z12_; have r_z43_ := rngI z43_; unfold vF; omega
theorem lf_c_X2_strength_7 (M39_ : mM) (M47_ : mM) (M51_ : mM) (M55_ : mM) (Mz : mM) (b : Nat) (v : Int32) (t : Int32) (z1_ : Int32) (z3_ : Int32) (j9_ : Nat) (z7_ : Int32) (j14_ : Nat) (z12_ : Int32) (j45_ : Nat) (z43_ : Int32) (hb : b < 3) (h5_ : 0 ≤ v.toInt) (h6_ : v.toInt < 5) (h10_ : (j9_ : Int) = v.toInt) (e8_ : z7_ = Mz.1 (27, b, 0) j9_) (h11_ : z7_.toInt ≤ z1_.toInt) (h15_ : (j14_ : Int) = v.toInt) (e13_ : z12_ = Mz.1 (26, b, 0) j14_) (hM40_ : M39_ = up Mz (29, b, 0) 0 z3_) (h46_ : (j45_ : Int) = v.toInt) (e44_ : z43_ = M39_.1 (26, b, 0) j45_) (hM48_ : M47_ = up M39_ (29, b, 0) 1 z43_) (hM52_ : M51_ = up M47_ (29, b, 0) 2 t) (hM56_ : M55_ = up M51_ (29, b, 0) 3 z1_) : vF b 0 := by have r_v := rngI v; have r_t := rngI t; have r_z1_ := rngI z1_; have r_z3_ := rngI z3_; have r_z7_ := rngI z7_; have r_z12_ := rngI z12_; have r_z43_ := rngI z43_; unfold vF; omega
theorem lf_c_X2_strength_8  (r59_ : Int32) (z67_ : Int32) (z69_ : Int32) (h68_ : (z67_.toInt = 999 ∧ 999 ≤ r59_.toInt) ∨ (z67_.toInt = r59_.toInt ∧ r59_.toInt ≤ 999)) (h70_ : (z69_.toInt = 0 ∧ z67_.toInt ≤ 0) ∨ (z69_.toInt = z67_.toInt ∧ 0 ≤ z67_.toInt)) : 0 ≤ z69_.toInt := by have r_r59_ := rngI r59_; have r_z67_ := rngI z67_; have r_z69_ := rngI z69_; omega
set_option maxHeartbeats 4000000 in
set_option maxRecDepth 100000 in
theorem c_X2_strength (l : Launch) (G : va_G) (cy : Nat → ClassId) (ad : rf → Nat) (d : Nat) (b : Nat) (v : Int32) (u : Int32) (t : Int32) (Mz : mM) (hIz : Inv Mz) (hb : b < 3) : WP CC l G cy ad yX2_strength cX2_strength 8 (some .int) (d + 1) 0 [(0, vR (2, b, 0)), (1, vI v), (2, vI u), (3, vI t)] [] Mz (fun r M' => Inv M' ∧ FR (S_c_X2_strength b) Mz M' ∧ (True) ∧ SP_X2_strength b v u t Mz r M') := by
  have hFz : FR (S_c_X2_strength b) Mz Mz := FR.self
  refine w_iload_n dX2_strength_0 rfl 2 rfl ?_
  refine w_bipush (v := 100) dX2_strength_1 (by decide) ?_
  refine w_idiv dX2_strength_3 (by decide) (fun z1_ h2_ => ?_)
  refine w_istore (ls' := [(4, vI z1_), (0, vR (2, b, 0)), (1, vI v), (2, vI u), (3, vI t)]) dX2_strength_4 (by decide) rfl ?_
  refine w_iload_n dX2_strength_6 rfl 3 rfl ?_
  refine w_bipush (v := 100) dX2_strength_7 (by decide) ?_
  refine w_irem dX2_strength_9 (by decide) (fun z3_ h4_ => ?_)
  refine w_istore (ls' := [(5, vI z3_), (4, vI z1_), (0, vR (2, b, 0)), (1, vI v), (2, vI u), (3, vI t)]) dX2_strength_10 (by decide) rfl ?_
  refine w_iload_n dX2_strength_12 rfl 3 rfl ?_
  refine w_if_lt (tgt := 32) dX2_strength_13 (by decide) (rfl : v.toInt = v.toInt) (fun h5_ => ?_) (fun h5_ => ?_)
  · refine w_iconst (v := 0) dX2_strength_32 (by decide) ?_
    exact w_iret rfl dX2_strength_33 ⟨hIz, hFz, trivial, ⟨z1_, h2_, z3_, h4_, (Or.inl ⟨h5_, rfl, rfl⟩)⟩⟩
  · refine w_iload_n dX2_strength_16 rfl 3 rfl ?_
    refine w_iconst (v := 5) dX2_strength_17 (by decide) ?_
    refine w_icmp_ge (tgt := 32) dX2_strength_18 (by decide) (rfl : v.toInt = v.toInt) li_5 (fun h6_ => ?_) (fun h6_ => ?_)
    · refine w_iconst (v := 0) dX2_strength_32 (by decide) ?_
      exact w_iret rfl dX2_strength_33 ⟨hIz, hFz, trivial, ⟨z1_, h2_, z3_, h4_, (Or.inr ⟨h5_, (Or.inl ⟨h6_, rfl, rfl⟩)⟩)⟩⟩
    · refine w_aload_n dX2_strength_21 rfl 2 rfl ?_
      refine w_getR (c' := (27, b, 0)) fl_RX2_25 rfl rfl (ic_2 hb) dX2_strength_22 rfl ?_
      refine w_iload_n dX2_strength_25 rfl 3 rfl ?_
      refine w_iald rfl rfl (ic_27 hb) (rfl : v.toInt = v.toInt) (lf_c_X2_strength_0 v h5_ h6_) dX2_strength_26 (fun j9_ h10_ z7_ e8_ => ?_)
      refine w_iload dX2_strength_27 1 rfl ?_
      refine w_icmp_le (tgt := 34) dX2_strength_29 (by decide) (rfl : z7_.toInt = z7_.toInt) (rfl : z1_.toInt = z1_.toInt) (fun h11_ => ?_) (fun h11_ => ?_)
      · refine w_iload dX2_strength_34 0 rfl ?_
        refine w_aload_n dX2_strength_36 rfl 2 rfl ?_
        refine w_getR (c' := (26, b, 0)) fl_RX2_21 rfl rfl (ic_2 hb) dX2_strength_37 rfl ?_
        refine w_iload_n dX2_strength_40 rfl 3 rfl ?_
        refine w_iald rfl rfl (ic_26 hb) (rfl : v.toInt = v.toInt) (lf_c_X2_strength_1 Mz b v z1_ j9_ z7_ hb h5_ h6_ h10_ e8_ h11_) dX2_strength_41 (fun j14_ h15_ z12_ e13_ => ?_)
        refine w_imul dX2_strength_42 (fun z16_ h17_ => ?_)
        refine w_bipush (v := 50) dX2_strength_43 (by decide) ?_
        refine w_idiv dX2_strength_45 (by decide) (fun z18_ h19_ => ?_)
        refine w_iconst (v := 2) dX2_strength_46 (by decide) ?_
        refine w_iload_n dX2_strength_47 rfl 5 rfl ?_
        refine w_imul dX2_strength_48 (fun z20_ h21_ => ?_)
        refine w_isub dX2_strength_49 (fun z22_ h23_ => ?_)
        refine w_istore (ls' := [(6, vI z22_), (5, vI z3_), (4, vI z1_), (0, vR (2, b, 0)), (1, vI v), (2, vI u), (3, vI t)]) dX2_strength_50 (by decide) rfl ?_
        refine w_aload_n dX2_strength_52 rfl 3 rfl ?_
        refine w_getR (c' := (28, b, 0)) fl_RX2_30 rfl rfl (ic_2 hb) dX2_strength_53 rfl ?_
        refine w_iconst (v := 0) dX2_strength_56 (by decide) ?_
        refine w_aaldL 0 rfl rfl rfl (fun _ => rfl) (ic_28 hb) li_0 (by decide) dX2_strength_57 ?_
        refine w_callV (as := []) (rest := []) (c_X1_isGiven l G cy ad d b 0 Mz hIz (lf_c_X2_strength_2 Mz b v z1_ j9_ z7_ j14_ z12_ hb h5_ h6_ h10_ e8_ h11_ h15_ e13_)) kV_X1_isGiven (by decide +kernel) (Nat.le_of_ble_eq_true rfl) m_877 rfl rfl rfl (ic_1 (lf_c_X2_strength_3 Mz b v z1_ j9_ z7_ j14_ z12_ hb h5_ h6_ h10_ e8_ h11_ h15_ e13_)) rfl rfl (by decide) (Nat.le_of_ble_eq_true rfl) dX2_strength_58 (fun r24_ M25_ q26_ => ?_)
        obtain ⟨rfl, h27_, hs28_⟩ := q26_
        refine w_if_eq (tgt := 114) dX2_strength_61 (by decide) (rfl : r24_.toInt = r24_.toInt) (fun h29_ => ?_) (fun h29_ => ?_)
        · refine w_iconst (v := 0) dX2_strength_114 (by decide) ?_
          refine w_sipush (v := 999) dX2_strength_115 (by decide) ?_
          refine w_iload dX2_strength_118 0 rfl ?_
          refine w_min m_885 m_770 m_86 m_771 li_999 (rfl : z22_.toInt = z22_.toInt) (Nat.le_of_ble_eq_true rfl) (by omega) dX2_strength_120 (fun z30_ h31_ => ?_)
          refine w_max m_886 m_206 m_86 m_207 li_0 (rfl : z30_.toInt = z30_.toInt) (Nat.le_of_ble_eq_true rfl) (by omega) dX2_strength_123 (fun z32_ h33_ => ?_)
          refine w_istore (ls' := [(7, vI z32_), (6, vI z22_), (5, vI z3_), (4, vI z1_), (0, vR (2, b, 0)), (1, vI v), (2, vI u), (3, vI t)]) dX2_strength_126 (by decide) rfl ?_
          refine w_aload_n dX2_strength_128 rfl 4 rfl ?_
          refine w_getI fl_RX2_16 rfl rfl (ic_2 hb) dX2_strength_129 (fun z34_ e35_ => ?_)
          refine w_iconst (v := 1) dX2_strength_132 (by decide) ?_
          refine w_icmp_ne (tgt := 143) dX2_strength_133 (by decide) (rfl : z34_.toInt = z34_.toInt) li_1 (fun h36_ => ?_) (fun h36_ => ?_)
          · refine w_iload dX2_strength_143 0 rfl ?_
            exact w_iret rfl dX2_strength_145 ⟨hIz, hFz, trivial, ⟨z1_, h2_, z3_, h4_, (Or.inr ⟨h5_, (Or.inr ⟨h6_, j9_, h10_, z7_, e8_, (Or.inl ⟨h11_, j14_, h15_, z12_, e13_, z16_, h17_, z18_, h19_, z20_, h21_, z22_, h23_, r24_, hs28_, h27_, (Or.inl ⟨h29_, z30_, h31_, z32_, h33_, z34_, e35_, (Or.inl ⟨h36_, rfl, rfl⟩)⟩)⟩)⟩)⟩)⟩⟩
          · refine w_iload dX2_strength_136 0 rfl ?_
            refine w_iconst (v := 2) dX2_strength_138 (by decide) ?_
            refine w_idivB dX2_strength_139 (by decide) (rfl : z32_.toInt = z32_.toInt) li_2 (lf_c_X2_strength_4 z22_ z30_ z32_ h31_ h33_) (by decide) (fun z37_ h38_ => ?_)
            refine w_goto (tgt := 145) dX2_strength_140 (by decide) ?_
            exact w_iret rfl dX2_strength_145 ⟨hIz, hFz, trivial, ⟨z1_, h2_, z3_, h4_, (Or.inr ⟨h5_, (Or.inr ⟨h6_, j9_, h10_, z7_, e8_, (Or.inl ⟨h11_, j14_, h15_, z12_, e13_, z16_, h17_, z18_, h19_, z20_, h21_, z22_, h23_, r24_, hs28_, h27_, (Or.inl ⟨h29_, z30_, h31_, z32_, h33_, z34_, e35_, (Or.inr ⟨h36_, z37_, h38_, rfl, rfl⟩)⟩)⟩)⟩)⟩)⟩⟩
        · refine w_aload_n dX2_strength_64 rfl 3 rfl ?_
          refine w_getR (c' := (29, b, 0)) fl_RX2_34 rfl rfl (ic_2 hb) dX2_strength_65 rfl ?_
          refine w_iconst (v := 0) dX2_strength_68 (by decide) ?_
          refine w_iload dX2_strength_69 1 rfl ?_
          refine w_iastL 0 CC_nd rfl rfl (ic_29 hb) li_0 (by decide) dX2_strength_71 (fun M39_ hM40_ => ?_)
          have hI41_ := hIz.put hM40_ trivial
          have hF42_ := hFz.put hM40_ (Or.inl ⟨rfl, rfl, rfl⟩)
          refine w_aload_n dX2_strength_72 rfl 3 rfl ?_
          refine w_getR (c' := (29, b, 0)) fl_RX2_34 rfl rfl (ic_2 hb) dX2_strength_73 rfl ?_
          refine w_iconst (v := 1) dX2_strength_76 (by decide) ?_
          refine w_aload_n dX2_strength_77 rfl 3 rfl ?_
          refine w_getR (c' := (26, b, 0)) fl_RX2_21 rfl rfl (ic_2 hb) dX2_strength_78 rfl ?_
          refine w_iload_n dX2_strength_81 rfl 4 rfl ?_
          refine w_iald rfl rfl (ic_26 hb) (rfl : v.toInt = v.toInt) (lf_c_X2_strength_5 M39_ Mz b v z1_ z3_ j9_ z7_ j14_ z12_ hb h5_ h6_ h10_ e8_ h11_ h15_ e13_ hM40_) dX2_strength_82 (fun j45_ h46_ z43_ e44_ => ?_)
          refine w_iastL 1 CC_nd rfl rfl (ic_29 hb) li_1 (by decide) dX2_strength_83 (fun M47_ hM48_ => ?_)
          have hI49_ := hI41_.put hM48_ trivial
          have hF50_ := hF42_.put hM48_ (Or.inr (Or.inl ⟨rfl, rfl, rfl⟩))
          refine w_aload_n dX2_strength_84 rfl 3 rfl ?_
          refine w_getR (c' := (29, b, 0)) fl_RX2_34 rfl rfl (ic_2 hb) dX2_strength_85 rfl ?_
          refine w_iconst (v := 2) dX2_strength_88 (by decide) ?_
          refine w_iload_n dX2_strength_89 rfl 6 rfl ?_
          refine w_iastL 2 CC_nd rfl rfl (ic_29 hb) li_2 (by decide) dX2_strength_90 (fun M51_ hM52_ => ?_)
          have hI53_ := hI49_.put hM52_ trivial
          have hF54_ := hF50_.put hM52_ (Or.inr (Or.inr (Or.inl ⟨rfl, rfl, rfl⟩)))
          refine w_aload_n dX2_strength_91 rfl 3 rfl ?_
          refine w_getR (c' := (29, b, 0)) fl_RX2_34 rfl rfl (ic_2 hb) dX2_strength_92 rfl ?_
          refine w_iconst (v := 3) dX2_strength_95 (by decide) ?_
          refine w_iload dX2_strength_96 2 rfl ?_
          refine w_iastL 3 CC_nd rfl rfl (ic_29 hb) li_3 (by decide) dX2_strength_98 (fun M55_ hM56_ => ?_)
          have hI57_ := hI53_.put hM56_ trivial
          have hF58_ := hF54_.put hM56_ (Or.inr (Or.inr (Or.inr (Or.inl ⟨rfl, rfl, rfl⟩))))
          refine w_aload_n dX2_strength_99 rfl 3 rfl ?_
          refine w_getR (c' := (28, b, 0)) fl_RX2_30 rfl rfl (ic_2 hb) dX2_strength_100 rfl ?_
          refine w_iconst (v := 0) dX2_strength_103 (by decide) ?_
          refine w_aaldL 0 rfl rfl rfl (fun _ => rfl) (ic_28 hb) li_0 (by decide) dX2_strength_104 ?_
          refine w_aload_n dX2_strength_105 rfl 3 rfl ?_
          refine w_getR (c' := (29, b, 0)) fl_RX2_34 rfl rfl (ic_2 hb) dX2_strength_106 rfl ?_
          refine w_callV (as := [vR (29, b, 0)]) (rest := []) (c_X1_work l G cy ad d b 0 b M55_ hI57_ (lf_c_X2_strength_6 M39_ M47_ M51_ M55_ Mz b v t z1_ z3_ j9_ z7_ j14_ z12_ j45_ z43_ hb h5_ h6_ h10_ e8_ h11_ h15_ e13_ hM40_ h46_ e44_ hM48_ hM52_ hM56_) hb) kV_X1_work (by decide +kernel) (Nat.le_of_ble_eq_true rfl) m_881 rfl rfl rfl (ic_1 (lf_c_X2_strength_7 M39_ M47_ M51_ M55_ Mz b v t z1_ z3_ j9_ z7_ j14_ z12_ j45_ z43_ hb h5_ h6_ h10_ e8_ h11_ h15_ e13_ hM40_ h46_ e44_ hM48_ hM52_ hM56_)) rfl rfl (by decide) (Nat.le_of_ble_eq_true rfl) dX2_strength_109 (fun r59_ M60_ q61_ => ?_)
          obtain ⟨hI63_, hF64_, h62_, hs66_⟩ := q61_
          have hF65_ := hF58_.tr hF64_ (fun c k => (fun h => h.elim (fun h => (Or.inr (Or.inr (Or.inr (Or.inr (Or.inl ⟨h.1, h.2.1, h.2.2⟩)))))) (fun h => h.elim)))
          refine w_istore (ls' := [(6, vI r59_), (5, vI z3_), (4, vI z1_), (0, vR (2, b, 0)), (1, vI v), (2, vI u), (3, vI t)]) dX2_strength_112 (by decide) rfl ?_
          refine w_iconst (v := 0) dX2_strength_114 (by decide) ?_
          refine w_sipush (v := 999) dX2_strength_115 (by decide) ?_
          refine w_iload dX2_strength_118 0 rfl ?_
          refine w_min m_885 m_770 m_86 m_771 li_999 (rfl : r59_.toInt = r59_.toInt) (Nat.le_of_ble_eq_true rfl) (by omega) dX2_strength_120 (fun z67_ h68_ => ?_)
          refine w_max m_886 m_206 m_86 m_207 li_0 (rfl : z67_.toInt = z67_.toInt) (Nat.le_of_ble_eq_true rfl) (by omega) dX2_strength_123 (fun z69_ h70_ => ?_)
          refine w_istore (ls' := [(7, vI z69_), (6, vI r59_), (5, vI z3_), (4, vI z1_), (0, vR (2, b, 0)), (1, vI v), (2, vI u), (3, vI t)]) dX2_strength_126 (by decide) rfl ?_
          refine w_aload_n dX2_strength_128 rfl 4 rfl ?_
          refine w_getI fl_RX2_16 rfl rfl (ic_2 hb) dX2_strength_129 (fun z71_ e72_ => ?_)
          refine w_iconst (v := 1) dX2_strength_132 (by decide) ?_
          refine w_icmp_ne (tgt := 143) dX2_strength_133 (by decide) (rfl : z71_.toInt = z71_.toInt) li_1 (fun h73_ => ?_) (fun h73_ => ?_)
          · refine w_iload dX2_strength_143 0 rfl ?_
            exact w_iret rfl dX2_strength_145 ⟨hI63_, hF65_, trivial, ⟨z1_, h2_, z3_, h4_, (Or.inr ⟨h5_, (Or.inr ⟨h6_, j9_, h10_, z7_, e8_, (Or.inl ⟨h11_, j14_, h15_, z12_, e13_, z16_, h17_, z18_, h19_, z20_, h21_, z22_, h23_, r24_, hs28_, h27_, (Or.inr ⟨h29_, M39_, hM40_, j45_, h46_, z43_, e44_, M47_, hM48_, M51_, hM52_, M55_, hM56_, hI57_, M60_, hI63_, hF64_, r59_, hs66_, z67_, h68_, z69_, h70_, z71_, e72_, (Or.inl ⟨h73_, rfl, rfl⟩)⟩)⟩)⟩)⟩)⟩⟩
          · refine w_iload dX2_strength_136 0 rfl ?_
            refine w_iconst (v := 2) dX2_strength_138 (by decide) ?_
            refine w_idivB dX2_strength_139 (by decide) (rfl : z69_.toInt = z69_.toInt) li_2 (lf_c_X2_strength_8 r59_ z67_ z69_ h68_ h70_) (by decide) (fun z74_ h75_ => ?_)
            refine w_goto (tgt := 145) dX2_strength_140 (by decide) ?_
            exact w_iret rfl dX2_strength_145 ⟨hI63_, hF65_, trivial, ⟨z1_, h2_, z3_, h4_, (Or.inr ⟨h5_, (Or.inr ⟨h6_, j9_, h10_, z7_, e8_, (Or.inl ⟨h11_, j14_, h15_, z12_, e13_, z16_, h17_, z18_, h19_, z20_, h21_, z22_, h23_, r24_, hs28_, h27_, (Or.inr ⟨h29_, M39_, hM40_, j45_, h46_, z43_, e44_, M47_, hM48_, M51_, hM52_, M55_, hM56_, hI57_, M60_, hI63_, hF64_, r59_, hs66_, z67_, h68_, z69_, h70_, z71_, e72_, (Or.inr ⟨h73_, z74_, h75_, rfl, rfl⟩)⟩)⟩)⟩)⟩)⟩⟩
      · refine w_iconst (v := 0) dX2_strength_32 (by decide) ?_
        exact w_iret rfl dX2_strength_33 ⟨hIz, hFz, trivial, ⟨z1_, h2_, z3_, h4_, (Or.inr ⟨h5_, (Or.inr ⟨h6_, j9_, h10_, z7_, e8_, (Or.inr ⟨h11_, rfl, rfl⟩)⟩)⟩)⟩⟩
def S_c_X2_isHeard (b : Nat) : rf → Nat → Prop := fun c k => (c.1 = 29 ∧ c.2.1 = b ∧ k = 0) ∨ (c.1 = 29 ∧ c.2.1 = b ∧ k = 1) ∨ (c.1 = 29 ∧ c.2.1 = b ∧ k = 2) ∨ (c.1 = 25 ∧ c.2.1 = b ∧ c.2.2 = 1) ∨ False
def SP_X2_isHeard (b : Nat) (v : Int32) (u : Int32) (t : Int32) (s : Int32) (Mz : mM) (r_ : Int32) (M_ : mM) : Prop := ∃ z1_ : Int32, (z1_ = u / (100 : Int32)) ∧ (((v.toInt < z1_.toInt) ∧ r_ = 0 ∧ M_ = Mz) ∨ ((z1_.toInt ≤ v.toInt) ∧ ∃ z4_ : Int32, (z4_ = Mz.1 (2, b, 0) 1) ∧ (((t.toInt ≤ z4_.toInt) ∧ r_ = 0 ∧ M_ = Mz) ∨ ((z4_.toInt < t.toInt) ∧ (((¬ s.toInt = 0) ∧ ∃ r8_ : Int32, (SP_X1_isGiven b 1 Mz r8_) ∧ ((0 ≤ r8_.toInt ∧ r8_.toInt ≤ 1)) ∧ (((¬ r8_.toInt = 0) ∧ ∃ M14_ : mM, (M14_ = up Mz (29, b, 0) 0 s) ∧ ∃ z18_ : Int32, (z18_ = M14_.1 (2, b, 0) 0) ∧ ∃ M20_ : mM, (M20_ = up M14_ (29, b, 0) 1 z18_) ∧ ∃ M24_ : mM, (M24_ = up M20_ (29, b, 0) 2 t) ∧ (Inv M24_) ∧ ∃ M29_ : mM, (Inv M29_) ∧ (FR (S_c_X1_work b 1 b) M24_ M29_) ∧ ∃ r28_ : Int32, (SP_X1_work b 1 b M24_ r28_ M29_) ∧ (((r28_.toInt = 0) ∧ r_ = 0 ∧ M_ = M29_) ∨ ((¬ r28_.toInt = 0) ∧ r_ = 1 ∧ M_ = M29_))) ∨ ((r8_.toInt = 0) ∧ ∃ z37_ : Int32, (z37_ = Mz.1 (2, b, 0) 0) ∧ (((s.toInt ≤ z37_.toInt) ∧ r_ = 0 ∧ M_ = Mz) ∨ ((z37_.toInt < s.toInt) ∧ r_ = 1 ∧ M_ = Mz))))) ∨ ((s.toInt = 0) ∧ r_ = 0 ∧ M_ = Mz))))))
theorem lf_c_X2_isHeard_0 (Mz : mM) (b : Nat) (t : Int32) (z4_ : Int32) (hb : b < 3) (e5_ : z4_ = Mz.1 (2, b, 0) 1) (h6_ : z4_.toInt < t.toInt) : vF b 1 := by have r_t := rngI t; have r_z4_ := rngI z4_; unfold vF; omega
theorem lf_c_X2_isHeard_1 (Mz : mM) (b : Nat) (t : Int32) (z4_ : Int32) (hb : b < 3) (e5_ : z4_ = Mz.1 (2, b, 0) 1) (h6_ : z4_.toInt < t.toInt) : vF b 1 := by have r_t := rngI t; have r_z4_ := rngI z4_; unfold vF; omega
theorem lf_c_X2_isHeard_2 (M14_ : mM) (M20_ : mM) (M24_ : mM) (Mz : mM) (b : Nat) (t : Int32) (s : Int32) (z4_ : Int32) (z18_ : Int32) (hb : b < 3) (e5_ : z4_ = Mz.1 (2, b, 0) 1) (h6_ : z4_.toInt < t.toInt) (h7_ : ¬ s.toInt = 0) (hM15_ : M14_ = up Mz (29, b, 0) 0 s) (e19_ : z18_ = M14_.1 (2, b, 0) 0) (hM21_ : M20_ = up M14_ (29, b, 0) 1 z18_) (hM25_ : M24_ = up M20_ (29, b, 0) 2 t) : vF b 1 := by have r_t := rngI t; have r_s := rngI s; have r_z4_ := rngI z4_; have r_z18_ := rngI z18_; unfold vF; omega
theorem lf_c_X2_isHeard_3 (M14_ : mM) (M20_ : mM) (M24_ : mM) (Mz : mM) (b : Nat) (t : Int32) (s : Int32) (z4_ : Int32) (z18_ : Int32) (hb : b < 3) (e5_ : z4_ = Mz.1 (2, b, 0) 1) (h6_ : z4_.toInt < t.toInt) (h7_ : ¬ s.toInt = 0) (hM15_ : M14_ = up Mz (29, b, 0) 0 s) (e19_ : z18_ = M14_.1 (2, b, 0) 0) (hM21_ : M20_ = up M14_ (29, b, 0) 1 z18_) (hM25_ : M24_ = up M20_ (29, b, 0) 2 t) : vF b 1 := by have r_t := rngI t; have r_s := rngI s; have r_z4_ := rngI z4_; have r_z18_ := rngI z18_; unfold vF; omega
set_option maxHeartbeats 4000000 in
set_option maxRecDepth 100000 in
theorem c_X2_isHeard (l : Launch) (G : va_G) (cy : Nat → ClassId) (ad : rf → Nat) (d : Nat) (b : Nat) (v : Int32) (u : Int32) (t : Int32) (s : Int32) (Mz : mM) (hIz : Inv Mz) (hb : b < 3) : WP CC l G cy ad yX2_isHeard cX2_isHeard 5 (some .boolean) (d + 1) 0 [(0, vR (2, b, 0)), (1, vI v), (2, vI u), (3, vI t), (4, vI s)] [] Mz (fun r M' => Inv M' ∧ FR (S_c_X2_isHeard b) Mz M' ∧ ((0 ≤ r.toInt ∧ r.toInt ≤ 1)) ∧ SP_X2_isHeard b v u t s Mz r M') := by
  have hFz : FR (S_c_X2_isHeard b) Mz Mz := FR.self
  refine w_iload_n dX2_isHeard_0 rfl 2 rfl ?_
  refine w_bipush (v := 100) dX2_isHeard_1 (by decide) ?_
  refine w_idiv dX2_isHeard_3 (by decide) (fun z1_ h2_ => ?_)
  refine w_iload_n dX2_isHeard_4 rfl 1 rfl ?_
  refine w_icmp_gt (tgt := 21) dX2_isHeard_5 (by decide) (rfl : z1_.toInt = z1_.toInt) (rfl : v.toInt = v.toInt) (fun h3_ => ?_) (fun h3_ => ?_)
  · refine w_iconst (v := 0) dX2_isHeard_21 (by decide) ?_
    exact w_zret rfl dX2_isHeard_22 ⟨by decide, by decide⟩ ⟨hIz, hFz, ⟨by decide, by decide⟩, ⟨z1_, h2_, (Or.inl ⟨h3_, rfl, rfl⟩)⟩⟩
  · refine w_iload_n dX2_isHeard_8 rfl 3 rfl ?_
    refine w_aload_n dX2_isHeard_9 rfl 0 rfl ?_
    refine w_getI fl_RX2_13 rfl rfl (ic_2 hb) dX2_isHeard_10 (fun z4_ e5_ => ?_)
    refine w_icmp_le (tgt := 21) dX2_isHeard_13 (by decide) (rfl : t.toInt = t.toInt) (rfl : z4_.toInt = z4_.toInt) (fun h6_ => ?_) (fun h6_ => ?_)
    · refine w_iconst (v := 0) dX2_isHeard_21 (by decide) ?_
      exact w_zret rfl dX2_isHeard_22 ⟨by decide, by decide⟩ ⟨hIz, hFz, ⟨by decide, by decide⟩, ⟨z1_, h2_, (Or.inr ⟨h3_, z4_, e5_, (Or.inl ⟨h6_, rfl, rfl⟩)⟩)⟩⟩
    · refine w_iload dX2_isHeard_16 4 rfl ?_
      refine w_if_ne (tgt := 23) dX2_isHeard_18 (by decide) (rfl : s.toInt = s.toInt) (fun h7_ => ?_) (fun h7_ => ?_)
      · refine w_aload_n dX2_isHeard_23 rfl 0 rfl ?_
        refine w_getR (c' := (28, b, 0)) fl_RX2_30 rfl rfl (ic_2 hb) dX2_isHeard_24 rfl ?_
        refine w_iconst (v := 1) dX2_isHeard_27 (by decide) ?_
        refine w_aaldL 1 rfl rfl rfl (fun _ => rfl) (ic_28 hb) li_1 (by decide) dX2_isHeard_28 ?_
        refine w_callV (as := []) (rest := []) (c_X1_isGiven l G cy ad d b 1 Mz hIz (lf_c_X2_isHeard_0 Mz b t z4_ hb e5_ h6_)) kV_X1_isGiven (by decide +kernel) (Nat.le_of_ble_eq_true rfl) m_877 rfl rfl rfl (ic_1 (lf_c_X2_isHeard_1 Mz b t z4_ hb e5_ h6_)) rfl rfl (by decide) (Nat.le_of_ble_eq_true rfl) dX2_isHeard_29 (fun r8_ M9_ q10_ => ?_)
        obtain ⟨rfl, h11_, hs12_⟩ := q10_
        refine w_if_ne (tgt := 50) dX2_isHeard_32 (by decide) (rfl : r8_.toInt = r8_.toInt) (fun h13_ => ?_) (fun h13_ => ?_)
        · refine w_aload_n dX2_isHeard_50 rfl 0 rfl ?_
          refine w_getR (c' := (29, b, 0)) fl_RX2_34 rfl rfl (ic_2 hb) dX2_isHeard_51 rfl ?_
          refine w_iconst (v := 0) dX2_isHeard_54 (by decide) ?_
          refine w_iload dX2_isHeard_55 4 rfl ?_
          refine w_iastL 0 CC_nd rfl rfl (ic_29 hb) li_0 (by decide) dX2_isHeard_57 (fun M14_ hM15_ => ?_)
          have hI16_ := hIz.put hM15_ trivial
          have hF17_ := hFz.put hM15_ (Or.inl ⟨rfl, rfl, rfl⟩)
          refine w_aload_n dX2_isHeard_58 rfl 0 rfl ?_
          refine w_getR (c' := (29, b, 0)) fl_RX2_34 rfl rfl (ic_2 hb) dX2_isHeard_59 rfl ?_
          refine w_iconst (v := 1) dX2_isHeard_62 (by decide) ?_
          refine w_aload_n dX2_isHeard_63 rfl 0 rfl ?_
          refine w_getI fl_RX2_7 rfl rfl (ic_2 hb) dX2_isHeard_64 (fun z18_ e19_ => ?_)
          refine w_iastL 1 CC_nd rfl rfl (ic_29 hb) li_1 (by decide) dX2_isHeard_67 (fun M20_ hM21_ => ?_)
          have hI22_ := hI16_.put hM21_ trivial
          have hF23_ := hF17_.put hM21_ (Or.inr (Or.inl ⟨rfl, rfl, rfl⟩))
          refine w_aload_n dX2_isHeard_68 rfl 0 rfl ?_
          refine w_getR (c' := (29, b, 0)) fl_RX2_34 rfl rfl (ic_2 hb) dX2_isHeard_69 rfl ?_
          refine w_iconst (v := 2) dX2_isHeard_72 (by decide) ?_
          refine w_iload_n dX2_isHeard_73 rfl 3 rfl ?_
          refine w_iastL 2 CC_nd rfl rfl (ic_29 hb) li_2 (by decide) dX2_isHeard_74 (fun M24_ hM25_ => ?_)
          have hI26_ := hI22_.put hM25_ trivial
          have hF27_ := hF23_.put hM25_ (Or.inr (Or.inr (Or.inl ⟨rfl, rfl, rfl⟩)))
          refine w_aload_n dX2_isHeard_75 rfl 0 rfl ?_
          refine w_getR (c' := (28, b, 0)) fl_RX2_30 rfl rfl (ic_2 hb) dX2_isHeard_76 rfl ?_
          refine w_iconst (v := 1) dX2_isHeard_79 (by decide) ?_
          refine w_aaldL 1 rfl rfl rfl (fun _ => rfl) (ic_28 hb) li_1 (by decide) dX2_isHeard_80 ?_
          refine w_aload_n dX2_isHeard_81 rfl 0 rfl ?_
          refine w_getR (c' := (29, b, 0)) fl_RX2_34 rfl rfl (ic_2 hb) dX2_isHeard_82 rfl ?_
          refine w_callV (as := [vR (29, b, 0)]) (rest := []) (c_X1_work l G cy ad d b 1 b M24_ hI26_ (lf_c_X2_isHeard_2 M14_ M20_ M24_ Mz b t s z4_ z18_ hb e5_ h6_ h7_ hM15_ e19_ hM21_ hM25_) hb) kV_X1_work (by decide +kernel) (Nat.le_of_ble_eq_true rfl) m_881 rfl rfl rfl (ic_1 (lf_c_X2_isHeard_3 M14_ M20_ M24_ Mz b t s z4_ z18_ hb e5_ h6_ h7_ hM15_ e19_ hM21_ hM25_)) rfl rfl (by decide) (Nat.le_of_ble_eq_true rfl) dX2_isHeard_85 (fun r28_ M29_ q30_ => ?_)
          obtain ⟨hI32_, hF33_, h31_, hs35_⟩ := q30_
          have hF34_ := hF27_.tr hF33_ (fun c k => (fun h => h.elim (fun h => (Or.inr (Or.inr (Or.inr (Or.inl ⟨h.1, h.2.1, h.2.2⟩))))) (fun h => h.elim)))
          refine w_if_eq (tgt := 95) dX2_isHeard_88 (by decide) (rfl : r28_.toInt = r28_.toInt) (fun h36_ => ?_) (fun h36_ => ?_)
          · refine w_iconst (v := 0) dX2_isHeard_95 (by decide) ?_
            exact w_zret rfl dX2_isHeard_96 ⟨by decide, by decide⟩ ⟨hI32_, hF34_, ⟨by decide, by decide⟩, ⟨z1_, h2_, (Or.inr ⟨h3_, z4_, e5_, (Or.inr ⟨h6_, (Or.inl ⟨h7_, r8_, hs12_, h11_, (Or.inl ⟨h13_, M14_, hM15_, z18_, e19_, M20_, hM21_, M24_, hM25_, hI26_, M29_, hI32_, hF33_, r28_, hs35_, (Or.inl ⟨h36_, rfl, rfl⟩)⟩)⟩)⟩)⟩)⟩⟩
          · refine w_iconst (v := 1) dX2_isHeard_91 (by decide) ?_
            refine w_goto (tgt := 96) dX2_isHeard_92 (by decide) ?_
            exact w_zret rfl dX2_isHeard_96 ⟨by decide, by decide⟩ ⟨hI32_, hF34_, ⟨by decide, by decide⟩, ⟨z1_, h2_, (Or.inr ⟨h3_, z4_, e5_, (Or.inr ⟨h6_, (Or.inl ⟨h7_, r8_, hs12_, h11_, (Or.inl ⟨h13_, M14_, hM15_, z18_, e19_, M20_, hM21_, M24_, hM25_, hI26_, M29_, hI32_, hF33_, r28_, hs35_, (Or.inr ⟨h36_, rfl, rfl⟩)⟩)⟩)⟩)⟩)⟩⟩
        · refine w_iload dX2_isHeard_35 4 rfl ?_
          refine w_aload_n dX2_isHeard_37 rfl 0 rfl ?_
          refine w_getI fl_RX2_7 rfl rfl (ic_2 hb) dX2_isHeard_38 (fun z37_ e38_ => ?_)
          refine w_icmp_le (tgt := 48) dX2_isHeard_41 (by decide) (rfl : s.toInt = s.toInt) (rfl : z37_.toInt = z37_.toInt) (fun h39_ => ?_) (fun h39_ => ?_)
          · refine w_iconst (v := 0) dX2_isHeard_48 (by decide) ?_
            exact w_zret rfl dX2_isHeard_49 ⟨by decide, by decide⟩ ⟨hIz, hFz, ⟨by decide, by decide⟩, ⟨z1_, h2_, (Or.inr ⟨h3_, z4_, e5_, (Or.inr ⟨h6_, (Or.inl ⟨h7_, r8_, hs12_, h11_, (Or.inr ⟨h13_, z37_, e38_, (Or.inl ⟨h39_, rfl, rfl⟩)⟩)⟩)⟩)⟩)⟩⟩
          · refine w_iconst (v := 1) dX2_isHeard_44 (by decide) ?_
            refine w_goto (tgt := 49) dX2_isHeard_45 (by decide) ?_
            exact w_zret rfl dX2_isHeard_49 ⟨by decide, by decide⟩ ⟨hIz, hFz, ⟨by decide, by decide⟩, ⟨z1_, h2_, (Or.inr ⟨h3_, z4_, e5_, (Or.inr ⟨h6_, (Or.inl ⟨h7_, r8_, hs12_, h11_, (Or.inr ⟨h13_, z37_, e38_, (Or.inr ⟨h39_, rfl, rfl⟩)⟩)⟩)⟩)⟩)⟩⟩
      · refine w_iconst (v := 0) dX2_isHeard_21 (by decide) ?_
        exact w_zret rfl dX2_isHeard_22 ⟨by decide, by decide⟩ ⟨hIz, hFz, ⟨by decide, by decide⟩, ⟨z1_, h2_, (Or.inr ⟨h3_, z4_, e5_, (Or.inr ⟨h6_, (Or.inr ⟨h7_, rfl, rfl⟩)⟩)⟩)⟩⟩
def S_c_X2_hears (b : Nat) : rf → Nat → Prop := fun c k => (c.1 = 29 ∧ c.2.1 = b ∧ k = 0) ∨ (c.1 = 29 ∧ c.2.1 = b ∧ k = 1) ∨ (c.1 = 29 ∧ c.2.1 = b ∧ k = 2) ∨ (c.1 = 29 ∧ c.2.1 = b ∧ k = 3) ∨ (c.1 = 25 ∧ c.2.1 = b ∧ c.2.2 = 0) ∨ (c.1 = 25 ∧ c.2.1 = b ∧ c.2.2 = 1) ∨ False
def SP_X2_hears (b : Nat) (v : Int32) (u : Int32) (t : Int32) (s : Int32) (q : Int32) (Mz : mM) (r_ : Int32) (M_ : mM) : Prop := ∃ r1_ : Int32, (SP_X2_late q s Mz r1_) ∧ ∃ M7_ : mM, (Inv M7_) ∧ (FR (S_c_X2_strength b) Mz M7_) ∧ ∃ r6_ : Int32, (SP_X2_strength b u t s Mz r6_ M7_) ∧ ∃ M15_ : mM, (Inv M15_) ∧ (FR (S_c_X2_isHeard b) M7_ M15_) ∧ ∃ r14_ : Int32, (SP_X2_isHeard b v t r1_ r6_ M7_ r14_ M15_) ∧ ((0 ≤ r14_.toInt ∧ r14_.toInt ≤ 1)) ∧ r_ = r14_ ∧ M_ = M15_
theorem lf_c_X2_hears_0  (r14_ : Int32) (h17_ : (0 ≤ r14_.toInt ∧ r14_.toInt ≤ 1)) : 0 ≤ r14_.toInt ∧ r14_.toInt ≤ 1 := by have r_r14_ := rngI r14_; omega
theorem lf_c_X2_hears_1  (r14_ : Int32) (h17_ : (0 ≤ r14_.toInt ∧ r14_.toInt ≤ 1)) : 0 ≤ r14_.toInt ∧ r14_.toInt ≤ 1 := by have r_r14_ := rngI r14_; omega
set_option maxHeartbeats 4000000 in
set_option maxRecDepth 100000 in
theorem c_X2_hears (l : Launch) (G : va_G) (cy : Nat → ClassId) (ad : rf → Nat) (d : Nat) (b : Nat) (v : Int32) (u : Int32) (t : Int32) (s : Int32) (q : Int32) (Mz : mM) (hIz : Inv Mz) (hb : b < 3) : WP CC l G cy ad yX2_hears cX2_hears 6 (some .boolean) (d + 2) 0 [(0, vR (2, b, 0)), (1, vI v), (2, vI u), (3, vI t), (4, vI s), (5, vI q)] [] Mz (fun r M' => Inv M' ∧ FR (S_c_X2_hears b) Mz M' ∧ ((0 ≤ r.toInt ∧ r.toInt ≤ 1)) ∧ SP_X2_hears b v u t s q Mz r M') := by
  have hFz : FR (S_c_X2_hears b) Mz Mz := FR.self
  refine w_aload_n dX2_hears_0 rfl 0 rfl ?_
  refine w_iload_n dX2_hears_1 rfl 1 rfl ?_
  refine w_iload_n dX2_hears_2 rfl 3 rfl ?_
  refine w_iload dX2_hears_3 5 rfl ?_
  refine w_iload dX2_hears_5 4 rfl ?_
  refine w_callS (as := [vI q, vI s]) (rest := [vI t, vI v, vR (2, b, 0)]) (c_X2_late l G cy ad (d + 1) q s Mz hIz) kS_X2_late (by decide +kernel) (Nat.le_of_ble_eq_true rfl) m_912 rfl rfl (by decide) (Nat.le_of_ble_eq_true rfl) dX2_hears_7 (fun r1_ M2_ q3_ => ?_)
  obtain ⟨rfl, h4_, hs5_⟩ := q3_
  refine w_aload_n dX2_hears_10 rfl 0 rfl ?_
  refine w_iload_n dX2_hears_11 rfl 2 rfl ?_
  refine w_iload_n dX2_hears_12 rfl 3 rfl ?_
  refine w_iload dX2_hears_13 4 rfl ?_
  refine w_callV (as := [vI u, vI t, vI s]) (rest := [vI r1_, vI t, vI v, vR (2, b, 0)]) (c_X2_strength l G cy ad d b u t s Mz hIz hb) kV_X2_strength (by decide +kernel) (Nat.le_of_ble_eq_true rfl) m_913 rfl rfl rfl (ic_2 hb) rfl rfl (by decide) (Nat.le_of_ble_eq_true rfl) dX2_hears_15 (fun r6_ M7_ q8_ => ?_)
  obtain ⟨hI10_, hF11_, h9_, hs13_⟩ := q8_
  have hF12_ := hFz.tr hF11_ (fun c k => (fun h => h.elim (fun h => (Or.inl ⟨h.1, h.2.1, h.2.2⟩)) (fun h => h.elim (fun h => (Or.inr (Or.inl ⟨h.1, h.2.1, h.2.2⟩))) (fun h => h.elim (fun h => (Or.inr (Or.inr (Or.inl ⟨h.1, h.2.1, h.2.2⟩)))) (fun h => h.elim (fun h => (Or.inr (Or.inr (Or.inr (Or.inl ⟨h.1, h.2.1, h.2.2⟩))))) (fun h => h.elim (fun h => (Or.inr (Or.inr (Or.inr (Or.inr (Or.inl ⟨h.1, h.2.1, h.2.2⟩)))))) (fun h => h.elim)))))))
  refine w_callV (as := [vI v, vI t, vI r1_, vI r6_]) (rest := []) (c_X2_isHeard l G cy ad d b v t r1_ r6_ M7_ hI10_ hb) kV_X2_isHeard (by decide +kernel) (Nat.le_of_ble_eq_true rfl) m_914 rfl rfl rfl (ic_2 hb) rfl rfl (by decide) (Nat.le_of_ble_eq_true rfl) dX2_hears_18 (fun r14_ M15_ q16_ => ?_)
  obtain ⟨hI18_, hF19_, h17_, hs21_⟩ := q16_
  have hF20_ := hF12_.tr hF19_ (fun c k => (fun h => h.elim (fun h => (Or.inl ⟨h.1, h.2.1, h.2.2⟩)) (fun h => h.elim (fun h => (Or.inr (Or.inl ⟨h.1, h.2.1, h.2.2⟩))) (fun h => h.elim (fun h => (Or.inr (Or.inr (Or.inl ⟨h.1, h.2.1, h.2.2⟩)))) (fun h => h.elim (fun h => (Or.inr (Or.inr (Or.inr (Or.inr (Or.inr (Or.inl ⟨h.1, h.2.1, h.2.2⟩))))))) (fun h => h.elim))))))
  exact w_zret rfl dX2_hears_21 (lf_c_X2_hears_1 r14_ h17_) ⟨hI18_, hF20_, (lf_c_X2_hears_0 r14_ h17_), ⟨r1_, hs5_, M7_, hI10_, hF11_, r6_, hs13_, M15_, hI18_, hF19_, r14_, hs21_, h17_, rfl, rfl⟩⟩
def S_c_X2_habitValue (b : Nat) : rf → Nat → Prop := fun c k => (c.1 = 29 ∧ c.2.1 = b ∧ k = 0) ∨ (c.1 = 29 ∧ c.2.1 = b ∧ k = 1) ∨ (c.1 = 29 ∧ c.2.1 = b ∧ k = 2) ∨ (c.1 = 29 ∧ c.2.1 = b ∧ k = 3) ∨ (c.1 = 29 ∧ c.2.1 = b ∧ k = 4) ∨ (c.1 = 25 ∧ c.2.1 = b ∧ c.2.2 = 2) ∨ False
def SP_X2_habitValue (b : Nat) (v : Int32) (u : Int32) (t : Int32) (s : Int32) (q : Int32) (Mz : mM) (r_ : Int32) (M_ : mM) : Prop := ∃ r1_ : Int32, (SP_X1_isGiven b 2 Mz r1_) ∧ ((0 ≤ r1_.toInt ∧ r1_.toInt ≤ 1)) ∧ (((¬ r1_.toInt = 0) ∧ ∃ M7_ : mM, (M7_ = up Mz (29, b, 0) 0 v) ∧ ∃ M11_ : mM, (M11_ = up M7_ (29, b, 0) 1 u) ∧ ∃ M15_ : mM, (M15_ = up M11_ (29, b, 0) 2 t) ∧ ∃ M19_ : mM, (M19_ = up M15_ (29, b, 0) 3 s) ∧ ∃ M23_ : mM, (M23_ = up M19_ (29, b, 0) 4 q) ∧ (Inv M23_) ∧ ∃ M28_ : mM, (Inv M28_) ∧ (FR (S_c_X1_work b 2 b) M23_ M28_) ∧ ∃ r27_ : Int32, (SP_X1_work b 2 b M23_ r27_ M28_) ∧ r_ = r27_ ∧ M_ = M28_) ∨ ((r1_.toInt = 0) ∧ (((¬ v.toInt = 1) ∧ r_ = 0 ∧ M_ = Mz) ∨ ((v.toInt = 1) ∧ r_ = 1 ∧ M_ = Mz))))
theorem lf_c_X2_habitValue_0  (b : Nat) (hb : b < 3) : vF b 2 := by unfold vF; omega
theorem lf_c_X2_habitValue_1  (b : Nat) (hb : b < 3) : vF b 2 := by unfold vF; omega
theorem lf_c_X2_habitValue_2 (M11_ : mM) (M15_ : mM) (M19_ : mM) (M23_ : mM) (M7_ : mM) (Mz : mM) (b : Nat) (v : Int32) (u : Int32) (t : Int32) (s : Int32) (q : Int32) (hb : b < 3) (hM8_ : M7_ = up Mz (29, b, 0) 0 v) (hM12_ : M11_ = up M7_ (29, b, 0) 1 u) (hM16_ : M15_ = up M11_ (29, b, 0) 2 t) (hM20_ : M19_ = up M15_ (29, b, 0) 3 s) (hM24_ : M23_ = up M19_ (29, b, 0) 4 q) : vF b 2 := by have r_v := rngI v; have r_u := rngI u; have r_t := rngI t; have r_s := rngI s; have r_q := rngI q; unfold vF; omega
theorem lf_c_X2_habitValue_3 (M11_ : mM) (M15_ : mM) (M19_ : mM) (M23_ : mM) (M7_ : mM) (Mz : mM) (b : Nat) (v : Int32) (u : Int32) (t : Int32) (s : Int32) (q : Int32) (hb : b < 3) (hM8_ : M7_ = up Mz (29, b, 0) 0 v) (hM12_ : M11_ = up M7_ (29, b, 0) 1 u) (hM16_ : M15_ = up M11_ (29, b, 0) 2 t) (hM20_ : M19_ = up M15_ (29, b, 0) 3 s) (hM24_ : M23_ = up M19_ (29, b, 0) 4 q) : vF b 2 := by have r_v := rngI v; have r_u := rngI u; have r_t := rngI t; have r_s := rngI s; have r_q := rngI q; unfold vF; omega
set_option maxHeartbeats 4000000 in
set_option maxRecDepth 100000 in
theorem c_X2_habitValue (l : Launch) (G : va_G) (cy : Nat → ClassId) (ad : rf → Nat) (d : Nat) (b : Nat) (v : Int32) (u : Int32) (t : Int32) (s : Int32) (q : Int32) (Mz : mM) (hIz : Inv Mz) (hb : b < 3) : WP CC l G cy ad yX2_habitValue cX2_habitValue 6 (some .int) (d + 1) 0 [(0, vR (2, b, 0)), (1, vI v), (2, vI u), (3, vI t), (4, vI s), (5, vI q)] [] Mz (fun r M' => Inv M' ∧ FR (S_c_X2_habitValue b) Mz M' ∧ (True) ∧ SP_X2_habitValue b v u t s q Mz r M') := by
  have hFz : FR (S_c_X2_habitValue b) Mz Mz := FR.self
  refine w_aload_n dX2_habitValue_0 rfl 0 rfl ?_
  refine w_getR (c' := (28, b, 0)) fl_RX2_30 rfl rfl (ic_2 hb) dX2_habitValue_1 rfl ?_
  refine w_iconst (v := 2) dX2_habitValue_4 (by decide) ?_
  refine w_aaldL 2 rfl rfl rfl (fun _ => rfl) (ic_28 hb) li_2 (by decide) dX2_habitValue_5 ?_
  refine w_callV (as := []) (rest := []) (c_X1_isGiven l G cy ad d b 2 Mz hIz (lf_c_X2_habitValue_0 b hb)) kV_X1_isGiven (by decide +kernel) (Nat.le_of_ble_eq_true rfl) m_877 rfl rfl rfl (ic_1 (lf_c_X2_habitValue_1 b hb)) rfl rfl (by decide) (Nat.le_of_ble_eq_true rfl) dX2_habitValue_6 (fun r1_ M2_ q3_ => ?_)
  obtain ⟨rfl, h4_, hs5_⟩ := q3_
  refine w_if_ne (tgt := 23) dX2_habitValue_9 (by decide) (rfl : r1_.toInt = r1_.toInt) (fun h6_ => ?_) (fun h6_ => ?_)
  · refine w_aload_n dX2_habitValue_23 rfl 0 rfl ?_
    refine w_getR (c' := (29, b, 0)) fl_RX2_34 rfl rfl (ic_2 hb) dX2_habitValue_24 rfl ?_
    refine w_iconst (v := 0) dX2_habitValue_27 (by decide) ?_
    refine w_iload_n dX2_habitValue_28 rfl 1 rfl ?_
    refine w_iastL 0 CC_nd rfl rfl (ic_29 hb) li_0 (by decide) dX2_habitValue_29 (fun M7_ hM8_ => ?_)
    have hI9_ := hIz.put hM8_ trivial
    have hF10_ := hFz.put hM8_ (Or.inl ⟨rfl, rfl, rfl⟩)
    refine w_aload_n dX2_habitValue_30 rfl 0 rfl ?_
    refine w_getR (c' := (29, b, 0)) fl_RX2_34 rfl rfl (ic_2 hb) dX2_habitValue_31 rfl ?_
    refine w_iconst (v := 1) dX2_habitValue_34 (by decide) ?_
    refine w_iload_n dX2_habitValue_35 rfl 2 rfl ?_
    refine w_iastL 1 CC_nd rfl rfl (ic_29 hb) li_1 (by decide) dX2_habitValue_36 (fun M11_ hM12_ => ?_)
    have hI13_ := hI9_.put hM12_ trivial
    have hF14_ := hF10_.put hM12_ (Or.inr (Or.inl ⟨rfl, rfl, rfl⟩))
    refine w_aload_n dX2_habitValue_37 rfl 0 rfl ?_
    refine w_getR (c' := (29, b, 0)) fl_RX2_34 rfl rfl (ic_2 hb) dX2_habitValue_38 rfl ?_
    refine w_iconst (v := 2) dX2_habitValue_41 (by decide) ?_
    refine w_iload_n dX2_habitValue_42 rfl 3 rfl ?_
    refine w_iastL 2 CC_nd rfl rfl (ic_29 hb) li_2 (by decide) dX2_habitValue_43 (fun M15_ hM16_ => ?_)
    have hI17_ := hI13_.put hM16_ trivial
    have hF18_ := hF14_.put hM16_ (Or.inr (Or.inr (Or.inl ⟨rfl, rfl, rfl⟩)))
    refine w_aload_n dX2_habitValue_44 rfl 0 rfl ?_
    refine w_getR (c' := (29, b, 0)) fl_RX2_34 rfl rfl (ic_2 hb) dX2_habitValue_45 rfl ?_
    refine w_iconst (v := 3) dX2_habitValue_48 (by decide) ?_
    refine w_iload dX2_habitValue_49 4 rfl ?_
    refine w_iastL 3 CC_nd rfl rfl (ic_29 hb) li_3 (by decide) dX2_habitValue_51 (fun M19_ hM20_ => ?_)
    have hI21_ := hI17_.put hM20_ trivial
    have hF22_ := hF18_.put hM20_ (Or.inr (Or.inr (Or.inr (Or.inl ⟨rfl, rfl, rfl⟩))))
    refine w_aload_n dX2_habitValue_52 rfl 0 rfl ?_
    refine w_getR (c' := (29, b, 0)) fl_RX2_34 rfl rfl (ic_2 hb) dX2_habitValue_53 rfl ?_
    refine w_iconst (v := 4) dX2_habitValue_56 (by decide) ?_
    refine w_iload dX2_habitValue_57 5 rfl ?_
    refine w_iastL 4 CC_nd rfl rfl (ic_29 hb) li_4 (by decide) dX2_habitValue_59 (fun M23_ hM24_ => ?_)
    have hI25_ := hI21_.put hM24_ trivial
    have hF26_ := hF22_.put hM24_ (Or.inr (Or.inr (Or.inr (Or.inr (Or.inl ⟨rfl, rfl, rfl⟩)))))
    refine w_aload_n dX2_habitValue_60 rfl 0 rfl ?_
    refine w_getR (c' := (28, b, 0)) fl_RX2_30 rfl rfl (ic_2 hb) dX2_habitValue_61 rfl ?_
    refine w_iconst (v := 2) dX2_habitValue_64 (by decide) ?_
    refine w_aaldL 2 rfl rfl rfl (fun _ => rfl) (ic_28 hb) li_2 (by decide) dX2_habitValue_65 ?_
    refine w_aload_n dX2_habitValue_66 rfl 0 rfl ?_
    refine w_getR (c' := (29, b, 0)) fl_RX2_34 rfl rfl (ic_2 hb) dX2_habitValue_67 rfl ?_
    refine w_callV (as := [vR (29, b, 0)]) (rest := []) (c_X1_work l G cy ad d b 2 b M23_ hI25_ (lf_c_X2_habitValue_2 M11_ M15_ M19_ M23_ M7_ Mz b v u t s q hb hM8_ hM12_ hM16_ hM20_ hM24_) hb) kV_X1_work (by decide +kernel) (Nat.le_of_ble_eq_true rfl) m_881 rfl rfl rfl (ic_1 (lf_c_X2_habitValue_3 M11_ M15_ M19_ M23_ M7_ Mz b v u t s q hb hM8_ hM12_ hM16_ hM20_ hM24_)) rfl rfl (by decide) (Nat.le_of_ble_eq_true rfl) dX2_habitValue_70 (fun r27_ M28_ q29_ => ?_)
    obtain ⟨hI31_, hF32_, h30_, hs34_⟩ := q29_
    have hF33_ := hF26_.tr hF32_ (fun c k => (fun h => h.elim (fun h => (Or.inr (Or.inr (Or.inr (Or.inr (Or.inr (Or.inl ⟨h.1, h.2.1, h.2.2⟩))))))) (fun h => h.elim)))
    exact w_iret rfl dX2_habitValue_73 ⟨hI31_, hF33_, trivial, ⟨r1_, hs5_, h4_, (Or.inl ⟨h6_, M7_, hM8_, M11_, hM12_, M15_, hM16_, M19_, hM20_, M23_, hM24_, hI25_, M28_, hI31_, hF32_, r27_, hs34_, rfl, rfl⟩)⟩⟩
  · refine w_iload_n dX2_habitValue_12 rfl 1 rfl ?_
    refine w_iconst (v := 1) dX2_habitValue_13 (by decide) ?_
    refine w_icmp_ne (tgt := 21) dX2_habitValue_14 (by decide) (rfl : v.toInt = v.toInt) li_1 (fun h35_ => ?_) (fun h35_ => ?_)
    · refine w_iconst (v := 0) dX2_habitValue_21 (by decide) ?_
      exact w_iret rfl dX2_habitValue_22 ⟨hIz, hFz, trivial, ⟨r1_, hs5_, h4_, (Or.inr ⟨h6_, (Or.inl ⟨h35_, rfl, rfl⟩)⟩)⟩⟩
    · refine w_iconst (v := 1) dX2_habitValue_17 (by decide) ?_
      refine w_goto (tgt := 22) dX2_habitValue_18 (by decide) ?_
      exact w_iret rfl dX2_habitValue_22 ⟨hIz, hFz, trivial, ⟨r1_, hs5_, h4_, (Or.inr ⟨h6_, (Or.inr ⟨h35_, rfl, rfl⟩)⟩)⟩⟩
def S_c_X2_kindsAlike (b : Nat) : rf → Nat → Prop := fun c k => (c.1 = 29 ∧ c.2.1 = b ∧ k = 0) ∨ (c.1 = 29 ∧ c.2.1 = b ∧ k = 1) ∨ (c.1 = 29 ∧ c.2.1 = b ∧ k = 2) ∨ (c.1 = 29 ∧ c.2.1 = b ∧ k = 3) ∨ (c.1 = 25 ∧ c.2.1 = b ∧ c.2.2 = 0) ∨ (c.1 = 25 ∧ c.2.1 = b ∧ c.2.2 = 1) ∨ False
def ST_X2_kindsAlike_6 (b : Nat) (v : Int32) (u : Int32) (t : Int32) (s : Int32) (q : Int32) (Mz : mM) (v7_6 : Int32) (v6_6 : Int32) (M_6 : mM) (v7_6y : Int32) (v6_6y : Int32) (M_6y : mM) : Prop := (0 ≤ v7_6.toInt) ∧ (v7_6.toInt ≤ 5) ∧ (Inv M_6) ∧ (FR (S_c_X2_kindsAlike b) Mz M_6) ∧ (v7_6.toInt < 5) ∧ ∃ M4_ : mM, (Inv M4_) ∧ (FR (S_c_X2_strength b) M_6 M4_) ∧ ∃ r3_ : Int32, (SP_X2_strength b v7_6 u t M_6 r3_ M4_) ∧ (((¬ r3_.toInt = q.toInt) ∧ ∃ z12_ : Int32, (z12_.toInt = v7_6.toInt + 1) ∧ v7_6y = z12_ ∧ v6_6y = v6_6 ∧ M_6y = M4_) ∨ ((r3_.toInt = q.toInt) ∧ ∃ M15_ : mM, (Inv M15_) ∧ (FR (S_c_X2_hears b) M4_ M15_) ∧ ∃ r14_ : Int32, (SP_X2_hears b v v7_6 u t s M4_ r14_ M15_) ∧ ((0 ≤ r14_.toInt ∧ r14_.toInt ≤ 1)) ∧ (((r14_.toInt = 0) ∧ ∃ z23_ : Int32, (z23_.toInt = v7_6.toInt + 1) ∧ v7_6y = z23_ ∧ v6_6y = v6_6 ∧ M_6y = M15_) ∨ ((¬ r14_.toInt = 0) ∧ ∃ z25_ : Int32, (z25_ = (1 : Int32) <<< (v7_6 &&& 31)) ∧ ∃ z27_ : Int32, (z27_ = v6_6 ||| z25_) ∧ ∃ z29_ : Int32, (z29_.toInt = v7_6.toInt + 1) ∧ v7_6y = z29_ ∧ v6_6y = z27_ ∧ M_6y = M15_))))
def SP_X2_kindsAlike (b : Nat) (v : Int32) (u : Int32) (t : Int32) (s : Int32) (q : Int32) (Mz : mM) (r_ : Int32) (M_ : mM) : Prop := ∃ v7_6 : Int32, (0 ≤ v7_6.toInt) ∧ (v7_6.toInt ≤ 5) ∧ ∃ v6_6 : Int32, ∃ M_6 : mM, (RCH (fun x_ y_ => ST_X2_kindsAlike_6 b v u t s q Mz x_.1 x_.2.1 x_.2.2 y_.1 y_.2.1 y_.2.2) ((0 : Int32), (0 : Int32), Mz) (v7_6, v6_6, M_6)) ∧ (Inv M_6) ∧ (FR (S_c_X2_kindsAlike b) Mz M_6) ∧ (5 ≤ v7_6.toInt) ∧ r_ = v6_6 ∧ M_ = M_6
theorem lf_c_X2_kindsAlike_0  (v7_6 : Int32) (hv0_6 : 0 ≤ v7_6.toInt) (hv1_6 : v7_6.toInt ≤ 5) (h2_ : v7_6.toInt < 5) : -2147483648 ≤ v7_6.toInt + 1 ∧ v7_6.toInt + 1 < 2147483648 := by have r_v7_6 := rngI v7_6; omega
theorem lf_c_X2_kindsAlike_1  (v7_6 : Int32) (z12_ : Int32) (hv0_6 : 0 ≤ v7_6.toInt) (hv1_6 : v7_6.toInt ≤ 5) (h2_ : v7_6.toInt < 5) (h13_ : z12_.toInt = v7_6.toInt + 1) : 0 ≤ z12_.toInt := by have r_v7_6 := rngI v7_6; have r_z12_ := rngI z12_; omega
theorem lf_c_X2_kindsAlike_2  (v7_6 : Int32) (z12_ : Int32) (hv0_6 : 0 ≤ v7_6.toInt) (hv1_6 : v7_6.toInt ≤ 5) (h2_ : v7_6.toInt < 5) (h13_ : z12_.toInt = v7_6.toInt + 1) : z12_.toInt ≤ 5 := by have r_v7_6 := rngI v7_6; have r_z12_ := rngI z12_; omega
theorem lf_c_X2_kindsAlike_3  (v7_6 : Int32) (z12_ : Int32) (hv0_6 : 0 ≤ v7_6.toInt) (hv1_6 : v7_6.toInt ≤ 5) (h2_ : v7_6.toInt < 5) (h13_ : z12_.toInt = v7_6.toInt + 1) : (2147483648 - z12_.toInt).toNat < (2147483648 - v7_6.toInt).toNat := by have r_v7_6 := rngI v7_6; have r_z12_ := rngI z12_; omega
theorem lf_c_X2_kindsAlike_4  (v7_6 : Int32) (hv0_6 : 0 ≤ v7_6.toInt) (hv1_6 : v7_6.toInt ≤ 5) (h2_ : v7_6.toInt < 5) : -2147483648 ≤ v7_6.toInt + 1 ∧ v7_6.toInt + 1 < 2147483648 := by have r_v7_6 := rngI v7_6; omega
theorem lf_c_X2_kindsAlike_5  (v7_6 : Int32) (z23_ : Int32) (hv0_6 : 0 ≤ v7_6.toInt) (hv1_6 : v7_6.toInt ≤ 5) (h2_ : v7_6.toInt < 5) (h24_ : z23_.toInt = v7_6.toInt + 1) : 0 ≤ z23_.toInt := by have r_v7_6 := rngI v7_6; have r_z23_ := rngI z23_; omega
theorem lf_c_X2_kindsAlike_6  (v7_6 : Int32) (z23_ : Int32) (hv0_6 : 0 ≤ v7_6.toInt) (hv1_6 : v7_6.toInt ≤ 5) (h2_ : v7_6.toInt < 5) (h24_ : z23_.toInt = v7_6.toInt + 1) : z23_.toInt ≤ 5 := by have r_v7_6 := rngI v7_6; have r_z23_ := rngI z23_; omega
theorem lf_c_X2_kindsAlike_7  (v7_6 : Int32) (z23_ : Int32) (hv0_6 : 0 ≤ v7_6.toInt) (hv1_6 : v7_6.toInt ≤ 5) (h2_ : v7_6.toInt < 5) (h24_ : z23_.toInt = v7_6.toInt + 1) : (2147483648 - z23_.toInt).toNat < (2147483648 - v7_6.toInt).toNat := by have r_v7_6 := rngI v7_6; have r_z23_ := rngI z23_; omega
theorem lf_c_X2_kindsAlike_8  (v7_6 : Int32) (hv0_6 : 0 ≤ v7_6.toInt) (hv1_6 : v7_6.toInt ≤ 5) (h2_ : v7_6.toInt < 5) : -2147483648 ≤ v7_6.toInt + 1 ∧ v7_6.toInt + 1 < 2147483648 := by have r_v7_6 := rngI v7_6; omega
theorem lf_c_X2_kindsAlike_9  (v7_6 : Int32) (z29_ : Int32) (hv0_6 : 0 ≤ v7_6.toInt) (hv1_6 : v7_6.toInt ≤ 5) (h2_ : v7_6.toInt < 5) (h30_ : z29_.toInt = v7_6.toInt + 1) : 0 ≤ z29_.toInt := by have r_v7_6 := rngI v7_6; have r_z29_ := rngI z29_; omega
theorem lf_c_X2_kindsAlike_10  (v7_6 : Int32) (z29_ : Int32) (hv0_6 : 0 ≤ v7_6.toInt) (hv1_6 : v7_6.toInt ≤ 5) (h2_ : v7_6.toInt < 5) (h30_ : z29_.toInt = v7_6.toInt + 1) : z29_.toInt ≤ 5 := by have r_v7_6 := rngI v7_6; have r_z29_ := rngI z29_; omega
theorem lf_c_X2_kindsAlike_11  (v7_6 : Int32) (z29_ : Int32) (hv0_6 : 0 ≤ v7_6.toInt) (hv1_6 : v7_6.toInt ≤ 5) (h2_ : v7_6.toInt < 5) (h30_ : z29_.toInt = v7_6.toInt + 1) : (2147483648 - z29_.toInt).toNat < (2147483648 - v7_6.toInt).toNat := by have r_v7_6 := rngI v7_6; have r_z29_ := rngI z29_; omega
theorem lf_c_X2_kindsAlike_12    : 0 ≤ (0 : Int32).toInt := by have q0 := li_0; omega
theorem lf_c_X2_kindsAlike_13    : (0 : Int32).toInt ≤ 5 := by have q0 := li_0; omega
set_option maxHeartbeats 4000000 in
set_option maxRecDepth 100000 in
theorem c_X2_kindsAlike (l : Launch) (G : va_G) (cy : Nat → ClassId) (ad : rf → Nat) (d : Nat) (b : Nat) (v : Int32) (u : Int32) (t : Int32) (s : Int32) (q : Int32) (Mz : mM) (hIz : Inv Mz) (hb : b < 3) : WP CC l G cy ad yX2_kindsAlike cX2_kindsAlike 8 (some .int) (d + 3) 0 [(0, vR (2, b, 0)), (1, vI v), (2, vI u), (3, vI t), (4, vI s), (5, vI q)] [] Mz (fun r M' => Inv M' ∧ FR (S_c_X2_kindsAlike b) Mz M' ∧ (True) ∧ SP_X2_kindsAlike b v u t s q Mz r M') := by
  have hFz : FR (S_c_X2_kindsAlike b) Mz Mz := FR.self
  refine w_iconst (v := 0) dX2_kindsAlike_0 (by decide) ?_
  refine w_istore (ls' := [(6, vI 0), (0, vR (2, b, 0)), (1, vI v), (2, vI u), (3, vI t), (4, vI s), (5, vI q)]) dX2_kindsAlike_1 (by decide) rfl ?_
  refine w_iconst (v := 0) dX2_kindsAlike_3 (by decide) ?_
  refine w_istore (ls' := [(7, vI 0), (6, vI 0), (0, vR (2, b, 0)), (1, vI v), (2, vI u), (3, vI t), (4, vI s), (5, vI q)]) dX2_kindsAlike_4 (by decide) rfl ?_
  have lp1_ : ∀ (nn_6 : Nat) (M_6 : mM) (hI_6 : Inv M_6) (hF_6 : FR (S_c_X2_kindsAlike b) Mz M_6) (v7_6 : Int32) (v6_6 : Int32) (hv0_6 : 0 ≤ v7_6.toInt) (hv1_6 : v7_6.toInt ≤ 5) (hL_6 : RCH (fun x_ y_ => ST_X2_kindsAlike_6 b v u t s q Mz x_.1 x_.2.1 x_.2.2 y_.1 y_.2.1 y_.2.2) ((0 : Int32), (0 : Int32), Mz) (v7_6, v6_6, M_6)), (2147483648 - v7_6.toInt).toNat < nn_6 → WP CC l G cy ad yX2_kindsAlike cX2_kindsAlike 8 (some .int) (d + 3) 6 [(7, vI v7_6), (6, vI v6_6), (0, vR (2, b, 0)), (1, vI v), (2, vI u), (3, vI t), (4, vI s), (5, vI q)] [] M_6 (fun r M' => Inv M' ∧ FR (S_c_X2_kindsAlike b) Mz M' ∧ (True) ∧ SP_X2_kindsAlike b v u t s q Mz r M') := by
    intro nn_6
    induction nn_6 with
    | zero => intro M_6 hI_6 hF_6 v7_6 v6_6 hv0_6 hv1_6 hL_6 hm_6; exact absurd hm_6 (Nat.not_lt_zero _)
    | succ nn_6 ih_6 =>
      intro M_6 hI_6 hF_6 v7_6 v6_6 hv0_6 hv1_6 hL_6 hm_6
      refine w_iload dX2_kindsAlike_6 0 rfl ?_
      refine w_iconst (v := 5) dX2_kindsAlike_8 (by decide) ?_
      refine w_icmp_ge (tgt := 54) dX2_kindsAlike_9 (by decide) (rfl : v7_6.toInt = v7_6.toInt) li_5 (fun h2_ => ?_) (fun h2_ => ?_)
      · refine w_iload dX2_kindsAlike_54 1 rfl ?_
        exact w_iret rfl dX2_kindsAlike_56 ⟨hI_6, hF_6, trivial, ⟨v7_6, hv0_6, hv1_6, v6_6, M_6, hL_6, hI_6, hF_6, h2_, rfl, rfl⟩⟩
      · refine w_aload_n dX2_kindsAlike_12 rfl 2 rfl ?_
        refine w_iload dX2_kindsAlike_13 0 rfl ?_
        refine w_iload_n dX2_kindsAlike_15 rfl 4 rfl ?_
        refine w_iload_n dX2_kindsAlike_16 rfl 5 rfl ?_
        refine w_callV (as := [vI v7_6, vI u, vI t]) (rest := []) (c_X2_strength l G cy ad (d + 1) b v7_6 u t M_6 hI_6 hb) kV_X2_strength (by decide +kernel) (Nat.le_of_ble_eq_true rfl) m_913 rfl rfl rfl (ic_2 hb) rfl rfl (by decide) (Nat.le_of_ble_eq_true rfl) dX2_kindsAlike_17 (fun r3_ M4_ q5_ => ?_)
        obtain ⟨hI7_, hF8_, h6_, hs10_⟩ := q5_
        have hF9_ := hF_6.tr hF8_ (fun c k => (fun h => h.elim (fun h => (Or.inl ⟨h.1, h.2.1, h.2.2⟩)) (fun h => h.elim (fun h => (Or.inr (Or.inl ⟨h.1, h.2.1, h.2.2⟩))) (fun h => h.elim (fun h => (Or.inr (Or.inr (Or.inl ⟨h.1, h.2.1, h.2.2⟩)))) (fun h => h.elim (fun h => (Or.inr (Or.inr (Or.inr (Or.inl ⟨h.1, h.2.1, h.2.2⟩))))) (fun h => h.elim (fun h => (Or.inr (Or.inr (Or.inr (Or.inr (Or.inl ⟨h.1, h.2.1, h.2.2⟩)))))) (fun h => h.elim)))))))
        refine w_iload dX2_kindsAlike_20 7 rfl ?_
        refine w_icmp_ne (tgt := 48) dX2_kindsAlike_22 (by decide) (rfl : r3_.toInt = r3_.toInt) (rfl : q.toInt = q.toInt) (fun h11_ => ?_) (fun h11_ => ?_)
        · refine w_iincB (j := 0) (f := fun z12_ => [(7, vI z12_), (6, vI v6_6), (0, vR (2, b, 0)), (1, vI v), (2, vI u), (3, vI t), (4, vI s), (5, vI q)]) dX2_kindsAlike_48 rfl (by decide) (fun _ => rfl) (rfl : v7_6.toInt = v7_6.toInt) li_1 (lf_c_X2_kindsAlike_0 v7_6 hv0_6 hv1_6 h2_) (fun z12_ h13_ => ?_)
          refine w_goto (tgt := 6) dX2_kindsAlike_51 (by decide) ?_
          refine w_loc (ls' := [(7, vI z12_), (6, vI v6_6), (0, vR (2, b, 0)), (1, vI v), (2, vI u), (3, vI t), (4, vI s), (5, vI q)]) [0, 1, 2, 3, 4, 5, 6, 7] rfl ?_
          exact ih_6 M4_ hI7_ hF9_ z12_ v6_6 (lf_c_X2_kindsAlike_1 v7_6 z12_ hv0_6 hv1_6 h2_ h13_) (lf_c_X2_kindsAlike_2 v7_6 z12_ hv0_6 hv1_6 h2_ h13_) (RCH.tail hL_6 ⟨hv0_6, hv1_6, hI_6, hF_6, h2_, M4_, hI7_, hF8_, r3_, hs10_, (Or.inl ⟨h11_, z12_, h13_, rfl, rfl, rfl⟩)⟩) (Nat.lt_of_lt_of_le (lf_c_X2_kindsAlike_3 v7_6 z12_ hv0_6 hv1_6 h2_ h13_) (Nat.le_of_lt_succ hm_6))
        · refine w_aload_n dX2_kindsAlike_25 rfl 2 rfl ?_
          refine w_iload_n dX2_kindsAlike_26 rfl 3 rfl ?_
          refine w_iload dX2_kindsAlike_27 0 rfl ?_
          refine w_iload_n dX2_kindsAlike_29 rfl 4 rfl ?_
          refine w_iload_n dX2_kindsAlike_30 rfl 5 rfl ?_
          refine w_iload dX2_kindsAlike_31 6 rfl ?_
          refine w_callV (as := [vI v, vI v7_6, vI u, vI t, vI s]) (rest := []) (c_X2_hears l G cy ad d b v v7_6 u t s M4_ hI7_ hb) kV_X2_hears (by decide +kernel) (Nat.le_of_ble_eq_true rfl) m_956 rfl rfl rfl (ic_2 hb) rfl rfl (by decide) (Nat.le_of_ble_eq_true rfl) dX2_kindsAlike_33 (fun r14_ M15_ q16_ => ?_)
          obtain ⟨hI18_, hF19_, h17_, hs21_⟩ := q16_
          have hF20_ := hF9_.tr hF19_ (fun c k => (fun h => h.elim (fun h => (Or.inl ⟨h.1, h.2.1, h.2.2⟩)) (fun h => h.elim (fun h => (Or.inr (Or.inl ⟨h.1, h.2.1, h.2.2⟩))) (fun h => h.elim (fun h => (Or.inr (Or.inr (Or.inl ⟨h.1, h.2.1, h.2.2⟩)))) (fun h => h.elim (fun h => (Or.inr (Or.inr (Or.inr (Or.inl ⟨h.1, h.2.1, h.2.2⟩))))) (fun h => h.elim (fun h => (Or.inr (Or.inr (Or.inr (Or.inr (Or.inl ⟨h.1, h.2.1, h.2.2⟩)))))) (fun h => h.elim (fun h => (Or.inr (Or.inr (Or.inr (Or.inr (Or.inr (Or.inl ⟨h.1, h.2.1, h.2.2⟩))))))) (fun h => h.elim))))))))
          refine w_if_eq (tgt := 48) dX2_kindsAlike_36 (by decide) (rfl : r14_.toInt = r14_.toInt) (fun h22_ => ?_) (fun h22_ => ?_)
          · refine w_iincB (j := 0) (f := fun z23_ => [(7, vI z23_), (6, vI v6_6), (0, vR (2, b, 0)), (1, vI v), (2, vI u), (3, vI t), (4, vI s), (5, vI q)]) dX2_kindsAlike_48 rfl (by decide) (fun _ => rfl) (rfl : v7_6.toInt = v7_6.toInt) li_1 (lf_c_X2_kindsAlike_4 v7_6 hv0_6 hv1_6 h2_) (fun z23_ h24_ => ?_)
            refine w_goto (tgt := 6) dX2_kindsAlike_51 (by decide) ?_
            refine w_loc (ls' := [(7, vI z23_), (6, vI v6_6), (0, vR (2, b, 0)), (1, vI v), (2, vI u), (3, vI t), (4, vI s), (5, vI q)]) [0, 1, 2, 3, 4, 5, 6, 7] rfl ?_
            exact ih_6 M15_ hI18_ hF20_ z23_ v6_6 (lf_c_X2_kindsAlike_5 v7_6 z23_ hv0_6 hv1_6 h2_ h24_) (lf_c_X2_kindsAlike_6 v7_6 z23_ hv0_6 hv1_6 h2_ h24_) (RCH.tail hL_6 ⟨hv0_6, hv1_6, hI_6, hF_6, h2_, M4_, hI7_, hF8_, r3_, hs10_, (Or.inr ⟨h11_, M15_, hI18_, hF19_, r14_, hs21_, h17_, (Or.inl ⟨h22_, z23_, h24_, rfl, rfl, rfl⟩)⟩)⟩) (Nat.lt_of_lt_of_le (lf_c_X2_kindsAlike_7 v7_6 z23_ hv0_6 hv1_6 h2_ h24_) (Nat.le_of_lt_succ hm_6))
          · refine w_iload dX2_kindsAlike_39 1 rfl ?_
            refine w_iconst (v := 1) dX2_kindsAlike_41 (by decide) ?_
            refine w_iload dX2_kindsAlike_42 0 rfl ?_
            refine w_ishl dX2_kindsAlike_44 (fun z25_ h26_ => ?_)
            refine w_ior dX2_kindsAlike_45 (fun z27_ h28_ => ?_)
            refine w_istore (ls' := [(6, vI z27_), (7, vI v7_6), (0, vR (2, b, 0)), (1, vI v), (2, vI u), (3, vI t), (4, vI s), (5, vI q)]) dX2_kindsAlike_46 (by decide) rfl ?_
            refine w_iincB (j := 1) (f := fun z29_ => [(7, vI z29_), (6, vI z27_), (0, vR (2, b, 0)), (1, vI v), (2, vI u), (3, vI t), (4, vI s), (5, vI q)]) dX2_kindsAlike_48 rfl (by decide) (fun _ => rfl) (rfl : v7_6.toInt = v7_6.toInt) li_1 (lf_c_X2_kindsAlike_8 v7_6 hv0_6 hv1_6 h2_) (fun z29_ h30_ => ?_)
            refine w_goto (tgt := 6) dX2_kindsAlike_51 (by decide) ?_
            refine w_loc (ls' := [(7, vI z29_), (6, vI z27_), (0, vR (2, b, 0)), (1, vI v), (2, vI u), (3, vI t), (4, vI s), (5, vI q)]) [0, 1, 2, 3, 4, 5, 6, 7] rfl ?_
            exact ih_6 M15_ hI18_ hF20_ z29_ z27_ (lf_c_X2_kindsAlike_9 v7_6 z29_ hv0_6 hv1_6 h2_ h30_) (lf_c_X2_kindsAlike_10 v7_6 z29_ hv0_6 hv1_6 h2_ h30_) (RCH.tail hL_6 ⟨hv0_6, hv1_6, hI_6, hF_6, h2_, M4_, hI7_, hF8_, r3_, hs10_, (Or.inr ⟨h11_, M15_, hI18_, hF19_, r14_, hs21_, h17_, (Or.inr ⟨h22_, z25_, h26_, z27_, h28_, z29_, h30_, rfl, rfl, rfl⟩)⟩)⟩) (Nat.lt_of_lt_of_le (lf_c_X2_kindsAlike_11 v7_6 z29_ hv0_6 hv1_6 h2_ h30_) (Nat.le_of_lt_succ hm_6))
  exact lp1_ _ Mz hIz hFz 0 0 (lf_c_X2_kindsAlike_12 ) (lf_c_X2_kindsAlike_13 ) RCH.refl (Nat.lt_succ_self _)
def S_c_X2_leastPitch (b : Nat) : rf → Nat → Prop := fun c k => (c.1 = 29 ∧ c.2.1 = b ∧ k = 0) ∨ (c.1 = 29 ∧ c.2.1 = b ∧ k = 1) ∨ (c.1 = 29 ∧ c.2.1 = b ∧ k = 2) ∨ (c.1 = 29 ∧ c.2.1 = b ∧ k = 3) ∨ (c.1 = 25 ∧ c.2.1 = b ∧ c.2.2 = 0) ∨ (c.1 = 25 ∧ c.2.1 = b ∧ c.2.2 = 1) ∨ False
def ST_X2_leastPitch_3 (b : Nat) (v : Int32) (u : Int32) (t : Int32) (Mz : mM) (v4_3 : Int32) (M_3 : mM) (v4_3y : Int32) (M_3y : mM) : Prop := (1 ≤ v4_3.toInt) ∧ (v4_3.toInt ≤ 10) ∧ (Inv M_3) ∧ (FR (S_c_X2_leastPitch b) Mz M_3) ∧ (v4_3.toInt ≤ 9) ∧ ∃ z3_ : Int32, (z3_.toInt = 100 * v4_3.toInt) ∧ ∃ z5_ : Int32, (z5_.toInt = z3_.toInt + 99) ∧ ∃ M8_ : mM, (Inv M8_) ∧ (FR (S_c_X2_hears b) M_3 M8_) ∧ ∃ r7_ : Int32, (SP_X2_hears b v u z5_ t 0 M_3 r7_ M8_) ∧ ((0 ≤ r7_.toInt ∧ r7_.toInt ≤ 1)) ∧ (r7_.toInt = 0) ∧ ∃ z16_ : Int32, (z16_.toInt = v4_3.toInt + 1) ∧ v4_3y = z16_ ∧ M_3y = M8_
def SP_X2_leastPitch (b : Nat) (v : Int32) (u : Int32) (t : Int32) (Mz : mM) (r_ : Int32) (M_ : mM) : Prop := ∃ v4_3 : Int32, (1 ≤ v4_3.toInt) ∧ (v4_3.toInt ≤ 10) ∧ ∃ M_3 : mM, (RCH (fun x_ y_ => ST_X2_leastPitch_3 b v u t Mz x_.1 x_.2 y_.1 y_.2) ((1 : Int32), Mz) (v4_3, M_3)) ∧ (Inv M_3) ∧ (FR (S_c_X2_leastPitch b) Mz M_3) ∧ (((9 < v4_3.toInt) ∧ r_ = 0 ∧ M_ = M_3) ∨ ((v4_3.toInt ≤ 9) ∧ ∃ z3_ : Int32, (z3_.toInt = 100 * v4_3.toInt) ∧ ∃ z5_ : Int32, (z5_.toInt = z3_.toInt + 99) ∧ ∃ M8_ : mM, (Inv M8_) ∧ (FR (S_c_X2_hears b) M_3 M8_) ∧ ∃ r7_ : Int32, (SP_X2_hears b v u z5_ t 0 M_3 r7_ M8_) ∧ ((0 ≤ r7_.toInt ∧ r7_.toInt ≤ 1)) ∧ (¬ r7_.toInt = 0) ∧ r_ = v4_3 ∧ M_ = M8_))
theorem lf_c_X2_leastPitch_0  (v4_3 : Int32) (hv0_3 : 1 ≤ v4_3.toInt) (hv1_3 : v4_3.toInt ≤ 10) (h2_ : v4_3.toInt ≤ 9) : -2147483648 ≤ 100 * v4_3.toInt ∧ 100 * v4_3.toInt < 2147483648 := by have r_v4_3 := rngI v4_3; omega
theorem lf_c_X2_leastPitch_1  (v4_3 : Int32) (z3_ : Int32) (hv0_3 : 1 ≤ v4_3.toInt) (hv1_3 : v4_3.toInt ≤ 10) (h2_ : v4_3.toInt ≤ 9) (h4_ : z3_.toInt = 100 * v4_3.toInt) : -2147483648 ≤ z3_.toInt + 99 ∧ z3_.toInt + 99 < 2147483648 := by have r_v4_3 := rngI v4_3; have r_z3_ := rngI z3_; omega
theorem lf_c_X2_leastPitch_2  (v4_3 : Int32) (z3_ : Int32) (z5_ : Int32) (hv0_3 : 1 ≤ v4_3.toInt) (hv1_3 : v4_3.toInt ≤ 10) (h2_ : v4_3.toInt ≤ 9) (h4_ : z3_.toInt = 100 * v4_3.toInt) (h6_ : z5_.toInt = z3_.toInt + 99) : -2147483648 ≤ v4_3.toInt + 1 ∧ v4_3.toInt + 1 < 2147483648 := by have r_v4_3 := rngI v4_3; have r_z3_ := rngI z3_; have r_z5_ := rngI z5_; omega
theorem lf_c_X2_leastPitch_3  (v4_3 : Int32) (z3_ : Int32) (z5_ : Int32) (z16_ : Int32) (hv0_3 : 1 ≤ v4_3.toInt) (hv1_3 : v4_3.toInt ≤ 10) (h2_ : v4_3.toInt ≤ 9) (h4_ : z3_.toInt = 100 * v4_3.toInt) (h6_ : z5_.toInt = z3_.toInt + 99) (h17_ : z16_.toInt = v4_3.toInt + 1) : 1 ≤ z16_.toInt := by have r_v4_3 := rngI v4_3; have r_z3_ := rngI z3_; have r_z5_ := rngI z5_; have r_z16_ := rngI z16_; omega
theorem lf_c_X2_leastPitch_4  (v4_3 : Int32) (z3_ : Int32) (z5_ : Int32) (z16_ : Int32) (hv0_3 : 1 ≤ v4_3.toInt) (hv1_3 : v4_3.toInt ≤ 10) (h2_ : v4_3.toInt ≤ 9) (h4_ : z3_.toInt = 100 * v4_3.toInt) (h6_ : z5_.toInt = z3_.toInt + 99) (h17_ : z16_.toInt = v4_3.toInt + 1) : z16_.toInt ≤ 10 := by have r_v4_3 := rngI v4_3; have r_z3_ := rngI z3_; have r_z5_ := rngI z5_; have r_z16_ := rngI z16_; omega
theorem lf_c_X2_leastPitch_5  (v4_3 : Int32) (z3_ : Int32) (z5_ : Int32) (z16_ : Int32) (hv0_3 : 1 ≤ v4_3.toInt) (hv1_3 : v4_3.toInt ≤ 10) (h2_ : v4_3.toInt ≤ 9) (h4_ : z3_.toInt = 100 * v4_3.toInt) (h6_ : z5_.toInt = z3_.toInt + 99) (h17_ : z16_.toInt = v4_3.toInt + 1) : (2147483648 - z16_.toInt).toNat < (2147483648 - v4_3.toInt).toNat := by have r_v4_3 := rngI v4_3; have r_z3_ := rngI z3_; have r_z5_ := rngI z5_; have r_z16_ := rngI z16_; omega
theorem lf_c_X2_leastPitch_6    : 1 ≤ (1 : Int32).toInt := by have q0 := li_1; omega
theorem lf_c_X2_leastPitch_7    : (1 : Int32).toInt ≤ 10 := by have q0 := li_1; omega
set_option maxHeartbeats 4000000 in
set_option maxRecDepth 100000 in
theorem c_X2_leastPitch (l : Launch) (G : va_G) (cy : Nat → ClassId) (ad : rf → Nat) (d : Nat) (b : Nat) (v : Int32) (u : Int32) (t : Int32) (Mz : mM) (hIz : Inv Mz) (hb : b < 3) : WP CC l G cy ad yX2_leastPitch cX2_leastPitch 5 (some .int) (d + 3) 0 [(0, vR (2, b, 0)), (1, vI v), (2, vI u), (3, vI t)] [] Mz (fun r M' => Inv M' ∧ FR (S_c_X2_leastPitch b) Mz M' ∧ (True) ∧ SP_X2_leastPitch b v u t Mz r M') := by
  have hFz : FR (S_c_X2_leastPitch b) Mz Mz := FR.self
  refine w_iconst (v := 1) dX2_leastPitch_0 (by decide) ?_
  refine w_istore (ls' := [(4, vI 1), (0, vR (2, b, 0)), (1, vI v), (2, vI u), (3, vI t)]) dX2_leastPitch_1 (by decide) rfl ?_
  have lp1_ : ∀ (nn_3 : Nat) (M_3 : mM) (hI_3 : Inv M_3) (hF_3 : FR (S_c_X2_leastPitch b) Mz M_3) (v4_3 : Int32) (hv0_3 : 1 ≤ v4_3.toInt) (hv1_3 : v4_3.toInt ≤ 10) (hL_3 : RCH (fun x_ y_ => ST_X2_leastPitch_3 b v u t Mz x_.1 x_.2 y_.1 y_.2) ((1 : Int32), Mz) (v4_3, M_3)), (2147483648 - v4_3.toInt).toNat < nn_3 → WP CC l G cy ad yX2_leastPitch cX2_leastPitch 5 (some .int) (d + 3) 3 [(4, vI v4_3), (0, vR (2, b, 0)), (1, vI v), (2, vI u), (3, vI t)] [] M_3 (fun r M' => Inv M' ∧ FR (S_c_X2_leastPitch b) Mz M' ∧ (True) ∧ SP_X2_leastPitch b v u t Mz r M') := by
    intro nn_3
    induction nn_3 with
    | zero => intro M_3 hI_3 hF_3 v4_3 hv0_3 hv1_3 hL_3 hm_3; exact absurd hm_3 (Nat.not_lt_zero _)
    | succ nn_3 ih_3 =>
      intro M_3 hI_3 hF_3 v4_3 hv0_3 hv1_3 hL_3 hm_3
      refine w_iload dX2_leastPitch_3 0 rfl ?_
      refine w_bipush (v := 9) dX2_leastPitch_5 (by decide) ?_
      refine w_icmp_gt (tgt := 38) dX2_leastPitch_7 (by decide) (rfl : v4_3.toInt = v4_3.toInt) li_9 (fun h2_ => ?_) (fun h2_ => ?_)
      · refine w_iconst (v := 0) dX2_leastPitch_38 (by decide) ?_
        exact w_iret rfl dX2_leastPitch_39 ⟨hI_3, hF_3, trivial, ⟨v4_3, hv0_3, hv1_3, M_3, hL_3, hI_3, hF_3, (Or.inl ⟨h2_, rfl, rfl⟩)⟩⟩
      · refine w_aload_n dX2_leastPitch_10 rfl 1 rfl ?_
        refine w_iload_n dX2_leastPitch_11 rfl 2 rfl ?_
        refine w_iload_n dX2_leastPitch_12 rfl 3 rfl ?_
        refine w_bipush (v := 100) dX2_leastPitch_13 (by decide) ?_
        refine w_iload dX2_leastPitch_15 0 rfl ?_
        refine w_imulB dX2_leastPitch_17 li_100 (rfl : v4_3.toInt = v4_3.toInt) (lf_c_X2_leastPitch_0 v4_3 hv0_3 hv1_3 h2_) (fun z3_ h4_ => ?_)
        refine w_bipush (v := 99) dX2_leastPitch_18 (by decide) ?_
        refine w_iaddB dX2_leastPitch_20 (rfl : z3_.toInt = z3_.toInt) li_99 (lf_c_X2_leastPitch_1 v4_3 z3_ hv0_3 hv1_3 h2_ h4_) (fun z5_ h6_ => ?_)
        refine w_iload_n dX2_leastPitch_21 rfl 4 rfl ?_
        refine w_iconst (v := 0) dX2_leastPitch_22 (by decide) ?_
        refine w_callV (as := [vI v, vI u, vI z5_, vI t, vI 0]) (rest := []) (c_X2_hears l G cy ad d b v u z5_ t 0 M_3 hI_3 hb) kV_X2_hears (by decide +kernel) (Nat.le_of_ble_eq_true rfl) m_956 rfl rfl rfl (ic_2 hb) rfl rfl (by decide) (Nat.le_of_ble_eq_true rfl) dX2_leastPitch_23 (fun r7_ M8_ q9_ => ?_)
        obtain ⟨hI11_, hF12_, h10_, hs14_⟩ := q9_
        have hF13_ := hF_3.tr hF12_ (fun c k => (fun h => h.elim (fun h => (Or.inl ⟨h.1, h.2.1, h.2.2⟩)) (fun h => h.elim (fun h => (Or.inr (Or.inl ⟨h.1, h.2.1, h.2.2⟩))) (fun h => h.elim (fun h => (Or.inr (Or.inr (Or.inl ⟨h.1, h.2.1, h.2.2⟩)))) (fun h => h.elim (fun h => (Or.inr (Or.inr (Or.inr (Or.inl ⟨h.1, h.2.1, h.2.2⟩))))) (fun h => h.elim (fun h => (Or.inr (Or.inr (Or.inr (Or.inr (Or.inl ⟨h.1, h.2.1, h.2.2⟩)))))) (fun h => h.elim (fun h => (Or.inr (Or.inr (Or.inr (Or.inr (Or.inr (Or.inl ⟨h.1, h.2.1, h.2.2⟩))))))) (fun h => h.elim))))))))
        refine w_if_eq (tgt := 32) dX2_leastPitch_26 (by decide) (rfl : r7_.toInt = r7_.toInt) (fun h15_ => ?_) (fun h15_ => ?_)
        · refine w_iincB (j := 0) (f := fun z16_ => [(4, vI z16_), (0, vR (2, b, 0)), (1, vI v), (2, vI u), (3, vI t)]) dX2_leastPitch_32 rfl (by decide) (fun _ => rfl) (rfl : v4_3.toInt = v4_3.toInt) li_1 (lf_c_X2_leastPitch_2 v4_3 z3_ z5_ hv0_3 hv1_3 h2_ h4_ h6_) (fun z16_ h17_ => ?_)
          refine w_goto (tgt := 3) dX2_leastPitch_35 (by decide) ?_
          refine w_loc (ls' := [(4, vI z16_), (0, vR (2, b, 0)), (1, vI v), (2, vI u), (3, vI t)]) [0, 1, 2, 3, 4] rfl ?_
          exact ih_3 M8_ hI11_ hF13_ z16_ (lf_c_X2_leastPitch_3 v4_3 z3_ z5_ z16_ hv0_3 hv1_3 h2_ h4_ h6_ h17_) (lf_c_X2_leastPitch_4 v4_3 z3_ z5_ z16_ hv0_3 hv1_3 h2_ h4_ h6_ h17_) (RCH.tail hL_3 ⟨hv0_3, hv1_3, hI_3, hF_3, h2_, z3_, h4_, z5_, h6_, M8_, hI11_, hF12_, r7_, hs14_, h10_, h15_, z16_, h17_, rfl, rfl⟩) (Nat.lt_of_lt_of_le (lf_c_X2_leastPitch_5 v4_3 z3_ z5_ z16_ hv0_3 hv1_3 h2_ h4_ h6_ h17_) (Nat.le_of_lt_succ hm_3))
        · refine w_iload dX2_leastPitch_29 0 rfl ?_
          exact w_iret rfl dX2_leastPitch_31 ⟨hI11_, hF13_, trivial, ⟨v4_3, hv0_3, hv1_3, M_3, hL_3, hI_3, hF_3, (Or.inr ⟨h2_, z3_, h4_, z5_, h6_, M8_, hI11_, hF12_, r7_, hs14_, h10_, h15_, rfl, rfl⟩)⟩⟩
  exact lp1_ _ Mz hIz hFz 1 (lf_c_X2_leastPitch_6 ) (lf_c_X2_leastPitch_7 ) RCH.refl (Nat.lt_succ_self _)
def S_c_X2_leastLoudness (b : Nat) : rf → Nat → Prop := fun c k => (c.1 = 29 ∧ c.2.1 = b ∧ k = 0) ∨ (c.1 = 29 ∧ c.2.1 = b ∧ k = 1) ∨ (c.1 = 29 ∧ c.2.1 = b ∧ k = 2) ∨ (c.1 = 29 ∧ c.2.1 = b ∧ k = 3) ∨ (c.1 = 25 ∧ c.2.1 = b ∧ c.2.2 = 0) ∨ (c.1 = 25 ∧ c.2.1 = b ∧ c.2.2 = 1) ∨ False
def ST_X2_leastLoudness_3 (b : Nat) (v : Int32) (u : Int32) (t : Int32) (Mz : mM) (v4_3 : Int32) (M_3 : mM) (v4_3y : Int32) (M_3y : mM) : Prop := (1 ≤ v4_3.toInt) ∧ (v4_3.toInt ≤ 100) ∧ (Inv M_3) ∧ (FR (S_c_X2_leastLoudness b) Mz M_3) ∧ (v4_3.toInt ≤ 99) ∧ ∃ z3_ : Int32, ((z3_.toInt = 9 ∧ 9 ≤ v.toInt) ∨ (z3_.toInt = v.toInt ∧ v.toInt ≤ 9)) ∧ ∃ z5_ : Int32, (z5_ = (100 : Int32) * z3_) ∧ ∃ z7_ : Int32, (z7_ = z5_ + v4_3) ∧ ∃ M10_ : mM, (Inv M10_) ∧ (FR (S_c_X2_hears b) M_3 M10_) ∧ ∃ r9_ : Int32, (SP_X2_hears b v u z7_ t 0 M_3 r9_ M10_) ∧ ((0 ≤ r9_.toInt ∧ r9_.toInt ≤ 1)) ∧ (r9_.toInt = 0) ∧ ∃ z18_ : Int32, (z18_.toInt = v4_3.toInt + 1) ∧ v4_3y = z18_ ∧ M_3y = M10_
def SP_X2_leastLoudness (b : Nat) (v : Int32) (u : Int32) (t : Int32) (Mz : mM) (r_ : Int32) (M_ : mM) : Prop := ∃ v4_3 : Int32, (1 ≤ v4_3.toInt) ∧ (v4_3.toInt ≤ 100) ∧ ∃ M_3 : mM, (RCH (fun x_ y_ => ST_X2_leastLoudness_3 b v u t Mz x_.1 x_.2 y_.1 y_.2) ((1 : Int32), Mz) (v4_3, M_3)) ∧ (Inv M_3) ∧ (FR (S_c_X2_leastLoudness b) Mz M_3) ∧ (((99 < v4_3.toInt) ∧ r_ = 0 ∧ M_ = M_3) ∨ ((v4_3.toInt ≤ 99) ∧ ∃ z3_ : Int32, ((z3_.toInt = 9 ∧ 9 ≤ v.toInt) ∨ (z3_.toInt = v.toInt ∧ v.toInt ≤ 9)) ∧ ∃ z5_ : Int32, (z5_ = (100 : Int32) * z3_) ∧ ∃ z7_ : Int32, (z7_ = z5_ + v4_3) ∧ ∃ M10_ : mM, (Inv M10_) ∧ (FR (S_c_X2_hears b) M_3 M10_) ∧ ∃ r9_ : Int32, (SP_X2_hears b v u z7_ t 0 M_3 r9_ M10_) ∧ ((0 ≤ r9_.toInt ∧ r9_.toInt ≤ 1)) ∧ (¬ r9_.toInt = 0) ∧ r_ = v4_3 ∧ M_ = M10_))
theorem lf_c_X2_leastLoudness_0  (v4_3 : Int32) (hv0_3 : 1 ≤ v4_3.toInt) (hv1_3 : v4_3.toInt ≤ 100) (h2_ : v4_3.toInt ≤ 99) : -2147483648 ≤ v4_3.toInt + 1 ∧ v4_3.toInt + 1 < 2147483648 := by have r_v4_3 := rngI v4_3; omega
theorem lf_c_X2_leastLoudness_1  (v4_3 : Int32) (z18_ : Int32) (hv0_3 : 1 ≤ v4_3.toInt) (hv1_3 : v4_3.toInt ≤ 100) (h2_ : v4_3.toInt ≤ 99) (h19_ : z18_.toInt = v4_3.toInt + 1) : 1 ≤ z18_.toInt := by have r_v4_3 := rngI v4_3; have r_z18_ := rngI z18_; omega
theorem lf_c_X2_leastLoudness_2  (v4_3 : Int32) (z18_ : Int32) (hv0_3 : 1 ≤ v4_3.toInt) (hv1_3 : v4_3.toInt ≤ 100) (h2_ : v4_3.toInt ≤ 99) (h19_ : z18_.toInt = v4_3.toInt + 1) : z18_.toInt ≤ 100 := by have r_v4_3 := rngI v4_3; have r_z18_ := rngI z18_; omega
theorem lf_c_X2_leastLoudness_3  (v4_3 : Int32) (z18_ : Int32) (hv0_3 : 1 ≤ v4_3.toInt) (hv1_3 : v4_3.toInt ≤ 100) (h2_ : v4_3.toInt ≤ 99) (h19_ : z18_.toInt = v4_3.toInt + 1) : (2147483648 - z18_.toInt).toNat < (2147483648 - v4_3.toInt).toNat := by have r_v4_3 := rngI v4_3; have r_z18_ := rngI z18_; omega
theorem lf_c_X2_leastLoudness_4    : 1 ≤ (1 : Int32).toInt := by have q0 := li_1; omega
theorem lf_c_X2_leastLoudness_5    : (1 : Int32).toInt ≤ 100 := by have q0 := li_1; omega
set_option maxHeartbeats 4000000 in
set_option maxRecDepth 100000 in
theorem c_X2_leastLoudness (l : Launch) (G : va_G) (cy : Nat → ClassId) (ad : rf → Nat) (d : Nat) (b : Nat) (v : Int32) (u : Int32) (t : Int32) (Mz : mM) (hIz : Inv Mz) (hb : b < 3) : WP CC l G cy ad yX2_leastLoudness cX2_leastLoudness 5 (some .int) (d + 3) 0 [(0, vR (2, b, 0)), (1, vI v), (2, vI u), (3, vI t)] [] Mz (fun r M' => Inv M' ∧ FR (S_c_X2_leastLoudness b) Mz M' ∧ (True) ∧ SP_X2_leastLoudness b v u t Mz r M') := by
  have hFz : FR (S_c_X2_leastLoudness b) Mz Mz := FR.self
  refine w_iconst (v := 1) dX2_leastLoudness_0 (by decide) ?_
  refine w_istore (ls' := [(4, vI 1), (0, vR (2, b, 0)), (1, vI v), (2, vI u), (3, vI t)]) dX2_leastLoudness_1 (by decide) rfl ?_
  have lp1_ : ∀ (nn_3 : Nat) (M_3 : mM) (hI_3 : Inv M_3) (hF_3 : FR (S_c_X2_leastLoudness b) Mz M_3) (v4_3 : Int32) (hv0_3 : 1 ≤ v4_3.toInt) (hv1_3 : v4_3.toInt ≤ 100) (hL_3 : RCH (fun x_ y_ => ST_X2_leastLoudness_3 b v u t Mz x_.1 x_.2 y_.1 y_.2) ((1 : Int32), Mz) (v4_3, M_3)), (2147483648 - v4_3.toInt).toNat < nn_3 → WP CC l G cy ad yX2_leastLoudness cX2_leastLoudness 5 (some .int) (d + 3) 3 [(4, vI v4_3), (0, vR (2, b, 0)), (1, vI v), (2, vI u), (3, vI t)] [] M_3 (fun r M' => Inv M' ∧ FR (S_c_X2_leastLoudness b) Mz M' ∧ (True) ∧ SP_X2_leastLoudness b v u t Mz r M') := by
    intro nn_3
    induction nn_3 with
    | zero => intro M_3 hI_3 hF_3 v4_3 hv0_3 hv1_3 hL_3 hm_3; exact absurd hm_3 (Nat.not_lt_zero _)
    | succ nn_3 ih_3 =>
      intro M_3 hI_3 hF_3 v4_3 hv0_3 hv1_3 hL_3 hm_3
      refine w_iload dX2_leastLoudness_3 0 rfl ?_
      refine w_bipush (v := 99) dX2_leastLoudness_5 (by decide) ?_
      refine w_icmp_gt (tgt := 42) dX2_leastLoudness_7 (by decide) (rfl : v4_3.toInt = v4_3.toInt) li_99 (fun h2_ => ?_) (fun h2_ => ?_)
      · refine w_iconst (v := 0) dX2_leastLoudness_42 (by decide) ?_
        exact w_iret rfl dX2_leastLoudness_43 ⟨hI_3, hF_3, trivial, ⟨v4_3, hv0_3, hv1_3, M_3, hL_3, hI_3, hF_3, (Or.inl ⟨h2_, rfl, rfl⟩)⟩⟩
      · refine w_aload_n dX2_leastLoudness_10 rfl 1 rfl ?_
        refine w_iload_n dX2_leastLoudness_11 rfl 2 rfl ?_
        refine w_iload_n dX2_leastLoudness_12 rfl 3 rfl ?_
        refine w_bipush (v := 100) dX2_leastLoudness_13 (by decide) ?_
        refine w_bipush (v := 9) dX2_leastLoudness_15 (by decide) ?_
        refine w_iload_n dX2_leastLoudness_17 rfl 2 rfl ?_
        refine w_min m_885 m_770 m_86 m_771 li_9 (rfl : v.toInt = v.toInt) (Nat.le_of_ble_eq_true rfl) (by omega) dX2_leastLoudness_18 (fun z3_ h4_ => ?_)
        refine w_imul dX2_leastLoudness_21 (fun z5_ h6_ => ?_)
        refine w_iload dX2_leastLoudness_22 0 rfl ?_
        refine w_iadd dX2_leastLoudness_24 (fun z7_ h8_ => ?_)
        refine w_iload_n dX2_leastLoudness_25 rfl 4 rfl ?_
        refine w_iconst (v := 0) dX2_leastLoudness_26 (by decide) ?_
        refine w_callV (as := [vI v, vI u, vI z7_, vI t, vI 0]) (rest := []) (c_X2_hears l G cy ad d b v u z7_ t 0 M_3 hI_3 hb) kV_X2_hears (by decide +kernel) (Nat.le_of_ble_eq_true rfl) m_956 rfl rfl rfl (ic_2 hb) rfl rfl (by decide) (Nat.le_of_ble_eq_true rfl) dX2_leastLoudness_27 (fun r9_ M10_ q11_ => ?_)
        obtain ⟨hI13_, hF14_, h12_, hs16_⟩ := q11_
        have hF15_ := hF_3.tr hF14_ (fun c k => (fun h => h.elim (fun h => (Or.inl ⟨h.1, h.2.1, h.2.2⟩)) (fun h => h.elim (fun h => (Or.inr (Or.inl ⟨h.1, h.2.1, h.2.2⟩))) (fun h => h.elim (fun h => (Or.inr (Or.inr (Or.inl ⟨h.1, h.2.1, h.2.2⟩)))) (fun h => h.elim (fun h => (Or.inr (Or.inr (Or.inr (Or.inl ⟨h.1, h.2.1, h.2.2⟩))))) (fun h => h.elim (fun h => (Or.inr (Or.inr (Or.inr (Or.inr (Or.inl ⟨h.1, h.2.1, h.2.2⟩)))))) (fun h => h.elim (fun h => (Or.inr (Or.inr (Or.inr (Or.inr (Or.inr (Or.inl ⟨h.1, h.2.1, h.2.2⟩))))))) (fun h => h.elim))))))))
        refine w_if_eq (tgt := 36) dX2_leastLoudness_30 (by decide) (rfl : r9_.toInt = r9_.toInt) (fun h17_ => ?_) (fun h17_ => ?_)
        · refine w_iincB (j := 0) (f := fun z18_ => [(4, vI z18_), (0, vR (2, b, 0)), (1, vI v), (2, vI u), (3, vI t)]) dX2_leastLoudness_36 rfl (by decide) (fun _ => rfl) (rfl : v4_3.toInt = v4_3.toInt) li_1 (lf_c_X2_leastLoudness_0 v4_3 hv0_3 hv1_3 h2_) (fun z18_ h19_ => ?_)
          refine w_goto (tgt := 3) dX2_leastLoudness_39 (by decide) ?_
          refine w_loc (ls' := [(4, vI z18_), (0, vR (2, b, 0)), (1, vI v), (2, vI u), (3, vI t)]) [0, 1, 2, 3, 4] rfl ?_
          exact ih_3 M10_ hI13_ hF15_ z18_ (lf_c_X2_leastLoudness_1 v4_3 z18_ hv0_3 hv1_3 h2_ h19_) (lf_c_X2_leastLoudness_2 v4_3 z18_ hv0_3 hv1_3 h2_ h19_) (RCH.tail hL_3 ⟨hv0_3, hv1_3, hI_3, hF_3, h2_, z3_, h4_, z5_, h6_, z7_, h8_, M10_, hI13_, hF14_, r9_, hs16_, h12_, h17_, z18_, h19_, rfl, rfl⟩) (Nat.lt_of_lt_of_le (lf_c_X2_leastLoudness_3 v4_3 z18_ hv0_3 hv1_3 h2_ h19_) (Nat.le_of_lt_succ hm_3))
        · refine w_iload dX2_leastLoudness_33 0 rfl ?_
          exact w_iret rfl dX2_leastLoudness_35 ⟨hI13_, hF15_, trivial, ⟨v4_3, hv0_3, hv1_3, M_3, hL_3, hI_3, hF_3, (Or.inr ⟨h2_, z3_, h4_, z5_, h6_, z7_, h8_, M10_, hI13_, hF14_, r9_, hs16_, h12_, h17_, rfl, rfl⟩)⟩⟩
  exact lp1_ _ Mz hIz hFz 1 (lf_c_X2_leastLoudness_4 ) (lf_c_X2_leastLoudness_5 ) RCH.refl (Nat.lt_succ_self _)
def S_c_X2_takeFrom (b : Nat) (b2 : Nat) : rf → Nat → Prop := fun c k => (c.1 = 2 ∧ c.2.1 = b ∧ k = 0) ∨ (c.1 = 2 ∧ c.2.1 = b ∧ k = 1) ∨ (c.1 = 2 ∧ c.2.1 = b ∧ k = 2) ∨ (c.1 = 26 ∧ c.2.1 = b) ∨ (c.1 = 27 ∧ c.2.1 = b) ∨ (c.1 = 1 ∧ c.2.1 = b ∧ k = 2) ∨ (c.1 = 24 ∧ c.2.1 = b) ∨ False
def ST_X2_takeFrom_54 (b : Nat) (b2 : Nat) (Mz : mM) (v2_54 : Int32) (M_54 : mM) (v2_54y : Int32) (M_54y : mM) : Prop := (0 ≤ v2_54.toInt) ∧ (v2_54.toInt ≤ 3) ∧ (Inv M_54) ∧ (FR (S_c_X2_takeFrom b b2) Mz M_54) ∧ (v2_54.toInt < 3) ∧ ∃ j29_ : Nat, ((j29_ : Int) = v2_54.toInt) ∧ (j29_ < 3) ∧ (vF b j29_) ∧ ∃ j33_ : Nat, ((j33_ : Int) = v2_54.toInt) ∧ (j33_ < 3) ∧ (vF b2 j33_) ∧ ∃ M37_ : mM, (Inv M37_) ∧ (FR (S_c_X1_takeFrom b j29_ b2 j33_) M_54 M37_) ∧ (SP_X1_takeFrom b j29_ b2 j33_ M_54 M37_) ∧ ∃ z44_ : Int32, (z44_.toInt = v2_54.toInt + 1) ∧ v2_54y = z44_ ∧ M_54y = M37_
def SP_X2_takeFrom (b : Nat) (b2 : Nat) (Mz : mM) (M_ : mM) : Prop := ∃ z1_ : Int32, (z1_ = Mz.1 (2, b2, 0) 0) ∧ ∃ M3_ : mM, (M3_ = up Mz (2, b, 0) 0 z1_) ∧ ∃ z7_ : Int32, (z7_ = M3_.1 (2, b2, 0) 1) ∧ ∃ M9_ : mM, (M9_ = up M3_ (2, b, 0) 1 z7_) ∧ ∃ z13_ : Int32, (z13_ = M9_.1 (2, b2, 0) 2) ∧ ∃ M15_ : mM, (M15_ = up M9_ (2, b, 0) 2 z13_) ∧ ∃ M19_ : mM, (M19_ = cp M15_ (26, b2, 0) (26, b, 0) (0 : Int32).toNatClampNeg (0 : Int32).toNatClampNeg (5 : Int32).toNatClampNeg) ∧ ∃ M23_ : mM, (M23_ = cp M19_ (27, b2, 0) (27, b, 0) (0 : Int32).toNatClampNeg (0 : Int32).toNatClampNeg (5 : Int32).toNatClampNeg) ∧ ∃ v2_54 : Int32, (0 ≤ v2_54.toInt) ∧ (v2_54.toInt ≤ 3) ∧ ∃ M_54 : mM, (RCH (fun x_ y_ => ST_X2_takeFrom_54 b b2 Mz x_.1 x_.2 y_.1 y_.2) ((0 : Int32), M23_) (v2_54, M_54)) ∧ (Inv M_54) ∧ (FR (S_c_X2_takeFrom b b2) Mz M_54) ∧ (3 ≤ v2_54.toInt) ∧ M_ = M_54
theorem lf_c_X2_takeFrom_0  (v2_54 : Int32) (hv0_54 : 0 ≤ v2_54.toInt) (hv1_54 : v2_54.toInt ≤ 3) (h28_ : v2_54.toInt < 3) : 0 ≤ v2_54.toInt ∧ v2_54.toInt < ((3 : Nat) : Int) := by have r_v2_54 := rngI v2_54; omega
theorem lf_c_X2_takeFrom_1 (M15_ : mM) (M19_ : mM) (M23_ : mM) (M3_ : mM) (M9_ : mM) (Mz : mM) (b : Nat) (b2 : Nat) (z1_ : Int32) (z7_ : Int32) (z13_ : Int32) (v2_54 : Int32) (j29_ : Nat) (hb : b < 3) (hb2 : b2 < 3) (e2_ : z1_ = Mz.1 (2, b2, 0) 0) (hM4_ : M3_ = up Mz (2, b, 0) 0 z1_) (e8_ : z7_ = M3_.1 (2, b2, 0) 1) (hM10_ : M9_ = up M3_ (2, b, 0) 1 z7_) (e14_ : z13_ = M9_.1 (2, b2, 0) 2) (hM16_ : M15_ = up M9_ (2, b, 0) 2 z13_) (hM20_ : M19_ = cp M15_ (26, b2, 0) (26, b, 0) (0 : Int32).toNatClampNeg (0 : Int32).toNatClampNeg (5 : Int32).toNatClampNeg) (hM24_ : M23_ = cp M19_ (27, b2, 0) (27, b, 0) (0 : Int32).toNatClampNeg (0 : Int32).toNatClampNeg (5 : Int32).toNatClampNeg) (hv0_54 : 0 ≤ v2_54.toInt) (hv1_54 : v2_54.toInt ≤ 3) (h28_ : v2_54.toInt < 3) (h30_ : (j29_ : Int) = v2_54.toInt) (h31_ : j29_ < 3) (h32_ : vF b j29_) : 0 ≤ v2_54.toInt ∧ v2_54.toInt < ((3 : Nat) : Int) := by have r_z1_ := rngI z1_; have r_z7_ := rngI z7_; have r_z13_ := rngI z13_; have r_v2_54 := rngI v2_54; subst e2_; subst e8_; subst e14_; omega
theorem lf_c_X2_takeFrom_2 (M15_ : mM) (M19_ : mM) (M23_ : mM) (M3_ : mM) (M9_ : mM) (Mz : mM) (b : Nat) (b2 : Nat) (z1_ : Int32) (z7_ : Int32) (z13_ : Int32) (v2_54 : Int32) (j29_ : Nat) (j33_ : Nat) (hb : b < 3) (hb2 : b2 < 3) (e2_ : z1_ = Mz.1 (2, b2, 0) 0) (hM4_ : M3_ = up Mz (2, b, 0) 0 z1_) (e8_ : z7_ = M3_.1 (2, b2, 0) 1) (hM10_ : M9_ = up M3_ (2, b, 0) 1 z7_) (e14_ : z13_ = M9_.1 (2, b2, 0) 2) (hM16_ : M15_ = up M9_ (2, b, 0) 2 z13_) (hM20_ : M19_ = cp M15_ (26, b2, 0) (26, b, 0) (0 : Int32).toNatClampNeg (0 : Int32).toNatClampNeg (5 : Int32).toNatClampNeg) (hM24_ : M23_ = cp M19_ (27, b2, 0) (27, b, 0) (0 : Int32).toNatClampNeg (0 : Int32).toNatClampNeg (5 : Int32).toNatClampNeg) (hv0_54 : 0 ≤ v2_54.toInt) (hv1_54 : v2_54.toInt ≤ 3) (h28_ : v2_54.toInt < 3) (h30_ : (j29_ : Int) = v2_54.toInt) (h31_ : j29_ < 3) (h32_ : vF b j29_) (h34_ : (j33_ : Int) = v2_54.toInt) (h35_ : j33_ < 3) (h36_ : vF b2 j33_) : -2147483648 ≤ v2_54.toInt + 1 ∧ v2_54.toInt + 1 < 2147483648 := by have r_z1_ := rngI z1_; have r_z7_ := rngI z7_; have r_z13_ := rngI z13_; have r_v2_54 := rngI v2_54; subst e2_; subst e8_; subst e14_; omega
theorem lf_c_X2_takeFrom_3 (M15_ : mM) (M19_ : mM) (M23_ : mM) (M3_ : mM) (M9_ : mM) (Mz : mM) (b : Nat) (b2 : Nat) (z1_ : Int32) (z7_ : Int32) (z13_ : Int32) (v2_54 : Int32) (j29_ : Nat) (j33_ : Nat) (z44_ : Int32) (hb : b < 3) (hb2 : b2 < 3) (e2_ : z1_ = Mz.1 (2, b2, 0) 0) (hM4_ : M3_ = up Mz (2, b, 0) 0 z1_) (e8_ : z7_ = M3_.1 (2, b2, 0) 1) (hM10_ : M9_ = up M3_ (2, b, 0) 1 z7_) (e14_ : z13_ = M9_.1 (2, b2, 0) 2) (hM16_ : M15_ = up M9_ (2, b, 0) 2 z13_) (hM20_ : M19_ = cp M15_ (26, b2, 0) (26, b, 0) (0 : Int32).toNatClampNeg (0 : Int32).toNatClampNeg (5 : Int32).toNatClampNeg) (hM24_ : M23_ = cp M19_ (27, b2, 0) (27, b, 0) (0 : Int32).toNatClampNeg (0 : Int32).toNatClampNeg (5 : Int32).toNatClampNeg) (hv0_54 : 0 ≤ v2_54.toInt) (hv1_54 : v2_54.toInt ≤ 3) (h28_ : v2_54.toInt < 3) (h30_ : (j29_ : Int) = v2_54.toInt) (h31_ : j29_ < 3) (h32_ : vF b j29_) (h34_ : (j33_ : Int) = v2_54.toInt) (h35_ : j33_ < 3) (h36_ : vF b2 j33_) (h45_ : z44_.toInt = v2_54.toInt + 1) : 0 ≤ z44_.toInt := by have r_z1_ := rngI z1_; have r_z7_ := rngI z7_; have r_z13_ := rngI z13_; have r_v2_54 := rngI v2_54; have r_z44_ := rngI z44_; omega
theorem lf_c_X2_takeFrom_4 (M15_ : mM) (M19_ : mM) (M23_ : mM) (M3_ : mM) (M9_ : mM) (Mz : mM) (b : Nat) (b2 : Nat) (z1_ : Int32) (z7_ : Int32) (z13_ : Int32) (v2_54 : Int32) (j29_ : Nat) (j33_ : Nat) (z44_ : Int32) (hb : b < 3) (hb2 : b2 < 3) (e2_ : z1_ = Mz.1 (2, b2, 0) 0) (hM4_ : M3_ = up Mz (2, b, 0) 0 z1_) (e8_ : z7_ = M3_.1 (2, b2, 0) 1) (hM10_ : M9_ = up M3_ (2, b, 0) 1 z7_) (e14_ : z13_ = M9_.1 (2, b2, 0) 2) (hM16_ : M15_ = up M9_ (2, b, 0) 2 z13_) (hM20_ : M19_ = cp M15_ (26, b2, 0) (26, b, 0) (0 : Int32).toNatClampNeg (0 : Int32).toNatClampNeg (5 : Int32).toNatClampNeg) (hM24_ : M23_ = cp M19_ (27, b2, 0) (27, b, 0) (0 : Int32).toNatClampNeg (0 : Int32).toNatClampNeg (5 : Int32).toNatClampNeg) (hv0_54 : 0 ≤ v2_54.toInt) (hv1_54 : v2_54.toInt ≤ 3) (h28_ : v2_54.toInt < 3) (h30_ : (j29_ : Int) = v2_54.toInt) (h31_ : j29_ < 3) (h32_ : vF b j29_) (h34_ : (j33_ : Int) = v2_54.toInt) (h35_ : j33_ < 3) (h36_ : vF b2 j33_) (h45_ : z44_.toInt = v2_54.toInt + 1) : z44_.toInt ≤ 3 := by have r_z1_ := rngI z1_; have r_z7_ := rngI z7_; have r_z13_ := rngI z13_; have r_v2_54 := rngI v2_54; have r_z44_ := rngI z44_; omega
theorem lf_c_X2_takeFrom_5 (M15_ : mM) (M19_ : mM) (M23_ : mM) (M3_ : mM) (M9_ : mM) (Mz : mM) (b : Nat) (b2 : Nat) (z1_ : Int32) (z7_ : Int32) (z13_ : Int32) (v2_54 : Int32) (j29_ : Nat) (j33_ : Nat) (z44_ : Int32) (hb : b < 3) (hb2 : b2 < 3) (e2_ : z1_ = Mz.1 (2, b2, 0) 0) (hM4_ : M3_ = up Mz (2, b, 0) 0 z1_) (e8_ : z7_ = M3_.1 (2, b2, 0) 1) (hM10_ : M9_ = up M3_ (2, b, 0) 1 z7_) (e14_ : z13_ = M9_.1 (2, b2, 0) 2) (hM16_ : M15_ = up M9_ (2, b, 0) 2 z13_) (hM20_ : M19_ = cp M15_ (26, b2, 0) (26, b, 0) (0 : Int32).toNatClampNeg (0 : Int32).toNatClampNeg (5 : Int32).toNatClampNeg) (hM24_ : M23_ = cp M19_ (27, b2, 0) (27, b, 0) (0 : Int32).toNatClampNeg (0 : Int32).toNatClampNeg (5 : Int32).toNatClampNeg) (hv0_54 : 0 ≤ v2_54.toInt) (hv1_54 : v2_54.toInt ≤ 3) (h28_ : v2_54.toInt < 3) (h30_ : (j29_ : Int) = v2_54.toInt) (h31_ : j29_ < 3) (h32_ : vF b j29_) (h34_ : (j33_ : Int) = v2_54.toInt) (h35_ : j33_ < 3) (h36_ : vF b2 j33_) (h45_ : z44_.toInt = v2_54.toInt + 1) : (2147483648 - z44_.toInt).toNat < (2147483648 - v2_54.toInt).toNat := by have r_z1_ := rngI z1_; have r_z7_ := rngI z7_; have r_z13_ := rngI z13_; have r_v2_54 := rngI v2_54; have r_z44_ := rngI z44_; omega
theorem lf_c_X2_takeFrom_6    : 0 ≤ (0 : Int32).toInt := by have q0 := li_0; omega
theorem lf_c_X2_takeFrom_7    : (0 : Int32).toInt ≤ 3 := by have q0 := li_0; omega
set_option maxHeartbeats 4000000 in
set_option maxRecDepth 100000 in
theorem c_X2_takeFrom (l : Launch) (G : va_G) (cy : Nat → ClassId) (ad : rf → Nat) (d : Nat) (b : Nat) (b2 : Nat) (Mz : mM) (hIz : Inv Mz) (hb : b < 3) (hb2 : b2 < 3) : WP CC l G cy ad yX2_takeFrom cX2_takeFrom 3 none (d + 2) 0 [(0, vR (2, b, 0)), (1, vR (2, b2, 0))] [] Mz (fun r M' => Inv M' ∧ FR (S_c_X2_takeFrom b b2) Mz M' ∧ (True) ∧ SP_X2_takeFrom b b2 Mz M') := by
  have hFz : FR (S_c_X2_takeFrom b b2) Mz Mz := FR.self
  refine w_aload_n dX2_takeFrom_0 rfl 0 rfl ?_
  refine w_aload_n dX2_takeFrom_1 rfl 1 rfl ?_
  refine w_getI fl_RX2_7 rfl rfl (ic_2 hb2) dX2_takeFrom_2 (fun z1_ e2_ => ?_)
  refine w_putI CC_nd fl_RX2_7 rfl rfl (ic_2 hb) dX2_takeFrom_5 (fun M3_ hM4_ => ?_)
  have hI5_ := hIz.put hM4_ trivial
  have hF6_ := hFz.put hM4_ (Or.inl ⟨rfl, rfl, rfl⟩)
  refine w_aload_n dX2_takeFrom_8 rfl 0 rfl ?_
  refine w_aload_n dX2_takeFrom_9 rfl 1 rfl ?_
  refine w_getI fl_RX2_13 rfl rfl (ic_2 hb2) dX2_takeFrom_10 (fun z7_ e8_ => ?_)
  refine w_putI CC_nd fl_RX2_13 rfl rfl (ic_2 hb) dX2_takeFrom_13 (fun M9_ hM10_ => ?_)
  have hI11_ := hI5_.put hM10_ trivial
  have hF12_ := hF6_.put hM10_ (Or.inr (Or.inl ⟨rfl, rfl, rfl⟩))
  refine w_aload_n dX2_takeFrom_16 rfl 0 rfl ?_
  refine w_aload_n dX2_takeFrom_17 rfl 1 rfl ?_
  refine w_getI fl_RX2_16 rfl rfl (ic_2 hb2) dX2_takeFrom_18 (fun z13_ e14_ => ?_)
  refine w_putI CC_nd fl_RX2_16 rfl rfl (ic_2 hb) dX2_takeFrom_21 (fun M15_ hM16_ => ?_)
  have hI17_ := hI11_.put hM16_ trivial
  have hF18_ := hF12_.put hM16_ (Or.inr (Or.inr (Or.inl ⟨rfl, rfl, rfl⟩)))
  refine w_aload_n dX2_takeFrom_24 rfl 1 rfl ?_
  refine w_getR (c' := (26, b2, 0)) fl_RX2_21 rfl rfl (ic_2 hb2) dX2_takeFrom_25 rfl ?_
  refine w_iconst (v := 0) dX2_takeFrom_28 (by decide) ?_
  refine w_aload_n dX2_takeFrom_29 rfl 0 rfl ?_
  refine w_getR (c' := (26, b, 0)) fl_RX2_21 rfl rfl (ic_2 hb) dX2_takeFrom_30 rfl ?_
  refine w_iconst (v := 0) dX2_takeFrom_33 (by decide) ?_
  refine w_iconst (v := 5) dX2_takeFrom_34 (by decide) ?_
  refine w_copy CC_nd rfl rfl (ic_26 hb2) rfl rfl (ic_26 hb) m_1267 m_830 m_829 m_98 li_0 li_0 li_5 (by decide) rfl (by omega) dX2_takeFrom_35 (fun M19_ hM20_ => ?_)
  have hI21_ := hI17_.cpy hM20_ (fun _ _ => trivial)
  have hF22_ := hF18_.cpy hM20_ (fun _ => (Or.inr (Or.inr (Or.inr (Or.inl ⟨rfl, rfl⟩)))))
  refine w_aload_n dX2_takeFrom_38 rfl 1 rfl ?_
  refine w_getR (c' := (27, b2, 0)) fl_RX2_25 rfl rfl (ic_2 hb2) dX2_takeFrom_39 rfl ?_
  refine w_iconst (v := 0) dX2_takeFrom_42 (by decide) ?_
  refine w_aload_n dX2_takeFrom_43 rfl 0 rfl ?_
  refine w_getR (c' := (27, b, 0)) fl_RX2_25 rfl rfl (ic_2 hb) dX2_takeFrom_44 rfl ?_
  refine w_iconst (v := 0) dX2_takeFrom_47 (by decide) ?_
  refine w_iconst (v := 5) dX2_takeFrom_48 (by decide) ?_
  refine w_copy CC_nd rfl rfl (ic_27 hb2) rfl rfl (ic_27 hb) m_1267 m_830 m_829 m_98 li_0 li_0 li_5 (by decide) rfl (by omega) dX2_takeFrom_49 (fun M23_ hM24_ => ?_)
  have hI25_ := hI21_.cpy hM24_ (fun _ _ => trivial)
  have hF26_ := hF22_.cpy hM24_ (fun _ => (Or.inr (Or.inr (Or.inr (Or.inr (Or.inl ⟨rfl, rfl⟩))))))
  refine w_iconst (v := 0) dX2_takeFrom_52 (by decide) ?_
  refine w_istore_n (ls' := [(2, vI 0), (0, vR (2, b, 0)), (1, vR (2, b2, 0))]) dX2_takeFrom_53 rfl (by decide) rfl ?_
  have lp27_ : ∀ (nn_54 : Nat) (M_54 : mM) (hI_54 : Inv M_54) (hF_54 : FR (S_c_X2_takeFrom b b2) Mz M_54) (v2_54 : Int32) (hv0_54 : 0 ≤ v2_54.toInt) (hv1_54 : v2_54.toInt ≤ 3) (hL_54 : RCH (fun x_ y_ => ST_X2_takeFrom_54 b b2 Mz x_.1 x_.2 y_.1 y_.2) ((0 : Int32), M23_) (v2_54, M_54)), (2147483648 - v2_54.toInt).toNat < nn_54 → WP CC l G cy ad yX2_takeFrom cX2_takeFrom 3 none (d + 2) 54 [(2, vI v2_54), (0, vR (2, b, 0)), (1, vR (2, b2, 0))] [] M_54 (fun r M' => Inv M' ∧ FR (S_c_X2_takeFrom b b2) Mz M' ∧ (True) ∧ SP_X2_takeFrom b b2 Mz M') := by
    intro nn_54
    induction nn_54 with
    | zero => intro M_54 hI_54 hF_54 v2_54 hv0_54 hv1_54 hL_54 hm_54; exact absurd hm_54 (Nat.not_lt_zero _)
    | succ nn_54 ih_54 =>
      intro M_54 hI_54 hF_54 v2_54 hv0_54 hv1_54 hL_54 hm_54
      refine w_iload_n dX2_takeFrom_54 rfl 0 rfl ?_
      refine w_iconst (v := 3) dX2_takeFrom_55 (by decide) ?_
      refine w_icmp_ge (tgt := 80) dX2_takeFrom_56 (by decide) (rfl : v2_54.toInt = v2_54.toInt) li_3 (fun h28_ => ?_) (fun h28_ => ?_)
      · exact w_vret rfl dX2_takeFrom_80 ⟨hI_54, hF_54, trivial, ⟨z1_, e2_, M3_, hM4_, z7_, e8_, M9_, hM10_, z13_, e14_, M15_, hM16_, M19_, hM20_, M23_, hM24_, v2_54, hv0_54, hv1_54, M_54, hL_54, hI_54, hF_54, h28_, rfl⟩⟩
      · refine w_aload_n dX2_takeFrom_59 rfl 1 rfl ?_
        refine w_getR (c' := (28, b, 0)) fl_RX2_30 rfl rfl (ic_2 hb) dX2_takeFrom_60 rfl ?_
        refine w_iload_n dX2_takeFrom_63 rfl 0 rfl ?_
        refine w_aald rfl rfl rfl (fun _ => rfl) (ic_28 hb) (rfl : v2_54.toInt = v2_54.toInt) (lf_c_X2_takeFrom_0 v2_54 hv0_54 hv1_54 h28_) dX2_takeFrom_64 (fun j29_ h30_ h31_ => ?_)
        have h32_ : vF b j29_ := Or.inl ⟨hb, h31_⟩
        refine w_aload_n dX2_takeFrom_65 rfl 2 rfl ?_
        refine w_getR (c' := (28, b2, 0)) fl_RX2_30 rfl rfl (ic_2 hb2) dX2_takeFrom_66 rfl ?_
        refine w_iload_n dX2_takeFrom_69 rfl 0 rfl ?_
        refine w_aald rfl rfl rfl (fun _ => rfl) (ic_28 hb2) (rfl : v2_54.toInt = v2_54.toInt) (lf_c_X2_takeFrom_1 M15_ M19_ M23_ M3_ M9_ Mz b b2 z1_ z7_ z13_ v2_54 j29_ hb hb2 e2_ hM4_ e8_ hM10_ e14_ hM16_ hM20_ hM24_ hv0_54 hv1_54 h28_ h30_ h31_ h32_) dX2_takeFrom_70 (fun j33_ h34_ h35_ => ?_)
        have h36_ : vF b2 j33_ := Or.inl ⟨hb2, h35_⟩
        refine w_callVv (as := [vR (1, b2, j33_)]) (rest := []) (c_X1_takeFrom l G cy ad d b j29_ b2 j33_ M_54 hI_54 h32_ h36_) kV_X1_takeFrom (by decide +kernel) (Nat.le_of_ble_eq_true rfl) m_1268 rfl rfl rfl (ic_1 h32_) rfl rfl (by decide) (Nat.le_of_ble_eq_true rfl) dX2_takeFrom_71 (fun M37_ q38_ => ?_)
        obtain ⟨hI40_, hF41_, h39_, hs43_⟩ := q38_
        have hF42_ := hF_54.tr hF41_ (fun c k => (fun h => h.elim (fun h => (Or.inr (Or.inr (Or.inr (Or.inr (Or.inr (Or.inl ⟨h.1, h.2.1, h.2.2.2⟩))))))) (fun h => h.elim (fun h => (Or.inr (Or.inr (Or.inr (Or.inr (Or.inr (Or.inr (Or.inl ⟨h.1, h.2.1⟩)))))))) (fun h => h.elim))))
        refine w_iincB (j := 0) (f := fun z44_ => [(2, vI z44_), (0, vR (2, b, 0)), (1, vR (2, b2, 0))]) dX2_takeFrom_74 rfl (by decide) (fun _ => rfl) (rfl : v2_54.toInt = v2_54.toInt) li_1 (lf_c_X2_takeFrom_2 M15_ M19_ M23_ M3_ M9_ Mz b b2 z1_ z7_ z13_ v2_54 j29_ j33_ hb hb2 e2_ hM4_ e8_ hM10_ e14_ hM16_ hM20_ hM24_ hv0_54 hv1_54 h28_ h30_ h31_ h32_ h34_ h35_ h36_) (fun z44_ h45_ => ?_)
        refine w_goto (tgt := 54) dX2_takeFrom_77 (by decide) ?_
        refine w_loc (ls' := [(2, vI z44_), (0, vR (2, b, 0)), (1, vR (2, b2, 0))]) [0, 1, 2] rfl ?_
        exact ih_54 M37_ hI40_ hF42_ z44_ (lf_c_X2_takeFrom_3 M15_ M19_ M23_ M3_ M9_ Mz b b2 z1_ z7_ z13_ v2_54 j29_ j33_ z44_ hb hb2 e2_ hM4_ e8_ hM10_ e14_ hM16_ hM20_ hM24_ hv0_54 hv1_54 h28_ h30_ h31_ h32_ h34_ h35_ h36_ h45_) (lf_c_X2_takeFrom_4 M15_ M19_ M23_ M3_ M9_ Mz b b2 z1_ z7_ z13_ v2_54 j29_ j33_ z44_ hb hb2 e2_ hM4_ e8_ hM10_ e14_ hM16_ hM20_ hM24_ hv0_54 hv1_54 h28_ h30_ h31_ h32_ h34_ h35_ h36_ h45_) (RCH.tail hL_54 ⟨hv0_54, hv1_54, hI_54, hF_54, h28_, j29_, h30_, h31_, h32_, j33_, h34_, h35_, h36_, M37_, hI40_, hF41_, hs43_, z44_, h45_, rfl, rfl⟩) (Nat.lt_of_lt_of_le (lf_c_X2_takeFrom_5 M15_ M19_ M23_ M3_ M9_ Mz b b2 z1_ z7_ z13_ v2_54 j29_ j33_ z44_ hb hb2 e2_ hM4_ e8_ hM10_ e14_ hM16_ hM20_ hM24_ hv0_54 hv1_54 h28_ h30_ h31_ h32_ h34_ h35_ h36_ h45_) (Nat.le_of_lt_succ hm_54))
  exact lp27_ _ M23_ hI25_ hF26_ 0 (lf_c_X2_takeFrom_6 ) (lf_c_X2_takeFrom_7 ) RCH.refl (Nat.lt_succ_self _)
def SP_X3_hasRoom (b : Nat) (Mz : mM) (r_ : Int32) : Prop := ∃ z1_ : Int32, (z1_ = Mz.1 (3, b, 0) 3) ∧ (((7 ≤ z1_.toInt) ∧ r_ = 0) ∨ ((z1_.toInt < 7) ∧ r_ = 1))
set_option maxHeartbeats 4000000 in
set_option maxRecDepth 100000 in
theorem c_X3_hasRoom (l : Launch) (G : va_G) (cy : Nat → ClassId) (ad : rf → Nat) (d : Nat) (b : Nat) (Mz : mM) (hIz : Inv Mz) (hb : b < 3) : WP CC l G cy ad yX3_hasRoom cX3_hasRoom 1 (some .boolean) d 0 [(0, vR (3, b, 0))] [] Mz (fun r M' => Mz = M' ∧ ((0 ≤ r.toInt ∧ r.toInt ≤ 1)) ∧ SP_X3_hasRoom b Mz r) := by
  refine w_aload_n dX3_hasRoom_0 rfl 0 rfl ?_
  refine w_getI fl_RX3_19 rfl rfl (ic_3 hb) dX3_hasRoom_1 (fun z1_ e2_ => ?_)
  refine w_bipush (v := 7) dX3_hasRoom_4 (by decide) ?_
  refine w_icmp_ge (tgt := 13) dX3_hasRoom_6 (by decide) (rfl : z1_.toInt = z1_.toInt) li_7 (fun h3_ => ?_) (fun h3_ => ?_)
  · refine w_iconst (v := 0) dX3_hasRoom_13 (by decide) ?_
    exact w_zret rfl dX3_hasRoom_14 ⟨by decide, by decide⟩ ⟨rfl, ⟨by decide, by decide⟩, ⟨z1_, e2_, (Or.inl ⟨h3_, rfl⟩)⟩⟩
  · refine w_iconst (v := 1) dX3_hasRoom_9 (by decide) ?_
    refine w_goto (tgt := 14) dX3_hasRoom_10 (by decide) ?_
    exact w_zret rfl dX3_hasRoom_14 ⟨by decide, by decide⟩ ⟨rfl, ⟨by decide, by decide⟩, ⟨z1_, e2_, (Or.inr ⟨h3_, rfl⟩)⟩⟩
def S_c_X3_add (b : Nat) : rf → Nat → Prop := fun c k => (c.1 = 30 ∧ c.2.1 = b) ∨ (c.1 = 31 ∧ c.2.1 = b) ∨ (c.1 = 32 ∧ c.2.1 = b) ∨ (c.1 = 3 ∧ c.2.1 = b ∧ k = 3) ∨ False
def SP_X3_add (b : Nat) (v : Int32) (u : Int32) (t : Int32) (Mz : mM) (r_ : Int32) (M_ : mM) : Prop := ∃ z1_ : Int32, (z1_ = Mz.1 (3, b, 0) 3) ∧ (((z1_.toInt < 0) ∧ r_ = (-1) ∧ M_ = Mz) ∨ ((0 ≤ z1_.toInt) ∧ (((z1_.toInt < 7) ∧ ∃ j7_ : Nat, ((j7_ : Int) = z1_.toInt) ∧ ∃ M5_ : mM, (M5_ = up Mz (30, b, 0) j7_ v) ∧ ∃ j13_ : Nat, ((j13_ : Int) = z1_.toInt) ∧ ∃ M11_ : mM, (M11_ = up M5_ (31, b, 0) j13_ u) ∧ ∃ j19_ : Nat, ((j19_ : Int) = z1_.toInt) ∧ ∃ M17_ : mM, (M17_ = up M11_ (32, b, 0) j19_ t) ∧ ∃ z23_ : Int32, (z23_ = M17_.1 (3, b, 0) 3) ∧ ∃ z25_ : Int32, (z25_ = z23_ + (1 : Int32)) ∧ ∃ M27_ : mM, (M27_ = up M17_ (3, b, 0) 3 z25_) ∧ r_ = z1_ ∧ M_ = M27_) ∨ ((7 ≤ z1_.toInt) ∧ r_ = (-1) ∧ M_ = Mz))))
theorem lf_c_X3_add_0 (Mz : mM) (b : Nat) (z1_ : Int32) (hb : b < 3) (e2_ : z1_ = Mz.1 (3, b, 0) 3) (h3_ : 0 ≤ z1_.toInt) (h4_ : z1_.toInt < 7) : 0 ≤ z1_.toInt ∧ z1_.toInt < ((7 : Nat) : Int) := by have r_z1_ := rngI z1_; subst e2_; omega
theorem lf_c_X3_add_1 (M5_ : mM) (Mz : mM) (b : Nat) (v : Int32) (z1_ : Int32) (j7_ : Nat) (hb : b < 3) (e2_ : z1_ = Mz.1 (3, b, 0) 3) (h3_ : 0 ≤ z1_.toInt) (h4_ : z1_.toInt < 7) (h8_ : (j7_ : Int) = z1_.toInt) (hM6_ : M5_ = up Mz (30, b, 0) j7_ v) : 0 ≤ z1_.toInt ∧ z1_.toInt < ((7 : Nat) : Int) := by have r_v := rngI v; have r_z1_ := rngI z1_; subst e2_; omega
theorem lf_c_X3_add_2 (M11_ : mM) (M5_ : mM) (Mz : mM) (b : Nat) (v : Int32) (u : Int32) (z1_ : Int32) (j7_ : Nat) (j13_ : Nat) (hb : b < 3) (e2_ : z1_ = Mz.1 (3, b, 0) 3) (h3_ : 0 ≤ z1_.toInt) (h4_ : z1_.toInt < 7) (h8_ : (j7_ : Int) = z1_.toInt) (hM6_ : M5_ = up Mz (30, b, 0) j7_ v) (h14_ : (j13_ : Int) = z1_.toInt) (hM12_ : M11_ = up M5_ (31, b, 0) j13_ u) : 0 ≤ z1_.toInt ∧ z1_.toInt < ((7 : Nat) : Int) := by have r_v := rngI v; have r_u := rngI u; have r_z1_ := rngI z1_; subst e2_; omega
set_option maxHeartbeats 4000000 in
set_option maxRecDepth 100000 in
theorem c_X3_add (l : Launch) (G : va_G) (cy : Nat → ClassId) (ad : rf → Nat) (d : Nat) (b : Nat) (v : Int32) (u : Int32) (t : Int32) (Mz : mM) (hIz : Inv Mz) (hb : b < 3) : WP CC l G cy ad yX3_add cX3_add 5 (some .int) d 0 [(0, vR (3, b, 0)), (1, vI v), (2, vI u), (3, vI t)] [] Mz (fun r M' => Inv M' ∧ FR (S_c_X3_add b) Mz M' ∧ (True) ∧ SP_X3_add b v u t Mz r M') := by
  have hFz : FR (S_c_X3_add b) Mz Mz := FR.self
  refine w_aload_n dX3_add_0 rfl 0 rfl ?_
  refine w_getI fl_RX3_19 rfl rfl (ic_3 hb) dX3_add_1 (fun z1_ e2_ => ?_)
  refine w_istore (ls' := [(4, vI z1_), (0, vR (3, b, 0)), (1, vI v), (2, vI u), (3, vI t)]) dX3_add_4 (by decide) rfl ?_
  refine w_iload dX3_add_6 0 rfl ?_
  refine w_if_lt (tgt := 18) dX3_add_8 (by decide) (rfl : z1_.toInt = z1_.toInt) (fun h3_ => ?_) (fun h3_ => ?_)
  · refine w_iconst (v := (-1)) dX3_add_18 (by decide) ?_
    exact w_iret rfl dX3_add_19 ⟨hIz, hFz, trivial, ⟨z1_, e2_, (Or.inl ⟨h3_, rfl, rfl⟩)⟩⟩
  · refine w_iload dX3_add_11 0 rfl ?_
    refine w_bipush (v := 7) dX3_add_13 (by decide) ?_
    refine w_icmp_lt (tgt := 20) dX3_add_15 (by decide) (rfl : z1_.toInt = z1_.toInt) li_7 (fun h4_ => ?_) (fun h4_ => ?_)
    · refine w_aload_n dX3_add_20 rfl 1 rfl ?_
      refine w_getR (c' := (30, b, 0)) fl_RX3_9 rfl rfl (ic_3 hb) dX3_add_21 rfl ?_
      refine w_iload dX3_add_24 0 rfl ?_
      refine w_iload_n dX3_add_26 rfl 2 rfl ?_
      refine w_iast CC_nd rfl rfl (ic_30 hb) (rfl : z1_.toInt = z1_.toInt) (lf_c_X3_add_0 Mz b z1_ hb e2_ h3_ h4_) dX3_add_27 (fun j7_ h8_ M5_ hM6_ => ?_)
      have hI9_ := hIz.put hM6_ trivial
      have hF10_ := hFz.put hM6_ (Or.inl ⟨rfl, rfl⟩)
      refine w_aload_n dX3_add_28 rfl 1 rfl ?_
      refine w_getR (c' := (31, b, 0)) fl_RX3_13 rfl rfl (ic_3 hb) dX3_add_29 rfl ?_
      refine w_iload dX3_add_32 0 rfl ?_
      refine w_iload_n dX3_add_34 rfl 3 rfl ?_
      refine w_iast CC_nd rfl rfl (ic_31 hb) (rfl : z1_.toInt = z1_.toInt) (lf_c_X3_add_1 M5_ Mz b v z1_ j7_ hb e2_ h3_ h4_ h8_ hM6_) dX3_add_35 (fun j13_ h14_ M11_ hM12_ => ?_)
      have hI15_ := hI9_.put hM12_ trivial
      have hF16_ := hF10_.put hM12_ (Or.inr (Or.inl ⟨rfl, rfl⟩))
      refine w_aload_n dX3_add_36 rfl 1 rfl ?_
      refine w_getR (c' := (32, b, 0)) fl_RX3_16 rfl rfl (ic_3 hb) dX3_add_37 rfl ?_
      refine w_iload dX3_add_40 0 rfl ?_
      refine w_iload_n dX3_add_42 rfl 4 rfl ?_
      refine w_iast CC_nd rfl rfl (ic_32 hb) (rfl : z1_.toInt = z1_.toInt) (lf_c_X3_add_2 M11_ M5_ Mz b v u z1_ j7_ j13_ hb e2_ h3_ h4_ h8_ hM6_ h14_ hM12_) dX3_add_43 (fun j19_ h20_ M17_ hM18_ => ?_)
      have hI21_ := hI15_.put hM18_ trivial
      have hF22_ := hF16_.put hM18_ (Or.inr (Or.inr (Or.inl ⟨rfl, rfl⟩)))
      refine w_aload_n dX3_add_44 rfl 1 rfl ?_
      refine w_dup dX3_add_45 rfl ?_
      refine w_getI fl_RX3_19 rfl rfl (ic_3 hb) dX3_add_46 (fun z23_ e24_ => ?_)
      refine w_iconst (v := 1) dX3_add_49 (by decide) ?_
      refine w_iadd dX3_add_50 (fun z25_ h26_ => ?_)
      refine w_putI CC_nd fl_RX3_19 rfl rfl (ic_3 hb) dX3_add_51 (fun M27_ hM28_ => ?_)
      have hI29_ := hI21_.put hM28_ (fun h => absurd h (by decide))
      have hF30_ := hF22_.put hM28_ (Or.inr (Or.inr (Or.inr (Or.inl ⟨rfl, rfl, rfl⟩))))
      refine w_iload dX3_add_54 0 rfl ?_
      exact w_iret rfl dX3_add_56 ⟨hI29_, hF30_, trivial, ⟨z1_, e2_, (Or.inr ⟨h3_, (Or.inl ⟨h4_, j7_, h8_, M5_, hM6_, j13_, h14_, M11_, hM12_, j19_, h20_, M17_, hM18_, z23_, e24_, z25_, h26_, M27_, hM28_, rfl, rfl⟩)⟩)⟩⟩
    · refine w_iconst (v := (-1)) dX3_add_18 (by decide) ?_
      exact w_iret rfl dX3_add_19 ⟨hIz, hFz, trivial, ⟨z1_, e2_, (Or.inr ⟨h3_, (Or.inr ⟨h4_, rfl, rfl⟩)⟩)⟩⟩
def SP_X3_isBetter (b : Nat) (v : Int32) (Mz : mM) (r_ : Int32) : Prop := ∃ z1_ : Int32, (z1_ = Mz.1 (3, b, 0) 7) ∧ (((v.toInt < z1_.toInt) ∧ r_ = 1) ∨ ((z1_.toInt ≤ v.toInt) ∧ (((¬ v.toInt = z1_.toInt) ∧ r_ = 0) ∨ ((v.toInt = z1_.toInt) ∧ ∃ z7_ : Int32, (z7_ = Mz.1 (5, b, 2) 1) ∧ ∃ z9_ : Int32, (z9_ = Mz.1 (5, b, 3) 1) ∧ (((z9_.toInt ≤ z7_.toInt) ∧ r_ = 0) ∨ ((z7_.toInt < z9_.toInt) ∧ r_ = 1))))))
theorem lf_c_X3_isBetter_0 (Mz : mM) (b : Nat) (v : Int32) (z1_ : Int32) (hb : b < 3) (e2_ : z1_ = Mz.1 (3, b, 0) 7) (h3_ : z1_.toInt ≤ v.toInt) (h6_ : v.toInt = z1_.toInt) : vRw b 2 := by have r_v := rngI v; have r_z1_ := rngI z1_; unfold vRw; omega
theorem lf_c_X3_isBetter_1 (Mz : mM) (b : Nat) (v : Int32) (z1_ : Int32) (z7_ : Int32) (hb : b < 3) (e2_ : z1_ = Mz.1 (3, b, 0) 7) (h3_ : z1_.toInt ≤ v.toInt) (h6_ : v.toInt = z1_.toInt) (e8_ : z7_ = Mz.1 (5, b, 2) 1) : vRw b 3 := by have r_v := rngI v; have r_z1_ := rngI z1_; have r_z7_ := rngI z7_; unfold vRw; omega
set_option maxHeartbeats 4000000 in
set_option maxRecDepth 100000 in
theorem c_X3_isBetter (l : Launch) (G : va_G) (cy : Nat → ClassId) (ad : rf → Nat) (d : Nat) (b : Nat) (v : Int32) (Mz : mM) (hIz : Inv Mz) (hb : b < 3) : WP CC l G cy ad yX3_isBetter cX3_isBetter 2 (some .boolean) d 0 [(0, vR (3, b, 0)), (1, vI v)] [] Mz (fun r M' => Mz = M' ∧ ((0 ≤ r.toInt ∧ r.toInt ≤ 1)) ∧ SP_X3_isBetter b v Mz r) := by
  refine w_iload_n dX3_isBetter_0 rfl 1 rfl ?_
  refine w_aload_n dX3_isBetter_1 rfl 0 rfl ?_
  refine w_getI fl_RX3_38 rfl rfl (ic_3 hb) dX3_isBetter_2 (fun z1_ e2_ => ?_)
  refine w_icmp_lt (tgt := 33) dX3_isBetter_5 (by decide) (rfl : v.toInt = v.toInt) (rfl : z1_.toInt = z1_.toInt) (fun h3_ => ?_) (fun h3_ => ?_)
  · refine w_iconst (v := 1) dX3_isBetter_33 (by decide) ?_
    refine w_goto (tgt := 38) dX3_isBetter_34 (by decide) ?_
    exact w_zret rfl dX3_isBetter_38 ⟨by decide, by decide⟩ ⟨rfl, ⟨by decide, by decide⟩, ⟨z1_, e2_, (Or.inl ⟨h3_, rfl⟩)⟩⟩
  · refine w_iload_n dX3_isBetter_8 rfl 1 rfl ?_
    refine w_aload_n dX3_isBetter_9 rfl 0 rfl ?_
    refine w_getI fl_RX3_38 rfl rfl (ic_3 hb) dX3_isBetter_10 (fun z4_ e5_ => ?_)
    obtain rfl : z1_ = z4_ := e2_.trans e5_.symm
    refine w_icmp_ne (tgt := 37) dX3_isBetter_13 (by decide) (rfl : v.toInt = v.toInt) (rfl : z1_.toInt = z1_.toInt) (fun h6_ => ?_) (fun h6_ => ?_)
    · refine w_iconst (v := 0) dX3_isBetter_37 (by decide) ?_
      exact w_zret rfl dX3_isBetter_38 ⟨by decide, by decide⟩ ⟨rfl, ⟨by decide, by decide⟩, ⟨z1_, e2_, (Or.inr ⟨h3_, (Or.inl ⟨h6_, rfl⟩)⟩)⟩⟩
    · refine w_aload_n dX3_isBetter_16 rfl 0 rfl ?_
      refine w_getR (c' := (5, b, 2)) fl_RX3_28 rfl rfl (ic_3 hb) dX3_isBetter_17 rfl ?_
      refine w_getI fl_RX3_70 rfl rfl (ic_5 (lf_c_X3_isBetter_0 Mz b v z1_ hb e2_ h3_ h6_)) dX3_isBetter_20 (fun z7_ e8_ => ?_)
      refine w_aload_n dX3_isBetter_23 rfl 0 rfl ?_
      refine w_getR (c' := (5, b, 3)) fl_RX3_32 rfl rfl (ic_3 hb) dX3_isBetter_24 rfl ?_
      refine w_getI fl_RX3_70 rfl rfl (ic_5 (lf_c_X3_isBetter_1 Mz b v z1_ z7_ hb e2_ h3_ h6_ e8_)) dX3_isBetter_27 (fun z9_ e10_ => ?_)
      refine w_icmp_ge (tgt := 37) dX3_isBetter_30 (by decide) (rfl : z7_.toInt = z7_.toInt) (rfl : z9_.toInt = z9_.toInt) (fun h11_ => ?_) (fun h11_ => ?_)
      · refine w_iconst (v := 0) dX3_isBetter_37 (by decide) ?_
        exact w_zret rfl dX3_isBetter_38 ⟨by decide, by decide⟩ ⟨rfl, ⟨by decide, by decide⟩, ⟨z1_, e2_, (Or.inr ⟨h3_, (Or.inr ⟨h6_, z7_, e8_, z9_, e10_, (Or.inl ⟨h11_, rfl⟩)⟩)⟩)⟩⟩
      · refine w_iconst (v := 1) dX3_isBetter_33 (by decide) ?_
        refine w_goto (tgt := 38) dX3_isBetter_34 (by decide) ?_
        exact w_zret rfl dX3_isBetter_38 ⟨by decide, by decide⟩ ⟨rfl, ⟨by decide, by decide⟩, ⟨z1_, e2_, (Or.inr ⟨h3_, (Or.inr ⟨h6_, z7_, e8_, z9_, e10_, (Or.inr ⟨h11_, rfl⟩)⟩)⟩)⟩⟩
def S_c_X3_takeFrom (b : Nat) (b2 : Nat) : rf → Nat → Prop := fun c k => (c.1 = 30 ∧ c.2.1 = b) ∨ (c.1 = 31 ∧ c.2.1 = b) ∨ (c.1 = 32 ∧ c.2.1 = b) ∨ (c.1 = 3 ∧ c.2.1 = b ∧ k = 3) ∨ False
def SP_X3_takeFrom (b : Nat) (b2 : Nat) (Mz : mM) (M_ : mM) : Prop := ∃ M1_ : mM, (M1_ = cp Mz (30, b2, 0) (30, b, 0) (0 : Int32).toNatClampNeg (0 : Int32).toNatClampNeg (7 : Int32).toNatClampNeg) ∧ ∃ M5_ : mM, (M5_ = cp M1_ (31, b2, 0) (31, b, 0) (0 : Int32).toNatClampNeg (0 : Int32).toNatClampNeg (7 : Int32).toNatClampNeg) ∧ ∃ M9_ : mM, (M9_ = cp M5_ (32, b2, 0) (32, b, 0) (0 : Int32).toNatClampNeg (0 : Int32).toNatClampNeg (7 : Int32).toNatClampNeg) ∧ ∃ z13_ : Int32, (z13_ = M9_.1 (3, b2, 0) 3) ∧ ∃ M15_ : mM, (M15_ = up M9_ (3, b, 0) 3 z13_) ∧ M_ = M15_
set_option maxHeartbeats 4000000 in
set_option maxRecDepth 100000 in
theorem c_X3_takeFrom (l : Launch) (G : va_G) (cy : Nat → ClassId) (ad : rf → Nat) (d : Nat) (b : Nat) (b2 : Nat) (Mz : mM) (hIz : Inv Mz) (hb : b < 3) (hb2 : b2 < 3) : WP CC l G cy ad yX3_takeFrom cX3_takeFrom 2 none (d + 1) 0 [(0, vR (3, b, 0)), (1, vR (3, b2, 0))] [] Mz (fun r M' => Inv M' ∧ FR (S_c_X3_takeFrom b b2) Mz M' ∧ (True) ∧ SP_X3_takeFrom b b2 Mz M') := by
  have hFz : FR (S_c_X3_takeFrom b b2) Mz Mz := FR.self
  refine w_aload_n dX3_takeFrom_0 rfl 1 rfl ?_
  refine w_getR (c' := (30, b2, 0)) fl_RX3_9 rfl rfl (ic_3 hb2) dX3_takeFrom_1 rfl ?_
  refine w_iconst (v := 0) dX3_takeFrom_4 (by decide) ?_
  refine w_aload_n dX3_takeFrom_5 rfl 0 rfl ?_
  refine w_getR (c' := (30, b, 0)) fl_RX3_9 rfl rfl (ic_3 hb) dX3_takeFrom_6 rfl ?_
  refine w_iconst (v := 0) dX3_takeFrom_9 (by decide) ?_
  refine w_bipush (v := 7) dX3_takeFrom_10 (by decide) ?_
  refine w_copy CC_nd rfl rfl (ic_30 hb2) rfl rfl (ic_30 hb) m_1273 m_830 m_829 m_98 li_0 li_0 li_7 (by decide) rfl (by omega) dX3_takeFrom_12 (fun M1_ hM2_ => ?_)
  have hI3_ := hIz.cpy hM2_ (fun _ _ => trivial)
  have hF4_ := hFz.cpy hM2_ (fun _ => (Or.inl ⟨rfl, rfl⟩))
  refine w_aload_n dX3_takeFrom_15 rfl 1 rfl ?_
  refine w_getR (c' := (31, b2, 0)) fl_RX3_13 rfl rfl (ic_3 hb2) dX3_takeFrom_16 rfl ?_
  refine w_iconst (v := 0) dX3_takeFrom_19 (by decide) ?_
  refine w_aload_n dX3_takeFrom_20 rfl 0 rfl ?_
  refine w_getR (c' := (31, b, 0)) fl_RX3_13 rfl rfl (ic_3 hb) dX3_takeFrom_21 rfl ?_
  refine w_iconst (v := 0) dX3_takeFrom_24 (by decide) ?_
  refine w_bipush (v := 7) dX3_takeFrom_25 (by decide) ?_
  refine w_copy CC_nd rfl rfl (ic_31 hb2) rfl rfl (ic_31 hb) m_1273 m_830 m_829 m_98 li_0 li_0 li_7 (by decide) rfl (by omega) dX3_takeFrom_27 (fun M5_ hM6_ => ?_)
  have hI7_ := hI3_.cpy hM6_ (fun _ _ => trivial)
  have hF8_ := hF4_.cpy hM6_ (fun _ => (Or.inr (Or.inl ⟨rfl, rfl⟩)))
  refine w_aload_n dX3_takeFrom_30 rfl 1 rfl ?_
  refine w_getR (c' := (32, b2, 0)) fl_RX3_16 rfl rfl (ic_3 hb2) dX3_takeFrom_31 rfl ?_
  refine w_iconst (v := 0) dX3_takeFrom_34 (by decide) ?_
  refine w_aload_n dX3_takeFrom_35 rfl 0 rfl ?_
  refine w_getR (c' := (32, b, 0)) fl_RX3_16 rfl rfl (ic_3 hb) dX3_takeFrom_36 rfl ?_
  refine w_iconst (v := 0) dX3_takeFrom_39 (by decide) ?_
  refine w_bipush (v := 7) dX3_takeFrom_40 (by decide) ?_
  refine w_copy CC_nd rfl rfl (ic_32 hb2) rfl rfl (ic_32 hb) m_1273 m_830 m_829 m_98 li_0 li_0 li_7 (by decide) rfl (by omega) dX3_takeFrom_42 (fun M9_ hM10_ => ?_)
  have hI11_ := hI7_.cpy hM10_ (fun _ _ => trivial)
  have hF12_ := hF8_.cpy hM10_ (fun _ => (Or.inr (Or.inr (Or.inl ⟨rfl, rfl⟩))))
  refine w_aload_n dX3_takeFrom_45 rfl 0 rfl ?_
  refine w_aload_n dX3_takeFrom_46 rfl 1 rfl ?_
  refine w_getI fl_RX3_19 rfl rfl (ic_3 hb2) dX3_takeFrom_47 (fun z13_ e14_ => ?_)
  refine w_putI CC_nd fl_RX3_19 rfl rfl (ic_3 hb) dX3_takeFrom_50 (fun M15_ hM16_ => ?_)
  have hI17_ := hI11_.put hM16_ (fun h => absurd h (by decide))
  have hF18_ := hF12_.put hM16_ (Or.inr (Or.inr (Or.inr (Or.inl ⟨rfl, rfl, rfl⟩))))
  exact w_vret rfl dX3_takeFrom_53 ⟨hI17_, hF18_, trivial, ⟨M1_, hM2_, M5_, hM6_, M9_, hM10_, z13_, e14_, M15_, hM16_, rfl⟩⟩
end
