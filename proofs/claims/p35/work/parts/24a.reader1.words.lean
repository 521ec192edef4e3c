/-! words of the tables that are used, by their places; decode rows; fields -/
theorem li_127 : (127 : Int32).toInt = 127 := by decide
theorem m_5 : Cond.selects yX4_next.cls yX4_next yX4_next ∈ BASE := bmem 5 (by decide +kernel) rfl
theorem m_8 : Cond.selects yX4_fail.cls yX4_fail yX4_fail ∈ BASE := bmem 8 (by decide +kernel) rfl
theorem m_88 : Cond.initialized RX4 ∈ BASE := bmem 88 (by decide +kernel) rfl
theorem m_358 : Cond.fieldLink RX4 10 "ClickStreet$Reader" "draft" "LClickStreet$Formula;" ∈ BASE := bmem 358 (by decide +kernel) rfl
theorem m_360 : Cond.fieldLink RX4 21 "ClickStreet$Reader" "tape" "LClickStreet$Row;" ∈ BASE := bmem 360 (by decide +kernel) rfl
theorem m_361 : Cond.fieldLink RX4 27 "ClickStreet$Reader" "names" "Ljava/lang/String;" ∈ BASE := bmem 361 (by decide +kernel) rfl
theorem m_362 : Cond.fieldLink RX4 31 "ClickStreet$Reader" "place" "I" ∈ BASE := bmem 362 (by decide +kernel) rfl
theorem m_363 : Cond.fieldLink RX4 35 "ClickStreet$Reader" "fault" "I" ∈ BASE := bmem 363 (by decide +kernel) rfl
theorem m_365 : Cond.fieldLink RX4 41 "ClickStreet$Reader" "parts" "I" ∈ BASE := bmem 365 (by decide +kernel) rfl
theorem m_708 : Cond.methodLink RX4 58 yX4_next ∈ BASE := bmem 708 (by decide +kernel) rfl
theorem m_710 : Cond.instanceMethod yX4_next ∈ BASE := bmem 710 (by decide +kernel) rfl
theorem m_711 : Cond.code yX4_next cX4_next 1 (some .int) ∈ BASE := bmem 711 (by decide +kernel) rfl
theorem m_712 : Cond.methodLink RX4 68 yX5_get ∈ BASE := bmem 712 (by decide +kernel) rfl
theorem m_720 : Cond.methodLink RX4 75 yX1_add ∈ BASE := bmem 720 (by decide +kernel) rfl
theorem m_721 : Cond.instanceMethod yX1_add ∈ BASE := bmem 721 (by decide +kernel) rfl
theorem m_722 : Cond.selects yX1_add.cls yX1_add yX1_add ∈ BASE := bmem 722 (by decide +kernel) rfl
theorem m_723 : Cond.code yX1_add cX1_add 2 none ∈ BASE := bmem 723 (by decide +kernel) rfl
theorem m_728 : Cond.methodLink RX4 62 yX4_fail ∈ BASE := bmem 728 (by decide +kernel) rfl
theorem m_730 : Cond.instanceMethod yX4_fail ∈ BASE := bmem 730 (by decide +kernel) rfl
theorem m_731 : Cond.code yX4_fail cX4_fail 1 none ∈ BASE := bmem 731 (by decide +kernel) rfl
theorem m_740 : Cond.methodLink RX4 93 yS_indexOf ∈ BASE := bmem 740 (by decide +kernel) rfl
theorem kV_X1_add : KV yX1_add cX1_add 2 none 1 := ⟨m_721, m_722, m_83, m_723, by decide +kernel, by decide +kernel, by decide +kernel⟩
theorem kV_X4_fail : KV yX4_fail cX4_fail 1 none 0 := ⟨m_730, m_8, m_88, m_731, by decide +kernel, by decide +kernel, by decide +kernel⟩
theorem kV_X4_next : KV yX4_next cX4_next 1 (some .int) 0 := ⟨m_710, m_5, m_88, m_711, by decide +kernel, by decide +kernel, by decide +kernel⟩
theorem inB4 : ∀ w ∈ u_ws RX4 TX4 7, w ∈ BASE := bmems (u_ws RX4 TX4 7) [366, 368, 370, 372, 374, 376, 378] (by decide +kernel) (by decide +kernel)
theorem fl_RX4_10 : FLK RX4 10 4 0 (.object "ClickStreet$Formula") true := ⟨RX4, TX4, 7, tyX4, rfl, inB4, tyX4_ok, nmX4, by decide, rfl, rfl, Or.inl m_358⟩
theorem fl_RX4_21 : FLK RX4 21 4 1 (.object "ClickStreet$Row") false := ⟨RX4, TX4, 7, tyX4, rfl, inB4, tyX4_ok, nmX4, by decide, rfl, rfl, Or.inl m_360⟩
theorem fl_RX4_27 : FLK RX4 27 4 2 (.object "java/lang/String") false := ⟨RX4, TX4, 7, tyX4, rfl, inB4, tyX4_ok, nmX4, by decide, rfl, rfl, Or.inl m_361⟩
theorem fl_RX4_31 : FLK RX4 31 4 3 .int false := ⟨RX4, TX4, 7, tyX4, rfl, inB4, tyX4_ok, nmX4, by decide, rfl, rfl, Or.inl m_362⟩
theorem fl_RX4_35 : FLK RX4 35 4 4 .int false := ⟨RX4, TX4, 7, tyX4, rfl, inB4, tyX4_ok, nmX4, by decide, rfl, rfl, Or.inl m_363⟩
theorem fl_RX4_41 : FLK RX4 41 4 6 .int false := ⟨RX4, TX4, 7, tyX4, rfl, inB4, tyX4_ok, nmX4, by decide, rfl, rfl, Or.inl m_365⟩
theorem fl_RX4_65 : FLK RX4 65 5 1 .int false := ⟨RX5, TX5, 2, tyX5, rfl, inB5, tyX5_ok, nmX5, by decide, rfl, rfl, Or.inr ⟨"ClickStreet", List.mem_of_getElem? (l := NFs) (i := 7) rfl⟩⟩
theorem dX4_expect_0 : decode cX4_expect 0 = .ok (.aload_n 0, 1) := by decide +kernel
theorem dX4_expect_1 : decode cX4_expect 1 = .ok (.invokevirtual 58, 3) := by decide +kernel
theorem dX4_expect_4 : decode cX4_expect 4 = .ok (.iload_n 1, 1) := by decide +kernel
theorem dX4_expect_5 : decode cX4_expect 5 = .ok (.if_icmp .eq 10, 3) := by decide +kernel
theorem dX4_expect_8 : decode cX4_expect 8 = .ok (.aload_n 0, 1) := by decide +kernel
theorem dX4_expect_9 : decode cX4_expect 9 = .ok (.invokevirtual 62, 3) := by decide +kernel
theorem dX4_expect_12 : decode cX4_expect 12 = .ok (.goto 13, 3) := by decide +kernel
theorem dX4_expect_15 : decode cX4_expect 15 = .ok (.aload_n 0, 1) := by decide +kernel
theorem dX4_expect_16 : decode cX4_expect 16 = .ok (.dup, 1) := by decide +kernel
theorem dX4_expect_17 : decode cX4_expect 17 = .ok (.getfield 31, 3) := by decide +kernel
theorem dX4_expect_20 : decode cX4_expect 20 = .ok (.iconst 1, 1) := by decide +kernel
theorem dX4_expect_21 : decode cX4_expect 21 = .ok (.iadd, 1) := by decide +kernel
theorem dX4_expect_22 : decode cX4_expect 22 = .ok (.putfield 31, 3) := by decide +kernel
theorem dX4_expect_25 : decode cX4_expect 25 = .ok (.return_, 1) := by decide +kernel
theorem dX4_fail_0 : decode cX4_fail 0 = .ok (.aload_n 0, 1) := by decide +kernel
theorem dX4_fail_1 : decode cX4_fail 1 = .ok (.getfield 35, 3) := by decide +kernel
theorem dX4_fail_4 : decode cX4_fail 4 = .ok (.ifCond .ge 11, 3) := by decide +kernel
theorem dX4_fail_7 : decode cX4_fail 7 = .ok (.aload_n 0, 1) := by decide +kernel
theorem dX4_fail_8 : decode cX4_fail 8 = .ok (.aload_n 0, 1) := by decide +kernel
theorem dX4_fail_9 : decode cX4_fail 9 = .ok (.getfield 31, 3) := by decide +kernel
theorem dX4_fail_12 : decode cX4_fail 12 = .ok (.putfield 35, 3) := by decide +kernel
theorem dX4_fail_15 : decode cX4_fail 15 = .ok (.return_, 1) := by decide +kernel
theorem ch_cX4_next_0 : (cX4_next.data.toList.drop 0).take 36 = [42, 180, 0, 31, 42, 180, 0, 21, 180, 0, 65, 162, 0, 32, 42, 180, 0, 21, 42, 180, 0, 31, 182, 0, 68, 16, 32, 160, 0, 16, 42, 89, 180, 0, 31, 4] := by decide +kernel
theorem dX4_next_0 : decode cX4_next 0 = .ok (.aload_n 0, 1) := do_42 (rdb (p := 0) (i := 0) ch_cX4_next_0 rfl)
theorem dX4_next_1 : decode cX4_next 1 = .ok (.getfield 31, 3) := do_180 (rdb (p := 0) (i := 1) ch_cX4_next_0 rfl) (rdb (p := 0) (i := 2) ch_cX4_next_0 rfl) (rdb (p := 0) (i := 3) ch_cX4_next_0 rfl) rfl
theorem dX4_next_4 : decode cX4_next 4 = .ok (.aload_n 0, 1) := do_42 (rdb (p := 0) (i := 4) ch_cX4_next_0 rfl)
theorem dX4_next_5 : decode cX4_next 5 = .ok (.getfield 21, 3) := do_180 (rdb (p := 0) (i := 5) ch_cX4_next_0 rfl) (rdb (p := 0) (i := 6) ch_cX4_next_0 rfl) (rdb (p := 0) (i := 7) ch_cX4_next_0 rfl) rfl
theorem dX4_next_8 : decode cX4_next 8 = .ok (.getfield 65, 3) := do_180 (rdb (p := 0) (i := 8) ch_cX4_next_0 rfl) (rdb (p := 0) (i := 9) ch_cX4_next_0 rfl) (rdb (p := 0) (i := 10) ch_cX4_next_0 rfl) rfl
theorem dX4_next_11 : decode cX4_next 11 = .ok (.if_icmp .ge 32, 3) := do_162 (rdb (p := 0) (i := 11) ch_cX4_next_0 rfl) (rdb (p := 0) (i := 12) ch_cX4_next_0 rfl) (rdb (p := 0) (i := 13) ch_cX4_next_0 rfl) (by decide +kernel)
theorem dX4_next_14 : decode cX4_next 14 = .ok (.aload_n 0, 1) := do_42 (rdb (p := 0) (i := 14) ch_cX4_next_0 rfl)
theorem dX4_next_15 : decode cX4_next 15 = .ok (.getfield 21, 3) := do_180 (rdb (p := 0) (i := 15) ch_cX4_next_0 rfl) (rdb (p := 0) (i := 16) ch_cX4_next_0 rfl) (rdb (p := 0) (i := 17) ch_cX4_next_0 rfl) rfl
theorem dX4_next_18 : decode cX4_next 18 = .ok (.aload_n 0, 1) := do_42 (rdb (p := 0) (i := 18) ch_cX4_next_0 rfl)
theorem dX4_next_19 : decode cX4_next 19 = .ok (.getfield 31, 3) := do_180 (rdb (p := 0) (i := 19) ch_cX4_next_0 rfl) (rdb (p := 0) (i := 20) ch_cX4_next_0 rfl) (rdb (p := 0) (i := 21) ch_cX4_next_0 rfl) rfl
theorem dX4_next_22 : decode cX4_next 22 = .ok (.invokevirtual 68, 3) := do_182 (rdb (p := 0) (i := 22) ch_cX4_next_0 rfl) (rdb (p := 0) (i := 23) ch_cX4_next_0 rfl) (rdb (p := 0) (i := 24) ch_cX4_next_0 rfl) rfl
theorem dX4_next_25 : decode cX4_next 25 = .ok (.bipush 32, 2) := do_16 (rdb (p := 0) (i := 25) ch_cX4_next_0 rfl) (rdb (p := 0) (i := 26) ch_cX4_next_0 rfl) (by decide +kernel)
theorem dX4_next_27 : decode cX4_next 27 = .ok (.if_icmp .ne 16, 3) := do_160 (rdb (p := 0) (i := 27) ch_cX4_next_0 rfl) (rdb (p := 0) (i := 28) ch_cX4_next_0 rfl) (rdb (p := 0) (i := 29) ch_cX4_next_0 rfl) (by decide +kernel)
theorem dX4_next_30 : decode cX4_next 30 = .ok (.aload_n 0, 1) := do_42 (rdb (p := 0) (i := 30) ch_cX4_next_0 rfl)
theorem dX4_next_31 : decode cX4_next 31 = .ok (.dup, 1) := do_89 (rdb (p := 0) (i := 31) ch_cX4_next_0 rfl)
theorem ch_cX4_next_32 : (cX4_next.data.toList.drop 32).take 36 = [180, 0, 31, 4, 96, 181, 0, 31, 167, 255, 216, 42, 180, 0, 31, 42, 180, 0, 21, 180, 0, 65, 162, 0, 17, 42, 180, 0, 21, 42, 180, 0, 31, 182, 0, 68] := by decide +kernel
theorem dX4_next_32 : decode cX4_next 32 = .ok (.getfield 31, 3) := do_180 (rdb (p := 32) (i := 0) ch_cX4_next_32 rfl) (rdb (p := 32) (i := 1) ch_cX4_next_32 rfl) (rdb (p := 32) (i := 2) ch_cX4_next_32 rfl) rfl
theorem dX4_next_35 : decode cX4_next 35 = .ok (.iconst 1, 1) := do_4 (rdb (p := 32) (i := 3) ch_cX4_next_32 rfl)
theorem dX4_next_36 : decode cX4_next 36 = .ok (.iadd, 1) := do_96 (rdb (p := 32) (i := 4) ch_cX4_next_32 rfl)
theorem dX4_next_37 : decode cX4_next 37 = .ok (.putfield 31, 3) := do_181 (rdb (p := 32) (i := 5) ch_cX4_next_32 rfl) (rdb (p := 32) (i := 6) ch_cX4_next_32 rfl) (rdb (p := 32) (i := 7) ch_cX4_next_32 rfl) rfl
theorem dX4_next_40 : decode cX4_next 40 = .ok (.goto (-40), 3) := do_167 (rdb (p := 32) (i := 8) ch_cX4_next_32 rfl) (rdb (p := 32) (i := 9) ch_cX4_next_32 rfl) (rdb (p := 32) (i := 10) ch_cX4_next_32 rfl) (by decide +kernel)
theorem dX4_next_43 : decode cX4_next 43 = .ok (.aload_n 0, 1) := do_42 (rdb (p := 32) (i := 11) ch_cX4_next_32 rfl)
theorem dX4_next_44 : decode cX4_next 44 = .ok (.getfield 31, 3) := do_180 (rdb (p := 32) (i := 12) ch_cX4_next_32 rfl) (rdb (p := 32) (i := 13) ch_cX4_next_32 rfl) (rdb (p := 32) (i := 14) ch_cX4_next_32 rfl) rfl
theorem dX4_next_47 : decode cX4_next 47 = .ok (.aload_n 0, 1) := do_42 (rdb (p := 32) (i := 15) ch_cX4_next_32 rfl)
theorem dX4_next_48 : decode cX4_next 48 = .ok (.getfield 21, 3) := do_180 (rdb (p := 32) (i := 16) ch_cX4_next_32 rfl) (rdb (p := 32) (i := 17) ch_cX4_next_32 rfl) (rdb (p := 32) (i := 18) ch_cX4_next_32 rfl) rfl
theorem dX4_next_51 : decode cX4_next 51 = .ok (.getfield 65, 3) := do_180 (rdb (p := 32) (i := 19) ch_cX4_next_32 rfl) (rdb (p := 32) (i := 20) ch_cX4_next_32 rfl) (rdb (p := 32) (i := 21) ch_cX4_next_32 rfl) rfl
theorem dX4_next_54 : decode cX4_next 54 = .ok (.if_icmp .ge 17, 3) := do_162 (rdb (p := 32) (i := 22) ch_cX4_next_32 rfl) (rdb (p := 32) (i := 23) ch_cX4_next_32 rfl) (rdb (p := 32) (i := 24) ch_cX4_next_32 rfl) (by decide +kernel)
theorem dX4_next_57 : decode cX4_next 57 = .ok (.aload_n 0, 1) := do_42 (rdb (p := 32) (i := 25) ch_cX4_next_32 rfl)
theorem dX4_next_58 : decode cX4_next 58 = .ok (.getfield 21, 3) := do_180 (rdb (p := 32) (i := 26) ch_cX4_next_32 rfl) (rdb (p := 32) (i := 27) ch_cX4_next_32 rfl) (rdb (p := 32) (i := 28) ch_cX4_next_32 rfl) rfl
theorem dX4_next_61 : decode cX4_next 61 = .ok (.aload_n 0, 1) := do_42 (rdb (p := 32) (i := 29) ch_cX4_next_32 rfl)
theorem dX4_next_62 : decode cX4_next 62 = .ok (.getfield 31, 3) := do_180 (rdb (p := 32) (i := 30) ch_cX4_next_32 rfl) (rdb (p := 32) (i := 31) ch_cX4_next_32 rfl) (rdb (p := 32) (i := 32) ch_cX4_next_32 rfl) rfl
theorem ch_cX4_next_64 : (cX4_next.data.toList.drop 64).take 36 = [31, 182, 0, 68, 167, 0, 4, 2, 172] := by decide +kernel
theorem dX4_next_65 : decode cX4_next 65 = .ok (.invokevirtual 68, 3) := do_182 (rdb (p := 64) (i := 1) ch_cX4_next_64 rfl) (rdb (p := 64) (i := 2) ch_cX4_next_64 rfl) (rdb (p := 64) (i := 3) ch_cX4_next_64 rfl) rfl
theorem dX4_next_68 : decode cX4_next 68 = .ok (.goto 4, 3) := do_167 (rdb (p := 64) (i := 4) ch_cX4_next_64 rfl) (rdb (p := 64) (i := 5) ch_cX4_next_64 rfl) (rdb (p := 64) (i := 6) ch_cX4_next_64 rfl) (by decide +kernel)
theorem dX4_next_71 : decode cX4_next 71 = .ok (.iconst (-1), 1) := do_2 (rdb (p := 64) (i := 7) ch_cX4_next_64 rfl)
theorem dX4_next_72 : decode cX4_next 72 = .ok (.ireturn, 1) := do_172 (rdb (p := 64) (i := 8) ch_cX4_next_64 rfl)
theorem ch_cX4_readName_0 : (cX4_readName.data.toList.drop 0).take 36 = [27, 155, 0, 9, 27, 16, 127, 164, 0, 7, 2, 167, 0, 12, 42, 180, 0, 27, 27, 146, 182, 0, 93, 61, 28, 156, 0, 8, 42, 182, 0, 62, 177, 42, 89, 180] := by decide +kernel
theorem dX4_readName_0 : decode cX4_readName 0 = .ok (.iload_n 1, 1) := do_27 (rdb (p := 0) (i := 0) ch_cX4_readName_0 rfl)
theorem dX4_readName_1 : decode cX4_readName 1 = .ok (.ifCond .lt 9, 3) := do_155 (rdb (p := 0) (i := 1) ch_cX4_readName_0 rfl) (rdb (p := 0) (i := 2) ch_cX4_readName_0 rfl) (rdb (p := 0) (i := 3) ch_cX4_readName_0 rfl) (by decide +kernel)
theorem dX4_readName_4 : decode cX4_readName 4 = .ok (.iload_n 1, 1) := do_27 (rdb (p := 0) (i := 4) ch_cX4_readName_0 rfl)
theorem dX4_readName_5 : decode cX4_readName 5 = .ok (.bipush 127, 2) := do_16 (rdb (p := 0) (i := 5) ch_cX4_readName_0 rfl) (rdb (p := 0) (i := 6) ch_cX4_readName_0 rfl) (by decide +kernel)
theorem dX4_readName_7 : decode cX4_readName 7 = .ok (.if_icmp .le 7, 3) := do_164 (rdb (p := 0) (i := 7) ch_cX4_readName_0 rfl) (rdb (p := 0) (i := 8) ch_cX4_readName_0 rfl) (rdb (p := 0) (i := 9) ch_cX4_readName_0 rfl) (by decide +kernel)
theorem dX4_readName_10 : decode cX4_readName 10 = .ok (.iconst (-1), 1) := do_2 (rdb (p := 0) (i := 10) ch_cX4_readName_0 rfl)
theorem dX4_readName_11 : decode cX4_readName 11 = .ok (.goto 12, 3) := do_167 (rdb (p := 0) (i := 11) ch_cX4_readName_0 rfl) (rdb (p := 0) (i := 12) ch_cX4_readName_0 rfl) (rdb (p := 0) (i := 13) ch_cX4_readName_0 rfl) (by decide +kernel)
theorem dX4_readName_14 : decode cX4_readName 14 = .ok (.aload_n 0, 1) := do_42 (rdb (p := 0) (i := 14) ch_cX4_readName_0 rfl)
theorem dX4_readName_15 : decode cX4_readName 15 = .ok (.getfield 27, 3) := do_180 (rdb (p := 0) (i := 15) ch_cX4_readName_0 rfl) (rdb (p := 0) (i := 16) ch_cX4_readName_0 rfl) (rdb (p := 0) (i := 17) ch_cX4_readName_0 rfl) rfl
theorem dX4_readName_18 : decode cX4_readName 18 = .ok (.iload_n 1, 1) := do_27 (rdb (p := 0) (i := 18) ch_cX4_readName_0 rfl)
theorem dX4_readName_19 : decode cX4_readName 19 = .ok (.i2c, 1) := do_146 (rdb (p := 0) (i := 19) ch_cX4_readName_0 rfl)
theorem dX4_readName_20 : decode cX4_readName 20 = .ok (.invokevirtual 93, 3) := do_182 (rdb (p := 0) (i := 20) ch_cX4_readName_0 rfl) (rdb (p := 0) (i := 21) ch_cX4_readName_0 rfl) (rdb (p := 0) (i := 22) ch_cX4_readName_0 rfl) rfl
theorem dX4_readName_23 : decode cX4_readName 23 = .ok (.istore_n 2, 1) := do_61 (rdb (p := 0) (i := 23) ch_cX4_readName_0 rfl)
theorem dX4_readName_24 : decode cX4_readName 24 = .ok (.iload_n 2, 1) := do_28 (rdb (p := 0) (i := 24) ch_cX4_readName_0 rfl)
theorem dX4_readName_25 : decode cX4_readName 25 = .ok (.ifCond .ge 8, 3) := do_156 (rdb (p := 0) (i := 25) ch_cX4_readName_0 rfl) (rdb (p := 0) (i := 26) ch_cX4_readName_0 rfl) (rdb (p := 0) (i := 27) ch_cX4_readName_0 rfl) (by decide +kernel)
theorem dX4_readName_28 : decode cX4_readName 28 = .ok (.aload_n 0, 1) := do_42 (rdb (p := 0) (i := 28) ch_cX4_readName_0 rfl)
theorem dX4_readName_29 : decode cX4_readName 29 = .ok (.invokevirtual 62, 3) := do_182 (rdb (p := 0) (i := 29) ch_cX4_readName_0 rfl) (rdb (p := 0) (i := 30) ch_cX4_readName_0 rfl) (rdb (p := 0) (i := 31) ch_cX4_readName_0 rfl) rfl
theorem ch_cX4_readName_32 : (cX4_readName.data.toList.drop 32).take 36 = [177, 42, 89, 180, 0, 31, 4, 96, 181, 0, 31, 42, 180, 0, 10, 17, 3, 232, 28, 96, 182, 0, 75, 42, 89, 180, 0, 41, 4, 96, 181, 0, 41, 177] := by decide +kernel
theorem dX4_readName_32 : decode cX4_readName 32 = .ok (.return_, 1) := do_177 (rdb (p := 32) (i := 0) ch_cX4_readName_32 rfl)
theorem dX4_readName_33 : decode cX4_readName 33 = .ok (.aload_n 0, 1) := do_42 (rdb (p := 32) (i := 1) ch_cX4_readName_32 rfl)
theorem dX4_readName_34 : decode cX4_readName 34 = .ok (.dup, 1) := do_89 (rdb (p := 32) (i := 2) ch_cX4_readName_32 rfl)
theorem dX4_readName_35 : decode cX4_readName 35 = .ok (.getfield 31, 3) := do_180 (rdb (p := 32) (i := 3) ch_cX4_readName_32 rfl) (rdb (p := 32) (i := 4) ch_cX4_readName_32 rfl) (rdb (p := 32) (i := 5) ch_cX4_readName_32 rfl) rfl
theorem dX4_readName_38 : decode cX4_readName 38 = .ok (.iconst 1, 1) := do_4 (rdb (p := 32) (i := 6) ch_cX4_readName_32 rfl)
theorem dX4_readName_39 : decode cX4_readName 39 = .ok (.iadd, 1) := do_96 (rdb (p := 32) (i := 7) ch_cX4_readName_32 rfl)
theorem dX4_readName_40 : decode cX4_readName 40 = .ok (.putfield 31, 3) := do_181 (rdb (p := 32) (i := 8) ch_cX4_readName_32 rfl) (rdb (p := 32) (i := 9) ch_cX4_readName_32 rfl) (rdb (p := 32) (i := 10) ch_cX4_readName_32 rfl) rfl
theorem dX4_readName_43 : decode cX4_readName 43 = .ok (.aload_n 0, 1) := do_42 (rdb (p := 32) (i := 11) ch_cX4_readName_32 rfl)
theorem dX4_readName_44 : decode cX4_readName 44 = .ok (.getfield 10, 3) := do_180 (rdb (p := 32) (i := 12) ch_cX4_readName_32 rfl) (rdb (p := 32) (i := 13) ch_cX4_readName_32 rfl) (rdb (p := 32) (i := 14) ch_cX4_readName_32 rfl) rfl
theorem dX4_readName_47 : decode cX4_readName 47 = .ok (.sipush 1000, 3) := do_17 (rdb (p := 32) (i := 15) ch_cX4_readName_32 rfl) (rdb (p := 32) (i := 16) ch_cX4_readName_32 rfl) (rdb (p := 32) (i := 17) ch_cX4_readName_32 rfl) (by decide +kernel)
theorem dX4_readName_50 : decode cX4_readName 50 = .ok (.iload_n 2, 1) := do_28 (rdb (p := 32) (i := 18) ch_cX4_readName_32 rfl)
theorem dX4_readName_51 : decode cX4_readName 51 = .ok (.iadd, 1) := do_96 (rdb (p := 32) (i := 19) ch_cX4_readName_32 rfl)
theorem dX4_readName_52 : decode cX4_readName 52 = .ok (.invokevirtual 75, 3) := do_182 (rdb (p := 32) (i := 20) ch_cX4_readName_32 rfl) (rdb (p := 32) (i := 21) ch_cX4_readName_32 rfl) (rdb (p := 32) (i := 22) ch_cX4_readName_32 rfl) rfl
theorem dX4_readName_55 : decode cX4_readName 55 = .ok (.aload_n 0, 1) := do_42 (rdb (p := 32) (i := 23) ch_cX4_readName_32 rfl)
theorem dX4_readName_56 : decode cX4_readName 56 = .ok (.dup, 1) := do_89 (rdb (p := 32) (i := 24) ch_cX4_readName_32 rfl)
theorem dX4_readName_57 : decode cX4_readName 57 = .ok (.getfield 41, 3) := do_180 (rdb (p := 32) (i := 25) ch_cX4_readName_32 rfl) (rdb (p := 32) (i := 26) ch_cX4_readName_32 rfl) (rdb (p := 32) (i := 27) ch_cX4_readName_32 rfl) rfl
theorem dX4_readName_60 : decode cX4_readName 60 = .ok (.iconst 1, 1) := do_4 (rdb (p := 32) (i := 28) ch_cX4_readName_32 rfl)
theorem dX4_readName_61 : decode cX4_readName 61 = .ok (.iadd, 1) := do_96 (rdb (p := 32) (i := 29) ch_cX4_readName_32 rfl)
theorem dX4_readName_62 : decode cX4_readName 62 = .ok (.putfield 41, 3) := do_181 (rdb (p := 32) (i := 30) ch_cX4_readName_32 rfl) (rdb (p := 32) (i := 31) ch_cX4_readName_32 rfl) (rdb (p := 32) (i := 32) ch_cX4_readName_32 rfl) rfl
theorem ch_cX4_readName_64 : (cX4_readName.data.toList.drop 64).take 36 = [41, 177] := by decide +kernel
theorem dX4_readName_65 : decode cX4_readName 65 = .ok (.return_, 1) := do_177 (rdb (p := 64) (i := 1) ch_cX4_readName_64 rfl)
theorem ch_cX4_readNumber_0 : (cX4_readNumber.data.toList.drop 0).take 36 = [3, 60, 3, 61, 28, 6, 162, 0, 72, 42, 180, 0, 31, 42, 180, 0, 21, 180, 0, 65, 162, 0, 20, 42, 180, 0, 21, 42, 180, 0, 31, 182, 0, 68, 16, 48] := by decide +kernel
theorem dX4_readNumber_0 : decode cX4_readNumber 0 = .ok (.iconst 0, 1) := do_3 (rdb (p := 0) (i := 0) ch_cX4_readNumber_0 rfl)
theorem dX4_readNumber_1 : decode cX4_readNumber 1 = .ok (.istore_n 1, 1) := do_60 (rdb (p := 0) (i := 1) ch_cX4_readNumber_0 rfl)
theorem dX4_readNumber_2 : decode cX4_readNumber 2 = .ok (.iconst 0, 1) := do_3 (rdb (p := 0) (i := 2) ch_cX4_readNumber_0 rfl)
theorem dX4_readNumber_3 : decode cX4_readNumber 3 = .ok (.istore_n 2, 1) := do_61 (rdb (p := 0) (i := 3) ch_cX4_readNumber_0 rfl)
theorem dX4_readNumber_4 : decode cX4_readNumber 4 = .ok (.iload_n 2, 1) := do_28 (rdb (p := 0) (i := 4) ch_cX4_readNumber_0 rfl)
theorem dX4_readNumber_5 : decode cX4_readNumber 5 = .ok (.iconst 3, 1) := do_6 (rdb (p := 0) (i := 5) ch_cX4_readNumber_0 rfl)
theorem dX4_readNumber_6 : decode cX4_readNumber 6 = .ok (.if_icmp .ge 72, 3) := do_162 (rdb (p := 0) (i := 6) ch_cX4_readNumber_0 rfl) (rdb (p := 0) (i := 7) ch_cX4_readNumber_0 rfl) (rdb (p := 0) (i := 8) ch_cX4_readNumber_0 rfl) (by decide +kernel)
theorem dX4_readNumber_9 : decode cX4_readNumber 9 = .ok (.aload_n 0, 1) := do_42 (rdb (p := 0) (i := 9) ch_cX4_readNumber_0 rfl)
theorem dX4_readNumber_10 : decode cX4_readNumber 10 = .ok (.getfield 31, 3) := do_180 (rdb (p := 0) (i := 10) ch_cX4_readNumber_0 rfl) (rdb (p := 0) (i := 11) ch_cX4_readNumber_0 rfl) (rdb (p := 0) (i := 12) ch_cX4_readNumber_0 rfl) rfl
theorem dX4_readNumber_13 : decode cX4_readNumber 13 = .ok (.aload_n 0, 1) := do_42 (rdb (p := 0) (i := 13) ch_cX4_readNumber_0 rfl)
theorem dX4_readNumber_14 : decode cX4_readNumber 14 = .ok (.getfield 21, 3) := do_180 (rdb (p := 0) (i := 14) ch_cX4_readNumber_0 rfl) (rdb (p := 0) (i := 15) ch_cX4_readNumber_0 rfl) (rdb (p := 0) (i := 16) ch_cX4_readNumber_0 rfl) rfl
theorem dX4_readNumber_17 : decode cX4_readNumber 17 = .ok (.getfield 65, 3) := do_180 (rdb (p := 0) (i := 17) ch_cX4_readNumber_0 rfl) (rdb (p := 0) (i := 18) ch_cX4_readNumber_0 rfl) (rdb (p := 0) (i := 19) ch_cX4_readNumber_0 rfl) rfl
theorem dX4_readNumber_20 : decode cX4_readNumber 20 = .ok (.if_icmp .ge 20, 3) := do_162 (rdb (p := 0) (i := 20) ch_cX4_readNumber_0 rfl) (rdb (p := 0) (i := 21) ch_cX4_readNumber_0 rfl) (rdb (p := 0) (i := 22) ch_cX4_readNumber_0 rfl) (by decide +kernel)
theorem dX4_readNumber_23 : decode cX4_readNumber 23 = .ok (.aload_n 0, 1) := do_42 (rdb (p := 0) (i := 23) ch_cX4_readNumber_0 rfl)
theorem dX4_readNumber_24 : decode cX4_readNumber 24 = .ok (.getfield 21, 3) := do_180 (rdb (p := 0) (i := 24) ch_cX4_readNumber_0 rfl) (rdb (p := 0) (i := 25) ch_cX4_readNumber_0 rfl) (rdb (p := 0) (i := 26) ch_cX4_readNumber_0 rfl) rfl
theorem dX4_readNumber_27 : decode cX4_readNumber 27 = .ok (.aload_n 0, 1) := do_42 (rdb (p := 0) (i := 27) ch_cX4_readNumber_0 rfl)
theorem dX4_readNumber_28 : decode cX4_readNumber 28 = .ok (.getfield 31, 3) := do_180 (rdb (p := 0) (i := 28) ch_cX4_readNumber_0 rfl) (rdb (p := 0) (i := 29) ch_cX4_readNumber_0 rfl) (rdb (p := 0) (i := 30) ch_cX4_readNumber_0 rfl) rfl
theorem dX4_readNumber_31 : decode cX4_readNumber 31 = .ok (.invokevirtual 68, 3) := do_182 (rdb (p := 0) (i := 31) ch_cX4_readNumber_0 rfl) (rdb (p := 0) (i := 32) ch_cX4_readNumber_0 rfl) (rdb (p := 0) (i := 33) ch_cX4_readNumber_0 rfl) rfl
theorem ch_cX4_readNumber_32 : (cX4_readNumber.data.toList.drop 32).take 36 = [0, 68, 16, 48, 100, 167, 0, 4, 2, 62, 29, 155, 0, 35, 29, 16, 9, 164, 0, 6, 167, 0, 26, 16, 10, 27, 104, 29, 96, 60, 42, 89, 180, 0, 31, 4] := by decide +kernel
theorem dX4_readNumber_34 : decode cX4_readNumber 34 = .ok (.bipush 48, 2) := do_16 (rdb (p := 32) (i := 2) ch_cX4_readNumber_32 rfl) (rdb (p := 32) (i := 3) ch_cX4_readNumber_32 rfl) (by decide +kernel)
theorem dX4_readNumber_36 : decode cX4_readNumber 36 = .ok (.isub, 1) := do_100 (rdb (p := 32) (i := 4) ch_cX4_readNumber_32 rfl)
theorem dX4_readNumber_37 : decode cX4_readNumber 37 = .ok (.goto 4, 3) := do_167 (rdb (p := 32) (i := 5) ch_cX4_readNumber_32 rfl) (rdb (p := 32) (i := 6) ch_cX4_readNumber_32 rfl) (rdb (p := 32) (i := 7) ch_cX4_readNumber_32 rfl) (by decide +kernel)
theorem dX4_readNumber_40 : decode cX4_readNumber 40 = .ok (.iconst (-1), 1) := do_2 (rdb (p := 32) (i := 8) ch_cX4_readNumber_32 rfl)
theorem dX4_readNumber_41 : decode cX4_readNumber 41 = .ok (.istore_n 3, 1) := do_62 (rdb (p := 32) (i := 9) ch_cX4_readNumber_32 rfl)
theorem dX4_readNumber_42 : decode cX4_readNumber 42 = .ok (.iload_n 3, 1) := do_29 (rdb (p := 32) (i := 10) ch_cX4_readNumber_32 rfl)
theorem dX4_readNumber_43 : decode cX4_readNumber 43 = .ok (.ifCond .lt 35, 3) := do_155 (rdb (p := 32) (i := 11) ch_cX4_readNumber_32 rfl) (rdb (p := 32) (i := 12) ch_cX4_readNumber_32 rfl) (rdb (p := 32) (i := 13) ch_cX4_readNumber_32 rfl) (by decide +kernel)
theorem dX4_readNumber_46 : decode cX4_readNumber 46 = .ok (.iload_n 3, 1) := do_29 (rdb (p := 32) (i := 14) ch_cX4_readNumber_32 rfl)
theorem dX4_readNumber_47 : decode cX4_readNumber 47 = .ok (.bipush 9, 2) := do_16 (rdb (p := 32) (i := 15) ch_cX4_readNumber_32 rfl) (rdb (p := 32) (i := 16) ch_cX4_readNumber_32 rfl) (by decide +kernel)
theorem dX4_readNumber_49 : decode cX4_readNumber 49 = .ok (.if_icmp .le 6, 3) := do_164 (rdb (p := 32) (i := 17) ch_cX4_readNumber_32 rfl) (rdb (p := 32) (i := 18) ch_cX4_readNumber_32 rfl) (rdb (p := 32) (i := 19) ch_cX4_readNumber_32 rfl) (by decide +kernel)
theorem dX4_readNumber_52 : decode cX4_readNumber 52 = .ok (.goto 26, 3) := do_167 (rdb (p := 32) (i := 20) ch_cX4_readNumber_32 rfl) (rdb (p := 32) (i := 21) ch_cX4_readNumber_32 rfl) (rdb (p := 32) (i := 22) ch_cX4_readNumber_32 rfl) (by decide +kernel)
theorem dX4_readNumber_55 : decode cX4_readNumber 55 = .ok (.bipush 10, 2) := do_16 (rdb (p := 32) (i := 23) ch_cX4_readNumber_32 rfl) (rdb (p := 32) (i := 24) ch_cX4_readNumber_32 rfl) (by decide +kernel)
theorem dX4_readNumber_57 : decode cX4_readNumber 57 = .ok (.iload_n 1, 1) := do_27 (rdb (p := 32) (i := 25) ch_cX4_readNumber_32 rfl)
theorem dX4_readNumber_58 : decode cX4_readNumber 58 = .ok (.imul, 1) := do_104 (rdb (p := 32) (i := 26) ch_cX4_readNumber_32 rfl)
theorem dX4_readNumber_59 : decode cX4_readNumber 59 = .ok (.iload_n 3, 1) := do_29 (rdb (p := 32) (i := 27) ch_cX4_readNumber_32 rfl)
theorem dX4_readNumber_60 : decode cX4_readNumber 60 = .ok (.iadd, 1) := do_96 (rdb (p := 32) (i := 28) ch_cX4_readNumber_32 rfl)
theorem dX4_readNumber_61 : decode cX4_readNumber 61 = .ok (.istore_n 1, 1) := do_60 (rdb (p := 32) (i := 29) ch_cX4_readNumber_32 rfl)
theorem dX4_readNumber_62 : decode cX4_readNumber 62 = .ok (.aload_n 0, 1) := do_42 (rdb (p := 32) (i := 30) ch_cX4_readNumber_32 rfl)
theorem dX4_readNumber_63 : decode cX4_readNumber 63 = .ok (.dup, 1) := do_89 (rdb (p := 32) (i := 31) ch_cX4_readNumber_32 rfl)
theorem ch_cX4_readNumber_64 : (cX4_readNumber.data.toList.drop 64).take 36 = [180, 0, 31, 4, 96, 181, 0, 31, 132, 2, 1, 167, 255, 185, 42, 180, 0, 10, 27, 182, 0, 75, 42, 89, 180, 0, 41, 4, 96, 181, 0, 41, 177] := by decide +kernel
theorem dX4_readNumber_64 : decode cX4_readNumber 64 = .ok (.getfield 31, 3) := do_180 (rdb (p := 64) (i := 0) ch_cX4_readNumber_64 rfl) (rdb (p := 64) (i := 1) ch_cX4_readNumber_64 rfl) (rdb (p := 64) (i := 2) ch_cX4_readNumber_64 rfl) rfl
theorem dX4_readNumber_67 : decode cX4_readNumber 67 = .ok (.iconst 1, 1) := do_4 (rdb (p := 64) (i := 3) ch_cX4_readNumber_64 rfl)
theorem dX4_readNumber_68 : decode cX4_readNumber 68 = .ok (.iadd, 1) := do_96 (rdb (p := 64) (i := 4) ch_cX4_readNumber_64 rfl)
theorem dX4_readNumber_69 : decode cX4_readNumber 69 = .ok (.putfield 31, 3) := do_181 (rdb (p := 64) (i := 5) ch_cX4_readNumber_64 rfl) (rdb (p := 64) (i := 6) ch_cX4_readNumber_64 rfl) (rdb (p := 64) (i := 7) ch_cX4_readNumber_64 rfl) rfl
theorem dX4_readNumber_72 : decode cX4_readNumber 72 = .ok (.iinc 2 1, 3) := do_132 (rdb (p := 64) (i := 8) ch_cX4_readNumber_64 rfl) (rdb (p := 64) (i := 9) ch_cX4_readNumber_64 rfl) (rdb (p := 64) (i := 10) ch_cX4_readNumber_64 rfl) (by decide +kernel)
theorem dX4_readNumber_75 : decode cX4_readNumber 75 = .ok (.goto (-71), 3) := do_167 (rdb (p := 64) (i := 11) ch_cX4_readNumber_64 rfl) (rdb (p := 64) (i := 12) ch_cX4_readNumber_64 rfl) (rdb (p := 64) (i := 13) ch_cX4_readNumber_64 rfl) (by decide +kernel)
theorem dX4_readNumber_78 : decode cX4_readNumber 78 = .ok (.aload_n 0, 1) := do_42 (rdb (p := 64) (i := 14) ch_cX4_readNumber_64 rfl)
theorem dX4_readNumber_79 : decode cX4_readNumber 79 = .ok (.getfield 10, 3) := do_180 (rdb (p := 64) (i := 15) ch_cX4_readNumber_64 rfl) (rdb (p := 64) (i := 16) ch_cX4_readNumber_64 rfl) (rdb (p := 64) (i := 17) ch_cX4_readNumber_64 rfl) rfl
theorem dX4_readNumber_82 : decode cX4_readNumber 82 = .ok (.iload_n 1, 1) := do_27 (rdb (p := 64) (i := 18) ch_cX4_readNumber_64 rfl)
theorem dX4_readNumber_83 : decode cX4_readNumber 83 = .ok (.invokevirtual 75, 3) := do_182 (rdb (p := 64) (i := 19) ch_cX4_readNumber_64 rfl) (rdb (p := 64) (i := 20) ch_cX4_readNumber_64 rfl) (rdb (p := 64) (i := 21) ch_cX4_readNumber_64 rfl) rfl
theorem dX4_readNumber_86 : decode cX4_readNumber 86 = .ok (.aload_n 0, 1) := do_42 (rdb (p := 64) (i := 22) ch_cX4_readNumber_64 rfl)
theorem dX4_readNumber_87 : decode cX4_readNumber 87 = .ok (.dup, 1) := do_89 (rdb (p := 64) (i := 23) ch_cX4_readNumber_64 rfl)
theorem dX4_readNumber_88 : decode cX4_readNumber 88 = .ok (.getfield 41, 3) := do_180 (rdb (p := 64) (i := 24) ch_cX4_readNumber_64 rfl) (rdb (p := 64) (i := 25) ch_cX4_readNumber_64 rfl) (rdb (p := 64) (i := 26) ch_cX4_readNumber_64 rfl) rfl
theorem dX4_readNumber_91 : decode cX4_readNumber 91 = .ok (.iconst 1, 1) := do_4 (rdb (p := 64) (i := 27) ch_cX4_readNumber_64 rfl)
theorem dX4_readNumber_92 : decode cX4_readNumber 92 = .ok (.iadd, 1) := do_96 (rdb (p := 64) (i := 28) ch_cX4_readNumber_64 rfl)
theorem dX4_readNumber_93 : decode cX4_readNumber 93 = .ok (.putfield 41, 3) := do_181 (rdb (p := 64) (i := 29) ch_cX4_readNumber_64 rfl) (rdb (p := 64) (i := 30) ch_cX4_readNumber_64 rfl) (rdb (p := 64) (i := 31) ch_cX4_readNumber_64 rfl) rfl
theorem ch_cX4_readNumber_96 : (cX4_readNumber.data.toList.drop 96).take 36 = [177] := by decide +kernel
theorem dX4_readNumber_96 : decode cX4_readNumber 96 = .ok (.return_, 1) := do_177 (rdb (p := 96) (i := 0) ch_cX4_readNumber_96 rfl)
