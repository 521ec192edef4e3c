/-! words of the tables that are used, by their places; decode rows; fields -/
theorem li_100 : (100 : Int32).toInt = 100 := by decide
theorem li_999 : (999 : Int32).toInt = 999 := by decide
theorem m_82 : Cond.initialized RX2 ∈ BASE := bmem 82 (by decide +kernel) rfl
theorem m_83 : Cond.initialized RX1 ∈ BASE := bmem 83 (by decide +kernel) rfl
theorem m_170 : Cond.fieldLink RX2 7 "ClickStreet$Laws" "noise" "I" ∈ BASE := bmem 170 (by decide +kernel) rfl
theorem m_171 : Cond.fieldLink RX2 13 "ClickStreet$Laws" "mask" "I" ∈ BASE := bmem 171 (by decide +kernel) rfl
theorem m_172 : Cond.fieldLink RX2 16 "ClickStreet$Laws" "snow" "I" ∈ BASE := bmem 172 (by decide +kernel) rfl
theorem m_173 : Cond.fieldLink RX2 21 "ClickStreet$Laws" "loud" "[I" ∈ BASE := bmem 173 (by decide +kernel) rfl
theorem m_174 : Cond.fieldLink RX2 25 "ClickStreet$Laws" "sharp" "[I" ∈ BASE := bmem 174 (by decide +kernel) rfl
theorem m_175 : Cond.fieldLink RX2 30 "ClickStreet$Laws" "texts" "[LClickStreet$Formula;" ∈ BASE := bmem 175 (by decide +kernel) rfl
theorem m_177 : Cond.fieldLink RX2 34 "ClickStreet$Laws" "values" "[I" ∈ BASE := bmem 177 (by decide +kernel) rfl
theorem m_218 : Cond.fieldLink RX3 9 "ClickStreet$Lessons" "tells" "[I" ∈ BASE := bmem 218 (by decide +kernel) rfl
theorem m_219 : Cond.fieldLink RX3 13 "ClickStreet$Lessons" "needs" "[I" ∈ BASE := bmem 219 (by decide +kernel) rfl
theorem m_220 : Cond.fieldLink RX3 16 "ClickStreet$Lessons" "minutes" "[I" ∈ BASE := bmem 220 (by decide +kernel) rfl
theorem m_221 : Cond.fieldLink RX3 19 "ClickStreet$Lessons" "size" "I" ∈ BASE := bmem 221 (by decide +kernel) rfl
theorem m_223 : Cond.fieldLink RX3 28 "ClickStreet$Lessons" "tried" "LClickStreet$Row;" ∈ BASE := bmem 223 (by decide +kernel) rfl
theorem m_224 : Cond.fieldLink RX3 32 "ClickStreet$Lessons" "best" "LClickStreet$Row;" ∈ BASE := bmem 224 (by decide +kernel) rfl
theorem m_227 : Cond.fieldLink RX3 38 "ClickStreet$Lessons" "fewestMinutes" "I" ∈ BASE := bmem 227 (by decide +kernel) rfl
theorem m_654 : Cond.static yX2_isClick ∈ BASE := bmem 654 (by decide +kernel) rfl
theorem m_655 : Cond.code yX2_isClick cX2_isClick 2 (some .boolean) ∈ BASE := bmem 655 (by decide +kernel) rfl
theorem m_825 : Cond.instanceMethod yX1_takeFrom ∈ BASE := bmem 825 (by decide +kernel) rfl
theorem m_826 : Cond.selects yX1_takeFrom.cls yX1_takeFrom yX1_takeFrom ∈ BASE := bmem 826 (by decide +kernel) rfl
theorem m_827 : Cond.code yX1_takeFrom cX1_takeFrom 2 none ∈ BASE := bmem 827 (by decide +kernel) rfl
theorem m_842 : Cond.methodLink RX2 44 yX2_isClick ∈ BASE := bmem 842 (by decide +kernel) rfl
theorem m_867 : Cond.static yX2_late ∈ BASE := bmem 867 (by decide +kernel) rfl
theorem m_868 : Cond.code yX2_late cX2_late 2 (some .int) ∈ BASE := bmem 868 (by decide +kernel) rfl
theorem m_874 : Cond.instanceMethod yX2_strength ∈ BASE := bmem 874 (by decide +kernel) rfl
theorem m_875 : Cond.selects yX2_strength.cls yX2_strength yX2_strength ∈ BASE := bmem 875 (by decide +kernel) rfl
theorem m_876 : Cond.code yX2_strength cX2_strength 8 (some .int) ∈ BASE := bmem 876 (by decide +kernel) rfl
theorem m_877 : Cond.methodLink RX2 48 yX1_isGiven ∈ BASE := bmem 877 (by decide +kernel) rfl
theorem m_878 : Cond.instanceMethod yX1_isGiven ∈ BASE := bmem 878 (by decide +kernel) rfl
theorem m_879 : Cond.selects yX1_isGiven.cls yX1_isGiven yX1_isGiven ∈ BASE := bmem 879 (by decide +kernel) rfl
theorem m_880 : Cond.code yX1_isGiven cX1_isGiven 1 (some .boolean) ∈ BASE := bmem 880 (by decide +kernel) rfl
theorem m_881 : Cond.methodLink RX2 52 yX1_work ∈ BASE := bmem 881 (by decide +kernel) rfl
theorem m_882 : Cond.instanceMethod yX1_work ∈ BASE := bmem 882 (by decide +kernel) rfl
theorem m_883 : Cond.selects yX1_work.cls yX1_work yX1_work ∈ BASE := bmem 883 (by decide +kernel) rfl
theorem m_884 : Cond.code yX1_work cX1_work 9 (some .int) ∈ BASE := bmem 884 (by decide +kernel) rfl
theorem m_885 : Cond.methodLink RX2 56 Lib.Math.min.name ∈ BASE := bmem 885 (by decide +kernel) rfl
theorem m_886 : Cond.methodLink RX2 62 Lib.Math.max.name ∈ BASE := bmem 886 (by decide +kernel) rfl
theorem m_889 : Cond.instanceMethod yX2_isHeard ∈ BASE := bmem 889 (by decide +kernel) rfl
theorem m_890 : Cond.selects yX2_isHeard.cls yX2_isHeard yX2_isHeard ∈ BASE := bmem 890 (by decide +kernel) rfl
theorem m_891 : Cond.code yX2_isHeard cX2_isHeard 5 (some .boolean) ∈ BASE := bmem 891 (by decide +kernel) rfl
theorem m_909 : Cond.instanceMethod yX2_hears ∈ BASE := bmem 909 (by decide +kernel) rfl
theorem m_910 : Cond.selects yX2_hears.cls yX2_hears yX2_hears ∈ BASE := bmem 910 (by decide +kernel) rfl
theorem m_911 : Cond.code yX2_hears cX2_hears 6 (some .boolean) ∈ BASE := bmem 911 (by decide +kernel) rfl
theorem m_912 : Cond.methodLink RX2 65 yX2_late ∈ BASE := bmem 912 (by decide +kernel) rfl
theorem m_913 : Cond.methodLink RX2 68 yX2_strength ∈ BASE := bmem 913 (by decide +kernel) rfl
theorem m_914 : Cond.methodLink RX2 72 yX2_isHeard ∈ BASE := bmem 914 (by decide +kernel) rfl
theorem m_956 : Cond.methodLink RX2 76 yX2_hears ∈ BASE := bmem 956 (by decide +kernel) rfl
theorem m_1008 : Cond.constant "java/lang/Integer" 265 (1431655765) ∈ BASE := bmem 1008 (by decide +kernel) rfl
theorem m_1009 : Cond.constant "java/lang/Integer" 266 (858993459) ∈ BASE := bmem 1009 (by decide +kernel) rfl
theorem m_1010 : Cond.constant "java/lang/Integer" 267 (252645135) ∈ BASE := bmem 1010 (by decide +kernel) rfl
theorem m_1018 : Cond.constantLong "java/lang/Long" 314 (6148914691236517205) ∈ BASE := bmem 1018 (by decide +kernel) rfl
theorem m_1019 : Cond.constantLong "java/lang/Long" 316 (3689348814741910323) ∈ BASE := bmem 1019 (by decide +kernel) rfl
theorem m_1020 : Cond.constantLong "java/lang/Long" 318 (1085102592571150095) ∈ BASE := bmem 1020 (by decide +kernel) rfl
theorem m_1267 : Cond.methodLink RX2 80 arraycopyName ∈ BASE := bmem 1267 (by decide +kernel) rfl
theorem m_1268 : Cond.methodLink RX2 86 yX1_takeFrom ∈ BASE := bmem 1268 (by decide +kernel) rfl
theorem m_1273 : Cond.methodLink RX3 71 arraycopyName ∈ BASE := bmem 1273 (by decide +kernel) rfl
theorem kS_X2_isClick : KS yX2_isClick cX2_isClick 2 (some .boolean) 2 := ⟨m_654, m_82, m_655, by decide +kernel, by decide +kernel, by decide +kernel⟩
theorem kS_X2_late : KS yX2_late cX2_late 2 (some .int) 2 := ⟨m_867, m_82, m_868, by decide +kernel, by decide +kernel, by decide +kernel⟩
theorem kV_X1_isGiven : KV yX1_isGiven cX1_isGiven 1 (some .boolean) 0 := ⟨m_878, m_879, m_83, m_880, by decide +kernel, by decide +kernel, by decide +kernel⟩
theorem kV_X1_takeFrom : KV yX1_takeFrom cX1_takeFrom 2 none 1 := ⟨m_825, m_826, m_83, m_827, by decide +kernel, by decide +kernel, by decide +kernel⟩
theorem kV_X1_work : KV yX1_work cX1_work 9 (some .int) 1 := ⟨m_882, m_883, m_83, m_884, by decide +kernel, by decide +kernel, by decide +kernel⟩
theorem kV_X2_hears : KV yX2_hears cX2_hears 6 (some .boolean) 5 := ⟨m_909, m_910, m_82, m_911, by decide +kernel, by decide +kernel, by decide +kernel⟩
theorem kV_X2_isHeard : KV yX2_isHeard cX2_isHeard 5 (some .boolean) 4 := ⟨m_889, m_890, m_82, m_891, by decide +kernel, by decide +kernel, by decide +kernel⟩
theorem kV_X2_strength : KV yX2_strength cX2_strength 8 (some .int) 3 := ⟨m_874, m_875, m_82, m_876, by decide +kernel, by decide +kernel, by decide +kernel⟩
theorem inB2 : ∀ w ∈ u_ws RX2 TX2 7, w ∈ BASE := bmems (u_ws RX2 TX2 7) [178, 180, 182, 184, 186, 188, 190] (by decide +kernel) (by decide +kernel)
theorem inB3 : ∀ w ∈ u_ws RX3 TX3 9, w ∈ BASE := bmems (u_ws RX3 TX3 9) [230, 232, 234, 236, 238, 240, 242, 244, 246] (by decide +kernel) (by decide +kernel)
theorem fl_RX2_13 : FLK RX2 13 2 1 .int false := ⟨RX2, TX2, 7, tyX2, rfl, inB2, tyX2_ok, nmX2, by decide, rfl, rfl, Or.inl m_171⟩
theorem fl_RX2_16 : FLK RX2 16 2 2 .int false := ⟨RX2, TX2, 7, tyX2, rfl, inB2, tyX2_ok, nmX2, by decide, rfl, rfl, Or.inl m_172⟩
theorem fl_RX2_21 : FLK RX2 21 2 3 (.array .int) true := ⟨RX2, TX2, 7, tyX2, rfl, inB2, tyX2_ok, nmX2, by decide, rfl, rfl, Or.inl m_173⟩
theorem fl_RX2_25 : FLK RX2 25 2 4 (.array .int) true := ⟨RX2, TX2, 7, tyX2, rfl, inB2, tyX2_ok, nmX2, by decide, rfl, rfl, Or.inl m_174⟩
theorem fl_RX2_30 : FLK RX2 30 2 5 (.array (.object "ClickStreet$Formula")) true := ⟨RX2, TX2, 7, tyX2, rfl, inB2, tyX2_ok, nmX2, by decide, rfl, rfl, Or.inl m_175⟩
theorem fl_RX2_34 : FLK RX2 34 2 6 (.array .int) true := ⟨RX2, TX2, 7, tyX2, rfl, inB2, tyX2_ok, nmX2, by decide, rfl, rfl, Or.inl m_177⟩
theorem fl_RX2_7 : FLK RX2 7 2 0 .int false := ⟨RX2, TX2, 7, tyX2, rfl, inB2, tyX2_ok, nmX2, by decide, rfl, rfl, Or.inl m_170⟩
theorem fl_RX3_13 : FLK RX3 13 3 1 (.array .int) true := ⟨RX3, TX3, 9, tyX3, rfl, inB3, tyX3_ok, nmX3, by decide, rfl, rfl, Or.inl m_219⟩
theorem fl_RX3_16 : FLK RX3 16 3 2 (.array .int) true := ⟨RX3, TX3, 9, tyX3, rfl, inB3, tyX3_ok, nmX3, by decide, rfl, rfl, Or.inl m_220⟩
theorem fl_RX3_19 : FLK RX3 19 3 3 .int false := ⟨RX3, TX3, 9, tyX3, rfl, inB3, tyX3_ok, nmX3, by decide, rfl, rfl, Or.inl m_221⟩
theorem fl_RX3_28 : FLK RX3 28 3 4 (.object "ClickStreet$Row") true := ⟨RX3, TX3, 9, tyX3, rfl, inB3, tyX3_ok, nmX3, by decide, rfl, rfl, Or.inl m_223⟩
theorem fl_RX3_32 : FLK RX3 32 3 5 (.object "ClickStreet$Row") true := ⟨RX3, TX3, 9, tyX3, rfl, inB3, tyX3_ok, nmX3, by decide, rfl, rfl, Or.inl m_224⟩
theorem fl_RX3_38 : FLK RX3 38 3 7 .int false := ⟨RX3, TX3, 9, tyX3, rfl, inB3, tyX3_ok, nmX3, by decide, rfl, rfl, Or.inl m_227⟩
theorem fl_RX3_70 : FLK RX3 70 5 1 .int false := ⟨RX5, TX5, 2, tyX5, rfl, inB5, tyX5_ok, nmX5, by decide, rfl, rfl, Or.inr ⟨"ClickStreet", List.mem_of_getElem? (l := NFs) (i := 8) rfl⟩⟩
theorem fl_RX3_9 : FLK RX3 9 3 0 (.array .int) true := ⟨RX3, TX3, 9, tyX3, rfl, inB3, tyX3_ok, nmX3, by decide, rfl, rfl, Or.inl m_218⟩
theorem ch_cJI_bitCount_0 : (cJI_bitCount.data.toList.drop 0).take 36 = [26, 26, 4, 124, 19, 1, 9, 126, 100, 59, 26, 19, 1, 10, 126, 26, 5, 124, 19, 1, 10, 126, 96, 59, 26, 26, 7, 124, 96, 19, 1, 11, 126, 59, 26, 26] := by decide +kernel
theorem dJI_bitCount_0 : decode cJI_bitCount 0 = .ok (.iload_n 0, 1) := do_26 (rdb (p := 0) (i := 0) ch_cJI_bitCount_0 rfl)
theorem dJI_bitCount_1 : decode cJI_bitCount 1 = .ok (.iload_n 0, 1) := do_26 (rdb (p := 0) (i := 1) ch_cJI_bitCount_0 rfl)
theorem dJI_bitCount_2 : decode cJI_bitCount 2 = .ok (.iconst 1, 1) := do_4 (rdb (p := 0) (i := 2) ch_cJI_bitCount_0 rfl)
theorem dJI_bitCount_3 : decode cJI_bitCount 3 = .ok (.iushr, 1) := by decide +kernel
theorem dJI_bitCount_4 : decode cJI_bitCount 4 = .ok (.ldc_w 265, 3) := do_19 (rdb (p := 0) (i := 4) ch_cJI_bitCount_0 rfl) (rdb (p := 0) (i := 5) ch_cJI_bitCount_0 rfl) (rdb (p := 0) (i := 6) ch_cJI_bitCount_0 rfl) rfl
theorem dJI_bitCount_7 : decode cJI_bitCount 7 = .ok (.iand, 1) := do_126 (rdb (p := 0) (i := 7) ch_cJI_bitCount_0 rfl)
theorem dJI_bitCount_8 : decode cJI_bitCount 8 = .ok (.isub, 1) := do_100 (rdb (p := 0) (i := 8) ch_cJI_bitCount_0 rfl)
theorem dJI_bitCount_9 : decode cJI_bitCount 9 = .ok (.istore_n 0, 1) := by decide +kernel
theorem dJI_bitCount_10 : decode cJI_bitCount 10 = .ok (.iload_n 0, 1) := do_26 (rdb (p := 0) (i := 10) ch_cJI_bitCount_0 rfl)
theorem dJI_bitCount_11 : decode cJI_bitCount 11 = .ok (.ldc_w 266, 3) := do_19 (rdb (p := 0) (i := 11) ch_cJI_bitCount_0 rfl) (rdb (p := 0) (i := 12) ch_cJI_bitCount_0 rfl) (rdb (p := 0) (i := 13) ch_cJI_bitCount_0 rfl) rfl
theorem dJI_bitCount_14 : decode cJI_bitCount 14 = .ok (.iand, 1) := do_126 (rdb (p := 0) (i := 14) ch_cJI_bitCount_0 rfl)
theorem dJI_bitCount_15 : decode cJI_bitCount 15 = .ok (.iload_n 0, 1) := do_26 (rdb (p := 0) (i := 15) ch_cJI_bitCount_0 rfl)
theorem dJI_bitCount_16 : decode cJI_bitCount 16 = .ok (.iconst 2, 1) := do_5 (rdb (p := 0) (i := 16) ch_cJI_bitCount_0 rfl)
theorem dJI_bitCount_17 : decode cJI_bitCount 17 = .ok (.iushr, 1) := by decide +kernel
theorem dJI_bitCount_18 : decode cJI_bitCount 18 = .ok (.ldc_w 266, 3) := do_19 (rdb (p := 0) (i := 18) ch_cJI_bitCount_0 rfl) (rdb (p := 0) (i := 19) ch_cJI_bitCount_0 rfl) (rdb (p := 0) (i := 20) ch_cJI_bitCount_0 rfl) rfl
theorem dJI_bitCount_21 : decode cJI_bitCount 21 = .ok (.iand, 1) := do_126 (rdb (p := 0) (i := 21) ch_cJI_bitCount_0 rfl)
theorem dJI_bitCount_22 : decode cJI_bitCount 22 = .ok (.iadd, 1) := do_96 (rdb (p := 0) (i := 22) ch_cJI_bitCount_0 rfl)
theorem dJI_bitCount_23 : decode cJI_bitCount 23 = .ok (.istore_n 0, 1) := by decide +kernel
theorem dJI_bitCount_24 : decode cJI_bitCount 24 = .ok (.iload_n 0, 1) := do_26 (rdb (p := 0) (i := 24) ch_cJI_bitCount_0 rfl)
theorem dJI_bitCount_25 : decode cJI_bitCount 25 = .ok (.iload_n 0, 1) := do_26 (rdb (p := 0) (i := 25) ch_cJI_bitCount_0 rfl)
theorem dJI_bitCount_26 : decode cJI_bitCount 26 = .ok (.iconst 4, 1) := do_7 (rdb (p := 0) (i := 26) ch_cJI_bitCount_0 rfl)
theorem dJI_bitCount_27 : decode cJI_bitCount 27 = .ok (.iushr, 1) := by decide +kernel
theorem dJI_bitCount_28 : decode cJI_bitCount 28 = .ok (.iadd, 1) := do_96 (rdb (p := 0) (i := 28) ch_cJI_bitCount_0 rfl)
theorem dJI_bitCount_29 : decode cJI_bitCount 29 = .ok (.ldc_w 267, 3) := do_19 (rdb (p := 0) (i := 29) ch_cJI_bitCount_0 rfl) (rdb (p := 0) (i := 30) ch_cJI_bitCount_0 rfl) (rdb (p := 0) (i := 31) ch_cJI_bitCount_0 rfl) rfl
theorem ch_cJI_bitCount_32 : (cJI_bitCount.data.toList.drop 32).take 36 = [126, 59, 26, 26, 16, 8, 124, 96, 59, 26, 26, 16, 16, 124, 96, 59, 26, 16, 63, 126, 172] := by decide +kernel
theorem dJI_bitCount_32 : decode cJI_bitCount 32 = .ok (.iand, 1) := do_126 (rdb (p := 32) (i := 0) ch_cJI_bitCount_32 rfl)
theorem dJI_bitCount_33 : decode cJI_bitCount 33 = .ok (.istore_n 0, 1) := by decide +kernel
theorem dJI_bitCount_34 : decode cJI_bitCount 34 = .ok (.iload_n 0, 1) := do_26 (rdb (p := 32) (i := 2) ch_cJI_bitCount_32 rfl)
theorem dJI_bitCount_35 : decode cJI_bitCount 35 = .ok (.iload_n 0, 1) := do_26 (rdb (p := 32) (i := 3) ch_cJI_bitCount_32 rfl)
theorem dJI_bitCount_36 : decode cJI_bitCount 36 = .ok (.bipush 8, 2) := do_16 (rdb (p := 32) (i := 4) ch_cJI_bitCount_32 rfl) (rdb (p := 32) (i := 5) ch_cJI_bitCount_32 rfl) (by decide +kernel)
theorem dJI_bitCount_38 : decode cJI_bitCount 38 = .ok (.iushr, 1) := by decide +kernel
theorem dJI_bitCount_39 : decode cJI_bitCount 39 = .ok (.iadd, 1) := do_96 (rdb (p := 32) (i := 7) ch_cJI_bitCount_32 rfl)
theorem dJI_bitCount_40 : decode cJI_bitCount 40 = .ok (.istore_n 0, 1) := by decide +kernel
theorem dJI_bitCount_41 : decode cJI_bitCount 41 = .ok (.iload_n 0, 1) := do_26 (rdb (p := 32) (i := 9) ch_cJI_bitCount_32 rfl)
theorem dJI_bitCount_42 : decode cJI_bitCount 42 = .ok (.iload_n 0, 1) := do_26 (rdb (p := 32) (i := 10) ch_cJI_bitCount_32 rfl)
theorem dJI_bitCount_43 : decode cJI_bitCount 43 = .ok (.bipush 16, 2) := do_16 (rdb (p := 32) (i := 11) ch_cJI_bitCount_32 rfl) (rdb (p := 32) (i := 12) ch_cJI_bitCount_32 rfl) (by decide +kernel)
theorem dJI_bitCount_45 : decode cJI_bitCount 45 = .ok (.iushr, 1) := by decide +kernel
theorem dJI_bitCount_46 : decode cJI_bitCount 46 = .ok (.iadd, 1) := do_96 (rdb (p := 32) (i := 14) ch_cJI_bitCount_32 rfl)
theorem dJI_bitCount_47 : decode cJI_bitCount 47 = .ok (.istore_n 0, 1) := by decide +kernel
theorem dJI_bitCount_48 : decode cJI_bitCount 48 = .ok (.iload_n 0, 1) := do_26 (rdb (p := 32) (i := 16) ch_cJI_bitCount_32 rfl)
theorem dJI_bitCount_49 : decode cJI_bitCount 49 = .ok (.bipush 63, 2) := do_16 (rdb (p := 32) (i := 17) ch_cJI_bitCount_32 rfl) (rdb (p := 32) (i := 18) ch_cJI_bitCount_32 rfl) (by decide +kernel)
theorem dJI_bitCount_51 : decode cJI_bitCount 51 = .ok (.iand, 1) := do_126 (rdb (p := 32) (i := 19) ch_cJI_bitCount_32 rfl)
theorem dJI_bitCount_52 : decode cJI_bitCount 52 = .ok (.ireturn, 1) := do_172 (rdb (p := 32) (i := 20) ch_cJI_bitCount_32 rfl)
theorem dJL_bitCount_0 : decode cJL_bitCount 0 = .ok (.lload_n 0, 1) := by decide +kernel
theorem dJL_bitCount_1 : decode cJL_bitCount 1 = .ok (.lload_n 0, 1) := by decide +kernel
theorem ch_cJL_bitCount_0 : (cJL_bitCount.data.toList.drop 0).take 36 = [30, 30, 4, 125, 20, 1, 58, 127, 101, 63, 30, 20, 1, 60, 127, 30, 5, 125, 20, 1, 60, 127, 97, 63, 30, 30, 7, 125, 97, 20, 1, 62, 127, 63, 30, 30] := by decide +kernel
theorem dJL_bitCount_2 : decode cJL_bitCount 2 = .ok (.iconst 1, 1) := do_4 (rdb (p := 0) (i := 2) ch_cJL_bitCount_0 rfl)
theorem dJL_bitCount_3 : decode cJL_bitCount 3 = .ok (.lushr, 1) := do_125 (rdb (p := 0) (i := 3) ch_cJL_bitCount_0 rfl)
theorem dJL_bitCount_4 : decode cJL_bitCount 4 = .ok (.ldc2_w 314, 3) := do_20 (rdb (p := 0) (i := 4) ch_cJL_bitCount_0 rfl) (rdb (p := 0) (i := 5) ch_cJL_bitCount_0 rfl) (rdb (p := 0) (i := 6) ch_cJL_bitCount_0 rfl) rfl
theorem dJL_bitCount_7 : decode cJL_bitCount 7 = .ok (.land, 1) := do_127 (rdb (p := 0) (i := 7) ch_cJL_bitCount_0 rfl)
theorem dJL_bitCount_8 : decode cJL_bitCount 8 = .ok (.lsub, 1) := by decide +kernel
theorem dJL_bitCount_9 : decode cJL_bitCount 9 = .ok (.lstore_n 0, 1) := by decide +kernel
theorem dJL_bitCount_10 : decode cJL_bitCount 10 = .ok (.lload_n 0, 1) := by decide +kernel
theorem dJL_bitCount_11 : decode cJL_bitCount 11 = .ok (.ldc2_w 316, 3) := do_20 (rdb (p := 0) (i := 11) ch_cJL_bitCount_0 rfl) (rdb (p := 0) (i := 12) ch_cJL_bitCount_0 rfl) (rdb (p := 0) (i := 13) ch_cJL_bitCount_0 rfl) rfl
theorem dJL_bitCount_14 : decode cJL_bitCount 14 = .ok (.land, 1) := do_127 (rdb (p := 0) (i := 14) ch_cJL_bitCount_0 rfl)
theorem dJL_bitCount_15 : decode cJL_bitCount 15 = .ok (.lload_n 0, 1) := by decide +kernel
theorem dJL_bitCount_16 : decode cJL_bitCount 16 = .ok (.iconst 2, 1) := do_5 (rdb (p := 0) (i := 16) ch_cJL_bitCount_0 rfl)
theorem dJL_bitCount_17 : decode cJL_bitCount 17 = .ok (.lushr, 1) := do_125 (rdb (p := 0) (i := 17) ch_cJL_bitCount_0 rfl)
theorem dJL_bitCount_18 : decode cJL_bitCount 18 = .ok (.ldc2_w 316, 3) := do_20 (rdb (p := 0) (i := 18) ch_cJL_bitCount_0 rfl) (rdb (p := 0) (i := 19) ch_cJL_bitCount_0 rfl) (rdb (p := 0) (i := 20) ch_cJL_bitCount_0 rfl) rfl
theorem dJL_bitCount_21 : decode cJL_bitCount 21 = .ok (.land, 1) := do_127 (rdb (p := 0) (i := 21) ch_cJL_bitCount_0 rfl)
theorem dJL_bitCount_22 : decode cJL_bitCount 22 = .ok (.ladd, 1) := do_97 (rdb (p := 0) (i := 22) ch_cJL_bitCount_0 rfl)
theorem dJL_bitCount_23 : decode cJL_bitCount 23 = .ok (.lstore_n 0, 1) := by decide +kernel
theorem dJL_bitCount_24 : decode cJL_bitCount 24 = .ok (.lload_n 0, 1) := by decide +kernel
theorem dJL_bitCount_25 : decode cJL_bitCount 25 = .ok (.lload_n 0, 1) := by decide +kernel
theorem dJL_bitCount_26 : decode cJL_bitCount 26 = .ok (.iconst 4, 1) := do_7 (rdb (p := 0) (i := 26) ch_cJL_bitCount_0 rfl)
theorem dJL_bitCount_27 : decode cJL_bitCount 27 = .ok (.lushr, 1) := do_125 (rdb (p := 0) (i := 27) ch_cJL_bitCount_0 rfl)
theorem dJL_bitCount_28 : decode cJL_bitCount 28 = .ok (.ladd, 1) := do_97 (rdb (p := 0) (i := 28) ch_cJL_bitCount_0 rfl)
theorem dJL_bitCount_29 : decode cJL_bitCount 29 = .ok (.ldc2_w 318, 3) := do_20 (rdb (p := 0) (i := 29) ch_cJL_bitCount_0 rfl) (rdb (p := 0) (i := 30) ch_cJL_bitCount_0 rfl) (rdb (p := 0) (i := 31) ch_cJL_bitCount_0 rfl) rfl
theorem ch_cJL_bitCount_32 : (cJL_bitCount.data.toList.drop 32).take 36 = [127, 63, 30, 30, 16, 8, 125, 97, 63, 30, 30, 16, 16, 125, 97, 63, 30, 30, 16, 32, 125, 97, 63, 30, 136, 16, 127, 126, 172] := by decide +kernel
theorem dJL_bitCount_32 : decode cJL_bitCount 32 = .ok (.land, 1) := do_127 (rdb (p := 32) (i := 0) ch_cJL_bitCount_32 rfl)
theorem dJL_bitCount_33 : decode cJL_bitCount 33 = .ok (.lstore_n 0, 1) := by decide +kernel
theorem dJL_bitCount_34 : decode cJL_bitCount 34 = .ok (.lload_n 0, 1) := by decide +kernel
theorem dJL_bitCount_35 : decode cJL_bitCount 35 = .ok (.lload_n 0, 1) := by decide +kernel
theorem dJL_bitCount_36 : decode cJL_bitCount 36 = .ok (.bipush 8, 2) := do_16 (rdb (p := 32) (i := 4) ch_cJL_bitCount_32 rfl) (rdb (p := 32) (i := 5) ch_cJL_bitCount_32 rfl) (by decide +kernel)
theorem dJL_bitCount_38 : decode cJL_bitCount 38 = .ok (.lushr, 1) := do_125 (rdb (p := 32) (i := 6) ch_cJL_bitCount_32 rfl)
theorem dJL_bitCount_39 : decode cJL_bitCount 39 = .ok (.ladd, 1) := do_97 (rdb (p := 32) (i := 7) ch_cJL_bitCount_32 rfl)
theorem dJL_bitCount_40 : decode cJL_bitCount 40 = .ok (.lstore_n 0, 1) := by decide +kernel
theorem dJL_bitCount_41 : decode cJL_bitCount 41 = .ok (.lload_n 0, 1) := by decide +kernel
theorem dJL_bitCount_42 : decode cJL_bitCount 42 = .ok (.lload_n 0, 1) := by decide +kernel
theorem dJL_bitCount_43 : decode cJL_bitCount 43 = .ok (.bipush 16, 2) := do_16 (rdb (p := 32) (i := 11) ch_cJL_bitCount_32 rfl) (rdb (p := 32) (i := 12) ch_cJL_bitCount_32 rfl) (by decide +kernel)
theorem dJL_bitCount_45 : decode cJL_bitCount 45 = .ok (.lushr, 1) := do_125 (rdb (p := 32) (i := 13) ch_cJL_bitCount_32 rfl)
theorem dJL_bitCount_46 : decode cJL_bitCount 46 = .ok (.ladd, 1) := do_97 (rdb (p := 32) (i := 14) ch_cJL_bitCount_32 rfl)
theorem dJL_bitCount_47 : decode cJL_bitCount 47 = .ok (.lstore_n 0, 1) := by decide +kernel
theorem dJL_bitCount_48 : decode cJL_bitCount 48 = .ok (.lload_n 0, 1) := by decide +kernel
theorem dJL_bitCount_49 : decode cJL_bitCount 49 = .ok (.lload_n 0, 1) := by decide +kernel
theorem dJL_bitCount_50 : decode cJL_bitCount 50 = .ok (.bipush 32, 2) := do_16 (rdb (p := 32) (i := 18) ch_cJL_bitCount_32 rfl) (rdb (p := 32) (i := 19) ch_cJL_bitCount_32 rfl) (by decide +kernel)
theorem dJL_bitCount_52 : decode cJL_bitCount 52 = .ok (.lushr, 1) := do_125 (rdb (p := 32) (i := 20) ch_cJL_bitCount_32 rfl)
theorem dJL_bitCount_53 : decode cJL_bitCount 53 = .ok (.ladd, 1) := do_97 (rdb (p := 32) (i := 21) ch_cJL_bitCount_32 rfl)
theorem dJL_bitCount_54 : decode cJL_bitCount 54 = .ok (.lstore_n 0, 1) := by decide +kernel
theorem dJL_bitCount_55 : decode cJL_bitCount 55 = .ok (.lload_n 0, 1) := by decide +kernel
theorem dJL_bitCount_56 : decode cJL_bitCount 56 = .ok (.l2i, 1) := do_136 (rdb (p := 32) (i := 24) ch_cJL_bitCount_32 rfl)
theorem dJL_bitCount_57 : decode cJL_bitCount 57 = .ok (.bipush 127, 2) := do_16 (rdb (p := 32) (i := 25) ch_cJL_bitCount_32 rfl) (rdb (p := 32) (i := 26) ch_cJL_bitCount_32 rfl) (by decide +kernel)
theorem dJL_bitCount_59 : decode cJL_bitCount 59 = .ok (.iand, 1) := do_126 (rdb (p := 32) (i := 27) ch_cJL_bitCount_32 rfl)
theorem dJL_bitCount_60 : decode cJL_bitCount 60 = .ok (.ireturn, 1) := do_172 (rdb (p := 32) (i := 28) ch_cJL_bitCount_32 rfl)
theorem ch_cX2_changeAir_0 : (cX2_changeAir.data.toList.drop 0).take 36 = [27, 154, 0, 10, 42, 180, 0, 7, 167, 0, 19, 27, 4, 160, 0, 10, 42, 180, 0, 13, 167, 0, 7, 42, 180, 0, 16, 62, 27, 154, 0, 11, 42, 28, 181, 0] := by decide +kernel
theorem dX2_changeAir_0 : decode cX2_changeAir 0 = .ok (.iload_n 1, 1) := do_27 (rdb (p := 0) (i := 0) ch_cX2_changeAir_0 rfl)
theorem dX2_changeAir_1 : decode cX2_changeAir 1 = .ok (.ifCond .ne 10, 3) := do_154 (rdb (p := 0) (i := 1) ch_cX2_changeAir_0 rfl) (rdb (p := 0) (i := 2) ch_cX2_changeAir_0 rfl) (rdb (p := 0) (i := 3) ch_cX2_changeAir_0 rfl) (by decide +kernel)
theorem dX2_changeAir_4 : decode cX2_changeAir 4 = .ok (.aload_n 0, 1) := do_42 (rdb (p := 0) (i := 4) ch_cX2_changeAir_0 rfl)
theorem dX2_changeAir_5 : decode cX2_changeAir 5 = .ok (.getfield 7, 3) := do_180 (rdb (p := 0) (i := 5) ch_cX2_changeAir_0 rfl) (rdb (p := 0) (i := 6) ch_cX2_changeAir_0 rfl) (rdb (p := 0) (i := 7) ch_cX2_changeAir_0 rfl) rfl
theorem dX2_changeAir_8 : decode cX2_changeAir 8 = .ok (.goto 19, 3) := do_167 (rdb (p := 0) (i := 8) ch_cX2_changeAir_0 rfl) (rdb (p := 0) (i := 9) ch_cX2_changeAir_0 rfl) (rdb (p := 0) (i := 10) ch_cX2_changeAir_0 rfl) (by decide +kernel)
theorem dX2_changeAir_11 : decode cX2_changeAir 11 = .ok (.iload_n 1, 1) := do_27 (rdb (p := 0) (i := 11) ch_cX2_changeAir_0 rfl)
theorem dX2_changeAir_12 : decode cX2_changeAir 12 = .ok (.iconst 1, 1) := do_4 (rdb (p := 0) (i := 12) ch_cX2_changeAir_0 rfl)
theorem dX2_changeAir_13 : decode cX2_changeAir 13 = .ok (.if_icmp .ne 10, 3) := do_160 (rdb (p := 0) (i := 13) ch_cX2_changeAir_0 rfl) (rdb (p := 0) (i := 14) ch_cX2_changeAir_0 rfl) (rdb (p := 0) (i := 15) ch_cX2_changeAir_0 rfl) (by decide +kernel)
theorem dX2_changeAir_16 : decode cX2_changeAir 16 = .ok (.aload_n 0, 1) := do_42 (rdb (p := 0) (i := 16) ch_cX2_changeAir_0 rfl)
theorem dX2_changeAir_17 : decode cX2_changeAir 17 = .ok (.getfield 13, 3) := do_180 (rdb (p := 0) (i := 17) ch_cX2_changeAir_0 rfl) (rdb (p := 0) (i := 18) ch_cX2_changeAir_0 rfl) (rdb (p := 0) (i := 19) ch_cX2_changeAir_0 rfl) rfl
theorem dX2_changeAir_20 : decode cX2_changeAir 20 = .ok (.goto 7, 3) := do_167 (rdb (p := 0) (i := 20) ch_cX2_changeAir_0 rfl) (rdb (p := 0) (i := 21) ch_cX2_changeAir_0 rfl) (rdb (p := 0) (i := 22) ch_cX2_changeAir_0 rfl) (by decide +kernel)
theorem dX2_changeAir_23 : decode cX2_changeAir 23 = .ok (.aload_n 0, 1) := do_42 (rdb (p := 0) (i := 23) ch_cX2_changeAir_0 rfl)
theorem dX2_changeAir_24 : decode cX2_changeAir 24 = .ok (.getfield 16, 3) := do_180 (rdb (p := 0) (i := 24) ch_cX2_changeAir_0 rfl) (rdb (p := 0) (i := 25) ch_cX2_changeAir_0 rfl) (rdb (p := 0) (i := 26) ch_cX2_changeAir_0 rfl) rfl
theorem dX2_changeAir_27 : decode cX2_changeAir 27 = .ok (.istore_n 3, 1) := do_62 (rdb (p := 0) (i := 27) ch_cX2_changeAir_0 rfl)
theorem dX2_changeAir_28 : decode cX2_changeAir 28 = .ok (.iload_n 1, 1) := do_27 (rdb (p := 0) (i := 28) ch_cX2_changeAir_0 rfl)
theorem dX2_changeAir_29 : decode cX2_changeAir 29 = .ok (.ifCond .ne 11, 3) := do_154 (rdb (p := 0) (i := 29) ch_cX2_changeAir_0 rfl) (rdb (p := 0) (i := 30) ch_cX2_changeAir_0 rfl) (rdb (p := 0) (i := 31) ch_cX2_changeAir_0 rfl) (by decide +kernel)
theorem ch_cX2_changeAir_32 : (cX2_changeAir.data.toList.drop 32).take 36 = [42, 28, 181, 0, 7, 167, 0, 21, 27, 4, 160, 0, 11, 42, 28, 181, 0, 13, 167, 0, 8, 42, 28, 181, 0, 16, 29, 172] := by decide +kernel
theorem dX2_changeAir_32 : decode cX2_changeAir 32 = .ok (.aload_n 0, 1) := do_42 (rdb (p := 32) (i := 0) ch_cX2_changeAir_32 rfl)
theorem dX2_changeAir_33 : decode cX2_changeAir 33 = .ok (.iload_n 2, 1) := do_28 (rdb (p := 32) (i := 1) ch_cX2_changeAir_32 rfl)
theorem dX2_changeAir_34 : decode cX2_changeAir 34 = .ok (.putfield 7, 3) := do_181 (rdb (p := 32) (i := 2) ch_cX2_changeAir_32 rfl) (rdb (p := 32) (i := 3) ch_cX2_changeAir_32 rfl) (rdb (p := 32) (i := 4) ch_cX2_changeAir_32 rfl) rfl
theorem dX2_changeAir_37 : decode cX2_changeAir 37 = .ok (.goto 21, 3) := do_167 (rdb (p := 32) (i := 5) ch_cX2_changeAir_32 rfl) (rdb (p := 32) (i := 6) ch_cX2_changeAir_32 rfl) (rdb (p := 32) (i := 7) ch_cX2_changeAir_32 rfl) (by decide +kernel)
theorem dX2_changeAir_40 : decode cX2_changeAir 40 = .ok (.iload_n 1, 1) := do_27 (rdb (p := 32) (i := 8) ch_cX2_changeAir_32 rfl)
theorem dX2_changeAir_41 : decode cX2_changeAir 41 = .ok (.iconst 1, 1) := do_4 (rdb (p := 32) (i := 9) ch_cX2_changeAir_32 rfl)
theorem dX2_changeAir_42 : decode cX2_changeAir 42 = .ok (.if_icmp .ne 11, 3) := do_160 (rdb (p := 32) (i := 10) ch_cX2_changeAir_32 rfl) (rdb (p := 32) (i := 11) ch_cX2_changeAir_32 rfl) (rdb (p := 32) (i := 12) ch_cX2_changeAir_32 rfl) (by decide +kernel)
theorem dX2_changeAir_45 : decode cX2_changeAir 45 = .ok (.aload_n 0, 1) := do_42 (rdb (p := 32) (i := 13) ch_cX2_changeAir_32 rfl)
theorem dX2_changeAir_46 : decode cX2_changeAir 46 = .ok (.iload_n 2, 1) := do_28 (rdb (p := 32) (i := 14) ch_cX2_changeAir_32 rfl)
theorem dX2_changeAir_47 : decode cX2_changeAir 47 = .ok (.putfield 13, 3) := do_181 (rdb (p := 32) (i := 15) ch_cX2_changeAir_32 rfl) (rdb (p := 32) (i := 16) ch_cX2_changeAir_32 rfl) (rdb (p := 32) (i := 17) ch_cX2_changeAir_32 rfl) rfl
theorem dX2_changeAir_50 : decode cX2_changeAir 50 = .ok (.goto 8, 3) := do_167 (rdb (p := 32) (i := 18) ch_cX2_changeAir_32 rfl) (rdb (p := 32) (i := 19) ch_cX2_changeAir_32 rfl) (rdb (p := 32) (i := 20) ch_cX2_changeAir_32 rfl) (by decide +kernel)
theorem dX2_changeAir_53 : decode cX2_changeAir 53 = .ok (.aload_n 0, 1) := do_42 (rdb (p := 32) (i := 21) ch_cX2_changeAir_32 rfl)
theorem dX2_changeAir_54 : decode cX2_changeAir 54 = .ok (.iload_n 2, 1) := do_28 (rdb (p := 32) (i := 22) ch_cX2_changeAir_32 rfl)
theorem dX2_changeAir_55 : decode cX2_changeAir 55 = .ok (.putfield 16, 3) := do_181 (rdb (p := 32) (i := 23) ch_cX2_changeAir_32 rfl) (rdb (p := 32) (i := 24) ch_cX2_changeAir_32 rfl) (rdb (p := 32) (i := 25) ch_cX2_changeAir_32 rfl) rfl
theorem dX2_changeAir_58 : decode cX2_changeAir 58 = .ok (.iload_n 3, 1) := do_29 (rdb (p := 32) (i := 26) ch_cX2_changeAir_32 rfl)
theorem dX2_changeAir_59 : decode cX2_changeAir 59 = .ok (.ireturn, 1) := do_172 (rdb (p := 32) (i := 27) ch_cX2_changeAir_32 rfl)
theorem ch_cX2_changeKind_0 : (cX2_changeKind.data.toList.drop 0).take 36 = [28, 154, 0, 10, 42, 180, 0, 21, 167, 0, 7, 42, 180, 0, 25, 58, 4, 27, 155, 0, 10, 27, 25, 4, 190, 161, 0, 5, 3, 172, 25, 4, 27, 46, 54, 5] := by decide +kernel
theorem dX2_changeKind_0 : decode cX2_changeKind 0 = .ok (.iload_n 2, 1) := do_28 (rdb (p := 0) (i := 0) ch_cX2_changeKind_0 rfl)
theorem dX2_changeKind_1 : decode cX2_changeKind 1 = .ok (.ifCond .ne 10, 3) := do_154 (rdb (p := 0) (i := 1) ch_cX2_changeKind_0 rfl) (rdb (p := 0) (i := 2) ch_cX2_changeKind_0 rfl) (rdb (p := 0) (i := 3) ch_cX2_changeKind_0 rfl) (by decide +kernel)
theorem dX2_changeKind_4 : decode cX2_changeKind 4 = .ok (.aload_n 0, 1) := do_42 (rdb (p := 0) (i := 4) ch_cX2_changeKind_0 rfl)
theorem dX2_changeKind_5 : decode cX2_changeKind 5 = .ok (.getfield 21, 3) := do_180 (rdb (p := 0) (i := 5) ch_cX2_changeKind_0 rfl) (rdb (p := 0) (i := 6) ch_cX2_changeKind_0 rfl) (rdb (p := 0) (i := 7) ch_cX2_changeKind_0 rfl) rfl
theorem dX2_changeKind_8 : decode cX2_changeKind 8 = .ok (.goto 7, 3) := do_167 (rdb (p := 0) (i := 8) ch_cX2_changeKind_0 rfl) (rdb (p := 0) (i := 9) ch_cX2_changeKind_0 rfl) (rdb (p := 0) (i := 10) ch_cX2_changeKind_0 rfl) (by decide +kernel)
theorem dX2_changeKind_11 : decode cX2_changeKind 11 = .ok (.aload_n 0, 1) := do_42 (rdb (p := 0) (i := 11) ch_cX2_changeKind_0 rfl)
theorem dX2_changeKind_12 : decode cX2_changeKind 12 = .ok (.getfield 25, 3) := do_180 (rdb (p := 0) (i := 12) ch_cX2_changeKind_0 rfl) (rdb (p := 0) (i := 13) ch_cX2_changeKind_0 rfl) (rdb (p := 0) (i := 14) ch_cX2_changeKind_0 rfl) rfl
theorem dX2_changeKind_15 : decode cX2_changeKind 15 = .ok (.astore 4, 2) := do_58 (rdb (p := 0) (i := 15) ch_cX2_changeKind_0 rfl) (rdb (p := 0) (i := 16) ch_cX2_changeKind_0 rfl)
theorem dX2_changeKind_17 : decode cX2_changeKind 17 = .ok (.iload_n 1, 1) := do_27 (rdb (p := 0) (i := 17) ch_cX2_changeKind_0 rfl)
theorem dX2_changeKind_18 : decode cX2_changeKind 18 = .ok (.ifCond .lt 10, 3) := do_155 (rdb (p := 0) (i := 18) ch_cX2_changeKind_0 rfl) (rdb (p := 0) (i := 19) ch_cX2_changeKind_0 rfl) (rdb (p := 0) (i := 20) ch_cX2_changeKind_0 rfl) (by decide +kernel)
theorem dX2_changeKind_21 : decode cX2_changeKind 21 = .ok (.iload_n 1, 1) := do_27 (rdb (p := 0) (i := 21) ch_cX2_changeKind_0 rfl)
theorem dX2_changeKind_22 : decode cX2_changeKind 22 = .ok (.aload 4, 2) := do_25 (rdb (p := 0) (i := 22) ch_cX2_changeKind_0 rfl) (rdb (p := 0) (i := 23) ch_cX2_changeKind_0 rfl)
theorem dX2_changeKind_24 : decode cX2_changeKind 24 = .ok (.arraylength, 1) := do_190 (rdb (p := 0) (i := 24) ch_cX2_changeKind_0 rfl)
theorem dX2_changeKind_25 : decode cX2_changeKind 25 = .ok (.if_icmp .lt 5, 3) := do_161 (rdb (p := 0) (i := 25) ch_cX2_changeKind_0 rfl) (rdb (p := 0) (i := 26) ch_cX2_changeKind_0 rfl) (rdb (p := 0) (i := 27) ch_cX2_changeKind_0 rfl) (by decide +kernel)
theorem dX2_changeKind_28 : decode cX2_changeKind 28 = .ok (.iconst 0, 1) := do_3 (rdb (p := 0) (i := 28) ch_cX2_changeKind_0 rfl)
theorem dX2_changeKind_29 : decode cX2_changeKind 29 = .ok (.ireturn, 1) := do_172 (rdb (p := 0) (i := 29) ch_cX2_changeKind_0 rfl)
theorem dX2_changeKind_30 : decode cX2_changeKind 30 = .ok (.aload 4, 2) := do_25 (rdb (p := 0) (i := 30) ch_cX2_changeKind_0 rfl) (rdb (p := 0) (i := 31) ch_cX2_changeKind_0 rfl)
theorem ch_cX2_changeKind_32 : (cX2_changeKind.data.toList.drop 32).take 36 = [27, 46, 54, 5, 25, 4, 27, 29, 79, 21, 5, 172] := by decide +kernel
theorem dX2_changeKind_32 : decode cX2_changeKind 32 = .ok (.iload_n 1, 1) := do_27 (rdb (p := 32) (i := 0) ch_cX2_changeKind_32 rfl)
theorem dX2_changeKind_33 : decode cX2_changeKind 33 = .ok (.iaload, 1) := do_46 (rdb (p := 32) (i := 1) ch_cX2_changeKind_32 rfl)
theorem dX2_changeKind_34 : decode cX2_changeKind 34 = .ok (.istore 5, 2) := do_54 (rdb (p := 32) (i := 2) ch_cX2_changeKind_32 rfl) (rdb (p := 32) (i := 3) ch_cX2_changeKind_32 rfl)
theorem dX2_changeKind_36 : decode cX2_changeKind 36 = .ok (.aload 4, 2) := do_25 (rdb (p := 32) (i := 4) ch_cX2_changeKind_32 rfl) (rdb (p := 32) (i := 5) ch_cX2_changeKind_32 rfl)
theorem dX2_changeKind_38 : decode cX2_changeKind 38 = .ok (.iload_n 1, 1) := do_27 (rdb (p := 32) (i := 6) ch_cX2_changeKind_32 rfl)
theorem dX2_changeKind_39 : decode cX2_changeKind 39 = .ok (.iload_n 3, 1) := do_29 (rdb (p := 32) (i := 7) ch_cX2_changeKind_32 rfl)
theorem dX2_changeKind_40 : decode cX2_changeKind 40 = .ok (.iastore, 1) := do_79 (rdb (p := 32) (i := 8) ch_cX2_changeKind_32 rfl)
theorem dX2_changeKind_41 : decode cX2_changeKind 41 = .ok (.iload 5, 2) := do_21 (rdb (p := 32) (i := 9) ch_cX2_changeKind_32 rfl) (rdb (p := 32) (i := 10) ch_cX2_changeKind_32 rfl)
theorem dX2_changeKind_43 : decode cX2_changeKind 43 = .ok (.ireturn, 1) := do_172 (rdb (p := 32) (i := 11) ch_cX2_changeKind_32 rfl)
theorem ch_cX2_habitValue_0 : (cX2_habitValue.data.toList.drop 0).take 36 = [42, 180, 0, 30, 5, 50, 182, 0, 48, 154, 0, 14, 27, 4, 160, 0, 7, 4, 167, 0, 4, 3, 172, 42, 180, 0, 34, 3, 27, 79, 42, 180, 0, 34, 4, 28] := by decide +kernel
theorem dX2_habitValue_0 : decode cX2_habitValue 0 = .ok (.aload_n 0, 1) := do_42 (rdb (p := 0) (i := 0) ch_cX2_habitValue_0 rfl)
theorem dX2_habitValue_1 : decode cX2_habitValue 1 = .ok (.getfield 30, 3) := do_180 (rdb (p := 0) (i := 1) ch_cX2_habitValue_0 rfl) (rdb (p := 0) (i := 2) ch_cX2_habitValue_0 rfl) (rdb (p := 0) (i := 3) ch_cX2_habitValue_0 rfl) rfl
theorem dX2_habitValue_4 : decode cX2_habitValue 4 = .ok (.iconst 2, 1) := do_5 (rdb (p := 0) (i := 4) ch_cX2_habitValue_0 rfl)
theorem dX2_habitValue_5 : decode cX2_habitValue 5 = .ok (.aaload, 1) := do_50 (rdb (p := 0) (i := 5) ch_cX2_habitValue_0 rfl)
theorem dX2_habitValue_6 : decode cX2_habitValue 6 = .ok (.invokevirtual 48, 3) := do_182 (rdb (p := 0) (i := 6) ch_cX2_habitValue_0 rfl) (rdb (p := 0) (i := 7) ch_cX2_habitValue_0 rfl) (rdb (p := 0) (i := 8) ch_cX2_habitValue_0 rfl) rfl
theorem dX2_habitValue_9 : decode cX2_habitValue 9 = .ok (.ifCond .ne 14, 3) := do_154 (rdb (p := 0) (i := 9) ch_cX2_habitValue_0 rfl) (rdb (p := 0) (i := 10) ch_cX2_habitValue_0 rfl) (rdb (p := 0) (i := 11) ch_cX2_habitValue_0 rfl) (by decide +kernel)
theorem dX2_habitValue_12 : decode cX2_habitValue 12 = .ok (.iload_n 1, 1) := do_27 (rdb (p := 0) (i := 12) ch_cX2_habitValue_0 rfl)
theorem dX2_habitValue_13 : decode cX2_habitValue 13 = .ok (.iconst 1, 1) := do_4 (rdb (p := 0) (i := 13) ch_cX2_habitValue_0 rfl)
theorem dX2_habitValue_14 : decode cX2_habitValue 14 = .ok (.if_icmp .ne 7, 3) := do_160 (rdb (p := 0) (i := 14) ch_cX2_habitValue_0 rfl) (rdb (p := 0) (i := 15) ch_cX2_habitValue_0 rfl) (rdb (p := 0) (i := 16) ch_cX2_habitValue_0 rfl) (by decide +kernel)
theorem dX2_habitValue_17 : decode cX2_habitValue 17 = .ok (.iconst 1, 1) := do_4 (rdb (p := 0) (i := 17) ch_cX2_habitValue_0 rfl)
theorem dX2_habitValue_18 : decode cX2_habitValue 18 = .ok (.goto 4, 3) := do_167 (rdb (p := 0) (i := 18) ch_cX2_habitValue_0 rfl) (rdb (p := 0) (i := 19) ch_cX2_habitValue_0 rfl) (rdb (p := 0) (i := 20) ch_cX2_habitValue_0 rfl) (by decide +kernel)
theorem dX2_habitValue_21 : decode cX2_habitValue 21 = .ok (.iconst 0, 1) := do_3 (rdb (p := 0) (i := 21) ch_cX2_habitValue_0 rfl)
theorem dX2_habitValue_22 : decode cX2_habitValue 22 = .ok (.ireturn, 1) := do_172 (rdb (p := 0) (i := 22) ch_cX2_habitValue_0 rfl)
theorem dX2_habitValue_23 : decode cX2_habitValue 23 = .ok (.aload_n 0, 1) := do_42 (rdb (p := 0) (i := 23) ch_cX2_habitValue_0 rfl)
theorem dX2_habitValue_24 : decode cX2_habitValue 24 = .ok (.getfield 34, 3) := do_180 (rdb (p := 0) (i := 24) ch_cX2_habitValue_0 rfl) (rdb (p := 0) (i := 25) ch_cX2_habitValue_0 rfl) (rdb (p := 0) (i := 26) ch_cX2_habitValue_0 rfl) rfl
theorem dX2_habitValue_27 : decode cX2_habitValue 27 = .ok (.iconst 0, 1) := do_3 (rdb (p := 0) (i := 27) ch_cX2_habitValue_0 rfl)
theorem dX2_habitValue_28 : decode cX2_habitValue 28 = .ok (.iload_n 1, 1) := do_27 (rdb (p := 0) (i := 28) ch_cX2_habitValue_0 rfl)
theorem dX2_habitValue_29 : decode cX2_habitValue 29 = .ok (.iastore, 1) := do_79 (rdb (p := 0) (i := 29) ch_cX2_habitValue_0 rfl)
theorem dX2_habitValue_30 : decode cX2_habitValue 30 = .ok (.aload_n 0, 1) := do_42 (rdb (p := 0) (i := 30) ch_cX2_habitValue_0 rfl)
theorem dX2_habitValue_31 : decode cX2_habitValue 31 = .ok (.getfield 34, 3) := do_180 (rdb (p := 0) (i := 31) ch_cX2_habitValue_0 rfl) (rdb (p := 0) (i := 32) ch_cX2_habitValue_0 rfl) (rdb (p := 0) (i := 33) ch_cX2_habitValue_0 rfl) rfl
theorem ch_cX2_habitValue_32 : (cX2_habitValue.data.toList.drop 32).take 36 = [0, 34, 4, 28, 79, 42, 180, 0, 34, 5, 29, 79, 42, 180, 0, 34, 6, 21, 4, 79, 42, 180, 0, 34, 7, 21, 5, 79, 42, 180, 0, 30, 5, 50, 42, 180] := by decide +kernel
theorem dX2_habitValue_34 : decode cX2_habitValue 34 = .ok (.iconst 1, 1) := do_4 (rdb (p := 32) (i := 2) ch_cX2_habitValue_32 rfl)
theorem dX2_habitValue_35 : decode cX2_habitValue 35 = .ok (.iload_n 2, 1) := do_28 (rdb (p := 32) (i := 3) ch_cX2_habitValue_32 rfl)
theorem dX2_habitValue_36 : decode cX2_habitValue 36 = .ok (.iastore, 1) := do_79 (rdb (p := 32) (i := 4) ch_cX2_habitValue_32 rfl)
theorem dX2_habitValue_37 : decode cX2_habitValue 37 = .ok (.aload_n 0, 1) := do_42 (rdb (p := 32) (i := 5) ch_cX2_habitValue_32 rfl)
theorem dX2_habitValue_38 : decode cX2_habitValue 38 = .ok (.getfield 34, 3) := do_180 (rdb (p := 32) (i := 6) ch_cX2_habitValue_32 rfl) (rdb (p := 32) (i := 7) ch_cX2_habitValue_32 rfl) (rdb (p := 32) (i := 8) ch_cX2_habitValue_32 rfl) rfl
theorem dX2_habitValue_41 : decode cX2_habitValue 41 = .ok (.iconst 2, 1) := do_5 (rdb (p := 32) (i := 9) ch_cX2_habitValue_32 rfl)
theorem dX2_habitValue_42 : decode cX2_habitValue 42 = .ok (.iload_n 3, 1) := do_29 (rdb (p := 32) (i := 10) ch_cX2_habitValue_32 rfl)
theorem dX2_habitValue_43 : decode cX2_habitValue 43 = .ok (.iastore, 1) := do_79 (rdb (p := 32) (i := 11) ch_cX2_habitValue_32 rfl)
theorem dX2_habitValue_44 : decode cX2_habitValue 44 = .ok (.aload_n 0, 1) := do_42 (rdb (p := 32) (i := 12) ch_cX2_habitValue_32 rfl)
theorem dX2_habitValue_45 : decode cX2_habitValue 45 = .ok (.getfield 34, 3) := do_180 (rdb (p := 32) (i := 13) ch_cX2_habitValue_32 rfl) (rdb (p := 32) (i := 14) ch_cX2_habitValue_32 rfl) (rdb (p := 32) (i := 15) ch_cX2_habitValue_32 rfl) rfl
theorem dX2_habitValue_48 : decode cX2_habitValue 48 = .ok (.iconst 3, 1) := do_6 (rdb (p := 32) (i := 16) ch_cX2_habitValue_32 rfl)
theorem dX2_habitValue_49 : decode cX2_habitValue 49 = .ok (.iload 4, 2) := do_21 (rdb (p := 32) (i := 17) ch_cX2_habitValue_32 rfl) (rdb (p := 32) (i := 18) ch_cX2_habitValue_32 rfl)
theorem dX2_habitValue_51 : decode cX2_habitValue 51 = .ok (.iastore, 1) := do_79 (rdb (p := 32) (i := 19) ch_cX2_habitValue_32 rfl)
theorem dX2_habitValue_52 : decode cX2_habitValue 52 = .ok (.aload_n 0, 1) := do_42 (rdb (p := 32) (i := 20) ch_cX2_habitValue_32 rfl)
theorem dX2_habitValue_53 : decode cX2_habitValue 53 = .ok (.getfield 34, 3) := do_180 (rdb (p := 32) (i := 21) ch_cX2_habitValue_32 rfl) (rdb (p := 32) (i := 22) ch_cX2_habitValue_32 rfl) (rdb (p := 32) (i := 23) ch_cX2_habitValue_32 rfl) rfl
theorem dX2_habitValue_56 : decode cX2_habitValue 56 = .ok (.iconst 4, 1) := do_7 (rdb (p := 32) (i := 24) ch_cX2_habitValue_32 rfl)
theorem dX2_habitValue_57 : decode cX2_habitValue 57 = .ok (.iload 5, 2) := do_21 (rdb (p := 32) (i := 25) ch_cX2_habitValue_32 rfl) (rdb (p := 32) (i := 26) ch_cX2_habitValue_32 rfl)
theorem dX2_habitValue_59 : decode cX2_habitValue 59 = .ok (.iastore, 1) := do_79 (rdb (p := 32) (i := 27) ch_cX2_habitValue_32 rfl)
theorem dX2_habitValue_60 : decode cX2_habitValue 60 = .ok (.aload_n 0, 1) := do_42 (rdb (p := 32) (i := 28) ch_cX2_habitValue_32 rfl)
theorem dX2_habitValue_61 : decode cX2_habitValue 61 = .ok (.getfield 30, 3) := do_180 (rdb (p := 32) (i := 29) ch_cX2_habitValue_32 rfl) (rdb (p := 32) (i := 30) ch_cX2_habitValue_32 rfl) (rdb (p := 32) (i := 31) ch_cX2_habitValue_32 rfl) rfl
theorem ch_cX2_habitValue_64 : (cX2_habitValue.data.toList.drop 64).take 36 = [5, 50, 42, 180, 0, 34, 182, 0, 52, 172] := by decide +kernel
theorem dX2_habitValue_64 : decode cX2_habitValue 64 = .ok (.iconst 2, 1) := do_5 (rdb (p := 64) (i := 0) ch_cX2_habitValue_64 rfl)
theorem dX2_habitValue_65 : decode cX2_habitValue 65 = .ok (.aaload, 1) := do_50 (rdb (p := 64) (i := 1) ch_cX2_habitValue_64 rfl)
theorem dX2_habitValue_66 : decode cX2_habitValue 66 = .ok (.aload_n 0, 1) := do_42 (rdb (p := 64) (i := 2) ch_cX2_habitValue_64 rfl)
theorem dX2_habitValue_67 : decode cX2_habitValue 67 = .ok (.getfield 34, 3) := do_180 (rdb (p := 64) (i := 3) ch_cX2_habitValue_64 rfl) (rdb (p := 64) (i := 4) ch_cX2_habitValue_64 rfl) (rdb (p := 64) (i := 5) ch_cX2_habitValue_64 rfl) rfl
theorem dX2_habitValue_70 : decode cX2_habitValue 70 = .ok (.invokevirtual 52, 3) := do_182 (rdb (p := 64) (i := 6) ch_cX2_habitValue_64 rfl) (rdb (p := 64) (i := 7) ch_cX2_habitValue_64 rfl) (rdb (p := 64) (i := 8) ch_cX2_habitValue_64 rfl) rfl
theorem dX2_habitValue_73 : decode cX2_habitValue 73 = .ok (.ireturn, 1) := do_172 (rdb (p := 64) (i := 9) ch_cX2_habitValue_64 rfl)
theorem dX2_hears_0 : decode cX2_hears 0 = .ok (.aload_n 0, 1) := by decide +kernel
theorem dX2_hears_1 : decode cX2_hears 1 = .ok (.iload_n 1, 1) := by decide +kernel
theorem dX2_hears_2 : decode cX2_hears 2 = .ok (.iload_n 3, 1) := by decide +kernel
theorem dX2_hears_3 : decode cX2_hears 3 = .ok (.iload 5, 2) := by decide +kernel
theorem dX2_hears_5 : decode cX2_hears 5 = .ok (.iload 4, 2) := by decide +kernel
theorem dX2_hears_7 : decode cX2_hears 7 = .ok (.invokestatic 65, 3) := by decide +kernel
theorem dX2_hears_10 : decode cX2_hears 10 = .ok (.aload_n 0, 1) := by decide +kernel
theorem dX2_hears_11 : decode cX2_hears 11 = .ok (.iload_n 2, 1) := by decide +kernel
theorem dX2_hears_12 : decode cX2_hears 12 = .ok (.iload_n 3, 1) := by decide +kernel
theorem dX2_hears_13 : decode cX2_hears 13 = .ok (.iload 4, 2) := by decide +kernel
theorem dX2_hears_15 : decode cX2_hears 15 = .ok (.invokevirtual 68, 3) := by decide +kernel
theorem dX2_hears_18 : decode cX2_hears 18 = .ok (.invokevirtual 72, 3) := by decide +kernel
theorem dX2_hears_21 : decode cX2_hears 21 = .ok (.ireturn, 1) := by decide +kernel
theorem dX2_isClick_0 : decode cX2_isClick 0 = .ok (.iload_n 0, 1) := by decide +kernel
theorem dX2_isClick_1 : decode cX2_isClick 1 = .ok (.iconst 1, 1) := by decide +kernel
theorem dX2_isClick_2 : decode cX2_isClick 2 = .ok (.bipush 9, 2) := by decide +kernel
theorem dX2_isClick_4 : decode cX2_isClick 4 = .ok (.invokestatic 38, 3) := by decide +kernel
theorem dX2_isClick_7 : decode cX2_isClick 7 = .ok (.ifCond .eq 17, 3) := by decide +kernel
theorem dX2_isClick_10 : decode cX2_isClick 10 = .ok (.iload_n 1, 1) := by decide +kernel
theorem dX2_isClick_11 : decode cX2_isClick 11 = .ok (.iconst 1, 1) := by decide +kernel
theorem dX2_isClick_12 : decode cX2_isClick 12 = .ok (.bipush 99, 2) := by decide +kernel
theorem dX2_isClick_14 : decode cX2_isClick 14 = .ok (.invokestatic 38, 3) := by decide +kernel
theorem dX2_isClick_17 : decode cX2_isClick 17 = .ok (.ifCond .eq 7, 3) := by decide +kernel
theorem dX2_isClick_20 : decode cX2_isClick 20 = .ok (.iconst 1, 1) := by decide +kernel
theorem dX2_isClick_21 : decode cX2_isClick 21 = .ok (.goto 4, 3) := by decide +kernel
theorem dX2_isClick_24 : decode cX2_isClick 24 = .ok (.iconst 0, 1) := by decide +kernel
theorem dX2_isClick_25 : decode cX2_isClick 25 = .ok (.ireturn, 1) := by decide +kernel
theorem dX2_isClick__0 : decode cX2_isClick_ 0 = .ok (.iload_n 0, 1) := by decide +kernel
theorem dX2_isClick__1 : decode cX2_isClick_ 1 = .ok (.ifCond .le 21, 3) := by decide +kernel
theorem dX2_isClick__4 : decode cX2_isClick_ 4 = .ok (.iload_n 0, 1) := by decide +kernel
theorem dX2_isClick__5 : decode cX2_isClick_ 5 = .ok (.bipush 100, 2) := by decide +kernel
theorem dX2_isClick__7 : decode cX2_isClick_ 7 = .ok (.idiv, 1) := by decide +kernel
theorem dX2_isClick__8 : decode cX2_isClick_ 8 = .ok (.iload_n 0, 1) := by decide +kernel
theorem dX2_isClick__9 : decode cX2_isClick_ 9 = .ok (.bipush 100, 2) := by decide +kernel
theorem dX2_isClick__11 : decode cX2_isClick_ 11 = .ok (.irem, 1) := by decide +kernel
theorem dX2_isClick__12 : decode cX2_isClick_ 12 = .ok (.invokestatic 44, 3) := by decide +kernel
theorem dX2_isClick__15 : decode cX2_isClick_ 15 = .ok (.ifCond .eq 7, 3) := by decide +kernel
theorem dX2_isClick__18 : decode cX2_isClick_ 18 = .ok (.iconst 1, 1) := by decide +kernel
theorem dX2_isClick__19 : decode cX2_isClick_ 19 = .ok (.goto 4, 3) := by decide +kernel
theorem dX2_isClick__22 : decode cX2_isClick_ 22 = .ok (.iconst 0, 1) := by decide +kernel
theorem dX2_isClick__23 : decode cX2_isClick_ 23 = .ok (.ireturn, 1) := by decide +kernel
theorem ch_cX2_isHeard_0 : (cX2_isHeard.data.toList.drop 0).take 36 = [28, 16, 100, 108, 27, 163, 0, 16, 29, 42, 180, 0, 13, 164, 0, 8, 21, 4, 154, 0, 5, 3, 172, 42, 180, 0, 30, 4, 50, 182, 0, 48, 154, 0, 18, 21] := by decide +kernel
theorem dX2_isHeard_0 : decode cX2_isHeard 0 = .ok (.iload_n 2, 1) := do_28 (rdb (p := 0) (i := 0) ch_cX2_isHeard_0 rfl)
theorem dX2_isHeard_1 : decode cX2_isHeard 1 = .ok (.bipush 100, 2) := do_16 (rdb (p := 0) (i := 1) ch_cX2_isHeard_0 rfl) (rdb (p := 0) (i := 2) ch_cX2_isHeard_0 rfl) (by decide +kernel)
theorem dX2_isHeard_3 : decode cX2_isHeard 3 = .ok (.idiv, 1) := do_108 (rdb (p := 0) (i := 3) ch_cX2_isHeard_0 rfl)
theorem dX2_isHeard_4 : decode cX2_isHeard 4 = .ok (.iload_n 1, 1) := do_27 (rdb (p := 0) (i := 4) ch_cX2_isHeard_0 rfl)
theorem dX2_isHeard_5 : decode cX2_isHeard 5 = .ok (.if_icmp .gt 16, 3) := do_163 (rdb (p := 0) (i := 5) ch_cX2_isHeard_0 rfl) (rdb (p := 0) (i := 6) ch_cX2_isHeard_0 rfl) (rdb (p := 0) (i := 7) ch_cX2_isHeard_0 rfl) (by decide +kernel)
theorem dX2_isHeard_8 : decode cX2_isHeard 8 = .ok (.iload_n 3, 1) := do_29 (rdb (p := 0) (i := 8) ch_cX2_isHeard_0 rfl)
theorem dX2_isHeard_9 : decode cX2_isHeard 9 = .ok (.aload_n 0, 1) := do_42 (rdb (p := 0) (i := 9) ch_cX2_isHeard_0 rfl)
theorem dX2_isHeard_10 : decode cX2_isHeard 10 = .ok (.getfield 13, 3) := do_180 (rdb (p := 0) (i := 10) ch_cX2_isHeard_0 rfl) (rdb (p := 0) (i := 11) ch_cX2_isHeard_0 rfl) (rdb (p := 0) (i := 12) ch_cX2_isHeard_0 rfl) rfl
theorem dX2_isHeard_13 : decode cX2_isHeard 13 = .ok (.if_icmp .le 8, 3) := do_164 (rdb (p := 0) (i := 13) ch_cX2_isHeard_0 rfl) (rdb (p := 0) (i := 14) ch_cX2_isHeard_0 rfl) (rdb (p := 0) (i := 15) ch_cX2_isHeard_0 rfl) (by decide +kernel)
theorem dX2_isHeard_16 : decode cX2_isHeard 16 = .ok (.iload 4, 2) := do_21 (rdb (p := 0) (i := 16) ch_cX2_isHeard_0 rfl) (rdb (p := 0) (i := 17) ch_cX2_isHeard_0 rfl)
theorem dX2_isHeard_18 : decode cX2_isHeard 18 = .ok (.ifCond .ne 5, 3) := do_154 (rdb (p := 0) (i := 18) ch_cX2_isHeard_0 rfl) (rdb (p := 0) (i := 19) ch_cX2_isHeard_0 rfl) (rdb (p := 0) (i := 20) ch_cX2_isHeard_0 rfl) (by decide +kernel)
theorem dX2_isHeard_21 : decode cX2_isHeard 21 = .ok (.iconst 0, 1) := do_3 (rdb (p := 0) (i := 21) ch_cX2_isHeard_0 rfl)
theorem dX2_isHeard_22 : decode cX2_isHeard 22 = .ok (.ireturn, 1) := do_172 (rdb (p := 0) (i := 22) ch_cX2_isHeard_0 rfl)
theorem dX2_isHeard_23 : decode cX2_isHeard 23 = .ok (.aload_n 0, 1) := do_42 (rdb (p := 0) (i := 23) ch_cX2_isHeard_0 rfl)
theorem dX2_isHeard_24 : decode cX2_isHeard 24 = .ok (.getfield 30, 3) := do_180 (rdb (p := 0) (i := 24) ch_cX2_isHeard_0 rfl) (rdb (p := 0) (i := 25) ch_cX2_isHeard_0 rfl) (rdb (p := 0) (i := 26) ch_cX2_isHeard_0 rfl) rfl
theorem dX2_isHeard_27 : decode cX2_isHeard 27 = .ok (.iconst 1, 1) := do_4 (rdb (p := 0) (i := 27) ch_cX2_isHeard_0 rfl)
theorem dX2_isHeard_28 : decode cX2_isHeard 28 = .ok (.aaload, 1) := do_50 (rdb (p := 0) (i := 28) ch_cX2_isHeard_0 rfl)
theorem dX2_isHeard_29 : decode cX2_isHeard 29 = .ok (.invokevirtual 48, 3) := do_182 (rdb (p := 0) (i := 29) ch_cX2_isHeard_0 rfl) (rdb (p := 0) (i := 30) ch_cX2_isHeard_0 rfl) (rdb (p := 0) (i := 31) ch_cX2_isHeard_0 rfl) rfl
theorem ch_cX2_isHeard_32 : (cX2_isHeard.data.toList.drop 32).take 36 = [154, 0, 18, 21, 4, 42, 180, 0, 7, 164, 0, 7, 4, 167, 0, 4, 3, 172, 42, 180, 0, 34, 3, 21, 4, 79, 42, 180, 0, 34, 4, 42, 180, 0, 7, 79] := by decide +kernel
theorem dX2_isHeard_32 : decode cX2_isHeard 32 = .ok (.ifCond .ne 18, 3) := do_154 (rdb (p := 32) (i := 0) ch_cX2_isHeard_32 rfl) (rdb (p := 32) (i := 1) ch_cX2_isHeard_32 rfl) (rdb (p := 32) (i := 2) ch_cX2_isHeard_32 rfl) (by decide +kernel)
theorem dX2_isHeard_35 : decode cX2_isHeard 35 = .ok (.iload 4, 2) := do_21 (rdb (p := 32) (i := 3) ch_cX2_isHeard_32 rfl) (rdb (p := 32) (i := 4) ch_cX2_isHeard_32 rfl)
theorem dX2_isHeard_37 : decode cX2_isHeard 37 = .ok (.aload_n 0, 1) := do_42 (rdb (p := 32) (i := 5) ch_cX2_isHeard_32 rfl)
theorem dX2_isHeard_38 : decode cX2_isHeard 38 = .ok (.getfield 7, 3) := do_180 (rdb (p := 32) (i := 6) ch_cX2_isHeard_32 rfl) (rdb (p := 32) (i := 7) ch_cX2_isHeard_32 rfl) (rdb (p := 32) (i := 8) ch_cX2_isHeard_32 rfl) rfl
theorem dX2_isHeard_41 : decode cX2_isHeard 41 = .ok (.if_icmp .le 7, 3) := do_164 (rdb (p := 32) (i := 9) ch_cX2_isHeard_32 rfl) (rdb (p := 32) (i := 10) ch_cX2_isHeard_32 rfl) (rdb (p := 32) (i := 11) ch_cX2_isHeard_32 rfl) (by decide +kernel)
theorem dX2_isHeard_44 : decode cX2_isHeard 44 = .ok (.iconst 1, 1) := do_4 (rdb (p := 32) (i := 12) ch_cX2_isHeard_32 rfl)
theorem dX2_isHeard_45 : decode cX2_isHeard 45 = .ok (.goto 4, 3) := do_167 (rdb (p := 32) (i := 13) ch_cX2_isHeard_32 rfl) (rdb (p := 32) (i := 14) ch_cX2_isHeard_32 rfl) (rdb (p := 32) (i := 15) ch_cX2_isHeard_32 rfl) (by decide +kernel)
theorem dX2_isHeard_48 : decode cX2_isHeard 48 = .ok (.iconst 0, 1) := do_3 (rdb (p := 32) (i := 16) ch_cX2_isHeard_32 rfl)
theorem dX2_isHeard_49 : decode cX2_isHeard 49 = .ok (.ireturn, 1) := do_172 (rdb (p := 32) (i := 17) ch_cX2_isHeard_32 rfl)
theorem dX2_isHeard_50 : decode cX2_isHeard 50 = .ok (.aload_n 0, 1) := do_42 (rdb (p := 32) (i := 18) ch_cX2_isHeard_32 rfl)
theorem dX2_isHeard_51 : decode cX2_isHeard 51 = .ok (.getfield 34, 3) := do_180 (rdb (p := 32) (i := 19) ch_cX2_isHeard_32 rfl) (rdb (p := 32) (i := 20) ch_cX2_isHeard_32 rfl) (rdb (p := 32) (i := 21) ch_cX2_isHeard_32 rfl) rfl
theorem dX2_isHeard_54 : decode cX2_isHeard 54 = .ok (.iconst 0, 1) := do_3 (rdb (p := 32) (i := 22) ch_cX2_isHeard_32 rfl)
theorem dX2_isHeard_55 : decode cX2_isHeard 55 = .ok (.iload 4, 2) := do_21 (rdb (p := 32) (i := 23) ch_cX2_isHeard_32 rfl) (rdb (p := 32) (i := 24) ch_cX2_isHeard_32 rfl)
theorem dX2_isHeard_57 : decode cX2_isHeard 57 = .ok (.iastore, 1) := do_79 (rdb (p := 32) (i := 25) ch_cX2_isHeard_32 rfl)
theorem dX2_isHeard_58 : decode cX2_isHeard 58 = .ok (.aload_n 0, 1) := do_42 (rdb (p := 32) (i := 26) ch_cX2_isHeard_32 rfl)
theorem dX2_isHeard_59 : decode cX2_isHeard 59 = .ok (.getfield 34, 3) := do_180 (rdb (p := 32) (i := 27) ch_cX2_isHeard_32 rfl) (rdb (p := 32) (i := 28) ch_cX2_isHeard_32 rfl) (rdb (p := 32) (i := 29) ch_cX2_isHeard_32 rfl) rfl
theorem dX2_isHeard_62 : decode cX2_isHeard 62 = .ok (.iconst 1, 1) := do_4 (rdb (p := 32) (i := 30) ch_cX2_isHeard_32 rfl)
theorem dX2_isHeard_63 : decode cX2_isHeard 63 = .ok (.aload_n 0, 1) := do_42 (rdb (p := 32) (i := 31) ch_cX2_isHeard_32 rfl)
theorem ch_cX2_isHeard_64 : (cX2_isHeard.data.toList.drop 64).take 36 = [180, 0, 7, 79, 42, 180, 0, 34, 5, 29, 79, 42, 180, 0, 30, 4, 50, 42, 180, 0, 34, 182, 0, 52, 153, 0, 7, 4, 167, 0, 4, 3, 172] := by decide +kernel
theorem dX2_isHeard_64 : decode cX2_isHeard 64 = .ok (.getfield 7, 3) := do_180 (rdb (p := 64) (i := 0) ch_cX2_isHeard_64 rfl) (rdb (p := 64) (i := 1) ch_cX2_isHeard_64 rfl) (rdb (p := 64) (i := 2) ch_cX2_isHeard_64 rfl) rfl
theorem dX2_isHeard_67 : decode cX2_isHeard 67 = .ok (.iastore, 1) := do_79 (rdb (p := 64) (i := 3) ch_cX2_isHeard_64 rfl)
theorem dX2_isHeard_68 : decode cX2_isHeard 68 = .ok (.aload_n 0, 1) := do_42 (rdb (p := 64) (i := 4) ch_cX2_isHeard_64 rfl)
theorem dX2_isHeard_69 : decode cX2_isHeard 69 = .ok (.getfield 34, 3) := do_180 (rdb (p := 64) (i := 5) ch_cX2_isHeard_64 rfl) (rdb (p := 64) (i := 6) ch_cX2_isHeard_64 rfl) (rdb (p := 64) (i := 7) ch_cX2_isHeard_64 rfl) rfl
theorem dX2_isHeard_72 : decode cX2_isHeard 72 = .ok (.iconst 2, 1) := do_5 (rdb (p := 64) (i := 8) ch_cX2_isHeard_64 rfl)
theorem dX2_isHeard_73 : decode cX2_isHeard 73 = .ok (.iload_n 3, 1) := do_29 (rdb (p := 64) (i := 9) ch_cX2_isHeard_64 rfl)
theorem dX2_isHeard_74 : decode cX2_isHeard 74 = .ok (.iastore, 1) := do_79 (rdb (p := 64) (i := 10) ch_cX2_isHeard_64 rfl)
theorem dX2_isHeard_75 : decode cX2_isHeard 75 = .ok (.aload_n 0, 1) := do_42 (rdb (p := 64) (i := 11) ch_cX2_isHeard_64 rfl)
theorem dX2_isHeard_76 : decode cX2_isHeard 76 = .ok (.getfield 30, 3) := do_180 (rdb (p := 64) (i := 12) ch_cX2_isHeard_64 rfl) (rdb (p := 64) (i := 13) ch_cX2_isHeard_64 rfl) (rdb (p := 64) (i := 14) ch_cX2_isHeard_64 rfl) rfl
theorem dX2_isHeard_79 : decode cX2_isHeard 79 = .ok (.iconst 1, 1) := do_4 (rdb (p := 64) (i := 15) ch_cX2_isHeard_64 rfl)
theorem dX2_isHeard_80 : decode cX2_isHeard 80 = .ok (.aaload, 1) := do_50 (rdb (p := 64) (i := 16) ch_cX2_isHeard_64 rfl)
theorem dX2_isHeard_81 : decode cX2_isHeard 81 = .ok (.aload_n 0, 1) := do_42 (rdb (p := 64) (i := 17) ch_cX2_isHeard_64 rfl)
theorem dX2_isHeard_82 : decode cX2_isHeard 82 = .ok (.getfield 34, 3) := do_180 (rdb (p := 64) (i := 18) ch_cX2_isHeard_64 rfl) (rdb (p := 64) (i := 19) ch_cX2_isHeard_64 rfl) (rdb (p := 64) (i := 20) ch_cX2_isHeard_64 rfl) rfl
theorem dX2_isHeard_85 : decode cX2_isHeard 85 = .ok (.invokevirtual 52, 3) := do_182 (rdb (p := 64) (i := 21) ch_cX2_isHeard_64 rfl) (rdb (p := 64) (i := 22) ch_cX2_isHeard_64 rfl) (rdb (p := 64) (i := 23) ch_cX2_isHeard_64 rfl) rfl
theorem dX2_isHeard_88 : decode cX2_isHeard 88 = .ok (.ifCond .eq 7, 3) := do_153 (rdb (p := 64) (i := 24) ch_cX2_isHeard_64 rfl) (rdb (p := 64) (i := 25) ch_cX2_isHeard_64 rfl) (rdb (p := 64) (i := 26) ch_cX2_isHeard_64 rfl) (by decide +kernel)
theorem dX2_isHeard_91 : decode cX2_isHeard 91 = .ok (.iconst 1, 1) := do_4 (rdb (p := 64) (i := 27) ch_cX2_isHeard_64 rfl)
theorem dX2_isHeard_92 : decode cX2_isHeard 92 = .ok (.goto 4, 3) := do_167 (rdb (p := 64) (i := 28) ch_cX2_isHeard_64 rfl) (rdb (p := 64) (i := 29) ch_cX2_isHeard_64 rfl) (rdb (p := 64) (i := 30) ch_cX2_isHeard_64 rfl) (by decide +kernel)
theorem dX2_isHeard_95 : decode cX2_isHeard 95 = .ok (.iconst 0, 1) := do_3 (rdb (p := 64) (i := 31) ch_cX2_isHeard_64 rfl)
theorem ch_cX2_isHeard_96 : (cX2_isHeard.data.toList.drop 96).take 36 = [172] := by decide +kernel
theorem dX2_isHeard_96 : decode cX2_isHeard 96 = .ok (.ireturn, 1) := do_172 (rdb (p := 96) (i := 0) ch_cX2_isHeard_96 rfl)
theorem ch_cX2_kindsAlike_0 : (cX2_kindsAlike.data.toList.drop 0).take 36 = [3, 54, 6, 3, 54, 7, 21, 7, 8, 162, 0, 45, 42, 21, 7, 28, 29, 182, 0, 68, 21, 5, 160, 0, 26, 42, 27, 21, 7, 28, 29, 21, 4, 182, 0, 76] := by decide +kernel
theorem dX2_kindsAlike_0 : decode cX2_kindsAlike 0 = .ok (.iconst 0, 1) := do_3 (rdb (p := 0) (i := 0) ch_cX2_kindsAlike_0 rfl)
theorem dX2_kindsAlike_1 : decode cX2_kindsAlike 1 = .ok (.istore 6, 2) := do_54 (rdb (p := 0) (i := 1) ch_cX2_kindsAlike_0 rfl) (rdb (p := 0) (i := 2) ch_cX2_kindsAlike_0 rfl)
theorem dX2_kindsAlike_3 : decode cX2_kindsAlike 3 = .ok (.iconst 0, 1) := do_3 (rdb (p := 0) (i := 3) ch_cX2_kindsAlike_0 rfl)
theorem dX2_kindsAlike_4 : decode cX2_kindsAlike 4 = .ok (.istore 7, 2) := do_54 (rdb (p := 0) (i := 4) ch_cX2_kindsAlike_0 rfl) (rdb (p := 0) (i := 5) ch_cX2_kindsAlike_0 rfl)
theorem dX2_kindsAlike_6 : decode cX2_kindsAlike 6 = .ok (.iload 7, 2) := do_21 (rdb (p := 0) (i := 6) ch_cX2_kindsAlike_0 rfl) (rdb (p := 0) (i := 7) ch_cX2_kindsAlike_0 rfl)
theorem dX2_kindsAlike_8 : decode cX2_kindsAlike 8 = .ok (.iconst 5, 1) := do_8 (rdb (p := 0) (i := 8) ch_cX2_kindsAlike_0 rfl)
theorem dX2_kindsAlike_9 : decode cX2_kindsAlike 9 = .ok (.if_icmp .ge 45, 3) := do_162 (rdb (p := 0) (i := 9) ch_cX2_kindsAlike_0 rfl) (rdb (p := 0) (i := 10) ch_cX2_kindsAlike_0 rfl) (rdb (p := 0) (i := 11) ch_cX2_kindsAlike_0 rfl) (by decide +kernel)
theorem dX2_kindsAlike_12 : decode cX2_kindsAlike 12 = .ok (.aload_n 0, 1) := do_42 (rdb (p := 0) (i := 12) ch_cX2_kindsAlike_0 rfl)
theorem dX2_kindsAlike_13 : decode cX2_kindsAlike 13 = .ok (.iload 7, 2) := do_21 (rdb (p := 0) (i := 13) ch_cX2_kindsAlike_0 rfl) (rdb (p := 0) (i := 14) ch_cX2_kindsAlike_0 rfl)
theorem dX2_kindsAlike_15 : decode cX2_kindsAlike 15 = .ok (.iload_n 2, 1) := do_28 (rdb (p := 0) (i := 15) ch_cX2_kindsAlike_0 rfl)
theorem dX2_kindsAlike_16 : decode cX2_kindsAlike 16 = .ok (.iload_n 3, 1) := do_29 (rdb (p := 0) (i := 16) ch_cX2_kindsAlike_0 rfl)
theorem dX2_kindsAlike_17 : decode cX2_kindsAlike 17 = .ok (.invokevirtual 68, 3) := do_182 (rdb (p := 0) (i := 17) ch_cX2_kindsAlike_0 rfl) (rdb (p := 0) (i := 18) ch_cX2_kindsAlike_0 rfl) (rdb (p := 0) (i := 19) ch_cX2_kindsAlike_0 rfl) rfl
theorem dX2_kindsAlike_20 : decode cX2_kindsAlike 20 = .ok (.iload 5, 2) := do_21 (rdb (p := 0) (i := 20) ch_cX2_kindsAlike_0 rfl) (rdb (p := 0) (i := 21) ch_cX2_kindsAlike_0 rfl)
theorem dX2_kindsAlike_22 : decode cX2_kindsAlike 22 = .ok (.if_icmp .ne 26, 3) := do_160 (rdb (p := 0) (i := 22) ch_cX2_kindsAlike_0 rfl) (rdb (p := 0) (i := 23) ch_cX2_kindsAlike_0 rfl) (rdb (p := 0) (i := 24) ch_cX2_kindsAlike_0 rfl) (by decide +kernel)
theorem dX2_kindsAlike_25 : decode cX2_kindsAlike 25 = .ok (.aload_n 0, 1) := do_42 (rdb (p := 0) (i := 25) ch_cX2_kindsAlike_0 rfl)
theorem dX2_kindsAlike_26 : decode cX2_kindsAlike 26 = .ok (.iload_n 1, 1) := do_27 (rdb (p := 0) (i := 26) ch_cX2_kindsAlike_0 rfl)
theorem dX2_kindsAlike_27 : decode cX2_kindsAlike 27 = .ok (.iload 7, 2) := do_21 (rdb (p := 0) (i := 27) ch_cX2_kindsAlike_0 rfl) (rdb (p := 0) (i := 28) ch_cX2_kindsAlike_0 rfl)
theorem dX2_kindsAlike_29 : decode cX2_kindsAlike 29 = .ok (.iload_n 2, 1) := do_28 (rdb (p := 0) (i := 29) ch_cX2_kindsAlike_0 rfl)
theorem dX2_kindsAlike_30 : decode cX2_kindsAlike 30 = .ok (.iload_n 3, 1) := do_29 (rdb (p := 0) (i := 30) ch_cX2_kindsAlike_0 rfl)
theorem dX2_kindsAlike_31 : decode cX2_kindsAlike 31 = .ok (.iload 4, 2) := do_21 (rdb (p := 0) (i := 31) ch_cX2_kindsAlike_0 rfl) (rdb (p := 0) (i := 32) ch_cX2_kindsAlike_0 rfl)
theorem ch_cX2_kindsAlike_32 : (cX2_kindsAlike.data.toList.drop 32).take 36 = [4, 182, 0, 76, 153, 0, 12, 21, 6, 4, 21, 7, 120, 128, 54, 6, 132, 7, 1, 167, 255, 211, 21, 6, 172] := by decide +kernel
theorem dX2_kindsAlike_33 : decode cX2_kindsAlike 33 = .ok (.invokevirtual 76, 3) := do_182 (rdb (p := 32) (i := 1) ch_cX2_kindsAlike_32 rfl) (rdb (p := 32) (i := 2) ch_cX2_kindsAlike_32 rfl) (rdb (p := 32) (i := 3) ch_cX2_kindsAlike_32 rfl) rfl
theorem dX2_kindsAlike_36 : decode cX2_kindsAlike 36 = .ok (.ifCond .eq 12, 3) := do_153 (rdb (p := 32) (i := 4) ch_cX2_kindsAlike_32 rfl) (rdb (p := 32) (i := 5) ch_cX2_kindsAlike_32 rfl) (rdb (p := 32) (i := 6) ch_cX2_kindsAlike_32 rfl) (by decide +kernel)
theorem dX2_kindsAlike_39 : decode cX2_kindsAlike 39 = .ok (.iload 6, 2) := do_21 (rdb (p := 32) (i := 7) ch_cX2_kindsAlike_32 rfl) (rdb (p := 32) (i := 8) ch_cX2_kindsAlike_32 rfl)
theorem dX2_kindsAlike_41 : decode cX2_kindsAlike 41 = .ok (.iconst 1, 1) := do_4 (rdb (p := 32) (i := 9) ch_cX2_kindsAlike_32 rfl)
theorem dX2_kindsAlike_42 : decode cX2_kindsAlike 42 = .ok (.iload 7, 2) := do_21 (rdb (p := 32) (i := 10) ch_cX2_kindsAlike_32 rfl) (rdb (p := 32) (i := 11) ch_cX2_kindsAlike_32 rfl)
theorem dX2_kindsAlike_44 : decode cX2_kindsAlike 44 = .ok (.ishl, 1) := do_120 (rdb (p := 32) (i := 12) ch_cX2_kindsAlike_32 rfl)
theorem dX2_kindsAlike_45 : decode cX2_kindsAlike 45 = .ok (.ior, 1) := do_128 (rdb (p := 32) (i := 13) ch_cX2_kindsAlike_32 rfl)
theorem dX2_kindsAlike_46 : decode cX2_kindsAlike 46 = .ok (.istore 6, 2) := do_54 (rdb (p := 32) (i := 14) ch_cX2_kindsAlike_32 rfl) (rdb (p := 32) (i := 15) ch_cX2_kindsAlike_32 rfl)
theorem dX2_kindsAlike_48 : decode cX2_kindsAlike 48 = .ok (.iinc 7 1, 3) := do_132 (rdb (p := 32) (i := 16) ch_cX2_kindsAlike_32 rfl) (rdb (p := 32) (i := 17) ch_cX2_kindsAlike_32 rfl) (rdb (p := 32) (i := 18) ch_cX2_kindsAlike_32 rfl) (by decide +kernel)
theorem dX2_kindsAlike_51 : decode cX2_kindsAlike 51 = .ok (.goto (-45), 3) := do_167 (rdb (p := 32) (i := 19) ch_cX2_kindsAlike_32 rfl) (rdb (p := 32) (i := 20) ch_cX2_kindsAlike_32 rfl) (rdb (p := 32) (i := 21) ch_cX2_kindsAlike_32 rfl) (by decide +kernel)
theorem dX2_kindsAlike_54 : decode cX2_kindsAlike 54 = .ok (.iload 6, 2) := do_21 (rdb (p := 32) (i := 22) ch_cX2_kindsAlike_32 rfl) (rdb (p := 32) (i := 23) ch_cX2_kindsAlike_32 rfl)
theorem dX2_kindsAlike_56 : decode cX2_kindsAlike 56 = .ok (.ireturn, 1) := do_172 (rdb (p := 32) (i := 24) ch_cX2_kindsAlike_32 rfl)
theorem dX2_late_0 : decode cX2_late 0 = .ok (.iload_n 1, 1) := by decide +kernel
theorem dX2_late_1 : decode cX2_late 1 = .ok (.iload_n 0, 1) := by decide +kernel
theorem dX2_late_2 : decode cX2_late 2 = .ok (.iconst 1, 1) := by decide +kernel
theorem dX2_late_3 : decode cX2_late 3 = .ok (.iand, 1) := by decide +kernel
theorem dX2_late_4 : decode cX2_late 4 = .ok (.iconst 1, 1) := by decide +kernel
theorem dX2_late_5 : decode cX2_late 5 = .ok (.if_icmp .ne 8, 3) := by decide +kernel
theorem dX2_late_8 : decode cX2_late 8 = .ok (.bipush 8, 2) := by decide +kernel
theorem dX2_late_10 : decode cX2_late 10 = .ok (.goto 5, 3) := by decide +kernel
theorem dX2_late_13 : decode cX2_late 13 = .ok (.bipush 6, 2) := by decide +kernel
theorem dX2_late_15 : decode cX2_late 15 = .ok (.imul, 1) := by decide +kernel
theorem dX2_late_16 : decode cX2_late 16 = .ok (.ireturn, 1) := by decide +kernel
theorem ch_cX2_leastLoudness_0 : (cX2_leastLoudness.data.toList.drop 0).take 36 = [4, 54, 4, 21, 4, 16, 99, 163, 0, 35, 42, 27, 28, 16, 100, 16, 9, 27, 184, 0, 56, 104, 21, 4, 96, 29, 3, 182, 0, 76, 153, 0, 6, 21, 4, 172] := by decide +kernel
theorem dX2_leastLoudness_0 : decode cX2_leastLoudness 0 = .ok (.iconst 1, 1) := do_4 (rdb (p := 0) (i := 0) ch_cX2_leastLoudness_0 rfl)
theorem dX2_leastLoudness_1 : decode cX2_leastLoudness 1 = .ok (.istore 4, 2) := do_54 (rdb (p := 0) (i := 1) ch_cX2_leastLoudness_0 rfl) (rdb (p := 0) (i := 2) ch_cX2_leastLoudness_0 rfl)
theorem dX2_leastLoudness_3 : decode cX2_leastLoudness 3 = .ok (.iload 4, 2) := do_21 (rdb (p := 0) (i := 3) ch_cX2_leastLoudness_0 rfl) (rdb (p := 0) (i := 4) ch_cX2_leastLoudness_0 rfl)
theorem dX2_leastLoudness_5 : decode cX2_leastLoudness 5 = .ok (.bipush 99, 2) := do_16 (rdb (p := 0) (i := 5) ch_cX2_leastLoudness_0 rfl) (rdb (p := 0) (i := 6) ch_cX2_leastLoudness_0 rfl) (by decide +kernel)
theorem dX2_leastLoudness_7 : decode cX2_leastLoudness 7 = .ok (.if_icmp .gt 35, 3) := do_163 (rdb (p := 0) (i := 7) ch_cX2_leastLoudness_0 rfl) (rdb (p := 0) (i := 8) ch_cX2_leastLoudness_0 rfl) (rdb (p := 0) (i := 9) ch_cX2_leastLoudness_0 rfl) (by decide +kernel)
theorem dX2_leastLoudness_10 : decode cX2_leastLoudness 10 = .ok (.aload_n 0, 1) := do_42 (rdb (p := 0) (i := 10) ch_cX2_leastLoudness_0 rfl)
theorem dX2_leastLoudness_11 : decode cX2_leastLoudness 11 = .ok (.iload_n 1, 1) := do_27 (rdb (p := 0) (i := 11) ch_cX2_leastLoudness_0 rfl)
theorem dX2_leastLoudness_12 : decode cX2_leastLoudness 12 = .ok (.iload_n 2, 1) := do_28 (rdb (p := 0) (i := 12) ch_cX2_leastLoudness_0 rfl)
theorem dX2_leastLoudness_13 : decode cX2_leastLoudness 13 = .ok (.bipush 100, 2) := do_16 (rdb (p := 0) (i := 13) ch_cX2_leastLoudness_0 rfl) (rdb (p := 0) (i := 14) ch_cX2_leastLoudness_0 rfl) (by decide +kernel)
theorem dX2_leastLoudness_15 : decode cX2_leastLoudness 15 = .ok (.bipush 9, 2) := do_16 (rdb (p := 0) (i := 15) ch_cX2_leastLoudness_0 rfl) (rdb (p := 0) (i := 16) ch_cX2_leastLoudness_0 rfl) (by decide +kernel)
theorem dX2_leastLoudness_17 : decode cX2_leastLoudness 17 = .ok (.iload_n 1, 1) := do_27 (rdb (p := 0) (i := 17) ch_cX2_leastLoudness_0 rfl)
theorem dX2_leastLoudness_18 : decode cX2_leastLoudness 18 = .ok (.invokestatic 56, 3) := do_184 (rdb (p := 0) (i := 18) ch_cX2_leastLoudness_0 rfl) (rdb (p := 0) (i := 19) ch_cX2_leastLoudness_0 rfl) (rdb (p := 0) (i := 20) ch_cX2_leastLoudness_0 rfl) rfl
theorem dX2_leastLoudness_21 : decode cX2_leastLoudness 21 = .ok (.imul, 1) := do_104 (rdb (p := 0) (i := 21) ch_cX2_leastLoudness_0 rfl)
theorem dX2_leastLoudness_22 : decode cX2_leastLoudness 22 = .ok (.iload 4, 2) := do_21 (rdb (p := 0) (i := 22) ch_cX2_leastLoudness_0 rfl) (rdb (p := 0) (i := 23) ch_cX2_leastLoudness_0 rfl)
theorem dX2_leastLoudness_24 : decode cX2_leastLoudness 24 = .ok (.iadd, 1) := do_96 (rdb (p := 0) (i := 24) ch_cX2_leastLoudness_0 rfl)
theorem dX2_leastLoudness_25 : decode cX2_leastLoudness 25 = .ok (.iload_n 3, 1) := do_29 (rdb (p := 0) (i := 25) ch_cX2_leastLoudness_0 rfl)
theorem dX2_leastLoudness_26 : decode cX2_leastLoudness 26 = .ok (.iconst 0, 1) := do_3 (rdb (p := 0) (i := 26) ch_cX2_leastLoudness_0 rfl)
theorem dX2_leastLoudness_27 : decode cX2_leastLoudness 27 = .ok (.invokevirtual 76, 3) := do_182 (rdb (p := 0) (i := 27) ch_cX2_leastLoudness_0 rfl) (rdb (p := 0) (i := 28) ch_cX2_leastLoudness_0 rfl) (rdb (p := 0) (i := 29) ch_cX2_leastLoudness_0 rfl) rfl
theorem dX2_leastLoudness_30 : decode cX2_leastLoudness 30 = .ok (.ifCond .eq 6, 3) := do_153 (rdb (p := 0) (i := 30) ch_cX2_leastLoudness_0 rfl) (rdb (p := 0) (i := 31) ch_cX2_leastLoudness_0 rfl) (rdb (p := 0) (i := 32) ch_cX2_leastLoudness_0 rfl) (by decide +kernel)
theorem ch_cX2_leastLoudness_32 : (cX2_leastLoudness.data.toList.drop 32).take 36 = [6, 21, 4, 172, 132, 4, 1, 167, 255, 220, 3, 172] := by decide +kernel
theorem dX2_leastLoudness_33 : decode cX2_leastLoudness 33 = .ok (.iload 4, 2) := do_21 (rdb (p := 32) (i := 1) ch_cX2_leastLoudness_32 rfl) (rdb (p := 32) (i := 2) ch_cX2_leastLoudness_32 rfl)
theorem dX2_leastLoudness_35 : decode cX2_leastLoudness 35 = .ok (.ireturn, 1) := do_172 (rdb (p := 32) (i := 3) ch_cX2_leastLoudness_32 rfl)
theorem dX2_leastLoudness_36 : decode cX2_leastLoudness 36 = .ok (.iinc 4 1, 3) := do_132 (rdb (p := 32) (i := 4) ch_cX2_leastLoudness_32 rfl) (rdb (p := 32) (i := 5) ch_cX2_leastLoudness_32 rfl) (rdb (p := 32) (i := 6) ch_cX2_leastLoudness_32 rfl) (by decide +kernel)
theorem dX2_leastLoudness_39 : decode cX2_leastLoudness 39 = .ok (.goto (-36), 3) := do_167 (rdb (p := 32) (i := 7) ch_cX2_leastLoudness_32 rfl) (rdb (p := 32) (i := 8) ch_cX2_leastLoudness_32 rfl) (rdb (p := 32) (i := 9) ch_cX2_leastLoudness_32 rfl) (by decide +kernel)
theorem dX2_leastLoudness_42 : decode cX2_leastLoudness 42 = .ok (.iconst 0, 1) := do_3 (rdb (p := 32) (i := 10) ch_cX2_leastLoudness_32 rfl)
theorem dX2_leastLoudness_43 : decode cX2_leastLoudness 43 = .ok (.ireturn, 1) := do_172 (rdb (p := 32) (i := 11) ch_cX2_leastLoudness_32 rfl)
theorem dX2_leastPitch_0 : decode cX2_leastPitch 0 = .ok (.iconst 1, 1) := by decide +kernel
theorem dX2_leastPitch_1 : decode cX2_leastPitch 1 = .ok (.istore 4, 2) := by decide +kernel
theorem dX2_leastPitch_3 : decode cX2_leastPitch 3 = .ok (.iload 4, 2) := by decide +kernel
theorem dX2_leastPitch_5 : decode cX2_leastPitch 5 = .ok (.bipush 9, 2) := by decide +kernel
theorem dX2_leastPitch_7 : decode cX2_leastPitch 7 = .ok (.if_icmp .gt 31, 3) := by decide +kernel
theorem dX2_leastPitch_10 : decode cX2_leastPitch 10 = .ok (.aload_n 0, 1) := by decide +kernel
theorem dX2_leastPitch_11 : decode cX2_leastPitch 11 = .ok (.iload_n 1, 1) := by decide +kernel
theorem dX2_leastPitch_12 : decode cX2_leastPitch 12 = .ok (.iload_n 2, 1) := by decide +kernel
theorem dX2_leastPitch_13 : decode cX2_leastPitch 13 = .ok (.bipush 100, 2) := by decide +kernel
theorem dX2_leastPitch_15 : decode cX2_leastPitch 15 = .ok (.iload 4, 2) := by decide +kernel
theorem dX2_leastPitch_17 : decode cX2_leastPitch 17 = .ok (.imul, 1) := by decide +kernel
theorem dX2_leastPitch_18 : decode cX2_leastPitch 18 = .ok (.bipush 99, 2) := by decide +kernel
theorem dX2_leastPitch_20 : decode cX2_leastPitch 20 = .ok (.iadd, 1) := by decide +kernel
theorem dX2_leastPitch_21 : decode cX2_leastPitch 21 = .ok (.iload_n 3, 1) := by decide +kernel
theorem dX2_leastPitch_22 : decode cX2_leastPitch 22 = .ok (.iconst 0, 1) := by decide +kernel
theorem dX2_leastPitch_23 : decode cX2_leastPitch 23 = .ok (.invokevirtual 76, 3) := by decide +kernel
theorem dX2_leastPitch_26 : decode cX2_leastPitch 26 = .ok (.ifCond .eq 6, 3) := by decide +kernel
theorem dX2_leastPitch_29 : decode cX2_leastPitch 29 = .ok (.iload 4, 2) := by decide +kernel
theorem dX2_leastPitch_31 : decode cX2_leastPitch 31 = .ok (.ireturn, 1) := by decide +kernel
theorem dX2_leastPitch_32 : decode cX2_leastPitch 32 = .ok (.iinc 4 1, 3) := by decide +kernel
theorem dX2_leastPitch_35 : decode cX2_leastPitch 35 = .ok (.goto (-32), 3) := by decide +kernel
theorem dX2_leastPitch_38 : decode cX2_leastPitch 38 = .ok (.iconst 0, 1) := by decide +kernel
theorem dX2_leastPitch_39 : decode cX2_leastPitch 39 = .ok (.ireturn, 1) := by decide +kernel
theorem ch_cX2_strength_0 : (cX2_strength.data.toList.drop 0).take 36 = [28, 16, 100, 108, 54, 4, 28, 16, 100, 112, 54, 5, 27, 155, 0, 19, 27, 8, 162, 0, 14, 42, 180, 0, 25, 27, 46, 21, 4, 164, 0, 5, 3, 172, 21, 5] := by decide +kernel
theorem dX2_strength_0 : decode cX2_strength 0 = .ok (.iload_n 2, 1) := do_28 (rdb (p := 0) (i := 0) ch_cX2_strength_0 rfl)
theorem dX2_strength_1 : decode cX2_strength 1 = .ok (.bipush 100, 2) := do_16 (rdb (p := 0) (i := 1) ch_cX2_strength_0 rfl) (rdb (p := 0) (i := 2) ch_cX2_strength_0 rfl) (by decide +kernel)
theorem dX2_strength_3 : decode cX2_strength 3 = .ok (.idiv, 1) := do_108 (rdb (p := 0) (i := 3) ch_cX2_strength_0 rfl)
theorem dX2_strength_4 : decode cX2_strength 4 = .ok (.istore 4, 2) := do_54 (rdb (p := 0) (i := 4) ch_cX2_strength_0 rfl) (rdb (p := 0) (i := 5) ch_cX2_strength_0 rfl)
theorem dX2_strength_6 : decode cX2_strength 6 = .ok (.iload_n 2, 1) := do_28 (rdb (p := 0) (i := 6) ch_cX2_strength_0 rfl)
theorem dX2_strength_7 : decode cX2_strength 7 = .ok (.bipush 100, 2) := do_16 (rdb (p := 0) (i := 7) ch_cX2_strength_0 rfl) (rdb (p := 0) (i := 8) ch_cX2_strength_0 rfl) (by decide +kernel)
theorem dX2_strength_9 : decode cX2_strength 9 = .ok (.irem, 1) := do_112 (rdb (p := 0) (i := 9) ch_cX2_strength_0 rfl)
theorem dX2_strength_10 : decode cX2_strength 10 = .ok (.istore 5, 2) := do_54 (rdb (p := 0) (i := 10) ch_cX2_strength_0 rfl) (rdb (p := 0) (i := 11) ch_cX2_strength_0 rfl)
theorem dX2_strength_12 : decode cX2_strength 12 = .ok (.iload_n 1, 1) := do_27 (rdb (p := 0) (i := 12) ch_cX2_strength_0 rfl)
theorem dX2_strength_13 : decode cX2_strength 13 = .ok (.ifCond .lt 19, 3) := do_155 (rdb (p := 0) (i := 13) ch_cX2_strength_0 rfl) (rdb (p := 0) (i := 14) ch_cX2_strength_0 rfl) (rdb (p := 0) (i := 15) ch_cX2_strength_0 rfl) (by decide +kernel)
theorem dX2_strength_16 : decode cX2_strength 16 = .ok (.iload_n 1, 1) := do_27 (rdb (p := 0) (i := 16) ch_cX2_strength_0 rfl)
theorem dX2_strength_17 : decode cX2_strength 17 = .ok (.iconst 5, 1) := do_8 (rdb (p := 0) (i := 17) ch_cX2_strength_0 rfl)
theorem dX2_strength_18 : decode cX2_strength 18 = .ok (.if_icmp .ge 14, 3) := do_162 (rdb (p := 0) (i := 18) ch_cX2_strength_0 rfl) (rdb (p := 0) (i := 19) ch_cX2_strength_0 rfl) (rdb (p := 0) (i := 20) ch_cX2_strength_0 rfl) (by decide +kernel)
theorem dX2_strength_21 : decode cX2_strength 21 = .ok (.aload_n 0, 1) := do_42 (rdb (p := 0) (i := 21) ch_cX2_strength_0 rfl)
theorem dX2_strength_22 : decode cX2_strength 22 = .ok (.getfield 25, 3) := do_180 (rdb (p := 0) (i := 22) ch_cX2_strength_0 rfl) (rdb (p := 0) (i := 23) ch_cX2_strength_0 rfl) (rdb (p := 0) (i := 24) ch_cX2_strength_0 rfl) rfl
theorem dX2_strength_25 : decode cX2_strength 25 = .ok (.iload_n 1, 1) := do_27 (rdb (p := 0) (i := 25) ch_cX2_strength_0 rfl)
theorem dX2_strength_26 : decode cX2_strength 26 = .ok (.iaload, 1) := do_46 (rdb (p := 0) (i := 26) ch_cX2_strength_0 rfl)
theorem dX2_strength_27 : decode cX2_strength 27 = .ok (.iload 4, 2) := do_21 (rdb (p := 0) (i := 27) ch_cX2_strength_0 rfl) (rdb (p := 0) (i := 28) ch_cX2_strength_0 rfl)
theorem dX2_strength_29 : decode cX2_strength 29 = .ok (.if_icmp .le 5, 3) := do_164 (rdb (p := 0) (i := 29) ch_cX2_strength_0 rfl) (rdb (p := 0) (i := 30) ch_cX2_strength_0 rfl) (rdb (p := 0) (i := 31) ch_cX2_strength_0 rfl) (by decide +kernel)
theorem ch_cX2_strength_32 : (cX2_strength.data.toList.drop 32).take 36 = [3, 172, 21, 5, 42, 180, 0, 21, 27, 46, 104, 16, 50, 108, 5, 29, 104, 100, 54, 6, 42, 180, 0, 30, 3, 50, 182, 0, 48, 153, 0, 53, 42, 180, 0, 34] := by decide +kernel
theorem dX2_strength_32 : decode cX2_strength 32 = .ok (.iconst 0, 1) := do_3 (rdb (p := 32) (i := 0) ch_cX2_strength_32 rfl)
theorem dX2_strength_33 : decode cX2_strength 33 = .ok (.ireturn, 1) := do_172 (rdb (p := 32) (i := 1) ch_cX2_strength_32 rfl)
theorem dX2_strength_34 : decode cX2_strength 34 = .ok (.iload 5, 2) := do_21 (rdb (p := 32) (i := 2) ch_cX2_strength_32 rfl) (rdb (p := 32) (i := 3) ch_cX2_strength_32 rfl)
theorem dX2_strength_36 : decode cX2_strength 36 = .ok (.aload_n 0, 1) := do_42 (rdb (p := 32) (i := 4) ch_cX2_strength_32 rfl)
theorem dX2_strength_37 : decode cX2_strength 37 = .ok (.getfield 21, 3) := do_180 (rdb (p := 32) (i := 5) ch_cX2_strength_32 rfl) (rdb (p := 32) (i := 6) ch_cX2_strength_32 rfl) (rdb (p := 32) (i := 7) ch_cX2_strength_32 rfl) rfl
theorem dX2_strength_40 : decode cX2_strength 40 = .ok (.iload_n 1, 1) := do_27 (rdb (p := 32) (i := 8) ch_cX2_strength_32 rfl)
theorem dX2_strength_41 : decode cX2_strength 41 = .ok (.iaload, 1) := do_46 (rdb (p := 32) (i := 9) ch_cX2_strength_32 rfl)
theorem dX2_strength_42 : decode cX2_strength 42 = .ok (.imul, 1) := do_104 (rdb (p := 32) (i := 10) ch_cX2_strength_32 rfl)
theorem dX2_strength_43 : decode cX2_strength 43 = .ok (.bipush 50, 2) := do_16 (rdb (p := 32) (i := 11) ch_cX2_strength_32 rfl) (rdb (p := 32) (i := 12) ch_cX2_strength_32 rfl) (by decide +kernel)
theorem dX2_strength_45 : decode cX2_strength 45 = .ok (.idiv, 1) := do_108 (rdb (p := 32) (i := 13) ch_cX2_strength_32 rfl)
theorem dX2_strength_46 : decode cX2_strength 46 = .ok (.iconst 2, 1) := do_5 (rdb (p := 32) (i := 14) ch_cX2_strength_32 rfl)
theorem dX2_strength_47 : decode cX2_strength 47 = .ok (.iload_n 3, 1) := do_29 (rdb (p := 32) (i := 15) ch_cX2_strength_32 rfl)
theorem dX2_strength_48 : decode cX2_strength 48 = .ok (.imul, 1) := do_104 (rdb (p := 32) (i := 16) ch_cX2_strength_32 rfl)
theorem dX2_strength_49 : decode cX2_strength 49 = .ok (.isub, 1) := do_100 (rdb (p := 32) (i := 17) ch_cX2_strength_32 rfl)
theorem dX2_strength_50 : decode cX2_strength 50 = .ok (.istore 6, 2) := do_54 (rdb (p := 32) (i := 18) ch_cX2_strength_32 rfl) (rdb (p := 32) (i := 19) ch_cX2_strength_32 rfl)
theorem dX2_strength_52 : decode cX2_strength 52 = .ok (.aload_n 0, 1) := do_42 (rdb (p := 32) (i := 20) ch_cX2_strength_32 rfl)
theorem dX2_strength_53 : decode cX2_strength 53 = .ok (.getfield 30, 3) := do_180 (rdb (p := 32) (i := 21) ch_cX2_strength_32 rfl) (rdb (p := 32) (i := 22) ch_cX2_strength_32 rfl) (rdb (p := 32) (i := 23) ch_cX2_strength_32 rfl) rfl
theorem dX2_strength_56 : decode cX2_strength 56 = .ok (.iconst 0, 1) := do_3 (rdb (p := 32) (i := 24) ch_cX2_strength_32 rfl)
theorem dX2_strength_57 : decode cX2_strength 57 = .ok (.aaload, 1) := do_50 (rdb (p := 32) (i := 25) ch_cX2_strength_32 rfl)
theorem dX2_strength_58 : decode cX2_strength 58 = .ok (.invokevirtual 48, 3) := do_182 (rdb (p := 32) (i := 26) ch_cX2_strength_32 rfl) (rdb (p := 32) (i := 27) ch_cX2_strength_32 rfl) (rdb (p := 32) (i := 28) ch_cX2_strength_32 rfl) rfl
theorem dX2_strength_61 : decode cX2_strength 61 = .ok (.ifCond .eq 53, 3) := do_153 (rdb (p := 32) (i := 29) ch_cX2_strength_32 rfl) (rdb (p := 32) (i := 30) ch_cX2_strength_32 rfl) (rdb (p := 32) (i := 31) ch_cX2_strength_32 rfl) (by decide +kernel)
theorem ch_cX2_strength_64 : (cX2_strength.data.toList.drop 64).take 36 = [42, 180, 0, 34, 3, 21, 5, 79, 42, 180, 0, 34, 4, 42, 180, 0, 21, 27, 46, 79, 42, 180, 0, 34, 5, 29, 79, 42, 180, 0, 34, 6, 21, 4, 79, 42] := by decide +kernel
theorem dX2_strength_64 : decode cX2_strength 64 = .ok (.aload_n 0, 1) := do_42 (rdb (p := 64) (i := 0) ch_cX2_strength_64 rfl)
theorem dX2_strength_65 : decode cX2_strength 65 = .ok (.getfield 34, 3) := do_180 (rdb (p := 64) (i := 1) ch_cX2_strength_64 rfl) (rdb (p := 64) (i := 2) ch_cX2_strength_64 rfl) (rdb (p := 64) (i := 3) ch_cX2_strength_64 rfl) rfl
theorem dX2_strength_68 : decode cX2_strength 68 = .ok (.iconst 0, 1) := do_3 (rdb (p := 64) (i := 4) ch_cX2_strength_64 rfl)
theorem dX2_strength_69 : decode cX2_strength 69 = .ok (.iload 5, 2) := do_21 (rdb (p := 64) (i := 5) ch_cX2_strength_64 rfl) (rdb (p := 64) (i := 6) ch_cX2_strength_64 rfl)
theorem dX2_strength_71 : decode cX2_strength 71 = .ok (.iastore, 1) := do_79 (rdb (p := 64) (i := 7) ch_cX2_strength_64 rfl)
theorem dX2_strength_72 : decode cX2_strength 72 = .ok (.aload_n 0, 1) := do_42 (rdb (p := 64) (i := 8) ch_cX2_strength_64 rfl)
theorem dX2_strength_73 : decode cX2_strength 73 = .ok (.getfield 34, 3) := do_180 (rdb (p := 64) (i := 9) ch_cX2_strength_64 rfl) (rdb (p := 64) (i := 10) ch_cX2_strength_64 rfl) (rdb (p := 64) (i := 11) ch_cX2_strength_64 rfl) rfl
theorem dX2_strength_76 : decode cX2_strength 76 = .ok (.iconst 1, 1) := do_4 (rdb (p := 64) (i := 12) ch_cX2_strength_64 rfl)
theorem dX2_strength_77 : decode cX2_strength 77 = .ok (.aload_n 0, 1) := do_42 (rdb (p := 64) (i := 13) ch_cX2_strength_64 rfl)
theorem dX2_strength_78 : decode cX2_strength 78 = .ok (.getfield 21, 3) := do_180 (rdb (p := 64) (i := 14) ch_cX2_strength_64 rfl) (rdb (p := 64) (i := 15) ch_cX2_strength_64 rfl) (rdb (p := 64) (i := 16) ch_cX2_strength_64 rfl) rfl
theorem dX2_strength_81 : decode cX2_strength 81 = .ok (.iload_n 1, 1) := do_27 (rdb (p := 64) (i := 17) ch_cX2_strength_64 rfl)
theorem dX2_strength_82 : decode cX2_strength 82 = .ok (.iaload, 1) := do_46 (rdb (p := 64) (i := 18) ch_cX2_strength_64 rfl)
theorem dX2_strength_83 : decode cX2_strength 83 = .ok (.iastore, 1) := do_79 (rdb (p := 64) (i := 19) ch_cX2_strength_64 rfl)
theorem dX2_strength_84 : decode cX2_strength 84 = .ok (.aload_n 0, 1) := do_42 (rdb (p := 64) (i := 20) ch_cX2_strength_64 rfl)
theorem dX2_strength_85 : decode cX2_strength 85 = .ok (.getfield 34, 3) := do_180 (rdb (p := 64) (i := 21) ch_cX2_strength_64 rfl) (rdb (p := 64) (i := 22) ch_cX2_strength_64 rfl) (rdb (p := 64) (i := 23) ch_cX2_strength_64 rfl) rfl
theorem dX2_strength_88 : decode cX2_strength 88 = .ok (.iconst 2, 1) := do_5 (rdb (p := 64) (i := 24) ch_cX2_strength_64 rfl)
theorem dX2_strength_89 : decode cX2_strength 89 = .ok (.iload_n 3, 1) := do_29 (rdb (p := 64) (i := 25) ch_cX2_strength_64 rfl)
theorem dX2_strength_90 : decode cX2_strength 90 = .ok (.iastore, 1) := do_79 (rdb (p := 64) (i := 26) ch_cX2_strength_64 rfl)
theorem dX2_strength_91 : decode cX2_strength 91 = .ok (.aload_n 0, 1) := do_42 (rdb (p := 64) (i := 27) ch_cX2_strength_64 rfl)
theorem dX2_strength_92 : decode cX2_strength 92 = .ok (.getfield 34, 3) := do_180 (rdb (p := 64) (i := 28) ch_cX2_strength_64 rfl) (rdb (p := 64) (i := 29) ch_cX2_strength_64 rfl) (rdb (p := 64) (i := 30) ch_cX2_strength_64 rfl) rfl
theorem dX2_strength_95 : decode cX2_strength 95 = .ok (.iconst 3, 1) := do_6 (rdb (p := 64) (i := 31) ch_cX2_strength_64 rfl)
theorem ch_cX2_strength_96 : (cX2_strength.data.toList.drop 96).take 36 = [21, 4, 79, 42, 180, 0, 30, 3, 50, 42, 180, 0, 34, 182, 0, 52, 54, 6, 3, 17, 3, 231, 21, 6, 184, 0, 56, 184, 0, 62, 54, 7, 42, 180, 0, 16] := by decide +kernel
theorem dX2_strength_96 : decode cX2_strength 96 = .ok (.iload 4, 2) := do_21 (rdb (p := 96) (i := 0) ch_cX2_strength_96 rfl) (rdb (p := 96) (i := 1) ch_cX2_strength_96 rfl)
theorem dX2_strength_98 : decode cX2_strength 98 = .ok (.iastore, 1) := do_79 (rdb (p := 96) (i := 2) ch_cX2_strength_96 rfl)
theorem dX2_strength_99 : decode cX2_strength 99 = .ok (.aload_n 0, 1) := do_42 (rdb (p := 96) (i := 3) ch_cX2_strength_96 rfl)
theorem dX2_strength_100 : decode cX2_strength 100 = .ok (.getfield 30, 3) := do_180 (rdb (p := 96) (i := 4) ch_cX2_strength_96 rfl) (rdb (p := 96) (i := 5) ch_cX2_strength_96 rfl) (rdb (p := 96) (i := 6) ch_cX2_strength_96 rfl) rfl
theorem dX2_strength_103 : decode cX2_strength 103 = .ok (.iconst 0, 1) := do_3 (rdb (p := 96) (i := 7) ch_cX2_strength_96 rfl)
theorem dX2_strength_104 : decode cX2_strength 104 = .ok (.aaload, 1) := do_50 (rdb (p := 96) (i := 8) ch_cX2_strength_96 rfl)
theorem dX2_strength_105 : decode cX2_strength 105 = .ok (.aload_n 0, 1) := do_42 (rdb (p := 96) (i := 9) ch_cX2_strength_96 rfl)
theorem dX2_strength_106 : decode cX2_strength 106 = .ok (.getfield 34, 3) := do_180 (rdb (p := 96) (i := 10) ch_cX2_strength_96 rfl) (rdb (p := 96) (i := 11) ch_cX2_strength_96 rfl) (rdb (p := 96) (i := 12) ch_cX2_strength_96 rfl) rfl
theorem dX2_strength_109 : decode cX2_strength 109 = .ok (.invokevirtual 52, 3) := do_182 (rdb (p := 96) (i := 13) ch_cX2_strength_96 rfl) (rdb (p := 96) (i := 14) ch_cX2_strength_96 rfl) (rdb (p := 96) (i := 15) ch_cX2_strength_96 rfl) rfl
theorem dX2_strength_112 : decode cX2_strength 112 = .ok (.istore 6, 2) := do_54 (rdb (p := 96) (i := 16) ch_cX2_strength_96 rfl) (rdb (p := 96) (i := 17) ch_cX2_strength_96 rfl)
theorem dX2_strength_114 : decode cX2_strength 114 = .ok (.iconst 0, 1) := do_3 (rdb (p := 96) (i := 18) ch_cX2_strength_96 rfl)
theorem dX2_strength_115 : decode cX2_strength 115 = .ok (.sipush 999, 3) := do_17 (rdb (p := 96) (i := 19) ch_cX2_strength_96 rfl) (rdb (p := 96) (i := 20) ch_cX2_strength_96 rfl) (rdb (p := 96) (i := 21) ch_cX2_strength_96 rfl) (by decide +kernel)
theorem dX2_strength_118 : decode cX2_strength 118 = .ok (.iload 6, 2) := do_21 (rdb (p := 96) (i := 22) ch_cX2_strength_96 rfl) (rdb (p := 96) (i := 23) ch_cX2_strength_96 rfl)
theorem dX2_strength_120 : decode cX2_strength 120 = .ok (.invokestatic 56, 3) := do_184 (rdb (p := 96) (i := 24) ch_cX2_strength_96 rfl) (rdb (p := 96) (i := 25) ch_cX2_strength_96 rfl) (rdb (p := 96) (i := 26) ch_cX2_strength_96 rfl) rfl
theorem dX2_strength_123 : decode cX2_strength 123 = .ok (.invokestatic 62, 3) := do_184 (rdb (p := 96) (i := 27) ch_cX2_strength_96 rfl) (rdb (p := 96) (i := 28) ch_cX2_strength_96 rfl) (rdb (p := 96) (i := 29) ch_cX2_strength_96 rfl) rfl
theorem dX2_strength_126 : decode cX2_strength 126 = .ok (.istore 7, 2) := do_54 (rdb (p := 96) (i := 30) ch_cX2_strength_96 rfl) (rdb (p := 96) (i := 31) ch_cX2_strength_96 rfl)
theorem ch_cX2_strength_128 : (cX2_strength.data.toList.drop 128).take 36 = [42, 180, 0, 16, 4, 160, 0, 10, 21, 7, 5, 108, 167, 0, 5, 21, 7, 172] := by decide +kernel
theorem dX2_strength_128 : decode cX2_strength 128 = .ok (.aload_n 0, 1) := do_42 (rdb (p := 128) (i := 0) ch_cX2_strength_128 rfl)
theorem dX2_strength_129 : decode cX2_strength 129 = .ok (.getfield 16, 3) := do_180 (rdb (p := 128) (i := 1) ch_cX2_strength_128 rfl) (rdb (p := 128) (i := 2) ch_cX2_strength_128 rfl) (rdb (p := 128) (i := 3) ch_cX2_strength_128 rfl) rfl
theorem dX2_strength_132 : decode cX2_strength 132 = .ok (.iconst 1, 1) := do_4 (rdb (p := 128) (i := 4) ch_cX2_strength_128 rfl)
theorem dX2_strength_133 : decode cX2_strength 133 = .ok (.if_icmp .ne 10, 3) := do_160 (rdb (p := 128) (i := 5) ch_cX2_strength_128 rfl) (rdb (p := 128) (i := 6) ch_cX2_strength_128 rfl) (rdb (p := 128) (i := 7) ch_cX2_strength_128 rfl) (by decide +kernel)
theorem dX2_strength_136 : decode cX2_strength 136 = .ok (.iload 7, 2) := do_21 (rdb (p := 128) (i := 8) ch_cX2_strength_128 rfl) (rdb (p := 128) (i := 9) ch_cX2_strength_128 rfl)
theorem dX2_strength_138 : decode cX2_strength 138 = .ok (.iconst 2, 1) := do_5 (rdb (p := 128) (i := 10) ch_cX2_strength_128 rfl)
theorem dX2_strength_139 : decode cX2_strength 139 = .ok (.idiv, 1) := do_108 (rdb (p := 128) (i := 11) ch_cX2_strength_128 rfl)
theorem dX2_strength_140 : decode cX2_strength 140 = .ok (.goto 5, 3) := do_167 (rdb (p := 128) (i := 12) ch_cX2_strength_128 rfl) (rdb (p := 128) (i := 13) ch_cX2_strength_128 rfl) (rdb (p := 128) (i := 14) ch_cX2_strength_128 rfl) (by decide +kernel)
theorem dX2_strength_143 : decode cX2_strength 143 = .ok (.iload 7, 2) := do_21 (rdb (p := 128) (i := 15) ch_cX2_strength_128 rfl) (rdb (p := 128) (i := 16) ch_cX2_strength_128 rfl)
theorem dX2_strength_145 : decode cX2_strength 145 = .ok (.ireturn, 1) := do_172 (rdb (p := 128) (i := 17) ch_cX2_strength_128 rfl)
theorem ch_cX2_takeFrom_0 : (cX2_takeFrom.data.toList.drop 0).take 36 = [42, 43, 180, 0, 7, 181, 0, 7, 42, 43, 180, 0, 13, 181, 0, 13, 42, 43, 180, 0, 16, 181, 0, 16, 43, 180, 0, 21, 3, 42, 180, 0, 21, 3, 8, 184] := by decide +kernel
theorem dX2_takeFrom_0 : decode cX2_takeFrom 0 = .ok (.aload_n 0, 1) := do_42 (rdb (p := 0) (i := 0) ch_cX2_takeFrom_0 rfl)
theorem dX2_takeFrom_1 : decode cX2_takeFrom 1 = .ok (.aload_n 1, 1) := do_43 (rdb (p := 0) (i := 1) ch_cX2_takeFrom_0 rfl)
theorem dX2_takeFrom_2 : decode cX2_takeFrom 2 = .ok (.getfield 7, 3) := do_180 (rdb (p := 0) (i := 2) ch_cX2_takeFrom_0 rfl) (rdb (p := 0) (i := 3) ch_cX2_takeFrom_0 rfl) (rdb (p := 0) (i := 4) ch_cX2_takeFrom_0 rfl) rfl
theorem dX2_takeFrom_5 : decode cX2_takeFrom 5 = .ok (.putfield 7, 3) := do_181 (rdb (p := 0) (i := 5) ch_cX2_takeFrom_0 rfl) (rdb (p := 0) (i := 6) ch_cX2_takeFrom_0 rfl) (rdb (p := 0) (i := 7) ch_cX2_takeFrom_0 rfl) rfl
theorem dX2_takeFrom_8 : decode cX2_takeFrom 8 = .ok (.aload_n 0, 1) := do_42 (rdb (p := 0) (i := 8) ch_cX2_takeFrom_0 rfl)
theorem dX2_takeFrom_9 : decode cX2_takeFrom 9 = .ok (.aload_n 1, 1) := do_43 (rdb (p := 0) (i := 9) ch_cX2_takeFrom_0 rfl)
theorem dX2_takeFrom_10 : decode cX2_takeFrom 10 = .ok (.getfield 13, 3) := do_180 (rdb (p := 0) (i := 10) ch_cX2_takeFrom_0 rfl) (rdb (p := 0) (i := 11) ch_cX2_takeFrom_0 rfl) (rdb (p := 0) (i := 12) ch_cX2_takeFrom_0 rfl) rfl
theorem dX2_takeFrom_13 : decode cX2_takeFrom 13 = .ok (.putfield 13, 3) := do_181 (rdb (p := 0) (i := 13) ch_cX2_takeFrom_0 rfl) (rdb (p := 0) (i := 14) ch_cX2_takeFrom_0 rfl) (rdb (p := 0) (i := 15) ch_cX2_takeFrom_0 rfl) rfl
theorem dX2_takeFrom_16 : decode cX2_takeFrom 16 = .ok (.aload_n 0, 1) := do_42 (rdb (p := 0) (i := 16) ch_cX2_takeFrom_0 rfl)
theorem dX2_takeFrom_17 : decode cX2_takeFrom 17 = .ok (.aload_n 1, 1) := do_43 (rdb (p := 0) (i := 17) ch_cX2_takeFrom_0 rfl)
theorem dX2_takeFrom_18 : decode cX2_takeFrom 18 = .ok (.getfield 16, 3) := do_180 (rdb (p := 0) (i := 18) ch_cX2_takeFrom_0 rfl) (rdb (p := 0) (i := 19) ch_cX2_takeFrom_0 rfl) (rdb (p := 0) (i := 20) ch_cX2_takeFrom_0 rfl) rfl
theorem dX2_takeFrom_21 : decode cX2_takeFrom 21 = .ok (.putfield 16, 3) := do_181 (rdb (p := 0) (i := 21) ch_cX2_takeFrom_0 rfl) (rdb (p := 0) (i := 22) ch_cX2_takeFrom_0 rfl) (rdb (p := 0) (i := 23) ch_cX2_takeFrom_0 rfl) rfl
theorem dX2_takeFrom_24 : decode cX2_takeFrom 24 = .ok (.aload_n 1, 1) := do_43 (rdb (p := 0) (i := 24) ch_cX2_takeFrom_0 rfl)
theorem dX2_takeFrom_25 : decode cX2_takeFrom 25 = .ok (.getfield 21, 3) := do_180 (rdb (p := 0) (i := 25) ch_cX2_takeFrom_0 rfl) (rdb (p := 0) (i := 26) ch_cX2_takeFrom_0 rfl) (rdb (p := 0) (i := 27) ch_cX2_takeFrom_0 rfl) rfl
theorem dX2_takeFrom_28 : decode cX2_takeFrom 28 = .ok (.iconst 0, 1) := do_3 (rdb (p := 0) (i := 28) ch_cX2_takeFrom_0 rfl)
theorem dX2_takeFrom_29 : decode cX2_takeFrom 29 = .ok (.aload_n 0, 1) := do_42 (rdb (p := 0) (i := 29) ch_cX2_takeFrom_0 rfl)
theorem dX2_takeFrom_30 : decode cX2_takeFrom 30 = .ok (.getfield 21, 3) := do_180 (rdb (p := 0) (i := 30) ch_cX2_takeFrom_0 rfl) (rdb (p := 0) (i := 31) ch_cX2_takeFrom_0 rfl) (rdb (p := 0) (i := 32) ch_cX2_takeFrom_0 rfl) rfl
theorem ch_cX2_takeFrom_32 : (cX2_takeFrom.data.toList.drop 32).take 36 = [21, 3, 8, 184, 0, 80, 43, 180, 0, 25, 3, 42, 180, 0, 25, 3, 8, 184, 0, 80, 3, 61, 28, 6, 162, 0, 24, 42, 180, 0, 30, 28, 50, 43, 180, 0] := by decide +kernel
theorem dX2_takeFrom_33 : decode cX2_takeFrom 33 = .ok (.iconst 0, 1) := do_3 (rdb (p := 32) (i := 1) ch_cX2_takeFrom_32 rfl)
theorem dX2_takeFrom_34 : decode cX2_takeFrom 34 = .ok (.iconst 5, 1) := do_8 (rdb (p := 32) (i := 2) ch_cX2_takeFrom_32 rfl)
theorem dX2_takeFrom_35 : decode cX2_takeFrom 35 = .ok (.invokestatic 80, 3) := do_184 (rdb (p := 32) (i := 3) ch_cX2_takeFrom_32 rfl) (rdb (p := 32) (i := 4) ch_cX2_takeFrom_32 rfl) (rdb (p := 32) (i := 5) ch_cX2_takeFrom_32 rfl) rfl
theorem dX2_takeFrom_38 : decode cX2_takeFrom 38 = .ok (.aload_n 1, 1) := do_43 (rdb (p := 32) (i := 6) ch_cX2_takeFrom_32 rfl)
theorem dX2_takeFrom_39 : decode cX2_takeFrom 39 = .ok (.getfield 25, 3) := do_180 (rdb (p := 32) (i := 7) ch_cX2_takeFrom_32 rfl) (rdb (p := 32) (i := 8) ch_cX2_takeFrom_32 rfl) (rdb (p := 32) (i := 9) ch_cX2_takeFrom_32 rfl) rfl
theorem dX2_takeFrom_42 : decode cX2_takeFrom 42 = .ok (.iconst 0, 1) := do_3 (rdb (p := 32) (i := 10) ch_cX2_takeFrom_32 rfl)
theorem dX2_takeFrom_43 : decode cX2_takeFrom 43 = .ok (.aload_n 0, 1) := do_42 (rdb (p := 32) (i := 11) ch_cX2_takeFrom_32 rfl)
theorem dX2_takeFrom_44 : decode cX2_takeFrom 44 = .ok (.getfield 25, 3) := do_180 (rdb (p := 32) (i := 12) ch_cX2_takeFrom_32 rfl) (rdb (p := 32) (i := 13) ch_cX2_takeFrom_32 rfl) (rdb (p := 32) (i := 14) ch_cX2_takeFrom_32 rfl) rfl
theorem dX2_takeFrom_47 : decode cX2_takeFrom 47 = .ok (.iconst 0, 1) := do_3 (rdb (p := 32) (i := 15) ch_cX2_takeFrom_32 rfl)
theorem dX2_takeFrom_48 : decode cX2_takeFrom 48 = .ok (.iconst 5, 1) := do_8 (rdb (p := 32) (i := 16) ch_cX2_takeFrom_32 rfl)
theorem dX2_takeFrom_49 : decode cX2_takeFrom 49 = .ok (.invokestatic 80, 3) := do_184 (rdb (p := 32) (i := 17) ch_cX2_takeFrom_32 rfl) (rdb (p := 32) (i := 18) ch_cX2_takeFrom_32 rfl) (rdb (p := 32) (i := 19) ch_cX2_takeFrom_32 rfl) rfl
theorem dX2_takeFrom_52 : decode cX2_takeFrom 52 = .ok (.iconst 0, 1) := do_3 (rdb (p := 32) (i := 20) ch_cX2_takeFrom_32 rfl)
theorem dX2_takeFrom_53 : decode cX2_takeFrom 53 = .ok (.istore_n 2, 1) := do_61 (rdb (p := 32) (i := 21) ch_cX2_takeFrom_32 rfl)
theorem dX2_takeFrom_54 : decode cX2_takeFrom 54 = .ok (.iload_n 2, 1) := do_28 (rdb (p := 32) (i := 22) ch_cX2_takeFrom_32 rfl)
theorem dX2_takeFrom_55 : decode cX2_takeFrom 55 = .ok (.iconst 3, 1) := do_6 (rdb (p := 32) (i := 23) ch_cX2_takeFrom_32 rfl)
theorem dX2_takeFrom_56 : decode cX2_takeFrom 56 = .ok (.if_icmp .ge 24, 3) := do_162 (rdb (p := 32) (i := 24) ch_cX2_takeFrom_32 rfl) (rdb (p := 32) (i := 25) ch_cX2_takeFrom_32 rfl) (rdb (p := 32) (i := 26) ch_cX2_takeFrom_32 rfl) (by decide +kernel)
theorem dX2_takeFrom_59 : decode cX2_takeFrom 59 = .ok (.aload_n 0, 1) := do_42 (rdb (p := 32) (i := 27) ch_cX2_takeFrom_32 rfl)
theorem dX2_takeFrom_60 : decode cX2_takeFrom 60 = .ok (.getfield 30, 3) := do_180 (rdb (p := 32) (i := 28) ch_cX2_takeFrom_32 rfl) (rdb (p := 32) (i := 29) ch_cX2_takeFrom_32 rfl) (rdb (p := 32) (i := 30) ch_cX2_takeFrom_32 rfl) rfl
theorem dX2_takeFrom_63 : decode cX2_takeFrom 63 = .ok (.iload_n 2, 1) := do_28 (rdb (p := 32) (i := 31) ch_cX2_takeFrom_32 rfl)
theorem ch_cX2_takeFrom_64 : (cX2_takeFrom.data.toList.drop 64).take 36 = [50, 43, 180, 0, 30, 28, 50, 182, 0, 86, 132, 2, 1, 167, 255, 233, 177] := by decide +kernel
theorem dX2_takeFrom_64 : decode cX2_takeFrom 64 = .ok (.aaload, 1) := do_50 (rdb (p := 64) (i := 0) ch_cX2_takeFrom_64 rfl)
theorem dX2_takeFrom_65 : decode cX2_takeFrom 65 = .ok (.aload_n 1, 1) := do_43 (rdb (p := 64) (i := 1) ch_cX2_takeFrom_64 rfl)
theorem dX2_takeFrom_66 : decode cX2_takeFrom 66 = .ok (.getfield 30, 3) := do_180 (rdb (p := 64) (i := 2) ch_cX2_takeFrom_64 rfl) (rdb (p := 64) (i := 3) ch_cX2_takeFrom_64 rfl) (rdb (p := 64) (i := 4) ch_cX2_takeFrom_64 rfl) rfl
theorem dX2_takeFrom_69 : decode cX2_takeFrom 69 = .ok (.iload_n 2, 1) := do_28 (rdb (p := 64) (i := 5) ch_cX2_takeFrom_64 rfl)
theorem dX2_takeFrom_70 : decode cX2_takeFrom 70 = .ok (.aaload, 1) := do_50 (rdb (p := 64) (i := 6) ch_cX2_takeFrom_64 rfl)
theorem dX2_takeFrom_71 : decode cX2_takeFrom 71 = .ok (.invokevirtual 86, 3) := do_182 (rdb (p := 64) (i := 7) ch_cX2_takeFrom_64 rfl) (rdb (p := 64) (i := 8) ch_cX2_takeFrom_64 rfl) (rdb (p := 64) (i := 9) ch_cX2_takeFrom_64 rfl) rfl
theorem dX2_takeFrom_74 : decode cX2_takeFrom 74 = .ok (.iinc 2 1, 3) := do_132 (rdb (p := 64) (i := 10) ch_cX2_takeFrom_64 rfl) (rdb (p := 64) (i := 11) ch_cX2_takeFrom_64 rfl) (rdb (p := 64) (i := 12) ch_cX2_takeFrom_64 rfl) (by decide +kernel)
theorem dX2_takeFrom_77 : decode cX2_takeFrom 77 = .ok (.goto (-23), 3) := do_167 (rdb (p := 64) (i := 13) ch_cX2_takeFrom_64 rfl) (rdb (p := 64) (i := 14) ch_cX2_takeFrom_64 rfl) (rdb (p := 64) (i := 15) ch_cX2_takeFrom_64 rfl) (by decide +kernel)
theorem dX2_takeFrom_80 : decode cX2_takeFrom 80 = .ok (.return_, 1) := do_177 (rdb (p := 64) (i := 16) ch_cX2_takeFrom_64 rfl)
theorem ch_cX3_add_0 : (cX3_add.data.toList.drop 0).take 36 = [42, 180, 0, 19, 54, 4, 21, 4, 155, 0, 10, 21, 4, 16, 7, 161, 0, 5, 2, 172, 42, 180, 0, 9, 21, 4, 27, 79, 42, 180, 0, 13, 21, 4, 28, 79] := by decide +kernel
theorem dX3_add_0 : decode cX3_add 0 = .ok (.aload_n 0, 1) := do_42 (rdb (p := 0) (i := 0) ch_cX3_add_0 rfl)
theorem dX3_add_1 : decode cX3_add 1 = .ok (.getfield 19, 3) := do_180 (rdb (p := 0) (i := 1) ch_cX3_add_0 rfl) (rdb (p := 0) (i := 2) ch_cX3_add_0 rfl) (rdb (p := 0) (i := 3) ch_cX3_add_0 rfl) rfl
theorem dX3_add_4 : decode cX3_add 4 = .ok (.istore 4, 2) := do_54 (rdb (p := 0) (i := 4) ch_cX3_add_0 rfl) (rdb (p := 0) (i := 5) ch_cX3_add_0 rfl)
theorem dX3_add_6 : decode cX3_add 6 = .ok (.iload 4, 2) := do_21 (rdb (p := 0) (i := 6) ch_cX3_add_0 rfl) (rdb (p := 0) (i := 7) ch_cX3_add_0 rfl)
theorem dX3_add_8 : decode cX3_add 8 = .ok (.ifCond .lt 10, 3) := do_155 (rdb (p := 0) (i := 8) ch_cX3_add_0 rfl) (rdb (p := 0) (i := 9) ch_cX3_add_0 rfl) (rdb (p := 0) (i := 10) ch_cX3_add_0 rfl) (by decide +kernel)
theorem dX3_add_11 : decode cX3_add 11 = .ok (.iload 4, 2) := do_21 (rdb (p := 0) (i := 11) ch_cX3_add_0 rfl) (rdb (p := 0) (i := 12) ch_cX3_add_0 rfl)
theorem dX3_add_13 : decode cX3_add 13 = .ok (.bipush 7, 2) := do_16 (rdb (p := 0) (i := 13) ch_cX3_add_0 rfl) (rdb (p := 0) (i := 14) ch_cX3_add_0 rfl) (by decide +kernel)
theorem dX3_add_15 : decode cX3_add 15 = .ok (.if_icmp .lt 5, 3) := do_161 (rdb (p := 0) (i := 15) ch_cX3_add_0 rfl) (rdb (p := 0) (i := 16) ch_cX3_add_0 rfl) (rdb (p := 0) (i := 17) ch_cX3_add_0 rfl) (by decide +kernel)
theorem dX3_add_18 : decode cX3_add 18 = .ok (.iconst (-1), 1) := do_2 (rdb (p := 0) (i := 18) ch_cX3_add_0 rfl)
theorem dX3_add_19 : decode cX3_add 19 = .ok (.ireturn, 1) := do_172 (rdb (p := 0) (i := 19) ch_cX3_add_0 rfl)
theorem dX3_add_20 : decode cX3_add 20 = .ok (.aload_n 0, 1) := do_42 (rdb (p := 0) (i := 20) ch_cX3_add_0 rfl)
theorem dX3_add_21 : decode cX3_add 21 = .ok (.getfield 9, 3) := do_180 (rdb (p := 0) (i := 21) ch_cX3_add_0 rfl) (rdb (p := 0) (i := 22) ch_cX3_add_0 rfl) (rdb (p := 0) (i := 23) ch_cX3_add_0 rfl) rfl
theorem dX3_add_24 : decode cX3_add 24 = .ok (.iload 4, 2) := do_21 (rdb (p := 0) (i := 24) ch_cX3_add_0 rfl) (rdb (p := 0) (i := 25) ch_cX3_add_0 rfl)
theorem dX3_add_26 : decode cX3_add 26 = .ok (.iload_n 1, 1) := do_27 (rdb (p := 0) (i := 26) ch_cX3_add_0 rfl)
theorem dX3_add_27 : decode cX3_add 27 = .ok (.iastore, 1) := do_79 (rdb (p := 0) (i := 27) ch_cX3_add_0 rfl)
theorem dX3_add_28 : decode cX3_add 28 = .ok (.aload_n 0, 1) := do_42 (rdb (p := 0) (i := 28) ch_cX3_add_0 rfl)
theorem dX3_add_29 : decode cX3_add 29 = .ok (.getfield 13, 3) := do_180 (rdb (p := 0) (i := 29) ch_cX3_add_0 rfl) (rdb (p := 0) (i := 30) ch_cX3_add_0 rfl) (rdb (p := 0) (i := 31) ch_cX3_add_0 rfl) rfl
theorem ch_cX3_add_32 : (cX3_add.data.toList.drop 32).take 36 = [21, 4, 28, 79, 42, 180, 0, 16, 21, 4, 29, 79, 42, 89, 180, 0, 19, 4, 96, 181, 0, 19, 21, 4, 172] := by decide +kernel
theorem dX3_add_32 : decode cX3_add 32 = .ok (.iload 4, 2) := do_21 (rdb (p := 32) (i := 0) ch_cX3_add_32 rfl) (rdb (p := 32) (i := 1) ch_cX3_add_32 rfl)
theorem dX3_add_34 : decode cX3_add 34 = .ok (.iload_n 2, 1) := do_28 (rdb (p := 32) (i := 2) ch_cX3_add_32 rfl)
theorem dX3_add_35 : decode cX3_add 35 = .ok (.iastore, 1) := do_79 (rdb (p := 32) (i := 3) ch_cX3_add_32 rfl)
theorem dX3_add_36 : decode cX3_add 36 = .ok (.aload_n 0, 1) := do_42 (rdb (p := 32) (i := 4) ch_cX3_add_32 rfl)
theorem dX3_add_37 : decode cX3_add 37 = .ok (.getfield 16, 3) := do_180 (rdb (p := 32) (i := 5) ch_cX3_add_32 rfl) (rdb (p := 32) (i := 6) ch_cX3_add_32 rfl) (rdb (p := 32) (i := 7) ch_cX3_add_32 rfl) rfl
theorem dX3_add_40 : decode cX3_add 40 = .ok (.iload 4, 2) := do_21 (rdb (p := 32) (i := 8) ch_cX3_add_32 rfl) (rdb (p := 32) (i := 9) ch_cX3_add_32 rfl)
theorem dX3_add_42 : decode cX3_add 42 = .ok (.iload_n 3, 1) := do_29 (rdb (p := 32) (i := 10) ch_cX3_add_32 rfl)
theorem dX3_add_43 : decode cX3_add 43 = .ok (.iastore, 1) := do_79 (rdb (p := 32) (i := 11) ch_cX3_add_32 rfl)
theorem dX3_add_44 : decode cX3_add 44 = .ok (.aload_n 0, 1) := do_42 (rdb (p := 32) (i := 12) ch_cX3_add_32 rfl)
theorem dX3_add_45 : decode cX3_add 45 = .ok (.dup, 1) := do_89 (rdb (p := 32) (i := 13) ch_cX3_add_32 rfl)
theorem dX3_add_46 : decode cX3_add 46 = .ok (.getfield 19, 3) := do_180 (rdb (p := 32) (i := 14) ch_cX3_add_32 rfl) (rdb (p := 32) (i := 15) ch_cX3_add_32 rfl) (rdb (p := 32) (i := 16) ch_cX3_add_32 rfl) rfl
theorem dX3_add_49 : decode cX3_add 49 = .ok (.iconst 1, 1) := do_4 (rdb (p := 32) (i := 17) ch_cX3_add_32 rfl)
theorem dX3_add_50 : decode cX3_add 50 = .ok (.iadd, 1) := do_96 (rdb (p := 32) (i := 18) ch_cX3_add_32 rfl)
theorem dX3_add_51 : decode cX3_add 51 = .ok (.putfield 19, 3) := do_181 (rdb (p := 32) (i := 19) ch_cX3_add_32 rfl) (rdb (p := 32) (i := 20) ch_cX3_add_32 rfl) (rdb (p := 32) (i := 21) ch_cX3_add_32 rfl) rfl
theorem dX3_add_54 : decode cX3_add 54 = .ok (.iload 4, 2) := do_21 (rdb (p := 32) (i := 22) ch_cX3_add_32 rfl) (rdb (p := 32) (i := 23) ch_cX3_add_32 rfl)
theorem dX3_add_56 : decode cX3_add 56 = .ok (.ireturn, 1) := do_172 (rdb (p := 32) (i := 24) ch_cX3_add_32 rfl)
theorem dX3_hasRoom_0 : decode cX3_hasRoom 0 = .ok (.aload_n 0, 1) := by decide +kernel
theorem dX3_hasRoom_1 : decode cX3_hasRoom 1 = .ok (.getfield 19, 3) := by decide +kernel
theorem dX3_hasRoom_4 : decode cX3_hasRoom 4 = .ok (.bipush 7, 2) := by decide +kernel
theorem dX3_hasRoom_6 : decode cX3_hasRoom 6 = .ok (.if_icmp .ge 7, 3) := by decide +kernel
theorem dX3_hasRoom_9 : decode cX3_hasRoom 9 = .ok (.iconst 1, 1) := by decide +kernel
theorem dX3_hasRoom_10 : decode cX3_hasRoom 10 = .ok (.goto 4, 3) := by decide +kernel
theorem dX3_hasRoom_13 : decode cX3_hasRoom 13 = .ok (.iconst 0, 1) := by decide +kernel
theorem dX3_hasRoom_14 : decode cX3_hasRoom 14 = .ok (.ireturn, 1) := by decide +kernel
theorem dX3_isBetter_0 : decode cX3_isBetter 0 = .ok (.iload_n 1, 1) := by decide +kernel
theorem dX3_isBetter_1 : decode cX3_isBetter 1 = .ok (.aload_n 0, 1) := by decide +kernel
theorem dX3_isBetter_2 : decode cX3_isBetter 2 = .ok (.getfield 38, 3) := by decide +kernel
theorem dX3_isBetter_5 : decode cX3_isBetter 5 = .ok (.if_icmp .lt 28, 3) := by decide +kernel
theorem dX3_isBetter_8 : decode cX3_isBetter 8 = .ok (.iload_n 1, 1) := by decide +kernel
theorem dX3_isBetter_9 : decode cX3_isBetter 9 = .ok (.aload_n 0, 1) := by decide +kernel
theorem dX3_isBetter_10 : decode cX3_isBetter 10 = .ok (.getfield 38, 3) := by decide +kernel
theorem dX3_isBetter_13 : decode cX3_isBetter 13 = .ok (.if_icmp .ne 24, 3) := by decide +kernel
theorem dX3_isBetter_16 : decode cX3_isBetter 16 = .ok (.aload_n 0, 1) := by decide +kernel
theorem dX3_isBetter_17 : decode cX3_isBetter 17 = .ok (.getfield 28, 3) := by decide +kernel
theorem dX3_isBetter_20 : decode cX3_isBetter 20 = .ok (.getfield 70, 3) := by decide +kernel
theorem dX3_isBetter_23 : decode cX3_isBetter 23 = .ok (.aload_n 0, 1) := by decide +kernel
theorem dX3_isBetter_24 : decode cX3_isBetter 24 = .ok (.getfield 32, 3) := by decide +kernel
theorem dX3_isBetter_27 : decode cX3_isBetter 27 = .ok (.getfield 70, 3) := by decide +kernel
theorem dX3_isBetter_30 : decode cX3_isBetter 30 = .ok (.if_icmp .ge 7, 3) := by decide +kernel
theorem dX3_isBetter_33 : decode cX3_isBetter 33 = .ok (.iconst 1, 1) := by decide +kernel
theorem dX3_isBetter_34 : decode cX3_isBetter 34 = .ok (.goto 4, 3) := by decide +kernel
theorem dX3_isBetter_37 : decode cX3_isBetter 37 = .ok (.iconst 0, 1) := by decide +kernel
theorem dX3_isBetter_38 : decode cX3_isBetter 38 = .ok (.ireturn, 1) := by decide +kernel
theorem ch_cX3_takeFrom_0 : (cX3_takeFrom.data.toList.drop 0).take 36 = [43, 180, 0, 9, 3, 42, 180, 0, 9, 3, 16, 7, 184, 0, 71, 43, 180, 0, 13, 3, 42, 180, 0, 13, 3, 16, 7, 184, 0, 71, 43, 180, 0, 16, 3, 42] := by decide +kernel
theorem dX3_takeFrom_0 : decode cX3_takeFrom 0 = .ok (.aload_n 1, 1) := do_43 (rdb (p := 0) (i := 0) ch_cX3_takeFrom_0 rfl)
theorem dX3_takeFrom_1 : decode cX3_takeFrom 1 = .ok (.getfield 9, 3) := do_180 (rdb (p := 0) (i := 1) ch_cX3_takeFrom_0 rfl) (rdb (p := 0) (i := 2) ch_cX3_takeFrom_0 rfl) (rdb (p := 0) (i := 3) ch_cX3_takeFrom_0 rfl) rfl
theorem dX3_takeFrom_4 : decode cX3_takeFrom 4 = .ok (.iconst 0, 1) := do_3 (rdb (p := 0) (i := 4) ch_cX3_takeFrom_0 rfl)
theorem dX3_takeFrom_5 : decode cX3_takeFrom 5 = .ok (.aload_n 0, 1) := do_42 (rdb (p := 0) (i := 5) ch_cX3_takeFrom_0 rfl)
theorem dX3_takeFrom_6 : decode cX3_takeFrom 6 = .ok (.getfield 9, 3) := do_180 (rdb (p := 0) (i := 6) ch_cX3_takeFrom_0 rfl) (rdb (p := 0) (i := 7) ch_cX3_takeFrom_0 rfl) (rdb (p := 0) (i := 8) ch_cX3_takeFrom_0 rfl) rfl
theorem dX3_takeFrom_9 : decode cX3_takeFrom 9 = .ok (.iconst 0, 1) := do_3 (rdb (p := 0) (i := 9) ch_cX3_takeFrom_0 rfl)
theorem dX3_takeFrom_10 : decode cX3_takeFrom 10 = .ok (.bipush 7, 2) := do_16 (rdb (p := 0) (i := 10) ch_cX3_takeFrom_0 rfl) (rdb (p := 0) (i := 11) ch_cX3_takeFrom_0 rfl) (by decide +kernel)
theorem dX3_takeFrom_12 : decode cX3_takeFrom 12 = .ok (.invokestatic 71, 3) := do_184 (rdb (p := 0) (i := 12) ch_cX3_takeFrom_0 rfl) (rdb (p := 0) (i := 13) ch_cX3_takeFrom_0 rfl) (rdb (p := 0) (i := 14) ch_cX3_takeFrom_0 rfl) rfl
theorem dX3_takeFrom_15 : decode cX3_takeFrom 15 = .ok (.aload_n 1, 1) := do_43 (rdb (p := 0) (i := 15) ch_cX3_takeFrom_0 rfl)
theorem dX3_takeFrom_16 : decode cX3_takeFrom 16 = .ok (.getfield 13, 3) := do_180 (rdb (p := 0) (i := 16) ch_cX3_takeFrom_0 rfl) (rdb (p := 0) (i := 17) ch_cX3_takeFrom_0 rfl) (rdb (p := 0) (i := 18) ch_cX3_takeFrom_0 rfl) rfl
theorem dX3_takeFrom_19 : decode cX3_takeFrom 19 = .ok (.iconst 0, 1) := do_3 (rdb (p := 0) (i := 19) ch_cX3_takeFrom_0 rfl)
theorem dX3_takeFrom_20 : decode cX3_takeFrom 20 = .ok (.aload_n 0, 1) := do_42 (rdb (p := 0) (i := 20) ch_cX3_takeFrom_0 rfl)
theorem dX3_takeFrom_21 : decode cX3_takeFrom 21 = .ok (.getfield 13, 3) := do_180 (rdb (p := 0) (i := 21) ch_cX3_takeFrom_0 rfl) (rdb (p := 0) (i := 22) ch_cX3_takeFrom_0 rfl) (rdb (p := 0) (i := 23) ch_cX3_takeFrom_0 rfl) rfl
theorem dX3_takeFrom_24 : decode cX3_takeFrom 24 = .ok (.iconst 0, 1) := do_3 (rdb (p := 0) (i := 24) ch_cX3_takeFrom_0 rfl)
theorem dX3_takeFrom_25 : decode cX3_takeFrom 25 = .ok (.bipush 7, 2) := do_16 (rdb (p := 0) (i := 25) ch_cX3_takeFrom_0 rfl) (rdb (p := 0) (i := 26) ch_cX3_takeFrom_0 rfl) (by decide +kernel)
theorem dX3_takeFrom_27 : decode cX3_takeFrom 27 = .ok (.invokestatic 71, 3) := do_184 (rdb (p := 0) (i := 27) ch_cX3_takeFrom_0 rfl) (rdb (p := 0) (i := 28) ch_cX3_takeFrom_0 rfl) (rdb (p := 0) (i := 29) ch_cX3_takeFrom_0 rfl) rfl
theorem dX3_takeFrom_30 : decode cX3_takeFrom 30 = .ok (.aload_n 1, 1) := do_43 (rdb (p := 0) (i := 30) ch_cX3_takeFrom_0 rfl)
theorem dX3_takeFrom_31 : decode cX3_takeFrom 31 = .ok (.getfield 16, 3) := do_180 (rdb (p := 0) (i := 31) ch_cX3_takeFrom_0 rfl) (rdb (p := 0) (i := 32) ch_cX3_takeFrom_0 rfl) (rdb (p := 0) (i := 33) ch_cX3_takeFrom_0 rfl) rfl
theorem ch_cX3_takeFrom_32 : (cX3_takeFrom.data.toList.drop 32).take 36 = [0, 16, 3, 42, 180, 0, 16, 3, 16, 7, 184, 0, 71, 42, 43, 180, 0, 19, 181, 0, 19, 177] := by decide +kernel
theorem dX3_takeFrom_34 : decode cX3_takeFrom 34 = .ok (.iconst 0, 1) := do_3 (rdb (p := 32) (i := 2) ch_cX3_takeFrom_32 rfl)
theorem dX3_takeFrom_35 : decode cX3_takeFrom 35 = .ok (.aload_n 0, 1) := do_42 (rdb (p := 32) (i := 3) ch_cX3_takeFrom_32 rfl)
theorem dX3_takeFrom_36 : decode cX3_takeFrom 36 = .ok (.getfield 16, 3) := do_180 (rdb (p := 32) (i := 4) ch_cX3_takeFrom_32 rfl) (rdb (p := 32) (i := 5) ch_cX3_takeFrom_32 rfl) (rdb (p := 32) (i := 6) ch_cX3_takeFrom_32 rfl) rfl
theorem dX3_takeFrom_39 : decode cX3_takeFrom 39 = .ok (.iconst 0, 1) := do_3 (rdb (p := 32) (i := 7) ch_cX3_takeFrom_32 rfl)
theorem dX3_takeFrom_40 : decode cX3_takeFrom 40 = .ok (.bipush 7, 2) := do_16 (rdb (p := 32) (i := 8) ch_cX3_takeFrom_32 rfl) (rdb (p := 32) (i := 9) ch_cX3_takeFrom_32 rfl) (by decide +kernel)
theorem dX3_takeFrom_42 : decode cX3_takeFrom 42 = .ok (.invokestatic 71, 3) := do_184 (rdb (p := 32) (i := 10) ch_cX3_takeFrom_32 rfl) (rdb (p := 32) (i := 11) ch_cX3_takeFrom_32 rfl) (rdb (p := 32) (i := 12) ch_cX3_takeFrom_32 rfl) rfl
theorem dX3_takeFrom_45 : decode cX3_takeFrom 45 = .ok (.aload_n 0, 1) := do_42 (rdb (p := 32) (i := 13) ch_cX3_takeFrom_32 rfl)
theorem dX3_takeFrom_46 : decode cX3_takeFrom 46 = .ok (.aload_n 1, 1) := do_43 (rdb (p := 32) (i := 14) ch_cX3_takeFrom_32 rfl)
theorem dX3_takeFrom_47 : decode cX3_takeFrom 47 = .ok (.getfield 19, 3) := do_180 (rdb (p := 32) (i := 15) ch_cX3_takeFrom_32 rfl) (rdb (p := 32) (i := 16) ch_cX3_takeFrom_32 rfl) (rdb (p := 32) (i := 17) ch_cX3_takeFrom_32 rfl) rfl
theorem dX3_takeFrom_50 : decode cX3_takeFrom 50 = .ok (.putfield 19, 3) := do_181 (rdb (p := 32) (i := 18) ch_cX3_takeFrom_32 rfl) (rdb (p := 32) (i := 19) ch_cX3_takeFrom_32 rfl) (rdb (p := 32) (i := 20) ch_cX3_takeFrom_32 rfl) rfl
theorem dX3_takeFrom_53 : decode cX3_takeFrom 53 = .ok (.return_, 1) := do_177 (rdb (p := 32) (i := 21) ch_cX3_takeFrom_32 rfl)
