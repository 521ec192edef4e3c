/-! words of the tables that are used, by their places; decode rows; fields -/
theorem li_37 : (37 : Int32).toInt = 37 := by decide
theorem li_42 : (42 : Int32).toInt = 42 := by decide
theorem li_43 : (43 : Int32).toInt = 43 := by decide
theorem li_45 : (45 : Int32).toInt = 45 := by decide
theorem li_47 : (47 : Int32).toInt = 47 := by decide
theorem li_57 : (57 : Int32).toInt = 57 := by decide
theorem li_60 : (60 : Int32).toInt = 60 := by decide
theorem li_61 : (61 : Int32).toInt = 61 := by decide
theorem li_62 : (62 : Int32).toInt = 62 := by decide
theorem li_91 : (91 : Int32).toInt = 91 := by decide
theorem m_1 : Cond.selects yX4_readComparisons.cls yX4_readComparisons yX4_readComparisons ∈ BASE := bmem 1 (by decide +kernel) rfl
theorem m_2 : Cond.selects yX4_readSum.cls yX4_readSum yX4_readSum ∈ BASE := bmem 2 (by decide +kernel) rfl
theorem m_3 : Cond.selects yX4_readTerm.cls yX4_readTerm yX4_readTerm ∈ BASE := bmem 3 (by decide +kernel) rfl
theorem m_4 : Cond.selects yX4_readOne.cls yX4_readOne yX4_readOne ∈ BASE := bmem 4 (by decide +kernel) rfl
theorem m_6 : Cond.selects yX4_readNumber.cls yX4_readNumber yX4_readNumber ∈ BASE := bmem 6 (by decide +kernel) rfl
theorem m_7 : Cond.selects yX4_readOpened.cls yX4_readOpened yX4_readOpened ∈ BASE := bmem 7 (by decide +kernel) rfl
theorem m_9 : Cond.selects yX4_expect.cls yX4_expect yX4_expect ∈ BASE := bmem 9 (by decide +kernel) rfl
theorem m_10 : Cond.selects yX4_readName.cls yX4_readName yX4_readName ∈ BASE := bmem 10 (by decide +kernel) rfl
theorem m_364 : Cond.fieldLink RX4 38 "ClickStreet$Reader" "open" "I" ∈ BASE := bmem 364 (by decide +kernel) rfl
theorem m_692 : Cond.methodLink RX4 55 yX4_readComparisons ∈ BASE := bmem 692 (by decide +kernel) rfl
theorem m_694 : Cond.instanceMethod yX4_readComparisons ∈ BASE := bmem 694 (by decide +kernel) rfl
theorem m_695 : Cond.code yX4_readComparisons cX4_readComparisons 3 none ∈ BASE := bmem 695 (by decide +kernel) rfl
theorem m_696 : Cond.methodLink RX4 72 yX4_readSum ∈ BASE := bmem 696 (by decide +kernel) rfl
theorem m_698 : Cond.instanceMethod yX4_readSum ∈ BASE := bmem 698 (by decide +kernel) rfl
theorem m_699 : Cond.code yX4_readSum cX4_readSum 3 none ∈ BASE := bmem 699 (by decide +kernel) rfl
theorem m_700 : Cond.methodLink RX4 78 yX4_readTerm ∈ BASE := bmem 700 (by decide +kernel) rfl
theorem m_702 : Cond.instanceMethod yX4_readTerm ∈ BASE := bmem 702 (by decide +kernel) rfl
theorem m_703 : Cond.code yX4_readTerm cX4_readTerm 3 none ∈ BASE := bmem 703 (by decide +kernel) rfl
theorem m_704 : Cond.methodLink RX4 81 yX4_readOne ∈ BASE := bmem 704 (by decide +kernel) rfl
theorem m_706 : Cond.instanceMethod yX4_readOne ∈ BASE := bmem 706 (by decide +kernel) rfl
theorem m_707 : Cond.code yX4_readOne cX4_readOne 2 none ∈ BASE := bmem 707 (by decide +kernel) rfl
theorem m_716 : Cond.methodLink RX4 84 yX4_readNumber ∈ BASE := bmem 716 (by decide +kernel) rfl
theorem m_718 : Cond.instanceMethod yX4_readNumber ∈ BASE := bmem 718 (by decide +kernel) rfl
theorem m_719 : Cond.code yX4_readNumber cX4_readNumber 4 none ∈ BASE := bmem 719 (by decide +kernel) rfl
theorem m_724 : Cond.methodLink RX4 87 yX4_readOpened ∈ BASE := bmem 724 (by decide +kernel) rfl
theorem m_726 : Cond.instanceMethod yX4_readOpened ∈ BASE := bmem 726 (by decide +kernel) rfl
theorem m_727 : Cond.code yX4_readOpened cX4_readOpened 2 none ∈ BASE := bmem 727 (by decide +kernel) rfl
theorem m_732 : Cond.methodLink RX4 98 yX4_expect ∈ BASE := bmem 732 (by decide +kernel) rfl
theorem m_734 : Cond.instanceMethod yX4_expect ∈ BASE := bmem 734 (by decide +kernel) rfl
theorem m_735 : Cond.code yX4_expect cX4_expect 2 none ∈ BASE := bmem 735 (by decide +kernel) rfl
theorem m_736 : Cond.methodLink RX4 90 yX4_readName ∈ BASE := bmem 736 (by decide +kernel) rfl
theorem m_738 : Cond.instanceMethod yX4_readName ∈ BASE := bmem 738 (by decide +kernel) rfl
theorem m_739 : Cond.code yX4_readName cX4_readName 3 none ∈ BASE := bmem 739 (by decide +kernel) rfl
theorem kV_X4_expect : KV yX4_expect cX4_expect 2 none 1 := ⟨m_734, m_9, m_88, m_735, by decide +kernel, by decide +kernel, by decide +kernel⟩
theorem kV_X4_readComparisons : KV yX4_readComparisons cX4_readComparisons 3 none 0 := ⟨m_694, m_1, m_88, m_695, by decide +kernel, by decide +kernel, by decide +kernel⟩
theorem kV_X4_readName : KV yX4_readName cX4_readName 3 none 1 := ⟨m_738, m_10, m_88, m_739, by decide +kernel, by decide +kernel, by decide +kernel⟩
theorem kV_X4_readNumber : KV yX4_readNumber cX4_readNumber 4 none 0 := ⟨m_718, m_6, m_88, m_719, by decide +kernel, by decide +kernel, by decide +kernel⟩
theorem kV_X4_readOne : KV yX4_readOne cX4_readOne 2 none 0 := ⟨m_706, m_4, m_88, m_707, by decide +kernel, by decide +kernel, by decide +kernel⟩
theorem kV_X4_readOpened : KV yX4_readOpened cX4_readOpened 2 none 1 := ⟨m_726, m_7, m_88, m_727, by decide +kernel, by decide +kernel, by decide +kernel⟩
theorem kV_X4_readSum : KV yX4_readSum cX4_readSum 3 none 0 := ⟨m_698, m_2, m_88, m_699, by decide +kernel, by decide +kernel, by decide +kernel⟩
theorem kV_X4_readTerm : KV yX4_readTerm cX4_readTerm 3 none 0 := ⟨m_702, m_3, m_88, m_703, by decide +kernel, by decide +kernel, by decide +kernel⟩
theorem fl_RX4_38 : FLK RX4 38 4 5 .int false := ⟨RX4, TX4, 7, tyX4, rfl, inB4, tyX4_ok, nmX4, by decide, rfl, rfl, Or.inl m_364⟩
theorem ch_cX4_readComparisons_0 : (cX4_readComparisons.data.toList.drop 0).take 36 = [42, 182, 0, 72, 3, 60, 27, 16, 48, 162, 0, 66, 42, 180, 0, 35, 156, 0, 59, 42, 182, 0, 58, 61, 28, 16, 60, 159, 0, 16, 28, 16, 61, 159, 0, 10] := by decide +kernel
theorem dX4_readComparisons_0 : decode cX4_readComparisons 0 = .ok (.aload_n 0, 1) := do_42 (rdb (p := 0) (i := 0) ch_cX4_readComparisons_0 rfl)
theorem dX4_readComparisons_1 : decode cX4_readComparisons 1 = .ok (.invokevirtual 72, 3) := do_182 (rdb (p := 0) (i := 1) ch_cX4_readComparisons_0 rfl) (rdb (p := 0) (i := 2) ch_cX4_readComparisons_0 rfl) (rdb (p := 0) (i := 3) ch_cX4_readComparisons_0 rfl) rfl
theorem dX4_readComparisons_4 : decode cX4_readComparisons 4 = .ok (.iconst 0, 1) := do_3 (rdb (p := 0) (i := 4) ch_cX4_readComparisons_0 rfl)
theorem dX4_readComparisons_5 : decode cX4_readComparisons 5 = .ok (.istore_n 1, 1) := do_60 (rdb (p := 0) (i := 5) ch_cX4_readComparisons_0 rfl)
theorem dX4_readComparisons_6 : decode cX4_readComparisons 6 = .ok (.iload_n 1, 1) := do_27 (rdb (p := 0) (i := 6) ch_cX4_readComparisons_0 rfl)
theorem dX4_readComparisons_7 : decode cX4_readComparisons 7 = .ok (.bipush 48, 2) := do_16 (rdb (p := 0) (i := 7) ch_cX4_readComparisons_0 rfl) (rdb (p := 0) (i := 8) ch_cX4_readComparisons_0 rfl) (by decide +kernel)
theorem dX4_readComparisons_9 : decode cX4_readComparisons 9 = .ok (.if_icmp .ge 66, 3) := do_162 (rdb (p := 0) (i := 9) ch_cX4_readComparisons_0 rfl) (rdb (p := 0) (i := 10) ch_cX4_readComparisons_0 rfl) (rdb (p := 0) (i := 11) ch_cX4_readComparisons_0 rfl) (by decide +kernel)
theorem dX4_readComparisons_12 : decode cX4_readComparisons 12 = .ok (.aload_n 0, 1) := do_42 (rdb (p := 0) (i := 12) ch_cX4_readComparisons_0 rfl)
theorem dX4_readComparisons_13 : decode cX4_readComparisons 13 = .ok (.getfield 35, 3) := do_180 (rdb (p := 0) (i := 13) ch_cX4_readComparisons_0 rfl) (rdb (p := 0) (i := 14) ch_cX4_readComparisons_0 rfl) (rdb (p := 0) (i := 15) ch_cX4_readComparisons_0 rfl) rfl
theorem dX4_readComparisons_16 : decode cX4_readComparisons 16 = .ok (.ifCond .ge 59, 3) := do_156 (rdb (p := 0) (i := 16) ch_cX4_readComparisons_0 rfl) (rdb (p := 0) (i := 17) ch_cX4_readComparisons_0 rfl) (rdb (p := 0) (i := 18) ch_cX4_readComparisons_0 rfl) (by decide +kernel)
theorem dX4_readComparisons_19 : decode cX4_readComparisons 19 = .ok (.aload_n 0, 1) := do_42 (rdb (p := 0) (i := 19) ch_cX4_readComparisons_0 rfl)
theorem dX4_readComparisons_20 : decode cX4_readComparisons 20 = .ok (.invokevirtual 58, 3) := do_182 (rdb (p := 0) (i := 20) ch_cX4_readComparisons_0 rfl) (rdb (p := 0) (i := 21) ch_cX4_readComparisons_0 rfl) (rdb (p := 0) (i := 22) ch_cX4_readComparisons_0 rfl) rfl
theorem dX4_readComparisons_23 : decode cX4_readComparisons 23 = .ok (.istore_n 2, 1) := do_61 (rdb (p := 0) (i := 23) ch_cX4_readComparisons_0 rfl)
theorem dX4_readComparisons_24 : decode cX4_readComparisons 24 = .ok (.iload_n 2, 1) := do_28 (rdb (p := 0) (i := 24) ch_cX4_readComparisons_0 rfl)
theorem dX4_readComparisons_25 : decode cX4_readComparisons 25 = .ok (.bipush 60, 2) := do_16 (rdb (p := 0) (i := 25) ch_cX4_readComparisons_0 rfl) (rdb (p := 0) (i := 26) ch_cX4_readComparisons_0 rfl) (by decide +kernel)
theorem dX4_readComparisons_27 : decode cX4_readComparisons 27 = .ok (.if_icmp .eq 16, 3) := do_159 (rdb (p := 0) (i := 27) ch_cX4_readComparisons_0 rfl) (rdb (p := 0) (i := 28) ch_cX4_readComparisons_0 rfl) (rdb (p := 0) (i := 29) ch_cX4_readComparisons_0 rfl) (by decide +kernel)
theorem dX4_readComparisons_30 : decode cX4_readComparisons 30 = .ok (.iload_n 2, 1) := do_28 (rdb (p := 0) (i := 30) ch_cX4_readComparisons_0 rfl)
theorem dX4_readComparisons_31 : decode cX4_readComparisons 31 = .ok (.bipush 61, 2) := do_16 (rdb (p := 0) (i := 31) ch_cX4_readComparisons_0 rfl) (rdb (p := 0) (i := 32) ch_cX4_readComparisons_0 rfl) (by decide +kernel)
theorem ch_cX4_readComparisons_32 : (cX4_readComparisons.data.toList.drop 32).take 36 = [61, 159, 0, 10, 28, 16, 62, 159, 0, 4, 177, 42, 89, 180, 0, 31, 4, 96, 181, 0, 31, 42, 182, 0, 72, 42, 180, 0, 10, 17, 7, 208, 28, 96, 182, 0] := by decide +kernel
theorem dX4_readComparisons_33 : decode cX4_readComparisons 33 = .ok (.if_icmp .eq 10, 3) := do_159 (rdb (p := 32) (i := 1) ch_cX4_readComparisons_32 rfl) (rdb (p := 32) (i := 2) ch_cX4_readComparisons_32 rfl) (rdb (p := 32) (i := 3) ch_cX4_readComparisons_32 rfl) (by decide +kernel)
theorem dX4_readComparisons_36 : decode cX4_readComparisons 36 = .ok (.iload_n 2, 1) := do_28 (rdb (p := 32) (i := 4) ch_cX4_readComparisons_32 rfl)
theorem dX4_readComparisons_37 : decode cX4_readComparisons 37 = .ok (.bipush 62, 2) := do_16 (rdb (p := 32) (i := 5) ch_cX4_readComparisons_32 rfl) (rdb (p := 32) (i := 6) ch_cX4_readComparisons_32 rfl) (by decide +kernel)
theorem dX4_readComparisons_39 : decode cX4_readComparisons 39 = .ok (.if_icmp .eq 4, 3) := do_159 (rdb (p := 32) (i := 7) ch_cX4_readComparisons_32 rfl) (rdb (p := 32) (i := 8) ch_cX4_readComparisons_32 rfl) (rdb (p := 32) (i := 9) ch_cX4_readComparisons_32 rfl) (by decide +kernel)
theorem dX4_readComparisons_42 : decode cX4_readComparisons 42 = .ok (.return_, 1) := do_177 (rdb (p := 32) (i := 10) ch_cX4_readComparisons_32 rfl)
theorem dX4_readComparisons_43 : decode cX4_readComparisons 43 = .ok (.aload_n 0, 1) := do_42 (rdb (p := 32) (i := 11) ch_cX4_readComparisons_32 rfl)
theorem dX4_readComparisons_44 : decode cX4_readComparisons 44 = .ok (.dup, 1) := do_89 (rdb (p := 32) (i := 12) ch_cX4_readComparisons_32 rfl)
theorem dX4_readComparisons_45 : decode cX4_readComparisons 45 = .ok (.getfield 31, 3) := do_180 (rdb (p := 32) (i := 13) ch_cX4_readComparisons_32 rfl) (rdb (p := 32) (i := 14) ch_cX4_readComparisons_32 rfl) (rdb (p := 32) (i := 15) ch_cX4_readComparisons_32 rfl) rfl
theorem dX4_readComparisons_48 : decode cX4_readComparisons 48 = .ok (.iconst 1, 1) := do_4 (rdb (p := 32) (i := 16) ch_cX4_readComparisons_32 rfl)
theorem dX4_readComparisons_49 : decode cX4_readComparisons 49 = .ok (.iadd, 1) := do_96 (rdb (p := 32) (i := 17) ch_cX4_readComparisons_32 rfl)
theorem dX4_readComparisons_50 : decode cX4_readComparisons 50 = .ok (.putfield 31, 3) := do_181 (rdb (p := 32) (i := 18) ch_cX4_readComparisons_32 rfl) (rdb (p := 32) (i := 19) ch_cX4_readComparisons_32 rfl) (rdb (p := 32) (i := 20) ch_cX4_readComparisons_32 rfl) rfl
theorem dX4_readComparisons_53 : decode cX4_readComparisons 53 = .ok (.aload_n 0, 1) := do_42 (rdb (p := 32) (i := 21) ch_cX4_readComparisons_32 rfl)
theorem dX4_readComparisons_54 : decode cX4_readComparisons 54 = .ok (.invokevirtual 72, 3) := do_182 (rdb (p := 32) (i := 22) ch_cX4_readComparisons_32 rfl) (rdb (p := 32) (i := 23) ch_cX4_readComparisons_32 rfl) (rdb (p := 32) (i := 24) ch_cX4_readComparisons_32 rfl) rfl
theorem dX4_readComparisons_57 : decode cX4_readComparisons 57 = .ok (.aload_n 0, 1) := do_42 (rdb (p := 32) (i := 25) ch_cX4_readComparisons_32 rfl)
theorem dX4_readComparisons_58 : decode cX4_readComparisons 58 = .ok (.getfield 10, 3) := do_180 (rdb (p := 32) (i := 26) ch_cX4_readComparisons_32 rfl) (rdb (p := 32) (i := 27) ch_cX4_readComparisons_32 rfl) (rdb (p := 32) (i := 28) ch_cX4_readComparisons_32 rfl) rfl
theorem dX4_readComparisons_61 : decode cX4_readComparisons 61 = .ok (.sipush 2000, 3) := do_17 (rdb (p := 32) (i := 29) ch_cX4_readComparisons_32 rfl) (rdb (p := 32) (i := 30) ch_cX4_readComparisons_32 rfl) (rdb (p := 32) (i := 31) ch_cX4_readComparisons_32 rfl) (by decide +kernel)
theorem ch_cX4_readComparisons_64 : (cX4_readComparisons.data.toList.drop 64).take 36 = [28, 96, 182, 0, 75, 132, 1, 1, 167, 255, 190, 177] := by decide +kernel
theorem dX4_readComparisons_64 : decode cX4_readComparisons 64 = .ok (.iload_n 2, 1) := do_28 (rdb (p := 64) (i := 0) ch_cX4_readComparisons_64 rfl)
theorem dX4_readComparisons_65 : decode cX4_readComparisons 65 = .ok (.iadd, 1) := do_96 (rdb (p := 64) (i := 1) ch_cX4_readComparisons_64 rfl)
theorem dX4_readComparisons_66 : decode cX4_readComparisons 66 = .ok (.invokevirtual 75, 3) := do_182 (rdb (p := 64) (i := 2) ch_cX4_readComparisons_64 rfl) (rdb (p := 64) (i := 3) ch_cX4_readComparisons_64 rfl) (rdb (p := 64) (i := 4) ch_cX4_readComparisons_64 rfl) rfl
theorem dX4_readComparisons_69 : decode cX4_readComparisons 69 = .ok (.iinc 1 1, 3) := do_132 (rdb (p := 64) (i := 5) ch_cX4_readComparisons_64 rfl) (rdb (p := 64) (i := 6) ch_cX4_readComparisons_64 rfl) (rdb (p := 64) (i := 7) ch_cX4_readComparisons_64 rfl) (by decide +kernel)
theorem dX4_readComparisons_72 : decode cX4_readComparisons 72 = .ok (.goto (-66), 3) := do_167 (rdb (p := 64) (i := 8) ch_cX4_readComparisons_64 rfl) (rdb (p := 64) (i := 9) ch_cX4_readComparisons_64 rfl) (rdb (p := 64) (i := 10) ch_cX4_readComparisons_64 rfl) (by decide +kernel)
theorem dX4_readComparisons_75 : decode cX4_readComparisons 75 = .ok (.return_, 1) := do_177 (rdb (p := 64) (i := 11) ch_cX4_readComparisons_64 rfl)
theorem ch_cX4_readOne_0 : (cX4_readOne.data.toList.drop 0).take 36 = [42, 180, 0, 35, 155, 0, 4, 177, 42, 182, 0, 58, 60, 27, 16, 48, 161, 0, 16, 27, 16, 57, 163, 0, 10, 42, 182, 0, 84, 167, 0, 34, 27, 16, 45, 159] := by decide +kernel
theorem dX4_readOne_0 : decode cX4_readOne 0 = .ok (.aload_n 0, 1) := do_42 (rdb (p := 0) (i := 0) ch_cX4_readOne_0 rfl)
theorem dX4_readOne_1 : decode cX4_readOne 1 = .ok (.getfield 35, 3) := do_180 (rdb (p := 0) (i := 1) ch_cX4_readOne_0 rfl) (rdb (p := 0) (i := 2) ch_cX4_readOne_0 rfl) (rdb (p := 0) (i := 3) ch_cX4_readOne_0 rfl) rfl
theorem dX4_readOne_4 : decode cX4_readOne 4 = .ok (.ifCond .lt 4, 3) := do_155 (rdb (p := 0) (i := 4) ch_cX4_readOne_0 rfl) (rdb (p := 0) (i := 5) ch_cX4_readOne_0 rfl) (rdb (p := 0) (i := 6) ch_cX4_readOne_0 rfl) (by decide +kernel)
theorem dX4_readOne_7 : decode cX4_readOne 7 = .ok (.return_, 1) := do_177 (rdb (p := 0) (i := 7) ch_cX4_readOne_0 rfl)
theorem dX4_readOne_8 : decode cX4_readOne 8 = .ok (.aload_n 0, 1) := do_42 (rdb (p := 0) (i := 8) ch_cX4_readOne_0 rfl)
theorem dX4_readOne_9 : decode cX4_readOne 9 = .ok (.invokevirtual 58, 3) := do_182 (rdb (p := 0) (i := 9) ch_cX4_readOne_0 rfl) (rdb (p := 0) (i := 10) ch_cX4_readOne_0 rfl) (rdb (p := 0) (i := 11) ch_cX4_readOne_0 rfl) rfl
theorem dX4_readOne_12 : decode cX4_readOne 12 = .ok (.istore_n 1, 1) := do_60 (rdb (p := 0) (i := 12) ch_cX4_readOne_0 rfl)
theorem dX4_readOne_13 : decode cX4_readOne 13 = .ok (.iload_n 1, 1) := do_27 (rdb (p := 0) (i := 13) ch_cX4_readOne_0 rfl)
theorem dX4_readOne_14 : decode cX4_readOne 14 = .ok (.bipush 48, 2) := do_16 (rdb (p := 0) (i := 14) ch_cX4_readOne_0 rfl) (rdb (p := 0) (i := 15) ch_cX4_readOne_0 rfl) (by decide +kernel)
theorem dX4_readOne_16 : decode cX4_readOne 16 = .ok (.if_icmp .lt 16, 3) := do_161 (rdb (p := 0) (i := 16) ch_cX4_readOne_0 rfl) (rdb (p := 0) (i := 17) ch_cX4_readOne_0 rfl) (rdb (p := 0) (i := 18) ch_cX4_readOne_0 rfl) (by decide +kernel)
theorem dX4_readOne_19 : decode cX4_readOne 19 = .ok (.iload_n 1, 1) := do_27 (rdb (p := 0) (i := 19) ch_cX4_readOne_0 rfl)
theorem dX4_readOne_20 : decode cX4_readOne 20 = .ok (.bipush 57, 2) := do_16 (rdb (p := 0) (i := 20) ch_cX4_readOne_0 rfl) (rdb (p := 0) (i := 21) ch_cX4_readOne_0 rfl) (by decide +kernel)
theorem dX4_readOne_22 : decode cX4_readOne 22 = .ok (.if_icmp .gt 10, 3) := do_163 (rdb (p := 0) (i := 22) ch_cX4_readOne_0 rfl) (rdb (p := 0) (i := 23) ch_cX4_readOne_0 rfl) (rdb (p := 0) (i := 24) ch_cX4_readOne_0 rfl) (by decide +kernel)
theorem dX4_readOne_25 : decode cX4_readOne 25 = .ok (.aload_n 0, 1) := do_42 (rdb (p := 0) (i := 25) ch_cX4_readOne_0 rfl)
theorem dX4_readOne_26 : decode cX4_readOne 26 = .ok (.invokevirtual 84, 3) := do_182 (rdb (p := 0) (i := 26) ch_cX4_readOne_0 rfl) (rdb (p := 0) (i := 27) ch_cX4_readOne_0 rfl) (rdb (p := 0) (i := 28) ch_cX4_readOne_0 rfl) rfl
theorem dX4_readOne_29 : decode cX4_readOne 29 = .ok (.goto 34, 3) := do_167 (rdb (p := 0) (i := 29) ch_cX4_readOne_0 rfl) (rdb (p := 0) (i := 30) ch_cX4_readOne_0 rfl) (rdb (p := 0) (i := 31) ch_cX4_readOne_0 rfl) (by decide +kernel)
theorem ch_cX4_readOne_32 : (cX4_readOne.data.toList.drop 32).take 36 = [27, 16, 45, 159, 0, 15, 27, 16, 40, 159, 0, 9, 27, 16, 91, 160, 0, 11, 42, 27, 182, 0, 87, 167, 0, 8, 42, 27, 182, 0, 90, 177] := by decide +kernel
theorem dX4_readOne_32 : decode cX4_readOne 32 = .ok (.iload_n 1, 1) := do_27 (rdb (p := 32) (i := 0) ch_cX4_readOne_32 rfl)
theorem dX4_readOne_33 : decode cX4_readOne 33 = .ok (.bipush 45, 2) := do_16 (rdb (p := 32) (i := 1) ch_cX4_readOne_32 rfl) (rdb (p := 32) (i := 2) ch_cX4_readOne_32 rfl) (by decide +kernel)
theorem dX4_readOne_35 : decode cX4_readOne 35 = .ok (.if_icmp .eq 15, 3) := do_159 (rdb (p := 32) (i := 3) ch_cX4_readOne_32 rfl) (rdb (p := 32) (i := 4) ch_cX4_readOne_32 rfl) (rdb (p := 32) (i := 5) ch_cX4_readOne_32 rfl) (by decide +kernel)
theorem dX4_readOne_38 : decode cX4_readOne 38 = .ok (.iload_n 1, 1) := do_27 (rdb (p := 32) (i := 6) ch_cX4_readOne_32 rfl)
theorem dX4_readOne_39 : decode cX4_readOne 39 = .ok (.bipush 40, 2) := do_16 (rdb (p := 32) (i := 7) ch_cX4_readOne_32 rfl) (rdb (p := 32) (i := 8) ch_cX4_readOne_32 rfl) (by decide +kernel)
theorem dX4_readOne_41 : decode cX4_readOne 41 = .ok (.if_icmp .eq 9, 3) := do_159 (rdb (p := 32) (i := 9) ch_cX4_readOne_32 rfl) (rdb (p := 32) (i := 10) ch_cX4_readOne_32 rfl) (rdb (p := 32) (i := 11) ch_cX4_readOne_32 rfl) (by decide +kernel)
theorem dX4_readOne_44 : decode cX4_readOne 44 = .ok (.iload_n 1, 1) := do_27 (rdb (p := 32) (i := 12) ch_cX4_readOne_32 rfl)
theorem dX4_readOne_45 : decode cX4_readOne 45 = .ok (.bipush 91, 2) := do_16 (rdb (p := 32) (i := 13) ch_cX4_readOne_32 rfl) (rdb (p := 32) (i := 14) ch_cX4_readOne_32 rfl) (by decide +kernel)
theorem dX4_readOne_47 : decode cX4_readOne 47 = .ok (.if_icmp .ne 11, 3) := do_160 (rdb (p := 32) (i := 15) ch_cX4_readOne_32 rfl) (rdb (p := 32) (i := 16) ch_cX4_readOne_32 rfl) (rdb (p := 32) (i := 17) ch_cX4_readOne_32 rfl) (by decide +kernel)
theorem dX4_readOne_50 : decode cX4_readOne 50 = .ok (.aload_n 0, 1) := do_42 (rdb (p := 32) (i := 18) ch_cX4_readOne_32 rfl)
theorem dX4_readOne_51 : decode cX4_readOne 51 = .ok (.iload_n 1, 1) := do_27 (rdb (p := 32) (i := 19) ch_cX4_readOne_32 rfl)
theorem dX4_readOne_52 : decode cX4_readOne 52 = .ok (.invokevirtual 87, 3) := do_182 (rdb (p := 32) (i := 20) ch_cX4_readOne_32 rfl) (rdb (p := 32) (i := 21) ch_cX4_readOne_32 rfl) (rdb (p := 32) (i := 22) ch_cX4_readOne_32 rfl) rfl
theorem dX4_readOne_55 : decode cX4_readOne 55 = .ok (.goto 8, 3) := do_167 (rdb (p := 32) (i := 23) ch_cX4_readOne_32 rfl) (rdb (p := 32) (i := 24) ch_cX4_readOne_32 rfl) (rdb (p := 32) (i := 25) ch_cX4_readOne_32 rfl) (by decide +kernel)
theorem dX4_readOne_58 : decode cX4_readOne 58 = .ok (.aload_n 0, 1) := do_42 (rdb (p := 32) (i := 26) ch_cX4_readOne_32 rfl)
theorem dX4_readOne_59 : decode cX4_readOne 59 = .ok (.iload_n 1, 1) := do_27 (rdb (p := 32) (i := 27) ch_cX4_readOne_32 rfl)
theorem dX4_readOne_60 : decode cX4_readOne 60 = .ok (.invokevirtual 90, 3) := do_182 (rdb (p := 32) (i := 28) ch_cX4_readOne_32 rfl) (rdb (p := 32) (i := 29) ch_cX4_readOne_32 rfl) (rdb (p := 32) (i := 30) ch_cX4_readOne_32 rfl) rfl
theorem dX4_readOne_63 : decode cX4_readOne 63 = .ok (.return_, 1) := do_177 (rdb (p := 32) (i := 31) ch_cX4_readOne_32 rfl)
theorem ch_cX4_readOpened_0 : (cX4_readOpened.data.toList.drop 0).take 36 = [42, 180, 0, 38, 8, 161, 0, 8, 42, 182, 0, 62, 177, 42, 89, 180, 0, 38, 4, 96, 181, 0, 38, 42, 89, 180, 0, 31, 4, 96, 181, 0, 31, 27, 16, 45] := by decide +kernel
theorem dX4_readOpened_0 : decode cX4_readOpened 0 = .ok (.aload_n 0, 1) := do_42 (rdb (p := 0) (i := 0) ch_cX4_readOpened_0 rfl)
theorem dX4_readOpened_1 : decode cX4_readOpened 1 = .ok (.getfield 38, 3) := do_180 (rdb (p := 0) (i := 1) ch_cX4_readOpened_0 rfl) (rdb (p := 0) (i := 2) ch_cX4_readOpened_0 rfl) (rdb (p := 0) (i := 3) ch_cX4_readOpened_0 rfl) rfl
theorem dX4_readOpened_4 : decode cX4_readOpened 4 = .ok (.iconst 5, 1) := do_8 (rdb (p := 0) (i := 4) ch_cX4_readOpened_0 rfl)
theorem dX4_readOpened_5 : decode cX4_readOpened 5 = .ok (.if_icmp .lt 8, 3) := do_161 (rdb (p := 0) (i := 5) ch_cX4_readOpened_0 rfl) (rdb (p := 0) (i := 6) ch_cX4_readOpened_0 rfl) (rdb (p := 0) (i := 7) ch_cX4_readOpened_0 rfl) (by decide +kernel)
theorem dX4_readOpened_8 : decode cX4_readOpened 8 = .ok (.aload_n 0, 1) := do_42 (rdb (p := 0) (i := 8) ch_cX4_readOpened_0 rfl)
theorem dX4_readOpened_9 : decode cX4_readOpened 9 = .ok (.invokevirtual 62, 3) := do_182 (rdb (p := 0) (i := 9) ch_cX4_readOpened_0 rfl) (rdb (p := 0) (i := 10) ch_cX4_readOpened_0 rfl) (rdb (p := 0) (i := 11) ch_cX4_readOpened_0 rfl) rfl
theorem dX4_readOpened_12 : decode cX4_readOpened 12 = .ok (.return_, 1) := do_177 (rdb (p := 0) (i := 12) ch_cX4_readOpened_0 rfl)
theorem dX4_readOpened_13 : decode cX4_readOpened 13 = .ok (.aload_n 0, 1) := do_42 (rdb (p := 0) (i := 13) ch_cX4_readOpened_0 rfl)
theorem dX4_readOpened_14 : decode cX4_readOpened 14 = .ok (.dup, 1) := do_89 (rdb (p := 0) (i := 14) ch_cX4_readOpened_0 rfl)
theorem dX4_readOpened_15 : decode cX4_readOpened 15 = .ok (.getfield 38, 3) := do_180 (rdb (p := 0) (i := 15) ch_cX4_readOpened_0 rfl) (rdb (p := 0) (i := 16) ch_cX4_readOpened_0 rfl) (rdb (p := 0) (i := 17) ch_cX4_readOpened_0 rfl) rfl
theorem dX4_readOpened_18 : decode cX4_readOpened 18 = .ok (.iconst 1, 1) := do_4 (rdb (p := 0) (i := 18) ch_cX4_readOpened_0 rfl)
theorem dX4_readOpened_19 : decode cX4_readOpened 19 = .ok (.iadd, 1) := do_96 (rdb (p := 0) (i := 19) ch_cX4_readOpened_0 rfl)
theorem dX4_readOpened_20 : decode cX4_readOpened 20 = .ok (.putfield 38, 3) := do_181 (rdb (p := 0) (i := 20) ch_cX4_readOpened_0 rfl) (rdb (p := 0) (i := 21) ch_cX4_readOpened_0 rfl) (rdb (p := 0) (i := 22) ch_cX4_readOpened_0 rfl) rfl
theorem dX4_readOpened_23 : decode cX4_readOpened 23 = .ok (.aload_n 0, 1) := do_42 (rdb (p := 0) (i := 23) ch_cX4_readOpened_0 rfl)
theorem dX4_readOpened_24 : decode cX4_readOpened 24 = .ok (.dup, 1) := do_89 (rdb (p := 0) (i := 24) ch_cX4_readOpened_0 rfl)
theorem dX4_readOpened_25 : decode cX4_readOpened 25 = .ok (.getfield 31, 3) := do_180 (rdb (p := 0) (i := 25) ch_cX4_readOpened_0 rfl) (rdb (p := 0) (i := 26) ch_cX4_readOpened_0 rfl) (rdb (p := 0) (i := 27) ch_cX4_readOpened_0 rfl) rfl
theorem dX4_readOpened_28 : decode cX4_readOpened 28 = .ok (.iconst 1, 1) := do_4 (rdb (p := 0) (i := 28) ch_cX4_readOpened_0 rfl)
theorem dX4_readOpened_29 : decode cX4_readOpened 29 = .ok (.iadd, 1) := do_96 (rdb (p := 0) (i := 29) ch_cX4_readOpened_0 rfl)
theorem dX4_readOpened_30 : decode cX4_readOpened 30 = .ok (.putfield 31, 3) := do_181 (rdb (p := 0) (i := 30) ch_cX4_readOpened_0 rfl) (rdb (p := 0) (i := 31) ch_cX4_readOpened_0 rfl) (rdb (p := 0) (i := 32) ch_cX4_readOpened_0 rfl) rfl
theorem ch_cX4_readOpened_32 : (cX4_readOpened.data.toList.drop 32).take 36 = [31, 27, 16, 45, 160, 0, 20, 42, 182, 0, 81, 42, 180, 0, 10, 17, 8, 78, 182, 0, 75, 167, 0, 62, 27, 16, 40, 160, 0, 16, 42, 182, 0, 55, 42, 16] := by decide +kernel
theorem dX4_readOpened_33 : decode cX4_readOpened 33 = .ok (.iload_n 1, 1) := do_27 (rdb (p := 32) (i := 1) ch_cX4_readOpened_32 rfl)
theorem dX4_readOpened_34 : decode cX4_readOpened 34 = .ok (.bipush 45, 2) := do_16 (rdb (p := 32) (i := 2) ch_cX4_readOpened_32 rfl) (rdb (p := 32) (i := 3) ch_cX4_readOpened_32 rfl) (by decide +kernel)
theorem dX4_readOpened_36 : decode cX4_readOpened 36 = .ok (.if_icmp .ne 20, 3) := do_160 (rdb (p := 32) (i := 4) ch_cX4_readOpened_32 rfl) (rdb (p := 32) (i := 5) ch_cX4_readOpened_32 rfl) (rdb (p := 32) (i := 6) ch_cX4_readOpened_32 rfl) (by decide +kernel)
theorem dX4_readOpened_39 : decode cX4_readOpened 39 = .ok (.aload_n 0, 1) := do_42 (rdb (p := 32) (i := 7) ch_cX4_readOpened_32 rfl)
theorem dX4_readOpened_40 : decode cX4_readOpened 40 = .ok (.invokevirtual 81, 3) := do_182 (rdb (p := 32) (i := 8) ch_cX4_readOpened_32 rfl) (rdb (p := 32) (i := 9) ch_cX4_readOpened_32 rfl) (rdb (p := 32) (i := 10) ch_cX4_readOpened_32 rfl) rfl
theorem dX4_readOpened_43 : decode cX4_readOpened 43 = .ok (.aload_n 0, 1) := do_42 (rdb (p := 32) (i := 11) ch_cX4_readOpened_32 rfl)
theorem dX4_readOpened_44 : decode cX4_readOpened 44 = .ok (.getfield 10, 3) := do_180 (rdb (p := 32) (i := 12) ch_cX4_readOpened_32 rfl) (rdb (p := 32) (i := 13) ch_cX4_readOpened_32 rfl) (rdb (p := 32) (i := 14) ch_cX4_readOpened_32 rfl) rfl
theorem dX4_readOpened_47 : decode cX4_readOpened 47 = .ok (.sipush 2126, 3) := do_17 (rdb (p := 32) (i := 15) ch_cX4_readOpened_32 rfl) (rdb (p := 32) (i := 16) ch_cX4_readOpened_32 rfl) (rdb (p := 32) (i := 17) ch_cX4_readOpened_32 rfl) (by decide +kernel)
theorem dX4_readOpened_50 : decode cX4_readOpened 50 = .ok (.invokevirtual 75, 3) := do_182 (rdb (p := 32) (i := 18) ch_cX4_readOpened_32 rfl) (rdb (p := 32) (i := 19) ch_cX4_readOpened_32 rfl) (rdb (p := 32) (i := 20) ch_cX4_readOpened_32 rfl) rfl
theorem dX4_readOpened_53 : decode cX4_readOpened 53 = .ok (.goto 62, 3) := do_167 (rdb (p := 32) (i := 21) ch_cX4_readOpened_32 rfl) (rdb (p := 32) (i := 22) ch_cX4_readOpened_32 rfl) (rdb (p := 32) (i := 23) ch_cX4_readOpened_32 rfl) (by decide +kernel)
theorem dX4_readOpened_56 : decode cX4_readOpened 56 = .ok (.iload_n 1, 1) := do_27 (rdb (p := 32) (i := 24) ch_cX4_readOpened_32 rfl)
theorem dX4_readOpened_57 : decode cX4_readOpened 57 = .ok (.bipush 40, 2) := do_16 (rdb (p := 32) (i := 25) ch_cX4_readOpened_32 rfl) (rdb (p := 32) (i := 26) ch_cX4_readOpened_32 rfl) (by decide +kernel)
theorem dX4_readOpened_59 : decode cX4_readOpened 59 = .ok (.if_icmp .ne 16, 3) := do_160 (rdb (p := 32) (i := 27) ch_cX4_readOpened_32 rfl) (rdb (p := 32) (i := 28) ch_cX4_readOpened_32 rfl) (rdb (p := 32) (i := 29) ch_cX4_readOpened_32 rfl) (by decide +kernel)
theorem dX4_readOpened_62 : decode cX4_readOpened 62 = .ok (.aload_n 0, 1) := do_42 (rdb (p := 32) (i := 30) ch_cX4_readOpened_32 rfl)
theorem dX4_readOpened_63 : decode cX4_readOpened 63 = .ok (.invokevirtual 55, 3) := do_182 (rdb (p := 32) (i := 31) ch_cX4_readOpened_32 rfl) (rdb (p := 32) (i := 32) ch_cX4_readOpened_32 rfl) (rdb (p := 32) (i := 33) ch_cX4_readOpened_32 rfl) rfl
theorem ch_cX4_readOpened_64 : (cX4_readOpened.data.toList.drop 64).take 36 = [0, 55, 42, 16, 41, 182, 0, 98, 167, 0, 43, 42, 182, 0, 55, 42, 16, 63, 182, 0, 98, 42, 182, 0, 55, 42, 16, 58, 182, 0, 98, 42, 182, 0, 55, 42] := by decide +kernel
theorem dX4_readOpened_66 : decode cX4_readOpened 66 = .ok (.aload_n 0, 1) := do_42 (rdb (p := 64) (i := 2) ch_cX4_readOpened_64 rfl)
theorem dX4_readOpened_67 : decode cX4_readOpened 67 = .ok (.bipush 41, 2) := do_16 (rdb (p := 64) (i := 3) ch_cX4_readOpened_64 rfl) (rdb (p := 64) (i := 4) ch_cX4_readOpened_64 rfl) (by decide +kernel)
theorem dX4_readOpened_69 : decode cX4_readOpened 69 = .ok (.invokevirtual 98, 3) := do_182 (rdb (p := 64) (i := 5) ch_cX4_readOpened_64 rfl) (rdb (p := 64) (i := 6) ch_cX4_readOpened_64 rfl) (rdb (p := 64) (i := 7) ch_cX4_readOpened_64 rfl) rfl
theorem dX4_readOpened_72 : decode cX4_readOpened 72 = .ok (.goto 43, 3) := do_167 (rdb (p := 64) (i := 8) ch_cX4_readOpened_64 rfl) (rdb (p := 64) (i := 9) ch_cX4_readOpened_64 rfl) (rdb (p := 64) (i := 10) ch_cX4_readOpened_64 rfl) (by decide +kernel)
theorem dX4_readOpened_75 : decode cX4_readOpened 75 = .ok (.aload_n 0, 1) := do_42 (rdb (p := 64) (i := 11) ch_cX4_readOpened_64 rfl)
theorem dX4_readOpened_76 : decode cX4_readOpened 76 = .ok (.invokevirtual 55, 3) := do_182 (rdb (p := 64) (i := 12) ch_cX4_readOpened_64 rfl) (rdb (p := 64) (i := 13) ch_cX4_readOpened_64 rfl) (rdb (p := 64) (i := 14) ch_cX4_readOpened_64 rfl) rfl
theorem dX4_readOpened_79 : decode cX4_readOpened 79 = .ok (.aload_n 0, 1) := do_42 (rdb (p := 64) (i := 15) ch_cX4_readOpened_64 rfl)
theorem dX4_readOpened_80 : decode cX4_readOpened 80 = .ok (.bipush 63, 2) := do_16 (rdb (p := 64) (i := 16) ch_cX4_readOpened_64 rfl) (rdb (p := 64) (i := 17) ch_cX4_readOpened_64 rfl) (by decide +kernel)
theorem dX4_readOpened_82 : decode cX4_readOpened 82 = .ok (.invokevirtual 98, 3) := do_182 (rdb (p := 64) (i := 18) ch_cX4_readOpened_64 rfl) (rdb (p := 64) (i := 19) ch_cX4_readOpened_64 rfl) (rdb (p := 64) (i := 20) ch_cX4_readOpened_64 rfl) rfl
theorem dX4_readOpened_85 : decode cX4_readOpened 85 = .ok (.aload_n 0, 1) := do_42 (rdb (p := 64) (i := 21) ch_cX4_readOpened_64 rfl)
theorem dX4_readOpened_86 : decode cX4_readOpened 86 = .ok (.invokevirtual 55, 3) := do_182 (rdb (p := 64) (i := 22) ch_cX4_readOpened_64 rfl) (rdb (p := 64) (i := 23) ch_cX4_readOpened_64 rfl) (rdb (p := 64) (i := 24) ch_cX4_readOpened_64 rfl) rfl
theorem dX4_readOpened_89 : decode cX4_readOpened 89 = .ok (.aload_n 0, 1) := do_42 (rdb (p := 64) (i := 25) ch_cX4_readOpened_64 rfl)
theorem dX4_readOpened_90 : decode cX4_readOpened 90 = .ok (.bipush 58, 2) := do_16 (rdb (p := 64) (i := 26) ch_cX4_readOpened_64 rfl) (rdb (p := 64) (i := 27) ch_cX4_readOpened_64 rfl) (by decide +kernel)
theorem dX4_readOpened_92 : decode cX4_readOpened 92 = .ok (.invokevirtual 98, 3) := do_182 (rdb (p := 64) (i := 28) ch_cX4_readOpened_64 rfl) (rdb (p := 64) (i := 29) ch_cX4_readOpened_64 rfl) (rdb (p := 64) (i := 30) ch_cX4_readOpened_64 rfl) rfl
theorem dX4_readOpened_95 : decode cX4_readOpened 95 = .ok (.aload_n 0, 1) := do_42 (rdb (p := 64) (i := 31) ch_cX4_readOpened_64 rfl)
theorem ch_cX4_readOpened_96 : (cX4_readOpened.data.toList.drop 96).take 36 = [182, 0, 55, 42, 16, 93, 182, 0, 98, 42, 180, 0, 10, 17, 8, 15, 182, 0, 75, 42, 89, 180, 0, 38, 4, 100, 181, 0, 38, 177] := by decide +kernel
theorem dX4_readOpened_96 : decode cX4_readOpened 96 = .ok (.invokevirtual 55, 3) := do_182 (rdb (p := 96) (i := 0) ch_cX4_readOpened_96 rfl) (rdb (p := 96) (i := 1) ch_cX4_readOpened_96 rfl) (rdb (p := 96) (i := 2) ch_cX4_readOpened_96 rfl) rfl
theorem dX4_readOpened_99 : decode cX4_readOpened 99 = .ok (.aload_n 0, 1) := do_42 (rdb (p := 96) (i := 3) ch_cX4_readOpened_96 rfl)
theorem dX4_readOpened_100 : decode cX4_readOpened 100 = .ok (.bipush 93, 2) := do_16 (rdb (p := 96) (i := 4) ch_cX4_readOpened_96 rfl) (rdb (p := 96) (i := 5) ch_cX4_readOpened_96 rfl) (by decide +kernel)
theorem dX4_readOpened_102 : decode cX4_readOpened 102 = .ok (.invokevirtual 98, 3) := do_182 (rdb (p := 96) (i := 6) ch_cX4_readOpened_96 rfl) (rdb (p := 96) (i := 7) ch_cX4_readOpened_96 rfl) (rdb (p := 96) (i := 8) ch_cX4_readOpened_96 rfl) rfl
theorem dX4_readOpened_105 : decode cX4_readOpened 105 = .ok (.aload_n 0, 1) := do_42 (rdb (p := 96) (i := 9) ch_cX4_readOpened_96 rfl)
theorem dX4_readOpened_106 : decode cX4_readOpened 106 = .ok (.getfield 10, 3) := do_180 (rdb (p := 96) (i := 10) ch_cX4_readOpened_96 rfl) (rdb (p := 96) (i := 11) ch_cX4_readOpened_96 rfl) (rdb (p := 96) (i := 12) ch_cX4_readOpened_96 rfl) rfl
theorem dX4_readOpened_109 : decode cX4_readOpened 109 = .ok (.sipush 2063, 3) := do_17 (rdb (p := 96) (i := 13) ch_cX4_readOpened_96 rfl) (rdb (p := 96) (i := 14) ch_cX4_readOpened_96 rfl) (rdb (p := 96) (i := 15) ch_cX4_readOpened_96 rfl) (by decide +kernel)
theorem dX4_readOpened_112 : decode cX4_readOpened 112 = .ok (.invokevirtual 75, 3) := do_182 (rdb (p := 96) (i := 16) ch_cX4_readOpened_96 rfl) (rdb (p := 96) (i := 17) ch_cX4_readOpened_96 rfl) (rdb (p := 96) (i := 18) ch_cX4_readOpened_96 rfl) rfl
theorem dX4_readOpened_115 : decode cX4_readOpened 115 = .ok (.aload_n 0, 1) := do_42 (rdb (p := 96) (i := 19) ch_cX4_readOpened_96 rfl)
theorem dX4_readOpened_116 : decode cX4_readOpened 116 = .ok (.dup, 1) := do_89 (rdb (p := 96) (i := 20) ch_cX4_readOpened_96 rfl)
theorem dX4_readOpened_117 : decode cX4_readOpened 117 = .ok (.getfield 38, 3) := do_180 (rdb (p := 96) (i := 21) ch_cX4_readOpened_96 rfl) (rdb (p := 96) (i := 22) ch_cX4_readOpened_96 rfl) (rdb (p := 96) (i := 23) ch_cX4_readOpened_96 rfl) rfl
theorem dX4_readOpened_120 : decode cX4_readOpened 120 = .ok (.iconst 1, 1) := do_4 (rdb (p := 96) (i := 24) ch_cX4_readOpened_96 rfl)
theorem dX4_readOpened_121 : decode cX4_readOpened 121 = .ok (.isub, 1) := do_100 (rdb (p := 96) (i := 25) ch_cX4_readOpened_96 rfl)
theorem dX4_readOpened_122 : decode cX4_readOpened 122 = .ok (.putfield 38, 3) := do_181 (rdb (p := 96) (i := 26) ch_cX4_readOpened_96 rfl) (rdb (p := 96) (i := 27) ch_cX4_readOpened_96 rfl) (rdb (p := 96) (i := 28) ch_cX4_readOpened_96 rfl) rfl
theorem dX4_readOpened_125 : decode cX4_readOpened 125 = .ok (.return_, 1) := do_177 (rdb (p := 96) (i := 29) ch_cX4_readOpened_96 rfl)
theorem ch_cX4_readSum_0 : (cX4_readSum.data.toList.drop 0).take 36 = [42, 182, 0, 78, 3, 60, 27, 16, 48, 162, 0, 60, 42, 180, 0, 35, 156, 0, 53, 42, 182, 0, 58, 61, 28, 16, 43, 159, 0, 10, 28, 16, 45, 159, 0, 4] := by decide +kernel
theorem dX4_readSum_0 : decode cX4_readSum 0 = .ok (.aload_n 0, 1) := do_42 (rdb (p := 0) (i := 0) ch_cX4_readSum_0 rfl)
theorem dX4_readSum_1 : decode cX4_readSum 1 = .ok (.invokevirtual 78, 3) := do_182 (rdb (p := 0) (i := 1) ch_cX4_readSum_0 rfl) (rdb (p := 0) (i := 2) ch_cX4_readSum_0 rfl) (rdb (p := 0) (i := 3) ch_cX4_readSum_0 rfl) rfl
theorem dX4_readSum_4 : decode cX4_readSum 4 = .ok (.iconst 0, 1) := do_3 (rdb (p := 0) (i := 4) ch_cX4_readSum_0 rfl)
theorem dX4_readSum_5 : decode cX4_readSum 5 = .ok (.istore_n 1, 1) := do_60 (rdb (p := 0) (i := 5) ch_cX4_readSum_0 rfl)
theorem dX4_readSum_6 : decode cX4_readSum 6 = .ok (.iload_n 1, 1) := do_27 (rdb (p := 0) (i := 6) ch_cX4_readSum_0 rfl)
theorem dX4_readSum_7 : decode cX4_readSum 7 = .ok (.bipush 48, 2) := do_16 (rdb (p := 0) (i := 7) ch_cX4_readSum_0 rfl) (rdb (p := 0) (i := 8) ch_cX4_readSum_0 rfl) (by decide +kernel)
theorem dX4_readSum_9 : decode cX4_readSum 9 = .ok (.if_icmp .ge 60, 3) := do_162 (rdb (p := 0) (i := 9) ch_cX4_readSum_0 rfl) (rdb (p := 0) (i := 10) ch_cX4_readSum_0 rfl) (rdb (p := 0) (i := 11) ch_cX4_readSum_0 rfl) (by decide +kernel)
theorem dX4_readSum_12 : decode cX4_readSum 12 = .ok (.aload_n 0, 1) := do_42 (rdb (p := 0) (i := 12) ch_cX4_readSum_0 rfl)
theorem dX4_readSum_13 : decode cX4_readSum 13 = .ok (.getfield 35, 3) := do_180 (rdb (p := 0) (i := 13) ch_cX4_readSum_0 rfl) (rdb (p := 0) (i := 14) ch_cX4_readSum_0 rfl) (rdb (p := 0) (i := 15) ch_cX4_readSum_0 rfl) rfl
theorem dX4_readSum_16 : decode cX4_readSum 16 = .ok (.ifCond .ge 53, 3) := do_156 (rdb (p := 0) (i := 16) ch_cX4_readSum_0 rfl) (rdb (p := 0) (i := 17) ch_cX4_readSum_0 rfl) (rdb (p := 0) (i := 18) ch_cX4_readSum_0 rfl) (by decide +kernel)
theorem dX4_readSum_19 : decode cX4_readSum 19 = .ok (.aload_n 0, 1) := do_42 (rdb (p := 0) (i := 19) ch_cX4_readSum_0 rfl)
theorem dX4_readSum_20 : decode cX4_readSum 20 = .ok (.invokevirtual 58, 3) := do_182 (rdb (p := 0) (i := 20) ch_cX4_readSum_0 rfl) (rdb (p := 0) (i := 21) ch_cX4_readSum_0 rfl) (rdb (p := 0) (i := 22) ch_cX4_readSum_0 rfl) rfl
theorem dX4_readSum_23 : decode cX4_readSum 23 = .ok (.istore_n 2, 1) := do_61 (rdb (p := 0) (i := 23) ch_cX4_readSum_0 rfl)
theorem dX4_readSum_24 : decode cX4_readSum 24 = .ok (.iload_n 2, 1) := do_28 (rdb (p := 0) (i := 24) ch_cX4_readSum_0 rfl)
theorem dX4_readSum_25 : decode cX4_readSum 25 = .ok (.bipush 43, 2) := do_16 (rdb (p := 0) (i := 25) ch_cX4_readSum_0 rfl) (rdb (p := 0) (i := 26) ch_cX4_readSum_0 rfl) (by decide +kernel)
theorem dX4_readSum_27 : decode cX4_readSum 27 = .ok (.if_icmp .eq 10, 3) := do_159 (rdb (p := 0) (i := 27) ch_cX4_readSum_0 rfl) (rdb (p := 0) (i := 28) ch_cX4_readSum_0 rfl) (rdb (p := 0) (i := 29) ch_cX4_readSum_0 rfl) (by decide +kernel)
theorem dX4_readSum_30 : decode cX4_readSum 30 = .ok (.iload_n 2, 1) := do_28 (rdb (p := 0) (i := 30) ch_cX4_readSum_0 rfl)
theorem dX4_readSum_31 : decode cX4_readSum 31 = .ok (.bipush 45, 2) := do_16 (rdb (p := 0) (i := 31) ch_cX4_readSum_0 rfl) (rdb (p := 0) (i := 32) ch_cX4_readSum_0 rfl) (by decide +kernel)
theorem ch_cX4_readSum_32 : (cX4_readSum.data.toList.drop 32).take 36 = [45, 159, 0, 4, 177, 42, 89, 180, 0, 31, 4, 96, 181, 0, 31, 42, 182, 0, 78, 42, 180, 0, 10, 17, 7, 208, 28, 96, 182, 0, 75, 132, 1, 1, 167, 255] := by decide +kernel
theorem dX4_readSum_33 : decode cX4_readSum 33 = .ok (.if_icmp .eq 4, 3) := do_159 (rdb (p := 32) (i := 1) ch_cX4_readSum_32 rfl) (rdb (p := 32) (i := 2) ch_cX4_readSum_32 rfl) (rdb (p := 32) (i := 3) ch_cX4_readSum_32 rfl) (by decide +kernel)
theorem dX4_readSum_36 : decode cX4_readSum 36 = .ok (.return_, 1) := do_177 (rdb (p := 32) (i := 4) ch_cX4_readSum_32 rfl)
theorem dX4_readSum_37 : decode cX4_readSum 37 = .ok (.aload_n 0, 1) := do_42 (rdb (p := 32) (i := 5) ch_cX4_readSum_32 rfl)
theorem dX4_readSum_38 : decode cX4_readSum 38 = .ok (.dup, 1) := do_89 (rdb (p := 32) (i := 6) ch_cX4_readSum_32 rfl)
theorem dX4_readSum_39 : decode cX4_readSum 39 = .ok (.getfield 31, 3) := do_180 (rdb (p := 32) (i := 7) ch_cX4_readSum_32 rfl) (rdb (p := 32) (i := 8) ch_cX4_readSum_32 rfl) (rdb (p := 32) (i := 9) ch_cX4_readSum_32 rfl) rfl
theorem dX4_readSum_42 : decode cX4_readSum 42 = .ok (.iconst 1, 1) := do_4 (rdb (p := 32) (i := 10) ch_cX4_readSum_32 rfl)
theorem dX4_readSum_43 : decode cX4_readSum 43 = .ok (.iadd, 1) := do_96 (rdb (p := 32) (i := 11) ch_cX4_readSum_32 rfl)
theorem dX4_readSum_44 : decode cX4_readSum 44 = .ok (.putfield 31, 3) := do_181 (rdb (p := 32) (i := 12) ch_cX4_readSum_32 rfl) (rdb (p := 32) (i := 13) ch_cX4_readSum_32 rfl) (rdb (p := 32) (i := 14) ch_cX4_readSum_32 rfl) rfl
theorem dX4_readSum_47 : decode cX4_readSum 47 = .ok (.aload_n 0, 1) := do_42 (rdb (p := 32) (i := 15) ch_cX4_readSum_32 rfl)
theorem dX4_readSum_48 : decode cX4_readSum 48 = .ok (.invokevirtual 78, 3) := do_182 (rdb (p := 32) (i := 16) ch_cX4_readSum_32 rfl) (rdb (p := 32) (i := 17) ch_cX4_readSum_32 rfl) (rdb (p := 32) (i := 18) ch_cX4_readSum_32 rfl) rfl
theorem dX4_readSum_51 : decode cX4_readSum 51 = .ok (.aload_n 0, 1) := do_42 (rdb (p := 32) (i := 19) ch_cX4_readSum_32 rfl)
theorem dX4_readSum_52 : decode cX4_readSum 52 = .ok (.getfield 10, 3) := do_180 (rdb (p := 32) (i := 20) ch_cX4_readSum_32 rfl) (rdb (p := 32) (i := 21) ch_cX4_readSum_32 rfl) (rdb (p := 32) (i := 22) ch_cX4_readSum_32 rfl) rfl
theorem dX4_readSum_55 : decode cX4_readSum 55 = .ok (.sipush 2000, 3) := do_17 (rdb (p := 32) (i := 23) ch_cX4_readSum_32 rfl) (rdb (p := 32) (i := 24) ch_cX4_readSum_32 rfl) (rdb (p := 32) (i := 25) ch_cX4_readSum_32 rfl) (by decide +kernel)
theorem dX4_readSum_58 : decode cX4_readSum 58 = .ok (.iload_n 2, 1) := do_28 (rdb (p := 32) (i := 26) ch_cX4_readSum_32 rfl)
theorem dX4_readSum_59 : decode cX4_readSum 59 = .ok (.iadd, 1) := do_96 (rdb (p := 32) (i := 27) ch_cX4_readSum_32 rfl)
theorem dX4_readSum_60 : decode cX4_readSum 60 = .ok (.invokevirtual 75, 3) := do_182 (rdb (p := 32) (i := 28) ch_cX4_readSum_32 rfl) (rdb (p := 32) (i := 29) ch_cX4_readSum_32 rfl) (rdb (p := 32) (i := 30) ch_cX4_readSum_32 rfl) rfl
theorem dX4_readSum_63 : decode cX4_readSum 63 = .ok (.iinc 1 1, 3) := do_132 (rdb (p := 32) (i := 31) ch_cX4_readSum_32 rfl) (rdb (p := 32) (i := 32) ch_cX4_readSum_32 rfl) (rdb (p := 32) (i := 33) ch_cX4_readSum_32 rfl) (by decide +kernel)
theorem ch_cX4_readSum_64 : (cX4_readSum.data.toList.drop 64).take 36 = [1, 1, 167, 255, 196, 177] := by decide +kernel
theorem dX4_readSum_66 : decode cX4_readSum 66 = .ok (.goto (-60), 3) := do_167 (rdb (p := 64) (i := 2) ch_cX4_readSum_64 rfl) (rdb (p := 64) (i := 3) ch_cX4_readSum_64 rfl) (rdb (p := 64) (i := 4) ch_cX4_readSum_64 rfl) (by decide +kernel)
theorem dX4_readSum_69 : decode cX4_readSum 69 = .ok (.return_, 1) := do_177 (rdb (p := 64) (i := 5) ch_cX4_readSum_64 rfl)
theorem ch_cX4_readTerm_0 : (cX4_readTerm.data.toList.drop 0).take 36 = [42, 182, 0, 81, 3, 60, 27, 16, 48, 162, 0, 66, 42, 180, 0, 35, 156, 0, 59, 42, 182, 0, 58, 61, 28, 16, 42, 159, 0, 16, 28, 16, 47, 159, 0, 10] := by decide +kernel
theorem dX4_readTerm_0 : decode cX4_readTerm 0 = .ok (.aload_n 0, 1) := do_42 (rdb (p := 0) (i := 0) ch_cX4_readTerm_0 rfl)
theorem dX4_readTerm_1 : decode cX4_readTerm 1 = .ok (.invokevirtual 81, 3) := do_182 (rdb (p := 0) (i := 1) ch_cX4_readTerm_0 rfl) (rdb (p := 0) (i := 2) ch_cX4_readTerm_0 rfl) (rdb (p := 0) (i := 3) ch_cX4_readTerm_0 rfl) rfl
theorem dX4_readTerm_4 : decode cX4_readTerm 4 = .ok (.iconst 0, 1) := do_3 (rdb (p := 0) (i := 4) ch_cX4_readTerm_0 rfl)
theorem dX4_readTerm_5 : decode cX4_readTerm 5 = .ok (.istore_n 1, 1) := do_60 (rdb (p := 0) (i := 5) ch_cX4_readTerm_0 rfl)
theorem dX4_readTerm_6 : decode cX4_readTerm 6 = .ok (.iload_n 1, 1) := do_27 (rdb (p := 0) (i := 6) ch_cX4_readTerm_0 rfl)
theorem dX4_readTerm_7 : decode cX4_readTerm 7 = .ok (.bipush 48, 2) := do_16 (rdb (p := 0) (i := 7) ch_cX4_readTerm_0 rfl) (rdb (p := 0) (i := 8) ch_cX4_readTerm_0 rfl) (by decide +kernel)
theorem dX4_readTerm_9 : decode cX4_readTerm 9 = .ok (.if_icmp .ge 66, 3) := do_162 (rdb (p := 0) (i := 9) ch_cX4_readTerm_0 rfl) (rdb (p := 0) (i := 10) ch_cX4_readTerm_0 rfl) (rdb (p := 0) (i := 11) ch_cX4_readTerm_0 rfl) (by decide +kernel)
theorem dX4_readTerm_12 : decode cX4_readTerm 12 = .ok (.aload_n 0, 1) := do_42 (rdb (p := 0) (i := 12) ch_cX4_readTerm_0 rfl)
theorem dX4_readTerm_13 : decode cX4_readTerm 13 = .ok (.getfield 35, 3) := do_180 (rdb (p := 0) (i := 13) ch_cX4_readTerm_0 rfl) (rdb (p := 0) (i := 14) ch_cX4_readTerm_0 rfl) (rdb (p := 0) (i := 15) ch_cX4_readTerm_0 rfl) rfl
theorem dX4_readTerm_16 : decode cX4_readTerm 16 = .ok (.ifCond .ge 59, 3) := do_156 (rdb (p := 0) (i := 16) ch_cX4_readTerm_0 rfl) (rdb (p := 0) (i := 17) ch_cX4_readTerm_0 rfl) (rdb (p := 0) (i := 18) ch_cX4_readTerm_0 rfl) (by decide +kernel)
theorem dX4_readTerm_19 : decode cX4_readTerm 19 = .ok (.aload_n 0, 1) := do_42 (rdb (p := 0) (i := 19) ch_cX4_readTerm_0 rfl)
theorem dX4_readTerm_20 : decode cX4_readTerm 20 = .ok (.invokevirtual 58, 3) := do_182 (rdb (p := 0) (i := 20) ch_cX4_readTerm_0 rfl) (rdb (p := 0) (i := 21) ch_cX4_readTerm_0 rfl) (rdb (p := 0) (i := 22) ch_cX4_readTerm_0 rfl) rfl
theorem dX4_readTerm_23 : decode cX4_readTerm 23 = .ok (.istore_n 2, 1) := do_61 (rdb (p := 0) (i := 23) ch_cX4_readTerm_0 rfl)
theorem dX4_readTerm_24 : decode cX4_readTerm 24 = .ok (.iload_n 2, 1) := do_28 (rdb (p := 0) (i := 24) ch_cX4_readTerm_0 rfl)
theorem dX4_readTerm_25 : decode cX4_readTerm 25 = .ok (.bipush 42, 2) := do_16 (rdb (p := 0) (i := 25) ch_cX4_readTerm_0 rfl) (rdb (p := 0) (i := 26) ch_cX4_readTerm_0 rfl) (by decide +kernel)
theorem dX4_readTerm_27 : decode cX4_readTerm 27 = .ok (.if_icmp .eq 16, 3) := do_159 (rdb (p := 0) (i := 27) ch_cX4_readTerm_0 rfl) (rdb (p := 0) (i := 28) ch_cX4_readTerm_0 rfl) (rdb (p := 0) (i := 29) ch_cX4_readTerm_0 rfl) (by decide +kernel)
theorem dX4_readTerm_30 : decode cX4_readTerm 30 = .ok (.iload_n 2, 1) := do_28 (rdb (p := 0) (i := 30) ch_cX4_readTerm_0 rfl)
theorem dX4_readTerm_31 : decode cX4_readTerm 31 = .ok (.bipush 47, 2) := do_16 (rdb (p := 0) (i := 31) ch_cX4_readTerm_0 rfl) (rdb (p := 0) (i := 32) ch_cX4_readTerm_0 rfl) (by decide +kernel)
theorem ch_cX4_readTerm_32 : (cX4_readTerm.data.toList.drop 32).take 36 = [47, 159, 0, 10, 28, 16, 37, 159, 0, 4, 177, 42, 89, 180, 0, 31, 4, 96, 181, 0, 31, 42, 182, 0, 81, 42, 180, 0, 10, 17, 7, 208, 28, 96, 182, 0] := by decide +kernel
theorem dX4_readTerm_33 : decode cX4_readTerm 33 = .ok (.if_icmp .eq 10, 3) := do_159 (rdb (p := 32) (i := 1) ch_cX4_readTerm_32 rfl) (rdb (p := 32) (i := 2) ch_cX4_readTerm_32 rfl) (rdb (p := 32) (i := 3) ch_cX4_readTerm_32 rfl) (by decide +kernel)
theorem dX4_readTerm_36 : decode cX4_readTerm 36 = .ok (.iload_n 2, 1) := do_28 (rdb (p := 32) (i := 4) ch_cX4_readTerm_32 rfl)
theorem dX4_readTerm_37 : decode cX4_readTerm 37 = .ok (.bipush 37, 2) := do_16 (rdb (p := 32) (i := 5) ch_cX4_readTerm_32 rfl) (rdb (p := 32) (i := 6) ch_cX4_readTerm_32 rfl) (by decide +kernel)
theorem dX4_readTerm_39 : decode cX4_readTerm 39 = .ok (.if_icmp .eq 4, 3) := do_159 (rdb (p := 32) (i := 7) ch_cX4_readTerm_32 rfl) (rdb (p := 32) (i := 8) ch_cX4_readTerm_32 rfl) (rdb (p := 32) (i := 9) ch_cX4_readTerm_32 rfl) (by decide +kernel)
theorem dX4_readTerm_42 : decode cX4_readTerm 42 = .ok (.return_, 1) := do_177 (rdb (p := 32) (i := 10) ch_cX4_readTerm_32 rfl)
theorem dX4_readTerm_43 : decode cX4_readTerm 43 = .ok (.aload_n 0, 1) := do_42 (rdb (p := 32) (i := 11) ch_cX4_readTerm_32 rfl)
theorem dX4_readTerm_44 : decode cX4_readTerm 44 = .ok (.dup, 1) := do_89 (rdb (p := 32) (i := 12) ch_cX4_readTerm_32 rfl)
theorem dX4_readTerm_45 : decode cX4_readTerm 45 = .ok (.getfield 31, 3) := do_180 (rdb (p := 32) (i := 13) ch_cX4_readTerm_32 rfl) (rdb (p := 32) (i := 14) ch_cX4_readTerm_32 rfl) (rdb (p := 32) (i := 15) ch_cX4_readTerm_32 rfl) rfl
theorem dX4_readTerm_48 : decode cX4_readTerm 48 = .ok (.iconst 1, 1) := do_4 (rdb (p := 32) (i := 16) ch_cX4_readTerm_32 rfl)
theorem dX4_readTerm_49 : decode cX4_readTerm 49 = .ok (.iadd, 1) := do_96 (rdb (p := 32) (i := 17) ch_cX4_readTerm_32 rfl)
theorem dX4_readTerm_50 : decode cX4_readTerm 50 = .ok (.putfield 31, 3) := do_181 (rdb (p := 32) (i := 18) ch_cX4_readTerm_32 rfl) (rdb (p := 32) (i := 19) ch_cX4_readTerm_32 rfl) (rdb (p := 32) (i := 20) ch_cX4_readTerm_32 rfl) rfl
theorem dX4_readTerm_53 : decode cX4_readTerm 53 = .ok (.aload_n 0, 1) := do_42 (rdb (p := 32) (i := 21) ch_cX4_readTerm_32 rfl)
theorem dX4_readTerm_54 : decode cX4_readTerm 54 = .ok (.invokevirtual 81, 3) := do_182 (rdb (p := 32) (i := 22) ch_cX4_readTerm_32 rfl) (rdb (p := 32) (i := 23) ch_cX4_readTerm_32 rfl) (rdb (p := 32) (i := 24) ch_cX4_readTerm_32 rfl) rfl
theorem dX4_readTerm_57 : decode cX4_readTerm 57 = .ok (.aload_n 0, 1) := do_42 (rdb (p := 32) (i := 25) ch_cX4_readTerm_32 rfl)
theorem dX4_readTerm_58 : decode cX4_readTerm 58 = .ok (.getfield 10, 3) := do_180 (rdb (p := 32) (i := 26) ch_cX4_readTerm_32 rfl) (rdb (p := 32) (i := 27) ch_cX4_readTerm_32 rfl) (rdb (p := 32) (i := 28) ch_cX4_readTerm_32 rfl) rfl
theorem dX4_readTerm_61 : decode cX4_readTerm 61 = .ok (.sipush 2000, 3) := do_17 (rdb (p := 32) (i := 29) ch_cX4_readTerm_32 rfl) (rdb (p := 32) (i := 30) ch_cX4_readTerm_32 rfl) (rdb (p := 32) (i := 31) ch_cX4_readTerm_32 rfl) (by decide +kernel)
theorem ch_cX4_readTerm_64 : (cX4_readTerm.data.toList.drop 64).take 36 = [28, 96, 182, 0, 75, 132, 1, 1, 167, 255, 190, 177] := by decide +kernel
theorem dX4_readTerm_64 : decode cX4_readTerm 64 = .ok (.iload_n 2, 1) := do_28 (rdb (p := 64) (i := 0) ch_cX4_readTerm_64 rfl)
theorem dX4_readTerm_65 : decode cX4_readTerm 65 = .ok (.iadd, 1) := do_96 (rdb (p := 64) (i := 1) ch_cX4_readTerm_64 rfl)
theorem dX4_readTerm_66 : decode cX4_readTerm 66 = .ok (.invokevirtual 75, 3) := do_182 (rdb (p := 64) (i := 2) ch_cX4_readTerm_64 rfl) (rdb (p := 64) (i := 3) ch_cX4_readTerm_64 rfl) (rdb (p := 64) (i := 4) ch_cX4_readTerm_64 rfl) rfl
theorem dX4_readTerm_69 : decode cX4_readTerm 69 = .ok (.iinc 1 1, 3) := do_132 (rdb (p := 64) (i := 5) ch_cX4_readTerm_64 rfl) (rdb (p := 64) (i := 6) ch_cX4_readTerm_64 rfl) (rdb (p := 64) (i := 7) ch_cX4_readTerm_64 rfl) (by decide +kernel)
theorem dX4_readTerm_72 : decode cX4_readTerm 72 = .ok (.goto (-66), 3) := do_167 (rdb (p := 64) (i := 8) ch_cX4_readTerm_64 rfl) (rdb (p := 64) (i := 9) ch_cX4_readTerm_64 rfl) (rdb (p := 64) (i := 10) ch_cX4_readTerm_64 rfl) (by decide +kernel)
theorem dX4_readTerm_75 : decode cX4_readTerm 75 = .ok (.return_, 1) := do_177 (rdb (p := 64) (i := 11) ch_cX4_readTerm_64 rfl)
