/-! words of the tables that are used, by their places; decode rows; fields -/
theorem li_2001 : (2001 : Int32).toInt = 2001 := by decide
theorem li_2002 : (2002 : Int32).toInt = 2002 := by decide
theorem li_2003 : (2003 : Int32).toInt = 2003 := by decide
theorem li_2004 : (2004 : Int32).toInt = 2004 := by decide
theorem li_2005 : (2005 : Int32).toInt = 2005 := by decide
theorem li_2006 : (2006 : Int32).toInt = 2006 := by decide
theorem li_2007 : (2007 : Int32).toInt = 2007 := by decide
theorem m_36 : Cond.selects yX12_text.cls yX12_text yX12_text ∈ BASE := bmem 36 (by decide +kernel) rfl
theorem m_37 : Cond.selects yX12_sum.cls yX12_sum yX12_sum ∈ BASE := bmem 37 (by decide +kernel) rfl
theorem m_38 : Cond.selects yX12_term.cls yX12_term yX12_term ∈ BASE := bmem 38 (by decide +kernel) rfl
theorem m_39 : Cond.selects yX12_one.cls yX12_one yX12_one ∈ BASE := bmem 39 (by decide +kernel) rfl
theorem m_41 : Cond.selects yX12_opens.cls yX12_opens yX12_opens ∈ BASE := bmem 41 (by decide +kernel) rfl
theorem m_42 : Cond.selects yX12_codes.cls yX12_codes yX12_codes ∈ BASE := bmem 42 (by decide +kernel) rfl
theorem m_43 : Cond.selects yX12_must.cls yX12_must yX12_must ∈ BASE := bmem 43 (by decide +kernel) rfl
theorem m_45 : Cond.selects yX12_nameOf.cls yX12_nameOf yX12_nameOf ∈ BASE := bmem 45 (by decide +kernel) rfl
theorem m_1334 : Cond.fieldLink RX12 191 "ClickStreetModel" "open" "I" ∈ BASE := bmem 1334 (by decide +kernel) rfl
theorem m_1335 : Cond.fieldLink RX12 203 "ClickStreetModel" "told" "I" ∈ BASE := bmem 1335 (by decide +kernel) rfl
theorem m_1559 : Cond.methodLink RX12 194 yX12_text ∈ BASE := bmem 1559 (by decide +kernel) rfl
theorem m_1561 : Cond.instanceMethod yX12_text ∈ BASE := bmem 1561 (by decide +kernel) rfl
theorem m_1562 : Cond.code yX12_text cX12_text 2 none ∈ BASE := bmem 1562 (by decide +kernel) rfl
theorem m_1563 : Cond.methodLink RX12 168 yX12_sum ∈ BASE := bmem 1563 (by decide +kernel) rfl
theorem m_1565 : Cond.instanceMethod yX12_sum ∈ BASE := bmem 1565 (by decide +kernel) rfl
theorem m_1566 : Cond.code yX12_sum cX12_sum 2 none ∈ BASE := bmem 1566 (by decide +kernel) rfl
theorem m_1567 : Cond.methodLink RX12 175 yX12_term ∈ BASE := bmem 1567 (by decide +kernel) rfl
theorem m_1569 : Cond.instanceMethod yX12_term ∈ BASE := bmem 1569 (by decide +kernel) rfl
theorem m_1570 : Cond.code yX12_term cX12_term 2 none ∈ BASE := bmem 1570 (by decide +kernel) rfl
theorem m_1571 : Cond.methodLink RX12 178 yX12_one ∈ BASE := bmem 1571 (by decide +kernel) rfl
theorem m_1573 : Cond.instanceMethod yX12_one ∈ BASE := bmem 1573 (by decide +kernel) rfl
theorem m_1574 : Cond.code yX12_one cX12_one 4 none ∈ BASE := bmem 1574 (by decide +kernel) rfl
theorem m_1579 : Cond.methodLink RX12 200 yX12_opens ∈ BASE := bmem 1579 (by decide +kernel) rfl
theorem m_1581 : Cond.instanceMethod yX12_opens ∈ BASE := bmem 1581 (by decide +kernel) rfl
theorem m_1582 : Cond.code yX12_opens cX12_opens 2 none ∈ BASE := bmem 1582 (by decide +kernel) rfl
theorem m_1583 : Cond.methodLink RX12 171 yX12_codes ∈ BASE := bmem 1583 (by decide +kernel) rfl
theorem m_1585 : Cond.instanceMethod yX12_codes ∈ BASE := bmem 1585 (by decide +kernel) rfl
theorem m_1586 : Cond.code yX12_codes cX12_codes 2 none ∈ BASE := bmem 1586 (by decide +kernel) rfl
theorem m_1587 : Cond.methodLink RX12 197 yX12_must ∈ BASE := bmem 1587 (by decide +kernel) rfl
theorem m_1589 : Cond.instanceMethod yX12_must ∈ BASE := bmem 1589 (by decide +kernel) rfl
theorem m_1590 : Cond.code yX12_must cX12_must 2 none ∈ BASE := bmem 1590 (by decide +kernel) rfl
theorem m_1595 : Cond.methodLink RX12 206 yX12_nameOf ∈ BASE := bmem 1595 (by decide +kernel) rfl
theorem m_1597 : Cond.instanceMethod yX12_nameOf ∈ BASE := bmem 1597 (by decide +kernel) rfl
theorem m_1598 : Cond.code yX12_nameOf cX12_nameOf 4 (some .int) ∈ BASE := bmem 1598 (by decide +kernel) rfl
theorem kV_X12_codes : KV yX12_codes cX12_codes 2 none 1 := ⟨m_1585, m_42, m_92, m_1586, by decide +kernel, by decide +kernel, by decide +kernel⟩
theorem kV_X12_must : KV yX12_must cX12_must 2 none 1 := ⟨m_1589, m_43, m_92, m_1590, by decide +kernel, by decide +kernel, by decide +kernel⟩
theorem kV_X12_nameOf : KV yX12_nameOf cX12_nameOf 4 (some .int) 1 := ⟨m_1597, m_45, m_92, m_1598, by decide +kernel, by decide +kernel, by decide +kernel⟩
theorem kV_X12_one : KV yX12_one cX12_one 4 none 0 := ⟨m_1573, m_39, m_92, m_1574, by decide +kernel, by decide +kernel, by decide +kernel⟩
theorem kV_X12_opens : KV yX12_opens cX12_opens 2 none 1 := ⟨m_1581, m_41, m_92, m_1582, by decide +kernel, by decide +kernel, by decide +kernel⟩
theorem kV_X12_sum : KV yX12_sum cX12_sum 2 none 0 := ⟨m_1565, m_37, m_92, m_1566, by decide +kernel, by decide +kernel, by decide +kernel⟩
theorem kV_X12_term : KV yX12_term cX12_term 2 none 0 := ⟨m_1569, m_38, m_92, m_1570, by decide +kernel, by decide +kernel, by decide +kernel⟩
theorem kV_X12_text : KV yX12_text cX12_text 2 none 0 := ⟨m_1561, m_36, m_92, m_1562, by decide +kernel, by decide +kernel, by decide +kernel⟩
theorem fl_RX12_191 : FLK RX12 191 12 11 .int false := ⟨RX12, TX12, 33, tyX12, rfl, inB12, tyX12_ok, nmX12, by decide, rfl, rfl, Or.inl m_1334⟩
theorem fl_RX12_203 : FLK RX12 203 12 12 .int false := ⟨RX12, TX12, 33, tyX12, rfl, inB12, tyX12_ok, nmX12, by decide, rfl, rfl, Or.inl m_1335⟩
theorem ch_cX12_one_0 : (cX12_one.data.toList.drop 0).take 36 = [42, 182, 0, 158, 60, 27, 16, 45, 159, 0, 15, 27, 16, 40, 159, 0, 9, 27, 16, 91, 160, 0, 11, 42, 27, 182, 0, 200, 167, 0, 185, 27, 16, 48, 16, 57] := by decide +kernel
theorem dX12_one_0 : decode cX12_one 0 = .ok (.aload_n 0, 1) := do_42 (rdb (p := 0) (i := 0) ch_cX12_one_0 rfl)
theorem dX12_one_1 : decode cX12_one 1 = .ok (.invokevirtual 158, 3) := do_182 (rdb (p := 0) (i := 1) ch_cX12_one_0 rfl) (rdb (p := 0) (i := 2) ch_cX12_one_0 rfl) (rdb (p := 0) (i := 3) ch_cX12_one_0 rfl) rfl
theorem dX12_one_4 : decode cX12_one 4 = .ok (.istore_n 1, 1) := do_60 (rdb (p := 0) (i := 4) ch_cX12_one_0 rfl)
theorem dX12_one_5 : decode cX12_one 5 = .ok (.iload_n 1, 1) := do_27 (rdb (p := 0) (i := 5) ch_cX12_one_0 rfl)
theorem dX12_one_6 : decode cX12_one 6 = .ok (.bipush 45, 2) := do_16 (rdb (p := 0) (i := 6) ch_cX12_one_0 rfl) (rdb (p := 0) (i := 7) ch_cX12_one_0 rfl) (by decide +kernel)
theorem dX12_one_8 : decode cX12_one 8 = .ok (.if_icmp .eq 15, 3) := do_159 (rdb (p := 0) (i := 8) ch_cX12_one_0 rfl) (rdb (p := 0) (i := 9) ch_cX12_one_0 rfl) (rdb (p := 0) (i := 10) ch_cX12_one_0 rfl) (by decide +kernel)
theorem dX12_one_11 : decode cX12_one 11 = .ok (.iload_n 1, 1) := do_27 (rdb (p := 0) (i := 11) ch_cX12_one_0 rfl)
theorem dX12_one_12 : decode cX12_one 12 = .ok (.bipush 40, 2) := do_16 (rdb (p := 0) (i := 12) ch_cX12_one_0 rfl) (rdb (p := 0) (i := 13) ch_cX12_one_0 rfl) (by decide +kernel)
theorem dX12_one_14 : decode cX12_one 14 = .ok (.if_icmp .eq 9, 3) := do_159 (rdb (p := 0) (i := 14) ch_cX12_one_0 rfl) (rdb (p := 0) (i := 15) ch_cX12_one_0 rfl) (rdb (p := 0) (i := 16) ch_cX12_one_0 rfl) (by decide +kernel)
theorem dX12_one_17 : decode cX12_one 17 = .ok (.iload_n 1, 1) := do_27 (rdb (p := 0) (i := 17) ch_cX12_one_0 rfl)
theorem dX12_one_18 : decode cX12_one 18 = .ok (.bipush 91, 2) := do_16 (rdb (p := 0) (i := 18) ch_cX12_one_0 rfl) (rdb (p := 0) (i := 19) ch_cX12_one_0 rfl) (by decide +kernel)
theorem dX12_one_20 : decode cX12_one 20 = .ok (.if_icmp .ne 11, 3) := do_160 (rdb (p := 0) (i := 20) ch_cX12_one_0 rfl) (rdb (p := 0) (i := 21) ch_cX12_one_0 rfl) (rdb (p := 0) (i := 22) ch_cX12_one_0 rfl) (by decide +kernel)
theorem dX12_one_23 : decode cX12_one 23 = .ok (.aload_n 0, 1) := do_42 (rdb (p := 0) (i := 23) ch_cX12_one_0 rfl)
theorem dX12_one_24 : decode cX12_one 24 = .ok (.iload_n 1, 1) := do_27 (rdb (p := 0) (i := 24) ch_cX12_one_0 rfl)
theorem dX12_one_25 : decode cX12_one 25 = .ok (.invokevirtual 200, 3) := do_182 (rdb (p := 0) (i := 25) ch_cX12_one_0 rfl) (rdb (p := 0) (i := 26) ch_cX12_one_0 rfl) (rdb (p := 0) (i := 27) ch_cX12_one_0 rfl) rfl
theorem dX12_one_28 : decode cX12_one 28 = .ok (.goto 185, 3) := do_167 (rdb (p := 0) (i := 28) ch_cX12_one_0 rfl) (rdb (p := 0) (i := 29) ch_cX12_one_0 rfl) (rdb (p := 0) (i := 30) ch_cX12_one_0 rfl) (by decide +kernel)
theorem dX12_one_31 : decode cX12_one 31 = .ok (.iload_n 1, 1) := do_27 (rdb (p := 0) (i := 31) ch_cX12_one_0 rfl)
theorem ch_cX12_one_32 : (cX12_one.data.toList.drop 32).take 36 = [16, 48, 16, 57, 184, 0, 85, 153, 0, 104, 3, 61, 3, 62, 29, 6, 162, 0, 77, 42, 180, 0, 155, 42, 180, 0, 9, 7, 46, 162, 0, 64, 42, 180, 0, 9] := by decide +kernel
theorem dX12_one_32 : decode cX12_one 32 = .ok (.bipush 48, 2) := do_16 (rdb (p := 32) (i := 0) ch_cX12_one_32 rfl) (rdb (p := 32) (i := 1) ch_cX12_one_32 rfl) (by decide +kernel)
theorem dX12_one_34 : decode cX12_one 34 = .ok (.bipush 57, 2) := do_16 (rdb (p := 32) (i := 2) ch_cX12_one_32 rfl) (rdb (p := 32) (i := 3) ch_cX12_one_32 rfl) (by decide +kernel)
theorem dX12_one_36 : decode cX12_one 36 = .ok (.invokestatic 85, 3) := do_184 (rdb (p := 32) (i := 4) ch_cX12_one_32 rfl) (rdb (p := 32) (i := 5) ch_cX12_one_32 rfl) (rdb (p := 32) (i := 6) ch_cX12_one_32 rfl) rfl
theorem dX12_one_39 : decode cX12_one 39 = .ok (.ifCond .eq 104, 3) := do_153 (rdb (p := 32) (i := 7) ch_cX12_one_32 rfl) (rdb (p := 32) (i := 8) ch_cX12_one_32 rfl) (rdb (p := 32) (i := 9) ch_cX12_one_32 rfl) (by decide +kernel)
theorem dX12_one_42 : decode cX12_one 42 = .ok (.iconst 0, 1) := do_3 (rdb (p := 32) (i := 10) ch_cX12_one_32 rfl)
theorem dX12_one_43 : decode cX12_one 43 = .ok (.istore_n 2, 1) := do_61 (rdb (p := 32) (i := 11) ch_cX12_one_32 rfl)
theorem dX12_one_44 : decode cX12_one 44 = .ok (.iconst 0, 1) := do_3 (rdb (p := 32) (i := 12) ch_cX12_one_32 rfl)
theorem dX12_one_45 : decode cX12_one 45 = .ok (.istore_n 3, 1) := do_62 (rdb (p := 32) (i := 13) ch_cX12_one_32 rfl)
theorem dX12_one_46 : decode cX12_one 46 = .ok (.iload_n 3, 1) := do_29 (rdb (p := 32) (i := 14) ch_cX12_one_32 rfl)
theorem dX12_one_47 : decode cX12_one 47 = .ok (.iconst 3, 1) := do_6 (rdb (p := 32) (i := 15) ch_cX12_one_32 rfl)
theorem dX12_one_48 : decode cX12_one 48 = .ok (.if_icmp .ge 77, 3) := do_162 (rdb (p := 32) (i := 16) ch_cX12_one_32 rfl) (rdb (p := 32) (i := 17) ch_cX12_one_32 rfl) (rdb (p := 32) (i := 18) ch_cX12_one_32 rfl) (by decide +kernel)
theorem dX12_one_51 : decode cX12_one 51 = .ok (.aload_n 0, 1) := do_42 (rdb (p := 32) (i := 19) ch_cX12_one_32 rfl)
theorem dX12_one_52 : decode cX12_one 52 = .ok (.getfield 155, 3) := do_180 (rdb (p := 32) (i := 20) ch_cX12_one_32 rfl) (rdb (p := 32) (i := 21) ch_cX12_one_32 rfl) (rdb (p := 32) (i := 22) ch_cX12_one_32 rfl) rfl
theorem dX12_one_55 : decode cX12_one 55 = .ok (.aload_n 0, 1) := do_42 (rdb (p := 32) (i := 23) ch_cX12_one_32 rfl)
theorem dX12_one_56 : decode cX12_one 56 = .ok (.getfield 9, 3) := do_180 (rdb (p := 32) (i := 24) ch_cX12_one_32 rfl) (rdb (p := 32) (i := 25) ch_cX12_one_32 rfl) (rdb (p := 32) (i := 26) ch_cX12_one_32 rfl) rfl
theorem dX12_one_59 : decode cX12_one 59 = .ok (.iconst 4, 1) := do_7 (rdb (p := 32) (i := 27) ch_cX12_one_32 rfl)
theorem dX12_one_60 : decode cX12_one 60 = .ok (.iaload, 1) := do_46 (rdb (p := 32) (i := 28) ch_cX12_one_32 rfl)
theorem dX12_one_61 : decode cX12_one 61 = .ok (.if_icmp .ge 64, 3) := do_162 (rdb (p := 32) (i := 29) ch_cX12_one_32 rfl) (rdb (p := 32) (i := 30) ch_cX12_one_32 rfl) (rdb (p := 32) (i := 31) ch_cX12_one_32 rfl) (by decide +kernel)
theorem ch_cX12_one_64 : (cX12_one.data.toList.drop 64).take 36 = [42, 180, 0, 9, 17, 1, 17, 42, 180, 0, 155, 96, 46, 16, 48, 16, 57, 184, 0, 85, 153, 0, 41, 16, 10, 28, 104, 42, 180, 0, 9, 17, 1, 17, 42, 180] := by decide +kernel
theorem dX12_one_64 : decode cX12_one 64 = .ok (.aload_n 0, 1) := do_42 (rdb (p := 64) (i := 0) ch_cX12_one_64 rfl)
theorem dX12_one_65 : decode cX12_one 65 = .ok (.getfield 9, 3) := do_180 (rdb (p := 64) (i := 1) ch_cX12_one_64 rfl) (rdb (p := 64) (i := 2) ch_cX12_one_64 rfl) (rdb (p := 64) (i := 3) ch_cX12_one_64 rfl) rfl
theorem dX12_one_68 : decode cX12_one 68 = .ok (.sipush 273, 3) := do_17 (rdb (p := 64) (i := 4) ch_cX12_one_64 rfl) (rdb (p := 64) (i := 5) ch_cX12_one_64 rfl) (rdb (p := 64) (i := 6) ch_cX12_one_64 rfl) (by decide +kernel)
theorem dX12_one_71 : decode cX12_one 71 = .ok (.aload_n 0, 1) := do_42 (rdb (p := 64) (i := 7) ch_cX12_one_64 rfl)
theorem dX12_one_72 : decode cX12_one 72 = .ok (.getfield 155, 3) := do_180 (rdb (p := 64) (i := 8) ch_cX12_one_64 rfl) (rdb (p := 64) (i := 9) ch_cX12_one_64 rfl) (rdb (p := 64) (i := 10) ch_cX12_one_64 rfl) rfl
theorem dX12_one_75 : decode cX12_one 75 = .ok (.iadd, 1) := do_96 (rdb (p := 64) (i := 11) ch_cX12_one_64 rfl)
theorem dX12_one_76 : decode cX12_one 76 = .ok (.iaload, 1) := do_46 (rdb (p := 64) (i := 12) ch_cX12_one_64 rfl)
theorem dX12_one_77 : decode cX12_one 77 = .ok (.bipush 48, 2) := do_16 (rdb (p := 64) (i := 13) ch_cX12_one_64 rfl) (rdb (p := 64) (i := 14) ch_cX12_one_64 rfl) (by decide +kernel)
theorem dX12_one_79 : decode cX12_one 79 = .ok (.bipush 57, 2) := do_16 (rdb (p := 64) (i := 15) ch_cX12_one_64 rfl) (rdb (p := 64) (i := 16) ch_cX12_one_64 rfl) (by decide +kernel)
theorem dX12_one_81 : decode cX12_one 81 = .ok (.invokestatic 85, 3) := do_184 (rdb (p := 64) (i := 17) ch_cX12_one_64 rfl) (rdb (p := 64) (i := 18) ch_cX12_one_64 rfl) (rdb (p := 64) (i := 19) ch_cX12_one_64 rfl) rfl
theorem dX12_one_84 : decode cX12_one 84 = .ok (.ifCond .eq 41, 3) := do_153 (rdb (p := 64) (i := 20) ch_cX12_one_64 rfl) (rdb (p := 64) (i := 21) ch_cX12_one_64 rfl) (rdb (p := 64) (i := 22) ch_cX12_one_64 rfl) (by decide +kernel)
theorem dX12_one_87 : decode cX12_one 87 = .ok (.bipush 10, 2) := do_16 (rdb (p := 64) (i := 23) ch_cX12_one_64 rfl) (rdb (p := 64) (i := 24) ch_cX12_one_64 rfl) (by decide +kernel)
theorem dX12_one_89 : decode cX12_one 89 = .ok (.iload_n 2, 1) := do_28 (rdb (p := 64) (i := 25) ch_cX12_one_64 rfl)
theorem dX12_one_90 : decode cX12_one 90 = .ok (.imul, 1) := do_104 (rdb (p := 64) (i := 26) ch_cX12_one_64 rfl)
theorem dX12_one_91 : decode cX12_one 91 = .ok (.aload_n 0, 1) := do_42 (rdb (p := 64) (i := 27) ch_cX12_one_64 rfl)
theorem dX12_one_92 : decode cX12_one 92 = .ok (.getfield 9, 3) := do_180 (rdb (p := 64) (i := 28) ch_cX12_one_64 rfl) (rdb (p := 64) (i := 29) ch_cX12_one_64 rfl) (rdb (p := 64) (i := 30) ch_cX12_one_64 rfl) rfl
theorem dX12_one_95 : decode cX12_one 95 = .ok (.sipush 273, 3) := do_17 (rdb (p := 64) (i := 31) ch_cX12_one_64 rfl) (rdb (p := 64) (i := 32) ch_cX12_one_64 rfl) (rdb (p := 64) (i := 33) ch_cX12_one_64 rfl) (by decide +kernel)
theorem ch_cX12_one_96 : (cX12_one.data.toList.drop 96).take 36 = [1, 17, 42, 180, 0, 155, 96, 46, 96, 16, 48, 100, 61, 42, 89, 180, 0, 155, 4, 96, 181, 0, 155, 132, 3, 1, 167, 255, 180, 42, 28, 182, 0, 171, 42, 89] := by decide +kernel
theorem dX12_one_98 : decode cX12_one 98 = .ok (.aload_n 0, 1) := do_42 (rdb (p := 96) (i := 2) ch_cX12_one_96 rfl)
theorem dX12_one_99 : decode cX12_one 99 = .ok (.getfield 155, 3) := do_180 (rdb (p := 96) (i := 3) ch_cX12_one_96 rfl) (rdb (p := 96) (i := 4) ch_cX12_one_96 rfl) (rdb (p := 96) (i := 5) ch_cX12_one_96 rfl) rfl
theorem dX12_one_102 : decode cX12_one 102 = .ok (.iadd, 1) := do_96 (rdb (p := 96) (i := 6) ch_cX12_one_96 rfl)
theorem dX12_one_103 : decode cX12_one 103 = .ok (.iaload, 1) := do_46 (rdb (p := 96) (i := 7) ch_cX12_one_96 rfl)
theorem dX12_one_104 : decode cX12_one 104 = .ok (.iadd, 1) := do_96 (rdb (p := 96) (i := 8) ch_cX12_one_96 rfl)
theorem dX12_one_105 : decode cX12_one 105 = .ok (.bipush 48, 2) := do_16 (rdb (p := 96) (i := 9) ch_cX12_one_96 rfl) (rdb (p := 96) (i := 10) ch_cX12_one_96 rfl) (by decide +kernel)
theorem dX12_one_107 : decode cX12_one 107 = .ok (.isub, 1) := do_100 (rdb (p := 96) (i := 11) ch_cX12_one_96 rfl)
theorem dX12_one_108 : decode cX12_one 108 = .ok (.istore_n 2, 1) := do_61 (rdb (p := 96) (i := 12) ch_cX12_one_96 rfl)
theorem dX12_one_109 : decode cX12_one 109 = .ok (.aload_n 0, 1) := do_42 (rdb (p := 96) (i := 13) ch_cX12_one_96 rfl)
theorem dX12_one_110 : decode cX12_one 110 = .ok (.dup, 1) := do_89 (rdb (p := 96) (i := 14) ch_cX12_one_96 rfl)
theorem dX12_one_111 : decode cX12_one 111 = .ok (.getfield 155, 3) := do_180 (rdb (p := 96) (i := 15) ch_cX12_one_96 rfl) (rdb (p := 96) (i := 16) ch_cX12_one_96 rfl) (rdb (p := 96) (i := 17) ch_cX12_one_96 rfl) rfl
theorem dX12_one_114 : decode cX12_one 114 = .ok (.iconst 1, 1) := do_4 (rdb (p := 96) (i := 18) ch_cX12_one_96 rfl)
theorem dX12_one_115 : decode cX12_one 115 = .ok (.iadd, 1) := do_96 (rdb (p := 96) (i := 19) ch_cX12_one_96 rfl)
theorem dX12_one_116 : decode cX12_one 116 = .ok (.putfield 155, 3) := do_181 (rdb (p := 96) (i := 20) ch_cX12_one_96 rfl) (rdb (p := 96) (i := 21) ch_cX12_one_96 rfl) (rdb (p := 96) (i := 22) ch_cX12_one_96 rfl) rfl
theorem dX12_one_119 : decode cX12_one 119 = .ok (.iinc 3 1, 3) := do_132 (rdb (p := 96) (i := 23) ch_cX12_one_96 rfl) (rdb (p := 96) (i := 24) ch_cX12_one_96 rfl) (rdb (p := 96) (i := 25) ch_cX12_one_96 rfl) (by decide +kernel)
theorem dX12_one_122 : decode cX12_one 122 = .ok (.goto (-76), 3) := do_167 (rdb (p := 96) (i := 26) ch_cX12_one_96 rfl) (rdb (p := 96) (i := 27) ch_cX12_one_96 rfl) (rdb (p := 96) (i := 28) ch_cX12_one_96 rfl) (by decide +kernel)
theorem dX12_one_125 : decode cX12_one 125 = .ok (.aload_n 0, 1) := do_42 (rdb (p := 96) (i := 29) ch_cX12_one_96 rfl)
theorem dX12_one_126 : decode cX12_one 126 = .ok (.iload_n 2, 1) := do_28 (rdb (p := 96) (i := 30) ch_cX12_one_96 rfl)
theorem dX12_one_127 : decode cX12_one 127 = .ok (.invokevirtual 171, 3) := do_182 (rdb (p := 96) (i := 31) ch_cX12_one_96 rfl) (rdb (p := 96) (i := 32) ch_cX12_one_96 rfl) (rdb (p := 96) (i := 33) ch_cX12_one_96 rfl) rfl
theorem ch_cX12_one_128 : (cX12_one.data.toList.drop 128).take 36 = [0, 171, 42, 89, 180, 0, 203, 4, 96, 181, 0, 203, 167, 0, 73, 27, 156, 0, 7, 2, 167, 0, 8, 42, 27, 182, 0, 206, 61, 42, 42, 180, 0, 151, 154, 0] := by decide +kernel
theorem dX12_one_130 : decode cX12_one 130 = .ok (.aload_n 0, 1) := do_42 (rdb (p := 128) (i := 2) ch_cX12_one_128 rfl)
theorem dX12_one_131 : decode cX12_one 131 = .ok (.dup, 1) := do_89 (rdb (p := 128) (i := 3) ch_cX12_one_128 rfl)
theorem dX12_one_132 : decode cX12_one 132 = .ok (.getfield 203, 3) := do_180 (rdb (p := 128) (i := 4) ch_cX12_one_128 rfl) (rdb (p := 128) (i := 5) ch_cX12_one_128 rfl) (rdb (p := 128) (i := 6) ch_cX12_one_128 rfl) rfl
theorem dX12_one_135 : decode cX12_one 135 = .ok (.iconst 1, 1) := do_4 (rdb (p := 128) (i := 7) ch_cX12_one_128 rfl)
theorem dX12_one_136 : decode cX12_one 136 = .ok (.iadd, 1) := do_96 (rdb (p := 128) (i := 8) ch_cX12_one_128 rfl)
theorem dX12_one_137 : decode cX12_one 137 = .ok (.putfield 203, 3) := do_181 (rdb (p := 128) (i := 9) ch_cX12_one_128 rfl) (rdb (p := 128) (i := 10) ch_cX12_one_128 rfl) (rdb (p := 128) (i := 11) ch_cX12_one_128 rfl) rfl
theorem dX12_one_140 : decode cX12_one 140 = .ok (.goto 73, 3) := do_167 (rdb (p := 128) (i := 12) ch_cX12_one_128 rfl) (rdb (p := 128) (i := 13) ch_cX12_one_128 rfl) (rdb (p := 128) (i := 14) ch_cX12_one_128 rfl) (by decide +kernel)
theorem dX12_one_143 : decode cX12_one 143 = .ok (.iload_n 1, 1) := do_27 (rdb (p := 128) (i := 15) ch_cX12_one_128 rfl)
theorem dX12_one_144 : decode cX12_one 144 = .ok (.ifCond .ge 7, 3) := do_156 (rdb (p := 128) (i := 16) ch_cX12_one_128 rfl) (rdb (p := 128) (i := 17) ch_cX12_one_128 rfl) (rdb (p := 128) (i := 18) ch_cX12_one_128 rfl) (by decide +kernel)
theorem dX12_one_147 : decode cX12_one 147 = .ok (.iconst (-1), 1) := do_2 (rdb (p := 128) (i := 19) ch_cX12_one_128 rfl)
theorem dX12_one_148 : decode cX12_one 148 = .ok (.goto 8, 3) := do_167 (rdb (p := 128) (i := 20) ch_cX12_one_128 rfl) (rdb (p := 128) (i := 21) ch_cX12_one_128 rfl) (rdb (p := 128) (i := 22) ch_cX12_one_128 rfl) (by decide +kernel)
theorem dX12_one_151 : decode cX12_one 151 = .ok (.aload_n 0, 1) := do_42 (rdb (p := 128) (i := 23) ch_cX12_one_128 rfl)
theorem dX12_one_152 : decode cX12_one 152 = .ok (.iload_n 1, 1) := do_27 (rdb (p := 128) (i := 24) ch_cX12_one_128 rfl)
theorem dX12_one_153 : decode cX12_one 153 = .ok (.invokevirtual 206, 3) := do_182 (rdb (p := 128) (i := 25) ch_cX12_one_128 rfl) (rdb (p := 128) (i := 26) ch_cX12_one_128 rfl) (rdb (p := 128) (i := 27) ch_cX12_one_128 rfl) rfl
theorem dX12_one_156 : decode cX12_one 156 = .ok (.istore_n 2, 1) := do_61 (rdb (p := 128) (i := 28) ch_cX12_one_128 rfl)
theorem dX12_one_157 : decode cX12_one 157 = .ok (.aload_n 0, 1) := do_42 (rdb (p := 128) (i := 29) ch_cX12_one_128 rfl)
theorem dX12_one_158 : decode cX12_one 158 = .ok (.aload_n 0, 1) := do_42 (rdb (p := 128) (i := 30) ch_cX12_one_128 rfl)
theorem dX12_one_159 : decode cX12_one 159 = .ok (.getfield 151, 3) := do_180 (rdb (p := 128) (i := 31) ch_cX12_one_128 rfl) (rdb (p := 128) (i := 32) ch_cX12_one_128 rfl) (rdb (p := 128) (i := 33) ch_cX12_one_128 rfl) rfl
theorem ch_cX12_one_160 : (cX12_one.data.toList.drop 160).take 36 = [0, 151, 154, 0, 7, 28, 156, 0, 7, 4, 167, 0, 4, 3, 181, 0, 151, 42, 180, 0, 151, 154, 0, 32, 42, 17, 3, 232, 28, 96, 182, 0, 171, 42, 89, 180] := by decide +kernel
theorem dX12_one_162 : decode cX12_one 162 = .ok (.ifCond .ne 7, 3) := do_154 (rdb (p := 160) (i := 2) ch_cX12_one_160 rfl) (rdb (p := 160) (i := 3) ch_cX12_one_160 rfl) (rdb (p := 160) (i := 4) ch_cX12_one_160 rfl) (by decide +kernel)
theorem dX12_one_165 : decode cX12_one 165 = .ok (.iload_n 2, 1) := do_28 (rdb (p := 160) (i := 5) ch_cX12_one_160 rfl)
theorem dX12_one_166 : decode cX12_one 166 = .ok (.ifCond .ge 7, 3) := do_156 (rdb (p := 160) (i := 6) ch_cX12_one_160 rfl) (rdb (p := 160) (i := 7) ch_cX12_one_160 rfl) (rdb (p := 160) (i := 8) ch_cX12_one_160 rfl) (by decide +kernel)
theorem dX12_one_169 : decode cX12_one 169 = .ok (.iconst 1, 1) := do_4 (rdb (p := 160) (i := 9) ch_cX12_one_160 rfl)
theorem dX12_one_170 : decode cX12_one 170 = .ok (.goto 4, 3) := do_167 (rdb (p := 160) (i := 10) ch_cX12_one_160 rfl) (rdb (p := 160) (i := 11) ch_cX12_one_160 rfl) (rdb (p := 160) (i := 12) ch_cX12_one_160 rfl) (by decide +kernel)
theorem dX12_one_173 : decode cX12_one 173 = .ok (.iconst 0, 1) := do_3 (rdb (p := 160) (i := 13) ch_cX12_one_160 rfl)
theorem dX12_one_174 : decode cX12_one 174 = .ok (.putfield 151, 3) := do_181 (rdb (p := 160) (i := 14) ch_cX12_one_160 rfl) (rdb (p := 160) (i := 15) ch_cX12_one_160 rfl) (rdb (p := 160) (i := 16) ch_cX12_one_160 rfl) rfl
theorem dX12_one_177 : decode cX12_one 177 = .ok (.aload_n 0, 1) := do_42 (rdb (p := 160) (i := 17) ch_cX12_one_160 rfl)
theorem dX12_one_178 : decode cX12_one 178 = .ok (.getfield 151, 3) := do_180 (rdb (p := 160) (i := 18) ch_cX12_one_160 rfl) (rdb (p := 160) (i := 19) ch_cX12_one_160 rfl) (rdb (p := 160) (i := 20) ch_cX12_one_160 rfl) rfl
theorem dX12_one_181 : decode cX12_one 181 = .ok (.ifCond .ne 32, 3) := do_154 (rdb (p := 160) (i := 21) ch_cX12_one_160 rfl) (rdb (p := 160) (i := 22) ch_cX12_one_160 rfl) (rdb (p := 160) (i := 23) ch_cX12_one_160 rfl) (by decide +kernel)
theorem dX12_one_184 : decode cX12_one 184 = .ok (.aload_n 0, 1) := do_42 (rdb (p := 160) (i := 24) ch_cX12_one_160 rfl)
theorem dX12_one_185 : decode cX12_one 185 = .ok (.sipush 1000, 3) := do_17 (rdb (p := 160) (i := 25) ch_cX12_one_160 rfl) (rdb (p := 160) (i := 26) ch_cX12_one_160 rfl) (rdb (p := 160) (i := 27) ch_cX12_one_160 rfl) (by decide +kernel)
theorem dX12_one_188 : decode cX12_one 188 = .ok (.iload_n 2, 1) := do_28 (rdb (p := 160) (i := 28) ch_cX12_one_160 rfl)
theorem dX12_one_189 : decode cX12_one 189 = .ok (.iadd, 1) := do_96 (rdb (p := 160) (i := 29) ch_cX12_one_160 rfl)
theorem dX12_one_190 : decode cX12_one 190 = .ok (.invokevirtual 171, 3) := do_182 (rdb (p := 160) (i := 30) ch_cX12_one_160 rfl) (rdb (p := 160) (i := 31) ch_cX12_one_160 rfl) (rdb (p := 160) (i := 32) ch_cX12_one_160 rfl) rfl
theorem ch_cX12_one_192 : (cX12_one.data.toList.drop 192).take 36 = [171, 42, 89, 180, 0, 203, 4, 96, 181, 0, 203, 42, 89, 180, 0, 155, 4, 96, 181, 0, 155, 177] := by decide +kernel
theorem dX12_one_193 : decode cX12_one 193 = .ok (.aload_n 0, 1) := do_42 (rdb (p := 192) (i := 1) ch_cX12_one_192 rfl)
theorem dX12_one_194 : decode cX12_one 194 = .ok (.dup, 1) := do_89 (rdb (p := 192) (i := 2) ch_cX12_one_192 rfl)
theorem dX12_one_195 : decode cX12_one 195 = .ok (.getfield 203, 3) := do_180 (rdb (p := 192) (i := 3) ch_cX12_one_192 rfl) (rdb (p := 192) (i := 4) ch_cX12_one_192 rfl) (rdb (p := 192) (i := 5) ch_cX12_one_192 rfl) rfl
theorem dX12_one_198 : decode cX12_one 198 = .ok (.iconst 1, 1) := do_4 (rdb (p := 192) (i := 6) ch_cX12_one_192 rfl)
theorem dX12_one_199 : decode cX12_one 199 = .ok (.iadd, 1) := do_96 (rdb (p := 192) (i := 7) ch_cX12_one_192 rfl)
theorem dX12_one_200 : decode cX12_one 200 = .ok (.putfield 203, 3) := do_181 (rdb (p := 192) (i := 8) ch_cX12_one_192 rfl) (rdb (p := 192) (i := 9) ch_cX12_one_192 rfl) (rdb (p := 192) (i := 10) ch_cX12_one_192 rfl) rfl
theorem dX12_one_203 : decode cX12_one 203 = .ok (.aload_n 0, 1) := do_42 (rdb (p := 192) (i := 11) ch_cX12_one_192 rfl)
theorem dX12_one_204 : decode cX12_one 204 = .ok (.dup, 1) := do_89 (rdb (p := 192) (i := 12) ch_cX12_one_192 rfl)
theorem dX12_one_205 : decode cX12_one 205 = .ok (.getfield 155, 3) := do_180 (rdb (p := 192) (i := 13) ch_cX12_one_192 rfl) (rdb (p := 192) (i := 14) ch_cX12_one_192 rfl) (rdb (p := 192) (i := 15) ch_cX12_one_192 rfl) rfl
theorem dX12_one_208 : decode cX12_one 208 = .ok (.iconst 1, 1) := do_4 (rdb (p := 192) (i := 16) ch_cX12_one_192 rfl)
theorem dX12_one_209 : decode cX12_one 209 = .ok (.iadd, 1) := do_96 (rdb (p := 192) (i := 17) ch_cX12_one_192 rfl)
theorem dX12_one_210 : decode cX12_one 210 = .ok (.putfield 155, 3) := do_181 (rdb (p := 192) (i := 18) ch_cX12_one_192 rfl) (rdb (p := 192) (i := 19) ch_cX12_one_192 rfl) (rdb (p := 192) (i := 20) ch_cX12_one_192 rfl) rfl
theorem dX12_one_213 : decode cX12_one 213 = .ok (.return_, 1) := do_177 (rdb (p := 192) (i := 21) ch_cX12_one_192 rfl)
theorem ch_cX12_opens_0 : (cX12_opens.data.toList.drop 0).take 36 = [42, 42, 180, 0, 191, 8, 160, 0, 7, 4, 167, 0, 4, 3, 181, 0, 151, 42, 180, 0, 151, 153, 0, 4, 177, 42, 89, 180, 0, 191, 4, 96, 181, 0, 191, 42] := by decide +kernel
theorem dX12_opens_0 : decode cX12_opens 0 = .ok (.aload_n 0, 1) := do_42 (rdb (p := 0) (i := 0) ch_cX12_opens_0 rfl)
theorem dX12_opens_1 : decode cX12_opens 1 = .ok (.aload_n 0, 1) := do_42 (rdb (p := 0) (i := 1) ch_cX12_opens_0 rfl)
theorem dX12_opens_2 : decode cX12_opens 2 = .ok (.getfield 191, 3) := do_180 (rdb (p := 0) (i := 2) ch_cX12_opens_0 rfl) (rdb (p := 0) (i := 3) ch_cX12_opens_0 rfl) (rdb (p := 0) (i := 4) ch_cX12_opens_0 rfl) rfl
theorem dX12_opens_5 : decode cX12_opens 5 = .ok (.iconst 5, 1) := do_8 (rdb (p := 0) (i := 5) ch_cX12_opens_0 rfl)
theorem dX12_opens_6 : decode cX12_opens 6 = .ok (.if_icmp .ne 7, 3) := do_160 (rdb (p := 0) (i := 6) ch_cX12_opens_0 rfl) (rdb (p := 0) (i := 7) ch_cX12_opens_0 rfl) (rdb (p := 0) (i := 8) ch_cX12_opens_0 rfl) (by decide +kernel)
theorem dX12_opens_9 : decode cX12_opens 9 = .ok (.iconst 1, 1) := do_4 (rdb (p := 0) (i := 9) ch_cX12_opens_0 rfl)
theorem dX12_opens_10 : decode cX12_opens 10 = .ok (.goto 4, 3) := do_167 (rdb (p := 0) (i := 10) ch_cX12_opens_0 rfl) (rdb (p := 0) (i := 11) ch_cX12_opens_0 rfl) (rdb (p := 0) (i := 12) ch_cX12_opens_0 rfl) (by decide +kernel)
theorem dX12_opens_13 : decode cX12_opens 13 = .ok (.iconst 0, 1) := do_3 (rdb (p := 0) (i := 13) ch_cX12_opens_0 rfl)
theorem dX12_opens_14 : decode cX12_opens 14 = .ok (.putfield 151, 3) := do_181 (rdb (p := 0) (i := 14) ch_cX12_opens_0 rfl) (rdb (p := 0) (i := 15) ch_cX12_opens_0 rfl) (rdb (p := 0) (i := 16) ch_cX12_opens_0 rfl) rfl
theorem dX12_opens_17 : decode cX12_opens 17 = .ok (.aload_n 0, 1) := do_42 (rdb (p := 0) (i := 17) ch_cX12_opens_0 rfl)
theorem dX12_opens_18 : decode cX12_opens 18 = .ok (.getfield 151, 3) := do_180 (rdb (p := 0) (i := 18) ch_cX12_opens_0 rfl) (rdb (p := 0) (i := 19) ch_cX12_opens_0 rfl) (rdb (p := 0) (i := 20) ch_cX12_opens_0 rfl) rfl
theorem dX12_opens_21 : decode cX12_opens 21 = .ok (.ifCond .eq 4, 3) := do_153 (rdb (p := 0) (i := 21) ch_cX12_opens_0 rfl) (rdb (p := 0) (i := 22) ch_cX12_opens_0 rfl) (rdb (p := 0) (i := 23) ch_cX12_opens_0 rfl) (by decide +kernel)
theorem dX12_opens_24 : decode cX12_opens 24 = .ok (.return_, 1) := do_177 (rdb (p := 0) (i := 24) ch_cX12_opens_0 rfl)
theorem dX12_opens_25 : decode cX12_opens 25 = .ok (.aload_n 0, 1) := do_42 (rdb (p := 0) (i := 25) ch_cX12_opens_0 rfl)
theorem dX12_opens_26 : decode cX12_opens 26 = .ok (.dup, 1) := do_89 (rdb (p := 0) (i := 26) ch_cX12_opens_0 rfl)
theorem dX12_opens_27 : decode cX12_opens 27 = .ok (.getfield 191, 3) := do_180 (rdb (p := 0) (i := 27) ch_cX12_opens_0 rfl) (rdb (p := 0) (i := 28) ch_cX12_opens_0 rfl) (rdb (p := 0) (i := 29) ch_cX12_opens_0 rfl) rfl
theorem dX12_opens_30 : decode cX12_opens 30 = .ok (.iconst 1, 1) := do_4 (rdb (p := 0) (i := 30) ch_cX12_opens_0 rfl)
theorem dX12_opens_31 : decode cX12_opens 31 = .ok (.iadd, 1) := do_96 (rdb (p := 0) (i := 31) ch_cX12_opens_0 rfl)
theorem ch_cX12_opens_32 : (cX12_opens.data.toList.drop 32).take 36 = [181, 0, 191, 42, 89, 180, 0, 155, 4, 96, 181, 0, 155, 27, 16, 45, 160, 0, 17, 42, 182, 0, 178, 42, 17, 7, 216, 182, 0, 171, 167, 0, 59, 27, 16, 40] := by decide +kernel
theorem dX12_opens_32 : decode cX12_opens 32 = .ok (.putfield 191, 3) := do_181 (rdb (p := 32) (i := 0) ch_cX12_opens_32 rfl) (rdb (p := 32) (i := 1) ch_cX12_opens_32 rfl) (rdb (p := 32) (i := 2) ch_cX12_opens_32 rfl) rfl
theorem dX12_opens_35 : decode cX12_opens 35 = .ok (.aload_n 0, 1) := do_42 (rdb (p := 32) (i := 3) ch_cX12_opens_32 rfl)
theorem dX12_opens_36 : decode cX12_opens 36 = .ok (.dup, 1) := do_89 (rdb (p := 32) (i := 4) ch_cX12_opens_32 rfl)
theorem dX12_opens_37 : decode cX12_opens 37 = .ok (.getfield 155, 3) := do_180 (rdb (p := 32) (i := 5) ch_cX12_opens_32 rfl) (rdb (p := 32) (i := 6) ch_cX12_opens_32 rfl) (rdb (p := 32) (i := 7) ch_cX12_opens_32 rfl) rfl
theorem dX12_opens_40 : decode cX12_opens 40 = .ok (.iconst 1, 1) := do_4 (rdb (p := 32) (i := 8) ch_cX12_opens_32 rfl)
theorem dX12_opens_41 : decode cX12_opens 41 = .ok (.iadd, 1) := do_96 (rdb (p := 32) (i := 9) ch_cX12_opens_32 rfl)
theorem dX12_opens_42 : decode cX12_opens 42 = .ok (.putfield 155, 3) := do_181 (rdb (p := 32) (i := 10) ch_cX12_opens_32 rfl) (rdb (p := 32) (i := 11) ch_cX12_opens_32 rfl) (rdb (p := 32) (i := 12) ch_cX12_opens_32 rfl) rfl
theorem dX12_opens_45 : decode cX12_opens 45 = .ok (.iload_n 1, 1) := do_27 (rdb (p := 32) (i := 13) ch_cX12_opens_32 rfl)
theorem dX12_opens_46 : decode cX12_opens 46 = .ok (.bipush 45, 2) := do_16 (rdb (p := 32) (i := 14) ch_cX12_opens_32 rfl) (rdb (p := 32) (i := 15) ch_cX12_opens_32 rfl) (by decide +kernel)
theorem dX12_opens_48 : decode cX12_opens 48 = .ok (.if_icmp .ne 17, 3) := do_160 (rdb (p := 32) (i := 16) ch_cX12_opens_32 rfl) (rdb (p := 32) (i := 17) ch_cX12_opens_32 rfl) (rdb (p := 32) (i := 18) ch_cX12_opens_32 rfl) (by decide +kernel)
theorem dX12_opens_51 : decode cX12_opens 51 = .ok (.aload_n 0, 1) := do_42 (rdb (p := 32) (i := 19) ch_cX12_opens_32 rfl)
theorem dX12_opens_52 : decode cX12_opens 52 = .ok (.invokevirtual 178, 3) := do_182 (rdb (p := 32) (i := 20) ch_cX12_opens_32 rfl) (rdb (p := 32) (i := 21) ch_cX12_opens_32 rfl) (rdb (p := 32) (i := 22) ch_cX12_opens_32 rfl) rfl
theorem dX12_opens_55 : decode cX12_opens 55 = .ok (.aload_n 0, 1) := do_42 (rdb (p := 32) (i := 23) ch_cX12_opens_32 rfl)
theorem dX12_opens_56 : decode cX12_opens 56 = .ok (.sipush 2008, 3) := do_17 (rdb (p := 32) (i := 24) ch_cX12_opens_32 rfl) (rdb (p := 32) (i := 25) ch_cX12_opens_32 rfl) (rdb (p := 32) (i := 26) ch_cX12_opens_32 rfl) (by decide +kernel)
theorem dX12_opens_59 : decode cX12_opens 59 = .ok (.invokevirtual 171, 3) := do_182 (rdb (p := 32) (i := 27) ch_cX12_opens_32 rfl) (rdb (p := 32) (i := 28) ch_cX12_opens_32 rfl) (rdb (p := 32) (i := 29) ch_cX12_opens_32 rfl) rfl
theorem dX12_opens_62 : decode cX12_opens 62 = .ok (.goto 59, 3) := do_167 (rdb (p := 32) (i := 30) ch_cX12_opens_32 rfl) (rdb (p := 32) (i := 31) ch_cX12_opens_32 rfl) (rdb (p := 32) (i := 32) ch_cX12_opens_32 rfl) (by decide +kernel)
theorem ch_cX12_opens_64 : (cX12_opens.data.toList.drop 64).take 36 = [59, 27, 16, 40, 160, 0, 16, 42, 182, 0, 194, 42, 16, 41, 182, 0, 197, 167, 0, 40, 42, 182, 0, 194, 42, 16, 63, 182, 0, 197, 42, 182, 0, 194, 42, 16] := by decide +kernel
theorem dX12_opens_65 : decode cX12_opens 65 = .ok (.iload_n 1, 1) := do_27 (rdb (p := 64) (i := 1) ch_cX12_opens_64 rfl)
theorem dX12_opens_66 : decode cX12_opens 66 = .ok (.bipush 40, 2) := do_16 (rdb (p := 64) (i := 2) ch_cX12_opens_64 rfl) (rdb (p := 64) (i := 3) ch_cX12_opens_64 rfl) (by decide +kernel)
theorem dX12_opens_68 : decode cX12_opens 68 = .ok (.if_icmp .ne 16, 3) := do_160 (rdb (p := 64) (i := 4) ch_cX12_opens_64 rfl) (rdb (p := 64) (i := 5) ch_cX12_opens_64 rfl) (rdb (p := 64) (i := 6) ch_cX12_opens_64 rfl) (by decide +kernel)
theorem dX12_opens_71 : decode cX12_opens 71 = .ok (.aload_n 0, 1) := do_42 (rdb (p := 64) (i := 7) ch_cX12_opens_64 rfl)
theorem dX12_opens_72 : decode cX12_opens 72 = .ok (.invokevirtual 194, 3) := do_182 (rdb (p := 64) (i := 8) ch_cX12_opens_64 rfl) (rdb (p := 64) (i := 9) ch_cX12_opens_64 rfl) (rdb (p := 64) (i := 10) ch_cX12_opens_64 rfl) rfl
theorem dX12_opens_75 : decode cX12_opens 75 = .ok (.aload_n 0, 1) := do_42 (rdb (p := 64) (i := 11) ch_cX12_opens_64 rfl)
theorem dX12_opens_76 : decode cX12_opens 76 = .ok (.bipush 41, 2) := do_16 (rdb (p := 64) (i := 12) ch_cX12_opens_64 rfl) (rdb (p := 64) (i := 13) ch_cX12_opens_64 rfl) (by decide +kernel)
theorem dX12_opens_78 : decode cX12_opens 78 = .ok (.invokevirtual 197, 3) := do_182 (rdb (p := 64) (i := 14) ch_cX12_opens_64 rfl) (rdb (p := 64) (i := 15) ch_cX12_opens_64 rfl) (rdb (p := 64) (i := 16) ch_cX12_opens_64 rfl) rfl
theorem dX12_opens_81 : decode cX12_opens 81 = .ok (.goto 40, 3) := do_167 (rdb (p := 64) (i := 17) ch_cX12_opens_64 rfl) (rdb (p := 64) (i := 18) ch_cX12_opens_64 rfl) (rdb (p := 64) (i := 19) ch_cX12_opens_64 rfl) (by decide +kernel)
theorem dX12_opens_84 : decode cX12_opens 84 = .ok (.aload_n 0, 1) := do_42 (rdb (p := 64) (i := 20) ch_cX12_opens_64 rfl)
theorem dX12_opens_85 : decode cX12_opens 85 = .ok (.invokevirtual 194, 3) := do_182 (rdb (p := 64) (i := 21) ch_cX12_opens_64 rfl) (rdb (p := 64) (i := 22) ch_cX12_opens_64 rfl) (rdb (p := 64) (i := 23) ch_cX12_opens_64 rfl) rfl
theorem dX12_opens_88 : decode cX12_opens 88 = .ok (.aload_n 0, 1) := do_42 (rdb (p := 64) (i := 24) ch_cX12_opens_64 rfl)
theorem dX12_opens_89 : decode cX12_opens 89 = .ok (.bipush 63, 2) := do_16 (rdb (p := 64) (i := 25) ch_cX12_opens_64 rfl) (rdb (p := 64) (i := 26) ch_cX12_opens_64 rfl) (by decide +kernel)
theorem dX12_opens_91 : decode cX12_opens 91 = .ok (.invokevirtual 197, 3) := do_182 (rdb (p := 64) (i := 27) ch_cX12_opens_64 rfl) (rdb (p := 64) (i := 28) ch_cX12_opens_64 rfl) (rdb (p := 64) (i := 29) ch_cX12_opens_64 rfl) rfl
theorem dX12_opens_94 : decode cX12_opens 94 = .ok (.aload_n 0, 1) := do_42 (rdb (p := 64) (i := 30) ch_cX12_opens_64 rfl)
theorem dX12_opens_95 : decode cX12_opens 95 = .ok (.invokevirtual 194, 3) := do_182 (rdb (p := 64) (i := 31) ch_cX12_opens_64 rfl) (rdb (p := 64) (i := 32) ch_cX12_opens_64 rfl) (rdb (p := 64) (i := 33) ch_cX12_opens_64 rfl) rfl
theorem ch_cX12_opens_96 : (cX12_opens.data.toList.drop 96).take 36 = [0, 194, 42, 16, 58, 182, 0, 197, 42, 182, 0, 194, 42, 16, 93, 182, 0, 197, 42, 17, 7, 217, 182, 0, 171, 42, 89, 180, 0, 191, 4, 100, 181, 0, 191, 177] := by decide +kernel
theorem dX12_opens_98 : decode cX12_opens 98 = .ok (.aload_n 0, 1) := do_42 (rdb (p := 96) (i := 2) ch_cX12_opens_96 rfl)
theorem dX12_opens_99 : decode cX12_opens 99 = .ok (.bipush 58, 2) := do_16 (rdb (p := 96) (i := 3) ch_cX12_opens_96 rfl) (rdb (p := 96) (i := 4) ch_cX12_opens_96 rfl) (by decide +kernel)
theorem dX12_opens_101 : decode cX12_opens 101 = .ok (.invokevirtual 197, 3) := do_182 (rdb (p := 96) (i := 5) ch_cX12_opens_96 rfl) (rdb (p := 96) (i := 6) ch_cX12_opens_96 rfl) (rdb (p := 96) (i := 7) ch_cX12_opens_96 rfl) rfl
theorem dX12_opens_104 : decode cX12_opens 104 = .ok (.aload_n 0, 1) := do_42 (rdb (p := 96) (i := 8) ch_cX12_opens_96 rfl)
theorem dX12_opens_105 : decode cX12_opens 105 = .ok (.invokevirtual 194, 3) := do_182 (rdb (p := 96) (i := 9) ch_cX12_opens_96 rfl) (rdb (p := 96) (i := 10) ch_cX12_opens_96 rfl) (rdb (p := 96) (i := 11) ch_cX12_opens_96 rfl) rfl
theorem dX12_opens_108 : decode cX12_opens 108 = .ok (.aload_n 0, 1) := do_42 (rdb (p := 96) (i := 12) ch_cX12_opens_96 rfl)
theorem dX12_opens_109 : decode cX12_opens 109 = .ok (.bipush 93, 2) := do_16 (rdb (p := 96) (i := 13) ch_cX12_opens_96 rfl) (rdb (p := 96) (i := 14) ch_cX12_opens_96 rfl) (by decide +kernel)
theorem dX12_opens_111 : decode cX12_opens 111 = .ok (.invokevirtual 197, 3) := do_182 (rdb (p := 96) (i := 15) ch_cX12_opens_96 rfl) (rdb (p := 96) (i := 16) ch_cX12_opens_96 rfl) (rdb (p := 96) (i := 17) ch_cX12_opens_96 rfl) rfl
theorem dX12_opens_114 : decode cX12_opens 114 = .ok (.aload_n 0, 1) := do_42 (rdb (p := 96) (i := 18) ch_cX12_opens_96 rfl)
theorem dX12_opens_115 : decode cX12_opens 115 = .ok (.sipush 2009, 3) := do_17 (rdb (p := 96) (i := 19) ch_cX12_opens_96 rfl) (rdb (p := 96) (i := 20) ch_cX12_opens_96 rfl) (rdb (p := 96) (i := 21) ch_cX12_opens_96 rfl) (by decide +kernel)
theorem dX12_opens_118 : decode cX12_opens 118 = .ok (.invokevirtual 171, 3) := do_182 (rdb (p := 96) (i := 22) ch_cX12_opens_96 rfl) (rdb (p := 96) (i := 23) ch_cX12_opens_96 rfl) (rdb (p := 96) (i := 24) ch_cX12_opens_96 rfl) rfl
theorem dX12_opens_121 : decode cX12_opens 121 = .ok (.aload_n 0, 1) := do_42 (rdb (p := 96) (i := 25) ch_cX12_opens_96 rfl)
theorem dX12_opens_122 : decode cX12_opens 122 = .ok (.dup, 1) := do_89 (rdb (p := 96) (i := 26) ch_cX12_opens_96 rfl)
theorem dX12_opens_123 : decode cX12_opens 123 = .ok (.getfield 191, 3) := do_180 (rdb (p := 96) (i := 27) ch_cX12_opens_96 rfl) (rdb (p := 96) (i := 28) ch_cX12_opens_96 rfl) (rdb (p := 96) (i := 29) ch_cX12_opens_96 rfl) rfl
theorem dX12_opens_126 : decode cX12_opens 126 = .ok (.iconst 1, 1) := do_4 (rdb (p := 96) (i := 30) ch_cX12_opens_96 rfl)
theorem dX12_opens_127 : decode cX12_opens 127 = .ok (.isub, 1) := do_100 (rdb (p := 96) (i := 31) ch_cX12_opens_96 rfl)
theorem ch_cX12_opens_128 : (cX12_opens.data.toList.drop 128).take 36 = [181, 0, 191, 177] := by decide +kernel
theorem dX12_opens_128 : decode cX12_opens 128 = .ok (.putfield 191, 3) := do_181 (rdb (p := 128) (i := 0) ch_cX12_opens_128 rfl) (rdb (p := 128) (i := 1) ch_cX12_opens_128 rfl) (rdb (p := 128) (i := 2) ch_cX12_opens_128 rfl) rfl
theorem dX12_opens_131 : decode cX12_opens 131 = .ok (.return_, 1) := do_177 (rdb (p := 128) (i := 3) ch_cX12_opens_128 rfl)
theorem ch_cX12_sum_0 : (cX12_sum.data.toList.drop 0).take 36 = [42, 182, 0, 175, 42, 16, 43, 182, 0, 165, 153, 0, 9, 17, 7, 211, 167, 0, 19, 42, 16, 45, 182, 0, 165, 153, 0, 9, 17, 7, 212, 167, 0, 4, 3, 60] := by decide +kernel
theorem dX12_sum_0 : decode cX12_sum 0 = .ok (.aload_n 0, 1) := do_42 (rdb (p := 0) (i := 0) ch_cX12_sum_0 rfl)
theorem dX12_sum_1 : decode cX12_sum 1 = .ok (.invokevirtual 175, 3) := do_182 (rdb (p := 0) (i := 1) ch_cX12_sum_0 rfl) (rdb (p := 0) (i := 2) ch_cX12_sum_0 rfl) (rdb (p := 0) (i := 3) ch_cX12_sum_0 rfl) rfl
theorem dX12_sum_4 : decode cX12_sum 4 = .ok (.aload_n 0, 1) := do_42 (rdb (p := 0) (i := 4) ch_cX12_sum_0 rfl)
theorem dX12_sum_5 : decode cX12_sum 5 = .ok (.bipush 43, 2) := do_16 (rdb (p := 0) (i := 5) ch_cX12_sum_0 rfl) (rdb (p := 0) (i := 6) ch_cX12_sum_0 rfl) (by decide +kernel)
theorem dX12_sum_7 : decode cX12_sum 7 = .ok (.invokevirtual 165, 3) := do_182 (rdb (p := 0) (i := 7) ch_cX12_sum_0 rfl) (rdb (p := 0) (i := 8) ch_cX12_sum_0 rfl) (rdb (p := 0) (i := 9) ch_cX12_sum_0 rfl) rfl
theorem dX12_sum_10 : decode cX12_sum 10 = .ok (.ifCond .eq 9, 3) := do_153 (rdb (p := 0) (i := 10) ch_cX12_sum_0 rfl) (rdb (p := 0) (i := 11) ch_cX12_sum_0 rfl) (rdb (p := 0) (i := 12) ch_cX12_sum_0 rfl) (by decide +kernel)
theorem dX12_sum_13 : decode cX12_sum 13 = .ok (.sipush 2003, 3) := do_17 (rdb (p := 0) (i := 13) ch_cX12_sum_0 rfl) (rdb (p := 0) (i := 14) ch_cX12_sum_0 rfl) (rdb (p := 0) (i := 15) ch_cX12_sum_0 rfl) (by decide +kernel)
theorem dX12_sum_16 : decode cX12_sum 16 = .ok (.goto 19, 3) := do_167 (rdb (p := 0) (i := 16) ch_cX12_sum_0 rfl) (rdb (p := 0) (i := 17) ch_cX12_sum_0 rfl) (rdb (p := 0) (i := 18) ch_cX12_sum_0 rfl) (by decide +kernel)
theorem dX12_sum_19 : decode cX12_sum 19 = .ok (.aload_n 0, 1) := do_42 (rdb (p := 0) (i := 19) ch_cX12_sum_0 rfl)
theorem dX12_sum_20 : decode cX12_sum 20 = .ok (.bipush 45, 2) := do_16 (rdb (p := 0) (i := 20) ch_cX12_sum_0 rfl) (rdb (p := 0) (i := 21) ch_cX12_sum_0 rfl) (by decide +kernel)
theorem dX12_sum_22 : decode cX12_sum 22 = .ok (.invokevirtual 165, 3) := do_182 (rdb (p := 0) (i := 22) ch_cX12_sum_0 rfl) (rdb (p := 0) (i := 23) ch_cX12_sum_0 rfl) (rdb (p := 0) (i := 24) ch_cX12_sum_0 rfl) rfl
theorem dX12_sum_25 : decode cX12_sum 25 = .ok (.ifCond .eq 9, 3) := do_153 (rdb (p := 0) (i := 25) ch_cX12_sum_0 rfl) (rdb (p := 0) (i := 26) ch_cX12_sum_0 rfl) (rdb (p := 0) (i := 27) ch_cX12_sum_0 rfl) (by decide +kernel)
theorem dX12_sum_28 : decode cX12_sum 28 = .ok (.sipush 2004, 3) := do_17 (rdb (p := 0) (i := 28) ch_cX12_sum_0 rfl) (rdb (p := 0) (i := 29) ch_cX12_sum_0 rfl) (rdb (p := 0) (i := 30) ch_cX12_sum_0 rfl) (by decide +kernel)
theorem dX12_sum_31 : decode cX12_sum 31 = .ok (.goto 4, 3) := do_167 (rdb (p := 0) (i := 31) ch_cX12_sum_0 rfl) (rdb (p := 0) (i := 32) ch_cX12_sum_0 rfl) (rdb (p := 0) (i := 33) ch_cX12_sum_0 rfl) (by decide +kernel)
theorem ch_cX12_sum_32 : (cX12_sum.data.toList.drop 32).take 36 = [0, 4, 3, 60, 27, 158, 0, 47, 42, 182, 0, 175, 42, 27, 182, 0, 171, 42, 16, 43, 182, 0, 165, 153, 0, 9, 17, 7, 211, 167, 0, 19, 42, 16, 45, 182] := by decide +kernel
theorem dX12_sum_34 : decode cX12_sum 34 = .ok (.iconst 0, 1) := do_3 (rdb (p := 32) (i := 2) ch_cX12_sum_32 rfl)
theorem dX12_sum_35 : decode cX12_sum 35 = .ok (.istore_n 1, 1) := do_60 (rdb (p := 32) (i := 3) ch_cX12_sum_32 rfl)
theorem dX12_sum_36 : decode cX12_sum 36 = .ok (.iload_n 1, 1) := do_27 (rdb (p := 32) (i := 4) ch_cX12_sum_32 rfl)
theorem dX12_sum_37 : decode cX12_sum 37 = .ok (.ifCond .le 47, 3) := do_158 (rdb (p := 32) (i := 5) ch_cX12_sum_32 rfl) (rdb (p := 32) (i := 6) ch_cX12_sum_32 rfl) (rdb (p := 32) (i := 7) ch_cX12_sum_32 rfl) (by decide +kernel)
theorem dX12_sum_40 : decode cX12_sum 40 = .ok (.aload_n 0, 1) := do_42 (rdb (p := 32) (i := 8) ch_cX12_sum_32 rfl)
theorem dX12_sum_41 : decode cX12_sum 41 = .ok (.invokevirtual 175, 3) := do_182 (rdb (p := 32) (i := 9) ch_cX12_sum_32 rfl) (rdb (p := 32) (i := 10) ch_cX12_sum_32 rfl) (rdb (p := 32) (i := 11) ch_cX12_sum_32 rfl) rfl
theorem dX12_sum_44 : decode cX12_sum 44 = .ok (.aload_n 0, 1) := do_42 (rdb (p := 32) (i := 12) ch_cX12_sum_32 rfl)
theorem dX12_sum_45 : decode cX12_sum 45 = .ok (.iload_n 1, 1) := do_27 (rdb (p := 32) (i := 13) ch_cX12_sum_32 rfl)
theorem dX12_sum_46 : decode cX12_sum 46 = .ok (.invokevirtual 171, 3) := do_182 (rdb (p := 32) (i := 14) ch_cX12_sum_32 rfl) (rdb (p := 32) (i := 15) ch_cX12_sum_32 rfl) (rdb (p := 32) (i := 16) ch_cX12_sum_32 rfl) rfl
theorem dX12_sum_49 : decode cX12_sum 49 = .ok (.aload_n 0, 1) := do_42 (rdb (p := 32) (i := 17) ch_cX12_sum_32 rfl)
theorem dX12_sum_50 : decode cX12_sum 50 = .ok (.bipush 43, 2) := do_16 (rdb (p := 32) (i := 18) ch_cX12_sum_32 rfl) (rdb (p := 32) (i := 19) ch_cX12_sum_32 rfl) (by decide +kernel)
theorem dX12_sum_52 : decode cX12_sum 52 = .ok (.invokevirtual 165, 3) := do_182 (rdb (p := 32) (i := 20) ch_cX12_sum_32 rfl) (rdb (p := 32) (i := 21) ch_cX12_sum_32 rfl) (rdb (p := 32) (i := 22) ch_cX12_sum_32 rfl) rfl
theorem dX12_sum_55 : decode cX12_sum 55 = .ok (.ifCond .eq 9, 3) := do_153 (rdb (p := 32) (i := 23) ch_cX12_sum_32 rfl) (rdb (p := 32) (i := 24) ch_cX12_sum_32 rfl) (rdb (p := 32) (i := 25) ch_cX12_sum_32 rfl) (by decide +kernel)
theorem dX12_sum_58 : decode cX12_sum 58 = .ok (.sipush 2003, 3) := do_17 (rdb (p := 32) (i := 26) ch_cX12_sum_32 rfl) (rdb (p := 32) (i := 27) ch_cX12_sum_32 rfl) (rdb (p := 32) (i := 28) ch_cX12_sum_32 rfl) (by decide +kernel)
theorem dX12_sum_61 : decode cX12_sum 61 = .ok (.goto 19, 3) := do_167 (rdb (p := 32) (i := 29) ch_cX12_sum_32 rfl) (rdb (p := 32) (i := 30) ch_cX12_sum_32 rfl) (rdb (p := 32) (i := 31) ch_cX12_sum_32 rfl) (by decide +kernel)
theorem ch_cX12_sum_64 : (cX12_sum.data.toList.drop 64).take 36 = [42, 16, 45, 182, 0, 165, 153, 0, 9, 17, 7, 212, 167, 0, 4, 3, 60, 167, 255, 211, 177] := by decide +kernel
theorem dX12_sum_64 : decode cX12_sum 64 = .ok (.aload_n 0, 1) := do_42 (rdb (p := 64) (i := 0) ch_cX12_sum_64 rfl)
theorem dX12_sum_65 : decode cX12_sum 65 = .ok (.bipush 45, 2) := do_16 (rdb (p := 64) (i := 1) ch_cX12_sum_64 rfl) (rdb (p := 64) (i := 2) ch_cX12_sum_64 rfl) (by decide +kernel)
theorem dX12_sum_67 : decode cX12_sum 67 = .ok (.invokevirtual 165, 3) := do_182 (rdb (p := 64) (i := 3) ch_cX12_sum_64 rfl) (rdb (p := 64) (i := 4) ch_cX12_sum_64 rfl) (rdb (p := 64) (i := 5) ch_cX12_sum_64 rfl) rfl
theorem dX12_sum_70 : decode cX12_sum 70 = .ok (.ifCond .eq 9, 3) := do_153 (rdb (p := 64) (i := 6) ch_cX12_sum_64 rfl) (rdb (p := 64) (i := 7) ch_cX12_sum_64 rfl) (rdb (p := 64) (i := 8) ch_cX12_sum_64 rfl) (by decide +kernel)
theorem dX12_sum_73 : decode cX12_sum 73 = .ok (.sipush 2004, 3) := do_17 (rdb (p := 64) (i := 9) ch_cX12_sum_64 rfl) (rdb (p := 64) (i := 10) ch_cX12_sum_64 rfl) (rdb (p := 64) (i := 11) ch_cX12_sum_64 rfl) (by decide +kernel)
theorem dX12_sum_76 : decode cX12_sum 76 = .ok (.goto 4, 3) := do_167 (rdb (p := 64) (i := 12) ch_cX12_sum_64 rfl) (rdb (p := 64) (i := 13) ch_cX12_sum_64 rfl) (rdb (p := 64) (i := 14) ch_cX12_sum_64 rfl) (by decide +kernel)
theorem dX12_sum_79 : decode cX12_sum 79 = .ok (.iconst 0, 1) := do_3 (rdb (p := 64) (i := 15) ch_cX12_sum_64 rfl)
theorem dX12_sum_80 : decode cX12_sum 80 = .ok (.istore_n 1, 1) := do_60 (rdb (p := 64) (i := 16) ch_cX12_sum_64 rfl)
theorem dX12_sum_81 : decode cX12_sum 81 = .ok (.goto (-45), 3) := do_167 (rdb (p := 64) (i := 17) ch_cX12_sum_64 rfl) (rdb (p := 64) (i := 18) ch_cX12_sum_64 rfl) (rdb (p := 64) (i := 19) ch_cX12_sum_64 rfl) (by decide +kernel)
theorem dX12_sum_84 : decode cX12_sum 84 = .ok (.return_, 1) := do_177 (rdb (p := 64) (i := 20) ch_cX12_sum_64 rfl)
theorem ch_cX12_term_0 : (cX12_term.data.toList.drop 0).take 36 = [42, 182, 0, 178, 42, 16, 42, 182, 0, 165, 153, 0, 9, 17, 7, 213, 167, 0, 34, 42, 16, 47, 182, 0, 165, 153, 0, 9, 17, 7, 214, 167, 0, 19, 42, 16] := by decide +kernel
theorem dX12_term_0 : decode cX12_term 0 = .ok (.aload_n 0, 1) := do_42 (rdb (p := 0) (i := 0) ch_cX12_term_0 rfl)
theorem dX12_term_1 : decode cX12_term 1 = .ok (.invokevirtual 178, 3) := do_182 (rdb (p := 0) (i := 1) ch_cX12_term_0 rfl) (rdb (p := 0) (i := 2) ch_cX12_term_0 rfl) (rdb (p := 0) (i := 3) ch_cX12_term_0 rfl) rfl
theorem dX12_term_4 : decode cX12_term 4 = .ok (.aload_n 0, 1) := do_42 (rdb (p := 0) (i := 4) ch_cX12_term_0 rfl)
theorem dX12_term_5 : decode cX12_term 5 = .ok (.bipush 42, 2) := do_16 (rdb (p := 0) (i := 5) ch_cX12_term_0 rfl) (rdb (p := 0) (i := 6) ch_cX12_term_0 rfl) (by decide +kernel)
theorem dX12_term_7 : decode cX12_term 7 = .ok (.invokevirtual 165, 3) := do_182 (rdb (p := 0) (i := 7) ch_cX12_term_0 rfl) (rdb (p := 0) (i := 8) ch_cX12_term_0 rfl) (rdb (p := 0) (i := 9) ch_cX12_term_0 rfl) rfl
theorem dX12_term_10 : decode cX12_term 10 = .ok (.ifCond .eq 9, 3) := do_153 (rdb (p := 0) (i := 10) ch_cX12_term_0 rfl) (rdb (p := 0) (i := 11) ch_cX12_term_0 rfl) (rdb (p := 0) (i := 12) ch_cX12_term_0 rfl) (by decide +kernel)
theorem dX12_term_13 : decode cX12_term 13 = .ok (.sipush 2005, 3) := do_17 (rdb (p := 0) (i := 13) ch_cX12_term_0 rfl) (rdb (p := 0) (i := 14) ch_cX12_term_0 rfl) (rdb (p := 0) (i := 15) ch_cX12_term_0 rfl) (by decide +kernel)
theorem dX12_term_16 : decode cX12_term 16 = .ok (.goto 34, 3) := do_167 (rdb (p := 0) (i := 16) ch_cX12_term_0 rfl) (rdb (p := 0) (i := 17) ch_cX12_term_0 rfl) (rdb (p := 0) (i := 18) ch_cX12_term_0 rfl) (by decide +kernel)
theorem dX12_term_19 : decode cX12_term 19 = .ok (.aload_n 0, 1) := do_42 (rdb (p := 0) (i := 19) ch_cX12_term_0 rfl)
theorem dX12_term_20 : decode cX12_term 20 = .ok (.bipush 47, 2) := do_16 (rdb (p := 0) (i := 20) ch_cX12_term_0 rfl) (rdb (p := 0) (i := 21) ch_cX12_term_0 rfl) (by decide +kernel)
theorem dX12_term_22 : decode cX12_term 22 = .ok (.invokevirtual 165, 3) := do_182 (rdb (p := 0) (i := 22) ch_cX12_term_0 rfl) (rdb (p := 0) (i := 23) ch_cX12_term_0 rfl) (rdb (p := 0) (i := 24) ch_cX12_term_0 rfl) rfl
theorem dX12_term_25 : decode cX12_term 25 = .ok (.ifCond .eq 9, 3) := do_153 (rdb (p := 0) (i := 25) ch_cX12_term_0 rfl) (rdb (p := 0) (i := 26) ch_cX12_term_0 rfl) (rdb (p := 0) (i := 27) ch_cX12_term_0 rfl) (by decide +kernel)
theorem dX12_term_28 : decode cX12_term 28 = .ok (.sipush 2006, 3) := do_17 (rdb (p := 0) (i := 28) ch_cX12_term_0 rfl) (rdb (p := 0) (i := 29) ch_cX12_term_0 rfl) (rdb (p := 0) (i := 30) ch_cX12_term_0 rfl) (by decide +kernel)
theorem dX12_term_31 : decode cX12_term 31 = .ok (.goto 19, 3) := do_167 (rdb (p := 0) (i := 31) ch_cX12_term_0 rfl) (rdb (p := 0) (i := 32) ch_cX12_term_0 rfl) (rdb (p := 0) (i := 33) ch_cX12_term_0 rfl) (by decide +kernel)
theorem ch_cX12_term_32 : (cX12_term.data.toList.drop 32).take 36 = [0, 19, 42, 16, 37, 182, 0, 165, 153, 0, 9, 17, 7, 215, 167, 0, 4, 3, 60, 27, 158, 0, 62, 42, 182, 0, 178, 42, 27, 182, 0, 171, 42, 16, 42, 182] := by decide +kernel
theorem dX12_term_34 : decode cX12_term 34 = .ok (.aload_n 0, 1) := do_42 (rdb (p := 32) (i := 2) ch_cX12_term_32 rfl)
theorem dX12_term_35 : decode cX12_term 35 = .ok (.bipush 37, 2) := do_16 (rdb (p := 32) (i := 3) ch_cX12_term_32 rfl) (rdb (p := 32) (i := 4) ch_cX12_term_32 rfl) (by decide +kernel)
theorem dX12_term_37 : decode cX12_term 37 = .ok (.invokevirtual 165, 3) := do_182 (rdb (p := 32) (i := 5) ch_cX12_term_32 rfl) (rdb (p := 32) (i := 6) ch_cX12_term_32 rfl) (rdb (p := 32) (i := 7) ch_cX12_term_32 rfl) rfl
theorem dX12_term_40 : decode cX12_term 40 = .ok (.ifCond .eq 9, 3) := do_153 (rdb (p := 32) (i := 8) ch_cX12_term_32 rfl) (rdb (p := 32) (i := 9) ch_cX12_term_32 rfl) (rdb (p := 32) (i := 10) ch_cX12_term_32 rfl) (by decide +kernel)
theorem dX12_term_43 : decode cX12_term 43 = .ok (.sipush 2007, 3) := do_17 (rdb (p := 32) (i := 11) ch_cX12_term_32 rfl) (rdb (p := 32) (i := 12) ch_cX12_term_32 rfl) (rdb (p := 32) (i := 13) ch_cX12_term_32 rfl) (by decide +kernel)
theorem dX12_term_46 : decode cX12_term 46 = .ok (.goto 4, 3) := do_167 (rdb (p := 32) (i := 14) ch_cX12_term_32 rfl) (rdb (p := 32) (i := 15) ch_cX12_term_32 rfl) (rdb (p := 32) (i := 16) ch_cX12_term_32 rfl) (by decide +kernel)
theorem dX12_term_49 : decode cX12_term 49 = .ok (.iconst 0, 1) := do_3 (rdb (p := 32) (i := 17) ch_cX12_term_32 rfl)
theorem dX12_term_50 : decode cX12_term 50 = .ok (.istore_n 1, 1) := do_60 (rdb (p := 32) (i := 18) ch_cX12_term_32 rfl)
theorem dX12_term_51 : decode cX12_term 51 = .ok (.iload_n 1, 1) := do_27 (rdb (p := 32) (i := 19) ch_cX12_term_32 rfl)
theorem dX12_term_52 : decode cX12_term 52 = .ok (.ifCond .le 62, 3) := do_158 (rdb (p := 32) (i := 20) ch_cX12_term_32 rfl) (rdb (p := 32) (i := 21) ch_cX12_term_32 rfl) (rdb (p := 32) (i := 22) ch_cX12_term_32 rfl) (by decide +kernel)
theorem dX12_term_55 : decode cX12_term 55 = .ok (.aload_n 0, 1) := do_42 (rdb (p := 32) (i := 23) ch_cX12_term_32 rfl)
theorem dX12_term_56 : decode cX12_term 56 = .ok (.invokevirtual 178, 3) := do_182 (rdb (p := 32) (i := 24) ch_cX12_term_32 rfl) (rdb (p := 32) (i := 25) ch_cX12_term_32 rfl) (rdb (p := 32) (i := 26) ch_cX12_term_32 rfl) rfl
theorem dX12_term_59 : decode cX12_term 59 = .ok (.aload_n 0, 1) := do_42 (rdb (p := 32) (i := 27) ch_cX12_term_32 rfl)
theorem dX12_term_60 : decode cX12_term 60 = .ok (.iload_n 1, 1) := do_27 (rdb (p := 32) (i := 28) ch_cX12_term_32 rfl)
theorem dX12_term_61 : decode cX12_term 61 = .ok (.invokevirtual 171, 3) := do_182 (rdb (p := 32) (i := 29) ch_cX12_term_32 rfl) (rdb (p := 32) (i := 30) ch_cX12_term_32 rfl) (rdb (p := 32) (i := 31) ch_cX12_term_32 rfl) rfl
theorem ch_cX12_term_64 : (cX12_term.data.toList.drop 64).take 36 = [42, 16, 42, 182, 0, 165, 153, 0, 9, 17, 7, 213, 167, 0, 34, 42, 16, 47, 182, 0, 165, 153, 0, 9, 17, 7, 214, 167, 0, 19, 42, 16, 37, 182, 0, 165] := by decide +kernel
theorem dX12_term_64 : decode cX12_term 64 = .ok (.aload_n 0, 1) := do_42 (rdb (p := 64) (i := 0) ch_cX12_term_64 rfl)
theorem dX12_term_65 : decode cX12_term 65 = .ok (.bipush 42, 2) := do_16 (rdb (p := 64) (i := 1) ch_cX12_term_64 rfl) (rdb (p := 64) (i := 2) ch_cX12_term_64 rfl) (by decide +kernel)
theorem dX12_term_67 : decode cX12_term 67 = .ok (.invokevirtual 165, 3) := do_182 (rdb (p := 64) (i := 3) ch_cX12_term_64 rfl) (rdb (p := 64) (i := 4) ch_cX12_term_64 rfl) (rdb (p := 64) (i := 5) ch_cX12_term_64 rfl) rfl
theorem dX12_term_70 : decode cX12_term 70 = .ok (.ifCond .eq 9, 3) := do_153 (rdb (p := 64) (i := 6) ch_cX12_term_64 rfl) (rdb (p := 64) (i := 7) ch_cX12_term_64 rfl) (rdb (p := 64) (i := 8) ch_cX12_term_64 rfl) (by decide +kernel)
theorem dX12_term_73 : decode cX12_term 73 = .ok (.sipush 2005, 3) := do_17 (rdb (p := 64) (i := 9) ch_cX12_term_64 rfl) (rdb (p := 64) (i := 10) ch_cX12_term_64 rfl) (rdb (p := 64) (i := 11) ch_cX12_term_64 rfl) (by decide +kernel)
theorem dX12_term_76 : decode cX12_term 76 = .ok (.goto 34, 3) := do_167 (rdb (p := 64) (i := 12) ch_cX12_term_64 rfl) (rdb (p := 64) (i := 13) ch_cX12_term_64 rfl) (rdb (p := 64) (i := 14) ch_cX12_term_64 rfl) (by decide +kernel)
theorem dX12_term_79 : decode cX12_term 79 = .ok (.aload_n 0, 1) := do_42 (rdb (p := 64) (i := 15) ch_cX12_term_64 rfl)
theorem dX12_term_80 : decode cX12_term 80 = .ok (.bipush 47, 2) := do_16 (rdb (p := 64) (i := 16) ch_cX12_term_64 rfl) (rdb (p := 64) (i := 17) ch_cX12_term_64 rfl) (by decide +kernel)
theorem dX12_term_82 : decode cX12_term 82 = .ok (.invokevirtual 165, 3) := do_182 (rdb (p := 64) (i := 18) ch_cX12_term_64 rfl) (rdb (p := 64) (i := 19) ch_cX12_term_64 rfl) (rdb (p := 64) (i := 20) ch_cX12_term_64 rfl) rfl
theorem dX12_term_85 : decode cX12_term 85 = .ok (.ifCond .eq 9, 3) := do_153 (rdb (p := 64) (i := 21) ch_cX12_term_64 rfl) (rdb (p := 64) (i := 22) ch_cX12_term_64 rfl) (rdb (p := 64) (i := 23) ch_cX12_term_64 rfl) (by decide +kernel)
theorem dX12_term_88 : decode cX12_term 88 = .ok (.sipush 2006, 3) := do_17 (rdb (p := 64) (i := 24) ch_cX12_term_64 rfl) (rdb (p := 64) (i := 25) ch_cX12_term_64 rfl) (rdb (p := 64) (i := 26) ch_cX12_term_64 rfl) (by decide +kernel)
theorem dX12_term_91 : decode cX12_term 91 = .ok (.goto 19, 3) := do_167 (rdb (p := 64) (i := 27) ch_cX12_term_64 rfl) (rdb (p := 64) (i := 28) ch_cX12_term_64 rfl) (rdb (p := 64) (i := 29) ch_cX12_term_64 rfl) (by decide +kernel)
theorem dX12_term_94 : decode cX12_term 94 = .ok (.aload_n 0, 1) := do_42 (rdb (p := 64) (i := 30) ch_cX12_term_64 rfl)
theorem dX12_term_95 : decode cX12_term 95 = .ok (.bipush 37, 2) := do_16 (rdb (p := 64) (i := 31) ch_cX12_term_64 rfl) (rdb (p := 64) (i := 32) ch_cX12_term_64 rfl) (by decide +kernel)
theorem ch_cX12_term_96 : (cX12_term.data.toList.drop 96).take 36 = [37, 182, 0, 165, 153, 0, 9, 17, 7, 215, 167, 0, 4, 3, 60, 167, 255, 196, 177] := by decide +kernel
theorem dX12_term_97 : decode cX12_term 97 = .ok (.invokevirtual 165, 3) := do_182 (rdb (p := 96) (i := 1) ch_cX12_term_96 rfl) (rdb (p := 96) (i := 2) ch_cX12_term_96 rfl) (rdb (p := 96) (i := 3) ch_cX12_term_96 rfl) rfl
theorem dX12_term_100 : decode cX12_term 100 = .ok (.ifCond .eq 9, 3) := do_153 (rdb (p := 96) (i := 4) ch_cX12_term_96 rfl) (rdb (p := 96) (i := 5) ch_cX12_term_96 rfl) (rdb (p := 96) (i := 6) ch_cX12_term_96 rfl) (by decide +kernel)
theorem dX12_term_103 : decode cX12_term 103 = .ok (.sipush 2007, 3) := do_17 (rdb (p := 96) (i := 7) ch_cX12_term_96 rfl) (rdb (p := 96) (i := 8) ch_cX12_term_96 rfl) (rdb (p := 96) (i := 9) ch_cX12_term_96 rfl) (by decide +kernel)
theorem dX12_term_106 : decode cX12_term 106 = .ok (.goto 4, 3) := do_167 (rdb (p := 96) (i := 10) ch_cX12_term_96 rfl) (rdb (p := 96) (i := 11) ch_cX12_term_96 rfl) (rdb (p := 96) (i := 12) ch_cX12_term_96 rfl) (by decide +kernel)
theorem dX12_term_109 : decode cX12_term 109 = .ok (.iconst 0, 1) := do_3 (rdb (p := 96) (i := 13) ch_cX12_term_96 rfl)
theorem dX12_term_110 : decode cX12_term 110 = .ok (.istore_n 1, 1) := do_60 (rdb (p := 96) (i := 14) ch_cX12_term_96 rfl)
theorem dX12_term_111 : decode cX12_term 111 = .ok (.goto (-60), 3) := do_167 (rdb (p := 96) (i := 15) ch_cX12_term_96 rfl) (rdb (p := 96) (i := 16) ch_cX12_term_96 rfl) (rdb (p := 96) (i := 17) ch_cX12_term_96 rfl) (by decide +kernel)
theorem dX12_term_114 : decode cX12_term 114 = .ok (.return_, 1) := do_177 (rdb (p := 96) (i := 18) ch_cX12_term_96 rfl)
theorem ch_cX12_text_0 : (cX12_text.data.toList.drop 0).take 36 = [42, 182, 0, 168, 42, 16, 60, 182, 0, 165, 153, 0, 9, 17, 7, 208, 167, 0, 34, 42, 16, 61, 182, 0, 165, 153, 0, 9, 17, 7, 209, 167, 0, 19, 42, 16] := by decide +kernel
theorem dX12_text_0 : decode cX12_text 0 = .ok (.aload_n 0, 1) := do_42 (rdb (p := 0) (i := 0) ch_cX12_text_0 rfl)
theorem dX12_text_1 : decode cX12_text 1 = .ok (.invokevirtual 168, 3) := do_182 (rdb (p := 0) (i := 1) ch_cX12_text_0 rfl) (rdb (p := 0) (i := 2) ch_cX12_text_0 rfl) (rdb (p := 0) (i := 3) ch_cX12_text_0 rfl) rfl
theorem dX12_text_4 : decode cX12_text 4 = .ok (.aload_n 0, 1) := do_42 (rdb (p := 0) (i := 4) ch_cX12_text_0 rfl)
theorem dX12_text_5 : decode cX12_text 5 = .ok (.bipush 60, 2) := do_16 (rdb (p := 0) (i := 5) ch_cX12_text_0 rfl) (rdb (p := 0) (i := 6) ch_cX12_text_0 rfl) (by decide +kernel)
theorem dX12_text_7 : decode cX12_text 7 = .ok (.invokevirtual 165, 3) := do_182 (rdb (p := 0) (i := 7) ch_cX12_text_0 rfl) (rdb (p := 0) (i := 8) ch_cX12_text_0 rfl) (rdb (p := 0) (i := 9) ch_cX12_text_0 rfl) rfl
theorem dX12_text_10 : decode cX12_text 10 = .ok (.ifCond .eq 9, 3) := do_153 (rdb (p := 0) (i := 10) ch_cX12_text_0 rfl) (rdb (p := 0) (i := 11) ch_cX12_text_0 rfl) (rdb (p := 0) (i := 12) ch_cX12_text_0 rfl) (by decide +kernel)
theorem dX12_text_13 : decode cX12_text 13 = .ok (.sipush 2000, 3) := do_17 (rdb (p := 0) (i := 13) ch_cX12_text_0 rfl) (rdb (p := 0) (i := 14) ch_cX12_text_0 rfl) (rdb (p := 0) (i := 15) ch_cX12_text_0 rfl) (by decide +kernel)
theorem dX12_text_16 : decode cX12_text 16 = .ok (.goto 34, 3) := do_167 (rdb (p := 0) (i := 16) ch_cX12_text_0 rfl) (rdb (p := 0) (i := 17) ch_cX12_text_0 rfl) (rdb (p := 0) (i := 18) ch_cX12_text_0 rfl) (by decide +kernel)
theorem dX12_text_19 : decode cX12_text 19 = .ok (.aload_n 0, 1) := do_42 (rdb (p := 0) (i := 19) ch_cX12_text_0 rfl)
theorem dX12_text_20 : decode cX12_text 20 = .ok (.bipush 61, 2) := do_16 (rdb (p := 0) (i := 20) ch_cX12_text_0 rfl) (rdb (p := 0) (i := 21) ch_cX12_text_0 rfl) (by decide +kernel)
theorem dX12_text_22 : decode cX12_text 22 = .ok (.invokevirtual 165, 3) := do_182 (rdb (p := 0) (i := 22) ch_cX12_text_0 rfl) (rdb (p := 0) (i := 23) ch_cX12_text_0 rfl) (rdb (p := 0) (i := 24) ch_cX12_text_0 rfl) rfl
theorem dX12_text_25 : decode cX12_text 25 = .ok (.ifCond .eq 9, 3) := do_153 (rdb (p := 0) (i := 25) ch_cX12_text_0 rfl) (rdb (p := 0) (i := 26) ch_cX12_text_0 rfl) (rdb (p := 0) (i := 27) ch_cX12_text_0 rfl) (by decide +kernel)
theorem dX12_text_28 : decode cX12_text 28 = .ok (.sipush 2001, 3) := do_17 (rdb (p := 0) (i := 28) ch_cX12_text_0 rfl) (rdb (p := 0) (i := 29) ch_cX12_text_0 rfl) (rdb (p := 0) (i := 30) ch_cX12_text_0 rfl) (by decide +kernel)
theorem dX12_text_31 : decode cX12_text 31 = .ok (.goto 19, 3) := do_167 (rdb (p := 0) (i := 31) ch_cX12_text_0 rfl) (rdb (p := 0) (i := 32) ch_cX12_text_0 rfl) (rdb (p := 0) (i := 33) ch_cX12_text_0 rfl) (by decide +kernel)
theorem ch_cX12_text_32 : (cX12_text.data.toList.drop 32).take 36 = [0, 19, 42, 16, 62, 182, 0, 165, 153, 0, 9, 17, 7, 210, 167, 0, 4, 3, 60, 27, 158, 0, 62, 42, 182, 0, 168, 42, 27, 182, 0, 171, 42, 16, 60, 182] := by decide +kernel
theorem dX12_text_34 : decode cX12_text 34 = .ok (.aload_n 0, 1) := do_42 (rdb (p := 32) (i := 2) ch_cX12_text_32 rfl)
theorem dX12_text_35 : decode cX12_text 35 = .ok (.bipush 62, 2) := do_16 (rdb (p := 32) (i := 3) ch_cX12_text_32 rfl) (rdb (p := 32) (i := 4) ch_cX12_text_32 rfl) (by decide +kernel)
theorem dX12_text_37 : decode cX12_text 37 = .ok (.invokevirtual 165, 3) := do_182 (rdb (p := 32) (i := 5) ch_cX12_text_32 rfl) (rdb (p := 32) (i := 6) ch_cX12_text_32 rfl) (rdb (p := 32) (i := 7) ch_cX12_text_32 rfl) rfl
theorem dX12_text_40 : decode cX12_text 40 = .ok (.ifCond .eq 9, 3) := do_153 (rdb (p := 32) (i := 8) ch_cX12_text_32 rfl) (rdb (p := 32) (i := 9) ch_cX12_text_32 rfl) (rdb (p := 32) (i := 10) ch_cX12_text_32 rfl) (by decide +kernel)
theorem dX12_text_43 : decode cX12_text 43 = .ok (.sipush 2002, 3) := do_17 (rdb (p := 32) (i := 11) ch_cX12_text_32 rfl) (rdb (p := 32) (i := 12) ch_cX12_text_32 rfl) (rdb (p := 32) (i := 13) ch_cX12_text_32 rfl) (by decide +kernel)
theorem dX12_text_46 : decode cX12_text 46 = .ok (.goto 4, 3) := do_167 (rdb (p := 32) (i := 14) ch_cX12_text_32 rfl) (rdb (p := 32) (i := 15) ch_cX12_text_32 rfl) (rdb (p := 32) (i := 16) ch_cX12_text_32 rfl) (by decide +kernel)
theorem dX12_text_49 : decode cX12_text 49 = .ok (.iconst 0, 1) := do_3 (rdb (p := 32) (i := 17) ch_cX12_text_32 rfl)
theorem dX12_text_50 : decode cX12_text 50 = .ok (.istore_n 1, 1) := do_60 (rdb (p := 32) (i := 18) ch_cX12_text_32 rfl)
theorem dX12_text_51 : decode cX12_text 51 = .ok (.iload_n 1, 1) := do_27 (rdb (p := 32) (i := 19) ch_cX12_text_32 rfl)
theorem dX12_text_52 : decode cX12_text 52 = .ok (.ifCond .le 62, 3) := do_158 (rdb (p := 32) (i := 20) ch_cX12_text_32 rfl) (rdb (p := 32) (i := 21) ch_cX12_text_32 rfl) (rdb (p := 32) (i := 22) ch_cX12_text_32 rfl) (by decide +kernel)
theorem dX12_text_55 : decode cX12_text 55 = .ok (.aload_n 0, 1) := do_42 (rdb (p := 32) (i := 23) ch_cX12_text_32 rfl)
theorem dX12_text_56 : decode cX12_text 56 = .ok (.invokevirtual 168, 3) := do_182 (rdb (p := 32) (i := 24) ch_cX12_text_32 rfl) (rdb (p := 32) (i := 25) ch_cX12_text_32 rfl) (rdb (p := 32) (i := 26) ch_cX12_text_32 rfl) rfl
theorem dX12_text_59 : decode cX12_text 59 = .ok (.aload_n 0, 1) := do_42 (rdb (p := 32) (i := 27) ch_cX12_text_32 rfl)
theorem dX12_text_60 : decode cX12_text 60 = .ok (.iload_n 1, 1) := do_27 (rdb (p := 32) (i := 28) ch_cX12_text_32 rfl)
theorem dX12_text_61 : decode cX12_text 61 = .ok (.invokevirtual 171, 3) := do_182 (rdb (p := 32) (i := 29) ch_cX12_text_32 rfl) (rdb (p := 32) (i := 30) ch_cX12_text_32 rfl) (rdb (p := 32) (i := 31) ch_cX12_text_32 rfl) rfl
theorem ch_cX12_text_64 : (cX12_text.data.toList.drop 64).take 36 = [42, 16, 60, 182, 0, 165, 153, 0, 9, 17, 7, 208, 167, 0, 34, 42, 16, 61, 182, 0, 165, 153, 0, 9, 17, 7, 209, 167, 0, 19, 42, 16, 62, 182, 0, 165] := by decide +kernel
theorem dX12_text_64 : decode cX12_text 64 = .ok (.aload_n 0, 1) := do_42 (rdb (p := 64) (i := 0) ch_cX12_text_64 rfl)
theorem dX12_text_65 : decode cX12_text 65 = .ok (.bipush 60, 2) := do_16 (rdb (p := 64) (i := 1) ch_cX12_text_64 rfl) (rdb (p := 64) (i := 2) ch_cX12_text_64 rfl) (by decide +kernel)
theorem dX12_text_67 : decode cX12_text 67 = .ok (.invokevirtual 165, 3) := do_182 (rdb (p := 64) (i := 3) ch_cX12_text_64 rfl) (rdb (p := 64) (i := 4) ch_cX12_text_64 rfl) (rdb (p := 64) (i := 5) ch_cX12_text_64 rfl) rfl
theorem dX12_text_70 : decode cX12_text 70 = .ok (.ifCond .eq 9, 3) := do_153 (rdb (p := 64) (i := 6) ch_cX12_text_64 rfl) (rdb (p := 64) (i := 7) ch_cX12_text_64 rfl) (rdb (p := 64) (i := 8) ch_cX12_text_64 rfl) (by decide +kernel)
theorem dX12_text_73 : decode cX12_text 73 = .ok (.sipush 2000, 3) := do_17 (rdb (p := 64) (i := 9) ch_cX12_text_64 rfl) (rdb (p := 64) (i := 10) ch_cX12_text_64 rfl) (rdb (p := 64) (i := 11) ch_cX12_text_64 rfl) (by decide +kernel)
theorem dX12_text_76 : decode cX12_text 76 = .ok (.goto 34, 3) := do_167 (rdb (p := 64) (i := 12) ch_cX12_text_64 rfl) (rdb (p := 64) (i := 13) ch_cX12_text_64 rfl) (rdb (p := 64) (i := 14) ch_cX12_text_64 rfl) (by decide +kernel)
theorem dX12_text_79 : decode cX12_text 79 = .ok (.aload_n 0, 1) := do_42 (rdb (p := 64) (i := 15) ch_cX12_text_64 rfl)
theorem dX12_text_80 : decode cX12_text 80 = .ok (.bipush 61, 2) := do_16 (rdb (p := 64) (i := 16) ch_cX12_text_64 rfl) (rdb (p := 64) (i := 17) ch_cX12_text_64 rfl) (by decide +kernel)
theorem dX12_text_82 : decode cX12_text 82 = .ok (.invokevirtual 165, 3) := do_182 (rdb (p := 64) (i := 18) ch_cX12_text_64 rfl) (rdb (p := 64) (i := 19) ch_cX12_text_64 rfl) (rdb (p := 64) (i := 20) ch_cX12_text_64 rfl) rfl
theorem dX12_text_85 : decode cX12_text 85 = .ok (.ifCond .eq 9, 3) := do_153 (rdb (p := 64) (i := 21) ch_cX12_text_64 rfl) (rdb (p := 64) (i := 22) ch_cX12_text_64 rfl) (rdb (p := 64) (i := 23) ch_cX12_text_64 rfl) (by decide +kernel)
theorem dX12_text_88 : decode cX12_text 88 = .ok (.sipush 2001, 3) := do_17 (rdb (p := 64) (i := 24) ch_cX12_text_64 rfl) (rdb (p := 64) (i := 25) ch_cX12_text_64 rfl) (rdb (p := 64) (i := 26) ch_cX12_text_64 rfl) (by decide +kernel)
theorem dX12_text_91 : decode cX12_text 91 = .ok (.goto 19, 3) := do_167 (rdb (p := 64) (i := 27) ch_cX12_text_64 rfl) (rdb (p := 64) (i := 28) ch_cX12_text_64 rfl) (rdb (p := 64) (i := 29) ch_cX12_text_64 rfl) (by decide +kernel)
theorem dX12_text_94 : decode cX12_text 94 = .ok (.aload_n 0, 1) := do_42 (rdb (p := 64) (i := 30) ch_cX12_text_64 rfl)
theorem dX12_text_95 : decode cX12_text 95 = .ok (.bipush 62, 2) := do_16 (rdb (p := 64) (i := 31) ch_cX12_text_64 rfl) (rdb (p := 64) (i := 32) ch_cX12_text_64 rfl) (by decide +kernel)
theorem ch_cX12_text_96 : (cX12_text.data.toList.drop 96).take 36 = [62, 182, 0, 165, 153, 0, 9, 17, 7, 210, 167, 0, 4, 3, 60, 167, 255, 196, 177] := by decide +kernel
theorem dX12_text_97 : decode cX12_text 97 = .ok (.invokevirtual 165, 3) := do_182 (rdb (p := 96) (i := 1) ch_cX12_text_96 rfl) (rdb (p := 96) (i := 2) ch_cX12_text_96 rfl) (rdb (p := 96) (i := 3) ch_cX12_text_96 rfl) rfl
theorem dX12_text_100 : decode cX12_text 100 = .ok (.ifCond .eq 9, 3) := do_153 (rdb (p := 96) (i := 4) ch_cX12_text_96 rfl) (rdb (p := 96) (i := 5) ch_cX12_text_96 rfl) (rdb (p := 96) (i := 6) ch_cX12_text_96 rfl) (by decide +kernel)
theorem dX12_text_103 : decode cX12_text 103 = .ok (.sipush 2002, 3) := do_17 (rdb (p := 96) (i := 7) ch_cX12_text_96 rfl) (rdb (p := 96) (i := 8) ch_cX12_text_96 rfl) (rdb (p := 96) (i := 9) ch_cX12_text_96 rfl) (by decide +kernel)
theorem dX12_text_106 : decode cX12_text 106 = .ok (.goto 4, 3) := do_167 (rdb (p := 96) (i := 10) ch_cX12_text_96 rfl) (rdb (p := 96) (i := 11) ch_cX12_text_96 rfl) (rdb (p := 96) (i := 12) ch_cX12_text_96 rfl) (by decide +kernel)
theorem dX12_text_109 : decode cX12_text 109 = .ok (.iconst 0, 1) := do_3 (rdb (p := 96) (i := 13) ch_cX12_text_96 rfl)
theorem dX12_text_110 : decode cX12_text 110 = .ok (.istore_n 1, 1) := do_60 (rdb (p := 96) (i := 14) ch_cX12_text_96 rfl)
theorem dX12_text_111 : decode cX12_text 111 = .ok (.goto (-60), 3) := do_167 (rdb (p := 96) (i := 15) ch_cX12_text_96 rfl) (rdb (p := 96) (i := 16) ch_cX12_text_96 rfl) (rdb (p := 96) (i := 17) ch_cX12_text_96 rfl) (by decide +kernel)
theorem dX12_text_114 : decode cX12_text 114 = .ok (.return_, 1) := do_177 (rdb (p := 96) (i := 18) ch_cX12_text_96 rfl)
