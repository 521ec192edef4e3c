/-! words of the tables that are used, by their places; decode rows; fields -/
theorem li_10 : (10 : Int32).toInt = 10 := by decide
theorem li_252 : (252 : Int32).toInt = 252 := by decide
theorem m_63 : Cond.selects yX12_tenth.cls yX12_tenth yX12_tenth ∈ BASE := bmem 63 (by decide +kernel) rfl
theorem m_64 : Cond.selects yX12_thingGoes.cls yX12_thingGoes yX12_thingGoes ∈ BASE := bmem 64 (by decide +kernel) rfl
theorem m_65 : Cond.selects yX12_walkerGoes.cls yX12_walkerGoes yX12_walkerGoes ∈ BASE := bmem 65 (by decide +kernel) rfl
theorem m_66 : Cond.selects yX12_habitOf.cls yX12_habitOf yX12_habitOf ∈ BASE := bmem 66 (by decide +kernel) rfl
theorem m_67 : Cond.selects yX12_fullAhead.cls yX12_fullAhead yX12_fullAhead ∈ BASE := bmem 67 (by decide +kernel) rfl
theorem m_68 : Cond.selects yX12_goesOn.cls yX12_goesOn yX12_goesOn ∈ BASE := bmem 68 (by decide +kernel) rfl
theorem m_72 : Cond.selects yX12_isPost.cls yX12_isPost yX12_isPost ∈ BASE := bmem 72 (by decide +kernel) rfl
theorem m_1347 : Cond.fieldLink RX12 66 "ClickStreetModel" "posted" "[I" ∈ BASE := bmem 1347 (by decide +kernel) rfl
theorem m_1738 : Cond.methodLink RX12 301 yX12_tenth ∈ BASE := bmem 1738 (by decide +kernel) rfl
theorem m_1740 : Cond.instanceMethod yX12_tenth ∈ BASE := bmem 1740 (by decide +kernel) rfl
theorem m_1741 : Cond.code yX12_tenth cX12_tenth 2 none ∈ BASE := bmem 1741 (by decide +kernel) rfl
theorem m_1742 : Cond.methodLink RX12 295 yX12_thingGoes ∈ BASE := bmem 1742 (by decide +kernel) rfl
theorem m_1744 : Cond.instanceMethod yX12_thingGoes ∈ BASE := bmem 1744 (by decide +kernel) rfl
theorem m_1745 : Cond.code yX12_thingGoes cX12_thingGoes 5 none ∈ BASE := bmem 1745 (by decide +kernel) rfl
theorem m_1746 : Cond.methodLink RX12 298 yX12_walkerGoes ∈ BASE := bmem 1746 (by decide +kernel) rfl
theorem m_1748 : Cond.instanceMethod yX12_walkerGoes ∈ BASE := bmem 1748 (by decide +kernel) rfl
theorem m_1749 : Cond.code yX12_walkerGoes cX12_walkerGoes 5 none ∈ BASE := bmem 1749 (by decide +kernel) rfl
theorem m_1750 : Cond.methodLink RX12 289 yX12_habitOf ∈ BASE := bmem 1750 (by decide +kernel) rfl
theorem m_1752 : Cond.instanceMethod yX12_habitOf ∈ BASE := bmem 1752 (by decide +kernel) rfl
theorem m_1753 : Cond.code yX12_habitOf cX12_habitOf 3 (some .int) ∈ BASE := bmem 1753 (by decide +kernel) rfl
theorem m_1754 : Cond.methodLink RX12 286 yX12_fullAhead ∈ BASE := bmem 1754 (by decide +kernel) rfl
theorem m_1756 : Cond.instanceMethod yX12_fullAhead ∈ BASE := bmem 1756 (by decide +kernel) rfl
theorem m_1757 : Cond.code yX12_fullAhead cX12_fullAhead 5 (some .int) ∈ BASE := bmem 1757 (by decide +kernel) rfl
theorem m_1758 : Cond.methodLink RX12 292 yX12_goesOn ∈ BASE := bmem 1758 (by decide +kernel) rfl
theorem m_1760 : Cond.instanceMethod yX12_goesOn ∈ BASE := bmem 1760 (by decide +kernel) rfl
theorem m_1761 : Cond.code yX12_goesOn cX12_goesOn 5 none ∈ BASE := bmem 1761 (by decide +kernel) rfl
theorem m_1795 : Cond.methodLink RX12 321 yX12_isPost ∈ BASE := bmem 1795 (by decide +kernel) rfl
theorem m_1797 : Cond.instanceMethod yX12_isPost ∈ BASE := bmem 1797 (by decide +kernel) rfl
theorem m_1798 : Cond.code yX12_isPost cX12_isPost 9 (some .boolean) ∈ BASE := bmem 1798 (by decide +kernel) rfl
theorem kV_X12_fullAhead : KV yX12_fullAhead cX12_fullAhead 5 (some .int) 2 := ⟨m_1756, m_67, m_92, m_1757, by decide +kernel, by decide +kernel, by decide +kernel⟩
theorem kV_X12_goesOn : KV yX12_goesOn cX12_goesOn 5 none 1 := ⟨m_1760, m_68, m_92, m_1761, by decide +kernel, by decide +kernel, by decide +kernel⟩
theorem kV_X12_habitOf : KV yX12_habitOf cX12_habitOf 3 (some .int) 1 := ⟨m_1752, m_66, m_92, m_1753, by decide +kernel, by decide +kernel, by decide +kernel⟩
theorem kV_X12_isPost : KV yX12_isPost cX12_isPost 9 (some .boolean) 3 := ⟨m_1797, m_72, m_92, m_1798, by decide +kernel, by decide +kernel, by decide +kernel⟩
theorem kV_X12_tenth : KV yX12_tenth cX12_tenth 2 none 0 := ⟨m_1740, m_63, m_92, m_1741, by decide +kernel, by decide +kernel, by decide +kernel⟩
theorem kV_X12_thingGoes : KV yX12_thingGoes cX12_thingGoes 5 none 1 := ⟨m_1744, m_64, m_92, m_1745, by decide +kernel, by decide +kernel, by decide +kernel⟩
theorem kV_X12_walkerGoes : KV yX12_walkerGoes cX12_walkerGoes 5 none 1 := ⟨m_1748, m_65, m_92, m_1749, by decide +kernel, by decide +kernel, by decide +kernel⟩
theorem fl_RX12_66 : FLK RX12 66 12 24 (.array .int) true := ⟨RX12, TX12, 33, tyX12, rfl, inB12, tyX12_ok, nmX12, by decide, rfl, rfl, Or.inl m_1347⟩
theorem dX12_cost_0 : decode cX12_cost 0 = .ok (.aload_n 0, 1) := by decide +kernel
theorem dX12_cost_1 : decode cX12_cost 1 = .ok (.iload_n 1, 1) := by decide +kernel
theorem dX12_cost_2 : decode cX12_cost 2 = .ok (.iload_n 2, 1) := by decide +kernel
theorem dX12_cost_3 : decode cX12_cost 3 = .ok (.invokevirtual 269, 3) := by decide +kernel
theorem dX12_cost_6 : decode cX12_cost 6 = .ok (.istore_n 3, 1) := by decide +kernel
theorem dX12_cost_7 : decode cX12_cost 7 = .ok (.iload_n 3, 1) := by decide +kernel
theorem dX12_cost_8 : decode cX12_cost 8 = .ok (.iconst 1, 1) := by decide +kernel
theorem dX12_cost_9 : decode cX12_cost 9 = .ok (.if_icmp .ne 7, 3) := by decide +kernel
theorem dX12_cost_12 : decode cX12_cost 12 = .ok (.iconst 1, 1) := by decide +kernel
theorem dX12_cost_13 : decode cX12_cost 13 = .ok (.goto 13, 3) := by decide +kernel
theorem dX12_cost_16 : decode cX12_cost 16 = .ok (.iload_n 3, 1) := by decide +kernel
theorem dX12_cost_17 : decode cX12_cost 17 = .ok (.ifCond .ne 7, 3) := by decide +kernel
theorem dX12_cost_20 : decode cX12_cost 20 = .ok (.iconst 3, 1) := by decide +kernel
theorem dX12_cost_21 : decode cX12_cost 21 = .ok (.goto 5, 3) := by decide +kernel
theorem dX12_cost_24 : decode cX12_cost 24 = .ok (.bipush 20, 2) := by decide +kernel
theorem dX12_cost_26 : decode cX12_cost 26 = .ok (.ireturn, 1) := by decide +kernel
theorem ch_cX12_fullAhead_0 : (cX12_fullAhead.data.toList.drop 0).take 36 = [42, 180, 0, 9, 42, 27, 182, 0, 93, 4, 96, 46, 62, 4, 54, 4, 21, 4, 16, 10, 162, 0, 46, 42, 29, 28, 16, 7, 126, 21, 4, 182, 0, 234, 155, 0] := by decide +kernel
theorem dX12_fullAhead_0 : decode cX12_fullAhead 0 = .ok (.aload_n 0, 1) := do_42 (rdb (p := 0) (i := 0) ch_cX12_fullAhead_0 rfl)
theorem dX12_fullAhead_1 : decode cX12_fullAhead 1 = .ok (.getfield 9, 3) := do_180 (rdb (p := 0) (i := 1) ch_cX12_fullAhead_0 rfl) (rdb (p := 0) (i := 2) ch_cX12_fullAhead_0 rfl) (rdb (p := 0) (i := 3) ch_cX12_fullAhead_0 rfl) rfl
theorem dX12_fullAhead_4 : decode cX12_fullAhead 4 = .ok (.aload_n 0, 1) := do_42 (rdb (p := 0) (i := 4) ch_cX12_fullAhead_0 rfl)
theorem dX12_fullAhead_5 : decode cX12_fullAhead 5 = .ok (.iload_n 1, 1) := do_27 (rdb (p := 0) (i := 5) ch_cX12_fullAhead_0 rfl)
theorem dX12_fullAhead_6 : decode cX12_fullAhead 6 = .ok (.invokevirtual 93, 3) := do_182 (rdb (p := 0) (i := 6) ch_cX12_fullAhead_0 rfl) (rdb (p := 0) (i := 7) ch_cX12_fullAhead_0 rfl) (rdb (p := 0) (i := 8) ch_cX12_fullAhead_0 rfl) rfl
theorem dX12_fullAhead_9 : decode cX12_fullAhead 9 = .ok (.iconst 1, 1) := do_4 (rdb (p := 0) (i := 9) ch_cX12_fullAhead_0 rfl)
theorem dX12_fullAhead_10 : decode cX12_fullAhead 10 = .ok (.iadd, 1) := do_96 (rdb (p := 0) (i := 10) ch_cX12_fullAhead_0 rfl)
theorem dX12_fullAhead_11 : decode cX12_fullAhead 11 = .ok (.iaload, 1) := do_46 (rdb (p := 0) (i := 11) ch_cX12_fullAhead_0 rfl)
theorem dX12_fullAhead_12 : decode cX12_fullAhead 12 = .ok (.istore_n 3, 1) := do_62 (rdb (p := 0) (i := 12) ch_cX12_fullAhead_0 rfl)
theorem dX12_fullAhead_13 : decode cX12_fullAhead 13 = .ok (.iconst 1, 1) := do_4 (rdb (p := 0) (i := 13) ch_cX12_fullAhead_0 rfl)
theorem dX12_fullAhead_14 : decode cX12_fullAhead 14 = .ok (.istore 4, 2) := do_54 (rdb (p := 0) (i := 14) ch_cX12_fullAhead_0 rfl) (rdb (p := 0) (i := 15) ch_cX12_fullAhead_0 rfl)
theorem dX12_fullAhead_16 : decode cX12_fullAhead 16 = .ok (.iload 4, 2) := do_21 (rdb (p := 0) (i := 16) ch_cX12_fullAhead_0 rfl) (rdb (p := 0) (i := 17) ch_cX12_fullAhead_0 rfl)
theorem dX12_fullAhead_18 : decode cX12_fullAhead 18 = .ok (.bipush 10, 2) := do_16 (rdb (p := 0) (i := 18) ch_cX12_fullAhead_0 rfl) (rdb (p := 0) (i := 19) ch_cX12_fullAhead_0 rfl) (by decide +kernel)
theorem dX12_fullAhead_20 : decode cX12_fullAhead 20 = .ok (.if_icmp .ge 46, 3) := do_162 (rdb (p := 0) (i := 20) ch_cX12_fullAhead_0 rfl) (rdb (p := 0) (i := 21) ch_cX12_fullAhead_0 rfl) (rdb (p := 0) (i := 22) ch_cX12_fullAhead_0 rfl) (by decide +kernel)
theorem dX12_fullAhead_23 : decode cX12_fullAhead 23 = .ok (.aload_n 0, 1) := do_42 (rdb (p := 0) (i := 23) ch_cX12_fullAhead_0 rfl)
theorem dX12_fullAhead_24 : decode cX12_fullAhead 24 = .ok (.iload_n 3, 1) := do_29 (rdb (p := 0) (i := 24) ch_cX12_fullAhead_0 rfl)
theorem dX12_fullAhead_25 : decode cX12_fullAhead 25 = .ok (.iload_n 2, 1) := do_28 (rdb (p := 0) (i := 25) ch_cX12_fullAhead_0 rfl)
theorem dX12_fullAhead_26 : decode cX12_fullAhead 26 = .ok (.bipush 7, 2) := do_16 (rdb (p := 0) (i := 26) ch_cX12_fullAhead_0 rfl) (rdb (p := 0) (i := 27) ch_cX12_fullAhead_0 rfl) (by decide +kernel)
theorem dX12_fullAhead_28 : decode cX12_fullAhead 28 = .ok (.iand, 1) := do_126 (rdb (p := 0) (i := 28) ch_cX12_fullAhead_0 rfl)
theorem dX12_fullAhead_29 : decode cX12_fullAhead 29 = .ok (.iload 4, 2) := do_21 (rdb (p := 0) (i := 29) ch_cX12_fullAhead_0 rfl) (rdb (p := 0) (i := 30) ch_cX12_fullAhead_0 rfl)
theorem dX12_fullAhead_31 : decode cX12_fullAhead 31 = .ok (.invokevirtual 234, 3) := do_182 (rdb (p := 0) (i := 31) ch_cX12_fullAhead_0 rfl) (rdb (p := 0) (i := 32) ch_cX12_fullAhead_0 rfl) (rdb (p := 0) (i := 33) ch_cX12_fullAhead_0 rfl) rfl
theorem ch_cX12_fullAhead_32 : (cX12_fullAhead.data.toList.drop 32).take 36 = [0, 234, 155, 0, 32, 42, 27, 42, 29, 28, 16, 7, 126, 21, 4, 182, 0, 234, 182, 1, 13, 5, 160, 0, 6, 21, 4, 172, 132, 4, 1, 167, 255, 209, 3, 172] := by decide +kernel
theorem dX12_fullAhead_34 : decode cX12_fullAhead 34 = .ok (.ifCond .lt 32, 3) := do_155 (rdb (p := 32) (i := 2) ch_cX12_fullAhead_32 rfl) (rdb (p := 32) (i := 3) ch_cX12_fullAhead_32 rfl) (rdb (p := 32) (i := 4) ch_cX12_fullAhead_32 rfl) (by decide +kernel)
theorem dX12_fullAhead_37 : decode cX12_fullAhead 37 = .ok (.aload_n 0, 1) := do_42 (rdb (p := 32) (i := 5) ch_cX12_fullAhead_32 rfl)
theorem dX12_fullAhead_38 : decode cX12_fullAhead 38 = .ok (.iload_n 1, 1) := do_27 (rdb (p := 32) (i := 6) ch_cX12_fullAhead_32 rfl)
theorem dX12_fullAhead_39 : decode cX12_fullAhead 39 = .ok (.aload_n 0, 1) := do_42 (rdb (p := 32) (i := 7) ch_cX12_fullAhead_32 rfl)
theorem dX12_fullAhead_40 : decode cX12_fullAhead 40 = .ok (.iload_n 3, 1) := do_29 (rdb (p := 32) (i := 8) ch_cX12_fullAhead_32 rfl)
theorem dX12_fullAhead_41 : decode cX12_fullAhead 41 = .ok (.iload_n 2, 1) := do_28 (rdb (p := 32) (i := 9) ch_cX12_fullAhead_32 rfl)
theorem dX12_fullAhead_42 : decode cX12_fullAhead 42 = .ok (.bipush 7, 2) := do_16 (rdb (p := 32) (i := 10) ch_cX12_fullAhead_32 rfl) (rdb (p := 32) (i := 11) ch_cX12_fullAhead_32 rfl) (by decide +kernel)
theorem dX12_fullAhead_44 : decode cX12_fullAhead 44 = .ok (.iand, 1) := do_126 (rdb (p := 32) (i := 12) ch_cX12_fullAhead_32 rfl)
theorem dX12_fullAhead_45 : decode cX12_fullAhead 45 = .ok (.iload 4, 2) := do_21 (rdb (p := 32) (i := 13) ch_cX12_fullAhead_32 rfl) (rdb (p := 32) (i := 14) ch_cX12_fullAhead_32 rfl)
theorem dX12_fullAhead_47 : decode cX12_fullAhead 47 = .ok (.invokevirtual 234, 3) := do_182 (rdb (p := 32) (i := 15) ch_cX12_fullAhead_32 rfl) (rdb (p := 32) (i := 16) ch_cX12_fullAhead_32 rfl) (rdb (p := 32) (i := 17) ch_cX12_fullAhead_32 rfl) rfl
theorem dX12_fullAhead_50 : decode cX12_fullAhead 50 = .ok (.invokevirtual 269, 3) := do_182 (rdb (p := 32) (i := 18) ch_cX12_fullAhead_32 rfl) (rdb (p := 32) (i := 19) ch_cX12_fullAhead_32 rfl) (rdb (p := 32) (i := 20) ch_cX12_fullAhead_32 rfl) rfl
theorem dX12_fullAhead_53 : decode cX12_fullAhead 53 = .ok (.iconst 2, 1) := do_5 (rdb (p := 32) (i := 21) ch_cX12_fullAhead_32 rfl)
theorem dX12_fullAhead_54 : decode cX12_fullAhead 54 = .ok (.if_icmp .ne 6, 3) := do_160 (rdb (p := 32) (i := 22) ch_cX12_fullAhead_32 rfl) (rdb (p := 32) (i := 23) ch_cX12_fullAhead_32 rfl) (rdb (p := 32) (i := 24) ch_cX12_fullAhead_32 rfl) (by decide +kernel)
theorem dX12_fullAhead_57 : decode cX12_fullAhead 57 = .ok (.iload 4, 2) := do_21 (rdb (p := 32) (i := 25) ch_cX12_fullAhead_32 rfl) (rdb (p := 32) (i := 26) ch_cX12_fullAhead_32 rfl)
theorem dX12_fullAhead_59 : decode cX12_fullAhead 59 = .ok (.ireturn, 1) := do_172 (rdb (p := 32) (i := 27) ch_cX12_fullAhead_32 rfl)
theorem dX12_fullAhead_60 : decode cX12_fullAhead 60 = .ok (.iinc 4 1, 3) := do_132 (rdb (p := 32) (i := 28) ch_cX12_fullAhead_32 rfl) (rdb (p := 32) (i := 29) ch_cX12_fullAhead_32 rfl) (rdb (p := 32) (i := 30) ch_cX12_fullAhead_32 rfl) (by decide +kernel)
theorem dX12_fullAhead_63 : decode cX12_fullAhead 63 = .ok (.goto (-47), 3) := do_167 (rdb (p := 32) (i := 31) ch_cX12_fullAhead_32 rfl) (rdb (p := 32) (i := 32) ch_cX12_fullAhead_32 rfl) (rdb (p := 32) (i := 33) ch_cX12_fullAhead_32 rfl) (by decide +kernel)
theorem ch_cX12_fullAhead_64 : (cX12_fullAhead.data.toList.drop 64).take 36 = [255, 209, 3, 172] := by decide +kernel
theorem dX12_fullAhead_66 : decode cX12_fullAhead 66 = .ok (.iconst 0, 1) := do_3 (rdb (p := 64) (i := 2) ch_cX12_fullAhead_64 rfl)
theorem dX12_fullAhead_67 : decode cX12_fullAhead 67 = .ok (.ireturn, 1) := do_172 (rdb (p := 64) (i := 3) ch_cX12_fullAhead_64 rfl)
theorem ch_cX12_goesOn_0 : (cX12_goesOn.data.toList.drop 0).take 36 = [42, 27, 182, 0, 93, 61, 42, 27, 182, 0, 137, 16, 7, 160, 0, 7, 5, 167, 0, 4, 4, 62, 29, 158, 0, 87, 42, 42, 180, 0, 9, 28, 4, 96, 46, 42] := by decide +kernel
theorem dX12_goesOn_0 : decode cX12_goesOn 0 = .ok (.aload_n 0, 1) := do_42 (rdb (p := 0) (i := 0) ch_cX12_goesOn_0 rfl)
theorem dX12_goesOn_1 : decode cX12_goesOn 1 = .ok (.iload_n 1, 1) := do_27 (rdb (p := 0) (i := 1) ch_cX12_goesOn_0 rfl)
theorem dX12_goesOn_2 : decode cX12_goesOn 2 = .ok (.invokevirtual 93, 3) := do_182 (rdb (p := 0) (i := 2) ch_cX12_goesOn_0 rfl) (rdb (p := 0) (i := 3) ch_cX12_goesOn_0 rfl) (rdb (p := 0) (i := 4) ch_cX12_goesOn_0 rfl) rfl
theorem dX12_goesOn_5 : decode cX12_goesOn 5 = .ok (.istore_n 2, 1) := do_61 (rdb (p := 0) (i := 5) ch_cX12_goesOn_0 rfl)
theorem dX12_goesOn_6 : decode cX12_goesOn 6 = .ok (.aload_n 0, 1) := do_42 (rdb (p := 0) (i := 6) ch_cX12_goesOn_0 rfl)
theorem dX12_goesOn_7 : decode cX12_goesOn 7 = .ok (.iload_n 1, 1) := do_27 (rdb (p := 0) (i := 7) ch_cX12_goesOn_0 rfl)
theorem dX12_goesOn_8 : decode cX12_goesOn 8 = .ok (.invokevirtual 137, 3) := do_182 (rdb (p := 0) (i := 8) ch_cX12_goesOn_0 rfl) (rdb (p := 0) (i := 9) ch_cX12_goesOn_0 rfl) (rdb (p := 0) (i := 10) ch_cX12_goesOn_0 rfl) rfl
theorem dX12_goesOn_11 : decode cX12_goesOn 11 = .ok (.bipush 7, 2) := do_16 (rdb (p := 0) (i := 11) ch_cX12_goesOn_0 rfl) (rdb (p := 0) (i := 12) ch_cX12_goesOn_0 rfl) (by decide +kernel)
theorem dX12_goesOn_13 : decode cX12_goesOn 13 = .ok (.if_icmp .ne 7, 3) := do_160 (rdb (p := 0) (i := 13) ch_cX12_goesOn_0 rfl) (rdb (p := 0) (i := 14) ch_cX12_goesOn_0 rfl) (rdb (p := 0) (i := 15) ch_cX12_goesOn_0 rfl) (by decide +kernel)
theorem dX12_goesOn_16 : decode cX12_goesOn 16 = .ok (.iconst 2, 1) := do_5 (rdb (p := 0) (i := 16) ch_cX12_goesOn_0 rfl)
theorem dX12_goesOn_17 : decode cX12_goesOn 17 = .ok (.goto 4, 3) := do_167 (rdb (p := 0) (i := 17) ch_cX12_goesOn_0 rfl) (rdb (p := 0) (i := 18) ch_cX12_goesOn_0 rfl) (rdb (p := 0) (i := 19) ch_cX12_goesOn_0 rfl) (by decide +kernel)
theorem dX12_goesOn_20 : decode cX12_goesOn 20 = .ok (.iconst 1, 1) := do_4 (rdb (p := 0) (i := 20) ch_cX12_goesOn_0 rfl)
theorem dX12_goesOn_21 : decode cX12_goesOn 21 = .ok (.istore_n 3, 1) := do_62 (rdb (p := 0) (i := 21) ch_cX12_goesOn_0 rfl)
theorem dX12_goesOn_22 : decode cX12_goesOn 22 = .ok (.iload_n 3, 1) := do_29 (rdb (p := 0) (i := 22) ch_cX12_goesOn_0 rfl)
theorem dX12_goesOn_23 : decode cX12_goesOn 23 = .ok (.ifCond .le 87, 3) := do_158 (rdb (p := 0) (i := 23) ch_cX12_goesOn_0 rfl) (rdb (p := 0) (i := 24) ch_cX12_goesOn_0 rfl) (rdb (p := 0) (i := 25) ch_cX12_goesOn_0 rfl) (by decide +kernel)
theorem dX12_goesOn_26 : decode cX12_goesOn 26 = .ok (.aload_n 0, 1) := do_42 (rdb (p := 0) (i := 26) ch_cX12_goesOn_0 rfl)
theorem dX12_goesOn_27 : decode cX12_goesOn 27 = .ok (.aload_n 0, 1) := do_42 (rdb (p := 0) (i := 27) ch_cX12_goesOn_0 rfl)
theorem dX12_goesOn_28 : decode cX12_goesOn 28 = .ok (.getfield 9, 3) := do_180 (rdb (p := 0) (i := 28) ch_cX12_goesOn_0 rfl) (rdb (p := 0) (i := 29) ch_cX12_goesOn_0 rfl) (rdb (p := 0) (i := 30) ch_cX12_goesOn_0 rfl) rfl
theorem dX12_goesOn_31 : decode cX12_goesOn 31 = .ok (.iload_n 2, 1) := do_28 (rdb (p := 0) (i := 31) ch_cX12_goesOn_0 rfl)
theorem ch_cX12_goesOn_32 : (cX12_goesOn.data.toList.drop 32).take 36 = [4, 96, 46, 42, 180, 0, 9, 28, 5, 96, 46, 4, 182, 0, 234, 54, 4, 21, 4, 155, 0, 12, 42, 21, 4, 182, 0, 107, 154, 0, 34, 42, 180, 0, 9, 28] := by decide +kernel
theorem dX12_goesOn_32 : decode cX12_goesOn 32 = .ok (.iconst 1, 1) := do_4 (rdb (p := 32) (i := 0) ch_cX12_goesOn_32 rfl)
theorem dX12_goesOn_33 : decode cX12_goesOn 33 = .ok (.iadd, 1) := do_96 (rdb (p := 32) (i := 1) ch_cX12_goesOn_32 rfl)
theorem dX12_goesOn_34 : decode cX12_goesOn 34 = .ok (.iaload, 1) := do_46 (rdb (p := 32) (i := 2) ch_cX12_goesOn_32 rfl)
theorem dX12_goesOn_35 : decode cX12_goesOn 35 = .ok (.aload_n 0, 1) := do_42 (rdb (p := 32) (i := 3) ch_cX12_goesOn_32 rfl)
theorem dX12_goesOn_36 : decode cX12_goesOn 36 = .ok (.getfield 9, 3) := do_180 (rdb (p := 32) (i := 4) ch_cX12_goesOn_32 rfl) (rdb (p := 32) (i := 5) ch_cX12_goesOn_32 rfl) (rdb (p := 32) (i := 6) ch_cX12_goesOn_32 rfl) rfl
theorem dX12_goesOn_39 : decode cX12_goesOn 39 = .ok (.iload_n 2, 1) := do_28 (rdb (p := 32) (i := 7) ch_cX12_goesOn_32 rfl)
theorem dX12_goesOn_40 : decode cX12_goesOn 40 = .ok (.iconst 2, 1) := do_5 (rdb (p := 32) (i := 8) ch_cX12_goesOn_32 rfl)
theorem dX12_goesOn_41 : decode cX12_goesOn 41 = .ok (.iadd, 1) := do_96 (rdb (p := 32) (i := 9) ch_cX12_goesOn_32 rfl)
theorem dX12_goesOn_42 : decode cX12_goesOn 42 = .ok (.iaload, 1) := do_46 (rdb (p := 32) (i := 10) ch_cX12_goesOn_32 rfl)
theorem dX12_goesOn_43 : decode cX12_goesOn 43 = .ok (.iconst 1, 1) := do_4 (rdb (p := 32) (i := 11) ch_cX12_goesOn_32 rfl)
theorem dX12_goesOn_44 : decode cX12_goesOn 44 = .ok (.invokevirtual 234, 3) := do_182 (rdb (p := 32) (i := 12) ch_cX12_goesOn_32 rfl) (rdb (p := 32) (i := 13) ch_cX12_goesOn_32 rfl) (rdb (p := 32) (i := 14) ch_cX12_goesOn_32 rfl) rfl
theorem dX12_goesOn_47 : decode cX12_goesOn 47 = .ok (.istore 4, 2) := do_54 (rdb (p := 32) (i := 15) ch_cX12_goesOn_32 rfl) (rdb (p := 32) (i := 16) ch_cX12_goesOn_32 rfl)
theorem dX12_goesOn_49 : decode cX12_goesOn 49 = .ok (.iload 4, 2) := do_21 (rdb (p := 32) (i := 17) ch_cX12_goesOn_32 rfl) (rdb (p := 32) (i := 18) ch_cX12_goesOn_32 rfl)
theorem dX12_goesOn_51 : decode cX12_goesOn 51 = .ok (.ifCond .lt 12, 3) := do_155 (rdb (p := 32) (i := 19) ch_cX12_goesOn_32 rfl) (rdb (p := 32) (i := 20) ch_cX12_goesOn_32 rfl) (rdb (p := 32) (i := 21) ch_cX12_goesOn_32 rfl) (by decide +kernel)
theorem dX12_goesOn_54 : decode cX12_goesOn 54 = .ok (.aload_n 0, 1) := do_42 (rdb (p := 32) (i := 22) ch_cX12_goesOn_32 rfl)
theorem dX12_goesOn_55 : decode cX12_goesOn 55 = .ok (.iload 4, 2) := do_21 (rdb (p := 32) (i := 23) ch_cX12_goesOn_32 rfl) (rdb (p := 32) (i := 24) ch_cX12_goesOn_32 rfl)
theorem dX12_goesOn_57 : decode cX12_goesOn 57 = .ok (.invokevirtual 107, 3) := do_182 (rdb (p := 32) (i := 25) ch_cX12_goesOn_32 rfl) (rdb (p := 32) (i := 26) ch_cX12_goesOn_32 rfl) (rdb (p := 32) (i := 27) ch_cX12_goesOn_32 rfl) rfl
theorem dX12_goesOn_60 : decode cX12_goesOn 60 = .ok (.ifCond .ne 34, 3) := do_154 (rdb (p := 32) (i := 28) ch_cX12_goesOn_32 rfl) (rdb (p := 32) (i := 29) ch_cX12_goesOn_32 rfl) (rdb (p := 32) (i := 30) ch_cX12_goesOn_32 rfl) (by decide +kernel)
theorem dX12_goesOn_63 : decode cX12_goesOn 63 = .ok (.aload_n 0, 1) := do_42 (rdb (p := 32) (i := 31) ch_cX12_goesOn_32 rfl)
theorem ch_cX12_goesOn_64 : (cX12_goesOn.data.toList.drop 64).take 36 = [180, 0, 9, 28, 16, 7, 96, 92, 46, 4, 96, 79, 21, 4, 155, 0, 15, 42, 42, 27, 21, 4, 182, 0, 253, 6, 182, 1, 6, 177, 42, 180, 0, 9, 28, 4] := by decide +kernel
theorem dX12_goesOn_64 : decode cX12_goesOn 64 = .ok (.getfield 9, 3) := do_180 (rdb (p := 64) (i := 0) ch_cX12_goesOn_64 rfl) (rdb (p := 64) (i := 1) ch_cX12_goesOn_64 rfl) (rdb (p := 64) (i := 2) ch_cX12_goesOn_64 rfl) rfl
theorem dX12_goesOn_67 : decode cX12_goesOn 67 = .ok (.iload_n 2, 1) := do_28 (rdb (p := 64) (i := 3) ch_cX12_goesOn_64 rfl)
theorem dX12_goesOn_68 : decode cX12_goesOn 68 = .ok (.bipush 7, 2) := do_16 (rdb (p := 64) (i := 4) ch_cX12_goesOn_64 rfl) (rdb (p := 64) (i := 5) ch_cX12_goesOn_64 rfl) (by decide +kernel)
theorem dX12_goesOn_70 : decode cX12_goesOn 70 = .ok (.iadd, 1) := do_96 (rdb (p := 64) (i := 6) ch_cX12_goesOn_64 rfl)
theorem dX12_goesOn_71 : decode cX12_goesOn 71 = .ok (.dup2, 1) := do_92 (rdb (p := 64) (i := 7) ch_cX12_goesOn_64 rfl)
theorem dX12_goesOn_72 : decode cX12_goesOn 72 = .ok (.iaload, 1) := do_46 (rdb (p := 64) (i := 8) ch_cX12_goesOn_64 rfl)
theorem dX12_goesOn_73 : decode cX12_goesOn 73 = .ok (.iconst 1, 1) := do_4 (rdb (p := 64) (i := 9) ch_cX12_goesOn_64 rfl)
theorem dX12_goesOn_74 : decode cX12_goesOn 74 = .ok (.iadd, 1) := do_96 (rdb (p := 64) (i := 10) ch_cX12_goesOn_64 rfl)
theorem dX12_goesOn_75 : decode cX12_goesOn 75 = .ok (.iastore, 1) := do_79 (rdb (p := 64) (i := 11) ch_cX12_goesOn_64 rfl)
theorem dX12_goesOn_76 : decode cX12_goesOn 76 = .ok (.iload 4, 2) := do_21 (rdb (p := 64) (i := 12) ch_cX12_goesOn_64 rfl) (rdb (p := 64) (i := 13) ch_cX12_goesOn_64 rfl)
theorem dX12_goesOn_78 : decode cX12_goesOn 78 = .ok (.ifCond .lt 15, 3) := do_155 (rdb (p := 64) (i := 14) ch_cX12_goesOn_64 rfl) (rdb (p := 64) (i := 15) ch_cX12_goesOn_64 rfl) (rdb (p := 64) (i := 16) ch_cX12_goesOn_64 rfl) (by decide +kernel)
theorem dX12_goesOn_81 : decode cX12_goesOn 81 = .ok (.aload_n 0, 1) := do_42 (rdb (p := 64) (i := 17) ch_cX12_goesOn_64 rfl)
theorem dX12_goesOn_82 : decode cX12_goesOn 82 = .ok (.aload_n 0, 1) := do_42 (rdb (p := 64) (i := 18) ch_cX12_goesOn_64 rfl)
theorem dX12_goesOn_83 : decode cX12_goesOn 83 = .ok (.iload_n 1, 1) := do_27 (rdb (p := 64) (i := 19) ch_cX12_goesOn_64 rfl)
theorem dX12_goesOn_84 : decode cX12_goesOn 84 = .ok (.iload 4, 2) := do_21 (rdb (p := 64) (i := 20) ch_cX12_goesOn_64 rfl) (rdb (p := 64) (i := 21) ch_cX12_goesOn_64 rfl)
theorem dX12_goesOn_86 : decode cX12_goesOn 86 = .ok (.invokevirtual 253, 3) := do_182 (rdb (p := 64) (i := 22) ch_cX12_goesOn_64 rfl) (rdb (p := 64) (i := 23) ch_cX12_goesOn_64 rfl) (rdb (p := 64) (i := 24) ch_cX12_goesOn_64 rfl) rfl
theorem dX12_goesOn_89 : decode cX12_goesOn 89 = .ok (.iconst 3, 1) := do_6 (rdb (p := 64) (i := 25) ch_cX12_goesOn_64 rfl)
theorem dX12_goesOn_90 : decode cX12_goesOn 90 = .ok (.invokevirtual 262, 3) := do_182 (rdb (p := 64) (i := 26) ch_cX12_goesOn_64 rfl) (rdb (p := 64) (i := 27) ch_cX12_goesOn_64 rfl) (rdb (p := 64) (i := 28) ch_cX12_goesOn_64 rfl) rfl
theorem dX12_goesOn_93 : decode cX12_goesOn 93 = .ok (.return_, 1) := do_177 (rdb (p := 64) (i := 29) ch_cX12_goesOn_64 rfl)
theorem dX12_goesOn_94 : decode cX12_goesOn 94 = .ok (.aload_n 0, 1) := do_42 (rdb (p := 64) (i := 30) ch_cX12_goesOn_64 rfl)
theorem dX12_goesOn_95 : decode cX12_goesOn 95 = .ok (.getfield 9, 3) := do_180 (rdb (p := 64) (i := 31) ch_cX12_goesOn_64 rfl) (rdb (p := 64) (i := 32) ch_cX12_goesOn_64 rfl) (rdb (p := 64) (i := 33) ch_cX12_goesOn_64 rfl) rfl
theorem ch_cX12_goesOn_96 : (cX12_goesOn.data.toList.drop 96).take 36 = [0, 9, 28, 4, 96, 21, 4, 79, 132, 3, 255, 167, 255, 171, 177] := by decide +kernel
theorem dX12_goesOn_98 : decode cX12_goesOn 98 = .ok (.iload_n 2, 1) := do_28 (rdb (p := 96) (i := 2) ch_cX12_goesOn_96 rfl)
theorem dX12_goesOn_99 : decode cX12_goesOn 99 = .ok (.iconst 1, 1) := do_4 (rdb (p := 96) (i := 3) ch_cX12_goesOn_96 rfl)
theorem dX12_goesOn_100 : decode cX12_goesOn 100 = .ok (.iadd, 1) := do_96 (rdb (p := 96) (i := 4) ch_cX12_goesOn_96 rfl)
theorem dX12_goesOn_101 : decode cX12_goesOn 101 = .ok (.iload 4, 2) := do_21 (rdb (p := 96) (i := 5) ch_cX12_goesOn_96 rfl) (rdb (p := 96) (i := 6) ch_cX12_goesOn_96 rfl)
theorem dX12_goesOn_103 : decode cX12_goesOn 103 = .ok (.iastore, 1) := do_79 (rdb (p := 96) (i := 7) ch_cX12_goesOn_96 rfl)
theorem dX12_goesOn_104 : decode cX12_goesOn 104 = .ok (.iinc 3 (-1), 3) := do_132 (rdb (p := 96) (i := 8) ch_cX12_goesOn_96 rfl) (rdb (p := 96) (i := 9) ch_cX12_goesOn_96 rfl) (rdb (p := 96) (i := 10) ch_cX12_goesOn_96 rfl) (by decide +kernel)
theorem dX12_goesOn_107 : decode cX12_goesOn 107 = .ok (.goto (-85), 3) := do_167 (rdb (p := 96) (i := 11) ch_cX12_goesOn_96 rfl) (rdb (p := 96) (i := 12) ch_cX12_goesOn_96 rfl) (rdb (p := 96) (i := 13) ch_cX12_goesOn_96 rfl) (by decide +kernel)
theorem dX12_goesOn_110 : decode cX12_goesOn 110 = .ok (.return_, 1) := do_177 (rdb (p := 96) (i := 14) ch_cX12_goesOn_96 rfl)
theorem ch_cX12_habitOf_0 : (cX12_habitOf.data.toList.drop 0).take 36 = [42, 180, 0, 9, 42, 27, 182, 0, 93, 5, 96, 46, 61, 42, 180, 0, 47, 3, 42, 27, 28, 182, 1, 30, 79, 42, 180, 0, 47, 4, 42, 27, 28, 16, 6, 96] := by decide +kernel
theorem dX12_habitOf_0 : decode cX12_habitOf 0 = .ok (.aload_n 0, 1) := do_42 (rdb (p := 0) (i := 0) ch_cX12_habitOf_0 rfl)
theorem dX12_habitOf_1 : decode cX12_habitOf 1 = .ok (.getfield 9, 3) := do_180 (rdb (p := 0) (i := 1) ch_cX12_habitOf_0 rfl) (rdb (p := 0) (i := 2) ch_cX12_habitOf_0 rfl) (rdb (p := 0) (i := 3) ch_cX12_habitOf_0 rfl) rfl
theorem dX12_habitOf_4 : decode cX12_habitOf 4 = .ok (.aload_n 0, 1) := do_42 (rdb (p := 0) (i := 4) ch_cX12_habitOf_0 rfl)
theorem dX12_habitOf_5 : decode cX12_habitOf 5 = .ok (.iload_n 1, 1) := do_27 (rdb (p := 0) (i := 5) ch_cX12_habitOf_0 rfl)
theorem dX12_habitOf_6 : decode cX12_habitOf 6 = .ok (.invokevirtual 93, 3) := do_182 (rdb (p := 0) (i := 6) ch_cX12_habitOf_0 rfl) (rdb (p := 0) (i := 7) ch_cX12_habitOf_0 rfl) (rdb (p := 0) (i := 8) ch_cX12_habitOf_0 rfl) rfl
theorem dX12_habitOf_9 : decode cX12_habitOf 9 = .ok (.iconst 2, 1) := do_5 (rdb (p := 0) (i := 9) ch_cX12_habitOf_0 rfl)
theorem dX12_habitOf_10 : decode cX12_habitOf 10 = .ok (.iadd, 1) := do_96 (rdb (p := 0) (i := 10) ch_cX12_habitOf_0 rfl)
theorem dX12_habitOf_11 : decode cX12_habitOf 11 = .ok (.iaload, 1) := do_46 (rdb (p := 0) (i := 11) ch_cX12_habitOf_0 rfl)
theorem dX12_habitOf_12 : decode cX12_habitOf 12 = .ok (.istore_n 2, 1) := do_61 (rdb (p := 0) (i := 12) ch_cX12_habitOf_0 rfl)
theorem dX12_habitOf_13 : decode cX12_habitOf 13 = .ok (.aload_n 0, 1) := do_42 (rdb (p := 0) (i := 13) ch_cX12_habitOf_0 rfl)
theorem dX12_habitOf_14 : decode cX12_habitOf 14 = .ok (.getfield 47, 3) := do_180 (rdb (p := 0) (i := 14) ch_cX12_habitOf_0 rfl) (rdb (p := 0) (i := 15) ch_cX12_habitOf_0 rfl) (rdb (p := 0) (i := 16) ch_cX12_habitOf_0 rfl) rfl
theorem dX12_habitOf_17 : decode cX12_habitOf 17 = .ok (.iconst 0, 1) := do_3 (rdb (p := 0) (i := 17) ch_cX12_habitOf_0 rfl)
theorem dX12_habitOf_18 : decode cX12_habitOf 18 = .ok (.aload_n 0, 1) := do_42 (rdb (p := 0) (i := 18) ch_cX12_habitOf_0 rfl)
theorem dX12_habitOf_19 : decode cX12_habitOf 19 = .ok (.iload_n 1, 1) := do_27 (rdb (p := 0) (i := 19) ch_cX12_habitOf_0 rfl)
theorem dX12_habitOf_20 : decode cX12_habitOf 20 = .ok (.iload_n 2, 1) := do_28 (rdb (p := 0) (i := 20) ch_cX12_habitOf_0 rfl)
theorem dX12_habitOf_21 : decode cX12_habitOf 21 = .ok (.invokevirtual 286, 3) := do_182 (rdb (p := 0) (i := 21) ch_cX12_habitOf_0 rfl) (rdb (p := 0) (i := 22) ch_cX12_habitOf_0 rfl) (rdb (p := 0) (i := 23) ch_cX12_habitOf_0 rfl) rfl
theorem dX12_habitOf_24 : decode cX12_habitOf 24 = .ok (.iastore, 1) := do_79 (rdb (p := 0) (i := 24) ch_cX12_habitOf_0 rfl)
theorem dX12_habitOf_25 : decode cX12_habitOf 25 = .ok (.aload_n 0, 1) := do_42 (rdb (p := 0) (i := 25) ch_cX12_habitOf_0 rfl)
theorem dX12_habitOf_26 : decode cX12_habitOf 26 = .ok (.getfield 47, 3) := do_180 (rdb (p := 0) (i := 26) ch_cX12_habitOf_0 rfl) (rdb (p := 0) (i := 27) ch_cX12_habitOf_0 rfl) (rdb (p := 0) (i := 28) ch_cX12_habitOf_0 rfl) rfl
theorem dX12_habitOf_29 : decode cX12_habitOf 29 = .ok (.iconst 1, 1) := do_4 (rdb (p := 0) (i := 29) ch_cX12_habitOf_0 rfl)
theorem dX12_habitOf_30 : decode cX12_habitOf 30 = .ok (.aload_n 0, 1) := do_42 (rdb (p := 0) (i := 30) ch_cX12_habitOf_0 rfl)
theorem dX12_habitOf_31 : decode cX12_habitOf 31 = .ok (.iload_n 1, 1) := do_27 (rdb (p := 0) (i := 31) ch_cX12_habitOf_0 rfl)
theorem ch_cX12_habitOf_32 : (cX12_habitOf.data.toList.drop 32).take 36 = [28, 16, 6, 96, 182, 1, 30, 79, 42, 180, 0, 47, 5, 42, 27, 28, 5, 96, 182, 1, 30, 79, 42, 180, 0, 47, 6, 42, 180, 0, 9, 42, 27, 182, 0, 93] := by decide +kernel
theorem dX12_habitOf_32 : decode cX12_habitOf 32 = .ok (.iload_n 2, 1) := do_28 (rdb (p := 32) (i := 0) ch_cX12_habitOf_32 rfl)
theorem dX12_habitOf_33 : decode cX12_habitOf 33 = .ok (.bipush 6, 2) := do_16 (rdb (p := 32) (i := 1) ch_cX12_habitOf_32 rfl) (rdb (p := 32) (i := 2) ch_cX12_habitOf_32 rfl) (by decide +kernel)
theorem dX12_habitOf_35 : decode cX12_habitOf 35 = .ok (.iadd, 1) := do_96 (rdb (p := 32) (i := 3) ch_cX12_habitOf_32 rfl)
theorem dX12_habitOf_36 : decode cX12_habitOf 36 = .ok (.invokevirtual 286, 3) := do_182 (rdb (p := 32) (i := 4) ch_cX12_habitOf_32 rfl) (rdb (p := 32) (i := 5) ch_cX12_habitOf_32 rfl) (rdb (p := 32) (i := 6) ch_cX12_habitOf_32 rfl) rfl
theorem dX12_habitOf_39 : decode cX12_habitOf 39 = .ok (.iastore, 1) := do_79 (rdb (p := 32) (i := 7) ch_cX12_habitOf_32 rfl)
theorem dX12_habitOf_40 : decode cX12_habitOf 40 = .ok (.aload_n 0, 1) := do_42 (rdb (p := 32) (i := 8) ch_cX12_habitOf_32 rfl)
theorem dX12_habitOf_41 : decode cX12_habitOf 41 = .ok (.getfield 47, 3) := do_180 (rdb (p := 32) (i := 9) ch_cX12_habitOf_32 rfl) (rdb (p := 32) (i := 10) ch_cX12_habitOf_32 rfl) (rdb (p := 32) (i := 11) ch_cX12_habitOf_32 rfl) rfl
theorem dX12_habitOf_44 : decode cX12_habitOf 44 = .ok (.iconst 2, 1) := do_5 (rdb (p := 32) (i := 12) ch_cX12_habitOf_32 rfl)
theorem dX12_habitOf_45 : decode cX12_habitOf 45 = .ok (.aload_n 0, 1) := do_42 (rdb (p := 32) (i := 13) ch_cX12_habitOf_32 rfl)
theorem dX12_habitOf_46 : decode cX12_habitOf 46 = .ok (.iload_n 1, 1) := do_27 (rdb (p := 32) (i := 14) ch_cX12_habitOf_32 rfl)
theorem dX12_habitOf_47 : decode cX12_habitOf 47 = .ok (.iload_n 2, 1) := do_28 (rdb (p := 32) (i := 15) ch_cX12_habitOf_32 rfl)
theorem dX12_habitOf_48 : decode cX12_habitOf 48 = .ok (.iconst 2, 1) := do_5 (rdb (p := 32) (i := 16) ch_cX12_habitOf_32 rfl)
theorem dX12_habitOf_49 : decode cX12_habitOf 49 = .ok (.iadd, 1) := do_96 (rdb (p := 32) (i := 17) ch_cX12_habitOf_32 rfl)
theorem dX12_habitOf_50 : decode cX12_habitOf 50 = .ok (.invokevirtual 286, 3) := do_182 (rdb (p := 32) (i := 18) ch_cX12_habitOf_32 rfl) (rdb (p := 32) (i := 19) ch_cX12_habitOf_32 rfl) (rdb (p := 32) (i := 20) ch_cX12_habitOf_32 rfl) rfl
theorem dX12_habitOf_53 : decode cX12_habitOf 53 = .ok (.iastore, 1) := do_79 (rdb (p := 32) (i := 21) ch_cX12_habitOf_32 rfl)
theorem dX12_habitOf_54 : decode cX12_habitOf 54 = .ok (.aload_n 0, 1) := do_42 (rdb (p := 32) (i := 22) ch_cX12_habitOf_32 rfl)
theorem dX12_habitOf_55 : decode cX12_habitOf 55 = .ok (.getfield 47, 3) := do_180 (rdb (p := 32) (i := 23) ch_cX12_habitOf_32 rfl) (rdb (p := 32) (i := 24) ch_cX12_habitOf_32 rfl) (rdb (p := 32) (i := 25) ch_cX12_habitOf_32 rfl) rfl
theorem dX12_habitOf_58 : decode cX12_habitOf 58 = .ok (.iconst 3, 1) := do_6 (rdb (p := 32) (i := 26) ch_cX12_habitOf_32 rfl)
theorem dX12_habitOf_59 : decode cX12_habitOf 59 = .ok (.aload_n 0, 1) := do_42 (rdb (p := 32) (i := 27) ch_cX12_habitOf_32 rfl)
theorem dX12_habitOf_60 : decode cX12_habitOf 60 = .ok (.getfield 9, 3) := do_180 (rdb (p := 32) (i := 28) ch_cX12_habitOf_32 rfl) (rdb (p := 32) (i := 29) ch_cX12_habitOf_32 rfl) (rdb (p := 32) (i := 30) ch_cX12_habitOf_32 rfl) rfl
theorem dX12_habitOf_63 : decode cX12_habitOf 63 = .ok (.aload_n 0, 1) := do_42 (rdb (p := 32) (i := 31) ch_cX12_habitOf_32 rfl)
theorem ch_cX12_habitOf_64 : (cX12_habitOf.data.toList.drop 64).take 36 = [27, 182, 0, 93, 16, 7, 96, 46, 79, 42, 180, 0, 47, 7, 42, 180, 0, 9, 3, 46, 79, 42, 5, 182, 0, 213, 153, 0, 13, 42, 5, 182, 0, 216, 6, 126] := by decide +kernel
theorem dX12_habitOf_64 : decode cX12_habitOf 64 = .ok (.iload_n 1, 1) := do_27 (rdb (p := 64) (i := 0) ch_cX12_habitOf_64 rfl)
theorem dX12_habitOf_65 : decode cX12_habitOf 65 = .ok (.invokevirtual 93, 3) := do_182 (rdb (p := 64) (i := 1) ch_cX12_habitOf_64 rfl) (rdb (p := 64) (i := 2) ch_cX12_habitOf_64 rfl) (rdb (p := 64) (i := 3) ch_cX12_habitOf_64 rfl) rfl
theorem dX12_habitOf_68 : decode cX12_habitOf 68 = .ok (.bipush 7, 2) := do_16 (rdb (p := 64) (i := 4) ch_cX12_habitOf_64 rfl) (rdb (p := 64) (i := 5) ch_cX12_habitOf_64 rfl) (by decide +kernel)
theorem dX12_habitOf_70 : decode cX12_habitOf 70 = .ok (.iadd, 1) := do_96 (rdb (p := 64) (i := 6) ch_cX12_habitOf_64 rfl)
theorem dX12_habitOf_71 : decode cX12_habitOf 71 = .ok (.iaload, 1) := do_46 (rdb (p := 64) (i := 7) ch_cX12_habitOf_64 rfl)
theorem dX12_habitOf_72 : decode cX12_habitOf 72 = .ok (.iastore, 1) := do_79 (rdb (p := 64) (i := 8) ch_cX12_habitOf_64 rfl)
theorem dX12_habitOf_73 : decode cX12_habitOf 73 = .ok (.aload_n 0, 1) := do_42 (rdb (p := 64) (i := 9) ch_cX12_habitOf_64 rfl)
theorem dX12_habitOf_74 : decode cX12_habitOf 74 = .ok (.getfield 47, 3) := do_180 (rdb (p := 64) (i := 10) ch_cX12_habitOf_64 rfl) (rdb (p := 64) (i := 11) ch_cX12_habitOf_64 rfl) (rdb (p := 64) (i := 12) ch_cX12_habitOf_64 rfl) rfl
theorem dX12_habitOf_77 : decode cX12_habitOf 77 = .ok (.iconst 4, 1) := do_7 (rdb (p := 64) (i := 13) ch_cX12_habitOf_64 rfl)
theorem dX12_habitOf_78 : decode cX12_habitOf 78 = .ok (.aload_n 0, 1) := do_42 (rdb (p := 64) (i := 14) ch_cX12_habitOf_64 rfl)
theorem dX12_habitOf_79 : decode cX12_habitOf 79 = .ok (.getfield 9, 3) := do_180 (rdb (p := 64) (i := 15) ch_cX12_habitOf_64 rfl) (rdb (p := 64) (i := 16) ch_cX12_habitOf_64 rfl) (rdb (p := 64) (i := 17) ch_cX12_habitOf_64 rfl) rfl
theorem dX12_habitOf_82 : decode cX12_habitOf 82 = .ok (.iconst 0, 1) := do_3 (rdb (p := 64) (i := 18) ch_cX12_habitOf_64 rfl)
theorem dX12_habitOf_83 : decode cX12_habitOf 83 = .ok (.iaload, 1) := do_46 (rdb (p := 64) (i := 19) ch_cX12_habitOf_64 rfl)
theorem dX12_habitOf_84 : decode cX12_habitOf 84 = .ok (.iastore, 1) := do_79 (rdb (p := 64) (i := 20) ch_cX12_habitOf_64 rfl)
theorem dX12_habitOf_85 : decode cX12_habitOf 85 = .ok (.aload_n 0, 1) := do_42 (rdb (p := 64) (i := 21) ch_cX12_habitOf_64 rfl)
theorem dX12_habitOf_86 : decode cX12_habitOf 86 = .ok (.iconst 2, 1) := do_5 (rdb (p := 64) (i := 22) ch_cX12_habitOf_64 rfl)
theorem dX12_habitOf_87 : decode cX12_habitOf 87 = .ok (.invokevirtual 213, 3) := do_182 (rdb (p := 64) (i := 23) ch_cX12_habitOf_64 rfl) (rdb (p := 64) (i := 24) ch_cX12_habitOf_64 rfl) (rdb (p := 64) (i := 25) ch_cX12_habitOf_64 rfl) rfl
theorem dX12_habitOf_90 : decode cX12_habitOf 90 = .ok (.ifCond .eq 13, 3) := do_153 (rdb (p := 64) (i := 26) ch_cX12_habitOf_64 rfl) (rdb (p := 64) (i := 27) ch_cX12_habitOf_64 rfl) (rdb (p := 64) (i := 28) ch_cX12_habitOf_64 rfl) (by decide +kernel)
theorem dX12_habitOf_93 : decode cX12_habitOf 93 = .ok (.aload_n 0, 1) := do_42 (rdb (p := 64) (i := 29) ch_cX12_habitOf_64 rfl)
theorem dX12_habitOf_94 : decode cX12_habitOf 94 = .ok (.iconst 2, 1) := do_5 (rdb (p := 64) (i := 30) ch_cX12_habitOf_64 rfl)
theorem dX12_habitOf_95 : decode cX12_habitOf 95 = .ok (.invokevirtual 216, 3) := do_182 (rdb (p := 64) (i := 31) ch_cX12_habitOf_64 rfl) (rdb (p := 64) (i := 32) ch_cX12_habitOf_64 rfl) (rdb (p := 64) (i := 33) ch_cX12_habitOf_64 rfl) rfl
theorem ch_cX12_habitOf_96 : (cX12_habitOf.data.toList.drop 96).take 36 = [0, 216, 6, 126, 167, 0, 18, 42, 180, 0, 47, 3, 46, 4, 160, 0, 7, 4, 167, 0, 4, 3, 172] := by decide +kernel
theorem dX12_habitOf_98 : decode cX12_habitOf 98 = .ok (.iconst 3, 1) := do_6 (rdb (p := 96) (i := 2) ch_cX12_habitOf_96 rfl)
theorem dX12_habitOf_99 : decode cX12_habitOf 99 = .ok (.iand, 1) := do_126 (rdb (p := 96) (i := 3) ch_cX12_habitOf_96 rfl)
theorem dX12_habitOf_100 : decode cX12_habitOf 100 = .ok (.goto 18, 3) := do_167 (rdb (p := 96) (i := 4) ch_cX12_habitOf_96 rfl) (rdb (p := 96) (i := 5) ch_cX12_habitOf_96 rfl) (rdb (p := 96) (i := 6) ch_cX12_habitOf_96 rfl) (by decide +kernel)
theorem dX12_habitOf_103 : decode cX12_habitOf 103 = .ok (.aload_n 0, 1) := do_42 (rdb (p := 96) (i := 7) ch_cX12_habitOf_96 rfl)
theorem dX12_habitOf_104 : decode cX12_habitOf 104 = .ok (.getfield 47, 3) := do_180 (rdb (p := 96) (i := 8) ch_cX12_habitOf_96 rfl) (rdb (p := 96) (i := 9) ch_cX12_habitOf_96 rfl) (rdb (p := 96) (i := 10) ch_cX12_habitOf_96 rfl) rfl
theorem dX12_habitOf_107 : decode cX12_habitOf 107 = .ok (.iconst 0, 1) := do_3 (rdb (p := 96) (i := 11) ch_cX12_habitOf_96 rfl)
theorem dX12_habitOf_108 : decode cX12_habitOf 108 = .ok (.iaload, 1) := do_46 (rdb (p := 96) (i := 12) ch_cX12_habitOf_96 rfl)
theorem dX12_habitOf_109 : decode cX12_habitOf 109 = .ok (.iconst 1, 1) := do_4 (rdb (p := 96) (i := 13) ch_cX12_habitOf_96 rfl)
theorem dX12_habitOf_110 : decode cX12_habitOf 110 = .ok (.if_icmp .ne 7, 3) := do_160 (rdb (p := 96) (i := 14) ch_cX12_habitOf_96 rfl) (rdb (p := 96) (i := 15) ch_cX12_habitOf_96 rfl) (rdb (p := 96) (i := 16) ch_cX12_habitOf_96 rfl) (by decide +kernel)
theorem dX12_habitOf_113 : decode cX12_habitOf 113 = .ok (.iconst 1, 1) := do_4 (rdb (p := 96) (i := 17) ch_cX12_habitOf_96 rfl)
theorem dX12_habitOf_114 : decode cX12_habitOf 114 = .ok (.goto 4, 3) := do_167 (rdb (p := 96) (i := 18) ch_cX12_habitOf_96 rfl) (rdb (p := 96) (i := 19) ch_cX12_habitOf_96 rfl) (rdb (p := 96) (i := 20) ch_cX12_habitOf_96 rfl) (by decide +kernel)
theorem dX12_habitOf_117 : decode cX12_habitOf 117 = .ok (.iconst 0, 1) := do_3 (rdb (p := 96) (i := 21) ch_cX12_habitOf_96 rfl)
theorem dX12_habitOf_118 : decode cX12_habitOf 118 = .ok (.ireturn, 1) := do_172 (rdb (p := 96) (i := 22) ch_cX12_habitOf_96 rfl)
theorem ch_cX12_isPost_0 : (cX12_isPost.data.toList.drop 0).take 36 = [42, 27, 182, 0, 93, 54, 4, 3, 54, 5, 3, 54, 6, 21, 6, 16, 8, 162, 0, 115, 4, 54, 7, 4, 54, 8, 21, 8, 42, 27, 182, 0, 140, 163, 0, 93] := by decide +kernel
theorem dX12_isPost_0 : decode cX12_isPost 0 = .ok (.aload_n 0, 1) := do_42 (rdb (p := 0) (i := 0) ch_cX12_isPost_0 rfl)
theorem dX12_isPost_1 : decode cX12_isPost 1 = .ok (.iload_n 1, 1) := do_27 (rdb (p := 0) (i := 1) ch_cX12_isPost_0 rfl)
theorem dX12_isPost_2 : decode cX12_isPost 2 = .ok (.invokevirtual 93, 3) := do_182 (rdb (p := 0) (i := 2) ch_cX12_isPost_0 rfl) (rdb (p := 0) (i := 3) ch_cX12_isPost_0 rfl) (rdb (p := 0) (i := 4) ch_cX12_isPost_0 rfl) rfl
theorem dX12_isPost_5 : decode cX12_isPost 5 = .ok (.istore 4, 2) := do_54 (rdb (p := 0) (i := 5) ch_cX12_isPost_0 rfl) (rdb (p := 0) (i := 6) ch_cX12_isPost_0 rfl)
theorem dX12_isPost_7 : decode cX12_isPost 7 = .ok (.iconst 0, 1) := do_3 (rdb (p := 0) (i := 7) ch_cX12_isPost_0 rfl)
theorem dX12_isPost_8 : decode cX12_isPost 8 = .ok (.istore 5, 2) := do_54 (rdb (p := 0) (i := 8) ch_cX12_isPost_0 rfl) (rdb (p := 0) (i := 9) ch_cX12_isPost_0 rfl)
theorem dX12_isPost_10 : decode cX12_isPost 10 = .ok (.iconst 0, 1) := do_3 (rdb (p := 0) (i := 10) ch_cX12_isPost_0 rfl)
theorem dX12_isPost_11 : decode cX12_isPost 11 = .ok (.istore 6, 2) := do_54 (rdb (p := 0) (i := 11) ch_cX12_isPost_0 rfl) (rdb (p := 0) (i := 12) ch_cX12_isPost_0 rfl)
theorem dX12_isPost_13 : decode cX12_isPost 13 = .ok (.iload 6, 2) := do_21 (rdb (p := 0) (i := 13) ch_cX12_isPost_0 rfl) (rdb (p := 0) (i := 14) ch_cX12_isPost_0 rfl)
theorem dX12_isPost_15 : decode cX12_isPost 15 = .ok (.bipush 8, 2) := do_16 (rdb (p := 0) (i := 15) ch_cX12_isPost_0 rfl) (rdb (p := 0) (i := 16) ch_cX12_isPost_0 rfl) (by decide +kernel)
theorem dX12_isPost_17 : decode cX12_isPost 17 = .ok (.if_icmp .ge 115, 3) := do_162 (rdb (p := 0) (i := 17) ch_cX12_isPost_0 rfl) (rdb (p := 0) (i := 18) ch_cX12_isPost_0 rfl) (rdb (p := 0) (i := 19) ch_cX12_isPost_0 rfl) (by decide +kernel)
theorem dX12_isPost_20 : decode cX12_isPost 20 = .ok (.iconst 1, 1) := do_4 (rdb (p := 0) (i := 20) ch_cX12_isPost_0 rfl)
theorem dX12_isPost_21 : decode cX12_isPost 21 = .ok (.istore 7, 2) := do_54 (rdb (p := 0) (i := 21) ch_cX12_isPost_0 rfl) (rdb (p := 0) (i := 22) ch_cX12_isPost_0 rfl)
theorem dX12_isPost_23 : decode cX12_isPost 23 = .ok (.iconst 1, 1) := do_4 (rdb (p := 0) (i := 23) ch_cX12_isPost_0 rfl)
theorem dX12_isPost_24 : decode cX12_isPost 24 = .ok (.istore 8, 2) := do_54 (rdb (p := 0) (i := 24) ch_cX12_isPost_0 rfl) (rdb (p := 0) (i := 25) ch_cX12_isPost_0 rfl)
theorem dX12_isPost_26 : decode cX12_isPost 26 = .ok (.iload 8, 2) := do_21 (rdb (p := 0) (i := 26) ch_cX12_isPost_0 rfl) (rdb (p := 0) (i := 27) ch_cX12_isPost_0 rfl)
theorem dX12_isPost_28 : decode cX12_isPost 28 = .ok (.aload_n 0, 1) := do_42 (rdb (p := 0) (i := 28) ch_cX12_isPost_0 rfl)
theorem dX12_isPost_29 : decode cX12_isPost 29 = .ok (.iload_n 1, 1) := do_27 (rdb (p := 0) (i := 29) ch_cX12_isPost_0 rfl)
theorem dX12_isPost_30 : decode cX12_isPost 30 = .ok (.invokevirtual 140, 3) := do_182 (rdb (p := 0) (i := 30) ch_cX12_isPost_0 rfl) (rdb (p := 0) (i := 31) ch_cX12_isPost_0 rfl) (rdb (p := 0) (i := 32) ch_cX12_isPost_0 rfl) rfl
theorem ch_cX12_isPost_32 : (cX12_isPost.data.toList.drop 32).take 36 = [140, 163, 0, 93, 21, 7, 153, 0, 88, 42, 28, 21, 6, 21, 8, 182, 0, 234, 155, 0, 76, 42, 42, 28, 21, 6, 21, 8, 182, 0, 234, 182, 0, 107, 54, 7] := by decide +kernel
theorem dX12_isPost_33 : decode cX12_isPost 33 = .ok (.if_icmp .gt 93, 3) := do_163 (rdb (p := 32) (i := 1) ch_cX12_isPost_32 rfl) (rdb (p := 32) (i := 2) ch_cX12_isPost_32 rfl) (rdb (p := 32) (i := 3) ch_cX12_isPost_32 rfl) (by decide +kernel)
theorem dX12_isPost_36 : decode cX12_isPost 36 = .ok (.iload 7, 2) := do_21 (rdb (p := 32) (i := 4) ch_cX12_isPost_32 rfl) (rdb (p := 32) (i := 5) ch_cX12_isPost_32 rfl)
theorem dX12_isPost_38 : decode cX12_isPost 38 = .ok (.ifCond .eq 88, 3) := do_153 (rdb (p := 32) (i := 6) ch_cX12_isPost_32 rfl) (rdb (p := 32) (i := 7) ch_cX12_isPost_32 rfl) (rdb (p := 32) (i := 8) ch_cX12_isPost_32 rfl) (by decide +kernel)
theorem dX12_isPost_41 : decode cX12_isPost 41 = .ok (.aload_n 0, 1) := do_42 (rdb (p := 32) (i := 9) ch_cX12_isPost_32 rfl)
theorem dX12_isPost_42 : decode cX12_isPost 42 = .ok (.iload_n 2, 1) := do_28 (rdb (p := 32) (i := 10) ch_cX12_isPost_32 rfl)
theorem dX12_isPost_43 : decode cX12_isPost 43 = .ok (.iload 6, 2) := do_21 (rdb (p := 32) (i := 11) ch_cX12_isPost_32 rfl) (rdb (p := 32) (i := 12) ch_cX12_isPost_32 rfl)
theorem dX12_isPost_45 : decode cX12_isPost 45 = .ok (.iload 8, 2) := do_21 (rdb (p := 32) (i := 13) ch_cX12_isPost_32 rfl) (rdb (p := 32) (i := 14) ch_cX12_isPost_32 rfl)
theorem dX12_isPost_47 : decode cX12_isPost 47 = .ok (.invokevirtual 234, 3) := do_182 (rdb (p := 32) (i := 15) ch_cX12_isPost_32 rfl) (rdb (p := 32) (i := 16) ch_cX12_isPost_32 rfl) (rdb (p := 32) (i := 17) ch_cX12_isPost_32 rfl) rfl
theorem dX12_isPost_50 : decode cX12_isPost 50 = .ok (.ifCond .lt 76, 3) := do_155 (rdb (p := 32) (i := 18) ch_cX12_isPost_32 rfl) (rdb (p := 32) (i := 19) ch_cX12_isPost_32 rfl) (rdb (p := 32) (i := 20) ch_cX12_isPost_32 rfl) (by decide +kernel)
theorem dX12_isPost_53 : decode cX12_isPost 53 = .ok (.aload_n 0, 1) := do_42 (rdb (p := 32) (i := 21) ch_cX12_isPost_32 rfl)
theorem dX12_isPost_54 : decode cX12_isPost 54 = .ok (.aload_n 0, 1) := do_42 (rdb (p := 32) (i := 22) ch_cX12_isPost_32 rfl)
theorem dX12_isPost_55 : decode cX12_isPost 55 = .ok (.iload_n 2, 1) := do_28 (rdb (p := 32) (i := 23) ch_cX12_isPost_32 rfl)
theorem dX12_isPost_56 : decode cX12_isPost 56 = .ok (.iload 6, 2) := do_21 (rdb (p := 32) (i := 24) ch_cX12_isPost_32 rfl) (rdb (p := 32) (i := 25) ch_cX12_isPost_32 rfl)
theorem dX12_isPost_58 : decode cX12_isPost 58 = .ok (.iload 8, 2) := do_21 (rdb (p := 32) (i := 26) ch_cX12_isPost_32 rfl) (rdb (p := 32) (i := 27) ch_cX12_isPost_32 rfl)
theorem dX12_isPost_60 : decode cX12_isPost 60 = .ok (.invokevirtual 234, 3) := do_182 (rdb (p := 32) (i := 28) ch_cX12_isPost_32 rfl) (rdb (p := 32) (i := 29) ch_cX12_isPost_32 rfl) (rdb (p := 32) (i := 30) ch_cX12_isPost_32 rfl) rfl
theorem dX12_isPost_63 : decode cX12_isPost 63 = .ok (.invokevirtual 107, 3) := do_182 (rdb (p := 32) (i := 31) ch_cX12_isPost_32 rfl) (rdb (p := 32) (i := 32) ch_cX12_isPost_32 rfl) (rdb (p := 32) (i := 33) ch_cX12_isPost_32 rfl) rfl
theorem ch_cX12_isPost_64 : (cX12_isPost.data.toList.drop 64).take 36 = [0, 107, 54, 7, 21, 7, 153, 0, 50, 42, 28, 21, 6, 21, 8, 182, 0, 234, 29, 160, 0, 37, 42, 42, 27, 182, 0, 143, 4, 42, 180, 0, 9, 21, 4, 6] := by decide +kernel
theorem dX12_isPost_66 : decode cX12_isPost 66 = .ok (.istore 7, 2) := do_54 (rdb (p := 64) (i := 2) ch_cX12_isPost_64 rfl) (rdb (p := 64) (i := 3) ch_cX12_isPost_64 rfl)
theorem dX12_isPost_68 : decode cX12_isPost 68 = .ok (.iload 7, 2) := do_21 (rdb (p := 64) (i := 4) ch_cX12_isPost_64 rfl) (rdb (p := 64) (i := 5) ch_cX12_isPost_64 rfl)
theorem dX12_isPost_70 : decode cX12_isPost 70 = .ok (.ifCond .eq 50, 3) := do_153 (rdb (p := 64) (i := 6) ch_cX12_isPost_64 rfl) (rdb (p := 64) (i := 7) ch_cX12_isPost_64 rfl) (rdb (p := 64) (i := 8) ch_cX12_isPost_64 rfl) (by decide +kernel)
theorem dX12_isPost_73 : decode cX12_isPost 73 = .ok (.aload_n 0, 1) := do_42 (rdb (p := 64) (i := 9) ch_cX12_isPost_64 rfl)
theorem dX12_isPost_74 : decode cX12_isPost 74 = .ok (.iload_n 2, 1) := do_28 (rdb (p := 64) (i := 10) ch_cX12_isPost_64 rfl)
theorem dX12_isPost_75 : decode cX12_isPost 75 = .ok (.iload 6, 2) := do_21 (rdb (p := 64) (i := 11) ch_cX12_isPost_64 rfl) (rdb (p := 64) (i := 12) ch_cX12_isPost_64 rfl)
theorem dX12_isPost_77 : decode cX12_isPost 77 = .ok (.iload 8, 2) := do_21 (rdb (p := 64) (i := 13) ch_cX12_isPost_64 rfl) (rdb (p := 64) (i := 14) ch_cX12_isPost_64 rfl)
theorem dX12_isPost_79 : decode cX12_isPost 79 = .ok (.invokevirtual 234, 3) := do_182 (rdb (p := 64) (i := 15) ch_cX12_isPost_64 rfl) (rdb (p := 64) (i := 16) ch_cX12_isPost_64 rfl) (rdb (p := 64) (i := 17) ch_cX12_isPost_64 rfl) rfl
theorem dX12_isPost_82 : decode cX12_isPost 82 = .ok (.iload_n 3, 1) := do_29 (rdb (p := 64) (i := 18) ch_cX12_isPost_64 rfl)
theorem dX12_isPost_83 : decode cX12_isPost 83 = .ok (.if_icmp .ne 37, 3) := do_160 (rdb (p := 64) (i := 19) ch_cX12_isPost_64 rfl) (rdb (p := 64) (i := 20) ch_cX12_isPost_64 rfl) (rdb (p := 64) (i := 21) ch_cX12_isPost_64 rfl) (by decide +kernel)
theorem dX12_isPost_86 : decode cX12_isPost 86 = .ok (.aload_n 0, 1) := do_42 (rdb (p := 64) (i := 22) ch_cX12_isPost_64 rfl)
theorem dX12_isPost_87 : decode cX12_isPost 87 = .ok (.aload_n 0, 1) := do_42 (rdb (p := 64) (i := 23) ch_cX12_isPost_64 rfl)
theorem dX12_isPost_88 : decode cX12_isPost 88 = .ok (.iload_n 1, 1) := do_27 (rdb (p := 64) (i := 24) ch_cX12_isPost_64 rfl)
theorem dX12_isPost_89 : decode cX12_isPost 89 = .ok (.invokevirtual 143, 3) := do_182 (rdb (p := 64) (i := 25) ch_cX12_isPost_64 rfl) (rdb (p := 64) (i := 26) ch_cX12_isPost_64 rfl) (rdb (p := 64) (i := 27) ch_cX12_isPost_64 rfl) rfl
theorem dX12_isPost_92 : decode cX12_isPost 92 = .ok (.iconst 1, 1) := do_4 (rdb (p := 64) (i := 28) ch_cX12_isPost_64 rfl)
theorem dX12_isPost_93 : decode cX12_isPost 93 = .ok (.aload_n 0, 1) := do_42 (rdb (p := 64) (i := 29) ch_cX12_isPost_64 rfl)
theorem dX12_isPost_94 : decode cX12_isPost 94 = .ok (.getfield 9, 3) := do_180 (rdb (p := 64) (i := 30) ch_cX12_isPost_64 rfl) (rdb (p := 64) (i := 31) ch_cX12_isPost_64 rfl) (rdb (p := 64) (i := 32) ch_cX12_isPost_64 rfl) rfl
theorem ch_cX12_isPost_96 : (cX12_isPost.data.toList.drop 96).take 36 = [9, 21, 4, 6, 96, 46, 42, 180, 0, 9, 21, 4, 7, 96, 46, 21, 6, 21, 8, 182, 0, 249, 54, 5, 132, 8, 1, 167, 255, 159, 132, 6, 1, 167, 255, 140] := by decide +kernel
theorem dX12_isPost_97 : decode cX12_isPost 97 = .ok (.iload 4, 2) := do_21 (rdb (p := 96) (i := 1) ch_cX12_isPost_96 rfl) (rdb (p := 96) (i := 2) ch_cX12_isPost_96 rfl)
theorem dX12_isPost_99 : decode cX12_isPost 99 = .ok (.iconst 3, 1) := do_6 (rdb (p := 96) (i := 3) ch_cX12_isPost_96 rfl)
theorem dX12_isPost_100 : decode cX12_isPost 100 = .ok (.iadd, 1) := do_96 (rdb (p := 96) (i := 4) ch_cX12_isPost_96 rfl)
theorem dX12_isPost_101 : decode cX12_isPost 101 = .ok (.iaload, 1) := do_46 (rdb (p := 96) (i := 5) ch_cX12_isPost_96 rfl)
theorem dX12_isPost_102 : decode cX12_isPost 102 = .ok (.aload_n 0, 1) := do_42 (rdb (p := 96) (i := 6) ch_cX12_isPost_96 rfl)
theorem dX12_isPost_103 : decode cX12_isPost 103 = .ok (.getfield 9, 3) := do_180 (rdb (p := 96) (i := 7) ch_cX12_isPost_96 rfl) (rdb (p := 96) (i := 8) ch_cX12_isPost_96 rfl) (rdb (p := 96) (i := 9) ch_cX12_isPost_96 rfl) rfl
theorem dX12_isPost_106 : decode cX12_isPost 106 = .ok (.iload 4, 2) := do_21 (rdb (p := 96) (i := 10) ch_cX12_isPost_96 rfl) (rdb (p := 96) (i := 11) ch_cX12_isPost_96 rfl)
theorem dX12_isPost_108 : decode cX12_isPost 108 = .ok (.iconst 4, 1) := do_7 (rdb (p := 96) (i := 12) ch_cX12_isPost_96 rfl)
theorem dX12_isPost_109 : decode cX12_isPost 109 = .ok (.iadd, 1) := do_96 (rdb (p := 96) (i := 13) ch_cX12_isPost_96 rfl)
theorem dX12_isPost_110 : decode cX12_isPost 110 = .ok (.iaload, 1) := do_46 (rdb (p := 96) (i := 14) ch_cX12_isPost_96 rfl)
theorem dX12_isPost_111 : decode cX12_isPost 111 = .ok (.iload 6, 2) := do_21 (rdb (p := 96) (i := 15) ch_cX12_isPost_96 rfl) (rdb (p := 96) (i := 16) ch_cX12_isPost_96 rfl)
theorem dX12_isPost_113 : decode cX12_isPost 113 = .ok (.iload 8, 2) := do_21 (rdb (p := 96) (i := 17) ch_cX12_isPost_96 rfl) (rdb (p := 96) (i := 18) ch_cX12_isPost_96 rfl)
theorem dX12_isPost_115 : decode cX12_isPost 115 = .ok (.invokevirtual 249, 3) := do_182 (rdb (p := 96) (i := 19) ch_cX12_isPost_96 rfl) (rdb (p := 96) (i := 20) ch_cX12_isPost_96 rfl) (rdb (p := 96) (i := 21) ch_cX12_isPost_96 rfl) rfl
theorem dX12_isPost_118 : decode cX12_isPost 118 = .ok (.istore 5, 2) := do_54 (rdb (p := 96) (i := 22) ch_cX12_isPost_96 rfl) (rdb (p := 96) (i := 23) ch_cX12_isPost_96 rfl)
theorem dX12_isPost_120 : decode cX12_isPost 120 = .ok (.iinc 8 1, 3) := do_132 (rdb (p := 96) (i := 24) ch_cX12_isPost_96 rfl) (rdb (p := 96) (i := 25) ch_cX12_isPost_96 rfl) (rdb (p := 96) (i := 26) ch_cX12_isPost_96 rfl) (by decide +kernel)
theorem dX12_isPost_123 : decode cX12_isPost 123 = .ok (.goto (-97), 3) := do_167 (rdb (p := 96) (i := 27) ch_cX12_isPost_96 rfl) (rdb (p := 96) (i := 28) ch_cX12_isPost_96 rfl) (rdb (p := 96) (i := 29) ch_cX12_isPost_96 rfl) (by decide +kernel)
theorem dX12_isPost_126 : decode cX12_isPost 126 = .ok (.iinc 6 1, 3) := do_132 (rdb (p := 96) (i := 30) ch_cX12_isPost_96 rfl) (rdb (p := 96) (i := 31) ch_cX12_isPost_96 rfl) (rdb (p := 96) (i := 32) ch_cX12_isPost_96 rfl) (by decide +kernel)
theorem ch_cX12_isPost_128 : (cX12_isPost.data.toList.drop 128).take 36 = [1, 167, 255, 140, 21, 5, 172] := by decide +kernel
theorem dX12_isPost_129 : decode cX12_isPost 129 = .ok (.goto (-116), 3) := do_167 (rdb (p := 128) (i := 1) ch_cX12_isPost_128 rfl) (rdb (p := 128) (i := 2) ch_cX12_isPost_128 rfl) (rdb (p := 128) (i := 3) ch_cX12_isPost_128 rfl) (by decide +kernel)
theorem dX12_isPost_132 : decode cX12_isPost 132 = .ok (.iload 5, 2) := do_21 (rdb (p := 128) (i := 4) ch_cX12_isPost_128 rfl) (rdb (p := 128) (i := 5) ch_cX12_isPost_128 rfl)
theorem dX12_isPost_134 : decode cX12_isPost 134 = .ok (.ireturn, 1) := do_172 (rdb (p := 128) (i := 6) ch_cX12_isPost_128 rfl)
theorem ch_cX12_lesson_0 : (cX12_lesson.data.toList.drop 0).take 36 = [27, 3, 16, 31, 184, 0, 85, 153, 0, 23, 28, 3, 16, 31, 184, 0, 85, 153, 0, 13, 29, 4, 16, 99, 184, 0, 85, 154, 0, 10, 42, 18, 103, 182, 0, 104] := by decide +kernel
theorem dX12_lesson_0 : decode cX12_lesson 0 = .ok (.iload_n 1, 1) := do_27 (rdb (p := 0) (i := 0) ch_cX12_lesson_0 rfl)
theorem dX12_lesson_1 : decode cX12_lesson 1 = .ok (.iconst 0, 1) := do_3 (rdb (p := 0) (i := 1) ch_cX12_lesson_0 rfl)
theorem dX12_lesson_2 : decode cX12_lesson 2 = .ok (.bipush 31, 2) := do_16 (rdb (p := 0) (i := 2) ch_cX12_lesson_0 rfl) (rdb (p := 0) (i := 3) ch_cX12_lesson_0 rfl) (by decide +kernel)
theorem dX12_lesson_4 : decode cX12_lesson 4 = .ok (.invokestatic 85, 3) := do_184 (rdb (p := 0) (i := 4) ch_cX12_lesson_0 rfl) (rdb (p := 0) (i := 5) ch_cX12_lesson_0 rfl) (rdb (p := 0) (i := 6) ch_cX12_lesson_0 rfl) rfl
theorem dX12_lesson_7 : decode cX12_lesson 7 = .ok (.ifCond .eq 23, 3) := do_153 (rdb (p := 0) (i := 7) ch_cX12_lesson_0 rfl) (rdb (p := 0) (i := 8) ch_cX12_lesson_0 rfl) (rdb (p := 0) (i := 9) ch_cX12_lesson_0 rfl) (by decide +kernel)
theorem dX12_lesson_10 : decode cX12_lesson 10 = .ok (.iload_n 2, 1) := do_28 (rdb (p := 0) (i := 10) ch_cX12_lesson_0 rfl)
theorem dX12_lesson_11 : decode cX12_lesson 11 = .ok (.iconst 0, 1) := do_3 (rdb (p := 0) (i := 11) ch_cX12_lesson_0 rfl)
theorem dX12_lesson_12 : decode cX12_lesson 12 = .ok (.bipush 31, 2) := do_16 (rdb (p := 0) (i := 12) ch_cX12_lesson_0 rfl) (rdb (p := 0) (i := 13) ch_cX12_lesson_0 rfl) (by decide +kernel)
theorem dX12_lesson_14 : decode cX12_lesson 14 = .ok (.invokestatic 85, 3) := do_184 (rdb (p := 0) (i := 14) ch_cX12_lesson_0 rfl) (rdb (p := 0) (i := 15) ch_cX12_lesson_0 rfl) (rdb (p := 0) (i := 16) ch_cX12_lesson_0 rfl) rfl
theorem dX12_lesson_17 : decode cX12_lesson 17 = .ok (.ifCond .eq 13, 3) := do_153 (rdb (p := 0) (i := 17) ch_cX12_lesson_0 rfl) (rdb (p := 0) (i := 18) ch_cX12_lesson_0 rfl) (rdb (p := 0) (i := 19) ch_cX12_lesson_0 rfl) (by decide +kernel)
theorem dX12_lesson_20 : decode cX12_lesson 20 = .ok (.iload_n 3, 1) := do_29 (rdb (p := 0) (i := 20) ch_cX12_lesson_0 rfl)
theorem dX12_lesson_21 : decode cX12_lesson 21 = .ok (.iconst 1, 1) := do_4 (rdb (p := 0) (i := 21) ch_cX12_lesson_0 rfl)
theorem dX12_lesson_22 : decode cX12_lesson 22 = .ok (.bipush 99, 2) := do_16 (rdb (p := 0) (i := 22) ch_cX12_lesson_0 rfl) (rdb (p := 0) (i := 23) ch_cX12_lesson_0 rfl) (by decide +kernel)
theorem dX12_lesson_24 : decode cX12_lesson 24 = .ok (.invokestatic 85, 3) := do_184 (rdb (p := 0) (i := 24) ch_cX12_lesson_0 rfl) (rdb (p := 0) (i := 25) ch_cX12_lesson_0 rfl) (rdb (p := 0) (i := 26) ch_cX12_lesson_0 rfl) rfl
theorem dX12_lesson_27 : decode cX12_lesson 27 = .ok (.ifCond .ne 10, 3) := do_154 (rdb (p := 0) (i := 27) ch_cX12_lesson_0 rfl) (rdb (p := 0) (i := 28) ch_cX12_lesson_0 rfl) (rdb (p := 0) (i := 29) ch_cX12_lesson_0 rfl) (by decide +kernel)
theorem dX12_lesson_30 : decode cX12_lesson 30 = .ok (.aload_n 0, 1) := do_42 (rdb (p := 0) (i := 30) ch_cX12_lesson_0 rfl)
theorem dX12_lesson_31 : decode cX12_lesson 31 = .ok (.ldc 103, 2) := do_18 (rdb (p := 0) (i := 31) ch_cX12_lesson_0 rfl) (rdb (p := 0) (i := 32) ch_cX12_lesson_0 rfl)
theorem ch_cX12_lesson_32 : (cX12_lesson.data.toList.drop 32).take 36 = [103, 182, 0, 104, 172, 42, 180, 0, 9, 6, 46, 54, 4, 21, 4, 16, 7, 160, 0, 10, 42, 18, 111, 182, 0, 104, 172, 42, 180, 0, 9, 17, 0, 252, 6, 21] := by decide +kernel
theorem dX12_lesson_33 : decode cX12_lesson 33 = .ok (.invokevirtual 104, 3) := do_182 (rdb (p := 32) (i := 1) ch_cX12_lesson_32 rfl) (rdb (p := 32) (i := 2) ch_cX12_lesson_32 rfl) (rdb (p := 32) (i := 3) ch_cX12_lesson_32 rfl) rfl
theorem dX12_lesson_36 : decode cX12_lesson 36 = .ok (.ireturn, 1) := do_172 (rdb (p := 32) (i := 4) ch_cX12_lesson_32 rfl)
theorem dX12_lesson_37 : decode cX12_lesson 37 = .ok (.aload_n 0, 1) := do_42 (rdb (p := 32) (i := 5) ch_cX12_lesson_32 rfl)
theorem dX12_lesson_38 : decode cX12_lesson 38 = .ok (.getfield 9, 3) := do_180 (rdb (p := 32) (i := 6) ch_cX12_lesson_32 rfl) (rdb (p := 32) (i := 7) ch_cX12_lesson_32 rfl) (rdb (p := 32) (i := 8) ch_cX12_lesson_32 rfl) rfl
theorem dX12_lesson_41 : decode cX12_lesson 41 = .ok (.iconst 3, 1) := do_6 (rdb (p := 32) (i := 9) ch_cX12_lesson_32 rfl)
theorem dX12_lesson_42 : decode cX12_lesson 42 = .ok (.iaload, 1) := do_46 (rdb (p := 32) (i := 10) ch_cX12_lesson_32 rfl)
theorem dX12_lesson_43 : decode cX12_lesson 43 = .ok (.istore 4, 2) := do_54 (rdb (p := 32) (i := 11) ch_cX12_lesson_32 rfl) (rdb (p := 32) (i := 12) ch_cX12_lesson_32 rfl)
theorem dX12_lesson_45 : decode cX12_lesson 45 = .ok (.iload 4, 2) := do_21 (rdb (p := 32) (i := 13) ch_cX12_lesson_32 rfl) (rdb (p := 32) (i := 14) ch_cX12_lesson_32 rfl)
theorem dX12_lesson_47 : decode cX12_lesson 47 = .ok (.bipush 7, 2) := do_16 (rdb (p := 32) (i := 15) ch_cX12_lesson_32 rfl) (rdb (p := 32) (i := 16) ch_cX12_lesson_32 rfl) (by decide +kernel)
theorem dX12_lesson_49 : decode cX12_lesson 49 = .ok (.if_icmp .ne 10, 3) := do_160 (rdb (p := 32) (i := 17) ch_cX12_lesson_32 rfl) (rdb (p := 32) (i := 18) ch_cX12_lesson_32 rfl) (rdb (p := 32) (i := 19) ch_cX12_lesson_32 rfl) (by decide +kernel)
theorem dX12_lesson_52 : decode cX12_lesson 52 = .ok (.aload_n 0, 1) := do_42 (rdb (p := 32) (i := 20) ch_cX12_lesson_32 rfl)
theorem dX12_lesson_53 : decode cX12_lesson 53 = .ok (.ldc 111, 2) := do_18 (rdb (p := 32) (i := 21) ch_cX12_lesson_32 rfl) (rdb (p := 32) (i := 22) ch_cX12_lesson_32 rfl)
theorem dX12_lesson_55 : decode cX12_lesson 55 = .ok (.invokevirtual 104, 3) := do_182 (rdb (p := 32) (i := 23) ch_cX12_lesson_32 rfl) (rdb (p := 32) (i := 24) ch_cX12_lesson_32 rfl) (rdb (p := 32) (i := 25) ch_cX12_lesson_32 rfl) rfl
theorem dX12_lesson_58 : decode cX12_lesson 58 = .ok (.ireturn, 1) := do_172 (rdb (p := 32) (i := 26) ch_cX12_lesson_32 rfl)
theorem dX12_lesson_59 : decode cX12_lesson 59 = .ok (.aload_n 0, 1) := do_42 (rdb (p := 32) (i := 27) ch_cX12_lesson_32 rfl)
theorem dX12_lesson_60 : decode cX12_lesson 60 = .ok (.getfield 9, 3) := do_180 (rdb (p := 32) (i := 28) ch_cX12_lesson_32 rfl) (rdb (p := 32) (i := 29) ch_cX12_lesson_32 rfl) (rdb (p := 32) (i := 30) ch_cX12_lesson_32 rfl) rfl
theorem dX12_lesson_63 : decode cX12_lesson 63 = .ok (.sipush 252, 3) := do_17 (rdb (p := 32) (i := 31) ch_cX12_lesson_32 rfl) (rdb (p := 32) (i := 32) ch_cX12_lesson_32 rfl) (rdb (p := 32) (i := 33) ch_cX12_lesson_32 rfl) (by decide +kernel)
theorem ch_cX12_lesson_64 : (cX12_lesson.data.toList.drop 64).take 36 = [0, 252, 6, 21, 4, 104, 96, 27, 79, 42, 180, 0, 9, 17, 0, 252, 6, 21, 4, 104, 96, 4, 96, 28, 79, 42, 180, 0, 9, 17, 0, 252, 6, 21, 4, 104] := by decide +kernel
theorem dX12_lesson_66 : decode cX12_lesson 66 = .ok (.iconst 3, 1) := do_6 (rdb (p := 64) (i := 2) ch_cX12_lesson_64 rfl)
theorem dX12_lesson_67 : decode cX12_lesson 67 = .ok (.iload 4, 2) := do_21 (rdb (p := 64) (i := 3) ch_cX12_lesson_64 rfl) (rdb (p := 64) (i := 4) ch_cX12_lesson_64 rfl)
theorem dX12_lesson_69 : decode cX12_lesson 69 = .ok (.imul, 1) := do_104 (rdb (p := 64) (i := 5) ch_cX12_lesson_64 rfl)
theorem dX12_lesson_70 : decode cX12_lesson 70 = .ok (.iadd, 1) := do_96 (rdb (p := 64) (i := 6) ch_cX12_lesson_64 rfl)
theorem dX12_lesson_71 : decode cX12_lesson 71 = .ok (.iload_n 1, 1) := do_27 (rdb (p := 64) (i := 7) ch_cX12_lesson_64 rfl)
theorem dX12_lesson_72 : decode cX12_lesson 72 = .ok (.iastore, 1) := do_79 (rdb (p := 64) (i := 8) ch_cX12_lesson_64 rfl)
theorem dX12_lesson_73 : decode cX12_lesson 73 = .ok (.aload_n 0, 1) := do_42 (rdb (p := 64) (i := 9) ch_cX12_lesson_64 rfl)
theorem dX12_lesson_74 : decode cX12_lesson 74 = .ok (.getfield 9, 3) := do_180 (rdb (p := 64) (i := 10) ch_cX12_lesson_64 rfl) (rdb (p := 64) (i := 11) ch_cX12_lesson_64 rfl) (rdb (p := 64) (i := 12) ch_cX12_lesson_64 rfl) rfl
theorem dX12_lesson_77 : decode cX12_lesson 77 = .ok (.sipush 252, 3) := do_17 (rdb (p := 64) (i := 13) ch_cX12_lesson_64 rfl) (rdb (p := 64) (i := 14) ch_cX12_lesson_64 rfl) (rdb (p := 64) (i := 15) ch_cX12_lesson_64 rfl) (by decide +kernel)
theorem dX12_lesson_80 : decode cX12_lesson 80 = .ok (.iconst 3, 1) := do_6 (rdb (p := 64) (i := 16) ch_cX12_lesson_64 rfl)
theorem dX12_lesson_81 : decode cX12_lesson 81 = .ok (.iload 4, 2) := do_21 (rdb (p := 64) (i := 17) ch_cX12_lesson_64 rfl) (rdb (p := 64) (i := 18) ch_cX12_lesson_64 rfl)
theorem dX12_lesson_83 : decode cX12_lesson 83 = .ok (.imul, 1) := do_104 (rdb (p := 64) (i := 19) ch_cX12_lesson_64 rfl)
theorem dX12_lesson_84 : decode cX12_lesson 84 = .ok (.iadd, 1) := do_96 (rdb (p := 64) (i := 20) ch_cX12_lesson_64 rfl)
theorem dX12_lesson_85 : decode cX12_lesson 85 = .ok (.iconst 1, 1) := do_4 (rdb (p := 64) (i := 21) ch_cX12_lesson_64 rfl)
theorem dX12_lesson_86 : decode cX12_lesson 86 = .ok (.iadd, 1) := do_96 (rdb (p := 64) (i := 22) ch_cX12_lesson_64 rfl)
theorem dX12_lesson_87 : decode cX12_lesson 87 = .ok (.iload_n 2, 1) := do_28 (rdb (p := 64) (i := 23) ch_cX12_lesson_64 rfl)
theorem dX12_lesson_88 : decode cX12_lesson 88 = .ok (.iastore, 1) := do_79 (rdb (p := 64) (i := 24) ch_cX12_lesson_64 rfl)
theorem dX12_lesson_89 : decode cX12_lesson 89 = .ok (.aload_n 0, 1) := do_42 (rdb (p := 64) (i := 25) ch_cX12_lesson_64 rfl)
theorem dX12_lesson_90 : decode cX12_lesson 90 = .ok (.getfield 9, 3) := do_180 (rdb (p := 64) (i := 26) ch_cX12_lesson_64 rfl) (rdb (p := 64) (i := 27) ch_cX12_lesson_64 rfl) (rdb (p := 64) (i := 28) ch_cX12_lesson_64 rfl) rfl
theorem dX12_lesson_93 : decode cX12_lesson 93 = .ok (.sipush 252, 3) := do_17 (rdb (p := 64) (i := 29) ch_cX12_lesson_64 rfl) (rdb (p := 64) (i := 30) ch_cX12_lesson_64 rfl) (rdb (p := 64) (i := 31) ch_cX12_lesson_64 rfl) (by decide +kernel)
theorem ch_cX12_lesson_96 : (cX12_lesson.data.toList.drop 96).take 36 = [6, 21, 4, 104, 96, 5, 96, 29, 79, 42, 180, 0, 9, 6, 92, 46, 4, 96, 79, 21, 4, 172] := by decide +kernel
theorem dX12_lesson_96 : decode cX12_lesson 96 = .ok (.iconst 3, 1) := do_6 (rdb (p := 96) (i := 0) ch_cX12_lesson_96 rfl)
theorem dX12_lesson_97 : decode cX12_lesson 97 = .ok (.iload 4, 2) := do_21 (rdb (p := 96) (i := 1) ch_cX12_lesson_96 rfl) (rdb (p := 96) (i := 2) ch_cX12_lesson_96 rfl)
theorem dX12_lesson_99 : decode cX12_lesson 99 = .ok (.imul, 1) := do_104 (rdb (p := 96) (i := 3) ch_cX12_lesson_96 rfl)
theorem dX12_lesson_100 : decode cX12_lesson 100 = .ok (.iadd, 1) := do_96 (rdb (p := 96) (i := 4) ch_cX12_lesson_96 rfl)
theorem dX12_lesson_101 : decode cX12_lesson 101 = .ok (.iconst 2, 1) := do_5 (rdb (p := 96) (i := 5) ch_cX12_lesson_96 rfl)
theorem dX12_lesson_102 : decode cX12_lesson 102 = .ok (.iadd, 1) := do_96 (rdb (p := 96) (i := 6) ch_cX12_lesson_96 rfl)
theorem dX12_lesson_103 : decode cX12_lesson 103 = .ok (.iload_n 3, 1) := do_29 (rdb (p := 96) (i := 7) ch_cX12_lesson_96 rfl)
theorem dX12_lesson_104 : decode cX12_lesson 104 = .ok (.iastore, 1) := do_79 (rdb (p := 96) (i := 8) ch_cX12_lesson_96 rfl)
theorem dX12_lesson_105 : decode cX12_lesson 105 = .ok (.aload_n 0, 1) := do_42 (rdb (p := 96) (i := 9) ch_cX12_lesson_96 rfl)
theorem dX12_lesson_106 : decode cX12_lesson 106 = .ok (.getfield 9, 3) := do_180 (rdb (p := 96) (i := 10) ch_cX12_lesson_96 rfl) (rdb (p := 96) (i := 11) ch_cX12_lesson_96 rfl) (rdb (p := 96) (i := 12) ch_cX12_lesson_96 rfl) rfl
theorem dX12_lesson_109 : decode cX12_lesson 109 = .ok (.iconst 3, 1) := do_6 (rdb (p := 96) (i := 13) ch_cX12_lesson_96 rfl)
theorem dX12_lesson_110 : decode cX12_lesson 110 = .ok (.dup2, 1) := do_92 (rdb (p := 96) (i := 14) ch_cX12_lesson_96 rfl)
theorem dX12_lesson_111 : decode cX12_lesson 111 = .ok (.iaload, 1) := do_46 (rdb (p := 96) (i := 15) ch_cX12_lesson_96 rfl)
theorem dX12_lesson_112 : decode cX12_lesson 112 = .ok (.iconst 1, 1) := do_4 (rdb (p := 96) (i := 16) ch_cX12_lesson_96 rfl)
theorem dX12_lesson_113 : decode cX12_lesson 113 = .ok (.iadd, 1) := do_96 (rdb (p := 96) (i := 17) ch_cX12_lesson_96 rfl)
theorem dX12_lesson_114 : decode cX12_lesson 114 = .ok (.iastore, 1) := do_79 (rdb (p := 96) (i := 18) ch_cX12_lesson_96 rfl)
theorem dX12_lesson_115 : decode cX12_lesson 115 = .ok (.iload 4, 2) := do_21 (rdb (p := 96) (i := 19) ch_cX12_lesson_96 rfl) (rdb (p := 96) (i := 20) ch_cX12_lesson_96 rfl)
theorem dX12_lesson_117 : decode cX12_lesson 117 = .ok (.ireturn, 1) := do_172 (rdb (p := 96) (i := 21) ch_cX12_lesson_96 rfl)
theorem ch_cX12_posts_0 : (cX12_posts.data.toList.drop 0).take 36 = [42, 27, 5, 182, 0, 116, 153, 0, 27, 28, 184, 0, 127, 153, 0, 20, 29, 184, 0, 127, 153, 0, 13, 21, 4, 3, 4, 184, 0, 85, 154, 0, 10, 42, 18, 103] := by decide +kernel
theorem dX12_posts_0 : decode cX12_posts 0 = .ok (.aload_n 0, 1) := do_42 (rdb (p := 0) (i := 0) ch_cX12_posts_0 rfl)
theorem dX12_posts_1 : decode cX12_posts 1 = .ok (.iload_n 1, 1) := do_27 (rdb (p := 0) (i := 1) ch_cX12_posts_0 rfl)
theorem dX12_posts_2 : decode cX12_posts 2 = .ok (.iconst 2, 1) := do_5 (rdb (p := 0) (i := 2) ch_cX12_posts_0 rfl)
theorem dX12_posts_3 : decode cX12_posts 3 = .ok (.invokevirtual 116, 3) := do_182 (rdb (p := 0) (i := 3) ch_cX12_posts_0 rfl) (rdb (p := 0) (i := 4) ch_cX12_posts_0 rfl) (rdb (p := 0) (i := 5) ch_cX12_posts_0 rfl) rfl
theorem dX12_posts_6 : decode cX12_posts 6 = .ok (.ifCond .eq 27, 3) := do_153 (rdb (p := 0) (i := 6) ch_cX12_posts_0 rfl) (rdb (p := 0) (i := 7) ch_cX12_posts_0 rfl) (rdb (p := 0) (i := 8) ch_cX12_posts_0 rfl) (by decide +kernel)
theorem dX12_posts_9 : decode cX12_posts 9 = .ok (.iload_n 2, 1) := do_28 (rdb (p := 0) (i := 9) ch_cX12_posts_0 rfl)
theorem dX12_posts_10 : decode cX12_posts 10 = .ok (.invokestatic 127, 3) := do_184 (rdb (p := 0) (i := 10) ch_cX12_posts_0 rfl) (rdb (p := 0) (i := 11) ch_cX12_posts_0 rfl) (rdb (p := 0) (i := 12) ch_cX12_posts_0 rfl) rfl
theorem dX12_posts_13 : decode cX12_posts 13 = .ok (.ifCond .eq 20, 3) := do_153 (rdb (p := 0) (i := 13) ch_cX12_posts_0 rfl) (rdb (p := 0) (i := 14) ch_cX12_posts_0 rfl) (rdb (p := 0) (i := 15) ch_cX12_posts_0 rfl) (by decide +kernel)
theorem dX12_posts_16 : decode cX12_posts 16 = .ok (.iload_n 3, 1) := do_29 (rdb (p := 0) (i := 16) ch_cX12_posts_0 rfl)
theorem dX12_posts_17 : decode cX12_posts 17 = .ok (.invokestatic 127, 3) := do_184 (rdb (p := 0) (i := 17) ch_cX12_posts_0 rfl) (rdb (p := 0) (i := 18) ch_cX12_posts_0 rfl) (rdb (p := 0) (i := 19) ch_cX12_posts_0 rfl) rfl
theorem dX12_posts_20 : decode cX12_posts 20 = .ok (.ifCond .eq 13, 3) := do_153 (rdb (p := 0) (i := 20) ch_cX12_posts_0 rfl) (rdb (p := 0) (i := 21) ch_cX12_posts_0 rfl) (rdb (p := 0) (i := 22) ch_cX12_posts_0 rfl) (by decide +kernel)
theorem dX12_posts_23 : decode cX12_posts 23 = .ok (.iload 4, 2) := do_21 (rdb (p := 0) (i := 23) ch_cX12_posts_0 rfl) (rdb (p := 0) (i := 24) ch_cX12_posts_0 rfl)
theorem dX12_posts_25 : decode cX12_posts 25 = .ok (.iconst 0, 1) := do_3 (rdb (p := 0) (i := 25) ch_cX12_posts_0 rfl)
theorem dX12_posts_26 : decode cX12_posts 26 = .ok (.iconst 1, 1) := do_4 (rdb (p := 0) (i := 26) ch_cX12_posts_0 rfl)
theorem dX12_posts_27 : decode cX12_posts 27 = .ok (.invokestatic 85, 3) := do_184 (rdb (p := 0) (i := 27) ch_cX12_posts_0 rfl) (rdb (p := 0) (i := 28) ch_cX12_posts_0 rfl) (rdb (p := 0) (i := 29) ch_cX12_posts_0 rfl) rfl
theorem dX12_posts_30 : decode cX12_posts 30 = .ok (.ifCond .ne 10, 3) := do_154 (rdb (p := 0) (i := 30) ch_cX12_posts_0 rfl) (rdb (p := 0) (i := 31) ch_cX12_posts_0 rfl) (rdb (p := 0) (i := 32) ch_cX12_posts_0 rfl) (by decide +kernel)
theorem ch_cX12_posts_32 : (cX12_posts.data.toList.drop 32).take 36 = [10, 42, 18, 103, 182, 0, 104, 172, 42, 180, 0, 72, 28, 46, 153, 0, 12, 42, 180, 0, 72, 29, 46, 154, 0, 10, 42, 18, 130, 182, 0, 104, 172, 42, 28, 3] := by decide +kernel
theorem dX12_posts_33 : decode cX12_posts 33 = .ok (.aload_n 0, 1) := do_42 (rdb (p := 32) (i := 1) ch_cX12_posts_32 rfl)
theorem dX12_posts_34 : decode cX12_posts 34 = .ok (.ldc 103, 2) := do_18 (rdb (p := 32) (i := 2) ch_cX12_posts_32 rfl) (rdb (p := 32) (i := 3) ch_cX12_posts_32 rfl)
theorem dX12_posts_36 : decode cX12_posts 36 = .ok (.invokevirtual 104, 3) := do_182 (rdb (p := 32) (i := 4) ch_cX12_posts_32 rfl) (rdb (p := 32) (i := 5) ch_cX12_posts_32 rfl) (rdb (p := 32) (i := 6) ch_cX12_posts_32 rfl) rfl
theorem dX12_posts_39 : decode cX12_posts 39 = .ok (.ireturn, 1) := do_172 (rdb (p := 32) (i := 7) ch_cX12_posts_32 rfl)
theorem dX12_posts_40 : decode cX12_posts 40 = .ok (.aload_n 0, 1) := do_42 (rdb (p := 32) (i := 8) ch_cX12_posts_32 rfl)
theorem dX12_posts_41 : decode cX12_posts 41 = .ok (.getfield 72, 3) := do_180 (rdb (p := 32) (i := 9) ch_cX12_posts_32 rfl) (rdb (p := 32) (i := 10) ch_cX12_posts_32 rfl) (rdb (p := 32) (i := 11) ch_cX12_posts_32 rfl) rfl
theorem dX12_posts_44 : decode cX12_posts 44 = .ok (.iload_n 2, 1) := do_28 (rdb (p := 32) (i := 12) ch_cX12_posts_32 rfl)
theorem dX12_posts_45 : decode cX12_posts 45 = .ok (.iaload, 1) := do_46 (rdb (p := 32) (i := 13) ch_cX12_posts_32 rfl)
theorem dX12_posts_46 : decode cX12_posts 46 = .ok (.ifCond .eq 12, 3) := do_153 (rdb (p := 32) (i := 14) ch_cX12_posts_32 rfl) (rdb (p := 32) (i := 15) ch_cX12_posts_32 rfl) (rdb (p := 32) (i := 16) ch_cX12_posts_32 rfl) (by decide +kernel)
theorem dX12_posts_49 : decode cX12_posts 49 = .ok (.aload_n 0, 1) := do_42 (rdb (p := 32) (i := 17) ch_cX12_posts_32 rfl)
theorem dX12_posts_50 : decode cX12_posts 50 = .ok (.getfield 72, 3) := do_180 (rdb (p := 32) (i := 18) ch_cX12_posts_32 rfl) (rdb (p := 32) (i := 19) ch_cX12_posts_32 rfl) (rdb (p := 32) (i := 20) ch_cX12_posts_32 rfl) rfl
theorem dX12_posts_53 : decode cX12_posts 53 = .ok (.iload_n 3, 1) := do_29 (rdb (p := 32) (i := 21) ch_cX12_posts_32 rfl)
theorem dX12_posts_54 : decode cX12_posts 54 = .ok (.iaload, 1) := do_46 (rdb (p := 32) (i := 22) ch_cX12_posts_32 rfl)
theorem dX12_posts_55 : decode cX12_posts 55 = .ok (.ifCond .ne 10, 3) := do_154 (rdb (p := 32) (i := 23) ch_cX12_posts_32 rfl) (rdb (p := 32) (i := 24) ch_cX12_posts_32 rfl) (rdb (p := 32) (i := 25) ch_cX12_posts_32 rfl) (by decide +kernel)
theorem dX12_posts_58 : decode cX12_posts 58 = .ok (.aload_n 0, 1) := do_42 (rdb (p := 32) (i := 26) ch_cX12_posts_32 rfl)
theorem dX12_posts_59 : decode cX12_posts 59 = .ok (.ldc 130, 2) := do_18 (rdb (p := 32) (i := 27) ch_cX12_posts_32 rfl) (rdb (p := 32) (i := 28) ch_cX12_posts_32 rfl)
theorem dX12_posts_61 : decode cX12_posts 61 = .ok (.invokevirtual 104, 3) := do_182 (rdb (p := 32) (i := 29) ch_cX12_posts_32 rfl) (rdb (p := 32) (i := 30) ch_cX12_posts_32 rfl) (rdb (p := 32) (i := 31) ch_cX12_posts_32 rfl) rfl
theorem ch_cX12_posts_64 : (cX12_posts.data.toList.drop 64).take 36 = [172, 42, 28, 3, 182, 1, 16, 153, 0, 12, 42, 29, 3, 182, 1, 16, 154, 0, 10, 42, 18, 123, 182, 0, 104, 172, 42, 27, 181, 0, 28, 3, 54, 5, 21, 5] := by decide +kernel
theorem dX12_posts_64 : decode cX12_posts 64 = .ok (.ireturn, 1) := do_172 (rdb (p := 64) (i := 0) ch_cX12_posts_64 rfl)
theorem dX12_posts_65 : decode cX12_posts 65 = .ok (.aload_n 0, 1) := do_42 (rdb (p := 64) (i := 1) ch_cX12_posts_64 rfl)
theorem dX12_posts_66 : decode cX12_posts 66 = .ok (.iload_n 2, 1) := do_28 (rdb (p := 64) (i := 2) ch_cX12_posts_64 rfl)
theorem dX12_posts_67 : decode cX12_posts 67 = .ok (.iconst 0, 1) := do_3 (rdb (p := 64) (i := 3) ch_cX12_posts_64 rfl)
theorem dX12_posts_68 : decode cX12_posts 68 = .ok (.invokevirtual 272, 3) := do_182 (rdb (p := 64) (i := 4) ch_cX12_posts_64 rfl) (rdb (p := 64) (i := 5) ch_cX12_posts_64 rfl) (rdb (p := 64) (i := 6) ch_cX12_posts_64 rfl) rfl
theorem dX12_posts_71 : decode cX12_posts 71 = .ok (.ifCond .eq 12, 3) := do_153 (rdb (p := 64) (i := 7) ch_cX12_posts_64 rfl) (rdb (p := 64) (i := 8) ch_cX12_posts_64 rfl) (rdb (p := 64) (i := 9) ch_cX12_posts_64 rfl) (by decide +kernel)
theorem dX12_posts_74 : decode cX12_posts 74 = .ok (.aload_n 0, 1) := do_42 (rdb (p := 64) (i := 10) ch_cX12_posts_64 rfl)
theorem dX12_posts_75 : decode cX12_posts 75 = .ok (.iload_n 3, 1) := do_29 (rdb (p := 64) (i := 11) ch_cX12_posts_64 rfl)
theorem dX12_posts_76 : decode cX12_posts 76 = .ok (.iconst 0, 1) := do_3 (rdb (p := 64) (i := 12) ch_cX12_posts_64 rfl)
theorem dX12_posts_77 : decode cX12_posts 77 = .ok (.invokevirtual 272, 3) := do_182 (rdb (p := 64) (i := 13) ch_cX12_posts_64 rfl) (rdb (p := 64) (i := 14) ch_cX12_posts_64 rfl) (rdb (p := 64) (i := 15) ch_cX12_posts_64 rfl) rfl
theorem dX12_posts_80 : decode cX12_posts 80 = .ok (.ifCond .ne 10, 3) := do_154 (rdb (p := 64) (i := 16) ch_cX12_posts_64 rfl) (rdb (p := 64) (i := 17) ch_cX12_posts_64 rfl) (rdb (p := 64) (i := 18) ch_cX12_posts_64 rfl) (by decide +kernel)
theorem dX12_posts_83 : decode cX12_posts 83 = .ok (.aload_n 0, 1) := do_42 (rdb (p := 64) (i := 19) ch_cX12_posts_64 rfl)
theorem dX12_posts_84 : decode cX12_posts 84 = .ok (.ldc 123, 2) := do_18 (rdb (p := 64) (i := 20) ch_cX12_posts_64 rfl) (rdb (p := 64) (i := 21) ch_cX12_posts_64 rfl)
theorem dX12_posts_86 : decode cX12_posts 86 = .ok (.invokevirtual 104, 3) := do_182 (rdb (p := 64) (i := 22) ch_cX12_posts_64 rfl) (rdb (p := 64) (i := 23) ch_cX12_posts_64 rfl) (rdb (p := 64) (i := 24) ch_cX12_posts_64 rfl) rfl
theorem dX12_posts_89 : decode cX12_posts 89 = .ok (.ireturn, 1) := do_172 (rdb (p := 64) (i := 25) ch_cX12_posts_64 rfl)
theorem dX12_posts_90 : decode cX12_posts 90 = .ok (.aload_n 0, 1) := do_42 (rdb (p := 64) (i := 26) ch_cX12_posts_64 rfl)
theorem dX12_posts_91 : decode cX12_posts 91 = .ok (.iload_n 1, 1) := do_27 (rdb (p := 64) (i := 27) ch_cX12_posts_64 rfl)
theorem dX12_posts_92 : decode cX12_posts 92 = .ok (.putfield 28, 3) := do_181 (rdb (p := 64) (i := 28) ch_cX12_posts_64 rfl) (rdb (p := 64) (i := 29) ch_cX12_posts_64 rfl) (rdb (p := 64) (i := 30) ch_cX12_posts_64 rfl) rfl
theorem dX12_posts_95 : decode cX12_posts 95 = .ok (.iconst 0, 1) := do_3 (rdb (p := 64) (i := 31) ch_cX12_posts_64 rfl)
theorem ch_cX12_posts_96 : (cX12_posts.data.toList.drop 96).take 36 = [54, 5, 21, 5, 42, 180, 0, 75, 29, 46, 162, 0, 87, 42, 180, 0, 66, 21, 5, 3, 79, 3, 54, 6, 21, 6, 42, 180, 0, 75, 28, 46, 162, 0, 59, 42] := by decide +kernel
theorem dX12_posts_96 : decode cX12_posts 96 = .ok (.istore 5, 2) := do_54 (rdb (p := 96) (i := 0) ch_cX12_posts_96 rfl) (rdb (p := 96) (i := 1) ch_cX12_posts_96 rfl)
theorem dX12_posts_98 : decode cX12_posts 98 = .ok (.iload 5, 2) := do_21 (rdb (p := 96) (i := 2) ch_cX12_posts_96 rfl) (rdb (p := 96) (i := 3) ch_cX12_posts_96 rfl)
theorem dX12_posts_100 : decode cX12_posts 100 = .ok (.aload_n 0, 1) := do_42 (rdb (p := 96) (i := 4) ch_cX12_posts_96 rfl)
theorem dX12_posts_101 : decode cX12_posts 101 = .ok (.getfield 75, 3) := do_180 (rdb (p := 96) (i := 5) ch_cX12_posts_96 rfl) (rdb (p := 96) (i := 6) ch_cX12_posts_96 rfl) (rdb (p := 96) (i := 7) ch_cX12_posts_96 rfl) rfl
theorem dX12_posts_104 : decode cX12_posts 104 = .ok (.iload_n 3, 1) := do_29 (rdb (p := 96) (i := 8) ch_cX12_posts_96 rfl)
theorem dX12_posts_105 : decode cX12_posts 105 = .ok (.iaload, 1) := do_46 (rdb (p := 96) (i := 9) ch_cX12_posts_96 rfl)
theorem dX12_posts_106 : decode cX12_posts 106 = .ok (.if_icmp .ge 87, 3) := do_162 (rdb (p := 96) (i := 10) ch_cX12_posts_96 rfl) (rdb (p := 96) (i := 11) ch_cX12_posts_96 rfl) (rdb (p := 96) (i := 12) ch_cX12_posts_96 rfl) (by decide +kernel)
theorem dX12_posts_109 : decode cX12_posts 109 = .ok (.aload_n 0, 1) := do_42 (rdb (p := 96) (i := 13) ch_cX12_posts_96 rfl)
theorem dX12_posts_110 : decode cX12_posts 110 = .ok (.getfield 66, 3) := do_180 (rdb (p := 96) (i := 14) ch_cX12_posts_96 rfl) (rdb (p := 96) (i := 15) ch_cX12_posts_96 rfl) (rdb (p := 96) (i := 16) ch_cX12_posts_96 rfl) rfl
theorem dX12_posts_113 : decode cX12_posts 113 = .ok (.iload 5, 2) := do_21 (rdb (p := 96) (i := 17) ch_cX12_posts_96 rfl) (rdb (p := 96) (i := 18) ch_cX12_posts_96 rfl)
theorem dX12_posts_115 : decode cX12_posts 115 = .ok (.iconst 0, 1) := do_3 (rdb (p := 96) (i := 19) ch_cX12_posts_96 rfl)
theorem dX12_posts_116 : decode cX12_posts 116 = .ok (.iastore, 1) := do_79 (rdb (p := 96) (i := 20) ch_cX12_posts_96 rfl)
theorem dX12_posts_117 : decode cX12_posts 117 = .ok (.iconst 0, 1) := do_3 (rdb (p := 96) (i := 21) ch_cX12_posts_96 rfl)
theorem dX12_posts_118 : decode cX12_posts 118 = .ok (.istore 6, 2) := do_54 (rdb (p := 96) (i := 22) ch_cX12_posts_96 rfl) (rdb (p := 96) (i := 23) ch_cX12_posts_96 rfl)
theorem dX12_posts_120 : decode cX12_posts 120 = .ok (.iload 6, 2) := do_21 (rdb (p := 96) (i := 24) ch_cX12_posts_96 rfl) (rdb (p := 96) (i := 25) ch_cX12_posts_96 rfl)
theorem dX12_posts_122 : decode cX12_posts 122 = .ok (.aload_n 0, 1) := do_42 (rdb (p := 96) (i := 26) ch_cX12_posts_96 rfl)
theorem dX12_posts_123 : decode cX12_posts 123 = .ok (.getfield 75, 3) := do_180 (rdb (p := 96) (i := 27) ch_cX12_posts_96 rfl) (rdb (p := 96) (i := 28) ch_cX12_posts_96 rfl) (rdb (p := 96) (i := 29) ch_cX12_posts_96 rfl) rfl
theorem dX12_posts_126 : decode cX12_posts 126 = .ok (.iload_n 2, 1) := do_28 (rdb (p := 96) (i := 30) ch_cX12_posts_96 rfl)
theorem dX12_posts_127 : decode cX12_posts 127 = .ok (.iaload, 1) := do_46 (rdb (p := 96) (i := 31) ch_cX12_posts_96 rfl)
theorem ch_cX12_posts_128 : (cX12_posts.data.toList.drop 128).take 36 = [162, 0, 59, 42, 180, 0, 66, 21, 5, 92, 46, 42, 27, 42, 180, 0, 78, 16, 24, 29, 104, 21, 5, 96, 46, 42, 180, 0, 78, 16, 24, 28, 104, 21, 6, 96] := by decide +kernel
theorem dX12_posts_128 : decode cX12_posts 128 = .ok (.if_icmp .ge 59, 3) := do_162 (rdb (p := 128) (i := 0) ch_cX12_posts_128 rfl) (rdb (p := 128) (i := 1) ch_cX12_posts_128 rfl) (rdb (p := 128) (i := 2) ch_cX12_posts_128 rfl) (by decide +kernel)
theorem dX12_posts_131 : decode cX12_posts 131 = .ok (.aload_n 0, 1) := do_42 (rdb (p := 128) (i := 3) ch_cX12_posts_128 rfl)
theorem dX12_posts_132 : decode cX12_posts 132 = .ok (.getfield 66, 3) := do_180 (rdb (p := 128) (i := 4) ch_cX12_posts_128 rfl) (rdb (p := 128) (i := 5) ch_cX12_posts_128 rfl) (rdb (p := 128) (i := 6) ch_cX12_posts_128 rfl) rfl
theorem dX12_posts_135 : decode cX12_posts 135 = .ok (.iload 5, 2) := do_21 (rdb (p := 128) (i := 7) ch_cX12_posts_128 rfl) (rdb (p := 128) (i := 8) ch_cX12_posts_128 rfl)
theorem dX12_posts_137 : decode cX12_posts 137 = .ok (.dup2, 1) := do_92 (rdb (p := 128) (i := 9) ch_cX12_posts_128 rfl)
theorem dX12_posts_138 : decode cX12_posts 138 = .ok (.iaload, 1) := do_46 (rdb (p := 128) (i := 10) ch_cX12_posts_128 rfl)
theorem dX12_posts_139 : decode cX12_posts 139 = .ok (.aload_n 0, 1) := do_42 (rdb (p := 128) (i := 11) ch_cX12_posts_128 rfl)
theorem dX12_posts_140 : decode cX12_posts 140 = .ok (.iload_n 1, 1) := do_27 (rdb (p := 128) (i := 12) ch_cX12_posts_128 rfl)
theorem dX12_posts_141 : decode cX12_posts 141 = .ok (.aload_n 0, 1) := do_42 (rdb (p := 128) (i := 13) ch_cX12_posts_128 rfl)
theorem dX12_posts_142 : decode cX12_posts 142 = .ok (.getfield 78, 3) := do_180 (rdb (p := 128) (i := 14) ch_cX12_posts_128 rfl) (rdb (p := 128) (i := 15) ch_cX12_posts_128 rfl) (rdb (p := 128) (i := 16) ch_cX12_posts_128 rfl) rfl
theorem dX12_posts_145 : decode cX12_posts 145 = .ok (.bipush 24, 2) := do_16 (rdb (p := 128) (i := 17) ch_cX12_posts_128 rfl) (rdb (p := 128) (i := 18) ch_cX12_posts_128 rfl) (by decide +kernel)
theorem dX12_posts_147 : decode cX12_posts 147 = .ok (.iload_n 3, 1) := do_29 (rdb (p := 128) (i := 19) ch_cX12_posts_128 rfl)
theorem dX12_posts_148 : decode cX12_posts 148 = .ok (.imul, 1) := do_104 (rdb (p := 128) (i := 20) ch_cX12_posts_128 rfl)
theorem dX12_posts_149 : decode cX12_posts 149 = .ok (.iload 5, 2) := do_21 (rdb (p := 128) (i := 21) ch_cX12_posts_128 rfl) (rdb (p := 128) (i := 22) ch_cX12_posts_128 rfl)
theorem dX12_posts_151 : decode cX12_posts 151 = .ok (.iadd, 1) := do_96 (rdb (p := 128) (i := 23) ch_cX12_posts_128 rfl)
theorem dX12_posts_152 : decode cX12_posts 152 = .ok (.iaload, 1) := do_46 (rdb (p := 128) (i := 24) ch_cX12_posts_128 rfl)
theorem dX12_posts_153 : decode cX12_posts 153 = .ok (.aload_n 0, 1) := do_42 (rdb (p := 128) (i := 25) ch_cX12_posts_128 rfl)
theorem dX12_posts_154 : decode cX12_posts 154 = .ok (.getfield 78, 3) := do_180 (rdb (p := 128) (i := 26) ch_cX12_posts_128 rfl) (rdb (p := 128) (i := 27) ch_cX12_posts_128 rfl) (rdb (p := 128) (i := 28) ch_cX12_posts_128 rfl) rfl
theorem dX12_posts_157 : decode cX12_posts 157 = .ok (.bipush 24, 2) := do_16 (rdb (p := 128) (i := 29) ch_cX12_posts_128 rfl) (rdb (p := 128) (i := 30) ch_cX12_posts_128 rfl) (by decide +kernel)
theorem dX12_posts_159 : decode cX12_posts 159 = .ok (.iload_n 2, 1) := do_28 (rdb (p := 128) (i := 31) ch_cX12_posts_128 rfl)
theorem ch_cX12_posts_160 : (cX12_posts.data.toList.drop 160).take 36 = [104, 21, 6, 96, 46, 182, 1, 65, 153, 0, 10, 4, 21, 6, 120, 167, 0, 4, 3, 128, 79, 132, 6, 1, 167, 255, 192, 132, 5, 1, 167, 255, 164, 42, 2, 181] := by decide +kernel
theorem dX12_posts_160 : decode cX12_posts 160 = .ok (.imul, 1) := do_104 (rdb (p := 160) (i := 0) ch_cX12_posts_160 rfl)
theorem dX12_posts_161 : decode cX12_posts 161 = .ok (.iload 6, 2) := do_21 (rdb (p := 160) (i := 1) ch_cX12_posts_160 rfl) (rdb (p := 160) (i := 2) ch_cX12_posts_160 rfl)
theorem dX12_posts_163 : decode cX12_posts 163 = .ok (.iadd, 1) := do_96 (rdb (p := 160) (i := 3) ch_cX12_posts_160 rfl)
theorem dX12_posts_164 : decode cX12_posts 164 = .ok (.iaload, 1) := do_46 (rdb (p := 160) (i := 4) ch_cX12_posts_160 rfl)
theorem dX12_posts_165 : decode cX12_posts 165 = .ok (.invokevirtual 321, 3) := do_182 (rdb (p := 160) (i := 5) ch_cX12_posts_160 rfl) (rdb (p := 160) (i := 6) ch_cX12_posts_160 rfl) (rdb (p := 160) (i := 7) ch_cX12_posts_160 rfl) rfl
theorem dX12_posts_168 : decode cX12_posts 168 = .ok (.ifCond .eq 10, 3) := do_153 (rdb (p := 160) (i := 8) ch_cX12_posts_160 rfl) (rdb (p := 160) (i := 9) ch_cX12_posts_160 rfl) (rdb (p := 160) (i := 10) ch_cX12_posts_160 rfl) (by decide +kernel)
theorem dX12_posts_171 : decode cX12_posts 171 = .ok (.iconst 1, 1) := do_4 (rdb (p := 160) (i := 11) ch_cX12_posts_160 rfl)
theorem dX12_posts_172 : decode cX12_posts 172 = .ok (.iload 6, 2) := do_21 (rdb (p := 160) (i := 12) ch_cX12_posts_160 rfl) (rdb (p := 160) (i := 13) ch_cX12_posts_160 rfl)
theorem dX12_posts_174 : decode cX12_posts 174 = .ok (.ishl, 1) := do_120 (rdb (p := 160) (i := 14) ch_cX12_posts_160 rfl)
theorem dX12_posts_175 : decode cX12_posts 175 = .ok (.goto 4, 3) := do_167 (rdb (p := 160) (i := 15) ch_cX12_posts_160 rfl) (rdb (p := 160) (i := 16) ch_cX12_posts_160 rfl) (rdb (p := 160) (i := 17) ch_cX12_posts_160 rfl) (by decide +kernel)
theorem dX12_posts_178 : decode cX12_posts 178 = .ok (.iconst 0, 1) := do_3 (rdb (p := 160) (i := 18) ch_cX12_posts_160 rfl)
theorem dX12_posts_179 : decode cX12_posts 179 = .ok (.ior, 1) := do_128 (rdb (p := 160) (i := 19) ch_cX12_posts_160 rfl)
theorem dX12_posts_180 : decode cX12_posts 180 = .ok (.iastore, 1) := do_79 (rdb (p := 160) (i := 20) ch_cX12_posts_160 rfl)
theorem dX12_posts_181 : decode cX12_posts 181 = .ok (.iinc 6 1, 3) := do_132 (rdb (p := 160) (i := 21) ch_cX12_posts_160 rfl) (rdb (p := 160) (i := 22) ch_cX12_posts_160 rfl) (rdb (p := 160) (i := 23) ch_cX12_posts_160 rfl) (by decide +kernel)
theorem dX12_posts_184 : decode cX12_posts 184 = .ok (.goto (-64), 3) := do_167 (rdb (p := 160) (i := 24) ch_cX12_posts_160 rfl) (rdb (p := 160) (i := 25) ch_cX12_posts_160 rfl) (rdb (p := 160) (i := 26) ch_cX12_posts_160 rfl) (by decide +kernel)
theorem dX12_posts_187 : decode cX12_posts 187 = .ok (.iinc 5 1, 3) := do_132 (rdb (p := 160) (i := 27) ch_cX12_posts_160 rfl) (rdb (p := 160) (i := 28) ch_cX12_posts_160 rfl) (rdb (p := 160) (i := 29) ch_cX12_posts_160 rfl) (by decide +kernel)
theorem dX12_posts_190 : decode cX12_posts 190 = .ok (.goto (-92), 3) := do_167 (rdb (p := 160) (i := 30) ch_cX12_posts_160 rfl) (rdb (p := 160) (i := 31) ch_cX12_posts_160 rfl) (rdb (p := 160) (i := 32) ch_cX12_posts_160 rfl) (by decide +kernel)
theorem ch_cX12_posts_192 : (cX12_posts.data.toList.drop 192).take 36 = [164, 42, 2, 181, 0, 28, 2, 54, 5, 3, 54, 6, 21, 6, 4, 42, 180, 0, 75, 28, 46, 120, 162, 0, 89, 4, 54, 7, 3, 54, 8, 21, 8, 42, 180, 0] := by decide +kernel
theorem dX12_posts_193 : decode cX12_posts 193 = .ok (.aload_n 0, 1) := do_42 (rdb (p := 192) (i := 1) ch_cX12_posts_192 rfl)
theorem dX12_posts_194 : decode cX12_posts 194 = .ok (.iconst (-1), 1) := do_2 (rdb (p := 192) (i := 2) ch_cX12_posts_192 rfl)
theorem dX12_posts_195 : decode cX12_posts 195 = .ok (.putfield 28, 3) := do_181 (rdb (p := 192) (i := 3) ch_cX12_posts_192 rfl) (rdb (p := 192) (i := 4) ch_cX12_posts_192 rfl) (rdb (p := 192) (i := 5) ch_cX12_posts_192 rfl) rfl
theorem dX12_posts_198 : decode cX12_posts 198 = .ok (.iconst (-1), 1) := do_2 (rdb (p := 192) (i := 6) ch_cX12_posts_192 rfl)
theorem dX12_posts_199 : decode cX12_posts 199 = .ok (.istore 5, 2) := do_54 (rdb (p := 192) (i := 7) ch_cX12_posts_192 rfl) (rdb (p := 192) (i := 8) ch_cX12_posts_192 rfl)
theorem dX12_posts_201 : decode cX12_posts 201 = .ok (.iconst 0, 1) := do_3 (rdb (p := 192) (i := 9) ch_cX12_posts_192 rfl)
theorem dX12_posts_202 : decode cX12_posts 202 = .ok (.istore 6, 2) := do_54 (rdb (p := 192) (i := 10) ch_cX12_posts_192 rfl) (rdb (p := 192) (i := 11) ch_cX12_posts_192 rfl)
theorem dX12_posts_204 : decode cX12_posts 204 = .ok (.iload 6, 2) := do_21 (rdb (p := 192) (i := 12) ch_cX12_posts_192 rfl) (rdb (p := 192) (i := 13) ch_cX12_posts_192 rfl)
theorem dX12_posts_206 : decode cX12_posts 206 = .ok (.iconst 1, 1) := do_4 (rdb (p := 192) (i := 14) ch_cX12_posts_192 rfl)
theorem dX12_posts_207 : decode cX12_posts 207 = .ok (.aload_n 0, 1) := do_42 (rdb (p := 192) (i := 15) ch_cX12_posts_192 rfl)
theorem dX12_posts_208 : decode cX12_posts 208 = .ok (.getfield 75, 3) := do_180 (rdb (p := 192) (i := 16) ch_cX12_posts_192 rfl) (rdb (p := 192) (i := 17) ch_cX12_posts_192 rfl) (rdb (p := 192) (i := 18) ch_cX12_posts_192 rfl) rfl
theorem dX12_posts_211 : decode cX12_posts 211 = .ok (.iload_n 2, 1) := do_28 (rdb (p := 192) (i := 19) ch_cX12_posts_192 rfl)
theorem dX12_posts_212 : decode cX12_posts 212 = .ok (.iaload, 1) := do_46 (rdb (p := 192) (i := 20) ch_cX12_posts_192 rfl)
theorem dX12_posts_213 : decode cX12_posts 213 = .ok (.ishl, 1) := do_120 (rdb (p := 192) (i := 21) ch_cX12_posts_192 rfl)
theorem dX12_posts_214 : decode cX12_posts 214 = .ok (.if_icmp .ge 89, 3) := do_162 (rdb (p := 192) (i := 22) ch_cX12_posts_192 rfl) (rdb (p := 192) (i := 23) ch_cX12_posts_192 rfl) (rdb (p := 192) (i := 24) ch_cX12_posts_192 rfl) (by decide +kernel)
theorem dX12_posts_217 : decode cX12_posts 217 = .ok (.iconst 1, 1) := do_4 (rdb (p := 192) (i := 25) ch_cX12_posts_192 rfl)
theorem dX12_posts_218 : decode cX12_posts 218 = .ok (.istore 7, 2) := do_54 (rdb (p := 192) (i := 26) ch_cX12_posts_192 rfl) (rdb (p := 192) (i := 27) ch_cX12_posts_192 rfl)
theorem dX12_posts_220 : decode cX12_posts 220 = .ok (.iconst 0, 1) := do_3 (rdb (p := 192) (i := 28) ch_cX12_posts_192 rfl)
theorem dX12_posts_221 : decode cX12_posts 221 = .ok (.istore 8, 2) := do_54 (rdb (p := 192) (i := 29) ch_cX12_posts_192 rfl) (rdb (p := 192) (i := 30) ch_cX12_posts_192 rfl)
theorem dX12_posts_223 : decode cX12_posts 223 = .ok (.iload 8, 2) := do_21 (rdb (p := 192) (i := 31) ch_cX12_posts_192 rfl) (rdb (p := 192) (i := 32) ch_cX12_posts_192 rfl)
theorem ch_cX12_posts_224 : (cX12_posts.data.toList.drop 224).take 36 = [8, 42, 180, 0, 75, 29, 46, 162, 0, 34, 21, 7, 153, 0, 20, 42, 180, 0, 66, 21, 8, 46, 21, 6, 126, 153, 0, 7, 4, 167, 0, 4, 3, 54, 7, 132] := by decide +kernel
theorem dX12_posts_225 : decode cX12_posts 225 = .ok (.aload_n 0, 1) := do_42 (rdb (p := 224) (i := 1) ch_cX12_posts_224 rfl)
theorem dX12_posts_226 : decode cX12_posts 226 = .ok (.getfield 75, 3) := do_180 (rdb (p := 224) (i := 2) ch_cX12_posts_224 rfl) (rdb (p := 224) (i := 3) ch_cX12_posts_224 rfl) (rdb (p := 224) (i := 4) ch_cX12_posts_224 rfl) rfl
theorem dX12_posts_229 : decode cX12_posts 229 = .ok (.iload_n 3, 1) := do_29 (rdb (p := 224) (i := 5) ch_cX12_posts_224 rfl)
theorem dX12_posts_230 : decode cX12_posts 230 = .ok (.iaload, 1) := do_46 (rdb (p := 224) (i := 6) ch_cX12_posts_224 rfl)
theorem dX12_posts_231 : decode cX12_posts 231 = .ok (.if_icmp .ge 34, 3) := do_162 (rdb (p := 224) (i := 7) ch_cX12_posts_224 rfl) (rdb (p := 224) (i := 8) ch_cX12_posts_224 rfl) (rdb (p := 224) (i := 9) ch_cX12_posts_224 rfl) (by decide +kernel)
theorem dX12_posts_234 : decode cX12_posts 234 = .ok (.iload 7, 2) := do_21 (rdb (p := 224) (i := 10) ch_cX12_posts_224 rfl) (rdb (p := 224) (i := 11) ch_cX12_posts_224 rfl)
theorem dX12_posts_236 : decode cX12_posts 236 = .ok (.ifCond .eq 20, 3) := do_153 (rdb (p := 224) (i := 12) ch_cX12_posts_224 rfl) (rdb (p := 224) (i := 13) ch_cX12_posts_224 rfl) (rdb (p := 224) (i := 14) ch_cX12_posts_224 rfl) (by decide +kernel)
theorem dX12_posts_239 : decode cX12_posts 239 = .ok (.aload_n 0, 1) := do_42 (rdb (p := 224) (i := 15) ch_cX12_posts_224 rfl)
theorem dX12_posts_240 : decode cX12_posts 240 = .ok (.getfield 66, 3) := do_180 (rdb (p := 224) (i := 16) ch_cX12_posts_224 rfl) (rdb (p := 224) (i := 17) ch_cX12_posts_224 rfl) (rdb (p := 224) (i := 18) ch_cX12_posts_224 rfl) rfl
theorem dX12_posts_243 : decode cX12_posts 243 = .ok (.iload 8, 2) := do_21 (rdb (p := 224) (i := 19) ch_cX12_posts_224 rfl) (rdb (p := 224) (i := 20) ch_cX12_posts_224 rfl)
theorem dX12_posts_245 : decode cX12_posts 245 = .ok (.iaload, 1) := do_46 (rdb (p := 224) (i := 21) ch_cX12_posts_224 rfl)
theorem dX12_posts_246 : decode cX12_posts 246 = .ok (.iload 6, 2) := do_21 (rdb (p := 224) (i := 22) ch_cX12_posts_224 rfl) (rdb (p := 224) (i := 23) ch_cX12_posts_224 rfl)
theorem dX12_posts_248 : decode cX12_posts 248 = .ok (.iand, 1) := do_126 (rdb (p := 224) (i := 24) ch_cX12_posts_224 rfl)
theorem dX12_posts_249 : decode cX12_posts 249 = .ok (.ifCond .eq 7, 3) := do_153 (rdb (p := 224) (i := 25) ch_cX12_posts_224 rfl) (rdb (p := 224) (i := 26) ch_cX12_posts_224 rfl) (rdb (p := 224) (i := 27) ch_cX12_posts_224 rfl) (by decide +kernel)
theorem dX12_posts_252 : decode cX12_posts 252 = .ok (.iconst 1, 1) := do_4 (rdb (p := 224) (i := 28) ch_cX12_posts_224 rfl)
theorem dX12_posts_253 : decode cX12_posts 253 = .ok (.goto 4, 3) := do_167 (rdb (p := 224) (i := 29) ch_cX12_posts_224 rfl) (rdb (p := 224) (i := 30) ch_cX12_posts_224 rfl) (rdb (p := 224) (i := 31) ch_cX12_posts_224 rfl) (by decide +kernel)
theorem ch_cX12_posts_256 : (cX12_posts.data.toList.drop 256).take 36 = [3, 54, 7, 132, 8, 1, 167, 255, 217, 21, 7, 153, 0, 26, 21, 5, 155, 0, 16, 21, 6, 184, 1, 24, 21, 5, 184, 1, 24, 162, 0, 8, 21, 6, 167, 0] := by decide +kernel
theorem dX12_posts_256 : decode cX12_posts 256 = .ok (.iconst 0, 1) := do_3 (rdb (p := 256) (i := 0) ch_cX12_posts_256 rfl)
theorem dX12_posts_257 : decode cX12_posts 257 = .ok (.istore 7, 2) := do_54 (rdb (p := 256) (i := 1) ch_cX12_posts_256 rfl) (rdb (p := 256) (i := 2) ch_cX12_posts_256 rfl)
theorem dX12_posts_259 : decode cX12_posts 259 = .ok (.iinc 8 1, 3) := do_132 (rdb (p := 256) (i := 3) ch_cX12_posts_256 rfl) (rdb (p := 256) (i := 4) ch_cX12_posts_256 rfl) (rdb (p := 256) (i := 5) ch_cX12_posts_256 rfl) (by decide +kernel)
theorem dX12_posts_262 : decode cX12_posts 262 = .ok (.goto (-39), 3) := do_167 (rdb (p := 256) (i := 6) ch_cX12_posts_256 rfl) (rdb (p := 256) (i := 7) ch_cX12_posts_256 rfl) (rdb (p := 256) (i := 8) ch_cX12_posts_256 rfl) (by decide +kernel)
theorem dX12_posts_265 : decode cX12_posts 265 = .ok (.iload 7, 2) := do_21 (rdb (p := 256) (i := 9) ch_cX12_posts_256 rfl) (rdb (p := 256) (i := 10) ch_cX12_posts_256 rfl)
theorem dX12_posts_267 : decode cX12_posts 267 = .ok (.ifCond .eq 26, 3) := do_153 (rdb (p := 256) (i := 11) ch_cX12_posts_256 rfl) (rdb (p := 256) (i := 12) ch_cX12_posts_256 rfl) (rdb (p := 256) (i := 13) ch_cX12_posts_256 rfl) (by decide +kernel)
theorem dX12_posts_270 : decode cX12_posts 270 = .ok (.iload 5, 2) := do_21 (rdb (p := 256) (i := 14) ch_cX12_posts_256 rfl) (rdb (p := 256) (i := 15) ch_cX12_posts_256 rfl)
theorem dX12_posts_272 : decode cX12_posts 272 = .ok (.ifCond .lt 16, 3) := do_155 (rdb (p := 256) (i := 16) ch_cX12_posts_256 rfl) (rdb (p := 256) (i := 17) ch_cX12_posts_256 rfl) (rdb (p := 256) (i := 18) ch_cX12_posts_256 rfl) (by decide +kernel)
theorem dX12_posts_275 : decode cX12_posts 275 = .ok (.iload 6, 2) := do_21 (rdb (p := 256) (i := 19) ch_cX12_posts_256 rfl) (rdb (p := 256) (i := 20) ch_cX12_posts_256 rfl)
theorem dX12_posts_277 : decode cX12_posts 277 = .ok (.invokestatic 280, 3) := do_184 (rdb (p := 256) (i := 21) ch_cX12_posts_256 rfl) (rdb (p := 256) (i := 22) ch_cX12_posts_256 rfl) (rdb (p := 256) (i := 23) ch_cX12_posts_256 rfl) rfl
theorem dX12_posts_280 : decode cX12_posts 280 = .ok (.iload 5, 2) := do_21 (rdb (p := 256) (i := 24) ch_cX12_posts_256 rfl) (rdb (p := 256) (i := 25) ch_cX12_posts_256 rfl)
theorem dX12_posts_282 : decode cX12_posts 282 = .ok (.invokestatic 280, 3) := do_184 (rdb (p := 256) (i := 26) ch_cX12_posts_256 rfl) (rdb (p := 256) (i := 27) ch_cX12_posts_256 rfl) (rdb (p := 256) (i := 28) ch_cX12_posts_256 rfl) rfl
theorem dX12_posts_285 : decode cX12_posts 285 = .ok (.if_icmp .ge 8, 3) := do_162 (rdb (p := 256) (i := 29) ch_cX12_posts_256 rfl) (rdb (p := 256) (i := 30) ch_cX12_posts_256 rfl) (rdb (p := 256) (i := 31) ch_cX12_posts_256 rfl) (by decide +kernel)
theorem ch_cX12_posts_288 : (cX12_posts.data.toList.drop 288).take 36 = [21, 6, 167, 0, 5, 21, 5, 54, 5, 132, 6, 1, 167, 255, 160, 21, 5, 156, 0, 12, 42, 18, 110, 182, 0, 104, 167, 0, 18, 21, 4, 154, 0, 11, 21, 5] := by decide +kernel
theorem dX12_posts_288 : decode cX12_posts 288 = .ok (.iload 6, 2) := do_21 (rdb (p := 288) (i := 0) ch_cX12_posts_288 rfl) (rdb (p := 288) (i := 1) ch_cX12_posts_288 rfl)
theorem dX12_posts_290 : decode cX12_posts 290 = .ok (.goto 5, 3) := do_167 (rdb (p := 288) (i := 2) ch_cX12_posts_288 rfl) (rdb (p := 288) (i := 3) ch_cX12_posts_288 rfl) (rdb (p := 288) (i := 4) ch_cX12_posts_288 rfl) (by decide +kernel)
theorem dX12_posts_293 : decode cX12_posts 293 = .ok (.iload 5, 2) := do_21 (rdb (p := 288) (i := 5) ch_cX12_posts_288 rfl) (rdb (p := 288) (i := 6) ch_cX12_posts_288 rfl)
theorem dX12_posts_295 : decode cX12_posts 295 = .ok (.istore 5, 2) := do_54 (rdb (p := 288) (i := 7) ch_cX12_posts_288 rfl) (rdb (p := 288) (i := 8) ch_cX12_posts_288 rfl)
theorem dX12_posts_297 : decode cX12_posts 297 = .ok (.iinc 6 1, 3) := do_132 (rdb (p := 288) (i := 9) ch_cX12_posts_288 rfl) (rdb (p := 288) (i := 10) ch_cX12_posts_288 rfl) (rdb (p := 288) (i := 11) ch_cX12_posts_288 rfl) (by decide +kernel)
theorem dX12_posts_300 : decode cX12_posts 300 = .ok (.goto (-96), 3) := do_167 (rdb (p := 288) (i := 12) ch_cX12_posts_288 rfl) (rdb (p := 288) (i := 13) ch_cX12_posts_288 rfl) (rdb (p := 288) (i := 14) ch_cX12_posts_288 rfl) (by decide +kernel)
theorem dX12_posts_303 : decode cX12_posts 303 = .ok (.iload 5, 2) := do_21 (rdb (p := 288) (i := 15) ch_cX12_posts_288 rfl) (rdb (p := 288) (i := 16) ch_cX12_posts_288 rfl)
theorem dX12_posts_305 : decode cX12_posts 305 = .ok (.ifCond .ge 12, 3) := do_156 (rdb (p := 288) (i := 17) ch_cX12_posts_288 rfl) (rdb (p := 288) (i := 18) ch_cX12_posts_288 rfl) (rdb (p := 288) (i := 19) ch_cX12_posts_288 rfl) (by decide +kernel)
theorem dX12_posts_308 : decode cX12_posts 308 = .ok (.aload_n 0, 1) := do_42 (rdb (p := 288) (i := 20) ch_cX12_posts_288 rfl)
theorem dX12_posts_309 : decode cX12_posts 309 = .ok (.ldc 110, 2) := do_18 (rdb (p := 288) (i := 21) ch_cX12_posts_288 rfl) (rdb (p := 288) (i := 22) ch_cX12_posts_288 rfl)
theorem dX12_posts_311 : decode cX12_posts 311 = .ok (.invokevirtual 104, 3) := do_182 (rdb (p := 288) (i := 23) ch_cX12_posts_288 rfl) (rdb (p := 288) (i := 24) ch_cX12_posts_288 rfl) (rdb (p := 288) (i := 25) ch_cX12_posts_288 rfl) rfl
theorem dX12_posts_314 : decode cX12_posts 314 = .ok (.goto 18, 3) := do_167 (rdb (p := 288) (i := 26) ch_cX12_posts_288 rfl) (rdb (p := 288) (i := 27) ch_cX12_posts_288 rfl) (rdb (p := 288) (i := 28) ch_cX12_posts_288 rfl) (by decide +kernel)
theorem dX12_posts_317 : decode cX12_posts 317 = .ok (.iload 4, 2) := do_21 (rdb (p := 288) (i := 29) ch_cX12_posts_288 rfl) (rdb (p := 288) (i := 30) ch_cX12_posts_288 rfl)
theorem dX12_posts_319 : decode cX12_posts 319 = .ok (.ifCond .ne 11, 3) := do_154 (rdb (p := 288) (i := 31) ch_cX12_posts_288 rfl) (rdb (p := 288) (i := 32) ch_cX12_posts_288 rfl) (rdb (p := 288) (i := 33) ch_cX12_posts_288 rfl) (by decide +kernel)
theorem ch_cX12_posts_320 : (cX12_posts.data.toList.drop 320).take 36 = [0, 11, 21, 5, 184, 1, 24, 167, 0, 5, 21, 5, 172] := by decide +kernel
theorem dX12_posts_322 : decode cX12_posts 322 = .ok (.iload 5, 2) := do_21 (rdb (p := 320) (i := 2) ch_cX12_posts_320 rfl) (rdb (p := 320) (i := 3) ch_cX12_posts_320 rfl)
theorem dX12_posts_324 : decode cX12_posts 324 = .ok (.invokestatic 280, 3) := do_184 (rdb (p := 320) (i := 4) ch_cX12_posts_320 rfl) (rdb (p := 320) (i := 5) ch_cX12_posts_320 rfl) (rdb (p := 320) (i := 6) ch_cX12_posts_320 rfl) rfl
theorem dX12_posts_327 : decode cX12_posts 327 = .ok (.goto 5, 3) := do_167 (rdb (p := 320) (i := 7) ch_cX12_posts_320 rfl) (rdb (p := 320) (i := 8) ch_cX12_posts_320 rfl) (rdb (p := 320) (i := 9) ch_cX12_posts_320 rfl) (by decide +kernel)
theorem dX12_posts_330 : decode cX12_posts 330 = .ok (.iload 5, 2) := do_21 (rdb (p := 320) (i := 10) ch_cX12_posts_320 rfl) (rdb (p := 320) (i := 11) ch_cX12_posts_320 rfl)
theorem dX12_posts_332 : decode cX12_posts 332 = .ok (.ireturn, 1) := do_172 (rdb (p := 320) (i := 12) ch_cX12_posts_320 rfl)
theorem ch_cX12_safe_0 : (cX12_safe.data.toList.drop 0).take 36 = [42, 27, 5, 182, 0, 116, 154, 0, 10, 42, 18, 103, 182, 0, 104, 172, 42, 180, 0, 9, 42, 27, 182, 0, 93, 4, 96, 46, 61, 42, 180, 0, 9, 42, 27, 182] := by decide +kernel
theorem dX12_safe_0 : decode cX12_safe 0 = .ok (.aload_n 0, 1) := do_42 (rdb (p := 0) (i := 0) ch_cX12_safe_0 rfl)
theorem dX12_safe_1 : decode cX12_safe 1 = .ok (.iload_n 1, 1) := do_27 (rdb (p := 0) (i := 1) ch_cX12_safe_0 rfl)
theorem dX12_safe_2 : decode cX12_safe 2 = .ok (.iconst 2, 1) := do_5 (rdb (p := 0) (i := 2) ch_cX12_safe_0 rfl)
theorem dX12_safe_3 : decode cX12_safe 3 = .ok (.invokevirtual 116, 3) := do_182 (rdb (p := 0) (i := 3) ch_cX12_safe_0 rfl) (rdb (p := 0) (i := 4) ch_cX12_safe_0 rfl) (rdb (p := 0) (i := 5) ch_cX12_safe_0 rfl) rfl
theorem dX12_safe_6 : decode cX12_safe 6 = .ok (.ifCond .ne 10, 3) := do_154 (rdb (p := 0) (i := 6) ch_cX12_safe_0 rfl) (rdb (p := 0) (i := 7) ch_cX12_safe_0 rfl) (rdb (p := 0) (i := 8) ch_cX12_safe_0 rfl) (by decide +kernel)
theorem dX12_safe_9 : decode cX12_safe 9 = .ok (.aload_n 0, 1) := do_42 (rdb (p := 0) (i := 9) ch_cX12_safe_0 rfl)
theorem dX12_safe_10 : decode cX12_safe 10 = .ok (.ldc 103, 2) := do_18 (rdb (p := 0) (i := 10) ch_cX12_safe_0 rfl) (rdb (p := 0) (i := 11) ch_cX12_safe_0 rfl)
theorem dX12_safe_12 : decode cX12_safe 12 = .ok (.invokevirtual 104, 3) := do_182 (rdb (p := 0) (i := 12) ch_cX12_safe_0 rfl) (rdb (p := 0) (i := 13) ch_cX12_safe_0 rfl) (rdb (p := 0) (i := 14) ch_cX12_safe_0 rfl) rfl
theorem dX12_safe_15 : decode cX12_safe 15 = .ok (.ireturn, 1) := do_172 (rdb (p := 0) (i := 15) ch_cX12_safe_0 rfl)
theorem dX12_safe_16 : decode cX12_safe 16 = .ok (.aload_n 0, 1) := do_42 (rdb (p := 0) (i := 16) ch_cX12_safe_0 rfl)
theorem dX12_safe_17 : decode cX12_safe 17 = .ok (.getfield 9, 3) := do_180 (rdb (p := 0) (i := 17) ch_cX12_safe_0 rfl) (rdb (p := 0) (i := 18) ch_cX12_safe_0 rfl) (rdb (p := 0) (i := 19) ch_cX12_safe_0 rfl) rfl
theorem dX12_safe_20 : decode cX12_safe 20 = .ok (.aload_n 0, 1) := do_42 (rdb (p := 0) (i := 20) ch_cX12_safe_0 rfl)
theorem dX12_safe_21 : decode cX12_safe 21 = .ok (.iload_n 1, 1) := do_27 (rdb (p := 0) (i := 21) ch_cX12_safe_0 rfl)
theorem dX12_safe_22 : decode cX12_safe 22 = .ok (.invokevirtual 93, 3) := do_182 (rdb (p := 0) (i := 22) ch_cX12_safe_0 rfl) (rdb (p := 0) (i := 23) ch_cX12_safe_0 rfl) (rdb (p := 0) (i := 24) ch_cX12_safe_0 rfl) rfl
theorem dX12_safe_25 : decode cX12_safe 25 = .ok (.iconst 1, 1) := do_4 (rdb (p := 0) (i := 25) ch_cX12_safe_0 rfl)
theorem dX12_safe_26 : decode cX12_safe 26 = .ok (.iadd, 1) := do_96 (rdb (p := 0) (i := 26) ch_cX12_safe_0 rfl)
theorem dX12_safe_27 : decode cX12_safe 27 = .ok (.iaload, 1) := do_46 (rdb (p := 0) (i := 27) ch_cX12_safe_0 rfl)
theorem dX12_safe_28 : decode cX12_safe 28 = .ok (.istore_n 2, 1) := do_61 (rdb (p := 0) (i := 28) ch_cX12_safe_0 rfl)
theorem dX12_safe_29 : decode cX12_safe 29 = .ok (.aload_n 0, 1) := do_42 (rdb (p := 0) (i := 29) ch_cX12_safe_0 rfl)
theorem dX12_safe_30 : decode cX12_safe 30 = .ok (.getfield 9, 3) := do_180 (rdb (p := 0) (i := 30) ch_cX12_safe_0 rfl) (rdb (p := 0) (i := 31) ch_cX12_safe_0 rfl) (rdb (p := 0) (i := 32) ch_cX12_safe_0 rfl) rfl
theorem ch_cX12_safe_32 : (cX12_safe.data.toList.drop 32).take 36 = [9, 42, 27, 182, 0, 93, 5, 96, 46, 62, 42, 27, 28, 29, 182, 1, 0, 54, 4, 21, 4, 4, 100, 54, 5, 21, 4, 154, 0, 51, 3, 54, 5, 21, 5, 16] := by decide +kernel
theorem dX12_safe_33 : decode cX12_safe 33 = .ok (.aload_n 0, 1) := do_42 (rdb (p := 32) (i := 1) ch_cX12_safe_32 rfl)
theorem dX12_safe_34 : decode cX12_safe 34 = .ok (.iload_n 1, 1) := do_27 (rdb (p := 32) (i := 2) ch_cX12_safe_32 rfl)
theorem dX12_safe_35 : decode cX12_safe 35 = .ok (.invokevirtual 93, 3) := do_182 (rdb (p := 32) (i := 3) ch_cX12_safe_32 rfl) (rdb (p := 32) (i := 4) ch_cX12_safe_32 rfl) (rdb (p := 32) (i := 5) ch_cX12_safe_32 rfl) rfl
theorem dX12_safe_38 : decode cX12_safe 38 = .ok (.iconst 2, 1) := do_5 (rdb (p := 32) (i := 6) ch_cX12_safe_32 rfl)
theorem dX12_safe_39 : decode cX12_safe 39 = .ok (.iadd, 1) := do_96 (rdb (p := 32) (i := 7) ch_cX12_safe_32 rfl)
theorem dX12_safe_40 : decode cX12_safe 40 = .ok (.iaload, 1) := do_46 (rdb (p := 32) (i := 8) ch_cX12_safe_32 rfl)
theorem dX12_safe_41 : decode cX12_safe 41 = .ok (.istore_n 3, 1) := do_62 (rdb (p := 32) (i := 9) ch_cX12_safe_32 rfl)
theorem dX12_safe_42 : decode cX12_safe 42 = .ok (.aload_n 0, 1) := do_42 (rdb (p := 32) (i := 10) ch_cX12_safe_32 rfl)
theorem dX12_safe_43 : decode cX12_safe 43 = .ok (.iload_n 1, 1) := do_27 (rdb (p := 32) (i := 11) ch_cX12_safe_32 rfl)
theorem dX12_safe_44 : decode cX12_safe 44 = .ok (.iload_n 2, 1) := do_28 (rdb (p := 32) (i := 12) ch_cX12_safe_32 rfl)
theorem dX12_safe_45 : decode cX12_safe 45 = .ok (.iload_n 3, 1) := do_29 (rdb (p := 32) (i := 13) ch_cX12_safe_32 rfl)
theorem dX12_safe_46 : decode cX12_safe 46 = .ok (.invokevirtual 256, 3) := do_182 (rdb (p := 32) (i := 14) ch_cX12_safe_32 rfl) (rdb (p := 32) (i := 15) ch_cX12_safe_32 rfl) (rdb (p := 32) (i := 16) ch_cX12_safe_32 rfl) rfl
theorem dX12_safe_49 : decode cX12_safe 49 = .ok (.istore 4, 2) := do_54 (rdb (p := 32) (i := 17) ch_cX12_safe_32 rfl) (rdb (p := 32) (i := 18) ch_cX12_safe_32 rfl)
theorem dX12_safe_51 : decode cX12_safe 51 = .ok (.iload 4, 2) := do_21 (rdb (p := 32) (i := 19) ch_cX12_safe_32 rfl) (rdb (p := 32) (i := 20) ch_cX12_safe_32 rfl)
theorem dX12_safe_53 : decode cX12_safe 53 = .ok (.iconst 1, 1) := do_4 (rdb (p := 32) (i := 21) ch_cX12_safe_32 rfl)
theorem dX12_safe_54 : decode cX12_safe 54 = .ok (.isub, 1) := do_100 (rdb (p := 32) (i := 22) ch_cX12_safe_32 rfl)
theorem dX12_safe_55 : decode cX12_safe 55 = .ok (.istore 5, 2) := do_54 (rdb (p := 32) (i := 23) ch_cX12_safe_32 rfl) (rdb (p := 32) (i := 24) ch_cX12_safe_32 rfl)
theorem dX12_safe_57 : decode cX12_safe 57 = .ok (.iload 4, 2) := do_21 (rdb (p := 32) (i := 25) ch_cX12_safe_32 rfl) (rdb (p := 32) (i := 26) ch_cX12_safe_32 rfl)
theorem dX12_safe_59 : decode cX12_safe 59 = .ok (.ifCond .ne 51, 3) := do_154 (rdb (p := 32) (i := 27) ch_cX12_safe_32 rfl) (rdb (p := 32) (i := 28) ch_cX12_safe_32 rfl) (rdb (p := 32) (i := 29) ch_cX12_safe_32 rfl) (by decide +kernel)
theorem dX12_safe_62 : decode cX12_safe 62 = .ok (.iconst 0, 1) := do_3 (rdb (p := 32) (i := 30) ch_cX12_safe_32 rfl)
theorem dX12_safe_63 : decode cX12_safe 63 = .ok (.istore 5, 2) := do_54 (rdb (p := 32) (i := 31) ch_cX12_safe_32 rfl) (rdb (p := 32) (i := 32) ch_cX12_safe_32 rfl)
theorem ch_cX12_safe_64 : (cX12_safe.data.toList.drop 64).take 36 = [5, 21, 5, 16, 15, 162, 0, 41, 42, 28, 29, 21, 5, 4, 96, 182, 0, 234, 155, 0, 28, 42, 27, 42, 28, 29, 21, 5, 4, 96, 182, 0, 234, 182, 1, 13] := by decide +kernel
theorem dX12_safe_65 : decode cX12_safe 65 = .ok (.iload 5, 2) := do_21 (rdb (p := 64) (i := 1) ch_cX12_safe_64 rfl) (rdb (p := 64) (i := 2) ch_cX12_safe_64 rfl)
theorem dX12_safe_67 : decode cX12_safe 67 = .ok (.bipush 15, 2) := do_16 (rdb (p := 64) (i := 3) ch_cX12_safe_64 rfl) (rdb (p := 64) (i := 4) ch_cX12_safe_64 rfl) (by decide +kernel)
theorem dX12_safe_69 : decode cX12_safe 69 = .ok (.if_icmp .ge 41, 3) := do_162 (rdb (p := 64) (i := 5) ch_cX12_safe_64 rfl) (rdb (p := 64) (i := 6) ch_cX12_safe_64 rfl) (rdb (p := 64) (i := 7) ch_cX12_safe_64 rfl) (by decide +kernel)
theorem dX12_safe_72 : decode cX12_safe 72 = .ok (.aload_n 0, 1) := do_42 (rdb (p := 64) (i := 8) ch_cX12_safe_64 rfl)
theorem dX12_safe_73 : decode cX12_safe 73 = .ok (.iload_n 2, 1) := do_28 (rdb (p := 64) (i := 9) ch_cX12_safe_64 rfl)
theorem dX12_safe_74 : decode cX12_safe 74 = .ok (.iload_n 3, 1) := do_29 (rdb (p := 64) (i := 10) ch_cX12_safe_64 rfl)
theorem dX12_safe_75 : decode cX12_safe 75 = .ok (.iload 5, 2) := do_21 (rdb (p := 64) (i := 11) ch_cX12_safe_64 rfl) (rdb (p := 64) (i := 12) ch_cX12_safe_64 rfl)
theorem dX12_safe_77 : decode cX12_safe 77 = .ok (.iconst 1, 1) := do_4 (rdb (p := 64) (i := 13) ch_cX12_safe_64 rfl)
theorem dX12_safe_78 : decode cX12_safe 78 = .ok (.iadd, 1) := do_96 (rdb (p := 64) (i := 14) ch_cX12_safe_64 rfl)
theorem dX12_safe_79 : decode cX12_safe 79 = .ok (.invokevirtual 234, 3) := do_182 (rdb (p := 64) (i := 15) ch_cX12_safe_64 rfl) (rdb (p := 64) (i := 16) ch_cX12_safe_64 rfl) (rdb (p := 64) (i := 17) ch_cX12_safe_64 rfl) rfl
theorem dX12_safe_82 : decode cX12_safe 82 = .ok (.ifCond .lt 28, 3) := do_155 (rdb (p := 64) (i := 18) ch_cX12_safe_64 rfl) (rdb (p := 64) (i := 19) ch_cX12_safe_64 rfl) (rdb (p := 64) (i := 20) ch_cX12_safe_64 rfl) (by decide +kernel)
theorem dX12_safe_85 : decode cX12_safe 85 = .ok (.aload_n 0, 1) := do_42 (rdb (p := 64) (i := 21) ch_cX12_safe_64 rfl)
theorem dX12_safe_86 : decode cX12_safe 86 = .ok (.iload_n 1, 1) := do_27 (rdb (p := 64) (i := 22) ch_cX12_safe_64 rfl)
theorem dX12_safe_87 : decode cX12_safe 87 = .ok (.aload_n 0, 1) := do_42 (rdb (p := 64) (i := 23) ch_cX12_safe_64 rfl)
theorem dX12_safe_88 : decode cX12_safe 88 = .ok (.iload_n 2, 1) := do_28 (rdb (p := 64) (i := 24) ch_cX12_safe_64 rfl)
theorem dX12_safe_89 : decode cX12_safe 89 = .ok (.iload_n 3, 1) := do_29 (rdb (p := 64) (i := 25) ch_cX12_safe_64 rfl)
theorem dX12_safe_90 : decode cX12_safe 90 = .ok (.iload 5, 2) := do_21 (rdb (p := 64) (i := 26) ch_cX12_safe_64 rfl) (rdb (p := 64) (i := 27) ch_cX12_safe_64 rfl)
theorem dX12_safe_92 : decode cX12_safe 92 = .ok (.iconst 1, 1) := do_4 (rdb (p := 64) (i := 28) ch_cX12_safe_64 rfl)
theorem dX12_safe_93 : decode cX12_safe 93 = .ok (.iadd, 1) := do_96 (rdb (p := 64) (i := 29) ch_cX12_safe_64 rfl)
theorem dX12_safe_94 : decode cX12_safe 94 = .ok (.invokevirtual 234, 3) := do_182 (rdb (p := 64) (i := 30) ch_cX12_safe_64 rfl) (rdb (p := 64) (i := 31) ch_cX12_safe_64 rfl) (rdb (p := 64) (i := 32) ch_cX12_safe_64 rfl) rfl
theorem ch_cX12_safe_96 : (cX12_safe.data.toList.drop 96).take 36 = [234, 182, 1, 13, 4, 160, 0, 9, 132, 5, 1, 167, 255, 214, 3, 54, 6, 21, 6, 16, 9, 162, 0, 25, 21, 6, 4, 96, 21, 6, 5, 96, 104, 5, 108, 21] := by decide +kernel
theorem dX12_safe_97 : decode cX12_safe 97 = .ok (.invokevirtual 269, 3) := do_182 (rdb (p := 96) (i := 1) ch_cX12_safe_96 rfl) (rdb (p := 96) (i := 2) ch_cX12_safe_96 rfl) (rdb (p := 96) (i := 3) ch_cX12_safe_96 rfl) rfl
theorem dX12_safe_100 : decode cX12_safe 100 = .ok (.iconst 1, 1) := do_4 (rdb (p := 96) (i := 4) ch_cX12_safe_96 rfl)
theorem dX12_safe_101 : decode cX12_safe 101 = .ok (.if_icmp .ne 9, 3) := do_160 (rdb (p := 96) (i := 5) ch_cX12_safe_96 rfl) (rdb (p := 96) (i := 6) ch_cX12_safe_96 rfl) (rdb (p := 96) (i := 7) ch_cX12_safe_96 rfl) (by decide +kernel)
theorem dX12_safe_104 : decode cX12_safe 104 = .ok (.iinc 5 1, 3) := do_132 (rdb (p := 96) (i := 8) ch_cX12_safe_96 rfl) (rdb (p := 96) (i := 9) ch_cX12_safe_96 rfl) (rdb (p := 96) (i := 10) ch_cX12_safe_96 rfl) (by decide +kernel)
theorem dX12_safe_107 : decode cX12_safe 107 = .ok (.goto (-42), 3) := do_167 (rdb (p := 96) (i := 11) ch_cX12_safe_96 rfl) (rdb (p := 96) (i := 12) ch_cX12_safe_96 rfl) (rdb (p := 96) (i := 13) ch_cX12_safe_96 rfl) (by decide +kernel)
theorem dX12_safe_110 : decode cX12_safe 110 = .ok (.iconst 0, 1) := do_3 (rdb (p := 96) (i := 14) ch_cX12_safe_96 rfl)
theorem dX12_safe_111 : decode cX12_safe 111 = .ok (.istore 6, 2) := do_54 (rdb (p := 96) (i := 15) ch_cX12_safe_96 rfl) (rdb (p := 96) (i := 16) ch_cX12_safe_96 rfl)
theorem dX12_safe_113 : decode cX12_safe 113 = .ok (.iload 6, 2) := do_21 (rdb (p := 96) (i := 17) ch_cX12_safe_96 rfl) (rdb (p := 96) (i := 18) ch_cX12_safe_96 rfl)
theorem dX12_safe_115 : decode cX12_safe 115 = .ok (.bipush 9, 2) := do_16 (rdb (p := 96) (i := 19) ch_cX12_safe_96 rfl) (rdb (p := 96) (i := 20) ch_cX12_safe_96 rfl) (by decide +kernel)
theorem dX12_safe_117 : decode cX12_safe 117 = .ok (.if_icmp .ge 25, 3) := do_162 (rdb (p := 96) (i := 21) ch_cX12_safe_96 rfl) (rdb (p := 96) (i := 22) ch_cX12_safe_96 rfl) (rdb (p := 96) (i := 23) ch_cX12_safe_96 rfl) (by decide +kernel)
theorem dX12_safe_120 : decode cX12_safe 120 = .ok (.iload 6, 2) := do_21 (rdb (p := 96) (i := 24) ch_cX12_safe_96 rfl) (rdb (p := 96) (i := 25) ch_cX12_safe_96 rfl)
theorem dX12_safe_122 : decode cX12_safe 122 = .ok (.iconst 1, 1) := do_4 (rdb (p := 96) (i := 26) ch_cX12_safe_96 rfl)
theorem dX12_safe_123 : decode cX12_safe 123 = .ok (.iadd, 1) := do_96 (rdb (p := 96) (i := 27) ch_cX12_safe_96 rfl)
theorem dX12_safe_124 : decode cX12_safe 124 = .ok (.iload 6, 2) := do_21 (rdb (p := 96) (i := 28) ch_cX12_safe_96 rfl) (rdb (p := 96) (i := 29) ch_cX12_safe_96 rfl)
theorem dX12_safe_126 : decode cX12_safe 126 = .ok (.iconst 2, 1) := do_5 (rdb (p := 96) (i := 30) ch_cX12_safe_96 rfl)
theorem dX12_safe_127 : decode cX12_safe 127 = .ok (.iadd, 1) := do_96 (rdb (p := 96) (i := 31) ch_cX12_safe_96 rfl)
theorem ch_cX12_safe_128 : (cX12_safe.data.toList.drop 128).take 36 = [104, 5, 108, 21, 5, 163, 0, 9, 132, 6, 1, 167, 255, 230, 21, 6, 172] := by decide +kernel
theorem dX12_safe_128 : decode cX12_safe 128 = .ok (.imul, 1) := do_104 (rdb (p := 128) (i := 0) ch_cX12_safe_128 rfl)
theorem dX12_safe_129 : decode cX12_safe 129 = .ok (.iconst 2, 1) := do_5 (rdb (p := 128) (i := 1) ch_cX12_safe_128 rfl)
theorem dX12_safe_130 : decode cX12_safe 130 = .ok (.idiv, 1) := do_108 (rdb (p := 128) (i := 2) ch_cX12_safe_128 rfl)
theorem dX12_safe_131 : decode cX12_safe 131 = .ok (.iload 5, 2) := do_21 (rdb (p := 128) (i := 3) ch_cX12_safe_128 rfl) (rdb (p := 128) (i := 4) ch_cX12_safe_128 rfl)
theorem dX12_safe_133 : decode cX12_safe 133 = .ok (.if_icmp .gt 9, 3) := do_163 (rdb (p := 128) (i := 5) ch_cX12_safe_128 rfl) (rdb (p := 128) (i := 6) ch_cX12_safe_128 rfl) (rdb (p := 128) (i := 7) ch_cX12_safe_128 rfl) (by decide +kernel)
theorem dX12_safe_136 : decode cX12_safe 136 = .ok (.iinc 6 1, 3) := do_132 (rdb (p := 128) (i := 8) ch_cX12_safe_128 rfl) (rdb (p := 128) (i := 9) ch_cX12_safe_128 rfl) (rdb (p := 128) (i := 10) ch_cX12_safe_128 rfl) (by decide +kernel)
theorem dX12_safe_139 : decode cX12_safe 139 = .ok (.goto (-26), 3) := do_167 (rdb (p := 128) (i := 11) ch_cX12_safe_128 rfl) (rdb (p := 128) (i := 12) ch_cX12_safe_128 rfl) (rdb (p := 128) (i := 13) ch_cX12_safe_128 rfl) (by decide +kernel)
theorem dX12_safe_142 : decode cX12_safe 142 = .ok (.iload 6, 2) := do_21 (rdb (p := 128) (i := 14) ch_cX12_safe_128 rfl) (rdb (p := 128) (i := 15) ch_cX12_safe_128 rfl)
theorem dX12_safe_144 : decode cX12_safe 144 = .ok (.ireturn, 1) := do_172 (rdb (p := 128) (i := 16) ch_cX12_safe_128 rfl)
theorem ch_cX12_tenth_0 : (cX12_tenth.data.toList.drop 0).take 36 = [42, 180, 0, 9, 3, 92, 46, 4, 96, 79, 3, 60, 27, 42, 180, 0, 9, 4, 46, 162, 0, 14, 42, 27, 182, 1, 39, 132, 1, 1, 167, 255, 238, 3, 60, 27] := by decide +kernel
theorem dX12_tenth_0 : decode cX12_tenth 0 = .ok (.aload_n 0, 1) := do_42 (rdb (p := 0) (i := 0) ch_cX12_tenth_0 rfl)
theorem dX12_tenth_1 : decode cX12_tenth 1 = .ok (.getfield 9, 3) := do_180 (rdb (p := 0) (i := 1) ch_cX12_tenth_0 rfl) (rdb (p := 0) (i := 2) ch_cX12_tenth_0 rfl) (rdb (p := 0) (i := 3) ch_cX12_tenth_0 rfl) rfl
theorem dX12_tenth_4 : decode cX12_tenth 4 = .ok (.iconst 0, 1) := do_3 (rdb (p := 0) (i := 4) ch_cX12_tenth_0 rfl)
theorem dX12_tenth_5 : decode cX12_tenth 5 = .ok (.dup2, 1) := do_92 (rdb (p := 0) (i := 5) ch_cX12_tenth_0 rfl)
theorem dX12_tenth_6 : decode cX12_tenth 6 = .ok (.iaload, 1) := do_46 (rdb (p := 0) (i := 6) ch_cX12_tenth_0 rfl)
theorem dX12_tenth_7 : decode cX12_tenth 7 = .ok (.iconst 1, 1) := do_4 (rdb (p := 0) (i := 7) ch_cX12_tenth_0 rfl)
theorem dX12_tenth_8 : decode cX12_tenth 8 = .ok (.iadd, 1) := do_96 (rdb (p := 0) (i := 8) ch_cX12_tenth_0 rfl)
theorem dX12_tenth_9 : decode cX12_tenth 9 = .ok (.iastore, 1) := do_79 (rdb (p := 0) (i := 9) ch_cX12_tenth_0 rfl)
theorem dX12_tenth_10 : decode cX12_tenth 10 = .ok (.iconst 0, 1) := do_3 (rdb (p := 0) (i := 10) ch_cX12_tenth_0 rfl)
theorem dX12_tenth_11 : decode cX12_tenth 11 = .ok (.istore_n 1, 1) := do_60 (rdb (p := 0) (i := 11) ch_cX12_tenth_0 rfl)
theorem dX12_tenth_12 : decode cX12_tenth 12 = .ok (.iload_n 1, 1) := do_27 (rdb (p := 0) (i := 12) ch_cX12_tenth_0 rfl)
theorem dX12_tenth_13 : decode cX12_tenth 13 = .ok (.aload_n 0, 1) := do_42 (rdb (p := 0) (i := 13) ch_cX12_tenth_0 rfl)
theorem dX12_tenth_14 : decode cX12_tenth 14 = .ok (.getfield 9, 3) := do_180 (rdb (p := 0) (i := 14) ch_cX12_tenth_0 rfl) (rdb (p := 0) (i := 15) ch_cX12_tenth_0 rfl) (rdb (p := 0) (i := 16) ch_cX12_tenth_0 rfl) rfl
theorem dX12_tenth_17 : decode cX12_tenth 17 = .ok (.iconst 1, 1) := do_4 (rdb (p := 0) (i := 17) ch_cX12_tenth_0 rfl)
theorem dX12_tenth_18 : decode cX12_tenth 18 = .ok (.iaload, 1) := do_46 (rdb (p := 0) (i := 18) ch_cX12_tenth_0 rfl)
theorem dX12_tenth_19 : decode cX12_tenth 19 = .ok (.if_icmp .ge 14, 3) := do_162 (rdb (p := 0) (i := 19) ch_cX12_tenth_0 rfl) (rdb (p := 0) (i := 20) ch_cX12_tenth_0 rfl) (rdb (p := 0) (i := 21) ch_cX12_tenth_0 rfl) (by decide +kernel)
theorem dX12_tenth_22 : decode cX12_tenth 22 = .ok (.aload_n 0, 1) := do_42 (rdb (p := 0) (i := 22) ch_cX12_tenth_0 rfl)
theorem dX12_tenth_23 : decode cX12_tenth 23 = .ok (.iload_n 1, 1) := do_27 (rdb (p := 0) (i := 23) ch_cX12_tenth_0 rfl)
theorem dX12_tenth_24 : decode cX12_tenth 24 = .ok (.invokevirtual 295, 3) := do_182 (rdb (p := 0) (i := 24) ch_cX12_tenth_0 rfl) (rdb (p := 0) (i := 25) ch_cX12_tenth_0 rfl) (rdb (p := 0) (i := 26) ch_cX12_tenth_0 rfl) rfl
theorem dX12_tenth_27 : decode cX12_tenth 27 = .ok (.iinc 1 1, 3) := do_132 (rdb (p := 0) (i := 27) ch_cX12_tenth_0 rfl) (rdb (p := 0) (i := 28) ch_cX12_tenth_0 rfl) (rdb (p := 0) (i := 29) ch_cX12_tenth_0 rfl) (by decide +kernel)
theorem dX12_tenth_30 : decode cX12_tenth 30 = .ok (.goto (-18), 3) := do_167 (rdb (p := 0) (i := 30) ch_cX12_tenth_0 rfl) (rdb (p := 0) (i := 31) ch_cX12_tenth_0 rfl) (rdb (p := 0) (i := 32) ch_cX12_tenth_0 rfl) (by decide +kernel)
theorem ch_cX12_tenth_32 : (cX12_tenth.data.toList.drop 32).take 36 = [238, 3, 60, 27, 42, 180, 0, 9, 5, 46, 162, 0, 14, 42, 27, 182, 1, 42, 132, 1, 1, 167, 255, 238, 177] := by decide +kernel
theorem dX12_tenth_33 : decode cX12_tenth 33 = .ok (.iconst 0, 1) := do_3 (rdb (p := 32) (i := 1) ch_cX12_tenth_32 rfl)
theorem dX12_tenth_34 : decode cX12_tenth 34 = .ok (.istore_n 1, 1) := do_60 (rdb (p := 32) (i := 2) ch_cX12_tenth_32 rfl)
theorem dX12_tenth_35 : decode cX12_tenth 35 = .ok (.iload_n 1, 1) := do_27 (rdb (p := 32) (i := 3) ch_cX12_tenth_32 rfl)
theorem dX12_tenth_36 : decode cX12_tenth 36 = .ok (.aload_n 0, 1) := do_42 (rdb (p := 32) (i := 4) ch_cX12_tenth_32 rfl)
theorem dX12_tenth_37 : decode cX12_tenth 37 = .ok (.getfield 9, 3) := do_180 (rdb (p := 32) (i := 5) ch_cX12_tenth_32 rfl) (rdb (p := 32) (i := 6) ch_cX12_tenth_32 rfl) (rdb (p := 32) (i := 7) ch_cX12_tenth_32 rfl) rfl
theorem dX12_tenth_40 : decode cX12_tenth 40 = .ok (.iconst 2, 1) := do_5 (rdb (p := 32) (i := 8) ch_cX12_tenth_32 rfl)
theorem dX12_tenth_41 : decode cX12_tenth 41 = .ok (.iaload, 1) := do_46 (rdb (p := 32) (i := 9) ch_cX12_tenth_32 rfl)
theorem dX12_tenth_42 : decode cX12_tenth 42 = .ok (.if_icmp .ge 14, 3) := do_162 (rdb (p := 32) (i := 10) ch_cX12_tenth_32 rfl) (rdb (p := 32) (i := 11) ch_cX12_tenth_32 rfl) (rdb (p := 32) (i := 12) ch_cX12_tenth_32 rfl) (by decide +kernel)
theorem dX12_tenth_45 : decode cX12_tenth 45 = .ok (.aload_n 0, 1) := do_42 (rdb (p := 32) (i := 13) ch_cX12_tenth_32 rfl)
theorem dX12_tenth_46 : decode cX12_tenth 46 = .ok (.iload_n 1, 1) := do_27 (rdb (p := 32) (i := 14) ch_cX12_tenth_32 rfl)
theorem dX12_tenth_47 : decode cX12_tenth 47 = .ok (.invokevirtual 298, 3) := do_182 (rdb (p := 32) (i := 15) ch_cX12_tenth_32 rfl) (rdb (p := 32) (i := 16) ch_cX12_tenth_32 rfl) (rdb (p := 32) (i := 17) ch_cX12_tenth_32 rfl) rfl
theorem dX12_tenth_50 : decode cX12_tenth 50 = .ok (.iinc 1 1, 3) := do_132 (rdb (p := 32) (i := 18) ch_cX12_tenth_32 rfl) (rdb (p := 32) (i := 19) ch_cX12_tenth_32 rfl) (rdb (p := 32) (i := 20) ch_cX12_tenth_32 rfl) (by decide +kernel)
theorem dX12_tenth_53 : decode cX12_tenth 53 = .ok (.goto (-18), 3) := do_167 (rdb (p := 32) (i := 21) ch_cX12_tenth_32 rfl) (rdb (p := 32) (i := 22) ch_cX12_tenth_32 rfl) (rdb (p := 32) (i := 23) ch_cX12_tenth_32 rfl) (by decide +kernel)
theorem dX12_tenth_56 : decode cX12_tenth 56 = .ok (.return_, 1) := do_177 (rdb (p := 32) (i := 24) ch_cX12_tenth_32 rfl)
theorem ch_cX12_tenths_0 : (cX12_tenths.data.toList.drop 0).take 36 = [27, 4, 16, 100, 184, 0, 85, 154, 0, 10, 42, 18, 103, 182, 0, 104, 172, 42, 180, 0, 9, 3, 46, 27, 96, 17, 39, 15, 164, 0, 10, 42, 18, 110, 182, 0] := by decide +kernel
theorem dX12_tenths_0 : decode cX12_tenths 0 = .ok (.iload_n 1, 1) := do_27 (rdb (p := 0) (i := 0) ch_cX12_tenths_0 rfl)
theorem dX12_tenths_1 : decode cX12_tenths 1 = .ok (.iconst 1, 1) := do_4 (rdb (p := 0) (i := 1) ch_cX12_tenths_0 rfl)
theorem dX12_tenths_2 : decode cX12_tenths 2 = .ok (.bipush 100, 2) := do_16 (rdb (p := 0) (i := 2) ch_cX12_tenths_0 rfl) (rdb (p := 0) (i := 3) ch_cX12_tenths_0 rfl) (by decide +kernel)
theorem dX12_tenths_4 : decode cX12_tenths 4 = .ok (.invokestatic 85, 3) := do_184 (rdb (p := 0) (i := 4) ch_cX12_tenths_0 rfl) (rdb (p := 0) (i := 5) ch_cX12_tenths_0 rfl) (rdb (p := 0) (i := 6) ch_cX12_tenths_0 rfl) rfl
theorem dX12_tenths_7 : decode cX12_tenths 7 = .ok (.ifCond .ne 10, 3) := do_154 (rdb (p := 0) (i := 7) ch_cX12_tenths_0 rfl) (rdb (p := 0) (i := 8) ch_cX12_tenths_0 rfl) (rdb (p := 0) (i := 9) ch_cX12_tenths_0 rfl) (by decide +kernel)
theorem dX12_tenths_10 : decode cX12_tenths 10 = .ok (.aload_n 0, 1) := do_42 (rdb (p := 0) (i := 10) ch_cX12_tenths_0 rfl)
theorem dX12_tenths_11 : decode cX12_tenths 11 = .ok (.ldc 103, 2) := do_18 (rdb (p := 0) (i := 11) ch_cX12_tenths_0 rfl) (rdb (p := 0) (i := 12) ch_cX12_tenths_0 rfl)
theorem dX12_tenths_13 : decode cX12_tenths 13 = .ok (.invokevirtual 104, 3) := do_182 (rdb (p := 0) (i := 13) ch_cX12_tenths_0 rfl) (rdb (p := 0) (i := 14) ch_cX12_tenths_0 rfl) (rdb (p := 0) (i := 15) ch_cX12_tenths_0 rfl) rfl
theorem dX12_tenths_16 : decode cX12_tenths 16 = .ok (.ireturn, 1) := do_172 (rdb (p := 0) (i := 16) ch_cX12_tenths_0 rfl)
theorem dX12_tenths_17 : decode cX12_tenths 17 = .ok (.aload_n 0, 1) := do_42 (rdb (p := 0) (i := 17) ch_cX12_tenths_0 rfl)
theorem dX12_tenths_18 : decode cX12_tenths 18 = .ok (.getfield 9, 3) := do_180 (rdb (p := 0) (i := 18) ch_cX12_tenths_0 rfl) (rdb (p := 0) (i := 19) ch_cX12_tenths_0 rfl) (rdb (p := 0) (i := 20) ch_cX12_tenths_0 rfl) rfl
theorem dX12_tenths_21 : decode cX12_tenths 21 = .ok (.iconst 0, 1) := do_3 (rdb (p := 0) (i := 21) ch_cX12_tenths_0 rfl)
theorem dX12_tenths_22 : decode cX12_tenths 22 = .ok (.iaload, 1) := do_46 (rdb (p := 0) (i := 22) ch_cX12_tenths_0 rfl)
theorem dX12_tenths_23 : decode cX12_tenths 23 = .ok (.iload_n 1, 1) := do_27 (rdb (p := 0) (i := 23) ch_cX12_tenths_0 rfl)
theorem dX12_tenths_24 : decode cX12_tenths 24 = .ok (.iadd, 1) := do_96 (rdb (p := 0) (i := 24) ch_cX12_tenths_0 rfl)
theorem dX12_tenths_25 : decode cX12_tenths 25 = .ok (.sipush 9999, 3) := do_17 (rdb (p := 0) (i := 25) ch_cX12_tenths_0 rfl) (rdb (p := 0) (i := 26) ch_cX12_tenths_0 rfl) (rdb (p := 0) (i := 27) ch_cX12_tenths_0 rfl) (by decide +kernel)
theorem dX12_tenths_28 : decode cX12_tenths 28 = .ok (.if_icmp .le 10, 3) := do_164 (rdb (p := 0) (i := 28) ch_cX12_tenths_0 rfl) (rdb (p := 0) (i := 29) ch_cX12_tenths_0 rfl) (rdb (p := 0) (i := 30) ch_cX12_tenths_0 rfl) (by decide +kernel)
theorem dX12_tenths_31 : decode cX12_tenths 31 = .ok (.aload_n 0, 1) := do_42 (rdb (p := 0) (i := 31) ch_cX12_tenths_0 rfl)
theorem ch_cX12_tenths_32 : (cX12_tenths.data.toList.drop 32).take 36 = [18, 110, 182, 0, 104, 172, 3, 61, 28, 27, 162, 0, 13, 42, 182, 1, 45, 132, 2, 1, 167, 255, 244, 42, 180, 0, 9, 3, 46, 172] := by decide +kernel
theorem dX12_tenths_32 : decode cX12_tenths 32 = .ok (.ldc 110, 2) := do_18 (rdb (p := 32) (i := 0) ch_cX12_tenths_32 rfl) (rdb (p := 32) (i := 1) ch_cX12_tenths_32 rfl)
theorem dX12_tenths_34 : decode cX12_tenths 34 = .ok (.invokevirtual 104, 3) := do_182 (rdb (p := 32) (i := 2) ch_cX12_tenths_32 rfl) (rdb (p := 32) (i := 3) ch_cX12_tenths_32 rfl) (rdb (p := 32) (i := 4) ch_cX12_tenths_32 rfl) rfl
theorem dX12_tenths_37 : decode cX12_tenths 37 = .ok (.ireturn, 1) := do_172 (rdb (p := 32) (i := 5) ch_cX12_tenths_32 rfl)
theorem dX12_tenths_38 : decode cX12_tenths 38 = .ok (.iconst 0, 1) := do_3 (rdb (p := 32) (i := 6) ch_cX12_tenths_32 rfl)
theorem dX12_tenths_39 : decode cX12_tenths 39 = .ok (.istore_n 2, 1) := do_61 (rdb (p := 32) (i := 7) ch_cX12_tenths_32 rfl)
theorem dX12_tenths_40 : decode cX12_tenths 40 = .ok (.iload_n 2, 1) := do_28 (rdb (p := 32) (i := 8) ch_cX12_tenths_32 rfl)
theorem dX12_tenths_41 : decode cX12_tenths 41 = .ok (.iload_n 1, 1) := do_27 (rdb (p := 32) (i := 9) ch_cX12_tenths_32 rfl)
theorem dX12_tenths_42 : decode cX12_tenths 42 = .ok (.if_icmp .ge 13, 3) := do_162 (rdb (p := 32) (i := 10) ch_cX12_tenths_32 rfl) (rdb (p := 32) (i := 11) ch_cX12_tenths_32 rfl) (rdb (p := 32) (i := 12) ch_cX12_tenths_32 rfl) (by decide +kernel)
theorem dX12_tenths_45 : decode cX12_tenths 45 = .ok (.aload_n 0, 1) := do_42 (rdb (p := 32) (i := 13) ch_cX12_tenths_32 rfl)
theorem dX12_tenths_46 : decode cX12_tenths 46 = .ok (.invokevirtual 301, 3) := do_182 (rdb (p := 32) (i := 14) ch_cX12_tenths_32 rfl) (rdb (p := 32) (i := 15) ch_cX12_tenths_32 rfl) (rdb (p := 32) (i := 16) ch_cX12_tenths_32 rfl) rfl
theorem dX12_tenths_49 : decode cX12_tenths 49 = .ok (.iinc 2 1, 3) := do_132 (rdb (p := 32) (i := 17) ch_cX12_tenths_32 rfl) (rdb (p := 32) (i := 18) ch_cX12_tenths_32 rfl) (rdb (p := 32) (i := 19) ch_cX12_tenths_32 rfl) (by decide +kernel)
theorem dX12_tenths_52 : decode cX12_tenths 52 = .ok (.goto (-12), 3) := do_167 (rdb (p := 32) (i := 20) ch_cX12_tenths_32 rfl) (rdb (p := 32) (i := 21) ch_cX12_tenths_32 rfl) (rdb (p := 32) (i := 22) ch_cX12_tenths_32 rfl) (by decide +kernel)
theorem dX12_tenths_55 : decode cX12_tenths 55 = .ok (.aload_n 0, 1) := do_42 (rdb (p := 32) (i := 23) ch_cX12_tenths_32 rfl)
theorem dX12_tenths_56 : decode cX12_tenths 56 = .ok (.getfield 9, 3) := do_180 (rdb (p := 32) (i := 24) ch_cX12_tenths_32 rfl) (rdb (p := 32) (i := 25) ch_cX12_tenths_32 rfl) (rdb (p := 32) (i := 26) ch_cX12_tenths_32 rfl) rfl
theorem dX12_tenths_59 : decode cX12_tenths 59 = .ok (.iconst 0, 1) := do_3 (rdb (p := 32) (i := 27) ch_cX12_tenths_32 rfl)
theorem dX12_tenths_60 : decode cX12_tenths 60 = .ok (.iaload, 1) := do_46 (rdb (p := 32) (i := 28) ch_cX12_tenths_32 rfl)
theorem dX12_tenths_61 : decode cX12_tenths 61 = .ok (.ireturn, 1) := do_172 (rdb (p := 32) (i := 29) ch_cX12_tenths_32 rfl)
theorem ch_cX12_thingGoes_0 : (cX12_thingGoes.data.toList.drop 0).take 36 = [42, 180, 0, 9, 42, 27, 182, 0, 89, 6, 96, 46, 61, 42, 180, 0, 9, 42, 27, 182, 0, 89, 4, 96, 46, 62, 42, 180, 0, 9, 42, 27, 182, 0, 89, 3] := by decide +kernel
theorem dX12_thingGoes_0 : decode cX12_thingGoes 0 = .ok (.aload_n 0, 1) := do_42 (rdb (p := 0) (i := 0) ch_cX12_thingGoes_0 rfl)
theorem dX12_thingGoes_1 : decode cX12_thingGoes 1 = .ok (.getfield 9, 3) := do_180 (rdb (p := 0) (i := 1) ch_cX12_thingGoes_0 rfl) (rdb (p := 0) (i := 2) ch_cX12_thingGoes_0 rfl) (rdb (p := 0) (i := 3) ch_cX12_thingGoes_0 rfl) rfl
theorem dX12_thingGoes_4 : decode cX12_thingGoes 4 = .ok (.aload_n 0, 1) := do_42 (rdb (p := 0) (i := 4) ch_cX12_thingGoes_0 rfl)
theorem dX12_thingGoes_5 : decode cX12_thingGoes 5 = .ok (.iload_n 1, 1) := do_27 (rdb (p := 0) (i := 5) ch_cX12_thingGoes_0 rfl)
theorem dX12_thingGoes_6 : decode cX12_thingGoes 6 = .ok (.invokevirtual 89, 3) := do_182 (rdb (p := 0) (i := 6) ch_cX12_thingGoes_0 rfl) (rdb (p := 0) (i := 7) ch_cX12_thingGoes_0 rfl) (rdb (p := 0) (i := 8) ch_cX12_thingGoes_0 rfl) rfl
theorem dX12_thingGoes_9 : decode cX12_thingGoes 9 = .ok (.iconst 3, 1) := do_6 (rdb (p := 0) (i := 9) ch_cX12_thingGoes_0 rfl)
theorem dX12_thingGoes_10 : decode cX12_thingGoes 10 = .ok (.iadd, 1) := do_96 (rdb (p := 0) (i := 10) ch_cX12_thingGoes_0 rfl)
theorem dX12_thingGoes_11 : decode cX12_thingGoes 11 = .ok (.iaload, 1) := do_46 (rdb (p := 0) (i := 11) ch_cX12_thingGoes_0 rfl)
theorem dX12_thingGoes_12 : decode cX12_thingGoes 12 = .ok (.istore_n 2, 1) := do_61 (rdb (p := 0) (i := 12) ch_cX12_thingGoes_0 rfl)
theorem dX12_thingGoes_13 : decode cX12_thingGoes 13 = .ok (.aload_n 0, 1) := do_42 (rdb (p := 0) (i := 13) ch_cX12_thingGoes_0 rfl)
theorem dX12_thingGoes_14 : decode cX12_thingGoes 14 = .ok (.getfield 9, 3) := do_180 (rdb (p := 0) (i := 14) ch_cX12_thingGoes_0 rfl) (rdb (p := 0) (i := 15) ch_cX12_thingGoes_0 rfl) (rdb (p := 0) (i := 16) ch_cX12_thingGoes_0 rfl) rfl
theorem dX12_thingGoes_17 : decode cX12_thingGoes 17 = .ok (.aload_n 0, 1) := do_42 (rdb (p := 0) (i := 17) ch_cX12_thingGoes_0 rfl)
theorem dX12_thingGoes_18 : decode cX12_thingGoes 18 = .ok (.iload_n 1, 1) := do_27 (rdb (p := 0) (i := 18) ch_cX12_thingGoes_0 rfl)
theorem dX12_thingGoes_19 : decode cX12_thingGoes 19 = .ok (.invokevirtual 89, 3) := do_182 (rdb (p := 0) (i := 19) ch_cX12_thingGoes_0 rfl) (rdb (p := 0) (i := 20) ch_cX12_thingGoes_0 rfl) (rdb (p := 0) (i := 21) ch_cX12_thingGoes_0 rfl) rfl
theorem dX12_thingGoes_22 : decode cX12_thingGoes 22 = .ok (.iconst 1, 1) := do_4 (rdb (p := 0) (i := 22) ch_cX12_thingGoes_0 rfl)
theorem dX12_thingGoes_23 : decode cX12_thingGoes 23 = .ok (.iadd, 1) := do_96 (rdb (p := 0) (i := 23) ch_cX12_thingGoes_0 rfl)
theorem dX12_thingGoes_24 : decode cX12_thingGoes 24 = .ok (.iaload, 1) := do_46 (rdb (p := 0) (i := 24) ch_cX12_thingGoes_0 rfl)
theorem dX12_thingGoes_25 : decode cX12_thingGoes 25 = .ok (.istore_n 3, 1) := do_62 (rdb (p := 0) (i := 25) ch_cX12_thingGoes_0 rfl)
theorem dX12_thingGoes_26 : decode cX12_thingGoes 26 = .ok (.aload_n 0, 1) := do_42 (rdb (p := 0) (i := 26) ch_cX12_thingGoes_0 rfl)
theorem dX12_thingGoes_27 : decode cX12_thingGoes 27 = .ok (.getfield 9, 3) := do_180 (rdb (p := 0) (i := 27) ch_cX12_thingGoes_0 rfl) (rdb (p := 0) (i := 28) ch_cX12_thingGoes_0 rfl) (rdb (p := 0) (i := 29) ch_cX12_thingGoes_0 rfl) rfl
theorem dX12_thingGoes_30 : decode cX12_thingGoes 30 = .ok (.aload_n 0, 1) := do_42 (rdb (p := 0) (i := 30) ch_cX12_thingGoes_0 rfl)
theorem dX12_thingGoes_31 : decode cX12_thingGoes 31 = .ok (.iload_n 1, 1) := do_27 (rdb (p := 0) (i := 31) ch_cX12_thingGoes_0 rfl)
theorem ch_cX12_thingGoes_32 : (cX12_thingGoes.data.toList.drop 32).take 36 = [182, 0, 89, 3, 96, 46, 6, 161, 0, 22, 28, 153, 0, 18, 29, 155, 0, 14, 42, 180, 0, 9, 3, 46, 28, 112, 153, 0, 4, 177, 42, 29, 42, 180, 0, 9] := by decide +kernel
theorem dX12_thingGoes_32 : decode cX12_thingGoes 32 = .ok (.invokevirtual 89, 3) := do_182 (rdb (p := 32) (i := 0) ch_cX12_thingGoes_32 rfl) (rdb (p := 32) (i := 1) ch_cX12_thingGoes_32 rfl) (rdb (p := 32) (i := 2) ch_cX12_thingGoes_32 rfl) rfl
theorem dX12_thingGoes_35 : decode cX12_thingGoes 35 = .ok (.iconst 0, 1) := do_3 (rdb (p := 32) (i := 3) ch_cX12_thingGoes_32 rfl)
theorem dX12_thingGoes_36 : decode cX12_thingGoes 36 = .ok (.iadd, 1) := do_96 (rdb (p := 32) (i := 4) ch_cX12_thingGoes_32 rfl)
theorem dX12_thingGoes_37 : decode cX12_thingGoes 37 = .ok (.iaload, 1) := do_46 (rdb (p := 32) (i := 5) ch_cX12_thingGoes_32 rfl)
theorem dX12_thingGoes_38 : decode cX12_thingGoes 38 = .ok (.iconst 3, 1) := do_6 (rdb (p := 32) (i := 6) ch_cX12_thingGoes_32 rfl)
theorem dX12_thingGoes_39 : decode cX12_thingGoes 39 = .ok (.if_icmp .lt 22, 3) := do_161 (rdb (p := 32) (i := 7) ch_cX12_thingGoes_32 rfl) (rdb (p := 32) (i := 8) ch_cX12_thingGoes_32 rfl) (rdb (p := 32) (i := 9) ch_cX12_thingGoes_32 rfl) (by decide +kernel)
theorem dX12_thingGoes_42 : decode cX12_thingGoes 42 = .ok (.iload_n 2, 1) := do_28 (rdb (p := 32) (i := 10) ch_cX12_thingGoes_32 rfl)
theorem dX12_thingGoes_43 : decode cX12_thingGoes 43 = .ok (.ifCond .eq 18, 3) := do_153 (rdb (p := 32) (i := 11) ch_cX12_thingGoes_32 rfl) (rdb (p := 32) (i := 12) ch_cX12_thingGoes_32 rfl) (rdb (p := 32) (i := 13) ch_cX12_thingGoes_32 rfl) (by decide +kernel)
theorem dX12_thingGoes_46 : decode cX12_thingGoes 46 = .ok (.iload_n 3, 1) := do_29 (rdb (p := 32) (i := 14) ch_cX12_thingGoes_32 rfl)
theorem dX12_thingGoes_47 : decode cX12_thingGoes 47 = .ok (.ifCond .lt 14, 3) := do_155 (rdb (p := 32) (i := 15) ch_cX12_thingGoes_32 rfl) (rdb (p := 32) (i := 16) ch_cX12_thingGoes_32 rfl) (rdb (p := 32) (i := 17) ch_cX12_thingGoes_32 rfl) (by decide +kernel)
theorem dX12_thingGoes_50 : decode cX12_thingGoes 50 = .ok (.aload_n 0, 1) := do_42 (rdb (p := 32) (i := 18) ch_cX12_thingGoes_32 rfl)
theorem dX12_thingGoes_51 : decode cX12_thingGoes 51 = .ok (.getfield 9, 3) := do_180 (rdb (p := 32) (i := 19) ch_cX12_thingGoes_32 rfl) (rdb (p := 32) (i := 20) ch_cX12_thingGoes_32 rfl) (rdb (p := 32) (i := 21) ch_cX12_thingGoes_32 rfl) rfl
theorem dX12_thingGoes_54 : decode cX12_thingGoes 54 = .ok (.iconst 0, 1) := do_3 (rdb (p := 32) (i := 22) ch_cX12_thingGoes_32 rfl)
theorem dX12_thingGoes_55 : decode cX12_thingGoes 55 = .ok (.iaload, 1) := do_46 (rdb (p := 32) (i := 23) ch_cX12_thingGoes_32 rfl)
theorem dX12_thingGoes_56 : decode cX12_thingGoes 56 = .ok (.iload_n 2, 1) := do_28 (rdb (p := 32) (i := 24) ch_cX12_thingGoes_32 rfl)
theorem dX12_thingGoes_57 : decode cX12_thingGoes 57 = .ok (.irem, 1) := do_112 (rdb (p := 32) (i := 25) ch_cX12_thingGoes_32 rfl)
theorem dX12_thingGoes_58 : decode cX12_thingGoes 58 = .ok (.ifCond .eq 4, 3) := do_153 (rdb (p := 32) (i := 26) ch_cX12_thingGoes_32 rfl) (rdb (p := 32) (i := 27) ch_cX12_thingGoes_32 rfl) (rdb (p := 32) (i := 28) ch_cX12_thingGoes_32 rfl) (by decide +kernel)
theorem dX12_thingGoes_61 : decode cX12_thingGoes 61 = .ok (.return_, 1) := do_177 (rdb (p := 32) (i := 29) ch_cX12_thingGoes_32 rfl)
theorem dX12_thingGoes_62 : decode cX12_thingGoes 62 = .ok (.aload_n 0, 1) := do_42 (rdb (p := 32) (i := 30) ch_cX12_thingGoes_32 rfl)
theorem dX12_thingGoes_63 : decode cX12_thingGoes 63 = .ok (.iload_n 3, 1) := do_29 (rdb (p := 32) (i := 31) ch_cX12_thingGoes_32 rfl)
theorem ch_cX12_thingGoes_64 : (cX12_thingGoes.data.toList.drop 64).take 36 = [42, 180, 0, 9, 42, 27, 182, 0, 89, 5, 96, 46, 4, 182, 0, 234, 54, 4, 21, 4, 155, 0, 29, 42, 21, 4, 182, 0, 107, 153, 0, 20, 42, 180, 0, 9] := by decide +kernel
theorem dX12_thingGoes_64 : decode cX12_thingGoes 64 = .ok (.aload_n 0, 1) := do_42 (rdb (p := 64) (i := 0) ch_cX12_thingGoes_64 rfl)
theorem dX12_thingGoes_65 : decode cX12_thingGoes 65 = .ok (.getfield 9, 3) := do_180 (rdb (p := 64) (i := 1) ch_cX12_thingGoes_64 rfl) (rdb (p := 64) (i := 2) ch_cX12_thingGoes_64 rfl) (rdb (p := 64) (i := 3) ch_cX12_thingGoes_64 rfl) rfl
theorem dX12_thingGoes_68 : decode cX12_thingGoes 68 = .ok (.aload_n 0, 1) := do_42 (rdb (p := 64) (i := 4) ch_cX12_thingGoes_64 rfl)
theorem dX12_thingGoes_69 : decode cX12_thingGoes 69 = .ok (.iload_n 1, 1) := do_27 (rdb (p := 64) (i := 5) ch_cX12_thingGoes_64 rfl)
theorem dX12_thingGoes_70 : decode cX12_thingGoes 70 = .ok (.invokevirtual 89, 3) := do_182 (rdb (p := 64) (i := 6) ch_cX12_thingGoes_64 rfl) (rdb (p := 64) (i := 7) ch_cX12_thingGoes_64 rfl) (rdb (p := 64) (i := 8) ch_cX12_thingGoes_64 rfl) rfl
theorem dX12_thingGoes_73 : decode cX12_thingGoes 73 = .ok (.iconst 2, 1) := do_5 (rdb (p := 64) (i := 9) ch_cX12_thingGoes_64 rfl)
theorem dX12_thingGoes_74 : decode cX12_thingGoes 74 = .ok (.iadd, 1) := do_96 (rdb (p := 64) (i := 10) ch_cX12_thingGoes_64 rfl)
theorem dX12_thingGoes_75 : decode cX12_thingGoes 75 = .ok (.iaload, 1) := do_46 (rdb (p := 64) (i := 11) ch_cX12_thingGoes_64 rfl)
theorem dX12_thingGoes_76 : decode cX12_thingGoes 76 = .ok (.iconst 1, 1) := do_4 (rdb (p := 64) (i := 12) ch_cX12_thingGoes_64 rfl)
theorem dX12_thingGoes_77 : decode cX12_thingGoes 77 = .ok (.invokevirtual 234, 3) := do_182 (rdb (p := 64) (i := 13) ch_cX12_thingGoes_64 rfl) (rdb (p := 64) (i := 14) ch_cX12_thingGoes_64 rfl) (rdb (p := 64) (i := 15) ch_cX12_thingGoes_64 rfl) rfl
theorem dX12_thingGoes_80 : decode cX12_thingGoes 80 = .ok (.istore 4, 2) := do_54 (rdb (p := 64) (i := 16) ch_cX12_thingGoes_64 rfl) (rdb (p := 64) (i := 17) ch_cX12_thingGoes_64 rfl)
theorem dX12_thingGoes_82 : decode cX12_thingGoes 82 = .ok (.iload 4, 2) := do_21 (rdb (p := 64) (i := 18) ch_cX12_thingGoes_64 rfl) (rdb (p := 64) (i := 19) ch_cX12_thingGoes_64 rfl)
theorem dX12_thingGoes_84 : decode cX12_thingGoes 84 = .ok (.ifCond .lt 29, 3) := do_155 (rdb (p := 64) (i := 20) ch_cX12_thingGoes_64 rfl) (rdb (p := 64) (i := 21) ch_cX12_thingGoes_64 rfl) (rdb (p := 64) (i := 22) ch_cX12_thingGoes_64 rfl) (by decide +kernel)
theorem dX12_thingGoes_87 : decode cX12_thingGoes 87 = .ok (.aload_n 0, 1) := do_42 (rdb (p := 64) (i := 23) ch_cX12_thingGoes_64 rfl)
theorem dX12_thingGoes_88 : decode cX12_thingGoes 88 = .ok (.iload 4, 2) := do_21 (rdb (p := 64) (i := 24) ch_cX12_thingGoes_64 rfl) (rdb (p := 64) (i := 25) ch_cX12_thingGoes_64 rfl)
theorem dX12_thingGoes_90 : decode cX12_thingGoes 90 = .ok (.invokevirtual 107, 3) := do_182 (rdb (p := 64) (i := 26) ch_cX12_thingGoes_64 rfl) (rdb (p := 64) (i := 27) ch_cX12_thingGoes_64 rfl) (rdb (p := 64) (i := 28) ch_cX12_thingGoes_64 rfl) rfl
theorem dX12_thingGoes_93 : decode cX12_thingGoes 93 = .ok (.ifCond .eq 20, 3) := do_153 (rdb (p := 64) (i := 29) ch_cX12_thingGoes_64 rfl) (rdb (p := 64) (i := 30) ch_cX12_thingGoes_64 rfl) (rdb (p := 64) (i := 31) ch_cX12_thingGoes_64 rfl) (by decide +kernel)
theorem ch_cX12_thingGoes_96 : (cX12_thingGoes.data.toList.drop 96).take 36 = [42, 180, 0, 9, 42, 27, 182, 0, 89, 4, 96, 21, 4, 79, 167, 0, 32, 42, 180, 0, 9, 42, 27, 182, 0, 89, 5, 96, 42, 180, 0, 9, 42, 27, 182, 0] := by decide +kernel
theorem dX12_thingGoes_96 : decode cX12_thingGoes 96 = .ok (.aload_n 0, 1) := do_42 (rdb (p := 96) (i := 0) ch_cX12_thingGoes_96 rfl)
theorem dX12_thingGoes_97 : decode cX12_thingGoes 97 = .ok (.getfield 9, 3) := do_180 (rdb (p := 96) (i := 1) ch_cX12_thingGoes_96 rfl) (rdb (p := 96) (i := 2) ch_cX12_thingGoes_96 rfl) (rdb (p := 96) (i := 3) ch_cX12_thingGoes_96 rfl) rfl
theorem dX12_thingGoes_100 : decode cX12_thingGoes 100 = .ok (.aload_n 0, 1) := do_42 (rdb (p := 96) (i := 4) ch_cX12_thingGoes_96 rfl)
theorem dX12_thingGoes_101 : decode cX12_thingGoes 101 = .ok (.iload_n 1, 1) := do_27 (rdb (p := 96) (i := 5) ch_cX12_thingGoes_96 rfl)
theorem dX12_thingGoes_102 : decode cX12_thingGoes 102 = .ok (.invokevirtual 89, 3) := do_182 (rdb (p := 96) (i := 6) ch_cX12_thingGoes_96 rfl) (rdb (p := 96) (i := 7) ch_cX12_thingGoes_96 rfl) (rdb (p := 96) (i := 8) ch_cX12_thingGoes_96 rfl) rfl
theorem dX12_thingGoes_105 : decode cX12_thingGoes 105 = .ok (.iconst 1, 1) := do_4 (rdb (p := 96) (i := 9) ch_cX12_thingGoes_96 rfl)
theorem dX12_thingGoes_106 : decode cX12_thingGoes 106 = .ok (.iadd, 1) := do_96 (rdb (p := 96) (i := 10) ch_cX12_thingGoes_96 rfl)
theorem dX12_thingGoes_107 : decode cX12_thingGoes 107 = .ok (.iload 4, 2) := do_21 (rdb (p := 96) (i := 11) ch_cX12_thingGoes_96 rfl) (rdb (p := 96) (i := 12) ch_cX12_thingGoes_96 rfl)
theorem dX12_thingGoes_109 : decode cX12_thingGoes 109 = .ok (.iastore, 1) := do_79 (rdb (p := 96) (i := 13) ch_cX12_thingGoes_96 rfl)
theorem dX12_thingGoes_110 : decode cX12_thingGoes 110 = .ok (.goto 32, 3) := do_167 (rdb (p := 96) (i := 14) ch_cX12_thingGoes_96 rfl) (rdb (p := 96) (i := 15) ch_cX12_thingGoes_96 rfl) (rdb (p := 96) (i := 16) ch_cX12_thingGoes_96 rfl) (by decide +kernel)
theorem dX12_thingGoes_113 : decode cX12_thingGoes 113 = .ok (.aload_n 0, 1) := do_42 (rdb (p := 96) (i := 17) ch_cX12_thingGoes_96 rfl)
theorem dX12_thingGoes_114 : decode cX12_thingGoes 114 = .ok (.getfield 9, 3) := do_180 (rdb (p := 96) (i := 18) ch_cX12_thingGoes_96 rfl) (rdb (p := 96) (i := 19) ch_cX12_thingGoes_96 rfl) (rdb (p := 96) (i := 20) ch_cX12_thingGoes_96 rfl) rfl
theorem dX12_thingGoes_117 : decode cX12_thingGoes 117 = .ok (.aload_n 0, 1) := do_42 (rdb (p := 96) (i := 21) ch_cX12_thingGoes_96 rfl)
theorem dX12_thingGoes_118 : decode cX12_thingGoes 118 = .ok (.iload_n 1, 1) := do_27 (rdb (p := 96) (i := 22) ch_cX12_thingGoes_96 rfl)
theorem dX12_thingGoes_119 : decode cX12_thingGoes 119 = .ok (.invokevirtual 89, 3) := do_182 (rdb (p := 96) (i := 23) ch_cX12_thingGoes_96 rfl) (rdb (p := 96) (i := 24) ch_cX12_thingGoes_96 rfl) (rdb (p := 96) (i := 25) ch_cX12_thingGoes_96 rfl) rfl
theorem dX12_thingGoes_122 : decode cX12_thingGoes 122 = .ok (.iconst 2, 1) := do_5 (rdb (p := 96) (i := 26) ch_cX12_thingGoes_96 rfl)
theorem dX12_thingGoes_123 : decode cX12_thingGoes 123 = .ok (.iadd, 1) := do_96 (rdb (p := 96) (i := 27) ch_cX12_thingGoes_96 rfl)
theorem dX12_thingGoes_124 : decode cX12_thingGoes 124 = .ok (.aload_n 0, 1) := do_42 (rdb (p := 96) (i := 28) ch_cX12_thingGoes_96 rfl)
theorem dX12_thingGoes_125 : decode cX12_thingGoes 125 = .ok (.getfield 9, 3) := do_180 (rdb (p := 96) (i := 29) ch_cX12_thingGoes_96 rfl) (rdb (p := 96) (i := 30) ch_cX12_thingGoes_96 rfl) (rdb (p := 96) (i := 31) ch_cX12_thingGoes_96 rfl) rfl
theorem ch_cX12_thingGoes_128 : (cX12_thingGoes.data.toList.drop 128).take 36 = [42, 27, 182, 0, 89, 5, 96, 46, 7, 96, 16, 7, 126, 79, 177] := by decide +kernel
theorem dX12_thingGoes_128 : decode cX12_thingGoes 128 = .ok (.aload_n 0, 1) := do_42 (rdb (p := 128) (i := 0) ch_cX12_thingGoes_128 rfl)
theorem dX12_thingGoes_129 : decode cX12_thingGoes 129 = .ok (.iload_n 1, 1) := do_27 (rdb (p := 128) (i := 1) ch_cX12_thingGoes_128 rfl)
theorem dX12_thingGoes_130 : decode cX12_thingGoes 130 = .ok (.invokevirtual 89, 3) := do_182 (rdb (p := 128) (i := 2) ch_cX12_thingGoes_128 rfl) (rdb (p := 128) (i := 3) ch_cX12_thingGoes_128 rfl) (rdb (p := 128) (i := 4) ch_cX12_thingGoes_128 rfl) rfl
theorem dX12_thingGoes_133 : decode cX12_thingGoes 133 = .ok (.iconst 2, 1) := do_5 (rdb (p := 128) (i := 5) ch_cX12_thingGoes_128 rfl)
theorem dX12_thingGoes_134 : decode cX12_thingGoes 134 = .ok (.iadd, 1) := do_96 (rdb (p := 128) (i := 6) ch_cX12_thingGoes_128 rfl)
theorem dX12_thingGoes_135 : decode cX12_thingGoes 135 = .ok (.iaload, 1) := do_46 (rdb (p := 128) (i := 7) ch_cX12_thingGoes_128 rfl)
theorem dX12_thingGoes_136 : decode cX12_thingGoes 136 = .ok (.iconst 4, 1) := do_7 (rdb (p := 128) (i := 8) ch_cX12_thingGoes_128 rfl)
theorem dX12_thingGoes_137 : decode cX12_thingGoes 137 = .ok (.iadd, 1) := do_96 (rdb (p := 128) (i := 9) ch_cX12_thingGoes_128 rfl)
theorem dX12_thingGoes_138 : decode cX12_thingGoes 138 = .ok (.bipush 7, 2) := do_16 (rdb (p := 128) (i := 10) ch_cX12_thingGoes_128 rfl) (rdb (p := 128) (i := 11) ch_cX12_thingGoes_128 rfl) (by decide +kernel)
theorem dX12_thingGoes_140 : decode cX12_thingGoes 140 = .ok (.iand, 1) := do_126 (rdb (p := 128) (i := 12) ch_cX12_thingGoes_128 rfl)
theorem dX12_thingGoes_141 : decode cX12_thingGoes 141 = .ok (.iastore, 1) := do_79 (rdb (p := 128) (i := 13) ch_cX12_thingGoes_128 rfl)
theorem dX12_thingGoes_142 : decode cX12_thingGoes 142 = .ok (.return_, 1) := do_177 (rdb (p := 128) (i := 14) ch_cX12_thingGoes_128 rfl)
theorem ch_cX12_walkerGoes_0 : (cX12_walkerGoes.data.toList.drop 0).take 36 = [42, 27, 182, 0, 93, 61, 42, 180, 0, 9, 28, 8, 96, 46, 62, 42, 180, 0, 9, 28, 16, 6, 96, 46, 154, 0, 4, 177, 29, 158, 0, 32, 42, 180, 0, 9] := by decide +kernel
theorem dX12_walkerGoes_0 : decode cX12_walkerGoes 0 = .ok (.aload_n 0, 1) := do_42 (rdb (p := 0) (i := 0) ch_cX12_walkerGoes_0 rfl)
theorem dX12_walkerGoes_1 : decode cX12_walkerGoes 1 = .ok (.iload_n 1, 1) := do_27 (rdb (p := 0) (i := 1) ch_cX12_walkerGoes_0 rfl)
theorem dX12_walkerGoes_2 : decode cX12_walkerGoes 2 = .ok (.invokevirtual 93, 3) := do_182 (rdb (p := 0) (i := 2) ch_cX12_walkerGoes_0 rfl) (rdb (p := 0) (i := 3) ch_cX12_walkerGoes_0 rfl) (rdb (p := 0) (i := 4) ch_cX12_walkerGoes_0 rfl) rfl
theorem dX12_walkerGoes_5 : decode cX12_walkerGoes 5 = .ok (.istore_n 2, 1) := do_61 (rdb (p := 0) (i := 5) ch_cX12_walkerGoes_0 rfl)
theorem dX12_walkerGoes_6 : decode cX12_walkerGoes 6 = .ok (.aload_n 0, 1) := do_42 (rdb (p := 0) (i := 6) ch_cX12_walkerGoes_0 rfl)
theorem dX12_walkerGoes_7 : decode cX12_walkerGoes 7 = .ok (.getfield 9, 3) := do_180 (rdb (p := 0) (i := 7) ch_cX12_walkerGoes_0 rfl) (rdb (p := 0) (i := 8) ch_cX12_walkerGoes_0 rfl) (rdb (p := 0) (i := 9) ch_cX12_walkerGoes_0 rfl) rfl
theorem dX12_walkerGoes_10 : decode cX12_walkerGoes 10 = .ok (.iload_n 2, 1) := do_28 (rdb (p := 0) (i := 10) ch_cX12_walkerGoes_0 rfl)
theorem dX12_walkerGoes_11 : decode cX12_walkerGoes 11 = .ok (.iconst 5, 1) := do_8 (rdb (p := 0) (i := 11) ch_cX12_walkerGoes_0 rfl)
theorem dX12_walkerGoes_12 : decode cX12_walkerGoes 12 = .ok (.iadd, 1) := do_96 (rdb (p := 0) (i := 12) ch_cX12_walkerGoes_0 rfl)
theorem dX12_walkerGoes_13 : decode cX12_walkerGoes 13 = .ok (.iaload, 1) := do_46 (rdb (p := 0) (i := 13) ch_cX12_walkerGoes_0 rfl)
theorem dX12_walkerGoes_14 : decode cX12_walkerGoes 14 = .ok (.istore_n 3, 1) := do_62 (rdb (p := 0) (i := 14) ch_cX12_walkerGoes_0 rfl)
theorem dX12_walkerGoes_15 : decode cX12_walkerGoes 15 = .ok (.aload_n 0, 1) := do_42 (rdb (p := 0) (i := 15) ch_cX12_walkerGoes_0 rfl)
theorem dX12_walkerGoes_16 : decode cX12_walkerGoes 16 = .ok (.getfield 9, 3) := do_180 (rdb (p := 0) (i := 16) ch_cX12_walkerGoes_0 rfl) (rdb (p := 0) (i := 17) ch_cX12_walkerGoes_0 rfl) (rdb (p := 0) (i := 18) ch_cX12_walkerGoes_0 rfl) rfl
theorem dX12_walkerGoes_19 : decode cX12_walkerGoes 19 = .ok (.iload_n 2, 1) := do_28 (rdb (p := 0) (i := 19) ch_cX12_walkerGoes_0 rfl)
theorem dX12_walkerGoes_20 : decode cX12_walkerGoes 20 = .ok (.bipush 6, 2) := do_16 (rdb (p := 0) (i := 20) ch_cX12_walkerGoes_0 rfl) (rdb (p := 0) (i := 21) ch_cX12_walkerGoes_0 rfl) (by decide +kernel)
theorem dX12_walkerGoes_22 : decode cX12_walkerGoes 22 = .ok (.iadd, 1) := do_96 (rdb (p := 0) (i := 22) ch_cX12_walkerGoes_0 rfl)
theorem dX12_walkerGoes_23 : decode cX12_walkerGoes 23 = .ok (.iaload, 1) := do_46 (rdb (p := 0) (i := 23) ch_cX12_walkerGoes_0 rfl)
theorem dX12_walkerGoes_24 : decode cX12_walkerGoes 24 = .ok (.ifCond .ne 4, 3) := do_154 (rdb (p := 0) (i := 24) ch_cX12_walkerGoes_0 rfl) (rdb (p := 0) (i := 25) ch_cX12_walkerGoes_0 rfl) (rdb (p := 0) (i := 26) ch_cX12_walkerGoes_0 rfl) (by decide +kernel)
theorem dX12_walkerGoes_27 : decode cX12_walkerGoes 27 = .ok (.return_, 1) := do_177 (rdb (p := 0) (i := 27) ch_cX12_walkerGoes_0 rfl)
theorem dX12_walkerGoes_28 : decode cX12_walkerGoes 28 = .ok (.iload_n 3, 1) := do_29 (rdb (p := 0) (i := 28) ch_cX12_walkerGoes_0 rfl)
theorem dX12_walkerGoes_29 : decode cX12_walkerGoes 29 = .ok (.ifCond .le 32, 3) := do_158 (rdb (p := 0) (i := 29) ch_cX12_walkerGoes_0 rfl) (rdb (p := 0) (i := 30) ch_cX12_walkerGoes_0 rfl) (rdb (p := 0) (i := 31) ch_cX12_walkerGoes_0 rfl) (by decide +kernel)
theorem ch_cX12_walkerGoes_32 : (cX12_walkerGoes.data.toList.drop 32).take 36 = [42, 180, 0, 9, 3, 46, 29, 112, 154, 0, 21, 42, 27, 182, 0, 137, 4, 184, 0, 146, 153, 0, 9, 42, 27, 182, 1, 10, 87, 42, 27, 182, 1, 33, 54, 4] := by decide +kernel
theorem dX12_walkerGoes_32 : decode cX12_walkerGoes 32 = .ok (.aload_n 0, 1) := do_42 (rdb (p := 32) (i := 0) ch_cX12_walkerGoes_32 rfl)
theorem dX12_walkerGoes_33 : decode cX12_walkerGoes 33 = .ok (.getfield 9, 3) := do_180 (rdb (p := 32) (i := 1) ch_cX12_walkerGoes_32 rfl) (rdb (p := 32) (i := 2) ch_cX12_walkerGoes_32 rfl) (rdb (p := 32) (i := 3) ch_cX12_walkerGoes_32 rfl) rfl
theorem dX12_walkerGoes_36 : decode cX12_walkerGoes 36 = .ok (.iconst 0, 1) := do_3 (rdb (p := 32) (i := 4) ch_cX12_walkerGoes_32 rfl)
theorem dX12_walkerGoes_37 : decode cX12_walkerGoes 37 = .ok (.iaload, 1) := do_46 (rdb (p := 32) (i := 5) ch_cX12_walkerGoes_32 rfl)
theorem dX12_walkerGoes_38 : decode cX12_walkerGoes 38 = .ok (.iload_n 3, 1) := do_29 (rdb (p := 32) (i := 6) ch_cX12_walkerGoes_32 rfl)
theorem dX12_walkerGoes_39 : decode cX12_walkerGoes 39 = .ok (.irem, 1) := do_112 (rdb (p := 32) (i := 7) ch_cX12_walkerGoes_32 rfl)
theorem dX12_walkerGoes_40 : decode cX12_walkerGoes 40 = .ok (.ifCond .ne 21, 3) := do_154 (rdb (p := 32) (i := 8) ch_cX12_walkerGoes_32 rfl) (rdb (p := 32) (i := 9) ch_cX12_walkerGoes_32 rfl) (rdb (p := 32) (i := 10) ch_cX12_walkerGoes_32 rfl) (by decide +kernel)
theorem dX12_walkerGoes_43 : decode cX12_walkerGoes 43 = .ok (.aload_n 0, 1) := do_42 (rdb (p := 32) (i := 11) ch_cX12_walkerGoes_32 rfl)
theorem dX12_walkerGoes_44 : decode cX12_walkerGoes 44 = .ok (.iload_n 1, 1) := do_27 (rdb (p := 32) (i := 12) ch_cX12_walkerGoes_32 rfl)
theorem dX12_walkerGoes_45 : decode cX12_walkerGoes 45 = .ok (.invokevirtual 137, 3) := do_182 (rdb (p := 32) (i := 13) ch_cX12_walkerGoes_32 rfl) (rdb (p := 32) (i := 14) ch_cX12_walkerGoes_32 rfl) (rdb (p := 32) (i := 15) ch_cX12_walkerGoes_32 rfl) rfl
theorem dX12_walkerGoes_48 : decode cX12_walkerGoes 48 = .ok (.iconst 1, 1) := do_4 (rdb (p := 32) (i := 16) ch_cX12_walkerGoes_32 rfl)
theorem dX12_walkerGoes_49 : decode cX12_walkerGoes 49 = .ok (.invokestatic 146, 3) := do_184 (rdb (p := 32) (i := 17) ch_cX12_walkerGoes_32 rfl) (rdb (p := 32) (i := 18) ch_cX12_walkerGoes_32 rfl) (rdb (p := 32) (i := 19) ch_cX12_walkerGoes_32 rfl) rfl
theorem dX12_walkerGoes_52 : decode cX12_walkerGoes 52 = .ok (.ifCond .eq 9, 3) := do_153 (rdb (p := 32) (i := 20) ch_cX12_walkerGoes_32 rfl) (rdb (p := 32) (i := 21) ch_cX12_walkerGoes_32 rfl) (rdb (p := 32) (i := 22) ch_cX12_walkerGoes_32 rfl) (by decide +kernel)
theorem dX12_walkerGoes_55 : decode cX12_walkerGoes 55 = .ok (.aload_n 0, 1) := do_42 (rdb (p := 32) (i := 23) ch_cX12_walkerGoes_32 rfl)
theorem dX12_walkerGoes_56 : decode cX12_walkerGoes 56 = .ok (.iload_n 1, 1) := do_27 (rdb (p := 32) (i := 24) ch_cX12_walkerGoes_32 rfl)
theorem dX12_walkerGoes_57 : decode cX12_walkerGoes 57 = .ok (.invokevirtual 266, 3) := do_182 (rdb (p := 32) (i := 25) ch_cX12_walkerGoes_32 rfl) (rdb (p := 32) (i := 26) ch_cX12_walkerGoes_32 rfl) (rdb (p := 32) (i := 27) ch_cX12_walkerGoes_32 rfl) rfl
theorem dX12_walkerGoes_60 : decode cX12_walkerGoes 60 = .ok (.pop, 1) := do_87 (rdb (p := 32) (i := 28) ch_cX12_walkerGoes_32 rfl)
theorem dX12_walkerGoes_61 : decode cX12_walkerGoes 61 = .ok (.aload_n 0, 1) := do_42 (rdb (p := 32) (i := 29) ch_cX12_walkerGoes_32 rfl)
theorem dX12_walkerGoes_62 : decode cX12_walkerGoes 62 = .ok (.iload_n 1, 1) := do_27 (rdb (p := 32) (i := 30) ch_cX12_walkerGoes_32 rfl)
theorem dX12_walkerGoes_63 : decode cX12_walkerGoes 63 = .ok (.invokevirtual 289, 3) := do_182 (rdb (p := 32) (i := 31) ch_cX12_walkerGoes_32 rfl) (rdb (p := 32) (i := 32) ch_cX12_walkerGoes_32 rfl) (rdb (p := 32) (i := 33) ch_cX12_walkerGoes_32 rfl) rfl
theorem ch_cX12_walkerGoes_64 : (cX12_walkerGoes.data.toList.drop 64).take 36 = [1, 33, 54, 4, 21, 4, 154, 0, 11, 42, 27, 182, 1, 36, 167, 0, 45, 42, 180, 0, 9, 28, 5, 96, 42, 180, 0, 9, 28, 5, 96, 46, 21, 4, 4, 160] := by decide +kernel
theorem dX12_walkerGoes_66 : decode cX12_walkerGoes 66 = .ok (.istore 4, 2) := do_54 (rdb (p := 64) (i := 2) ch_cX12_walkerGoes_64 rfl) (rdb (p := 64) (i := 3) ch_cX12_walkerGoes_64 rfl)
theorem dX12_walkerGoes_68 : decode cX12_walkerGoes 68 = .ok (.iload 4, 2) := do_21 (rdb (p := 64) (i := 4) ch_cX12_walkerGoes_64 rfl) (rdb (p := 64) (i := 5) ch_cX12_walkerGoes_64 rfl)
theorem dX12_walkerGoes_70 : decode cX12_walkerGoes 70 = .ok (.ifCond .ne 11, 3) := do_154 (rdb (p := 64) (i := 6) ch_cX12_walkerGoes_64 rfl) (rdb (p := 64) (i := 7) ch_cX12_walkerGoes_64 rfl) (rdb (p := 64) (i := 8) ch_cX12_walkerGoes_64 rfl) (by decide +kernel)
theorem dX12_walkerGoes_73 : decode cX12_walkerGoes 73 = .ok (.aload_n 0, 1) := do_42 (rdb (p := 64) (i := 9) ch_cX12_walkerGoes_64 rfl)
theorem dX12_walkerGoes_74 : decode cX12_walkerGoes 74 = .ok (.iload_n 1, 1) := do_27 (rdb (p := 64) (i := 10) ch_cX12_walkerGoes_64 rfl)
theorem dX12_walkerGoes_75 : decode cX12_walkerGoes 75 = .ok (.invokevirtual 292, 3) := do_182 (rdb (p := 64) (i := 11) ch_cX12_walkerGoes_64 rfl) (rdb (p := 64) (i := 12) ch_cX12_walkerGoes_64 rfl) (rdb (p := 64) (i := 13) ch_cX12_walkerGoes_64 rfl) rfl
theorem dX12_walkerGoes_78 : decode cX12_walkerGoes 78 = .ok (.goto 45, 3) := do_167 (rdb (p := 64) (i := 14) ch_cX12_walkerGoes_64 rfl) (rdb (p := 64) (i := 15) ch_cX12_walkerGoes_64 rfl) (rdb (p := 64) (i := 16) ch_cX12_walkerGoes_64 rfl) (by decide +kernel)
theorem dX12_walkerGoes_81 : decode cX12_walkerGoes 81 = .ok (.aload_n 0, 1) := do_42 (rdb (p := 64) (i := 17) ch_cX12_walkerGoes_64 rfl)
theorem dX12_walkerGoes_82 : decode cX12_walkerGoes 82 = .ok (.getfield 9, 3) := do_180 (rdb (p := 64) (i := 18) ch_cX12_walkerGoes_64 rfl) (rdb (p := 64) (i := 19) ch_cX12_walkerGoes_64 rfl) (rdb (p := 64) (i := 20) ch_cX12_walkerGoes_64 rfl) rfl
theorem dX12_walkerGoes_85 : decode cX12_walkerGoes 85 = .ok (.iload_n 2, 1) := do_28 (rdb (p := 64) (i := 21) ch_cX12_walkerGoes_64 rfl)
theorem dX12_walkerGoes_86 : decode cX12_walkerGoes 86 = .ok (.iconst 2, 1) := do_5 (rdb (p := 64) (i := 22) ch_cX12_walkerGoes_64 rfl)
theorem dX12_walkerGoes_87 : decode cX12_walkerGoes 87 = .ok (.iadd, 1) := do_96 (rdb (p := 64) (i := 23) ch_cX12_walkerGoes_64 rfl)
theorem dX12_walkerGoes_88 : decode cX12_walkerGoes 88 = .ok (.aload_n 0, 1) := do_42 (rdb (p := 64) (i := 24) ch_cX12_walkerGoes_64 rfl)
theorem dX12_walkerGoes_89 : decode cX12_walkerGoes 89 = .ok (.getfield 9, 3) := do_180 (rdb (p := 64) (i := 25) ch_cX12_walkerGoes_64 rfl) (rdb (p := 64) (i := 26) ch_cX12_walkerGoes_64 rfl) (rdb (p := 64) (i := 27) ch_cX12_walkerGoes_64 rfl) rfl
theorem dX12_walkerGoes_92 : decode cX12_walkerGoes 92 = .ok (.iload_n 2, 1) := do_28 (rdb (p := 64) (i := 28) ch_cX12_walkerGoes_64 rfl)
theorem dX12_walkerGoes_93 : decode cX12_walkerGoes 93 = .ok (.iconst 2, 1) := do_5 (rdb (p := 64) (i := 29) ch_cX12_walkerGoes_64 rfl)
theorem dX12_walkerGoes_94 : decode cX12_walkerGoes 94 = .ok (.iadd, 1) := do_96 (rdb (p := 64) (i := 30) ch_cX12_walkerGoes_64 rfl)
theorem dX12_walkerGoes_95 : decode cX12_walkerGoes 95 = .ok (.iaload, 1) := do_46 (rdb (p := 64) (i := 31) ch_cX12_walkerGoes_64 rfl)
theorem ch_cX12_walkerGoes_96 : (cX12_walkerGoes.data.toList.drop 96).take 36 = [21, 4, 4, 160, 0, 7, 4, 167, 0, 15, 21, 4, 5, 160, 0, 7, 5, 167, 0, 5, 16, 6, 96, 16, 7, 126, 79, 177] := by decide +kernel
theorem dX12_walkerGoes_96 : decode cX12_walkerGoes 96 = .ok (.iload 4, 2) := do_21 (rdb (p := 96) (i := 0) ch_cX12_walkerGoes_96 rfl) (rdb (p := 96) (i := 1) ch_cX12_walkerGoes_96 rfl)
theorem dX12_walkerGoes_98 : decode cX12_walkerGoes 98 = .ok (.iconst 1, 1) := do_4 (rdb (p := 96) (i := 2) ch_cX12_walkerGoes_96 rfl)
theorem dX12_walkerGoes_99 : decode cX12_walkerGoes 99 = .ok (.if_icmp .ne 7, 3) := do_160 (rdb (p := 96) (i := 3) ch_cX12_walkerGoes_96 rfl) (rdb (p := 96) (i := 4) ch_cX12_walkerGoes_96 rfl) (rdb (p := 96) (i := 5) ch_cX12_walkerGoes_96 rfl) (by decide +kernel)
theorem dX12_walkerGoes_102 : decode cX12_walkerGoes 102 = .ok (.iconst 1, 1) := do_4 (rdb (p := 96) (i := 6) ch_cX12_walkerGoes_96 rfl)
theorem dX12_walkerGoes_103 : decode cX12_walkerGoes 103 = .ok (.goto 15, 3) := do_167 (rdb (p := 96) (i := 7) ch_cX12_walkerGoes_96 rfl) (rdb (p := 96) (i := 8) ch_cX12_walkerGoes_96 rfl) (rdb (p := 96) (i := 9) ch_cX12_walkerGoes_96 rfl) (by decide +kernel)
theorem dX12_walkerGoes_106 : decode cX12_walkerGoes 106 = .ok (.iload 4, 2) := do_21 (rdb (p := 96) (i := 10) ch_cX12_walkerGoes_96 rfl) (rdb (p := 96) (i := 11) ch_cX12_walkerGoes_96 rfl)
theorem dX12_walkerGoes_108 : decode cX12_walkerGoes 108 = .ok (.iconst 2, 1) := do_5 (rdb (p := 96) (i := 12) ch_cX12_walkerGoes_96 rfl)
theorem dX12_walkerGoes_109 : decode cX12_walkerGoes 109 = .ok (.if_icmp .ne 7, 3) := do_160 (rdb (p := 96) (i := 13) ch_cX12_walkerGoes_96 rfl) (rdb (p := 96) (i := 14) ch_cX12_walkerGoes_96 rfl) (rdb (p := 96) (i := 15) ch_cX12_walkerGoes_96 rfl) (by decide +kernel)
theorem dX12_walkerGoes_112 : decode cX12_walkerGoes 112 = .ok (.iconst 2, 1) := do_5 (rdb (p := 96) (i := 16) ch_cX12_walkerGoes_96 rfl)
theorem dX12_walkerGoes_113 : decode cX12_walkerGoes 113 = .ok (.goto 5, 3) := do_167 (rdb (p := 96) (i := 17) ch_cX12_walkerGoes_96 rfl) (rdb (p := 96) (i := 18) ch_cX12_walkerGoes_96 rfl) (rdb (p := 96) (i := 19) ch_cX12_walkerGoes_96 rfl) (by decide +kernel)
theorem dX12_walkerGoes_116 : decode cX12_walkerGoes 116 = .ok (.bipush 6, 2) := do_16 (rdb (p := 96) (i := 20) ch_cX12_walkerGoes_96 rfl) (rdb (p := 96) (i := 21) ch_cX12_walkerGoes_96 rfl) (by decide +kernel)
theorem dX12_walkerGoes_118 : decode cX12_walkerGoes 118 = .ok (.iadd, 1) := do_96 (rdb (p := 96) (i := 22) ch_cX12_walkerGoes_96 rfl)
theorem dX12_walkerGoes_119 : decode cX12_walkerGoes 119 = .ok (.bipush 7, 2) := do_16 (rdb (p := 96) (i := 23) ch_cX12_walkerGoes_96 rfl) (rdb (p := 96) (i := 24) ch_cX12_walkerGoes_96 rfl) (by decide +kernel)
theorem dX12_walkerGoes_121 : decode cX12_walkerGoes 121 = .ok (.iand, 1) := do_126 (rdb (p := 96) (i := 25) ch_cX12_walkerGoes_96 rfl)
theorem dX12_walkerGoes_122 : decode cX12_walkerGoes 122 = .ok (.iastore, 1) := do_79 (rdb (p := 96) (i := 26) ch_cX12_walkerGoes_96 rfl)
theorem dX12_walkerGoes_123 : decode cX12_walkerGoes 123 = .ok (.return_, 1) := do_177 (rdb (p := 96) (i := 27) ch_cX12_walkerGoes_96 rfl)
