/-! words of the tables that are used, by their places; decode rows; fields -/
theorem m_60 : Cond.selects yX12_areCells.cls yX12_areCells yX12_areCells ∈ BASE := bmem 60 (by decide +kernel) rfl
theorem m_61 : Cond.selects yX12_findTold.cls yX12_findTold yX12_findTold ∈ BASE := bmem 61 (by decide +kernel) rfl
theorem m_62 : Cond.selects yX12_toldBy.cls yX12_toldBy yX12_toldBy ∈ BASE := bmem 62 (by decide +kernel) rfl
theorem m_1341 : Cond.fieldLink RX12 53 "ClickStreetModel" "tells" "[Z" ∈ BASE := bmem 1341 (by decide +kernel) rfl
theorem m_1719 : Cond.methodLink RX12 272 yX12_areCells ∈ BASE := bmem 1719 (by decide +kernel) rfl
theorem m_1721 : Cond.instanceMethod yX12_areCells ∈ BASE := bmem 1721 (by decide +kernel) rfl
theorem m_1722 : Cond.code yX12_areCells cX12_areCells 6 (some .boolean) ∈ BASE := bmem 1722 (by decide +kernel) rfl
theorem m_1723 : Cond.methodLink RX12 276 yX12_findTold ∈ BASE := bmem 1723 (by decide +kernel) rfl
theorem m_1725 : Cond.instanceMethod yX12_findTold ∈ BASE := bmem 1725 (by decide +kernel) rfl
theorem m_1726 : Cond.code yX12_findTold cX12_findTold 8 none ∈ BASE := bmem 1726 (by decide +kernel) rfl
theorem m_1727 : Cond.methodLink RX12 280 yX12_bits ∈ BASE := bmem 1727 (by decide +kernel) rfl
theorem m_1728 : Cond.static yX12_bits ∈ BASE := bmem 1728 (by decide +kernel) rfl
theorem m_1729 : Cond.code yX12_bits cX12_bits 3 (some .int) ∈ BASE := bmem 1729 (by decide +kernel) rfl
theorem m_1730 : Cond.methodLink RX12 283 yX12_toldBy ∈ BASE := bmem 1730 (by decide +kernel) rfl
theorem m_1732 : Cond.instanceMethod yX12_toldBy ∈ BASE := bmem 1732 (by decide +kernel) rfl
theorem m_1733 : Cond.code yX12_toldBy cX12_toldBy 6 (some .int) ∈ BASE := bmem 1733 (by decide +kernel) rfl
theorem kS_X12_bits : KS yX12_bits cX12_bits 3 (some .int) 1 := ⟨m_1728, m_92, m_1729, by decide +kernel, by decide +kernel, by decide +kernel⟩
theorem kV_X12_areCells : KV yX12_areCells cX12_areCells 6 (some .boolean) 2 := ⟨m_1721, m_60, m_92, m_1722, by decide +kernel, by decide +kernel, by decide +kernel⟩
theorem kV_X12_findTold : KV yX12_findTold cX12_findTold 8 none 3 := ⟨m_1725, m_61, m_92, m_1726, by decide +kernel, by decide +kernel, by decide +kernel⟩
theorem kV_X12_toldBy : KV yX12_toldBy cX12_toldBy 6 (some .int) 1 := ⟨m_1732, m_62, m_92, m_1733, by decide +kernel, by decide +kernel, by decide +kernel⟩
theorem fl_RX12_53 : FLK RX12 53 12 18 (.array .boolean) true := ⟨RX12, TX12, 33, tyX12, rfl, inB12, tyX12_ok, nmX12, by decide, rfl, rfl, Or.inl m_1341⟩
theorem ch_cX12_areCells_0 : (cX12_areCells.data.toList.drop 0).take 36 = [42, 180, 0, 75, 27, 46, 4, 16, 8, 184, 0, 85, 62, 3, 54, 4, 21, 4, 42, 180, 0, 75, 27, 46, 162, 0, 86, 29, 153, 0, 82, 42, 180, 0, 78, 16] := by decide +kernel
theorem dX12_areCells_0 : decode cX12_areCells 0 = .ok (.aload_n 0, 1) := do_42 (rdb (p := 0) (i := 0) ch_cX12_areCells_0 rfl)
theorem dX12_areCells_1 : decode cX12_areCells 1 = .ok (.getfield 75, 3) := do_180 (rdb (p := 0) (i := 1) ch_cX12_areCells_0 rfl) (rdb (p := 0) (i := 2) ch_cX12_areCells_0 rfl) (rdb (p := 0) (i := 3) ch_cX12_areCells_0 rfl) rfl
theorem dX12_areCells_4 : decode cX12_areCells 4 = .ok (.iload_n 1, 1) := do_27 (rdb (p := 0) (i := 4) ch_cX12_areCells_0 rfl)
theorem dX12_areCells_5 : decode cX12_areCells 5 = .ok (.iaload, 1) := do_46 (rdb (p := 0) (i := 5) ch_cX12_areCells_0 rfl)
theorem dX12_areCells_6 : decode cX12_areCells 6 = .ok (.iconst 1, 1) := do_4 (rdb (p := 0) (i := 6) ch_cX12_areCells_0 rfl)
theorem dX12_areCells_7 : decode cX12_areCells 7 = .ok (.bipush 8, 2) := do_16 (rdb (p := 0) (i := 7) ch_cX12_areCells_0 rfl) (rdb (p := 0) (i := 8) ch_cX12_areCells_0 rfl) (by decide +kernel)
theorem dX12_areCells_9 : decode cX12_areCells 9 = .ok (.invokestatic 85, 3) := do_184 (rdb (p := 0) (i := 9) ch_cX12_areCells_0 rfl) (rdb (p := 0) (i := 10) ch_cX12_areCells_0 rfl) (rdb (p := 0) (i := 11) ch_cX12_areCells_0 rfl) rfl
theorem dX12_areCells_12 : decode cX12_areCells 12 = .ok (.istore_n 3, 1) := do_62 (rdb (p := 0) (i := 12) ch_cX12_areCells_0 rfl)
theorem dX12_areCells_13 : decode cX12_areCells 13 = .ok (.iconst 0, 1) := do_3 (rdb (p := 0) (i := 13) ch_cX12_areCells_0 rfl)
theorem dX12_areCells_14 : decode cX12_areCells 14 = .ok (.istore 4, 2) := do_54 (rdb (p := 0) (i := 14) ch_cX12_areCells_0 rfl) (rdb (p := 0) (i := 15) ch_cX12_areCells_0 rfl)
theorem dX12_areCells_16 : decode cX12_areCells 16 = .ok (.iload 4, 2) := do_21 (rdb (p := 0) (i := 16) ch_cX12_areCells_0 rfl) (rdb (p := 0) (i := 17) ch_cX12_areCells_0 rfl)
theorem dX12_areCells_18 : decode cX12_areCells 18 = .ok (.aload_n 0, 1) := do_42 (rdb (p := 0) (i := 18) ch_cX12_areCells_0 rfl)
theorem dX12_areCells_19 : decode cX12_areCells 19 = .ok (.getfield 75, 3) := do_180 (rdb (p := 0) (i := 19) ch_cX12_areCells_0 rfl) (rdb (p := 0) (i := 20) ch_cX12_areCells_0 rfl) (rdb (p := 0) (i := 21) ch_cX12_areCells_0 rfl) rfl
theorem dX12_areCells_22 : decode cX12_areCells 22 = .ok (.iload_n 1, 1) := do_27 (rdb (p := 0) (i := 22) ch_cX12_areCells_0 rfl)
theorem dX12_areCells_23 : decode cX12_areCells 23 = .ok (.iaload, 1) := do_46 (rdb (p := 0) (i := 23) ch_cX12_areCells_0 rfl)
theorem dX12_areCells_24 : decode cX12_areCells 24 = .ok (.if_icmp .ge 86, 3) := do_162 (rdb (p := 0) (i := 24) ch_cX12_areCells_0 rfl) (rdb (p := 0) (i := 25) ch_cX12_areCells_0 rfl) (rdb (p := 0) (i := 26) ch_cX12_areCells_0 rfl) (by decide +kernel)
theorem dX12_areCells_27 : decode cX12_areCells 27 = .ok (.iload_n 3, 1) := do_29 (rdb (p := 0) (i := 27) ch_cX12_areCells_0 rfl)
theorem dX12_areCells_28 : decode cX12_areCells 28 = .ok (.ifCond .eq 82, 3) := do_153 (rdb (p := 0) (i := 28) ch_cX12_areCells_0 rfl) (rdb (p := 0) (i := 29) ch_cX12_areCells_0 rfl) (rdb (p := 0) (i := 30) ch_cX12_areCells_0 rfl) (by decide +kernel)
theorem dX12_areCells_31 : decode cX12_areCells 31 = .ok (.aload_n 0, 1) := do_42 (rdb (p := 0) (i := 31) ch_cX12_areCells_0 rfl)
theorem ch_cX12_areCells_32 : (cX12_areCells.data.toList.drop 32).take 36 = [180, 0, 78, 16, 24, 27, 104, 21, 4, 96, 46, 184, 0, 99, 62, 3, 54, 5, 21, 5, 21, 4, 162, 0, 50, 29, 153, 0, 38, 28, 153, 0, 30, 42, 180, 0] := by decide +kernel
theorem dX12_areCells_32 : decode cX12_areCells 32 = .ok (.getfield 78, 3) := do_180 (rdb (p := 32) (i := 0) ch_cX12_areCells_32 rfl) (rdb (p := 32) (i := 1) ch_cX12_areCells_32 rfl) (rdb (p := 32) (i := 2) ch_cX12_areCells_32 rfl) rfl
theorem dX12_areCells_35 : decode cX12_areCells 35 = .ok (.bipush 24, 2) := do_16 (rdb (p := 32) (i := 3) ch_cX12_areCells_32 rfl) (rdb (p := 32) (i := 4) ch_cX12_areCells_32 rfl) (by decide +kernel)
theorem dX12_areCells_37 : decode cX12_areCells 37 = .ok (.iload_n 1, 1) := do_27 (rdb (p := 32) (i := 5) ch_cX12_areCells_32 rfl)
theorem dX12_areCells_38 : decode cX12_areCells 38 = .ok (.imul, 1) := do_104 (rdb (p := 32) (i := 6) ch_cX12_areCells_32 rfl)
theorem dX12_areCells_39 : decode cX12_areCells 39 = .ok (.iload 4, 2) := do_21 (rdb (p := 32) (i := 7) ch_cX12_areCells_32 rfl) (rdb (p := 32) (i := 8) ch_cX12_areCells_32 rfl)
theorem dX12_areCells_41 : decode cX12_areCells 41 = .ok (.iadd, 1) := do_96 (rdb (p := 32) (i := 9) ch_cX12_areCells_32 rfl)
theorem dX12_areCells_42 : decode cX12_areCells 42 = .ok (.iaload, 1) := do_46 (rdb (p := 32) (i := 10) ch_cX12_areCells_32 rfl)
theorem dX12_areCells_43 : decode cX12_areCells 43 = .ok (.invokestatic 99, 3) := do_184 (rdb (p := 32) (i := 11) ch_cX12_areCells_32 rfl) (rdb (p := 32) (i := 12) ch_cX12_areCells_32 rfl) (rdb (p := 32) (i := 13) ch_cX12_areCells_32 rfl) rfl
theorem dX12_areCells_46 : decode cX12_areCells 46 = .ok (.istore_n 3, 1) := do_62 (rdb (p := 32) (i := 14) ch_cX12_areCells_32 rfl)
theorem dX12_areCells_47 : decode cX12_areCells 47 = .ok (.iconst 0, 1) := do_3 (rdb (p := 32) (i := 15) ch_cX12_areCells_32 rfl)
theorem dX12_areCells_48 : decode cX12_areCells 48 = .ok (.istore 5, 2) := do_54 (rdb (p := 32) (i := 16) ch_cX12_areCells_32 rfl) (rdb (p := 32) (i := 17) ch_cX12_areCells_32 rfl)
theorem dX12_areCells_50 : decode cX12_areCells 50 = .ok (.iload 5, 2) := do_21 (rdb (p := 32) (i := 18) ch_cX12_areCells_32 rfl) (rdb (p := 32) (i := 19) ch_cX12_areCells_32 rfl)
theorem dX12_areCells_52 : decode cX12_areCells 52 = .ok (.iload 4, 2) := do_21 (rdb (p := 32) (i := 20) ch_cX12_areCells_32 rfl) (rdb (p := 32) (i := 21) ch_cX12_areCells_32 rfl)
theorem dX12_areCells_54 : decode cX12_areCells 54 = .ok (.if_icmp .ge 50, 3) := do_162 (rdb (p := 32) (i := 22) ch_cX12_areCells_32 rfl) (rdb (p := 32) (i := 23) ch_cX12_areCells_32 rfl) (rdb (p := 32) (i := 24) ch_cX12_areCells_32 rfl) (by decide +kernel)
theorem dX12_areCells_57 : decode cX12_areCells 57 = .ok (.iload_n 3, 1) := do_29 (rdb (p := 32) (i := 25) ch_cX12_areCells_32 rfl)
theorem dX12_areCells_58 : decode cX12_areCells 58 = .ok (.ifCond .eq 38, 3) := do_153 (rdb (p := 32) (i := 26) ch_cX12_areCells_32 rfl) (rdb (p := 32) (i := 27) ch_cX12_areCells_32 rfl) (rdb (p := 32) (i := 28) ch_cX12_areCells_32 rfl) (by decide +kernel)
theorem dX12_areCells_61 : decode cX12_areCells 61 = .ok (.iload_n 2, 1) := do_28 (rdb (p := 32) (i := 29) ch_cX12_areCells_32 rfl)
theorem dX12_areCells_62 : decode cX12_areCells 62 = .ok (.ifCond .eq 30, 3) := do_153 (rdb (p := 32) (i := 30) ch_cX12_areCells_32 rfl) (rdb (p := 32) (i := 31) ch_cX12_areCells_32 rfl) (rdb (p := 32) (i := 32) ch_cX12_areCells_32 rfl) (by decide +kernel)
theorem ch_cX12_areCells_64 : (cX12_areCells.data.toList.drop 64).take 36 = [30, 42, 180, 0, 78, 16, 24, 27, 104, 21, 5, 96, 46, 42, 180, 0, 78, 16, 24, 27, 104, 21, 4, 96, 46, 159, 0, 7, 4, 167, 0, 4, 3, 62, 132, 5] := by decide +kernel
theorem dX12_areCells_65 : decode cX12_areCells 65 = .ok (.aload_n 0, 1) := do_42 (rdb (p := 64) (i := 1) ch_cX12_areCells_64 rfl)
theorem dX12_areCells_66 : decode cX12_areCells 66 = .ok (.getfield 78, 3) := do_180 (rdb (p := 64) (i := 2) ch_cX12_areCells_64 rfl) (rdb (p := 64) (i := 3) ch_cX12_areCells_64 rfl) (rdb (p := 64) (i := 4) ch_cX12_areCells_64 rfl) rfl
theorem dX12_areCells_69 : decode cX12_areCells 69 = .ok (.bipush 24, 2) := do_16 (rdb (p := 64) (i := 5) ch_cX12_areCells_64 rfl) (rdb (p := 64) (i := 6) ch_cX12_areCells_64 rfl) (by decide +kernel)
theorem dX12_areCells_71 : decode cX12_areCells 71 = .ok (.iload_n 1, 1) := do_27 (rdb (p := 64) (i := 7) ch_cX12_areCells_64 rfl)
theorem dX12_areCells_72 : decode cX12_areCells 72 = .ok (.imul, 1) := do_104 (rdb (p := 64) (i := 8) ch_cX12_areCells_64 rfl)
theorem dX12_areCells_73 : decode cX12_areCells 73 = .ok (.iload 5, 2) := do_21 (rdb (p := 64) (i := 9) ch_cX12_areCells_64 rfl) (rdb (p := 64) (i := 10) ch_cX12_areCells_64 rfl)
theorem dX12_areCells_75 : decode cX12_areCells 75 = .ok (.iadd, 1) := do_96 (rdb (p := 64) (i := 11) ch_cX12_areCells_64 rfl)
theorem dX12_areCells_76 : decode cX12_areCells 76 = .ok (.iaload, 1) := do_46 (rdb (p := 64) (i := 12) ch_cX12_areCells_64 rfl)
theorem dX12_areCells_77 : decode cX12_areCells 77 = .ok (.aload_n 0, 1) := do_42 (rdb (p := 64) (i := 13) ch_cX12_areCells_64 rfl)
theorem dX12_areCells_78 : decode cX12_areCells 78 = .ok (.getfield 78, 3) := do_180 (rdb (p := 64) (i := 14) ch_cX12_areCells_64 rfl) (rdb (p := 64) (i := 15) ch_cX12_areCells_64 rfl) (rdb (p := 64) (i := 16) ch_cX12_areCells_64 rfl) rfl
theorem dX12_areCells_81 : decode cX12_areCells 81 = .ok (.bipush 24, 2) := do_16 (rdb (p := 64) (i := 17) ch_cX12_areCells_64 rfl) (rdb (p := 64) (i := 18) ch_cX12_areCells_64 rfl) (by decide +kernel)
theorem dX12_areCells_83 : decode cX12_areCells 83 = .ok (.iload_n 1, 1) := do_27 (rdb (p := 64) (i := 19) ch_cX12_areCells_64 rfl)
theorem dX12_areCells_84 : decode cX12_areCells 84 = .ok (.imul, 1) := do_104 (rdb (p := 64) (i := 20) ch_cX12_areCells_64 rfl)
theorem dX12_areCells_85 : decode cX12_areCells 85 = .ok (.iload 4, 2) := do_21 (rdb (p := 64) (i := 21) ch_cX12_areCells_64 rfl) (rdb (p := 64) (i := 22) ch_cX12_areCells_64 rfl)
theorem dX12_areCells_87 : decode cX12_areCells 87 = .ok (.iadd, 1) := do_96 (rdb (p := 64) (i := 23) ch_cX12_areCells_64 rfl)
theorem dX12_areCells_88 : decode cX12_areCells 88 = .ok (.iaload, 1) := do_46 (rdb (p := 64) (i := 24) ch_cX12_areCells_64 rfl)
theorem dX12_areCells_89 : decode cX12_areCells 89 = .ok (.if_icmp .eq 7, 3) := do_159 (rdb (p := 64) (i := 25) ch_cX12_areCells_64 rfl) (rdb (p := 64) (i := 26) ch_cX12_areCells_64 rfl) (rdb (p := 64) (i := 27) ch_cX12_areCells_64 rfl) (by decide +kernel)
theorem dX12_areCells_92 : decode cX12_areCells 92 = .ok (.iconst 1, 1) := do_4 (rdb (p := 64) (i := 28) ch_cX12_areCells_64 rfl)
theorem dX12_areCells_93 : decode cX12_areCells 93 = .ok (.goto 4, 3) := do_167 (rdb (p := 64) (i := 29) ch_cX12_areCells_64 rfl) (rdb (p := 64) (i := 30) ch_cX12_areCells_64 rfl) (rdb (p := 64) (i := 31) ch_cX12_areCells_64 rfl) (by decide +kernel)
theorem ch_cX12_areCells_96 : (cX12_areCells.data.toList.drop 96).take 36 = [3, 62, 132, 5, 1, 167, 255, 205, 132, 4, 1, 167, 255, 165, 29, 172] := by decide +kernel
theorem dX12_areCells_96 : decode cX12_areCells 96 = .ok (.iconst 0, 1) := do_3 (rdb (p := 96) (i := 0) ch_cX12_areCells_96 rfl)
theorem dX12_areCells_97 : decode cX12_areCells 97 = .ok (.istore_n 3, 1) := do_62 (rdb (p := 96) (i := 1) ch_cX12_areCells_96 rfl)
theorem dX12_areCells_98 : decode cX12_areCells 98 = .ok (.iinc 5 1, 3) := do_132 (rdb (p := 96) (i := 2) ch_cX12_areCells_96 rfl) (rdb (p := 96) (i := 3) ch_cX12_areCells_96 rfl) (rdb (p := 96) (i := 4) ch_cX12_areCells_96 rfl) (by decide +kernel)
theorem dX12_areCells_101 : decode cX12_areCells 101 = .ok (.goto (-51), 3) := do_167 (rdb (p := 96) (i := 5) ch_cX12_areCells_96 rfl) (rdb (p := 96) (i := 6) ch_cX12_areCells_96 rfl) (rdb (p := 96) (i := 7) ch_cX12_areCells_96 rfl) (by decide +kernel)
theorem dX12_areCells_104 : decode cX12_areCells 104 = .ok (.iinc 4 1, 3) := do_132 (rdb (p := 96) (i := 8) ch_cX12_areCells_96 rfl) (rdb (p := 96) (i := 9) ch_cX12_areCells_96 rfl) (rdb (p := 96) (i := 10) ch_cX12_areCells_96 rfl) (by decide +kernel)
theorem dX12_areCells_107 : decode cX12_areCells 107 = .ok (.goto (-91), 3) := do_167 (rdb (p := 96) (i := 11) ch_cX12_areCells_96 rfl) (rdb (p := 96) (i := 12) ch_cX12_areCells_96 rfl) (rdb (p := 96) (i := 13) ch_cX12_areCells_96 rfl) (by decide +kernel)
theorem dX12_areCells_110 : decode cX12_areCells 110 = .ok (.iload_n 3, 1) := do_29 (rdb (p := 96) (i := 14) ch_cX12_areCells_96 rfl)
theorem dX12_areCells_111 : decode cX12_areCells 111 = .ok (.ireturn, 1) := do_172 (rdb (p := 96) (i := 15) ch_cX12_areCells_96 rfl)
theorem ch_cX12_findTold_0 : (cX12_findTold.data.toList.drop 0).take 36 = [3, 54, 4, 21, 4, 17, 0, 192, 162, 0, 23, 42, 180, 0, 53, 17, 0, 192, 28, 104, 21, 4, 96, 3, 84, 132, 4, 1, 167, 255, 231, 42, 27, 181, 0, 28] := by decide +kernel
theorem dX12_findTold_0 : decode cX12_findTold 0 = .ok (.iconst 0, 1) := do_3 (rdb (p := 0) (i := 0) ch_cX12_findTold_0 rfl)
theorem dX12_findTold_1 : decode cX12_findTold 1 = .ok (.istore 4, 2) := do_54 (rdb (p := 0) (i := 1) ch_cX12_findTold_0 rfl) (rdb (p := 0) (i := 2) ch_cX12_findTold_0 rfl)
theorem dX12_findTold_3 : decode cX12_findTold 3 = .ok (.iload 4, 2) := do_21 (rdb (p := 0) (i := 3) ch_cX12_findTold_0 rfl) (rdb (p := 0) (i := 4) ch_cX12_findTold_0 rfl)
theorem dX12_findTold_5 : decode cX12_findTold 5 = .ok (.sipush 192, 3) := do_17 (rdb (p := 0) (i := 5) ch_cX12_findTold_0 rfl) (rdb (p := 0) (i := 6) ch_cX12_findTold_0 rfl) (rdb (p := 0) (i := 7) ch_cX12_findTold_0 rfl) (by decide +kernel)
theorem dX12_findTold_8 : decode cX12_findTold 8 = .ok (.if_icmp .ge 23, 3) := do_162 (rdb (p := 0) (i := 8) ch_cX12_findTold_0 rfl) (rdb (p := 0) (i := 9) ch_cX12_findTold_0 rfl) (rdb (p := 0) (i := 10) ch_cX12_findTold_0 rfl) (by decide +kernel)
theorem dX12_findTold_11 : decode cX12_findTold 11 = .ok (.aload_n 0, 1) := do_42 (rdb (p := 0) (i := 11) ch_cX12_findTold_0 rfl)
theorem dX12_findTold_12 : decode cX12_findTold 12 = .ok (.getfield 53, 3) := do_180 (rdb (p := 0) (i := 12) ch_cX12_findTold_0 rfl) (rdb (p := 0) (i := 13) ch_cX12_findTold_0 rfl) (rdb (p := 0) (i := 14) ch_cX12_findTold_0 rfl) rfl
theorem dX12_findTold_15 : decode cX12_findTold 15 = .ok (.sipush 192, 3) := do_17 (rdb (p := 0) (i := 15) ch_cX12_findTold_0 rfl) (rdb (p := 0) (i := 16) ch_cX12_findTold_0 rfl) (rdb (p := 0) (i := 17) ch_cX12_findTold_0 rfl) (by decide +kernel)
theorem dX12_findTold_18 : decode cX12_findTold 18 = .ok (.iload_n 2, 1) := do_28 (rdb (p := 0) (i := 18) ch_cX12_findTold_0 rfl)
theorem dX12_findTold_19 : decode cX12_findTold 19 = .ok (.imul, 1) := do_104 (rdb (p := 0) (i := 19) ch_cX12_findTold_0 rfl)
theorem dX12_findTold_20 : decode cX12_findTold 20 = .ok (.iload 4, 2) := do_21 (rdb (p := 0) (i := 20) ch_cX12_findTold_0 rfl) (rdb (p := 0) (i := 21) ch_cX12_findTold_0 rfl)
theorem dX12_findTold_22 : decode cX12_findTold 22 = .ok (.iadd, 1) := do_96 (rdb (p := 0) (i := 22) ch_cX12_findTold_0 rfl)
theorem dX12_findTold_23 : decode cX12_findTold 23 = .ok (.iconst 0, 1) := do_3 (rdb (p := 0) (i := 23) ch_cX12_findTold_0 rfl)
theorem dX12_findTold_24 : decode cX12_findTold 24 = .ok (.bastore, 1) := do_84 (rdb (p := 0) (i := 24) ch_cX12_findTold_0 rfl)
theorem dX12_findTold_25 : decode cX12_findTold 25 = .ok (.iinc 4 1, 3) := do_132 (rdb (p := 0) (i := 25) ch_cX12_findTold_0 rfl) (rdb (p := 0) (i := 26) ch_cX12_findTold_0 rfl) (rdb (p := 0) (i := 27) ch_cX12_findTold_0 rfl) (by decide +kernel)
theorem dX12_findTold_28 : decode cX12_findTold 28 = .ok (.goto (-25), 3) := do_167 (rdb (p := 0) (i := 28) ch_cX12_findTold_0 rfl) (rdb (p := 0) (i := 29) ch_cX12_findTold_0 rfl) (rdb (p := 0) (i := 30) ch_cX12_findTold_0 rfl) (by decide +kernel)
theorem dX12_findTold_31 : decode cX12_findTold 31 = .ok (.aload_n 0, 1) := do_42 (rdb (p := 0) (i := 31) ch_cX12_findTold_0 rfl)
theorem ch_cX12_findTold_32 : (cX12_findTold.data.toList.drop 32).take 36 = [27, 181, 0, 28, 3, 54, 4, 21, 4, 16, 8, 162, 0, 91, 42, 27, 29, 21, 4, 182, 1, 0, 54, 5, 4, 54, 6, 21, 6, 21, 5, 163, 0, 65, 42, 29] := by decide +kernel
theorem dX12_findTold_32 : decode cX12_findTold 32 = .ok (.iload_n 1, 1) := do_27 (rdb (p := 32) (i := 0) ch_cX12_findTold_32 rfl)
theorem dX12_findTold_33 : decode cX12_findTold 33 = .ok (.putfield 28, 3) := do_181 (rdb (p := 32) (i := 1) ch_cX12_findTold_32 rfl) (rdb (p := 32) (i := 2) ch_cX12_findTold_32 rfl) (rdb (p := 32) (i := 3) ch_cX12_findTold_32 rfl) rfl
theorem dX12_findTold_36 : decode cX12_findTold 36 = .ok (.iconst 0, 1) := do_3 (rdb (p := 32) (i := 4) ch_cX12_findTold_32 rfl)
theorem dX12_findTold_37 : decode cX12_findTold 37 = .ok (.istore 4, 2) := do_54 (rdb (p := 32) (i := 5) ch_cX12_findTold_32 rfl) (rdb (p := 32) (i := 6) ch_cX12_findTold_32 rfl)
theorem dX12_findTold_39 : decode cX12_findTold 39 = .ok (.iload 4, 2) := do_21 (rdb (p := 32) (i := 7) ch_cX12_findTold_32 rfl) (rdb (p := 32) (i := 8) ch_cX12_findTold_32 rfl)
theorem dX12_findTold_41 : decode cX12_findTold 41 = .ok (.bipush 8, 2) := do_16 (rdb (p := 32) (i := 9) ch_cX12_findTold_32 rfl) (rdb (p := 32) (i := 10) ch_cX12_findTold_32 rfl) (by decide +kernel)
theorem dX12_findTold_43 : decode cX12_findTold 43 = .ok (.if_icmp .ge 91, 3) := do_162 (rdb (p := 32) (i := 11) ch_cX12_findTold_32 rfl) (rdb (p := 32) (i := 12) ch_cX12_findTold_32 rfl) (rdb (p := 32) (i := 13) ch_cX12_findTold_32 rfl) (by decide +kernel)
theorem dX12_findTold_46 : decode cX12_findTold 46 = .ok (.aload_n 0, 1) := do_42 (rdb (p := 32) (i := 14) ch_cX12_findTold_32 rfl)
theorem dX12_findTold_47 : decode cX12_findTold 47 = .ok (.iload_n 1, 1) := do_27 (rdb (p := 32) (i := 15) ch_cX12_findTold_32 rfl)
theorem dX12_findTold_48 : decode cX12_findTold 48 = .ok (.iload_n 3, 1) := do_29 (rdb (p := 32) (i := 16) ch_cX12_findTold_32 rfl)
theorem dX12_findTold_49 : decode cX12_findTold 49 = .ok (.iload 4, 2) := do_21 (rdb (p := 32) (i := 17) ch_cX12_findTold_32 rfl) (rdb (p := 32) (i := 18) ch_cX12_findTold_32 rfl)
theorem dX12_findTold_51 : decode cX12_findTold 51 = .ok (.invokevirtual 256, 3) := do_182 (rdb (p := 32) (i := 19) ch_cX12_findTold_32 rfl) (rdb (p := 32) (i := 20) ch_cX12_findTold_32 rfl) (rdb (p := 32) (i := 21) ch_cX12_findTold_32 rfl) rfl
theorem dX12_findTold_54 : decode cX12_findTold 54 = .ok (.istore 5, 2) := do_54 (rdb (p := 32) (i := 22) ch_cX12_findTold_32 rfl) (rdb (p := 32) (i := 23) ch_cX12_findTold_32 rfl)
theorem dX12_findTold_56 : decode cX12_findTold 56 = .ok (.iconst 1, 1) := do_4 (rdb (p := 32) (i := 24) ch_cX12_findTold_32 rfl)
theorem dX12_findTold_57 : decode cX12_findTold 57 = .ok (.istore 6, 2) := do_54 (rdb (p := 32) (i := 25) ch_cX12_findTold_32 rfl) (rdb (p := 32) (i := 26) ch_cX12_findTold_32 rfl)
theorem dX12_findTold_59 : decode cX12_findTold 59 = .ok (.iload 6, 2) := do_21 (rdb (p := 32) (i := 27) ch_cX12_findTold_32 rfl) (rdb (p := 32) (i := 28) ch_cX12_findTold_32 rfl)
theorem dX12_findTold_61 : decode cX12_findTold 61 = .ok (.iload 5, 2) := do_21 (rdb (p := 32) (i := 29) ch_cX12_findTold_32 rfl) (rdb (p := 32) (i := 30) ch_cX12_findTold_32 rfl)
theorem dX12_findTold_63 : decode cX12_findTold 63 = .ok (.if_icmp .gt 65, 3) := do_163 (rdb (p := 32) (i := 31) ch_cX12_findTold_32 rfl) (rdb (p := 32) (i := 32) ch_cX12_findTold_32 rfl) (rdb (p := 32) (i := 33) ch_cX12_findTold_32 rfl) (by decide +kernel)
theorem ch_cX12_findTold_64 : (cX12_findTold.data.toList.drop 64).take 36 = [0, 65, 42, 29, 21, 4, 21, 6, 182, 0, 234, 54, 7, 42, 180, 0, 53, 17, 0, 192, 28, 104, 21, 7, 96, 42, 27, 21, 7, 182, 1, 13, 154, 0, 24, 42] := by decide +kernel
theorem dX12_findTold_66 : decode cX12_findTold 66 = .ok (.aload_n 0, 1) := do_42 (rdb (p := 64) (i := 2) ch_cX12_findTold_64 rfl)
theorem dX12_findTold_67 : decode cX12_findTold 67 = .ok (.iload_n 3, 1) := do_29 (rdb (p := 64) (i := 3) ch_cX12_findTold_64 rfl)
theorem dX12_findTold_68 : decode cX12_findTold 68 = .ok (.iload 4, 2) := do_21 (rdb (p := 64) (i := 4) ch_cX12_findTold_64 rfl) (rdb (p := 64) (i := 5) ch_cX12_findTold_64 rfl)
theorem dX12_findTold_70 : decode cX12_findTold 70 = .ok (.iload 6, 2) := do_21 (rdb (p := 64) (i := 6) ch_cX12_findTold_64 rfl) (rdb (p := 64) (i := 7) ch_cX12_findTold_64 rfl)
theorem dX12_findTold_72 : decode cX12_findTold 72 = .ok (.invokevirtual 234, 3) := do_182 (rdb (p := 64) (i := 8) ch_cX12_findTold_64 rfl) (rdb (p := 64) (i := 9) ch_cX12_findTold_64 rfl) (rdb (p := 64) (i := 10) ch_cX12_findTold_64 rfl) rfl
theorem dX12_findTold_75 : decode cX12_findTold 75 = .ok (.istore 7, 2) := do_54 (rdb (p := 64) (i := 11) ch_cX12_findTold_64 rfl) (rdb (p := 64) (i := 12) ch_cX12_findTold_64 rfl)
theorem dX12_findTold_77 : decode cX12_findTold 77 = .ok (.aload_n 0, 1) := do_42 (rdb (p := 64) (i := 13) ch_cX12_findTold_64 rfl)
theorem dX12_findTold_78 : decode cX12_findTold 78 = .ok (.getfield 53, 3) := do_180 (rdb (p := 64) (i := 14) ch_cX12_findTold_64 rfl) (rdb (p := 64) (i := 15) ch_cX12_findTold_64 rfl) (rdb (p := 64) (i := 16) ch_cX12_findTold_64 rfl) rfl
theorem dX12_findTold_81 : decode cX12_findTold 81 = .ok (.sipush 192, 3) := do_17 (rdb (p := 64) (i := 17) ch_cX12_findTold_64 rfl) (rdb (p := 64) (i := 18) ch_cX12_findTold_64 rfl) (rdb (p := 64) (i := 19) ch_cX12_findTold_64 rfl) (by decide +kernel)
theorem dX12_findTold_84 : decode cX12_findTold 84 = .ok (.iload_n 2, 1) := do_28 (rdb (p := 64) (i := 20) ch_cX12_findTold_64 rfl)
theorem dX12_findTold_85 : decode cX12_findTold 85 = .ok (.imul, 1) := do_104 (rdb (p := 64) (i := 21) ch_cX12_findTold_64 rfl)
theorem dX12_findTold_86 : decode cX12_findTold 86 = .ok (.iload 7, 2) := do_21 (rdb (p := 64) (i := 22) ch_cX12_findTold_64 rfl) (rdb (p := 64) (i := 23) ch_cX12_findTold_64 rfl)
theorem dX12_findTold_88 : decode cX12_findTold 88 = .ok (.iadd, 1) := do_96 (rdb (p := 64) (i := 24) ch_cX12_findTold_64 rfl)
theorem dX12_findTold_89 : decode cX12_findTold 89 = .ok (.aload_n 0, 1) := do_42 (rdb (p := 64) (i := 25) ch_cX12_findTold_64 rfl)
theorem dX12_findTold_90 : decode cX12_findTold 90 = .ok (.iload_n 1, 1) := do_27 (rdb (p := 64) (i := 26) ch_cX12_findTold_64 rfl)
theorem dX12_findTold_91 : decode cX12_findTold 91 = .ok (.iload 7, 2) := do_21 (rdb (p := 64) (i := 27) ch_cX12_findTold_64 rfl) (rdb (p := 64) (i := 28) ch_cX12_findTold_64 rfl)
theorem dX12_findTold_93 : decode cX12_findTold 93 = .ok (.invokevirtual 269, 3) := do_182 (rdb (p := 64) (i := 29) ch_cX12_findTold_64 rfl) (rdb (p := 64) (i := 30) ch_cX12_findTold_64 rfl) (rdb (p := 64) (i := 31) ch_cX12_findTold_64 rfl) rfl
theorem ch_cX12_findTold_96 : (cX12_findTold.data.toList.drop 96).take 36 = [154, 0, 24, 42, 180, 0, 9, 42, 27, 21, 7, 182, 0, 253, 46, 16, 99, 162, 0, 7, 4, 167, 0, 4, 3, 84, 132, 6, 1, 167, 255, 190, 132, 4, 1, 167] := by decide +kernel
theorem dX12_findTold_96 : decode cX12_findTold 96 = .ok (.ifCond .ne 24, 3) := do_154 (rdb (p := 96) (i := 0) ch_cX12_findTold_96 rfl) (rdb (p := 96) (i := 1) ch_cX12_findTold_96 rfl) (rdb (p := 96) (i := 2) ch_cX12_findTold_96 rfl) (by decide +kernel)
theorem dX12_findTold_99 : decode cX12_findTold 99 = .ok (.aload_n 0, 1) := do_42 (rdb (p := 96) (i := 3) ch_cX12_findTold_96 rfl)
theorem dX12_findTold_100 : decode cX12_findTold 100 = .ok (.getfield 9, 3) := do_180 (rdb (p := 96) (i := 4) ch_cX12_findTold_96 rfl) (rdb (p := 96) (i := 5) ch_cX12_findTold_96 rfl) (rdb (p := 96) (i := 6) ch_cX12_findTold_96 rfl) rfl
theorem dX12_findTold_103 : decode cX12_findTold 103 = .ok (.aload_n 0, 1) := do_42 (rdb (p := 96) (i := 7) ch_cX12_findTold_96 rfl)
theorem dX12_findTold_104 : decode cX12_findTold 104 = .ok (.iload_n 1, 1) := do_27 (rdb (p := 96) (i := 8) ch_cX12_findTold_96 rfl)
theorem dX12_findTold_105 : decode cX12_findTold 105 = .ok (.iload 7, 2) := do_21 (rdb (p := 96) (i := 9) ch_cX12_findTold_96 rfl) (rdb (p := 96) (i := 10) ch_cX12_findTold_96 rfl)
theorem dX12_findTold_107 : decode cX12_findTold 107 = .ok (.invokevirtual 253, 3) := do_182 (rdb (p := 96) (i := 11) ch_cX12_findTold_96 rfl) (rdb (p := 96) (i := 12) ch_cX12_findTold_96 rfl) (rdb (p := 96) (i := 13) ch_cX12_findTold_96 rfl) rfl
theorem dX12_findTold_110 : decode cX12_findTold 110 = .ok (.iaload, 1) := do_46 (rdb (p := 96) (i := 14) ch_cX12_findTold_96 rfl)
theorem dX12_findTold_111 : decode cX12_findTold 111 = .ok (.bipush 99, 2) := do_16 (rdb (p := 96) (i := 15) ch_cX12_findTold_96 rfl) (rdb (p := 96) (i := 16) ch_cX12_findTold_96 rfl) (by decide +kernel)
theorem dX12_findTold_113 : decode cX12_findTold 113 = .ok (.if_icmp .ge 7, 3) := do_162 (rdb (p := 96) (i := 17) ch_cX12_findTold_96 rfl) (rdb (p := 96) (i := 18) ch_cX12_findTold_96 rfl) (rdb (p := 96) (i := 19) ch_cX12_findTold_96 rfl) (by decide +kernel)
theorem dX12_findTold_116 : decode cX12_findTold 116 = .ok (.iconst 1, 1) := do_4 (rdb (p := 96) (i := 20) ch_cX12_findTold_96 rfl)
theorem dX12_findTold_117 : decode cX12_findTold 117 = .ok (.goto 4, 3) := do_167 (rdb (p := 96) (i := 21) ch_cX12_findTold_96 rfl) (rdb (p := 96) (i := 22) ch_cX12_findTold_96 rfl) (rdb (p := 96) (i := 23) ch_cX12_findTold_96 rfl) (by decide +kernel)
theorem dX12_findTold_120 : decode cX12_findTold 120 = .ok (.iconst 0, 1) := do_3 (rdb (p := 96) (i := 24) ch_cX12_findTold_96 rfl)
theorem dX12_findTold_121 : decode cX12_findTold 121 = .ok (.bastore, 1) := do_84 (rdb (p := 96) (i := 25) ch_cX12_findTold_96 rfl)
theorem dX12_findTold_122 : decode cX12_findTold 122 = .ok (.iinc 6 1, 3) := do_132 (rdb (p := 96) (i := 26) ch_cX12_findTold_96 rfl) (rdb (p := 96) (i := 27) ch_cX12_findTold_96 rfl) (rdb (p := 96) (i := 28) ch_cX12_findTold_96 rfl) (by decide +kernel)
theorem dX12_findTold_125 : decode cX12_findTold 125 = .ok (.goto (-66), 3) := do_167 (rdb (p := 96) (i := 29) ch_cX12_findTold_96 rfl) (rdb (p := 96) (i := 30) ch_cX12_findTold_96 rfl) (rdb (p := 96) (i := 31) ch_cX12_findTold_96 rfl) (by decide +kernel)
theorem ch_cX12_findTold_128 : (cX12_findTold.data.toList.drop 128).take 36 = [132, 4, 1, 167, 255, 164, 42, 2, 181, 0, 28, 177] := by decide +kernel
theorem dX12_findTold_128 : decode cX12_findTold 128 = .ok (.iinc 4 1, 3) := do_132 (rdb (p := 128) (i := 0) ch_cX12_findTold_128 rfl) (rdb (p := 128) (i := 1) ch_cX12_findTold_128 rfl) (rdb (p := 128) (i := 2) ch_cX12_findTold_128 rfl) (by decide +kernel)
theorem dX12_findTold_131 : decode cX12_findTold 131 = .ok (.goto (-92), 3) := do_167 (rdb (p := 128) (i := 3) ch_cX12_findTold_128 rfl) (rdb (p := 128) (i := 4) ch_cX12_findTold_128 rfl) (rdb (p := 128) (i := 5) ch_cX12_findTold_128 rfl) (by decide +kernel)
theorem dX12_findTold_134 : decode cX12_findTold 134 = .ok (.aload_n 0, 1) := do_42 (rdb (p := 128) (i := 6) ch_cX12_findTold_128 rfl)
theorem dX12_findTold_135 : decode cX12_findTold 135 = .ok (.iconst (-1), 1) := do_2 (rdb (p := 128) (i := 7) ch_cX12_findTold_128 rfl)
theorem dX12_findTold_136 : decode cX12_findTold 136 = .ok (.putfield 28, 3) := do_181 (rdb (p := 128) (i := 8) ch_cX12_findTold_128 rfl) (rdb (p := 128) (i := 9) ch_cX12_findTold_128 rfl) (rdb (p := 128) (i := 10) ch_cX12_findTold_128 rfl) rfl
theorem dX12_findTold_139 : decode cX12_findTold 139 = .ok (.return_, 1) := do_177 (rdb (p := 128) (i := 11) ch_cX12_findTold_128 rfl)
theorem ch_cX12_spots_0 : (cX12_spots.data.toList.drop 0).take 36 = [42, 27, 5, 182, 0, 116, 153, 0, 29, 28, 184, 0, 127, 153, 0, 22, 29, 4, 6, 184, 0, 85, 153, 0, 13, 21, 4, 3, 4, 184, 0, 85, 154, 0, 10, 42] := by decide +kernel
theorem dX12_spots_0 : decode cX12_spots 0 = .ok (.aload_n 0, 1) := do_42 (rdb (p := 0) (i := 0) ch_cX12_spots_0 rfl)
theorem dX12_spots_1 : decode cX12_spots 1 = .ok (.iload_n 1, 1) := do_27 (rdb (p := 0) (i := 1) ch_cX12_spots_0 rfl)
theorem dX12_spots_2 : decode cX12_spots 2 = .ok (.iconst 2, 1) := do_5 (rdb (p := 0) (i := 2) ch_cX12_spots_0 rfl)
theorem dX12_spots_3 : decode cX12_spots 3 = .ok (.invokevirtual 116, 3) := do_182 (rdb (p := 0) (i := 3) ch_cX12_spots_0 rfl) (rdb (p := 0) (i := 4) ch_cX12_spots_0 rfl) (rdb (p := 0) (i := 5) ch_cX12_spots_0 rfl) rfl
theorem dX12_spots_6 : decode cX12_spots 6 = .ok (.ifCond .eq 29, 3) := do_153 (rdb (p := 0) (i := 6) ch_cX12_spots_0 rfl) (rdb (p := 0) (i := 7) ch_cX12_spots_0 rfl) (rdb (p := 0) (i := 8) ch_cX12_spots_0 rfl) (by decide +kernel)
theorem dX12_spots_9 : decode cX12_spots 9 = .ok (.iload_n 2, 1) := do_28 (rdb (p := 0) (i := 9) ch_cX12_spots_0 rfl)
theorem dX12_spots_10 : decode cX12_spots 10 = .ok (.invokestatic 127, 3) := do_184 (rdb (p := 0) (i := 10) ch_cX12_spots_0 rfl) (rdb (p := 0) (i := 11) ch_cX12_spots_0 rfl) (rdb (p := 0) (i := 12) ch_cX12_spots_0 rfl) rfl
theorem dX12_spots_13 : decode cX12_spots 13 = .ok (.ifCond .eq 22, 3) := do_153 (rdb (p := 0) (i := 13) ch_cX12_spots_0 rfl) (rdb (p := 0) (i := 14) ch_cX12_spots_0 rfl) (rdb (p := 0) (i := 15) ch_cX12_spots_0 rfl) (by decide +kernel)
theorem dX12_spots_16 : decode cX12_spots 16 = .ok (.iload_n 3, 1) := do_29 (rdb (p := 0) (i := 16) ch_cX12_spots_0 rfl)
theorem dX12_spots_17 : decode cX12_spots 17 = .ok (.iconst 1, 1) := do_4 (rdb (p := 0) (i := 17) ch_cX12_spots_0 rfl)
theorem dX12_spots_18 : decode cX12_spots 18 = .ok (.iconst 3, 1) := do_6 (rdb (p := 0) (i := 18) ch_cX12_spots_0 rfl)
theorem dX12_spots_19 : decode cX12_spots 19 = .ok (.invokestatic 85, 3) := do_184 (rdb (p := 0) (i := 19) ch_cX12_spots_0 rfl) (rdb (p := 0) (i := 20) ch_cX12_spots_0 rfl) (rdb (p := 0) (i := 21) ch_cX12_spots_0 rfl) rfl
theorem dX12_spots_22 : decode cX12_spots 22 = .ok (.ifCond .eq 13, 3) := do_153 (rdb (p := 0) (i := 22) ch_cX12_spots_0 rfl) (rdb (p := 0) (i := 23) ch_cX12_spots_0 rfl) (rdb (p := 0) (i := 24) ch_cX12_spots_0 rfl) (by decide +kernel)
theorem dX12_spots_25 : decode cX12_spots 25 = .ok (.iload 4, 2) := do_21 (rdb (p := 0) (i := 25) ch_cX12_spots_0 rfl) (rdb (p := 0) (i := 26) ch_cX12_spots_0 rfl)
theorem dX12_spots_27 : decode cX12_spots 27 = .ok (.iconst 0, 1) := do_3 (rdb (p := 0) (i := 27) ch_cX12_spots_0 rfl)
theorem dX12_spots_28 : decode cX12_spots 28 = .ok (.iconst 1, 1) := do_4 (rdb (p := 0) (i := 28) ch_cX12_spots_0 rfl)
theorem dX12_spots_29 : decode cX12_spots 29 = .ok (.invokestatic 85, 3) := do_184 (rdb (p := 0) (i := 29) ch_cX12_spots_0 rfl) (rdb (p := 0) (i := 30) ch_cX12_spots_0 rfl) (rdb (p := 0) (i := 31) ch_cX12_spots_0 rfl) rfl
theorem ch_cX12_spots_32 : (cX12_spots.data.toList.drop 32).take 36 = [154, 0, 10, 42, 18, 103, 182, 0, 104, 172, 42, 180, 0, 72, 28, 46, 154, 0, 10, 42, 18, 130, 182, 0, 104, 172, 42, 28, 4, 182, 1, 16, 154, 0, 10, 42] := by decide +kernel
theorem dX12_spots_32 : decode cX12_spots 32 = .ok (.ifCond .ne 10, 3) := do_154 (rdb (p := 32) (i := 0) ch_cX12_spots_32 rfl) (rdb (p := 32) (i := 1) ch_cX12_spots_32 rfl) (rdb (p := 32) (i := 2) ch_cX12_spots_32 rfl) (by decide +kernel)
theorem dX12_spots_35 : decode cX12_spots 35 = .ok (.aload_n 0, 1) := do_42 (rdb (p := 32) (i := 3) ch_cX12_spots_32 rfl)
theorem dX12_spots_36 : decode cX12_spots 36 = .ok (.ldc 103, 2) := do_18 (rdb (p := 32) (i := 4) ch_cX12_spots_32 rfl) (rdb (p := 32) (i := 5) ch_cX12_spots_32 rfl)
theorem dX12_spots_38 : decode cX12_spots 38 = .ok (.invokevirtual 104, 3) := do_182 (rdb (p := 32) (i := 6) ch_cX12_spots_32 rfl) (rdb (p := 32) (i := 7) ch_cX12_spots_32 rfl) (rdb (p := 32) (i := 8) ch_cX12_spots_32 rfl) rfl
theorem dX12_spots_41 : decode cX12_spots 41 = .ok (.ireturn, 1) := do_172 (rdb (p := 32) (i := 9) ch_cX12_spots_32 rfl)
theorem dX12_spots_42 : decode cX12_spots 42 = .ok (.aload_n 0, 1) := do_42 (rdb (p := 32) (i := 10) ch_cX12_spots_32 rfl)
theorem dX12_spots_43 : decode cX12_spots 43 = .ok (.getfield 72, 3) := do_180 (rdb (p := 32) (i := 11) ch_cX12_spots_32 rfl) (rdb (p := 32) (i := 12) ch_cX12_spots_32 rfl) (rdb (p := 32) (i := 13) ch_cX12_spots_32 rfl) rfl
theorem dX12_spots_46 : decode cX12_spots 46 = .ok (.iload_n 2, 1) := do_28 (rdb (p := 32) (i := 14) ch_cX12_spots_32 rfl)
theorem dX12_spots_47 : decode cX12_spots 47 = .ok (.iaload, 1) := do_46 (rdb (p := 32) (i := 15) ch_cX12_spots_32 rfl)
theorem dX12_spots_48 : decode cX12_spots 48 = .ok (.ifCond .ne 10, 3) := do_154 (rdb (p := 32) (i := 16) ch_cX12_spots_32 rfl) (rdb (p := 32) (i := 17) ch_cX12_spots_32 rfl) (rdb (p := 32) (i := 18) ch_cX12_spots_32 rfl) (by decide +kernel)
theorem dX12_spots_51 : decode cX12_spots 51 = .ok (.aload_n 0, 1) := do_42 (rdb (p := 32) (i := 19) ch_cX12_spots_32 rfl)
theorem dX12_spots_52 : decode cX12_spots 52 = .ok (.ldc 130, 2) := do_18 (rdb (p := 32) (i := 20) ch_cX12_spots_32 rfl) (rdb (p := 32) (i := 21) ch_cX12_spots_32 rfl)
theorem dX12_spots_54 : decode cX12_spots 54 = .ok (.invokevirtual 104, 3) := do_182 (rdb (p := 32) (i := 22) ch_cX12_spots_32 rfl) (rdb (p := 32) (i := 23) ch_cX12_spots_32 rfl) (rdb (p := 32) (i := 24) ch_cX12_spots_32 rfl) rfl
theorem dX12_spots_57 : decode cX12_spots 57 = .ok (.ireturn, 1) := do_172 (rdb (p := 32) (i := 25) ch_cX12_spots_32 rfl)
theorem dX12_spots_58 : decode cX12_spots 58 = .ok (.aload_n 0, 1) := do_42 (rdb (p := 32) (i := 26) ch_cX12_spots_32 rfl)
theorem dX12_spots_59 : decode cX12_spots 59 = .ok (.iload_n 2, 1) := do_28 (rdb (p := 32) (i := 27) ch_cX12_spots_32 rfl)
theorem dX12_spots_60 : decode cX12_spots 60 = .ok (.iconst 1, 1) := do_4 (rdb (p := 32) (i := 28) ch_cX12_spots_32 rfl)
theorem dX12_spots_61 : decode cX12_spots 61 = .ok (.invokevirtual 272, 3) := do_182 (rdb (p := 32) (i := 29) ch_cX12_spots_32 rfl) (rdb (p := 32) (i := 30) ch_cX12_spots_32 rfl) (rdb (p := 32) (i := 31) ch_cX12_spots_32 rfl) rfl
theorem ch_cX12_spots_64 : (cX12_spots.data.toList.drop 64).take 36 = [154, 0, 10, 42, 18, 123, 182, 0, 104, 172, 3, 54, 5, 3, 54, 6, 21, 6, 42, 180, 0, 75, 28, 46, 162, 0, 56, 42, 42, 180, 0, 78, 16, 24, 28, 104] := by decide +kernel
theorem dX12_spots_64 : decode cX12_spots 64 = .ok (.ifCond .ne 10, 3) := do_154 (rdb (p := 64) (i := 0) ch_cX12_spots_64 rfl) (rdb (p := 64) (i := 1) ch_cX12_spots_64 rfl) (rdb (p := 64) (i := 2) ch_cX12_spots_64 rfl) (by decide +kernel)
theorem dX12_spots_67 : decode cX12_spots 67 = .ok (.aload_n 0, 1) := do_42 (rdb (p := 64) (i := 3) ch_cX12_spots_64 rfl)
theorem dX12_spots_68 : decode cX12_spots 68 = .ok (.ldc 123, 2) := do_18 (rdb (p := 64) (i := 4) ch_cX12_spots_64 rfl) (rdb (p := 64) (i := 5) ch_cX12_spots_64 rfl)
theorem dX12_spots_70 : decode cX12_spots 70 = .ok (.invokevirtual 104, 3) := do_182 (rdb (p := 64) (i := 6) ch_cX12_spots_64 rfl) (rdb (p := 64) (i := 7) ch_cX12_spots_64 rfl) (rdb (p := 64) (i := 8) ch_cX12_spots_64 rfl) rfl
theorem dX12_spots_73 : decode cX12_spots 73 = .ok (.ireturn, 1) := do_172 (rdb (p := 64) (i := 9) ch_cX12_spots_64 rfl)
theorem dX12_spots_74 : decode cX12_spots 74 = .ok (.iconst 0, 1) := do_3 (rdb (p := 64) (i := 10) ch_cX12_spots_64 rfl)
theorem dX12_spots_75 : decode cX12_spots 75 = .ok (.istore 5, 2) := do_54 (rdb (p := 64) (i := 11) ch_cX12_spots_64 rfl) (rdb (p := 64) (i := 12) ch_cX12_spots_64 rfl)
theorem dX12_spots_77 : decode cX12_spots 77 = .ok (.iconst 0, 1) := do_3 (rdb (p := 64) (i := 13) ch_cX12_spots_64 rfl)
theorem dX12_spots_78 : decode cX12_spots 78 = .ok (.istore 6, 2) := do_54 (rdb (p := 64) (i := 14) ch_cX12_spots_64 rfl) (rdb (p := 64) (i := 15) ch_cX12_spots_64 rfl)
theorem dX12_spots_80 : decode cX12_spots 80 = .ok (.iload 6, 2) := do_21 (rdb (p := 64) (i := 16) ch_cX12_spots_64 rfl) (rdb (p := 64) (i := 17) ch_cX12_spots_64 rfl)
theorem dX12_spots_82 : decode cX12_spots 82 = .ok (.aload_n 0, 1) := do_42 (rdb (p := 64) (i := 18) ch_cX12_spots_64 rfl)
theorem dX12_spots_83 : decode cX12_spots 83 = .ok (.getfield 75, 3) := do_180 (rdb (p := 64) (i := 19) ch_cX12_spots_64 rfl) (rdb (p := 64) (i := 20) ch_cX12_spots_64 rfl) (rdb (p := 64) (i := 21) ch_cX12_spots_64 rfl) rfl
theorem dX12_spots_86 : decode cX12_spots 86 = .ok (.iload_n 2, 1) := do_28 (rdb (p := 64) (i := 22) ch_cX12_spots_64 rfl)
theorem dX12_spots_87 : decode cX12_spots 87 = .ok (.iaload, 1) := do_46 (rdb (p := 64) (i := 23) ch_cX12_spots_64 rfl)
theorem dX12_spots_88 : decode cX12_spots 88 = .ok (.if_icmp .ge 56, 3) := do_162 (rdb (p := 64) (i := 24) ch_cX12_spots_64 rfl) (rdb (p := 64) (i := 25) ch_cX12_spots_64 rfl) (rdb (p := 64) (i := 26) ch_cX12_spots_64 rfl) (by decide +kernel)
theorem dX12_spots_91 : decode cX12_spots 91 = .ok (.aload_n 0, 1) := do_42 (rdb (p := 64) (i := 27) ch_cX12_spots_64 rfl)
theorem dX12_spots_92 : decode cX12_spots 92 = .ok (.aload_n 0, 1) := do_42 (rdb (p := 64) (i := 28) ch_cX12_spots_64 rfl)
theorem dX12_spots_93 : decode cX12_spots 93 = .ok (.getfield 78, 3) := do_180 (rdb (p := 64) (i := 29) ch_cX12_spots_64 rfl) (rdb (p := 64) (i := 30) ch_cX12_spots_64 rfl) (rdb (p := 64) (i := 31) ch_cX12_spots_64 rfl) rfl
theorem ch_cX12_spots_96 : (cX12_spots.data.toList.drop 96).take 36 = [16, 24, 28, 104, 21, 6, 96, 46, 182, 0, 107, 153, 0, 31, 21, 5, 4, 21, 6, 120, 128, 54, 5, 42, 27, 21, 6, 42, 180, 0, 78, 16, 24, 28, 104, 21] := by decide +kernel
theorem dX12_spots_96 : decode cX12_spots 96 = .ok (.bipush 24, 2) := do_16 (rdb (p := 96) (i := 0) ch_cX12_spots_96 rfl) (rdb (p := 96) (i := 1) ch_cX12_spots_96 rfl) (by decide +kernel)
theorem dX12_spots_98 : decode cX12_spots 98 = .ok (.iload_n 2, 1) := do_28 (rdb (p := 96) (i := 2) ch_cX12_spots_96 rfl)
theorem dX12_spots_99 : decode cX12_spots 99 = .ok (.imul, 1) := do_104 (rdb (p := 96) (i := 3) ch_cX12_spots_96 rfl)
theorem dX12_spots_100 : decode cX12_spots 100 = .ok (.iload 6, 2) := do_21 (rdb (p := 96) (i := 4) ch_cX12_spots_96 rfl) (rdb (p := 96) (i := 5) ch_cX12_spots_96 rfl)
theorem dX12_spots_102 : decode cX12_spots 102 = .ok (.iadd, 1) := do_96 (rdb (p := 96) (i := 6) ch_cX12_spots_96 rfl)
theorem dX12_spots_103 : decode cX12_spots 103 = .ok (.iaload, 1) := do_46 (rdb (p := 96) (i := 7) ch_cX12_spots_96 rfl)
theorem dX12_spots_104 : decode cX12_spots 104 = .ok (.invokevirtual 107, 3) := do_182 (rdb (p := 96) (i := 8) ch_cX12_spots_96 rfl) (rdb (p := 96) (i := 9) ch_cX12_spots_96 rfl) (rdb (p := 96) (i := 10) ch_cX12_spots_96 rfl) rfl
theorem dX12_spots_107 : decode cX12_spots 107 = .ok (.ifCond .eq 31, 3) := do_153 (rdb (p := 96) (i := 11) ch_cX12_spots_96 rfl) (rdb (p := 96) (i := 12) ch_cX12_spots_96 rfl) (rdb (p := 96) (i := 13) ch_cX12_spots_96 rfl) (by decide +kernel)
theorem dX12_spots_110 : decode cX12_spots 110 = .ok (.iload 5, 2) := do_21 (rdb (p := 96) (i := 14) ch_cX12_spots_96 rfl) (rdb (p := 96) (i := 15) ch_cX12_spots_96 rfl)
theorem dX12_spots_112 : decode cX12_spots 112 = .ok (.iconst 1, 1) := do_4 (rdb (p := 96) (i := 16) ch_cX12_spots_96 rfl)
theorem dX12_spots_113 : decode cX12_spots 113 = .ok (.iload 6, 2) := do_21 (rdb (p := 96) (i := 17) ch_cX12_spots_96 rfl) (rdb (p := 96) (i := 18) ch_cX12_spots_96 rfl)
theorem dX12_spots_115 : decode cX12_spots 115 = .ok (.ishl, 1) := do_120 (rdb (p := 96) (i := 19) ch_cX12_spots_96 rfl)
theorem dX12_spots_116 : decode cX12_spots 116 = .ok (.ior, 1) := do_128 (rdb (p := 96) (i := 20) ch_cX12_spots_96 rfl)
theorem dX12_spots_117 : decode cX12_spots 117 = .ok (.istore 5, 2) := do_54 (rdb (p := 96) (i := 21) ch_cX12_spots_96 rfl) (rdb (p := 96) (i := 22) ch_cX12_spots_96 rfl)
theorem dX12_spots_119 : decode cX12_spots 119 = .ok (.aload_n 0, 1) := do_42 (rdb (p := 96) (i := 23) ch_cX12_spots_96 rfl)
theorem dX12_spots_120 : decode cX12_spots 120 = .ok (.iload_n 1, 1) := do_27 (rdb (p := 96) (i := 24) ch_cX12_spots_96 rfl)
theorem dX12_spots_121 : decode cX12_spots 121 = .ok (.iload 6, 2) := do_21 (rdb (p := 96) (i := 25) ch_cX12_spots_96 rfl) (rdb (p := 96) (i := 26) ch_cX12_spots_96 rfl)
theorem dX12_spots_123 : decode cX12_spots 123 = .ok (.aload_n 0, 1) := do_42 (rdb (p := 96) (i := 27) ch_cX12_spots_96 rfl)
theorem dX12_spots_124 : decode cX12_spots 124 = .ok (.getfield 78, 3) := do_180 (rdb (p := 96) (i := 28) ch_cX12_spots_96 rfl) (rdb (p := 96) (i := 29) ch_cX12_spots_96 rfl) (rdb (p := 96) (i := 30) ch_cX12_spots_96 rfl) rfl
theorem dX12_spots_127 : decode cX12_spots 127 = .ok (.bipush 24, 2) := do_16 (rdb (p := 96) (i := 31) ch_cX12_spots_96 rfl) (rdb (p := 96) (i := 32) ch_cX12_spots_96 rfl) (by decide +kernel)
theorem ch_cX12_spots_128 : (cX12_spots.data.toList.drop 128).take 36 = [24, 28, 104, 21, 6, 96, 46, 182, 1, 20, 132, 6, 1, 167, 255, 195, 21, 5, 184, 1, 24, 29, 162, 0, 10, 42, 18, 110, 182, 0, 104, 172, 3, 54, 6, 2] := by decide +kernel
theorem dX12_spots_129 : decode cX12_spots 129 = .ok (.iload_n 2, 1) := do_28 (rdb (p := 128) (i := 1) ch_cX12_spots_128 rfl)
theorem dX12_spots_130 : decode cX12_spots 130 = .ok (.imul, 1) := do_104 (rdb (p := 128) (i := 2) ch_cX12_spots_128 rfl)
theorem dX12_spots_131 : decode cX12_spots 131 = .ok (.iload 6, 2) := do_21 (rdb (p := 128) (i := 3) ch_cX12_spots_128 rfl) (rdb (p := 128) (i := 4) ch_cX12_spots_128 rfl)
theorem dX12_spots_133 : decode cX12_spots 133 = .ok (.iadd, 1) := do_96 (rdb (p := 128) (i := 5) ch_cX12_spots_128 rfl)
theorem dX12_spots_134 : decode cX12_spots 134 = .ok (.iaload, 1) := do_46 (rdb (p := 128) (i := 6) ch_cX12_spots_128 rfl)
theorem dX12_spots_135 : decode cX12_spots 135 = .ok (.invokevirtual 276, 3) := do_182 (rdb (p := 128) (i := 7) ch_cX12_spots_128 rfl) (rdb (p := 128) (i := 8) ch_cX12_spots_128 rfl) (rdb (p := 128) (i := 9) ch_cX12_spots_128 rfl) rfl
theorem dX12_spots_138 : decode cX12_spots 138 = .ok (.iinc 6 1, 3) := do_132 (rdb (p := 128) (i := 10) ch_cX12_spots_128 rfl) (rdb (p := 128) (i := 11) ch_cX12_spots_128 rfl) (rdb (p := 128) (i := 12) ch_cX12_spots_128 rfl) (by decide +kernel)
theorem dX12_spots_141 : decode cX12_spots 141 = .ok (.goto (-61), 3) := do_167 (rdb (p := 128) (i := 13) ch_cX12_spots_128 rfl) (rdb (p := 128) (i := 14) ch_cX12_spots_128 rfl) (rdb (p := 128) (i := 15) ch_cX12_spots_128 rfl) (by decide +kernel)
theorem dX12_spots_144 : decode cX12_spots 144 = .ok (.iload 5, 2) := do_21 (rdb (p := 128) (i := 16) ch_cX12_spots_128 rfl) (rdb (p := 128) (i := 17) ch_cX12_spots_128 rfl)
theorem dX12_spots_146 : decode cX12_spots 146 = .ok (.invokestatic 280, 3) := do_184 (rdb (p := 128) (i := 18) ch_cX12_spots_128 rfl) (rdb (p := 128) (i := 19) ch_cX12_spots_128 rfl) (rdb (p := 128) (i := 20) ch_cX12_spots_128 rfl) rfl
theorem dX12_spots_149 : decode cX12_spots 149 = .ok (.iload_n 3, 1) := do_29 (rdb (p := 128) (i := 21) ch_cX12_spots_128 rfl)
theorem dX12_spots_150 : decode cX12_spots 150 = .ok (.if_icmp .ge 10, 3) := do_162 (rdb (p := 128) (i := 22) ch_cX12_spots_128 rfl) (rdb (p := 128) (i := 23) ch_cX12_spots_128 rfl) (rdb (p := 128) (i := 24) ch_cX12_spots_128 rfl) (by decide +kernel)
theorem dX12_spots_153 : decode cX12_spots 153 = .ok (.aload_n 0, 1) := do_42 (rdb (p := 128) (i := 25) ch_cX12_spots_128 rfl)
theorem dX12_spots_154 : decode cX12_spots 154 = .ok (.ldc 110, 2) := do_18 (rdb (p := 128) (i := 26) ch_cX12_spots_128 rfl) (rdb (p := 128) (i := 27) ch_cX12_spots_128 rfl)
theorem dX12_spots_156 : decode cX12_spots 156 = .ok (.invokevirtual 104, 3) := do_182 (rdb (p := 128) (i := 28) ch_cX12_spots_128 rfl) (rdb (p := 128) (i := 29) ch_cX12_spots_128 rfl) (rdb (p := 128) (i := 30) ch_cX12_spots_128 rfl) rfl
theorem dX12_spots_159 : decode cX12_spots 159 = .ok (.ireturn, 1) := do_172 (rdb (p := 128) (i := 31) ch_cX12_spots_128 rfl)
theorem ch_cX12_spots_160 : (cX12_spots.data.toList.drop 160).take 36 = [3, 54, 6, 2, 54, 7, 3, 54, 8, 21, 8, 4, 42, 180, 0, 75, 28, 46, 120, 162, 0, 51, 21, 8, 21, 5, 2, 130, 126, 154, 0, 35, 21, 8, 184, 1] := by decide +kernel
theorem dX12_spots_160 : decode cX12_spots 160 = .ok (.iconst 0, 1) := do_3 (rdb (p := 160) (i := 0) ch_cX12_spots_160 rfl)
theorem dX12_spots_161 : decode cX12_spots 161 = .ok (.istore 6, 2) := do_54 (rdb (p := 160) (i := 1) ch_cX12_spots_160 rfl) (rdb (p := 160) (i := 2) ch_cX12_spots_160 rfl)
theorem dX12_spots_163 : decode cX12_spots 163 = .ok (.iconst (-1), 1) := do_2 (rdb (p := 160) (i := 3) ch_cX12_spots_160 rfl)
theorem dX12_spots_164 : decode cX12_spots 164 = .ok (.istore 7, 2) := do_54 (rdb (p := 160) (i := 4) ch_cX12_spots_160 rfl) (rdb (p := 160) (i := 5) ch_cX12_spots_160 rfl)
theorem dX12_spots_166 : decode cX12_spots 166 = .ok (.iconst 0, 1) := do_3 (rdb (p := 160) (i := 6) ch_cX12_spots_160 rfl)
theorem dX12_spots_167 : decode cX12_spots 167 = .ok (.istore 8, 2) := do_54 (rdb (p := 160) (i := 7) ch_cX12_spots_160 rfl) (rdb (p := 160) (i := 8) ch_cX12_spots_160 rfl)
theorem dX12_spots_169 : decode cX12_spots 169 = .ok (.iload 8, 2) := do_21 (rdb (p := 160) (i := 9) ch_cX12_spots_160 rfl) (rdb (p := 160) (i := 10) ch_cX12_spots_160 rfl)
theorem dX12_spots_171 : decode cX12_spots 171 = .ok (.iconst 1, 1) := do_4 (rdb (p := 160) (i := 11) ch_cX12_spots_160 rfl)
theorem dX12_spots_172 : decode cX12_spots 172 = .ok (.aload_n 0, 1) := do_42 (rdb (p := 160) (i := 12) ch_cX12_spots_160 rfl)
theorem dX12_spots_173 : decode cX12_spots 173 = .ok (.getfield 75, 3) := do_180 (rdb (p := 160) (i := 13) ch_cX12_spots_160 rfl) (rdb (p := 160) (i := 14) ch_cX12_spots_160 rfl) (rdb (p := 160) (i := 15) ch_cX12_spots_160 rfl) rfl
theorem dX12_spots_176 : decode cX12_spots 176 = .ok (.iload_n 2, 1) := do_28 (rdb (p := 160) (i := 16) ch_cX12_spots_160 rfl)
theorem dX12_spots_177 : decode cX12_spots 177 = .ok (.iaload, 1) := do_46 (rdb (p := 160) (i := 17) ch_cX12_spots_160 rfl)
theorem dX12_spots_178 : decode cX12_spots 178 = .ok (.ishl, 1) := do_120 (rdb (p := 160) (i := 18) ch_cX12_spots_160 rfl)
theorem dX12_spots_179 : decode cX12_spots 179 = .ok (.if_icmp .ge 51, 3) := do_162 (rdb (p := 160) (i := 19) ch_cX12_spots_160 rfl) (rdb (p := 160) (i := 20) ch_cX12_spots_160 rfl) (rdb (p := 160) (i := 21) ch_cX12_spots_160 rfl) (by decide +kernel)
theorem dX12_spots_182 : decode cX12_spots 182 = .ok (.iload 8, 2) := do_21 (rdb (p := 160) (i := 22) ch_cX12_spots_160 rfl) (rdb (p := 160) (i := 23) ch_cX12_spots_160 rfl)
theorem dX12_spots_184 : decode cX12_spots 184 = .ok (.iload 5, 2) := do_21 (rdb (p := 160) (i := 24) ch_cX12_spots_160 rfl) (rdb (p := 160) (i := 25) ch_cX12_spots_160 rfl)
theorem dX12_spots_186 : decode cX12_spots 186 = .ok (.iconst (-1), 1) := do_2 (rdb (p := 160) (i := 26) ch_cX12_spots_160 rfl)
theorem dX12_spots_187 : decode cX12_spots 187 = .ok (.ixor, 1) := do_130 (rdb (p := 160) (i := 27) ch_cX12_spots_160 rfl)
theorem dX12_spots_188 : decode cX12_spots 188 = .ok (.iand, 1) := do_126 (rdb (p := 160) (i := 28) ch_cX12_spots_160 rfl)
theorem dX12_spots_189 : decode cX12_spots 189 = .ok (.ifCond .ne 35, 3) := do_154 (rdb (p := 160) (i := 29) ch_cX12_spots_160 rfl) (rdb (p := 160) (i := 30) ch_cX12_spots_160 rfl) (rdb (p := 160) (i := 31) ch_cX12_spots_160 rfl) (by decide +kernel)
theorem ch_cX12_spots_192 : (cX12_spots.data.toList.drop 192).take 36 = [21, 8, 184, 1, 24, 29, 160, 0, 26, 42, 21, 8, 182, 1, 27, 21, 7, 164, 0, 15, 21, 8, 54, 6, 42, 21, 8, 182, 1, 27, 54, 7, 132, 8, 1, 167] := by decide +kernel
theorem dX12_spots_192 : decode cX12_spots 192 = .ok (.iload 8, 2) := do_21 (rdb (p := 192) (i := 0) ch_cX12_spots_192 rfl) (rdb (p := 192) (i := 1) ch_cX12_spots_192 rfl)
theorem dX12_spots_194 : decode cX12_spots 194 = .ok (.invokestatic 280, 3) := do_184 (rdb (p := 192) (i := 2) ch_cX12_spots_192 rfl) (rdb (p := 192) (i := 3) ch_cX12_spots_192 rfl) (rdb (p := 192) (i := 4) ch_cX12_spots_192 rfl) rfl
theorem dX12_spots_197 : decode cX12_spots 197 = .ok (.iload_n 3, 1) := do_29 (rdb (p := 192) (i := 5) ch_cX12_spots_192 rfl)
theorem dX12_spots_198 : decode cX12_spots 198 = .ok (.if_icmp .ne 26, 3) := do_160 (rdb (p := 192) (i := 6) ch_cX12_spots_192 rfl) (rdb (p := 192) (i := 7) ch_cX12_spots_192 rfl) (rdb (p := 192) (i := 8) ch_cX12_spots_192 rfl) (by decide +kernel)
theorem dX12_spots_201 : decode cX12_spots 201 = .ok (.aload_n 0, 1) := do_42 (rdb (p := 192) (i := 9) ch_cX12_spots_192 rfl)
theorem dX12_spots_202 : decode cX12_spots 202 = .ok (.iload 8, 2) := do_21 (rdb (p := 192) (i := 10) ch_cX12_spots_192 rfl) (rdb (p := 192) (i := 11) ch_cX12_spots_192 rfl)
theorem dX12_spots_204 : decode cX12_spots 204 = .ok (.invokevirtual 283, 3) := do_182 (rdb (p := 192) (i := 12) ch_cX12_spots_192 rfl) (rdb (p := 192) (i := 13) ch_cX12_spots_192 rfl) (rdb (p := 192) (i := 14) ch_cX12_spots_192 rfl) rfl
theorem dX12_spots_207 : decode cX12_spots 207 = .ok (.iload 7, 2) := do_21 (rdb (p := 192) (i := 15) ch_cX12_spots_192 rfl) (rdb (p := 192) (i := 16) ch_cX12_spots_192 rfl)
theorem dX12_spots_209 : decode cX12_spots 209 = .ok (.if_icmp .le 15, 3) := do_164 (rdb (p := 192) (i := 17) ch_cX12_spots_192 rfl) (rdb (p := 192) (i := 18) ch_cX12_spots_192 rfl) (rdb (p := 192) (i := 19) ch_cX12_spots_192 rfl) (by decide +kernel)
theorem dX12_spots_212 : decode cX12_spots 212 = .ok (.iload 8, 2) := do_21 (rdb (p := 192) (i := 20) ch_cX12_spots_192 rfl) (rdb (p := 192) (i := 21) ch_cX12_spots_192 rfl)
theorem dX12_spots_214 : decode cX12_spots 214 = .ok (.istore 6, 2) := do_54 (rdb (p := 192) (i := 22) ch_cX12_spots_192 rfl) (rdb (p := 192) (i := 23) ch_cX12_spots_192 rfl)
theorem dX12_spots_216 : decode cX12_spots 216 = .ok (.aload_n 0, 1) := do_42 (rdb (p := 192) (i := 24) ch_cX12_spots_192 rfl)
theorem dX12_spots_217 : decode cX12_spots 217 = .ok (.iload 8, 2) := do_21 (rdb (p := 192) (i := 25) ch_cX12_spots_192 rfl) (rdb (p := 192) (i := 26) ch_cX12_spots_192 rfl)
theorem dX12_spots_219 : decode cX12_spots 219 = .ok (.invokevirtual 283, 3) := do_182 (rdb (p := 192) (i := 27) ch_cX12_spots_192 rfl) (rdb (p := 192) (i := 28) ch_cX12_spots_192 rfl) (rdb (p := 192) (i := 29) ch_cX12_spots_192 rfl) rfl
theorem dX12_spots_222 : decode cX12_spots 222 = .ok (.istore 7, 2) := do_54 (rdb (p := 192) (i := 30) ch_cX12_spots_192 rfl) (rdb (p := 192) (i := 31) ch_cX12_spots_192 rfl)
theorem ch_cX12_spots_224 : (cX12_spots.data.toList.drop 224).take 36 = [132, 8, 1, 167, 255, 198, 21, 4, 154, 0, 8, 21, 7, 167, 0, 5, 21, 6, 172] := by decide +kernel
theorem dX12_spots_224 : decode cX12_spots 224 = .ok (.iinc 8 1, 3) := do_132 (rdb (p := 224) (i := 0) ch_cX12_spots_224 rfl) (rdb (p := 224) (i := 1) ch_cX12_spots_224 rfl) (rdb (p := 224) (i := 2) ch_cX12_spots_224 rfl) (by decide +kernel)
theorem dX12_spots_227 : decode cX12_spots 227 = .ok (.goto (-58), 3) := do_167 (rdb (p := 224) (i := 3) ch_cX12_spots_224 rfl) (rdb (p := 224) (i := 4) ch_cX12_spots_224 rfl) (rdb (p := 224) (i := 5) ch_cX12_spots_224 rfl) (by decide +kernel)
theorem dX12_spots_230 : decode cX12_spots 230 = .ok (.iload 4, 2) := do_21 (rdb (p := 224) (i := 6) ch_cX12_spots_224 rfl) (rdb (p := 224) (i := 7) ch_cX12_spots_224 rfl)
theorem dX12_spots_232 : decode cX12_spots 232 = .ok (.ifCond .ne 8, 3) := do_154 (rdb (p := 224) (i := 8) ch_cX12_spots_224 rfl) (rdb (p := 224) (i := 9) ch_cX12_spots_224 rfl) (rdb (p := 224) (i := 10) ch_cX12_spots_224 rfl) (by decide +kernel)
theorem dX12_spots_235 : decode cX12_spots 235 = .ok (.iload 7, 2) := do_21 (rdb (p := 224) (i := 11) ch_cX12_spots_224 rfl) (rdb (p := 224) (i := 12) ch_cX12_spots_224 rfl)
theorem dX12_spots_237 : decode cX12_spots 237 = .ok (.goto 5, 3) := do_167 (rdb (p := 224) (i := 13) ch_cX12_spots_224 rfl) (rdb (p := 224) (i := 14) ch_cX12_spots_224 rfl) (rdb (p := 224) (i := 15) ch_cX12_spots_224 rfl) (by decide +kernel)
theorem dX12_spots_240 : decode cX12_spots 240 = .ok (.iload 6, 2) := do_21 (rdb (p := 224) (i := 16) ch_cX12_spots_224 rfl) (rdb (p := 224) (i := 17) ch_cX12_spots_224 rfl)
theorem dX12_spots_242 : decode cX12_spots 242 = .ok (.ireturn, 1) := do_172 (rdb (p := 224) (i := 18) ch_cX12_spots_224 rfl)
theorem ch_cX12_toldBy_0 : (cX12_toldBy.data.toList.drop 0).take 36 = [3, 61, 3, 62, 29, 17, 0, 192, 162, 0, 79, 3, 54, 4, 3, 54, 5, 21, 5, 16, 8, 162, 0, 47, 21, 4, 154, 0, 29, 27, 21, 5, 122, 4, 126, 4] := by decide +kernel
theorem dX12_toldBy_0 : decode cX12_toldBy 0 = .ok (.iconst 0, 1) := do_3 (rdb (p := 0) (i := 0) ch_cX12_toldBy_0 rfl)
theorem dX12_toldBy_1 : decode cX12_toldBy 1 = .ok (.istore_n 2, 1) := do_61 (rdb (p := 0) (i := 1) ch_cX12_toldBy_0 rfl)
theorem dX12_toldBy_2 : decode cX12_toldBy 2 = .ok (.iconst 0, 1) := do_3 (rdb (p := 0) (i := 2) ch_cX12_toldBy_0 rfl)
theorem dX12_toldBy_3 : decode cX12_toldBy 3 = .ok (.istore_n 3, 1) := do_62 (rdb (p := 0) (i := 3) ch_cX12_toldBy_0 rfl)
theorem dX12_toldBy_4 : decode cX12_toldBy 4 = .ok (.iload_n 3, 1) := do_29 (rdb (p := 0) (i := 4) ch_cX12_toldBy_0 rfl)
theorem dX12_toldBy_5 : decode cX12_toldBy 5 = .ok (.sipush 192, 3) := do_17 (rdb (p := 0) (i := 5) ch_cX12_toldBy_0 rfl) (rdb (p := 0) (i := 6) ch_cX12_toldBy_0 rfl) (rdb (p := 0) (i := 7) ch_cX12_toldBy_0 rfl) (by decide +kernel)
theorem dX12_toldBy_8 : decode cX12_toldBy 8 = .ok (.if_icmp .ge 79, 3) := do_162 (rdb (p := 0) (i := 8) ch_cX12_toldBy_0 rfl) (rdb (p := 0) (i := 9) ch_cX12_toldBy_0 rfl) (rdb (p := 0) (i := 10) ch_cX12_toldBy_0 rfl) (by decide +kernel)
theorem dX12_toldBy_11 : decode cX12_toldBy 11 = .ok (.iconst 0, 1) := do_3 (rdb (p := 0) (i := 11) ch_cX12_toldBy_0 rfl)
theorem dX12_toldBy_12 : decode cX12_toldBy 12 = .ok (.istore 4, 2) := do_54 (rdb (p := 0) (i := 12) ch_cX12_toldBy_0 rfl) (rdb (p := 0) (i := 13) ch_cX12_toldBy_0 rfl)
theorem dX12_toldBy_14 : decode cX12_toldBy 14 = .ok (.iconst 0, 1) := do_3 (rdb (p := 0) (i := 14) ch_cX12_toldBy_0 rfl)
theorem dX12_toldBy_15 : decode cX12_toldBy 15 = .ok (.istore 5, 2) := do_54 (rdb (p := 0) (i := 15) ch_cX12_toldBy_0 rfl) (rdb (p := 0) (i := 16) ch_cX12_toldBy_0 rfl)
theorem dX12_toldBy_17 : decode cX12_toldBy 17 = .ok (.iload 5, 2) := do_21 (rdb (p := 0) (i := 17) ch_cX12_toldBy_0 rfl) (rdb (p := 0) (i := 18) ch_cX12_toldBy_0 rfl)
theorem dX12_toldBy_19 : decode cX12_toldBy 19 = .ok (.bipush 8, 2) := do_16 (rdb (p := 0) (i := 19) ch_cX12_toldBy_0 rfl) (rdb (p := 0) (i := 20) ch_cX12_toldBy_0 rfl) (by decide +kernel)
theorem dX12_toldBy_21 : decode cX12_toldBy 21 = .ok (.if_icmp .ge 47, 3) := do_162 (rdb (p := 0) (i := 21) ch_cX12_toldBy_0 rfl) (rdb (p := 0) (i := 22) ch_cX12_toldBy_0 rfl) (rdb (p := 0) (i := 23) ch_cX12_toldBy_0 rfl) (by decide +kernel)
theorem dX12_toldBy_24 : decode cX12_toldBy 24 = .ok (.iload 4, 2) := do_21 (rdb (p := 0) (i := 24) ch_cX12_toldBy_0 rfl) (rdb (p := 0) (i := 25) ch_cX12_toldBy_0 rfl)
theorem dX12_toldBy_26 : decode cX12_toldBy 26 = .ok (.ifCond .ne 29, 3) := do_154 (rdb (p := 0) (i := 26) ch_cX12_toldBy_0 rfl) (rdb (p := 0) (i := 27) ch_cX12_toldBy_0 rfl) (rdb (p := 0) (i := 28) ch_cX12_toldBy_0 rfl) (by decide +kernel)
theorem dX12_toldBy_29 : decode cX12_toldBy 29 = .ok (.iload_n 1, 1) := do_27 (rdb (p := 0) (i := 29) ch_cX12_toldBy_0 rfl)
theorem dX12_toldBy_30 : decode cX12_toldBy 30 = .ok (.iload 5, 2) := do_21 (rdb (p := 0) (i := 30) ch_cX12_toldBy_0 rfl) (rdb (p := 0) (i := 31) ch_cX12_toldBy_0 rfl)
theorem ch_cX12_toldBy_32 : (cX12_toldBy.data.toList.drop 32).take 36 = [122, 4, 126, 4, 160, 0, 23, 42, 180, 0, 53, 17, 0, 192, 21, 5, 104, 29, 96, 51, 153, 0, 7, 4, 167, 0, 4, 3, 54, 4, 132, 5, 1, 167, 255, 208] := by decide +kernel
theorem dX12_toldBy_32 : decode cX12_toldBy 32 = .ok (.ishr, 1) := do_122 (rdb (p := 32) (i := 0) ch_cX12_toldBy_32 rfl)
theorem dX12_toldBy_33 : decode cX12_toldBy 33 = .ok (.iconst 1, 1) := do_4 (rdb (p := 32) (i := 1) ch_cX12_toldBy_32 rfl)
theorem dX12_toldBy_34 : decode cX12_toldBy 34 = .ok (.iand, 1) := do_126 (rdb (p := 32) (i := 2) ch_cX12_toldBy_32 rfl)
theorem dX12_toldBy_35 : decode cX12_toldBy 35 = .ok (.iconst 1, 1) := do_4 (rdb (p := 32) (i := 3) ch_cX12_toldBy_32 rfl)
theorem dX12_toldBy_36 : decode cX12_toldBy 36 = .ok (.if_icmp .ne 23, 3) := do_160 (rdb (p := 32) (i := 4) ch_cX12_toldBy_32 rfl) (rdb (p := 32) (i := 5) ch_cX12_toldBy_32 rfl) (rdb (p := 32) (i := 6) ch_cX12_toldBy_32 rfl) (by decide +kernel)
theorem dX12_toldBy_39 : decode cX12_toldBy 39 = .ok (.aload_n 0, 1) := do_42 (rdb (p := 32) (i := 7) ch_cX12_toldBy_32 rfl)
theorem dX12_toldBy_40 : decode cX12_toldBy 40 = .ok (.getfield 53, 3) := do_180 (rdb (p := 32) (i := 8) ch_cX12_toldBy_32 rfl) (rdb (p := 32) (i := 9) ch_cX12_toldBy_32 rfl) (rdb (p := 32) (i := 10) ch_cX12_toldBy_32 rfl) rfl
theorem dX12_toldBy_43 : decode cX12_toldBy 43 = .ok (.sipush 192, 3) := do_17 (rdb (p := 32) (i := 11) ch_cX12_toldBy_32 rfl) (rdb (p := 32) (i := 12) ch_cX12_toldBy_32 rfl) (rdb (p := 32) (i := 13) ch_cX12_toldBy_32 rfl) (by decide +kernel)
theorem dX12_toldBy_46 : decode cX12_toldBy 46 = .ok (.iload 5, 2) := do_21 (rdb (p := 32) (i := 14) ch_cX12_toldBy_32 rfl) (rdb (p := 32) (i := 15) ch_cX12_toldBy_32 rfl)
theorem dX12_toldBy_48 : decode cX12_toldBy 48 = .ok (.imul, 1) := do_104 (rdb (p := 32) (i := 16) ch_cX12_toldBy_32 rfl)
theorem dX12_toldBy_49 : decode cX12_toldBy 49 = .ok (.iload_n 3, 1) := do_29 (rdb (p := 32) (i := 17) ch_cX12_toldBy_32 rfl)
theorem dX12_toldBy_50 : decode cX12_toldBy 50 = .ok (.iadd, 1) := do_96 (rdb (p := 32) (i := 18) ch_cX12_toldBy_32 rfl)
theorem dX12_toldBy_51 : decode cX12_toldBy 51 = .ok (.baload, 1) := do_51 (rdb (p := 32) (i := 19) ch_cX12_toldBy_32 rfl)
theorem dX12_toldBy_52 : decode cX12_toldBy 52 = .ok (.ifCond .eq 7, 3) := do_153 (rdb (p := 32) (i := 20) ch_cX12_toldBy_32 rfl) (rdb (p := 32) (i := 21) ch_cX12_toldBy_32 rfl) (rdb (p := 32) (i := 22) ch_cX12_toldBy_32 rfl) (by decide +kernel)
theorem dX12_toldBy_55 : decode cX12_toldBy 55 = .ok (.iconst 1, 1) := do_4 (rdb (p := 32) (i := 23) ch_cX12_toldBy_32 rfl)
theorem dX12_toldBy_56 : decode cX12_toldBy 56 = .ok (.goto 4, 3) := do_167 (rdb (p := 32) (i := 24) ch_cX12_toldBy_32 rfl) (rdb (p := 32) (i := 25) ch_cX12_toldBy_32 rfl) (rdb (p := 32) (i := 26) ch_cX12_toldBy_32 rfl) (by decide +kernel)
theorem dX12_toldBy_59 : decode cX12_toldBy 59 = .ok (.iconst 0, 1) := do_3 (rdb (p := 32) (i := 27) ch_cX12_toldBy_32 rfl)
theorem dX12_toldBy_60 : decode cX12_toldBy 60 = .ok (.istore 4, 2) := do_54 (rdb (p := 32) (i := 28) ch_cX12_toldBy_32 rfl) (rdb (p := 32) (i := 29) ch_cX12_toldBy_32 rfl)
theorem dX12_toldBy_62 : decode cX12_toldBy 62 = .ok (.iinc 5 1, 3) := do_132 (rdb (p := 32) (i := 30) ch_cX12_toldBy_32 rfl) (rdb (p := 32) (i := 31) ch_cX12_toldBy_32 rfl) (rdb (p := 32) (i := 32) ch_cX12_toldBy_32 rfl) (by decide +kernel)
theorem ch_cX12_toldBy_64 : (cX12_toldBy.data.toList.drop 64).take 36 = [1, 167, 255, 208, 28, 21, 4, 153, 0, 7, 4, 167, 0, 4, 3, 96, 61, 132, 3, 1, 167, 255, 176, 28, 172] := by decide +kernel
theorem dX12_toldBy_65 : decode cX12_toldBy 65 = .ok (.goto (-48), 3) := do_167 (rdb (p := 64) (i := 1) ch_cX12_toldBy_64 rfl) (rdb (p := 64) (i := 2) ch_cX12_toldBy_64 rfl) (rdb (p := 64) (i := 3) ch_cX12_toldBy_64 rfl) (by decide +kernel)
theorem dX12_toldBy_68 : decode cX12_toldBy 68 = .ok (.iload_n 2, 1) := do_28 (rdb (p := 64) (i := 4) ch_cX12_toldBy_64 rfl)
theorem dX12_toldBy_69 : decode cX12_toldBy 69 = .ok (.iload 4, 2) := do_21 (rdb (p := 64) (i := 5) ch_cX12_toldBy_64 rfl) (rdb (p := 64) (i := 6) ch_cX12_toldBy_64 rfl)
theorem dX12_toldBy_71 : decode cX12_toldBy 71 = .ok (.ifCond .eq 7, 3) := do_153 (rdb (p := 64) (i := 7) ch_cX12_toldBy_64 rfl) (rdb (p := 64) (i := 8) ch_cX12_toldBy_64 rfl) (rdb (p := 64) (i := 9) ch_cX12_toldBy_64 rfl) (by decide +kernel)
theorem dX12_toldBy_74 : decode cX12_toldBy 74 = .ok (.iconst 1, 1) := do_4 (rdb (p := 64) (i := 10) ch_cX12_toldBy_64 rfl)
theorem dX12_toldBy_75 : decode cX12_toldBy 75 = .ok (.goto 4, 3) := do_167 (rdb (p := 64) (i := 11) ch_cX12_toldBy_64 rfl) (rdb (p := 64) (i := 12) ch_cX12_toldBy_64 rfl) (rdb (p := 64) (i := 13) ch_cX12_toldBy_64 rfl) (by decide +kernel)
theorem dX12_toldBy_78 : decode cX12_toldBy 78 = .ok (.iconst 0, 1) := do_3 (rdb (p := 64) (i := 14) ch_cX12_toldBy_64 rfl)
theorem dX12_toldBy_79 : decode cX12_toldBy 79 = .ok (.iadd, 1) := do_96 (rdb (p := 64) (i := 15) ch_cX12_toldBy_64 rfl)
theorem dX12_toldBy_80 : decode cX12_toldBy 80 = .ok (.istore_n 2, 1) := do_61 (rdb (p := 64) (i := 16) ch_cX12_toldBy_64 rfl)
theorem dX12_toldBy_81 : decode cX12_toldBy 81 = .ok (.iinc 3 1, 3) := do_132 (rdb (p := 64) (i := 17) ch_cX12_toldBy_64 rfl) (rdb (p := 64) (i := 18) ch_cX12_toldBy_64 rfl) (rdb (p := 64) (i := 19) ch_cX12_toldBy_64 rfl) (by decide +kernel)
theorem dX12_toldBy_84 : decode cX12_toldBy 84 = .ok (.goto (-80), 3) := do_167 (rdb (p := 64) (i := 20) ch_cX12_toldBy_64 rfl) (rdb (p := 64) (i := 21) ch_cX12_toldBy_64 rfl) (rdb (p := 64) (i := 22) ch_cX12_toldBy_64 rfl) (by decide +kernel)
theorem dX12_toldBy_87 : decode cX12_toldBy 87 = .ok (.iload_n 2, 1) := do_28 (rdb (p := 64) (i := 23) ch_cX12_toldBy_64 rfl)
theorem dX12_toldBy_88 : decode cX12_toldBy 88 = .ok (.ireturn, 1) := do_172 (rdb (p := 64) (i := 24) ch_cX12_toldBy_64 rfl)
