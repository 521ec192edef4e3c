/-! words of the tables that are used, by their places; decode rows; fields -/
theorem m_70 : Cond.selects yX12_cost.cls yX12_cost yX12_cost ∈ BASE := bmem 70 (by decide +kernel) rfl
theorem m_1342 : Cond.fieldLink RX12 57 "ClickStreetModel" "far" "[I" ∈ BASE := bmem 1342 (by decide +kernel) rfl
theorem m_1770 : Cond.constant RX12 304 (1000000) ∈ BASE := bmem 1770 (by decide +kernel) rfl
theorem m_1771 : Cond.methodLink RX12 305 yX12_cost ∈ BASE := bmem 1771 (by decide +kernel) rfl
theorem m_1773 : Cond.instanceMethod yX12_cost ∈ BASE := bmem 1773 (by decide +kernel) rfl
theorem m_1774 : Cond.code yX12_cost cX12_cost 4 (some .int) ∈ BASE := bmem 1774 (by decide +kernel) rfl
theorem kV_X12_cost : KV yX12_cost cX12_cost 4 (some .int) 2 := ⟨m_1773, m_70, m_92, m_1774, by decide +kernel, by decide +kernel, by decide +kernel⟩
theorem fl_RX12_57 : FLK RX12 57 12 19 (.array .int) true := ⟨RX12, TX12, 33, tyX12, rfl, inB12, tyX12_ok, nmX12, by decide, rfl, rfl, Or.inl m_1342⟩
theorem ch_cX12_findFar_0 : (cX12_findFar.data.toList.drop 0).take 36 = [3, 62, 29, 17, 0, 192, 162, 0, 27, 42, 180, 0, 57, 29, 29, 28, 160, 0, 7, 3, 167, 0, 6, 19, 1, 48, 79, 132, 3, 1, 167, 255, 228, 4, 62, 29] := by decide +kernel
theorem dX12_findFar_0 : decode cX12_findFar 0 = .ok (.iconst 0, 1) := do_3 (rdb (p := 0) (i := 0) ch_cX12_findFar_0 rfl)
theorem dX12_findFar_1 : decode cX12_findFar 1 = .ok (.istore_n 3, 1) := do_62 (rdb (p := 0) (i := 1) ch_cX12_findFar_0 rfl)
theorem dX12_findFar_2 : decode cX12_findFar 2 = .ok (.iload_n 3, 1) := do_29 (rdb (p := 0) (i := 2) ch_cX12_findFar_0 rfl)
theorem dX12_findFar_3 : decode cX12_findFar 3 = .ok (.sipush 192, 3) := do_17 (rdb (p := 0) (i := 3) ch_cX12_findFar_0 rfl) (rdb (p := 0) (i := 4) ch_cX12_findFar_0 rfl) (rdb (p := 0) (i := 5) ch_cX12_findFar_0 rfl) (by decide +kernel)
theorem dX12_findFar_6 : decode cX12_findFar 6 = .ok (.if_icmp .ge 27, 3) := do_162 (rdb (p := 0) (i := 6) ch_cX12_findFar_0 rfl) (rdb (p := 0) (i := 7) ch_cX12_findFar_0 rfl) (rdb (p := 0) (i := 8) ch_cX12_findFar_0 rfl) (by decide +kernel)
theorem dX12_findFar_9 : decode cX12_findFar 9 = .ok (.aload_n 0, 1) := do_42 (rdb (p := 0) (i := 9) ch_cX12_findFar_0 rfl)
theorem dX12_findFar_10 : decode cX12_findFar 10 = .ok (.getfield 57, 3) := do_180 (rdb (p := 0) (i := 10) ch_cX12_findFar_0 rfl) (rdb (p := 0) (i := 11) ch_cX12_findFar_0 rfl) (rdb (p := 0) (i := 12) ch_cX12_findFar_0 rfl) rfl
theorem dX12_findFar_13 : decode cX12_findFar 13 = .ok (.iload_n 3, 1) := do_29 (rdb (p := 0) (i := 13) ch_cX12_findFar_0 rfl)
theorem dX12_findFar_14 : decode cX12_findFar 14 = .ok (.iload_n 3, 1) := do_29 (rdb (p := 0) (i := 14) ch_cX12_findFar_0 rfl)
theorem dX12_findFar_15 : decode cX12_findFar 15 = .ok (.iload_n 2, 1) := do_28 (rdb (p := 0) (i := 15) ch_cX12_findFar_0 rfl)
theorem dX12_findFar_16 : decode cX12_findFar 16 = .ok (.if_icmp .ne 7, 3) := do_160 (rdb (p := 0) (i := 16) ch_cX12_findFar_0 rfl) (rdb (p := 0) (i := 17) ch_cX12_findFar_0 rfl) (rdb (p := 0) (i := 18) ch_cX12_findFar_0 rfl) (by decide +kernel)
theorem dX12_findFar_19 : decode cX12_findFar 19 = .ok (.iconst 0, 1) := do_3 (rdb (p := 0) (i := 19) ch_cX12_findFar_0 rfl)
theorem dX12_findFar_20 : decode cX12_findFar 20 = .ok (.goto 6, 3) := do_167 (rdb (p := 0) (i := 20) ch_cX12_findFar_0 rfl) (rdb (p := 0) (i := 21) ch_cX12_findFar_0 rfl) (rdb (p := 0) (i := 22) ch_cX12_findFar_0 rfl) (by decide +kernel)
theorem dX12_findFar_23 : decode cX12_findFar 23 = .ok (.ldc_w 304, 3) := do_19 (rdb (p := 0) (i := 23) ch_cX12_findFar_0 rfl) (rdb (p := 0) (i := 24) ch_cX12_findFar_0 rfl) (rdb (p := 0) (i := 25) ch_cX12_findFar_0 rfl) rfl
theorem dX12_findFar_26 : decode cX12_findFar 26 = .ok (.iastore, 1) := do_79 (rdb (p := 0) (i := 26) ch_cX12_findFar_0 rfl)
theorem dX12_findFar_27 : decode cX12_findFar 27 = .ok (.iinc 3 1, 3) := do_132 (rdb (p := 0) (i := 27) ch_cX12_findFar_0 rfl) (rdb (p := 0) (i := 28) ch_cX12_findFar_0 rfl) (rdb (p := 0) (i := 29) ch_cX12_findFar_0 rfl) (by decide +kernel)
theorem dX12_findFar_30 : decode cX12_findFar 30 = .ok (.goto (-28), 3) := do_167 (rdb (p := 0) (i := 30) ch_cX12_findFar_0 rfl) (rdb (p := 0) (i := 31) ch_cX12_findFar_0 rfl) (rdb (p := 0) (i := 32) ch_cX12_findFar_0 rfl) (by decide +kernel)
theorem ch_cX12_findFar_32 : (cX12_findFar.data.toList.drop 32).take 36 = [228, 4, 62, 29, 153, 0, 97, 3, 62, 3, 54, 4, 21, 4, 17, 0, 192, 162, 0, 81, 42, 180, 0, 57, 21, 4, 46, 42, 27, 21, 4, 182, 1, 49, 96, 54] := by decide +kernel
theorem dX12_findFar_33 : decode cX12_findFar 33 = .ok (.iconst 1, 1) := do_4 (rdb (p := 32) (i := 1) ch_cX12_findFar_32 rfl)
theorem dX12_findFar_34 : decode cX12_findFar 34 = .ok (.istore_n 3, 1) := do_62 (rdb (p := 32) (i := 2) ch_cX12_findFar_32 rfl)
theorem dX12_findFar_35 : decode cX12_findFar 35 = .ok (.iload_n 3, 1) := do_29 (rdb (p := 32) (i := 3) ch_cX12_findFar_32 rfl)
theorem dX12_findFar_36 : decode cX12_findFar 36 = .ok (.ifCond .eq 97, 3) := do_153 (rdb (p := 32) (i := 4) ch_cX12_findFar_32 rfl) (rdb (p := 32) (i := 5) ch_cX12_findFar_32 rfl) (rdb (p := 32) (i := 6) ch_cX12_findFar_32 rfl) (by decide +kernel)
theorem dX12_findFar_39 : decode cX12_findFar 39 = .ok (.iconst 0, 1) := do_3 (rdb (p := 32) (i := 7) ch_cX12_findFar_32 rfl)
theorem dX12_findFar_40 : decode cX12_findFar 40 = .ok (.istore_n 3, 1) := do_62 (rdb (p := 32) (i := 8) ch_cX12_findFar_32 rfl)
theorem dX12_findFar_41 : decode cX12_findFar 41 = .ok (.iconst 0, 1) := do_3 (rdb (p := 32) (i := 9) ch_cX12_findFar_32 rfl)
theorem dX12_findFar_42 : decode cX12_findFar 42 = .ok (.istore 4, 2) := do_54 (rdb (p := 32) (i := 10) ch_cX12_findFar_32 rfl) (rdb (p := 32) (i := 11) ch_cX12_findFar_32 rfl)
theorem dX12_findFar_44 : decode cX12_findFar 44 = .ok (.iload 4, 2) := do_21 (rdb (p := 32) (i := 12) ch_cX12_findFar_32 rfl) (rdb (p := 32) (i := 13) ch_cX12_findFar_32 rfl)
theorem dX12_findFar_46 : decode cX12_findFar 46 = .ok (.sipush 192, 3) := do_17 (rdb (p := 32) (i := 14) ch_cX12_findFar_32 rfl) (rdb (p := 32) (i := 15) ch_cX12_findFar_32 rfl) (rdb (p := 32) (i := 16) ch_cX12_findFar_32 rfl) (by decide +kernel)
theorem dX12_findFar_49 : decode cX12_findFar 49 = .ok (.if_icmp .ge 81, 3) := do_162 (rdb (p := 32) (i := 17) ch_cX12_findFar_32 rfl) (rdb (p := 32) (i := 18) ch_cX12_findFar_32 rfl) (rdb (p := 32) (i := 19) ch_cX12_findFar_32 rfl) (by decide +kernel)
theorem dX12_findFar_52 : decode cX12_findFar 52 = .ok (.aload_n 0, 1) := do_42 (rdb (p := 32) (i := 20) ch_cX12_findFar_32 rfl)
theorem dX12_findFar_53 : decode cX12_findFar 53 = .ok (.getfield 57, 3) := do_180 (rdb (p := 32) (i := 21) ch_cX12_findFar_32 rfl) (rdb (p := 32) (i := 22) ch_cX12_findFar_32 rfl) (rdb (p := 32) (i := 23) ch_cX12_findFar_32 rfl) rfl
theorem dX12_findFar_56 : decode cX12_findFar 56 = .ok (.iload 4, 2) := do_21 (rdb (p := 32) (i := 24) ch_cX12_findFar_32 rfl) (rdb (p := 32) (i := 25) ch_cX12_findFar_32 rfl)
theorem dX12_findFar_58 : decode cX12_findFar 58 = .ok (.iaload, 1) := do_46 (rdb (p := 32) (i := 26) ch_cX12_findFar_32 rfl)
theorem dX12_findFar_59 : decode cX12_findFar 59 = .ok (.aload_n 0, 1) := do_42 (rdb (p := 32) (i := 27) ch_cX12_findFar_32 rfl)
theorem dX12_findFar_60 : decode cX12_findFar 60 = .ok (.iload_n 1, 1) := do_27 (rdb (p := 32) (i := 28) ch_cX12_findFar_32 rfl)
theorem dX12_findFar_61 : decode cX12_findFar 61 = .ok (.iload 4, 2) := do_21 (rdb (p := 32) (i := 29) ch_cX12_findFar_32 rfl) (rdb (p := 32) (i := 30) ch_cX12_findFar_32 rfl)
theorem dX12_findFar_63 : decode cX12_findFar 63 = .ok (.invokevirtual 305, 3) := do_182 (rdb (p := 32) (i := 31) ch_cX12_findFar_32 rfl) (rdb (p := 32) (i := 32) ch_cX12_findFar_32 rfl) (rdb (p := 32) (i := 33) ch_cX12_findFar_32 rfl) rfl
theorem ch_cX12_findFar_64 : (cX12_findFar.data.toList.drop 64).take 36 = [1, 49, 96, 54, 5, 3, 54, 6, 21, 6, 16, 8, 162, 0, 48, 42, 21, 4, 21, 6, 4, 182, 0, 234, 54, 7, 21, 7, 155, 0, 26, 21, 5, 42, 180, 0] := by decide +kernel
theorem dX12_findFar_66 : decode cX12_findFar 66 = .ok (.iadd, 1) := do_96 (rdb (p := 64) (i := 2) ch_cX12_findFar_64 rfl)
theorem dX12_findFar_67 : decode cX12_findFar 67 = .ok (.istore 5, 2) := do_54 (rdb (p := 64) (i := 3) ch_cX12_findFar_64 rfl) (rdb (p := 64) (i := 4) ch_cX12_findFar_64 rfl)
theorem dX12_findFar_69 : decode cX12_findFar 69 = .ok (.iconst 0, 1) := do_3 (rdb (p := 64) (i := 5) ch_cX12_findFar_64 rfl)
theorem dX12_findFar_70 : decode cX12_findFar 70 = .ok (.istore 6, 2) := do_54 (rdb (p := 64) (i := 6) ch_cX12_findFar_64 rfl) (rdb (p := 64) (i := 7) ch_cX12_findFar_64 rfl)
theorem dX12_findFar_72 : decode cX12_findFar 72 = .ok (.iload 6, 2) := do_21 (rdb (p := 64) (i := 8) ch_cX12_findFar_64 rfl) (rdb (p := 64) (i := 9) ch_cX12_findFar_64 rfl)
theorem dX12_findFar_74 : decode cX12_findFar 74 = .ok (.bipush 8, 2) := do_16 (rdb (p := 64) (i := 10) ch_cX12_findFar_64 rfl) (rdb (p := 64) (i := 11) ch_cX12_findFar_64 rfl) (by decide +kernel)
theorem dX12_findFar_76 : decode cX12_findFar 76 = .ok (.if_icmp .ge 48, 3) := do_162 (rdb (p := 64) (i := 12) ch_cX12_findFar_64 rfl) (rdb (p := 64) (i := 13) ch_cX12_findFar_64 rfl) (rdb (p := 64) (i := 14) ch_cX12_findFar_64 rfl) (by decide +kernel)
theorem dX12_findFar_79 : decode cX12_findFar 79 = .ok (.aload_n 0, 1) := do_42 (rdb (p := 64) (i := 15) ch_cX12_findFar_64 rfl)
theorem dX12_findFar_80 : decode cX12_findFar 80 = .ok (.iload 4, 2) := do_21 (rdb (p := 64) (i := 16) ch_cX12_findFar_64 rfl) (rdb (p := 64) (i := 17) ch_cX12_findFar_64 rfl)
theorem dX12_findFar_82 : decode cX12_findFar 82 = .ok (.iload 6, 2) := do_21 (rdb (p := 64) (i := 18) ch_cX12_findFar_64 rfl) (rdb (p := 64) (i := 19) ch_cX12_findFar_64 rfl)
theorem dX12_findFar_84 : decode cX12_findFar 84 = .ok (.iconst 1, 1) := do_4 (rdb (p := 64) (i := 20) ch_cX12_findFar_64 rfl)
theorem dX12_findFar_85 : decode cX12_findFar 85 = .ok (.invokevirtual 234, 3) := do_182 (rdb (p := 64) (i := 21) ch_cX12_findFar_64 rfl) (rdb (p := 64) (i := 22) ch_cX12_findFar_64 rfl) (rdb (p := 64) (i := 23) ch_cX12_findFar_64 rfl) rfl
theorem dX12_findFar_88 : decode cX12_findFar 88 = .ok (.istore 7, 2) := do_54 (rdb (p := 64) (i := 24) ch_cX12_findFar_64 rfl) (rdb (p := 64) (i := 25) ch_cX12_findFar_64 rfl)
theorem dX12_findFar_90 : decode cX12_findFar 90 = .ok (.iload 7, 2) := do_21 (rdb (p := 64) (i := 26) ch_cX12_findFar_64 rfl) (rdb (p := 64) (i := 27) ch_cX12_findFar_64 rfl)
theorem dX12_findFar_92 : decode cX12_findFar 92 = .ok (.ifCond .lt 26, 3) := do_155 (rdb (p := 64) (i := 28) ch_cX12_findFar_64 rfl) (rdb (p := 64) (i := 29) ch_cX12_findFar_64 rfl) (rdb (p := 64) (i := 30) ch_cX12_findFar_64 rfl) (by decide +kernel)
theorem dX12_findFar_95 : decode cX12_findFar 95 = .ok (.iload 5, 2) := do_21 (rdb (p := 64) (i := 31) ch_cX12_findFar_64 rfl) (rdb (p := 64) (i := 32) ch_cX12_findFar_64 rfl)
theorem ch_cX12_findFar_96 : (cX12_findFar.data.toList.drop 96).take 36 = [5, 42, 180, 0, 57, 21, 7, 46, 162, 0, 14, 42, 180, 0, 57, 21, 7, 21, 5, 79, 4, 62, 132, 6, 2, 167, 255, 207, 132, 4, 1, 167, 255, 173, 167, 255] := by decide +kernel
theorem dX12_findFar_97 : decode cX12_findFar 97 = .ok (.aload_n 0, 1) := do_42 (rdb (p := 96) (i := 1) ch_cX12_findFar_96 rfl)
theorem dX12_findFar_98 : decode cX12_findFar 98 = .ok (.getfield 57, 3) := do_180 (rdb (p := 96) (i := 2) ch_cX12_findFar_96 rfl) (rdb (p := 96) (i := 3) ch_cX12_findFar_96 rfl) (rdb (p := 96) (i := 4) ch_cX12_findFar_96 rfl) rfl
theorem dX12_findFar_101 : decode cX12_findFar 101 = .ok (.iload 7, 2) := do_21 (rdb (p := 96) (i := 5) ch_cX12_findFar_96 rfl) (rdb (p := 96) (i := 6) ch_cX12_findFar_96 rfl)
theorem dX12_findFar_103 : decode cX12_findFar 103 = .ok (.iaload, 1) := do_46 (rdb (p := 96) (i := 7) ch_cX12_findFar_96 rfl)
theorem dX12_findFar_104 : decode cX12_findFar 104 = .ok (.if_icmp .ge 14, 3) := do_162 (rdb (p := 96) (i := 8) ch_cX12_findFar_96 rfl) (rdb (p := 96) (i := 9) ch_cX12_findFar_96 rfl) (rdb (p := 96) (i := 10) ch_cX12_findFar_96 rfl) (by decide +kernel)
theorem dX12_findFar_107 : decode cX12_findFar 107 = .ok (.aload_n 0, 1) := do_42 (rdb (p := 96) (i := 11) ch_cX12_findFar_96 rfl)
theorem dX12_findFar_108 : decode cX12_findFar 108 = .ok (.getfield 57, 3) := do_180 (rdb (p := 96) (i := 12) ch_cX12_findFar_96 rfl) (rdb (p := 96) (i := 13) ch_cX12_findFar_96 rfl) (rdb (p := 96) (i := 14) ch_cX12_findFar_96 rfl) rfl
theorem dX12_findFar_111 : decode cX12_findFar 111 = .ok (.iload 7, 2) := do_21 (rdb (p := 96) (i := 15) ch_cX12_findFar_96 rfl) (rdb (p := 96) (i := 16) ch_cX12_findFar_96 rfl)
theorem dX12_findFar_113 : decode cX12_findFar 113 = .ok (.iload 5, 2) := do_21 (rdb (p := 96) (i := 17) ch_cX12_findFar_96 rfl) (rdb (p := 96) (i := 18) ch_cX12_findFar_96 rfl)
theorem dX12_findFar_115 : decode cX12_findFar 115 = .ok (.iastore, 1) := do_79 (rdb (p := 96) (i := 19) ch_cX12_findFar_96 rfl)
theorem dX12_findFar_116 : decode cX12_findFar 116 = .ok (.iconst 1, 1) := do_4 (rdb (p := 96) (i := 20) ch_cX12_findFar_96 rfl)
theorem dX12_findFar_117 : decode cX12_findFar 117 = .ok (.istore_n 3, 1) := do_62 (rdb (p := 96) (i := 21) ch_cX12_findFar_96 rfl)
theorem dX12_findFar_118 : decode cX12_findFar 118 = .ok (.iinc 6 2, 3) := do_132 (rdb (p := 96) (i := 22) ch_cX12_findFar_96 rfl) (rdb (p := 96) (i := 23) ch_cX12_findFar_96 rfl) (rdb (p := 96) (i := 24) ch_cX12_findFar_96 rfl) (by decide +kernel)
theorem dX12_findFar_121 : decode cX12_findFar 121 = .ok (.goto (-49), 3) := do_167 (rdb (p := 96) (i := 25) ch_cX12_findFar_96 rfl) (rdb (p := 96) (i := 26) ch_cX12_findFar_96 rfl) (rdb (p := 96) (i := 27) ch_cX12_findFar_96 rfl) (by decide +kernel)
theorem dX12_findFar_124 : decode cX12_findFar 124 = .ok (.iinc 4 1, 3) := do_132 (rdb (p := 96) (i := 28) ch_cX12_findFar_96 rfl) (rdb (p := 96) (i := 29) ch_cX12_findFar_96 rfl) (rdb (p := 96) (i := 30) ch_cX12_findFar_96 rfl) (by decide +kernel)
theorem dX12_findFar_127 : decode cX12_findFar 127 = .ok (.goto (-83), 3) := do_167 (rdb (p := 96) (i := 31) ch_cX12_findFar_96 rfl) (rdb (p := 96) (i := 32) ch_cX12_findFar_96 rfl) (rdb (p := 96) (i := 33) ch_cX12_findFar_96 rfl) (by decide +kernel)
theorem ch_cX12_findFar_128 : (cX12_findFar.data.toList.drop 128).take 36 = [255, 173, 167, 255, 161, 177] := by decide +kernel
theorem dX12_findFar_130 : decode cX12_findFar 130 = .ok (.goto (-95), 3) := do_167 (rdb (p := 128) (i := 2) ch_cX12_findFar_128 rfl) (rdb (p := 128) (i := 3) ch_cX12_findFar_128 rfl) (rdb (p := 128) (i := 4) ch_cX12_findFar_128 rfl) (by decide +kernel)
theorem dX12_findFar_133 : decode cX12_findFar 133 = .ok (.return_, 1) := do_177 (rdb (p := 128) (i := 5) ch_cX12_findFar_128 rfl)
