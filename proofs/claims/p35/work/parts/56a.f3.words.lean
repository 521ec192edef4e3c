/-! words of the tables that are used, by their places; decode rows; fields -/
theorem m_69 : Cond.selects yX12_findFar.cls yX12_findFar yX12_findFar ∈ BASE := bmem 69 (by decide +kernel) rfl
theorem m_1766 : Cond.methodLink RX12 308 yX12_findFar ∈ BASE := bmem 1766 (by decide +kernel) rfl
theorem m_1768 : Cond.instanceMethod yX12_findFar ∈ BASE := bmem 1768 (by decide +kernel) rfl
theorem m_1769 : Cond.code yX12_findFar cX12_findFar 8 none ∈ BASE := bmem 1769 (by decide +kernel) rfl
theorem kV_X12_findFar : KV yX12_findFar cX12_findFar 8 none 2 := ⟨m_1768, m_69, m_92, m_1769, by decide +kernel, by decide +kernel, by decide +kernel⟩
theorem ch_cX12_way_0 : (cX12_way.data.toList.drop 0).take 36 = [42, 27, 5, 182, 0, 116, 153, 0, 15, 28, 184, 0, 99, 153, 0, 8, 29, 2, 162, 0, 10, 42, 18, 103, 182, 0, 104, 172, 42, 27, 28, 182, 1, 52, 42, 180] := by decide +kernel
theorem dX12_way_0 : decode cX12_way 0 = .ok (.aload_n 0, 1) := do_42 (rdb (p := 0) (i := 0) ch_cX12_way_0 rfl)
theorem dX12_way_1 : decode cX12_way 1 = .ok (.iload_n 1, 1) := do_27 (rdb (p := 0) (i := 1) ch_cX12_way_0 rfl)
theorem dX12_way_2 : decode cX12_way 2 = .ok (.iconst 2, 1) := do_5 (rdb (p := 0) (i := 2) ch_cX12_way_0 rfl)
theorem dX12_way_3 : decode cX12_way 3 = .ok (.invokevirtual 116, 3) := do_182 (rdb (p := 0) (i := 3) ch_cX12_way_0 rfl) (rdb (p := 0) (i := 4) ch_cX12_way_0 rfl) (rdb (p := 0) (i := 5) ch_cX12_way_0 rfl) rfl
theorem dX12_way_6 : decode cX12_way 6 = .ok (.ifCond .eq 15, 3) := do_153 (rdb (p := 0) (i := 6) ch_cX12_way_0 rfl) (rdb (p := 0) (i := 7) ch_cX12_way_0 rfl) (rdb (p := 0) (i := 8) ch_cX12_way_0 rfl) (by decide +kernel)
theorem dX12_way_9 : decode cX12_way 9 = .ok (.iload_n 2, 1) := do_28 (rdb (p := 0) (i := 9) ch_cX12_way_0 rfl)
theorem dX12_way_10 : decode cX12_way 10 = .ok (.invokestatic 99, 3) := do_184 (rdb (p := 0) (i := 10) ch_cX12_way_0 rfl) (rdb (p := 0) (i := 11) ch_cX12_way_0 rfl) (rdb (p := 0) (i := 12) ch_cX12_way_0 rfl) rfl
theorem dX12_way_13 : decode cX12_way 13 = .ok (.ifCond .eq 8, 3) := do_153 (rdb (p := 0) (i := 13) ch_cX12_way_0 rfl) (rdb (p := 0) (i := 14) ch_cX12_way_0 rfl) (rdb (p := 0) (i := 15) ch_cX12_way_0 rfl) (by decide +kernel)
theorem dX12_way_16 : decode cX12_way 16 = .ok (.iload_n 3, 1) := do_29 (rdb (p := 0) (i := 16) ch_cX12_way_0 rfl)
theorem dX12_way_17 : decode cX12_way 17 = .ok (.iconst (-1), 1) := do_2 (rdb (p := 0) (i := 17) ch_cX12_way_0 rfl)
theorem dX12_way_18 : decode cX12_way 18 = .ok (.if_icmp .ge 10, 3) := do_162 (rdb (p := 0) (i := 18) ch_cX12_way_0 rfl) (rdb (p := 0) (i := 19) ch_cX12_way_0 rfl) (rdb (p := 0) (i := 20) ch_cX12_way_0 rfl) (by decide +kernel)
theorem dX12_way_21 : decode cX12_way 21 = .ok (.aload_n 0, 1) := do_42 (rdb (p := 0) (i := 21) ch_cX12_way_0 rfl)
theorem dX12_way_22 : decode cX12_way 22 = .ok (.ldc 103, 2) := do_18 (rdb (p := 0) (i := 22) ch_cX12_way_0 rfl) (rdb (p := 0) (i := 23) ch_cX12_way_0 rfl)
theorem dX12_way_24 : decode cX12_way 24 = .ok (.invokevirtual 104, 3) := do_182 (rdb (p := 0) (i := 24) ch_cX12_way_0 rfl) (rdb (p := 0) (i := 25) ch_cX12_way_0 rfl) (rdb (p := 0) (i := 26) ch_cX12_way_0 rfl) rfl
theorem dX12_way_27 : decode cX12_way 27 = .ok (.ireturn, 1) := do_172 (rdb (p := 0) (i := 27) ch_cX12_way_0 rfl)
theorem dX12_way_28 : decode cX12_way 28 = .ok (.aload_n 0, 1) := do_42 (rdb (p := 0) (i := 28) ch_cX12_way_0 rfl)
theorem dX12_way_29 : decode cX12_way 29 = .ok (.iload_n 1, 1) := do_27 (rdb (p := 0) (i := 29) ch_cX12_way_0 rfl)
theorem dX12_way_30 : decode cX12_way 30 = .ok (.iload_n 2, 1) := do_28 (rdb (p := 0) (i := 30) ch_cX12_way_0 rfl)
theorem dX12_way_31 : decode cX12_way 31 = .ok (.invokevirtual 308, 3) := do_182 (rdb (p := 0) (i := 31) ch_cX12_way_0 rfl) (rdb (p := 0) (i := 32) ch_cX12_way_0 rfl) (rdb (p := 0) (i := 33) ch_cX12_way_0 rfl) rfl
theorem ch_cX12_way_32 : (cX12_way.data.toList.drop 32).take 36 = [1, 52, 42, 180, 0, 9, 42, 27, 182, 0, 93, 4, 96, 46, 54, 4, 29, 156, 0, 11, 42, 180, 0, 57, 21, 4, 46, 172, 3, 54, 5, 21, 5, 29, 162, 0] := by decide +kernel
theorem dX12_way_34 : decode cX12_way 34 = .ok (.aload_n 0, 1) := do_42 (rdb (p := 32) (i := 2) ch_cX12_way_32 rfl)
theorem dX12_way_35 : decode cX12_way 35 = .ok (.getfield 9, 3) := do_180 (rdb (p := 32) (i := 3) ch_cX12_way_32 rfl) (rdb (p := 32) (i := 4) ch_cX12_way_32 rfl) (rdb (p := 32) (i := 5) ch_cX12_way_32 rfl) rfl
theorem dX12_way_38 : decode cX12_way 38 = .ok (.aload_n 0, 1) := do_42 (rdb (p := 32) (i := 6) ch_cX12_way_32 rfl)
theorem dX12_way_39 : decode cX12_way 39 = .ok (.iload_n 1, 1) := do_27 (rdb (p := 32) (i := 7) ch_cX12_way_32 rfl)
theorem dX12_way_40 : decode cX12_way 40 = .ok (.invokevirtual 93, 3) := do_182 (rdb (p := 32) (i := 8) ch_cX12_way_32 rfl) (rdb (p := 32) (i := 9) ch_cX12_way_32 rfl) (rdb (p := 32) (i := 10) ch_cX12_way_32 rfl) rfl
theorem dX12_way_43 : decode cX12_way 43 = .ok (.iconst 1, 1) := do_4 (rdb (p := 32) (i := 11) ch_cX12_way_32 rfl)
theorem dX12_way_44 : decode cX12_way 44 = .ok (.iadd, 1) := do_96 (rdb (p := 32) (i := 12) ch_cX12_way_32 rfl)
theorem dX12_way_45 : decode cX12_way 45 = .ok (.iaload, 1) := do_46 (rdb (p := 32) (i := 13) ch_cX12_way_32 rfl)
theorem dX12_way_46 : decode cX12_way 46 = .ok (.istore 4, 2) := do_54 (rdb (p := 32) (i := 14) ch_cX12_way_32 rfl) (rdb (p := 32) (i := 15) ch_cX12_way_32 rfl)
theorem dX12_way_48 : decode cX12_way 48 = .ok (.iload_n 3, 1) := do_29 (rdb (p := 32) (i := 16) ch_cX12_way_32 rfl)
theorem dX12_way_49 : decode cX12_way 49 = .ok (.ifCond .ge 11, 3) := do_156 (rdb (p := 32) (i := 17) ch_cX12_way_32 rfl) (rdb (p := 32) (i := 18) ch_cX12_way_32 rfl) (rdb (p := 32) (i := 19) ch_cX12_way_32 rfl) (by decide +kernel)
theorem dX12_way_52 : decode cX12_way 52 = .ok (.aload_n 0, 1) := do_42 (rdb (p := 32) (i := 20) ch_cX12_way_32 rfl)
theorem dX12_way_53 : decode cX12_way 53 = .ok (.getfield 57, 3) := do_180 (rdb (p := 32) (i := 21) ch_cX12_way_32 rfl) (rdb (p := 32) (i := 22) ch_cX12_way_32 rfl) (rdb (p := 32) (i := 23) ch_cX12_way_32 rfl) rfl
theorem dX12_way_56 : decode cX12_way 56 = .ok (.iload 4, 2) := do_21 (rdb (p := 32) (i := 24) ch_cX12_way_32 rfl) (rdb (p := 32) (i := 25) ch_cX12_way_32 rfl)
theorem dX12_way_58 : decode cX12_way 58 = .ok (.iaload, 1) := do_46 (rdb (p := 32) (i := 26) ch_cX12_way_32 rfl)
theorem dX12_way_59 : decode cX12_way 59 = .ok (.ireturn, 1) := do_172 (rdb (p := 32) (i := 27) ch_cX12_way_32 rfl)
theorem dX12_way_60 : decode cX12_way 60 = .ok (.iconst 0, 1) := do_3 (rdb (p := 32) (i := 28) ch_cX12_way_32 rfl)
theorem dX12_way_61 : decode cX12_way 61 = .ok (.istore 5, 2) := do_54 (rdb (p := 32) (i := 29) ch_cX12_way_32 rfl) (rdb (p := 32) (i := 30) ch_cX12_way_32 rfl)
theorem dX12_way_63 : decode cX12_way 63 = .ok (.iload 5, 2) := do_21 (rdb (p := 32) (i := 31) ch_cX12_way_32 rfl) (rdb (p := 32) (i := 32) ch_cX12_way_32 rfl)
theorem ch_cX12_way_64 : (cX12_way.data.toList.drop 64).take 36 = [5, 29, 162, 0, 93, 21, 4, 28, 160, 0, 10, 42, 18, 130, 182, 0, 104, 172, 3, 54, 6, 42, 21, 4, 21, 6, 4, 182, 0, 234, 155, 0, 42, 42, 180, 0] := by decide +kernel
theorem dX12_way_65 : decode cX12_way 65 = .ok (.iload_n 3, 1) := do_29 (rdb (p := 64) (i := 1) ch_cX12_way_64 rfl)
theorem dX12_way_66 : decode cX12_way 66 = .ok (.if_icmp .ge 93, 3) := do_162 (rdb (p := 64) (i := 2) ch_cX12_way_64 rfl) (rdb (p := 64) (i := 3) ch_cX12_way_64 rfl) (rdb (p := 64) (i := 4) ch_cX12_way_64 rfl) (by decide +kernel)
theorem dX12_way_69 : decode cX12_way 69 = .ok (.iload 4, 2) := do_21 (rdb (p := 64) (i := 5) ch_cX12_way_64 rfl) (rdb (p := 64) (i := 6) ch_cX12_way_64 rfl)
theorem dX12_way_71 : decode cX12_way 71 = .ok (.iload_n 2, 1) := do_28 (rdb (p := 64) (i := 7) ch_cX12_way_64 rfl)
theorem dX12_way_72 : decode cX12_way 72 = .ok (.if_icmp .ne 10, 3) := do_160 (rdb (p := 64) (i := 8) ch_cX12_way_64 rfl) (rdb (p := 64) (i := 9) ch_cX12_way_64 rfl) (rdb (p := 64) (i := 10) ch_cX12_way_64 rfl) (by decide +kernel)
theorem dX12_way_75 : decode cX12_way 75 = .ok (.aload_n 0, 1) := do_42 (rdb (p := 64) (i := 11) ch_cX12_way_64 rfl)
theorem dX12_way_76 : decode cX12_way 76 = .ok (.ldc 130, 2) := do_18 (rdb (p := 64) (i := 12) ch_cX12_way_64 rfl) (rdb (p := 64) (i := 13) ch_cX12_way_64 rfl)
theorem dX12_way_78 : decode cX12_way 78 = .ok (.invokevirtual 104, 3) := do_182 (rdb (p := 64) (i := 14) ch_cX12_way_64 rfl) (rdb (p := 64) (i := 15) ch_cX12_way_64 rfl) (rdb (p := 64) (i := 16) ch_cX12_way_64 rfl) rfl
theorem dX12_way_81 : decode cX12_way 81 = .ok (.ireturn, 1) := do_172 (rdb (p := 64) (i := 17) ch_cX12_way_64 rfl)
theorem dX12_way_82 : decode cX12_way 82 = .ok (.iconst 0, 1) := do_3 (rdb (p := 64) (i := 18) ch_cX12_way_64 rfl)
theorem dX12_way_83 : decode cX12_way 83 = .ok (.istore 6, 2) := do_54 (rdb (p := 64) (i := 19) ch_cX12_way_64 rfl) (rdb (p := 64) (i := 20) ch_cX12_way_64 rfl)
theorem dX12_way_85 : decode cX12_way 85 = .ok (.aload_n 0, 1) := do_42 (rdb (p := 64) (i := 21) ch_cX12_way_64 rfl)
theorem dX12_way_86 : decode cX12_way 86 = .ok (.iload 4, 2) := do_21 (rdb (p := 64) (i := 22) ch_cX12_way_64 rfl) (rdb (p := 64) (i := 23) ch_cX12_way_64 rfl)
theorem dX12_way_88 : decode cX12_way 88 = .ok (.iload 6, 2) := do_21 (rdb (p := 64) (i := 24) ch_cX12_way_64 rfl) (rdb (p := 64) (i := 25) ch_cX12_way_64 rfl)
theorem dX12_way_90 : decode cX12_way 90 = .ok (.iconst 1, 1) := do_4 (rdb (p := 64) (i := 26) ch_cX12_way_64 rfl)
theorem dX12_way_91 : decode cX12_way 91 = .ok (.invokevirtual 234, 3) := do_182 (rdb (p := 64) (i := 27) ch_cX12_way_64 rfl) (rdb (p := 64) (i := 28) ch_cX12_way_64 rfl) (rdb (p := 64) (i := 29) ch_cX12_way_64 rfl) rfl
theorem dX12_way_94 : decode cX12_way 94 = .ok (.ifCond .lt 42, 3) := do_155 (rdb (p := 64) (i := 30) ch_cX12_way_64 rfl) (rdb (p := 64) (i := 31) ch_cX12_way_64 rfl) (rdb (p := 64) (i := 32) ch_cX12_way_64 rfl) (by decide +kernel)
theorem ch_cX12_way_96 : (cX12_way.data.toList.drop 96).take 36 = [42, 42, 180, 0, 57, 42, 21, 4, 21, 6, 4, 182, 0, 234, 46, 42, 27, 42, 21, 4, 21, 6, 4, 182, 0, 234, 182, 1, 49, 96, 42, 180, 0, 57, 21, 4] := by decide +kernel
theorem dX12_way_97 : decode cX12_way 97 = .ok (.aload_n 0, 1) := do_42 (rdb (p := 96) (i := 1) ch_cX12_way_96 rfl)
theorem dX12_way_98 : decode cX12_way 98 = .ok (.getfield 57, 3) := do_180 (rdb (p := 96) (i := 2) ch_cX12_way_96 rfl) (rdb (p := 96) (i := 3) ch_cX12_way_96 rfl) (rdb (p := 96) (i := 4) ch_cX12_way_96 rfl) rfl
theorem dX12_way_101 : decode cX12_way 101 = .ok (.aload_n 0, 1) := do_42 (rdb (p := 96) (i := 5) ch_cX12_way_96 rfl)
theorem dX12_way_102 : decode cX12_way 102 = .ok (.iload 4, 2) := do_21 (rdb (p := 96) (i := 6) ch_cX12_way_96 rfl) (rdb (p := 96) (i := 7) ch_cX12_way_96 rfl)
theorem dX12_way_104 : decode cX12_way 104 = .ok (.iload 6, 2) := do_21 (rdb (p := 96) (i := 8) ch_cX12_way_96 rfl) (rdb (p := 96) (i := 9) ch_cX12_way_96 rfl)
theorem dX12_way_106 : decode cX12_way 106 = .ok (.iconst 1, 1) := do_4 (rdb (p := 96) (i := 10) ch_cX12_way_96 rfl)
theorem dX12_way_107 : decode cX12_way 107 = .ok (.invokevirtual 234, 3) := do_182 (rdb (p := 96) (i := 11) ch_cX12_way_96 rfl) (rdb (p := 96) (i := 12) ch_cX12_way_96 rfl) (rdb (p := 96) (i := 13) ch_cX12_way_96 rfl) rfl
theorem dX12_way_110 : decode cX12_way 110 = .ok (.iaload, 1) := do_46 (rdb (p := 96) (i := 14) ch_cX12_way_96 rfl)
theorem dX12_way_111 : decode cX12_way 111 = .ok (.aload_n 0, 1) := do_42 (rdb (p := 96) (i := 15) ch_cX12_way_96 rfl)
theorem dX12_way_112 : decode cX12_way 112 = .ok (.iload_n 1, 1) := do_27 (rdb (p := 96) (i := 16) ch_cX12_way_96 rfl)
theorem dX12_way_113 : decode cX12_way 113 = .ok (.aload_n 0, 1) := do_42 (rdb (p := 96) (i := 17) ch_cX12_way_96 rfl)
theorem dX12_way_114 : decode cX12_way 114 = .ok (.iload 4, 2) := do_21 (rdb (p := 96) (i := 18) ch_cX12_way_96 rfl) (rdb (p := 96) (i := 19) ch_cX12_way_96 rfl)
theorem dX12_way_116 : decode cX12_way 116 = .ok (.iload 6, 2) := do_21 (rdb (p := 96) (i := 20) ch_cX12_way_96 rfl) (rdb (p := 96) (i := 21) ch_cX12_way_96 rfl)
theorem dX12_way_118 : decode cX12_way 118 = .ok (.iconst 1, 1) := do_4 (rdb (p := 96) (i := 22) ch_cX12_way_96 rfl)
theorem dX12_way_119 : decode cX12_way 119 = .ok (.invokevirtual 234, 3) := do_182 (rdb (p := 96) (i := 23) ch_cX12_way_96 rfl) (rdb (p := 96) (i := 24) ch_cX12_way_96 rfl) (rdb (p := 96) (i := 25) ch_cX12_way_96 rfl) rfl
theorem dX12_way_122 : decode cX12_way 122 = .ok (.invokevirtual 305, 3) := do_182 (rdb (p := 96) (i := 26) ch_cX12_way_96 rfl) (rdb (p := 96) (i := 27) ch_cX12_way_96 rfl) (rdb (p := 96) (i := 28) ch_cX12_way_96 rfl) rfl
theorem dX12_way_125 : decode cX12_way 125 = .ok (.iadd, 1) := do_96 (rdb (p := 96) (i := 29) ch_cX12_way_96 rfl)
theorem dX12_way_126 : decode cX12_way 126 = .ok (.aload_n 0, 1) := do_42 (rdb (p := 96) (i := 30) ch_cX12_way_96 rfl)
theorem dX12_way_127 : decode cX12_way 127 = .ok (.getfield 57, 3) := do_180 (rdb (p := 96) (i := 31) ch_cX12_way_96 rfl) (rdb (p := 96) (i := 32) ch_cX12_way_96 rfl) (rdb (p := 96) (i := 33) ch_cX12_way_96 rfl) rfl
theorem ch_cX12_way_128 : (cX12_way.data.toList.drop 128).take 36 = [0, 57, 21, 4, 46, 159, 0, 9, 132, 6, 2, 167, 255, 202, 42, 21, 4, 21, 6, 4, 182, 0, 234, 54, 4, 132, 5, 1, 167, 255, 163, 21, 4, 172] := by decide +kernel
theorem dX12_way_130 : decode cX12_way 130 = .ok (.iload 4, 2) := do_21 (rdb (p := 128) (i := 2) ch_cX12_way_128 rfl) (rdb (p := 128) (i := 3) ch_cX12_way_128 rfl)
theorem dX12_way_132 : decode cX12_way 132 = .ok (.iaload, 1) := do_46 (rdb (p := 128) (i := 4) ch_cX12_way_128 rfl)
theorem dX12_way_133 : decode cX12_way 133 = .ok (.if_icmp .eq 9, 3) := do_159 (rdb (p := 128) (i := 5) ch_cX12_way_128 rfl) (rdb (p := 128) (i := 6) ch_cX12_way_128 rfl) (rdb (p := 128) (i := 7) ch_cX12_way_128 rfl) (by decide +kernel)
theorem dX12_way_136 : decode cX12_way 136 = .ok (.iinc 6 2, 3) := do_132 (rdb (p := 128) (i := 8) ch_cX12_way_128 rfl) (rdb (p := 128) (i := 9) ch_cX12_way_128 rfl) (rdb (p := 128) (i := 10) ch_cX12_way_128 rfl) (by decide +kernel)
theorem dX12_way_139 : decode cX12_way 139 = .ok (.goto (-54), 3) := do_167 (rdb (p := 128) (i := 11) ch_cX12_way_128 rfl) (rdb (p := 128) (i := 12) ch_cX12_way_128 rfl) (rdb (p := 128) (i := 13) ch_cX12_way_128 rfl) (by decide +kernel)
theorem dX12_way_142 : decode cX12_way 142 = .ok (.aload_n 0, 1) := do_42 (rdb (p := 128) (i := 14) ch_cX12_way_128 rfl)
theorem dX12_way_143 : decode cX12_way 143 = .ok (.iload 4, 2) := do_21 (rdb (p := 128) (i := 15) ch_cX12_way_128 rfl) (rdb (p := 128) (i := 16) ch_cX12_way_128 rfl)
theorem dX12_way_145 : decode cX12_way 145 = .ok (.iload 6, 2) := do_21 (rdb (p := 128) (i := 17) ch_cX12_way_128 rfl) (rdb (p := 128) (i := 18) ch_cX12_way_128 rfl)
theorem dX12_way_147 : decode cX12_way 147 = .ok (.iconst 1, 1) := do_4 (rdb (p := 128) (i := 19) ch_cX12_way_128 rfl)
theorem dX12_way_148 : decode cX12_way 148 = .ok (.invokevirtual 234, 3) := do_182 (rdb (p := 128) (i := 20) ch_cX12_way_128 rfl) (rdb (p := 128) (i := 21) ch_cX12_way_128 rfl) (rdb (p := 128) (i := 22) ch_cX12_way_128 rfl) rfl
theorem dX12_way_151 : decode cX12_way 151 = .ok (.istore 4, 2) := do_54 (rdb (p := 128) (i := 23) ch_cX12_way_128 rfl) (rdb (p := 128) (i := 24) ch_cX12_way_128 rfl)
theorem dX12_way_153 : decode cX12_way 153 = .ok (.iinc 5 1, 3) := do_132 (rdb (p := 128) (i := 25) ch_cX12_way_128 rfl) (rdb (p := 128) (i := 26) ch_cX12_way_128 rfl) (rdb (p := 128) (i := 27) ch_cX12_way_128 rfl) (by decide +kernel)
theorem dX12_way_156 : decode cX12_way 156 = .ok (.goto (-93), 3) := do_167 (rdb (p := 128) (i := 28) ch_cX12_way_128 rfl) (rdb (p := 128) (i := 29) ch_cX12_way_128 rfl) (rdb (p := 128) (i := 30) ch_cX12_way_128 rfl) (by decide +kernel)
theorem dX12_way_159 : decode cX12_way 159 = .ok (.iload 4, 2) := do_21 (rdb (p := 128) (i := 31) ch_cX12_way_128 rfl) (rdb (p := 128) (i := 32) ch_cX12_way_128 rfl)
theorem ch_cX12_way_160 : (cX12_way.data.toList.drop 160).take 36 = [4, 172] := by decide +kernel
theorem dX12_way_161 : decode cX12_way 161 = .ok (.ireturn, 1) := do_172 (rdb (p := 160) (i := 1) ch_cX12_way_160 rfl)
