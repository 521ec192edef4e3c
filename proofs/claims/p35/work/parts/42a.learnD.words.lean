/-! words of the tables that are used, by their places; decode rows; fields -/
theorem ch_cX12_learn_0 : (cX12_learn.data.toList.drop 0).take 36 = [27, 3, 16, 31, 184, 0, 85, 153, 0, 19, 28, 3, 16, 31, 184, 0, 85, 153, 0, 9, 29, 16, 254, 162, 0, 10, 42, 18, 103, 182, 0, 104, 172, 42, 2, 181] := by decide +kernel
theorem dX12_learn_0 : decode cX12_learn 0 = .ok (.iload_n 1, 1) := do_27 (rdb (p := 0) (i := 0) ch_cX12_learn_0 rfl)
theorem dX12_learn_1 : decode cX12_learn 1 = .ok (.iconst 0, 1) := do_3 (rdb (p := 0) (i := 1) ch_cX12_learn_0 rfl)
theorem dX12_learn_2 : decode cX12_learn 2 = .ok (.bipush 31, 2) := do_16 (rdb (p := 0) (i := 2) ch_cX12_learn_0 rfl) (rdb (p := 0) (i := 3) ch_cX12_learn_0 rfl) (by decide +kernel)
theorem dX12_learn_4 : decode cX12_learn 4 = .ok (.invokestatic 85, 3) := do_184 (rdb (p := 0) (i := 4) ch_cX12_learn_0 rfl) (rdb (p := 0) (i := 5) ch_cX12_learn_0 rfl) (rdb (p := 0) (i := 6) ch_cX12_learn_0 rfl) rfl
theorem dX12_learn_7 : decode cX12_learn 7 = .ok (.ifCond .eq 19, 3) := do_153 (rdb (p := 0) (i := 7) ch_cX12_learn_0 rfl) (rdb (p := 0) (i := 8) ch_cX12_learn_0 rfl) (rdb (p := 0) (i := 9) ch_cX12_learn_0 rfl) (by decide +kernel)
theorem dX12_learn_10 : decode cX12_learn 10 = .ok (.iload_n 2, 1) := do_28 (rdb (p := 0) (i := 10) ch_cX12_learn_0 rfl)
theorem dX12_learn_11 : decode cX12_learn 11 = .ok (.iconst 0, 1) := do_3 (rdb (p := 0) (i := 11) ch_cX12_learn_0 rfl)
theorem dX12_learn_12 : decode cX12_learn 12 = .ok (.bipush 31, 2) := do_16 (rdb (p := 0) (i := 12) ch_cX12_learn_0 rfl) (rdb (p := 0) (i := 13) ch_cX12_learn_0 rfl) (by decide +kernel)
theorem dX12_learn_14 : decode cX12_learn 14 = .ok (.invokestatic 85, 3) := do_184 (rdb (p := 0) (i := 14) ch_cX12_learn_0 rfl) (rdb (p := 0) (i := 15) ch_cX12_learn_0 rfl) (rdb (p := 0) (i := 16) ch_cX12_learn_0 rfl) rfl
theorem dX12_learn_17 : decode cX12_learn 17 = .ok (.ifCond .eq 9, 3) := do_153 (rdb (p := 0) (i := 17) ch_cX12_learn_0 rfl) (rdb (p := 0) (i := 18) ch_cX12_learn_0 rfl) (rdb (p := 0) (i := 19) ch_cX12_learn_0 rfl) (by decide +kernel)
theorem dX12_learn_20 : decode cX12_learn 20 = .ok (.iload_n 3, 1) := do_29 (rdb (p := 0) (i := 20) ch_cX12_learn_0 rfl)
theorem dX12_learn_21 : decode cX12_learn 21 = .ok (.bipush (-2), 2) := do_16 (rdb (p := 0) (i := 21) ch_cX12_learn_0 rfl) (rdb (p := 0) (i := 22) ch_cX12_learn_0 rfl) (by decide +kernel)
theorem dX12_learn_23 : decode cX12_learn 23 = .ok (.if_icmp .ge 10, 3) := do_162 (rdb (p := 0) (i := 23) ch_cX12_learn_0 rfl) (rdb (p := 0) (i := 24) ch_cX12_learn_0 rfl) (rdb (p := 0) (i := 25) ch_cX12_learn_0 rfl) (by decide +kernel)
theorem dX12_learn_26 : decode cX12_learn 26 = .ok (.aload_n 0, 1) := do_42 (rdb (p := 0) (i := 26) ch_cX12_learn_0 rfl)
theorem dX12_learn_27 : decode cX12_learn 27 = .ok (.ldc 103, 2) := do_18 (rdb (p := 0) (i := 27) ch_cX12_learn_0 rfl) (rdb (p := 0) (i := 28) ch_cX12_learn_0 rfl)
theorem dX12_learn_29 : decode cX12_learn 29 = .ok (.invokevirtual 104, 3) := do_182 (rdb (p := 0) (i := 29) ch_cX12_learn_0 rfl) (rdb (p := 0) (i := 30) ch_cX12_learn_0 rfl) (rdb (p := 0) (i := 31) ch_cX12_learn_0 rfl) rfl
theorem ch_cX12_learn_32 : (cX12_learn.data.toList.drop 32).take 36 = [172, 42, 2, 181, 1, 55, 42, 3, 181, 1, 58, 42, 3, 3, 27, 28, 3, 182, 1, 61, 42, 180, 1, 55, 155, 0, 11, 29, 42, 180, 1, 55, 161, 0, 10, 42] := by decide +kernel
theorem dX12_learn_32 : decode cX12_learn 32 = .ok (.ireturn, 1) := do_172 (rdb (p := 32) (i := 0) ch_cX12_learn_32 rfl)
theorem dX12_learn_33 : decode cX12_learn 33 = .ok (.aload_n 0, 1) := do_42 (rdb (p := 32) (i := 1) ch_cX12_learn_32 rfl)
theorem dX12_learn_34 : decode cX12_learn 34 = .ok (.iconst (-1), 1) := do_2 (rdb (p := 32) (i := 2) ch_cX12_learn_32 rfl)
theorem dX12_learn_35 : decode cX12_learn 35 = .ok (.putfield 311, 3) := do_181 (rdb (p := 32) (i := 3) ch_cX12_learn_32 rfl) (rdb (p := 32) (i := 4) ch_cX12_learn_32 rfl) (rdb (p := 32) (i := 5) ch_cX12_learn_32 rfl) rfl
theorem dX12_learn_38 : decode cX12_learn 38 = .ok (.aload_n 0, 1) := do_42 (rdb (p := 32) (i := 6) ch_cX12_learn_32 rfl)
theorem dX12_learn_39 : decode cX12_learn 39 = .ok (.iconst 0, 1) := do_3 (rdb (p := 32) (i := 7) ch_cX12_learn_32 rfl)
theorem dX12_learn_40 : decode cX12_learn 40 = .ok (.putfield 314, 3) := do_181 (rdb (p := 32) (i := 8) ch_cX12_learn_32 rfl) (rdb (p := 32) (i := 9) ch_cX12_learn_32 rfl) (rdb (p := 32) (i := 10) ch_cX12_learn_32 rfl) rfl
theorem dX12_learn_43 : decode cX12_learn 43 = .ok (.aload_n 0, 1) := do_42 (rdb (p := 32) (i := 11) ch_cX12_learn_32 rfl)
theorem dX12_learn_44 : decode cX12_learn 44 = .ok (.iconst 0, 1) := do_3 (rdb (p := 32) (i := 12) ch_cX12_learn_32 rfl)
theorem dX12_learn_45 : decode cX12_learn 45 = .ok (.iconst 0, 1) := do_3 (rdb (p := 32) (i := 13) ch_cX12_learn_32 rfl)
theorem dX12_learn_46 : decode cX12_learn 46 = .ok (.iload_n 1, 1) := do_27 (rdb (p := 32) (i := 14) ch_cX12_learn_32 rfl)
theorem dX12_learn_47 : decode cX12_learn 47 = .ok (.iload_n 2, 1) := do_28 (rdb (p := 32) (i := 15) ch_cX12_learn_32 rfl)
theorem dX12_learn_48 : decode cX12_learn 48 = .ok (.iconst 0, 1) := do_3 (rdb (p := 32) (i := 16) ch_cX12_learn_32 rfl)
theorem dX12_learn_49 : decode cX12_learn 49 = .ok (.invokevirtual 317, 3) := do_182 (rdb (p := 32) (i := 17) ch_cX12_learn_32 rfl) (rdb (p := 32) (i := 18) ch_cX12_learn_32 rfl) (rdb (p := 32) (i := 19) ch_cX12_learn_32 rfl) rfl
theorem dX12_learn_52 : decode cX12_learn 52 = .ok (.aload_n 0, 1) := do_42 (rdb (p := 32) (i := 20) ch_cX12_learn_32 rfl)
theorem dX12_learn_53 : decode cX12_learn 53 = .ok (.getfield 311, 3) := do_180 (rdb (p := 32) (i := 21) ch_cX12_learn_32 rfl) (rdb (p := 32) (i := 22) ch_cX12_learn_32 rfl) (rdb (p := 32) (i := 23) ch_cX12_learn_32 rfl) rfl
theorem dX12_learn_56 : decode cX12_learn 56 = .ok (.ifCond .lt 11, 3) := do_155 (rdb (p := 32) (i := 24) ch_cX12_learn_32 rfl) (rdb (p := 32) (i := 25) ch_cX12_learn_32 rfl) (rdb (p := 32) (i := 26) ch_cX12_learn_32 rfl) (by decide +kernel)
theorem dX12_learn_59 : decode cX12_learn 59 = .ok (.iload_n 3, 1) := do_29 (rdb (p := 32) (i := 27) ch_cX12_learn_32 rfl)
theorem dX12_learn_60 : decode cX12_learn 60 = .ok (.aload_n 0, 1) := do_42 (rdb (p := 32) (i := 28) ch_cX12_learn_32 rfl)
theorem dX12_learn_61 : decode cX12_learn 61 = .ok (.getfield 311, 3) := do_180 (rdb (p := 32) (i := 29) ch_cX12_learn_32 rfl) (rdb (p := 32) (i := 30) ch_cX12_learn_32 rfl) (rdb (p := 32) (i := 31) ch_cX12_learn_32 rfl) rfl
theorem ch_cX12_learn_64 : (cX12_learn.data.toList.drop 64).take 36 = [161, 0, 10, 42, 18, 130, 182, 0, 104, 172, 29, 2, 160, 0, 10, 42, 180, 1, 58, 167, 0, 22, 29, 16, 254, 160, 0, 10, 42, 180, 1, 55, 167, 0, 9, 42] := by decide +kernel
theorem dX12_learn_64 : decode cX12_learn 64 = .ok (.if_icmp .lt 10, 3) := do_161 (rdb (p := 64) (i := 0) ch_cX12_learn_64 rfl) (rdb (p := 64) (i := 1) ch_cX12_learn_64 rfl) (rdb (p := 64) (i := 2) ch_cX12_learn_64 rfl) (by decide +kernel)
theorem dX12_learn_67 : decode cX12_learn 67 = .ok (.aload_n 0, 1) := do_42 (rdb (p := 64) (i := 3) ch_cX12_learn_64 rfl)
theorem dX12_learn_68 : decode cX12_learn 68 = .ok (.ldc 130, 2) := do_18 (rdb (p := 64) (i := 4) ch_cX12_learn_64 rfl) (rdb (p := 64) (i := 5) ch_cX12_learn_64 rfl)
theorem dX12_learn_70 : decode cX12_learn 70 = .ok (.invokevirtual 104, 3) := do_182 (rdb (p := 64) (i := 6) ch_cX12_learn_64 rfl) (rdb (p := 64) (i := 7) ch_cX12_learn_64 rfl) (rdb (p := 64) (i := 8) ch_cX12_learn_64 rfl) rfl
theorem dX12_learn_73 : decode cX12_learn 73 = .ok (.ireturn, 1) := do_172 (rdb (p := 64) (i := 9) ch_cX12_learn_64 rfl)
theorem dX12_learn_74 : decode cX12_learn 74 = .ok (.iload_n 3, 1) := do_29 (rdb (p := 64) (i := 10) ch_cX12_learn_64 rfl)
theorem dX12_learn_75 : decode cX12_learn 75 = .ok (.iconst (-1), 1) := do_2 (rdb (p := 64) (i := 11) ch_cX12_learn_64 rfl)
theorem dX12_learn_76 : decode cX12_learn 76 = .ok (.if_icmp .ne 10, 3) := do_160 (rdb (p := 64) (i := 12) ch_cX12_learn_64 rfl) (rdb (p := 64) (i := 13) ch_cX12_learn_64 rfl) (rdb (p := 64) (i := 14) ch_cX12_learn_64 rfl) (by decide +kernel)
theorem dX12_learn_79 : decode cX12_learn 79 = .ok (.aload_n 0, 1) := do_42 (rdb (p := 64) (i := 15) ch_cX12_learn_64 rfl)
theorem dX12_learn_80 : decode cX12_learn 80 = .ok (.getfield 314, 3) := do_180 (rdb (p := 64) (i := 16) ch_cX12_learn_64 rfl) (rdb (p := 64) (i := 17) ch_cX12_learn_64 rfl) (rdb (p := 64) (i := 18) ch_cX12_learn_64 rfl) rfl
theorem dX12_learn_83 : decode cX12_learn 83 = .ok (.goto 22, 3) := do_167 (rdb (p := 64) (i := 19) ch_cX12_learn_64 rfl) (rdb (p := 64) (i := 20) ch_cX12_learn_64 rfl) (rdb (p := 64) (i := 21) ch_cX12_learn_64 rfl) (by decide +kernel)
theorem dX12_learn_86 : decode cX12_learn 86 = .ok (.iload_n 3, 1) := do_29 (rdb (p := 64) (i := 22) ch_cX12_learn_64 rfl)
theorem dX12_learn_87 : decode cX12_learn 87 = .ok (.bipush (-2), 2) := do_16 (rdb (p := 64) (i := 23) ch_cX12_learn_64 rfl) (rdb (p := 64) (i := 24) ch_cX12_learn_64 rfl) (by decide +kernel)
theorem dX12_learn_89 : decode cX12_learn 89 = .ok (.if_icmp .ne 10, 3) := do_160 (rdb (p := 64) (i := 25) ch_cX12_learn_64 rfl) (rdb (p := 64) (i := 26) ch_cX12_learn_64 rfl) (rdb (p := 64) (i := 27) ch_cX12_learn_64 rfl) (by decide +kernel)
theorem dX12_learn_92 : decode cX12_learn 92 = .ok (.aload_n 0, 1) := do_42 (rdb (p := 64) (i := 28) ch_cX12_learn_64 rfl)
theorem dX12_learn_93 : decode cX12_learn 93 = .ok (.getfield 311, 3) := do_180 (rdb (p := 64) (i := 29) ch_cX12_learn_64 rfl) (rdb (p := 64) (i := 30) ch_cX12_learn_64 rfl) (rdb (p := 64) (i := 31) ch_cX12_learn_64 rfl) rfl
theorem ch_cX12_learn_96 : (cX12_learn.data.toList.drop 96).take 36 = [167, 0, 9, 42, 180, 0, 63, 29, 46, 172] := by decide +kernel
theorem dX12_learn_96 : decode cX12_learn 96 = .ok (.goto 9, 3) := do_167 (rdb (p := 96) (i := 0) ch_cX12_learn_96 rfl) (rdb (p := 96) (i := 1) ch_cX12_learn_96 rfl) (rdb (p := 96) (i := 2) ch_cX12_learn_96 rfl) (by decide +kernel)
theorem dX12_learn_99 : decode cX12_learn 99 = .ok (.aload_n 0, 1) := do_42 (rdb (p := 96) (i := 3) ch_cX12_learn_96 rfl)
theorem dX12_learn_100 : decode cX12_learn 100 = .ok (.getfield 63, 3) := do_180 (rdb (p := 96) (i := 4) ch_cX12_learn_96 rfl) (rdb (p := 96) (i := 5) ch_cX12_learn_96 rfl) (rdb (p := 96) (i := 6) ch_cX12_learn_96 rfl) rfl
theorem dX12_learn_103 : decode cX12_learn 103 = .ok (.iload_n 3, 1) := do_29 (rdb (p := 96) (i := 7) ch_cX12_learn_96 rfl)
theorem dX12_learn_104 : decode cX12_learn 104 = .ok (.iaload, 1) := do_46 (rdb (p := 96) (i := 8) ch_cX12_learn_96 rfl)
theorem dX12_learn_105 : decode cX12_learn 105 = .ok (.ireturn, 1) := do_172 (rdb (p := 96) (i := 9) ch_cX12_learn_96 rfl)
