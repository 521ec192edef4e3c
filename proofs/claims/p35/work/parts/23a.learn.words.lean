/-! words of the tables that are used, by their places; decode rows; fields -/
theorem m_1129 : Cond.methodLink RX11 322 yX3_findRow ∈ BASE := bmem 1129 (by decide +kernel) rfl
theorem m_1130 : Cond.instanceMethod yX3_findRow ∈ BASE := bmem 1130 (by decide +kernel) rfl
theorem m_1131 : Cond.selects yX3_findRow.cls yX3_findRow yX3_findRow ∈ BASE := bmem 1131 (by decide +kernel) rfl
theorem m_1132 : Cond.code yX3_findRow cX3_findRow 3 (some .boolean) ∈ BASE := bmem 1132 (by decide +kernel) rfl
theorem m_1133 : Cond.methodLink RX3 45 yX5_clear ∈ BASE := bmem 1133 (by decide +kernel) rfl
theorem kV_X3_findRow : KV yX3_findRow cX3_findRow 3 (some .boolean) 2 := ⟨m_1130, m_1131, m_84, m_1132, by decide +kernel, by decide +kernel, by decide +kernel⟩
theorem fl_RX11_325 : FLK RX11 325 3 7 .int false := ⟨RX3, TX3, 9, tyX3, rfl, inB3, tyX3_ok, nmX3, by decide, rfl, rfl, Or.inr ⟨"ClickStreet", List.mem_of_getElem? (l := NFs) (i := 12) rfl⟩⟩
theorem fl_RX11_328 : FLK RX11 328 3 5 (.object "ClickStreet$Row") true := ⟨RX3, TX3, 9, tyX3, rfl, inB3, tyX3_ok, nmX3, by decide, rfl, rfl, Or.inr ⟨"ClickStreet", List.mem_of_getElem? (l := NFs) (i := 11) rfl⟩⟩
theorem ch_cX11_learn_0 : (cX11_learn.data.toList.drop 0).take 36 = [27, 184, 1, 54, 153, 0, 16, 28, 184, 1, 54, 153, 0, 9, 29, 16, 254, 162, 0, 9, 42, 4, 182, 0, 67, 172, 42, 180, 0, 10, 180, 1, 57, 58, 4, 25] := by decide +kernel
theorem dX11_learn_0 : decode cX11_learn 0 = .ok (.iload_n 1, 1) := do_27 (rdb (p := 0) (i := 0) ch_cX11_learn_0 rfl)
theorem dX11_learn_1 : decode cX11_learn 1 = .ok (.invokestatic 310, 3) := do_184 (rdb (p := 0) (i := 1) ch_cX11_learn_0 rfl) (rdb (p := 0) (i := 2) ch_cX11_learn_0 rfl) (rdb (p := 0) (i := 3) ch_cX11_learn_0 rfl) rfl
theorem dX11_learn_4 : decode cX11_learn 4 = .ok (.ifCond .eq 16, 3) := do_153 (rdb (p := 0) (i := 4) ch_cX11_learn_0 rfl) (rdb (p := 0) (i := 5) ch_cX11_learn_0 rfl) (rdb (p := 0) (i := 6) ch_cX11_learn_0 rfl) (by decide +kernel)
theorem dX11_learn_7 : decode cX11_learn 7 = .ok (.iload_n 2, 1) := do_28 (rdb (p := 0) (i := 7) ch_cX11_learn_0 rfl)
theorem dX11_learn_8 : decode cX11_learn 8 = .ok (.invokestatic 310, 3) := do_184 (rdb (p := 0) (i := 8) ch_cX11_learn_0 rfl) (rdb (p := 0) (i := 9) ch_cX11_learn_0 rfl) (rdb (p := 0) (i := 10) ch_cX11_learn_0 rfl) rfl
theorem dX11_learn_11 : decode cX11_learn 11 = .ok (.ifCond .eq 9, 3) := do_153 (rdb (p := 0) (i := 11) ch_cX11_learn_0 rfl) (rdb (p := 0) (i := 12) ch_cX11_learn_0 rfl) (rdb (p := 0) (i := 13) ch_cX11_learn_0 rfl) (by decide +kernel)
theorem dX11_learn_14 : decode cX11_learn 14 = .ok (.iload_n 3, 1) := do_29 (rdb (p := 0) (i := 14) ch_cX11_learn_0 rfl)
theorem dX11_learn_15 : decode cX11_learn 15 = .ok (.bipush (-2), 2) := do_16 (rdb (p := 0) (i := 15) ch_cX11_learn_0 rfl) (rdb (p := 0) (i := 16) ch_cX11_learn_0 rfl) (by decide +kernel)
theorem dX11_learn_17 : decode cX11_learn 17 = .ok (.if_icmp .ge 9, 3) := do_162 (rdb (p := 0) (i := 17) ch_cX11_learn_0 rfl) (rdb (p := 0) (i := 18) ch_cX11_learn_0 rfl) (rdb (p := 0) (i := 19) ch_cX11_learn_0 rfl) (by decide +kernel)
theorem dX11_learn_20 : decode cX11_learn 20 = .ok (.aload_n 0, 1) := do_42 (rdb (p := 0) (i := 20) ch_cX11_learn_0 rfl)
theorem dX11_learn_21 : decode cX11_learn 21 = .ok (.iconst 1, 1) := do_4 (rdb (p := 0) (i := 21) ch_cX11_learn_0 rfl)
theorem dX11_learn_22 : decode cX11_learn 22 = .ok (.invokevirtual 67, 3) := do_182 (rdb (p := 0) (i := 22) ch_cX11_learn_0 rfl) (rdb (p := 0) (i := 23) ch_cX11_learn_0 rfl) (rdb (p := 0) (i := 24) ch_cX11_learn_0 rfl) rfl
theorem dX11_learn_25 : decode cX11_learn 25 = .ok (.ireturn, 1) := do_172 (rdb (p := 0) (i := 25) ch_cX11_learn_0 rfl)
theorem dX11_learn_26 : decode cX11_learn 26 = .ok (.aload_n 0, 1) := do_42 (rdb (p := 0) (i := 26) ch_cX11_learn_0 rfl)
theorem dX11_learn_27 : decode cX11_learn 27 = .ok (.getfield 10, 3) := do_180 (rdb (p := 0) (i := 27) ch_cX11_learn_0 rfl) (rdb (p := 0) (i := 28) ch_cX11_learn_0 rfl) (rdb (p := 0) (i := 29) ch_cX11_learn_0 rfl) rfl
theorem dX11_learn_30 : decode cX11_learn 30 = .ok (.getfield 313, 3) := do_180 (rdb (p := 0) (i := 30) ch_cX11_learn_0 rfl) (rdb (p := 0) (i := 31) ch_cX11_learn_0 rfl) (rdb (p := 0) (i := 32) ch_cX11_learn_0 rfl) rfl
theorem ch_cX11_learn_32 : (cX11_learn.data.toList.drop 32).take 36 = [57, 58, 4, 25, 4, 27, 28, 182, 1, 66, 154, 0, 9, 42, 5, 182, 0, 67, 172, 29, 2, 160, 0, 9, 25, 4, 180, 1, 69, 172, 29, 16, 254, 160, 0, 12] := by decide +kernel
theorem dX11_learn_33 : decode cX11_learn 33 = .ok (.astore 4, 2) := do_58 (rdb (p := 32) (i := 1) ch_cX11_learn_32 rfl) (rdb (p := 32) (i := 2) ch_cX11_learn_32 rfl)
theorem dX11_learn_35 : decode cX11_learn 35 = .ok (.aload 4, 2) := do_25 (rdb (p := 32) (i := 3) ch_cX11_learn_32 rfl) (rdb (p := 32) (i := 4) ch_cX11_learn_32 rfl)
theorem dX11_learn_37 : decode cX11_learn 37 = .ok (.iload_n 1, 1) := do_27 (rdb (p := 32) (i := 5) ch_cX11_learn_32 rfl)
theorem dX11_learn_38 : decode cX11_learn 38 = .ok (.iload_n 2, 1) := do_28 (rdb (p := 32) (i := 6) ch_cX11_learn_32 rfl)
theorem dX11_learn_39 : decode cX11_learn 39 = .ok (.invokevirtual 322, 3) := do_182 (rdb (p := 32) (i := 7) ch_cX11_learn_32 rfl) (rdb (p := 32) (i := 8) ch_cX11_learn_32 rfl) (rdb (p := 32) (i := 9) ch_cX11_learn_32 rfl) rfl
theorem dX11_learn_42 : decode cX11_learn 42 = .ok (.ifCond .ne 9, 3) := do_154 (rdb (p := 32) (i := 10) ch_cX11_learn_32 rfl) (rdb (p := 32) (i := 11) ch_cX11_learn_32 rfl) (rdb (p := 32) (i := 12) ch_cX11_learn_32 rfl) (by decide +kernel)
theorem dX11_learn_45 : decode cX11_learn 45 = .ok (.aload_n 0, 1) := do_42 (rdb (p := 32) (i := 13) ch_cX11_learn_32 rfl)
theorem dX11_learn_46 : decode cX11_learn 46 = .ok (.iconst 2, 1) := do_5 (rdb (p := 32) (i := 14) ch_cX11_learn_32 rfl)
theorem dX11_learn_47 : decode cX11_learn 47 = .ok (.invokevirtual 67, 3) := do_182 (rdb (p := 32) (i := 15) ch_cX11_learn_32 rfl) (rdb (p := 32) (i := 16) ch_cX11_learn_32 rfl) (rdb (p := 32) (i := 17) ch_cX11_learn_32 rfl) rfl
theorem dX11_learn_50 : decode cX11_learn 50 = .ok (.ireturn, 1) := do_172 (rdb (p := 32) (i := 18) ch_cX11_learn_32 rfl)
theorem dX11_learn_51 : decode cX11_learn 51 = .ok (.iload_n 3, 1) := do_29 (rdb (p := 32) (i := 19) ch_cX11_learn_32 rfl)
theorem dX11_learn_52 : decode cX11_learn 52 = .ok (.iconst (-1), 1) := do_2 (rdb (p := 32) (i := 20) ch_cX11_learn_32 rfl)
theorem dX11_learn_53 : decode cX11_learn 53 = .ok (.if_icmp .ne 9, 3) := do_160 (rdb (p := 32) (i := 21) ch_cX11_learn_32 rfl) (rdb (p := 32) (i := 22) ch_cX11_learn_32 rfl) (rdb (p := 32) (i := 23) ch_cX11_learn_32 rfl) (by decide +kernel)
theorem dX11_learn_56 : decode cX11_learn 56 = .ok (.aload 4, 2) := do_25 (rdb (p := 32) (i := 24) ch_cX11_learn_32 rfl) (rdb (p := 32) (i := 25) ch_cX11_learn_32 rfl)
theorem dX11_learn_58 : decode cX11_learn 58 = .ok (.getfield 325, 3) := do_180 (rdb (p := 32) (i := 26) ch_cX11_learn_32 rfl) (rdb (p := 32) (i := 27) ch_cX11_learn_32 rfl) (rdb (p := 32) (i := 28) ch_cX11_learn_32 rfl) rfl
theorem dX11_learn_61 : decode cX11_learn 61 = .ok (.ireturn, 1) := do_172 (rdb (p := 32) (i := 29) ch_cX11_learn_32 rfl)
theorem dX11_learn_62 : decode cX11_learn 62 = .ok (.iload_n 3, 1) := do_29 (rdb (p := 32) (i := 30) ch_cX11_learn_32 rfl)
theorem dX11_learn_63 : decode cX11_learn 63 = .ok (.bipush (-2), 2) := do_16 (rdb (p := 32) (i := 31) ch_cX11_learn_32 rfl) (rdb (p := 32) (i := 32) ch_cX11_learn_32 rfl) (by decide +kernel)
theorem ch_cX11_learn_64 : (cX11_learn.data.toList.drop 64).take 36 = [254, 160, 0, 12, 25, 4, 180, 1, 72, 180, 0, 205, 172, 29, 25, 4, 180, 1, 72, 180, 0, 205, 162, 0, 15, 25, 4, 180, 1, 72, 29, 182, 1, 75, 167, 0] := by decide +kernel
theorem dX11_learn_65 : decode cX11_learn 65 = .ok (.if_icmp .ne 12, 3) := do_160 (rdb (p := 64) (i := 1) ch_cX11_learn_64 rfl) (rdb (p := 64) (i := 2) ch_cX11_learn_64 rfl) (rdb (p := 64) (i := 3) ch_cX11_learn_64 rfl) (by decide +kernel)
theorem dX11_learn_68 : decode cX11_learn 68 = .ok (.aload 4, 2) := do_25 (rdb (p := 64) (i := 4) ch_cX11_learn_64 rfl) (rdb (p := 64) (i := 5) ch_cX11_learn_64 rfl)
theorem dX11_learn_70 : decode cX11_learn 70 = .ok (.getfield 328, 3) := do_180 (rdb (p := 64) (i := 6) ch_cX11_learn_64 rfl) (rdb (p := 64) (i := 7) ch_cX11_learn_64 rfl) (rdb (p := 64) (i := 8) ch_cX11_learn_64 rfl) rfl
theorem dX11_learn_73 : decode cX11_learn 73 = .ok (.getfield 205, 3) := do_180 (rdb (p := 64) (i := 9) ch_cX11_learn_64 rfl) (rdb (p := 64) (i := 10) ch_cX11_learn_64 rfl) (rdb (p := 64) (i := 11) ch_cX11_learn_64 rfl) rfl
theorem dX11_learn_76 : decode cX11_learn 76 = .ok (.ireturn, 1) := do_172 (rdb (p := 64) (i := 12) ch_cX11_learn_64 rfl)
theorem dX11_learn_77 : decode cX11_learn 77 = .ok (.iload_n 3, 1) := do_29 (rdb (p := 64) (i := 13) ch_cX11_learn_64 rfl)
theorem dX11_learn_78 : decode cX11_learn 78 = .ok (.aload 4, 2) := do_25 (rdb (p := 64) (i := 14) ch_cX11_learn_64 rfl) (rdb (p := 64) (i := 15) ch_cX11_learn_64 rfl)
theorem dX11_learn_80 : decode cX11_learn 80 = .ok (.getfield 328, 3) := do_180 (rdb (p := 64) (i := 16) ch_cX11_learn_64 rfl) (rdb (p := 64) (i := 17) ch_cX11_learn_64 rfl) (rdb (p := 64) (i := 18) ch_cX11_learn_64 rfl) rfl
theorem dX11_learn_83 : decode cX11_learn 83 = .ok (.getfield 205, 3) := do_180 (rdb (p := 64) (i := 19) ch_cX11_learn_64 rfl) (rdb (p := 64) (i := 20) ch_cX11_learn_64 rfl) (rdb (p := 64) (i := 21) ch_cX11_learn_64 rfl) rfl
theorem dX11_learn_86 : decode cX11_learn 86 = .ok (.if_icmp .ge 15, 3) := do_162 (rdb (p := 64) (i := 22) ch_cX11_learn_64 rfl) (rdb (p := 64) (i := 23) ch_cX11_learn_64 rfl) (rdb (p := 64) (i := 24) ch_cX11_learn_64 rfl) (by decide +kernel)
theorem dX11_learn_89 : decode cX11_learn 89 = .ok (.aload 4, 2) := do_25 (rdb (p := 64) (i := 25) ch_cX11_learn_64 rfl) (rdb (p := 64) (i := 26) ch_cX11_learn_64 rfl)
theorem dX11_learn_91 : decode cX11_learn 91 = .ok (.getfield 328, 3) := do_180 (rdb (p := 64) (i := 27) ch_cX11_learn_64 rfl) (rdb (p := 64) (i := 28) ch_cX11_learn_64 rfl) (rdb (p := 64) (i := 29) ch_cX11_learn_64 rfl) rfl
theorem dX11_learn_94 : decode cX11_learn 94 = .ok (.iload_n 3, 1) := do_29 (rdb (p := 64) (i := 30) ch_cX11_learn_64 rfl)
theorem dX11_learn_95 : decode cX11_learn 95 = .ok (.invokevirtual 331, 3) := do_182 (rdb (p := 64) (i := 31) ch_cX11_learn_64 rfl) (rdb (p := 64) (i := 32) ch_cX11_learn_64 rfl) (rdb (p := 64) (i := 33) ch_cX11_learn_64 rfl) rfl
theorem ch_cX11_learn_96 : (cX11_learn.data.toList.drop 96).take 36 = [1, 75, 167, 0, 8, 42, 5, 182, 0, 67, 172] := by decide +kernel
theorem dX11_learn_98 : decode cX11_learn 98 = .ok (.goto 8, 3) := do_167 (rdb (p := 96) (i := 2) ch_cX11_learn_96 rfl) (rdb (p := 96) (i := 3) ch_cX11_learn_96 rfl) (rdb (p := 96) (i := 4) ch_cX11_learn_96 rfl) (by decide +kernel)
theorem dX11_learn_101 : decode cX11_learn 101 = .ok (.aload_n 0, 1) := do_42 (rdb (p := 96) (i := 5) ch_cX11_learn_96 rfl)
theorem dX11_learn_102 : decode cX11_learn 102 = .ok (.iconst 2, 1) := do_5 (rdb (p := 96) (i := 6) ch_cX11_learn_96 rfl)
theorem dX11_learn_103 : decode cX11_learn 103 = .ok (.invokevirtual 67, 3) := do_182 (rdb (p := 96) (i := 7) ch_cX11_learn_96 rfl) (rdb (p := 96) (i := 8) ch_cX11_learn_96 rfl) (rdb (p := 96) (i := 9) ch_cX11_learn_96 rfl) rfl
theorem dX11_learn_106 : decode cX11_learn 106 = .ok (.ireturn, 1) := do_172 (rdb (p := 96) (i := 10) ch_cX11_learn_96 rfl)
theorem ch_cX3_findRow_0 : (cX3_findRow.data.toList.drop 0).take 36 = [42, 28, 181, 0, 35, 42, 3, 181, 0, 41, 42, 3, 181, 0, 38, 42, 180, 0, 28, 182, 0, 45, 42, 180, 0, 32, 182, 0, 45, 42, 27, 3, 3, 182, 0, 48] := by decide +kernel
theorem dX3_findRow_0 : decode cX3_findRow 0 = .ok (.aload_n 0, 1) := do_42 (rdb (p := 0) (i := 0) ch_cX3_findRow_0 rfl)
theorem dX3_findRow_1 : decode cX3_findRow 1 = .ok (.iload_n 2, 1) := do_28 (rdb (p := 0) (i := 1) ch_cX3_findRow_0 rfl)
theorem dX3_findRow_2 : decode cX3_findRow 2 = .ok (.putfield 35, 3) := do_181 (rdb (p := 0) (i := 2) ch_cX3_findRow_0 rfl) (rdb (p := 0) (i := 3) ch_cX3_findRow_0 rfl) (rdb (p := 0) (i := 4) ch_cX3_findRow_0 rfl) rfl
theorem dX3_findRow_5 : decode cX3_findRow 5 = .ok (.aload_n 0, 1) := do_42 (rdb (p := 0) (i := 5) ch_cX3_findRow_0 rfl)
theorem dX3_findRow_6 : decode cX3_findRow 6 = .ok (.iconst 0, 1) := do_3 (rdb (p := 0) (i := 6) ch_cX3_findRow_0 rfl)
theorem dX3_findRow_7 : decode cX3_findRow 7 = .ok (.putfield 41, 3) := do_181 (rdb (p := 0) (i := 7) ch_cX3_findRow_0 rfl) (rdb (p := 0) (i := 8) ch_cX3_findRow_0 rfl) (rdb (p := 0) (i := 9) ch_cX3_findRow_0 rfl) rfl
theorem dX3_findRow_10 : decode cX3_findRow 10 = .ok (.aload_n 0, 1) := do_42 (rdb (p := 0) (i := 10) ch_cX3_findRow_0 rfl)
theorem dX3_findRow_11 : decode cX3_findRow 11 = .ok (.iconst 0, 1) := do_3 (rdb (p := 0) (i := 11) ch_cX3_findRow_0 rfl)
theorem dX3_findRow_12 : decode cX3_findRow 12 = .ok (.putfield 38, 3) := do_181 (rdb (p := 0) (i := 12) ch_cX3_findRow_0 rfl) (rdb (p := 0) (i := 13) ch_cX3_findRow_0 rfl) (rdb (p := 0) (i := 14) ch_cX3_findRow_0 rfl) rfl
theorem dX3_findRow_15 : decode cX3_findRow 15 = .ok (.aload_n 0, 1) := do_42 (rdb (p := 0) (i := 15) ch_cX3_findRow_0 rfl)
theorem dX3_findRow_16 : decode cX3_findRow 16 = .ok (.getfield 28, 3) := do_180 (rdb (p := 0) (i := 16) ch_cX3_findRow_0 rfl) (rdb (p := 0) (i := 17) ch_cX3_findRow_0 rfl) (rdb (p := 0) (i := 18) ch_cX3_findRow_0 rfl) rfl
theorem dX3_findRow_19 : decode cX3_findRow 19 = .ok (.invokevirtual 45, 3) := do_182 (rdb (p := 0) (i := 19) ch_cX3_findRow_0 rfl) (rdb (p := 0) (i := 20) ch_cX3_findRow_0 rfl) (rdb (p := 0) (i := 21) ch_cX3_findRow_0 rfl) rfl
theorem dX3_findRow_22 : decode cX3_findRow 22 = .ok (.aload_n 0, 1) := do_42 (rdb (p := 0) (i := 22) ch_cX3_findRow_0 rfl)
theorem dX3_findRow_23 : decode cX3_findRow 23 = .ok (.getfield 32, 3) := do_180 (rdb (p := 0) (i := 23) ch_cX3_findRow_0 rfl) (rdb (p := 0) (i := 24) ch_cX3_findRow_0 rfl) (rdb (p := 0) (i := 25) ch_cX3_findRow_0 rfl) rfl
theorem dX3_findRow_26 : decode cX3_findRow 26 = .ok (.invokevirtual 45, 3) := do_182 (rdb (p := 0) (i := 26) ch_cX3_findRow_0 rfl) (rdb (p := 0) (i := 27) ch_cX3_findRow_0 rfl) (rdb (p := 0) (i := 28) ch_cX3_findRow_0 rfl) rfl
theorem dX3_findRow_29 : decode cX3_findRow 29 = .ok (.aload_n 0, 1) := do_42 (rdb (p := 0) (i := 29) ch_cX3_findRow_0 rfl)
theorem dX3_findRow_30 : decode cX3_findRow 30 = .ok (.iload_n 1, 1) := do_27 (rdb (p := 0) (i := 30) ch_cX3_findRow_0 rfl)
theorem dX3_findRow_31 : decode cX3_findRow 31 = .ok (.iconst 0, 1) := do_3 (rdb (p := 0) (i := 31) ch_cX3_findRow_0 rfl)
theorem ch_cX3_findRow_32 : (cX3_findRow.data.toList.drop 32).take 36 = [3, 182, 0, 48, 42, 180, 0, 41, 172] := by decide +kernel
theorem dX3_findRow_32 : decode cX3_findRow 32 = .ok (.iconst 0, 1) := do_3 (rdb (p := 32) (i := 0) ch_cX3_findRow_32 rfl)
theorem dX3_findRow_33 : decode cX3_findRow 33 = .ok (.invokevirtual 48, 3) := do_182 (rdb (p := 32) (i := 1) ch_cX3_findRow_32 rfl) (rdb (p := 32) (i := 2) ch_cX3_findRow_32 rfl) (rdb (p := 32) (i := 3) ch_cX3_findRow_32 rfl) rfl
theorem dX3_findRow_36 : decode cX3_findRow 36 = .ok (.aload_n 0, 1) := do_42 (rdb (p := 32) (i := 4) ch_cX3_findRow_32 rfl)
theorem dX3_findRow_37 : decode cX3_findRow 37 = .ok (.getfield 41, 3) := do_180 (rdb (p := 32) (i := 5) ch_cX3_findRow_32 rfl) (rdb (p := 32) (i := 6) ch_cX3_findRow_32 rfl) (rdb (p := 32) (i := 7) ch_cX3_findRow_32 rfl) rfl
theorem dX3_findRow_40 : decode cX3_findRow 40 = .ok (.ireturn, 1) := do_172 (rdb (p := 32) (i := 8) ch_cX3_findRow_32 rfl)
