/-! words of the tables that are used, by their places; decode rows; fields -/
theorem li_m1000006 : ((-1000006) : Int32).toInt = -1000006 := by decide
theorem m_1822 : Cond.constant RX12 348 (-1000006) ∈ BASE := bmem 1822 (by decide +kernel) rfl
theorem ch_cX12_voice_0 : (cX12_voice.data.toList.drop 0).take 36 = [42, 27, 5, 182, 0, 116, 153, 0, 12, 28, 3, 6, 184, 0, 85, 154, 0, 10, 42, 18, 103, 182, 0, 104, 172, 42, 3, 181, 1, 68, 42, 27, 181, 1, 71, 42] := by decide +kernel
theorem dX12_voice_0 : decode cX12_voice 0 = .ok (.aload_n 0, 1) := do_42 (rdb (p := 0) (i := 0) ch_cX12_voice_0 rfl)
theorem dX12_voice_1 : decode cX12_voice 1 = .ok (.iload_n 1, 1) := do_27 (rdb (p := 0) (i := 1) ch_cX12_voice_0 rfl)
theorem dX12_voice_2 : decode cX12_voice 2 = .ok (.iconst 2, 1) := do_5 (rdb (p := 0) (i := 2) ch_cX12_voice_0 rfl)
theorem dX12_voice_3 : decode cX12_voice 3 = .ok (.invokevirtual 116, 3) := do_182 (rdb (p := 0) (i := 3) ch_cX12_voice_0 rfl) (rdb (p := 0) (i := 4) ch_cX12_voice_0 rfl) (rdb (p := 0) (i := 5) ch_cX12_voice_0 rfl) rfl
theorem dX12_voice_6 : decode cX12_voice 6 = .ok (.ifCond .eq 12, 3) := do_153 (rdb (p := 0) (i := 6) ch_cX12_voice_0 rfl) (rdb (p := 0) (i := 7) ch_cX12_voice_0 rfl) (rdb (p := 0) (i := 8) ch_cX12_voice_0 rfl) (by decide +kernel)
theorem dX12_voice_9 : decode cX12_voice 9 = .ok (.iload_n 2, 1) := do_28 (rdb (p := 0) (i := 9) ch_cX12_voice_0 rfl)
theorem dX12_voice_10 : decode cX12_voice 10 = .ok (.iconst 0, 1) := do_3 (rdb (p := 0) (i := 10) ch_cX12_voice_0 rfl)
theorem dX12_voice_11 : decode cX12_voice 11 = .ok (.iconst 3, 1) := do_6 (rdb (p := 0) (i := 11) ch_cX12_voice_0 rfl)
theorem dX12_voice_12 : decode cX12_voice 12 = .ok (.invokestatic 85, 3) := do_184 (rdb (p := 0) (i := 12) ch_cX12_voice_0 rfl) (rdb (p := 0) (i := 13) ch_cX12_voice_0 rfl) (rdb (p := 0) (i := 14) ch_cX12_voice_0 rfl) rfl
theorem dX12_voice_15 : decode cX12_voice 15 = .ok (.ifCond .ne 10, 3) := do_154 (rdb (p := 0) (i := 15) ch_cX12_voice_0 rfl) (rdb (p := 0) (i := 16) ch_cX12_voice_0 rfl) (rdb (p := 0) (i := 17) ch_cX12_voice_0 rfl) (by decide +kernel)
theorem dX12_voice_18 : decode cX12_voice 18 = .ok (.aload_n 0, 1) := do_42 (rdb (p := 0) (i := 18) ch_cX12_voice_0 rfl)
theorem dX12_voice_19 : decode cX12_voice 19 = .ok (.ldc 103, 2) := do_18 (rdb (p := 0) (i := 19) ch_cX12_voice_0 rfl) (rdb (p := 0) (i := 20) ch_cX12_voice_0 rfl)
theorem dX12_voice_21 : decode cX12_voice 21 = .ok (.invokevirtual 104, 3) := do_182 (rdb (p := 0) (i := 21) ch_cX12_voice_0 rfl) (rdb (p := 0) (i := 22) ch_cX12_voice_0 rfl) (rdb (p := 0) (i := 23) ch_cX12_voice_0 rfl) rfl
theorem dX12_voice_24 : decode cX12_voice 24 = .ok (.ireturn, 1) := do_172 (rdb (p := 0) (i := 24) ch_cX12_voice_0 rfl)
theorem dX12_voice_25 : decode cX12_voice 25 = .ok (.aload_n 0, 1) := do_42 (rdb (p := 0) (i := 25) ch_cX12_voice_0 rfl)
theorem dX12_voice_26 : decode cX12_voice 26 = .ok (.iconst 0, 1) := do_3 (rdb (p := 0) (i := 26) ch_cX12_voice_0 rfl)
theorem dX12_voice_27 : decode cX12_voice 27 = .ok (.putfield 324, 3) := do_181 (rdb (p := 0) (i := 27) ch_cX12_voice_0 rfl) (rdb (p := 0) (i := 28) ch_cX12_voice_0 rfl) (rdb (p := 0) (i := 29) ch_cX12_voice_0 rfl) rfl
theorem dX12_voice_30 : decode cX12_voice 30 = .ok (.aload_n 0, 1) := do_42 (rdb (p := 0) (i := 30) ch_cX12_voice_0 rfl)
theorem dX12_voice_31 : decode cX12_voice 31 = .ok (.iload_n 1, 1) := do_27 (rdb (p := 0) (i := 31) ch_cX12_voice_0 rfl)
theorem ch_cX12_voice_32 : (cX12_voice.data.toList.drop 32).take 36 = [181, 1, 71, 42, 3, 181, 1, 80, 42, 28, 29, 182, 1, 89, 54, 4, 42, 180, 1, 80, 153, 0, 13, 42, 19, 1, 92, 182, 0, 104, 167, 0, 5, 21, 4, 172] := by decide +kernel
theorem dX12_voice_32 : decode cX12_voice 32 = .ok (.putfield 327, 3) := do_181 (rdb (p := 32) (i := 0) ch_cX12_voice_32 rfl) (rdb (p := 32) (i := 1) ch_cX12_voice_32 rfl) (rdb (p := 32) (i := 2) ch_cX12_voice_32 rfl) rfl
theorem dX12_voice_35 : decode cX12_voice 35 = .ok (.aload_n 0, 1) := do_42 (rdb (p := 32) (i := 3) ch_cX12_voice_32 rfl)
theorem dX12_voice_36 : decode cX12_voice 36 = .ok (.iconst 0, 1) := do_3 (rdb (p := 32) (i := 4) ch_cX12_voice_32 rfl)
theorem dX12_voice_37 : decode cX12_voice 37 = .ok (.putfield 336, 3) := do_181 (rdb (p := 32) (i := 5) ch_cX12_voice_32 rfl) (rdb (p := 32) (i := 6) ch_cX12_voice_32 rfl) (rdb (p := 32) (i := 7) ch_cX12_voice_32 rfl) rfl
theorem dX12_voice_40 : decode cX12_voice 40 = .ok (.aload_n 0, 1) := do_42 (rdb (p := 32) (i := 8) ch_cX12_voice_32 rfl)
theorem dX12_voice_41 : decode cX12_voice 41 = .ok (.iload_n 2, 1) := do_28 (rdb (p := 32) (i := 9) ch_cX12_voice_32 rfl)
theorem dX12_voice_42 : decode cX12_voice 42 = .ok (.iload_n 3, 1) := do_29 (rdb (p := 32) (i := 10) ch_cX12_voice_32 rfl)
theorem dX12_voice_43 : decode cX12_voice 43 = .ok (.invokevirtual 345, 3) := do_182 (rdb (p := 32) (i := 11) ch_cX12_voice_32 rfl) (rdb (p := 32) (i := 12) ch_cX12_voice_32 rfl) (rdb (p := 32) (i := 13) ch_cX12_voice_32 rfl) rfl
theorem dX12_voice_46 : decode cX12_voice 46 = .ok (.istore 4, 2) := do_54 (rdb (p := 32) (i := 14) ch_cX12_voice_32 rfl) (rdb (p := 32) (i := 15) ch_cX12_voice_32 rfl)
theorem dX12_voice_48 : decode cX12_voice 48 = .ok (.aload_n 0, 1) := do_42 (rdb (p := 32) (i := 16) ch_cX12_voice_32 rfl)
theorem dX12_voice_49 : decode cX12_voice 49 = .ok (.getfield 336, 3) := do_180 (rdb (p := 32) (i := 17) ch_cX12_voice_32 rfl) (rdb (p := 32) (i := 18) ch_cX12_voice_32 rfl) (rdb (p := 32) (i := 19) ch_cX12_voice_32 rfl) rfl
theorem dX12_voice_52 : decode cX12_voice 52 = .ok (.ifCond .eq 13, 3) := do_153 (rdb (p := 32) (i := 20) ch_cX12_voice_32 rfl) (rdb (p := 32) (i := 21) ch_cX12_voice_32 rfl) (rdb (p := 32) (i := 22) ch_cX12_voice_32 rfl) (by decide +kernel)
theorem dX12_voice_55 : decode cX12_voice 55 = .ok (.aload_n 0, 1) := do_42 (rdb (p := 32) (i := 23) ch_cX12_voice_32 rfl)
theorem dX12_voice_56 : decode cX12_voice 56 = .ok (.ldc_w 348, 3) := do_19 (rdb (p := 32) (i := 24) ch_cX12_voice_32 rfl) (rdb (p := 32) (i := 25) ch_cX12_voice_32 rfl) (rdb (p := 32) (i := 26) ch_cX12_voice_32 rfl) rfl
theorem dX12_voice_59 : decode cX12_voice 59 = .ok (.invokevirtual 104, 3) := do_182 (rdb (p := 32) (i := 27) ch_cX12_voice_32 rfl) (rdb (p := 32) (i := 28) ch_cX12_voice_32 rfl) (rdb (p := 32) (i := 29) ch_cX12_voice_32 rfl) rfl
theorem dX12_voice_62 : decode cX12_voice 62 = .ok (.goto 5, 3) := do_167 (rdb (p := 32) (i := 30) ch_cX12_voice_32 rfl) (rdb (p := 32) (i := 31) ch_cX12_voice_32 rfl) (rdb (p := 32) (i := 32) ch_cX12_voice_32 rfl) (by decide +kernel)
theorem ch_cX12_voice_64 : (cX12_voice.data.toList.drop 64).take 36 = [5, 21, 4, 172] := by decide +kernel
theorem dX12_voice_65 : decode cX12_voice 65 = .ok (.iload 4, 2) := do_21 (rdb (p := 64) (i := 1) ch_cX12_voice_64 rfl) (rdb (p := 64) (i := 2) ch_cX12_voice_64 rfl)
theorem dX12_voice_67 : decode cX12_voice 67 = .ok (.ireturn, 1) := do_172 (rdb (p := 64) (i := 3) ch_cX12_voice_64 rfl)
