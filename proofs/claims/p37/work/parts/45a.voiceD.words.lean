/-! words of the tables that are used, by their places; decode rows; fields -/
theorem li_m1000006 : ((-1000006) : Int32).toInt = -1000006 := by decide
theorem m_1822 : Cond.constant RX12 348 (-1000006) ∈ BASE := bmem 1822 (by decide +kernel) rfl
theorem dX12_voice_0 : decode cX12_voice 0 = .ok (.aload_n 0, 1) := by decide +kernel
theorem dX12_voice_1 : decode cX12_voice 1 = .ok (.iload_n 1, 1) := by decide +kernel
theorem dX12_voice_2 : decode cX12_voice 2 = .ok (.iconst 2, 1) := by decide +kernel
theorem dX12_voice_3 : decode cX12_voice 3 = .ok (.invokevirtual 116, 3) := by decide +kernel
theorem dX12_voice_6 : decode cX12_voice 6 = .ok (.ifCond .eq 12, 3) := by decide +kernel
theorem dX12_voice_9 : decode cX12_voice 9 = .ok (.iload_n 2, 1) := by decide +kernel
theorem dX12_voice_10 : decode cX12_voice 10 = .ok (.iconst 0, 1) := by decide +kernel
theorem dX12_voice_11 : decode cX12_voice 11 = .ok (.iconst 3, 1) := by decide +kernel
theorem dX12_voice_12 : decode cX12_voice 12 = .ok (.invokestatic 85, 3) := by decide +kernel
theorem dX12_voice_15 : decode cX12_voice 15 = .ok (.ifCond .ne 10, 3) := by decide +kernel
theorem dX12_voice_18 : decode cX12_voice 18 = .ok (.aload_n 0, 1) := by decide +kernel
theorem dX12_voice_19 : decode cX12_voice 19 = .ok (.ldc 103, 2) := by decide +kernel
theorem dX12_voice_21 : decode cX12_voice 21 = .ok (.invokevirtual 104, 3) := by decide +kernel
theorem dX12_voice_24 : decode cX12_voice 24 = .ok (.ireturn, 1) := by decide +kernel
theorem dX12_voice_25 : decode cX12_voice 25 = .ok (.aload_n 0, 1) := by decide +kernel
theorem dX12_voice_26 : decode cX12_voice 26 = .ok (.iconst 0, 1) := by decide +kernel
theorem dX12_voice_27 : decode cX12_voice 27 = .ok (.putfield 324, 3) := by decide +kernel
theorem dX12_voice_30 : decode cX12_voice 30 = .ok (.aload_n 0, 1) := by decide +kernel
theorem dX12_voice_31 : decode cX12_voice 31 = .ok (.iload_n 1, 1) := by decide +kernel
theorem dX12_voice_32 : decode cX12_voice 32 = .ok (.putfield 327, 3) := by decide +kernel
theorem dX12_voice_35 : decode cX12_voice 35 = .ok (.aload_n 0, 1) := by decide +kernel
theorem dX12_voice_36 : decode cX12_voice 36 = .ok (.iconst 0, 1) := by decide +kernel
theorem dX12_voice_37 : decode cX12_voice 37 = .ok (.putfield 336, 3) := by decide +kernel
theorem dX12_voice_40 : decode cX12_voice 40 = .ok (.aload_n 0, 1) := by decide +kernel
theorem dX12_voice_41 : decode cX12_voice 41 = .ok (.iload_n 2, 1) := by decide +kernel
theorem dX12_voice_42 : decode cX12_voice 42 = .ok (.iload_n 3, 1) := by decide +kernel
theorem dX12_voice_43 : decode cX12_voice 43 = .ok (.invokevirtual 345, 3) := by decide +kernel
theorem dX12_voice_46 : decode cX12_voice 46 = .ok (.istore 4, 2) := by decide +kernel
theorem dX12_voice_48 : decode cX12_voice 48 = .ok (.aload_n 0, 1) := by decide +kernel
theorem dX12_voice_49 : decode cX12_voice 49 = .ok (.getfield 336, 3) := by decide +kernel
theorem dX12_voice_52 : decode cX12_voice 52 = .ok (.ifCond .eq 13, 3) := by decide +kernel
theorem dX12_voice_55 : decode cX12_voice 55 = .ok (.aload_n 0, 1) := by decide +kernel
theorem dX12_voice_56 : decode cX12_voice 56 = .ok (.ldc_w 348, 3) := by decide +kernel
theorem dX12_voice_59 : decode cX12_voice 59 = .ok (.invokevirtual 104, 3) := by decide +kernel
theorem dX12_voice_62 : decode cX12_voice 62 = .ok (.goto 5, 3) := by decide +kernel
theorem dX12_voice_65 : decode cX12_voice 65 = .ok (.iload 4, 2) := by decide +kernel
theorem dX12_voice_67 : decode cX12_voice 67 = .ok (.ireturn, 1) := by decide +kernel
