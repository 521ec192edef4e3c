/-! words of the tables that are used, by their places; decode rows; fields -/
theorem m_1331 : Cond.fieldLink RX12 40 "ClickStreetModel" "NAMED" "[Ljava/lang/String;" ∈ BASE := bmem 1331 (by decide +kernel) rfl
theorem m_1333 : Cond.fieldLink RX12 181 "ClickStreetModel" "use" "I" ∈ BASE := bmem 1333 (by decide +kernel) rfl
theorem m_1599 : Cond.methodLink RX12 184 yS_length ∈ BASE := bmem 1599 (by decide +kernel) rfl
theorem m_1600 : Cond.methodLink RX12 187 yS_charAt ∈ BASE := bmem 1600 (by decide +kernel) rfl
theorem fl_RX12_181 : FLK RX12 181 12 10 .int false := ⟨RX12, TX12, 33, tyX12, rfl, inB12, tyX12_ok, nmX12, by decide, rfl, rfl, Or.inl m_1333⟩
theorem fl_RX12_40 : FLK RX12 40 12 8 (.array (.object "java/lang/String")) true := ⟨RX12, TX12, 33, tyX12, rfl, inB12, tyX12_ok, nmX12, by decide, rfl, rfl, Or.inl m_1331⟩
theorem ch_cX12_nameOf_0 : (cX12_nameOf.data.toList.drop 0).take 36 = [2, 61, 3, 62, 29, 42, 180, 0, 40, 42, 180, 0, 181, 50, 182, 0, 184, 162, 0, 32, 42, 180, 0, 40, 42, 180, 0, 181, 50, 29, 182, 0, 187, 27, 160, 0] := by decide +kernel
theorem dX12_nameOf_0 : decode cX12_nameOf 0 = .ok (.iconst (-1), 1) := do_2 (rdb (p := 0) (i := 0) ch_cX12_nameOf_0 rfl)
theorem dX12_nameOf_1 : decode cX12_nameOf 1 = .ok (.istore_n 2, 1) := do_61 (rdb (p := 0) (i := 1) ch_cX12_nameOf_0 rfl)
theorem dX12_nameOf_2 : decode cX12_nameOf 2 = .ok (.iconst 0, 1) := do_3 (rdb (p := 0) (i := 2) ch_cX12_nameOf_0 rfl)
theorem dX12_nameOf_3 : decode cX12_nameOf 3 = .ok (.istore_n 3, 1) := do_62 (rdb (p := 0) (i := 3) ch_cX12_nameOf_0 rfl)
theorem dX12_nameOf_4 : decode cX12_nameOf 4 = .ok (.iload_n 3, 1) := do_29 (rdb (p := 0) (i := 4) ch_cX12_nameOf_0 rfl)
theorem dX12_nameOf_5 : decode cX12_nameOf 5 = .ok (.aload_n 0, 1) := do_42 (rdb (p := 0) (i := 5) ch_cX12_nameOf_0 rfl)
theorem dX12_nameOf_6 : decode cX12_nameOf 6 = .ok (.getfield 40, 3) := do_180 (rdb (p := 0) (i := 6) ch_cX12_nameOf_0 rfl) (rdb (p := 0) (i := 7) ch_cX12_nameOf_0 rfl) (rdb (p := 0) (i := 8) ch_cX12_nameOf_0 rfl) rfl
theorem dX12_nameOf_9 : decode cX12_nameOf 9 = .ok (.aload_n 0, 1) := do_42 (rdb (p := 0) (i := 9) ch_cX12_nameOf_0 rfl)
theorem dX12_nameOf_10 : decode cX12_nameOf 10 = .ok (.getfield 181, 3) := do_180 (rdb (p := 0) (i := 10) ch_cX12_nameOf_0 rfl) (rdb (p := 0) (i := 11) ch_cX12_nameOf_0 rfl) (rdb (p := 0) (i := 12) ch_cX12_nameOf_0 rfl) rfl
theorem dX12_nameOf_13 : decode cX12_nameOf 13 = .ok (.aaload, 1) := do_50 (rdb (p := 0) (i := 13) ch_cX12_nameOf_0 rfl)
theorem dX12_nameOf_14 : decode cX12_nameOf 14 = .ok (.invokevirtual 184, 3) := do_182 (rdb (p := 0) (i := 14) ch_cX12_nameOf_0 rfl) (rdb (p := 0) (i := 15) ch_cX12_nameOf_0 rfl) (rdb (p := 0) (i := 16) ch_cX12_nameOf_0 rfl) rfl
theorem dX12_nameOf_17 : decode cX12_nameOf 17 = .ok (.if_icmp .ge 32, 3) := do_162 (rdb (p := 0) (i := 17) ch_cX12_nameOf_0 rfl) (rdb (p := 0) (i := 18) ch_cX12_nameOf_0 rfl) (rdb (p := 0) (i := 19) ch_cX12_nameOf_0 rfl) (by decide +kernel)
theorem dX12_nameOf_20 : decode cX12_nameOf 20 = .ok (.aload_n 0, 1) := do_42 (rdb (p := 0) (i := 20) ch_cX12_nameOf_0 rfl)
theorem dX12_nameOf_21 : decode cX12_nameOf 21 = .ok (.getfield 40, 3) := do_180 (rdb (p := 0) (i := 21) ch_cX12_nameOf_0 rfl) (rdb (p := 0) (i := 22) ch_cX12_nameOf_0 rfl) (rdb (p := 0) (i := 23) ch_cX12_nameOf_0 rfl) rfl
theorem dX12_nameOf_24 : decode cX12_nameOf 24 = .ok (.aload_n 0, 1) := do_42 (rdb (p := 0) (i := 24) ch_cX12_nameOf_0 rfl)
theorem dX12_nameOf_25 : decode cX12_nameOf 25 = .ok (.getfield 181, 3) := do_180 (rdb (p := 0) (i := 25) ch_cX12_nameOf_0 rfl) (rdb (p := 0) (i := 26) ch_cX12_nameOf_0 rfl) (rdb (p := 0) (i := 27) ch_cX12_nameOf_0 rfl) rfl
theorem dX12_nameOf_28 : decode cX12_nameOf 28 = .ok (.aaload, 1) := do_50 (rdb (p := 0) (i := 28) ch_cX12_nameOf_0 rfl)
theorem dX12_nameOf_29 : decode cX12_nameOf 29 = .ok (.iload_n 3, 1) := do_29 (rdb (p := 0) (i := 29) ch_cX12_nameOf_0 rfl)
theorem dX12_nameOf_30 : decode cX12_nameOf 30 = .ok (.invokevirtual 187, 3) := do_182 (rdb (p := 0) (i := 30) ch_cX12_nameOf_0 rfl) (rdb (p := 0) (i := 31) ch_cX12_nameOf_0 rfl) (rdb (p := 0) (i := 32) ch_cX12_nameOf_0 rfl) rfl
theorem ch_cX12_nameOf_32 : (cX12_nameOf.data.toList.drop 32).take 36 = [187, 27, 160, 0, 7, 29, 167, 0, 4, 28, 61, 132, 3, 1, 167, 255, 214, 28, 172] := by decide +kernel
theorem dX12_nameOf_33 : decode cX12_nameOf 33 = .ok (.iload_n 1, 1) := do_27 (rdb (p := 32) (i := 1) ch_cX12_nameOf_32 rfl)
theorem dX12_nameOf_34 : decode cX12_nameOf 34 = .ok (.if_icmp .ne 7, 3) := do_160 (rdb (p := 32) (i := 2) ch_cX12_nameOf_32 rfl) (rdb (p := 32) (i := 3) ch_cX12_nameOf_32 rfl) (rdb (p := 32) (i := 4) ch_cX12_nameOf_32 rfl) (by decide +kernel)
theorem dX12_nameOf_37 : decode cX12_nameOf 37 = .ok (.iload_n 3, 1) := do_29 (rdb (p := 32) (i := 5) ch_cX12_nameOf_32 rfl)
theorem dX12_nameOf_38 : decode cX12_nameOf 38 = .ok (.goto 4, 3) := do_167 (rdb (p := 32) (i := 6) ch_cX12_nameOf_32 rfl) (rdb (p := 32) (i := 7) ch_cX12_nameOf_32 rfl) (rdb (p := 32) (i := 8) ch_cX12_nameOf_32 rfl) (by decide +kernel)
theorem dX12_nameOf_41 : decode cX12_nameOf 41 = .ok (.iload_n 2, 1) := do_28 (rdb (p := 32) (i := 9) ch_cX12_nameOf_32 rfl)
theorem dX12_nameOf_42 : decode cX12_nameOf 42 = .ok (.istore_n 2, 1) := do_61 (rdb (p := 32) (i := 10) ch_cX12_nameOf_32 rfl)
theorem dX12_nameOf_43 : decode cX12_nameOf 43 = .ok (.iinc 3 1, 3) := do_132 (rdb (p := 32) (i := 11) ch_cX12_nameOf_32 rfl) (rdb (p := 32) (i := 12) ch_cX12_nameOf_32 rfl) (rdb (p := 32) (i := 13) ch_cX12_nameOf_32 rfl) (by decide +kernel)
theorem dX12_nameOf_46 : decode cX12_nameOf 46 = .ok (.goto (-42), 3) := do_167 (rdb (p := 32) (i := 14) ch_cX12_nameOf_32 rfl) (rdb (p := 32) (i := 15) ch_cX12_nameOf_32 rfl) (rdb (p := 32) (i := 16) ch_cX12_nameOf_32 rfl) (by decide +kernel)
theorem dX12_nameOf_49 : decode cX12_nameOf 49 = .ok (.iload_n 2, 1) := do_28 (rdb (p := 32) (i := 17) ch_cX12_nameOf_32 rfl)
theorem dX12_nameOf_50 : decode cX12_nameOf 50 = .ok (.ireturn, 1) := do_172 (rdb (p := 32) (i := 18) ch_cX12_nameOf_32 rfl)
