/-! words of the tables that are used, by their places; decode rows; fields -/
theorem m_40 : Cond.selects yX12_here.cls yX12_here yX12_here ∈ BASE := bmem 40 (by decide +kernel) rfl
theorem m_44 : Cond.selects yX12_takes.cls yX12_takes yX12_takes ∈ BASE := bmem 44 (by decide +kernel) rfl
theorem m_1332 : Cond.fieldLink RX12 155 "ClickStreetModel" "at" "I" ∈ BASE := bmem 1332 (by decide +kernel) rfl
theorem m_1336 : Cond.fieldLink RX12 151 "ClickStreetModel" "isWrong" "Z" ∈ BASE := bmem 1336 (by decide +kernel) rfl
theorem m_1337 : Cond.fieldLink RX12 162 "ClickStreetModel" "coded" "I" ∈ BASE := bmem 1337 (by decide +kernel) rfl
theorem m_1338 : Cond.fieldLink RX12 44 "ClickStreetModel" "code" "[I" ∈ BASE := bmem 1338 (by decide +kernel) rfl
theorem m_1575 : Cond.methodLink RX12 158 yX12_here ∈ BASE := bmem 1575 (by decide +kernel) rfl
theorem m_1577 : Cond.instanceMethod yX12_here ∈ BASE := bmem 1577 (by decide +kernel) rfl
theorem m_1578 : Cond.code yX12_here cX12_here 1 (some .int) ∈ BASE := bmem 1578 (by decide +kernel) rfl
theorem m_1591 : Cond.methodLink RX12 165 yX12_takes ∈ BASE := bmem 1591 (by decide +kernel) rfl
theorem m_1593 : Cond.instanceMethod yX12_takes ∈ BASE := bmem 1593 (by decide +kernel) rfl
theorem m_1594 : Cond.code yX12_takes cX12_takes 3 (some .boolean) ∈ BASE := bmem 1594 (by decide +kernel) rfl
theorem kV_X12_here : KV yX12_here cX12_here 1 (some .int) 0 := ⟨m_1577, m_40, m_92, m_1578, by decide +kernel, by decide +kernel, by decide +kernel⟩
theorem kV_X12_takes : KV yX12_takes cX12_takes 3 (some .boolean) 1 := ⟨m_1593, m_44, m_92, m_1594, by decide +kernel, by decide +kernel, by decide +kernel⟩
theorem fl_RX12_151 : FLK RX12 151 12 13 .boolean false := ⟨RX12, TX12, 33, tyX12, rfl, inB12, tyX12_ok, nmX12, by decide, rfl, rfl, Or.inl m_1336⟩
theorem fl_RX12_155 : FLK RX12 155 12 9 .int false := ⟨RX12, TX12, 33, tyX12, rfl, inB12, tyX12_ok, nmX12, by decide, rfl, rfl, Or.inl m_1332⟩
theorem fl_RX12_162 : FLK RX12 162 12 14 .int false := ⟨RX12, TX12, 33, tyX12, rfl, inB12, tyX12_ok, nmX12, by decide, rfl, rfl, Or.inl m_1337⟩
theorem fl_RX12_44 : FLK RX12 44 12 15 (.array .int) true := ⟨RX12, TX12, 33, tyX12, rfl, inB12, tyX12_ok, nmX12, by decide, rfl, rfl, Or.inl m_1338⟩
theorem dX12_codes_0 : decode cX12_codes 0 = .ok (.aload_n 0, 1) := by decide +kernel
theorem dX12_codes_1 : decode cX12_codes 1 = .ok (.getfield 151, 3) := by decide +kernel
theorem dX12_codes_4 : decode cX12_codes 4 = .ok (.ifCond .ne 23, 3) := by decide +kernel
theorem dX12_codes_7 : decode cX12_codes 7 = .ok (.aload_n 0, 1) := by decide +kernel
theorem dX12_codes_8 : decode cX12_codes 8 = .ok (.getfield 44, 3) := by decide +kernel
theorem dX12_codes_11 : decode cX12_codes 11 = .ok (.aload_n 0, 1) := by decide +kernel
theorem dX12_codes_12 : decode cX12_codes 12 = .ok (.getfield 162, 3) := by decide +kernel
theorem dX12_codes_15 : decode cX12_codes 15 = .ok (.iload_n 1, 1) := by decide +kernel
theorem dX12_codes_16 : decode cX12_codes 16 = .ok (.iastore, 1) := by decide +kernel
theorem dX12_codes_17 : decode cX12_codes 17 = .ok (.aload_n 0, 1) := by decide +kernel
theorem dX12_codes_18 : decode cX12_codes 18 = .ok (.dup, 1) := by decide +kernel
theorem dX12_codes_19 : decode cX12_codes 19 = .ok (.getfield 162, 3) := by decide +kernel
theorem dX12_codes_22 : decode cX12_codes 22 = .ok (.iconst 1, 1) := by decide +kernel
theorem dX12_codes_23 : decode cX12_codes 23 = .ok (.iadd, 1) := by decide +kernel
theorem dX12_codes_24 : decode cX12_codes 24 = .ok (.putfield 162, 3) := by decide +kernel
theorem dX12_codes_27 : decode cX12_codes 27 = .ok (.return_, 1) := by decide +kernel
theorem ch_cX12_here_0 : (cX12_here.data.toList.drop 0).take 36 = [42, 180, 0, 151, 154, 0, 47, 42, 180, 0, 155, 42, 180, 0, 9, 7, 46, 162, 0, 34, 42, 180, 0, 9, 17, 1, 17, 42, 180, 0, 155, 96, 46, 16, 32, 160] := by decide +kernel
theorem dX12_here_0 : decode cX12_here 0 = .ok (.aload_n 0, 1) := do_42 (rdb (p := 0) (i := 0) ch_cX12_here_0 rfl)
theorem dX12_here_1 : decode cX12_here 1 = .ok (.getfield 151, 3) := do_180 (rdb (p := 0) (i := 1) ch_cX12_here_0 rfl) (rdb (p := 0) (i := 2) ch_cX12_here_0 rfl) (rdb (p := 0) (i := 3) ch_cX12_here_0 rfl) rfl
theorem dX12_here_4 : decode cX12_here 4 = .ok (.ifCond .ne 47, 3) := do_154 (rdb (p := 0) (i := 4) ch_cX12_here_0 rfl) (rdb (p := 0) (i := 5) ch_cX12_here_0 rfl) (rdb (p := 0) (i := 6) ch_cX12_here_0 rfl) (by decide +kernel)
theorem dX12_here_7 : decode cX12_here 7 = .ok (.aload_n 0, 1) := do_42 (rdb (p := 0) (i := 7) ch_cX12_here_0 rfl)
theorem dX12_here_8 : decode cX12_here 8 = .ok (.getfield 155, 3) := do_180 (rdb (p := 0) (i := 8) ch_cX12_here_0 rfl) (rdb (p := 0) (i := 9) ch_cX12_here_0 rfl) (rdb (p := 0) (i := 10) ch_cX12_here_0 rfl) rfl
theorem dX12_here_11 : decode cX12_here 11 = .ok (.aload_n 0, 1) := do_42 (rdb (p := 0) (i := 11) ch_cX12_here_0 rfl)
theorem dX12_here_12 : decode cX12_here 12 = .ok (.getfield 9, 3) := do_180 (rdb (p := 0) (i := 12) ch_cX12_here_0 rfl) (rdb (p := 0) (i := 13) ch_cX12_here_0 rfl) (rdb (p := 0) (i := 14) ch_cX12_here_0 rfl) rfl
theorem dX12_here_15 : decode cX12_here 15 = .ok (.iconst 4, 1) := do_7 (rdb (p := 0) (i := 15) ch_cX12_here_0 rfl)
theorem dX12_here_16 : decode cX12_here 16 = .ok (.iaload, 1) := do_46 (rdb (p := 0) (i := 16) ch_cX12_here_0 rfl)
theorem dX12_here_17 : decode cX12_here 17 = .ok (.if_icmp .ge 34, 3) := do_162 (rdb (p := 0) (i := 17) ch_cX12_here_0 rfl) (rdb (p := 0) (i := 18) ch_cX12_here_0 rfl) (rdb (p := 0) (i := 19) ch_cX12_here_0 rfl) (by decide +kernel)
theorem dX12_here_20 : decode cX12_here 20 = .ok (.aload_n 0, 1) := do_42 (rdb (p := 0) (i := 20) ch_cX12_here_0 rfl)
theorem dX12_here_21 : decode cX12_here 21 = .ok (.getfield 9, 3) := do_180 (rdb (p := 0) (i := 21) ch_cX12_here_0 rfl) (rdb (p := 0) (i := 22) ch_cX12_here_0 rfl) (rdb (p := 0) (i := 23) ch_cX12_here_0 rfl) rfl
theorem dX12_here_24 : decode cX12_here 24 = .ok (.sipush 273, 3) := do_17 (rdb (p := 0) (i := 24) ch_cX12_here_0 rfl) (rdb (p := 0) (i := 25) ch_cX12_here_0 rfl) (rdb (p := 0) (i := 26) ch_cX12_here_0 rfl) (by decide +kernel)
theorem dX12_here_27 : decode cX12_here 27 = .ok (.aload_n 0, 1) := do_42 (rdb (p := 0) (i := 27) ch_cX12_here_0 rfl)
theorem dX12_here_28 : decode cX12_here 28 = .ok (.getfield 155, 3) := do_180 (rdb (p := 0) (i := 28) ch_cX12_here_0 rfl) (rdb (p := 0) (i := 29) ch_cX12_here_0 rfl) (rdb (p := 0) (i := 30) ch_cX12_here_0 rfl) rfl
theorem dX12_here_31 : decode cX12_here 31 = .ok (.iadd, 1) := do_96 (rdb (p := 0) (i := 31) ch_cX12_here_0 rfl)
theorem ch_cX12_here_32 : (cX12_here.data.toList.drop 32).take 36 = [46, 16, 32, 160, 0, 16, 42, 89, 180, 0, 155, 4, 96, 181, 0, 155, 167, 255, 208, 42, 180, 0, 151, 154, 0, 32, 42, 180, 0, 155, 42, 180, 0, 9, 7, 46] := by decide +kernel
theorem dX12_here_32 : decode cX12_here 32 = .ok (.iaload, 1) := do_46 (rdb (p := 32) (i := 0) ch_cX12_here_32 rfl)
theorem dX12_here_33 : decode cX12_here 33 = .ok (.bipush 32, 2) := do_16 (rdb (p := 32) (i := 1) ch_cX12_here_32 rfl) (rdb (p := 32) (i := 2) ch_cX12_here_32 rfl) (by decide +kernel)
theorem dX12_here_35 : decode cX12_here 35 = .ok (.if_icmp .ne 16, 3) := do_160 (rdb (p := 32) (i := 3) ch_cX12_here_32 rfl) (rdb (p := 32) (i := 4) ch_cX12_here_32 rfl) (rdb (p := 32) (i := 5) ch_cX12_here_32 rfl) (by decide +kernel)
theorem dX12_here_38 : decode cX12_here 38 = .ok (.aload_n 0, 1) := do_42 (rdb (p := 32) (i := 6) ch_cX12_here_32 rfl)
theorem dX12_here_39 : decode cX12_here 39 = .ok (.dup, 1) := do_89 (rdb (p := 32) (i := 7) ch_cX12_here_32 rfl)
theorem dX12_here_40 : decode cX12_here 40 = .ok (.getfield 155, 3) := do_180 (rdb (p := 32) (i := 8) ch_cX12_here_32 rfl) (rdb (p := 32) (i := 9) ch_cX12_here_32 rfl) (rdb (p := 32) (i := 10) ch_cX12_here_32 rfl) rfl
theorem dX12_here_43 : decode cX12_here 43 = .ok (.iconst 1, 1) := do_4 (rdb (p := 32) (i := 11) ch_cX12_here_32 rfl)
theorem dX12_here_44 : decode cX12_here 44 = .ok (.iadd, 1) := do_96 (rdb (p := 32) (i := 12) ch_cX12_here_32 rfl)
theorem dX12_here_45 : decode cX12_here 45 = .ok (.putfield 155, 3) := do_181 (rdb (p := 32) (i := 13) ch_cX12_here_32 rfl) (rdb (p := 32) (i := 14) ch_cX12_here_32 rfl) (rdb (p := 32) (i := 15) ch_cX12_here_32 rfl) rfl
theorem dX12_here_48 : decode cX12_here 48 = .ok (.goto (-48), 3) := do_167 (rdb (p := 32) (i := 16) ch_cX12_here_32 rfl) (rdb (p := 32) (i := 17) ch_cX12_here_32 rfl) (rdb (p := 32) (i := 18) ch_cX12_here_32 rfl) (by decide +kernel)
theorem dX12_here_51 : decode cX12_here 51 = .ok (.aload_n 0, 1) := do_42 (rdb (p := 32) (i := 19) ch_cX12_here_32 rfl)
theorem dX12_here_52 : decode cX12_here 52 = .ok (.getfield 151, 3) := do_180 (rdb (p := 32) (i := 20) ch_cX12_here_32 rfl) (rdb (p := 32) (i := 21) ch_cX12_here_32 rfl) (rdb (p := 32) (i := 22) ch_cX12_here_32 rfl) rfl
theorem dX12_here_55 : decode cX12_here 55 = .ok (.ifCond .ne 32, 3) := do_154 (rdb (p := 32) (i := 23) ch_cX12_here_32 rfl) (rdb (p := 32) (i := 24) ch_cX12_here_32 rfl) (rdb (p := 32) (i := 25) ch_cX12_here_32 rfl) (by decide +kernel)
theorem dX12_here_58 : decode cX12_here 58 = .ok (.aload_n 0, 1) := do_42 (rdb (p := 32) (i := 26) ch_cX12_here_32 rfl)
theorem dX12_here_59 : decode cX12_here 59 = .ok (.getfield 155, 3) := do_180 (rdb (p := 32) (i := 27) ch_cX12_here_32 rfl) (rdb (p := 32) (i := 28) ch_cX12_here_32 rfl) (rdb (p := 32) (i := 29) ch_cX12_here_32 rfl) rfl
theorem dX12_here_62 : decode cX12_here 62 = .ok (.aload_n 0, 1) := do_42 (rdb (p := 32) (i := 30) ch_cX12_here_32 rfl)
theorem dX12_here_63 : decode cX12_here 63 = .ok (.getfield 9, 3) := do_180 (rdb (p := 32) (i := 31) ch_cX12_here_32 rfl) (rdb (p := 32) (i := 32) ch_cX12_here_32 rfl) (rdb (p := 32) (i := 33) ch_cX12_here_32 rfl) rfl
theorem ch_cX12_here_64 : (cX12_here.data.toList.drop 64).take 36 = [0, 9, 7, 46, 162, 0, 19, 42, 180, 0, 9, 17, 1, 17, 42, 180, 0, 155, 96, 46, 167, 0, 4, 2, 172] := by decide +kernel
theorem dX12_here_66 : decode cX12_here 66 = .ok (.iconst 4, 1) := do_7 (rdb (p := 64) (i := 2) ch_cX12_here_64 rfl)
theorem dX12_here_67 : decode cX12_here 67 = .ok (.iaload, 1) := do_46 (rdb (p := 64) (i := 3) ch_cX12_here_64 rfl)
theorem dX12_here_68 : decode cX12_here 68 = .ok (.if_icmp .ge 19, 3) := do_162 (rdb (p := 64) (i := 4) ch_cX12_here_64 rfl) (rdb (p := 64) (i := 5) ch_cX12_here_64 rfl) (rdb (p := 64) (i := 6) ch_cX12_here_64 rfl) (by decide +kernel)
theorem dX12_here_71 : decode cX12_here 71 = .ok (.aload_n 0, 1) := do_42 (rdb (p := 64) (i := 7) ch_cX12_here_64 rfl)
theorem dX12_here_72 : decode cX12_here 72 = .ok (.getfield 9, 3) := do_180 (rdb (p := 64) (i := 8) ch_cX12_here_64 rfl) (rdb (p := 64) (i := 9) ch_cX12_here_64 rfl) (rdb (p := 64) (i := 10) ch_cX12_here_64 rfl) rfl
theorem dX12_here_75 : decode cX12_here 75 = .ok (.sipush 273, 3) := do_17 (rdb (p := 64) (i := 11) ch_cX12_here_64 rfl) (rdb (p := 64) (i := 12) ch_cX12_here_64 rfl) (rdb (p := 64) (i := 13) ch_cX12_here_64 rfl) (by decide +kernel)
theorem dX12_here_78 : decode cX12_here 78 = .ok (.aload_n 0, 1) := do_42 (rdb (p := 64) (i := 14) ch_cX12_here_64 rfl)
theorem dX12_here_79 : decode cX12_here 79 = .ok (.getfield 155, 3) := do_180 (rdb (p := 64) (i := 15) ch_cX12_here_64 rfl) (rdb (p := 64) (i := 16) ch_cX12_here_64 rfl) (rdb (p := 64) (i := 17) ch_cX12_here_64 rfl) rfl
theorem dX12_here_82 : decode cX12_here 82 = .ok (.iadd, 1) := do_96 (rdb (p := 64) (i := 18) ch_cX12_here_64 rfl)
theorem dX12_here_83 : decode cX12_here 83 = .ok (.iaload, 1) := do_46 (rdb (p := 64) (i := 19) ch_cX12_here_64 rfl)
theorem dX12_here_84 : decode cX12_here 84 = .ok (.goto 4, 3) := do_167 (rdb (p := 64) (i := 20) ch_cX12_here_64 rfl) (rdb (p := 64) (i := 21) ch_cX12_here_64 rfl) (rdb (p := 64) (i := 22) ch_cX12_here_64 rfl) (by decide +kernel)
theorem dX12_here_87 : decode cX12_here 87 = .ok (.iconst (-1), 1) := do_2 (rdb (p := 64) (i := 23) ch_cX12_here_64 rfl)
theorem dX12_here_88 : decode cX12_here 88 = .ok (.ireturn, 1) := do_172 (rdb (p := 64) (i := 24) ch_cX12_here_64 rfl)
theorem dX12_must_0 : decode cX12_must 0 = .ok (.aload_n 0, 1) := by decide +kernel
theorem dX12_must_1 : decode cX12_must 1 = .ok (.aload_n 0, 1) := by decide +kernel
theorem dX12_must_2 : decode cX12_must 2 = .ok (.iload_n 1, 1) := by decide +kernel
theorem dX12_must_3 : decode cX12_must 3 = .ok (.invokevirtual 165, 3) := by decide +kernel
theorem dX12_must_6 : decode cX12_must 6 = .ok (.ifCond .ne 7, 3) := by decide +kernel
theorem dX12_must_9 : decode cX12_must 9 = .ok (.iconst 1, 1) := by decide +kernel
theorem dX12_must_10 : decode cX12_must 10 = .ok (.goto 4, 3) := by decide +kernel
theorem dX12_must_13 : decode cX12_must 13 = .ok (.iconst 0, 1) := by decide +kernel
theorem dX12_must_14 : decode cX12_must 14 = .ok (.putfield 151, 3) := by decide +kernel
theorem dX12_must_17 : decode cX12_must 17 = .ok (.return_, 1) := by decide +kernel
theorem dX12_takes_0 : decode cX12_takes 0 = .ok (.aload_n 0, 1) := by decide +kernel
theorem dX12_takes_1 : decode cX12_takes 1 = .ok (.invokevirtual 158, 3) := by decide +kernel
theorem dX12_takes_4 : decode cX12_takes 4 = .ok (.iload_n 1, 1) := by decide +kernel
theorem dX12_takes_5 : decode cX12_takes 5 = .ok (.if_icmp .ne 7, 3) := by decide +kernel
theorem dX12_takes_8 : decode cX12_takes 8 = .ok (.iconst 1, 1) := by decide +kernel
theorem dX12_takes_9 : decode cX12_takes 9 = .ok (.goto 4, 3) := by decide +kernel
theorem dX12_takes_12 : decode cX12_takes 12 = .ok (.iconst 0, 1) := by decide +kernel
theorem dX12_takes_13 : decode cX12_takes 13 = .ok (.istore_n 2, 1) := by decide +kernel
theorem dX12_takes_14 : decode cX12_takes 14 = .ok (.aload_n 0, 1) := by decide +kernel
theorem dX12_takes_15 : decode cX12_takes 15 = .ok (.dup, 1) := by decide +kernel
theorem dX12_takes_16 : decode cX12_takes 16 = .ok (.getfield 155, 3) := by decide +kernel
theorem dX12_takes_19 : decode cX12_takes 19 = .ok (.iload_n 2, 1) := by decide +kernel
theorem dX12_takes_20 : decode cX12_takes 20 = .ok (.ifCond .eq 7, 3) := by decide +kernel
theorem dX12_takes_23 : decode cX12_takes 23 = .ok (.iconst 1, 1) := by decide +kernel
theorem dX12_takes_24 : decode cX12_takes 24 = .ok (.goto 4, 3) := by decide +kernel
theorem dX12_takes_27 : decode cX12_takes 27 = .ok (.iconst 0, 1) := by decide +kernel
theorem dX12_takes_28 : decode cX12_takes 28 = .ok (.iadd, 1) := by decide +kernel
theorem dX12_takes_29 : decode cX12_takes 29 = .ok (.putfield 155, 3) := by decide +kernel
theorem dX12_takes_32 : decode cX12_takes 32 = .ok (.iload_n 2, 1) := by decide +kernel
theorem dX12_takes_33 : decode cX12_takes 33 = .ok (.ireturn, 1) := by decide +kernel
