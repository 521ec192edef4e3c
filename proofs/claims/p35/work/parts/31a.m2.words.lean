/-! words of the tables that are used, by their places; decode rows; fields -/
theorem m_27 : Cond.selects yX12_in.cls yX12_in yX12_in ∈ BASE := bmem 27 (by decide +kernel) rfl
theorem m_28 : Cond.selects yX12_thing.cls yX12_thing yX12_thing ∈ BASE := bmem 28 (by decide +kernel) rfl
theorem m_29 : Cond.selects yX12_goer.cls yX12_goer yX12_goer ∈ BASE := bmem 29 (by decide +kernel) rfl
theorem m_1328 : Cond.fieldLink RX12 22 "ClickStreetModel" "EAST" "[I" ∈ BASE := bmem 1328 (by decide +kernel) rfl
theorem m_1329 : Cond.fieldLink RX12 25 "ClickStreetModel" "SOUTH" "[I" ∈ BASE := bmem 1329 (by decide +kernel) rfl
theorem m_1330 : Cond.fieldLink RX12 28 "ClickStreetModel" "unseen" "I" ∈ BASE := bmem 1330 (by decide +kernel) rfl
theorem m_1443 : Cond.methodLink RX12 96 yX12_in ∈ BASE := bmem 1443 (by decide +kernel) rfl
theorem m_1445 : Cond.instanceMethod yX12_in ∈ BASE := bmem 1445 (by decide +kernel) rfl
theorem m_1446 : Cond.code yX12_in cX12_in 3 (some .int) ∈ BASE := bmem 1446 (by decide +kernel) rfl
theorem m_1447 : Cond.methodLink RX12 89 yX12_thing ∈ BASE := bmem 1447 (by decide +kernel) rfl
theorem m_1449 : Cond.instanceMethod yX12_thing ∈ BASE := bmem 1449 (by decide +kernel) rfl
theorem m_1450 : Cond.code yX12_thing cX12_thing 2 (some .int) ∈ BASE := bmem 1450 (by decide +kernel) rfl
theorem m_1451 : Cond.methodLink RX12 93 yX12_goer ∈ BASE := bmem 1451 (by decide +kernel) rfl
theorem m_1453 : Cond.instanceMethod yX12_goer ∈ BASE := bmem 1453 (by decide +kernel) rfl
theorem m_1454 : Cond.code yX12_goer cX12_goer 2 (some .int) ∈ BASE := bmem 1454 (by decide +kernel) rfl
theorem kV_X12_goer : KV yX12_goer cX12_goer 2 (some .int) 1 := ⟨m_1453, m_29, m_92, m_1454, by decide +kernel, by decide +kernel, by decide +kernel⟩
theorem kV_X12_in : KV yX12_in cX12_in 3 (some .int) 1 := ⟨m_1445, m_27, m_92, m_1446, by decide +kernel, by decide +kernel, by decide +kernel⟩
theorem kV_X12_thing : KV yX12_thing cX12_thing 2 (some .int) 1 := ⟨m_1449, m_28, m_92, m_1450, by decide +kernel, by decide +kernel, by decide +kernel⟩
theorem fl_RX12_22 : FLK RX12 22 12 5 (.array .int) true := ⟨RX12, TX12, 33, tyX12, rfl, inB12, tyX12_ok, nmX12, by decide, rfl, rfl, Or.inl m_1328⟩
theorem fl_RX12_25 : FLK RX12 25 12 6 (.array .int) true := ⟨RX12, TX12, 33, tyX12, rfl, inB12, tyX12_ok, nmX12, by decide, rfl, rfl, Or.inl m_1329⟩
theorem fl_RX12_28 : FLK RX12 28 12 7 .int false := ⟨RX12, TX12, 33, tyX12, rfl, inB12, tyX12_ok, nmX12, by decide, rfl, rfl, Or.inl m_1330⟩
theorem dX12_become_0 : decode cX12_become 0 = .ok (.aload_n 0, 1) := by decide +kernel
theorem dX12_become_1 : decode cX12_become 1 = .ok (.getfield 9, 3) := by decide +kernel
theorem dX12_become_4 : decode cX12_become 4 = .ok (.iload_n 1, 1) := by decide +kernel
theorem dX12_become_5 : decode cX12_become 5 = .ok (.iaload, 1) := by decide +kernel
theorem dX12_become_6 : decode cX12_become 6 = .ok (.istore_n 3, 1) := by decide +kernel
theorem dX12_become_7 : decode cX12_become 7 = .ok (.aload_n 0, 1) := by decide +kernel
theorem dX12_become_8 : decode cX12_become 8 = .ok (.getfield 9, 3) := by decide +kernel
theorem dX12_become_11 : decode cX12_become 11 = .ok (.iload_n 1, 1) := by decide +kernel
theorem dX12_become_12 : decode cX12_become 12 = .ok (.iload_n 2, 1) := by decide +kernel
theorem dX12_become_13 : decode cX12_become 13 = .ok (.iastore, 1) := by decide +kernel
theorem dX12_become_14 : decode cX12_become 14 = .ok (.iload_n 3, 1) := by decide +kernel
theorem dX12_become_15 : decode cX12_become 15 = .ok (.ireturn, 1) := by decide +kernel
theorem ch_cX12_comes_0 : (cX12_comes.data.toList.drop 0).take 36 = [42, 180, 0, 9, 4, 46, 62, 42, 180, 0, 9, 42, 29, 182, 0, 89, 3, 96, 27, 79, 42, 180, 0, 9, 42, 29, 182, 0, 89, 4, 96, 28, 79, 42, 180, 0] := by decide +kernel
theorem dX12_comes_0 : decode cX12_comes 0 = .ok (.aload_n 0, 1) := do_42 (rdb (p := 0) (i := 0) ch_cX12_comes_0 rfl)
theorem dX12_comes_1 : decode cX12_comes 1 = .ok (.getfield 9, 3) := do_180 (rdb (p := 0) (i := 1) ch_cX12_comes_0 rfl) (rdb (p := 0) (i := 2) ch_cX12_comes_0 rfl) (rdb (p := 0) (i := 3) ch_cX12_comes_0 rfl) rfl
theorem dX12_comes_4 : decode cX12_comes 4 = .ok (.iconst 1, 1) := do_4 (rdb (p := 0) (i := 4) ch_cX12_comes_0 rfl)
theorem dX12_comes_5 : decode cX12_comes 5 = .ok (.iaload, 1) := do_46 (rdb (p := 0) (i := 5) ch_cX12_comes_0 rfl)
theorem dX12_comes_6 : decode cX12_comes 6 = .ok (.istore_n 3, 1) := do_62 (rdb (p := 0) (i := 6) ch_cX12_comes_0 rfl)
theorem dX12_comes_7 : decode cX12_comes 7 = .ok (.aload_n 0, 1) := do_42 (rdb (p := 0) (i := 7) ch_cX12_comes_0 rfl)
theorem dX12_comes_8 : decode cX12_comes 8 = .ok (.getfield 9, 3) := do_180 (rdb (p := 0) (i := 8) ch_cX12_comes_0 rfl) (rdb (p := 0) (i := 9) ch_cX12_comes_0 rfl) (rdb (p := 0) (i := 10) ch_cX12_comes_0 rfl) rfl
theorem dX12_comes_11 : decode cX12_comes 11 = .ok (.aload_n 0, 1) := do_42 (rdb (p := 0) (i := 11) ch_cX12_comes_0 rfl)
theorem dX12_comes_12 : decode cX12_comes 12 = .ok (.iload_n 3, 1) := do_29 (rdb (p := 0) (i := 12) ch_cX12_comes_0 rfl)
theorem dX12_comes_13 : decode cX12_comes 13 = .ok (.invokevirtual 89, 3) := do_182 (rdb (p := 0) (i := 13) ch_cX12_comes_0 rfl) (rdb (p := 0) (i := 14) ch_cX12_comes_0 rfl) (rdb (p := 0) (i := 15) ch_cX12_comes_0 rfl) rfl
theorem dX12_comes_16 : decode cX12_comes 16 = .ok (.iconst 0, 1) := do_3 (rdb (p := 0) (i := 16) ch_cX12_comes_0 rfl)
theorem dX12_comes_17 : decode cX12_comes 17 = .ok (.iadd, 1) := do_96 (rdb (p := 0) (i := 17) ch_cX12_comes_0 rfl)
theorem dX12_comes_18 : decode cX12_comes 18 = .ok (.iload_n 1, 1) := do_27 (rdb (p := 0) (i := 18) ch_cX12_comes_0 rfl)
theorem dX12_comes_19 : decode cX12_comes 19 = .ok (.iastore, 1) := do_79 (rdb (p := 0) (i := 19) ch_cX12_comes_0 rfl)
theorem dX12_comes_20 : decode cX12_comes 20 = .ok (.aload_n 0, 1) := do_42 (rdb (p := 0) (i := 20) ch_cX12_comes_0 rfl)
theorem dX12_comes_21 : decode cX12_comes 21 = .ok (.getfield 9, 3) := do_180 (rdb (p := 0) (i := 21) ch_cX12_comes_0 rfl) (rdb (p := 0) (i := 22) ch_cX12_comes_0 rfl) (rdb (p := 0) (i := 23) ch_cX12_comes_0 rfl) rfl
theorem dX12_comes_24 : decode cX12_comes 24 = .ok (.aload_n 0, 1) := do_42 (rdb (p := 0) (i := 24) ch_cX12_comes_0 rfl)
theorem dX12_comes_25 : decode cX12_comes 25 = .ok (.iload_n 3, 1) := do_29 (rdb (p := 0) (i := 25) ch_cX12_comes_0 rfl)
theorem dX12_comes_26 : decode cX12_comes 26 = .ok (.invokevirtual 89, 3) := do_182 (rdb (p := 0) (i := 26) ch_cX12_comes_0 rfl) (rdb (p := 0) (i := 27) ch_cX12_comes_0 rfl) (rdb (p := 0) (i := 28) ch_cX12_comes_0 rfl) rfl
theorem dX12_comes_29 : decode cX12_comes 29 = .ok (.iconst 1, 1) := do_4 (rdb (p := 0) (i := 29) ch_cX12_comes_0 rfl)
theorem dX12_comes_30 : decode cX12_comes 30 = .ok (.iadd, 1) := do_96 (rdb (p := 0) (i := 30) ch_cX12_comes_0 rfl)
theorem dX12_comes_31 : decode cX12_comes 31 = .ok (.iload_n 2, 1) := do_28 (rdb (p := 0) (i := 31) ch_cX12_comes_0 rfl)
theorem ch_cX12_comes_32 : (cX12_comes.data.toList.drop 32).take 36 = [79, 42, 180, 0, 9, 42, 29, 182, 0, 89, 5, 96, 3, 79, 42, 180, 0, 9, 42, 29, 182, 0, 89, 6, 96, 3, 79, 42, 180, 0, 9, 4, 92, 46, 4, 96] := by decide +kernel
theorem dX12_comes_32 : decode cX12_comes 32 = .ok (.iastore, 1) := do_79 (rdb (p := 32) (i := 0) ch_cX12_comes_32 rfl)
theorem dX12_comes_33 : decode cX12_comes 33 = .ok (.aload_n 0, 1) := do_42 (rdb (p := 32) (i := 1) ch_cX12_comes_32 rfl)
theorem dX12_comes_34 : decode cX12_comes 34 = .ok (.getfield 9, 3) := do_180 (rdb (p := 32) (i := 2) ch_cX12_comes_32 rfl) (rdb (p := 32) (i := 3) ch_cX12_comes_32 rfl) (rdb (p := 32) (i := 4) ch_cX12_comes_32 rfl) rfl
theorem dX12_comes_37 : decode cX12_comes 37 = .ok (.aload_n 0, 1) := do_42 (rdb (p := 32) (i := 5) ch_cX12_comes_32 rfl)
theorem dX12_comes_38 : decode cX12_comes 38 = .ok (.iload_n 3, 1) := do_29 (rdb (p := 32) (i := 6) ch_cX12_comes_32 rfl)
theorem dX12_comes_39 : decode cX12_comes 39 = .ok (.invokevirtual 89, 3) := do_182 (rdb (p := 32) (i := 7) ch_cX12_comes_32 rfl) (rdb (p := 32) (i := 8) ch_cX12_comes_32 rfl) (rdb (p := 32) (i := 9) ch_cX12_comes_32 rfl) rfl
theorem dX12_comes_42 : decode cX12_comes 42 = .ok (.iconst 2, 1) := do_5 (rdb (p := 32) (i := 10) ch_cX12_comes_32 rfl)
theorem dX12_comes_43 : decode cX12_comes 43 = .ok (.iadd, 1) := do_96 (rdb (p := 32) (i := 11) ch_cX12_comes_32 rfl)
theorem dX12_comes_44 : decode cX12_comes 44 = .ok (.iconst 0, 1) := do_3 (rdb (p := 32) (i := 12) ch_cX12_comes_32 rfl)
theorem dX12_comes_45 : decode cX12_comes 45 = .ok (.iastore, 1) := do_79 (rdb (p := 32) (i := 13) ch_cX12_comes_32 rfl)
theorem dX12_comes_46 : decode cX12_comes 46 = .ok (.aload_n 0, 1) := do_42 (rdb (p := 32) (i := 14) ch_cX12_comes_32 rfl)
theorem dX12_comes_47 : decode cX12_comes 47 = .ok (.getfield 9, 3) := do_180 (rdb (p := 32) (i := 15) ch_cX12_comes_32 rfl) (rdb (p := 32) (i := 16) ch_cX12_comes_32 rfl) (rdb (p := 32) (i := 17) ch_cX12_comes_32 rfl) rfl
theorem dX12_comes_50 : decode cX12_comes 50 = .ok (.aload_n 0, 1) := do_42 (rdb (p := 32) (i := 18) ch_cX12_comes_32 rfl)
theorem dX12_comes_51 : decode cX12_comes 51 = .ok (.iload_n 3, 1) := do_29 (rdb (p := 32) (i := 19) ch_cX12_comes_32 rfl)
theorem dX12_comes_52 : decode cX12_comes 52 = .ok (.invokevirtual 89, 3) := do_182 (rdb (p := 32) (i := 20) ch_cX12_comes_32 rfl) (rdb (p := 32) (i := 21) ch_cX12_comes_32 rfl) (rdb (p := 32) (i := 22) ch_cX12_comes_32 rfl) rfl
theorem dX12_comes_55 : decode cX12_comes 55 = .ok (.iconst 3, 1) := do_6 (rdb (p := 32) (i := 23) ch_cX12_comes_32 rfl)
theorem dX12_comes_56 : decode cX12_comes 56 = .ok (.iadd, 1) := do_96 (rdb (p := 32) (i := 24) ch_cX12_comes_32 rfl)
theorem dX12_comes_57 : decode cX12_comes 57 = .ok (.iconst 0, 1) := do_3 (rdb (p := 32) (i := 25) ch_cX12_comes_32 rfl)
theorem dX12_comes_58 : decode cX12_comes 58 = .ok (.iastore, 1) := do_79 (rdb (p := 32) (i := 26) ch_cX12_comes_32 rfl)
theorem dX12_comes_59 : decode cX12_comes 59 = .ok (.aload_n 0, 1) := do_42 (rdb (p := 32) (i := 27) ch_cX12_comes_32 rfl)
theorem dX12_comes_60 : decode cX12_comes 60 = .ok (.getfield 9, 3) := do_180 (rdb (p := 32) (i := 28) ch_cX12_comes_32 rfl) (rdb (p := 32) (i := 29) ch_cX12_comes_32 rfl) (rdb (p := 32) (i := 30) ch_cX12_comes_32 rfl) rfl
theorem dX12_comes_63 : decode cX12_comes 63 = .ok (.iconst 1, 1) := do_4 (rdb (p := 32) (i := 31) ch_cX12_comes_32 rfl)
theorem ch_cX12_comes_64 : (cX12_comes.data.toList.drop 64).take 36 = [92, 46, 4, 96, 79, 29, 172] := by decide +kernel
theorem dX12_comes_64 : decode cX12_comes 64 = .ok (.dup2, 1) := do_92 (rdb (p := 64) (i := 0) ch_cX12_comes_64 rfl)
theorem dX12_comes_65 : decode cX12_comes 65 = .ok (.iaload, 1) := do_46 (rdb (p := 64) (i := 1) ch_cX12_comes_64 rfl)
theorem dX12_comes_66 : decode cX12_comes 66 = .ok (.iconst 1, 1) := do_4 (rdb (p := 64) (i := 2) ch_cX12_comes_64 rfl)
theorem dX12_comes_67 : decode cX12_comes 67 = .ok (.iadd, 1) := do_96 (rdb (p := 64) (i := 3) ch_cX12_comes_64 rfl)
theorem dX12_comes_68 : decode cX12_comes 68 = .ok (.iastore, 1) := do_79 (rdb (p := 64) (i := 4) ch_cX12_comes_64 rfl)
theorem dX12_comes_69 : decode cX12_comes 69 = .ok (.iload_n 3, 1) := do_29 (rdb (p := 64) (i := 5) ch_cX12_comes_64 rfl)
theorem dX12_comes_70 : decode cX12_comes 70 = .ok (.ireturn, 1) := do_172 (rdb (p := 64) (i := 6) ch_cX12_comes_64 rfl)
theorem ch_cX12_in_0 : (cX12_in.data.toList.drop 0).take 36 = [3, 61, 28, 42, 180, 0, 9, 4, 46, 162, 0, 27, 42, 180, 0, 9, 42, 28, 182, 0, 89, 4, 96, 46, 27, 160, 0, 5, 28, 172, 132, 2, 1, 167, 255, 225] := by decide +kernel
theorem dX12_in_0 : decode cX12_in 0 = .ok (.iconst 0, 1) := do_3 (rdb (p := 0) (i := 0) ch_cX12_in_0 rfl)
theorem dX12_in_1 : decode cX12_in 1 = .ok (.istore_n 2, 1) := do_61 (rdb (p := 0) (i := 1) ch_cX12_in_0 rfl)
theorem dX12_in_2 : decode cX12_in 2 = .ok (.iload_n 2, 1) := do_28 (rdb (p := 0) (i := 2) ch_cX12_in_0 rfl)
theorem dX12_in_3 : decode cX12_in 3 = .ok (.aload_n 0, 1) := do_42 (rdb (p := 0) (i := 3) ch_cX12_in_0 rfl)
theorem dX12_in_4 : decode cX12_in 4 = .ok (.getfield 9, 3) := do_180 (rdb (p := 0) (i := 4) ch_cX12_in_0 rfl) (rdb (p := 0) (i := 5) ch_cX12_in_0 rfl) (rdb (p := 0) (i := 6) ch_cX12_in_0 rfl) rfl
theorem dX12_in_7 : decode cX12_in 7 = .ok (.iconst 1, 1) := do_4 (rdb (p := 0) (i := 7) ch_cX12_in_0 rfl)
theorem dX12_in_8 : decode cX12_in 8 = .ok (.iaload, 1) := do_46 (rdb (p := 0) (i := 8) ch_cX12_in_0 rfl)
theorem dX12_in_9 : decode cX12_in 9 = .ok (.if_icmp .ge 27, 3) := do_162 (rdb (p := 0) (i := 9) ch_cX12_in_0 rfl) (rdb (p := 0) (i := 10) ch_cX12_in_0 rfl) (rdb (p := 0) (i := 11) ch_cX12_in_0 rfl) (by decide +kernel)
theorem dX12_in_12 : decode cX12_in 12 = .ok (.aload_n 0, 1) := do_42 (rdb (p := 0) (i := 12) ch_cX12_in_0 rfl)
theorem dX12_in_13 : decode cX12_in 13 = .ok (.getfield 9, 3) := do_180 (rdb (p := 0) (i := 13) ch_cX12_in_0 rfl) (rdb (p := 0) (i := 14) ch_cX12_in_0 rfl) (rdb (p := 0) (i := 15) ch_cX12_in_0 rfl) rfl
theorem dX12_in_16 : decode cX12_in 16 = .ok (.aload_n 0, 1) := do_42 (rdb (p := 0) (i := 16) ch_cX12_in_0 rfl)
theorem dX12_in_17 : decode cX12_in 17 = .ok (.iload_n 2, 1) := do_28 (rdb (p := 0) (i := 17) ch_cX12_in_0 rfl)
theorem dX12_in_18 : decode cX12_in 18 = .ok (.invokevirtual 89, 3) := do_182 (rdb (p := 0) (i := 18) ch_cX12_in_0 rfl) (rdb (p := 0) (i := 19) ch_cX12_in_0 rfl) (rdb (p := 0) (i := 20) ch_cX12_in_0 rfl) rfl
theorem dX12_in_21 : decode cX12_in 21 = .ok (.iconst 1, 1) := do_4 (rdb (p := 0) (i := 21) ch_cX12_in_0 rfl)
theorem dX12_in_22 : decode cX12_in 22 = .ok (.iadd, 1) := do_96 (rdb (p := 0) (i := 22) ch_cX12_in_0 rfl)
theorem dX12_in_23 : decode cX12_in 23 = .ok (.iaload, 1) := do_46 (rdb (p := 0) (i := 23) ch_cX12_in_0 rfl)
theorem dX12_in_24 : decode cX12_in 24 = .ok (.iload_n 1, 1) := do_27 (rdb (p := 0) (i := 24) ch_cX12_in_0 rfl)
theorem dX12_in_25 : decode cX12_in 25 = .ok (.if_icmp .ne 5, 3) := do_160 (rdb (p := 0) (i := 25) ch_cX12_in_0 rfl) (rdb (p := 0) (i := 26) ch_cX12_in_0 rfl) (rdb (p := 0) (i := 27) ch_cX12_in_0 rfl) (by decide +kernel)
theorem dX12_in_28 : decode cX12_in 28 = .ok (.iload_n 2, 1) := do_28 (rdb (p := 0) (i := 28) ch_cX12_in_0 rfl)
theorem dX12_in_29 : decode cX12_in 29 = .ok (.ireturn, 1) := do_172 (rdb (p := 0) (i := 29) ch_cX12_in_0 rfl)
theorem dX12_in_30 : decode cX12_in 30 = .ok (.iinc 2 1, 3) := do_132 (rdb (p := 0) (i := 30) ch_cX12_in_0 rfl) (rdb (p := 0) (i := 31) ch_cX12_in_0 rfl) (rdb (p := 0) (i := 32) ch_cX12_in_0 rfl) (by decide +kernel)
theorem ch_cX12_in_32 : (cX12_in.data.toList.drop 32).take 36 = [1, 167, 255, 225, 3, 61, 28, 42, 180, 0, 9, 5, 46, 162, 0, 38, 42, 180, 0, 9, 42, 28, 182, 0, 93, 4, 96, 46, 27, 160, 0, 16, 28, 42, 180, 0] := by decide +kernel
theorem dX12_in_33 : decode cX12_in 33 = .ok (.goto (-31), 3) := do_167 (rdb (p := 32) (i := 1) ch_cX12_in_32 rfl) (rdb (p := 32) (i := 2) ch_cX12_in_32 rfl) (rdb (p := 32) (i := 3) ch_cX12_in_32 rfl) (by decide +kernel)
theorem dX12_in_36 : decode cX12_in 36 = .ok (.iconst 0, 1) := do_3 (rdb (p := 32) (i := 4) ch_cX12_in_32 rfl)
theorem dX12_in_37 : decode cX12_in 37 = .ok (.istore_n 2, 1) := do_61 (rdb (p := 32) (i := 5) ch_cX12_in_32 rfl)
theorem dX12_in_38 : decode cX12_in 38 = .ok (.iload_n 2, 1) := do_28 (rdb (p := 32) (i := 6) ch_cX12_in_32 rfl)
theorem dX12_in_39 : decode cX12_in 39 = .ok (.aload_n 0, 1) := do_42 (rdb (p := 32) (i := 7) ch_cX12_in_32 rfl)
theorem dX12_in_40 : decode cX12_in 40 = .ok (.getfield 9, 3) := do_180 (rdb (p := 32) (i := 8) ch_cX12_in_32 rfl) (rdb (p := 32) (i := 9) ch_cX12_in_32 rfl) (rdb (p := 32) (i := 10) ch_cX12_in_32 rfl) rfl
theorem dX12_in_43 : decode cX12_in 43 = .ok (.iconst 2, 1) := do_5 (rdb (p := 32) (i := 11) ch_cX12_in_32 rfl)
theorem dX12_in_44 : decode cX12_in 44 = .ok (.iaload, 1) := do_46 (rdb (p := 32) (i := 12) ch_cX12_in_32 rfl)
theorem dX12_in_45 : decode cX12_in 45 = .ok (.if_icmp .ge 38, 3) := do_162 (rdb (p := 32) (i := 13) ch_cX12_in_32 rfl) (rdb (p := 32) (i := 14) ch_cX12_in_32 rfl) (rdb (p := 32) (i := 15) ch_cX12_in_32 rfl) (by decide +kernel)
theorem dX12_in_48 : decode cX12_in 48 = .ok (.aload_n 0, 1) := do_42 (rdb (p := 32) (i := 16) ch_cX12_in_32 rfl)
theorem dX12_in_49 : decode cX12_in 49 = .ok (.getfield 9, 3) := do_180 (rdb (p := 32) (i := 17) ch_cX12_in_32 rfl) (rdb (p := 32) (i := 18) ch_cX12_in_32 rfl) (rdb (p := 32) (i := 19) ch_cX12_in_32 rfl) rfl
theorem dX12_in_52 : decode cX12_in 52 = .ok (.aload_n 0, 1) := do_42 (rdb (p := 32) (i := 20) ch_cX12_in_32 rfl)
theorem dX12_in_53 : decode cX12_in 53 = .ok (.iload_n 2, 1) := do_28 (rdb (p := 32) (i := 21) ch_cX12_in_32 rfl)
theorem dX12_in_54 : decode cX12_in 54 = .ok (.invokevirtual 93, 3) := do_182 (rdb (p := 32) (i := 22) ch_cX12_in_32 rfl) (rdb (p := 32) (i := 23) ch_cX12_in_32 rfl) (rdb (p := 32) (i := 24) ch_cX12_in_32 rfl) rfl
theorem dX12_in_57 : decode cX12_in 57 = .ok (.iconst 1, 1) := do_4 (rdb (p := 32) (i := 25) ch_cX12_in_32 rfl)
theorem dX12_in_58 : decode cX12_in 58 = .ok (.iadd, 1) := do_96 (rdb (p := 32) (i := 26) ch_cX12_in_32 rfl)
theorem dX12_in_59 : decode cX12_in 59 = .ok (.iaload, 1) := do_46 (rdb (p := 32) (i := 27) ch_cX12_in_32 rfl)
theorem dX12_in_60 : decode cX12_in 60 = .ok (.iload_n 1, 1) := do_27 (rdb (p := 32) (i := 28) ch_cX12_in_32 rfl)
theorem dX12_in_61 : decode cX12_in 61 = .ok (.if_icmp .ne 16, 3) := do_160 (rdb (p := 32) (i := 29) ch_cX12_in_32 rfl) (rdb (p := 32) (i := 30) ch_cX12_in_32 rfl) (rdb (p := 32) (i := 31) ch_cX12_in_32 rfl) (by decide +kernel)
theorem ch_cX12_in_64 : (cX12_in.data.toList.drop 64).take 36 = [28, 42, 180, 0, 28, 159, 0, 8, 16, 100, 28, 96, 172, 132, 2, 1, 167, 255, 214, 2, 172] := by decide +kernel
theorem dX12_in_64 : decode cX12_in 64 = .ok (.iload_n 2, 1) := do_28 (rdb (p := 64) (i := 0) ch_cX12_in_64 rfl)
theorem dX12_in_65 : decode cX12_in 65 = .ok (.aload_n 0, 1) := do_42 (rdb (p := 64) (i := 1) ch_cX12_in_64 rfl)
theorem dX12_in_66 : decode cX12_in 66 = .ok (.getfield 28, 3) := do_180 (rdb (p := 64) (i := 2) ch_cX12_in_64 rfl) (rdb (p := 64) (i := 3) ch_cX12_in_64 rfl) (rdb (p := 64) (i := 4) ch_cX12_in_64 rfl) rfl
theorem dX12_in_69 : decode cX12_in 69 = .ok (.if_icmp .eq 8, 3) := do_159 (rdb (p := 64) (i := 5) ch_cX12_in_64 rfl) (rdb (p := 64) (i := 6) ch_cX12_in_64 rfl) (rdb (p := 64) (i := 7) ch_cX12_in_64 rfl) (by decide +kernel)
theorem dX12_in_72 : decode cX12_in 72 = .ok (.bipush 100, 2) := do_16 (rdb (p := 64) (i := 8) ch_cX12_in_64 rfl) (rdb (p := 64) (i := 9) ch_cX12_in_64 rfl) (by decide +kernel)
theorem dX12_in_74 : decode cX12_in 74 = .ok (.iload_n 2, 1) := do_28 (rdb (p := 64) (i := 10) ch_cX12_in_64 rfl)
theorem dX12_in_75 : decode cX12_in 75 = .ok (.iadd, 1) := do_96 (rdb (p := 64) (i := 11) ch_cX12_in_64 rfl)
theorem dX12_in_76 : decode cX12_in 76 = .ok (.ireturn, 1) := do_172 (rdb (p := 64) (i := 12) ch_cX12_in_64 rfl)
theorem dX12_in_77 : decode cX12_in 77 = .ok (.iinc 2 1, 3) := do_132 (rdb (p := 64) (i := 13) ch_cX12_in_64 rfl) (rdb (p := 64) (i := 14) ch_cX12_in_64 rfl) (rdb (p := 64) (i := 15) ch_cX12_in_64 rfl) (by decide +kernel)
theorem dX12_in_80 : decode cX12_in 80 = .ok (.goto (-42), 3) := do_167 (rdb (p := 64) (i := 16) ch_cX12_in_64 rfl) (rdb (p := 64) (i := 17) ch_cX12_in_64 rfl) (rdb (p := 64) (i := 18) ch_cX12_in_64 rfl) (by decide +kernel)
theorem dX12_in_83 : decode cX12_in 83 = .ok (.iconst (-1), 1) := do_2 (rdb (p := 64) (i := 19) ch_cX12_in_64 rfl)
theorem dX12_in_84 : decode cX12_in 84 = .ok (.ireturn, 1) := do_172 (rdb (p := 64) (i := 20) ch_cX12_in_64 rfl)
theorem dX12_isFree_0 : decode cX12_isFree 0 = .ok (.aload_n 0, 1) := by decide +kernel
theorem dX12_isFree_1 : decode cX12_isFree 1 = .ok (.iload_n 1, 1) := by decide +kernel
theorem dX12_isFree_2 : decode cX12_isFree 2 = .ok (.invokevirtual 96, 3) := by decide +kernel
theorem dX12_isFree_5 : decode cX12_isFree 5 = .ok (.ifCond .ge 7, 3) := by decide +kernel
theorem dX12_isFree_8 : decode cX12_isFree 8 = .ok (.iconst 1, 1) := by decide +kernel
theorem dX12_isFree_9 : decode cX12_isFree 9 = .ok (.goto 4, 3) := by decide +kernel
theorem dX12_isFree_12 : decode cX12_isFree 12 = .ok (.iconst 0, 1) := by decide +kernel
theorem dX12_isFree_13 : decode cX12_isFree 13 = .ok (.ireturn, 1) := by decide +kernel
theorem ch_cX12_on_0 : (cX12_on.data.toList.drop 0).take 36 = [27, 16, 16, 112, 29, 42, 180, 0, 22, 28, 46, 104, 96, 54, 4, 27, 16, 16, 108, 29, 42, 180, 0, 25, 28, 46, 104, 96, 54, 5, 21, 4, 3, 16, 15, 184] := by decide +kernel
theorem dX12_on_0 : decode cX12_on 0 = .ok (.iload_n 1, 1) := do_27 (rdb (p := 0) (i := 0) ch_cX12_on_0 rfl)
theorem dX12_on_1 : decode cX12_on 1 = .ok (.bipush 16, 2) := do_16 (rdb (p := 0) (i := 1) ch_cX12_on_0 rfl) (rdb (p := 0) (i := 2) ch_cX12_on_0 rfl) (by decide +kernel)
theorem dX12_on_3 : decode cX12_on 3 = .ok (.irem, 1) := do_112 (rdb (p := 0) (i := 3) ch_cX12_on_0 rfl)
theorem dX12_on_4 : decode cX12_on 4 = .ok (.iload_n 3, 1) := do_29 (rdb (p := 0) (i := 4) ch_cX12_on_0 rfl)
theorem dX12_on_5 : decode cX12_on 5 = .ok (.aload_n 0, 1) := do_42 (rdb (p := 0) (i := 5) ch_cX12_on_0 rfl)
theorem dX12_on_6 : decode cX12_on 6 = .ok (.getfield 22, 3) := do_180 (rdb (p := 0) (i := 6) ch_cX12_on_0 rfl) (rdb (p := 0) (i := 7) ch_cX12_on_0 rfl) (rdb (p := 0) (i := 8) ch_cX12_on_0 rfl) rfl
theorem dX12_on_9 : decode cX12_on 9 = .ok (.iload_n 2, 1) := do_28 (rdb (p := 0) (i := 9) ch_cX12_on_0 rfl)
theorem dX12_on_10 : decode cX12_on 10 = .ok (.iaload, 1) := do_46 (rdb (p := 0) (i := 10) ch_cX12_on_0 rfl)
theorem dX12_on_11 : decode cX12_on 11 = .ok (.imul, 1) := do_104 (rdb (p := 0) (i := 11) ch_cX12_on_0 rfl)
theorem dX12_on_12 : decode cX12_on 12 = .ok (.iadd, 1) := do_96 (rdb (p := 0) (i := 12) ch_cX12_on_0 rfl)
theorem dX12_on_13 : decode cX12_on 13 = .ok (.istore 4, 2) := do_54 (rdb (p := 0) (i := 13) ch_cX12_on_0 rfl) (rdb (p := 0) (i := 14) ch_cX12_on_0 rfl)
theorem dX12_on_15 : decode cX12_on 15 = .ok (.iload_n 1, 1) := do_27 (rdb (p := 0) (i := 15) ch_cX12_on_0 rfl)
theorem dX12_on_16 : decode cX12_on 16 = .ok (.bipush 16, 2) := do_16 (rdb (p := 0) (i := 16) ch_cX12_on_0 rfl) (rdb (p := 0) (i := 17) ch_cX12_on_0 rfl) (by decide +kernel)
theorem dX12_on_18 : decode cX12_on 18 = .ok (.idiv, 1) := do_108 (rdb (p := 0) (i := 18) ch_cX12_on_0 rfl)
theorem dX12_on_19 : decode cX12_on 19 = .ok (.iload_n 3, 1) := do_29 (rdb (p := 0) (i := 19) ch_cX12_on_0 rfl)
theorem dX12_on_20 : decode cX12_on 20 = .ok (.aload_n 0, 1) := do_42 (rdb (p := 0) (i := 20) ch_cX12_on_0 rfl)
theorem dX12_on_21 : decode cX12_on 21 = .ok (.getfield 25, 3) := do_180 (rdb (p := 0) (i := 21) ch_cX12_on_0 rfl) (rdb (p := 0) (i := 22) ch_cX12_on_0 rfl) (rdb (p := 0) (i := 23) ch_cX12_on_0 rfl) rfl
theorem dX12_on_24 : decode cX12_on 24 = .ok (.iload_n 2, 1) := do_28 (rdb (p := 0) (i := 24) ch_cX12_on_0 rfl)
theorem dX12_on_25 : decode cX12_on 25 = .ok (.iaload, 1) := do_46 (rdb (p := 0) (i := 25) ch_cX12_on_0 rfl)
theorem dX12_on_26 : decode cX12_on 26 = .ok (.imul, 1) := do_104 (rdb (p := 0) (i := 26) ch_cX12_on_0 rfl)
theorem dX12_on_27 : decode cX12_on 27 = .ok (.iadd, 1) := do_96 (rdb (p := 0) (i := 27) ch_cX12_on_0 rfl)
theorem dX12_on_28 : decode cX12_on 28 = .ok (.istore 5, 2) := do_54 (rdb (p := 0) (i := 28) ch_cX12_on_0 rfl) (rdb (p := 0) (i := 29) ch_cX12_on_0 rfl)
theorem dX12_on_30 : decode cX12_on 30 = .ok (.iload 4, 2) := do_21 (rdb (p := 0) (i := 30) ch_cX12_on_0 rfl) (rdb (p := 0) (i := 31) ch_cX12_on_0 rfl)
theorem ch_cX12_on_32 : (cX12_on.data.toList.drop 32).take 36 = [3, 16, 15, 184, 0, 85, 153, 0, 25, 21, 5, 3, 16, 11, 184, 0, 85, 153, 0, 14, 16, 16, 21, 5, 104, 21, 4, 96, 167, 0, 4, 2, 172] := by decide +kernel
theorem dX12_on_32 : decode cX12_on 32 = .ok (.iconst 0, 1) := do_3 (rdb (p := 32) (i := 0) ch_cX12_on_32 rfl)
theorem dX12_on_33 : decode cX12_on 33 = .ok (.bipush 15, 2) := do_16 (rdb (p := 32) (i := 1) ch_cX12_on_32 rfl) (rdb (p := 32) (i := 2) ch_cX12_on_32 rfl) (by decide +kernel)
theorem dX12_on_35 : decode cX12_on 35 = .ok (.invokestatic 85, 3) := do_184 (rdb (p := 32) (i := 3) ch_cX12_on_32 rfl) (rdb (p := 32) (i := 4) ch_cX12_on_32 rfl) (rdb (p := 32) (i := 5) ch_cX12_on_32 rfl) rfl
theorem dX12_on_38 : decode cX12_on 38 = .ok (.ifCond .eq 25, 3) := do_153 (rdb (p := 32) (i := 6) ch_cX12_on_32 rfl) (rdb (p := 32) (i := 7) ch_cX12_on_32 rfl) (rdb (p := 32) (i := 8) ch_cX12_on_32 rfl) (by decide +kernel)
theorem dX12_on_41 : decode cX12_on 41 = .ok (.iload 5, 2) := do_21 (rdb (p := 32) (i := 9) ch_cX12_on_32 rfl) (rdb (p := 32) (i := 10) ch_cX12_on_32 rfl)
theorem dX12_on_43 : decode cX12_on 43 = .ok (.iconst 0, 1) := do_3 (rdb (p := 32) (i := 11) ch_cX12_on_32 rfl)
theorem dX12_on_44 : decode cX12_on 44 = .ok (.bipush 11, 2) := do_16 (rdb (p := 32) (i := 12) ch_cX12_on_32 rfl) (rdb (p := 32) (i := 13) ch_cX12_on_32 rfl) (by decide +kernel)
theorem dX12_on_46 : decode cX12_on 46 = .ok (.invokestatic 85, 3) := do_184 (rdb (p := 32) (i := 14) ch_cX12_on_32 rfl) (rdb (p := 32) (i := 15) ch_cX12_on_32 rfl) (rdb (p := 32) (i := 16) ch_cX12_on_32 rfl) rfl
theorem dX12_on_49 : decode cX12_on 49 = .ok (.ifCond .eq 14, 3) := do_153 (rdb (p := 32) (i := 17) ch_cX12_on_32 rfl) (rdb (p := 32) (i := 18) ch_cX12_on_32 rfl) (rdb (p := 32) (i := 19) ch_cX12_on_32 rfl) (by decide +kernel)
theorem dX12_on_52 : decode cX12_on 52 = .ok (.bipush 16, 2) := do_16 (rdb (p := 32) (i := 20) ch_cX12_on_32 rfl) (rdb (p := 32) (i := 21) ch_cX12_on_32 rfl) (by decide +kernel)
theorem dX12_on_54 : decode cX12_on 54 = .ok (.iload 5, 2) := do_21 (rdb (p := 32) (i := 22) ch_cX12_on_32 rfl) (rdb (p := 32) (i := 23) ch_cX12_on_32 rfl)
theorem dX12_on_56 : decode cX12_on 56 = .ok (.imul, 1) := do_104 (rdb (p := 32) (i := 24) ch_cX12_on_32 rfl)
theorem dX12_on_57 : decode cX12_on 57 = .ok (.iload 4, 2) := do_21 (rdb (p := 32) (i := 25) ch_cX12_on_32 rfl) (rdb (p := 32) (i := 26) ch_cX12_on_32 rfl)
theorem dX12_on_59 : decode cX12_on 59 = .ok (.iadd, 1) := do_96 (rdb (p := 32) (i := 27) ch_cX12_on_32 rfl)
theorem dX12_on_60 : decode cX12_on 60 = .ok (.goto 4, 3) := do_167 (rdb (p := 32) (i := 28) ch_cX12_on_32 rfl) (rdb (p := 32) (i := 29) ch_cX12_on_32 rfl) (rdb (p := 32) (i := 30) ch_cX12_on_32 rfl) (by decide +kernel)
theorem dX12_on_63 : decode cX12_on 63 = .ok (.iconst (-1), 1) := do_2 (rdb (p := 32) (i := 31) ch_cX12_on_32 rfl)
theorem ch_cX12_on_64 : (cX12_on.data.toList.drop 64).take 36 = [172] := by decide +kernel
theorem dX12_on_64 : decode cX12_on 64 = .ok (.ireturn, 1) := do_172 (rdb (p := 64) (i := 0) ch_cX12_on_64 rfl)
