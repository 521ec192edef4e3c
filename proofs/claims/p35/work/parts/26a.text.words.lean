/-! words of the tables that are used, by their places; decode rows; fields -/
theorem m_464 : Cond.fieldLink RX11 35 "ClickStreet" "reader" "LClickStreet$Reader;" ∈ BASE := bmem 464 (by decide +kernel) rfl
theorem m_681 : Cond.methodLink RX11 206 yX4_read ∈ BASE := bmem 681 (by decide +kernel) rfl
theorem m_682 : Cond.instanceMethod yX4_read ∈ BASE := bmem 682 (by decide +kernel) rfl
theorem m_683 : Cond.selects yX4_read.cls yX4_read yX4_read ∈ BASE := bmem 683 (by decide +kernel) rfl
theorem m_684 : Cond.code yX4_read cX4_read 3 (some .int) ∈ BASE := bmem 684 (by decide +kernel) rfl
theorem m_688 : Cond.methodLink RX4 52 yX1_clear ∈ BASE := bmem 688 (by decide +kernel) rfl
theorem m_689 : Cond.instanceMethod yX1_clear ∈ BASE := bmem 689 (by decide +kernel) rfl
theorem m_690 : Cond.selects yX1_clear.cls yX1_clear yX1_clear ∈ BASE := bmem 690 (by decide +kernel) rfl
theorem m_691 : Cond.code yX1_clear cX1_clear 1 none ∈ BASE := bmem 691 (by decide +kernel) rfl
theorem m_824 : Cond.methodLink RX11 218 yX1_takeFrom ∈ BASE := bmem 824 (by decide +kernel) rfl
theorem kV_X1_clear : KV yX1_clear cX1_clear 1 none 0 := ⟨m_689, m_690, m_83, m_691, by decide +kernel, by decide +kernel, by decide +kernel⟩
theorem kV_X4_read : KV yX4_read cX4_read 3 (some .int) 2 := ⟨m_682, m_683, m_88, m_684, by decide +kernel, by decide +kernel, by decide +kernel⟩
theorem fl_RX11_210 : FLK RX11 210 2 5 (.array (.object "ClickStreet$Formula")) true := ⟨RX2, TX2, 7, tyX2, rfl, inB2, tyX2_ok, nmX2, by decide, rfl, rfl, Or.inr ⟨"ClickStreet", List.mem_of_getElem? (l := NFs) (i := 6) rfl⟩⟩
theorem fl_RX11_214 : FLK RX11 214 4 0 (.object "ClickStreet$Formula") true := ⟨RX4, TX4, 7, tyX4, rfl, inB4, tyX4_ok, nmX4, by decide, rfl, rfl, Or.inr ⟨"ClickStreet", List.mem_of_getElem? (l := NFs) (i := 41) rfl⟩⟩
theorem fl_RX11_35 : FLK RX11 35 11 5 (.object "ClickStreet$Reader") true := ⟨RX11, TX11, 9, tyX11, rfl, inB11, tyX11_ok, nmX11, by decide, rfl, rfl, Or.inl m_464⟩
theorem ch_cX11_text_0 : (cX11_text.data.toList.drop 0).take 36 = [27, 3, 5, 184, 0, 89, 154, 0, 9, 42, 4, 182, 0, 67, 172, 42, 180, 0, 35, 42, 180, 0, 10, 180, 0, 192, 27, 182, 0, 206, 61, 28, 155, 0, 25, 42] := by decide +kernel
theorem dX11_text_0 : decode cX11_text 0 = .ok (.iload_n 1, 1) := do_27 (rdb (p := 0) (i := 0) ch_cX11_text_0 rfl)
theorem dX11_text_1 : decode cX11_text 1 = .ok (.iconst 0, 1) := do_3 (rdb (p := 0) (i := 1) ch_cX11_text_0 rfl)
theorem dX11_text_2 : decode cX11_text 2 = .ok (.iconst 2, 1) := do_5 (rdb (p := 0) (i := 2) ch_cX11_text_0 rfl)
theorem dX11_text_3 : decode cX11_text 3 = .ok (.invokestatic 89, 3) := do_184 (rdb (p := 0) (i := 3) ch_cX11_text_0 rfl) (rdb (p := 0) (i := 4) ch_cX11_text_0 rfl) (rdb (p := 0) (i := 5) ch_cX11_text_0 rfl) rfl
theorem dX11_text_6 : decode cX11_text 6 = .ok (.ifCond .ne 9, 3) := do_154 (rdb (p := 0) (i := 6) ch_cX11_text_0 rfl) (rdb (p := 0) (i := 7) ch_cX11_text_0 rfl) (rdb (p := 0) (i := 8) ch_cX11_text_0 rfl) (by decide +kernel)
theorem dX11_text_9 : decode cX11_text 9 = .ok (.aload_n 0, 1) := do_42 (rdb (p := 0) (i := 9) ch_cX11_text_0 rfl)
theorem dX11_text_10 : decode cX11_text 10 = .ok (.iconst 1, 1) := do_4 (rdb (p := 0) (i := 10) ch_cX11_text_0 rfl)
theorem dX11_text_11 : decode cX11_text 11 = .ok (.invokevirtual 67, 3) := do_182 (rdb (p := 0) (i := 11) ch_cX11_text_0 rfl) (rdb (p := 0) (i := 12) ch_cX11_text_0 rfl) (rdb (p := 0) (i := 13) ch_cX11_text_0 rfl) rfl
theorem dX11_text_14 : decode cX11_text 14 = .ok (.ireturn, 1) := do_172 (rdb (p := 0) (i := 14) ch_cX11_text_0 rfl)
theorem dX11_text_15 : decode cX11_text 15 = .ok (.aload_n 0, 1) := do_42 (rdb (p := 0) (i := 15) ch_cX11_text_0 rfl)
theorem dX11_text_16 : decode cX11_text 16 = .ok (.getfield 35, 3) := do_180 (rdb (p := 0) (i := 16) ch_cX11_text_0 rfl) (rdb (p := 0) (i := 17) ch_cX11_text_0 rfl) (rdb (p := 0) (i := 18) ch_cX11_text_0 rfl) rfl
theorem dX11_text_19 : decode cX11_text 19 = .ok (.aload_n 0, 1) := do_42 (rdb (p := 0) (i := 19) ch_cX11_text_0 rfl)
theorem dX11_text_20 : decode cX11_text 20 = .ok (.getfield 10, 3) := do_180 (rdb (p := 0) (i := 20) ch_cX11_text_0 rfl) (rdb (p := 0) (i := 21) ch_cX11_text_0 rfl) (rdb (p := 0) (i := 22) ch_cX11_text_0 rfl) rfl
theorem dX11_text_23 : decode cX11_text 23 = .ok (.getfield 192, 3) := do_180 (rdb (p := 0) (i := 23) ch_cX11_text_0 rfl) (rdb (p := 0) (i := 24) ch_cX11_text_0 rfl) (rdb (p := 0) (i := 25) ch_cX11_text_0 rfl) rfl
theorem dX11_text_26 : decode cX11_text 26 = .ok (.iload_n 1, 1) := do_27 (rdb (p := 0) (i := 26) ch_cX11_text_0 rfl)
theorem dX11_text_27 : decode cX11_text 27 = .ok (.invokevirtual 206, 3) := do_182 (rdb (p := 0) (i := 27) ch_cX11_text_0 rfl) (rdb (p := 0) (i := 28) ch_cX11_text_0 rfl) (rdb (p := 0) (i := 29) ch_cX11_text_0 rfl) rfl
theorem dX11_text_30 : decode cX11_text 30 = .ok (.istore_n 2, 1) := do_61 (rdb (p := 0) (i := 30) ch_cX11_text_0 rfl)
theorem dX11_text_31 : decode cX11_text 31 = .ok (.iload_n 2, 1) := do_28 (rdb (p := 0) (i := 31) ch_cX11_text_0 rfl)
theorem ch_cX11_text_32 : (cX11_text.data.toList.drop 32).take 36 = [155, 0, 25, 42, 180, 0, 10, 180, 0, 114, 180, 0, 210, 27, 50, 42, 180, 0, 35, 180, 0, 214, 182, 0, 218, 42, 180, 0, 10, 180, 0, 192, 182, 0, 224, 28] := by decide +kernel
theorem dX11_text_32 : decode cX11_text 32 = .ok (.ifCond .lt 25, 3) := do_155 (rdb (p := 32) (i := 0) ch_cX11_text_32 rfl) (rdb (p := 32) (i := 1) ch_cX11_text_32 rfl) (rdb (p := 32) (i := 2) ch_cX11_text_32 rfl) (by decide +kernel)
theorem dX11_text_35 : decode cX11_text 35 = .ok (.aload_n 0, 1) := do_42 (rdb (p := 32) (i := 3) ch_cX11_text_32 rfl)
theorem dX11_text_36 : decode cX11_text 36 = .ok (.getfield 10, 3) := do_180 (rdb (p := 32) (i := 4) ch_cX11_text_32 rfl) (rdb (p := 32) (i := 5) ch_cX11_text_32 rfl) (rdb (p := 32) (i := 6) ch_cX11_text_32 rfl) rfl
theorem dX11_text_39 : decode cX11_text 39 = .ok (.getfield 114, 3) := do_180 (rdb (p := 32) (i := 7) ch_cX11_text_32 rfl) (rdb (p := 32) (i := 8) ch_cX11_text_32 rfl) (rdb (p := 32) (i := 9) ch_cX11_text_32 rfl) rfl
theorem dX11_text_42 : decode cX11_text 42 = .ok (.getfield 210, 3) := do_180 (rdb (p := 32) (i := 10) ch_cX11_text_32 rfl) (rdb (p := 32) (i := 11) ch_cX11_text_32 rfl) (rdb (p := 32) (i := 12) ch_cX11_text_32 rfl) rfl
theorem dX11_text_45 : decode cX11_text 45 = .ok (.iload_n 1, 1) := do_27 (rdb (p := 32) (i := 13) ch_cX11_text_32 rfl)
theorem dX11_text_46 : decode cX11_text 46 = .ok (.aaload, 1) := do_50 (rdb (p := 32) (i := 14) ch_cX11_text_32 rfl)
theorem dX11_text_47 : decode cX11_text 47 = .ok (.aload_n 0, 1) := do_42 (rdb (p := 32) (i := 15) ch_cX11_text_32 rfl)
theorem dX11_text_48 : decode cX11_text 48 = .ok (.getfield 35, 3) := do_180 (rdb (p := 32) (i := 16) ch_cX11_text_32 rfl) (rdb (p := 32) (i := 17) ch_cX11_text_32 rfl) (rdb (p := 32) (i := 18) ch_cX11_text_32 rfl) rfl
theorem dX11_text_51 : decode cX11_text 51 = .ok (.getfield 214, 3) := do_180 (rdb (p := 32) (i := 19) ch_cX11_text_32 rfl) (rdb (p := 32) (i := 20) ch_cX11_text_32 rfl) (rdb (p := 32) (i := 21) ch_cX11_text_32 rfl) rfl
theorem dX11_text_54 : decode cX11_text 54 = .ok (.invokevirtual 218, 3) := do_182 (rdb (p := 32) (i := 22) ch_cX11_text_32 rfl) (rdb (p := 32) (i := 23) ch_cX11_text_32 rfl) (rdb (p := 32) (i := 24) ch_cX11_text_32 rfl) rfl
theorem dX11_text_57 : decode cX11_text 57 = .ok (.aload_n 0, 1) := do_42 (rdb (p := 32) (i := 25) ch_cX11_text_32 rfl)
theorem dX11_text_58 : decode cX11_text 58 = .ok (.getfield 10, 3) := do_180 (rdb (p := 32) (i := 26) ch_cX11_text_32 rfl) (rdb (p := 32) (i := 27) ch_cX11_text_32 rfl) (rdb (p := 32) (i := 28) ch_cX11_text_32 rfl) rfl
theorem dX11_text_61 : decode cX11_text 61 = .ok (.getfield 192, 3) := do_180 (rdb (p := 32) (i := 29) ch_cX11_text_32 rfl) (rdb (p := 32) (i := 30) ch_cX11_text_32 rfl) (rdb (p := 32) (i := 31) ch_cX11_text_32 rfl) rfl
theorem ch_cX11_text_64 : (cX11_text.data.toList.drop 64).take 36 = [182, 0, 224, 28, 172] := by decide +kernel
theorem dX11_text_64 : decode cX11_text 64 = .ok (.invokevirtual 224, 3) := do_182 (rdb (p := 64) (i := 0) ch_cX11_text_64 rfl) (rdb (p := 64) (i := 1) ch_cX11_text_64 rfl) (rdb (p := 64) (i := 2) ch_cX11_text_64 rfl) rfl
theorem dX11_text_67 : decode cX11_text 67 = .ok (.iload_n 2, 1) := do_28 (rdb (p := 64) (i := 3) ch_cX11_text_64 rfl)
theorem dX11_text_68 : decode cX11_text 68 = .ok (.ireturn, 1) := do_172 (rdb (p := 64) (i := 4) ch_cX11_text_64 rfl)
theorem ch_cX4_read_0 : (cX4_read.data.toList.drop 0).take 36 = [42, 43, 181, 0, 21, 42, 28, 154, 0, 8, 18, 44, 167, 0, 15, 28, 4, 160, 0, 8, 18, 48, 167, 0, 5, 18, 50, 181, 0, 27, 42, 3, 181, 0, 31, 42] := by decide +kernel
theorem dX4_read_0 : decode cX4_read 0 = .ok (.aload_n 0, 1) := do_42 (rdb (p := 0) (i := 0) ch_cX4_read_0 rfl)
theorem dX4_read_1 : decode cX4_read 1 = .ok (.aload_n 1, 1) := do_43 (rdb (p := 0) (i := 1) ch_cX4_read_0 rfl)
theorem dX4_read_2 : decode cX4_read 2 = .ok (.putfield 21, 3) := do_181 (rdb (p := 0) (i := 2) ch_cX4_read_0 rfl) (rdb (p := 0) (i := 3) ch_cX4_read_0 rfl) (rdb (p := 0) (i := 4) ch_cX4_read_0 rfl) rfl
theorem dX4_read_5 : decode cX4_read 5 = .ok (.aload_n 0, 1) := do_42 (rdb (p := 0) (i := 5) ch_cX4_read_0 rfl)
theorem dX4_read_6 : decode cX4_read 6 = .ok (.iload_n 2, 1) := do_28 (rdb (p := 0) (i := 6) ch_cX4_read_0 rfl)
theorem dX4_read_7 : decode cX4_read 7 = .ok (.ifCond .ne 8, 3) := do_154 (rdb (p := 0) (i := 7) ch_cX4_read_0 rfl) (rdb (p := 0) (i := 8) ch_cX4_read_0 rfl) (rdb (p := 0) (i := 9) ch_cX4_read_0 rfl) (by decide +kernel)
theorem dX4_read_10 : decode cX4_read 10 = .ok (.ldc 44, 2) := do_18 (rdb (p := 0) (i := 10) ch_cX4_read_0 rfl) (rdb (p := 0) (i := 11) ch_cX4_read_0 rfl)
theorem dX4_read_12 : decode cX4_read 12 = .ok (.goto 15, 3) := do_167 (rdb (p := 0) (i := 12) ch_cX4_read_0 rfl) (rdb (p := 0) (i := 13) ch_cX4_read_0 rfl) (rdb (p := 0) (i := 14) ch_cX4_read_0 rfl) (by decide +kernel)
theorem dX4_read_15 : decode cX4_read 15 = .ok (.iload_n 2, 1) := do_28 (rdb (p := 0) (i := 15) ch_cX4_read_0 rfl)
theorem dX4_read_16 : decode cX4_read 16 = .ok (.iconst 1, 1) := do_4 (rdb (p := 0) (i := 16) ch_cX4_read_0 rfl)
theorem dX4_read_17 : decode cX4_read 17 = .ok (.if_icmp .ne 8, 3) := do_160 (rdb (p := 0) (i := 17) ch_cX4_read_0 rfl) (rdb (p := 0) (i := 18) ch_cX4_read_0 rfl) (rdb (p := 0) (i := 19) ch_cX4_read_0 rfl) (by decide +kernel)
theorem dX4_read_20 : decode cX4_read 20 = .ok (.ldc 48, 2) := do_18 (rdb (p := 0) (i := 20) ch_cX4_read_0 rfl) (rdb (p := 0) (i := 21) ch_cX4_read_0 rfl)
theorem dX4_read_22 : decode cX4_read 22 = .ok (.goto 5, 3) := do_167 (rdb (p := 0) (i := 22) ch_cX4_read_0 rfl) (rdb (p := 0) (i := 23) ch_cX4_read_0 rfl) (rdb (p := 0) (i := 24) ch_cX4_read_0 rfl) (by decide +kernel)
theorem dX4_read_25 : decode cX4_read 25 = .ok (.ldc 50, 2) := do_18 (rdb (p := 0) (i := 25) ch_cX4_read_0 rfl) (rdb (p := 0) (i := 26) ch_cX4_read_0 rfl)
theorem dX4_read_27 : decode cX4_read 27 = .ok (.putfield 27, 3) := do_181 (rdb (p := 0) (i := 27) ch_cX4_read_0 rfl) (rdb (p := 0) (i := 28) ch_cX4_read_0 rfl) (rdb (p := 0) (i := 29) ch_cX4_read_0 rfl) rfl
theorem dX4_read_30 : decode cX4_read 30 = .ok (.aload_n 0, 1) := do_42 (rdb (p := 0) (i := 30) ch_cX4_read_0 rfl)
theorem dX4_read_31 : decode cX4_read 31 = .ok (.iconst 0, 1) := do_3 (rdb (p := 0) (i := 31) ch_cX4_read_0 rfl)
theorem ch_cX4_read_32 : (cX4_read.data.toList.drop 32).take 36 = [181, 0, 31, 42, 2, 181, 0, 35, 42, 3, 181, 0, 38, 42, 3, 181, 0, 41, 42, 180, 0, 10, 182, 0, 52, 42, 182, 0, 55, 42, 182, 0, 58, 155, 0, 7] := by decide +kernel
theorem dX4_read_32 : decode cX4_read 32 = .ok (.putfield 31, 3) := do_181 (rdb (p := 32) (i := 0) ch_cX4_read_32 rfl) (rdb (p := 32) (i := 1) ch_cX4_read_32 rfl) (rdb (p := 32) (i := 2) ch_cX4_read_32 rfl) rfl
theorem dX4_read_35 : decode cX4_read 35 = .ok (.aload_n 0, 1) := do_42 (rdb (p := 32) (i := 3) ch_cX4_read_32 rfl)
theorem dX4_read_36 : decode cX4_read 36 = .ok (.iconst (-1), 1) := do_2 (rdb (p := 32) (i := 4) ch_cX4_read_32 rfl)
theorem dX4_read_37 : decode cX4_read 37 = .ok (.putfield 35, 3) := do_181 (rdb (p := 32) (i := 5) ch_cX4_read_32 rfl) (rdb (p := 32) (i := 6) ch_cX4_read_32 rfl) (rdb (p := 32) (i := 7) ch_cX4_read_32 rfl) rfl
theorem dX4_read_40 : decode cX4_read 40 = .ok (.aload_n 0, 1) := do_42 (rdb (p := 32) (i := 8) ch_cX4_read_32 rfl)
theorem dX4_read_41 : decode cX4_read 41 = .ok (.iconst 0, 1) := do_3 (rdb (p := 32) (i := 9) ch_cX4_read_32 rfl)
theorem dX4_read_42 : decode cX4_read 42 = .ok (.putfield 38, 3) := do_181 (rdb (p := 32) (i := 10) ch_cX4_read_32 rfl) (rdb (p := 32) (i := 11) ch_cX4_read_32 rfl) (rdb (p := 32) (i := 12) ch_cX4_read_32 rfl) rfl
theorem dX4_read_45 : decode cX4_read 45 = .ok (.aload_n 0, 1) := do_42 (rdb (p := 32) (i := 13) ch_cX4_read_32 rfl)
theorem dX4_read_46 : decode cX4_read 46 = .ok (.iconst 0, 1) := do_3 (rdb (p := 32) (i := 14) ch_cX4_read_32 rfl)
theorem dX4_read_47 : decode cX4_read 47 = .ok (.putfield 41, 3) := do_181 (rdb (p := 32) (i := 15) ch_cX4_read_32 rfl) (rdb (p := 32) (i := 16) ch_cX4_read_32 rfl) (rdb (p := 32) (i := 17) ch_cX4_read_32 rfl) rfl
theorem dX4_read_50 : decode cX4_read 50 = .ok (.aload_n 0, 1) := do_42 (rdb (p := 32) (i := 18) ch_cX4_read_32 rfl)
theorem dX4_read_51 : decode cX4_read 51 = .ok (.getfield 10, 3) := do_180 (rdb (p := 32) (i := 19) ch_cX4_read_32 rfl) (rdb (p := 32) (i := 20) ch_cX4_read_32 rfl) (rdb (p := 32) (i := 21) ch_cX4_read_32 rfl) rfl
theorem dX4_read_54 : decode cX4_read 54 = .ok (.invokevirtual 52, 3) := do_182 (rdb (p := 32) (i := 22) ch_cX4_read_32 rfl) (rdb (p := 32) (i := 23) ch_cX4_read_32 rfl) (rdb (p := 32) (i := 24) ch_cX4_read_32 rfl) rfl
theorem dX4_read_57 : decode cX4_read 57 = .ok (.aload_n 0, 1) := do_42 (rdb (p := 32) (i := 25) ch_cX4_read_32 rfl)
theorem dX4_read_58 : decode cX4_read 58 = .ok (.invokevirtual 55, 3) := do_182 (rdb (p := 32) (i := 26) ch_cX4_read_32 rfl) (rdb (p := 32) (i := 27) ch_cX4_read_32 rfl) (rdb (p := 32) (i := 28) ch_cX4_read_32 rfl) rfl
theorem dX4_read_61 : decode cX4_read 61 = .ok (.aload_n 0, 1) := do_42 (rdb (p := 32) (i := 29) ch_cX4_read_32 rfl)
theorem dX4_read_62 : decode cX4_read 62 = .ok (.invokevirtual 58, 3) := do_182 (rdb (p := 32) (i := 30) ch_cX4_read_32 rfl) (rdb (p := 32) (i := 31) ch_cX4_read_32 rfl) (rdb (p := 32) (i := 32) ch_cX4_read_32 rfl) rfl
theorem ch_cX4_read_64 : (cX4_read.data.toList.drop 64).take 36 = [58, 155, 0, 7, 42, 182, 0, 62, 42, 180, 0, 35, 156, 0, 10, 42, 180, 0, 41, 167, 0, 10, 16, 246, 42, 180, 0, 35, 100, 172] := by decide +kernel
theorem dX4_read_65 : decode cX4_read 65 = .ok (.ifCond .lt 7, 3) := do_155 (rdb (p := 64) (i := 1) ch_cX4_read_64 rfl) (rdb (p := 64) (i := 2) ch_cX4_read_64 rfl) (rdb (p := 64) (i := 3) ch_cX4_read_64 rfl) (by decide +kernel)
theorem dX4_read_68 : decode cX4_read 68 = .ok (.aload_n 0, 1) := do_42 (rdb (p := 64) (i := 4) ch_cX4_read_64 rfl)
theorem dX4_read_69 : decode cX4_read 69 = .ok (.invokevirtual 62, 3) := do_182 (rdb (p := 64) (i := 5) ch_cX4_read_64 rfl) (rdb (p := 64) (i := 6) ch_cX4_read_64 rfl) (rdb (p := 64) (i := 7) ch_cX4_read_64 rfl) rfl
theorem dX4_read_72 : decode cX4_read 72 = .ok (.aload_n 0, 1) := do_42 (rdb (p := 64) (i := 8) ch_cX4_read_64 rfl)
theorem dX4_read_73 : decode cX4_read 73 = .ok (.getfield 35, 3) := do_180 (rdb (p := 64) (i := 9) ch_cX4_read_64 rfl) (rdb (p := 64) (i := 10) ch_cX4_read_64 rfl) (rdb (p := 64) (i := 11) ch_cX4_read_64 rfl) rfl
theorem dX4_read_76 : decode cX4_read 76 = .ok (.ifCond .ge 10, 3) := do_156 (rdb (p := 64) (i := 12) ch_cX4_read_64 rfl) (rdb (p := 64) (i := 13) ch_cX4_read_64 rfl) (rdb (p := 64) (i := 14) ch_cX4_read_64 rfl) (by decide +kernel)
theorem dX4_read_79 : decode cX4_read 79 = .ok (.aload_n 0, 1) := do_42 (rdb (p := 64) (i := 15) ch_cX4_read_64 rfl)
theorem dX4_read_80 : decode cX4_read 80 = .ok (.getfield 41, 3) := do_180 (rdb (p := 64) (i := 16) ch_cX4_read_64 rfl) (rdb (p := 64) (i := 17) ch_cX4_read_64 rfl) (rdb (p := 64) (i := 18) ch_cX4_read_64 rfl) rfl
theorem dX4_read_83 : decode cX4_read 83 = .ok (.goto 10, 3) := do_167 (rdb (p := 64) (i := 19) ch_cX4_read_64 rfl) (rdb (p := 64) (i := 20) ch_cX4_read_64 rfl) (rdb (p := 64) (i := 21) ch_cX4_read_64 rfl) (by decide +kernel)
theorem dX4_read_86 : decode cX4_read 86 = .ok (.bipush (-10), 2) := do_16 (rdb (p := 64) (i := 22) ch_cX4_read_64 rfl) (rdb (p := 64) (i := 23) ch_cX4_read_64 rfl) (by decide +kernel)
theorem dX4_read_88 : decode cX4_read 88 = .ok (.aload_n 0, 1) := do_42 (rdb (p := 64) (i := 24) ch_cX4_read_64 rfl)
theorem dX4_read_89 : decode cX4_read 89 = .ok (.getfield 35, 3) := do_180 (rdb (p := 64) (i := 25) ch_cX4_read_64 rfl) (rdb (p := 64) (i := 26) ch_cX4_read_64 rfl) (rdb (p := 64) (i := 27) ch_cX4_read_64 rfl) rfl
theorem dX4_read_92 : decode cX4_read 92 = .ok (.isub, 1) := do_100 (rdb (p := 64) (i := 28) ch_cX4_read_64 rfl)
theorem dX4_read_93 : decode cX4_read 93 = .ok (.ireturn, 1) := do_172 (rdb (p := 64) (i := 29) ch_cX4_read_64 rfl)
