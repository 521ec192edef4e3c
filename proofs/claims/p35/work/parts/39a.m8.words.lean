/-! words of the tables that are used, by their places; decode rows; fields -/
theorem li_3567 : (3567 : Int32).toInt = 3567 := by decide
theorem m_1324 : Cond.fieldLink RX12 13 "ClickStreetModel" "kept" "[I" ∈ BASE := bmem 1324 (by decide +kernel) rfl
theorem m_1325 : Cond.fieldLink RX12 16 "ClickStreetModel" "aside" "[I" ∈ BASE := bmem 1325 (by decide +kernel) rfl
theorem m_1326 : Cond.fieldLink RX12 353 "ClickStreetModel" "images" "I" ∈ BASE := bmem 1326 (by decide +kernel) rfl
theorem m_1843 : Cond.methodLink RX12 349 yX12_copy ∈ BASE := bmem 1843 (by decide +kernel) rfl
theorem m_1844 : Cond.static yX12_copy ∈ BASE := bmem 1844 (by decide +kernel) rfl
theorem m_1845 : Cond.code yX12_copy cX12_copy 3 none ∈ BASE := bmem 1845 (by decide +kernel) rfl
theorem kS_X12_copy : KS yX12_copy cX12_copy 3 none 2 := ⟨m_1844, m_92, m_1845, by decide +kernel, by decide +kernel, by decide +kernel⟩
theorem fl_RX12_13 : FLK RX12 13 12 1 (.array .int) true := ⟨RX12, TX12, 33, tyX12, rfl, inB12, tyX12_ok, nmX12, by decide, rfl, rfl, Or.inl m_1324⟩
theorem fl_RX12_16 : FLK RX12 16 12 2 (.array .int) true := ⟨RX12, TX12, 33, tyX12, rfl, inB12, tyX12_ok, nmX12, by decide, rfl, rfl, Or.inl m_1325⟩
theorem fl_RX12_353 : FLK RX12 353 12 3 .int false := ⟨RX12, TX12, 33, tyX12, rfl, inB12, tyX12_ok, nmX12, by decide, rfl, rfl, Or.inl m_1326⟩
theorem ch_cX12_check_0 : (cX12_check.data.toList.drop 0).take 36 = [42, 180, 0, 9, 8, 46, 61, 42, 180, 0, 9, 8, 3, 79, 42, 27, 5, 182, 0, 116, 154, 0, 10, 42, 18, 103, 182, 0, 104, 172, 42, 180, 0, 9, 42, 180] := by decide +kernel
theorem dX12_check_0 : decode cX12_check 0 = .ok (.aload_n 0, 1) := do_42 (rdb (p := 0) (i := 0) ch_cX12_check_0 rfl)
theorem dX12_check_1 : decode cX12_check 1 = .ok (.getfield 9, 3) := do_180 (rdb (p := 0) (i := 1) ch_cX12_check_0 rfl) (rdb (p := 0) (i := 2) ch_cX12_check_0 rfl) (rdb (p := 0) (i := 3) ch_cX12_check_0 rfl) rfl
theorem dX12_check_4 : decode cX12_check 4 = .ok (.iconst 5, 1) := do_8 (rdb (p := 0) (i := 4) ch_cX12_check_0 rfl)
theorem dX12_check_5 : decode cX12_check 5 = .ok (.iaload, 1) := do_46 (rdb (p := 0) (i := 5) ch_cX12_check_0 rfl)
theorem dX12_check_6 : decode cX12_check 6 = .ok (.istore_n 2, 1) := do_61 (rdb (p := 0) (i := 6) ch_cX12_check_0 rfl)
theorem dX12_check_7 : decode cX12_check 7 = .ok (.aload_n 0, 1) := do_42 (rdb (p := 0) (i := 7) ch_cX12_check_0 rfl)
theorem dX12_check_8 : decode cX12_check 8 = .ok (.getfield 9, 3) := do_180 (rdb (p := 0) (i := 8) ch_cX12_check_0 rfl) (rdb (p := 0) (i := 9) ch_cX12_check_0 rfl) (rdb (p := 0) (i := 10) ch_cX12_check_0 rfl) rfl
theorem dX12_check_11 : decode cX12_check 11 = .ok (.iconst 5, 1) := do_8 (rdb (p := 0) (i := 11) ch_cX12_check_0 rfl)
theorem dX12_check_12 : decode cX12_check 12 = .ok (.iconst 0, 1) := do_3 (rdb (p := 0) (i := 12) ch_cX12_check_0 rfl)
theorem dX12_check_13 : decode cX12_check 13 = .ok (.iastore, 1) := do_79 (rdb (p := 0) (i := 13) ch_cX12_check_0 rfl)
theorem dX12_check_14 : decode cX12_check 14 = .ok (.aload_n 0, 1) := do_42 (rdb (p := 0) (i := 14) ch_cX12_check_0 rfl)
theorem dX12_check_15 : decode cX12_check 15 = .ok (.iload_n 1, 1) := do_27 (rdb (p := 0) (i := 15) ch_cX12_check_0 rfl)
theorem dX12_check_16 : decode cX12_check 16 = .ok (.iconst 2, 1) := do_5 (rdb (p := 0) (i := 16) ch_cX12_check_0 rfl)
theorem dX12_check_17 : decode cX12_check 17 = .ok (.invokevirtual 116, 3) := do_182 (rdb (p := 0) (i := 17) ch_cX12_check_0 rfl) (rdb (p := 0) (i := 18) ch_cX12_check_0 rfl) (rdb (p := 0) (i := 19) ch_cX12_check_0 rfl) rfl
theorem dX12_check_20 : decode cX12_check 20 = .ok (.ifCond .ne 10, 3) := do_154 (rdb (p := 0) (i := 20) ch_cX12_check_0 rfl) (rdb (p := 0) (i := 21) ch_cX12_check_0 rfl) (rdb (p := 0) (i := 22) ch_cX12_check_0 rfl) (by decide +kernel)
theorem dX12_check_23 : decode cX12_check 23 = .ok (.aload_n 0, 1) := do_42 (rdb (p := 0) (i := 23) ch_cX12_check_0 rfl)
theorem dX12_check_24 : decode cX12_check 24 = .ok (.ldc 103, 2) := do_18 (rdb (p := 0) (i := 24) ch_cX12_check_0 rfl) (rdb (p := 0) (i := 25) ch_cX12_check_0 rfl)
theorem dX12_check_26 : decode cX12_check 26 = .ok (.invokevirtual 104, 3) := do_182 (rdb (p := 0) (i := 26) ch_cX12_check_0 rfl) (rdb (p := 0) (i := 27) ch_cX12_check_0 rfl) (rdb (p := 0) (i := 28) ch_cX12_check_0 rfl) rfl
theorem dX12_check_29 : decode cX12_check 29 = .ok (.ireturn, 1) := do_172 (rdb (p := 0) (i := 29) ch_cX12_check_0 rfl)
theorem dX12_check_30 : decode cX12_check 30 = .ok (.aload_n 0, 1) := do_42 (rdb (p := 0) (i := 30) ch_cX12_check_0 rfl)
theorem dX12_check_31 : decode cX12_check 31 = .ok (.getfield 9, 3) := do_180 (rdb (p := 0) (i := 31) ch_cX12_check_0 rfl) (rdb (p := 0) (i := 32) ch_cX12_check_0 rfl) (rdb (p := 0) (i := 33) ch_cX12_check_0 rfl) rfl
theorem ch_cX12_check_32 : (cX12_check.data.toList.drop 32).take 36 = [0, 9, 42, 180, 0, 16, 184, 1, 93, 3, 62, 3, 54, 4, 21, 4, 28, 162, 0, 52, 29, 154, 0, 48, 42, 182, 1, 45, 42, 180, 0, 9, 42, 27, 182, 0] := by decide +kernel
theorem dX12_check_34 : decode cX12_check 34 = .ok (.aload_n 0, 1) := do_42 (rdb (p := 32) (i := 2) ch_cX12_check_32 rfl)
theorem dX12_check_35 : decode cX12_check 35 = .ok (.getfield 16, 3) := do_180 (rdb (p := 32) (i := 3) ch_cX12_check_32 rfl) (rdb (p := 32) (i := 4) ch_cX12_check_32 rfl) (rdb (p := 32) (i := 5) ch_cX12_check_32 rfl) rfl
theorem dX12_check_38 : decode cX12_check 38 = .ok (.invokestatic 349, 3) := do_184 (rdb (p := 32) (i := 6) ch_cX12_check_32 rfl) (rdb (p := 32) (i := 7) ch_cX12_check_32 rfl) (rdb (p := 32) (i := 8) ch_cX12_check_32 rfl) rfl
theorem dX12_check_41 : decode cX12_check 41 = .ok (.iconst 0, 1) := do_3 (rdb (p := 32) (i := 9) ch_cX12_check_32 rfl)
theorem dX12_check_42 : decode cX12_check 42 = .ok (.istore_n 3, 1) := do_62 (rdb (p := 32) (i := 10) ch_cX12_check_32 rfl)
theorem dX12_check_43 : decode cX12_check 43 = .ok (.iconst 0, 1) := do_3 (rdb (p := 32) (i := 11) ch_cX12_check_32 rfl)
theorem dX12_check_44 : decode cX12_check 44 = .ok (.istore 4, 2) := do_54 (rdb (p := 32) (i := 12) ch_cX12_check_32 rfl) (rdb (p := 32) (i := 13) ch_cX12_check_32 rfl)
theorem dX12_check_46 : decode cX12_check 46 = .ok (.iload 4, 2) := do_21 (rdb (p := 32) (i := 14) ch_cX12_check_32 rfl) (rdb (p := 32) (i := 15) ch_cX12_check_32 rfl)
theorem dX12_check_48 : decode cX12_check 48 = .ok (.iload_n 2, 1) := do_28 (rdb (p := 32) (i := 16) ch_cX12_check_32 rfl)
theorem dX12_check_49 : decode cX12_check 49 = .ok (.if_icmp .ge 52, 3) := do_162 (rdb (p := 32) (i := 17) ch_cX12_check_32 rfl) (rdb (p := 32) (i := 18) ch_cX12_check_32 rfl) (rdb (p := 32) (i := 19) ch_cX12_check_32 rfl) (by decide +kernel)
theorem dX12_check_52 : decode cX12_check 52 = .ok (.iload_n 3, 1) := do_29 (rdb (p := 32) (i := 20) ch_cX12_check_32 rfl)
theorem dX12_check_53 : decode cX12_check 53 = .ok (.ifCond .ne 48, 3) := do_154 (rdb (p := 32) (i := 21) ch_cX12_check_32 rfl) (rdb (p := 32) (i := 22) ch_cX12_check_32 rfl) (rdb (p := 32) (i := 23) ch_cX12_check_32 rfl) (by decide +kernel)
theorem dX12_check_56 : decode cX12_check 56 = .ok (.aload_n 0, 1) := do_42 (rdb (p := 32) (i := 24) ch_cX12_check_32 rfl)
theorem dX12_check_57 : decode cX12_check 57 = .ok (.invokevirtual 301, 3) := do_182 (rdb (p := 32) (i := 25) ch_cX12_check_32 rfl) (rdb (p := 32) (i := 26) ch_cX12_check_32 rfl) (rdb (p := 32) (i := 27) ch_cX12_check_32 rfl) rfl
theorem dX12_check_60 : decode cX12_check 60 = .ok (.aload_n 0, 1) := do_42 (rdb (p := 32) (i := 28) ch_cX12_check_32 rfl)
theorem dX12_check_61 : decode cX12_check 61 = .ok (.getfield 9, 3) := do_180 (rdb (p := 32) (i := 29) ch_cX12_check_32 rfl) (rdb (p := 32) (i := 30) ch_cX12_check_32 rfl) (rdb (p := 32) (i := 31) ch_cX12_check_32 rfl) rfl
theorem ch_cX12_check_64 : (cX12_check.data.toList.drop 64).take 36 = [42, 27, 182, 0, 93, 4, 96, 46, 42, 180, 0, 9, 17, 1, 65, 21, 4, 96, 46, 160, 0, 7, 3, 167, 0, 7, 4, 21, 4, 96, 62, 132, 4, 1, 167, 255] := by decide +kernel
theorem dX12_check_64 : decode cX12_check 64 = .ok (.aload_n 0, 1) := do_42 (rdb (p := 64) (i := 0) ch_cX12_check_64 rfl)
theorem dX12_check_65 : decode cX12_check 65 = .ok (.iload_n 1, 1) := do_27 (rdb (p := 64) (i := 1) ch_cX12_check_64 rfl)
theorem dX12_check_66 : decode cX12_check 66 = .ok (.invokevirtual 93, 3) := do_182 (rdb (p := 64) (i := 2) ch_cX12_check_64 rfl) (rdb (p := 64) (i := 3) ch_cX12_check_64 rfl) (rdb (p := 64) (i := 4) ch_cX12_check_64 rfl) rfl
theorem dX12_check_69 : decode cX12_check 69 = .ok (.iconst 1, 1) := do_4 (rdb (p := 64) (i := 5) ch_cX12_check_64 rfl)
theorem dX12_check_70 : decode cX12_check 70 = .ok (.iadd, 1) := do_96 (rdb (p := 64) (i := 6) ch_cX12_check_64 rfl)
theorem dX12_check_71 : decode cX12_check 71 = .ok (.iaload, 1) := do_46 (rdb (p := 64) (i := 7) ch_cX12_check_64 rfl)
theorem dX12_check_72 : decode cX12_check 72 = .ok (.aload_n 0, 1) := do_42 (rdb (p := 64) (i := 8) ch_cX12_check_64 rfl)
theorem dX12_check_73 : decode cX12_check 73 = .ok (.getfield 9, 3) := do_180 (rdb (p := 64) (i := 9) ch_cX12_check_64 rfl) (rdb (p := 64) (i := 10) ch_cX12_check_64 rfl) (rdb (p := 64) (i := 11) ch_cX12_check_64 rfl) rfl
theorem dX12_check_76 : decode cX12_check 76 = .ok (.sipush 321, 3) := do_17 (rdb (p := 64) (i := 12) ch_cX12_check_64 rfl) (rdb (p := 64) (i := 13) ch_cX12_check_64 rfl) (rdb (p := 64) (i := 14) ch_cX12_check_64 rfl) (by decide +kernel)
theorem dX12_check_79 : decode cX12_check 79 = .ok (.iload 4, 2) := do_21 (rdb (p := 64) (i := 15) ch_cX12_check_64 rfl) (rdb (p := 64) (i := 16) ch_cX12_check_64 rfl)
theorem dX12_check_81 : decode cX12_check 81 = .ok (.iadd, 1) := do_96 (rdb (p := 64) (i := 17) ch_cX12_check_64 rfl)
theorem dX12_check_82 : decode cX12_check 82 = .ok (.iaload, 1) := do_46 (rdb (p := 64) (i := 18) ch_cX12_check_64 rfl)
theorem dX12_check_83 : decode cX12_check 83 = .ok (.if_icmp .ne 7, 3) := do_160 (rdb (p := 64) (i := 19) ch_cX12_check_64 rfl) (rdb (p := 64) (i := 20) ch_cX12_check_64 rfl) (rdb (p := 64) (i := 21) ch_cX12_check_64 rfl) (by decide +kernel)
theorem dX12_check_86 : decode cX12_check 86 = .ok (.iconst 0, 1) := do_3 (rdb (p := 64) (i := 22) ch_cX12_check_64 rfl)
theorem dX12_check_87 : decode cX12_check 87 = .ok (.goto 7, 3) := do_167 (rdb (p := 64) (i := 23) ch_cX12_check_64 rfl) (rdb (p := 64) (i := 24) ch_cX12_check_64 rfl) (rdb (p := 64) (i := 25) ch_cX12_check_64 rfl) (by decide +kernel)
theorem dX12_check_90 : decode cX12_check 90 = .ok (.iconst 1, 1) := do_4 (rdb (p := 64) (i := 26) ch_cX12_check_64 rfl)
theorem dX12_check_91 : decode cX12_check 91 = .ok (.iload 4, 2) := do_21 (rdb (p := 64) (i := 27) ch_cX12_check_64 rfl) (rdb (p := 64) (i := 28) ch_cX12_check_64 rfl)
theorem dX12_check_93 : decode cX12_check 93 = .ok (.iadd, 1) := do_96 (rdb (p := 64) (i := 29) ch_cX12_check_64 rfl)
theorem dX12_check_94 : decode cX12_check 94 = .ok (.istore_n 3, 1) := do_62 (rdb (p := 64) (i := 30) ch_cX12_check_64 rfl)
theorem dX12_check_95 : decode cX12_check 95 = .ok (.iinc 4 1, 3) := do_132 (rdb (p := 64) (i := 31) ch_cX12_check_64 rfl) (rdb (p := 64) (i := 32) ch_cX12_check_64 rfl) (rdb (p := 64) (i := 33) ch_cX12_check_64 rfl) (by decide +kernel)
theorem ch_cX12_check_96 : (cX12_check.data.toList.drop 96).take 36 = [4, 1, 167, 255, 204, 42, 180, 0, 16, 42, 180, 0, 9, 184, 1, 93, 29, 172] := by decide +kernel
theorem dX12_check_98 : decode cX12_check 98 = .ok (.goto (-52), 3) := do_167 (rdb (p := 96) (i := 2) ch_cX12_check_96 rfl) (rdb (p := 96) (i := 3) ch_cX12_check_96 rfl) (rdb (p := 96) (i := 4) ch_cX12_check_96 rfl) (by decide +kernel)
theorem dX12_check_101 : decode cX12_check 101 = .ok (.aload_n 0, 1) := do_42 (rdb (p := 96) (i := 5) ch_cX12_check_96 rfl)
theorem dX12_check_102 : decode cX12_check 102 = .ok (.getfield 16, 3) := do_180 (rdb (p := 96) (i := 6) ch_cX12_check_96 rfl) (rdb (p := 96) (i := 7) ch_cX12_check_96 rfl) (rdb (p := 96) (i := 8) ch_cX12_check_96 rfl) rfl
theorem dX12_check_105 : decode cX12_check 105 = .ok (.aload_n 0, 1) := do_42 (rdb (p := 96) (i := 9) ch_cX12_check_96 rfl)
theorem dX12_check_106 : decode cX12_check 106 = .ok (.getfield 9, 3) := do_180 (rdb (p := 96) (i := 10) ch_cX12_check_96 rfl) (rdb (p := 96) (i := 11) ch_cX12_check_96 rfl) (rdb (p := 96) (i := 12) ch_cX12_check_96 rfl) rfl
theorem dX12_check_109 : decode cX12_check 109 = .ok (.invokestatic 349, 3) := do_184 (rdb (p := 96) (i := 13) ch_cX12_check_96 rfl) (rdb (p := 96) (i := 14) ch_cX12_check_96 rfl) (rdb (p := 96) (i := 15) ch_cX12_check_96 rfl) rfl
theorem dX12_check_112 : decode cX12_check 112 = .ok (.iload_n 3, 1) := do_29 (rdb (p := 96) (i := 16) ch_cX12_check_96 rfl)
theorem dX12_check_113 : decode cX12_check 113 = .ok (.ireturn, 1) := do_172 (rdb (p := 96) (i := 17) ch_cX12_check_96 rfl)
theorem dX12_copy_0 : decode cX12_copy 0 = .ok (.iconst 0, 1) := by decide +kernel
theorem dX12_copy_1 : decode cX12_copy 1 = .ok (.istore_n 2, 1) := by decide +kernel
theorem dX12_copy_2 : decode cX12_copy 2 = .ok (.iload_n 2, 1) := by decide +kernel
theorem dX12_copy_3 : decode cX12_copy 3 = .ok (.sipush 3567, 3) := by decide +kernel
theorem dX12_copy_6 : decode cX12_copy 6 = .ok (.if_icmp .ge 15, 3) := by decide +kernel
theorem dX12_copy_9 : decode cX12_copy 9 = .ok (.aload_n 1, 1) := by decide +kernel
theorem dX12_copy_10 : decode cX12_copy 10 = .ok (.iload_n 2, 1) := by decide +kernel
theorem dX12_copy_11 : decode cX12_copy 11 = .ok (.aload_n 0, 1) := by decide +kernel
theorem dX12_copy_12 : decode cX12_copy 12 = .ok (.iload_n 2, 1) := by decide +kernel
theorem dX12_copy_13 : decode cX12_copy 13 = .ok (.iaload, 1) := by decide +kernel
theorem dX12_copy_14 : decode cX12_copy 14 = .ok (.iastore, 1) := by decide +kernel
theorem dX12_copy_15 : decode cX12_copy 15 = .ok (.iinc 2 1, 3) := by decide +kernel
theorem dX12_copy_18 : decode cX12_copy 18 = .ok (.goto (-16), 3) := by decide +kernel
theorem dX12_copy_21 : decode cX12_copy 21 = .ok (.return_, 1) := by decide +kernel
theorem dX12_image_0 : decode cX12_image 0 = .ok (.aload_n 0, 1) := by decide +kernel
theorem dX12_image_1 : decode cX12_image 1 = .ok (.getfield 9, 3) := by decide +kernel
theorem dX12_image_4 : decode cX12_image 4 = .ok (.aload_n 0, 1) := by decide +kernel
theorem dX12_image_5 : decode cX12_image 5 = .ok (.getfield 13, 3) := by decide +kernel
theorem dX12_image_8 : decode cX12_image 8 = .ok (.invokestatic 349, 3) := by decide +kernel
theorem dX12_image_11 : decode cX12_image 11 = .ok (.aload_n 0, 1) := by decide +kernel
theorem dX12_image_12 : decode cX12_image 12 = .ok (.dup, 1) := by decide +kernel
theorem dX12_image_13 : decode cX12_image 13 = .ok (.getfield 353, 3) := by decide +kernel
theorem dX12_image_16 : decode cX12_image 16 = .ok (.iconst 1, 1) := by decide +kernel
theorem dX12_image_17 : decode cX12_image 17 = .ok (.iadd, 1) := by decide +kernel
theorem dX12_image_18 : decode cX12_image 18 = .ok (.putfield 353, 3) := by decide +kernel
theorem dX12_image_21 : decode cX12_image 21 = .ok (.aload_n 0, 1) := by decide +kernel
theorem dX12_image_22 : decode cX12_image 22 = .ok (.getfield 353, 3) := by decide +kernel
theorem dX12_image_25 : decode cX12_image 25 = .ok (.ireturn, 1) := by decide +kernel
theorem dX12_restore_0 : decode cX12_restore 0 = .ok (.aload_n 0, 1) := by decide +kernel
theorem dX12_restore_1 : decode cX12_restore 1 = .ok (.getfield 353, 3) := by decide +kernel
theorem dX12_restore_4 : decode cX12_restore 4 = .ok (.ifCond .ne 10, 3) := by decide +kernel
theorem dX12_restore_7 : decode cX12_restore 7 = .ok (.aload_n 0, 1) := by decide +kernel
theorem dX12_restore_8 : decode cX12_restore 8 = .ok (.ldc 130, 2) := by decide +kernel
theorem dX12_restore_10 : decode cX12_restore 10 = .ok (.invokevirtual 104, 3) := by decide +kernel
theorem dX12_restore_13 : decode cX12_restore 13 = .ok (.ireturn, 1) := by decide +kernel
theorem dX12_restore_14 : decode cX12_restore 14 = .ok (.aload_n 0, 1) := by decide +kernel
theorem dX12_restore_15 : decode cX12_restore 15 = .ok (.getfield 13, 3) := by decide +kernel
theorem dX12_restore_18 : decode cX12_restore 18 = .ok (.aload_n 0, 1) := by decide +kernel
theorem dX12_restore_19 : decode cX12_restore 19 = .ok (.getfield 9, 3) := by decide +kernel
theorem dX12_restore_22 : decode cX12_restore 22 = .ok (.invokestatic 349, 3) := by decide +kernel
theorem dX12_restore_25 : decode cX12_restore 25 = .ok (.aload_n 0, 1) := by decide +kernel
theorem dX12_restore_26 : decode cX12_restore 26 = .ok (.getfield 9, 3) := by decide +kernel
theorem dX12_restore_29 : decode cX12_restore 29 = .ok (.iconst 0, 1) := by decide +kernel
theorem dX12_restore_30 : decode cX12_restore 30 = .ok (.iaload, 1) := by decide +kernel
theorem dX12_restore_31 : decode cX12_restore 31 = .ok (.ireturn, 1) := by decide +kernel
