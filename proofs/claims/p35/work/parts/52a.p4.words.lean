/-! words of the tables that are used, by their places; decode rows; fields -/
theorem li_m10 : ((-10) : Int32).toInt = -10 := by decide
theorem ch_cX12_text__0 : (cX12_text_.data.toList.drop 0).take 36 = [27, 3, 5, 184, 0, 85, 154, 0, 10, 42, 18, 103, 182, 0, 104, 172, 42, 27, 181, 0, 181, 42, 3, 181, 0, 155, 42, 3, 181, 0, 191, 42, 3, 181, 0, 203] := by decide +kernel
theorem dX12_text__0 : decode cX12_text_ 0 = .ok (.iload_n 1, 1) := do_27 (rdb (p := 0) (i := 0) ch_cX12_text__0 rfl)
theorem dX12_text__1 : decode cX12_text_ 1 = .ok (.iconst 0, 1) := do_3 (rdb (p := 0) (i := 1) ch_cX12_text__0 rfl)
theorem dX12_text__2 : decode cX12_text_ 2 = .ok (.iconst 2, 1) := do_5 (rdb (p := 0) (i := 2) ch_cX12_text__0 rfl)
theorem dX12_text__3 : decode cX12_text_ 3 = .ok (.invokestatic 85, 3) := do_184 (rdb (p := 0) (i := 3) ch_cX12_text__0 rfl) (rdb (p := 0) (i := 4) ch_cX12_text__0 rfl) (rdb (p := 0) (i := 5) ch_cX12_text__0 rfl) rfl
theorem dX12_text__6 : decode cX12_text_ 6 = .ok (.ifCond .ne 10, 3) := do_154 (rdb (p := 0) (i := 6) ch_cX12_text__0 rfl) (rdb (p := 0) (i := 7) ch_cX12_text__0 rfl) (rdb (p := 0) (i := 8) ch_cX12_text__0 rfl) (by decide +kernel)
theorem dX12_text__9 : decode cX12_text_ 9 = .ok (.aload_n 0, 1) := do_42 (rdb (p := 0) (i := 9) ch_cX12_text__0 rfl)
theorem dX12_text__10 : decode cX12_text_ 10 = .ok (.ldc 103, 2) := do_18 (rdb (p := 0) (i := 10) ch_cX12_text__0 rfl) (rdb (p := 0) (i := 11) ch_cX12_text__0 rfl)
theorem dX12_text__12 : decode cX12_text_ 12 = .ok (.invokevirtual 104, 3) := do_182 (rdb (p := 0) (i := 12) ch_cX12_text__0 rfl) (rdb (p := 0) (i := 13) ch_cX12_text__0 rfl) (rdb (p := 0) (i := 14) ch_cX12_text__0 rfl) rfl
theorem dX12_text__15 : decode cX12_text_ 15 = .ok (.ireturn, 1) := do_172 (rdb (p := 0) (i := 15) ch_cX12_text__0 rfl)
theorem dX12_text__16 : decode cX12_text_ 16 = .ok (.aload_n 0, 1) := do_42 (rdb (p := 0) (i := 16) ch_cX12_text__0 rfl)
theorem dX12_text__17 : decode cX12_text_ 17 = .ok (.iload_n 1, 1) := do_27 (rdb (p := 0) (i := 17) ch_cX12_text__0 rfl)
theorem dX12_text__18 : decode cX12_text_ 18 = .ok (.putfield 181, 3) := do_181 (rdb (p := 0) (i := 18) ch_cX12_text__0 rfl) (rdb (p := 0) (i := 19) ch_cX12_text__0 rfl) (rdb (p := 0) (i := 20) ch_cX12_text__0 rfl) rfl
theorem dX12_text__21 : decode cX12_text_ 21 = .ok (.aload_n 0, 1) := do_42 (rdb (p := 0) (i := 21) ch_cX12_text__0 rfl)
theorem dX12_text__22 : decode cX12_text_ 22 = .ok (.iconst 0, 1) := do_3 (rdb (p := 0) (i := 22) ch_cX12_text__0 rfl)
theorem dX12_text__23 : decode cX12_text_ 23 = .ok (.putfield 155, 3) := do_181 (rdb (p := 0) (i := 23) ch_cX12_text__0 rfl) (rdb (p := 0) (i := 24) ch_cX12_text__0 rfl) (rdb (p := 0) (i := 25) ch_cX12_text__0 rfl) rfl
theorem dX12_text__26 : decode cX12_text_ 26 = .ok (.aload_n 0, 1) := do_42 (rdb (p := 0) (i := 26) ch_cX12_text__0 rfl)
theorem dX12_text__27 : decode cX12_text_ 27 = .ok (.iconst 0, 1) := do_3 (rdb (p := 0) (i := 27) ch_cX12_text__0 rfl)
theorem dX12_text__28 : decode cX12_text_ 28 = .ok (.putfield 191, 3) := do_181 (rdb (p := 0) (i := 28) ch_cX12_text__0 rfl) (rdb (p := 0) (i := 29) ch_cX12_text__0 rfl) (rdb (p := 0) (i := 30) ch_cX12_text__0 rfl) rfl
theorem dX12_text__31 : decode cX12_text_ 31 = .ok (.aload_n 0, 1) := do_42 (rdb (p := 0) (i := 31) ch_cX12_text__0 rfl)
theorem ch_cX12_text__32 : (cX12_text_.data.toList.drop 32).take 36 = [3, 181, 0, 203, 42, 3, 181, 0, 151, 42, 3, 181, 0, 162, 42, 182, 0, 194, 42, 42, 180, 0, 151, 154, 0, 10, 42, 182, 0, 158, 155, 0, 7, 4, 167, 0] := by decide +kernel
theorem dX12_text__32 : decode cX12_text_ 32 = .ok (.iconst 0, 1) := do_3 (rdb (p := 32) (i := 0) ch_cX12_text__32 rfl)
theorem dX12_text__33 : decode cX12_text_ 33 = .ok (.putfield 203, 3) := do_181 (rdb (p := 32) (i := 1) ch_cX12_text__32 rfl) (rdb (p := 32) (i := 2) ch_cX12_text__32 rfl) (rdb (p := 32) (i := 3) ch_cX12_text__32 rfl) rfl
theorem dX12_text__36 : decode cX12_text_ 36 = .ok (.aload_n 0, 1) := do_42 (rdb (p := 32) (i := 4) ch_cX12_text__32 rfl)
theorem dX12_text__37 : decode cX12_text_ 37 = .ok (.iconst 0, 1) := do_3 (rdb (p := 32) (i := 5) ch_cX12_text__32 rfl)
theorem dX12_text__38 : decode cX12_text_ 38 = .ok (.putfield 151, 3) := do_181 (rdb (p := 32) (i := 6) ch_cX12_text__32 rfl) (rdb (p := 32) (i := 7) ch_cX12_text__32 rfl) (rdb (p := 32) (i := 8) ch_cX12_text__32 rfl) rfl
theorem dX12_text__41 : decode cX12_text_ 41 = .ok (.aload_n 0, 1) := do_42 (rdb (p := 32) (i := 9) ch_cX12_text__32 rfl)
theorem dX12_text__42 : decode cX12_text_ 42 = .ok (.iconst 0, 1) := do_3 (rdb (p := 32) (i := 10) ch_cX12_text__32 rfl)
theorem dX12_text__43 : decode cX12_text_ 43 = .ok (.putfield 162, 3) := do_181 (rdb (p := 32) (i := 11) ch_cX12_text__32 rfl) (rdb (p := 32) (i := 12) ch_cX12_text__32 rfl) (rdb (p := 32) (i := 13) ch_cX12_text__32 rfl) rfl
theorem dX12_text__46 : decode cX12_text_ 46 = .ok (.aload_n 0, 1) := do_42 (rdb (p := 32) (i := 14) ch_cX12_text__32 rfl)
theorem dX12_text__47 : decode cX12_text_ 47 = .ok (.invokevirtual 194, 3) := do_182 (rdb (p := 32) (i := 15) ch_cX12_text__32 rfl) (rdb (p := 32) (i := 16) ch_cX12_text__32 rfl) (rdb (p := 32) (i := 17) ch_cX12_text__32 rfl) rfl
theorem dX12_text__50 : decode cX12_text_ 50 = .ok (.aload_n 0, 1) := do_42 (rdb (p := 32) (i := 18) ch_cX12_text__32 rfl)
theorem dX12_text__51 : decode cX12_text_ 51 = .ok (.aload_n 0, 1) := do_42 (rdb (p := 32) (i := 19) ch_cX12_text__32 rfl)
theorem dX12_text__52 : decode cX12_text_ 52 = .ok (.getfield 151, 3) := do_180 (rdb (p := 32) (i := 20) ch_cX12_text__32 rfl) (rdb (p := 32) (i := 21) ch_cX12_text__32 rfl) (rdb (p := 32) (i := 22) ch_cX12_text__32 rfl) rfl
theorem dX12_text__55 : decode cX12_text_ 55 = .ok (.ifCond .ne 10, 3) := do_154 (rdb (p := 32) (i := 23) ch_cX12_text__32 rfl) (rdb (p := 32) (i := 24) ch_cX12_text__32 rfl) (rdb (p := 32) (i := 25) ch_cX12_text__32 rfl) (by decide +kernel)
theorem dX12_text__58 : decode cX12_text_ 58 = .ok (.aload_n 0, 1) := do_42 (rdb (p := 32) (i := 26) ch_cX12_text__32 rfl)
theorem dX12_text__59 : decode cX12_text_ 59 = .ok (.invokevirtual 158, 3) := do_182 (rdb (p := 32) (i := 27) ch_cX12_text__32 rfl) (rdb (p := 32) (i := 28) ch_cX12_text__32 rfl) (rdb (p := 32) (i := 29) ch_cX12_text__32 rfl) rfl
theorem dX12_text__62 : decode cX12_text_ 62 = .ok (.ifCond .lt 7, 3) := do_155 (rdb (p := 32) (i := 30) ch_cX12_text__32 rfl) (rdb (p := 32) (i := 31) ch_cX12_text__32 rfl) (rdb (p := 32) (i := 32) ch_cX12_text__32 rfl) (by decide +kernel)
theorem ch_cX12_text__64 : (cX12_text_.data.toList.drop 64).take 36 = [7, 4, 167, 0, 4, 3, 181, 0, 151, 42, 180, 0, 9, 7, 3, 79, 42, 180, 0, 151, 153, 0, 11, 16, 246, 42, 180, 0, 155, 100, 172, 42, 180, 0, 9, 17] := by decide +kernel
theorem dX12_text__65 : decode cX12_text_ 65 = .ok (.iconst 1, 1) := do_4 (rdb (p := 64) (i := 1) ch_cX12_text__64 rfl)
theorem dX12_text__66 : decode cX12_text_ 66 = .ok (.goto 4, 3) := do_167 (rdb (p := 64) (i := 2) ch_cX12_text__64 rfl) (rdb (p := 64) (i := 3) ch_cX12_text__64 rfl) (rdb (p := 64) (i := 4) ch_cX12_text__64 rfl) (by decide +kernel)
theorem dX12_text__69 : decode cX12_text_ 69 = .ok (.iconst 0, 1) := do_3 (rdb (p := 64) (i := 5) ch_cX12_text__64 rfl)
theorem dX12_text__70 : decode cX12_text_ 70 = .ok (.putfield 151, 3) := do_181 (rdb (p := 64) (i := 6) ch_cX12_text__64 rfl) (rdb (p := 64) (i := 7) ch_cX12_text__64 rfl) (rdb (p := 64) (i := 8) ch_cX12_text__64 rfl) rfl
theorem dX12_text__73 : decode cX12_text_ 73 = .ok (.aload_n 0, 1) := do_42 (rdb (p := 64) (i := 9) ch_cX12_text__64 rfl)
theorem dX12_text__74 : decode cX12_text_ 74 = .ok (.getfield 9, 3) := do_180 (rdb (p := 64) (i := 10) ch_cX12_text__64 rfl) (rdb (p := 64) (i := 11) ch_cX12_text__64 rfl) (rdb (p := 64) (i := 12) ch_cX12_text__64 rfl) rfl
theorem dX12_text__77 : decode cX12_text_ 77 = .ok (.iconst 4, 1) := do_7 (rdb (p := 64) (i := 13) ch_cX12_text__64 rfl)
theorem dX12_text__78 : decode cX12_text_ 78 = .ok (.iconst 0, 1) := do_3 (rdb (p := 64) (i := 14) ch_cX12_text__64 rfl)
theorem dX12_text__79 : decode cX12_text_ 79 = .ok (.iastore, 1) := do_79 (rdb (p := 64) (i := 15) ch_cX12_text__64 rfl)
theorem dX12_text__80 : decode cX12_text_ 80 = .ok (.aload_n 0, 1) := do_42 (rdb (p := 64) (i := 16) ch_cX12_text__64 rfl)
theorem dX12_text__81 : decode cX12_text_ 81 = .ok (.getfield 151, 3) := do_180 (rdb (p := 64) (i := 17) ch_cX12_text__64 rfl) (rdb (p := 64) (i := 18) ch_cX12_text__64 rfl) (rdb (p := 64) (i := 19) ch_cX12_text__64 rfl) rfl
theorem dX12_text__84 : decode cX12_text_ 84 = .ok (.ifCond .eq 11, 3) := do_153 (rdb (p := 64) (i := 20) ch_cX12_text__64 rfl) (rdb (p := 64) (i := 21) ch_cX12_text__64 rfl) (rdb (p := 64) (i := 22) ch_cX12_text__64 rfl) (by decide +kernel)
theorem dX12_text__87 : decode cX12_text_ 87 = .ok (.bipush (-10), 2) := do_16 (rdb (p := 64) (i := 23) ch_cX12_text__64 rfl) (rdb (p := 64) (i := 24) ch_cX12_text__64 rfl) (by decide +kernel)
theorem dX12_text__89 : decode cX12_text_ 89 = .ok (.aload_n 0, 1) := do_42 (rdb (p := 64) (i := 25) ch_cX12_text__64 rfl)
theorem dX12_text__90 : decode cX12_text_ 90 = .ok (.getfield 155, 3) := do_180 (rdb (p := 64) (i := 26) ch_cX12_text__64 rfl) (rdb (p := 64) (i := 27) ch_cX12_text__64 rfl) (rdb (p := 64) (i := 28) ch_cX12_text__64 rfl) rfl
theorem dX12_text__93 : decode cX12_text_ 93 = .ok (.isub, 1) := do_100 (rdb (p := 64) (i := 29) ch_cX12_text__64 rfl)
theorem dX12_text__94 : decode cX12_text_ 94 = .ok (.ireturn, 1) := do_172 (rdb (p := 64) (i := 30) ch_cX12_text__64 rfl)
theorem dX12_text__95 : decode cX12_text_ 95 = .ok (.aload_n 0, 1) := do_42 (rdb (p := 64) (i := 31) ch_cX12_text__64 rfl)
theorem ch_cX12_text__96 : (cX12_text_.data.toList.drop 96).take 36 = [180, 0, 9, 17, 1, 89, 16, 50, 42, 180, 0, 181, 104, 96, 42, 180, 0, 162, 79, 3, 61, 28, 42, 180, 0, 162, 162, 0, 35, 42, 180, 0, 9, 17, 1, 89] := by decide +kernel
theorem dX12_text__96 : decode cX12_text_ 96 = .ok (.getfield 9, 3) := do_180 (rdb (p := 96) (i := 0) ch_cX12_text__96 rfl) (rdb (p := 96) (i := 1) ch_cX12_text__96 rfl) (rdb (p := 96) (i := 2) ch_cX12_text__96 rfl) rfl
theorem dX12_text__99 : decode cX12_text_ 99 = .ok (.sipush 345, 3) := do_17 (rdb (p := 96) (i := 3) ch_cX12_text__96 rfl) (rdb (p := 96) (i := 4) ch_cX12_text__96 rfl) (rdb (p := 96) (i := 5) ch_cX12_text__96 rfl) (by decide +kernel)
theorem dX12_text__102 : decode cX12_text_ 102 = .ok (.bipush 50, 2) := do_16 (rdb (p := 96) (i := 6) ch_cX12_text__96 rfl) (rdb (p := 96) (i := 7) ch_cX12_text__96 rfl) (by decide +kernel)
theorem dX12_text__104 : decode cX12_text_ 104 = .ok (.aload_n 0, 1) := do_42 (rdb (p := 96) (i := 8) ch_cX12_text__96 rfl)
theorem dX12_text__105 : decode cX12_text_ 105 = .ok (.getfield 181, 3) := do_180 (rdb (p := 96) (i := 9) ch_cX12_text__96 rfl) (rdb (p := 96) (i := 10) ch_cX12_text__96 rfl) (rdb (p := 96) (i := 11) ch_cX12_text__96 rfl) rfl
theorem dX12_text__108 : decode cX12_text_ 108 = .ok (.imul, 1) := do_104 (rdb (p := 96) (i := 12) ch_cX12_text__96 rfl)
theorem dX12_text__109 : decode cX12_text_ 109 = .ok (.iadd, 1) := do_96 (rdb (p := 96) (i := 13) ch_cX12_text__96 rfl)
theorem dX12_text__110 : decode cX12_text_ 110 = .ok (.aload_n 0, 1) := do_42 (rdb (p := 96) (i := 14) ch_cX12_text__96 rfl)
theorem dX12_text__111 : decode cX12_text_ 111 = .ok (.getfield 162, 3) := do_180 (rdb (p := 96) (i := 15) ch_cX12_text__96 rfl) (rdb (p := 96) (i := 16) ch_cX12_text__96 rfl) (rdb (p := 96) (i := 17) ch_cX12_text__96 rfl) rfl
theorem dX12_text__114 : decode cX12_text_ 114 = .ok (.iastore, 1) := do_79 (rdb (p := 96) (i := 18) ch_cX12_text__96 rfl)
theorem dX12_text__115 : decode cX12_text_ 115 = .ok (.iconst 0, 1) := do_3 (rdb (p := 96) (i := 19) ch_cX12_text__96 rfl)
theorem dX12_text__116 : decode cX12_text_ 116 = .ok (.istore_n 2, 1) := do_61 (rdb (p := 96) (i := 20) ch_cX12_text__96 rfl)
theorem dX12_text__117 : decode cX12_text_ 117 = .ok (.iload_n 2, 1) := do_28 (rdb (p := 96) (i := 21) ch_cX12_text__96 rfl)
theorem dX12_text__118 : decode cX12_text_ 118 = .ok (.aload_n 0, 1) := do_42 (rdb (p := 96) (i := 22) ch_cX12_text__96 rfl)
theorem dX12_text__119 : decode cX12_text_ 119 = .ok (.getfield 162, 3) := do_180 (rdb (p := 96) (i := 23) ch_cX12_text__96 rfl) (rdb (p := 96) (i := 24) ch_cX12_text__96 rfl) (rdb (p := 96) (i := 25) ch_cX12_text__96 rfl) rfl
theorem dX12_text__122 : decode cX12_text_ 122 = .ok (.if_icmp .ge 35, 3) := do_162 (rdb (p := 96) (i := 26) ch_cX12_text__96 rfl) (rdb (p := 96) (i := 27) ch_cX12_text__96 rfl) (rdb (p := 96) (i := 28) ch_cX12_text__96 rfl) (by decide +kernel)
theorem dX12_text__125 : decode cX12_text_ 125 = .ok (.aload_n 0, 1) := do_42 (rdb (p := 96) (i := 29) ch_cX12_text__96 rfl)
theorem dX12_text__126 : decode cX12_text_ 126 = .ok (.getfield 9, 3) := do_180 (rdb (p := 96) (i := 30) ch_cX12_text__96 rfl) (rdb (p := 96) (i := 31) ch_cX12_text__96 rfl) (rdb (p := 96) (i := 32) ch_cX12_text__96 rfl) rfl
theorem ch_cX12_text__128 : (cX12_text_.data.toList.drop 128).take 36 = [9, 17, 1, 89, 16, 50, 42, 180, 0, 181, 104, 96, 4, 96, 28, 96, 42, 180, 0, 44, 28, 46, 79, 132, 2, 1, 167, 255, 219, 42, 180, 0, 203, 172] := by decide +kernel
theorem dX12_text__129 : decode cX12_text_ 129 = .ok (.sipush 345, 3) := do_17 (rdb (p := 128) (i := 1) ch_cX12_text__128 rfl) (rdb (p := 128) (i := 2) ch_cX12_text__128 rfl) (rdb (p := 128) (i := 3) ch_cX12_text__128 rfl) (by decide +kernel)
theorem dX12_text__132 : decode cX12_text_ 132 = .ok (.bipush 50, 2) := do_16 (rdb (p := 128) (i := 4) ch_cX12_text__128 rfl) (rdb (p := 128) (i := 5) ch_cX12_text__128 rfl) (by decide +kernel)
theorem dX12_text__134 : decode cX12_text_ 134 = .ok (.aload_n 0, 1) := do_42 (rdb (p := 128) (i := 6) ch_cX12_text__128 rfl)
theorem dX12_text__135 : decode cX12_text_ 135 = .ok (.getfield 181, 3) := do_180 (rdb (p := 128) (i := 7) ch_cX12_text__128 rfl) (rdb (p := 128) (i := 8) ch_cX12_text__128 rfl) (rdb (p := 128) (i := 9) ch_cX12_text__128 rfl) rfl
theorem dX12_text__138 : decode cX12_text_ 138 = .ok (.imul, 1) := do_104 (rdb (p := 128) (i := 10) ch_cX12_text__128 rfl)
theorem dX12_text__139 : decode cX12_text_ 139 = .ok (.iadd, 1) := do_96 (rdb (p := 128) (i := 11) ch_cX12_text__128 rfl)
theorem dX12_text__140 : decode cX12_text_ 140 = .ok (.iconst 1, 1) := do_4 (rdb (p := 128) (i := 12) ch_cX12_text__128 rfl)
theorem dX12_text__141 : decode cX12_text_ 141 = .ok (.iadd, 1) := do_96 (rdb (p := 128) (i := 13) ch_cX12_text__128 rfl)
theorem dX12_text__142 : decode cX12_text_ 142 = .ok (.iload_n 2, 1) := do_28 (rdb (p := 128) (i := 14) ch_cX12_text__128 rfl)
theorem dX12_text__143 : decode cX12_text_ 143 = .ok (.iadd, 1) := do_96 (rdb (p := 128) (i := 15) ch_cX12_text__128 rfl)
theorem dX12_text__144 : decode cX12_text_ 144 = .ok (.aload_n 0, 1) := do_42 (rdb (p := 128) (i := 16) ch_cX12_text__128 rfl)
theorem dX12_text__145 : decode cX12_text_ 145 = .ok (.getfield 44, 3) := do_180 (rdb (p := 128) (i := 17) ch_cX12_text__128 rfl) (rdb (p := 128) (i := 18) ch_cX12_text__128 rfl) (rdb (p := 128) (i := 19) ch_cX12_text__128 rfl) rfl
theorem dX12_text__148 : decode cX12_text_ 148 = .ok (.iload_n 2, 1) := do_28 (rdb (p := 128) (i := 20) ch_cX12_text__128 rfl)
theorem dX12_text__149 : decode cX12_text_ 149 = .ok (.iaload, 1) := do_46 (rdb (p := 128) (i := 21) ch_cX12_text__128 rfl)
theorem dX12_text__150 : decode cX12_text_ 150 = .ok (.iastore, 1) := do_79 (rdb (p := 128) (i := 22) ch_cX12_text__128 rfl)
theorem dX12_text__151 : decode cX12_text_ 151 = .ok (.iinc 2 1, 3) := do_132 (rdb (p := 128) (i := 23) ch_cX12_text__128 rfl) (rdb (p := 128) (i := 24) ch_cX12_text__128 rfl) (rdb (p := 128) (i := 25) ch_cX12_text__128 rfl) (by decide +kernel)
theorem dX12_text__154 : decode cX12_text_ 154 = .ok (.goto (-37), 3) := do_167 (rdb (p := 128) (i := 26) ch_cX12_text__128 rfl) (rdb (p := 128) (i := 27) ch_cX12_text__128 rfl) (rdb (p := 128) (i := 28) ch_cX12_text__128 rfl) (by decide +kernel)
theorem dX12_text__157 : decode cX12_text_ 157 = .ok (.aload_n 0, 1) := do_42 (rdb (p := 128) (i := 29) ch_cX12_text__128 rfl)
theorem dX12_text__158 : decode cX12_text_ 158 = .ok (.getfield 203, 3) := do_180 (rdb (p := 128) (i := 30) ch_cX12_text__128 rfl) (rdb (p := 128) (i := 31) ch_cX12_text__128 rfl) (rdb (p := 128) (i := 32) ch_cX12_text__128 rfl) rfl
theorem ch_cX12_text__160 : (cX12_text_.data.toList.drop 160).take 36 = [203, 172] := by decide +kernel
theorem dX12_text__161 : decode cX12_text_ 161 = .ok (.ireturn, 1) := do_172 (rdb (p := 160) (i := 1) ch_cX12_text__160 rfl)
