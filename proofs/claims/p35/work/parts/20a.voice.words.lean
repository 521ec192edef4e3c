/-! words of the tables that are used, by their places; decode rows; fields -/
theorem m_1180 : Cond.methodLink RX11 343 yX8_speak ∈ BASE := bmem 1180 (by decide +kernel) rfl
theorem m_1181 : Cond.instanceMethod yX8_speak ∈ BASE := bmem 1181 (by decide +kernel) rfl
theorem m_1182 : Cond.selects yX8_speak.cls yX8_speak yX8_speak ∈ BASE := bmem 1182 (by decide +kernel) rfl
theorem m_1183 : Cond.code yX8_speak cX8_speak 5 (some .int) ∈ BASE := bmem 1183 (by decide +kernel) rfl
theorem m_1184 : Cond.methodLink RX8 35 yX5_clear ∈ BASE := bmem 1184 (by decide +kernel) rfl
theorem m_1205 : Cond.methodLink RX11 350 yX8_keepTrace ∈ BASE := bmem 1205 (by decide +kernel) rfl
theorem m_1206 : Cond.instanceMethod yX8_keepTrace ∈ BASE := bmem 1206 (by decide +kernel) rfl
theorem m_1207 : Cond.selects yX8_keepTrace.cls yX8_keepTrace yX8_keepTrace ∈ BASE := bmem 1207 (by decide +kernel) rfl
theorem m_1208 : Cond.code yX8_keepTrace cX8_keepTrace 1 none ∈ BASE := bmem 1208 (by decide +kernel) rfl
theorem kV_X8_keepTrace : KV yX8_keepTrace cX8_keepTrace 1 none 0 := ⟨m_1206, m_1207, m_90, m_1208, by decide +kernel, by decide +kernel, by decide +kernel⟩
theorem kV_X8_speak : KV yX8_speak cX8_speak 5 (some .int) 4 := ⟨m_1181, m_1182, m_90, m_1183, by decide +kernel, by decide +kernel, by decide +kernel⟩
theorem fl_RX11_347 : FLK RX11 347 8 5 .boolean false := ⟨RX8, TX8, 6, tyX8, rfl, inB8, tyX8_ok, nmX8, by decide, rfl, rfl, Or.inr ⟨"ClickStreet", List.mem_of_getElem? (l := NFs) (i := 45) rfl⟩⟩
theorem fl_RX8_38 : FLK RX8 38 9 0 .int false := ⟨RX9, TX9, 11, tyX9, rfl, inB9, tyX9_ok, nmX9, by decide, rfl, rfl, Or.inr ⟨"ClickStreet", List.mem_of_getElem? (l := NFs) (i := 13) rfl⟩⟩
theorem fl_RX8_41 : FLK RX8 41 9 3 .int false := ⟨RX9, TX9, 11, tyX9, rfl, inB9, tyX9_ok, nmX9, by decide, rfl, rfl, Or.inr ⟨"ClickStreet", List.mem_of_getElem? (l := NFs) (i := 19) rfl⟩⟩
theorem ch_cX11_voice_0 : (cX11_voice.data.toList.drop 0).take 36 = [42, 180, 0, 10, 27, 182, 0, 154, 153, 0, 12, 28, 3, 6, 184, 0, 89, 154, 0, 9, 42, 4, 182, 0, 67, 172, 42, 180, 0, 49, 42, 180, 0, 10, 180, 0] := by decide +kernel
theorem dX11_voice_0 : decode cX11_voice 0 = .ok (.aload_n 0, 1) := do_42 (rdb (p := 0) (i := 0) ch_cX11_voice_0 rfl)
theorem dX11_voice_1 : decode cX11_voice 1 = .ok (.getfield 10, 3) := do_180 (rdb (p := 0) (i := 1) ch_cX11_voice_0 rfl) (rdb (p := 0) (i := 2) ch_cX11_voice_0 rfl) (rdb (p := 0) (i := 3) ch_cX11_voice_0 rfl) rfl
theorem dX11_voice_4 : decode cX11_voice 4 = .ok (.iload_n 1, 1) := do_27 (rdb (p := 0) (i := 4) ch_cX11_voice_0 rfl)
theorem dX11_voice_5 : decode cX11_voice 5 = .ok (.invokevirtual 154, 3) := do_182 (rdb (p := 0) (i := 5) ch_cX11_voice_0 rfl) (rdb (p := 0) (i := 6) ch_cX11_voice_0 rfl) (rdb (p := 0) (i := 7) ch_cX11_voice_0 rfl) rfl
theorem dX11_voice_8 : decode cX11_voice 8 = .ok (.ifCond .eq 12, 3) := do_153 (rdb (p := 0) (i := 8) ch_cX11_voice_0 rfl) (rdb (p := 0) (i := 9) ch_cX11_voice_0 rfl) (rdb (p := 0) (i := 10) ch_cX11_voice_0 rfl) (by decide +kernel)
theorem dX11_voice_11 : decode cX11_voice 11 = .ok (.iload_n 2, 1) := do_28 (rdb (p := 0) (i := 11) ch_cX11_voice_0 rfl)
theorem dX11_voice_12 : decode cX11_voice 12 = .ok (.iconst 0, 1) := do_3 (rdb (p := 0) (i := 12) ch_cX11_voice_0 rfl)
theorem dX11_voice_13 : decode cX11_voice 13 = .ok (.iconst 3, 1) := do_6 (rdb (p := 0) (i := 13) ch_cX11_voice_0 rfl)
theorem dX11_voice_14 : decode cX11_voice 14 = .ok (.invokestatic 89, 3) := do_184 (rdb (p := 0) (i := 14) ch_cX11_voice_0 rfl) (rdb (p := 0) (i := 15) ch_cX11_voice_0 rfl) (rdb (p := 0) (i := 16) ch_cX11_voice_0 rfl) rfl
theorem dX11_voice_17 : decode cX11_voice 17 = .ok (.ifCond .ne 9, 3) := do_154 (rdb (p := 0) (i := 17) ch_cX11_voice_0 rfl) (rdb (p := 0) (i := 18) ch_cX11_voice_0 rfl) (rdb (p := 0) (i := 19) ch_cX11_voice_0 rfl) (by decide +kernel)
theorem dX11_voice_20 : decode cX11_voice 20 = .ok (.aload_n 0, 1) := do_42 (rdb (p := 0) (i := 20) ch_cX11_voice_0 rfl)
theorem dX11_voice_21 : decode cX11_voice 21 = .ok (.iconst 1, 1) := do_4 (rdb (p := 0) (i := 21) ch_cX11_voice_0 rfl)
theorem dX11_voice_22 : decode cX11_voice 22 = .ok (.invokevirtual 67, 3) := do_182 (rdb (p := 0) (i := 22) ch_cX11_voice_0 rfl) (rdb (p := 0) (i := 23) ch_cX11_voice_0 rfl) (rdb (p := 0) (i := 24) ch_cX11_voice_0 rfl) rfl
theorem dX11_voice_25 : decode cX11_voice 25 = .ok (.ireturn, 1) := do_172 (rdb (p := 0) (i := 25) ch_cX11_voice_0 rfl)
theorem dX11_voice_26 : decode cX11_voice 26 = .ok (.aload_n 0, 1) := do_42 (rdb (p := 0) (i := 26) ch_cX11_voice_0 rfl)
theorem dX11_voice_27 : decode cX11_voice 27 = .ok (.getfield 49, 3) := do_180 (rdb (p := 0) (i := 27) ch_cX11_voice_0 rfl) (rdb (p := 0) (i := 28) ch_cX11_voice_0 rfl) (rdb (p := 0) (i := 29) ch_cX11_voice_0 rfl) rfl
theorem dX11_voice_30 : decode cX11_voice 30 = .ok (.aload_n 0, 1) := do_42 (rdb (p := 0) (i := 30) ch_cX11_voice_0 rfl)
theorem dX11_voice_31 : decode cX11_voice 31 = .ok (.getfield 10, 3) := do_180 (rdb (p := 0) (i := 31) ch_cX11_voice_0 rfl) (rdb (p := 0) (i := 32) ch_cX11_voice_0 rfl) (rdb (p := 0) (i := 33) ch_cX11_voice_0 rfl) rfl
theorem ch_cX11_voice_32 : (cX11_voice.data.toList.drop 32).take 36 = [0, 10, 180, 0, 157, 27, 50, 27, 28, 29, 182, 1, 87, 54, 4, 42, 180, 0, 49, 180, 1, 91, 153, 0, 10, 42, 16, 6, 182, 0, 67, 172, 42, 180, 0, 49] := by decide +kernel
theorem dX11_voice_34 : decode cX11_voice 34 = .ok (.getfield 157, 3) := do_180 (rdb (p := 32) (i := 2) ch_cX11_voice_32 rfl) (rdb (p := 32) (i := 3) ch_cX11_voice_32 rfl) (rdb (p := 32) (i := 4) ch_cX11_voice_32 rfl) rfl
theorem dX11_voice_37 : decode cX11_voice 37 = .ok (.iload_n 1, 1) := do_27 (rdb (p := 32) (i := 5) ch_cX11_voice_32 rfl)
theorem dX11_voice_38 : decode cX11_voice 38 = .ok (.aaload, 1) := do_50 (rdb (p := 32) (i := 6) ch_cX11_voice_32 rfl)
theorem dX11_voice_39 : decode cX11_voice 39 = .ok (.iload_n 1, 1) := do_27 (rdb (p := 32) (i := 7) ch_cX11_voice_32 rfl)
theorem dX11_voice_40 : decode cX11_voice 40 = .ok (.iload_n 2, 1) := do_28 (rdb (p := 32) (i := 8) ch_cX11_voice_32 rfl)
theorem dX11_voice_41 : decode cX11_voice 41 = .ok (.iload_n 3, 1) := do_29 (rdb (p := 32) (i := 9) ch_cX11_voice_32 rfl)
theorem dX11_voice_42 : decode cX11_voice 42 = .ok (.invokevirtual 343, 3) := do_182 (rdb (p := 32) (i := 10) ch_cX11_voice_32 rfl) (rdb (p := 32) (i := 11) ch_cX11_voice_32 rfl) (rdb (p := 32) (i := 12) ch_cX11_voice_32 rfl) rfl
theorem dX11_voice_45 : decode cX11_voice 45 = .ok (.istore 4, 2) := do_54 (rdb (p := 32) (i := 13) ch_cX11_voice_32 rfl) (rdb (p := 32) (i := 14) ch_cX11_voice_32 rfl)
theorem dX11_voice_47 : decode cX11_voice 47 = .ok (.aload_n 0, 1) := do_42 (rdb (p := 32) (i := 15) ch_cX11_voice_32 rfl)
theorem dX11_voice_48 : decode cX11_voice 48 = .ok (.getfield 49, 3) := do_180 (rdb (p := 32) (i := 16) ch_cX11_voice_32 rfl) (rdb (p := 32) (i := 17) ch_cX11_voice_32 rfl) (rdb (p := 32) (i := 18) ch_cX11_voice_32 rfl) rfl
theorem dX11_voice_51 : decode cX11_voice 51 = .ok (.getfield 347, 3) := do_180 (rdb (p := 32) (i := 19) ch_cX11_voice_32 rfl) (rdb (p := 32) (i := 20) ch_cX11_voice_32 rfl) (rdb (p := 32) (i := 21) ch_cX11_voice_32 rfl) rfl
theorem dX11_voice_54 : decode cX11_voice 54 = .ok (.ifCond .eq 10, 3) := do_153 (rdb (p := 32) (i := 22) ch_cX11_voice_32 rfl) (rdb (p := 32) (i := 23) ch_cX11_voice_32 rfl) (rdb (p := 32) (i := 24) ch_cX11_voice_32 rfl) (by decide +kernel)
theorem dX11_voice_57 : decode cX11_voice 57 = .ok (.aload_n 0, 1) := do_42 (rdb (p := 32) (i := 25) ch_cX11_voice_32 rfl)
theorem dX11_voice_58 : decode cX11_voice 58 = .ok (.bipush 6, 2) := do_16 (rdb (p := 32) (i := 26) ch_cX11_voice_32 rfl) (rdb (p := 32) (i := 27) ch_cX11_voice_32 rfl) (by decide +kernel)
theorem dX11_voice_60 : decode cX11_voice 60 = .ok (.invokevirtual 67, 3) := do_182 (rdb (p := 32) (i := 28) ch_cX11_voice_32 rfl) (rdb (p := 32) (i := 29) ch_cX11_voice_32 rfl) (rdb (p := 32) (i := 30) ch_cX11_voice_32 rfl) rfl
theorem dX11_voice_63 : decode cX11_voice 63 = .ok (.ireturn, 1) := do_172 (rdb (p := 32) (i := 31) ch_cX11_voice_32 rfl)
theorem ch_cX11_voice_64 : (cX11_voice.data.toList.drop 64).take 36 = [42, 180, 0, 49, 182, 1, 94, 21, 4, 172] := by decide +kernel
theorem dX11_voice_64 : decode cX11_voice 64 = .ok (.aload_n 0, 1) := do_42 (rdb (p := 64) (i := 0) ch_cX11_voice_64 rfl)
theorem dX11_voice_65 : decode cX11_voice 65 = .ok (.getfield 49, 3) := do_180 (rdb (p := 64) (i := 1) ch_cX11_voice_64 rfl) (rdb (p := 64) (i := 2) ch_cX11_voice_64 rfl) (rdb (p := 64) (i := 3) ch_cX11_voice_64 rfl) rfl
theorem dX11_voice_68 : decode cX11_voice 68 = .ok (.invokevirtual 350, 3) := do_182 (rdb (p := 64) (i := 4) ch_cX11_voice_64 rfl) (rdb (p := 64) (i := 5) ch_cX11_voice_64 rfl) (rdb (p := 64) (i := 6) ch_cX11_voice_64 rfl) rfl
theorem dX11_voice_71 : decode cX11_voice 71 = .ok (.iload 4, 2) := do_21 (rdb (p := 64) (i := 7) ch_cX11_voice_64 rfl) (rdb (p := 64) (i := 8) ch_cX11_voice_64 rfl)
theorem dX11_voice_73 : decode cX11_voice 73 = .ok (.ireturn, 1) := do_172 (rdb (p := 64) (i := 9) ch_cX11_voice_64 rfl)
theorem ch_cX8_speak_0 : (cX8_speak.data.toList.drop 0).take 36 = [42, 180, 0, 12, 182, 0, 35, 42, 43, 180, 0, 38, 181, 0, 21, 42, 28, 181, 0, 25, 42, 43, 180, 0, 41, 181, 0, 28, 42, 3, 181, 0, 31, 42, 42, 180] := by decide +kernel
theorem dX8_speak_0 : decode cX8_speak 0 = .ok (.aload_n 0, 1) := do_42 (rdb (p := 0) (i := 0) ch_cX8_speak_0 rfl)
theorem dX8_speak_1 : decode cX8_speak 1 = .ok (.getfield 12, 3) := do_180 (rdb (p := 0) (i := 1) ch_cX8_speak_0 rfl) (rdb (p := 0) (i := 2) ch_cX8_speak_0 rfl) (rdb (p := 0) (i := 3) ch_cX8_speak_0 rfl) rfl
theorem dX8_speak_4 : decode cX8_speak 4 = .ok (.invokevirtual 35, 3) := do_182 (rdb (p := 0) (i := 4) ch_cX8_speak_0 rfl) (rdb (p := 0) (i := 5) ch_cX8_speak_0 rfl) (rdb (p := 0) (i := 6) ch_cX8_speak_0 rfl) rfl
theorem dX8_speak_7 : decode cX8_speak 7 = .ok (.aload_n 0, 1) := do_42 (rdb (p := 0) (i := 7) ch_cX8_speak_0 rfl)
theorem dX8_speak_8 : decode cX8_speak 8 = .ok (.aload_n 1, 1) := do_43 (rdb (p := 0) (i := 8) ch_cX8_speak_0 rfl)
theorem dX8_speak_9 : decode cX8_speak 9 = .ok (.getfield 38, 3) := do_180 (rdb (p := 0) (i := 9) ch_cX8_speak_0 rfl) (rdb (p := 0) (i := 10) ch_cX8_speak_0 rfl) (rdb (p := 0) (i := 11) ch_cX8_speak_0 rfl) rfl
theorem dX8_speak_12 : decode cX8_speak 12 = .ok (.putfield 21, 3) := do_181 (rdb (p := 0) (i := 12) ch_cX8_speak_0 rfl) (rdb (p := 0) (i := 13) ch_cX8_speak_0 rfl) (rdb (p := 0) (i := 14) ch_cX8_speak_0 rfl) rfl
theorem dX8_speak_15 : decode cX8_speak 15 = .ok (.aload_n 0, 1) := do_42 (rdb (p := 0) (i := 15) ch_cX8_speak_0 rfl)
theorem dX8_speak_16 : decode cX8_speak 16 = .ok (.iload_n 2, 1) := do_28 (rdb (p := 0) (i := 16) ch_cX8_speak_0 rfl)
theorem dX8_speak_17 : decode cX8_speak 17 = .ok (.putfield 25, 3) := do_181 (rdb (p := 0) (i := 17) ch_cX8_speak_0 rfl) (rdb (p := 0) (i := 18) ch_cX8_speak_0 rfl) (rdb (p := 0) (i := 19) ch_cX8_speak_0 rfl) rfl
theorem dX8_speak_20 : decode cX8_speak 20 = .ok (.aload_n 0, 1) := do_42 (rdb (p := 0) (i := 20) ch_cX8_speak_0 rfl)
theorem dX8_speak_21 : decode cX8_speak 21 = .ok (.aload_n 1, 1) := do_43 (rdb (p := 0) (i := 21) ch_cX8_speak_0 rfl)
theorem dX8_speak_22 : decode cX8_speak 22 = .ok (.getfield 41, 3) := do_180 (rdb (p := 0) (i := 22) ch_cX8_speak_0 rfl) (rdb (p := 0) (i := 23) ch_cX8_speak_0 rfl) (rdb (p := 0) (i := 24) ch_cX8_speak_0 rfl) rfl
theorem dX8_speak_25 : decode cX8_speak 25 = .ok (.putfield 28, 3) := do_181 (rdb (p := 0) (i := 25) ch_cX8_speak_0 rfl) (rdb (p := 0) (i := 26) ch_cX8_speak_0 rfl) (rdb (p := 0) (i := 27) ch_cX8_speak_0 rfl) rfl
theorem dX8_speak_28 : decode cX8_speak 28 = .ok (.aload_n 0, 1) := do_42 (rdb (p := 0) (i := 28) ch_cX8_speak_0 rfl)
theorem dX8_speak_29 : decode cX8_speak 29 = .ok (.iconst 0, 1) := do_3 (rdb (p := 0) (i := 29) ch_cX8_speak_0 rfl)
theorem dX8_speak_30 : decode cX8_speak 30 = .ok (.putfield 31, 3) := do_181 (rdb (p := 0) (i := 30) ch_cX8_speak_0 rfl) (rdb (p := 0) (i := 31) ch_cX8_speak_0 rfl) (rdb (p := 0) (i := 32) ch_cX8_speak_0 rfl) rfl
theorem ch_cX8_speak_32 : (cX8_speak.data.toList.drop 32).take 36 = [31, 42, 42, 180, 0, 21, 29, 21, 4, 3, 182, 0, 42, 172] := by decide +kernel
theorem dX8_speak_33 : decode cX8_speak 33 = .ok (.aload_n 0, 1) := do_42 (rdb (p := 32) (i := 1) ch_cX8_speak_32 rfl)
theorem dX8_speak_34 : decode cX8_speak 34 = .ok (.aload_n 0, 1) := do_42 (rdb (p := 32) (i := 2) ch_cX8_speak_32 rfl)
theorem dX8_speak_35 : decode cX8_speak 35 = .ok (.getfield 21, 3) := do_180 (rdb (p := 32) (i := 3) ch_cX8_speak_32 rfl) (rdb (p := 32) (i := 4) ch_cX8_speak_32 rfl) (rdb (p := 32) (i := 5) ch_cX8_speak_32 rfl) rfl
theorem dX8_speak_38 : decode cX8_speak 38 = .ok (.iload_n 3, 1) := do_29 (rdb (p := 32) (i := 6) ch_cX8_speak_32 rfl)
theorem dX8_speak_39 : decode cX8_speak 39 = .ok (.iload 4, 2) := do_21 (rdb (p := 32) (i := 7) ch_cX8_speak_32 rfl) (rdb (p := 32) (i := 8) ch_cX8_speak_32 rfl)
theorem dX8_speak_41 : decode cX8_speak 41 = .ok (.iconst 0, 1) := do_3 (rdb (p := 32) (i := 9) ch_cX8_speak_32 rfl)
theorem dX8_speak_42 : decode cX8_speak 42 = .ok (.invokevirtual 42, 3) := do_182 (rdb (p := 32) (i := 10) ch_cX8_speak_32 rfl) (rdb (p := 32) (i := 11) ch_cX8_speak_32 rfl) (rdb (p := 32) (i := 12) ch_cX8_speak_32 rfl) rfl
theorem dX8_speak_45 : decode cX8_speak 45 = .ok (.ireturn, 1) := do_172 (rdb (p := 32) (i := 13) ch_cX8_speak_32 rfl)
