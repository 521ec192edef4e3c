/-! words of the tables that are used, by their places; decode rows; fields -/
theorem m_21 : Cond.selects yX8_say.cls yX8_say yX8_say ∈ BASE := bmem 21 (by decide +kernel) rfl
theorem m_22 : Cond.selects yX8_run.cls yX8_run yX8_run ∈ BASE := bmem 22 (by decide +kernel) rfl
theorem m_23 : Cond.selects yX8_own.cls yX8_own yX8_own ∈ BASE := bmem 23 (by decide +kernel) rfl
theorem m_24 : Cond.selects yX8_parted.cls yX8_parted yX8_parted ∈ BASE := bmem 24 (by decide +kernel) rfl
theorem m_90 : Cond.initialized RX8 ∈ BASE := bmem 90 (by decide +kernel) rfl
theorem m_422 : Cond.fieldLink RX8 21 "ClickStreet$Voices" "kind" "I" ∈ BASE := bmem 422 (by decide +kernel) rfl
theorem m_424 : Cond.fieldLink RX8 28 "ClickStreet$Voices" "pitch" "I" ∈ BASE := bmem 424 (by decide +kernel) rfl
theorem m_1185 : Cond.methodLink RX8 42 yX8_say ∈ BASE := bmem 1185 (by decide +kernel) rfl
theorem m_1187 : Cond.instanceMethod yX8_say ∈ BASE := bmem 1187 (by decide +kernel) rfl
theorem m_1188 : Cond.code yX8_say cX8_say 9 (some .int) ∈ BASE := bmem 1188 (by decide +kernel) rfl
theorem m_1189 : Cond.fieldLink RX8 50 "ClickStreet$Voices" "BODIES" "[I" ∈ BASE := bmem 1189 (by decide +kernel) rfl
theorem m_1191 : Cond.methodLink RX8 54 yX8_run ∈ BASE := bmem 1191 (by decide +kernel) rfl
theorem m_1193 : Cond.instanceMethod yX8_run ∈ BASE := bmem 1193 (by decide +kernel) rfl
theorem m_1194 : Cond.code yX8_run cX8_run 5 (some .int) ∈ BASE := bmem 1194 (by decide +kernel) rfl
theorem m_1195 : Cond.methodLink RX8 62 yX5_add ∈ BASE := bmem 1195 (by decide +kernel) rfl
theorem m_1196 : Cond.methodLink RX8 58 yX9_kindAbove ∈ BASE := bmem 1196 (by decide +kernel) rfl
theorem m_1197 : Cond.methodLink RX8 65 yX8_own ∈ BASE := bmem 1197 (by decide +kernel) rfl
theorem m_1199 : Cond.instanceMethod yX8_own ∈ BASE := bmem 1199 (by decide +kernel) rfl
theorem m_1200 : Cond.code yX8_own cX8_own 4 (some .int) ∈ BASE := bmem 1200 (by decide +kernel) rfl
theorem m_1201 : Cond.methodLink RX8 68 yX8_parted ∈ BASE := bmem 1201 (by decide +kernel) rfl
theorem m_1203 : Cond.instanceMethod yX8_parted ∈ BASE := bmem 1203 (by decide +kernel) rfl
theorem m_1204 : Cond.code yX8_parted cX8_parted 2 (some .int) ∈ BASE := bmem 1204 (by decide +kernel) rfl
theorem kV_X8_own : KV yX8_own cX8_own 4 (some .int) 3 := ⟨m_1199, m_23, m_90, m_1200, by decide +kernel, by decide +kernel, by decide +kernel⟩
theorem kV_X8_parted : KV yX8_parted cX8_parted 2 (some .int) 1 := ⟨m_1203, m_24, m_90, m_1204, by decide +kernel, by decide +kernel, by decide +kernel⟩
theorem kV_X8_run : KV yX8_run cX8_run 5 (some .int) 3 := ⟨m_1193, m_22, m_90, m_1194, by decide +kernel, by decide +kernel, by decide +kernel⟩
theorem kV_X8_say : KV yX8_say cX8_say 9 (some .int) 4 := ⟨m_1187, m_21, m_90, m_1188, by decide +kernel, by decide +kernel, by decide +kernel⟩
theorem fl_RX8_21 : FLK RX8 21 8 2 .int false := ⟨RX8, TX8, 6, tyX8, rfl, inB8, tyX8_ok, nmX8, by decide, rfl, rfl, Or.inl m_422⟩
theorem fl_RX8_28 : FLK RX8 28 8 4 .int false := ⟨RX8, TX8, 6, tyX8, rfl, inB8, tyX8_ok, nmX8, by decide, rfl, rfl, Or.inl m_424⟩
theorem dX8_own_0 : decode cX8_own 0 = .ok (.aload_n 0, 1) := by decide +kernel
theorem dX8_own_1 : decode cX8_own 1 = .ok (.aload_n 0, 1) := by decide +kernel
theorem dX8_own_2 : decode cX8_own 2 = .ok (.getfield 21, 3) := by decide +kernel
theorem dX8_own_5 : decode cX8_own 5 = .ok (.iload_n 1, 1) := by decide +kernel
theorem dX8_own_6 : decode cX8_own 6 = .ok (.iload_n 2, 1) := by decide +kernel
theorem dX8_own_7 : decode cX8_own 7 = .ok (.iload_n 3, 1) := by decide +kernel
theorem dX8_own_8 : decode cX8_own 8 = .ok (.invokevirtual 42, 3) := by decide +kernel
theorem dX8_own_11 : decode cX8_own 11 = .ok (.ireturn, 1) := by decide +kernel
theorem ch_cX8_run_0 : (cX8_run.data.toList.drop 0).take 36 = [42, 180, 0, 12, 27, 182, 0, 62, 27, 16, 10, 108, 4, 100, 184, 0, 58, 54, 4, 27, 171, 0, 0, 0, 0, 0, 1, 45, 0, 0, 0, 14, 0, 0, 0, 10] := by decide +kernel
theorem dX8_run_0 : decode cX8_run 0 = .ok (.aload_n 0, 1) := do_42 (rdb (p := 0) (i := 0) ch_cX8_run_0 rfl)
theorem dX8_run_1 : decode cX8_run 1 = .ok (.getfield 12, 3) := do_180 (rdb (p := 0) (i := 1) ch_cX8_run_0 rfl) (rdb (p := 0) (i := 2) ch_cX8_run_0 rfl) (rdb (p := 0) (i := 3) ch_cX8_run_0 rfl) rfl
theorem dX8_run_4 : decode cX8_run 4 = .ok (.iload_n 1, 1) := do_27 (rdb (p := 0) (i := 4) ch_cX8_run_0 rfl)
theorem dX8_run_5 : decode cX8_run 5 = .ok (.invokevirtual 62, 3) := do_182 (rdb (p := 0) (i := 5) ch_cX8_run_0 rfl) (rdb (p := 0) (i := 6) ch_cX8_run_0 rfl) (rdb (p := 0) (i := 7) ch_cX8_run_0 rfl) rfl
theorem dX8_run_8 : decode cX8_run 8 = .ok (.iload_n 1, 1) := do_27 (rdb (p := 0) (i := 8) ch_cX8_run_0 rfl)
theorem dX8_run_9 : decode cX8_run 9 = .ok (.bipush 10, 2) := do_16 (rdb (p := 0) (i := 9) ch_cX8_run_0 rfl) (rdb (p := 0) (i := 10) ch_cX8_run_0 rfl) (by decide +kernel)
theorem dX8_run_11 : decode cX8_run 11 = .ok (.idiv, 1) := do_108 (rdb (p := 0) (i := 11) ch_cX8_run_0 rfl)
theorem dX8_run_12 : decode cX8_run 12 = .ok (.iconst 1, 1) := do_4 (rdb (p := 0) (i := 12) ch_cX8_run_0 rfl)
theorem dX8_run_13 : decode cX8_run 13 = .ok (.isub, 1) := do_100 (rdb (p := 0) (i := 13) ch_cX8_run_0 rfl)
theorem dX8_run_14 : decode cX8_run 14 = .ok (.invokestatic 58, 3) := do_184 (rdb (p := 0) (i := 14) ch_cX8_run_0 rfl) (rdb (p := 0) (i := 15) ch_cX8_run_0 rfl) (rdb (p := 0) (i := 16) ch_cX8_run_0 rfl) rfl
theorem dX8_run_17 : decode cX8_run 17 = .ok (.istore 4, 2) := do_54 (rdb (p := 0) (i := 17) ch_cX8_run_0 rfl) (rdb (p := 0) (i := 18) ch_cX8_run_0 rfl)
theorem dX8_run_19 : decode cX8_run 19 = .ok (.iload_n 1, 1) := do_27 (rdb (p := 0) (i := 19) ch_cX8_run_0 rfl)
theorem dX8_run_20 : decode cX8_run 20 = .ok (.lookupswitch 301 #[(10, 124), (11, 131), (12, 141), (13, 154), (20, 160), (21, 172), (30, 190), (40, 205), (41, 217), (50, 229), (60, 241), (70, 253), (71, 265), (80, 283)], 124) := by decide +kernel
theorem ch_cX8_run_128 : (cX8_run.data.toList.drop 128).take 36 = [0, 0, 0, 71, 0, 0, 1, 9, 0, 0, 0, 80, 0, 0, 1, 27, 28, 42, 180, 0, 28, 96, 172, 42, 3, 28, 29, 182, 0, 65, 5, 104, 172, 42, 4, 28] := by decide +kernel
theorem dX8_run_144 : decode cX8_run 144 = .ok (.iload_n 2, 1) := do_28 (rdb (p := 128) (i := 16) ch_cX8_run_128 rfl)
theorem dX8_run_145 : decode cX8_run 145 = .ok (.aload_n 0, 1) := do_42 (rdb (p := 128) (i := 17) ch_cX8_run_128 rfl)
theorem dX8_run_146 : decode cX8_run 146 = .ok (.getfield 28, 3) := do_180 (rdb (p := 128) (i := 18) ch_cX8_run_128 rfl) (rdb (p := 128) (i := 19) ch_cX8_run_128 rfl) (rdb (p := 128) (i := 20) ch_cX8_run_128 rfl) rfl
theorem dX8_run_149 : decode cX8_run 149 = .ok (.iadd, 1) := do_96 (rdb (p := 128) (i := 21) ch_cX8_run_128 rfl)
theorem dX8_run_150 : decode cX8_run 150 = .ok (.ireturn, 1) := do_172 (rdb (p := 128) (i := 22) ch_cX8_run_128 rfl)
theorem dX8_run_151 : decode cX8_run 151 = .ok (.aload_n 0, 1) := do_42 (rdb (p := 128) (i := 23) ch_cX8_run_128 rfl)
theorem dX8_run_152 : decode cX8_run 152 = .ok (.iconst 0, 1) := do_3 (rdb (p := 128) (i := 24) ch_cX8_run_128 rfl)
theorem dX8_run_153 : decode cX8_run 153 = .ok (.iload_n 2, 1) := do_28 (rdb (p := 128) (i := 25) ch_cX8_run_128 rfl)
theorem dX8_run_154 : decode cX8_run 154 = .ok (.iload_n 3, 1) := do_29 (rdb (p := 128) (i := 26) ch_cX8_run_128 rfl)
theorem dX8_run_155 : decode cX8_run 155 = .ok (.invokevirtual 65, 3) := do_182 (rdb (p := 128) (i := 27) ch_cX8_run_128 rfl) (rdb (p := 128) (i := 28) ch_cX8_run_128 rfl) (rdb (p := 128) (i := 29) ch_cX8_run_128 rfl) rfl
theorem dX8_run_158 : decode cX8_run 158 = .ok (.iconst 2, 1) := do_5 (rdb (p := 128) (i := 30) ch_cX8_run_128 rfl)
theorem dX8_run_159 : decode cX8_run 159 = .ok (.imul, 1) := do_104 (rdb (p := 128) (i := 31) ch_cX8_run_128 rfl)
theorem ch_cX8_run_160 : (cX8_run.data.toList.drop 160).take 36 = [172, 42, 4, 28, 29, 182, 0, 65, 42, 180, 0, 25, 100, 172, 42, 28, 182, 0, 68, 172, 42, 21, 4, 3, 28, 29, 182, 0, 42, 6, 104, 172, 42, 21, 4, 6] := by decide +kernel
theorem dX8_run_160 : decode cX8_run 160 = .ok (.ireturn, 1) := do_172 (rdb (p := 160) (i := 0) ch_cX8_run_160 rfl)
theorem dX8_run_161 : decode cX8_run 161 = .ok (.aload_n 0, 1) := do_42 (rdb (p := 160) (i := 1) ch_cX8_run_160 rfl)
theorem dX8_run_162 : decode cX8_run 162 = .ok (.iconst 1, 1) := do_4 (rdb (p := 160) (i := 2) ch_cX8_run_160 rfl)
theorem dX8_run_163 : decode cX8_run 163 = .ok (.iload_n 2, 1) := do_28 (rdb (p := 160) (i := 3) ch_cX8_run_160 rfl)
theorem dX8_run_164 : decode cX8_run 164 = .ok (.iload_n 3, 1) := do_29 (rdb (p := 160) (i := 4) ch_cX8_run_160 rfl)
theorem dX8_run_165 : decode cX8_run 165 = .ok (.invokevirtual 65, 3) := do_182 (rdb (p := 160) (i := 5) ch_cX8_run_160 rfl) (rdb (p := 160) (i := 6) ch_cX8_run_160 rfl) (rdb (p := 160) (i := 7) ch_cX8_run_160 rfl) rfl
theorem dX8_run_168 : decode cX8_run 168 = .ok (.aload_n 0, 1) := do_42 (rdb (p := 160) (i := 8) ch_cX8_run_160 rfl)
theorem dX8_run_169 : decode cX8_run 169 = .ok (.getfield 25, 3) := do_180 (rdb (p := 160) (i := 9) ch_cX8_run_160 rfl) (rdb (p := 160) (i := 10) ch_cX8_run_160 rfl) (rdb (p := 160) (i := 11) ch_cX8_run_160 rfl) rfl
theorem dX8_run_172 : decode cX8_run 172 = .ok (.isub, 1) := do_100 (rdb (p := 160) (i := 12) ch_cX8_run_160 rfl)
theorem dX8_run_173 : decode cX8_run 173 = .ok (.ireturn, 1) := do_172 (rdb (p := 160) (i := 13) ch_cX8_run_160 rfl)
theorem dX8_run_174 : decode cX8_run 174 = .ok (.aload_n 0, 1) := do_42 (rdb (p := 160) (i := 14) ch_cX8_run_160 rfl)
theorem dX8_run_175 : decode cX8_run 175 = .ok (.iload_n 2, 1) := do_28 (rdb (p := 160) (i := 15) ch_cX8_run_160 rfl)
theorem dX8_run_176 : decode cX8_run 176 = .ok (.invokevirtual 68, 3) := do_182 (rdb (p := 160) (i := 16) ch_cX8_run_160 rfl) (rdb (p := 160) (i := 17) ch_cX8_run_160 rfl) (rdb (p := 160) (i := 18) ch_cX8_run_160 rfl) rfl
theorem dX8_run_179 : decode cX8_run 179 = .ok (.ireturn, 1) := do_172 (rdb (p := 160) (i := 19) ch_cX8_run_160 rfl)
theorem dX8_run_180 : decode cX8_run 180 = .ok (.aload_n 0, 1) := do_42 (rdb (p := 160) (i := 20) ch_cX8_run_160 rfl)
theorem dX8_run_181 : decode cX8_run 181 = .ok (.iload 4, 2) := do_21 (rdb (p := 160) (i := 21) ch_cX8_run_160 rfl) (rdb (p := 160) (i := 22) ch_cX8_run_160 rfl)
theorem dX8_run_183 : decode cX8_run 183 = .ok (.iconst 0, 1) := do_3 (rdb (p := 160) (i := 23) ch_cX8_run_160 rfl)
theorem dX8_run_184 : decode cX8_run 184 = .ok (.iload_n 2, 1) := do_28 (rdb (p := 160) (i := 24) ch_cX8_run_160 rfl)
theorem dX8_run_185 : decode cX8_run 185 = .ok (.iload_n 3, 1) := do_29 (rdb (p := 160) (i := 25) ch_cX8_run_160 rfl)
theorem dX8_run_186 : decode cX8_run 186 = .ok (.invokevirtual 42, 3) := do_182 (rdb (p := 160) (i := 26) ch_cX8_run_160 rfl) (rdb (p := 160) (i := 27) ch_cX8_run_160 rfl) (rdb (p := 160) (i := 28) ch_cX8_run_160 rfl) rfl
theorem dX8_run_189 : decode cX8_run 189 = .ok (.iconst 3, 1) := do_6 (rdb (p := 160) (i := 29) ch_cX8_run_160 rfl)
theorem dX8_run_190 : decode cX8_run 190 = .ok (.imul, 1) := do_104 (rdb (p := 160) (i := 30) ch_cX8_run_160 rfl)
theorem dX8_run_191 : decode cX8_run 191 = .ok (.ireturn, 1) := do_172 (rdb (p := 160) (i := 31) ch_cX8_run_160 rfl)
theorem ch_cX8_run_192 : (cX8_run.data.toList.drop 192).take 36 = [42, 21, 4, 6, 28, 29, 182, 0, 42, 42, 5, 4, 29, 182, 0, 65, 96, 172, 42, 21, 4, 4, 28, 29, 182, 0, 42, 42, 180, 0, 28, 130, 172, 3, 42, 21] := by decide +kernel
theorem dX8_run_192 : decode cX8_run 192 = .ok (.aload_n 0, 1) := do_42 (rdb (p := 192) (i := 0) ch_cX8_run_192 rfl)
theorem dX8_run_193 : decode cX8_run 193 = .ok (.iload 4, 2) := do_21 (rdb (p := 192) (i := 1) ch_cX8_run_192 rfl) (rdb (p := 192) (i := 2) ch_cX8_run_192 rfl)
theorem dX8_run_195 : decode cX8_run 195 = .ok (.iconst 3, 1) := do_6 (rdb (p := 192) (i := 3) ch_cX8_run_192 rfl)
theorem dX8_run_196 : decode cX8_run 196 = .ok (.iload_n 2, 1) := do_28 (rdb (p := 192) (i := 4) ch_cX8_run_192 rfl)
theorem dX8_run_197 : decode cX8_run 197 = .ok (.iload_n 3, 1) := do_29 (rdb (p := 192) (i := 5) ch_cX8_run_192 rfl)
theorem dX8_run_198 : decode cX8_run 198 = .ok (.invokevirtual 42, 3) := do_182 (rdb (p := 192) (i := 6) ch_cX8_run_192 rfl) (rdb (p := 192) (i := 7) ch_cX8_run_192 rfl) (rdb (p := 192) (i := 8) ch_cX8_run_192 rfl) rfl
theorem dX8_run_201 : decode cX8_run 201 = .ok (.aload_n 0, 1) := do_42 (rdb (p := 192) (i := 9) ch_cX8_run_192 rfl)
theorem dX8_run_202 : decode cX8_run 202 = .ok (.iconst 2, 1) := do_5 (rdb (p := 192) (i := 10) ch_cX8_run_192 rfl)
theorem dX8_run_203 : decode cX8_run 203 = .ok (.iconst 1, 1) := do_4 (rdb (p := 192) (i := 11) ch_cX8_run_192 rfl)
theorem dX8_run_204 : decode cX8_run 204 = .ok (.iload_n 3, 1) := do_29 (rdb (p := 192) (i := 12) ch_cX8_run_192 rfl)
theorem dX8_run_205 : decode cX8_run 205 = .ok (.invokevirtual 65, 3) := do_182 (rdb (p := 192) (i := 13) ch_cX8_run_192 rfl) (rdb (p := 192) (i := 14) ch_cX8_run_192 rfl) (rdb (p := 192) (i := 15) ch_cX8_run_192 rfl) rfl
theorem dX8_run_208 : decode cX8_run 208 = .ok (.iadd, 1) := do_96 (rdb (p := 192) (i := 16) ch_cX8_run_192 rfl)
theorem dX8_run_209 : decode cX8_run 209 = .ok (.ireturn, 1) := do_172 (rdb (p := 192) (i := 17) ch_cX8_run_192 rfl)
theorem dX8_run_210 : decode cX8_run 210 = .ok (.aload_n 0, 1) := do_42 (rdb (p := 192) (i := 18) ch_cX8_run_192 rfl)
theorem dX8_run_211 : decode cX8_run 211 = .ok (.iload 4, 2) := do_21 (rdb (p := 192) (i := 19) ch_cX8_run_192 rfl) (rdb (p := 192) (i := 20) ch_cX8_run_192 rfl)
theorem dX8_run_213 : decode cX8_run 213 = .ok (.iconst 1, 1) := do_4 (rdb (p := 192) (i := 21) ch_cX8_run_192 rfl)
theorem dX8_run_214 : decode cX8_run 214 = .ok (.iload_n 2, 1) := do_28 (rdb (p := 192) (i := 22) ch_cX8_run_192 rfl)
theorem dX8_run_215 : decode cX8_run 215 = .ok (.iload_n 3, 1) := do_29 (rdb (p := 192) (i := 23) ch_cX8_run_192 rfl)
theorem dX8_run_216 : decode cX8_run 216 = .ok (.invokevirtual 42, 3) := do_182 (rdb (p := 192) (i := 24) ch_cX8_run_192 rfl) (rdb (p := 192) (i := 25) ch_cX8_run_192 rfl) (rdb (p := 192) (i := 26) ch_cX8_run_192 rfl) rfl
theorem dX8_run_219 : decode cX8_run 219 = .ok (.aload_n 0, 1) := do_42 (rdb (p := 192) (i := 27) ch_cX8_run_192 rfl)
theorem dX8_run_220 : decode cX8_run 220 = .ok (.getfield 28, 3) := do_180 (rdb (p := 192) (i := 28) ch_cX8_run_192 rfl) (rdb (p := 192) (i := 29) ch_cX8_run_192 rfl) (rdb (p := 192) (i := 30) ch_cX8_run_192 rfl) rfl
theorem dX8_run_223 : decode cX8_run 223 = .ok (.ixor, 1) := do_130 (rdb (p := 192) (i := 31) ch_cX8_run_192 rfl)
theorem ch_cX8_run_224 : (cX8_run.data.toList.drop 224).take 36 = [172, 3, 42, 21, 4, 3, 28, 29, 182, 0, 42, 100, 172, 42, 21, 4, 5, 28, 29, 182, 0, 42, 8, 96, 172, 42, 21, 4, 5, 28, 4, 100, 29, 182, 0, 42] := by decide +kernel
theorem dX8_run_224 : decode cX8_run 224 = .ok (.ireturn, 1) := do_172 (rdb (p := 224) (i := 0) ch_cX8_run_224 rfl)
theorem dX8_run_225 : decode cX8_run 225 = .ok (.iconst 0, 1) := do_3 (rdb (p := 224) (i := 1) ch_cX8_run_224 rfl)
theorem dX8_run_226 : decode cX8_run 226 = .ok (.aload_n 0, 1) := do_42 (rdb (p := 224) (i := 2) ch_cX8_run_224 rfl)
theorem dX8_run_227 : decode cX8_run 227 = .ok (.iload 4, 2) := do_21 (rdb (p := 224) (i := 3) ch_cX8_run_224 rfl) (rdb (p := 224) (i := 4) ch_cX8_run_224 rfl)
theorem dX8_run_229 : decode cX8_run 229 = .ok (.iconst 0, 1) := do_3 (rdb (p := 224) (i := 5) ch_cX8_run_224 rfl)
theorem dX8_run_230 : decode cX8_run 230 = .ok (.iload_n 2, 1) := do_28 (rdb (p := 224) (i := 6) ch_cX8_run_224 rfl)
theorem dX8_run_231 : decode cX8_run 231 = .ok (.iload_n 3, 1) := do_29 (rdb (p := 224) (i := 7) ch_cX8_run_224 rfl)
theorem dX8_run_232 : decode cX8_run 232 = .ok (.invokevirtual 42, 3) := do_182 (rdb (p := 224) (i := 8) ch_cX8_run_224 rfl) (rdb (p := 224) (i := 9) ch_cX8_run_224 rfl) (rdb (p := 224) (i := 10) ch_cX8_run_224 rfl) rfl
theorem dX8_run_235 : decode cX8_run 235 = .ok (.isub, 1) := do_100 (rdb (p := 224) (i := 11) ch_cX8_run_224 rfl)
theorem dX8_run_236 : decode cX8_run 236 = .ok (.ireturn, 1) := do_172 (rdb (p := 224) (i := 12) ch_cX8_run_224 rfl)
theorem dX8_run_237 : decode cX8_run 237 = .ok (.aload_n 0, 1) := do_42 (rdb (p := 224) (i := 13) ch_cX8_run_224 rfl)
theorem dX8_run_238 : decode cX8_run 238 = .ok (.iload 4, 2) := do_21 (rdb (p := 224) (i := 14) ch_cX8_run_224 rfl) (rdb (p := 224) (i := 15) ch_cX8_run_224 rfl)
theorem dX8_run_240 : decode cX8_run 240 = .ok (.iconst 2, 1) := do_5 (rdb (p := 224) (i := 16) ch_cX8_run_224 rfl)
theorem dX8_run_241 : decode cX8_run 241 = .ok (.iload_n 2, 1) := do_28 (rdb (p := 224) (i := 17) ch_cX8_run_224 rfl)
theorem dX8_run_242 : decode cX8_run 242 = .ok (.iload_n 3, 1) := do_29 (rdb (p := 224) (i := 18) ch_cX8_run_224 rfl)
theorem dX8_run_243 : decode cX8_run 243 = .ok (.invokevirtual 42, 3) := do_182 (rdb (p := 224) (i := 19) ch_cX8_run_224 rfl) (rdb (p := 224) (i := 20) ch_cX8_run_224 rfl) (rdb (p := 224) (i := 21) ch_cX8_run_224 rfl) rfl
theorem dX8_run_246 : decode cX8_run 246 = .ok (.iconst 5, 1) := do_8 (rdb (p := 224) (i := 22) ch_cX8_run_224 rfl)
theorem dX8_run_247 : decode cX8_run 247 = .ok (.iadd, 1) := do_96 (rdb (p := 224) (i := 23) ch_cX8_run_224 rfl)
theorem dX8_run_248 : decode cX8_run 248 = .ok (.ireturn, 1) := do_172 (rdb (p := 224) (i := 24) ch_cX8_run_224 rfl)
theorem dX8_run_249 : decode cX8_run 249 = .ok (.aload_n 0, 1) := do_42 (rdb (p := 224) (i := 25) ch_cX8_run_224 rfl)
theorem dX8_run_250 : decode cX8_run 250 = .ok (.iload 4, 2) := do_21 (rdb (p := 224) (i := 26) ch_cX8_run_224 rfl) (rdb (p := 224) (i := 27) ch_cX8_run_224 rfl)
theorem dX8_run_252 : decode cX8_run 252 = .ok (.iconst 2, 1) := do_5 (rdb (p := 224) (i := 28) ch_cX8_run_224 rfl)
theorem dX8_run_253 : decode cX8_run 253 = .ok (.iload_n 2, 1) := do_28 (rdb (p := 224) (i := 29) ch_cX8_run_224 rfl)
theorem dX8_run_254 : decode cX8_run 254 = .ok (.iconst 1, 1) := do_4 (rdb (p := 224) (i := 30) ch_cX8_run_224 rfl)
theorem dX8_run_255 : decode cX8_run 255 = .ok (.isub, 1) := do_100 (rdb (p := 224) (i := 31) ch_cX8_run_224 rfl)
theorem ch_cX8_run_256 : (cX8_run.data.toList.drop 256).take 36 = [29, 182, 0, 42, 172, 42, 21, 4, 4, 28, 5, 96, 29, 182, 0, 42, 172, 42, 21, 4, 4, 28, 29, 182, 0, 42, 5, 108, 172, 42, 21, 4, 5, 28, 29, 182] := by decide +kernel
theorem dX8_run_256 : decode cX8_run 256 = .ok (.iload_n 3, 1) := do_29 (rdb (p := 256) (i := 0) ch_cX8_run_256 rfl)
theorem dX8_run_257 : decode cX8_run 257 = .ok (.invokevirtual 42, 3) := do_182 (rdb (p := 256) (i := 1) ch_cX8_run_256 rfl) (rdb (p := 256) (i := 2) ch_cX8_run_256 rfl) (rdb (p := 256) (i := 3) ch_cX8_run_256 rfl) rfl
theorem dX8_run_260 : decode cX8_run 260 = .ok (.ireturn, 1) := do_172 (rdb (p := 256) (i := 4) ch_cX8_run_256 rfl)
theorem dX8_run_261 : decode cX8_run 261 = .ok (.aload_n 0, 1) := do_42 (rdb (p := 256) (i := 5) ch_cX8_run_256 rfl)
theorem dX8_run_262 : decode cX8_run 262 = .ok (.iload 4, 2) := do_21 (rdb (p := 256) (i := 6) ch_cX8_run_256 rfl) (rdb (p := 256) (i := 7) ch_cX8_run_256 rfl)
theorem dX8_run_264 : decode cX8_run 264 = .ok (.iconst 1, 1) := do_4 (rdb (p := 256) (i := 8) ch_cX8_run_256 rfl)
theorem dX8_run_265 : decode cX8_run 265 = .ok (.iload_n 2, 1) := do_28 (rdb (p := 256) (i := 9) ch_cX8_run_256 rfl)
theorem dX8_run_266 : decode cX8_run 266 = .ok (.iconst 2, 1) := do_5 (rdb (p := 256) (i := 10) ch_cX8_run_256 rfl)
theorem dX8_run_267 : decode cX8_run 267 = .ok (.iadd, 1) := do_96 (rdb (p := 256) (i := 11) ch_cX8_run_256 rfl)
theorem dX8_run_268 : decode cX8_run 268 = .ok (.iload_n 3, 1) := do_29 (rdb (p := 256) (i := 12) ch_cX8_run_256 rfl)
theorem dX8_run_269 : decode cX8_run 269 = .ok (.invokevirtual 42, 3) := do_182 (rdb (p := 256) (i := 13) ch_cX8_run_256 rfl) (rdb (p := 256) (i := 14) ch_cX8_run_256 rfl) (rdb (p := 256) (i := 15) ch_cX8_run_256 rfl) rfl
theorem dX8_run_272 : decode cX8_run 272 = .ok (.ireturn, 1) := do_172 (rdb (p := 256) (i := 16) ch_cX8_run_256 rfl)
theorem dX8_run_273 : decode cX8_run 273 = .ok (.aload_n 0, 1) := do_42 (rdb (p := 256) (i := 17) ch_cX8_run_256 rfl)
theorem dX8_run_274 : decode cX8_run 274 = .ok (.iload 4, 2) := do_21 (rdb (p := 256) (i := 18) ch_cX8_run_256 rfl) (rdb (p := 256) (i := 19) ch_cX8_run_256 rfl)
theorem dX8_run_276 : decode cX8_run 276 = .ok (.iconst 1, 1) := do_4 (rdb (p := 256) (i := 20) ch_cX8_run_256 rfl)
theorem dX8_run_277 : decode cX8_run 277 = .ok (.iload_n 2, 1) := do_28 (rdb (p := 256) (i := 21) ch_cX8_run_256 rfl)
theorem dX8_run_278 : decode cX8_run 278 = .ok (.iload_n 3, 1) := do_29 (rdb (p := 256) (i := 22) ch_cX8_run_256 rfl)
theorem dX8_run_279 : decode cX8_run 279 = .ok (.invokevirtual 42, 3) := do_182 (rdb (p := 256) (i := 23) ch_cX8_run_256 rfl) (rdb (p := 256) (i := 24) ch_cX8_run_256 rfl) (rdb (p := 256) (i := 25) ch_cX8_run_256 rfl) rfl
theorem dX8_run_282 : decode cX8_run 282 = .ok (.iconst 2, 1) := do_5 (rdb (p := 256) (i := 26) ch_cX8_run_256 rfl)
theorem dX8_run_283 : decode cX8_run 283 = .ok (.idiv, 1) := do_108 (rdb (p := 256) (i := 27) ch_cX8_run_256 rfl)
theorem dX8_run_284 : decode cX8_run 284 = .ok (.ireturn, 1) := do_172 (rdb (p := 256) (i := 28) ch_cX8_run_256 rfl)
theorem dX8_run_285 : decode cX8_run 285 = .ok (.aload_n 0, 1) := do_42 (rdb (p := 256) (i := 29) ch_cX8_run_256 rfl)
theorem dX8_run_286 : decode cX8_run 286 = .ok (.iload 4, 2) := do_21 (rdb (p := 256) (i := 30) ch_cX8_run_256 rfl) (rdb (p := 256) (i := 31) ch_cX8_run_256 rfl)
theorem ch_cX8_run_288 : (cX8_run.data.toList.drop 288).take 36 = [5, 28, 29, 182, 0, 42, 42, 3, 5, 29, 182, 0, 65, 100, 172, 42, 21, 4, 6, 28, 29, 182, 0, 42, 42, 4, 28, 29, 182, 0, 65, 100, 172, 3, 172] := by decide +kernel
theorem dX8_run_288 : decode cX8_run 288 = .ok (.iconst 2, 1) := do_5 (rdb (p := 288) (i := 0) ch_cX8_run_288 rfl)
theorem dX8_run_289 : decode cX8_run 289 = .ok (.iload_n 2, 1) := do_28 (rdb (p := 288) (i := 1) ch_cX8_run_288 rfl)
theorem dX8_run_290 : decode cX8_run 290 = .ok (.iload_n 3, 1) := do_29 (rdb (p := 288) (i := 2) ch_cX8_run_288 rfl)
theorem dX8_run_291 : decode cX8_run 291 = .ok (.invokevirtual 42, 3) := do_182 (rdb (p := 288) (i := 3) ch_cX8_run_288 rfl) (rdb (p := 288) (i := 4) ch_cX8_run_288 rfl) (rdb (p := 288) (i := 5) ch_cX8_run_288 rfl) rfl
theorem dX8_run_294 : decode cX8_run 294 = .ok (.aload_n 0, 1) := do_42 (rdb (p := 288) (i := 6) ch_cX8_run_288 rfl)
theorem dX8_run_295 : decode cX8_run 295 = .ok (.iconst 0, 1) := do_3 (rdb (p := 288) (i := 7) ch_cX8_run_288 rfl)
theorem dX8_run_296 : decode cX8_run 296 = .ok (.iconst 2, 1) := do_5 (rdb (p := 288) (i := 8) ch_cX8_run_288 rfl)
theorem dX8_run_297 : decode cX8_run 297 = .ok (.iload_n 3, 1) := do_29 (rdb (p := 288) (i := 9) ch_cX8_run_288 rfl)
theorem dX8_run_298 : decode cX8_run 298 = .ok (.invokevirtual 65, 3) := do_182 (rdb (p := 288) (i := 10) ch_cX8_run_288 rfl) (rdb (p := 288) (i := 11) ch_cX8_run_288 rfl) (rdb (p := 288) (i := 12) ch_cX8_run_288 rfl) rfl
theorem dX8_run_301 : decode cX8_run 301 = .ok (.isub, 1) := do_100 (rdb (p := 288) (i := 13) ch_cX8_run_288 rfl)
theorem dX8_run_302 : decode cX8_run 302 = .ok (.ireturn, 1) := do_172 (rdb (p := 288) (i := 14) ch_cX8_run_288 rfl)
theorem dX8_run_303 : decode cX8_run 303 = .ok (.aload_n 0, 1) := do_42 (rdb (p := 288) (i := 15) ch_cX8_run_288 rfl)
theorem dX8_run_304 : decode cX8_run 304 = .ok (.iload 4, 2) := do_21 (rdb (p := 288) (i := 16) ch_cX8_run_288 rfl) (rdb (p := 288) (i := 17) ch_cX8_run_288 rfl)
theorem dX8_run_306 : decode cX8_run 306 = .ok (.iconst 3, 1) := do_6 (rdb (p := 288) (i := 18) ch_cX8_run_288 rfl)
theorem dX8_run_307 : decode cX8_run 307 = .ok (.iload_n 2, 1) := do_28 (rdb (p := 288) (i := 19) ch_cX8_run_288 rfl)
theorem dX8_run_308 : decode cX8_run 308 = .ok (.iload_n 3, 1) := do_29 (rdb (p := 288) (i := 20) ch_cX8_run_288 rfl)
theorem dX8_run_309 : decode cX8_run 309 = .ok (.invokevirtual 42, 3) := do_182 (rdb (p := 288) (i := 21) ch_cX8_run_288 rfl) (rdb (p := 288) (i := 22) ch_cX8_run_288 rfl) (rdb (p := 288) (i := 23) ch_cX8_run_288 rfl) rfl
theorem dX8_run_312 : decode cX8_run 312 = .ok (.aload_n 0, 1) := do_42 (rdb (p := 288) (i := 24) ch_cX8_run_288 rfl)
theorem dX8_run_313 : decode cX8_run 313 = .ok (.iconst 1, 1) := do_4 (rdb (p := 288) (i := 25) ch_cX8_run_288 rfl)
theorem dX8_run_314 : decode cX8_run 314 = .ok (.iload_n 2, 1) := do_28 (rdb (p := 288) (i := 26) ch_cX8_run_288 rfl)
theorem dX8_run_315 : decode cX8_run 315 = .ok (.iload_n 3, 1) := do_29 (rdb (p := 288) (i := 27) ch_cX8_run_288 rfl)
theorem dX8_run_316 : decode cX8_run 316 = .ok (.invokevirtual 65, 3) := do_182 (rdb (p := 288) (i := 28) ch_cX8_run_288 rfl) (rdb (p := 288) (i := 29) ch_cX8_run_288 rfl) (rdb (p := 288) (i := 30) ch_cX8_run_288 rfl) rfl
theorem dX8_run_319 : decode cX8_run 319 = .ok (.isub, 1) := do_100 (rdb (p := 288) (i := 31) ch_cX8_run_288 rfl)
theorem ch_cX8_run_320 : (cX8_run.data.toList.drop 320).take 36 = [172, 3, 172] := by decide +kernel
theorem dX8_run_320 : decode cX8_run 320 = .ok (.ireturn, 1) := do_172 (rdb (p := 320) (i := 0) ch_cX8_run_320 rfl)
theorem ch_cX8_say_0 : (cX8_say.data.toList.drop 0).take 36 = [27, 54, 5, 3, 54, 6, 21, 6, 16, 8, 162, 0, 83, 21, 5, 155, 0, 78, 7, 21, 5, 104, 28, 96, 54, 7, 21, 7, 155, 0, 21, 21, 7, 178, 0, 50] := by decide +kernel
theorem dX8_say_0 : decode cX8_say 0 = .ok (.iload_n 1, 1) := do_27 (rdb (p := 0) (i := 0) ch_cX8_say_0 rfl)
theorem dX8_say_1 : decode cX8_say 1 = .ok (.istore 5, 2) := do_54 (rdb (p := 0) (i := 1) ch_cX8_say_0 rfl) (rdb (p := 0) (i := 2) ch_cX8_say_0 rfl)
theorem dX8_say_3 : decode cX8_say 3 = .ok (.iconst 0, 1) := do_3 (rdb (p := 0) (i := 3) ch_cX8_say_0 rfl)
theorem dX8_say_4 : decode cX8_say 4 = .ok (.istore 6, 2) := do_54 (rdb (p := 0) (i := 4) ch_cX8_say_0 rfl) (rdb (p := 0) (i := 5) ch_cX8_say_0 rfl)
theorem dX8_say_6 : decode cX8_say 6 = .ok (.iload 6, 2) := do_21 (rdb (p := 0) (i := 6) ch_cX8_say_0 rfl) (rdb (p := 0) (i := 7) ch_cX8_say_0 rfl)
theorem dX8_say_8 : decode cX8_say 8 = .ok (.bipush 8, 2) := do_16 (rdb (p := 0) (i := 8) ch_cX8_say_0 rfl) (rdb (p := 0) (i := 9) ch_cX8_say_0 rfl) (by decide +kernel)
theorem dX8_say_10 : decode cX8_say 10 = .ok (.if_icmp .ge 83, 3) := do_162 (rdb (p := 0) (i := 10) ch_cX8_say_0 rfl) (rdb (p := 0) (i := 11) ch_cX8_say_0 rfl) (rdb (p := 0) (i := 12) ch_cX8_say_0 rfl) (by decide +kernel)
theorem dX8_say_13 : decode cX8_say 13 = .ok (.iload 5, 2) := do_21 (rdb (p := 0) (i := 13) ch_cX8_say_0 rfl) (rdb (p := 0) (i := 14) ch_cX8_say_0 rfl)
theorem dX8_say_15 : decode cX8_say 15 = .ok (.ifCond .lt 78, 3) := do_155 (rdb (p := 0) (i := 15) ch_cX8_say_0 rfl) (rdb (p := 0) (i := 16) ch_cX8_say_0 rfl) (rdb (p := 0) (i := 17) ch_cX8_say_0 rfl) (by decide +kernel)
theorem dX8_say_18 : decode cX8_say 18 = .ok (.iconst 4, 1) := do_7 (rdb (p := 0) (i := 18) ch_cX8_say_0 rfl)
theorem dX8_say_19 : decode cX8_say 19 = .ok (.iload 5, 2) := do_21 (rdb (p := 0) (i := 19) ch_cX8_say_0 rfl) (rdb (p := 0) (i := 20) ch_cX8_say_0 rfl)
theorem dX8_say_21 : decode cX8_say 21 = .ok (.imul, 1) := do_104 (rdb (p := 0) (i := 21) ch_cX8_say_0 rfl)
theorem dX8_say_22 : decode cX8_say 22 = .ok (.iload_n 2, 1) := do_28 (rdb (p := 0) (i := 22) ch_cX8_say_0 rfl)
theorem dX8_say_23 : decode cX8_say 23 = .ok (.iadd, 1) := do_96 (rdb (p := 0) (i := 23) ch_cX8_say_0 rfl)
theorem dX8_say_24 : decode cX8_say 24 = .ok (.istore 7, 2) := do_54 (rdb (p := 0) (i := 24) ch_cX8_say_0 rfl) (rdb (p := 0) (i := 25) ch_cX8_say_0 rfl)
theorem dX8_say_26 : decode cX8_say 26 = .ok (.iload 7, 2) := do_21 (rdb (p := 0) (i := 26) ch_cX8_say_0 rfl) (rdb (p := 0) (i := 27) ch_cX8_say_0 rfl)
theorem dX8_say_28 : decode cX8_say 28 = .ok (.ifCond .lt 21, 3) := do_155 (rdb (p := 0) (i := 28) ch_cX8_say_0 rfl) (rdb (p := 0) (i := 29) ch_cX8_say_0 rfl) (rdb (p := 0) (i := 30) ch_cX8_say_0 rfl) (by decide +kernel)
theorem dX8_say_31 : decode cX8_say 31 = .ok (.iload 7, 2) := do_21 (rdb (p := 0) (i := 31) ch_cX8_say_0 rfl) (rdb (p := 0) (i := 32) ch_cX8_say_0 rfl)
theorem ch_cX8_say_32 : (cX8_say.data.toList.drop 32).take 36 = [7, 178, 0, 50, 190, 162, 0, 12, 178, 0, 50, 21, 7, 46, 167, 0, 4, 3, 54, 8, 21, 8, 153, 0, 26, 21, 4, 16, 30, 162, 0, 17, 42, 21, 8, 29] := by decide +kernel
theorem dX8_say_33 : decode cX8_say 33 = .ok (.getstatic 50, 3) := do_178 (rdb (p := 32) (i := 1) ch_cX8_say_32 rfl) (rdb (p := 32) (i := 2) ch_cX8_say_32 rfl) (rdb (p := 32) (i := 3) ch_cX8_say_32 rfl) rfl
theorem dX8_say_36 : decode cX8_say 36 = .ok (.arraylength, 1) := do_190 (rdb (p := 32) (i := 4) ch_cX8_say_32 rfl)
theorem dX8_say_37 : decode cX8_say 37 = .ok (.if_icmp .ge 12, 3) := do_162 (rdb (p := 32) (i := 5) ch_cX8_say_32 rfl) (rdb (p := 32) (i := 6) ch_cX8_say_32 rfl) (rdb (p := 32) (i := 7) ch_cX8_say_32 rfl) (by decide +kernel)
theorem dX8_say_40 : decode cX8_say 40 = .ok (.getstatic 50, 3) := do_178 (rdb (p := 32) (i := 8) ch_cX8_say_32 rfl) (rdb (p := 32) (i := 9) ch_cX8_say_32 rfl) (rdb (p := 32) (i := 10) ch_cX8_say_32 rfl) rfl
theorem dX8_say_43 : decode cX8_say 43 = .ok (.iload 7, 2) := do_21 (rdb (p := 32) (i := 11) ch_cX8_say_32 rfl) (rdb (p := 32) (i := 12) ch_cX8_say_32 rfl)
theorem dX8_say_45 : decode cX8_say 45 = .ok (.iaload, 1) := do_46 (rdb (p := 32) (i := 13) ch_cX8_say_32 rfl)
theorem dX8_say_46 : decode cX8_say 46 = .ok (.goto 4, 3) := do_167 (rdb (p := 32) (i := 14) ch_cX8_say_32 rfl) (rdb (p := 32) (i := 15) ch_cX8_say_32 rfl) (rdb (p := 32) (i := 16) ch_cX8_say_32 rfl) (by decide +kernel)
theorem dX8_say_49 : decode cX8_say 49 = .ok (.iconst 0, 1) := do_3 (rdb (p := 32) (i := 17) ch_cX8_say_32 rfl)
theorem dX8_say_50 : decode cX8_say 50 = .ok (.istore 8, 2) := do_54 (rdb (p := 32) (i := 18) ch_cX8_say_32 rfl) (rdb (p := 32) (i := 19) ch_cX8_say_32 rfl)
theorem dX8_say_52 : decode cX8_say 52 = .ok (.iload 8, 2) := do_21 (rdb (p := 32) (i := 20) ch_cX8_say_32 rfl) (rdb (p := 32) (i := 21) ch_cX8_say_32 rfl)
theorem dX8_say_54 : decode cX8_say 54 = .ok (.ifCond .eq 26, 3) := do_153 (rdb (p := 32) (i := 22) ch_cX8_say_32 rfl) (rdb (p := 32) (i := 23) ch_cX8_say_32 rfl) (rdb (p := 32) (i := 24) ch_cX8_say_32 rfl) (by decide +kernel)
theorem dX8_say_57 : decode cX8_say 57 = .ok (.iload 4, 2) := do_21 (rdb (p := 32) (i := 25) ch_cX8_say_32 rfl) (rdb (p := 32) (i := 26) ch_cX8_say_32 rfl)
theorem dX8_say_59 : decode cX8_say 59 = .ok (.bipush 30, 2) := do_16 (rdb (p := 32) (i := 27) ch_cX8_say_32 rfl) (rdb (p := 32) (i := 28) ch_cX8_say_32 rfl) (by decide +kernel)
theorem dX8_say_61 : decode cX8_say 61 = .ok (.if_icmp .ge 17, 3) := do_162 (rdb (p := 32) (i := 29) ch_cX8_say_32 rfl) (rdb (p := 32) (i := 30) ch_cX8_say_32 rfl) (rdb (p := 32) (i := 31) ch_cX8_say_32 rfl) (by decide +kernel)
theorem ch_cX8_say_64 : (cX8_say.data.toList.drop 64).take 36 = [42, 21, 8, 29, 21, 4, 4, 96, 182, 0, 54, 167, 0, 4, 3, 172, 21, 5, 184, 0, 58, 54, 5, 132, 6, 1, 167, 255, 172, 3, 172] := by decide +kernel
theorem dX8_say_64 : decode cX8_say 64 = .ok (.aload_n 0, 1) := do_42 (rdb (p := 64) (i := 0) ch_cX8_say_64 rfl)
theorem dX8_say_65 : decode cX8_say 65 = .ok (.iload 8, 2) := do_21 (rdb (p := 64) (i := 1) ch_cX8_say_64 rfl) (rdb (p := 64) (i := 2) ch_cX8_say_64 rfl)
theorem dX8_say_67 : decode cX8_say 67 = .ok (.iload_n 3, 1) := do_29 (rdb (p := 64) (i := 3) ch_cX8_say_64 rfl)
theorem dX8_say_68 : decode cX8_say 68 = .ok (.iload 4, 2) := do_21 (rdb (p := 64) (i := 4) ch_cX8_say_64 rfl) (rdb (p := 64) (i := 5) ch_cX8_say_64 rfl)
theorem dX8_say_70 : decode cX8_say 70 = .ok (.iconst 1, 1) := do_4 (rdb (p := 64) (i := 6) ch_cX8_say_64 rfl)
theorem dX8_say_71 : decode cX8_say 71 = .ok (.iadd, 1) := do_96 (rdb (p := 64) (i := 7) ch_cX8_say_64 rfl)
theorem dX8_say_72 : decode cX8_say 72 = .ok (.invokevirtual 54, 3) := do_182 (rdb (p := 64) (i := 8) ch_cX8_say_64 rfl) (rdb (p := 64) (i := 9) ch_cX8_say_64 rfl) (rdb (p := 64) (i := 10) ch_cX8_say_64 rfl) rfl
theorem dX8_say_75 : decode cX8_say 75 = .ok (.goto 4, 3) := do_167 (rdb (p := 64) (i := 11) ch_cX8_say_64 rfl) (rdb (p := 64) (i := 12) ch_cX8_say_64 rfl) (rdb (p := 64) (i := 13) ch_cX8_say_64 rfl) (by decide +kernel)
theorem dX8_say_78 : decode cX8_say 78 = .ok (.iconst 0, 1) := do_3 (rdb (p := 64) (i := 14) ch_cX8_say_64 rfl)
theorem dX8_say_79 : decode cX8_say 79 = .ok (.ireturn, 1) := do_172 (rdb (p := 64) (i := 15) ch_cX8_say_64 rfl)
theorem dX8_say_80 : decode cX8_say 80 = .ok (.iload 5, 2) := do_21 (rdb (p := 64) (i := 16) ch_cX8_say_64 rfl) (rdb (p := 64) (i := 17) ch_cX8_say_64 rfl)
theorem dX8_say_82 : decode cX8_say 82 = .ok (.invokestatic 58, 3) := do_184 (rdb (p := 64) (i := 18) ch_cX8_say_64 rfl) (rdb (p := 64) (i := 19) ch_cX8_say_64 rfl) (rdb (p := 64) (i := 20) ch_cX8_say_64 rfl) rfl
theorem dX8_say_85 : decode cX8_say 85 = .ok (.istore 5, 2) := do_54 (rdb (p := 64) (i := 21) ch_cX8_say_64 rfl) (rdb (p := 64) (i := 22) ch_cX8_say_64 rfl)
theorem dX8_say_87 : decode cX8_say 87 = .ok (.iinc 6 1, 3) := do_132 (rdb (p := 64) (i := 23) ch_cX8_say_64 rfl) (rdb (p := 64) (i := 24) ch_cX8_say_64 rfl) (rdb (p := 64) (i := 25) ch_cX8_say_64 rfl) (by decide +kernel)
theorem dX8_say_90 : decode cX8_say 90 = .ok (.goto (-84), 3) := do_167 (rdb (p := 64) (i := 26) ch_cX8_say_64 rfl) (rdb (p := 64) (i := 27) ch_cX8_say_64 rfl) (rdb (p := 64) (i := 28) ch_cX8_say_64 rfl) (by decide +kernel)
theorem dX8_say_93 : decode cX8_say 93 = .ok (.iconst 0, 1) := do_3 (rdb (p := 64) (i := 29) ch_cX8_say_64 rfl)
theorem dX8_say_94 : decode cX8_say 94 = .ok (.ireturn, 1) := do_172 (rdb (p := 64) (i := 30) ch_cX8_say_64 rfl)
