/-! words of the tables that are used, by their places; decode rows; fields -/
theorem m_73 : Cond.selects yX12_voiced.cls yX12_voiced yX12_voiced ∈ BASE := bmem 73 (by decide +kernel) rfl
theorem m_74 : Cond.selects yX12_bodyFrom.cls yX12_bodyFrom yX12_bodyFrom ∈ BASE := bmem 74 (by decide +kernel) rfl
theorem m_75 : Cond.selects yX12_body.cls yX12_body yX12_body ∈ BASE := bmem 75 (by decide +kernel) rfl
theorem m_76 : Cond.selects yX12_began.cls yX12_began yX12_began ∈ BASE := bmem 76 (by decide +kernel) rfl
theorem m_1350 : Cond.fieldLink RX12 327 "ClickStreetModel" "speaker" "I" ∈ BASE := bmem 1350 (by decide +kernel) rfl
theorem m_1351 : Cond.fieldLink RX12 336 "ClickStreetModel" "isParted" "Z" ∈ BASE := bmem 1351 (by decide +kernel) rfl
theorem m_1803 : Cond.methodLink RX12 345 yX12_voiced ∈ BASE := bmem 1803 (by decide +kernel) rfl
theorem m_1805 : Cond.instanceMethod yX12_voiced ∈ BASE := bmem 1805 (by decide +kernel) rfl
theorem m_1806 : Cond.code yX12_voiced cX12_voiced 3 (some .int) ∈ BASE := bmem 1806 (by decide +kernel) rfl
theorem m_1807 : Cond.methodLink RX12 330 yX12_bodyFrom ∈ BASE := bmem 1807 (by decide +kernel) rfl
theorem m_1809 : Cond.instanceMethod yX12_bodyFrom ∈ BASE := bmem 1809 (by decide +kernel) rfl
theorem m_1810 : Cond.code yX12_bodyFrom cX12_bodyFrom 5 (some .int) ∈ BASE := bmem 1810 (by decide +kernel) rfl
theorem m_1811 : Cond.methodLink RX12 333 yX12_hasOwn ∈ BASE := bmem 1811 (by decide +kernel) rfl
theorem m_1812 : Cond.static yX12_hasOwn ∈ BASE := bmem 1812 (by decide +kernel) rfl
theorem m_1813 : Cond.code yX12_hasOwn cX12_hasOwn 2 (some .boolean) ∈ BASE := bmem 1813 (by decide +kernel) rfl
theorem m_1814 : Cond.methodLink RX12 339 yX12_body ∈ BASE := bmem 1814 (by decide +kernel) rfl
theorem m_1816 : Cond.instanceMethod yX12_body ∈ BASE := bmem 1816 (by decide +kernel) rfl
theorem m_1817 : Cond.code yX12_body cX12_body 6 (some .int) ∈ BASE := bmem 1817 (by decide +kernel) rfl
theorem m_1818 : Cond.methodLink RX12 342 yX12_began ∈ BASE := bmem 1818 (by decide +kernel) rfl
theorem m_1820 : Cond.instanceMethod yX12_began ∈ BASE := bmem 1820 (by decide +kernel) rfl
theorem m_1821 : Cond.code yX12_began cX12_began 2 none ∈ BASE := bmem 1821 (by decide +kernel) rfl
theorem kS_X12_hasOwn : KS yX12_hasOwn cX12_hasOwn 2 (some .boolean) 2 := ⟨m_1812, m_92, m_1813, by decide +kernel, by decide +kernel, by decide +kernel⟩
theorem kV_X12_began : KV yX12_began cX12_began 2 none 1 := ⟨m_1820, m_76, m_92, m_1821, by decide +kernel, by decide +kernel, by decide +kernel⟩
theorem kV_X12_body : KV yX12_body cX12_body 6 (some .int) 3 := ⟨m_1816, m_75, m_92, m_1817, by decide +kernel, by decide +kernel, by decide +kernel⟩
theorem kV_X12_bodyFrom : KV yX12_bodyFrom cX12_bodyFrom 5 (some .int) 3 := ⟨m_1809, m_74, m_92, m_1810, by decide +kernel, by decide +kernel, by decide +kernel⟩
theorem kV_X12_voiced : KV yX12_voiced cX12_voiced 3 (some .int) 2 := ⟨m_1805, m_73, m_92, m_1806, by decide +kernel, by decide +kernel, by decide +kernel⟩
theorem fl_RX12_327 : FLK RX12 327 12 27 .int false := ⟨RX12, TX12, 33, tyX12, rfl, inB12, tyX12_ok, nmX12, by decide, rfl, rfl, Or.inl m_1350⟩
theorem fl_RX12_336 : FLK RX12 336 12 28 .boolean false := ⟨RX12, TX12, 33, tyX12, rfl, inB12, tyX12_ok, nmX12, by decide, rfl, rfl, Or.inl m_1351⟩
theorem ch_cX12_body_0 : (cX12_body.data.toList.drop 0).take 36 = [42, 180, 0, 9, 42, 42, 180, 1, 71, 182, 0, 93, 6, 96, 46, 54, 4, 7, 27, 104, 28, 96, 170, 0, 0, 0, 1, 115, 0, 0, 0, 0, 0, 0, 0, 26] := by decide +kernel
theorem dX12_body_0 : decode cX12_body 0 = .ok (.aload_n 0, 1) := do_42 (rdb (p := 0) (i := 0) ch_cX12_body_0 rfl)
theorem dX12_body_1 : decode cX12_body 1 = .ok (.getfield 9, 3) := do_180 (rdb (p := 0) (i := 1) ch_cX12_body_0 rfl) (rdb (p := 0) (i := 2) ch_cX12_body_0 rfl) (rdb (p := 0) (i := 3) ch_cX12_body_0 rfl) rfl
theorem dX12_body_4 : decode cX12_body 4 = .ok (.aload_n 0, 1) := do_42 (rdb (p := 0) (i := 4) ch_cX12_body_0 rfl)
theorem dX12_body_5 : decode cX12_body 5 = .ok (.aload_n 0, 1) := do_42 (rdb (p := 0) (i := 5) ch_cX12_body_0 rfl)
theorem dX12_body_6 : decode cX12_body 6 = .ok (.getfield 327, 3) := do_180 (rdb (p := 0) (i := 6) ch_cX12_body_0 rfl) (rdb (p := 0) (i := 7) ch_cX12_body_0 rfl) (rdb (p := 0) (i := 8) ch_cX12_body_0 rfl) rfl
theorem dX12_body_9 : decode cX12_body 9 = .ok (.invokevirtual 93, 3) := do_182 (rdb (p := 0) (i := 9) ch_cX12_body_0 rfl) (rdb (p := 0) (i := 10) ch_cX12_body_0 rfl) (rdb (p := 0) (i := 11) ch_cX12_body_0 rfl) rfl
theorem dX12_body_12 : decode cX12_body 12 = .ok (.iconst 3, 1) := do_6 (rdb (p := 0) (i := 12) ch_cX12_body_0 rfl)
theorem dX12_body_13 : decode cX12_body 13 = .ok (.iadd, 1) := do_96 (rdb (p := 0) (i := 13) ch_cX12_body_0 rfl)
theorem dX12_body_14 : decode cX12_body 14 = .ok (.iaload, 1) := do_46 (rdb (p := 0) (i := 14) ch_cX12_body_0 rfl)
theorem dX12_body_15 : decode cX12_body 15 = .ok (.istore 4, 2) := do_54 (rdb (p := 0) (i := 15) ch_cX12_body_0 rfl) (rdb (p := 0) (i := 16) ch_cX12_body_0 rfl)
theorem dX12_body_17 : decode cX12_body 17 = .ok (.iconst 4, 1) := do_7 (rdb (p := 0) (i := 17) ch_cX12_body_0 rfl)
theorem dX12_body_18 : decode cX12_body 18 = .ok (.iload_n 1, 1) := do_27 (rdb (p := 0) (i := 18) ch_cX12_body_0 rfl)
theorem dX12_body_19 : decode cX12_body 19 = .ok (.imul, 1) := do_104 (rdb (p := 0) (i := 19) ch_cX12_body_0 rfl)
theorem dX12_body_20 : decode cX12_body 20 = .ok (.iload_n 2, 1) := do_28 (rdb (p := 0) (i := 20) ch_cX12_body_0 rfl)
theorem dX12_body_21 : decode cX12_body 21 = .ok (.iadd, 1) := do_96 (rdb (p := 0) (i := 21) ch_cX12_body_0 rfl)
theorem dX12_body_22 : decode cX12_body 22 = .ok (.tableswitch 371 0 26 #[122, 133, 148, 166, 209, 371, 371, 225, 371, 250, 371, 371, 267, 371, 282, 371, 371, 371, 298, 371, 371, 314, 371, 371, 371, 330, 346], 122) := by decide +kernel
theorem ch_cX12_body_128 : (cX12_body.data.toList.drop 128).take 36 = [0, 0, 1, 115, 0, 0, 1, 115, 0, 0, 1, 74, 0, 0, 1, 90, 42, 16, 10, 182, 1, 86, 29, 21, 4, 96, 172, 42, 16, 11, 182, 1, 86, 42, 3, 29] := by decide +kernel
theorem dX12_body_144 : decode cX12_body 144 = .ok (.aload_n 0, 1) := do_42 (rdb (p := 128) (i := 16) ch_cX12_body_128 rfl)
theorem dX12_body_145 : decode cX12_body 145 = .ok (.bipush 10, 2) := do_16 (rdb (p := 128) (i := 17) ch_cX12_body_128 rfl) (rdb (p := 128) (i := 18) ch_cX12_body_128 rfl) (by decide +kernel)
theorem dX12_body_147 : decode cX12_body 147 = .ok (.invokevirtual 342, 3) := do_182 (rdb (p := 128) (i := 19) ch_cX12_body_128 rfl) (rdb (p := 128) (i := 20) ch_cX12_body_128 rfl) (rdb (p := 128) (i := 21) ch_cX12_body_128 rfl) rfl
theorem dX12_body_150 : decode cX12_body 150 = .ok (.iload_n 3, 1) := do_29 (rdb (p := 128) (i := 22) ch_cX12_body_128 rfl)
theorem dX12_body_151 : decode cX12_body 151 = .ok (.iload 4, 2) := do_21 (rdb (p := 128) (i := 23) ch_cX12_body_128 rfl) (rdb (p := 128) (i := 24) ch_cX12_body_128 rfl)
theorem dX12_body_153 : decode cX12_body 153 = .ok (.iadd, 1) := do_96 (rdb (p := 128) (i := 25) ch_cX12_body_128 rfl)
theorem dX12_body_154 : decode cX12_body 154 = .ok (.ireturn, 1) := do_172 (rdb (p := 128) (i := 26) ch_cX12_body_128 rfl)
theorem dX12_body_155 : decode cX12_body 155 = .ok (.aload_n 0, 1) := do_42 (rdb (p := 128) (i := 27) ch_cX12_body_128 rfl)
theorem dX12_body_156 : decode cX12_body 156 = .ok (.bipush 11, 2) := do_16 (rdb (p := 128) (i := 28) ch_cX12_body_128 rfl) (rdb (p := 128) (i := 29) ch_cX12_body_128 rfl) (by decide +kernel)
theorem dX12_body_158 : decode cX12_body 158 = .ok (.invokevirtual 342, 3) := do_182 (rdb (p := 128) (i := 30) ch_cX12_body_128 rfl) (rdb (p := 128) (i := 31) ch_cX12_body_128 rfl) (rdb (p := 128) (i := 32) ch_cX12_body_128 rfl) rfl
theorem ch_cX12_body_160 : (cX12_body.data.toList.drop 160).take 36 = [86, 42, 3, 29, 182, 1, 89, 5, 104, 172, 42, 16, 12, 182, 1, 86, 42, 4, 29, 182, 1, 89, 42, 180, 1, 71, 100, 172, 42, 16, 13, 182, 1, 86, 42, 42] := by decide +kernel
theorem dX12_body_161 : decode cX12_body 161 = .ok (.aload_n 0, 1) := do_42 (rdb (p := 160) (i := 1) ch_cX12_body_160 rfl)
theorem dX12_body_162 : decode cX12_body 162 = .ok (.iconst 0, 1) := do_3 (rdb (p := 160) (i := 2) ch_cX12_body_160 rfl)
theorem dX12_body_163 : decode cX12_body 163 = .ok (.iload_n 3, 1) := do_29 (rdb (p := 160) (i := 3) ch_cX12_body_160 rfl)
theorem dX12_body_164 : decode cX12_body 164 = .ok (.invokevirtual 345, 3) := do_182 (rdb (p := 160) (i := 4) ch_cX12_body_160 rfl) (rdb (p := 160) (i := 5) ch_cX12_body_160 rfl) (rdb (p := 160) (i := 6) ch_cX12_body_160 rfl) rfl
theorem dX12_body_167 : decode cX12_body 167 = .ok (.iconst 2, 1) := do_5 (rdb (p := 160) (i := 7) ch_cX12_body_160 rfl)
theorem dX12_body_168 : decode cX12_body 168 = .ok (.imul, 1) := do_104 (rdb (p := 160) (i := 8) ch_cX12_body_160 rfl)
theorem dX12_body_169 : decode cX12_body 169 = .ok (.ireturn, 1) := do_172 (rdb (p := 160) (i := 9) ch_cX12_body_160 rfl)
theorem dX12_body_170 : decode cX12_body 170 = .ok (.aload_n 0, 1) := do_42 (rdb (p := 160) (i := 10) ch_cX12_body_160 rfl)
theorem dX12_body_171 : decode cX12_body 171 = .ok (.bipush 12, 2) := do_16 (rdb (p := 160) (i := 11) ch_cX12_body_160 rfl) (rdb (p := 160) (i := 12) ch_cX12_body_160 rfl) (by decide +kernel)
theorem dX12_body_173 : decode cX12_body 173 = .ok (.invokevirtual 342, 3) := do_182 (rdb (p := 160) (i := 13) ch_cX12_body_160 rfl) (rdb (p := 160) (i := 14) ch_cX12_body_160 rfl) (rdb (p := 160) (i := 15) ch_cX12_body_160 rfl) rfl
theorem dX12_body_176 : decode cX12_body 176 = .ok (.aload_n 0, 1) := do_42 (rdb (p := 160) (i := 16) ch_cX12_body_160 rfl)
theorem dX12_body_177 : decode cX12_body 177 = .ok (.iconst 1, 1) := do_4 (rdb (p := 160) (i := 17) ch_cX12_body_160 rfl)
theorem dX12_body_178 : decode cX12_body 178 = .ok (.iload_n 3, 1) := do_29 (rdb (p := 160) (i := 18) ch_cX12_body_160 rfl)
theorem dX12_body_179 : decode cX12_body 179 = .ok (.invokevirtual 345, 3) := do_182 (rdb (p := 160) (i := 19) ch_cX12_body_160 rfl) (rdb (p := 160) (i := 20) ch_cX12_body_160 rfl) (rdb (p := 160) (i := 21) ch_cX12_body_160 rfl) rfl
theorem dX12_body_182 : decode cX12_body 182 = .ok (.aload_n 0, 1) := do_42 (rdb (p := 160) (i := 22) ch_cX12_body_160 rfl)
theorem dX12_body_183 : decode cX12_body 183 = .ok (.getfield 327, 3) := do_180 (rdb (p := 160) (i := 23) ch_cX12_body_160 rfl) (rdb (p := 160) (i := 24) ch_cX12_body_160 rfl) (rdb (p := 160) (i := 25) ch_cX12_body_160 rfl) rfl
theorem dX12_body_186 : decode cX12_body 186 = .ok (.isub, 1) := do_100 (rdb (p := 160) (i := 26) ch_cX12_body_160 rfl)
theorem dX12_body_187 : decode cX12_body 187 = .ok (.ireturn, 1) := do_172 (rdb (p := 160) (i := 27) ch_cX12_body_160 rfl)
theorem dX12_body_188 : decode cX12_body 188 = .ok (.aload_n 0, 1) := do_42 (rdb (p := 160) (i := 28) ch_cX12_body_160 rfl)
theorem dX12_body_189 : decode cX12_body 189 = .ok (.bipush 13, 2) := do_16 (rdb (p := 160) (i := 29) ch_cX12_body_160 rfl) (rdb (p := 160) (i := 30) ch_cX12_body_160 rfl) (by decide +kernel)
theorem dX12_body_191 : decode cX12_body 191 = .ok (.invokevirtual 342, 3) := do_182 (rdb (p := 160) (i := 31) ch_cX12_body_160 rfl) (rdb (p := 160) (i := 32) ch_cX12_body_160 rfl) (rdb (p := 160) (i := 33) ch_cX12_body_160 rfl) rfl
theorem ch_cX12_body_192 : (cX12_body.data.toList.drop 192).take 36 = [1, 86, 42, 42, 180, 1, 71, 6, 160, 0, 7, 4, 167, 0, 4, 3, 181, 1, 80, 42, 180, 1, 80, 153, 0, 7, 3, 167, 0, 11, 29, 42, 180, 1, 71, 6] := by decide +kernel
theorem dX12_body_194 : decode cX12_body 194 = .ok (.aload_n 0, 1) := do_42 (rdb (p := 192) (i := 2) ch_cX12_body_192 rfl)
theorem dX12_body_195 : decode cX12_body 195 = .ok (.aload_n 0, 1) := do_42 (rdb (p := 192) (i := 3) ch_cX12_body_192 rfl)
theorem dX12_body_196 : decode cX12_body 196 = .ok (.getfield 327, 3) := do_180 (rdb (p := 192) (i := 4) ch_cX12_body_192 rfl) (rdb (p := 192) (i := 5) ch_cX12_body_192 rfl) (rdb (p := 192) (i := 6) ch_cX12_body_192 rfl) rfl
theorem dX12_body_199 : decode cX12_body 199 = .ok (.iconst 3, 1) := do_6 (rdb (p := 192) (i := 7) ch_cX12_body_192 rfl)
theorem dX12_body_200 : decode cX12_body 200 = .ok (.if_icmp .ne 7, 3) := do_160 (rdb (p := 192) (i := 8) ch_cX12_body_192 rfl) (rdb (p := 192) (i := 9) ch_cX12_body_192 rfl) (rdb (p := 192) (i := 10) ch_cX12_body_192 rfl) (by decide +kernel)
theorem dX12_body_203 : decode cX12_body 203 = .ok (.iconst 1, 1) := do_4 (rdb (p := 192) (i := 11) ch_cX12_body_192 rfl)
theorem dX12_body_204 : decode cX12_body 204 = .ok (.goto 4, 3) := do_167 (rdb (p := 192) (i := 12) ch_cX12_body_192 rfl) (rdb (p := 192) (i := 13) ch_cX12_body_192 rfl) (rdb (p := 192) (i := 14) ch_cX12_body_192 rfl) (by decide +kernel)
theorem dX12_body_207 : decode cX12_body 207 = .ok (.iconst 0, 1) := do_3 (rdb (p := 192) (i := 15) ch_cX12_body_192 rfl)
theorem dX12_body_208 : decode cX12_body 208 = .ok (.putfield 336, 3) := do_181 (rdb (p := 192) (i := 16) ch_cX12_body_192 rfl) (rdb (p := 192) (i := 17) ch_cX12_body_192 rfl) (rdb (p := 192) (i := 18) ch_cX12_body_192 rfl) rfl
theorem dX12_body_211 : decode cX12_body 211 = .ok (.aload_n 0, 1) := do_42 (rdb (p := 192) (i := 19) ch_cX12_body_192 rfl)
theorem dX12_body_212 : decode cX12_body 212 = .ok (.getfield 336, 3) := do_180 (rdb (p := 192) (i := 20) ch_cX12_body_192 rfl) (rdb (p := 192) (i := 21) ch_cX12_body_192 rfl) (rdb (p := 192) (i := 22) ch_cX12_body_192 rfl) rfl
theorem dX12_body_215 : decode cX12_body 215 = .ok (.ifCond .eq 7, 3) := do_153 (rdb (p := 192) (i := 23) ch_cX12_body_192 rfl) (rdb (p := 192) (i := 24) ch_cX12_body_192 rfl) (rdb (p := 192) (i := 25) ch_cX12_body_192 rfl) (by decide +kernel)
theorem dX12_body_218 : decode cX12_body 218 = .ok (.iconst 0, 1) := do_3 (rdb (p := 192) (i := 26) ch_cX12_body_192 rfl)
theorem dX12_body_219 : decode cX12_body 219 = .ok (.goto 11, 3) := do_167 (rdb (p := 192) (i := 27) ch_cX12_body_192 rfl) (rdb (p := 192) (i := 28) ch_cX12_body_192 rfl) (rdb (p := 192) (i := 29) ch_cX12_body_192 rfl) (by decide +kernel)
theorem dX12_body_222 : decode cX12_body 222 = .ok (.iload_n 3, 1) := do_29 (rdb (p := 192) (i := 30) ch_cX12_body_192 rfl)
theorem dX12_body_223 : decode cX12_body 223 = .ok (.aload_n 0, 1) := do_42 (rdb (p := 192) (i := 31) ch_cX12_body_192 rfl)
theorem ch_cX12_body_224 : (cX12_body.data.toList.drop 224).take 36 = [180, 1, 71, 6, 100, 108, 172, 42, 16, 20, 182, 1, 86, 42, 3, 3, 29, 182, 1, 74, 6, 104, 172, 42, 16, 21, 182, 1, 86, 42, 3, 6, 29, 182, 1, 74] := by decide +kernel
theorem dX12_body_224 : decode cX12_body 224 = .ok (.getfield 327, 3) := do_180 (rdb (p := 224) (i := 0) ch_cX12_body_224 rfl) (rdb (p := 224) (i := 1) ch_cX12_body_224 rfl) (rdb (p := 224) (i := 2) ch_cX12_body_224 rfl) rfl
theorem dX12_body_227 : decode cX12_body 227 = .ok (.iconst 3, 1) := do_6 (rdb (p := 224) (i := 3) ch_cX12_body_224 rfl)
theorem dX12_body_228 : decode cX12_body 228 = .ok (.isub, 1) := do_100 (rdb (p := 224) (i := 4) ch_cX12_body_224 rfl)
theorem dX12_body_229 : decode cX12_body 229 = .ok (.idiv, 1) := do_108 (rdb (p := 224) (i := 5) ch_cX12_body_224 rfl)
theorem dX12_body_230 : decode cX12_body 230 = .ok (.ireturn, 1) := do_172 (rdb (p := 224) (i := 6) ch_cX12_body_224 rfl)
theorem dX12_body_231 : decode cX12_body 231 = .ok (.aload_n 0, 1) := do_42 (rdb (p := 224) (i := 7) ch_cX12_body_224 rfl)
theorem dX12_body_232 : decode cX12_body 232 = .ok (.bipush 20, 2) := do_16 (rdb (p := 224) (i := 8) ch_cX12_body_224 rfl) (rdb (p := 224) (i := 9) ch_cX12_body_224 rfl) (by decide +kernel)
theorem dX12_body_234 : decode cX12_body 234 = .ok (.invokevirtual 342, 3) := do_182 (rdb (p := 224) (i := 10) ch_cX12_body_224 rfl) (rdb (p := 224) (i := 11) ch_cX12_body_224 rfl) (rdb (p := 224) (i := 12) ch_cX12_body_224 rfl) rfl
theorem dX12_body_237 : decode cX12_body 237 = .ok (.aload_n 0, 1) := do_42 (rdb (p := 224) (i := 13) ch_cX12_body_224 rfl)
theorem dX12_body_238 : decode cX12_body 238 = .ok (.iconst 0, 1) := do_3 (rdb (p := 224) (i := 14) ch_cX12_body_224 rfl)
theorem dX12_body_239 : decode cX12_body 239 = .ok (.iconst 0, 1) := do_3 (rdb (p := 224) (i := 15) ch_cX12_body_224 rfl)
theorem dX12_body_240 : decode cX12_body 240 = .ok (.iload_n 3, 1) := do_29 (rdb (p := 224) (i := 16) ch_cX12_body_224 rfl)
theorem dX12_body_241 : decode cX12_body 241 = .ok (.invokevirtual 330, 3) := do_182 (rdb (p := 224) (i := 17) ch_cX12_body_224 rfl) (rdb (p := 224) (i := 18) ch_cX12_body_224 rfl) (rdb (p := 224) (i := 19) ch_cX12_body_224 rfl) rfl
theorem dX12_body_244 : decode cX12_body 244 = .ok (.iconst 3, 1) := do_6 (rdb (p := 224) (i := 20) ch_cX12_body_224 rfl)
theorem dX12_body_245 : decode cX12_body 245 = .ok (.imul, 1) := do_104 (rdb (p := 224) (i := 21) ch_cX12_body_224 rfl)
theorem dX12_body_246 : decode cX12_body 246 = .ok (.ireturn, 1) := do_172 (rdb (p := 224) (i := 22) ch_cX12_body_224 rfl)
theorem dX12_body_247 : decode cX12_body 247 = .ok (.aload_n 0, 1) := do_42 (rdb (p := 224) (i := 23) ch_cX12_body_224 rfl)
theorem dX12_body_248 : decode cX12_body 248 = .ok (.bipush 21, 2) := do_16 (rdb (p := 224) (i := 24) ch_cX12_body_224 rfl) (rdb (p := 224) (i := 25) ch_cX12_body_224 rfl) (by decide +kernel)
theorem dX12_body_250 : decode cX12_body 250 = .ok (.invokevirtual 342, 3) := do_182 (rdb (p := 224) (i := 26) ch_cX12_body_224 rfl) (rdb (p := 224) (i := 27) ch_cX12_body_224 rfl) (rdb (p := 224) (i := 28) ch_cX12_body_224 rfl) rfl
theorem dX12_body_253 : decode cX12_body 253 = .ok (.aload_n 0, 1) := do_42 (rdb (p := 224) (i := 29) ch_cX12_body_224 rfl)
theorem dX12_body_254 : decode cX12_body 254 = .ok (.iconst 0, 1) := do_3 (rdb (p := 224) (i := 30) ch_cX12_body_224 rfl)
theorem dX12_body_255 : decode cX12_body 255 = .ok (.iconst 3, 1) := do_6 (rdb (p := 224) (i := 31) ch_cX12_body_224 rfl)
theorem ch_cX12_body_256 : (cX12_body.data.toList.drop 256).take 36 = [29, 182, 1, 74, 54, 5, 21, 5, 42, 5, 4, 182, 1, 89, 96, 172, 42, 16, 30, 182, 1, 86, 42, 3, 4, 29, 182, 1, 74, 21, 4, 130, 172, 42, 16, 40] := by decide +kernel
theorem dX12_body_256 : decode cX12_body 256 = .ok (.iload_n 3, 1) := do_29 (rdb (p := 256) (i := 0) ch_cX12_body_256 rfl)
theorem dX12_body_257 : decode cX12_body 257 = .ok (.invokevirtual 330, 3) := do_182 (rdb (p := 256) (i := 1) ch_cX12_body_256 rfl) (rdb (p := 256) (i := 2) ch_cX12_body_256 rfl) (rdb (p := 256) (i := 3) ch_cX12_body_256 rfl) rfl
theorem dX12_body_260 : decode cX12_body 260 = .ok (.istore 5, 2) := do_54 (rdb (p := 256) (i := 4) ch_cX12_body_256 rfl) (rdb (p := 256) (i := 5) ch_cX12_body_256 rfl)
theorem dX12_body_262 : decode cX12_body 262 = .ok (.iload 5, 2) := do_21 (rdb (p := 256) (i := 6) ch_cX12_body_256 rfl) (rdb (p := 256) (i := 7) ch_cX12_body_256 rfl)
theorem dX12_body_264 : decode cX12_body 264 = .ok (.aload_n 0, 1) := do_42 (rdb (p := 256) (i := 8) ch_cX12_body_256 rfl)
theorem dX12_body_265 : decode cX12_body 265 = .ok (.iconst 2, 1) := do_5 (rdb (p := 256) (i := 9) ch_cX12_body_256 rfl)
theorem dX12_body_266 : decode cX12_body 266 = .ok (.iconst 1, 1) := do_4 (rdb (p := 256) (i := 10) ch_cX12_body_256 rfl)
theorem dX12_body_267 : decode cX12_body 267 = .ok (.invokevirtual 345, 3) := do_182 (rdb (p := 256) (i := 11) ch_cX12_body_256 rfl) (rdb (p := 256) (i := 12) ch_cX12_body_256 rfl) (rdb (p := 256) (i := 13) ch_cX12_body_256 rfl) rfl
theorem dX12_body_270 : decode cX12_body 270 = .ok (.iadd, 1) := do_96 (rdb (p := 256) (i := 14) ch_cX12_body_256 rfl)
theorem dX12_body_271 : decode cX12_body 271 = .ok (.ireturn, 1) := do_172 (rdb (p := 256) (i := 15) ch_cX12_body_256 rfl)
theorem dX12_body_272 : decode cX12_body 272 = .ok (.aload_n 0, 1) := do_42 (rdb (p := 256) (i := 16) ch_cX12_body_256 rfl)
theorem dX12_body_273 : decode cX12_body 273 = .ok (.bipush 30, 2) := do_16 (rdb (p := 256) (i := 17) ch_cX12_body_256 rfl) (rdb (p := 256) (i := 18) ch_cX12_body_256 rfl) (by decide +kernel)
theorem dX12_body_275 : decode cX12_body 275 = .ok (.invokevirtual 342, 3) := do_182 (rdb (p := 256) (i := 19) ch_cX12_body_256 rfl) (rdb (p := 256) (i := 20) ch_cX12_body_256 rfl) (rdb (p := 256) (i := 21) ch_cX12_body_256 rfl) rfl
theorem dX12_body_278 : decode cX12_body 278 = .ok (.aload_n 0, 1) := do_42 (rdb (p := 256) (i := 22) ch_cX12_body_256 rfl)
theorem dX12_body_279 : decode cX12_body 279 = .ok (.iconst 0, 1) := do_3 (rdb (p := 256) (i := 23) ch_cX12_body_256 rfl)
theorem dX12_body_280 : decode cX12_body 280 = .ok (.iconst 1, 1) := do_4 (rdb (p := 256) (i := 24) ch_cX12_body_256 rfl)
theorem dX12_body_281 : decode cX12_body 281 = .ok (.iload_n 3, 1) := do_29 (rdb (p := 256) (i := 25) ch_cX12_body_256 rfl)
theorem dX12_body_282 : decode cX12_body 282 = .ok (.invokevirtual 330, 3) := do_182 (rdb (p := 256) (i := 26) ch_cX12_body_256 rfl) (rdb (p := 256) (i := 27) ch_cX12_body_256 rfl) (rdb (p := 256) (i := 28) ch_cX12_body_256 rfl) rfl
theorem dX12_body_285 : decode cX12_body 285 = .ok (.iload 4, 2) := do_21 (rdb (p := 256) (i := 29) ch_cX12_body_256 rfl) (rdb (p := 256) (i := 30) ch_cX12_body_256 rfl)
theorem dX12_body_287 : decode cX12_body 287 = .ok (.ixor, 1) := do_130 (rdb (p := 256) (i := 31) ch_cX12_body_256 rfl)
theorem ch_cX12_body_288 : (cX12_body.data.toList.drop 288).take 36 = [172, 42, 16, 40, 182, 1, 86, 42, 3, 3, 29, 182, 1, 74, 116, 172, 42, 16, 41, 182, 1, 86, 42, 3, 5, 29, 182, 1, 74, 8, 96, 172, 42, 16, 50, 182] := by decide +kernel
theorem dX12_body_288 : decode cX12_body 288 = .ok (.ireturn, 1) := do_172 (rdb (p := 288) (i := 0) ch_cX12_body_288 rfl)
theorem dX12_body_289 : decode cX12_body 289 = .ok (.aload_n 0, 1) := do_42 (rdb (p := 288) (i := 1) ch_cX12_body_288 rfl)
theorem dX12_body_290 : decode cX12_body 290 = .ok (.bipush 40, 2) := do_16 (rdb (p := 288) (i := 2) ch_cX12_body_288 rfl) (rdb (p := 288) (i := 3) ch_cX12_body_288 rfl) (by decide +kernel)
theorem dX12_body_292 : decode cX12_body 292 = .ok (.invokevirtual 342, 3) := do_182 (rdb (p := 288) (i := 4) ch_cX12_body_288 rfl) (rdb (p := 288) (i := 5) ch_cX12_body_288 rfl) (rdb (p := 288) (i := 6) ch_cX12_body_288 rfl) rfl
theorem dX12_body_295 : decode cX12_body 295 = .ok (.aload_n 0, 1) := do_42 (rdb (p := 288) (i := 7) ch_cX12_body_288 rfl)
theorem dX12_body_296 : decode cX12_body 296 = .ok (.iconst 0, 1) := do_3 (rdb (p := 288) (i := 8) ch_cX12_body_288 rfl)
theorem dX12_body_297 : decode cX12_body 297 = .ok (.iconst 0, 1) := do_3 (rdb (p := 288) (i := 9) ch_cX12_body_288 rfl)
theorem dX12_body_298 : decode cX12_body 298 = .ok (.iload_n 3, 1) := do_29 (rdb (p := 288) (i := 10) ch_cX12_body_288 rfl)
theorem dX12_body_299 : decode cX12_body 299 = .ok (.invokevirtual 330, 3) := do_182 (rdb (p := 288) (i := 11) ch_cX12_body_288 rfl) (rdb (p := 288) (i := 12) ch_cX12_body_288 rfl) (rdb (p := 288) (i := 13) ch_cX12_body_288 rfl) rfl
theorem dX12_body_302 : decode cX12_body 302 = .ok (.ineg, 1) := do_116 (rdb (p := 288) (i := 14) ch_cX12_body_288 rfl)
theorem dX12_body_303 : decode cX12_body 303 = .ok (.ireturn, 1) := do_172 (rdb (p := 288) (i := 15) ch_cX12_body_288 rfl)
theorem dX12_body_304 : decode cX12_body 304 = .ok (.aload_n 0, 1) := do_42 (rdb (p := 288) (i := 16) ch_cX12_body_288 rfl)
theorem dX12_body_305 : decode cX12_body 305 = .ok (.bipush 41, 2) := do_16 (rdb (p := 288) (i := 17) ch_cX12_body_288 rfl) (rdb (p := 288) (i := 18) ch_cX12_body_288 rfl) (by decide +kernel)
theorem dX12_body_307 : decode cX12_body 307 = .ok (.invokevirtual 342, 3) := do_182 (rdb (p := 288) (i := 19) ch_cX12_body_288 rfl) (rdb (p := 288) (i := 20) ch_cX12_body_288 rfl) (rdb (p := 288) (i := 21) ch_cX12_body_288 rfl) rfl
theorem dX12_body_310 : decode cX12_body 310 = .ok (.aload_n 0, 1) := do_42 (rdb (p := 288) (i := 22) ch_cX12_body_288 rfl)
theorem dX12_body_311 : decode cX12_body 311 = .ok (.iconst 0, 1) := do_3 (rdb (p := 288) (i := 23) ch_cX12_body_288 rfl)
theorem dX12_body_312 : decode cX12_body 312 = .ok (.iconst 2, 1) := do_5 (rdb (p := 288) (i := 24) ch_cX12_body_288 rfl)
theorem dX12_body_313 : decode cX12_body 313 = .ok (.iload_n 3, 1) := do_29 (rdb (p := 288) (i := 25) ch_cX12_body_288 rfl)
theorem dX12_body_314 : decode cX12_body 314 = .ok (.invokevirtual 330, 3) := do_182 (rdb (p := 288) (i := 26) ch_cX12_body_288 rfl) (rdb (p := 288) (i := 27) ch_cX12_body_288 rfl) (rdb (p := 288) (i := 28) ch_cX12_body_288 rfl) rfl
theorem dX12_body_317 : decode cX12_body 317 = .ok (.iconst 5, 1) := do_8 (rdb (p := 288) (i := 29) ch_cX12_body_288 rfl)
theorem dX12_body_318 : decode cX12_body 318 = .ok (.iadd, 1) := do_96 (rdb (p := 288) (i := 30) ch_cX12_body_288 rfl)
theorem dX12_body_319 : decode cX12_body 319 = .ok (.ireturn, 1) := do_172 (rdb (p := 288) (i := 31) ch_cX12_body_288 rfl)
theorem ch_cX12_body_320 : (cX12_body.data.toList.drop 320).take 36 = [42, 16, 50, 182, 1, 86, 42, 3, 5, 29, 4, 100, 182, 1, 74, 172, 42, 16, 60, 182, 1, 86, 42, 4, 4, 29, 5, 96, 182, 1, 74, 172, 42, 16, 70, 182] := by decide +kernel
theorem dX12_body_320 : decode cX12_body 320 = .ok (.aload_n 0, 1) := do_42 (rdb (p := 320) (i := 0) ch_cX12_body_320 rfl)
theorem dX12_body_321 : decode cX12_body 321 = .ok (.bipush 50, 2) := do_16 (rdb (p := 320) (i := 1) ch_cX12_body_320 rfl) (rdb (p := 320) (i := 2) ch_cX12_body_320 rfl) (by decide +kernel)
theorem dX12_body_323 : decode cX12_body 323 = .ok (.invokevirtual 342, 3) := do_182 (rdb (p := 320) (i := 3) ch_cX12_body_320 rfl) (rdb (p := 320) (i := 4) ch_cX12_body_320 rfl) (rdb (p := 320) (i := 5) ch_cX12_body_320 rfl) rfl
theorem dX12_body_326 : decode cX12_body 326 = .ok (.aload_n 0, 1) := do_42 (rdb (p := 320) (i := 6) ch_cX12_body_320 rfl)
theorem dX12_body_327 : decode cX12_body 327 = .ok (.iconst 0, 1) := do_3 (rdb (p := 320) (i := 7) ch_cX12_body_320 rfl)
theorem dX12_body_328 : decode cX12_body 328 = .ok (.iconst 2, 1) := do_5 (rdb (p := 320) (i := 8) ch_cX12_body_320 rfl)
theorem dX12_body_329 : decode cX12_body 329 = .ok (.iload_n 3, 1) := do_29 (rdb (p := 320) (i := 9) ch_cX12_body_320 rfl)
theorem dX12_body_330 : decode cX12_body 330 = .ok (.iconst 1, 1) := do_4 (rdb (p := 320) (i := 10) ch_cX12_body_320 rfl)
theorem dX12_body_331 : decode cX12_body 331 = .ok (.isub, 1) := do_100 (rdb (p := 320) (i := 11) ch_cX12_body_320 rfl)
theorem dX12_body_332 : decode cX12_body 332 = .ok (.invokevirtual 330, 3) := do_182 (rdb (p := 320) (i := 12) ch_cX12_body_320 rfl) (rdb (p := 320) (i := 13) ch_cX12_body_320 rfl) (rdb (p := 320) (i := 14) ch_cX12_body_320 rfl) rfl
theorem dX12_body_335 : decode cX12_body 335 = .ok (.ireturn, 1) := do_172 (rdb (p := 320) (i := 15) ch_cX12_body_320 rfl)
theorem dX12_body_336 : decode cX12_body 336 = .ok (.aload_n 0, 1) := do_42 (rdb (p := 320) (i := 16) ch_cX12_body_320 rfl)
theorem dX12_body_337 : decode cX12_body 337 = .ok (.bipush 60, 2) := do_16 (rdb (p := 320) (i := 17) ch_cX12_body_320 rfl) (rdb (p := 320) (i := 18) ch_cX12_body_320 rfl) (by decide +kernel)
theorem dX12_body_339 : decode cX12_body 339 = .ok (.invokevirtual 342, 3) := do_182 (rdb (p := 320) (i := 19) ch_cX12_body_320 rfl) (rdb (p := 320) (i := 20) ch_cX12_body_320 rfl) (rdb (p := 320) (i := 21) ch_cX12_body_320 rfl) rfl
theorem dX12_body_342 : decode cX12_body 342 = .ok (.aload_n 0, 1) := do_42 (rdb (p := 320) (i := 22) ch_cX12_body_320 rfl)
theorem dX12_body_343 : decode cX12_body 343 = .ok (.iconst 1, 1) := do_4 (rdb (p := 320) (i := 23) ch_cX12_body_320 rfl)
theorem dX12_body_344 : decode cX12_body 344 = .ok (.iconst 1, 1) := do_4 (rdb (p := 320) (i := 24) ch_cX12_body_320 rfl)
theorem dX12_body_345 : decode cX12_body 345 = .ok (.iload_n 3, 1) := do_29 (rdb (p := 320) (i := 25) ch_cX12_body_320 rfl)
theorem dX12_body_346 : decode cX12_body 346 = .ok (.iconst 2, 1) := do_5 (rdb (p := 320) (i := 26) ch_cX12_body_320 rfl)
theorem dX12_body_347 : decode cX12_body 347 = .ok (.iadd, 1) := do_96 (rdb (p := 320) (i := 27) ch_cX12_body_320 rfl)
theorem dX12_body_348 : decode cX12_body 348 = .ok (.invokevirtual 330, 3) := do_182 (rdb (p := 320) (i := 28) ch_cX12_body_320 rfl) (rdb (p := 320) (i := 29) ch_cX12_body_320 rfl) (rdb (p := 320) (i := 30) ch_cX12_body_320 rfl) rfl
theorem dX12_body_351 : decode cX12_body 351 = .ok (.ireturn, 1) := do_172 (rdb (p := 320) (i := 31) ch_cX12_body_320 rfl)
theorem ch_cX12_body_352 : (cX12_body.data.toList.drop 352).take 36 = [42, 16, 70, 182, 1, 86, 42, 6, 4, 29, 182, 1, 74, 5, 108, 172, 42, 16, 71, 182, 1, 86, 42, 6, 5, 29, 182, 1, 74, 54, 5, 21, 5, 42, 3, 5] := by decide +kernel
theorem dX12_body_352 : decode cX12_body 352 = .ok (.aload_n 0, 1) := do_42 (rdb (p := 352) (i := 0) ch_cX12_body_352 rfl)
theorem dX12_body_353 : decode cX12_body 353 = .ok (.bipush 70, 2) := do_16 (rdb (p := 352) (i := 1) ch_cX12_body_352 rfl) (rdb (p := 352) (i := 2) ch_cX12_body_352 rfl) (by decide +kernel)
theorem dX12_body_355 : decode cX12_body 355 = .ok (.invokevirtual 342, 3) := do_182 (rdb (p := 352) (i := 3) ch_cX12_body_352 rfl) (rdb (p := 352) (i := 4) ch_cX12_body_352 rfl) (rdb (p := 352) (i := 5) ch_cX12_body_352 rfl) rfl
theorem dX12_body_358 : decode cX12_body 358 = .ok (.aload_n 0, 1) := do_42 (rdb (p := 352) (i := 6) ch_cX12_body_352 rfl)
theorem dX12_body_359 : decode cX12_body 359 = .ok (.iconst 3, 1) := do_6 (rdb (p := 352) (i := 7) ch_cX12_body_352 rfl)
theorem dX12_body_360 : decode cX12_body 360 = .ok (.iconst 1, 1) := do_4 (rdb (p := 352) (i := 8) ch_cX12_body_352 rfl)
theorem dX12_body_361 : decode cX12_body 361 = .ok (.iload_n 3, 1) := do_29 (rdb (p := 352) (i := 9) ch_cX12_body_352 rfl)
theorem dX12_body_362 : decode cX12_body 362 = .ok (.invokevirtual 330, 3) := do_182 (rdb (p := 352) (i := 10) ch_cX12_body_352 rfl) (rdb (p := 352) (i := 11) ch_cX12_body_352 rfl) (rdb (p := 352) (i := 12) ch_cX12_body_352 rfl) rfl
theorem dX12_body_365 : decode cX12_body 365 = .ok (.iconst 2, 1) := do_5 (rdb (p := 352) (i := 13) ch_cX12_body_352 rfl)
theorem dX12_body_366 : decode cX12_body 366 = .ok (.idiv, 1) := do_108 (rdb (p := 352) (i := 14) ch_cX12_body_352 rfl)
theorem dX12_body_367 : decode cX12_body 367 = .ok (.ireturn, 1) := do_172 (rdb (p := 352) (i := 15) ch_cX12_body_352 rfl)
theorem dX12_body_368 : decode cX12_body 368 = .ok (.aload_n 0, 1) := do_42 (rdb (p := 352) (i := 16) ch_cX12_body_352 rfl)
theorem dX12_body_369 : decode cX12_body 369 = .ok (.bipush 71, 2) := do_16 (rdb (p := 352) (i := 17) ch_cX12_body_352 rfl) (rdb (p := 352) (i := 18) ch_cX12_body_352 rfl) (by decide +kernel)
theorem dX12_body_371 : decode cX12_body 371 = .ok (.invokevirtual 342, 3) := do_182 (rdb (p := 352) (i := 19) ch_cX12_body_352 rfl) (rdb (p := 352) (i := 20) ch_cX12_body_352 rfl) (rdb (p := 352) (i := 21) ch_cX12_body_352 rfl) rfl
theorem dX12_body_374 : decode cX12_body 374 = .ok (.aload_n 0, 1) := do_42 (rdb (p := 352) (i := 22) ch_cX12_body_352 rfl)
theorem dX12_body_375 : decode cX12_body 375 = .ok (.iconst 3, 1) := do_6 (rdb (p := 352) (i := 23) ch_cX12_body_352 rfl)
theorem dX12_body_376 : decode cX12_body 376 = .ok (.iconst 2, 1) := do_5 (rdb (p := 352) (i := 24) ch_cX12_body_352 rfl)
theorem dX12_body_377 : decode cX12_body 377 = .ok (.iload_n 3, 1) := do_29 (rdb (p := 352) (i := 25) ch_cX12_body_352 rfl)
theorem dX12_body_378 : decode cX12_body 378 = .ok (.invokevirtual 330, 3) := do_182 (rdb (p := 352) (i := 26) ch_cX12_body_352 rfl) (rdb (p := 352) (i := 27) ch_cX12_body_352 rfl) (rdb (p := 352) (i := 28) ch_cX12_body_352 rfl) rfl
theorem dX12_body_381 : decode cX12_body 381 = .ok (.istore 5, 2) := do_54 (rdb (p := 352) (i := 29) ch_cX12_body_352 rfl) (rdb (p := 352) (i := 30) ch_cX12_body_352 rfl)
theorem dX12_body_383 : decode cX12_body 383 = .ok (.iload 5, 2) := do_21 (rdb (p := 352) (i := 31) ch_cX12_body_352 rfl) (rdb (p := 352) (i := 32) ch_cX12_body_352 rfl)
theorem ch_cX12_body_384 : (cX12_body.data.toList.drop 384).take 36 = [5, 42, 3, 5, 182, 1, 89, 100, 172, 42, 16, 80, 182, 1, 86, 42, 4, 6, 29, 182, 1, 74, 54, 5, 21, 5, 42, 4, 29, 182, 1, 89, 100, 172] := by decide +kernel
theorem dX12_body_385 : decode cX12_body 385 = .ok (.aload_n 0, 1) := do_42 (rdb (p := 384) (i := 1) ch_cX12_body_384 rfl)
theorem dX12_body_386 : decode cX12_body 386 = .ok (.iconst 0, 1) := do_3 (rdb (p := 384) (i := 2) ch_cX12_body_384 rfl)
theorem dX12_body_387 : decode cX12_body 387 = .ok (.iconst 2, 1) := do_5 (rdb (p := 384) (i := 3) ch_cX12_body_384 rfl)
theorem dX12_body_388 : decode cX12_body 388 = .ok (.invokevirtual 345, 3) := do_182 (rdb (p := 384) (i := 4) ch_cX12_body_384 rfl) (rdb (p := 384) (i := 5) ch_cX12_body_384 rfl) (rdb (p := 384) (i := 6) ch_cX12_body_384 rfl) rfl
theorem dX12_body_391 : decode cX12_body 391 = .ok (.isub, 1) := do_100 (rdb (p := 384) (i := 7) ch_cX12_body_384 rfl)
theorem dX12_body_392 : decode cX12_body 392 = .ok (.ireturn, 1) := do_172 (rdb (p := 384) (i := 8) ch_cX12_body_384 rfl)
theorem dX12_body_393 : decode cX12_body 393 = .ok (.aload_n 0, 1) := do_42 (rdb (p := 384) (i := 9) ch_cX12_body_384 rfl)
theorem dX12_body_394 : decode cX12_body 394 = .ok (.bipush 80, 2) := do_16 (rdb (p := 384) (i := 10) ch_cX12_body_384 rfl) (rdb (p := 384) (i := 11) ch_cX12_body_384 rfl) (by decide +kernel)
theorem dX12_body_396 : decode cX12_body 396 = .ok (.invokevirtual 342, 3) := do_182 (rdb (p := 384) (i := 12) ch_cX12_body_384 rfl) (rdb (p := 384) (i := 13) ch_cX12_body_384 rfl) (rdb (p := 384) (i := 14) ch_cX12_body_384 rfl) rfl
theorem dX12_body_399 : decode cX12_body 399 = .ok (.aload_n 0, 1) := do_42 (rdb (p := 384) (i := 15) ch_cX12_body_384 rfl)
theorem dX12_body_400 : decode cX12_body 400 = .ok (.iconst 1, 1) := do_4 (rdb (p := 384) (i := 16) ch_cX12_body_384 rfl)
theorem dX12_body_401 : decode cX12_body 401 = .ok (.iconst 3, 1) := do_6 (rdb (p := 384) (i := 17) ch_cX12_body_384 rfl)
theorem dX12_body_402 : decode cX12_body 402 = .ok (.iload_n 3, 1) := do_29 (rdb (p := 384) (i := 18) ch_cX12_body_384 rfl)
theorem dX12_body_403 : decode cX12_body 403 = .ok (.invokevirtual 330, 3) := do_182 (rdb (p := 384) (i := 19) ch_cX12_body_384 rfl) (rdb (p := 384) (i := 20) ch_cX12_body_384 rfl) (rdb (p := 384) (i := 21) ch_cX12_body_384 rfl) rfl
theorem dX12_body_406 : decode cX12_body 406 = .ok (.istore 5, 2) := do_54 (rdb (p := 384) (i := 22) ch_cX12_body_384 rfl) (rdb (p := 384) (i := 23) ch_cX12_body_384 rfl)
theorem dX12_body_408 : decode cX12_body 408 = .ok (.iload 5, 2) := do_21 (rdb (p := 384) (i := 24) ch_cX12_body_384 rfl) (rdb (p := 384) (i := 25) ch_cX12_body_384 rfl)
theorem dX12_body_410 : decode cX12_body 410 = .ok (.aload_n 0, 1) := do_42 (rdb (p := 384) (i := 26) ch_cX12_body_384 rfl)
theorem dX12_body_411 : decode cX12_body 411 = .ok (.iconst 1, 1) := do_4 (rdb (p := 384) (i := 27) ch_cX12_body_384 rfl)
theorem dX12_body_412 : decode cX12_body 412 = .ok (.iload_n 3, 1) := do_29 (rdb (p := 384) (i := 28) ch_cX12_body_384 rfl)
theorem dX12_body_413 : decode cX12_body 413 = .ok (.invokevirtual 345, 3) := do_182 (rdb (p := 384) (i := 29) ch_cX12_body_384 rfl) (rdb (p := 384) (i := 30) ch_cX12_body_384 rfl) (rdb (p := 384) (i := 31) ch_cX12_body_384 rfl) rfl
theorem ch_cX12_body_416 : (cX12_body.data.toList.drop 416).take 36 = [100, 172] := by decide +kernel
theorem dX12_body_416 : decode cX12_body 416 = .ok (.isub, 1) := do_100 (rdb (p := 416) (i := 0) ch_cX12_body_416 rfl)
theorem dX12_body_417 : decode cX12_body 417 = .ok (.ireturn, 1) := do_172 (rdb (p := 416) (i := 1) ch_cX12_body_416 rfl)
theorem ch_cX12_bodyFrom_0 : (cX12_bodyFrom.data.toList.drop 0).take 36 = [27, 54, 4, 21, 4, 28, 184, 1, 77, 154, 0, 13, 21, 4, 184, 0, 131, 54, 4, 167, 255, 240, 42, 180, 1, 80, 153, 0, 7, 3, 167, 0, 11, 42, 21, 4] := by decide +kernel
theorem dX12_bodyFrom_0 : decode cX12_bodyFrom 0 = .ok (.iload_n 1, 1) := do_27 (rdb (p := 0) (i := 0) ch_cX12_bodyFrom_0 rfl)
theorem dX12_bodyFrom_1 : decode cX12_bodyFrom 1 = .ok (.istore 4, 2) := do_54 (rdb (p := 0) (i := 1) ch_cX12_bodyFrom_0 rfl) (rdb (p := 0) (i := 2) ch_cX12_bodyFrom_0 rfl)
theorem dX12_bodyFrom_3 : decode cX12_bodyFrom 3 = .ok (.iload 4, 2) := do_21 (rdb (p := 0) (i := 3) ch_cX12_bodyFrom_0 rfl) (rdb (p := 0) (i := 4) ch_cX12_bodyFrom_0 rfl)
theorem dX12_bodyFrom_5 : decode cX12_bodyFrom 5 = .ok (.iload_n 2, 1) := do_28 (rdb (p := 0) (i := 5) ch_cX12_bodyFrom_0 rfl)
theorem dX12_bodyFrom_6 : decode cX12_bodyFrom 6 = .ok (.invokestatic 333, 3) := do_184 (rdb (p := 0) (i := 6) ch_cX12_bodyFrom_0 rfl) (rdb (p := 0) (i := 7) ch_cX12_bodyFrom_0 rfl) (rdb (p := 0) (i := 8) ch_cX12_bodyFrom_0 rfl) rfl
theorem dX12_bodyFrom_9 : decode cX12_bodyFrom 9 = .ok (.ifCond .ne 13, 3) := do_154 (rdb (p := 0) (i := 9) ch_cX12_bodyFrom_0 rfl) (rdb (p := 0) (i := 10) ch_cX12_bodyFrom_0 rfl) (rdb (p := 0) (i := 11) ch_cX12_bodyFrom_0 rfl) (by decide +kernel)
theorem dX12_bodyFrom_12 : decode cX12_bodyFrom 12 = .ok (.iload 4, 2) := do_21 (rdb (p := 0) (i := 12) ch_cX12_bodyFrom_0 rfl) (rdb (p := 0) (i := 13) ch_cX12_bodyFrom_0 rfl)
theorem dX12_bodyFrom_14 : decode cX12_bodyFrom 14 = .ok (.invokestatic 131, 3) := do_184 (rdb (p := 0) (i := 14) ch_cX12_bodyFrom_0 rfl) (rdb (p := 0) (i := 15) ch_cX12_bodyFrom_0 rfl) (rdb (p := 0) (i := 16) ch_cX12_bodyFrom_0 rfl) rfl
theorem dX12_bodyFrom_17 : decode cX12_bodyFrom 17 = .ok (.istore 4, 2) := do_54 (rdb (p := 0) (i := 17) ch_cX12_bodyFrom_0 rfl) (rdb (p := 0) (i := 18) ch_cX12_bodyFrom_0 rfl)
theorem dX12_bodyFrom_19 : decode cX12_bodyFrom 19 = .ok (.goto (-16), 3) := do_167 (rdb (p := 0) (i := 19) ch_cX12_bodyFrom_0 rfl) (rdb (p := 0) (i := 20) ch_cX12_bodyFrom_0 rfl) (rdb (p := 0) (i := 21) ch_cX12_bodyFrom_0 rfl) (by decide +kernel)
theorem dX12_bodyFrom_22 : decode cX12_bodyFrom 22 = .ok (.aload_n 0, 1) := do_42 (rdb (p := 0) (i := 22) ch_cX12_bodyFrom_0 rfl)
theorem dX12_bodyFrom_23 : decode cX12_bodyFrom 23 = .ok (.getfield 336, 3) := do_180 (rdb (p := 0) (i := 23) ch_cX12_bodyFrom_0 rfl) (rdb (p := 0) (i := 24) ch_cX12_bodyFrom_0 rfl) (rdb (p := 0) (i := 25) ch_cX12_bodyFrom_0 rfl) rfl
theorem dX12_bodyFrom_26 : decode cX12_bodyFrom 26 = .ok (.ifCond .eq 7, 3) := do_153 (rdb (p := 0) (i := 26) ch_cX12_bodyFrom_0 rfl) (rdb (p := 0) (i := 27) ch_cX12_bodyFrom_0 rfl) (rdb (p := 0) (i := 28) ch_cX12_bodyFrom_0 rfl) (by decide +kernel)
theorem dX12_bodyFrom_29 : decode cX12_bodyFrom 29 = .ok (.iconst 0, 1) := do_3 (rdb (p := 0) (i := 29) ch_cX12_bodyFrom_0 rfl)
theorem dX12_bodyFrom_30 : decode cX12_bodyFrom 30 = .ok (.goto 11, 3) := do_167 (rdb (p := 0) (i := 30) ch_cX12_bodyFrom_0 rfl) (rdb (p := 0) (i := 31) ch_cX12_bodyFrom_0 rfl) (rdb (p := 0) (i := 32) ch_cX12_bodyFrom_0 rfl) (by decide +kernel)
theorem ch_cX12_bodyFrom_32 : (cX12_bodyFrom.data.toList.drop 32).take 36 = [11, 42, 21, 4, 28, 29, 182, 1, 83, 172] := by decide +kernel
theorem dX12_bodyFrom_33 : decode cX12_bodyFrom 33 = .ok (.aload_n 0, 1) := do_42 (rdb (p := 32) (i := 1) ch_cX12_bodyFrom_32 rfl)
theorem dX12_bodyFrom_34 : decode cX12_bodyFrom 34 = .ok (.iload 4, 2) := do_21 (rdb (p := 32) (i := 2) ch_cX12_bodyFrom_32 rfl) (rdb (p := 32) (i := 3) ch_cX12_bodyFrom_32 rfl)
theorem dX12_bodyFrom_36 : decode cX12_bodyFrom 36 = .ok (.iload_n 2, 1) := do_28 (rdb (p := 32) (i := 4) ch_cX12_bodyFrom_32 rfl)
theorem dX12_bodyFrom_37 : decode cX12_bodyFrom 37 = .ok (.iload_n 3, 1) := do_29 (rdb (p := 32) (i := 5) ch_cX12_bodyFrom_32 rfl)
theorem dX12_bodyFrom_38 : decode cX12_bodyFrom 38 = .ok (.invokevirtual 339, 3) := do_182 (rdb (p := 32) (i := 6) ch_cX12_bodyFrom_32 rfl) (rdb (p := 32) (i := 7) ch_cX12_bodyFrom_32 rfl) (rdb (p := 32) (i := 8) ch_cX12_bodyFrom_32 rfl) rfl
theorem dX12_bodyFrom_41 : decode cX12_bodyFrom 41 = .ok (.ireturn, 1) := do_172 (rdb (p := 32) (i := 9) ch_cX12_bodyFrom_32 rfl)
theorem dX12_voiced_0 : decode cX12_voiced 0 = .ok (.aload_n 0, 1) := by decide +kernel
theorem dX12_voiced_1 : decode cX12_voiced 1 = .ok (.aload_n 0, 1) := by decide +kernel
theorem dX12_voiced_2 : decode cX12_voiced 2 = .ok (.aload_n 0, 1) := by decide +kernel
theorem dX12_voiced_3 : decode cX12_voiced 3 = .ok (.getfield 327, 3) := by decide +kernel
theorem dX12_voiced_6 : decode cX12_voiced 6 = .ok (.invokevirtual 137, 3) := by decide +kernel
theorem dX12_voiced_9 : decode cX12_voiced 9 = .ok (.iload_n 1, 1) := by decide +kernel
theorem dX12_voiced_10 : decode cX12_voiced 10 = .ok (.iload_n 2, 1) := by decide +kernel
theorem dX12_voiced_11 : decode cX12_voiced 11 = .ok (.invokevirtual 330, 3) := by decide +kernel
theorem dX12_voiced_14 : decode cX12_voiced 14 = .ok (.ireturn, 1) := by decide +kernel
