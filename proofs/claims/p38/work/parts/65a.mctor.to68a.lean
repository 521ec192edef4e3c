section
/-! words of the tables that are used, by their places; decode rows; classes -/
set_option maxRecDepth 20000 in
theorem m_1317 : Cond.methodLink RX12 3 Lib.objectInit ∈ BASE := bmT6 39 rfl rfl
set_option maxRecDepth 20000 in
theorem m_1318 : Cond.classLink RX12 32 "java/lang/String" ∈ BASE := bmT6 40 rfl rfl
theorem df12 : ∀ j, j < 33 → defaultValue (tyX12 j) = vp_V [.null, .null, .null, .int 0, .null, .null, .null, .int 0, .null, .int 0, .int 0, .int 0, .int 0, .int 0, .int 0, .null, .null, .null, .null, .null, .null, .null, .int 0, .int 0, .null, .null, .int 0, .int 0, .int 0, .null, .null, .null, .null] j := fun j hj => by rcases (show j = 0 ∨ j = 1 ∨ j = 2 ∨ j = 3 ∨ j = 4 ∨ j = 5 ∨ j = 6 ∨ j = 7 ∨ j = 8 ∨ j = 9 ∨ j = 10 ∨ j = 11 ∨ j = 12 ∨ j = 13 ∨ j = 14 ∨ j = 15 ∨ j = 16 ∨ j = 17 ∨ j = 18 ∨ j = 19 ∨ j = 20 ∨ j = 21 ∨ j = 22 ∨ j = 23 ∨ j = 24 ∨ j = 25 ∨ j = 26 ∨ j = 27 ∨ j = 28 ∨ j = 29 ∨ j = 30 ∨ j = 31 ∨ j = 32 by omega) with rfl | rfl | rfl | rfl | rfl | rfl | rfl | rfl | rfl | rfl | rfl | rfl | rfl | rfl | rfl | rfl | rfl | rfl | rfl | rfl | rfl | rfl | rfl | rfl | rfl | rfl | rfl | rfl | rfl | rfl | rfl | rfl | rfl <;> rfl
/-! decode rows -/
theorem dX12_init_0 : decode cX12_init 0 = .ok (.aload_n 0, 1) := by decide +kernel
theorem dX12_init_1 : decode cX12_init 1 = .ok (.invokespecial 3, 3) := by decide +kernel
theorem dX12_init_4 : decode cX12_init 4 = .ok (.aload_n 0, 1) := by decide +kernel
theorem dX12_init_5 : decode cX12_init 5 = .ok (.sipush 3567, 3) := by decide +kernel
theorem dX12_init_8 : decode cX12_init 8 = .ok (.newarray .int, 2) := by decide +kernel
theorem dX12_init_10 : decode cX12_init 10 = .ok (.putfield 9, 3) := by decide +kernel
theorem dX12_init_13 : decode cX12_init 13 = .ok (.aload_n 0, 1) := by decide +kernel
theorem dX12_init_14 : decode cX12_init 14 = .ok (.sipush 3567, 3) := by decide +kernel
theorem dX12_init_17 : decode cX12_init 17 = .ok (.newarray .int, 2) := by decide +kernel
theorem dX12_init_19 : decode cX12_init 19 = .ok (.putfield 13, 3) := by decide +kernel
theorem dX12_init_22 : decode cX12_init 22 = .ok (.aload_n 0, 1) := by decide +kernel
theorem dX12_init_23 : decode cX12_init 23 = .ok (.sipush 3567, 3) := by decide +kernel
theorem dX12_init_26 : decode cX12_init 26 = .ok (.newarray .int, 2) := by decide +kernel
theorem dX12_init_28 : decode cX12_init 28 = .ok (.putfield 16, 3) := by decide +kernel
theorem dX12_init_31 : decode cX12_init 31 = .ok (.aload_n 0, 1) := by decide +kernel
theorem dX12_init_32 : decode cX12_init 32 = .ok (.bipush 7, 2) := by decide +kernel
theorem dX12_init_34 : decode cX12_init 34 = .ok (.newarray .int, 2) := by decide +kernel
theorem dX12_init_36 : decode cX12_init 36 = .ok (.putfield 19, 3) := by decide +kernel
theorem dX12_init_39 : decode cX12_init 39 = .ok (.aload_n 0, 1) := by decide +kernel
theorem dX12_init_40 : decode cX12_init 40 = .ok (.bipush 8, 2) := by decide +kernel
theorem dX12_init_42 : decode cX12_init 42 = .ok (.newarray .int, 2) := by decide +kernel
theorem dX12_init_44 : decode cX12_init 44 = .ok (.dup, 1) := by decide +kernel
theorem dX12_init_45 : decode cX12_init 45 = .ok (.iconst 0, 1) := by decide +kernel
theorem dX12_init_46 : decode cX12_init 46 = .ok (.iconst 0, 1) := by decide +kernel
theorem dX12_init_47 : decode cX12_init 47 = .ok (.iastore, 1) := by decide +kernel
theorem dX12_init_48 : decode cX12_init 48 = .ok (.dup, 1) := by decide +kernel
theorem dX12_init_49 : decode cX12_init 49 = .ok (.iconst 1, 1) := by decide +kernel
theorem dX12_init_50 : decode cX12_init 50 = .ok (.iconst 1, 1) := by decide +kernel
theorem dX12_init_51 : decode cX12_init 51 = .ok (.iastore, 1) := by decide +kernel
theorem dX12_init_52 : decode cX12_init 52 = .ok (.dup, 1) := by decide +kernel
theorem dX12_init_53 : decode cX12_init 53 = .ok (.iconst 2, 1) := by decide +kernel
theorem dX12_init_54 : decode cX12_init 54 = .ok (.iconst 1, 1) := by decide +kernel
theorem dX12_init_55 : decode cX12_init 55 = .ok (.iastore, 1) := by decide +kernel
theorem dX12_init_56 : decode cX12_init 56 = .ok (.dup, 1) := by decide +kernel
theorem dX12_init_57 : decode cX12_init 57 = .ok (.iconst 3, 1) := by decide +kernel
theorem dX12_init_58 : decode cX12_init 58 = .ok (.iconst 1, 1) := by decide +kernel
theorem dX12_init_59 : decode cX12_init 59 = .ok (.iastore, 1) := by decide +kernel
theorem dX12_init_60 : decode cX12_init 60 = .ok (.dup, 1) := by decide +kernel
theorem dX12_init_61 : decode cX12_init 61 = .ok (.iconst 4, 1) := by decide +kernel
theorem dX12_init_62 : decode cX12_init 62 = .ok (.iconst 0, 1) := by decide +kernel
theorem dX12_init_63 : decode cX12_init 63 = .ok (.iastore, 1) := by decide +kernel
theorem dX12_init_64 : decode cX12_init 64 = .ok (.dup, 1) := by decide +kernel
theorem dX12_init_65 : decode cX12_init 65 = .ok (.iconst 5, 1) := by decide +kernel
theorem dX12_init_66 : decode cX12_init 66 = .ok (.iconst (-1), 1) := by decide +kernel
theorem dX12_init_67 : decode cX12_init 67 = .ok (.iastore, 1) := by decide +kernel
theorem dX12_init_68 : decode cX12_init 68 = .ok (.dup, 1) := by decide +kernel
theorem dX12_init_69 : decode cX12_init 69 = .ok (.bipush 6, 2) := by decide +kernel
theorem dX12_init_71 : decode cX12_init 71 = .ok (.iconst (-1), 1) := by decide +kernel
theorem dX12_init_72 : decode cX12_init 72 = .ok (.iastore, 1) := by decide +kernel
theorem dX12_init_73 : decode cX12_init 73 = .ok (.dup, 1) := by decide +kernel
theorem dX12_init_74 : decode cX12_init 74 = .ok (.bipush 7, 2) := by decide +kernel
theorem dX12_init_76 : decode cX12_init 76 = .ok (.iconst (-1), 1) := by decide +kernel
theorem dX12_init_77 : decode cX12_init 77 = .ok (.iastore, 1) := by decide +kernel
theorem dX12_init_78 : decode cX12_init 78 = .ok (.putfield 22, 3) := by decide +kernel
theorem dX12_init_81 : decode cX12_init 81 = .ok (.aload_n 0, 1) := by decide +kernel
theorem dX12_init_82 : decode cX12_init 82 = .ok (.bipush 8, 2) := by decide +kernel
theorem dX12_init_84 : decode cX12_init 84 = .ok (.newarray .int, 2) := by decide +kernel
theorem dX12_init_86 : decode cX12_init 86 = .ok (.dup, 1) := by decide +kernel
theorem dX12_init_87 : decode cX12_init 87 = .ok (.iconst 0, 1) := by decide +kernel
theorem dX12_init_88 : decode cX12_init 88 = .ok (.iconst (-1), 1) := by decide +kernel
theorem dX12_init_89 : decode cX12_init 89 = .ok (.iastore, 1) := by decide +kernel
theorem dX12_init_90 : decode cX12_init 90 = .ok (.dup, 1) := by decide +kernel
theorem dX12_init_91 : decode cX12_init 91 = .ok (.iconst 1, 1) := by decide +kernel
theorem dX12_init_92 : decode cX12_init 92 = .ok (.iconst (-1), 1) := by decide +kernel
theorem dX12_init_93 : decode cX12_init 93 = .ok (.iastore, 1) := by decide +kernel
theorem dX12_init_94 : decode cX12_init 94 = .ok (.dup, 1) := by decide +kernel
theorem dX12_init_95 : decode cX12_init 95 = .ok (.iconst 2, 1) := by decide +kernel
theorem dX12_init_96 : decode cX12_init 96 = .ok (.iconst 0, 1) := by decide +kernel
theorem dX12_init_97 : decode cX12_init 97 = .ok (.iastore, 1) := by decide +kernel
theorem dX12_init_98 : decode cX12_init 98 = .ok (.dup, 1) := by decide +kernel
theorem dX12_init_99 : decode cX12_init 99 = .ok (.iconst 3, 1) := by decide +kernel
theorem dX12_init_100 : decode cX12_init 100 = .ok (.iconst 1, 1) := by decide +kernel
theorem dX12_init_101 : decode cX12_init 101 = .ok (.iastore, 1) := by decide +kernel
theorem dX12_init_102 : decode cX12_init 102 = .ok (.dup, 1) := by decide +kernel
theorem dX12_init_103 : decode cX12_init 103 = .ok (.iconst 4, 1) := by decide +kernel
theorem dX12_init_104 : decode cX12_init 104 = .ok (.iconst 1, 1) := by decide +kernel
theorem dX12_init_105 : decode cX12_init 105 = .ok (.iastore, 1) := by decide +kernel
theorem dX12_init_106 : decode cX12_init 106 = .ok (.dup, 1) := by decide +kernel
theorem dX12_init_107 : decode cX12_init 107 = .ok (.iconst 5, 1) := by decide +kernel
theorem dX12_init_108 : decode cX12_init 108 = .ok (.iconst 1, 1) := by decide +kernel
theorem dX12_init_109 : decode cX12_init 109 = .ok (.iastore, 1) := by decide +kernel
theorem dX12_init_110 : decode cX12_init 110 = .ok (.dup, 1) := by decide +kernel
theorem dX12_init_111 : decode cX12_init 111 = .ok (.bipush 6, 2) := by decide +kernel
theorem dX12_init_113 : decode cX12_init 113 = .ok (.iconst 0, 1) := by decide +kernel
theorem dX12_init_114 : decode cX12_init 114 = .ok (.iastore, 1) := by decide +kernel
theorem dX12_init_115 : decode cX12_init 115 = .ok (.dup, 1) := by decide +kernel
theorem dX12_init_116 : decode cX12_init 116 = .ok (.bipush 7, 2) := by decide +kernel
theorem dX12_init_118 : decode cX12_init 118 = .ok (.iconst (-1), 1) := by decide +kernel
theorem dX12_init_119 : decode cX12_init 119 = .ok (.iastore, 1) := by decide +kernel
theorem dX12_init_120 : decode cX12_init 120 = .ok (.putfield 25, 3) := by decide +kernel
theorem dX12_init_123 : decode cX12_init 123 = .ok (.aload_n 0, 1) := by decide +kernel
theorem dX12_init_124 : decode cX12_init 124 = .ok (.iconst (-1), 1) := by decide +kernel
theorem dX12_init_125 : decode cX12_init 125 = .ok (.putfield 28, 3) := by decide +kernel
theorem dX12_init_128 : decode cX12_init 128 = .ok (.aload_n 0, 1) := by decide +kernel
theorem dX12_init_129 : decode cX12_init 129 = .ok (.iconst 3, 1) := by decide +kernel
theorem dX12_init_130 : decode cX12_init 130 = .ok (.anewarray 32, 3) := by decide +kernel
theorem dX12_init_133 : decode cX12_init 133 = .ok (.dup, 1) := by decide +kernel
theorem dX12_init_134 : decode cX12_init 134 = .ok (.iconst 0, 1) := by decide +kernel
theorem dX12_init_135 : decode cX12_init 135 = .ok (.ldc 34, 2) := by decide +kernel
theorem dX12_init_137 : decode cX12_init 137 = .ok (.aastore, 1) := by decide +kernel
theorem dX12_init_138 : decode cX12_init 138 = .ok (.dup, 1) := by decide +kernel
theorem dX12_init_139 : decode cX12_init 139 = .ok (.iconst 1, 1) := by decide +kernel
theorem dX12_init_140 : decode cX12_init 140 = .ok (.ldc 36, 2) := by decide +kernel
theorem dX12_init_142 : decode cX12_init 142 = .ok (.aastore, 1) := by decide +kernel
theorem dX12_init_143 : decode cX12_init 143 = .ok (.dup, 1) := by decide +kernel
theorem dX12_init_144 : decode cX12_init 144 = .ok (.iconst 2, 1) := by decide +kernel
theorem dX12_init_145 : decode cX12_init 145 = .ok (.ldc 38, 2) := by decide +kernel
theorem dX12_init_147 : decode cX12_init 147 = .ok (.aastore, 1) := by decide +kernel
theorem dX12_init_148 : decode cX12_init 148 = .ok (.putfield 40, 3) := by decide +kernel
theorem dX12_init_151 : decode cX12_init 151 = .ok (.aload_n 0, 1) := by decide +kernel
theorem dX12_init_152 : decode cX12_init 152 = .ok (.bipush 49, 2) := by decide +kernel
theorem dX12_init_154 : decode cX12_init 154 = .ok (.newarray .int, 2) := by decide +kernel
theorem dX12_init_156 : decode cX12_init 156 = .ok (.putfield 44, 3) := by decide +kernel
theorem dX12_init_159 : decode cX12_init 159 = .ok (.aload_n 0, 1) := by decide +kernel
theorem dX12_init_160 : decode cX12_init 160 = .ok (.iconst 5, 1) := by decide +kernel
theorem dX12_init_161 : decode cX12_init 161 = .ok (.newarray .int, 2) := by decide +kernel
theorem dX12_init_163 : decode cX12_init 163 = .ok (.putfield 47, 3) := by decide +kernel
theorem dX12_init_166 : decode cX12_init 166 = .ok (.aload_n 0, 1) := by decide +kernel
theorem dX12_init_167 : decode cX12_init 167 = .ok (.bipush 49, 2) := by decide +kernel
theorem dX12_init_169 : decode cX12_init 169 = .ok (.newarray .int, 2) := by decide +kernel
theorem dX12_init_171 : decode cX12_init 171 = .ok (.putfield 50, 3) := by decide +kernel
theorem dX12_init_174 : decode cX12_init 174 = .ok (.aload_n 0, 1) := by decide +kernel
theorem dX12_init_175 : decode cX12_init 175 = .ok (.sipush 1536, 3) := by decide +kernel
theorem dX12_init_178 : decode cX12_init 178 = .ok (.newarray .boolean, 2) := by decide +kernel
theorem dX12_init_180 : decode cX12_init 180 = .ok (.putfield 53, 3) := by decide +kernel
theorem dX12_init_183 : decode cX12_init 183 = .ok (.aload_n 0, 1) := by decide +kernel
theorem dX12_init_184 : decode cX12_init 184 = .ok (.sipush 192, 3) := by decide +kernel
theorem dX12_init_187 : decode cX12_init 187 = .ok (.newarray .int, 2) := by decide +kernel
theorem dX12_init_189 : decode cX12_init 189 = .ok (.putfield 57, 3) := by decide +kernel
theorem dX12_init_192 : decode cX12_init 192 = .ok (.aload_n 0, 1) := by decide +kernel
theorem dX12_init_193 : decode cX12_init 193 = .ok (.bipush 7, 2) := by decide +kernel
theorem dX12_init_195 : decode cX12_init 195 = .ok (.newarray .int, 2) := by decide +kernel
theorem dX12_init_197 : decode cX12_init 197 = .ok (.putfield 60, 3) := by decide +kernel
theorem dX12_init_200 : decode cX12_init 200 = .ok (.aload_n 0, 1) := by decide +kernel
theorem dX12_init_201 : decode cX12_init 201 = .ok (.bipush 7, 2) := by decide +kernel
theorem dX12_init_203 : decode cX12_init 203 = .ok (.newarray .int, 2) := by decide +kernel
theorem dX12_init_205 : decode cX12_init 205 = .ok (.putfield 63, 3) := by decide +kernel
theorem dX12_init_208 : decode cX12_init 208 = .ok (.aload_n 0, 1) := by decide +kernel
theorem dX12_init_209 : decode cX12_init 209 = .ok (.bipush 8, 2) := by decide +kernel
theorem dX12_init_211 : decode cX12_init 211 = .ok (.newarray .int, 2) := by decide +kernel
theorem dX12_init_213 : decode cX12_init 213 = .ok (.putfield 66, 3) := by decide +kernel
theorem dX12_init_216 : decode cX12_init 216 = .ok (.aload_n 0, 1) := by decide +kernel
theorem dX12_init_217 : decode cX12_init 217 = .ok (.bipush 30, 2) := by decide +kernel
theorem dX12_init_219 : decode cX12_init 219 = .ok (.newarray .int, 2) := by decide +kernel
theorem dX12_init_221 : decode cX12_init 221 = .ok (.putfield 69, 3) := by decide +kernel
theorem dX12_init_224 : decode cX12_init 224 = .ok (.aload_n 0, 1) := by decide +kernel
theorem dX12_init_225 : decode cX12_init 225 = .ok (.iconst 4, 1) := by decide +kernel
theorem dX12_init_226 : decode cX12_init 226 = .ok (.newarray .int, 2) := by decide +kernel
theorem dX12_init_228 : decode cX12_init 228 = .ok (.putfield 72, 3) := by decide +kernel
theorem dX12_init_231 : decode cX12_init 231 = .ok (.aload_n 0, 1) := by decide +kernel
theorem dX12_init_232 : decode cX12_init 232 = .ok (.iconst 4, 1) := by decide +kernel
theorem dX12_init_233 : decode cX12_init 233 = .ok (.newarray .int, 2) := by decide +kernel
theorem dX12_init_235 : decode cX12_init 235 = .ok (.putfield 75, 3) := by decide +kernel
theorem dX12_init_238 : decode cX12_init 238 = .ok (.aload_n 0, 1) := by decide +kernel
theorem dX12_init_239 : decode cX12_init 239 = .ok (.bipush 96, 2) := by decide +kernel
theorem dX12_init_241 : decode cX12_init 241 = .ok (.newarray .int, 2) := by decide +kernel
theorem dX12_init_243 : decode cX12_init 243 = .ok (.putfield 78, 3) := by decide +kernel
theorem dX12_init_246 : decode cX12_init 246 = .ok (.aload_n 0, 1) := by decide +kernel
theorem dX12_init_247 : decode cX12_init 247 = .ok (.bipush 24, 2) := by decide +kernel
theorem dX12_init_249 : decode cX12_init 249 = .ok (.newarray .int, 2) := by decide +kernel
theorem dX12_init_251 : decode cX12_init 251 = .ok (.putfield 81, 3) := by decide +kernel
theorem dX12_init_254 : decode cX12_init 254 = .ok (.aload_n 0, 1) := by decide +kernel
theorem dX12_init_255 : decode cX12_init 255 = .ok (.getfield 9, 3) := by decide +kernel
theorem dX12_init_258 : decode cX12_init 258 = .ok (.bipush 6, 2) := by decide +kernel
theorem dX12_init_260 : decode cX12_init 260 = .ok (.iconst 5, 1) := by decide +kernel
theorem dX12_init_261 : decode cX12_init 261 = .ok (.iastore, 1) := by decide +kernel
theorem dX12_init_262 : decode cX12_init 262 = .ok (.aload_n 0, 1) := by decide +kernel
theorem dX12_init_263 : decode cX12_init 263 = .ok (.getfield 9, 3) := by decide +kernel
theorem dX12_init_266 : decode cX12_init 266 = .ok (.bipush 7, 2) := by decide +kernel
theorem dX12_init_268 : decode cX12_init 268 = .ok (.bipush 9, 2) := by decide +kernel
theorem dX12_init_270 : decode cX12_init 270 = .ok (.iastore, 1) := by decide +kernel
theorem dX12_init_271 : decode cX12_init 271 = .ok (.iconst 0, 1) := by decide +kernel
theorem dX12_init_272 : decode cX12_init 272 = .ok (.istore_n 1, 1) := by decide +kernel
theorem dX12_init_273 : decode cX12_init 273 = .ok (.iload_n 1, 1) := by decide +kernel
theorem dX12_init_274 : decode cX12_init 274 = .ok (.iconst 5, 1) := by decide +kernel
theorem dX12_init_275 : decode cX12_init 275 = .ok (.if_icmp .ge 20, 3) := by decide +kernel
theorem dX12_init_278 : decode cX12_init 278 = .ok (.aload_n 0, 1) := by decide +kernel
theorem dX12_init_279 : decode cX12_init 279 = .ok (.getfield 9, 3) := by decide +kernel
theorem dX12_init_282 : decode cX12_init 282 = .ok (.bipush 9, 2) := by decide +kernel
theorem dX12_init_284 : decode cX12_init 284 = .ok (.iload_n 1, 1) := by decide +kernel
theorem dX12_init_285 : decode cX12_init 285 = .ok (.iadd, 1) := by decide +kernel
theorem dX12_init_286 : decode cX12_init 286 = .ok (.bipush 50, 2) := by decide +kernel
theorem dX12_init_288 : decode cX12_init 288 = .ok (.iastore, 1) := by decide +kernel
theorem dX12_init_289 : decode cX12_init 289 = .ok (.iinc 1 1, 3) := by decide +kernel
theorem dX12_init_292 : decode cX12_init 292 = .ok (.goto (-19), 3) := by decide +kernel
theorem dX12_init_295 : decode cX12_init 295 = .ok (.return_, 1) := by decide +kernel
end
section
/-! the model constructor: its rows of numbers; the constant Strings that it stores -/
def nw0 : Nat → Int32 := (upd (upd (upd (upd (upd (upd (upd (fun _ => 0) 6 5) 7 9) 9 50) 10 50) 11 50) 12 50) 13 50)
def ea0 : Nat → Int32 := (upd (upd (upd (upd (upd (upd (upd (upd (fun _ => 0) 0 0) 1 1) 2 1) 3 1) 4 0) 5 (-1)) 6 (-1)) 7 (-1))
def so0 : Nat → Int32 := (upd (upd (upd (upd (upd (upd (upd (upd (fun _ => 0) 0 (-1)) 1 (-1)) 2 0) 3 1) 4 1) 5 1) 6 0) 7 (-1))
/-! the constant Strings that the model's constructor stores -/
def STRS (sk : Nat → Nat) (h0 : Nat) (U : State) : Prop := ∀ k, 4 ≤ k → k < 7 → va_O "java/lang/String" (sk k) (fun q => q = h0) U U.heap
theorem mtS {l : Launch} {y : MethodName} {b : ByteArray} {n : Nat} {r : Option FieldType} {rm : Room} {G : va_G} {cy : Nat → ClassId} {sk : Nat → Nat} {sz h0 : Nat} {WS : va_W} {av : List Value} {Qc : Array Value → State → Outcome → State → Prop} {mc ms : Nat} {free : Addr → Prop} (hy : plainName y.cls = true) (hn : (lg_sl av).length ≤ n)
    (body : ∀ (p : Program) (e : Env) (s : State) (m : MethodId) (below : List Frame) (meth : Method) (c : Code) (ls : Array Slot), p.tables.exec = Jvm.exec → c.code = b → meth.sig.returnType = r → c.maxLocals = n → (∀ w ∈ BASE, w.before av.toArray s = true) → s.vm.findClass y.cls = some m.cls → meth.locks = false → meth.name = y.name → s.heap.size = sz → va_P G classes WS s.heap → EN G cy sk s → va_D (fun _ => True) WS → STRS sk h0 s → lv_has ls n (lv_args 0 av) →
      W p l e (headSpec (wsO y b n r) rm).room s m av.toArray below meth c s.heap [] 0 0 (MQ below Qc av.toArray s mc ms free) (F0 m 0 ls [])) : Met l y (wsO y b n r) rm (va_Pc av (fun U => PR G cy sk sz WS U ∧ STRS sk h0 U)) Qc mc ms free := by
  refine Met.ofW (cc := b) (maxL := n) (ret := r) (ws' := BASE) hy rfl ?_
  intro p e s m args below meth c s₁ B hml hv
  obtain ⟨rfl, ⟨hsz, hP, hE, hD⟩, hO⟩ := hv
  have hts := atoms_spec (ws := wsO y b n r) B.pre
  rw [lg_entry_eq]
  exact body p e s m below meth c _ B.exec B.bytes B.returns hml (fun w hw => hts w (List.mem_cons_of_mem _ hw)) (findClass_of_methodNamed B.named) B.notSynchronized (name_of_methodNamed B.named B.method).1 hsz hP hE hD hO (lv_entry av hn)
theorem strA {sk : Nat → Nat} {h0 : Nat} {s : State} {e0 : va_E} (hO : STRS sk h0 s) : ∀ k, 4 ≤ k → k < 7 → sk k < s.heap.size ∧ ¬ va_A [(h0, e0)] s.heap.size (sk k) := by
  intro k h4 h7
  obtain ⟨cell, h1, h2, h3, h5⟩ := hO k h4 h7
  have hlt : sk k < s.heap.size := (Array.getElem?_eq_some_iff.mp h1).1
  refine ⟨hlt, fun q => ?_⟩
  rcases q with ⟨j, e1, hj⟩ | q
  · cases j with
    | zero => simp at hj; exact h5 hj.1.symm
    | succ j => simp at hj
  · exact absurd hlt (Nat.not_lt.mpr q)
theorem strH {sk : Nat → Nat} {h0 : Nat} {s : State} {A : Nat → Prop} {H : Heap} {locs : List Loc} (hO : STRS sk h0 s) (hn : ∀ k, 4 ≤ k → k < 7 → sk k < s.heap.size ∧ ¬ A (sk k)) (hS : va_S A s.heap H locs) (k : Nat) (h4 : 4 ≤ k) (h7 : k < 7) : ∃ cell : Cell, H[sk k]? = some cell ∧ cell.vm.isStatics = false ∧ s.vm.findClass "java/lang/String" = some cell.cls := by
  obtain ⟨cell, h1, h2, h3, -⟩ := hO k h4 h7
  exact ⟨cell, by rw [hS.2.1 _ (hn k h4 h7).1 (hn k h4 h7).2]; exact h1, h2, h3⟩
theorem asgSame {s : State} {E : String} : ∀ comp c0 : ClassId, s.vm.findClass E = some comp → s.vm.findClass E = some c0 → s.vm.assignable c0 comp = true := fun comp c0 h1 h2 => by
  rw [h1] at h2
  cases h2
  exact va_asg _ _
section STRCALL
variable {p : Program} {l : Launch} {e : Env} {R : Room} {s : State} {m : MethodId} {args : Array Value} {below : List Frame} {meth : Method} {c : Code} {H H0 : Heap} {locs : List Loc} {cells slots : Nat} {Q : State → Prop}
variable {cc : ByteArray} {pc : Nat} {ls : Array Slot} {rest st As : List Value} {G : va_G} {cy : Nat → ClassId} {sk : Nat → Nat} {ws wc wr : va_W} {A : Nat → Prop} {own : String} {idx mc ms nL n k : Nat} {y : MethodName} {b : ByteArray} {r : Option FieldType} {rm : Room} {a ci h0 : Nat}
theorem wIS {B : Heap → Prop} (hx : p.tables.exec = Jvm.exec) (hb : c.code = cc) (hml : c.maxLocals = nL) (hown : s.vm.findClass own = some m.cls) (hts : ∀ w ∈ BASE, w.before args s = true) (hE : EN G cy sk s) (hO : ∀ k, 4 ≤ k → k < 7 → va_O "java/lang/String" (sk k) (fun q => q = h0) s H) (hM : Met l y (wsO y b n none) rm (va_Pc (.ref a :: As) (fun U => PR G cy sk H.size wc U ∧ STRS sk h0 U)) (va_Qv (fun (_ : Unit) => True) (fun _ t => B t.heap) (va_A wc H.size)) mc ms (va_A wc H.size)) (hy : KI y b n k) (hl : Cond.methodLink own idx y ∈ BASE)
    (hrc : rm.cells = mc) (hrs : rm.slots = ms) (hR : rm.frames + 1 ≤ R.frames ∧ 8 + (n + 11) + rm.locals ≤ R.locals) (hP : va_P G classes ws H) (hD : va_D A ws) (hS : va_S A H0 H locs) (hA : ∀ q, H0.size ≤ q → A q) (is ir : List Nat) (hnd : va_nd is = true) (hC : is.map (fun i => ws[i]?) = wc.map some) (hRr : ir.map (fun i => ws[i]?) = wr.map some) (hnr : va_nd ir = true) (hdis : ∀ i ∈ ir, i ∉ is) (hst : st = As.reverse ++ .ref a :: rest) (hn : As.length = k) (hls : ls.size = nL) (hW : (rest.map fun v => v.category).sum ≤ 8) (hdg : decode cc pc = .ok (.invokespecial idx, 3)) (hf : cells + mc ≤ R.cells ∧ slots + ms ≤ R.slots)
    (kk : ∀ (H1 : Heap) (locs1 : List Loc), AFT G A wr B wc H.size H1 → va_S A H0 H1 locs1 → W p l e R s m args below meth c H1 locs1 (cells + mc) (slots + ms) Q (F0 m (pc + 3) ls rest)) : W p l e R s m args below meth c H locs cells slots Q (F0 m pc ls st) := by
  have hF := va_free (wc := wc) hD hS hA is hC
  have hbl : FrameBlind (va_Pc (.ref a :: As) (fun U => PR G cy sk H.size wc U ∧ STRS sk h0 U)) := fun a U g mk h => ⟨h.1, ⟨h.2.1.1, h.2.1.2.1, EN.same (u := U) (U := U.calling g mk a) rfl h.2.1.2.2.1, h.2.1.2.2.2⟩, h.2.2⟩
  have hpre : ∀ U : State, U.heap = H → s.WarmedH U.vm → va_Pc (.ref a :: As) (fun U => PR G cy sk H.size wc U ∧ STRS sk h0 U) (Value.ref a :: As).toArray U := fun U hU hW2 => ⟨rfl, (PR_of (av := .ref a :: As) (P_cut hP is hC) (hD.sub is hnd hC) hE U hU hW2).2, fun k h4 h7 => by rw [hU]; exact va_O.moved hW2.alike (hO k h4 h7)⟩
  refine va_callv (va_runI ⟨hx, hb, hml, hown, hts⟩ hM (cwI k hts (b_in (wsO_in hy.2.2.2.1)) rfl hrc hrs (hts _ hy.2.2.1) (hts _ hl) (hts _ hy.1) hy.2.1 hy.2.2.2.2 hR) ⟨hbl, hpre⟩ rfl hn hls hst (lv_room hW) hdg hf) hS (fun q _ h => hF q h) hF (fun u t H1 locs1 ht hvm hp hB hz hk hS1 => ?_)
  subst ht
  exact kk _ locs1 (aft hP hD is ir hC hRr hnr hdis hF hB hk) hS1
end STRCALL
def B_c_X12_init (G : va_G) (cy : Nat → ClassId) (sk : Nat → Nat) (A : Nat → Prop) (h0 : Nat) (H : Heap) : Prop := ∃ (nw : Nat) (nk : Nat) (na : Nat) (fd : Nat) (ea : Nat) (so : Nat) (nd : Nat) (cd : Nat) (nmd : Nat) (pl : Nat) (tl : Nat) (fr_ : Nat) (rw_ : Nat) (brw : Nat) (po : Nat) (trc : Nat) (wi : Nat) (sz_ : Nat) (nu : Nat) (ca : Nat) (gn : Nat → Option Nat), (gn 0 = some (sk 4)) ∧ (gn 1 = some (sk 5)) ∧ (gn 2 = some (sk 6)) ∧ va_P G classes [(h0, .inr (12, [.ref nw, .ref nk, .ref na, .int 0, .ref fd, .ref ea, .ref so, .int (-1), .ref nd, .int 0, .int 0, .int 0, .int 0, .int 0, .int 0, .ref cd, .ref nmd, .ref pl, .ref tl, .ref fr_, .ref rw_, .ref brw, .int 0, .int 0, .ref po, .ref trc, .int 0, .int 0, .int 0, .ref wi, .ref sz_, .ref nu, .ref ca])), (nw, .inl (cy 0, 3567, .inl nw0)), (nk, .inl (cy 0, 3567, .inl (fun _ => 0))), (na, .inl (cy 0, 3567, .inl (fun _ => 0))), (fd, .inl (cy 0, 7, .inl (fun _ => 0))), (ea, .inl (cy 0, 8, .inl ea0)), (so, .inl (cy 0, 8, .inl so0)), (nd, .inl (cy 6, 3, .inr (.inr (.inr (.inr gn))))), (cd, .inl (cy 0, 49, .inl (fun _ => 0))), (nmd, .inl (cy 0, 5, .inl (fun _ => 0))), (pl, .inl (cy 0, 49, .inl (fun _ => 0))), (tl, .inl (cy 1, 1536, .inl (fun _ => 0))), (fr_, .inl (cy 0, 192, .inl (fun _ => 0))), (rw_, .inl (cy 0, 7, .inl (fun _ => 0))), (brw, .inl (cy 0, 7, .inl (fun _ => 0))), (po, .inl (cy 0, 8, .inl (fun _ => 0))), (trc, .inl (cy 0, 30, .inl (fun _ => 0))), (wi, .inl (cy 0, 4, .inl (fun _ => 0))), (sz_, .inl (cy 0, 4, .inl (fun _ => 0))), (nu, .inl (cy 0, 96, .inl (fun _ => 0))), (ca, .inl (cy 0, 24, .inl (fun _ => 0)))] H ∧ va_D A [(h0, .inr (12, [.ref nw, .ref nk, .ref na, .int 0, .ref fd, .ref ea, .ref so, .int (-1), .ref nd, .int 0, .int 0, .int 0, .int 0, .int 0, .int 0, .ref cd, .ref nmd, .ref pl, .ref tl, .ref fr_, .ref rw_, .ref brw, .int 0, .int 0, .ref po, .ref trc, .int 0, .int 0, .int 0, .ref wi, .ref sz_, .ref nu, .ref ca])), (nw, .inl (cy 0, 3567, .inl nw0)), (nk, .inl (cy 0, 3567, .inl (fun _ => 0))), (na, .inl (cy 0, 3567, .inl (fun _ => 0))), (fd, .inl (cy 0, 7, .inl (fun _ => 0))), (ea, .inl (cy 0, 8, .inl ea0)), (so, .inl (cy 0, 8, .inl so0)), (nd, .inl (cy 6, 3, .inr (.inr (.inr (.inr gn))))), (cd, .inl (cy 0, 49, .inl (fun _ => 0))), (nmd, .inl (cy 0, 5, .inl (fun _ => 0))), (pl, .inl (cy 0, 49, .inl (fun _ => 0))), (tl, .inl (cy 1, 1536, .inl (fun _ => 0))), (fr_, .inl (cy 0, 192, .inl (fun _ => 0))), (rw_, .inl (cy 0, 7, .inl (fun _ => 0))), (brw, .inl (cy 0, 7, .inl (fun _ => 0))), (po, .inl (cy 0, 8, .inl (fun _ => 0))), (trc, .inl (cy 0, 30, .inl (fun _ => 0))), (wi, .inl (cy 0, 4, .inl (fun _ => 0))), (sz_, .inl (cy 0, 4, .inl (fun _ => 0))), (nu, .inl (cy 0, 96, .inl (fun _ => 0))), (ca, .inl (cy 0, 24, .inl (fun _ => 0)))]
theorem eN_4 {G : va_G} {cy : Nat → ClassId} {sk : Nat → Nat} {s : State} (hE : EN G cy sk s) : vk_R RX12 34 "loyp" (sk 4) s := hE.2.2.2.1 4 (RX12, 34, "loyp") rfl
theorem eN_5 {G : va_G} {cy : Nat → ClassId} {sk : Nat → Nat} {s : State} (hE : EN G cy sk s) : vk_R RX12 36 "snt" (sk 5) s := hE.2.2.2.1 5 (RX12, 36, "snt") rfl
theorem eN_6 {G : va_G} {cy : Nat → ClassId} {sk : Nat → Nat} {s : State} (hE : EN G cy sk s) : vk_R RX12 38 "flrbt" (sk 6) s := hE.2.2.2.1 6 (RX12, 38, "flrbt") rfl
set_option maxHeartbeats 4000000 in
set_option maxRecDepth 100000 in
theorem c_X12_init (l : Launch) (G : va_G) (cy : Nat → ClassId) (sk : Nat → Nat) (sz : Nat) (h0 : Nat)  : Met l yX12_init (wsO yX12_init cX12_init 2 none) ({ frames := 1, cells := 20, slots := 12738, locals := 12 }) (va_Pc [.ref h0] (fun U => PR G cy sk sz [(h0, .inr (12, [.null, .null, .null, .int 0, .null, .null, .null, .int 0, .null, .int 0, .int 0, .int 0, .int 0, .int 0, .int 0, .null, .null, .null, .null, .null, .null, .null, .int 0, .int 0, .null, .null, .int 0, .int 0, .int 0, .null, .null, .null, .null]))] U ∧ STRS sk h0 U)) (va_Qv (fun (_ : Unit) => True) (fun _ t => B_c_X12_init G cy sk (va_A [(h0, .inr (12, [.null, .null, .null, .int 0, .null, .null, .null, .int 0, .null, .int 0, .int 0, .int 0, .int 0, .int 0, .int 0, .null, .null, .null, .null, .null, .null, .null, .int 0, .int 0, .null, .null, .int 0, .int 0, .int 0, .null, .null, .null, .null]))] sz) h0 t.heap) (va_A [(h0, .inr (12, [.null, .null, .null, .int 0, .null, .null, .null, .int 0, .null, .int 0, .int 0, .int 0, .int 0, .int 0, .int 0, .null, .null, .null, .null, .null, .null, .null, .int 0, .int 0, .null, .null, .int 0, .int 0, .int 0, .null, .null, .null, .null]))] sz)) 20 12738 (va_A [(h0, .inr (12, [.null, .null, .null, .int 0, .null, .null, .null, .int 0, .null, .int 0, .int 0, .int 0, .int 0, .int 0, .int 0, .null, .null, .null, .null, .null, .null, .null, .int 0, .int 0, .null, .null, .int 0, .int 0, .int 0, .null, .null, .null, .null]))] sz) := by
  refine mtS (by decide) (Nat.le_of_ble_eq_true rfl) ?_
  intro p e s m below meth c ls hx hb hr hml hts hown hlocks hin hsz hP hE hD hO hl
  subst hsz
  have hl : lv_has ls 2 [(0, .ref h0)] := hl
  have hD := hD.self (sz := s.heap.size)
  generalize hAe : va_A [(h0, .inr (12, [.null, .null, .null, .int 0, .null, .null, .null, .int 0, .null, .int 0, .int 0, .int 0, .int 0, .int 0, .int 0, .null, .null, .null, .null, .null, .null, .null, .int 0, .int 0, .null, .null, .int 0, .int 0, .int 0, .null, .null, .null, .null]))] s.heap.size = A at hD ⊢
  have hA : ∀ q : Nat, s.heap.size ≤ q → A q := fun q h => by rw [← hAe]; exact Or.inr h
  have hS : va_S A s.heap s.heap [] := va_S.rf
  have hnA : ∀ k, 4 ≤ k → k < 7 → sk k < s.heap.size ∧ ¬ A (sk k) := fun k h4 h7 => by rw [← hAe]; exact strA hO k h4 h7
  refine lv_aload_n hx hb dX12_init_0 rfl (lv_at hl 0 rfl) ?_
  refine W.objInit hx hb hown (hts _ m_1317) (hts _ m_107) (hts _ m_108) rfl (by rw [hml]; exact hl.1) rfl dX12_init_1 (Nat.le_of_ble_eq_true rfl) (Nat.le_of_ble_eq_true rfl) ?_
  refine W.eq (g2 := F0 m 4 ls []) rfl ?_
  refine lv_aload_n hx hb dX12_init_4 rfl (lv_at hl 0 rfl) ?_
  refine lv_sipush (v := 3567) hx hb dX12_init_5 (by decide) ?_
  refine nwI (n := 3567) (N := 3567) hx hb hts m_146 hE hP hD hS hA (by decide) (by decide) (Nat.le_of_ble_eq_true rfl) (Nat.le_of_ble_eq_true rfl) (Nat.le_of_ble_eq_true rfl) dX12_init_8 (fun nq1 H hP hD hS => ?_)
  have hP : va_P G classes [(h0, .inr (12, [.null, .null, .null, .int 0, .null, .null, .null, .int 0, .null, .int 0, .int 0, .int 0, .int 0, .int 0, .int 0, .null, .null, .null, .null, .null, .null, .null, .int 0, .int 0, .null, .null, .int 0, .int 0, .int 0, .null, .null, .null, .null])), (nq1, .inl (cy 0, 3567, .inl (fun _ => 0)))] H := hP
  refine va_putF (D := G) (ci := 12) (v := .ref nq1) (ty := (.array .int)) (C := RX12) (T := TX12) (N := 33) hx hb hts inB12 tyX12 tyX12_ok nmX12 hown hE.1 hP hD hS 0 rfl rfl 0 (by decide) (hts _ m_1323) (fun _ h9 => h9) rfl hin rfl (by decide +kernel) rfl rfl (Nat.le_of_ble_eq_true rfl) dX12_init_10 (fun H locs hP hD hS => ?_)
  have hP : va_P G classes [(h0, .inr (12, [.ref nq1, .null, .null, .int 0, .null, .null, .null, .int 0, .null, .int 0, .int 0, .int 0, .int 0, .int 0, .int 0, .null, .null, .null, .null, .null, .null, .null, .int 0, .int 0, .null, .null, .int 0, .int 0, .int 0, .null, .null, .null, .null])), (nq1, .inl (cy 0, 3567, .inl (fun _ => 0)))] H := hP
  refine lv_aload_n hx hb dX12_init_13 rfl (lv_at hl 0 rfl) ?_
  refine lv_sipush (v := 3567) hx hb dX12_init_14 (by decide) ?_
  refine nwI (n := 3567) (N := 3567) hx hb hts m_146 hE hP hD hS hA (by decide) (by decide) (Nat.le_of_ble_eq_true rfl) (Nat.le_of_ble_eq_true rfl) (Nat.le_of_ble_eq_true rfl) dX12_init_17 (fun nq2 H hP hD hS => ?_)
  have hP : va_P G classes [(h0, .inr (12, [.ref nq1, .null, .null, .int 0, .null, .null, .null, .int 0, .null, .int 0, .int 0, .int 0, .int 0, .int 0, .int 0, .null, .null, .null, .null, .null, .null, .null, .int 0, .int 0, .null, .null, .int 0, .int 0, .int 0, .null, .null, .null, .null])), (nq1, .inl (cy 0, 3567, .inl (fun _ => 0))), (nq2, .inl (cy 0, 3567, .inl (fun _ => 0)))] H := hP
  refine va_putF (D := G) (ci := 12) (v := .ref nq2) (ty := (.array .int)) (C := RX12) (T := TX12) (N := 33) hx hb hts inB12 tyX12 tyX12_ok nmX12 hown hE.1 hP hD hS 0 rfl rfl 1 (by decide) (hts _ m_1324) (fun _ h9 => h9) rfl hin rfl (by decide +kernel) rfl rfl (Nat.le_of_ble_eq_true rfl) dX12_init_19 (fun H locs hP hD hS => ?_)
  have hP : va_P G classes [(h0, .inr (12, [.ref nq1, .ref nq2, .null, .int 0, .null, .null, .null, .int 0, .null, .int 0, .int 0, .int 0, .int 0, .int 0, .int 0, .null, .null, .null, .null, .null, .null, .null, .int 0, .int 0, .null, .null, .int 0, .int 0, .int 0, .null, .null, .null, .null])), (nq1, .inl (cy 0, 3567, .inl (fun _ => 0))), (nq2, .inl (cy 0, 3567, .inl (fun _ => 0)))] H := hP
  refine lv_aload_n hx hb dX12_init_22 rfl (lv_at hl 0 rfl) ?_
  refine lv_sipush (v := 3567) hx hb dX12_init_23 (by decide) ?_
  refine nwI (n := 3567) (N := 3567) hx hb hts m_146 hE hP hD hS hA (by decide) (by decide) (Nat.le_of_ble_eq_true rfl) (Nat.le_of_ble_eq_true rfl) (Nat.le_of_ble_eq_true rfl) dX12_init_26 (fun nq3 H hP hD hS => ?_)
  have hP : va_P G classes [(h0, .inr (12, [.ref nq1, .ref nq2, .null, .int 0, .null, .null, .null, .int 0, .null, .int 0, .int 0, .int 0, .int 0, .int 0, .int 0, .null, .null, .null, .null, .null, .null, .null, .int 0, .int 0, .null, .null, .int 0, .int 0, .int 0, .null, .null, .null, .null])), (nq1, .inl (cy 0, 3567, .inl (fun _ => 0))), (nq2, .inl (cy 0, 3567, .inl (fun _ => 0))), (nq3, .inl (cy 0, 3567, .inl (fun _ => 0)))] H := hP
  refine va_putF (D := G) (ci := 12) (v := .ref nq3) (ty := (.array .int)) (C := RX12) (T := TX12) (N := 33) hx hb hts inB12 tyX12 tyX12_ok nmX12 hown hE.1 hP hD hS 0 rfl rfl 2 (by decide) (hts _ m_1325) (fun _ h9 => h9) rfl hin rfl (by decide +kernel) rfl rfl (Nat.le_of_ble_eq_true rfl) dX12_init_28 (fun H locs hP hD hS => ?_)
  have hP : va_P G classes [(h0, .inr (12, [.ref nq1, .ref nq2, .ref nq3, .int 0, .null, .null, .null, .int 0, .null, .int 0, .int 0, .int 0, .int 0, .int 0, .int 0, .null, .null, .null, .null, .null, .null, .null, .int 0, .int 0, .null, .null, .int 0, .int 0, .int 0, .null, .null, .null, .null])), (nq1, .inl (cy 0, 3567, .inl (fun _ => 0))), (nq2, .inl (cy 0, 3567, .inl (fun _ => 0))), (nq3, .inl (cy 0, 3567, .inl (fun _ => 0)))] H := hP
  refine lv_aload_n hx hb dX12_init_31 rfl (lv_at hl 0 rfl) ?_
  refine lv_bipush (v := 7) hx hb dX12_init_32 (by decide) ?_
  refine nwI (n := 7) (N := 7) hx hb hts m_146 hE hP hD hS hA (by decide) (by decide) (Nat.le_of_ble_eq_true rfl) (Nat.le_of_ble_eq_true rfl) (Nat.le_of_ble_eq_true rfl) dX12_init_34 (fun nq4 H hP hD hS => ?_)
  have hP : va_P G classes [(h0, .inr (12, [.ref nq1, .ref nq2, .ref nq3, .int 0, .null, .null, .null, .int 0, .null, .int 0, .int 0, .int 0, .int 0, .int 0, .int 0, .null, .null, .null, .null, .null, .null, .null, .int 0, .int 0, .null, .null, .int 0, .int 0, .int 0, .null, .null, .null, .null])), (nq1, .inl (cy 0, 3567, .inl (fun _ => 0))), (nq2, .inl (cy 0, 3567, .inl (fun _ => 0))), (nq3, .inl (cy 0, 3567, .inl (fun _ => 0))), (nq4, .inl (cy 0, 7, .inl (fun _ => 0)))] H := hP
  refine va_putF (D := G) (ci := 12) (v := .ref nq4) (ty := (.array .int)) (C := RX12) (T := TX12) (N := 33) hx hb hts inB12 tyX12 tyX12_ok nmX12 hown hE.1 hP hD hS 0 rfl rfl 4 (by decide) (hts _ m_1327) (fun _ h9 => h9) rfl hin rfl (by decide +kernel) rfl rfl (Nat.le_of_ble_eq_true rfl) dX12_init_36 (fun H locs hP hD hS => ?_)
  have hP : va_P G classes [(h0, .inr (12, [.ref nq1, .ref nq2, .ref nq3, .int 0, .ref nq4, .null, .null, .int 0, .null, .int 0, .int 0, .int 0, .int 0, .int 0, .int 0, .null, .null, .null, .null, .null, .null, .null, .int 0, .int 0, .null, .null, .int 0, .int 0, .int 0, .null, .null, .null, .null])), (nq1, .inl (cy 0, 3567, .inl (fun _ => 0))), (nq2, .inl (cy 0, 3567, .inl (fun _ => 0))), (nq3, .inl (cy 0, 3567, .inl (fun _ => 0))), (nq4, .inl (cy 0, 7, .inl (fun _ => 0)))] H := hP
  refine lv_aload_n hx hb dX12_init_39 rfl (lv_at hl 0 rfl) ?_
  refine lv_bipush (v := 8) hx hb dX12_init_40 (by decide) ?_
  refine nwI (n := 8) (N := 8) hx hb hts m_146 hE hP hD hS hA (by decide) (by decide) (Nat.le_of_ble_eq_true rfl) (Nat.le_of_ble_eq_true rfl) (Nat.le_of_ble_eq_true rfl) dX12_init_42 (fun nq5 H hP hD hS => ?_)
  have hP : va_P G classes [(h0, .inr (12, [.ref nq1, .ref nq2, .ref nq3, .int 0, .ref nq4, .null, .null, .int 0, .null, .int 0, .int 0, .int 0, .int 0, .int 0, .int 0, .null, .null, .null, .null, .null, .null, .null, .int 0, .int 0, .null, .null, .int 0, .int 0, .int 0, .null, .null, .null, .null])), (nq1, .inl (cy 0, 3567, .inl (fun _ => 0))), (nq2, .inl (cy 0, 3567, .inl (fun _ => 0))), (nq3, .inl (cy 0, 3567, .inl (fun _ => 0))), (nq4, .inl (cy 0, 7, .inl (fun _ => 0))), (nq5, .inl (cy 0, 8, .inl (fun _ => 0)))] H := hP
  refine lv_dup hx hb dX12_init_44 rfl ?_
  refine lv_iconst (v := 0) hx hb dX12_init_45 (by decide) ?_
  refine lv_iconst (v := 0) hx hb dX12_init_46 (by decide) ?_
  refine va_iast hx hb hE.1 hP hD hS 5 0 rfl rfl (vinL (by decide)) dX12_init_47 (fun H locs hP hD hS => ?_)
  have hP : va_P G classes [(h0, .inr (12, [.ref nq1, .ref nq2, .ref nq3, .int 0, .ref nq4, .null, .null, .int 0, .null, .int 0, .int 0, .int 0, .int 0, .int 0, .int 0, .null, .null, .null, .null, .null, .null, .null, .int 0, .int 0, .null, .null, .int 0, .int 0, .int 0, .null, .null, .null, .null])), (nq1, .inl (cy 0, 3567, .inl (fun _ => 0))), (nq2, .inl (cy 0, 3567, .inl (fun _ => 0))), (nq3, .inl (cy 0, 3567, .inl (fun _ => 0))), (nq4, .inl (cy 0, 7, .inl (fun _ => 0))), (nq5, .inl (cy 0, 8, .inl (upd (fun _ => 0) 0 0)))] H := hP
  refine lv_dup hx hb dX12_init_48 rfl ?_
  refine lv_iconst (v := 1) hx hb dX12_init_49 (by decide) ?_
  refine lv_iconst (v := 1) hx hb dX12_init_50 (by decide) ?_
  refine va_iast hx hb hE.1 hP hD hS 5 0 rfl rfl (vinL (by decide)) dX12_init_51 (fun H locs hP hD hS => ?_)
  have hP : va_P G classes [(h0, .inr (12, [.ref nq1, .ref nq2, .ref nq3, .int 0, .ref nq4, .null, .null, .int 0, .null, .int 0, .int 0, .int 0, .int 0, .int 0, .int 0, .null, .null, .null, .null, .null, .null, .null, .int 0, .int 0, .null, .null, .int 0, .int 0, .int 0, .null, .null, .null, .null])), (nq1, .inl (cy 0, 3567, .inl (fun _ => 0))), (nq2, .inl (cy 0, 3567, .inl (fun _ => 0))), (nq3, .inl (cy 0, 3567, .inl (fun _ => 0))), (nq4, .inl (cy 0, 7, .inl (fun _ => 0))), (nq5, .inl (cy 0, 8, .inl (upd (upd (fun _ => 0) 0 0) 1 1)))] H := hP
  refine lv_dup hx hb dX12_init_52 rfl ?_
  refine lv_iconst (v := 2) hx hb dX12_init_53 (by decide) ?_
  refine lv_iconst (v := 1) hx hb dX12_init_54 (by decide) ?_
  refine va_iast hx hb hE.1 hP hD hS 5 0 rfl rfl (vinL (by decide)) dX12_init_55 (fun H locs hP hD hS => ?_)
  have hP : va_P G classes [(h0, .inr (12, [.ref nq1, .ref nq2, .ref nq3, .int 0, .ref nq4, .null, .null, .int 0, .null, .int 0, .int 0, .int 0, .int 0, .int 0, .int 0, .null, .null, .null, .null, .null, .null, .null, .int 0, .int 0, .null, .null, .int 0, .int 0, .int 0, .null, .null, .null, .null])), (nq1, .inl (cy 0, 3567, .inl (fun _ => 0))), (nq2, .inl (cy 0, 3567, .inl (fun _ => 0))), (nq3, .inl (cy 0, 3567, .inl (fun _ => 0))), (nq4, .inl (cy 0, 7, .inl (fun _ => 0))), (nq5, .inl (cy 0, 8, .inl (upd (upd (upd (fun _ => 0) 0 0) 1 1) 2 1)))] H := hP
  refine lv_dup hx hb dX12_init_56 rfl ?_
  refine lv_iconst (v := 3) hx hb dX12_init_57 (by decide) ?_
  refine lv_iconst (v := 1) hx hb dX12_init_58 (by decide) ?_
  refine va_iast hx hb hE.1 hP hD hS 5 0 rfl rfl (vinL (by decide)) dX12_init_59 (fun H locs hP hD hS => ?_)
  have hP : va_P G classes [(h0, .inr (12, [.ref nq1, .ref nq2, .ref nq3, .int 0, .ref nq4, .null, .null, .int 0, .null, .int 0, .int 0, .int 0, .int 0, .int 0, .int 0, .null, .null, .null, .null, .null, .null, .null, .int 0, .int 0, .null, .null, .int 0, .int 0, .int 0, .null, .null, .null, .null])), (nq1, .inl (cy 0, 3567, .inl (fun _ => 0))), (nq2, .inl (cy 0, 3567, .inl (fun _ => 0))), (nq3, .inl (cy 0, 3567, .inl (fun _ => 0))), (nq4, .inl (cy 0, 7, .inl (fun _ => 0))), (nq5, .inl (cy 0, 8, .inl (upd (upd (upd (upd (fun _ => 0) 0 0) 1 1) 2 1) 3 1)))] H := hP
  refine lv_dup hx hb dX12_init_60 rfl ?_
  refine lv_iconst (v := 4) hx hb dX12_init_61 (by decide) ?_
  refine lv_iconst (v := 0) hx hb dX12_init_62 (by decide) ?_
  refine va_iast hx hb hE.1 hP hD hS 5 0 rfl rfl (vinL (by decide)) dX12_init_63 (fun H locs hP hD hS => ?_)
  have hP : va_P G classes [(h0, .inr (12, [.ref nq1, .ref nq2, .ref nq3, .int 0, .ref nq4, .null, .null, .int 0, .null, .int 0, .int 0, .int 0, .int 0, .int 0, .int 0, .null, .null, .null, .null, .null, .null, .null, .int 0, .int 0, .null, .null, .int 0, .int 0, .int 0, .null, .null, .null, .null])), (nq1, .inl (cy 0, 3567, .inl (fun _ => 0))), (nq2, .inl (cy 0, 3567, .inl (fun _ => 0))), (nq3, .inl (cy 0, 3567, .inl (fun _ => 0))), (nq4, .inl (cy 0, 7, .inl (fun _ => 0))), (nq5, .inl (cy 0, 8, .inl (upd (upd (upd (upd (upd (fun _ => 0) 0 0) 1 1) 2 1) 3 1) 4 0)))] H := hP
  refine lv_dup hx hb dX12_init_64 rfl ?_
  refine lv_iconst (v := 5) hx hb dX12_init_65 (by decide) ?_
  refine lv_iconst (v := (-1)) hx hb dX12_init_66 (by decide) ?_
  refine va_iast hx hb hE.1 hP hD hS 5 0 rfl rfl (vinL (by decide)) dX12_init_67 (fun H locs hP hD hS => ?_)
  have hP : va_P G classes [(h0, .inr (12, [.ref nq1, .ref nq2, .ref nq3, .int 0, .ref nq4, .null, .null, .int 0, .null, .int 0, .int 0, .int 0, .int 0, .int 0, .int 0, .null, .null, .null, .null, .null, .null, .null, .int 0, .int 0, .null, .null, .int 0, .int 0, .int 0, .null, .null, .null, .null])), (nq1, .inl (cy 0, 3567, .inl (fun _ => 0))), (nq2, .inl (cy 0, 3567, .inl (fun _ => 0))), (nq3, .inl (cy 0, 3567, .inl (fun _ => 0))), (nq4, .inl (cy 0, 7, .inl (fun _ => 0))), (nq5, .inl (cy 0, 8, .inl (upd (upd (upd (upd (upd (upd (fun _ => 0) 0 0) 1 1) 2 1) 3 1) 4 0) 5 (-1))))] H := hP
  refine lv_dup hx hb dX12_init_68 rfl ?_
  refine lv_bipush (v := 6) hx hb dX12_init_69 (by decide) ?_
  refine lv_iconst (v := (-1)) hx hb dX12_init_71 (by decide) ?_
  refine va_iast hx hb hE.1 hP hD hS 5 0 rfl rfl (vinL (by decide)) dX12_init_72 (fun H locs hP hD hS => ?_)
  have hP : va_P G classes [(h0, .inr (12, [.ref nq1, .ref nq2, .ref nq3, .int 0, .ref nq4, .null, .null, .int 0, .null, .int 0, .int 0, .int 0, .int 0, .int 0, .int 0, .null, .null, .null, .null, .null, .null, .null, .int 0, .int 0, .null, .null, .int 0, .int 0, .int 0, .null, .null, .null, .null])), (nq1, .inl (cy 0, 3567, .inl (fun _ => 0))), (nq2, .inl (cy 0, 3567, .inl (fun _ => 0))), (nq3, .inl (cy 0, 3567, .inl (fun _ => 0))), (nq4, .inl (cy 0, 7, .inl (fun _ => 0))), (nq5, .inl (cy 0, 8, .inl (upd (upd (upd (upd (upd (upd (upd (fun _ => 0) 0 0) 1 1) 2 1) 3 1) 4 0) 5 (-1)) 6 (-1))))] H := hP
  refine lv_dup hx hb dX12_init_73 rfl ?_
  refine lv_bipush (v := 7) hx hb dX12_init_74 (by decide) ?_
  refine lv_iconst (v := (-1)) hx hb dX12_init_76 (by decide) ?_
  refine va_iast hx hb hE.1 hP hD hS 5 0 rfl rfl (vinL (by decide)) dX12_init_77 (fun H locs hP hD hS => ?_)
  have hP : va_P G classes [(h0, .inr (12, [.ref nq1, .ref nq2, .ref nq3, .int 0, .ref nq4, .null, .null, .int 0, .null, .int 0, .int 0, .int 0, .int 0, .int 0, .int 0, .null, .null, .null, .null, .null, .null, .null, .int 0, .int 0, .null, .null, .int 0, .int 0, .int 0, .null, .null, .null, .null])), (nq1, .inl (cy 0, 3567, .inl (fun _ => 0))), (nq2, .inl (cy 0, 3567, .inl (fun _ => 0))), (nq3, .inl (cy 0, 3567, .inl (fun _ => 0))), (nq4, .inl (cy 0, 7, .inl (fun _ => 0))), (nq5, .inl (cy 0, 8, .inl (upd (upd (upd (upd (upd (upd (upd (upd (fun _ => 0) 0 0) 1 1) 2 1) 3 1) 4 0) 5 (-1)) 6 (-1)) 7 (-1))))] H := hP
  refine va_putF (D := G) (ci := 12) (v := .ref nq5) (ty := (.array .int)) (C := RX12) (T := TX12) (N := 33) hx hb hts inB12 tyX12 tyX12_ok nmX12 hown hE.1 hP hD hS 0 rfl rfl 5 (by decide) (hts _ m_1328) (fun _ h9 => h9) rfl hin rfl (by decide +kernel) rfl rfl (Nat.le_of_ble_eq_true rfl) dX12_init_78 (fun H locs hP hD hS => ?_)
  have hP : va_P G classes [(h0, .inr (12, [.ref nq1, .ref nq2, .ref nq3, .int 0, .ref nq4, .ref nq5, .null, .int 0, .null, .int 0, .int 0, .int 0, .int 0, .int 0, .int 0, .null, .null, .null, .null, .null, .null, .null, .int 0, .int 0, .null, .null, .int 0, .int 0, .int 0, .null, .null, .null, .null])), (nq1, .inl (cy 0, 3567, .inl (fun _ => 0))), (nq2, .inl (cy 0, 3567, .inl (fun _ => 0))), (nq3, .inl (cy 0, 3567, .inl (fun _ => 0))), (nq4, .inl (cy 0, 7, .inl (fun _ => 0))), (nq5, .inl (cy 0, 8, .inl (upd (upd (upd (upd (upd (upd (upd (upd (fun _ => 0) 0 0) 1 1) 2 1) 3 1) 4 0) 5 (-1)) 6 (-1)) 7 (-1))))] H := hP
  refine lv_aload_n hx hb dX12_init_81 rfl (lv_at hl 0 rfl) ?_
  refine lv_bipush (v := 8) hx hb dX12_init_82 (by decide) ?_
  refine nwI (n := 8) (N := 8) hx hb hts m_146 hE hP hD hS hA (by decide) (by decide) (Nat.le_of_ble_eq_true rfl) (Nat.le_of_ble_eq_true rfl) (Nat.le_of_ble_eq_true rfl) dX12_init_84 (fun nq6 H hP hD hS => ?_)
  have hP : va_P G classes [(h0, .inr (12, [.ref nq1, .ref nq2, .ref nq3, .int 0, .ref nq4, .ref nq5, .null, .int 0, .null, .int 0, .int 0, .int 0, .int 0, .int 0, .int 0, .null, .null, .null, .null, .null, .null, .null, .int 0, .int 0, .null, .null, .int 0, .int 0, .int 0, .null, .null, .null, .null])), (nq1, .inl (cy 0, 3567, .inl (fun _ => 0))), (nq2, .inl (cy 0, 3567, .inl (fun _ => 0))), (nq3, .inl (cy 0, 3567, .inl (fun _ => 0))), (nq4, .inl (cy 0, 7, .inl (fun _ => 0))), (nq5, .inl (cy 0, 8, .inl (upd (upd (upd (upd (upd (upd (upd (upd (fun _ => 0) 0 0) 1 1) 2 1) 3 1) 4 0) 5 (-1)) 6 (-1)) 7 (-1)))), (nq6, .inl (cy 0, 8, .inl (fun _ => 0)))] H := hP
  refine lv_dup hx hb dX12_init_86 rfl ?_
  refine lv_iconst (v := 0) hx hb dX12_init_87 (by decide) ?_
  refine lv_iconst (v := (-1)) hx hb dX12_init_88 (by decide) ?_
  refine va_iast hx hb hE.1 hP hD hS 6 0 rfl rfl (vinL (by decide)) dX12_init_89 (fun H locs hP hD hS => ?_)
  have hP : va_P G classes [(h0, .inr (12, [.ref nq1, .ref nq2, .ref nq3, .int 0, .ref nq4, .ref nq5, .null, .int 0, .null, .int 0, .int 0, .int 0, .int 0, .int 0, .int 0, .null, .null, .null, .null, .null, .null, .null, .int 0, .int 0, .null, .null, .int 0, .int 0, .int 0, .null, .null, .null, .null])), (nq1, .inl (cy 0, 3567, .inl (fun _ => 0))), (nq2, .inl (cy 0, 3567, .inl (fun _ => 0))), (nq3, .inl (cy 0, 3567, .inl (fun _ => 0))), (nq4, .inl (cy 0, 7, .inl (fun _ => 0))), (nq5, .inl (cy 0, 8, .inl (upd (upd (upd (upd (upd (upd (upd (upd (fun _ => 0) 0 0) 1 1) 2 1) 3 1) 4 0) 5 (-1)) 6 (-1)) 7 (-1)))), (nq6, .inl (cy 0, 8, .inl (upd (fun _ => 0) 0 (-1))))] H := hP
  refine lv_dup hx hb dX12_init_90 rfl ?_
  refine lv_iconst (v := 1) hx hb dX12_init_91 (by decide) ?_
  refine lv_iconst (v := (-1)) hx hb dX12_init_92 (by decide) ?_
  refine va_iast hx hb hE.1 hP hD hS 6 0 rfl rfl (vinL (by decide)) dX12_init_93 (fun H locs hP hD hS => ?_)
  have hP : va_P G classes [(h0, .inr (12, [.ref nq1, .ref nq2, .ref nq3, .int 0, .ref nq4, .ref nq5, .null, .int 0, .null, .int 0, .int 0, .int 0, .int 0, .int 0, .int 0, .null, .null, .null, .null, .null, .null, .null, .int 0, .int 0, .null, .null, .int 0, .int 0, .int 0, .null, .null, .null, .null])), (nq1, .inl (cy 0, 3567, .inl (fun _ => 0))), (nq2, .inl (cy 0, 3567, .inl (fun _ => 0))), (nq3, .inl (cy 0, 3567, .inl (fun _ => 0))), (nq4, .inl (cy 0, 7, .inl (fun _ => 0))), (nq5, .inl (cy 0, 8, .inl (upd (upd (upd (upd (upd (upd (upd (upd (fun _ => 0) 0 0) 1 1) 2 1) 3 1) 4 0) 5 (-1)) 6 (-1)) 7 (-1)))), (nq6, .inl (cy 0, 8, .inl (upd (upd (fun _ => 0) 0 (-1)) 1 (-1))))] H := hP
  refine lv_dup hx hb dX12_init_94 rfl ?_
  refine lv_iconst (v := 2) hx hb dX12_init_95 (by decide) ?_
  refine lv_iconst (v := 0) hx hb dX12_init_96 (by decide) ?_
  refine va_iast hx hb hE.1 hP hD hS 6 0 rfl rfl (vinL (by decide)) dX12_init_97 (fun H locs hP hD hS => ?_)
  have hP : va_P G classes [(h0, .inr (12, [.ref nq1, .ref nq2, .ref nq3, .int 0, .ref nq4, .ref nq5, .null, .int 0, .null, .int 0, .int 0, .int 0, .int 0, .int 0, .int 0, .null, .null, .null, .null, .null, .null, .null, .int 0, .int 0, .null, .null, .int 0, .int 0, .int 0, .null, .null, .null, .null])), (nq1, .inl (cy 0, 3567, .inl (fun _ => 0))), (nq2, .inl (cy 0, 3567, .inl (fun _ => 0))), (nq3, .inl (cy 0, 3567, .inl (fun _ => 0))), (nq4, .inl (cy 0, 7, .inl (fun _ => 0))), (nq5, .inl (cy 0, 8, .inl (upd (upd (upd (upd (upd (upd (upd (upd (fun _ => 0) 0 0) 1 1) 2 1) 3 1) 4 0) 5 (-1)) 6 (-1)) 7 (-1)))), (nq6, .inl (cy 0, 8, .inl (upd (upd (upd (fun _ => 0) 0 (-1)) 1 (-1)) 2 0)))] H := hP
  refine lv_dup hx hb dX12_init_98 rfl ?_
  refine lv_iconst (v := 3) hx hb dX12_init_99 (by decide) ?_
  refine lv_iconst (v := 1) hx hb dX12_init_100 (by decide) ?_
  refine va_iast hx hb hE.1 hP hD hS 6 0 rfl rfl (vinL (by decide)) dX12_init_101 (fun H locs hP hD hS => ?_)
  have hP : va_P G classes [(h0, .inr (12, [.ref nq1, .ref nq2, .ref nq3, .int 0, .ref nq4, .ref nq5, .null, .int 0, .null, .int 0, .int 0, .int 0, .int 0, .int 0, .int 0, .null, .null, .null, .null, .null, .null, .null, .int 0, .int 0, .null, .null, .int 0, .int 0, .int 0, .null, .null, .null, .null])), (nq1, .inl (cy 0, 3567, .inl (fun _ => 0))), (nq2, .inl (cy 0, 3567, .inl (fun _ => 0))), (nq3, .inl (cy 0, 3567, .inl (fun _ => 0))), (nq4, .inl (cy 0, 7, .inl (fun _ => 0))), (nq5, .inl (cy 0, 8, .inl (upd (upd (upd (upd (upd (upd (upd (upd (fun _ => 0) 0 0) 1 1) 2 1) 3 1) 4 0) 5 (-1)) 6 (-1)) 7 (-1)))), (nq6, .inl (cy 0, 8, .inl (upd (upd (upd (upd (fun _ => 0) 0 (-1)) 1 (-1)) 2 0) 3 1)))] H := hP
  refine lv_dup hx hb dX12_init_102 rfl ?_
  refine lv_iconst (v := 4) hx hb dX12_init_103 (by decide) ?_
  refine lv_iconst (v := 1) hx hb dX12_init_104 (by decide) ?_
  refine va_iast hx hb hE.1 hP hD hS 6 0 rfl rfl (vinL (by decide)) dX12_init_105 (fun H locs hP hD hS => ?_)
  have hP : va_P G classes [(h0, .inr (12, [.ref nq1, .ref nq2, .ref nq3, .int 0, .ref nq4, .ref nq5, .null, .int 0, .null, .int 0, .int 0, .int 0, .int 0, .int 0, .int 0, .null, .null, .null, .null, .null, .null, .null, .int 0, .int 0, .null, .null, .int 0, .int 0, .int 0, .null, .null, .null, .null])), (nq1, .inl (cy 0, 3567, .inl (fun _ => 0))), (nq2, .inl (cy 0, 3567, .inl (fun _ => 0))), (nq3, .inl (cy 0, 3567, .inl (fun _ => 0))), (nq4, .inl (cy 0, 7, .inl (fun _ => 0))), (nq5, .inl (cy 0, 8, .inl (upd (upd (upd (upd (upd (upd (upd (upd (fun _ => 0) 0 0) 1 1) 2 1) 3 1) 4 0) 5 (-1)) 6 (-1)) 7 (-1)))), (nq6, .inl (cy 0, 8, .inl (upd (upd (upd (upd (upd (fun _ => 0) 0 (-1)) 1 (-1)) 2 0) 3 1) 4 1)))] H := hP
  refine lv_dup hx hb dX12_init_106 rfl ?_
  refine lv_iconst (v := 5) hx hb dX12_init_107 (by decide) ?_
  refine lv_iconst (v := 1) hx hb dX12_init_108 (by decide) ?_
  refine va_iast hx hb hE.1 hP hD hS 6 0 rfl rfl (vinL (by decide)) dX12_init_109 (fun H locs hP hD hS => ?_)
  have hP : va_P G classes [(h0, .inr (12, [.ref nq1, .ref nq2, .ref nq3, .int 0, .ref nq4, .ref nq5, .null, .int 0, .null, .int 0, .int 0, .int 0, .int 0, .int 0, .int 0, .null, .null, .null, .null, .null, .null, .null, .int 0, .int 0, .null, .null, .int 0, .int 0, .int 0, .null, .null, .null, .null])), (nq1, .inl (cy 0, 3567, .inl (fun _ => 0))), (nq2, .inl (cy 0, 3567, .inl (fun _ => 0))), (nq3, .inl (cy 0, 3567, .inl (fun _ => 0))), (nq4, .inl (cy 0, 7, .inl (fun _ => 0))), (nq5, .inl (cy 0, 8, .inl (upd (upd (upd (upd (upd (upd (upd (upd (fun _ => 0) 0 0) 1 1) 2 1) 3 1) 4 0) 5 (-1)) 6 (-1)) 7 (-1)))), (nq6, .inl (cy 0, 8, .inl (upd (upd (upd (upd (upd (upd (fun _ => 0) 0 (-1)) 1 (-1)) 2 0) 3 1) 4 1) 5 1)))] H := hP
  refine lv_dup hx hb dX12_init_110 rfl ?_
  refine lv_bipush (v := 6) hx hb dX12_init_111 (by decide) ?_
  refine lv_iconst (v := 0) hx hb dX12_init_113 (by decide) ?_
  refine va_iast hx hb hE.1 hP hD hS 6 0 rfl rfl (vinL (by decide)) dX12_init_114 (fun H locs hP hD hS => ?_)
  have hP : va_P G classes [(h0, .inr (12, [.ref nq1, .ref nq2, .ref nq3, .int 0, .ref nq4, .ref nq5, .null, .int 0, .null, .int 0, .int 0, .int 0, .int 0, .int 0, .int 0, .null, .null, .null, .null, .null, .null, .null, .int 0, .int 0, .null, .null, .int 0, .int 0, .int 0, .null, .null, .null, .null])), (nq1, .inl (cy 0, 3567, .inl (fun _ => 0))), (nq2, .inl (cy 0, 3567, .inl (fun _ => 0))), (nq3, .inl (cy 0, 3567, .inl (fun _ => 0))), (nq4, .inl (cy 0, 7, .inl (fun _ => 0))), (nq5, .inl (cy 0, 8, .inl (upd (upd (upd (upd (upd (upd (upd (upd (fun _ => 0) 0 0) 1 1) 2 1) 3 1) 4 0) 5 (-1)) 6 (-1)) 7 (-1)))), (nq6, .inl (cy 0, 8, .inl (upd (upd (upd (upd (upd (upd (upd (fun _ => 0) 0 (-1)) 1 (-1)) 2 0) 3 1) 4 1) 5 1) 6 0)))] H := hP
  refine lv_dup hx hb dX12_init_115 rfl ?_
  refine lv_bipush (v := 7) hx hb dX12_init_116 (by decide) ?_
  refine lv_iconst (v := (-1)) hx hb dX12_init_118 (by decide) ?_
  refine va_iast hx hb hE.1 hP hD hS 6 0 rfl rfl (vinL (by decide)) dX12_init_119 (fun H locs hP hD hS => ?_)
  have hP : va_P G classes [(h0, .inr (12, [.ref nq1, .ref nq2, .ref nq3, .int 0, .ref nq4, .ref nq5, .null, .int 0, .null, .int 0, .int 0, .int 0, .int 0, .int 0, .int 0, .null, .null, .null, .null, .null, .null, .null, .int 0, .int 0, .null, .null, .int 0, .int 0, .int 0, .null, .null, .null, .null])), (nq1, .inl (cy 0, 3567, .inl (fun _ => 0))), (nq2, .inl (cy 0, 3567, .inl (fun _ => 0))), (nq3, .inl (cy 0, 3567, .inl (fun _ => 0))), (nq4, .inl (cy 0, 7, .inl (fun _ => 0))), (nq5, .inl (cy 0, 8, .inl (upd (upd (upd (upd (upd (upd (upd (upd (fun _ => 0) 0 0) 1 1) 2 1) 3 1) 4 0) 5 (-1)) 6 (-1)) 7 (-1)))), (nq6, .inl (cy 0, 8, .inl (upd (upd (upd (upd (upd (upd (upd (upd (fun _ => 0) 0 (-1)) 1 (-1)) 2 0) 3 1) 4 1) 5 1) 6 0) 7 (-1))))] H := hP
  refine va_putF (D := G) (ci := 12) (v := .ref nq6) (ty := (.array .int)) (C := RX12) (T := TX12) (N := 33) hx hb hts inB12 tyX12 tyX12_ok nmX12 hown hE.1 hP hD hS 0 rfl rfl 6 (by decide) (hts _ m_1329) (fun _ h9 => h9) rfl hin rfl (by decide +kernel) rfl rfl (Nat.le_of_ble_eq_true rfl) dX12_init_120 (fun H locs hP hD hS => ?_)
  have hP : va_P G classes [(h0, .inr (12, [.ref nq1, .ref nq2, .ref nq3, .int 0, .ref nq4, .ref nq5, .ref nq6, .int 0, .null, .int 0, .int 0, .int 0, .int 0, .int 0, .int 0, .null, .null, .null, .null, .null, .null, .null, .int 0, .int 0, .null, .null, .int 0, .int 0, .int 0, .null, .null, .null, .null])), (nq1, .inl (cy 0, 3567, .inl (fun _ => 0))), (nq2, .inl (cy 0, 3567, .inl (fun _ => 0))), (nq3, .inl (cy 0, 3567, .inl (fun _ => 0))), (nq4, .inl (cy 0, 7, .inl (fun _ => 0))), (nq5, .inl (cy 0, 8, .inl (upd (upd (upd (upd (upd (upd (upd (upd (fun _ => 0) 0 0) 1 1) 2 1) 3 1) 4 0) 5 (-1)) 6 (-1)) 7 (-1)))), (nq6, .inl (cy 0, 8, .inl (upd (upd (upd (upd (upd (upd (upd (upd (fun _ => 0) 0 (-1)) 1 (-1)) 2 0) 3 1) 4 1) 5 1) 6 0) 7 (-1))))] H := hP
  refine lv_aload_n hx hb dX12_init_123 rfl (lv_at hl 0 rfl) ?_
  refine lv_iconst (v := (-1)) hx hb dX12_init_124 (by decide) ?_
  refine va_put (D := G) (ci := 12) (v := .int (-1)) (ty := .int) (C := RX12) (T := TX12) (N := 33) hx hb hts inB12 tyX12 tyX12_ok nmX12 hown hE.1 hP hD hS 0 rfl rfl 7 (by decide) (hts _ m_1330) (fun _ h9 => h9) rfl (by decide +kernel) rfl rfl (Nat.le_of_ble_eq_true rfl) dX12_init_125 (fun H locs hP hD hS => ?_)
  have hP : va_P G classes [(h0, .inr (12, [.ref nq1, .ref nq2, .ref nq3, .int 0, .ref nq4, .ref nq5, .ref nq6, .int (-1), .null, .int 0, .int 0, .int 0, .int 0, .int 0, .int 0, .null, .null, .null, .null, .null, .null, .null, .int 0, .int 0, .null, .null, .int 0, .int 0, .int 0, .null, .null, .null, .null])), (nq1, .inl (cy 0, 3567, .inl (fun _ => 0))), (nq2, .inl (cy 0, 3567, .inl (fun _ => 0))), (nq3, .inl (cy 0, 3567, .inl (fun _ => 0))), (nq4, .inl (cy 0, 7, .inl (fun _ => 0))), (nq5, .inl (cy 0, 8, .inl (upd (upd (upd (upd (upd (upd (upd (upd (fun _ => 0) 0 0) 1 1) 2 1) 3 1) 4 0) 5 (-1)) 6 (-1)) 7 (-1)))), (nq6, .inl (cy 0, 8, .inl (upd (upd (upd (upd (upd (upd (upd (upd (fun _ => 0) 0 (-1)) 1 (-1)) 2 0) 3 1) 4 1) 5 1) 6 0) 7 (-1))))] H := hP
  refine lv_aload_n hx hb dX12_init_128 rfl (lv_at hl 0 rfl) ?_
  refine lv_iconst (v := 3) hx hb dX12_init_129 (by decide) ?_
  refine nwQ (n := 3) (N := 3) (C := "java/lang/String") (t0 := 6) hx hb hown hts m_1318 (by decide) hE hP hD hS hA rfl (by decide) (by decide) (Nat.le_of_ble_eq_true rfl) (Nat.le_of_ble_eq_true rfl) (Nat.le_of_ble_eq_true rfl) dX12_init_130 (fun nq7 H hP hD hS => ?_)
  have hP : va_P G classes [(h0, .inr (12, [.ref nq1, .ref nq2, .ref nq3, .int 0, .ref nq4, .ref nq5, .ref nq6, .int (-1), .null, .int 0, .int 0, .int 0, .int 0, .int 0, .int 0, .null, .null, .null, .null, .null, .null, .null, .int 0, .int 0, .null, .null, .int 0, .int 0, .int 0, .null, .null, .null, .null])), (nq1, .inl (cy 0, 3567, .inl (fun _ => 0))), (nq2, .inl (cy 0, 3567, .inl (fun _ => 0))), (nq3, .inl (cy 0, 3567, .inl (fun _ => 0))), (nq4, .inl (cy 0, 7, .inl (fun _ => 0))), (nq5, .inl (cy 0, 8, .inl (upd (upd (upd (upd (upd (upd (upd (upd (fun _ => 0) 0 0) 1 1) 2 1) 3 1) 4 0) 5 (-1)) 6 (-1)) 7 (-1)))), (nq6, .inl (cy 0, 8, .inl (upd (upd (upd (upd (upd (upd (upd (upd (fun _ => 0) 0 (-1)) 1 (-1)) 2 0) 3 1) 4 1) 5 1) 6 0) 7 (-1)))), (nq7, .inl (cy 6, 3, .inr (.inr (.inr (.inr (fun _ => none))))))] H := hP
  refine lv_dup hx hb dX12_init_133 rfl ?_
  refine lv_iconst (v := 0) hx hb dX12_init_134 (by decide) ?_
  refine va_ldcS hx hb hown (eN_4 hE) dX12_init_135 ?_
  refine vb_astq (E := "java/lang/String") (C := "java/lang/String") hx hb hE.1 hP hD hS 7 6 rfl rfl (strH hO hnA hS 4 (by decide) (by decide)) asgSame (vinL (by decide)) dX12_init_137 (fun H locs hP hD hS => ?_)
  have hP : va_P G classes [(h0, .inr (12, [.ref nq1, .ref nq2, .ref nq3, .int 0, .ref nq4, .ref nq5, .ref nq6, .int (-1), .null, .int 0, .int 0, .int 0, .int 0, .int 0, .int 0, .null, .null, .null, .null, .null, .null, .null, .int 0, .int 0, .null, .null, .int 0, .int 0, .int 0, .null, .null, .null, .null])), (nq1, .inl (cy 0, 3567, .inl (fun _ => 0))), (nq2, .inl (cy 0, 3567, .inl (fun _ => 0))), (nq3, .inl (cy 0, 3567, .inl (fun _ => 0))), (nq4, .inl (cy 0, 7, .inl (fun _ => 0))), (nq5, .inl (cy 0, 8, .inl (upd (upd (upd (upd (upd (upd (upd (upd (fun _ => 0) 0 0) 1 1) 2 1) 3 1) 4 0) 5 (-1)) 6 (-1)) 7 (-1)))), (nq6, .inl (cy 0, 8, .inl (upd (upd (upd (upd (upd (upd (upd (upd (fun _ => 0) 0 (-1)) 1 (-1)) 2 0) 3 1) 4 1) 5 1) 6 0) 7 (-1)))), (nq7, .inl (cy 6, 3, .inr (.inr (.inr (.inr (va_up (fun _ => none) 0 (some (sk 4))))))))] H := hP
  refine lv_dup hx hb dX12_init_138 rfl ?_
  refine lv_iconst (v := 1) hx hb dX12_init_139 (by decide) ?_
  refine va_ldcS hx hb hown (eN_5 hE) dX12_init_140 ?_
  refine vb_astq (E := "java/lang/String") (C := "java/lang/String") hx hb hE.1 hP hD hS 7 6 rfl rfl (strH hO hnA hS 5 (by decide) (by decide)) asgSame (vinL (by decide)) dX12_init_142 (fun H locs hP hD hS => ?_)
  have hP : va_P G classes [(h0, .inr (12, [.ref nq1, .ref nq2, .ref nq3, .int 0, .ref nq4, .ref nq5, .ref nq6, .int (-1), .null, .int 0, .int 0, .int 0, .int 0, .int 0, .int 0, .null, .null, .null, .null, .null, .null, .null, .int 0, .int 0, .null, .null, .int 0, .int 0, .int 0, .null, .null, .null, .null])), (nq1, .inl (cy 0, 3567, .inl (fun _ => 0))), (nq2, .inl (cy 0, 3567, .inl (fun _ => 0))), (nq3, .inl (cy 0, 3567, .inl (fun _ => 0))), (nq4, .inl (cy 0, 7, .inl (fun _ => 0))), (nq5, .inl (cy 0, 8, .inl (upd (upd (upd (upd (upd (upd (upd (upd (fun _ => 0) 0 0) 1 1) 2 1) 3 1) 4 0) 5 (-1)) 6 (-1)) 7 (-1)))), (nq6, .inl (cy 0, 8, .inl (upd (upd (upd (upd (upd (upd (upd (upd (fun _ => 0) 0 (-1)) 1 (-1)) 2 0) 3 1) 4 1) 5 1) 6 0) 7 (-1)))), (nq7, .inl (cy 6, 3, .inr (.inr (.inr (.inr (va_up (va_up (fun _ => none) 0 (some (sk 4))) 1 (some (sk 5))))))))] H := hP
  refine lv_dup hx hb dX12_init_143 rfl ?_
  refine lv_iconst (v := 2) hx hb dX12_init_144 (by decide) ?_
  refine va_ldcS hx hb hown (eN_6 hE) dX12_init_145 ?_
  refine vb_astq (E := "java/lang/String") (C := "java/lang/String") hx hb hE.1 hP hD hS 7 6 rfl rfl (strH hO hnA hS 6 (by decide) (by decide)) asgSame (vinL (by decide)) dX12_init_147 (fun H locs hP hD hS => ?_)
  have hP : va_P G classes [(h0, .inr (12, [.ref nq1, .ref nq2, .ref nq3, .int 0, .ref nq4, .ref nq5, .ref nq6, .int (-1), .null, .int 0, .int 0, .int 0, .int 0, .int 0, .int 0, .null, .null, .null, .null, .null, .null, .null, .int 0, .int 0, .null, .null, .int 0, .int 0, .int 0, .null, .null, .null, .null])), (nq1, .inl (cy 0, 3567, .inl (fun _ => 0))), (nq2, .inl (cy 0, 3567, .inl (fun _ => 0))), (nq3, .inl (cy 0, 3567, .inl (fun _ => 0))), (nq4, .inl (cy 0, 7, .inl (fun _ => 0))), (nq5, .inl (cy 0, 8, .inl (upd (upd (upd (upd (upd (upd (upd (upd (fun _ => 0) 0 0) 1 1) 2 1) 3 1) 4 0) 5 (-1)) 6 (-1)) 7 (-1)))), (nq6, .inl (cy 0, 8, .inl (upd (upd (upd (upd (upd (upd (upd (upd (fun _ => 0) 0 (-1)) 1 (-1)) 2 0) 3 1) 4 1) 5 1) 6 0) 7 (-1)))), (nq7, .inl (cy 6, 3, .inr (.inr (.inr (.inr (va_up (va_up (va_up (fun _ => none) 0 (some (sk 4))) 1 (some (sk 5))) 2 (some (sk 6))))))))] H := hP
  refine va_putF (D := G) (ci := 12) (v := .ref nq7) (ty := (.array (.object "java/lang/String"))) (C := RX12) (T := TX12) (N := 33) hx hb hts inB12 tyX12 tyX12_ok nmX12 hown hE.1 hP hD hS 0 rfl rfl 8 (by decide) (hts _ m_1331) (fun _ h9 => h9) rfl hin rfl (by decide +kernel) rfl rfl (Nat.le_of_ble_eq_true rfl) dX12_init_148 (fun H locs hP hD hS => ?_)
  have hP : va_P G classes [(h0, .inr (12, [.ref nq1, .ref nq2, .ref nq3, .int 0, .ref nq4, .ref nq5, .ref nq6, .int (-1), .ref nq7, .int 0, .int 0, .int 0, .int 0, .int 0, .int 0, .null, .null, .null, .null, .null, .null, .null, .int 0, .int 0, .null, .null, .int 0, .int 0, .int 0, .null, .null, .null, .null])), (nq1, .inl (cy 0, 3567, .inl (fun _ => 0))), (nq2, .inl (cy 0, 3567, .inl (fun _ => 0))), (nq3, .inl (cy 0, 3567, .inl (fun _ => 0))), (nq4, .inl (cy 0, 7, .inl (fun _ => 0))), (nq5, .inl (cy 0, 8, .inl (upd (upd (upd (upd (upd (upd (upd (upd (fun _ => 0) 0 0) 1 1) 2 1) 3 1) 4 0) 5 (-1)) 6 (-1)) 7 (-1)))), (nq6, .inl (cy 0, 8, .inl (upd (upd (upd (upd (upd (upd (upd (upd (fun _ => 0) 0 (-1)) 1 (-1)) 2 0) 3 1) 4 1) 5 1) 6 0) 7 (-1)))), (nq7, .inl (cy 6, 3, .inr (.inr (.inr (.inr (va_up (va_up (va_up (fun _ => none) 0 (some (sk 4))) 1 (some (sk 5))) 2 (some (sk 6))))))))] H := hP
  refine lv_aload_n hx hb dX12_init_151 rfl (lv_at hl 0 rfl) ?_
  refine lv_bipush (v := 49) hx hb dX12_init_152 (by decide) ?_
  refine nwI (n := 49) (N := 49) hx hb hts m_146 hE hP hD hS hA (by decide) (by decide) (Nat.le_of_ble_eq_true rfl) (Nat.le_of_ble_eq_true rfl) (Nat.le_of_ble_eq_true rfl) dX12_init_154 (fun nq8 H hP hD hS => ?_)
  have hP : va_P G classes [(h0, .inr (12, [.ref nq1, .ref nq2, .ref nq3, .int 0, .ref nq4, .ref nq5, .ref nq6, .int (-1), .ref nq7, .int 0, .int 0, .int 0, .int 0, .int 0, .int 0, .null, .null, .null, .null, .null, .null, .null, .int 0, .int 0, .null, .null, .int 0, .int 0, .int 0, .null, .null, .null, .null])), (nq1, .inl (cy 0, 3567, .inl (fun _ => 0))), (nq2, .inl (cy 0, 3567, .inl (fun _ => 0))), (nq3, .inl (cy 0, 3567, .inl (fun _ => 0))), (nq4, .inl (cy 0, 7, .inl (fun _ => 0))), (nq5, .inl (cy 0, 8, .inl (upd (upd (upd (upd (upd (upd (upd (upd (fun _ => 0) 0 0) 1 1) 2 1) 3 1) 4 0) 5 (-1)) 6 (-1)) 7 (-1)))), (nq6, .inl (cy 0, 8, .inl (upd (upd (upd (upd (upd (upd (upd (upd (fun _ => 0) 0 (-1)) 1 (-1)) 2 0) 3 1) 4 1) 5 1) 6 0) 7 (-1)))), (nq7, .inl (cy 6, 3, .inr (.inr (.inr (.inr (va_up (va_up (va_up (fun _ => none) 0 (some (sk 4))) 1 (some (sk 5))) 2 (some (sk 6)))))))), (nq8, .inl (cy 0, 49, .inl (fun _ => 0)))] H := hP
  refine va_putF (D := G) (ci := 12) (v := .ref nq8) (ty := (.array .int)) (C := RX12) (T := TX12) (N := 33) hx hb hts inB12 tyX12 tyX12_ok nmX12 hown hE.1 hP hD hS 0 rfl rfl 15 (by decide) (hts _ m_1338) (fun _ h9 => h9) rfl hin rfl (by decide +kernel) rfl rfl (Nat.le_of_ble_eq_true rfl) dX12_init_156 (fun H locs hP hD hS => ?_)
  have hP : va_P G classes [(h0, .inr (12, [.ref nq1, .ref nq2, .ref nq3, .int 0, .ref nq4, .ref nq5, .ref nq6, .int (-1), .ref nq7, .int 0, .int 0, .int 0, .int 0, .int 0, .int 0, .ref nq8, .null, .null, .null, .null, .null, .null, .int 0, .int 0, .null, .null, .int 0, .int 0, .int 0, .null, .null, .null, .null])), (nq1, .inl (cy 0, 3567, .inl (fun _ => 0))), (nq2, .inl (cy 0, 3567, .inl (fun _ => 0))), (nq3, .inl (cy 0, 3567, .inl (fun _ => 0))), (nq4, .inl (cy 0, 7, .inl (fun _ => 0))), (nq5, .inl (cy 0, 8, .inl (upd (upd (upd (upd (upd (upd (upd (upd (fun _ => 0) 0 0) 1 1) 2 1) 3 1) 4 0) 5 (-1)) 6 (-1)) 7 (-1)))), (nq6, .inl (cy 0, 8, .inl (upd (upd (upd (upd (upd (upd (upd (upd (fun _ => 0) 0 (-1)) 1 (-1)) 2 0) 3 1) 4 1) 5 1) 6 0) 7 (-1)))), (nq7, .inl (cy 6, 3, .inr (.inr (.inr (.inr (va_up (va_up (va_up (fun _ => none) 0 (some (sk 4))) 1 (some (sk 5))) 2 (some (sk 6)))))))), (nq8, .inl (cy 0, 49, .inl (fun _ => 0)))] H := hP
  refine lv_aload_n hx hb dX12_init_159 rfl (lv_at hl 0 rfl) ?_
  refine lv_iconst (v := 5) hx hb dX12_init_160 (by decide) ?_
  refine nwI (n := 5) (N := 5) hx hb hts m_146 hE hP hD hS hA (by decide) (by decide) (Nat.le_of_ble_eq_true rfl) (Nat.le_of_ble_eq_true rfl) (Nat.le_of_ble_eq_true rfl) dX12_init_161 (fun nq9 H hP hD hS => ?_)
  have hP : va_P G classes [(h0, .inr (12, [.ref nq1, .ref nq2, .ref nq3, .int 0, .ref nq4, .ref nq5, .ref nq6, .int (-1), .ref nq7, .int 0, .int 0, .int 0, .int 0, .int 0, .int 0, .ref nq8, .null, .null, .null, .null, .null, .null, .int 0, .int 0, .null, .null, .int 0, .int 0, .int 0, .null, .null, .null, .null])), (nq1, .inl (cy 0, 3567, .inl (fun _ => 0))), (nq2, .inl (cy 0, 3567, .inl (fun _ => 0))), (nq3, .inl (cy 0, 3567, .inl (fun _ => 0))), (nq4, .inl (cy 0, 7, .inl (fun _ => 0))), (nq5, .inl (cy 0, 8, .inl (upd (upd (upd (upd (upd (upd (upd (upd (fun _ => 0) 0 0) 1 1) 2 1) 3 1) 4 0) 5 (-1)) 6 (-1)) 7 (-1)))), (nq6, .inl (cy 0, 8, .inl (upd (upd (upd (upd (upd (upd (upd (upd (fun _ => 0) 0 (-1)) 1 (-1)) 2 0) 3 1) 4 1) 5 1) 6 0) 7 (-1)))), (nq7, .inl (cy 6, 3, .inr (.inr (.inr (.inr (va_up (va_up (va_up (fun _ => none) 0 (some (sk 4))) 1 (some (sk 5))) 2 (some (sk 6)))))))), (nq8, .inl (cy 0, 49, .inl (fun _ => 0))), (nq9, .inl (cy 0, 5, .inl (fun _ => 0)))] H := hP
  refine va_putF (D := G) (ci := 12) (v := .ref nq9) (ty := (.array .int)) (C := RX12) (T := TX12) (N := 33) hx hb hts inB12 tyX12 tyX12_ok nmX12 hown hE.1 hP hD hS 0 rfl rfl 16 (by decide) (hts _ m_1339) (fun _ h9 => h9) rfl hin rfl (by decide +kernel) rfl rfl (Nat.le_of_ble_eq_true rfl) dX12_init_163 (fun H locs hP hD hS => ?_)
  have hP : va_P G classes [(h0, .inr (12, [.ref nq1, .ref nq2, .ref nq3, .int 0, .ref nq4, .ref nq5, .ref nq6, .int (-1), .ref nq7, .int 0, .int 0, .int 0, .int 0, .int 0, .int 0, .ref nq8, .ref nq9, .null, .null, .null, .null, .null, .int 0, .int 0, .null, .null, .int 0, .int 0, .int 0, .null, .null, .null, .null])), (nq1, .inl (cy 0, 3567, .inl (fun _ => 0))), (nq2, .inl (cy 0, 3567, .inl (fun _ => 0))), (nq3, .inl (cy 0, 3567, .inl (fun _ => 0))), (nq4, .inl (cy 0, 7, .inl (fun _ => 0))), (nq5, .inl (cy 0, 8, .inl (upd (upd (upd (upd (upd (upd (upd (upd (fun _ => 0) 0 0) 1 1) 2 1) 3 1) 4 0) 5 (-1)) 6 (-1)) 7 (-1)))), (nq6, .inl (cy 0, 8, .inl (upd (upd (upd (upd (upd (upd (upd (upd (fun _ => 0) 0 (-1)) 1 (-1)) 2 0) 3 1) 4 1) 5 1) 6 0) 7 (-1)))), (nq7, .inl (cy 6, 3, .inr (.inr (.inr (.inr (va_up (va_up (va_up (fun _ => none) 0 (some (sk 4))) 1 (some (sk 5))) 2 (some (sk 6)))))))), (nq8, .inl (cy 0, 49, .inl (fun _ => 0))), (nq9, .inl (cy 0, 5, .inl (fun _ => 0)))] H := hP
  refine lv_aload_n hx hb dX12_init_166 rfl (lv_at hl 0 rfl) ?_
  refine lv_bipush (v := 49) hx hb dX12_init_167 (by decide) ?_
  refine nwI (n := 49) (N := 49) hx hb hts m_146 hE hP hD hS hA (by decide) (by decide) (Nat.le_of_ble_eq_true rfl) (Nat.le_of_ble_eq_true rfl) (Nat.le_of_ble_eq_true rfl) dX12_init_169 (fun nq10 H hP hD hS => ?_)
  have hP : va_P G classes [(h0, .inr (12, [.ref nq1, .ref nq2, .ref nq3, .int 0, .ref nq4, .ref nq5, .ref nq6, .int (-1), .ref nq7, .int 0, .int 0, .int 0, .int 0, .int 0, .int 0, .ref nq8, .ref nq9, .null, .null, .null, .null, .null, .int 0, .int 0, .null, .null, .int 0, .int 0, .int 0, .null, .null, .null, .null])), (nq1, .inl (cy 0, 3567, .inl (fun _ => 0))), (nq2, .inl (cy 0, 3567, .inl (fun _ => 0))), (nq3, .inl (cy 0, 3567, .inl (fun _ => 0))), (nq4, .inl (cy 0, 7, .inl (fun _ => 0))), (nq5, .inl (cy 0, 8, .inl (upd (upd (upd (upd (upd (upd (upd (upd (fun _ => 0) 0 0) 1 1) 2 1) 3 1) 4 0) 5 (-1)) 6 (-1)) 7 (-1)))), (nq6, .inl (cy 0, 8, .inl (upd (upd (upd (upd (upd (upd (upd (upd (fun _ => 0) 0 (-1)) 1 (-1)) 2 0) 3 1) 4 1) 5 1) 6 0) 7 (-1)))), (nq7, .inl (cy 6, 3, .inr (.inr (.inr (.inr (va_up (va_up (va_up (fun _ => none) 0 (some (sk 4))) 1 (some (sk 5))) 2 (some (sk 6)))))))), (nq8, .inl (cy 0, 49, .inl (fun _ => 0))), (nq9, .inl (cy 0, 5, .inl (fun _ => 0))), (nq10, .inl (cy 0, 49, .inl (fun _ => 0)))] H := hP
  refine va_putF (D := G) (ci := 12) (v := .ref nq10) (ty := (.array .int)) (C := RX12) (T := TX12) (N := 33) hx hb hts inB12 tyX12 tyX12_ok nmX12 hown hE.1 hP hD hS 0 rfl rfl 17 (by decide) (hts _ m_1340) (fun _ h9 => h9) rfl hin rfl (by decide +kernel) rfl rfl (Nat.le_of_ble_eq_true rfl) dX12_init_171 (fun H locs hP hD hS => ?_)
  have hP : va_P G classes [(h0, .inr (12, [.ref nq1, .ref nq2, .ref nq3, .int 0, .ref nq4, .ref nq5, .ref nq6, .int (-1), .ref nq7, .int 0, .int 0, .int 0, .int 0, .int 0, .int 0, .ref nq8, .ref nq9, .ref nq10, .null, .null, .null, .null, .int 0, .int 0, .null, .null, .int 0, .int 0, .int 0, .null, .null, .null, .null])), (nq1, .inl (cy 0, 3567, .inl (fun _ => 0))), (nq2, .inl (cy 0, 3567, .inl (fun _ => 0))), (nq3, .inl (cy 0, 3567, .inl (fun _ => 0))), (nq4, .inl (cy 0, 7, .inl (fun _ => 0))), (nq5, .inl (cy 0, 8, .inl (upd (upd (upd (upd (upd (upd (upd (upd (fun _ => 0) 0 0) 1 1) 2 1) 3 1) 4 0) 5 (-1)) 6 (-1)) 7 (-1)))), (nq6, .inl (cy 0, 8, .inl (upd (upd (upd (upd (upd (upd (upd (upd (fun _ => 0) 0 (-1)) 1 (-1)) 2 0) 3 1) 4 1) 5 1) 6 0) 7 (-1)))), (nq7, .inl (cy 6, 3, .inr (.inr (.inr (.inr (va_up (va_up (va_up (fun _ => none) 0 (some (sk 4))) 1 (some (sk 5))) 2 (some (sk 6)))))))), (nq8, .inl (cy 0, 49, .inl (fun _ => 0))), (nq9, .inl (cy 0, 5, .inl (fun _ => 0))), (nq10, .inl (cy 0, 49, .inl (fun _ => 0)))] H := hP
  refine lv_aload_n hx hb dX12_init_174 rfl (lv_at hl 0 rfl) ?_
  refine lv_sipush (v := 1536) hx hb dX12_init_175 (by decide) ?_
  refine nwZ (n := 1536) (N := 1536) hx hb hts m_409 hE hP hD hS hA (by decide) (by decide) (Nat.le_of_ble_eq_true rfl) (Nat.le_of_ble_eq_true rfl) (Nat.le_of_ble_eq_true rfl) dX12_init_178 (fun nq11 H hP hD hS => ?_)
  have hP : va_P G classes [(h0, .inr (12, [.ref nq1, .ref nq2, .ref nq3, .int 0, .ref nq4, .ref nq5, .ref nq6, .int (-1), .ref nq7, .int 0, .int 0, .int 0, .int 0, .int 0, .int 0, .ref nq8, .ref nq9, .ref nq10, .null, .null, .null, .null, .int 0, .int 0, .null, .null, .int 0, .int 0, .int 0, .null, .null, .null, .null])), (nq1, .inl (cy 0, 3567, .inl (fun _ => 0))), (nq2, .inl (cy 0, 3567, .inl (fun _ => 0))), (nq3, .inl (cy 0, 3567, .inl (fun _ => 0))), (nq4, .inl (cy 0, 7, .inl (fun _ => 0))), (nq5, .inl (cy 0, 8, .inl (upd (upd (upd (upd (upd (upd (upd (upd (fun _ => 0) 0 0) 1 1) 2 1) 3 1) 4 0) 5 (-1)) 6 (-1)) 7 (-1)))), (nq6, .inl (cy 0, 8, .inl (upd (upd (upd (upd (upd (upd (upd (upd (fun _ => 0) 0 (-1)) 1 (-1)) 2 0) 3 1) 4 1) 5 1) 6 0) 7 (-1)))), (nq7, .inl (cy 6, 3, .inr (.inr (.inr (.inr (va_up (va_up (va_up (fun _ => none) 0 (some (sk 4))) 1 (some (sk 5))) 2 (some (sk 6)))))))), (nq8, .inl (cy 0, 49, .inl (fun _ => 0))), (nq9, .inl (cy 0, 5, .inl (fun _ => 0))), (nq10, .inl (cy 0, 49, .inl (fun _ => 0))), (nq11, .inl (cy 1, 1536, .inl (fun _ => 0)))] H := hP
  refine va_putF (D := G) (ci := 12) (v := .ref nq11) (ty := (.array .boolean)) (C := RX12) (T := TX12) (N := 33) hx hb hts inB12 tyX12 tyX12_ok nmX12 hown hE.1 hP hD hS 0 rfl rfl 18 (by decide) (hts _ m_1341) (fun _ h9 => h9) rfl hin rfl (by decide +kernel) rfl rfl (Nat.le_of_ble_eq_true rfl) dX12_init_180 (fun H locs hP hD hS => ?_)
  have hP : va_P G classes [(h0, .inr (12, [.ref nq1, .ref nq2, .ref nq3, .int 0, .ref nq4, .ref nq5, .ref nq6, .int (-1), .ref nq7, .int 0, .int 0, .int 0, .int 0, .int 0, .int 0, .ref nq8, .ref nq9, .ref nq10, .ref nq11, .null, .null, .null, .int 0, .int 0, .null, .null, .int 0, .int 0, .int 0, .null, .null, .null, .null])), (nq1, .inl (cy 0, 3567, .inl (fun _ => 0))), (nq2, .inl (cy 0, 3567, .inl (fun _ => 0))), (nq3, .inl (cy 0, 3567, .inl (fun _ => 0))), (nq4, .inl (cy 0, 7, .inl (fun _ => 0))), (nq5, .inl (cy 0, 8, .inl (upd (upd (upd (upd (upd (upd (upd (upd (fun _ => 0) 0 0) 1 1) 2 1) 3 1) 4 0) 5 (-1)) 6 (-1)) 7 (-1)))), (nq6, .inl (cy 0, 8, .inl (upd (upd (upd (upd (upd (upd (upd (upd (fun _ => 0) 0 (-1)) 1 (-1)) 2 0) 3 1) 4 1) 5 1) 6 0) 7 (-1)))), (nq7, .inl (cy 6, 3, .inr (.inr (.inr (.inr (va_up (va_up (va_up (fun _ => none) 0 (some (sk 4))) 1 (some (sk 5))) 2 (some (sk 6)))))))), (nq8, .inl (cy 0, 49, .inl (fun _ => 0))), (nq9, .inl (cy 0, 5, .inl (fun _ => 0))), (nq10, .inl (cy 0, 49, .inl (fun _ => 0))), (nq11, .inl (cy 1, 1536, .inl (fun _ => 0)))] H := hP
  refine lv_aload_n hx hb dX12_init_183 rfl (lv_at hl 0 rfl) ?_
  refine lv_sipush (v := 192) hx hb dX12_init_184 (by decide) ?_
  refine nwI (n := 192) (N := 192) hx hb hts m_146 hE hP hD hS hA (by decide) (by decide) (Nat.le_of_ble_eq_true rfl) (Nat.le_of_ble_eq_true rfl) (Nat.le_of_ble_eq_true rfl) dX12_init_187 (fun nq12 H hP hD hS => ?_)
  have hP : va_P G classes [(h0, .inr (12, [.ref nq1, .ref nq2, .ref nq3, .int 0, .ref nq4, .ref nq5, .ref nq6, .int (-1), .ref nq7, .int 0, .int 0, .int 0, .int 0, .int 0, .int 0, .ref nq8, .ref nq9, .ref nq10, .ref nq11, .null, .null, .null, .int 0, .int 0, .null, .null, .int 0, .int 0, .int 0, .null, .null, .null, .null])), (nq1, .inl (cy 0, 3567, .inl (fun _ => 0))), (nq2, .inl (cy 0, 3567, .inl (fun _ => 0))), (nq3, .inl (cy 0, 3567, .inl (fun _ => 0))), (nq4, .inl (cy 0, 7, .inl (fun _ => 0))), (nq5, .inl (cy 0, 8, .inl (upd (upd (upd (upd (upd (upd (upd (upd (fun _ => 0) 0 0) 1 1) 2 1) 3 1) 4 0) 5 (-1)) 6 (-1)) 7 (-1)))), (nq6, .inl (cy 0, 8, .inl (upd (upd (upd (upd (upd (upd (upd (upd (fun _ => 0) 0 (-1)) 1 (-1)) 2 0) 3 1) 4 1) 5 1) 6 0) 7 (-1)))), (nq7, .inl (cy 6, 3, .inr (.inr (.inr (.inr (va_up (va_up (va_up (fun _ => none) 0 (some (sk 4))) 1 (some (sk 5))) 2 (some (sk 6)))))))), (nq8, .inl (cy 0, 49, .inl (fun _ => 0))), (nq9, .inl (cy 0, 5, .inl (fun _ => 0))), (nq10, .inl (cy 0, 49, .inl (fun _ => 0))), (nq11, .inl (cy 1, 1536, .inl (fun _ => 0))), (nq12, .inl (cy 0, 192, .inl (fun _ => 0)))] H := hP
  refine va_putF (D := G) (ci := 12) (v := .ref nq12) (ty := (.array .int)) (C := RX12) (T := TX12) (N := 33) hx hb hts inB12 tyX12 tyX12_ok nmX12 hown hE.1 hP hD hS 0 rfl rfl 19 (by decide) (hts _ m_1342) (fun _ h9 => h9) rfl hin rfl (by decide +kernel) rfl rfl (Nat.le_of_ble_eq_true rfl) dX12_init_189 (fun H locs hP hD hS => ?_)
  have hP : va_P G classes [(h0, .inr (12, [.ref nq1, .ref nq2, .ref nq3, .int 0, .ref nq4, .ref nq5, .ref nq6, .int (-1), .ref nq7, .int 0, .int 0, .int 0, .int 0, .int 0, .int 0, .ref nq8, .ref nq9, .ref nq10, .ref nq11, .ref nq12, .null, .null, .int 0, .int 0, .null, .null, .int 0, .int 0, .int 0, .null, .null, .null, .null])), (nq1, .inl (cy 0, 3567, .inl (fun _ => 0))), (nq2, .inl (cy 0, 3567, .inl (fun _ => 0))), (nq3, .inl (cy 0, 3567, .inl (fun _ => 0))), (nq4, .inl (cy 0, 7, .inl (fun _ => 0))), (nq5, .inl (cy 0, 8, .inl (upd (upd (upd (upd (upd (upd (upd (upd (fun _ => 0) 0 0) 1 1) 2 1) 3 1) 4 0) 5 (-1)) 6 (-1)) 7 (-1)))), (nq6, .inl (cy 0, 8, .inl (upd (upd (upd (upd (upd (upd (upd (upd (fun _ => 0) 0 (-1)) 1 (-1)) 2 0) 3 1) 4 1) 5 1) 6 0) 7 (-1)))), (nq7, .inl (cy 6, 3, .inr (.inr (.inr (.inr (va_up (va_up (va_up (fun _ => none) 0 (some (sk 4))) 1 (some (sk 5))) 2 (some (sk 6)))))))), (nq8, .inl (cy 0, 49, .inl (fun _ => 0))), (nq9, .inl (cy 0, 5, .inl (fun _ => 0))), (nq10, .inl (cy 0, 49, .inl (fun _ => 0))), (nq11, .inl (cy 1, 1536, .inl (fun _ => 0))), (nq12, .inl (cy 0, 192, .inl (fun _ => 0)))] H := hP
  refine lv_aload_n hx hb dX12_init_192 rfl (lv_at hl 0 rfl) ?_
  refine lv_bipush (v := 7) hx hb dX12_init_193 (by decide) ?_
  refine nwI (n := 7) (N := 7) hx hb hts m_146 hE hP hD hS hA (by decide) (by decide) (Nat.le_of_ble_eq_true rfl) (Nat.le_of_ble_eq_true rfl) (Nat.le_of_ble_eq_true rfl) dX12_init_195 (fun nq13 H hP hD hS => ?_)
  have hP : va_P G classes [(h0, .inr (12, [.ref nq1, .ref nq2, .ref nq3, .int 0, .ref nq4, .ref nq5, .ref nq6, .int (-1), .ref nq7, .int 0, .int 0, .int 0, .int 0, .int 0, .int 0, .ref nq8, .ref nq9, .ref nq10, .ref nq11, .ref nq12, .null, .null, .int 0, .int 0, .null, .null, .int 0, .int 0, .int 0, .null, .null, .null, .null])), (nq1, .inl (cy 0, 3567, .inl (fun _ => 0))), (nq2, .inl (cy 0, 3567, .inl (fun _ => 0))), (nq3, .inl (cy 0, 3567, .inl (fun _ => 0))), (nq4, .inl (cy 0, 7, .inl (fun _ => 0))), (nq5, .inl (cy 0, 8, .inl (upd (upd (upd (upd (upd (upd (upd (upd (fun _ => 0) 0 0) 1 1) 2 1) 3 1) 4 0) 5 (-1)) 6 (-1)) 7 (-1)))), (nq6, .inl (cy 0, 8, .inl (upd (upd (upd (upd (upd (upd (upd (upd (fun _ => 0) 0 (-1)) 1 (-1)) 2 0) 3 1) 4 1) 5 1) 6 0) 7 (-1)))), (nq7, .inl (cy 6, 3, .inr (.inr (.inr (.inr (va_up (va_up (va_up (fun _ => none) 0 (some (sk 4))) 1 (some (sk 5))) 2 (some (sk 6)))))))), (nq8, .inl (cy 0, 49, .inl (fun _ => 0))), (nq9, .inl (cy 0, 5, .inl (fun _ => 0))), (nq10, .inl (cy 0, 49, .inl (fun _ => 0))), (nq11, .inl (cy 1, 1536, .inl (fun _ => 0))), (nq12, .inl (cy 0, 192, .inl (fun _ => 0))), (nq13, .inl (cy 0, 7, .inl (fun _ => 0)))] H := hP
  refine va_putF (D := G) (ci := 12) (v := .ref nq13) (ty := (.array .int)) (C := RX12) (T := TX12) (N := 33) hx hb hts inB12 tyX12 tyX12_ok nmX12 hown hE.1 hP hD hS 0 rfl rfl 20 (by decide) (hts _ m_1343) (fun _ h9 => h9) rfl hin rfl (by decide +kernel) rfl rfl (Nat.le_of_ble_eq_true rfl) dX12_init_197 (fun H locs hP hD hS => ?_)
  have hP : va_P G classes [(h0, .inr (12, [.ref nq1, .ref nq2, .ref nq3, .int 0, .ref nq4, .ref nq5, .ref nq6, .int (-1), .ref nq7, .int 0, .int 0, .int 0, .int 0, .int 0, .int 0, .ref nq8, .ref nq9, .ref nq10, .ref nq11, .ref nq12, .ref nq13, .null, .int 0, .int 0, .null, .null, .int 0, .int 0, .int 0, .null, .null, .null, .null])), (nq1, .inl (cy 0, 3567, .inl (fun _ => 0))), (nq2, .inl (cy 0, 3567, .inl (fun _ => 0))), (nq3, .inl (cy 0, 3567, .inl (fun _ => 0))), (nq4, .inl (cy 0, 7, .inl (fun _ => 0))), (nq5, .inl (cy 0, 8, .inl (upd (upd (upd (upd (upd (upd (upd (upd (fun _ => 0) 0 0) 1 1) 2 1) 3 1) 4 0) 5 (-1)) 6 (-1)) 7 (-1)))), (nq6, .inl (cy 0, 8, .inl (upd (upd (upd (upd (upd (upd (upd (upd (fun _ => 0) 0 (-1)) 1 (-1)) 2 0) 3 1) 4 1) 5 1) 6 0) 7 (-1)))), (nq7, .inl (cy 6, 3, .inr (.inr (.inr (.inr (va_up (va_up (va_up (fun _ => none) 0 (some (sk 4))) 1 (some (sk 5))) 2 (some (sk 6)))))))), (nq8, .inl (cy 0, 49, .inl (fun _ => 0))), (nq9, .inl (cy 0, 5, .inl (fun _ => 0))), (nq10, .inl (cy 0, 49, .inl (fun _ => 0))), (nq11, .inl (cy 1, 1536, .inl (fun _ => 0))), (nq12, .inl (cy 0, 192, .inl (fun _ => 0))), (nq13, .inl (cy 0, 7, .inl (fun _ => 0)))] H := hP
  refine lv_aload_n hx hb dX12_init_200 rfl (lv_at hl 0 rfl) ?_
  refine lv_bipush (v := 7) hx hb dX12_init_201 (by decide) ?_
  refine nwI (n := 7) (N := 7) hx hb hts m_146 hE hP hD hS hA (by decide) (by decide) (Nat.le_of_ble_eq_true rfl) (Nat.le_of_ble_eq_true rfl) (Nat.le_of_ble_eq_true rfl) dX12_init_203 (fun nq14 H hP hD hS => ?_)
  have hP : va_P G classes [(h0, .inr (12, [.ref nq1, .ref nq2, .ref nq3, .int 0, .ref nq4, .ref nq5, .ref nq6, .int (-1), .ref nq7, .int 0, .int 0, .int 0, .int 0, .int 0, .int 0, .ref nq8, .ref nq9, .ref nq10, .ref nq11, .ref nq12, .ref nq13, .null, .int 0, .int 0, .null, .null, .int 0, .int 0, .int 0, .null, .null, .null, .null])), (nq1, .inl (cy 0, 3567, .inl (fun _ => 0))), (nq2, .inl (cy 0, 3567, .inl (fun _ => 0))), (nq3, .inl (cy 0, 3567, .inl (fun _ => 0))), (nq4, .inl (cy 0, 7, .inl (fun _ => 0))), (nq5, .inl (cy 0, 8, .inl (upd (upd (upd (upd (upd (upd (upd (upd (fun _ => 0) 0 0) 1 1) 2 1) 3 1) 4 0) 5 (-1)) 6 (-1)) 7 (-1)))), (nq6, .inl (cy 0, 8, .inl (upd (upd (upd (upd (upd (upd (upd (upd (fun _ => 0) 0 (-1)) 1 (-1)) 2 0) 3 1) 4 1) 5 1) 6 0) 7 (-1)))), (nq7, .inl (cy 6, 3, .inr (.inr (.inr (.inr (va_up (va_up (va_up (fun _ => none) 0 (some (sk 4))) 1 (some (sk 5))) 2 (some (sk 6)))))))), (nq8, .inl (cy 0, 49, .inl (fun _ => 0))), (nq9, .inl (cy 0, 5, .inl (fun _ => 0))), (nq10, .inl (cy 0, 49, .inl (fun _ => 0))), (nq11, .inl (cy 1, 1536, .inl (fun _ => 0))), (nq12, .inl (cy 0, 192, .inl (fun _ => 0))), (nq13, .inl (cy 0, 7, .inl (fun _ => 0))), (nq14, .inl (cy 0, 7, .inl (fun _ => 0)))] H := hP
  refine va_putF (D := G) (ci := 12) (v := .ref nq14) (ty := (.array .int)) (C := RX12) (T := TX12) (N := 33) hx hb hts inB12 tyX12 tyX12_ok nmX12 hown hE.1 hP hD hS 0 rfl rfl 21 (by decide) (hts _ m_1344) (fun _ h9 => h9) rfl hin rfl (by decide +kernel) rfl rfl (Nat.le_of_ble_eq_true rfl) dX12_init_205 (fun H locs hP hD hS => ?_)
  have hP : va_P G classes [(h0, .inr (12, [.ref nq1, .ref nq2, .ref nq3, .int 0, .ref nq4, .ref nq5, .ref nq6, .int (-1), .ref nq7, .int 0, .int 0, .int 0, .int 0, .int 0, .int 0, .ref nq8, .ref nq9, .ref nq10, .ref nq11, .ref nq12, .ref nq13, .ref nq14, .int 0, .int 0, .null, .null, .int 0, .int 0, .int 0, .null, .null, .null, .null])), (nq1, .inl (cy 0, 3567, .inl (fun _ => 0))), (nq2, .inl (cy 0, 3567, .inl (fun _ => 0))), (nq3, .inl (cy 0, 3567, .inl (fun _ => 0))), (nq4, .inl (cy 0, 7, .inl (fun _ => 0))), (nq5, .inl (cy 0, 8, .inl (upd (upd (upd (upd (upd (upd (upd (upd (fun _ => 0) 0 0) 1 1) 2 1) 3 1) 4 0) 5 (-1)) 6 (-1)) 7 (-1)))), (nq6, .inl (cy 0, 8, .inl (upd (upd (upd (upd (upd (upd (upd (upd (fun _ => 0) 0 (-1)) 1 (-1)) 2 0) 3 1) 4 1) 5 1) 6 0) 7 (-1)))), (nq7, .inl (cy 6, 3, .inr (.inr (.inr (.inr (va_up (va_up (va_up (fun _ => none) 0 (some (sk 4))) 1 (some (sk 5))) 2 (some (sk 6)))))))), (nq8, .inl (cy 0, 49, .inl (fun _ => 0))), (nq9, .inl (cy 0, 5, .inl (fun _ => 0))), (nq10, .inl (cy 0, 49, .inl (fun _ => 0))), (nq11, .inl (cy 1, 1536, .inl (fun _ => 0))), (nq12, .inl (cy 0, 192, .inl (fun _ => 0))), (nq13, .inl (cy 0, 7, .inl (fun _ => 0))), (nq14, .inl (cy 0, 7, .inl (fun _ => 0)))] H := hP
  refine lv_aload_n hx hb dX12_init_208 rfl (lv_at hl 0 rfl) ?_
  refine lv_bipush (v := 8) hx hb dX12_init_209 (by decide) ?_
  refine nwI (n := 8) (N := 8) hx hb hts m_146 hE hP hD hS hA (by decide) (by decide) (Nat.le_of_ble_eq_true rfl) (Nat.le_of_ble_eq_true rfl) (Nat.le_of_ble_eq_true rfl) dX12_init_211 (fun nq15 H hP hD hS => ?_)
  have hP : va_P G classes [(h0, .inr (12, [.ref nq1, .ref nq2, .ref nq3, .int 0, .ref nq4, .ref nq5, .ref nq6, .int (-1), .ref nq7, .int 0, .int 0, .int 0, .int 0, .int 0, .int 0, .ref nq8, .ref nq9, .ref nq10, .ref nq11, .ref nq12, .ref nq13, .ref nq14, .int 0, .int 0, .null, .null, .int 0, .int 0, .int 0, .null, .null, .null, .null])), (nq1, .inl (cy 0, 3567, .inl (fun _ => 0))), (nq2, .inl (cy 0, 3567, .inl (fun _ => 0))), (nq3, .inl (cy 0, 3567, .inl (fun _ => 0))), (nq4, .inl (cy 0, 7, .inl (fun _ => 0))), (nq5, .inl (cy 0, 8, .inl (upd (upd (upd (upd (upd (upd (upd (upd (fun _ => 0) 0 0) 1 1) 2 1) 3 1) 4 0) 5 (-1)) 6 (-1)) 7 (-1)))), (nq6, .inl (cy 0, 8, .inl (upd (upd (upd (upd (upd (upd (upd (upd (fun _ => 0) 0 (-1)) 1 (-1)) 2 0) 3 1) 4 1) 5 1) 6 0) 7 (-1)))), (nq7, .inl (cy 6, 3, .inr (.inr (.inr (.inr (va_up (va_up (va_up (fun _ => none) 0 (some (sk 4))) 1 (some (sk 5))) 2 (some (sk 6)))))))), (nq8, .inl (cy 0, 49, .inl (fun _ => 0))), (nq9, .inl (cy 0, 5, .inl (fun _ => 0))), (nq10, .inl (cy 0, 49, .inl (fun _ => 0))), (nq11, .inl (cy 1, 1536, .inl (fun _ => 0))), (nq12, .inl (cy 0, 192, .inl (fun _ => 0))), (nq13, .inl (cy 0, 7, .inl (fun _ => 0))), (nq14, .inl (cy 0, 7, .inl (fun _ => 0))), (nq15, .inl (cy 0, 8, .inl (fun _ => 0)))] H := hP
  refine va_putF (D := G) (ci := 12) (v := .ref nq15) (ty := (.array .int)) (C := RX12) (T := TX12) (N := 33) hx hb hts inB12 tyX12 tyX12_ok nmX12 hown hE.1 hP hD hS 0 rfl rfl 24 (by decide) (hts _ m_1347) (fun _ h9 => h9) rfl hin rfl (by decide +kernel) rfl rfl (Nat.le_of_ble_eq_true rfl) dX12_init_213 (fun H locs hP hD hS => ?_)
  have hP : va_P G classes [(h0, .inr (12, [.ref nq1, .ref nq2, .ref nq3, .int 0, .ref nq4, .ref nq5, .ref nq6, .int (-1), .ref nq7, .int 0, .int 0, .int 0, .int 0, .int 0, .int 0, .ref nq8, .ref nq9, .ref nq10, .ref nq11, .ref nq12, .ref nq13, .ref nq14, .int 0, .int 0, .ref nq15, .null, .int 0, .int 0, .int 0, .null, .null, .null, .null])), (nq1, .inl (cy 0, 3567, .inl (fun _ => 0))), (nq2, .inl (cy 0, 3567, .inl (fun _ => 0))), (nq3, .inl (cy 0, 3567, .inl (fun _ => 0))), (nq4, .inl (cy 0, 7, .inl (fun _ => 0))), (nq5, .inl (cy 0, 8, .inl (upd (upd (upd (upd (upd (upd (upd (upd (fun _ => 0) 0 0) 1 1) 2 1) 3 1) 4 0) 5 (-1)) 6 (-1)) 7 (-1)))), (nq6, .inl (cy 0, 8, .inl (upd (upd (upd (upd (upd (upd (upd (upd (fun _ => 0) 0 (-1)) 1 (-1)) 2 0) 3 1) 4 1) 5 1) 6 0) 7 (-1)))), (nq7, .inl (cy 6, 3, .inr (.inr (.inr (.inr (va_up (va_up (va_up (fun _ => none) 0 (some (sk 4))) 1 (some (sk 5))) 2 (some (sk 6)))))))), (nq8, .inl (cy 0, 49, .inl (fun _ => 0))), (nq9, .inl (cy 0, 5, .inl (fun _ => 0))), (nq10, .inl (cy 0, 49, .inl (fun _ => 0))), (nq11, .inl (cy 1, 1536, .inl (fun _ => 0))), (nq12, .inl (cy 0, 192, .inl (fun _ => 0))), (nq13, .inl (cy 0, 7, .inl (fun _ => 0))), (nq14, .inl (cy 0, 7, .inl (fun _ => 0))), (nq15, .inl (cy 0, 8, .inl (fun _ => 0)))] H := hP
  refine lv_aload_n hx hb dX12_init_216 rfl (lv_at hl 0 rfl) ?_
  refine lv_bipush (v := 30) hx hb dX12_init_217 (by decide) ?_
  refine nwI (n := 30) (N := 30) hx hb hts m_146 hE hP hD hS hA (by decide) (by decide) (Nat.le_of_ble_eq_true rfl) (Nat.le_of_ble_eq_true rfl) (Nat.le_of_ble_eq_true rfl) dX12_init_219 (fun nq16 H hP hD hS => ?_)
  have hP : va_P G classes [(h0, .inr (12, [.ref nq1, .ref nq2, .ref nq3, .int 0, .ref nq4, .ref nq5, .ref nq6, .int (-1), .ref nq7, .int 0, .int 0, .int 0, .int 0, .int 0, .int 0, .ref nq8, .ref nq9, .ref nq10, .ref nq11, .ref nq12, .ref nq13, .ref nq14, .int 0, .int 0, .ref nq15, .null, .int 0, .int 0, .int 0, .null, .null, .null, .null])), (nq1, .inl (cy 0, 3567, .inl (fun _ => 0))), (nq2, .inl (cy 0, 3567, .inl (fun _ => 0))), (nq3, .inl (cy 0, 3567, .inl (fun _ => 0))), (nq4, .inl (cy 0, 7, .inl (fun _ => 0))), (nq5, .inl (cy 0, 8, .inl (upd (upd (upd (upd (upd (upd (upd (upd (fun _ => 0) 0 0) 1 1) 2 1) 3 1) 4 0) 5 (-1)) 6 (-1)) 7 (-1)))), (nq6, .inl (cy 0, 8, .inl (upd (upd (upd (upd (upd (upd (upd (upd (fun _ => 0) 0 (-1)) 1 (-1)) 2 0) 3 1) 4 1) 5 1) 6 0) 7 (-1)))), (nq7, .inl (cy 6, 3, .inr (.inr (.inr (.inr (va_up (va_up (va_up (fun _ => none) 0 (some (sk 4))) 1 (some (sk 5))) 2 (some (sk 6)))))))), (nq8, .inl (cy 0, 49, .inl (fun _ => 0))), (nq9, .inl (cy 0, 5, .inl (fun _ => 0))), (nq10, .inl (cy 0, 49, .inl (fun _ => 0))), (nq11, .inl (cy 1, 1536, .inl (fun _ => 0))), (nq12, .inl (cy 0, 192, .inl (fun _ => 0))), (nq13, .inl (cy 0, 7, .inl (fun _ => 0))), (nq14, .inl (cy 0, 7, .inl (fun _ => 0))), (nq15, .inl (cy 0, 8, .inl (fun _ => 0))), (nq16, .inl (cy 0, 30, .inl (fun _ => 0)))] H := hP
  refine va_putF (D := G) (ci := 12) (v := .ref nq16) (ty := (.array .int)) (C := RX12) (T := TX12) (N := 33) hx hb hts inB12 tyX12 tyX12_ok nmX12 hown hE.1 hP hD hS 0 rfl rfl 25 (by decide) (hts _ m_1348) (fun _ h9 => h9) rfl hin rfl (by decide +kernel) rfl rfl (Nat.le_of_ble_eq_true rfl) dX12_init_221 (fun H locs hP hD hS => ?_)
  have hP : va_P G classes [(h0, .inr (12, [.ref nq1, .ref nq2, .ref nq3, .int 0, .ref nq4, .ref nq5, .ref nq6, .int (-1), .ref nq7, .int 0, .int 0, .int 0, .int 0, .int 0, .int 0, .ref nq8, .ref nq9, .ref nq10, .ref nq11, .ref nq12, .ref nq13, .ref nq14, .int 0, .int 0, .ref nq15, .ref nq16, .int 0, .int 0, .int 0, .null, .null, .null, .null])), (nq1, .inl (cy 0, 3567, .inl (fun _ => 0))), (nq2, .inl (cy 0, 3567, .inl (fun _ => 0))), (nq3, .inl (cy 0, 3567, .inl (fun _ => 0))), (nq4, .inl (cy 0, 7, .inl (fun _ => 0))), (nq5, .inl (cy 0, 8, .inl (upd (upd (upd (upd (upd (upd (upd (upd (fun _ => 0) 0 0) 1 1) 2 1) 3 1) 4 0) 5 (-1)) 6 (-1)) 7 (-1)))), (nq6, .inl (cy 0, 8, .inl (upd (upd (upd (upd (upd (upd (upd (upd (fun _ => 0) 0 (-1)) 1 (-1)) 2 0) 3 1) 4 1) 5 1) 6 0) 7 (-1)))), (nq7, .inl (cy 6, 3, .inr (.inr (.inr (.inr (va_up (va_up (va_up (fun _ => none) 0 (some (sk 4))) 1 (some (sk 5))) 2 (some (sk 6)))))))), (nq8, .inl (cy 0, 49, .inl (fun _ => 0))), (nq9, .inl (cy 0, 5, .inl (fun _ => 0))), (nq10, .inl (cy 0, 49, .inl (fun _ => 0))), (nq11, .inl (cy 1, 1536, .inl (fun _ => 0))), (nq12, .inl (cy 0, 192, .inl (fun _ => 0))), (nq13, .inl (cy 0, 7, .inl (fun _ => 0))), (nq14, .inl (cy 0, 7, .inl (fun _ => 0))), (nq15, .inl (cy 0, 8, .inl (fun _ => 0))), (nq16, .inl (cy 0, 30, .inl (fun _ => 0)))] H := hP
  refine lv_aload_n hx hb dX12_init_224 rfl (lv_at hl 0 rfl) ?_
  refine lv_iconst (v := 4) hx hb dX12_init_225 (by decide) ?_
  refine nwI (n := 4) (N := 4) hx hb hts m_146 hE hP hD hS hA (by decide) (by decide) (Nat.le_of_ble_eq_true rfl) (Nat.le_of_ble_eq_true rfl) (Nat.le_of_ble_eq_true rfl) dX12_init_226 (fun nq17 H hP hD hS => ?_)
  have hP : va_P G classes [(h0, .inr (12, [.ref nq1, .ref nq2, .ref nq3, .int 0, .ref nq4, .ref nq5, .ref nq6, .int (-1), .ref nq7, .int 0, .int 0, .int 0, .int 0, .int 0, .int 0, .ref nq8, .ref nq9, .ref nq10, .ref nq11, .ref nq12, .ref nq13, .ref nq14, .int 0, .int 0, .ref nq15, .ref nq16, .int 0, .int 0, .int 0, .null, .null, .null, .null])), (nq1, .inl (cy 0, 3567, .inl (fun _ => 0))), (nq2, .inl (cy 0, 3567, .inl (fun _ => 0))), (nq3, .inl (cy 0, 3567, .inl (fun _ => 0))), (nq4, .inl (cy 0, 7, .inl (fun _ => 0))), (nq5, .inl (cy 0, 8, .inl (upd (upd (upd (upd (upd (upd (upd (upd (fun _ => 0) 0 0) 1 1) 2 1) 3 1) 4 0) 5 (-1)) 6 (-1)) 7 (-1)))), (nq6, .inl (cy 0, 8, .inl (upd (upd (upd (upd (upd (upd (upd (upd (fun _ => 0) 0 (-1)) 1 (-1)) 2 0) 3 1) 4 1) 5 1) 6 0) 7 (-1)))), (nq7, .inl (cy 6, 3, .inr (.inr (.inr (.inr (va_up (va_up (va_up (fun _ => none) 0 (some (sk 4))) 1 (some (sk 5))) 2 (some (sk 6)))))))), (nq8, .inl (cy 0, 49, .inl (fun _ => 0))), (nq9, .inl (cy 0, 5, .inl (fun _ => 0))), (nq10, .inl (cy 0, 49, .inl (fun _ => 0))), (nq11, .inl (cy 1, 1536, .inl (fun _ => 0))), (nq12, .inl (cy 0, 192, .inl (fun _ => 0))), (nq13, .inl (cy 0, 7, .inl (fun _ => 0))), (nq14, .inl (cy 0, 7, .inl (fun _ => 0))), (nq15, .inl (cy 0, 8, .inl (fun _ => 0))), (nq16, .inl (cy 0, 30, .inl (fun _ => 0))), (nq17, .inl (cy 0, 4, .inl (fun _ => 0)))] H := hP
  refine va_putF (D := G) (ci := 12) (v := .ref nq17) (ty := (.array .int)) (C := RX12) (T := TX12) (N := 33) hx hb hts inB12 tyX12 tyX12_ok nmX12 hown hE.1 hP hD hS 0 rfl rfl 29 (by decide) (hts _ m_1352) (fun _ h9 => h9) rfl hin rfl (by decide +kernel) rfl rfl (Nat.le_of_ble_eq_true rfl) dX12_init_228 (fun H locs hP hD hS => ?_)
  have hP : va_P G classes [(h0, .inr (12, [.ref nq1, .ref nq2, .ref nq3, .int 0, .ref nq4, .ref nq5, .ref nq6, .int (-1), .ref nq7, .int 0, .int 0, .int 0, .int 0, .int 0, .int 0, .ref nq8, .ref nq9, .ref nq10, .ref nq11, .ref nq12, .ref nq13, .ref nq14, .int 0, .int 0, .ref nq15, .ref nq16, .int 0, .int 0, .int 0, .ref nq17, .null, .null, .null])), (nq1, .inl (cy 0, 3567, .inl (fun _ => 0))), (nq2, .inl (cy 0, 3567, .inl (fun _ => 0))), (nq3, .inl (cy 0, 3567, .inl (fun _ => 0))), (nq4, .inl (cy 0, 7, .inl (fun _ => 0))), (nq5, .inl (cy 0, 8, .inl (upd (upd (upd (upd (upd (upd (upd (upd (fun _ => 0) 0 0) 1 1) 2 1) 3 1) 4 0) 5 (-1)) 6 (-1)) 7 (-1)))), (nq6, .inl (cy 0, 8, .inl (upd (upd (upd (upd (upd (upd (upd (upd (fun _ => 0) 0 (-1)) 1 (-1)) 2 0) 3 1) 4 1) 5 1) 6 0) 7 (-1)))), (nq7, .inl (cy 6, 3, .inr (.inr (.inr (.inr (va_up (va_up (va_up (fun _ => none) 0 (some (sk 4))) 1 (some (sk 5))) 2 (some (sk 6)))))))), (nq8, .inl (cy 0, 49, .inl (fun _ => 0))), (nq9, .inl (cy 0, 5, .inl (fun _ => 0))), (nq10, .inl (cy 0, 49, .inl (fun _ => 0))), (nq11, .inl (cy 1, 1536, .inl (fun _ => 0))), (nq12, .inl (cy 0, 192, .inl (fun _ => 0))), (nq13, .inl (cy 0, 7, .inl (fun _ => 0))), (nq14, .inl (cy 0, 7, .inl (fun _ => 0))), (nq15, .inl (cy 0, 8, .inl (fun _ => 0))), (nq16, .inl (cy 0, 30, .inl (fun _ => 0))), (nq17, .inl (cy 0, 4, .inl (fun _ => 0)))] H := hP
  refine lv_aload_n hx hb dX12_init_231 rfl (lv_at hl 0 rfl) ?_
  refine lv_iconst (v := 4) hx hb dX12_init_232 (by decide) ?_
  refine nwI (n := 4) (N := 4) hx hb hts m_146 hE hP hD hS hA (by decide) (by decide) (Nat.le_of_ble_eq_true rfl) (Nat.le_of_ble_eq_true rfl) (Nat.le_of_ble_eq_true rfl) dX12_init_233 (fun nq18 H hP hD hS => ?_)
  have hP : va_P G classes [(h0, .inr (12, [.ref nq1, .ref nq2, .ref nq3, .int 0, .ref nq4, .ref nq5, .ref nq6, .int (-1), .ref nq7, .int 0, .int 0, .int 0, .int 0, .int 0, .int 0, .ref nq8, .ref nq9, .ref nq10, .ref nq11, .ref nq12, .ref nq13, .ref nq14, .int 0, .int 0, .ref nq15, .ref nq16, .int 0, .int 0, .int 0, .ref nq17, .null, .null, .null])), (nq1, .inl (cy 0, 3567, .inl (fun _ => 0))), (nq2, .inl (cy 0, 3567, .inl (fun _ => 0))), (nq3, .inl (cy 0, 3567, .inl (fun _ => 0))), (nq4, .inl (cy 0, 7, .inl (fun _ => 0))), (nq5, .inl (cy 0, 8, .inl (upd (upd (upd (upd (upd (upd (upd (upd (fun _ => 0) 0 0) 1 1) 2 1) 3 1) 4 0) 5 (-1)) 6 (-1)) 7 (-1)))), (nq6, .inl (cy 0, 8, .inl (upd (upd (upd (upd (upd (upd (upd (upd (fun _ => 0) 0 (-1)) 1 (-1)) 2 0) 3 1) 4 1) 5 1) 6 0) 7 (-1)))), (nq7, .inl (cy 6, 3, .inr (.inr (.inr (.inr (va_up (va_up (va_up (fun _ => none) 0 (some (sk 4))) 1 (some (sk 5))) 2 (some (sk 6)))))))), (nq8, .inl (cy 0, 49, .inl (fun _ => 0))), (nq9, .inl (cy 0, 5, .inl (fun _ => 0))), (nq10, .inl (cy 0, 49, .inl (fun _ => 0))), (nq11, .inl (cy 1, 1536, .inl (fun _ => 0))), (nq12, .inl (cy 0, 192, .inl (fun _ => 0))), (nq13, .inl (cy 0, 7, .inl (fun _ => 0))), (nq14, .inl (cy 0, 7, .inl (fun _ => 0))), (nq15, .inl (cy 0, 8, .inl (fun _ => 0))), (nq16, .inl (cy 0, 30, .inl (fun _ => 0))), (nq17, .inl (cy 0, 4, .inl (fun _ => 0))), (nq18, .inl (cy 0, 4, .inl (fun _ => 0)))] H := hP
  refine va_putF (D := G) (ci := 12) (v := .ref nq18) (ty := (.array .int)) (C := RX12) (T := TX12) (N := 33) hx hb hts inB12 tyX12 tyX12_ok nmX12 hown hE.1 hP hD hS 0 rfl rfl 30 (by decide) (hts _ m_1353) (fun _ h9 => h9) rfl hin rfl (by decide +kernel) rfl rfl (Nat.le_of_ble_eq_true rfl) dX12_init_235 (fun H locs hP hD hS => ?_)
  have hP : va_P G classes [(h0, .inr (12, [.ref nq1, .ref nq2, .ref nq3, .int 0, .ref nq4, .ref nq5, .ref nq6, .int (-1), .ref nq7, .int 0, .int 0, .int 0, .int 0, .int 0, .int 0, .ref nq8, .ref nq9, .ref nq10, .ref nq11, .ref nq12, .ref nq13, .ref nq14, .int 0, .int 0, .ref nq15, .ref nq16, .int 0, .int 0, .int 0, .ref nq17, .ref nq18, .null, .null])), (nq1, .inl (cy 0, 3567, .inl (fun _ => 0))), (nq2, .inl (cy 0, 3567, .inl (fun _ => 0))), (nq3, .inl (cy 0, 3567, .inl (fun _ => 0))), (nq4, .inl (cy 0, 7, .inl (fun _ => 0))), (nq5, .inl (cy 0, 8, .inl (upd (upd (upd (upd (upd (upd (upd (upd (fun _ => 0) 0 0) 1 1) 2 1) 3 1) 4 0) 5 (-1)) 6 (-1)) 7 (-1)))), (nq6, .inl (cy 0, 8, .inl (upd (upd (upd (upd (upd (upd (upd (upd (fun _ => 0) 0 (-1)) 1 (-1)) 2 0) 3 1) 4 1) 5 1) 6 0) 7 (-1)))), (nq7, .inl (cy 6, 3, .inr (.inr (.inr (.inr (va_up (va_up (va_up (fun _ => none) 0 (some (sk 4))) 1 (some (sk 5))) 2 (some (sk 6)))))))), (nq8, .inl (cy 0, 49, .inl (fun _ => 0))), (nq9, .inl (cy 0, 5, .inl (fun _ => 0))), (nq10, .inl (cy 0, 49, .inl (fun _ => 0))), (nq11, .inl (cy 1, 1536, .inl (fun _ => 0))), (nq12, .inl (cy 0, 192, .inl (fun _ => 0))), (nq13, .inl (cy 0, 7, .inl (fun _ => 0))), (nq14, .inl (cy 0, 7, .inl (fun _ => 0))), (nq15, .inl (cy 0, 8, .inl (fun _ => 0))), (nq16, .inl (cy 0, 30, .inl (fun _ => 0))), (nq17, .inl (cy 0, 4, .inl (fun _ => 0))), (nq18, .inl (cy 0, 4, .inl (fun _ => 0)))] H := hP
  refine lv_aload_n hx hb dX12_init_238 rfl (lv_at hl 0 rfl) ?_
  refine lv_bipush (v := 96) hx hb dX12_init_239 (by decide) ?_
  refine nwI (n := 96) (N := 96) hx hb hts m_146 hE hP hD hS hA (by decide) (by decide) (Nat.le_of_ble_eq_true rfl) (Nat.le_of_ble_eq_true rfl) (Nat.le_of_ble_eq_true rfl) dX12_init_241 (fun nq19 H hP hD hS => ?_)
  have hP : va_P G classes [(h0, .inr (12, [.ref nq1, .ref nq2, .ref nq3, .int 0, .ref nq4, .ref nq5, .ref nq6, .int (-1), .ref nq7, .int 0, .int 0, .int 0, .int 0, .int 0, .int 0, .ref nq8, .ref nq9, .ref nq10, .ref nq11, .ref nq12, .ref nq13, .ref nq14, .int 0, .int 0, .ref nq15, .ref nq16, .int 0, .int 0, .int 0, .ref nq17, .ref nq18, .null, .null])), (nq1, .inl (cy 0, 3567, .inl (fun _ => 0))), (nq2, .inl (cy 0, 3567, .inl (fun _ => 0))), (nq3, .inl (cy 0, 3567, .inl (fun _ => 0))), (nq4, .inl (cy 0, 7, .inl (fun _ => 0))), (nq5, .inl (cy 0, 8, .inl (upd (upd (upd (upd (upd (upd (upd (upd (fun _ => 0) 0 0) 1 1) 2 1) 3 1) 4 0) 5 (-1)) 6 (-1)) 7 (-1)))), (nq6, .inl (cy 0, 8, .inl (upd (upd (upd (upd (upd (upd (upd (upd (fun _ => 0) 0 (-1)) 1 (-1)) 2 0) 3 1) 4 1) 5 1) 6 0) 7 (-1)))), (nq7, .inl (cy 6, 3, .inr (.inr (.inr (.inr (va_up (va_up (va_up (fun _ => none) 0 (some (sk 4))) 1 (some (sk 5))) 2 (some (sk 6)))))))), (nq8, .inl (cy 0, 49, .inl (fun _ => 0))), (nq9, .inl (cy 0, 5, .inl (fun _ => 0))), (nq10, .inl (cy 0, 49, .inl (fun _ => 0))), (nq11, .inl (cy 1, 1536, .inl (fun _ => 0))), (nq12, .inl (cy 0, 192, .inl (fun _ => 0))), (nq13, .inl (cy 0, 7, .inl (fun _ => 0))), (nq14, .inl (cy 0, 7, .inl (fun _ => 0))), (nq15, .inl (cy 0, 8, .inl (fun _ => 0))), (nq16, .inl (cy 0, 30, .inl (fun _ => 0))), (nq17, .inl (cy 0, 4, .inl (fun _ => 0))), (nq18, .inl (cy 0, 4, .inl (fun _ => 0))), (nq19, .inl (cy 0, 96, .inl (fun _ => 0)))] H := hP
  refine va_putF (D := G) (ci := 12) (v := .ref nq19) (ty := (.array .int)) (C := RX12) (T := TX12) (N := 33) hx hb hts inB12 tyX12 tyX12_ok nmX12 hown hE.1 hP hD hS 0 rfl rfl 31 (by decide) (hts _ m_1354) (fun _ h9 => h9) rfl hin rfl (by decide +kernel) rfl rfl (Nat.le_of_ble_eq_true rfl) dX12_init_243 (fun H locs hP hD hS => ?_)
  have hP : va_P G classes [(h0, .inr (12, [.ref nq1, .ref nq2, .ref nq3, .int 0, .ref nq4, .ref nq5, .ref nq6, .int (-1), .ref nq7, .int 0, .int 0, .int 0, .int 0, .int 0, .int 0, .ref nq8, .ref nq9, .ref nq10, .ref nq11, .ref nq12, .ref nq13, .ref nq14, .int 0, .int 0, .ref nq15, .ref nq16, .int 0, .int 0, .int 0, .ref nq17, .ref nq18, .ref nq19, .null])), (nq1, .inl (cy 0, 3567, .inl (fun _ => 0))), (nq2, .inl (cy 0, 3567, .inl (fun _ => 0))), (nq3, .inl (cy 0, 3567, .inl (fun _ => 0))), (nq4, .inl (cy 0, 7, .inl (fun _ => 0))), (nq5, .inl (cy 0, 8, .inl (upd (upd (upd (upd (upd (upd (upd (upd (fun _ => 0) 0 0) 1 1) 2 1) 3 1) 4 0) 5 (-1)) 6 (-1)) 7 (-1)))), (nq6, .inl (cy 0, 8, .inl (upd (upd (upd (upd (upd (upd (upd (upd (fun _ => 0) 0 (-1)) 1 (-1)) 2 0) 3 1) 4 1) 5 1) 6 0) 7 (-1)))), (nq7, .inl (cy 6, 3, .inr (.inr (.inr (.inr (va_up (va_up (va_up (fun _ => none) 0 (some (sk 4))) 1 (some (sk 5))) 2 (some (sk 6)))))))), (nq8, .inl (cy 0, 49, .inl (fun _ => 0))), (nq9, .inl (cy 0, 5, .inl (fun _ => 0))), (nq10, .inl (cy 0, 49, .inl (fun _ => 0))), (nq11, .inl (cy 1, 1536, .inl (fun _ => 0))), (nq12, .inl (cy 0, 192, .inl (fun _ => 0))), (nq13, .inl (cy 0, 7, .inl (fun _ => 0))), (nq14, .inl (cy 0, 7, .inl (fun _ => 0))), (nq15, .inl (cy 0, 8, .inl (fun _ => 0))), (nq16, .inl (cy 0, 30, .inl (fun _ => 0))), (nq17, .inl (cy 0, 4, .inl (fun _ => 0))), (nq18, .inl (cy 0, 4, .inl (fun _ => 0))), (nq19, .inl (cy 0, 96, .inl (fun _ => 0)))] H := hP
  refine lv_aload_n hx hb dX12_init_246 rfl (lv_at hl 0 rfl) ?_
  refine lv_bipush (v := 24) hx hb dX12_init_247 (by decide) ?_
  refine nwI (n := 24) (N := 24) hx hb hts m_146 hE hP hD hS hA (by decide) (by decide) (Nat.le_of_ble_eq_true rfl) (Nat.le_of_ble_eq_true rfl) (Nat.le_of_ble_eq_true rfl) dX12_init_249 (fun nq20 H hP hD hS => ?_)
  have hP : va_P G classes [(h0, .inr (12, [.ref nq1, .ref nq2, .ref nq3, .int 0, .ref nq4, .ref nq5, .ref nq6, .int (-1), .ref nq7, .int 0, .int 0, .int 0, .int 0, .int 0, .int 0, .ref nq8, .ref nq9, .ref nq10, .ref nq11, .ref nq12, .ref nq13, .ref nq14, .int 0, .int 0, .ref nq15, .ref nq16, .int 0, .int 0, .int 0, .ref nq17, .ref nq18, .ref nq19, .null])), (nq1, .inl (cy 0, 3567, .inl (fun _ => 0))), (nq2, .inl (cy 0, 3567, .inl (fun _ => 0))), (nq3, .inl (cy 0, 3567, .inl (fun _ => 0))), (nq4, .inl (cy 0, 7, .inl (fun _ => 0))), (nq5, .inl (cy 0, 8, .inl (upd (upd (upd (upd (upd (upd (upd (upd (fun _ => 0) 0 0) 1 1) 2 1) 3 1) 4 0) 5 (-1)) 6 (-1)) 7 (-1)))), (nq6, .inl (cy 0, 8, .inl (upd (upd (upd (upd (upd (upd (upd (upd (fun _ => 0) 0 (-1)) 1 (-1)) 2 0) 3 1) 4 1) 5 1) 6 0) 7 (-1)))), (nq7, .inl (cy 6, 3, .inr (.inr (.inr (.inr (va_up (va_up (va_up (fun _ => none) 0 (some (sk 4))) 1 (some (sk 5))) 2 (some (sk 6)))))))), (nq8, .inl (cy 0, 49, .inl (fun _ => 0))), (nq9, .inl (cy 0, 5, .inl (fun _ => 0))), (nq10, .inl (cy 0, 49, .inl (fun _ => 0))), (nq11, .inl (cy 1, 1536, .inl (fun _ => 0))), (nq12, .inl (cy 0, 192, .inl (fun _ => 0))), (nq13, .inl (cy 0, 7, .inl (fun _ => 0))), (nq14, .inl (cy 0, 7, .inl (fun _ => 0))), (nq15, .inl (cy 0, 8, .inl (fun _ => 0))), (nq16, .inl (cy 0, 30, .inl (fun _ => 0))), (nq17, .inl (cy 0, 4, .inl (fun _ => 0))), (nq18, .inl (cy 0, 4, .inl (fun _ => 0))), (nq19, .inl (cy 0, 96, .inl (fun _ => 0))), (nq20, .inl (cy 0, 24, .inl (fun _ => 0)))] H := hP
  refine va_putF (D := G) (ci := 12) (v := .ref nq20) (ty := (.array .int)) (C := RX12) (T := TX12) (N := 33) hx hb hts inB12 tyX12 tyX12_ok nmX12 hown hE.1 hP hD hS 0 rfl rfl 32 (by decide) (hts _ m_1355) (fun _ h9 => h9) rfl hin rfl (by decide +kernel) rfl rfl (Nat.le_of_ble_eq_true rfl) dX12_init_251 (fun H locs hP hD hS => ?_)
  have hP : va_P G classes [(h0, .inr (12, [.ref nq1, .ref nq2, .ref nq3, .int 0, .ref nq4, .ref nq5, .ref nq6, .int (-1), .ref nq7, .int 0, .int 0, .int 0, .int 0, .int 0, .int 0, .ref nq8, .ref nq9, .ref nq10, .ref nq11, .ref nq12, .ref nq13, .ref nq14, .int 0, .int 0, .ref nq15, .ref nq16, .int 0, .int 0, .int 0, .ref nq17, .ref nq18, .ref nq19, .ref nq20])), (nq1, .inl (cy 0, 3567, .inl (fun _ => 0))), (nq2, .inl (cy 0, 3567, .inl (fun _ => 0))), (nq3, .inl (cy 0, 3567, .inl (fun _ => 0))), (nq4, .inl (cy 0, 7, .inl (fun _ => 0))), (nq5, .inl (cy 0, 8, .inl (upd (upd (upd (upd (upd (upd (upd (upd (fun _ => 0) 0 0) 1 1) 2 1) 3 1) 4 0) 5 (-1)) 6 (-1)) 7 (-1)))), (nq6, .inl (cy 0, 8, .inl (upd (upd (upd (upd (upd (upd (upd (upd (fun _ => 0) 0 (-1)) 1 (-1)) 2 0) 3 1) 4 1) 5 1) 6 0) 7 (-1)))), (nq7, .inl (cy 6, 3, .inr (.inr (.inr (.inr (va_up (va_up (va_up (fun _ => none) 0 (some (sk 4))) 1 (some (sk 5))) 2 (some (sk 6)))))))), (nq8, .inl (cy 0, 49, .inl (fun _ => 0))), (nq9, .inl (cy 0, 5, .inl (fun _ => 0))), (nq10, .inl (cy 0, 49, .inl (fun _ => 0))), (nq11, .inl (cy 1, 1536, .inl (fun _ => 0))), (nq12, .inl (cy 0, 192, .inl (fun _ => 0))), (nq13, .inl (cy 0, 7, .inl (fun _ => 0))), (nq14, .inl (cy 0, 7, .inl (fun _ => 0))), (nq15, .inl (cy 0, 8, .inl (fun _ => 0))), (nq16, .inl (cy 0, 30, .inl (fun _ => 0))), (nq17, .inl (cy 0, 4, .inl (fun _ => 0))), (nq18, .inl (cy 0, 4, .inl (fun _ => 0))), (nq19, .inl (cy 0, 96, .inl (fun _ => 0))), (nq20, .inl (cy 0, 24, .inl (fun _ => 0)))] H := hP
  refine lv_aload_n hx hb dX12_init_254 rfl (lv_at hl 0 rfl) ?_
  refine va_get (D := G) (ci := 12) (v := .ref nq1) (C := RX12) (T := TX12) (N := 33) hx hb hts inB12 hown hE.1 hP 0 rfl rfl 0 (by decide) (hts _ m_1323) (fun _ h9 => h9) rfl dX12_init_255 ?_
  refine lv_bipush (v := 6) hx hb dX12_init_258 (by decide) ?_
  refine lv_iconst (v := 5) hx hb dX12_init_260 (by decide) ?_
  refine va_iast hx hb hE.1 hP hD hS 1 0 rfl rfl (vinL (by decide)) dX12_init_261 (fun H locs hP hD hS => ?_)
  have hP : va_P G classes [(h0, .inr (12, [.ref nq1, .ref nq2, .ref nq3, .int 0, .ref nq4, .ref nq5, .ref nq6, .int (-1), .ref nq7, .int 0, .int 0, .int 0, .int 0, .int 0, .int 0, .ref nq8, .ref nq9, .ref nq10, .ref nq11, .ref nq12, .ref nq13, .ref nq14, .int 0, .int 0, .ref nq15, .ref nq16, .int 0, .int 0, .int 0, .ref nq17, .ref nq18, .ref nq19, .ref nq20])), (nq1, .inl (cy 0, 3567, .inl (upd (fun _ => 0) 6 5))), (nq2, .inl (cy 0, 3567, .inl (fun _ => 0))), (nq3, .inl (cy 0, 3567, .inl (fun _ => 0))), (nq4, .inl (cy 0, 7, .inl (fun _ => 0))), (nq5, .inl (cy 0, 8, .inl (upd (upd (upd (upd (upd (upd (upd (upd (fun _ => 0) 0 0) 1 1) 2 1) 3 1) 4 0) 5 (-1)) 6 (-1)) 7 (-1)))), (nq6, .inl (cy 0, 8, .inl (upd (upd (upd (upd (upd (upd (upd (upd (fun _ => 0) 0 (-1)) 1 (-1)) 2 0) 3 1) 4 1) 5 1) 6 0) 7 (-1)))), (nq7, .inl (cy 6, 3, .inr (.inr (.inr (.inr (va_up (va_up (va_up (fun _ => none) 0 (some (sk 4))) 1 (some (sk 5))) 2 (some (sk 6)))))))), (nq8, .inl (cy 0, 49, .inl (fun _ => 0))), (nq9, .inl (cy 0, 5, .inl (fun _ => 0))), (nq10, .inl (cy 0, 49, .inl (fun _ => 0))), (nq11, .inl (cy 1, 1536, .inl (fun _ => 0))), (nq12, .inl (cy 0, 192, .inl (fun _ => 0))), (nq13, .inl (cy 0, 7, .inl (fun _ => 0))), (nq14, .inl (cy 0, 7, .inl (fun _ => 0))), (nq15, .inl (cy 0, 8, .inl (fun _ => 0))), (nq16, .inl (cy 0, 30, .inl (fun _ => 0))), (nq17, .inl (cy 0, 4, .inl (fun _ => 0))), (nq18, .inl (cy 0, 4, .inl (fun _ => 0))), (nq19, .inl (cy 0, 96, .inl (fun _ => 0))), (nq20, .inl (cy 0, 24, .inl (fun _ => 0)))] H := hP
  refine lv_aload_n hx hb dX12_init_262 rfl (lv_at hl 0 rfl) ?_
  refine va_get (D := G) (ci := 12) (v := .ref nq1) (C := RX12) (T := TX12) (N := 33) hx hb hts inB12 hown hE.1 hP 0 rfl rfl 0 (by decide) (hts _ m_1323) (fun _ h9 => h9) rfl dX12_init_263 ?_
  refine lv_bipush (v := 7) hx hb dX12_init_266 (by decide) ?_
  refine lv_bipush (v := 9) hx hb dX12_init_268 (by decide) ?_
  refine va_iast hx hb hE.1 hP hD hS 1 0 rfl rfl (vinL (by decide)) dX12_init_270 (fun H locs hP hD hS => ?_)
  have hP : va_P G classes [(h0, .inr (12, [.ref nq1, .ref nq2, .ref nq3, .int 0, .ref nq4, .ref nq5, .ref nq6, .int (-1), .ref nq7, .int 0, .int 0, .int 0, .int 0, .int 0, .int 0, .ref nq8, .ref nq9, .ref nq10, .ref nq11, .ref nq12, .ref nq13, .ref nq14, .int 0, .int 0, .ref nq15, .ref nq16, .int 0, .int 0, .int 0, .ref nq17, .ref nq18, .ref nq19, .ref nq20])), (nq1, .inl (cy 0, 3567, .inl (upd (upd (fun _ => 0) 6 5) 7 9))), (nq2, .inl (cy 0, 3567, .inl (fun _ => 0))), (nq3, .inl (cy 0, 3567, .inl (fun _ => 0))), (nq4, .inl (cy 0, 7, .inl (fun _ => 0))), (nq5, .inl (cy 0, 8, .inl (upd (upd (upd (upd (upd (upd (upd (upd (fun _ => 0) 0 0) 1 1) 2 1) 3 1) 4 0) 5 (-1)) 6 (-1)) 7 (-1)))), (nq6, .inl (cy 0, 8, .inl (upd (upd (upd (upd (upd (upd (upd (upd (fun _ => 0) 0 (-1)) 1 (-1)) 2 0) 3 1) 4 1) 5 1) 6 0) 7 (-1)))), (nq7, .inl (cy 6, 3, .inr (.inr (.inr (.inr (va_up (va_up (va_up (fun _ => none) 0 (some (sk 4))) 1 (some (sk 5))) 2 (some (sk 6)))))))), (nq8, .inl (cy 0, 49, .inl (fun _ => 0))), (nq9, .inl (cy 0, 5, .inl (fun _ => 0))), (nq10, .inl (cy 0, 49, .inl (fun _ => 0))), (nq11, .inl (cy 1, 1536, .inl (fun _ => 0))), (nq12, .inl (cy 0, 192, .inl (fun _ => 0))), (nq13, .inl (cy 0, 7, .inl (fun _ => 0))), (nq14, .inl (cy 0, 7, .inl (fun _ => 0))), (nq15, .inl (cy 0, 8, .inl (fun _ => 0))), (nq16, .inl (cy 0, 30, .inl (fun _ => 0))), (nq17, .inl (cy 0, 4, .inl (fun _ => 0))), (nq18, .inl (cy 0, 4, .inl (fun _ => 0))), (nq19, .inl (cy 0, 96, .inl (fun _ => 0))), (nq20, .inl (cy 0, 24, .inl (fun _ => 0)))] H := hP
  refine lv_iconst (v := 0) hx hb dX12_init_271 (by decide) ?_
  refine lv_istore_n (lv' := [(1, .int 0), (0, .ref h0)]) hx hb dX12_init_272 rfl hl (by decide) rfl (fun ls hl => ?_)
  refine lv_iload_n hx hb dX12_init_273 rfl (lv_at hl 0 rfl) ?_
  refine lv_iconst (v := 5) hx hb dX12_init_274 (by decide) ?_
  refine lv_icmp_ge (tgt := 295) hx hb dX12_init_275 (by decide) (fun h9 => absurd h9 (by decide)) (fun _ => ?_)
  refine lv_aload_n hx hb dX12_init_278 rfl (lv_at hl 1 rfl) ?_
  refine va_get (D := G) (ci := 12) (v := .ref nq1) (C := RX12) (T := TX12) (N := 33) hx hb hts inB12 hown hE.1 hP 0 rfl rfl 0 (by decide) (hts _ m_1323) (fun _ h9 => h9) rfl dX12_init_279 ?_
  refine lv_bipush (v := 9) hx hb dX12_init_282 (by decide) ?_
  refine lv_iload_n hx hb dX12_init_284 rfl (lv_at hl 0 rfl) ?_
  refine lv_iadd hx hb dX12_init_285 ?_
  refine tp (v := 9) (by decide) ?_
  refine lv_bipush (v := 50) hx hb dX12_init_286 (by decide) ?_
  refine va_iast hx hb hE.1 hP hD hS 1 0 rfl rfl (vinL (by decide)) dX12_init_288 (fun H locs hP hD hS => ?_)
  have hP : va_P G classes [(h0, .inr (12, [.ref nq1, .ref nq2, .ref nq3, .int 0, .ref nq4, .ref nq5, .ref nq6, .int (-1), .ref nq7, .int 0, .int 0, .int 0, .int 0, .int 0, .int 0, .ref nq8, .ref nq9, .ref nq10, .ref nq11, .ref nq12, .ref nq13, .ref nq14, .int 0, .int 0, .ref nq15, .ref nq16, .int 0, .int 0, .int 0, .ref nq17, .ref nq18, .ref nq19, .ref nq20])), (nq1, .inl (cy 0, 3567, .inl (upd (upd (upd (fun _ => 0) 6 5) 7 9) 9 50))), (nq2, .inl (cy 0, 3567, .inl (fun _ => 0))), (nq3, .inl (cy 0, 3567, .inl (fun _ => 0))), (nq4, .inl (cy 0, 7, .inl (fun _ => 0))), (nq5, .inl (cy 0, 8, .inl (upd (upd (upd (upd (upd (upd (upd (upd (fun _ => 0) 0 0) 1 1) 2 1) 3 1) 4 0) 5 (-1)) 6 (-1)) 7 (-1)))), (nq6, .inl (cy 0, 8, .inl (upd (upd (upd (upd (upd (upd (upd (upd (fun _ => 0) 0 (-1)) 1 (-1)) 2 0) 3 1) 4 1) 5 1) 6 0) 7 (-1)))), (nq7, .inl (cy 6, 3, .inr (.inr (.inr (.inr (va_up (va_up (va_up (fun _ => none) 0 (some (sk 4))) 1 (some (sk 5))) 2 (some (sk 6)))))))), (nq8, .inl (cy 0, 49, .inl (fun _ => 0))), (nq9, .inl (cy 0, 5, .inl (fun _ => 0))), (nq10, .inl (cy 0, 49, .inl (fun _ => 0))), (nq11, .inl (cy 1, 1536, .inl (fun _ => 0))), (nq12, .inl (cy 0, 192, .inl (fun _ => 0))), (nq13, .inl (cy 0, 7, .inl (fun _ => 0))), (nq14, .inl (cy 0, 7, .inl (fun _ => 0))), (nq15, .inl (cy 0, 8, .inl (fun _ => 0))), (nq16, .inl (cy 0, 30, .inl (fun _ => 0))), (nq17, .inl (cy 0, 4, .inl (fun _ => 0))), (nq18, .inl (cy 0, 4, .inl (fun _ => 0))), (nq19, .inl (cy 0, 96, .inl (fun _ => 0))), (nq20, .inl (cy 0, 24, .inl (fun _ => 0)))] H := hP
  refine lv_iinc (v := 1) (lv' := [(1, .int 1), (0, .ref h0)]) hx hb dX12_init_289 hl (k := 0) rfl (by decide) (by decide) rfl (fun ls hl => ?_)
  refine lv_goto (tgt := 273) hx hb dX12_init_292 (by decide) ?_
  refine lv_iload_n hx hb dX12_init_273 rfl (lv_at hl 0 rfl) ?_
  refine lv_iconst (v := 5) hx hb dX12_init_274 (by decide) ?_
  refine lv_icmp_ge (tgt := 295) hx hb dX12_init_275 (by decide) (fun h9 => absurd h9 (by decide)) (fun _ => ?_)
  refine lv_aload_n hx hb dX12_init_278 rfl (lv_at hl 1 rfl) ?_
  refine va_get (D := G) (ci := 12) (v := .ref nq1) (C := RX12) (T := TX12) (N := 33) hx hb hts inB12 hown hE.1 hP 0 rfl rfl 0 (by decide) (hts _ m_1323) (fun _ h9 => h9) rfl dX12_init_279 ?_
  refine lv_bipush (v := 9) hx hb dX12_init_282 (by decide) ?_
  refine lv_iload_n hx hb dX12_init_284 rfl (lv_at hl 0 rfl) ?_
  refine lv_iadd hx hb dX12_init_285 ?_
  refine tp (v := 10) (by decide) ?_
  refine lv_bipush (v := 50) hx hb dX12_init_286 (by decide) ?_
  refine va_iast hx hb hE.1 hP hD hS 1 0 rfl rfl (vinL (by decide)) dX12_init_288 (fun H locs hP hD hS => ?_)
  have hP : va_P G classes [(h0, .inr (12, [.ref nq1, .ref nq2, .ref nq3, .int 0, .ref nq4, .ref nq5, .ref nq6, .int (-1), .ref nq7, .int 0, .int 0, .int 0, .int 0, .int 0, .int 0, .ref nq8, .ref nq9, .ref nq10, .ref nq11, .ref nq12, .ref nq13, .ref nq14, .int 0, .int 0, .ref nq15, .ref nq16, .int 0, .int 0, .int 0, .ref nq17, .ref nq18, .ref nq19, .ref nq20])), (nq1, .inl (cy 0, 3567, .inl (upd (upd (upd (upd (fun _ => 0) 6 5) 7 9) 9 50) 10 50))), (nq2, .inl (cy 0, 3567, .inl (fun _ => 0))), (nq3, .inl (cy 0, 3567, .inl (fun _ => 0))), (nq4, .inl (cy 0, 7, .inl (fun _ => 0))), (nq5, .inl (cy 0, 8, .inl (upd (upd (upd (upd (upd (upd (upd (upd (fun _ => 0) 0 0) 1 1) 2 1) 3 1) 4 0) 5 (-1)) 6 (-1)) 7 (-1)))), (nq6, .inl (cy 0, 8, .inl (upd (upd (upd (upd (upd (upd (upd (upd (fun _ => 0) 0 (-1)) 1 (-1)) 2 0) 3 1) 4 1) 5 1) 6 0) 7 (-1)))), (nq7, .inl (cy 6, 3, .inr (.inr (.inr (.inr (va_up (va_up (va_up (fun _ => none) 0 (some (sk 4))) 1 (some (sk 5))) 2 (some (sk 6)))))))), (nq8, .inl (cy 0, 49, .inl (fun _ => 0))), (nq9, .inl (cy 0, 5, .inl (fun _ => 0))), (nq10, .inl (cy 0, 49, .inl (fun _ => 0))), (nq11, .inl (cy 1, 1536, .inl (fun _ => 0))), (nq12, .inl (cy 0, 192, .inl (fun _ => 0))), (nq13, .inl (cy 0, 7, .inl (fun _ => 0))), (nq14, .inl (cy 0, 7, .inl (fun _ => 0))), (nq15, .inl (cy 0, 8, .inl (fun _ => 0))), (nq16, .inl (cy 0, 30, .inl (fun _ => 0))), (nq17, .inl (cy 0, 4, .inl (fun _ => 0))), (nq18, .inl (cy 0, 4, .inl (fun _ => 0))), (nq19, .inl (cy 0, 96, .inl (fun _ => 0))), (nq20, .inl (cy 0, 24, .inl (fun _ => 0)))] H := hP
  refine lv_iinc (v := 2) (lv' := [(1, .int 2), (0, .ref h0)]) hx hb dX12_init_289 hl (k := 0) rfl (by decide) (by decide) rfl (fun ls hl => ?_)
  refine lv_goto (tgt := 273) hx hb dX12_init_292 (by decide) ?_
  refine lv_iload_n hx hb dX12_init_273 rfl (lv_at hl 0 rfl) ?_
  refine lv_iconst (v := 5) hx hb dX12_init_274 (by decide) ?_
  refine lv_icmp_ge (tgt := 295) hx hb dX12_init_275 (by decide) (fun h9 => absurd h9 (by decide)) (fun _ => ?_)
  refine lv_aload_n hx hb dX12_init_278 rfl (lv_at hl 1 rfl) ?_
  refine va_get (D := G) (ci := 12) (v := .ref nq1) (C := RX12) (T := TX12) (N := 33) hx hb hts inB12 hown hE.1 hP 0 rfl rfl 0 (by decide) (hts _ m_1323) (fun _ h9 => h9) rfl dX12_init_279 ?_
  refine lv_bipush (v := 9) hx hb dX12_init_282 (by decide) ?_
  refine lv_iload_n hx hb dX12_init_284 rfl (lv_at hl 0 rfl) ?_
  refine lv_iadd hx hb dX12_init_285 ?_
  refine tp (v := 11) (by decide) ?_
  refine lv_bipush (v := 50) hx hb dX12_init_286 (by decide) ?_
  refine va_iast hx hb hE.1 hP hD hS 1 0 rfl rfl (vinL (by decide)) dX12_init_288 (fun H locs hP hD hS => ?_)
  have hP : va_P G classes [(h0, .inr (12, [.ref nq1, .ref nq2, .ref nq3, .int 0, .ref nq4, .ref nq5, .ref nq6, .int (-1), .ref nq7, .int 0, .int 0, .int 0, .int 0, .int 0, .int 0, .ref nq8, .ref nq9, .ref nq10, .ref nq11, .ref nq12, .ref nq13, .ref nq14, .int 0, .int 0, .ref nq15, .ref nq16, .int 0, .int 0, .int 0, .ref nq17, .ref nq18, .ref nq19, .ref nq20])), (nq1, .inl (cy 0, 3567, .inl (upd (upd (upd (upd (upd (fun _ => 0) 6 5) 7 9) 9 50) 10 50) 11 50))), (nq2, .inl (cy 0, 3567, .inl (fun _ => 0))), (nq3, .inl (cy 0, 3567, .inl (fun _ => 0))), (nq4, .inl (cy 0, 7, .inl (fun _ => 0))), (nq5, .inl (cy 0, 8, .inl (upd (upd (upd (upd (upd (upd (upd (upd (fun _ => 0) 0 0) 1 1) 2 1) 3 1) 4 0) 5 (-1)) 6 (-1)) 7 (-1)))), (nq6, .inl (cy 0, 8, .inl (upd (upd (upd (upd (upd (upd (upd (upd (fun _ => 0) 0 (-1)) 1 (-1)) 2 0) 3 1) 4 1) 5 1) 6 0) 7 (-1)))), (nq7, .inl (cy 6, 3, .inr (.inr (.inr (.inr (va_up (va_up (va_up (fun _ => none) 0 (some (sk 4))) 1 (some (sk 5))) 2 (some (sk 6)))))))), (nq8, .inl (cy 0, 49, .inl (fun _ => 0))), (nq9, .inl (cy 0, 5, .inl (fun _ => 0))), (nq10, .inl (cy 0, 49, .inl (fun _ => 0))), (nq11, .inl (cy 1, 1536, .inl (fun _ => 0))), (nq12, .inl (cy 0, 192, .inl (fun _ => 0))), (nq13, .inl (cy 0, 7, .inl (fun _ => 0))), (nq14, .inl (cy 0, 7, .inl (fun _ => 0))), (nq15, .inl (cy 0, 8, .inl (fun _ => 0))), (nq16, .inl (cy 0, 30, .inl (fun _ => 0))), (nq17, .inl (cy 0, 4, .inl (fun _ => 0))), (nq18, .inl (cy 0, 4, .inl (fun _ => 0))), (nq19, .inl (cy 0, 96, .inl (fun _ => 0))), (nq20, .inl (cy 0, 24, .inl (fun _ => 0)))] H := hP
  refine lv_iinc (v := 3) (lv' := [(1, .int 3), (0, .ref h0)]) hx hb dX12_init_289 hl (k := 0) rfl (by decide) (by decide) rfl (fun ls hl => ?_)
  refine lv_goto (tgt := 273) hx hb dX12_init_292 (by decide) ?_
  refine lv_iload_n hx hb dX12_init_273 rfl (lv_at hl 0 rfl) ?_
  refine lv_iconst (v := 5) hx hb dX12_init_274 (by decide) ?_
  refine lv_icmp_ge (tgt := 295) hx hb dX12_init_275 (by decide) (fun h9 => absurd h9 (by decide)) (fun _ => ?_)
  refine lv_aload_n hx hb dX12_init_278 rfl (lv_at hl 1 rfl) ?_
  refine va_get (D := G) (ci := 12) (v := .ref nq1) (C := RX12) (T := TX12) (N := 33) hx hb hts inB12 hown hE.1 hP 0 rfl rfl 0 (by decide) (hts _ m_1323) (fun _ h9 => h9) rfl dX12_init_279 ?_
  refine lv_bipush (v := 9) hx hb dX12_init_282 (by decide) ?_
  refine lv_iload_n hx hb dX12_init_284 rfl (lv_at hl 0 rfl) ?_
  refine lv_iadd hx hb dX12_init_285 ?_
  refine tp (v := 12) (by decide) ?_
  refine lv_bipush (v := 50) hx hb dX12_init_286 (by decide) ?_
  refine va_iast hx hb hE.1 hP hD hS 1 0 rfl rfl (vinL (by decide)) dX12_init_288 (fun H locs hP hD hS => ?_)
  have hP : va_P G classes [(h0, .inr (12, [.ref nq1, .ref nq2, .ref nq3, .int 0, .ref nq4, .ref nq5, .ref nq6, .int (-1), .ref nq7, .int 0, .int 0, .int 0, .int 0, .int 0, .int 0, .ref nq8, .ref nq9, .ref nq10, .ref nq11, .ref nq12, .ref nq13, .ref nq14, .int 0, .int 0, .ref nq15, .ref nq16, .int 0, .int 0, .int 0, .ref nq17, .ref nq18, .ref nq19, .ref nq20])), (nq1, .inl (cy 0, 3567, .inl (upd (upd (upd (upd (upd (upd (fun _ => 0) 6 5) 7 9) 9 50) 10 50) 11 50) 12 50))), (nq2, .inl (cy 0, 3567, .inl (fun _ => 0))), (nq3, .inl (cy 0, 3567, .inl (fun _ => 0))), (nq4, .inl (cy 0, 7, .inl (fun _ => 0))), (nq5, .inl (cy 0, 8, .inl (upd (upd (upd (upd (upd (upd (upd (upd (fun _ => 0) 0 0) 1 1) 2 1) 3 1) 4 0) 5 (-1)) 6 (-1)) 7 (-1)))), (nq6, .inl (cy 0, 8, .inl (upd (upd (upd (upd (upd (upd (upd (upd (fun _ => 0) 0 (-1)) 1 (-1)) 2 0) 3 1) 4 1) 5 1) 6 0) 7 (-1)))), (nq7, .inl (cy 6, 3, .inr (.inr (.inr (.inr (va_up (va_up (va_up (fun _ => none) 0 (some (sk 4))) 1 (some (sk 5))) 2 (some (sk 6)))))))), (nq8, .inl (cy 0, 49, .inl (fun _ => 0))), (nq9, .inl (cy 0, 5, .inl (fun _ => 0))), (nq10, .inl (cy 0, 49, .inl (fun _ => 0))), (nq11, .inl (cy 1, 1536, .inl (fun _ => 0))), (nq12, .inl (cy 0, 192, .inl (fun _ => 0))), (nq13, .inl (cy 0, 7, .inl (fun _ => 0))), (nq14, .inl (cy 0, 7, .inl (fun _ => 0))), (nq15, .inl (cy 0, 8, .inl (fun _ => 0))), (nq16, .inl (cy 0, 30, .inl (fun _ => 0))), (nq17, .inl (cy 0, 4, .inl (fun _ => 0))), (nq18, .inl (cy 0, 4, .inl (fun _ => 0))), (nq19, .inl (cy 0, 96, .inl (fun _ => 0))), (nq20, .inl (cy 0, 24, .inl (fun _ => 0)))] H := hP
  refine lv_iinc (v := 4) (lv' := [(1, .int 4), (0, .ref h0)]) hx hb dX12_init_289 hl (k := 0) rfl (by decide) (by decide) rfl (fun ls hl => ?_)
  refine lv_goto (tgt := 273) hx hb dX12_init_292 (by decide) ?_
  refine lv_iload_n hx hb dX12_init_273 rfl (lv_at hl 0 rfl) ?_
  refine lv_iconst (v := 5) hx hb dX12_init_274 (by decide) ?_
  refine lv_icmp_ge (tgt := 295) hx hb dX12_init_275 (by decide) (fun h9 => absurd h9 (by decide)) (fun _ => ?_)
  refine lv_aload_n hx hb dX12_init_278 rfl (lv_at hl 1 rfl) ?_
  refine va_get (D := G) (ci := 12) (v := .ref nq1) (C := RX12) (T := TX12) (N := 33) hx hb hts inB12 hown hE.1 hP 0 rfl rfl 0 (by decide) (hts _ m_1323) (fun _ h9 => h9) rfl dX12_init_279 ?_
  refine lv_bipush (v := 9) hx hb dX12_init_282 (by decide) ?_
  refine lv_iload_n hx hb dX12_init_284 rfl (lv_at hl 0 rfl) ?_
  refine lv_iadd hx hb dX12_init_285 ?_
  refine tp (v := 13) (by decide) ?_
  refine lv_bipush (v := 50) hx hb dX12_init_286 (by decide) ?_
  refine va_iast hx hb hE.1 hP hD hS 1 0 rfl rfl (vinL (by decide)) dX12_init_288 (fun H locs hP hD hS => ?_)
  have hP : va_P G classes [(h0, .inr (12, [.ref nq1, .ref nq2, .ref nq3, .int 0, .ref nq4, .ref nq5, .ref nq6, .int (-1), .ref nq7, .int 0, .int 0, .int 0, .int 0, .int 0, .int 0, .ref nq8, .ref nq9, .ref nq10, .ref nq11, .ref nq12, .ref nq13, .ref nq14, .int 0, .int 0, .ref nq15, .ref nq16, .int 0, .int 0, .int 0, .ref nq17, .ref nq18, .ref nq19, .ref nq20])), (nq1, .inl (cy 0, 3567, .inl (upd (upd (upd (upd (upd (upd (upd (fun _ => 0) 6 5) 7 9) 9 50) 10 50) 11 50) 12 50) 13 50))), (nq2, .inl (cy 0, 3567, .inl (fun _ => 0))), (nq3, .inl (cy 0, 3567, .inl (fun _ => 0))), (nq4, .inl (cy 0, 7, .inl (fun _ => 0))), (nq5, .inl (cy 0, 8, .inl (upd (upd (upd (upd (upd (upd (upd (upd (fun _ => 0) 0 0) 1 1) 2 1) 3 1) 4 0) 5 (-1)) 6 (-1)) 7 (-1)))), (nq6, .inl (cy 0, 8, .inl (upd (upd (upd (upd (upd (upd (upd (upd (fun _ => 0) 0 (-1)) 1 (-1)) 2 0) 3 1) 4 1) 5 1) 6 0) 7 (-1)))), (nq7, .inl (cy 6, 3, .inr (.inr (.inr (.inr (va_up (va_up (va_up (fun _ => none) 0 (some (sk 4))) 1 (some (sk 5))) 2 (some (sk 6)))))))), (nq8, .inl (cy 0, 49, .inl (fun _ => 0))), (nq9, .inl (cy 0, 5, .inl (fun _ => 0))), (nq10, .inl (cy 0, 49, .inl (fun _ => 0))), (nq11, .inl (cy 1, 1536, .inl (fun _ => 0))), (nq12, .inl (cy 0, 192, .inl (fun _ => 0))), (nq13, .inl (cy 0, 7, .inl (fun _ => 0))), (nq14, .inl (cy 0, 7, .inl (fun _ => 0))), (nq15, .inl (cy 0, 8, .inl (fun _ => 0))), (nq16, .inl (cy 0, 30, .inl (fun _ => 0))), (nq17, .inl (cy 0, 4, .inl (fun _ => 0))), (nq18, .inl (cy 0, 4, .inl (fun _ => 0))), (nq19, .inl (cy 0, 96, .inl (fun _ => 0))), (nq20, .inl (cy 0, 24, .inl (fun _ => 0)))] H := hP
  refine lv_iinc (v := 5) (lv' := [(1, .int 5), (0, .ref h0)]) hx hb dX12_init_289 hl (k := 0) rfl (by decide) (by decide) rfl (fun ls hl => ?_)
  refine lv_goto (tgt := 273) hx hb dX12_init_292 (by decide) ?_
  refine lv_iload_n hx hb dX12_init_273 rfl (lv_at hl 0 rfl) ?_
  refine lv_iconst (v := 5) hx hb dX12_init_274 (by decide) ?_
  refine lv_icmp_ge (tgt := 295) hx hb dX12_init_275 (by decide) (fun _ => ?_) (fun h9 => absurd h9 (by decide))
  have hP9 : va_P G classes [(h0, .inr (12, [.ref nq1, .ref nq2, .ref nq3, .int 0, .ref nq4, .ref nq5, .ref nq6, .int (-1), .ref nq7, .int 0, .int 0, .int 0, .int 0, .int 0, .int 0, .ref nq8, .ref nq9, .ref nq10, .ref nq11, .ref nq12, .ref nq13, .ref nq14, .int 0, .int 0, .ref nq15, .ref nq16, .int 0, .int 0, .int 0, .ref nq17, .ref nq18, .ref nq19, .ref nq20])), (nq1, .inl (cy 0, 3567, .inl (upd (upd (upd (upd (upd (upd (upd (fun _ => 0) 6 5) 7 9) 9 50) 10 50) 11 50) 12 50) 13 50))), (nq2, .inl (cy 0, 3567, .inl (fun _ => 0))), (nq3, .inl (cy 0, 3567, .inl (fun _ => 0))), (nq4, .inl (cy 0, 7, .inl (fun _ => 0))), (nq5, .inl (cy 0, 8, .inl (upd (upd (upd (upd (upd (upd (upd (upd (fun _ => 0) 0 0) 1 1) 2 1) 3 1) 4 0) 5 (-1)) 6 (-1)) 7 (-1)))), (nq6, .inl (cy 0, 8, .inl (upd (upd (upd (upd (upd (upd (upd (upd (fun _ => 0) 0 (-1)) 1 (-1)) 2 0) 3 1) 4 1) 5 1) 6 0) 7 (-1)))), (nq7, .inl (cy 6, 3, .inr (.inr (.inr (.inr (va_up (va_up (va_up (fun _ => none) 0 (some (sk 4))) 1 (some (sk 5))) 2 (some (sk 6)))))))), (nq8, .inl (cy 0, 49, .inl (fun _ => 0))), (nq9, .inl (cy 0, 5, .inl (fun _ => 0))), (nq10, .inl (cy 0, 49, .inl (fun _ => 0))), (nq11, .inl (cy 1, 1536, .inl (fun _ => 0))), (nq12, .inl (cy 0, 192, .inl (fun _ => 0))), (nq13, .inl (cy 0, 7, .inl (fun _ => 0))), (nq14, .inl (cy 0, 7, .inl (fun _ => 0))), (nq15, .inl (cy 0, 8, .inl (fun _ => 0))), (nq16, .inl (cy 0, 30, .inl (fun _ => 0))), (nq17, .inl (cy 0, 4, .inl (fun _ => 0))), (nq18, .inl (cy 0, 4, .inl (fun _ => 0))), (nq19, .inl (cy 0, 96, .inl (fun _ => 0))), (nq20, .inl (cy 0, 24, .inl (fun _ => 0)))] H := hP
  have hD9 : va_D A [(h0, .inr (12, [.ref nq1, .ref nq2, .ref nq3, .int 0, .ref nq4, .ref nq5, .ref nq6, .int (-1), .ref nq7, .int 0, .int 0, .int 0, .int 0, .int 0, .int 0, .ref nq8, .ref nq9, .ref nq10, .ref nq11, .ref nq12, .ref nq13, .ref nq14, .int 0, .int 0, .ref nq15, .ref nq16, .int 0, .int 0, .int 0, .ref nq17, .ref nq18, .ref nq19, .ref nq20])), (nq1, .inl (cy 0, 3567, .inl (upd (upd (upd (upd (upd (upd (upd (fun _ => 0) 6 5) 7 9) 9 50) 10 50) 11 50) 12 50) 13 50))), (nq2, .inl (cy 0, 3567, .inl (fun _ => 0))), (nq3, .inl (cy 0, 3567, .inl (fun _ => 0))), (nq4, .inl (cy 0, 7, .inl (fun _ => 0))), (nq5, .inl (cy 0, 8, .inl (upd (upd (upd (upd (upd (upd (upd (upd (fun _ => 0) 0 0) 1 1) 2 1) 3 1) 4 0) 5 (-1)) 6 (-1)) 7 (-1)))), (nq6, .inl (cy 0, 8, .inl (upd (upd (upd (upd (upd (upd (upd (upd (fun _ => 0) 0 (-1)) 1 (-1)) 2 0) 3 1) 4 1) 5 1) 6 0) 7 (-1)))), (nq7, .inl (cy 6, 3, .inr (.inr (.inr (.inr (va_up (va_up (va_up (fun _ => none) 0 (some (sk 4))) 1 (some (sk 5))) 2 (some (sk 6)))))))), (nq8, .inl (cy 0, 49, .inl (fun _ => 0))), (nq9, .inl (cy 0, 5, .inl (fun _ => 0))), (nq10, .inl (cy 0, 49, .inl (fun _ => 0))), (nq11, .inl (cy 1, 1536, .inl (fun _ => 0))), (nq12, .inl (cy 0, 192, .inl (fun _ => 0))), (nq13, .inl (cy 0, 7, .inl (fun _ => 0))), (nq14, .inl (cy 0, 7, .inl (fun _ => 0))), (nq15, .inl (cy 0, 8, .inl (fun _ => 0))), (nq16, .inl (cy 0, 30, .inl (fun _ => 0))), (nq17, .inl (cy 0, 4, .inl (fun _ => 0))), (nq18, .inl (cy 0, 4, .inl (fun _ => 0))), (nq19, .inl (cy 0, 96, .inl (fun _ => 0))), (nq20, .inl (cy 0, 24, .inl (fun _ => 0)))] := hD
  refine W.widen (k := 20) (n := 12738) (by first | exact Nat.le_of_ble_eq_true rfl | omega) (by first | exact Nat.le_of_ble_eq_true rfl | omega) ?_
  exact W.vret hx hb hr (fun t ht hW => ⟨⟨(), rfl, trivial, by dsimp only; rw [ht]; exact ⟨nq1, nq2, nq3, nq4, nq5, nq6, nq7, nq8, nq9, nq10, nq11, nq12, nq13, nq14, nq15, nq16, nq17, nq18, nq19, nq20, (va_up (va_up (va_up (fun _ => none) 0 (some (sk 4))) 1 (some (sk 5))) 2 (some (sk 6))), rfl, rfl, rfl, hP9, hD9⟩⟩, hS.F ht⟩) hS.2.2 dX12_init_295
end
section
/-! the world that the two constructors leave, as class and model are held-/
def psn (c : rf) : Nat := match c.1 with
  | 0 => ((([[191], [], [], []] : List (List Nat)).getD c.2.1 []).getD (c.2.2 - ([0, 0, 0, 0] : List Nat).getD c.2.1 0) 999)
  | 1 => ((([[23, 26, 29], [81, 84, 87], [139, 142, 145], [186]] : List (List Nat)).getD c.2.1 []).getD (c.2.2 - ([0, 0, 0, 0] : List Nat).getD c.2.1 0) 999)
  | 2 => ((([[18], [76], [134], []] : List (List Nat)).getD c.2.1 []).getD (c.2.2 - ([0, 0, 0, 0] : List Nat).getD c.2.1 0) 999)
  | 3 => ((([[32], [90], [148], []] : List (List Nat)).getD c.2.1 []).getD (c.2.2 - ([0, 0, 0, 0] : List Nat).getD c.2.1 0) 999)
  | 4 => ((([[185], [], [], []] : List (List Nat)).getD c.2.1 []).getD (c.2.2 - ([0, 0, 0, 0] : List Nat).getD c.2.1 0) 999)
  | 5 => ((([[40, 42, 36, 38], [98, 100, 94, 96], [156, 158, 152, 154], [197, 199, 189]] : List (List Nat)).getD c.2.1 []).getD (c.2.2 - ([0, 0, 0, 4] : List Nat).getD c.2.1 0) 999)
  | 6 => ((([[6, 4, 2, 0], [], [], []] : List (List Nat)).getD c.2.1 []).getD (c.2.2 - ([0, 0, 0, 0] : List Nat).getD c.2.1 0) 999)
  | 7 => ((([[12], [70], [128], []] : List (List Nat)).getD c.2.1 []).getD (c.2.2 - ([0, 0, 0, 0] : List Nat).getD c.2.1 0) 999)
  | 8 => ((([[196], [], [], []] : List (List Nat)).getD c.2.1 []).getD (c.2.2 - ([0, 0, 0, 0] : List Nat).getD c.2.1 0) 999)
  | 9 => ((([[45, 48, 51, 54, 57, 60, 63, 66], [103, 106, 109, 112, 115, 118, 121, 124], [161, 164, 167, 170, 173, 176, 179, 182], []] : List (List Nat)).getD c.2.1 []).getD (c.2.2 - ([0, 0, 0, 0] : List Nat).getD c.2.1 0) 999)
  | 10 => ((([[11], [69], [127], []] : List (List Nat)).getD c.2.1 []).getD (c.2.2 - ([0, 0, 0, 0] : List Nat).getD c.2.1 0) 999)
  | 11 => ((([[10], [], [], []] : List (List Nat)).getD c.2.1 []).getD (c.2.2 - ([0, 0, 0, 0] : List Nat).getD c.2.1 0) 999)
  | 20 => ((([[192], [], [], []] : List (List Nat)).getD c.2.1 []).getD (c.2.2 - ([0, 0, 0, 0] : List Nat).getD c.2.1 0) 999)
  | 21 => ((([[193], [], [], []] : List (List Nat)).getD c.2.1 []).getD (c.2.2 - ([0, 0, 0, 0] : List Nat).getD c.2.1 0) 999)
  | 22 => ((([[194], [], [], []] : List (List Nat)).getD c.2.1 []).getD (c.2.2 - ([0, 0, 0, 0] : List Nat).getD c.2.1 0) 999)
  | 23 => ((([[195], [], [], []] : List (List Nat)).getD c.2.1 []).getD (c.2.2 - ([0, 0, 0, 0] : List Nat).getD c.2.1 0) 999)
  | 24 => ((([[24, 27, 30], [82, 85, 88], [140, 143, 146], [187]] : List (List Nat)).getD c.2.1 []).getD (c.2.2 - ([0, 0, 0, 0] : List Nat).getD c.2.1 0) 999)
  | 25 => ((([[25, 28, 31], [83, 86, 89], [141, 144, 147], [188]] : List (List Nat)).getD c.2.1 []).getD (c.2.2 - ([0, 0, 0, 0] : List Nat).getD c.2.1 0) 999)
  | 26 => ((([[19], [77], [135], []] : List (List Nat)).getD c.2.1 []).getD (c.2.2 - ([0, 0, 0, 0] : List Nat).getD c.2.1 0) 999)
  | 27 => ((([[20], [78], [136], []] : List (List Nat)).getD c.2.1 []).getD (c.2.2 - ([0, 0, 0, 0] : List Nat).getD c.2.1 0) 999)
  | 28 => ((([[21], [79], [137], []] : List (List Nat)).getD c.2.1 []).getD (c.2.2 - ([0, 0, 0, 0] : List Nat).getD c.2.1 0) 999)
  | 29 => ((([[22], [80], [138], []] : List (List Nat)).getD c.2.1 []).getD (c.2.2 - ([0, 0, 0, 0] : List Nat).getD c.2.1 0) 999)
  | 30 => ((([[33], [91], [149], []] : List (List Nat)).getD c.2.1 []).getD (c.2.2 - ([0, 0, 0, 0] : List Nat).getD c.2.1 0) 999)
  | 31 => ((([[34], [92], [150], []] : List (List Nat)).getD c.2.1 []).getD (c.2.2 - ([0, 0, 0, 0] : List Nat).getD c.2.1 0) 999)
  | 32 => ((([[35], [93], [151], []] : List (List Nat)).getD c.2.1 []).getD (c.2.2 - ([0, 0, 0, 0] : List Nat).getD c.2.1 0) 999)
  | 33 => ((([[41, 43, 37, 39], [99, 101, 95, 97], [157, 159, 153, 155], [198, 200, 190]] : List (List Nat)).getD c.2.1 []).getD (c.2.2 - ([0, 0, 0, 4] : List Nat).getD c.2.1 0) 999)
  | 34 => ((([[7, 5, 3, 1], [], [], []] : List (List Nat)).getD c.2.1 []).getD (c.2.2 - ([0, 0, 0, 0] : List Nat).getD c.2.1 0) 999)
  | 35 => ((([[13], [71], [129], []] : List (List Nat)).getD c.2.1 []).getD (c.2.2 - ([0, 0, 0, 0] : List Nat).getD c.2.1 0) 999)
  | 36 => ((([[14], [72], [130], []] : List (List Nat)).getD c.2.1 []).getD (c.2.2 - ([0, 0, 0, 0] : List Nat).getD c.2.1 0) 999)
  | 37 => ((([[15], [73], [131], []] : List (List Nat)).getD c.2.1 []).getD (c.2.2 - ([0, 0, 0, 0] : List Nat).getD c.2.1 0) 999)
  | 38 => ((([[16], [74], [132], []] : List (List Nat)).getD c.2.1 []).getD (c.2.2 - ([0, 0, 0, 0] : List Nat).getD c.2.1 0) 999)
  | 39 => ((([[17], [75], [133], []] : List (List Nat)).getD c.2.1 []).getD (c.2.2 - ([0, 0, 0, 0] : List Nat).getD c.2.1 0) 999)
  | 40 => ((([[46, 49, 52, 55, 58, 61, 64, 67], [104, 107, 110, 113, 116, 119, 122, 125], [162, 165, 168, 171, 174, 177, 180, 183], []] : List (List Nat)).getD c.2.1 []).getD (c.2.2 - ([0, 0, 0, 0] : List Nat).getD c.2.1 0) 999)
  | 41 => ((([[47, 50, 53, 56, 59, 62, 65, 68], [105, 108, 111, 114, 117, 120, 123, 126], [163, 166, 169, 172, 175, 178, 181, 184], []] : List (List Nat)).getD c.2.1 []).getD (c.2.2 - ([0, 0, 0, 0] : List Nat).getD c.2.1 0) 999)
  | 42 => ((([[44], [102], [160], []] : List (List Nat)).getD c.2.1 []).getD (c.2.2 - ([0, 0, 0, 0] : List Nat).getD c.2.1 0) 999)
  | 43 => ((([[9], [], [], []] : List (List Nat)).getD c.2.1 []).getD (c.2.2 - ([0, 0, 0, 0] : List Nat).getD c.2.1 0) 999)
  | 44 => ((([[8], [], [], []] : List (List Nat)).getD c.2.1 []).getD (c.2.2 - ([0, 0, 0, 0] : List Nat).getD c.2.1 0) 999)
  | 12 => ((([[201], [], [], []] : List (List Nat)).getD c.2.1 []).getD (c.2.2 - ([0, 0, 0, 0] : List Nat).getD c.2.1 0) 999)
  | 50 => ((([[202], [], [], []] : List (List Nat)).getD c.2.1 []).getD (c.2.2 - ([0, 0, 0, 0] : List Nat).getD c.2.1 0) 999)
  | 51 => ((([[203], [], [], []] : List (List Nat)).getD c.2.1 []).getD (c.2.2 - ([0, 0, 0, 0] : List Nat).getD c.2.1 0) 999)
  | 52 => ((([[204], [], [], []] : List (List Nat)).getD c.2.1 []).getD (c.2.2 - ([0, 0, 0, 0] : List Nat).getD c.2.1 0) 999)
  | 53 => ((([[205], [], [], []] : List (List Nat)).getD c.2.1 []).getD (c.2.2 - ([0, 0, 0, 0] : List Nat).getD c.2.1 0) 999)
  | 54 => ((([[206], [], [], []] : List (List Nat)).getD c.2.1 []).getD (c.2.2 - ([0, 0, 0, 0] : List Nat).getD c.2.1 0) 999)
  | 55 => ((([[207], [], [], []] : List (List Nat)).getD c.2.1 []).getD (c.2.2 - ([0, 0, 0, 0] : List Nat).getD c.2.1 0) 999)
  | 56 => ((([[208], [], [], []] : List (List Nat)).getD c.2.1 []).getD (c.2.2 - ([0, 0, 0, 0] : List Nat).getD c.2.1 0) 999)
  | 57 => ((([[209], [], [], []] : List (List Nat)).getD c.2.1 []).getD (c.2.2 - ([0, 0, 0, 0] : List Nat).getD c.2.1 0) 999)
  | 58 => ((([[210], [], [], []] : List (List Nat)).getD c.2.1 []).getD (c.2.2 - ([0, 0, 0, 0] : List Nat).getD c.2.1 0) 999)
  | 59 => ((([[211], [], [], []] : List (List Nat)).getD c.2.1 []).getD (c.2.2 - ([0, 0, 0, 0] : List Nat).getD c.2.1 0) 999)
  | 60 => ((([[212], [], [], []] : List (List Nat)).getD c.2.1 []).getD (c.2.2 - ([0, 0, 0, 0] : List Nat).getD c.2.1 0) 999)
  | 61 => ((([[213], [], [], []] : List (List Nat)).getD c.2.1 []).getD (c.2.2 - ([0, 0, 0, 0] : List Nat).getD c.2.1 0) 999)
  | 62 => ((([[214], [], [], []] : List (List Nat)).getD c.2.1 []).getD (c.2.2 - ([0, 0, 0, 0] : List Nat).getD c.2.1 0) 999)
  | 63 => ((([[215], [], [], []] : List (List Nat)).getD c.2.1 []).getD (c.2.2 - ([0, 0, 0, 0] : List Nat).getD c.2.1 0) 999)
  | 64 => ((([[216], [], [], []] : List (List Nat)).getD c.2.1 []).getD (c.2.2 - ([0, 0, 0, 0] : List Nat).getD c.2.1 0) 999)
  | 65 => ((([[217], [], [], []] : List (List Nat)).getD c.2.1 []).getD (c.2.2 - ([0, 0, 0, 0] : List Nat).getD c.2.1 0) 999)
  | 66 => ((([[218], [], [], []] : List (List Nat)).getD c.2.1 []).getD (c.2.2 - ([0, 0, 0, 0] : List Nat).getD c.2.1 0) 999)
  | 67 => ((([[219], [], [], []] : List (List Nat)).getD c.2.1 []).getD (c.2.2 - ([0, 0, 0, 0] : List Nat).getD c.2.1 0) 999)
  | 68 => ((([[220], [], [], []] : List (List Nat)).getD c.2.1 []).getD (c.2.2 - ([0, 0, 0, 0] : List Nat).getD c.2.1 0) 999)
  | 69 => ((([[221], [], [], []] : List (List Nat)).getD c.2.1 []).getD (c.2.2 - ([0, 0, 0, 0] : List Nat).getD c.2.1 0) 999)
  | _ => 999
theorem psn_inj : ∀ c ∈ EE, ∀ c2 ∈ EE, psn c = psn c2 → c = c2 := by
  have h : EE.map psn = ((CC ++ DD).map psn) := rfl
  have hn : (EE.map psn).Nodup := by decide +kernel
  intro c h1 c2 h2 e
  obtain ⟨i, hi⟩ := List.mem_iff_getElem?.mp h1
  obtain ⟨j, hj⟩ := List.mem_iff_getElem?.mp h2
  have li : i < (EE.map psn).length := by rw [List.length_map]; exact (List.getElem?_eq_some_iff.mp hi).1
  have e1 : (EE.map psn)[i]? = some (psn c) := by rw [List.getElem?_map, hi]; rfl
  have e2 : (EE.map psn)[j]? = some (psn c2) := by rw [List.getElem?_map, hj]; rfl
  have e3 : i = j := (List.getElem?_inj li hn).mp (e1.trans (by rw [e, e2]))
  rw [e3, hj] at hi
  exact (Option.some.inj hi).symm
theorem at_refs {G : va_G} {cl : List vw_C} {a ci n : Nat} {g g' : Nat → Option Nat} {H : Heap} (h : va_at G cl (a, .inl (ci, n, .inr (.inr (.inr (.inr g))))) H) (hg : ∀ j, j < n → g j = g' j) : va_at G cl (a, .inl (ci, n, .inr (.inr (.inr (.inr g'))))) H := by
  have e : vp_cell ci (n, .inr (.inr (.inr (.inr g)))) = vp_cell ci (n, .inr (.inr (.inr (.inr g')))) := by
    show arrV ci n (fun j => va_rf (g j)) = arrV ci n (fun j => va_rf (g' j))
    unfold arrV
    congr 2
    funext j
    show va_rf (g j.val) = va_rf (g' j.val)
    rw [hg j.val j.isLt]
  show H[a]? = some (vp_cell ci (n, .inr (.inr (.inr (.inr g')))))
  rw [← e]; exact h
theorem WO_of {ws : va_W} {G : va_G} {cy : Nat → ClassId} {ad : rf → Nat} {M : mM} {A : Nat → Prop} {H : Heap} (hP : va_P G classes ws H) (hD : va_D A ws) (hc : ∀ c ∈ EE, ∃ e : va_E, ws[psn c]? = some (ad c, e) ∧ (va_at G classes (ad c, e) H → va_at G classes (ad c, ent cy ad M c) H)) : WO EE G cy ad A M H := by
  have key : ∀ (k : Nat) (q : Nat × va_E), (WS EE cy ad M)[k]? = some q → ∃ c, EE[k]? = some c ∧ c ∈ EE ∧ q = (ad c, ent cy ad M c) := fun k q hk => by
    unfold WS at hk
    rw [List.getElem?_map] at hk
    cases h : EE[k]? with
    | none => rw [h] at hk; cases hk
    | some c =>
      rw [h] at hk
      exact ⟨c, rfl, List.mem_of_getElem? h, (Option.some.inj hk).symm⟩
  refine ⟨fun k q hk => ?_, fun i j p q hp hq e => ?_, fun k q hk => ?_⟩
  · obtain ⟨c, -, h1, rfl⟩ := key k q hk
    obtain ⟨e, h2, h3⟩ := hc c h1
    exact h3 (hP _ _ h2)
  · obtain ⟨c, k1, h1, rfl⟩ := key i p hp
    obtain ⟨c2, k2, h2, rfl⟩ := key j q hq
    obtain ⟨e1, h3, -⟩ := hc c h1
    obtain ⟨e2, h4, -⟩ := hc c2 h2
    have h5 := psn_inj c h1 c2 h2 (hD.1 _ _ _ _ h3 h4 e)
    rw [h5] at k1
    exact (List.getElem?_inj (List.getElem?_eq_some_iff.mp k1).1 EE_nd).mp (k1.trans k2.symm)
  · obtain ⟨c, -, h1, rfl⟩ := key k q hk
    obtain ⟨e, h2, -⟩ := hc c h1
    have h3 := hD.2 _ _ h2
    exact h3
def Mz0 (fo0 fo1 fo2 fl0 fl1 fl2 : Nat → Int32) : mM := (fun c k => match c.1 with
  | 2 => ([5, 9, 0] : List Int32).getD k 0
  | 4 => if k = 4 then -1 else 0
  | 9 => ([0, 0, 0, 5, 60, 0, 0, 0, 0] : List Int32).getD k 0
  | 35 => (match c.2.1 with | 0 => fo0 k | 1 => fo1 k | _ => fo2 k)
  | 26 => (match c.2.1 with | 0 => fl0 k | 1 => fl1 k | _ => fl2 k)
  | 12 => if k = 7 then -1 else 0
  | 50 => nw0 k
  | 54 => ea0 k
  | 55 => so0 k
  | _ => 0, fun _ => 0)
end
section
def Fa2 (R : Nat × va_E → rf → Prop) : va_W → List rf → Prop
  | [], [] => True
  | q :: l, c :: m => R q c ∧ Fa2 R l m
  | _, _ => False
theorem Fa2_cons {R : Nat × va_E → rf → Prop} {q : Nat × va_E} {c : rf} {l : va_W} {m : List rf} (h : R q c) (h2 : Fa2 R l m) : Fa2 R (q :: l) (c :: m) := ⟨h, h2⟩
theorem Fa2_get {R : Nat × va_E → rf → Prop} : ∀ {l : va_W} {m : List rf} (_ : Fa2 R l m) (i : Nat) (c : rf), m[i]? = some c → ∃ q, l[i]? = some q ∧ R q c
  | [], [], _, i, c, hi => by simp at hi
  | q :: l, d :: m, h, 0, c, hi => ⟨q, rfl, by cases (Option.some.inj hi); exact h.1⟩
  | q :: l, d :: m, h, i + 1, c, hi => Fa2_get (l := l) (m := m) h.2 i c hi
  | [], _ :: _, h, _, _, _ => h.elim
  | _ :: _, [], h, _, _, _ => h.elim
def EEs : List rf := [(6, 0, 3), (34, 0, 3), (6, 0, 2), (34, 0, 2), (6, 0, 1), (34, 0, 1), (6, 0, 0), (34, 0, 0), (44, 0, 0), (43, 0, 0), (11, 0, 0), (10, 0, 0), (7, 0, 0), (35, 0, 0), (36, 0, 0), (37, 0, 0), (38, 0, 0), (39, 0, 0), (2, 0, 0), (26, 0, 0), (27, 0, 0), (28, 0, 0), (29, 0, 0), (1, 0, 0), (24, 0, 0), (25, 0, 0), (1, 0, 1), (24, 0, 1), (25, 0, 1), (1, 0, 2), (24, 0, 2), (25, 0, 2), (3, 0, 0), (30, 0, 0), (31, 0, 0), (32, 0, 0), (5, 0, 2), (33, 0, 2), (5, 0, 3), (33, 0, 3), (5, 0, 0), (33, 0, 0), (5, 0, 1), (33, 0, 1), (42, 0, 0), (9, 0, 0), (40, 0, 0), (41, 0, 0), (9, 0, 1), (40, 0, 1), (41, 0, 1), (9, 0, 2), (40, 0, 2), (41, 0, 2), (9, 0, 3), (40, 0, 3), (41, 0, 3), (9, 0, 4), (40, 0, 4), (41, 0, 4), (9, 0, 5), (40, 0, 5), (41, 0, 5), (9, 0, 6), (40, 0, 6), (41, 0, 6), (9, 0, 7), (40, 0, 7), (41, 0, 7), (10, 1, 0), (7, 1, 0), (35, 1, 0), (36, 1, 0), (37, 1, 0), (38, 1, 0), (39, 1, 0), (2, 1, 0), (26, 1, 0), (27, 1, 0), (28, 1, 0), (29, 1, 0), (1, 1, 0), (24, 1, 0), (25, 1, 0), (1, 1, 1), (24, 1, 1), (25, 1, 1), (1, 1, 2), (24, 1, 2), (25, 1, 2), (3, 1, 0), (30, 1, 0), (31, 1, 0), (32, 1, 0), (5, 1, 2), (33, 1, 2), (5, 1, 3), (33, 1, 3), (5, 1, 0), (33, 1, 0), (5, 1, 1), (33, 1, 1), (42, 1, 0), (9, 1, 0), (40, 1, 0), (41, 1, 0), (9, 1, 1), (40, 1, 1), (41, 1, 1), (9, 1, 2), (40, 1, 2), (41, 1, 2), (9, 1, 3), (40, 1, 3), (41, 1, 3), (9, 1, 4), (40, 1, 4), (41, 1, 4), (9, 1, 5), (40, 1, 5), (41, 1, 5), (9, 1, 6), (40, 1, 6), (41, 1, 6), (9, 1, 7), (40, 1, 7), (41, 1, 7), (10, 2, 0), (7, 2, 0), (35, 2, 0), (36, 2, 0), (37, 2, 0), (38, 2, 0), (39, 2, 0), (2, 2, 0), (26, 2, 0), (27, 2, 0), (28, 2, 0), (29, 2, 0), (1, 2, 0), (24, 2, 0), (25, 2, 0), (1, 2, 1), (24, 2, 1), (25, 2, 1), (1, 2, 2), (24, 2, 2), (25, 2, 2), (3, 2, 0), (30, 2, 0), (31, 2, 0), (32, 2, 0), (5, 2, 2), (33, 2, 2), (5, 2, 3), (33, 2, 3), (5, 2, 0), (33, 2, 0), (5, 2, 1), (33, 2, 1), (42, 2, 0), (9, 2, 0), (40, 2, 0), (41, 2, 0), (9, 2, 1), (40, 2, 1), (41, 2, 1), (9, 2, 2), (40, 2, 2), (41, 2, 2), (9, 2, 3), (40, 2, 3), (41, 2, 3), (9, 2, 4), (40, 2, 4), (41, 2, 4), (9, 2, 5), (40, 2, 5), (41, 2, 5), (9, 2, 6), (40, 2, 6), (41, 2, 6), (9, 2, 7), (40, 2, 7), (41, 2, 7), (4, 0, 0), (1, 3, 0), (24, 3, 0), (25, 3, 0), (5, 3, 6), (33, 3, 6), (0, 0, 0), (20, 0, 0), (21, 0, 0), (22, 0, 0), (23, 0, 0), (8, 0, 0), (5, 3, 4), (33, 3, 4), (5, 3, 5), (33, 3, 5), (12, 0, 0), (50, 0, 0), (51, 0, 0), (52, 0, 0), (53, 0, 0), (54, 0, 0), (55, 0, 0), (56, 0, 0), (57, 0, 0), (58, 0, 0), (59, 0, 0), (60, 0, 0), (61, 0, 0), (62, 0, 0), (63, 0, 0), (64, 0, 0), (65, 0, 0), (66, 0, 0), (67, 0, 0), (68, 0, 0), (69, 0, 0)]
theorem EEs_at : ∀ c ∈ EE, EEs[psn c]? = some c := by decide +kernel
theorem WO_of2 {ws : va_W} {G : va_G} {cy : Nat → ClassId} {ad : rf → Nat} {M : mM} {A : Nat → Prop} {H : Heap} (hP : va_P G classes ws H) (hD : va_D A ws) (hF : Fa2 (fun q c => q.1 = ad c ∧ (va_at G classes (ad c, q.2) H → va_at G classes (ad c, ent cy ad M c) H)) ws EEs) : WO EE G cy ad A M H := WO_of hP hD (fun c hc => by
  obtain ⟨⟨a, e⟩, h1, h2, h3⟩ := Fa2_get hF _ _ (EEs_at c hc)
  have h2 : a = ad c := h2
  subst h2
  exact ⟨e, h1, h3⟩)
set_option maxHeartbeats 16000000 in
set_option maxRecDepth 400000 in
theorem start_WO {G : va_G} {cy : Nat → ClassId} {sk sa : Nat → Nat} {A : Nat → Prop} {H : Heap} {b : Nat} {x0 : Nat} {lv : Nat} {klv : Nat} {zlv : Nat} {sh : Nat} {er : Nat} {re : Nat} {fi : Nat} {vo : Nat} {st : Nat} {oc : Nat} {ki : Nat} {ce : Nat} {si : Nat} {sp : Nat} {la : Nat} {ld : Nat} {sr : Nat} {tx : Nat} {vl : Nat} {f0 : Nat} {c0 : Nat} {k0 : Nat} {f1 : Nat} {c1 : Nat} {k1 : Nat} {f2 : Nat} {c2 : Nat} {k2 : Nat} {le : Nat} {te : Nat} {ne : Nat} {mi : Nat} {tr : Nat} {be : Nat} {rta7 : Nat} {rba7 : Nat} {ta : Nat} {rta : Nat} {wa : Nat} {rwa : Nat} {wk : Nat} {w0 : Nat} {wy0 : Nat} {wn0 : Nat} {w1 : Nat} {wy1 : Nat} {wn1 : Nat} {w2 : Nat} {wy2 : Nat} {wn2 : Nat} {w3 : Nat} {wy3 : Nat} {wn3 : Nat} {w4 : Nat} {wy4 : Nat} {wn4 : Nat} {w5 : Nat} {wy5 : Nat} {wn5 : Nat} {w6 : Nat} {wy6 : Nat} {wn6 : Nat} {w7 : Nat} {wy7 : Nat} {wn7 : Nat} {foc : Nat → Int32} {fl : Nat → Int32} {gt : Nat → Option Nat} {gw : Nat → Option Nat} {kst : Nat} {koc : Nat} {kki : Nat} {kce : Nat} {ksi : Nat} {ksp : Nat} {kla : Nat} {kld : Nat} {ksr : Nat} {ktx : Nat} {kvl : Nat} {kf0 : Nat} {kc0 : Nat} {kk0 : Nat} {kf1 : Nat} {kc1 : Nat} {kk1 : Nat} {kf2 : Nat} {kc2 : Nat} {kk2 : Nat} {kle : Nat} {kte : Nat} {kne : Nat} {kmi : Nat} {ktr : Nat} {kbe : Nat} {krta7 : Nat} {krba7 : Nat} {kta : Nat} {krta : Nat} {kwa : Nat} {krwa : Nat} {kwk : Nat} {kw0 : Nat} {kwy0 : Nat} {kwn0 : Nat} {kw1 : Nat} {kwy1 : Nat} {kwn1 : Nat} {kw2 : Nat} {kwy2 : Nat} {kwn2 : Nat} {kw3 : Nat} {kwy3 : Nat} {kwn3 : Nat} {kw4 : Nat} {kwy4 : Nat} {kwn4 : Nat} {kw5 : Nat} {kwy5 : Nat} {kwn5 : Nat} {kw6 : Nat} {kwy6 : Nat} {kwn6 : Nat} {kw7 : Nat} {kwy7 : Nat} {kwn7 : Nat} {kfoc : Nat → Int32} {kfl : Nat → Int32} {kgt : Nat → Option Nat} {kgw : Nat → Option Nat} {zst : Nat} {zoc : Nat} {zki : Nat} {zce : Nat} {zsi : Nat} {zsp : Nat} {zla : Nat} {zld : Nat} {zsr : Nat} {ztx : Nat} {zvl : Nat} {zf0 : Nat} {zc0 : Nat} {zk0 : Nat} {zf1 : Nat} {zc1 : Nat} {zk1 : Nat} {zf2 : Nat} {zc2 : Nat} {zk2 : Nat} {zle : Nat} {zte : Nat} {zne : Nat} {zmi : Nat} {ztr : Nat} {zbe : Nat} {zrta7 : Nat} {zrba7 : Nat} {zta : Nat} {zrta : Nat} {zwa : Nat} {zrwa : Nat} {zwk : Nat} {zw0 : Nat} {zwy0 : Nat} {zwn0 : Nat} {zw1 : Nat} {zwy1 : Nat} {zwn1 : Nat} {zw2 : Nat} {zwy2 : Nat} {zwn2 : Nat} {zw3 : Nat} {zwy3 : Nat} {zwn3 : Nat} {zw4 : Nat} {zwy4 : Nat} {zwn4 : Nat} {zw5 : Nat} {zwy5 : Nat} {zwn5 : Nat} {zw6 : Nat} {zwy6 : Nat} {zwn6 : Nat} {zw7 : Nat} {zwy7 : Nat} {zwn7 : Nat} {zfoc : Nat → Int32} {zfl : Nat → Int32} {zgt : Nat → Option Nat} {zgw : Nat → Option Nat} {s0 : Nat} {u0 : Nat} {s1 : Nat} {u1 : Nat} {s2 : Nat} {u2 : Nat} {s3 : Nat} {u3 : Nat} {gs : Nat → Option Nat} {dr : Nat} {t0 : Nat} {co : Nat} {ck : Nat} {t0a : Nat} {nm : Nat} {fc : Nat} {fd_ : Nat} {fl_ : Nat} {fh : Nat} {bg : Nat} {bga : Nat} {vt : Nat} {vta : Nat} {m0 : Nat} {nw : Nat} {nk : Nat} {na : Nat} {fd : Nat} {ea : Nat} {so : Nat} {nd : Nat} {cd : Nat} {nmd : Nat} {pl : Nat} {tl : Nat} {fr_ : Nat} {rw_ : Nat} {brw : Nat} {po : Nat} {trc : Nat} {wi : Nat} {sz_ : Nat} {nu : Nat} {ca : Nat} {gn : Nat → Option Nat} (X0 : gt 0 = some f0) (X1 : gt 1 = some f1) (X2 : gt 2 = some f2) (X3 : gw 0 = some w0) (X4 : gw 1 = some w1) (X5 : gw 2 = some w2) (X6 : gw 3 = some w3) (X7 : gw 4 = some w4) (X8 : gw 5 = some w5) (X9 : gw 6 = some w6) (X10 : gw 7 = some w7) (X11 : ∀ j, j < 192 → foc j = (-1)) (X12 : ∀ j, j < 5 → fl j = 50) (X13 : kgt 0 = some kf0) (X14 : kgt 1 = some kf1) (X15 : kgt 2 = some kf2) (X16 : kgw 0 = some kw0) (X17 : kgw 1 = some kw1) (X18 : kgw 2 = some kw2) (X19 : kgw 3 = some kw3) (X20 : kgw 4 = some kw4) (X21 : kgw 5 = some kw5) (X22 : kgw 6 = some kw6) (X23 : kgw 7 = some kw7) (X24 : ∀ j, j < 192 → kfoc j = (-1)) (X25 : ∀ j, j < 5 → kfl j = 50) (X26 : zgt 0 = some zf0) (X27 : zgt 1 = some zf1) (X28 : zgt 2 = some zf2) (X29 : zgw 0 = some zw0) (X30 : zgw 1 = some zw1) (X31 : zgw 2 = some zw2) (X32 : zgw 3 = some zw3) (X33 : zgw 4 = some zw4) (X34 : zgw 5 = some zw5) (X35 : zgw 6 = some zw6) (X36 : zgw 7 = some zw7) (X37 : ∀ j, j < 192 → zfoc j = (-1)) (X38 : ∀ j, j < 5 → zfl j = 50) (X39 : gs 0 = some s0) (X40 : gs 1 = some s1) (X41 : gs 2 = some s2) (X42 : gs 3 = some s3) (X43 : nm = (sk 0)) (X44 : gn 0 = some (sk 4)) (X45 : gn 1 = some (sk 5)) (X46 : gn 2 = some (sk 6)) (hP : va_P G classes [(s3, .inr (6, [.int 0, .int 0, .ref u3])), (u3, .inl (cy 0, 24, .inl (fun _ => 0))), (s2, .inr (6, [.int 0, .int 0, .ref u2])), (u2, .inl (cy 0, 24, .inl (fun _ => 0))), (s1, .inr (6, [.int 0, .int 0, .ref u1])), (u1, .inl (cy 0, 24, .inl (fun _ => 0))), (s0, .inr (6, [.int 0, .int 0, .ref u0])), (u0, .inl (cy 0, 24, .inl (fun _ => 0))), (er, .inl (cy 0, 7, .inl (fun _ => 0))), (sh, .inl (cy 5, 4, .inr (.inr (.inr (.inr gs))))), (x0, .inr (11, [.ref lv, .ref klv, .ref zlv, .ref sh, .ref er, .ref re, .ref fi, .ref vo, .int 0])), (lv, .inr (10, [.ref st, .ref la, .ref le, .ref ta, .ref wa, .ref wk, .int 0, .int 0])), (st, .inr (7, [.ref oc, .ref ki, .ref ce, .ref si, .ref sp, .int 0])), (oc, .inl (cy 0, 192, .inl foc)), (ki, .inl (cy 0, 40, .inl (fun _ => 0))), (ce, .inl (cy 0, 40, .inl (fun _ => 0))), (si, .inl (cy 0, 40, .inl (fun _ => 0))), (sp, .inl (cy 0, 40, .inl (fun _ => 0))), (la, .inr (2, [.int 5, .int 9, .int 0, .ref ld, .ref sr, .ref tx, .ref vl])), (ld, .inl (cy 0, 5, .inl fl)), (sr, .inl (cy 0, 5, .inl (fun _ => 0))), (tx, .inl (cy 3, 3, .inr (.inr (.inr (.inr gt))))), (vl, .inl (cy 0, 5, .inl (fun _ => 0))), (f0, .inr (1, [.ref c0, .ref k0, .int 0])), (c0, .inl (cy 0, 48, .inl (fun _ => 0))), (k0, .inl (cy 0, 48, .inl (fun _ => 0))), (f1, .inr (1, [.ref c1, .ref k1, .int 0])), (c1, .inl (cy 0, 48, .inl (fun _ => 0))), (k1, .inl (cy 0, 48, .inl (fun _ => 0))), (f2, .inr (1, [.ref c2, .ref k2, .int 0])), (c2, .inl (cy 0, 48, .inl (fun _ => 0))), (k2, .inl (cy 0, 48, .inl (fun _ => 0))), (le, .inr (3, [.ref te, .ref ne, .ref mi, .int 0, .ref tr, .ref be, .int 0, .int 0, .int 0])), (te, .inl (cy 0, 7, .inl (fun _ => 0))), (ne, .inl (cy 0, 7, .inl (fun _ => 0))), (mi, .inl (cy 0, 7, .inl (fun _ => 0))), (tr, .inr (5, [.ref rta7, .int 0])), (rta7, .inl (cy 0, 7, .inl (fun _ => 0))), (be, .inr (5, [.ref rba7, .int 0])), (rba7, .inl (cy 0, 7, .inl (fun _ => 0))), (ta, .inr (5, [.ref rta, .int 0])), (rta, .inl (cy 0, 48, .inl (fun _ => 0))), (wa, .inr (5, [.ref rwa, .int 0])), (rwa, .inl (cy 0, 24, .inl (fun _ => 0))), (wk, .inl (cy 4, 8, .inr (.inr (.inr (.inr gw))))), (w0, .inr (9, [.int 0, .int 0, .int 0, .int 5, .int 60, .int 0, .int 0, .int 0, .int 0, .ref wy0, .ref wn0])), (wy0, .inl (cy 0, 192, .inl (fun _ => 0))), (wn0, .inl (cy 0, 192, .inl (fun _ => 0))), (w1, .inr (9, [.int 0, .int 0, .int 0, .int 5, .int 60, .int 0, .int 0, .int 0, .int 0, .ref wy1, .ref wn1])), (wy1, .inl (cy 0, 192, .inl (fun _ => 0))), (wn1, .inl (cy 0, 192, .inl (fun _ => 0))), (w2, .inr (9, [.int 0, .int 0, .int 0, .int 5, .int 60, .int 0, .int 0, .int 0, .int 0, .ref wy2, .ref wn2])), (wy2, .inl (cy 0, 192, .inl (fun _ => 0))), (wn2, .inl (cy 0, 192, .inl (fun _ => 0))), (w3, .inr (9, [.int 0, .int 0, .int 0, .int 5, .int 60, .int 0, .int 0, .int 0, .int 0, .ref wy3, .ref wn3])), (wy3, .inl (cy 0, 192, .inl (fun _ => 0))), (wn3, .inl (cy 0, 192, .inl (fun _ => 0))), (w4, .inr (9, [.int 0, .int 0, .int 0, .int 5, .int 60, .int 0, .int 0, .int 0, .int 0, .ref wy4, .ref wn4])), (wy4, .inl (cy 0, 192, .inl (fun _ => 0))), (wn4, .inl (cy 0, 192, .inl (fun _ => 0))), (w5, .inr (9, [.int 0, .int 0, .int 0, .int 5, .int 60, .int 0, .int 0, .int 0, .int 0, .ref wy5, .ref wn5])), (wy5, .inl (cy 0, 192, .inl (fun _ => 0))), (wn5, .inl (cy 0, 192, .inl (fun _ => 0))), (w6, .inr (9, [.int 0, .int 0, .int 0, .int 5, .int 60, .int 0, .int 0, .int 0, .int 0, .ref wy6, .ref wn6])), (wy6, .inl (cy 0, 192, .inl (fun _ => 0))), (wn6, .inl (cy 0, 192, .inl (fun _ => 0))), (w7, .inr (9, [.int 0, .int 0, .int 0, .int 5, .int 60, .int 0, .int 0, .int 0, .int 0, .ref wy7, .ref wn7])), (wy7, .inl (cy 0, 192, .inl (fun _ => 0))), (wn7, .inl (cy 0, 192, .inl (fun _ => 0))), (klv, .inr (10, [.ref kst, .ref kla, .ref kle, .ref kta, .ref kwa, .ref kwk, .int 0, .int 0])), (kst, .inr (7, [.ref koc, .ref kki, .ref kce, .ref ksi, .ref ksp, .int 0])), (koc, .inl (cy 0, 192, .inl kfoc)), (kki, .inl (cy 0, 40, .inl (fun _ => 0))), (kce, .inl (cy 0, 40, .inl (fun _ => 0))), (ksi, .inl (cy 0, 40, .inl (fun _ => 0))), (ksp, .inl (cy 0, 40, .inl (fun _ => 0))), (kla, .inr (2, [.int 5, .int 9, .int 0, .ref kld, .ref ksr, .ref ktx, .ref kvl])), (kld, .inl (cy 0, 5, .inl kfl)), (ksr, .inl (cy 0, 5, .inl (fun _ => 0))), (ktx, .inl (cy 3, 3, .inr (.inr (.inr (.inr kgt))))), (kvl, .inl (cy 0, 5, .inl (fun _ => 0))), (kf0, .inr (1, [.ref kc0, .ref kk0, .int 0])), (kc0, .inl (cy 0, 48, .inl (fun _ => 0))), (kk0, .inl (cy 0, 48, .inl (fun _ => 0))), (kf1, .inr (1, [.ref kc1, .ref kk1, .int 0])), (kc1, .inl (cy 0, 48, .inl (fun _ => 0))), (kk1, .inl (cy 0, 48, .inl (fun _ => 0))), (kf2, .inr (1, [.ref kc2, .ref kk2, .int 0])), (kc2, .inl (cy 0, 48, .inl (fun _ => 0))), (kk2, .inl (cy 0, 48, .inl (fun _ => 0))), (kle, .inr (3, [.ref kte, .ref kne, .ref kmi, .int 0, .ref ktr, .ref kbe, .int 0, .int 0, .int 0])), (kte, .inl (cy 0, 7, .inl (fun _ => 0))), (kne, .inl (cy 0, 7, .inl (fun _ => 0))), (kmi, .inl (cy 0, 7, .inl (fun _ => 0))), (ktr, .inr (5, [.ref krta7, .int 0])), (krta7, .inl (cy 0, 7, .inl (fun _ => 0))), (kbe, .inr (5, [.ref krba7, .int 0])), (krba7, .inl (cy 0, 7, .inl (fun _ => 0))), (kta, .inr (5, [.ref krta, .int 0])), (krta, .inl (cy 0, 48, .inl (fun _ => 0))), (kwa, .inr (5, [.ref krwa, .int 0])), (krwa, .inl (cy 0, 24, .inl (fun _ => 0))), (kwk, .inl (cy 4, 8, .inr (.inr (.inr (.inr kgw))))), (kw0, .inr (9, [.int 0, .int 0, .int 0, .int 5, .int 60, .int 0, .int 0, .int 0, .int 0, .ref kwy0, .ref kwn0])), (kwy0, .inl (cy 0, 192, .inl (fun _ => 0))), (kwn0, .inl (cy 0, 192, .inl (fun _ => 0))), (kw1, .inr (9, [.int 0, .int 0, .int 0, .int 5, .int 60, .int 0, .int 0, .int 0, .int 0, .ref kwy1, .ref kwn1])), (kwy1, .inl (cy 0, 192, .inl (fun _ => 0))), (kwn1, .inl (cy 0, 192, .inl (fun _ => 0))), (kw2, .inr (9, [.int 0, .int 0, .int 0, .int 5, .int 60, .int 0, .int 0, .int 0, .int 0, .ref kwy2, .ref kwn2])), (kwy2, .inl (cy 0, 192, .inl (fun _ => 0))), (kwn2, .inl (cy 0, 192, .inl (fun _ => 0))), (kw3, .inr (9, [.int 0, .int 0, .int 0, .int 5, .int 60, .int 0, .int 0, .int 0, .int 0, .ref kwy3, .ref kwn3])), (kwy3, .inl (cy 0, 192, .inl (fun _ => 0))), (kwn3, .inl (cy 0, 192, .inl (fun _ => 0))), (kw4, .inr (9, [.int 0, .int 0, .int 0, .int 5, .int 60, .int 0, .int 0, .int 0, .int 0, .ref kwy4, .ref kwn4])), (kwy4, .inl (cy 0, 192, .inl (fun _ => 0))), (kwn4, .inl (cy 0, 192, .inl (fun _ => 0))), (kw5, .inr (9, [.int 0, .int 0, .int 0, .int 5, .int 60, .int 0, .int 0, .int 0, .int 0, .ref kwy5, .ref kwn5])), (kwy5, .inl (cy 0, 192, .inl (fun _ => 0))), (kwn5, .inl (cy 0, 192, .inl (fun _ => 0))), (kw6, .inr (9, [.int 0, .int 0, .int 0, .int 5, .int 60, .int 0, .int 0, .int 0, .int 0, .ref kwy6, .ref kwn6])), (kwy6, .inl (cy 0, 192, .inl (fun _ => 0))), (kwn6, .inl (cy 0, 192, .inl (fun _ => 0))), (kw7, .inr (9, [.int 0, .int 0, .int 0, .int 5, .int 60, .int 0, .int 0, .int 0, .int 0, .ref kwy7, .ref kwn7])), (kwy7, .inl (cy 0, 192, .inl (fun _ => 0))), (kwn7, .inl (cy 0, 192, .inl (fun _ => 0))), (zlv, .inr (10, [.ref zst, .ref zla, .ref zle, .ref zta, .ref zwa, .ref zwk, .int 0, .int 0])), (zst, .inr (7, [.ref zoc, .ref zki, .ref zce, .ref zsi, .ref zsp, .int 0])), (zoc, .inl (cy 0, 192, .inl zfoc)), (zki, .inl (cy 0, 40, .inl (fun _ => 0))), (zce, .inl (cy 0, 40, .inl (fun _ => 0))), (zsi, .inl (cy 0, 40, .inl (fun _ => 0))), (zsp, .inl (cy 0, 40, .inl (fun _ => 0))), (zla, .inr (2, [.int 5, .int 9, .int 0, .ref zld, .ref zsr, .ref ztx, .ref zvl])), (zld, .inl (cy 0, 5, .inl zfl)), (zsr, .inl (cy 0, 5, .inl (fun _ => 0))), (ztx, .inl (cy 3, 3, .inr (.inr (.inr (.inr zgt))))), (zvl, .inl (cy 0, 5, .inl (fun _ => 0))), (zf0, .inr (1, [.ref zc0, .ref zk0, .int 0])), (zc0, .inl (cy 0, 48, .inl (fun _ => 0))), (zk0, .inl (cy 0, 48, .inl (fun _ => 0))), (zf1, .inr (1, [.ref zc1, .ref zk1, .int 0])), (zc1, .inl (cy 0, 48, .inl (fun _ => 0))), (zk1, .inl (cy 0, 48, .inl (fun _ => 0))), (zf2, .inr (1, [.ref zc2, .ref zk2, .int 0])), (zc2, .inl (cy 0, 48, .inl (fun _ => 0))), (zk2, .inl (cy 0, 48, .inl (fun _ => 0))), (zle, .inr (3, [.ref zte, .ref zne, .ref zmi, .int 0, .ref ztr, .ref zbe, .int 0, .int 0, .int 0])), (zte, .inl (cy 0, 7, .inl (fun _ => 0))), (zne, .inl (cy 0, 7, .inl (fun _ => 0))), (zmi, .inl (cy 0, 7, .inl (fun _ => 0))), (ztr, .inr (5, [.ref zrta7, .int 0])), (zrta7, .inl (cy 0, 7, .inl (fun _ => 0))), (zbe, .inr (5, [.ref zrba7, .int 0])), (zrba7, .inl (cy 0, 7, .inl (fun _ => 0))), (zta, .inr (5, [.ref zrta, .int 0])), (zrta, .inl (cy 0, 48, .inl (fun _ => 0))), (zwa, .inr (5, [.ref zrwa, .int 0])), (zrwa, .inl (cy 0, 24, .inl (fun _ => 0))), (zwk, .inl (cy 4, 8, .inr (.inr (.inr (.inr zgw))))), (zw0, .inr (9, [.int 0, .int 0, .int 0, .int 5, .int 60, .int 0, .int 0, .int 0, .int 0, .ref zwy0, .ref zwn0])), (zwy0, .inl (cy 0, 192, .inl (fun _ => 0))), (zwn0, .inl (cy 0, 192, .inl (fun _ => 0))), (zw1, .inr (9, [.int 0, .int 0, .int 0, .int 5, .int 60, .int 0, .int 0, .int 0, .int 0, .ref zwy1, .ref zwn1])), (zwy1, .inl (cy 0, 192, .inl (fun _ => 0))), (zwn1, .inl (cy 0, 192, .inl (fun _ => 0))), (zw2, .inr (9, [.int 0, .int 0, .int 0, .int 5, .int 60, .int 0, .int 0, .int 0, .int 0, .ref zwy2, .ref zwn2])), (zwy2, .inl (cy 0, 192, .inl (fun _ => 0))), (zwn2, .inl (cy 0, 192, .inl (fun _ => 0))), (zw3, .inr (9, [.int 0, .int 0, .int 0, .int 5, .int 60, .int 0, .int 0, .int 0, .int 0, .ref zwy3, .ref zwn3])), (zwy3, .inl (cy 0, 192, .inl (fun _ => 0))), (zwn3, .inl (cy 0, 192, .inl (fun _ => 0))), (zw4, .inr (9, [.int 0, .int 0, .int 0, .int 5, .int 60, .int 0, .int 0, .int 0, .int 0, .ref zwy4, .ref zwn4])), (zwy4, .inl (cy 0, 192, .inl (fun _ => 0))), (zwn4, .inl (cy 0, 192, .inl (fun _ => 0))), (zw5, .inr (9, [.int 0, .int 0, .int 0, .int 5, .int 60, .int 0, .int 0, .int 0, .int 0, .ref zwy5, .ref zwn5])), (zwy5, .inl (cy 0, 192, .inl (fun _ => 0))), (zwn5, .inl (cy 0, 192, .inl (fun _ => 0))), (zw6, .inr (9, [.int 0, .int 0, .int 0, .int 5, .int 60, .int 0, .int 0, .int 0, .int 0, .ref zwy6, .ref zwn6])), (zwy6, .inl (cy 0, 192, .inl (fun _ => 0))), (zwn6, .inl (cy 0, 192, .inl (fun _ => 0))), (zw7, .inr (9, [.int 0, .int 0, .int 0, .int 5, .int 60, .int 0, .int 0, .int 0, .int 0, .ref zwy7, .ref zwn7])), (zwy7, .inl (cy 0, 192, .inl (fun _ => 0))), (zwn7, .inl (cy 0, 192, .inl (fun _ => 0))), (re, .inr (4, [.ref dr, .ref t0, .ref nm, .int 0, .int (-1), .int 0, .int 0])), (dr, .inr (1, [.ref co, .ref ck, .int 0])), (co, .inl (cy 0, 48, .inl (fun _ => 0))), (ck, .inl (cy 0, 48, .inl (fun _ => 0))), (t0, .inr (5, [.ref t0a, .int 0])), (t0a, .inl (cy 0, 0, .inl (fun _ => 0))), (fi, .inr (0, [.ref fc, .ref fd_, .ref fl_, .ref fh, .int 0, .int 0])), (fc, .inl (cy 0, 192, .inl (fun _ => 0))), (fd_, .inl (cy 1, 192, .inl (fun _ => 0))), (fl_, .inl (cy 2, 24, .inr (.inl (fun _ => 0)))), (fh, .inl (cy 0, 8, .inl (fun _ => 0))), (vo, .inr (8, [.ref bg, .ref vt, .int 0, .int 0, .int 0, .int 0])), (bg, .inr (5, [.ref bga, .int 0])), (bga, .inl (cy 0, 30, .inl (fun _ => 0))), (vt, .inr (5, [.ref vta, .int 0])), (vta, .inl (cy 0, 30, .inl (fun _ => 0))), (m0, .inr (12, [.ref nw, .ref nk, .ref na, .int 0, .ref fd, .ref ea, .ref so, .int (-1), .ref nd, .int 0, .int 0, .int 0, .int 0, .int 0, .int 0, .ref cd, .ref nmd, .ref pl, .ref tl, .ref fr_, .ref rw_, .ref brw, .int 0, .int 0, .ref po, .ref trc, .int 0, .int 0, .int 0, .ref wi, .ref sz_, .ref nu, .ref ca])), (nw, .inl (cy 0, 3567, .inl nw0)), (nk, .inl (cy 0, 3567, .inl (fun _ => 0))), (na, .inl (cy 0, 3567, .inl (fun _ => 0))), (fd, .inl (cy 0, 7, .inl (fun _ => 0))), (ea, .inl (cy 0, 8, .inl ea0)), (so, .inl (cy 0, 8, .inl so0)), (nd, .inl (cy 6, 3, .inr (.inr (.inr (.inr gn))))), (cd, .inl (cy 0, 49, .inl (fun _ => 0))), (nmd, .inl (cy 0, 5, .inl (fun _ => 0))), (pl, .inl (cy 0, 49, .inl (fun _ => 0))), (tl, .inl (cy 1, 1536, .inl (fun _ => 0))), (fr_, .inl (cy 0, 192, .inl (fun _ => 0))), (rw_, .inl (cy 0, 7, .inl (fun _ => 0))), (brw, .inl (cy 0, 7, .inl (fun _ => 0))), (po, .inl (cy 0, 8, .inl (fun _ => 0))), (trc, .inl (cy 0, 30, .inl (fun _ => 0))), (wi, .inl (cy 0, 4, .inl (fun _ => 0))), (sz_, .inl (cy 0, 4, .inl (fun _ => 0))), (nu, .inl (cy 0, 96, .inl (fun _ => 0))), (ca, .inl (cy 0, 24, .inl (fun _ => 0)))] H) (hD : va_D A [(s3, .inr (6, [.int 0, .int 0, .ref u3])), (u3, .inl (cy 0, 24, .inl (fun _ => 0))), (s2, .inr (6, [.int 0, .int 0, .ref u2])), (u2, .inl (cy 0, 24, .inl (fun _ => 0))), (s1, .inr (6, [.int 0, .int 0, .ref u1])), (u1, .inl (cy 0, 24, .inl (fun _ => 0))), (s0, .inr (6, [.int 0, .int 0, .ref u0])), (u0, .inl (cy 0, 24, .inl (fun _ => 0))), (er, .inl (cy 0, 7, .inl (fun _ => 0))), (sh, .inl (cy 5, 4, .inr (.inr (.inr (.inr gs))))), (x0, .inr (11, [.ref lv, .ref klv, .ref zlv, .ref sh, .ref er, .ref re, .ref fi, .ref vo, .int 0])), (lv, .inr (10, [.ref st, .ref la, .ref le, .ref ta, .ref wa, .ref wk, .int 0, .int 0])), (st, .inr (7, [.ref oc, .ref ki, .ref ce, .ref si, .ref sp, .int 0])), (oc, .inl (cy 0, 192, .inl foc)), (ki, .inl (cy 0, 40, .inl (fun _ => 0))), (ce, .inl (cy 0, 40, .inl (fun _ => 0))), (si, .inl (cy 0, 40, .inl (fun _ => 0))), (sp, .inl (cy 0, 40, .inl (fun _ => 0))), (la, .inr (2, [.int 5, .int 9, .int 0, .ref ld, .ref sr, .ref tx, .ref vl])), (ld, .inl (cy 0, 5, .inl fl)), (sr, .inl (cy 0, 5, .inl (fun _ => 0))), (tx, .inl (cy 3, 3, .inr (.inr (.inr (.inr gt))))), (vl, .inl (cy 0, 5, .inl (fun _ => 0))), (f0, .inr (1, [.ref c0, .ref k0, .int 0])), (c0, .inl (cy 0, 48, .inl (fun _ => 0))), (k0, .inl (cy 0, 48, .inl (fun _ => 0))), (f1, .inr (1, [.ref c1, .ref k1, .int 0])), (c1, .inl (cy 0, 48, .inl (fun _ => 0))), (k1, .inl (cy 0, 48, .inl (fun _ => 0))), (f2, .inr (1, [.ref c2, .ref k2, .int 0])), (c2, .inl (cy 0, 48, .inl (fun _ => 0))), (k2, .inl (cy 0, 48, .inl (fun _ => 0))), (le, .inr (3, [.ref te, .ref ne, .ref mi, .int 0, .ref tr, .ref be, .int 0, .int 0, .int 0])), (te, .inl (cy 0, 7, .inl (fun _ => 0))), (ne, .inl (cy 0, 7, .inl (fun _ => 0))), (mi, .inl (cy 0, 7, .inl (fun _ => 0))), (tr, .inr (5, [.ref rta7, .int 0])), (rta7, .inl (cy 0, 7, .inl (fun _ => 0))), (be, .inr (5, [.ref rba7, .int 0])), (rba7, .inl (cy 0, 7, .inl (fun _ => 0))), (ta, .inr (5, [.ref rta, .int 0])), (rta, .inl (cy 0, 48, .inl (fun _ => 0))), (wa, .inr (5, [.ref rwa, .int 0])), (rwa, .inl (cy 0, 24, .inl (fun _ => 0))), (wk, .inl (cy 4, 8, .inr (.inr (.inr (.inr gw))))), (w0, .inr (9, [.int 0, .int 0, .int 0, .int 5, .int 60, .int 0, .int 0, .int 0, .int 0, .ref wy0, .ref wn0])), (wy0, .inl (cy 0, 192, .inl (fun _ => 0))), (wn0, .inl (cy 0, 192, .inl (fun _ => 0))), (w1, .inr (9, [.int 0, .int 0, .int 0, .int 5, .int 60, .int 0, .int 0, .int 0, .int 0, .ref wy1, .ref wn1])), (wy1, .inl (cy 0, 192, .inl (fun _ => 0))), (wn1, .inl (cy 0, 192, .inl (fun _ => 0))), (w2, .inr (9, [.int 0, .int 0, .int 0, .int 5, .int 60, .int 0, .int 0, .int 0, .int 0, .ref wy2, .ref wn2])), (wy2, .inl (cy 0, 192, .inl (fun _ => 0))), (wn2, .inl (cy 0, 192, .inl (fun _ => 0))), (w3, .inr (9, [.int 0, .int 0, .int 0, .int 5, .int 60, .int 0, .int 0, .int 0, .int 0, .ref wy3, .ref wn3])), (wy3, .inl (cy 0, 192, .inl (fun _ => 0))), (wn3, .inl (cy 0, 192, .inl (fun _ => 0))), (w4, .inr (9, [.int 0, .int 0, .int 0, .int 5, .int 60, .int 0, .int 0, .int 0, .int 0, .ref wy4, .ref wn4])), (wy4, .inl (cy 0, 192, .inl (fun _ => 0))), (wn4, .inl (cy 0, 192, .inl (fun _ => 0))), (w5, .inr (9, [.int 0, .int 0, .int 0, .int 5, .int 60, .int 0, .int 0, .int 0, .int 0, .ref wy5, .ref wn5])), (wy5, .inl (cy 0, 192, .inl (fun _ => 0))), (wn5, .inl (cy 0, 192, .inl (fun _ => 0))), (w6, .inr (9, [.int 0, .int 0, .int 0, .int 5, .int 60, .int 0, .int 0, .int 0, .int 0, .ref wy6, .ref wn6])), (wy6, .inl (cy 0, 192, .inl (fun _ => 0))), (wn6, .inl (cy 0, 192, .inl (fun _ => 0))), (w7, .inr (9, [.int 0, .int 0, .int 0, .int 5, .int 60, .int 0, .int 0, .int 0, .int 0, .ref wy7, .ref wn7])), (wy7, .inl (cy 0, 192, .inl (fun _ => 0))), (wn7, .inl (cy 0, 192, .inl (fun _ => 0))), (klv, .inr (10, [.ref kst, .ref kla, .ref kle, .ref kta, .ref kwa, .ref kwk, .int 0, .int 0])), (kst, .inr (7, [.ref koc, .ref kki, .ref kce, .ref ksi, .ref ksp, .int 0])), (koc, .inl (cy 0, 192, .inl kfoc)), (kki, .inl (cy 0, 40, .inl (fun _ => 0))), (kce, .inl (cy 0, 40, .inl (fun _ => 0))), (ksi, .inl (cy 0, 40, .inl (fun _ => 0))), (ksp, .inl (cy 0, 40, .inl (fun _ => 0))), (kla, .inr (2, [.int 5, .int 9, .int 0, .ref kld, .ref ksr, .ref ktx, .ref kvl])), (kld, .inl (cy 0, 5, .inl kfl)), (ksr, .inl (cy 0, 5, .inl (fun _ => 0))), (ktx, .inl (cy 3, 3, .inr (.inr (.inr (.inr kgt))))), (kvl, .inl (cy 0, 5, .inl (fun _ => 0))), (kf0, .inr (1, [.ref kc0, .ref kk0, .int 0])), (kc0, .inl (cy 0, 48, .inl (fun _ => 0))), (kk0, .inl (cy 0, 48, .inl (fun _ => 0))), (kf1, .inr (1, [.ref kc1, .ref kk1, .int 0])), (kc1, .inl (cy 0, 48, .inl (fun _ => 0))), (kk1, .inl (cy 0, 48, .inl (fun _ => 0))), (kf2, .inr (1, [.ref kc2, .ref kk2, .int 0])), (kc2, .inl (cy 0, 48, .inl (fun _ => 0))), (kk2, .inl (cy 0, 48, .inl (fun _ => 0))), (kle, .inr (3, [.ref kte, .ref kne, .ref kmi, .int 0, .ref ktr, .ref kbe, .int 0, .int 0, .int 0])), (kte, .inl (cy 0, 7, .inl (fun _ => 0))), (kne, .inl (cy 0, 7, .inl (fun _ => 0))), (kmi, .inl (cy 0, 7, .inl (fun _ => 0))), (ktr, .inr (5, [.ref krta7, .int 0])), (krta7, .inl (cy 0, 7, .inl (fun _ => 0))), (kbe, .inr (5, [.ref krba7, .int 0])), (krba7, .inl (cy 0, 7, .inl (fun _ => 0))), (kta, .inr (5, [.ref krta, .int 0])), (krta, .inl (cy 0, 48, .inl (fun _ => 0))), (kwa, .inr (5, [.ref krwa, .int 0])), (krwa, .inl (cy 0, 24, .inl (fun _ => 0))), (kwk, .inl (cy 4, 8, .inr (.inr (.inr (.inr kgw))))), (kw0, .inr (9, [.int 0, .int 0, .int 0, .int 5, .int 60, .int 0, .int 0, .int 0, .int 0, .ref kwy0, .ref kwn0])), (kwy0, .inl (cy 0, 192, .inl (fun _ => 0))), (kwn0, .inl (cy 0, 192, .inl (fun _ => 0))), (kw1, .inr (9, [.int 0, .int 0, .int 0, .int 5, .int 60, .int 0, .int 0, .int 0, .int 0, .ref kwy1, .ref kwn1])), (kwy1, .inl (cy 0, 192, .inl (fun _ => 0))), (kwn1, .inl (cy 0, 192, .inl (fun _ => 0))), (kw2, .inr (9, [.int 0, .int 0, .int 0, .int 5, .int 60, .int 0, .int 0, .int 0, .int 0, .ref kwy2, .ref kwn2])), (kwy2, .inl (cy 0, 192, .inl (fun _ => 0))), (kwn2, .inl (cy 0, 192, .inl (fun _ => 0))), (kw3, .inr (9, [.int 0, .int 0, .int 0, .int 5, .int 60, .int 0, .int 0, .int 0, .int 0, .ref kwy3, .ref kwn3])), (kwy3, .inl (cy 0, 192, .inl (fun _ => 0))), (kwn3, .inl (cy 0, 192, .inl (fun _ => 0))), (kw4, .inr (9, [.int 0, .int 0, .int 0, .int 5, .int 60, .int 0, .int 0, .int 0, .int 0, .ref kwy4, .ref kwn4])), (kwy4, .inl (cy 0, 192, .inl (fun _ => 0))), (kwn4, .inl (cy 0, 192, .inl (fun _ => 0))), (kw5, .inr (9, [.int 0, .int 0, .int 0, .int 5, .int 60, .int 0, .int 0, .int 0, .int 0, .ref kwy5, .ref kwn5])), (kwy5, .inl (cy 0, 192, .inl (fun _ => 0))), (kwn5, .inl (cy 0, 192, .inl (fun _ => 0))), (kw6, .inr (9, [.int 0, .int 0, .int 0, .int 5, .int 60, .int 0, .int 0, .int 0, .int 0, .ref kwy6, .ref kwn6])), (kwy6, .inl (cy 0, 192, .inl (fun _ => 0))), (kwn6, .inl (cy 0, 192, .inl (fun _ => 0))), (kw7, .inr (9, [.int 0, .int 0, .int 0, .int 5, .int 60, .int 0, .int 0, .int 0, .int 0, .ref kwy7, .ref kwn7])), (kwy7, .inl (cy 0, 192, .inl (fun _ => 0))), (kwn7, .inl (cy 0, 192, .inl (fun _ => 0))), (zlv, .inr (10, [.ref zst, .ref zla, .ref zle, .ref zta, .ref zwa, .ref zwk, .int 0, .int 0])), (zst, .inr (7, [.ref zoc, .ref zki, .ref zce, .ref zsi, .ref zsp, .int 0])), (zoc, .inl (cy 0, 192, .inl zfoc)), (zki, .inl (cy 0, 40, .inl (fun _ => 0))), (zce, .inl (cy 0, 40, .inl (fun _ => 0))), (zsi, .inl (cy 0, 40, .inl (fun _ => 0))), (zsp, .inl (cy 0, 40, .inl (fun _ => 0))), (zla, .inr (2, [.int 5, .int 9, .int 0, .ref zld, .ref zsr, .ref ztx, .ref zvl])), (zld, .inl (cy 0, 5, .inl zfl)), (zsr, .inl (cy 0, 5, .inl (fun _ => 0))), (ztx, .inl (cy 3, 3, .inr (.inr (.inr (.inr zgt))))), (zvl, .inl (cy 0, 5, .inl (fun _ => 0))), (zf0, .inr (1, [.ref zc0, .ref zk0, .int 0])), (zc0, .inl (cy 0, 48, .inl (fun _ => 0))), (zk0, .inl (cy 0, 48, .inl (fun _ => 0))), (zf1, .inr (1, [.ref zc1, .ref zk1, .int 0])), (zc1, .inl (cy 0, 48, .inl (fun _ => 0))), (zk1, .inl (cy 0, 48, .inl (fun _ => 0))), (zf2, .inr (1, [.ref zc2, .ref zk2, .int 0])), (zc2, .inl (cy 0, 48, .inl (fun _ => 0))), (zk2, .inl (cy 0, 48, .inl (fun _ => 0))), (zle, .inr (3, [.ref zte, .ref zne, .ref zmi, .int 0, .ref ztr, .ref zbe, .int 0, .int 0, .int 0])), (zte, .inl (cy 0, 7, .inl (fun _ => 0))), (zne, .inl (cy 0, 7, .inl (fun _ => 0))), (zmi, .inl (cy 0, 7, .inl (fun _ => 0))), (ztr, .inr (5, [.ref zrta7, .int 0])), (zrta7, .inl (cy 0, 7, .inl (fun _ => 0))), (zbe, .inr (5, [.ref zrba7, .int 0])), (zrba7, .inl (cy 0, 7, .inl (fun _ => 0))), (zta, .inr (5, [.ref zrta, .int 0])), (zrta, .inl (cy 0, 48, .inl (fun _ => 0))), (zwa, .inr (5, [.ref zrwa, .int 0])), (zrwa, .inl (cy 0, 24, .inl (fun _ => 0))), (zwk, .inl (cy 4, 8, .inr (.inr (.inr (.inr zgw))))), (zw0, .inr (9, [.int 0, .int 0, .int 0, .int 5, .int 60, .int 0, .int 0, .int 0, .int 0, .ref zwy0, .ref zwn0])), (zwy0, .inl (cy 0, 192, .inl (fun _ => 0))), (zwn0, .inl (cy 0, 192, .inl (fun _ => 0))), (zw1, .inr (9, [.int 0, .int 0, .int 0, .int 5, .int 60, .int 0, .int 0, .int 0, .int 0, .ref zwy1, .ref zwn1])), (zwy1, .inl (cy 0, 192, .inl (fun _ => 0))), (zwn1, .inl (cy 0, 192, .inl (fun _ => 0))), (zw2, .inr (9, [.int 0, .int 0, .int 0, .int 5, .int 60, .int 0, .int 0, .int 0, .int 0, .ref zwy2, .ref zwn2])), (zwy2, .inl (cy 0, 192, .inl (fun _ => 0))), (zwn2, .inl (cy 0, 192, .inl (fun _ => 0))), (zw3, .inr (9, [.int 0, .int 0, .int 0, .int 5, .int 60, .int 0, .int 0, .int 0, .int 0, .ref zwy3, .ref zwn3])), (zwy3, .inl (cy 0, 192, .inl (fun _ => 0))), (zwn3, .inl (cy 0, 192, .inl (fun _ => 0))), (zw4, .inr (9, [.int 0, .int 0, .int 0, .int 5, .int 60, .int 0, .int 0, .int 0, .int 0, .ref zwy4, .ref zwn4])), (zwy4, .inl (cy 0, 192, .inl (fun _ => 0))), (zwn4, .inl (cy 0, 192, .inl (fun _ => 0))), (zw5, .inr (9, [.int 0, .int 0, .int 0, .int 5, .int 60, .int 0, .int 0, .int 0, .int 0, .ref zwy5, .ref zwn5])), (zwy5, .inl (cy 0, 192, .inl (fun _ => 0))), (zwn5, .inl (cy 0, 192, .inl (fun _ => 0))), (zw6, .inr (9, [.int 0, .int 0, .int 0, .int 5, .int 60, .int 0, .int 0, .int 0, .int 0, .ref zwy6, .ref zwn6])), (zwy6, .inl (cy 0, 192, .inl (fun _ => 0))), (zwn6, .inl (cy 0, 192, .inl (fun _ => 0))), (zw7, .inr (9, [.int 0, .int 0, .int 0, .int 5, .int 60, .int 0, .int 0, .int 0, .int 0, .ref zwy7, .ref zwn7])), (zwy7, .inl (cy 0, 192, .inl (fun _ => 0))), (zwn7, .inl (cy 0, 192, .inl (fun _ => 0))), (re, .inr (4, [.ref dr, .ref t0, .ref nm, .int 0, .int (-1), .int 0, .int 0])), (dr, .inr (1, [.ref co, .ref ck, .int 0])), (co, .inl (cy 0, 48, .inl (fun _ => 0))), (ck, .inl (cy 0, 48, .inl (fun _ => 0))), (t0, .inr (5, [.ref t0a, .int 0])), (t0a, .inl (cy 0, 0, .inl (fun _ => 0))), (fi, .inr (0, [.ref fc, .ref fd_, .ref fl_, .ref fh, .int 0, .int 0])), (fc, .inl (cy 0, 192, .inl (fun _ => 0))), (fd_, .inl (cy 1, 192, .inl (fun _ => 0))), (fl_, .inl (cy 2, 24, .inr (.inl (fun _ => 0)))), (fh, .inl (cy 0, 8, .inl (fun _ => 0))), (vo, .inr (8, [.ref bg, .ref vt, .int 0, .int 0, .int 0, .int 0])), (bg, .inr (5, [.ref bga, .int 0])), (bga, .inl (cy 0, 30, .inl (fun _ => 0))), (vt, .inr (5, [.ref vta, .int 0])), (vta, .inl (cy 0, 30, .inl (fun _ => 0))), (m0, .inr (12, [.ref nw, .ref nk, .ref na, .int 0, .ref fd, .ref ea, .ref so, .int (-1), .ref nd, .int 0, .int 0, .int 0, .int 0, .int 0, .int 0, .ref cd, .ref nmd, .ref pl, .ref tl, .ref fr_, .ref rw_, .ref brw, .int 0, .int 0, .ref po, .ref trc, .int 0, .int 0, .int 0, .ref wi, .ref sz_, .ref nu, .ref ca])), (nw, .inl (cy 0, 3567, .inl nw0)), (nk, .inl (cy 0, 3567, .inl (fun _ => 0))), (na, .inl (cy 0, 3567, .inl (fun _ => 0))), (fd, .inl (cy 0, 7, .inl (fun _ => 0))), (ea, .inl (cy 0, 8, .inl ea0)), (so, .inl (cy 0, 8, .inl so0)), (nd, .inl (cy 6, 3, .inr (.inr (.inr (.inr gn))))), (cd, .inl (cy 0, 49, .inl (fun _ => 0))), (nmd, .inl (cy 0, 5, .inl (fun _ => 0))), (pl, .inl (cy 0, 49, .inl (fun _ => 0))), (tl, .inl (cy 1, 1536, .inl (fun _ => 0))), (fr_, .inl (cy 0, 192, .inl (fun _ => 0))), (rw_, .inl (cy 0, 7, .inl (fun _ => 0))), (brw, .inl (cy 0, 7, .inl (fun _ => 0))), (po, .inl (cy 0, 8, .inl (fun _ => 0))), (trc, .inl (cy 0, 30, .inl (fun _ => 0))), (wi, .inl (cy 0, 4, .inl (fun _ => 0))), (sz_, .inl (cy 0, 4, .inl (fun _ => 0))), (nu, .inl (cy 0, 96, .inl (fun _ => 0))), (ca, .inl (cy 0, 24, .inl (fun _ => 0)))]) : ∃ ad : rf → Nat, skA ad = sk ∧ saA ad = sa ∧ ad (94, 0, 0) = b ∧ ad (11, 0, 0) = x0 ∧ ad (12, 0, 0) = m0 ∧ WO EE G cy ad A (Mz0 foc kfoc zfoc fl kfl zfl) H := by
  subst X43
  refine ⟨fun c => (bif Nat.blt c.1 37 then (bif Nat.blt c.1 22 then (bif Nat.blt c.1 7 then (bif Nat.blt c.1 3 then (bif Nat.blt c.1 1 then fi else (bif Nat.blt c.1 2 then (match c.2.1 with | 0 => (match c.2.2 with | 0 => f0 | 1 => f1 | _ => f2) | 1 => (match c.2.2 with | 0 => kf0 | 1 => kf1 | _ => kf2) | 2 => (match c.2.2 with | 0 => zf0 | 1 => zf1 | _ => zf2) | _ => dr) else (match c.2.1 with | 0 => la | 1 => kla | _ => zla))) else (bif Nat.blt c.1 5 then (bif Nat.blt c.1 4 then (match c.2.1 with | 0 => le | 1 => kle | _ => zle) else re) else (bif Nat.blt c.1 6 then (match c.2.1 with | 0 => (match c.2.2 with | 0 => ta | 1 => wa | 2 => tr | _ => be) | 1 => (match c.2.2 with | 0 => kta | 1 => kwa | 2 => ktr | _ => kbe) | 2 => (match c.2.2 with | 0 => zta | 1 => zwa | 2 => ztr | _ => zbe) | _ => (match c.2.2 with | 4 => bg | 5 => vt | _ => t0)) else (match c.2.2 with | 0 => s0 | 1 => s1 | 2 => s2 | _ => s3)))) else (bif Nat.blt c.1 11 then (bif Nat.blt c.1 9 then (bif Nat.blt c.1 8 then (match c.2.1 with | 0 => st | 1 => kst | _ => zst) else vo) else (bif Nat.blt c.1 10 then (match c.2.1 with | 0 => (match c.2.2 with | 0 => w0 | 1 => w1 | 2 => w2 | 3 => w3 | 4 => w4 | 5 => w5 | 6 => w6 | _ => w7) | 1 => (match c.2.2 with | 0 => kw0 | 1 => kw1 | 2 => kw2 | 3 => kw3 | 4 => kw4 | 5 => kw5 | 6 => kw6 | _ => kw7) | _ => (match c.2.2 with | 0 => zw0 | 1 => zw1 | 2 => zw2 | 3 => zw3 | 4 => zw4 | 5 => zw5 | 6 => zw6 | _ => zw7)) else (match c.2.1 with | 0 => lv | 1 => klv | _ => zlv))) else (bif Nat.blt c.1 20 then (bif Nat.blt c.1 12 then x0 else m0) else (bif Nat.blt c.1 21 then fc else fd_)))) else (bif Nat.blt c.1 29 then (bif Nat.blt c.1 25 then (bif Nat.blt c.1 23 then fl_ else (bif Nat.blt c.1 24 then fh else (match c.2.1 with | 0 => (match c.2.2 with | 0 => c0 | 1 => c1 | _ => c2) | 1 => (match c.2.2 with | 0 => kc0 | 1 => kc1 | _ => kc2) | 2 => (match c.2.2 with | 0 => zc0 | 1 => zc1 | _ => zc2) | _ => co))) else (bif Nat.blt c.1 27 then (bif Nat.blt c.1 26 then (match c.2.1 with | 0 => (match c.2.2 with | 0 => k0 | 1 => k1 | _ => k2) | 1 => (match c.2.2 with | 0 => kk0 | 1 => kk1 | _ => kk2) | 2 => (match c.2.2 with | 0 => zk0 | 1 => zk1 | _ => zk2) | _ => ck) else (match c.2.1 with | 0 => ld | 1 => kld | _ => zld)) else (bif Nat.blt c.1 28 then (match c.2.1 with | 0 => sr | 1 => ksr | _ => zsr) else (match c.2.1 with | 0 => tx | 1 => ktx | _ => ztx)))) else (bif Nat.blt c.1 33 then (bif Nat.blt c.1 31 then (bif Nat.blt c.1 30 then (match c.2.1 with | 0 => vl | 1 => kvl | _ => zvl) else (match c.2.1 with | 0 => te | 1 => kte | _ => zte)) else (bif Nat.blt c.1 32 then (match c.2.1 with | 0 => ne | 1 => kne | _ => zne) else (match c.2.1 with | 0 => mi | 1 => kmi | _ => zmi))) else (bif Nat.blt c.1 35 then (bif Nat.blt c.1 34 then (match c.2.1 with | 0 => (match c.2.2 with | 0 => rta | 1 => rwa | 2 => rta7 | _ => rba7) | 1 => (match c.2.2 with | 0 => krta | 1 => krwa | 2 => krta7 | _ => krba7) | 2 => (match c.2.2 with | 0 => zrta | 1 => zrwa | 2 => zrta7 | _ => zrba7) | _ => (match c.2.2 with | 4 => bga | 5 => vta | _ => t0a)) else (match c.2.2 with | 0 => u0 | 1 => u1 | 2 => u2 | _ => u3)) else (bif Nat.blt c.1 36 then (match c.2.1 with | 0 => oc | 1 => koc | _ => zoc) else (match c.2.1 with | 0 => ki | 1 => kki | _ => zki)))))) else (bif Nat.blt c.1 57 then (bif Nat.blt c.1 44 then (bif Nat.blt c.1 40 then (bif Nat.blt c.1 38 then (match c.2.1 with | 0 => ce | 1 => kce | _ => zce) else (bif Nat.blt c.1 39 then (match c.2.1 with | 0 => si | 1 => ksi | _ => zsi) else (match c.2.1 with | 0 => sp | 1 => ksp | _ => zsp))) else (bif Nat.blt c.1 42 then (bif Nat.blt c.1 41 then (match c.2.1 with | 0 => (match c.2.2 with | 0 => wy0 | 1 => wy1 | 2 => wy2 | 3 => wy3 | 4 => wy4 | 5 => wy5 | 6 => wy6 | _ => wy7) | 1 => (match c.2.2 with | 0 => kwy0 | 1 => kwy1 | 2 => kwy2 | 3 => kwy3 | 4 => kwy4 | 5 => kwy5 | 6 => kwy6 | _ => kwy7) | _ => (match c.2.2 with | 0 => zwy0 | 1 => zwy1 | 2 => zwy2 | 3 => zwy3 | 4 => zwy4 | 5 => zwy5 | 6 => zwy6 | _ => zwy7)) else (match c.2.1 with | 0 => (match c.2.2 with | 0 => wn0 | 1 => wn1 | 2 => wn2 | 3 => wn3 | 4 => wn4 | 5 => wn5 | 6 => wn6 | _ => wn7) | 1 => (match c.2.2 with | 0 => kwn0 | 1 => kwn1 | 2 => kwn2 | 3 => kwn3 | 4 => kwn4 | 5 => kwn5 | 6 => kwn6 | _ => kwn7) | _ => (match c.2.2 with | 0 => zwn0 | 1 => zwn1 | 2 => zwn2 | 3 => zwn3 | 4 => zwn4 | 5 => zwn5 | 6 => zwn6 | _ => zwn7))) else (bif Nat.blt c.1 43 then (match c.2.1 with | 0 => wk | 1 => kwk | _ => zwk) else sh))) else (bif Nat.blt c.1 53 then (bif Nat.blt c.1 51 then (bif Nat.blt c.1 50 then er else nw) else (bif Nat.blt c.1 52 then nk else na)) else (bif Nat.blt c.1 55 then (bif Nat.blt c.1 54 then fd else ea) else (bif Nat.blt c.1 56 then so else nd)))) else (bif Nat.blt c.1 65 then (bif Nat.blt c.1 61 then (bif Nat.blt c.1 59 then (bif Nat.blt c.1 58 then cd else nmd) else (bif Nat.blt c.1 60 then pl else tl)) else (bif Nat.blt c.1 63 then (bif Nat.blt c.1 62 then fr_ else rw_) else (bif Nat.blt c.1 64 then brw else po))) else (bif Nat.blt c.1 69 then (bif Nat.blt c.1 67 then (bif Nat.blt c.1 66 then trc else wi) else (bif Nat.blt c.1 68 then sz_ else nu)) else (bif Nat.blt c.1 91 then (bif Nat.blt c.1 90 then ca else sa c.2.1) else (bif Nat.blt c.1 94 then sk c.2.1 else b)))))), rfl, rfl, rfl, rfl, rfl, WO_of2 hP hD ?_⟩
  unfold EEs
  refine Fa2_cons ⟨rfl, fun h => h⟩ ?_
  refine Fa2_cons ⟨rfl, fun h => h⟩ ?_
  refine Fa2_cons ⟨rfl, fun h => h⟩ ?_
  refine Fa2_cons ⟨rfl, fun h => h⟩ ?_
  refine Fa2_cons ⟨rfl, fun h => h⟩ ?_
  refine Fa2_cons ⟨rfl, fun h => h⟩ ?_
  refine Fa2_cons ⟨rfl, fun h => h⟩ ?_
  refine Fa2_cons ⟨rfl, fun h => h⟩ ?_
  refine Fa2_cons ⟨rfl, fun h => h⟩ ?_
  refine Fa2_cons ⟨rfl, fun h => at_refs h (fun j hj => match j, hj with | 0, _ => X39 | 1, _ => X40 | 2, _ => X41 | 3, _ => X42 | j + 4, hj => absurd hj (by omega))⟩ ?_
  refine Fa2_cons ⟨rfl, fun h => h⟩ ?_
  refine Fa2_cons ⟨rfl, fun h => h⟩ ?_
  refine Fa2_cons ⟨rfl, fun h => h⟩ ?_
  refine Fa2_cons ⟨rfl, fun h => h⟩ ?_
  refine Fa2_cons ⟨rfl, fun h => h⟩ ?_
  refine Fa2_cons ⟨rfl, fun h => h⟩ ?_
  refine Fa2_cons ⟨rfl, fun h => h⟩ ?_
  refine Fa2_cons ⟨rfl, fun h => h⟩ ?_
  refine Fa2_cons ⟨rfl, fun h => h⟩ ?_
  refine Fa2_cons ⟨rfl, fun h => h⟩ ?_
  refine Fa2_cons ⟨rfl, fun h => h⟩ ?_
  refine Fa2_cons ⟨rfl, fun h => at_refs h (fun j hj => match j, hj with | 0, _ => X0 | 1, _ => X1 | 2, _ => X2 | j + 3, hj => absurd hj (by omega))⟩ ?_
  refine Fa2_cons ⟨rfl, fun h => h⟩ ?_
  refine Fa2_cons ⟨rfl, fun h => h⟩ ?_
  refine Fa2_cons ⟨rfl, fun h => h⟩ ?_
  refine Fa2_cons ⟨rfl, fun h => h⟩ ?_
  refine Fa2_cons ⟨rfl, fun h => h⟩ ?_
  refine Fa2_cons ⟨rfl, fun h => h⟩ ?_
  refine Fa2_cons ⟨rfl, fun h => h⟩ ?_
  refine Fa2_cons ⟨rfl, fun h => h⟩ ?_
  refine Fa2_cons ⟨rfl, fun h => h⟩ ?_
  refine Fa2_cons ⟨rfl, fun h => h⟩ ?_
  refine Fa2_cons ⟨rfl, fun h => h⟩ ?_
  refine Fa2_cons ⟨rfl, fun h => h⟩ ?_
  refine Fa2_cons ⟨rfl, fun h => h⟩ ?_
  refine Fa2_cons ⟨rfl, fun h => h⟩ ?_
  refine Fa2_cons ⟨rfl, fun h => h⟩ ?_
  refine Fa2_cons ⟨rfl, fun h => h⟩ ?_
  refine Fa2_cons ⟨rfl, fun h => h⟩ ?_
  refine Fa2_cons ⟨rfl, fun h => h⟩ ?_
  refine Fa2_cons ⟨rfl, fun h => h⟩ ?_
  refine Fa2_cons ⟨rfl, fun h => h⟩ ?_
  refine Fa2_cons ⟨rfl, fun h => h⟩ ?_
  refine Fa2_cons ⟨rfl, fun h => h⟩ ?_
  refine Fa2_cons ⟨rfl, fun h => at_refs h (fun j hj => match j, hj with | 0, _ => X3 | 1, _ => X4 | 2, _ => X5 | 3, _ => X6 | 4, _ => X7 | 5, _ => X8 | 6, _ => X9 | 7, _ => X10 | j + 8, hj => absurd hj (by omega))⟩ ?_
  refine Fa2_cons ⟨rfl, fun h => h⟩ ?_
  refine Fa2_cons ⟨rfl, fun h => h⟩ ?_
  refine Fa2_cons ⟨rfl, fun h => h⟩ ?_
  refine Fa2_cons ⟨rfl, fun h => h⟩ ?_
  refine Fa2_cons ⟨rfl, fun h => h⟩ ?_
  refine Fa2_cons ⟨rfl, fun h => h⟩ ?_
  refine Fa2_cons ⟨rfl, fun h => h⟩ ?_
  refine Fa2_cons ⟨rfl, fun h => h⟩ ?_
  refine Fa2_cons ⟨rfl, fun h => h⟩ ?_
  refine Fa2_cons ⟨rfl, fun h => h⟩ ?_
  refine Fa2_cons ⟨rfl, fun h => h⟩ ?_
  refine Fa2_cons ⟨rfl, fun h => h⟩ ?_
  refine Fa2_cons ⟨rfl, fun h => h⟩ ?_
  refine Fa2_cons ⟨rfl, fun h => h⟩ ?_
  refine Fa2_cons ⟨rfl, fun h => h⟩ ?_
  refine Fa2_cons ⟨rfl, fun h => h⟩ ?_
  refine Fa2_cons ⟨rfl, fun h => h⟩ ?_
  refine Fa2_cons ⟨rfl, fun h => h⟩ ?_
  refine Fa2_cons ⟨rfl, fun h => h⟩ ?_
  refine Fa2_cons ⟨rfl, fun h => h⟩ ?_
  refine Fa2_cons ⟨rfl, fun h => h⟩ ?_
  refine Fa2_cons ⟨rfl, fun h => h⟩ ?_
  refine Fa2_cons ⟨rfl, fun h => h⟩ ?_
  refine Fa2_cons ⟨rfl, fun h => h⟩ ?_
  refine Fa2_cons ⟨rfl, fun h => h⟩ ?_
  refine Fa2_cons ⟨rfl, fun h => h⟩ ?_
  refine Fa2_cons ⟨rfl, fun h => h⟩ ?_
  refine Fa2_cons ⟨rfl, fun h => h⟩ ?_
  refine Fa2_cons ⟨rfl, fun h => h⟩ ?_
  refine Fa2_cons ⟨rfl, fun h => h⟩ ?_
  refine Fa2_cons ⟨rfl, fun h => h⟩ ?_
  refine Fa2_cons ⟨rfl, fun h => h⟩ ?_
  refine Fa2_cons ⟨rfl, fun h => h⟩ ?_
  refine Fa2_cons ⟨rfl, fun h => h⟩ ?_
  refine Fa2_cons ⟨rfl, fun h => at_refs h (fun j hj => match j, hj with | 0, _ => X13 | 1, _ => X14 | 2, _ => X15 | j + 3, hj => absurd hj (by omega))⟩ ?_
  refine Fa2_cons ⟨rfl, fun h => h⟩ ?_
  refine Fa2_cons ⟨rfl, fun h => h⟩ ?_
  refine Fa2_cons ⟨rfl, fun h => h⟩ ?_
  refine Fa2_cons ⟨rfl, fun h => h⟩ ?_
  refine Fa2_cons ⟨rfl, fun h => h⟩ ?_
  refine Fa2_cons ⟨rfl, fun h => h⟩ ?_
  refine Fa2_cons ⟨rfl, fun h => h⟩ ?_
  refine Fa2_cons ⟨rfl, fun h => h⟩ ?_
  refine Fa2_cons ⟨rfl, fun h => h⟩ ?_
  refine Fa2_cons ⟨rfl, fun h => h⟩ ?_
  refine Fa2_cons ⟨rfl, fun h => h⟩ ?_
  refine Fa2_cons ⟨rfl, fun h => h⟩ ?_
  refine Fa2_cons ⟨rfl, fun h => h⟩ ?_
  refine Fa2_cons ⟨rfl, fun h => h⟩ ?_
  refine Fa2_cons ⟨rfl, fun h => h⟩ ?_
  refine Fa2_cons ⟨rfl, fun h => h⟩ ?_
  refine Fa2_cons ⟨rfl, fun h => h⟩ ?_
  refine Fa2_cons ⟨rfl, fun h => h⟩ ?_
  refine Fa2_cons ⟨rfl, fun h => h⟩ ?_
  refine Fa2_cons ⟨rfl, fun h => h⟩ ?_
  refine Fa2_cons ⟨rfl, fun h => h⟩ ?_
  refine Fa2_cons ⟨rfl, fun h => h⟩ ?_
  refine Fa2_cons ⟨rfl, fun h => at_refs h (fun j hj => match j, hj with | 0, _ => X16 | 1, _ => X17 | 2, _ => X18 | 3, _ => X19 | 4, _ => X20 | 5, _ => X21 | 6, _ => X22 | 7, _ => X23 | j + 8, hj => absurd hj (by omega))⟩ ?_
  refine Fa2_cons ⟨rfl, fun h => h⟩ ?_
  refine Fa2_cons ⟨rfl, fun h => h⟩ ?_
  refine Fa2_cons ⟨rfl, fun h => h⟩ ?_
  refine Fa2_cons ⟨rfl, fun h => h⟩ ?_
  refine Fa2_cons ⟨rfl, fun h => h⟩ ?_
  refine Fa2_cons ⟨rfl, fun h => h⟩ ?_
  refine Fa2_cons ⟨rfl, fun h => h⟩ ?_
  refine Fa2_cons ⟨rfl, fun h => h⟩ ?_
  refine Fa2_cons ⟨rfl, fun h => h⟩ ?_
  refine Fa2_cons ⟨rfl, fun h => h⟩ ?_
  refine Fa2_cons ⟨rfl, fun h => h⟩ ?_
  refine Fa2_cons ⟨rfl, fun h => h⟩ ?_
  refine Fa2_cons ⟨rfl, fun h => h⟩ ?_
  refine Fa2_cons ⟨rfl, fun h => h⟩ ?_
  refine Fa2_cons ⟨rfl, fun h => h⟩ ?_
  refine Fa2_cons ⟨rfl, fun h => h⟩ ?_
  refine Fa2_cons ⟨rfl, fun h => h⟩ ?_
  refine Fa2_cons ⟨rfl, fun h => h⟩ ?_
  refine Fa2_cons ⟨rfl, fun h => h⟩ ?_
  refine Fa2_cons ⟨rfl, fun h => h⟩ ?_
  refine Fa2_cons ⟨rfl, fun h => h⟩ ?_
  refine Fa2_cons ⟨rfl, fun h => h⟩ ?_
  refine Fa2_cons ⟨rfl, fun h => h⟩ ?_
  refine Fa2_cons ⟨rfl, fun h => h⟩ ?_
  refine Fa2_cons ⟨rfl, fun h => h⟩ ?_
  refine Fa2_cons ⟨rfl, fun h => h⟩ ?_
  refine Fa2_cons ⟨rfl, fun h => h⟩ ?_
  refine Fa2_cons ⟨rfl, fun h => h⟩ ?_
  refine Fa2_cons ⟨rfl, fun h => h⟩ ?_
  refine Fa2_cons ⟨rfl, fun h => h⟩ ?_
  refine Fa2_cons ⟨rfl, fun h => h⟩ ?_
  refine Fa2_cons ⟨rfl, fun h => h⟩ ?_
  refine Fa2_cons ⟨rfl, fun h => h⟩ ?_
  refine Fa2_cons ⟨rfl, fun h => h⟩ ?_
  refine Fa2_cons ⟨rfl, fun h => at_refs h (fun j hj => match j, hj with | 0, _ => X26 | 1, _ => X27 | 2, _ => X28 | j + 3, hj => absurd hj (by omega))⟩ ?_
  refine Fa2_cons ⟨rfl, fun h => h⟩ ?_
  refine Fa2_cons ⟨rfl, fun h => h⟩ ?_
  refine Fa2_cons ⟨rfl, fun h => h⟩ ?_
  refine Fa2_cons ⟨rfl, fun h => h⟩ ?_
  refine Fa2_cons ⟨rfl, fun h => h⟩ ?_
  refine Fa2_cons ⟨rfl, fun h => h⟩ ?_
  refine Fa2_cons ⟨rfl, fun h => h⟩ ?_
  refine Fa2_cons ⟨rfl, fun h => h⟩ ?_
  refine Fa2_cons ⟨rfl, fun h => h⟩ ?_
  refine Fa2_cons ⟨rfl, fun h => h⟩ ?_
  refine Fa2_cons ⟨rfl, fun h => h⟩ ?_
  refine Fa2_cons ⟨rfl, fun h => h⟩ ?_
  refine Fa2_cons ⟨rfl, fun h => h⟩ ?_
  refine Fa2_cons ⟨rfl, fun h => h⟩ ?_
  refine Fa2_cons ⟨rfl, fun h => h⟩ ?_
  refine Fa2_cons ⟨rfl, fun h => h⟩ ?_
  refine Fa2_cons ⟨rfl, fun h => h⟩ ?_
  refine Fa2_cons ⟨rfl, fun h => h⟩ ?_
  refine Fa2_cons ⟨rfl, fun h => h⟩ ?_
  refine Fa2_cons ⟨rfl, fun h => h⟩ ?_
  refine Fa2_cons ⟨rfl, fun h => h⟩ ?_
  refine Fa2_cons ⟨rfl, fun h => h⟩ ?_
  refine Fa2_cons ⟨rfl, fun h => at_refs h (fun j hj => match j, hj with | 0, _ => X29 | 1, _ => X30 | 2, _ => X31 | 3, _ => X32 | 4, _ => X33 | 5, _ => X34 | 6, _ => X35 | 7, _ => X36 | j + 8, hj => absurd hj (by omega))⟩ ?_
  refine Fa2_cons ⟨rfl, fun h => h⟩ ?_
  refine Fa2_cons ⟨rfl, fun h => h⟩ ?_
  refine Fa2_cons ⟨rfl, fun h => h⟩ ?_
  refine Fa2_cons ⟨rfl, fun h => h⟩ ?_
  refine Fa2_cons ⟨rfl, fun h => h⟩ ?_
  refine Fa2_cons ⟨rfl, fun h => h⟩ ?_
  refine Fa2_cons ⟨rfl, fun h => h⟩ ?_
  refine Fa2_cons ⟨rfl, fun h => h⟩ ?_
  refine Fa2_cons ⟨rfl, fun h => h⟩ ?_
  refine Fa2_cons ⟨rfl, fun h => h⟩ ?_
  refine Fa2_cons ⟨rfl, fun h => h⟩ ?_
  refine Fa2_cons ⟨rfl, fun h => h⟩ ?_
  refine Fa2_cons ⟨rfl, fun h => h⟩ ?_
  refine Fa2_cons ⟨rfl, fun h => h⟩ ?_
  refine Fa2_cons ⟨rfl, fun h => h⟩ ?_
  refine Fa2_cons ⟨rfl, fun h => h⟩ ?_
  refine Fa2_cons ⟨rfl, fun h => h⟩ ?_
  refine Fa2_cons ⟨rfl, fun h => h⟩ ?_
  refine Fa2_cons ⟨rfl, fun h => h⟩ ?_
  refine Fa2_cons ⟨rfl, fun h => h⟩ ?_
  refine Fa2_cons ⟨rfl, fun h => h⟩ ?_
  refine Fa2_cons ⟨rfl, fun h => h⟩ ?_
  refine Fa2_cons ⟨rfl, fun h => h⟩ ?_
  refine Fa2_cons ⟨rfl, fun h => h⟩ ?_
  refine Fa2_cons ⟨rfl, fun h => h⟩ ?_
  refine Fa2_cons ⟨rfl, fun h => h⟩ ?_
  refine Fa2_cons ⟨rfl, fun h => h⟩ ?_
  refine Fa2_cons ⟨rfl, fun h => h⟩ ?_
  refine Fa2_cons ⟨rfl, fun h => h⟩ ?_
  refine Fa2_cons ⟨rfl, fun h => h⟩ ?_
  refine Fa2_cons ⟨rfl, fun h => h⟩ ?_
  refine Fa2_cons ⟨rfl, fun h => h⟩ ?_
  refine Fa2_cons ⟨rfl, fun h => h⟩ ?_
  refine Fa2_cons ⟨rfl, fun h => h⟩ ?_
  refine Fa2_cons ⟨rfl, fun h => h⟩ ?_
  refine Fa2_cons ⟨rfl, fun h => h⟩ ?_
  refine Fa2_cons ⟨rfl, fun h => h⟩ ?_
  refine Fa2_cons ⟨rfl, fun h => h⟩ ?_
  refine Fa2_cons ⟨rfl, fun h => h⟩ ?_
  refine Fa2_cons ⟨rfl, fun h => h⟩ ?_
  refine Fa2_cons ⟨rfl, fun h => h⟩ ?_
  refine Fa2_cons ⟨rfl, fun h => h⟩ ?_
  refine Fa2_cons ⟨rfl, fun h => h⟩ ?_
  refine Fa2_cons ⟨rfl, fun h => h⟩ ?_
  refine Fa2_cons ⟨rfl, fun h => h⟩ ?_
  refine Fa2_cons ⟨rfl, fun h => h⟩ ?_
  refine Fa2_cons ⟨rfl, fun h => h⟩ ?_
  refine Fa2_cons ⟨rfl, fun h => at_refs h (fun j hj => match j, hj with | 0, _ => X44 | 1, _ => X45 | 2, _ => X46 | j + 3, hj => absurd hj (by omega))⟩ ?_
  refine Fa2_cons ⟨rfl, fun h => h⟩ ?_
  refine Fa2_cons ⟨rfl, fun h => h⟩ ?_
  refine Fa2_cons ⟨rfl, fun h => h⟩ ?_
  refine Fa2_cons ⟨rfl, fun h => h⟩ ?_
  refine Fa2_cons ⟨rfl, fun h => h⟩ ?_
  refine Fa2_cons ⟨rfl, fun h => h⟩ ?_
  refine Fa2_cons ⟨rfl, fun h => h⟩ ?_
  refine Fa2_cons ⟨rfl, fun h => h⟩ ?_
  refine Fa2_cons ⟨rfl, fun h => h⟩ ?_
  refine Fa2_cons ⟨rfl, fun h => h⟩ ?_
  refine Fa2_cons ⟨rfl, fun h => h⟩ ?_
  refine Fa2_cons ⟨rfl, fun h => h⟩ ?_
  refine Fa2_cons ⟨rfl, fun h => h⟩ ?_
  trivial
theorem start_I (fo0 fo1 fo2 fl0 fl1 fl2 : Nat → Int32) : Inv (Mz0 fo0 fo1 fo2 fl0 fl1 fl2) := by
  rintro ⟨r, b, w⟩ k
  unfold IN
  dsimp only
  split
  · intro hk; subst hk; show 0 ≤ (0 : Int32).toInt ∧ (0 : Int32).toInt ≤ 24; decide
  · intro hk; subst hk; show 0 ≤ (0 : Int32).toInt ∧ (0 : Int32).toInt ≤ 1; decide
  · intro hk; subst hk; show 0 ≤ (0 : Int32).toInt ∧ (0 : Int32).toInt ≤ 1; decide
  · intro hk; subst hk; show 0 ≤ (0 : Int32).toInt ∧ (0 : Int32).toInt ≤ 1; decide
  · trivial
theorem nw0_at (k : Nat) : (k = 6 ∧ nw0 k = 5) ∨ (k = 7 ∧ nw0 k = 9) ∨ ((9 ≤ k ∧ k ≤ 13) ∧ nw0 k = 50) ∨ nw0 k = 0 := by
  unfold nw0 upd
  by_cases h13 : k = 13
  · subst h13; right; right; left; exact ⟨by omega, rfl⟩
  · rw [if_neg h13]
    by_cases h12 : k = 12
    · subst h12; right; right; left; exact ⟨by omega, rfl⟩
    · rw [if_neg h12]
      by_cases h11 : k = 11
      · subst h11; right; right; left; exact ⟨by omega, rfl⟩
      · rw [if_neg h11]
        by_cases h10 : k = 10
        · subst h10; right; right; left; exact ⟨by omega, rfl⟩
        · rw [if_neg h10]
          by_cases h9 : k = 9
          · subst h9; right; right; left; exact ⟨by omega, rfl⟩
          · rw [if_neg h9]
            by_cases h7 : k = 7
            · subst h7; right; left; exact ⟨rfl, rfl⟩
            · rw [if_neg h7]
              by_cases h6 : k = 6
              · subst h6; left; exact ⟨rfl, rfl⟩
              · rw [if_neg h6]; right; right; right; rfl
theorem NW5_0 : NW5 (fun _ => 0) := ⟨fun k => by
  have h : (0 : Int32).toInt = 0 := rfl
  show PN k 0
  unfold PN
  omega, fun u _ => ⟨0, 0, by omega, rfl, rfl⟩⟩
theorem NW5_nw0 : NW5 (fun k => nw0 k) := by
  refine ⟨fun k => ?_, fun u hu => ⟨0, 0, by omega, ?_, rfl⟩⟩
  · show PN k (nw0 k)
    have h0 : (0 : Int32).toInt = 0 := rfl
    have h5 : (5 : Int32).toInt = 5 := rfl
    have h9 : (9 : Int32).toInt = 9 := rfl
    have h50 : (50 : Int32).toInt = 50 := rfl
    unfold PN
    rcases nw0_at k with ⟨h, e⟩ | ⟨h, e⟩ | ⟨h, e⟩ | e
    all_goals (rw [e]; omega)
  · show (nw0 (345 + 50 * u)).toInt = 0
    rcases nw0_at (345 + 50 * u) with ⟨h, e⟩ | ⟨h, e⟩ | ⟨h, e⟩ | e
    · omega
    · omega
    · omega
    · rw [e]; rfl
theorem start_D (fo0 fo1 fo2 fl0 fl1 fl2 : Nat → Int32) : InvD (Mz0 fo0 fo1 fo2 fl0 fl1 fl2) := by
  refine ⟨?_, NW5_nw0, NW5_0, NW5_0⟩
  rintro ⟨r, b, w⟩ k
  unfold IND
  dsimp only
  split
  · show IN12 k (if k = 7 then -1 else 0)
    unfold IN12
    split <;> first | trivial | (show _ ≤ (0 : Int32).toInt ∧ (0 : Int32).toInt ≤ _; decide)
  · intro hk
    show ea0 k = EAq.getD k 0
    have h : ∀ k, k < 8 → ea0 k = EAq.getD k 0 := by decide +kernel
    exact h k hk
  · intro hk
    show so0 k = SOq.getD k 0
    have h : ∀ k, k < 8 → so0 k = SOq.getD k 0 := by decide +kernel
    exact h k hk
  · show 0 ≤ (0 : Int32).toInt ∧ (0 : Int32).toInt ≤ 24; decide
  · trivial
end
section
/-! at the start both hold the same -/
theorem start_R (fo0 fo1 fo2 fl0 fl1 fl2 : Nat → Int32) (h0 : ∀ j, j < 5 → fl0 j = 50) : RXz (Mz0 fo0 fo1 fo2 fl0 fl1 fl2).1 := by
  rintro ⟨r, b, w⟩ k ⟨r2, b2, w2⟩ j p g
  unfold PRz at p
  dsimp only at p g
  have hb1 : ¬ b = 1 := fun q => g q (by show (if (3 : Nat) = 7 then (-1 : Int32) else 0).toInt = 0; decide)
  rcases p with ⟨p0, p1, p2, p3, p⟩ | p | p
  · obtain rfl : b = 0 := by omega
    obtain rfl : r2 = 50 := by omega
    subst p2 p3
    rcases p with p | p | p | p | p | p
    · obtain ⟨rfl, rfl, rfl, rfl⟩ := p; show (0 : Int32) = nw0 0; decide
    · obtain ⟨rfl, rfl, rfl, rfl⟩ := p; show (0 : Int32) = nw0 3; decide
    · obtain ⟨rfl, hw, rfl, rfl⟩ := p
      obtain rfl | rfl : w = 0 ∨ w = 1 := by omega
      · show (0 : Int32) = nw0 4; decide
      · show (0 : Int32) = nw0 5; decide
    · obtain ⟨rfl, rfl, hk, rfl⟩ := p
      obtain rfl | rfl | rfl : k = 0 ∨ k = 1 ∨ k = 2 := by omega
      · show ([5, 9, 0] : List Int32).getD 0 0 = nw0 6; decide
      · show ([5, 9, 0] : List Int32).getD 1 0 = nw0 7; decide
      · show ([5, 9, 0] : List Int32).getD 2 0 = nw0 8; decide
    · obtain ⟨rfl, rfl, hk, rfl⟩ := p
      show fl0 k = nw0 (9 + k)
      rw [h0 k hk]
      obtain rfl | rfl | rfl | rfl | rfl : k = 0 ∨ k = 1 ∨ k = 2 ∨ k = 3 ∨ k = 4 := by omega
      all_goals decide
    · obtain ⟨rfl, rfl, hk, rfl⟩ := p
      show (0 : Int32) = nw0 (14 + k)
      obtain rfl | rfl | rfl | rfl | rfl : k = 0 ∨ k = 1 ∨ k = 2 ∨ k = 3 ∨ k = 4 := by omega
      all_goals decide
  · obtain ⟨rfl, rfl, rfl, rfl, rfl, rfl, rfl, rfl⟩ := p
    show (0 : Int32) = (if (3 : Nat) = 7 then (-1 : Int32) else 0)
    decide
  · obtain ⟨rfl, rfl, hw, rfl, rfl, rfl, p⟩ := p
    rcases p with ⟨rfl, rfl⟩ | ⟨rfl, rfl⟩ <;> rfl
end
section
/-! words of the tables that are used, by their places; decode rows; classes -/
set_option maxRecDepth 20000 in
theorem m_101 : Cond.classLink RL 7 RX11 ∈ BASE := bmT1 23 rfl rfl
set_option maxRecDepth 20000 in
theorem m_103 : Cond.methodLink RL 9 yX11_init ∈ BASE := bmT1 25 rfl rfl
set_option maxRecDepth 20000 in
theorem m_104 : Cond.instanceMethod yX11_init ∈ BASE := bmT1 26 rfl rfl
set_option maxRecDepth 20000 in
theorem m_105 : Cond.code yX11_init cX11_init 2 none ∈ BASE := bmT1 27 rfl rfl
set_option maxRecDepth 20000 in
theorem m_1312 : Cond.classLink RL 10 RX12 ∈ BASE := bmT6 34 rfl rfl
set_option maxRecDepth 20000 in
theorem m_1314 : Cond.methodLink RL 12 yX12_init ∈ BASE := bmT6 36 rfl rfl
set_option maxRecDepth 20000 in
theorem m_1315 : Cond.instanceMethod yX12_init ∈ BASE := bmT6 37 rfl rfl
set_option maxRecDepth 20000 in
theorem m_1316 : Cond.code yX12_init cX12_init 2 none ∈ BASE := bmT6 38 rfl rfl
theorem kI_X11_init : KI yX11_init cX11_init 2 0 := ⟨m_104, rfl, m_79, m_105, nhM_0, nhV_0, pdn_30⟩
theorem kI_X12_init : KI yX12_init cX12_init 2 0 := ⟨m_1315, rfl, m_92, m_1316, nhM_17, nhV_17, pdn_30⟩
/-! decode rows -/
theorem dL_law_0 : decode code 0 = .ok (.new 7, 3) := by decide +kernel
theorem dL_law_3 : decode code 3 = .ok (.dup, 1) := by decide +kernel
theorem dL_law_4 : decode code 4 = .ok (.invokespecial 9, 3) := by decide +kernel
theorem dL_law_7 : decode code 7 = .ok (.astore_n 1, 1) := by decide +kernel
theorem dL_law_8 : decode code 8 = .ok (.new 10, 3) := by decide +kernel
theorem dL_law_11 : decode code 11 = .ok (.dup, 1) := by decide +kernel
theorem dL_law_12 : decode code 12 = .ok (.invokespecial 12, 3) := by decide +kernel
theorem dL_law_15 : decode code 15 = .ok (.astore_n 2, 1) := by decide +kernel
theorem dL_law_16 : decode code 16 = .ok (.iconst 0, 1) := by decide +kernel
theorem dL_law_17 : decode code 17 = .ok (.istore_n 3, 1) := by decide +kernel
theorem dL_law_1737 : decode code 1737 = .ok (.iconst 1, 1) := by decide +kernel
theorem dL_law_1738 : decode code 1738 = .ok (.ireturn, 1) := by decide +kernel
end
