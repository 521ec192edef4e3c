/-! words of the tables that are used, by their places; decode rows; classes -/
theorem m_79 : Cond.initialized RX11 ∈ BASE := bmem 79 (by decide +kernel) rfl
theorem m_81 : Cond.initialized RX7 ∈ BASE := bmem 81 (by decide +kernel) rfl
theorem m_85 : Cond.initialized RX5 ∈ BASE := bmem 85 (by decide +kernel) rfl
theorem m_86 : Cond.initialized "java/lang/Math" ∈ BASE := bmem 86 (by decide +kernel) rfl
theorem m_98 : Cond.initialized "java/lang/System" ∈ BASE := bmem 98 (by decide +kernel) rfl
theorem m_107 : Cond.instanceMethod Lib.objectInit ∈ BASE := bmem 107 (by decide +kernel) rfl
theorem m_108 : Cond.code Lib.objectInit ⟨#[0xb1]⟩ 1 none ∈ BASE := bmem 108 (by decide +kernel) rfl
theorem m_120 : Cond.methodLink RX7 1 Lib.objectInit ∈ BASE := bmem 120 (by decide +kernel) rfl
theorem m_121 : Cond.fieldLink RX7 9 "ClickStreet$Street" "occupants" "[I" ∈ BASE := bmem 121 (by decide +kernel) rfl
theorem m_124 : Cond.fieldLink RX7 13 "ClickStreet$Street" "kinds" "[I" ∈ BASE := bmem 124 (by decide +kernel) rfl
theorem m_126 : Cond.fieldLink RX7 16 "ClickStreet$Street" "cells" "[I" ∈ BASE := bmem 126 (by decide +kernel) rfl
theorem m_128 : Cond.fieldLink RX7 19 "ClickStreet$Street" "sides" "[I" ∈ BASE := bmem 128 (by decide +kernel) rfl
theorem m_130 : Cond.fieldLink RX7 22 "ClickStreet$Street" "steps" "[I" ∈ BASE := bmem 130 (by decide +kernel) rfl
theorem m_132 : Cond.fieldLink RX7 25 "ClickStreet$Street" "things" "I" ∈ BASE := bmem 132 (by decide +kernel) rfl
theorem m_146 : Cond.arrayClass .int ∈ BASE := bmem 146 (by decide +kernel) rfl
theorem m_159 : Cond.methodLink RX1 3 Lib.objectInit ∈ BASE := bmem 159 (by decide +kernel) rfl
theorem m_160 : Cond.fieldLink RX1 9 "ClickStreet$Formula" "codes" "[I" ∈ BASE := bmem 160 (by decide +kernel) rfl
theorem m_161 : Cond.fieldLink RX1 13 "ClickStreet$Formula" "stack" "[I" ∈ BASE := bmem 161 (by decide +kernel) rfl
theorem m_162 : Cond.fieldLink RX1 16 "ClickStreet$Formula" "size" "I" ∈ BASE := bmem 162 (by decide +kernel) rfl
theorem m_198 : Cond.methodLink RX3 1 Lib.objectInit ∈ BASE := bmem 198 (by decide +kernel) rfl
theorem m_199 : Cond.classLink RX3 23 RX5 ∈ BASE := bmem 199 (by decide +kernel) rfl
theorem m_200 : Cond.instantiable RX5 2 ∈ BASE := bmem 200 (by decide +kernel) rfl
theorem m_201 : Cond.methodLink RX3 25 yX5_init ∈ BASE := bmem 201 (by decide +kernel) rfl
theorem m_202 : Cond.instanceMethod yX5_init ∈ BASE := bmem 202 (by decide +kernel) rfl
theorem m_203 : Cond.code yX5_init cX5_init 2 none ∈ BASE := bmem 203 (by decide +kernel) rfl
theorem m_204 : Cond.methodLink RX5 1 Lib.objectInit ∈ BASE := bmem 204 (by decide +kernel) rfl
theorem m_205 : Cond.methodLink RX5 13 Lib.Math.max.name ∈ BASE := bmem 205 (by decide +kernel) rfl
theorem m_206 : Cond.static Lib.Math.max.name ∈ BASE := bmem 206 (by decide +kernel) rfl
theorem m_207 : Cond.code Lib.Math.max.name Lib.Math.max.code 2 (some .int) ∈ BASE := bmem 207 (by decide +kernel) rfl
theorem m_208 : Cond.fieldLink RX5 19 "ClickStreet$Row" "numbers" "[I" ∈ BASE := bmem 208 (by decide +kernel) rfl
theorem m_209 : Cond.fieldLink RX5 7 "ClickStreet$Row" "size" "I" ∈ BASE := bmem 209 (by decide +kernel) rfl
theorem m_218 : Cond.fieldLink RX3 9 "ClickStreet$Lessons" "tells" "[I" ∈ BASE := bmem 218 (by decide +kernel) rfl
theorem m_219 : Cond.fieldLink RX3 13 "ClickStreet$Lessons" "needs" "[I" ∈ BASE := bmem 219 (by decide +kernel) rfl
theorem m_220 : Cond.fieldLink RX3 16 "ClickStreet$Lessons" "minutes" "[I" ∈ BASE := bmem 220 (by decide +kernel) rfl
theorem m_221 : Cond.fieldLink RX3 19 "ClickStreet$Lessons" "size" "I" ∈ BASE := bmem 221 (by decide +kernel) rfl
theorem m_223 : Cond.fieldLink RX3 28 "ClickStreet$Lessons" "tried" "LClickStreet$Row;" ∈ BASE := bmem 223 (by decide +kernel) rfl
theorem m_224 : Cond.fieldLink RX3 32 "ClickStreet$Lessons" "best" "LClickStreet$Row;" ∈ BASE := bmem 224 (by decide +kernel) rfl
theorem m_226 : Cond.fieldLink RX3 35 "ClickStreet$Lessons" "wantedBits" "I" ∈ BASE := bmem 226 (by decide +kernel) rfl
theorem m_227 : Cond.fieldLink RX3 38 "ClickStreet$Lessons" "fewestMinutes" "I" ∈ BASE := bmem 227 (by decide +kernel) rfl
theorem m_229 : Cond.fieldLink RX3 41 "ClickStreet$Lessons" "isFound" "Z" ∈ BASE := bmem 229 (by decide +kernel) rfl
theorem m_257 : Cond.methodLink RX9 1 Lib.objectInit ∈ BASE := bmem 257 (by decide +kernel) rfl
theorem m_258 : Cond.fieldLink RX9 7 "ClickStreet$Walker" "kind" "I" ∈ BASE := bmem 258 (by decide +kernel) rfl
theorem m_260 : Cond.fieldLink RX9 13 "ClickStreet$Walker" "cell" "I" ∈ BASE := bmem 260 (by decide +kernel) rfl
theorem m_264 : Cond.fieldLink RX9 16 "ClickStreet$Walker" "side" "I" ∈ BASE := bmem 264 (by decide +kernel) rfl
theorem m_267 : Cond.fieldLink RX9 19 "ClickStreet$Walker" "pitch" "I" ∈ BASE := bmem 267 (by decide +kernel) rfl
theorem m_270 : Cond.fieldLink RX9 22 "ClickStreet$Walker" "loudness" "I" ∈ BASE := bmem 270 (by decide +kernel) rfl
theorem m_272 : Cond.fieldLink RX9 25 "ClickStreet$Walker" "every" "I" ∈ BASE := bmem 272 (by decide +kernel) rfl
theorem m_275 : Cond.fieldLink RX9 28 "ClickStreet$Walker" "isGoing" "Z" ∈ BASE := bmem 275 (by decide +kernel) rfl
theorem m_278 : Cond.fieldLink RX9 32 "ClickStreet$Walker" "bumps" "I" ∈ BASE := bmem 278 (by decide +kernel) rfl
theorem m_280 : Cond.fieldLink RX9 35 "ClickStreet$Walker" "clicks" "I" ∈ BASE := bmem 280 (by decide +kernel) rfl
theorem m_282 : Cond.fieldLink RX9 40 "ClickStreet$Walker" "yes" "[I" ∈ BASE := bmem 282 (by decide +kernel) rfl
theorem m_284 : Cond.fieldLink RX9 44 "ClickStreet$Walker" "no" "[I" ∈ BASE := bmem 284 (by decide +kernel) rfl
theorem m_444 : Cond.methodLink RX6 1 Lib.objectInit ∈ BASE := bmem 444 (by decide +kernel) rfl
theorem m_445 : Cond.fieldLink RX6 7 "ClickStreet$Sheet" "bits" "I" ∈ BASE := bmem 445 (by decide +kernel) rfl
theorem m_447 : Cond.fieldLink RX6 13 "ClickStreet$Sheet" "size" "I" ∈ BASE := bmem 447 (by decide +kernel) rfl
theorem m_450 : Cond.fieldLink RX6 16 "ClickStreet$Sheet" "numbers" "[I" ∈ BASE := bmem 450 (by decide +kernel) rfl
theorem m_494 : Cond.methodLink RX11 89 yX11_within ∈ BASE := bmem 494 (by decide +kernel) rfl
theorem m_495 : Cond.static yX11_within ∈ BASE := bmem 495 (by decide +kernel) rfl
theorem m_496 : Cond.code yX11_within cX11_within 3 (some .boolean) ∈ BASE := bmem 496 (by decide +kernel) rfl
theorem m_498 : Cond.static yX7_isCell ∈ BASE := bmem 498 (by decide +kernel) rfl
theorem m_499 : Cond.code yX7_isCell cX7_isCell 1 (some .boolean) ∈ BASE := bmem 499 (by decide +kernel) rfl
theorem m_509 : Cond.methodLink RX7 29 yX7_isCell ∈ BASE := bmem 509 (by decide +kernel) rfl
theorem m_518 : Cond.methodLink RX7 42 yX7_settle ∈ BASE := bmem 518 (by decide +kernel) rfl
theorem m_519 : Cond.instanceMethod yX7_settle ∈ BASE := bmem 519 (by decide +kernel) rfl
theorem m_520 : Cond.selects yX7_settle.cls yX7_settle yX7_settle ∈ BASE := bmem 520 (by decide +kernel) rfl
theorem m_521 : Cond.code yX7_settle cX7_settle 3 none ∈ BASE := bmem 521 (by decide +kernel) rfl
theorem m_770 : Cond.static Lib.Math.min.name ∈ BASE := bmem 770 (by decide +kernel) rfl
theorem m_771 : Cond.code Lib.Math.min.name Lib.Math.min.code 2 (some .int) ∈ BASE := bmem 771 (by decide +kernel) rfl
theorem m_828 : Cond.methodLink RX1 20 arraycopyName ∈ BASE := bmem 828 (by decide +kernel) rfl
theorem m_829 : Cond.static arraycopyName ∈ BASE := bmem 829 (by decide +kernel) rfl
theorem m_830 : Cond.native arraycopyName ∈ BASE := bmem 830 (by decide +kernel) rfl
theorem m_1146 : Cond.methodLink RX5 23 Lib.Math.min.name ∈ BASE := bmem 1146 (by decide +kernel) rfl
theorem m_1230 : Cond.methodLink RX6 20 Lib.Math.min.name ∈ BASE := bmem 1230 (by decide +kernel) rfl
theorem m_1231 : Cond.methodLink RX6 26 Lib.Math.max.name ∈ BASE := bmem 1231 (by decide +kernel) rfl
theorem m_1262 : Cond.methodLink RX7 60 arraycopyName ∈ BASE := bmem 1262 (by decide +kernel) rfl
theorem kI_X5_init : KI yX5_init cX5_init 2 1 := ⟨m_202, rfl, m_85, m_203, by decide +kernel, by decide +kernel, by decide +kernel⟩
theorem kS_X11_within : KS yX11_within cX11_within 3 (some .boolean) 3 := ⟨m_495, m_79, m_496, by decide +kernel, by decide +kernel, by decide +kernel⟩
theorem kS_X7_isCell : KS yX7_isCell cX7_isCell 1 (some .boolean) 1 := ⟨m_498, m_81, m_499, by decide +kernel, by decide +kernel, by decide +kernel⟩
theorem kV_X7_settle : KV yX7_settle cX7_settle 3 none 2 := ⟨m_519, m_520, m_81, m_521, by decide +kernel, by decide +kernel, by decide +kernel⟩
theorem inB1 : ∀ w ∈ u_ws RX1 TX1 3, w ∈ BASE := bmems (u_ws RX1 TX1 3) [163, 165, 167] (by decide +kernel) (by decide +kernel)
theorem df1 : ∀ j, j < 3 → defaultValue (tyX1 j) = vp_V [.null, .null, .int 0] j := fun j hj => by rcases (show j = 0 ∨ j = 1 ∨ j = 2 by omega) with rfl | rfl | rfl <;> rfl
theorem inB3 : ∀ w ∈ u_ws RX3 TX3 9, w ∈ BASE := bmems (u_ws RX3 TX3 9) [230, 232, 234, 236, 238, 240, 242, 244, 246] (by decide +kernel) (by decide +kernel)
theorem df3 : ∀ j, j < 9 → defaultValue (tyX3 j) = vp_V [.null, .null, .null, .int 0, .null, .null, .int 0, .int 0, .int 0] j := fun j hj => by rcases (show j = 0 ∨ j = 1 ∨ j = 2 ∨ j = 3 ∨ j = 4 ∨ j = 5 ∨ j = 6 ∨ j = 7 ∨ j = 8 by omega) with rfl | rfl | rfl | rfl | rfl | rfl | rfl | rfl | rfl <;> rfl
theorem inB5 : ∀ w ∈ u_ws RX5 TX5 2, w ∈ BASE := bmems (u_ws RX5 TX5 2) [213, 215] (by decide +kernel) (by decide +kernel)
theorem df5 : ∀ j, j < 2 → defaultValue (tyX5 j) = vp_V [.null, .int 0] j := fun j hj => by rcases (show j = 0 ∨ j = 1 by omega) with rfl | rfl <;> rfl
theorem inB6 : ∀ w ∈ u_ws RX6 TX6 3, w ∈ BASE := bmems (u_ws RX6 TX6 3) [452, 454, 456] (by decide +kernel) (by decide +kernel)
theorem df6 : ∀ j, j < 3 → defaultValue (tyX6 j) = vp_V [.int 0, .int 0, .null] j := fun j hj => by rcases (show j = 0 ∨ j = 1 ∨ j = 2 by omega) with rfl | rfl | rfl <;> rfl
theorem inB7 : ∀ w ∈ u_ws RX7 TX7 6, w ∈ BASE := bmems (u_ws RX7 TX7 6) [133, 135, 137, 139, 141, 143] (by decide +kernel) (by decide +kernel)
theorem df7 : ∀ j, j < 6 → defaultValue (tyX7 j) = vp_V [.null, .null, .null, .null, .null, .int 0] j := fun j hj => by rcases (show j = 0 ∨ j = 1 ∨ j = 2 ∨ j = 3 ∨ j = 4 ∨ j = 5 by omega) with rfl | rfl | rfl | rfl | rfl | rfl <;> rfl
theorem inB9 : ∀ w ∈ u_ws RX9 TX9 11, w ∈ BASE := bmems (u_ws RX9 TX9 11) [286, 288, 290, 292, 294, 296, 298, 300, 302, 304, 306] (by decide +kernel) (by decide +kernel)
theorem df9 : ∀ j, j < 11 → defaultValue (tyX9 j) = vp_V [.int 0, .int 0, .int 0, .int 0, .int 0, .int 0, .int 0, .int 0, .int 0, .null, .null] j := fun j hj => by rcases (show j = 0 ∨ j = 1 ∨ j = 2 ∨ j = 3 ∨ j = 4 ∨ j = 5 ∨ j = 6 ∨ j = 7 ∨ j = 8 ∨ j = 9 ∨ j = 10 by omega) with rfl | rfl | rfl | rfl | rfl | rfl | rfl | rfl | rfl | rfl | rfl <;> rfl
/-! decode rows -/
theorem dX11_isBits_0 : decode cX11_isBits 0 = .ok (.iload_n 0, 1) := by decide +kernel
theorem dX11_isBits_1 : decode cX11_isBits 1 = .ok (.iconst 0, 1) := by decide +kernel
theorem dX11_isBits_2 : decode cX11_isBits 2 = .ok (.bipush 31, 2) := by decide +kernel
theorem dX11_isBits_4 : decode cX11_isBits 4 = .ok (.invokestatic 89, 3) := by decide +kernel
theorem dX11_isBits_7 : decode cX11_isBits 7 = .ok (.ireturn, 1) := by decide +kernel
theorem dX11_isSheet_0 : decode cX11_isSheet 0 = .ok (.iload_n 0, 1) := by decide +kernel
theorem dX11_isSheet_1 : decode cX11_isSheet 1 = .ok (.iconst 0, 1) := by decide +kernel
theorem dX11_isSheet_2 : decode cX11_isSheet 2 = .ok (.iconst 3, 1) := by decide +kernel
theorem dX11_isSheet_3 : decode cX11_isSheet 3 = .ok (.invokestatic 89, 3) := by decide +kernel
theorem dX11_isSheet_6 : decode cX11_isSheet 6 = .ok (.ireturn, 1) := by decide +kernel
theorem dX11_isThingKind_0 : decode cX11_isThingKind 0 = .ok (.iload_n 0, 1) := by decide +kernel
theorem dX11_isThingKind_1 : decode cX11_isThingKind 1 = .ok (.iconst 0, 1) := by decide +kernel
theorem dX11_isThingKind_2 : decode cX11_isThingKind 2 = .ok (.iconst 4, 1) := by decide +kernel
theorem dX11_isThingKind_3 : decode cX11_isThingKind 3 = .ok (.invokestatic 89, 3) := by decide +kernel
theorem dX11_isThingKind_6 : decode cX11_isThingKind 6 = .ok (.ireturn, 1) := by decide +kernel
theorem dX11_isWalkerKind_0 : decode cX11_isWalkerKind 0 = .ok (.iload_n 0, 1) := by decide +kernel
theorem dX11_isWalkerKind_1 : decode cX11_isWalkerKind 1 = .ok (.iconst 0, 1) := by decide +kernel
theorem dX11_isWalkerKind_2 : decode cX11_isWalkerKind 2 = .ok (.bipush 7, 2) := by decide +kernel
theorem dX11_isWalkerKind_4 : decode cX11_isWalkerKind 4 = .ok (.invokestatic 89, 3) := by decide +kernel
theorem dX11_isWalkerKind_7 : decode cX11_isWalkerKind 7 = .ok (.ireturn, 1) := by decide +kernel
theorem dX11_within_0 : decode cX11_within 0 = .ok (.iload_n 0, 1) := by decide +kernel
theorem dX11_within_1 : decode cX11_within 1 = .ok (.iload_n 1, 1) := by decide +kernel
theorem dX11_within_2 : decode cX11_within 2 = .ok (.if_icmp .lt 12, 3) := by decide +kernel
theorem dX11_within_5 : decode cX11_within 5 = .ok (.iload_n 0, 1) := by decide +kernel
theorem dX11_within_6 : decode cX11_within 6 = .ok (.iload_n 2, 1) := by decide +kernel
theorem dX11_within_7 : decode cX11_within 7 = .ok (.if_icmp .gt 7, 3) := by decide +kernel
theorem dX11_within_10 : decode cX11_within 10 = .ok (.iconst 1, 1) := by decide +kernel
theorem dX11_within_11 : decode cX11_within 11 = .ok (.goto 4, 3) := by decide +kernel
theorem dX11_within_14 : decode cX11_within 14 = .ok (.iconst 0, 1) := by decide +kernel
theorem dX11_within_15 : decode cX11_within 15 = .ok (.ireturn, 1) := by decide +kernel
theorem dX1_clear_0 : decode cX1_clear 0 = .ok (.aload_n 0, 1) := by decide +kernel
theorem dX1_clear_1 : decode cX1_clear 1 = .ok (.iconst 0, 1) := by decide +kernel
theorem dX1_clear_2 : decode cX1_clear 2 = .ok (.putfield 16, 3) := by decide +kernel
theorem dX1_clear_5 : decode cX1_clear 5 = .ok (.return_, 1) := by decide +kernel
theorem dX1_init_0 : decode cX1_init 0 = .ok (.aload_n 0, 1) := by decide +kernel
theorem dX1_init_1 : decode cX1_init 1 = .ok (.invokespecial 3, 3) := by decide +kernel
theorem dX1_init_4 : decode cX1_init 4 = .ok (.aload_n 0, 1) := by decide +kernel
theorem dX1_init_5 : decode cX1_init 5 = .ok (.bipush 48, 2) := by decide +kernel
theorem dX1_init_7 : decode cX1_init 7 = .ok (.newarray .int, 2) := by decide +kernel
theorem dX1_init_9 : decode cX1_init 9 = .ok (.putfield 9, 3) := by decide +kernel
theorem dX1_init_12 : decode cX1_init 12 = .ok (.aload_n 0, 1) := by decide +kernel
theorem dX1_init_13 : decode cX1_init 13 = .ok (.bipush 48, 2) := by decide +kernel
theorem dX1_init_15 : decode cX1_init 15 = .ok (.newarray .int, 2) := by decide +kernel
theorem dX1_init_17 : decode cX1_init 17 = .ok (.putfield 13, 3) := by decide +kernel
theorem dX1_init_20 : decode cX1_init 20 = .ok (.aload_n 0, 1) := by decide +kernel
theorem dX1_init_21 : decode cX1_init 21 = .ok (.iconst 0, 1) := by decide +kernel
theorem dX1_init_22 : decode cX1_init 22 = .ok (.putfield 16, 3) := by decide +kernel
theorem dX1_init_25 : decode cX1_init 25 = .ok (.return_, 1) := by decide +kernel
theorem dX1_takeFrom_0 : decode cX1_takeFrom 0 = .ok (.aload_n 0, 1) := by decide +kernel
theorem dX1_takeFrom_1 : decode cX1_takeFrom 1 = .ok (.aload_n 1, 1) := by decide +kernel
theorem dX1_takeFrom_2 : decode cX1_takeFrom 2 = .ok (.getfield 16, 3) := by decide +kernel
theorem dX1_takeFrom_5 : decode cX1_takeFrom 5 = .ok (.putfield 16, 3) := by decide +kernel
theorem dX1_takeFrom_8 : decode cX1_takeFrom 8 = .ok (.aload_n 1, 1) := by decide +kernel
theorem dX1_takeFrom_9 : decode cX1_takeFrom 9 = .ok (.getfield 9, 3) := by decide +kernel
theorem dX1_takeFrom_12 : decode cX1_takeFrom 12 = .ok (.iconst 0, 1) := by decide +kernel
theorem dX1_takeFrom_13 : decode cX1_takeFrom 13 = .ok (.aload_n 0, 1) := by decide +kernel
theorem dX1_takeFrom_14 : decode cX1_takeFrom 14 = .ok (.getfield 9, 3) := by decide +kernel
theorem dX1_takeFrom_17 : decode cX1_takeFrom 17 = .ok (.iconst 0, 1) := by decide +kernel
theorem dX1_takeFrom_18 : decode cX1_takeFrom 18 = .ok (.bipush 48, 2) := by decide +kernel
theorem dX1_takeFrom_20 : decode cX1_takeFrom 20 = .ok (.invokestatic 20, 3) := by decide +kernel
theorem dX1_takeFrom_23 : decode cX1_takeFrom 23 = .ok (.return_, 1) := by decide +kernel
theorem dX3_add_0 : decode cX3_add 0 = .ok (.aload_n 0, 1) := by decide +kernel
theorem dX3_add_1 : decode cX3_add 1 = .ok (.getfield 19, 3) := by decide +kernel
theorem dX3_add_4 : decode cX3_add 4 = .ok (.istore 4, 2) := by decide +kernel
theorem dX3_add_6 : decode cX3_add 6 = .ok (.iload 4, 2) := by decide +kernel
theorem dX3_add_8 : decode cX3_add 8 = .ok (.ifCond .lt 10, 3) := by decide +kernel
theorem dX3_add_11 : decode cX3_add 11 = .ok (.iload 4, 2) := by decide +kernel
theorem dX3_add_13 : decode cX3_add 13 = .ok (.bipush 7, 2) := by decide +kernel
theorem dX3_add_15 : decode cX3_add 15 = .ok (.if_icmp .lt 5, 3) := by decide +kernel
theorem dX3_add_20 : decode cX3_add 20 = .ok (.aload_n 0, 1) := by decide +kernel
theorem dX3_add_21 : decode cX3_add 21 = .ok (.getfield 9, 3) := by decide +kernel
theorem dX3_add_24 : decode cX3_add 24 = .ok (.iload 4, 2) := by decide +kernel
theorem dX3_add_26 : decode cX3_add 26 = .ok (.iload_n 1, 1) := by decide +kernel
theorem dX3_add_27 : decode cX3_add 27 = .ok (.iastore, 1) := by decide +kernel
theorem dX3_add_28 : decode cX3_add 28 = .ok (.aload_n 0, 1) := by decide +kernel
theorem dX3_add_29 : decode cX3_add 29 = .ok (.getfield 13, 3) := by decide +kernel
theorem dX3_add_32 : decode cX3_add 32 = .ok (.iload 4, 2) := by decide +kernel
theorem dX3_add_34 : decode cX3_add 34 = .ok (.iload_n 2, 1) := by decide +kernel
theorem dX3_add_35 : decode cX3_add 35 = .ok (.iastore, 1) := by decide +kernel
theorem dX3_add_36 : decode cX3_add 36 = .ok (.aload_n 0, 1) := by decide +kernel
theorem dX3_add_37 : decode cX3_add 37 = .ok (.getfield 16, 3) := by decide +kernel
theorem dX3_add_40 : decode cX3_add 40 = .ok (.iload 4, 2) := by decide +kernel
theorem dX3_add_42 : decode cX3_add 42 = .ok (.iload_n 3, 1) := by decide +kernel
theorem dX3_add_43 : decode cX3_add 43 = .ok (.iastore, 1) := by decide +kernel
theorem dX3_add_44 : decode cX3_add 44 = .ok (.aload_n 0, 1) := by decide +kernel
theorem dX3_add_45 : decode cX3_add 45 = .ok (.dup, 1) := by decide +kernel
theorem dX3_add_46 : decode cX3_add 46 = .ok (.getfield 19, 3) := by decide +kernel
theorem dX3_add_49 : decode cX3_add 49 = .ok (.iconst 1, 1) := by decide +kernel
theorem dX3_add_50 : decode cX3_add 50 = .ok (.iadd, 1) := by decide +kernel
theorem dX3_add_51 : decode cX3_add 51 = .ok (.putfield 19, 3) := by decide +kernel
theorem dX3_add_54 : decode cX3_add 54 = .ok (.iload 4, 2) := by decide +kernel
theorem dX3_add_56 : decode cX3_add 56 = .ok (.ireturn, 1) := by decide +kernel
theorem dX3_hasRoom_0 : decode cX3_hasRoom 0 = .ok (.aload_n 0, 1) := by decide +kernel
theorem dX3_hasRoom_1 : decode cX3_hasRoom 1 = .ok (.getfield 19, 3) := by decide +kernel
theorem dX3_hasRoom_4 : decode cX3_hasRoom 4 = .ok (.bipush 7, 2) := by decide +kernel
theorem dX3_hasRoom_6 : decode cX3_hasRoom 6 = .ok (.if_icmp .ge 7, 3) := by decide +kernel
theorem dX3_hasRoom_9 : decode cX3_hasRoom 9 = .ok (.iconst 1, 1) := by decide +kernel
theorem dX3_hasRoom_10 : decode cX3_hasRoom 10 = .ok (.goto 4, 3) := by decide +kernel
theorem dX3_hasRoom_14 : decode cX3_hasRoom 14 = .ok (.ireturn, 1) := by decide +kernel
theorem dX3_init_0 : decode cX3_init 0 = .ok (.aload_n 0, 1) := by decide +kernel
theorem dX3_init_1 : decode cX3_init 1 = .ok (.invokespecial 1, 3) := by decide +kernel
theorem dX3_init_4 : decode cX3_init 4 = .ok (.aload_n 0, 1) := by decide +kernel
theorem dX3_init_5 : decode cX3_init 5 = .ok (.bipush 7, 2) := by decide +kernel
theorem dX3_init_7 : decode cX3_init 7 = .ok (.newarray .int, 2) := by decide +kernel
theorem dX3_init_9 : decode cX3_init 9 = .ok (.putfield 9, 3) := by decide +kernel
theorem dX3_init_12 : decode cX3_init 12 = .ok (.aload_n 0, 1) := by decide +kernel
theorem dX3_init_13 : decode cX3_init 13 = .ok (.bipush 7, 2) := by decide +kernel
theorem dX3_init_15 : decode cX3_init 15 = .ok (.newarray .int, 2) := by decide +kernel
theorem dX3_init_17 : decode cX3_init 17 = .ok (.putfield 13, 3) := by decide +kernel
theorem dX3_init_20 : decode cX3_init 20 = .ok (.aload_n 0, 1) := by decide +kernel
theorem dX3_init_21 : decode cX3_init 21 = .ok (.bipush 7, 2) := by decide +kernel
theorem dX3_init_23 : decode cX3_init 23 = .ok (.newarray .int, 2) := by decide +kernel
theorem dX3_init_25 : decode cX3_init 25 = .ok (.putfield 16, 3) := by decide +kernel
theorem dX3_init_28 : decode cX3_init 28 = .ok (.aload_n 0, 1) := by decide +kernel
theorem dX3_init_29 : decode cX3_init 29 = .ok (.iconst 0, 1) := by decide +kernel
theorem dX3_init_30 : decode cX3_init 30 = .ok (.putfield 19, 3) := by decide +kernel
theorem dX3_init_33 : decode cX3_init 33 = .ok (.aload_n 0, 1) := by decide +kernel
theorem dX3_init_34 : decode cX3_init 34 = .ok (.new 23, 3) := by decide +kernel
theorem dX3_init_37 : decode cX3_init 37 = .ok (.dup, 1) := by decide +kernel
theorem dX3_init_38 : decode cX3_init 38 = .ok (.bipush 7, 2) := by decide +kernel
theorem dX3_init_40 : decode cX3_init 40 = .ok (.invokespecial 25, 3) := by decide +kernel
theorem dX3_init_43 : decode cX3_init 43 = .ok (.putfield 28, 3) := by decide +kernel
theorem dX3_init_46 : decode cX3_init 46 = .ok (.aload_n 0, 1) := by decide +kernel
theorem dX3_init_47 : decode cX3_init 47 = .ok (.new 23, 3) := by decide +kernel
theorem dX3_init_50 : decode cX3_init 50 = .ok (.dup, 1) := by decide +kernel
theorem dX3_init_51 : decode cX3_init 51 = .ok (.bipush 7, 2) := by decide +kernel
theorem dX3_init_53 : decode cX3_init 53 = .ok (.invokespecial 25, 3) := by decide +kernel
theorem dX3_init_56 : decode cX3_init 56 = .ok (.putfield 32, 3) := by decide +kernel
theorem dX3_init_59 : decode cX3_init 59 = .ok (.aload_n 0, 1) := by decide +kernel
theorem dX3_init_60 : decode cX3_init 60 = .ok (.iconst 0, 1) := by decide +kernel
theorem dX3_init_61 : decode cX3_init 61 = .ok (.putfield 35, 3) := by decide +kernel
theorem dX3_init_64 : decode cX3_init 64 = .ok (.aload_n 0, 1) := by decide +kernel
theorem dX3_init_65 : decode cX3_init 65 = .ok (.iconst 0, 1) := by decide +kernel
theorem dX3_init_66 : decode cX3_init 66 = .ok (.putfield 38, 3) := by decide +kernel
theorem dX3_init_69 : decode cX3_init 69 = .ok (.aload_n 0, 1) := by decide +kernel
theorem dX3_init_70 : decode cX3_init 70 = .ok (.iconst 0, 1) := by decide +kernel
theorem dX3_init_71 : decode cX3_init 71 = .ok (.putfield 41, 3) := by decide +kernel
theorem dX3_init_74 : decode cX3_init 74 = .ok (.return_, 1) := by decide +kernel
theorem dX5_add_0 : decode cX5_add 0 = .ok (.aload_n 0, 1) := by decide +kernel
theorem dX5_add_1 : decode cX5_add 1 = .ok (.getfield 7, 3) := by decide +kernel
theorem dX5_add_4 : decode cX5_add 4 = .ok (.ifCond .lt 35, 3) := by decide +kernel
theorem dX5_add_7 : decode cX5_add 7 = .ok (.aload_n 0, 1) := by decide +kernel
theorem dX5_add_8 : decode cX5_add 8 = .ok (.getfield 7, 3) := by decide +kernel
theorem dX5_add_11 : decode cX5_add 11 = .ok (.aload_n 0, 1) := by decide +kernel
theorem dX5_add_12 : decode cX5_add 12 = .ok (.getfield 19, 3) := by decide +kernel
theorem dX5_add_15 : decode cX5_add 15 = .ok (.arraylength, 1) := by decide +kernel
theorem dX5_add_16 : decode cX5_add 16 = .ok (.if_icmp .ge 23, 3) := by decide +kernel
theorem dX5_add_19 : decode cX5_add 19 = .ok (.aload_n 0, 1) := by decide +kernel
theorem dX5_add_20 : decode cX5_add 20 = .ok (.getfield 19, 3) := by decide +kernel
theorem dX5_add_23 : decode cX5_add 23 = .ok (.aload_n 0, 1) := by decide +kernel
theorem dX5_add_24 : decode cX5_add 24 = .ok (.getfield 7, 3) := by decide +kernel
theorem dX5_add_27 : decode cX5_add 27 = .ok (.iload_n 1, 1) := by decide +kernel
theorem dX5_add_28 : decode cX5_add 28 = .ok (.iastore, 1) := by decide +kernel
theorem dX5_add_29 : decode cX5_add 29 = .ok (.aload_n 0, 1) := by decide +kernel
theorem dX5_add_30 : decode cX5_add 30 = .ok (.dup, 1) := by decide +kernel
theorem dX5_add_31 : decode cX5_add 31 = .ok (.getfield 7, 3) := by decide +kernel
theorem dX5_add_34 : decode cX5_add 34 = .ok (.iconst 1, 1) := by decide +kernel
theorem dX5_add_35 : decode cX5_add 35 = .ok (.iadd, 1) := by decide +kernel
theorem dX5_add_36 : decode cX5_add 36 = .ok (.putfield 7, 3) := by decide +kernel
theorem dX5_add_39 : decode cX5_add 39 = .ok (.return_, 1) := by decide +kernel
theorem dX5_clear_0 : decode cX5_clear 0 = .ok (.aload_n 0, 1) := by decide +kernel
theorem dX5_clear_1 : decode cX5_clear 1 = .ok (.iconst 0, 1) := by decide +kernel
theorem dX5_clear_2 : decode cX5_clear 2 = .ok (.putfield 7, 3) := by decide +kernel
theorem dX5_clear_5 : decode cX5_clear 5 = .ok (.return_, 1) := by decide +kernel
theorem dX5_has_0 : decode cX5_has 0 = .ok (.iload_n 1, 1) := by decide +kernel
theorem dX5_has_1 : decode cX5_has 1 = .ok (.ifCond .lt 15, 3) := by decide +kernel
theorem dX5_has_4 : decode cX5_has 4 = .ok (.iload_n 1, 1) := by decide +kernel
theorem dX5_has_5 : decode cX5_has 5 = .ok (.aload_n 0, 1) := by decide +kernel
theorem dX5_has_6 : decode cX5_has 6 = .ok (.getfield 7, 3) := by decide +kernel
theorem dX5_has_9 : decode cX5_has 9 = .ok (.if_icmp .ge 7, 3) := by decide +kernel
theorem dX5_has_12 : decode cX5_has 12 = .ok (.iconst 1, 1) := by decide +kernel
theorem dX5_has_13 : decode cX5_has 13 = .ok (.goto 4, 3) := by decide +kernel
theorem dX5_has_16 : decode cX5_has 16 = .ok (.iconst 0, 1) := by decide +kernel
theorem dX5_has_17 : decode cX5_has 17 = .ok (.ireturn, 1) := by decide +kernel
theorem dX5_init_0 : decode cX5_init 0 = .ok (.aload_n 0, 1) := by decide +kernel
theorem dX5_init_1 : decode cX5_init 1 = .ok (.invokespecial 1, 3) := by decide +kernel
theorem dX5_init_4 : decode cX5_init 4 = .ok (.aload_n 0, 1) := by decide +kernel
theorem dX5_init_5 : decode cX5_init 5 = .ok (.iconst 0, 1) := by decide +kernel
theorem dX5_init_6 : decode cX5_init 6 = .ok (.putfield 7, 3) := by decide +kernel
theorem dX5_init_9 : decode cX5_init 9 = .ok (.aload_n 0, 1) := by decide +kernel
theorem dX5_init_10 : decode cX5_init 10 = .ok (.iconst 0, 1) := by decide +kernel
theorem dX5_init_11 : decode cX5_init 11 = .ok (.iload_n 1, 1) := by decide +kernel
theorem dX5_init_12 : decode cX5_init 12 = .ok (.invokestatic 13, 3) := by decide +kernel
theorem dX5_init_15 : decode cX5_init 15 = .ok (.newarray .int, 2) := by decide +kernel
theorem dX5_init_17 : decode cX5_init 17 = .ok (.putfield 19, 3) := by decide +kernel
theorem dX5_init_20 : decode cX5_init 20 = .ok (.return_, 1) := by decide +kernel
theorem dX5_room_0 : decode cX5_room 0 = .ok (.aload_n 0, 1) := by decide +kernel
theorem dX5_room_1 : decode cX5_room 1 = .ok (.getfield 19, 3) := by decide +kernel
theorem dX5_room_4 : decode cX5_room 4 = .ok (.arraylength, 1) := by decide +kernel
theorem dX5_room_5 : decode cX5_room 5 = .ok (.aload_n 0, 1) := by decide +kernel
theorem dX5_room_6 : decode cX5_room 6 = .ok (.getfield 7, 3) := by decide +kernel
theorem dX5_room_9 : decode cX5_room 9 = .ok (.isub, 1) := by decide +kernel
theorem dX5_room_10 : decode cX5_room 10 = .ok (.ireturn, 1) := by decide +kernel
theorem dX5_takeFrom_0 : decode cX5_takeFrom 0 = .ok (.aload_n 0, 1) := by decide +kernel
theorem dX5_takeFrom_1 : decode cX5_takeFrom 1 = .ok (.aload_n 1, 1) := by decide +kernel
theorem dX5_takeFrom_2 : decode cX5_takeFrom 2 = .ok (.getfield 7, 3) := by decide +kernel
theorem dX5_takeFrom_5 : decode cX5_takeFrom 5 = .ok (.aload_n 0, 1) := by decide +kernel
theorem dX5_takeFrom_6 : decode cX5_takeFrom 6 = .ok (.getfield 19, 3) := by decide +kernel
theorem dX5_takeFrom_9 : decode cX5_takeFrom 9 = .ok (.arraylength, 1) := by decide +kernel
theorem dX5_takeFrom_10 : decode cX5_takeFrom 10 = .ok (.invokestatic 23, 3) := by decide +kernel
theorem dX5_takeFrom_13 : decode cX5_takeFrom 13 = .ok (.putfield 7, 3) := by decide +kernel
theorem dX5_takeFrom_16 : decode cX5_takeFrom 16 = .ok (.iconst 0, 1) := by decide +kernel
theorem dX5_takeFrom_17 : decode cX5_takeFrom 17 = .ok (.istore_n 2, 1) := by decide +kernel
theorem dX5_takeFrom_18 : decode cX5_takeFrom 18 = .ok (.iload_n 2, 1) := by decide +kernel
theorem dX5_takeFrom_19 : decode cX5_takeFrom 19 = .ok (.aload_n 0, 1) := by decide +kernel
theorem dX5_takeFrom_20 : decode cX5_takeFrom 20 = .ok (.getfield 7, 3) := by decide +kernel
theorem dX5_takeFrom_23 : decode cX5_takeFrom 23 = .ok (.if_icmp .ge 20, 3) := by decide +kernel
theorem dX5_takeFrom_43 : decode cX5_takeFrom 43 = .ok (.return_, 1) := by decide +kernel
theorem dX6_begin_0 : decode cX6_begin 0 = .ok (.aload_n 0, 1) := by decide +kernel
theorem dX6_begin_1 : decode cX6_begin 1 = .ok (.iload_n 1, 1) := by decide +kernel
theorem dX6_begin_2 : decode cX6_begin 2 = .ok (.putfield 7, 3) := by decide +kernel
theorem dX6_begin_5 : decode cX6_begin 5 = .ok (.aload_n 0, 1) := by decide +kernel
theorem dX6_begin_6 : decode cX6_begin 6 = .ok (.iconst 0, 1) := by decide +kernel
theorem dX6_begin_7 : decode cX6_begin 7 = .ok (.bipush 24, 2) := by decide +kernel
theorem dX6_begin_9 : decode cX6_begin 9 = .ok (.iload_n 2, 1) := by decide +kernel
theorem dX6_begin_10 : decode cX6_begin 10 = .ok (.invokestatic 20, 3) := by decide +kernel
theorem dX6_begin_13 : decode cX6_begin 13 = .ok (.invokestatic 26, 3) := by decide +kernel
theorem dX6_begin_16 : decode cX6_begin 16 = .ok (.putfield 13, 3) := by decide +kernel
theorem dX6_begin_19 : decode cX6_begin 19 = .ok (.iconst 0, 1) := by decide +kernel
theorem dX6_begin_20 : decode cX6_begin 20 = .ok (.istore_n 3, 1) := by decide +kernel
theorem dX6_begin_21 : decode cX6_begin 21 = .ok (.iload_n 3, 1) := by decide +kernel
theorem dX6_begin_22 : decode cX6_begin 22 = .ok (.bipush 24, 2) := by decide +kernel
theorem dX6_begin_24 : decode cX6_begin 24 = .ok (.if_icmp .ge 16, 3) := by decide +kernel
theorem dX6_begin_27 : decode cX6_begin 27 = .ok (.aload_n 0, 1) := by decide +kernel
theorem dX6_begin_28 : decode cX6_begin 28 = .ok (.getfield 16, 3) := by decide +kernel
theorem dX6_begin_31 : decode cX6_begin 31 = .ok (.iload_n 3, 1) := by decide +kernel
theorem dX6_begin_32 : decode cX6_begin 32 = .ok (.iconst 0, 1) := by decide +kernel
theorem dX6_begin_33 : decode cX6_begin 33 = .ok (.iastore, 1) := by decide +kernel
theorem dX6_begin_34 : decode cX6_begin 34 = .ok (.iinc 3 1, 3) := by decide +kernel
theorem dX6_begin_37 : decode cX6_begin 37 = .ok (.goto (-16), 3) := by decide +kernel
theorem dX6_begin_40 : decode cX6_begin 40 = .ok (.return_, 1) := by decide +kernel
theorem dX6_drop_0 : decode cX6_drop 0 = .ok (.aload_n 0, 1) := by decide +kernel
theorem dX6_drop_1 : decode cX6_drop 1 = .ok (.iconst 0, 1) := by decide +kernel
theorem dX6_drop_2 : decode cX6_drop 2 = .ok (.putfield 7, 3) := by decide +kernel
theorem dX6_drop_5 : decode cX6_drop 5 = .ok (.aload_n 0, 1) := by decide +kernel
theorem dX6_drop_6 : decode cX6_drop 6 = .ok (.iconst 0, 1) := by decide +kernel
theorem dX6_drop_7 : decode cX6_drop 7 = .ok (.putfield 13, 3) := by decide +kernel
theorem dX6_drop_10 : decode cX6_drop 10 = .ok (.return_, 1) := by decide +kernel
theorem dX6_init_0 : decode cX6_init 0 = .ok (.aload_n 0, 1) := by decide +kernel
theorem dX6_init_1 : decode cX6_init 1 = .ok (.invokespecial 1, 3) := by decide +kernel
theorem dX6_init_4 : decode cX6_init 4 = .ok (.aload_n 0, 1) := by decide +kernel
theorem dX6_init_5 : decode cX6_init 5 = .ok (.iconst 0, 1) := by decide +kernel
theorem dX6_init_6 : decode cX6_init 6 = .ok (.putfield 7, 3) := by decide +kernel
theorem dX6_init_9 : decode cX6_init 9 = .ok (.aload_n 0, 1) := by decide +kernel
theorem dX6_init_10 : decode cX6_init 10 = .ok (.iconst 0, 1) := by decide +kernel
theorem dX6_init_11 : decode cX6_init 11 = .ok (.putfield 13, 3) := by decide +kernel
theorem dX6_init_14 : decode cX6_init 14 = .ok (.aload_n 0, 1) := by decide +kernel
theorem dX6_init_15 : decode cX6_init 15 = .ok (.bipush 24, 2) := by decide +kernel
theorem dX6_init_17 : decode cX6_init 17 = .ok (.newarray .int, 2) := by decide +kernel
theorem dX6_init_19 : decode cX6_init 19 = .ok (.putfield 16, 3) := by decide +kernel
theorem dX6_init_22 : decode cX6_init 22 = .ok (.return_, 1) := by decide +kernel
theorem dX6_isMissing_0 : decode cX6_isMissing 0 = .ok (.aload_n 0, 1) := by decide +kernel
theorem dX6_isMissing_1 : decode cX6_isMissing 1 = .ok (.getfield 7, 3) := by decide +kernel
theorem dX6_isMissing_4 : decode cX6_isMissing 4 = .ok (.ifCond .ne 7, 3) := by decide +kernel
theorem dX6_isMissing_7 : decode cX6_isMissing 7 = .ok (.iconst 1, 1) := by decide +kernel
theorem dX6_isMissing_8 : decode cX6_isMissing 8 = .ok (.goto 4, 3) := by decide +kernel
theorem dX6_isMissing_12 : decode cX6_isMissing 12 = .ok (.ireturn, 1) := by decide +kernel
theorem dX7_addThing_0 : decode cX7_addThing 0 = .ok (.aload_n 0, 1) := by decide +kernel
theorem dX7_addThing_1 : decode cX7_addThing 1 = .ok (.getfield 25, 3) := by decide +kernel
theorem dX7_addThing_4 : decode cX7_addThing 4 = .ok (.istore_n 3, 1) := by decide +kernel
theorem dX7_addThing_5 : decode cX7_addThing 5 = .ok (.iload_n 3, 1) := by decide +kernel
theorem dX7_addThing_6 : decode cX7_addThing 6 = .ok (.ifCond .lt 9, 3) := by decide +kernel
theorem dX7_addThing_9 : decode cX7_addThing 9 = .ok (.iload_n 3, 1) := by decide +kernel
theorem dX7_addThing_10 : decode cX7_addThing 10 = .ok (.bipush 40, 2) := by decide +kernel
theorem dX7_addThing_12 : decode cX7_addThing 12 = .ok (.if_icmp .lt 5, 3) := by decide +kernel
theorem dX7_addThing_17 : decode cX7_addThing 17 = .ok (.aload_n 0, 1) := by decide +kernel
theorem dX7_addThing_18 : decode cX7_addThing 18 = .ok (.getfield 13, 3) := by decide +kernel
theorem dX7_addThing_21 : decode cX7_addThing 21 = .ok (.iload_n 3, 1) := by decide +kernel
theorem dX7_addThing_22 : decode cX7_addThing 22 = .ok (.iload_n 1, 1) := by decide +kernel
theorem dX7_addThing_23 : decode cX7_addThing 23 = .ok (.iastore, 1) := by decide +kernel
theorem dX7_addThing_24 : decode cX7_addThing 24 = .ok (.aload_n 0, 1) := by decide +kernel
theorem dX7_addThing_25 : decode cX7_addThing 25 = .ok (.getfield 16, 3) := by decide +kernel
theorem dX7_addThing_28 : decode cX7_addThing 28 = .ok (.iload_n 3, 1) := by decide +kernel
theorem dX7_addThing_29 : decode cX7_addThing 29 = .ok (.iload_n 2, 1) := by decide +kernel
theorem dX7_addThing_30 : decode cX7_addThing 30 = .ok (.iastore, 1) := by decide +kernel
theorem dX7_addThing_31 : decode cX7_addThing 31 = .ok (.aload_n 0, 1) := by decide +kernel
theorem dX7_addThing_32 : decode cX7_addThing 32 = .ok (.getfield 19, 3) := by decide +kernel
theorem dX7_addThing_35 : decode cX7_addThing 35 = .ok (.iload_n 3, 1) := by decide +kernel
theorem dX7_addThing_36 : decode cX7_addThing 36 = .ok (.iconst 0, 1) := by decide +kernel
theorem dX7_addThing_37 : decode cX7_addThing 37 = .ok (.iastore, 1) := by decide +kernel
theorem dX7_addThing_38 : decode cX7_addThing 38 = .ok (.aload_n 0, 1) := by decide +kernel
theorem dX7_addThing_39 : decode cX7_addThing 39 = .ok (.getfield 22, 3) := by decide +kernel
theorem dX7_addThing_42 : decode cX7_addThing 42 = .ok (.iload_n 3, 1) := by decide +kernel
theorem dX7_addThing_43 : decode cX7_addThing 43 = .ok (.iconst 0, 1) := by decide +kernel
theorem dX7_addThing_44 : decode cX7_addThing 44 = .ok (.iastore, 1) := by decide +kernel
theorem dX7_addThing_45 : decode cX7_addThing 45 = .ok (.aload_n 0, 1) := by decide +kernel
theorem dX7_addThing_46 : decode cX7_addThing 46 = .ok (.iload_n 2, 1) := by decide +kernel
theorem dX7_addThing_47 : decode cX7_addThing 47 = .ok (.iload_n 3, 1) := by decide +kernel
theorem dX7_addThing_48 : decode cX7_addThing 48 = .ok (.invokevirtual 42, 3) := by decide +kernel
theorem dX7_addThing_51 : decode cX7_addThing 51 = .ok (.aload_n 0, 1) := by decide +kernel
theorem dX7_addThing_52 : decode cX7_addThing 52 = .ok (.dup, 1) := by decide +kernel
theorem dX7_addThing_53 : decode cX7_addThing 53 = .ok (.getfield 25, 3) := by decide +kernel
theorem dX7_addThing_56 : decode cX7_addThing 56 = .ok (.iconst 1, 1) := by decide +kernel
theorem dX7_addThing_57 : decode cX7_addThing 57 = .ok (.iadd, 1) := by decide +kernel
theorem dX7_addThing_58 : decode cX7_addThing 58 = .ok (.putfield 25, 3) := by decide +kernel
theorem dX7_addThing_61 : decode cX7_addThing 61 = .ok (.iload_n 3, 1) := by decide +kernel
theorem dX7_addThing_62 : decode cX7_addThing 62 = .ok (.ireturn, 1) := by decide +kernel
theorem dX7_countThings_0 : decode cX7_countThings 0 = .ok (.iconst 0, 1) := by decide +kernel
theorem dX7_countThings_1 : decode cX7_countThings 1 = .ok (.istore_n 1, 1) := by decide +kernel
theorem dX7_countThings_2 : decode cX7_countThings 2 = .ok (.iconst 0, 1) := by decide +kernel
theorem dX7_countThings_3 : decode cX7_countThings 3 = .ok (.istore_n 2, 1) := by decide +kernel
theorem dX7_countThings_4 : decode cX7_countThings 4 = .ok (.iload_n 2, 1) := by decide +kernel
theorem dX7_countThings_5 : decode cX7_countThings 5 = .ok (.aload_n 0, 1) := by decide +kernel
theorem dX7_countThings_6 : decode cX7_countThings 6 = .ok (.getfield 25, 3) := by decide +kernel
theorem dX7_countThings_9 : decode cX7_countThings 9 = .ok (.if_icmp .ge 27, 3) := by decide +kernel
theorem dX7_countThings_36 : decode cX7_countThings 36 = .ok (.iload_n 1, 1) := by decide +kernel
theorem dX7_countThings_37 : decode cX7_countThings 37 = .ok (.ireturn, 1) := by decide +kernel
theorem dX7_hasRoom_0 : decode cX7_hasRoom 0 = .ok (.aload_n 0, 1) := by decide +kernel
theorem dX7_hasRoom_1 : decode cX7_hasRoom 1 = .ok (.getfield 25, 3) := by decide +kernel
theorem dX7_hasRoom_4 : decode cX7_hasRoom 4 = .ok (.bipush 40, 2) := by decide +kernel
theorem dX7_hasRoom_6 : decode cX7_hasRoom 6 = .ok (.if_icmp .ge 7, 3) := by decide +kernel
theorem dX7_hasRoom_9 : decode cX7_hasRoom 9 = .ok (.iconst 1, 1) := by decide +kernel
theorem dX7_hasRoom_10 : decode cX7_hasRoom 10 = .ok (.goto 4, 3) := by decide +kernel
theorem dX7_hasRoom_14 : decode cX7_hasRoom 14 = .ok (.ireturn, 1) := by decide +kernel
theorem dX7_hasThing_0 : decode cX7_hasThing 0 = .ok (.iload_n 1, 1) := by decide +kernel
theorem dX7_hasThing_1 : decode cX7_hasThing 1 = .ok (.ifCond .lt 21, 3) := by decide +kernel
theorem dX7_hasThing_4 : decode cX7_hasThing 4 = .ok (.iload_n 1, 1) := by decide +kernel
theorem dX7_hasThing_5 : decode cX7_hasThing 5 = .ok (.aload_n 0, 1) := by decide +kernel
theorem dX7_hasThing_6 : decode cX7_hasThing 6 = .ok (.getfield 25, 3) := by decide +kernel
theorem dX7_hasThing_9 : decode cX7_hasThing 9 = .ok (.if_icmp .ge 13, 3) := by decide +kernel
theorem dX7_hasThing_12 : decode cX7_hasThing 12 = .ok (.iload_n 1, 1) := by decide +kernel
theorem dX7_hasThing_13 : decode cX7_hasThing 13 = .ok (.bipush 40, 2) := by decide +kernel
theorem dX7_hasThing_15 : decode cX7_hasThing 15 = .ok (.if_icmp .ge 7, 3) := by decide +kernel
theorem dX7_hasThing_18 : decode cX7_hasThing 18 = .ok (.iconst 1, 1) := by decide +kernel
theorem dX7_hasThing_19 : decode cX7_hasThing 19 = .ok (.goto 4, 3) := by decide +kernel
theorem dX7_hasThing_22 : decode cX7_hasThing 22 = .ok (.iconst 0, 1) := by decide +kernel
theorem dX7_hasThing_23 : decode cX7_hasThing 23 = .ok (.ireturn, 1) := by decide +kernel
theorem dX7_init_0 : decode cX7_init 0 = .ok (.aload_n 0, 1) := by decide +kernel
theorem dX7_init_1 : decode cX7_init 1 = .ok (.invokespecial 1, 3) := by decide +kernel
theorem dX7_init_4 : decode cX7_init 4 = .ok (.aload_n 0, 1) := by decide +kernel
theorem dX7_init_5 : decode cX7_init 5 = .ok (.sipush 192, 3) := by decide +kernel
theorem dX7_init_8 : decode cX7_init 8 = .ok (.newarray .int, 2) := by decide +kernel
theorem dX7_init_10 : decode cX7_init 10 = .ok (.putfield 9, 3) := by decide +kernel
theorem dX7_init_13 : decode cX7_init 13 = .ok (.aload_n 0, 1) := by decide +kernel
theorem dX7_init_14 : decode cX7_init 14 = .ok (.bipush 40, 2) := by decide +kernel
theorem dX7_init_16 : decode cX7_init 16 = .ok (.newarray .int, 2) := by decide +kernel
theorem dX7_init_18 : decode cX7_init 18 = .ok (.putfield 13, 3) := by decide +kernel
theorem dX7_init_21 : decode cX7_init 21 = .ok (.aload_n 0, 1) := by decide +kernel
theorem dX7_init_22 : decode cX7_init 22 = .ok (.bipush 40, 2) := by decide +kernel
theorem dX7_init_24 : decode cX7_init 24 = .ok (.newarray .int, 2) := by decide +kernel
theorem dX7_init_26 : decode cX7_init 26 = .ok (.putfield 16, 3) := by decide +kernel
theorem dX7_init_29 : decode cX7_init 29 = .ok (.aload_n 0, 1) := by decide +kernel
theorem dX7_init_30 : decode cX7_init 30 = .ok (.bipush 40, 2) := by decide +kernel
theorem dX7_init_32 : decode cX7_init 32 = .ok (.newarray .int, 2) := by decide +kernel
theorem dX7_init_34 : decode cX7_init 34 = .ok (.putfield 19, 3) := by decide +kernel
theorem dX7_init_37 : decode cX7_init 37 = .ok (.aload_n 0, 1) := by decide +kernel
theorem dX7_init_38 : decode cX7_init 38 = .ok (.bipush 40, 2) := by decide +kernel
theorem dX7_init_40 : decode cX7_init 40 = .ok (.newarray .int, 2) := by decide +kernel
theorem dX7_init_42 : decode cX7_init 42 = .ok (.putfield 22, 3) := by decide +kernel
theorem dX7_init_45 : decode cX7_init 45 = .ok (.aload_n 0, 1) := by decide +kernel
theorem dX7_init_46 : decode cX7_init 46 = .ok (.iconst 0, 1) := by decide +kernel
theorem dX7_init_47 : decode cX7_init 47 = .ok (.putfield 25, 3) := by decide +kernel
theorem dX7_init_50 : decode cX7_init 50 = .ok (.iconst 0, 1) := by decide +kernel
theorem dX7_init_51 : decode cX7_init 51 = .ok (.istore_n 1, 1) := by decide +kernel
theorem dX7_init_52 : decode cX7_init 52 = .ok (.iload_n 1, 1) := by decide +kernel
theorem dX7_init_53 : decode cX7_init 53 = .ok (.sipush 192, 3) := by decide +kernel
theorem dX7_init_56 : decode cX7_init 56 = .ok (.if_icmp .ge 16, 3) := by decide +kernel
theorem dX7_init_59 : decode cX7_init 59 = .ok (.aload_n 0, 1) := by decide +kernel
theorem dX7_init_60 : decode cX7_init 60 = .ok (.getfield 9, 3) := by decide +kernel
theorem dX7_init_63 : decode cX7_init 63 = .ok (.iload_n 1, 1) := by decide +kernel
theorem dX7_init_64 : decode cX7_init 64 = .ok (.iconst (-1), 1) := by decide +kernel
theorem dX7_init_65 : decode cX7_init 65 = .ok (.iastore, 1) := by decide +kernel
theorem dX7_init_66 : decode cX7_init 66 = .ok (.iinc 1 1, 3) := by decide +kernel
theorem dX7_init_69 : decode cX7_init 69 = .ok (.goto (-17), 3) := by decide +kernel
theorem dX7_init_72 : decode cX7_init 72 = .ok (.return_, 1) := by decide +kernel
theorem dX7_isCell_0 : decode cX7_isCell 0 = .ok (.iload_n 0, 1) := by decide +kernel
theorem dX7_isCell_1 : decode cX7_isCell 1 = .ok (.ifCond .lt 14, 3) := by decide +kernel
theorem dX7_isCell_4 : decode cX7_isCell 4 = .ok (.iload_n 0, 1) := by decide +kernel
theorem dX7_isCell_5 : decode cX7_isCell 5 = .ok (.sipush 192, 3) := by decide +kernel
theorem dX7_isCell_8 : decode cX7_isCell 8 = .ok (.if_icmp .ge 7, 3) := by decide +kernel
theorem dX7_isCell_11 : decode cX7_isCell 11 = .ok (.iconst 1, 1) := by decide +kernel
theorem dX7_isCell_12 : decode cX7_isCell 12 = .ok (.goto 4, 3) := by decide +kernel
theorem dX7_isCell_15 : decode cX7_isCell 15 = .ok (.iconst 0, 1) := by decide +kernel
theorem dX7_isCell_16 : decode cX7_isCell 16 = .ok (.ireturn, 1) := by decide +kernel
theorem dX7_isFree_0 : decode cX7_isFree 0 = .ok (.iload_n 1, 1) := by decide +kernel
theorem dX7_isFree_1 : decode cX7_isFree 1 = .ok (.invokestatic 29, 3) := by decide +kernel
theorem dX7_isFree_4 : decode cX7_isFree 4 = .ok (.ifCond .eq 17, 3) := by decide +kernel
theorem dX7_isFree_7 : decode cX7_isFree 7 = .ok (.aload_n 0, 1) := by decide +kernel
theorem dX7_isFree_8 : decode cX7_isFree 8 = .ok (.getfield 9, 3) := by decide +kernel
theorem dX7_isFree_11 : decode cX7_isFree 11 = .ok (.iload_n 1, 1) := by decide +kernel
theorem dX7_isFree_12 : decode cX7_isFree 12 = .ok (.iaload, 1) := by decide +kernel
theorem dX7_isFree_13 : decode cX7_isFree 13 = .ok (.iconst (-1), 1) := by decide +kernel
theorem dX7_isFree_14 : decode cX7_isFree 14 = .ok (.if_icmp .ne 7, 3) := by decide +kernel
theorem dX7_isFree_17 : decode cX7_isFree 17 = .ok (.iconst 1, 1) := by decide +kernel
theorem dX7_isFree_18 : decode cX7_isFree 18 = .ok (.goto 4, 3) := by decide +kernel
theorem dX7_isFree_21 : decode cX7_isFree 21 = .ok (.iconst 0, 1) := by decide +kernel
theorem dX7_isFree_22 : decode cX7_isFree 22 = .ok (.ireturn, 1) := by decide +kernel
theorem dX7_isSide_0 : decode cX7_isSide 0 = .ok (.iload_n 0, 1) := by decide +kernel
theorem dX7_isSide_1 : decode cX7_isSide 1 = .ok (.ifCond .lt 13, 3) := by decide +kernel
theorem dX7_isSide_4 : decode cX7_isSide 4 = .ok (.iload_n 0, 1) := by decide +kernel
theorem dX7_isSide_5 : decode cX7_isSide 5 = .ok (.bipush 8, 2) := by decide +kernel
theorem dX7_isSide_7 : decode cX7_isSide 7 = .ok (.if_icmp .ge 7, 3) := by decide +kernel
theorem dX7_isSide_10 : decode cX7_isSide 10 = .ok (.iconst 1, 1) := by decide +kernel
theorem dX7_isSide_11 : decode cX7_isSide 11 = .ok (.goto 4, 3) := by decide +kernel
theorem dX7_isSide_14 : decode cX7_isSide 14 = .ok (.iconst 0, 1) := by decide +kernel
theorem dX7_isSide_15 : decode cX7_isSide 15 = .ok (.ireturn, 1) := by decide +kernel
theorem dX7_letThingsGo_0 : decode cX7_letThingsGo 0 = .ok (.iconst 0, 1) := by decide +kernel
theorem dX7_letThingsGo_1 : decode cX7_letThingsGo 1 = .ok (.istore_n 2, 1) := by decide +kernel
theorem dX7_letThingsGo_2 : decode cX7_letThingsGo 2 = .ok (.iload_n 2, 1) := by decide +kernel
theorem dX7_letThingsGo_3 : decode cX7_letThingsGo 3 = .ok (.aload_n 0, 1) := by decide +kernel
theorem dX7_letThingsGo_4 : decode cX7_letThingsGo 4 = .ok (.getfield 25, 3) := by decide +kernel
theorem dX7_letThingsGo_7 : decode cX7_letThingsGo 7 = .ok (.if_icmp .ge 46, 3) := by decide +kernel
theorem dX7_letThingsGo_53 : decode cX7_letThingsGo 53 = .ok (.return_, 1) := by decide +kernel
theorem dX7_settle_0 : decode cX7_settle 0 = .ok (.iload_n 1, 1) := by decide +kernel
theorem dX7_settle_1 : decode cX7_settle 1 = .ok (.invokestatic 29, 3) := by decide +kernel
theorem dX7_settle_4 : decode cX7_settle 4 = .ok (.ifCond .eq 10, 3) := by decide +kernel
theorem dX7_settle_7 : decode cX7_settle 7 = .ok (.aload_n 0, 1) := by decide +kernel
theorem dX7_settle_8 : decode cX7_settle 8 = .ok (.getfield 9, 3) := by decide +kernel
theorem dX7_settle_11 : decode cX7_settle 11 = .ok (.iload_n 1, 1) := by decide +kernel
theorem dX7_settle_12 : decode cX7_settle 12 = .ok (.iload_n 2, 1) := by decide +kernel
theorem dX7_settle_13 : decode cX7_settle 13 = .ok (.iastore, 1) := by decide +kernel
theorem dX7_settle_14 : decode cX7_settle 14 = .ok (.return_, 1) := by decide +kernel
theorem dX7_takeFrom_0 : decode cX7_takeFrom 0 = .ok (.aload_n 1, 1) := by decide +kernel
theorem dX7_takeFrom_1 : decode cX7_takeFrom 1 = .ok (.getfield 9, 3) := by decide +kernel
theorem dX7_takeFrom_4 : decode cX7_takeFrom 4 = .ok (.iconst 0, 1) := by decide +kernel
theorem dX7_takeFrom_5 : decode cX7_takeFrom 5 = .ok (.aload_n 0, 1) := by decide +kernel
theorem dX7_takeFrom_6 : decode cX7_takeFrom 6 = .ok (.getfield 9, 3) := by decide +kernel
theorem dX7_takeFrom_9 : decode cX7_takeFrom 9 = .ok (.iconst 0, 1) := by decide +kernel
theorem dX7_takeFrom_10 : decode cX7_takeFrom 10 = .ok (.sipush 192, 3) := by decide +kernel
theorem dX7_takeFrom_13 : decode cX7_takeFrom 13 = .ok (.invokestatic 60, 3) := by decide +kernel
theorem dX7_takeFrom_16 : decode cX7_takeFrom 16 = .ok (.aload_n 1, 1) := by decide +kernel
theorem dX7_takeFrom_17 : decode cX7_takeFrom 17 = .ok (.getfield 13, 3) := by decide +kernel
theorem dX7_takeFrom_20 : decode cX7_takeFrom 20 = .ok (.iconst 0, 1) := by decide +kernel
theorem dX7_takeFrom_21 : decode cX7_takeFrom 21 = .ok (.aload_n 0, 1) := by decide +kernel
theorem dX7_takeFrom_22 : decode cX7_takeFrom 22 = .ok (.getfield 13, 3) := by decide +kernel
theorem dX7_takeFrom_25 : decode cX7_takeFrom 25 = .ok (.iconst 0, 1) := by decide +kernel
theorem dX7_takeFrom_26 : decode cX7_takeFrom 26 = .ok (.bipush 40, 2) := by decide +kernel
theorem dX7_takeFrom_28 : decode cX7_takeFrom 28 = .ok (.invokestatic 60, 3) := by decide +kernel
theorem dX7_takeFrom_31 : decode cX7_takeFrom 31 = .ok (.aload_n 1, 1) := by decide +kernel
theorem dX7_takeFrom_32 : decode cX7_takeFrom 32 = .ok (.getfield 16, 3) := by decide +kernel
theorem dX7_takeFrom_35 : decode cX7_takeFrom 35 = .ok (.iconst 0, 1) := by decide +kernel
theorem dX7_takeFrom_36 : decode cX7_takeFrom 36 = .ok (.aload_n 0, 1) := by decide +kernel
theorem dX7_takeFrom_37 : decode cX7_takeFrom 37 = .ok (.getfield 16, 3) := by decide +kernel
theorem dX7_takeFrom_40 : decode cX7_takeFrom 40 = .ok (.iconst 0, 1) := by decide +kernel
theorem dX7_takeFrom_41 : decode cX7_takeFrom 41 = .ok (.bipush 40, 2) := by decide +kernel
theorem dX7_takeFrom_43 : decode cX7_takeFrom 43 = .ok (.invokestatic 60, 3) := by decide +kernel
theorem dX7_takeFrom_46 : decode cX7_takeFrom 46 = .ok (.aload_n 1, 1) := by decide +kernel
theorem dX7_takeFrom_47 : decode cX7_takeFrom 47 = .ok (.getfield 19, 3) := by decide +kernel
theorem dX7_takeFrom_50 : decode cX7_takeFrom 50 = .ok (.iconst 0, 1) := by decide +kernel
theorem dX7_takeFrom_51 : decode cX7_takeFrom 51 = .ok (.aload_n 0, 1) := by decide +kernel
theorem dX7_takeFrom_52 : decode cX7_takeFrom 52 = .ok (.getfield 19, 3) := by decide +kernel
theorem dX7_takeFrom_55 : decode cX7_takeFrom 55 = .ok (.iconst 0, 1) := by decide +kernel
theorem dX7_takeFrom_56 : decode cX7_takeFrom 56 = .ok (.bipush 40, 2) := by decide +kernel
theorem dX7_takeFrom_58 : decode cX7_takeFrom 58 = .ok (.invokestatic 60, 3) := by decide +kernel
theorem dX7_takeFrom_61 : decode cX7_takeFrom 61 = .ok (.aload_n 1, 1) := by decide +kernel
theorem dX7_takeFrom_62 : decode cX7_takeFrom 62 = .ok (.getfield 22, 3) := by decide +kernel
theorem dX7_takeFrom_65 : decode cX7_takeFrom 65 = .ok (.iconst 0, 1) := by decide +kernel
theorem dX7_takeFrom_66 : decode cX7_takeFrom 66 = .ok (.aload_n 0, 1) := by decide +kernel
theorem dX7_takeFrom_67 : decode cX7_takeFrom 67 = .ok (.getfield 22, 3) := by decide +kernel
theorem dX7_takeFrom_70 : decode cX7_takeFrom 70 = .ok (.iconst 0, 1) := by decide +kernel
theorem dX7_takeFrom_71 : decode cX7_takeFrom 71 = .ok (.bipush 40, 2) := by decide +kernel
theorem dX7_takeFrom_73 : decode cX7_takeFrom 73 = .ok (.invokestatic 60, 3) := by decide +kernel
theorem dX7_takeFrom_76 : decode cX7_takeFrom 76 = .ok (.aload_n 0, 1) := by decide +kernel
theorem dX7_takeFrom_77 : decode cX7_takeFrom 77 = .ok (.aload_n 1, 1) := by decide +kernel
theorem dX7_takeFrom_78 : decode cX7_takeFrom 78 = .ok (.getfield 25, 3) := by decide +kernel
theorem dX7_takeFrom_81 : decode cX7_takeFrom 81 = .ok (.putfield 25, 3) := by decide +kernel
theorem dX7_takeFrom_84 : decode cX7_takeFrom 84 = .ok (.return_, 1) := by decide +kernel
theorem dX9_begin_0 : decode cX9_begin 0 = .ok (.aload_n 0, 1) := by decide +kernel
theorem dX9_begin_1 : decode cX9_begin 1 = .ok (.iload_n 1, 1) := by decide +kernel
theorem dX9_begin_2 : decode cX9_begin 2 = .ok (.putfield 7, 3) := by decide +kernel
theorem dX9_begin_5 : decode cX9_begin 5 = .ok (.aload_n 0, 1) := by decide +kernel
theorem dX9_begin_6 : decode cX9_begin 6 = .ok (.iload_n 2, 1) := by decide +kernel
theorem dX9_begin_7 : decode cX9_begin 7 = .ok (.putfield 13, 3) := by decide +kernel
theorem dX9_begin_10 : decode cX9_begin 10 = .ok (.aload_n 0, 1) := by decide +kernel
theorem dX9_begin_11 : decode cX9_begin 11 = .ok (.iload_n 3, 1) := by decide +kernel
theorem dX9_begin_12 : decode cX9_begin 12 = .ok (.putfield 16, 3) := by decide +kernel
theorem dX9_begin_15 : decode cX9_begin 15 = .ok (.aload_n 0, 1) := by decide +kernel
theorem dX9_begin_16 : decode cX9_begin 16 = .ok (.iconst 5, 1) := by decide +kernel
theorem dX9_begin_17 : decode cX9_begin 17 = .ok (.putfield 19, 3) := by decide +kernel
theorem dX9_begin_20 : decode cX9_begin 20 = .ok (.aload_n 0, 1) := by decide +kernel
theorem dX9_begin_21 : decode cX9_begin 21 = .ok (.bipush 60, 2) := by decide +kernel
theorem dX9_begin_23 : decode cX9_begin 23 = .ok (.putfield 22, 3) := by decide +kernel
theorem dX9_begin_26 : decode cX9_begin 26 = .ok (.aload_n 0, 1) := by decide +kernel
theorem dX9_begin_27 : decode cX9_begin 27 = .ok (.iconst 0, 1) := by decide +kernel
theorem dX9_begin_28 : decode cX9_begin 28 = .ok (.putfield 25, 3) := by decide +kernel
theorem dX9_begin_31 : decode cX9_begin 31 = .ok (.aload_n 0, 1) := by decide +kernel
theorem dX9_begin_32 : decode cX9_begin 32 = .ok (.iconst 0, 1) := by decide +kernel
theorem dX9_begin_33 : decode cX9_begin 33 = .ok (.putfield 28, 3) := by decide +kernel
theorem dX9_begin_36 : decode cX9_begin 36 = .ok (.aload_n 0, 1) := by decide +kernel
theorem dX9_begin_37 : decode cX9_begin 37 = .ok (.iconst 0, 1) := by decide +kernel
theorem dX9_begin_38 : decode cX9_begin 38 = .ok (.putfield 32, 3) := by decide +kernel
theorem dX9_begin_41 : decode cX9_begin 41 = .ok (.aload_n 0, 1) := by decide +kernel
theorem dX9_begin_42 : decode cX9_begin 42 = .ok (.iconst 0, 1) := by decide +kernel
theorem dX9_begin_43 : decode cX9_begin 43 = .ok (.putfield 35, 3) := by decide +kernel
theorem dX9_begin_46 : decode cX9_begin 46 = .ok (.iconst 0, 1) := by decide +kernel
theorem dX9_begin_47 : decode cX9_begin 47 = .ok (.istore 4, 2) := by decide +kernel
theorem dX9_begin_49 : decode cX9_begin 49 = .ok (.iload 4, 2) := by decide +kernel
theorem dX9_begin_51 : decode cX9_begin 51 = .ok (.sipush 192, 3) := by decide +kernel
theorem dX9_begin_54 : decode cX9_begin 54 = .ok (.if_icmp .ge 25, 3) := by decide +kernel
theorem dX9_begin_57 : decode cX9_begin 57 = .ok (.aload_n 0, 1) := by decide +kernel
theorem dX9_begin_58 : decode cX9_begin 58 = .ok (.getfield 40, 3) := by decide +kernel
theorem dX9_begin_61 : decode cX9_begin 61 = .ok (.iload 4, 2) := by decide +kernel
theorem dX9_begin_63 : decode cX9_begin 63 = .ok (.iconst 0, 1) := by decide +kernel
theorem dX9_begin_64 : decode cX9_begin 64 = .ok (.iastore, 1) := by decide +kernel
theorem dX9_begin_65 : decode cX9_begin 65 = .ok (.aload_n 0, 1) := by decide +kernel
theorem dX9_begin_66 : decode cX9_begin 66 = .ok (.getfield 44, 3) := by decide +kernel
theorem dX9_begin_69 : decode cX9_begin 69 = .ok (.iload 4, 2) := by decide +kernel
theorem dX9_begin_71 : decode cX9_begin 71 = .ok (.iconst 0, 1) := by decide +kernel
theorem dX9_begin_72 : decode cX9_begin 72 = .ok (.iastore, 1) := by decide +kernel
theorem dX9_begin_73 : decode cX9_begin 73 = .ok (.iinc 4 1, 3) := by decide +kernel
theorem dX9_begin_76 : decode cX9_begin 76 = .ok (.goto (-27), 3) := by decide +kernel
theorem dX9_begin_79 : decode cX9_begin 79 = .ok (.return_, 1) := by decide +kernel
theorem dX9_init_0 : decode cX9_init 0 = .ok (.aload_n 0, 1) := by decide +kernel
theorem dX9_init_1 : decode cX9_init 1 = .ok (.invokespecial 1, 3) := by decide +kernel
theorem dX9_init_4 : decode cX9_init 4 = .ok (.aload_n 0, 1) := by decide +kernel
theorem dX9_init_5 : decode cX9_init 5 = .ok (.iconst 0, 1) := by decide +kernel
theorem dX9_init_6 : decode cX9_init 6 = .ok (.putfield 7, 3) := by decide +kernel
theorem dX9_init_9 : decode cX9_init 9 = .ok (.aload_n 0, 1) := by decide +kernel
theorem dX9_init_10 : decode cX9_init 10 = .ok (.iconst 0, 1) := by decide +kernel
theorem dX9_init_11 : decode cX9_init 11 = .ok (.putfield 13, 3) := by decide +kernel
theorem dX9_init_14 : decode cX9_init 14 = .ok (.aload_n 0, 1) := by decide +kernel
theorem dX9_init_15 : decode cX9_init 15 = .ok (.iconst 0, 1) := by decide +kernel
theorem dX9_init_16 : decode cX9_init 16 = .ok (.putfield 16, 3) := by decide +kernel
theorem dX9_init_19 : decode cX9_init 19 = .ok (.aload_n 0, 1) := by decide +kernel
theorem dX9_init_20 : decode cX9_init 20 = .ok (.iconst 5, 1) := by decide +kernel
theorem dX9_init_21 : decode cX9_init 21 = .ok (.putfield 19, 3) := by decide +kernel
theorem dX9_init_24 : decode cX9_init 24 = .ok (.aload_n 0, 1) := by decide +kernel
theorem dX9_init_25 : decode cX9_init 25 = .ok (.bipush 60, 2) := by decide +kernel
theorem dX9_init_27 : decode cX9_init 27 = .ok (.putfield 22, 3) := by decide +kernel
theorem dX9_init_30 : decode cX9_init 30 = .ok (.aload_n 0, 1) := by decide +kernel
theorem dX9_init_31 : decode cX9_init 31 = .ok (.iconst 0, 1) := by decide +kernel
theorem dX9_init_32 : decode cX9_init 32 = .ok (.putfield 25, 3) := by decide +kernel
theorem dX9_init_35 : decode cX9_init 35 = .ok (.aload_n 0, 1) := by decide +kernel
theorem dX9_init_36 : decode cX9_init 36 = .ok (.iconst 0, 1) := by decide +kernel
theorem dX9_init_37 : decode cX9_init 37 = .ok (.putfield 28, 3) := by decide +kernel
theorem dX9_init_40 : decode cX9_init 40 = .ok (.aload_n 0, 1) := by decide +kernel
theorem dX9_init_41 : decode cX9_init 41 = .ok (.iconst 0, 1) := by decide +kernel
theorem dX9_init_42 : decode cX9_init 42 = .ok (.putfield 32, 3) := by decide +kernel
theorem dX9_init_45 : decode cX9_init 45 = .ok (.aload_n 0, 1) := by decide +kernel
theorem dX9_init_46 : decode cX9_init 46 = .ok (.iconst 0, 1) := by decide +kernel
theorem dX9_init_47 : decode cX9_init 47 = .ok (.putfield 35, 3) := by decide +kernel
theorem dX9_init_50 : decode cX9_init 50 = .ok (.aload_n 0, 1) := by decide +kernel
theorem dX9_init_51 : decode cX9_init 51 = .ok (.sipush 192, 3) := by decide +kernel
theorem dX9_init_54 : decode cX9_init 54 = .ok (.newarray .int, 2) := by decide +kernel
theorem dX9_init_56 : decode cX9_init 56 = .ok (.putfield 40, 3) := by decide +kernel
theorem dX9_init_59 : decode cX9_init 59 = .ok (.aload_n 0, 1) := by decide +kernel
theorem dX9_init_60 : decode cX9_init 60 = .ok (.sipush 192, 3) := by decide +kernel
theorem dX9_init_63 : decode cX9_init 63 = .ok (.newarray .int, 2) := by decide +kernel
theorem dX9_init_65 : decode cX9_init 65 = .ok (.putfield 44, 3) := by decide +kernel
theorem dX9_init_68 : decode cX9_init 68 = .ok (.return_, 1) := by decide +kernel
