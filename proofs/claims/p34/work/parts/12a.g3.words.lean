/-! words of the tables that are used, by their places; decode rows; classes -/
theorem m_258 : Cond.fieldLink RX9 7 "ClickStreet$Walker" "kind" "I" ∈ BASE := bmem 258 (by decide +kernel) rfl
theorem m_264 : Cond.fieldLink RX9 16 "ClickStreet$Walker" "side" "I" ∈ BASE := bmem 264 (by decide +kernel) rfl
theorem m_267 : Cond.fieldLink RX9 19 "ClickStreet$Walker" "pitch" "I" ∈ BASE := bmem 267 (by decide +kernel) rfl
theorem m_270 : Cond.fieldLink RX9 22 "ClickStreet$Walker" "loudness" "I" ∈ BASE := bmem 270 (by decide +kernel) rfl
theorem m_282 : Cond.fieldLink RX9 40 "ClickStreet$Walker" "yes" "[I" ∈ BASE := bmem 282 (by decide +kernel) rfl
theorem m_284 : Cond.fieldLink RX9 44 "ClickStreet$Walker" "no" "[I" ∈ BASE := bmem 284 (by decide +kernel) rfl
theorem m_506 : Cond.instanceMethod yX7_isFree ∈ BASE := bmem 506 (by decide +kernel) rfl
theorem m_507 : Cond.selects yX7_isFree.cls yX7_isFree yX7_isFree ∈ BASE := bmem 507 (by decide +kernel) rfl
theorem m_508 : Cond.code yX7_isFree cX7_isFree 2 (some .boolean) ∈ BASE := bmem 508 (by decide +kernel) rfl
theorem m_621 : Cond.fieldLink RX9 54 "ClickStreet$Walker" "REACHES" "[I" ∈ BASE := bmem 621 (by decide +kernel) rfl
theorem m_627 : Cond.fieldLink RX9 57 "ClickStreet$Walker" "SPEEDS" "[I" ∈ BASE := bmem 627 (by decide +kernel) rfl
theorem m_633 : Cond.fieldLink RX9 60 "ClickStreet$Walker" "HEARS_TO" "[I" ∈ BASE := bmem 633 (by decide +kernel) rfl
theorem m_850 : Cond.static yX7_cellFrom ∈ BASE := bmem 850 (by decide +kernel) rfl
theorem m_851 : Cond.code yX7_cellFrom cX7_cellFrom 5 (some .int) ∈ BASE := bmem 851 (by decide +kernel) rfl
theorem m_919 : Cond.methodLink RX9 73 yX7_isCell ∈ BASE := bmem 919 (by decide +kernel) rfl
theorem m_1037 : Cond.methodLink RX7 53 yX7_cellFrom ∈ BASE := bmem 1037 (by decide +kernel) rfl
theorem m_1038 : Cond.methodLink RX7 57 yX7_isFree ∈ BASE := bmem 1038 (by decide +kernel) rfl
theorem m_1262 : Cond.methodLink RX7 60 arraycopyName ∈ BASE := bmem 1262 (by decide +kernel) rfl
theorem kS_X7_cellFrom : KS yX7_cellFrom cX7_cellFrom 5 (some .int) 3 := ⟨m_850, m_81, m_851, by decide +kernel, by decide +kernel, by decide +kernel⟩
theorem kV_X7_isFree : KV yX7_isFree cX7_isFree 2 (some .boolean) 1 := ⟨m_506, m_507, m_81, m_508, by decide +kernel, by decide +kernel, by decide +kernel⟩
theorem inB9 : ∀ w ∈ u_ws RX9 TX9 11, w ∈ BASE := bmems (u_ws RX9 TX9 11) [286, 288, 290, 292, 294, 296, 298, 300, 302, 304, 306] (by decide +kernel) (by decide +kernel)
theorem df9 : ∀ j, j < 11 → defaultValue (tyX9 j) = vp_V [.int 0, .int 0, .int 0, .int 0, .int 0, .int 0, .int 0, .int 0, .int 0, .null, .null] j := fun j hj => by rcases (show j = 0 ∨ j = 1 ∨ j = 2 ∨ j = 3 ∨ j = 4 ∨ j = 5 ∨ j = 6 ∨ j = 7 ∨ j = 8 ∨ j = 9 ∨ j = 10 by omega) with rfl | rfl | rfl | rfl | rfl | rfl | rfl | rfl | rfl | rfl | rfl <;> rfl
/-! decode rows -/
theorem dX7_letThingGo_0 : decode cX7_letThingGo 0 = .ok (.aload_n 0, 1) := by decide +kernel
theorem dX7_letThingGo_1 : decode cX7_letThingGo 1 = .ok (.iload_n 1, 1) := by decide +kernel
theorem dX7_letThingGo_2 : decode cX7_letThingGo 2 = .ok (.invokevirtual 46, 3) := by decide +kernel
theorem dX7_letThingGo_5 : decode cX7_letThingGo 5 = .ok (.ifCond .ne 4, 3) := by decide +kernel
theorem dX7_letThingGo_8 : decode cX7_letThingGo 8 = .ok (.return_, 1) := by decide +kernel
theorem dX7_letThingGo_9 : decode cX7_letThingGo 9 = .ok (.aload_n 0, 1) := by decide +kernel
theorem dX7_letThingGo_10 : decode cX7_letThingGo 10 = .ok (.getfield 16, 3) := by decide +kernel
theorem dX7_letThingGo_13 : decode cX7_letThingGo 13 = .ok (.iload_n 1, 1) := by decide +kernel
theorem dX7_letThingGo_14 : decode cX7_letThingGo 14 = .ok (.iaload, 1) := by decide +kernel
theorem dX7_letThingGo_15 : decode cX7_letThingGo 15 = .ok (.aload_n 0, 1) := by decide +kernel
theorem dX7_letThingGo_16 : decode cX7_letThingGo 16 = .ok (.getfield 19, 3) := by decide +kernel
theorem dX7_letThingGo_19 : decode cX7_letThingGo 19 = .ok (.iload_n 1, 1) := by decide +kernel
theorem dX7_letThingGo_20 : decode cX7_letThingGo 20 = .ok (.iaload, 1) := by decide +kernel
theorem dX7_letThingGo_21 : decode cX7_letThingGo 21 = .ok (.iconst 1, 1) := by decide +kernel
theorem dX7_letThingGo_22 : decode cX7_letThingGo 22 = .ok (.invokestatic 53, 3) := by decide +kernel
theorem dX7_letThingGo_25 : decode cX7_letThingGo 25 = .ok (.istore_n 2, 1) := by decide +kernel
theorem dX7_letThingGo_26 : decode cX7_letThingGo 26 = .ok (.aload_n 0, 1) := by decide +kernel
theorem dX7_letThingGo_27 : decode cX7_letThingGo 27 = .ok (.iload_n 2, 1) := by decide +kernel
theorem dX7_letThingGo_28 : decode cX7_letThingGo 28 = .ok (.invokevirtual 57, 3) := by decide +kernel
theorem dX7_letThingGo_31 : decode cX7_letThingGo 31 = .ok (.ifCond .eq 30, 3) := by decide +kernel
theorem dX7_letThingGo_34 : decode cX7_letThingGo 34 = .ok (.aload_n 0, 1) := by decide +kernel
theorem dX7_letThingGo_35 : decode cX7_letThingGo 35 = .ok (.aload_n 0, 1) := by decide +kernel
theorem dX7_letThingGo_36 : decode cX7_letThingGo 36 = .ok (.getfield 16, 3) := by decide +kernel
theorem dX7_letThingGo_39 : decode cX7_letThingGo 39 = .ok (.iload_n 1, 1) := by decide +kernel
theorem dX7_letThingGo_40 : decode cX7_letThingGo 40 = .ok (.iaload, 1) := by decide +kernel
theorem dX7_letThingGo_41 : decode cX7_letThingGo 41 = .ok (.iconst (-1), 1) := by decide +kernel
theorem dX7_letThingGo_42 : decode cX7_letThingGo 42 = .ok (.invokevirtual 42, 3) := by decide +kernel
theorem dX7_letThingGo_45 : decode cX7_letThingGo 45 = .ok (.aload_n 0, 1) := by decide +kernel
theorem dX7_letThingGo_46 : decode cX7_letThingGo 46 = .ok (.iload_n 2, 1) := by decide +kernel
theorem dX7_letThingGo_47 : decode cX7_letThingGo 47 = .ok (.iload_n 1, 1) := by decide +kernel
theorem dX7_letThingGo_48 : decode cX7_letThingGo 48 = .ok (.invokevirtual 42, 3) := by decide +kernel
theorem dX7_letThingGo_51 : decode cX7_letThingGo 51 = .ok (.aload_n 0, 1) := by decide +kernel
theorem dX7_letThingGo_52 : decode cX7_letThingGo 52 = .ok (.getfield 16, 3) := by decide +kernel
theorem dX7_letThingGo_55 : decode cX7_letThingGo 55 = .ok (.iload_n 1, 1) := by decide +kernel
theorem dX7_letThingGo_56 : decode cX7_letThingGo 56 = .ok (.iload_n 2, 1) := by decide +kernel
theorem dX7_letThingGo_57 : decode cX7_letThingGo 57 = .ok (.iastore, 1) := by decide +kernel
theorem dX7_letThingGo_58 : decode cX7_letThingGo 58 = .ok (.goto 20, 3) := by decide +kernel
theorem dX7_letThingGo_61 : decode cX7_letThingGo 61 = .ok (.aload_n 0, 1) := by decide +kernel
theorem dX7_letThingGo_62 : decode cX7_letThingGo 62 = .ok (.getfield 19, 3) := by decide +kernel
theorem dX7_letThingGo_65 : decode cX7_letThingGo 65 = .ok (.iload_n 1, 1) := by decide +kernel
theorem dX7_letThingGo_66 : decode cX7_letThingGo 66 = .ok (.aload_n 0, 1) := by decide +kernel
theorem dX7_letThingGo_67 : decode cX7_letThingGo 67 = .ok (.getfield 19, 3) := by decide +kernel
theorem dX7_letThingGo_70 : decode cX7_letThingGo 70 = .ok (.iload_n 1, 1) := by decide +kernel
theorem dX7_letThingGo_71 : decode cX7_letThingGo 71 = .ok (.iaload, 1) := by decide +kernel
theorem dX7_letThingGo_72 : decode cX7_letThingGo 72 = .ok (.iconst 4, 1) := by decide +kernel
theorem dX7_letThingGo_73 : decode cX7_letThingGo 73 = .ok (.iadd, 1) := by decide +kernel
theorem dX7_letThingGo_74 : decode cX7_letThingGo 74 = .ok (.bipush 7, 2) := by decide +kernel
theorem dX7_letThingGo_76 : decode cX7_letThingGo 76 = .ok (.iand, 1) := by decide +kernel
theorem dX7_letThingGo_77 : decode cX7_letThingGo 77 = .ok (.iastore, 1) := by decide +kernel
theorem dX7_letThingGo_78 : decode cX7_letThingGo 78 = .ok (.return_, 1) := by decide +kernel
theorem dX7_takeFrom_0 : decode cX7_takeFrom 0 = .ok (.aload_n 1, 1) := by decide +kernel
theorem dX7_takeFrom_1 : decode cX7_takeFrom 1 = .ok (.getfield 9, 3) := by decide +kernel
theorem dX7_takeFrom_4 : decode cX7_takeFrom 4 = .ok (.iconst 0, 1) := by decide +kernel
theorem dX7_takeFrom_5 : decode cX7_takeFrom 5 = .ok (.aload_n 0, 1) := by decide +kernel
theorem dX7_takeFrom_6 : decode cX7_takeFrom 6 = .ok (.getfield 9, 3) := by decide +kernel
theorem dX7_takeFrom_9 : decode cX7_takeFrom 9 = .ok (.iconst 0, 1) := by decide +kernel
theorem dX7_takeFrom_10 : decode cX7_takeFrom 10 = .ok (.sipush 192, 3) := by decide +kernel
theorem dX7_takeFrom_13 : decode cX7_takeFrom 13 = .ok (.invokestatic 60, 3) := by decide +kernel
theorem dX7_takeFrom_16 : decode cX7_takeFrom 16 = .ok (.aload_n 1, 1) := by decide +kernel
theorem dX7_takeFrom_17 : decode cX7_takeFrom 17 = .ok (.getfield 13, 3) := by decide +kernel
theorem dX7_takeFrom_20 : decode cX7_takeFrom 20 = .ok (.iconst 0, 1) := by decide +kernel
theorem dX7_takeFrom_21 : decode cX7_takeFrom 21 = .ok (.aload_n 0, 1) := by decide +kernel
theorem dX7_takeFrom_22 : decode cX7_takeFrom 22 = .ok (.getfield 13, 3) := by decide +kernel
theorem dX7_takeFrom_25 : decode cX7_takeFrom 25 = .ok (.iconst 0, 1) := by decide +kernel
theorem dX7_takeFrom_26 : decode cX7_takeFrom 26 = .ok (.bipush 40, 2) := by decide +kernel
theorem dX7_takeFrom_28 : decode cX7_takeFrom 28 = .ok (.invokestatic 60, 3) := by decide +kernel
theorem dX7_takeFrom_31 : decode cX7_takeFrom 31 = .ok (.aload_n 1, 1) := by decide +kernel
theorem dX7_takeFrom_32 : decode cX7_takeFrom 32 = .ok (.getfield 16, 3) := by decide +kernel
theorem dX7_takeFrom_35 : decode cX7_takeFrom 35 = .ok (.iconst 0, 1) := by decide +kernel
theorem dX7_takeFrom_36 : decode cX7_takeFrom 36 = .ok (.aload_n 0, 1) := by decide +kernel
theorem dX7_takeFrom_37 : decode cX7_takeFrom 37 = .ok (.getfield 16, 3) := by decide +kernel
theorem dX7_takeFrom_40 : decode cX7_takeFrom 40 = .ok (.iconst 0, 1) := by decide +kernel
theorem dX7_takeFrom_41 : decode cX7_takeFrom 41 = .ok (.bipush 40, 2) := by decide +kernel
theorem dX7_takeFrom_43 : decode cX7_takeFrom 43 = .ok (.invokestatic 60, 3) := by decide +kernel
theorem dX7_takeFrom_46 : decode cX7_takeFrom 46 = .ok (.aload_n 1, 1) := by decide +kernel
theorem dX7_takeFrom_47 : decode cX7_takeFrom 47 = .ok (.getfield 19, 3) := by decide +kernel
theorem dX7_takeFrom_50 : decode cX7_takeFrom 50 = .ok (.iconst 0, 1) := by decide +kernel
theorem dX7_takeFrom_51 : decode cX7_takeFrom 51 = .ok (.aload_n 0, 1) := by decide +kernel
theorem dX7_takeFrom_52 : decode cX7_takeFrom 52 = .ok (.getfield 19, 3) := by decide +kernel
theorem dX7_takeFrom_55 : decode cX7_takeFrom 55 = .ok (.iconst 0, 1) := by decide +kernel
theorem dX7_takeFrom_56 : decode cX7_takeFrom 56 = .ok (.bipush 40, 2) := by decide +kernel
theorem dX7_takeFrom_58 : decode cX7_takeFrom 58 = .ok (.invokestatic 60, 3) := by decide +kernel
theorem dX7_takeFrom_61 : decode cX7_takeFrom 61 = .ok (.aload_n 1, 1) := by decide +kernel
theorem dX7_takeFrom_62 : decode cX7_takeFrom 62 = .ok (.getfield 22, 3) := by decide +kernel
theorem dX7_takeFrom_65 : decode cX7_takeFrom 65 = .ok (.iconst 0, 1) := by decide +kernel
theorem dX7_takeFrom_66 : decode cX7_takeFrom 66 = .ok (.aload_n 0, 1) := by decide +kernel
theorem dX7_takeFrom_67 : decode cX7_takeFrom 67 = .ok (.getfield 22, 3) := by decide +kernel
theorem dX7_takeFrom_70 : decode cX7_takeFrom 70 = .ok (.iconst 0, 1) := by decide +kernel
theorem dX7_takeFrom_71 : decode cX7_takeFrom 71 = .ok (.bipush 40, 2) := by decide +kernel
theorem dX7_takeFrom_73 : decode cX7_takeFrom 73 = .ok (.invokestatic 60, 3) := by decide +kernel
theorem dX7_takeFrom_76 : decode cX7_takeFrom 76 = .ok (.aload_n 0, 1) := by decide +kernel
theorem dX7_takeFrom_77 : decode cX7_takeFrom 77 = .ok (.aload_n 1, 1) := by decide +kernel
theorem dX7_takeFrom_78 : decode cX7_takeFrom 78 = .ok (.getfield 25, 3) := by decide +kernel
theorem dX7_takeFrom_81 : decode cX7_takeFrom 81 = .ok (.putfield 25, 3) := by decide +kernel
theorem dX7_takeFrom_84 : decode cX7_takeFrom 84 = .ok (.return_, 1) := by decide +kernel
theorem dX9_canLearn_0 : decode cX9_canLearn 0 = .ok (.iload_n 1, 1) := by decide +kernel
theorem dX9_canLearn_1 : decode cX9_canLearn 1 = .ok (.invokestatic 73, 3) := by decide +kernel
theorem dX9_canLearn_4 : decode cX9_canLearn 4 = .ok (.ifCond .eq 33, 3) := by decide +kernel
theorem dX9_canLearn_7 : decode cX9_canLearn 7 = .ok (.aload_n 0, 1) := by decide +kernel
theorem dX9_canLearn_8 : decode cX9_canLearn 8 = .ok (.getfield 40, 3) := by decide +kernel
theorem dX9_canLearn_11 : decode cX9_canLearn 11 = .ok (.iload_n 1, 1) := by decide +kernel
theorem dX9_canLearn_12 : decode cX9_canLearn 12 = .ok (.iaload, 1) := by decide +kernel
theorem dX9_canLearn_13 : decode cX9_canLearn 13 = .ok (.aload_n 0, 1) := by decide +kernel
theorem dX9_canLearn_14 : decode cX9_canLearn 14 = .ok (.getfield 44, 3) := by decide +kernel
theorem dX9_canLearn_17 : decode cX9_canLearn 17 = .ok (.iload_n 1, 1) := by decide +kernel
theorem dX9_canLearn_18 : decode cX9_canLearn 18 = .ok (.iaload, 1) := by decide +kernel
theorem dX9_canLearn_19 : decode cX9_canLearn 19 = .ok (.if_icmp .ne 18, 3) := by decide +kernel
theorem dX9_canLearn_22 : decode cX9_canLearn 22 = .ok (.aload_n 0, 1) := by decide +kernel
theorem dX9_canLearn_23 : decode cX9_canLearn 23 = .ok (.getfield 40, 3) := by decide +kernel
theorem dX9_canLearn_26 : decode cX9_canLearn 26 = .ok (.iload_n 1, 1) := by decide +kernel
theorem dX9_canLearn_27 : decode cX9_canLearn 27 = .ok (.iaload, 1) := by decide +kernel
theorem dX9_canLearn_28 : decode cX9_canLearn 28 = .ok (.bipush 99, 2) := by decide +kernel
theorem dX9_canLearn_30 : decode cX9_canLearn 30 = .ok (.if_icmp .ge 7, 3) := by decide +kernel
theorem dX9_canLearn_33 : decode cX9_canLearn 33 = .ok (.iconst 1, 1) := by decide +kernel
theorem dX9_canLearn_34 : decode cX9_canLearn 34 = .ok (.goto 4, 3) := by decide +kernel
theorem dX9_canLearn_37 : decode cX9_canLearn 37 = .ok (.iconst 0, 1) := by decide +kernel
theorem dX9_canLearn_38 : decode cX9_canLearn 38 = .ok (.ireturn, 1) := by decide +kernel
theorem dX9_ears_0 : decode cX9_ears 0 = .ok (.aload_n 0, 1) := by decide +kernel
theorem dX9_ears_1 : decode cX9_ears 1 = .ok (.getfield 7, 3) := by decide +kernel
theorem dX9_ears_4 : decode cX9_ears 4 = .ok (.ifCond .lt 23, 3) := by decide +kernel
theorem dX9_ears_7 : decode cX9_ears 7 = .ok (.aload_n 0, 1) := by decide +kernel
theorem dX9_ears_8 : decode cX9_ears 8 = .ok (.getfield 7, 3) := by decide +kernel
theorem dX9_ears_11 : decode cX9_ears 11 = .ok (.bipush 8, 2) := by decide +kernel
theorem dX9_ears_13 : decode cX9_ears 13 = .ok (.if_icmp .ge 14, 3) := by decide +kernel
theorem dX9_ears_16 : decode cX9_ears 16 = .ok (.getstatic 60, 3) := by decide +kernel
theorem dX9_ears_19 : decode cX9_ears 19 = .ok (.aload_n 0, 1) := by decide +kernel
theorem dX9_ears_20 : decode cX9_ears 20 = .ok (.getfield 7, 3) := by decide +kernel
theorem dX9_ears_23 : decode cX9_ears 23 = .ok (.iaload, 1) := by decide +kernel
theorem dX9_ears_24 : decode cX9_ears 24 = .ok (.goto 4, 3) := by decide +kernel
theorem dX9_ears_27 : decode cX9_ears 27 = .ok (.iconst 0, 1) := by decide +kernel
theorem dX9_ears_28 : decode cX9_ears 28 = .ok (.ireturn, 1) := by decide +kernel
theorem dX9_held_0 : decode cX9_held 0 = .ok (.iload_n 1, 1) := by decide +kernel
theorem dX9_held_1 : decode cX9_held 1 = .ok (.invokestatic 73, 3) := by decide +kernel
theorem dX9_held_4 : decode cX9_held 4 = .ok (.ifCond .eq 18, 3) := by decide +kernel
theorem dX9_held_7 : decode cX9_held 7 = .ok (.aload_n 0, 1) := by decide +kernel
theorem dX9_held_8 : decode cX9_held 8 = .ok (.getfield 40, 3) := by decide +kernel
theorem dX9_held_11 : decode cX9_held 11 = .ok (.iload_n 1, 1) := by decide +kernel
theorem dX9_held_12 : decode cX9_held 12 = .ok (.iaload, 1) := by decide +kernel
theorem dX9_held_13 : decode cX9_held 13 = .ok (.aload_n 0, 1) := by decide +kernel
theorem dX9_held_14 : decode cX9_held 14 = .ok (.getfield 44, 3) := by decide +kernel
theorem dX9_held_17 : decode cX9_held 17 = .ok (.iload_n 1, 1) := by decide +kernel
theorem dX9_held_18 : decode cX9_held 18 = .ok (.iaload, 1) := by decide +kernel
theorem dX9_held_19 : decode cX9_held 19 = .ok (.if_icmp .ne 5, 3) := by decide +kernel
theorem dX9_held_22 : decode cX9_held 22 = .ok (.iconst 0, 1) := by decide +kernel
theorem dX9_held_23 : decode cX9_held 23 = .ok (.ireturn, 1) := by decide +kernel
theorem dX9_held_24 : decode cX9_held 24 = .ok (.aload_n 0, 1) := by decide +kernel
theorem dX9_held_25 : decode cX9_held 25 = .ok (.getfield 40, 3) := by decide +kernel
theorem dX9_held_28 : decode cX9_held 28 = .ok (.iload_n 1, 1) := by decide +kernel
theorem dX9_held_29 : decode cX9_held 29 = .ok (.iaload, 1) := by decide +kernel
theorem dX9_held_30 : decode cX9_held 30 = .ok (.aload_n 0, 1) := by decide +kernel
theorem dX9_held_31 : decode cX9_held 31 = .ok (.getfield 44, 3) := by decide +kernel
theorem dX9_held_34 : decode cX9_held 34 = .ok (.iload_n 1, 1) := by decide +kernel
theorem dX9_held_35 : decode cX9_held 35 = .ok (.iaload, 1) := by decide +kernel
theorem dX9_held_36 : decode cX9_held 36 = .ok (.if_icmp .le 7, 3) := by decide +kernel
theorem dX9_held_39 : decode cX9_held 39 = .ok (.iconst 2, 1) := by decide +kernel
theorem dX9_held_40 : decode cX9_held 40 = .ok (.goto 4, 3) := by decide +kernel
theorem dX9_held_43 : decode cX9_held 43 = .ok (.iconst 1, 1) := by decide +kernel
theorem dX9_held_44 : decode cX9_held 44 = .ok (.ireturn, 1) := by decide +kernel
theorem dX9_ownClick_0 : decode cX9_ownClick 0 = .ok (.bipush 100, 2) := by decide +kernel
theorem dX9_ownClick_2 : decode cX9_ownClick 2 = .ok (.aload_n 0, 1) := by decide +kernel
theorem dX9_ownClick_3 : decode cX9_ownClick 3 = .ok (.getfield 19, 3) := by decide +kernel
theorem dX9_ownClick_6 : decode cX9_ownClick 6 = .ok (.imul, 1) := by decide +kernel
theorem dX9_ownClick_7 : decode cX9_ownClick 7 = .ok (.aload_n 0, 1) := by decide +kernel
theorem dX9_ownClick_8 : decode cX9_ownClick 8 = .ok (.getfield 22, 3) := by decide +kernel
theorem dX9_ownClick_11 : decode cX9_ownClick 11 = .ok (.iadd, 1) := by decide +kernel
theorem dX9_ownClick_12 : decode cX9_ownClick 12 = .ok (.ireturn, 1) := by decide +kernel
theorem dX9_reach_0 : decode cX9_reach 0 = .ok (.aload_n 0, 1) := by decide +kernel
theorem dX9_reach_1 : decode cX9_reach 1 = .ok (.getfield 7, 3) := by decide +kernel
theorem dX9_reach_4 : decode cX9_reach 4 = .ok (.ifCond .lt 23, 3) := by decide +kernel
theorem dX9_reach_7 : decode cX9_reach 7 = .ok (.aload_n 0, 1) := by decide +kernel
theorem dX9_reach_8 : decode cX9_reach 8 = .ok (.getfield 7, 3) := by decide +kernel
theorem dX9_reach_11 : decode cX9_reach 11 = .ok (.bipush 8, 2) := by decide +kernel
theorem dX9_reach_13 : decode cX9_reach 13 = .ok (.if_icmp .ge 14, 3) := by decide +kernel
theorem dX9_reach_16 : decode cX9_reach 16 = .ok (.getstatic 54, 3) := by decide +kernel
theorem dX9_reach_19 : decode cX9_reach 19 = .ok (.aload_n 0, 1) := by decide +kernel
theorem dX9_reach_20 : decode cX9_reach 20 = .ok (.getfield 7, 3) := by decide +kernel
theorem dX9_reach_23 : decode cX9_reach 23 = .ok (.iaload, 1) := by decide +kernel
theorem dX9_reach_24 : decode cX9_reach 24 = .ok (.goto 4, 3) := by decide +kernel
theorem dX9_reach_27 : decode cX9_reach 27 = .ok (.iconst 0, 1) := by decide +kernel
theorem dX9_reach_28 : decode cX9_reach 28 = .ok (.ireturn, 1) := by decide +kernel
theorem dX9_speed_0 : decode cX9_speed 0 = .ok (.aload_n 0, 1) := by decide +kernel
theorem dX9_speed_1 : decode cX9_speed 1 = .ok (.getfield 7, 3) := by decide +kernel
theorem dX9_speed_4 : decode cX9_speed 4 = .ok (.ifCond .lt 23, 3) := by decide +kernel
theorem dX9_speed_7 : decode cX9_speed 7 = .ok (.aload_n 0, 1) := by decide +kernel
theorem dX9_speed_8 : decode cX9_speed 8 = .ok (.getfield 7, 3) := by decide +kernel
theorem dX9_speed_11 : decode cX9_speed 11 = .ok (.bipush 8, 2) := by decide +kernel
theorem dX9_speed_13 : decode cX9_speed 13 = .ok (.if_icmp .ge 14, 3) := by decide +kernel
theorem dX9_speed_16 : decode cX9_speed 16 = .ok (.getstatic 57, 3) := by decide +kernel
theorem dX9_speed_19 : decode cX9_speed 19 = .ok (.aload_n 0, 1) := by decide +kernel
theorem dX9_speed_20 : decode cX9_speed 20 = .ok (.getfield 7, 3) := by decide +kernel
theorem dX9_speed_23 : decode cX9_speed 23 = .ok (.iaload, 1) := by decide +kernel
theorem dX9_speed_24 : decode cX9_speed 24 = .ok (.goto 4, 3) := by decide +kernel
theorem dX9_speed_27 : decode cX9_speed 27 = .ok (.iconst 0, 1) := by decide +kernel
theorem dX9_speed_28 : decode cX9_speed 28 = .ok (.ireturn, 1) := by decide +kernel
theorem dX9_turn_0 : decode cX9_turn 0 = .ok (.aload_n 0, 1) := by decide +kernel
theorem dX9_turn_1 : decode cX9_turn 1 = .ok (.aload_n 0, 1) := by decide +kernel
theorem dX9_turn_2 : decode cX9_turn 2 = .ok (.getfield 16, 3) := by decide +kernel
theorem dX9_turn_5 : decode cX9_turn 5 = .ok (.iload_n 1, 1) := by decide +kernel
theorem dX9_turn_6 : decode cX9_turn 6 = .ok (.iadd, 1) := by decide +kernel
theorem dX9_turn_7 : decode cX9_turn 7 = .ok (.bipush 7, 2) := by decide +kernel
theorem dX9_turn_9 : decode cX9_turn 9 = .ok (.iand, 1) := by decide +kernel
theorem dX9_turn_10 : decode cX9_turn 10 = .ok (.putfield 16, 3) := by decide +kernel
theorem dX9_turn_13 : decode cX9_turn 13 = .ok (.return_, 1) := by decide +kernel
