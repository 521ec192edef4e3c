/-! words of the tables that are used, by their places; decode rows; classes -/
theorem m_86 : Cond.initialized "java/lang/Math" ∈ BASE := bmem 86 (by decide +kernel) rfl
theorem m_260 : Cond.fieldLink RX9 13 "ClickStreet$Walker" "cell" "I" ∈ BASE := bmem 260 (by decide +kernel) rfl
theorem m_272 : Cond.fieldLink RX9 25 "ClickStreet$Walker" "every" "I" ∈ BASE := bmem 272 (by decide +kernel) rfl
theorem m_275 : Cond.fieldLink RX9 28 "ClickStreet$Walker" "isGoing" "Z" ∈ BASE := bmem 275 (by decide +kernel) rfl
theorem m_278 : Cond.fieldLink RX9 32 "ClickStreet$Walker" "bumps" "I" ∈ BASE := bmem 278 (by decide +kernel) rfl
theorem m_280 : Cond.fieldLink RX9 35 "ClickStreet$Walker" "clicks" "I" ∈ BASE := bmem 280 (by decide +kernel) rfl
theorem m_445 : Cond.fieldLink RX6 7 "ClickStreet$Sheet" "bits" "I" ∈ BASE := bmem 445 (by decide +kernel) rfl
theorem m_447 : Cond.fieldLink RX6 13 "ClickStreet$Sheet" "size" "I" ∈ BASE := bmem 447 (by decide +kernel) rfl
theorem m_617 : Cond.methodLink RX9 63 yX9_reach ∈ BASE := bmem 617 (by decide +kernel) rfl
theorem m_618 : Cond.instanceMethod yX9_reach ∈ BASE := bmem 618 (by decide +kernel) rfl
theorem m_619 : Cond.selects yX9_reach.cls yX9_reach yX9_reach ∈ BASE := bmem 619 (by decide +kernel) rfl
theorem m_620 : Cond.code yX9_reach cX9_reach 1 (some .int) ∈ BASE := bmem 620 (by decide +kernel) rfl
theorem m_623 : Cond.methodLink RX9 67 yX9_speed ∈ BASE := bmem 623 (by decide +kernel) rfl
theorem m_624 : Cond.instanceMethod yX9_speed ∈ BASE := bmem 624 (by decide +kernel) rfl
theorem m_625 : Cond.selects yX9_speed.cls yX9_speed yX9_speed ∈ BASE := bmem 625 (by decide +kernel) rfl
theorem m_626 : Cond.code yX9_speed cX9_speed 1 (some .int) ∈ BASE := bmem 626 (by decide +kernel) rfl
theorem m_629 : Cond.methodLink RX9 70 yX9_ears ∈ BASE := bmem 629 (by decide +kernel) rfl
theorem m_630 : Cond.instanceMethod yX9_ears ∈ BASE := bmem 630 (by decide +kernel) rfl
theorem m_631 : Cond.selects yX9_ears.cls yX9_ears yX9_ears ∈ BASE := bmem 631 (by decide +kernel) rfl
theorem m_632 : Cond.code yX9_ears cX9_ears 1 (some .int) ∈ BASE := bmem 632 (by decide +kernel) rfl
theorem m_643 : Cond.methodLink RX9 50 yX9_kindAbove ∈ BASE := bmem 643 (by decide +kernel) rfl
theorem m_644 : Cond.static yX9_kindAbove ∈ BASE := bmem 644 (by decide +kernel) rfl
theorem m_645 : Cond.code yX9_kindAbove cX9_kindAbove 1 (some .int) ∈ BASE := bmem 645 (by decide +kernel) rfl
theorem m_770 : Cond.static Lib.Math.min.name ∈ BASE := bmem 770 (by decide +kernel) rfl
theorem m_771 : Cond.code Lib.Math.min.name Lib.Math.min.code 2 (some .int) ∈ BASE := bmem 771 (by decide +kernel) rfl
theorem m_920 : Cond.methodLink RX9 77 Lib.Math.min.name ∈ BASE := bmem 920 (by decide +kernel) rfl
theorem m_1049 : Cond.methodLink RX9 86 yX7_cellFrom ∈ BASE := bmem 1049 (by decide +kernel) rfl
theorem kS_X9_kindAbove : KS yX9_kindAbove cX9_kindAbove 1 (some .int) 1 := ⟨m_644, m_87, m_645, by decide +kernel, by decide +kernel, by decide +kernel⟩
theorem kV_X9_ears : KV yX9_ears cX9_ears 1 (some .int) 0 := ⟨m_630, m_631, m_87, m_632, by decide +kernel, by decide +kernel, by decide +kernel⟩
theorem kV_X9_reach : KV yX9_reach cX9_reach 1 (some .int) 0 := ⟨m_618, m_619, m_87, m_620, by decide +kernel, by decide +kernel, by decide +kernel⟩
theorem kV_X9_speed : KV yX9_speed cX9_speed 1 (some .int) 0 := ⟨m_624, m_625, m_87, m_626, by decide +kernel, by decide +kernel, by decide +kernel⟩
theorem inB6 : ∀ w ∈ u_ws RX6 TX6 3, w ∈ BASE := bmems (u_ws RX6 TX6 3) [452, 454, 456] (by decide +kernel) (by decide +kernel)
theorem df6 : ∀ j, j < 3 → defaultValue (tyX6 j) = vp_V [.int 0, .int 0, .null] j := fun j hj => by rcases (show j = 0 ∨ j = 1 ∨ j = 2 by omega) with rfl | rfl | rfl <;> rfl
/-! decode rows -/
theorem dX6_drop_0 : decode cX6_drop 0 = .ok (.aload_n 0, 1) := by decide +kernel
theorem dX6_drop_1 : decode cX6_drop 1 = .ok (.iconst 0, 1) := by decide +kernel
theorem dX6_drop_2 : decode cX6_drop 2 = .ok (.putfield 7, 3) := by decide +kernel
theorem dX6_drop_5 : decode cX6_drop 5 = .ok (.aload_n 0, 1) := by decide +kernel
theorem dX6_drop_6 : decode cX6_drop 6 = .ok (.iconst 0, 1) := by decide +kernel
theorem dX6_drop_7 : decode cX6_drop 7 = .ok (.putfield 13, 3) := by decide +kernel
theorem dX6_drop_10 : decode cX6_drop 10 = .ok (.return_, 1) := by decide +kernel
theorem dX6_hasRun_0 : decode cX6_hasRun 0 = .ok (.iload_n 1, 1) := by decide +kernel
theorem dX6_hasRun_1 : decode cX6_hasRun 1 = .ok (.ifCond .lt 29, 3) := by decide +kernel
theorem dX6_hasRun_4 : decode cX6_hasRun 4 = .ok (.iload_n 2, 1) := by decide +kernel
theorem dX6_hasRun_5 : decode cX6_hasRun 5 = .ok (.ifCond .lt 25, 3) := by decide +kernel
theorem dX6_hasRun_8 : decode cX6_hasRun 8 = .ok (.iload_n 1, 1) := by decide +kernel
theorem dX6_hasRun_9 : decode cX6_hasRun 9 = .ok (.aload_n 0, 1) := by decide +kernel
theorem dX6_hasRun_10 : decode cX6_hasRun 10 = .ok (.getfield 13, 3) := by decide +kernel
theorem dX6_hasRun_13 : decode cX6_hasRun 13 = .ok (.if_icmp .gt 17, 3) := by decide +kernel
theorem dX6_hasRun_16 : decode cX6_hasRun 16 = .ok (.iload_n 2, 1) := by decide +kernel
theorem dX6_hasRun_17 : decode cX6_hasRun 17 = .ok (.aload_n 0, 1) := by decide +kernel
theorem dX6_hasRun_18 : decode cX6_hasRun 18 = .ok (.getfield 13, 3) := by decide +kernel
theorem dX6_hasRun_21 : decode cX6_hasRun 21 = .ok (.iload_n 1, 1) := by decide +kernel
theorem dX6_hasRun_22 : decode cX6_hasRun 22 = .ok (.isub, 1) := by decide +kernel
theorem dX6_hasRun_23 : decode cX6_hasRun 23 = .ok (.if_icmp .gt 7, 3) := by decide +kernel
theorem dX6_hasRun_26 : decode cX6_hasRun 26 = .ok (.iconst 1, 1) := by decide +kernel
theorem dX6_hasRun_27 : decode cX6_hasRun 27 = .ok (.goto 4, 3) := by decide +kernel
theorem dX6_hasRun_30 : decode cX6_hasRun 30 = .ok (.iconst 0, 1) := by decide +kernel
theorem dX6_hasRun_31 : decode cX6_hasRun 31 = .ok (.ireturn, 1) := by decide +kernel
theorem dX6_isMissing_0 : decode cX6_isMissing 0 = .ok (.aload_n 0, 1) := by decide +kernel
theorem dX6_isMissing_1 : decode cX6_isMissing 1 = .ok (.getfield 7, 3) := by decide +kernel
theorem dX6_isMissing_4 : decode cX6_isMissing 4 = .ok (.ifCond .ne 7, 3) := by decide +kernel
theorem dX6_isMissing_7 : decode cX6_isMissing 7 = .ok (.iconst 1, 1) := by decide +kernel
theorem dX6_isMissing_8 : decode cX6_isMissing 8 = .ok (.goto 4, 3) := by decide +kernel
theorem dX6_isMissing_11 : decode cX6_isMissing 11 = .ok (.iconst 0, 1) := by decide +kernel
theorem dX6_isMissing_12 : decode cX6_isMissing 12 = .ok (.ireturn, 1) := by decide +kernel
theorem dX9_addNo_0 : decode cX9_addNo 0 = .ok (.iload_n 1, 1) := by decide +kernel
theorem dX9_addNo_1 : decode cX9_addNo 1 = .ok (.invokestatic 73, 3) := by decide +kernel
theorem dX9_addNo_4 : decode cX9_addNo 4 = .ok (.ifCond .eq 22, 3) := by decide +kernel
theorem dX9_addNo_7 : decode cX9_addNo 7 = .ok (.aload_n 0, 1) := by decide +kernel
theorem dX9_addNo_8 : decode cX9_addNo 8 = .ok (.getfield 44, 3) := by decide +kernel
theorem dX9_addNo_11 : decode cX9_addNo 11 = .ok (.iload_n 1, 1) := by decide +kernel
theorem dX9_addNo_12 : decode cX9_addNo 12 = .ok (.bipush 99, 2) := by decide +kernel
theorem dX9_addNo_14 : decode cX9_addNo 14 = .ok (.aload_n 0, 1) := by decide +kernel
theorem dX9_addNo_15 : decode cX9_addNo 15 = .ok (.getfield 44, 3) := by decide +kernel
theorem dX9_addNo_18 : decode cX9_addNo 18 = .ok (.iload_n 1, 1) := by decide +kernel
theorem dX9_addNo_19 : decode cX9_addNo 19 = .ok (.iaload, 1) := by decide +kernel
theorem dX9_addNo_20 : decode cX9_addNo 20 = .ok (.iconst 1, 1) := by decide +kernel
theorem dX9_addNo_21 : decode cX9_addNo 21 = .ok (.iadd, 1) := by decide +kernel
theorem dX9_addNo_22 : decode cX9_addNo 22 = .ok (.invokestatic 77, 3) := by decide +kernel
theorem dX9_addNo_25 : decode cX9_addNo 25 = .ok (.iastore, 1) := by decide +kernel
theorem dX9_addNo_26 : decode cX9_addNo 26 = .ok (.return_, 1) := by decide +kernel
theorem dX9_addYes_0 : decode cX9_addYes 0 = .ok (.iload_n 1, 1) := by decide +kernel
theorem dX9_addYes_1 : decode cX9_addYes 1 = .ok (.invokestatic 73, 3) := by decide +kernel
theorem dX9_addYes_4 : decode cX9_addYes 4 = .ok (.ifCond .eq 22, 3) := by decide +kernel
theorem dX9_addYes_7 : decode cX9_addYes 7 = .ok (.aload_n 0, 1) := by decide +kernel
theorem dX9_addYes_8 : decode cX9_addYes 8 = .ok (.getfield 40, 3) := by decide +kernel
theorem dX9_addYes_11 : decode cX9_addYes 11 = .ok (.iload_n 1, 1) := by decide +kernel
theorem dX9_addYes_12 : decode cX9_addYes 12 = .ok (.bipush 99, 2) := by decide +kernel
theorem dX9_addYes_14 : decode cX9_addYes 14 = .ok (.aload_n 0, 1) := by decide +kernel
theorem dX9_addYes_15 : decode cX9_addYes 15 = .ok (.getfield 40, 3) := by decide +kernel
theorem dX9_addYes_18 : decode cX9_addYes 18 = .ok (.iload_n 1, 1) := by decide +kernel
theorem dX9_addYes_19 : decode cX9_addYes 19 = .ok (.iaload, 1) := by decide +kernel
theorem dX9_addYes_20 : decode cX9_addYes 20 = .ok (.iload_n 2, 1) := by decide +kernel
theorem dX9_addYes_21 : decode cX9_addYes 21 = .ok (.iadd, 1) := by decide +kernel
theorem dX9_addYes_22 : decode cX9_addYes 22 = .ok (.invokestatic 77, 3) := by decide +kernel
theorem dX9_addYes_25 : decode cX9_addYes 25 = .ok (.iastore, 1) := by decide +kernel
theorem dX9_addYes_26 : decode cX9_addYes 26 = .ok (.return_, 1) := by decide +kernel
theorem dX9_factOf_0 : decode cX9_factOf 0 = .ok (.iload_n 1, 1) := by decide +kernel
theorem dX9_factOf_1 : decode cX9_factOf 1 = .ok (.tableswitch 122 0 10 #[59, 64, 69, 74, 79, 84, 89, 102, 107, 112, 117], 59) := by decide +kernel
theorem dX9_factOf_60 : decode cX9_factOf 60 = .ok (.aload_n 0, 1) := by decide +kernel
theorem dX9_factOf_61 : decode cX9_factOf 61 = .ok (.getfield 7, 3) := by decide +kernel
theorem dX9_factOf_64 : decode cX9_factOf 64 = .ok (.ireturn, 1) := by decide +kernel
theorem dX9_factOf_65 : decode cX9_factOf 65 = .ok (.aload_n 0, 1) := by decide +kernel
theorem dX9_factOf_66 : decode cX9_factOf 66 = .ok (.getfield 13, 3) := by decide +kernel
theorem dX9_factOf_69 : decode cX9_factOf 69 = .ok (.ireturn, 1) := by decide +kernel
theorem dX9_factOf_70 : decode cX9_factOf 70 = .ok (.aload_n 0, 1) := by decide +kernel
theorem dX9_factOf_71 : decode cX9_factOf 71 = .ok (.getfield 16, 3) := by decide +kernel
theorem dX9_factOf_74 : decode cX9_factOf 74 = .ok (.ireturn, 1) := by decide +kernel
theorem dX9_factOf_75 : decode cX9_factOf 75 = .ok (.aload_n 0, 1) := by decide +kernel
theorem dX9_factOf_76 : decode cX9_factOf 76 = .ok (.getfield 19, 3) := by decide +kernel
theorem dX9_factOf_79 : decode cX9_factOf 79 = .ok (.ireturn, 1) := by decide +kernel
theorem dX9_factOf_80 : decode cX9_factOf 80 = .ok (.aload_n 0, 1) := by decide +kernel
theorem dX9_factOf_81 : decode cX9_factOf 81 = .ok (.getfield 22, 3) := by decide +kernel
theorem dX9_factOf_84 : decode cX9_factOf 84 = .ok (.ireturn, 1) := by decide +kernel
theorem dX9_factOf_85 : decode cX9_factOf 85 = .ok (.aload_n 0, 1) := by decide +kernel
theorem dX9_factOf_86 : decode cX9_factOf 86 = .ok (.getfield 25, 3) := by decide +kernel
theorem dX9_factOf_89 : decode cX9_factOf 89 = .ok (.ireturn, 1) := by decide +kernel
theorem dX9_factOf_90 : decode cX9_factOf 90 = .ok (.aload_n 0, 1) := by decide +kernel
theorem dX9_factOf_91 : decode cX9_factOf 91 = .ok (.getfield 28, 3) := by decide +kernel
theorem dX9_factOf_94 : decode cX9_factOf 94 = .ok (.ifCond .eq 7, 3) := by decide +kernel
theorem dX9_factOf_97 : decode cX9_factOf 97 = .ok (.iconst 1, 1) := by decide +kernel
theorem dX9_factOf_98 : decode cX9_factOf 98 = .ok (.goto 4, 3) := by decide +kernel
theorem dX9_factOf_101 : decode cX9_factOf 101 = .ok (.iconst 0, 1) := by decide +kernel
theorem dX9_factOf_102 : decode cX9_factOf 102 = .ok (.ireturn, 1) := by decide +kernel
theorem dX9_factOf_103 : decode cX9_factOf 103 = .ok (.aload_n 0, 1) := by decide +kernel
theorem dX9_factOf_104 : decode cX9_factOf 104 = .ok (.getfield 32, 3) := by decide +kernel
theorem dX9_factOf_107 : decode cX9_factOf 107 = .ok (.ireturn, 1) := by decide +kernel
theorem dX9_factOf_108 : decode cX9_factOf 108 = .ok (.aload_n 0, 1) := by decide +kernel
theorem dX9_factOf_109 : decode cX9_factOf 109 = .ok (.getfield 35, 3) := by decide +kernel
theorem dX9_factOf_112 : decode cX9_factOf 112 = .ok (.ireturn, 1) := by decide +kernel
theorem dX9_factOf_113 : decode cX9_factOf 113 = .ok (.aload_n 0, 1) := by decide +kernel
theorem dX9_factOf_114 : decode cX9_factOf 114 = .ok (.invokevirtual 63, 3) := by decide +kernel
theorem dX9_factOf_117 : decode cX9_factOf 117 = .ok (.ireturn, 1) := by decide +kernel
theorem dX9_factOf_118 : decode cX9_factOf 118 = .ok (.aload_n 0, 1) := by decide +kernel
theorem dX9_factOf_119 : decode cX9_factOf 119 = .ok (.invokevirtual 67, 3) := by decide +kernel
theorem dX9_factOf_122 : decode cX9_factOf 122 = .ok (.ireturn, 1) := by decide +kernel
theorem dX9_factOf_123 : decode cX9_factOf 123 = .ok (.aload_n 0, 1) := by decide +kernel
theorem dX9_factOf_124 : decode cX9_factOf 124 = .ok (.invokevirtual 70, 3) := by decide +kernel
theorem dX9_factOf_127 : decode cX9_factOf 127 = .ok (.ireturn, 1) := by decide +kernel
theorem dX9_isOf_0 : decode cX9_isOf 0 = .ok (.aload_n 0, 1) := by decide +kernel
theorem dX9_isOf_1 : decode cX9_isOf 1 = .ok (.getfield 7, 3) := by decide +kernel
theorem dX9_isOf_4 : decode cX9_isOf 4 = .ok (.istore_n 2, 1) := by decide +kernel
theorem dX9_isOf_5 : decode cX9_isOf 5 = .ok (.iconst 0, 1) := by decide +kernel
theorem dX9_isOf_6 : decode cX9_isOf 6 = .ok (.istore_n 3, 1) := by decide +kernel
theorem dX9_isOf_7 : decode cX9_isOf 7 = .ok (.iload_n 3, 1) := by decide +kernel
theorem dX9_isOf_8 : decode cX9_isOf 8 = .ok (.bipush 8, 2) := by decide +kernel
theorem dX9_isOf_10 : decode cX9_isOf 10 = .ok (.if_icmp .ge 25, 3) := by decide +kernel
theorem dX9_isOf_13 : decode cX9_isOf 13 = .ok (.iload_n 2, 1) := by decide +kernel
theorem dX9_isOf_14 : decode cX9_isOf 14 = .ok (.ifCond .lt 21, 3) := by decide +kernel
theorem dX9_isOf_17 : decode cX9_isOf 17 = .ok (.iload_n 2, 1) := by decide +kernel
theorem dX9_isOf_18 : decode cX9_isOf 18 = .ok (.iload_n 1, 1) := by decide +kernel
theorem dX9_isOf_19 : decode cX9_isOf 19 = .ok (.if_icmp .ne 5, 3) := by decide +kernel
theorem dX9_isOf_22 : decode cX9_isOf 22 = .ok (.iconst 1, 1) := by decide +kernel
theorem dX9_isOf_23 : decode cX9_isOf 23 = .ok (.ireturn, 1) := by decide +kernel
theorem dX9_isOf_24 : decode cX9_isOf 24 = .ok (.iload_n 2, 1) := by decide +kernel
theorem dX9_isOf_25 : decode cX9_isOf 25 = .ok (.invokestatic 50, 3) := by decide +kernel
theorem dX9_isOf_28 : decode cX9_isOf 28 = .ok (.istore_n 2, 1) := by decide +kernel
theorem dX9_isOf_29 : decode cX9_isOf 29 = .ok (.iinc 3 1, 3) := by decide +kernel
theorem dX9_isOf_32 : decode cX9_isOf 32 = .ok (.goto (-25), 3) := by decide +kernel
theorem dX9_isOf_35 : decode cX9_isOf 35 = .ok (.iconst 0, 1) := by decide +kernel
theorem dX9_isOf_36 : decode cX9_isOf 36 = .ok (.ireturn, 1) := by decide +kernel
theorem dX9_yardsHeldFree_0 : decode cX9_yardsHeldFree 0 = .ok (.iconst 0, 1) := by decide +kernel
theorem dX9_yardsHeldFree_1 : decode cX9_yardsHeldFree 1 = .ok (.istore_n 1, 1) := by decide +kernel
theorem dX9_yardsHeldFree_2 : decode cX9_yardsHeldFree 2 = .ok (.iload_n 1, 1) := by decide +kernel
theorem dX9_yardsHeldFree_3 : decode cX9_yardsHeldFree 3 = .ok (.bipush 15, 2) := by decide +kernel
theorem dX9_yardsHeldFree_5 : decode cX9_yardsHeldFree 5 = .ok (.if_icmp .ge 31, 3) := by decide +kernel
theorem dX9_yardsHeldFree_8 : decode cX9_yardsHeldFree 8 = .ok (.aload_n 0, 1) := by decide +kernel
theorem dX9_yardsHeldFree_9 : decode cX9_yardsHeldFree 9 = .ok (.aload_n 0, 1) := by decide +kernel
theorem dX9_yardsHeldFree_10 : decode cX9_yardsHeldFree 10 = .ok (.getfield 13, 3) := by decide +kernel
theorem dX9_yardsHeldFree_13 : decode cX9_yardsHeldFree 13 = .ok (.aload_n 0, 1) := by decide +kernel
theorem dX9_yardsHeldFree_14 : decode cX9_yardsHeldFree 14 = .ok (.getfield 16, 3) := by decide +kernel
theorem dX9_yardsHeldFree_17 : decode cX9_yardsHeldFree 17 = .ok (.iload_n 1, 1) := by decide +kernel
theorem dX9_yardsHeldFree_18 : decode cX9_yardsHeldFree 18 = .ok (.iconst 1, 1) := by decide +kernel
theorem dX9_yardsHeldFree_19 : decode cX9_yardsHeldFree 19 = .ok (.iadd, 1) := by decide +kernel
theorem dX9_yardsHeldFree_20 : decode cX9_yardsHeldFree 20 = .ok (.invokestatic 86, 3) := by decide +kernel
theorem dX9_yardsHeldFree_23 : decode cX9_yardsHeldFree 23 = .ok (.invokevirtual 83, 3) := by decide +kernel
theorem dX9_yardsHeldFree_26 : decode cX9_yardsHeldFree 26 = .ok (.iconst 1, 1) := by decide +kernel
theorem dX9_yardsHeldFree_27 : decode cX9_yardsHeldFree 27 = .ok (.if_icmp .ne 9, 3) := by decide +kernel
theorem dX9_yardsHeldFree_30 : decode cX9_yardsHeldFree 30 = .ok (.iinc 1 1, 3) := by decide +kernel
theorem dX9_yardsHeldFree_33 : decode cX9_yardsHeldFree 33 = .ok (.goto (-31), 3) := by decide +kernel
theorem dX9_yardsHeldFree_36 : decode cX9_yardsHeldFree 36 = .ok (.iload_n 1, 1) := by decide +kernel
theorem dX9_yardsHeldFree_37 : decode cX9_yardsHeldFree 37 = .ok (.ireturn, 1) := by decide +kernel
theorem dX9_yardsToFull_0 : decode cX9_yardsToFull 0 = .ok (.iconst 1, 1) := by decide +kernel
theorem dX9_yardsToFull_1 : decode cX9_yardsToFull 1 = .ok (.istore_n 2, 1) := by decide +kernel
theorem dX9_yardsToFull_2 : decode cX9_yardsToFull 2 = .ok (.iload_n 2, 1) := by decide +kernel
theorem dX9_yardsToFull_3 : decode cX9_yardsToFull 3 = .ok (.bipush 9, 2) := by decide +kernel
theorem dX9_yardsToFull_5 : decode cX9_yardsToFull 5 = .ok (.if_icmp .gt 28, 3) := by decide +kernel
theorem dX9_yardsToFull_8 : decode cX9_yardsToFull 8 = .ok (.aload_n 0, 1) := by decide +kernel
theorem dX9_yardsToFull_9 : decode cX9_yardsToFull 9 = .ok (.aload_n 0, 1) := by decide +kernel
theorem dX9_yardsToFull_10 : decode cX9_yardsToFull 10 = .ok (.getfield 13, 3) := by decide +kernel
theorem dX9_yardsToFull_13 : decode cX9_yardsToFull 13 = .ok (.iload_n 1, 1) := by decide +kernel
theorem dX9_yardsToFull_14 : decode cX9_yardsToFull 14 = .ok (.iload_n 2, 1) := by decide +kernel
theorem dX9_yardsToFull_15 : decode cX9_yardsToFull 15 = .ok (.invokestatic 86, 3) := by decide +kernel
theorem dX9_yardsToFull_18 : decode cX9_yardsToFull 18 = .ok (.invokevirtual 83, 3) := by decide +kernel
theorem dX9_yardsToFull_21 : decode cX9_yardsToFull 21 = .ok (.iconst 2, 1) := by decide +kernel
theorem dX9_yardsToFull_22 : decode cX9_yardsToFull 22 = .ok (.if_icmp .ne 5, 3) := by decide +kernel
theorem dX9_yardsToFull_25 : decode cX9_yardsToFull 25 = .ok (.iload_n 2, 1) := by decide +kernel
theorem dX9_yardsToFull_26 : decode cX9_yardsToFull 26 = .ok (.ireturn, 1) := by decide +kernel
theorem dX9_yardsToFull_27 : decode cX9_yardsToFull 27 = .ok (.iinc 2 1, 3) := by decide +kernel
theorem dX9_yardsToFull_30 : decode cX9_yardsToFull 30 = .ok (.goto (-28), 3) := by decide +kernel
theorem dX9_yardsToFull_33 : decode cX9_yardsToFull 33 = .ok (.iconst 0, 1) := by decide +kernel
theorem dX9_yardsToFull_34 : decode cX9_yardsToFull 34 = .ok (.ireturn, 1) := by decide +kernel
