/-! words of the tables that are used, by their places; decode rows; classes -/
theorem m_91 : Cond.initialized RX6 ∈ BASE := bmem 91 (by decide +kernel) rfl
theorem m_206 : Cond.static Lib.Math.max.name ∈ BASE := bmem 206 (by decide +kernel) rfl
theorem m_207 : Cond.code Lib.Math.max.name Lib.Math.max.code 2 (some .int) ∈ BASE := bmem 207 (by decide +kernel) rfl
theorem m_450 : Cond.fieldLink RX6 16 "ClickStreet$Sheet" "numbers" "[I" ∈ BASE := bmem 450 (by decide +kernel) rfl
theorem m_574 : Cond.instanceMethod yX6_numberAt ∈ BASE := bmem 574 (by decide +kernel) rfl
theorem m_575 : Cond.selects yX6_numberAt.cls yX6_numberAt yX6_numberAt ∈ BASE := bmem 575 (by decide +kernel) rfl
theorem m_576 : Cond.code yX6_numberAt cX6_numberAt 2 (some .int) ∈ BASE := bmem 576 (by decide +kernel) rfl
theorem m_577 : Cond.methodLink RX6 29 yX6_has ∈ BASE := bmem 577 (by decide +kernel) rfl
theorem m_578 : Cond.instanceMethod yX6_has ∈ BASE := bmem 578 (by decide +kernel) rfl
theorem m_579 : Cond.selects yX6_has.cls yX6_has yX6_has ∈ BASE := bmem 579 (by decide +kernel) rfl
theorem m_580 : Cond.code yX6_has cX6_has 2 (some .boolean) ∈ BASE := bmem 580 (by decide +kernel) rfl
theorem m_982 : Cond.methodLink RX6 33 yX6_numberAt ∈ BASE := bmem 982 (by decide +kernel) rfl
theorem m_983 : Cond.methodLink RX6 37 yX7_isCell ∈ BASE := bmem 983 (by decide +kernel) rfl
theorem m_1230 : Cond.methodLink RX6 20 Lib.Math.min.name ∈ BASE := bmem 1230 (by decide +kernel) rfl
theorem m_1231 : Cond.methodLink RX6 26 Lib.Math.max.name ∈ BASE := bmem 1231 (by decide +kernel) rfl
theorem m_1279 : Cond.methodLink RX9 90 arraycopyName ∈ BASE := bmem 1279 (by decide +kernel) rfl
theorem kV_X6_has : KV yX6_has cX6_has 2 (some .boolean) 1 := ⟨m_578, m_579, m_91, m_580, by decide +kernel, by decide +kernel, by decide +kernel⟩
theorem kV_X6_numberAt : KV yX6_numberAt cX6_numberAt 2 (some .int) 1 := ⟨m_574, m_575, m_91, m_576, by decide +kernel, by decide +kernel, by decide +kernel⟩
/-! decode rows -/
theorem dX6_begin_0 : decode cX6_begin 0 = .ok (.aload_n 0, 1) := by decide +kernel
theorem dX6_begin_1 : decode cX6_begin 1 = .ok (.iload_n 1, 1) := by decide +kernel
theorem dX6_begin_2 : decode cX6_begin 2 = .ok (.putfield 7, 3) := by decide +kernel
theorem dX6_begin_5 : decode cX6_begin 5 = .ok (.aload_n 0, 1) := by decide +kernel
theorem dX6_begin_6 : decode cX6_begin 6 = .ok (.iconst 0, 1) := by decide +kernel
theorem dX6_begin_7 : decode cX6_begin 7 = .ok (.bipush 24, 2) := by decide +kernel
theorem dX6_begin_9 : decode cX6_begin 9 = .ok (.iload_n 2, 1) := by decide +kernel
theorem dX6_begin_10 : decode cX6_begin 10 = .ok (.invokestatic 20, 3) := by decide +kernel
theorem dX6_begin_13 : decode cX6_begin 13 = .ok (.invokestatic 26, 3) := by decide +kernel
theorem dX6_begin_16 : decode cX6_begin 16 = .ok (.putfield 13, 3) := by decide +kernel
theorem dX6_begin_19 : decode cX6_begin 19 = .ok (.iconst 0, 1) := by decide +kernel
theorem dX6_begin_20 : decode cX6_begin 20 = .ok (.istore_n 3, 1) := by decide +kernel
theorem dX6_begin_21 : decode cX6_begin 21 = .ok (.iload_n 3, 1) := by decide +kernel
theorem dX6_begin_22 : decode cX6_begin 22 = .ok (.bipush 24, 2) := by decide +kernel
theorem dX6_begin_24 : decode cX6_begin 24 = .ok (.if_icmp .ge 16, 3) := by decide +kernel
theorem dX6_begin_27 : decode cX6_begin 27 = .ok (.aload_n 0, 1) := by decide +kernel
theorem dX6_begin_28 : decode cX6_begin 28 = .ok (.getfield 16, 3) := by decide +kernel
theorem dX6_begin_31 : decode cX6_begin 31 = .ok (.iload_n 3, 1) := by decide +kernel
theorem dX6_begin_32 : decode cX6_begin 32 = .ok (.iconst 0, 1) := by decide +kernel
theorem dX6_begin_33 : decode cX6_begin 33 = .ok (.iastore, 1) := by decide +kernel
theorem dX6_begin_34 : decode cX6_begin 34 = .ok (.iinc 3 1, 3) := by decide +kernel
theorem dX6_begin_37 : decode cX6_begin 37 = .ok (.goto (-16), 3) := by decide +kernel
theorem dX6_begin_40 : decode cX6_begin 40 = .ok (.return_, 1) := by decide +kernel
theorem dX6_has_0 : decode cX6_has 0 = .ok (.iload_n 1, 1) := by decide +kernel
theorem dX6_has_1 : decode cX6_has 1 = .ok (.ifCond .lt 21, 3) := by decide +kernel
theorem dX6_has_4 : decode cX6_has 4 = .ok (.iload_n 1, 1) := by decide +kernel
theorem dX6_has_5 : decode cX6_has 5 = .ok (.aload_n 0, 1) := by decide +kernel
theorem dX6_has_6 : decode cX6_has 6 = .ok (.getfield 13, 3) := by decide +kernel
theorem dX6_has_9 : decode cX6_has 9 = .ok (.if_icmp .ge 13, 3) := by decide +kernel
theorem dX6_has_12 : decode cX6_has 12 = .ok (.iload_n 1, 1) := by decide +kernel
theorem dX6_has_13 : decode cX6_has 13 = .ok (.bipush 24, 2) := by decide +kernel
theorem dX6_has_15 : decode cX6_has 15 = .ok (.if_icmp .ge 7, 3) := by decide +kernel
theorem dX6_has_18 : decode cX6_has 18 = .ok (.iconst 1, 1) := by decide +kernel
theorem dX6_has_19 : decode cX6_has 19 = .ok (.goto 4, 3) := by decide +kernel
theorem dX6_has_22 : decode cX6_has 22 = .ok (.iconst 0, 1) := by decide +kernel
theorem dX6_has_23 : decode cX6_has 23 = .ok (.ireturn, 1) := by decide +kernel
theorem dX6_holdsFewCells_0 : decode cX6_holdsFewCells 0 = .ok (.aload_n 0, 1) := by decide +kernel
theorem dX6_holdsFewCells_1 : decode cX6_holdsFewCells 1 = .ok (.getfield 13, 3) := by decide +kernel
theorem dX6_holdsFewCells_4 : decode cX6_holdsFewCells 4 = .ok (.iconst 1, 1) := by decide +kernel
theorem dX6_holdsFewCells_5 : decode cX6_holdsFewCells 5 = .ok (.if_icmp .lt 12, 3) := by decide +kernel
theorem dX6_holdsFewCells_8 : decode cX6_holdsFewCells 8 = .ok (.aload_n 0, 1) := by decide +kernel
theorem dX6_holdsFewCells_9 : decode cX6_holdsFewCells 9 = .ok (.getfield 13, 3) := by decide +kernel
theorem dX6_holdsFewCells_12 : decode cX6_holdsFewCells 12 = .ok (.bipush 8, 2) := by decide +kernel
theorem dX6_holdsFewCells_14 : decode cX6_holdsFewCells 14 = .ok (.if_icmp .le 5, 3) := by decide +kernel
theorem dX6_holdsFewCells_17 : decode cX6_holdsFewCells 17 = .ok (.iconst 0, 1) := by decide +kernel
theorem dX6_holdsFewCells_18 : decode cX6_holdsFewCells 18 = .ok (.ireturn, 1) := by decide +kernel
theorem dX6_holdsFewCells_19 : decode cX6_holdsFewCells 19 = .ok (.iconst 0, 1) := by decide +kernel
theorem dX6_holdsFewCells_20 : decode cX6_holdsFewCells 20 = .ok (.istore_n 1, 1) := by decide +kernel
theorem dX6_holdsFewCells_21 : decode cX6_holdsFewCells 21 = .ok (.iload_n 1, 1) := by decide +kernel
theorem dX6_holdsFewCells_22 : decode cX6_holdsFewCells 22 = .ok (.aload_n 0, 1) := by decide +kernel
theorem dX6_holdsFewCells_23 : decode cX6_holdsFewCells 23 = .ok (.getfield 13, 3) := by decide +kernel
theorem dX6_holdsFewCells_26 : decode cX6_holdsFewCells 26 = .ok (.if_icmp .ge 22, 3) := by decide +kernel
theorem dX6_holdsFewCells_29 : decode cX6_holdsFewCells 29 = .ok (.aload_n 0, 1) := by decide +kernel
theorem dX6_holdsFewCells_30 : decode cX6_holdsFewCells 30 = .ok (.iload_n 1, 1) := by decide +kernel
theorem dX6_holdsFewCells_31 : decode cX6_holdsFewCells 31 = .ok (.invokevirtual 33, 3) := by decide +kernel
theorem dX6_holdsFewCells_34 : decode cX6_holdsFewCells 34 = .ok (.invokestatic 37, 3) := by decide +kernel
theorem dX6_holdsFewCells_37 : decode cX6_holdsFewCells 37 = .ok (.ifCond .ne 5, 3) := by decide +kernel
theorem dX6_holdsFewCells_40 : decode cX6_holdsFewCells 40 = .ok (.iconst 0, 1) := by decide +kernel
theorem dX6_holdsFewCells_41 : decode cX6_holdsFewCells 41 = .ok (.ireturn, 1) := by decide +kernel
theorem dX6_holdsFewCells_42 : decode cX6_holdsFewCells 42 = .ok (.iinc 1 1, 3) := by decide +kernel
theorem dX6_holdsFewCells_45 : decode cX6_holdsFewCells 45 = .ok (.goto (-24), 3) := by decide +kernel
theorem dX6_holdsFewCells_48 : decode cX6_holdsFewCells 48 = .ok (.iconst 1, 1) := by decide +kernel
theorem dX6_holdsFewCells_49 : decode cX6_holdsFewCells 49 = .ok (.ireturn, 1) := by decide +kernel
theorem dX6_numberAt_0 : decode cX6_numberAt 0 = .ok (.aload_n 0, 1) := by decide +kernel
theorem dX6_numberAt_1 : decode cX6_numberAt 1 = .ok (.iload_n 1, 1) := by decide +kernel
theorem dX6_numberAt_2 : decode cX6_numberAt 2 = .ok (.invokevirtual 29, 3) := by decide +kernel
theorem dX6_numberAt_5 : decode cX6_numberAt 5 = .ok (.ifCond .eq 12, 3) := by decide +kernel
theorem dX6_numberAt_8 : decode cX6_numberAt 8 = .ok (.aload_n 0, 1) := by decide +kernel
theorem dX6_numberAt_9 : decode cX6_numberAt 9 = .ok (.getfield 16, 3) := by decide +kernel
theorem dX6_numberAt_12 : decode cX6_numberAt 12 = .ok (.iload_n 1, 1) := by decide +kernel
theorem dX6_numberAt_13 : decode cX6_numberAt 13 = .ok (.iaload, 1) := by decide +kernel
theorem dX6_numberAt_14 : decode cX6_numberAt 14 = .ok (.goto 4, 3) := by decide +kernel
theorem dX6_numberAt_17 : decode cX6_numberAt 17 = .ok (.iconst 0, 1) := by decide +kernel
theorem dX6_numberAt_18 : decode cX6_numberAt 18 = .ok (.ireturn, 1) := by decide +kernel
theorem dX6_store_0 : decode cX6_store 0 = .ok (.aload_n 0, 1) := by decide +kernel
theorem dX6_store_1 : decode cX6_store 1 = .ok (.iload_n 1, 1) := by decide +kernel
theorem dX6_store_2 : decode cX6_store 2 = .ok (.invokevirtual 29, 3) := by decide +kernel
theorem dX6_store_5 : decode cX6_store 5 = .ok (.ifCond .eq 38, 3) := by decide +kernel
theorem dX6_store_8 : decode cX6_store 8 = .ok (.aload_n 0, 1) := by decide +kernel
theorem dX6_store_9 : decode cX6_store 9 = .ok (.getfield 16, 3) := by decide +kernel
theorem dX6_store_12 : decode cX6_store 12 = .ok (.iload_n 1, 1) := by decide +kernel
theorem dX6_store_13 : decode cX6_store 13 = .ok (.aload_n 0, 1) := by decide +kernel
theorem dX6_store_14 : decode cX6_store 14 = .ok (.getfield 7, 3) := by decide +kernel
theorem dX6_store_17 : decode cX6_store 17 = .ok (.bipush 8, 2) := by decide +kernel
theorem dX6_store_19 : decode cX6_store 19 = .ok (.if_icmp .ne 8, 3) := by decide +kernel
theorem dX6_store_22 : decode cX6_store 22 = .ok (.iload_n 2, 1) := by decide +kernel
theorem dX6_store_23 : decode cX6_store 23 = .ok (.i2b, 1) := by decide +kernel
theorem dX6_store_24 : decode cX6_store 24 = .ok (.goto 18, 3) := by decide +kernel
theorem dX6_store_27 : decode cX6_store 27 = .ok (.aload_n 0, 1) := by decide +kernel
theorem dX6_store_28 : decode cX6_store 28 = .ok (.getfield 7, 3) := by decide +kernel
theorem dX6_store_31 : decode cX6_store 31 = .ok (.bipush 16, 2) := by decide +kernel
theorem dX6_store_33 : decode cX6_store 33 = .ok (.if_icmp .ne 8, 3) := by decide +kernel
theorem dX6_store_36 : decode cX6_store 36 = .ok (.iload_n 2, 1) := by decide +kernel
theorem dX6_store_37 : decode cX6_store 37 = .ok (.i2s, 1) := by decide +kernel
theorem dX6_store_38 : decode cX6_store 38 = .ok (.goto 4, 3) := by decide +kernel
theorem dX6_store_41 : decode cX6_store 41 = .ok (.iload_n 2, 1) := by decide +kernel
theorem dX6_store_42 : decode cX6_store 42 = .ok (.iastore, 1) := by decide +kernel
theorem dX6_store_43 : decode cX6_store 43 = .ok (.return_, 1) := by decide +kernel
theorem dX9_begin_0 : decode cX9_begin 0 = .ok (.aload_n 0, 1) := by decide +kernel
theorem dX9_begin_1 : decode cX9_begin 1 = .ok (.iload_n 1, 1) := by decide +kernel
theorem dX9_begin_2 : decode cX9_begin 2 = .ok (.putfield 7, 3) := by decide +kernel
theorem dX9_begin_5 : decode cX9_begin 5 = .ok (.aload_n 0, 1) := by decide +kernel
theorem dX9_begin_6 : decode cX9_begin 6 = .ok (.iload_n 2, 1) := by decide +kernel
theorem dX9_begin_7 : decode cX9_begin 7 = .ok (.putfield 13, 3) := by decide +kernel
theorem dX9_begin_10 : decode cX9_begin 10 = .ok (.aload_n 0, 1) := by decide +kernel
theorem dX9_begin_11 : decode cX9_begin 11 = .ok (.iload_n 3, 1) := by decide +kernel
theorem dX9_begin_12 : decode cX9_begin 12 = .ok (.putfield 16, 3) := by decide +kernel
theorem dX9_begin_15 : decode cX9_begin 15 = .ok (.aload_n 0, 1) := by decide +kernel
theorem dX9_begin_16 : decode cX9_begin 16 = .ok (.iconst 5, 1) := by decide +kernel
theorem dX9_begin_17 : decode cX9_begin 17 = .ok (.putfield 19, 3) := by decide +kernel
theorem dX9_begin_20 : decode cX9_begin 20 = .ok (.aload_n 0, 1) := by decide +kernel
theorem dX9_begin_21 : decode cX9_begin 21 = .ok (.bipush 60, 2) := by decide +kernel
theorem dX9_begin_23 : decode cX9_begin 23 = .ok (.putfield 22, 3) := by decide +kernel
theorem dX9_begin_26 : decode cX9_begin 26 = .ok (.aload_n 0, 1) := by decide +kernel
theorem dX9_begin_27 : decode cX9_begin 27 = .ok (.iconst 0, 1) := by decide +kernel
theorem dX9_begin_28 : decode cX9_begin 28 = .ok (.putfield 25, 3) := by decide +kernel
theorem dX9_begin_31 : decode cX9_begin 31 = .ok (.aload_n 0, 1) := by decide +kernel
theorem dX9_begin_32 : decode cX9_begin 32 = .ok (.iconst 0, 1) := by decide +kernel
theorem dX9_begin_33 : decode cX9_begin 33 = .ok (.putfield 28, 3) := by decide +kernel
theorem dX9_begin_36 : decode cX9_begin 36 = .ok (.aload_n 0, 1) := by decide +kernel
theorem dX9_begin_37 : decode cX9_begin 37 = .ok (.iconst 0, 1) := by decide +kernel
theorem dX9_begin_38 : decode cX9_begin 38 = .ok (.putfield 32, 3) := by decide +kernel
theorem dX9_begin_41 : decode cX9_begin 41 = .ok (.aload_n 0, 1) := by decide +kernel
theorem dX9_begin_42 : decode cX9_begin 42 = .ok (.iconst 0, 1) := by decide +kernel
theorem dX9_begin_43 : decode cX9_begin 43 = .ok (.putfield 35, 3) := by decide +kernel
theorem dX9_begin_46 : decode cX9_begin 46 = .ok (.iconst 0, 1) := by decide +kernel
theorem dX9_begin_47 : decode cX9_begin 47 = .ok (.istore 4, 2) := by decide +kernel
theorem dX9_begin_49 : decode cX9_begin 49 = .ok (.iload 4, 2) := by decide +kernel
theorem dX9_begin_51 : decode cX9_begin 51 = .ok (.sipush 192, 3) := by decide +kernel
theorem dX9_begin_54 : decode cX9_begin 54 = .ok (.if_icmp .ge 25, 3) := by decide +kernel
theorem dX9_begin_57 : decode cX9_begin 57 = .ok (.aload_n 0, 1) := by decide +kernel
theorem dX9_begin_58 : decode cX9_begin 58 = .ok (.getfield 40, 3) := by decide +kernel
theorem dX9_begin_61 : decode cX9_begin 61 = .ok (.iload 4, 2) := by decide +kernel
theorem dX9_begin_63 : decode cX9_begin 63 = .ok (.iconst 0, 1) := by decide +kernel
theorem dX9_begin_64 : decode cX9_begin 64 = .ok (.iastore, 1) := by decide +kernel
theorem dX9_begin_65 : decode cX9_begin 65 = .ok (.aload_n 0, 1) := by decide +kernel
theorem dX9_begin_66 : decode cX9_begin 66 = .ok (.getfield 44, 3) := by decide +kernel
theorem dX9_begin_69 : decode cX9_begin 69 = .ok (.iload 4, 2) := by decide +kernel
theorem dX9_begin_71 : decode cX9_begin 71 = .ok (.iconst 0, 1) := by decide +kernel
theorem dX9_begin_72 : decode cX9_begin 72 = .ok (.iastore, 1) := by decide +kernel
theorem dX9_begin_73 : decode cX9_begin 73 = .ok (.iinc 4 1, 3) := by decide +kernel
theorem dX9_begin_76 : decode cX9_begin 76 = .ok (.goto (-27), 3) := by decide +kernel
theorem dX9_begin_79 : decode cX9_begin 79 = .ok (.return_, 1) := by decide +kernel
theorem dX9_takeFrom_0 : decode cX9_takeFrom 0 = .ok (.aload_n 0, 1) := by decide +kernel
theorem dX9_takeFrom_1 : decode cX9_takeFrom 1 = .ok (.aload_n 1, 1) := by decide +kernel
theorem dX9_takeFrom_2 : decode cX9_takeFrom 2 = .ok (.getfield 7, 3) := by decide +kernel
theorem dX9_takeFrom_5 : decode cX9_takeFrom 5 = .ok (.putfield 7, 3) := by decide +kernel
theorem dX9_takeFrom_8 : decode cX9_takeFrom 8 = .ok (.aload_n 0, 1) := by decide +kernel
theorem dX9_takeFrom_9 : decode cX9_takeFrom 9 = .ok (.aload_n 1, 1) := by decide +kernel
theorem dX9_takeFrom_10 : decode cX9_takeFrom 10 = .ok (.getfield 13, 3) := by decide +kernel
theorem dX9_takeFrom_13 : decode cX9_takeFrom 13 = .ok (.putfield 13, 3) := by decide +kernel
theorem dX9_takeFrom_16 : decode cX9_takeFrom 16 = .ok (.aload_n 0, 1) := by decide +kernel
theorem dX9_takeFrom_17 : decode cX9_takeFrom 17 = .ok (.aload_n 1, 1) := by decide +kernel
theorem dX9_takeFrom_18 : decode cX9_takeFrom 18 = .ok (.getfield 16, 3) := by decide +kernel
theorem dX9_takeFrom_21 : decode cX9_takeFrom 21 = .ok (.putfield 16, 3) := by decide +kernel
theorem dX9_takeFrom_24 : decode cX9_takeFrom 24 = .ok (.aload_n 0, 1) := by decide +kernel
theorem dX9_takeFrom_25 : decode cX9_takeFrom 25 = .ok (.aload_n 1, 1) := by decide +kernel
theorem dX9_takeFrom_26 : decode cX9_takeFrom 26 = .ok (.getfield 19, 3) := by decide +kernel
theorem dX9_takeFrom_29 : decode cX9_takeFrom 29 = .ok (.putfield 19, 3) := by decide +kernel
theorem dX9_takeFrom_32 : decode cX9_takeFrom 32 = .ok (.aload_n 0, 1) := by decide +kernel
theorem dX9_takeFrom_33 : decode cX9_takeFrom 33 = .ok (.aload_n 1, 1) := by decide +kernel
theorem dX9_takeFrom_34 : decode cX9_takeFrom 34 = .ok (.getfield 22, 3) := by decide +kernel
theorem dX9_takeFrom_37 : decode cX9_takeFrom 37 = .ok (.putfield 22, 3) := by decide +kernel
theorem dX9_takeFrom_40 : decode cX9_takeFrom 40 = .ok (.aload_n 0, 1) := by decide +kernel
theorem dX9_takeFrom_41 : decode cX9_takeFrom 41 = .ok (.aload_n 1, 1) := by decide +kernel
theorem dX9_takeFrom_42 : decode cX9_takeFrom 42 = .ok (.getfield 25, 3) := by decide +kernel
theorem dX9_takeFrom_45 : decode cX9_takeFrom 45 = .ok (.putfield 25, 3) := by decide +kernel
theorem dX9_takeFrom_48 : decode cX9_takeFrom 48 = .ok (.aload_n 0, 1) := by decide +kernel
theorem dX9_takeFrom_49 : decode cX9_takeFrom 49 = .ok (.aload_n 1, 1) := by decide +kernel
theorem dX9_takeFrom_50 : decode cX9_takeFrom 50 = .ok (.getfield 28, 3) := by decide +kernel
theorem dX9_takeFrom_53 : decode cX9_takeFrom 53 = .ok (.putfield 28, 3) := by decide +kernel
theorem dX9_takeFrom_56 : decode cX9_takeFrom 56 = .ok (.aload_n 0, 1) := by decide +kernel
theorem dX9_takeFrom_57 : decode cX9_takeFrom 57 = .ok (.aload_n 1, 1) := by decide +kernel
theorem dX9_takeFrom_58 : decode cX9_takeFrom 58 = .ok (.getfield 32, 3) := by decide +kernel
theorem dX9_takeFrom_61 : decode cX9_takeFrom 61 = .ok (.putfield 32, 3) := by decide +kernel
theorem dX9_takeFrom_64 : decode cX9_takeFrom 64 = .ok (.aload_n 0, 1) := by decide +kernel
theorem dX9_takeFrom_65 : decode cX9_takeFrom 65 = .ok (.aload_n 1, 1) := by decide +kernel
theorem dX9_takeFrom_66 : decode cX9_takeFrom 66 = .ok (.getfield 35, 3) := by decide +kernel
theorem dX9_takeFrom_69 : decode cX9_takeFrom 69 = .ok (.putfield 35, 3) := by decide +kernel
theorem dX9_takeFrom_72 : decode cX9_takeFrom 72 = .ok (.aload_n 1, 1) := by decide +kernel
theorem dX9_takeFrom_73 : decode cX9_takeFrom 73 = .ok (.getfield 40, 3) := by decide +kernel
theorem dX9_takeFrom_76 : decode cX9_takeFrom 76 = .ok (.iconst 0, 1) := by decide +kernel
theorem dX9_takeFrom_77 : decode cX9_takeFrom 77 = .ok (.aload_n 0, 1) := by decide +kernel
theorem dX9_takeFrom_78 : decode cX9_takeFrom 78 = .ok (.getfield 40, 3) := by decide +kernel
theorem dX9_takeFrom_81 : decode cX9_takeFrom 81 = .ok (.iconst 0, 1) := by decide +kernel
theorem dX9_takeFrom_82 : decode cX9_takeFrom 82 = .ok (.sipush 192, 3) := by decide +kernel
theorem dX9_takeFrom_85 : decode cX9_takeFrom 85 = .ok (.invokestatic 90, 3) := by decide +kernel
theorem dX9_takeFrom_88 : decode cX9_takeFrom 88 = .ok (.aload_n 1, 1) := by decide +kernel
theorem dX9_takeFrom_89 : decode cX9_takeFrom 89 = .ok (.getfield 44, 3) := by decide +kernel
theorem dX9_takeFrom_92 : decode cX9_takeFrom 92 = .ok (.iconst 0, 1) := by decide +kernel
theorem dX9_takeFrom_93 : decode cX9_takeFrom 93 = .ok (.aload_n 0, 1) := by decide +kernel
theorem dX9_takeFrom_94 : decode cX9_takeFrom 94 = .ok (.getfield 44, 3) := by decide +kernel
theorem dX9_takeFrom_97 : decode cX9_takeFrom 97 = .ok (.iconst 0, 1) := by decide +kernel
theorem dX9_takeFrom_98 : decode cX9_takeFrom 98 = .ok (.sipush 192, 3) := by decide +kernel
theorem dX9_takeFrom_101 : decode cX9_takeFrom 101 = .ok (.invokestatic 90, 3) := by decide +kernel
theorem dX9_takeFrom_104 : decode cX9_takeFrom 104 = .ok (.return_, 1) := by decide +kernel
