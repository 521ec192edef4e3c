/-! words of the tables that are used, by their places; decode rows; fields -/
theorem m_1129 : Cond.methodLink RX11 322 yX3_findRow ∈ BASE := bmem 1129 (by decide +kernel) rfl
theorem m_1130 : Cond.instanceMethod yX3_findRow ∈ BASE := bmem 1130 (by decide +kernel) rfl
theorem m_1131 : Cond.selects yX3_findRow.cls yX3_findRow yX3_findRow ∈ BASE := bmem 1131 (by decide +kernel) rfl
theorem m_1132 : Cond.code yX3_findRow cX3_findRow 3 (some .boolean) ∈ BASE := bmem 1132 (by decide +kernel) rfl
theorem m_1133 : Cond.methodLink RX3 45 yX5_clear ∈ BASE := bmem 1133 (by decide +kernel) rfl
theorem kV_X3_findRow : KV yX3_findRow cX3_findRow 3 (some .boolean) 2 := ⟨m_1130, m_1131, m_84, m_1132, by decide +kernel, by decide +kernel, by decide +kernel⟩
theorem fl_RX11_325 : FLK RX11 325 3 7 .int false := ⟨RX3, TX3, 9, tyX3, rfl, inB3, tyX3_ok, nmX3, by decide, rfl, rfl, Or.inr ⟨"ClickStreet", List.mem_of_getElem? (l := NFs) (i := 12) rfl⟩⟩
theorem fl_RX11_328 : FLK RX11 328 3 5 (.object "ClickStreet$Row") true := ⟨RX3, TX3, 9, tyX3, rfl, inB3, tyX3_ok, nmX3, by decide, rfl, rfl, Or.inr ⟨"ClickStreet", List.mem_of_getElem? (l := NFs) (i := 11) rfl⟩⟩
theorem dX11_learn_0 : decode cX11_learn 0 = .ok (.iload_n 1, 1) := by decide +kernel
theorem dX11_learn_1 : decode cX11_learn 1 = .ok (.invokestatic 310, 3) := by decide +kernel
theorem dX11_learn_4 : decode cX11_learn 4 = .ok (.ifCond .eq 16, 3) := by decide +kernel
theorem dX11_learn_7 : decode cX11_learn 7 = .ok (.iload_n 2, 1) := by decide +kernel
theorem dX11_learn_8 : decode cX11_learn 8 = .ok (.invokestatic 310, 3) := by decide +kernel
theorem dX11_learn_11 : decode cX11_learn 11 = .ok (.ifCond .eq 9, 3) := by decide +kernel
theorem dX11_learn_14 : decode cX11_learn 14 = .ok (.iload_n 3, 1) := by decide +kernel
theorem dX11_learn_15 : decode cX11_learn 15 = .ok (.bipush (-2), 2) := by decide +kernel
theorem dX11_learn_17 : decode cX11_learn 17 = .ok (.if_icmp .ge 9, 3) := by decide +kernel
theorem dX11_learn_20 : decode cX11_learn 20 = .ok (.aload_n 0, 1) := by decide +kernel
theorem dX11_learn_21 : decode cX11_learn 21 = .ok (.iconst 1, 1) := by decide +kernel
theorem dX11_learn_22 : decode cX11_learn 22 = .ok (.invokevirtual 67, 3) := by decide +kernel
theorem dX11_learn_25 : decode cX11_learn 25 = .ok (.ireturn, 1) := by decide +kernel
theorem dX11_learn_26 : decode cX11_learn 26 = .ok (.aload_n 0, 1) := by decide +kernel
theorem dX11_learn_27 : decode cX11_learn 27 = .ok (.getfield 10, 3) := by decide +kernel
theorem dX11_learn_30 : decode cX11_learn 30 = .ok (.getfield 313, 3) := by decide +kernel
theorem dX11_learn_33 : decode cX11_learn 33 = .ok (.astore 4, 2) := by decide +kernel
theorem dX11_learn_35 : decode cX11_learn 35 = .ok (.aload 4, 2) := by decide +kernel
theorem dX11_learn_37 : decode cX11_learn 37 = .ok (.iload_n 1, 1) := by decide +kernel
theorem dX11_learn_38 : decode cX11_learn 38 = .ok (.iload_n 2, 1) := by decide +kernel
theorem dX11_learn_39 : decode cX11_learn 39 = .ok (.invokevirtual 322, 3) := by decide +kernel
theorem dX11_learn_42 : decode cX11_learn 42 = .ok (.ifCond .ne 9, 3) := by decide +kernel
theorem dX11_learn_45 : decode cX11_learn 45 = .ok (.aload_n 0, 1) := by decide +kernel
theorem dX11_learn_46 : decode cX11_learn 46 = .ok (.iconst 2, 1) := by decide +kernel
theorem dX11_learn_47 : decode cX11_learn 47 = .ok (.invokevirtual 67, 3) := by decide +kernel
theorem dX11_learn_50 : decode cX11_learn 50 = .ok (.ireturn, 1) := by decide +kernel
theorem dX11_learn_51 : decode cX11_learn 51 = .ok (.iload_n 3, 1) := by decide +kernel
theorem dX11_learn_52 : decode cX11_learn 52 = .ok (.iconst (-1), 1) := by decide +kernel
theorem dX11_learn_53 : decode cX11_learn 53 = .ok (.if_icmp .ne 9, 3) := by decide +kernel
theorem dX11_learn_56 : decode cX11_learn 56 = .ok (.aload 4, 2) := by decide +kernel
theorem dX11_learn_58 : decode cX11_learn 58 = .ok (.getfield 325, 3) := by decide +kernel
theorem dX11_learn_61 : decode cX11_learn 61 = .ok (.ireturn, 1) := by decide +kernel
theorem dX11_learn_62 : decode cX11_learn 62 = .ok (.iload_n 3, 1) := by decide +kernel
theorem dX11_learn_63 : decode cX11_learn 63 = .ok (.bipush (-2), 2) := by decide +kernel
theorem dX11_learn_65 : decode cX11_learn 65 = .ok (.if_icmp .ne 12, 3) := by decide +kernel
theorem dX11_learn_68 : decode cX11_learn 68 = .ok (.aload 4, 2) := by decide +kernel
theorem dX11_learn_70 : decode cX11_learn 70 = .ok (.getfield 328, 3) := by decide +kernel
theorem dX11_learn_73 : decode cX11_learn 73 = .ok (.getfield 205, 3) := by decide +kernel
theorem dX11_learn_76 : decode cX11_learn 76 = .ok (.ireturn, 1) := by decide +kernel
theorem dX11_learn_77 : decode cX11_learn 77 = .ok (.iload_n 3, 1) := by decide +kernel
theorem dX11_learn_78 : decode cX11_learn 78 = .ok (.aload 4, 2) := by decide +kernel
theorem dX11_learn_80 : decode cX11_learn 80 = .ok (.getfield 328, 3) := by decide +kernel
theorem dX11_learn_83 : decode cX11_learn 83 = .ok (.getfield 205, 3) := by decide +kernel
theorem dX11_learn_86 : decode cX11_learn 86 = .ok (.if_icmp .ge 15, 3) := by decide +kernel
theorem dX11_learn_89 : decode cX11_learn 89 = .ok (.aload 4, 2) := by decide +kernel
theorem dX11_learn_91 : decode cX11_learn 91 = .ok (.getfield 328, 3) := by decide +kernel
theorem dX11_learn_94 : decode cX11_learn 94 = .ok (.iload_n 3, 1) := by decide +kernel
theorem dX11_learn_95 : decode cX11_learn 95 = .ok (.invokevirtual 331, 3) := by decide +kernel
theorem dX11_learn_98 : decode cX11_learn 98 = .ok (.goto 8, 3) := by decide +kernel
theorem dX11_learn_101 : decode cX11_learn 101 = .ok (.aload_n 0, 1) := by decide +kernel
theorem dX11_learn_102 : decode cX11_learn 102 = .ok (.iconst 2, 1) := by decide +kernel
theorem dX11_learn_103 : decode cX11_learn 103 = .ok (.invokevirtual 67, 3) := by decide +kernel
theorem dX11_learn_106 : decode cX11_learn 106 = .ok (.ireturn, 1) := by decide +kernel
theorem dX3_findRow_0 : decode cX3_findRow 0 = .ok (.aload_n 0, 1) := by decide +kernel
theorem dX3_findRow_1 : decode cX3_findRow 1 = .ok (.iload_n 2, 1) := by decide +kernel
theorem dX3_findRow_2 : decode cX3_findRow 2 = .ok (.putfield 35, 3) := by decide +kernel
theorem dX3_findRow_5 : decode cX3_findRow 5 = .ok (.aload_n 0, 1) := by decide +kernel
theorem dX3_findRow_6 : decode cX3_findRow 6 = .ok (.iconst 0, 1) := by decide +kernel
theorem dX3_findRow_7 : decode cX3_findRow 7 = .ok (.putfield 41, 3) := by decide +kernel
theorem dX3_findRow_10 : decode cX3_findRow 10 = .ok (.aload_n 0, 1) := by decide +kernel
theorem dX3_findRow_11 : decode cX3_findRow 11 = .ok (.iconst 0, 1) := by decide +kernel
theorem dX3_findRow_12 : decode cX3_findRow 12 = .ok (.putfield 38, 3) := by decide +kernel
theorem dX3_findRow_15 : decode cX3_findRow 15 = .ok (.aload_n 0, 1) := by decide +kernel
theorem dX3_findRow_16 : decode cX3_findRow 16 = .ok (.getfield 28, 3) := by decide +kernel
theorem dX3_findRow_19 : decode cX3_findRow 19 = .ok (.invokevirtual 45, 3) := by decide +kernel
theorem dX3_findRow_22 : decode cX3_findRow 22 = .ok (.aload_n 0, 1) := by decide +kernel
theorem dX3_findRow_23 : decode cX3_findRow 23 = .ok (.getfield 32, 3) := by decide +kernel
theorem dX3_findRow_26 : decode cX3_findRow 26 = .ok (.invokevirtual 45, 3) := by decide +kernel
theorem dX3_findRow_29 : decode cX3_findRow 29 = .ok (.aload_n 0, 1) := by decide +kernel
theorem dX3_findRow_30 : decode cX3_findRow 30 = .ok (.iload_n 1, 1) := by decide +kernel
theorem dX3_findRow_31 : decode cX3_findRow 31 = .ok (.iconst 0, 1) := by decide +kernel
theorem dX3_findRow_32 : decode cX3_findRow 32 = .ok (.iconst 0, 1) := by decide +kernel
theorem dX3_findRow_33 : decode cX3_findRow 33 = .ok (.invokevirtual 48, 3) := by decide +kernel
theorem dX3_findRow_36 : decode cX3_findRow 36 = .ok (.aload_n 0, 1) := by decide +kernel
theorem dX3_findRow_37 : decode cX3_findRow 37 = .ok (.getfield 41, 3) := by decide +kernel
theorem dX3_findRow_40 : decode cX3_findRow 40 = .ok (.ireturn, 1) := by decide +kernel
