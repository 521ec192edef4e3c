/-! words of the tables that are used, by their places; decode rows; classes -/
theorem m_13 : Cond.selects yX7_letThingGo.cls yX7_letThingGo yX7_letThingGo ∈ BASE := bmem 13 (by decide +kernel) rfl
theorem m_87 : Cond.initialized RX9 ∈ BASE := bmem 87 (by decide +kernel) rfl
theorem m_930 : Cond.instanceMethod yX9_held ∈ BASE := bmem 930 (by decide +kernel) rfl
theorem m_931 : Cond.selects yX9_held.cls yX9_held yX9_held ∈ BASE := bmem 931 (by decide +kernel) rfl
theorem m_932 : Cond.code yX9_held cX9_held 2 (some .int) ∈ BASE := bmem 932 (by decide +kernel) rfl
theorem m_946 : Cond.methodLink RX9 83 yX9_held ∈ BASE := bmem 946 (by decide +kernel) rfl
theorem m_1033 : Cond.methodLink RX7 49 yX7_letThingGo ∈ BASE := bmem 1033 (by decide +kernel) rfl
theorem m_1035 : Cond.instanceMethod yX7_letThingGo ∈ BASE := bmem 1035 (by decide +kernel) rfl
theorem m_1036 : Cond.code yX7_letThingGo cX7_letThingGo 3 none ∈ BASE := bmem 1036 (by decide +kernel) rfl
theorem kV_X7_letThingGo : KV yX7_letThingGo cX7_letThingGo 3 none 1 := ⟨m_1035, m_13, m_81, m_1036, by decide +kernel, by decide +kernel, by decide +kernel⟩
theorem kV_X9_held : KV yX9_held cX9_held 2 (some .int) 1 := ⟨m_930, m_931, m_87, m_932, by decide +kernel, by decide +kernel, by decide +kernel⟩
/-! decode rows -/
theorem dX7_countThings_0 : decode cX7_countThings 0 = .ok (.iconst 0, 1) := by decide +kernel
theorem dX7_countThings_1 : decode cX7_countThings 1 = .ok (.istore_n 1, 1) := by decide +kernel
theorem dX7_countThings_2 : decode cX7_countThings 2 = .ok (.iconst 0, 1) := by decide +kernel
theorem dX7_countThings_3 : decode cX7_countThings 3 = .ok (.istore_n 2, 1) := by decide +kernel
theorem dX7_countThings_4 : decode cX7_countThings 4 = .ok (.iload_n 2, 1) := by decide +kernel
theorem dX7_countThings_5 : decode cX7_countThings 5 = .ok (.aload_n 0, 1) := by decide +kernel
theorem dX7_countThings_6 : decode cX7_countThings 6 = .ok (.getfield 25, 3) := by decide +kernel
theorem dX7_countThings_9 : decode cX7_countThings 9 = .ok (.if_icmp .ge 27, 3) := by decide +kernel
theorem dX7_countThings_12 : decode cX7_countThings 12 = .ok (.iload_n 2, 1) := by decide +kernel
theorem dX7_countThings_13 : decode cX7_countThings 13 = .ok (.bipush 40, 2) := by decide +kernel
theorem dX7_countThings_15 : decode cX7_countThings 15 = .ok (.if_icmp .ge 21, 3) := by decide +kernel
theorem dX7_countThings_18 : decode cX7_countThings 18 = .ok (.aload_n 0, 1) := by decide +kernel
theorem dX7_countThings_19 : decode cX7_countThings 19 = .ok (.getfield 16, 3) := by decide +kernel
theorem dX7_countThings_22 : decode cX7_countThings 22 = .ok (.iload_n 2, 1) := by decide +kernel
theorem dX7_countThings_23 : decode cX7_countThings 23 = .ok (.iaload, 1) := by decide +kernel
theorem dX7_countThings_24 : decode cX7_countThings 24 = .ok (.ifCond .lt 6, 3) := by decide +kernel
theorem dX7_countThings_27 : decode cX7_countThings 27 = .ok (.iinc 1 1, 3) := by decide +kernel
theorem dX7_countThings_30 : decode cX7_countThings 30 = .ok (.iinc 2 1, 3) := by decide +kernel
theorem dX7_countThings_33 : decode cX7_countThings 33 = .ok (.goto (-29), 3) := by decide +kernel
theorem dX7_countThings_36 : decode cX7_countThings 36 = .ok (.iload_n 1, 1) := by decide +kernel
theorem dX7_countThings_37 : decode cX7_countThings 37 = .ok (.ireturn, 1) := by decide +kernel
theorem dX7_letThingsGo_0 : decode cX7_letThingsGo 0 = .ok (.iconst 0, 1) := by decide +kernel
theorem dX7_letThingsGo_1 : decode cX7_letThingsGo 1 = .ok (.istore_n 2, 1) := by decide +kernel
theorem dX7_letThingsGo_2 : decode cX7_letThingsGo 2 = .ok (.iload_n 2, 1) := by decide +kernel
theorem dX7_letThingsGo_3 : decode cX7_letThingsGo 3 = .ok (.aload_n 0, 1) := by decide +kernel
theorem dX7_letThingsGo_4 : decode cX7_letThingsGo 4 = .ok (.getfield 25, 3) := by decide +kernel
theorem dX7_letThingsGo_7 : decode cX7_letThingsGo 7 = .ok (.if_icmp .ge 46, 3) := by decide +kernel
theorem dX7_letThingsGo_10 : decode cX7_letThingsGo 10 = .ok (.iload_n 2, 1) := by decide +kernel
theorem dX7_letThingsGo_11 : decode cX7_letThingsGo 11 = .ok (.bipush 40, 2) := by decide +kernel
theorem dX7_letThingsGo_13 : decode cX7_letThingsGo 13 = .ok (.if_icmp .ge 40, 3) := by decide +kernel
theorem dX7_letThingsGo_16 : decode cX7_letThingsGo 16 = .ok (.aload_n 0, 1) := by decide +kernel
theorem dX7_letThingsGo_17 : decode cX7_letThingsGo 17 = .ok (.getfield 22, 3) := by decide +kernel
theorem dX7_letThingsGo_20 : decode cX7_letThingsGo 20 = .ok (.iload_n 2, 1) := by decide +kernel
theorem dX7_letThingsGo_21 : decode cX7_letThingsGo 21 = .ok (.iaload, 1) := by decide +kernel
theorem dX7_letThingsGo_22 : decode cX7_letThingsGo 22 = .ok (.istore_n 3, 1) := by decide +kernel
theorem dX7_letThingsGo_23 : decode cX7_letThingsGo 23 = .ok (.aload_n 0, 1) := by decide +kernel
theorem dX7_letThingsGo_24 : decode cX7_letThingsGo 24 = .ok (.getfield 16, 3) := by decide +kernel
theorem dX7_letThingsGo_27 : decode cX7_letThingsGo 27 = .ok (.iload_n 2, 1) := by decide +kernel
theorem dX7_letThingsGo_28 : decode cX7_letThingsGo 28 = .ok (.iaload, 1) := by decide +kernel
theorem dX7_letThingsGo_29 : decode cX7_letThingsGo 29 = .ok (.ifCond .lt 18, 3) := by decide +kernel
theorem dX7_letThingsGo_32 : decode cX7_letThingsGo 32 = .ok (.iload_n 3, 1) := by decide +kernel
theorem dX7_letThingsGo_33 : decode cX7_letThingsGo 33 = .ok (.ifCond .le 14, 3) := by decide +kernel
theorem dX7_letThingsGo_36 : decode cX7_letThingsGo 36 = .ok (.iload_n 1, 1) := by decide +kernel
theorem dX7_letThingsGo_37 : decode cX7_letThingsGo 37 = .ok (.iload_n 3, 1) := by decide +kernel
theorem dX7_letThingsGo_38 : decode cX7_letThingsGo 38 = .ok (.irem, 1) := by decide +kernel
theorem dX7_letThingsGo_39 : decode cX7_letThingsGo 39 = .ok (.ifCond .ne 8, 3) := by decide +kernel
theorem dX7_letThingsGo_42 : decode cX7_letThingsGo 42 = .ok (.aload_n 0, 1) := by decide +kernel
theorem dX7_letThingsGo_43 : decode cX7_letThingsGo 43 = .ok (.iload_n 2, 1) := by decide +kernel
theorem dX7_letThingsGo_44 : decode cX7_letThingsGo 44 = .ok (.invokevirtual 49, 3) := by decide +kernel
theorem dX7_letThingsGo_47 : decode cX7_letThingsGo 47 = .ok (.iinc 2 1, 3) := by decide +kernel
theorem dX7_letThingsGo_50 : decode cX7_letThingsGo 50 = .ok (.goto (-48), 3) := by decide +kernel
theorem dX7_letThingsGo_53 : decode cX7_letThingsGo 53 = .ok (.return_, 1) := by decide +kernel
theorem dX9_countHeld_0 : decode cX9_countHeld 0 = .ok (.iconst 0, 1) := by decide +kernel
theorem dX9_countHeld_1 : decode cX9_countHeld 1 = .ok (.istore_n 2, 1) := by decide +kernel
theorem dX9_countHeld_2 : decode cX9_countHeld 2 = .ok (.iconst 0, 1) := by decide +kernel
theorem dX9_countHeld_3 : decode cX9_countHeld 3 = .ok (.istore_n 3, 1) := by decide +kernel
theorem dX9_countHeld_4 : decode cX9_countHeld 4 = .ok (.iload_n 3, 1) := by decide +kernel
theorem dX9_countHeld_5 : decode cX9_countHeld 5 = .ok (.sipush 192, 3) := by decide +kernel
theorem dX9_countHeld_8 : decode cX9_countHeld 8 = .ok (.if_icmp .ge 21, 3) := by decide +kernel
theorem dX9_countHeld_11 : decode cX9_countHeld 11 = .ok (.aload_n 0, 1) := by decide +kernel
theorem dX9_countHeld_12 : decode cX9_countHeld 12 = .ok (.iload_n 3, 1) := by decide +kernel
theorem dX9_countHeld_13 : decode cX9_countHeld 13 = .ok (.invokevirtual 83, 3) := by decide +kernel
theorem dX9_countHeld_16 : decode cX9_countHeld 16 = .ok (.iload_n 1, 1) := by decide +kernel
theorem dX9_countHeld_17 : decode cX9_countHeld 17 = .ok (.if_icmp .ne 6, 3) := by decide +kernel
theorem dX9_countHeld_20 : decode cX9_countHeld 20 = .ok (.iinc 2 1, 3) := by decide +kernel
theorem dX9_countHeld_23 : decode cX9_countHeld 23 = .ok (.iinc 3 1, 3) := by decide +kernel
theorem dX9_countHeld_26 : decode cX9_countHeld 26 = .ok (.goto (-22), 3) := by decide +kernel
theorem dX9_countHeld_29 : decode cX9_countHeld 29 = .ok (.iload_n 2, 1) := by decide +kernel
theorem dX9_countHeld_30 : decode cX9_countHeld 30 = .ok (.ireturn, 1) := by decide +kernel
