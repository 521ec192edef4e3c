/-! words of the tables that are used, by their places; decode rows; classes -/
set_option maxRecDepth 20000 in
theorem m_114 : Cond.methodLink RX10 1 Lib.objectInit ∈ BASE := bmT1 36 rfl rfl
set_option maxRecDepth 20000 in
theorem m_115 : Cond.classLink RX10 7 RX7 ∈ BASE := bmT1 37 rfl rfl
set_option maxRecDepth 20000 in
theorem m_117 : Cond.methodLink RX10 9 yX7_init ∈ BASE := bmT1 39 rfl rfl
set_option maxRecDepth 20000 in
theorem m_118 : Cond.instanceMethod yX7_init ∈ BASE := bmT1 40 rfl rfl
set_option maxRecDepth 20000 in
theorem m_119 : Cond.code yX7_init cX7_init 2 none ∈ BASE := bmT1 41 rfl rfl
set_option maxRecDepth 20000 in
theorem m_147 : Cond.classLink RX10 16 RX2 ∈ BASE := bmT1 69 rfl rfl
set_option maxRecDepth 20000 in
theorem m_149 : Cond.methodLink RX10 18 yX2_init ∈ BASE := bmT1 71 rfl rfl
set_option maxRecDepth 20000 in
theorem m_150 : Cond.instanceMethod yX2_init ∈ BASE := bmT1 72 rfl rfl
set_option maxRecDepth 20000 in
theorem m_151 : Cond.code yX2_init cX2_init 2 none ∈ BASE := bmT1 73 rfl rfl
set_option maxRecDepth 20000 in
theorem m_193 : Cond.classLink RX10 23 RX3 ∈ BASE := bmT1 115 rfl rfl
set_option maxRecDepth 20000 in
theorem m_196 : Cond.instanceMethod yX3_init ∈ BASE := bmT1 118 rfl rfl
set_option maxRecDepth 20000 in
theorem m_197 : Cond.code yX3_init cX3_init 1 none ∈ BASE := bmT1 119 rfl rfl
set_option maxRecDepth 20000 in
theorem m_249 : Cond.classLink RX10 30 RX5 ∈ BASE := bmT1 171 rfl rfl
set_option maxRecDepth 20000 in
theorem m_250 : Cond.methodLink RX10 34 yX5_init ∈ BASE := bmT1 172 rfl rfl
set_option maxRecDepth 20000 in
theorem m_251 : Cond.classLink RX10 44 RX9 ∈ BASE := bmT1 173 rfl rfl
set_option maxRecDepth 20000 in
theorem m_255 : Cond.instanceMethod yX9_init ∈ BASE := bmT1 177 rfl rfl
set_option maxRecDepth 20000 in
theorem m_256 : Cond.code yX9_init cX9_init 1 none ∈ BASE := bmT1 178 rfl rfl
theorem kI_X2_init : KI yX2_init cX2_init 2 0 := ⟨m_150, rfl, m_82, m_151, nhM_5, nhV_5, pdn_30⟩
theorem kI_X3_init : KI yX3_init cX3_init 1 0 := ⟨m_196, rfl, m_84, m_197, nhM_8, nhV_8, pdn_30⟩
theorem kI_X7_init : KI yX7_init cX7_init 2 0 := ⟨m_118, rfl, m_81, m_119, nhM_1, nhV_1, pdn_30⟩
theorem kI_X9_init : KI yX9_init cX9_init 1 0 := ⟨m_255, rfl, m_87, m_256, nhM_3, nhV_3, pdn_30⟩
theorem df10 : ∀ j, j < 8 → defaultValue (tyX10 j) = vp_V [.null, .null, .null, .null, .null, .null, .int 0, .int 0] j := fun j hj => by rcases (show j = 0 ∨ j = 1 ∨ j = 2 ∨ j = 3 ∨ j = 4 ∨ j = 5 ∨ j = 6 ∨ j = 7 by omega) with rfl | rfl | rfl | rfl | rfl | rfl | rfl | rfl <;> rfl
/-! decode rows -/
theorem dX10_init_0 : decode cX10_init 0 = .ok (.aload_n 0, 1) := by decide +kernel
theorem dX10_init_1 : decode cX10_init 1 = .ok (.invokespecial 1, 3) := by decide +kernel
theorem dX10_init_4 : decode cX10_init 4 = .ok (.aload_n 0, 1) := by decide +kernel
theorem dX10_init_5 : decode cX10_init 5 = .ok (.new 7, 3) := by decide +kernel
theorem dX10_init_8 : decode cX10_init 8 = .ok (.dup, 1) := by decide +kernel
theorem dX10_init_9 : decode cX10_init 9 = .ok (.invokespecial 9, 3) := by decide +kernel
theorem dX10_init_12 : decode cX10_init 12 = .ok (.putfield 10, 3) := by decide +kernel
theorem dX10_init_15 : decode cX10_init 15 = .ok (.aload_n 0, 1) := by decide +kernel
theorem dX10_init_16 : decode cX10_init 16 = .ok (.new 16, 3) := by decide +kernel
theorem dX10_init_19 : decode cX10_init 19 = .ok (.dup, 1) := by decide +kernel
theorem dX10_init_20 : decode cX10_init 20 = .ok (.invokespecial 18, 3) := by decide +kernel
theorem dX10_init_23 : decode cX10_init 23 = .ok (.putfield 19, 3) := by decide +kernel
theorem dX10_init_26 : decode cX10_init 26 = .ok (.aload_n 0, 1) := by decide +kernel
theorem dX10_init_27 : decode cX10_init 27 = .ok (.new 23, 3) := by decide +kernel
theorem dX10_init_30 : decode cX10_init 30 = .ok (.dup, 1) := by decide +kernel
theorem dX10_init_31 : decode cX10_init 31 = .ok (.invokespecial 25, 3) := by decide +kernel
theorem dX10_init_34 : decode cX10_init 34 = .ok (.putfield 26, 3) := by decide +kernel
theorem dX10_init_37 : decode cX10_init 37 = .ok (.aload_n 0, 1) := by decide +kernel
theorem dX10_init_38 : decode cX10_init 38 = .ok (.new 30, 3) := by decide +kernel
theorem dX10_init_41 : decode cX10_init 41 = .ok (.dup, 1) := by decide +kernel
theorem dX10_init_42 : decode cX10_init 42 = .ok (.bipush 48, 2) := by decide +kernel
theorem dX10_init_44 : decode cX10_init 44 = .ok (.invokespecial 34, 3) := by decide +kernel
theorem dX10_init_47 : decode cX10_init 47 = .ok (.putfield 37, 3) := by decide +kernel
theorem dX10_init_50 : decode cX10_init 50 = .ok (.aload_n 0, 1) := by decide +kernel
theorem dX10_init_51 : decode cX10_init 51 = .ok (.new 30, 3) := by decide +kernel
theorem dX10_init_54 : decode cX10_init 54 = .ok (.dup, 1) := by decide +kernel
theorem dX10_init_55 : decode cX10_init 55 = .ok (.bipush 24, 2) := by decide +kernel
theorem dX10_init_57 : decode cX10_init 57 = .ok (.invokespecial 34, 3) := by decide +kernel
theorem dX10_init_60 : decode cX10_init 60 = .ok (.putfield 41, 3) := by decide +kernel
theorem dX10_init_63 : decode cX10_init 63 = .ok (.aload_n 0, 1) := by decide +kernel
theorem dX10_init_64 : decode cX10_init 64 = .ok (.bipush 8, 2) := by decide +kernel
theorem dX10_init_66 : decode cX10_init 66 = .ok (.anewarray 44, 3) := by decide +kernel
theorem dX10_init_69 : decode cX10_init 69 = .ok (.putfield 46, 3) := by decide +kernel
theorem dX10_init_72 : decode cX10_init 72 = .ok (.aload_n 0, 1) := by decide +kernel
theorem dX10_init_73 : decode cX10_init 73 = .ok (.iconst 0, 1) := by decide +kernel
theorem dX10_init_74 : decode cX10_init 74 = .ok (.putfield 50, 3) := by decide +kernel
theorem dX10_init_77 : decode cX10_init 77 = .ok (.aload_n 0, 1) := by decide +kernel
theorem dX10_init_78 : decode cX10_init 78 = .ok (.iconst 0, 1) := by decide +kernel
theorem dX10_init_79 : decode cX10_init 79 = .ok (.putfield 54, 3) := by decide +kernel
theorem dX10_init_82 : decode cX10_init 82 = .ok (.iconst 0, 1) := by decide +kernel
theorem dX10_init_83 : decode cX10_init 83 = .ok (.istore_n 1, 1) := by decide +kernel
theorem dX10_init_84 : decode cX10_init 84 = .ok (.iload_n 1, 1) := by decide +kernel
theorem dX10_init_85 : decode cX10_init 85 = .ok (.bipush 8, 2) := by decide +kernel
theorem dX10_init_87 : decode cX10_init 87 = .ok (.if_icmp .ge 22, 3) := by decide +kernel
theorem dX10_init_90 : decode cX10_init 90 = .ok (.aload_n 0, 1) := by decide +kernel
theorem dX10_init_91 : decode cX10_init 91 = .ok (.getfield 46, 3) := by decide +kernel
theorem dX10_init_94 : decode cX10_init 94 = .ok (.iload_n 1, 1) := by decide +kernel
theorem dX10_init_95 : decode cX10_init 95 = .ok (.new 44, 3) := by decide +kernel
theorem dX10_init_98 : decode cX10_init 98 = .ok (.dup, 1) := by decide +kernel
theorem dX10_init_99 : decode cX10_init 99 = .ok (.invokespecial 57, 3) := by decide +kernel
theorem dX10_init_102 : decode cX10_init 102 = .ok (.aastore, 1) := by decide +kernel
theorem dX10_init_103 : decode cX10_init 103 = .ok (.iinc 1 1, 3) := by decide +kernel
theorem dX10_init_106 : decode cX10_init 106 = .ok (.goto (-22), 3) := by decide +kernel
theorem dX10_init_109 : decode cX10_init 109 = .ok (.return_, 1) := by decide +kernel
