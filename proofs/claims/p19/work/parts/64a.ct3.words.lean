/-! words of the tables that are used, by their places; decode rows; classes -/
set_option maxRecDepth 20000 in
theorem m_106 : Cond.methodLink RX11 1 Lib.objectInit ∈ BASE := bmT1 28 rfl rfl
set_option maxRecDepth 20000 in
theorem m_109 : Cond.classLink RX11 7 RX10 ∈ BASE := bmT1 31 rfl rfl
set_option maxRecDepth 20000 in
theorem m_111 : Cond.methodLink RX11 9 yX10_init ∈ BASE := bmT1 33 rfl rfl
set_option maxRecDepth 20000 in
theorem m_112 : Cond.instanceMethod yX10_init ∈ BASE := bmT1 34 rfl rfl
set_option maxRecDepth 20000 in
theorem m_113 : Cond.code yX10_init cX10_init 2 none ∈ BASE := bmT1 35 rfl rfl
set_option maxRecDepth 20000 in
theorem m_345 : Cond.classLink RX11 22 RX6 ∈ BASE := bmT2 27 rfl rfl
set_option maxRecDepth 20000 in
theorem m_347 : Cond.classLink RX11 32 RX4 ∈ BASE := bmT2 29 rfl rfl
set_option maxRecDepth 20000 in
theorem m_350 : Cond.instanceMethod yX4_init ∈ BASE := bmT2 32 rfl rfl
set_option maxRecDepth 20000 in
theorem m_351 : Cond.code yX4_init cX4_init 1 none ∈ BASE := bmT2 33 rfl rfl
set_option maxRecDepth 20000 in
theorem m_382 : Cond.classLink RX11 39 RX0 ∈ BASE := bmT2 64 rfl rfl
set_option maxRecDepth 20000 in
theorem m_385 : Cond.instanceMethod yX0_init ∈ BASE := bmT2 67 rfl rfl
set_option maxRecDepth 20000 in
theorem m_386 : Cond.code yX0_init cX0_init 1 none ∈ BASE := bmT2 68 rfl rfl
set_option maxRecDepth 20000 in
theorem m_411 : Cond.classLink RX11 46 RX8 ∈ BASE := bmT2 93 rfl rfl
set_option maxRecDepth 20000 in
theorem m_414 : Cond.instanceMethod yX8_init ∈ BASE := bmT2 96 rfl rfl
set_option maxRecDepth 20000 in
theorem m_415 : Cond.code yX8_init cX8_init 1 none ∈ BASE := bmT2 97 rfl rfl
set_option maxRecDepth 20000 in
theorem m_442 : Cond.instanceMethod yX6_init ∈ BASE := bmT2 124 rfl rfl
set_option maxRecDepth 20000 in
theorem m_443 : Cond.code yX6_init cX6_init 1 none ∈ BASE := bmT2 125 rfl rfl
theorem kI_X0_init : KI yX0_init cX0_init 1 0 := ⟨m_385, rfl, m_89, m_386, nhM_11, nhV_11, pdn_30⟩
theorem kI_X10_init : KI yX10_init cX10_init 2 0 := ⟨m_112, rfl, m_80, m_113, nhM_7, nhV_7, pdn_30⟩
theorem kI_X4_init : KI yX4_init cX4_init 1 0 := ⟨m_350, rfl, m_88, m_351, nhM_16, nhV_16, pdn_30⟩
theorem kI_X6_init : KI yX6_init cX6_init 1 0 := ⟨m_442, rfl, m_91, m_443, nhM_4, nhV_4, pdn_30⟩
theorem kI_X8_init : KI yX8_init cX8_init 1 0 := ⟨m_414, rfl, m_90, m_415, nhM_12, nhV_12, pdn_30⟩
theorem df11 : ∀ j, j < 9 → defaultValue (tyX11 j) = vp_V [.null, .null, .null, .null, .null, .null, .null, .null, .int 0] j := fun j hj => by rcases (show j = 0 ∨ j = 1 ∨ j = 2 ∨ j = 3 ∨ j = 4 ∨ j = 5 ∨ j = 6 ∨ j = 7 ∨ j = 8 by omega) with rfl | rfl | rfl | rfl | rfl | rfl | rfl | rfl | rfl <;> rfl
/-! decode rows -/
theorem dX11_init_0 : decode cX11_init 0 = .ok (.aload_n 0, 1) := by decide +kernel
theorem dX11_init_1 : decode cX11_init 1 = .ok (.invokespecial 1, 3) := by decide +kernel
theorem dX11_init_4 : decode cX11_init 4 = .ok (.aload_n 0, 1) := by decide +kernel
theorem dX11_init_5 : decode cX11_init 5 = .ok (.new 7, 3) := by decide +kernel
theorem dX11_init_8 : decode cX11_init 8 = .ok (.dup, 1) := by decide +kernel
theorem dX11_init_9 : decode cX11_init 9 = .ok (.invokespecial 9, 3) := by decide +kernel
theorem dX11_init_12 : decode cX11_init 12 = .ok (.putfield 10, 3) := by decide +kernel
theorem dX11_init_15 : decode cX11_init 15 = .ok (.aload_n 0, 1) := by decide +kernel
theorem dX11_init_16 : decode cX11_init 16 = .ok (.new 7, 3) := by decide +kernel
theorem dX11_init_19 : decode cX11_init 19 = .ok (.dup, 1) := by decide +kernel
theorem dX11_init_20 : decode cX11_init 20 = .ok (.invokespecial 9, 3) := by decide +kernel
theorem dX11_init_23 : decode cX11_init 23 = .ok (.putfield 16, 3) := by decide +kernel
theorem dX11_init_26 : decode cX11_init 26 = .ok (.aload_n 0, 1) := by decide +kernel
theorem dX11_init_27 : decode cX11_init 27 = .ok (.new 7, 3) := by decide +kernel
theorem dX11_init_30 : decode cX11_init 30 = .ok (.dup, 1) := by decide +kernel
theorem dX11_init_31 : decode cX11_init 31 = .ok (.invokespecial 9, 3) := by decide +kernel
theorem dX11_init_34 : decode cX11_init 34 = .ok (.putfield 19, 3) := by decide +kernel
theorem dX11_init_37 : decode cX11_init 37 = .ok (.aload_n 0, 1) := by decide +kernel
theorem dX11_init_38 : decode cX11_init 38 = .ok (.iconst 4, 1) := by decide +kernel
theorem dX11_init_39 : decode cX11_init 39 = .ok (.anewarray 22, 3) := by decide +kernel
theorem dX11_init_42 : decode cX11_init 42 = .ok (.putfield 24, 3) := by decide +kernel
theorem dX11_init_45 : decode cX11_init 45 = .ok (.aload_n 0, 1) := by decide +kernel
theorem dX11_init_46 : decode cX11_init 46 = .ok (.bipush 7, 2) := by decide +kernel
theorem dX11_init_48 : decode cX11_init 48 = .ok (.newarray .int, 2) := by decide +kernel
theorem dX11_init_50 : decode cX11_init 50 = .ok (.putfield 28, 3) := by decide +kernel
theorem dX11_init_53 : decode cX11_init 53 = .ok (.aload_n 0, 1) := by decide +kernel
theorem dX11_init_54 : decode cX11_init 54 = .ok (.new 32, 3) := by decide +kernel
theorem dX11_init_57 : decode cX11_init 57 = .ok (.dup, 1) := by decide +kernel
theorem dX11_init_58 : decode cX11_init 58 = .ok (.invokespecial 34, 3) := by decide +kernel
theorem dX11_init_61 : decode cX11_init 61 = .ok (.putfield 35, 3) := by decide +kernel
theorem dX11_init_64 : decode cX11_init 64 = .ok (.aload_n 0, 1) := by decide +kernel
theorem dX11_init_65 : decode cX11_init 65 = .ok (.new 39, 3) := by decide +kernel
theorem dX11_init_68 : decode cX11_init 68 = .ok (.dup, 1) := by decide +kernel
theorem dX11_init_69 : decode cX11_init 69 = .ok (.invokespecial 41, 3) := by decide +kernel
theorem dX11_init_72 : decode cX11_init 72 = .ok (.putfield 42, 3) := by decide +kernel
theorem dX11_init_75 : decode cX11_init 75 = .ok (.aload_n 0, 1) := by decide +kernel
theorem dX11_init_76 : decode cX11_init 76 = .ok (.new 46, 3) := by decide +kernel
theorem dX11_init_79 : decode cX11_init 79 = .ok (.dup, 1) := by decide +kernel
theorem dX11_init_80 : decode cX11_init 80 = .ok (.invokespecial 48, 3) := by decide +kernel
theorem dX11_init_83 : decode cX11_init 83 = .ok (.putfield 49, 3) := by decide +kernel
theorem dX11_init_86 : decode cX11_init 86 = .ok (.aload_n 0, 1) := by decide +kernel
theorem dX11_init_87 : decode cX11_init 87 = .ok (.iconst 0, 1) := by decide +kernel
theorem dX11_init_88 : decode cX11_init 88 = .ok (.putfield 53, 3) := by decide +kernel
theorem dX11_init_91 : decode cX11_init 91 = .ok (.iconst 0, 1) := by decide +kernel
theorem dX11_init_92 : decode cX11_init 92 = .ok (.istore_n 1, 1) := by decide +kernel
theorem dX11_init_93 : decode cX11_init 93 = .ok (.iload_n 1, 1) := by decide +kernel
theorem dX11_init_94 : decode cX11_init 94 = .ok (.iconst 4, 1) := by decide +kernel
theorem dX11_init_95 : decode cX11_init 95 = .ok (.if_icmp .ge 22, 3) := by decide +kernel
theorem dX11_init_98 : decode cX11_init 98 = .ok (.aload_n 0, 1) := by decide +kernel
theorem dX11_init_99 : decode cX11_init 99 = .ok (.getfield 24, 3) := by decide +kernel
theorem dX11_init_102 : decode cX11_init 102 = .ok (.iload_n 1, 1) := by decide +kernel
theorem dX11_init_103 : decode cX11_init 103 = .ok (.new 22, 3) := by decide +kernel
theorem dX11_init_106 : decode cX11_init 106 = .ok (.dup, 1) := by decide +kernel
theorem dX11_init_107 : decode cX11_init 107 = .ok (.invokespecial 57, 3) := by decide +kernel
theorem dX11_init_110 : decode cX11_init 110 = .ok (.aastore, 1) := by decide +kernel
theorem dX11_init_111 : decode cX11_init 111 = .ok (.iinc 1 1, 3) := by decide +kernel
theorem dX11_init_114 : decode cX11_init 114 = .ok (.goto (-21), 3) := by decide +kernel
theorem dX11_init_117 : decode cX11_init 117 = .ok (.return_, 1) := by decide +kernel
