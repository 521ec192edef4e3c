/-! words of the tables that are used, by their places; decode rows; classes -/
theorem m_101 : Cond.classLink RL 7 RX11 ∈ BASE := bmem 101 (by decide +kernel) rfl
theorem m_103 : Cond.methodLink RL 9 yX11_init ∈ BASE := bmem 103 (by decide +kernel) rfl
theorem m_104 : Cond.instanceMethod yX11_init ∈ BASE := bmem 104 (by decide +kernel) rfl
theorem m_105 : Cond.code yX11_init cX11_init 2 none ∈ BASE := bmem 105 (by decide +kernel) rfl
theorem m_1312 : Cond.classLink RL 10 RX12 ∈ BASE := bmem 1312 (by decide +kernel) rfl
theorem m_1314 : Cond.methodLink RL 12 yX12_init ∈ BASE := bmem 1314 (by decide +kernel) rfl
theorem m_1315 : Cond.instanceMethod yX12_init ∈ BASE := bmem 1315 (by decide +kernel) rfl
theorem m_1316 : Cond.code yX12_init cX12_init 2 none ∈ BASE := bmem 1316 (by decide +kernel) rfl
theorem kI_X11_init : KI yX11_init cX11_init 2 0 := ⟨m_104, rfl, m_79, m_105, by decide +kernel, by decide +kernel, by decide +kernel⟩
theorem kI_X12_init : KI yX12_init cX12_init 2 0 := ⟨m_1315, rfl, m_92, m_1316, by decide +kernel, by decide +kernel, by decide +kernel⟩
/-! decode rows -/
theorem dL_law_0 : decode code 0 = .ok (.new 7, 3) := by decide +kernel
theorem dL_law_3 : decode code 3 = .ok (.dup, 1) := by decide +kernel
theorem dL_law_4 : decode code 4 = .ok (.invokespecial 9, 3) := by decide +kernel
theorem dL_law_7 : decode code 7 = .ok (.astore_n 1, 1) := by decide +kernel
theorem dL_law_8 : decode code 8 = .ok (.new 10, 3) := by decide +kernel
theorem dL_law_11 : decode code 11 = .ok (.dup, 1) := by decide +kernel
theorem dL_law_12 : decode code 12 = .ok (.invokespecial 12, 3) := by decide +kernel
theorem dL_law_15 : decode code 15 = .ok (.astore_n 2, 1) := by decide +kernel
theorem dL_law_16 : decode code 16 = .ok (.iconst 0, 1) := by decide +kernel
theorem dL_law_17 : decode code 17 = .ok (.istore_n 3, 1) := by decide +kernel
theorem dL_law_1737 : decode code 1737 = .ok (.iconst 1, 1) := by decide +kernel
theorem dL_law_1738 : decode code 1738 = .ok (.ireturn, 1) := by decide +kernel
