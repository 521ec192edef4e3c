/-! words of the tables that are used, by their places; decode rows; fields -/
theorem m_102 : Cond.instantiable RX11 9 ∈ BASE := bmem 102 (by decide +kernel) rfl
theorem m_110 : Cond.instantiable RX10 8 ∈ BASE := bmem 110 (by decide +kernel) rfl
theorem m_116 : Cond.instantiable RX7 6 ∈ BASE := bmem 116 (by decide +kernel) rfl
theorem m_146 : Cond.arrayClass .int ∈ BASE := bmem 146 (by decide +kernel) rfl
theorem m_148 : Cond.instantiable RX2 7 ∈ BASE := bmem 148 (by decide +kernel) rfl
theorem m_155 : Cond.instantiable RX1 3 ∈ BASE := bmem 155 (by decide +kernel) rfl
theorem m_194 : Cond.instantiable RX3 9 ∈ BASE := bmem 194 (by decide +kernel) rfl
theorem m_200 : Cond.instantiable RX5 2 ∈ BASE := bmem 200 (by decide +kernel) rfl
theorem m_253 : Cond.instantiable RX9 11 ∈ BASE := bmem 253 (by decide +kernel) rfl
theorem m_348 : Cond.instantiable RX4 7 ∈ BASE := bmem 348 (by decide +kernel) rfl
theorem m_383 : Cond.instantiable RX0 6 ∈ BASE := bmem 383 (by decide +kernel) rfl
theorem m_409 : Cond.arrayClass .boolean ∈ BASE := bmem 409 (by decide +kernel) rfl
theorem m_410 : Cond.arrayClass .long ∈ BASE := bmem 410 (by decide +kernel) rfl
theorem m_412 : Cond.instantiable RX8 6 ∈ BASE := bmem 412 (by decide +kernel) rfl
theorem m_440 : Cond.instantiable RX6 3 ∈ BASE := bmem 440 (by decide +kernel) rfl
theorem m_1313 : Cond.instantiable RX12 33 ∈ BASE := bmem 1313 (by decide +kernel) rfl
