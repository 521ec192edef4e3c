/-! words of the tables that are used, by their places; decode rows; fields -/
set_option maxRecDepth 20000 in
theorem m_102 : Cond.instantiable RX11 9 ∈ BASE := bmT1 24 rfl rfl
set_option maxRecDepth 20000 in
theorem m_110 : Cond.instantiable RX10 8 ∈ BASE := bmT1 32 rfl rfl
set_option maxRecDepth 20000 in
theorem m_116 : Cond.instantiable RX7 6 ∈ BASE := bmT1 38 rfl rfl
set_option maxRecDepth 20000 in
theorem m_146 : Cond.arrayClass .int ∈ BASE := bmT1 68 rfl rfl
set_option maxRecDepth 20000 in
theorem m_148 : Cond.instantiable RX2 7 ∈ BASE := bmT1 70 rfl rfl
set_option maxRecDepth 20000 in
theorem m_155 : Cond.instantiable RX1 3 ∈ BASE := bmT1 77 rfl rfl
set_option maxRecDepth 20000 in
theorem m_194 : Cond.instantiable RX3 9 ∈ BASE := bmT1 116 rfl rfl
set_option maxRecDepth 20000 in
theorem m_200 : Cond.instantiable RX5 2 ∈ BASE := bmT1 122 rfl rfl
set_option maxRecDepth 20000 in
theorem m_253 : Cond.instantiable RX9 11 ∈ BASE := bmT1 175 rfl rfl
set_option maxRecDepth 20000 in
theorem m_348 : Cond.instantiable RX4 7 ∈ BASE := bmT2 30 rfl rfl
set_option maxRecDepth 20000 in
theorem m_383 : Cond.instantiable RX0 6 ∈ BASE := bmT2 65 rfl rfl
set_option maxRecDepth 20000 in
theorem m_409 : Cond.arrayClass .boolean ∈ BASE := bmT2 91 rfl rfl
set_option maxRecDepth 20000 in
theorem m_410 : Cond.arrayClass .long ∈ BASE := bmT2 92 rfl rfl
set_option maxRecDepth 20000 in
theorem m_412 : Cond.instantiable RX8 6 ∈ BASE := bmT2 94 rfl rfl
set_option maxRecDepth 20000 in
theorem m_440 : Cond.instantiable RX6 3 ∈ BASE := bmT2 122 rfl rfl
set_option maxRecDepth 20000 in
theorem m_1313 : Cond.instantiable RX12 33 ∈ BASE := bmT6 35 rfl rfl
