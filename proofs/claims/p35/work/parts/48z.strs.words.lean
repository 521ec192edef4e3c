/-! words of the tables that are used, by their places; decode rows; fields -/
theorem m_1601 : Cond.instanceMethod yS_charAt ∈ BASE := bmem 1601 (by decide +kernel) rfl
theorem m_1602 : Cond.selects yS_charAt.cls yS_charAt yS_charAt ∈ BASE := bmem 1602 (by decide +kernel) rfl
theorem m_1603 : Cond.code yS_charAt cS_charAt 2 (some .char) ∈ BASE := bmem 1603 (by decide +kernel) rfl
theorem kV_S_charAt : KV yS_charAt cS_charAt 2 (some .char) 1 := ⟨m_1601, m_1602, m_93, m_1603, by decide +kernel, by decide +kernel, by decide +kernel⟩
