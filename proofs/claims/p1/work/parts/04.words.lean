/-! words of the tables that are used, by their places; decode rows; classes -/
theorem nn_goodF : True := trivial
theorem m_79 : Cond.initialized RX11 ∈ BASE := bmem 79 (by decide +kernel) rfl
theorem m_494 : Cond.methodLink RX11 89 yX11_within ∈ BASE := bmem 494 (by decide +kernel) rfl
theorem m_495 : Cond.static yX11_within ∈ BASE := bmem 495 (by decide +kernel) rfl
theorem m_496 : Cond.code yX11_within cX11_within 3 (some .boolean) ∈ BASE := bmem 496 (by decide +kernel) rfl
theorem kS_X11_within : KS yX11_within cX11_within 3 (some .boolean) 3 := ⟨m_495, m_79, m_496, by decide +kernel, by decide +kernel, by decide +kernel⟩
