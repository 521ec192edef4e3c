/-! odds and ends -/
theorem sub3_ne {z : Int32} (h : ¬ z.toInt = 3) : ¬ z - 3 = 0 := by
  intro q
  have h1 := congrArg Int32.toInt q
  rw [Int32.toInt_sub, show (3 : Int32).toInt = 3 from rfl, show (0 : Int32).toInt = 0 from rfl, Int.bmod_def] at h1
  have h2 := rngI z
  split at h1 <;> omega
