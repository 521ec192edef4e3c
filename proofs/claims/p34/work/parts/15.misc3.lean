def isB (v : Int32) : Prop := v = 0 ∨ v = 1
theorem isB_n {v : Int32} (h : isB v) : narrow .boolean (.int v) = .int v := by
  rcases h with rfl | rfl <;> rfl
theorem isB_f {v : Int32} (h : isB v) : fits .boolean (.int v) = true := by
  rcases h with rfl | rfl <;> rfl
def hasS (v z : Int32) : Prop := 0 ≤ v ∧ v < z ∧ v < 24
