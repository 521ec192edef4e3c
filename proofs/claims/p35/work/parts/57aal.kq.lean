theorem KSP_X12_more {v : Int32} {u : Int32} {Mz : mM} {M_ : mM} (h : SP_X12_more v u Mz M_) (hv : 494 ≤ v.toInt ∧ v.toInt ≤ 3566) : kq [] Mz M_ := by
  unfold SP_X12_more at h
  rcases h with ⟨j3_, h4_, z1_, e2_, z5_, h6_, z7_, h8_, j11_, h12_, M9_, hM10_, hM_⟩
  · rw [hM_]
    exact kq_up hM10_ (Or.inl (by omega))
