theorem KSP_X12_become {v u : Int32} {Mz : mM} {r_ : Int32} {M_ : mM} (h : SP_X12_become v u Mz r_ M_) (hv : 20 ≤ v.toInt) : kq [] Mz M_ := by
  unfold SP_X12_become at h
  rcases h with ⟨j3_, h4_, z1_, e2_, j7_, h8_, M5_, hM6_, hr_, hM_⟩
  rw [hM_]; exact kq_up hM6_ (Or.inl (by omega))
