theorem KST_X12_tenth_12 {Mz : mM} {v1_12 : Int32} {M_12 : mM} {v1_12y : Int32} {M_12y : mM} (h : ST_X12_tenth_12 Mz v1_12 M_12 v1_12y M_12y) : kq [] M_12 M_12y := by
  unfold ST_X12_tenth_12 at h
  rcases h with ⟨hv0_12, -, hF_12, z10_, e11_, h12_, h13_, M28_, -, hF32_, hs34_, z35_, h36_, hq_v1_12y, hM_⟩
  · rw [hM_]
    exact (KSP_X12_thingGoes hs34_ (by omega)).mono (by decide)
