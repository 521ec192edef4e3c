theorem KST_X12_tenth_35 {Mz : mM} {v1_35 : Int32} {M_35 : mM} {v1_35y : Int32} {M_35y : mM} (h : ST_X12_tenth_35 Mz v1_35 M_35 v1_35y M_35y) : kq [] M_35 M_35y := by
  unfold ST_X12_tenth_35 at h
  rcases h with ⟨hv0_35, -, hF_35, z15_, e16_, h17_, h18_, M19_, -, hF23_, hs25_, z26_, h27_, hq_v1_35y, hM_⟩
  · rw [hM_]
    exact (KSP_X12_walkerGoes hs25_ (by omega)).mono (by decide)
