theorem KST_X12_tenths_40 {v : Int32} {Mz : mM} {v2_40 : Int32} {M_40 : mM} {v2_40y : Int32} {M_40y : mM} (h : ST_X12_tenths_40 v Mz v2_40 M_40 v2_40y M_40y) (h4_ : 1 ≤ v.toInt ∧ v.toInt ≤ 100) : kq [0] M_40 M_40y := by
  unfold ST_X12_tenths_40 at h
  rcases h with ⟨hv0_40, -, hF_40, h13_, M16_, -, hF20_, hs22_, z23_, h24_, hq_v2_40y, hM_⟩
  · rw [hM_]
    exact (KSP_X12_tenth hs22_).mono (by decide)
