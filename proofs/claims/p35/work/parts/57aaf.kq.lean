theorem KST_X12_lays_81 {v : Int32} {u : Int32} {Mz : mM} {v4_81 : Int32} {v3_81 : Int32} {M_81 : mM} {v4_81y : Int32} {v3_81y : Int32} {M_81y : mM} (h : ST_X12_lays_81 v u Mz v4_81 v3_81 M_81 v4_81y v3_81y M_81y) (h4_ : 0 ≤ v.toInt ∧ v.toInt ≤ 3) (h10_ : 0 ≤ u.toInt ∧ u.toInt ≤ 11) : kq [1] M_81 M_81y := by
  unfold ST_X12_lays_81 at h
  rcases h with ⟨hv0_81, -, hF_81, j33_, h34_, z31_, e32_, h35_, h36_, h37_, z38_, h39_, z40_, h41_, j44_, h45_, z42_, e43_, (⟨hs50_, h49_, z52_, e53_, h54_, (⟨h55_, z56_, h57_, hq_v4_81y, hq_v3_81y, hM_⟩ | ⟨h55_, z58_, h59_, z60_, h61_, r62_, hs66_, h65_, (⟨h67_, z68_, h69_, hq_v4_81y, hq_v3_81y, hM_⟩ | ⟨h67_, z70_, h71_, z72_, h73_, z74_, h75_, M77_, -, hF81_, r76_, hs83_, h79_, z85_, h86_, z87_, h88_, hq_v4_81y, hq_v3_81y, hM_⟩)⟩)⟩ | ⟨hs50_, h49_, z90_, h91_, hq_v4_81y, hq_v3_81y, hM_⟩)⟩
  · rw [hM_]
    exact kq.refl
  · rw [hM_]
    exact kq.refl
  · rw [hM_]
    exact (KSP_X12_comes hs83_).mono (by decide)
  · rw [hM_]
    exact kq.refl
