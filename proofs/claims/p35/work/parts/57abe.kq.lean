theorem KST_X12_text__117 {v : Int32} {Mz : mM} {v2_117 : Int32} {M_117 : mM} {v2_117y : Int32} {M_117y : mM} (h : ST_X12_text__117 v Mz v2_117 M_117 v2_117y M_117y) (h4_ : 0 ≤ v.toInt ∧ v.toInt ≤ 2) : kq [] M_117 M_117y := by
  unfold ST_X12_text__117 at h
  rcases h with ⟨hv0_117, hv1_117, hv2_117, -, hF_117, z151_, e152_, h153_, h154_, h155_, z159_, e160_, h161_, h162_, z163_, h164_, z165_, h166_, z167_, h168_, z169_, h170_, j173_, h174_, z171_, e172_, j177_, h178_, M175_, hM176_, z186_, h187_, hq_v2_117y, hM_⟩
  · rw [hM_]
    exact kq_up hM176_ (Or.inl (by omega))
