theorem KST_X12_clicks_55 {v : Int32} {Mz : mM} {z8_ : Int32} {v4_35 : Int32} {r34_ : Int32} {v6_55 : Int32} {M_55 : mM} {v6_55y : Int32} {M_55y : mM} (h : ST_X12_clicks_55 v Mz z8_ v4_35 r34_ v6_55 M_55 v6_55y M_55y) (hv0_35 : 0 ≤ v4_35.toInt) (hv1_35 : v4_35.toInt ≤ 8) (h33_ : v4_35.toInt < 8) (hv : 0 ≤ v.toInt ∧ v.toInt ≤ 7) : kq [] M_55 M_55y := by
  unfold ST_X12_clicks_55 at h
  rcases h with ⟨hv0_55, -, hF_55, h43_, r68_, hs72_, h71_, r73_, hs77_, h76_, M78_, -, hF82_, hs84_, z85_, h86_, hq_v6_55y, hM_⟩
  · rw [hM_]
    exact (KSP_X12_more hs84_ (by omega)).mono (by decide)
