theorem KST_X12_feed_40 {v : Int64} {u : Int32} {Mz : mM} {v4_40 : Int32} {M_40 : mM} {v4_40y : Int32} {M_40y : mM} (h : ST_X12_feed_40 v u Mz v4_40 M_40 v4_40y M_40y) (h4_ : 1 ≤ u.toInt ∧ u.toInt ≤ 8) : kq [4] M_40 M_40y := by
  unfold ST_X12_feed_40 at h
  rcases h with ⟨hv0_40, hv1_40, hv2_40, -, hF_40, h14_, z18_, e19_, h21_, z22_, h23_, z24_, h25_, w26_, h27_, w28_, h29_, z30_, h31_, j34_, h35_, M32_, hM33_, z39_, e40_, h41_, h42_, z43_, h44_, M45_, hM46_, z50_, h51_, hq_v4_40y, hM_⟩
  · rw [hM_]
    exact kq.trans (kq_up hM33_ (Or.inl (by omega))) (kq_up hM46_ (Or.inr (by decide)))
