theorem KST_X12_goesOn_22 {Mz : mM} {r1_ : Int32} {v3_22 : Int32} {M_22 : mM} {v3_22y : Int32} {M_22y : mM} {v : Int32} (h : ST_X12_goesOn_22 Mz r1_ v3_22 M_22 v3_22y M_22y) (h4_ : r1_.toInt = 180 + 9 * v.toInt) (hv : 0 ≤ v.toInt ∧ v.toInt ≤ 7) : kq [] M_22 M_22y := by
  unfold ST_X12_goesOn_22 at h
  rcases h with ⟨hv0_22, -, hF_22, h13_, z14_, h15_, j18_, h19_, z16_, e17_, h20_, z21_, h22_, j25_, h26_, z23_, e24_, h27_, r28_, hs32_, h31_, h33_, r49_, hs53_, h52_, h54_, z55_, h56_, j59_, h60_, M57_, hM58_, z63_, h64_, hq_v3_22y, hM_⟩
  · rw [hM_]
    exact kq_up hM58_ (Or.inl (by omega))
