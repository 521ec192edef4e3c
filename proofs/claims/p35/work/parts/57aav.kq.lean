theorem KST_X12_goesOn_22b {Mz : mM} {r1_ : Int32} {v3_22 : Int32} {M_22 : mM} {v3_22y : Int32} {M_22y : mM} {v : Int32} (h : ST_X12_goesOn_22b Mz r1_ v3_22 M_22 v3_22y M_22y) (h4_ : r1_.toInt = 180 + 9 * v.toInt) (hv : 0 ≤ v.toInt ∧ v.toInt ≤ 7) : kq [] M_22 M_22y := by
  unfold ST_X12_goesOn_22b at h
  rcases h with ⟨hv0_22, -, hF_22, h93_, z94_, h95_, j98_, h99_, z96_, e97_, h100_, z101_, h102_, j105_, h106_, z103_, e104_, h107_, r108_, hs112_, h111_, h113_, r129_, hs133_, h132_, h134_, z135_, h136_, j139_, h140_, M137_, hM138_, z143_, h144_, hq_v3_22y, hM_⟩
  · rw [hM_]
    exact kq_up hM138_ (Or.inl (by omega))
