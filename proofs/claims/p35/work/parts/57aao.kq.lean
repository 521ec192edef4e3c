theorem KSP_X12_clicks {v : Int32} {Mz : mM} {r_ : Int32} {M_ : mM} (h : SP_X12_clicks v Mz r_ M_) (hv : 0 ≤ v.toInt ∧ v.toInt ≤ 7) : kq [] Mz M_ := by
  unfold SP_X12_clicks at h
  rcases h with ⟨r1_, hs5_, h4_, z6_, h7_, j10_, h11_, z8_, e9_, h12_, r13_, hs17_, h16_, z18_, h19_, j22_, h23_, z20_, e21_, z24_, h25_, j28_, h29_, M26_, hM27_, v4_35, hv0_35, hv1_35, v3_35, M_35, hL_35, -, hF_35, h33_, hr_, hM_⟩
  · rw [hM_]
    have l0_ := rind hL_35 (fun z_ => kq [] M26_ z_.2.2) kq.refl (fun x_ z_ h1_ h2_ => kq.trans h1_ ((KST_X12_clicks_35 h2_ (by omega) (by omega)).mono (by decide)))
    exact kq.trans (kq_up hM27_ (Or.inl (by omega))) (show kq [] M26_ M_35 from l0_)
