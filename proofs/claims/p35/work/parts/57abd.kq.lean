theorem KSP_X12_feed {v : Int64} {u : Int32} {Mz : mM} {r_ : Int32} {M_ : mM} (h : SP_X12_feed v u Mz r_ M_) : kq [4] Mz M_ := by
  unfold SP_X12_feed at h
  rcases h with (⟨hs5_, h4_, z7_, e8_, h9_, z10_, h11_, (⟨h12_, v4_40, hv0_40, hv1_40, M_40, hv2_40, hL_40, -, hF_40, h14_, z15_, e16_, h17_, hr_, hM_⟩ | ⟨h12_, M53_, -, hF57_, r52_, hs59_, h55_, hr_, hM_⟩)⟩ | ⟨hs5_, h4_, M62_, -, hF66_, r61_, hs68_, h64_, hr_, hM_⟩)
  · rw [hM_]
    have l0_ := rind hL_40 (fun z_ => kq [4] Mz z_.2) kq.refl (fun x_ z_ h1_ h2_ => kq.trans h1_ ((KST_X12_feed_40 h2_ (by omega)).mono (by decide)))
    exact show kq [4] Mz M_40 from l0_
  · rw [hM_]
    exact kq_FR hF57_ (by intro j q; simp [S_c_X12_finding] at q)
  · rw [hM_]
    exact kq_FR hF66_ (by intro j q; simp [S_c_X12_finding] at q)
