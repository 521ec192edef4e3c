theorem KSP_X12_tenths {v : Int32} {Mz : mM} {r_ : Int32} {M_ : mM} (h : SP_X12_tenths v Mz r_ M_) : kq [0] Mz M_ := by
  unfold SP_X12_tenths at h
  rcases h with (⟨hs5_, h4_, z7_, e8_, z9_, h10_, (⟨h11_, v2_40, hv0_40, M_40, hL_40, -, hF_40, h13_, z14_, e15_, hr_, hM_⟩ | ⟨h11_, M26_, -, hF30_, r25_, hs32_, h28_, hr_, hM_⟩)⟩ | ⟨hs5_, h4_, M35_, -, hF39_, r34_, hs41_, h37_, hr_, hM_⟩)
  · rw [hM_]
    have l0_ := rind hL_40 (fun z_ => kq [0] Mz z_.2) kq.refl (fun x_ z_ h1_ h2_ => kq.trans h1_ ((KST_X12_tenths_40 h2_ (by omega)).mono (by decide)))
    exact show kq [0] Mz M_40 from l0_
  · rw [hM_]
    exact kq_FR hF30_ (by intro j q; simp [S_c_X12_finding] at q)
  · rw [hM_]
    exact kq_FR hF39_ (by intro j q; simp [S_c_X12_finding] at q)
