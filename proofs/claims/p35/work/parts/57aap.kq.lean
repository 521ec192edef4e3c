theorem KSP_X12_click {v : Int32} {Mz : mM} {r_ : Int32} {M_ : mM} (h : SP_X12_click v Mz r_ M_) : kq [] Mz M_ := by
  unfold SP_X12_click at h
  rcases h with (⟨hs5_, h4_, r7_, hs11_, h10_, r12_, hs16_, h15_, (⟨h17_, M19_, -, hF23_, r18_, hs25_, h21_, hr_, hM_⟩ | ⟨h17_, M27_, -, hF31_, r26_, hs33_, hr_, hM_⟩)⟩ | ⟨hs5_, M36_, -, hF40_, r35_, hs42_, h38_, hr_, hM_⟩)
  · rw [hM_]
    exact kq_FR hF23_ (by intro j q; simp [S_c_X12_finding] at q)
  · rw [hM_]
    exact (KSP_X12_clicks hs33_ (by omega)).mono (by decide)
  · rw [hM_]
    exact kq_FR hF40_ (by intro j q; simp [S_c_X12_finding] at q)
