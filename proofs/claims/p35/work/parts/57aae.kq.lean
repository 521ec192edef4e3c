theorem KSP_X12_away {v : Int32} {Mz : mM} {r_ : Int32} {M_ : mM} (h : SP_X12_away v Mz r_ M_) : kq [] Mz M_ := by
  unfold SP_X12_away at h
  rcases h with (⟨hs5_, h4_, r7_, hs11_, h10_, z12_, h13_, j16_, h17_, z14_, e15_, h18_, (⟨h19_, r20_, hs24_, h23_, z25_, h26_, M28_, -, hF32_, r27_, hs34_, hr_, hM_⟩ | ⟨h19_, M36_, -, hF40_, r35_, hs42_, h38_, hr_, hM_⟩)⟩ | ⟨hs5_, M45_, -, hF49_, r44_, hs51_, h47_, hr_, hM_⟩)
  · rw [hM_]
    exact (KSP_X12_become hs34_ (by omega)).mono (by decide)
  · rw [hM_]
    exact kq_FR hF40_ (by intro j q; simp [S_c_X12_finding] at q)
  · rw [hM_]
    exact kq_FR hF49_ (by intro j q; simp [S_c_X12_finding] at q)
