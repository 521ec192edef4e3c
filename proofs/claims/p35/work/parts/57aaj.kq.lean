theorem KSP_X12_face {v : Int32} {u : Int32} {Mz : mM} {r_ : Int32} {M_ : mM} (h : SP_X12_face v u Mz r_ M_) : kq [] Mz M_ := by
  unfold SP_X12_face at h
  rcases h with (⟨hs5_, h4_, (⟨hs11_, h10_, r13_, hs17_, h16_, z18_, h19_, M21_, -, hF25_, r20_, hs27_, hr_, hM_⟩ | ⟨hs11_, h10_, M30_, -, hF34_, r29_, hs36_, h32_, hr_, hM_⟩)⟩ | ⟨hs5_, M39_, -, hF43_, r38_, hs45_, h41_, hr_, hM_⟩)
  · rw [hM_]
    exact (KSP_X12_become hs27_ (by omega)).mono (by decide)
  · rw [hM_]
    exact kq_FR hF34_ (by intro j q; simp [S_c_X12_finding] at q)
  · rw [hM_]
    exact kq_FR hF43_ (by intro j q; simp [S_c_X12_finding] at q)
