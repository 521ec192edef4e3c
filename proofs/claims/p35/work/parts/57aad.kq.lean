theorem KSP_X12_moves {v : Int32} {u : Int32} {t : Int32} {Mz : mM} {r_ : Int32} {M_ : mM} (h : SP_X12_moves v u t Mz r_ M_) : kq [] Mz M_ := by
  unfold SP_X12_moves at h
  rcases h with (⟨hs5_, h4_, (⟨hs11_, h10_, (⟨hs17_, h16_, r19_, hs23_, h22_, z24_, h25_, j28_, h29_, z26_, e27_, h30_, (⟨h31_, r32_, hs36_, h35_, z37_, h38_, j41_, h42_, z39_, e40_, h43_, (⟨h44_, r45_, hs49_, h48_, z50_, h51_, j54_, h55_, M52_, hM53_, -, r58_, hs62_, h61_, z63_, h64_, j67_, h68_, M65_, hM66_, hr_, hM_⟩ | ⟨h44_, M72_, -, hF76_, r71_, hs78_, h74_, hr_, hM_⟩)⟩ | ⟨h31_, M80_, -, hF84_, r79_, hs86_, h82_, hr_, hM_⟩)⟩ | ⟨hs17_, h16_, M89_, -, hF93_, r88_, hs95_, h91_, hr_, hM_⟩)⟩ | ⟨hs11_, h10_, M98_, -, hF102_, r97_, hs104_, h100_, hr_, hM_⟩)⟩ | ⟨hs5_, M107_, -, hF111_, r106_, hs113_, h109_, hr_, hM_⟩)
  · rw [hM_]
    exact kq.trans (kq_up hM53_ (Or.inl (by omega))) (kq_up hM66_ (Or.inl (by omega)))
  · rw [hM_]
    exact kq_FR hF76_ (by intro j q; simp [S_c_X12_finding] at q)
  · rw [hM_]
    exact kq_FR hF84_ (by intro j q; simp [S_c_X12_finding] at q)
  · rw [hM_]
    exact kq_FR hF93_ (by intro j q; simp [S_c_X12_finding] at q)
  · rw [hM_]
    exact kq_FR hF102_ (by intro j q; simp [S_c_X12_finding] at q)
  · rw [hM_]
    exact kq_FR hF111_ (by intro j q; simp [S_c_X12_finding] at q)
