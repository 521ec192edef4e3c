theorem KSP_X12_lesson {v : Int32} {u : Int32} {t : Int32} {Mz : mM} {r_ : Int32} {M_ : mM} (h : SP_X12_lesson v u t Mz r_ M_) : kq [3] Mz M_ := by
  unfold SP_X12_lesson at h
  rcases h with (⟨hs5_, h4_, (⟨hs11_, h10_, (⟨hs17_, h16_, z19_, e20_, h22_, (⟨h23_, z24_, h25_, z26_, h27_, j30_, h31_, M28_, hM29_, z35_, h36_, z37_, h38_, z39_, h40_, j43_, h44_, M41_, hM42_, z48_, h49_, z50_, h51_, z52_, h53_, j56_, h57_, M54_, hM55_, z61_, e62_, h63_, h64_, z65_, h66_, M67_, hM68_, hr_, hM_⟩ | ⟨h23_, M72_, -, hF76_, r71_, hs78_, h74_, hr_, hM_⟩)⟩ | ⟨hs17_, h16_, M82_, -, hF86_, r81_, hs88_, h84_, hr_, hM_⟩)⟩ | ⟨hs11_, h10_, M91_, -, hF95_, r90_, hs97_, h93_, hr_, hM_⟩)⟩ | ⟨hs5_, h4_, M100_, -, hF104_, r99_, hs106_, h102_, hr_, hM_⟩)
  · rw [hM_]
    exact kq.trans (kq.trans (kq.trans (kq_up hM29_ (Or.inl (by omega))) (kq_up hM42_ (Or.inl (by omega)))) (kq_up hM55_ (Or.inl (by omega)))) (kq_up hM68_ (Or.inr (by decide)))
  · rw [hM_]
    exact kq_FR hF76_ (by intro j q; simp [S_c_X12_finding] at q)
  · rw [hM_]
    exact kq_FR hF86_ (by intro j q; simp [S_c_X12_finding] at q)
  · rw [hM_]
    exact kq_FR hF95_ (by intro j q; simp [S_c_X12_finding] at q)
  · rw [hM_]
    exact kq_FR hF104_ (by intro j q; simp [S_c_X12_finding] at q)
