theorem KSP_X12_walker {v : Int32} {u : Int32} {t : Int32} {Mz : mM} {r_ : Int32} {M_ : mM} (h : SP_X12_walker v u t Mz r_ M_) : kq [2] Mz M_ := by
  unfold SP_X12_walker at h
  rcases h with (⟨hs5_, h4_, (⟨hs11_, h10_, (⟨hs17_, h16_, r19_, hs23_, h22_, (⟨h24_, z25_, e26_, h28_, (⟨h29_, r30_, hs34_, h33_, z35_, h36_, j39_, h40_, M37_, hM38_, z44_, h45_, j48_, h49_, M46_, hM47_, z53_, h54_, j57_, h58_, M55_, hM56_, z62_, h63_, j66_, h67_, M64_, hM65_, z71_, h72_, j75_, h76_, M73_, hM74_, z80_, e81_, h82_, h83_, z84_, h85_, M86_, hM87_, hr_, hM_⟩ | ⟨h29_, M91_, -, hF95_, r90_, hs97_, h93_, hr_, hM_⟩)⟩ | ⟨h24_, M100_, -, hF104_, r99_, hs106_, h102_, hr_, hM_⟩)⟩ | ⟨hs17_, h16_, M109_, -, hF113_, r108_, hs115_, h111_, hr_, hM_⟩)⟩ | ⟨hs11_, h10_, M118_, -, hF122_, r117_, hs124_, h120_, hr_, hM_⟩)⟩ | ⟨hs5_, h4_, M127_, -, hF131_, r126_, hs133_, h129_, hr_, hM_⟩)
  · rw [hM_]
    exact kq.trans (kq.trans (kq.trans (kq.trans (kq.trans (kq_up hM38_ (Or.inl (by omega))) (kq_up hM47_ (Or.inl (by omega)))) (kq_up hM56_ (Or.inl (by omega)))) (kq_up hM65_ (Or.inl (by omega)))) (kq_up hM74_ (Or.inl (by omega)))) (kq_up hM87_ (Or.inr (by decide)))
  · rw [hM_]
    exact kq_FR hF95_ (by intro j q; simp [S_c_X12_finding] at q)
  · rw [hM_]
    exact kq_FR hF104_ (by intro j q; simp [S_c_X12_finding] at q)
  · rw [hM_]
    exact kq_FR hF113_ (by intro j q; simp [S_c_X12_finding] at q)
  · rw [hM_]
    exact kq_FR hF122_ (by intro j q; simp [S_c_X12_finding] at q)
  · rw [hM_]
    exact kq_FR hF131_ (by intro j q; simp [S_c_X12_finding] at q)
