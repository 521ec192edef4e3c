theorem KSP_X12_tell {v : Int32} {Mz : mM} {r_ : Int32} {M_ : mM} (h : SP_X12_tell v Mz r_ M_) : kq [5] Mz M_ := by
  unfold SP_X12_tell at h
  rcases h with ⟨z1_, e2_, h4_, (⟨h5_, z6_, e7_, h8_, h9_, z10_, h11_, j14_, h15_, M12_, hM13_, z19_, e20_, h21_, h22_, z23_, h24_, M25_, hM26_, z29_, e30_, h32_, hr_, hM_⟩ | ⟨h5_, M34_, -, hF38_, r33_, hs40_, h36_, hr_, hM_⟩)⟩
  · rw [hM_]
    exact kq.trans (kq_up hM13_ (Or.inl (by omega))) (kq_up hM26_ (Or.inr (by decide)))
  · rw [hM_]
    exact kq_FR hF38_ (by intro j q; simp [S_c_X12_finding] at q)
