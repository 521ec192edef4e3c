theorem KSP_X12_goes {v : Int32} {u : Int32} {Mz : mM} {r_ : Int32} {M_ : mM} (h : SP_X12_goes v u Mz r_ M_) (hu : 0 ≤ u.toInt ∧ u.toInt ≤ 1) : kq [] Mz M_ := by
  unfold SP_X12_goes at h
  rcases h with (⟨hs5_, h4_, r7_, hs11_, h10_, z12_, h13_, (⟨h14_, M16_, -, hF20_, r15_, hs22_, hr_, hM_⟩ | ⟨h14_, M24_, -, hF28_, r23_, hs30_, hr_, hM_⟩)⟩ | ⟨hs5_, M33_, -, hF37_, r32_, hs39_, h35_, hr_, hM_⟩)
  · rw [hM_]
    exact (KSP_X12_become hs22_ (by omega)).mono (by decide)
  · rw [hM_]
    exact (KSP_X12_become hs30_ (by omega)).mono (by decide)
  · rw [hM_]
    exact kq_FR hF37_ (by intro j q; simp [S_c_X12_finding] at q)
