theorem KSP_X12_lays {v : Int32} {u : Int32} {Mz : mM} {r_ : Int32} {M_ : mM} (h : SP_X12_lays v u Mz r_ M_) : kq [1] Mz M_ := by
  unfold SP_X12_lays at h
  rcases h with (⟨hs5_, h4_, (⟨hs11_, h10_, j15_, h16_, z13_, e14_, (⟨h17_, j20_, h21_, z18_, e19_, (⟨h22_, j25_, h26_, z23_, e24_, h27_, (⟨h28_, v4_81, hv0_81, v3_81, M_81, hL_81, -, hF_81, j33_, h34_, z31_, e32_, h35_, h36_, h37_, hr_, hM_⟩ | ⟨h28_, M93_, -, hF97_, r92_, hs99_, h95_, hr_, hM_⟩)⟩ | ⟨h22_, M101_, -, hF105_, r100_, hs107_, h103_, hr_, hM_⟩)⟩ | ⟨h17_, M109_, -, hF113_, r108_, hs115_, h111_, hr_, hM_⟩)⟩ | ⟨hs11_, h10_, M118_, -, hF122_, r117_, hs124_, h120_, hr_, hM_⟩)⟩ | ⟨hs5_, h4_, M127_, -, hF131_, r126_, hs133_, h129_, hr_, hM_⟩)
  · rw [hM_]
    have l0_ := rind hL_81 (fun z_ => kq [1] Mz z_.2.2) kq.refl (fun x_ z_ h1_ h2_ => kq.trans h1_ ((KST_X12_lays_81 h2_ (by omega) (by omega)).mono (by decide)))
    exact show kq [1] Mz M_81 from l0_
  · rw [hM_]
    exact kq_FR hF97_ (by intro j q; simp [S_c_X12_finding] at q)
  · rw [hM_]
    exact kq_FR hF105_ (by intro j q; simp [S_c_X12_finding] at q)
  · rw [hM_]
    exact kq_FR hF113_ (by intro j q; simp [S_c_X12_finding] at q)
  · rw [hM_]
    exact kq_FR hF122_ (by intro j q; simp [S_c_X12_finding] at q)
  · rw [hM_]
    exact kq_FR hF131_ (by intro j q; simp [S_c_X12_finding] at q)
