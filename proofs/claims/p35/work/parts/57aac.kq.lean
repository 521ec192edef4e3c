theorem KSP_X12_thing_ {v : Int32} {u : Int32} {Mz : mM} {r_ : Int32} {M_ : mM} (h : SP_X12_thing_ v u Mz r_ M_) : kq [1] Mz M_ := by
  unfold SP_X12_thing_ at h
  rcases h with (⟨hs5_, h4_, (⟨hs11_, h10_, r13_, hs17_, h16_, (⟨h18_, z19_, e20_, h21_, (⟨h22_, M24_, -, hF28_, r23_, hs30_, h26_, hr_, hM_⟩ | ⟨h22_, M32_, -, hF36_, r31_, hs38_, h34_, hr_, hM_⟩)⟩ | ⟨h18_, M40_, -, hF44_, r39_, hs46_, h42_, hr_, hM_⟩)⟩ | ⟨hs11_, h10_, M49_, -, hF53_, r48_, hs55_, h51_, hr_, hM_⟩)⟩ | ⟨hs5_, h4_, M58_, -, hF62_, r57_, hs64_, h60_, hr_, hM_⟩)
  · rw [hM_]
    exact (KSP_X12_comes hs30_).mono (by decide)
  · rw [hM_]
    exact kq_FR hF36_ (by intro j q; simp [S_c_X12_finding] at q)
  · rw [hM_]
    exact kq_FR hF44_ (by intro j q; simp [S_c_X12_finding] at q)
  · rw [hM_]
    exact kq_FR hF53_ (by intro j q; simp [S_c_X12_finding] at q)
  · rw [hM_]
    exact kq_FR hF62_ (by intro j q; simp [S_c_X12_finding] at q)
