theorem KSP_X12_habit {v : Int32} {u : Int32} {t : Int32} {s : Int32} {Mz : mM} {r_ : Int32} {M_ : mM} (h : SP_X12_habit v u t s Mz r_ M_) : kq [] Mz M_ := by
  unfold SP_X12_habit at h
  rcases h with (⟨hs5_, h4_, (⟨hs11_, h10_, (⟨hs17_, h16_, (⟨hs23_, h22_, r25_, hs29_, h28_, z30_, h31_, j34_, h35_, M32_, hM33_, -, r38_, hs42_, h41_, z43_, h44_, j47_, h48_, M45_, hM46_, -, r51_, hs55_, h54_, z56_, h57_, j60_, h61_, M58_, hM59_, hr_, hM_⟩ | ⟨hs23_, h22_, M66_, -, hF70_, r65_, hs72_, h68_, hr_, hM_⟩)⟩ | ⟨hs17_, h16_, M75_, -, hF79_, r74_, hs81_, h77_, hr_, hM_⟩)⟩ | ⟨hs11_, h10_, M84_, -, hF88_, r83_, hs90_, h86_, hr_, hM_⟩)⟩ | ⟨hs5_, M93_, -, hF97_, r92_, hs99_, h95_, hr_, hM_⟩)
  · rw [hM_]
    exact kq.trans (kq.trans (kq_up hM33_ (Or.inl (by omega))) (kq_up hM46_ (Or.inl (by omega)))) (kq_up hM59_ (Or.inl (by omega)))
  · rw [hM_]
    exact kq_FR hF70_ (by intro j q; simp [S_c_X12_finding] at q)
  · rw [hM_]
    exact kq_FR hF79_ (by intro j q; simp [S_c_X12_finding] at q)
  · rw [hM_]
    exact kq_FR hF88_ (by intro j q; simp [S_c_X12_finding] at q)
  · rw [hM_]
    exact kq_FR hF97_ (by intro j q; simp [S_c_X12_finding] at q)
