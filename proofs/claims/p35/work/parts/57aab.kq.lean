theorem KSP_X12_comes {v : Int32} {u : Int32} {Mz : mM} {r_ : Int32} {M_ : mM} (h : SP_X12_comes v u Mz r_ M_) : kq [1] Mz M_ := by
  unfold SP_X12_comes at h
  rcases h with ⟨z1_, e2_, h3_, h4_, r5_, hs9_, h8_, z10_, h11_, j14_, h15_, M12_, hM13_, -, r19_, hs23_, h22_, z24_, h25_, j28_, h29_, M26_, hM27_, -, r33_, hs37_, h36_, z38_, h39_, j42_, h43_, M40_, hM41_, -, r47_, hs51_, h50_, z52_, h53_, j56_, h57_, M54_, hM55_, z61_, e62_, h63_, h64_, z65_, h66_, M67_, hM68_, hr_, hM_⟩
  · rw [hM_]
    exact kq.trans (kq.trans (kq.trans (kq.trans (kq_up hM13_ (Or.inl (by omega))) (kq_up hM27_ (Or.inl (by omega)))) (kq_up hM41_ (Or.inl (by omega)))) (kq_up hM55_ (Or.inl (by omega)))) (kq_up hM68_ (Or.inr (by decide)))
