theorem KSP_X12_tenth {Mz : mM} {M_ : mM} (h : SP_X12_tenth Mz M_) : kq [0] Mz M_ := by
  unfold SP_X12_tenth at h
  rcases h with ⟨z1_, e2_, z3_, h4_, M5_, hM6_, v1_12, hv0_12, M_12, hL_12, -, hF_12, z10_, e11_, h12_, h13_, v1_35, hv0_35, M_35, hL_35, -, hF_35, z15_, e16_, h17_, h18_, hM_⟩
  · rw [hM_]
    have l0_ := rind hL_12 (fun z_ => kq [0] M5_ z_.2) kq.refl (fun x_ z_ h1_ h2_ => kq.trans h1_ ((KST_X12_tenth_12 h2_).mono (by decide)))
    have l1_ := rind hL_35 (fun z_ => kq [0] M_12 z_.2) kq.refl (fun x_ z_ h1_ h2_ => kq.trans h1_ ((KST_X12_tenth_35 h2_).mono (by decide)))
    exact kq.trans (kq.trans (kq_up hM6_ (Or.inr (by decide))) (show kq [0] M5_ M_12 from l0_)) (show kq [0] M_12 M_35 from l1_)
