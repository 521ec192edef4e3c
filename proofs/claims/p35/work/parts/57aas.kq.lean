theorem KSP_X12_thingGoes {v : Int32} {Mz : mM} {M_ : mM} (h : SP_X12_thingGoes v Mz M_) (hv : 0 ≤ v.toInt ∧ v.toInt ≤ 39) : kq [] Mz M_ := by
  unfold SP_X12_thingGoes at h
  rcases h with ⟨r1_, hs5_, h4_, z6_, h7_, j10_, h11_, z8_, e9_, r12_, hs16_, h15_, z17_, h18_, j21_, h22_, z19_, e20_, h23_, r24_, hs28_, h27_, z29_, h30_, j33_, h34_, z31_, e32_, h35_, (⟨h36_, hM_⟩ | ⟨h36_, (⟨h37_, hM_⟩ | ⟨h37_, (⟨h38_, hM_⟩ | ⟨h38_, z39_, e40_, z41_, h42_, (⟨h43_, r44_, hs48_, h47_, z49_, h50_, j53_, h54_, z51_, e52_, h55_, r56_, hs60_, h59_, (⟨h61_, r62_, hs66_, h65_, z67_, h68_, r69_, hs73_, h72_, z74_, h75_, j78_, h79_, z76_, e77_, h80_, z81_, h82_, z83_, h85_, h84_, j88_, h89_, M86_, hM87_, hM_⟩ | ⟨h61_, r92_, hs96_, h95_, (⟨h97_, r98_, hs102_, h101_, z103_, h104_, r105_, hs109_, h108_, z110_, h111_, j114_, h115_, z112_, e113_, h116_, z117_, h118_, z119_, h121_, h120_, j124_, h125_, M122_, hM123_, hM_⟩ | ⟨h97_, r128_, hs132_, h131_, z133_, h134_, j137_, h138_, M135_, hM136_, hM_⟩)⟩)⟩ | ⟨h43_, hM_⟩)⟩)⟩)⟩)⟩
  · rw [hM_]
    exact kq.refl
  · rw [hM_]
    exact kq.refl
  · rw [hM_]
    exact kq.refl
  · rw [hM_]
    exact kq_up hM87_ (Or.inl (by omega))
  · rw [hM_]
    exact kq_up hM123_ (Or.inl (by omega))
  · rw [hM_]
    exact kq_up hM136_ (Or.inl (by omega))
  · rw [hM_]
    exact kq.refl
