theorem KSP_X12_goesOn {v : Int32} {Mz : mM} {M_ : mM} (h : SP_X12_goesOn v Mz M_) (hv : 0 ≤ v.toInt ∧ v.toInt ≤ 7) : kq [] Mz M_ := by
  unfold SP_X12_goesOn at h
  rcases h with ⟨r1_, hs5_, h4_, r6_, hs10_, h9_, (⟨h11_, v3_22, hv0_22, M_22, hL_22, -, hF_22, (⟨h13_, hM_⟩ | ⟨h13_, z14_, h15_, j18_, h19_, z16_, e17_, h20_, z21_, h22_, j25_, h26_, z23_, e24_, h27_, r28_, hs32_, h31_, (⟨h33_, z34_, h35_, j38_, h39_, z36_, e37_, z40_, h41_, j44_, h45_, M42_, hM43_, h48_, hM_⟩ | ⟨h33_, r49_, hs53_, h52_, h54_, z65_, h66_, j69_, h70_, z67_, e68_, z71_, h72_, j75_, h76_, M73_, hM74_, h79_, -, r80_, hs84_, h83_, M85_, -, hF89_, hs91_, hM_⟩)⟩)⟩ | ⟨h11_, v3_22, hv0_22, M_22, hL_22, -, hF_22, (⟨h93_, hM_⟩ | ⟨h93_, z94_, h95_, j98_, h99_, z96_, e97_, h100_, z101_, h102_, j105_, h106_, z103_, e104_, h107_, r108_, hs112_, h111_, (⟨h113_, z114_, h115_, j118_, h119_, z116_, e117_, z120_, h121_, j124_, h125_, M122_, hM123_, h128_, hM_⟩ | ⟨h113_, r129_, hs133_, h132_, h134_, z145_, h146_, j149_, h150_, z147_, e148_, z151_, h152_, j155_, h156_, M153_, hM154_, h159_, -, r160_, hs164_, h163_, M165_, -, hF169_, hs171_, hM_⟩)⟩)⟩)⟩
  · rw [hM_]
    have l0_ := rind hL_22 (fun z_ => kq [] Mz z_.2) kq.refl (fun x_ z_ h1_ h2_ => kq.trans h1_ ((KST_X12_goesOn_22 (v := v) h2_ (by omega) (by omega)).mono (by decide)))
    exact show kq [] Mz M_22 from l0_
  · rw [hM_]
    have l0_ := rind hL_22 (fun z_ => kq [] Mz z_.2) kq.refl (fun x_ z_ h1_ h2_ => kq.trans h1_ ((KST_X12_goesOn_22 (v := v) h2_ (by omega) (by omega)).mono (by decide)))
    exact kq.trans (show kq [] Mz M_22 from l0_) (kq_up hM43_ (Or.inl (by omega)))
  · rw [hM_]
    have l0_ := rind hL_22 (fun z_ => kq [] Mz z_.2) kq.refl (fun x_ z_ h1_ h2_ => kq.trans h1_ ((KST_X12_goesOn_22 (v := v) h2_ (by omega) (by omega)).mono (by decide)))
    exact kq.trans (kq.trans (show kq [] Mz M_22 from l0_) (kq_up hM74_ (Or.inl (by omega)))) ((KSP_X12_more hs91_ (by omega)).mono (by decide))
  · rw [hM_]
    have l0_ := rind hL_22 (fun z_ => kq [] Mz z_.2) kq.refl (fun x_ z_ h1_ h2_ => kq.trans h1_ ((KST_X12_goesOn_22b (v := v) h2_ (by omega) (by omega)).mono (by decide)))
    exact show kq [] Mz M_22 from l0_
  · rw [hM_]
    have l0_ := rind hL_22 (fun z_ => kq [] Mz z_.2) kq.refl (fun x_ z_ h1_ h2_ => kq.trans h1_ ((KST_X12_goesOn_22b (v := v) h2_ (by omega) (by omega)).mono (by decide)))
    exact kq.trans (show kq [] Mz M_22 from l0_) (kq_up hM123_ (Or.inl (by omega)))
  · rw [hM_]
    have l0_ := rind hL_22 (fun z_ => kq [] Mz z_.2) kq.refl (fun x_ z_ h1_ h2_ => kq.trans h1_ ((KST_X12_goesOn_22b (v := v) h2_ (by omega) (by omega)).mono (by decide)))
    exact kq.trans (kq.trans (show kq [] Mz M_22 from l0_) (kq_up hM154_ (Or.inl (by omega)))) ((KSP_X12_more hs171_ (by omega)).mono (by decide))
