/-! image, restore -/
theorem cb_35 {M M1 D D2 : mM} {r1 r2 : Int32} (h1 : SP_X11_image M r1 M1) (h2 : SP_X12_image D r2 D2) (hR : RW 0 M.1 (D.1 (50, 0, 0))) (hD : InvD D) (h4 : M.1 (5, 0, 0) 1 = D.1 (50, 0, 0) 4) (h5 : M.1 (5, 0, 1) 1 = D.1 (50, 0, 0) 5) (h8 : M.1 (11, 0, 0) 8 = D.1 (12, 0, 0) 3) : RW 0 M1.1 (D2.1 (50, 0, 0)) ∧ RW 1 M1.1 (D2.1 (51, 0, 0)) ∧ r1 = r2 := by
  have hN : NW5 (D.1 (50, 0, 0)) := hD.2.1
  unfold SP_X11_image at h1
  rcases h1 with ⟨c_M1_, -, c_hF5_, c_hs7_, c_z8_, c_e9_, c_z10_, c_h11_, c_M12_, c_hM13_, c_z16_, c_e17_, c_hr_, c_hM_⟩
  unfold SP_X12_image at h2
  rcases h2 with ⟨d_M1_, -, d_hF5_, d_hs7_, d_z9_, d_e10_, d_z11_, d_h12_, d_M13_, d_hM14_, d_z17_, d_e18_, d_hr_, d_hM_⟩
  have tk := RW_take (b := 1) hR hN c_hs7_ (by omega) (by rw [h4]) (by rw [h5])
  have e50 : D2.1 (50, 0, 0) = D.1 (50, 0, 0) := funext fun k => by rw [d_hM_, zupR d_hM14_ (by simp)]; exact d_hF5_ _ _ (fun q => by simp only [S_c_copy_50_51, or_false] at q; omega)
  have c51 := cpy51 d_hs7_
  have up1 : ∀ (c : rf) (k : Nat), wR c.1 → M1.1 c k = c_M1_.1 c k := fun c k a => by rw [c_hM_, zupR c_hM13_ (fun z => by unfold wR at a; omega)]
  have m50 : ∀ k, d_M1_.1 (50, 0, 0) k = D.1 (50, 0, 0) k := fun k => d_hF5_ _ _ (fun q => by simp only [S_c_copy_50_51, or_false] at q; omega)
  refine ⟨?_, ?_, ?_⟩
  · rw [e50]
    exact RW_same hR hN (fun c k a b => by rw [up1 c k a]; exact c_hF5_ c k (fun q => by simp only [S_c_X10_takeFrom, or_false] at q; omega))
  · refine RW_row (RW_same tk hN (fun c k a _ => up1 c k a)) hN (fun j hj => ?_)
    rw [d_hM_, zupR d_hM14_ (by simp), c51 j hj, m50]
  · have w1 : c_M1_.1 (11, 0, 0) 8 = M.1 (11, 0, 0) 8 := c_hF5_ _ _ (fun q => by simp only [S_c_X10_takeFrom, or_false] at q; omega)
    have w2 : d_M1_.1 (12, 0, 0) 3 = D.1 (12, 0, 0) 3 := d_hF5_ _ _ (fun q => by simp only [S_c_copy_50_51, or_false] at q; omega)
    rw [c_hr_, c_e17_, c_hM13_, up_same, c_h11_, c_e9_, w1, d_hr_, d_e18_, d_hM14_, up_same, d_h12_, d_e10_, w2, h8]
theorem cb_36 {M M1 D D2 : mM} {r1 r2 : Int32} (h1 : SP_X11_restore M r1 M1) (h2 : SP_X12_restore D r2 D2) (hR : RW 0 M.1 (D.1 (50, 0, 0))) (hD : InvD D) (h8 : M.1 (11, 0, 0) 8 = D.1 (12, 0, 0) 3) (hI : ¬ (D.1 (12, 0, 0) 3).toInt = 0 → RW 1 M.1 (D.1 (51, 0, 0)) ∧ M.1 (5, 1, 0) 1 = D.1 (51, 0, 0) 4 ∧ M.1 (5, 1, 1) 1 = D.1 (51, 0, 0) 5) : RW 0 M1.1 (D2.1 (50, 0, 0)) ∧ (¬ (D.1 (12, 0, 0) 3).toInt = 0 → RW 1 M1.1 (D2.1 (51, 0, 0))) ∧ r1 = r2 := by
  have hN : NW5 (D.1 (50, 0, 0)) := hD.2.1
  have hN1 : NW5 (D.1 (51, 0, 0)) := hD.2.2.1
  have e8 := eT h8
  unfold SP_X11_restore at h1
  rcases h1 with ⟨c_z1_, c_e2_, (⟨c_h3_, c_M4_, -, c_hF8_, c_hs10_, c_z11_, c_e12_, c_hr_, c_hM_⟩ | ⟨c_h3_, c_M14_, -, c_hF18_, c_r13_, c_hs20_, c_hr_, c_hM_⟩)⟩
  · have y1 := eT c_e2_
    unfold SP_X12_restore at h2
    rcases h2 with ⟨d_z1_, d_e2_, (⟨d_h3_, d_M4_, -, d_hF8_, d_hs10_, d_z12_, d_e13_, d_hr_, d_hM_⟩ | ⟨d_h3_, d_M15_, -, d_hF19_, d_r14_, d_hs21_, d_h17_, d_hr_, d_hM_⟩)⟩
    · have y2 := eT d_e2_
      obtain ⟨i1, i2, i3⟩ := hI (by omega)
      have tk := RW_take (b := 0) i1 hN1 c_hs10_ (by omega) (by rw [i2]) (by rw [i3])
      have c50 := cpy50 d_hs10_
      have m51 : ∀ k, d_M4_.1 (51, 0, 0) k = D.1 (51, 0, 0) k := fun k => d_hF8_ _ _ (fun q => by simp only [S_c_copy_51_50, or_false] at q; omega)
      have e51 : D2.1 (51, 0, 0) = D.1 (51, 0, 0) := funext fun k => by rw [d_hM_]; exact m51 k
      have R0 : RW 0 M1.1 (D2.1 (50, 0, 0)) := by
        rw [c_hM_, d_hM_]
        exact RW_row tk hN1 (fun j hj => by rw [c50 j hj, m51])
      refine ⟨R0, fun _ => ?_, ?_⟩
      · rw [e51, c_hM_]
        exact RW_same i1 hN1 (fun c k a b => c_hF8_ c k (fun q => by simp only [S_c_X10_takeFrom, or_false] at q; omega))
      · rw [c_hr_, c_e12_, d_hr_, d_e13_]
        rw [c_hM_, d_hM_] at R0
        exact R0.1.1.1
    · have y2 := eT d_e2_
      omega
  · have y1 := eT c_e2_
    unfold SP_X12_restore at h2
    rcases h2 with ⟨d_z1_, d_e2_, (⟨d_h3_, d_M4_, -, d_hF8_, d_hs10_, d_z12_, d_e13_, d_hr_, d_hM_⟩ | ⟨d_h3_, d_M15_, -, d_hF19_, d_r14_, d_hs21_, d_h17_, d_hr_, d_hM_⟩)⟩
    · have y2 := eT d_e2_
      omega
    · refine ⟨sameE hR hN c_hF18_ c_hM_ d_hF19_ d_hM_, fun q => ?_, i32e ?_⟩
      · have y2 := eT d_e2_
        omega
      · have e := err_r c_hs20_ (by first | decide | simp | (dsimp only; omega))
        rw [c_hr_, d_hr_, e, d_h17_]
        decide
