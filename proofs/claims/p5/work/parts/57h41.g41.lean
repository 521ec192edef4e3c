/-! the unseen walker is put back -/
theorem UST_X12_findTold_3 {u : Int32} {Mz : mM} {v4_3 : Int32} {M_3 : mM} {v4_3y : Int32} {M_3y : mM} (h : ST_X12_findTold_3 u Mz v4_3 M_3 v4_3y M_3y) (h0 : (M_3.1 (12, 0, 0) 7).toInt = -1) : (M_3y.1 (12, 0, 0) 7).toInt = -1 := by
  unfold ST_X12_findTold_3 at h
  rcases h with ⟨hv0_3, hv1_3, -, hF_3, h2_, z75_, h76_, z77_, h78_, j81_, h82_, M79_, hM80_, z85_, h86_, hq_v4_3y, hM_⟩
  · rw [hM_]
    have u1_ : (M79_.1 (12, 0, 0) 7).toInt = -1 := by rw [zupN hM80_ (by simp)]; exact h0
    exact u1_
theorem USP_X12_findTold {v : Int32} {u : Int32} {t : Int32} {Mz : mM} {M_ : mM} (h : SP_X12_findTold v u t Mz M_) (h0 : (Mz.1 (12, 0, 0) 7).toInt = -1) : (M_.1 (12, 0, 0) 7).toInt = -1 := by
  unfold SP_X12_findTold at h
  rcases h with ⟨v4_3, hv0_3, hv1_3, M_3, hL_3, -, hF_3, h2_, M3_, hM4_, v4_39, hv0_39, hv1_39, M_39, hL_39, -, hF_39, h8_, M9_, hM10_, hM_⟩
  · rw [hM_]
    have u1_ := rind hL_3 (fun z_ => (z_.2.1 (12, 0, 0) 7).toInt = -1) h0 (fun x_ z_ h1_ h2_ => UST_X12_findTold_3 h2_ h1_)
    have u4_ : (M9_.1 (12, 0, 0) 7).toInt = -1 := by rw [zupE hM10_ rfl rfl]; exact il_m1
    exact u4_
theorem UST_X12_spots_80 {v : Int32} {u : Int32} {Mz : mM} {v6_80 : Int32} {v5_80 : Int32} {M_80 : mM} {v6_80y : Int32} {v5_80y : Int32} {M_80y : mM} (h : ST_X12_spots_80 v u Mz v6_80 v5_80 M_80 v6_80y v5_80y M_80y) (h0 : (M_80.1 (12, 0, 0) 7).toInt = -1) : (M_80y.1 (12, 0, 0) 7).toInt = -1 := by
  unfold ST_X12_spots_80 at h
  rcases h with ⟨hv0_80, -, hF_80, j39_, h40_, z37_, e38_, h41_, h42_, h43_, z100_, h101_, z102_, h103_, j106_, h107_, z104_, e105_, r108_, hs112_, h111_, (⟨h113_, z114_, h115_, hq_v6_80y, hq_v5_80y, hM_⟩ | ⟨h113_, z116_, h117_, z118_, h119_, z120_, h121_, z122_, h123_, j126_, h127_, z124_, e125_, M128_, -, hF132_, hs134_, z136_, h137_, hq_v6_80y, hq_v5_80y, hM_⟩)⟩
  · rw [hM_]
    exact h0
  · rw [hM_]
    have u1_ : (M128_.1 (12, 0, 0) 7).toInt = -1 := USP_X12_findTold hs134_ h0
    exact u1_
theorem USP_X12_spots {v : Int32} {u : Int32} {t : Int32} {s : Int32} {Mz : mM} {r_ : Int32} {M_ : mM} (h : SP_X12_spots v u t s Mz r_ M_) (h0 : (Mz.1 (12, 0, 0) 7).toInt = -1) : (M_.1 (12, 0, 0) 7).toInt = -1 := by
  unfold SP_X12_spots at h
  rcases h with (⟨hs5_, h4_, (⟨hs11_, h10_, (⟨hs17_, h16_, (⟨hs23_, h22_, j27_, h28_, z25_, e26_, (⟨h29_, (⟨hs34_, h33_, v6_80, hv0_80, v5_80, M_80, hL_80, -, hF_80, j39_, h40_, z37_, e38_, h41_, h42_, h43_, r44_, hs48_, (⟨h49_, v8_169, hv0_169, v7_169, v6_169, hL_169, j53_, h54_, z51_, e52_, h55_, h56_, z57_, h58_, h59_, (⟨h60_, hr_, hM_⟩ | ⟨h60_, hr_, hM_⟩)⟩ | ⟨h49_, M92_, -, hF96_, r91_, hs98_, h94_, hr_, hM_⟩)⟩ | ⟨hs34_, M140_, -, hF144_, r139_, hs146_, h142_, hr_, hM_⟩)⟩ | ⟨h29_, M148_, -, hF152_, r147_, hs154_, h150_, hr_, hM_⟩)⟩ | ⟨hs23_, h22_, M157_, -, hF161_, r156_, hs163_, h159_, hr_, hM_⟩)⟩ | ⟨hs17_, h16_, M166_, -, hF170_, r165_, hs172_, h168_, hr_, hM_⟩)⟩ | ⟨hs11_, h10_, M175_, -, hF179_, r174_, hs181_, h177_, hr_, hM_⟩)⟩ | ⟨hs5_, M184_, -, hF188_, r183_, hs190_, h186_, hr_, hM_⟩)
  · rw [hM_]
    have u1_ := rind hL_80 (fun z_ => (z_.2.2.1 (12, 0, 0) 7).toInt = -1) h0 (fun x_ z_ h1_ h2_ => UST_X12_spots_80 h2_ h1_)
    exact u1_
  · rw [hM_]
    have u1_ := rind hL_80 (fun z_ => (z_.2.2.1 (12, 0, 0) 7).toInt = -1) h0 (fun x_ z_ h1_ h2_ => UST_X12_spots_80 h2_ h1_)
    exact u1_
  · rw [hM_]
    have u1_ := rind hL_80 (fun z_ => (z_.2.2.1 (12, 0, 0) 7).toInt = -1) h0 (fun x_ z_ h1_ h2_ => UST_X12_spots_80 h2_ h1_)
    have u2_ : (M92_.1 (12, 0, 0) 7).toInt = -1 := by rw [hF96_ _ _ (by simp [S_c_X12_finding])]; exact u1_
    exact u2_
  · rw [hM_]
    have u1_ : (M140_.1 (12, 0, 0) 7).toInt = -1 := by rw [hF144_ _ _ (by simp [S_c_X12_finding])]; exact h0
    exact u1_
  · rw [hM_]
    have u1_ : (M148_.1 (12, 0, 0) 7).toInt = -1 := by rw [hF152_ _ _ (by simp [S_c_X12_finding])]; exact h0
    exact u1_
  · rw [hM_]
    have u1_ : (M157_.1 (12, 0, 0) 7).toInt = -1 := by rw [hF161_ _ _ (by simp [S_c_X12_finding])]; exact h0
    exact u1_
  · rw [hM_]
    have u1_ : (M166_.1 (12, 0, 0) 7).toInt = -1 := by rw [hF170_ _ _ (by simp [S_c_X12_finding])]; exact h0
    exact u1_
  · rw [hM_]
    have u1_ : (M175_.1 (12, 0, 0) 7).toInt = -1 := by rw [hF179_ _ _ (by simp [S_c_X12_finding])]; exact h0
    exact u1_
  · rw [hM_]
    have u1_ : (M184_.1 (12, 0, 0) 7).toInt = -1 := by rw [hF188_ _ _ (by simp [S_c_X12_finding])]; exact h0
    exact u1_
theorem USP_X12_posts {v : Int32} {u : Int32} {t : Int32} {s : Int32} {Mz : mM} {r_ : Int32} {M_ : mM} (h : SP_X12_posts v u t s Mz r_ M_) (h0 : (Mz.1 (12, 0, 0) 7).toInt = -1) : (M_.1 (12, 0, 0) 7).toInt = -1 := by
  unfold SP_X12_posts at h
  rcases h with (⟨hs5_, h4_, (⟨hs11_, h10_, (⟨hs17_, h16_, (⟨hs23_, h22_, j27_, h28_, z25_, e26_, (⟨h29_, M31_, -, hF35_, r30_, hs37_, h33_, hr_, hM_⟩ | ⟨h29_, j40_, h41_, z38_, e39_, (⟨h42_, (⟨hs47_, h46_, (⟨hs53_, h52_, M55_, hM56_, v5_98, hv0_98, M_98, hL_98, -, hF_98, j64_, h65_, z62_, e63_, h66_, h67_, h68_, M69_, hM70_, v6_204, hv0_204, v5_204, hL_204, j78_, h79_, z76_, e77_, h80_, h81_, z82_, h83_, h84_, (⟨h85_, (⟨h86_, hr_, hM_⟩ | ⟨h86_, -, r87_, hs91_, hr_, hM_⟩)⟩ | ⟨h85_, -, M93_, -, hF97_, r92_, hs99_, h95_, hr_, hM_⟩)⟩ | ⟨hs53_, M222_, -, hF226_, r221_, hs228_, h224_, hr_, hM_⟩)⟩ | ⟨hs47_, M232_, -, hF236_, r231_, hs238_, h234_, hr_, hM_⟩)⟩ | ⟨h42_, M240_, -, hF244_, r239_, hs246_, h242_, hr_, hM_⟩)⟩)⟩ | ⟨hs23_, h22_, M249_, -, hF253_, r248_, hs255_, h251_, hr_, hM_⟩)⟩ | ⟨hs17_, h16_, M258_, -, hF262_, r257_, hs264_, h260_, hr_, hM_⟩)⟩ | ⟨hs11_, h10_, M267_, -, hF271_, r266_, hs273_, h269_, hr_, hM_⟩)⟩ | ⟨hs5_, M276_, -, hF280_, r275_, hs282_, h278_, hr_, hM_⟩)
  · rw [hM_]
    have u1_ : (M31_.1 (12, 0, 0) 7).toInt = -1 := by rw [hF35_ _ _ (by simp [S_c_X12_finding])]; exact h0
    exact u1_
  · rw [hM_]
    have u3_ : (M69_.1 (12, 0, 0) 7).toInt = -1 := by rw [zupE hM70_ rfl rfl]; exact il_m1
    exact u3_
  · rw [hM_]
    have u3_ : (M69_.1 (12, 0, 0) 7).toInt = -1 := by rw [zupE hM70_ rfl rfl]; exact il_m1
    exact u3_
  · rw [hM_]
    have u3_ : (M69_.1 (12, 0, 0) 7).toInt = -1 := by rw [zupE hM70_ rfl rfl]; exact il_m1
    have u4_ : (M93_.1 (12, 0, 0) 7).toInt = -1 := by rw [hF97_ _ _ (by simp [S_c_X12_finding])]; exact u3_
    exact u4_
  · rw [hM_]
    have u1_ : (M222_.1 (12, 0, 0) 7).toInt = -1 := by rw [hF226_ _ _ (by simp [S_c_X12_finding])]; exact h0
    exact u1_
  · rw [hM_]
    have u1_ : (M232_.1 (12, 0, 0) 7).toInt = -1 := by rw [hF236_ _ _ (by simp [S_c_X12_finding])]; exact h0
    exact u1_
  · rw [hM_]
    have u1_ : (M240_.1 (12, 0, 0) 7).toInt = -1 := by rw [hF244_ _ _ (by simp [S_c_X12_finding])]; exact h0
    exact u1_
  · rw [hM_]
    have u1_ : (M249_.1 (12, 0, 0) 7).toInt = -1 := by rw [hF253_ _ _ (by simp [S_c_X12_finding])]; exact h0
    exact u1_
  · rw [hM_]
    have u1_ : (M258_.1 (12, 0, 0) 7).toInt = -1 := by rw [hF262_ _ _ (by simp [S_c_X12_finding])]; exact h0
    exact u1_
  · rw [hM_]
    have u1_ : (M267_.1 (12, 0, 0) 7).toInt = -1 := by rw [hF271_ _ _ (by simp [S_c_X12_finding])]; exact h0
    exact u1_
  · rw [hM_]
    have u1_ : (M276_.1 (12, 0, 0) 7).toInt = -1 := by rw [hF280_ _ _ (by simp [S_c_X12_finding])]; exact h0
    exact u1_
