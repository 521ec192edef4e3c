/-! calls of both -/
theorem x7room {b : Nat} {M : mM} {r : Int32} (h : SP_X7_hasRoom b M r) : (r.toInt = 0 ∧ 40 ≤ (M.1 (7, b, 0) 5).toInt) ∨ (r.toInt = 1 ∧ (M.1 (7, b, 0) 5).toInt < 40) := by
  have q0 := il_0
  have q1 := il_1
  unfold SP_X7_hasRoom at h
  rcases h with ⟨z1_, e2_, (⟨h3_, hr_⟩ | ⟨h3_, hr_⟩)⟩
  all_goals (have y1 := eT e2_; have y2 := eT hr_; omega)
theorem is1x {v : Int32} {M : mM} {r : Int32} (h : SP_is1 v M r) : (r.toInt = 1 ∧ 0 ≤ v.toInt ∧ v.toInt < (M.1 (50, 0, 0) 1).toInt) ∨ (r.toInt = 0 ∧ ¬ (0 ≤ v.toInt ∧ v.toInt < (M.1 (50, 0, 0) 1).toInt)) := by
  have q0 := il_0
  have q1 := il_1
  unfold SP_is1 at h
  rcases h with ⟨z1_, e2_, h3_, z4_, h5_, (⟨hs10_, h9_, hr_⟩ | ⟨hs10_, h9_, hr_⟩)⟩
  all_goals (have y1 := eT e2_; have y2 := eT hr_; omega)
theorem is2x {v : Int32} {M : mM} {r : Int32} (h : SP_is2 v M r) : (r.toInt = 1 ∧ 0 ≤ v.toInt ∧ v.toInt < (M.1 (50, 0, 0) 2).toInt) ∨ (r.toInt = 0 ∧ ¬ (0 ≤ v.toInt ∧ v.toInt < (M.1 (50, 0, 0) 2).toInt)) := by
  have q0 := il_0
  have q1 := il_1
  unfold SP_is2 at h
  rcases h with ⟨z1_, e2_, h3_, z4_, h5_, (⟨hs10_, h9_, hr_⟩ | ⟨hs10_, h9_, hr_⟩)⟩
  all_goals (have y1 := eT e2_; have y2 := eT hr_; omega)
theorem sameE {M Mc M1 D Dc D2 : mM} (h : RW 0 M.1 (D.1 (50, 0, 0))) (hN : NW5 (D.1 (50, 0, 0))) (hc : FR S_c_X11_error M Mc) (h1 : M1 = Mc) (hd : FR S_c_X12_finding D Dc) (h2 : D2 = Dc) : RW 0 M1.1 (D2.1 (50, 0, 0)) := by
  have e : D2.1 (50, 0, 0) = D.1 (50, 0, 0) := funext fun k => by rw [h2]; exact hd _ _ (by simp [S_c_X12_finding])
  rw [e, h1]
  exact RW_same h hN (fun c k w _ => hc c k (fun q => by unfold wR at w; simp only [S_c_X11_error, or_false] at q; omega))
theorem x12bec {v u : Int32} {M M' : mM} {r : Int32} (h : SP_X12_become v u M r M') : r = M.1 (50, 0, 0) v.toInt.toNat ∧ M' = up M (50, 0, 0) v.toInt.toNat u := by
  unfold SP_X12_become at h
  rcases h with ⟨j3_, h4_, z1_, e2_, j7_, h8_, M5_, hM6_, hr_, hM_⟩
  obtain rfl : j3_ = v.toInt.toNat := by omega
  obtain rfl : j7_ = v.toInt.toNat := by omega
  exact ⟨by rw [hr_, e2_], by rw [hM_, hM6_]⟩
/-- what both hold of a thing, of a walker -/
theorem TB {q : rf → Nat → Int32} {n : Nat → Int32} (h : RW 0 q n) (v : Int32) : ¬ (0 ≤ v.toInt ∧ v.toInt < (n 1).toInt) ∨ ((q (36, 0, 0) v.toInt.toNat).toInt = (n (20 + 4 * v.toInt.toNat)).toInt ∧ (q (37, 0, 0) v.toInt.toNat).toInt = (n (21 + 4 * v.toInt.toNat)).toInt ∧ (q (38, 0, 0) v.toInt.toNat).toInt = (n (22 + 4 * v.toInt.toNat)).toInt ∧ (q (39, 0, 0) v.toInt.toNat).toInt = (n (23 + 4 * v.toInt.toNat)).toInt) := by
  by_cases e : 0 ≤ v.toInt ∧ v.toInt < (n 1).toInt
  · have g := h.1.2.1.2 v.toInt.toNat (by unfold nTh; omega)
    exact Or.inr ⟨eT g.1, eT g.2.1, eT g.2.2.1, eT g.2.2.2⟩
  · exact Or.inl e
theorem WB {q : rf → Nat → Int32} {n : Nat → Int32} (h : RW 0 q n) (v : Int32) : ¬ (0 ≤ v.toInt ∧ v.toInt < (n 2).toInt) ∨ (q (9, 0, v.toInt.toNat) 0 = n (180 + 9 * v.toInt.toNat) ∧ q (9, 0, v.toInt.toNat) 1 = n (181 + 9 * v.toInt.toNat) ∧ q (9, 0, v.toInt.toNat) 2 = n (182 + 9 * v.toInt.toNat) ∧ q (9, 0, v.toInt.toNat) 3 = n (183 + 9 * v.toInt.toNat) ∧ q (9, 0, v.toInt.toNat) 4 = n (184 + 9 * v.toInt.toNat) ∧ q (9, 0, v.toInt.toNat) 5 = n (185 + 9 * v.toInt.toNat) ∧ q (9, 0, v.toInt.toNat) 6 = n (186 + 9 * v.toInt.toNat) ∧ q (9, 0, v.toInt.toNat) 7 = n (187 + 9 * v.toInt.toNat) ∧ q (9, 0, v.toInt.toNat) 8 = n (188 + 9 * v.toInt.toNat)) := by
  by_cases e : 0 ≤ v.toInt ∧ v.toInt < (n 2).toInt
  · have g := (h.1.2.2.1.2 v.toInt.toNat (by unfold nWa; omega)).1
    refine Or.inr ⟨g 0 (by omega), ?_, ?_, ?_, ?_, ?_, ?_, ?_, ?_⟩
    · rw [g 1 (by omega), show 180 + 9 * v.toInt.toNat + 1 = 181 + 9 * v.toInt.toNat by omega]
    · rw [g 2 (by omega), show 180 + 9 * v.toInt.toNat + 2 = 182 + 9 * v.toInt.toNat by omega]
    · rw [g 3 (by omega), show 180 + 9 * v.toInt.toNat + 3 = 183 + 9 * v.toInt.toNat by omega]
    · rw [g 4 (by omega), show 180 + 9 * v.toInt.toNat + 4 = 184 + 9 * v.toInt.toNat by omega]
    · rw [g 5 (by omega), show 180 + 9 * v.toInt.toNat + 5 = 185 + 9 * v.toInt.toNat by omega]
    · rw [g 6 (by omega), show 180 + 9 * v.toInt.toNat + 6 = 186 + 9 * v.toInt.toNat by omega]
    · rw [g 7 (by omega), show 180 + 9 * v.toInt.toNat + 7 = 187 + 9 * v.toInt.toNat by omega]
    · rw [g 8 (by omega), show 180 + 9 * v.toInt.toNat + 8 = 188 + 9 * v.toInt.toNat by omega]
  · exact Or.inl e

theorem cb_2 {v : Int32} {u : Int32} {t : Int32} {M M1 D D2 : mM} {r1 r2 : Int32} (h1 : SP_X11_moves v u t M r1 M1) (h2 : SP_X12_moves v u t D r2 D2) (hR : RW 0 M.1 (D.1 (50, 0, 0))) (hD : InvD D) (hu : (D.1 (12, 0, 0) 7).toInt = -1) : RW 0 M1.1 (D2.1 (50, 0, 0)) ∧ r1 = r2 := by
  have q0 := il_0
  have q1 := il_1
  have bT := eT hR.1.2.1.1
  have bW := eT hR.1.2.2.1.1
  have nT := nTh_b hD.2.1
  have nW := nWa_b hD.2.1
  unfold nTh at nT
  unfold nWa at nW
  have T := TB hR v
  unfold SP_X11_moves at h1
  rcases h1 with (⟨c_hs5_, c_h4_, (⟨c_hs11_, c_h10_, (⟨c_hs17_, c_h16_, c_j21_, c_h22_, c_z19_, c_e20_, (⟨c_h23_, c_j26_, c_h27_, c_z24_, c_e25_, (⟨c_h28_, c_j31_, c_h32_, c_M29_, c_hM30_, c_j37_, c_h38_, c_M35_, c_hM36_, c_hr_, c_hM_⟩ | ⟨c_h28_, c_M42_, -, c_hF46_, c_r41_, c_hs48_, c_hr_, c_hM_⟩)⟩ | ⟨c_h23_, c_M50_, -, c_hF54_, c_r49_, c_hs56_, c_hr_, c_hM_⟩)⟩ | ⟨c_hs17_, c_h16_, c_M59_, -, c_hF63_, c_r58_, c_hs65_, c_hr_, c_hM_⟩)⟩ | ⟨c_hs11_, c_h10_, c_M68_, -, c_hF72_, c_r67_, c_hs74_, c_hr_, c_hM_⟩)⟩ | ⟨c_hs5_, c_M77_, -, c_hF81_, c_r76_, c_hs83_, c_hr_, c_hM_⟩)
  · obtain rfl : c_j21_ = v.toInt.toNat := by omega
    obtain rfl : c_j26_ = v.toInt.toNat := by omega
    obtain rfl : c_j31_ = v.toInt.toNat := by omega
    obtain rfl : c_j37_ = v.toInt.toNat := by omega
    have qc_hs5_ := x7has c_hs5_
    have yc_e20_ := eT c_e20_
    have yc_e25_ := eT c_e25_
    have yrc_ := eT c_hr_
    unfold SP_X12_moves at h2
    rcases h2 with (⟨d_hs5_, d_h4_, (⟨d_hs11_, d_h10_, (⟨d_hs17_, d_h16_, d_r19_, d_hs23_, d_h22_, d_z24_, d_h25_, d_j28_, d_h29_, d_z26_, d_e27_, d_h30_, (⟨d_h31_, d_r32_, d_hs36_, d_h35_, d_z37_, d_h38_, d_j41_, d_h42_, d_z39_, d_e40_, d_h43_, (⟨d_h44_, d_r45_, d_hs49_, d_h48_, d_z50_, d_h51_, d_j54_, d_h55_, d_M52_, d_hM53_, -, d_r58_, d_hs62_, d_h61_, d_z63_, d_h64_, d_j67_, d_h68_, d_M65_, d_hM66_, d_hr_, d_hM_⟩ | ⟨d_h44_, d_M72_, -, d_hF76_, d_r71_, d_hs78_, d_h74_, d_hr_, d_hM_⟩)⟩ | ⟨d_h31_, d_M80_, -, d_hF84_, d_r79_, d_hs86_, d_h82_, d_hr_, d_hM_⟩)⟩ | ⟨d_hs17_, d_h16_, d_M89_, -, d_hF93_, d_r88_, d_hs95_, d_h91_, d_hr_, d_hM_⟩)⟩ | ⟨d_hs11_, d_h10_, d_M98_, -, d_hF102_, d_r97_, d_hs104_, d_h100_, d_hr_, d_hM_⟩)⟩ | ⟨d_hs5_, d_M107_, -, d_hF111_, d_r106_, d_hs113_, d_h109_, d_hr_, d_hM_⟩)
    · obtain rfl : d_j28_ = 20 + 4 * v.toInt.toNat := by omega
      obtain rfl : d_j41_ = 21 + 4 * v.toInt.toNat := by omega
      obtain rfl : d_j54_ = 22 + 4 * v.toInt.toNat := by omega
      obtain rfl : d_j67_ = 23 + 4 * v.toInt.toNat := by omega
      have qd_hs5_ := is1x d_hs5_
      have yd_e27_ := eT d_e27_
      have yd_e40_ := eT d_e40_
      have yrd_ := eT d_hr_
      have hv : 0 ≤ v.toInt ∧ v.toInt < (D.1 (50, 0, 0) 1).toInt := by omega
      refine ⟨RW_of hR hD.2.1 (WRR_thf (t := v.toInt.toNat) hR.1 hD.2.1 (by unfold nTh; omega) (fun c k e1 e2 => ?_) (fun j hj => ?_) ⟨?_, ?_, ?_⟩ ⟨?_, ?_⟩) (fun c k hc => ?_) (fun j hj => ?_), by rw [c_hr_, d_hr_]⟩
      · rw [c_hM_, zupN c_hM36_ (fun z => e1 ⟨Or.inr (Or.inr z.1), z.2⟩), zupN c_hM30_ (fun z => e1 ⟨Or.inr (Or.inl z.1), z.2⟩)]
      · rw [d_hM_, zupN d_hM66_ (fun z => by have := z.2; omega), zupN d_hM53_ (fun z => by have := z.2; omega)]
      · rw [c_hM_, zupR c_hM36_ (by simp), zupR c_hM30_ (by simp), d_hM_, zupN d_hM66_ (fun z => by have := z.2; omega), zupN d_hM53_ (fun z => by have := z.2; omega)]; exact i32e (by omega)
      · rw [c_hM_, zupR c_hM36_ (by simp), zupE c_hM30_ rfl rfl, d_hM_, zupN d_hM66_ (fun z => by have := z.2; omega), zupE d_hM53_ rfl rfl]
      · rw [c_hM_, zupE c_hM36_ rfl rfl, d_hM_, zupE d_hM66_ rfl rfl]
      · rw [d_hM_, zupE d_hM66_ rfl rfl]; omega
      · rw [d_hM_, zupN d_hM66_ (fun z => by have := z.2; omega), zupN d_hM53_ (fun z => by have := z.2; omega)]; intro z; omega
      · rw [c_hM_, zupR c_hM36_ (by dsimp only; omega), zupR c_hM30_ (by dsimp only; omega)]
      · rw [d_hM_, zupN d_hM66_ (fun z => by have := z.2; omega), zupN d_hM53_ (fun z => by have := z.2; omega)]
    · obtain rfl : d_j28_ = 20 + 4 * v.toInt.toNat := by omega
      obtain rfl : d_j41_ = 21 + 4 * v.toInt.toNat := by omega
      have qd_hs5_ := is1x d_hs5_
      have yd_e27_ := eT d_e27_
      have yd_e40_ := eT d_e40_
      have yrd_ := eT d_hr_
      exfalso; omega
    · obtain rfl : d_j28_ = 20 + 4 * v.toInt.toNat := by omega
      have qd_hs5_ := is1x d_hs5_
      have yd_e27_ := eT d_e27_
      have yrd_ := eT d_hr_
      exfalso; omega
    · have qd_hs5_ := is1x d_hs5_
      have yrd_ := eT d_hr_
      exfalso; omega
    · have qd_hs5_ := is1x d_hs5_
      have yrd_ := eT d_hr_
      exfalso; omega
    · have qd_hs5_ := is1x d_hs5_
      have yrd_ := eT d_hr_
      exfalso; omega
  · obtain rfl : c_j21_ = v.toInt.toNat := by omega
    obtain rfl : c_j26_ = v.toInt.toNat := by omega
    have qc_hs5_ := x7has c_hs5_
    have yc_e20_ := eT c_e20_
    have yc_e25_ := eT c_e25_
    have qc_hs48_ := err3 c_hs48_
    have yrc_ := eT c_hr_
    unfold SP_X12_moves at h2
    rcases h2 with (⟨d_hs5_, d_h4_, (⟨d_hs11_, d_h10_, (⟨d_hs17_, d_h16_, d_r19_, d_hs23_, d_h22_, d_z24_, d_h25_, d_j28_, d_h29_, d_z26_, d_e27_, d_h30_, (⟨d_h31_, d_r32_, d_hs36_, d_h35_, d_z37_, d_h38_, d_j41_, d_h42_, d_z39_, d_e40_, d_h43_, (⟨d_h44_, d_r45_, d_hs49_, d_h48_, d_z50_, d_h51_, d_j54_, d_h55_, d_M52_, d_hM53_, -, d_r58_, d_hs62_, d_h61_, d_z63_, d_h64_, d_j67_, d_h68_, d_M65_, d_hM66_, d_hr_, d_hM_⟩ | ⟨d_h44_, d_M72_, -, d_hF76_, d_r71_, d_hs78_, d_h74_, d_hr_, d_hM_⟩)⟩ | ⟨d_h31_, d_M80_, -, d_hF84_, d_r79_, d_hs86_, d_h82_, d_hr_, d_hM_⟩)⟩ | ⟨d_hs17_, d_h16_, d_M89_, -, d_hF93_, d_r88_, d_hs95_, d_h91_, d_hr_, d_hM_⟩)⟩ | ⟨d_hs11_, d_h10_, d_M98_, -, d_hF102_, d_r97_, d_hs104_, d_h100_, d_hr_, d_hM_⟩)⟩ | ⟨d_hs5_, d_M107_, -, d_hF111_, d_r106_, d_hs113_, d_h109_, d_hr_, d_hM_⟩)
    · obtain rfl : d_j28_ = 20 + 4 * v.toInt.toNat := by omega
      obtain rfl : d_j41_ = 21 + 4 * v.toInt.toNat := by omega
      obtain rfl : d_j54_ = 22 + 4 * v.toInt.toNat := by omega
      obtain rfl : d_j67_ = 23 + 4 * v.toInt.toNat := by omega
      have qd_hs5_ := is1x d_hs5_
      have yd_e27_ := eT d_e27_
      have yd_e40_ := eT d_e40_
      have yrd_ := eT d_hr_
      exfalso; omega
    · obtain rfl : d_j28_ = 20 + 4 * v.toInt.toNat := by omega
      obtain rfl : d_j41_ = 21 + 4 * v.toInt.toNat := by omega
      have qd_hs5_ := is1x d_hs5_
      have yd_e27_ := eT d_e27_
      have yd_e40_ := eT d_e40_
      have yrd_ := eT d_hr_
      exact ⟨sameE hR hD.2.1 c_hF46_ c_hM_ d_hF76_ d_hM_, i32e (by omega)⟩
    · obtain rfl : d_j28_ = 20 + 4 * v.toInt.toNat := by omega
      have qd_hs5_ := is1x d_hs5_
      have yd_e27_ := eT d_e27_
      have yrd_ := eT d_hr_
      exfalso; omega
    · have qd_hs5_ := is1x d_hs5_
      have yrd_ := eT d_hr_
      exfalso; omega
    · have qd_hs5_ := is1x d_hs5_
      have yrd_ := eT d_hr_
      exfalso; omega
    · have qd_hs5_ := is1x d_hs5_
      have yrd_ := eT d_hr_
      exfalso; omega
  · obtain rfl : c_j21_ = v.toInt.toNat := by omega
    have qc_hs5_ := x7has c_hs5_
    have yc_e20_ := eT c_e20_
    have qc_hs56_ := err5 c_hs56_
    have yrc_ := eT c_hr_
    unfold SP_X12_moves at h2
    rcases h2 with (⟨d_hs5_, d_h4_, (⟨d_hs11_, d_h10_, (⟨d_hs17_, d_h16_, d_r19_, d_hs23_, d_h22_, d_z24_, d_h25_, d_j28_, d_h29_, d_z26_, d_e27_, d_h30_, (⟨d_h31_, d_r32_, d_hs36_, d_h35_, d_z37_, d_h38_, d_j41_, d_h42_, d_z39_, d_e40_, d_h43_, (⟨d_h44_, d_r45_, d_hs49_, d_h48_, d_z50_, d_h51_, d_j54_, d_h55_, d_M52_, d_hM53_, -, d_r58_, d_hs62_, d_h61_, d_z63_, d_h64_, d_j67_, d_h68_, d_M65_, d_hM66_, d_hr_, d_hM_⟩ | ⟨d_h44_, d_M72_, -, d_hF76_, d_r71_, d_hs78_, d_h74_, d_hr_, d_hM_⟩)⟩ | ⟨d_h31_, d_M80_, -, d_hF84_, d_r79_, d_hs86_, d_h82_, d_hr_, d_hM_⟩)⟩ | ⟨d_hs17_, d_h16_, d_M89_, -, d_hF93_, d_r88_, d_hs95_, d_h91_, d_hr_, d_hM_⟩)⟩ | ⟨d_hs11_, d_h10_, d_M98_, -, d_hF102_, d_r97_, d_hs104_, d_h100_, d_hr_, d_hM_⟩)⟩ | ⟨d_hs5_, d_M107_, -, d_hF111_, d_r106_, d_hs113_, d_h109_, d_hr_, d_hM_⟩)
    · obtain rfl : d_j28_ = 20 + 4 * v.toInt.toNat := by omega
      obtain rfl : d_j41_ = 21 + 4 * v.toInt.toNat := by omega
      obtain rfl : d_j54_ = 22 + 4 * v.toInt.toNat := by omega
      obtain rfl : d_j67_ = 23 + 4 * v.toInt.toNat := by omega
      have qd_hs5_ := is1x d_hs5_
      have yd_e27_ := eT d_e27_
      have yd_e40_ := eT d_e40_
      have yrd_ := eT d_hr_
      exfalso; omega
    · obtain rfl : d_j28_ = 20 + 4 * v.toInt.toNat := by omega
      obtain rfl : d_j41_ = 21 + 4 * v.toInt.toNat := by omega
      have qd_hs5_ := is1x d_hs5_
      have yd_e27_ := eT d_e27_
      have yd_e40_ := eT d_e40_
      have yrd_ := eT d_hr_
      exfalso; omega
    · obtain rfl : d_j28_ = 20 + 4 * v.toInt.toNat := by omega
      have qd_hs5_ := is1x d_hs5_
      have yd_e27_ := eT d_e27_
      have yrd_ := eT d_hr_
      exact ⟨sameE hR hD.2.1 c_hF54_ c_hM_ d_hF84_ d_hM_, i32e (by omega)⟩
    · have qd_hs5_ := is1x d_hs5_
      have yrd_ := eT d_hr_
      exfalso; omega
    · have qd_hs5_ := is1x d_hs5_
      have yrd_ := eT d_hr_
      exfalso; omega
    · have qd_hs5_ := is1x d_hs5_
      have yrd_ := eT d_hr_
      exfalso; omega
  · have qc_hs5_ := x7has c_hs5_
    have qc_hs65_ := err1 c_hs65_
    have yrc_ := eT c_hr_
    unfold SP_X12_moves at h2
    rcases h2 with (⟨d_hs5_, d_h4_, (⟨d_hs11_, d_h10_, (⟨d_hs17_, d_h16_, d_r19_, d_hs23_, d_h22_, d_z24_, d_h25_, d_j28_, d_h29_, d_z26_, d_e27_, d_h30_, (⟨d_h31_, d_r32_, d_hs36_, d_h35_, d_z37_, d_h38_, d_j41_, d_h42_, d_z39_, d_e40_, d_h43_, (⟨d_h44_, d_r45_, d_hs49_, d_h48_, d_z50_, d_h51_, d_j54_, d_h55_, d_M52_, d_hM53_, -, d_r58_, d_hs62_, d_h61_, d_z63_, d_h64_, d_j67_, d_h68_, d_M65_, d_hM66_, d_hr_, d_hM_⟩ | ⟨d_h44_, d_M72_, -, d_hF76_, d_r71_, d_hs78_, d_h74_, d_hr_, d_hM_⟩)⟩ | ⟨d_h31_, d_M80_, -, d_hF84_, d_r79_, d_hs86_, d_h82_, d_hr_, d_hM_⟩)⟩ | ⟨d_hs17_, d_h16_, d_M89_, -, d_hF93_, d_r88_, d_hs95_, d_h91_, d_hr_, d_hM_⟩)⟩ | ⟨d_hs11_, d_h10_, d_M98_, -, d_hF102_, d_r97_, d_hs104_, d_h100_, d_hr_, d_hM_⟩)⟩ | ⟨d_hs5_, d_M107_, -, d_hF111_, d_r106_, d_hs113_, d_h109_, d_hr_, d_hM_⟩)
    · obtain rfl : d_j28_ = 20 + 4 * v.toInt.toNat := by omega
      obtain rfl : d_j41_ = 21 + 4 * v.toInt.toNat := by omega
      obtain rfl : d_j54_ = 22 + 4 * v.toInt.toNat := by omega
      obtain rfl : d_j67_ = 23 + 4 * v.toInt.toNat := by omega
      have qd_hs5_ := is1x d_hs5_
      have yd_e27_ := eT d_e27_
      have yd_e40_ := eT d_e40_
      have yrd_ := eT d_hr_
      exfalso; omega
    · obtain rfl : d_j28_ = 20 + 4 * v.toInt.toNat := by omega
      obtain rfl : d_j41_ = 21 + 4 * v.toInt.toNat := by omega
      have qd_hs5_ := is1x d_hs5_
      have yd_e27_ := eT d_e27_
      have yd_e40_ := eT d_e40_
      have yrd_ := eT d_hr_
      exfalso; omega
    · obtain rfl : d_j28_ = 20 + 4 * v.toInt.toNat := by omega
      have qd_hs5_ := is1x d_hs5_
      have yd_e27_ := eT d_e27_
      have yrd_ := eT d_hr_
      exfalso; omega
    · have qd_hs5_ := is1x d_hs5_
      have yrd_ := eT d_hr_
      exact ⟨sameE hR hD.2.1 c_hF63_ c_hM_ d_hF93_ d_hM_, i32e (by omega)⟩
    · have qd_hs5_ := is1x d_hs5_
      have yrd_ := eT d_hr_
      exact ⟨sameE hR hD.2.1 c_hF63_ c_hM_ d_hF102_ d_hM_, i32e (by omega)⟩
    · have qd_hs5_ := is1x d_hs5_
      have yrd_ := eT d_hr_
      exact ⟨sameE hR hD.2.1 c_hF63_ c_hM_ d_hF111_ d_hM_, i32e (by omega)⟩
  · have qc_hs5_ := x7has c_hs5_
    have qc_hs74_ := err1 c_hs74_
    have yrc_ := eT c_hr_
    unfold SP_X12_moves at h2
    rcases h2 with (⟨d_hs5_, d_h4_, (⟨d_hs11_, d_h10_, (⟨d_hs17_, d_h16_, d_r19_, d_hs23_, d_h22_, d_z24_, d_h25_, d_j28_, d_h29_, d_z26_, d_e27_, d_h30_, (⟨d_h31_, d_r32_, d_hs36_, d_h35_, d_z37_, d_h38_, d_j41_, d_h42_, d_z39_, d_e40_, d_h43_, (⟨d_h44_, d_r45_, d_hs49_, d_h48_, d_z50_, d_h51_, d_j54_, d_h55_, d_M52_, d_hM53_, -, d_r58_, d_hs62_, d_h61_, d_z63_, d_h64_, d_j67_, d_h68_, d_M65_, d_hM66_, d_hr_, d_hM_⟩ | ⟨d_h44_, d_M72_, -, d_hF76_, d_r71_, d_hs78_, d_h74_, d_hr_, d_hM_⟩)⟩ | ⟨d_h31_, d_M80_, -, d_hF84_, d_r79_, d_hs86_, d_h82_, d_hr_, d_hM_⟩)⟩ | ⟨d_hs17_, d_h16_, d_M89_, -, d_hF93_, d_r88_, d_hs95_, d_h91_, d_hr_, d_hM_⟩)⟩ | ⟨d_hs11_, d_h10_, d_M98_, -, d_hF102_, d_r97_, d_hs104_, d_h100_, d_hr_, d_hM_⟩)⟩ | ⟨d_hs5_, d_M107_, -, d_hF111_, d_r106_, d_hs113_, d_h109_, d_hr_, d_hM_⟩)
    · obtain rfl : d_j28_ = 20 + 4 * v.toInt.toNat := by omega
      obtain rfl : d_j41_ = 21 + 4 * v.toInt.toNat := by omega
      obtain rfl : d_j54_ = 22 + 4 * v.toInt.toNat := by omega
      obtain rfl : d_j67_ = 23 + 4 * v.toInt.toNat := by omega
      have qd_hs5_ := is1x d_hs5_
      have yd_e27_ := eT d_e27_
      have yd_e40_ := eT d_e40_
      have yrd_ := eT d_hr_
      exfalso; omega
    · obtain rfl : d_j28_ = 20 + 4 * v.toInt.toNat := by omega
      obtain rfl : d_j41_ = 21 + 4 * v.toInt.toNat := by omega
      have qd_hs5_ := is1x d_hs5_
      have yd_e27_ := eT d_e27_
      have yd_e40_ := eT d_e40_
      have yrd_ := eT d_hr_
      exfalso; omega
    · obtain rfl : d_j28_ = 20 + 4 * v.toInt.toNat := by omega
      have qd_hs5_ := is1x d_hs5_
      have yd_e27_ := eT d_e27_
      have yrd_ := eT d_hr_
      exfalso; omega
    · have qd_hs5_ := is1x d_hs5_
      have yrd_ := eT d_hr_
      exact ⟨sameE hR hD.2.1 c_hF72_ c_hM_ d_hF93_ d_hM_, i32e (by omega)⟩
    · have qd_hs5_ := is1x d_hs5_
      have yrd_ := eT d_hr_
      exact ⟨sameE hR hD.2.1 c_hF72_ c_hM_ d_hF102_ d_hM_, i32e (by omega)⟩
    · have qd_hs5_ := is1x d_hs5_
      have yrd_ := eT d_hr_
      exact ⟨sameE hR hD.2.1 c_hF72_ c_hM_ d_hF111_ d_hM_, i32e (by omega)⟩
  · have qc_hs5_ := x7has c_hs5_
    have qc_hs83_ := err1 c_hs83_
    have yrc_ := eT c_hr_
    unfold SP_X12_moves at h2
    rcases h2 with (⟨d_hs5_, d_h4_, (⟨d_hs11_, d_h10_, (⟨d_hs17_, d_h16_, d_r19_, d_hs23_, d_h22_, d_z24_, d_h25_, d_j28_, d_h29_, d_z26_, d_e27_, d_h30_, (⟨d_h31_, d_r32_, d_hs36_, d_h35_, d_z37_, d_h38_, d_j41_, d_h42_, d_z39_, d_e40_, d_h43_, (⟨d_h44_, d_r45_, d_hs49_, d_h48_, d_z50_, d_h51_, d_j54_, d_h55_, d_M52_, d_hM53_, -, d_r58_, d_hs62_, d_h61_, d_z63_, d_h64_, d_j67_, d_h68_, d_M65_, d_hM66_, d_hr_, d_hM_⟩ | ⟨d_h44_, d_M72_, -, d_hF76_, d_r71_, d_hs78_, d_h74_, d_hr_, d_hM_⟩)⟩ | ⟨d_h31_, d_M80_, -, d_hF84_, d_r79_, d_hs86_, d_h82_, d_hr_, d_hM_⟩)⟩ | ⟨d_hs17_, d_h16_, d_M89_, -, d_hF93_, d_r88_, d_hs95_, d_h91_, d_hr_, d_hM_⟩)⟩ | ⟨d_hs11_, d_h10_, d_M98_, -, d_hF102_, d_r97_, d_hs104_, d_h100_, d_hr_, d_hM_⟩)⟩ | ⟨d_hs5_, d_M107_, -, d_hF111_, d_r106_, d_hs113_, d_h109_, d_hr_, d_hM_⟩)
    · obtain rfl : d_j28_ = 20 + 4 * v.toInt.toNat := by omega
      obtain rfl : d_j41_ = 21 + 4 * v.toInt.toNat := by omega
      obtain rfl : d_j54_ = 22 + 4 * v.toInt.toNat := by omega
      obtain rfl : d_j67_ = 23 + 4 * v.toInt.toNat := by omega
      have qd_hs5_ := is1x d_hs5_
      have yd_e27_ := eT d_e27_
      have yd_e40_ := eT d_e40_
      have yrd_ := eT d_hr_
      exfalso; omega
    · obtain rfl : d_j28_ = 20 + 4 * v.toInt.toNat := by omega
      obtain rfl : d_j41_ = 21 + 4 * v.toInt.toNat := by omega
      have qd_hs5_ := is1x d_hs5_
      have yd_e27_ := eT d_e27_
      have yd_e40_ := eT d_e40_
      have yrd_ := eT d_hr_
      exfalso; omega
    · obtain rfl : d_j28_ = 20 + 4 * v.toInt.toNat := by omega
      have qd_hs5_ := is1x d_hs5_
      have yd_e27_ := eT d_e27_
      have yrd_ := eT d_hr_
      exfalso; omega
    · have qd_hs5_ := is1x d_hs5_
      have yrd_ := eT d_hr_
      exact ⟨sameE hR hD.2.1 c_hF81_ c_hM_ d_hF93_ d_hM_, i32e (by omega)⟩
    · have qd_hs5_ := is1x d_hs5_
      have yrd_ := eT d_hr_
      exact ⟨sameE hR hD.2.1 c_hF81_ c_hM_ d_hF102_ d_hM_, i32e (by omega)⟩
    · have qd_hs5_ := is1x d_hs5_
      have yrd_ := eT d_hr_
      exact ⟨sameE hR hD.2.1 c_hF81_ c_hM_ d_hF111_ d_hM_, i32e (by omega)⟩
theorem x2click {u t : Int32} {M : mM} {r : Int32} (h : SP_X2_isClick u t M r) : (r.toInt = 1 ∧ (1 ≤ u.toInt ∧ u.toInt ≤ 9) ∧ (1 ≤ t.toInt ∧ t.toInt ≤ 99)) ∨ (r.toInt = 0 ∧ ¬ ((1 ≤ u.toInt ∧ u.toInt ≤ 9) ∧ (1 ≤ t.toInt ∧ t.toInt ≤ 99))) := by
  have q0 := il_0
  have q1 := il_1
  unfold SP_X2_isClick at h
  rcases h with (⟨hs5_, h4_, (⟨hs11_, h10_, hr_⟩ | ⟨hs11_, h10_, hr_⟩)⟩ | ⟨hs5_, h4_, hr_⟩)
  all_goals (have y2 := eT hr_; omega)
theorem cb_11 {v : Int32} {u : Int32} {t : Int32} {s : Int32} {M M1 D D2 : mM} {r1 r2 : Int32} (h1 : SP_X11_habit v u t s M r1 M1) (h2 : SP_X12_habit v u t s D r2 D2) (hR : RW 0 M.1 (D.1 (50, 0, 0))) (hD : InvD D) (hu : (D.1 (12, 0, 0) 7).toInt = -1) : RW 0 M1.1 (D2.1 (50, 0, 0)) ∧ r1 = r2 := by
  have q0 := il_0
  have q1 := il_1
  have bT := eT hR.1.2.1.1
  have bW := eT hR.1.2.2.1.1
  have nT := nTh_b hD.2.1
  have nW := nWa_b hD.2.1
  unfold nTh at nT
  unfold nWa at nW
  have T := WB hR v
  unfold SP_X11_habit at h1
  rcases h1 with (⟨c_hs5_, c_h4_, c_r7_, c_hs11_, c_h10_, (⟨c_h12_, c_M14_, -, c_hF18_, c_r13_, c_hs20_, c_hr_, c_hM_⟩ | ⟨c_h12_, (⟨c_hs25_, c_h24_, c_j27_, c_h28_, c_h29_, c_M30_, c_hM31_, c_M34_, c_hM35_, c_M38_, c_hM39_, c_hr_, c_hM_⟩ | ⟨c_hs25_, c_h24_, c_M44_, -, c_hF48_, c_r43_, c_hs50_, c_hr_, c_hM_⟩)⟩)⟩ | ⟨c_hs5_, c_M53_, -, c_hF57_, c_r52_, c_hs59_, c_hr_, c_hM_⟩)
  · have qc_hs5_ := x10has c_hs5_
    have qc_hs11_ := x2click c_hs11_
    have qc_hs20_ := err1 c_hs20_
    have yrc_ := eT c_hr_
    unfold SP_X12_habit at h2
    rcases h2 with (⟨d_hs5_, d_h4_, (⟨d_hs11_, d_h10_, (⟨d_hs17_, d_h16_, (⟨d_hs23_, d_h22_, d_r25_, d_hs29_, d_h28_, d_z30_, d_h31_, d_j34_, d_h35_, d_M32_, d_hM33_, -, d_r38_, d_hs42_, d_h41_, d_z43_, d_h44_, d_j47_, d_h48_, d_M45_, d_hM46_, -, d_r51_, d_hs55_, d_h54_, d_z56_, d_h57_, d_j60_, d_h61_, d_M58_, d_hM59_, d_hr_, d_hM_⟩ | ⟨d_hs23_, d_h22_, d_M66_, -, d_hF70_, d_r65_, d_hs72_, d_h68_, d_hr_, d_hM_⟩)⟩ | ⟨d_hs17_, d_h16_, d_M75_, -, d_hF79_, d_r74_, d_hs81_, d_h77_, d_hr_, d_hM_⟩)⟩ | ⟨d_hs11_, d_h10_, d_M84_, -, d_hF88_, d_r83_, d_hs90_, d_h86_, d_hr_, d_hM_⟩)⟩ | ⟨d_hs5_, d_M93_, -, d_hF97_, d_r92_, d_hs99_, d_h95_, d_hr_, d_hM_⟩)
    · obtain rfl : d_j34_ = 183 + 9 * v.toInt.toNat := by omega
      obtain rfl : d_j47_ = 184 + 9 * v.toInt.toNat := by omega
      obtain rfl : d_j60_ = 185 + 9 * v.toInt.toNat := by omega
      have qd_hs5_ := is2x d_hs5_
      have yrd_ := eT d_hr_
      exfalso; omega
    · have qd_hs5_ := is2x d_hs5_
      have yrd_ := eT d_hr_
      exact ⟨sameE hR hD.2.1 c_hF18_ c_hM_ d_hF70_ d_hM_, i32e (by omega)⟩
    · have qd_hs5_ := is2x d_hs5_
      have yrd_ := eT d_hr_
      exact ⟨sameE hR hD.2.1 c_hF18_ c_hM_ d_hF79_ d_hM_, i32e (by omega)⟩
    · have qd_hs5_ := is2x d_hs5_
      have yrd_ := eT d_hr_
      exact ⟨sameE hR hD.2.1 c_hF18_ c_hM_ d_hF88_ d_hM_, i32e (by omega)⟩
    · have qd_hs5_ := is2x d_hs5_
      have yrd_ := eT d_hr_
      exact ⟨sameE hR hD.2.1 c_hF18_ c_hM_ d_hF97_ d_hM_, i32e (by omega)⟩
  · obtain rfl : c_j27_ = v.toInt.toNat := by omega
    have qc_hs5_ := x10has c_hs5_
    have qc_hs11_ := x2click c_hs11_
    have yrc_ := eT c_hr_
    unfold SP_X12_habit at h2
    rcases h2 with (⟨d_hs5_, d_h4_, (⟨d_hs11_, d_h10_, (⟨d_hs17_, d_h16_, (⟨d_hs23_, d_h22_, d_r25_, d_hs29_, d_h28_, d_z30_, d_h31_, d_j34_, d_h35_, d_M32_, d_hM33_, -, d_r38_, d_hs42_, d_h41_, d_z43_, d_h44_, d_j47_, d_h48_, d_M45_, d_hM46_, -, d_r51_, d_hs55_, d_h54_, d_z56_, d_h57_, d_j60_, d_h61_, d_M58_, d_hM59_, d_hr_, d_hM_⟩ | ⟨d_hs23_, d_h22_, d_M66_, -, d_hF70_, d_r65_, d_hs72_, d_h68_, d_hr_, d_hM_⟩)⟩ | ⟨d_hs17_, d_h16_, d_M75_, -, d_hF79_, d_r74_, d_hs81_, d_h77_, d_hr_, d_hM_⟩)⟩ | ⟨d_hs11_, d_h10_, d_M84_, -, d_hF88_, d_r83_, d_hs90_, d_h86_, d_hr_, d_hM_⟩)⟩ | ⟨d_hs5_, d_M93_, -, d_hF97_, d_r92_, d_hs99_, d_h95_, d_hr_, d_hM_⟩)
    · obtain rfl : d_j34_ = 183 + 9 * v.toInt.toNat := by omega
      obtain rfl : d_j47_ = 184 + 9 * v.toInt.toNat := by omega
      obtain rfl : d_j60_ = 185 + 9 * v.toInt.toNat := by omega
      have qd_hs5_ := is2x d_hs5_
      have yrd_ := eT d_hr_
      have hv : 0 ≤ v.toInt ∧ v.toInt < (D.1 (50, 0, 0) 2).toInt := by omega
      have T := T.resolve_left (fun z => z hv)
      refine ⟨RW_of hR hD.2.1 (WRR_wkf (w := v.toInt.toNat) hR.1 hD.2.1 (by unfold nWa; omega) (fun c k e1 e2 => ?_) (fun j hj => ?_) (fun k hk h1 => ?_) ⟨?_, ?_⟩) (fun c k hc => ?_) (fun j hj => ?_), by rw [c_hr_, d_hr_]⟩
      · rw [c_hM_, zupN c_hM39_ (fun z => e1 ⟨z.1, by omega⟩), zupN c_hM35_ (fun z => e1 ⟨z.1, by omega⟩), zupN c_hM31_ (fun z => e1 ⟨z.1, by omega⟩)]
      · rw [d_hM_, zupN d_hM59_ (fun z => by have := z.2; omega), zupN d_hM46_ (fun z => by have := z.2; omega), zupN d_hM33_ (fun z => by have := z.2; omega)]
      · have w9 := (hR.1.2.2.1.2 v.toInt.toNat (by unfold nWa; omega)).1 k hk
        rw [c_hM_, d_hM_]
        by_cases e5 : k = 5
        · rw [zupE c_hM39_ rfl e5, zupE d_hM59_ rfl (by omega)]
        · rw [zupN c_hM39_ (fun z => e5 z.2), zupN d_hM59_ (fun z => by have := z.2; omega)]
          by_cases e4 : k = 4
          · rw [zupE c_hM35_ rfl e4, zupE d_hM46_ rfl (by omega)]
          · rw [zupN c_hM35_ (fun z => e4 z.2), zupN d_hM46_ (fun z => by have := z.2; omega)]
            by_cases e3 : k = 3
            · rw [zupE c_hM31_ rfl e3, zupE d_hM33_ rfl (by omega)]
            · rw [zupN c_hM31_ (fun z => e3 z.2), zupN d_hM33_ (fun z => by have := z.2; omega)]; exact w9
      · rw [d_hM_, zupN d_hM59_ (fun z => by have := z.2; omega), zupN d_hM46_ (fun z => by have := z.2; omega), zupE d_hM33_ rfl rfl]; omega
      · rw [d_hM_, zupN d_hM59_ (fun z => by have := z.2; omega), zupE d_hM46_ rfl rfl]; omega
      · rw [c_hM_, zupR c_hM39_ (by dsimp only; omega), zupR c_hM35_ (by dsimp only; omega), zupR c_hM31_ (by dsimp only; omega)]
      · rw [d_hM_, zupN d_hM59_ (fun z => by have := z.2; omega), zupN d_hM46_ (fun z => by have := z.2; omega), zupN d_hM33_ (fun z => by have := z.2; omega)]
    · have qd_hs5_ := is2x d_hs5_
      have yrd_ := eT d_hr_
      exfalso; omega
    · have qd_hs5_ := is2x d_hs5_
      have yrd_ := eT d_hr_
      exfalso; omega
    · have qd_hs5_ := is2x d_hs5_
      have yrd_ := eT d_hr_
      exfalso; omega
    · have qd_hs5_ := is2x d_hs5_
      have yrd_ := eT d_hr_
      exfalso; omega
  · have qc_hs5_ := x10has c_hs5_
    have qc_hs11_ := x2click c_hs11_
    have qc_hs50_ := err1 c_hs50_
    have yrc_ := eT c_hr_
    unfold SP_X12_habit at h2
    rcases h2 with (⟨d_hs5_, d_h4_, (⟨d_hs11_, d_h10_, (⟨d_hs17_, d_h16_, (⟨d_hs23_, d_h22_, d_r25_, d_hs29_, d_h28_, d_z30_, d_h31_, d_j34_, d_h35_, d_M32_, d_hM33_, -, d_r38_, d_hs42_, d_h41_, d_z43_, d_h44_, d_j47_, d_h48_, d_M45_, d_hM46_, -, d_r51_, d_hs55_, d_h54_, d_z56_, d_h57_, d_j60_, d_h61_, d_M58_, d_hM59_, d_hr_, d_hM_⟩ | ⟨d_hs23_, d_h22_, d_M66_, -, d_hF70_, d_r65_, d_hs72_, d_h68_, d_hr_, d_hM_⟩)⟩ | ⟨d_hs17_, d_h16_, d_M75_, -, d_hF79_, d_r74_, d_hs81_, d_h77_, d_hr_, d_hM_⟩)⟩ | ⟨d_hs11_, d_h10_, d_M84_, -, d_hF88_, d_r83_, d_hs90_, d_h86_, d_hr_, d_hM_⟩)⟩ | ⟨d_hs5_, d_M93_, -, d_hF97_, d_r92_, d_hs99_, d_h95_, d_hr_, d_hM_⟩)
    · obtain rfl : d_j34_ = 183 + 9 * v.toInt.toNat := by omega
      obtain rfl : d_j47_ = 184 + 9 * v.toInt.toNat := by omega
      obtain rfl : d_j60_ = 185 + 9 * v.toInt.toNat := by omega
      have qd_hs5_ := is2x d_hs5_
      have yrd_ := eT d_hr_
      exfalso; omega
    · have qd_hs5_ := is2x d_hs5_
      have yrd_ := eT d_hr_
      exact ⟨sameE hR hD.2.1 c_hF48_ c_hM_ d_hF70_ d_hM_, i32e (by omega)⟩
    · have qd_hs5_ := is2x d_hs5_
      have yrd_ := eT d_hr_
      exact ⟨sameE hR hD.2.1 c_hF48_ c_hM_ d_hF79_ d_hM_, i32e (by omega)⟩
    · have qd_hs5_ := is2x d_hs5_
      have yrd_ := eT d_hr_
      exact ⟨sameE hR hD.2.1 c_hF48_ c_hM_ d_hF88_ d_hM_, i32e (by omega)⟩
    · have qd_hs5_ := is2x d_hs5_
      have yrd_ := eT d_hr_
      exact ⟨sameE hR hD.2.1 c_hF48_ c_hM_ d_hF97_ d_hM_, i32e (by omega)⟩
  · have qc_hs5_ := x10has c_hs5_
    have qc_hs59_ := err1 c_hs59_
    have yrc_ := eT c_hr_
    unfold SP_X12_habit at h2
    rcases h2 with (⟨d_hs5_, d_h4_, (⟨d_hs11_, d_h10_, (⟨d_hs17_, d_h16_, (⟨d_hs23_, d_h22_, d_r25_, d_hs29_, d_h28_, d_z30_, d_h31_, d_j34_, d_h35_, d_M32_, d_hM33_, -, d_r38_, d_hs42_, d_h41_, d_z43_, d_h44_, d_j47_, d_h48_, d_M45_, d_hM46_, -, d_r51_, d_hs55_, d_h54_, d_z56_, d_h57_, d_j60_, d_h61_, d_M58_, d_hM59_, d_hr_, d_hM_⟩ | ⟨d_hs23_, d_h22_, d_M66_, -, d_hF70_, d_r65_, d_hs72_, d_h68_, d_hr_, d_hM_⟩)⟩ | ⟨d_hs17_, d_h16_, d_M75_, -, d_hF79_, d_r74_, d_hs81_, d_h77_, d_hr_, d_hM_⟩)⟩ | ⟨d_hs11_, d_h10_, d_M84_, -, d_hF88_, d_r83_, d_hs90_, d_h86_, d_hr_, d_hM_⟩)⟩ | ⟨d_hs5_, d_M93_, -, d_hF97_, d_r92_, d_hs99_, d_h95_, d_hr_, d_hM_⟩)
    · obtain rfl : d_j34_ = 183 + 9 * v.toInt.toNat := by omega
      obtain rfl : d_j47_ = 184 + 9 * v.toInt.toNat := by omega
      obtain rfl : d_j60_ = 185 + 9 * v.toInt.toNat := by omega
      have qd_hs5_ := is2x d_hs5_
      have yrd_ := eT d_hr_
      exfalso; omega
    · have qd_hs5_ := is2x d_hs5_
      have yrd_ := eT d_hr_
      exact ⟨sameE hR hD.2.1 c_hF57_ c_hM_ d_hF70_ d_hM_, i32e (by omega)⟩
    · have qd_hs5_ := is2x d_hs5_
      have yrd_ := eT d_hr_
      exact ⟨sameE hR hD.2.1 c_hF57_ c_hM_ d_hF79_ d_hM_, i32e (by omega)⟩
    · have qd_hs5_ := is2x d_hs5_
      have yrd_ := eT d_hr_
      exact ⟨sameE hR hD.2.1 c_hF57_ c_hM_ d_hF88_ d_hM_, i32e (by omega)⟩
    · have qd_hs5_ := is2x d_hs5_
      have yrd_ := eT d_hr_
      exact ⟨sameE hR hD.2.1 c_hF57_ c_hM_ d_hF97_ d_hM_, i32e (by omega)⟩
theorem cb_12 {v : Int32} {u : Int32} {M M1 D D2 : mM} {r1 r2 : Int32} (h1 : SP_X11_face v u M r1 M1) (h2 : SP_X12_face v u D r2 D2) (hR : RW 0 M.1 (D.1 (50, 0, 0))) (hD : InvD D) (hu : (D.1 (12, 0, 0) 7).toInt = -1) : RW 0 M1.1 (D2.1 (50, 0, 0)) ∧ r1 = r2 := by
  have q0 := il_0
  have q1 := il_1
  have bT := eT hR.1.2.1.1
  have bW := eT hR.1.2.2.1.1
  have nT := nTh_b hD.2.1
  have nW := nWa_b hD.2.1
  unfold nTh at nT
  unfold nWa at nW
  have T := WB hR v
  unfold SP_X11_face at h1
  rcases h1 with (⟨c_hs5_, c_h4_, (⟨c_hs11_, c_h10_, c_j13_, c_h14_, c_h15_, c_z16_, c_e17_, c_j18_, c_h19_, c_h20_, c_M21_, c_hM22_, c_hr_, c_hM_⟩ | ⟨c_hs11_, c_h10_, c_M27_, -, c_hF31_, c_r26_, c_hs33_, c_hr_, c_hM_⟩)⟩ | ⟨c_hs5_, c_M36_, -, c_hF40_, c_r35_, c_hs42_, c_hr_, c_hM_⟩)
  · obtain rfl : c_j13_ = v.toInt.toNat := by omega
    obtain rfl : c_j18_ = v.toInt.toNat := by omega
    have qc_hs5_ := x10has c_hs5_
    have yc_e17_ := eT c_e17_
    have yrc_ := eT c_hr_
    unfold SP_X12_face at h2
    rcases h2 with (⟨d_hs5_, d_h4_, (⟨d_hs11_, d_h10_, d_r13_, d_hs17_, d_h16_, d_z18_, d_h19_, d_M21_, -, d_hF25_, d_r20_, d_hs27_, d_hr_, d_hM_⟩ | ⟨d_hs11_, d_h10_, d_M30_, -, d_hF34_, d_r29_, d_hs36_, d_h32_, d_hr_, d_hM_⟩)⟩ | ⟨d_hs5_, d_M39_, -, d_hF43_, d_r38_, d_hs45_, d_h41_, d_hr_, d_hM_⟩)
    · have qd_hs5_ := is2x d_hs5_
      have yrd_ := eT d_hr_
      have hv : 0 ≤ v.toInt ∧ v.toInt < (D.1 (50, 0, 0) 2).toInt := by omega
      have T := T.resolve_left (fun z => z hv)
      have bc := x12bec d_hs27_
      rw [show d_z18_.toInt.toNat = 180 + 9 * v.toInt.toNat + 2 by omega] at bc
      have B := WRR_wf (f := 2) (x := u) hR.1 hD.2.1 (w := v.toInt.toNat) (by unfold nWa; omega) (by omega)
      rw [← c_hM22_, ← bc.2, ← c_hM_, ← d_hM_] at B
      refine ⟨RW_of hR hD.2.1 B (fun c k hc => ?_) (fun j hj => ?_), ?_⟩
      · rw [c_hM_, zupR c_hM22_ (by dsimp only; omega)]
      · rw [d_hM_, bc.2, up_row, updN (by omega)]
      · rw [c_hr_, c_e17_, d_hr_, bc.1, show 180 + 9 * v.toInt.toNat + 2 = 182 + 9 * v.toInt.toNat by omega]; exact T.2.2.1
    · have qd_hs5_ := is2x d_hs5_
      have yrd_ := eT d_hr_
      exfalso; omega
    · have qd_hs5_ := is2x d_hs5_
      have yrd_ := eT d_hr_
      exfalso; omega
  · have qc_hs5_ := x10has c_hs5_
    have qc_hs33_ := err1 c_hs33_
    have yrc_ := eT c_hr_
    unfold SP_X12_face at h2
    rcases h2 with (⟨d_hs5_, d_h4_, (⟨d_hs11_, d_h10_, d_r13_, d_hs17_, d_h16_, d_z18_, d_h19_, d_M21_, -, d_hF25_, d_r20_, d_hs27_, d_hr_, d_hM_⟩ | ⟨d_hs11_, d_h10_, d_M30_, -, d_hF34_, d_r29_, d_hs36_, d_h32_, d_hr_, d_hM_⟩)⟩ | ⟨d_hs5_, d_M39_, -, d_hF43_, d_r38_, d_hs45_, d_h41_, d_hr_, d_hM_⟩)
    · have qd_hs5_ := is2x d_hs5_
      have yrd_ := eT d_hr_
      exfalso; omega
    · have qd_hs5_ := is2x d_hs5_
      have yrd_ := eT d_hr_
      exact ⟨sameE hR hD.2.1 c_hF31_ c_hM_ d_hF34_ d_hM_, i32e (by omega)⟩
    · have qd_hs5_ := is2x d_hs5_
      have yrd_ := eT d_hr_
      exact ⟨sameE hR hD.2.1 c_hF31_ c_hM_ d_hF43_ d_hM_, i32e (by omega)⟩
  · have qc_hs5_ := x10has c_hs5_
    have qc_hs42_ := err1 c_hs42_
    have yrc_ := eT c_hr_
    unfold SP_X12_face at h2
    rcases h2 with (⟨d_hs5_, d_h4_, (⟨d_hs11_, d_h10_, d_r13_, d_hs17_, d_h16_, d_z18_, d_h19_, d_M21_, -, d_hF25_, d_r20_, d_hs27_, d_hr_, d_hM_⟩ | ⟨d_hs11_, d_h10_, d_M30_, -, d_hF34_, d_r29_, d_hs36_, d_h32_, d_hr_, d_hM_⟩)⟩ | ⟨d_hs5_, d_M39_, -, d_hF43_, d_r38_, d_hs45_, d_h41_, d_hr_, d_hM_⟩)
    · have qd_hs5_ := is2x d_hs5_
      have yrd_ := eT d_hr_
      exfalso; omega
    · have qd_hs5_ := is2x d_hs5_
      have yrd_ := eT d_hr_
      exact ⟨sameE hR hD.2.1 c_hF40_ c_hM_ d_hF34_ d_hM_, i32e (by omega)⟩
    · have qd_hs5_ := is2x d_hs5_
      have yrd_ := eT d_hr_
      exact ⟨sameE hR hD.2.1 c_hF40_ c_hM_ d_hF43_ d_hM_, i32e (by omega)⟩
theorem cb_13 {v : Int32} {u : Int32} {M M1 D D2 : mM} {r1 r2 : Int32} (h1 : SP_X11_goes v u M r1 M1) (h2 : SP_X12_goes v u D r2 D2) (hR : RW 0 M.1 (D.1 (50, 0, 0))) (hD : InvD D) (hu : (D.1 (12, 0, 0) 7).toInt = -1) (hub : 0 ≤ u.toInt ∧ u.toInt ≤ 1) : RW 0 M1.1 (D2.1 (50, 0, 0)) ∧ r1 = r2 := by
  have q0 := il_0
  have q1 := il_1
  have bT := eT hR.1.2.1.1
  have bW := eT hR.1.2.2.1.1
  have nT := nTh_b hD.2.1
  have nW := nWa_b hD.2.1
  unfold nTh at nT
  unfold nWa at nW
  have T := WB hR v
  unfold SP_X11_goes at h1
  rcases h1 with (⟨c_hs5_, c_h4_, c_j7_, c_h8_, c_h9_, c_z10_, c_e11_, c_h12_, c_j13_, c_h14_, c_h15_, c_M16_, c_hM17_, (⟨c_h20_, c_hr_, c_hM_⟩ | ⟨c_h20_, c_hr_, c_hM_⟩)⟩ | ⟨c_hs5_, c_M23_, -, c_hF27_, c_r22_, c_hs29_, c_hr_, c_hM_⟩)
  · obtain rfl : c_j7_ = v.toInt.toNat := by omega
    obtain rfl : c_j13_ = v.toInt.toNat := by omega
    have qc_hs5_ := x10has c_hs5_
    have yc_e11_ := eT c_e11_
    have yrc_ := eT c_hr_
    unfold SP_X12_goes at h2
    rcases h2 with (⟨d_hs5_, d_h4_, d_r7_, d_hs11_, d_h10_, d_z12_, d_h13_, (⟨d_h14_, d_M16_, -, d_hF20_, d_r15_, d_hs22_, d_hr_, d_hM_⟩ | ⟨d_h14_, d_M24_, -, d_hF28_, d_r23_, d_hs30_, d_hr_, d_hM_⟩)⟩ | ⟨d_hs5_, d_M33_, -, d_hF37_, d_r32_, d_hs39_, d_h35_, d_hr_, d_hM_⟩)
    · have qd_hs5_ := is2x d_hs5_
      have yrd_ := eT d_hr_
      have hv : 0 ≤ v.toInt ∧ v.toInt < (D.1 (50, 0, 0) 2).toInt := by omega
      have T := T.resolve_left (fun z => z hv)
      have bc := x12bec d_hs22_
      rw [show d_z12_.toInt.toNat = 180 + 9 * v.toInt.toNat + 6 by omega] at bc
      obtain rfl : u = 0 := i32e (by omega)
      have B := WRR_wf (f := 6) (x := 0) hR.1 hD.2.1 (w := v.toInt.toNat) (by unfold nWa; omega) (by omega)
      rw [← c_hM17_, ← bc.2, ← c_hM_, ← d_hM_] at B
      refine ⟨RW_of hR hD.2.1 B (fun c k hc => ?_) (fun j hj => ?_), ?_⟩
      · rw [c_hM_, zupR c_hM17_ (by dsimp only; omega)]
      · rw [d_hM_, bc.2, up_row, updN (by omega)]
      · rw [d_hr_, bc.1, show 180 + 9 * v.toInt.toNat + 6 = 186 + 9 * v.toInt.toNat by omega, ← T.2.2.2.2.2.2.1, ← c_e11_]; exact i32e (by omega)
    · have qd_hs5_ := is2x d_hs5_
      have yrd_ := eT d_hr_
      have hv : 0 ≤ v.toInt ∧ v.toInt < (D.1 (50, 0, 0) 2).toInt := by omega
      have T := T.resolve_left (fun z => z hv)
      have bc := x12bec d_hs30_
      rw [show d_z12_.toInt.toNat = 180 + 9 * v.toInt.toNat + 6 by omega] at bc
      obtain rfl : u = 1 := i32e (by omega)
      have B := WRR_wf (f := 6) (x := 1) hR.1 hD.2.1 (w := v.toInt.toNat) (by unfold nWa; omega) (by omega)
      rw [← c_hM17_, ← bc.2, ← c_hM_, ← d_hM_] at B
      refine ⟨RW_of hR hD.2.1 B (fun c k hc => ?_) (fun j hj => ?_), ?_⟩
      · rw [c_hM_, zupR c_hM17_ (by dsimp only; omega)]
      · rw [d_hM_, bc.2, up_row, updN (by omega)]
      · rw [d_hr_, bc.1, show 180 + 9 * v.toInt.toNat + 6 = 186 + 9 * v.toInt.toNat by omega, ← T.2.2.2.2.2.2.1, ← c_e11_]; exact i32e (by omega)
    · have qd_hs5_ := is2x d_hs5_
      have yrd_ := eT d_hr_
      exfalso; omega
  · obtain rfl : c_j7_ = v.toInt.toNat := by omega
    obtain rfl : c_j13_ = v.toInt.toNat := by omega
    have qc_hs5_ := x10has c_hs5_
    have yc_e11_ := eT c_e11_
    have yrc_ := eT c_hr_
    unfold SP_X12_goes at h2
    rcases h2 with (⟨d_hs5_, d_h4_, d_r7_, d_hs11_, d_h10_, d_z12_, d_h13_, (⟨d_h14_, d_M16_, -, d_hF20_, d_r15_, d_hs22_, d_hr_, d_hM_⟩ | ⟨d_h14_, d_M24_, -, d_hF28_, d_r23_, d_hs30_, d_hr_, d_hM_⟩)⟩ | ⟨d_hs5_, d_M33_, -, d_hF37_, d_r32_, d_hs39_, d_h35_, d_hr_, d_hM_⟩)
    · have qd_hs5_ := is2x d_hs5_
      have yrd_ := eT d_hr_
      have hv : 0 ≤ v.toInt ∧ v.toInt < (D.1 (50, 0, 0) 2).toInt := by omega
      have T := T.resolve_left (fun z => z hv)
      have bc := x12bec d_hs22_
      rw [show d_z12_.toInt.toNat = 180 + 9 * v.toInt.toNat + 6 by omega] at bc
      obtain rfl : u = 0 := i32e (by omega)
      have B := WRR_wf (f := 6) (x := 0) hR.1 hD.2.1 (w := v.toInt.toNat) (by unfold nWa; omega) (by omega)
      rw [← c_hM17_, ← bc.2, ← c_hM_, ← d_hM_] at B
      refine ⟨RW_of hR hD.2.1 B (fun c k hc => ?_) (fun j hj => ?_), ?_⟩
      · rw [c_hM_, zupR c_hM17_ (by dsimp only; omega)]
      · rw [d_hM_, bc.2, up_row, updN (by omega)]
      · rw [d_hr_, bc.1, show 180 + 9 * v.toInt.toNat + 6 = 186 + 9 * v.toInt.toNat by omega, ← T.2.2.2.2.2.2.1, ← c_e11_]; exact i32e (by omega)
    · have qd_hs5_ := is2x d_hs5_
      have yrd_ := eT d_hr_
      have hv : 0 ≤ v.toInt ∧ v.toInt < (D.1 (50, 0, 0) 2).toInt := by omega
      have T := T.resolve_left (fun z => z hv)
      have bc := x12bec d_hs30_
      rw [show d_z12_.toInt.toNat = 180 + 9 * v.toInt.toNat + 6 by omega] at bc
      obtain rfl : u = 1 := i32e (by omega)
      have B := WRR_wf (f := 6) (x := 1) hR.1 hD.2.1 (w := v.toInt.toNat) (by unfold nWa; omega) (by omega)
      rw [← c_hM17_, ← bc.2, ← c_hM_, ← d_hM_] at B
      refine ⟨RW_of hR hD.2.1 B (fun c k hc => ?_) (fun j hj => ?_), ?_⟩
      · rw [c_hM_, zupR c_hM17_ (by dsimp only; omega)]
      · rw [d_hM_, bc.2, up_row, updN (by omega)]
      · rw [d_hr_, bc.1, show 180 + 9 * v.toInt.toNat + 6 = 186 + 9 * v.toInt.toNat by omega, ← T.2.2.2.2.2.2.1, ← c_e11_]; exact i32e (by omega)
    · have qd_hs5_ := is2x d_hs5_
      have yrd_ := eT d_hr_
      exfalso; omega
  · have qc_hs5_ := x10has c_hs5_
    have qc_hs29_ := err1 c_hs29_
    have yrc_ := eT c_hr_
    unfold SP_X12_goes at h2
    rcases h2 with (⟨d_hs5_, d_h4_, d_r7_, d_hs11_, d_h10_, d_z12_, d_h13_, (⟨d_h14_, d_M16_, -, d_hF20_, d_r15_, d_hs22_, d_hr_, d_hM_⟩ | ⟨d_h14_, d_M24_, -, d_hF28_, d_r23_, d_hs30_, d_hr_, d_hM_⟩)⟩ | ⟨d_hs5_, d_M33_, -, d_hF37_, d_r32_, d_hs39_, d_h35_, d_hr_, d_hM_⟩)
    · have qd_hs5_ := is2x d_hs5_
      have yrd_ := eT d_hr_
      exfalso; omega
    · have qd_hs5_ := is2x d_hs5_
      have yrd_ := eT d_hr_
      exfalso; omega
    · have qd_hs5_ := is2x d_hs5_
      have yrd_ := eT d_hr_
      exact ⟨sameE hR hD.2.1 c_hF27_ c_hM_ d_hF37_ d_hM_, i32e (by omega)⟩
theorem x7away {b : Nat} {v : Int32} {M M' : mM} {r : Int32} (h : SP_X7_takeAway b v M r M') (hv : 0 ≤ v.toInt ∧ v.toInt < (M.1 (7, b, 0) 5).toInt ∧ v.toInt < 40) (hc : 0 ≤ (M.1 (37, b, 0) v.toInt.toNat).toInt ∧ (M.1 (37, b, 0) v.toInt.toNat).toInt ≤ 191) : r = M.1 (37, b, 0) v.toInt.toNat ∧ M' = up (up M (35, b, 0) (M.1 (37, b, 0) v.toInt.toNat).toInt.toNat (-1)) (37, b, 0) v.toInt.toNat (-1) := by
  have q0 := il_0
  unfold SP_X7_takeAway at h
  rcases h with (⟨hs5_, h4_, j9_, h10_, z7_, e8_, M11_, -, hF15_, hs17_, j20_, h21_, M18_, hM19_, hr_, hM_⟩ | ⟨hs5_, hr_, hM_⟩)
  · obtain rfl : j9_ = v.toInt.toNat := by omega
    obtain rfl : j20_ = v.toInt.toNat := by omega
    have s := x7settle hs17_ (by rw [e8_]; exact hc)
    exact ⟨by rw [hr_, e8_], by rw [hM_, hM19_, s, e8_]⟩
  · have := x7has hs5_
    omega
theorem cb_3 {v : Int32} {M M1 D D2 : mM} {r1 r2 : Int32} (h1 : SP_X11_away v M r1 M1) (h2 : SP_X12_away v D r2 D2) (hR : RW 0 M.1 (D.1 (50, 0, 0))) (hD : InvD D) (hu : (D.1 (12, 0, 0) 7).toInt = -1) : RW 0 M1.1 (D2.1 (50, 0, 0)) ∧ r1 = r2 := by
  have q0 := il_0
  have q1 := il_1
  have bT := eT hR.1.2.1.1
  have bW := eT hR.1.2.2.1.1
  have nT := nTh_b hD.2.1
  have nW := nWa_b hD.2.1
  unfold nTh at nT
  unfold nWa at nW
  have T := TB hR v
  unfold SP_X11_away at h1
  rcases h1 with (⟨c_hs5_, c_h4_, c_j9_, c_h10_, c_z7_, c_e8_, (⟨c_h11_, c_M13_, -, c_hF17_, c_r12_, c_hs19_, c_hr_, c_hM_⟩ | ⟨c_h11_, c_M21_, -, c_hF25_, c_r20_, c_hs27_, c_hr_, c_hM_⟩)⟩ | ⟨c_hs5_, c_M30_, -, c_hF34_, c_r29_, c_hs36_, c_hr_, c_hM_⟩)
  · obtain rfl : c_j9_ = v.toInt.toNat := by omega
    have qc_hs5_ := x7has c_hs5_
    have yc_e8_ := eT c_e8_
    have yrc_ := eT c_hr_
    unfold SP_X12_away at h2
    rcases h2 with (⟨d_hs5_, d_h4_, d_r7_, d_hs11_, d_h10_, d_z12_, d_h13_, d_j16_, d_h17_, d_z14_, d_e15_, d_h18_, (⟨d_h19_, d_r20_, d_hs24_, d_h23_, d_z25_, d_h26_, d_M28_, -, d_hF32_, d_r27_, d_hs34_, d_hr_, d_hM_⟩ | ⟨d_h19_, d_M36_, -, d_hF40_, d_r35_, d_hs42_, d_h38_, d_hr_, d_hM_⟩)⟩ | ⟨d_hs5_, d_M45_, -, d_hF49_, d_r44_, d_hs51_, d_h47_, d_hr_, d_hM_⟩)
    · obtain rfl : d_j16_ = 21 + 4 * v.toInt.toNat := by omega
      have qd_hs5_ := is1x d_hs5_
      have yd_e15_ := eT d_e15_
      have yrd_ := eT d_hr_
      have hv : 0 ≤ v.toInt ∧ v.toInt < (D.1 (50, 0, 0) 1).toInt := by omega
      have T := T.resolve_left (fun z => z hv)
      have ta := x7away c_hs19_ (by omega) (by omega)
      have bc := x12bec d_hs34_
      rw [show d_z25_.toInt.toNat = 21 + 4 * v.toInt.toNat by omega] at bc
      have B := WRR_away (t := v.toInt.toNat) (c0 := (M.1 (37, 0, 0) v.toInt.toNat).toInt.toNat) hR.1 hD.2.1 (by unfold nTh; omega) (by unfold tcl; omega)
      rw [← ta.2, ← bc.2, ← c_hM_, ← d_hM_] at B
      refine ⟨RW_of hR hD.2.1 B (fun c k hc => ?_) (fun j hj => ?_), ?_⟩
      · rw [c_hM_, ta.2, zupR rfl (by dsimp only; omega), zupR rfl (by dsimp only; omega)]
      · rw [d_hM_, bc.2, up_row, updN (by omega)]
      · rw [c_hr_, ta.1, d_hr_, bc.1]; exact i32e T.2.1
    · obtain rfl : d_j16_ = 21 + 4 * v.toInt.toNat := by omega
      have qd_hs5_ := is1x d_hs5_
      have yd_e15_ := eT d_e15_
      have yrd_ := eT d_hr_
      exfalso; omega
    · have qd_hs5_ := is1x d_hs5_
      have yrd_ := eT d_hr_
      exfalso; omega
  · obtain rfl : c_j9_ = v.toInt.toNat := by omega
    have qc_hs5_ := x7has c_hs5_
    have yc_e8_ := eT c_e8_
    have qc_hs27_ := err3 c_hs27_
    have yrc_ := eT c_hr_
    unfold SP_X12_away at h2
    rcases h2 with (⟨d_hs5_, d_h4_, d_r7_, d_hs11_, d_h10_, d_z12_, d_h13_, d_j16_, d_h17_, d_z14_, d_e15_, d_h18_, (⟨d_h19_, d_r20_, d_hs24_, d_h23_, d_z25_, d_h26_, d_M28_, -, d_hF32_, d_r27_, d_hs34_, d_hr_, d_hM_⟩ | ⟨d_h19_, d_M36_, -, d_hF40_, d_r35_, d_hs42_, d_h38_, d_hr_, d_hM_⟩)⟩ | ⟨d_hs5_, d_M45_, -, d_hF49_, d_r44_, d_hs51_, d_h47_, d_hr_, d_hM_⟩)
    · obtain rfl : d_j16_ = 21 + 4 * v.toInt.toNat := by omega
      have qd_hs5_ := is1x d_hs5_
      have yd_e15_ := eT d_e15_
      have yrd_ := eT d_hr_
      exfalso; omega
    · obtain rfl : d_j16_ = 21 + 4 * v.toInt.toNat := by omega
      have qd_hs5_ := is1x d_hs5_
      have yd_e15_ := eT d_e15_
      have yrd_ := eT d_hr_
      exact ⟨sameE hR hD.2.1 c_hF25_ c_hM_ d_hF40_ d_hM_, i32e (by omega)⟩
    · have qd_hs5_ := is1x d_hs5_
      have yrd_ := eT d_hr_
      exfalso; omega
  · have qc_hs5_ := x7has c_hs5_
    have qc_hs36_ := err1 c_hs36_
    have yrc_ := eT c_hr_
    unfold SP_X12_away at h2
    rcases h2 with (⟨d_hs5_, d_h4_, d_r7_, d_hs11_, d_h10_, d_z12_, d_h13_, d_j16_, d_h17_, d_z14_, d_e15_, d_h18_, (⟨d_h19_, d_r20_, d_hs24_, d_h23_, d_z25_, d_h26_, d_M28_, -, d_hF32_, d_r27_, d_hs34_, d_hr_, d_hM_⟩ | ⟨d_h19_, d_M36_, -, d_hF40_, d_r35_, d_hs42_, d_h38_, d_hr_, d_hM_⟩)⟩ | ⟨d_hs5_, d_M45_, -, d_hF49_, d_r44_, d_hs51_, d_h47_, d_hr_, d_hM_⟩)
    · obtain rfl : d_j16_ = 21 + 4 * v.toInt.toNat := by omega
      have qd_hs5_ := is1x d_hs5_
      have yd_e15_ := eT d_e15_
      have yrd_ := eT d_hr_
      exfalso; omega
    · obtain rfl : d_j16_ = 21 + 4 * v.toInt.toNat := by omega
      have qd_hs5_ := is1x d_hs5_
      have yd_e15_ := eT d_e15_
      have yrd_ := eT d_hr_
      exfalso; omega
    · have qd_hs5_ := is1x d_hs5_
      have yrd_ := eT d_hr_
      exact ⟨sameE hR hD.2.1 c_hF34_ c_hM_ d_hF49_ d_hM_, i32e (by omega)⟩
theorem x7add {b : Nat} {v u : Int32} {M M' : mM} {r : Int32} (h : SP_X7_addThing b v u M r M') (h0 : 0 ≤ (M.1 (7, b, 0) 5).toInt ∧ (M.1 (7, b, 0) 5).toInt < 40) (hu : 0 ≤ u.toInt ∧ u.toInt ≤ 191) : r = M.1 (7, b, 0) 5 ∧ ∃ z : Int32, z.toInt = (M.1 (7, b, 0) 5).toInt + 1 ∧ M' = up (up (up (up (up (up M (36, b, 0) (M.1 (7, b, 0) 5).toInt.toNat v) (37, b, 0) (M.1 (7, b, 0) 5).toInt.toNat u) (38, b, 0) (M.1 (7, b, 0) 5).toInt.toNat 0) (39, b, 0) (M.1 (7, b, 0) 5).toInt.toNat 0) (35, b, 0) u.toInt.toNat (M.1 (7, b, 0) 5)) (7, b, 0) 5 z := by
  have q0 := il_0
  unfold SP_X7_addThing at h
  rcases h with ⟨z1_, e2_, (⟨h3_, hr_, hM_⟩ | ⟨h3_, (⟨h4_, j7_, h8_, M5_, hM6_, j13_, h14_, M11_, hM12_, j19_, h20_, M17_, hM18_, j25_, h26_, M23_, hM24_, -, M29_, -, hF33_, hs35_, z36_, e37_, z38_, h39_, M40_, hM41_, hr_, hM_⟩ | ⟨h4_, hr_, hM_⟩)⟩)⟩
  · have := eT e2_; omega
  · obtain rfl : j7_ = z1_.toInt.toNat := by omega
    obtain rfl : j13_ = z1_.toInt.toNat := by omega
    obtain rfl : j19_ = z1_.toInt.toNat := by omega
    obtain rfl : j25_ = z1_.toInt.toNat := by omega
    have s := x7settle hs35_ hu
    have e36 : z36_ = z1_ := by rw [e37_, s, zupR rfl (by simp), zupR hM24_ (by simp), zupR hM18_ (by simp), zupR hM12_ (by simp), zupR hM6_ (by simp), e2_]
    rw [e36] at h39_
    have ez := add1 h39_ (by omega)
    rw [← e2_]
    exact ⟨hr_, z38_, ez, by rw [hM_, hM41_, s, hM24_, hM18_, hM12_, hM6_]⟩
  · have := eT e2_; omega
theorem x12comes {v u : Int32} {D D2 : mM} {r : Int32} (h : SP_X12_comes v u D r D2) : r = D.1 (50, 0, 0) 1 ∧ ∃ z : Int32, z.toInt = (D.1 (50, 0, 0) 1).toInt + 1 ∧ D2 = up (up (up (up (up D (50, 0, 0) (20 + 4 * (D.1 (50, 0, 0) 1).toInt.toNat) v) (50, 0, 0) (21 + 4 * (D.1 (50, 0, 0) 1).toInt.toNat) u) (50, 0, 0) (22 + 4 * (D.1 (50, 0, 0) 1).toInt.toNat) 0) (50, 0, 0) (23 + 4 * (D.1 (50, 0, 0) 1).toInt.toNat) 0) (50, 0, 0) 1 z := by
  unfold SP_X12_comes at h
  rcases h with ⟨z1_, e2_, h3_, h4_, r5_, hs9_, h8_, z10_, h11_, j14_, h15_, M12_, hM13_, -, r19_, hs23_, h22_, z24_, h25_, j28_, h29_, M26_, hM27_, -, r33_, hs37_, h36_, z38_, h39_, j42_, h43_, M40_, hM41_, -, r47_, hs51_, h50_, z52_, h53_, j56_, h57_, M54_, hM55_, z61_, e62_, h63_, h64_, z65_, h66_, M67_, hM68_, hr_, hM_⟩
  obtain rfl : j14_ = 20 + 4 * z1_.toInt.toNat := by omega
  obtain rfl : j28_ = 21 + 4 * z1_.toInt.toNat := by omega
  obtain rfl : j42_ = 22 + 4 * z1_.toInt.toNat := by omega
  obtain rfl : j56_ = 23 + 4 * z1_.toInt.toNat := by omega
  have e61 : z61_ = z1_ := by rw [e62_, zupN hM55_ (fun z => by have := z.2; omega), zupN hM41_ (fun z => by have := z.2; omega), zupN hM27_ (fun z => by have := z.2; omega), zupN hM13_ (fun z => by have := z.2; omega), e2_]
  rw [← e2_]
  exact ⟨hr_, z65_, by rw [h66_, e61], by rw [hM_, hM68_, hM55_, hM41_, hM27_, hM13_]⟩
theorem WRR_add2 {M M' D D2 : mM} {v u : Int32} (hc : ∃ z : Int32, z.toInt = (M.1 (7, 0, 0) 5).toInt + 1 ∧ M' = up (up (up (up (up (up M (36, 0, 0) (M.1 (7, 0, 0) 5).toInt.toNat v) (37, 0, 0) (M.1 (7, 0, 0) 5).toInt.toNat u) (38, 0, 0) (M.1 (7, 0, 0) 5).toInt.toNat 0) (39, 0, 0) (M.1 (7, 0, 0) 5).toInt.toNat 0) (35, 0, 0) u.toInt.toNat (M.1 (7, 0, 0) 5)) (7, 0, 0) 5 z)
    (hd : ∃ z : Int32, z.toInt = (D.1 (50, 0, 0) 1).toInt + 1 ∧ D2 = up (up (up (up (up D (50, 0, 0) (20 + 4 * (D.1 (50, 0, 0) 1).toInt.toNat) v) (50, 0, 0) (21 + 4 * (D.1 (50, 0, 0) 1).toInt.toNat) u) (50, 0, 0) (22 + 4 * (D.1 (50, 0, 0) 1).toInt.toNat) 0) (50, 0, 0) (23 + 4 * (D.1 (50, 0, 0) 1).toInt.toNat) 0) (50, 0, 0) 1 z)
    (h : RW 0 M.1 (D.1 (50, 0, 0))) (hN : NW5 (D.1 (50, 0, 0))) (ht : nTh (D.1 (50, 0, 0)) < 40) (hu : 0 ≤ u.toInt ∧ u.toInt ≤ 191) (hf : occ 0 M.1 u.toInt.toNat = -1) : RW 0 M'.1 (D2.1 (50, 0, 0)) := by
  have q0 := il_0
  have nb := nTh_b hN
  obtain ⟨z, hz, hc⟩ := hc
  obtain ⟨y, hy, hd⟩ := hd
  have e := h.1.2.1.1
  rw [e] at hz hc
  obtain rfl : z = y := i32e (by omega)
  have n1 : (D.1 (50, 0, 0) 1).toInt = nTh (D.1 (50, 0, 0)) := rfl
  obtain ⟨t, ht2⟩ : ∃ t : Nat, (D.1 (50, 0, 0) 1).toInt = (t : Int) := ⟨(D.1 (50, 0, 0) 1).toInt.toNat, by omega⟩
  rw [show (D.1 (50, 0, 0) 1).toInt.toNat = t by omega] at hc hd
  have rowN : ∀ j, ¬ j = 1 → j < 20 + 4 * t ∨ 24 + 4 * t ≤ j → D2.1 (50, 0, 0) j = D.1 (50, 0, 0) j := fun j h1 h2 => by
    rw [hd, up_row, updN h1, up_row, updN (by omega), up_row, updN (by omega), up_row, updN (by omega), up_row, updN (by omega)]
  have cN : ∀ (c : rf) (k : Nat), ¬ (c.1 = 36 ∨ c.1 = 37 ∨ c.1 = 38 ∨ c.1 = 39) → ¬ (c = (35, 0, 0) ∧ k = u.toInt.toNat) → ¬ (c = (7, 0, 0) ∧ k = 5) → M'.1 c k = M.1 c k := fun c k h1 h2 h3 => by
    rw [hc, zupN rfl h3, zupN rfl h2, zupR rfl (by dsimp only; omega), zupR rfl (by dsimp only; omega), zupR rfl (by dsimp only; omega), zupR rfl (by dsimp only; omega)]
  refine RW_of h hN (WRR_add (t := t) (cell := u.toInt.toNat) h.1 hN (by omega) (by omega) (by omega) hf (fun c k _ => cN c k) (fun r k h1 h2 hk => ?_) rowN ?_ ?_ ?_ ?_ ?_ ?_ ?_ ?_ ?_) (fun c k hc2 => cN c k (by omega) (fun z => by rw [z.1] at hc2; simp at hc2) (fun z => by rw [z.1] at hc2; simp at hc2)) (fun j hj => rowN j (by omega) (by omega))
  · rw [hc, zupR rfl (by dsimp only; omega), zupR rfl (by dsimp only; omega), zupN rfl (fun z => hk z.2), zupN rfl (fun z => hk z.2), zupN rfl (fun z => hk z.2), zupN rfl (fun z => hk z.2)]
  · rw [hc, zupE rfl rfl rfl, hd, up_row, updE rfl]
  · rw [hd, up_row, updE rfl]; omega
  · rw [hc, zupR rfl (by simp), zupR rfl (by simp), zupR rfl (by simp), zupR rfl (by simp), zupR rfl (by simp), zupE rfl rfl rfl, hd, up_row, updN (by omega), up_row, updN (by omega), up_row, updN (by omega), up_row, updN (by omega), up_row, updE rfl]
  · rw [hc, zupR rfl (by simp), zupR rfl (by simp), zupR rfl (by simp), zupR rfl (by simp), zupE rfl rfl rfl, hd, up_row, updN (by omega), up_row, updN (by omega), up_row, updN (by omega), up_row, updE rfl]
  · rw [hc, zupR rfl (by simp), zupR rfl (by simp), zupR rfl (by simp), zupE rfl rfl rfl, hd, up_row, updN (by omega), up_row, updN (by omega), up_row, updE rfl]
  · rw [hc, zupR rfl (by simp), zupR rfl (by simp), zupE rfl rfl rfl, hd, up_row, updN (by omega), up_row, updE rfl]
  · rw [hd, up_row, updN (by omega), up_row, updN (by omega), up_row, updN (by omega), up_row, updE rfl]; omega
  · rw [hd, up_row, updN (by omega), up_row, updE rfl]; exact il_0
  · rw [hc, zupR rfl (by simp), zupE rfl rfl rfl]; omega
theorem cb_0 {v : Int32} {u : Int32} {M M1 D D2 : mM} {r1 r2 : Int32} (h1 : SP_X11_thing v u M r1 M1) (h2 : SP_X12_thing_ v u D r2 D2) (hR : RW 0 M.1 (D.1 (50, 0, 0))) (hD : InvD D) (hu : (D.1 (12, 0, 0) 7).toInt = -1) : RW 0 M1.1 (D2.1 (50, 0, 0)) ∧ r1 = r2 := by
  have q0 := il_0
  have q1 := il_1
  have bT := eT hR.1.2.1.1
  have bW := eT hR.1.2.2.1.1
  have nT := nTh_b hD.2.1
  have nW := nWa_b hD.2.1
  unfold nTh at nT
  unfold nWa at nW
  unfold SP_X11_thing at h1
  rcases h1 with (⟨c_hs5_, c_h4_, (⟨c_hs11_, c_h10_, (⟨c_hs17_, c_h16_, c_r19_, c_hs23_, c_h22_, (⟨c_h24_, c_M26_, -, c_hF30_, c_r25_, c_hs32_, c_hr_, c_hM_⟩ | ⟨c_h24_, c_M34_, -, c_hF38_, c_r33_, c_hs40_, c_hr_, c_hM_⟩)⟩ | ⟨c_hs17_, c_M43_, -, c_hF47_, c_r42_, c_hs49_, c_hr_, c_hM_⟩)⟩ | ⟨c_hs11_, c_h10_, c_M52_, -, c_hF56_, c_r51_, c_hs58_, c_hr_, c_hM_⟩)⟩ | ⟨c_hs5_, c_h4_, c_M61_, -, c_hF65_, c_r60_, c_hs67_, c_hr_, c_hM_⟩)
  · have qc_hs17_ := x7free c_hs17_
    have qc_hs23_ := x7room c_hs23_
    have yrc_ := eT c_hr_
    unfold SP_X12_thing_ at h2
    rcases h2 with (⟨d_hs5_, d_h4_, (⟨d_hs11_, d_h10_, d_r13_, d_hs17_, d_h16_, (⟨d_h18_, d_z19_, d_e20_, d_h21_, (⟨d_h22_, d_M24_, -, d_hF28_, d_r23_, d_hs30_, d_h26_, d_hr_, d_hM_⟩ | ⟨d_h22_, d_M32_, -, d_hF36_, d_r31_, d_hs38_, d_h34_, d_hr_, d_hM_⟩)⟩ | ⟨d_h18_, d_M40_, -, d_hF44_, d_r39_, d_hs46_, d_h42_, d_hr_, d_hM_⟩)⟩ | ⟨d_hs11_, d_h10_, d_M49_, -, d_hF53_, d_r48_, d_hs55_, d_h51_, d_hr_, d_hM_⟩)⟩ | ⟨d_hs5_, d_h4_, d_M58_, -, d_hF62_, d_r57_, d_hs64_, d_h60_, d_hr_, d_hM_⟩)
    · have qd_hs17_ := x12free d_hs17_ hR.1.2.2.2.2.1 (by omega) (by omega)
      have yd_e20_ := eT d_e20_
      have yrd_ := eT d_hr_
      have ca := x7add c_hs32_ (by omega) (by omega)
      have da := x12comes d_hs30_
      have B := WRR_add2 ca.2 da.2 hR hD.2.1 (by unfold nTh; omega) (by omega) (by omega)
      refine ⟨by rw [c_hM_, d_hM_]; exact B, ?_⟩
      rw [c_hr_, d_hr_, ca.1, da.1]; exact hR.1.2.1.1
    · have qd_hs17_ := x12free d_hs17_ hR.1.2.2.2.2.1 (by omega) (by omega)
      have yd_e20_ := eT d_e20_
      have yrd_ := eT d_hr_
      exfalso; omega
    · have qd_hs17_ := x12free d_hs17_ hR.1.2.2.2.2.1 (by omega) (by omega)
      have yrd_ := eT d_hr_
      exfalso; omega
    · have yrd_ := eT d_hr_
      exfalso; omega
    · have yrd_ := eT d_hr_
      exfalso; omega
  · have qc_hs17_ := x7free c_hs17_
    have qc_hs23_ := x7room c_hs23_
    have qc_hs40_ := err4 c_hs40_
    have yrc_ := eT c_hr_
    unfold SP_X12_thing_ at h2
    rcases h2 with (⟨d_hs5_, d_h4_, (⟨d_hs11_, d_h10_, d_r13_, d_hs17_, d_h16_, (⟨d_h18_, d_z19_, d_e20_, d_h21_, (⟨d_h22_, d_M24_, -, d_hF28_, d_r23_, d_hs30_, d_h26_, d_hr_, d_hM_⟩ | ⟨d_h22_, d_M32_, -, d_hF36_, d_r31_, d_hs38_, d_h34_, d_hr_, d_hM_⟩)⟩ | ⟨d_h18_, d_M40_, -, d_hF44_, d_r39_, d_hs46_, d_h42_, d_hr_, d_hM_⟩)⟩ | ⟨d_hs11_, d_h10_, d_M49_, -, d_hF53_, d_r48_, d_hs55_, d_h51_, d_hr_, d_hM_⟩)⟩ | ⟨d_hs5_, d_h4_, d_M58_, -, d_hF62_, d_r57_, d_hs64_, d_h60_, d_hr_, d_hM_⟩)
    · have qd_hs17_ := x12free d_hs17_ hR.1.2.2.2.2.1 (by omega) (by omega)
      have yd_e20_ := eT d_e20_
      have yrd_ := eT d_hr_
      exfalso; omega
    · have qd_hs17_ := x12free d_hs17_ hR.1.2.2.2.2.1 (by omega) (by omega)
      have yd_e20_ := eT d_e20_
      have yrd_ := eT d_hr_
      exact ⟨sameE hR hD.2.1 c_hF38_ c_hM_ d_hF36_ d_hM_, i32e (by omega)⟩
    · have qd_hs17_ := x12free d_hs17_ hR.1.2.2.2.2.1 (by omega) (by omega)
      have yrd_ := eT d_hr_
      exfalso; omega
    · have yrd_ := eT d_hr_
      exfalso; omega
    · have yrd_ := eT d_hr_
      exfalso; omega
  · have qc_hs17_ := x7free c_hs17_
    have qc_hs49_ := err3 c_hs49_
    have yrc_ := eT c_hr_
    unfold SP_X12_thing_ at h2
    rcases h2 with (⟨d_hs5_, d_h4_, (⟨d_hs11_, d_h10_, d_r13_, d_hs17_, d_h16_, (⟨d_h18_, d_z19_, d_e20_, d_h21_, (⟨d_h22_, d_M24_, -, d_hF28_, d_r23_, d_hs30_, d_h26_, d_hr_, d_hM_⟩ | ⟨d_h22_, d_M32_, -, d_hF36_, d_r31_, d_hs38_, d_h34_, d_hr_, d_hM_⟩)⟩ | ⟨d_h18_, d_M40_, -, d_hF44_, d_r39_, d_hs46_, d_h42_, d_hr_, d_hM_⟩)⟩ | ⟨d_hs11_, d_h10_, d_M49_, -, d_hF53_, d_r48_, d_hs55_, d_h51_, d_hr_, d_hM_⟩)⟩ | ⟨d_hs5_, d_h4_, d_M58_, -, d_hF62_, d_r57_, d_hs64_, d_h60_, d_hr_, d_hM_⟩)
    · have qd_hs17_ := x12free d_hs17_ hR.1.2.2.2.2.1 (by omega) (by omega)
      have yd_e20_ := eT d_e20_
      have yrd_ := eT d_hr_
      exfalso; omega
    · have qd_hs17_ := x12free d_hs17_ hR.1.2.2.2.2.1 (by omega) (by omega)
      have yd_e20_ := eT d_e20_
      have yrd_ := eT d_hr_
      exfalso; omega
    · have qd_hs17_ := x12free d_hs17_ hR.1.2.2.2.2.1 (by omega) (by omega)
      have yrd_ := eT d_hr_
      exact ⟨sameE hR hD.2.1 c_hF47_ c_hM_ d_hF44_ d_hM_, i32e (by omega)⟩
    · have yrd_ := eT d_hr_
      exfalso; omega
    · have yrd_ := eT d_hr_
      exfalso; omega
  · have qc_hs58_ := err1 c_hs58_
    have yrc_ := eT c_hr_
    unfold SP_X12_thing_ at h2
    rcases h2 with (⟨d_hs5_, d_h4_, (⟨d_hs11_, d_h10_, d_r13_, d_hs17_, d_h16_, (⟨d_h18_, d_z19_, d_e20_, d_h21_, (⟨d_h22_, d_M24_, -, d_hF28_, d_r23_, d_hs30_, d_h26_, d_hr_, d_hM_⟩ | ⟨d_h22_, d_M32_, -, d_hF36_, d_r31_, d_hs38_, d_h34_, d_hr_, d_hM_⟩)⟩ | ⟨d_h18_, d_M40_, -, d_hF44_, d_r39_, d_hs46_, d_h42_, d_hr_, d_hM_⟩)⟩ | ⟨d_hs11_, d_h10_, d_M49_, -, d_hF53_, d_r48_, d_hs55_, d_h51_, d_hr_, d_hM_⟩)⟩ | ⟨d_hs5_, d_h4_, d_M58_, -, d_hF62_, d_r57_, d_hs64_, d_h60_, d_hr_, d_hM_⟩)
    · have qd_hs17_ := x12free d_hs17_ hR.1.2.2.2.2.1 (by omega) (by omega)
      have yd_e20_ := eT d_e20_
      have yrd_ := eT d_hr_
      exfalso; omega
    · have qd_hs17_ := x12free d_hs17_ hR.1.2.2.2.2.1 (by omega) (by omega)
      have yd_e20_ := eT d_e20_
      have yrd_ := eT d_hr_
      exfalso; omega
    · have qd_hs17_ := x12free d_hs17_ hR.1.2.2.2.2.1 (by omega) (by omega)
      have yrd_ := eT d_hr_
      exfalso; omega
    · have yrd_ := eT d_hr_
      exact ⟨sameE hR hD.2.1 c_hF56_ c_hM_ d_hF53_ d_hM_, i32e (by omega)⟩
    · have yrd_ := eT d_hr_
      exact ⟨sameE hR hD.2.1 c_hF56_ c_hM_ d_hF62_ d_hM_, i32e (by omega)⟩
  · have qc_hs67_ := err1 c_hs67_
    have yrc_ := eT c_hr_
    unfold SP_X12_thing_ at h2
    rcases h2 with (⟨d_hs5_, d_h4_, (⟨d_hs11_, d_h10_, d_r13_, d_hs17_, d_h16_, (⟨d_h18_, d_z19_, d_e20_, d_h21_, (⟨d_h22_, d_M24_, -, d_hF28_, d_r23_, d_hs30_, d_h26_, d_hr_, d_hM_⟩ | ⟨d_h22_, d_M32_, -, d_hF36_, d_r31_, d_hs38_, d_h34_, d_hr_, d_hM_⟩)⟩ | ⟨d_h18_, d_M40_, -, d_hF44_, d_r39_, d_hs46_, d_h42_, d_hr_, d_hM_⟩)⟩ | ⟨d_hs11_, d_h10_, d_M49_, -, d_hF53_, d_r48_, d_hs55_, d_h51_, d_hr_, d_hM_⟩)⟩ | ⟨d_hs5_, d_h4_, d_M58_, -, d_hF62_, d_r57_, d_hs64_, d_h60_, d_hr_, d_hM_⟩)
    · have qd_hs17_ := x12free d_hs17_ hR.1.2.2.2.2.1 (by omega) (by omega)
      have yd_e20_ := eT d_e20_
      have yrd_ := eT d_hr_
      exfalso; omega
    · have qd_hs17_ := x12free d_hs17_ hR.1.2.2.2.2.1 (by omega) (by omega)
      have yd_e20_ := eT d_e20_
      have yrd_ := eT d_hr_
      exfalso; omega
    · have qd_hs17_ := x12free d_hs17_ hR.1.2.2.2.2.1 (by omega) (by omega)
      have yrd_ := eT d_hr_
      exfalso; omega
    · have yrd_ := eT d_hr_
      exact ⟨sameE hR hD.2.1 c_hF65_ c_hM_ d_hF53_ d_hM_, i32e (by omega)⟩
    · have yrd_ := eT d_hr_
      exact ⟨sameE hR hD.2.1 c_hF65_ c_hM_ d_hF62_ d_hM_, i32e (by omega)⟩
