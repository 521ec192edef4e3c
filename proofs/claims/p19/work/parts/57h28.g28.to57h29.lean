section
/-! the call lays -/
theorem cb_6 {v u : Int32} {M M1 D D2 : mM} {r1 r2 : Int32} (h1 : SP_X11_lays v u M r1 M1) (h2 : SP_X12_lays v u D r2 D2) (hR : RW 0 M.1 (D.1 (50, 0, 0))) (hD : InvD D) (hu : (D.1 (12, 0, 0) 7).toInt = -1) (hS : SHR M.1 D.1) : RW 0 M1.1 (D2.1 (50, 0, 0)) ∧ r1 = r2 := by
  have q0 := il_0
  have q1 := il_1
  have sw := fun (w : Nat) (hw : w < 4) => And.intro (eT (hS w hw).1) (eT (hS w hw).2.1)
  refine xE_SP_X11_lays h1 ⟨(fun c_hs5_ c_h4_ => ⟨(fun c_hs11_ c_h10_ c_j13_ c_h14_ c_h15_ c_r16_ c_hs20_ c_h19_ => ⟨(fun c_h21_ c_z22_ c_e23_ => ⟨(fun c_h24_ c_z25_ c_e26_ c_h27_ => ⟨(fun c_h28_ c_v5_79 c_hv0_79 c_v4_79 c_M_79 c_hL_79 _ c_hF_79 c_z30_ c_e31_ c_h32_ c_h33_ c_hr_ c_hM_ => ?_), (fun c_h28_ c_M84_ _ c_hF88_ c_r83_ c_hs90_ c_hr_ c_hM_ => ?_)⟩), (fun c_h24_ c_M92_ _ c_hF96_ c_r91_ c_hs98_ c_hr_ c_hM_ => ?_)⟩), (fun c_h21_ c_M100_ _ c_hF104_ c_r99_ c_hs106_ c_hr_ c_hM_ => ?_)⟩), (fun c_hs11_ c_h10_ c_M109_ _ c_hF113_ c_r108_ c_hs115_ c_hr_ c_hM_ => ?_)⟩), (fun c_hs5_ c_h4_ c_M118_ _ c_hF122_ c_r117_ c_hs124_ c_hr_ c_hM_ => ?_)⟩
  · refine xE_SP_X12_lays h2 ⟨(fun d_hs5_ d_h4_ => ⟨(fun d_hs11_ d_h10_ d_j15_ d_h16_ d_z13_ d_e14_ => ⟨(fun d_h17_ d_j20_ d_h21_ d_z18_ d_e19_ => ⟨(fun d_h22_ d_j25_ d_h26_ d_z23_ d_e24_ d_h27_ => ⟨(fun d_h28_ d_v4_81 d_hv0_81 d_v3_81 d_M_81 d_hL_81 _ d_hF_81 d_j33_ d_h34_ d_z31_ d_e32_ d_h35_ d_h36_ d_h37_ d_hr_ d_hM_ => ?_), (fun d_h28_ d_M93_ _ d_hF97_ d_r92_ d_hs99_ d_h95_ d_hr_ d_hM_ => ?_)⟩), (fun d_h22_ d_M101_ _ d_hF105_ d_r100_ d_hs107_ d_h103_ d_hr_ d_hM_ => ?_)⟩), (fun d_h17_ d_M109_ _ d_hF113_ d_r108_ d_hs115_ d_h111_ d_hr_ d_hM_ => ?_)⟩), (fun d_hs11_ d_h10_ d_M118_ _ d_hF122_ d_r117_ d_hs124_ d_h120_ d_hr_ d_hM_ => ?_)⟩), (fun d_hs5_ d_h4_ d_M127_ _ d_hF131_ d_r126_ d_hs133_ d_h129_ d_hr_ d_hM_ => ?_)⟩
    · have mi := x6miss c_hs20_
      have sv := sw c_j13_ (by omega)
      have ye23_ := eT c_e23_
      have ye26_ := eT c_e26_
      have we14_ := eT d_e14_
      rw [show d_j15_ = c_j13_ by omega] at we14_
      have we19_ := eT d_e19_
      rw [show d_j20_ = c_j13_ by omega] at we19_
      have we24_ := eT d_e24_
      rw [show d_j25_ = c_j13_ by omega] at we24_
      have L := lays_loop (w := c_j13_) (z := (c_v5_79, c_v4_79, c_M_79)) (t := (d_v4_81, d_v3_81, d_M_81)) ⟨by omega, by omega⟩ (by omega) hR hS hu (by omega) c_hL_79 d_hL_81 (by rw [← c_e31_]; omega) (by rw [← show d_j33_ = c_j13_ by omega, ← d_e32_]; omega)
      obtain ⟨l1, l2, l3, l4, l5⟩ := L
      rw [c_hM_, d_hM_, c_hr_, d_hr_]
      exact ⟨l3, l2⟩
    · have mi := x6miss c_hs20_
      have sv := sw c_j13_ (by omega)
      have ye23_ := eT c_e23_
      have ye26_ := eT c_e26_
      have we14_ := eT d_e14_
      rw [show d_j15_ = c_j13_ by omega] at we14_
      have we19_ := eT d_e19_
      rw [show d_j20_ = c_j13_ by omega] at we19_
      have we24_ := eT d_e24_
      rw [show d_j25_ = c_j13_ by omega] at we24_
      omega
    · have mi := x6miss c_hs20_
      have sv := sw c_j13_ (by omega)
      have ye23_ := eT c_e23_
      have ye26_ := eT c_e26_
      have we14_ := eT d_e14_
      rw [show d_j15_ = c_j13_ by omega] at we14_
      have we19_ := eT d_e19_
      rw [show d_j20_ = c_j13_ by omega] at we19_
      omega
    · have mi := x6miss c_hs20_
      have sv := sw c_j13_ (by omega)
      have ye23_ := eT c_e23_
      have ye26_ := eT c_e26_
      have we14_ := eT d_e14_
      rw [show d_j15_ = c_j13_ by omega] at we14_
      omega
    · have mi := x6miss c_hs20_
      have sv := sw c_j13_ (by omega)
      have ye23_ := eT c_e23_
      have ye26_ := eT c_e26_
      omega
    · have mi := x6miss c_hs20_
      have sv := sw c_j13_ (by omega)
      have ye23_ := eT c_e23_
      have ye26_ := eT c_e26_
      omega
  · refine xE_SP_X12_lays h2 ⟨(fun d_hs5_ d_h4_ => ⟨(fun d_hs11_ d_h10_ d_j15_ d_h16_ d_z13_ d_e14_ => ⟨(fun d_h17_ d_j20_ d_h21_ d_z18_ d_e19_ => ⟨(fun d_h22_ d_j25_ d_h26_ d_z23_ d_e24_ d_h27_ => ⟨(fun d_h28_ d_v4_81 d_hv0_81 d_v3_81 d_M_81 d_hL_81 _ d_hF_81 d_j33_ d_h34_ d_z31_ d_e32_ d_h35_ d_h36_ d_h37_ d_hr_ d_hM_ => ?_), (fun d_h28_ d_M93_ _ d_hF97_ d_r92_ d_hs99_ d_h95_ d_hr_ d_hM_ => ?_)⟩), (fun d_h22_ d_M101_ _ d_hF105_ d_r100_ d_hs107_ d_h103_ d_hr_ d_hM_ => ?_)⟩), (fun d_h17_ d_M109_ _ d_hF113_ d_r108_ d_hs115_ d_h111_ d_hr_ d_hM_ => ?_)⟩), (fun d_hs11_ d_h10_ d_M118_ _ d_hF122_ d_r117_ d_hs124_ d_h120_ d_hr_ d_hM_ => ?_)⟩), (fun d_hs5_ d_h4_ d_M127_ _ d_hF131_ d_r126_ d_hs133_ d_h129_ d_hr_ d_hM_ => ?_)⟩
    · have mi := x6miss c_hs20_
      have sv := sw c_j13_ (by omega)
      have ye23_ := eT c_e23_
      have ye26_ := eT c_e26_
      have we14_ := eT d_e14_
      rw [show d_j15_ = c_j13_ by omega] at we14_
      have we19_ := eT d_e19_
      rw [show d_j20_ = c_j13_ by omega] at we19_
      have we24_ := eT d_e24_
      rw [show d_j25_ = c_j13_ by omega] at we24_
      omega
    · refine ⟨sameE hR hD.2.1 c_hF88_ c_hM_ d_hF97_ d_hM_, i32e ?_⟩
      have e := err_r c_hs90_ (by first | decide | simp | (dsimp only; omega))
      rw [c_hr_, d_hr_, e, d_h95_]
      decide
    · have mi := x6miss c_hs20_
      have sv := sw c_j13_ (by omega)
      have ye23_ := eT c_e23_
      have ye26_ := eT c_e26_
      have we14_ := eT d_e14_
      rw [show d_j15_ = c_j13_ by omega] at we14_
      have we19_ := eT d_e19_
      rw [show d_j20_ = c_j13_ by omega] at we19_
      omega
    · have mi := x6miss c_hs20_
      have sv := sw c_j13_ (by omega)
      have ye23_ := eT c_e23_
      have ye26_ := eT c_e26_
      have we14_ := eT d_e14_
      rw [show d_j15_ = c_j13_ by omega] at we14_
      omega
    · have mi := x6miss c_hs20_
      have sv := sw c_j13_ (by omega)
      have ye23_ := eT c_e23_
      have ye26_ := eT c_e26_
      omega
    · have mi := x6miss c_hs20_
      have sv := sw c_j13_ (by omega)
      have ye23_ := eT c_e23_
      have ye26_ := eT c_e26_
      omega
  · refine xE_SP_X12_lays h2 ⟨(fun d_hs5_ d_h4_ => ⟨(fun d_hs11_ d_h10_ d_j15_ d_h16_ d_z13_ d_e14_ => ⟨(fun d_h17_ d_j20_ d_h21_ d_z18_ d_e19_ => ⟨(fun d_h22_ d_j25_ d_h26_ d_z23_ d_e24_ d_h27_ => ⟨(fun d_h28_ d_v4_81 d_hv0_81 d_v3_81 d_M_81 d_hL_81 _ d_hF_81 d_j33_ d_h34_ d_z31_ d_e32_ d_h35_ d_h36_ d_h37_ d_hr_ d_hM_ => ?_), (fun d_h28_ d_M93_ _ d_hF97_ d_r92_ d_hs99_ d_h95_ d_hr_ d_hM_ => ?_)⟩), (fun d_h22_ d_M101_ _ d_hF105_ d_r100_ d_hs107_ d_h103_ d_hr_ d_hM_ => ?_)⟩), (fun d_h17_ d_M109_ _ d_hF113_ d_r108_ d_hs115_ d_h111_ d_hr_ d_hM_ => ?_)⟩), (fun d_hs11_ d_h10_ d_M118_ _ d_hF122_ d_r117_ d_hs124_ d_h120_ d_hr_ d_hM_ => ?_)⟩), (fun d_hs5_ d_h4_ d_M127_ _ d_hF131_ d_r126_ d_hs133_ d_h129_ d_hr_ d_hM_ => ?_)⟩
    · have mi := x6miss c_hs20_
      have sv := sw c_j13_ (by omega)
      have ye23_ := eT c_e23_
      have we14_ := eT d_e14_
      rw [show d_j15_ = c_j13_ by omega] at we14_
      have we19_ := eT d_e19_
      rw [show d_j20_ = c_j13_ by omega] at we19_
      have we24_ := eT d_e24_
      rw [show d_j25_ = c_j13_ by omega] at we24_
      omega
    · have mi := x6miss c_hs20_
      have sv := sw c_j13_ (by omega)
      have ye23_ := eT c_e23_
      have we14_ := eT d_e14_
      rw [show d_j15_ = c_j13_ by omega] at we14_
      have we19_ := eT d_e19_
      rw [show d_j20_ = c_j13_ by omega] at we19_
      have we24_ := eT d_e24_
      rw [show d_j25_ = c_j13_ by omega] at we24_
      omega
    · refine ⟨sameE hR hD.2.1 c_hF96_ c_hM_ d_hF105_ d_hM_, i32e ?_⟩
      have e := err_r c_hs98_ (by first | decide | simp | (dsimp only; omega))
      rw [c_hr_, d_hr_, e, d_h103_]
      decide
    · have mi := x6miss c_hs20_
      have sv := sw c_j13_ (by omega)
      have ye23_ := eT c_e23_
      have we14_ := eT d_e14_
      rw [show d_j15_ = c_j13_ by omega] at we14_
      omega
    · have mi := x6miss c_hs20_
      have sv := sw c_j13_ (by omega)
      have ye23_ := eT c_e23_
      omega
    · have mi := x6miss c_hs20_
      have sv := sw c_j13_ (by omega)
      have ye23_ := eT c_e23_
      omega
  · refine xE_SP_X12_lays h2 ⟨(fun d_hs5_ d_h4_ => ⟨(fun d_hs11_ d_h10_ d_j15_ d_h16_ d_z13_ d_e14_ => ⟨(fun d_h17_ d_j20_ d_h21_ d_z18_ d_e19_ => ⟨(fun d_h22_ d_j25_ d_h26_ d_z23_ d_e24_ d_h27_ => ⟨(fun d_h28_ d_v4_81 d_hv0_81 d_v3_81 d_M_81 d_hL_81 _ d_hF_81 d_j33_ d_h34_ d_z31_ d_e32_ d_h35_ d_h36_ d_h37_ d_hr_ d_hM_ => ?_), (fun d_h28_ d_M93_ _ d_hF97_ d_r92_ d_hs99_ d_h95_ d_hr_ d_hM_ => ?_)⟩), (fun d_h22_ d_M101_ _ d_hF105_ d_r100_ d_hs107_ d_h103_ d_hr_ d_hM_ => ?_)⟩), (fun d_h17_ d_M109_ _ d_hF113_ d_r108_ d_hs115_ d_h111_ d_hr_ d_hM_ => ?_)⟩), (fun d_hs11_ d_h10_ d_M118_ _ d_hF122_ d_r117_ d_hs124_ d_h120_ d_hr_ d_hM_ => ?_)⟩), (fun d_hs5_ d_h4_ d_M127_ _ d_hF131_ d_r126_ d_hs133_ d_h129_ d_hr_ d_hM_ => ?_)⟩
    · have mi := x6miss c_hs20_
      have sv := sw c_j13_ (by omega)
      have we14_ := eT d_e14_
      rw [show d_j15_ = c_j13_ by omega] at we14_
      have we19_ := eT d_e19_
      rw [show d_j20_ = c_j13_ by omega] at we19_
      have we24_ := eT d_e24_
      rw [show d_j25_ = c_j13_ by omega] at we24_
      omega
    · have mi := x6miss c_hs20_
      have sv := sw c_j13_ (by omega)
      have we14_ := eT d_e14_
      rw [show d_j15_ = c_j13_ by omega] at we14_
      have we19_ := eT d_e19_
      rw [show d_j20_ = c_j13_ by omega] at we19_
      have we24_ := eT d_e24_
      rw [show d_j25_ = c_j13_ by omega] at we24_
      omega
    · have mi := x6miss c_hs20_
      have sv := sw c_j13_ (by omega)
      have we14_ := eT d_e14_
      rw [show d_j15_ = c_j13_ by omega] at we14_
      have we19_ := eT d_e19_
      rw [show d_j20_ = c_j13_ by omega] at we19_
      omega
    · refine ⟨sameE hR hD.2.1 c_hF104_ c_hM_ d_hF113_ d_hM_, i32e ?_⟩
      have e := err_r c_hs106_ (by first | decide | simp | (dsimp only; omega))
      rw [c_hr_, d_hr_, e, d_h111_]
      decide
    · have mi := x6miss c_hs20_
      have sv := sw c_j13_ (by omega)
      omega
    · have mi := x6miss c_hs20_
      have sv := sw c_j13_ (by omega)
      omega
  · refine xE_SP_X12_lays h2 ⟨(fun d_hs5_ d_h4_ => ⟨(fun d_hs11_ d_h10_ d_j15_ d_h16_ d_z13_ d_e14_ => ⟨(fun d_h17_ d_j20_ d_h21_ d_z18_ d_e19_ => ⟨(fun d_h22_ d_j25_ d_h26_ d_z23_ d_e24_ d_h27_ => ⟨(fun d_h28_ d_v4_81 d_hv0_81 d_v3_81 d_M_81 d_hL_81 _ d_hF_81 d_j33_ d_h34_ d_z31_ d_e32_ d_h35_ d_h36_ d_h37_ d_hr_ d_hM_ => ?_), (fun d_h28_ d_M93_ _ d_hF97_ d_r92_ d_hs99_ d_h95_ d_hr_ d_hM_ => ?_)⟩), (fun d_h22_ d_M101_ _ d_hF105_ d_r100_ d_hs107_ d_h103_ d_hr_ d_hM_ => ?_)⟩), (fun d_h17_ d_M109_ _ d_hF113_ d_r108_ d_hs115_ d_h111_ d_hr_ d_hM_ => ?_)⟩), (fun d_hs11_ d_h10_ d_M118_ _ d_hF122_ d_r117_ d_hs124_ d_h120_ d_hr_ d_hM_ => ?_)⟩), (fun d_hs5_ d_h4_ d_M127_ _ d_hF131_ d_r126_ d_hs133_ d_h129_ d_hr_ d_hM_ => ?_)⟩
    · omega
    · omega
    · omega
    · omega
    · refine ⟨sameE hR hD.2.1 c_hF113_ c_hM_ d_hF122_ d_hM_, i32e ?_⟩
      have e := err_r c_hs115_ (by first | decide | simp | (dsimp only; omega))
      rw [c_hr_, d_hr_, e, d_h120_]
      decide
    · refine ⟨sameE hR hD.2.1 c_hF113_ c_hM_ d_hF131_ d_hM_, i32e ?_⟩
      have e := err_r c_hs115_ (by first | decide | simp | (dsimp only; omega))
      rw [c_hr_, d_hr_, e, d_h129_]
      decide
  · refine xE_SP_X12_lays h2 ⟨(fun d_hs5_ d_h4_ => ⟨(fun d_hs11_ d_h10_ d_j15_ d_h16_ d_z13_ d_e14_ => ⟨(fun d_h17_ d_j20_ d_h21_ d_z18_ d_e19_ => ⟨(fun d_h22_ d_j25_ d_h26_ d_z23_ d_e24_ d_h27_ => ⟨(fun d_h28_ d_v4_81 d_hv0_81 d_v3_81 d_M_81 d_hL_81 _ d_hF_81 d_j33_ d_h34_ d_z31_ d_e32_ d_h35_ d_h36_ d_h37_ d_hr_ d_hM_ => ?_), (fun d_h28_ d_M93_ _ d_hF97_ d_r92_ d_hs99_ d_h95_ d_hr_ d_hM_ => ?_)⟩), (fun d_h22_ d_M101_ _ d_hF105_ d_r100_ d_hs107_ d_h103_ d_hr_ d_hM_ => ?_)⟩), (fun d_h17_ d_M109_ _ d_hF113_ d_r108_ d_hs115_ d_h111_ d_hr_ d_hM_ => ?_)⟩), (fun d_hs11_ d_h10_ d_M118_ _ d_hF122_ d_r117_ d_hs124_ d_h120_ d_hr_ d_hM_ => ?_)⟩), (fun d_hs5_ d_h4_ d_M127_ _ d_hF131_ d_r126_ d_hs133_ d_h129_ d_hr_ d_hM_ => ?_)⟩
    · omega
    · omega
    · omega
    · omega
    · refine ⟨sameE hR hD.2.1 c_hF122_ c_hM_ d_hF122_ d_hM_, i32e ?_⟩
      have e := err_r c_hs124_ (by first | decide | simp | (dsimp only; omega))
      rw [c_hr_, d_hr_, e, d_h120_]
      decide
    · refine ⟨sameE hR hD.2.1 c_hF122_ c_hM_ d_hF131_ d_hM_, i32e ?_⟩
      have e := err_r c_hs124_ (by first | decide | simp | (dsimp only; omega))
      rw [c_hr_, d_hr_, e, d_h129_]
      decide
end
section
/-! the call click -/
theorem cb_17 {v : Int32} {M M1 D D2 : mM} {r1 r2 : Int32} (h1 : SP_X11_click v M r1 M1) (h2 : SP_X12_click v D r2 D2) (hR : RW 0 M.1 (D.1 (50, 0, 0))) (hD : InvD D) (hu : (D.1 (12, 0, 0) 7).toInt = -1) : RW 0 M1.1 (D2.1 (50, 0, 0)) ∧ r1 = r2 := by
  have q0 := il_0
  have q1 := il_1
  have nW := nWa_b hD.2.1
  have bW := eT hR.1.2.2.1.1
  have n2 : (D.1 (50, 0, 0) 2).toInt = nWa (D.1 (50, 0, 0)) := rfl
  have T := WB hR v
  have kb : 0 ≤ v.toInt → v.toInt < nWa (D.1 (50, 0, 0)) → 0 ≤ (D.1 (50, 0, 0) (180 + 9 * v.toInt.toNat)).toInt ∧ (D.1 (50, 0, 0) (180 + 9 * v.toInt.toNat)).toInt ≤ 7 := fun a b => ((hD.2.1.1 (180 + 9 * v.toInt.toNat)).2.2.2.2.2.2.2 (by omega) (by omega)).1 (by omega)
  refine xE_SP_X11_click h1 ⟨(fun c_hs5_ c_h4_ c_j7_ c_h8_ c_h9_ c_r10_ c_hs14_ c_h13_ => ⟨(fun c_h15_ c_M17_ _ c_hF21_ c_r16_ c_hs23_ c_hr_ c_hM_ => ?_), (fun c_h15_ c_M25_ _ c_hF29_ c_r24_ c_hs31_ c_hr_ c_hM_ => ?_)⟩), (fun c_hs5_ c_M34_ _ c_hF38_ c_r33_ c_hs40_ c_hr_ c_hM_ => ?_)⟩
  ·
    refine xE_SP_X12_click h2 ⟨(fun d_hs5_ d_h4_ d_r7_ d_hs11_ d_h10_ d_r12_ d_hs16_ d_h15_ => ⟨(fun d_h17_ d_M19_ _ d_hF23_ d_r18_ d_hs25_ d_h21_ d_hr_ d_hM_ => ?_), (fun d_h17_ d_M27_ _ d_hF31_ d_r26_ d_hs33_ d_hr_ d_hM_ => ?_)⟩), (fun d_hs5_ d_M36_ _ d_hF40_ d_r35_ d_hs42_ d_h38_ d_hr_ d_hM_ => ?_)⟩
    · skip
      have qh := x10has c_hs5_
      obtain rfl : c_j7_ = v.toInt.toNat := by omega
      have T1 := T.resolve_left (fun z => z (by omega))
      have kb1 := kb (by omega) (by omega)
      have io := x9isOf c_hs14_ (by rw [T1.1]; exact kb1)
      rw [T1.1] at io
      have qi := is2x d_hs5_
      have ko := x12kindOf d_hs11_ (by omega)
      have iu := x12isUnder d_hs16_ (by omega)
      rw [ko] at iu
      rcases io with io | io <;> rcases iu with iu | iu <;> first | omega | exact absurd io.2 iu.2 | exact absurd iu.2 io.2
    · skip
      have qh := x10has c_hs5_
      obtain rfl : c_j7_ = v.toInt.toNat := by omega
      have T1 := T.resolve_left (fun z => z (by omega))
      have kb1 := kb (by omega) (by omega)
      have io := x9isOf c_hs14_ (by rw [T1.1]; exact kb1)
      rw [T1.1] at io
      have qi := is2x d_hs5_
      have ko := x12kindOf d_hs11_ (by omega)
      have iu := x12isUnder d_hs16_ (by omega)
      rw [ko] at iu
      have B := click_both c_hs23_ d_hs33_ hR.1 hD (by omega) hu
      obtain ⟨b1, b2, b3, b4, b5⟩ := B
      rw [c_hr_, d_hr_, c_hM_, d_hM_]
      refine ⟨RW_of hR hD.2.1 b2 (fun c k hc => c_hF21_ c k (fun z => by simp only [S_c_X10_makeClick, or_false] at z; omega)) (fun j hj => b5 j (by omega) (by omega)), b1⟩
    · skip
      have qh := x10has c_hs5_
      obtain rfl : c_j7_ = v.toInt.toNat := by omega
      have T1 := T.resolve_left (fun z => z (by omega))
      have kb1 := kb (by omega) (by omega)
      have io := x9isOf c_hs14_ (by rw [T1.1]; exact kb1)
      rw [T1.1] at io
      have qi := is2x d_hs5_
      omega
  ·
    refine xE_SP_X12_click h2 ⟨(fun d_hs5_ d_h4_ d_r7_ d_hs11_ d_h10_ d_r12_ d_hs16_ d_h15_ => ⟨(fun d_h17_ d_M19_ _ d_hF23_ d_r18_ d_hs25_ d_h21_ d_hr_ d_hM_ => ?_), (fun d_h17_ d_M27_ _ d_hF31_ d_r26_ d_hs33_ d_hr_ d_hM_ => ?_)⟩), (fun d_hs5_ d_M36_ _ d_hF40_ d_r35_ d_hs42_ d_h38_ d_hr_ d_hM_ => ?_)⟩
    · skip
      have qh := x10has c_hs5_
      obtain rfl : c_j7_ = v.toInt.toNat := by omega
      have T1 := T.resolve_left (fun z => z (by omega))
      have kb1 := kb (by omega) (by omega)
      have io := x9isOf c_hs14_ (by rw [T1.1]; exact kb1)
      rw [T1.1] at io
      have qi := is2x d_hs5_
      have ko := x12kindOf d_hs11_ (by omega)
      have iu := x12isUnder d_hs16_ (by omega)
      rw [ko] at iu
      refine ⟨sameE hR hD.2.1 c_hF29_ c_hM_ d_hF23_ d_hM_, i32e ?_⟩
      have e := err_r c_hs31_ (by first | decide | simp | (dsimp only; omega))
      rw [c_hr_, d_hr_, e, d_h21_]
      decide
    · skip
      have qh := x10has c_hs5_
      obtain rfl : c_j7_ = v.toInt.toNat := by omega
      have T1 := T.resolve_left (fun z => z (by omega))
      have kb1 := kb (by omega) (by omega)
      have io := x9isOf c_hs14_ (by rw [T1.1]; exact kb1)
      rw [T1.1] at io
      have qi := is2x d_hs5_
      have ko := x12kindOf d_hs11_ (by omega)
      have iu := x12isUnder d_hs16_ (by omega)
      rw [ko] at iu
      rcases io with io | io <;> rcases iu with iu | iu <;> first | omega | exact absurd io.2 iu.2 | exact absurd iu.2 io.2
    · skip
      have qh := x10has c_hs5_
      obtain rfl : c_j7_ = v.toInt.toNat := by omega
      have T1 := T.resolve_left (fun z => z (by omega))
      have kb1 := kb (by omega) (by omega)
      have io := x9isOf c_hs14_ (by rw [T1.1]; exact kb1)
      rw [T1.1] at io
      have qi := is2x d_hs5_
      omega
  ·
    refine xE_SP_X12_click h2 ⟨(fun d_hs5_ d_h4_ d_r7_ d_hs11_ d_h10_ d_r12_ d_hs16_ d_h15_ => ⟨(fun d_h17_ d_M19_ _ d_hF23_ d_r18_ d_hs25_ d_h21_ d_hr_ d_hM_ => ?_), (fun d_h17_ d_M27_ _ d_hF31_ d_r26_ d_hs33_ d_hr_ d_hM_ => ?_)⟩), (fun d_hs5_ d_M36_ _ d_hF40_ d_r35_ d_hs42_ d_h38_ d_hr_ d_hM_ => ?_)⟩
    · skip
      have qh := x10has c_hs5_
      have qi := is2x d_hs5_
      have ko := x12kindOf d_hs11_ (by omega)
      have iu := x12isUnder d_hs16_ (by omega)
      rw [ko] at iu
      omega
    · skip
      have qh := x10has c_hs5_
      have qi := is2x d_hs5_
      have ko := x12kindOf d_hs11_ (by omega)
      have iu := x12isUnder d_hs16_ (by omega)
      rw [ko] at iu
      omega
    · skip
      have qh := x10has c_hs5_
      have qi := is2x d_hs5_
      refine ⟨sameE hR hD.2.1 c_hF38_ c_hM_ d_hF40_ d_hM_, i32e ?_⟩
      have e := err_r c_hs40_ (by first | decide | simp | (dsimp only; omega))
      rw [c_hr_, d_hr_, e, d_h38_]
      decide
/-! feed -/
theorem feed_byte {v : Int64} {z y : Int32} {k : Nat} (hk : k < 8) (hz : z.toInt = 8 * (k : Int)) (hy : y.toInt = 8 * (k : Int)) : (v.toUInt64 >>> (z.toInt64.toUInt64 &&& Int64.toUInt64 63)).toInt64.toInt32 &&& (255 : Int32) = ((v >>> (y.toInt64 &&& 63)) &&& (255 : Int64)).toInt32 := by
  obtain rfl : z = y := i32e (hz.trans hy.symm)
  have a0 : ∀ k : Nat, k < 8 → (Int32.ofNat (8 * k)).toInt = 8 * (k : Int) := by decide +kernel
  have a1 : ∀ k : Nat, k < 8 → (((Int32.ofNat (8 * k)).toInt64.toUInt64 &&& Int64.toUInt64 63).toBitVec % 64).toNat = 8 * k := by decide +kernel
  have a2 : ∀ k : Nat, k < 8 → (((Int32.ofNat (8 * k)).toInt64 &&& 63).toBitVec.smod 64).toNat = 8 * k := by decide +kernel
  have m32 : ∀ i : Nat, i < 32 → (255 : Int32).toBitVec.getLsbD i = decide (i < 8) := by decide +kernel
  have m64 : ∀ i : Nat, i < 32 → (255 : Int64).toBitVec.getLsbD i = decide (i < 8) := by decide +kernel
  have e : z = Int32.ofNat (8 * k) := i32e (hz.trans (a0 k hk).symm)
  rw [e]
  apply Int32.toBitVec_inj.mp
  apply BitVec.eq_of_getLsbD_eq
  intro i hi
  show (BitVec.signExtend 32 (v.toUInt64 >>> ((Int32.ofNat (8 * k)).toInt64.toUInt64 &&& Int64.toUInt64 63)).toBitVec &&& (255 : Int32).toBitVec).getLsbD i = (BitVec.signExtend 32 ((v >>> ((Int32.ofNat (8 * k)).toInt64 &&& 63)).toBitVec &&& (255 : Int64).toBitVec)).getLsbD i
  rw [BitVec.getLsbD_and, BitVec.getLsbD_signExtend, BitVec.getLsbD_signExtend, BitVec.getLsbD_and, m32 i hi, m64 i hi]
  by_cases q : i < 8
  · have l1 : (v.toUInt64 >>> ((Int32.ofNat (8 * k)).toInt64.toUInt64 &&& Int64.toUInt64 63)).toBitVec.getLsbD i = v.toBitVec.getLsbD (8 * k + i) := by
      rw [UInt64.toBitVec_shiftRight]
      show (v.toBitVec >>> (((Int32.ofNat (8 * k)).toInt64.toUInt64 &&& Int64.toUInt64 63).toBitVec % 64).toNat).getLsbD i = _
      rw [a1 k hk, BitVec.getLsbD_ushiftRight]
    have l2 : (v >>> ((Int32.ofNat (8 * k)).toInt64 &&& 63)).toBitVec.getLsbD i = v.toBitVec.getLsbD (8 * k + i) := by
      rw [Int64.toBitVec_shiftRight]
      show (v.toBitVec.sshiftRight (((Int32.ofNat (8 * k)).toInt64 &&& 63).toBitVec.smod 64).toNat).getLsbD i = _
      rw [a2 k hk, BitVec.getLsbD_sshiftRight, if_pos (by omega)]
      simp [Nat.not_le.mpr (show i < 64 by omega)]
    rw [l1, l2]
    simp [hi, q, show i < 64 by omega]
  · simp [q, show i < 64 by omega]
theorem x5add0 {v : Int32} {M M' : mM} (h : SP_X5_add 0 0 v M M') (h0 : 0 ≤ (M.1 (5, 0, 0) 1).toInt ∧ (M.1 (5, 0, 0) 1).toInt < 48) : ∃ z : Int32, z = M.1 (5, 0, 0) 1 + (1 : Int32) ∧ M' = up (up M (33, 0, 0) (M.1 (5, 0, 0) 1).toInt.toNat v) (5, 0, 0) 1 z := by
  have rl0 : ((rl 0 : Nat) : Int) = 48 := by decide
  refine xE_SP_X5_add h (fun z1_ e2_ => ⟨(fun h3_ hM_ => ?_), (fun h3_ z6_ h7_ => ⟨(fun h8_ hM_ => ?_), (fun h8_ j13_ h14_ M11_ hM12_ z17_ e18_ z19_ h20_ M21_ hM22_ hM_ => ?_)⟩)⟩)
  · have := eT e2_; omega
  · have := eT e2_; omega
  · have y := eT e2_
    obtain rfl : j13_ = z1_.toInt.toNat := by omega
    have e : z17_ = z1_ := by rw [e18_, zupR hM12_ (by simp), e2_]
    rw [← e2_]
    exact ⟨z19_, by rw [h20_, e], by rw [hM_, hM22_, hM12_]⟩
def FDR (C0 D0 : mM) (x y : Int32 × mM) : Prop := x.1.toInt = y.1.toInt ∧ RW 0 x.2.1 (y.2.1 (50, 0, 0)) ∧ x.2.1 (5, 0, 0) 1 = y.2.1 (50, 0, 0) 4
theorem RW_fed {q q2 : rf → Nat → Int32} {n n2 : Nat → Int32} {x z : Int32} (h : RW 0 q n) (hN : NW5 n) (h48 : (n 4).toInt < 48) (hx : 0 ≤ x.toInt ∧ x.toInt ≤ 255) (hz : z.toInt = (n 4).toInt + 1) (hq : ∀ (c : rf) (k : Nat), ¬ c.1 = 5 → ¬ (c = (33, 0, 0) ∧ k = (n 4).toInt.toNat) → q2 c k = q c k) (hx2 : q2 (33, 0, 0) (n 4).toInt.toNat = x) (hn : n2 = upd (upd n (273 + (n 4).toInt.toNat) x) 4 z) : RW 0 q2 n2 := by
  have n4 := (n345_b hN).2.1
  have nn : ∀ j, ¬ j = 4 → ¬ j = 273 + (n 4).toInt.toNat → n2 j = n j := fun j a b => by rw [hn, updN a, updN b]
  obtain ⟨⟨hL, hT, hW, hX, hO, hM⟩, hE, hA, hY⟩ := h
  have th := nTh_b hN
  have nw := nWa_b hN
  have nb := n345_b hN
  have qq : ∀ (r w k : Nat), ¬ r = 5 → ¬ r = 33 → q2 (r, 0, w) k = q (r, 0, w) k := fun r w k h2 h3 => hq _ _ h2 (fun z => h3 (congrArg (fun c : rf => c.1) z.1))
  refine ⟨⟨LWR_keep hL (fun r k w => qq r 0 k (by omega) (by omega)) (fun j hj => nn j (by omega) (by omega)), THR_keep hT th.2 (fun r k w => qq r 0 k (by omega) (by omega)) (fun j hj => nn j (by omega) (by omega)),
    WAR_keep hW nw.2 (fun r w k z => qq r w k (by omega) (by omega)) (qq 10 0 6 (by omega) (by omega)) (fun j hj => nn j (by omega) (by omega)), TXR_keep hX (TXz hN) (fun r u k z _ => qq r u k (by omega) (by omega)) (fun j h1 h2 => nn j (by omega) (by omega)),
    OCC_keep hO th.2 nw.2 (fun k => qq 35 0 k (by omega) (by omega)) (fun j hj => nn j (by omega) (by omega)) (fun j hj => nn j (by omega) (by omega)),
    MIR_keep hM th.2 nw.2 (fun j hj => nn j (by omega) (by omega)) (fun w h1 h2 => ⟨fun k hk => nn _ (by omega) (by omega), fun c hc => nn _ (by omega) (by omega)⟩)⟩,
    LER_keep hE nb.1.2 (fun r k w => qq r 0 k (by omega) (by omega)) (fun j hj => nn j (by omega) (by omega)), fun i hi => ?_, fun i hi => ?_⟩
  · have e4 : n2 4 = z := by rw [hn, updE rfl]
    rw [e4] at hi
    by_cases e : (i : Int) = (n 4).toInt
    · obtain rfl : i = (n 4).toInt.toNat := by omega
      rw [hx2, hn, updN (by omega), updE rfl]
      exact ⟨rfl, hx⟩
    · rw [hq _ _ (by simp) (fun z => by have := z.2; omega), nn _ (by omega) (by omega)]
      exact hA i (by omega)
  · rw [nn 5 (by omega) (by omega)] at hi
    rw [hq _ _ (by simp) (fun z => by have := congrArg (fun c : rf => c.2.2) z.1; simp at this), nn _ (by omega) (by omega)]
    exact hY i hi
theorem feed_loop {v : Int64} {u : Int32} {C D : mM} {z t : Int32 × mM} (hu : 1 ≤ u.toInt ∧ u.toInt ≤ 8) (hR : RW 0 C.1 (D.1 (50, 0, 0))) (h4 : C.1 (5, 0, 0) 1 = D.1 (50, 0, 0) 4)
    (hc : RCH (fun x y : Int32 × mM => ST_X11_feed_39 v u C x.1 x.2 y.1 y.2) ((0 : Int32), C) z) (hd : RCH (fun x y : Int32 × mM => ST_X12_feed_40 v u D x.1 x.2 y.1 y.2) ((0 : Int32), D) t) (fc : u.toInt ≤ z.1.toInt) (fd : u.toInt ≤ t.1.toInt) : FDR C D z t := by
  refine lockE (FDR C D) hc hd ⟨rfl, hR, h4⟩ ?_ ?_ ?_
  · intro x z y t r s1 s2
    obtain ⟨r1, r2, r3⟩ := r
    (try dsimp only at s1 s2)
    refine xE_ST_X11_feed_39 s1 (fun c_hv0_39 _ c_hF_39 c_h14_ c_z17_ c_h18_ c_w19_ c_h20_ c_z21_ c_h22_ c_z23_ c_h25_ c_h24_ c_M26_ _ c_hF30_ c_hs32_ c_z33_ c_h34_ c_hq_v4_39y c_hM_ => ?_)
    refine xE_ST_X12_feed_40 s2 (fun d_hv0_40 d_hv1_40 d_hv2_40 d_hI_40 d_hF_40 d_h14_ d_z18_ d_e19_ d_h21_ d_z22_ d_h23_ d_z24_ d_h25_ d_w26_ d_h27_ d_w28_ d_h29_ d_z30_ d_h31_ d_j34_ d_h35_ d_M32_ d_hM33_ d_z39_ d_e40_ d_h41_ d_h42_ d_z43_ d_h44_ d_M45_ d_hM46_ d_z50_ d_h51_ d_hq_v4_40y d_hM_ => ?_)
    have y1 := eT d_e19_
    have e3 := eT r3
    have ca := x5add0 c_hs32_ (by omega)
    obtain ⟨zz, ca1, ca2⟩ := ca
    have za : zz.toInt = (x.2.1 (5, 0, 0) 1).toInt + 1 := by rw [ca1, addI (x := x.2.1 (5, 0, 0) 1) rfl il_1 (by omega) (by omega)]
    obtain rfl : d_j34_ = 273 + (y.2.1 (50, 0, 0) 4).toInt.toNat := by omega
    have by' : d_z30_ = c_z23_ := by
      rw [d_h31_, d_h29_, d_h27_, c_h25_, c_h22_, c_h20_]
      exact (feed_byte (k := x.1.toInt.toNat) (by omega) (by omega) (by omega)).symm
    obtain rfl : d_z43_ = zz := i32e (by omega)
    have k1 := eT c_hq_v4_39y
    have k2 := eT d_hq_v4_40y
    refine ⟨by omega, ?_, ?_⟩
    · rw [c_hM_, d_hM_, d_hM46_, up_row, d_hM33_, up_row]
      refine RW_fed (x := d_z30_) (z := d_z43_) r2 d_hI_40.2.1 (by omega) (by rw [by']; omega) (by omega) (fun c k a b => ?_) ?_ rfl
      · rw [ca2, zupN rfl (fun q => a (by rw [q.1])), zupN rfl (fun q => b ⟨q.1, by rw [← r3]; exact q.2⟩)]
      · rw [ca2, zupR rfl (by simp), zupE rfl rfl (by rw [r3]), by']
    · rw [c_hM_, d_hM_, ca2, zupE rfl rfl rfl, d_hM46_, zupE rfl rfl rfl]
  · intro y y' r s2
    obtain ⟨r1, -⟩ := r
    (try dsimp only at s2)
    refine xE_ST_X12_feed_40 s2 (fun d_hv0_40 d_hv1_40 d_hv2_40 _ d_hF_40 d_h14_ d_z18_ d_e19_ d_h21_ d_z22_ d_h23_ d_z24_ d_h25_ d_w26_ d_h27_ d_w28_ d_h29_ d_z30_ d_h31_ d_j34_ d_h35_ d_M32_ d_hM33_ d_z39_ d_e40_ d_h41_ d_h42_ d_z43_ d_h44_ d_M45_ d_hM46_ d_z50_ d_h51_ d_hq_v4_40y d_hM_ => ?_)
    omega
  · intro x x' r s1
    obtain ⟨r1, -⟩ := r
    (try dsimp only at s1)
    refine xE_ST_X11_feed_39 s1 (fun c_hv0_39 _ c_hF_39 c_h14_ c_z17_ c_h18_ c_w19_ c_h20_ c_z21_ c_h22_ c_z23_ c_h25_ c_h24_ c_M26_ _ c_hF30_ c_hs32_ c_z33_ c_h34_ c_hq_v4_39y c_hM_ => ?_)
    omega
theorem cb_14 {v : Int64} {u : Int32} {M M1 D D2 : mM} {r1 r2 : Int32} (h1 : SP_X11_feed v u M r1 M1) (h2 : SP_X12_feed v u D r2 D2) (hR : RW 0 M.1 (D.1 (50, 0, 0))) (hD : InvD D) (hu : (D.1 (12, 0, 0) 7).toInt = -1) (h4 : M.1 (5, 0, 0) 1 = D.1 (50, 0, 0) 4) : RW 0 M1.1 (D2.1 (50, 0, 0)) ∧ r1 = r2 := by
  have q0 := il_0
  have q1 := il_1
  have rl0 : ((rl 0 : Nat) : Int) = 48 := by decide
  have e4 := eT h4
  have n4 := (n345_b hD.2.1).2.1
  have room : ∀ {r : Int32}, SP_X5_room 0 0 M r → r.toInt = 48 - (D.1 (50, 0, 0) 4).toInt := fun {r} hh => by
    refine xE_SP_X5_room hh (fun e_z1_ e_h2_ e_z3_ e_e4_ e_z5_ e_h6_ e_hr_ => ?_)
    have y := eT e_e4_
    rw [e_hr_, e_h6_, subI (x := e_z1_) (y := e_z3_) rfl rfl (by omega) (by omega)]
    omega
  refine xE_SP_X11_feed h1 ⟨(fun c_hs5_ c_h4_ c_r7_ c_hs11_ => ⟨(fun c_h12_ c_v4_39 c_hv0_39 c_M_39 c_hL_39 _ c_hF_39 c_h14_ c_z15_ c_e16_ c_hr_ c_hM_ => ?_), (fun c_h12_ c_M36_ _ c_hF40_ c_r35_ c_hs42_ c_hr_ c_hM_ => ?_)⟩), (fun c_hs5_ c_h4_ c_M45_ _ c_hF49_ c_r44_ c_hs51_ c_hr_ c_hM_ => ?_)⟩
  ·
    refine xE_SP_X12_feed h2 ⟨(fun d_hs5_ d_h4_ d_z7_ d_e8_ d_h9_ d_z10_ d_h11_ => ⟨(fun d_h12_ d_v4_40 d_hv0_40 d_hv1_40 d_M_40 d_hv2_40 d_hL_40 _ d_hF_40 d_h14_ d_z15_ d_e16_ d_h17_ d_hr_ d_hM_ => ?_), (fun d_h12_ d_M53_ _ d_hF57_ d_r52_ d_hs59_ d_h55_ d_hr_ d_hM_ => ?_)⟩), (fun d_hs5_ d_h4_ d_M62_ _ d_hF66_ d_r61_ d_hs68_ d_h64_ d_hr_ d_hM_ => ?_)⟩
    · skip
      have rm := room c_hs11_
      have yde8_ := eT d_e8_
      have L := feed_loop (z := (c_v4_39, c_M_39)) (t := (d_v4_40, d_M_40)) (by omega) hR h4 c_hL_39 d_hL_40 (by omega) (by omega)
      obtain ⟨l1, l2, l3⟩ := L
      rw [c_hM_, d_hM_, c_hr_, d_hr_, c_e16_, d_e16_]
      exact ⟨l2, l3⟩
    · skip
      have rm := room c_hs11_
      have yde8_ := eT d_e8_
      omega
    · skip
      have rm := room c_hs11_
      omega
  ·
    refine xE_SP_X12_feed h2 ⟨(fun d_hs5_ d_h4_ d_z7_ d_e8_ d_h9_ d_z10_ d_h11_ => ⟨(fun d_h12_ d_v4_40 d_hv0_40 d_hv1_40 d_M_40 d_hv2_40 d_hL_40 _ d_hF_40 d_h14_ d_z15_ d_e16_ d_h17_ d_hr_ d_hM_ => ?_), (fun d_h12_ d_M53_ _ d_hF57_ d_r52_ d_hs59_ d_h55_ d_hr_ d_hM_ => ?_)⟩), (fun d_hs5_ d_h4_ d_M62_ _ d_hF66_ d_r61_ d_hs68_ d_h64_ d_hr_ d_hM_ => ?_)⟩
    · skip
      have rm := room c_hs11_
      have yde8_ := eT d_e8_
      omega
    · skip
      have rm := room c_hs11_
      have yde8_ := eT d_e8_
      refine ⟨sameE hR hD.2.1 c_hF40_ c_hM_ d_hF57_ d_hM_, i32e ?_⟩
      have e := err_r c_hs42_ (by first | decide | simp | (dsimp only; omega))
      rw [c_hr_, d_hr_, e, d_h55_]
      decide
    · skip
      have rm := room c_hs11_
      omega
  ·
    refine xE_SP_X12_feed h2 ⟨(fun d_hs5_ d_h4_ d_z7_ d_e8_ d_h9_ d_z10_ d_h11_ => ⟨(fun d_h12_ d_v4_40 d_hv0_40 d_hv1_40 d_M_40 d_hv2_40 d_hL_40 _ d_hF_40 d_h14_ d_z15_ d_e16_ d_h17_ d_hr_ d_hM_ => ?_), (fun d_h12_ d_M53_ _ d_hF57_ d_r52_ d_hs59_ d_h55_ d_hr_ d_hM_ => ?_)⟩), (fun d_hs5_ d_h4_ d_M62_ _ d_hF66_ d_r61_ d_hs68_ d_h64_ d_hr_ d_hM_ => ?_)⟩
    · skip
      have yde8_ := eT d_e8_
      omega
    · skip
      have yde8_ := eT d_e8_
      omega
    · skip
      refine ⟨sameE hR hD.2.1 c_hF49_ c_hM_ d_hF66_ d_hM_, i32e ?_⟩
      have e := err_r c_hs51_ (by first | decide | simp | (dsimp only; omega))
      rw [c_hr_, d_hr_, e, d_h64_]
      decide
end
