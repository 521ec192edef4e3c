section
/-! the readers: answers over worlds alike -/
theorem x7fact {v u : Int32} {M : mM} {r : Int32} {n : Nat → Int32} (h : SP_X7_factOf 0 v u M r) (hR : RW 0 M.1 n) (hN : NW5 n) (hv : 0 ≤ v.toInt ∧ v.toInt < (n 1).toInt) (hu : 0 ≤ u.toInt ∧ u.toInt ≤ 3) : r = n (20 + 4 * v.toInt.toNat + u.toInt.toNat) := by
  have q0 := il_0
  have q1 := il_1
  have nT := nTh_b hN
  unfold nTh at nT
  have bT := eT hR.1.2.1.1
  have g := hR.1.2.1.2 v.toInt.toNat (by unfold nTh; omega)
  unfold SP_X7_factOf at h
  rcases h with (⟨hs5_, h4_, (⟨e7_, j10_, h11_, z8_, e9_, hr_⟩ | ⟨e7_, j14_, h15_, z12_, e13_, hr_⟩ | ⟨e7_, j18_, h19_, z16_, e17_, hr_⟩ | ⟨e7_, j22_, h23_, z20_, e21_, hr_⟩)⟩ | ⟨hs5_, hr_⟩)
  · obtain rfl : j10_ = v.toInt.toNat := by omega
    rw [hr_, e9_, g.1]
    congr 1
    omega
  · obtain rfl : j14_ = v.toInt.toNat := by omega
    rw [hr_, e13_, g.2.1]
    congr 1
    omega
  · obtain rfl : j18_ = v.toInt.toNat := by omega
    rw [hr_, e17_, g.2.2.1]
    congr 1
    omega
  · obtain rfl : j22_ = v.toInt.toNat := by omega
    rw [hr_, e21_, g.2.2.2]
    congr 1
    omega
  · exfalso
    have q := x7has hs5_
    omega
theorem an_1 {v : Int32} {u : Int32} {M M1 D D2 : mM} {r1 r2 : Int32} (h1 : SP_X11_thingIs v u M r1 M1) (h2 : SP_X12_thingIs v u D r2 D2) (hR : RW 0 M.1 (D.1 (50, 0, 0))) (hD : InvD D) (hu : (D.1 (12, 0, 0) 7).toInt = -1) : r1 = r2 := by
  have q0 := il_0
  have q1 := il_1
  have i2 : (2 : Int32).toInt = 2 := by decide
  have bT := eT hR.1.2.1.1
  have bW := eT hR.1.2.2.1.1
  have nT := nTh_b hD.2.1
  have nW := nWa_b hD.2.1
  unfold nTh at nT
  unfold nWa at nW
  unfold SP_X11_thingIs at h1
  rcases h1 with (⟨c_hs5_, c_h4_, (⟨c_hs11_, c_h10_, c_r13_, c_hs17_, c_hr_, c_hM_⟩ | ⟨c_hs11_, c_h10_, c_M20_, -, c_hF24_, c_r19_, c_hs26_, c_hr_, c_hM_⟩)⟩ | ⟨c_hs5_, c_M29_, -, c_hF33_, c_r28_, c_hs35_, c_hr_, c_hM_⟩)
  · have qc_hs5_ := x7has c_hs5_
    have yrc_ := eT c_hr_
    unfold SP_X12_thingIs at h2
    rcases h2 with (⟨d_hs5_, d_h4_, (⟨d_hs11_, d_h10_, d_r13_, d_hs17_, d_h16_, d_z18_, d_h19_, d_j22_, d_h23_, d_z20_, d_e21_, d_hr_, d_hM_⟩ | ⟨d_hs11_, d_h10_, d_M26_, -, d_hF30_, d_r25_, d_hs32_, d_h28_, d_hr_, d_hM_⟩)⟩ | ⟨d_hs5_, d_M35_, -, d_hF39_, d_r34_, d_hs41_, d_h37_, d_hr_, d_hM_⟩)
    · obtain rfl : d_j22_ = d_z18_.toInt.toNat := by omega
      have qd_hs5_ := is1x d_hs5_
      have yd_e21_ := eT d_e21_
      have yrd_ := eT d_hr_
      have hv : 0 ≤ v.toInt ∧ v.toInt < (D.1 (50, 0, 0) 1).toInt := by omega
      rw [c_hr_, x7fact c_hs17_ hR hD.2.1 hv (by omega), d_hr_, d_e21_]
      exact congrArg (D.1 (50, 0, 0)) (by omega)
    · have qd_hs5_ := is1x d_hs5_
      have yrd_ := eT d_hr_
      exfalso; omega
    · have qd_hs5_ := is1x d_hs5_
      have yrd_ := eT d_hr_
      exfalso; omega
  · have qc_hs5_ := x7has c_hs5_
    have qc_hs26_ := err1 c_hs26_
    have yrc_ := eT c_hr_
    unfold SP_X12_thingIs at h2
    rcases h2 with (⟨d_hs5_, d_h4_, (⟨d_hs11_, d_h10_, d_r13_, d_hs17_, d_h16_, d_z18_, d_h19_, d_j22_, d_h23_, d_z20_, d_e21_, d_hr_, d_hM_⟩ | ⟨d_hs11_, d_h10_, d_M26_, -, d_hF30_, d_r25_, d_hs32_, d_h28_, d_hr_, d_hM_⟩)⟩ | ⟨d_hs5_, d_M35_, -, d_hF39_, d_r34_, d_hs41_, d_h37_, d_hr_, d_hM_⟩)
    · obtain rfl : d_j22_ = d_z18_.toInt.toNat := by omega
      have qd_hs5_ := is1x d_hs5_
      have yd_e21_ := eT d_e21_
      have yrd_ := eT d_hr_
      exfalso; omega
    · have qd_hs5_ := is1x d_hs5_
      have yrd_ := eT d_hr_
      exact i32e (by omega)
    · have qd_hs5_ := is1x d_hs5_
      have yrd_ := eT d_hr_
      exact i32e (by omega)
  · have qc_hs5_ := x7has c_hs5_
    have qc_hs35_ := err1 c_hs35_
    have yrc_ := eT c_hr_
    unfold SP_X12_thingIs at h2
    rcases h2 with (⟨d_hs5_, d_h4_, (⟨d_hs11_, d_h10_, d_r13_, d_hs17_, d_h16_, d_z18_, d_h19_, d_j22_, d_h23_, d_z20_, d_e21_, d_hr_, d_hM_⟩ | ⟨d_hs11_, d_h10_, d_M26_, -, d_hF30_, d_r25_, d_hs32_, d_h28_, d_hr_, d_hM_⟩)⟩ | ⟨d_hs5_, d_M35_, -, d_hF39_, d_r34_, d_hs41_, d_h37_, d_hr_, d_hM_⟩)
    · obtain rfl : d_j22_ = d_z18_.toInt.toNat := by omega
      have qd_hs5_ := is1x d_hs5_
      have yd_e21_ := eT d_e21_
      have yrd_ := eT d_hr_
      exfalso; omega
    · have qd_hs5_ := is1x d_hs5_
      have yrd_ := eT d_hr_
      exact i32e (by omega)
    · have qd_hs5_ := is1x d_hs5_
      have yrd_ := eT d_hr_
      exact i32e (by omega)
theorem an_5 {v : Int32} {M M1 D D2 : mM} {r1 r2 : Int32} (h1 : SP_X11_at v M r1 M1) (h2 : SP_X12_at v D r2 D2) (hR : RW 0 M.1 (D.1 (50, 0, 0))) (hD : InvD D) (hu : (D.1 (12, 0, 0) 7).toInt = -1) : r1 = r2 := by
  have q0 := il_0
  have q1 := il_1
  have i2 : (2 : Int32).toInt = 2 := by decide
  have bT := eT hR.1.2.1.1
  have bW := eT hR.1.2.2.1.1
  have nT := nTh_b hD.2.1
  have nW := nWa_b hD.2.1
  unfold nTh at nT
  unfold nWa at nW
  unfold SP_X11_at at h1
  rcases h1 with (⟨c_hs5_, c_h4_, c_j9_, c_h10_, c_z7_, c_e8_, c_hr_, c_hM_⟩ | ⟨c_hs5_, c_h4_, c_M13_, -, c_hF17_, c_r12_, c_hs19_, c_hr_, c_hM_⟩)
  · obtain rfl : c_j9_ = v.toInt.toNat := by omega
    have yc_e8_ := eT c_e8_
    have yrc_ := eT c_hr_
    unfold SP_X12_at at h2
    rcases h2 with (⟨d_hs5_, d_h4_, d_r7_, d_hs11_, d_h10_, d_hr_, d_hM_⟩ | ⟨d_hs5_, d_h4_, d_M14_, -, d_hF18_, d_r13_, d_hs20_, d_h16_, d_hr_, d_hM_⟩)
    · have qd_hs11_ := x12in d_hs11_ hR.1.2.2.2.2.1 (by omega) (by omega)
      have yrd_ := eT d_hr_
      refine i32e ?_
      rw [c_hr_, c_e8_, d_hr_, qd_hs11_]
      unfold occ
      rw [if_neg (by omega)]
    · have yrd_ := eT d_hr_
      exfalso; omega
  · have qc_hs19_ := err1 c_hs19_
    have yrc_ := eT c_hr_
    unfold SP_X12_at at h2
    rcases h2 with (⟨d_hs5_, d_h4_, d_r7_, d_hs11_, d_h10_, d_hr_, d_hM_⟩ | ⟨d_hs5_, d_h4_, d_M14_, -, d_hF18_, d_r13_, d_hs20_, d_h16_, d_hr_, d_hM_⟩)
    · have qd_hs11_ := x12in d_hs11_ hR.1.2.2.2.2.1 (by omega) (by omega)
      have yrd_ := eT d_hr_
      exfalso; omega
    · have yrd_ := eT d_hr_
      exact i32e (by omega)
theorem x9fact {w : Nat} {u : Int32} {M : mM} {r : Int32} {n : Nat → Int32} (h : SP_X9_factOf 0 w u M r) (hR : RW 0 M.1 n) (hN : NW5 n) (hw : (w : Int) < (n 2).toInt) (hu : 0 ≤ u.toInt ∧ u.toInt ≤ 11) : (u.toInt < 9 ∧ r = n (180 + 9 * w + u.toInt.toNat)) ∨ (u.toInt = 9 ∧ r.toInt = reachI (n (180 + 9 * w)).toInt) ∨ (u.toInt = 10 ∧ r.toInt = speedI (n (180 + 9 * w)).toInt) ∨ (u.toInt = 11 ∧ r.toInt = earsI (n (180 + 9 * w)).toInt) := by
  have q0 := il_0
  have q1 := il_1
  have nW := nWa_b hN
  unfold nWa at nW
  have g := (hR.1.2.2.1.2 w (by unfold nWa; omega)).1
  have g0 : M.1 (9, 0, w) 0 = n (180 + 9 * w) := g 0 (by omega)
  have kb := ((hN.1 (180 + 9 * w)).2.2.2.2.2.2.2 (by omega) (by omega)).1 (by omega)
  rw [← g0] at kb
  unfold SP_X9_factOf at h
  rcases h with (⟨e1_, z2_, e3_, hr_⟩ | ⟨e1_, z4_, e5_, hr_⟩ | ⟨e1_, z6_, e7_, hr_⟩ | ⟨e1_, z8_, e9_, hr_⟩ | ⟨e1_, z10_, e11_, hr_⟩ | ⟨e1_, z12_, e13_, hr_⟩ | ⟨e1_, z14_, e15_, h16_, (⟨h17_, hr_⟩ | ⟨h17_, hr_⟩)⟩ | ⟨e1_, z18_, e19_, hr_⟩ | ⟨e1_, z20_, e21_, hr_⟩ | ⟨e1_, r22_, hs26_, h25_, hr_⟩ | ⟨e1_, r27_, hs31_, h30_, hr_⟩ | ⟨e1_, r32_, hs36_, h35_, hr_⟩)
  · left
    refine ⟨by omega, ?_⟩
    rw [hr_, e3_, g 0 (by omega)]
    congr 1
    omega
  · left
    refine ⟨by omega, ?_⟩
    rw [hr_, e5_, g 1 (by omega)]
    congr 1
    omega
  · left
    refine ⟨by omega, ?_⟩
    rw [hr_, e7_, g 2 (by omega)]
    congr 1
    omega
  · left
    refine ⟨by omega, ?_⟩
    rw [hr_, e9_, g 3 (by omega)]
    congr 1
    omega
  · left
    refine ⟨by omega, ?_⟩
    rw [hr_, e11_, g 4 (by omega)]
    congr 1
    omega
  · left
    refine ⟨by omega, ?_⟩
    rw [hr_, e13_, g 5 (by omega)]
    congr 1
    omega
  · left
    have y := eT hr_
    refine ⟨by omega, ?_⟩
    rw [show r = z14_ from i32e (by omega), e15_, g 6 (by omega)]
    congr 1
    omega
  · left
    have y := eT hr_
    refine ⟨by omega, ?_⟩
    rw [show r = z14_ from i32e (by omega), e15_, g 6 (by omega)]
    congr 1
    omega
  · left
    refine ⟨by omega, ?_⟩
    rw [hr_, e19_, g 7 (by omega)]
    congr 1
    omega
  · left
    refine ⟨by omega, ?_⟩
    rw [hr_, e21_, g 8 (by omega)]
    congr 1
    omega
  · exact Or.inr (Or.inl ⟨by omega, by rw [hr_, x9reach hs26_ kb, g0]⟩)
  · exact Or.inr (Or.inr (Or.inl ⟨by omega, by rw [hr_, x9speed hs31_ kb, g0]⟩))
  · exact Or.inr (Or.inr (Or.inr ⟨by omega, by rw [hr_, x9ears hs36_ kb, g0]⟩))
theorem an_9 {v : Int32} {u : Int32} {M M1 D D2 : mM} {r1 r2 : Int32} (h1 : SP_X11_walkerIs v u M r1 M1) (h2 : SP_X12_walkerIs v u D r2 D2) (hR : RW 0 M.1 (D.1 (50, 0, 0))) (hD : InvD D) (hu : (D.1 (12, 0, 0) 7).toInt = -1) : r1 = r2 := by
  have q0 := il_0
  have q1 := il_1
  have i2 : (2 : Int32).toInt = 2 := by decide
  have bT := eT hR.1.2.1.1
  have bW := eT hR.1.2.2.1.1
  have nT := nTh_b hD.2.1
  have nW := nWa_b hD.2.1
  unfold nTh at nT
  unfold nWa at nW
  unfold SP_X11_walkerIs at h1
  rcases h1 with (⟨c_hs5_, c_h4_, (⟨c_hs11_, c_h10_, c_j13_, c_h14_, c_h15_, c_r16_, c_hs20_, c_hr_, c_hM_⟩ | ⟨c_hs11_, c_h10_, c_M23_, -, c_hF27_, c_r22_, c_hs29_, c_hr_, c_hM_⟩)⟩ | ⟨c_hs5_, c_M32_, -, c_hF36_, c_r31_, c_hs38_, c_hr_, c_hM_⟩)
  · obtain rfl : c_j13_ = v.toInt.toNat := by omega
    have qc_hs5_ := x10has c_hs5_
    have yrc_ := eT c_hr_
    unfold SP_X12_walkerIs at h2
    rcases h2 with (⟨d_hs5_, d_h4_, (⟨d_hs11_, d_h10_, (⟨d_h13_, (⟨d_h14_, (⟨d_h15_, d_r16_, d_hs20_, d_h19_, (⟨d_h21_, d_hr_, d_hM_⟩ | ⟨d_h21_, d_hr_, d_hM_⟩)⟩ | ⟨d_h15_, d_r22_, d_hs26_, d_h25_, d_hr_, d_hM_⟩)⟩ | ⟨d_h14_, d_r27_, d_hs31_, d_h30_, d_hr_, d_hM_⟩)⟩ | ⟨d_h13_, d_r32_, d_hs36_, d_h35_, d_z37_, d_h38_, d_j41_, d_h42_, d_z39_, d_e40_, d_hr_, d_hM_⟩)⟩ | ⟨d_hs11_, d_h10_, d_M45_, -, d_hF49_, d_r44_, d_hs51_, d_h47_, d_hr_, d_hM_⟩)⟩ | ⟨d_hs5_, d_M54_, -, d_hF58_, d_r53_, d_hs60_, d_h56_, d_hr_, d_hM_⟩)
    · have qd_hs5_ := is2x d_hs5_
      have yrd_ := eT d_hr_
      have hv : 0 ≤ v.toInt ∧ v.toInt < (D.1 (50, 0, 0) 2).toInt := by omega
      have F := x9fact c_hs20_ hR hD.2.1 (by omega) (by omega)
      rcases F with F | F | F | F
      · omega
      · omega
      · have kk := eT (x12kindOf d_hs20_ (by omega))
        refine i32e ?_
        rw [c_hr_, F.2]
        unfold speedI
        split <;> omega
      · omega
    · have qd_hs5_ := is2x d_hs5_
      have yrd_ := eT d_hr_
      have hv : 0 ≤ v.toInt ∧ v.toInt < (D.1 (50, 0, 0) 2).toInt := by omega
      have F := x9fact c_hs20_ hR hD.2.1 (by omega) (by omega)
      rcases F with F | F | F | F
      · omega
      · omega
      · have kk := eT (x12kindOf d_hs20_ (by omega))
        refine i32e ?_
        rw [c_hr_, F.2]
        unfold speedI
        split <;> omega
      · omega
    · have qd_hs5_ := is2x d_hs5_
      have yrd_ := eT d_hr_
      have hv : 0 ≤ v.toInt ∧ v.toInt < (D.1 (50, 0, 0) 2).toInt := by omega
      have F := x9fact c_hs20_ hR hD.2.1 (by omega) (by omega)
      rcases F with F | F | F | F
      · omega
      · omega
      · omega
      · refine i32e ?_
        rw [c_hr_, F.2, d_hr_, x12ears d_hs26_ (by omega)]
    · have qd_hs5_ := is2x d_hs5_
      have yrd_ := eT d_hr_
      have hv : 0 ≤ v.toInt ∧ v.toInt < (D.1 (50, 0, 0) 2).toInt := by omega
      have F := x9fact c_hs20_ hR hD.2.1 (by omega) (by omega)
      rcases F with F | F | F | F
      · omega
      · refine i32e ?_
        rw [c_hr_, F.2, d_hr_, x12reach d_hs31_ (by omega)]
      · omega
      · omega
    · obtain rfl : d_j41_ = d_z37_.toInt.toNat := by omega
      have qd_hs5_ := is2x d_hs5_
      have yd_e40_ := eT d_e40_
      have yrd_ := eT d_hr_
      have hv : 0 ≤ v.toInt ∧ v.toInt < (D.1 (50, 0, 0) 2).toInt := by omega
      have F := x9fact c_hs20_ hR hD.2.1 (by omega) (by omega)
      rcases F with F | F | F | F
      · rw [c_hr_, F.2, d_hr_, d_e40_]
        exact congrArg (D.1 (50, 0, 0)) (by omega)
      · omega
      · omega
      · omega
    · have qd_hs5_ := is2x d_hs5_
      have yrd_ := eT d_hr_
      exfalso; omega
    · have qd_hs5_ := is2x d_hs5_
      have yrd_ := eT d_hr_
      exfalso; omega
  · have qc_hs5_ := x10has c_hs5_
    have qc_hs29_ := err1 c_hs29_
    have yrc_ := eT c_hr_
    unfold SP_X12_walkerIs at h2
    rcases h2 with (⟨d_hs5_, d_h4_, (⟨d_hs11_, d_h10_, (⟨d_h13_, (⟨d_h14_, (⟨d_h15_, d_r16_, d_hs20_, d_h19_, (⟨d_h21_, d_hr_, d_hM_⟩ | ⟨d_h21_, d_hr_, d_hM_⟩)⟩ | ⟨d_h15_, d_r22_, d_hs26_, d_h25_, d_hr_, d_hM_⟩)⟩ | ⟨d_h14_, d_r27_, d_hs31_, d_h30_, d_hr_, d_hM_⟩)⟩ | ⟨d_h13_, d_r32_, d_hs36_, d_h35_, d_z37_, d_h38_, d_j41_, d_h42_, d_z39_, d_e40_, d_hr_, d_hM_⟩)⟩ | ⟨d_hs11_, d_h10_, d_M45_, -, d_hF49_, d_r44_, d_hs51_, d_h47_, d_hr_, d_hM_⟩)⟩ | ⟨d_hs5_, d_M54_, -, d_hF58_, d_r53_, d_hs60_, d_h56_, d_hr_, d_hM_⟩)
    · have qd_hs5_ := is2x d_hs5_
      have yrd_ := eT d_hr_
      exfalso; omega
    · have qd_hs5_ := is2x d_hs5_
      have yrd_ := eT d_hr_
      exfalso; omega
    · have qd_hs5_ := is2x d_hs5_
      have yrd_ := eT d_hr_
      exfalso; omega
    · have qd_hs5_ := is2x d_hs5_
      have yrd_ := eT d_hr_
      exfalso; omega
    · obtain rfl : d_j41_ = d_z37_.toInt.toNat := by omega
      have qd_hs5_ := is2x d_hs5_
      have yd_e40_ := eT d_e40_
      have yrd_ := eT d_hr_
      exfalso; omega
    · have qd_hs5_ := is2x d_hs5_
      have yrd_ := eT d_hr_
      exact i32e (by omega)
    · have qd_hs5_ := is2x d_hs5_
      have yrd_ := eT d_hr_
      exact i32e (by omega)
  · have qc_hs5_ := x10has c_hs5_
    have qc_hs38_ := err1 c_hs38_
    have yrc_ := eT c_hr_
    unfold SP_X12_walkerIs at h2
    rcases h2 with (⟨d_hs5_, d_h4_, (⟨d_hs11_, d_h10_, (⟨d_h13_, (⟨d_h14_, (⟨d_h15_, d_r16_, d_hs20_, d_h19_, (⟨d_h21_, d_hr_, d_hM_⟩ | ⟨d_h21_, d_hr_, d_hM_⟩)⟩ | ⟨d_h15_, d_r22_, d_hs26_, d_h25_, d_hr_, d_hM_⟩)⟩ | ⟨d_h14_, d_r27_, d_hs31_, d_h30_, d_hr_, d_hM_⟩)⟩ | ⟨d_h13_, d_r32_, d_hs36_, d_h35_, d_z37_, d_h38_, d_j41_, d_h42_, d_z39_, d_e40_, d_hr_, d_hM_⟩)⟩ | ⟨d_hs11_, d_h10_, d_M45_, -, d_hF49_, d_r44_, d_hs51_, d_h47_, d_hr_, d_hM_⟩)⟩ | ⟨d_hs5_, d_M54_, -, d_hF58_, d_r53_, d_hs60_, d_h56_, d_hr_, d_hM_⟩)
    · have qd_hs5_ := is2x d_hs5_
      have yrd_ := eT d_hr_
      exfalso; omega
    · have qd_hs5_ := is2x d_hs5_
      have yrd_ := eT d_hr_
      exfalso; omega
    · have qd_hs5_ := is2x d_hs5_
      have yrd_ := eT d_hr_
      exfalso; omega
    · have qd_hs5_ := is2x d_hs5_
      have yrd_ := eT d_hr_
      exfalso; omega
    · obtain rfl : d_j41_ = d_z37_.toInt.toNat := by omega
      have qd_hs5_ := is2x d_hs5_
      have yd_e40_ := eT d_e40_
      have yrd_ := eT d_hr_
      exfalso; omega
    · have qd_hs5_ := is2x d_hs5_
      have yrd_ := eT d_hr_
      exact i32e (by omega)
    · have qd_hs5_ := is2x d_hs5_
      have yrd_ := eT d_hr_
      exact i32e (by omega)
theorem an_10 {v : Int32} {u : Int32} {M M1 D D2 : mM} {r1 r2 : Int32} (h1 : SP_X11_as v u M r1 M1) (h2 : SP_X12_as v u D r2 D2) (hR : RW 0 M.1 (D.1 (50, 0, 0))) (hD : InvD D) (hu : (D.1 (12, 0, 0) 7).toInt = -1) : r1 = r2 := by
  have q0 := il_0
  have q1 := il_1
  have i2 : (2 : Int32).toInt = 2 := by decide
  have bT := eT hR.1.2.1.1
  have bW := eT hR.1.2.2.1.1
  have nT := nTh_b hD.2.1
  have nW := nWa_b hD.2.1
  unfold nTh at nT
  unfold nWa at nW
  unfold SP_X11_as at h1
  rcases h1 with (⟨c_hs5_, c_h4_, (⟨c_hs11_, c_h10_, c_j13_, c_h14_, c_h15_, c_r16_, c_hs20_, c_h19_, (⟨c_h21_, c_j22_, c_h23_, c_h24_, c_r25_, c_hs29_, c_h28_, c_hr_, c_hM_⟩ | ⟨c_h21_, c_M31_, -, c_hF35_, c_r30_, c_hs37_, c_hr_, c_hM_⟩)⟩ | ⟨c_hs11_, c_h10_, c_M40_, -, c_hF44_, c_r39_, c_hs46_, c_hr_, c_hM_⟩)⟩ | ⟨c_hs5_, c_M49_, -, c_hF53_, c_r48_, c_hs55_, c_hr_, c_hM_⟩)
  · obtain rfl : c_j13_ = v.toInt.toNat := by omega
    obtain rfl : c_j22_ = v.toInt.toNat := by omega
    have qc_hs5_ := x10has c_hs5_
    have yrc_ := eT c_hr_
    unfold SP_X12_as at h2
    rcases h2 with (⟨d_hs5_, d_h4_, (⟨d_hs11_, d_h10_, d_r13_, d_hs17_, d_h16_, d_r18_, d_hs22_, d_h21_, (⟨d_h23_, d_M25_, -, d_hF29_, d_r24_, d_hs31_, d_h27_, d_hr_, d_hM_⟩ | ⟨d_h23_, d_r32_, d_hs36_, d_h35_, d_hr_, d_hM_⟩)⟩ | ⟨d_hs11_, d_h10_, d_M39_, -, d_hF43_, d_r38_, d_hs45_, d_h41_, d_hr_, d_hM_⟩)⟩ | ⟨d_hs5_, d_M48_, -, d_hF52_, d_r47_, d_hs54_, d_h50_, d_hr_, d_hM_⟩)
    · have qd_hs5_ := is2x d_hs5_
      have yrd_ := eT d_hr_
      have hv : 0 ≤ v.toInt ∧ v.toInt < (D.1 (50, 0, 0) 2).toInt := by omega
      have g0 : M.1 (9, 0, v.toInt.toNat) 0 = D.1 (50, 0, 0) (180 + 9 * v.toInt.toNat) := (hR.1.2.2.1.2 v.toInt.toNat (by unfold nWa; omega)).1 0 (by omega)
      have kb := ((hD.2.1.1 (180 + 9 * v.toInt.toNat)).2.2.2.2.2.2.2 (by omega) (by omega)).1 (by omega)
      have U1 := x9isOf c_hs20_ (by rw [g0]; exact kb)
      have U2 := x12isUnder d_hs22_ (by omega)
      rw [x12kindOf d_hs17_ (by omega)] at U2
      rw [g0] at U1
      exfalso
      rcases U1 with U1 | U1 <;> rcases U2 with U2 | U2
      · omega
      · exact U2.2 U1.2
      · exact U1.2 U2.2
      · omega
    · have qd_hs5_ := is2x d_hs5_
      have yrd_ := eT d_hr_
      have hv : 0 ≤ v.toInt ∧ v.toInt < (D.1 (50, 0, 0) 2).toInt := by omega
      have g0 : M.1 (9, 0, v.toInt.toNat) 0 = D.1 (50, 0, 0) (180 + 9 * v.toInt.toNat) := (hR.1.2.2.1.2 v.toInt.toNat (by unfold nWa; omega)).1 0 (by omega)
      have kb := ((hD.2.1.1 (180 + 9 * v.toInt.toNat)).2.2.2.2.2.2.2 (by omega) (by omega)).1 (by omega)
      have U1 := x9isOf c_hs20_ (by rw [g0]; exact kb)
      have U2 := x12isUnder d_hs22_ (by omega)
      rw [x12kindOf d_hs17_ (by omega)] at U2
      rw [g0] at U1
      refine i32e ?_
      rw [c_hr_, x9reach c_hs29_ (by rw [g0]; exact kb), g0, d_hr_, x12reach d_hs36_ (by omega)]
    · have qd_hs5_ := is2x d_hs5_
      have yrd_ := eT d_hr_
      exfalso; omega
    · have qd_hs5_ := is2x d_hs5_
      have yrd_ := eT d_hr_
      exfalso; omega
  · obtain rfl : c_j13_ = v.toInt.toNat := by omega
    have qc_hs5_ := x10has c_hs5_
    have qc_hs37_ := err5 c_hs37_
    have yrc_ := eT c_hr_
    unfold SP_X12_as at h2
    rcases h2 with (⟨d_hs5_, d_h4_, (⟨d_hs11_, d_h10_, d_r13_, d_hs17_, d_h16_, d_r18_, d_hs22_, d_h21_, (⟨d_h23_, d_M25_, -, d_hF29_, d_r24_, d_hs31_, d_h27_, d_hr_, d_hM_⟩ | ⟨d_h23_, d_r32_, d_hs36_, d_h35_, d_hr_, d_hM_⟩)⟩ | ⟨d_hs11_, d_h10_, d_M39_, -, d_hF43_, d_r38_, d_hs45_, d_h41_, d_hr_, d_hM_⟩)⟩ | ⟨d_hs5_, d_M48_, -, d_hF52_, d_r47_, d_hs54_, d_h50_, d_hr_, d_hM_⟩)
    · have qd_hs5_ := is2x d_hs5_
      have yrd_ := eT d_hr_
      exact i32e (by omega)
    · have qd_hs5_ := is2x d_hs5_
      have yrd_ := eT d_hr_
      have hv : 0 ≤ v.toInt ∧ v.toInt < (D.1 (50, 0, 0) 2).toInt := by omega
      have g0 : M.1 (9, 0, v.toInt.toNat) 0 = D.1 (50, 0, 0) (180 + 9 * v.toInt.toNat) := (hR.1.2.2.1.2 v.toInt.toNat (by unfold nWa; omega)).1 0 (by omega)
      have kb := ((hD.2.1.1 (180 + 9 * v.toInt.toNat)).2.2.2.2.2.2.2 (by omega) (by omega)).1 (by omega)
      have U1 := x9isOf c_hs20_ (by rw [g0]; exact kb)
      have U2 := x12isUnder d_hs22_ (by omega)
      rw [x12kindOf d_hs17_ (by omega)] at U2
      rw [g0] at U1
      exfalso
      rcases U1 with U1 | U1 <;> rcases U2 with U2 | U2
      · omega
      · exact U2.2 U1.2
      · exact U1.2 U2.2
      · omega
    · have qd_hs5_ := is2x d_hs5_
      have yrd_ := eT d_hr_
      exfalso; omega
    · have qd_hs5_ := is2x d_hs5_
      have yrd_ := eT d_hr_
      exfalso; omega
  · have qc_hs5_ := x10has c_hs5_
    have qc_hs46_ := err1 c_hs46_
    have yrc_ := eT c_hr_
    unfold SP_X12_as at h2
    rcases h2 with (⟨d_hs5_, d_h4_, (⟨d_hs11_, d_h10_, d_r13_, d_hs17_, d_h16_, d_r18_, d_hs22_, d_h21_, (⟨d_h23_, d_M25_, -, d_hF29_, d_r24_, d_hs31_, d_h27_, d_hr_, d_hM_⟩ | ⟨d_h23_, d_r32_, d_hs36_, d_h35_, d_hr_, d_hM_⟩)⟩ | ⟨d_hs11_, d_h10_, d_M39_, -, d_hF43_, d_r38_, d_hs45_, d_h41_, d_hr_, d_hM_⟩)⟩ | ⟨d_hs5_, d_M48_, -, d_hF52_, d_r47_, d_hs54_, d_h50_, d_hr_, d_hM_⟩)
    · have qd_hs5_ := is2x d_hs5_
      have yrd_ := eT d_hr_
      exfalso; omega
    · have qd_hs5_ := is2x d_hs5_
      have yrd_ := eT d_hr_
      exfalso; omega
    · have qd_hs5_ := is2x d_hs5_
      have yrd_ := eT d_hr_
      exact i32e (by omega)
    · have qd_hs5_ := is2x d_hs5_
      have yrd_ := eT d_hr_
      exact i32e (by omega)
  · have qc_hs5_ := x10has c_hs5_
    have qc_hs55_ := err1 c_hs55_
    have yrc_ := eT c_hr_
    unfold SP_X12_as at h2
    rcases h2 with (⟨d_hs5_, d_h4_, (⟨d_hs11_, d_h10_, d_r13_, d_hs17_, d_h16_, d_r18_, d_hs22_, d_h21_, (⟨d_h23_, d_M25_, -, d_hF29_, d_r24_, d_hs31_, d_h27_, d_hr_, d_hM_⟩ | ⟨d_h23_, d_r32_, d_hs36_, d_h35_, d_hr_, d_hM_⟩)⟩ | ⟨d_hs11_, d_h10_, d_M39_, -, d_hF43_, d_r38_, d_hs45_, d_h41_, d_hr_, d_hM_⟩)⟩ | ⟨d_hs5_, d_M48_, -, d_hF52_, d_r47_, d_hs54_, d_h50_, d_hr_, d_hM_⟩)
    · have qd_hs5_ := is2x d_hs5_
      have yrd_ := eT d_hr_
      exfalso; omega
    · have qd_hs5_ := is2x d_hs5_
      have yrd_ := eT d_hr_
      exfalso; omega
    · have qd_hs5_ := is2x d_hs5_
      have yrd_ := eT d_hr_
      exact i32e (by omega)
    · have qd_hs5_ := is2x d_hs5_
      have yrd_ := eT d_hr_
      exact i32e (by omega)
theorem an_18 {v : Int32} {u : Int32} {t : Int32} {M M1 D D2 : mM} {r1 r2 : Int32} (h1 : SP_X11_head v u t M r1 M1) (h2 : SP_X12_head v u t D r2 D2) (hR : RW 0 M.1 (D.1 (50, 0, 0))) (hD : InvD D) (hu : (D.1 (12, 0, 0) 7).toInt = -1) : r1 = r2 := by
  have q0 := il_0
  have q1 := il_1
  have i2 : (2 : Int32).toInt = 2 := by decide
  have bT := eT hR.1.2.1.1
  have bW := eT hR.1.2.2.1.1
  have nT := nTh_b hD.2.1
  have nW := nWa_b hD.2.1
  unfold nTh at nT
  unfold nWa at nW
  unfold SP_X11_head at h1
  rcases h1 with (⟨c_hs5_, c_h4_, (⟨c_hs11_, c_h10_, (⟨c_hs17_, c_h16_, c_j19_, c_h20_, c_h21_, (⟨c_h22_, (⟨c_h23_, c_r24_, c_hs28_, c_hr_, c_hM_⟩ | ⟨c_h23_, c_j31_, c_h32_, c_z29_, c_e30_, c_hr_, c_hM_⟩)⟩ | ⟨c_h22_, c_j35_, c_h36_, c_z33_, c_e34_, c_hr_, c_hM_⟩)⟩ | ⟨c_hs17_, c_h16_, c_M39_, -, c_hF43_, c_r38_, c_hs45_, c_hr_, c_hM_⟩)⟩ | ⟨c_hs11_, c_h10_, c_M48_, -, c_hF52_, c_r47_, c_hs54_, c_hr_, c_hM_⟩)⟩ | ⟨c_hs5_, c_M57_, -, c_hF61_, c_r56_, c_hs63_, c_hr_, c_hM_⟩)
  · obtain rfl : c_j19_ = v.toInt.toNat := by omega
    have qc_hs5_ := x10has c_hs5_
    have yrc_ := eT c_hr_
    unfold SP_X12_head at h2
    rcases h2 with (⟨d_hs5_, d_h4_, (⟨d_hs11_, d_h10_, (⟨d_hs17_, d_h16_, (⟨d_h19_, (⟨d_h20_, d_r21_, d_hs25_, d_h24_, d_j28_, d_h29_, d_z26_, d_e27_, d_hr_, d_hM_⟩ | ⟨d_h20_, d_r30_, d_hs34_, d_h33_, d_j37_, d_h38_, d_z35_, d_e36_, d_hr_, d_hM_⟩)⟩ | ⟨d_h19_, d_r39_, d_hs43_, d_h42_, d_hr_, d_hM_⟩)⟩ | ⟨d_hs17_, d_h16_, d_M46_, -, d_hF50_, d_r45_, d_hs52_, d_h48_, d_hr_, d_hM_⟩)⟩ | ⟨d_hs11_, d_h10_, d_M55_, -, d_hF59_, d_r54_, d_hs61_, d_h57_, d_hr_, d_hM_⟩)⟩ | ⟨d_hs5_, d_M64_, -, d_hF68_, d_r63_, d_hs70_, d_h66_, d_hr_, d_hM_⟩)
    · obtain rfl : d_j28_ = d_r21_.toInt.toNat := by omega
      have qd_hs5_ := is2x d_hs5_
      have yd_e27_ := eT d_e27_
      have yrd_ := eT d_hr_
      exfalso; omega
    · obtain rfl : d_j37_ = d_r30_.toInt.toNat := by omega
      have qd_hs5_ := is2x d_hs5_
      have yd_e36_ := eT d_e36_
      have yrd_ := eT d_hr_
      exfalso; omega
    · have qd_hs5_ := is2x d_hs5_
      have yrd_ := eT d_hr_
      have hv : 0 ≤ v.toInt ∧ v.toInt < (D.1 (50, 0, 0) 2).toInt := by omega
      have wh := (hR.1.2.2.1.2 v.toInt.toNat (by unfold nWa; omega)).2 u.toInt.toNat (by omega)
      have H := x9held c_hs28_
      rcases H with H | H
      · refine i32e ?_
        rw [c_hr_, H.2, wh.1, wh.2, d_hr_, x12held d_hs43_ (by omega) (by omega)]
        rfl
      · exact absurd (by omega) H.1
    · have qd_hs5_ := is2x d_hs5_
      have yrd_ := eT d_hr_
      exfalso; omega
    · have qd_hs5_ := is2x d_hs5_
      have yrd_ := eT d_hr_
      exfalso; omega
    · have qd_hs5_ := is2x d_hs5_
      have yrd_ := eT d_hr_
      exfalso; omega
  · obtain rfl : c_j19_ = v.toInt.toNat := by omega
    obtain rfl : c_j31_ = u.toInt.toNat := by omega
    have qc_hs5_ := x10has c_hs5_
    have yc_e30_ := eT c_e30_
    have yrc_ := eT c_hr_
    unfold SP_X12_head at h2
    rcases h2 with (⟨d_hs5_, d_h4_, (⟨d_hs11_, d_h10_, (⟨d_hs17_, d_h16_, (⟨d_h19_, (⟨d_h20_, d_r21_, d_hs25_, d_h24_, d_j28_, d_h29_, d_z26_, d_e27_, d_hr_, d_hM_⟩ | ⟨d_h20_, d_r30_, d_hs34_, d_h33_, d_j37_, d_h38_, d_z35_, d_e36_, d_hr_, d_hM_⟩)⟩ | ⟨d_h19_, d_r39_, d_hs43_, d_h42_, d_hr_, d_hM_⟩)⟩ | ⟨d_hs17_, d_h16_, d_M46_, -, d_hF50_, d_r45_, d_hs52_, d_h48_, d_hr_, d_hM_⟩)⟩ | ⟨d_hs11_, d_h10_, d_M55_, -, d_hF59_, d_r54_, d_hs61_, d_h57_, d_hr_, d_hM_⟩)⟩ | ⟨d_hs5_, d_M64_, -, d_hF68_, d_r63_, d_hs70_, d_h66_, d_hr_, d_hM_⟩)
    · obtain rfl : d_j28_ = d_r21_.toInt.toNat := by omega
      have qd_hs5_ := is2x d_hs5_
      have yd_e27_ := eT d_e27_
      have yrd_ := eT d_hr_
      have hv : 0 ≤ v.toInt ∧ v.toInt < (D.1 (50, 0, 0) 2).toInt := by omega
      have wh := (hR.1.2.2.1.2 v.toInt.toNat (by unfold nWa; omega)).2 u.toInt.toNat (by omega)
      rw [c_hr_, c_e30_, wh.2, d_hr_, d_e27_]
      exact congrArg (D.1 (50, 0, 0)) (by omega)
    · obtain rfl : d_j37_ = d_r30_.toInt.toNat := by omega
      have qd_hs5_ := is2x d_hs5_
      have yd_e36_ := eT d_e36_
      have yrd_ := eT d_hr_
      exfalso; omega
    · have qd_hs5_ := is2x d_hs5_
      have yrd_ := eT d_hr_
      exfalso; omega
    · have qd_hs5_ := is2x d_hs5_
      have yrd_ := eT d_hr_
      exfalso; omega
    · have qd_hs5_ := is2x d_hs5_
      have yrd_ := eT d_hr_
      exfalso; omega
    · have qd_hs5_ := is2x d_hs5_
      have yrd_ := eT d_hr_
      exfalso; omega
  · obtain rfl : c_j19_ = v.toInt.toNat := by omega
    obtain rfl : c_j35_ = u.toInt.toNat := by omega
    have qc_hs5_ := x10has c_hs5_
    have yc_e34_ := eT c_e34_
    have yrc_ := eT c_hr_
    unfold SP_X12_head at h2
    rcases h2 with (⟨d_hs5_, d_h4_, (⟨d_hs11_, d_h10_, (⟨d_hs17_, d_h16_, (⟨d_h19_, (⟨d_h20_, d_r21_, d_hs25_, d_h24_, d_j28_, d_h29_, d_z26_, d_e27_, d_hr_, d_hM_⟩ | ⟨d_h20_, d_r30_, d_hs34_, d_h33_, d_j37_, d_h38_, d_z35_, d_e36_, d_hr_, d_hM_⟩)⟩ | ⟨d_h19_, d_r39_, d_hs43_, d_h42_, d_hr_, d_hM_⟩)⟩ | ⟨d_hs17_, d_h16_, d_M46_, -, d_hF50_, d_r45_, d_hs52_, d_h48_, d_hr_, d_hM_⟩)⟩ | ⟨d_hs11_, d_h10_, d_M55_, -, d_hF59_, d_r54_, d_hs61_, d_h57_, d_hr_, d_hM_⟩)⟩ | ⟨d_hs5_, d_M64_, -, d_hF68_, d_r63_, d_hs70_, d_h66_, d_hr_, d_hM_⟩)
    · obtain rfl : d_j28_ = d_r21_.toInt.toNat := by omega
      have qd_hs5_ := is2x d_hs5_
      have yd_e27_ := eT d_e27_
      have yrd_ := eT d_hr_
      exfalso; omega
    · obtain rfl : d_j37_ = d_r30_.toInt.toNat := by omega
      have qd_hs5_ := is2x d_hs5_
      have yd_e36_ := eT d_e36_
      have yrd_ := eT d_hr_
      have hv : 0 ≤ v.toInt ∧ v.toInt < (D.1 (50, 0, 0) 2).toInt := by omega
      have wh := (hR.1.2.2.1.2 v.toInt.toNat (by unfold nWa; omega)).2 u.toInt.toNat (by omega)
      rw [c_hr_, c_e34_, wh.1, d_hr_, d_e36_]
      exact congrArg (D.1 (50, 0, 0)) (by omega)
    · have qd_hs5_ := is2x d_hs5_
      have yrd_ := eT d_hr_
      exfalso; omega
    · have qd_hs5_ := is2x d_hs5_
      have yrd_ := eT d_hr_
      exfalso; omega
    · have qd_hs5_ := is2x d_hs5_
      have yrd_ := eT d_hr_
      exfalso; omega
    · have qd_hs5_ := is2x d_hs5_
      have yrd_ := eT d_hr_
      exfalso; omega
  · have qc_hs5_ := x10has c_hs5_
    have qc_hs45_ := err1 c_hs45_
    have yrc_ := eT c_hr_
    unfold SP_X12_head at h2
    rcases h2 with (⟨d_hs5_, d_h4_, (⟨d_hs11_, d_h10_, (⟨d_hs17_, d_h16_, (⟨d_h19_, (⟨d_h20_, d_r21_, d_hs25_, d_h24_, d_j28_, d_h29_, d_z26_, d_e27_, d_hr_, d_hM_⟩ | ⟨d_h20_, d_r30_, d_hs34_, d_h33_, d_j37_, d_h38_, d_z35_, d_e36_, d_hr_, d_hM_⟩)⟩ | ⟨d_h19_, d_r39_, d_hs43_, d_h42_, d_hr_, d_hM_⟩)⟩ | ⟨d_hs17_, d_h16_, d_M46_, -, d_hF50_, d_r45_, d_hs52_, d_h48_, d_hr_, d_hM_⟩)⟩ | ⟨d_hs11_, d_h10_, d_M55_, -, d_hF59_, d_r54_, d_hs61_, d_h57_, d_hr_, d_hM_⟩)⟩ | ⟨d_hs5_, d_M64_, -, d_hF68_, d_r63_, d_hs70_, d_h66_, d_hr_, d_hM_⟩)
    · obtain rfl : d_j28_ = d_r21_.toInt.toNat := by omega
      have qd_hs5_ := is2x d_hs5_
      have yd_e27_ := eT d_e27_
      have yrd_ := eT d_hr_
      exfalso; omega
    · obtain rfl : d_j37_ = d_r30_.toInt.toNat := by omega
      have qd_hs5_ := is2x d_hs5_
      have yd_e36_ := eT d_e36_
      have yrd_ := eT d_hr_
      exfalso; omega
    · have qd_hs5_ := is2x d_hs5_
      have yrd_ := eT d_hr_
      exfalso; omega
    · have qd_hs5_ := is2x d_hs5_
      have yrd_ := eT d_hr_
      exact i32e (by omega)
    · have qd_hs5_ := is2x d_hs5_
      have yrd_ := eT d_hr_
      exact i32e (by omega)
    · have qd_hs5_ := is2x d_hs5_
      have yrd_ := eT d_hr_
      exact i32e (by omega)
  · have qc_hs5_ := x10has c_hs5_
    have qc_hs54_ := err1 c_hs54_
    have yrc_ := eT c_hr_
    unfold SP_X12_head at h2
    rcases h2 with (⟨d_hs5_, d_h4_, (⟨d_hs11_, d_h10_, (⟨d_hs17_, d_h16_, (⟨d_h19_, (⟨d_h20_, d_r21_, d_hs25_, d_h24_, d_j28_, d_h29_, d_z26_, d_e27_, d_hr_, d_hM_⟩ | ⟨d_h20_, d_r30_, d_hs34_, d_h33_, d_j37_, d_h38_, d_z35_, d_e36_, d_hr_, d_hM_⟩)⟩ | ⟨d_h19_, d_r39_, d_hs43_, d_h42_, d_hr_, d_hM_⟩)⟩ | ⟨d_hs17_, d_h16_, d_M46_, -, d_hF50_, d_r45_, d_hs52_, d_h48_, d_hr_, d_hM_⟩)⟩ | ⟨d_hs11_, d_h10_, d_M55_, -, d_hF59_, d_r54_, d_hs61_, d_h57_, d_hr_, d_hM_⟩)⟩ | ⟨d_hs5_, d_M64_, -, d_hF68_, d_r63_, d_hs70_, d_h66_, d_hr_, d_hM_⟩)
    · obtain rfl : d_j28_ = d_r21_.toInt.toNat := by omega
      have qd_hs5_ := is2x d_hs5_
      have yd_e27_ := eT d_e27_
      have yrd_ := eT d_hr_
      exfalso; omega
    · obtain rfl : d_j37_ = d_r30_.toInt.toNat := by omega
      have qd_hs5_ := is2x d_hs5_
      have yd_e36_ := eT d_e36_
      have yrd_ := eT d_hr_
      exfalso; omega
    · have qd_hs5_ := is2x d_hs5_
      have yrd_ := eT d_hr_
      exfalso; omega
    · have qd_hs5_ := is2x d_hs5_
      have yrd_ := eT d_hr_
      exact i32e (by omega)
    · have qd_hs5_ := is2x d_hs5_
      have yrd_ := eT d_hr_
      exact i32e (by omega)
    · have qd_hs5_ := is2x d_hs5_
      have yrd_ := eT d_hr_
      exact i32e (by omega)
  · have qc_hs5_ := x10has c_hs5_
    have qc_hs63_ := err1 c_hs63_
    have yrc_ := eT c_hr_
    unfold SP_X12_head at h2
    rcases h2 with (⟨d_hs5_, d_h4_, (⟨d_hs11_, d_h10_, (⟨d_hs17_, d_h16_, (⟨d_h19_, (⟨d_h20_, d_r21_, d_hs25_, d_h24_, d_j28_, d_h29_, d_z26_, d_e27_, d_hr_, d_hM_⟩ | ⟨d_h20_, d_r30_, d_hs34_, d_h33_, d_j37_, d_h38_, d_z35_, d_e36_, d_hr_, d_hM_⟩)⟩ | ⟨d_h19_, d_r39_, d_hs43_, d_h42_, d_hr_, d_hM_⟩)⟩ | ⟨d_hs17_, d_h16_, d_M46_, -, d_hF50_, d_r45_, d_hs52_, d_h48_, d_hr_, d_hM_⟩)⟩ | ⟨d_hs11_, d_h10_, d_M55_, -, d_hF59_, d_r54_, d_hs61_, d_h57_, d_hr_, d_hM_⟩)⟩ | ⟨d_hs5_, d_M64_, -, d_hF68_, d_r63_, d_hs70_, d_h66_, d_hr_, d_hM_⟩)
    · obtain rfl : d_j28_ = d_r21_.toInt.toNat := by omega
      have qd_hs5_ := is2x d_hs5_
      have yd_e27_ := eT d_e27_
      have yrd_ := eT d_hr_
      exfalso; omega
    · obtain rfl : d_j37_ = d_r30_.toInt.toNat := by omega
      have qd_hs5_ := is2x d_hs5_
      have yd_e36_ := eT d_e36_
      have yrd_ := eT d_hr_
      exfalso; omega
    · have qd_hs5_ := is2x d_hs5_
      have yrd_ := eT d_hr_
      exfalso; omega
    · have qd_hs5_ := is2x d_hs5_
      have yrd_ := eT d_hr_
      exact i32e (by omega)
    · have qd_hs5_ := is2x d_hs5_
      have yrd_ := eT d_hr_
      exact i32e (by omega)
    · have qd_hs5_ := is2x d_hs5_
      have yrd_ := eT d_hr_
      exact i32e (by omega)
end
section
/-! heads: counts in lock -/
theorem but_own {v x : Int32} {M : mM} {r : Int32} {n : Nat → Int32} (h : SP_X10_isFreeBut 0 v x M r) (hO : OCC 0 M.1 n) (hN : NW5 n) (hv : 0 ≤ v.toInt ∧ v.toInt < nWa n) (hx : x.toInt = (n (181 + 9 * v.toInt.toNat)).toInt) (cb : 0 ≤ x.toInt ∧ x.toInt ≤ 191) : r.toInt = 1 := by
  have nW := nWa_b hN
  have q := x10but h (by omega)
  have o := hO.2.1 v.toInt.toNat (by omega)
  unfold wcl at o
  rw [← hx] at o
  rcases q with q | q
  · exact q.1
  · exact absurd ⟨cb, Or.inr (by omega)⟩ q.2
theorem but_free {v x : Int32} {M D : mM} {r r2 : Int32} (h : SP_X10_isFreeBut 0 v x M r) (h2 : SP_X12_isFree x D r2) (hO : OCC 0 M.1 (D.1 (50, 0, 0))) (hN : NW5 (D.1 (50, 0, 0))) (hu : (D.1 (12, 0, 0) 7).toInt = -1) (hv : 0 ≤ v.toInt ∧ v.toInt < nWa (D.1 (50, 0, 0))) (hx : ¬ x.toInt = (D.1 (50, 0, 0) (181 + 9 * v.toInt.toNat)).toInt) (cb : 0 ≤ x.toInt ∧ x.toInt ≤ 191) : r.toInt = r2.toInt := by
  have nW := nWa_b hN
  have nT := nTh_b hN
  have q := x10but h (by omega)
  have f := x12free h2 hO cb (by omega)
  have o3 := hO.2.2 x.toInt.toNat (by omega)
  rcases q with ⟨q1, q2, q3⟩ | ⟨q1, q2⟩ <;> rcases f with ⟨f1, f2⟩ | ⟨f1, f2⟩
  · rw [q1, f1]
  · exfalso
    rcases q3 with q3 | q3
    · exact f2 (Or.inl q3)
    · rcases o3 with o3 | ⟨o3, o4, o5⟩ | ⟨o3, o4, o5⟩
      · omega
      · omega
      · rw [show (occ 0 M.1 x.toInt.toNat - 100).toNat = v.toInt.toNat by omega] at o5
        unfold wcl at o5
        omega
  · exfalso
    rcases f2 with f2 | f2
    · exact q2 ⟨cb, Or.inl f2⟩
    · omega
  · rw [q1, f1]
theorem one32 : Int32.ofInt 1 = (1 : Int32) := by decide
theorem heldEq {w : Nat} {x r1 r2 v : Int32} {M D : mM} (h1 : SP_X9_held 0 w x M r1) (h2 : SP_X12_held v x D r2) (hR : RW 0 M.1 (D.1 (50, 0, 0))) (hw : (w : Int) = v.toInt) (hv : 0 ≤ v.toInt ∧ v.toInt < nWa (D.1 (50, 0, 0))) (hN : NW5 (D.1 (50, 0, 0))) (cb : 0 ≤ x.toInt ∧ x.toInt ≤ 191) : r1.toInt = r2.toInt := by
  have nW := nWa_b hN
  obtain rfl : w = v.toInt.toNat := by omega
  have wh := (hR.1.2.2.1.2 v.toInt.toNat (by omega)).2 x.toInt.toNat (by omega)
  rw [x12held h2 (by omega) cb]
  rcases x9held h1 with H | H
  · rw [H.2, wh.1, wh.2]; rfl
  · exact absurd cb H.1
theorem he_eq {w : Nat} {x y r1 r2 v : Int32} {M D : mM} (h1 : SP_X9_held 0 w x M r1) (h2 : SP_X12_held v y D r2) (hR : RW 0 M.1 (D.1 (50, 0, 0))) (hw : (w : Int) = v.toInt) (hv : 0 ≤ v.toInt ∧ v.toInt < nWa (D.1 (50, 0, 0))) (hN : NW5 (D.1 (50, 0, 0))) (e : x.toInt = y.toInt) (cb : 0 ≤ x.toInt ∧ x.toInt ≤ 192 - 1) : r1.toInt = r2.toInt := by
  obtain rfl : x = y := i32e e
  exact heldEq h1 h2 hR hw hv hN ⟨cb.1, by omega⟩
theorem hd_lt {w : Nat} {v u : Int32} {M D : mM} {a b : Int32 × Int32} (h1 : RCH (fun x_ y_ : Int32 × Int32 => ST_X9_countHeld_4 0 w u M x_.1 x_.2 y_.1 y_.2) ((0 : Int32), (0 : Int32)) a) (h2 : RCH (fun x_ y_ : Int32 × Int32 => ST_X12_heads_30 v u D x_.1 x_.2 y_.1 y_.2) ((0 : Int32), (0 : Int32)) b) (ha : 192 ≤ a.1.toInt) (hb : 192 ≤ b.1.toInt) (hR : RW 0 M.1 (D.1 (50, 0, 0))) (hN : NW5 (D.1 (50, 0, 0))) (hw : (w : Int) = v.toInt) (hv : 0 ≤ v.toInt ∧ v.toInt < nWa (D.1 (50, 0, 0))) (hu : u.toInt < 3) : a.2 = b.2 := by
  refine lock (fun x : Int32 × Int32 => x.1.toInt) (fun x : Int32 × Int32 => x.1.toInt) (fun x y => x.2 = y.2) 192 h1 h2 (fun x z s => ?_) (fun x z s => ?_) rfl rfl ha hb (fun x z y t hr he s q => ?_)
  · (try dsimp only at s ⊢)
    unfold ST_X9_countHeld_4 at s
    rcases s with ⟨hv0_4, hv1_4, h2_, r3_, hs7_, (⟨h8_, z9_, h10_, hq_v3_4y, hq_v2_4y⟩ | ⟨h8_, z11_, h12_, z13_, h14_, hq_v3_4y, hq_v2_4y⟩)⟩
    · rw [hq_v3_4y]; omega
    · rw [hq_v3_4y]; omega
  · (try dsimp only at s ⊢)
    unfold ST_X12_heads_30 at s
    rcases s with ⟨hv0_30, hv1_30, h14_, r15_, hs19_, h18_, r20_, hs24_, h23_, z25_, h26_, j29_, h30_, z27_, e28_, h31_, (⟨h32_, (⟨h33_, (⟨h34_, z35_, h36_, z37_, h38_, hq_v4_30y, hq_v3_30y⟩ | ⟨h34_, (⟨h40_, z41_, h42_, z43_, h44_, hq_v4_30y, hq_v3_30y⟩ | ⟨h40_, z45_, h46_, z47_, h48_, hq_v4_30y, hq_v3_30y⟩)⟩)⟩ | ⟨h33_, (⟨h49_, z50_, h51_, z52_, h53_, hq_v4_30y, hq_v3_30y⟩ | ⟨h49_, z54_, h55_, z56_, h57_, hq_v4_30y, hq_v3_30y⟩)⟩)⟩ | ⟨h32_, r58_, hs62_, h61_, (⟨h63_, (⟨h64_, (⟨h65_, z66_, h67_, z68_, h69_, hq_v4_30y, hq_v3_30y⟩ | ⟨h65_, (⟨h71_, z72_, h73_, z74_, h75_, hq_v4_30y, hq_v3_30y⟩ | ⟨h71_, z76_, h77_, z78_, h79_, hq_v4_30y, hq_v3_30y⟩)⟩)⟩ | ⟨h64_, (⟨h80_, z81_, h82_, z83_, h84_, hq_v4_30y, hq_v3_30y⟩ | ⟨h80_, z85_, h86_, z87_, h88_, hq_v4_30y, hq_v3_30y⟩)⟩)⟩ | ⟨h63_, (⟨h89_, (⟨h90_, z91_, h92_, z93_, h94_, hq_v4_30y, hq_v3_30y⟩ | ⟨h90_, (⟨h96_, z97_, h98_, z99_, h100_, hq_v4_30y, hq_v3_30y⟩ | ⟨h96_, z101_, h102_, z103_, h104_, hq_v4_30y, hq_v3_30y⟩)⟩)⟩ | ⟨h89_, (⟨h105_, z106_, h107_, z108_, h109_, hq_v4_30y, hq_v3_30y⟩ | ⟨h105_, z110_, h111_, z112_, h113_, hq_v4_30y, hq_v3_30y⟩)⟩)⟩)⟩)⟩
    · rw [hq_v4_30y]; omega
    · rw [hq_v4_30y]; omega
    · rw [hq_v4_30y]; omega
    · rw [hq_v4_30y]; omega
    · rw [hq_v4_30y]; omega
    · rw [hq_v4_30y]; omega
    · rw [hq_v4_30y]; omega
    · rw [hq_v4_30y]; omega
    · rw [hq_v4_30y]; omega
    · rw [hq_v4_30y]; omega
    · rw [hq_v4_30y]; omega
    · rw [hq_v4_30y]; omega
    · rw [hq_v4_30y]; omega
    · rw [hq_v4_30y]; omega
    · rw [hq_v4_30y]; omega
  · (try dsimp only at hr he s q ⊢)
    unfold ST_X9_countHeld_4 at s
    rcases s with ⟨c_hv0_4, c_hv1_4, c_h2_, c_r3_, c_hs7_, (⟨c_h8_, c_z9_, c_h10_, c_hq_v3_4y, c_hq_v2_4y⟩ | ⟨c_h8_, c_z11_, c_h12_, c_z13_, c_h14_, c_hq_v3_4y, c_hq_v2_4y⟩)⟩
    · unfold ST_X12_heads_30 at q
      rcases q with ⟨d_hv0_30, d_hv1_30, d_h14_, d_r15_, d_hs19_, d_h18_, d_r20_, d_hs24_, d_h23_, d_z25_, d_h26_, d_j29_, d_h30_, d_z27_, d_e28_, d_h31_, (⟨d_h32_, (⟨d_h33_, (⟨d_h34_, d_z35_, d_h36_, d_z37_, d_h38_, d_hq_v4_30y, d_hq_v3_30y⟩ | ⟨d_h34_, (⟨d_h40_, d_z41_, d_h42_, d_z43_, d_h44_, d_hq_v4_30y, d_hq_v3_30y⟩ | ⟨d_h40_, d_z45_, d_h46_, d_z47_, d_h48_, d_hq_v4_30y, d_hq_v3_30y⟩)⟩)⟩ | ⟨d_h33_, (⟨d_h49_, d_z50_, d_h51_, d_z52_, d_h53_, d_hq_v4_30y, d_hq_v3_30y⟩ | ⟨d_h49_, d_z54_, d_h55_, d_z56_, d_h57_, d_hq_v4_30y, d_hq_v3_30y⟩)⟩)⟩ | ⟨d_h32_, d_r58_, d_hs62_, d_h61_, (⟨d_h63_, (⟨d_h64_, (⟨d_h65_, d_z66_, d_h67_, d_z68_, d_h69_, d_hq_v4_30y, d_hq_v3_30y⟩ | ⟨d_h65_, (⟨d_h71_, d_z72_, d_h73_, d_z74_, d_h75_, d_hq_v4_30y, d_hq_v3_30y⟩ | ⟨d_h71_, d_z76_, d_h77_, d_z78_, d_h79_, d_hq_v4_30y, d_hq_v3_30y⟩)⟩)⟩ | ⟨d_h64_, (⟨d_h80_, d_z81_, d_h82_, d_z83_, d_h84_, d_hq_v4_30y, d_hq_v3_30y⟩ | ⟨d_h80_, d_z85_, d_h86_, d_z87_, d_h88_, d_hq_v4_30y, d_hq_v3_30y⟩)⟩)⟩ | ⟨d_h63_, (⟨d_h89_, (⟨d_h90_, d_z91_, d_h92_, d_z93_, d_h94_, d_hq_v4_30y, d_hq_v3_30y⟩ | ⟨d_h90_, (⟨d_h96_, d_z97_, d_h98_, d_z99_, d_h100_, d_hq_v4_30y, d_hq_v3_30y⟩ | ⟨d_h96_, d_z101_, d_h102_, d_z103_, d_h104_, d_hq_v4_30y, d_hq_v3_30y⟩)⟩)⟩ | ⟨d_h89_, (⟨d_h105_, d_z106_, d_h107_, d_z108_, d_h109_, d_hq_v4_30y, d_hq_v3_30y⟩ | ⟨d_h105_, d_z110_, d_h111_, d_z112_, d_h113_, d_hq_v4_30y, d_hq_v3_30y⟩)⟩)⟩)⟩)⟩
      · rw [c_hq_v2_4y, d_hq_v3_30y, d_h36_, hr, Int32.add_zero]
      · rw [c_hq_v2_4y, d_hq_v3_30y, d_h42_, hr, Int32.add_zero]
      · exact absurd d_h33_ (by omega)
      · rw [c_hq_v2_4y, d_hq_v3_30y, d_h51_, hr, Int32.add_zero]
      · have e := he_eq c_hs7_ d_hs19_ hR hw hv hN he ⟨c_hv0_4, Int.le_sub_one_of_lt c_h2_⟩
        omega
      · rw [c_hq_v2_4y, d_hq_v3_30y, d_h67_, hr, Int32.add_zero]
      · rw [c_hq_v2_4y, d_hq_v3_30y, d_h73_, hr, Int32.add_zero]
      · exact absurd d_h64_ (by omega)
      · rw [c_hq_v2_4y, d_hq_v3_30y, d_h82_, hr, Int32.add_zero]
      · have e := he_eq c_hs7_ d_hs19_ hR hw hv hN he ⟨c_hv0_4, Int.le_sub_one_of_lt c_h2_⟩
        omega
      · rw [c_hq_v2_4y, d_hq_v3_30y, d_h92_, hr, Int32.add_zero]
      · rw [c_hq_v2_4y, d_hq_v3_30y, d_h98_, hr, Int32.add_zero]
      · exact absurd d_h89_ (by omega)
      · rw [c_hq_v2_4y, d_hq_v3_30y, d_h107_, hr, Int32.add_zero]
      · have e := he_eq c_hs7_ d_hs19_ hR hw hv hN he ⟨c_hv0_4, Int.le_sub_one_of_lt c_h2_⟩
        omega
    · unfold ST_X12_heads_30 at q
      rcases q with ⟨d_hv0_30, d_hv1_30, d_h14_, d_r15_, d_hs19_, d_h18_, d_r20_, d_hs24_, d_h23_, d_z25_, d_h26_, d_j29_, d_h30_, d_z27_, d_e28_, d_h31_, (⟨d_h32_, (⟨d_h33_, (⟨d_h34_, d_z35_, d_h36_, d_z37_, d_h38_, d_hq_v4_30y, d_hq_v3_30y⟩ | ⟨d_h34_, (⟨d_h40_, d_z41_, d_h42_, d_z43_, d_h44_, d_hq_v4_30y, d_hq_v3_30y⟩ | ⟨d_h40_, d_z45_, d_h46_, d_z47_, d_h48_, d_hq_v4_30y, d_hq_v3_30y⟩)⟩)⟩ | ⟨d_h33_, (⟨d_h49_, d_z50_, d_h51_, d_z52_, d_h53_, d_hq_v4_30y, d_hq_v3_30y⟩ | ⟨d_h49_, d_z54_, d_h55_, d_z56_, d_h57_, d_hq_v4_30y, d_hq_v3_30y⟩)⟩)⟩ | ⟨d_h32_, d_r58_, d_hs62_, d_h61_, (⟨d_h63_, (⟨d_h64_, (⟨d_h65_, d_z66_, d_h67_, d_z68_, d_h69_, d_hq_v4_30y, d_hq_v3_30y⟩ | ⟨d_h65_, (⟨d_h71_, d_z72_, d_h73_, d_z74_, d_h75_, d_hq_v4_30y, d_hq_v3_30y⟩ | ⟨d_h71_, d_z76_, d_h77_, d_z78_, d_h79_, d_hq_v4_30y, d_hq_v3_30y⟩)⟩)⟩ | ⟨d_h64_, (⟨d_h80_, d_z81_, d_h82_, d_z83_, d_h84_, d_hq_v4_30y, d_hq_v3_30y⟩ | ⟨d_h80_, d_z85_, d_h86_, d_z87_, d_h88_, d_hq_v4_30y, d_hq_v3_30y⟩)⟩)⟩ | ⟨d_h63_, (⟨d_h89_, (⟨d_h90_, d_z91_, d_h92_, d_z93_, d_h94_, d_hq_v4_30y, d_hq_v3_30y⟩ | ⟨d_h90_, (⟨d_h96_, d_z97_, d_h98_, d_z99_, d_h100_, d_hq_v4_30y, d_hq_v3_30y⟩ | ⟨d_h96_, d_z101_, d_h102_, d_z103_, d_h104_, d_hq_v4_30y, d_hq_v3_30y⟩)⟩)⟩ | ⟨d_h89_, (⟨d_h105_, d_z106_, d_h107_, d_z108_, d_h109_, d_hq_v4_30y, d_hq_v3_30y⟩ | ⟨d_h105_, d_z110_, d_h111_, d_z112_, d_h113_, d_hq_v4_30y, d_hq_v3_30y⟩)⟩)⟩)⟩)⟩
      · exact absurd d_h33_ (by omega)
      · exact absurd d_h33_ (by omega)
      · rw [c_hq_v2_4y, c_h12_, d_hq_v3_30y, d_h46_, hr, one32]
      · have e := he_eq c_hs7_ d_hs19_ hR hw hv hN he ⟨c_hv0_4, Int.le_sub_one_of_lt c_h2_⟩
        omega
      · rw [c_hq_v2_4y, c_h12_, d_hq_v3_30y, d_h55_, hr, one32]
      · exact absurd d_h64_ (by omega)
      · exact absurd d_h64_ (by omega)
      · rw [c_hq_v2_4y, c_h12_, d_hq_v3_30y, d_h77_, hr, one32]
      · have e := he_eq c_hs7_ d_hs19_ hR hw hv hN he ⟨c_hv0_4, Int.le_sub_one_of_lt c_h2_⟩
        omega
      · rw [c_hq_v2_4y, c_h12_, d_hq_v3_30y, d_h86_, hr, one32]
      · exact absurd d_h89_ (by omega)
      · exact absurd d_h89_ (by omega)
      · rw [c_hq_v2_4y, c_h12_, d_hq_v3_30y, d_h102_, hr, one32]
      · have e := he_eq c_hs7_ d_hs19_ hR hw hv hN he ⟨c_hv0_4, Int.le_sub_one_of_lt c_h2_⟩
        omega
      · rw [c_hq_v2_4y, c_h12_, d_hq_v3_30y, d_h111_, hr, one32]
theorem hd_wr {v u : Int32} {M D : mM} {a b : Int32 × Int32} (h1 : RCH (fun x_ y_ : Int32 × Int32 => ST_X10_countWrong_14 0 v M x_.1 x_.2 y_.1 y_.2) ((0 : Int32), (0 : Int32)) a) (h2 : RCH (fun x_ y_ : Int32 × Int32 => ST_X12_heads_30 v u D x_.1 x_.2 y_.1 y_.2) ((0 : Int32), (0 : Int32)) b) (ha : 192 ≤ a.1.toInt) (hb : 192 ≤ b.1.toInt) (hR : RW 0 M.1 (D.1 (50, 0, 0))) (hN : NW5 (D.1 (50, 0, 0))) (h7 : (D.1 (12, 0, 0) 7).toInt = -1) (hv : 0 ≤ v.toInt ∧ v.toInt < nWa (D.1 (50, 0, 0))) (hu : 3 ≤ u.toInt) : a.2 = b.2 := by
  have nW := nWa_b hN
  refine lock (fun x : Int32 × Int32 => x.1.toInt) (fun x : Int32 × Int32 => x.1.toInt) (fun x y => x.2 = y.2) 192 h1 h2 (fun x z s => ?_) (fun x z s => ?_) rfl rfl ha hb (fun x z y t hr he s q => ?_)
  · (try dsimp only at s ⊢)
    unfold ST_X10_countWrong_14 at s
    rcases s with ⟨hv0_14, hv1_14, h8_, j9_, h10_, h11_, r12_, hs16_, r17_, hs21_, h20_, (⟨h22_, (⟨h23_, z24_, h25_, hq_v3_14y, hq_v2_14y⟩ | ⟨h23_, (⟨h26_, z27_, h28_, hq_v3_14y, hq_v2_14y⟩ | ⟨h26_, z29_, h30_, z31_, h32_, hq_v3_14y, hq_v2_14y⟩)⟩)⟩ | ⟨h22_, (⟨h33_, z34_, h35_, hq_v3_14y, hq_v2_14y⟩ | ⟨h33_, (⟨h36_, z37_, h38_, hq_v3_14y, hq_v2_14y⟩ | ⟨h36_, z39_, h40_, z41_, h42_, hq_v3_14y, hq_v2_14y⟩)⟩)⟩)⟩
    · rw [hq_v3_14y]; omega
    · rw [hq_v3_14y]; omega
    · rw [hq_v3_14y]; omega
    · rw [hq_v3_14y]; omega
    · rw [hq_v3_14y]; omega
    · rw [hq_v3_14y]; omega
  · (try dsimp only at s ⊢)
    unfold ST_X12_heads_30 at s
    rcases s with ⟨hv0_30, hv1_30, h14_, r15_, hs19_, h18_, r20_, hs24_, h23_, z25_, h26_, j29_, h30_, z27_, e28_, h31_, (⟨h32_, (⟨h33_, (⟨h34_, z35_, h36_, z37_, h38_, hq_v4_30y, hq_v3_30y⟩ | ⟨h34_, (⟨h40_, z41_, h42_, z43_, h44_, hq_v4_30y, hq_v3_30y⟩ | ⟨h40_, z45_, h46_, z47_, h48_, hq_v4_30y, hq_v3_30y⟩)⟩)⟩ | ⟨h33_, (⟨h49_, z50_, h51_, z52_, h53_, hq_v4_30y, hq_v3_30y⟩ | ⟨h49_, z54_, h55_, z56_, h57_, hq_v4_30y, hq_v3_30y⟩)⟩)⟩ | ⟨h32_, r58_, hs62_, h61_, (⟨h63_, (⟨h64_, (⟨h65_, z66_, h67_, z68_, h69_, hq_v4_30y, hq_v3_30y⟩ | ⟨h65_, (⟨h71_, z72_, h73_, z74_, h75_, hq_v4_30y, hq_v3_30y⟩ | ⟨h71_, z76_, h77_, z78_, h79_, hq_v4_30y, hq_v3_30y⟩)⟩)⟩ | ⟨h64_, (⟨h80_, z81_, h82_, z83_, h84_, hq_v4_30y, hq_v3_30y⟩ | ⟨h80_, z85_, h86_, z87_, h88_, hq_v4_30y, hq_v3_30y⟩)⟩)⟩ | ⟨h63_, (⟨h89_, (⟨h90_, z91_, h92_, z93_, h94_, hq_v4_30y, hq_v3_30y⟩ | ⟨h90_, (⟨h96_, z97_, h98_, z99_, h100_, hq_v4_30y, hq_v3_30y⟩ | ⟨h96_, z101_, h102_, z103_, h104_, hq_v4_30y, hq_v3_30y⟩)⟩)⟩ | ⟨h89_, (⟨h105_, z106_, h107_, z108_, h109_, hq_v4_30y, hq_v3_30y⟩ | ⟨h105_, z110_, h111_, z112_, h113_, hq_v4_30y, hq_v3_30y⟩)⟩)⟩)⟩)⟩
    · rw [hq_v4_30y]; omega
    · rw [hq_v4_30y]; omega
    · rw [hq_v4_30y]; omega
    · rw [hq_v4_30y]; omega
    · rw [hq_v4_30y]; omega
    · rw [hq_v4_30y]; omega
    · rw [hq_v4_30y]; omega
    · rw [hq_v4_30y]; omega
    · rw [hq_v4_30y]; omega
    · rw [hq_v4_30y]; omega
    · rw [hq_v4_30y]; omega
    · rw [hq_v4_30y]; omega
    · rw [hq_v4_30y]; omega
    · rw [hq_v4_30y]; omega
    · rw [hq_v4_30y]; omega
  · (try dsimp only at hr he s q ⊢)
    unfold ST_X10_countWrong_14 at s
    rcases s with ⟨c_hv0_14, c_hv1_14, c_h8_, c_j9_, c_h10_, c_h11_, c_r12_, c_hs16_, c_r17_, c_hs21_, c_h20_, (⟨c_h22_, (⟨c_h23_, c_z24_, c_h25_, c_hq_v3_14y, c_hq_v2_14y⟩ | ⟨c_h23_, (⟨c_h26_, c_z27_, c_h28_, c_hq_v3_14y, c_hq_v2_14y⟩ | ⟨c_h26_, c_z29_, c_h30_, c_z31_, c_h32_, c_hq_v3_14y, c_hq_v2_14y⟩)⟩)⟩ | ⟨c_h22_, (⟨c_h33_, c_z34_, c_h35_, c_hq_v3_14y, c_hq_v2_14y⟩ | ⟨c_h33_, (⟨c_h36_, c_z37_, c_h38_, c_hq_v3_14y, c_hq_v2_14y⟩ | ⟨c_h36_, c_z39_, c_h40_, c_z41_, c_h42_, c_hq_v3_14y, c_hq_v2_14y⟩)⟩)⟩)⟩
    · unfold ST_X12_heads_30 at q
      rcases q with ⟨d_hv0_30, d_hv1_30, d_h14_, d_r15_, d_hs19_, d_h18_, d_r20_, d_hs24_, d_h23_, d_z25_, d_h26_, d_j29_, d_h30_, d_z27_, d_e28_, d_h31_, (⟨d_h32_, (⟨d_h33_, (⟨d_h34_, d_z35_, d_h36_, d_z37_, d_h38_, d_hq_v4_30y, d_hq_v3_30y⟩ | ⟨d_h34_, (⟨d_h40_, d_z41_, d_h42_, d_z43_, d_h44_, d_hq_v4_30y, d_hq_v3_30y⟩ | ⟨d_h40_, d_z45_, d_h46_, d_z47_, d_h48_, d_hq_v4_30y, d_hq_v3_30y⟩)⟩)⟩ | ⟨d_h33_, (⟨d_h49_, d_z50_, d_h51_, d_z52_, d_h53_, d_hq_v4_30y, d_hq_v3_30y⟩ | ⟨d_h49_, d_z54_, d_h55_, d_z56_, d_h57_, d_hq_v4_30y, d_hq_v3_30y⟩)⟩)⟩ | ⟨d_h32_, d_r58_, d_hs62_, d_h61_, (⟨d_h63_, (⟨d_h64_, (⟨d_h65_, d_z66_, d_h67_, d_z68_, d_h69_, d_hq_v4_30y, d_hq_v3_30y⟩ | ⟨d_h65_, (⟨d_h71_, d_z72_, d_h73_, d_z74_, d_h75_, d_hq_v4_30y, d_hq_v3_30y⟩ | ⟨d_h71_, d_z76_, d_h77_, d_z78_, d_h79_, d_hq_v4_30y, d_hq_v3_30y⟩)⟩)⟩ | ⟨d_h64_, (⟨d_h80_, d_z81_, d_h82_, d_z83_, d_h84_, d_hq_v4_30y, d_hq_v3_30y⟩ | ⟨d_h80_, d_z85_, d_h86_, d_z87_, d_h88_, d_hq_v4_30y, d_hq_v3_30y⟩)⟩)⟩ | ⟨d_h63_, (⟨d_h89_, (⟨d_h90_, d_z91_, d_h92_, d_z93_, d_h94_, d_hq_v4_30y, d_hq_v3_30y⟩ | ⟨d_h90_, (⟨d_h96_, d_z97_, d_h98_, d_z99_, d_h100_, d_hq_v4_30y, d_hq_v3_30y⟩ | ⟨d_h96_, d_z101_, d_h102_, d_z103_, d_h104_, d_hq_v4_30y, d_hq_v3_30y⟩)⟩)⟩ | ⟨d_h89_, (⟨d_h105_, d_z106_, d_h107_, d_z108_, d_h109_, d_hq_v4_30y, d_hq_v3_30y⟩ | ⟨d_h105_, d_z110_, d_h111_, d_z112_, d_h113_, d_hq_v4_30y, d_hq_v3_30y⟩)⟩)⟩)⟩)⟩
      · rw [c_hq_v2_14y, d_hq_v3_30y, d_h36_, hr, Int32.add_zero]
      · rw [c_hq_v2_14y, d_hq_v3_30y, d_h42_, hr, Int32.add_zero]
      · have e := he_eq c_hs16_ d_hs19_ hR c_h10_ hv hN he ⟨c_hv0_14, Int.le_sub_one_of_lt c_h8_⟩
        have cb : 0 ≤ x.1.toInt ∧ x.1.toInt ≤ 191 := ⟨c_hv0_14, by omega⟩
        have ey := eT d_e28_
        rw [show d_j29_ = 181 + 9 * v.toInt.toNat by omega] at ey
        have K := but_own c_hs21_ hR.1.2.2.2.2.1 hN hv (by omega) cb
        omega
      · rw [c_hq_v2_14y, d_hq_v3_30y, d_h51_, hr, Int32.add_zero]
      · exact absurd d_h33_ (by omega)
      · rw [c_hq_v2_14y, d_hq_v3_30y, d_h67_, hr, Int32.add_zero]
      · rw [c_hq_v2_14y, d_hq_v3_30y, d_h73_, hr, Int32.add_zero]
      · have e := he_eq c_hs16_ d_hs19_ hR c_h10_ hv hN he ⟨c_hv0_14, Int.le_sub_one_of_lt c_h8_⟩
        have cb : 0 ≤ x.1.toInt ∧ x.1.toInt ≤ 191 := ⟨c_hv0_14, by omega⟩
        have ey := eT d_e28_
        rw [show d_j29_ = 181 + 9 * v.toInt.toNat by omega] at ey
        obtain e2 : x.1 = y.1 := i32e he
        rw [← e2] at d_hs62_
        have K := but_free c_hs21_ d_hs62_ hR.1.2.2.2.2.1 hN h7 hv (by omega) cb
        omega
      · rw [c_hq_v2_14y, d_hq_v3_30y, d_h82_, hr, Int32.add_zero]
      · exact absurd d_h64_ (by omega)
      · rw [c_hq_v2_14y, d_hq_v3_30y, d_h92_, hr, Int32.add_zero]
      · rw [c_hq_v2_14y, d_hq_v3_30y, d_h98_, hr, Int32.add_zero]
      · have e := he_eq c_hs16_ d_hs19_ hR c_h10_ hv hN he ⟨c_hv0_14, Int.le_sub_one_of_lt c_h8_⟩
        have cb : 0 ≤ x.1.toInt ∧ x.1.toInt ≤ 191 := ⟨c_hv0_14, by omega⟩
        have ey := eT d_e28_
        rw [show d_j29_ = 181 + 9 * v.toInt.toNat by omega] at ey
        obtain e2 : x.1 = y.1 := i32e he
        rw [← e2] at d_hs62_
        have K := but_free c_hs21_ d_hs62_ hR.1.2.2.2.2.1 hN h7 hv (by omega) cb
        omega
      · rw [c_hq_v2_14y, d_hq_v3_30y, d_h107_, hr, Int32.add_zero]
      · exact absurd d_h89_ (by omega)
    · unfold ST_X12_heads_30 at q
      rcases q with ⟨d_hv0_30, d_hv1_30, d_h14_, d_r15_, d_hs19_, d_h18_, d_r20_, d_hs24_, d_h23_, d_z25_, d_h26_, d_j29_, d_h30_, d_z27_, d_e28_, d_h31_, (⟨d_h32_, (⟨d_h33_, (⟨d_h34_, d_z35_, d_h36_, d_z37_, d_h38_, d_hq_v4_30y, d_hq_v3_30y⟩ | ⟨d_h34_, (⟨d_h40_, d_z41_, d_h42_, d_z43_, d_h44_, d_hq_v4_30y, d_hq_v3_30y⟩ | ⟨d_h40_, d_z45_, d_h46_, d_z47_, d_h48_, d_hq_v4_30y, d_hq_v3_30y⟩)⟩)⟩ | ⟨d_h33_, (⟨d_h49_, d_z50_, d_h51_, d_z52_, d_h53_, d_hq_v4_30y, d_hq_v3_30y⟩ | ⟨d_h49_, d_z54_, d_h55_, d_z56_, d_h57_, d_hq_v4_30y, d_hq_v3_30y⟩)⟩)⟩ | ⟨d_h32_, d_r58_, d_hs62_, d_h61_, (⟨d_h63_, (⟨d_h64_, (⟨d_h65_, d_z66_, d_h67_, d_z68_, d_h69_, d_hq_v4_30y, d_hq_v3_30y⟩ | ⟨d_h65_, (⟨d_h71_, d_z72_, d_h73_, d_z74_, d_h75_, d_hq_v4_30y, d_hq_v3_30y⟩ | ⟨d_h71_, d_z76_, d_h77_, d_z78_, d_h79_, d_hq_v4_30y, d_hq_v3_30y⟩)⟩)⟩ | ⟨d_h64_, (⟨d_h80_, d_z81_, d_h82_, d_z83_, d_h84_, d_hq_v4_30y, d_hq_v3_30y⟩ | ⟨d_h80_, d_z85_, d_h86_, d_z87_, d_h88_, d_hq_v4_30y, d_hq_v3_30y⟩)⟩)⟩ | ⟨d_h63_, (⟨d_h89_, (⟨d_h90_, d_z91_, d_h92_, d_z93_, d_h94_, d_hq_v4_30y, d_hq_v3_30y⟩ | ⟨d_h90_, (⟨d_h96_, d_z97_, d_h98_, d_z99_, d_h100_, d_hq_v4_30y, d_hq_v3_30y⟩ | ⟨d_h96_, d_z101_, d_h102_, d_z103_, d_h104_, d_hq_v4_30y, d_hq_v3_30y⟩)⟩)⟩ | ⟨d_h89_, (⟨d_h105_, d_z106_, d_h107_, d_z108_, d_h109_, d_hq_v4_30y, d_hq_v3_30y⟩ | ⟨d_h105_, d_z110_, d_h111_, d_z112_, d_h113_, d_hq_v4_30y, d_hq_v3_30y⟩)⟩)⟩)⟩)⟩
      · rw [c_hq_v2_14y, d_hq_v3_30y, d_h36_, hr, Int32.add_zero]
      · rw [c_hq_v2_14y, d_hq_v3_30y, d_h42_, hr, Int32.add_zero]
      · have e := he_eq c_hs16_ d_hs19_ hR c_h10_ hv hN he ⟨c_hv0_14, Int.le_sub_one_of_lt c_h8_⟩
        have cb : 0 ≤ x.1.toInt ∧ x.1.toInt ≤ 191 := ⟨c_hv0_14, by omega⟩
        have ey := eT d_e28_
        rw [show d_j29_ = 181 + 9 * v.toInt.toNat by omega] at ey
        have K := but_own c_hs21_ hR.1.2.2.2.2.1 hN hv (by omega) cb
        omega
      · rw [c_hq_v2_14y, d_hq_v3_30y, d_h51_, hr, Int32.add_zero]
      · exact absurd d_h33_ (by omega)
      · rw [c_hq_v2_14y, d_hq_v3_30y, d_h67_, hr, Int32.add_zero]
      · rw [c_hq_v2_14y, d_hq_v3_30y, d_h73_, hr, Int32.add_zero]
      · have e := he_eq c_hs16_ d_hs19_ hR c_h10_ hv hN he ⟨c_hv0_14, Int.le_sub_one_of_lt c_h8_⟩
        have cb : 0 ≤ x.1.toInt ∧ x.1.toInt ≤ 191 := ⟨c_hv0_14, by omega⟩
        have ey := eT d_e28_
        rw [show d_j29_ = 181 + 9 * v.toInt.toNat by omega] at ey
        obtain e2 : x.1 = y.1 := i32e he
        rw [← e2] at d_hs62_
        have K := but_free c_hs21_ d_hs62_ hR.1.2.2.2.2.1 hN h7 hv (by omega) cb
        omega
      · rw [c_hq_v2_14y, d_hq_v3_30y, d_h82_, hr, Int32.add_zero]
      · exact absurd d_h64_ (by omega)
      · rw [c_hq_v2_14y, d_hq_v3_30y, d_h92_, hr, Int32.add_zero]
      · rw [c_hq_v2_14y, d_hq_v3_30y, d_h98_, hr, Int32.add_zero]
      · have e := he_eq c_hs16_ d_hs19_ hR c_h10_ hv hN he ⟨c_hv0_14, Int.le_sub_one_of_lt c_h8_⟩
        have cb : 0 ≤ x.1.toInt ∧ x.1.toInt ≤ 191 := ⟨c_hv0_14, by omega⟩
        have ey := eT d_e28_
        rw [show d_j29_ = 181 + 9 * v.toInt.toNat by omega] at ey
        obtain e2 : x.1 = y.1 := i32e he
        rw [← e2] at d_hs62_
        have K := but_free c_hs21_ d_hs62_ hR.1.2.2.2.2.1 hN h7 hv (by omega) cb
        omega
      · rw [c_hq_v2_14y, d_hq_v3_30y, d_h107_, hr, Int32.add_zero]
      · exact absurd d_h89_ (by omega)
    · unfold ST_X12_heads_30 at q
      rcases q with ⟨d_hv0_30, d_hv1_30, d_h14_, d_r15_, d_hs19_, d_h18_, d_r20_, d_hs24_, d_h23_, d_z25_, d_h26_, d_j29_, d_h30_, d_z27_, d_e28_, d_h31_, (⟨d_h32_, (⟨d_h33_, (⟨d_h34_, d_z35_, d_h36_, d_z37_, d_h38_, d_hq_v4_30y, d_hq_v3_30y⟩ | ⟨d_h34_, (⟨d_h40_, d_z41_, d_h42_, d_z43_, d_h44_, d_hq_v4_30y, d_hq_v3_30y⟩ | ⟨d_h40_, d_z45_, d_h46_, d_z47_, d_h48_, d_hq_v4_30y, d_hq_v3_30y⟩)⟩)⟩ | ⟨d_h33_, (⟨d_h49_, d_z50_, d_h51_, d_z52_, d_h53_, d_hq_v4_30y, d_hq_v3_30y⟩ | ⟨d_h49_, d_z54_, d_h55_, d_z56_, d_h57_, d_hq_v4_30y, d_hq_v3_30y⟩)⟩)⟩ | ⟨d_h32_, d_r58_, d_hs62_, d_h61_, (⟨d_h63_, (⟨d_h64_, (⟨d_h65_, d_z66_, d_h67_, d_z68_, d_h69_, d_hq_v4_30y, d_hq_v3_30y⟩ | ⟨d_h65_, (⟨d_h71_, d_z72_, d_h73_, d_z74_, d_h75_, d_hq_v4_30y, d_hq_v3_30y⟩ | ⟨d_h71_, d_z76_, d_h77_, d_z78_, d_h79_, d_hq_v4_30y, d_hq_v3_30y⟩)⟩)⟩ | ⟨d_h64_, (⟨d_h80_, d_z81_, d_h82_, d_z83_, d_h84_, d_hq_v4_30y, d_hq_v3_30y⟩ | ⟨d_h80_, d_z85_, d_h86_, d_z87_, d_h88_, d_hq_v4_30y, d_hq_v3_30y⟩)⟩)⟩ | ⟨d_h63_, (⟨d_h89_, (⟨d_h90_, d_z91_, d_h92_, d_z93_, d_h94_, d_hq_v4_30y, d_hq_v3_30y⟩ | ⟨d_h90_, (⟨d_h96_, d_z97_, d_h98_, d_z99_, d_h100_, d_hq_v4_30y, d_hq_v3_30y⟩ | ⟨d_h96_, d_z101_, d_h102_, d_z103_, d_h104_, d_hq_v4_30y, d_hq_v3_30y⟩)⟩)⟩ | ⟨d_h89_, (⟨d_h105_, d_z106_, d_h107_, d_z108_, d_h109_, d_hq_v4_30y, d_hq_v3_30y⟩ | ⟨d_h105_, d_z110_, d_h111_, d_z112_, d_h113_, d_hq_v4_30y, d_hq_v3_30y⟩)⟩)⟩)⟩)⟩
      · have e := he_eq c_hs16_ d_hs19_ hR c_h10_ hv hN he ⟨c_hv0_14, Int.le_sub_one_of_lt c_h8_⟩
        have cb : 0 ≤ x.1.toInt ∧ x.1.toInt ≤ 191 := ⟨c_hv0_14, by omega⟩
        have ey := eT d_e28_
        rw [show d_j29_ = 181 + 9 * v.toInt.toNat by omega] at ey
        have K := but_own c_hs21_ hR.1.2.2.2.2.1 hN hv (by omega) cb
        omega
      · have e := he_eq c_hs16_ d_hs19_ hR c_h10_ hv hN he ⟨c_hv0_14, Int.le_sub_one_of_lt c_h8_⟩
        have cb : 0 ≤ x.1.toInt ∧ x.1.toInt ≤ 191 := ⟨c_hv0_14, by omega⟩
        have ey := eT d_e28_
        rw [show d_j29_ = 181 + 9 * v.toInt.toNat by omega] at ey
        have K := but_own c_hs21_ hR.1.2.2.2.2.1 hN hv (by omega) cb
        omega
      · rw [c_hq_v2_14y, c_h30_, d_hq_v3_30y, d_h46_, hr, one32]
      · exact absurd d_h33_ (by omega)
      · rw [c_hq_v2_14y, c_h30_, d_hq_v3_30y, d_h55_, hr, one32]
      · have e := he_eq c_hs16_ d_hs19_ hR c_h10_ hv hN he ⟨c_hv0_14, Int.le_sub_one_of_lt c_h8_⟩
        have cb : 0 ≤ x.1.toInt ∧ x.1.toInt ≤ 191 := ⟨c_hv0_14, by omega⟩
        have ey := eT d_e28_
        rw [show d_j29_ = 181 + 9 * v.toInt.toNat by omega] at ey
        obtain e2 : x.1 = y.1 := i32e he
        rw [← e2] at d_hs62_
        have K := but_free c_hs21_ d_hs62_ hR.1.2.2.2.2.1 hN h7 hv (by omega) cb
        omega
      · have e := he_eq c_hs16_ d_hs19_ hR c_h10_ hv hN he ⟨c_hv0_14, Int.le_sub_one_of_lt c_h8_⟩
        have cb : 0 ≤ x.1.toInt ∧ x.1.toInt ≤ 191 := ⟨c_hv0_14, by omega⟩
        have ey := eT d_e28_
        rw [show d_j29_ = 181 + 9 * v.toInt.toNat by omega] at ey
        obtain e2 : x.1 = y.1 := i32e he
        rw [← e2] at d_hs62_
        have K := but_free c_hs21_ d_hs62_ hR.1.2.2.2.2.1 hN h7 hv (by omega) cb
        omega
      · rw [c_hq_v2_14y, c_h30_, d_hq_v3_30y, d_h77_, hr, one32]
      · exact absurd d_h64_ (by omega)
      · rw [c_hq_v2_14y, c_h30_, d_hq_v3_30y, d_h86_, hr, one32]
      · have e := he_eq c_hs16_ d_hs19_ hR c_h10_ hv hN he ⟨c_hv0_14, Int.le_sub_one_of_lt c_h8_⟩
        have cb : 0 ≤ x.1.toInt ∧ x.1.toInt ≤ 191 := ⟨c_hv0_14, by omega⟩
        have ey := eT d_e28_
        rw [show d_j29_ = 181 + 9 * v.toInt.toNat by omega] at ey
        obtain e2 : x.1 = y.1 := i32e he
        rw [← e2] at d_hs62_
        have K := but_free c_hs21_ d_hs62_ hR.1.2.2.2.2.1 hN h7 hv (by omega) cb
        omega
      · have e := he_eq c_hs16_ d_hs19_ hR c_h10_ hv hN he ⟨c_hv0_14, Int.le_sub_one_of_lt c_h8_⟩
        have cb : 0 ≤ x.1.toInt ∧ x.1.toInt ≤ 191 := ⟨c_hv0_14, by omega⟩
        have ey := eT d_e28_
        rw [show d_j29_ = 181 + 9 * v.toInt.toNat by omega] at ey
        obtain e2 : x.1 = y.1 := i32e he
        rw [← e2] at d_hs62_
        have K := but_free c_hs21_ d_hs62_ hR.1.2.2.2.2.1 hN h7 hv (by omega) cb
        omega
      · rw [c_hq_v2_14y, c_h30_, d_hq_v3_30y, d_h102_, hr, one32]
      · exact absurd d_h89_ (by omega)
      · rw [c_hq_v2_14y, c_h30_, d_hq_v3_30y, d_h111_, hr, one32]
    · unfold ST_X12_heads_30 at q
      rcases q with ⟨d_hv0_30, d_hv1_30, d_h14_, d_r15_, d_hs19_, d_h18_, d_r20_, d_hs24_, d_h23_, d_z25_, d_h26_, d_j29_, d_h30_, d_z27_, d_e28_, d_h31_, (⟨d_h32_, (⟨d_h33_, (⟨d_h34_, d_z35_, d_h36_, d_z37_, d_h38_, d_hq_v4_30y, d_hq_v3_30y⟩ | ⟨d_h34_, (⟨d_h40_, d_z41_, d_h42_, d_z43_, d_h44_, d_hq_v4_30y, d_hq_v3_30y⟩ | ⟨d_h40_, d_z45_, d_h46_, d_z47_, d_h48_, d_hq_v4_30y, d_hq_v3_30y⟩)⟩)⟩ | ⟨d_h33_, (⟨d_h49_, d_z50_, d_h51_, d_z52_, d_h53_, d_hq_v4_30y, d_hq_v3_30y⟩ | ⟨d_h49_, d_z54_, d_h55_, d_z56_, d_h57_, d_hq_v4_30y, d_hq_v3_30y⟩)⟩)⟩ | ⟨d_h32_, d_r58_, d_hs62_, d_h61_, (⟨d_h63_, (⟨d_h64_, (⟨d_h65_, d_z66_, d_h67_, d_z68_, d_h69_, d_hq_v4_30y, d_hq_v3_30y⟩ | ⟨d_h65_, (⟨d_h71_, d_z72_, d_h73_, d_z74_, d_h75_, d_hq_v4_30y, d_hq_v3_30y⟩ | ⟨d_h71_, d_z76_, d_h77_, d_z78_, d_h79_, d_hq_v4_30y, d_hq_v3_30y⟩)⟩)⟩ | ⟨d_h64_, (⟨d_h80_, d_z81_, d_h82_, d_z83_, d_h84_, d_hq_v4_30y, d_hq_v3_30y⟩ | ⟨d_h80_, d_z85_, d_h86_, d_z87_, d_h88_, d_hq_v4_30y, d_hq_v3_30y⟩)⟩)⟩ | ⟨d_h63_, (⟨d_h89_, (⟨d_h90_, d_z91_, d_h92_, d_z93_, d_h94_, d_hq_v4_30y, d_hq_v3_30y⟩ | ⟨d_h90_, (⟨d_h96_, d_z97_, d_h98_, d_z99_, d_h100_, d_hq_v4_30y, d_hq_v3_30y⟩ | ⟨d_h96_, d_z101_, d_h102_, d_z103_, d_h104_, d_hq_v4_30y, d_hq_v3_30y⟩)⟩)⟩ | ⟨d_h89_, (⟨d_h105_, d_z106_, d_h107_, d_z108_, d_h109_, d_hq_v4_30y, d_hq_v3_30y⟩ | ⟨d_h105_, d_z110_, d_h111_, d_z112_, d_h113_, d_hq_v4_30y, d_hq_v3_30y⟩)⟩)⟩)⟩)⟩
      · rw [c_hq_v2_14y, d_hq_v3_30y, d_h36_, hr, Int32.add_zero]
      · rw [c_hq_v2_14y, d_hq_v3_30y, d_h42_, hr, Int32.add_zero]
      · have e := he_eq c_hs16_ d_hs19_ hR c_h10_ hv hN he ⟨c_hv0_14, Int.le_sub_one_of_lt c_h8_⟩
        have cb : 0 ≤ x.1.toInt ∧ x.1.toInt ≤ 191 := ⟨c_hv0_14, by omega⟩
        have ey := eT d_e28_
        rw [show d_j29_ = 181 + 9 * v.toInt.toNat by omega] at ey
        have K := but_own c_hs21_ hR.1.2.2.2.2.1 hN hv (by omega) cb
        omega
      · rw [c_hq_v2_14y, d_hq_v3_30y, d_h51_, hr, Int32.add_zero]
      · exact absurd d_h33_ (by omega)
      · rw [c_hq_v2_14y, d_hq_v3_30y, d_h67_, hr, Int32.add_zero]
      · rw [c_hq_v2_14y, d_hq_v3_30y, d_h73_, hr, Int32.add_zero]
      · have e := he_eq c_hs16_ d_hs19_ hR c_h10_ hv hN he ⟨c_hv0_14, Int.le_sub_one_of_lt c_h8_⟩
        have cb : 0 ≤ x.1.toInt ∧ x.1.toInt ≤ 191 := ⟨c_hv0_14, by omega⟩
        have ey := eT d_e28_
        rw [show d_j29_ = 181 + 9 * v.toInt.toNat by omega] at ey
        obtain e2 : x.1 = y.1 := i32e he
        rw [← e2] at d_hs62_
        have K := but_free c_hs21_ d_hs62_ hR.1.2.2.2.2.1 hN h7 hv (by omega) cb
        omega
      · rw [c_hq_v2_14y, d_hq_v3_30y, d_h82_, hr, Int32.add_zero]
      · exact absurd d_h64_ (by omega)
      · rw [c_hq_v2_14y, d_hq_v3_30y, d_h92_, hr, Int32.add_zero]
      · rw [c_hq_v2_14y, d_hq_v3_30y, d_h98_, hr, Int32.add_zero]
      · have e := he_eq c_hs16_ d_hs19_ hR c_h10_ hv hN he ⟨c_hv0_14, Int.le_sub_one_of_lt c_h8_⟩
        have cb : 0 ≤ x.1.toInt ∧ x.1.toInt ≤ 191 := ⟨c_hv0_14, by omega⟩
        have ey := eT d_e28_
        rw [show d_j29_ = 181 + 9 * v.toInt.toNat by omega] at ey
        obtain e2 : x.1 = y.1 := i32e he
        rw [← e2] at d_hs62_
        have K := but_free c_hs21_ d_hs62_ hR.1.2.2.2.2.1 hN h7 hv (by omega) cb
        omega
      · rw [c_hq_v2_14y, d_hq_v3_30y, d_h107_, hr, Int32.add_zero]
      · exact absurd d_h89_ (by omega)
    · unfold ST_X12_heads_30 at q
      rcases q with ⟨d_hv0_30, d_hv1_30, d_h14_, d_r15_, d_hs19_, d_h18_, d_r20_, d_hs24_, d_h23_, d_z25_, d_h26_, d_j29_, d_h30_, d_z27_, d_e28_, d_h31_, (⟨d_h32_, (⟨d_h33_, (⟨d_h34_, d_z35_, d_h36_, d_z37_, d_h38_, d_hq_v4_30y, d_hq_v3_30y⟩ | ⟨d_h34_, (⟨d_h40_, d_z41_, d_h42_, d_z43_, d_h44_, d_hq_v4_30y, d_hq_v3_30y⟩ | ⟨d_h40_, d_z45_, d_h46_, d_z47_, d_h48_, d_hq_v4_30y, d_hq_v3_30y⟩)⟩)⟩ | ⟨d_h33_, (⟨d_h49_, d_z50_, d_h51_, d_z52_, d_h53_, d_hq_v4_30y, d_hq_v3_30y⟩ | ⟨d_h49_, d_z54_, d_h55_, d_z56_, d_h57_, d_hq_v4_30y, d_hq_v3_30y⟩)⟩)⟩ | ⟨d_h32_, d_r58_, d_hs62_, d_h61_, (⟨d_h63_, (⟨d_h64_, (⟨d_h65_, d_z66_, d_h67_, d_z68_, d_h69_, d_hq_v4_30y, d_hq_v3_30y⟩ | ⟨d_h65_, (⟨d_h71_, d_z72_, d_h73_, d_z74_, d_h75_, d_hq_v4_30y, d_hq_v3_30y⟩ | ⟨d_h71_, d_z76_, d_h77_, d_z78_, d_h79_, d_hq_v4_30y, d_hq_v3_30y⟩)⟩)⟩ | ⟨d_h64_, (⟨d_h80_, d_z81_, d_h82_, d_z83_, d_h84_, d_hq_v4_30y, d_hq_v3_30y⟩ | ⟨d_h80_, d_z85_, d_h86_, d_z87_, d_h88_, d_hq_v4_30y, d_hq_v3_30y⟩)⟩)⟩ | ⟨d_h63_, (⟨d_h89_, (⟨d_h90_, d_z91_, d_h92_, d_z93_, d_h94_, d_hq_v4_30y, d_hq_v3_30y⟩ | ⟨d_h90_, (⟨d_h96_, d_z97_, d_h98_, d_z99_, d_h100_, d_hq_v4_30y, d_hq_v3_30y⟩ | ⟨d_h96_, d_z101_, d_h102_, d_z103_, d_h104_, d_hq_v4_30y, d_hq_v3_30y⟩)⟩)⟩ | ⟨d_h89_, (⟨d_h105_, d_z106_, d_h107_, d_z108_, d_h109_, d_hq_v4_30y, d_hq_v3_30y⟩ | ⟨d_h105_, d_z110_, d_h111_, d_z112_, d_h113_, d_hq_v4_30y, d_hq_v3_30y⟩)⟩)⟩)⟩)⟩
      · rw [c_hq_v2_14y, d_hq_v3_30y, d_h36_, hr, Int32.add_zero]
      · rw [c_hq_v2_14y, d_hq_v3_30y, d_h42_, hr, Int32.add_zero]
      · have e := he_eq c_hs16_ d_hs19_ hR c_h10_ hv hN he ⟨c_hv0_14, Int.le_sub_one_of_lt c_h8_⟩
        have cb : 0 ≤ x.1.toInt ∧ x.1.toInt ≤ 191 := ⟨c_hv0_14, by omega⟩
        have ey := eT d_e28_
        rw [show d_j29_ = 181 + 9 * v.toInt.toNat by omega] at ey
        have K := but_own c_hs21_ hR.1.2.2.2.2.1 hN hv (by omega) cb
        omega
      · rw [c_hq_v2_14y, d_hq_v3_30y, d_h51_, hr, Int32.add_zero]
      · exact absurd d_h33_ (by omega)
      · rw [c_hq_v2_14y, d_hq_v3_30y, d_h67_, hr, Int32.add_zero]
      · rw [c_hq_v2_14y, d_hq_v3_30y, d_h73_, hr, Int32.add_zero]
      · have e := he_eq c_hs16_ d_hs19_ hR c_h10_ hv hN he ⟨c_hv0_14, Int.le_sub_one_of_lt c_h8_⟩
        have cb : 0 ≤ x.1.toInt ∧ x.1.toInt ≤ 191 := ⟨c_hv0_14, by omega⟩
        have ey := eT d_e28_
        rw [show d_j29_ = 181 + 9 * v.toInt.toNat by omega] at ey
        obtain e2 : x.1 = y.1 := i32e he
        rw [← e2] at d_hs62_
        have K := but_free c_hs21_ d_hs62_ hR.1.2.2.2.2.1 hN h7 hv (by omega) cb
        omega
      · rw [c_hq_v2_14y, d_hq_v3_30y, d_h82_, hr, Int32.add_zero]
      · exact absurd d_h64_ (by omega)
      · rw [c_hq_v2_14y, d_hq_v3_30y, d_h92_, hr, Int32.add_zero]
      · rw [c_hq_v2_14y, d_hq_v3_30y, d_h98_, hr, Int32.add_zero]
      · have e := he_eq c_hs16_ d_hs19_ hR c_h10_ hv hN he ⟨c_hv0_14, Int.le_sub_one_of_lt c_h8_⟩
        have cb : 0 ≤ x.1.toInt ∧ x.1.toInt ≤ 191 := ⟨c_hv0_14, by omega⟩
        have ey := eT d_e28_
        rw [show d_j29_ = 181 + 9 * v.toInt.toNat by omega] at ey
        obtain e2 : x.1 = y.1 := i32e he
        rw [← e2] at d_hs62_
        have K := but_free c_hs21_ d_hs62_ hR.1.2.2.2.2.1 hN h7 hv (by omega) cb
        omega
      · rw [c_hq_v2_14y, d_hq_v3_30y, d_h107_, hr, Int32.add_zero]
      · exact absurd d_h89_ (by omega)
    · unfold ST_X12_heads_30 at q
      rcases q with ⟨d_hv0_30, d_hv1_30, d_h14_, d_r15_, d_hs19_, d_h18_, d_r20_, d_hs24_, d_h23_, d_z25_, d_h26_, d_j29_, d_h30_, d_z27_, d_e28_, d_h31_, (⟨d_h32_, (⟨d_h33_, (⟨d_h34_, d_z35_, d_h36_, d_z37_, d_h38_, d_hq_v4_30y, d_hq_v3_30y⟩ | ⟨d_h34_, (⟨d_h40_, d_z41_, d_h42_, d_z43_, d_h44_, d_hq_v4_30y, d_hq_v3_30y⟩ | ⟨d_h40_, d_z45_, d_h46_, d_z47_, d_h48_, d_hq_v4_30y, d_hq_v3_30y⟩)⟩)⟩ | ⟨d_h33_, (⟨d_h49_, d_z50_, d_h51_, d_z52_, d_h53_, d_hq_v4_30y, d_hq_v3_30y⟩ | ⟨d_h49_, d_z54_, d_h55_, d_z56_, d_h57_, d_hq_v4_30y, d_hq_v3_30y⟩)⟩)⟩ | ⟨d_h32_, d_r58_, d_hs62_, d_h61_, (⟨d_h63_, (⟨d_h64_, (⟨d_h65_, d_z66_, d_h67_, d_z68_, d_h69_, d_hq_v4_30y, d_hq_v3_30y⟩ | ⟨d_h65_, (⟨d_h71_, d_z72_, d_h73_, d_z74_, d_h75_, d_hq_v4_30y, d_hq_v3_30y⟩ | ⟨d_h71_, d_z76_, d_h77_, d_z78_, d_h79_, d_hq_v4_30y, d_hq_v3_30y⟩)⟩)⟩ | ⟨d_h64_, (⟨d_h80_, d_z81_, d_h82_, d_z83_, d_h84_, d_hq_v4_30y, d_hq_v3_30y⟩ | ⟨d_h80_, d_z85_, d_h86_, d_z87_, d_h88_, d_hq_v4_30y, d_hq_v3_30y⟩)⟩)⟩ | ⟨d_h63_, (⟨d_h89_, (⟨d_h90_, d_z91_, d_h92_, d_z93_, d_h94_, d_hq_v4_30y, d_hq_v3_30y⟩ | ⟨d_h90_, (⟨d_h96_, d_z97_, d_h98_, d_z99_, d_h100_, d_hq_v4_30y, d_hq_v3_30y⟩ | ⟨d_h96_, d_z101_, d_h102_, d_z103_, d_h104_, d_hq_v4_30y, d_hq_v3_30y⟩)⟩)⟩ | ⟨d_h89_, (⟨d_h105_, d_z106_, d_h107_, d_z108_, d_h109_, d_hq_v4_30y, d_hq_v3_30y⟩ | ⟨d_h105_, d_z110_, d_h111_, d_z112_, d_h113_, d_hq_v4_30y, d_hq_v3_30y⟩)⟩)⟩)⟩)⟩
      · have e := he_eq c_hs16_ d_hs19_ hR c_h10_ hv hN he ⟨c_hv0_14, Int.le_sub_one_of_lt c_h8_⟩
        have cb : 0 ≤ x.1.toInt ∧ x.1.toInt ≤ 191 := ⟨c_hv0_14, by omega⟩
        have ey := eT d_e28_
        rw [show d_j29_ = 181 + 9 * v.toInt.toNat by omega] at ey
        have K := but_own c_hs21_ hR.1.2.2.2.2.1 hN hv (by omega) cb
        omega
      · have e := he_eq c_hs16_ d_hs19_ hR c_h10_ hv hN he ⟨c_hv0_14, Int.le_sub_one_of_lt c_h8_⟩
        have cb : 0 ≤ x.1.toInt ∧ x.1.toInt ≤ 191 := ⟨c_hv0_14, by omega⟩
        have ey := eT d_e28_
        rw [show d_j29_ = 181 + 9 * v.toInt.toNat by omega] at ey
        have K := but_own c_hs21_ hR.1.2.2.2.2.1 hN hv (by omega) cb
        omega
      · rw [c_hq_v2_14y, c_h40_, d_hq_v3_30y, d_h46_, hr, one32]
      · exact absurd d_h33_ (by omega)
      · rw [c_hq_v2_14y, c_h40_, d_hq_v3_30y, d_h55_, hr, one32]
      · have e := he_eq c_hs16_ d_hs19_ hR c_h10_ hv hN he ⟨c_hv0_14, Int.le_sub_one_of_lt c_h8_⟩
        have cb : 0 ≤ x.1.toInt ∧ x.1.toInt ≤ 191 := ⟨c_hv0_14, by omega⟩
        have ey := eT d_e28_
        rw [show d_j29_ = 181 + 9 * v.toInt.toNat by omega] at ey
        obtain e2 : x.1 = y.1 := i32e he
        rw [← e2] at d_hs62_
        have K := but_free c_hs21_ d_hs62_ hR.1.2.2.2.2.1 hN h7 hv (by omega) cb
        omega
      · have e := he_eq c_hs16_ d_hs19_ hR c_h10_ hv hN he ⟨c_hv0_14, Int.le_sub_one_of_lt c_h8_⟩
        have cb : 0 ≤ x.1.toInt ∧ x.1.toInt ≤ 191 := ⟨c_hv0_14, by omega⟩
        have ey := eT d_e28_
        rw [show d_j29_ = 181 + 9 * v.toInt.toNat by omega] at ey
        obtain e2 : x.1 = y.1 := i32e he
        rw [← e2] at d_hs62_
        have K := but_free c_hs21_ d_hs62_ hR.1.2.2.2.2.1 hN h7 hv (by omega) cb
        omega
      · rw [c_hq_v2_14y, c_h40_, d_hq_v3_30y, d_h77_, hr, one32]
      · exact absurd d_h64_ (by omega)
      · rw [c_hq_v2_14y, c_h40_, d_hq_v3_30y, d_h86_, hr, one32]
      · have e := he_eq c_hs16_ d_hs19_ hR c_h10_ hv hN he ⟨c_hv0_14, Int.le_sub_one_of_lt c_h8_⟩
        have cb : 0 ≤ x.1.toInt ∧ x.1.toInt ≤ 191 := ⟨c_hv0_14, by omega⟩
        have ey := eT d_e28_
        rw [show d_j29_ = 181 + 9 * v.toInt.toNat by omega] at ey
        obtain e2 : x.1 = y.1 := i32e he
        rw [← e2] at d_hs62_
        have K := but_free c_hs21_ d_hs62_ hR.1.2.2.2.2.1 hN h7 hv (by omega) cb
        omega
      · have e := he_eq c_hs16_ d_hs19_ hR c_h10_ hv hN he ⟨c_hv0_14, Int.le_sub_one_of_lt c_h8_⟩
        have cb : 0 ≤ x.1.toInt ∧ x.1.toInt ≤ 191 := ⟨c_hv0_14, by omega⟩
        have ey := eT d_e28_
        rw [show d_j29_ = 181 + 9 * v.toInt.toNat by omega] at ey
        obtain e2 : x.1 = y.1 := i32e he
        rw [← e2] at d_hs62_
        have K := but_free c_hs21_ d_hs62_ hR.1.2.2.2.2.1 hN h7 hv (by omega) cb
        omega
      · rw [c_hq_v2_14y, c_h40_, d_hq_v3_30y, d_h102_, hr, one32]
      · exact absurd d_h89_ (by omega)
      · rw [c_hq_v2_14y, c_h40_, d_hq_v3_30y, d_h111_, hr, one32]
theorem an_19 {v : Int32} {u : Int32} {M M1 D D2 : mM} {r1 r2 : Int32} (h1 : SP_X11_heads v u M r1 M1) (h2 : SP_X12_heads v u D r2 D2) (hR : RW 0 M.1 (D.1 (50, 0, 0))) (hD : InvD D) (hu : (D.1 (12, 0, 0) 7).toInt = -1) : r1 = r2 := by
  have q0 := il_0
  have q1 := il_1
  have bT := eT hR.1.2.1.1
  have bW := eT hR.1.2.2.1.1
  have nT := nTh_b hD.2.1
  have nW := nWa_b hD.2.1
  unfold nTh at nT
  unfold nWa at nW
  unfold SP_X11_heads at h1
  rcases h1 with (⟨c_hs5_, c_h4_, (⟨c_hs11_, c_h10_, (⟨c_h13_, c_j14_, c_h15_, c_h16_, c_r17_, c_hs21_, c_hr_, c_hM_⟩ | ⟨c_h13_, c_r22_, c_hs26_, c_hr_, c_hM_⟩)⟩ | ⟨c_hs11_, c_h10_, c_M29_, -, c_hF33_, c_r28_, c_hs35_, c_hr_, c_hM_⟩)⟩ | ⟨c_hs5_, c_M38_, -, c_hF42_, c_r37_, c_hs44_, c_hr_, c_hM_⟩)
  · obtain rfl : c_j14_ = v.toInt.toNat := by omega
    have qc_hs5_ := x10has c_hs5_
    have yrc_ := eT c_hr_
    unfold SP_X12_heads at h2
    rcases h2 with (⟨d_hs5_, d_h4_, (⟨d_hs11_, d_h10_, d_v4_30, d_hv0_30, d_hv1_30, d_v3_30, d_hL_30, d_h14_, d_hr_, d_hM_⟩ | ⟨d_hs11_, d_h10_, d_M116_, -, d_hF120_, d_r115_, d_hs122_, d_h118_, d_hr_, d_hM_⟩)⟩ | ⟨d_hs5_, d_M125_, -, d_hF129_, d_r124_, d_hs131_, d_h127_, d_hr_, d_hM_⟩)
    · have qd_hs5_ := is2x d_hs5_
      have yrd_ := eT d_hr_
      unfold SP_X9_countHeld at c_hs21_
      obtain ⟨e_v3_4, e_hv0_4, e_hv1_4, e_v2_4, e_hL_4, e_h2_, e_hr_⟩ := c_hs21_
      rw [c_hr_, e_hr_, d_hr_]
      exact hd_lt e_hL_4 d_hL_30 e_h2_ d_h14_ hR hD.2.1 (by omega) (by unfold nWa; omega) (by omega)
    · have qd_hs5_ := is2x d_hs5_
      have yrd_ := eT d_hr_
      exfalso; omega
    · have qd_hs5_ := is2x d_hs5_
      have yrd_ := eT d_hr_
      exfalso; omega
  · have qc_hs5_ := x10has c_hs5_
    have yrc_ := eT c_hr_
    unfold SP_X12_heads at h2
    rcases h2 with (⟨d_hs5_, d_h4_, (⟨d_hs11_, d_h10_, d_v4_30, d_hv0_30, d_hv1_30, d_v3_30, d_hL_30, d_h14_, d_hr_, d_hM_⟩ | ⟨d_hs11_, d_h10_, d_M116_, -, d_hF120_, d_r115_, d_hs122_, d_h118_, d_hr_, d_hM_⟩)⟩ | ⟨d_hs5_, d_M125_, -, d_hF129_, d_r124_, d_hs131_, d_h127_, d_hr_, d_hM_⟩)
    · have qd_hs5_ := is2x d_hs5_
      have yrd_ := eT d_hr_
      unfold SP_X10_countWrong at c_hs26_
      rcases c_hs26_ with (⟨e_hs5_, e_h4_, e_v3_14, e_hv0_14, e_hv1_14, e_v2_14, e_hL_14, e_h8_, e_hr_⟩ | ⟨e_hs5_, e_hr_⟩)
      · rw [c_hr_, e_hr_, d_hr_]
        exact hd_wr e_hL_14 d_hL_30 e_h8_ d_h14_ hR hD.2.1 hu (by unfold nWa; omega) (by omega)
      · have := x10has e_hs5_
        exfalso; omega
    · have qd_hs5_ := is2x d_hs5_
      have yrd_ := eT d_hr_
      exfalso; omega
    · have qd_hs5_ := is2x d_hs5_
      have yrd_ := eT d_hr_
      exfalso; omega
  · have qc_hs5_ := x10has c_hs5_
    have qc_hs35_ := err1 c_hs35_
    have yrc_ := eT c_hr_
    unfold SP_X12_heads at h2
    rcases h2 with (⟨d_hs5_, d_h4_, (⟨d_hs11_, d_h10_, d_v4_30, d_hv0_30, d_hv1_30, d_v3_30, d_hL_30, d_h14_, d_hr_, d_hM_⟩ | ⟨d_hs11_, d_h10_, d_M116_, -, d_hF120_, d_r115_, d_hs122_, d_h118_, d_hr_, d_hM_⟩)⟩ | ⟨d_hs5_, d_M125_, -, d_hF129_, d_r124_, d_hs131_, d_h127_, d_hr_, d_hM_⟩)
    · have qd_hs5_ := is2x d_hs5_
      have yrd_ := eT d_hr_
      exfalso; omega
    · have qd_hs5_ := is2x d_hs5_
      have yrd_ := eT d_hr_
      exact i32e (by omega)
    · have qd_hs5_ := is2x d_hs5_
      have yrd_ := eT d_hr_
      exact i32e (by omega)
  · have qc_hs5_ := x10has c_hs5_
    have qc_hs44_ := err1 c_hs44_
    have yrc_ := eT c_hr_
    unfold SP_X12_heads at h2
    rcases h2 with (⟨d_hs5_, d_h4_, (⟨d_hs11_, d_h10_, d_v4_30, d_hv0_30, d_hv1_30, d_v3_30, d_hL_30, d_h14_, d_hr_, d_hM_⟩ | ⟨d_hs11_, d_h10_, d_M116_, -, d_hF120_, d_r115_, d_hs122_, d_h118_, d_hr_, d_hM_⟩)⟩ | ⟨d_hs5_, d_M125_, -, d_hF129_, d_r124_, d_hs131_, d_h127_, d_hr_, d_hM_⟩)
    · have qd_hs5_ := is2x d_hs5_
      have yrd_ := eT d_hr_
      exfalso; omega
    · have qd_hs5_ := is2x d_hs5_
      have yrd_ := eT d_hr_
      exact i32e (by omega)
    · have qd_hs5_ := is2x d_hs5_
      have yrd_ := eT d_hr_
      exact i32e (by omega)
end
