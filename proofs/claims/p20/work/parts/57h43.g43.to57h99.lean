section
/-! the readers: answers over worlds alike -/
theorem x7fact {v u : Int32} {M : mM} {r : Int32} {n : Nat → Int32} (h : SP_X7_factOf 0 v u M r) (hR : RW 0 M.1 n) (hN : NW5 n) (hv : 0 ≤ v.toInt ∧ v.toInt < (n 1).toInt) (hu : 0 ≤ u.toInt ∧ u.toInt ≤ 3) : r = n (20 + 4 * v.toInt.toNat + u.toInt.toNat) := by
  have q0 := il_0
  have q1 := il_1
  have nT := nTh_b hN
  unfold nTh at nT
  have bT := eT hR.1.2.1.1
  have g := hR.1.2.1.2 v.toInt.toNat (by unfold nTh; omega)
  unfold SP_X7_factOf at h
  rcases h with (⟨hs5_, h4_, (⟨e7_, j10_, h11_, z8_, e9_, hr_⟩ | ⟨e7_, j14_, h15_, z12_, e13_, hr_⟩ | ⟨e7_, j18_, h19_, z16_, e17_, hr_⟩ | ⟨e7_, j22_, h23_, z20_, e21_, hr_⟩)⟩ | ⟨hs5_, hr_⟩)
  · obtain rfl : j10_ = v.toInt.toNat := by omega
    rw [hr_, e9_, g.1]
    congr 1
    omega
  · obtain rfl : j14_ = v.toInt.toNat := by omega
    rw [hr_, e13_, g.2.1]
    congr 1
    omega
  · obtain rfl : j18_ = v.toInt.toNat := by omega
    rw [hr_, e17_, g.2.2.1]
    congr 1
    omega
  · obtain rfl : j22_ = v.toInt.toNat := by omega
    rw [hr_, e21_, g.2.2.2]
    congr 1
    omega
  · exfalso
    have q := x7has hs5_
    omega
theorem an_1 {v : Int32} {u : Int32} {M M1 D D2 : mM} {r1 r2 : Int32} (h1 : SP_X11_thingIs v u M r1 M1) (h2 : SP_X12_thingIs v u D r2 D2) (hR : RW 0 M.1 (D.1 (50, 0, 0))) (hD : InvD D) (hu : (D.1 (12, 0, 0) 7).toInt = -1) : r1 = r2 := by
  have q0 := il_0
  have q1 := il_1
  have i2 : (2 : Int32).toInt = 2 := by decide
  have bT := eT hR.1.2.1.1
  have bW := eT hR.1.2.2.1.1
  have nT := nTh_b hD.2.1
  have nW := nWa_b hD.2.1
  unfold nTh at nT
  unfold nWa at nW
  unfold SP_X11_thingIs at h1
  rcases h1 with (⟨c_hs5_, c_h4_, (⟨c_hs11_, c_h10_, c_r13_, c_hs17_, c_hr_, c_hM_⟩ | ⟨c_hs11_, c_h10_, c_M20_, -, c_hF24_, c_r19_, c_hs26_, c_hr_, c_hM_⟩)⟩ | ⟨c_hs5_, c_M29_, -, c_hF33_, c_r28_, c_hs35_, c_hr_, c_hM_⟩)
  · have qc_hs5_ := x7has c_hs5_
    have yrc_ := eT c_hr_
    unfold SP_X12_thingIs at h2
    rcases h2 with (⟨d_hs5_, d_h4_, (⟨d_hs11_, d_h10_, d_r13_, d_hs17_, d_h16_, d_z18_, d_h19_, d_j22_, d_h23_, d_z20_, d_e21_, d_hr_, d_hM_⟩ | ⟨d_hs11_, d_h10_, d_M26_, -, d_hF30_, d_r25_, d_hs32_, d_h28_, d_hr_, d_hM_⟩)⟩ | ⟨d_hs5_, d_M35_, -, d_hF39_, d_r34_, d_hs41_, d_h37_, d_hr_, d_hM_⟩)
    · obtain rfl : d_j22_ = d_z18_.toInt.toNat := by omega
      have qd_hs5_ := is1x d_hs5_
      have yd_e21_ := eT d_e21_
      have yrd_ := eT d_hr_
      have hv : 0 ≤ v.toInt ∧ v.toInt < (D.1 (50, 0, 0) 1).toInt := by omega
      rw [c_hr_, x7fact c_hs17_ hR hD.2.1 hv (by omega), d_hr_, d_e21_]
      exact congrArg (D.1 (50, 0, 0)) (by omega)
    · have qd_hs5_ := is1x d_hs5_
      have yrd_ := eT d_hr_
      exfalso; omega
    · have qd_hs5_ := is1x d_hs5_
      have yrd_ := eT d_hr_
      exfalso; omega
  · have qc_hs5_ := x7has c_hs5_
    have qc_hs26_ := err1 c_hs26_
    have yrc_ := eT c_hr_
    unfold SP_X12_thingIs at h2
    rcases h2 with (⟨d_hs5_, d_h4_, (⟨d_hs11_, d_h10_, d_r13_, d_hs17_, d_h16_, d_z18_, d_h19_, d_j22_, d_h23_, d_z20_, d_e21_, d_hr_, d_hM_⟩ | ⟨d_hs11_, d_h10_, d_M26_, -, d_hF30_, d_r25_, d_hs32_, d_h28_, d_hr_, d_hM_⟩)⟩ | ⟨d_hs5_, d_M35_, -, d_hF39_, d_r34_, d_hs41_, d_h37_, d_hr_, d_hM_⟩)
    · obtain rfl : d_j22_ = d_z18_.toInt.toNat := by omega
      have qd_hs5_ := is1x d_hs5_
      have yd_e21_ := eT d_e21_
      have yrd_ := eT d_hr_
      exfalso; omega
    · have qd_hs5_ := is1x d_hs5_
      have yrd_ := eT d_hr_
      exact i32e (by omega)
    · have qd_hs5_ := is1x d_hs5_
      have yrd_ := eT d_hr_
      exact i32e (by omega)
  · have qc_hs5_ := x7has c_hs5_
    have qc_hs35_ := err1 c_hs35_
    have yrc_ := eT c_hr_
    unfold SP_X12_thingIs at h2
    rcases h2 with (⟨d_hs5_, d_h4_, (⟨d_hs11_, d_h10_, d_r13_, d_hs17_, d_h16_, d_z18_, d_h19_, d_j22_, d_h23_, d_z20_, d_e21_, d_hr_, d_hM_⟩ | ⟨d_hs11_, d_h10_, d_M26_, -, d_hF30_, d_r25_, d_hs32_, d_h28_, d_hr_, d_hM_⟩)⟩ | ⟨d_hs5_, d_M35_, -, d_hF39_, d_r34_, d_hs41_, d_h37_, d_hr_, d_hM_⟩)
    · obtain rfl : d_j22_ = d_z18_.toInt.toNat := by omega
      have qd_hs5_ := is1x d_hs5_
      have yd_e21_ := eT d_e21_
      have yrd_ := eT d_hr_
      exfalso; omega
    · have qd_hs5_ := is1x d_hs5_
      have yrd_ := eT d_hr_
      exact i32e (by omega)
    · have qd_hs5_ := is1x d_hs5_
      have yrd_ := eT d_hr_
      exact i32e (by omega)
theorem an_5 {v : Int32} {M M1 D D2 : mM} {r1 r2 : Int32} (h1 : SP_X11_at v M r1 M1) (h2 : SP_X12_at v D r2 D2) (hR : RW 0 M.1 (D.1 (50, 0, 0))) (hD : InvD D) (hu : (D.1 (12, 0, 0) 7).toInt = -1) : r1 = r2 := by
  have q0 := il_0
  have q1 := il_1
  have i2 : (2 : Int32).toInt = 2 := by decide
  have bT := eT hR.1.2.1.1
  have bW := eT hR.1.2.2.1.1
  have nT := nTh_b hD.2.1
  have nW := nWa_b hD.2.1
  unfold nTh at nT
  unfold nWa at nW
  unfold SP_X11_at at h1
  rcases h1 with (⟨c_hs5_, c_h4_, c_j9_, c_h10_, c_z7_, c_e8_, c_hr_, c_hM_⟩ | ⟨c_hs5_, c_h4_, c_M13_, -, c_hF17_, c_r12_, c_hs19_, c_hr_, c_hM_⟩)
  · obtain rfl : c_j9_ = v.toInt.toNat := by omega
    have yc_e8_ := eT c_e8_
    have yrc_ := eT c_hr_
    unfold SP_X12_at at h2
    rcases h2 with (⟨d_hs5_, d_h4_, d_r7_, d_hs11_, d_h10_, d_hr_, d_hM_⟩ | ⟨d_hs5_, d_h4_, d_M14_, -, d_hF18_, d_r13_, d_hs20_, d_h16_, d_hr_, d_hM_⟩)
    · have qd_hs11_ := x12in d_hs11_ hR.1.2.2.2.2.1 (by omega) (by omega)
      have yrd_ := eT d_hr_
      refine i32e ?_
      rw [c_hr_, c_e8_, d_hr_, qd_hs11_]
      unfold occ
      rw [if_neg (by omega)]
    · have yrd_ := eT d_hr_
      exfalso; omega
  · have qc_hs19_ := err1 c_hs19_
    have yrc_ := eT c_hr_
    unfold SP_X12_at at h2
    rcases h2 with (⟨d_hs5_, d_h4_, d_r7_, d_hs11_, d_h10_, d_hr_, d_hM_⟩ | ⟨d_hs5_, d_h4_, d_M14_, -, d_hF18_, d_r13_, d_hs20_, d_h16_, d_hr_, d_hM_⟩)
    · have qd_hs11_ := x12in d_hs11_ hR.1.2.2.2.2.1 (by omega) (by omega)
      have yrd_ := eT d_hr_
      exfalso; omega
    · have yrd_ := eT d_hr_
      exact i32e (by omega)
theorem x9fact {w : Nat} {u : Int32} {M : mM} {r : Int32} {n : Nat → Int32} (h : SP_X9_factOf 0 w u M r) (hR : RW 0 M.1 n) (hN : NW5 n) (hw : (w : Int) < (n 2).toInt) (hu : 0 ≤ u.toInt ∧ u.toInt ≤ 11) : (u.toInt < 9 ∧ r = n (180 + 9 * w + u.toInt.toNat)) ∨ (u.toInt = 9 ∧ r.toInt = reachI (n (180 + 9 * w)).toInt) ∨ (u.toInt = 10 ∧ r.toInt = speedI (n (180 + 9 * w)).toInt) ∨ (u.toInt = 11 ∧ r.toInt = earsI (n (180 + 9 * w)).toInt) := by
  have q0 := il_0
  have q1 := il_1
  have nW := nWa_b hN
  unfold nWa at nW
  have g := (hR.1.2.2.1.2 w (by unfold nWa; omega)).1
  have g0 : M.1 (9, 0, w) 0 = n (180 + 9 * w) := g 0 (by omega)
  have kb := ((hN.1 (180 + 9 * w)).2.2.2.2.2.2.2 (by omega) (by omega)).1 (by omega)
  rw [← g0] at kb
  unfold SP_X9_factOf at h
  rcases h with (⟨e1_, z2_, e3_, hr_⟩ | ⟨e1_, z4_, e5_, hr_⟩ | ⟨e1_, z6_, e7_, hr_⟩ | ⟨e1_, z8_, e9_, hr_⟩ | ⟨e1_, z10_, e11_, hr_⟩ | ⟨e1_, z12_, e13_, hr_⟩ | ⟨e1_, z14_, e15_, h16_, (⟨h17_, hr_⟩ | ⟨h17_, hr_⟩)⟩ | ⟨e1_, z18_, e19_, hr_⟩ | ⟨e1_, z20_, e21_, hr_⟩ | ⟨e1_, r22_, hs26_, h25_, hr_⟩ | ⟨e1_, r27_, hs31_, h30_, hr_⟩ | ⟨e1_, r32_, hs36_, h35_, hr_⟩)
  · left
    refine ⟨by omega, ?_⟩
    rw [hr_, e3_, g 0 (by omega)]
    congr 1
    omega
  · left
    refine ⟨by omega, ?_⟩
    rw [hr_, e5_, g 1 (by omega)]
    congr 1
    omega
  · left
    refine ⟨by omega, ?_⟩
    rw [hr_, e7_, g 2 (by omega)]
    congr 1
    omega
  · left
    refine ⟨by omega, ?_⟩
    rw [hr_, e9_, g 3 (by omega)]
    congr 1
    omega
  · left
    refine ⟨by omega, ?_⟩
    rw [hr_, e11_, g 4 (by omega)]
    congr 1
    omega
  · left
    refine ⟨by omega, ?_⟩
    rw [hr_, e13_, g 5 (by omega)]
    congr 1
    omega
  · left
    have y := eT hr_
    refine ⟨by omega, ?_⟩
    rw [show r = z14_ from i32e (by omega), e15_, g 6 (by omega)]
    congr 1
    omega
  · left
    have y := eT hr_
    refine ⟨by omega, ?_⟩
    rw [show r = z14_ from i32e (by omega), e15_, g 6 (by omega)]
    congr 1
    omega
  · left
    refine ⟨by omega, ?_⟩
    rw [hr_, e19_, g 7 (by omega)]
    congr 1
    omega
  · left
    refine ⟨by omega, ?_⟩
    rw [hr_, e21_, g 8 (by omega)]
    congr 1
    omega
  · exact Or.inr (Or.inl ⟨by omega, by rw [hr_, x9reach hs26_ kb, g0]⟩)
  · exact Or.inr (Or.inr (Or.inl ⟨by omega, by rw [hr_, x9speed hs31_ kb, g0]⟩))
  · exact Or.inr (Or.inr (Or.inr ⟨by omega, by rw [hr_, x9ears hs36_ kb, g0]⟩))
theorem an_9 {v : Int32} {u : Int32} {M M1 D D2 : mM} {r1 r2 : Int32} (h1 : SP_X11_walkerIs v u M r1 M1) (h2 : SP_X12_walkerIs v u D r2 D2) (hR : RW 0 M.1 (D.1 (50, 0, 0))) (hD : InvD D) (hu : (D.1 (12, 0, 0) 7).toInt = -1) : r1 = r2 := by
  have q0 := il_0
  have q1 := il_1
  have i2 : (2 : Int32).toInt = 2 := by decide
  have bT := eT hR.1.2.1.1
  have bW := eT hR.1.2.2.1.1
  have nT := nTh_b hD.2.1
  have nW := nWa_b hD.2.1
  unfold nTh at nT
  unfold nWa at nW
  unfold SP_X11_walkerIs at h1
  rcases h1 with (⟨c_hs5_, c_h4_, (⟨c_hs11_, c_h10_, c_j13_, c_h14_, c_h15_, c_r16_, c_hs20_, c_hr_, c_hM_⟩ | ⟨c_hs11_, c_h10_, c_M23_, -, c_hF27_, c_r22_, c_hs29_, c_hr_, c_hM_⟩)⟩ | ⟨c_hs5_, c_M32_, -, c_hF36_, c_r31_, c_hs38_, c_hr_, c_hM_⟩)
  · obtain rfl : c_j13_ = v.toInt.toNat := by omega
    have qc_hs5_ := x10has c_hs5_
    have yrc_ := eT c_hr_
    unfold SP_X12_walkerIs at h2
    rcases h2 with (⟨d_hs5_, d_h4_, (⟨d_hs11_, d_h10_, (⟨d_h13_, (⟨d_h14_, (⟨d_h15_, d_r16_, d_hs20_, d_h19_, (⟨d_h21_, d_hr_, d_hM_⟩ | ⟨d_h21_, d_hr_, d_hM_⟩)⟩ | ⟨d_h15_, d_r22_, d_hs26_, d_h25_, d_hr_, d_hM_⟩)⟩ | ⟨d_h14_, d_r27_, d_hs31_, d_h30_, d_hr_, d_hM_⟩)⟩ | ⟨d_h13_, d_r32_, d_hs36_, d_h35_, d_z37_, d_h38_, d_j41_, d_h42_, d_z39_, d_e40_, d_hr_, d_hM_⟩)⟩ | ⟨d_hs11_, d_h10_, d_M45_, -, d_hF49_, d_r44_, d_hs51_, d_h47_, d_hr_, d_hM_⟩)⟩ | ⟨d_hs5_, d_M54_, -, d_hF58_, d_r53_, d_hs60_, d_h56_, d_hr_, d_hM_⟩)
    · have qd_hs5_ := is2x d_hs5_
      have yrd_ := eT d_hr_
      have hv : 0 ≤ v.toInt ∧ v.toInt < (D.1 (50, 0, 0) 2).toInt := by omega
      have F := x9fact c_hs20_ hR hD.2.1 (by omega) (by omega)
      rcases F with F | F | F | F
      · omega
      · omega
      · have kk := eT (x12kindOf d_hs20_ (by omega))
        refine i32e ?_
        rw [c_hr_, F.2]
        unfold speedI
        split <;> omega
      · omega
    · have qd_hs5_ := is2x d_hs5_
      have yrd_ := eT d_hr_
      have hv : 0 ≤ v.toInt ∧ v.toInt < (D.1 (50, 0, 0) 2).toInt := by omega
      have F := x9fact c_hs20_ hR hD.2.1 (by omega) (by omega)
      rcases F with F | F | F | F
      · omega
      · omega
      · have kk := eT (x12kindOf d_hs20_ (by omega))
        refine i32e ?_
        rw [c_hr_, F.2]
        unfold speedI
        split <;> omega
      · omega
    · have qd_hs5_ := is2x d_hs5_
      have yrd_ := eT d_hr_
      have hv : 0 ≤ v.toInt ∧ v.toInt < (D.1 (50, 0, 0) 2).toInt := by omega
      have F := x9fact c_hs20_ hR hD.2.1 (by omega) (by omega)
      rcases F with F | F | F | F
      · omega
      · omega
      · omega
      · refine i32e ?_
        rw [c_hr_, F.2, d_hr_, x12ears d_hs26_ (by omega)]
    · have qd_hs5_ := is2x d_hs5_
      have yrd_ := eT d_hr_
      have hv : 0 ≤ v.toInt ∧ v.toInt < (D.1 (50, 0, 0) 2).toInt := by omega
      have F := x9fact c_hs20_ hR hD.2.1 (by omega) (by omega)
      rcases F with F | F | F | F
      · omega
      · refine i32e ?_
        rw [c_hr_, F.2, d_hr_, x12reach d_hs31_ (by omega)]
      · omega
      · omega
    · obtain rfl : d_j41_ = d_z37_.toInt.toNat := by omega
      have qd_hs5_ := is2x d_hs5_
      have yd_e40_ := eT d_e40_
      have yrd_ := eT d_hr_
      have hv : 0 ≤ v.toInt ∧ v.toInt < (D.1 (50, 0, 0) 2).toInt := by omega
      have F := x9fact c_hs20_ hR hD.2.1 (by omega) (by omega)
      rcases F with F | F | F | F
      · rw [c_hr_, F.2, d_hr_, d_e40_]
        exact congrArg (D.1 (50, 0, 0)) (by omega)
      · omega
      · omega
      · omega
    · have qd_hs5_ := is2x d_hs5_
      have yrd_ := eT d_hr_
      exfalso; omega
    · have qd_hs5_ := is2x d_hs5_
      have yrd_ := eT d_hr_
      exfalso; omega
  · have qc_hs5_ := x10has c_hs5_
    have qc_hs29_ := err1 c_hs29_
    have yrc_ := eT c_hr_
    unfold SP_X12_walkerIs at h2
    rcases h2 with (⟨d_hs5_, d_h4_, (⟨d_hs11_, d_h10_, (⟨d_h13_, (⟨d_h14_, (⟨d_h15_, d_r16_, d_hs20_, d_h19_, (⟨d_h21_, d_hr_, d_hM_⟩ | ⟨d_h21_, d_hr_, d_hM_⟩)⟩ | ⟨d_h15_, d_r22_, d_hs26_, d_h25_, d_hr_, d_hM_⟩)⟩ | ⟨d_h14_, d_r27_, d_hs31_, d_h30_, d_hr_, d_hM_⟩)⟩ | ⟨d_h13_, d_r32_, d_hs36_, d_h35_, d_z37_, d_h38_, d_j41_, d_h42_, d_z39_, d_e40_, d_hr_, d_hM_⟩)⟩ | ⟨d_hs11_, d_h10_, d_M45_, -, d_hF49_, d_r44_, d_hs51_, d_h47_, d_hr_, d_hM_⟩)⟩ | ⟨d_hs5_, d_M54_, -, d_hF58_, d_r53_, d_hs60_, d_h56_, d_hr_, d_hM_⟩)
    · have qd_hs5_ := is2x d_hs5_
      have yrd_ := eT d_hr_
      exfalso; omega
    · have qd_hs5_ := is2x d_hs5_
      have yrd_ := eT d_hr_
      exfalso; omega
    · have qd_hs5_ := is2x d_hs5_
      have yrd_ := eT d_hr_
      exfalso; omega
    · have qd_hs5_ := is2x d_hs5_
      have yrd_ := eT d_hr_
      exfalso; omega
    · obtain rfl : d_j41_ = d_z37_.toInt.toNat := by omega
      have qd_hs5_ := is2x d_hs5_
      have yd_e40_ := eT d_e40_
      have yrd_ := eT d_hr_
      exfalso; omega
    · have qd_hs5_ := is2x d_hs5_
      have yrd_ := eT d_hr_
      exact i32e (by omega)
    · have qd_hs5_ := is2x d_hs5_
      have yrd_ := eT d_hr_
      exact i32e (by omega)
  · have qc_hs5_ := x10has c_hs5_
    have qc_hs38_ := err1 c_hs38_
    have yrc_ := eT c_hr_
    unfold SP_X12_walkerIs at h2
    rcases h2 with (⟨d_hs5_, d_h4_, (⟨d_hs11_, d_h10_, (⟨d_h13_, (⟨d_h14_, (⟨d_h15_, d_r16_, d_hs20_, d_h19_, (⟨d_h21_, d_hr_, d_hM_⟩ | ⟨d_h21_, d_hr_, d_hM_⟩)⟩ | ⟨d_h15_, d_r22_, d_hs26_, d_h25_, d_hr_, d_hM_⟩)⟩ | ⟨d_h14_, d_r27_, d_hs31_, d_h30_, d_hr_, d_hM_⟩)⟩ | ⟨d_h13_, d_r32_, d_hs36_, d_h35_, d_z37_, d_h38_, d_j41_, d_h42_, d_z39_, d_e40_, d_hr_, d_hM_⟩)⟩ | ⟨d_hs11_, d_h10_, d_M45_, -, d_hF49_, d_r44_, d_hs51_, d_h47_, d_hr_, d_hM_⟩)⟩ | ⟨d_hs5_, d_M54_, -, d_hF58_, d_r53_, d_hs60_, d_h56_, d_hr_, d_hM_⟩)
    · have qd_hs5_ := is2x d_hs5_
      have yrd_ := eT d_hr_
      exfalso; omega
    · have qd_hs5_ := is2x d_hs5_
      have yrd_ := eT d_hr_
      exfalso; omega
    · have qd_hs5_ := is2x d_hs5_
      have yrd_ := eT d_hr_
      exfalso; omega
    · have qd_hs5_ := is2x d_hs5_
      have yrd_ := eT d_hr_
      exfalso; omega
    · obtain rfl : d_j41_ = d_z37_.toInt.toNat := by omega
      have qd_hs5_ := is2x d_hs5_
      have yd_e40_ := eT d_e40_
      have yrd_ := eT d_hr_
      exfalso; omega
    · have qd_hs5_ := is2x d_hs5_
      have yrd_ := eT d_hr_
      exact i32e (by omega)
    · have qd_hs5_ := is2x d_hs5_
      have yrd_ := eT d_hr_
      exact i32e (by omega)
theorem an_10 {v : Int32} {u : Int32} {M M1 D D2 : mM} {r1 r2 : Int32} (h1 : SP_X11_as v u M r1 M1) (h2 : SP_X12_as v u D r2 D2) (hR : RW 0 M.1 (D.1 (50, 0, 0))) (hD : InvD D) (hu : (D.1 (12, 0, 0) 7).toInt = -1) : r1 = r2 := by
  have q0 := il_0
  have q1 := il_1
  have i2 : (2 : Int32).toInt = 2 := by decide
  have bT := eT hR.1.2.1.1
  have bW := eT hR.1.2.2.1.1
  have nT := nTh_b hD.2.1
  have nW := nWa_b hD.2.1
  unfold nTh at nT
  unfold nWa at nW
  unfold SP_X11_as at h1
  rcases h1 with (⟨c_hs5_, c_h4_, (⟨c_hs11_, c_h10_, c_j13_, c_h14_, c_h15_, c_r16_, c_hs20_, c_h19_, (⟨c_h21_, c_j22_, c_h23_, c_h24_, c_r25_, c_hs29_, c_h28_, c_hr_, c_hM_⟩ | ⟨c_h21_, c_M31_, -, c_hF35_, c_r30_, c_hs37_, c_hr_, c_hM_⟩)⟩ | ⟨c_hs11_, c_h10_, c_M40_, -, c_hF44_, c_r39_, c_hs46_, c_hr_, c_hM_⟩)⟩ | ⟨c_hs5_, c_M49_, -, c_hF53_, c_r48_, c_hs55_, c_hr_, c_hM_⟩)
  · obtain rfl : c_j13_ = v.toInt.toNat := by omega
    obtain rfl : c_j22_ = v.toInt.toNat := by omega
    have qc_hs5_ := x10has c_hs5_
    have yrc_ := eT c_hr_
    unfold SP_X12_as at h2
    rcases h2 with (⟨d_hs5_, d_h4_, (⟨d_hs11_, d_h10_, d_r13_, d_hs17_, d_h16_, d_r18_, d_hs22_, d_h21_, (⟨d_h23_, d_M25_, -, d_hF29_, d_r24_, d_hs31_, d_h27_, d_hr_, d_hM_⟩ | ⟨d_h23_, d_r32_, d_hs36_, d_h35_, d_hr_, d_hM_⟩)⟩ | ⟨d_hs11_, d_h10_, d_M39_, -, d_hF43_, d_r38_, d_hs45_, d_h41_, d_hr_, d_hM_⟩)⟩ | ⟨d_hs5_, d_M48_, -, d_hF52_, d_r47_, d_hs54_, d_h50_, d_hr_, d_hM_⟩)
    · have qd_hs5_ := is2x d_hs5_
      have yrd_ := eT d_hr_
      have hv : 0 ≤ v.toInt ∧ v.toInt < (D.1 (50, 0, 0) 2).toInt := by omega
      have g0 : M.1 (9, 0, v.toInt.toNat) 0 = D.1 (50, 0, 0) (180 + 9 * v.toInt.toNat) := (hR.1.2.2.1.2 v.toInt.toNat (by unfold nWa; omega)).1 0 (by omega)
      have kb := ((hD.2.1.1 (180 + 9 * v.toInt.toNat)).2.2.2.2.2.2.2 (by omega) (by omega)).1 (by omega)
      have U1 := x9isOf c_hs20_ (by rw [g0]; exact kb)
      have U2 := x12isUnder d_hs22_ (by omega)
      rw [x12kindOf d_hs17_ (by omega)] at U2
      rw [g0] at U1
      exfalso
      rcases U1 with U1 | U1 <;> rcases U2 with U2 | U2
      · omega
      · exact U2.2 U1.2
      · exact U1.2 U2.2
      · omega
    · have qd_hs5_ := is2x d_hs5_
      have yrd_ := eT d_hr_
      have hv : 0 ≤ v.toInt ∧ v.toInt < (D.1 (50, 0, 0) 2).toInt := by omega
      have g0 : M.1 (9, 0, v.toInt.toNat) 0 = D.1 (50, 0, 0) (180 + 9 * v.toInt.toNat) := (hR.1.2.2.1.2 v.toInt.toNat (by unfold nWa; omega)).1 0 (by omega)
      have kb := ((hD.2.1.1 (180 + 9 * v.toInt.toNat)).2.2.2.2.2.2.2 (by omega) (by omega)).1 (by omega)
      have U1 := x9isOf c_hs20_ (by rw [g0]; exact kb)
      have U2 := x12isUnder d_hs22_ (by omega)
      rw [x12kindOf d_hs17_ (by omega)] at U2
      rw [g0] at U1
      refine i32e ?_
      rw [c_hr_, x9reach c_hs29_ (by rw [g0]; exact kb), g0, d_hr_, x12reach d_hs36_ (by omega)]
    · have qd_hs5_ := is2x d_hs5_
      have yrd_ := eT d_hr_
      exfalso; omega
    · have qd_hs5_ := is2x d_hs5_
      have yrd_ := eT d_hr_
      exfalso; omega
  · obtain rfl : c_j13_ = v.toInt.toNat := by omega
    have qc_hs5_ := x10has c_hs5_
    have qc_hs37_ := err5 c_hs37_
    have yrc_ := eT c_hr_
    unfold SP_X12_as at h2
    rcases h2 with (⟨d_hs5_, d_h4_, (⟨d_hs11_, d_h10_, d_r13_, d_hs17_, d_h16_, d_r18_, d_hs22_, d_h21_, (⟨d_h23_, d_M25_, -, d_hF29_, d_r24_, d_hs31_, d_h27_, d_hr_, d_hM_⟩ | ⟨d_h23_, d_r32_, d_hs36_, d_h35_, d_hr_, d_hM_⟩)⟩ | ⟨d_hs11_, d_h10_, d_M39_, -, d_hF43_, d_r38_, d_hs45_, d_h41_, d_hr_, d_hM_⟩)⟩ | ⟨d_hs5_, d_M48_, -, d_hF52_, d_r47_, d_hs54_, d_h50_, d_hr_, d_hM_⟩)
    · have qd_hs5_ := is2x d_hs5_
      have yrd_ := eT d_hr_
      exact i32e (by omega)
    · have qd_hs5_ := is2x d_hs5_
      have yrd_ := eT d_hr_
      have hv : 0 ≤ v.toInt ∧ v.toInt < (D.1 (50, 0, 0) 2).toInt := by omega
      have g0 : M.1 (9, 0, v.toInt.toNat) 0 = D.1 (50, 0, 0) (180 + 9 * v.toInt.toNat) := (hR.1.2.2.1.2 v.toInt.toNat (by unfold nWa; omega)).1 0 (by omega)
      have kb := ((hD.2.1.1 (180 + 9 * v.toInt.toNat)).2.2.2.2.2.2.2 (by omega) (by omega)).1 (by omega)
      have U1 := x9isOf c_hs20_ (by rw [g0]; exact kb)
      have U2 := x12isUnder d_hs22_ (by omega)
      rw [x12kindOf d_hs17_ (by omega)] at U2
      rw [g0] at U1
      exfalso
      rcases U1 with U1 | U1 <;> rcases U2 with U2 | U2
      · omega
      · exact U2.2 U1.2
      · exact U1.2 U2.2
      · omega
    · have qd_hs5_ := is2x d_hs5_
      have yrd_ := eT d_hr_
      exfalso; omega
    · have qd_hs5_ := is2x d_hs5_
      have yrd_ := eT d_hr_
      exfalso; omega
  · have qc_hs5_ := x10has c_hs5_
    have qc_hs46_ := err1 c_hs46_
    have yrc_ := eT c_hr_
    unfold SP_X12_as at h2
    rcases h2 with (⟨d_hs5_, d_h4_, (⟨d_hs11_, d_h10_, d_r13_, d_hs17_, d_h16_, d_r18_, d_hs22_, d_h21_, (⟨d_h23_, d_M25_, -, d_hF29_, d_r24_, d_hs31_, d_h27_, d_hr_, d_hM_⟩ | ⟨d_h23_, d_r32_, d_hs36_, d_h35_, d_hr_, d_hM_⟩)⟩ | ⟨d_hs11_, d_h10_, d_M39_, -, d_hF43_, d_r38_, d_hs45_, d_h41_, d_hr_, d_hM_⟩)⟩ | ⟨d_hs5_, d_M48_, -, d_hF52_, d_r47_, d_hs54_, d_h50_, d_hr_, d_hM_⟩)
    · have qd_hs5_ := is2x d_hs5_
      have yrd_ := eT d_hr_
      exfalso; omega
    · have qd_hs5_ := is2x d_hs5_
      have yrd_ := eT d_hr_
      exfalso; omega
    · have qd_hs5_ := is2x d_hs5_
      have yrd_ := eT d_hr_
      exact i32e (by omega)
    · have qd_hs5_ := is2x d_hs5_
      have yrd_ := eT d_hr_
      exact i32e (by omega)
  · have qc_hs5_ := x10has c_hs5_
    have qc_hs55_ := err1 c_hs55_
    have yrc_ := eT c_hr_
    unfold SP_X12_as at h2
    rcases h2 with (⟨d_hs5_, d_h4_, (⟨d_hs11_, d_h10_, d_r13_, d_hs17_, d_h16_, d_r18_, d_hs22_, d_h21_, (⟨d_h23_, d_M25_, -, d_hF29_, d_r24_, d_hs31_, d_h27_, d_hr_, d_hM_⟩ | ⟨d_h23_, d_r32_, d_hs36_, d_h35_, d_hr_, d_hM_⟩)⟩ | ⟨d_hs11_, d_h10_, d_M39_, -, d_hF43_, d_r38_, d_hs45_, d_h41_, d_hr_, d_hM_⟩)⟩ | ⟨d_hs5_, d_M48_, -, d_hF52_, d_r47_, d_hs54_, d_h50_, d_hr_, d_hM_⟩)
    · have qd_hs5_ := is2x d_hs5_
      have yrd_ := eT d_hr_
      exfalso; omega
    · have qd_hs5_ := is2x d_hs5_
      have yrd_ := eT d_hr_
      exfalso; omega
    · have qd_hs5_ := is2x d_hs5_
      have yrd_ := eT d_hr_
      exact i32e (by omega)
    · have qd_hs5_ := is2x d_hs5_
      have yrd_ := eT d_hr_
      exact i32e (by omega)
theorem an_18 {v : Int32} {u : Int32} {t : Int32} {M M1 D D2 : mM} {r1 r2 : Int32} (h1 : SP_X11_head v u t M r1 M1) (h2 : SP_X12_head v u t D r2 D2) (hR : RW 0 M.1 (D.1 (50, 0, 0))) (hD : InvD D) (hu : (D.1 (12, 0, 0) 7).toInt = -1) : r1 = r2 := by
  have q0 := il_0
  have q1 := il_1
  have i2 : (2 : Int32).toInt = 2 := by decide
  have bT := eT hR.1.2.1.1
  have bW := eT hR.1.2.2.1.1
  have nT := nTh_b hD.2.1
  have nW := nWa_b hD.2.1
  unfold nTh at nT
  unfold nWa at nW
  unfold SP_X11_head at h1
  rcases h1 with (⟨c_hs5_, c_h4_, (⟨c_hs11_, c_h10_, (⟨c_hs17_, c_h16_, c_j19_, c_h20_, c_h21_, (⟨c_h22_, (⟨c_h23_, c_r24_, c_hs28_, c_hr_, c_hM_⟩ | ⟨c_h23_, c_j31_, c_h32_, c_z29_, c_e30_, c_hr_, c_hM_⟩)⟩ | ⟨c_h22_, c_j35_, c_h36_, c_z33_, c_e34_, c_hr_, c_hM_⟩)⟩ | ⟨c_hs17_, c_h16_, c_M39_, -, c_hF43_, c_r38_, c_hs45_, c_hr_, c_hM_⟩)⟩ | ⟨c_hs11_, c_h10_, c_M48_, -, c_hF52_, c_r47_, c_hs54_, c_hr_, c_hM_⟩)⟩ | ⟨c_hs5_, c_M57_, -, c_hF61_, c_r56_, c_hs63_, c_hr_, c_hM_⟩)
  · obtain rfl : c_j19_ = v.toInt.toNat := by omega
    have qc_hs5_ := x10has c_hs5_
    have yrc_ := eT c_hr_
    unfold SP_X12_head at h2
    rcases h2 with (⟨d_hs5_, d_h4_, (⟨d_hs11_, d_h10_, (⟨d_hs17_, d_h16_, (⟨d_h19_, (⟨d_h20_, d_r21_, d_hs25_, d_h24_, d_j28_, d_h29_, d_z26_, d_e27_, d_hr_, d_hM_⟩ | ⟨d_h20_, d_r30_, d_hs34_, d_h33_, d_j37_, d_h38_, d_z35_, d_e36_, d_hr_, d_hM_⟩)⟩ | ⟨d_h19_, d_r39_, d_hs43_, d_h42_, d_hr_, d_hM_⟩)⟩ | ⟨d_hs17_, d_h16_, d_M46_, -, d_hF50_, d_r45_, d_hs52_, d_h48_, d_hr_, d_hM_⟩)⟩ | ⟨d_hs11_, d_h10_, d_M55_, -, d_hF59_, d_r54_, d_hs61_, d_h57_, d_hr_, d_hM_⟩)⟩ | ⟨d_hs5_, d_M64_, -, d_hF68_, d_r63_, d_hs70_, d_h66_, d_hr_, d_hM_⟩)
    · obtain rfl : d_j28_ = d_r21_.toInt.toNat := by omega
      have qd_hs5_ := is2x d_hs5_
      have yd_e27_ := eT d_e27_
      have yrd_ := eT d_hr_
      exfalso; omega
    · obtain rfl : d_j37_ = d_r30_.toInt.toNat := by omega
      have qd_hs5_ := is2x d_hs5_
      have yd_e36_ := eT d_e36_
      have yrd_ := eT d_hr_
      exfalso; omega
    · have qd_hs5_ := is2x d_hs5_
      have yrd_ := eT d_hr_
      have hv : 0 ≤ v.toInt ∧ v.toInt < (D.1 (50, 0, 0) 2).toInt := by omega
      have wh := (hR.1.2.2.1.2 v.toInt.toNat (by unfold nWa; omega)).2 u.toInt.toNat (by omega)
      have H := x9held c_hs28_
      rcases H with H | H
      · refine i32e ?_
        rw [c_hr_, H.2, wh.1, wh.2, d_hr_, x12held d_hs43_ (by omega) (by omega)]
        rfl
      · exact absurd (by omega) H.1
    · have qd_hs5_ := is2x d_hs5_
      have yrd_ := eT d_hr_
      exfalso; omega
    · have qd_hs5_ := is2x d_hs5_
      have yrd_ := eT d_hr_
      exfalso; omega
    · have qd_hs5_ := is2x d_hs5_
      have yrd_ := eT d_hr_
      exfalso; omega
  · obtain rfl : c_j19_ = v.toInt.toNat := by omega
    obtain rfl : c_j31_ = u.toInt.toNat := by omega
    have qc_hs5_ := x10has c_hs5_
    have yc_e30_ := eT c_e30_
    have yrc_ := eT c_hr_
    unfold SP_X12_head at h2
    rcases h2 with (⟨d_hs5_, d_h4_, (⟨d_hs11_, d_h10_, (⟨d_hs17_, d_h16_, (⟨d_h19_, (⟨d_h20_, d_r21_, d_hs25_, d_h24_, d_j28_, d_h29_, d_z26_, d_e27_, d_hr_, d_hM_⟩ | ⟨d_h20_, d_r30_, d_hs34_, d_h33_, d_j37_, d_h38_, d_z35_, d_e36_, d_hr_, d_hM_⟩)⟩ | ⟨d_h19_, d_r39_, d_hs43_, d_h42_, d_hr_, d_hM_⟩)⟩ | ⟨d_hs17_, d_h16_, d_M46_, -, d_hF50_, d_r45_, d_hs52_, d_h48_, d_hr_, d_hM_⟩)⟩ | ⟨d_hs11_, d_h10_, d_M55_, -, d_hF59_, d_r54_, d_hs61_, d_h57_, d_hr_, d_hM_⟩)⟩ | ⟨d_hs5_, d_M64_, -, d_hF68_, d_r63_, d_hs70_, d_h66_, d_hr_, d_hM_⟩)
    · obtain rfl : d_j28_ = d_r21_.toInt.toNat := by omega
      have qd_hs5_ := is2x d_hs5_
      have yd_e27_ := eT d_e27_
      have yrd_ := eT d_hr_
      have hv : 0 ≤ v.toInt ∧ v.toInt < (D.1 (50, 0, 0) 2).toInt := by omega
      have wh := (hR.1.2.2.1.2 v.toInt.toNat (by unfold nWa; omega)).2 u.toInt.toNat (by omega)
      rw [c_hr_, c_e30_, wh.2, d_hr_, d_e27_]
      exact congrArg (D.1 (50, 0, 0)) (by omega)
    · obtain rfl : d_j37_ = d_r30_.toInt.toNat := by omega
      have qd_hs5_ := is2x d_hs5_
      have yd_e36_ := eT d_e36_
      have yrd_ := eT d_hr_
      exfalso; omega
    · have qd_hs5_ := is2x d_hs5_
      have yrd_ := eT d_hr_
      exfalso; omega
    · have qd_hs5_ := is2x d_hs5_
      have yrd_ := eT d_hr_
      exfalso; omega
    · have qd_hs5_ := is2x d_hs5_
      have yrd_ := eT d_hr_
      exfalso; omega
    · have qd_hs5_ := is2x d_hs5_
      have yrd_ := eT d_hr_
      exfalso; omega
  · obtain rfl : c_j19_ = v.toInt.toNat := by omega
    obtain rfl : c_j35_ = u.toInt.toNat := by omega
    have qc_hs5_ := x10has c_hs5_
    have yc_e34_ := eT c_e34_
    have yrc_ := eT c_hr_
    unfold SP_X12_head at h2
    rcases h2 with (⟨d_hs5_, d_h4_, (⟨d_hs11_, d_h10_, (⟨d_hs17_, d_h16_, (⟨d_h19_, (⟨d_h20_, d_r21_, d_hs25_, d_h24_, d_j28_, d_h29_, d_z26_, d_e27_, d_hr_, d_hM_⟩ | ⟨d_h20_, d_r30_, d_hs34_, d_h33_, d_j37_, d_h38_, d_z35_, d_e36_, d_hr_, d_hM_⟩)⟩ | ⟨d_h19_, d_r39_, d_hs43_, d_h42_, d_hr_, d_hM_⟩)⟩ | ⟨d_hs17_, d_h16_, d_M46_, -, d_hF50_, d_r45_, d_hs52_, d_h48_, d_hr_, d_hM_⟩)⟩ | ⟨d_hs11_, d_h10_, d_M55_, -, d_hF59_, d_r54_, d_hs61_, d_h57_, d_hr_, d_hM_⟩)⟩ | ⟨d_hs5_, d_M64_, -, d_hF68_, d_r63_, d_hs70_, d_h66_, d_hr_, d_hM_⟩)
    · obtain rfl : d_j28_ = d_r21_.toInt.toNat := by omega
      have qd_hs5_ := is2x d_hs5_
      have yd_e27_ := eT d_e27_
      have yrd_ := eT d_hr_
      exfalso; omega
    · obtain rfl : d_j37_ = d_r30_.toInt.toNat := by omega
      have qd_hs5_ := is2x d_hs5_
      have yd_e36_ := eT d_e36_
      have yrd_ := eT d_hr_
      have hv : 0 ≤ v.toInt ∧ v.toInt < (D.1 (50, 0, 0) 2).toInt := by omega
      have wh := (hR.1.2.2.1.2 v.toInt.toNat (by unfold nWa; omega)).2 u.toInt.toNat (by omega)
      rw [c_hr_, c_e34_, wh.1, d_hr_, d_e36_]
      exact congrArg (D.1 (50, 0, 0)) (by omega)
    · have qd_hs5_ := is2x d_hs5_
      have yrd_ := eT d_hr_
      exfalso; omega
    · have qd_hs5_ := is2x d_hs5_
      have yrd_ := eT d_hr_
      exfalso; omega
    · have qd_hs5_ := is2x d_hs5_
      have yrd_ := eT d_hr_
      exfalso; omega
    · have qd_hs5_ := is2x d_hs5_
      have yrd_ := eT d_hr_
      exfalso; omega
  · have qc_hs5_ := x10has c_hs5_
    have qc_hs45_ := err1 c_hs45_
    have yrc_ := eT c_hr_
    unfold SP_X12_head at h2
    rcases h2 with (⟨d_hs5_, d_h4_, (⟨d_hs11_, d_h10_, (⟨d_hs17_, d_h16_, (⟨d_h19_, (⟨d_h20_, d_r21_, d_hs25_, d_h24_, d_j28_, d_h29_, d_z26_, d_e27_, d_hr_, d_hM_⟩ | ⟨d_h20_, d_r30_, d_hs34_, d_h33_, d_j37_, d_h38_, d_z35_, d_e36_, d_hr_, d_hM_⟩)⟩ | ⟨d_h19_, d_r39_, d_hs43_, d_h42_, d_hr_, d_hM_⟩)⟩ | ⟨d_hs17_, d_h16_, d_M46_, -, d_hF50_, d_r45_, d_hs52_, d_h48_, d_hr_, d_hM_⟩)⟩ | ⟨d_hs11_, d_h10_, d_M55_, -, d_hF59_, d_r54_, d_hs61_, d_h57_, d_hr_, d_hM_⟩)⟩ | ⟨d_hs5_, d_M64_, -, d_hF68_, d_r63_, d_hs70_, d_h66_, d_hr_, d_hM_⟩)
    · obtain rfl : d_j28_ = d_r21_.toInt.toNat := by omega
      have qd_hs5_ := is2x d_hs5_
      have yd_e27_ := eT d_e27_
      have yrd_ := eT d_hr_
      exfalso; omega
    · obtain rfl : d_j37_ = d_r30_.toInt.toNat := by omega
      have qd_hs5_ := is2x d_hs5_
      have yd_e36_ := eT d_e36_
      have yrd_ := eT d_hr_
      exfalso; omega
    · have qd_hs5_ := is2x d_hs5_
      have yrd_ := eT d_hr_
      exfalso; omega
    · have qd_hs5_ := is2x d_hs5_
      have yrd_ := eT d_hr_
      exact i32e (by omega)
    · have qd_hs5_ := is2x d_hs5_
      have yrd_ := eT d_hr_
      exact i32e (by omega)
    · have qd_hs5_ := is2x d_hs5_
      have yrd_ := eT d_hr_
      exact i32e (by omega)
  · have qc_hs5_ := x10has c_hs5_
    have qc_hs54_ := err1 c_hs54_
    have yrc_ := eT c_hr_
    unfold SP_X12_head at h2
    rcases h2 with (⟨d_hs5_, d_h4_, (⟨d_hs11_, d_h10_, (⟨d_hs17_, d_h16_, (⟨d_h19_, (⟨d_h20_, d_r21_, d_hs25_, d_h24_, d_j28_, d_h29_, d_z26_, d_e27_, d_hr_, d_hM_⟩ | ⟨d_h20_, d_r30_, d_hs34_, d_h33_, d_j37_, d_h38_, d_z35_, d_e36_, d_hr_, d_hM_⟩)⟩ | ⟨d_h19_, d_r39_, d_hs43_, d_h42_, d_hr_, d_hM_⟩)⟩ | ⟨d_hs17_, d_h16_, d_M46_, -, d_hF50_, d_r45_, d_hs52_, d_h48_, d_hr_, d_hM_⟩)⟩ | ⟨d_hs11_, d_h10_, d_M55_, -, d_hF59_, d_r54_, d_hs61_, d_h57_, d_hr_, d_hM_⟩)⟩ | ⟨d_hs5_, d_M64_, -, d_hF68_, d_r63_, d_hs70_, d_h66_, d_hr_, d_hM_⟩)
    · obtain rfl : d_j28_ = d_r21_.toInt.toNat := by omega
      have qd_hs5_ := is2x d_hs5_
      have yd_e27_ := eT d_e27_
      have yrd_ := eT d_hr_
      exfalso; omega
    · obtain rfl : d_j37_ = d_r30_.toInt.toNat := by omega
      have qd_hs5_ := is2x d_hs5_
      have yd_e36_ := eT d_e36_
      have yrd_ := eT d_hr_
      exfalso; omega
    · have qd_hs5_ := is2x d_hs5_
      have yrd_ := eT d_hr_
      exfalso; omega
    · have qd_hs5_ := is2x d_hs5_
      have yrd_ := eT d_hr_
      exact i32e (by omega)
    · have qd_hs5_ := is2x d_hs5_
      have yrd_ := eT d_hr_
      exact i32e (by omega)
    · have qd_hs5_ := is2x d_hs5_
      have yrd_ := eT d_hr_
      exact i32e (by omega)
  · have qc_hs5_ := x10has c_hs5_
    have qc_hs63_ := err1 c_hs63_
    have yrc_ := eT c_hr_
    unfold SP_X12_head at h2
    rcases h2 with (⟨d_hs5_, d_h4_, (⟨d_hs11_, d_h10_, (⟨d_hs17_, d_h16_, (⟨d_h19_, (⟨d_h20_, d_r21_, d_hs25_, d_h24_, d_j28_, d_h29_, d_z26_, d_e27_, d_hr_, d_hM_⟩ | ⟨d_h20_, d_r30_, d_hs34_, d_h33_, d_j37_, d_h38_, d_z35_, d_e36_, d_hr_, d_hM_⟩)⟩ | ⟨d_h19_, d_r39_, d_hs43_, d_h42_, d_hr_, d_hM_⟩)⟩ | ⟨d_hs17_, d_h16_, d_M46_, -, d_hF50_, d_r45_, d_hs52_, d_h48_, d_hr_, d_hM_⟩)⟩ | ⟨d_hs11_, d_h10_, d_M55_, -, d_hF59_, d_r54_, d_hs61_, d_h57_, d_hr_, d_hM_⟩)⟩ | ⟨d_hs5_, d_M64_, -, d_hF68_, d_r63_, d_hs70_, d_h66_, d_hr_, d_hM_⟩)
    · obtain rfl : d_j28_ = d_r21_.toInt.toNat := by omega
      have qd_hs5_ := is2x d_hs5_
      have yd_e27_ := eT d_e27_
      have yrd_ := eT d_hr_
      exfalso; omega
    · obtain rfl : d_j37_ = d_r30_.toInt.toNat := by omega
      have qd_hs5_ := is2x d_hs5_
      have yd_e36_ := eT d_e36_
      have yrd_ := eT d_hr_
      exfalso; omega
    · have qd_hs5_ := is2x d_hs5_
      have yrd_ := eT d_hr_
      exfalso; omega
    · have qd_hs5_ := is2x d_hs5_
      have yrd_ := eT d_hr_
      exact i32e (by omega)
    · have qd_hs5_ := is2x d_hs5_
      have yrd_ := eT d_hr_
      exact i32e (by omega)
    · have qd_hs5_ := is2x d_hs5_
      have yrd_ := eT d_hr_
      exact i32e (by omega)
end
section
/-! the calls step by step, the full relation -/
theorem sy_0 {v : Int32} {u : Int32} {M M1 M2 : mM} {r1 r2 : Int32} (h : RY M.1) (hD0 : InvD M) (hD : InvD M1) (hD2 : InvD M2) (hF1 : FR S_c_X11_thing M M1) (hs1 : SP_X11_thing v u M r1 M1) (hF2 : FR S_c_X12_thing_ M1 M2) (hs2 : SP_X12_thing_ v u M1 r2 M2) : RY M2.1 ∧ r1 = r2 := by
  have hx := (st_0 h.1 hD0 hF1 hs1 hF2 hs2).1
  have s1 : cC S_c_X11_thing := fun c k q => by simp only [S_c_X11_thing, or_false] at q; omega
  have s2 : cD S_c_X12_thing_ := fun c k q => by simp only [S_c_X12_thing_, or_false] at q; omega
  have c1 : ∀ (c : rf) (k : Nat), c.1 = 12 ∨ 50 ≤ c.1 → M1.1 c k = M.1 c k := fun c k a => hF1 c k (fun q => s1 c k q a)
  have c2 : ∀ (c : rf) (k : Nat), ¬ (c.1 = 12 ∨ 50 ≤ c.1) → M2.1 c k = M1.1 c k := fun c k a => hF2 c k (fun q => a (s2 c k q))
  have e50 : M1.1 (50, 0, 0) = M.1 (50, 0, 0) := funext fun k => c1 _ _ (by simp)
  have hR : RW 0 M.1 (M1.1 (50, 0, 0)) := by rw [e50]; exact h.2.2.1
  have hu : (M1.1 (12, 0, 0) 7).toInt = -1 := by rw [c1 _ _ (by simp)]; exact h.2.1
  have h7 : (M2.1 (12, 0, 0) 7).toInt = -1 := by rw [hF2 (12, 0, 0) 7 (fun q => by simp only [S_c_X12_thing_, or_false] at q; omega)]; exact hu
  have B := cb_0 hs1 hs2 hR hD hu
  exact ⟨RY_of h hF1 hF2 s1 s2 hx hD2.2.1 hD2.2.2.1 h7 B.1 (Or.inl ⟨hF2 _ _ (fun q => by simp only [S_c_X12_thing_, or_false] at q; omega), fun c k a b q => by unfold wR at a; simp only [S_c_X11_thing, or_false] at q; omega, fun k q => by simp only [S_c_X12_thing_, or_false] at q; omega⟩) (SHR_keep h.2.2.2.2 (fun c k a => hF1 c k (fun q => by simp only [S_c_X11_thing, or_false] at q; omega)) (fun c k a => by rw [hF2 c k (fun q => by simp only [S_c_X12_thing_, or_false] at q; omega), c1 c k (by omega)])), B.2⟩
theorem sy_1 {v : Int32} {u : Int32} {M M1 M2 : mM} {r1 r2 : Int32} (h : RY M.1) (hD0 : InvD M) (hD : InvD M1) (hD2 : InvD M2) (hF1 : FR S_c_X11_thingIs M M1) (hs1 : SP_X11_thingIs v u M r1 M1) (hF2 : FR S_c_X12_thingIs M1 M2) (hs2 : SP_X12_thingIs v u M1 r2 M2) : RY M2.1 ∧ True := by
  have hx := (st_1 h.1 hD0 hF1 hs1 hF2 hs2).1
  have s1 : cC S_c_X11_thingIs := fun c k q => by simp only [S_c_X11_thingIs, or_false] at q; omega
  have s2 : cD S_c_X12_thingIs := fun c k q => by simp only [S_c_X12_thingIs, or_false] at q; omega
  have c1 : ∀ (c : rf) (k : Nat), c.1 = 12 ∨ 50 ≤ c.1 → M1.1 c k = M.1 c k := fun c k a => hF1 c k (fun q => s1 c k q a)
  have c2 : ∀ (c : rf) (k : Nat), ¬ (c.1 = 12 ∨ 50 ≤ c.1) → M2.1 c k = M1.1 c k := fun c k a => hF2 c k (fun q => a (s2 c k q))
  have e50 : M1.1 (50, 0, 0) = M.1 (50, 0, 0) := funext fun k => c1 _ _ (by simp)
  have hR : RW 0 M.1 (M1.1 (50, 0, 0)) := by rw [e50]; exact h.2.2.1
  have hu : (M1.1 (12, 0, 0) 7).toInt = -1 := by rw [c1 _ _ (by simp)]; exact h.2.1
  have h7 : (M2.1 (12, 0, 0) 7).toInt = -1 := by rw [hF2 (12, 0, 0) 7 (fun q => by simp only [S_c_X12_thingIs, or_false] at q; omega)]; exact hu
  exact ⟨RY_fr h hF1 hF2 s1 s2 hx hD2.2.1 hD2.2.2.1 (fun c k a b q => by unfold wR at a; simp only [S_c_X11_thingIs, or_false] at q; omega) (fun c k a q => by rcases a with rfl | rfl | ⟨rfl, rfl⟩ | a | a | a <;> (simp only [S_c_X12_thingIs, or_false] at q <;> omega)) (fun c k a q => by simp only [S_c_X11_thingIs, or_false] at q; omega) h7, trivial⟩
theorem sy_2 {v : Int32} {u : Int32} {t : Int32} {M M1 M2 : mM} {r1 r2 : Int32} (h : RY M.1) (hD0 : InvD M) (hD : InvD M1) (hD2 : InvD M2) (hF1 : FR S_c_X11_moves M M1) (hs1 : SP_X11_moves v u t M r1 M1) (hF2 : FR S_c_X12_moves M1 M2) (hs2 : SP_X12_moves v u t M1 r2 M2) : RY M2.1 ∧ r1 = r2 := by
  have hx := (st_2 h.1 hD0 hF1 hs1 hF2 hs2).1
  have s1 : cC S_c_X11_moves := fun c k q => by simp only [S_c_X11_moves, or_false] at q; omega
  have s2 : cD S_c_X12_moves := fun c k q => by simp only [S_c_X12_moves, or_false] at q; omega
  have c1 : ∀ (c : rf) (k : Nat), c.1 = 12 ∨ 50 ≤ c.1 → M1.1 c k = M.1 c k := fun c k a => hF1 c k (fun q => s1 c k q a)
  have c2 : ∀ (c : rf) (k : Nat), ¬ (c.1 = 12 ∨ 50 ≤ c.1) → M2.1 c k = M1.1 c k := fun c k a => hF2 c k (fun q => a (s2 c k q))
  have e50 : M1.1 (50, 0, 0) = M.1 (50, 0, 0) := funext fun k => c1 _ _ (by simp)
  have hR : RW 0 M.1 (M1.1 (50, 0, 0)) := by rw [e50]; exact h.2.2.1
  have hu : (M1.1 (12, 0, 0) 7).toInt = -1 := by rw [c1 _ _ (by simp)]; exact h.2.1
  have h7 : (M2.1 (12, 0, 0) 7).toInt = -1 := by rw [hF2 (12, 0, 0) 7 (fun q => by simp only [S_c_X12_moves, or_false] at q; omega)]; exact hu
  have B := cb_2 hs1 hs2 hR hD hu
  exact ⟨RY_of h hF1 hF2 s1 s2 hx hD2.2.1 hD2.2.2.1 h7 B.1 (Or.inl ⟨hF2 _ _ (fun q => by simp only [S_c_X12_moves, or_false] at q; omega), fun c k a b q => by unfold wR at a; simp only [S_c_X11_moves, or_false] at q; omega, fun k q => by simp only [S_c_X12_moves, or_false] at q; omega⟩) (SHR_keep h.2.2.2.2 (fun c k a => hF1 c k (fun q => by simp only [S_c_X11_moves, or_false] at q; omega)) (fun c k a => by rw [hF2 c k (fun q => by simp only [S_c_X12_moves, or_false] at q; omega), c1 c k (by omega)])), B.2⟩
theorem sy_3 {v : Int32} {M M1 M2 : mM} {r1 r2 : Int32} (h : RY M.1) (hD0 : InvD M) (hD : InvD M1) (hD2 : InvD M2) (hF1 : FR S_c_X11_away M M1) (hs1 : SP_X11_away v M r1 M1) (hF2 : FR S_c_X12_away M1 M2) (hs2 : SP_X12_away v M1 r2 M2) : RY M2.1 ∧ r1 = r2 := by
  have hx := (st_3 h.1 hD0 hF1 hs1 hF2 hs2).1
  have s1 : cC S_c_X11_away := fun c k q => by simp only [S_c_X11_away, or_false] at q; omega
  have s2 : cD S_c_X12_away := fun c k q => by simp only [S_c_X12_away, or_false] at q; omega
  have c1 : ∀ (c : rf) (k : Nat), c.1 = 12 ∨ 50 ≤ c.1 → M1.1 c k = M.1 c k := fun c k a => hF1 c k (fun q => s1 c k q a)
  have c2 : ∀ (c : rf) (k : Nat), ¬ (c.1 = 12 ∨ 50 ≤ c.1) → M2.1 c k = M1.1 c k := fun c k a => hF2 c k (fun q => a (s2 c k q))
  have e50 : M1.1 (50, 0, 0) = M.1 (50, 0, 0) := funext fun k => c1 _ _ (by simp)
  have hR : RW 0 M.1 (M1.1 (50, 0, 0)) := by rw [e50]; exact h.2.2.1
  have hu : (M1.1 (12, 0, 0) 7).toInt = -1 := by rw [c1 _ _ (by simp)]; exact h.2.1
  have h7 : (M2.1 (12, 0, 0) 7).toInt = -1 := by rw [hF2 (12, 0, 0) 7 (fun q => by simp only [S_c_X12_away, or_false] at q; omega)]; exact hu
  have B := cb_3 hs1 hs2 hR hD hu
  exact ⟨RY_of h hF1 hF2 s1 s2 hx hD2.2.1 hD2.2.2.1 h7 B.1 (Or.inl ⟨hF2 _ _ (fun q => by simp only [S_c_X12_away, or_false] at q; omega), fun c k a b q => by unfold wR at a; simp only [S_c_X11_away, or_false] at q; omega, fun k q => by simp only [S_c_X12_away, or_false] at q; omega⟩) (SHR_keep h.2.2.2.2 (fun c k a => hF1 c k (fun q => by simp only [S_c_X11_away, or_false] at q; omega)) (fun c k a => by rw [hF2 c k (fun q => by simp only [S_c_X12_away, or_false] at q; omega), c1 c k (by omega)])), B.2⟩
theorem sy_4 {v : Int32} {u : Int32} {t : Int32} {M M1 M2 : mM} {r1 r2 : Int32} (h : RY M.1) (hD0 : InvD M) (hD : InvD M1) (hD2 : InvD M2) (hF1 : FR S_c_X11_kind M M1) (hs1 : SP_X11_kind v u t M r1 M1) (hF2 : FR S_c_X12_kind M1 M2) (hs2 : SP_X12_kind v u t M1 r2 M2) : RY M2.1 ∧ True := by
  have hx := (st_4 h.1 hD0 hF1 hs1 hF2 hs2).1
  have s1 : cC S_c_X11_kind := fun c k q => by simp only [S_c_X11_kind, or_false] at q; omega
  have s2 : cD S_c_X12_kind := fun c k q => by simp only [S_c_X12_kind, or_false] at q; omega
  have c1 : ∀ (c : rf) (k : Nat), c.1 = 12 ∨ 50 ≤ c.1 → M1.1 c k = M.1 c k := fun c k a => hF1 c k (fun q => s1 c k q a)
  have c2 : ∀ (c : rf) (k : Nat), ¬ (c.1 = 12 ∨ 50 ≤ c.1) → M2.1 c k = M1.1 c k := fun c k a => hF2 c k (fun q => a (s2 c k q))
  have e50 : M1.1 (50, 0, 0) = M.1 (50, 0, 0) := funext fun k => c1 _ _ (by simp)
  have hR : RW 0 M.1 (M1.1 (50, 0, 0)) := by rw [e50]; exact h.2.2.1
  have hu : (M1.1 (12, 0, 0) 7).toInt = -1 := by rw [c1 _ _ (by simp)]; exact h.2.1
  have h7 : (M2.1 (12, 0, 0) 7).toInt = -1 := by rw [hF2 (12, 0, 0) 7 (fun q => by simp only [S_c_X12_kind, or_false] at q; omega)]; exact hu
  have hL : LWR 0 M1.1 (M2.1 (50, 0, 0)) := LWR_keep (LWR_rx hx) (fun r k hr => (c2 _ _ (by dsimp only; omega)).symm) (fun _ _ => rfl)
  exact ⟨RY_of h hF1 hF2 s1 s2 hx hD2.2.1 hD2.2.2.1 h7 (cb_4 hF1 hs2 hR hD hL) (Or.inl ⟨hF2 _ _ (fun q => by simp only [S_c_X12_kind, or_false] at q; omega), fun c k a b q => by unfold wR at a; simp only [S_c_X11_kind, or_false] at q; omega, fun k q => by simp only [S_c_X12_kind, or_false] at q; omega⟩) (SHR_keep h.2.2.2.2 (fun c k a => hF1 c k (fun q => by simp only [S_c_X11_kind, or_false] at q; omega)) (fun c k a => by rw [hF2 c k (fun q => by simp only [S_c_X12_kind, or_false] at q; omega), c1 c k (by omega)])), trivial⟩
theorem sy_5 {v : Int32} {M M1 M2 : mM} {r1 r2 : Int32} (h : RY M.1) (hD0 : InvD M) (hD : InvD M1) (hD2 : InvD M2) (hF1 : FR S_c_X11_at M M1) (hs1 : SP_X11_at v M r1 M1) (hF2 : FR S_c_X12_at M1 M2) (hs2 : SP_X12_at v M1 r2 M2) : RY M2.1 ∧ True := by
  have hx := (st_5 h.1 hD0 hF1 hs1 hF2 hs2).1
  have s1 : cC S_c_X11_at := fun c k q => by simp only [S_c_X11_at, or_false] at q; omega
  have s2 : cD S_c_X12_at := fun c k q => by simp only [S_c_X12_at, or_false] at q; omega
  have c1 : ∀ (c : rf) (k : Nat), c.1 = 12 ∨ 50 ≤ c.1 → M1.1 c k = M.1 c k := fun c k a => hF1 c k (fun q => s1 c k q a)
  have c2 : ∀ (c : rf) (k : Nat), ¬ (c.1 = 12 ∨ 50 ≤ c.1) → M2.1 c k = M1.1 c k := fun c k a => hF2 c k (fun q => a (s2 c k q))
  have e50 : M1.1 (50, 0, 0) = M.1 (50, 0, 0) := funext fun k => c1 _ _ (by simp)
  have hR : RW 0 M.1 (M1.1 (50, 0, 0)) := by rw [e50]; exact h.2.2.1
  have hu : (M1.1 (12, 0, 0) 7).toInt = -1 := by rw [c1 _ _ (by simp)]; exact h.2.1
  have h7 : (M2.1 (12, 0, 0) 7).toInt = -1 := by rw [hF2 (12, 0, 0) 7 (fun q => by simp only [S_c_X12_at, or_false] at q; omega)]; exact hu
  exact ⟨RY_fr h hF1 hF2 s1 s2 hx hD2.2.1 hD2.2.2.1 (fun c k a b q => by unfold wR at a; simp only [S_c_X11_at, or_false] at q; omega) (fun c k a q => by rcases a with rfl | rfl | ⟨rfl, rfl⟩ | a | a | a <;> (simp only [S_c_X12_at, or_false] at q <;> omega)) (fun c k a q => by simp only [S_c_X11_at, or_false] at q; omega) h7, trivial⟩
theorem sy_6 {v : Int32} {u : Int32} {M M1 M2 : mM} {r1 r2 : Int32} (h : RY M.1) (hD0 : InvD M) (hD : InvD M1) (hD2 : InvD M2) (hF1 : FR S_c_X11_lays M M1) (hs1 : SP_X11_lays v u M r1 M1) (hF2 : FR S_c_X12_lays M1 M2) (hs2 : SP_X12_lays v u M1 r2 M2) : RY M2.1 ∧ r1 = r2 := by
  have hx := (st_6 h.1 hD0 hF1 hs1 hF2 hs2).1
  have s1 : cC S_c_X11_lays := fun c k q => by simp only [S_c_X11_lays, or_false] at q; omega
  have s2 : cD S_c_X12_lays := fun c k q => by simp only [S_c_X12_lays, or_false] at q; omega
  have c1 : ∀ (c : rf) (k : Nat), c.1 = 12 ∨ 50 ≤ c.1 → M1.1 c k = M.1 c k := fun c k a => hF1 c k (fun q => s1 c k q a)
  have c2 : ∀ (c : rf) (k : Nat), ¬ (c.1 = 12 ∨ 50 ≤ c.1) → M2.1 c k = M1.1 c k := fun c k a => hF2 c k (fun q => a (s2 c k q))
  have e50 : M1.1 (50, 0, 0) = M.1 (50, 0, 0) := funext fun k => c1 _ _ (by simp)
  have hR : RW 0 M.1 (M1.1 (50, 0, 0)) := by rw [e50]; exact h.2.2.1
  have hu : (M1.1 (12, 0, 0) 7).toInt = -1 := by rw [c1 _ _ (by simp)]; exact h.2.1
  have h7 : (M2.1 (12, 0, 0) 7).toInt = -1 := by rw [hF2 (12, 0, 0) 7 (fun q => by simp only [S_c_X12_lays, or_false] at q; omega)]; exact hu
  have B := cb_6 hs1 hs2 hR hD hu (SHR_keep h.2.2.2.2 (fun _ _ _ => rfl) (fun c k a => c1 c k (by omega)))
  exact ⟨RY_of h hF1 hF2 s1 s2 hx hD2.2.1 hD2.2.2.1 h7 B.1 (Or.inl ⟨hF2 _ _ (fun q => by simp only [S_c_X12_lays, or_false] at q; omega), fun c k a b q => by unfold wR at a; simp only [S_c_X11_lays, or_false] at q; omega, fun k q => by simp only [S_c_X12_lays, or_false] at q; omega⟩) (SHR_keep h.2.2.2.2 (fun c k a => hF1 c k (fun q => by simp only [S_c_X11_lays, or_false] at q; omega)) (fun c k a => by rw [hF2 c k (fun q => by simp only [S_c_X12_lays, or_false] at q; omega), c1 c k (by omega)])), B.2⟩
theorem sy_7 {v : Int32} {u : Int32} {M M1 M2 : mM} {r1 r2 : Int32} (h : RY M.1) (hD0 : InvD M) (hD : InvD M1) (hD2 : InvD M2) (hF1 : FR S_c_X11_air M M1) (hs1 : SP_X11_air v u M r1 M1) (hF2 : FR S_c_X12_air M1 M2) (hs2 : SP_X12_air v u M1 r2 M2) : RY M2.1 ∧ True := by
  have hx := (st_7 h.1 hD0 hF1 hs1 hF2 hs2).1
  have s1 : cC S_c_X11_air := fun c k q => by simp only [S_c_X11_air, or_false] at q; omega
  have s2 : cD S_c_X12_air := fun c k q => by simp only [S_c_X12_air, or_false] at q; omega
  have c1 : ∀ (c : rf) (k : Nat), c.1 = 12 ∨ 50 ≤ c.1 → M1.1 c k = M.1 c k := fun c k a => hF1 c k (fun q => s1 c k q a)
  have c2 : ∀ (c : rf) (k : Nat), ¬ (c.1 = 12 ∨ 50 ≤ c.1) → M2.1 c k = M1.1 c k := fun c k a => hF2 c k (fun q => a (s2 c k q))
  have e50 : M1.1 (50, 0, 0) = M.1 (50, 0, 0) := funext fun k => c1 _ _ (by simp)
  have hR : RW 0 M.1 (M1.1 (50, 0, 0)) := by rw [e50]; exact h.2.2.1
  have hu : (M1.1 (12, 0, 0) 7).toInt = -1 := by rw [c1 _ _ (by simp)]; exact h.2.1
  have h7 : (M2.1 (12, 0, 0) 7).toInt = -1 := by rw [hF2 (12, 0, 0) 7 (fun q => by simp only [S_c_X12_air, or_false] at q; omega)]; exact hu
  have hL : LWR 0 M1.1 (M2.1 (50, 0, 0)) := LWR_keep (LWR_rx hx) (fun r k hr => (c2 _ _ (by dsimp only; omega)).symm) (fun _ _ => rfl)
  exact ⟨RY_of h hF1 hF2 s1 s2 hx hD2.2.1 hD2.2.2.1 h7 (cb_7 hF1 hs2 hR hD hL) (Or.inl ⟨hF2 _ _ (fun q => by simp only [S_c_X12_air, or_false] at q; omega), fun c k a b q => by unfold wR at a; simp only [S_c_X11_air, or_false] at q; omega, fun k q => by simp only [S_c_X12_air, or_false] at q; omega⟩) (SHR_keep h.2.2.2.2 (fun c k a => hF1 c k (fun q => by simp only [S_c_X11_air, or_false] at q; omega)) (fun c k a => by rw [hF2 c k (fun q => by simp only [S_c_X12_air, or_false] at q; omega), c1 c k (by omega)])), trivial⟩
theorem sy_8 {v : Int32} {u : Int32} {t : Int32} {M M1 M2 : mM} {r1 r2 : Int32} (h : RY M.1) (hD0 : InvD M) (hD : InvD M1) (hD2 : InvD M2) (hF1 : FR S_c_X11_walker M M1) (hs1 : SP_X11_walker v u t M r1 M1) (hF2 : FR S_c_X12_walker M1 M2) (hs2 : SP_X12_walker v u t M1 r2 M2) : RY M2.1 ∧ r1 = r2 := by
  have hx := (st_8 h.1 hD0 hF1 hs1 hF2 hs2).1
  have s1 : cC S_c_X11_walker := fun c k q => by simp only [S_c_X11_walker, or_false] at q; omega
  have s2 : cD S_c_X12_walker := fun c k q => by simp only [S_c_X12_walker, or_false] at q; omega
  have c1 : ∀ (c : rf) (k : Nat), c.1 = 12 ∨ 50 ≤ c.1 → M1.1 c k = M.1 c k := fun c k a => hF1 c k (fun q => s1 c k q a)
  have c2 : ∀ (c : rf) (k : Nat), ¬ (c.1 = 12 ∨ 50 ≤ c.1) → M2.1 c k = M1.1 c k := fun c k a => hF2 c k (fun q => a (s2 c k q))
  have e50 : M1.1 (50, 0, 0) = M.1 (50, 0, 0) := funext fun k => c1 _ _ (by simp)
  have hR : RW 0 M.1 (M1.1 (50, 0, 0)) := by rw [e50]; exact h.2.2.1
  have hu : (M1.1 (12, 0, 0) 7).toInt = -1 := by rw [c1 _ _ (by simp)]; exact h.2.1
  have h7 : (M2.1 (12, 0, 0) 7).toInt = -1 := by rw [hF2 (12, 0, 0) 7 (fun q => by simp only [S_c_X12_walker, or_false] at q; omega)]; exact hu
  have B := cb_8 hs1 hs2 hR hD hu
  exact ⟨RY_of h hF1 hF2 s1 s2 hx hD2.2.1 hD2.2.2.1 h7 B.1 (Or.inl ⟨hF2 _ _ (fun q => by simp only [S_c_X12_walker, or_false] at q; omega), fun c k a b q => by unfold wR at a; simp only [S_c_X11_walker, or_false] at q; omega, fun k q => by simp only [S_c_X12_walker, or_false] at q; omega⟩) (SHR_keep h.2.2.2.2 (fun c k a => hF1 c k (fun q => by simp only [S_c_X11_walker, or_false] at q; omega)) (fun c k a => by rw [hF2 c k (fun q => by simp only [S_c_X12_walker, or_false] at q; omega), c1 c k (by omega)])), B.2⟩
theorem sy_9 {v : Int32} {u : Int32} {M M1 M2 : mM} {r1 r2 : Int32} (h : RY M.1) (hD0 : InvD M) (hD : InvD M1) (hD2 : InvD M2) (hF1 : FR S_c_X11_walkerIs M M1) (hs1 : SP_X11_walkerIs v u M r1 M1) (hF2 : FR S_c_X12_walkerIs M1 M2) (hs2 : SP_X12_walkerIs v u M1 r2 M2) : RY M2.1 ∧ True := by
  have hx := (st_9 h.1 hD0 hF1 hs1 hF2 hs2).1
  have s1 : cC S_c_X11_walkerIs := fun c k q => by simp only [S_c_X11_walkerIs, or_false] at q; omega
  have s2 : cD S_c_X12_walkerIs := fun c k q => by simp only [S_c_X12_walkerIs, or_false] at q; omega
  have c1 : ∀ (c : rf) (k : Nat), c.1 = 12 ∨ 50 ≤ c.1 → M1.1 c k = M.1 c k := fun c k a => hF1 c k (fun q => s1 c k q a)
  have c2 : ∀ (c : rf) (k : Nat), ¬ (c.1 = 12 ∨ 50 ≤ c.1) → M2.1 c k = M1.1 c k := fun c k a => hF2 c k (fun q => a (s2 c k q))
  have e50 : M1.1 (50, 0, 0) = M.1 (50, 0, 0) := funext fun k => c1 _ _ (by simp)
  have hR : RW 0 M.1 (M1.1 (50, 0, 0)) := by rw [e50]; exact h.2.2.1
  have hu : (M1.1 (12, 0, 0) 7).toInt = -1 := by rw [c1 _ _ (by simp)]; exact h.2.1
  have h7 : (M2.1 (12, 0, 0) 7).toInt = -1 := by rw [hF2 (12, 0, 0) 7 (fun q => by simp only [S_c_X12_walkerIs, or_false] at q; omega)]; exact hu
  exact ⟨RY_fr h hF1 hF2 s1 s2 hx hD2.2.1 hD2.2.2.1 (fun c k a b q => by unfold wR at a; simp only [S_c_X11_walkerIs, or_false] at q; omega) (fun c k a q => by rcases a with rfl | rfl | ⟨rfl, rfl⟩ | a | a | a <;> (simp only [S_c_X12_walkerIs, or_false] at q <;> omega)) (fun c k a q => by simp only [S_c_X11_walkerIs, or_false] at q; omega) h7, trivial⟩
theorem sy_10 {v : Int32} {u : Int32} {M M1 M2 : mM} {r1 r2 : Int32} (h : RY M.1) (hD0 : InvD M) (hD : InvD M1) (hD2 : InvD M2) (hF1 : FR S_c_X11_as M M1) (hs1 : SP_X11_as v u M r1 M1) (hF2 : FR S_c_X12_as M1 M2) (hs2 : SP_X12_as v u M1 r2 M2) : RY M2.1 ∧ True := by
  have hx := (st_10 h.1 hD0 hF1 hs1 hF2 hs2).1
  have s1 : cC S_c_X11_as := fun c k q => by simp only [S_c_X11_as, or_false] at q; omega
  have s2 : cD S_c_X12_as := fun c k q => by simp only [S_c_X12_as, or_false] at q; omega
  have c1 : ∀ (c : rf) (k : Nat), c.1 = 12 ∨ 50 ≤ c.1 → M1.1 c k = M.1 c k := fun c k a => hF1 c k (fun q => s1 c k q a)
  have c2 : ∀ (c : rf) (k : Nat), ¬ (c.1 = 12 ∨ 50 ≤ c.1) → M2.1 c k = M1.1 c k := fun c k a => hF2 c k (fun q => a (s2 c k q))
  have e50 : M1.1 (50, 0, 0) = M.1 (50, 0, 0) := funext fun k => c1 _ _ (by simp)
  have hR : RW 0 M.1 (M1.1 (50, 0, 0)) := by rw [e50]; exact h.2.2.1
  have hu : (M1.1 (12, 0, 0) 7).toInt = -1 := by rw [c1 _ _ (by simp)]; exact h.2.1
  have h7 : (M2.1 (12, 0, 0) 7).toInt = -1 := by rw [hF2 (12, 0, 0) 7 (fun q => by simp only [S_c_X12_as, or_false] at q; omega)]; exact hu
  exact ⟨RY_fr h hF1 hF2 s1 s2 hx hD2.2.1 hD2.2.2.1 (fun c k a b q => by unfold wR at a; simp only [S_c_X11_as, or_false] at q; omega) (fun c k a q => by rcases a with rfl | rfl | ⟨rfl, rfl⟩ | a | a | a <;> (simp only [S_c_X12_as, or_false] at q <;> omega)) (fun c k a q => by simp only [S_c_X11_as, or_false] at q; omega) h7, trivial⟩
theorem sy_11 {v : Int32} {u : Int32} {t : Int32} {s : Int32} {M M1 M2 : mM} {r1 r2 : Int32} (h : RY M.1) (hD0 : InvD M) (hD : InvD M1) (hD2 : InvD M2) (hF1 : FR S_c_X11_habit M M1) (hs1 : SP_X11_habit v u t s M r1 M1) (hF2 : FR S_c_X12_habit M1 M2) (hs2 : SP_X12_habit v u t s M1 r2 M2) : RY M2.1 ∧ r1 = r2 := by
  have hx := (st_11 h.1 hD0 hF1 hs1 hF2 hs2).1
  have s1 : cC S_c_X11_habit := fun c k q => by simp only [S_c_X11_habit, or_false] at q; omega
  have s2 : cD S_c_X12_habit := fun c k q => by simp only [S_c_X12_habit, or_false] at q; omega
  have c1 : ∀ (c : rf) (k : Nat), c.1 = 12 ∨ 50 ≤ c.1 → M1.1 c k = M.1 c k := fun c k a => hF1 c k (fun q => s1 c k q a)
  have c2 : ∀ (c : rf) (k : Nat), ¬ (c.1 = 12 ∨ 50 ≤ c.1) → M2.1 c k = M1.1 c k := fun c k a => hF2 c k (fun q => a (s2 c k q))
  have e50 : M1.1 (50, 0, 0) = M.1 (50, 0, 0) := funext fun k => c1 _ _ (by simp)
  have hR : RW 0 M.1 (M1.1 (50, 0, 0)) := by rw [e50]; exact h.2.2.1
  have hu : (M1.1 (12, 0, 0) 7).toInt = -1 := by rw [c1 _ _ (by simp)]; exact h.2.1
  have h7 : (M2.1 (12, 0, 0) 7).toInt = -1 := by rw [hF2 (12, 0, 0) 7 (fun q => by simp only [S_c_X12_habit, or_false] at q; omega)]; exact hu
  have B := cb_11 hs1 hs2 hR hD hu
  exact ⟨RY_of h hF1 hF2 s1 s2 hx hD2.2.1 hD2.2.2.1 h7 B.1 (Or.inl ⟨hF2 _ _ (fun q => by simp only [S_c_X12_habit, or_false] at q; omega), fun c k a b q => by unfold wR at a; simp only [S_c_X11_habit, or_false] at q; omega, fun k q => by simp only [S_c_X12_habit, or_false] at q; omega⟩) (SHR_keep h.2.2.2.2 (fun c k a => hF1 c k (fun q => by simp only [S_c_X11_habit, or_false] at q; omega)) (fun c k a => by rw [hF2 c k (fun q => by simp only [S_c_X12_habit, or_false] at q; omega), c1 c k (by omega)])), B.2⟩
theorem sy_12 {v : Int32} {u : Int32} {M M1 M2 : mM} {r1 r2 : Int32} (h : RY M.1) (hD0 : InvD M) (hD : InvD M1) (hD2 : InvD M2) (hF1 : FR S_c_X11_face M M1) (hs1 : SP_X11_face v u M r1 M1) (hF2 : FR S_c_X12_face M1 M2) (hs2 : SP_X12_face v u M1 r2 M2) : RY M2.1 ∧ r1 = r2 := by
  have hx := (st_12 h.1 hD0 hF1 hs1 hF2 hs2).1
  have s1 : cC S_c_X11_face := fun c k q => by simp only [S_c_X11_face, or_false] at q; omega
  have s2 : cD S_c_X12_face := fun c k q => by simp only [S_c_X12_face, or_false] at q; omega
  have c1 : ∀ (c : rf) (k : Nat), c.1 = 12 ∨ 50 ≤ c.1 → M1.1 c k = M.1 c k := fun c k a => hF1 c k (fun q => s1 c k q a)
  have c2 : ∀ (c : rf) (k : Nat), ¬ (c.1 = 12 ∨ 50 ≤ c.1) → M2.1 c k = M1.1 c k := fun c k a => hF2 c k (fun q => a (s2 c k q))
  have e50 : M1.1 (50, 0, 0) = M.1 (50, 0, 0) := funext fun k => c1 _ _ (by simp)
  have hR : RW 0 M.1 (M1.1 (50, 0, 0)) := by rw [e50]; exact h.2.2.1
  have hu : (M1.1 (12, 0, 0) 7).toInt = -1 := by rw [c1 _ _ (by simp)]; exact h.2.1
  have h7 : (M2.1 (12, 0, 0) 7).toInt = -1 := by rw [hF2 (12, 0, 0) 7 (fun q => by simp only [S_c_X12_face, or_false] at q; omega)]; exact hu
  have B := cb_12 hs1 hs2 hR hD hu
  exact ⟨RY_of h hF1 hF2 s1 s2 hx hD2.2.1 hD2.2.2.1 h7 B.1 (Or.inl ⟨hF2 _ _ (fun q => by simp only [S_c_X12_face, or_false] at q; omega), fun c k a b q => by unfold wR at a; simp only [S_c_X11_face, or_false] at q; omega, fun k q => by simp only [S_c_X12_face, or_false] at q; omega⟩) (SHR_keep h.2.2.2.2 (fun c k a => hF1 c k (fun q => by simp only [S_c_X11_face, or_false] at q; omega)) (fun c k a => by rw [hF2 c k (fun q => by simp only [S_c_X12_face, or_false] at q; omega), c1 c k (by omega)])), B.2⟩
theorem sy_13 {v : Int32} {u : Int32} {M M1 M2 : mM} {r1 r2 : Int32} (h : RY M.1) (hD0 : InvD M) (hD : InvD M1) (hD2 : InvD M2) (hF1 : FR S_c_X11_goes M M1) (hs1 : SP_X11_goes v u M r1 M1) (hF2 : FR S_c_X12_goes M1 M2) (hs2 : SP_X12_goes v u M1 r2 M2) (hub : 0 ≤ u.toInt ∧ u.toInt ≤ 1) : RY M2.1 ∧ r1 = r2 := by
  have hx := (st_13 h.1 hD0 hF1 hs1 hF2 hs2).1
  have s1 : cC S_c_X11_goes := fun c k q => by simp only [S_c_X11_goes, or_false] at q; omega
  have s2 : cD S_c_X12_goes := fun c k q => by simp only [S_c_X12_goes, or_false] at q; omega
  have c1 : ∀ (c : rf) (k : Nat), c.1 = 12 ∨ 50 ≤ c.1 → M1.1 c k = M.1 c k := fun c k a => hF1 c k (fun q => s1 c k q a)
  have c2 : ∀ (c : rf) (k : Nat), ¬ (c.1 = 12 ∨ 50 ≤ c.1) → M2.1 c k = M1.1 c k := fun c k a => hF2 c k (fun q => a (s2 c k q))
  have e50 : M1.1 (50, 0, 0) = M.1 (50, 0, 0) := funext fun k => c1 _ _ (by simp)
  have hR : RW 0 M.1 (M1.1 (50, 0, 0)) := by rw [e50]; exact h.2.2.1
  have hu : (M1.1 (12, 0, 0) 7).toInt = -1 := by rw [c1 _ _ (by simp)]; exact h.2.1
  have h7 : (M2.1 (12, 0, 0) 7).toInt = -1 := by rw [hF2 (12, 0, 0) 7 (fun q => by simp only [S_c_X12_goes, or_false] at q; omega)]; exact hu
  have B := cb_13 hs1 hs2 hR hD hu hub
  exact ⟨RY_of h hF1 hF2 s1 s2 hx hD2.2.1 hD2.2.2.1 h7 B.1 (Or.inl ⟨hF2 _ _ (fun q => by simp only [S_c_X12_goes, or_false] at q; omega), fun c k a b q => by unfold wR at a; simp only [S_c_X11_goes, or_false] at q; omega, fun k q => by simp only [S_c_X12_goes, or_false] at q; omega⟩) (SHR_keep h.2.2.2.2 (fun c k a => hF1 c k (fun q => by simp only [S_c_X11_goes, or_false] at q; omega)) (fun c k a => by rw [hF2 c k (fun q => by simp only [S_c_X12_goes, or_false] at q; omega), c1 c k (by omega)])), B.2⟩
theorem sy_14 {v : Int64} {u : Int32} {M M1 M2 : mM} {r1 r2 : Int32} (h : RY M.1) (hD0 : InvD M) (hD : InvD M1) (hD2 : InvD M2) (hF1 : FR S_c_X11_feed M M1) (hs1 : SP_X11_feed v u M r1 M1) (hF2 : FR S_c_X12_feed M1 M2) (hs2 : SP_X12_feed v u M1 r2 M2) : RY M2.1 ∧ r1 = r2 := by
  have hx := (st_14 h.1 hD0 hF1 hs1 hF2 hs2).1
  have s1 : cC S_c_X11_feed := fun c k q => by simp only [S_c_X11_feed, or_false] at q; omega
  have s2 : cD S_c_X12_feed := fun c k q => by simp only [S_c_X12_feed, or_false] at q; omega
  have c1 : ∀ (c : rf) (k : Nat), c.1 = 12 ∨ 50 ≤ c.1 → M1.1 c k = M.1 c k := fun c k a => hF1 c k (fun q => s1 c k q a)
  have c2 : ∀ (c : rf) (k : Nat), ¬ (c.1 = 12 ∨ 50 ≤ c.1) → M2.1 c k = M1.1 c k := fun c k a => hF2 c k (fun q => a (s2 c k q))
  have e50 : M1.1 (50, 0, 0) = M.1 (50, 0, 0) := funext fun k => c1 _ _ (by simp)
  have hR : RW 0 M.1 (M1.1 (50, 0, 0)) := by rw [e50]; exact h.2.2.1
  have hu : (M1.1 (12, 0, 0) 7).toInt = -1 := by rw [c1 _ _ (by simp)]; exact h.2.1
  have h7 : (M2.1 (12, 0, 0) 7).toInt = -1 := by rw [hF2 (12, 0, 0) 7 (fun q => by simp only [S_c_X12_feed, or_false] at q; omega)]; exact hu
  have B := cb_14 hs1 hs2 hR hD hu (show M.1 (5, 0, 0) 1 = M1.1 (50, 0, 0) 4 from ((RXzg h.1 (d := (50, 0, 0)) (j := 4) (by unfold PRz; simp) (by simp)).trans (c1 _ _ (by simp)).symm))
  exact ⟨RY_of h hF1 hF2 s1 s2 hx hD2.2.1 hD2.2.2.1 h7 B.1 (Or.inl ⟨hF2 _ _ (fun q => by simp only [S_c_X12_feed, or_false] at q; omega), fun c k a b q => by unfold wR at a; simp only [S_c_X11_feed, or_false] at q; omega, fun k q => by simp only [S_c_X12_feed, or_false] at q; omega⟩) (SHR_keep h.2.2.2.2 (fun c k a => hF1 c k (fun q => by simp only [S_c_X11_feed, or_false] at q; omega)) (fun c k a => by rw [hF2 c k (fun q => by simp only [S_c_X12_feed, or_false] at q; omega), c1 c k (by omega)])), B.2⟩
theorem sy_15 {v : Int32} {M M1 M2 : mM} {r1 r2 : Int32} (h : RY M.1) (hD0 : InvD M) (hD : InvD M1) (hD2 : InvD M2) (hF1 : FR S_c_X11_text M M1) (hs1 : SP_X11_text v M r1 M1) (hF2 : FR S_c_X12_text_ M1 M2) (hs2 : SP_X12_text_ v M1 r2 M2) : RY M2.1 ∧ r1 = r2 := by
  have hx := (st_15 h.1 hD0 hF1 hs1 hF2 hs2).1
  have s1 : cC S_c_X11_text := fun c k q => by simp only [S_c_X11_text, or_false] at q; omega
  have s2 : cD S_c_X12_text_ := fun c k q => by simp only [S_c_X12_text_, or_false] at q; omega
  have c1 : ∀ (c : rf) (k : Nat), c.1 = 12 ∨ 50 ≤ c.1 → M1.1 c k = M.1 c k := fun c k a => hF1 c k (fun q => s1 c k q a)
  have c2 : ∀ (c : rf) (k : Nat), ¬ (c.1 = 12 ∨ 50 ≤ c.1) → M2.1 c k = M1.1 c k := fun c k a => hF2 c k (fun q => a (s2 c k q))
  have e50 : M1.1 (50, 0, 0) = M.1 (50, 0, 0) := funext fun k => c1 _ _ (by simp)
  have hR : RW 0 M.1 (M1.1 (50, 0, 0)) := by rw [e50]; exact h.2.2.1
  have hu : (M1.1 (12, 0, 0) 7).toInt = -1 := by rw [c1 _ _ (by simp)]; exact h.2.1
  have h7 : (M2.1 (12, 0, 0) 7).toInt = -1 := by rw [hF2 (12, 0, 0) 7 (fun q => by simp only [S_c_X12_text_, or_false] at q; omega)]; exact hu
  have B := cb_text hs1 hs2 hR hD (show M.1 (5, 0, 0) 1 = M1.1 (50, 0, 0) 4 from ((RXzg h.1 (d := (50, 0, 0)) (j := 4) (by unfold PRz; simp) (by simp)).trans (c1 _ _ (by simp)).symm))
  exact ⟨RY_of h hF1 hF2 s1 s2 hx hD2.2.1 hD2.2.2.1 h7 B.1 (Or.inl ⟨hF2 _ _ (fun q => by simp only [S_c_X12_text_, or_false] at q; omega), fun c k a b q => by unfold wR at a; simp only [S_c_X11_text, or_false] at q; omega, fun k q => by simp only [S_c_X12_text_, or_false] at q; omega⟩) (SHR_keep h.2.2.2.2 (fun c k a => hF1 c k (fun q => by simp only [S_c_X11_text, or_false] at q; omega)) (fun c k a => by rw [hF2 c k (fun q => by simp only [S_c_X12_text_, or_false] at q; omega), c1 c k (by omega)])), B.2⟩
theorem sy_16 {v : Int32} {u : Int32} {t : Int32} {s : Int32} {M M1 M2 : mM} {r1 r2 : Int32} (h : RY M.1) (hD0 : InvD M) (hD : InvD M1) (hD2 : InvD M2) (hF1 : FR S_c_X11_echo M M1) (hs1 : SP_X11_echo v u t s M r1 M1) (hF2 : FR S_c_X12_echo M1 M2) (hs2 : SP_X12_echo v u t s M1 r2 M2) : RY M2.1 ∧ True := by
  have hx := (st_16 h.1 hD0 hF1 hs1 hF2 hs2).1
  have s1 : cC S_c_X11_echo := fun c k q => by simp only [S_c_X11_echo, or_false] at q; omega
  have s2 : cD S_c_X12_echo := fun c k q => by simp only [S_c_X12_echo, or_false] at q; omega
  have c1 : ∀ (c : rf) (k : Nat), c.1 = 12 ∨ 50 ≤ c.1 → M1.1 c k = M.1 c k := fun c k a => hF1 c k (fun q => s1 c k q a)
  have c2 : ∀ (c : rf) (k : Nat), ¬ (c.1 = 12 ∨ 50 ≤ c.1) → M2.1 c k = M1.1 c k := fun c k a => hF2 c k (fun q => a (s2 c k q))
  have e50 : M1.1 (50, 0, 0) = M.1 (50, 0, 0) := funext fun k => c1 _ _ (by simp)
  have hR : RW 0 M.1 (M1.1 (50, 0, 0)) := by rw [e50]; exact h.2.2.1
  have hu : (M1.1 (12, 0, 0) 7).toInt = -1 := by rw [c1 _ _ (by simp)]; exact h.2.1
  have h7 : (M2.1 (12, 0, 0) 7).toInt = -1 := by rw [hF2 (12, 0, 0) 7 (fun q => by simp only [S_c_X12_echo, or_false] at q; omega)]; exact hu
  exact ⟨RY_fr h hF1 hF2 s1 s2 hx hD2.2.1 hD2.2.2.1 (fun c k a b q => by unfold wR at a; simp only [S_c_X11_echo, or_false] at q; omega) (fun c k a q => by rcases a with rfl | rfl | ⟨rfl, rfl⟩ | a | a | a <;> (simp only [S_c_X12_echo, or_false] at q <;> omega)) (fun c k a q => by simp only [S_c_X11_echo, or_false] at q; omega) h7, trivial⟩
theorem sy_17 {v : Int32} {M M1 M2 : mM} {r1 r2 : Int32} (h : RY M.1) (hD0 : InvD M) (hD : InvD M1) (hD2 : InvD M2) (hF1 : FR S_c_X11_click M M1) (hs1 : SP_X11_click v M r1 M1) (hF2 : FR S_c_X12_click M1 M2) (hs2 : SP_X12_click v M1 r2 M2) : RY M2.1 ∧ r1 = r2 := by
  have hx := (st_17 h.1 hD0 hF1 hs1 hF2 hs2).1
  have s1 : cC S_c_X11_click := fun c k q => by simp only [S_c_X11_click, or_false] at q; omega
  have s2 : cD S_c_X12_click := fun c k q => by simp only [S_c_X12_click, or_false] at q; omega
  have c1 : ∀ (c : rf) (k : Nat), c.1 = 12 ∨ 50 ≤ c.1 → M1.1 c k = M.1 c k := fun c k a => hF1 c k (fun q => s1 c k q a)
  have c2 : ∀ (c : rf) (k : Nat), ¬ (c.1 = 12 ∨ 50 ≤ c.1) → M2.1 c k = M1.1 c k := fun c k a => hF2 c k (fun q => a (s2 c k q))
  have e50 : M1.1 (50, 0, 0) = M.1 (50, 0, 0) := funext fun k => c1 _ _ (by simp)
  have hR : RW 0 M.1 (M1.1 (50, 0, 0)) := by rw [e50]; exact h.2.2.1
  have hu : (M1.1 (12, 0, 0) 7).toInt = -1 := by rw [c1 _ _ (by simp)]; exact h.2.1
  have h7 : (M2.1 (12, 0, 0) 7).toInt = -1 := by rw [hF2 (12, 0, 0) 7 (fun q => by simp only [S_c_X12_click, or_false] at q; omega)]; exact hu
  have B := cb_17 hs1 hs2 hR hD hu
  exact ⟨RY_of h hF1 hF2 s1 s2 hx hD2.2.1 hD2.2.2.1 h7 B.1 (Or.inl ⟨hF2 _ _ (fun q => by simp only [S_c_X12_click, or_false] at q; omega), fun c k a b q => by unfold wR at a; simp only [S_c_X11_click, or_false] at q; omega, fun k q => by simp only [S_c_X12_click, or_false] at q; omega⟩) (SHR_keep h.2.2.2.2 (fun c k a => hF1 c k (fun q => by simp only [S_c_X11_click, or_false] at q; omega)) (fun c k a => by rw [hF2 c k (fun q => by simp only [S_c_X12_click, or_false] at q; omega), c1 c k (by omega)])), B.2⟩
theorem sy_18 {v : Int32} {u : Int32} {t : Int32} {M M1 M2 : mM} {r1 r2 : Int32} (h : RY M.1) (hD0 : InvD M) (hD : InvD M1) (hD2 : InvD M2) (hF1 : FR S_c_X11_head M M1) (hs1 : SP_X11_head v u t M r1 M1) (hF2 : FR S_c_X12_head M1 M2) (hs2 : SP_X12_head v u t M1 r2 M2) : RY M2.1 ∧ r1 = r2 := by
  have hx := (st_18 h.1 hD0 hF1 hs1 hF2 hs2).1
  have s1 : cC S_c_X11_head := fun c k q => by simp only [S_c_X11_head, or_false] at q; omega
  have s2 : cD S_c_X12_head := fun c k q => by simp only [S_c_X12_head, or_false] at q; omega
  have c1 : ∀ (c : rf) (k : Nat), c.1 = 12 ∨ 50 ≤ c.1 → M1.1 c k = M.1 c k := fun c k a => hF1 c k (fun q => s1 c k q a)
  have c2 : ∀ (c : rf) (k : Nat), ¬ (c.1 = 12 ∨ 50 ≤ c.1) → M2.1 c k = M1.1 c k := fun c k a => hF2 c k (fun q => a (s2 c k q))
  have e50 : M1.1 (50, 0, 0) = M.1 (50, 0, 0) := funext fun k => c1 _ _ (by simp)
  have hR : RW 0 M.1 (M1.1 (50, 0, 0)) := by rw [e50]; exact h.2.2.1
  have hu : (M1.1 (12, 0, 0) 7).toInt = -1 := by rw [c1 _ _ (by simp)]; exact h.2.1
  have h7 : (M2.1 (12, 0, 0) 7).toInt = -1 := by rw [hF2 (12, 0, 0) 7 (fun q => by simp only [S_c_X12_head, or_false] at q; omega)]; exact hu
  exact ⟨RY_fr h hF1 hF2 s1 s2 hx hD2.2.1 hD2.2.2.1 (fun c k a b q => by unfold wR at a; simp only [S_c_X11_head, or_false] at q; omega) (fun c k a q => by rcases a with rfl | rfl | ⟨rfl, rfl⟩ | a | a | a <;> (simp only [S_c_X12_head, or_false] at q <;> omega)) (fun c k a q => by simp only [S_c_X11_head, or_false] at q; omega) h7, an_18 hs1 hs2 hR hD hu⟩
theorem sy_19 {v : Int32} {u : Int32} {M M1 M2 : mM} {r1 r2 : Int32} (h : RY M.1) (hD0 : InvD M) (hD : InvD M1) (hD2 : InvD M2) (hF1 : FR S_c_X11_heads M M1) (hs1 : SP_X11_heads v u M r1 M1) (hF2 : FR S_c_X12_heads M1 M2) (hs2 : SP_X12_heads v u M1 r2 M2) : RY M2.1 ∧ True := by
  have hx := (st_19 h.1 hD0 hF1 hs1 hF2 hs2).1
  have s1 : cC S_c_X11_heads := fun c k q => by simp only [S_c_X11_heads, or_false] at q; omega
  have s2 : cD S_c_X12_heads := fun c k q => by simp only [S_c_X12_heads, or_false] at q; omega
  have c1 : ∀ (c : rf) (k : Nat), c.1 = 12 ∨ 50 ≤ c.1 → M1.1 c k = M.1 c k := fun c k a => hF1 c k (fun q => s1 c k q a)
  have c2 : ∀ (c : rf) (k : Nat), ¬ (c.1 = 12 ∨ 50 ≤ c.1) → M2.1 c k = M1.1 c k := fun c k a => hF2 c k (fun q => a (s2 c k q))
  have e50 : M1.1 (50, 0, 0) = M.1 (50, 0, 0) := funext fun k => c1 _ _ (by simp)
  have hR : RW 0 M.1 (M1.1 (50, 0, 0)) := by rw [e50]; exact h.2.2.1
  have hu : (M1.1 (12, 0, 0) 7).toInt = -1 := by rw [c1 _ _ (by simp)]; exact h.2.1
  have h7 : (M2.1 (12, 0, 0) 7).toInt = -1 := by rw [hF2 (12, 0, 0) 7 (fun q => by simp only [S_c_X12_heads, or_false] at q; omega)]; exact hu
  exact ⟨RY_fr h hF1 hF2 s1 s2 hx hD2.2.1 hD2.2.2.1 (fun c k a b q => by unfold wR at a; simp only [S_c_X11_heads, or_false] at q; omega) (fun c k a q => by rcases a with rfl | rfl | ⟨rfl, rfl⟩ | a | a | a <;> (simp only [S_c_X12_heads, or_false] at q <;> omega)) (fun c k a q => by simp only [S_c_X11_heads, or_false] at q; omega) h7, trivial⟩
theorem sy_20 {v : Int32} {u : Int32} {t : Int32} {s : Int32} {q : Int32} {M M1 M2 : mM} {r1 r2 : Int32} (h : RY M.1) (hD0 : InvD M) (hD : InvD M1) (hD2 : InvD M2) (hF1 : FR S_c_X11_alike M M1) (hs1 : SP_X11_alike v u t s q M r1 M1) (hF2 : FR S_c_X12_alike M1 M2) (hs2 : SP_X12_alike v u t s q M1 r2 M2) : RY M2.1 ∧ True := by
  have hx := (st_20 h.1 hD0 hF1 hs1 hF2 hs2).1
  have s1 : cC S_c_X11_alike := fun c k q => by simp only [S_c_X11_alike, or_false] at q; omega
  have s2 : cD S_c_X12_alike := fun c k q => by simp only [S_c_X12_alike, or_false] at q; omega
  have c1 : ∀ (c : rf) (k : Nat), c.1 = 12 ∨ 50 ≤ c.1 → M1.1 c k = M.1 c k := fun c k a => hF1 c k (fun q => s1 c k q a)
  have c2 : ∀ (c : rf) (k : Nat), ¬ (c.1 = 12 ∨ 50 ≤ c.1) → M2.1 c k = M1.1 c k := fun c k a => hF2 c k (fun q => a (s2 c k q))
  have e50 : M1.1 (50, 0, 0) = M.1 (50, 0, 0) := funext fun k => c1 _ _ (by simp)
  have hR : RW 0 M.1 (M1.1 (50, 0, 0)) := by rw [e50]; exact h.2.2.1
  have hu : (M1.1 (12, 0, 0) 7).toInt = -1 := by rw [c1 _ _ (by simp)]; exact h.2.1
  have h7 : (M2.1 (12, 0, 0) 7).toInt = -1 := by rw [hF2 (12, 0, 0) 7 (fun q => by simp only [S_c_X12_alike, or_false] at q; omega)]; exact hu
  exact ⟨RY_fr h hF1 hF2 s1 s2 hx hD2.2.1 hD2.2.2.1 (fun c k a b q => by unfold wR at a; simp only [S_c_X11_alike, or_false] at q; omega) (fun c k a q => by rcases a with rfl | rfl | ⟨rfl, rfl⟩ | a | a | a <;> (simp only [S_c_X12_alike, or_false] at q <;> omega)) (fun c k a q => by simp only [S_c_X11_alike, or_false] at q; omega) h7, trivial⟩
theorem sy_21 {v : Int32} {u : Int32} {t : Int32} {s : Int32} {M M1 M2 : mM} {r1 r2 : Int32} (h : RY M.1) (hD0 : InvD M) (hD : InvD M1) (hD2 : InvD M2) (hF1 : FR S_c_X11_least M M1) (hs1 : SP_X11_least v u t s M r1 M1) (hF2 : FR S_c_X12_least M1 M2) (hs2 : SP_X12_least v u t s M1 r2 M2) : RY M2.1 ∧ True := by
  have hx := (st_21 h.1 hD0 hF1 hs1 hF2 hs2).1
  have s1 : cC S_c_X11_least := fun c k q => by simp only [S_c_X11_least, or_false] at q; omega
  have s2 : cD S_c_X12_least := fun c k q => by simp only [S_c_X12_least, or_false] at q; omega
  have c1 : ∀ (c : rf) (k : Nat), c.1 = 12 ∨ 50 ≤ c.1 → M1.1 c k = M.1 c k := fun c k a => hF1 c k (fun q => s1 c k q a)
  have c2 : ∀ (c : rf) (k : Nat), ¬ (c.1 = 12 ∨ 50 ≤ c.1) → M2.1 c k = M1.1 c k := fun c k a => hF2 c k (fun q => a (s2 c k q))
  have e50 : M1.1 (50, 0, 0) = M.1 (50, 0, 0) := funext fun k => c1 _ _ (by simp)
  have hR : RW 0 M.1 (M1.1 (50, 0, 0)) := by rw [e50]; exact h.2.2.1
  have hu : (M1.1 (12, 0, 0) 7).toInt = -1 := by rw [c1 _ _ (by simp)]; exact h.2.1
  have h7 : (M2.1 (12, 0, 0) 7).toInt = -1 := by rw [hF2 (12, 0, 0) 7 (fun q => by simp only [S_c_X12_least, or_false] at q; omega)]; exact hu
  exact ⟨RY_fr h hF1 hF2 s1 s2 hx hD2.2.1 hD2.2.2.1 (fun c k a b q => by unfold wR at a; simp only [S_c_X11_least, or_false] at q; omega) (fun c k a q => by rcases a with rfl | rfl | ⟨rfl, rfl⟩ | a | a | a <;> (simp only [S_c_X12_least, or_false] at q <;> omega)) (fun c k a q => by simp only [S_c_X11_least, or_false] at q; omega) h7, trivial⟩
theorem sy_22 {v : Int32} {u : Int32} {t : Int32} {M M1 M2 : mM} {r1 r2 : Int32} (h : RY M.1) (hD0 : InvD M) (hD : InvD M1) (hD2 : InvD M2) (hF1 : FR S_c_X11_farthest M M1) (hs1 : SP_X11_farthest v u t M r1 M1) (hF2 : FR S_c_X12_farthest M1 M2) (hs2 : SP_X12_farthest v u t M1 r2 M2) : RY M2.1 ∧ True := by
  have hx := (st_22 h.1 hD0 hF1 hs1 hF2 hs2).1
  have s1 : cC S_c_X11_farthest := fun c k q => by simp only [S_c_X11_farthest, or_false] at q; omega
  have s2 : cD S_c_X12_farthest := fun c k q => by simp only [S_c_X12_farthest, or_false] at q; omega
  have c1 : ∀ (c : rf) (k : Nat), c.1 = 12 ∨ 50 ≤ c.1 → M1.1 c k = M.1 c k := fun c k a => hF1 c k (fun q => s1 c k q a)
  have c2 : ∀ (c : rf) (k : Nat), ¬ (c.1 = 12 ∨ 50 ≤ c.1) → M2.1 c k = M1.1 c k := fun c k a => hF2 c k (fun q => a (s2 c k q))
  have e50 : M1.1 (50, 0, 0) = M.1 (50, 0, 0) := funext fun k => c1 _ _ (by simp)
  have hR : RW 0 M.1 (M1.1 (50, 0, 0)) := by rw [e50]; exact h.2.2.1
  have hu : (M1.1 (12, 0, 0) 7).toInt = -1 := by rw [c1 _ _ (by simp)]; exact h.2.1
  have h7 : (M2.1 (12, 0, 0) 7).toInt = -1 := by rw [hF2 (12, 0, 0) 7 (fun q => by simp only [S_c_X12_farthest, or_false] at q; omega)]; exact hu
  exact ⟨RY_fr h hF1 hF2 s1 s2 hx hD2.2.1 hD2.2.2.1 (fun c k a b q => by unfold wR at a; simp only [S_c_X11_farthest, or_false] at q; omega) (fun c k a q => by rcases a with rfl | rfl | ⟨rfl, rfl⟩ | a | a | a <;> (simp only [S_c_X12_farthest, or_false] at q <;> omega)) (fun c k a q => by simp only [S_c_X11_farthest, or_false] at q; omega) h7, trivial⟩
theorem sy_23 {v : Int32} {u : Int32} {t : Int32} {s : Int32} {M M1 M2 : mM} {r1 r2 : Int32} (h : RY M.1) (hD0 : InvD M) (hD : InvD M1) (hD2 : InvD M2) (hF1 : FR S_c_X11_spots M M1) (hs1 : SP_X11_spots v u t s M r1 M1) (hF2 : FR S_c_X12_spots M1 M2) (hs2 : SP_X12_spots v u t s M1 r2 M2) : RY M2.1 ∧ True := by
  have hx := (st_23 h.1 hD0 hF1 hs1 hF2 hs2).1
  have s1 : cC S_c_X11_spots := fun c k q => by simp only [S_c_X11_spots, or_false] at q; omega
  have s2 : cD S_c_X12_spots := fun c k q => by simp only [S_c_X12_spots, or_false] at q; omega
  have c1 : ∀ (c : rf) (k : Nat), c.1 = 12 ∨ 50 ≤ c.1 → M1.1 c k = M.1 c k := fun c k a => hF1 c k (fun q => s1 c k q a)
  have c2 : ∀ (c : rf) (k : Nat), ¬ (c.1 = 12 ∨ 50 ≤ c.1) → M2.1 c k = M1.1 c k := fun c k a => hF2 c k (fun q => a (s2 c k q))
  have e50 : M1.1 (50, 0, 0) = M.1 (50, 0, 0) := funext fun k => c1 _ _ (by simp)
  have hR : RW 0 M.1 (M1.1 (50, 0, 0)) := by rw [e50]; exact h.2.2.1
  have hu : (M1.1 (12, 0, 0) 7).toInt = -1 := by rw [c1 _ _ (by simp)]; exact h.2.1
  have h7 : (M2.1 (12, 0, 0) 7).toInt = -1 := USP_X12_spots hs2 hu
  exact ⟨RY_fr h hF1 hF2 s1 s2 hx hD2.2.1 hD2.2.2.1 (fun c k a b q => by unfold wR at a; simp only [S_c_X11_spots, or_false] at q; omega) (fun c k a q => by rcases a with rfl | rfl | ⟨rfl, rfl⟩ | a | a | a <;> (simp only [S_c_X12_spots, or_false] at q <;> omega)) (fun c k a q => by simp only [S_c_X11_spots, or_false] at q; omega) h7, trivial⟩
theorem sy_24 {v : Int32} {M M1 M2 : mM} {r1 r2 : Int32} (h : RY M.1) (hD0 : InvD M) (hD : InvD M1) (hD2 : InvD M2) (hF1 : FR S_c_X11_tenths M M1) (hs1 : SP_X11_tenths v M r1 M1) (hF2 : FR S_c_X12_tenths M1 M2) (hs2 : SP_X12_tenths v M1 r2 M2) : RY M2.1 ∧ r1 = r2 := by
  have hx := (st_24 h.1 hD0 hF1 hs1 hF2 hs2).1
  have s1 : cC S_c_X11_tenths := fun c k q => by simp only [S_c_X11_tenths, or_false] at q; omega
  have s2 : cD S_c_X12_tenths := fun c k q => by simp only [S_c_X12_tenths, or_false] at q; omega
  have c1 : ∀ (c : rf) (k : Nat), c.1 = 12 ∨ 50 ≤ c.1 → M1.1 c k = M.1 c k := fun c k a => hF1 c k (fun q => s1 c k q a)
  have c2 : ∀ (c : rf) (k : Nat), ¬ (c.1 = 12 ∨ 50 ≤ c.1) → M2.1 c k = M1.1 c k := fun c k a => hF2 c k (fun q => a (s2 c k q))
  have e50 : M1.1 (50, 0, 0) = M.1 (50, 0, 0) := funext fun k => c1 _ _ (by simp)
  have hR : RW 0 M.1 (M1.1 (50, 0, 0)) := by rw [e50]; exact h.2.2.1
  have hu : (M1.1 (12, 0, 0) 7).toInt = -1 := by rw [c1 _ _ (by simp)]; exact h.2.1
  have h7 : (M2.1 (12, 0, 0) 7).toInt = -1 := by rw [hF2 (12, 0, 0) 7 (fun q => by simp only [S_c_X12_tenths, or_false] at q; omega)]; exact hu
  have B := cb_24 hs1 hs2 hR hD hu
  exact ⟨RY_of h hF1 hF2 s1 s2 hx hD2.2.1 hD2.2.2.1 h7 B.1 (Or.inl ⟨hF2 _ _ (fun q => by simp only [S_c_X12_tenths, or_false] at q; omega), fun c k a b q => by unfold wR at a; simp only [S_c_X11_tenths, or_false] at q; omega, fun k q => by simp only [S_c_X12_tenths, or_false] at q; omega⟩) (SHR_keep h.2.2.2.2 (fun c k a => hF1 c k (fun q => by simp only [S_c_X11_tenths, or_false] at q; omega)) (fun c k a => by rw [hF2 c k (fun q => by simp only [S_c_X12_tenths, or_false] at q; omega), c1 c k (by omega)])), B.2⟩
theorem sy_25 {v : Int32} {u : Int32} {t : Int32} {M M1 M2 : mM} {r1 r2 : Int32} (h : RY M.1) (hD0 : InvD M) (hD : InvD M1) (hD2 : InvD M2) (hF1 : FR S_c_X11_way M M1) (hs1 : SP_X11_way v u t M r1 M1) (hF2 : FR S_c_X12_way M1 M2) (hs2 : SP_X12_way v u t M1 r2 M2) : RY M2.1 ∧ True := by
  have hx := (st_25 h.1 hD0 hF1 hs1 hF2 hs2).1
  have s1 : cC S_c_X11_way := fun c k q => by simp only [S_c_X11_way, or_false] at q; omega
  have s2 : cD S_c_X12_way := fun c k q => by simp only [S_c_X12_way, or_false] at q; omega
  have c1 : ∀ (c : rf) (k : Nat), c.1 = 12 ∨ 50 ≤ c.1 → M1.1 c k = M.1 c k := fun c k a => hF1 c k (fun q => s1 c k q a)
  have c2 : ∀ (c : rf) (k : Nat), ¬ (c.1 = 12 ∨ 50 ≤ c.1) → M2.1 c k = M1.1 c k := fun c k a => hF2 c k (fun q => a (s2 c k q))
  have e50 : M1.1 (50, 0, 0) = M.1 (50, 0, 0) := funext fun k => c1 _ _ (by simp)
  have hR : RW 0 M.1 (M1.1 (50, 0, 0)) := by rw [e50]; exact h.2.2.1
  have hu : (M1.1 (12, 0, 0) 7).toInt = -1 := by rw [c1 _ _ (by simp)]; exact h.2.1
  have h7 : (M2.1 (12, 0, 0) 7).toInt = -1 := by rw [hF2 (12, 0, 0) 7 (fun q => by simp only [S_c_X12_way, or_false] at q; omega)]; exact hu
  exact ⟨RY_fr h hF1 hF2 s1 s2 hx hD2.2.1 hD2.2.2.1 (fun c k a b q => by unfold wR at a; simp only [S_c_X11_way, or_false] at q; omega) (fun c k a q => by rcases a with rfl | rfl | ⟨rfl, rfl⟩ | a | a | a <;> (simp only [S_c_X12_way, or_false] at q <;> omega)) (fun c k a q => by simp only [S_c_X11_way, or_false] at q; omega) h7, trivial⟩
theorem sy_26 {v : Int32} {M M1 M2 : mM} {r1 r2 : Int32} (h : RY M.1) (hD0 : InvD M) (hD : InvD M1) (hD2 : InvD M2) (hF1 : FR S_c_X11_safe M M1) (hs1 : SP_X11_safe v M r1 M1) (hF2 : FR S_c_X12_safe M1 M2) (hs2 : SP_X12_safe v M1 r2 M2) : RY M2.1 ∧ True := by
  have hx := (st_26 h.1 hD0 hF1 hs1 hF2 hs2).1
  have s1 : cC S_c_X11_safe := fun c k q => by simp only [S_c_X11_safe, or_false] at q; omega
  have s2 : cD S_c_X12_safe := fun c k q => by simp only [S_c_X12_safe, or_false] at q; omega
  have c1 : ∀ (c : rf) (k : Nat), c.1 = 12 ∨ 50 ≤ c.1 → M1.1 c k = M.1 c k := fun c k a => hF1 c k (fun q => s1 c k q a)
  have c2 : ∀ (c : rf) (k : Nat), ¬ (c.1 = 12 ∨ 50 ≤ c.1) → M2.1 c k = M1.1 c k := fun c k a => hF2 c k (fun q => a (s2 c k q))
  have e50 : M1.1 (50, 0, 0) = M.1 (50, 0, 0) := funext fun k => c1 _ _ (by simp)
  have hR : RW 0 M.1 (M1.1 (50, 0, 0)) := by rw [e50]; exact h.2.2.1
  have hu : (M1.1 (12, 0, 0) 7).toInt = -1 := by rw [c1 _ _ (by simp)]; exact h.2.1
  have h7 : (M2.1 (12, 0, 0) 7).toInt = -1 := by rw [hF2 (12, 0, 0) 7 (fun q => by simp only [S_c_X12_safe, or_false] at q; omega)]; exact hu
  exact ⟨RY_fr h hF1 hF2 s1 s2 hx hD2.2.1 hD2.2.2.1 (fun c k a b q => by unfold wR at a; simp only [S_c_X11_safe, or_false] at q; omega) (fun c k a q => by rcases a with rfl | rfl | ⟨rfl, rfl⟩ | a | a | a <;> (simp only [S_c_X12_safe, or_false] at q <;> omega)) (fun c k a q => by simp only [S_c_X11_safe, or_false] at q; omega) h7, trivial⟩
theorem sy_27 {v : Int32} {u : Int32} {t : Int32} {M M1 M2 : mM} {r1 r2 : Int32} (h : RY M.1) (hD0 : InvD M) (hD : InvD M1) (hD2 : InvD M2) (hF1 : FR S_c_X11_lesson M M1) (hs1 : SP_X11_lesson v u t M r1 M1) (hF2 : FR S_c_X12_lesson M1 M2) (hs2 : SP_X12_lesson v u t M1 r2 M2) : RY M2.1 ∧ r1 = r2 := by
  have hx := (st_27 h.1 hD0 hF1 hs1 hF2 hs2).1
  have s1 : cC S_c_X11_lesson := fun c k q => by simp only [S_c_X11_lesson, or_false] at q; omega
  have s2 : cD S_c_X12_lesson := fun c k q => by simp only [S_c_X12_lesson, or_false] at q; omega
  have c1 : ∀ (c : rf) (k : Nat), c.1 = 12 ∨ 50 ≤ c.1 → M1.1 c k = M.1 c k := fun c k a => hF1 c k (fun q => s1 c k q a)
  have c2 : ∀ (c : rf) (k : Nat), ¬ (c.1 = 12 ∨ 50 ≤ c.1) → M2.1 c k = M1.1 c k := fun c k a => hF2 c k (fun q => a (s2 c k q))
  have e50 : M1.1 (50, 0, 0) = M.1 (50, 0, 0) := funext fun k => c1 _ _ (by simp)
  have hR : RW 0 M.1 (M1.1 (50, 0, 0)) := by rw [e50]; exact h.2.2.1
  have hu : (M1.1 (12, 0, 0) 7).toInt = -1 := by rw [c1 _ _ (by simp)]; exact h.2.1
  have h7 : (M2.1 (12, 0, 0) 7).toInt = -1 := by rw [hF2 (12, 0, 0) 7 (fun q => by simp only [S_c_X12_lesson, or_false] at q; omega)]; exact hu
  have B := cb_27 hs1 hs2 hR hD hu (show M.1 (3, 0, 0) 3 = M1.1 (50, 0, 0) 3 from ((RXzg h.1 (d := (50, 0, 0)) (j := 3) (by unfold PRz; simp) (by simp)).trans (c1 _ _ (by simp)).symm))
  exact ⟨RY_of h hF1 hF2 s1 s2 hx hD2.2.1 hD2.2.2.1 h7 B.1 (Or.inl ⟨hF2 _ _ (fun q => by simp only [S_c_X12_lesson, or_false] at q; omega), fun c k a b q => by unfold wR at a; simp only [S_c_X11_lesson, or_false] at q; omega, fun k q => by simp only [S_c_X12_lesson, or_false] at q; omega⟩) (SHR_keep h.2.2.2.2 (fun c k a => hF1 c k (fun q => by simp only [S_c_X11_lesson, or_false] at q; omega)) (fun c k a => by rw [hF2 c k (fun q => by simp only [S_c_X12_lesson, or_false] at q; omega), c1 c k (by omega)])), B.2⟩
theorem sy_28 {v : Int32} {u : Int32} {t : Int32} {M M1 M2 : mM} {r1 r2 : Int32} (h : RY M.1) (hD0 : InvD M) (hD : InvD M1) (hD2 : InvD M2) (hF1 : FR S_c_X11_learn M M1) (hs1 : SP_X11_learn v u t M r1 M1) (hF2 : FR S_c_X12_learn M1 M2) (hs2 : SP_X12_learn v u t M1 r2 M2) : RY M2.1 ∧ True := by
  have hx := (st_28 h.1 hD0 hF1 hs1 hF2 hs2).1
  have s1 : cC S_c_X11_learn := fun c k q => by simp only [S_c_X11_learn, or_false] at q; omega
  have s2 : cD S_c_X12_learn := fun c k q => by simp only [S_c_X12_learn, or_false] at q; omega
  have c1 : ∀ (c : rf) (k : Nat), c.1 = 12 ∨ 50 ≤ c.1 → M1.1 c k = M.1 c k := fun c k a => hF1 c k (fun q => s1 c k q a)
  have c2 : ∀ (c : rf) (k : Nat), ¬ (c.1 = 12 ∨ 50 ≤ c.1) → M2.1 c k = M1.1 c k := fun c k a => hF2 c k (fun q => a (s2 c k q))
  have e50 : M1.1 (50, 0, 0) = M.1 (50, 0, 0) := funext fun k => c1 _ _ (by simp)
  have hR : RW 0 M.1 (M1.1 (50, 0, 0)) := by rw [e50]; exact h.2.2.1
  have hu : (M1.1 (12, 0, 0) 7).toInt = -1 := by rw [c1 _ _ (by simp)]; exact h.2.1
  have h7 : (M2.1 (12, 0, 0) 7).toInt = -1 := by rw [hF2 (12, 0, 0) 7 (fun q => by simp only [S_c_X12_learn, or_false] at q; omega)]; exact hu
  have hN : NW5 (M.1 (50, 0, 0)) := hD0.2.1
  have e2 : M2.1 (50, 0, 0) = M.1 (50, 0, 0) := funext fun k => by rw [hF2 _ _ (fun q => by simp only [S_c_X12_learn, or_false] at q; omega), c1 _ _ (by simp)]
  refine ⟨RY_of h hF1 hF2 s1 s2 hx hD2.2.1 hD2.2.2.1 h7 ?_ (Or.inl ⟨hF2 _ _ (fun q => by simp only [S_c_X12_learn, or_false] at q; omega), fun c k a b q => by unfold wR at a; simp only [S_c_X11_learn, or_false] at q; omega, fun k q => by simp only [S_c_X12_learn, or_false] at q; omega⟩) (SHR_keep h.2.2.2.2 (fun c k a => hF1 c k (fun q => by simp only [S_c_X11_learn, or_false] at q; omega)) (fun c k a => by rw [hF2 c k (fun q => by simp only [S_c_X12_learn, or_false] at q; omega), c1 c k (by omega)])), trivial⟩
  rw [e2]
  exact RW_rest h.2.2.1 hN (fun c k a b => hF1 c k (fun q => by unfold wR at a; simp only [S_c_X11_learn, or_false] at q; omega)) (fun _ _ _ => rfl) (LER_keep h.2.2.1.2.1 (n345_b hN).1.2 (fun r k hr => hF1 _ _ (fun q => by simp only [S_c_X11_learn, or_false] at q; omega)) (fun _ _ => rfl)) (TAR_keep h.2.2.1.2.2.1 (n345_b hN).2.1.2 (fun k => hF1 _ _ (fun q => by simp only [S_c_X11_learn, or_false] at q; omega)) (fun _ _ => rfl)) (WTR_keep h.2.2.1.2.2.2 (n345_b hN).2.2.2 (fun k => hF1 _ _ (fun q => by simp only [S_c_X11_learn, or_false] at q; omega)) (fun _ _ => rfl))
theorem sy_29 {v : Int32} {u : Int32} {t : Int32} {s : Int32} {M M1 M2 : mM} {r1 r2 : Int32} (h : RY M.1) (hD0 : InvD M) (hD : InvD M1) (hD2 : InvD M2) (hF1 : FR S_c_X11_posts M M1) (hs1 : SP_X11_posts v u t s M r1 M1) (hF2 : FR S_c_X12_posts M1 M2) (hs2 : SP_X12_posts v u t s M1 r2 M2) : RY M2.1 ∧ True := by
  have hx := (st_29 h.1 hD0 hF1 hs1 hF2 hs2).1
  have s1 : cC S_c_X11_posts := fun c k q => by simp only [S_c_X11_posts, or_false] at q; omega
  have s2 : cD S_c_X12_posts := fun c k q => by simp only [S_c_X12_posts, or_false] at q; omega
  have c1 : ∀ (c : rf) (k : Nat), c.1 = 12 ∨ 50 ≤ c.1 → M1.1 c k = M.1 c k := fun c k a => hF1 c k (fun q => s1 c k q a)
  have c2 : ∀ (c : rf) (k : Nat), ¬ (c.1 = 12 ∨ 50 ≤ c.1) → M2.1 c k = M1.1 c k := fun c k a => hF2 c k (fun q => a (s2 c k q))
  have e50 : M1.1 (50, 0, 0) = M.1 (50, 0, 0) := funext fun k => c1 _ _ (by simp)
  have hR : RW 0 M.1 (M1.1 (50, 0, 0)) := by rw [e50]; exact h.2.2.1
  have hu : (M1.1 (12, 0, 0) 7).toInt = -1 := by rw [c1 _ _ (by simp)]; exact h.2.1
  have h7 : (M2.1 (12, 0, 0) 7).toInt = -1 := USP_X12_posts hs2 hu
  exact ⟨RY_fr h hF1 hF2 s1 s2 hx hD2.2.1 hD2.2.2.1 (fun c k a b q => by unfold wR at a; simp only [S_c_X11_posts, or_false] at q; omega) (fun c k a q => by rcases a with rfl | rfl | ⟨rfl, rfl⟩ | a | a | a <;> (simp only [S_c_X12_posts, or_false] at q <;> omega)) (fun c k a q => by simp only [S_c_X11_posts, or_false] at q; omega) h7, trivial⟩
theorem sy_30 {v : Int32} {u : Int32} {t : Int32} {M M1 M2 : mM} {r1 r2 : Int32} (h : RY M.1) (hD0 : InvD M) (hD : InvD M1) (hD2 : InvD M2) (hF1 : FR S_c_X11_voice M M1) (hs1 : SP_X11_voice v u t M r1 M1) (hF2 : FR S_c_X12_voice M1 M2) (hs2 : SP_X12_voice v u t M1 r2 M2) : RY M2.1 ∧ True := by
  have hx := (st_30 h.1 hD0 hF1 hs1 hF2 hs2).1
  have s1 : cC S_c_X11_voice := fun c k q => by simp only [S_c_X11_voice, or_false] at q; omega
  have s2 : cD S_c_X12_voice := fun c k q => by simp only [S_c_X12_voice, or_false] at q; omega
  have c1 : ∀ (c : rf) (k : Nat), c.1 = 12 ∨ 50 ≤ c.1 → M1.1 c k = M.1 c k := fun c k a => hF1 c k (fun q => s1 c k q a)
  have c2 : ∀ (c : rf) (k : Nat), ¬ (c.1 = 12 ∨ 50 ≤ c.1) → M2.1 c k = M1.1 c k := fun c k a => hF2 c k (fun q => a (s2 c k q))
  have e50 : M1.1 (50, 0, 0) = M.1 (50, 0, 0) := funext fun k => c1 _ _ (by simp)
  have hR : RW 0 M.1 (M1.1 (50, 0, 0)) := by rw [e50]; exact h.2.2.1
  have hu : (M1.1 (12, 0, 0) 7).toInt = -1 := by rw [c1 _ _ (by simp)]; exact h.2.1
  have h7 : (M2.1 (12, 0, 0) 7).toInt = -1 := by rw [hF2 (12, 0, 0) 7 (fun q => by simp only [S_c_X12_voice, or_false] at q; omega)]; exact hu
  exact ⟨RY_fr h hF1 hF2 s1 s2 hx hD2.2.1 hD2.2.2.1 (fun c k a b q => by unfold wR at a; simp only [S_c_X11_voice, or_false] at q; omega) (fun c k a q => by rcases a with rfl | rfl | ⟨rfl, rfl⟩ | a | a | a <;> (simp only [S_c_X12_voice, or_false] at q <;> omega)) (fun c k a q => by simp only [S_c_X11_voice, or_false] at q; omega) h7, trivial⟩
theorem sy_31 {v : Int32} {M M1 M2 : mM} {r1 r2 : Int32} (h : RY M.1) (hD0 : InvD M) (hD : InvD M1) (hD2 : InvD M2) (hF1 : FR S_c_X11_trace M M1) (hs1 : SP_X11_trace v M r1 M1) (hF2 : FR S_c_X12_trace M1 M2) (hs2 : SP_X12_trace v M1 r2 M2) : RY M2.1 ∧ True := by
  have hx := (st_31 h.1 hD0 hF1 hs1 hF2 hs2).1
  have s1 : cC S_c_X11_trace := fun c k q => by simp only [S_c_X11_trace, or_false] at q; omega
  have s2 : cD S_c_X12_trace := fun c k q => by simp only [S_c_X12_trace, or_false] at q; omega
  have c1 : ∀ (c : rf) (k : Nat), c.1 = 12 ∨ 50 ≤ c.1 → M1.1 c k = M.1 c k := fun c k a => hF1 c k (fun q => s1 c k q a)
  have c2 : ∀ (c : rf) (k : Nat), ¬ (c.1 = 12 ∨ 50 ≤ c.1) → M2.1 c k = M1.1 c k := fun c k a => hF2 c k (fun q => a (s2 c k q))
  have e50 : M1.1 (50, 0, 0) = M.1 (50, 0, 0) := funext fun k => c1 _ _ (by simp)
  have hR : RW 0 M.1 (M1.1 (50, 0, 0)) := by rw [e50]; exact h.2.2.1
  have hu : (M1.1 (12, 0, 0) 7).toInt = -1 := by rw [c1 _ _ (by simp)]; exact h.2.1
  have h7 : (M2.1 (12, 0, 0) 7).toInt = -1 := by rw [hF2 (12, 0, 0) 7 (fun q => by simp only [S_c_X12_trace, or_false] at q; omega)]; exact hu
  exact ⟨RY_fr h hF1 hF2 s1 s2 hx hD2.2.1 hD2.2.2.1 (fun c k a b q => by unfold wR at a; simp only [S_c_X11_trace, or_false] at q; omega) (fun c k a q => by rcases a with rfl | rfl | ⟨rfl, rfl⟩ | a | a | a <;> (simp only [S_c_X12_trace, or_false] at q <;> omega)) (fun c k a q => by simp only [S_c_X11_trace, or_false] at q; omega) h7, trivial⟩
theorem sy_32 {v : Int32} {u : Int32} {t : Int32} {M M1 M2 : mM} {r1 r2 : Int32} (h : RY M.1) (hD0 : InvD M) (hD : InvD M1) (hD2 : InvD M2) (hF1 : FR S_c_X11_sheet M M1) (hs1 : SP_X11_sheet v u t M r1 M1) (hF2 : FR S_c_X12_sheet M1 M2) (hs2 : SP_X12_sheet v u t M1 r2 M2) : RY M2.1 ∧ True := by
  have hx := (st_32 h.1 hD0 hF1 hs1 hF2 hs2).1
  have s1 : cC S_c_X11_sheet := fun c k q => by simp only [S_c_X11_sheet, or_false] at q; omega
  have s2 : cD S_c_X12_sheet := fun c k q => by simp only [S_c_X12_sheet, or_false] at q; omega
  have c1 : ∀ (c : rf) (k : Nat), c.1 = 12 ∨ 50 ≤ c.1 → M1.1 c k = M.1 c k := fun c k a => hF1 c k (fun q => s1 c k q a)
  have c2 : ∀ (c : rf) (k : Nat), ¬ (c.1 = 12 ∨ 50 ≤ c.1) → M2.1 c k = M1.1 c k := fun c k a => hF2 c k (fun q => a (s2 c k q))
  have e50 : M1.1 (50, 0, 0) = M.1 (50, 0, 0) := funext fun k => c1 _ _ (by simp)
  have hR : RW 0 M.1 (M1.1 (50, 0, 0)) := by rw [e50]; exact h.2.2.1
  have hu : (M1.1 (12, 0, 0) 7).toInt = -1 := by rw [c1 _ _ (by simp)]; exact h.2.1
  have h7 : (M2.1 (12, 0, 0) 7).toInt = -1 := by rw [hF2 (12, 0, 0) 7 (fun q => by simp only [S_c_X12_sheet, or_false] at q; omega)]; exact hu
  have e2 : M2.1 (50, 0, 0) = M.1 (50, 0, 0) := funext fun k => by rw [hF2 _ _ (fun q => by simp only [S_c_X12_sheet, or_false] at q; omega), c1 _ _ (by simp)]
  have hS : SHR M.1 M1.1 := SHR_keep h.2.2.2.2 (fun _ _ _ => rfl) (fun c k a => c1 c k (by omega))
  have hB : ∀ w, w < 4 → M1.1 (6, 0, w) 0 = M2.1 (66, 0, 0) w ∧ M1.1 (6, 0, w) 1 = M2.1 (67, 0, 0) w := fun w hw => ⟨by rw [← c2 _ _ (by simp)]; exact RXzg hx (Pz_6a hw) (by simp), by rw [← c2 _ _ (by simp)]; exact RXzg hx (Pz_6b hw) (by simp)⟩
  have sh := sh_32 hs1 hs2 hS hD hD2 hB
  refine ⟨RY_of h hF1 hF2 s1 s2 hx hD2.2.1 hD2.2.2.1 h7 ?_ (Or.inl ⟨hF2 _ _ (fun q => by simp only [S_c_X12_sheet, or_false] at q; omega), fun c k a b q => by unfold wR at a; simp only [S_c_X11_sheet, or_false] at q; omega, fun k q => by simp only [S_c_X12_sheet, or_false] at q; omega⟩) sh, trivial⟩
  rw [e2]
  exact RW_same h.2.2.1 hD0.2.1 (fun c k a b => hF1 c k (fun q => by unfold wR at a; simp only [S_c_X11_sheet, or_false] at q; omega))
theorem sy_33 {v : Int32} {u : Int32} {t : Int32} {M M1 M2 : mM} {r1 r2 : Int32} (h : RY M.1) (hD0 : InvD M) (hD : InvD M1) (hD2 : InvD M2) (hF1 : FR S_c_X11_put M M1) (hs1 : SP_X11_put v u t M r1 M1) (hF2 : FR S_c_X12_put M1 M2) (hs2 : SP_X12_put v u t M1 r2 M2) : RY M2.1 ∧ True := by
  have hx := (st_33 h.1 hD0 hF1 hs1 hF2 hs2).1
  have s1 : cC S_c_X11_put := fun c k q => by simp only [S_c_X11_put, or_false] at q; omega
  have s2 : cD S_c_X12_put := fun c k q => by simp only [S_c_X12_put, or_false] at q; omega
  have c1 : ∀ (c : rf) (k : Nat), c.1 = 12 ∨ 50 ≤ c.1 → M1.1 c k = M.1 c k := fun c k a => hF1 c k (fun q => s1 c k q a)
  have c2 : ∀ (c : rf) (k : Nat), ¬ (c.1 = 12 ∨ 50 ≤ c.1) → M2.1 c k = M1.1 c k := fun c k a => hF2 c k (fun q => a (s2 c k q))
  have e50 : M1.1 (50, 0, 0) = M.1 (50, 0, 0) := funext fun k => c1 _ _ (by simp)
  have hR : RW 0 M.1 (M1.1 (50, 0, 0)) := by rw [e50]; exact h.2.2.1
  have hu : (M1.1 (12, 0, 0) 7).toInt = -1 := by rw [c1 _ _ (by simp)]; exact h.2.1
  have h7 : (M2.1 (12, 0, 0) 7).toInt = -1 := by rw [hF2 (12, 0, 0) 7 (fun q => by simp only [S_c_X12_put, or_false] at q; omega)]; exact hu
  have e2 : M2.1 (50, 0, 0) = M.1 (50, 0, 0) := funext fun k => by rw [hF2 _ _ (fun q => by simp only [S_c_X12_put, or_false] at q; omega), c1 _ _ (by simp)]
  have hS : SHR M.1 M1.1 := SHR_keep h.2.2.2.2 (fun _ _ _ => rfl) (fun c k a => c1 c k (by omega))
  have sh := sh_33 hs1 hs2 hS hD
  refine ⟨RY_of h hF1 hF2 s1 s2 hx hD2.2.1 hD2.2.2.1 h7 ?_ (Or.inl ⟨hF2 _ _ (fun q => by simp only [S_c_X12_put, or_false] at q; omega), fun c k a b q => by unfold wR at a; simp only [S_c_X11_put, or_false] at q; omega, fun k q => by simp only [S_c_X12_put, or_false] at q; omega⟩) sh, trivial⟩
  rw [e2]
  exact RW_same h.2.2.1 hD0.2.1 (fun c k a b => hF1 c k (fun q => by unfold wR at a; simp only [S_c_X11_put, or_false] at q; omega))
theorem sy_34 {v : Int32} {u : Int32} {t : Int32} {s : Int32} {q : Int32} {M M1 M2 : mM} {r1 r2 : Int32} (h : RY M.1) (hD0 : InvD M) (hD : InvD M1) (hD2 : InvD M2) (hF1 : FR S_c_X11_move M M1) (hs1 : SP_X11_move v u t s q M r1 M1) (hF2 : FR S_c_X12_move M1 M2) (hs2 : SP_X12_move v u t s q M1 r2 M2) : RY M2.1 ∧ True := by
  have hx := (st_34 h.1 hD0 hF1 hs1 hF2 hs2).1
  have s1 : cC S_c_X11_move := fun c k q => by simp only [S_c_X11_move, or_false] at q; omega
  have s2 : cD S_c_X12_move := fun c k q => by simp only [S_c_X12_move, or_false] at q; omega
  have c1 : ∀ (c : rf) (k : Nat), c.1 = 12 ∨ 50 ≤ c.1 → M1.1 c k = M.1 c k := fun c k a => hF1 c k (fun q => s1 c k q a)
  have c2 : ∀ (c : rf) (k : Nat), ¬ (c.1 = 12 ∨ 50 ≤ c.1) → M2.1 c k = M1.1 c k := fun c k a => hF2 c k (fun q => a (s2 c k q))
  have e50 : M1.1 (50, 0, 0) = M.1 (50, 0, 0) := funext fun k => c1 _ _ (by simp)
  have hR : RW 0 M.1 (M1.1 (50, 0, 0)) := by rw [e50]; exact h.2.2.1
  have hu : (M1.1 (12, 0, 0) 7).toInt = -1 := by rw [c1 _ _ (by simp)]; exact h.2.1
  have h7 : (M2.1 (12, 0, 0) 7).toInt = -1 := by rw [hF2 (12, 0, 0) 7 (fun q => by simp only [S_c_X12_move, or_false] at q; omega)]; exact hu
  have e2 : M2.1 (50, 0, 0) = M.1 (50, 0, 0) := funext fun k => by rw [hF2 _ _ (fun q => by simp only [S_c_X12_move, or_false] at q; omega), c1 _ _ (by simp)]
  have hS : SHR M.1 M1.1 := SHR_keep h.2.2.2.2 (fun _ _ _ => rfl) (fun c k a => c1 c k (by omega))
  have sh := sh_34 hs1 hs2 hS hD
  refine ⟨RY_of h hF1 hF2 s1 s2 hx hD2.2.1 hD2.2.2.1 h7 ?_ (Or.inl ⟨hF2 _ _ (fun q => by simp only [S_c_X12_move, or_false] at q; omega), fun c k a b q => by unfold wR at a; simp only [S_c_X11_move, or_false] at q; omega, fun k q => by simp only [S_c_X12_move, or_false] at q; omega⟩) sh, trivial⟩
  rw [e2]
  exact RW_same h.2.2.1 hD0.2.1 (fun c k a b => hF1 c k (fun q => by unfold wR at a; simp only [S_c_X11_move, or_false] at q; omega))
theorem sy_35 {M M1 M2 : mM} {r1 r2 : Int32} (h : RY M.1) (hD0 : InvD M) (hD : InvD M1) (hD2 : InvD M2) (hF1 : FR S_c_X11_image M M1) (hs1 : SP_X11_image M r1 M1) (hF2 : FR S_c_X12_image M1 M2) (hs2 : SP_X12_image M1 r2 M2) : RY M2.1 ∧ r1 = r2 := by
  have hx := (st_35 h.1 hD0 hF1 hs1 hF2 hs2).1
  have s1 : cC S_c_X11_image := fun c k q => by simp only [S_c_X11_image, or_false] at q; omega
  have s2 : cD S_c_X12_image := fun c k q => by simp only [S_c_X12_image, or_false] at q; omega
  have c1 : ∀ (c : rf) (k : Nat), c.1 = 12 ∨ 50 ≤ c.1 → M1.1 c k = M.1 c k := fun c k a => hF1 c k (fun q => s1 c k q a)
  have c2 : ∀ (c : rf) (k : Nat), ¬ (c.1 = 12 ∨ 50 ≤ c.1) → M2.1 c k = M1.1 c k := fun c k a => hF2 c k (fun q => a (s2 c k q))
  have e50 : M1.1 (50, 0, 0) = M.1 (50, 0, 0) := funext fun k => c1 _ _ (by simp)
  have hR : RW 0 M.1 (M1.1 (50, 0, 0)) := by rw [e50]; exact h.2.2.1
  have hu : (M1.1 (12, 0, 0) 7).toInt = -1 := by rw [c1 _ _ (by simp)]; exact h.2.1
  have h7 : (M2.1 (12, 0, 0) 7).toInt = -1 := by rw [hF2 (12, 0, 0) 7 (fun q => by simp only [S_c_X12_image, or_false] at q; omega)]; exact hu
  have B := cb_35 hs1 hs2 hR hD (show M.1 (5, 0, 0) 1 = M1.1 (50, 0, 0) 4 from ((RXzg h.1 (d := (50, 0, 0)) (j := 4) (by unfold PRz; simp) (by simp)).trans (c1 _ _ (by simp)).symm)) (show M.1 (5, 0, 1) 1 = M1.1 (50, 0, 0) 5 from ((RXzg h.1 (d := (50, 0, 0)) (j := 5) (by unfold PRz; simp) (by simp)).trans (c1 _ _ (by simp)).symm)) (show M.1 (11, 0, 0) 8 = M1.1 (12, 0, 0) 3 from (RXzg h.1 (d := (12, 0, 0)) (j := 3) (by unfold PRz; simp) (by simp)).trans (c1 _ _ (by simp)).symm)
  exact ⟨RY_of h hF1 hF2 s1 s2 hx hD2.2.1 hD2.2.2.1 h7 B.1 (Or.inr (fun _ => B.2.1)) (SHR_keep h.2.2.2.2 (fun c k a => hF1 c k (fun q => by simp only [S_c_X11_image, or_false] at q; omega)) (fun c k a => by rw [hF2 c k (fun q => by simp only [S_c_X12_image, or_false] at q; omega), c1 c k (by omega)])), B.2.2⟩
theorem sy_36 {M M1 M2 : mM} {r1 r2 : Int32} (h : RY M.1) (hD0 : InvD M) (hD : InvD M1) (hD2 : InvD M2) (hF1 : FR S_c_X11_restore M M1) (hs1 : SP_X11_restore M r1 M1) (hF2 : FR S_c_X12_restore M1 M2) (hs2 : SP_X12_restore M1 r2 M2) : RY M2.1 ∧ r1 = r2 := by
  have hx := (st_36 h.1 hD0 hF1 hs1 hF2 hs2).1
  have s1 : cC S_c_X11_restore := fun c k q => by simp only [S_c_X11_restore, or_false] at q; omega
  have s2 : cD S_c_X12_restore := fun c k q => by simp only [S_c_X12_restore, or_false] at q; omega
  have c1 : ∀ (c : rf) (k : Nat), c.1 = 12 ∨ 50 ≤ c.1 → M1.1 c k = M.1 c k := fun c k a => hF1 c k (fun q => s1 c k q a)
  have c2 : ∀ (c : rf) (k : Nat), ¬ (c.1 = 12 ∨ 50 ≤ c.1) → M2.1 c k = M1.1 c k := fun c k a => hF2 c k (fun q => a (s2 c k q))
  have e50 : M1.1 (50, 0, 0) = M.1 (50, 0, 0) := funext fun k => c1 _ _ (by simp)
  have hR : RW 0 M.1 (M1.1 (50, 0, 0)) := by rw [e50]; exact h.2.2.1
  have hu : (M1.1 (12, 0, 0) 7).toInt = -1 := by rw [c1 _ _ (by simp)]; exact h.2.1
  have h7 : (M2.1 (12, 0, 0) 7).toInt = -1 := by rw [hF2 (12, 0, 0) 7 (fun q => by simp only [S_c_X12_restore, or_false] at q; omega)]; exact hu
  have e51 : M1.1 (51, 0, 0) = M.1 (51, 0, 0) := funext fun k => c1 _ _ (by simp)
  have hI : ¬ (M1.1 (12, 0, 0) 3).toInt = 0 → RW 1 M.1 (M1.1 (51, 0, 0)) ∧ M.1 (5, 1, 0) 1 = M1.1 (51, 0, 0) 4 ∧ M.1 (5, 1, 1) 1 = M1.1 (51, 0, 0) 5 := fun q => by
    rw [c1 (12, 0, 0) 3 (by simp)] at q
    rw [e51]
    exact ⟨h.2.2.2.1 q, h.1 _ _ _ _ (by unfold PRz; simp) (fun _ => q), h.1 _ _ _ _ (by unfold PRz; simp) (fun _ => q)⟩
  have B := cb_36 hs1 hs2 hR hD (show M.1 (11, 0, 0) 8 = M1.1 (12, 0, 0) 3 from (RXzg h.1 (d := (12, 0, 0)) (j := 3) (by unfold PRz; simp) (by simp)).trans (c1 _ _ (by simp)).symm) hI
  have i3 : M2.1 (12, 0, 0) 3 = M1.1 (12, 0, 0) 3 := hF2 _ _ (fun q => by simp only [S_c_X12_restore, or_false] at q; omega)
  exact ⟨RY_of h hF1 hF2 s1 s2 hx hD2.2.1 hD2.2.2.1 h7 B.1 (Or.inr (fun q => B.2.1 (by rw [← i3]; exact q))) (SHR_keep h.2.2.2.2 (fun c k a => hF1 c k (fun q => by simp only [S_c_X11_restore, or_false] at q; omega)) (fun c k a => by rw [hF2 c k (fun q => by simp only [S_c_X12_restore, or_false] at q; omega), c1 c k (by omega)])), B.2.2⟩
theorem sy_37 {v : Int32} {M M1 M2 : mM} {r1 r2 : Int32} (h : RY M.1) (hD0 : InvD M) (hD : InvD M1) (hD2 : InvD M2) (hF1 : FR S_c_X11_tell M M1) (hs1 : SP_X11_tell v M r1 M1) (hF2 : FR S_c_X12_tell M1 M2) (hs2 : SP_X12_tell v M1 r2 M2) : RY M2.1 ∧ r1 = r2 := by
  have hx := (st_37 h.1 hD0 hF1 hs1 hF2 hs2).1
  have s1 : cC S_c_X11_tell := fun c k q => by simp only [S_c_X11_tell, or_false] at q; omega
  have s2 : cD S_c_X12_tell := fun c k q => by simp only [S_c_X12_tell, or_false] at q; omega
  have c1 : ∀ (c : rf) (k : Nat), c.1 = 12 ∨ 50 ≤ c.1 → M1.1 c k = M.1 c k := fun c k a => hF1 c k (fun q => s1 c k q a)
  have c2 : ∀ (c : rf) (k : Nat), ¬ (c.1 = 12 ∨ 50 ≤ c.1) → M2.1 c k = M1.1 c k := fun c k a => hF2 c k (fun q => a (s2 c k q))
  have e50 : M1.1 (50, 0, 0) = M.1 (50, 0, 0) := funext fun k => c1 _ _ (by simp)
  have hR : RW 0 M.1 (M1.1 (50, 0, 0)) := by rw [e50]; exact h.2.2.1
  have hu : (M1.1 (12, 0, 0) 7).toInt = -1 := by rw [c1 _ _ (by simp)]; exact h.2.1
  have h7 : (M2.1 (12, 0, 0) 7).toInt = -1 := by rw [hF2 (12, 0, 0) 7 (fun q => by simp only [S_c_X12_tell, or_false] at q; omega)]; exact hu
  have B := cb_37 hs1 hs2 hR hD hu (show M.1 (5, 0, 1) 1 = M1.1 (50, 0, 0) 5 from ((RXzg h.1 (d := (50, 0, 0)) (j := 5) (by unfold PRz; simp) (by simp)).trans (c1 _ _ (by simp)).symm))
  exact ⟨RY_of h hF1 hF2 s1 s2 hx hD2.2.1 hD2.2.2.1 h7 B.1 (Or.inl ⟨hF2 _ _ (fun q => by simp only [S_c_X12_tell, or_false] at q; omega), fun c k a b q => by unfold wR at a; simp only [S_c_X11_tell, or_false] at q; omega, fun k q => by simp only [S_c_X12_tell, or_false] at q; omega⟩) (SHR_keep h.2.2.2.2 (fun c k a => hF1 c k (fun q => by simp only [S_c_X11_tell, or_false] at q; omega)) (fun c k a => by rw [hF2 c k (fun q => by simp only [S_c_X12_tell, or_false] at q; omega), c1 c k (by omega)])), B.2⟩
theorem sy_38 {v : Int32} {M M1 M2 : mM} {r1 r2 : Int32} (h : RY M.1) (hD0 : InvD M) (hD : InvD M1) (hD2 : InvD M2) (hF1 : FR S_c_X11_check M M1) (hs1 : SP_X11_check v M r1 M1) (hF2 : FR S_c_X12_check M1 M2) (hs2 : SP_X12_check v M1 r2 M2) : RY M2.1 ∧ r1 = r2 := by
  have hx := (st_38 h.1 hD0 hF1 hs1 hF2 hs2).1
  have s1 : cC S_c_X11_check := fun c k q => by simp only [S_c_X11_check, or_false] at q; omega
  have s2 : cD S_c_X12_check := fun c k q => by simp only [S_c_X12_check, or_false] at q; omega
  have c1 : ∀ (c : rf) (k : Nat), c.1 = 12 ∨ 50 ≤ c.1 → M1.1 c k = M.1 c k := fun c k a => hF1 c k (fun q => s1 c k q a)
  have c2 : ∀ (c : rf) (k : Nat), ¬ (c.1 = 12 ∨ 50 ≤ c.1) → M2.1 c k = M1.1 c k := fun c k a => hF2 c k (fun q => a (s2 c k q))
  have e50 : M1.1 (50, 0, 0) = M.1 (50, 0, 0) := funext fun k => c1 _ _ (by simp)
  have hR : RW 0 M.1 (M1.1 (50, 0, 0)) := by rw [e50]; exact h.2.2.1
  have hu : (M1.1 (12, 0, 0) 7).toInt = -1 := by rw [c1 _ _ (by simp)]; exact h.2.1
  have h7 : (M2.1 (12, 0, 0) 7).toInt = -1 := by rw [hF2 (12, 0, 0) 7 (fun q => by simp only [S_c_X12_check, or_false] at q; omega)]; exact hu
  have B := cb_38 hs1 hs2 hR hD hu (show M.1 (5, 0, 0) 1 = M1.1 (50, 0, 0) 4 from ((RXzg h.1 (d := (50, 0, 0)) (j := 4) (by unfold PRz; simp) (by simp)).trans (c1 _ _ (by simp)).symm)) (show M.1 (5, 0, 1) 1 = M1.1 (50, 0, 0) 5 from ((RXzg h.1 (d := (50, 0, 0)) (j := 5) (by unfold PRz; simp) (by simp)).trans (c1 _ _ (by simp)).symm))
  exact ⟨RY_of h hF1 hF2 s1 s2 hx hD2.2.1 hD2.2.2.1 h7 B.1 (Or.inl ⟨hF2 _ _ (fun q => by simp only [S_c_X12_check, or_false] at q; omega), fun c k a b q => by unfold wR at a; simp only [S_c_X11_check, or_false] at q; omega, fun k q => by simp only [S_c_X12_check, or_false] at q; omega⟩) (SHR_keep h.2.2.2.2 (fun c k a => hF1 c k (fun q => by simp only [S_c_X11_check, or_false] at q; omega)) (fun c k a => by rw [hF2 c k (fun q => by simp only [S_c_X12_check, or_false] at q; omega), c1 c k (by omega)])), B.2⟩
theorem sy_39 {v : Int32} {M M1 M2 : mM} {r1 r2 : Int32} (h : RY M.1) (hD0 : InvD M) (hD : InvD M1) (hD2 : InvD M2) (hF1 : FR S_c_X11_count M M1) (hs1 : SP_X11_count v M r1 M1) (hF2 : FR S_c_X12_count M1 M2) (hs2 : SP_X12_count v M1 r2 M2) : RY M2.1 ∧ True := by
  have hx := (st_39 h.1 hD0 hF1 hs1 hF2 hs2).1
  have s1 : cC S_c_X11_count := fun c k q => by simp only [S_c_X11_count, or_false] at q; omega
  have s2 : cD S_c_X12_count := fun c k q => by simp only [S_c_X12_count, or_false] at q; omega
  have c1 : ∀ (c : rf) (k : Nat), c.1 = 12 ∨ 50 ≤ c.1 → M1.1 c k = M.1 c k := fun c k a => hF1 c k (fun q => s1 c k q a)
  have c2 : ∀ (c : rf) (k : Nat), ¬ (c.1 = 12 ∨ 50 ≤ c.1) → M2.1 c k = M1.1 c k := fun c k a => hF2 c k (fun q => a (s2 c k q))
  have e50 : M1.1 (50, 0, 0) = M.1 (50, 0, 0) := funext fun k => c1 _ _ (by simp)
  have hR : RW 0 M.1 (M1.1 (50, 0, 0)) := by rw [e50]; exact h.2.2.1
  have hu : (M1.1 (12, 0, 0) 7).toInt = -1 := by rw [c1 _ _ (by simp)]; exact h.2.1
  have h7 : (M2.1 (12, 0, 0) 7).toInt = -1 := by rw [hF2 (12, 0, 0) 7 (fun q => by simp only [S_c_X12_count, or_false] at q; omega)]; exact hu
  exact ⟨RY_fr h hF1 hF2 s1 s2 hx hD2.2.1 hD2.2.2.1 (fun c k a b q => by unfold wR at a; simp only [S_c_X11_count, or_false] at q; omega) (fun c k a q => by rcases a with rfl | rfl | ⟨rfl, rfl⟩ | a | a | a <;> (simp only [S_c_X12_count, or_false] at q <;> omega)) (fun c k a q => by simp only [S_c_X11_count, or_false] at q; omega) h7, trivial⟩
theorem sy_40 {v : Int32} {M M1 M2 : mM} {r1 r2 : Int32} (h : RY M.1) (hD0 : InvD M) (hD : InvD M1) (hD2 : InvD M2) (hF1 : FR S_c_X11_told M M1) (hs1 : SP_X11_told v M r1 M1) (hF2 : FR S_c_X12_told M1 M2) (hs2 : SP_X12_told v M1 r2 M2) : RY M2.1 ∧ True := by
  have hx := (st_40 h.1 hD0 hF1 hs1 hF2 hs2).1
  have s1 : cC S_c_X11_told := fun c k q => by simp only [S_c_X11_told, or_false] at q; omega
  have s2 : cD S_c_X12_told := fun c k q => by simp only [S_c_X12_told, or_false] at q; omega
  have c1 : ∀ (c : rf) (k : Nat), c.1 = 12 ∨ 50 ≤ c.1 → M1.1 c k = M.1 c k := fun c k a => hF1 c k (fun q => s1 c k q a)
  have c2 : ∀ (c : rf) (k : Nat), ¬ (c.1 = 12 ∨ 50 ≤ c.1) → M2.1 c k = M1.1 c k := fun c k a => hF2 c k (fun q => a (s2 c k q))
  have e50 : M1.1 (50, 0, 0) = M.1 (50, 0, 0) := funext fun k => c1 _ _ (by simp)
  have hR : RW 0 M.1 (M1.1 (50, 0, 0)) := by rw [e50]; exact h.2.2.1
  have hu : (M1.1 (12, 0, 0) 7).toInt = -1 := by rw [c1 _ _ (by simp)]; exact h.2.1
  have h7 : (M2.1 (12, 0, 0) 7).toInt = -1 := by rw [hF2 (12, 0, 0) 7 (fun q => by simp only [S_c_X12_told, or_false] at q; omega)]; exact hu
  exact ⟨RY_fr h hF1 hF2 s1 s2 hx hD2.2.1 hD2.2.2.1 (fun c k a b q => by unfold wR at a; simp only [S_c_X11_told, or_false] at q; omega) (fun c k a q => by rcases a with rfl | rfl | ⟨rfl, rfl⟩ | a | a | a <;> (simp only [S_c_X12_told, or_false] at q <;> omega)) (fun c k a q => by simp only [S_c_X11_told, or_false] at q; omega) h7, trivial⟩
end
