section
/-! echo -/
theorem x2clk {u : Int32} {M : mM} {r : Int32} (h : SP_X2_isClick_ u M r) : (r.toInt = 1 ∧ 100 ≤ u.toInt ∧ u.toInt ≤ 999 ∧ 1 ≤ u.toInt % 100) ∨ (r.toInt = 0 ∧ ¬ (100 ≤ u.toInt ∧ u.toInt ≤ 999 ∧ 1 ≤ u.toInt % 100)) := by
  have q0 := il_0
  have q1 := il_1
  unfold SP_X2_isClick_ at h
  rcases h with (⟨h1_, hr_⟩ | ⟨h1_, z2_, h3_, z4_, h5_, r6_, hs10_, h9_, (⟨h11_, hr_⟩ | ⟨h11_, hr_⟩)⟩)
  · have y2 := eT hr_
    omega
  · have y2 := eT hr_
    have c := x2click hs10_
    omega
  · have y2 := eT hr_
    have c := x2click hs10_
    omega
theorem x12clk {u : Int32} {M : mM} {r : Int32} (h : SP_X12_isClick u M r) : (r.toInt = 1 ∧ 100 ≤ u.toInt ∧ u.toInt ≤ 999 ∧ 1 ≤ u.toInt % 100) ∨ (r.toInt = 0 ∧ ¬ (100 ≤ u.toInt ∧ u.toInt ≤ 999 ∧ 1 ≤ u.toInt % 100)) := by
  have q0 := il_0
  have q1 := il_1
  unfold SP_X12_isClick at h
  rcases h with (⟨hs5_, h4_, z7_, h8_, (⟨h9_, hr_⟩ | ⟨h9_, hr_⟩)⟩ | ⟨hs5_, h4_, hr_⟩)
  all_goals (have y2 := eT hr_; omega)
theorem hund {u : Int32} (h : 100 ≤ u.toInt ∧ u.toInt ≤ 999) : (u / (100 : Int32)).toInt = u.toInt / 100 ∧ (u - u / (100 : Int32) * (100 : Int32)).toInt = u.toInt % 100 := by
  have i100 : (100 : Int32).toInt = 100 := by decide
  exact ⟨divI rfl i100 (by omega) (by omega), remI rfl i100 (by omega) (by omega)⟩
/-- a seen walker of its own is no wall to itself -/
theorem fr_own {b : Nat} {q : rf → Nat → Int32} {n : Nat → Int32} {v c s y R : Int} (hO : OCC b q n) (hN : NW5 n) (hv : 0 ≤ v ∧ v < nWa n) (hc : c = wcl n v.toNat) (cb : 0 ≤ c ∧ c ≤ 191) (hs : 0 ≤ s ∧ s ≤ 7) (hR : R ≤ 12) (E : EchoP (FrM (occ b q) (-1)) c s R y) : EchoP (FrS (occ b q) v) c s R y := by
  have nw := nWa_b hN
  have nT := nTh_b hN
  refine EchoP_cong (fun j h1 h2 h3 => ?_) E
  have ob := onI_b (c := c) (s := s) (y := j)
  have o3 := hO.2.2 (onI c s j).toNat (by omega)
  have ne := onI_ne cb hs ⟨h1, (by omega : j ≤ 15)⟩
  unfold FrM FrS
  refine ⟨fun z => ?_, fun z => ?_⟩
  · rcases z with z | z
    · exact Or.inl z
    · omega
  · rcases z with z | z
    · exact Or.inl z
    · exfalso
      rcases o3 with o | o | o
      · omega
      · omega
      · have e := o.2.2
        rw [z, show (100 + v - 100).toNat = v.toNat by omega, ← hc] at e
        omega
theorem x10fact {v u t s y : Int32} {M M' : mM} {r : Int32} {n : Nat → Int32} (h : SP_X10_echoFact 0 v u t s M r M') (hR : WRR 0 M.1 n) (hN : NW5 n) (hv : 0 ≤ v.toInt ∧ v.toInt < nWa n) (ht : 0 ≤ t.toInt ∧ t.toInt ≤ 7) (hs : 0 ≤ s.toInt ∧ s.toInt ≤ 5)
    (E : EchoP (FrS (occ 0 M.1) v.toInt) (n (181 + 9 * v.toInt.toNat)).toInt t.toInt (reachI (n (180 + 9 * v.toInt.toNat)).toInt) y.toInt) (hy : ¬ y.toInt = 0) :
    ∃ st : Int32, st.toInt = strI n (kindS n (occ 0 M.1) (onI (n (181 + 9 * v.toInt.toNat)).toInt t.toInt y.toInt)).toNat (u / (100 : Int32)) (u - u / (100 : Int32) * (100 : Int32)) y ∧ ((s.toInt = 0 ∧ r = y) ∨ (s.toInt = 1 ∧ r.toInt = lateN t.toInt y.toInt) ∨ (s.toInt = 2 ∧ r = st) ∨ (s.toInt = 3 ∧ ((((t.toInt - (n (182 + 9 * v.toInt.toNat)).toInt) % 8 < 1 ∨ 3 < (t.toInt - (n (182 + 9 * v.toInt.toNat)).toInt) % 8) ∧ r = st) ∨ (1 ≤ (t.toInt - (n (182 + 9 * v.toInt.toNat)).toInt) % 8 ∧ (t.toInt - (n (182 + 9 * v.toInt.toNat)).toInt) % 8 ≤ 3 ∧ r = st / (2 : Int32)))) ∨ (s.toInt = 4 ∧ (((t.toInt - (n (182 + 9 * v.toInt.toNat)).toInt) % 8 < 5 ∧ r = st) ∨ (5 ≤ (t.toInt - (n (182 + 9 * v.toInt.toNat)).toInt) % 8 ∧ r = st / (2 : Int32)))) ∨ (s.toInt = 5 ∧ ((r.toInt = 1 ∧ heS n (earsI (n (180 + 9 * v.toInt.toNat)).toInt) (kindS n (occ 0 M.1) (onI (n (181 + 9 * v.toInt.toNat)).toInt t.toInt y.toInt)).toNat (u / (100 : Int32)) (u - u / (100 : Int32) * (100 : Int32)) t y) ∨ (r.toInt = 0 ∧ ¬ heS n (earsI (n (180 + 9 * v.toInt.toNat)).toInt) (kindS n (occ 0 M.1) (onI (n (181 + 9 * v.toInt.toNat)).toInt t.toInt y.toInt)).toNat (u / (100 : Int32)) (u - u / (100 : Int32) * (100 : Int32)) t y)))) := by
  have q0 := il_0
  have q1 := il_1
  have hR0 := hR
  obtain ⟨hL, hT, hW, hX, hO, hM⟩ := hR
  have nw := nWa_b hN
  have ec := eT hW.1
  have w1 := (hW.2 v.toInt.toNat (by omega)).1
  have k0 := w1 0 (by omega)
  have k1 := w1 1 (by omega)
  have k2 := w1 2 (by omega)
  simp only [Nat.add_zero] at k0
  rw [show 180 + 9 * v.toInt.toNat + 1 = 181 + 9 * v.toInt.toNat by omega] at k1
  rw [show 180 + 9 * v.toInt.toNat + 2 = 182 + 9 * v.toInt.toNat by omega] at k2
  have PN := (hN.1 (180 + 9 * v.toInt.toNat)).2.2.2.2.2.2.2 (by unfold nWa at hv nw; omega) (by unfold nWa at hv nw; omega)
  have kb := PN.1 (by omega)
  have cb := ((hN.1 (181 + 9 * v.toInt.toNat)).2.2.2.2.2.2.2 (by unfold nWa at hv nw; omega) (by unfold nWa at hv nw; omega)).2.1 (by omega)
  have fb := ((hN.1 (182 + 9 * v.toInt.toNat)).2.2.2.2.2.2.2 (by unfold nWa at hv nw; omega) (by unfold nWa at hv nw; omega)).2.2 (by omega)
  have rb := reachI_b (n (180 + 9 * v.toInt.toNat)).toInt
  unfold SP_X10_echoFact at h
  rcases h with ⟨hs5_, h4_, j7_, h8_, h9_, z10_, e11_, r12_, hs16_, h15_, r17_, hs21_, r24_, hs28_, h27_, r29_, hs33_, M35_, -, hF39_, r34_, hs41_, z42_, e43_, z44_, h45_, z46_, h48_, h47_, h⟩ | ⟨hs5_, hr_, hM_⟩
  · obtain rfl : j7_ = v.toInt.toNat := by omega
    rw [k1] at e11_
    obtain rfl := e11_
    have E1 := x10echo hs16_ ⟨hv.1, by omega, by unfold nWa at hv; omega⟩ (by rw [k0]; exact kb) cb ht
    rw [k0] at E1
    obtain rfl : r12_ = y := i32e (EchoP_uniq E1 E)
    have yb : 1 ≤ r12_.toInt ∧ r12_.toInt ≤ 12 ∧ 0 ≤ onI (n (181 + 9 * v.toInt.toNat)).toInt t.toInt r12_.toInt := by
      unfold EchoP at E
      omega
    have cf := cF_spec hs28_
    have e24 : r24_.toInt = onI (n (181 + 9 * v.toInt.toNat)).toInt t.toInt r12_.toInt := by omega
    have kk := x7kindIn hs33_ ⟨by omega, h27_.2⟩ hT hN
    have kb2 := kindS_b (o := occ 0 M.1) (x := r24_.toInt) hN
    have sS := x2strength hs41_ hL hX hN.2 (by omega)
    rw [kk, e24] at sS
    have LA := x2late hs21_ ht (by omega)
    have hR2 := WRR_q hR0 hN (q2 := M35_.1) (fun c k a b => hF39_ c k (fun q => by simp only [S_c_X2_strength, or_false] at q; omega))
    have k2' : M35_.1 (9, 0, v.toInt.toNat) 2 = n (182 + 9 * v.toInt.toNat) := by
      rw [← k2]
      exact hF39_ _ _ (fun q => by simp only [S_c_X2_strength, or_false] at q; omega)
    have k0' : M35_.1 (9, 0, v.toInt.toNat) 0 = n (180 + 9 * v.toInt.toNat) := by
      rw [← k0]
      exact hF39_ _ _ (fun q => by simp only [S_c_X2_strength, or_false] at q; omega)
    rw [k2'] at e43_
    have z44 : z44_.toInt = t.toInt - (n (182 + 9 * v.toInt.toNat)).toInt := by
      rw [h45_, e43_]
      exact subI rfl rfl (by omega) (by omega)
    have a7 := and7 z44_
    rw [← h48_, z44] at a7
    clear hL hT hW hX hO hM hR0 E E1 w1 PN hs16_ hs28_ hs33_ hs41_ h47_
    refine ⟨r34_, sS, ?_⟩
    rcases h with (⟨e49_, hr_, hM_⟩ | ⟨e49_, hr_, hM_⟩ | ⟨e49_, hr_, hM_⟩ | ⟨e49_, (⟨h50_, hr_, hM_⟩ | ⟨h50_, (⟨h51_, hr_, hM_⟩ | ⟨h51_, z52_, h53_, hr_, hM_⟩)⟩)⟩ | ⟨e49_, (⟨h54_, hr_, hM_⟩ | ⟨h54_, z55_, h56_, hr_, hM_⟩)⟩ | ⟨e49_, r57_, hs61_, h60_, M63_, -, hF67_, r62_, hs69_, h65_, (⟨h70_, hr_, hM_⟩ | ⟨h70_, hr_, hM_⟩)⟩)
    · exact Or.inl ⟨e49_, hr_⟩
    · exact Or.inr (Or.inl ⟨e49_, by rw [hr_]; exact LA⟩)
    · exact Or.inr (Or.inr (Or.inl ⟨e49_, hr_⟩))
    · exact Or.inr (Or.inr (Or.inr (Or.inl ⟨e49_, Or.inl ⟨by omega, hr_⟩⟩)))
    · exact Or.inr (Or.inr (Or.inr (Or.inl ⟨e49_, Or.inl ⟨by omega, hr_⟩⟩)))
    · exact Or.inr (Or.inr (Or.inr (Or.inl ⟨e49_, Or.inr ⟨by omega, by omega, hr_.trans h53_⟩⟩)))
    · exact Or.inr (Or.inr (Or.inr (Or.inr (Or.inl ⟨e49_, Or.inl ⟨by omega, hr_⟩⟩))))
    · exact Or.inr (Or.inr (Or.inr (Or.inr (Or.inl ⟨e49_, Or.inr ⟨by omega, hr_.trans h56_⟩⟩))))
    · have hh := x2isHeard hs69_ hR2.1 hR2.2.2.2.1 hN.2
      rw [x9ears hs61_ (by rw [k0']; exact kb), k0', ofIe LA, ofIe sS] at hh
      have yr := eT hr_
      unfold heS
      refine Or.inr (Or.inr (Or.inr (Or.inr (Or.inr ⟨by omega, ?_⟩))))
      rcases hh with ⟨h1, h2⟩ | ⟨h1, h2⟩
      · exact Or.inl ⟨by omega, h2⟩
      · exact Or.inr ⟨by omega, h2⟩
    · have hh := x2isHeard hs69_ hR2.1 hR2.2.2.2.1 hN.2
      rw [x9ears hs61_ (by rw [k0']; exact kb), k0', ofIe LA, ofIe sS] at hh
      have yr := eT hr_
      unfold heS
      refine Or.inr (Or.inr (Or.inr (Or.inr (Or.inr ⟨by omega, ?_⟩))))
      rcases hh with ⟨h1, h2⟩ | ⟨h1, h2⟩
      · exact Or.inl ⟨by omega, h2⟩
      · exact Or.inr ⟨by omega, h2⟩
  · have := x10has hs5_
    unfold nWa at hv nw
    exfalso
    omega
theorem earS {v u t s : Int32} {M : mM} {r : Int32} (h : SP_X12_ear v u t s M r) (hu : 0 ≤ u.toInt ∧ u.toInt ≤ 7) (ht : 0 ≤ t.toInt ∧ t.toInt ≤ 7) (hs : 0 ≤ s.toInt ∧ s.toInt ≤ 7) : (3 ≤ (u.toInt - t.toInt - s.toInt + 16) % 8 ∧ r = v) ∨ ((u.toInt - t.toInt - s.toInt + 16) % 8 < 3 ∧ r = v / (2 : Int32)) := by
  have i16 : (16 : Int32).toInt = 16 := by decide
  unfold SP_X12_ear at h
  obtain ⟨z1_, h2_, z3_, h4_, z5_, h6_, z7_, h9_, h8_, h⟩ := h
  have a1 : z1_.toInt = u.toInt - t.toInt := by rw [h2_]; exact subI rfl rfl (by omega) (by omega)
  have a2 : z3_.toInt = z1_.toInt - s.toInt := by rw [h4_]; exact subI rfl rfl (by omega) (by omega)
  have a3 : z5_.toInt = z3_.toInt + 16 := by rw [h6_]; exact addI rfl i16 (by omega) (by omega)
  have a7 := and7 z5_
  rw [← h9_] at a7
  clear h8_
  rcases h with ⟨h10_, hr_⟩ | ⟨h10_, z11_, h12_, hr_⟩
  · exact Or.inl ⟨by omega, hr_⟩
  · exact Or.inr ⟨by omega, hr_.trans h12_⟩
theorem an_16 {v : Int32} {u : Int32} {t : Int32} {s : Int32} {M M1 D D2 : mM} {r1 r2 : Int32} (h1 : SP_X11_echo v u t s M r1 M1) (h2 : SP_X12_echo v u t s D r2 D2) (hR : RW 0 M.1 (D.1 (50, 0, 0))) (hD : InvD D) (hu : (D.1 (12, 0, 0) 7).toInt = -1) : r1 = r2 := by
  have q0 := il_0
  have q1 := il_1
  have i2 : (2 : Int32).toInt = 2 := by decide
  have bT := eT hR.1.2.1.1
  have bW := eT hR.1.2.2.1.1
  have nT := nTh_b hD.2.1
  have nW := nWa_b hD.2.1
  unfold nTh at nT
  unfold nWa at nW
  unfold SP_X11_echo at h1
  rcases h1 with (⟨c_hs5_, c_h4_, c_r7_, c_hs11_, c_h10_, (⟨c_h12_, c_M14_, -, c_hF18_, c_r13_, c_hs20_, c_hr_, c_hM_⟩ | ⟨c_h12_, (⟨c_hs25_, c_h24_, (⟨c_hs31_, c_h30_, c_j33_, c_h34_, c_h35_, c_z36_, c_e37_, c_r38_, c_hs42_, c_h41_, (⟨c_h43_, c_M45_, -, c_hF49_, c_r44_, c_hs51_, c_hr_, c_hM_⟩ | ⟨c_h43_, c_M53_, -, c_hF57_, c_r52_, c_hs59_, c_hr_, c_hM_⟩)⟩ | ⟨c_hs31_, c_h30_, c_M62_, -, c_hF66_, c_r61_, c_hs68_, c_hr_, c_hM_⟩)⟩ | ⟨c_hs25_, c_h24_, c_M71_, -, c_hF75_, c_r70_, c_hs77_, c_hr_, c_hM_⟩)⟩)⟩ | ⟨c_hs5_, c_M80_, -, c_hF84_, c_r79_, c_hs86_, c_hr_, c_hM_⟩)
  · have qc_hs5_ := x10has c_hs5_
    have qc_hs11_ := x2clk c_hs11_
    have qc_hs20_ := err1 c_hs20_
    have yrc_ := eT c_hr_
    unfold SP_X12_echo at h2
    rcases h2 with (⟨d_hs5_, d_h4_, (⟨d_hs11_, d_h10_, (⟨d_hs17_, d_h16_, (⟨d_hs23_, d_h22_, d_r25_, d_hs29_, d_h28_, d_z30_, d_h31_, d_j34_, d_h35_, d_z32_, d_e33_, d_h36_, d_r37_, d_hs41_, d_h40_, d_r42_, d_hs46_, d_h45_, (⟨d_h47_, d_r48_, d_hs52_, d_h51_, d_r53_, d_hs57_, d_h56_, d_z58_, d_h59_, d_z60_, d_h61_, d_M63_, d_hI66_, d_hF67_, d_r62_, d_hs69_, d_r70_, d_hs74_, d_h73_, d_z75_, d_h76_, d_j79_, d_h80_, d_z77_, d_e78_, d_h81_, (⟨d_e82_, d_hr_, d_hM_⟩ | ⟨d_e82_, d_r83_, d_hs87_, d_hr_, d_hM_⟩ | ⟨d_e82_, d_hr_, d_hM_⟩ | ⟨d_e82_, d_r88_, d_hs92_, d_hr_, d_hM_⟩ | ⟨d_e82_, d_r93_, d_hs97_, d_hr_, d_hM_⟩ | ⟨d_e82_, d_r98_, d_hs102_, d_h101_, d_z103_, d_h104_, d_z105_, d_h106_, d_M108_, -, d_hF112_, d_r107_, d_hs114_, d_h110_, (⟨d_h115_, d_hr_, d_hM_⟩ | ⟨d_h115_, d_hr_, d_hM_⟩)⟩)⟩ | ⟨d_h47_, d_M117_, -, d_hF121_, d_r116_, d_hs123_, d_h119_, d_hr_, d_hM_⟩)⟩ | ⟨d_hs23_, d_h22_, d_M126_, -, d_hF130_, d_r125_, d_hs132_, d_h128_, d_hr_, d_hM_⟩)⟩ | ⟨d_hs17_, d_h16_, d_M135_, -, d_hF139_, d_r134_, d_hs141_, d_h137_, d_hr_, d_hM_⟩)⟩ | ⟨d_hs11_, d_M144_, -, d_hF148_, d_r143_, d_hs150_, d_h146_, d_hr_, d_hM_⟩)⟩ | ⟨d_hs5_, d_M153_, -, d_hF157_, d_r152_, d_hs159_, d_h155_, d_hr_, d_hM_⟩)
    · obtain rfl : d_j34_ = 181 + 9 * v.toInt.toNat := by omega
      obtain rfl : d_j79_ = 182 + 9 * v.toInt.toNat := by omega
      have qd_hs5_ := is2x d_hs5_
      have qd_hs11_ := x12clk d_hs11_
      have yd_e33_ := eT d_e33_
      have yd_e78_ := eT d_e78_
      have yrd_ := eT d_hr_
      exfalso; omega
    · obtain rfl : d_j34_ = 181 + 9 * v.toInt.toNat := by omega
      obtain rfl : d_j79_ = 182 + 9 * v.toInt.toNat := by omega
      have qd_hs5_ := is2x d_hs5_
      have qd_hs11_ := x12clk d_hs11_
      have yd_e33_ := eT d_e33_
      have yd_e78_ := eT d_e78_
      have yrd_ := eT d_hr_
      exfalso; omega
    · obtain rfl : d_j34_ = 181 + 9 * v.toInt.toNat := by omega
      obtain rfl : d_j79_ = 182 + 9 * v.toInt.toNat := by omega
      have qd_hs5_ := is2x d_hs5_
      have qd_hs11_ := x12clk d_hs11_
      have yd_e33_ := eT d_e33_
      have yd_e78_ := eT d_e78_
      have yrd_ := eT d_hr_
      exfalso; omega
    · obtain rfl : d_j34_ = 181 + 9 * v.toInt.toNat := by omega
      obtain rfl : d_j79_ = 182 + 9 * v.toInt.toNat := by omega
      have qd_hs5_ := is2x d_hs5_
      have qd_hs11_ := x12clk d_hs11_
      have yd_e33_ := eT d_e33_
      have yd_e78_ := eT d_e78_
      have yrd_ := eT d_hr_
      exfalso; omega
    · obtain rfl : d_j34_ = 181 + 9 * v.toInt.toNat := by omega
      obtain rfl : d_j79_ = 182 + 9 * v.toInt.toNat := by omega
      have qd_hs5_ := is2x d_hs5_
      have qd_hs11_ := x12clk d_hs11_
      have yd_e33_ := eT d_e33_
      have yd_e78_ := eT d_e78_
      have yrd_ := eT d_hr_
      exfalso; omega
    · obtain rfl : d_j34_ = 181 + 9 * v.toInt.toNat := by omega
      obtain rfl : d_j79_ = 182 + 9 * v.toInt.toNat := by omega
      have qd_hs5_ := is2x d_hs5_
      have qd_hs11_ := x12clk d_hs11_
      have yd_e33_ := eT d_e33_
      have yd_e78_ := eT d_e78_
      have yrd_ := eT d_hr_
      exfalso; omega
    · obtain rfl : d_j34_ = 181 + 9 * v.toInt.toNat := by omega
      obtain rfl : d_j79_ = 182 + 9 * v.toInt.toNat := by omega
      have qd_hs5_ := is2x d_hs5_
      have qd_hs11_ := x12clk d_hs11_
      have yd_e33_ := eT d_e33_
      have yd_e78_ := eT d_e78_
      have yrd_ := eT d_hr_
      exfalso; omega
    · obtain rfl : d_j34_ = 181 + 9 * v.toInt.toNat := by omega
      have qd_hs5_ := is2x d_hs5_
      have qd_hs11_ := x12clk d_hs11_
      have yd_e33_ := eT d_e33_
      have yrd_ := eT d_hr_
      exfalso; omega
    · have qd_hs5_ := is2x d_hs5_
      have qd_hs11_ := x12clk d_hs11_
      have yrd_ := eT d_hr_
      exact i32e (by omega)
    · have qd_hs5_ := is2x d_hs5_
      have qd_hs11_ := x12clk d_hs11_
      have yrd_ := eT d_hr_
      exact i32e (by omega)
    · have qd_hs5_ := is2x d_hs5_
      have qd_hs11_ := x12clk d_hs11_
      have yrd_ := eT d_hr_
      exact i32e (by omega)
    · have qd_hs5_ := is2x d_hs5_
      have yrd_ := eT d_hr_
      exact i32e (by omega)
  · obtain rfl : c_j33_ = v.toInt.toNat := by omega
    have qc_hs5_ := x10has c_hs5_
    have qc_hs11_ := x2clk c_hs11_
    have yc_e37_ := eT c_e37_
    have yrc_ := eT c_hr_
    unfold SP_X12_echo at h2
    rcases h2 with (⟨d_hs5_, d_h4_, (⟨d_hs11_, d_h10_, (⟨d_hs17_, d_h16_, (⟨d_hs23_, d_h22_, d_r25_, d_hs29_, d_h28_, d_z30_, d_h31_, d_j34_, d_h35_, d_z32_, d_e33_, d_h36_, d_r37_, d_hs41_, d_h40_, d_r42_, d_hs46_, d_h45_, (⟨d_h47_, d_r48_, d_hs52_, d_h51_, d_r53_, d_hs57_, d_h56_, d_z58_, d_h59_, d_z60_, d_h61_, d_M63_, d_hI66_, d_hF67_, d_r62_, d_hs69_, d_r70_, d_hs74_, d_h73_, d_z75_, d_h76_, d_j79_, d_h80_, d_z77_, d_e78_, d_h81_, (⟨d_e82_, d_hr_, d_hM_⟩ | ⟨d_e82_, d_r83_, d_hs87_, d_hr_, d_hM_⟩ | ⟨d_e82_, d_hr_, d_hM_⟩ | ⟨d_e82_, d_r88_, d_hs92_, d_hr_, d_hM_⟩ | ⟨d_e82_, d_r93_, d_hs97_, d_hr_, d_hM_⟩ | ⟨d_e82_, d_r98_, d_hs102_, d_h101_, d_z103_, d_h104_, d_z105_, d_h106_, d_M108_, -, d_hF112_, d_r107_, d_hs114_, d_h110_, (⟨d_h115_, d_hr_, d_hM_⟩ | ⟨d_h115_, d_hr_, d_hM_⟩)⟩)⟩ | ⟨d_h47_, d_M117_, -, d_hF121_, d_r116_, d_hs123_, d_h119_, d_hr_, d_hM_⟩)⟩ | ⟨d_hs23_, d_h22_, d_M126_, -, d_hF130_, d_r125_, d_hs132_, d_h128_, d_hr_, d_hM_⟩)⟩ | ⟨d_hs17_, d_h16_, d_M135_, -, d_hF139_, d_r134_, d_hs141_, d_h137_, d_hr_, d_hM_⟩)⟩ | ⟨d_hs11_, d_M144_, -, d_hF148_, d_r143_, d_hs150_, d_h146_, d_hr_, d_hM_⟩)⟩ | ⟨d_hs5_, d_M153_, -, d_hF157_, d_r152_, d_hs159_, d_h155_, d_hr_, d_hM_⟩)
    · obtain rfl : d_j34_ = 181 + 9 * v.toInt.toNat := by omega
      obtain rfl : d_j79_ = 182 + 9 * v.toInt.toNat := by omega
      have qd_hs5_ := is2x d_hs5_
      have qd_hs11_ := x12clk d_hs11_
      have yd_e33_ := eT d_e33_
      have yd_e78_ := eT d_e78_
      have yrd_ := eT d_hr_
      have hv : 0 ≤ v.toInt ∧ v.toInt < nWa (D.1 (50, 0, 0)) := by unfold nWa; omega
      have PB : ∀ k, k < 3 → 180 ≤ 180 + k + 9 * v.toInt.toNat ∧ 180 + k + 9 * v.toInt.toNat < 252 := fun k hk => by omega
      have kb := ((hD.2.1.1 (180 + 9 * v.toInt.toNat)).2.2.2.2.2.2.2 (by omega) (by omega)).1 (by omega)
      have cb := ((hD.2.1.1 (181 + 9 * v.toInt.toNat)).2.2.2.2.2.2.2 (by omega) (by omega)).2.1 (by omega)
      have g0 : M.1 (9, 0, v.toInt.toNat) 0 = D.1 (50, 0, 0) (180 + 9 * v.toInt.toNat) := (hR.1.2.2.1.2 v.toInt.toNat (by omega)).1 0 (by omega)
      have g1 : M.1 (9, 0, v.toInt.toNat) 1 = D.1 (50, 0, 0) (181 + 9 * v.toInt.toNat) := by rw [(hR.1.2.2.1.2 v.toInt.toNat (by omega)).1 1 (by omega), show 180 + 9 * v.toInt.toNat + 1 = 181 + 9 * v.toInt.toNat by omega]
      rw [g1] at c_e37_
      obtain rfl := c_e37_
      have E1 := x10echo c_hs42_ ⟨hv.1, by omega, by omega⟩ (by rw [g0]; exact kb) cb c_h24_
      rw [g0] at E1
      obtain rfl := d_e33_
      have E2 := x12echo d_hs46_ hR.1.2.2.2.2.1 cb d_h16_ d_h40_ (by omega)
      rw [hu, x12reach d_hs41_ (by omega)] at E2
      have rb := reachI_b (D.1 (50, 0, 0) (180 + 9 * v.toInt.toNat)).toInt
      have E3 := fr_own hR.1.2.2.2.2.1 hD.2.1 hv rfl cb d_h16_ rb.2 E2
      have ee : c_r38_ = d_r42_ := i32e (EchoP_uniq E1 E3)
      subst ee
      have CF := x10fact c_hs51_ hR.1 hD.2.1 hv c_h24_ c_h30_ E1 c_h43_
      obtain ⟨st, s1, CF⟩ := CF
      have yb : 1 ≤ c_r38_.toInt ∧ c_r38_.toInt ≤ 12 ∧ 0 ≤ onI (D.1 (50, 0, 0) (181 + 9 * v.toInt.toNat)).toInt t.toInt c_r38_.toInt ∧ ¬ FrM (occ 0 M.1) (-1) (onI (D.1 (50, 0, 0) (181 + 9 * v.toInt.toNat)).toInt t.toInt c_r38_.toInt) := by
        rcases E2 with E2 | E2
        · exact ⟨E2.1, by omega, E2.2.2.2⟩
        · exact absurd E2.1 c_h43_
      have e48 := on_spec d_h51_.1 cb d_h16_ (by omega)
      have kk := x12kindIn d_hs57_ hR.1.2.2.2.2.1 (by omega) (by omega) (by rw [hu, e48]; exact yb.2.2.2) hD
      have kb2 := kindS_b (n := D.1 (50, 0, 0)) (o := occ 0 M.1) (x := d_r48_.toInt) hD.2.1
      have hX : ∀ w, w < 3 → ∀ i : Nat, (i : Int) < (D.1 (50, 0, 0) (345 + 50 * w)).toInt → cOK (nnU w) (D.1 (50, 0, 0) (346 + 50 * w + i)) := fun w hw i hi => ((hR.1.2.2.2.1 w hw).2 i hi).2
      have sD := x12strength d_hs69_ hD (fun i hi => hX 0 (by omega) i hi) (by omega)
      have HU := hund (u := u) (by omega)
      rw [show d_z58_ = u / (100 : Int32) from i32e (by omega), show d_z60_ = u - u / (100 : Int32) * (100 : Int32) from i32e (by omega), kk, e48, ← s1] at sD
      have sE : d_r62_ = st := i32e sD
      rcases CF with CF | CF | CF | CF | CF | CF
      · rw [c_hr_, CF.2, d_hr_]
      · omega
      · omega
      · omega
      · omega
      · omega
    · obtain rfl : d_j34_ = 181 + 9 * v.toInt.toNat := by omega
      obtain rfl : d_j79_ = 182 + 9 * v.toInt.toNat := by omega
      have qd_hs5_ := is2x d_hs5_
      have qd_hs11_ := x12clk d_hs11_
      have yd_e33_ := eT d_e33_
      have yd_e78_ := eT d_e78_
      have yrd_ := eT d_hr_
      have hv : 0 ≤ v.toInt ∧ v.toInt < nWa (D.1 (50, 0, 0)) := by unfold nWa; omega
      have PB : ∀ k, k < 3 → 180 ≤ 180 + k + 9 * v.toInt.toNat ∧ 180 + k + 9 * v.toInt.toNat < 252 := fun k hk => by omega
      have kb := ((hD.2.1.1 (180 + 9 * v.toInt.toNat)).2.2.2.2.2.2.2 (by omega) (by omega)).1 (by omega)
      have cb := ((hD.2.1.1 (181 + 9 * v.toInt.toNat)).2.2.2.2.2.2.2 (by omega) (by omega)).2.1 (by omega)
      have g0 : M.1 (9, 0, v.toInt.toNat) 0 = D.1 (50, 0, 0) (180 + 9 * v.toInt.toNat) := (hR.1.2.2.1.2 v.toInt.toNat (by omega)).1 0 (by omega)
      have g1 : M.1 (9, 0, v.toInt.toNat) 1 = D.1 (50, 0, 0) (181 + 9 * v.toInt.toNat) := by rw [(hR.1.2.2.1.2 v.toInt.toNat (by omega)).1 1 (by omega), show 180 + 9 * v.toInt.toNat + 1 = 181 + 9 * v.toInt.toNat by omega]
      rw [g1] at c_e37_
      obtain rfl := c_e37_
      have E1 := x10echo c_hs42_ ⟨hv.1, by omega, by omega⟩ (by rw [g0]; exact kb) cb c_h24_
      rw [g0] at E1
      obtain rfl := d_e33_
      have E2 := x12echo d_hs46_ hR.1.2.2.2.2.1 cb d_h16_ d_h40_ (by omega)
      rw [hu, x12reach d_hs41_ (by omega)] at E2
      have rb := reachI_b (D.1 (50, 0, 0) (180 + 9 * v.toInt.toNat)).toInt
      have E3 := fr_own hR.1.2.2.2.2.1 hD.2.1 hv rfl cb d_h16_ rb.2 E2
      have ee : c_r38_ = d_r42_ := i32e (EchoP_uniq E1 E3)
      subst ee
      have CF := x10fact c_hs51_ hR.1 hD.2.1 hv c_h24_ c_h30_ E1 c_h43_
      obtain ⟨st, s1, CF⟩ := CF
      have yb : 1 ≤ c_r38_.toInt ∧ c_r38_.toInt ≤ 12 ∧ 0 ≤ onI (D.1 (50, 0, 0) (181 + 9 * v.toInt.toNat)).toInt t.toInt c_r38_.toInt ∧ ¬ FrM (occ 0 M.1) (-1) (onI (D.1 (50, 0, 0) (181 + 9 * v.toInt.toNat)).toInt t.toInt c_r38_.toInt) := by
        rcases E2 with E2 | E2
        · exact ⟨E2.1, by omega, E2.2.2.2⟩
        · exact absurd E2.1 c_h43_
      have e48 := on_spec d_h51_.1 cb d_h16_ (by omega)
      have kk := x12kindIn d_hs57_ hR.1.2.2.2.2.1 (by omega) (by omega) (by rw [hu, e48]; exact yb.2.2.2) hD
      have kb2 := kindS_b (n := D.1 (50, 0, 0)) (o := occ 0 M.1) (x := d_r48_.toInt) hD.2.1
      have hX : ∀ w, w < 3 → ∀ i : Nat, (i : Int) < (D.1 (50, 0, 0) (345 + 50 * w)).toInt → cOK (nnU w) (D.1 (50, 0, 0) (346 + 50 * w + i)) := fun w hw i hi => ((hR.1.2.2.2.1 w hw).2 i hi).2
      have sD := x12strength d_hs69_ hD (fun i hi => hX 0 (by omega) i hi) (by omega)
      have HU := hund (u := u) (by omega)
      rw [show d_z58_ = u / (100 : Int32) from i32e (by omega), show d_z60_ = u - u / (100 : Int32) * (100 : Int32) from i32e (by omega), kk, e48, ← s1] at sD
      have sE : d_r62_ = st := i32e sD
      rcases CF with CF | CF | CF | CF | CF | CF
      · omega
      · exact i32e (by rw [c_hr_, CF.2, d_hr_, x12late d_hs87_ d_h16_ (by omega)])
      · omega
      · omega
      · omega
      · omega
    · obtain rfl : d_j34_ = 181 + 9 * v.toInt.toNat := by omega
      obtain rfl : d_j79_ = 182 + 9 * v.toInt.toNat := by omega
      have qd_hs5_ := is2x d_hs5_
      have qd_hs11_ := x12clk d_hs11_
      have yd_e33_ := eT d_e33_
      have yd_e78_ := eT d_e78_
      have yrd_ := eT d_hr_
      have hv : 0 ≤ v.toInt ∧ v.toInt < nWa (D.1 (50, 0, 0)) := by unfold nWa; omega
      have PB : ∀ k, k < 3 → 180 ≤ 180 + k + 9 * v.toInt.toNat ∧ 180 + k + 9 * v.toInt.toNat < 252 := fun k hk => by omega
      have kb := ((hD.2.1.1 (180 + 9 * v.toInt.toNat)).2.2.2.2.2.2.2 (by omega) (by omega)).1 (by omega)
      have cb := ((hD.2.1.1 (181 + 9 * v.toInt.toNat)).2.2.2.2.2.2.2 (by omega) (by omega)).2.1 (by omega)
      have g0 : M.1 (9, 0, v.toInt.toNat) 0 = D.1 (50, 0, 0) (180 + 9 * v.toInt.toNat) := (hR.1.2.2.1.2 v.toInt.toNat (by omega)).1 0 (by omega)
      have g1 : M.1 (9, 0, v.toInt.toNat) 1 = D.1 (50, 0, 0) (181 + 9 * v.toInt.toNat) := by rw [(hR.1.2.2.1.2 v.toInt.toNat (by omega)).1 1 (by omega), show 180 + 9 * v.toInt.toNat + 1 = 181 + 9 * v.toInt.toNat by omega]
      rw [g1] at c_e37_
      obtain rfl := c_e37_
      have E1 := x10echo c_hs42_ ⟨hv.1, by omega, by omega⟩ (by rw [g0]; exact kb) cb c_h24_
      rw [g0] at E1
      obtain rfl := d_e33_
      have E2 := x12echo d_hs46_ hR.1.2.2.2.2.1 cb d_h16_ d_h40_ (by omega)
      rw [hu, x12reach d_hs41_ (by omega)] at E2
      have rb := reachI_b (D.1 (50, 0, 0) (180 + 9 * v.toInt.toNat)).toInt
      have E3 := fr_own hR.1.2.2.2.2.1 hD.2.1 hv rfl cb d_h16_ rb.2 E2
      have ee : c_r38_ = d_r42_ := i32e (EchoP_uniq E1 E3)
      subst ee
      have CF := x10fact c_hs51_ hR.1 hD.2.1 hv c_h24_ c_h30_ E1 c_h43_
      obtain ⟨st, s1, CF⟩ := CF
      have yb : 1 ≤ c_r38_.toInt ∧ c_r38_.toInt ≤ 12 ∧ 0 ≤ onI (D.1 (50, 0, 0) (181 + 9 * v.toInt.toNat)).toInt t.toInt c_r38_.toInt ∧ ¬ FrM (occ 0 M.1) (-1) (onI (D.1 (50, 0, 0) (181 + 9 * v.toInt.toNat)).toInt t.toInt c_r38_.toInt) := by
        rcases E2 with E2 | E2
        · exact ⟨E2.1, by omega, E2.2.2.2⟩
        · exact absurd E2.1 c_h43_
      have e48 := on_spec d_h51_.1 cb d_h16_ (by omega)
      have kk := x12kindIn d_hs57_ hR.1.2.2.2.2.1 (by omega) (by omega) (by rw [hu, e48]; exact yb.2.2.2) hD
      have kb2 := kindS_b (n := D.1 (50, 0, 0)) (o := occ 0 M.1) (x := d_r48_.toInt) hD.2.1
      have hX : ∀ w, w < 3 → ∀ i : Nat, (i : Int) < (D.1 (50, 0, 0) (345 + 50 * w)).toInt → cOK (nnU w) (D.1 (50, 0, 0) (346 + 50 * w + i)) := fun w hw i hi => ((hR.1.2.2.2.1 w hw).2 i hi).2
      have sD := x12strength d_hs69_ hD (fun i hi => hX 0 (by omega) i hi) (by omega)
      have HU := hund (u := u) (by omega)
      rw [show d_z58_ = u / (100 : Int32) from i32e (by omega), show d_z60_ = u - u / (100 : Int32) * (100 : Int32) from i32e (by omega), kk, e48, ← s1] at sD
      have sE : d_r62_ = st := i32e sD
      rcases CF with CF | CF | CF | CF | CF | CF
      · omega
      · omega
      · rw [c_hr_, CF.2, d_hr_, sE]
      · omega
      · omega
      · omega
    · obtain rfl : d_j34_ = 181 + 9 * v.toInt.toNat := by omega
      obtain rfl : d_j79_ = 182 + 9 * v.toInt.toNat := by omega
      have qd_hs5_ := is2x d_hs5_
      have qd_hs11_ := x12clk d_hs11_
      have yd_e33_ := eT d_e33_
      have yd_e78_ := eT d_e78_
      have yrd_ := eT d_hr_
      have hv : 0 ≤ v.toInt ∧ v.toInt < nWa (D.1 (50, 0, 0)) := by unfold nWa; omega
      have PB : ∀ k, k < 3 → 180 ≤ 180 + k + 9 * v.toInt.toNat ∧ 180 + k + 9 * v.toInt.toNat < 252 := fun k hk => by omega
      have kb := ((hD.2.1.1 (180 + 9 * v.toInt.toNat)).2.2.2.2.2.2.2 (by omega) (by omega)).1 (by omega)
      have cb := ((hD.2.1.1 (181 + 9 * v.toInt.toNat)).2.2.2.2.2.2.2 (by omega) (by omega)).2.1 (by omega)
      have g0 : M.1 (9, 0, v.toInt.toNat) 0 = D.1 (50, 0, 0) (180 + 9 * v.toInt.toNat) := (hR.1.2.2.1.2 v.toInt.toNat (by omega)).1 0 (by omega)
      have g1 : M.1 (9, 0, v.toInt.toNat) 1 = D.1 (50, 0, 0) (181 + 9 * v.toInt.toNat) := by rw [(hR.1.2.2.1.2 v.toInt.toNat (by omega)).1 1 (by omega), show 180 + 9 * v.toInt.toNat + 1 = 181 + 9 * v.toInt.toNat by omega]
      rw [g1] at c_e37_
      obtain rfl := c_e37_
      have E1 := x10echo c_hs42_ ⟨hv.1, by omega, by omega⟩ (by rw [g0]; exact kb) cb c_h24_
      rw [g0] at E1
      obtain rfl := d_e33_
      have E2 := x12echo d_hs46_ hR.1.2.2.2.2.1 cb d_h16_ d_h40_ (by omega)
      rw [hu, x12reach d_hs41_ (by omega)] at E2
      have rb := reachI_b (D.1 (50, 0, 0) (180 + 9 * v.toInt.toNat)).toInt
      have E3 := fr_own hR.1.2.2.2.2.1 hD.2.1 hv rfl cb d_h16_ rb.2 E2
      have ee : c_r38_ = d_r42_ := i32e (EchoP_uniq E1 E3)
      subst ee
      have CF := x10fact c_hs51_ hR.1 hD.2.1 hv c_h24_ c_h30_ E1 c_h43_
      obtain ⟨st, s1, CF⟩ := CF
      have yb : 1 ≤ c_r38_.toInt ∧ c_r38_.toInt ≤ 12 ∧ 0 ≤ onI (D.1 (50, 0, 0) (181 + 9 * v.toInt.toNat)).toInt t.toInt c_r38_.toInt ∧ ¬ FrM (occ 0 M.1) (-1) (onI (D.1 (50, 0, 0) (181 + 9 * v.toInt.toNat)).toInt t.toInt c_r38_.toInt) := by
        rcases E2 with E2 | E2
        · exact ⟨E2.1, by omega, E2.2.2.2⟩
        · exact absurd E2.1 c_h43_
      have e48 := on_spec d_h51_.1 cb d_h16_ (by omega)
      have kk := x12kindIn d_hs57_ hR.1.2.2.2.2.1 (by omega) (by omega) (by rw [hu, e48]; exact yb.2.2.2) hD
      have kb2 := kindS_b (n := D.1 (50, 0, 0)) (o := occ 0 M.1) (x := d_r48_.toInt) hD.2.1
      have hX : ∀ w, w < 3 → ∀ i : Nat, (i : Int) < (D.1 (50, 0, 0) (345 + 50 * w)).toInt → cOK (nnU w) (D.1 (50, 0, 0) (346 + 50 * w + i)) := fun w hw i hi => ((hR.1.2.2.2.1 w hw).2 i hi).2
      have sD := x12strength d_hs69_ hD (fun i hi => hX 0 (by omega) i hi) (by omega)
      have HU := hund (u := u) (by omega)
      rw [show d_z58_ = u / (100 : Int32) from i32e (by omega), show d_z60_ = u - u / (100 : Int32) * (100 : Int32) from i32e (by omega), kk, e48, ← s1] at sD
      have sE : d_r62_ = st := i32e sD
      have ER := earS d_hs92_ d_h16_ d_h81_ (by first | decide | simp | (dsimp only; omega))
      rw [sE] at ER
      have e50 : d_M63_.1 (50, 0, 0) = D.1 (50, 0, 0) := funext fun k => d_hF67_ _ _ (by simp [S_c_X12_strength])
      rw [e50] at d_e78_
      have yf := eT d_e78_
      have i5 : (1 : Int32).toInt = 1 := by decide
      rw [i5] at ER
      rcases CF with CF | CF | CF | CF | CF | CF
      · omega
      · omega
      · omega
      · rcases CF.2 with C | C <;> rcases ER with G | G
        · rw [c_hr_, C.2, d_hr_, G.2]
        · omega
        · omega
        · rw [c_hr_, C.2.2, d_hr_, G.2]
      · omega
      · omega
    · obtain rfl : d_j34_ = 181 + 9 * v.toInt.toNat := by omega
      obtain rfl : d_j79_ = 182 + 9 * v.toInt.toNat := by omega
      have qd_hs5_ := is2x d_hs5_
      have qd_hs11_ := x12clk d_hs11_
      have yd_e33_ := eT d_e33_
      have yd_e78_ := eT d_e78_
      have yrd_ := eT d_hr_
      have hv : 0 ≤ v.toInt ∧ v.toInt < nWa (D.1 (50, 0, 0)) := by unfold nWa; omega
      have PB : ∀ k, k < 3 → 180 ≤ 180 + k + 9 * v.toInt.toNat ∧ 180 + k + 9 * v.toInt.toNat < 252 := fun k hk => by omega
      have kb := ((hD.2.1.1 (180 + 9 * v.toInt.toNat)).2.2.2.2.2.2.2 (by omega) (by omega)).1 (by omega)
      have cb := ((hD.2.1.1 (181 + 9 * v.toInt.toNat)).2.2.2.2.2.2.2 (by omega) (by omega)).2.1 (by omega)
      have g0 : M.1 (9, 0, v.toInt.toNat) 0 = D.1 (50, 0, 0) (180 + 9 * v.toInt.toNat) := (hR.1.2.2.1.2 v.toInt.toNat (by omega)).1 0 (by omega)
      have g1 : M.1 (9, 0, v.toInt.toNat) 1 = D.1 (50, 0, 0) (181 + 9 * v.toInt.toNat) := by rw [(hR.1.2.2.1.2 v.toInt.toNat (by omega)).1 1 (by omega), show 180 + 9 * v.toInt.toNat + 1 = 181 + 9 * v.toInt.toNat by omega]
      rw [g1] at c_e37_
      obtain rfl := c_e37_
      have E1 := x10echo c_hs42_ ⟨hv.1, by omega, by omega⟩ (by rw [g0]; exact kb) cb c_h24_
      rw [g0] at E1
      obtain rfl := d_e33_
      have E2 := x12echo d_hs46_ hR.1.2.2.2.2.1 cb d_h16_ d_h40_ (by omega)
      rw [hu, x12reach d_hs41_ (by omega)] at E2
      have rb := reachI_b (D.1 (50, 0, 0) (180 + 9 * v.toInt.toNat)).toInt
      have E3 := fr_own hR.1.2.2.2.2.1 hD.2.1 hv rfl cb d_h16_ rb.2 E2
      have ee : c_r38_ = d_r42_ := i32e (EchoP_uniq E1 E3)
      subst ee
      have CF := x10fact c_hs51_ hR.1 hD.2.1 hv c_h24_ c_h30_ E1 c_h43_
      obtain ⟨st, s1, CF⟩ := CF
      have yb : 1 ≤ c_r38_.toInt ∧ c_r38_.toInt ≤ 12 ∧ 0 ≤ onI (D.1 (50, 0, 0) (181 + 9 * v.toInt.toNat)).toInt t.toInt c_r38_.toInt ∧ ¬ FrM (occ 0 M.1) (-1) (onI (D.1 (50, 0, 0) (181 + 9 * v.toInt.toNat)).toInt t.toInt c_r38_.toInt) := by
        rcases E2 with E2 | E2
        · exact ⟨E2.1, by omega, E2.2.2.2⟩
        · exact absurd E2.1 c_h43_
      have e48 := on_spec d_h51_.1 cb d_h16_ (by omega)
      have kk := x12kindIn d_hs57_ hR.1.2.2.2.2.1 (by omega) (by omega) (by rw [hu, e48]; exact yb.2.2.2) hD
      have kb2 := kindS_b (n := D.1 (50, 0, 0)) (o := occ 0 M.1) (x := d_r48_.toInt) hD.2.1
      have hX : ∀ w, w < 3 → ∀ i : Nat, (i : Int) < (D.1 (50, 0, 0) (345 + 50 * w)).toInt → cOK (nnU w) (D.1 (50, 0, 0) (346 + 50 * w + i)) := fun w hw i hi => ((hR.1.2.2.2.1 w hw).2 i hi).2
      have sD := x12strength d_hs69_ hD (fun i hi => hX 0 (by omega) i hi) (by omega)
      have HU := hund (u := u) (by omega)
      rw [show d_z58_ = u / (100 : Int32) from i32e (by omega), show d_z60_ = u - u / (100 : Int32) * (100 : Int32) from i32e (by omega), kk, e48, ← s1] at sD
      have sE : d_r62_ = st := i32e sD
      have ER := earS d_hs97_ d_h16_ d_h81_ (by first | decide | simp | (dsimp only; omega))
      rw [sE] at ER
      have e50 : d_M63_.1 (50, 0, 0) = D.1 (50, 0, 0) := funext fun k => d_hF67_ _ _ (by simp [S_c_X12_strength])
      rw [e50] at d_e78_
      have yf := eT d_e78_
      have i5 : (5 : Int32).toInt = 5 := by decide
      rw [i5] at ER
      rcases CF with CF | CF | CF | CF | CF | CF
      · omega
      · omega
      · omega
      · omega
      · rcases CF.2 with C | C <;> rcases ER with G | G
        · rw [c_hr_, C.2, d_hr_, G.2]
        · omega
        · omega
        · rw [c_hr_, C.2, d_hr_, G.2]
      · omega
    · obtain rfl : d_j34_ = 181 + 9 * v.toInt.toNat := by omega
      obtain rfl : d_j79_ = 182 + 9 * v.toInt.toNat := by omega
      have qd_hs5_ := is2x d_hs5_
      have qd_hs11_ := x12clk d_hs11_
      have yd_e33_ := eT d_e33_
      have yd_e78_ := eT d_e78_
      have yrd_ := eT d_hr_
      have hv : 0 ≤ v.toInt ∧ v.toInt < nWa (D.1 (50, 0, 0)) := by unfold nWa; omega
      have PB : ∀ k, k < 3 → 180 ≤ 180 + k + 9 * v.toInt.toNat ∧ 180 + k + 9 * v.toInt.toNat < 252 := fun k hk => by omega
      have kb := ((hD.2.1.1 (180 + 9 * v.toInt.toNat)).2.2.2.2.2.2.2 (by omega) (by omega)).1 (by omega)
      have cb := ((hD.2.1.1 (181 + 9 * v.toInt.toNat)).2.2.2.2.2.2.2 (by omega) (by omega)).2.1 (by omega)
      have g0 : M.1 (9, 0, v.toInt.toNat) 0 = D.1 (50, 0, 0) (180 + 9 * v.toInt.toNat) := (hR.1.2.2.1.2 v.toInt.toNat (by omega)).1 0 (by omega)
      have g1 : M.1 (9, 0, v.toInt.toNat) 1 = D.1 (50, 0, 0) (181 + 9 * v.toInt.toNat) := by rw [(hR.1.2.2.1.2 v.toInt.toNat (by omega)).1 1 (by omega), show 180 + 9 * v.toInt.toNat + 1 = 181 + 9 * v.toInt.toNat by omega]
      rw [g1] at c_e37_
      obtain rfl := c_e37_
      have E1 := x10echo c_hs42_ ⟨hv.1, by omega, by omega⟩ (by rw [g0]; exact kb) cb c_h24_
      rw [g0] at E1
      obtain rfl := d_e33_
      have E2 := x12echo d_hs46_ hR.1.2.2.2.2.1 cb d_h16_ d_h40_ (by omega)
      rw [hu, x12reach d_hs41_ (by omega)] at E2
      have rb := reachI_b (D.1 (50, 0, 0) (180 + 9 * v.toInt.toNat)).toInt
      have E3 := fr_own hR.1.2.2.2.2.1 hD.2.1 hv rfl cb d_h16_ rb.2 E2
      have ee : c_r38_ = d_r42_ := i32e (EchoP_uniq E1 E3)
      subst ee
      have CF := x10fact c_hs51_ hR.1 hD.2.1 hv c_h24_ c_h30_ E1 c_h43_
      obtain ⟨st, s1, CF⟩ := CF
      have yb : 1 ≤ c_r38_.toInt ∧ c_r38_.toInt ≤ 12 ∧ 0 ≤ onI (D.1 (50, 0, 0) (181 + 9 * v.toInt.toNat)).toInt t.toInt c_r38_.toInt ∧ ¬ FrM (occ 0 M.1) (-1) (onI (D.1 (50, 0, 0) (181 + 9 * v.toInt.toNat)).toInt t.toInt c_r38_.toInt) := by
        rcases E2 with E2 | E2
        · exact ⟨E2.1, by omega, E2.2.2.2⟩
        · exact absurd E2.1 c_h43_
      have e48 := on_spec d_h51_.1 cb d_h16_ (by omega)
      have kk := x12kindIn d_hs57_ hR.1.2.2.2.2.1 (by omega) (by omega) (by rw [hu, e48]; exact yb.2.2.2) hD
      have kb2 := kindS_b (n := D.1 (50, 0, 0)) (o := occ 0 M.1) (x := d_r48_.toInt) hD.2.1
      have hX : ∀ w, w < 3 → ∀ i : Nat, (i : Int) < (D.1 (50, 0, 0) (345 + 50 * w)).toInt → cOK (nnU w) (D.1 (50, 0, 0) (346 + 50 * w + i)) := fun w hw i hi => ((hR.1.2.2.2.1 w hw).2 i hi).2
      have sD := x12strength d_hs69_ hD (fun i hi => hX 0 (by omega) i hi) (by omega)
      have HU := hund (u := u) (by omega)
      rw [show d_z58_ = u / (100 : Int32) from i32e (by omega), show d_z60_ = u - u / (100 : Int32) * (100 : Int32) from i32e (by omega), kk, e48, ← s1] at sD
      have sE : d_r62_ = st := i32e sD
      have e50 : d_M63_.1 (50, 0, 0) = D.1 (50, 0, 0) := funext fun k => d_hF67_ _ _ (by simp [S_c_X12_strength])
      have hh := x12isHeard d_hs114_ d_hI66_ (by rw [e50]; exact hX) (by omega) d_h16_ (by omega)
      rw [e50, x12ears d_hs102_ (by omega), e50, show d_z103_ = u / (100 : Int32) from i32e (by omega), show d_z105_ = u - u / (100 : Int32) * (100 : Int32) from i32e (by omega), kk, e48] at hh
      refine i32e ?_
      rw [c_hr_]
      rcases CF with CF | CF | CF | CF | CF | CF
      · omega
      · omega
      · omega
      · omega
      · omega
      · rcases CF.2 with C | C <;> rcases hh with G | G
        · omega
        · exact absurd C.2 G.2
        · exact absurd G.2 C.2
        · omega
    · obtain rfl : d_j34_ = 181 + 9 * v.toInt.toNat := by omega
      obtain rfl : d_j79_ = 182 + 9 * v.toInt.toNat := by omega
      have qd_hs5_ := is2x d_hs5_
      have qd_hs11_ := x12clk d_hs11_
      have yd_e33_ := eT d_e33_
      have yd_e78_ := eT d_e78_
      have yrd_ := eT d_hr_
      have hv : 0 ≤ v.toInt ∧ v.toInt < nWa (D.1 (50, 0, 0)) := by unfold nWa; omega
      have PB : ∀ k, k < 3 → 180 ≤ 180 + k + 9 * v.toInt.toNat ∧ 180 + k + 9 * v.toInt.toNat < 252 := fun k hk => by omega
      have kb := ((hD.2.1.1 (180 + 9 * v.toInt.toNat)).2.2.2.2.2.2.2 (by omega) (by omega)).1 (by omega)
      have cb := ((hD.2.1.1 (181 + 9 * v.toInt.toNat)).2.2.2.2.2.2.2 (by omega) (by omega)).2.1 (by omega)
      have g0 : M.1 (9, 0, v.toInt.toNat) 0 = D.1 (50, 0, 0) (180 + 9 * v.toInt.toNat) := (hR.1.2.2.1.2 v.toInt.toNat (by omega)).1 0 (by omega)
      have g1 : M.1 (9, 0, v.toInt.toNat) 1 = D.1 (50, 0, 0) (181 + 9 * v.toInt.toNat) := by rw [(hR.1.2.2.1.2 v.toInt.toNat (by omega)).1 1 (by omega), show 180 + 9 * v.toInt.toNat + 1 = 181 + 9 * v.toInt.toNat by omega]
      rw [g1] at c_e37_
      obtain rfl := c_e37_
      have E1 := x10echo c_hs42_ ⟨hv.1, by omega, by omega⟩ (by rw [g0]; exact kb) cb c_h24_
      rw [g0] at E1
      obtain rfl := d_e33_
      have E2 := x12echo d_hs46_ hR.1.2.2.2.2.1 cb d_h16_ d_h40_ (by omega)
      rw [hu, x12reach d_hs41_ (by omega)] at E2
      have rb := reachI_b (D.1 (50, 0, 0) (180 + 9 * v.toInt.toNat)).toInt
      have E3 := fr_own hR.1.2.2.2.2.1 hD.2.1 hv rfl cb d_h16_ rb.2 E2
      have ee : c_r38_ = d_r42_ := i32e (EchoP_uniq E1 E3)
      subst ee
      have CF := x10fact c_hs51_ hR.1 hD.2.1 hv c_h24_ c_h30_ E1 c_h43_
      obtain ⟨st, s1, CF⟩ := CF
      have yb : 1 ≤ c_r38_.toInt ∧ c_r38_.toInt ≤ 12 ∧ 0 ≤ onI (D.1 (50, 0, 0) (181 + 9 * v.toInt.toNat)).toInt t.toInt c_r38_.toInt ∧ ¬ FrM (occ 0 M.1) (-1) (onI (D.1 (50, 0, 0) (181 + 9 * v.toInt.toNat)).toInt t.toInt c_r38_.toInt) := by
        rcases E2 with E2 | E2
        · exact ⟨E2.1, by omega, E2.2.2.2⟩
        · exact absurd E2.1 c_h43_
      have e48 := on_spec d_h51_.1 cb d_h16_ (by omega)
      have kk := x12kindIn d_hs57_ hR.1.2.2.2.2.1 (by omega) (by omega) (by rw [hu, e48]; exact yb.2.2.2) hD
      have kb2 := kindS_b (n := D.1 (50, 0, 0)) (o := occ 0 M.1) (x := d_r48_.toInt) hD.2.1
      have hX : ∀ w, w < 3 → ∀ i : Nat, (i : Int) < (D.1 (50, 0, 0) (345 + 50 * w)).toInt → cOK (nnU w) (D.1 (50, 0, 0) (346 + 50 * w + i)) := fun w hw i hi => ((hR.1.2.2.2.1 w hw).2 i hi).2
      have sD := x12strength d_hs69_ hD (fun i hi => hX 0 (by omega) i hi) (by omega)
      have HU := hund (u := u) (by omega)
      rw [show d_z58_ = u / (100 : Int32) from i32e (by omega), show d_z60_ = u - u / (100 : Int32) * (100 : Int32) from i32e (by omega), kk, e48, ← s1] at sD
      have sE : d_r62_ = st := i32e sD
      have e50 : d_M63_.1 (50, 0, 0) = D.1 (50, 0, 0) := funext fun k => d_hF67_ _ _ (by simp [S_c_X12_strength])
      have hh := x12isHeard d_hs114_ d_hI66_ (by rw [e50]; exact hX) (by omega) d_h16_ (by omega)
      rw [e50, x12ears d_hs102_ (by omega), e50, show d_z103_ = u / (100 : Int32) from i32e (by omega), show d_z105_ = u - u / (100 : Int32) * (100 : Int32) from i32e (by omega), kk, e48] at hh
      refine i32e ?_
      rw [c_hr_]
      rcases CF with CF | CF | CF | CF | CF | CF
      · omega
      · omega
      · omega
      · omega
      · omega
      · rcases CF.2 with C | C <;> rcases hh with G | G
        · omega
        · exact absurd C.2 G.2
        · exact absurd G.2 C.2
        · omega
    · obtain rfl : d_j34_ = 181 + 9 * v.toInt.toNat := by omega
      have qd_hs5_ := is2x d_hs5_
      have qd_hs11_ := x12clk d_hs11_
      have yd_e33_ := eT d_e33_
      have yrd_ := eT d_hr_
      have hv : 0 ≤ v.toInt ∧ v.toInt < nWa (D.1 (50, 0, 0)) := by unfold nWa; omega
      have PB : ∀ k, k < 3 → 180 ≤ 180 + k + 9 * v.toInt.toNat ∧ 180 + k + 9 * v.toInt.toNat < 252 := fun k hk => by omega
      have kb := ((hD.2.1.1 (180 + 9 * v.toInt.toNat)).2.2.2.2.2.2.2 (by omega) (by omega)).1 (by omega)
      have cb := ((hD.2.1.1 (181 + 9 * v.toInt.toNat)).2.2.2.2.2.2.2 (by omega) (by omega)).2.1 (by omega)
      have g0 : M.1 (9, 0, v.toInt.toNat) 0 = D.1 (50, 0, 0) (180 + 9 * v.toInt.toNat) := (hR.1.2.2.1.2 v.toInt.toNat (by omega)).1 0 (by omega)
      have g1 : M.1 (9, 0, v.toInt.toNat) 1 = D.1 (50, 0, 0) (181 + 9 * v.toInt.toNat) := by rw [(hR.1.2.2.1.2 v.toInt.toNat (by omega)).1 1 (by omega), show 180 + 9 * v.toInt.toNat + 1 = 181 + 9 * v.toInt.toNat by omega]
      rw [g1] at c_e37_
      obtain rfl := c_e37_
      have E1 := x10echo c_hs42_ ⟨hv.1, by omega, by omega⟩ (by rw [g0]; exact kb) cb c_h24_
      rw [g0] at E1
      obtain rfl := d_e33_
      have E2 := x12echo d_hs46_ hR.1.2.2.2.2.1 cb d_h16_ d_h40_ (by omega)
      rw [hu, x12reach d_hs41_ (by omega)] at E2
      have rb := reachI_b (D.1 (50, 0, 0) (180 + 9 * v.toInt.toNat)).toInt
      have E3 := fr_own hR.1.2.2.2.2.1 hD.2.1 hv rfl cb d_h16_ rb.2 E2
      have ee : c_r38_ = d_r42_ := i32e (EchoP_uniq E1 E3)
      exfalso
      have := eT ee
      omega
    · have qd_hs5_ := is2x d_hs5_
      have qd_hs11_ := x12clk d_hs11_
      have yrd_ := eT d_hr_
      exfalso; omega
    · have qd_hs5_ := is2x d_hs5_
      have qd_hs11_ := x12clk d_hs11_
      have yrd_ := eT d_hr_
      exfalso; omega
    · have qd_hs5_ := is2x d_hs5_
      have qd_hs11_ := x12clk d_hs11_
      have yrd_ := eT d_hr_
      exfalso; omega
    · have qd_hs5_ := is2x d_hs5_
      have yrd_ := eT d_hr_
      exfalso; omega
  · obtain rfl : c_j33_ = v.toInt.toNat := by omega
    have qc_hs5_ := x10has c_hs5_
    have qc_hs11_ := x2clk c_hs11_
    have yc_e37_ := eT c_e37_
    have qc_hs59_ := err2 c_hs59_
    have yrc_ := eT c_hr_
    unfold SP_X12_echo at h2
    rcases h2 with (⟨d_hs5_, d_h4_, (⟨d_hs11_, d_h10_, (⟨d_hs17_, d_h16_, (⟨d_hs23_, d_h22_, d_r25_, d_hs29_, d_h28_, d_z30_, d_h31_, d_j34_, d_h35_, d_z32_, d_e33_, d_h36_, d_r37_, d_hs41_, d_h40_, d_r42_, d_hs46_, d_h45_, (⟨d_h47_, d_r48_, d_hs52_, d_h51_, d_r53_, d_hs57_, d_h56_, d_z58_, d_h59_, d_z60_, d_h61_, d_M63_, d_hI66_, d_hF67_, d_r62_, d_hs69_, d_r70_, d_hs74_, d_h73_, d_z75_, d_h76_, d_j79_, d_h80_, d_z77_, d_e78_, d_h81_, (⟨d_e82_, d_hr_, d_hM_⟩ | ⟨d_e82_, d_r83_, d_hs87_, d_hr_, d_hM_⟩ | ⟨d_e82_, d_hr_, d_hM_⟩ | ⟨d_e82_, d_r88_, d_hs92_, d_hr_, d_hM_⟩ | ⟨d_e82_, d_r93_, d_hs97_, d_hr_, d_hM_⟩ | ⟨d_e82_, d_r98_, d_hs102_, d_h101_, d_z103_, d_h104_, d_z105_, d_h106_, d_M108_, -, d_hF112_, d_r107_, d_hs114_, d_h110_, (⟨d_h115_, d_hr_, d_hM_⟩ | ⟨d_h115_, d_hr_, d_hM_⟩)⟩)⟩ | ⟨d_h47_, d_M117_, -, d_hF121_, d_r116_, d_hs123_, d_h119_, d_hr_, d_hM_⟩)⟩ | ⟨d_hs23_, d_h22_, d_M126_, -, d_hF130_, d_r125_, d_hs132_, d_h128_, d_hr_, d_hM_⟩)⟩ | ⟨d_hs17_, d_h16_, d_M135_, -, d_hF139_, d_r134_, d_hs141_, d_h137_, d_hr_, d_hM_⟩)⟩ | ⟨d_hs11_, d_M144_, -, d_hF148_, d_r143_, d_hs150_, d_h146_, d_hr_, d_hM_⟩)⟩ | ⟨d_hs5_, d_M153_, -, d_hF157_, d_r152_, d_hs159_, d_h155_, d_hr_, d_hM_⟩)
    · obtain rfl : d_j34_ = 181 + 9 * v.toInt.toNat := by omega
      obtain rfl : d_j79_ = 182 + 9 * v.toInt.toNat := by omega
      have qd_hs5_ := is2x d_hs5_
      have qd_hs11_ := x12clk d_hs11_
      have yd_e33_ := eT d_e33_
      have yd_e78_ := eT d_e78_
      have yrd_ := eT d_hr_
      have hv : 0 ≤ v.toInt ∧ v.toInt < nWa (D.1 (50, 0, 0)) := by unfold nWa; omega
      have PB : ∀ k, k < 3 → 180 ≤ 180 + k + 9 * v.toInt.toNat ∧ 180 + k + 9 * v.toInt.toNat < 252 := fun k hk => by omega
      have kb := ((hD.2.1.1 (180 + 9 * v.toInt.toNat)).2.2.2.2.2.2.2 (by omega) (by omega)).1 (by omega)
      have cb := ((hD.2.1.1 (181 + 9 * v.toInt.toNat)).2.2.2.2.2.2.2 (by omega) (by omega)).2.1 (by omega)
      have g0 : M.1 (9, 0, v.toInt.toNat) 0 = D.1 (50, 0, 0) (180 + 9 * v.toInt.toNat) := (hR.1.2.2.1.2 v.toInt.toNat (by omega)).1 0 (by omega)
      have g1 : M.1 (9, 0, v.toInt.toNat) 1 = D.1 (50, 0, 0) (181 + 9 * v.toInt.toNat) := by rw [(hR.1.2.2.1.2 v.toInt.toNat (by omega)).1 1 (by omega), show 180 + 9 * v.toInt.toNat + 1 = 181 + 9 * v.toInt.toNat by omega]
      rw [g1] at c_e37_
      obtain rfl := c_e37_
      have E1 := x10echo c_hs42_ ⟨hv.1, by omega, by omega⟩ (by rw [g0]; exact kb) cb c_h24_
      rw [g0] at E1
      obtain rfl := d_e33_
      have E2 := x12echo d_hs46_ hR.1.2.2.2.2.1 cb d_h16_ d_h40_ (by omega)
      rw [hu, x12reach d_hs41_ (by omega)] at E2
      have rb := reachI_b (D.1 (50, 0, 0) (180 + 9 * v.toInt.toNat)).toInt
      have E3 := fr_own hR.1.2.2.2.2.1 hD.2.1 hv rfl cb d_h16_ rb.2 E2
      have ee : c_r38_ = d_r42_ := i32e (EchoP_uniq E1 E3)
      exfalso
      have := eT ee
      omega
    · obtain rfl : d_j34_ = 181 + 9 * v.toInt.toNat := by omega
      obtain rfl : d_j79_ = 182 + 9 * v.toInt.toNat := by omega
      have qd_hs5_ := is2x d_hs5_
      have qd_hs11_ := x12clk d_hs11_
      have yd_e33_ := eT d_e33_
      have yd_e78_ := eT d_e78_
      have yrd_ := eT d_hr_
      have hv : 0 ≤ v.toInt ∧ v.toInt < nWa (D.1 (50, 0, 0)) := by unfold nWa; omega
      have PB : ∀ k, k < 3 → 180 ≤ 180 + k + 9 * v.toInt.toNat ∧ 180 + k + 9 * v.toInt.toNat < 252 := fun k hk => by omega
      have kb := ((hD.2.1.1 (180 + 9 * v.toInt.toNat)).2.2.2.2.2.2.2 (by omega) (by omega)).1 (by omega)
      have cb := ((hD.2.1.1 (181 + 9 * v.toInt.toNat)).2.2.2.2.2.2.2 (by omega) (by omega)).2.1 (by omega)
      have g0 : M.1 (9, 0, v.toInt.toNat) 0 = D.1 (50, 0, 0) (180 + 9 * v.toInt.toNat) := (hR.1.2.2.1.2 v.toInt.toNat (by omega)).1 0 (by omega)
      have g1 : M.1 (9, 0, v.toInt.toNat) 1 = D.1 (50, 0, 0) (181 + 9 * v.toInt.toNat) := by rw [(hR.1.2.2.1.2 v.toInt.toNat (by omega)).1 1 (by omega), show 180 + 9 * v.toInt.toNat + 1 = 181 + 9 * v.toInt.toNat by omega]
      rw [g1] at c_e37_
      obtain rfl := c_e37_
      have E1 := x10echo c_hs42_ ⟨hv.1, by omega, by omega⟩ (by rw [g0]; exact kb) cb c_h24_
      rw [g0] at E1
      obtain rfl := d_e33_
      have E2 := x12echo d_hs46_ hR.1.2.2.2.2.1 cb d_h16_ d_h40_ (by omega)
      rw [hu, x12reach d_hs41_ (by omega)] at E2
      have rb := reachI_b (D.1 (50, 0, 0) (180 + 9 * v.toInt.toNat)).toInt
      have E3 := fr_own hR.1.2.2.2.2.1 hD.2.1 hv rfl cb d_h16_ rb.2 E2
      have ee : c_r38_ = d_r42_ := i32e (EchoP_uniq E1 E3)
      exfalso
      have := eT ee
      omega
    · obtain rfl : d_j34_ = 181 + 9 * v.toInt.toNat := by omega
      obtain rfl : d_j79_ = 182 + 9 * v.toInt.toNat := by omega
      have qd_hs5_ := is2x d_hs5_
      have qd_hs11_ := x12clk d_hs11_
      have yd_e33_ := eT d_e33_
      have yd_e78_ := eT d_e78_
      have yrd_ := eT d_hr_
      have hv : 0 ≤ v.toInt ∧ v.toInt < nWa (D.1 (50, 0, 0)) := by unfold nWa; omega
      have PB : ∀ k, k < 3 → 180 ≤ 180 + k + 9 * v.toInt.toNat ∧ 180 + k + 9 * v.toInt.toNat < 252 := fun k hk => by omega
      have kb := ((hD.2.1.1 (180 + 9 * v.toInt.toNat)).2.2.2.2.2.2.2 (by omega) (by omega)).1 (by omega)
      have cb := ((hD.2.1.1 (181 + 9 * v.toInt.toNat)).2.2.2.2.2.2.2 (by omega) (by omega)).2.1 (by omega)
      have g0 : M.1 (9, 0, v.toInt.toNat) 0 = D.1 (50, 0, 0) (180 + 9 * v.toInt.toNat) := (hR.1.2.2.1.2 v.toInt.toNat (by omega)).1 0 (by omega)
      have g1 : M.1 (9, 0, v.toInt.toNat) 1 = D.1 (50, 0, 0) (181 + 9 * v.toInt.toNat) := by rw [(hR.1.2.2.1.2 v.toInt.toNat (by omega)).1 1 (by omega), show 180 + 9 * v.toInt.toNat + 1 = 181 + 9 * v.toInt.toNat by omega]
      rw [g1] at c_e37_
      obtain rfl := c_e37_
      have E1 := x10echo c_hs42_ ⟨hv.1, by omega, by omega⟩ (by rw [g0]; exact kb) cb c_h24_
      rw [g0] at E1
      obtain rfl := d_e33_
      have E2 := x12echo d_hs46_ hR.1.2.2.2.2.1 cb d_h16_ d_h40_ (by omega)
      rw [hu, x12reach d_hs41_ (by omega)] at E2
      have rb := reachI_b (D.1 (50, 0, 0) (180 + 9 * v.toInt.toNat)).toInt
      have E3 := fr_own hR.1.2.2.2.2.1 hD.2.1 hv rfl cb d_h16_ rb.2 E2
      have ee : c_r38_ = d_r42_ := i32e (EchoP_uniq E1 E3)
      exfalso
      have := eT ee
      omega
    · obtain rfl : d_j34_ = 181 + 9 * v.toInt.toNat := by omega
      obtain rfl : d_j79_ = 182 + 9 * v.toInt.toNat := by omega
      have qd_hs5_ := is2x d_hs5_
      have qd_hs11_ := x12clk d_hs11_
      have yd_e33_ := eT d_e33_
      have yd_e78_ := eT d_e78_
      have yrd_ := eT d_hr_
      have hv : 0 ≤ v.toInt ∧ v.toInt < nWa (D.1 (50, 0, 0)) := by unfold nWa; omega
      have PB : ∀ k, k < 3 → 180 ≤ 180 + k + 9 * v.toInt.toNat ∧ 180 + k + 9 * v.toInt.toNat < 252 := fun k hk => by omega
      have kb := ((hD.2.1.1 (180 + 9 * v.toInt.toNat)).2.2.2.2.2.2.2 (by omega) (by omega)).1 (by omega)
      have cb := ((hD.2.1.1 (181 + 9 * v.toInt.toNat)).2.2.2.2.2.2.2 (by omega) (by omega)).2.1 (by omega)
      have g0 : M.1 (9, 0, v.toInt.toNat) 0 = D.1 (50, 0, 0) (180 + 9 * v.toInt.toNat) := (hR.1.2.2.1.2 v.toInt.toNat (by omega)).1 0 (by omega)
      have g1 : M.1 (9, 0, v.toInt.toNat) 1 = D.1 (50, 0, 0) (181 + 9 * v.toInt.toNat) := by rw [(hR.1.2.2.1.2 v.toInt.toNat (by omega)).1 1 (by omega), show 180 + 9 * v.toInt.toNat + 1 = 181 + 9 * v.toInt.toNat by omega]
      rw [g1] at c_e37_
      obtain rfl := c_e37_
      have E1 := x10echo c_hs42_ ⟨hv.1, by omega, by omega⟩ (by rw [g0]; exact kb) cb c_h24_
      rw [g0] at E1
      obtain rfl := d_e33_
      have E2 := x12echo d_hs46_ hR.1.2.2.2.2.1 cb d_h16_ d_h40_ (by omega)
      rw [hu, x12reach d_hs41_ (by omega)] at E2
      have rb := reachI_b (D.1 (50, 0, 0) (180 + 9 * v.toInt.toNat)).toInt
      have E3 := fr_own hR.1.2.2.2.2.1 hD.2.1 hv rfl cb d_h16_ rb.2 E2
      have ee : c_r38_ = d_r42_ := i32e (EchoP_uniq E1 E3)
      exfalso
      have := eT ee
      omega
    · obtain rfl : d_j34_ = 181 + 9 * v.toInt.toNat := by omega
      obtain rfl : d_j79_ = 182 + 9 * v.toInt.toNat := by omega
      have qd_hs5_ := is2x d_hs5_
      have qd_hs11_ := x12clk d_hs11_
      have yd_e33_ := eT d_e33_
      have yd_e78_ := eT d_e78_
      have yrd_ := eT d_hr_
      have hv : 0 ≤ v.toInt ∧ v.toInt < nWa (D.1 (50, 0, 0)) := by unfold nWa; omega
      have PB : ∀ k, k < 3 → 180 ≤ 180 + k + 9 * v.toInt.toNat ∧ 180 + k + 9 * v.toInt.toNat < 252 := fun k hk => by omega
      have kb := ((hD.2.1.1 (180 + 9 * v.toInt.toNat)).2.2.2.2.2.2.2 (by omega) (by omega)).1 (by omega)
      have cb := ((hD.2.1.1 (181 + 9 * v.toInt.toNat)).2.2.2.2.2.2.2 (by omega) (by omega)).2.1 (by omega)
      have g0 : M.1 (9, 0, v.toInt.toNat) 0 = D.1 (50, 0, 0) (180 + 9 * v.toInt.toNat) := (hR.1.2.2.1.2 v.toInt.toNat (by omega)).1 0 (by omega)
      have g1 : M.1 (9, 0, v.toInt.toNat) 1 = D.1 (50, 0, 0) (181 + 9 * v.toInt.toNat) := by rw [(hR.1.2.2.1.2 v.toInt.toNat (by omega)).1 1 (by omega), show 180 + 9 * v.toInt.toNat + 1 = 181 + 9 * v.toInt.toNat by omega]
      rw [g1] at c_e37_
      obtain rfl := c_e37_
      have E1 := x10echo c_hs42_ ⟨hv.1, by omega, by omega⟩ (by rw [g0]; exact kb) cb c_h24_
      rw [g0] at E1
      obtain rfl := d_e33_
      have E2 := x12echo d_hs46_ hR.1.2.2.2.2.1 cb d_h16_ d_h40_ (by omega)
      rw [hu, x12reach d_hs41_ (by omega)] at E2
      have rb := reachI_b (D.1 (50, 0, 0) (180 + 9 * v.toInt.toNat)).toInt
      have E3 := fr_own hR.1.2.2.2.2.1 hD.2.1 hv rfl cb d_h16_ rb.2 E2
      have ee : c_r38_ = d_r42_ := i32e (EchoP_uniq E1 E3)
      exfalso
      have := eT ee
      omega
    · obtain rfl : d_j34_ = 181 + 9 * v.toInt.toNat := by omega
      obtain rfl : d_j79_ = 182 + 9 * v.toInt.toNat := by omega
      have qd_hs5_ := is2x d_hs5_
      have qd_hs11_ := x12clk d_hs11_
      have yd_e33_ := eT d_e33_
      have yd_e78_ := eT d_e78_
      have yrd_ := eT d_hr_
      have hv : 0 ≤ v.toInt ∧ v.toInt < nWa (D.1 (50, 0, 0)) := by unfold nWa; omega
      have PB : ∀ k, k < 3 → 180 ≤ 180 + k + 9 * v.toInt.toNat ∧ 180 + k + 9 * v.toInt.toNat < 252 := fun k hk => by omega
      have kb := ((hD.2.1.1 (180 + 9 * v.toInt.toNat)).2.2.2.2.2.2.2 (by omega) (by omega)).1 (by omega)
      have cb := ((hD.2.1.1 (181 + 9 * v.toInt.toNat)).2.2.2.2.2.2.2 (by omega) (by omega)).2.1 (by omega)
      have g0 : M.1 (9, 0, v.toInt.toNat) 0 = D.1 (50, 0, 0) (180 + 9 * v.toInt.toNat) := (hR.1.2.2.1.2 v.toInt.toNat (by omega)).1 0 (by omega)
      have g1 : M.1 (9, 0, v.toInt.toNat) 1 = D.1 (50, 0, 0) (181 + 9 * v.toInt.toNat) := by rw [(hR.1.2.2.1.2 v.toInt.toNat (by omega)).1 1 (by omega), show 180 + 9 * v.toInt.toNat + 1 = 181 + 9 * v.toInt.toNat by omega]
      rw [g1] at c_e37_
      obtain rfl := c_e37_
      have E1 := x10echo c_hs42_ ⟨hv.1, by omega, by omega⟩ (by rw [g0]; exact kb) cb c_h24_
      rw [g0] at E1
      obtain rfl := d_e33_
      have E2 := x12echo d_hs46_ hR.1.2.2.2.2.1 cb d_h16_ d_h40_ (by omega)
      rw [hu, x12reach d_hs41_ (by omega)] at E2
      have rb := reachI_b (D.1 (50, 0, 0) (180 + 9 * v.toInt.toNat)).toInt
      have E3 := fr_own hR.1.2.2.2.2.1 hD.2.1 hv rfl cb d_h16_ rb.2 E2
      have ee : c_r38_ = d_r42_ := i32e (EchoP_uniq E1 E3)
      exfalso
      have := eT ee
      omega
    · obtain rfl : d_j34_ = 181 + 9 * v.toInt.toNat := by omega
      obtain rfl : d_j79_ = 182 + 9 * v.toInt.toNat := by omega
      have qd_hs5_ := is2x d_hs5_
      have qd_hs11_ := x12clk d_hs11_
      have yd_e33_ := eT d_e33_
      have yd_e78_ := eT d_e78_
      have yrd_ := eT d_hr_
      have hv : 0 ≤ v.toInt ∧ v.toInt < nWa (D.1 (50, 0, 0)) := by unfold nWa; omega
      have PB : ∀ k, k < 3 → 180 ≤ 180 + k + 9 * v.toInt.toNat ∧ 180 + k + 9 * v.toInt.toNat < 252 := fun k hk => by omega
      have kb := ((hD.2.1.1 (180 + 9 * v.toInt.toNat)).2.2.2.2.2.2.2 (by omega) (by omega)).1 (by omega)
      have cb := ((hD.2.1.1 (181 + 9 * v.toInt.toNat)).2.2.2.2.2.2.2 (by omega) (by omega)).2.1 (by omega)
      have g0 : M.1 (9, 0, v.toInt.toNat) 0 = D.1 (50, 0, 0) (180 + 9 * v.toInt.toNat) := (hR.1.2.2.1.2 v.toInt.toNat (by omega)).1 0 (by omega)
      have g1 : M.1 (9, 0, v.toInt.toNat) 1 = D.1 (50, 0, 0) (181 + 9 * v.toInt.toNat) := by rw [(hR.1.2.2.1.2 v.toInt.toNat (by omega)).1 1 (by omega), show 180 + 9 * v.toInt.toNat + 1 = 181 + 9 * v.toInt.toNat by omega]
      rw [g1] at c_e37_
      obtain rfl := c_e37_
      have E1 := x10echo c_hs42_ ⟨hv.1, by omega, by omega⟩ (by rw [g0]; exact kb) cb c_h24_
      rw [g0] at E1
      obtain rfl := d_e33_
      have E2 := x12echo d_hs46_ hR.1.2.2.2.2.1 cb d_h16_ d_h40_ (by omega)
      rw [hu, x12reach d_hs41_ (by omega)] at E2
      have rb := reachI_b (D.1 (50, 0, 0) (180 + 9 * v.toInt.toNat)).toInt
      have E3 := fr_own hR.1.2.2.2.2.1 hD.2.1 hv rfl cb d_h16_ rb.2 E2
      have ee : c_r38_ = d_r42_ := i32e (EchoP_uniq E1 E3)
      exfalso
      have := eT ee
      omega
    · obtain rfl : d_j34_ = 181 + 9 * v.toInt.toNat := by omega
      have qd_hs5_ := is2x d_hs5_
      have qd_hs11_ := x12clk d_hs11_
      have yd_e33_ := eT d_e33_
      have yrd_ := eT d_hr_
      exact i32e (by omega)
    · have qd_hs5_ := is2x d_hs5_
      have qd_hs11_ := x12clk d_hs11_
      have yrd_ := eT d_hr_
      exfalso; omega
    · have qd_hs5_ := is2x d_hs5_
      have qd_hs11_ := x12clk d_hs11_
      have yrd_ := eT d_hr_
      exfalso; omega
    · have qd_hs5_ := is2x d_hs5_
      have qd_hs11_ := x12clk d_hs11_
      have yrd_ := eT d_hr_
      exfalso; omega
    · have qd_hs5_ := is2x d_hs5_
      have yrd_ := eT d_hr_
      exfalso; omega
  · have qc_hs5_ := x10has c_hs5_
    have qc_hs11_ := x2clk c_hs11_
    have qc_hs68_ := err1 c_hs68_
    have yrc_ := eT c_hr_
    unfold SP_X12_echo at h2
    rcases h2 with (⟨d_hs5_, d_h4_, (⟨d_hs11_, d_h10_, (⟨d_hs17_, d_h16_, (⟨d_hs23_, d_h22_, d_r25_, d_hs29_, d_h28_, d_z30_, d_h31_, d_j34_, d_h35_, d_z32_, d_e33_, d_h36_, d_r37_, d_hs41_, d_h40_, d_r42_, d_hs46_, d_h45_, (⟨d_h47_, d_r48_, d_hs52_, d_h51_, d_r53_, d_hs57_, d_h56_, d_z58_, d_h59_, d_z60_, d_h61_, d_M63_, d_hI66_, d_hF67_, d_r62_, d_hs69_, d_r70_, d_hs74_, d_h73_, d_z75_, d_h76_, d_j79_, d_h80_, d_z77_, d_e78_, d_h81_, (⟨d_e82_, d_hr_, d_hM_⟩ | ⟨d_e82_, d_r83_, d_hs87_, d_hr_, d_hM_⟩ | ⟨d_e82_, d_hr_, d_hM_⟩ | ⟨d_e82_, d_r88_, d_hs92_, d_hr_, d_hM_⟩ | ⟨d_e82_, d_r93_, d_hs97_, d_hr_, d_hM_⟩ | ⟨d_e82_, d_r98_, d_hs102_, d_h101_, d_z103_, d_h104_, d_z105_, d_h106_, d_M108_, -, d_hF112_, d_r107_, d_hs114_, d_h110_, (⟨d_h115_, d_hr_, d_hM_⟩ | ⟨d_h115_, d_hr_, d_hM_⟩)⟩)⟩ | ⟨d_h47_, d_M117_, -, d_hF121_, d_r116_, d_hs123_, d_h119_, d_hr_, d_hM_⟩)⟩ | ⟨d_hs23_, d_h22_, d_M126_, -, d_hF130_, d_r125_, d_hs132_, d_h128_, d_hr_, d_hM_⟩)⟩ | ⟨d_hs17_, d_h16_, d_M135_, -, d_hF139_, d_r134_, d_hs141_, d_h137_, d_hr_, d_hM_⟩)⟩ | ⟨d_hs11_, d_M144_, -, d_hF148_, d_r143_, d_hs150_, d_h146_, d_hr_, d_hM_⟩)⟩ | ⟨d_hs5_, d_M153_, -, d_hF157_, d_r152_, d_hs159_, d_h155_, d_hr_, d_hM_⟩)
    · obtain rfl : d_j34_ = 181 + 9 * v.toInt.toNat := by omega
      obtain rfl : d_j79_ = 182 + 9 * v.toInt.toNat := by omega
      have qd_hs5_ := is2x d_hs5_
      have qd_hs11_ := x12clk d_hs11_
      have yd_e33_ := eT d_e33_
      have yd_e78_ := eT d_e78_
      have yrd_ := eT d_hr_
      exfalso; omega
    · obtain rfl : d_j34_ = 181 + 9 * v.toInt.toNat := by omega
      obtain rfl : d_j79_ = 182 + 9 * v.toInt.toNat := by omega
      have qd_hs5_ := is2x d_hs5_
      have qd_hs11_ := x12clk d_hs11_
      have yd_e33_ := eT d_e33_
      have yd_e78_ := eT d_e78_
      have yrd_ := eT d_hr_
      exfalso; omega
    · obtain rfl : d_j34_ = 181 + 9 * v.toInt.toNat := by omega
      obtain rfl : d_j79_ = 182 + 9 * v.toInt.toNat := by omega
      have qd_hs5_ := is2x d_hs5_
      have qd_hs11_ := x12clk d_hs11_
      have yd_e33_ := eT d_e33_
      have yd_e78_ := eT d_e78_
      have yrd_ := eT d_hr_
      exfalso; omega
    · obtain rfl : d_j34_ = 181 + 9 * v.toInt.toNat := by omega
      obtain rfl : d_j79_ = 182 + 9 * v.toInt.toNat := by omega
      have qd_hs5_ := is2x d_hs5_
      have qd_hs11_ := x12clk d_hs11_
      have yd_e33_ := eT d_e33_
      have yd_e78_ := eT d_e78_
      have yrd_ := eT d_hr_
      exfalso; omega
    · obtain rfl : d_j34_ = 181 + 9 * v.toInt.toNat := by omega
      obtain rfl : d_j79_ = 182 + 9 * v.toInt.toNat := by omega
      have qd_hs5_ := is2x d_hs5_
      have qd_hs11_ := x12clk d_hs11_
      have yd_e33_ := eT d_e33_
      have yd_e78_ := eT d_e78_
      have yrd_ := eT d_hr_
      exfalso; omega
    · obtain rfl : d_j34_ = 181 + 9 * v.toInt.toNat := by omega
      obtain rfl : d_j79_ = 182 + 9 * v.toInt.toNat := by omega
      have qd_hs5_ := is2x d_hs5_
      have qd_hs11_ := x12clk d_hs11_
      have yd_e33_ := eT d_e33_
      have yd_e78_ := eT d_e78_
      have yrd_ := eT d_hr_
      exfalso; omega
    · obtain rfl : d_j34_ = 181 + 9 * v.toInt.toNat := by omega
      obtain rfl : d_j79_ = 182 + 9 * v.toInt.toNat := by omega
      have qd_hs5_ := is2x d_hs5_
      have qd_hs11_ := x12clk d_hs11_
      have yd_e33_ := eT d_e33_
      have yd_e78_ := eT d_e78_
      have yrd_ := eT d_hr_
      exfalso; omega
    · obtain rfl : d_j34_ = 181 + 9 * v.toInt.toNat := by omega
      have qd_hs5_ := is2x d_hs5_
      have qd_hs11_ := x12clk d_hs11_
      have yd_e33_ := eT d_e33_
      have yrd_ := eT d_hr_
      exfalso; omega
    · have qd_hs5_ := is2x d_hs5_
      have qd_hs11_ := x12clk d_hs11_
      have yrd_ := eT d_hr_
      exact i32e (by omega)
    · have qd_hs5_ := is2x d_hs5_
      have qd_hs11_ := x12clk d_hs11_
      have yrd_ := eT d_hr_
      exact i32e (by omega)
    · have qd_hs5_ := is2x d_hs5_
      have qd_hs11_ := x12clk d_hs11_
      have yrd_ := eT d_hr_
      exact i32e (by omega)
    · have qd_hs5_ := is2x d_hs5_
      have yrd_ := eT d_hr_
      exact i32e (by omega)
  · have qc_hs5_ := x10has c_hs5_
    have qc_hs11_ := x2clk c_hs11_
    have qc_hs77_ := err1 c_hs77_
    have yrc_ := eT c_hr_
    unfold SP_X12_echo at h2
    rcases h2 with (⟨d_hs5_, d_h4_, (⟨d_hs11_, d_h10_, (⟨d_hs17_, d_h16_, (⟨d_hs23_, d_h22_, d_r25_, d_hs29_, d_h28_, d_z30_, d_h31_, d_j34_, d_h35_, d_z32_, d_e33_, d_h36_, d_r37_, d_hs41_, d_h40_, d_r42_, d_hs46_, d_h45_, (⟨d_h47_, d_r48_, d_hs52_, d_h51_, d_r53_, d_hs57_, d_h56_, d_z58_, d_h59_, d_z60_, d_h61_, d_M63_, d_hI66_, d_hF67_, d_r62_, d_hs69_, d_r70_, d_hs74_, d_h73_, d_z75_, d_h76_, d_j79_, d_h80_, d_z77_, d_e78_, d_h81_, (⟨d_e82_, d_hr_, d_hM_⟩ | ⟨d_e82_, d_r83_, d_hs87_, d_hr_, d_hM_⟩ | ⟨d_e82_, d_hr_, d_hM_⟩ | ⟨d_e82_, d_r88_, d_hs92_, d_hr_, d_hM_⟩ | ⟨d_e82_, d_r93_, d_hs97_, d_hr_, d_hM_⟩ | ⟨d_e82_, d_r98_, d_hs102_, d_h101_, d_z103_, d_h104_, d_z105_, d_h106_, d_M108_, -, d_hF112_, d_r107_, d_hs114_, d_h110_, (⟨d_h115_, d_hr_, d_hM_⟩ | ⟨d_h115_, d_hr_, d_hM_⟩)⟩)⟩ | ⟨d_h47_, d_M117_, -, d_hF121_, d_r116_, d_hs123_, d_h119_, d_hr_, d_hM_⟩)⟩ | ⟨d_hs23_, d_h22_, d_M126_, -, d_hF130_, d_r125_, d_hs132_, d_h128_, d_hr_, d_hM_⟩)⟩ | ⟨d_hs17_, d_h16_, d_M135_, -, d_hF139_, d_r134_, d_hs141_, d_h137_, d_hr_, d_hM_⟩)⟩ | ⟨d_hs11_, d_M144_, -, d_hF148_, d_r143_, d_hs150_, d_h146_, d_hr_, d_hM_⟩)⟩ | ⟨d_hs5_, d_M153_, -, d_hF157_, d_r152_, d_hs159_, d_h155_, d_hr_, d_hM_⟩)
    · obtain rfl : d_j34_ = 181 + 9 * v.toInt.toNat := by omega
      obtain rfl : d_j79_ = 182 + 9 * v.toInt.toNat := by omega
      have qd_hs5_ := is2x d_hs5_
      have qd_hs11_ := x12clk d_hs11_
      have yd_e33_ := eT d_e33_
      have yd_e78_ := eT d_e78_
      have yrd_ := eT d_hr_
      exfalso; omega
    · obtain rfl : d_j34_ = 181 + 9 * v.toInt.toNat := by omega
      obtain rfl : d_j79_ = 182 + 9 * v.toInt.toNat := by omega
      have qd_hs5_ := is2x d_hs5_
      have qd_hs11_ := x12clk d_hs11_
      have yd_e33_ := eT d_e33_
      have yd_e78_ := eT d_e78_
      have yrd_ := eT d_hr_
      exfalso; omega
    · obtain rfl : d_j34_ = 181 + 9 * v.toInt.toNat := by omega
      obtain rfl : d_j79_ = 182 + 9 * v.toInt.toNat := by omega
      have qd_hs5_ := is2x d_hs5_
      have qd_hs11_ := x12clk d_hs11_
      have yd_e33_ := eT d_e33_
      have yd_e78_ := eT d_e78_
      have yrd_ := eT d_hr_
      exfalso; omega
    · obtain rfl : d_j34_ = 181 + 9 * v.toInt.toNat := by omega
      obtain rfl : d_j79_ = 182 + 9 * v.toInt.toNat := by omega
      have qd_hs5_ := is2x d_hs5_
      have qd_hs11_ := x12clk d_hs11_
      have yd_e33_ := eT d_e33_
      have yd_e78_ := eT d_e78_
      have yrd_ := eT d_hr_
      exfalso; omega
    · obtain rfl : d_j34_ = 181 + 9 * v.toInt.toNat := by omega
      obtain rfl : d_j79_ = 182 + 9 * v.toInt.toNat := by omega
      have qd_hs5_ := is2x d_hs5_
      have qd_hs11_ := x12clk d_hs11_
      have yd_e33_ := eT d_e33_
      have yd_e78_ := eT d_e78_
      have yrd_ := eT d_hr_
      exfalso; omega
    · obtain rfl : d_j34_ = 181 + 9 * v.toInt.toNat := by omega
      obtain rfl : d_j79_ = 182 + 9 * v.toInt.toNat := by omega
      have qd_hs5_ := is2x d_hs5_
      have qd_hs11_ := x12clk d_hs11_
      have yd_e33_ := eT d_e33_
      have yd_e78_ := eT d_e78_
      have yrd_ := eT d_hr_
      exfalso; omega
    · obtain rfl : d_j34_ = 181 + 9 * v.toInt.toNat := by omega
      obtain rfl : d_j79_ = 182 + 9 * v.toInt.toNat := by omega
      have qd_hs5_ := is2x d_hs5_
      have qd_hs11_ := x12clk d_hs11_
      have yd_e33_ := eT d_e33_
      have yd_e78_ := eT d_e78_
      have yrd_ := eT d_hr_
      exfalso; omega
    · obtain rfl : d_j34_ = 181 + 9 * v.toInt.toNat := by omega
      have qd_hs5_ := is2x d_hs5_
      have qd_hs11_ := x12clk d_hs11_
      have yd_e33_ := eT d_e33_
      have yrd_ := eT d_hr_
      exfalso; omega
    · have qd_hs5_ := is2x d_hs5_
      have qd_hs11_ := x12clk d_hs11_
      have yrd_ := eT d_hr_
      exact i32e (by omega)
    · have qd_hs5_ := is2x d_hs5_
      have qd_hs11_ := x12clk d_hs11_
      have yrd_ := eT d_hr_
      exact i32e (by omega)
    · have qd_hs5_ := is2x d_hs5_
      have qd_hs11_ := x12clk d_hs11_
      have yrd_ := eT d_hr_
      exact i32e (by omega)
    · have qd_hs5_ := is2x d_hs5_
      have yrd_ := eT d_hr_
      exact i32e (by omega)
  · have qc_hs5_ := x10has c_hs5_
    have qc_hs86_ := err1 c_hs86_
    have yrc_ := eT c_hr_
    unfold SP_X12_echo at h2
    rcases h2 with (⟨d_hs5_, d_h4_, (⟨d_hs11_, d_h10_, (⟨d_hs17_, d_h16_, (⟨d_hs23_, d_h22_, d_r25_, d_hs29_, d_h28_, d_z30_, d_h31_, d_j34_, d_h35_, d_z32_, d_e33_, d_h36_, d_r37_, d_hs41_, d_h40_, d_r42_, d_hs46_, d_h45_, (⟨d_h47_, d_r48_, d_hs52_, d_h51_, d_r53_, d_hs57_, d_h56_, d_z58_, d_h59_, d_z60_, d_h61_, d_M63_, d_hI66_, d_hF67_, d_r62_, d_hs69_, d_r70_, d_hs74_, d_h73_, d_z75_, d_h76_, d_j79_, d_h80_, d_z77_, d_e78_, d_h81_, (⟨d_e82_, d_hr_, d_hM_⟩ | ⟨d_e82_, d_r83_, d_hs87_, d_hr_, d_hM_⟩ | ⟨d_e82_, d_hr_, d_hM_⟩ | ⟨d_e82_, d_r88_, d_hs92_, d_hr_, d_hM_⟩ | ⟨d_e82_, d_r93_, d_hs97_, d_hr_, d_hM_⟩ | ⟨d_e82_, d_r98_, d_hs102_, d_h101_, d_z103_, d_h104_, d_z105_, d_h106_, d_M108_, -, d_hF112_, d_r107_, d_hs114_, d_h110_, (⟨d_h115_, d_hr_, d_hM_⟩ | ⟨d_h115_, d_hr_, d_hM_⟩)⟩)⟩ | ⟨d_h47_, d_M117_, -, d_hF121_, d_r116_, d_hs123_, d_h119_, d_hr_, d_hM_⟩)⟩ | ⟨d_hs23_, d_h22_, d_M126_, -, d_hF130_, d_r125_, d_hs132_, d_h128_, d_hr_, d_hM_⟩)⟩ | ⟨d_hs17_, d_h16_, d_M135_, -, d_hF139_, d_r134_, d_hs141_, d_h137_, d_hr_, d_hM_⟩)⟩ | ⟨d_hs11_, d_M144_, -, d_hF148_, d_r143_, d_hs150_, d_h146_, d_hr_, d_hM_⟩)⟩ | ⟨d_hs5_, d_M153_, -, d_hF157_, d_r152_, d_hs159_, d_h155_, d_hr_, d_hM_⟩)
    · obtain rfl : d_j34_ = 181 + 9 * v.toInt.toNat := by omega
      obtain rfl : d_j79_ = 182 + 9 * v.toInt.toNat := by omega
      have qd_hs5_ := is2x d_hs5_
      have qd_hs11_ := x12clk d_hs11_
      have yd_e33_ := eT d_e33_
      have yd_e78_ := eT d_e78_
      have yrd_ := eT d_hr_
      exfalso; omega
    · obtain rfl : d_j34_ = 181 + 9 * v.toInt.toNat := by omega
      obtain rfl : d_j79_ = 182 + 9 * v.toInt.toNat := by omega
      have qd_hs5_ := is2x d_hs5_
      have qd_hs11_ := x12clk d_hs11_
      have yd_e33_ := eT d_e33_
      have yd_e78_ := eT d_e78_
      have yrd_ := eT d_hr_
      exfalso; omega
    · obtain rfl : d_j34_ = 181 + 9 * v.toInt.toNat := by omega
      obtain rfl : d_j79_ = 182 + 9 * v.toInt.toNat := by omega
      have qd_hs5_ := is2x d_hs5_
      have qd_hs11_ := x12clk d_hs11_
      have yd_e33_ := eT d_e33_
      have yd_e78_ := eT d_e78_
      have yrd_ := eT d_hr_
      exfalso; omega
    · obtain rfl : d_j34_ = 181 + 9 * v.toInt.toNat := by omega
      obtain rfl : d_j79_ = 182 + 9 * v.toInt.toNat := by omega
      have qd_hs5_ := is2x d_hs5_
      have qd_hs11_ := x12clk d_hs11_
      have yd_e33_ := eT d_e33_
      have yd_e78_ := eT d_e78_
      have yrd_ := eT d_hr_
      exfalso; omega
    · obtain rfl : d_j34_ = 181 + 9 * v.toInt.toNat := by omega
      obtain rfl : d_j79_ = 182 + 9 * v.toInt.toNat := by omega
      have qd_hs5_ := is2x d_hs5_
      have qd_hs11_ := x12clk d_hs11_
      have yd_e33_ := eT d_e33_
      have yd_e78_ := eT d_e78_
      have yrd_ := eT d_hr_
      exfalso; omega
    · obtain rfl : d_j34_ = 181 + 9 * v.toInt.toNat := by omega
      obtain rfl : d_j79_ = 182 + 9 * v.toInt.toNat := by omega
      have qd_hs5_ := is2x d_hs5_
      have qd_hs11_ := x12clk d_hs11_
      have yd_e33_ := eT d_e33_
      have yd_e78_ := eT d_e78_
      have yrd_ := eT d_hr_
      exfalso; omega
    · obtain rfl : d_j34_ = 181 + 9 * v.toInt.toNat := by omega
      obtain rfl : d_j79_ = 182 + 9 * v.toInt.toNat := by omega
      have qd_hs5_ := is2x d_hs5_
      have qd_hs11_ := x12clk d_hs11_
      have yd_e33_ := eT d_e33_
      have yd_e78_ := eT d_e78_
      have yrd_ := eT d_hr_
      exfalso; omega
    · obtain rfl : d_j34_ = 181 + 9 * v.toInt.toNat := by omega
      have qd_hs5_ := is2x d_hs5_
      have qd_hs11_ := x12clk d_hs11_
      have yd_e33_ := eT d_e33_
      have yrd_ := eT d_hr_
      exfalso; omega
    · have qd_hs5_ := is2x d_hs5_
      have qd_hs11_ := x12clk d_hs11_
      have yrd_ := eT d_hr_
      exact i32e (by omega)
    · have qd_hs5_ := is2x d_hs5_
      have qd_hs11_ := x12clk d_hs11_
      have yrd_ := eT d_hr_
      exact i32e (by omega)
    · have qd_hs5_ := is2x d_hs5_
      have qd_hs11_ := x12clk d_hs11_
      have yrd_ := eT d_hr_
      exact i32e (by omega)
    · have qd_hs5_ := is2x d_hs5_
      have yrd_ := eT d_hr_
      exact i32e (by omega)
end
section
/-! the calls step by step, the full relation -/
theorem sy_0 {v : Int32} {u : Int32} {M M1 M2 : mM} {r1 r2 : Int32} (h : RY M.1) (hD0 : InvD M) (hD : InvD M1) (hD2 : InvD M2) (hF1 : FR S_c_X11_thing M M1) (hs1 : SP_X11_thing v u M r1 M1) (hF2 : FR S_c_X12_thing_ M1 M2) (hs2 : SP_X12_thing_ v u M1 r2 M2) : RY M2.1 ∧ r1 = r2 := by
  have hx := (st_0 h.1 hD0 hF1 hs1 hF2 hs2).1
  have s1 : cC S_c_X11_thing := fun c k q => by simp only [S_c_X11_thing, or_false] at q; omega
  have s2 : cD S_c_X12_thing_ := fun c k q => by simp only [S_c_X12_thing_, or_false] at q; omega
  have c1 : ∀ (c : rf) (k : Nat), c.1 = 12 ∨ 50 ≤ c.1 → M1.1 c k = M.1 c k := fun c k a => hF1 c k (fun q => s1 c k q a)
  have c2 : ∀ (c : rf) (k : Nat), ¬ (c.1 = 12 ∨ 50 ≤ c.1) → M2.1 c k = M1.1 c k := fun c k a => hF2 c k (fun q => a (s2 c k q))
  have e50 : M1.1 (50, 0, 0) = M.1 (50, 0, 0) := funext fun k => c1 _ _ (by simp)
  have hR : RW 0 M.1 (M1.1 (50, 0, 0)) := by rw [e50]; exact h.2.2.1
  have hu : (M1.1 (12, 0, 0) 7).toInt = -1 := by rw [c1 _ _ (by simp)]; exact h.2.1
  have h7 : (M2.1 (12, 0, 0) 7).toInt = -1 := by rw [hF2 (12, 0, 0) 7 (fun q => by simp only [S_c_X12_thing_, or_false] at q; omega)]; exact hu
  have B := cb_0 hs1 hs2 hR hD hu
  exact ⟨RY_of h hF1 hF2 s1 s2 hx hD2.2.1 hD2.2.2.1 h7 B.1 (Or.inl ⟨hF2 _ _ (fun q => by simp only [S_c_X12_thing_, or_false] at q; omega), fun c k a b q => by unfold wR at a; simp only [S_c_X11_thing, or_false] at q; omega, fun k q => by simp only [S_c_X12_thing_, or_false] at q; omega⟩) (SHR_keep h.2.2.2.2 (fun c k a => hF1 c k (fun q => by simp only [S_c_X11_thing, or_false] at q; omega)) (fun c k a => by rw [hF2 c k (fun q => by simp only [S_c_X12_thing_, or_false] at q; omega), c1 c k (by omega)])), B.2⟩
theorem sy_1 {v : Int32} {u : Int32} {M M1 M2 : mM} {r1 r2 : Int32} (h : RY M.1) (hD0 : InvD M) (hD : InvD M1) (hD2 : InvD M2) (hF1 : FR S_c_X11_thingIs M M1) (hs1 : SP_X11_thingIs v u M r1 M1) (hF2 : FR S_c_X12_thingIs M1 M2) (hs2 : SP_X12_thingIs v u M1 r2 M2) : RY M2.1 ∧ True := by
  have hx := (st_1 h.1 hD0 hF1 hs1 hF2 hs2).1
  have s1 : cC S_c_X11_thingIs := fun c k q => by simp only [S_c_X11_thingIs, or_false] at q; omega
  have s2 : cD S_c_X12_thingIs := fun c k q => by simp only [S_c_X12_thingIs, or_false] at q; omega
  have c1 : ∀ (c : rf) (k : Nat), c.1 = 12 ∨ 50 ≤ c.1 → M1.1 c k = M.1 c k := fun c k a => hF1 c k (fun q => s1 c k q a)
  have c2 : ∀ (c : rf) (k : Nat), ¬ (c.1 = 12 ∨ 50 ≤ c.1) → M2.1 c k = M1.1 c k := fun c k a => hF2 c k (fun q => a (s2 c k q))
  have e50 : M1.1 (50, 0, 0) = M.1 (50, 0, 0) := funext fun k => c1 _ _ (by simp)
  have hR : RW 0 M.1 (M1.1 (50, 0, 0)) := by rw [e50]; exact h.2.2.1
  have hu : (M1.1 (12, 0, 0) 7).toInt = -1 := by rw [c1 _ _ (by simp)]; exact h.2.1
  have h7 : (M2.1 (12, 0, 0) 7).toInt = -1 := by rw [hF2 (12, 0, 0) 7 (fun q => by simp only [S_c_X12_thingIs, or_false] at q; omega)]; exact hu
  exact ⟨RY_fr h hF1 hF2 s1 s2 hx hD2.2.1 hD2.2.2.1 (fun c k a b q => by unfold wR at a; simp only [S_c_X11_thingIs, or_false] at q; omega) (fun c k a q => by rcases a with rfl | rfl | ⟨rfl, rfl⟩ | a | a | a <;> (simp only [S_c_X12_thingIs, or_false] at q <;> omega)) (fun c k a q => by simp only [S_c_X11_thingIs, or_false] at q; omega) h7, trivial⟩
theorem sy_2 {v : Int32} {u : Int32} {t : Int32} {M M1 M2 : mM} {r1 r2 : Int32} (h : RY M.1) (hD0 : InvD M) (hD : InvD M1) (hD2 : InvD M2) (hF1 : FR S_c_X11_moves M M1) (hs1 : SP_X11_moves v u t M r1 M1) (hF2 : FR S_c_X12_moves M1 M2) (hs2 : SP_X12_moves v u t M1 r2 M2) : RY M2.1 ∧ r1 = r2 := by
  have hx := (st_2 h.1 hD0 hF1 hs1 hF2 hs2).1
  have s1 : cC S_c_X11_moves := fun c k q => by simp only [S_c_X11_moves, or_false] at q; omega
  have s2 : cD S_c_X12_moves := fun c k q => by simp only [S_c_X12_moves, or_false] at q; omega
  have c1 : ∀ (c : rf) (k : Nat), c.1 = 12 ∨ 50 ≤ c.1 → M1.1 c k = M.1 c k := fun c k a => hF1 c k (fun q => s1 c k q a)
  have c2 : ∀ (c : rf) (k : Nat), ¬ (c.1 = 12 ∨ 50 ≤ c.1) → M2.1 c k = M1.1 c k := fun c k a => hF2 c k (fun q => a (s2 c k q))
  have e50 : M1.1 (50, 0, 0) = M.1 (50, 0, 0) := funext fun k => c1 _ _ (by simp)
  have hR : RW 0 M.1 (M1.1 (50, 0, 0)) := by rw [e50]; exact h.2.2.1
  have hu : (M1.1 (12, 0, 0) 7).toInt = -1 := by rw [c1 _ _ (by simp)]; exact h.2.1
  have h7 : (M2.1 (12, 0, 0) 7).toInt = -1 := by rw [hF2 (12, 0, 0) 7 (fun q => by simp only [S_c_X12_moves, or_false] at q; omega)]; exact hu
  have B := cb_2 hs1 hs2 hR hD hu
  exact ⟨RY_of h hF1 hF2 s1 s2 hx hD2.2.1 hD2.2.2.1 h7 B.1 (Or.inl ⟨hF2 _ _ (fun q => by simp only [S_c_X12_moves, or_false] at q; omega), fun c k a b q => by unfold wR at a; simp only [S_c_X11_moves, or_false] at q; omega, fun k q => by simp only [S_c_X12_moves, or_false] at q; omega⟩) (SHR_keep h.2.2.2.2 (fun c k a => hF1 c k (fun q => by simp only [S_c_X11_moves, or_false] at q; omega)) (fun c k a => by rw [hF2 c k (fun q => by simp only [S_c_X12_moves, or_false] at q; omega), c1 c k (by omega)])), B.2⟩
theorem sy_3 {v : Int32} {M M1 M2 : mM} {r1 r2 : Int32} (h : RY M.1) (hD0 : InvD M) (hD : InvD M1) (hD2 : InvD M2) (hF1 : FR S_c_X11_away M M1) (hs1 : SP_X11_away v M r1 M1) (hF2 : FR S_c_X12_away M1 M2) (hs2 : SP_X12_away v M1 r2 M2) : RY M2.1 ∧ r1 = r2 := by
  have hx := (st_3 h.1 hD0 hF1 hs1 hF2 hs2).1
  have s1 : cC S_c_X11_away := fun c k q => by simp only [S_c_X11_away, or_false] at q; omega
  have s2 : cD S_c_X12_away := fun c k q => by simp only [S_c_X12_away, or_false] at q; omega
  have c1 : ∀ (c : rf) (k : Nat), c.1 = 12 ∨ 50 ≤ c.1 → M1.1 c k = M.1 c k := fun c k a => hF1 c k (fun q => s1 c k q a)
  have c2 : ∀ (c : rf) (k : Nat), ¬ (c.1 = 12 ∨ 50 ≤ c.1) → M2.1 c k = M1.1 c k := fun c k a => hF2 c k (fun q => a (s2 c k q))
  have e50 : M1.1 (50, 0, 0) = M.1 (50, 0, 0) := funext fun k => c1 _ _ (by simp)
  have hR : RW 0 M.1 (M1.1 (50, 0, 0)) := by rw [e50]; exact h.2.2.1
  have hu : (M1.1 (12, 0, 0) 7).toInt = -1 := by rw [c1 _ _ (by simp)]; exact h.2.1
  have h7 : (M2.1 (12, 0, 0) 7).toInt = -1 := by rw [hF2 (12, 0, 0) 7 (fun q => by simp only [S_c_X12_away, or_false] at q; omega)]; exact hu
  have B := cb_3 hs1 hs2 hR hD hu
  exact ⟨RY_of h hF1 hF2 s1 s2 hx hD2.2.1 hD2.2.2.1 h7 B.1 (Or.inl ⟨hF2 _ _ (fun q => by simp only [S_c_X12_away, or_false] at q; omega), fun c k a b q => by unfold wR at a; simp only [S_c_X11_away, or_false] at q; omega, fun k q => by simp only [S_c_X12_away, or_false] at q; omega⟩) (SHR_keep h.2.2.2.2 (fun c k a => hF1 c k (fun q => by simp only [S_c_X11_away, or_false] at q; omega)) (fun c k a => by rw [hF2 c k (fun q => by simp only [S_c_X12_away, or_false] at q; omega), c1 c k (by omega)])), B.2⟩
theorem sy_4 {v : Int32} {u : Int32} {t : Int32} {M M1 M2 : mM} {r1 r2 : Int32} (h : RY M.1) (hD0 : InvD M) (hD : InvD M1) (hD2 : InvD M2) (hF1 : FR S_c_X11_kind M M1) (hs1 : SP_X11_kind v u t M r1 M1) (hF2 : FR S_c_X12_kind M1 M2) (hs2 : SP_X12_kind v u t M1 r2 M2) : RY M2.1 ∧ True := by
  have hx := (st_4 h.1 hD0 hF1 hs1 hF2 hs2).1
  have s1 : cC S_c_X11_kind := fun c k q => by simp only [S_c_X11_kind, or_false] at q; omega
  have s2 : cD S_c_X12_kind := fun c k q => by simp only [S_c_X12_kind, or_false] at q; omega
  have c1 : ∀ (c : rf) (k : Nat), c.1 = 12 ∨ 50 ≤ c.1 → M1.1 c k = M.1 c k := fun c k a => hF1 c k (fun q => s1 c k q a)
  have c2 : ∀ (c : rf) (k : Nat), ¬ (c.1 = 12 ∨ 50 ≤ c.1) → M2.1 c k = M1.1 c k := fun c k a => hF2 c k (fun q => a (s2 c k q))
  have e50 : M1.1 (50, 0, 0) = M.1 (50, 0, 0) := funext fun k => c1 _ _ (by simp)
  have hR : RW 0 M.1 (M1.1 (50, 0, 0)) := by rw [e50]; exact h.2.2.1
  have hu : (M1.1 (12, 0, 0) 7).toInt = -1 := by rw [c1 _ _ (by simp)]; exact h.2.1
  have h7 : (M2.1 (12, 0, 0) 7).toInt = -1 := by rw [hF2 (12, 0, 0) 7 (fun q => by simp only [S_c_X12_kind, or_false] at q; omega)]; exact hu
  have hL : LWR 0 M1.1 (M2.1 (50, 0, 0)) := LWR_keep (LWR_rx hx) (fun r k hr => (c2 _ _ (by dsimp only; omega)).symm) (fun _ _ => rfl)
  exact ⟨RY_of h hF1 hF2 s1 s2 hx hD2.2.1 hD2.2.2.1 h7 (cb_4 hF1 hs2 hR hD hL) (Or.inl ⟨hF2 _ _ (fun q => by simp only [S_c_X12_kind, or_false] at q; omega), fun c k a b q => by unfold wR at a; simp only [S_c_X11_kind, or_false] at q; omega, fun k q => by simp only [S_c_X12_kind, or_false] at q; omega⟩) (SHR_keep h.2.2.2.2 (fun c k a => hF1 c k (fun q => by simp only [S_c_X11_kind, or_false] at q; omega)) (fun c k a => by rw [hF2 c k (fun q => by simp only [S_c_X12_kind, or_false] at q; omega), c1 c k (by omega)])), trivial⟩
theorem sy_5 {v : Int32} {M M1 M2 : mM} {r1 r2 : Int32} (h : RY M.1) (hD0 : InvD M) (hD : InvD M1) (hD2 : InvD M2) (hF1 : FR S_c_X11_at M M1) (hs1 : SP_X11_at v M r1 M1) (hF2 : FR S_c_X12_at M1 M2) (hs2 : SP_X12_at v M1 r2 M2) : RY M2.1 ∧ True := by
  have hx := (st_5 h.1 hD0 hF1 hs1 hF2 hs2).1
  have s1 : cC S_c_X11_at := fun c k q => by simp only [S_c_X11_at, or_false] at q; omega
  have s2 : cD S_c_X12_at := fun c k q => by simp only [S_c_X12_at, or_false] at q; omega
  have c1 : ∀ (c : rf) (k : Nat), c.1 = 12 ∨ 50 ≤ c.1 → M1.1 c k = M.1 c k := fun c k a => hF1 c k (fun q => s1 c k q a)
  have c2 : ∀ (c : rf) (k : Nat), ¬ (c.1 = 12 ∨ 50 ≤ c.1) → M2.1 c k = M1.1 c k := fun c k a => hF2 c k (fun q => a (s2 c k q))
  have e50 : M1.1 (50, 0, 0) = M.1 (50, 0, 0) := funext fun k => c1 _ _ (by simp)
  have hR : RW 0 M.1 (M1.1 (50, 0, 0)) := by rw [e50]; exact h.2.2.1
  have hu : (M1.1 (12, 0, 0) 7).toInt = -1 := by rw [c1 _ _ (by simp)]; exact h.2.1
  have h7 : (M2.1 (12, 0, 0) 7).toInt = -1 := by rw [hF2 (12, 0, 0) 7 (fun q => by simp only [S_c_X12_at, or_false] at q; omega)]; exact hu
  exact ⟨RY_fr h hF1 hF2 s1 s2 hx hD2.2.1 hD2.2.2.1 (fun c k a b q => by unfold wR at a; simp only [S_c_X11_at, or_false] at q; omega) (fun c k a q => by rcases a with rfl | rfl | ⟨rfl, rfl⟩ | a | a | a <;> (simp only [S_c_X12_at, or_false] at q <;> omega)) (fun c k a q => by simp only [S_c_X11_at, or_false] at q; omega) h7, trivial⟩
theorem sy_6 {v : Int32} {u : Int32} {M M1 M2 : mM} {r1 r2 : Int32} (h : RY M.1) (hD0 : InvD M) (hD : InvD M1) (hD2 : InvD M2) (hF1 : FR S_c_X11_lays M M1) (hs1 : SP_X11_lays v u M r1 M1) (hF2 : FR S_c_X12_lays M1 M2) (hs2 : SP_X12_lays v u M1 r2 M2) : RY M2.1 ∧ r1 = r2 := by
  have hx := (st_6 h.1 hD0 hF1 hs1 hF2 hs2).1
  have s1 : cC S_c_X11_lays := fun c k q => by simp only [S_c_X11_lays, or_false] at q; omega
  have s2 : cD S_c_X12_lays := fun c k q => by simp only [S_c_X12_lays, or_false] at q; omega
  have c1 : ∀ (c : rf) (k : Nat), c.1 = 12 ∨ 50 ≤ c.1 → M1.1 c k = M.1 c k := fun c k a => hF1 c k (fun q => s1 c k q a)
  have c2 : ∀ (c : rf) (k : Nat), ¬ (c.1 = 12 ∨ 50 ≤ c.1) → M2.1 c k = M1.1 c k := fun c k a => hF2 c k (fun q => a (s2 c k q))
  have e50 : M1.1 (50, 0, 0) = M.1 (50, 0, 0) := funext fun k => c1 _ _ (by simp)
  have hR : RW 0 M.1 (M1.1 (50, 0, 0)) := by rw [e50]; exact h.2.2.1
  have hu : (M1.1 (12, 0, 0) 7).toInt = -1 := by rw [c1 _ _ (by simp)]; exact h.2.1
  have h7 : (M2.1 (12, 0, 0) 7).toInt = -1 := by rw [hF2 (12, 0, 0) 7 (fun q => by simp only [S_c_X12_lays, or_false] at q; omega)]; exact hu
  have B := cb_6 hs1 hs2 hR hD hu (SHR_keep h.2.2.2.2 (fun _ _ _ => rfl) (fun c k a => c1 c k (by omega)))
  exact ⟨RY_of h hF1 hF2 s1 s2 hx hD2.2.1 hD2.2.2.1 h7 B.1 (Or.inl ⟨hF2 _ _ (fun q => by simp only [S_c_X12_lays, or_false] at q; omega), fun c k a b q => by unfold wR at a; simp only [S_c_X11_lays, or_false] at q; omega, fun k q => by simp only [S_c_X12_lays, or_false] at q; omega⟩) (SHR_keep h.2.2.2.2 (fun c k a => hF1 c k (fun q => by simp only [S_c_X11_lays, or_false] at q; omega)) (fun c k a => by rw [hF2 c k (fun q => by simp only [S_c_X12_lays, or_false] at q; omega), c1 c k (by omega)])), B.2⟩
theorem sy_7 {v : Int32} {u : Int32} {M M1 M2 : mM} {r1 r2 : Int32} (h : RY M.1) (hD0 : InvD M) (hD : InvD M1) (hD2 : InvD M2) (hF1 : FR S_c_X11_air M M1) (hs1 : SP_X11_air v u M r1 M1) (hF2 : FR S_c_X12_air M1 M2) (hs2 : SP_X12_air v u M1 r2 M2) : RY M2.1 ∧ True := by
  have hx := (st_7 h.1 hD0 hF1 hs1 hF2 hs2).1
  have s1 : cC S_c_X11_air := fun c k q => by simp only [S_c_X11_air, or_false] at q; omega
  have s2 : cD S_c_X12_air := fun c k q => by simp only [S_c_X12_air, or_false] at q; omega
  have c1 : ∀ (c : rf) (k : Nat), c.1 = 12 ∨ 50 ≤ c.1 → M1.1 c k = M.1 c k := fun c k a => hF1 c k (fun q => s1 c k q a)
  have c2 : ∀ (c : rf) (k : Nat), ¬ (c.1 = 12 ∨ 50 ≤ c.1) → M2.1 c k = M1.1 c k := fun c k a => hF2 c k (fun q => a (s2 c k q))
  have e50 : M1.1 (50, 0, 0) = M.1 (50, 0, 0) := funext fun k => c1 _ _ (by simp)
  have hR : RW 0 M.1 (M1.1 (50, 0, 0)) := by rw [e50]; exact h.2.2.1
  have hu : (M1.1 (12, 0, 0) 7).toInt = -1 := by rw [c1 _ _ (by simp)]; exact h.2.1
  have h7 : (M2.1 (12, 0, 0) 7).toInt = -1 := by rw [hF2 (12, 0, 0) 7 (fun q => by simp only [S_c_X12_air, or_false] at q; omega)]; exact hu
  have hL : LWR 0 M1.1 (M2.1 (50, 0, 0)) := LWR_keep (LWR_rx hx) (fun r k hr => (c2 _ _ (by dsimp only; omega)).symm) (fun _ _ => rfl)
  exact ⟨RY_of h hF1 hF2 s1 s2 hx hD2.2.1 hD2.2.2.1 h7 (cb_7 hF1 hs2 hR hD hL) (Or.inl ⟨hF2 _ _ (fun q => by simp only [S_c_X12_air, or_false] at q; omega), fun c k a b q => by unfold wR at a; simp only [S_c_X11_air, or_false] at q; omega, fun k q => by simp only [S_c_X12_air, or_false] at q; omega⟩) (SHR_keep h.2.2.2.2 (fun c k a => hF1 c k (fun q => by simp only [S_c_X11_air, or_false] at q; omega)) (fun c k a => by rw [hF2 c k (fun q => by simp only [S_c_X12_air, or_false] at q; omega), c1 c k (by omega)])), trivial⟩
theorem sy_8 {v : Int32} {u : Int32} {t : Int32} {M M1 M2 : mM} {r1 r2 : Int32} (h : RY M.1) (hD0 : InvD M) (hD : InvD M1) (hD2 : InvD M2) (hF1 : FR S_c_X11_walker M M1) (hs1 : SP_X11_walker v u t M r1 M1) (hF2 : FR S_c_X12_walker M1 M2) (hs2 : SP_X12_walker v u t M1 r2 M2) : RY M2.1 ∧ r1 = r2 := by
  have hx := (st_8 h.1 hD0 hF1 hs1 hF2 hs2).1
  have s1 : cC S_c_X11_walker := fun c k q => by simp only [S_c_X11_walker, or_false] at q; omega
  have s2 : cD S_c_X12_walker := fun c k q => by simp only [S_c_X12_walker, or_false] at q; omega
  have c1 : ∀ (c : rf) (k : Nat), c.1 = 12 ∨ 50 ≤ c.1 → M1.1 c k = M.1 c k := fun c k a => hF1 c k (fun q => s1 c k q a)
  have c2 : ∀ (c : rf) (k : Nat), ¬ (c.1 = 12 ∨ 50 ≤ c.1) → M2.1 c k = M1.1 c k := fun c k a => hF2 c k (fun q => a (s2 c k q))
  have e50 : M1.1 (50, 0, 0) = M.1 (50, 0, 0) := funext fun k => c1 _ _ (by simp)
  have hR : RW 0 M.1 (M1.1 (50, 0, 0)) := by rw [e50]; exact h.2.2.1
  have hu : (M1.1 (12, 0, 0) 7).toInt = -1 := by rw [c1 _ _ (by simp)]; exact h.2.1
  have h7 : (M2.1 (12, 0, 0) 7).toInt = -1 := by rw [hF2 (12, 0, 0) 7 (fun q => by simp only [S_c_X12_walker, or_false] at q; omega)]; exact hu
  have B := cb_8 hs1 hs2 hR hD hu
  exact ⟨RY_of h hF1 hF2 s1 s2 hx hD2.2.1 hD2.2.2.1 h7 B.1 (Or.inl ⟨hF2 _ _ (fun q => by simp only [S_c_X12_walker, or_false] at q; omega), fun c k a b q => by unfold wR at a; simp only [S_c_X11_walker, or_false] at q; omega, fun k q => by simp only [S_c_X12_walker, or_false] at q; omega⟩) (SHR_keep h.2.2.2.2 (fun c k a => hF1 c k (fun q => by simp only [S_c_X11_walker, or_false] at q; omega)) (fun c k a => by rw [hF2 c k (fun q => by simp only [S_c_X12_walker, or_false] at q; omega), c1 c k (by omega)])), B.2⟩
theorem sy_9 {v : Int32} {u : Int32} {M M1 M2 : mM} {r1 r2 : Int32} (h : RY M.1) (hD0 : InvD M) (hD : InvD M1) (hD2 : InvD M2) (hF1 : FR S_c_X11_walkerIs M M1) (hs1 : SP_X11_walkerIs v u M r1 M1) (hF2 : FR S_c_X12_walkerIs M1 M2) (hs2 : SP_X12_walkerIs v u M1 r2 M2) : RY M2.1 ∧ True := by
  have hx := (st_9 h.1 hD0 hF1 hs1 hF2 hs2).1
  have s1 : cC S_c_X11_walkerIs := fun c k q => by simp only [S_c_X11_walkerIs, or_false] at q; omega
  have s2 : cD S_c_X12_walkerIs := fun c k q => by simp only [S_c_X12_walkerIs, or_false] at q; omega
  have c1 : ∀ (c : rf) (k : Nat), c.1 = 12 ∨ 50 ≤ c.1 → M1.1 c k = M.1 c k := fun c k a => hF1 c k (fun q => s1 c k q a)
  have c2 : ∀ (c : rf) (k : Nat), ¬ (c.1 = 12 ∨ 50 ≤ c.1) → M2.1 c k = M1.1 c k := fun c k a => hF2 c k (fun q => a (s2 c k q))
  have e50 : M1.1 (50, 0, 0) = M.1 (50, 0, 0) := funext fun k => c1 _ _ (by simp)
  have hR : RW 0 M.1 (M1.1 (50, 0, 0)) := by rw [e50]; exact h.2.2.1
  have hu : (M1.1 (12, 0, 0) 7).toInt = -1 := by rw [c1 _ _ (by simp)]; exact h.2.1
  have h7 : (M2.1 (12, 0, 0) 7).toInt = -1 := by rw [hF2 (12, 0, 0) 7 (fun q => by simp only [S_c_X12_walkerIs, or_false] at q; omega)]; exact hu
  exact ⟨RY_fr h hF1 hF2 s1 s2 hx hD2.2.1 hD2.2.2.1 (fun c k a b q => by unfold wR at a; simp only [S_c_X11_walkerIs, or_false] at q; omega) (fun c k a q => by rcases a with rfl | rfl | ⟨rfl, rfl⟩ | a | a | a <;> (simp only [S_c_X12_walkerIs, or_false] at q <;> omega)) (fun c k a q => by simp only [S_c_X11_walkerIs, or_false] at q; omega) h7, trivial⟩
theorem sy_10 {v : Int32} {u : Int32} {M M1 M2 : mM} {r1 r2 : Int32} (h : RY M.1) (hD0 : InvD M) (hD : InvD M1) (hD2 : InvD M2) (hF1 : FR S_c_X11_as M M1) (hs1 : SP_X11_as v u M r1 M1) (hF2 : FR S_c_X12_as M1 M2) (hs2 : SP_X12_as v u M1 r2 M2) : RY M2.1 ∧ True := by
  have hx := (st_10 h.1 hD0 hF1 hs1 hF2 hs2).1
  have s1 : cC S_c_X11_as := fun c k q => by simp only [S_c_X11_as, or_false] at q; omega
  have s2 : cD S_c_X12_as := fun c k q => by simp only [S_c_X12_as, or_false] at q; omega
  have c1 : ∀ (c : rf) (k : Nat), c.1 = 12 ∨ 50 ≤ c.1 → M1.1 c k = M.1 c k := fun c k a => hF1 c k (fun q => s1 c k q a)
  have c2 : ∀ (c : rf) (k : Nat), ¬ (c.1 = 12 ∨ 50 ≤ c.1) → M2.1 c k = M1.1 c k := fun c k a => hF2 c k (fun q => a (s2 c k q))
  have e50 : M1.1 (50, 0, 0) = M.1 (50, 0, 0) := funext fun k => c1 _ _ (by simp)
  have hR : RW 0 M.1 (M1.1 (50, 0, 0)) := by rw [e50]; exact h.2.2.1
  have hu : (M1.1 (12, 0, 0) 7).toInt = -1 := by rw [c1 _ _ (by simp)]; exact h.2.1
  have h7 : (M2.1 (12, 0, 0) 7).toInt = -1 := by rw [hF2 (12, 0, 0) 7 (fun q => by simp only [S_c_X12_as, or_false] at q; omega)]; exact hu
  exact ⟨RY_fr h hF1 hF2 s1 s2 hx hD2.2.1 hD2.2.2.1 (fun c k a b q => by unfold wR at a; simp only [S_c_X11_as, or_false] at q; omega) (fun c k a q => by rcases a with rfl | rfl | ⟨rfl, rfl⟩ | a | a | a <;> (simp only [S_c_X12_as, or_false] at q <;> omega)) (fun c k a q => by simp only [S_c_X11_as, or_false] at q; omega) h7, trivial⟩
theorem sy_11 {v : Int32} {u : Int32} {t : Int32} {s : Int32} {M M1 M2 : mM} {r1 r2 : Int32} (h : RY M.1) (hD0 : InvD M) (hD : InvD M1) (hD2 : InvD M2) (hF1 : FR S_c_X11_habit M M1) (hs1 : SP_X11_habit v u t s M r1 M1) (hF2 : FR S_c_X12_habit M1 M2) (hs2 : SP_X12_habit v u t s M1 r2 M2) : RY M2.1 ∧ r1 = r2 := by
  have hx := (st_11 h.1 hD0 hF1 hs1 hF2 hs2).1
  have s1 : cC S_c_X11_habit := fun c k q => by simp only [S_c_X11_habit, or_false] at q; omega
  have s2 : cD S_c_X12_habit := fun c k q => by simp only [S_c_X12_habit, or_false] at q; omega
  have c1 : ∀ (c : rf) (k : Nat), c.1 = 12 ∨ 50 ≤ c.1 → M1.1 c k = M.1 c k := fun c k a => hF1 c k (fun q => s1 c k q a)
  have c2 : ∀ (c : rf) (k : Nat), ¬ (c.1 = 12 ∨ 50 ≤ c.1) → M2.1 c k = M1.1 c k := fun c k a => hF2 c k (fun q => a (s2 c k q))
  have e50 : M1.1 (50, 0, 0) = M.1 (50, 0, 0) := funext fun k => c1 _ _ (by simp)
  have hR : RW 0 M.1 (M1.1 (50, 0, 0)) := by rw [e50]; exact h.2.2.1
  have hu : (M1.1 (12, 0, 0) 7).toInt = -1 := by rw [c1 _ _ (by simp)]; exact h.2.1
  have h7 : (M2.1 (12, 0, 0) 7).toInt = -1 := by rw [hF2 (12, 0, 0) 7 (fun q => by simp only [S_c_X12_habit, or_false] at q; omega)]; exact hu
  have B := cb_11 hs1 hs2 hR hD hu
  exact ⟨RY_of h hF1 hF2 s1 s2 hx hD2.2.1 hD2.2.2.1 h7 B.1 (Or.inl ⟨hF2 _ _ (fun q => by simp only [S_c_X12_habit, or_false] at q; omega), fun c k a b q => by unfold wR at a; simp only [S_c_X11_habit, or_false] at q; omega, fun k q => by simp only [S_c_X12_habit, or_false] at q; omega⟩) (SHR_keep h.2.2.2.2 (fun c k a => hF1 c k (fun q => by simp only [S_c_X11_habit, or_false] at q; omega)) (fun c k a => by rw [hF2 c k (fun q => by simp only [S_c_X12_habit, or_false] at q; omega), c1 c k (by omega)])), B.2⟩
theorem sy_12 {v : Int32} {u : Int32} {M M1 M2 : mM} {r1 r2 : Int32} (h : RY M.1) (hD0 : InvD M) (hD : InvD M1) (hD2 : InvD M2) (hF1 : FR S_c_X11_face M M1) (hs1 : SP_X11_face v u M r1 M1) (hF2 : FR S_c_X12_face M1 M2) (hs2 : SP_X12_face v u M1 r2 M2) : RY M2.1 ∧ r1 = r2 := by
  have hx := (st_12 h.1 hD0 hF1 hs1 hF2 hs2).1
  have s1 : cC S_c_X11_face := fun c k q => by simp only [S_c_X11_face, or_false] at q; omega
  have s2 : cD S_c_X12_face := fun c k q => by simp only [S_c_X12_face, or_false] at q; omega
  have c1 : ∀ (c : rf) (k : Nat), c.1 = 12 ∨ 50 ≤ c.1 → M1.1 c k = M.1 c k := fun c k a => hF1 c k (fun q => s1 c k q a)
  have c2 : ∀ (c : rf) (k : Nat), ¬ (c.1 = 12 ∨ 50 ≤ c.1) → M2.1 c k = M1.1 c k := fun c k a => hF2 c k (fun q => a (s2 c k q))
  have e50 : M1.1 (50, 0, 0) = M.1 (50, 0, 0) := funext fun k => c1 _ _ (by simp)
  have hR : RW 0 M.1 (M1.1 (50, 0, 0)) := by rw [e50]; exact h.2.2.1
  have hu : (M1.1 (12, 0, 0) 7).toInt = -1 := by rw [c1 _ _ (by simp)]; exact h.2.1
  have h7 : (M2.1 (12, 0, 0) 7).toInt = -1 := by rw [hF2 (12, 0, 0) 7 (fun q => by simp only [S_c_X12_face, or_false] at q; omega)]; exact hu
  have B := cb_12 hs1 hs2 hR hD hu
  exact ⟨RY_of h hF1 hF2 s1 s2 hx hD2.2.1 hD2.2.2.1 h7 B.1 (Or.inl ⟨hF2 _ _ (fun q => by simp only [S_c_X12_face, or_false] at q; omega), fun c k a b q => by unfold wR at a; simp only [S_c_X11_face, or_false] at q; omega, fun k q => by simp only [S_c_X12_face, or_false] at q; omega⟩) (SHR_keep h.2.2.2.2 (fun c k a => hF1 c k (fun q => by simp only [S_c_X11_face, or_false] at q; omega)) (fun c k a => by rw [hF2 c k (fun q => by simp only [S_c_X12_face, or_false] at q; omega), c1 c k (by omega)])), B.2⟩
theorem sy_13 {v : Int32} {u : Int32} {M M1 M2 : mM} {r1 r2 : Int32} (h : RY M.1) (hD0 : InvD M) (hD : InvD M1) (hD2 : InvD M2) (hF1 : FR S_c_X11_goes M M1) (hs1 : SP_X11_goes v u M r1 M1) (hF2 : FR S_c_X12_goes M1 M2) (hs2 : SP_X12_goes v u M1 r2 M2) (hub : 0 ≤ u.toInt ∧ u.toInt ≤ 1) : RY M2.1 ∧ r1 = r2 := by
  have hx := (st_13 h.1 hD0 hF1 hs1 hF2 hs2).1
  have s1 : cC S_c_X11_goes := fun c k q => by simp only [S_c_X11_goes, or_false] at q; omega
  have s2 : cD S_c_X12_goes := fun c k q => by simp only [S_c_X12_goes, or_false] at q; omega
  have c1 : ∀ (c : rf) (k : Nat), c.1 = 12 ∨ 50 ≤ c.1 → M1.1 c k = M.1 c k := fun c k a => hF1 c k (fun q => s1 c k q a)
  have c2 : ∀ (c : rf) (k : Nat), ¬ (c.1 = 12 ∨ 50 ≤ c.1) → M2.1 c k = M1.1 c k := fun c k a => hF2 c k (fun q => a (s2 c k q))
  have e50 : M1.1 (50, 0, 0) = M.1 (50, 0, 0) := funext fun k => c1 _ _ (by simp)
  have hR : RW 0 M.1 (M1.1 (50, 0, 0)) := by rw [e50]; exact h.2.2.1
  have hu : (M1.1 (12, 0, 0) 7).toInt = -1 := by rw [c1 _ _ (by simp)]; exact h.2.1
  have h7 : (M2.1 (12, 0, 0) 7).toInt = -1 := by rw [hF2 (12, 0, 0) 7 (fun q => by simp only [S_c_X12_goes, or_false] at q; omega)]; exact hu
  have B := cb_13 hs1 hs2 hR hD hu hub
  exact ⟨RY_of h hF1 hF2 s1 s2 hx hD2.2.1 hD2.2.2.1 h7 B.1 (Or.inl ⟨hF2 _ _ (fun q => by simp only [S_c_X12_goes, or_false] at q; omega), fun c k a b q => by unfold wR at a; simp only [S_c_X11_goes, or_false] at q; omega, fun k q => by simp only [S_c_X12_goes, or_false] at q; omega⟩) (SHR_keep h.2.2.2.2 (fun c k a => hF1 c k (fun q => by simp only [S_c_X11_goes, or_false] at q; omega)) (fun c k a => by rw [hF2 c k (fun q => by simp only [S_c_X12_goes, or_false] at q; omega), c1 c k (by omega)])), B.2⟩
theorem sy_14 {v : Int64} {u : Int32} {M M1 M2 : mM} {r1 r2 : Int32} (h : RY M.1) (hD0 : InvD M) (hD : InvD M1) (hD2 : InvD M2) (hF1 : FR S_c_X11_feed M M1) (hs1 : SP_X11_feed v u M r1 M1) (hF2 : FR S_c_X12_feed M1 M2) (hs2 : SP_X12_feed v u M1 r2 M2) : RY M2.1 ∧ r1 = r2 := by
  have hx := (st_14 h.1 hD0 hF1 hs1 hF2 hs2).1
  have s1 : cC S_c_X11_feed := fun c k q => by simp only [S_c_X11_feed, or_false] at q; omega
  have s2 : cD S_c_X12_feed := fun c k q => by simp only [S_c_X12_feed, or_false] at q; omega
  have c1 : ∀ (c : rf) (k : Nat), c.1 = 12 ∨ 50 ≤ c.1 → M1.1 c k = M.1 c k := fun c k a => hF1 c k (fun q => s1 c k q a)
  have c2 : ∀ (c : rf) (k : Nat), ¬ (c.1 = 12 ∨ 50 ≤ c.1) → M2.1 c k = M1.1 c k := fun c k a => hF2 c k (fun q => a (s2 c k q))
  have e50 : M1.1 (50, 0, 0) = M.1 (50, 0, 0) := funext fun k => c1 _ _ (by simp)
  have hR : RW 0 M.1 (M1.1 (50, 0, 0)) := by rw [e50]; exact h.2.2.1
  have hu : (M1.1 (12, 0, 0) 7).toInt = -1 := by rw [c1 _ _ (by simp)]; exact h.2.1
  have h7 : (M2.1 (12, 0, 0) 7).toInt = -1 := by rw [hF2 (12, 0, 0) 7 (fun q => by simp only [S_c_X12_feed, or_false] at q; omega)]; exact hu
  have B := cb_14 hs1 hs2 hR hD hu (show M.1 (5, 0, 0) 1 = M1.1 (50, 0, 0) 4 from ((RXzg h.1 (d := (50, 0, 0)) (j := 4) (by unfold PRz; simp) (by simp)).trans (c1 _ _ (by simp)).symm))
  exact ⟨RY_of h hF1 hF2 s1 s2 hx hD2.2.1 hD2.2.2.1 h7 B.1 (Or.inl ⟨hF2 _ _ (fun q => by simp only [S_c_X12_feed, or_false] at q; omega), fun c k a b q => by unfold wR at a; simp only [S_c_X11_feed, or_false] at q; omega, fun k q => by simp only [S_c_X12_feed, or_false] at q; omega⟩) (SHR_keep h.2.2.2.2 (fun c k a => hF1 c k (fun q => by simp only [S_c_X11_feed, or_false] at q; omega)) (fun c k a => by rw [hF2 c k (fun q => by simp only [S_c_X12_feed, or_false] at q; omega), c1 c k (by omega)])), B.2⟩
theorem sy_15 {v : Int32} {M M1 M2 : mM} {r1 r2 : Int32} (h : RY M.1) (hD0 : InvD M) (hD : InvD M1) (hD2 : InvD M2) (hF1 : FR S_c_X11_text M M1) (hs1 : SP_X11_text v M r1 M1) (hF2 : FR S_c_X12_text_ M1 M2) (hs2 : SP_X12_text_ v M1 r2 M2) : RY M2.1 ∧ r1 = r2 := by
  have hx := (st_15 h.1 hD0 hF1 hs1 hF2 hs2).1
  have s1 : cC S_c_X11_text := fun c k q => by simp only [S_c_X11_text, or_false] at q; omega
  have s2 : cD S_c_X12_text_ := fun c k q => by simp only [S_c_X12_text_, or_false] at q; omega
  have c1 : ∀ (c : rf) (k : Nat), c.1 = 12 ∨ 50 ≤ c.1 → M1.1 c k = M.1 c k := fun c k a => hF1 c k (fun q => s1 c k q a)
  have c2 : ∀ (c : rf) (k : Nat), ¬ (c.1 = 12 ∨ 50 ≤ c.1) → M2.1 c k = M1.1 c k := fun c k a => hF2 c k (fun q => a (s2 c k q))
  have e50 : M1.1 (50, 0, 0) = M.1 (50, 0, 0) := funext fun k => c1 _ _ (by simp)
  have hR : RW 0 M.1 (M1.1 (50, 0, 0)) := by rw [e50]; exact h.2.2.1
  have hu : (M1.1 (12, 0, 0) 7).toInt = -1 := by rw [c1 _ _ (by simp)]; exact h.2.1
  have h7 : (M2.1 (12, 0, 0) 7).toInt = -1 := by rw [hF2 (12, 0, 0) 7 (fun q => by simp only [S_c_X12_text_, or_false] at q; omega)]; exact hu
  have B := cb_text hs1 hs2 hR hD (show M.1 (5, 0, 0) 1 = M1.1 (50, 0, 0) 4 from ((RXzg h.1 (d := (50, 0, 0)) (j := 4) (by unfold PRz; simp) (by simp)).trans (c1 _ _ (by simp)).symm))
  exact ⟨RY_of h hF1 hF2 s1 s2 hx hD2.2.1 hD2.2.2.1 h7 B.1 (Or.inl ⟨hF2 _ _ (fun q => by simp only [S_c_X12_text_, or_false] at q; omega), fun c k a b q => by unfold wR at a; simp only [S_c_X11_text, or_false] at q; omega, fun k q => by simp only [S_c_X12_text_, or_false] at q; omega⟩) (SHR_keep h.2.2.2.2 (fun c k a => hF1 c k (fun q => by simp only [S_c_X11_text, or_false] at q; omega)) (fun c k a => by rw [hF2 c k (fun q => by simp only [S_c_X12_text_, or_false] at q; omega), c1 c k (by omega)])), B.2⟩
theorem sy_16 {v : Int32} {u : Int32} {t : Int32} {s : Int32} {M M1 M2 : mM} {r1 r2 : Int32} (h : RY M.1) (hD0 : InvD M) (hD : InvD M1) (hD2 : InvD M2) (hF1 : FR S_c_X11_echo M M1) (hs1 : SP_X11_echo v u t s M r1 M1) (hF2 : FR S_c_X12_echo M1 M2) (hs2 : SP_X12_echo v u t s M1 r2 M2) : RY M2.1 ∧ r1 = r2 := by
  have hx := (st_16 h.1 hD0 hF1 hs1 hF2 hs2).1
  have s1 : cC S_c_X11_echo := fun c k q => by simp only [S_c_X11_echo, or_false] at q; omega
  have s2 : cD S_c_X12_echo := fun c k q => by simp only [S_c_X12_echo, or_false] at q; omega
  have c1 : ∀ (c : rf) (k : Nat), c.1 = 12 ∨ 50 ≤ c.1 → M1.1 c k = M.1 c k := fun c k a => hF1 c k (fun q => s1 c k q a)
  have c2 : ∀ (c : rf) (k : Nat), ¬ (c.1 = 12 ∨ 50 ≤ c.1) → M2.1 c k = M1.1 c k := fun c k a => hF2 c k (fun q => a (s2 c k q))
  have e50 : M1.1 (50, 0, 0) = M.1 (50, 0, 0) := funext fun k => c1 _ _ (by simp)
  have hR : RW 0 M.1 (M1.1 (50, 0, 0)) := by rw [e50]; exact h.2.2.1
  have hu : (M1.1 (12, 0, 0) 7).toInt = -1 := by rw [c1 _ _ (by simp)]; exact h.2.1
  have h7 : (M2.1 (12, 0, 0) 7).toInt = -1 := by rw [hF2 (12, 0, 0) 7 (fun q => by simp only [S_c_X12_echo, or_false] at q; omega)]; exact hu
  exact ⟨RY_fr h hF1 hF2 s1 s2 hx hD2.2.1 hD2.2.2.1 (fun c k a b q => by unfold wR at a; simp only [S_c_X11_echo, or_false] at q; omega) (fun c k a q => by rcases a with rfl | rfl | ⟨rfl, rfl⟩ | a | a | a <;> (simp only [S_c_X12_echo, or_false] at q <;> omega)) (fun c k a q => by simp only [S_c_X11_echo, or_false] at q; omega) h7, an_16 hs1 hs2 hR hD hu⟩
theorem sy_17 {v : Int32} {M M1 M2 : mM} {r1 r2 : Int32} (h : RY M.1) (hD0 : InvD M) (hD : InvD M1) (hD2 : InvD M2) (hF1 : FR S_c_X11_click M M1) (hs1 : SP_X11_click v M r1 M1) (hF2 : FR S_c_X12_click M1 M2) (hs2 : SP_X12_click v M1 r2 M2) : RY M2.1 ∧ r1 = r2 := by
  have hx := (st_17 h.1 hD0 hF1 hs1 hF2 hs2).1
  have s1 : cC S_c_X11_click := fun c k q => by simp only [S_c_X11_click, or_false] at q; omega
  have s2 : cD S_c_X12_click := fun c k q => by simp only [S_c_X12_click, or_false] at q; omega
  have c1 : ∀ (c : rf) (k : Nat), c.1 = 12 ∨ 50 ≤ c.1 → M1.1 c k = M.1 c k := fun c k a => hF1 c k (fun q => s1 c k q a)
  have c2 : ∀ (c : rf) (k : Nat), ¬ (c.1 = 12 ∨ 50 ≤ c.1) → M2.1 c k = M1.1 c k := fun c k a => hF2 c k (fun q => a (s2 c k q))
  have e50 : M1.1 (50, 0, 0) = M.1 (50, 0, 0) := funext fun k => c1 _ _ (by simp)
  have hR : RW 0 M.1 (M1.1 (50, 0, 0)) := by rw [e50]; exact h.2.2.1
  have hu : (M1.1 (12, 0, 0) 7).toInt = -1 := by rw [c1 _ _ (by simp)]; exact h.2.1
  have h7 : (M2.1 (12, 0, 0) 7).toInt = -1 := by rw [hF2 (12, 0, 0) 7 (fun q => by simp only [S_c_X12_click, or_false] at q; omega)]; exact hu
  have B := cb_17 hs1 hs2 hR hD hu
  exact ⟨RY_of h hF1 hF2 s1 s2 hx hD2.2.1 hD2.2.2.1 h7 B.1 (Or.inl ⟨hF2 _ _ (fun q => by simp only [S_c_X12_click, or_false] at q; omega), fun c k a b q => by unfold wR at a; simp only [S_c_X11_click, or_false] at q; omega, fun k q => by simp only [S_c_X12_click, or_false] at q; omega⟩) (SHR_keep h.2.2.2.2 (fun c k a => hF1 c k (fun q => by simp only [S_c_X11_click, or_false] at q; omega)) (fun c k a => by rw [hF2 c k (fun q => by simp only [S_c_X12_click, or_false] at q; omega), c1 c k (by omega)])), B.2⟩
theorem sy_18 {v : Int32} {u : Int32} {t : Int32} {M M1 M2 : mM} {r1 r2 : Int32} (h : RY M.1) (hD0 : InvD M) (hD : InvD M1) (hD2 : InvD M2) (hF1 : FR S_c_X11_head M M1) (hs1 : SP_X11_head v u t M r1 M1) (hF2 : FR S_c_X12_head M1 M2) (hs2 : SP_X12_head v u t M1 r2 M2) : RY M2.1 ∧ True := by
  have hx := (st_18 h.1 hD0 hF1 hs1 hF2 hs2).1
  have s1 : cC S_c_X11_head := fun c k q => by simp only [S_c_X11_head, or_false] at q; omega
  have s2 : cD S_c_X12_head := fun c k q => by simp only [S_c_X12_head, or_false] at q; omega
  have c1 : ∀ (c : rf) (k : Nat), c.1 = 12 ∨ 50 ≤ c.1 → M1.1 c k = M.1 c k := fun c k a => hF1 c k (fun q => s1 c k q a)
  have c2 : ∀ (c : rf) (k : Nat), ¬ (c.1 = 12 ∨ 50 ≤ c.1) → M2.1 c k = M1.1 c k := fun c k a => hF2 c k (fun q => a (s2 c k q))
  have e50 : M1.1 (50, 0, 0) = M.1 (50, 0, 0) := funext fun k => c1 _ _ (by simp)
  have hR : RW 0 M.1 (M1.1 (50, 0, 0)) := by rw [e50]; exact h.2.2.1
  have hu : (M1.1 (12, 0, 0) 7).toInt = -1 := by rw [c1 _ _ (by simp)]; exact h.2.1
  have h7 : (M2.1 (12, 0, 0) 7).toInt = -1 := by rw [hF2 (12, 0, 0) 7 (fun q => by simp only [S_c_X12_head, or_false] at q; omega)]; exact hu
  exact ⟨RY_fr h hF1 hF2 s1 s2 hx hD2.2.1 hD2.2.2.1 (fun c k a b q => by unfold wR at a; simp only [S_c_X11_head, or_false] at q; omega) (fun c k a q => by rcases a with rfl | rfl | ⟨rfl, rfl⟩ | a | a | a <;> (simp only [S_c_X12_head, or_false] at q <;> omega)) (fun c k a q => by simp only [S_c_X11_head, or_false] at q; omega) h7, trivial⟩
theorem sy_19 {v : Int32} {u : Int32} {M M1 M2 : mM} {r1 r2 : Int32} (h : RY M.1) (hD0 : InvD M) (hD : InvD M1) (hD2 : InvD M2) (hF1 : FR S_c_X11_heads M M1) (hs1 : SP_X11_heads v u M r1 M1) (hF2 : FR S_c_X12_heads M1 M2) (hs2 : SP_X12_heads v u M1 r2 M2) : RY M2.1 ∧ True := by
  have hx := (st_19 h.1 hD0 hF1 hs1 hF2 hs2).1
  have s1 : cC S_c_X11_heads := fun c k q => by simp only [S_c_X11_heads, or_false] at q; omega
  have s2 : cD S_c_X12_heads := fun c k q => by simp only [S_c_X12_heads, or_false] at q; omega
  have c1 : ∀ (c : rf) (k : Nat), c.1 = 12 ∨ 50 ≤ c.1 → M1.1 c k = M.1 c k := fun c k a => hF1 c k (fun q => s1 c k q a)
  have c2 : ∀ (c : rf) (k : Nat), ¬ (c.1 = 12 ∨ 50 ≤ c.1) → M2.1 c k = M1.1 c k := fun c k a => hF2 c k (fun q => a (s2 c k q))
  have e50 : M1.1 (50, 0, 0) = M.1 (50, 0, 0) := funext fun k => c1 _ _ (by simp)
  have hR : RW 0 M.1 (M1.1 (50, 0, 0)) := by rw [e50]; exact h.2.2.1
  have hu : (M1.1 (12, 0, 0) 7).toInt = -1 := by rw [c1 _ _ (by simp)]; exact h.2.1
  have h7 : (M2.1 (12, 0, 0) 7).toInt = -1 := by rw [hF2 (12, 0, 0) 7 (fun q => by simp only [S_c_X12_heads, or_false] at q; omega)]; exact hu
  exact ⟨RY_fr h hF1 hF2 s1 s2 hx hD2.2.1 hD2.2.2.1 (fun c k a b q => by unfold wR at a; simp only [S_c_X11_heads, or_false] at q; omega) (fun c k a q => by rcases a with rfl | rfl | ⟨rfl, rfl⟩ | a | a | a <;> (simp only [S_c_X12_heads, or_false] at q <;> omega)) (fun c k a q => by simp only [S_c_X11_heads, or_false] at q; omega) h7, trivial⟩
theorem sy_20 {v : Int32} {u : Int32} {t : Int32} {s : Int32} {q : Int32} {M M1 M2 : mM} {r1 r2 : Int32} (h : RY M.1) (hD0 : InvD M) (hD : InvD M1) (hD2 : InvD M2) (hF1 : FR S_c_X11_alike M M1) (hs1 : SP_X11_alike v u t s q M r1 M1) (hF2 : FR S_c_X12_alike M1 M2) (hs2 : SP_X12_alike v u t s q M1 r2 M2) : RY M2.1 ∧ True := by
  have hx := (st_20 h.1 hD0 hF1 hs1 hF2 hs2).1
  have s1 : cC S_c_X11_alike := fun c k q => by simp only [S_c_X11_alike, or_false] at q; omega
  have s2 : cD S_c_X12_alike := fun c k q => by simp only [S_c_X12_alike, or_false] at q; omega
  have c1 : ∀ (c : rf) (k : Nat), c.1 = 12 ∨ 50 ≤ c.1 → M1.1 c k = M.1 c k := fun c k a => hF1 c k (fun q => s1 c k q a)
  have c2 : ∀ (c : rf) (k : Nat), ¬ (c.1 = 12 ∨ 50 ≤ c.1) → M2.1 c k = M1.1 c k := fun c k a => hF2 c k (fun q => a (s2 c k q))
  have e50 : M1.1 (50, 0, 0) = M.1 (50, 0, 0) := funext fun k => c1 _ _ (by simp)
  have hR : RW 0 M.1 (M1.1 (50, 0, 0)) := by rw [e50]; exact h.2.2.1
  have hu : (M1.1 (12, 0, 0) 7).toInt = -1 := by rw [c1 _ _ (by simp)]; exact h.2.1
  have h7 : (M2.1 (12, 0, 0) 7).toInt = -1 := by rw [hF2 (12, 0, 0) 7 (fun q => by simp only [S_c_X12_alike, or_false] at q; omega)]; exact hu
  exact ⟨RY_fr h hF1 hF2 s1 s2 hx hD2.2.1 hD2.2.2.1 (fun c k a b q => by unfold wR at a; simp only [S_c_X11_alike, or_false] at q; omega) (fun c k a q => by rcases a with rfl | rfl | ⟨rfl, rfl⟩ | a | a | a <;> (simp only [S_c_X12_alike, or_false] at q <;> omega)) (fun c k a q => by simp only [S_c_X11_alike, or_false] at q; omega) h7, trivial⟩
theorem sy_21 {v : Int32} {u : Int32} {t : Int32} {s : Int32} {M M1 M2 : mM} {r1 r2 : Int32} (h : RY M.1) (hD0 : InvD M) (hD : InvD M1) (hD2 : InvD M2) (hF1 : FR S_c_X11_least M M1) (hs1 : SP_X11_least v u t s M r1 M1) (hF2 : FR S_c_X12_least M1 M2) (hs2 : SP_X12_least v u t s M1 r2 M2) : RY M2.1 ∧ True := by
  have hx := (st_21 h.1 hD0 hF1 hs1 hF2 hs2).1
  have s1 : cC S_c_X11_least := fun c k q => by simp only [S_c_X11_least, or_false] at q; omega
  have s2 : cD S_c_X12_least := fun c k q => by simp only [S_c_X12_least, or_false] at q; omega
  have c1 : ∀ (c : rf) (k : Nat), c.1 = 12 ∨ 50 ≤ c.1 → M1.1 c k = M.1 c k := fun c k a => hF1 c k (fun q => s1 c k q a)
  have c2 : ∀ (c : rf) (k : Nat), ¬ (c.1 = 12 ∨ 50 ≤ c.1) → M2.1 c k = M1.1 c k := fun c k a => hF2 c k (fun q => a (s2 c k q))
  have e50 : M1.1 (50, 0, 0) = M.1 (50, 0, 0) := funext fun k => c1 _ _ (by simp)
  have hR : RW 0 M.1 (M1.1 (50, 0, 0)) := by rw [e50]; exact h.2.2.1
  have hu : (M1.1 (12, 0, 0) 7).toInt = -1 := by rw [c1 _ _ (by simp)]; exact h.2.1
  have h7 : (M2.1 (12, 0, 0) 7).toInt = -1 := by rw [hF2 (12, 0, 0) 7 (fun q => by simp only [S_c_X12_least, or_false] at q; omega)]; exact hu
  exact ⟨RY_fr h hF1 hF2 s1 s2 hx hD2.2.1 hD2.2.2.1 (fun c k a b q => by unfold wR at a; simp only [S_c_X11_least, or_false] at q; omega) (fun c k a q => by rcases a with rfl | rfl | ⟨rfl, rfl⟩ | a | a | a <;> (simp only [S_c_X12_least, or_false] at q <;> omega)) (fun c k a q => by simp only [S_c_X11_least, or_false] at q; omega) h7, trivial⟩
theorem sy_22 {v : Int32} {u : Int32} {t : Int32} {M M1 M2 : mM} {r1 r2 : Int32} (h : RY M.1) (hD0 : InvD M) (hD : InvD M1) (hD2 : InvD M2) (hF1 : FR S_c_X11_farthest M M1) (hs1 : SP_X11_farthest v u t M r1 M1) (hF2 : FR S_c_X12_farthest M1 M2) (hs2 : SP_X12_farthest v u t M1 r2 M2) : RY M2.1 ∧ True := by
  have hx := (st_22 h.1 hD0 hF1 hs1 hF2 hs2).1
  have s1 : cC S_c_X11_farthest := fun c k q => by simp only [S_c_X11_farthest, or_false] at q; omega
  have s2 : cD S_c_X12_farthest := fun c k q => by simp only [S_c_X12_farthest, or_false] at q; omega
  have c1 : ∀ (c : rf) (k : Nat), c.1 = 12 ∨ 50 ≤ c.1 → M1.1 c k = M.1 c k := fun c k a => hF1 c k (fun q => s1 c k q a)
  have c2 : ∀ (c : rf) (k : Nat), ¬ (c.1 = 12 ∨ 50 ≤ c.1) → M2.1 c k = M1.1 c k := fun c k a => hF2 c k (fun q => a (s2 c k q))
  have e50 : M1.1 (50, 0, 0) = M.1 (50, 0, 0) := funext fun k => c1 _ _ (by simp)
  have hR : RW 0 M.1 (M1.1 (50, 0, 0)) := by rw [e50]; exact h.2.2.1
  have hu : (M1.1 (12, 0, 0) 7).toInt = -1 := by rw [c1 _ _ (by simp)]; exact h.2.1
  have h7 : (M2.1 (12, 0, 0) 7).toInt = -1 := by rw [hF2 (12, 0, 0) 7 (fun q => by simp only [S_c_X12_farthest, or_false] at q; omega)]; exact hu
  exact ⟨RY_fr h hF1 hF2 s1 s2 hx hD2.2.1 hD2.2.2.1 (fun c k a b q => by unfold wR at a; simp only [S_c_X11_farthest, or_false] at q; omega) (fun c k a q => by rcases a with rfl | rfl | ⟨rfl, rfl⟩ | a | a | a <;> (simp only [S_c_X12_farthest, or_false] at q <;> omega)) (fun c k a q => by simp only [S_c_X11_farthest, or_false] at q; omega) h7, trivial⟩
theorem sy_23 {v : Int32} {u : Int32} {t : Int32} {s : Int32} {M M1 M2 : mM} {r1 r2 : Int32} (h : RY M.1) (hD0 : InvD M) (hD : InvD M1) (hD2 : InvD M2) (hF1 : FR S_c_X11_spots M M1) (hs1 : SP_X11_spots v u t s M r1 M1) (hF2 : FR S_c_X12_spots M1 M2) (hs2 : SP_X12_spots v u t s M1 r2 M2) : RY M2.1 ∧ True := by
  have hx := (st_23 h.1 hD0 hF1 hs1 hF2 hs2).1
  have s1 : cC S_c_X11_spots := fun c k q => by simp only [S_c_X11_spots, or_false] at q; omega
  have s2 : cD S_c_X12_spots := fun c k q => by simp only [S_c_X12_spots, or_false] at q; omega
  have c1 : ∀ (c : rf) (k : Nat), c.1 = 12 ∨ 50 ≤ c.1 → M1.1 c k = M.1 c k := fun c k a => hF1 c k (fun q => s1 c k q a)
  have c2 : ∀ (c : rf) (k : Nat), ¬ (c.1 = 12 ∨ 50 ≤ c.1) → M2.1 c k = M1.1 c k := fun c k a => hF2 c k (fun q => a (s2 c k q))
  have e50 : M1.1 (50, 0, 0) = M.1 (50, 0, 0) := funext fun k => c1 _ _ (by simp)
  have hR : RW 0 M.1 (M1.1 (50, 0, 0)) := by rw [e50]; exact h.2.2.1
  have hu : (M1.1 (12, 0, 0) 7).toInt = -1 := by rw [c1 _ _ (by simp)]; exact h.2.1
  have h7 : (M2.1 (12, 0, 0) 7).toInt = -1 := USP_X12_spots hs2 hu
  exact ⟨RY_fr h hF1 hF2 s1 s2 hx hD2.2.1 hD2.2.2.1 (fun c k a b q => by unfold wR at a; simp only [S_c_X11_spots, or_false] at q; omega) (fun c k a q => by rcases a with rfl | rfl | ⟨rfl, rfl⟩ | a | a | a <;> (simp only [S_c_X12_spots, or_false] at q <;> omega)) (fun c k a q => by simp only [S_c_X11_spots, or_false] at q; omega) h7, trivial⟩
theorem sy_24 {v : Int32} {M M1 M2 : mM} {r1 r2 : Int32} (h : RY M.1) (hD0 : InvD M) (hD : InvD M1) (hD2 : InvD M2) (hF1 : FR S_c_X11_tenths M M1) (hs1 : SP_X11_tenths v M r1 M1) (hF2 : FR S_c_X12_tenths M1 M2) (hs2 : SP_X12_tenths v M1 r2 M2) : RY M2.1 ∧ r1 = r2 := by
  have hx := (st_24 h.1 hD0 hF1 hs1 hF2 hs2).1
  have s1 : cC S_c_X11_tenths := fun c k q => by simp only [S_c_X11_tenths, or_false] at q; omega
  have s2 : cD S_c_X12_tenths := fun c k q => by simp only [S_c_X12_tenths, or_false] at q; omega
  have c1 : ∀ (c : rf) (k : Nat), c.1 = 12 ∨ 50 ≤ c.1 → M1.1 c k = M.1 c k := fun c k a => hF1 c k (fun q => s1 c k q a)
  have c2 : ∀ (c : rf) (k : Nat), ¬ (c.1 = 12 ∨ 50 ≤ c.1) → M2.1 c k = M1.1 c k := fun c k a => hF2 c k (fun q => a (s2 c k q))
  have e50 : M1.1 (50, 0, 0) = M.1 (50, 0, 0) := funext fun k => c1 _ _ (by simp)
  have hR : RW 0 M.1 (M1.1 (50, 0, 0)) := by rw [e50]; exact h.2.2.1
  have hu : (M1.1 (12, 0, 0) 7).toInt = -1 := by rw [c1 _ _ (by simp)]; exact h.2.1
  have h7 : (M2.1 (12, 0, 0) 7).toInt = -1 := by rw [hF2 (12, 0, 0) 7 (fun q => by simp only [S_c_X12_tenths, or_false] at q; omega)]; exact hu
  have B := cb_24 hs1 hs2 hR hD hu
  exact ⟨RY_of h hF1 hF2 s1 s2 hx hD2.2.1 hD2.2.2.1 h7 B.1 (Or.inl ⟨hF2 _ _ (fun q => by simp only [S_c_X12_tenths, or_false] at q; omega), fun c k a b q => by unfold wR at a; simp only [S_c_X11_tenths, or_false] at q; omega, fun k q => by simp only [S_c_X12_tenths, or_false] at q; omega⟩) (SHR_keep h.2.2.2.2 (fun c k a => hF1 c k (fun q => by simp only [S_c_X11_tenths, or_false] at q; omega)) (fun c k a => by rw [hF2 c k (fun q => by simp only [S_c_X12_tenths, or_false] at q; omega), c1 c k (by omega)])), B.2⟩
theorem sy_25 {v : Int32} {u : Int32} {t : Int32} {M M1 M2 : mM} {r1 r2 : Int32} (h : RY M.1) (hD0 : InvD M) (hD : InvD M1) (hD2 : InvD M2) (hF1 : FR S_c_X11_way M M1) (hs1 : SP_X11_way v u t M r1 M1) (hF2 : FR S_c_X12_way M1 M2) (hs2 : SP_X12_way v u t M1 r2 M2) : RY M2.1 ∧ True := by
  have hx := (st_25 h.1 hD0 hF1 hs1 hF2 hs2).1
  have s1 : cC S_c_X11_way := fun c k q => by simp only [S_c_X11_way, or_false] at q; omega
  have s2 : cD S_c_X12_way := fun c k q => by simp only [S_c_X12_way, or_false] at q; omega
  have c1 : ∀ (c : rf) (k : Nat), c.1 = 12 ∨ 50 ≤ c.1 → M1.1 c k = M.1 c k := fun c k a => hF1 c k (fun q => s1 c k q a)
  have c2 : ∀ (c : rf) (k : Nat), ¬ (c.1 = 12 ∨ 50 ≤ c.1) → M2.1 c k = M1.1 c k := fun c k a => hF2 c k (fun q => a (s2 c k q))
  have e50 : M1.1 (50, 0, 0) = M.1 (50, 0, 0) := funext fun k => c1 _ _ (by simp)
  have hR : RW 0 M.1 (M1.1 (50, 0, 0)) := by rw [e50]; exact h.2.2.1
  have hu : (M1.1 (12, 0, 0) 7).toInt = -1 := by rw [c1 _ _ (by simp)]; exact h.2.1
  have h7 : (M2.1 (12, 0, 0) 7).toInt = -1 := by rw [hF2 (12, 0, 0) 7 (fun q => by simp only [S_c_X12_way, or_false] at q; omega)]; exact hu
  exact ⟨RY_fr h hF1 hF2 s1 s2 hx hD2.2.1 hD2.2.2.1 (fun c k a b q => by unfold wR at a; simp only [S_c_X11_way, or_false] at q; omega) (fun c k a q => by rcases a with rfl | rfl | ⟨rfl, rfl⟩ | a | a | a <;> (simp only [S_c_X12_way, or_false] at q <;> omega)) (fun c k a q => by simp only [S_c_X11_way, or_false] at q; omega) h7, trivial⟩
theorem sy_26 {v : Int32} {M M1 M2 : mM} {r1 r2 : Int32} (h : RY M.1) (hD0 : InvD M) (hD : InvD M1) (hD2 : InvD M2) (hF1 : FR S_c_X11_safe M M1) (hs1 : SP_X11_safe v M r1 M1) (hF2 : FR S_c_X12_safe M1 M2) (hs2 : SP_X12_safe v M1 r2 M2) : RY M2.1 ∧ True := by
  have hx := (st_26 h.1 hD0 hF1 hs1 hF2 hs2).1
  have s1 : cC S_c_X11_safe := fun c k q => by simp only [S_c_X11_safe, or_false] at q; omega
  have s2 : cD S_c_X12_safe := fun c k q => by simp only [S_c_X12_safe, or_false] at q; omega
  have c1 : ∀ (c : rf) (k : Nat), c.1 = 12 ∨ 50 ≤ c.1 → M1.1 c k = M.1 c k := fun c k a => hF1 c k (fun q => s1 c k q a)
  have c2 : ∀ (c : rf) (k : Nat), ¬ (c.1 = 12 ∨ 50 ≤ c.1) → M2.1 c k = M1.1 c k := fun c k a => hF2 c k (fun q => a (s2 c k q))
  have e50 : M1.1 (50, 0, 0) = M.1 (50, 0, 0) := funext fun k => c1 _ _ (by simp)
  have hR : RW 0 M.1 (M1.1 (50, 0, 0)) := by rw [e50]; exact h.2.2.1
  have hu : (M1.1 (12, 0, 0) 7).toInt = -1 := by rw [c1 _ _ (by simp)]; exact h.2.1
  have h7 : (M2.1 (12, 0, 0) 7).toInt = -1 := by rw [hF2 (12, 0, 0) 7 (fun q => by simp only [S_c_X12_safe, or_false] at q; omega)]; exact hu
  exact ⟨RY_fr h hF1 hF2 s1 s2 hx hD2.2.1 hD2.2.2.1 (fun c k a b q => by unfold wR at a; simp only [S_c_X11_safe, or_false] at q; omega) (fun c k a q => by rcases a with rfl | rfl | ⟨rfl, rfl⟩ | a | a | a <;> (simp only [S_c_X12_safe, or_false] at q <;> omega)) (fun c k a q => by simp only [S_c_X11_safe, or_false] at q; omega) h7, trivial⟩
theorem sy_27 {v : Int32} {u : Int32} {t : Int32} {M M1 M2 : mM} {r1 r2 : Int32} (h : RY M.1) (hD0 : InvD M) (hD : InvD M1) (hD2 : InvD M2) (hF1 : FR S_c_X11_lesson M M1) (hs1 : SP_X11_lesson v u t M r1 M1) (hF2 : FR S_c_X12_lesson M1 M2) (hs2 : SP_X12_lesson v u t M1 r2 M2) : RY M2.1 ∧ r1 = r2 := by
  have hx := (st_27 h.1 hD0 hF1 hs1 hF2 hs2).1
  have s1 : cC S_c_X11_lesson := fun c k q => by simp only [S_c_X11_lesson, or_false] at q; omega
  have s2 : cD S_c_X12_lesson := fun c k q => by simp only [S_c_X12_lesson, or_false] at q; omega
  have c1 : ∀ (c : rf) (k : Nat), c.1 = 12 ∨ 50 ≤ c.1 → M1.1 c k = M.1 c k := fun c k a => hF1 c k (fun q => s1 c k q a)
  have c2 : ∀ (c : rf) (k : Nat), ¬ (c.1 = 12 ∨ 50 ≤ c.1) → M2.1 c k = M1.1 c k := fun c k a => hF2 c k (fun q => a (s2 c k q))
  have e50 : M1.1 (50, 0, 0) = M.1 (50, 0, 0) := funext fun k => c1 _ _ (by simp)
  have hR : RW 0 M.1 (M1.1 (50, 0, 0)) := by rw [e50]; exact h.2.2.1
  have hu : (M1.1 (12, 0, 0) 7).toInt = -1 := by rw [c1 _ _ (by simp)]; exact h.2.1
  have h7 : (M2.1 (12, 0, 0) 7).toInt = -1 := by rw [hF2 (12, 0, 0) 7 (fun q => by simp only [S_c_X12_lesson, or_false] at q; omega)]; exact hu
  have B := cb_27 hs1 hs2 hR hD hu (show M.1 (3, 0, 0) 3 = M1.1 (50, 0, 0) 3 from ((RXzg h.1 (d := (50, 0, 0)) (j := 3) (by unfold PRz; simp) (by simp)).trans (c1 _ _ (by simp)).symm))
  exact ⟨RY_of h hF1 hF2 s1 s2 hx hD2.2.1 hD2.2.2.1 h7 B.1 (Or.inl ⟨hF2 _ _ (fun q => by simp only [S_c_X12_lesson, or_false] at q; omega), fun c k a b q => by unfold wR at a; simp only [S_c_X11_lesson, or_false] at q; omega, fun k q => by simp only [S_c_X12_lesson, or_false] at q; omega⟩) (SHR_keep h.2.2.2.2 (fun c k a => hF1 c k (fun q => by simp only [S_c_X11_lesson, or_false] at q; omega)) (fun c k a => by rw [hF2 c k (fun q => by simp only [S_c_X12_lesson, or_false] at q; omega), c1 c k (by omega)])), B.2⟩
theorem sy_28 {v : Int32} {u : Int32} {t : Int32} {M M1 M2 : mM} {r1 r2 : Int32} (h : RY M.1) (hD0 : InvD M) (hD : InvD M1) (hD2 : InvD M2) (hF1 : FR S_c_X11_learn M M1) (hs1 : SP_X11_learn v u t M r1 M1) (hF2 : FR S_c_X12_learn M1 M2) (hs2 : SP_X12_learn v u t M1 r2 M2) : RY M2.1 ∧ True := by
  have hx := (st_28 h.1 hD0 hF1 hs1 hF2 hs2).1
  have s1 : cC S_c_X11_learn := fun c k q => by simp only [S_c_X11_learn, or_false] at q; omega
  have s2 : cD S_c_X12_learn := fun c k q => by simp only [S_c_X12_learn, or_false] at q; omega
  have c1 : ∀ (c : rf) (k : Nat), c.1 = 12 ∨ 50 ≤ c.1 → M1.1 c k = M.1 c k := fun c k a => hF1 c k (fun q => s1 c k q a)
  have c2 : ∀ (c : rf) (k : Nat), ¬ (c.1 = 12 ∨ 50 ≤ c.1) → M2.1 c k = M1.1 c k := fun c k a => hF2 c k (fun q => a (s2 c k q))
  have e50 : M1.1 (50, 0, 0) = M.1 (50, 0, 0) := funext fun k => c1 _ _ (by simp)
  have hR : RW 0 M.1 (M1.1 (50, 0, 0)) := by rw [e50]; exact h.2.2.1
  have hu : (M1.1 (12, 0, 0) 7).toInt = -1 := by rw [c1 _ _ (by simp)]; exact h.2.1
  have h7 : (M2.1 (12, 0, 0) 7).toInt = -1 := by rw [hF2 (12, 0, 0) 7 (fun q => by simp only [S_c_X12_learn, or_false] at q; omega)]; exact hu
  have hN : NW5 (M.1 (50, 0, 0)) := hD0.2.1
  have e2 : M2.1 (50, 0, 0) = M.1 (50, 0, 0) := funext fun k => by rw [hF2 _ _ (fun q => by simp only [S_c_X12_learn, or_false] at q; omega), c1 _ _ (by simp)]
  refine ⟨RY_of h hF1 hF2 s1 s2 hx hD2.2.1 hD2.2.2.1 h7 ?_ (Or.inl ⟨hF2 _ _ (fun q => by simp only [S_c_X12_learn, or_false] at q; omega), fun c k a b q => by unfold wR at a; simp only [S_c_X11_learn, or_false] at q; omega, fun k q => by simp only [S_c_X12_learn, or_false] at q; omega⟩) (SHR_keep h.2.2.2.2 (fun c k a => hF1 c k (fun q => by simp only [S_c_X11_learn, or_false] at q; omega)) (fun c k a => by rw [hF2 c k (fun q => by simp only [S_c_X12_learn, or_false] at q; omega), c1 c k (by omega)])), trivial⟩
  rw [e2]
  exact RW_rest h.2.2.1 hN (fun c k a b => hF1 c k (fun q => by unfold wR at a; simp only [S_c_X11_learn, or_false] at q; omega)) (fun _ _ _ => rfl) (LER_keep h.2.2.1.2.1 (n345_b hN).1.2 (fun r k hr => hF1 _ _ (fun q => by simp only [S_c_X11_learn, or_false] at q; omega)) (fun _ _ => rfl)) (TAR_keep h.2.2.1.2.2.1 (n345_b hN).2.1.2 (fun k => hF1 _ _ (fun q => by simp only [S_c_X11_learn, or_false] at q; omega)) (fun _ _ => rfl)) (WTR_keep h.2.2.1.2.2.2 (n345_b hN).2.2.2 (fun k => hF1 _ _ (fun q => by simp only [S_c_X11_learn, or_false] at q; omega)) (fun _ _ => rfl))
theorem sy_29 {v : Int32} {u : Int32} {t : Int32} {s : Int32} {M M1 M2 : mM} {r1 r2 : Int32} (h : RY M.1) (hD0 : InvD M) (hD : InvD M1) (hD2 : InvD M2) (hF1 : FR S_c_X11_posts M M1) (hs1 : SP_X11_posts v u t s M r1 M1) (hF2 : FR S_c_X12_posts M1 M2) (hs2 : SP_X12_posts v u t s M1 r2 M2) : RY M2.1 ∧ True := by
  have hx := (st_29 h.1 hD0 hF1 hs1 hF2 hs2).1
  have s1 : cC S_c_X11_posts := fun c k q => by simp only [S_c_X11_posts, or_false] at q; omega
  have s2 : cD S_c_X12_posts := fun c k q => by simp only [S_c_X12_posts, or_false] at q; omega
  have c1 : ∀ (c : rf) (k : Nat), c.1 = 12 ∨ 50 ≤ c.1 → M1.1 c k = M.1 c k := fun c k a => hF1 c k (fun q => s1 c k q a)
  have c2 : ∀ (c : rf) (k : Nat), ¬ (c.1 = 12 ∨ 50 ≤ c.1) → M2.1 c k = M1.1 c k := fun c k a => hF2 c k (fun q => a (s2 c k q))
  have e50 : M1.1 (50, 0, 0) = M.1 (50, 0, 0) := funext fun k => c1 _ _ (by simp)
  have hR : RW 0 M.1 (M1.1 (50, 0, 0)) := by rw [e50]; exact h.2.2.1
  have hu : (M1.1 (12, 0, 0) 7).toInt = -1 := by rw [c1 _ _ (by simp)]; exact h.2.1
  have h7 : (M2.1 (12, 0, 0) 7).toInt = -1 := USP_X12_posts hs2 hu
  exact ⟨RY_fr h hF1 hF2 s1 s2 hx hD2.2.1 hD2.2.2.1 (fun c k a b q => by unfold wR at a; simp only [S_c_X11_posts, or_false] at q; omega) (fun c k a q => by rcases a with rfl | rfl | ⟨rfl, rfl⟩ | a | a | a <;> (simp only [S_c_X12_posts, or_false] at q <;> omega)) (fun c k a q => by simp only [S_c_X11_posts, or_false] at q; omega) h7, trivial⟩
theorem sy_30 {v : Int32} {u : Int32} {t : Int32} {M M1 M2 : mM} {r1 r2 : Int32} (h : RY M.1) (hD0 : InvD M) (hD : InvD M1) (hD2 : InvD M2) (hF1 : FR S_c_X11_voice M M1) (hs1 : SP_X11_voice v u t M r1 M1) (hF2 : FR S_c_X12_voice M1 M2) (hs2 : SP_X12_voice v u t M1 r2 M2) : RY M2.1 ∧ True := by
  have hx := (st_30 h.1 hD0 hF1 hs1 hF2 hs2).1
  have s1 : cC S_c_X11_voice := fun c k q => by simp only [S_c_X11_voice, or_false] at q; omega
  have s2 : cD S_c_X12_voice := fun c k q => by simp only [S_c_X12_voice, or_false] at q; omega
  have c1 : ∀ (c : rf) (k : Nat), c.1 = 12 ∨ 50 ≤ c.1 → M1.1 c k = M.1 c k := fun c k a => hF1 c k (fun q => s1 c k q a)
  have c2 : ∀ (c : rf) (k : Nat), ¬ (c.1 = 12 ∨ 50 ≤ c.1) → M2.1 c k = M1.1 c k := fun c k a => hF2 c k (fun q => a (s2 c k q))
  have e50 : M1.1 (50, 0, 0) = M.1 (50, 0, 0) := funext fun k => c1 _ _ (by simp)
  have hR : RW 0 M.1 (M1.1 (50, 0, 0)) := by rw [e50]; exact h.2.2.1
  have hu : (M1.1 (12, 0, 0) 7).toInt = -1 := by rw [c1 _ _ (by simp)]; exact h.2.1
  have h7 : (M2.1 (12, 0, 0) 7).toInt = -1 := by rw [hF2 (12, 0, 0) 7 (fun q => by simp only [S_c_X12_voice, or_false] at q; omega)]; exact hu
  exact ⟨RY_fr h hF1 hF2 s1 s2 hx hD2.2.1 hD2.2.2.1 (fun c k a b q => by unfold wR at a; simp only [S_c_X11_voice, or_false] at q; omega) (fun c k a q => by rcases a with rfl | rfl | ⟨rfl, rfl⟩ | a | a | a <;> (simp only [S_c_X12_voice, or_false] at q <;> omega)) (fun c k a q => by simp only [S_c_X11_voice, or_false] at q; omega) h7, trivial⟩
theorem sy_31 {v : Int32} {M M1 M2 : mM} {r1 r2 : Int32} (h : RY M.1) (hD0 : InvD M) (hD : InvD M1) (hD2 : InvD M2) (hF1 : FR S_c_X11_trace M M1) (hs1 : SP_X11_trace v M r1 M1) (hF2 : FR S_c_X12_trace M1 M2) (hs2 : SP_X12_trace v M1 r2 M2) : RY M2.1 ∧ True := by
  have hx := (st_31 h.1 hD0 hF1 hs1 hF2 hs2).1
  have s1 : cC S_c_X11_trace := fun c k q => by simp only [S_c_X11_trace, or_false] at q; omega
  have s2 : cD S_c_X12_trace := fun c k q => by simp only [S_c_X12_trace, or_false] at q; omega
  have c1 : ∀ (c : rf) (k : Nat), c.1 = 12 ∨ 50 ≤ c.1 → M1.1 c k = M.1 c k := fun c k a => hF1 c k (fun q => s1 c k q a)
  have c2 : ∀ (c : rf) (k : Nat), ¬ (c.1 = 12 ∨ 50 ≤ c.1) → M2.1 c k = M1.1 c k := fun c k a => hF2 c k (fun q => a (s2 c k q))
  have e50 : M1.1 (50, 0, 0) = M.1 (50, 0, 0) := funext fun k => c1 _ _ (by simp)
  have hR : RW 0 M.1 (M1.1 (50, 0, 0)) := by rw [e50]; exact h.2.2.1
  have hu : (M1.1 (12, 0, 0) 7).toInt = -1 := by rw [c1 _ _ (by simp)]; exact h.2.1
  have h7 : (M2.1 (12, 0, 0) 7).toInt = -1 := by rw [hF2 (12, 0, 0) 7 (fun q => by simp only [S_c_X12_trace, or_false] at q; omega)]; exact hu
  exact ⟨RY_fr h hF1 hF2 s1 s2 hx hD2.2.1 hD2.2.2.1 (fun c k a b q => by unfold wR at a; simp only [S_c_X11_trace, or_false] at q; omega) (fun c k a q => by rcases a with rfl | rfl | ⟨rfl, rfl⟩ | a | a | a <;> (simp only [S_c_X12_trace, or_false] at q <;> omega)) (fun c k a q => by simp only [S_c_X11_trace, or_false] at q; omega) h7, trivial⟩
theorem sy_32 {v : Int32} {u : Int32} {t : Int32} {M M1 M2 : mM} {r1 r2 : Int32} (h : RY M.1) (hD0 : InvD M) (hD : InvD M1) (hD2 : InvD M2) (hF1 : FR S_c_X11_sheet M M1) (hs1 : SP_X11_sheet v u t M r1 M1) (hF2 : FR S_c_X12_sheet M1 M2) (hs2 : SP_X12_sheet v u t M1 r2 M2) : RY M2.1 ∧ True := by
  have hx := (st_32 h.1 hD0 hF1 hs1 hF2 hs2).1
  have s1 : cC S_c_X11_sheet := fun c k q => by simp only [S_c_X11_sheet, or_false] at q; omega
  have s2 : cD S_c_X12_sheet := fun c k q => by simp only [S_c_X12_sheet, or_false] at q; omega
  have c1 : ∀ (c : rf) (k : Nat), c.1 = 12 ∨ 50 ≤ c.1 → M1.1 c k = M.1 c k := fun c k a => hF1 c k (fun q => s1 c k q a)
  have c2 : ∀ (c : rf) (k : Nat), ¬ (c.1 = 12 ∨ 50 ≤ c.1) → M2.1 c k = M1.1 c k := fun c k a => hF2 c k (fun q => a (s2 c k q))
  have e50 : M1.1 (50, 0, 0) = M.1 (50, 0, 0) := funext fun k => c1 _ _ (by simp)
  have hR : RW 0 M.1 (M1.1 (50, 0, 0)) := by rw [e50]; exact h.2.2.1
  have hu : (M1.1 (12, 0, 0) 7).toInt = -1 := by rw [c1 _ _ (by simp)]; exact h.2.1
  have h7 : (M2.1 (12, 0, 0) 7).toInt = -1 := by rw [hF2 (12, 0, 0) 7 (fun q => by simp only [S_c_X12_sheet, or_false] at q; omega)]; exact hu
  have e2 : M2.1 (50, 0, 0) = M.1 (50, 0, 0) := funext fun k => by rw [hF2 _ _ (fun q => by simp only [S_c_X12_sheet, or_false] at q; omega), c1 _ _ (by simp)]
  have hS : SHR M.1 M1.1 := SHR_keep h.2.2.2.2 (fun _ _ _ => rfl) (fun c k a => c1 c k (by omega))
  have hB : ∀ w, w < 4 → M1.1 (6, 0, w) 0 = M2.1 (66, 0, 0) w ∧ M1.1 (6, 0, w) 1 = M2.1 (67, 0, 0) w := fun w hw => ⟨by rw [← c2 _ _ (by simp)]; exact RXzg hx (Pz_6a hw) (by simp), by rw [← c2 _ _ (by simp)]; exact RXzg hx (Pz_6b hw) (by simp)⟩
  have sh := sh_32 hs1 hs2 hS hD hD2 hB
  refine ⟨RY_of h hF1 hF2 s1 s2 hx hD2.2.1 hD2.2.2.1 h7 ?_ (Or.inl ⟨hF2 _ _ (fun q => by simp only [S_c_X12_sheet, or_false] at q; omega), fun c k a b q => by unfold wR at a; simp only [S_c_X11_sheet, or_false] at q; omega, fun k q => by simp only [S_c_X12_sheet, or_false] at q; omega⟩) sh, trivial⟩
  rw [e2]
  exact RW_same h.2.2.1 hD0.2.1 (fun c k a b => hF1 c k (fun q => by unfold wR at a; simp only [S_c_X11_sheet, or_false] at q; omega))
theorem sy_33 {v : Int32} {u : Int32} {t : Int32} {M M1 M2 : mM} {r1 r2 : Int32} (h : RY M.1) (hD0 : InvD M) (hD : InvD M1) (hD2 : InvD M2) (hF1 : FR S_c_X11_put M M1) (hs1 : SP_X11_put v u t M r1 M1) (hF2 : FR S_c_X12_put M1 M2) (hs2 : SP_X12_put v u t M1 r2 M2) : RY M2.1 ∧ True := by
  have hx := (st_33 h.1 hD0 hF1 hs1 hF2 hs2).1
  have s1 : cC S_c_X11_put := fun c k q => by simp only [S_c_X11_put, or_false] at q; omega
  have s2 : cD S_c_X12_put := fun c k q => by simp only [S_c_X12_put, or_false] at q; omega
  have c1 : ∀ (c : rf) (k : Nat), c.1 = 12 ∨ 50 ≤ c.1 → M1.1 c k = M.1 c k := fun c k a => hF1 c k (fun q => s1 c k q a)
  have c2 : ∀ (c : rf) (k : Nat), ¬ (c.1 = 12 ∨ 50 ≤ c.1) → M2.1 c k = M1.1 c k := fun c k a => hF2 c k (fun q => a (s2 c k q))
  have e50 : M1.1 (50, 0, 0) = M.1 (50, 0, 0) := funext fun k => c1 _ _ (by simp)
  have hR : RW 0 M.1 (M1.1 (50, 0, 0)) := by rw [e50]; exact h.2.2.1
  have hu : (M1.1 (12, 0, 0) 7).toInt = -1 := by rw [c1 _ _ (by simp)]; exact h.2.1
  have h7 : (M2.1 (12, 0, 0) 7).toInt = -1 := by rw [hF2 (12, 0, 0) 7 (fun q => by simp only [S_c_X12_put, or_false] at q; omega)]; exact hu
  have e2 : M2.1 (50, 0, 0) = M.1 (50, 0, 0) := funext fun k => by rw [hF2 _ _ (fun q => by simp only [S_c_X12_put, or_false] at q; omega), c1 _ _ (by simp)]
  have hS : SHR M.1 M1.1 := SHR_keep h.2.2.2.2 (fun _ _ _ => rfl) (fun c k a => c1 c k (by omega))
  have sh := sh_33 hs1 hs2 hS hD
  refine ⟨RY_of h hF1 hF2 s1 s2 hx hD2.2.1 hD2.2.2.1 h7 ?_ (Or.inl ⟨hF2 _ _ (fun q => by simp only [S_c_X12_put, or_false] at q; omega), fun c k a b q => by unfold wR at a; simp only [S_c_X11_put, or_false] at q; omega, fun k q => by simp only [S_c_X12_put, or_false] at q; omega⟩) sh, trivial⟩
  rw [e2]
  exact RW_same h.2.2.1 hD0.2.1 (fun c k a b => hF1 c k (fun q => by unfold wR at a; simp only [S_c_X11_put, or_false] at q; omega))
theorem sy_34 {v : Int32} {u : Int32} {t : Int32} {s : Int32} {q : Int32} {M M1 M2 : mM} {r1 r2 : Int32} (h : RY M.1) (hD0 : InvD M) (hD : InvD M1) (hD2 : InvD M2) (hF1 : FR S_c_X11_move M M1) (hs1 : SP_X11_move v u t s q M r1 M1) (hF2 : FR S_c_X12_move M1 M2) (hs2 : SP_X12_move v u t s q M1 r2 M2) : RY M2.1 ∧ True := by
  have hx := (st_34 h.1 hD0 hF1 hs1 hF2 hs2).1
  have s1 : cC S_c_X11_move := fun c k q => by simp only [S_c_X11_move, or_false] at q; omega
  have s2 : cD S_c_X12_move := fun c k q => by simp only [S_c_X12_move, or_false] at q; omega
  have c1 : ∀ (c : rf) (k : Nat), c.1 = 12 ∨ 50 ≤ c.1 → M1.1 c k = M.1 c k := fun c k a => hF1 c k (fun q => s1 c k q a)
  have c2 : ∀ (c : rf) (k : Nat), ¬ (c.1 = 12 ∨ 50 ≤ c.1) → M2.1 c k = M1.1 c k := fun c k a => hF2 c k (fun q => a (s2 c k q))
  have e50 : M1.1 (50, 0, 0) = M.1 (50, 0, 0) := funext fun k => c1 _ _ (by simp)
  have hR : RW 0 M.1 (M1.1 (50, 0, 0)) := by rw [e50]; exact h.2.2.1
  have hu : (M1.1 (12, 0, 0) 7).toInt = -1 := by rw [c1 _ _ (by simp)]; exact h.2.1
  have h7 : (M2.1 (12, 0, 0) 7).toInt = -1 := by rw [hF2 (12, 0, 0) 7 (fun q => by simp only [S_c_X12_move, or_false] at q; omega)]; exact hu
  have e2 : M2.1 (50, 0, 0) = M.1 (50, 0, 0) := funext fun k => by rw [hF2 _ _ (fun q => by simp only [S_c_X12_move, or_false] at q; omega), c1 _ _ (by simp)]
  have hS : SHR M.1 M1.1 := SHR_keep h.2.2.2.2 (fun _ _ _ => rfl) (fun c k a => c1 c k (by omega))
  have sh := sh_34 hs1 hs2 hS hD
  refine ⟨RY_of h hF1 hF2 s1 s2 hx hD2.2.1 hD2.2.2.1 h7 ?_ (Or.inl ⟨hF2 _ _ (fun q => by simp only [S_c_X12_move, or_false] at q; omega), fun c k a b q => by unfold wR at a; simp only [S_c_X11_move, or_false] at q; omega, fun k q => by simp only [S_c_X12_move, or_false] at q; omega⟩) sh, trivial⟩
  rw [e2]
  exact RW_same h.2.2.1 hD0.2.1 (fun c k a b => hF1 c k (fun q => by unfold wR at a; simp only [S_c_X11_move, or_false] at q; omega))
theorem sy_35 {M M1 M2 : mM} {r1 r2 : Int32} (h : RY M.1) (hD0 : InvD M) (hD : InvD M1) (hD2 : InvD M2) (hF1 : FR S_c_X11_image M M1) (hs1 : SP_X11_image M r1 M1) (hF2 : FR S_c_X12_image M1 M2) (hs2 : SP_X12_image M1 r2 M2) : RY M2.1 ∧ r1 = r2 := by
  have hx := (st_35 h.1 hD0 hF1 hs1 hF2 hs2).1
  have s1 : cC S_c_X11_image := fun c k q => by simp only [S_c_X11_image, or_false] at q; omega
  have s2 : cD S_c_X12_image := fun c k q => by simp only [S_c_X12_image, or_false] at q; omega
  have c1 : ∀ (c : rf) (k : Nat), c.1 = 12 ∨ 50 ≤ c.1 → M1.1 c k = M.1 c k := fun c k a => hF1 c k (fun q => s1 c k q a)
  have c2 : ∀ (c : rf) (k : Nat), ¬ (c.1 = 12 ∨ 50 ≤ c.1) → M2.1 c k = M1.1 c k := fun c k a => hF2 c k (fun q => a (s2 c k q))
  have e50 : M1.1 (50, 0, 0) = M.1 (50, 0, 0) := funext fun k => c1 _ _ (by simp)
  have hR : RW 0 M.1 (M1.1 (50, 0, 0)) := by rw [e50]; exact h.2.2.1
  have hu : (M1.1 (12, 0, 0) 7).toInt = -1 := by rw [c1 _ _ (by simp)]; exact h.2.1
  have h7 : (M2.1 (12, 0, 0) 7).toInt = -1 := by rw [hF2 (12, 0, 0) 7 (fun q => by simp only [S_c_X12_image, or_false] at q; omega)]; exact hu
  have B := cb_35 hs1 hs2 hR hD (show M.1 (5, 0, 0) 1 = M1.1 (50, 0, 0) 4 from ((RXzg h.1 (d := (50, 0, 0)) (j := 4) (by unfold PRz; simp) (by simp)).trans (c1 _ _ (by simp)).symm)) (show M.1 (5, 0, 1) 1 = M1.1 (50, 0, 0) 5 from ((RXzg h.1 (d := (50, 0, 0)) (j := 5) (by unfold PRz; simp) (by simp)).trans (c1 _ _ (by simp)).symm)) (show M.1 (11, 0, 0) 8 = M1.1 (12, 0, 0) 3 from (RXzg h.1 (d := (12, 0, 0)) (j := 3) (by unfold PRz; simp) (by simp)).trans (c1 _ _ (by simp)).symm)
  exact ⟨RY_of h hF1 hF2 s1 s2 hx hD2.2.1 hD2.2.2.1 h7 B.1 (Or.inr (fun _ => B.2.1)) (SHR_keep h.2.2.2.2 (fun c k a => hF1 c k (fun q => by simp only [S_c_X11_image, or_false] at q; omega)) (fun c k a => by rw [hF2 c k (fun q => by simp only [S_c_X12_image, or_false] at q; omega), c1 c k (by omega)])), B.2.2⟩
theorem sy_36 {M M1 M2 : mM} {r1 r2 : Int32} (h : RY M.1) (hD0 : InvD M) (hD : InvD M1) (hD2 : InvD M2) (hF1 : FR S_c_X11_restore M M1) (hs1 : SP_X11_restore M r1 M1) (hF2 : FR S_c_X12_restore M1 M2) (hs2 : SP_X12_restore M1 r2 M2) : RY M2.1 ∧ r1 = r2 := by
  have hx := (st_36 h.1 hD0 hF1 hs1 hF2 hs2).1
  have s1 : cC S_c_X11_restore := fun c k q => by simp only [S_c_X11_restore, or_false] at q; omega
  have s2 : cD S_c_X12_restore := fun c k q => by simp only [S_c_X12_restore, or_false] at q; omega
  have c1 : ∀ (c : rf) (k : Nat), c.1 = 12 ∨ 50 ≤ c.1 → M1.1 c k = M.1 c k := fun c k a => hF1 c k (fun q => s1 c k q a)
  have c2 : ∀ (c : rf) (k : Nat), ¬ (c.1 = 12 ∨ 50 ≤ c.1) → M2.1 c k = M1.1 c k := fun c k a => hF2 c k (fun q => a (s2 c k q))
  have e50 : M1.1 (50, 0, 0) = M.1 (50, 0, 0) := funext fun k => c1 _ _ (by simp)
  have hR : RW 0 M.1 (M1.1 (50, 0, 0)) := by rw [e50]; exact h.2.2.1
  have hu : (M1.1 (12, 0, 0) 7).toInt = -1 := by rw [c1 _ _ (by simp)]; exact h.2.1
  have h7 : (M2.1 (12, 0, 0) 7).toInt = -1 := by rw [hF2 (12, 0, 0) 7 (fun q => by simp only [S_c_X12_restore, or_false] at q; omega)]; exact hu
  have e51 : M1.1 (51, 0, 0) = M.1 (51, 0, 0) := funext fun k => c1 _ _ (by simp)
  have hI : ¬ (M1.1 (12, 0, 0) 3).toInt = 0 → RW 1 M.1 (M1.1 (51, 0, 0)) ∧ M.1 (5, 1, 0) 1 = M1.1 (51, 0, 0) 4 ∧ M.1 (5, 1, 1) 1 = M1.1 (51, 0, 0) 5 := fun q => by
    rw [c1 (12, 0, 0) 3 (by simp)] at q
    rw [e51]
    exact ⟨h.2.2.2.1 q, h.1 _ _ _ _ (by unfold PRz; simp) (fun _ => q), h.1 _ _ _ _ (by unfold PRz; simp) (fun _ => q)⟩
  have B := cb_36 hs1 hs2 hR hD (show M.1 (11, 0, 0) 8 = M1.1 (12, 0, 0) 3 from (RXzg h.1 (d := (12, 0, 0)) (j := 3) (by unfold PRz; simp) (by simp)).trans (c1 _ _ (by simp)).symm) hI
  have i3 : M2.1 (12, 0, 0) 3 = M1.1 (12, 0, 0) 3 := hF2 _ _ (fun q => by simp only [S_c_X12_restore, or_false] at q; omega)
  exact ⟨RY_of h hF1 hF2 s1 s2 hx hD2.2.1 hD2.2.2.1 h7 B.1 (Or.inr (fun q => B.2.1 (by rw [← i3]; exact q))) (SHR_keep h.2.2.2.2 (fun c k a => hF1 c k (fun q => by simp only [S_c_X11_restore, or_false] at q; omega)) (fun c k a => by rw [hF2 c k (fun q => by simp only [S_c_X12_restore, or_false] at q; omega), c1 c k (by omega)])), B.2.2⟩
theorem sy_37 {v : Int32} {M M1 M2 : mM} {r1 r2 : Int32} (h : RY M.1) (hD0 : InvD M) (hD : InvD M1) (hD2 : InvD M2) (hF1 : FR S_c_X11_tell M M1) (hs1 : SP_X11_tell v M r1 M1) (hF2 : FR S_c_X12_tell M1 M2) (hs2 : SP_X12_tell v M1 r2 M2) : RY M2.1 ∧ r1 = r2 := by
  have hx := (st_37 h.1 hD0 hF1 hs1 hF2 hs2).1
  have s1 : cC S_c_X11_tell := fun c k q => by simp only [S_c_X11_tell, or_false] at q; omega
  have s2 : cD S_c_X12_tell := fun c k q => by simp only [S_c_X12_tell, or_false] at q; omega
  have c1 : ∀ (c : rf) (k : Nat), c.1 = 12 ∨ 50 ≤ c.1 → M1.1 c k = M.1 c k := fun c k a => hF1 c k (fun q => s1 c k q a)
  have c2 : ∀ (c : rf) (k : Nat), ¬ (c.1 = 12 ∨ 50 ≤ c.1) → M2.1 c k = M1.1 c k := fun c k a => hF2 c k (fun q => a (s2 c k q))
  have e50 : M1.1 (50, 0, 0) = M.1 (50, 0, 0) := funext fun k => c1 _ _ (by simp)
  have hR : RW 0 M.1 (M1.1 (50, 0, 0)) := by rw [e50]; exact h.2.2.1
  have hu : (M1.1 (12, 0, 0) 7).toInt = -1 := by rw [c1 _ _ (by simp)]; exact h.2.1
  have h7 : (M2.1 (12, 0, 0) 7).toInt = -1 := by rw [hF2 (12, 0, 0) 7 (fun q => by simp only [S_c_X12_tell, or_false] at q; omega)]; exact hu
  have B := cb_37 hs1 hs2 hR hD hu (show M.1 (5, 0, 1) 1 = M1.1 (50, 0, 0) 5 from ((RXzg h.1 (d := (50, 0, 0)) (j := 5) (by unfold PRz; simp) (by simp)).trans (c1 _ _ (by simp)).symm))
  exact ⟨RY_of h hF1 hF2 s1 s2 hx hD2.2.1 hD2.2.2.1 h7 B.1 (Or.inl ⟨hF2 _ _ (fun q => by simp only [S_c_X12_tell, or_false] at q; omega), fun c k a b q => by unfold wR at a; simp only [S_c_X11_tell, or_false] at q; omega, fun k q => by simp only [S_c_X12_tell, or_false] at q; omega⟩) (SHR_keep h.2.2.2.2 (fun c k a => hF1 c k (fun q => by simp only [S_c_X11_tell, or_false] at q; omega)) (fun c k a => by rw [hF2 c k (fun q => by simp only [S_c_X12_tell, or_false] at q; omega), c1 c k (by omega)])), B.2⟩
theorem sy_38 {v : Int32} {M M1 M2 : mM} {r1 r2 : Int32} (h : RY M.1) (hD0 : InvD M) (hD : InvD M1) (hD2 : InvD M2) (hF1 : FR S_c_X11_check M M1) (hs1 : SP_X11_check v M r1 M1) (hF2 : FR S_c_X12_check M1 M2) (hs2 : SP_X12_check v M1 r2 M2) : RY M2.1 ∧ r1 = r2 := by
  have hx := (st_38 h.1 hD0 hF1 hs1 hF2 hs2).1
  have s1 : cC S_c_X11_check := fun c k q => by simp only [S_c_X11_check, or_false] at q; omega
  have s2 : cD S_c_X12_check := fun c k q => by simp only [S_c_X12_check, or_false] at q; omega
  have c1 : ∀ (c : rf) (k : Nat), c.1 = 12 ∨ 50 ≤ c.1 → M1.1 c k = M.1 c k := fun c k a => hF1 c k (fun q => s1 c k q a)
  have c2 : ∀ (c : rf) (k : Nat), ¬ (c.1 = 12 ∨ 50 ≤ c.1) → M2.1 c k = M1.1 c k := fun c k a => hF2 c k (fun q => a (s2 c k q))
  have e50 : M1.1 (50, 0, 0) = M.1 (50, 0, 0) := funext fun k => c1 _ _ (by simp)
  have hR : RW 0 M.1 (M1.1 (50, 0, 0)) := by rw [e50]; exact h.2.2.1
  have hu : (M1.1 (12, 0, 0) 7).toInt = -1 := by rw [c1 _ _ (by simp)]; exact h.2.1
  have h7 : (M2.1 (12, 0, 0) 7).toInt = -1 := by rw [hF2 (12, 0, 0) 7 (fun q => by simp only [S_c_X12_check, or_false] at q; omega)]; exact hu
  have B := cb_38 hs1 hs2 hR hD hu (show M.1 (5, 0, 0) 1 = M1.1 (50, 0, 0) 4 from ((RXzg h.1 (d := (50, 0, 0)) (j := 4) (by unfold PRz; simp) (by simp)).trans (c1 _ _ (by simp)).symm)) (show M.1 (5, 0, 1) 1 = M1.1 (50, 0, 0) 5 from ((RXzg h.1 (d := (50, 0, 0)) (j := 5) (by unfold PRz; simp) (by simp)).trans (c1 _ _ (by simp)).symm))
  exact ⟨RY_of h hF1 hF2 s1 s2 hx hD2.2.1 hD2.2.2.1 h7 B.1 (Or.inl ⟨hF2 _ _ (fun q => by simp only [S_c_X12_check, or_false] at q; omega), fun c k a b q => by unfold wR at a; simp only [S_c_X11_check, or_false] at q; omega, fun k q => by simp only [S_c_X12_check, or_false] at q; omega⟩) (SHR_keep h.2.2.2.2 (fun c k a => hF1 c k (fun q => by simp only [S_c_X11_check, or_false] at q; omega)) (fun c k a => by rw [hF2 c k (fun q => by simp only [S_c_X12_check, or_false] at q; omega), c1 c k (by omega)])), B.2⟩
theorem sy_39 {v : Int32} {M M1 M2 : mM} {r1 r2 : Int32} (h : RY M.1) (hD0 : InvD M) (hD : InvD M1) (hD2 : InvD M2) (hF1 : FR S_c_X11_count M M1) (hs1 : SP_X11_count v M r1 M1) (hF2 : FR S_c_X12_count M1 M2) (hs2 : SP_X12_count v M1 r2 M2) : RY M2.1 ∧ True := by
  have hx := (st_39 h.1 hD0 hF1 hs1 hF2 hs2).1
  have s1 : cC S_c_X11_count := fun c k q => by simp only [S_c_X11_count, or_false] at q; omega
  have s2 : cD S_c_X12_count := fun c k q => by simp only [S_c_X12_count, or_false] at q; omega
  have c1 : ∀ (c : rf) (k : Nat), c.1 = 12 ∨ 50 ≤ c.1 → M1.1 c k = M.1 c k := fun c k a => hF1 c k (fun q => s1 c k q a)
  have c2 : ∀ (c : rf) (k : Nat), ¬ (c.1 = 12 ∨ 50 ≤ c.1) → M2.1 c k = M1.1 c k := fun c k a => hF2 c k (fun q => a (s2 c k q))
  have e50 : M1.1 (50, 0, 0) = M.1 (50, 0, 0) := funext fun k => c1 _ _ (by simp)
  have hR : RW 0 M.1 (M1.1 (50, 0, 0)) := by rw [e50]; exact h.2.2.1
  have hu : (M1.1 (12, 0, 0) 7).toInt = -1 := by rw [c1 _ _ (by simp)]; exact h.2.1
  have h7 : (M2.1 (12, 0, 0) 7).toInt = -1 := by rw [hF2 (12, 0, 0) 7 (fun q => by simp only [S_c_X12_count, or_false] at q; omega)]; exact hu
  exact ⟨RY_fr h hF1 hF2 s1 s2 hx hD2.2.1 hD2.2.2.1 (fun c k a b q => by unfold wR at a; simp only [S_c_X11_count, or_false] at q; omega) (fun c k a q => by rcases a with rfl | rfl | ⟨rfl, rfl⟩ | a | a | a <;> (simp only [S_c_X12_count, or_false] at q <;> omega)) (fun c k a q => by simp only [S_c_X11_count, or_false] at q; omega) h7, trivial⟩
theorem sy_40 {v : Int32} {M M1 M2 : mM} {r1 r2 : Int32} (h : RY M.1) (hD0 : InvD M) (hD : InvD M1) (hD2 : InvD M2) (hF1 : FR S_c_X11_told M M1) (hs1 : SP_X11_told v M r1 M1) (hF2 : FR S_c_X12_told M1 M2) (hs2 : SP_X12_told v M1 r2 M2) : RY M2.1 ∧ True := by
  have hx := (st_40 h.1 hD0 hF1 hs1 hF2 hs2).1
  have s1 : cC S_c_X11_told := fun c k q => by simp only [S_c_X11_told, or_false] at q; omega
  have s2 : cD S_c_X12_told := fun c k q => by simp only [S_c_X12_told, or_false] at q; omega
  have c1 : ∀ (c : rf) (k : Nat), c.1 = 12 ∨ 50 ≤ c.1 → M1.1 c k = M.1 c k := fun c k a => hF1 c k (fun q => s1 c k q a)
  have c2 : ∀ (c : rf) (k : Nat), ¬ (c.1 = 12 ∨ 50 ≤ c.1) → M2.1 c k = M1.1 c k := fun c k a => hF2 c k (fun q => a (s2 c k q))
  have e50 : M1.1 (50, 0, 0) = M.1 (50, 0, 0) := funext fun k => c1 _ _ (by simp)
  have hR : RW 0 M.1 (M1.1 (50, 0, 0)) := by rw [e50]; exact h.2.2.1
  have hu : (M1.1 (12, 0, 0) 7).toInt = -1 := by rw [c1 _ _ (by simp)]; exact h.2.1
  have h7 : (M2.1 (12, 0, 0) 7).toInt = -1 := by rw [hF2 (12, 0, 0) 7 (fun q => by simp only [S_c_X12_told, or_false] at q; omega)]; exact hu
  exact ⟨RY_fr h hF1 hF2 s1 s2 hx hD2.2.1 hD2.2.2.1 (fun c k a b q => by unfold wR at a; simp only [S_c_X11_told, or_false] at q; omega) (fun c k a q => by rcases a with rfl | rfl | ⟨rfl, rfl⟩ | a | a | a <;> (simp only [S_c_X12_told, or_false] at q <;> omega)) (fun c k a q => by simp only [S_c_X11_told, or_false] at q; omega) h7, trivial⟩
end
