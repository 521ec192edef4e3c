section
/-! echo -/
theorem x2clk {u : Int32} {M : mM} {r : Int32} (h : SP_X2_isClick_ u M r) : (r.toInt = 1 ∧ 100 ≤ u.toInt ∧ u.toInt ≤ 999 ∧ 1 ≤ u.toInt % 100) ∨ (r.toInt = 0 ∧ ¬ (100 ≤ u.toInt ∧ u.toInt ≤ 999 ∧ 1 ≤ u.toInt % 100)) := by
  have q0 := il_0
  have q1 := il_1
  unfold SP_X2_isClick_ at h
  rcases h with (⟨h1_, hr_⟩ | ⟨h1_, z2_, h3_, z4_, h5_, r6_, hs10_, h9_, (⟨h11_, hr_⟩ | ⟨h11_, hr_⟩)⟩)
  · have y2 := eT hr_
    omega
  · have y2 := eT hr_
    have c := x2click hs10_
    omega
  · have y2 := eT hr_
    have c := x2click hs10_
    omega
theorem x12clk {u : Int32} {M : mM} {r : Int32} (h : SP_X12_isClick u M r) : (r.toInt = 1 ∧ 100 ≤ u.toInt ∧ u.toInt ≤ 999 ∧ 1 ≤ u.toInt % 100) ∨ (r.toInt = 0 ∧ ¬ (100 ≤ u.toInt ∧ u.toInt ≤ 999 ∧ 1 ≤ u.toInt % 100)) := by
  have q0 := il_0
  have q1 := il_1
  unfold SP_X12_isClick at h
  rcases h with (⟨hs5_, h4_, z7_, h8_, (⟨h9_, hr_⟩ | ⟨h9_, hr_⟩)⟩ | ⟨hs5_, h4_, hr_⟩)
  all_goals (have y2 := eT hr_; omega)
theorem hund {u : Int32} (h : 100 ≤ u.toInt ∧ u.toInt ≤ 999) : (u / (100 : Int32)).toInt = u.toInt / 100 ∧ (u - u / (100 : Int32) * (100 : Int32)).toInt = u.toInt % 100 := by
  have i100 : (100 : Int32).toInt = 100 := by decide
  exact ⟨divI rfl i100 (by omega) (by omega), remI rfl i100 (by omega) (by omega)⟩
/-- a seen walker of its own is no wall to itself -/
theorem fr_own {b : Nat} {q : rf → Nat → Int32} {n : Nat → Int32} {v c s y R : Int} (hO : OCC b q n) (hN : NW5 n) (hv : 0 ≤ v ∧ v < nWa n) (hc : c = wcl n v.toNat) (cb : 0 ≤ c ∧ c ≤ 191) (hs : 0 ≤ s ∧ s ≤ 7) (hR : R ≤ 12) (E : EchoP (FrM (occ b q) (-1)) c s R y) : EchoP (FrS (occ b q) v) c s R y := by
  have nw := nWa_b hN
  have nT := nTh_b hN
  refine EchoP_cong (fun j h1 h2 h3 => ?_) E
  have ob := onI_b (c := c) (s := s) (y := j)
  have o3 := hO.2.2 (onI c s j).toNat (by omega)
  have ne := onI_ne cb hs ⟨h1, (by omega : j ≤ 15)⟩
  unfold FrM FrS
  refine ⟨fun z => ?_, fun z => ?_⟩
  · rcases z with z | z
    · exact Or.inl z
    · omega
  · rcases z with z | z
    · exact Or.inl z
    · exfalso
      rcases o3 with o | o | o
      · omega
      · omega
      · have e := o.2.2
        rw [z, show (100 + v - 100).toNat = v.toNat by omega, ← hc] at e
        omega
theorem x10fact {v u t s y : Int32} {M M' : mM} {r : Int32} {n : Nat → Int32} (h : SP_X10_echoFact 0 v u t s M r M') (hR : WRR 0 M.1 n) (hN : NW5 n) (hv : 0 ≤ v.toInt ∧ v.toInt < nWa n) (ht : 0 ≤ t.toInt ∧ t.toInt ≤ 7) (hs : 0 ≤ s.toInt ∧ s.toInt ≤ 5)
    (E : EchoP (FrS (occ 0 M.1) v.toInt) (n (181 + 9 * v.toInt.toNat)).toInt t.toInt (reachI (n (180 + 9 * v.toInt.toNat)).toInt) y.toInt) (hy : ¬ y.toInt = 0) :
    ∃ st : Int32, st.toInt = strI n (kindS n (occ 0 M.1) (onI (n (181 + 9 * v.toInt.toNat)).toInt t.toInt y.toInt)).toNat (u / (100 : Int32)) (u - u / (100 : Int32) * (100 : Int32)) y ∧ ((s.toInt = 0 ∧ r = y) ∨ (s.toInt = 1 ∧ r.toInt = lateN t.toInt y.toInt) ∨ (s.toInt = 2 ∧ r = st) ∨ (s.toInt = 3 ∧ ((((t.toInt - (n (182 + 9 * v.toInt.toNat)).toInt) % 8 < 1 ∨ 3 < (t.toInt - (n (182 + 9 * v.toInt.toNat)).toInt) % 8) ∧ r = st) ∨ (1 ≤ (t.toInt - (n (182 + 9 * v.toInt.toNat)).toInt) % 8 ∧ (t.toInt - (n (182 + 9 * v.toInt.toNat)).toInt) % 8 ≤ 3 ∧ r = st / (2 : Int32)))) ∨ (s.toInt = 4 ∧ (((t.toInt - (n (182 + 9 * v.toInt.toNat)).toInt) % 8 < 5 ∧ r = st) ∨ (5 ≤ (t.toInt - (n (182 + 9 * v.toInt.toNat)).toInt) % 8 ∧ r = st / (2 : Int32)))) ∨ (s.toInt = 5 ∧ ((r.toInt = 1 ∧ heS n (earsI (n (180 + 9 * v.toInt.toNat)).toInt) (kindS n (occ 0 M.1) (onI (n (181 + 9 * v.toInt.toNat)).toInt t.toInt y.toInt)).toNat (u / (100 : Int32)) (u - u / (100 : Int32) * (100 : Int32)) t y) ∨ (r.toInt = 0 ∧ ¬ heS n (earsI (n (180 + 9 * v.toInt.toNat)).toInt) (kindS n (occ 0 M.1) (onI (n (181 + 9 * v.toInt.toNat)).toInt t.toInt y.toInt)).toNat (u / (100 : Int32)) (u - u / (100 : Int32) * (100 : Int32)) t y)))) := by
  have q0 := il_0
  have q1 := il_1
  have hR0 := hR
  obtain ⟨hL, hT, hW, hX, hO, hM⟩ := hR
  have nw := nWa_b hN
  have ec := eT hW.1
  have w1 := (hW.2 v.toInt.toNat (by omega)).1
  have k0 := w1 0 (by omega)
  have k1 := w1 1 (by omega)
  have k2 := w1 2 (by omega)
  simp only [Nat.add_zero] at k0
  rw [show 180 + 9 * v.toInt.toNat + 1 = 181 + 9 * v.toInt.toNat by omega] at k1
  rw [show 180 + 9 * v.toInt.toNat + 2 = 182 + 9 * v.toInt.toNat by omega] at k2
  have PN := (hN.1 (180 + 9 * v.toInt.toNat)).2.2.2.2.2.2.2 (by unfold nWa at hv nw; omega) (by unfold nWa at hv nw; omega)
  have kb := PN.1 (by omega)
  have cb := ((hN.1 (181 + 9 * v.toInt.toNat)).2.2.2.2.2.2.2 (by unfold nWa at hv nw; omega) (by unfold nWa at hv nw; omega)).2.1 (by omega)
  have fb := ((hN.1 (182 + 9 * v.toInt.toNat)).2.2.2.2.2.2.2 (by unfold nWa at hv nw; omega) (by unfold nWa at hv nw; omega)).2.2 (by omega)
  have rb := reachI_b (n (180 + 9 * v.toInt.toNat)).toInt
  unfold SP_X10_echoFact at h
  rcases h with ⟨hs5_, h4_, j7_, h8_, h9_, z10_, e11_, r12_, hs16_, h15_, r17_, hs21_, r24_, hs28_, h27_, r29_, hs33_, M35_, -, hF39_, r34_, hs41_, z42_, e43_, z44_, h45_, z46_, h48_, h47_, h⟩ | ⟨hs5_, hr_, hM_⟩
  · obtain rfl : j7_ = v.toInt.toNat := by omega
    rw [k1] at e11_
    obtain rfl := e11_
    have E1 := x10echo hs16_ ⟨hv.1, by omega, by unfold nWa at hv; omega⟩ (by rw [k0]; exact kb) cb ht
    rw [k0] at E1
    obtain rfl : r12_ = y := i32e (EchoP_uniq E1 E)
    have yb : 1 ≤ r12_.toInt ∧ r12_.toInt ≤ 12 ∧ 0 ≤ onI (n (181 + 9 * v.toInt.toNat)).toInt t.toInt r12_.toInt := by
      unfold EchoP at E
      omega
    have cf := cF_spec hs28_
    have e24 : r24_.toInt = onI (n (181 + 9 * v.toInt.toNat)).toInt t.toInt r12_.toInt := by omega
    have kk := x7kindIn hs33_ ⟨by omega, h27_.2⟩ hT hN
    have kb2 := kindS_b (o := occ 0 M.1) (x := r24_.toInt) hN
    have sS := x2strength hs41_ hL hX hN.2 (by omega)
    rw [kk, e24] at sS
    have LA := x2late hs21_ ht (by omega)
    have hR2 := WRR_q hR0 hN (q2 := M35_.1) (fun c k a b => hF39_ c k (fun q => by simp only [S_c_X2_strength, or_false] at q; omega))
    have k2' : M35_.1 (9, 0, v.toInt.toNat) 2 = n (182 + 9 * v.toInt.toNat) := by
      rw [← k2]
      exact hF39_ _ _ (fun q => by simp only [S_c_X2_strength, or_false] at q; omega)
    have k0' : M35_.1 (9, 0, v.toInt.toNat) 0 = n (180 + 9 * v.toInt.toNat) := by
      rw [← k0]
      exact hF39_ _ _ (fun q => by simp only [S_c_X2_strength, or_false] at q; omega)
    rw [k2'] at e43_
    have z44 : z44_.toInt = t.toInt - (n (182 + 9 * v.toInt.toNat)).toInt := by
      rw [h45_, e43_]
      exact subI rfl rfl (by omega) (by omega)
    have a7 := and7 z44_
    rw [← h48_, z44] at a7
    clear hL hT hW hX hO hM hR0 E E1 w1 PN hs16_ hs28_ hs33_ hs41_ h47_
    refine ⟨r34_, sS, ?_⟩
    rcases h with (⟨e49_, hr_, hM_⟩ | ⟨e49_, hr_, hM_⟩ | ⟨e49_, hr_, hM_⟩ | ⟨e49_, (⟨h50_, hr_, hM_⟩ | ⟨h50_, (⟨h51_, hr_, hM_⟩ | ⟨h51_, z52_, h53_, hr_, hM_⟩)⟩)⟩ | ⟨e49_, (⟨h54_, hr_, hM_⟩ | ⟨h54_, z55_, h56_, hr_, hM_⟩)⟩ | ⟨e49_, r57_, hs61_, h60_, M63_, -, hF67_, r62_, hs69_, h65_, (⟨h70_, hr_, hM_⟩ | ⟨h70_, hr_, hM_⟩)⟩)
    · exact Or.inl ⟨e49_, hr_⟩
    · exact Or.inr (Or.inl ⟨e49_, by rw [hr_]; exact LA⟩)
    · exact Or.inr (Or.inr (Or.inl ⟨e49_, hr_⟩))
    · exact Or.inr (Or.inr (Or.inr (Or.inl ⟨e49_, Or.inl ⟨by omega, hr_⟩⟩)))
    · exact Or.inr (Or.inr (Or.inr (Or.inl ⟨e49_, Or.inl ⟨by omega, hr_⟩⟩)))
    · exact Or.inr (Or.inr (Or.inr (Or.inl ⟨e49_, Or.inr ⟨by omega, by omega, hr_.trans h53_⟩⟩)))
    · exact Or.inr (Or.inr (Or.inr (Or.inr (Or.inl ⟨e49_, Or.inl ⟨by omega, hr_⟩⟩))))
    · exact Or.inr (Or.inr (Or.inr (Or.inr (Or.inl ⟨e49_, Or.inr ⟨by omega, hr_.trans h56_⟩⟩))))
    · have hh := x2isHeard hs69_ hR2.1 hR2.2.2.2.1 hN.2
      rw [x9ears hs61_ (by rw [k0']; exact kb), k0', ofIe LA, ofIe sS] at hh
      have yr := eT hr_
      unfold heS
      refine Or.inr (Or.inr (Or.inr (Or.inr (Or.inr ⟨by omega, ?_⟩))))
      rcases hh with ⟨h1, h2⟩ | ⟨h1, h2⟩
      · exact Or.inl ⟨by omega, h2⟩
      · exact Or.inr ⟨by omega, h2⟩
    · have hh := x2isHeard hs69_ hR2.1 hR2.2.2.2.1 hN.2
      rw [x9ears hs61_ (by rw [k0']; exact kb), k0', ofIe LA, ofIe sS] at hh
      have yr := eT hr_
      unfold heS
      refine Or.inr (Or.inr (Or.inr (Or.inr (Or.inr ⟨by omega, ?_⟩))))
      rcases hh with ⟨h1, h2⟩ | ⟨h1, h2⟩
      · exact Or.inl ⟨by omega, h2⟩
      · exact Or.inr ⟨by omega, h2⟩
  · have := x10has hs5_
    unfold nWa at hv nw
    exfalso
    omega
theorem earS {v u t s : Int32} {M : mM} {r : Int32} (h : SP_X12_ear v u t s M r) (hu : 0 ≤ u.toInt ∧ u.toInt ≤ 7) (ht : 0 ≤ t.toInt ∧ t.toInt ≤ 7) (hs : 0 ≤ s.toInt ∧ s.toInt ≤ 7) : (3 ≤ (u.toInt - t.toInt - s.toInt + 16) % 8 ∧ r = v) ∨ ((u.toInt - t.toInt - s.toInt + 16) % 8 < 3 ∧ r = v / (2 : Int32)) := by
  have i16 : (16 : Int32).toInt = 16 := by decide
  unfold SP_X12_ear at h
  obtain ⟨z1_, h2_, z3_, h4_, z5_, h6_, z7_, h9_, h8_, h⟩ := h
  have a1 : z1_.toInt = u.toInt - t.toInt := by rw [h2_]; exact subI rfl rfl (by omega) (by omega)
  have a2 : z3_.toInt = z1_.toInt - s.toInt := by rw [h4_]; exact subI rfl rfl (by omega) (by omega)
  have a3 : z5_.toInt = z3_.toInt + 16 := by rw [h6_]; exact addI rfl i16 (by omega) (by omega)
  have a7 := and7 z5_
  rw [← h9_] at a7
  clear h8_
  rcases h with ⟨h10_, hr_⟩ | ⟨h10_, z11_, h12_, hr_⟩
  · exact Or.inl ⟨by omega, hr_⟩
  · exact Or.inr ⟨by omega, hr_.trans h12_⟩
theorem an_16 {v : Int32} {u : Int32} {t : Int32} {s : Int32} {M M1 D D2 : mM} {r1 r2 : Int32} (h1 : SP_X11_echo v u t s M r1 M1) (h2 : SP_X12_echo v u t s D r2 D2) (hR : RW 0 M.1 (D.1 (50, 0, 0))) (hD : InvD D) (hu : (D.1 (12, 0, 0) 7).toInt = -1) : r1 = r2 := by
  have q0 := il_0
  have q1 := il_1
  have i2 : (2 : Int32).toInt = 2 := by decide
  have bT := eT hR.1.2.1.1
  have bW := eT hR.1.2.2.1.1
  have nT := nTh_b hD.2.1
  have nW := nWa_b hD.2.1
  unfold nTh at nT
  unfold nWa at nW
  unfold SP_X11_echo at h1
  rcases h1 with (⟨c_hs5_, c_h4_, c_r7_, c_hs11_, c_h10_, (⟨c_h12_, c_M14_, -, c_hF18_, c_r13_, c_hs20_, c_hr_, c_hM_⟩ | ⟨c_h12_, (⟨c_hs25_, c_h24_, (⟨c_hs31_, c_h30_, c_j33_, c_h34_, c_h35_, c_z36_, c_e37_, c_r38_, c_hs42_, c_h41_, (⟨c_h43_, c_M45_, -, c_hF49_, c_r44_, c_hs51_, c_hr_, c_hM_⟩ | ⟨c_h43_, c_M53_, -, c_hF57_, c_r52_, c_hs59_, c_hr_, c_hM_⟩)⟩ | ⟨c_hs31_, c_h30_, c_M62_, -, c_hF66_, c_r61_, c_hs68_, c_hr_, c_hM_⟩)⟩ | ⟨c_hs25_, c_h24_, c_M71_, -, c_hF75_, c_r70_, c_hs77_, c_hr_, c_hM_⟩)⟩)⟩ | ⟨c_hs5_, c_M80_, -, c_hF84_, c_r79_, c_hs86_, c_hr_, c_hM_⟩)
  · have qc_hs5_ := x10has c_hs5_
    have qc_hs11_ := x2clk c_hs11_
    have qc_hs20_ := err1 c_hs20_
    have yrc_ := eT c_hr_
    unfold SP_X12_echo at h2
    rcases h2 with (⟨d_hs5_, d_h4_, (⟨d_hs11_, d_h10_, (⟨d_hs17_, d_h16_, (⟨d_hs23_, d_h22_, d_r25_, d_hs29_, d_h28_, d_z30_, d_h31_, d_j34_, d_h35_, d_z32_, d_e33_, d_h36_, d_r37_, d_hs41_, d_h40_, d_r42_, d_hs46_, d_h45_, (⟨d_h47_, d_r48_, d_hs52_, d_h51_, d_r53_, d_hs57_, d_h56_, d_z58_, d_h59_, d_z60_, d_h61_, d_M63_, d_hI66_, d_hF67_, d_r62_, d_hs69_, d_r70_, d_hs74_, d_h73_, d_z75_, d_h76_, d_j79_, d_h80_, d_z77_, d_e78_, d_h81_, (⟨d_e82_, d_hr_, d_hM_⟩ | ⟨d_e82_, d_r83_, d_hs87_, d_hr_, d_hM_⟩ | ⟨d_e82_, d_hr_, d_hM_⟩ | ⟨d_e82_, d_r88_, d_hs92_, d_hr_, d_hM_⟩ | ⟨d_e82_, d_r93_, d_hs97_, d_hr_, d_hM_⟩ | ⟨d_e82_, d_r98_, d_hs102_, d_h101_, d_z103_, d_h104_, d_z105_, d_h106_, d_M108_, -, d_hF112_, d_r107_, d_hs114_, d_h110_, (⟨d_h115_, d_hr_, d_hM_⟩ | ⟨d_h115_, d_hr_, d_hM_⟩)⟩)⟩ | ⟨d_h47_, d_M117_, -, d_hF121_, d_r116_, d_hs123_, d_h119_, d_hr_, d_hM_⟩)⟩ | ⟨d_hs23_, d_h22_, d_M126_, -, d_hF130_, d_r125_, d_hs132_, d_h128_, d_hr_, d_hM_⟩)⟩ | ⟨d_hs17_, d_h16_, d_M135_, -, d_hF139_, d_r134_, d_hs141_, d_h137_, d_hr_, d_hM_⟩)⟩ | ⟨d_hs11_, d_M144_, -, d_hF148_, d_r143_, d_hs150_, d_h146_, d_hr_, d_hM_⟩)⟩ | ⟨d_hs5_, d_M153_, -, d_hF157_, d_r152_, d_hs159_, d_h155_, d_hr_, d_hM_⟩)
    · obtain rfl : d_j34_ = 181 + 9 * v.toInt.toNat := by omega
      obtain rfl : d_j79_ = 182 + 9 * v.toInt.toNat := by omega
      have qd_hs5_ := is2x d_hs5_
      have qd_hs11_ := x12clk d_hs11_
      have yd_e33_ := eT d_e33_
      have yd_e78_ := eT d_e78_
      have yrd_ := eT d_hr_
      exfalso; omega
    · obtain rfl : d_j34_ = 181 + 9 * v.toInt.toNat := by omega
      obtain rfl : d_j79_ = 182 + 9 * v.toInt.toNat := by omega
      have qd_hs5_ := is2x d_hs5_
      have qd_hs11_ := x12clk d_hs11_
      have yd_e33_ := eT d_e33_
      have yd_e78_ := eT d_e78_
      have yrd_ := eT d_hr_
      exfalso; omega
    · obtain rfl : d_j34_ = 181 + 9 * v.toInt.toNat := by omega
      obtain rfl : d_j79_ = 182 + 9 * v.toInt.toNat := by omega
      have qd_hs5_ := is2x d_hs5_
      have qd_hs11_ := x12clk d_hs11_
      have yd_e33_ := eT d_e33_
      have yd_e78_ := eT d_e78_
      have yrd_ := eT d_hr_
      exfalso; omega
    · obtain rfl : d_j34_ = 181 + 9 * v.toInt.toNat := by omega
      obtain rfl : d_j79_ = 182 + 9 * v.toInt.toNat := by omega
      have qd_hs5_ := is2x d_hs5_
      have qd_hs11_ := x12clk d_hs11_
      have yd_e33_ := eT d_e33_
      have yd_e78_ := eT d_e78_
      have yrd_ := eT d_hr_
      exfalso; omega
    · obtain rfl : d_j34_ = 181 + 9 * v.toInt.toNat := by omega
      obtain rfl : d_j79_ = 182 + 9 * v.toInt.toNat := by omega
      have qd_hs5_ := is2x d_hs5_
      have qd_hs11_ := x12clk d_hs11_
      have yd_e33_ := eT d_e33_
      have yd_e78_ := eT d_e78_
      have yrd_ := eT d_hr_
      exfalso; omega
    · obtain rfl : d_j34_ = 181 + 9 * v.toInt.toNat := by omega
      obtain rfl : d_j79_ = 182 + 9 * v.toInt.toNat := by omega
      have qd_hs5_ := is2x d_hs5_
      have qd_hs11_ := x12clk d_hs11_
      have yd_e33_ := eT d_e33_
      have yd_e78_ := eT d_e78_
      have yrd_ := eT d_hr_
      exfalso; omega
    · obtain rfl : d_j34_ = 181 + 9 * v.toInt.toNat := by omega
      obtain rfl : d_j79_ = 182 + 9 * v.toInt.toNat := by omega
      have qd_hs5_ := is2x d_hs5_
      have qd_hs11_ := x12clk d_hs11_
      have yd_e33_ := eT d_e33_
      have yd_e78_ := eT d_e78_
      have yrd_ := eT d_hr_
      exfalso; omega
    · obtain rfl : d_j34_ = 181 + 9 * v.toInt.toNat := by omega
      have qd_hs5_ := is2x d_hs5_
      have qd_hs11_ := x12clk d_hs11_
      have yd_e33_ := eT d_e33_
      have yrd_ := eT d_hr_
      exfalso; omega
    · have qd_hs5_ := is2x d_hs5_
      have qd_hs11_ := x12clk d_hs11_
      have yrd_ := eT d_hr_
      exact i32e (by omega)
    · have qd_hs5_ := is2x d_hs5_
      have qd_hs11_ := x12clk d_hs11_
      have yrd_ := eT d_hr_
      exact i32e (by omega)
    · have qd_hs5_ := is2x d_hs5_
      have qd_hs11_ := x12clk d_hs11_
      have yrd_ := eT d_hr_
      exact i32e (by omega)
    · have qd_hs5_ := is2x d_hs5_
      have yrd_ := eT d_hr_
      exact i32e (by omega)
  · obtain rfl : c_j33_ = v.toInt.toNat := by omega
    have qc_hs5_ := x10has c_hs5_
    have qc_hs11_ := x2clk c_hs11_
    have yc_e37_ := eT c_e37_
    have yrc_ := eT c_hr_
    unfold SP_X12_echo at h2
    rcases h2 with (⟨d_hs5_, d_h4_, (⟨d_hs11_, d_h10_, (⟨d_hs17_, d_h16_, (⟨d_hs23_, d_h22_, d_r25_, d_hs29_, d_h28_, d_z30_, d_h31_, d_j34_, d_h35_, d_z32_, d_e33_, d_h36_, d_r37_, d_hs41_, d_h40_, d_r42_, d_hs46_, d_h45_, (⟨d_h47_, d_r48_, d_hs52_, d_h51_, d_r53_, d_hs57_, d_h56_, d_z58_, d_h59_, d_z60_, d_h61_, d_M63_, d_hI66_, d_hF67_, d_r62_, d_hs69_, d_r70_, d_hs74_, d_h73_, d_z75_, d_h76_, d_j79_, d_h80_, d_z77_, d_e78_, d_h81_, (⟨d_e82_, d_hr_, d_hM_⟩ | ⟨d_e82_, d_r83_, d_hs87_, d_hr_, d_hM_⟩ | ⟨d_e82_, d_hr_, d_hM_⟩ | ⟨d_e82_, d_r88_, d_hs92_, d_hr_, d_hM_⟩ | ⟨d_e82_, d_r93_, d_hs97_, d_hr_, d_hM_⟩ | ⟨d_e82_, d_r98_, d_hs102_, d_h101_, d_z103_, d_h104_, d_z105_, d_h106_, d_M108_, -, d_hF112_, d_r107_, d_hs114_, d_h110_, (⟨d_h115_, d_hr_, d_hM_⟩ | ⟨d_h115_, d_hr_, d_hM_⟩)⟩)⟩ | ⟨d_h47_, d_M117_, -, d_hF121_, d_r116_, d_hs123_, d_h119_, d_hr_, d_hM_⟩)⟩ | ⟨d_hs23_, d_h22_, d_M126_, -, d_hF130_, d_r125_, d_hs132_, d_h128_, d_hr_, d_hM_⟩)⟩ | ⟨d_hs17_, d_h16_, d_M135_, -, d_hF139_, d_r134_, d_hs141_, d_h137_, d_hr_, d_hM_⟩)⟩ | ⟨d_hs11_, d_M144_, -, d_hF148_, d_r143_, d_hs150_, d_h146_, d_hr_, d_hM_⟩)⟩ | ⟨d_hs5_, d_M153_, -, d_hF157_, d_r152_, d_hs159_, d_h155_, d_hr_, d_hM_⟩)
    · obtain rfl : d_j34_ = 181 + 9 * v.toInt.toNat := by omega
      obtain rfl : d_j79_ = 182 + 9 * v.toInt.toNat := by omega
      have qd_hs5_ := is2x d_hs5_
      have qd_hs11_ := x12clk d_hs11_
      have yd_e33_ := eT d_e33_
      have yd_e78_ := eT d_e78_
      have yrd_ := eT d_hr_
      have hv : 0 ≤ v.toInt ∧ v.toInt < nWa (D.1 (50, 0, 0)) := by unfold nWa; omega
      have PB : ∀ k, k < 3 → 180 ≤ 180 + k + 9 * v.toInt.toNat ∧ 180 + k + 9 * v.toInt.toNat < 252 := fun k hk => by omega
      have kb := ((hD.2.1.1 (180 + 9 * v.toInt.toNat)).2.2.2.2.2.2.2 (by omega) (by omega)).1 (by omega)
      have cb := ((hD.2.1.1 (181 + 9 * v.toInt.toNat)).2.2.2.2.2.2.2 (by omega) (by omega)).2.1 (by omega)
      have g0 : M.1 (9, 0, v.toInt.toNat) 0 = D.1 (50, 0, 0) (180 + 9 * v.toInt.toNat) := (hR.1.2.2.1.2 v.toInt.toNat (by omega)).1 0 (by omega)
      have g1 : M.1 (9, 0, v.toInt.toNat) 1 = D.1 (50, 0, 0) (181 + 9 * v.toInt.toNat) := by rw [(hR.1.2.2.1.2 v.toInt.toNat (by omega)).1 1 (by omega), show 180 + 9 * v.toInt.toNat + 1 = 181 + 9 * v.toInt.toNat by omega]
      rw [g1] at c_e37_
      obtain rfl := c_e37_
      have E1 := x10echo c_hs42_ ⟨hv.1, by omega, by omega⟩ (by rw [g0]; exact kb) cb c_h24_
      rw [g0] at E1
      obtain rfl := d_e33_
      have E2 := x12echo d_hs46_ hR.1.2.2.2.2.1 cb d_h16_ d_h40_ (by omega)
      rw [hu, x12reach d_hs41_ (by omega)] at E2
      have rb := reachI_b (D.1 (50, 0, 0) (180 + 9 * v.toInt.toNat)).toInt
      have E3 := fr_own hR.1.2.2.2.2.1 hD.2.1 hv rfl cb d_h16_ rb.2 E2
      have ee : c_r38_ = d_r42_ := i32e (EchoP_uniq E1 E3)
      subst ee
      have CF := x10fact c_hs51_ hR.1 hD.2.1 hv c_h24_ c_h30_ E1 c_h43_
      obtain ⟨st, s1, CF⟩ := CF
      have yb : 1 ≤ c_r38_.toInt ∧ c_r38_.toInt ≤ 12 ∧ 0 ≤ onI (D.1 (50, 0, 0) (181 + 9 * v.toInt.toNat)).toInt t.toInt c_r38_.toInt ∧ ¬ FrM (occ 0 M.1) (-1) (onI (D.1 (50, 0, 0) (181 + 9 * v.toInt.toNat)).toInt t.toInt c_r38_.toInt) := by
        rcases E2 with E2 | E2
        · exact ⟨E2.1, by omega, E2.2.2.2⟩
        · exact absurd E2.1 c_h43_
      have e48 := on_spec d_h51_.1 cb d_h16_ (by omega)
      have kk := x12kindIn d_hs57_ hR.1.2.2.2.2.1 (by omega) (by omega) (by rw [hu, e48]; exact yb.2.2.2) hD
      have kb2 := kindS_b (n := D.1 (50, 0, 0)) (o := occ 0 M.1) (x := d_r48_.toInt) hD.2.1
      have hX : ∀ w, w < 3 → ∀ i : Nat, (i : Int) < (D.1 (50, 0, 0) (345 + 50 * w)).toInt → cOK (nnU w) (D.1 (50, 0, 0) (346 + 50 * w + i)) := fun w hw i hi => ((hR.1.2.2.2.1 w hw).2 i hi).2
      have sD := x12strength d_hs69_ hD (fun i hi => hX 0 (by omega) i hi) (by omega)
      have HU := hund (u := u) (by omega)
      rw [show d_z58_ = u / (100 : Int32) from i32e (by omega), show d_z60_ = u - u / (100 : Int32) * (100 : Int32) from i32e (by omega), kk, e48, ← s1] at sD
      have sE : d_r62_ = st := i32e sD
      rcases CF with CF | CF | CF | CF | CF | CF
      · rw [c_hr_, CF.2, d_hr_]
      · omega
      · omega
      · omega
      · omega
      · omega
    · obtain rfl : d_j34_ = 181 + 9 * v.toInt.toNat := by omega
      obtain rfl : d_j79_ = 182 + 9 * v.toInt.toNat := by omega
      have qd_hs5_ := is2x d_hs5_
      have qd_hs11_ := x12clk d_hs11_
      have yd_e33_ := eT d_e33_
      have yd_e78_ := eT d_e78_
      have yrd_ := eT d_hr_
      have hv : 0 ≤ v.toInt ∧ v.toInt < nWa (D.1 (50, 0, 0)) := by unfold nWa; omega
      have PB : ∀ k, k < 3 → 180 ≤ 180 + k + 9 * v.toInt.toNat ∧ 180 + k + 9 * v.toInt.toNat < 252 := fun k hk => by omega
      have kb := ((hD.2.1.1 (180 + 9 * v.toInt.toNat)).2.2.2.2.2.2.2 (by omega) (by omega)).1 (by omega)
      have cb := ((hD.2.1.1 (181 + 9 * v.toInt.toNat)).2.2.2.2.2.2.2 (by omega) (by omega)).2.1 (by omega)
      have g0 : M.1 (9, 0, v.toInt.toNat) 0 = D.1 (50, 0, 0) (180 + 9 * v.toInt.toNat) := (hR.1.2.2.1.2 v.toInt.toNat (by omega)).1 0 (by omega)
      have g1 : M.1 (9, 0, v.toInt.toNat) 1 = D.1 (50, 0, 0) (181 + 9 * v.toInt.toNat) := by rw [(hR.1.2.2.1.2 v.toInt.toNat (by omega)).1 1 (by omega), show 180 + 9 * v.toInt.toNat + 1 = 181 + 9 * v.toInt.toNat by omega]
      rw [g1] at c_e37_
      obtain rfl := c_e37_
      have E1 := x10echo c_hs42_ ⟨hv.1, by omega, by omega⟩ (by rw [g0]; exact kb) cb c_h24_
      rw [g0] at E1
      obtain rfl := d_e33_
      have E2 := x12echo d_hs46_ hR.1.2.2.2.2.1 cb d_h16_ d_h40_ (by omega)
      rw [hu, x12reach d_hs41_ (by omega)] at E2
      have rb := reachI_b (D.1 (50, 0, 0) (180 + 9 * v.toInt.toNat)).toInt
      have E3 := fr_own hR.1.2.2.2.2.1 hD.2.1 hv rfl cb d_h16_ rb.2 E2
      have ee : c_r38_ = d_r42_ := i32e (EchoP_uniq E1 E3)
      subst ee
      have CF := x10fact c_hs51_ hR.1 hD.2.1 hv c_h24_ c_h30_ E1 c_h43_
      obtain ⟨st, s1, CF⟩ := CF
      have yb : 1 ≤ c_r38_.toInt ∧ c_r38_.toInt ≤ 12 ∧ 0 ≤ onI (D.1 (50, 0, 0) (181 + 9 * v.toInt.toNat)).toInt t.toInt c_r38_.toInt ∧ ¬ FrM (occ 0 M.1) (-1) (onI (D.1 (50, 0, 0) (181 + 9 * v.toInt.toNat)).toInt t.toInt c_r38_.toInt) := by
        rcases E2 with E2 | E2
        · exact ⟨E2.1, by omega, E2.2.2.2⟩
        · exact absurd E2.1 c_h43_
      have e48 := on_spec d_h51_.1 cb d_h16_ (by omega)
      have kk := x12kindIn d_hs57_ hR.1.2.2.2.2.1 (by omega) (by omega) (by rw [hu, e48]; exact yb.2.2.2) hD
      have kb2 := kindS_b (n := D.1 (50, 0, 0)) (o := occ 0 M.1) (x := d_r48_.toInt) hD.2.1
      have hX : ∀ w, w < 3 → ∀ i : Nat, (i : Int) < (D.1 (50, 0, 0) (345 + 50 * w)).toInt → cOK (nnU w) (D.1 (50, 0, 0) (346 + 50 * w + i)) := fun w hw i hi => ((hR.1.2.2.2.1 w hw).2 i hi).2
      have sD := x12strength d_hs69_ hD (fun i hi => hX 0 (by omega) i hi) (by omega)
      have HU := hund (u := u) (by omega)
      rw [show d_z58_ = u / (100 : Int32) from i32e (by omega), show d_z60_ = u - u / (100 : Int32) * (100 : Int32) from i32e (by omega), kk, e48, ← s1] at sD
      have sE : d_r62_ = st := i32e sD
      rcases CF with CF | CF | CF | CF | CF | CF
      · omega
      · exact i32e (by rw [c_hr_, CF.2, d_hr_, x12late d_hs87_ d_h16_ (by omega)])
      · omega
      · omega
      · omega
      · omega
    · obtain rfl : d_j34_ = 181 + 9 * v.toInt.toNat := by omega
      obtain rfl : d_j79_ = 182 + 9 * v.toInt.toNat := by omega
      have qd_hs5_ := is2x d_hs5_
      have qd_hs11_ := x12clk d_hs11_
      have yd_e33_ := eT d_e33_
      have yd_e78_ := eT d_e78_
      have yrd_ := eT d_hr_
      have hv : 0 ≤ v.toInt ∧ v.toInt < nWa (D.1 (50, 0, 0)) := by unfold nWa; omega
      have PB : ∀ k, k < 3 → 180 ≤ 180 + k + 9 * v.toInt.toNat ∧ 180 + k + 9 * v.toInt.toNat < 252 := fun k hk => by omega
      have kb := ((hD.2.1.1 (180 + 9 * v.toInt.toNat)).2.2.2.2.2.2.2 (by omega) (by omega)).1 (by omega)
      have cb := ((hD.2.1.1 (181 + 9 * v.toInt.toNat)).2.2.2.2.2.2.2 (by omega) (by omega)).2.1 (by omega)
      have g0 : M.1 (9, 0, v.toInt.toNat) 0 = D.1 (50, 0, 0) (180 + 9 * v.toInt.toNat) := (hR.1.2.2.1.2 v.toInt.toNat (by omega)).1 0 (by omega)
      have g1 : M.1 (9, 0, v.toInt.toNat) 1 = D.1 (50, 0, 0) (181 + 9 * v.toInt.toNat) := by rw [(hR.1.2.2.1.2 v.toInt.toNat (by omega)).1 1 (by omega), show 180 + 9 * v.toInt.toNat + 1 = 181 + 9 * v.toInt.toNat by omega]
      rw [g1] at c_e37_
      obtain rfl := c_e37_
      have E1 := x10echo c_hs42_ ⟨hv.1, by omega, by omega⟩ (by rw [g0]; exact kb) cb c_h24_
      rw [g0] at E1
      obtain rfl := d_e33_
      have E2 := x12echo d_hs46_ hR.1.2.2.2.2.1 cb d_h16_ d_h40_ (by omega)
      rw [hu, x12reach d_hs41_ (by omega)] at E2
      have rb := reachI_b (D.1 (50, 0, 0) (180 + 9 * v.toInt.toNat)).toInt
      have E3 := fr_own hR.1.2.2.2.2.1 hD.2.1 hv rfl cb d_h16_ rb.2 E2
      have ee : c_r38_ = d_r42_ := i32e (EchoP_uniq E1 E3)
      subst ee
      have CF := x10fact c_hs51_ hR.1 hD.2.1 hv c_h24_ c_h30_ E1 c_h43_
      obtain ⟨st, s1, CF⟩ := CF
      have yb : 1 ≤ c_r38_.toInt ∧ c_r38_.toInt ≤ 12 ∧ 0 ≤ onI (D.1 (50, 0, 0) (181 + 9 * v.toInt.toNat)).toInt t.toInt c_r38_.toInt ∧ ¬ FrM (occ 0 M.1) (-1) (onI (D.1 (50, 0, 0) (181 + 9 * v.toInt.toNat)).toInt t.toInt c_r38_.toInt) := by
        rcases E2 with E2 | E2
        · exact ⟨E2.1, by omega, E2.2.2.2⟩
        · exact absurd E2.1 c_h43_
      have e48 := on_spec d_h51_.1 cb d_h16_ (by omega)
      have kk := x12kindIn d_hs57_ hR.1.2.2.2.2.1 (by omega) (by omega) (by rw [hu, e48]; exact yb.2.2.2) hD
      have kb2 := kindS_b (n := D.1 (50, 0, 0)) (o := occ 0 M.1) (x := d_r48_.toInt) hD.2.1
      have hX : ∀ w, w < 3 → ∀ i : Nat, (i : Int) < (D.1 (50, 0, 0) (345 + 50 * w)).toInt → cOK (nnU w) (D.1 (50, 0, 0) (346 + 50 * w + i)) := fun w hw i hi => ((hR.1.2.2.2.1 w hw).2 i hi).2
      have sD := x12strength d_hs69_ hD (fun i hi => hX 0 (by omega) i hi) (by omega)
      have HU := hund (u := u) (by omega)
      rw [show d_z58_ = u / (100 : Int32) from i32e (by omega), show d_z60_ = u - u / (100 : Int32) * (100 : Int32) from i32e (by omega), kk, e48, ← s1] at sD
      have sE : d_r62_ = st := i32e sD
      rcases CF with CF | CF | CF | CF | CF | CF
      · omega
      · omega
      · rw [c_hr_, CF.2, d_hr_, sE]
      · omega
      · omega
      · omega
    · obtain rfl : d_j34_ = 181 + 9 * v.toInt.toNat := by omega
      obtain rfl : d_j79_ = 182 + 9 * v.toInt.toNat := by omega
      have qd_hs5_ := is2x d_hs5_
      have qd_hs11_ := x12clk d_hs11_
      have yd_e33_ := eT d_e33_
      have yd_e78_ := eT d_e78_
      have yrd_ := eT d_hr_
      have hv : 0 ≤ v.toInt ∧ v.toInt < nWa (D.1 (50, 0, 0)) := by unfold nWa; omega
      have PB : ∀ k, k < 3 → 180 ≤ 180 + k + 9 * v.toInt.toNat ∧ 180 + k + 9 * v.toInt.toNat < 252 := fun k hk => by omega
      have kb := ((hD.2.1.1 (180 + 9 * v.toInt.toNat)).2.2.2.2.2.2.2 (by omega) (by omega)).1 (by omega)
      have cb := ((hD.2.1.1 (181 + 9 * v.toInt.toNat)).2.2.2.2.2.2.2 (by omega) (by omega)).2.1 (by omega)
      have g0 : M.1 (9, 0, v.toInt.toNat) 0 = D.1 (50, 0, 0) (180 + 9 * v.toInt.toNat) := (hR.1.2.2.1.2 v.toInt.toNat (by omega)).1 0 (by omega)
      have g1 : M.1 (9, 0, v.toInt.toNat) 1 = D.1 (50, 0, 0) (181 + 9 * v.toInt.toNat) := by rw [(hR.1.2.2.1.2 v.toInt.toNat (by omega)).1 1 (by omega), show 180 + 9 * v.toInt.toNat + 1 = 181 + 9 * v.toInt.toNat by omega]
      rw [g1] at c_e37_
      obtain rfl := c_e37_
      have E1 := x10echo c_hs42_ ⟨hv.1, by omega, by omega⟩ (by rw [g0]; exact kb) cb c_h24_
      rw [g0] at E1
      obtain rfl := d_e33_
      have E2 := x12echo d_hs46_ hR.1.2.2.2.2.1 cb d_h16_ d_h40_ (by omega)
      rw [hu, x12reach d_hs41_ (by omega)] at E2
      have rb := reachI_b (D.1 (50, 0, 0) (180 + 9 * v.toInt.toNat)).toInt
      have E3 := fr_own hR.1.2.2.2.2.1 hD.2.1 hv rfl cb d_h16_ rb.2 E2
      have ee : c_r38_ = d_r42_ := i32e (EchoP_uniq E1 E3)
      subst ee
      have CF := x10fact c_hs51_ hR.1 hD.2.1 hv c_h24_ c_h30_ E1 c_h43_
      obtain ⟨st, s1, CF⟩ := CF
      have yb : 1 ≤ c_r38_.toInt ∧ c_r38_.toInt ≤ 12 ∧ 0 ≤ onI (D.1 (50, 0, 0) (181 + 9 * v.toInt.toNat)).toInt t.toInt c_r38_.toInt ∧ ¬ FrM (occ 0 M.1) (-1) (onI (D.1 (50, 0, 0) (181 + 9 * v.toInt.toNat)).toInt t.toInt c_r38_.toInt) := by
        rcases E2 with E2 | E2
        · exact ⟨E2.1, by omega, E2.2.2.2⟩
        · exact absurd E2.1 c_h43_
      have e48 := on_spec d_h51_.1 cb d_h16_ (by omega)
      have kk := x12kindIn d_hs57_ hR.1.2.2.2.2.1 (by omega) (by omega) (by rw [hu, e48]; exact yb.2.2.2) hD
      have kb2 := kindS_b (n := D.1 (50, 0, 0)) (o := occ 0 M.1) (x := d_r48_.toInt) hD.2.1
      have hX : ∀ w, w < 3 → ∀ i : Nat, (i : Int) < (D.1 (50, 0, 0) (345 + 50 * w)).toInt → cOK (nnU w) (D.1 (50, 0, 0) (346 + 50 * w + i)) := fun w hw i hi => ((hR.1.2.2.2.1 w hw).2 i hi).2
      have sD := x12strength d_hs69_ hD (fun i hi => hX 0 (by omega) i hi) (by omega)
      have HU := hund (u := u) (by omega)
      rw [show d_z58_ = u / (100 : Int32) from i32e (by omega), show d_z60_ = u - u / (100 : Int32) * (100 : Int32) from i32e (by omega), kk, e48, ← s1] at sD
      have sE : d_r62_ = st := i32e sD
      have ER := earS d_hs92_ d_h16_ d_h81_ (by first | decide | simp | (dsimp only; omega))
      rw [sE] at ER
      have e50 : d_M63_.1 (50, 0, 0) = D.1 (50, 0, 0) := funext fun k => d_hF67_ _ _ (by simp [S_c_X12_strength])
      rw [e50] at d_e78_
      have yf := eT d_e78_
      have i5 : (1 : Int32).toInt = 1 := by decide
      rw [i5] at ER
      rcases CF with CF | CF | CF | CF | CF | CF
      · omega
      · omega
      · omega
      · rcases CF.2 with C | C <;> rcases ER with G | G
        · rw [c_hr_, C.2, d_hr_, G.2]
        · omega
        · omega
        · rw [c_hr_, C.2.2, d_hr_, G.2]
      · omega
      · omega
    · obtain rfl : d_j34_ = 181 + 9 * v.toInt.toNat := by omega
      obtain rfl : d_j79_ = 182 + 9 * v.toInt.toNat := by omega
      have qd_hs5_ := is2x d_hs5_
      have qd_hs11_ := x12clk d_hs11_
      have yd_e33_ := eT d_e33_
      have yd_e78_ := eT d_e78_
      have yrd_ := eT d_hr_
      have hv : 0 ≤ v.toInt ∧ v.toInt < nWa (D.1 (50, 0, 0)) := by unfold nWa; omega
      have PB : ∀ k, k < 3 → 180 ≤ 180 + k + 9 * v.toInt.toNat ∧ 180 + k + 9 * v.toInt.toNat < 252 := fun k hk => by omega
      have kb := ((hD.2.1.1 (180 + 9 * v.toInt.toNat)).2.2.2.2.2.2.2 (by omega) (by omega)).1 (by omega)
      have cb := ((hD.2.1.1 (181 + 9 * v.toInt.toNat)).2.2.2.2.2.2.2 (by omega) (by omega)).2.1 (by omega)
      have g0 : M.1 (9, 0, v.toInt.toNat) 0 = D.1 (50, 0, 0) (180 + 9 * v.toInt.toNat) := (hR.1.2.2.1.2 v.toInt.toNat (by omega)).1 0 (by omega)
      have g1 : M.1 (9, 0, v.toInt.toNat) 1 = D.1 (50, 0, 0) (181 + 9 * v.toInt.toNat) := by rw [(hR.1.2.2.1.2 v.toInt.toNat (by omega)).1 1 (by omega), show 180 + 9 * v.toInt.toNat + 1 = 181 + 9 * v.toInt.toNat by omega]
      rw [g1] at c_e37_
      obtain rfl := c_e37_
      have E1 := x10echo c_hs42_ ⟨hv.1, by omega, by omega⟩ (by rw [g0]; exact kb) cb c_h24_
      rw [g0] at E1
      obtain rfl := d_e33_
      have E2 := x12echo d_hs46_ hR.1.2.2.2.2.1 cb d_h16_ d_h40_ (by omega)
      rw [hu, x12reach d_hs41_ (by omega)] at E2
      have rb := reachI_b (D.1 (50, 0, 0) (180 + 9 * v.toInt.toNat)).toInt
      have E3 := fr_own hR.1.2.2.2.2.1 hD.2.1 hv rfl cb d_h16_ rb.2 E2
      have ee : c_r38_ = d_r42_ := i32e (EchoP_uniq E1 E3)
      subst ee
      have CF := x10fact c_hs51_ hR.1 hD.2.1 hv c_h24_ c_h30_ E1 c_h43_
      obtain ⟨st, s1, CF⟩ := CF
      have yb : 1 ≤ c_r38_.toInt ∧ c_r38_.toInt ≤ 12 ∧ 0 ≤ onI (D.1 (50, 0, 0) (181 + 9 * v.toInt.toNat)).toInt t.toInt c_r38_.toInt ∧ ¬ FrM (occ 0 M.1) (-1) (onI (D.1 (50, 0, 0) (181 + 9 * v.toInt.toNat)).toInt t.toInt c_r38_.toInt) := by
        rcases E2 with E2 | E2
        · exact ⟨E2.1, by omega, E2.2.2.2⟩
        · exact absurd E2.1 c_h43_
      have e48 := on_spec d_h51_.1 cb d_h16_ (by omega)
      have kk := x12kindIn d_hs57_ hR.1.2.2.2.2.1 (by omega) (by omega) (by rw [hu, e48]; exact yb.2.2.2) hD
      have kb2 := kindS_b (n := D.1 (50, 0, 0)) (o := occ 0 M.1) (x := d_r48_.toInt) hD.2.1
      have hX : ∀ w, w < 3 → ∀ i : Nat, (i : Int) < (D.1 (50, 0, 0) (345 + 50 * w)).toInt → cOK (nnU w) (D.1 (50, 0, 0) (346 + 50 * w + i)) := fun w hw i hi => ((hR.1.2.2.2.1 w hw).2 i hi).2
      have sD := x12strength d_hs69_ hD (fun i hi => hX 0 (by omega) i hi) (by omega)
      have HU := hund (u := u) (by omega)
      rw [show d_z58_ = u / (100 : Int32) from i32e (by omega), show d_z60_ = u - u / (100 : Int32) * (100 : Int32) from i32e (by omega), kk, e48, ← s1] at sD
      have sE : d_r62_ = st := i32e sD
      have ER := earS d_hs97_ d_h16_ d_h81_ (by first | decide | simp | (dsimp only; omega))
      rw [sE] at ER
      have e50 : d_M63_.1 (50, 0, 0) = D.1 (50, 0, 0) := funext fun k => d_hF67_ _ _ (by simp [S_c_X12_strength])
      rw [e50] at d_e78_
      have yf := eT d_e78_
      have i5 : (5 : Int32).toInt = 5 := by decide
      rw [i5] at ER
      rcases CF with CF | CF | CF | CF | CF | CF
      · omega
      · omega
      · omega
      · omega
      · rcases CF.2 with C | C <;> rcases ER with G | G
        · rw [c_hr_, C.2, d_hr_, G.2]
        · omega
        · omega
        · rw [c_hr_, C.2, d_hr_, G.2]
      · omega
    · obtain rfl : d_j34_ = 181 + 9 * v.toInt.toNat := by omega
      obtain rfl : d_j79_ = 182 + 9 * v.toInt.toNat := by omega
      have qd_hs5_ := is2x d_hs5_
      have qd_hs11_ := x12clk d_hs11_
      have yd_e33_ := eT d_e33_
      have yd_e78_ := eT d_e78_
      have yrd_ := eT d_hr_
      have hv : 0 ≤ v.toInt ∧ v.toInt < nWa (D.1 (50, 0, 0)) := by unfold nWa; omega
      have PB : ∀ k, k < 3 → 180 ≤ 180 + k + 9 * v.toInt.toNat ∧ 180 + k + 9 * v.toInt.toNat < 252 := fun k hk => by omega
      have kb := ((hD.2.1.1 (180 + 9 * v.toInt.toNat)).2.2.2.2.2.2.2 (by omega) (by omega)).1 (by omega)
      have cb := ((hD.2.1.1 (181 + 9 * v.toInt.toNat)).2.2.2.2.2.2.2 (by omega) (by omega)).2.1 (by omega)
      have g0 : M.1 (9, 0, v.toInt.toNat) 0 = D.1 (50, 0, 0) (180 + 9 * v.toInt.toNat) := (hR.1.2.2.1.2 v.toInt.toNat (by omega)).1 0 (by omega)
      have g1 : M.1 (9, 0, v.toInt.toNat) 1 = D.1 (50, 0, 0) (181 + 9 * v.toInt.toNat) := by rw [(hR.1.2.2.1.2 v.toInt.toNat (by omega)).1 1 (by omega), show 180 + 9 * v.toInt.toNat + 1 = 181 + 9 * v.toInt.toNat by omega]
      rw [g1] at c_e37_
      obtain rfl := c_e37_
      have E1 := x10echo c_hs42_ ⟨hv.1, by omega, by omega⟩ (by rw [g0]; exact kb) cb c_h24_
      rw [g0] at E1
      obtain rfl := d_e33_
      have E2 := x12echo d_hs46_ hR.1.2.2.2.2.1 cb d_h16_ d_h40_ (by omega)
      rw [hu, x12reach d_hs41_ (by omega)] at E2
      have rb := reachI_b (D.1 (50, 0, 0) (180 + 9 * v.toInt.toNat)).toInt
      have E3 := fr_own hR.1.2.2.2.2.1 hD.2.1 hv rfl cb d_h16_ rb.2 E2
      have ee : c_r38_ = d_r42_ := i32e (EchoP_uniq E1 E3)
      subst ee
      have CF := x10fact c_hs51_ hR.1 hD.2.1 hv c_h24_ c_h30_ E1 c_h43_
      obtain ⟨st, s1, CF⟩ := CF
      have yb : 1 ≤ c_r38_.toInt ∧ c_r38_.toInt ≤ 12 ∧ 0 ≤ onI (D.1 (50, 0, 0) (181 + 9 * v.toInt.toNat)).toInt t.toInt c_r38_.toInt ∧ ¬ FrM (occ 0 M.1) (-1) (onI (D.1 (50, 0, 0) (181 + 9 * v.toInt.toNat)).toInt t.toInt c_r38_.toInt) := by
        rcases E2 with E2 | E2
        · exact ⟨E2.1, by omega, E2.2.2.2⟩
        · exact absurd E2.1 c_h43_
      have e48 := on_spec d_h51_.1 cb d_h16_ (by omega)
      have kk := x12kindIn d_hs57_ hR.1.2.2.2.2.1 (by omega) (by omega) (by rw [hu, e48]; exact yb.2.2.2) hD
      have kb2 := kindS_b (n := D.1 (50, 0, 0)) (o := occ 0 M.1) (x := d_r48_.toInt) hD.2.1
      have hX : ∀ w, w < 3 → ∀ i : Nat, (i : Int) < (D.1 (50, 0, 0) (345 + 50 * w)).toInt → cOK (nnU w) (D.1 (50, 0, 0) (346 + 50 * w + i)) := fun w hw i hi => ((hR.1.2.2.2.1 w hw).2 i hi).2
      have sD := x12strength d_hs69_ hD (fun i hi => hX 0 (by omega) i hi) (by omega)
      have HU := hund (u := u) (by omega)
      rw [show d_z58_ = u / (100 : Int32) from i32e (by omega), show d_z60_ = u - u / (100 : Int32) * (100 : Int32) from i32e (by omega), kk, e48, ← s1] at sD
      have sE : d_r62_ = st := i32e sD
      have e50 : d_M63_.1 (50, 0, 0) = D.1 (50, 0, 0) := funext fun k => d_hF67_ _ _ (by simp [S_c_X12_strength])
      have hh := x12isHeard d_hs114_ d_hI66_ (by rw [e50]; exact hX) (by omega) d_h16_ (by omega)
      rw [e50, x12ears d_hs102_ (by omega), e50, show d_z103_ = u / (100 : Int32) from i32e (by omega), show d_z105_ = u - u / (100 : Int32) * (100 : Int32) from i32e (by omega), kk, e48] at hh
      refine i32e ?_
      rw [c_hr_]
      rcases CF with CF | CF | CF | CF | CF | CF
      · omega
      · omega
      · omega
      · omega
      · omega
      · rcases CF.2 with C | C <;> rcases hh with G | G
        · omega
        · exact absurd C.2 G.2
        · exact absurd G.2 C.2
        · omega
    · obtain rfl : d_j34_ = 181 + 9 * v.toInt.toNat := by omega
      obtain rfl : d_j79_ = 182 + 9 * v.toInt.toNat := by omega
      have qd_hs5_ := is2x d_hs5_
      have qd_hs11_ := x12clk d_hs11_
      have yd_e33_ := eT d_e33_
      have yd_e78_ := eT d_e78_
      have yrd_ := eT d_hr_
      have hv : 0 ≤ v.toInt ∧ v.toInt < nWa (D.1 (50, 0, 0)) := by unfold nWa; omega
      have PB : ∀ k, k < 3 → 180 ≤ 180 + k + 9 * v.toInt.toNat ∧ 180 + k + 9 * v.toInt.toNat < 252 := fun k hk => by omega
      have kb := ((hD.2.1.1 (180 + 9 * v.toInt.toNat)).2.2.2.2.2.2.2 (by omega) (by omega)).1 (by omega)
      have cb := ((hD.2.1.1 (181 + 9 * v.toInt.toNat)).2.2.2.2.2.2.2 (by omega) (by omega)).2.1 (by omega)
      have g0 : M.1 (9, 0, v.toInt.toNat) 0 = D.1 (50, 0, 0) (180 + 9 * v.toInt.toNat) := (hR.1.2.2.1.2 v.toInt.toNat (by omega)).1 0 (by omega)
      have g1 : M.1 (9, 0, v.toInt.toNat) 1 = D.1 (50, 0, 0) (181 + 9 * v.toInt.toNat) := by rw [(hR.1.2.2.1.2 v.toInt.toNat (by omega)).1 1 (by omega), show 180 + 9 * v.toInt.toNat + 1 = 181 + 9 * v.toInt.toNat by omega]
      rw [g1] at c_e37_
      obtain rfl := c_e37_
      have E1 := x10echo c_hs42_ ⟨hv.1, by omega, by omega⟩ (by rw [g0]; exact kb) cb c_h24_
      rw [g0] at E1
      obtain rfl := d_e33_
      have E2 := x12echo d_hs46_ hR.1.2.2.2.2.1 cb d_h16_ d_h40_ (by omega)
      rw [hu, x12reach d_hs41_ (by omega)] at E2
      have rb := reachI_b (D.1 (50, 0, 0) (180 + 9 * v.toInt.toNat)).toInt
      have E3 := fr_own hR.1.2.2.2.2.1 hD.2.1 hv rfl cb d_h16_ rb.2 E2
      have ee : c_r38_ = d_r42_ := i32e (EchoP_uniq E1 E3)
      subst ee
      have CF := x10fact c_hs51_ hR.1 hD.2.1 hv c_h24_ c_h30_ E1 c_h43_
      obtain ⟨st, s1, CF⟩ := CF
      have yb : 1 ≤ c_r38_.toInt ∧ c_r38_.toInt ≤ 12 ∧ 0 ≤ onI (D.1 (50, 0, 0) (181 + 9 * v.toInt.toNat)).toInt t.toInt c_r38_.toInt ∧ ¬ FrM (occ 0 M.1) (-1) (onI (D.1 (50, 0, 0) (181 + 9 * v.toInt.toNat)).toInt t.toInt c_r38_.toInt) := by
        rcases E2 with E2 | E2
        · exact ⟨E2.1, by omega, E2.2.2.2⟩
        · exact absurd E2.1 c_h43_
      have e48 := on_spec d_h51_.1 cb d_h16_ (by omega)
      have kk := x12kindIn d_hs57_ hR.1.2.2.2.2.1 (by omega) (by omega) (by rw [hu, e48]; exact yb.2.2.2) hD
      have kb2 := kindS_b (n := D.1 (50, 0, 0)) (o := occ 0 M.1) (x := d_r48_.toInt) hD.2.1
      have hX : ∀ w, w < 3 → ∀ i : Nat, (i : Int) < (D.1 (50, 0, 0) (345 + 50 * w)).toInt → cOK (nnU w) (D.1 (50, 0, 0) (346 + 50 * w + i)) := fun w hw i hi => ((hR.1.2.2.2.1 w hw).2 i hi).2
      have sD := x12strength d_hs69_ hD (fun i hi => hX 0 (by omega) i hi) (by omega)
      have HU := hund (u := u) (by omega)
      rw [show d_z58_ = u / (100 : Int32) from i32e (by omega), show d_z60_ = u - u / (100 : Int32) * (100 : Int32) from i32e (by omega), kk, e48, ← s1] at sD
      have sE : d_r62_ = st := i32e sD
      have e50 : d_M63_.1 (50, 0, 0) = D.1 (50, 0, 0) := funext fun k => d_hF67_ _ _ (by simp [S_c_X12_strength])
      have hh := x12isHeard d_hs114_ d_hI66_ (by rw [e50]; exact hX) (by omega) d_h16_ (by omega)
      rw [e50, x12ears d_hs102_ (by omega), e50, show d_z103_ = u / (100 : Int32) from i32e (by omega), show d_z105_ = u - u / (100 : Int32) * (100 : Int32) from i32e (by omega), kk, e48] at hh
      refine i32e ?_
      rw [c_hr_]
      rcases CF with CF | CF | CF | CF | CF | CF
      · omega
      · omega
      · omega
      · omega
      · omega
      · rcases CF.2 with C | C <;> rcases hh with G | G
        · omega
        · exact absurd C.2 G.2
        · exact absurd G.2 C.2
        · omega
    · obtain rfl : d_j34_ = 181 + 9 * v.toInt.toNat := by omega
      have qd_hs5_ := is2x d_hs5_
      have qd_hs11_ := x12clk d_hs11_
      have yd_e33_ := eT d_e33_
      have yrd_ := eT d_hr_
      have hv : 0 ≤ v.toInt ∧ v.toInt < nWa (D.1 (50, 0, 0)) := by unfold nWa; omega
      have PB : ∀ k, k < 3 → 180 ≤ 180 + k + 9 * v.toInt.toNat ∧ 180 + k + 9 * v.toInt.toNat < 252 := fun k hk => by omega
      have kb := ((hD.2.1.1 (180 + 9 * v.toInt.toNat)).2.2.2.2.2.2.2 (by omega) (by omega)).1 (by omega)
      have cb := ((hD.2.1.1 (181 + 9 * v.toInt.toNat)).2.2.2.2.2.2.2 (by omega) (by omega)).2.1 (by omega)
      have g0 : M.1 (9, 0, v.toInt.toNat) 0 = D.1 (50, 0, 0) (180 + 9 * v.toInt.toNat) := (hR.1.2.2.1.2 v.toInt.toNat (by omega)).1 0 (by omega)
      have g1 : M.1 (9, 0, v.toInt.toNat) 1 = D.1 (50, 0, 0) (181 + 9 * v.toInt.toNat) := by rw [(hR.1.2.2.1.2 v.toInt.toNat (by omega)).1 1 (by omega), show 180 + 9 * v.toInt.toNat + 1 = 181 + 9 * v.toInt.toNat by omega]
      rw [g1] at c_e37_
      obtain rfl := c_e37_
      have E1 := x10echo c_hs42_ ⟨hv.1, by omega, by omega⟩ (by rw [g0]; exact kb) cb c_h24_
      rw [g0] at E1
      obtain rfl := d_e33_
      have E2 := x12echo d_hs46_ hR.1.2.2.2.2.1 cb d_h16_ d_h40_ (by omega)
      rw [hu, x12reach d_hs41_ (by omega)] at E2
      have rb := reachI_b (D.1 (50, 0, 0) (180 + 9 * v.toInt.toNat)).toInt
      have E3 := fr_own hR.1.2.2.2.2.1 hD.2.1 hv rfl cb d_h16_ rb.2 E2
      have ee : c_r38_ = d_r42_ := i32e (EchoP_uniq E1 E3)
      exfalso
      have := eT ee
      omega
    · have qd_hs5_ := is2x d_hs5_
      have qd_hs11_ := x12clk d_hs11_
      have yrd_ := eT d_hr_
      exfalso; omega
    · have qd_hs5_ := is2x d_hs5_
      have qd_hs11_ := x12clk d_hs11_
      have yrd_ := eT d_hr_
      exfalso; omega
    · have qd_hs5_ := is2x d_hs5_
      have qd_hs11_ := x12clk d_hs11_
      have yrd_ := eT d_hr_
      exfalso; omega
    · have qd_hs5_ := is2x d_hs5_
      have yrd_ := eT d_hr_
      exfalso; omega
  · obtain rfl : c_j33_ = v.toInt.toNat := by omega
    have qc_hs5_ := x10has c_hs5_
    have qc_hs11_ := x2clk c_hs11_
    have yc_e37_ := eT c_e37_
    have qc_hs59_ := err2 c_hs59_
    have yrc_ := eT c_hr_
    unfold SP_X12_echo at h2
    rcases h2 with (⟨d_hs5_, d_h4_, (⟨d_hs11_, d_h10_, (⟨d_hs17_, d_h16_, (⟨d_hs23_, d_h22_, d_r25_, d_hs29_, d_h28_, d_z30_, d_h31_, d_j34_, d_h35_, d_z32_, d_e33_, d_h36_, d_r37_, d_hs41_, d_h40_, d_r42_, d_hs46_, d_h45_, (⟨d_h47_, d_r48_, d_hs52_, d_h51_, d_r53_, d_hs57_, d_h56_, d_z58_, d_h59_, d_z60_, d_h61_, d_M63_, d_hI66_, d_hF67_, d_r62_, d_hs69_, d_r70_, d_hs74_, d_h73_, d_z75_, d_h76_, d_j79_, d_h80_, d_z77_, d_e78_, d_h81_, (⟨d_e82_, d_hr_, d_hM_⟩ | ⟨d_e82_, d_r83_, d_hs87_, d_hr_, d_hM_⟩ | ⟨d_e82_, d_hr_, d_hM_⟩ | ⟨d_e82_, d_r88_, d_hs92_, d_hr_, d_hM_⟩ | ⟨d_e82_, d_r93_, d_hs97_, d_hr_, d_hM_⟩ | ⟨d_e82_, d_r98_, d_hs102_, d_h101_, d_z103_, d_h104_, d_z105_, d_h106_, d_M108_, -, d_hF112_, d_r107_, d_hs114_, d_h110_, (⟨d_h115_, d_hr_, d_hM_⟩ | ⟨d_h115_, d_hr_, d_hM_⟩)⟩)⟩ | ⟨d_h47_, d_M117_, -, d_hF121_, d_r116_, d_hs123_, d_h119_, d_hr_, d_hM_⟩)⟩ | ⟨d_hs23_, d_h22_, d_M126_, -, d_hF130_, d_r125_, d_hs132_, d_h128_, d_hr_, d_hM_⟩)⟩ | ⟨d_hs17_, d_h16_, d_M135_, -, d_hF139_, d_r134_, d_hs141_, d_h137_, d_hr_, d_hM_⟩)⟩ | ⟨d_hs11_, d_M144_, -, d_hF148_, d_r143_, d_hs150_, d_h146_, d_hr_, d_hM_⟩)⟩ | ⟨d_hs5_, d_M153_, -, d_hF157_, d_r152_, d_hs159_, d_h155_, d_hr_, d_hM_⟩)
    · obtain rfl : d_j34_ = 181 + 9 * v.toInt.toNat := by omega
      obtain rfl : d_j79_ = 182 + 9 * v.toInt.toNat := by omega
      have qd_hs5_ := is2x d_hs5_
      have qd_hs11_ := x12clk d_hs11_
      have yd_e33_ := eT d_e33_
      have yd_e78_ := eT d_e78_
      have yrd_ := eT d_hr_
      have hv : 0 ≤ v.toInt ∧ v.toInt < nWa (D.1 (50, 0, 0)) := by unfold nWa; omega
      have PB : ∀ k, k < 3 → 180 ≤ 180 + k + 9 * v.toInt.toNat ∧ 180 + k + 9 * v.toInt.toNat < 252 := fun k hk => by omega
      have kb := ((hD.2.1.1 (180 + 9 * v.toInt.toNat)).2.2.2.2.2.2.2 (by omega) (by omega)).1 (by omega)
      have cb := ((hD.2.1.1 (181 + 9 * v.toInt.toNat)).2.2.2.2.2.2.2 (by omega) (by omega)).2.1 (by omega)
      have g0 : M.1 (9, 0, v.toInt.toNat) 0 = D.1 (50, 0, 0) (180 + 9 * v.toInt.toNat) := (hR.1.2.2.1.2 v.toInt.toNat (by omega)).1 0 (by omega)
      have g1 : M.1 (9, 0, v.toInt.toNat) 1 = D.1 (50, 0, 0) (181 + 9 * v.toInt.toNat) := by rw [(hR.1.2.2.1.2 v.toInt.toNat (by omega)).1 1 (by omega), show 180 + 9 * v.toInt.toNat + 1 = 181 + 9 * v.toInt.toNat by omega]
      rw [g1] at c_e37_
      obtain rfl := c_e37_
      have E1 := x10echo c_hs42_ ⟨hv.1, by omega, by omega⟩ (by rw [g0]; exact kb) cb c_h24_
      rw [g0] at E1
      obtain rfl := d_e33_
      have E2 := x12echo d_hs46_ hR.1.2.2.2.2.1 cb d_h16_ d_h40_ (by omega)
      rw [hu, x12reach d_hs41_ (by omega)] at E2
      have rb := reachI_b (D.1 (50, 0, 0) (180 + 9 * v.toInt.toNat)).toInt
      have E3 := fr_own hR.1.2.2.2.2.1 hD.2.1 hv rfl cb d_h16_ rb.2 E2
      have ee : c_r38_ = d_r42_ := i32e (EchoP_uniq E1 E3)
      exfalso
      have := eT ee
      omega
    · obtain rfl : d_j34_ = 181 + 9 * v.toInt.toNat := by omega
      obtain rfl : d_j79_ = 182 + 9 * v.toInt.toNat := by omega
      have qd_hs5_ := is2x d_hs5_
      have qd_hs11_ := x12clk d_hs11_
      have yd_e33_ := eT d_e33_
      have yd_e78_ := eT d_e78_
      have yrd_ := eT d_hr_
      have hv : 0 ≤ v.toInt ∧ v.toInt < nWa (D.1 (50, 0, 0)) := by unfold nWa; omega
      have PB : ∀ k, k < 3 → 180 ≤ 180 + k + 9 * v.toInt.toNat ∧ 180 + k + 9 * v.toInt.toNat < 252 := fun k hk => by omega
      have kb := ((hD.2.1.1 (180 + 9 * v.toInt.toNat)).2.2.2.2.2.2.2 (by omega) (by omega)).1 (by omega)
      have cb := ((hD.2.1.1 (181 + 9 * v.toInt.toNat)).2.2.2.2.2.2.2 (by omega) (by omega)).2.1 (by omega)
      have g0 : M.1 (9, 0, v.toInt.toNat) 0 = D.1 (50, 0, 0) (180 + 9 * v.toInt.toNat) := (hR.1.2.2.1.2 v.toInt.toNat (by omega)).1 0 (by omega)
      have g1 : M.1 (9, 0, v.toInt.toNat) 1 = D.1 (50, 0, 0) (181 + 9 * v.toInt.toNat) := by rw [(hR.1.2.2.1.2 v.toInt.toNat (by omega)).1 1 (by omega), show 180 + 9 * v.toInt.toNat + 1 = 181 + 9 * v.toInt.toNat by omega]
      rw [g1] at c_e37_
      obtain rfl := c_e37_
      have E1 := x10echo c_hs42_ ⟨hv.1, by omega, by omega⟩ (by rw [g0]; exact kb) cb c_h24_
      rw [g0] at E1
      obtain rfl := d_e33_
      have E2 := x12echo d_hs46_ hR.1.2.2.2.2.1 cb d_h16_ d_h40_ (by omega)
      rw [hu, x12reach d_hs41_ (by omega)] at E2
      have rb := reachI_b (D.1 (50, 0, 0) (180 + 9 * v.toInt.toNat)).toInt
      have E3 := fr_own hR.1.2.2.2.2.1 hD.2.1 hv rfl cb d_h16_ rb.2 E2
      have ee : c_r38_ = d_r42_ := i32e (EchoP_uniq E1 E3)
      exfalso
      have := eT ee
      omega
    · obtain rfl : d_j34_ = 181 + 9 * v.toInt.toNat := by omega
      obtain rfl : d_j79_ = 182 + 9 * v.toInt.toNat := by omega
      have qd_hs5_ := is2x d_hs5_
      have qd_hs11_ := x12clk d_hs11_
      have yd_e33_ := eT d_e33_
      have yd_e78_ := eT d_e78_
      have yrd_ := eT d_hr_
      have hv : 0 ≤ v.toInt ∧ v.toInt < nWa (D.1 (50, 0, 0)) := by unfold nWa; omega
      have PB : ∀ k, k < 3 → 180 ≤ 180 + k + 9 * v.toInt.toNat ∧ 180 + k + 9 * v.toInt.toNat < 252 := fun k hk => by omega
      have kb := ((hD.2.1.1 (180 + 9 * v.toInt.toNat)).2.2.2.2.2.2.2 (by omega) (by omega)).1 (by omega)
      have cb := ((hD.2.1.1 (181 + 9 * v.toInt.toNat)).2.2.2.2.2.2.2 (by omega) (by omega)).2.1 (by omega)
      have g0 : M.1 (9, 0, v.toInt.toNat) 0 = D.1 (50, 0, 0) (180 + 9 * v.toInt.toNat) := (hR.1.2.2.1.2 v.toInt.toNat (by omega)).1 0 (by omega)
      have g1 : M.1 (9, 0, v.toInt.toNat) 1 = D.1 (50, 0, 0) (181 + 9 * v.toInt.toNat) := by rw [(hR.1.2.2.1.2 v.toInt.toNat (by omega)).1 1 (by omega), show 180 + 9 * v.toInt.toNat + 1 = 181 + 9 * v.toInt.toNat by omega]
      rw [g1] at c_e37_
      obtain rfl := c_e37_
      have E1 := x10echo c_hs42_ ⟨hv.1, by omega, by omega⟩ (by rw [g0]; exact kb) cb c_h24_
      rw [g0] at E1
      obtain rfl := d_e33_
      have E2 := x12echo d_hs46_ hR.1.2.2.2.2.1 cb d_h16_ d_h40_ (by omega)
      rw [hu, x12reach d_hs41_ (by omega)] at E2
      have rb := reachI_b (D.1 (50, 0, 0) (180 + 9 * v.toInt.toNat)).toInt
      have E3 := fr_own hR.1.2.2.2.2.1 hD.2.1 hv rfl cb d_h16_ rb.2 E2
      have ee : c_r38_ = d_r42_ := i32e (EchoP_uniq E1 E3)
      exfalso
      have := eT ee
      omega
    · obtain rfl : d_j34_ = 181 + 9 * v.toInt.toNat := by omega
      obtain rfl : d_j79_ = 182 + 9 * v.toInt.toNat := by omega
      have qd_hs5_ := is2x d_hs5_
      have qd_hs11_ := x12clk d_hs11_
      have yd_e33_ := eT d_e33_
      have yd_e78_ := eT d_e78_
      have yrd_ := eT d_hr_
      have hv : 0 ≤ v.toInt ∧ v.toInt < nWa (D.1 (50, 0, 0)) := by unfold nWa; omega
      have PB : ∀ k, k < 3 → 180 ≤ 180 + k + 9 * v.toInt.toNat ∧ 180 + k + 9 * v.toInt.toNat < 252 := fun k hk => by omega
      have kb := ((hD.2.1.1 (180 + 9 * v.toInt.toNat)).2.2.2.2.2.2.2 (by omega) (by omega)).1 (by omega)
      have cb := ((hD.2.1.1 (181 + 9 * v.toInt.toNat)).2.2.2.2.2.2.2 (by omega) (by omega)).2.1 (by omega)
      have g0 : M.1 (9, 0, v.toInt.toNat) 0 = D.1 (50, 0, 0) (180 + 9 * v.toInt.toNat) := (hR.1.2.2.1.2 v.toInt.toNat (by omega)).1 0 (by omega)
      have g1 : M.1 (9, 0, v.toInt.toNat) 1 = D.1 (50, 0, 0) (181 + 9 * v.toInt.toNat) := by rw [(hR.1.2.2.1.2 v.toInt.toNat (by omega)).1 1 (by omega), show 180 + 9 * v.toInt.toNat + 1 = 181 + 9 * v.toInt.toNat by omega]
      rw [g1] at c_e37_
      obtain rfl := c_e37_
      have E1 := x10echo c_hs42_ ⟨hv.1, by omega, by omega⟩ (by rw [g0]; exact kb) cb c_h24_
      rw [g0] at E1
      obtain rfl := d_e33_
      have E2 := x12echo d_hs46_ hR.1.2.2.2.2.1 cb d_h16_ d_h40_ (by omega)
      rw [hu, x12reach d_hs41_ (by omega)] at E2
      have rb := reachI_b (D.1 (50, 0, 0) (180 + 9 * v.toInt.toNat)).toInt
      have E3 := fr_own hR.1.2.2.2.2.1 hD.2.1 hv rfl cb d_h16_ rb.2 E2
      have ee : c_r38_ = d_r42_ := i32e (EchoP_uniq E1 E3)
      exfalso
      have := eT ee
      omega
    · obtain rfl : d_j34_ = 181 + 9 * v.toInt.toNat := by omega
      obtain rfl : d_j79_ = 182 + 9 * v.toInt.toNat := by omega
      have qd_hs5_ := is2x d_hs5_
      have qd_hs11_ := x12clk d_hs11_
      have yd_e33_ := eT d_e33_
      have yd_e78_ := eT d_e78_
      have yrd_ := eT d_hr_
      have hv : 0 ≤ v.toInt ∧ v.toInt < nWa (D.1 (50, 0, 0)) := by unfold nWa; omega
      have PB : ∀ k, k < 3 → 180 ≤ 180 + k + 9 * v.toInt.toNat ∧ 180 + k + 9 * v.toInt.toNat < 252 := fun k hk => by omega
      have kb := ((hD.2.1.1 (180 + 9 * v.toInt.toNat)).2.2.2.2.2.2.2 (by omega) (by omega)).1 (by omega)
      have cb := ((hD.2.1.1 (181 + 9 * v.toInt.toNat)).2.2.2.2.2.2.2 (by omega) (by omega)).2.1 (by omega)
      have g0 : M.1 (9, 0, v.toInt.toNat) 0 = D.1 (50, 0, 0) (180 + 9 * v.toInt.toNat) := (hR.1.2.2.1.2 v.toInt.toNat (by omega)).1 0 (by omega)
      have g1 : M.1 (9, 0, v.toInt.toNat) 1 = D.1 (50, 0, 0) (181 + 9 * v.toInt.toNat) := by rw [(hR.1.2.2.1.2 v.toInt.toNat (by omega)).1 1 (by omega), show 180 + 9 * v.toInt.toNat + 1 = 181 + 9 * v.toInt.toNat by omega]
      rw [g1] at c_e37_
      obtain rfl := c_e37_
      have E1 := x10echo c_hs42_ ⟨hv.1, by omega, by omega⟩ (by rw [g0]; exact kb) cb c_h24_
      rw [g0] at E1
      obtain rfl := d_e33_
      have E2 := x12echo d_hs46_ hR.1.2.2.2.2.1 cb d_h16_ d_h40_ (by omega)
      rw [hu, x12reach d_hs41_ (by omega)] at E2
      have rb := reachI_b (D.1 (50, 0, 0) (180 + 9 * v.toInt.toNat)).toInt
      have E3 := fr_own hR.1.2.2.2.2.1 hD.2.1 hv rfl cb d_h16_ rb.2 E2
      have ee : c_r38_ = d_r42_ := i32e (EchoP_uniq E1 E3)
      exfalso
      have := eT ee
      omega
    · obtain rfl : d_j34_ = 181 + 9 * v.toInt.toNat := by omega
      obtain rfl : d_j79_ = 182 + 9 * v.toInt.toNat := by omega
      have qd_hs5_ := is2x d_hs5_
      have qd_hs11_ := x12clk d_hs11_
      have yd_e33_ := eT d_e33_
      have yd_e78_ := eT d_e78_
      have yrd_ := eT d_hr_
      have hv : 0 ≤ v.toInt ∧ v.toInt < nWa (D.1 (50, 0, 0)) := by unfold nWa; omega
      have PB : ∀ k, k < 3 → 180 ≤ 180 + k + 9 * v.toInt.toNat ∧ 180 + k + 9 * v.toInt.toNat < 252 := fun k hk => by omega
      have kb := ((hD.2.1.1 (180 + 9 * v.toInt.toNat)).2.2.2.2.2.2.2 (by omega) (by omega)).1 (by omega)
      have cb := ((hD.2.1.1 (181 + 9 * v.toInt.toNat)).2.2.2.2.2.2.2 (by omega) (by omega)).2.1 (by omega)
      have g0 : M.1 (9, 0, v.toInt.toNat) 0 = D.1 (50, 0, 0) (180 + 9 * v.toInt.toNat) := (hR.1.2.2.1.2 v.toInt.toNat (by omega)).1 0 (by omega)
      have g1 : M.1 (9, 0, v.toInt.toNat) 1 = D.1 (50, 0, 0) (181 + 9 * v.toInt.toNat) := by rw [(hR.1.2.2.1.2 v.toInt.toNat (by omega)).1 1 (by omega), show 180 + 9 * v.toInt.toNat + 1 = 181 + 9 * v.toInt.toNat by omega]
      rw [g1] at c_e37_
      obtain rfl := c_e37_
      have E1 := x10echo c_hs42_ ⟨hv.1, by omega, by omega⟩ (by rw [g0]; exact kb) cb c_h24_
      rw [g0] at E1
      obtain rfl := d_e33_
      have E2 := x12echo d_hs46_ hR.1.2.2.2.2.1 cb d_h16_ d_h40_ (by omega)
      rw [hu, x12reach d_hs41_ (by omega)] at E2
      have rb := reachI_b (D.1 (50, 0, 0) (180 + 9 * v.toInt.toNat)).toInt
      have E3 := fr_own hR.1.2.2.2.2.1 hD.2.1 hv rfl cb d_h16_ rb.2 E2
      have ee : c_r38_ = d_r42_ := i32e (EchoP_uniq E1 E3)
      exfalso
      have := eT ee
      omega
    · obtain rfl : d_j34_ = 181 + 9 * v.toInt.toNat := by omega
      obtain rfl : d_j79_ = 182 + 9 * v.toInt.toNat := by omega
      have qd_hs5_ := is2x d_hs5_
      have qd_hs11_ := x12clk d_hs11_
      have yd_e33_ := eT d_e33_
      have yd_e78_ := eT d_e78_
      have yrd_ := eT d_hr_
      have hv : 0 ≤ v.toInt ∧ v.toInt < nWa (D.1 (50, 0, 0)) := by unfold nWa; omega
      have PB : ∀ k, k < 3 → 180 ≤ 180 + k + 9 * v.toInt.toNat ∧ 180 + k + 9 * v.toInt.toNat < 252 := fun k hk => by omega
      have kb := ((hD.2.1.1 (180 + 9 * v.toInt.toNat)).2.2.2.2.2.2.2 (by omega) (by omega)).1 (by omega)
      have cb := ((hD.2.1.1 (181 + 9 * v.toInt.toNat)).2.2.2.2.2.2.2 (by omega) (by omega)).2.1 (by omega)
      have g0 : M.1 (9, 0, v.toInt.toNat) 0 = D.1 (50, 0, 0) (180 + 9 * v.toInt.toNat) := (hR.1.2.2.1.2 v.toInt.toNat (by omega)).1 0 (by omega)
      have g1 : M.1 (9, 0, v.toInt.toNat) 1 = D.1 (50, 0, 0) (181 + 9 * v.toInt.toNat) := by rw [(hR.1.2.2.1.2 v.toInt.toNat (by omega)).1 1 (by omega), show 180 + 9 * v.toInt.toNat + 1 = 181 + 9 * v.toInt.toNat by omega]
      rw [g1] at c_e37_
      obtain rfl := c_e37_
      have E1 := x10echo c_hs42_ ⟨hv.1, by omega, by omega⟩ (by rw [g0]; exact kb) cb c_h24_
      rw [g0] at E1
      obtain rfl := d_e33_
      have E2 := x12echo d_hs46_ hR.1.2.2.2.2.1 cb d_h16_ d_h40_ (by omega)
      rw [hu, x12reach d_hs41_ (by omega)] at E2
      have rb := reachI_b (D.1 (50, 0, 0) (180 + 9 * v.toInt.toNat)).toInt
      have E3 := fr_own hR.1.2.2.2.2.1 hD.2.1 hv rfl cb d_h16_ rb.2 E2
      have ee : c_r38_ = d_r42_ := i32e (EchoP_uniq E1 E3)
      exfalso
      have := eT ee
      omega
    · obtain rfl : d_j34_ = 181 + 9 * v.toInt.toNat := by omega
      have qd_hs5_ := is2x d_hs5_
      have qd_hs11_ := x12clk d_hs11_
      have yd_e33_ := eT d_e33_
      have yrd_ := eT d_hr_
      exact i32e (by omega)
    · have qd_hs5_ := is2x d_hs5_
      have qd_hs11_ := x12clk d_hs11_
      have yrd_ := eT d_hr_
      exfalso; omega
    · have qd_hs5_ := is2x d_hs5_
      have qd_hs11_ := x12clk d_hs11_
      have yrd_ := eT d_hr_
      exfalso; omega
    · have qd_hs5_ := is2x d_hs5_
      have qd_hs11_ := x12clk d_hs11_
      have yrd_ := eT d_hr_
      exfalso; omega
    · have qd_hs5_ := is2x d_hs5_
      have yrd_ := eT d_hr_
      exfalso; omega
  · have qc_hs5_ := x10has c_hs5_
    have qc_hs11_ := x2clk c_hs11_
    have qc_hs68_ := err1 c_hs68_
    have yrc_ := eT c_hr_
    unfold SP_X12_echo at h2
    rcases h2 with (⟨d_hs5_, d_h4_, (⟨d_hs11_, d_h10_, (⟨d_hs17_, d_h16_, (⟨d_hs23_, d_h22_, d_r25_, d_hs29_, d_h28_, d_z30_, d_h31_, d_j34_, d_h35_, d_z32_, d_e33_, d_h36_, d_r37_, d_hs41_, d_h40_, d_r42_, d_hs46_, d_h45_, (⟨d_h47_, d_r48_, d_hs52_, d_h51_, d_r53_, d_hs57_, d_h56_, d_z58_, d_h59_, d_z60_, d_h61_, d_M63_, d_hI66_, d_hF67_, d_r62_, d_hs69_, d_r70_, d_hs74_, d_h73_, d_z75_, d_h76_, d_j79_, d_h80_, d_z77_, d_e78_, d_h81_, (⟨d_e82_, d_hr_, d_hM_⟩ | ⟨d_e82_, d_r83_, d_hs87_, d_hr_, d_hM_⟩ | ⟨d_e82_, d_hr_, d_hM_⟩ | ⟨d_e82_, d_r88_, d_hs92_, d_hr_, d_hM_⟩ | ⟨d_e82_, d_r93_, d_hs97_, d_hr_, d_hM_⟩ | ⟨d_e82_, d_r98_, d_hs102_, d_h101_, d_z103_, d_h104_, d_z105_, d_h106_, d_M108_, -, d_hF112_, d_r107_, d_hs114_, d_h110_, (⟨d_h115_, d_hr_, d_hM_⟩ | ⟨d_h115_, d_hr_, d_hM_⟩)⟩)⟩ | ⟨d_h47_, d_M117_, -, d_hF121_, d_r116_, d_hs123_, d_h119_, d_hr_, d_hM_⟩)⟩ | ⟨d_hs23_, d_h22_, d_M126_, -, d_hF130_, d_r125_, d_hs132_, d_h128_, d_hr_, d_hM_⟩)⟩ | ⟨d_hs17_, d_h16_, d_M135_, -, d_hF139_, d_r134_, d_hs141_, d_h137_, d_hr_, d_hM_⟩)⟩ | ⟨d_hs11_, d_M144_, -, d_hF148_, d_r143_, d_hs150_, d_h146_, d_hr_, d_hM_⟩)⟩ | ⟨d_hs5_, d_M153_, -, d_hF157_, d_r152_, d_hs159_, d_h155_, d_hr_, d_hM_⟩)
    · obtain rfl : d_j34_ = 181 + 9 * v.toInt.toNat := by omega
      obtain rfl : d_j79_ = 182 + 9 * v.toInt.toNat := by omega
      have qd_hs5_ := is2x d_hs5_
      have qd_hs11_ := x12clk d_hs11_
      have yd_e33_ := eT d_e33_
      have yd_e78_ := eT d_e78_
      have yrd_ := eT d_hr_
      exfalso; omega
    · obtain rfl : d_j34_ = 181 + 9 * v.toInt.toNat := by omega
      obtain rfl : d_j79_ = 182 + 9 * v.toInt.toNat := by omega
      have qd_hs5_ := is2x d_hs5_
      have qd_hs11_ := x12clk d_hs11_
      have yd_e33_ := eT d_e33_
      have yd_e78_ := eT d_e78_
      have yrd_ := eT d_hr_
      exfalso; omega
    · obtain rfl : d_j34_ = 181 + 9 * v.toInt.toNat := by omega
      obtain rfl : d_j79_ = 182 + 9 * v.toInt.toNat := by omega
      have qd_hs5_ := is2x d_hs5_
      have qd_hs11_ := x12clk d_hs11_
      have yd_e33_ := eT d_e33_
      have yd_e78_ := eT d_e78_
      have yrd_ := eT d_hr_
      exfalso; omega
    · obtain rfl : d_j34_ = 181 + 9 * v.toInt.toNat := by omega
      obtain rfl : d_j79_ = 182 + 9 * v.toInt.toNat := by omega
      have qd_hs5_ := is2x d_hs5_
      have qd_hs11_ := x12clk d_hs11_
      have yd_e33_ := eT d_e33_
      have yd_e78_ := eT d_e78_
      have yrd_ := eT d_hr_
      exfalso; omega
    · obtain rfl : d_j34_ = 181 + 9 * v.toInt.toNat := by omega
      obtain rfl : d_j79_ = 182 + 9 * v.toInt.toNat := by omega
      have qd_hs5_ := is2x d_hs5_
      have qd_hs11_ := x12clk d_hs11_
      have yd_e33_ := eT d_e33_
      have yd_e78_ := eT d_e78_
      have yrd_ := eT d_hr_
      exfalso; omega
    · obtain rfl : d_j34_ = 181 + 9 * v.toInt.toNat := by omega
      obtain rfl : d_j79_ = 182 + 9 * v.toInt.toNat := by omega
      have qd_hs5_ := is2x d_hs5_
      have qd_hs11_ := x12clk d_hs11_
      have yd_e33_ := eT d_e33_
      have yd_e78_ := eT d_e78_
      have yrd_ := eT d_hr_
      exfalso; omega
    · obtain rfl : d_j34_ = 181 + 9 * v.toInt.toNat := by omega
      obtain rfl : d_j79_ = 182 + 9 * v.toInt.toNat := by omega
      have qd_hs5_ := is2x d_hs5_
      have qd_hs11_ := x12clk d_hs11_
      have yd_e33_ := eT d_e33_
      have yd_e78_ := eT d_e78_
      have yrd_ := eT d_hr_
      exfalso; omega
    · obtain rfl : d_j34_ = 181 + 9 * v.toInt.toNat := by omega
      have qd_hs5_ := is2x d_hs5_
      have qd_hs11_ := x12clk d_hs11_
      have yd_e33_ := eT d_e33_
      have yrd_ := eT d_hr_
      exfalso; omega
    · have qd_hs5_ := is2x d_hs5_
      have qd_hs11_ := x12clk d_hs11_
      have yrd_ := eT d_hr_
      exact i32e (by omega)
    · have qd_hs5_ := is2x d_hs5_
      have qd_hs11_ := x12clk d_hs11_
      have yrd_ := eT d_hr_
      exact i32e (by omega)
    · have qd_hs5_ := is2x d_hs5_
      have qd_hs11_ := x12clk d_hs11_
      have yrd_ := eT d_hr_
      exact i32e (by omega)
    · have qd_hs5_ := is2x d_hs5_
      have yrd_ := eT d_hr_
      exact i32e (by omega)
  · have qc_hs5_ := x10has c_hs5_
    have qc_hs11_ := x2clk c_hs11_
    have qc_hs77_ := err1 c_hs77_
    have yrc_ := eT c_hr_
    unfold SP_X12_echo at h2
    rcases h2 with (⟨d_hs5_, d_h4_, (⟨d_hs11_, d_h10_, (⟨d_hs17_, d_h16_, (⟨d_hs23_, d_h22_, d_r25_, d_hs29_, d_h28_, d_z30_, d_h31_, d_j34_, d_h35_, d_z32_, d_e33_, d_h36_, d_r37_, d_hs41_, d_h40_, d_r42_, d_hs46_, d_h45_, (⟨d_h47_, d_r48_, d_hs52_, d_h51_, d_r53_, d_hs57_, d_h56_, d_z58_, d_h59_, d_z60_, d_h61_, d_M63_, d_hI66_, d_hF67_, d_r62_, d_hs69_, d_r70_, d_hs74_, d_h73_, d_z75_, d_h76_, d_j79_, d_h80_, d_z77_, d_e78_, d_h81_, (⟨d_e82_, d_hr_, d_hM_⟩ | ⟨d_e82_, d_r83_, d_hs87_, d_hr_, d_hM_⟩ | ⟨d_e82_, d_hr_, d_hM_⟩ | ⟨d_e82_, d_r88_, d_hs92_, d_hr_, d_hM_⟩ | ⟨d_e82_, d_r93_, d_hs97_, d_hr_, d_hM_⟩ | ⟨d_e82_, d_r98_, d_hs102_, d_h101_, d_z103_, d_h104_, d_z105_, d_h106_, d_M108_, -, d_hF112_, d_r107_, d_hs114_, d_h110_, (⟨d_h115_, d_hr_, d_hM_⟩ | ⟨d_h115_, d_hr_, d_hM_⟩)⟩)⟩ | ⟨d_h47_, d_M117_, -, d_hF121_, d_r116_, d_hs123_, d_h119_, d_hr_, d_hM_⟩)⟩ | ⟨d_hs23_, d_h22_, d_M126_, -, d_hF130_, d_r125_, d_hs132_, d_h128_, d_hr_, d_hM_⟩)⟩ | ⟨d_hs17_, d_h16_, d_M135_, -, d_hF139_, d_r134_, d_hs141_, d_h137_, d_hr_, d_hM_⟩)⟩ | ⟨d_hs11_, d_M144_, -, d_hF148_, d_r143_, d_hs150_, d_h146_, d_hr_, d_hM_⟩)⟩ | ⟨d_hs5_, d_M153_, -, d_hF157_, d_r152_, d_hs159_, d_h155_, d_hr_, d_hM_⟩)
    · obtain rfl : d_j34_ = 181 + 9 * v.toInt.toNat := by omega
      obtain rfl : d_j79_ = 182 + 9 * v.toInt.toNat := by omega
      have qd_hs5_ := is2x d_hs5_
      have qd_hs11_ := x12clk d_hs11_
      have yd_e33_ := eT d_e33_
      have yd_e78_ := eT d_e78_
      have yrd_ := eT d_hr_
      exfalso; omega
    · obtain rfl : d_j34_ = 181 + 9 * v.toInt.toNat := by omega
      obtain rfl : d_j79_ = 182 + 9 * v.toInt.toNat := by omega
      have qd_hs5_ := is2x d_hs5_
      have qd_hs11_ := x12clk d_hs11_
      have yd_e33_ := eT d_e33_
      have yd_e78_ := eT d_e78_
      have yrd_ := eT d_hr_
      exfalso; omega
    · obtain rfl : d_j34_ = 181 + 9 * v.toInt.toNat := by omega
      obtain rfl : d_j79_ = 182 + 9 * v.toInt.toNat := by omega
      have qd_hs5_ := is2x d_hs5_
      have qd_hs11_ := x12clk d_hs11_
      have yd_e33_ := eT d_e33_
      have yd_e78_ := eT d_e78_
      have yrd_ := eT d_hr_
      exfalso; omega
    · obtain rfl : d_j34_ = 181 + 9 * v.toInt.toNat := by omega
      obtain rfl : d_j79_ = 182 + 9 * v.toInt.toNat := by omega
      have qd_hs5_ := is2x d_hs5_
      have qd_hs11_ := x12clk d_hs11_
      have yd_e33_ := eT d_e33_
      have yd_e78_ := eT d_e78_
      have yrd_ := eT d_hr_
      exfalso; omega
    · obtain rfl : d_j34_ = 181 + 9 * v.toInt.toNat := by omega
      obtain rfl : d_j79_ = 182 + 9 * v.toInt.toNat := by omega
      have qd_hs5_ := is2x d_hs5_
      have qd_hs11_ := x12clk d_hs11_
      have yd_e33_ := eT d_e33_
      have yd_e78_ := eT d_e78_
      have yrd_ := eT d_hr_
      exfalso; omega
    · obtain rfl : d_j34_ = 181 + 9 * v.toInt.toNat := by omega
      obtain rfl : d_j79_ = 182 + 9 * v.toInt.toNat := by omega
      have qd_hs5_ := is2x d_hs5_
      have qd_hs11_ := x12clk d_hs11_
      have yd_e33_ := eT d_e33_
      have yd_e78_ := eT d_e78_
      have yrd_ := eT d_hr_
      exfalso; omega
    · obtain rfl : d_j34_ = 181 + 9 * v.toInt.toNat := by omega
      obtain rfl : d_j79_ = 182 + 9 * v.toInt.toNat := by omega
      have qd_hs5_ := is2x d_hs5_
      have qd_hs11_ := x12clk d_hs11_
      have yd_e33_ := eT d_e33_
      have yd_e78_ := eT d_e78_
      have yrd_ := eT d_hr_
      exfalso; omega
    · obtain rfl : d_j34_ = 181 + 9 * v.toInt.toNat := by omega
      have qd_hs5_ := is2x d_hs5_
      have qd_hs11_ := x12clk d_hs11_
      have yd_e33_ := eT d_e33_
      have yrd_ := eT d_hr_
      exfalso; omega
    · have qd_hs5_ := is2x d_hs5_
      have qd_hs11_ := x12clk d_hs11_
      have yrd_ := eT d_hr_
      exact i32e (by omega)
    · have qd_hs5_ := is2x d_hs5_
      have qd_hs11_ := x12clk d_hs11_
      have yrd_ := eT d_hr_
      exact i32e (by omega)
    · have qd_hs5_ := is2x d_hs5_
      have qd_hs11_ := x12clk d_hs11_
      have yrd_ := eT d_hr_
      exact i32e (by omega)
    · have qd_hs5_ := is2x d_hs5_
      have yrd_ := eT d_hr_
      exact i32e (by omega)
  · have qc_hs5_ := x10has c_hs5_
    have qc_hs86_ := err1 c_hs86_
    have yrc_ := eT c_hr_
    unfold SP_X12_echo at h2
    rcases h2 with (⟨d_hs5_, d_h4_, (⟨d_hs11_, d_h10_, (⟨d_hs17_, d_h16_, (⟨d_hs23_, d_h22_, d_r25_, d_hs29_, d_h28_, d_z30_, d_h31_, d_j34_, d_h35_, d_z32_, d_e33_, d_h36_, d_r37_, d_hs41_, d_h40_, d_r42_, d_hs46_, d_h45_, (⟨d_h47_, d_r48_, d_hs52_, d_h51_, d_r53_, d_hs57_, d_h56_, d_z58_, d_h59_, d_z60_, d_h61_, d_M63_, d_hI66_, d_hF67_, d_r62_, d_hs69_, d_r70_, d_hs74_, d_h73_, d_z75_, d_h76_, d_j79_, d_h80_, d_z77_, d_e78_, d_h81_, (⟨d_e82_, d_hr_, d_hM_⟩ | ⟨d_e82_, d_r83_, d_hs87_, d_hr_, d_hM_⟩ | ⟨d_e82_, d_hr_, d_hM_⟩ | ⟨d_e82_, d_r88_, d_hs92_, d_hr_, d_hM_⟩ | ⟨d_e82_, d_r93_, d_hs97_, d_hr_, d_hM_⟩ | ⟨d_e82_, d_r98_, d_hs102_, d_h101_, d_z103_, d_h104_, d_z105_, d_h106_, d_M108_, -, d_hF112_, d_r107_, d_hs114_, d_h110_, (⟨d_h115_, d_hr_, d_hM_⟩ | ⟨d_h115_, d_hr_, d_hM_⟩)⟩)⟩ | ⟨d_h47_, d_M117_, -, d_hF121_, d_r116_, d_hs123_, d_h119_, d_hr_, d_hM_⟩)⟩ | ⟨d_hs23_, d_h22_, d_M126_, -, d_hF130_, d_r125_, d_hs132_, d_h128_, d_hr_, d_hM_⟩)⟩ | ⟨d_hs17_, d_h16_, d_M135_, -, d_hF139_, d_r134_, d_hs141_, d_h137_, d_hr_, d_hM_⟩)⟩ | ⟨d_hs11_, d_M144_, -, d_hF148_, d_r143_, d_hs150_, d_h146_, d_hr_, d_hM_⟩)⟩ | ⟨d_hs5_, d_M153_, -, d_hF157_, d_r152_, d_hs159_, d_h155_, d_hr_, d_hM_⟩)
    · obtain rfl : d_j34_ = 181 + 9 * v.toInt.toNat := by omega
      obtain rfl : d_j79_ = 182 + 9 * v.toInt.toNat := by omega
      have qd_hs5_ := is2x d_hs5_
      have qd_hs11_ := x12clk d_hs11_
      have yd_e33_ := eT d_e33_
      have yd_e78_ := eT d_e78_
      have yrd_ := eT d_hr_
      exfalso; omega
    · obtain rfl : d_j34_ = 181 + 9 * v.toInt.toNat := by omega
      obtain rfl : d_j79_ = 182 + 9 * v.toInt.toNat := by omega
      have qd_hs5_ := is2x d_hs5_
      have qd_hs11_ := x12clk d_hs11_
      have yd_e33_ := eT d_e33_
      have yd_e78_ := eT d_e78_
      have yrd_ := eT d_hr_
      exfalso; omega
    · obtain rfl : d_j34_ = 181 + 9 * v.toInt.toNat := by omega
      obtain rfl : d_j79_ = 182 + 9 * v.toInt.toNat := by omega
      have qd_hs5_ := is2x d_hs5_
      have qd_hs11_ := x12clk d_hs11_
      have yd_e33_ := eT d_e33_
      have yd_e78_ := eT d_e78_
      have yrd_ := eT d_hr_
      exfalso; omega
    · obtain rfl : d_j34_ = 181 + 9 * v.toInt.toNat := by omega
      obtain rfl : d_j79_ = 182 + 9 * v.toInt.toNat := by omega
      have qd_hs5_ := is2x d_hs5_
      have qd_hs11_ := x12clk d_hs11_
      have yd_e33_ := eT d_e33_
      have yd_e78_ := eT d_e78_
      have yrd_ := eT d_hr_
      exfalso; omega
    · obtain rfl : d_j34_ = 181 + 9 * v.toInt.toNat := by omega
      obtain rfl : d_j79_ = 182 + 9 * v.toInt.toNat := by omega
      have qd_hs5_ := is2x d_hs5_
      have qd_hs11_ := x12clk d_hs11_
      have yd_e33_ := eT d_e33_
      have yd_e78_ := eT d_e78_
      have yrd_ := eT d_hr_
      exfalso; omega
    · obtain rfl : d_j34_ = 181 + 9 * v.toInt.toNat := by omega
      obtain rfl : d_j79_ = 182 + 9 * v.toInt.toNat := by omega
      have qd_hs5_ := is2x d_hs5_
      have qd_hs11_ := x12clk d_hs11_
      have yd_e33_ := eT d_e33_
      have yd_e78_ := eT d_e78_
      have yrd_ := eT d_hr_
      exfalso; omega
    · obtain rfl : d_j34_ = 181 + 9 * v.toInt.toNat := by omega
      obtain rfl : d_j79_ = 182 + 9 * v.toInt.toNat := by omega
      have qd_hs5_ := is2x d_hs5_
      have qd_hs11_ := x12clk d_hs11_
      have yd_e33_ := eT d_e33_
      have yd_e78_ := eT d_e78_
      have yrd_ := eT d_hr_
      exfalso; omega
    · obtain rfl : d_j34_ = 181 + 9 * v.toInt.toNat := by omega
      have qd_hs5_ := is2x d_hs5_
      have qd_hs11_ := x12clk d_hs11_
      have yd_e33_ := eT d_e33_
      have yrd_ := eT d_hr_
      exfalso; omega
    · have qd_hs5_ := is2x d_hs5_
      have qd_hs11_ := x12clk d_hs11_
      have yrd_ := eT d_hr_
      exact i32e (by omega)
    · have qd_hs5_ := is2x d_hs5_
      have qd_hs11_ := x12clk d_hs11_
      have yrd_ := eT d_hr_
      exact i32e (by omega)
    · have qd_hs5_ := is2x d_hs5_
      have qd_hs11_ := x12clk d_hs11_
      have yrd_ := eT d_hr_
      exact i32e (by omega)
    · have qd_hs5_ := is2x d_hs5_
      have yrd_ := eT d_hr_
      exact i32e (by omega)
end
section
/-! the least click, the farthest yard -/
def LeP (P : Int → Prop) (B r : Int) : Prop := (1 ≤ r ∧ r ≤ B ∧ (∀ j : Int, 1 ≤ j → j < r → ¬ P j) ∧ P r) ∨ (r = 0 ∧ ∀ j : Int, 1 ≤ j → j ≤ B → ¬ P j)
theorem LeP_uniq {P : Int → Prop} {B y z : Int} (h : LeP P B y) (g : LeP P B z) : y = z := by
  rcases h with ⟨h1, h2, h3, h4⟩ | ⟨h1, h2⟩ <;> rcases g with ⟨g1, g2, g3, g4⟩ | ⟨g1, g2⟩
  · rcases Int.lt_trichotomy y z with e | e | e
    · exact absurd h4 (g3 y h1 e)
    · exact e
    · exact absurd g4 (h3 z g1 e)
  · exact absurd h4 (g2 y h1 h2)
  · exact absurd g4 (h2 z g1 g2)
  · rw [h1, g1]
def FaP (P : Int → Prop) (R r : Int) : Prop := (1 ≤ r ∧ r ≤ R ∧ (∀ j : Int, r < j → j ≤ R → ¬ P j) ∧ P r) ∨ (r = 0 ∧ ∀ j : Int, 1 ≤ j → j ≤ R → ¬ P j)
theorem FaP_uniq {P : Int → Prop} {B y z : Int} (h : FaP P B y) (g : FaP P B z) : y = z := by
  rcases h with ⟨h1, h2, h3, h4⟩ | ⟨h1, h2⟩ <;> rcases g with ⟨g1, g2, g3, g4⟩ | ⟨g1, g2⟩
  · rcases Int.lt_trichotomy y z with e | e | e
    · exact absurd g4 (h3 z e g2)
    · exact e
    · exact absurd h4 (g3 y e h2)
  · exact absurd h4 (g2 y h1 h2)
  · exact absurd g4 (h2 z g1 g2)
  · rw [h1, g1]
theorem ofT (x : Int32) : x = Int32.ofInt x.toInt := (Int32.ofInt_toInt x).symm
/-- heard, of a pitch and a loudness as numbers -/
def hePL (n : Nat → Int32) (ears k : Int) (y : Int32) (p l : Int) : Prop := heS n ears k.toNat (Int32.ofInt p) (Int32.ofInt l) 0 y
theorem hePL_of {n : Nat → Int32} {ears k : Int} {y p l : Int32} : heS n ears k.toNat p l 0 y ↔ hePL n ears k y p.toInt l.toInt := by
  unfold hePL
  rw [← ofT, ← ofT]
theorem x2hePL {b : Nat} {v u t s : Int32} {M M' : mM} {r : Int32} {n : Nat → Int32} {p l : Int} (h : SP_X2_hears b v u t s 0 M r M') (hR : WRR b M.1 n) (hN : NW5 n) (hu : 0 ≤ u.toInt ∧ u.toInt ≤ 4) (hs : 0 ≤ s.toInt ∧ s.toInt ≤ 16) (ht : t.toInt = 100 * p + l) (hp : 0 ≤ p ∧ p ≤ 9) (hl : 0 ≤ l ∧ l ≤ 99) : (r.toInt = 1 ∧ hePL n v.toInt u.toInt s p l) ∨ (r.toInt = 0 ∧ ¬ hePL n v.toInt u.toInt s p l) := by
  have q0 := il_0
  have i100 : (100 : Int32).toInt = 100 := by decide
  have H := x2hears h hR.1 hR.2.2.2.1 hN.2 hu hs (by omega)
  have a : (t / (100 : Int32)).toInt = p := by
    have := divI (x := t) (y := (100 : Int32)) rfl i100 (by omega) (by omega)
    omega
  have c : (t - t / (100 : Int32) * (100 : Int32)).toInt = l := by
    have := remI (x := t) (y := (100 : Int32)) rfl i100 (by omega) (by omega)
    omega
  rw [hePL_of, a, c] at H
  exact H
theorem x12hePL {q v u t p : Int32} {M M' : mM} {r : Int32} (h : SP_X12_isHeard q v u t 0 p M r M') (hD : InvD M) (hx : ∀ w, w < 3 → ∀ i : Nat, (i : Int) < (M.1 (50, 0, 0) (345 + 50 * w)).toInt → cOK (nnU w) (M.1 (50, 0, 0) (346 + 50 * w + i))) (hv : 0 ≤ v.toInt ∧ v.toInt ≤ 4) (hp : 0 ≤ p.toInt ∧ p.toInt ≤ 16) : (r.toInt = 1 ∧ hePL (M.1 (50, 0, 0)) q.toInt v.toInt p u.toInt t.toInt) ∨ (r.toInt = 0 ∧ ¬ hePL (M.1 (50, 0, 0)) q.toInt v.toInt p u.toInt t.toInt) := by
  have q0 := il_0
  have H := x12isHeard h hD hx hv (by omega) hp
  rw [hePL_of] at H
  exact H
theorem x2leP {b : Nat} {v u t : Int32} {M M' : mM} {r : Int32} {n : Nat → Int32} (h : SP_X2_leastPitch b v u t M r M') (hR : WRR b M.1 n) (hN : NW5 n) (hv : 0 ≤ v.toInt ∧ v.toInt ≤ 9) (hu : 0 ≤ u.toInt ∧ u.toInt ≤ 4) (ht : 0 ≤ t.toInt ∧ t.toInt ≤ 16) : LeP (fun j => hePL n v.toInt u.toInt t j 99) 9 r.toInt := by
  have q0 := il_0
  have q1 := il_1
  have wr : ∀ M2 : mM, FR (S_c_X2_leastPitch b) M M2 → WRR b M2.1 n := fun M2 hF => WRR_q hR hN (fun c k a d => hF c k (fun q => by simp only [S_c_X2_leastPitch, or_false] at q; omega))
  unfold SP_X2_leastPitch at h
  rcases h with ⟨v4_3, hv0_3, hv1_3, M_3, hL_3, -, hF_3, (⟨h2_, hr_, hM_⟩ | ⟨h2_, z3_, h4_, z5_, h6_, M8_, -, hF12_, r7_, hs14_, h10_, h15_, hr_, hM_⟩)⟩
  all_goals
    have g := rind hL_3 (fun x => 1 ≤ x.1.toInt ∧ ∀ j : Int, 1 ≤ j → j < x.1.toInt → ¬ (fun j => hePL n v.toInt u.toInt t j 99) j) ⟨by dsimp only; omega, fun j h1 h2 => by dsimp only at h2; omega⟩ (fun x z hp hst => by
      obtain ⟨x1, x2⟩ := x
      obtain ⟨z1, z2⟩ := z
      (try dsimp only at hp hst ⊢)
      unfold ST_X2_leastPitch_3 at hst
      obtain ⟨p_hv0_3, p_hv1_3, -, p_hF_3, p_h2_, p_z3_, p_h4_, p_z5_, p_h6_, p_M8_, -, p_hF12_, p_r7_, p_hs14_, p_h10_, p_h15_, p_z16_, p_h17_, p_hq_v4_3y, p_hM_⟩ := hst
      have ct : p_z5_.toInt = 100 * x1.toInt + 99 := by omega
      have H := x2hePL (p := x1.toInt) (l := 99) p_hs14_ (wr _ p_hF_3) hN hu ht ct (by omega) (by omega)
      rw [p_hq_v4_3y]
      refine ⟨by omega, fun j h1 h2 => ?_⟩
      by_cases e : j = x1.toInt
      · rw [e]
        rcases H with H | H
        · omega
        · exact H.2
      · exact hp.2 j h1 (by omega))
    (try dsimp only at g)
  · exact Or.inr ⟨by rw [hr_]; exact il_0, fun j h1 h2 => g.2 j h1 (by omega)⟩
  · have ct : z5_.toInt = 100 * v4_3.toInt + 99 := by omega
    have H := x2hePL (p := v4_3.toInt) (l := 99) hs14_ (wr _ hF_3) hN hu ht ct (by omega) (by omega)
    rw [hr_]
    rcases H with H | H
    · exact Or.inl ⟨g.1, by omega, g.2, H.2⟩
    · omega
theorem x2leL {b : Nat} {v u t : Int32} {M M' : mM} {r : Int32} {n : Nat → Int32} (h : SP_X2_leastLoudness b v u t M r M') (hR : WRR b M.1 n) (hN : NW5 n) (hv : 0 ≤ v.toInt ∧ v.toInt ≤ 9) (hu : 0 ≤ u.toInt ∧ u.toInt ≤ 4) (ht : 0 ≤ t.toInt ∧ t.toInt ≤ 16) : LeP (fun j => hePL n v.toInt u.toInt t (if v.toInt ≤ 9 then v.toInt else 9) j) 99 r.toInt := by
  have q0 := il_0
  have q1 := il_1
  have wr : ∀ M2 : mM, FR (S_c_X2_leastLoudness b) M M2 → WRR b M2.1 n := fun M2 hF => WRR_q hR hN (fun c k a d => hF c k (fun q => by simp only [S_c_X2_leastLoudness, or_false] at q; omega))
  unfold SP_X2_leastLoudness at h
  rcases h with ⟨v4_3, hv0_3, hv1_3, M_3, hL_3, -, hF_3, (⟨h2_, hr_, hM_⟩ | ⟨h2_, z3_, h4_, z5_, h6_, z7_, h8_, M10_, -, hF14_, r9_, hs16_, h12_, h17_, hr_, hM_⟩)⟩
  all_goals
    have g := rind hL_3 (fun x => 1 ≤ x.1.toInt ∧ ∀ j : Int, 1 ≤ j → j < x.1.toInt → ¬ (fun j => hePL n v.toInt u.toInt t (if v.toInt ≤ 9 then v.toInt else 9) j) j) ⟨by dsimp only; omega, fun j h1 h2 => by dsimp only at h2; omega⟩ (fun x z hp hst => by
      obtain ⟨x1, x2⟩ := x
      obtain ⟨z1, z2⟩ := z
      (try dsimp only at hp hst ⊢)
      unfold ST_X2_leastLoudness_3 at hst
      obtain ⟨p_hv0_3, p_hv1_3, -, p_hF_3, p_h2_, p_z3_, p_h4_, p_z5_, p_h6_, p_z7_, p_h8_, p_M10_, -, p_hF14_, p_r9_, p_hs16_, p_h12_, p_h17_, p_z18_, p_h19_, p_hq_v4_3y, p_hM_⟩ := hst
      have i100 : (100 : Int32).toInt = 100 := by decide
      have z3e : p_z3_.toInt = (if v.toInt ≤ 9 then v.toInt else 9) := by rw [if_pos hv.2]; omega
      have m5 : p_z5_.toInt = 100 * p_z3_.toInt := by rw [p_h6_]; exact mulI i100 rfl (by omega) (by omega)
      have m7 : p_z7_.toInt = p_z5_.toInt + x1.toInt := by rw [p_h8_]; exact addI rfl rfl (by omega) (by omega)
      have ct : p_z7_.toInt = 100 * (if v.toInt ≤ 9 then v.toInt else 9) + x1.toInt := by rw [← z3e]; omega
      have zb : 0 ≤ (if v.toInt ≤ 9 then v.toInt else 9) ∧ (if v.toInt ≤ 9 then v.toInt else 9) ≤ 9 := by rw [if_pos hv.2]; exact hv
      have H := x2hePL (p := (if v.toInt ≤ 9 then v.toInt else 9)) (l := x1.toInt) p_hs16_ (wr _ p_hF_3) hN hu ht ct zb (by omega)
      rw [p_hq_v4_3y]
      refine ⟨by omega, fun j h1 h2 => ?_⟩
      by_cases e : j = x1.toInt
      · rw [e]
        rcases H with H | H
        · omega
        · exact H.2
      · exact hp.2 j h1 (by omega))
    (try dsimp only at g)
  · exact Or.inr ⟨by rw [hr_]; exact il_0, fun j h1 h2 => g.2 j h1 (by omega)⟩
  · have i100 : (100 : Int32).toInt = 100 := by decide
    have z3e : z3_.toInt = (if v.toInt ≤ 9 then v.toInt else 9) := by rw [if_pos hv.2]; omega
    have m5 : z5_.toInt = 100 * z3_.toInt := by rw [h6_]; exact mulI i100 rfl (by omega) (by omega)
    have m7 : z7_.toInt = z5_.toInt + v4_3.toInt := by rw [h8_]; exact addI rfl rfl (by omega) (by omega)
    have ct : z7_.toInt = 100 * (if v.toInt ≤ 9 then v.toInt else 9) + v4_3.toInt := by rw [← z3e]; omega
    have zb : 0 ≤ (if v.toInt ≤ 9 then v.toInt else 9) ∧ (if v.toInt ≤ 9 then v.toInt else 9) ≤ 9 := by rw [if_pos hv.2]; exact hv
    have H := x2hePL (p := (if v.toInt ≤ 9 then v.toInt else 9)) (l := v4_3.toInt) hs16_ (wr _ hF_3) hN hu ht ct zb (by omega)
    rw [hr_]
    rcases H with H | H
    · exact Or.inl ⟨g.1, by omega, g.2, H.2⟩
    · omega
theorem x12leL {v u t s x : Int32} {D D2 : mM} (h : RCH (fun x_ y_ : Int32 × mM => ST_X12_least_57 v u t s D x_.1 x_.2 y_.1 y_.2) ((1 : Int32), D) (x, D2)) (hX : ∀ w, w < 3 → ∀ i : Nat, (i : Int) < (D.1 (50, 0, 0) (345 + 50 * w)).toInt → cOK (nnU w) (D.1 (50, 0, 0) (346 + 50 * w + i))) (hv : 0 ≤ v.toInt ∧ v.toInt ≤ 7) (hu : 0 ≤ u.toInt ∧ u.toInt ≤ 4) (ht : 0 ≤ t.toInt ∧ t.toInt ≤ 16) : 1 ≤ x.toInt ∧ (s.toInt = 0 → x.toInt ≤ 10) ∧ (¬ s.toInt = 0 → x.toInt ≤ 100) ∧ ∀ j : Int, 1 ≤ j → j < x.toInt → (s.toInt = 0 → ¬ hePL (D.1 (50, 0, 0)) (earsI (D.1 (50, 0, 0) (180 + 9 * v.toInt.toNat)).toInt) u.toInt t j 99) ∧ (¬ s.toInt = 0 → ¬ hePL (D.1 (50, 0, 0)) (earsI (D.1 (50, 0, 0) (180 + 9 * v.toInt.toNat)).toInt) u.toInt t (if earsI (D.1 (50, 0, 0) (180 + 9 * v.toInt.toNat)).toInt ≤ 9 then earsI (D.1 (50, 0, 0) (180 + 9 * v.toInt.toNat)).toInt else 9) j) := by
  have q0 := il_0
  have q1 := il_1
  have i99 : (99 : Int32).toInt = 99 := by decide
  refine rind h (fun x : Int32 × mM => 1 ≤ x.1.toInt ∧ (s.toInt = 0 → x.1.toInt ≤ 10) ∧ (¬ s.toInt = 0 → x.1.toInt ≤ 100) ∧ ∀ j : Int, 1 ≤ j → j < x.1.toInt → (s.toInt = 0 → ¬ hePL (D.1 (50, 0, 0)) (earsI (D.1 (50, 0, 0) (180 + 9 * v.toInt.toNat)).toInt) u.toInt t j 99) ∧ (¬ s.toInt = 0 → ¬ hePL (D.1 (50, 0, 0)) (earsI (D.1 (50, 0, 0) (180 + 9 * v.toInt.toNat)).toInt) u.toInt t (if earsI (D.1 (50, 0, 0) (180 + 9 * v.toInt.toNat)).toInt ≤ 9 then earsI (D.1 (50, 0, 0) (180 + 9 * v.toInt.toNat)).toInt else 9) j)) ⟨by dsimp only; omega, fun _ => by dsimp only; omega, fun _ => by dsimp only; omega, fun j h1 h2 => by dsimp only at h2; omega⟩ (fun x z hp hst => ?_)
  obtain ⟨x1, x2⟩ := x
  obtain ⟨z1, z2⟩ := z
  (try dsimp only at hp hst ⊢)
  unfold ST_X12_least_57 at hst
  rcases hst with ⟨p_hv0_57, p_hI_57, p_hF_57, (⟨p_h40_, p_h41_, p_r50_, p_hs54_, p_h53_, p_h55_, p_r56_, p_hs60_, p_h59_, p_z61_, p_h62_, p_h63_, p_M65_, -, p_hF69_, p_r64_, p_hs71_, p_h67_, p_h72_, p_z73_, p_h74_, p_hq_v5_57y, p_hM_⟩ | ⟨p_h40_, p_h75_, p_r84_, p_hs88_, p_h87_, p_h89_, p_h90_, p_M92_, -, p_hF96_, p_r91_, p_hs98_, p_h94_, p_h99_, p_z100_, p_h101_, p_hq_v5_57y, p_hM_⟩)⟩
  · have e50 : x2.1 (50, 0, 0) = D.1 (50, 0, 0) := funext fun k => p_hF_57 _ _ (by simp [S_c_X12_least])
    have E1 := x12ears p_hs54_ hv
    have E2 := x12ears p_hs60_ hv
    rw [e50] at E1 E2
    have H := x12hePL p_hs71_ p_hI_57 (by rw [e50]; exact hX) hu ht
    have z61 : p_z61_.toInt = (if earsI (D.1 (50, 0, 0) (180 + 9 * v.toInt.toNat)).toInt ≤ 9 then earsI (D.1 (50, 0, 0) (180 + 9 * v.toInt.toNat)).toInt else 9) := by split <;> omega
    rw [e50, E1, z61] at H
    rw [p_hq_v5_57y]
    refine ⟨by omega, fun q => absurd q p_h40_, fun _ => by omega, fun j h1 h2 => ⟨fun q => absurd q p_h40_, fun _ => ?_⟩⟩
    by_cases e : j = x1.toInt
    · rw [e]
      rcases H with H | H
      · omega
      · exact H.2
    · exact (hp.2.2.2 j h1 (by omega)).2 p_h40_
  · have e50 : x2.1 (50, 0, 0) = D.1 (50, 0, 0) := funext fun k => p_hF_57 _ _ (by simp [S_c_X12_least])
    have E1 := x12ears p_hs88_ hv
    rw [e50] at E1
    have H := x12hePL p_hs98_ p_hI_57 (by rw [e50]; exact hX) hu ht
    rw [e50, E1, i99] at H
    rw [p_hq_v5_57y]
    refine ⟨by omega, fun _ => by omega, fun q => absurd p_h40_ q, fun j h1 h2 => ⟨fun _ => ?_, fun q => absurd p_h40_ q⟩⟩
    by_cases e : j = x1.toInt
    · rw [e]
      rcases H with H | H
      · omega
      · exact H.2
    · exact (hp.2.2.2 j h1 (by omega)).1 p_h40_
theorem an_21 {v : Int32} {u : Int32} {t : Int32} {s : Int32} {M M1 D D2 : mM} {r1 r2 : Int32} (h1 : SP_X11_least v u t s M r1 M1) (h2 : SP_X12_least v u t s D r2 D2) (hR : RW 0 M.1 (D.1 (50, 0, 0))) (hD : InvD D) (hu : (D.1 (12, 0, 0) 7).toInt = -1) : r1 = r2 := by
  have q0 := il_0
  have q1 := il_1
  have i2 : (2 : Int32).toInt = 2 := by decide
  have bT := eT hR.1.2.1.1
  have bW := eT hR.1.2.2.1.1
  have nT := nTh_b hD.2.1
  have nW := nWa_b hD.2.1
  unfold nTh at nT
  unfold nWa at nW
  unfold SP_X11_least at h1
  rcases h1 with (⟨c_hs5_, c_h4_, (⟨c_hs11_, c_h10_, (⟨c_hs17_, c_h16_, (⟨c_hs23_, c_h22_, c_j25_, c_h26_, c_h27_, c_r28_, c_hs32_, c_h31_, (⟨c_h33_, (⟨c_h34_, c_r35_, c_hs39_, c_h38_, c_M41_, -, c_hF45_, c_r40_, c_hs47_, (⟨c_h48_, c_hr_, c_hM_⟩ | ⟨c_h48_, c_M50_, -, c_hF54_, c_r49_, c_hs56_, c_hr_, c_hM_⟩)⟩ | ⟨c_h34_, c_r57_, c_hs61_, c_h60_, c_M63_, -, c_hF67_, c_r62_, c_hs69_, (⟨c_h70_, c_hr_, c_hM_⟩ | ⟨c_h70_, c_M72_, -, c_hF76_, c_r71_, c_hs78_, c_hr_, c_hM_⟩)⟩)⟩ | ⟨c_h33_, c_M80_, -, c_hF84_, c_r79_, c_hs86_, c_hr_, c_hM_⟩)⟩ | ⟨c_hs23_, c_h22_, c_M89_, -, c_hF93_, c_r88_, c_hs95_, c_hr_, c_hM_⟩)⟩ | ⟨c_hs17_, c_h16_, c_M98_, -, c_hF102_, c_r97_, c_hs104_, c_hr_, c_hM_⟩)⟩ | ⟨c_hs11_, c_h10_, c_M107_, -, c_hF111_, c_r106_, c_hs113_, c_hr_, c_hM_⟩)⟩ | ⟨c_hs5_, c_M116_, -, c_hF120_, c_r115_, c_hs122_, c_hr_, c_hM_⟩)
  · obtain rfl : c_j25_ = v.toInt.toNat := by omega
    have qc_hs5_ := x10has c_hs5_
    have yrc_ := eT c_hr_
    unfold SP_X12_least at h2
    rcases h2 with (⟨d_hs5_, d_h4_, (⟨d_hs11_, d_h10_, (⟨d_hs17_, d_h16_, (⟨d_hs23_, d_h22_, d_r25_, d_hs29_, d_h28_, (⟨d_h30_, d_M32_, -, d_hF36_, d_r31_, d_hs38_, d_h34_, d_hr_, d_hM_⟩ | ⟨d_h30_, d_v5_57, d_hv0_57, d_M_57, d_hL_57, d_hI_57, d_hF_57, (⟨d_h40_, (⟨d_h41_, d_M43_, -, d_hF47_, d_r42_, d_hs49_, d_h45_, d_hr_, d_hM_⟩ | ⟨d_h41_, d_r50_, d_hs54_, d_h53_, d_h55_, d_r56_, d_hs60_, d_h59_, d_z61_, d_h62_, d_h63_, d_M65_, -, d_hF69_, d_r64_, d_hs71_, d_h67_, d_h72_, d_hr_, d_hM_⟩)⟩ | ⟨d_h40_, (⟨d_h75_, d_M77_, -, d_hF81_, d_r76_, d_hs83_, d_h79_, d_hr_, d_hM_⟩ | ⟨d_h75_, d_r84_, d_hs88_, d_h87_, d_h89_, d_h90_, d_M92_, -, d_hF96_, d_r91_, d_hs98_, d_h94_, d_h99_, d_hr_, d_hM_⟩)⟩)⟩)⟩ | ⟨d_hs23_, d_h22_, d_M104_, -, d_hF108_, d_r103_, d_hs110_, d_h106_, d_hr_, d_hM_⟩)⟩ | ⟨d_hs17_, d_h16_, d_M113_, -, d_hF117_, d_r112_, d_hs119_, d_h115_, d_hr_, d_hM_⟩)⟩ | ⟨d_hs11_, d_h10_, d_M122_, -, d_hF126_, d_r121_, d_hs128_, d_h124_, d_hr_, d_hM_⟩)⟩ | ⟨d_hs5_, d_M131_, -, d_hF135_, d_r130_, d_hs137_, d_h133_, d_hr_, d_hM_⟩)
    · have qd_hs5_ := is2x d_hs5_
      have yrd_ := eT d_hr_
      have hv : 0 ≤ v.toInt ∧ v.toInt < nWa (D.1 (50, 0, 0)) := by unfold nWa; omega
      have kb := ((hD.2.1.1 (180 + 9 * v.toInt.toNat)).2.2.2.2.2.2.2 (by omega) (by omega)).1 (by omega)
      have g0 : M.1 (9, 0, v.toInt.toNat) 0 = D.1 (50, 0, 0) (180 + 9 * v.toInt.toNat) := (hR.1.2.2.1.2 v.toInt.toNat (by omega)).1 0 (by omega)
      have rC := x9reach c_hs32_ (by rw [g0]; exact kb)
      rw [g0] at rC
      have rD := x12reach d_hs29_ (by omega)
      exfalso; omega
    · have qd_hs5_ := is2x d_hs5_
      have yrd_ := eT d_hr_
      have hv : 0 ≤ v.toInt ∧ v.toInt < nWa (D.1 (50, 0, 0)) := by unfold nWa; omega
      have kb := ((hD.2.1.1 (180 + 9 * v.toInt.toNat)).2.2.2.2.2.2.2 (by omega) (by omega)).1 (by omega)
      have g0 : M.1 (9, 0, v.toInt.toNat) 0 = D.1 (50, 0, 0) (180 + 9 * v.toInt.toNat) := (hR.1.2.2.1.2 v.toInt.toNat (by omega)).1 0 (by omega)
      have rC := x9reach c_hs32_ (by rw [g0]; exact kb)
      rw [g0] at rC
      have rD := x12reach d_hs29_ (by omega)
      have hX : ∀ w, w < 3 → ∀ i : Nat, (i : Int) < (D.1 (50, 0, 0) (345 + 50 * w)).toInt → cOK (nnU w) (D.1 (50, 0, 0) (346 + 50 * w + i)) := fun w hw i hi => ((hR.1.2.2.2.1 w hw).2 i hi).2
      have eC := x9ears c_hs39_ (by rw [g0]; exact kb)
      rw [g0] at eC
      have LC := x2leL c_hs47_ hR.1 hD.2.1 (by omega) (by omega) (by omega)
      rw [eC] at LC
      have LD := x12leL d_hL_57 hX (by omega) (by omega) (by omega)
      have TD : LeP (fun j => hePL (D.1 (50, 0, 0)) (earsI (D.1 (50, 0, 0) (180 + 9 * v.toInt.toNat)).toInt) u.toInt t (if earsI (D.1 (50, 0, 0) (180 + 9 * v.toInt.toNat)).toInt ≤ 9 then earsI (D.1 (50, 0, 0) (180 + 9 * v.toInt.toNat)).toInt else 9) j) 99 0 := Or.inr ⟨rfl, fun j h1 h2 => (LD.2.2.2 j h1 (by omega)).2 d_h40_⟩
      have ee := LeP_uniq LC TD
      exfalso; omega
    · have qd_hs5_ := is2x d_hs5_
      have yrd_ := eT d_hr_
      have hv : 0 ≤ v.toInt ∧ v.toInt < nWa (D.1 (50, 0, 0)) := by unfold nWa; omega
      have kb := ((hD.2.1.1 (180 + 9 * v.toInt.toNat)).2.2.2.2.2.2.2 (by omega) (by omega)).1 (by omega)
      have g0 : M.1 (9, 0, v.toInt.toNat) 0 = D.1 (50, 0, 0) (180 + 9 * v.toInt.toNat) := (hR.1.2.2.1.2 v.toInt.toNat (by omega)).1 0 (by omega)
      have rC := x9reach c_hs32_ (by rw [g0]; exact kb)
      rw [g0] at rC
      have rD := x12reach d_hs29_ (by omega)
      have hX : ∀ w, w < 3 → ∀ i : Nat, (i : Int) < (D.1 (50, 0, 0) (345 + 50 * w)).toInt → cOK (nnU w) (D.1 (50, 0, 0) (346 + 50 * w + i)) := fun w hw i hi => ((hR.1.2.2.2.1 w hw).2 i hi).2
      have eC := x9ears c_hs39_ (by rw [g0]; exact kb)
      rw [g0] at eC
      have LC := x2leL c_hs47_ hR.1 hD.2.1 (by omega) (by omega) (by omega)
      rw [eC] at LC
      have LD := x12leL d_hL_57 hX (by omega) (by omega) (by omega)
      have e50 : d_M_57.1 (50, 0, 0) = D.1 (50, 0, 0) := funext fun k => d_hF_57 _ _ (by simp [S_c_X12_least])
      have H := x12hePL d_hs71_ d_hI_57 (by rw [e50]; exact hX) (by omega) (by omega)
      have E0 := x12ears d_hs54_ (by omega)
      have E1 := x12ears d_hs60_ (by omega)
      rw [e50] at E0 E1
      have z61 : d_z61_.toInt = (if earsI (D.1 (50, 0, 0) (180 + 9 * v.toInt.toNat)).toInt ≤ 9 then earsI (D.1 (50, 0, 0) (180 + 9 * v.toInt.toNat)).toInt else 9) := by split <;> omega
      rw [e50, E0, z61] at H
      have TD : LeP (fun j => hePL (D.1 (50, 0, 0)) (earsI (D.1 (50, 0, 0) (180 + 9 * v.toInt.toNat)).toInt) u.toInt t (if earsI (D.1 (50, 0, 0) (180 + 9 * v.toInt.toNat)).toInt ≤ 9 then earsI (D.1 (50, 0, 0) (180 + 9 * v.toInt.toNat)).toInt else 9) j) 99 d_v5_57.toInt := Or.inl ⟨LD.1, by omega, fun j h1 h2 => (LD.2.2.2 j h1 h2).2 d_h40_, (H.resolve_right (fun q => by omega)).2⟩
      have ee := LeP_uniq LC TD
      rw [c_hr_, d_hr_]
      exact i32e ee
    · have qd_hs5_ := is2x d_hs5_
      have yrd_ := eT d_hr_
      have hv : 0 ≤ v.toInt ∧ v.toInt < nWa (D.1 (50, 0, 0)) := by unfold nWa; omega
      have kb := ((hD.2.1.1 (180 + 9 * v.toInt.toNat)).2.2.2.2.2.2.2 (by omega) (by omega)).1 (by omega)
      have g0 : M.1 (9, 0, v.toInt.toNat) 0 = D.1 (50, 0, 0) (180 + 9 * v.toInt.toNat) := (hR.1.2.2.1.2 v.toInt.toNat (by omega)).1 0 (by omega)
      have rC := x9reach c_hs32_ (by rw [g0]; exact kb)
      rw [g0] at rC
      have rD := x12reach d_hs29_ (by omega)
      exfalso; omega
    · have qd_hs5_ := is2x d_hs5_
      have yrd_ := eT d_hr_
      have hv : 0 ≤ v.toInt ∧ v.toInt < nWa (D.1 (50, 0, 0)) := by unfold nWa; omega
      have kb := ((hD.2.1.1 (180 + 9 * v.toInt.toNat)).2.2.2.2.2.2.2 (by omega) (by omega)).1 (by omega)
      have g0 : M.1 (9, 0, v.toInt.toNat) 0 = D.1 (50, 0, 0) (180 + 9 * v.toInt.toNat) := (hR.1.2.2.1.2 v.toInt.toNat (by omega)).1 0 (by omega)
      have rC := x9reach c_hs32_ (by rw [g0]; exact kb)
      rw [g0] at rC
      have rD := x12reach d_hs29_ (by omega)
      exfalso; omega
    · have qd_hs5_ := is2x d_hs5_
      have yrd_ := eT d_hr_
      exfalso; omega
    · have qd_hs5_ := is2x d_hs5_
      have yrd_ := eT d_hr_
      exfalso; omega
    · have qd_hs5_ := is2x d_hs5_
      have yrd_ := eT d_hr_
      exfalso; omega
    · have qd_hs5_ := is2x d_hs5_
      have yrd_ := eT d_hr_
      exfalso; omega
  · obtain rfl : c_j25_ = v.toInt.toNat := by omega
    have qc_hs5_ := x10has c_hs5_
    have qc_hs56_ := err2 c_hs56_
    have yrc_ := eT c_hr_
    unfold SP_X12_least at h2
    rcases h2 with (⟨d_hs5_, d_h4_, (⟨d_hs11_, d_h10_, (⟨d_hs17_, d_h16_, (⟨d_hs23_, d_h22_, d_r25_, d_hs29_, d_h28_, (⟨d_h30_, d_M32_, -, d_hF36_, d_r31_, d_hs38_, d_h34_, d_hr_, d_hM_⟩ | ⟨d_h30_, d_v5_57, d_hv0_57, d_M_57, d_hL_57, d_hI_57, d_hF_57, (⟨d_h40_, (⟨d_h41_, d_M43_, -, d_hF47_, d_r42_, d_hs49_, d_h45_, d_hr_, d_hM_⟩ | ⟨d_h41_, d_r50_, d_hs54_, d_h53_, d_h55_, d_r56_, d_hs60_, d_h59_, d_z61_, d_h62_, d_h63_, d_M65_, -, d_hF69_, d_r64_, d_hs71_, d_h67_, d_h72_, d_hr_, d_hM_⟩)⟩ | ⟨d_h40_, (⟨d_h75_, d_M77_, -, d_hF81_, d_r76_, d_hs83_, d_h79_, d_hr_, d_hM_⟩ | ⟨d_h75_, d_r84_, d_hs88_, d_h87_, d_h89_, d_h90_, d_M92_, -, d_hF96_, d_r91_, d_hs98_, d_h94_, d_h99_, d_hr_, d_hM_⟩)⟩)⟩)⟩ | ⟨d_hs23_, d_h22_, d_M104_, -, d_hF108_, d_r103_, d_hs110_, d_h106_, d_hr_, d_hM_⟩)⟩ | ⟨d_hs17_, d_h16_, d_M113_, -, d_hF117_, d_r112_, d_hs119_, d_h115_, d_hr_, d_hM_⟩)⟩ | ⟨d_hs11_, d_h10_, d_M122_, -, d_hF126_, d_r121_, d_hs128_, d_h124_, d_hr_, d_hM_⟩)⟩ | ⟨d_hs5_, d_M131_, -, d_hF135_, d_r130_, d_hs137_, d_h133_, d_hr_, d_hM_⟩)
    · have qd_hs5_ := is2x d_hs5_
      have yrd_ := eT d_hr_
      have hv : 0 ≤ v.toInt ∧ v.toInt < nWa (D.1 (50, 0, 0)) := by unfold nWa; omega
      have kb := ((hD.2.1.1 (180 + 9 * v.toInt.toNat)).2.2.2.2.2.2.2 (by omega) (by omega)).1 (by omega)
      have g0 : M.1 (9, 0, v.toInt.toNat) 0 = D.1 (50, 0, 0) (180 + 9 * v.toInt.toNat) := (hR.1.2.2.1.2 v.toInt.toNat (by omega)).1 0 (by omega)
      have rC := x9reach c_hs32_ (by rw [g0]; exact kb)
      rw [g0] at rC
      have rD := x12reach d_hs29_ (by omega)
      exfalso; omega
    · have qd_hs5_ := is2x d_hs5_
      have yrd_ := eT d_hr_
      have hv : 0 ≤ v.toInt ∧ v.toInt < nWa (D.1 (50, 0, 0)) := by unfold nWa; omega
      have kb := ((hD.2.1.1 (180 + 9 * v.toInt.toNat)).2.2.2.2.2.2.2 (by omega) (by omega)).1 (by omega)
      have g0 : M.1 (9, 0, v.toInt.toNat) 0 = D.1 (50, 0, 0) (180 + 9 * v.toInt.toNat) := (hR.1.2.2.1.2 v.toInt.toNat (by omega)).1 0 (by omega)
      have rC := x9reach c_hs32_ (by rw [g0]; exact kb)
      rw [g0] at rC
      have rD := x12reach d_hs29_ (by omega)
      have hX : ∀ w, w < 3 → ∀ i : Nat, (i : Int) < (D.1 (50, 0, 0) (345 + 50 * w)).toInt → cOK (nnU w) (D.1 (50, 0, 0) (346 + 50 * w + i)) := fun w hw i hi => ((hR.1.2.2.2.1 w hw).2 i hi).2
      have eC := x9ears c_hs39_ (by rw [g0]; exact kb)
      rw [g0] at eC
      have LC := x2leL c_hs47_ hR.1 hD.2.1 (by omega) (by omega) (by omega)
      rw [eC] at LC
      have LD := x12leL d_hL_57 hX (by omega) (by omega) (by omega)
      have TD : LeP (fun j => hePL (D.1 (50, 0, 0)) (earsI (D.1 (50, 0, 0) (180 + 9 * v.toInt.toNat)).toInt) u.toInt t (if earsI (D.1 (50, 0, 0) (180 + 9 * v.toInt.toNat)).toInt ≤ 9 then earsI (D.1 (50, 0, 0) (180 + 9 * v.toInt.toNat)).toInt else 9) j) 99 0 := Or.inr ⟨rfl, fun j h1 h2 => (LD.2.2.2 j h1 (by omega)).2 d_h40_⟩
      have ee := LeP_uniq LC TD
      exact i32e (by omega)
    · have qd_hs5_ := is2x d_hs5_
      have yrd_ := eT d_hr_
      have hv : 0 ≤ v.toInt ∧ v.toInt < nWa (D.1 (50, 0, 0)) := by unfold nWa; omega
      have kb := ((hD.2.1.1 (180 + 9 * v.toInt.toNat)).2.2.2.2.2.2.2 (by omega) (by omega)).1 (by omega)
      have g0 : M.1 (9, 0, v.toInt.toNat) 0 = D.1 (50, 0, 0) (180 + 9 * v.toInt.toNat) := (hR.1.2.2.1.2 v.toInt.toNat (by omega)).1 0 (by omega)
      have rC := x9reach c_hs32_ (by rw [g0]; exact kb)
      rw [g0] at rC
      have rD := x12reach d_hs29_ (by omega)
      have hX : ∀ w, w < 3 → ∀ i : Nat, (i : Int) < (D.1 (50, 0, 0) (345 + 50 * w)).toInt → cOK (nnU w) (D.1 (50, 0, 0) (346 + 50 * w + i)) := fun w hw i hi => ((hR.1.2.2.2.1 w hw).2 i hi).2
      have eC := x9ears c_hs39_ (by rw [g0]; exact kb)
      rw [g0] at eC
      have LC := x2leL c_hs47_ hR.1 hD.2.1 (by omega) (by omega) (by omega)
      rw [eC] at LC
      have LD := x12leL d_hL_57 hX (by omega) (by omega) (by omega)
      have e50 : d_M_57.1 (50, 0, 0) = D.1 (50, 0, 0) := funext fun k => d_hF_57 _ _ (by simp [S_c_X12_least])
      have H := x12hePL d_hs71_ d_hI_57 (by rw [e50]; exact hX) (by omega) (by omega)
      have E0 := x12ears d_hs54_ (by omega)
      have E1 := x12ears d_hs60_ (by omega)
      rw [e50] at E0 E1
      have z61 : d_z61_.toInt = (if earsI (D.1 (50, 0, 0) (180 + 9 * v.toInt.toNat)).toInt ≤ 9 then earsI (D.1 (50, 0, 0) (180 + 9 * v.toInt.toNat)).toInt else 9) := by split <;> omega
      rw [e50, E0, z61] at H
      have TD : LeP (fun j => hePL (D.1 (50, 0, 0)) (earsI (D.1 (50, 0, 0) (180 + 9 * v.toInt.toNat)).toInt) u.toInt t (if earsI (D.1 (50, 0, 0) (180 + 9 * v.toInt.toNat)).toInt ≤ 9 then earsI (D.1 (50, 0, 0) (180 + 9 * v.toInt.toNat)).toInt else 9) j) 99 d_v5_57.toInt := Or.inl ⟨LD.1, by omega, fun j h1 h2 => (LD.2.2.2 j h1 h2).2 d_h40_, (H.resolve_right (fun q => by omega)).2⟩
      have ee := LeP_uniq LC TD
      exfalso; omega
    · have qd_hs5_ := is2x d_hs5_
      have yrd_ := eT d_hr_
      have hv : 0 ≤ v.toInt ∧ v.toInt < nWa (D.1 (50, 0, 0)) := by unfold nWa; omega
      have kb := ((hD.2.1.1 (180 + 9 * v.toInt.toNat)).2.2.2.2.2.2.2 (by omega) (by omega)).1 (by omega)
      have g0 : M.1 (9, 0, v.toInt.toNat) 0 = D.1 (50, 0, 0) (180 + 9 * v.toInt.toNat) := (hR.1.2.2.1.2 v.toInt.toNat (by omega)).1 0 (by omega)
      have rC := x9reach c_hs32_ (by rw [g0]; exact kb)
      rw [g0] at rC
      have rD := x12reach d_hs29_ (by omega)
      exfalso; omega
    · have qd_hs5_ := is2x d_hs5_
      have yrd_ := eT d_hr_
      have hv : 0 ≤ v.toInt ∧ v.toInt < nWa (D.1 (50, 0, 0)) := by unfold nWa; omega
      have kb := ((hD.2.1.1 (180 + 9 * v.toInt.toNat)).2.2.2.2.2.2.2 (by omega) (by omega)).1 (by omega)
      have g0 : M.1 (9, 0, v.toInt.toNat) 0 = D.1 (50, 0, 0) (180 + 9 * v.toInt.toNat) := (hR.1.2.2.1.2 v.toInt.toNat (by omega)).1 0 (by omega)
      have rC := x9reach c_hs32_ (by rw [g0]; exact kb)
      rw [g0] at rC
      have rD := x12reach d_hs29_ (by omega)
      exfalso; omega
    · have qd_hs5_ := is2x d_hs5_
      have yrd_ := eT d_hr_
      exfalso; omega
    · have qd_hs5_ := is2x d_hs5_
      have yrd_ := eT d_hr_
      exfalso; omega
    · have qd_hs5_ := is2x d_hs5_
      have yrd_ := eT d_hr_
      exfalso; omega
    · have qd_hs5_ := is2x d_hs5_
      have yrd_ := eT d_hr_
      exfalso; omega
  · obtain rfl : c_j25_ = v.toInt.toNat := by omega
    have qc_hs5_ := x10has c_hs5_
    have yrc_ := eT c_hr_
    unfold SP_X12_least at h2
    rcases h2 with (⟨d_hs5_, d_h4_, (⟨d_hs11_, d_h10_, (⟨d_hs17_, d_h16_, (⟨d_hs23_, d_h22_, d_r25_, d_hs29_, d_h28_, (⟨d_h30_, d_M32_, -, d_hF36_, d_r31_, d_hs38_, d_h34_, d_hr_, d_hM_⟩ | ⟨d_h30_, d_v5_57, d_hv0_57, d_M_57, d_hL_57, d_hI_57, d_hF_57, (⟨d_h40_, (⟨d_h41_, d_M43_, -, d_hF47_, d_r42_, d_hs49_, d_h45_, d_hr_, d_hM_⟩ | ⟨d_h41_, d_r50_, d_hs54_, d_h53_, d_h55_, d_r56_, d_hs60_, d_h59_, d_z61_, d_h62_, d_h63_, d_M65_, -, d_hF69_, d_r64_, d_hs71_, d_h67_, d_h72_, d_hr_, d_hM_⟩)⟩ | ⟨d_h40_, (⟨d_h75_, d_M77_, -, d_hF81_, d_r76_, d_hs83_, d_h79_, d_hr_, d_hM_⟩ | ⟨d_h75_, d_r84_, d_hs88_, d_h87_, d_h89_, d_h90_, d_M92_, -, d_hF96_, d_r91_, d_hs98_, d_h94_, d_h99_, d_hr_, d_hM_⟩)⟩)⟩)⟩ | ⟨d_hs23_, d_h22_, d_M104_, -, d_hF108_, d_r103_, d_hs110_, d_h106_, d_hr_, d_hM_⟩)⟩ | ⟨d_hs17_, d_h16_, d_M113_, -, d_hF117_, d_r112_, d_hs119_, d_h115_, d_hr_, d_hM_⟩)⟩ | ⟨d_hs11_, d_h10_, d_M122_, -, d_hF126_, d_r121_, d_hs128_, d_h124_, d_hr_, d_hM_⟩)⟩ | ⟨d_hs5_, d_M131_, -, d_hF135_, d_r130_, d_hs137_, d_h133_, d_hr_, d_hM_⟩)
    · have qd_hs5_ := is2x d_hs5_
      have yrd_ := eT d_hr_
      have hv : 0 ≤ v.toInt ∧ v.toInt < nWa (D.1 (50, 0, 0)) := by unfold nWa; omega
      have kb := ((hD.2.1.1 (180 + 9 * v.toInt.toNat)).2.2.2.2.2.2.2 (by omega) (by omega)).1 (by omega)
      have g0 : M.1 (9, 0, v.toInt.toNat) 0 = D.1 (50, 0, 0) (180 + 9 * v.toInt.toNat) := (hR.1.2.2.1.2 v.toInt.toNat (by omega)).1 0 (by omega)
      have rC := x9reach c_hs32_ (by rw [g0]; exact kb)
      rw [g0] at rC
      have rD := x12reach d_hs29_ (by omega)
      exfalso; omega
    · have qd_hs5_ := is2x d_hs5_
      have yrd_ := eT d_hr_
      have hv : 0 ≤ v.toInt ∧ v.toInt < nWa (D.1 (50, 0, 0)) := by unfold nWa; omega
      have kb := ((hD.2.1.1 (180 + 9 * v.toInt.toNat)).2.2.2.2.2.2.2 (by omega) (by omega)).1 (by omega)
      have g0 : M.1 (9, 0, v.toInt.toNat) 0 = D.1 (50, 0, 0) (180 + 9 * v.toInt.toNat) := (hR.1.2.2.1.2 v.toInt.toNat (by omega)).1 0 (by omega)
      have rC := x9reach c_hs32_ (by rw [g0]; exact kb)
      rw [g0] at rC
      have rD := x12reach d_hs29_ (by omega)
      exfalso; omega
    · have qd_hs5_ := is2x d_hs5_
      have yrd_ := eT d_hr_
      have hv : 0 ≤ v.toInt ∧ v.toInt < nWa (D.1 (50, 0, 0)) := by unfold nWa; omega
      have kb := ((hD.2.1.1 (180 + 9 * v.toInt.toNat)).2.2.2.2.2.2.2 (by omega) (by omega)).1 (by omega)
      have g0 : M.1 (9, 0, v.toInt.toNat) 0 = D.1 (50, 0, 0) (180 + 9 * v.toInt.toNat) := (hR.1.2.2.1.2 v.toInt.toNat (by omega)).1 0 (by omega)
      have rC := x9reach c_hs32_ (by rw [g0]; exact kb)
      rw [g0] at rC
      have rD := x12reach d_hs29_ (by omega)
      exfalso; omega
    · have qd_hs5_ := is2x d_hs5_
      have yrd_ := eT d_hr_
      have hv : 0 ≤ v.toInt ∧ v.toInt < nWa (D.1 (50, 0, 0)) := by unfold nWa; omega
      have kb := ((hD.2.1.1 (180 + 9 * v.toInt.toNat)).2.2.2.2.2.2.2 (by omega) (by omega)).1 (by omega)
      have g0 : M.1 (9, 0, v.toInt.toNat) 0 = D.1 (50, 0, 0) (180 + 9 * v.toInt.toNat) := (hR.1.2.2.1.2 v.toInt.toNat (by omega)).1 0 (by omega)
      have rC := x9reach c_hs32_ (by rw [g0]; exact kb)
      rw [g0] at rC
      have rD := x12reach d_hs29_ (by omega)
      have hX : ∀ w, w < 3 → ∀ i : Nat, (i : Int) < (D.1 (50, 0, 0) (345 + 50 * w)).toInt → cOK (nnU w) (D.1 (50, 0, 0) (346 + 50 * w + i)) := fun w hw i hi => ((hR.1.2.2.2.1 w hw).2 i hi).2
      have eC := x9ears c_hs61_ (by rw [g0]; exact kb)
      rw [g0] at eC
      have LC := x2leP c_hs69_ hR.1 hD.2.1 (by omega) (by omega) (by omega)
      rw [eC] at LC
      have LD := x12leL d_hL_57 hX (by omega) (by omega) (by omega)
      have TD : LeP (fun j => hePL (D.1 (50, 0, 0)) (earsI (D.1 (50, 0, 0) (180 + 9 * v.toInt.toNat)).toInt) u.toInt t j 99) 9 0 := Or.inr ⟨rfl, fun j h1 h2 => (LD.2.2.2 j h1 (by omega)).1 d_h40_⟩
      have ee := LeP_uniq LC TD
      exfalso; omega
    · have qd_hs5_ := is2x d_hs5_
      have yrd_ := eT d_hr_
      have hv : 0 ≤ v.toInt ∧ v.toInt < nWa (D.1 (50, 0, 0)) := by unfold nWa; omega
      have kb := ((hD.2.1.1 (180 + 9 * v.toInt.toNat)).2.2.2.2.2.2.2 (by omega) (by omega)).1 (by omega)
      have g0 : M.1 (9, 0, v.toInt.toNat) 0 = D.1 (50, 0, 0) (180 + 9 * v.toInt.toNat) := (hR.1.2.2.1.2 v.toInt.toNat (by omega)).1 0 (by omega)
      have rC := x9reach c_hs32_ (by rw [g0]; exact kb)
      rw [g0] at rC
      have rD := x12reach d_hs29_ (by omega)
      have hX : ∀ w, w < 3 → ∀ i : Nat, (i : Int) < (D.1 (50, 0, 0) (345 + 50 * w)).toInt → cOK (nnU w) (D.1 (50, 0, 0) (346 + 50 * w + i)) := fun w hw i hi => ((hR.1.2.2.2.1 w hw).2 i hi).2
      have eC := x9ears c_hs61_ (by rw [g0]; exact kb)
      rw [g0] at eC
      have LC := x2leP c_hs69_ hR.1 hD.2.1 (by omega) (by omega) (by omega)
      rw [eC] at LC
      have LD := x12leL d_hL_57 hX (by omega) (by omega) (by omega)
      have e50 : d_M_57.1 (50, 0, 0) = D.1 (50, 0, 0) := funext fun k => d_hF_57 _ _ (by simp [S_c_X12_least])
      have H := x12hePL d_hs98_ d_hI_57 (by rw [e50]; exact hX) (by omega) (by omega)
      have E0 := x12ears d_hs88_ (by omega)
      rw [e50] at E0
      have i99 : (99 : Int32).toInt = 99 := by decide
      rw [e50, E0, i99] at H
      have TD : LeP (fun j => hePL (D.1 (50, 0, 0)) (earsI (D.1 (50, 0, 0) (180 + 9 * v.toInt.toNat)).toInt) u.toInt t j 99) 9 d_v5_57.toInt := Or.inl ⟨LD.1, by omega, fun j h1 h2 => (LD.2.2.2 j h1 h2).1 d_h40_, (H.resolve_right (fun q => by omega)).2⟩
      have ee := LeP_uniq LC TD
      rw [c_hr_, d_hr_]
      exact i32e ee
    · have qd_hs5_ := is2x d_hs5_
      have yrd_ := eT d_hr_
      exfalso; omega
    · have qd_hs5_ := is2x d_hs5_
      have yrd_ := eT d_hr_
      exfalso; omega
    · have qd_hs5_ := is2x d_hs5_
      have yrd_ := eT d_hr_
      exfalso; omega
    · have qd_hs5_ := is2x d_hs5_
      have yrd_ := eT d_hr_
      exfalso; omega
  · obtain rfl : c_j25_ = v.toInt.toNat := by omega
    have qc_hs5_ := x10has c_hs5_
    have qc_hs78_ := err2 c_hs78_
    have yrc_ := eT c_hr_
    unfold SP_X12_least at h2
    rcases h2 with (⟨d_hs5_, d_h4_, (⟨d_hs11_, d_h10_, (⟨d_hs17_, d_h16_, (⟨d_hs23_, d_h22_, d_r25_, d_hs29_, d_h28_, (⟨d_h30_, d_M32_, -, d_hF36_, d_r31_, d_hs38_, d_h34_, d_hr_, d_hM_⟩ | ⟨d_h30_, d_v5_57, d_hv0_57, d_M_57, d_hL_57, d_hI_57, d_hF_57, (⟨d_h40_, (⟨d_h41_, d_M43_, -, d_hF47_, d_r42_, d_hs49_, d_h45_, d_hr_, d_hM_⟩ | ⟨d_h41_, d_r50_, d_hs54_, d_h53_, d_h55_, d_r56_, d_hs60_, d_h59_, d_z61_, d_h62_, d_h63_, d_M65_, -, d_hF69_, d_r64_, d_hs71_, d_h67_, d_h72_, d_hr_, d_hM_⟩)⟩ | ⟨d_h40_, (⟨d_h75_, d_M77_, -, d_hF81_, d_r76_, d_hs83_, d_h79_, d_hr_, d_hM_⟩ | ⟨d_h75_, d_r84_, d_hs88_, d_h87_, d_h89_, d_h90_, d_M92_, -, d_hF96_, d_r91_, d_hs98_, d_h94_, d_h99_, d_hr_, d_hM_⟩)⟩)⟩)⟩ | ⟨d_hs23_, d_h22_, d_M104_, -, d_hF108_, d_r103_, d_hs110_, d_h106_, d_hr_, d_hM_⟩)⟩ | ⟨d_hs17_, d_h16_, d_M113_, -, d_hF117_, d_r112_, d_hs119_, d_h115_, d_hr_, d_hM_⟩)⟩ | ⟨d_hs11_, d_h10_, d_M122_, -, d_hF126_, d_r121_, d_hs128_, d_h124_, d_hr_, d_hM_⟩)⟩ | ⟨d_hs5_, d_M131_, -, d_hF135_, d_r130_, d_hs137_, d_h133_, d_hr_, d_hM_⟩)
    · have qd_hs5_ := is2x d_hs5_
      have yrd_ := eT d_hr_
      have hv : 0 ≤ v.toInt ∧ v.toInt < nWa (D.1 (50, 0, 0)) := by unfold nWa; omega
      have kb := ((hD.2.1.1 (180 + 9 * v.toInt.toNat)).2.2.2.2.2.2.2 (by omega) (by omega)).1 (by omega)
      have g0 : M.1 (9, 0, v.toInt.toNat) 0 = D.1 (50, 0, 0) (180 + 9 * v.toInt.toNat) := (hR.1.2.2.1.2 v.toInt.toNat (by omega)).1 0 (by omega)
      have rC := x9reach c_hs32_ (by rw [g0]; exact kb)
      rw [g0] at rC
      have rD := x12reach d_hs29_ (by omega)
      exfalso; omega
    · have qd_hs5_ := is2x d_hs5_
      have yrd_ := eT d_hr_
      have hv : 0 ≤ v.toInt ∧ v.toInt < nWa (D.1 (50, 0, 0)) := by unfold nWa; omega
      have kb := ((hD.2.1.1 (180 + 9 * v.toInt.toNat)).2.2.2.2.2.2.2 (by omega) (by omega)).1 (by omega)
      have g0 : M.1 (9, 0, v.toInt.toNat) 0 = D.1 (50, 0, 0) (180 + 9 * v.toInt.toNat) := (hR.1.2.2.1.2 v.toInt.toNat (by omega)).1 0 (by omega)
      have rC := x9reach c_hs32_ (by rw [g0]; exact kb)
      rw [g0] at rC
      have rD := x12reach d_hs29_ (by omega)
      exfalso; omega
    · have qd_hs5_ := is2x d_hs5_
      have yrd_ := eT d_hr_
      have hv : 0 ≤ v.toInt ∧ v.toInt < nWa (D.1 (50, 0, 0)) := by unfold nWa; omega
      have kb := ((hD.2.1.1 (180 + 9 * v.toInt.toNat)).2.2.2.2.2.2.2 (by omega) (by omega)).1 (by omega)
      have g0 : M.1 (9, 0, v.toInt.toNat) 0 = D.1 (50, 0, 0) (180 + 9 * v.toInt.toNat) := (hR.1.2.2.1.2 v.toInt.toNat (by omega)).1 0 (by omega)
      have rC := x9reach c_hs32_ (by rw [g0]; exact kb)
      rw [g0] at rC
      have rD := x12reach d_hs29_ (by omega)
      exfalso; omega
    · have qd_hs5_ := is2x d_hs5_
      have yrd_ := eT d_hr_
      have hv : 0 ≤ v.toInt ∧ v.toInt < nWa (D.1 (50, 0, 0)) := by unfold nWa; omega
      have kb := ((hD.2.1.1 (180 + 9 * v.toInt.toNat)).2.2.2.2.2.2.2 (by omega) (by omega)).1 (by omega)
      have g0 : M.1 (9, 0, v.toInt.toNat) 0 = D.1 (50, 0, 0) (180 + 9 * v.toInt.toNat) := (hR.1.2.2.1.2 v.toInt.toNat (by omega)).1 0 (by omega)
      have rC := x9reach c_hs32_ (by rw [g0]; exact kb)
      rw [g0] at rC
      have rD := x12reach d_hs29_ (by omega)
      have hX : ∀ w, w < 3 → ∀ i : Nat, (i : Int) < (D.1 (50, 0, 0) (345 + 50 * w)).toInt → cOK (nnU w) (D.1 (50, 0, 0) (346 + 50 * w + i)) := fun w hw i hi => ((hR.1.2.2.2.1 w hw).2 i hi).2
      have eC := x9ears c_hs61_ (by rw [g0]; exact kb)
      rw [g0] at eC
      have LC := x2leP c_hs69_ hR.1 hD.2.1 (by omega) (by omega) (by omega)
      rw [eC] at LC
      have LD := x12leL d_hL_57 hX (by omega) (by omega) (by omega)
      have TD : LeP (fun j => hePL (D.1 (50, 0, 0)) (earsI (D.1 (50, 0, 0) (180 + 9 * v.toInt.toNat)).toInt) u.toInt t j 99) 9 0 := Or.inr ⟨rfl, fun j h1 h2 => (LD.2.2.2 j h1 (by omega)).1 d_h40_⟩
      have ee := LeP_uniq LC TD
      exact i32e (by omega)
    · have qd_hs5_ := is2x d_hs5_
      have yrd_ := eT d_hr_
      have hv : 0 ≤ v.toInt ∧ v.toInt < nWa (D.1 (50, 0, 0)) := by unfold nWa; omega
      have kb := ((hD.2.1.1 (180 + 9 * v.toInt.toNat)).2.2.2.2.2.2.2 (by omega) (by omega)).1 (by omega)
      have g0 : M.1 (9, 0, v.toInt.toNat) 0 = D.1 (50, 0, 0) (180 + 9 * v.toInt.toNat) := (hR.1.2.2.1.2 v.toInt.toNat (by omega)).1 0 (by omega)
      have rC := x9reach c_hs32_ (by rw [g0]; exact kb)
      rw [g0] at rC
      have rD := x12reach d_hs29_ (by omega)
      have hX : ∀ w, w < 3 → ∀ i : Nat, (i : Int) < (D.1 (50, 0, 0) (345 + 50 * w)).toInt → cOK (nnU w) (D.1 (50, 0, 0) (346 + 50 * w + i)) := fun w hw i hi => ((hR.1.2.2.2.1 w hw).2 i hi).2
      have eC := x9ears c_hs61_ (by rw [g0]; exact kb)
      rw [g0] at eC
      have LC := x2leP c_hs69_ hR.1 hD.2.1 (by omega) (by omega) (by omega)
      rw [eC] at LC
      have LD := x12leL d_hL_57 hX (by omega) (by omega) (by omega)
      have e50 : d_M_57.1 (50, 0, 0) = D.1 (50, 0, 0) := funext fun k => d_hF_57 _ _ (by simp [S_c_X12_least])
      have H := x12hePL d_hs98_ d_hI_57 (by rw [e50]; exact hX) (by omega) (by omega)
      have E0 := x12ears d_hs88_ (by omega)
      rw [e50] at E0
      have i99 : (99 : Int32).toInt = 99 := by decide
      rw [e50, E0, i99] at H
      have TD : LeP (fun j => hePL (D.1 (50, 0, 0)) (earsI (D.1 (50, 0, 0) (180 + 9 * v.toInt.toNat)).toInt) u.toInt t j 99) 9 d_v5_57.toInt := Or.inl ⟨LD.1, by omega, fun j h1 h2 => (LD.2.2.2 j h1 h2).1 d_h40_, (H.resolve_right (fun q => by omega)).2⟩
      have ee := LeP_uniq LC TD
      exfalso; omega
    · have qd_hs5_ := is2x d_hs5_
      have yrd_ := eT d_hr_
      exfalso; omega
    · have qd_hs5_ := is2x d_hs5_
      have yrd_ := eT d_hr_
      exfalso; omega
    · have qd_hs5_ := is2x d_hs5_
      have yrd_ := eT d_hr_
      exfalso; omega
    · have qd_hs5_ := is2x d_hs5_
      have yrd_ := eT d_hr_
      exfalso; omega
  · obtain rfl : c_j25_ = v.toInt.toNat := by omega
    have qc_hs5_ := x10has c_hs5_
    have qc_hs86_ := err2 c_hs86_
    have yrc_ := eT c_hr_
    unfold SP_X12_least at h2
    rcases h2 with (⟨d_hs5_, d_h4_, (⟨d_hs11_, d_h10_, (⟨d_hs17_, d_h16_, (⟨d_hs23_, d_h22_, d_r25_, d_hs29_, d_h28_, (⟨d_h30_, d_M32_, -, d_hF36_, d_r31_, d_hs38_, d_h34_, d_hr_, d_hM_⟩ | ⟨d_h30_, d_v5_57, d_hv0_57, d_M_57, d_hL_57, d_hI_57, d_hF_57, (⟨d_h40_, (⟨d_h41_, d_M43_, -, d_hF47_, d_r42_, d_hs49_, d_h45_, d_hr_, d_hM_⟩ | ⟨d_h41_, d_r50_, d_hs54_, d_h53_, d_h55_, d_r56_, d_hs60_, d_h59_, d_z61_, d_h62_, d_h63_, d_M65_, -, d_hF69_, d_r64_, d_hs71_, d_h67_, d_h72_, d_hr_, d_hM_⟩)⟩ | ⟨d_h40_, (⟨d_h75_, d_M77_, -, d_hF81_, d_r76_, d_hs83_, d_h79_, d_hr_, d_hM_⟩ | ⟨d_h75_, d_r84_, d_hs88_, d_h87_, d_h89_, d_h90_, d_M92_, -, d_hF96_, d_r91_, d_hs98_, d_h94_, d_h99_, d_hr_, d_hM_⟩)⟩)⟩)⟩ | ⟨d_hs23_, d_h22_, d_M104_, -, d_hF108_, d_r103_, d_hs110_, d_h106_, d_hr_, d_hM_⟩)⟩ | ⟨d_hs17_, d_h16_, d_M113_, -, d_hF117_, d_r112_, d_hs119_, d_h115_, d_hr_, d_hM_⟩)⟩ | ⟨d_hs11_, d_h10_, d_M122_, -, d_hF126_, d_r121_, d_hs128_, d_h124_, d_hr_, d_hM_⟩)⟩ | ⟨d_hs5_, d_M131_, -, d_hF135_, d_r130_, d_hs137_, d_h133_, d_hr_, d_hM_⟩)
    · have qd_hs5_ := is2x d_hs5_
      have yrd_ := eT d_hr_
      have hv : 0 ≤ v.toInt ∧ v.toInt < nWa (D.1 (50, 0, 0)) := by unfold nWa; omega
      have kb := ((hD.2.1.1 (180 + 9 * v.toInt.toNat)).2.2.2.2.2.2.2 (by omega) (by omega)).1 (by omega)
      have g0 : M.1 (9, 0, v.toInt.toNat) 0 = D.1 (50, 0, 0) (180 + 9 * v.toInt.toNat) := (hR.1.2.2.1.2 v.toInt.toNat (by omega)).1 0 (by omega)
      have rC := x9reach c_hs32_ (by rw [g0]; exact kb)
      rw [g0] at rC
      have rD := x12reach d_hs29_ (by omega)
      exact i32e (by omega)
    · have qd_hs5_ := is2x d_hs5_
      have yrd_ := eT d_hr_
      have hv : 0 ≤ v.toInt ∧ v.toInt < nWa (D.1 (50, 0, 0)) := by unfold nWa; omega
      have kb := ((hD.2.1.1 (180 + 9 * v.toInt.toNat)).2.2.2.2.2.2.2 (by omega) (by omega)).1 (by omega)
      have g0 : M.1 (9, 0, v.toInt.toNat) 0 = D.1 (50, 0, 0) (180 + 9 * v.toInt.toNat) := (hR.1.2.2.1.2 v.toInt.toNat (by omega)).1 0 (by omega)
      have rC := x9reach c_hs32_ (by rw [g0]; exact kb)
      rw [g0] at rC
      have rD := x12reach d_hs29_ (by omega)
      exfalso; omega
    · have qd_hs5_ := is2x d_hs5_
      have yrd_ := eT d_hr_
      have hv : 0 ≤ v.toInt ∧ v.toInt < nWa (D.1 (50, 0, 0)) := by unfold nWa; omega
      have kb := ((hD.2.1.1 (180 + 9 * v.toInt.toNat)).2.2.2.2.2.2.2 (by omega) (by omega)).1 (by omega)
      have g0 : M.1 (9, 0, v.toInt.toNat) 0 = D.1 (50, 0, 0) (180 + 9 * v.toInt.toNat) := (hR.1.2.2.1.2 v.toInt.toNat (by omega)).1 0 (by omega)
      have rC := x9reach c_hs32_ (by rw [g0]; exact kb)
      rw [g0] at rC
      have rD := x12reach d_hs29_ (by omega)
      exfalso; omega
    · have qd_hs5_ := is2x d_hs5_
      have yrd_ := eT d_hr_
      have hv : 0 ≤ v.toInt ∧ v.toInt < nWa (D.1 (50, 0, 0)) := by unfold nWa; omega
      have kb := ((hD.2.1.1 (180 + 9 * v.toInt.toNat)).2.2.2.2.2.2.2 (by omega) (by omega)).1 (by omega)
      have g0 : M.1 (9, 0, v.toInt.toNat) 0 = D.1 (50, 0, 0) (180 + 9 * v.toInt.toNat) := (hR.1.2.2.1.2 v.toInt.toNat (by omega)).1 0 (by omega)
      have rC := x9reach c_hs32_ (by rw [g0]; exact kb)
      rw [g0] at rC
      have rD := x12reach d_hs29_ (by omega)
      exfalso; omega
    · have qd_hs5_ := is2x d_hs5_
      have yrd_ := eT d_hr_
      have hv : 0 ≤ v.toInt ∧ v.toInt < nWa (D.1 (50, 0, 0)) := by unfold nWa; omega
      have kb := ((hD.2.1.1 (180 + 9 * v.toInt.toNat)).2.2.2.2.2.2.2 (by omega) (by omega)).1 (by omega)
      have g0 : M.1 (9, 0, v.toInt.toNat) 0 = D.1 (50, 0, 0) (180 + 9 * v.toInt.toNat) := (hR.1.2.2.1.2 v.toInt.toNat (by omega)).1 0 (by omega)
      have rC := x9reach c_hs32_ (by rw [g0]; exact kb)
      rw [g0] at rC
      have rD := x12reach d_hs29_ (by omega)
      exfalso; omega
    · have qd_hs5_ := is2x d_hs5_
      have yrd_ := eT d_hr_
      exfalso; omega
    · have qd_hs5_ := is2x d_hs5_
      have yrd_ := eT d_hr_
      exfalso; omega
    · have qd_hs5_ := is2x d_hs5_
      have yrd_ := eT d_hr_
      exfalso; omega
    · have qd_hs5_ := is2x d_hs5_
      have yrd_ := eT d_hr_
      exfalso; omega
  · have qc_hs5_ := x10has c_hs5_
    have qc_hs95_ := err1 c_hs95_
    have yrc_ := eT c_hr_
    unfold SP_X12_least at h2
    rcases h2 with (⟨d_hs5_, d_h4_, (⟨d_hs11_, d_h10_, (⟨d_hs17_, d_h16_, (⟨d_hs23_, d_h22_, d_r25_, d_hs29_, d_h28_, (⟨d_h30_, d_M32_, -, d_hF36_, d_r31_, d_hs38_, d_h34_, d_hr_, d_hM_⟩ | ⟨d_h30_, d_v5_57, d_hv0_57, d_M_57, d_hL_57, d_hI_57, d_hF_57, (⟨d_h40_, (⟨d_h41_, d_M43_, -, d_hF47_, d_r42_, d_hs49_, d_h45_, d_hr_, d_hM_⟩ | ⟨d_h41_, d_r50_, d_hs54_, d_h53_, d_h55_, d_r56_, d_hs60_, d_h59_, d_z61_, d_h62_, d_h63_, d_M65_, -, d_hF69_, d_r64_, d_hs71_, d_h67_, d_h72_, d_hr_, d_hM_⟩)⟩ | ⟨d_h40_, (⟨d_h75_, d_M77_, -, d_hF81_, d_r76_, d_hs83_, d_h79_, d_hr_, d_hM_⟩ | ⟨d_h75_, d_r84_, d_hs88_, d_h87_, d_h89_, d_h90_, d_M92_, -, d_hF96_, d_r91_, d_hs98_, d_h94_, d_h99_, d_hr_, d_hM_⟩)⟩)⟩)⟩ | ⟨d_hs23_, d_h22_, d_M104_, -, d_hF108_, d_r103_, d_hs110_, d_h106_, d_hr_, d_hM_⟩)⟩ | ⟨d_hs17_, d_h16_, d_M113_, -, d_hF117_, d_r112_, d_hs119_, d_h115_, d_hr_, d_hM_⟩)⟩ | ⟨d_hs11_, d_h10_, d_M122_, -, d_hF126_, d_r121_, d_hs128_, d_h124_, d_hr_, d_hM_⟩)⟩ | ⟨d_hs5_, d_M131_, -, d_hF135_, d_r130_, d_hs137_, d_h133_, d_hr_, d_hM_⟩)
    · have qd_hs5_ := is2x d_hs5_
      have yrd_ := eT d_hr_
      exfalso; omega
    · have qd_hs5_ := is2x d_hs5_
      have yrd_ := eT d_hr_
      exfalso; omega
    · have qd_hs5_ := is2x d_hs5_
      have yrd_ := eT d_hr_
      exfalso; omega
    · have qd_hs5_ := is2x d_hs5_
      have yrd_ := eT d_hr_
      exfalso; omega
    · have qd_hs5_ := is2x d_hs5_
      have yrd_ := eT d_hr_
      exfalso; omega
    · have qd_hs5_ := is2x d_hs5_
      have yrd_ := eT d_hr_
      exact i32e (by omega)
    · have qd_hs5_ := is2x d_hs5_
      have yrd_ := eT d_hr_
      exact i32e (by omega)
    · have qd_hs5_ := is2x d_hs5_
      have yrd_ := eT d_hr_
      exact i32e (by omega)
    · have qd_hs5_ := is2x d_hs5_
      have yrd_ := eT d_hr_
      exact i32e (by omega)
  · have qc_hs5_ := x10has c_hs5_
    have qc_hs104_ := err1 c_hs104_
    have yrc_ := eT c_hr_
    unfold SP_X12_least at h2
    rcases h2 with (⟨d_hs5_, d_h4_, (⟨d_hs11_, d_h10_, (⟨d_hs17_, d_h16_, (⟨d_hs23_, d_h22_, d_r25_, d_hs29_, d_h28_, (⟨d_h30_, d_M32_, -, d_hF36_, d_r31_, d_hs38_, d_h34_, d_hr_, d_hM_⟩ | ⟨d_h30_, d_v5_57, d_hv0_57, d_M_57, d_hL_57, d_hI_57, d_hF_57, (⟨d_h40_, (⟨d_h41_, d_M43_, -, d_hF47_, d_r42_, d_hs49_, d_h45_, d_hr_, d_hM_⟩ | ⟨d_h41_, d_r50_, d_hs54_, d_h53_, d_h55_, d_r56_, d_hs60_, d_h59_, d_z61_, d_h62_, d_h63_, d_M65_, -, d_hF69_, d_r64_, d_hs71_, d_h67_, d_h72_, d_hr_, d_hM_⟩)⟩ | ⟨d_h40_, (⟨d_h75_, d_M77_, -, d_hF81_, d_r76_, d_hs83_, d_h79_, d_hr_, d_hM_⟩ | ⟨d_h75_, d_r84_, d_hs88_, d_h87_, d_h89_, d_h90_, d_M92_, -, d_hF96_, d_r91_, d_hs98_, d_h94_, d_h99_, d_hr_, d_hM_⟩)⟩)⟩)⟩ | ⟨d_hs23_, d_h22_, d_M104_, -, d_hF108_, d_r103_, d_hs110_, d_h106_, d_hr_, d_hM_⟩)⟩ | ⟨d_hs17_, d_h16_, d_M113_, -, d_hF117_, d_r112_, d_hs119_, d_h115_, d_hr_, d_hM_⟩)⟩ | ⟨d_hs11_, d_h10_, d_M122_, -, d_hF126_, d_r121_, d_hs128_, d_h124_, d_hr_, d_hM_⟩)⟩ | ⟨d_hs5_, d_M131_, -, d_hF135_, d_r130_, d_hs137_, d_h133_, d_hr_, d_hM_⟩)
    · have qd_hs5_ := is2x d_hs5_
      have yrd_ := eT d_hr_
      exfalso; omega
    · have qd_hs5_ := is2x d_hs5_
      have yrd_ := eT d_hr_
      exfalso; omega
    · have qd_hs5_ := is2x d_hs5_
      have yrd_ := eT d_hr_
      exfalso; omega
    · have qd_hs5_ := is2x d_hs5_
      have yrd_ := eT d_hr_
      exfalso; omega
    · have qd_hs5_ := is2x d_hs5_
      have yrd_ := eT d_hr_
      exfalso; omega
    · have qd_hs5_ := is2x d_hs5_
      have yrd_ := eT d_hr_
      exact i32e (by omega)
    · have qd_hs5_ := is2x d_hs5_
      have yrd_ := eT d_hr_
      exact i32e (by omega)
    · have qd_hs5_ := is2x d_hs5_
      have yrd_ := eT d_hr_
      exact i32e (by omega)
    · have qd_hs5_ := is2x d_hs5_
      have yrd_ := eT d_hr_
      exact i32e (by omega)
  · have qc_hs5_ := x10has c_hs5_
    have qc_hs113_ := err1 c_hs113_
    have yrc_ := eT c_hr_
    unfold SP_X12_least at h2
    rcases h2 with (⟨d_hs5_, d_h4_, (⟨d_hs11_, d_h10_, (⟨d_hs17_, d_h16_, (⟨d_hs23_, d_h22_, d_r25_, d_hs29_, d_h28_, (⟨d_h30_, d_M32_, -, d_hF36_, d_r31_, d_hs38_, d_h34_, d_hr_, d_hM_⟩ | ⟨d_h30_, d_v5_57, d_hv0_57, d_M_57, d_hL_57, d_hI_57, d_hF_57, (⟨d_h40_, (⟨d_h41_, d_M43_, -, d_hF47_, d_r42_, d_hs49_, d_h45_, d_hr_, d_hM_⟩ | ⟨d_h41_, d_r50_, d_hs54_, d_h53_, d_h55_, d_r56_, d_hs60_, d_h59_, d_z61_, d_h62_, d_h63_, d_M65_, -, d_hF69_, d_r64_, d_hs71_, d_h67_, d_h72_, d_hr_, d_hM_⟩)⟩ | ⟨d_h40_, (⟨d_h75_, d_M77_, -, d_hF81_, d_r76_, d_hs83_, d_h79_, d_hr_, d_hM_⟩ | ⟨d_h75_, d_r84_, d_hs88_, d_h87_, d_h89_, d_h90_, d_M92_, -, d_hF96_, d_r91_, d_hs98_, d_h94_, d_h99_, d_hr_, d_hM_⟩)⟩)⟩)⟩ | ⟨d_hs23_, d_h22_, d_M104_, -, d_hF108_, d_r103_, d_hs110_, d_h106_, d_hr_, d_hM_⟩)⟩ | ⟨d_hs17_, d_h16_, d_M113_, -, d_hF117_, d_r112_, d_hs119_, d_h115_, d_hr_, d_hM_⟩)⟩ | ⟨d_hs11_, d_h10_, d_M122_, -, d_hF126_, d_r121_, d_hs128_, d_h124_, d_hr_, d_hM_⟩)⟩ | ⟨d_hs5_, d_M131_, -, d_hF135_, d_r130_, d_hs137_, d_h133_, d_hr_, d_hM_⟩)
    · have qd_hs5_ := is2x d_hs5_
      have yrd_ := eT d_hr_
      exfalso; omega
    · have qd_hs5_ := is2x d_hs5_
      have yrd_ := eT d_hr_
      exfalso; omega
    · have qd_hs5_ := is2x d_hs5_
      have yrd_ := eT d_hr_
      exfalso; omega
    · have qd_hs5_ := is2x d_hs5_
      have yrd_ := eT d_hr_
      exfalso; omega
    · have qd_hs5_ := is2x d_hs5_
      have yrd_ := eT d_hr_
      exfalso; omega
    · have qd_hs5_ := is2x d_hs5_
      have yrd_ := eT d_hr_
      exact i32e (by omega)
    · have qd_hs5_ := is2x d_hs5_
      have yrd_ := eT d_hr_
      exact i32e (by omega)
    · have qd_hs5_ := is2x d_hs5_
      have yrd_ := eT d_hr_
      exact i32e (by omega)
    · have qd_hs5_ := is2x d_hs5_
      have yrd_ := eT d_hr_
      exact i32e (by omega)
  · have qc_hs5_ := x10has c_hs5_
    have qc_hs122_ := err1 c_hs122_
    have yrc_ := eT c_hr_
    unfold SP_X12_least at h2
    rcases h2 with (⟨d_hs5_, d_h4_, (⟨d_hs11_, d_h10_, (⟨d_hs17_, d_h16_, (⟨d_hs23_, d_h22_, d_r25_, d_hs29_, d_h28_, (⟨d_h30_, d_M32_, -, d_hF36_, d_r31_, d_hs38_, d_h34_, d_hr_, d_hM_⟩ | ⟨d_h30_, d_v5_57, d_hv0_57, d_M_57, d_hL_57, d_hI_57, d_hF_57, (⟨d_h40_, (⟨d_h41_, d_M43_, -, d_hF47_, d_r42_, d_hs49_, d_h45_, d_hr_, d_hM_⟩ | ⟨d_h41_, d_r50_, d_hs54_, d_h53_, d_h55_, d_r56_, d_hs60_, d_h59_, d_z61_, d_h62_, d_h63_, d_M65_, -, d_hF69_, d_r64_, d_hs71_, d_h67_, d_h72_, d_hr_, d_hM_⟩)⟩ | ⟨d_h40_, (⟨d_h75_, d_M77_, -, d_hF81_, d_r76_, d_hs83_, d_h79_, d_hr_, d_hM_⟩ | ⟨d_h75_, d_r84_, d_hs88_, d_h87_, d_h89_, d_h90_, d_M92_, -, d_hF96_, d_r91_, d_hs98_, d_h94_, d_h99_, d_hr_, d_hM_⟩)⟩)⟩)⟩ | ⟨d_hs23_, d_h22_, d_M104_, -, d_hF108_, d_r103_, d_hs110_, d_h106_, d_hr_, d_hM_⟩)⟩ | ⟨d_hs17_, d_h16_, d_M113_, -, d_hF117_, d_r112_, d_hs119_, d_h115_, d_hr_, d_hM_⟩)⟩ | ⟨d_hs11_, d_h10_, d_M122_, -, d_hF126_, d_r121_, d_hs128_, d_h124_, d_hr_, d_hM_⟩)⟩ | ⟨d_hs5_, d_M131_, -, d_hF135_, d_r130_, d_hs137_, d_h133_, d_hr_, d_hM_⟩)
    · have qd_hs5_ := is2x d_hs5_
      have yrd_ := eT d_hr_
      exfalso; omega
    · have qd_hs5_ := is2x d_hs5_
      have yrd_ := eT d_hr_
      exfalso; omega
    · have qd_hs5_ := is2x d_hs5_
      have yrd_ := eT d_hr_
      exfalso; omega
    · have qd_hs5_ := is2x d_hs5_
      have yrd_ := eT d_hr_
      exfalso; omega
    · have qd_hs5_ := is2x d_hs5_
      have yrd_ := eT d_hr_
      exfalso; omega
    · have qd_hs5_ := is2x d_hs5_
      have yrd_ := eT d_hr_
      exact i32e (by omega)
    · have qd_hs5_ := is2x d_hs5_
      have yrd_ := eT d_hr_
      exact i32e (by omega)
    · have qd_hs5_ := is2x d_hs5_
      have yrd_ := eT d_hr_
      exact i32e (by omega)
    · have qd_hs5_ := is2x d_hs5_
      have yrd_ := eT d_hr_
      exact i32e (by omega)
theorem x11fa {v u t x R : Int32} {M M2 : mM} {n : Nat → Int32} (h : RCH (fun x_ y_ : Int32 × mM => ST_X11_farthest_49 u t M v.toInt.toNat x_.1 x_.2 y_.1 y_.2) (R, M) (x, M2)) (hR : WRR 0 M.1 n) (hN : NW5 n) (hv : 0 ≤ v.toInt ∧ v.toInt < nWa n) (hu : 0 ≤ u.toInt ∧ u.toInt ≤ 4) (ht : 100 ≤ t.toInt ∧ t.toInt ≤ 999) (hb : 0 ≤ R.toInt ∧ R.toInt ≤ 12) : x.toInt ≤ R.toInt ∧ 0 ≤ x.toInt ∧ ∀ j : Int, x.toInt < j → j ≤ R.toInt → ¬ (fun j => hePL n (earsI (n (180 + 9 * v.toInt.toNat)).toInt) u.toInt (Int32.ofInt j) (t.toInt / 100) (t.toInt % 100)) j := by
  have q0 := il_0
  have q1 := il_1
  have nw := nWa_b hN
  have g0 : M.1 (9, 0, v.toInt.toNat) 0 = n (180 + 9 * v.toInt.toNat) := (hR.2.2.1.2 v.toInt.toNat (by omega)).1 0 (by omega)
  have kb := ((hN.1 (180 + 9 * v.toInt.toNat)).2.2.2.2.2.2.2 (by omega) (by omega)).1 (by omega)
  have wr : ∀ M2 : mM, FR (S_c_X11_farthest) M M2 → WRR 0 M2.1 n ∧ M2.1 (9, 0, v.toInt.toNat) 0 = n (180 + 9 * v.toInt.toNat) := fun M2 hF => ⟨WRR_same hR hN (fun c k a d => hF c k (fun q => by unfold wR at a; simp only [S_c_X11_farthest, or_false] at q; omega)), by rw [← g0]; exact hF _ _ (fun q => by simp only [S_c_X11_farthest, or_false] at q; omega)⟩
  refine rind h (fun x : Int32 × mM => x.1.toInt ≤ R.toInt ∧ 0 ≤ x.1.toInt ∧ ∀ j : Int, x.1.toInt < j → j ≤ R.toInt → ¬ (fun j => hePL n (earsI (n (180 + 9 * v.toInt.toNat)).toInt) u.toInt (Int32.ofInt j) (t.toInt / 100) (t.toInt % 100)) j) ⟨by dsimp only; omega, by dsimp only; omega, fun j h1 h2 => by dsimp only at h1; omega⟩ (fun x z hp hst => ?_)
  obtain ⟨x1, x2⟩ := x
  obtain ⟨z1, z2⟩ := z
  (try dsimp only at hp hst ⊢)
  unfold ST_X11_farthest_49 at hst
  obtain ⟨-, p_hF_49, p_h28_, p_r37_, p_hs41_, p_h40_, p_M43_, -, p_hF47_, p_r42_, p_hs49_, p_h45_, p_h50_, p_z51_, p_h52_, p_hq_v5_49y, p_hM_⟩ := hst
  have W := wr _ p_hF_49
  have E := x9ears p_hs41_ (by rw [W.2]; exact kb)
  rw [W.2] at E
  have H := x2hePL (p := t.toInt / 100) (l := t.toInt % 100) p_hs49_ W.1 hN hu (by omega) (by omega) (by omega) (by omega)
  rw [E, ofT x1] at H
  rw [p_hq_v5_49y]
  refine ⟨by omega, by omega, fun j h1 h2 => ?_⟩
  by_cases e : j = x1.toInt
  · rw [e]
    rcases H with H | H
    · omega
    · exact H.2
  · exact hp.2.2 j (by omega) h2
theorem x12fa {v u t x R : Int32} {D D2 : mM} (h : RCH (fun x_ y_ : Int32 × mM => ST_X12_farthest_40 v u t D x_.1 x_.2 y_.1 y_.2) (R, D) (x, D2)) (hX : ∀ w, w < 3 → ∀ i : Nat, (i : Int) < (D.1 (50, 0, 0) (345 + 50 * w)).toInt → cOK (nnU w) (D.1 (50, 0, 0) (346 + 50 * w + i))) (hv : 0 ≤ v.toInt ∧ v.toInt ≤ 7) (hu : 0 ≤ u.toInt ∧ u.toInt ≤ 4) (ht : 100 ≤ t.toInt ∧ t.toInt ≤ 999) (hb : 0 ≤ R.toInt ∧ R.toInt ≤ 12) : x.toInt ≤ R.toInt ∧ 0 ≤ x.toInt ∧ ∀ j : Int, x.toInt < j → j ≤ R.toInt → ¬ (fun j => hePL (D.1 (50, 0, 0)) (earsI ((D.1 (50, 0, 0)) (180 + 9 * v.toInt.toNat)).toInt) u.toInt (Int32.ofInt j) (t.toInt / 100) (t.toInt % 100)) j := by
  have q0 := il_0
  have q1 := il_1
  refine rind h (fun x : Int32 × mM => x.1.toInt ≤ R.toInt ∧ 0 ≤ x.1.toInt ∧ ∀ j : Int, x.1.toInt < j → j ≤ R.toInt → ¬ (fun j => hePL (D.1 (50, 0, 0)) (earsI ((D.1 (50, 0, 0)) (180 + 9 * v.toInt.toNat)).toInt) u.toInt (Int32.ofInt j) (t.toInt / 100) (t.toInt % 100)) j) ⟨by dsimp only; omega, by dsimp only; omega, fun j h1 h2 => by dsimp only at h1; omega⟩ (fun x z hp hst => ?_)
  obtain ⟨x1, x2⟩ := x
  obtain ⟨z1, z2⟩ := z
  (try dsimp only at hp hst ⊢)
  unfold ST_X12_farthest_40 at hst
  obtain ⟨p_hv0_40, p_hI_40, p_hF_40, p_h25_, p_r34_, p_hs38_, p_h37_, p_z39_, p_h40_, p_z41_, p_h42_, p_M44_, -, p_hF48_, p_r43_, p_hs50_, p_h46_, p_h51_, p_z52_, p_h53_, p_hq_v4_40y, p_hM_⟩ := hst
  have e50 : x2.1 (50, 0, 0) = D.1 (50, 0, 0) := funext fun k => p_hF_40 _ _ (by simp [S_c_X12_farthest])
  have E := x12ears p_hs38_ hv
  rw [e50] at E
  have H := x12hePL p_hs50_ p_hI_40 (by rw [e50]; exact hX) hu (by omega)
  rw [e50, E, p_h40_, p_h42_, ofT x1] at H
  rw [p_hq_v4_40y]
  refine ⟨by omega, by omega, fun j h1 h2 => ?_⟩
  by_cases e : j = x1.toInt
  · rw [e]
    rcases H with H | H
    · omega
    · exact H.2
  · exact hp.2.2 j (by omega) h2
theorem an_22 {v : Int32} {u : Int32} {t : Int32} {M M1 D D2 : mM} {r1 r2 : Int32} (h1 : SP_X11_farthest v u t M r1 M1) (h2 : SP_X12_farthest v u t D r2 D2) (hR : RW 0 M.1 (D.1 (50, 0, 0))) (hD : InvD D) (hu : (D.1 (12, 0, 0) 7).toInt = -1) : r1 = r2 := by
  have q0 := il_0
  have q1 := il_1
  have i2 : (2 : Int32).toInt = 2 := by decide
  have bT := eT hR.1.2.1.1
  have bW := eT hR.1.2.2.1.1
  have nT := nTh_b hD.2.1
  have nW := nWa_b hD.2.1
  unfold nTh at nT
  unfold nWa at nW
  unfold SP_X11_farthest at h1
  rcases h1 with (⟨c_hs5_, c_h4_, (⟨c_hs11_, c_h10_, c_r13_, c_hs17_, c_h16_, (⟨c_h18_, c_j19_, c_h20_, c_h21_, c_r22_, c_hs26_, c_h25_, c_v5_49, c_M_49, c_hL_49, -, c_hF_49, (⟨c_h28_, c_M30_, -, c_hF34_, c_r29_, c_hs36_, c_hr_, c_hM_⟩ | ⟨c_h28_, c_r37_, c_hs41_, c_h40_, c_M43_, -, c_hF47_, c_r42_, c_hs49_, c_h45_, c_h50_, c_hr_, c_hM_⟩)⟩ | ⟨c_h18_, c_M54_, -, c_hF58_, c_r53_, c_hs60_, c_hr_, c_hM_⟩)⟩ | ⟨c_hs11_, c_h10_, c_M63_, -, c_hF67_, c_r62_, c_hs69_, c_hr_, c_hM_⟩)⟩ | ⟨c_hs5_, c_M72_, -, c_hF76_, c_r71_, c_hs78_, c_hr_, c_hM_⟩)
  · obtain rfl : c_j19_ = v.toInt.toNat := by omega
    have qc_hs5_ := x10has c_hs5_
    have qc_hs17_ := x2clk c_hs17_
    have qc_hs36_ := err2 c_hs36_
    have yrc_ := eT c_hr_
    unfold SP_X12_farthest at h2
    rcases h2 with (⟨d_hs5_, d_h4_, (⟨d_hs11_, d_h10_, (⟨d_hs17_, d_h16_, d_r19_, d_hs23_, d_h22_, d_v4_40, d_hv0_40, d_M_40, d_hL_40, d_hI_40, d_hF_40, (⟨d_h25_, d_M27_, -, d_hF31_, d_r26_, d_hs33_, d_h29_, d_hr_, d_hM_⟩ | ⟨d_h25_, d_r34_, d_hs38_, d_h37_, d_z39_, d_h40_, d_z41_, d_h42_, d_M44_, -, d_hF48_, d_r43_, d_hs50_, d_h46_, d_h51_, d_hr_, d_hM_⟩)⟩ | ⟨d_hs17_, d_M56_, -, d_hF60_, d_r55_, d_hs62_, d_h58_, d_hr_, d_hM_⟩)⟩ | ⟨d_hs11_, d_h10_, d_M65_, -, d_hF69_, d_r64_, d_hs71_, d_h67_, d_hr_, d_hM_⟩)⟩ | ⟨d_hs5_, d_M74_, -, d_hF78_, d_r73_, d_hs80_, d_h76_, d_hr_, d_hM_⟩)
    · have qd_hs5_ := is2x d_hs5_
      have qd_hs17_ := x12clk d_hs17_
      have yrd_ := eT d_hr_
      have hv : 0 ≤ v.toInt ∧ v.toInt < nWa (D.1 (50, 0, 0)) := by unfold nWa; omega
      have kb := ((hD.2.1.1 (180 + 9 * v.toInt.toNat)).2.2.2.2.2.2.2 (by omega) (by omega)).1 (by omega)
      have g0 : M.1 (9, 0, v.toInt.toNat) 0 = D.1 (50, 0, 0) (180 + 9 * v.toInt.toNat) := (hR.1.2.2.1.2 v.toInt.toNat (by omega)).1 0 (by omega)
      have rC := x9reach c_hs26_ (by rw [g0]; exact kb)
      rw [g0] at rC
      have rD := x12reach d_hs23_ (by omega)
      obtain rfl : c_r22_ = d_r19_ := i32e (by omega)
      have hX : ∀ w, w < 3 → ∀ i : Nat, (i : Int) < (D.1 (50, 0, 0) (345 + 50 * w)).toInt → cOK (nnU w) (D.1 (50, 0, 0) (346 + 50 * w + i)) := fun w hw i hi => ((hR.1.2.2.2.1 w hw).2 i hi).2
      have FC := x11fa c_hL_49 hR.1 hD.2.1 hv (by omega) (by omega) (by omega)
      have FD := x12fa d_hL_40 hX (by omega) (by omega) (by omega) (by omega)
      have TC : FaP (fun j => hePL (D.1 (50, 0, 0)) (earsI ((D.1 (50, 0, 0)) (180 + 9 * v.toInt.toNat)).toInt) u.toInt (Int32.ofInt j) (t.toInt / 100) (t.toInt % 100)) c_r22_.toInt 0 := Or.inr ⟨rfl, fun j h1 h2 => FC.2.2 j (by omega) h2⟩
      have TD : FaP (fun j => hePL (D.1 (50, 0, 0)) (earsI ((D.1 (50, 0, 0)) (180 + 9 * v.toInt.toNat)).toInt) u.toInt (Int32.ofInt j) (t.toInt / 100) (t.toInt % 100)) c_r22_.toInt 0 := Or.inr ⟨rfl, fun j h1 h2 => FD.2.2 j (by omega) h2⟩
      have ee := FaP_uniq TC TD
      exact i32e (by omega)
    · have qd_hs5_ := is2x d_hs5_
      have qd_hs17_ := x12clk d_hs17_
      have yrd_ := eT d_hr_
      have hv : 0 ≤ v.toInt ∧ v.toInt < nWa (D.1 (50, 0, 0)) := by unfold nWa; omega
      have kb := ((hD.2.1.1 (180 + 9 * v.toInt.toNat)).2.2.2.2.2.2.2 (by omega) (by omega)).1 (by omega)
      have g0 : M.1 (9, 0, v.toInt.toNat) 0 = D.1 (50, 0, 0) (180 + 9 * v.toInt.toNat) := (hR.1.2.2.1.2 v.toInt.toNat (by omega)).1 0 (by omega)
      have rC := x9reach c_hs26_ (by rw [g0]; exact kb)
      rw [g0] at rC
      have rD := x12reach d_hs23_ (by omega)
      obtain rfl : c_r22_ = d_r19_ := i32e (by omega)
      have hX : ∀ w, w < 3 → ∀ i : Nat, (i : Int) < (D.1 (50, 0, 0) (345 + 50 * w)).toInt → cOK (nnU w) (D.1 (50, 0, 0) (346 + 50 * w + i)) := fun w hw i hi => ((hR.1.2.2.2.1 w hw).2 i hi).2
      have FC := x11fa c_hL_49 hR.1 hD.2.1 hv (by omega) (by omega) (by omega)
      have FD := x12fa d_hL_40 hX (by omega) (by omega) (by omega) (by omega)
      have TC : FaP (fun j => hePL (D.1 (50, 0, 0)) (earsI ((D.1 (50, 0, 0)) (180 + 9 * v.toInt.toNat)).toInt) u.toInt (Int32.ofInt j) (t.toInt / 100) (t.toInt % 100)) c_r22_.toInt 0 := Or.inr ⟨rfl, fun j h1 h2 => FC.2.2 j (by omega) h2⟩
      have e50 : d_M_40.1 (50, 0, 0) = D.1 (50, 0, 0) := funext fun k => d_hF_40 _ _ (by simp [S_c_X12_farthest])
      have ED := x12ears d_hs38_ (by omega)
      rw [e50] at ED
      have HH := x12hePL d_hs50_ d_hI_40 (by rw [e50]; exact hX) (by omega) (by omega)
      rw [e50, ED, d_h40_, d_h42_, ofT d_v4_40] at HH
      have TD : FaP (fun j => hePL (D.1 (50, 0, 0)) (earsI ((D.1 (50, 0, 0)) (180 + 9 * v.toInt.toNat)).toInt) u.toInt (Int32.ofInt j) (t.toInt / 100) (t.toInt % 100)) c_r22_.toInt d_v4_40.toInt := Or.inl ⟨d_h25_, FD.1, FD.2.2, (HH.resolve_right (fun q => by omega)).2⟩
      have ee := FaP_uniq TC TD
      exfalso; omega
    · have qd_hs5_ := is2x d_hs5_
      have qd_hs17_ := x12clk d_hs17_
      have yrd_ := eT d_hr_
      exfalso; omega
    · have qd_hs5_ := is2x d_hs5_
      have yrd_ := eT d_hr_
      exfalso; omega
    · have qd_hs5_ := is2x d_hs5_
      have yrd_ := eT d_hr_
      exfalso; omega
  · obtain rfl : c_j19_ = v.toInt.toNat := by omega
    have qc_hs5_ := x10has c_hs5_
    have qc_hs17_ := x2clk c_hs17_
    have yrc_ := eT c_hr_
    unfold SP_X12_farthest at h2
    rcases h2 with (⟨d_hs5_, d_h4_, (⟨d_hs11_, d_h10_, (⟨d_hs17_, d_h16_, d_r19_, d_hs23_, d_h22_, d_v4_40, d_hv0_40, d_M_40, d_hL_40, d_hI_40, d_hF_40, (⟨d_h25_, d_M27_, -, d_hF31_, d_r26_, d_hs33_, d_h29_, d_hr_, d_hM_⟩ | ⟨d_h25_, d_r34_, d_hs38_, d_h37_, d_z39_, d_h40_, d_z41_, d_h42_, d_M44_, -, d_hF48_, d_r43_, d_hs50_, d_h46_, d_h51_, d_hr_, d_hM_⟩)⟩ | ⟨d_hs17_, d_M56_, -, d_hF60_, d_r55_, d_hs62_, d_h58_, d_hr_, d_hM_⟩)⟩ | ⟨d_hs11_, d_h10_, d_M65_, -, d_hF69_, d_r64_, d_hs71_, d_h67_, d_hr_, d_hM_⟩)⟩ | ⟨d_hs5_, d_M74_, -, d_hF78_, d_r73_, d_hs80_, d_h76_, d_hr_, d_hM_⟩)
    · have qd_hs5_ := is2x d_hs5_
      have qd_hs17_ := x12clk d_hs17_
      have yrd_ := eT d_hr_
      have hv : 0 ≤ v.toInt ∧ v.toInt < nWa (D.1 (50, 0, 0)) := by unfold nWa; omega
      have kb := ((hD.2.1.1 (180 + 9 * v.toInt.toNat)).2.2.2.2.2.2.2 (by omega) (by omega)).1 (by omega)
      have g0 : M.1 (9, 0, v.toInt.toNat) 0 = D.1 (50, 0, 0) (180 + 9 * v.toInt.toNat) := (hR.1.2.2.1.2 v.toInt.toNat (by omega)).1 0 (by omega)
      have rC := x9reach c_hs26_ (by rw [g0]; exact kb)
      rw [g0] at rC
      have rD := x12reach d_hs23_ (by omega)
      obtain rfl : c_r22_ = d_r19_ := i32e (by omega)
      have hX : ∀ w, w < 3 → ∀ i : Nat, (i : Int) < (D.1 (50, 0, 0) (345 + 50 * w)).toInt → cOK (nnU w) (D.1 (50, 0, 0) (346 + 50 * w + i)) := fun w hw i hi => ((hR.1.2.2.2.1 w hw).2 i hi).2
      have FC := x11fa c_hL_49 hR.1 hD.2.1 hv (by omega) (by omega) (by omega)
      have FD := x12fa d_hL_40 hX (by omega) (by omega) (by omega) (by omega)
      have W1 : WRR 0 c_M_49.1 (D.1 (50, 0, 0)) := WRR_same hR.1 hD.2.1 (fun c k a d => c_hF_49 c k (fun q => by unfold wR at a; simp only [S_c_X11_farthest, or_false] at q; omega))
      have W2 : c_M_49.1 (9, 0, v.toInt.toNat) 0 = D.1 (50, 0, 0) (180 + 9 * v.toInt.toNat) := by rw [← g0]; exact c_hF_49 _ _ (fun q => by simp only [S_c_X11_farthest, or_false] at q; omega)
      have EC := x9ears c_hs41_ (by rw [W2]; exact kb)
      rw [W2] at EC
      have HC := x2hePL (p := t.toInt / 100) (l := t.toInt % 100) c_hs49_ W1 hD.2.1 (by omega) (by omega) (by omega) (by omega) (by omega)
      rw [EC, ofT c_v5_49] at HC
      have TC : FaP (fun j => hePL (D.1 (50, 0, 0)) (earsI ((D.1 (50, 0, 0)) (180 + 9 * v.toInt.toNat)).toInt) u.toInt (Int32.ofInt j) (t.toInt / 100) (t.toInt % 100)) c_r22_.toInt c_v5_49.toInt := Or.inl ⟨c_h28_, FC.1, FC.2.2, (HC.resolve_right (fun q => by omega)).2⟩
      have TD : FaP (fun j => hePL (D.1 (50, 0, 0)) (earsI ((D.1 (50, 0, 0)) (180 + 9 * v.toInt.toNat)).toInt) u.toInt (Int32.ofInt j) (t.toInt / 100) (t.toInt % 100)) c_r22_.toInt 0 := Or.inr ⟨rfl, fun j h1 h2 => FD.2.2 j (by omega) h2⟩
      have ee := FaP_uniq TC TD
      exfalso; omega
    · have qd_hs5_ := is2x d_hs5_
      have qd_hs17_ := x12clk d_hs17_
      have yrd_ := eT d_hr_
      have hv : 0 ≤ v.toInt ∧ v.toInt < nWa (D.1 (50, 0, 0)) := by unfold nWa; omega
      have kb := ((hD.2.1.1 (180 + 9 * v.toInt.toNat)).2.2.2.2.2.2.2 (by omega) (by omega)).1 (by omega)
      have g0 : M.1 (9, 0, v.toInt.toNat) 0 = D.1 (50, 0, 0) (180 + 9 * v.toInt.toNat) := (hR.1.2.2.1.2 v.toInt.toNat (by omega)).1 0 (by omega)
      have rC := x9reach c_hs26_ (by rw [g0]; exact kb)
      rw [g0] at rC
      have rD := x12reach d_hs23_ (by omega)
      obtain rfl : c_r22_ = d_r19_ := i32e (by omega)
      have hX : ∀ w, w < 3 → ∀ i : Nat, (i : Int) < (D.1 (50, 0, 0) (345 + 50 * w)).toInt → cOK (nnU w) (D.1 (50, 0, 0) (346 + 50 * w + i)) := fun w hw i hi => ((hR.1.2.2.2.1 w hw).2 i hi).2
      have FC := x11fa c_hL_49 hR.1 hD.2.1 hv (by omega) (by omega) (by omega)
      have FD := x12fa d_hL_40 hX (by omega) (by omega) (by omega) (by omega)
      have W1 : WRR 0 c_M_49.1 (D.1 (50, 0, 0)) := WRR_same hR.1 hD.2.1 (fun c k a d => c_hF_49 c k (fun q => by unfold wR at a; simp only [S_c_X11_farthest, or_false] at q; omega))
      have W2 : c_M_49.1 (9, 0, v.toInt.toNat) 0 = D.1 (50, 0, 0) (180 + 9 * v.toInt.toNat) := by rw [← g0]; exact c_hF_49 _ _ (fun q => by simp only [S_c_X11_farthest, or_false] at q; omega)
      have EC := x9ears c_hs41_ (by rw [W2]; exact kb)
      rw [W2] at EC
      have HC := x2hePL (p := t.toInt / 100) (l := t.toInt % 100) c_hs49_ W1 hD.2.1 (by omega) (by omega) (by omega) (by omega) (by omega)
      rw [EC, ofT c_v5_49] at HC
      have TC : FaP (fun j => hePL (D.1 (50, 0, 0)) (earsI ((D.1 (50, 0, 0)) (180 + 9 * v.toInt.toNat)).toInt) u.toInt (Int32.ofInt j) (t.toInt / 100) (t.toInt % 100)) c_r22_.toInt c_v5_49.toInt := Or.inl ⟨c_h28_, FC.1, FC.2.2, (HC.resolve_right (fun q => by omega)).2⟩
      have e50 : d_M_40.1 (50, 0, 0) = D.1 (50, 0, 0) := funext fun k => d_hF_40 _ _ (by simp [S_c_X12_farthest])
      have ED := x12ears d_hs38_ (by omega)
      rw [e50] at ED
      have HH := x12hePL d_hs50_ d_hI_40 (by rw [e50]; exact hX) (by omega) (by omega)
      rw [e50, ED, d_h40_, d_h42_, ofT d_v4_40] at HH
      have TD : FaP (fun j => hePL (D.1 (50, 0, 0)) (earsI ((D.1 (50, 0, 0)) (180 + 9 * v.toInt.toNat)).toInt) u.toInt (Int32.ofInt j) (t.toInt / 100) (t.toInt % 100)) c_r22_.toInt d_v4_40.toInt := Or.inl ⟨d_h25_, FD.1, FD.2.2, (HH.resolve_right (fun q => by omega)).2⟩
      have ee := FaP_uniq TC TD
      rw [c_hr_, d_hr_]
      exact i32e ee
    · have qd_hs5_ := is2x d_hs5_
      have qd_hs17_ := x12clk d_hs17_
      have yrd_ := eT d_hr_
      exfalso; omega
    · have qd_hs5_ := is2x d_hs5_
      have yrd_ := eT d_hr_
      exfalso; omega
    · have qd_hs5_ := is2x d_hs5_
      have yrd_ := eT d_hr_
      exfalso; omega
  · have qc_hs5_ := x10has c_hs5_
    have qc_hs17_ := x2clk c_hs17_
    have qc_hs60_ := err1 c_hs60_
    have yrc_ := eT c_hr_
    unfold SP_X12_farthest at h2
    rcases h2 with (⟨d_hs5_, d_h4_, (⟨d_hs11_, d_h10_, (⟨d_hs17_, d_h16_, d_r19_, d_hs23_, d_h22_, d_v4_40, d_hv0_40, d_M_40, d_hL_40, d_hI_40, d_hF_40, (⟨d_h25_, d_M27_, -, d_hF31_, d_r26_, d_hs33_, d_h29_, d_hr_, d_hM_⟩ | ⟨d_h25_, d_r34_, d_hs38_, d_h37_, d_z39_, d_h40_, d_z41_, d_h42_, d_M44_, -, d_hF48_, d_r43_, d_hs50_, d_h46_, d_h51_, d_hr_, d_hM_⟩)⟩ | ⟨d_hs17_, d_M56_, -, d_hF60_, d_r55_, d_hs62_, d_h58_, d_hr_, d_hM_⟩)⟩ | ⟨d_hs11_, d_h10_, d_M65_, -, d_hF69_, d_r64_, d_hs71_, d_h67_, d_hr_, d_hM_⟩)⟩ | ⟨d_hs5_, d_M74_, -, d_hF78_, d_r73_, d_hs80_, d_h76_, d_hr_, d_hM_⟩)
    · have qd_hs5_ := is2x d_hs5_
      have qd_hs17_ := x12clk d_hs17_
      have yrd_ := eT d_hr_
      exfalso; omega
    · have qd_hs5_ := is2x d_hs5_
      have qd_hs17_ := x12clk d_hs17_
      have yrd_ := eT d_hr_
      exfalso; omega
    · have qd_hs5_ := is2x d_hs5_
      have qd_hs17_ := x12clk d_hs17_
      have yrd_ := eT d_hr_
      exact i32e (by omega)
    · have qd_hs5_ := is2x d_hs5_
      have yrd_ := eT d_hr_
      exact i32e (by omega)
    · have qd_hs5_ := is2x d_hs5_
      have yrd_ := eT d_hr_
      exact i32e (by omega)
  · have qc_hs5_ := x10has c_hs5_
    have qc_hs69_ := err1 c_hs69_
    have yrc_ := eT c_hr_
    unfold SP_X12_farthest at h2
    rcases h2 with (⟨d_hs5_, d_h4_, (⟨d_hs11_, d_h10_, (⟨d_hs17_, d_h16_, d_r19_, d_hs23_, d_h22_, d_v4_40, d_hv0_40, d_M_40, d_hL_40, d_hI_40, d_hF_40, (⟨d_h25_, d_M27_, -, d_hF31_, d_r26_, d_hs33_, d_h29_, d_hr_, d_hM_⟩ | ⟨d_h25_, d_r34_, d_hs38_, d_h37_, d_z39_, d_h40_, d_z41_, d_h42_, d_M44_, -, d_hF48_, d_r43_, d_hs50_, d_h46_, d_h51_, d_hr_, d_hM_⟩)⟩ | ⟨d_hs17_, d_M56_, -, d_hF60_, d_r55_, d_hs62_, d_h58_, d_hr_, d_hM_⟩)⟩ | ⟨d_hs11_, d_h10_, d_M65_, -, d_hF69_, d_r64_, d_hs71_, d_h67_, d_hr_, d_hM_⟩)⟩ | ⟨d_hs5_, d_M74_, -, d_hF78_, d_r73_, d_hs80_, d_h76_, d_hr_, d_hM_⟩)
    · have qd_hs5_ := is2x d_hs5_
      have qd_hs17_ := x12clk d_hs17_
      have yrd_ := eT d_hr_
      exfalso; omega
    · have qd_hs5_ := is2x d_hs5_
      have qd_hs17_ := x12clk d_hs17_
      have yrd_ := eT d_hr_
      exfalso; omega
    · have qd_hs5_ := is2x d_hs5_
      have qd_hs17_ := x12clk d_hs17_
      have yrd_ := eT d_hr_
      exact i32e (by omega)
    · have qd_hs5_ := is2x d_hs5_
      have yrd_ := eT d_hr_
      exact i32e (by omega)
    · have qd_hs5_ := is2x d_hs5_
      have yrd_ := eT d_hr_
      exact i32e (by omega)
  · have qc_hs5_ := x10has c_hs5_
    have qc_hs78_ := err1 c_hs78_
    have yrc_ := eT c_hr_
    unfold SP_X12_farthest at h2
    rcases h2 with (⟨d_hs5_, d_h4_, (⟨d_hs11_, d_h10_, (⟨d_hs17_, d_h16_, d_r19_, d_hs23_, d_h22_, d_v4_40, d_hv0_40, d_M_40, d_hL_40, d_hI_40, d_hF_40, (⟨d_h25_, d_M27_, -, d_hF31_, d_r26_, d_hs33_, d_h29_, d_hr_, d_hM_⟩ | ⟨d_h25_, d_r34_, d_hs38_, d_h37_, d_z39_, d_h40_, d_z41_, d_h42_, d_M44_, -, d_hF48_, d_r43_, d_hs50_, d_h46_, d_h51_, d_hr_, d_hM_⟩)⟩ | ⟨d_hs17_, d_M56_, -, d_hF60_, d_r55_, d_hs62_, d_h58_, d_hr_, d_hM_⟩)⟩ | ⟨d_hs11_, d_h10_, d_M65_, -, d_hF69_, d_r64_, d_hs71_, d_h67_, d_hr_, d_hM_⟩)⟩ | ⟨d_hs5_, d_M74_, -, d_hF78_, d_r73_, d_hs80_, d_h76_, d_hr_, d_hM_⟩)
    · have qd_hs5_ := is2x d_hs5_
      have qd_hs17_ := x12clk d_hs17_
      have yrd_ := eT d_hr_
      exfalso; omega
    · have qd_hs5_ := is2x d_hs5_
      have qd_hs17_ := x12clk d_hs17_
      have yrd_ := eT d_hr_
      exfalso; omega
    · have qd_hs5_ := is2x d_hs5_
      have qd_hs17_ := x12clk d_hs17_
      have yrd_ := eT d_hr_
      exact i32e (by omega)
    · have qd_hs5_ := is2x d_hs5_
      have yrd_ := eT d_hr_
      exact i32e (by omega)
    · have qd_hs5_ := is2x d_hs5_
      have yrd_ := eT d_hr_
      exact i32e (by omega)
end
