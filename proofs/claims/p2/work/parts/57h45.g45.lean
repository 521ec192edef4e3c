/-! echo -/
theorem x2clk {u : Int32} {M : mM} {r : Int32} (h : SP_X2_isClick_ u M r) : (r.toInt = 1 ∧ 100 ≤ u.toInt ∧ u.toInt ≤ 999 ∧ 1 ≤ u.toInt % 100) ∨ (r.toInt = 0 ∧ ¬ (100 ≤ u.toInt ∧ u.toInt ≤ 999 ∧ 1 ≤ u.toInt % 100)) := by
  have q0 := il_0
  have q1 := il_1
  unfold SP_X2_isClick_ at h
  rcases h with (⟨h1_, hr_⟩ | ⟨h1_, z2_, h3_, z4_, h5_, r6_, hs10_, h9_, (⟨h11_, hr_⟩ | ⟨h11_, hr_⟩)⟩)
  · have y2 := eT hr_
    omega
  · have y2 := eT hr_
    have c := x2click hs10_
    omega
  · have y2 := eT hr_
    have c := x2click hs10_
    omega
theorem x12clk {u : Int32} {M : mM} {r : Int32} (h : SP_X12_isClick u M r) : (r.toInt = 1 ∧ 100 ≤ u.toInt ∧ u.toInt ≤ 999 ∧ 1 ≤ u.toInt % 100) ∨ (r.toInt = 0 ∧ ¬ (100 ≤ u.toInt ∧ u.toInt ≤ 999 ∧ 1 ≤ u.toInt % 100)) := by
  have q0 := il_0
  have q1 := il_1
  unfold SP_X12_isClick at h
  rcases h with (⟨hs5_, h4_, z7_, h8_, (⟨h9_, hr_⟩ | ⟨h9_, hr_⟩)⟩ | ⟨hs5_, h4_, hr_⟩)
  all_goals (have y2 := eT hr_; omega)
theorem hund {u : Int32} (h : 100 ≤ u.toInt ∧ u.toInt ≤ 999) : (u / (100 : Int32)).toInt = u.toInt / 100 ∧ (u - u / (100 : Int32) * (100 : Int32)).toInt = u.toInt % 100 := by
  have i100 : (100 : Int32).toInt = 100 := by decide
  exact ⟨divI rfl i100 (by omega) (by omega), remI rfl i100 (by omega) (by omega)⟩
/-- a seen walker of its own is no wall to itself -/
theorem fr_own {b : Nat} {q : rf → Nat → Int32} {n : Nat → Int32} {v c s y R : Int} (hO : OCC b q n) (hN : NW5 n) (hv : 0 ≤ v ∧ v < nWa n) (hc : c = wcl n v.toNat) (cb : 0 ≤ c ∧ c ≤ 191) (hs : 0 ≤ s ∧ s ≤ 7) (hR : R ≤ 12) (E : EchoP (FrM (occ b q) (-1)) c s R y) : EchoP (FrS (occ b q) v) c s R y := by
  have nw := nWa_b hN
  have nT := nTh_b hN
  refine EchoP_cong (fun j h1 h2 h3 => ?_) E
  have ob := onI_b (c := c) (s := s) (y := j)
  have o3 := hO.2.2 (onI c s j).toNat (by omega)
  have ne := onI_ne cb hs ⟨h1, (by omega : j ≤ 15)⟩
  unfold FrM FrS
  refine ⟨fun z => ?_, fun z => ?_⟩
  · rcases z with z | z
    · exact Or.inl z
    · omega
  · rcases z with z | z
    · exact Or.inl z
    · exfalso
      rcases o3 with o | o | o
      · omega
      · omega
      · have e := o.2.2
        rw [z, show (100 + v - 100).toNat = v.toNat by omega, ← hc] at e
        omega
theorem x10fact {v u t s y : Int32} {M M' : mM} {r : Int32} {n : Nat → Int32} (h : SP_X10_echoFact 0 v u t s M r M') (hR : WRR 0 M.1 n) (hN : NW5 n) (hv : 0 ≤ v.toInt ∧ v.toInt < nWa n) (ht : 0 ≤ t.toInt ∧ t.toInt ≤ 7) (hs : 0 ≤ s.toInt ∧ s.toInt ≤ 5)
    (E : EchoP (FrS (occ 0 M.1) v.toInt) (n (181 + 9 * v.toInt.toNat)).toInt t.toInt (reachI (n (180 + 9 * v.toInt.toNat)).toInt) y.toInt) (hy : ¬ y.toInt = 0) :
    ∃ st : Int32, st.toInt = strI n (kindS n (occ 0 M.1) (onI (n (181 + 9 * v.toInt.toNat)).toInt t.toInt y.toInt)).toNat (u / (100 : Int32)) (u - u / (100 : Int32) * (100 : Int32)) y ∧ ((s.toInt = 0 ∧ r = y) ∨ (s.toInt = 1 ∧ r.toInt = lateN t.toInt y.toInt) ∨ (s.toInt = 2 ∧ r = st) ∨ (s.toInt = 3 ∧ ((((t.toInt - (n (182 + 9 * v.toInt.toNat)).toInt) % 8 < 1 ∨ 3 < (t.toInt - (n (182 + 9 * v.toInt.toNat)).toInt) % 8) ∧ r = st) ∨ (1 ≤ (t.toInt - (n (182 + 9 * v.toInt.toNat)).toInt) % 8 ∧ (t.toInt - (n (182 + 9 * v.toInt.toNat)).toInt) % 8 ≤ 3 ∧ r = st / (2 : Int32)))) ∨ (s.toInt = 4 ∧ (((t.toInt - (n (182 + 9 * v.toInt.toNat)).toInt) % 8 < 5 ∧ r = st) ∨ (5 ≤ (t.toInt - (n (182 + 9 * v.toInt.toNat)).toInt) % 8 ∧ r = st / (2 : Int32)))) ∨ (s.toInt = 5 ∧ ((r.toInt = 1 ∧ heS n (earsI (n (180 + 9 * v.toInt.toNat)).toInt) (kindS n (occ 0 M.1) (onI (n (181 + 9 * v.toInt.toNat)).toInt t.toInt y.toInt)).toNat (u / (100 : Int32)) (u - u / (100 : Int32) * (100 : Int32)) t y) ∨ (r.toInt = 0 ∧ ¬ heS n (earsI (n (180 + 9 * v.toInt.toNat)).toInt) (kindS n (occ 0 M.1) (onI (n (181 + 9 * v.toInt.toNat)).toInt t.toInt y.toInt)).toNat (u / (100 : Int32)) (u - u / (100 : Int32) * (100 : Int32)) t y)))) := by
  have q0 := il_0
  have q1 := il_1
  have hR0 := hR
  obtain ⟨hL, hT, hW, hX, hO, hM⟩ := hR
  have nw := nWa_b hN
  have ec := eT hW.1
  have w1 := (hW.2 v.toInt.toNat (by omega)).1
  have k0 := w1 0 (by omega)
  have k1 := w1 1 (by omega)
  have k2 := w1 2 (by omega)
  simp only [Nat.add_zero] at k0
  rw [show 180 + 9 * v.toInt.toNat + 1 = 181 + 9 * v.toInt.toNat by omega] at k1
  rw [show 180 + 9 * v.toInt.toNat + 2 = 182 + 9 * v.toInt.toNat by omega] at k2
  have PN := (hN.1 (180 + 9 * v.toInt.toNat)).2.2.2.2.2.2.2 (by unfold nWa at hv nw; omega) (by unfold nWa at hv nw; omega)
  have kb := PN.1 (by omega)
  have cb := ((hN.1 (181 + 9 * v.toInt.toNat)).2.2.2.2.2.2.2 (by unfold nWa at hv nw; omega) (by unfold nWa at hv nw; omega)).2.1 (by omega)
  have fb := ((hN.1 (182 + 9 * v.toInt.toNat)).2.2.2.2.2.2.2 (by unfold nWa at hv nw; omega) (by unfold nWa at hv nw; omega)).2.2 (by omega)
  have rb := reachI_b (n (180 + 9 * v.toInt.toNat)).toInt
  unfold SP_X10_echoFact at h
  rcases h with ⟨hs5_, h4_, j7_, h8_, h9_, z10_, e11_, r12_, hs16_, h15_, r17_, hs21_, r24_, hs28_, h27_, r29_, hs33_, M35_, -, hF39_, r34_, hs41_, z42_, e43_, z44_, h45_, z46_, h48_, h47_, h⟩ | ⟨hs5_, hr_, hM_⟩
  · obtain rfl : j7_ = v.toInt.toNat := by omega
    rw [k1] at e11_
    obtain rfl := e11_
    have E1 := x10echo hs16_ ⟨hv.1, by omega, by unfold nWa at hv; omega⟩ (by rw [k0]; exact kb) cb ht
    rw [k0] at E1
    obtain rfl : r12_ = y := i32e (EchoP_uniq E1 E)
    have yb : 1 ≤ r12_.toInt ∧ r12_.toInt ≤ 12 ∧ 0 ≤ onI (n (181 + 9 * v.toInt.toNat)).toInt t.toInt r12_.toInt := by
      unfold EchoP at E
      omega
    have cf := cF_spec hs28_
    have e24 : r24_.toInt = onI (n (181 + 9 * v.toInt.toNat)).toInt t.toInt r12_.toInt := by omega
    have kk := x7kindIn hs33_ ⟨by omega, h27_.2⟩ hT hN
    have kb2 := kindS_b (o := occ 0 M.1) (x := r24_.toInt) hN
    have sS := x2strength hs41_ hL hX hN.2 (by omega)
    rw [kk, e24] at sS
    have LA := x2late hs21_ ht (by omega)
    have hR2 := WRR_q hR0 hN (q2 := M35_.1) (fun c k a b => hF39_ c k (fun q => by simp only [S_c_X2_strength, or_false] at q; omega))
    have k2' : M35_.1 (9, 0, v.toInt.toNat) 2 = n (182 + 9 * v.toInt.toNat) := by
      rw [← k2]
      exact hF39_ _ _ (fun q => by simp only [S_c_X2_strength, or_false] at q; omega)
    have k0' : M35_.1 (9, 0, v.toInt.toNat) 0 = n (180 + 9 * v.toInt.toNat) := by
      rw [← k0]
      exact hF39_ _ _ (fun q => by simp only [S_c_X2_strength, or_false] at q; omega)
    rw [k2'] at e43_
    have z44 : z44_.toInt = t.toInt - (n (182 + 9 * v.toInt.toNat)).toInt := by
      rw [h45_, e43_]
      exact subI rfl rfl (by omega) (by omega)
    have a7 := and7 z44_
    rw [← h48_, z44] at a7
    clear hL hT hW hX hO hM hR0 E E1 w1 PN hs16_ hs28_ hs33_ hs41_ h47_
    refine ⟨r34_, sS, ?_⟩
    rcases h with (⟨e49_, hr_, hM_⟩ | ⟨e49_, hr_, hM_⟩ | ⟨e49_, hr_, hM_⟩ | ⟨e49_, (⟨h50_, hr_, hM_⟩ | ⟨h50_, (⟨h51_, hr_, hM_⟩ | ⟨h51_, z52_, h53_, hr_, hM_⟩)⟩)⟩ | ⟨e49_, (⟨h54_, hr_, hM_⟩ | ⟨h54_, z55_, h56_, hr_, hM_⟩)⟩ | ⟨e49_, r57_, hs61_, h60_, M63_, -, hF67_, r62_, hs69_, h65_, (⟨h70_, hr_, hM_⟩ | ⟨h70_, hr_, hM_⟩)⟩)
    · exact Or.inl ⟨e49_, hr_⟩
    · exact Or.inr (Or.inl ⟨e49_, by rw [hr_]; exact LA⟩)
    · exact Or.inr (Or.inr (Or.inl ⟨e49_, hr_⟩))
    · exact Or.inr (Or.inr (Or.inr (Or.inl ⟨e49_, Or.inl ⟨by omega, hr_⟩⟩)))
    · exact Or.inr (Or.inr (Or.inr (Or.inl ⟨e49_, Or.inl ⟨by omega, hr_⟩⟩)))
    · exact Or.inr (Or.inr (Or.inr (Or.inl ⟨e49_, Or.inr ⟨by omega, by omega, hr_.trans h53_⟩⟩)))
    · exact Or.inr (Or.inr (Or.inr (Or.inr (Or.inl ⟨e49_, Or.inl ⟨by omega, hr_⟩⟩))))
    · exact Or.inr (Or.inr (Or.inr (Or.inr (Or.inl ⟨e49_, Or.inr ⟨by omega, hr_.trans h56_⟩⟩))))
    · have hh := x2isHeard hs69_ hR2.1 hR2.2.2.2.1 hN.2
      rw [x9ears hs61_ (by rw [k0']; exact kb), k0', ofIe LA, ofIe sS] at hh
      have yr := eT hr_
      unfold heS
      refine Or.inr (Or.inr (Or.inr (Or.inr (Or.inr ⟨by omega, ?_⟩))))
      rcases hh with ⟨h1, h2⟩ | ⟨h1, h2⟩
      · exact Or.inl ⟨by omega, h2⟩
      · exact Or.inr ⟨by omega, h2⟩
    · have hh := x2isHeard hs69_ hR2.1 hR2.2.2.2.1 hN.2
      rw [x9ears hs61_ (by rw [k0']; exact kb), k0', ofIe LA, ofIe sS] at hh
      have yr := eT hr_
      unfold heS
      refine Or.inr (Or.inr (Or.inr (Or.inr (Or.inr ⟨by omega, ?_⟩))))
      rcases hh with ⟨h1, h2⟩ | ⟨h1, h2⟩
      · exact Or.inl ⟨by omega, h2⟩
      · exact Or.inr ⟨by omega, h2⟩
  · have := x10has hs5_
    unfold nWa at hv
    exfalso
    omega
theorem earS {v u t s : Int32} {M : mM} {r : Int32} (h : SP_X12_ear v u t s M r) (hu : 0 ≤ u.toInt ∧ u.toInt ≤ 7) (ht : 0 ≤ t.toInt ∧ t.toInt ≤ 7) (hs : 0 ≤ s.toInt ∧ s.toInt ≤ 7) : (3 ≤ (u.toInt - t.toInt - s.toInt + 16) % 8 ∧ r = v) ∨ ((u.toInt - t.toInt - s.toInt + 16) % 8 < 3 ∧ r = v / (2 : Int32)) := by
  have i16 : (16 : Int32).toInt = 16 := by decide
  unfold SP_X12_ear at h
  obtain ⟨z1_, h2_, z3_, h4_, z5_, h6_, z7_, h9_, h8_, h⟩ := h
  have a1 : z1_.toInt = u.toInt - t.toInt := by rw [h2_]; exact subI rfl rfl (by omega) (by omega)
  have a2 : z3_.toInt = z1_.toInt - s.toInt := by rw [h4_]; exact subI rfl rfl (by omega) (by omega)
  have a3 : z5_.toInt = z3_.toInt + 16 := by rw [h6_]; exact addI rfl i16 (by omega) (by omega)
  have a7 := and7 z5_
  rw [← h9_] at a7
  clear h8_
  rcases h with ⟨h10_, hr_⟩ | ⟨h10_, z11_, h12_, hr_⟩
  · exact Or.inl ⟨by omega, hr_⟩
  · exact Or.inr ⟨by omega, hr_.trans h12_⟩
theorem an_16 {v : Int32} {u : Int32} {t : Int32} {s : Int32} {M M1 D D2 : mM} {r1 r2 : Int32} (h1 : SP_X11_echo v u t s M r1 M1) (h2 : SP_X12_echo v u t s D r2 D2) (hR : RW 0 M.1 (D.1 (50, 0, 0))) (hD : InvD D) (hu : (D.1 (12, 0, 0) 7).toInt = -1) : r1 = r2 := by
  have q0 := il_0
  have q1 := il_1
  have bT := eT hR.1.2.1.1
  have bW := eT hR.1.2.2.1.1
  have nT := nTh_b hD.2.1
  have nW := nWa_b hD.2.1
  unfold nTh at nT
  unfold nWa at nW
  unfold SP_X11_echo at h1
  rcases h1 with (⟨c_hs5_, c_h4_, c_r7_, c_hs11_, c_h10_, (⟨c_h12_, c_M14_, -, c_hF18_, c_r13_, c_hs20_, c_hr_, c_hM_⟩ | ⟨c_h12_, (⟨c_hs25_, c_h24_, (⟨c_hs31_, c_h30_, c_j33_, c_h34_, c_h35_, c_z36_, c_e37_, c_r38_, c_hs42_, c_h41_, (⟨c_h43_, c_M45_, -, c_hF49_, c_r44_, c_hs51_, c_hr_, c_hM_⟩ | ⟨c_h43_, c_M53_, -, c_hF57_, c_r52_, c_hs59_, c_hr_, c_hM_⟩)⟩ | ⟨c_hs31_, c_h30_, c_M62_, -, c_hF66_, c_r61_, c_hs68_, c_hr_, c_hM_⟩)⟩ | ⟨c_hs25_, c_h24_, c_M71_, -, c_hF75_, c_r70_, c_hs77_, c_hr_, c_hM_⟩)⟩)⟩ | ⟨c_hs5_, c_M80_, -, c_hF84_, c_r79_, c_hs86_, c_hr_, c_hM_⟩)
  · have qc_hs5_ := x10has c_hs5_
    have qc_hs11_ := x2clk c_hs11_
    have qc_hs20_ := err1 c_hs20_
    have yrc_ := eT c_hr_
    unfold SP_X12_echo at h2
    rcases h2 with (⟨d_hs5_, d_h4_, (⟨d_hs11_, d_h10_, (⟨d_hs17_, d_h16_, (⟨d_hs23_, d_h22_, d_r25_, d_hs29_, d_h28_, d_z30_, d_h31_, d_j34_, d_h35_, d_z32_, d_e33_, d_h36_, d_r37_, d_hs41_, d_h40_, d_r42_, d_hs46_, d_h45_, (⟨d_h47_, d_r48_, d_hs52_, d_h51_, d_r53_, d_hs57_, d_h56_, d_z58_, d_h59_, d_z60_, d_h61_, d_M63_, d_hI66_, d_hF67_, d_r62_, d_hs69_, d_r70_, d_hs74_, d_h73_, d_z75_, d_h76_, d_j79_, d_h80_, d_z77_, d_e78_, d_h81_, (⟨d_e82_, d_hr_, d_hM_⟩ | ⟨d_e82_, d_r83_, d_hs87_, d_hr_, d_hM_⟩ | ⟨d_e82_, d_hr_, d_hM_⟩ | ⟨d_e82_, d_r88_, d_hs92_, d_hr_, d_hM_⟩ | ⟨d_e82_, d_r93_, d_hs97_, d_hr_, d_hM_⟩ | ⟨d_e82_, d_r98_, d_hs102_, d_h101_, d_z103_, d_h104_, d_z105_, d_h106_, d_M108_, -, d_hF112_, d_r107_, d_hs114_, d_h110_, (⟨d_h115_, d_hr_, d_hM_⟩ | ⟨d_h115_, d_hr_, d_hM_⟩)⟩)⟩ | ⟨d_h47_, d_M117_, -, d_hF121_, d_r116_, d_hs123_, d_h119_, d_hr_, d_hM_⟩)⟩ | ⟨d_hs23_, d_h22_, d_M126_, -, d_hF130_, d_r125_, d_hs132_, d_h128_, d_hr_, d_hM_⟩)⟩ | ⟨d_hs17_, d_h16_, d_M135_, -, d_hF139_, d_r134_, d_hs141_, d_h137_, d_hr_, d_hM_⟩)⟩ | ⟨d_hs11_, d_M144_, -, d_hF148_, d_r143_, d_hs150_, d_h146_, d_hr_, d_hM_⟩)⟩ | ⟨d_hs5_, d_M153_, -, d_hF157_, d_r152_, d_hs159_, d_h155_, d_hr_, d_hM_⟩)
    · obtain rfl : d_j34_ = 181 + 9 * v.toInt.toNat := by omega
      obtain rfl : d_j79_ = 182 + 9 * v.toInt.toNat := by omega
      have qd_hs5_ := is2x d_hs5_
      have qd_hs11_ := x12clk d_hs11_
      have yd_e33_ := eT d_e33_
      have yd_e78_ := eT d_e78_
      have yrd_ := eT d_hr_
      exfalso; omega
    · obtain rfl : d_j34_ = 181 + 9 * v.toInt.toNat := by omega
      obtain rfl : d_j79_ = 182 + 9 * v.toInt.toNat := by omega
      have qd_hs5_ := is2x d_hs5_
      have qd_hs11_ := x12clk d_hs11_
      have yd_e33_ := eT d_e33_
      have yd_e78_ := eT d_e78_
      have yrd_ := eT d_hr_
      exfalso; omega
    · obtain rfl : d_j34_ = 181 + 9 * v.toInt.toNat := by omega
      obtain rfl : d_j79_ = 182 + 9 * v.toInt.toNat := by omega
      have qd_hs5_ := is2x d_hs5_
      have qd_hs11_ := x12clk d_hs11_
      have yd_e33_ := eT d_e33_
      have yd_e78_ := eT d_e78_
      have yrd_ := eT d_hr_
      exfalso; omega
    · obtain rfl : d_j34_ = 181 + 9 * v.toInt.toNat := by omega
      obtain rfl : d_j79_ = 182 + 9 * v.toInt.toNat := by omega
      have qd_hs5_ := is2x d_hs5_
      have qd_hs11_ := x12clk d_hs11_
      have yd_e33_ := eT d_e33_
      have yd_e78_ := eT d_e78_
      have yrd_ := eT d_hr_
      exfalso; omega
    · obtain rfl : d_j34_ = 181 + 9 * v.toInt.toNat := by omega
      obtain rfl : d_j79_ = 182 + 9 * v.toInt.toNat := by omega
      have qd_hs5_ := is2x d_hs5_
      have qd_hs11_ := x12clk d_hs11_
      have yd_e33_ := eT d_e33_
      have yd_e78_ := eT d_e78_
      have yrd_ := eT d_hr_
      exfalso; omega
    · obtain rfl : d_j34_ = 181 + 9 * v.toInt.toNat := by omega
      obtain rfl : d_j79_ = 182 + 9 * v.toInt.toNat := by omega
      have qd_hs5_ := is2x d_hs5_
      have qd_hs11_ := x12clk d_hs11_
      have yd_e33_ := eT d_e33_
      have yd_e78_ := eT d_e78_
      have yrd_ := eT d_hr_
      exfalso; omega
    · obtain rfl : d_j34_ = 181 + 9 * v.toInt.toNat := by omega
      obtain rfl : d_j79_ = 182 + 9 * v.toInt.toNat := by omega
      have qd_hs5_ := is2x d_hs5_
      have qd_hs11_ := x12clk d_hs11_
      have yd_e33_ := eT d_e33_
      have yd_e78_ := eT d_e78_
      have yrd_ := eT d_hr_
      exfalso; omega
    · obtain rfl : d_j34_ = 181 + 9 * v.toInt.toNat := by omega
      have qd_hs5_ := is2x d_hs5_
      have qd_hs11_ := x12clk d_hs11_
      have yd_e33_ := eT d_e33_
      have yrd_ := eT d_hr_
      exfalso; omega
    · have qd_hs5_ := is2x d_hs5_
      have qd_hs11_ := x12clk d_hs11_
      have yrd_ := eT d_hr_
      exact i32e (by omega)
    · have qd_hs5_ := is2x d_hs5_
      have qd_hs11_ := x12clk d_hs11_
      have yrd_ := eT d_hr_
      exact i32e (by omega)
    · have qd_hs5_ := is2x d_hs5_
      have qd_hs11_ := x12clk d_hs11_
      have yrd_ := eT d_hr_
      exact i32e (by omega)
    · have qd_hs5_ := is2x d_hs5_
      have yrd_ := eT d_hr_
      exact i32e (by omega)
  · obtain rfl : c_j33_ = v.toInt.toNat := by omega
    have qc_hs5_ := x10has c_hs5_
    have qc_hs11_ := x2clk c_hs11_
    have yc_e37_ := eT c_e37_
    have yrc_ := eT c_hr_
    unfold SP_X12_echo at h2
    rcases h2 with (⟨d_hs5_, d_h4_, (⟨d_hs11_, d_h10_, (⟨d_hs17_, d_h16_, (⟨d_hs23_, d_h22_, d_r25_, d_hs29_, d_h28_, d_z30_, d_h31_, d_j34_, d_h35_, d_z32_, d_e33_, d_h36_, d_r37_, d_hs41_, d_h40_, d_r42_, d_hs46_, d_h45_, (⟨d_h47_, d_r48_, d_hs52_, d_h51_, d_r53_, d_hs57_, d_h56_, d_z58_, d_h59_, d_z60_, d_h61_, d_M63_, d_hI66_, d_hF67_, d_r62_, d_hs69_, d_r70_, d_hs74_, d_h73_, d_z75_, d_h76_, d_j79_, d_h80_, d_z77_, d_e78_, d_h81_, (⟨d_e82_, d_hr_, d_hM_⟩ | ⟨d_e82_, d_r83_, d_hs87_, d_hr_, d_hM_⟩ | ⟨d_e82_, d_hr_, d_hM_⟩ | ⟨d_e82_, d_r88_, d_hs92_, d_hr_, d_hM_⟩ | ⟨d_e82_, d_r93_, d_hs97_, d_hr_, d_hM_⟩ | ⟨d_e82_, d_r98_, d_hs102_, d_h101_, d_z103_, d_h104_, d_z105_, d_h106_, d_M108_, -, d_hF112_, d_r107_, d_hs114_, d_h110_, (⟨d_h115_, d_hr_, d_hM_⟩ | ⟨d_h115_, d_hr_, d_hM_⟩)⟩)⟩ | ⟨d_h47_, d_M117_, -, d_hF121_, d_r116_, d_hs123_, d_h119_, d_hr_, d_hM_⟩)⟩ | ⟨d_hs23_, d_h22_, d_M126_, -, d_hF130_, d_r125_, d_hs132_, d_h128_, d_hr_, d_hM_⟩)⟩ | ⟨d_hs17_, d_h16_, d_M135_, -, d_hF139_, d_r134_, d_hs141_, d_h137_, d_hr_, d_hM_⟩)⟩ | ⟨d_hs11_, d_M144_, -, d_hF148_, d_r143_, d_hs150_, d_h146_, d_hr_, d_hM_⟩)⟩ | ⟨d_hs5_, d_M153_, -, d_hF157_, d_r152_, d_hs159_, d_h155_, d_hr_, d_hM_⟩)
    · obtain rfl : d_j34_ = 181 + 9 * v.toInt.toNat := by omega
      obtain rfl : d_j79_ = 182 + 9 * v.toInt.toNat := by omega
      have qd_hs5_ := is2x d_hs5_
      have qd_hs11_ := x12clk d_hs11_
      have yd_e33_ := eT d_e33_
      have yd_e78_ := eT d_e78_
      have yrd_ := eT d_hr_
      have hv : 0 ≤ v.toInt ∧ v.toInt < nWa (D.1 (50, 0, 0)) := by unfold nWa; omega
      have PB : ∀ k, k < 3 → 180 ≤ 180 + k + 9 * v.toInt.toNat ∧ 180 + k + 9 * v.toInt.toNat < 252 := fun k hk => by omega
      have kb := ((hD.2.1.1 (180 + 9 * v.toInt.toNat)).2.2.2.2.2.2.2 (by omega) (by omega)).1 (by omega)
      have cb := ((hD.2.1.1 (181 + 9 * v.toInt.toNat)).2.2.2.2.2.2.2 (by omega) (by omega)).2.1 (by omega)
      have g0 : M.1 (9, 0, v.toInt.toNat) 0 = D.1 (50, 0, 0) (180 + 9 * v.toInt.toNat) := (hR.1.2.2.1.2 v.toInt.toNat (by omega)).1 0 (by omega)
      have g1 : M.1 (9, 0, v.toInt.toNat) 1 = D.1 (50, 0, 0) (181 + 9 * v.toInt.toNat) := by rw [(hR.1.2.2.1.2 v.toInt.toNat (by omega)).1 1 (by omega), show 180 + 9 * v.toInt.toNat + 1 = 181 + 9 * v.toInt.toNat by omega]
      rw [g1] at c_e37_
      obtain rfl := c_e37_
      have E1 := x10echo c_hs42_ ⟨hv.1, by omega, by omega⟩ (by rw [g0]; exact kb) cb c_h24_
      rw [g0] at E1
      obtain rfl : d_j34_ = 181 + 9 * v.toInt.toNat := by omega
      obtain rfl := d_e33_
      have E2 := x12echo d_hs46_ hR.1.2.2.2.2.1 cb d_h16_ d_h40_ (by omega)
      rw [hu, x12reach d_hs41_ (by omega)] at E2
      have rb := reachI_b (D.1 (50, 0, 0) (180 + 9 * v.toInt.toNat)).toInt
      have E3 := fr_own hR.1.2.2.2.2.1 hD.2.1 hv rfl cb d_h16_ rb.2 E2
      have ee : c_r38_ = d_r42_ := i32e (EchoP_uniq E1 E3)
      subst ee
      have CF := x10fact c_hs51_ hR.1 hD.2.1 hv c_h24_ c_h30_ E1 c_h43_
      obtain ⟨st, s1, CF⟩ := CF
      have yb : 1 ≤ c_r38_.toInt ∧ c_r38_.toInt ≤ 12 ∧ 0 ≤ onI (D.1 (50, 0, 0) (181 + 9 * v.toInt.toNat)).toInt t.toInt c_r38_.toInt ∧ ¬ FrM (occ 0 M.1) (-1) (onI (D.1 (50, 0, 0) (181 + 9 * v.toInt.toNat)).toInt t.toInt c_r38_.toInt) := by
        rcases E2 with E2 | E2
        · exact ⟨E2.1, by omega, E2.2.2.2⟩
        · exact absurd E2.1 c_h43_
      have e48 := on_spec d_h51_.1 cb d_h16_ (by omega)
      have kk := x12kindIn d_hs57_ hR.1.2.2.2.2.1 (by omega) (by omega) (by rw [hu, e48]; exact yb.2.2.2) hD
      have kb2 := kindS_b (n := D.1 (50, 0, 0)) (o := occ 0 M.1) (x := d_r48_.toInt) hD.2.1
      have hX : ∀ w, w < 3 → ∀ i : Nat, (i : Int) < (D.1 (50, 0, 0) (345 + 50 * w)).toInt → cOK (nnU w) (D.1 (50, 0, 0) (346 + 50 * w + i)) := fun w hw i hi => ((hR.1.2.2.2.1 w hw).2 i hi).2
      have sD := x12strength d_hs69_ hD (fun i hi => hX 0 (by omega) i hi) (by omega)
      have HU := hund (u := u) (by omega)
      rw [show d_z58_ = u / (100 : Int32) from i32e (by omega), show d_z60_ = u - u / (100 : Int32) * (100 : Int32) from i32e (by omega), kk, e48, ← s1] at sD
      have sE : d_r62_ = st := i32e sD
      rcases CF with CF | CF | CF | CF | CF | CF
      · rw [c_hr_, CF.2, d_hr_]
      · omega
      · omega
      · omega
      · omega
      · omega
    · obtain rfl : d_j34_ = 181 + 9 * v.toInt.toNat := by omega
      obtain rfl : d_j79_ = 182 + 9 * v.toInt.toNat := by omega
      have qd_hs5_ := is2x d_hs5_
      have qd_hs11_ := x12clk d_hs11_
      have yd_e33_ := eT d_e33_
      have yd_e78_ := eT d_e78_
      have yrd_ := eT d_hr_
      have hv : 0 ≤ v.toInt ∧ v.toInt < nWa (D.1 (50, 0, 0)) := by unfold nWa; omega
      have PB : ∀ k, k < 3 → 180 ≤ 180 + k + 9 * v.toInt.toNat ∧ 180 + k + 9 * v.toInt.toNat < 252 := fun k hk => by omega
      have kb := ((hD.2.1.1 (180 + 9 * v.toInt.toNat)).2.2.2.2.2.2.2 (by omega) (by omega)).1 (by omega)
      have cb := ((hD.2.1.1 (181 + 9 * v.toInt.toNat)).2.2.2.2.2.2.2 (by omega) (by omega)).2.1 (by omega)
      have g0 : M.1 (9, 0, v.toInt.toNat) 0 = D.1 (50, 0, 0) (180 + 9 * v.toInt.toNat) := (hR.1.2.2.1.2 v.toInt.toNat (by omega)).1 0 (by omega)
      have g1 : M.1 (9, 0, v.toInt.toNat) 1 = D.1 (50, 0, 0) (181 + 9 * v.toInt.toNat) := by rw [(hR.1.2.2.1.2 v.toInt.toNat (by omega)).1 1 (by omega), show 180 + 9 * v.toInt.toNat + 1 = 181 + 9 * v.toInt.toNat by omega]
      rw [g1] at c_e37_
      obtain rfl := c_e37_
      have E1 := x10echo c_hs42_ ⟨hv.1, by omega, by omega⟩ (by rw [g0]; exact kb) cb c_h24_
      rw [g0] at E1
      obtain rfl : d_j34_ = 181 + 9 * v.toInt.toNat := by omega
      obtain rfl := d_e33_
      have E2 := x12echo d_hs46_ hR.1.2.2.2.2.1 cb d_h16_ d_h40_ (by omega)
      rw [hu, x12reach d_hs41_ (by omega)] at E2
      have rb := reachI_b (D.1 (50, 0, 0) (180 + 9 * v.toInt.toNat)).toInt
      have E3 := fr_own hR.1.2.2.2.2.1 hD.2.1 hv rfl cb d_h16_ rb.2 E2
      have ee : c_r38_ = d_r42_ := i32e (EchoP_uniq E1 E3)
      subst ee
      have CF := x10fact c_hs51_ hR.1 hD.2.1 hv c_h24_ c_h30_ E1 c_h43_
      obtain ⟨st, s1, CF⟩ := CF
      have yb : 1 ≤ c_r38_.toInt ∧ c_r38_.toInt ≤ 12 ∧ 0 ≤ onI (D.1 (50, 0, 0) (181 + 9 * v.toInt.toNat)).toInt t.toInt c_r38_.toInt ∧ ¬ FrM (occ 0 M.1) (-1) (onI (D.1 (50, 0, 0) (181 + 9 * v.toInt.toNat)).toInt t.toInt c_r38_.toInt) := by
        rcases E2 with E2 | E2
        · exact ⟨E2.1, by omega, E2.2.2.2⟩
        · exact absurd E2.1 c_h43_
      have e48 := on_spec d_h51_.1 cb d_h16_ (by omega)
      have kk := x12kindIn d_hs57_ hR.1.2.2.2.2.1 (by omega) (by omega) (by rw [hu, e48]; exact yb.2.2.2) hD
      have kb2 := kindS_b (n := D.1 (50, 0, 0)) (o := occ 0 M.1) (x := d_r48_.toInt) hD.2.1
      have hX : ∀ w, w < 3 → ∀ i : Nat, (i : Int) < (D.1 (50, 0, 0) (345 + 50 * w)).toInt → cOK (nnU w) (D.1 (50, 0, 0) (346 + 50 * w + i)) := fun w hw i hi => ((hR.1.2.2.2.1 w hw).2 i hi).2
      have sD := x12strength d_hs69_ hD (fun i hi => hX 0 (by omega) i hi) (by omega)
      have HU := hund (u := u) (by omega)
      rw [show d_z58_ = u / (100 : Int32) from i32e (by omega), show d_z60_ = u - u / (100 : Int32) * (100 : Int32) from i32e (by omega), kk, e48, ← s1] at sD
      have sE : d_r62_ = st := i32e sD
      rcases CF with CF | CF | CF | CF | CF | CF
      · omega
      · exact i32e (by rw [c_hr_, CF.2, d_hr_, x12late d_hs87_ d_h16_ (by omega)])
      · omega
      · omega
      · omega
      · omega
    · obtain rfl : d_j34_ = 181 + 9 * v.toInt.toNat := by omega
      obtain rfl : d_j79_ = 182 + 9 * v.toInt.toNat := by omega
      have qd_hs5_ := is2x d_hs5_
      have qd_hs11_ := x12clk d_hs11_
      have yd_e33_ := eT d_e33_
      have yd_e78_ := eT d_e78_
      have yrd_ := eT d_hr_
      have hv : 0 ≤ v.toInt ∧ v.toInt < nWa (D.1 (50, 0, 0)) := by unfold nWa; omega
      have PB : ∀ k, k < 3 → 180 ≤ 180 + k + 9 * v.toInt.toNat ∧ 180 + k + 9 * v.toInt.toNat < 252 := fun k hk => by omega
      have kb := ((hD.2.1.1 (180 + 9 * v.toInt.toNat)).2.2.2.2.2.2.2 (by omega) (by omega)).1 (by omega)
      have cb := ((hD.2.1.1 (181 + 9 * v.toInt.toNat)).2.2.2.2.2.2.2 (by omega) (by omega)).2.1 (by omega)
      have g0 : M.1 (9, 0, v.toInt.toNat) 0 = D.1 (50, 0, 0) (180 + 9 * v.toInt.toNat) := (hR.1.2.2.1.2 v.toInt.toNat (by omega)).1 0 (by omega)
      have g1 : M.1 (9, 0, v.toInt.toNat) 1 = D.1 (50, 0, 0) (181 + 9 * v.toInt.toNat) := by rw [(hR.1.2.2.1.2 v.toInt.toNat (by omega)).1 1 (by omega), show 180 + 9 * v.toInt.toNat + 1 = 181 + 9 * v.toInt.toNat by omega]
      rw [g1] at c_e37_
      obtain rfl := c_e37_
      have E1 := x10echo c_hs42_ ⟨hv.1, by omega, by omega⟩ (by rw [g0]; exact kb) cb c_h24_
      rw [g0] at E1
      obtain rfl : d_j34_ = 181 + 9 * v.toInt.toNat := by omega
      obtain rfl := d_e33_
      have E2 := x12echo d_hs46_ hR.1.2.2.2.2.1 cb d_h16_ d_h40_ (by omega)
      rw [hu, x12reach d_hs41_ (by omega)] at E2
      have rb := reachI_b (D.1 (50, 0, 0) (180 + 9 * v.toInt.toNat)).toInt
      have E3 := fr_own hR.1.2.2.2.2.1 hD.2.1 hv rfl cb d_h16_ rb.2 E2
      have ee : c_r38_ = d_r42_ := i32e (EchoP_uniq E1 E3)
      subst ee
      have CF := x10fact c_hs51_ hR.1 hD.2.1 hv c_h24_ c_h30_ E1 c_h43_
      obtain ⟨st, s1, CF⟩ := CF
      have yb : 1 ≤ c_r38_.toInt ∧ c_r38_.toInt ≤ 12 ∧ 0 ≤ onI (D.1 (50, 0, 0) (181 + 9 * v.toInt.toNat)).toInt t.toInt c_r38_.toInt ∧ ¬ FrM (occ 0 M.1) (-1) (onI (D.1 (50, 0, 0) (181 + 9 * v.toInt.toNat)).toInt t.toInt c_r38_.toInt) := by
        rcases E2 with E2 | E2
        · exact ⟨E2.1, by omega, E2.2.2.2⟩
        · exact absurd E2.1 c_h43_
      have e48 := on_spec d_h51_.1 cb d_h16_ (by omega)
      have kk := x12kindIn d_hs57_ hR.1.2.2.2.2.1 (by omega) (by omega) (by rw [hu, e48]; exact yb.2.2.2) hD
      have kb2 := kindS_b (n := D.1 (50, 0, 0)) (o := occ 0 M.1) (x := d_r48_.toInt) hD.2.1
      have hX : ∀ w, w < 3 → ∀ i : Nat, (i : Int) < (D.1 (50, 0, 0) (345 + 50 * w)).toInt → cOK (nnU w) (D.1 (50, 0, 0) (346 + 50 * w + i)) := fun w hw i hi => ((hR.1.2.2.2.1 w hw).2 i hi).2
      have sD := x12strength d_hs69_ hD (fun i hi => hX 0 (by omega) i hi) (by omega)
      have HU := hund (u := u) (by omega)
      rw [show d_z58_ = u / (100 : Int32) from i32e (by omega), show d_z60_ = u - u / (100 : Int32) * (100 : Int32) from i32e (by omega), kk, e48, ← s1] at sD
      have sE : d_r62_ = st := i32e sD
      rcases CF with CF | CF | CF | CF | CF | CF
      · omega
      · omega
      · rw [c_hr_, CF.2, d_hr_, sE]
      · omega
      · omega
      · omega
    · obtain rfl : d_j34_ = 181 + 9 * v.toInt.toNat := by omega
      obtain rfl : d_j79_ = 182 + 9 * v.toInt.toNat := by omega
      have qd_hs5_ := is2x d_hs5_
      have qd_hs11_ := x12clk d_hs11_
      have yd_e33_ := eT d_e33_
      have yd_e78_ := eT d_e78_
      have yrd_ := eT d_hr_
      have hv : 0 ≤ v.toInt ∧ v.toInt < nWa (D.1 (50, 0, 0)) := by unfold nWa; omega
      have PB : ∀ k, k < 3 → 180 ≤ 180 + k + 9 * v.toInt.toNat ∧ 180 + k + 9 * v.toInt.toNat < 252 := fun k hk => by omega
      have kb := ((hD.2.1.1 (180 + 9 * v.toInt.toNat)).2.2.2.2.2.2.2 (by omega) (by omega)).1 (by omega)
      have cb := ((hD.2.1.1 (181 + 9 * v.toInt.toNat)).2.2.2.2.2.2.2 (by omega) (by omega)).2.1 (by omega)
      have g0 : M.1 (9, 0, v.toInt.toNat) 0 = D.1 (50, 0, 0) (180 + 9 * v.toInt.toNat) := (hR.1.2.2.1.2 v.toInt.toNat (by omega)).1 0 (by omega)
      have g1 : M.1 (9, 0, v.toInt.toNat) 1 = D.1 (50, 0, 0) (181 + 9 * v.toInt.toNat) := by rw [(hR.1.2.2.1.2 v.toInt.toNat (by omega)).1 1 (by omega), show 180 + 9 * v.toInt.toNat + 1 = 181 + 9 * v.toInt.toNat by omega]
      rw [g1] at c_e37_
      obtain rfl := c_e37_
      have E1 := x10echo c_hs42_ ⟨hv.1, by omega, by omega⟩ (by rw [g0]; exact kb) cb c_h24_
      rw [g0] at E1
      obtain rfl : d_j34_ = 181 + 9 * v.toInt.toNat := by omega
      obtain rfl := d_e33_
      have E2 := x12echo d_hs46_ hR.1.2.2.2.2.1 cb d_h16_ d_h40_ (by omega)
      rw [hu, x12reach d_hs41_ (by omega)] at E2
      have rb := reachI_b (D.1 (50, 0, 0) (180 + 9 * v.toInt.toNat)).toInt
      have E3 := fr_own hR.1.2.2.2.2.1 hD.2.1 hv rfl cb d_h16_ rb.2 E2
      have ee : c_r38_ = d_r42_ := i32e (EchoP_uniq E1 E3)
      subst ee
      have CF := x10fact c_hs51_ hR.1 hD.2.1 hv c_h24_ c_h30_ E1 c_h43_
      obtain ⟨st, s1, CF⟩ := CF
      have yb : 1 ≤ c_r38_.toInt ∧ c_r38_.toInt ≤ 12 ∧ 0 ≤ onI (D.1 (50, 0, 0) (181 + 9 * v.toInt.toNat)).toInt t.toInt c_r38_.toInt ∧ ¬ FrM (occ 0 M.1) (-1) (onI (D.1 (50, 0, 0) (181 + 9 * v.toInt.toNat)).toInt t.toInt c_r38_.toInt) := by
        rcases E2 with E2 | E2
        · exact ⟨E2.1, by omega, E2.2.2.2⟩
        · exact absurd E2.1 c_h43_
      have e48 := on_spec d_h51_.1 cb d_h16_ (by omega)
      have kk := x12kindIn d_hs57_ hR.1.2.2.2.2.1 (by omega) (by omega) (by rw [hu, e48]; exact yb.2.2.2) hD
      have kb2 := kindS_b (n := D.1 (50, 0, 0)) (o := occ 0 M.1) (x := d_r48_.toInt) hD.2.1
      have hX : ∀ w, w < 3 → ∀ i : Nat, (i : Int) < (D.1 (50, 0, 0) (345 + 50 * w)).toInt → cOK (nnU w) (D.1 (50, 0, 0) (346 + 50 * w + i)) := fun w hw i hi => ((hR.1.2.2.2.1 w hw).2 i hi).2
      have sD := x12strength d_hs69_ hD (fun i hi => hX 0 (by omega) i hi) (by omega)
      have HU := hund (u := u) (by omega)
      rw [show d_z58_ = u / (100 : Int32) from i32e (by omega), show d_z60_ = u - u / (100 : Int32) * (100 : Int32) from i32e (by omega), kk, e48, ← s1] at sD
      have sE : d_r62_ = st := i32e sD
      have ER := earS d_hs92_ d_h16_ d_h81_ (by first | decide | simp | (dsimp only; omega))
      rw [sE] at ER
      have e50 : d_M63_.1 (50, 0, 0) = D.1 (50, 0, 0) := funext fun k => d_hF67_ _ _ (by simp [S_c_X12_strength])
      rw [e50, show d_j79_ = 182 + 9 * v.toInt.toNat by omega] at d_e78_
      have yf := eT d_e78_
      have i5 : (1 : Int32).toInt = 1 := by decide
      rw [i5] at ER
      rcases CF with CF | CF | CF | CF | CF | CF
      · omega
      · omega
      · omega
      · rcases CF.2 with C | C <;> rcases ER with G | G
        · rw [c_hr_, C.2, d_hr_, G.2]
        · omega
        · omega
        · rw [c_hr_, C.2.2, d_hr_, G.2]
      · omega
      · omega
    · obtain rfl : d_j34_ = 181 + 9 * v.toInt.toNat := by omega
      obtain rfl : d_j79_ = 182 + 9 * v.toInt.toNat := by omega
      have qd_hs5_ := is2x d_hs5_
      have qd_hs11_ := x12clk d_hs11_
      have yd_e33_ := eT d_e33_
      have yd_e78_ := eT d_e78_
      have yrd_ := eT d_hr_
      have hv : 0 ≤ v.toInt ∧ v.toInt < nWa (D.1 (50, 0, 0)) := by unfold nWa; omega
      have PB : ∀ k, k < 3 → 180 ≤ 180 + k + 9 * v.toInt.toNat ∧ 180 + k + 9 * v.toInt.toNat < 252 := fun k hk => by omega
      have kb := ((hD.2.1.1 (180 + 9 * v.toInt.toNat)).2.2.2.2.2.2.2 (by omega) (by omega)).1 (by omega)
      have cb := ((hD.2.1.1 (181 + 9 * v.toInt.toNat)).2.2.2.2.2.2.2 (by omega) (by omega)).2.1 (by omega)
      have g0 : M.1 (9, 0, v.toInt.toNat) 0 = D.1 (50, 0, 0) (180 + 9 * v.toInt.toNat) := (hR.1.2.2.1.2 v.toInt.toNat (by omega)).1 0 (by omega)
      have g1 : M.1 (9, 0, v.toInt.toNat) 1 = D.1 (50, 0, 0) (181 + 9 * v.toInt.toNat) := by rw [(hR.1.2.2.1.2 v.toInt.toNat (by omega)).1 1 (by omega), show 180 + 9 * v.toInt.toNat + 1 = 181 + 9 * v.toInt.toNat by omega]
      rw [g1] at c_e37_
      obtain rfl := c_e37_
      have E1 := x10echo c_hs42_ ⟨hv.1, by omega, by omega⟩ (by rw [g0]; exact kb) cb c_h24_
      rw [g0] at E1
      obtain rfl : d_j34_ = 181 + 9 * v.toInt.toNat := by omega
      obtain rfl := d_e33_
      have E2 := x12echo d_hs46_ hR.1.2.2.2.2.1 cb d_h16_ d_h40_ (by omega)
      rw [hu, x12reach d_hs41_ (by omega)] at E2
      have rb := reachI_b (D.1 (50, 0, 0) (180 + 9 * v.toInt.toNat)).toInt
      have E3 := fr_own hR.1.2.2.2.2.1 hD.2.1 hv rfl cb d_h16_ rb.2 E2
      have ee : c_r38_ = d_r42_ := i32e (EchoP_uniq E1 E3)
      subst ee
      have CF := x10fact c_hs51_ hR.1 hD.2.1 hv c_h24_ c_h30_ E1 c_h43_
      obtain ⟨st, s1, CF⟩ := CF
      have yb : 1 ≤ c_r38_.toInt ∧ c_r38_.toInt ≤ 12 ∧ 0 ≤ onI (D.1 (50, 0, 0) (181 + 9 * v.toInt.toNat)).toInt t.toInt c_r38_.toInt ∧ ¬ FrM (occ 0 M.1) (-1) (onI (D.1 (50, 0, 0) (181 + 9 * v.toInt.toNat)).toInt t.toInt c_r38_.toInt) := by
        rcases E2 with E2 | E2
        · exact ⟨E2.1, by omega, E2.2.2.2⟩
        · exact absurd E2.1 c_h43_
      have e48 := on_spec d_h51_.1 cb d_h16_ (by omega)
      have kk := x12kindIn d_hs57_ hR.1.2.2.2.2.1 (by omega) (by omega) (by rw [hu, e48]; exact yb.2.2.2) hD
      have kb2 := kindS_b (n := D.1 (50, 0, 0)) (o := occ 0 M.1) (x := d_r48_.toInt) hD.2.1
      have hX : ∀ w, w < 3 → ∀ i : Nat, (i : Int) < (D.1 (50, 0, 0) (345 + 50 * w)).toInt → cOK (nnU w) (D.1 (50, 0, 0) (346 + 50 * w + i)) := fun w hw i hi => ((hR.1.2.2.2.1 w hw).2 i hi).2
      have sD := x12strength d_hs69_ hD (fun i hi => hX 0 (by omega) i hi) (by omega)
      have HU := hund (u := u) (by omega)
      rw [show d_z58_ = u / (100 : Int32) from i32e (by omega), show d_z60_ = u - u / (100 : Int32) * (100 : Int32) from i32e (by omega), kk, e48, ← s1] at sD
      have sE : d_r62_ = st := i32e sD
      have ER := earS d_hs97_ d_h16_ d_h81_ (by first | decide | simp | (dsimp only; omega))
      rw [sE] at ER
      have e50 : d_M63_.1 (50, 0, 0) = D.1 (50, 0, 0) := funext fun k => d_hF67_ _ _ (by simp [S_c_X12_strength])
      rw [e50, show d_j79_ = 182 + 9 * v.toInt.toNat by omega] at d_e78_
      have yf := eT d_e78_
      have i5 : (5 : Int32).toInt = 5 := by decide
      rw [i5] at ER
      rcases CF with CF | CF | CF | CF | CF | CF
      · omega
      · omega
      · omega
      · omega
      · rcases CF.2 with C | C <;> rcases ER with G | G
        · rw [c_hr_, C.2, d_hr_, G.2]
        · omega
        · omega
        · rw [c_hr_, C.2, d_hr_, G.2]
      · omega
    · obtain rfl : d_j34_ = 181 + 9 * v.toInt.toNat := by omega
      obtain rfl : d_j79_ = 182 + 9 * v.toInt.toNat := by omega
      have qd_hs5_ := is2x d_hs5_
      have qd_hs11_ := x12clk d_hs11_
      have yd_e33_ := eT d_e33_
      have yd_e78_ := eT d_e78_
      have yrd_ := eT d_hr_
      have hv : 0 ≤ v.toInt ∧ v.toInt < nWa (D.1 (50, 0, 0)) := by unfold nWa; omega
      have PB : ∀ k, k < 3 → 180 ≤ 180 + k + 9 * v.toInt.toNat ∧ 180 + k + 9 * v.toInt.toNat < 252 := fun k hk => by omega
      have kb := ((hD.2.1.1 (180 + 9 * v.toInt.toNat)).2.2.2.2.2.2.2 (by omega) (by omega)).1 (by omega)
      have cb := ((hD.2.1.1 (181 + 9 * v.toInt.toNat)).2.2.2.2.2.2.2 (by omega) (by omega)).2.1 (by omega)
      have g0 : M.1 (9, 0, v.toInt.toNat) 0 = D.1 (50, 0, 0) (180 + 9 * v.toInt.toNat) := (hR.1.2.2.1.2 v.toInt.toNat (by omega)).1 0 (by omega)
      have g1 : M.1 (9, 0, v.toInt.toNat) 1 = D.1 (50, 0, 0) (181 + 9 * v.toInt.toNat) := by rw [(hR.1.2.2.1.2 v.toInt.toNat (by omega)).1 1 (by omega), show 180 + 9 * v.toInt.toNat + 1 = 181 + 9 * v.toInt.toNat by omega]
      rw [g1] at c_e37_
      obtain rfl := c_e37_
      have E1 := x10echo c_hs42_ ⟨hv.1, by omega, by omega⟩ (by rw [g0]; exact kb) cb c_h24_
      rw [g0] at E1
      obtain rfl : d_j34_ = 181 + 9 * v.toInt.toNat := by omega
      obtain rfl := d_e33_
      have E2 := x12echo d_hs46_ hR.1.2.2.2.2.1 cb d_h16_ d_h40_ (by omega)
      rw [hu, x12reach d_hs41_ (by omega)] at E2
      have rb := reachI_b (D.1 (50, 0, 0) (180 + 9 * v.toInt.toNat)).toInt
      have E3 := fr_own hR.1.2.2.2.2.1 hD.2.1 hv rfl cb d_h16_ rb.2 E2
      have ee : c_r38_ = d_r42_ := i32e (EchoP_uniq E1 E3)
      subst ee
      have CF := x10fact c_hs51_ hR.1 hD.2.1 hv c_h24_ c_h30_ E1 c_h43_
      obtain ⟨st, s1, CF⟩ := CF
      have yb : 1 ≤ c_r38_.toInt ∧ c_r38_.toInt ≤ 12 ∧ 0 ≤ onI (D.1 (50, 0, 0) (181 + 9 * v.toInt.toNat)).toInt t.toInt c_r38_.toInt ∧ ¬ FrM (occ 0 M.1) (-1) (onI (D.1 (50, 0, 0) (181 + 9 * v.toInt.toNat)).toInt t.toInt c_r38_.toInt) := by
        rcases E2 with E2 | E2
        · exact ⟨E2.1, by omega, E2.2.2.2⟩
        · exact absurd E2.1 c_h43_
      have e48 := on_spec d_h51_.1 cb d_h16_ (by omega)
      have kk := x12kindIn d_hs57_ hR.1.2.2.2.2.1 (by omega) (by omega) (by rw [hu, e48]; exact yb.2.2.2) hD
      have kb2 := kindS_b (n := D.1 (50, 0, 0)) (o := occ 0 M.1) (x := d_r48_.toInt) hD.2.1
      have hX : ∀ w, w < 3 → ∀ i : Nat, (i : Int) < (D.1 (50, 0, 0) (345 + 50 * w)).toInt → cOK (nnU w) (D.1 (50, 0, 0) (346 + 50 * w + i)) := fun w hw i hi => ((hR.1.2.2.2.1 w hw).2 i hi).2
      have sD := x12strength d_hs69_ hD (fun i hi => hX 0 (by omega) i hi) (by omega)
      have HU := hund (u := u) (by omega)
      rw [show d_z58_ = u / (100 : Int32) from i32e (by omega), show d_z60_ = u - u / (100 : Int32) * (100 : Int32) from i32e (by omega), kk, e48, ← s1] at sD
      have sE : d_r62_ = st := i32e sD
      have e50 : d_M63_.1 (50, 0, 0) = D.1 (50, 0, 0) := funext fun k => d_hF67_ _ _ (by simp [S_c_X12_strength])
      have hh := x12isHeard d_hs114_ d_hI66_ (by rw [e50]; exact hX) (by omega) d_h16_ (by omega)
      rw [e50, x12ears d_hs102_ (by omega), e50, show d_z103_ = u / (100 : Int32) from i32e (by omega), show d_z105_ = u - u / (100 : Int32) * (100 : Int32) from i32e (by omega), kk, e48] at hh
      refine i32e ?_
      rw [c_hr_]
      rcases CF with CF | CF | CF | CF | CF | CF
      · omega
      · omega
      · omega
      · omega
      · omega
      · rcases CF.2 with C | C <;> rcases hh with G | G
        · omega
        · exact absurd C.2 G.2
        · exact absurd G.2 C.2
        · omega
    · obtain rfl : d_j34_ = 181 + 9 * v.toInt.toNat := by omega
      obtain rfl : d_j79_ = 182 + 9 * v.toInt.toNat := by omega
      have qd_hs5_ := is2x d_hs5_
      have qd_hs11_ := x12clk d_hs11_
      have yd_e33_ := eT d_e33_
      have yd_e78_ := eT d_e78_
      have yrd_ := eT d_hr_
      have hv : 0 ≤ v.toInt ∧ v.toInt < nWa (D.1 (50, 0, 0)) := by unfold nWa; omega
      have PB : ∀ k, k < 3 → 180 ≤ 180 + k + 9 * v.toInt.toNat ∧ 180 + k + 9 * v.toInt.toNat < 252 := fun k hk => by omega
      have kb := ((hD.2.1.1 (180 + 9 * v.toInt.toNat)).2.2.2.2.2.2.2 (by omega) (by omega)).1 (by omega)
      have cb := ((hD.2.1.1 (181 + 9 * v.toInt.toNat)).2.2.2.2.2.2.2 (by omega) (by omega)).2.1 (by omega)
      have g0 : M.1 (9, 0, v.toInt.toNat) 0 = D.1 (50, 0, 0) (180 + 9 * v.toInt.toNat) := (hR.1.2.2.1.2 v.toInt.toNat (by omega)).1 0 (by omega)
      have g1 : M.1 (9, 0, v.toInt.toNat) 1 = D.1 (50, 0, 0) (181 + 9 * v.toInt.toNat) := by rw [(hR.1.2.2.1.2 v.toInt.toNat (by omega)).1 1 (by omega), show 180 + 9 * v.toInt.toNat + 1 = 181 + 9 * v.toInt.toNat by omega]
      rw [g1] at c_e37_
      obtain rfl := c_e37_
      have E1 := x10echo c_hs42_ ⟨hv.1, by omega, by omega⟩ (by rw [g0]; exact kb) cb c_h24_
      rw [g0] at E1
      obtain rfl : d_j34_ = 181 + 9 * v.toInt.toNat := by omega
      obtain rfl := d_e33_
      have E2 := x12echo d_hs46_ hR.1.2.2.2.2.1 cb d_h16_ d_h40_ (by omega)
      rw [hu, x12reach d_hs41_ (by omega)] at E2
      have rb := reachI_b (D.1 (50, 0, 0) (180 + 9 * v.toInt.toNat)).toInt
      have E3 := fr_own hR.1.2.2.2.2.1 hD.2.1 hv rfl cb d_h16_ rb.2 E2
      have ee : c_r38_ = d_r42_ := i32e (EchoP_uniq E1 E3)
      subst ee
      have CF := x10fact c_hs51_ hR.1 hD.2.1 hv c_h24_ c_h30_ E1 c_h43_
      obtain ⟨st, s1, CF⟩ := CF
      have yb : 1 ≤ c_r38_.toInt ∧ c_r38_.toInt ≤ 12 ∧ 0 ≤ onI (D.1 (50, 0, 0) (181 + 9 * v.toInt.toNat)).toInt t.toInt c_r38_.toInt ∧ ¬ FrM (occ 0 M.1) (-1) (onI (D.1 (50, 0, 0) (181 + 9 * v.toInt.toNat)).toInt t.toInt c_r38_.toInt) := by
        rcases E2 with E2 | E2
        · exact ⟨E2.1, by omega, E2.2.2.2⟩
        · exact absurd E2.1 c_h43_
      have e48 := on_spec d_h51_.1 cb d_h16_ (by omega)
      have kk := x12kindIn d_hs57_ hR.1.2.2.2.2.1 (by omega) (by omega) (by rw [hu, e48]; exact yb.2.2.2) hD
      have kb2 := kindS_b (n := D.1 (50, 0, 0)) (o := occ 0 M.1) (x := d_r48_.toInt) hD.2.1
      have hX : ∀ w, w < 3 → ∀ i : Nat, (i : Int) < (D.1 (50, 0, 0) (345 + 50 * w)).toInt → cOK (nnU w) (D.1 (50, 0, 0) (346 + 50 * w + i)) := fun w hw i hi => ((hR.1.2.2.2.1 w hw).2 i hi).2
      have sD := x12strength d_hs69_ hD (fun i hi => hX 0 (by omega) i hi) (by omega)
      have HU := hund (u := u) (by omega)
      rw [show d_z58_ = u / (100 : Int32) from i32e (by omega), show d_z60_ = u - u / (100 : Int32) * (100 : Int32) from i32e (by omega), kk, e48, ← s1] at sD
      have sE : d_r62_ = st := i32e sD
      have e50 : d_M63_.1 (50, 0, 0) = D.1 (50, 0, 0) := funext fun k => d_hF67_ _ _ (by simp [S_c_X12_strength])
      have hh := x12isHeard d_hs114_ d_hI66_ (by rw [e50]; exact hX) (by omega) d_h16_ (by omega)
      rw [e50, x12ears d_hs102_ (by omega), e50, show d_z103_ = u / (100 : Int32) from i32e (by omega), show d_z105_ = u - u / (100 : Int32) * (100 : Int32) from i32e (by omega), kk, e48] at hh
      refine i32e ?_
      rw [c_hr_]
      rcases CF with CF | CF | CF | CF | CF | CF
      · omega
      · omega
      · omega
      · omega
      · omega
      · rcases CF.2 with C | C <;> rcases hh with G | G
        · omega
        · exact absurd C.2 G.2
        · exact absurd G.2 C.2
        · omega
    · obtain rfl : d_j34_ = 181 + 9 * v.toInt.toNat := by omega
      have qd_hs5_ := is2x d_hs5_
      have qd_hs11_ := x12clk d_hs11_
      have yd_e33_ := eT d_e33_
      have yrd_ := eT d_hr_
      have hv : 0 ≤ v.toInt ∧ v.toInt < nWa (D.1 (50, 0, 0)) := by unfold nWa; omega
      have PB : ∀ k, k < 3 → 180 ≤ 180 + k + 9 * v.toInt.toNat ∧ 180 + k + 9 * v.toInt.toNat < 252 := fun k hk => by omega
      have kb := ((hD.2.1.1 (180 + 9 * v.toInt.toNat)).2.2.2.2.2.2.2 (by omega) (by omega)).1 (by omega)
      have cb := ((hD.2.1.1 (181 + 9 * v.toInt.toNat)).2.2.2.2.2.2.2 (by omega) (by omega)).2.1 (by omega)
      have g0 : M.1 (9, 0, v.toInt.toNat) 0 = D.1 (50, 0, 0) (180 + 9 * v.toInt.toNat) := (hR.1.2.2.1.2 v.toInt.toNat (by omega)).1 0 (by omega)
      have g1 : M.1 (9, 0, v.toInt.toNat) 1 = D.1 (50, 0, 0) (181 + 9 * v.toInt.toNat) := by rw [(hR.1.2.2.1.2 v.toInt.toNat (by omega)).1 1 (by omega), show 180 + 9 * v.toInt.toNat + 1 = 181 + 9 * v.toInt.toNat by omega]
      rw [g1] at c_e37_
      obtain rfl := c_e37_
      have E1 := x10echo c_hs42_ ⟨hv.1, by omega, by omega⟩ (by rw [g0]; exact kb) cb c_h24_
      rw [g0] at E1
      obtain rfl : d_j34_ = 181 + 9 * v.toInt.toNat := by omega
      obtain rfl := d_e33_
      have E2 := x12echo d_hs46_ hR.1.2.2.2.2.1 cb d_h16_ d_h40_ (by omega)
      rw [hu, x12reach d_hs41_ (by omega)] at E2
      have rb := reachI_b (D.1 (50, 0, 0) (180 + 9 * v.toInt.toNat)).toInt
      have E3 := fr_own hR.1.2.2.2.2.1 hD.2.1 hv rfl cb d_h16_ rb.2 E2
      have ee : c_r38_ = d_r42_ := i32e (EchoP_uniq E1 E3)
      exfalso
      have := eT ee
      omega
    · have qd_hs5_ := is2x d_hs5_
      have qd_hs11_ := x12clk d_hs11_
      have yrd_ := eT d_hr_
      exfalso; omega
    · have qd_hs5_ := is2x d_hs5_
      have qd_hs11_ := x12clk d_hs11_
      have yrd_ := eT d_hr_
      exfalso; omega
    · have qd_hs5_ := is2x d_hs5_
      have qd_hs11_ := x12clk d_hs11_
      have yrd_ := eT d_hr_
      exfalso; omega
    · have qd_hs5_ := is2x d_hs5_
      have yrd_ := eT d_hr_
      exfalso; omega
  · obtain rfl : c_j33_ = v.toInt.toNat := by omega
    have qc_hs5_ := x10has c_hs5_
    have qc_hs11_ := x2clk c_hs11_
    have yc_e37_ := eT c_e37_
    have qc_hs59_ := err2 c_hs59_
    have yrc_ := eT c_hr_
    unfold SP_X12_echo at h2
    rcases h2 with (⟨d_hs5_, d_h4_, (⟨d_hs11_, d_h10_, (⟨d_hs17_, d_h16_, (⟨d_hs23_, d_h22_, d_r25_, d_hs29_, d_h28_, d_z30_, d_h31_, d_j34_, d_h35_, d_z32_, d_e33_, d_h36_, d_r37_, d_hs41_, d_h40_, d_r42_, d_hs46_, d_h45_, (⟨d_h47_, d_r48_, d_hs52_, d_h51_, d_r53_, d_hs57_, d_h56_, d_z58_, d_h59_, d_z60_, d_h61_, d_M63_, d_hI66_, d_hF67_, d_r62_, d_hs69_, d_r70_, d_hs74_, d_h73_, d_z75_, d_h76_, d_j79_, d_h80_, d_z77_, d_e78_, d_h81_, (⟨d_e82_, d_hr_, d_hM_⟩ | ⟨d_e82_, d_r83_, d_hs87_, d_hr_, d_hM_⟩ | ⟨d_e82_, d_hr_, d_hM_⟩ | ⟨d_e82_, d_r88_, d_hs92_, d_hr_, d_hM_⟩ | ⟨d_e82_, d_r93_, d_hs97_, d_hr_, d_hM_⟩ | ⟨d_e82_, d_r98_, d_hs102_, d_h101_, d_z103_, d_h104_, d_z105_, d_h106_, d_M108_, -, d_hF112_, d_r107_, d_hs114_, d_h110_, (⟨d_h115_, d_hr_, d_hM_⟩ | ⟨d_h115_, d_hr_, d_hM_⟩)⟩)⟩ | ⟨d_h47_, d_M117_, -, d_hF121_, d_r116_, d_hs123_, d_h119_, d_hr_, d_hM_⟩)⟩ | ⟨d_hs23_, d_h22_, d_M126_, -, d_hF130_, d_r125_, d_hs132_, d_h128_, d_hr_, d_hM_⟩)⟩ | ⟨d_hs17_, d_h16_, d_M135_, -, d_hF139_, d_r134_, d_hs141_, d_h137_, d_hr_, d_hM_⟩)⟩ | ⟨d_hs11_, d_M144_, -, d_hF148_, d_r143_, d_hs150_, d_h146_, d_hr_, d_hM_⟩)⟩ | ⟨d_hs5_, d_M153_, -, d_hF157_, d_r152_, d_hs159_, d_h155_, d_hr_, d_hM_⟩)
    · obtain rfl : d_j34_ = 181 + 9 * v.toInt.toNat := by omega
      obtain rfl : d_j79_ = 182 + 9 * v.toInt.toNat := by omega
      have qd_hs5_ := is2x d_hs5_
      have qd_hs11_ := x12clk d_hs11_
      have yd_e33_ := eT d_e33_
      have yd_e78_ := eT d_e78_
      have yrd_ := eT d_hr_
      have hv : 0 ≤ v.toInt ∧ v.toInt < nWa (D.1 (50, 0, 0)) := by unfold nWa; omega
      have PB : ∀ k, k < 3 → 180 ≤ 180 + k + 9 * v.toInt.toNat ∧ 180 + k + 9 * v.toInt.toNat < 252 := fun k hk => by omega
      have kb := ((hD.2.1.1 (180 + 9 * v.toInt.toNat)).2.2.2.2.2.2.2 (by omega) (by omega)).1 (by omega)
      have cb := ((hD.2.1.1 (181 + 9 * v.toInt.toNat)).2.2.2.2.2.2.2 (by omega) (by omega)).2.1 (by omega)
      have g0 : M.1 (9, 0, v.toInt.toNat) 0 = D.1 (50, 0, 0) (180 + 9 * v.toInt.toNat) := (hR.1.2.2.1.2 v.toInt.toNat (by omega)).1 0 (by omega)
      have g1 : M.1 (9, 0, v.toInt.toNat) 1 = D.1 (50, 0, 0) (181 + 9 * v.toInt.toNat) := by rw [(hR.1.2.2.1.2 v.toInt.toNat (by omega)).1 1 (by omega), show 180 + 9 * v.toInt.toNat + 1 = 181 + 9 * v.toInt.toNat by omega]
      rw [g1] at c_e37_
      obtain rfl := c_e37_
      have E1 := x10echo c_hs42_ ⟨hv.1, by omega, by omega⟩ (by rw [g0]; exact kb) cb c_h24_
      rw [g0] at E1
      obtain rfl : d_j34_ = 181 + 9 * v.toInt.toNat := by omega
      obtain rfl := d_e33_
      have E2 := x12echo d_hs46_ hR.1.2.2.2.2.1 cb d_h16_ d_h40_ (by omega)
      rw [hu, x12reach d_hs41_ (by omega)] at E2
      have rb := reachI_b (D.1 (50, 0, 0) (180 + 9 * v.toInt.toNat)).toInt
      have E3 := fr_own hR.1.2.2.2.2.1 hD.2.1 hv rfl cb d_h16_ rb.2 E2
      have ee : c_r38_ = d_r42_ := i32e (EchoP_uniq E1 E3)
      exfalso
      have := eT ee
      omega
    · obtain rfl : d_j34_ = 181 + 9 * v.toInt.toNat := by omega
      obtain rfl : d_j79_ = 182 + 9 * v.toInt.toNat := by omega
      have qd_hs5_ := is2x d_hs5_
      have qd_hs11_ := x12clk d_hs11_
      have yd_e33_ := eT d_e33_
      have yd_e78_ := eT d_e78_
      have yrd_ := eT d_hr_
      have hv : 0 ≤ v.toInt ∧ v.toInt < nWa (D.1 (50, 0, 0)) := by unfold nWa; omega
      have PB : ∀ k, k < 3 → 180 ≤ 180 + k + 9 * v.toInt.toNat ∧ 180 + k + 9 * v.toInt.toNat < 252 := fun k hk => by omega
      have kb := ((hD.2.1.1 (180 + 9 * v.toInt.toNat)).2.2.2.2.2.2.2 (by omega) (by omega)).1 (by omega)
      have cb := ((hD.2.1.1 (181 + 9 * v.toInt.toNat)).2.2.2.2.2.2.2 (by omega) (by omega)).2.1 (by omega)
      have g0 : M.1 (9, 0, v.toInt.toNat) 0 = D.1 (50, 0, 0) (180 + 9 * v.toInt.toNat) := (hR.1.2.2.1.2 v.toInt.toNat (by omega)).1 0 (by omega)
      have g1 : M.1 (9, 0, v.toInt.toNat) 1 = D.1 (50, 0, 0) (181 + 9 * v.toInt.toNat) := by rw [(hR.1.2.2.1.2 v.toInt.toNat (by omega)).1 1 (by omega), show 180 + 9 * v.toInt.toNat + 1 = 181 + 9 * v.toInt.toNat by omega]
      rw [g1] at c_e37_
      obtain rfl := c_e37_
      have E1 := x10echo c_hs42_ ⟨hv.1, by omega, by omega⟩ (by rw [g0]; exact kb) cb c_h24_
      rw [g0] at E1
      obtain rfl : d_j34_ = 181 + 9 * v.toInt.toNat := by omega
      obtain rfl := d_e33_
      have E2 := x12echo d_hs46_ hR.1.2.2.2.2.1 cb d_h16_ d_h40_ (by omega)
      rw [hu, x12reach d_hs41_ (by omega)] at E2
      have rb := reachI_b (D.1 (50, 0, 0) (180 + 9 * v.toInt.toNat)).toInt
      have E3 := fr_own hR.1.2.2.2.2.1 hD.2.1 hv rfl cb d_h16_ rb.2 E2
      have ee : c_r38_ = d_r42_ := i32e (EchoP_uniq E1 E3)
      exfalso
      have := eT ee
      omega
    · obtain rfl : d_j34_ = 181 + 9 * v.toInt.toNat := by omega
      obtain rfl : d_j79_ = 182 + 9 * v.toInt.toNat := by omega
      have qd_hs5_ := is2x d_hs5_
      have qd_hs11_ := x12clk d_hs11_
      have yd_e33_ := eT d_e33_
      have yd_e78_ := eT d_e78_
      have yrd_ := eT d_hr_
      have hv : 0 ≤ v.toInt ∧ v.toInt < nWa (D.1 (50, 0, 0)) := by unfold nWa; omega
      have PB : ∀ k, k < 3 → 180 ≤ 180 + k + 9 * v.toInt.toNat ∧ 180 + k + 9 * v.toInt.toNat < 252 := fun k hk => by omega
      have kb := ((hD.2.1.1 (180 + 9 * v.toInt.toNat)).2.2.2.2.2.2.2 (by omega) (by omega)).1 (by omega)
      have cb := ((hD.2.1.1 (181 + 9 * v.toInt.toNat)).2.2.2.2.2.2.2 (by omega) (by omega)).2.1 (by omega)
      have g0 : M.1 (9, 0, v.toInt.toNat) 0 = D.1 (50, 0, 0) (180 + 9 * v.toInt.toNat) := (hR.1.2.2.1.2 v.toInt.toNat (by omega)).1 0 (by omega)
      have g1 : M.1 (9, 0, v.toInt.toNat) 1 = D.1 (50, 0, 0) (181 + 9 * v.toInt.toNat) := by rw [(hR.1.2.2.1.2 v.toInt.toNat (by omega)).1 1 (by omega), show 180 + 9 * v.toInt.toNat + 1 = 181 + 9 * v.toInt.toNat by omega]
      rw [g1] at c_e37_
      obtain rfl := c_e37_
      have E1 := x10echo c_hs42_ ⟨hv.1, by omega, by omega⟩ (by rw [g0]; exact kb) cb c_h24_
      rw [g0] at E1
      obtain rfl : d_j34_ = 181 + 9 * v.toInt.toNat := by omega
      obtain rfl := d_e33_
      have E2 := x12echo d_hs46_ hR.1.2.2.2.2.1 cb d_h16_ d_h40_ (by omega)
      rw [hu, x12reach d_hs41_ (by omega)] at E2
      have rb := reachI_b (D.1 (50, 0, 0) (180 + 9 * v.toInt.toNat)).toInt
      have E3 := fr_own hR.1.2.2.2.2.1 hD.2.1 hv rfl cb d_h16_ rb.2 E2
      have ee : c_r38_ = d_r42_ := i32e (EchoP_uniq E1 E3)
      exfalso
      have := eT ee
      omega
    · obtain rfl : d_j34_ = 181 + 9 * v.toInt.toNat := by omega
      obtain rfl : d_j79_ = 182 + 9 * v.toInt.toNat := by omega
      have qd_hs5_ := is2x d_hs5_
      have qd_hs11_ := x12clk d_hs11_
      have yd_e33_ := eT d_e33_
      have yd_e78_ := eT d_e78_
      have yrd_ := eT d_hr_
      have hv : 0 ≤ v.toInt ∧ v.toInt < nWa (D.1 (50, 0, 0)) := by unfold nWa; omega
      have PB : ∀ k, k < 3 → 180 ≤ 180 + k + 9 * v.toInt.toNat ∧ 180 + k + 9 * v.toInt.toNat < 252 := fun k hk => by omega
      have kb := ((hD.2.1.1 (180 + 9 * v.toInt.toNat)).2.2.2.2.2.2.2 (by omega) (by omega)).1 (by omega)
      have cb := ((hD.2.1.1 (181 + 9 * v.toInt.toNat)).2.2.2.2.2.2.2 (by omega) (by omega)).2.1 (by omega)
      have g0 : M.1 (9, 0, v.toInt.toNat) 0 = D.1 (50, 0, 0) (180 + 9 * v.toInt.toNat) := (hR.1.2.2.1.2 v.toInt.toNat (by omega)).1 0 (by omega)
      have g1 : M.1 (9, 0, v.toInt.toNat) 1 = D.1 (50, 0, 0) (181 + 9 * v.toInt.toNat) := by rw [(hR.1.2.2.1.2 v.toInt.toNat (by omega)).1 1 (by omega), show 180 + 9 * v.toInt.toNat + 1 = 181 + 9 * v.toInt.toNat by omega]
      rw [g1] at c_e37_
      obtain rfl := c_e37_
      have E1 := x10echo c_hs42_ ⟨hv.1, by omega, by omega⟩ (by rw [g0]; exact kb) cb c_h24_
      rw [g0] at E1
      obtain rfl : d_j34_ = 181 + 9 * v.toInt.toNat := by omega
      obtain rfl := d_e33_
      have E2 := x12echo d_hs46_ hR.1.2.2.2.2.1 cb d_h16_ d_h40_ (by omega)
      rw [hu, x12reach d_hs41_ (by omega)] at E2
      have rb := reachI_b (D.1 (50, 0, 0) (180 + 9 * v.toInt.toNat)).toInt
      have E3 := fr_own hR.1.2.2.2.2.1 hD.2.1 hv rfl cb d_h16_ rb.2 E2
      have ee : c_r38_ = d_r42_ := i32e (EchoP_uniq E1 E3)
      exfalso
      have := eT ee
      omega
    · obtain rfl : d_j34_ = 181 + 9 * v.toInt.toNat := by omega
      obtain rfl : d_j79_ = 182 + 9 * v.toInt.toNat := by omega
      have qd_hs5_ := is2x d_hs5_
      have qd_hs11_ := x12clk d_hs11_
      have yd_e33_ := eT d_e33_
      have yd_e78_ := eT d_e78_
      have yrd_ := eT d_hr_
      have hv : 0 ≤ v.toInt ∧ v.toInt < nWa (D.1 (50, 0, 0)) := by unfold nWa; omega
      have PB : ∀ k, k < 3 → 180 ≤ 180 + k + 9 * v.toInt.toNat ∧ 180 + k + 9 * v.toInt.toNat < 252 := fun k hk => by omega
      have kb := ((hD.2.1.1 (180 + 9 * v.toInt.toNat)).2.2.2.2.2.2.2 (by omega) (by omega)).1 (by omega)
      have cb := ((hD.2.1.1 (181 + 9 * v.toInt.toNat)).2.2.2.2.2.2.2 (by omega) (by omega)).2.1 (by omega)
      have g0 : M.1 (9, 0, v.toInt.toNat) 0 = D.1 (50, 0, 0) (180 + 9 * v.toInt.toNat) := (hR.1.2.2.1.2 v.toInt.toNat (by omega)).1 0 (by omega)
      have g1 : M.1 (9, 0, v.toInt.toNat) 1 = D.1 (50, 0, 0) (181 + 9 * v.toInt.toNat) := by rw [(hR.1.2.2.1.2 v.toInt.toNat (by omega)).1 1 (by omega), show 180 + 9 * v.toInt.toNat + 1 = 181 + 9 * v.toInt.toNat by omega]
      rw [g1] at c_e37_
      obtain rfl := c_e37_
      have E1 := x10echo c_hs42_ ⟨hv.1, by omega, by omega⟩ (by rw [g0]; exact kb) cb c_h24_
      rw [g0] at E1
      obtain rfl : d_j34_ = 181 + 9 * v.toInt.toNat := by omega
      obtain rfl := d_e33_
      have E2 := x12echo d_hs46_ hR.1.2.2.2.2.1 cb d_h16_ d_h40_ (by omega)
      rw [hu, x12reach d_hs41_ (by omega)] at E2
      have rb := reachI_b (D.1 (50, 0, 0) (180 + 9 * v.toInt.toNat)).toInt
      have E3 := fr_own hR.1.2.2.2.2.1 hD.2.1 hv rfl cb d_h16_ rb.2 E2
      have ee : c_r38_ = d_r42_ := i32e (EchoP_uniq E1 E3)
      exfalso
      have := eT ee
      omega
    · obtain rfl : d_j34_ = 181 + 9 * v.toInt.toNat := by omega
      obtain rfl : d_j79_ = 182 + 9 * v.toInt.toNat := by omega
      have qd_hs5_ := is2x d_hs5_
      have qd_hs11_ := x12clk d_hs11_
      have yd_e33_ := eT d_e33_
      have yd_e78_ := eT d_e78_
      have yrd_ := eT d_hr_
      have hv : 0 ≤ v.toInt ∧ v.toInt < nWa (D.1 (50, 0, 0)) := by unfold nWa; omega
      have PB : ∀ k, k < 3 → 180 ≤ 180 + k + 9 * v.toInt.toNat ∧ 180 + k + 9 * v.toInt.toNat < 252 := fun k hk => by omega
      have kb := ((hD.2.1.1 (180 + 9 * v.toInt.toNat)).2.2.2.2.2.2.2 (by omega) (by omega)).1 (by omega)
      have cb := ((hD.2.1.1 (181 + 9 * v.toInt.toNat)).2.2.2.2.2.2.2 (by omega) (by omega)).2.1 (by omega)
      have g0 : M.1 (9, 0, v.toInt.toNat) 0 = D.1 (50, 0, 0) (180 + 9 * v.toInt.toNat) := (hR.1.2.2.1.2 v.toInt.toNat (by omega)).1 0 (by omega)
      have g1 : M.1 (9, 0, v.toInt.toNat) 1 = D.1 (50, 0, 0) (181 + 9 * v.toInt.toNat) := by rw [(hR.1.2.2.1.2 v.toInt.toNat (by omega)).1 1 (by omega), show 180 + 9 * v.toInt.toNat + 1 = 181 + 9 * v.toInt.toNat by omega]
      rw [g1] at c_e37_
      obtain rfl := c_e37_
      have E1 := x10echo c_hs42_ ⟨hv.1, by omega, by omega⟩ (by rw [g0]; exact kb) cb c_h24_
      rw [g0] at E1
      obtain rfl : d_j34_ = 181 + 9 * v.toInt.toNat := by omega
      obtain rfl := d_e33_
      have E2 := x12echo d_hs46_ hR.1.2.2.2.2.1 cb d_h16_ d_h40_ (by omega)
      rw [hu, x12reach d_hs41_ (by omega)] at E2
      have rb := reachI_b (D.1 (50, 0, 0) (180 + 9 * v.toInt.toNat)).toInt
      have E3 := fr_own hR.1.2.2.2.2.1 hD.2.1 hv rfl cb d_h16_ rb.2 E2
      have ee : c_r38_ = d_r42_ := i32e (EchoP_uniq E1 E3)
      exfalso
      have := eT ee
      omega
    · obtain rfl : d_j34_ = 181 + 9 * v.toInt.toNat := by omega
      obtain rfl : d_j79_ = 182 + 9 * v.toInt.toNat := by omega
      have qd_hs5_ := is2x d_hs5_
      have qd_hs11_ := x12clk d_hs11_
      have yd_e33_ := eT d_e33_
      have yd_e78_ := eT d_e78_
      have yrd_ := eT d_hr_
      have hv : 0 ≤ v.toInt ∧ v.toInt < nWa (D.1 (50, 0, 0)) := by unfold nWa; omega
      have PB : ∀ k, k < 3 → 180 ≤ 180 + k + 9 * v.toInt.toNat ∧ 180 + k + 9 * v.toInt.toNat < 252 := fun k hk => by omega
      have kb := ((hD.2.1.1 (180 + 9 * v.toInt.toNat)).2.2.2.2.2.2.2 (by omega) (by omega)).1 (by omega)
      have cb := ((hD.2.1.1 (181 + 9 * v.toInt.toNat)).2.2.2.2.2.2.2 (by omega) (by omega)).2.1 (by omega)
      have g0 : M.1 (9, 0, v.toInt.toNat) 0 = D.1 (50, 0, 0) (180 + 9 * v.toInt.toNat) := (hR.1.2.2.1.2 v.toInt.toNat (by omega)).1 0 (by omega)
      have g1 : M.1 (9, 0, v.toInt.toNat) 1 = D.1 (50, 0, 0) (181 + 9 * v.toInt.toNat) := by rw [(hR.1.2.2.1.2 v.toInt.toNat (by omega)).1 1 (by omega), show 180 + 9 * v.toInt.toNat + 1 = 181 + 9 * v.toInt.toNat by omega]
      rw [g1] at c_e37_
      obtain rfl := c_e37_
      have E1 := x10echo c_hs42_ ⟨hv.1, by omega, by omega⟩ (by rw [g0]; exact kb) cb c_h24_
      rw [g0] at E1
      obtain rfl : d_j34_ = 181 + 9 * v.toInt.toNat := by omega
      obtain rfl := d_e33_
      have E2 := x12echo d_hs46_ hR.1.2.2.2.2.1 cb d_h16_ d_h40_ (by omega)
      rw [hu, x12reach d_hs41_ (by omega)] at E2
      have rb := reachI_b (D.1 (50, 0, 0) (180 + 9 * v.toInt.toNat)).toInt
      have E3 := fr_own hR.1.2.2.2.2.1 hD.2.1 hv rfl cb d_h16_ rb.2 E2
      have ee : c_r38_ = d_r42_ := i32e (EchoP_uniq E1 E3)
      exfalso
      have := eT ee
      omega
    · obtain rfl : d_j34_ = 181 + 9 * v.toInt.toNat := by omega
      have qd_hs5_ := is2x d_hs5_
      have qd_hs11_ := x12clk d_hs11_
      have yd_e33_ := eT d_e33_
      have yrd_ := eT d_hr_
      exact i32e (by omega)
    · have qd_hs5_ := is2x d_hs5_
      have qd_hs11_ := x12clk d_hs11_
      have yrd_ := eT d_hr_
      exfalso; omega
    · have qd_hs5_ := is2x d_hs5_
      have qd_hs11_ := x12clk d_hs11_
      have yrd_ := eT d_hr_
      exfalso; omega
    · have qd_hs5_ := is2x d_hs5_
      have qd_hs11_ := x12clk d_hs11_
      have yrd_ := eT d_hr_
      exfalso; omega
    · have qd_hs5_ := is2x d_hs5_
      have yrd_ := eT d_hr_
      exfalso; omega
  · have qc_hs5_ := x10has c_hs5_
    have qc_hs11_ := x2clk c_hs11_
    have qc_hs68_ := err1 c_hs68_
    have yrc_ := eT c_hr_
    unfold SP_X12_echo at h2
    rcases h2 with (⟨d_hs5_, d_h4_, (⟨d_hs11_, d_h10_, (⟨d_hs17_, d_h16_, (⟨d_hs23_, d_h22_, d_r25_, d_hs29_, d_h28_, d_z30_, d_h31_, d_j34_, d_h35_, d_z32_, d_e33_, d_h36_, d_r37_, d_hs41_, d_h40_, d_r42_, d_hs46_, d_h45_, (⟨d_h47_, d_r48_, d_hs52_, d_h51_, d_r53_, d_hs57_, d_h56_, d_z58_, d_h59_, d_z60_, d_h61_, d_M63_, d_hI66_, d_hF67_, d_r62_, d_hs69_, d_r70_, d_hs74_, d_h73_, d_z75_, d_h76_, d_j79_, d_h80_, d_z77_, d_e78_, d_h81_, (⟨d_e82_, d_hr_, d_hM_⟩ | ⟨d_e82_, d_r83_, d_hs87_, d_hr_, d_hM_⟩ | ⟨d_e82_, d_hr_, d_hM_⟩ | ⟨d_e82_, d_r88_, d_hs92_, d_hr_, d_hM_⟩ | ⟨d_e82_, d_r93_, d_hs97_, d_hr_, d_hM_⟩ | ⟨d_e82_, d_r98_, d_hs102_, d_h101_, d_z103_, d_h104_, d_z105_, d_h106_, d_M108_, -, d_hF112_, d_r107_, d_hs114_, d_h110_, (⟨d_h115_, d_hr_, d_hM_⟩ | ⟨d_h115_, d_hr_, d_hM_⟩)⟩)⟩ | ⟨d_h47_, d_M117_, -, d_hF121_, d_r116_, d_hs123_, d_h119_, d_hr_, d_hM_⟩)⟩ | ⟨d_hs23_, d_h22_, d_M126_, -, d_hF130_, d_r125_, d_hs132_, d_h128_, d_hr_, d_hM_⟩)⟩ | ⟨d_hs17_, d_h16_, d_M135_, -, d_hF139_, d_r134_, d_hs141_, d_h137_, d_hr_, d_hM_⟩)⟩ | ⟨d_hs11_, d_M144_, -, d_hF148_, d_r143_, d_hs150_, d_h146_, d_hr_, d_hM_⟩)⟩ | ⟨d_hs5_, d_M153_, -, d_hF157_, d_r152_, d_hs159_, d_h155_, d_hr_, d_hM_⟩)
    · obtain rfl : d_j34_ = 181 + 9 * v.toInt.toNat := by omega
      obtain rfl : d_j79_ = 182 + 9 * v.toInt.toNat := by omega
      have qd_hs5_ := is2x d_hs5_
      have qd_hs11_ := x12clk d_hs11_
      have yd_e33_ := eT d_e33_
      have yd_e78_ := eT d_e78_
      have yrd_ := eT d_hr_
      exfalso; omega
    · obtain rfl : d_j34_ = 181 + 9 * v.toInt.toNat := by omega
      obtain rfl : d_j79_ = 182 + 9 * v.toInt.toNat := by omega
      have qd_hs5_ := is2x d_hs5_
      have qd_hs11_ := x12clk d_hs11_
      have yd_e33_ := eT d_e33_
      have yd_e78_ := eT d_e78_
      have yrd_ := eT d_hr_
      exfalso; omega
    · obtain rfl : d_j34_ = 181 + 9 * v.toInt.toNat := by omega
      obtain rfl : d_j79_ = 182 + 9 * v.toInt.toNat := by omega
      have qd_hs5_ := is2x d_hs5_
      have qd_hs11_ := x12clk d_hs11_
      have yd_e33_ := eT d_e33_
      have yd_e78_ := eT d_e78_
      have yrd_ := eT d_hr_
      exfalso; omega
    · obtain rfl : d_j34_ = 181 + 9 * v.toInt.toNat := by omega
      obtain rfl : d_j79_ = 182 + 9 * v.toInt.toNat := by omega
      have qd_hs5_ := is2x d_hs5_
      have qd_hs11_ := x12clk d_hs11_
      have yd_e33_ := eT d_e33_
      have yd_e78_ := eT d_e78_
      have yrd_ := eT d_hr_
      exfalso; omega
    · obtain rfl : d_j34_ = 181 + 9 * v.toInt.toNat := by omega
      obtain rfl : d_j79_ = 182 + 9 * v.toInt.toNat := by omega
      have qd_hs5_ := is2x d_hs5_
      have qd_hs11_ := x12clk d_hs11_
      have yd_e33_ := eT d_e33_
      have yd_e78_ := eT d_e78_
      have yrd_ := eT d_hr_
      exfalso; omega
    · obtain rfl : d_j34_ = 181 + 9 * v.toInt.toNat := by omega
      obtain rfl : d_j79_ = 182 + 9 * v.toInt.toNat := by omega
      have qd_hs5_ := is2x d_hs5_
      have qd_hs11_ := x12clk d_hs11_
      have yd_e33_ := eT d_e33_
      have yd_e78_ := eT d_e78_
      have yrd_ := eT d_hr_
      exfalso; omega
    · obtain rfl : d_j34_ = 181 + 9 * v.toInt.toNat := by omega
      obtain rfl : d_j79_ = 182 + 9 * v.toInt.toNat := by omega
      have qd_hs5_ := is2x d_hs5_
      have qd_hs11_ := x12clk d_hs11_
      have yd_e33_ := eT d_e33_
      have yd_e78_ := eT d_e78_
      have yrd_ := eT d_hr_
      exfalso; omega
    · obtain rfl : d_j34_ = 181 + 9 * v.toInt.toNat := by omega
      have qd_hs5_ := is2x d_hs5_
      have qd_hs11_ := x12clk d_hs11_
      have yd_e33_ := eT d_e33_
      have yrd_ := eT d_hr_
      exfalso; omega
    · have qd_hs5_ := is2x d_hs5_
      have qd_hs11_ := x12clk d_hs11_
      have yrd_ := eT d_hr_
      exact i32e (by omega)
    · have qd_hs5_ := is2x d_hs5_
      have qd_hs11_ := x12clk d_hs11_
      have yrd_ := eT d_hr_
      exact i32e (by omega)
    · have qd_hs5_ := is2x d_hs5_
      have qd_hs11_ := x12clk d_hs11_
      have yrd_ := eT d_hr_
      exact i32e (by omega)
    · have qd_hs5_ := is2x d_hs5_
      have yrd_ := eT d_hr_
      exact i32e (by omega)
  · have qc_hs5_ := x10has c_hs5_
    have qc_hs11_ := x2clk c_hs11_
    have qc_hs77_ := err1 c_hs77_
    have yrc_ := eT c_hr_
    unfold SP_X12_echo at h2
    rcases h2 with (⟨d_hs5_, d_h4_, (⟨d_hs11_, d_h10_, (⟨d_hs17_, d_h16_, (⟨d_hs23_, d_h22_, d_r25_, d_hs29_, d_h28_, d_z30_, d_h31_, d_j34_, d_h35_, d_z32_, d_e33_, d_h36_, d_r37_, d_hs41_, d_h40_, d_r42_, d_hs46_, d_h45_, (⟨d_h47_, d_r48_, d_hs52_, d_h51_, d_r53_, d_hs57_, d_h56_, d_z58_, d_h59_, d_z60_, d_h61_, d_M63_, d_hI66_, d_hF67_, d_r62_, d_hs69_, d_r70_, d_hs74_, d_h73_, d_z75_, d_h76_, d_j79_, d_h80_, d_z77_, d_e78_, d_h81_, (⟨d_e82_, d_hr_, d_hM_⟩ | ⟨d_e82_, d_r83_, d_hs87_, d_hr_, d_hM_⟩ | ⟨d_e82_, d_hr_, d_hM_⟩ | ⟨d_e82_, d_r88_, d_hs92_, d_hr_, d_hM_⟩ | ⟨d_e82_, d_r93_, d_hs97_, d_hr_, d_hM_⟩ | ⟨d_e82_, d_r98_, d_hs102_, d_h101_, d_z103_, d_h104_, d_z105_, d_h106_, d_M108_, -, d_hF112_, d_r107_, d_hs114_, d_h110_, (⟨d_h115_, d_hr_, d_hM_⟩ | ⟨d_h115_, d_hr_, d_hM_⟩)⟩)⟩ | ⟨d_h47_, d_M117_, -, d_hF121_, d_r116_, d_hs123_, d_h119_, d_hr_, d_hM_⟩)⟩ | ⟨d_hs23_, d_h22_, d_M126_, -, d_hF130_, d_r125_, d_hs132_, d_h128_, d_hr_, d_hM_⟩)⟩ | ⟨d_hs17_, d_h16_, d_M135_, -, d_hF139_, d_r134_, d_hs141_, d_h137_, d_hr_, d_hM_⟩)⟩ | ⟨d_hs11_, d_M144_, -, d_hF148_, d_r143_, d_hs150_, d_h146_, d_hr_, d_hM_⟩)⟩ | ⟨d_hs5_, d_M153_, -, d_hF157_, d_r152_, d_hs159_, d_h155_, d_hr_, d_hM_⟩)
    · obtain rfl : d_j34_ = 181 + 9 * v.toInt.toNat := by omega
      obtain rfl : d_j79_ = 182 + 9 * v.toInt.toNat := by omega
      have qd_hs5_ := is2x d_hs5_
      have qd_hs11_ := x12clk d_hs11_
      have yd_e33_ := eT d_e33_
      have yd_e78_ := eT d_e78_
      have yrd_ := eT d_hr_
      exfalso; omega
    · obtain rfl : d_j34_ = 181 + 9 * v.toInt.toNat := by omega
      obtain rfl : d_j79_ = 182 + 9 * v.toInt.toNat := by omega
      have qd_hs5_ := is2x d_hs5_
      have qd_hs11_ := x12clk d_hs11_
      have yd_e33_ := eT d_e33_
      have yd_e78_ := eT d_e78_
      have yrd_ := eT d_hr_
      exfalso; omega
    · obtain rfl : d_j34_ = 181 + 9 * v.toInt.toNat := by omega
      obtain rfl : d_j79_ = 182 + 9 * v.toInt.toNat := by omega
      have qd_hs5_ := is2x d_hs5_
      have qd_hs11_ := x12clk d_hs11_
      have yd_e33_ := eT d_e33_
      have yd_e78_ := eT d_e78_
      have yrd_ := eT d_hr_
      exfalso; omega
    · obtain rfl : d_j34_ = 181 + 9 * v.toInt.toNat := by omega
      obtain rfl : d_j79_ = 182 + 9 * v.toInt.toNat := by omega
      have qd_hs5_ := is2x d_hs5_
      have qd_hs11_ := x12clk d_hs11_
      have yd_e33_ := eT d_e33_
      have yd_e78_ := eT d_e78_
      have yrd_ := eT d_hr_
      exfalso; omega
    · obtain rfl : d_j34_ = 181 + 9 * v.toInt.toNat := by omega
      obtain rfl : d_j79_ = 182 + 9 * v.toInt.toNat := by omega
      have qd_hs5_ := is2x d_hs5_
      have qd_hs11_ := x12clk d_hs11_
      have yd_e33_ := eT d_e33_
      have yd_e78_ := eT d_e78_
      have yrd_ := eT d_hr_
      exfalso; omega
    · obtain rfl : d_j34_ = 181 + 9 * v.toInt.toNat := by omega
      obtain rfl : d_j79_ = 182 + 9 * v.toInt.toNat := by omega
      have qd_hs5_ := is2x d_hs5_
      have qd_hs11_ := x12clk d_hs11_
      have yd_e33_ := eT d_e33_
      have yd_e78_ := eT d_e78_
      have yrd_ := eT d_hr_
      exfalso; omega
    · obtain rfl : d_j34_ = 181 + 9 * v.toInt.toNat := by omega
      obtain rfl : d_j79_ = 182 + 9 * v.toInt.toNat := by omega
      have qd_hs5_ := is2x d_hs5_
      have qd_hs11_ := x12clk d_hs11_
      have yd_e33_ := eT d_e33_
      have yd_e78_ := eT d_e78_
      have yrd_ := eT d_hr_
      exfalso; omega
    · obtain rfl : d_j34_ = 181 + 9 * v.toInt.toNat := by omega
      have qd_hs5_ := is2x d_hs5_
      have qd_hs11_ := x12clk d_hs11_
      have yd_e33_ := eT d_e33_
      have yrd_ := eT d_hr_
      exfalso; omega
    · have qd_hs5_ := is2x d_hs5_
      have qd_hs11_ := x12clk d_hs11_
      have yrd_ := eT d_hr_
      exact i32e (by omega)
    · have qd_hs5_ := is2x d_hs5_
      have qd_hs11_ := x12clk d_hs11_
      have yrd_ := eT d_hr_
      exact i32e (by omega)
    · have qd_hs5_ := is2x d_hs5_
      have qd_hs11_ := x12clk d_hs11_
      have yrd_ := eT d_hr_
      exact i32e (by omega)
    · have qd_hs5_ := is2x d_hs5_
      have yrd_ := eT d_hr_
      exact i32e (by omega)
  · have qc_hs5_ := x10has c_hs5_
    have qc_hs86_ := err1 c_hs86_
    have yrc_ := eT c_hr_
    unfold SP_X12_echo at h2
    rcases h2 with (⟨d_hs5_, d_h4_, (⟨d_hs11_, d_h10_, (⟨d_hs17_, d_h16_, (⟨d_hs23_, d_h22_, d_r25_, d_hs29_, d_h28_, d_z30_, d_h31_, d_j34_, d_h35_, d_z32_, d_e33_, d_h36_, d_r37_, d_hs41_, d_h40_, d_r42_, d_hs46_, d_h45_, (⟨d_h47_, d_r48_, d_hs52_, d_h51_, d_r53_, d_hs57_, d_h56_, d_z58_, d_h59_, d_z60_, d_h61_, d_M63_, d_hI66_, d_hF67_, d_r62_, d_hs69_, d_r70_, d_hs74_, d_h73_, d_z75_, d_h76_, d_j79_, d_h80_, d_z77_, d_e78_, d_h81_, (⟨d_e82_, d_hr_, d_hM_⟩ | ⟨d_e82_, d_r83_, d_hs87_, d_hr_, d_hM_⟩ | ⟨d_e82_, d_hr_, d_hM_⟩ | ⟨d_e82_, d_r88_, d_hs92_, d_hr_, d_hM_⟩ | ⟨d_e82_, d_r93_, d_hs97_, d_hr_, d_hM_⟩ | ⟨d_e82_, d_r98_, d_hs102_, d_h101_, d_z103_, d_h104_, d_z105_, d_h106_, d_M108_, -, d_hF112_, d_r107_, d_hs114_, d_h110_, (⟨d_h115_, d_hr_, d_hM_⟩ | ⟨d_h115_, d_hr_, d_hM_⟩)⟩)⟩ | ⟨d_h47_, d_M117_, -, d_hF121_, d_r116_, d_hs123_, d_h119_, d_hr_, d_hM_⟩)⟩ | ⟨d_hs23_, d_h22_, d_M126_, -, d_hF130_, d_r125_, d_hs132_, d_h128_, d_hr_, d_hM_⟩)⟩ | ⟨d_hs17_, d_h16_, d_M135_, -, d_hF139_, d_r134_, d_hs141_, d_h137_, d_hr_, d_hM_⟩)⟩ | ⟨d_hs11_, d_M144_, -, d_hF148_, d_r143_, d_hs150_, d_h146_, d_hr_, d_hM_⟩)⟩ | ⟨d_hs5_, d_M153_, -, d_hF157_, d_r152_, d_hs159_, d_h155_, d_hr_, d_hM_⟩)
    · obtain rfl : d_j34_ = 181 + 9 * v.toInt.toNat := by omega
      obtain rfl : d_j79_ = 182 + 9 * v.toInt.toNat := by omega
      have qd_hs5_ := is2x d_hs5_
      have qd_hs11_ := x12clk d_hs11_
      have yd_e33_ := eT d_e33_
      have yd_e78_ := eT d_e78_
      have yrd_ := eT d_hr_
      exfalso; omega
    · obtain rfl : d_j34_ = 181 + 9 * v.toInt.toNat := by omega
      obtain rfl : d_j79_ = 182 + 9 * v.toInt.toNat := by omega
      have qd_hs5_ := is2x d_hs5_
      have qd_hs11_ := x12clk d_hs11_
      have yd_e33_ := eT d_e33_
      have yd_e78_ := eT d_e78_
      have yrd_ := eT d_hr_
      exfalso; omega
    · obtain rfl : d_j34_ = 181 + 9 * v.toInt.toNat := by omega
      obtain rfl : d_j79_ = 182 + 9 * v.toInt.toNat := by omega
      have qd_hs5_ := is2x d_hs5_
      have qd_hs11_ := x12clk d_hs11_
      have yd_e33_ := eT d_e33_
      have yd_e78_ := eT d_e78_
      have yrd_ := eT d_hr_
      exfalso; omega
    · obtain rfl : d_j34_ = 181 + 9 * v.toInt.toNat := by omega
      obtain rfl : d_j79_ = 182 + 9 * v.toInt.toNat := by omega
      have qd_hs5_ := is2x d_hs5_
      have qd_hs11_ := x12clk d_hs11_
      have yd_e33_ := eT d_e33_
      have yd_e78_ := eT d_e78_
      have yrd_ := eT d_hr_
      exfalso; omega
    · obtain rfl : d_j34_ = 181 + 9 * v.toInt.toNat := by omega
      obtain rfl : d_j79_ = 182 + 9 * v.toInt.toNat := by omega
      have qd_hs5_ := is2x d_hs5_
      have qd_hs11_ := x12clk d_hs11_
      have yd_e33_ := eT d_e33_
      have yd_e78_ := eT d_e78_
      have yrd_ := eT d_hr_
      exfalso; omega
    · obtain rfl : d_j34_ = 181 + 9 * v.toInt.toNat := by omega
      obtain rfl : d_j79_ = 182 + 9 * v.toInt.toNat := by omega
      have qd_hs5_ := is2x d_hs5_
      have qd_hs11_ := x12clk d_hs11_
      have yd_e33_ := eT d_e33_
      have yd_e78_ := eT d_e78_
      have yrd_ := eT d_hr_
      exfalso; omega
    · obtain rfl : d_j34_ = 181 + 9 * v.toInt.toNat := by omega
      obtain rfl : d_j79_ = 182 + 9 * v.toInt.toNat := by omega
      have qd_hs5_ := is2x d_hs5_
      have qd_hs11_ := x12clk d_hs11_
      have yd_e33_ := eT d_e33_
      have yd_e78_ := eT d_e78_
      have yrd_ := eT d_hr_
      exfalso; omega
    · obtain rfl : d_j34_ = 181 + 9 * v.toInt.toNat := by omega
      have qd_hs5_ := is2x d_hs5_
      have qd_hs11_ := x12clk d_hs11_
      have yd_e33_ := eT d_e33_
      have yrd_ := eT d_hr_
      exfalso; omega
    · have qd_hs5_ := is2x d_hs5_
      have qd_hs11_ := x12clk d_hs11_
      have yrd_ := eT d_hr_
      exact i32e (by omega)
    · have qd_hs5_ := is2x d_hs5_
      have qd_hs11_ := x12clk d_hs11_
      have yrd_ := eT d_hr_
      exact i32e (by omega)
    · have qd_hs5_ := is2x d_hs5_
      have qd_hs11_ := x12clk d_hs11_
      have yrd_ := eT d_hr_
      exact i32e (by omega)
    · have qd_hs5_ := is2x d_hs5_
      have yrd_ := eT d_hr_
      exact i32e (by omega)
