/-! a walker's turn, a tenth -/
theorem x9turn {b w : Nat} {v : Int32} {M M' : mM} (h : SP_X9_turn b w v M M') : M' = up M (9, b, w) 2 ((M.1 (9, b, w) 2 + v) &&& (7 : Int32)) := by
  unfold SP_X9_turn at h
  rcases h with ⟨z1_, e2_, z3_, h4_, z5_, h7_, h6_, M8_, hM9_, hM_⟩
  rw [hM_, hM9_, h7_, h4_, e2_]
theorem hab_both {b : Nat} {v : Int32} {M M' D D2 : mM} (h1 : HabC b v v.toInt.toNat M M') (h2 : HabD v D D2) (hR : WRR b M.1 (D.1 (50, 0, 0))) (hD : InvD D) (hu : (D.1 (12, 0, 0) 7).toInt = -1) (hv : 0 ≤ v.toInt ∧ v.toInt < nWa (D.1 (50, 0, 0))) : WRR b M'.1 (D2.1 (50, 0, 0)) := by
  have i6 : (6 : Int32).toInt = 6 := by decide
  have i2 : (2 : Int32).toInt = 2 := by decide
  have im2 : (-2 : Int32).toInt = -2 := by decide
  have nw := nWa_b hD.2.1
  obtain ⟨s, rf_, sl, rl_, sr, rr, bu, now, r, M1, e1, y1, e2, y2, e3, y3, e4, e5, hF, hH, h⟩ := h1
  obtain ⟨t, D1, iD1, hF1, hO, g⟩ := h2
  have w9 := (hR.2.2.1.2 v.toInt.toNat (by omega)).1
  have hh := (hR.2.2.1.2 v.toInt.toNat (by omega)).2
  have a1 := w9 1 (by omega)
  have a2 := w9 2 (by omega)
  have a7 := w9 7 (by omega)
  rw [show 180 + 9 * v.toInt.toNat + 1 = 181 + 9 * v.toInt.toNat by omega] at a1
  rw [show 180 + 9 * v.toInt.toNat + 2 = 182 + 9 * v.toInt.toNat by omega] at a2
  rw [show 180 + 9 * v.toInt.toNat + 7 = 187 + 9 * v.toInt.toNat by omega] at a7
  have cb := ((hD.2.1.1 (181 + 9 * v.toInt.toNat)).2.2.2.2.2.2.2 (by omega) (by omega)).2.1 (by omega)
  have sb := ((hD.2.1.1 (182 + 9 * v.toInt.toNat)).2.2.2.2.2.2.2 (by omega) (by omega)).2.2 (by omega)
  rw [a2] at e1
  rw [← e1] at sb
  have k1 : ∀ (c : rf) (k : Nat), c.1 ≠ 25 → c.1 ≠ 29 → M1.1 c k = M.1 c k := fun c k q1 q2 => hF c k (fun q => by simp only [S_c_X2_habitValue, or_false] at q; omega)
  have kd : ∀ (c : rf) (k : Nat), c.1 ≠ 58 → c.1 ≠ 59 → D1.1 c k = D.1 c k := fun c k q1 q2 => hF1 c k (fun q => by simp only [S_c_X12_habitOf, or_false] at q; omega)
  have row : D1.1 (50, 0, 0) = D.1 (50, 0, 0) := funext fun k => kd _ _ (by simp) (by simp)
  have R1 : WRR b M1.1 (D1.1 (50, 0, 0)) := by rw [row]; exact WRR_q hR hD.2.1 k1
  have sl7 : 0 ≤ sl.toInt ∧ sl.toInt ≤ 7 := by rw [e2, and7]; omega
  have sr7 : 0 ≤ sr.toInt ∧ sr.toInt ≤ 7 := by rw [e3, and7]; omega
  have F1 := x9full y1 sb a1 cb hh
  have F2 := x9full y2 sl7 a1 cb hh
  have F3 := x9full y3 sr7 a1 cb hh
  have hab := x2habit hH hR.2.2.2.1 hD.2.1.2
  have act : t = fmX r := by
    unfold SP_X12_habitOf at hO
    rcases hO with ⟨k_r1_, k_hs5_, k_h4_, k_z6_, k_h7_, k_j10_, k_h11_, k_z8_, k_e9_, k_h12_, k_r13_, k_hs17_, k_M18_, k_hM19_, k_z22_, k_h23_, k_hI20_, k_r24_, k_hs28_, k_M29_, k_hM30_, k_z33_, k_h34_, k_hI31_, k_r35_, k_hs39_, k_M40_, k_hM41_, k_hI42_, k_r44_, k_hs48_, k_h47_, k_z49_, k_h50_, k_j53_, k_h54_, k_z51_, k_e52_, k_M55_, k_hM56_, k_z59_, k_e60_, k_M61_, k_hM62_, k_hI63_, k_r65_, k_hs69_, k_h68_, (⟨k_h70_, k_z71_, k_e72_, (⟨k_h73_, k_hr_, k_hM_⟩ | ⟨k_h73_, k_hr_, k_hM_⟩)⟩ | ⟨k_h70_, k_M75_, k_hI78_, k_hF79_, k_r74_, k_hs81_, k_z82_, k_h84_, k_h83_, k_hr_, k_hM_⟩)⟩
    all_goals
      obtain rfl : k_j10_ = 182 + 9 * v.toInt.toNat := by omega
      obtain rfl : k_j53_ = 187 + 9 * v.toInt.toNat := by omega
      have ks : k_z8_ = s := by rw [k_e9_, e1]
      subst ks
      have w18 : k_M18_.1 (50, 0, 0) = D.1 (50, 0, 0) := by rw [k_hM19_, up_other _ _ (by simp)]
      have w29 : k_M29_.1 (50, 0, 0) = D.1 (50, 0, 0) := by rw [k_hM30_, up_other _ _ (by simp)]; exact w18
      have w40 : k_M40_.1 (50, 0, 0) = D.1 (50, 0, 0) := by rw [k_hM41_, up_other _ _ (by simp)]; exact w29
      have w55 : k_M55_.1 (50, 0, 0) = D.1 (50, 0, 0) := by rw [k_hM56_, up_other _ _ (by simp)]; exact w40
      have w61 : k_M61_.1 (50, 0, 0) = D.1 (50, 0, 0) := by rw [k_hM62_, up_other _ _ (by simp)]; exact w55
      have G1 := x12full k_hs17_ ⟨hv.1, by omega⟩
      have G2 := x12full k_hs28_ ⟨hv.1, by omega⟩
      have G3 := x12full k_hs39_ ⟨hv.1, by omega⟩
      rw [w18] at G2
      rw [w29] at G3
      have z22 : k_z22_ = k_z8_ + (6 : Int32) := i32e (by rw [k_h23_, addI (x := k_z8_) rfl i6 (by omega) (by omega)])
      have z33 : k_z33_ = k_z8_ + (2 : Int32) := i32e (by rw [k_h34_, addI (x := k_z8_) rfl i2 (by omega) (by omega)])
      rw [z22, ← e2] at G2
      rw [z33, ← e3] at G3
      rw [show (k_z8_ &&& (7 : Int32)).toInt = k_z8_.toInt by rw [and7]; omega] at G1
      obtain rfl : rf_ = k_r13_ := i32e (FullP_uniq F1 G1)
      obtain rfl : rl_ = k_r24_ := i32e (FullP_uniq F2 G2)
      obtain rfl : rr = k_r35_ := i32e (FullP_uniq F3 G3)
      have hz51 : k_z51_ = bu := by rw [k_e52_, w40, e4, a7]
      have hz59 : k_z59_ = now := by rw [k_e60_, w55, e5]; exact hR.1.1.symm
      have sv := sval5 k_hM19_ k_hM30_ k_hM41_ k_hM56_ k_hM62_
      have tx := x12has (u := 2) k_hs69_ (by first | decide | simp | (dsimp only; omega))
      simp only [show 345 + 50 * 2 = 445 by decide] at tx
      rw [w61] at tx
      rw [fm_and, hab]
      unfold habS
    · rw [if_pos (by omega)]
      have s0 : k_M61_.1 (58, 0, 0) 0 = rf_ := sv 0 (by omega)
      rw [k_e72_, s0] at k_h73_
      rw [if_neg k_h73_, k_hr_]; decide
    · rw [if_pos (by omega)]
      have s0 : k_M61_.1 (58, 0, 0) 0 = rf_ := sv 0 (by omega)
      rw [k_e72_, s0] at k_h73_
      rw [if_pos k_h73_, k_hr_]; decide
    · rw [if_neg (by omega), k_hr_, k_h84_]
      have er : k_r74_ = evR (D.1 (50, 0, 0)) 2 (hbV rf_ rl_ rr bu now) := by
        rw [← w61]
        refine x12given (nn := 5) k_hs81_ k_hI63_ ⟨by decide, by omega⟩ (fun i hi => ?_) (fun i hi => ?_) (by rw [w61]; show 0 < (D.1 (50, 0, 0) 445).toInt; omega)
        · rw [w61] at hi ⊢
          exact ((hR.2.2.2.1 2 (by omega)).2 i hi).2
        · rw [sv i hi, hz51, hz59]
      rw [er]
  have tb : 0 ≤ (fmX r).toInt ∧ (fmX r).toInt ≤ 3 := by rw [fm_and, and3]; omega
  have i1 := il_1
  rw [act] at g
  have m2 : M1.1 (9, b, v.toInt.toNat) 2 = s := by rw [k1 _ _ (by simp) (by simp), a2, e1]
  have d2 : D1.1 (50, 0, 0) (182 + 9 * v.toInt.toNat) = s := by rw [row, e1]
  have turn : ∀ x : Int32, M' = up M1 (9, b, v.toInt.toNat) 2 x → D2 = up D1 (50, 0, 0) (182 + 9 * v.toInt.toNat) x → WRR b M'.1 (D2.1 (50, 0, 0)) := fun x h1 h2 => by
    have B := WRR_wf (f := 2) (x := x) R1 iD1.2.1 (w := v.toInt.toNat) (by rw [row]; omega) (by omega)
    rw [show 180 + 9 * v.toInt.toNat + 2 = 182 + 9 * v.toInt.toNat by omega, ← h1, ← h2] at B
    exact B
  rcases h with ⟨h3, h4, h5⟩ | ⟨h3, h5⟩ | ⟨h3, h5⟩ <;> rcases g with ⟨g1, g2⟩ | ⟨g1, g2⟩
  · have x9 := x9turn h5
    rw [m2] at x9
    rw [d2] at g2
    refine turn _ x9 ?_
    rw [g2]
    unfold trD
    by_cases q : (fmX r).toInt = 1
    · rw [if_pos q, show fmX r = 1 from i32e (q.trans i1.symm)]
    · have q2 : (fmX r).toInt = 2 := by omega
      rw [if_neg q, if_pos q2, show fmX r = 2 from i32e (q2.trans i2.symm)]
  · omega
  · have x9 := x9turn h5
    rw [m2] at x9
    rw [d2] at g2
    refine turn _ x9 ?_
    rw [g2]
    unfold trD
    rw [if_neg (by omega), if_neg (by omega)]
    have e : (s + (6 : Int32)) &&& (7 : Int32) = (s + (-2 : Int32)) &&& (7 : Int32) := i32e (by rw [and7, and7, addI (x := s) rfl i6 (by omega) (by omega), addI (x := s) rfl im2 (by omega) (by omega)]; omega)
    rw [e]
  · omega
  · omega
  · exact go_both h5 g2 R1 iD1 (by rw [kd _ _ (by simp) (by simp)]; exact hu) ⟨hv.1, by rw [row]; exact hv.2⟩
theorem wkt_step {b : Nat} {i i2 : Int32} {Mz M M' D D2 : mM} (h1 : ST_X10_passTenth_23 b Mz i M i2 M') (h2 : SP_X12_walkerGoes i D D2) (hR : WRR b M.1 (D.1 (50, 0, 0))) (hD : InvD D) (hu : (D.1 (12, 0, 0) 7).toInt = -1) (hv : 0 ≤ i.toInt ∧ i.toInt < nWa (D.1 (50, 0, 0))) : WRR b M'.1 (D2.1 (50, 0, 0)) := by
  have nw := nWa_b hD.2.1
  have hc := eT hR.2.2.1.1
  have w9 := (hR.2.2.1.2 i.toInt.toNat (by omega)).1
  have a0 := w9 0 (by omega)
  have a5 := w9 5 (by omega)
  have a6 := w9 6 (by omega)
  rw [show 180 + 9 * i.toInt.toNat + 0 = 180 + 9 * i.toInt.toNat by omega] at a0
  rw [show 180 + 9 * i.toInt.toNat + 5 = 185 + 9 * i.toInt.toNat by omega] at a5
  rw [show 180 + 9 * i.toInt.toNat + 6 = 186 + 9 * i.toInt.toNat by omega] at a6
  have kb := ((hD.2.1.1 (180 + 9 * i.toInt.toNat)).2.2.2.2.2.2.2 (by omega) (by omega)).1 (by omega)
  have d := wgD h2 ⟨hv.1, by omega⟩
  unfold ST_X10_passTenth_23 at h1
  rcases h1 with ⟨hv0_23, -, hF_23, z19_, e20_, h21_, h22_, j23_, h24_, h25_, z26_, e27_, h28_, (⟨h29_, z30_, h31_, hq_v1_23y, hM_⟩ | ⟨h29_, M32_, -, hF36_, hs38_, z39_, h40_, hq_v1_23y, hM_⟩)⟩
  · obtain rfl : j23_ = i.toInt.toNat := by omega
    have y := eT e27_
    rw [a6] at y
    rcases d with d | d
    · rw [hM_, d.2]; exact hR
    · omega
  · obtain rfl : j23_ = i.toInt.toNat := by omega
    have y := eT e27_
    rw [a6] at y
    rcases d with d | ⟨-, d⟩
    · omega
    · have c := lwC hs38_ ⟨hv.1, by unfold nWa at hv; omega, by omega⟩ (by rw [a0]; exact kb)
      rw [hR.1.1, a5, a0] at c
      rw [hM_]
      rcases c with ⟨c1, c2⟩ | ⟨c1, r, M1, c2, c3⟩ <;> rcases d with ⟨d1, d2⟩ | ⟨d1, t, D1, d2, d3, d4⟩
      · exact hab_both c2 d2 hR hD hu hv
      · exact absurd d1 c1
      · exact absurd c1 d1
      · have cl := click_both c2 d3 hR hD hv hu
        exact hab_both c3 d4 cl.2.1 d2 (by rw [cl.2.2.2.1 _ _ (by simp) (by simp) (by simp)]; exact hu) ⟨hv.1, by unfold nWa; rw [cl.2.2.2.2 2 (by omega) (by omega)]; exact hv.2⟩
theorem WRR_now {b : Nat} {M D : mM} {x : Int32} (h : WRR b M.1 (D.1 (50, 0, 0))) (hN : NW5 (D.1 (50, 0, 0))) : WRR b (up M (10, b, 0) 7 x).1 ((up D (50, 0, 0) 0 x).1 (50, 0, 0)) := by
  have b1 := nTh_b hN
  have b2 := nWa_b hN
  rw [up_row]
  have nn : ∀ j, ¬ j = 0 → upd (D.1 (50, 0, 0)) 0 x j = D.1 (50, 0, 0) j := fun j hj => updN hj
  refine ⟨⟨by rw [zupE rfl rfl rfl, updE rfl], fun k hk => by rw [zupR rfl (by simp), nn _ (by omega)]; exact h.1.2.1 k hk, fun k hk => by rw [zupR rfl (by simp), zupR rfl (by simp), nn _ (by omega), nn _ (by omega)]; exact h.1.2.2 k hk⟩,
    THR_keep h.2.1 b1.2 (fun r k hr => zupR rfl (by dsimp only; omega)) (fun j hj => nn j (by omega)), WAR_keep h.2.2.1 b2.2 (fun r w k hr => zupR rfl (by dsimp only; omega)) (zupN rfl (fun z => absurd z.2 (by first | decide | simp | (dsimp only; omega)))) (fun j hj => nn j (by omega)),
    TXR_keep h.2.2.2.1 (TXz hN) (fun r u k hr hu => zupR rfl (by dsimp only; omega)) (fun j h1 h2 => nn j (by omega)), OCC_keep h.2.2.2.2.1 b1.2 b2.2 (fun k => zupR rfl (by simp)) (fun j hj => nn j (by omega)) (fun j hj => nn j (by omega)), MIR_keep h.2.2.2.2.2 b1.2 b2.2 (fun j hj => nn j (by omega)) (fun w h1 h2 => ⟨fun k hk => nn _ (by omega), fun c hc => nn _ (by omega)⟩)⟩
theorem tenth_both {b : Nat} {M M' D D2 : mM} (h1 : SP_X10_passTenth b M M') (h2 : SP_X12_tenth D D2) (hR : WRR b M.1 (D.1 (50, 0, 0))) (hD : InvD D) (hu : (D.1 (12, 0, 0) 7).toInt = -1) : WRR b M'.1 (D2.1 (50, 0, 0)) ∧ InvD D2 ∧ (D2.1 (12, 0, 0) 7).toInt = -1 := by
  have q0 := il_0
  unfold SP_X12_tenth at h2
  rcases h2 with ⟨d_z1_, d_e2_, d_z3_, d_h4_, d_M5_, d_hM6_, d_v1_12, d_hv0_12, d_M_12, d_hL_12, d_hI_12, d_hF_12, d_z10_, d_e11_, d_h12_, d_h13_, d_v1_35, d_hv0_35, d_M_35, d_hL_35, d_hI_35, d_hF_35, d_z15_, d_e16_, d_h17_, d_h18_, d_hM_⟩
  have frD : (D2.1 (12, 0, 0) 7).toInt = -1 := by rw [d_hM_, d_hF_35 (12, 0, 0) 7 (fun q => by simp [S_c_X12_tenth] at q)]; exact hu
  have invD : InvD D2 := by rw [d_hM_]; exact d_hI_35
  -- the things
  have things : ∀ {z1 z3 z9 v2 : Int32} {M5 Mm : mM}, z1 = M.1 (10, b, 0) 7 → z3 = z1 + (1 : Int32) → M5 = up M (10, b, 0) 7 z3 → z9 = M5.1 (10, b, 0) 7 → RCH (fun x_ y_ => ST_X7_letThingsGo_2 b z9 M5 x_.1 x_.2 y_.1 y_.2) ((0 : Int32), M5) (v2, Mm) → ((Mm.1 (7, b, 0) 5).toInt ≤ v2.toInt ∨ 40 ≤ v2.toInt) → WRR b Mm.1 (d_M_12.1 (50, 0, 0)) ∧ (d_M_12.1 (12, 0, 0) 7).toInt = -1 := fun {z1 z3 z9 v2 M5 Mm} a1 a2 a3 a4 hL hE => by
    have ez : z3 = d_z3_ := by rw [a2, d_h4_, a1, d_e2_, hR.1.1]
    have R0 := WRR_now (x := z3) hR hD.2.1
    rw [← a3, ez, ← d_hM6_] at R0
    have e9 : z9 = d_z3_ := by rw [a4, a3, zupE rfl rfl rfl, ez]
    have L := lockE (fun x y : Int32 × mM => WRR b x.2.1 (y.2.1 (50, 0, 0)) ∧ x.1 = y.1 ∧ (y.2.1 (12, 0, 0) 7).toInt = -1 ∧ y.2.1 (50, 0, 0) 0 = d_z3_) hL d_hL_12 ⟨R0, rfl, by dsimp only; rw [d_hM6_, up_other _ _ (by simp)]; exact hu, by dsimp only; rw [d_hM6_, up_same]⟩
      (fun x z y w r s t => by
        obtain ⟨x1, x2⟩ := x
        obtain ⟨y1, y2⟩ := y
        obtain ⟨z1, z2⟩ := z
        obtain ⟨w1, w2⟩ := w
        (try dsimp only at r s t ⊢)
        obtain ⟨r1, r2, r3, r4⟩ := r
        subst r2
        have s' := s
        unfold ST_X12_tenth_12 at t
        rcases t with ⟨t_hv0_12, t_hI_12, t_hF_12, t_z10_, t_e11_, t_h12_, t_h13_, t_M28_, t_hI31_, t_hF32_, t_hs34_, t_z35_, t_h36_, t_hq_v1_12y, t_hM_⟩
        have st := th_step s t_hs34_ r1 t_hI_12 r3 (by rw [e9, r4]) ⟨t_hv0_12, by unfold nTh; rw [← t_e11_]; exact t_h13_⟩
        rw [t_hM_]
        refine ⟨st.1, ?_, by rw [st.2.2 _ _ (by simp)]; exact r3, by rw [st.2.1 0 (by omega)]; exact r4⟩
        have ci : z1.toInt = x1.toInt + 1 := by
          unfold ST_X7_letThingsGo_2 at s'
          rcases s' with ⟨s_hv0_2, -, s_hF_2, s_z2_, s_e3_, s_h4_, s_h5_, s_j8_, s_h9_, s_z6_, s_e7_, s_j12_, s_h13_, s_z10_, s_e11_, (⟨s_h14_, s_z15_, s_h16_, s_hq_v2_2y, s_hM_⟩ | ⟨s_h14_, (⟨s_h17_, s_z18_, s_h19_, s_hq_v2_2y, s_hM_⟩ | ⟨s_h17_, s_z20_, s_h21_, (⟨s_h22_, s_z23_, s_h24_, s_hq_v2_2y, s_hM_⟩ | ⟨s_h22_, s_M25_, -, s_hF29_, s_hs31_, s_z32_, s_h33_, s_hq_v2_2y, s_hM_⟩)⟩)⟩)⟩
          all_goals (rw [s_hq_v2_2y]; assumption)
        exact i32e (by rw [ci, t_hq_v1_12y, t_h36_]))
      (fun y y' r t => by
        obtain ⟨r1, r2, r3, r4⟩ := r
        unfold ST_X12_tenth_12 at t
        rcases t with ⟨t_hv0_12, t_hI_12, t_hF_12, t_z10_, t_e11_, t_h12_, t_h13_, t_M28_, t_hI31_, t_hF32_, t_hs34_, t_z35_, t_h36_, t_hq_v1_12y, t_hM_⟩
        have c1 := eT r1.2.1.1
        have c2 := eT t_e11_
        have c3 := eT r2
        (try dsimp only at c1 c2 c3 hE)
        omega)
      (fun x x' r s => by
        obtain ⟨r1, r2, r3, r4⟩ := r
        have c1 := eT r1.2.1.1
        have c2 := eT d_e11_
        have c3 := eT r2
        have c4 : x.1.toInt < (x.2.1 (7, b, 0) 5).toInt := by
          unfold ST_X7_letThingsGo_2 at s
          obtain ⟨-, -, -, z2_, e3_, h4_, -⟩ := s
          rw [← e3_]; exact h4_
        (try dsimp only at c1 c2 c3)
        omega)
    exact ⟨L.1, L.2.2.1⟩
  have walkers : ∀ {v1 : Int32} {M11 Mm : mM}, WRR b M11.1 (d_M_12.1 (50, 0, 0)) → (d_M_12.1 (12, 0, 0) 7).toInt = -1 → RCH (fun x_ y_ => ST_X10_passTenth_23 b M x_.1 x_.2 y_.1 y_.2) ((0 : Int32), M11) (v1, Mm) → ((Mm.1 (10, b, 0) 6).toInt ≤ v1.toInt ∨ 8 ≤ v1.toInt) → WRR b Mm.1 (d_M_35.1 (50, 0, 0)) := fun {v1 M11 Mm} R0 u0 hL hE => by
    have L := lockE (fun x y : Int32 × mM => WRR b x.2.1 (y.2.1 (50, 0, 0)) ∧ x.1 = y.1 ∧ (y.2.1 (12, 0, 0) 7).toInt = -1) hL d_hL_35 ⟨R0, rfl, u0⟩
      (fun x z y w r s t => by
        obtain ⟨x1, x2⟩ := x
        obtain ⟨y1, y2⟩ := y
        obtain ⟨z1, z2⟩ := z
        obtain ⟨w1, w2⟩ := w
        (try dsimp only at r s t ⊢)
        obtain ⟨r1, r2, r3⟩ := r
        subst r2
        have s' := s
        unfold ST_X12_tenth_35 at t
        rcases t with ⟨t_hv0_35, t_hI_35, t_hF_35, t_z15_, t_e16_, t_h17_, t_h18_, t_M19_, t_hI22_, t_hF23_, t_hs25_, t_z26_, t_h27_, t_hq_v1_35y, t_hM_⟩
        have st := wkt_step s t_hs25_ r1 t_hI_35 r3 ⟨t_hv0_35, by unfold nWa; rw [← t_e16_]; exact t_h18_⟩
        rw [t_hM_]
        refine ⟨st, ?_, by rw [t_hF23_ (12, 0, 0) 7 (fun q => by simp [S_c_X12_walkerGoes] at q)]; exact r3⟩
        have ci : z1.toInt = x1.toInt + 1 := by
          unfold ST_X10_passTenth_23 at s'
          rcases s' with ⟨s_hv0_23, -, s_hF_23, s_z19_, s_e20_, s_h21_, s_h22_, s_j23_, s_h24_, s_h25_, s_z26_, s_e27_, s_h28_, (⟨s_h29_, s_z30_, s_h31_, s_hq_v1_23y, s_hM_⟩ | ⟨s_h29_, s_M32_, -, s_hF36_, s_hs38_, s_z39_, s_h40_, s_hq_v1_23y, s_hM_⟩)⟩
          all_goals (rw [s_hq_v1_23y]; assumption)
        exact i32e (by rw [ci, t_hq_v1_35y, t_h27_]))
      (fun y y' r t => by
        obtain ⟨r1, r2, r3⟩ := r
        unfold ST_X12_tenth_35 at t
        rcases t with ⟨t_hv0_35, t_hI_35, t_hF_35, t_z15_, t_e16_, t_h17_, t_h18_, t_M19_, t_hI22_, t_hF23_, t_hs25_, t_z26_, t_h27_, t_hq_v1_35y, t_hM_⟩
        have c1 := eT r1.2.2.1.1
        have c2 := eT t_e16_
        have c3 := eT r2
        (try dsimp only at c1 c2 c3 hE)
        omega)
      (fun x x' r s => by
        obtain ⟨r1, r2, r3⟩ := r
        have c1 := eT r1.2.2.1.1
        have c2 := eT d_e16_
        have c3 := eT r2
        have c4 : x.1.toInt < (x.2.1 (10, b, 0) 6).toInt := by
          unfold ST_X10_passTenth_23 at s
          obtain ⟨-, -, -, z2_, e3_, h4_, -⟩ := s
          rw [← e3_]; exact h4_
        (try dsimp only at c1 c2 c3)
        omega)
    exact L.1
  refine ⟨?_, invD, frD⟩
  rw [d_hM_]
  unfold SP_X10_passTenth at h1
  obtain ⟨z1_, e2_, z3_, h4_, M5_, hM6_, z9_, e10_, hI7_, M11_, hI14_, hF15_, hs17_, v1_23, hv0_23, M_23, hL_23, hI_23, hF_23, z19_, e20_, h⟩ := h1
  have T : WRR b M11_.1 (d_M_12.1 (50, 0, 0)) ∧ (d_M_12.1 (12, 0, 0) 7).toInt = -1 := by
    unfold SP_X7_letThingsGo at hs17_
    rcases hs17_ with ⟨k_v2_2, k_hv0_2, k_M_2, k_hL_2, -, k_hF_2, k_z2_, k_e3_, (⟨k_h4_, k_hM_⟩ | ⟨k_h4_, k_h5_, k_hM_⟩)⟩
    · rw [k_hM_]
      exact things e2_ h4_ hM6_ e10_ k_hL_2 (Or.inl (by rw [← k_e3_]; exact k_h4_))
    · rw [k_hM_]
      exact things e2_ h4_ hM6_ e10_ k_hL_2 (Or.inr k_h5_)
  rcases h with ⟨h21_, hM_⟩ | ⟨h21_, h22_, hM_⟩
  · rw [hM_]
    exact walkers T.1 T.2 hL_23 (Or.inl (by rw [← e20_]; exact h21_))
  · rw [hM_]
    exact walkers T.1 T.2 hL_23 (Or.inr h22_)
