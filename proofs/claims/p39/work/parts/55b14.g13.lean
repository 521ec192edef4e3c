theorem RCH_mono {α : Type} {S T : α → α → Prop} {a z : α} (h : RCH S a z) (hs : ∀ x y, S x y → T x y) : RCH T a z := rind h (fun z => RCH T a z) RCH.refl (fun x y p s => RCH.tail p (hs x y s))
/-- the model's steps on -/
def gsD (w : Nat) (x y : Int32 × mM) : Prop := 0 < x.1.toInt ∧ y.1.toInt = x.1.toInt - 1 ∧ ∃ r g : Int32, onP (x.2.1 (50, 0, 0) (181 + 9 * w)) (x.2.1 (50, 0, 0) (182 + 9 * w)) 1 r ∧ 0 ≤ r.toInt ∧ SP_X12_isFree r x.2 g ∧ ¬ g.toInt = 0 ∧ y.2 = up x.2 (50, 0, 0) (181 + 9 * w) r
def geD (w : Nat) (x : Int32 × mM) (D : mM) : Prop := (x.1.toInt ≤ 0 ∧ D = x.2) ∨ (0 < x.1.toInt ∧ ∃ r g : Int32, onP (x.2.1 (50, 0, 0) (181 + 9 * w)) (x.2.1 (50, 0, 0) (182 + 9 * w)) 1 r ∧
  ((r.toInt < 0 ∧ D = up x.2 (50, 0, 0) (187 + 9 * w) (x.2.1 (50, 0, 0) (187 + 9 * w) + (1 : Int32))) ∨ (0 ≤ r.toInt ∧ SP_X12_isFree r x.2 g ∧ g.toInt = 0 ∧ D = up (up x.2 (50, 0, 0) (187 + 9 * w) (x.2.1 (50, 0, 0) (187 + 9 * w) + (1 : Int32))) (50, 0, 0) (495 + 384 * w + r.toInt.toNat) (bmp (x.2.1 (50, 0, 0) (495 + 384 * w + r.toInt.toNat)) 3))))
theorem goDx {v : Int32} {M M' : mM} (h : SP_X12_goesOn v M M') (hv : 0 ≤ v.toInt ∧ v.toInt ≤ 7) : ∃ (s0 : Int32) (z : Int32 × mM), s0.toInt = speedI (M.1 (50, 0, 0) (180 + 9 * v.toInt.toNat)).toInt ∧ RCH (gsD v.toInt.toNat) (s0, M) z ∧ InvD z.2 ∧ geD v.toInt.toNat z M' := by
  have i1 : (1 : Int32).toInt = 1 := by decide
  have i2 : (2 : Int32).toInt = 2 := by decide
  unfold SP_X12_goesOn at h
  obtain ⟨r1_, hs5_, h4_, r6_, hs10_, h9_, h⟩ := h
  have kd := x12kindOf hs10_ hv
  have st1 : ∀ x y : Int32 × mM, ST_X12_goesOn_22 M r1_ x.1 x.2 y.1 y.2 → gsD v.toInt.toNat x y := fun x y st => by
    obtain ⟨x1, x2⟩ := x
    obtain ⟨y1, y2⟩ := y
    unfold gsD
    (try dsimp only at st ⊢)
    unfold ST_X12_goesOn_22 at st
    rcases st with ⟨p_hv0_22, -, p_hF_22, p_h13_, p_z14_, p_h15_, p_j18_, p_h19_, p_z16_, p_e17_, p_h20_, p_z21_, p_h22_, p_j25_, p_h26_, p_z23_, p_e24_, p_h27_, p_r28_, p_hs32_, p_h31_, p_h33_, p_r49_, p_hs53_, p_h52_, p_h54_, p_z55_, p_h56_, p_j59_, p_h60_, p_M57_, p_hM58_, p_z63_, p_h64_, p_hq_v3_22y, p_hM_⟩
    obtain rfl : p_j18_ = 181 + 9 * v.toInt.toNat := by omega
    obtain rfl : p_j25_ = 182 + 9 * v.toInt.toNat := by omega
    obtain rfl : p_j59_ = 181 + 9 * v.toInt.toNat := by omega
    rw [← p_e17_, ← p_e24_]
    exact ⟨p_h13_, by rw [p_hq_v3_22y]; omega, p_r28_, p_r49_, p_h31_.1, p_h33_, p_hs53_, p_h54_, by rw [p_hM_, p_hM58_]⟩
  have st2 : ∀ x y : Int32 × mM, ST_X12_goesOn_22b M r1_ x.1 x.2 y.1 y.2 → gsD v.toInt.toNat x y := fun x y st => by
    obtain ⟨x1, x2⟩ := x
    obtain ⟨y1, y2⟩ := y
    unfold gsD
    (try dsimp only at st ⊢)
    unfold ST_X12_goesOn_22b at st
    rcases st with ⟨p_hv0_22, -, p_hF_22, p_h93_, p_z94_, p_h95_, p_j98_, p_h99_, p_z96_, p_e97_, p_h100_, p_z101_, p_h102_, p_j105_, p_h106_, p_z103_, p_e104_, p_h107_, p_r108_, p_hs112_, p_h111_, p_h113_, p_r129_, p_hs133_, p_h132_, p_h134_, p_z135_, p_h136_, p_j139_, p_h140_, p_M137_, p_hM138_, p_z143_, p_h144_, p_hq_v3_22y, p_hM_⟩
    obtain rfl : p_j98_ = 181 + 9 * v.toInt.toNat := by omega
    obtain rfl : p_j105_ = 182 + 9 * v.toInt.toNat := by omega
    obtain rfl : p_j139_ = 181 + 9 * v.toInt.toNat := by omega
    rw [← p_e97_, ← p_e104_]
    exact ⟨p_h93_, by rw [p_hq_v3_22y]; omega, p_r108_, p_r129_, p_h111_.1, p_h113_, p_hs133_, p_h134_, by rw [p_hM_, p_hM138_]⟩
  rcases h with ⟨h11_, v3_22, hv0_22, M_22, hL_22, hI_22, hF_22, h⟩ | ⟨h11_, v3_22, hv0_22, M_22, hL_22, hI_22, hF_22, h⟩
  · refine ⟨1, (v3_22, M_22), by rw [kd] at h11_; unfold speedI; rw [if_neg h11_, i1], RCH_mono hL_22 st1, hI_22, ?_⟩
    unfold geD
    (try dsimp only)
    rcases h with ⟨h13_, hM_⟩ | ⟨h13_, z14_, h15_, j18_, h19_, z16_, e17_, h20_, z21_, h22_, j25_, h26_, z23_, e24_, h27_, r28_, hs32_, h31_, h⟩
    · exact Or.inl ⟨h13_, hM_⟩
    · obtain rfl : j18_ = 181 + 9 * v.toInt.toNat := by omega
      obtain rfl : j25_ = 182 + 9 * v.toInt.toNat := by omega
      rw [← e17_, ← e24_]
      rcases h with ⟨h33_, z34_, h35_, j38_, h39_, z36_, e37_, z40_, h41_, j44_, h45_, M42_, hM43_, h48_, hM_⟩ | ⟨h33_, r49_, hs53_, h52_, h54_, z65_, h66_, j69_, h70_, z67_, e68_, z71_, h72_, j75_, h76_, M73_, hM74_, h79_, hI77_, r80_, hs84_, h83_, M85_, hI88_, hF89_, hs91_, hM_⟩
      · obtain rfl : j38_ = 187 + 9 * v.toInt.toNat := by omega
        obtain rfl : j44_ = 187 + 9 * v.toInt.toNat := by omega
        exact Or.inr ⟨h13_, r28_, r28_, h31_.1, Or.inl ⟨h33_, by rw [hM_, hM43_, h41_, e37_]⟩⟩
      · obtain rfl : j69_ = 187 + 9 * v.toInt.toNat := by omega
        obtain rfl : j75_ = 187 + 9 * v.toInt.toNat := by omega
        have ad := x12more hs91_
        rw [show r80_.toInt.toNat = 495 + 384 * v.toInt.toNat + r28_.toInt.toNat by omega] at ad
        exact Or.inr ⟨h13_, r28_, r49_, h31_.1, Or.inr ⟨h33_, hs53_, h54_, by rw [hM_, ad, hM74_, h72_, e68_, up_row, updN (by omega)]⟩⟩
  · refine ⟨2, (v3_22, M_22), by rw [kd] at h11_; unfold speedI; rw [if_pos h11_, i2], RCH_mono hL_22 st2, hI_22, ?_⟩
    unfold geD
    (try dsimp only)
    rcases h with ⟨h13_, hM_⟩ | ⟨h13_, z14_, h15_, j18_, h19_, z16_, e17_, h20_, z21_, h22_, j25_, h26_, z23_, e24_, h27_, r28_, hs32_, h31_, h⟩
    · exact Or.inl ⟨h13_, hM_⟩
    · obtain rfl : j18_ = 181 + 9 * v.toInt.toNat := by omega
      obtain rfl : j25_ = 182 + 9 * v.toInt.toNat := by omega
      rw [← e17_, ← e24_]
      rcases h with ⟨h33_, z34_, h35_, j38_, h39_, z36_, e37_, z40_, h41_, j44_, h45_, M42_, hM43_, h48_, hM_⟩ | ⟨h33_, r49_, hs53_, h52_, h54_, z65_, h66_, j69_, h70_, z67_, e68_, z71_, h72_, j75_, h76_, M73_, hM74_, h79_, hI77_, r80_, hs84_, h83_, M85_, hI88_, hF89_, hs91_, hM_⟩
      · obtain rfl : j38_ = 187 + 9 * v.toInt.toNat := by omega
        obtain rfl : j44_ = 187 + 9 * v.toInt.toNat := by omega
        exact Or.inr ⟨h13_, r28_, r28_, h31_.1, Or.inl ⟨h33_, by rw [hM_, hM43_, h41_, e37_]⟩⟩
      · obtain rfl : j69_ = 187 + 9 * v.toInt.toNat := by omega
        obtain rfl : j75_ = 187 + 9 * v.toInt.toNat := by omega
        have ad := x12more hs91_
        rw [show r80_.toInt.toNat = 495 + 384 * v.toInt.toNat + r28_.toInt.toNat by omega] at ad
        exact Or.inr ⟨h13_, r28_, r49_, h31_.1, Or.inr ⟨h33_, hs53_, h54_, by rw [hM_, ad, hM74_, h72_, e68_, up_row, updN (by omega)]⟩⟩
/-- the class's steps on -/
def gsC (b : Nat) (v : Int32) (w : Nat) (x y : Int32 × mM) : Prop := ∃ sp r f : Int32, SP_X9_speed b w x.2 sp ∧ x.1.toInt < sp.toInt ∧ y.1.toInt = x.1.toInt + 1 ∧ SP_X7_cellFrom (x.2.1 (9, b, w) 1) (x.2.1 (9, b, w) 2) 1 x.2 r ∧ SP_X7_isFree b r x.2 f ∧ f.toInt = 1 ∧ 0 ≤ r.toInt ∧ r.toInt ≤ 191 ∧
  ∃ z : Int32, z.toInt = 100 + v.toInt ∧ ((0 ≤ (x.2.1 (9, b, w) 1).toInt ∧ (x.2.1 (9, b, w) 1).toInt ≤ 191) → y.2 = up (up (up x.2 (35, b, 0) (x.2.1 (9, b, w) 1).toInt.toNat (-1)) (35, b, 0) r.toInt.toNat z) (9, b, w) 1 r)
def geC (b : Nat) (w : Nat) (x : Int32 × mM) (M : mM) : Prop := ∃ sp : Int32, SP_X9_speed b w x.2 sp ∧ ((sp.toInt ≤ x.1.toInt ∧ M = x.2) ∨ (x.1.toInt < sp.toInt ∧ ∃ r f : Int32, SP_X7_cellFrom (x.2.1 (9, b, w) 1) (x.2.1 (9, b, w) 2) 1 x.2 r ∧ SP_X7_isFree b r x.2 f ∧ f.toInt = 0 ∧
  ((r.toInt < 0 ∧ M = up x.2 (9, b, w) 7 (x.2.1 (9, b, w) 7 + (1 : Int32))) ∨ (0 ≤ r.toInt ∧ r.toInt ≤ 191 ∧ M = up (up x.2 (9, b, w) 7 (x.2.1 (9, b, w) 7 + (1 : Int32))) (40, b, w) r.toInt.toNat (bmp (x.2.1 (40, b, w) r.toInt.toNat) 3)))))
theorem goCx {b : Nat} {v : Int32} {M M' : mM} (h : SP_X10_goOn b v M M') (hv : 0 ≤ v.toInt ∧ v.toInt < (M.1 (10, b, 0) 6).toInt ∧ v.toInt < 8) : ∃ z : Int32 × mM, RCH (gsC b v v.toInt.toNat) (0, M) z ∧ geC b v.toInt.toNat z M' := by
  have q0 := il_0
  have q1 := il_1
  have st : ∀ x y : Int32 × mM, ST_X10_goOn_18 b v M v.toInt.toNat x.1 x.2 y.1 y.2 → gsC b v v.toInt.toNat x y := fun x y st => by
    obtain ⟨x1, x2⟩ := x
    obtain ⟨y1, y2⟩ := y
    unfold gsC
    (try dsimp only at st ⊢)
    unfold ST_X10_goOn_18 at st
    rcases st with ⟨p_hv0_18, -, p_hF_18, p_r11_, p_hs15_, p_h14_, p_h16_, p_z17_, p_e18_, p_z19_, p_e20_, p_r21_, p_hs25_, p_h24_, p_hs30_, p_h29_, p_M34_, -, p_hF38_, p_hs40_, p_z41_, p_h42_, p_M43_, -, p_hF47_, p_hs49_, p_M50_, p_hM51_, p_z54_, p_h55_, p_hq_v3_18y, p_hM_⟩
    rw [p_e18_, p_e20_] at p_hs25_
    refine ⟨p_r11_, p_r21_, 1, p_hs15_, p_h16_, by rw [p_hq_v3_18y]; omega, p_hs25_, p_hs30_, il_1, p_h29_.1, p_h29_.2, p_z41_, p_h42_, fun cb => ?_⟩
    rw [p_hM_, p_hM51_, x7settle p_hs49_ p_h29_, x7settle p_hs40_ (by rw [p_e18_]; exact cb), p_e18_]
  unfold SP_X10_goOn at h
  rcases h with (⟨hs5_, h4_, j7_, h8_, h9_, v3_18, hv0_18, M_18, hL_18, -, hF_18, r11_, hs15_, h14_, (⟨h16_, hM_⟩ | ⟨h16_, z17_, e18_, z19_, e20_, r21_, hs25_, h24_, hs30_, z57_, e58_, z59_, h60_, M61_, hM62_, -, M65_, -, hF69_, hs71_, hM_⟩)⟩ | ⟨hs5_, hM_⟩)
  · obtain rfl : j7_ = v.toInt.toNat := by omega
    exact ⟨(v3_18, M_18), RCH_mono hL_18 st, r11_, hs15_, Or.inl ⟨h16_, hM_⟩⟩
  · obtain rfl : j7_ = v.toInt.toNat := by omega
    rw [e18_, e20_] at hs25_
    refine ⟨(v3_18, M_18), RCH_mono hL_18 st, r11_, hs15_, Or.inr ⟨h16_, r21_, 0, hs25_, hs30_, il_0, ?_⟩⟩
    (try dsimp only)
    by_cases p : 0 ≤ r21_.toInt
    · have ad := x9addYes hs71_ ⟨p, h24_.2⟩
      exact Or.inr ⟨p, h24_.2, by rw [hM_, ad, hM62_, h60_, e58_, zupR rfl (by simp)]⟩
    · refine Or.inl ⟨by omega, ?_⟩
      rw [hM_]
      unfold SP_X9_addYes at hs71_
      rcases hs71_ with (⟨k_hs5_, k_h4_, k_j9_, k_h10_, k_z7_, k_e8_, k_z11_, k_h12_, k_z13_, k_h14_, k_j17_, k_h18_, k_M15_, k_hM16_, k_hM_⟩ | ⟨k_hs5_, k_h4_, k_hM_⟩)
      · omega
      · rw [k_hM_, hM62_, h60_, e58_]
  · have := x10has hs5_
    omega
theorem go_both {b : Nat} {v : Int32} {M M' D D2 : mM} (h1 : SP_X10_goOn b v M M') (h2 : SP_X12_goesOn v D D2) (hR : WRR b M.1 (D.1 (50, 0, 0))) (hD : InvD D) (hu : (D.1 (12, 0, 0) 7).toInt = -1) (hv : 0 ≤ v.toInt ∧ v.toInt < nWa (D.1 (50, 0, 0))) : WRR b M'.1 (D2.1 (50, 0, 0)) := by
  have q0 := il_0
  have nw := nWa_b hD.2.1
  have hc := eT hR.2.2.1.1
  obtain ⟨z, c1, c2⟩ := goCx h1 ⟨hv.1, by unfold nWa at hv; omega, by omega⟩
  obtain ⟨s0, y, d0, d1, d2, d3⟩ := goDx h2 ⟨hv.1, by omega⟩
  -- what both hold as they go along
  have facts : ∀ {x : Int32 × mM} {y : Int32 × mM}, WRR b x.2.1 (y.2.1 (50, 0, 0)) → NW5 (y.2.1 (50, 0, 0)) → v.toInt < nWa (y.2.1 (50, 0, 0)) → x.2.1 (9, b, v.toInt.toNat) 1 = y.2.1 (50, 0, 0) (181 + 9 * v.toInt.toNat) ∧ x.2.1 (9, b, v.toInt.toNat) 2 = y.2.1 (50, 0, 0) (182 + 9 * v.toInt.toNat) ∧ x.2.1 (9, b, v.toInt.toNat) 0 = y.2.1 (50, 0, 0) (180 + 9 * v.toInt.toNat) ∧ x.2.1 (9, b, v.toInt.toNat) 7 = y.2.1 (50, 0, 0) (187 + 9 * v.toInt.toNat) ∧
      (0 ≤ (y.2.1 (50, 0, 0) (180 + 9 * v.toInt.toNat)).toInt ∧ (y.2.1 (50, 0, 0) (180 + 9 * v.toInt.toNat)).toInt ≤ 7) ∧ (0 ≤ (y.2.1 (50, 0, 0) (181 + 9 * v.toInt.toNat)).toInt ∧ (y.2.1 (50, 0, 0) (181 + 9 * v.toInt.toNat)).toInt ≤ 191) ∧ (0 ≤ (y.2.1 (50, 0, 0) (182 + 9 * v.toInt.toNat)).toInt ∧ (y.2.1 (50, 0, 0) (182 + 9 * v.toInt.toNat)).toInt ≤ 7) := fun {x y} r i l => by
    have w9 := (r.2.2.1.2 v.toInt.toNat (by omega)).1
    have a1 := w9 1 (by omega)
    have a2 := w9 2 (by omega)
    have a0 := w9 0 (by omega)
    have a7 := w9 7 (by omega)
    rw [show 180 + 9 * v.toInt.toNat + 1 = 181 + 9 * v.toInt.toNat by omega] at a1
    rw [show 180 + 9 * v.toInt.toNat + 2 = 182 + 9 * v.toInt.toNat by omega] at a2
    rw [show 180 + 9 * v.toInt.toNat + 0 = 180 + 9 * v.toInt.toNat by omega] at a0
    rw [show 180 + 9 * v.toInt.toNat + 7 = 187 + 9 * v.toInt.toNat by omega] at a7
    exact ⟨a1, a2, a0, a7, ((i.1 (180 + 9 * v.toInt.toNat)).2.2.2.2.2.2.2 (by omega) (by omega)).1 (by omega), ((i.1 (181 + 9 * v.toInt.toNat)).2.2.2.2.2.2.2 (by omega) (by omega)).2.1 (by omega), ((i.1 (182 + 9 * v.toInt.toNat)).2.2.2.2.2.2.2 (by omega) (by omega)).2.2 (by omega)⟩
  have spd : ∀ {x : Int32 × mM} {sp : Int32} {k : Int32}, SP_X9_speed b v.toInt.toNat x.2 sp → x.2.1 (9, b, v.toInt.toNat) 0 = k → 0 ≤ k.toInt ∧ k.toInt ≤ 7 → sp.toInt = speedI k.toInt := fun {x sp k} h e hk => by
    have := x9speed h (by rw [e]; exact hk)
    rw [this, e]
  have L := lockE (fun x y : Int32 × mM => WRR b x.2.1 (y.2.1 (50, 0, 0)) ∧ NW5 (y.2.1 (50, 0, 0)) ∧ (y.2.1 (12, 0, 0) 7).toInt = -1 ∧ v.toInt < nWa (y.2.1 (50, 0, 0)) ∧ y.2.1 (50, 0, 0) (180 + 9 * v.toInt.toNat) = D.1 (50, 0, 0) (180 + 9 * v.toInt.toNat) ∧ x.1.toInt + y.1.toInt = s0.toInt) c1 d1 ⟨hR, hD.2.1, hu, hv.2, rfl, by dsimp only; omega⟩
    (fun x z y w r s t => by
      obtain ⟨r1, r2, r3, r4, r5, r6⟩ := r
      obtain ⟨sp, rr, f, s1, s2, s3, s4, s5, s6, s7, s8, zz, s9, s10⟩ := s
      obtain ⟨t1, t2, rd, g, t3, t4, t5, t6, t7⟩ := t
      obtain ⟨f1, f2, f0, f7, b0, b1, b2⟩ := facts r1 r2 r4
      rw [f1, f2] at s4
      have fb := free_both s4 s5 t3 (fun _ => t5) r1.2.2.2.2.1 r3 b1 b2
      obtain rfl : rr = rd := fb.1
      have s10 := s10 (by rw [f1]; exact b1)
      rw [f1] at s10
      have rw2 := WRR_wmove (x := rr) (i := zz) (to := rr.toInt.toNat) (c0 := (y.2.1 (50, 0, 0) (181 + 9 * v.toInt.toNat)).toInt.toNat) r1 r2 (w := v.toInt.toNat) (by omega) (by omega) (by unfold wcl; omega) (by omega) (by omega) (by omega)
      rw [← s10, ← t7] at rw2
      refine ⟨rw2, ?_, by rw [t7, up_other _ _ (by simp)]; exact r3, by rw [t7, up_row]; unfold nWa; rw [updN (by omega)]; exact r4, by rw [t7, up_row, updN (by omega)]; exact r5, by omega⟩
      rw [t7, up_row]
      refine ⟨PN_upd r2.1 ?_, WT_upd r2.2 (by omega)⟩
      unfold PN
      omega)
    (fun y y' r t => by
      obtain ⟨r1, r2, r3, r4, r5, r6⟩ := r
      obtain ⟨sp, e1, e2⟩ := c2
      obtain ⟨t1, t2, rd, g, t3, t4, t5, t6, t7⟩ := t
      obtain ⟨f1, f2, f0, f7, b0, b1, b2⟩ := facts r1 r2 r4
      have es := spd e1 f0 b0
      rw [r5, ← d0] at es
      rcases e2 with e2 | ⟨e2, rr, f, e3, e4, e5, e6⟩
      · omega
      · rw [f1, f2] at e3
        have fb := free_both e3 e4 t3 (fun _ => t5) r1.2.2.2.2.1 r3 b1 b2
        have := fb.1
        subst this
        omega)
    (fun x x' r s => by
      obtain ⟨r1, r2, r3, r4, r5, r6⟩ := r
      obtain ⟨sp, rr, f, s1, s2, s3, s4, s5, s6, s7, s8, zz, s9, s10⟩ := s
      obtain ⟨f1, f2, f0, f7, b0, b1, b2⟩ := facts r1 r2 r4
      have es := spd s1 f0 b0
      rw [r5, ← d0] at es
      rcases d3 with d3 | ⟨d3, rd, g, d4, d5⟩
      · omega
      · rw [f1, f2] at s4
        rcases d5 with d5 | ⟨d5, d6, d7, d8⟩
        · have cf := cF_spec s4
          have on := on_spec d4 b1 b2 (by have := il_1; omega)
          omega
        · have fb := free_both s4 s5 d4 (fun _ => d6) r1.2.2.2.2.1 r3 b1 b2
          have := fb.1
          subst this
          omega)
  obtain ⟨r1, r2, r3, r4, r5, r6⟩ := L
  obtain ⟨sp, e1, e2⟩ := c2
  obtain ⟨f1, f2, f0, f7, b0, b1, b2⟩ := facts r1 r2 r4
  have es := spd e1 f0 b0
  rw [r5, ← d0] at es
  rcases e2 with ⟨e2, e3⟩ | ⟨e2, rr, f, e3, e4, e5, e6⟩ <;> rcases d3 with ⟨d3, d4⟩ | ⟨d3, rd, g, d4, d5⟩
  · rw [e3, d4]; exact r1
  · omega
  · omega
  · rw [f1, f2] at e3
    have on := on_spec d4 b1 b2 (by have := il_1; omega)
    have cf := cF_spec e3
    have B := WRR_wf (f := 7) (x := z.2.1 (9, b, v.toInt.toNat) 7 + (1 : Int32)) r1 r2 (w := v.toInt.toNat) (by omega) (by omega)
    rw [show 180 + 9 * v.toInt.toNat + 7 = 187 + 9 * v.toInt.toNat by omega] at B
    have er : rr = rd := i32e (by have := onI_b (c := (y.2.1 (50, 0, 0) (181 + 9 * v.toInt.toNat)).toInt) (s := (y.2.1 (50, 0, 0) (182 + 9 * v.toInt.toNat)).toInt) (y := (1 : Int32).toInt); have := il_1; omega)
    subst er
    rcases e6 with ⟨e6, e7⟩ | ⟨e6, e7, e8⟩ <;> rcases d5 with ⟨d5, d6⟩ | ⟨d5, d6, d7, d8⟩
    · rw [e7, d6, ← f7]; exact B
    · omega
    · omega
    · rw [e8, d8, ← f7]
      have wa := ((r1.2.2.1.2 v.toInt.toNat (by omega)).2 rr.toInt.toNat (by omega)).1
      rw [← wa]
      refine WRR_yes B ?_ (by rw [up_row]; unfold nWa at r4 ⊢; rw [updN (by omega)]; omega) (by omega)
      rw [up_row]
      refine ⟨PN_upd r2.1 ?_, WT_upd r2.2 (by omega)⟩
      unfold PN
      omega
