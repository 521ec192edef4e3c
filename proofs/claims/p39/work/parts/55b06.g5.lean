/-! kinds of walkers -/
def reachI (k : Int) : Int := if k = 0 then 3 else if k = 1 then 12 else if k = 2 then 1 else if k = 3 then 6 else if k = 4 then 0 else if k = 5 then 6 else if k = 6 then 5 else 10
def earsI (k : Int) : Int := if k = 6 then 5 else 9
def speedI (k : Int) : Int := if k = 7 then 2 else 1
def abI (k : Int) : Int := if k ≤ 0 then -1 else if k = 5 ∨ k = 7 then 1 else if k = 6 then 3 else 0
def dpI (k : Int) : Int := if k < 0 then 0 else if k = 0 then 1 else if k ≤ 4 then 2 else 3
def undP (k o : Int) : Prop := 0 ≤ k ∧ (o = k ∨ o = 0 ∨ ((k = 5 ∨ k = 7) ∧ o = 1) ∨ (k = 6 ∧ o = 3))
theorem tbl_re : ∀ j : Nat, j < 8 → (([3, 12, 1, 6, 0, 6, 5, 10] : List Int32).getD j 0).toInt = reachI (j : Int) := by decide +kernel
theorem tbl_ears : ∀ j : Nat, j < 8 → (([9, 9, 9, 9, 9, 9, 5, 9] : List Int32).getD j 0).toInt = earsI (j : Int) := by decide +kernel
theorem tbl_spd : ∀ j : Nat, j < 8 → (([1, 1, 1, 1, 1, 1, 1, 2] : List Int32).getD j 0).toInt = speedI (j : Int) := by decide +kernel
theorem tbl_abv : ∀ j : Nat, j < 8 → (([-1, 0, 0, 0, 0, 1, 3, 1] : List Int32).getD j 0).toInt = abI (j : Int) := by decide +kernel
theorem reachI_b (k : Int) : 0 ≤ reachI k ∧ reachI k ≤ 12 := by
  unfold reachI
  repeat' split
  all_goals omega
theorem x9reach {b w : Nat} {M : mM} {r : Int32} (h : SP_X9_reach b w M r) (hk : 0 ≤ (M.1 (9, b, w) 0).toInt ∧ (M.1 (9, b, w) 0).toInt ≤ 7) : r.toInt = reachI (M.1 (9, b, w) 0).toInt := by
  unfold SP_X9_reach at h
  rcases h with ⟨z1_, e2_, (⟨h3_, hr_⟩ | ⟨h3_, (⟨h6_, hr_⟩ | ⟨h6_, j11_, h12_, z9_, e10_, h13_, hr_⟩)⟩)⟩
  · have := eT e2_; omega
  · have := eT e2_; omega
  · have y := eT e2_
    rw [eT hr_, e10_, tbl_re j11_ (by omega), h12_, y]
theorem x9ears {b w : Nat} {M : mM} {r : Int32} (h : SP_X9_ears b w M r) (hk : 0 ≤ (M.1 (9, b, w) 0).toInt ∧ (M.1 (9, b, w) 0).toInt ≤ 7) : r.toInt = earsI (M.1 (9, b, w) 0).toInt := by
  unfold SP_X9_ears at h
  rcases h with ⟨z1_, e2_, (⟨h3_, hr_⟩ | ⟨h3_, (⟨h6_, hr_⟩ | ⟨h6_, j11_, h12_, z9_, e10_, h13_, hr_⟩)⟩)⟩
  · have := eT e2_; omega
  · have := eT e2_; omega
  · have y := eT e2_
    rw [eT hr_, e10_, tbl_ears j11_ (by omega), h12_, y]
theorem x9speed {b w : Nat} {M : mM} {r : Int32} (h : SP_X9_speed b w M r) (hk : 0 ≤ (M.1 (9, b, w) 0).toInt ∧ (M.1 (9, b, w) 0).toInt ≤ 7) : r.toInt = speedI (M.1 (9, b, w) 0).toInt := by
  unfold SP_X9_speed at h
  rcases h with ⟨z1_, e2_, (⟨h3_, hr_⟩ | ⟨h3_, (⟨h6_, hr_⟩ | ⟨h6_, j11_, h12_, z9_, e10_, h13_, hr_⟩)⟩)⟩
  · have := eT e2_; omega
  · have := eT e2_; omega
  · have y := eT e2_
    rw [eT hr_, e10_, tbl_spd j11_ (by omega), h12_, y]
theorem x9above {v : Int32} {M : mM} {r : Int32} (h : SP_X9_kindAbove v M r) (hv : -1 ≤ v.toInt ∧ v.toInt ≤ 7) : r.toInt = abI v.toInt := by
  have qm := il_m1
  unfold abI
  unfold SP_X9_kindAbove at h
  rcases h with (⟨h1_, hr_⟩ | ⟨h1_, (⟨h2_, hr_⟩ | ⟨h2_, j5_, h6_, z3_, e4_, hr_⟩)⟩)
  · have := eT hr_; rw [if_pos (by omega)]; omega
  · omega
  · have e := tbl_abv j5_ (by omega)
    rw [← e4_, ← hr_, h6_] at e
    exact e
theorem und_step {k x o a : Int} (hx : 0 ≤ x ∧ x ≤ 7) (hn : ¬ x = o) (ha : a = abI x) (h : undP k o ↔ undP x o) : undP k o ↔ undP a o := by
  rw [h, ha]
  unfold undP abI
  repeat' split
  all_goals omega
theorem x9isOf {b w : Nat} {v : Int32} {M : mM} {r : Int32} (h : SP_X9_isOf b w v M r) (hk : 0 ≤ (M.1 (9, b, w) 0).toInt ∧ (M.1 (9, b, w) 0).toInt ≤ 7) : (r.toInt = 1 ∧ undP (M.1 (9, b, w) 0).toInt v.toInt) ∨ (r.toInt = 0 ∧ ¬ undP (M.1 (9, b, w) 0).toInt v.toInt) := by
  have q0 := il_0
  have q1 := il_1
  unfold SP_X9_isOf at h
  rcases h with ⟨z1_, e2_, v3_7, hv0_7, hv1_7, v2_7, hL_7, (⟨h4_, hr_⟩ | ⟨h4_, (⟨h5_, hr_⟩ | ⟨h5_, h6_, hr_⟩)⟩)⟩
  all_goals
    have g := rind hL_7 (fun z => 0 ≤ z.1.toInt ∧ (-1 ≤ z.2.toInt ∧ z.2.toInt ≤ 7) ∧ z.1.toInt + dpI z.2.toInt ≤ 3 ∧ (undP (M.1 (9, b, w) 0).toInt v.toInt ↔ undP z.2.toInt v.toInt)) (by
      have y := eT e2_
      (try dsimp only)
      refine ⟨by omega, by omega, ?_, by rw [y]⟩
      unfold dpI
      repeat' split
      all_goals omega) (fun x z hp hst => by
      obtain ⟨x1, x2⟩ := x
      obtain ⟨z1, z2⟩ := z
      (try dsimp only at hp hst ⊢)
      unfold ST_X9_isOf_7 at hst
      rcases hst with ⟨p_hv0_7, p_hv1_7, p_h4_, p_h5_, p_h6_, p_r7_, p_hs11_, p_z12_, p_h13_, p_hq_v3_7y, p_hq_v2_7y⟩
      have a := x9above p_hs11_ hp.2.1
      rw [p_hq_v3_7y, p_hq_v2_7y]
      refine ⟨by omega, ?_, ?_, und_step ⟨p_h5_, hp.2.1.2⟩ p_h6_ a hp.2.2.2⟩
      · rw [a]
        unfold abI
        repeat' split
        all_goals omega
      · have d := hp.2.2.1
        rw [a, p_h13_]
        unfold dpI abI at *
        repeat' split at d
        all_goals (repeat' split)
        all_goals omega)
    (try dsimp only at g)
  · have := eT hr_
    have d := g.2.2.1
    unfold dpI at d
    repeat' split at d
    all_goals omega
  · have := eT hr_
    right
    refine ⟨by omega, fun u => ?_⟩
    have := g.2.2.2.mp u
    unfold undP at this
    omega
  · have := eT hr_
    left
    refine ⟨by omega, g.2.2.2.mpr ?_⟩
    unfold undP
    omega
theorem x12above {v : Int32} {M : mM} {r : Int32} (h : SP_X12_above v M r) (hv : 0 ≤ v.toInt ∧ v.toInt ≤ 7) : r.toInt = abI v.toInt := by
  have qm := il_m1
  have q0 := il_0
  have q1 := il_1
  have q3 : (3 : Int32).toInt = 3 := by decide
  unfold abI
  unfold SP_X12_above at h
  rcases h with (⟨h1_, (⟨h2_, hr_⟩ | ⟨h2_, (⟨h3_, (⟨h4_, hr_⟩ | ⟨h4_, hr_⟩)⟩ | ⟨h3_, hr_⟩)⟩)⟩ | ⟨h1_, hr_⟩)
  all_goals
    have := eT hr_
    repeat' split
    all_goals omega
theorem x12isUnder {v u : Int32} {M : mM} {r : Int32} (h : SP_X12_isUnder v u M r) (hk : 0 ≤ v.toInt ∧ v.toInt ≤ 7) : (r.toInt = 1 ∧ undP v.toInt u.toInt) ∨ (r.toInt = 0 ∧ ¬ undP v.toInt u.toInt) := by
  have q0 := il_0
  have q1 := il_1
  unfold SP_X12_isUnder at h
  rcases h with ⟨v2_2, hL_2, (⟨h2_, h3_, hr_⟩ | ⟨h2_, h4_, h5_, hr_⟩)⟩
  all_goals
    have g := rind hL_2 (fun z => (-1 ≤ z.toInt ∧ z.toInt ≤ 7) ∧ (undP v.toInt u.toInt ↔ undP z.toInt u.toInt)) ⟨by omega, Iff.rfl⟩ (fun x z hp hst => by
      (try dsimp only at hp hst ⊢)
      unfold ST_X12_isUnder_2 at hst
      rcases hst with ⟨p_h2_, p_h4_, p_r6_, p_hs10_, p_h9_, p_hq_v2_2y⟩
      have a := x12above p_hs10_ ⟨p_h2_, hp.1.2⟩
      rw [p_hq_v2_2y]
      refine ⟨?_, und_step ⟨p_h2_, hp.1.2⟩ p_h4_ a hp.2⟩
      rw [a]
      unfold abI
      repeat' split
      all_goals omega)
    (try dsimp only at g)
  · have := eT hr_
    right
    refine ⟨by omega, fun u => ?_⟩
    have := g.2.mp u
    unfold undP at this
    omega
  · have := eT hr_
    left
    refine ⟨by omega, g.2.mpr ?_⟩
    unfold undP
    omega
theorem x12kindOf {v : Int32} {M : mM} {r : Int32} (h : SP_X12_kindOf v M r) (hv : 0 ≤ v.toInt ∧ v.toInt ≤ 7) : r = M.1 (50, 0, 0) (180 + 9 * v.toInt.toNat) := by
  unfold SP_X12_kindOf at h
  rcases h with ⟨r1_, hs5_, h4_, z6_, h7_, j10_, h11_, z8_, e9_, h12_, hr_⟩
  obtain rfl : j10_ = 180 + 9 * v.toInt.toNat := by omega
  rw [hr_, e9_]
theorem x12reachOf {v : Int32} {M : mM} {r : Int32} (h : SP_X12_reachOf v M r) (hv : 0 ≤ v.toInt ∧ v.toInt ≤ 7) : r.toInt = reachI v.toInt := by
  have i3 : (3 : Int32).toInt = 3 := by decide
  have i0 := il_0
  have i1 := il_1
  unfold reachI
  unfold SP_X12_reachOf at h
  rcases h with (⟨e1_, hr_⟩ | ⟨e1_, r2_, hs6_, h5_, z7_, h8_, hr_⟩ | ⟨e1_, hr_⟩ | ⟨e1_, r9_, hs13_, h12_, z14_, h15_, hr_⟩ | ⟨e1_, hr_⟩ | ⟨e1_, r16_, hs20_, h19_, z21_, h22_, hr_⟩ | ⟨e1_, r23_, hs27_, h26_, z28_, h29_, hr_⟩ | ⟨e1_, r30_, hs34_, h33_, z35_, h36_, hr_⟩)
  all_goals
    have := eT hr_
    repeat' split
    all_goals omega
theorem x12reach {v : Int32} {M : mM} {r : Int32} (h : SP_X12_reach v M r) (hv : 0 ≤ v.toInt ∧ v.toInt ≤ 7) : r.toInt = reachI (M.1 (50, 0, 0) (180 + 9 * v.toInt.toNat)).toInt := by
  unfold SP_X12_reach at h
  rcases h with ⟨r1_, hs5_, h4_, r6_, hs10_, h9_, hr_⟩
  have a := x12kindOf hs5_ hv
  have c := x12reachOf hs10_ h4_
  rw [hr_, c, a]
theorem x12ears {v : Int32} {M : mM} {r : Int32} (h : SP_X12_ears v M r) (hv : 0 ≤ v.toInt ∧ v.toInt ≤ 7) : r.toInt = earsI (M.1 (50, 0, 0) (180 + 9 * v.toInt.toNat)).toInt := by
  have i5 : (5 : Int32).toInt = 5 := by decide
  have i9 : (9 : Int32).toInt = 9 := by decide
  unfold SP_X12_ears at h
  rcases h with ⟨r1_, hs5_, h4_, (⟨h6_, hr_⟩ | ⟨h6_, hr_⟩)⟩
  all_goals
    have a := x12kindOf hs5_ hv
    rw [← a]
    unfold earsI
    have := eT hr_
    split <;> omega
