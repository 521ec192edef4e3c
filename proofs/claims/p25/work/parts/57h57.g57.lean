/-! spots() on both sides -/
def DST (p : rf → Nat → Int32) (w : Nat) : Prop := ∀ i j : Nat, (i : Int) < (p (67, 0, 0) w).toInt → j < i → ¬ (p (68, 0, 0) (24 * w + j)).toInt = (p (68, 0, 0) (24 * w + i)).toInt
theorem twoC {w : Nat} {r : Int32} {M : mM} {p : rf → Nat → Int32} (h : SP_X6_hasTwoAlike w M r) (hS : SHR M.1 p) (hw : w < 4) : (r.toInt = 0 ∧ DST p w) ∨ (r.toInt = 1 ∧ ¬ DST p w) := by
  have q0 := il_0
  have q1 := il_1
  obtain ⟨s0, s1, s2⟩ := hS w hw
  have es := eT s1
  have num : ∀ {v r : Int32}, SP_X6_numberAt w v M r → 0 ≤ v.toInt → v.toInt < (M.1 (6, 0, w) 1).toInt → r = p (68, 0, 0) (24 * w + v.toInt.toNat) := fun {v r} a b c => by
    rw [x6num a ⟨b, c⟩]
    exact s2 _ (by omega)
  have inner : ∀ {i y : Int32}, 0 ≤ i.toInt → i.toInt < (M.1 (6, 0, w) 1).toInt → RCH (fun x_ y_ => ST_X6_hasTwoAlike_12 w M i x_ y_) (0 : Int32) y → 0 ≤ y.toInt ∧ ∀ j : Nat, (j : Int) < y.toInt → ¬ (p (68, 0, 0) (24 * w + j)).toInt = (p (68, 0, 0) (24 * w + i.toInt.toNat)).toInt := fun {i y} a b hL => by
    have g := rind hL (fun z : Int32 => 0 ≤ z.toInt ∧ ∀ j : Nat, (j : Int) < z.toInt → ¬ (p (68, 0, 0) (24 * w + j)).toInt = (p (68, 0, 0) (24 * w + i.toInt.toNat)).toInt) ⟨by omega, fun j hj => by omega⟩ (fun x z q st => by
      obtain ⟨p1, p2⟩ := q
      refine xE_ST_X6_hasTwoAlike_12 st (fun k_hv0_12 k_h7_ k_r10_ k_hs14_ k_r15_ k_hs19_ k_h20_ k_z21_ k_h22_ k_hq_v2_12y => ?_)
      have e := eT k_hq_v2_12y
      have n1 := num k_hs14_ a b
      have n2 := num k_hs19_ p1 (by omega)
      refine ⟨by omega, fun j hj => ?_⟩
      by_cases q : (j : Int) = x.toInt
      · rw [show j = x.toInt.toNat by omega, ← n1, ← n2]
        exact fun z => k_h20_ z.symm
      · exact p2 j (by omega))
    exact g
  have loop : ∀ {y : Int32}, RCH (fun x_ y_ => ST_X6_hasTwoAlike_2 w M x_ y_) (1 : Int32) y → 1 ≤ y.toInt ∧ ∀ i j : Nat, (i : Int) < y.toInt → (i : Int) < (p (67, 0, 0) w).toInt → j < i → ¬ (p (68, 0, 0) (24 * w + j)).toInt = (p (68, 0, 0) (24 * w + i)).toInt := fun {y} hL => by
    have g := rind hL (fun z : Int32 => 1 ≤ z.toInt ∧ ∀ i j : Nat, (i : Int) < z.toInt → (i : Int) < (p (67, 0, 0) w).toInt → j < i → ¬ (p (68, 0, 0) (24 * w + j)).toInt = (p (68, 0, 0) (24 * w + i)).toInt) ⟨by omega, fun i j a b c => by omega⟩ (fun x z q st => by
      obtain ⟨p1, p2⟩ := q
      refine xE_ST_X6_hasTwoAlike_2 st (fun k_hv0_2 k_z2_ k_e3_ k_h4_ k_h5_ k_v2_12 k_hv0_12 k_hL_12 k_h7_ k_z8_ k_h9_ k_hq_v1_2y => ?_)
      have e := eT k_hq_v1_2y
      have e3 := eT k_e3_
      have I := inner (by omega) (by omega) k_hL_12
      refine ⟨by omega, fun i j a b c => ?_⟩
      by_cases q : (i : Int) = x.toInt
      · have t := I.2 j (by omega)
        rw [show x.toInt.toNat = i by omega] at t
        exact t
      · exact p2 i j (by omega) b c)
    exact g
  refine xE_SP_X6_hasTwoAlike h (fun v1_2 hv0_2 hL_2 z2_ e3_ h4_ => ⟨(fun h5_ hr_ => ?_), (fun h5_ v2_12 hv0_12 hL_12 h7_ r10_ hs14_ r15_ hs19_ h20_ hr_ => ?_)⟩)
  · have e := eT e3_
    have er := eT hr_
    have g := loop hL_2
    exact Or.inl ⟨by omega, fun i j a b => g.2 i j (by omega) a b⟩
  · have e := eT e3_
    have er := eT hr_
    have n1 := num hs14_ (by omega) (by omega)
    have n2 := num hs19_ hv0_12 (by omega)
    refine Or.inr ⟨by omega, fun z => z v1_2.toInt.toNat v2_12.toInt.toNat (by omega) (by omega) ?_⟩
    rw [← n1, ← n2]
    exact h20_.symm
theorem areC1 {v r : Int32} {M : mM} (h : SP_X12_areCells v 1 M r) (hv : 0 ≤ v.toInt ∧ v.toInt ≤ 3) : (r.toInt = 0 ∧ ¬ (CLS M.1 v.toInt.toNat ∧ DST M.1 v.toInt.toNat)) ∨ (r.toInt = 1 ∧ CLS M.1 v.toInt.toNat ∧ DST M.1 v.toInt.toNat) := by
  have q0 := il_0
  have q1 := il_1
  have in1 : ∀ {k y a : Int32}, 0 ≤ k.toInt → RCH (fun x_ y_ => ST_X12_areCells_50 v 1 M k x_.1 x_.2 y_.1 y_.2) ((0 : Int32), (1 : Int32)) (y, a) → k.toInt ≤ y.toInt → (a.toInt = 1 ∧ ∀ j : Nat, (j : Int) < k.toInt → ¬ (M.1 (68, 0, 0) (24 * v.toInt.toNat + j)).toInt = (M.1 (68, 0, 0) (24 * v.toInt.toNat + k.toInt.toNat)).toInt) ∨ (a.toInt = 0 ∧ ∃ j : Nat, (j : Int) < k.toInt ∧ (M.1 (68, 0, 0) (24 * v.toInt.toNat + j)).toInt = (M.1 (68, 0, 0) (24 * v.toInt.toNat + k.toInt.toNat)).toInt) := fun {k y a} hk hL hy => by
    have g := rind hL (fun z => 0 ≤ z.1.toInt ∧ ((z.2.toInt = 1 ∧ ∀ j : Nat, (j : Int) < z.1.toInt → ¬ (M.1 (68, 0, 0) (24 * v.toInt.toNat + j)).toInt = (M.1 (68, 0, 0) (24 * v.toInt.toNat + k.toInt.toNat)).toInt) ∨ (z.2.toInt = 0 ∧ ∃ j : Nat, (j : Int) < k.toInt ∧ (M.1 (68, 0, 0) (24 * v.toInt.toNat + j)).toInt = (M.1 (68, 0, 0) (24 * v.toInt.toNat + k.toInt.toNat)).toInt))) ⟨by dsimp only; omega, Or.inl ⟨by dsimp only; exact q1, fun j hj => by dsimp only at hj; omega⟩⟩ (fun x z p st => by
      (try dsimp only at p st ⊢)
      obtain ⟨p1, p2⟩ := p
      refine xE_ST_X12_areCells_50 st (fun k_hv0_50 k_hv1_50 k_hv2_50 k_h34_ => ⟨(fun k_h37_ k_z38_ k_h39_ k_hq_v5_50y k_hq_v3_50y => ?_), (fun k_h37_ => ⟨(fun k_h40_ k_z41_ k_h42_ k_hq_v5_50y k_hq_v3_50y => ?_), (fun k_h40_ k_z43_ k_h44_ k_z45_ k_h46_ k_j49_ k_h50_ k_z47_ k_e48_ k_z51_ k_h52_ k_z53_ k_h54_ k_j57_ k_h58_ k_z55_ k_e56_ => ⟨(fun k_h59_ k_z60_ k_h61_ k_hq_v5_50y k_hq_v3_50y => ?_), (fun k_h59_ k_z62_ k_h63_ k_hq_v5_50y k_hq_v3_50y => ?_)⟩)⟩)⟩)
      · have e1 := eT k_hq_v5_50y
        have e2 := eT k_hq_v3_50y
        refine ⟨by omega, Or.inr ⟨by omega, ?_⟩⟩
        rcases p2 with p2 | p2
        · omega
        · exact p2.2
      · exfalso
        omega
      · have e1 := eT k_hq_v5_50y
        have e2 := eT k_hq_v3_50y
        have a1 := eT k_e48_
        have a2 := eT k_e56_
        rw [show k_j49_ = 24 * v.toInt.toNat + x.1.toInt.toNat by omega] at a1
        rw [show k_j57_ = 24 * v.toInt.toNat + k.toInt.toNat by omega] at a2
        exact ⟨by omega, Or.inr ⟨by omega, x.1.toInt.toNat, by omega, by omega⟩⟩
      · have e1 := eT k_hq_v5_50y
        have e2 := eT k_hq_v3_50y
        have a1 := eT k_e48_
        have a2 := eT k_e56_
        rw [show k_j49_ = 24 * v.toInt.toNat + x.1.toInt.toNat by omega] at a1
        rw [show k_j57_ = 24 * v.toInt.toNat + k.toInt.toNat by omega] at a2
        refine ⟨by omega, Or.inl ⟨by omega, fun j hj => ?_⟩⟩
        rcases p2 with p2 | p2
        · by_cases q : (j : Int) = x.1.toInt
          · rw [show j = x.1.toInt.toNat by omega]
            omega
          · exact p2.2 j (by omega)
        · omega)
    (try dsimp only at g)
    rcases g.2 with g2 | g2
    · exact Or.inl ⟨g2.1, fun j hj => g2.2 j (by omega)⟩
    · exact Or.inr g2
  have in0 : ∀ {k y a : Int32}, RCH (fun x_ y_ => ST_X12_areCells_50b v 1 M k x_.1 x_.2 y_.1 y_.2) ((0 : Int32), (0 : Int32)) (y, a) → a.toInt = 0 := fun {k y a} hL => by
    have g := rind hL (fun z => z.2.toInt = 0) (by dsimp only; exact q0) (fun x z p st => by
      (try dsimp only at p st ⊢)
      refine xE_ST_X12_areCells_50b st (fun k_hv0_50 k_hv1_50 k_hv2_50 k_h65_ => ⟨(fun k_h68_ k_z69_ k_h70_ k_hq_v5_50y k_hq_v3_50y => ?_), (fun k_h68_ => ⟨(fun k_h71_ k_z72_ k_h73_ k_hq_v5_50y k_hq_v3_50y => ?_), (fun k_h71_ k_z74_ k_h75_ k_z76_ k_h77_ k_j80_ k_h81_ k_z78_ k_e79_ k_z82_ k_h83_ k_z84_ k_h85_ k_j88_ k_h89_ k_z86_ k_e87_ => ⟨(fun k_h90_ k_z91_ k_h92_ k_hq_v5_50y k_hq_v3_50y => ?_), (fun k_h90_ k_z93_ k_h94_ k_hq_v5_50y k_hq_v3_50y => ?_)⟩)⟩)⟩)
      · have := eT k_hq_v3_50y; omega
      · omega
      · omega
      · omega)
    exact g
  unfold CLS DST
  have loop : ∀ {y a : Int32}, RCH (fun x_ y_ => ST_X12_areCells_16 v 1 M x_.1 x_.2 y_.1 y_.2) ((0 : Int32), (1 : Int32)) (y, a) → (0 ≤ y.toInt ∧ (y.toInt ≤ (M.1 (67, 0, 0) v.toInt.toNat).toInt ∨ y.toInt = 0)) ∧ ((a.toInt = 1 ∧ ∀ i : Nat, (i : Int) < y.toInt → (0 ≤ (M.1 (68, 0, 0) (24 * v.toInt.toNat + i)).toInt ∧ (M.1 (68, 0, 0) (24 * v.toInt.toNat + i)).toInt ≤ 191) ∧ ∀ j : Nat, j < i → ¬ (M.1 (68, 0, 0) (24 * v.toInt.toNat + j)).toInt = (M.1 (68, 0, 0) (24 * v.toInt.toNat + i)).toInt) ∨ (a.toInt = 0 ∧ ∃ i : Nat, (i : Int) < y.toInt ∧ ¬ ((0 ≤ (M.1 (68, 0, 0) (24 * v.toInt.toNat + i)).toInt ∧ (M.1 (68, 0, 0) (24 * v.toInt.toNat + i)).toInt ≤ 191) ∧ ∀ j : Nat, j < i → ¬ (M.1 (68, 0, 0) (24 * v.toInt.toNat + j)).toInt = (M.1 (68, 0, 0) (24 * v.toInt.toNat + i)).toInt))) := fun {y a} hL => by
    have g := rind hL (fun z => (0 ≤ z.1.toInt ∧ (z.1.toInt ≤ (M.1 (67, 0, 0) v.toInt.toNat).toInt ∨ z.1.toInt = 0)) ∧ ((z.2.toInt = 1 ∧ ∀ i : Nat, (i : Int) < z.1.toInt → (0 ≤ (M.1 (68, 0, 0) (24 * v.toInt.toNat + i)).toInt ∧ (M.1 (68, 0, 0) (24 * v.toInt.toNat + i)).toInt ≤ 191) ∧ ∀ j : Nat, j < i → ¬ (M.1 (68, 0, 0) (24 * v.toInt.toNat + j)).toInt = (M.1 (68, 0, 0) (24 * v.toInt.toNat + i)).toInt) ∨ (z.2.toInt = 0 ∧ ∃ i : Nat, (i : Int) < z.1.toInt ∧ ¬ ((0 ≤ (M.1 (68, 0, 0) (24 * v.toInt.toNat + i)).toInt ∧ (M.1 (68, 0, 0) (24 * v.toInt.toNat + i)).toInt ≤ 191) ∧ ∀ j : Nat, j < i → ¬ (M.1 (68, 0, 0) (24 * v.toInt.toNat + j)).toInt = (M.1 (68, 0, 0) (24 * v.toInt.toNat + i)).toInt)))) ⟨by dsimp only; omega, Or.inl ⟨by dsimp only; exact q1, fun i hi => by dsimp only at hi; omega⟩⟩ (fun x z p st => by
      (try dsimp only at p st ⊢)
      obtain ⟨p1, p2⟩ := p
      refine xE_ST_X12_areCells_16 st (fun k_hv0_16 k_hv1_16 k_hv2_16 k_hv3_16 k_j14_ k_h15_ k_z12_ k_e13_ k_h16_ k_h17_ k_h18_ k_h19_ k_z20_ k_h21_ k_z22_ k_h23_ k_j26_ k_h27_ k_z24_ k_e25_ => ⟨(fun k_hs32_ k_h31_ k_v5_50 k_hv0_50 k_hv1_50 k_v3_50 k_hv2_50 k_hL_50 k_h34_ k_z35_ k_h36_ k_hq_v4_16y k_hq_v3_16y => ?_), (fun k_hs32_ k_h31_ k_v5_50 k_hv0_50 k_hv1_50 k_v3_50 k_hv2_50 k_hL_50 k_h65_ k_z66_ k_h67_ k_hq_v4_16y k_hq_v3_16y => ?_)⟩)
      · have e1 := eT k_hq_v4_16y
        have e3 := eT k_hq_v3_16y
        have em := eT k_e13_
        rw [show k_j14_ = v.toInt.toNat by omega] at em
        have a1 := in1 p1.1 k_hL_50 k_h34_
        have cell := k_h31_
        rw [k_e25_, show k_j26_ = 24 * v.toInt.toNat + x.1.toInt.toNat by omega] at cell
        rcases a1 with a1 | a1
        · refine ⟨by omega, Or.inl ⟨by omega, fun i hi => ?_⟩⟩
          rcases p2 with p2 | p2
          · by_cases q : (i : Int) = x.1.toInt
            · rw [show i = x.1.toInt.toNat by omega]
              exact ⟨cell, fun j hj => a1.2 j (by omega)⟩
            · exact p2.2 i (by omega)
          · exact absurd p2.1 k_h18_
        · obtain ⟨a2, j, a3, a4⟩ := a1
          exact ⟨by omega, Or.inr ⟨by omega, x.1.toInt.toNat, by omega, fun z => z.2 j (by omega) a4⟩⟩
      · have e1 := eT k_hq_v4_16y
        have e3 := eT k_hq_v3_16y
        have em := eT k_e13_
        rw [show k_j14_ = v.toInt.toNat by omega] at em
        have a1 := in0 k_hL_50
        have cell := k_h31_
        rw [k_e25_, show k_j26_ = 24 * v.toInt.toNat + x.1.toInt.toNat by omega] at cell
        exact ⟨by omega, Or.inr ⟨by omega, x.1.toInt.toNat, by omega, fun z => cell z.1⟩⟩)
    exact g
  refine xE_SP_X12_areCells h (fun j3_ h4_ z1_ e2_ h5_ => ⟨(fun hs10_ h9_ v4_16 hv0_16 hv1_16 v3_16 hv2_16 hv3_16 hL_16 j14_ h15_ z12_ e13_ h16_ => ⟨(fun h17_ hr_ => ?_), (fun h17_ h18_ hr_ => ?_)⟩), (fun hs10_ h9_ v4_16 hv0_16 hv1_16 v3_16 hv2_16 hv3_16 hL_16 j98_ h99_ z96_ e97_ h100_ => ⟨(fun h101_ hr_ => ?_), (fun h101_ h102_ hr_ => ?_)⟩)⟩)
  · have e := eT e2_
    rw [show j3_ = v.toInt.toNat by omega] at e
    have e2 := eT e13_
    rw [show j14_ = v.toInt.toNat by omega] at e2
    have er := eT hr_
    obtain ⟨g1, g2⟩ := loop hL_16
    rcases g2 with g2 | g2
    · exact Or.inr ⟨by omega, ⟨by omega, fun i hi => (g2.2 i (by omega)).1⟩, fun i j hi hj => (g2.2 i (by omega)).2 j hj⟩
    · obtain ⟨g3, i, g4, g5⟩ := g2
      have ii : (i : Int) < (M.1 (67, 0, 0) v.toInt.toNat).toInt := by clear g5; omega
      exact Or.inl ⟨by clear g5; omega, fun z => g5 ⟨z.1.2 i ii, fun j hj => z.2 i j ii hj⟩⟩
  · have e := eT e2_
    rw [show j3_ = v.toInt.toNat by omega] at e
    have e2 := eT e13_
    rw [show j14_ = v.toInt.toNat by omega] at e2
    have er := eT hr_
    obtain ⟨g1, g2⟩ := loop hL_16
    rcases g2 with g2 | g2
    · exact absurd g2.1 (by omega)
    · obtain ⟨g3, i, g4, g5⟩ := g2
      have ii : (i : Int) < (M.1 (67, 0, 0) v.toInt.toNat).toInt := by clear g5; omega
      exact Or.inl ⟨by clear g5; omega, fun z => g5 ⟨z.1.2 i ii, fun j hj => z.2 i j ii hj⟩⟩
  · have e := eT e2_
    rw [show j3_ = v.toInt.toNat by omega] at e
    have er := eT hr_
    have g := rind hL_16 (fun z => z.2.toInt = 0) (by dsimp only; exact q0) (fun x z p st => by
      (try dsimp only at p st ⊢)
      refine xE_ST_X12_areCells_16b st (fun k_hv0_16 k_hv1_16 k_hv2_16 k_hv3_16 k_j98_ k_h99_ k_z96_ k_e97_ k_h100_ k_h101_ k_h102_ k_h103_ k_z104_ k_h105_ k_z106_ k_h107_ k_j110_ k_h111_ k_z108_ k_e109_ => ⟨(fun k_hs116_ k_h115_ k_v5_50 k_hv0_50 k_hv1_50 k_v3_50 k_hv2_50 k_hL_50 k_h118_ k_z119_ k_h120_ k_hq_v4_16y k_hq_v3_16y => ?_), (fun k_hs116_ k_h115_ k_v5_50 k_hv0_50 k_hv1_50 k_v3_50 k_hv2_50 k_hL_50 k_h149_ k_z150_ k_h151_ k_hq_v4_16y k_hq_v3_16y => ?_)⟩)
      all_goals (exfalso; omega))
    (try dsimp only at g)
    exact Or.inl ⟨by omega, fun z => h9_ (by omega)⟩
  · have e := eT e2_
    rw [show j3_ = v.toInt.toNat by omega] at e
    have er := eT hr_
    exact Or.inl ⟨by omega, fun z => h9_ (by omega)⟩
def PSX (v u : Int32) (C0 D0 : mM) (n : Nat → Int32) : Prop := WRR 0 C0.1 n ∧ NW5 n ∧ D0.1 (50, 0, 0) = n ∧ SHR C0.1 D0.1 ∧ (0 ≤ v.toInt ∧ v.toInt < nWa n) ∧ (0 ≤ u.toInt ∧ u.toInt ≤ 3) ∧ CLS D0.1 u.toInt.toNat ∧ (D0.1 (12, 0, 0) 7).toInt = -1
theorem spot_marks {v u y y' a a' : Int32} {wu : Nat} {C0 D0 A2 B2 : mM} {n : Nat → Int32} (hX : PSX v u C0 D0 n) (hwu : (wu : Int) = u.toInt)
    (h1 : RCH (fun x_ y_ => ST_X0_chooseSpots_6 0 wu v C0 x_.1 x_.2.1 x_.2.2 y_.1 y_.2.1 y_.2.2) ((0 : Int32), (0 : Int32), C0) (y, a, A2)) (h2 : RCH (fun x_ y_ => ST_X12_spots_80 v u D0 x_.1 x_.2.1 x_.2.2 y_.1 y_.2.1 y_.2.2) ((0 : Int32), (0 : Int32), D0) (y', a', B2))
    (fc : (D0.1 (67, 0, 0) u.toInt.toNat).toInt ≤ y.toInt ∨ 8 ≤ y.toInt) (fd : (D0.1 (67, 0, 0) u.toInt.toNat).toInt ≤ y'.toInt) :
    a = a' ∧ (∀ i : Nat, i < 32 → (D0.1 (67, 0, 0) u.toInt.toNat).toInt ≤ (i : Int) → bt a i = false) ∧ ∀ i c : Nat, i < 8 → c < 192 → bt a i = true → (MKc i c A2.2 = true ↔ ¬ (B2.1 (60, 0, 0) (192 * i + c)).toInt = 0) := by
  obtain ⟨hR, hN, hn, hS, hv, hu, cu, h7⟩ := hX
  have q0 := il_0
  have q1 := il_1
  have nw := nWa_b hN
  have eu : u.toInt.toNat = wu := by omega
  rw [eu] at cu fc fd ⊢
  have g := lockE (fun (x : Int32 × Int32 × mM) (y : Int32 × Int32 × mM) => (x.1 = y.1 ∧ x.2.1 = y.2.1 ∧ (0 ≤ x.1.toInt ∧ (x.1.toInt ≤ (D0.1 (67, 0, 0) wu).toInt ∨ x.1.toInt = 0))) ∧ (y.2.2.1 (12, 0, 0) 7).toInt = -1 ∧ (∀ i : Nat, i < 32 → x.1.toInt ≤ (i : Int) → bt x.2.1 i = false) ∧ ∀ i c : Nat, (i : Int) < x.1.toInt → c < 192 → bt x.2.1 i = true → (MKc i c x.2.2.2 = true ↔ ¬ (y.2.2.1 (60, 0, 0) (192 * i + c)).toInt = 0)) h1 h2 ⟨⟨rfl, rfl, by dsimp only; omega⟩, h7, fun i _ _ => b_0 i, fun i c hi => by dsimp only at hi; omega⟩ (fun x z y w r s1 s2 => by
    obtain ⟨x1, x2, XM⟩ := x
    obtain ⟨z1, z2, ZM⟩ := z
    obtain ⟨y1, y2, YM⟩ := y
    obtain ⟨w1, w2, WM⟩ := w
    (try dsimp only at r s1 s2 ⊢)
    obtain ⟨⟨r1, r2, r3⟩, r4, r5, r6⟩ := r
    subst r1 r2
    have env : ∀ {cz dz rc : Int32} {dj : Nat} {sz zz1 zz2 : Int32}, FR (S_c_X0_chooseSpots 0 wu) C0 XM → FR S_c_X12_spots D0 YM → sz = XM.1 (6, 0, wu) 1 → x1.toInt < sz.toInt → SP_X6_numberAt wu x1 XM rc → zz1.toInt = 24 * u.toInt → zz2.toInt = zz1.toInt + x1.toInt → (dj : Int) = zz2.toInt → dz = YM.1 (68, 0, 0) dj → WRR 0 XM.1 n ∧ YM.1 (50, 0, 0) = n ∧ dz = rc ∧ (0 ≤ rc.toInt ∧ rc.toInt ≤ 191) ∧ sz.toInt = (D0.1 (67, 0, 0) wu).toInt := fun {cz dz rc dj sz zz1 zz2} F1 F2 a1 a2 a3 b1 b2 b3 b4 => by
      have W : WRR 0 XM.1 n := WRR_same hR hN (fun c k a b => F1 c k (fun q => by unfold wR at a; simp only [S_c_X0_chooseSpots, or_false] at q; omega))
      have su := hS wu (by omega)
      rw [F1 _ _ (by simp [S_c_X0_chooseSpots]), su.2.1] at a1
      have ea := eT a1
      have e6 := eT su.2.1
      have n1 := x6num a3 (by rw [F1 _ _ (by simp [S_c_X0_chooseSpots])]; omega)
      rw [F1 _ _ (by simp [S_c_X0_chooseSpots]), su.2.2 _ (by omega)] at n1
      have m1 : dz = rc := by rw [b4, F2 _ _ (by simp [S_c_X12_spots]), n1, show dj = 24 * wu + x1.toInt.toNat by omega]
      have bt := cu.2 x1.toInt.toNat (by omega)
      rw [← n1] at bt
      exact ⟨W, (funext fun k => F2 _ _ (by simp [S_c_X12_spots])).trans hn, m1, bt, ea⟩
    have fre : ∀ {cell f g : Int32}, WRR 0 XM.1 n → YM.1 (50, 0, 0) = n → (0 ≤ cell.toInt ∧ cell.toInt ≤ 191) → SP_X7_isFree 0 cell XM f → SP_X12_isFree cell YM g → (f.toInt = 1 ↔ g.toInt = 1) ∧ (f.toInt = 0 ∨ f.toInt = 1) ∧ (g.toInt = 0 ∨ g.toInt = 1) := fun {cell f g} W d50 hc a b => by
      have X := x7free a
      have Y := x12free b (b := 0) (q := XM.1) (by rw [d50]; exact W.2.2.2.2.1) hc (by omega)
      rw [r4] at Y
      omega
    refine xE_ST_X12_spots_80 s2 (fun d_hv0_80 _ d_hF_80 d_j39_ d_h40_ d_z37_ d_e38_ d_h41_ d_h42_ d_h43_ d_z100_ d_h101_ d_z102_ d_h103_ d_j106_ d_h107_ d_z104_ d_e105_ d_r108_ d_hs112_ d_h111_ => ⟨(fun d_h113_ d_z114_ d_h115_ d_hq_v6_80y d_hq_v5_80y d_hM_ => ?_), (fun d_h113_ d_z116_ d_h117_ d_z118_ d_h119_ d_z120_ d_h121_ d_z122_ d_h123_ d_j126_ d_h127_ d_z124_ d_e125_ d_M128_ _ d_hF132_ d_hs134_ d_z136_ d_h137_ d_hq_v6_80y d_hq_v5_80y d_hM_ => ?_)⟩)
    · refine xE_ST_X0_chooseSpots_6 s1 (fun c_hv0_6 _ c_hF_6 c_z2_ c_e3_ c_h4_ c_h5_ c_h54_ c_r103_ c_hs107_ => ⟨(fun c_hs112_ c_h111_ c_z114_ c_h115_ c_z116_ c_h117_ c_r118_ c_hs122_ c_M123_ _ c_hF127_ c_hs129_ c_z130_ c_h131_ c_hq_v6_6y c_hq_v5_6y c_hM_ => ?_), (fun c_hs112_ c_z133_ c_h134_ c_hq_v6_6y c_hq_v5_6y c_hM_ => ?_)⟩)
      · have E := env (cz := c_r103_) c_hF_6 d_hF_80 c_e3_ c_h5_ c_hs107_ d_h101_ d_h103_ d_h107_ d_e105_
        obtain ⟨W, d50, dz, cb, sz⟩ := E
        rw [dz] at d_hs112_
        have F := fre W d50 cb c_hs112_ d_hs112_
        exfalso
        omega
      · have E := env (cz := c_r103_) c_hF_6 d_hF_80 c_e3_ c_h5_ c_hs107_ d_h101_ d_h103_ d_h107_ d_e105_
        obtain ⟨W, d50, dz, cb, sz⟩ := E
        have e1 := eT c_hq_v6_6y
        have e2 := eT d_hq_v6_80y
        rw [c_hM_, d_hM_, c_hq_v5_6y, d_hq_v5_80y]
        refine ⟨⟨i32e (by omega), rfl, by omega⟩, r4, fun i hi hk => r5 i hi (by omega), fun i c hi hc hb => ?_⟩
        by_cases q : (i : Int) = x1.toInt
        · have f := r5 i (by omega) (by omega)
          rw [f] at hb
          exact absurd hb (by decide)
        · exact r6 i c (by omega) hc hb
    · refine xE_ST_X0_chooseSpots_6 s1 (fun c_hv0_6 _ c_hF_6 c_z2_ c_e3_ c_h4_ c_h5_ c_h54_ c_r103_ c_hs107_ => ⟨(fun c_hs112_ c_h111_ c_z114_ c_h115_ c_z116_ c_h117_ c_r118_ c_hs122_ c_M123_ _ c_hF127_ c_hs129_ c_z130_ c_h131_ c_hq_v6_6y c_hq_v5_6y c_hM_ => ?_), (fun c_hs112_ c_z133_ c_h134_ c_hq_v6_6y c_hq_v5_6y c_hM_ => ?_)⟩)
      · have E := env (cz := c_r103_) c_hF_6 d_hF_80 c_e3_ c_h5_ c_hs107_ d_h101_ d_h103_ d_h107_ d_e105_
        obtain ⟨W, d50, dz, cb, sz⟩ := E
        have E2 := env (cz := c_r118_) c_hF_6 d_hF_80 c_e3_ c_h5_ c_hs122_ d_h121_ d_h123_ d_h127_ d_e125_
        obtain ⟨-, -, dz2, cb2, -⟩ := E2
        rw [dz2] at d_hs134_
        have e1 := eT c_hq_v6_6y
        have e2 := eT d_hq_v6_80y
        have NC := noteC c_hs129_ W hN hv (by omega) cb2
        have ND := findD (q := XM.1) d_hs134_ d50 W.2.2.2.2.1 (fun w hw i hi => ((W.2.2.2.1 w hw).2 i hi).2) hv hN (by omega) cb2
        obtain ⟨nd1, nd2, nd3⟩ := ND
        rw [c_hM_, d_hM_, c_hq_v5_6y, d_hq_v5_80y, c_h117_, d_h119_, c_h115_, d_h117_]
        refine ⟨⟨i32e (by omega), rfl, by omega⟩, nd1, fun i hi hk => ?_, fun i c hi hc hb => ?_⟩
        · rw [bt_set ⟨r3.1, by omega⟩ hi, r5 i hi (by omega), decide_eq_false (by omega)]
          rfl
        · by_cases q : (i : Int) = x1.toInt
          · have ei : i = x1.toInt.toNat := by omega
            rw [ei]
            exact (NC.2 c hc).trans (nd3 c hc).symm
          · rw [bt_set ⟨r3.1, by omega⟩ (by omega), decide_eq_false q, Bool.or_false] at hb
            have old := r6 i c (by omega) hc hb
            unfold MKc at old ⊢
            rw [NC.1 _ (by omega), nd2 _ (by omega)]
            exact old
      · have E := env (cz := c_r103_) c_hF_6 d_hF_80 c_e3_ c_h5_ c_hs107_ d_h101_ d_h103_ d_h107_ d_e105_
        obtain ⟨W, d50, dz, cb, sz⟩ := E
        rw [dz] at d_hs112_
        have F := fre W d50 cb c_hs112_ d_hs112_
        exfalso
        omega) (fun y y' r s2 => by
    obtain ⟨y1, y2, YM⟩ := y
    (try dsimp only at r s2)
    obtain ⟨⟨r1, r2, r3⟩, -⟩ := r
    have er := eT r1
    have c8 := cu.1
    have a : ∀ {z : Int32} {j : Nat}, FR S_c_X12_spots D0 YM → (j : Int) = u.toInt → z = YM.1 (67, 0, 0) j → y1.toInt < z.toInt → False := fun {z j} F b c d => by
      rw [F _ _ (by simp [S_c_X12_spots]), show j = wu by omega] at c
      have ec := eT c
      omega
    refine xE_ST_X12_spots_80 s2 (fun d_hv0_80 _ d_hF_80 d_j39_ d_h40_ d_z37_ d_e38_ d_h41_ d_h42_ d_h43_ d_z100_ d_h101_ d_z102_ d_h103_ d_j106_ d_h107_ d_z104_ d_e105_ d_r108_ d_hs112_ d_h111_ => ⟨(fun d_h113_ d_z114_ d_h115_ d_hq_v6_80y d_hq_v5_80y d_hM_ => ?_), (fun d_h113_ d_z116_ d_h117_ d_z118_ d_h119_ d_z120_ d_h121_ d_z122_ d_h123_ d_j126_ d_h127_ d_z124_ d_e125_ d_M128_ _ d_hF132_ d_hs134_ d_z136_ d_h137_ d_hq_v6_80y d_hq_v5_80y d_hM_ => ?_)⟩)
    · exact a d_hF_80 d_h40_ d_e38_ d_h43_
    · exact a d_hF_80 d_h40_ d_e38_ d_h43_) (fun x x' r s1 => by
    obtain ⟨x1, x2, XM⟩ := x
    (try dsimp only at r s1)
    obtain ⟨⟨r1, r2, r3⟩, -⟩ := r
    have er := eT r1
    have a : ∀ {z : Int32}, FR (S_c_X0_chooseSpots 0 wu) C0 XM → z = XM.1 (6, 0, wu) 1 → x1.toInt < z.toInt → False := fun {z} F c d => by
      rw [F _ _ (by simp [S_c_X0_chooseSpots]), (hS wu (by omega)).2.1] at c
      have ec := eT c
      omega
    refine xE_ST_X0_chooseSpots_6 s1 (fun c_hv0_6 _ c_hF_6 c_z2_ c_e3_ c_h4_ c_h5_ c_h54_ c_r103_ c_hs107_ => ⟨(fun c_hs112_ c_h111_ c_z114_ c_h115_ c_z116_ c_h117_ c_r118_ c_hs122_ c_M123_ _ c_hF127_ c_hs129_ c_z130_ c_h131_ c_hq_v6_6y c_hq_v5_6y c_hM_ => ?_), (fun c_hs112_ c_z133_ c_h134_ c_hq_v6_6y c_hq_v5_6y c_hM_ => ?_)⟩)
    · exact a c_hF_6 c_e3_ c_h5_
    · exact a c_hF_6 c_e3_ c_h5_)
  (try dsimp only at g)
  obtain ⟨⟨g1, g2, g3⟩, g4, g5, g6⟩ := g
  have er := eT g1
  have c8 := cu.1
  refine ⟨g2, fun i hi hk => g5 i hi (by omega), fun i c hi hc hb => ?_⟩
  by_cases q : (i : Int) < y.toInt
  · exact g6 i c q hc hb
  · have f := g5 i (by omega) (by omega)
    rw [f] at hb
    exact absurd hb (by decide)
