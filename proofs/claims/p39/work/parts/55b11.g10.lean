/-! habits -/
theorem xor4_neg (a : Int32) : 0 ≤ (a ^^^ (4 : Int32)).toInt ↔ 0 ≤ a.toInt := by
  have h1 : (a ^^^ (4 : Int32)).toInt = (a.toBitVec ^^^ (4#32)).toInt := rfl
  have h2 : a.toInt = a.toBitVec.toInt := rfl
  have m1 := BitVec.msb_eq_toInt (x := a.toBitVec ^^^ (4#32))
  have m2 := BitVec.msb_eq_toInt (x := a.toBitVec)
  rw [BitVec.msb_xor, show (4#32).msb = false by decide, Bool.xor_false, m2] at m1
  have m3 := decide_eq_decide.mp m1
  rw [h1, h2]
  omega
theorem fm_and (a : Int32) : fmX a = a &&& (3 : Int32) := by
  have i4 : (4 : Int32).toInt = 4 := by decide
  have i0 := il_0
  have rg := rngI a
  refine i32e ?_
  rw [and3]
  have hd : (a / (4 : Int32)).toInt = a.toInt.tdiv 4 := by rw [Int32.toInt_div_of_ne_right a 4 (by first | decide | simp | (dsimp only; omega)), i4]
  have td : a.toInt.tdiv 4 = (if 0 ≤ a.toInt then a.toInt / 4 else -((-a.toInt) / 4)) := by
    split
    · rename_i h; exact Int.tdiv_eq_ediv_of_nonneg h
    · rename_i h
      have e : a.toInt = -(-a.toInt) := by omega
      rw [e, Int.neg_tdiv, Int.tdiv_eq_ediv_of_nonneg (by omega)]
      rw [show - - -a.toInt = -a.toInt by omega]
  rw [td] at hd
  have hr : (a - a / (4 : Int32) * (4 : Int32)).toInt = a.toInt - (a / (4 : Int32)).toInt * 4 := by
    have m : (a / (4 : Int32) * (4 : Int32)).toInt = (a / (4 : Int32)).toInt * 4 := mulI rfl i4 (by rw [hd]; split <;> omega) (by rw [hd]; split <;> omega)
    exact subI rfl m (by rw [hd]; split <;> omega) (by rw [hd]; split <;> omega)
  have x4 := xor4_neg a
  unfold fmX
  by_cases h1 : (0 : Int32) ≤ a ^^^ 4
  · rw [if_pos h1, hr, hd]
    have := Int32.le_iff_toInt_le.mp h1
    rw [if_pos (by omega)]; omega
  · rw [if_neg h1]
    have h2 : ¬ 0 ≤ a.toInt := fun q => h1 (Int32.le_iff_toInt_le.mpr (by rw [i0]; exact x4.mpr q))
    rw [if_neg h2] at hd
    by_cases h3 : a - a / 4 * 4 = 0
    · rw [if_pos h3]
      have := eT h3
      rw [this, i0]
      rw [hr] at this
      omega
    · rw [if_neg h3]
      have h4 : ¬ (a - a / (4 : Int32) * (4 : Int32)).toInt = 0 := fun q => h3 (i32e (by rw [q, i0]))
      rw [addI hr i4 (by omega) (by omega)]
      rw [hr] at h4
      omega
def heldS (y n : Int) : Int := if n < y then 2 else if y < n then 1 else 0
theorem x9held {b w : Nat} {v : Int32} {M : mM} {r : Int32} (h : SP_X9_held b w v M r) : ((0 ≤ v.toInt ∧ v.toInt ≤ 191) ∧ r.toInt = heldS (M.1 (40, b, w) v.toInt.toNat).toInt (M.1 (41, b, w) v.toInt.toNat).toInt) ∨ (¬ (0 ≤ v.toInt ∧ v.toInt ≤ 191) ∧ r.toInt = 0) := by
  have q0 := il_0
  have q1 := il_1
  have q2 : (2 : Int32).toInt = 2 := by decide
  unfold heldS
  unfold SP_X9_held at h
  rcases h with (⟨hs5_, h4_, j9_, h10_, z7_, e8_, j13_, h14_, z11_, e12_, (⟨h15_, j18_, h19_, z16_, e17_, j22_, h23_, z20_, e21_, (⟨h24_, hr_⟩ | ⟨h24_, hr_⟩)⟩ | ⟨h15_, hr_⟩)⟩ | ⟨hs5_, h4_, hr_⟩)
  · obtain rfl : j9_ = v.toInt.toNat := by omega
    obtain rfl : j13_ = v.toInt.toNat := by omega
    obtain rfl : j18_ = v.toInt.toNat := by omega
    obtain rfl : j22_ = v.toInt.toNat := by omega
    have y1 := eT e8_; have y2 := eT e12_; have y3 := eT e17_; have y4 := eT e21_; have y5 := eT hr_
    left
    refine ⟨h4_, ?_⟩
    repeat' split
    all_goals omega
  · obtain rfl : j9_ = v.toInt.toNat := by omega
    obtain rfl : j13_ = v.toInt.toNat := by omega
    obtain rfl : j18_ = v.toInt.toNat := by omega
    obtain rfl : j22_ = v.toInt.toNat := by omega
    have y1 := eT e8_; have y2 := eT e12_; have y3 := eT e17_; have y4 := eT e21_; have y5 := eT hr_
    left
    refine ⟨h4_, ?_⟩
    repeat' split
    all_goals omega
  · obtain rfl : j9_ = v.toInt.toNat := by omega
    obtain rfl : j13_ = v.toInt.toNat := by omega
    have y1 := eT e8_; have y2 := eT e12_; have y5 := eT hr_
    left
    refine ⟨h4_, ?_⟩
    repeat' split
    all_goals omega
  · have y5 := eT hr_
    right
    exact ⟨h4_, by omega⟩
def HdS (n : Nat → Int32) (w : Nat) (x : Int) : Int := heldS (n (495 + 384 * w + x.toNat)).toInt (n (687 + 384 * w + x.toNat)).toInt
theorem x12held {v u : Int32} {M : mM} {r : Int32} (h : SP_X12_held v u M r) (hv : 0 ≤ v.toInt ∧ v.toInt ≤ 7) (hu : 0 ≤ u.toInt ∧ u.toInt ≤ 191) : r.toInt = HdS (M.1 (50, 0, 0)) v.toInt.toNat u.toInt := by
  have q0 := il_0
  have q1 := il_1
  have q2 : (2 : Int32).toInt = 2 := by decide
  unfold HdS heldS
  unfold SP_X12_held at h
  rcases h with ⟨r1_, hs5_, h4_, j8_, h9_, z6_, e7_, r10_, hs14_, h13_, j17_, h18_, z15_, e16_, (⟨h19_, (⟨h20_, hr_⟩ | ⟨h20_, hr_⟩)⟩ | ⟨h19_, hr_⟩)⟩
  all_goals
    obtain rfl : j8_ = 495 + 384 * v.toInt.toNat + u.toInt.toNat := by omega
    obtain rfl : j17_ = 687 + 384 * v.toInt.toNat + u.toInt.toNat := by omega
    have y1 := eT e7_; have y2 := eT e16_; have y5 := eT hr_
    repeat' split
    all_goals omega
/-- beyond the street it stays so -/
theorem onI_out {c s j k : Int} (hc : 0 ≤ c ∧ c ≤ 191) (hs : 0 ≤ s ∧ s ≤ 7) (hj : 1 ≤ j ∧ j ≤ k) (h : onI c s j < 0) : onI c s k < 0 := by
  unfold onI at h ⊢
  split at h
  · rename_i z; omega
  · rename_i z
    rw [if_neg ?_]
    · omega
    · obtain e | e | e | e | e | e | e | e := side8 hs
      all_goals
        subst e
        simp only [dxI, dyI] at z ⊢
        simp at z ⊢
        omega
def FullP (H : Int → Int) (c s y : Int) : Prop := (1 ≤ y ∧ y ≤ 9 ∧ (∀ j : Int, 1 ≤ j → j < y → ¬ (0 ≤ onI c s j ∧ H (onI c s j) = 2)) ∧ 0 ≤ onI c s y ∧ H (onI c s y) = 2) ∨ (y = 0 ∧ ∀ j : Int, 1 ≤ j → j ≤ 9 → ¬ (0 ≤ onI c s j ∧ H (onI c s j) = 2))
theorem FullP_uniq {H : Int → Int} {c s y z : Int} (h : FullP H c s y) (g : FullP H c s z) : y = z := by
  rcases h with h | h <;> rcases g with g | g
  · rcases Int.lt_trichotomy y z with q | q | q
    · exact absurd h.2.2.2 (g.2.2.1 y h.1 q)
    · exact q
    · exact absurd g.2.2.2 (h.2.2.1 z g.1 q)
  · exact absurd h.2.2.2 (g.2 y h.1 h.2.1)
  · exact absurd g.2.2.2 (h.2 z g.1 g.2.1)
  · rw [h.1, g.1]
theorem x9full {b w : Nat} {v : Int32} {M : mM} {r : Int32} {n : Nat → Int32} (h : SP_X9_yardsToFull b w v M r) (hv : 0 ≤ v.toInt ∧ v.toInt ≤ 7) (hc : M.1 (9, b, w) 1 = n (181 + 9 * w)) (cb : 0 ≤ (n (181 + 9 * w)).toInt ∧ (n (181 + 9 * w)).toInt ≤ 191) (hh : ∀ k, k < 192 → M.1 (40, b, w) k = n (495 + 384 * w + k) ∧ M.1 (41, b, w) k = n (687 + 384 * w + k)) : FullP (HdS n w) (n (181 + 9 * w)).toInt v.toInt r.toInt := by
  have q0 := il_0
  have q1 := il_1
  have K : ∀ {x c r0 h0 : Int32}, 1 ≤ x.toInt → x.toInt ≤ 9 → c = M.1 (9, b, w) 1 → SP_X7_cellFrom c v x M r0 → SP_X9_held b w r0 M h0 → (h0.toInt = 2 ↔ (0 ≤ onI (n (181 + 9 * w)).toInt v.toInt x.toInt ∧ HdS n w (onI (n (181 + 9 * w)).toInt v.toInt x.toInt) = 2)) := fun {x c r0 h0} h1 h2 e a d => by
    have cf := cF_spec a
    rw [e, hc] at cf
    have er : r0.toInt = onI (n (181 + 9 * w)).toInt v.toInt x.toInt := by omega
    have hd := x9held d
    have ob := onI_b (c := (n (181 + 9 * w)).toInt) (s := v.toInt) (y := x.toInt)
    rw [← er] at ob ⊢
    unfold HdS
    rcases hd with hd | hd
    · rw [(hh _ (by omega)).1, (hh _ (by omega)).2] at hd
      omega
    · omega
  have G : ∀ x : Int32, RCH (fun x_ y_ => ST_X9_yardsToFull_2 b w v M x_ y_) (1 : Int32) x → 1 ≤ x.toInt ∧ ∀ j : Int, 1 ≤ j → j < x.toInt → ¬ (0 ≤ onI (n (181 + 9 * w)).toInt v.toInt j ∧ HdS n w (onI (n (181 + 9 * w)).toInt v.toInt j) = 2) := fun x hL =>
    rind hL (fun x => 1 ≤ x.toInt ∧ ∀ j : Int, 1 ≤ j → j < x.toInt → ¬ (0 ≤ onI (n (181 + 9 * w)).toInt v.toInt j ∧ HdS n w (onI (n (181 + 9 * w)).toInt v.toInt j) = 2)) ⟨by omega, fun j h1 h2 => by omega⟩ (fun x z hp hst => by
      (try dsimp only at hp hst ⊢)
      unfold ST_X9_yardsToFull_2 at hst
      rcases hst with ⟨p_hv0_2, p_hv1_2, p_h2_, p_z3_, p_e4_, p_r5_, p_hs9_, p_h8_, p_r10_, p_hs14_, p_h15_, p_z16_, p_h17_, p_hq_v2_2y⟩
      have k := K p_hv0_2 p_h2_ p_e4_ p_hs9_ p_hs14_
      rw [p_hq_v2_2y]
      refine ⟨by omega, fun j h1 h2 => ?_⟩
      by_cases e : j = x.toInt
      · rw [e]; exact fun q => p_h15_ (k.mpr q)
      · exact hp.2 j h1 (by omega))
  unfold SP_X9_yardsToFull at h
  rcases h with ⟨v2_2, hv0_2, hv1_2, hL_2, (⟨h2_, hr_⟩ | ⟨h2_, z3_, e4_, r5_, hs9_, h8_, r10_, hs14_, h15_, hr_⟩)⟩
  · have g := G _ hL_2
    rw [hr_, il_0]
    exact Or.inr ⟨rfl, fun j h1 h2 => g.2 j h1 (by omega)⟩
  · have g := G _ hL_2
    have k := K hv0_2 h2_ e4_ hs9_ hs14_
    rw [hr_]
    exact Or.inl ⟨g.1, h2_, g.2, k.mp h15_⟩
theorem x12full {v u : Int32} {M : mM} {r : Int32} (h : SP_X12_fullAhead v u M r) (hv : 0 ≤ v.toInt ∧ v.toInt ≤ 7) : FullP (HdS (M.1 (50, 0, 0)) v.toInt.toNat) (M.1 (50, 0, 0) (181 + 9 * v.toInt.toNat)).toInt (u &&& (7 : Int32)).toInt r.toInt := by
  have q0 := il_0
  have q1 := il_1
  unfold SP_X12_fullAhead at h
  rcases h with ⟨r1_, hs5_, h4_, z6_, h7_, j10_, h11_, z8_, e9_, h12_, v4_16, hv0_16, hv1_16, hL_16, (⟨h14_, hr_⟩ | ⟨h14_, z15_, h17_, h16_, r18_, hs22_, h21_, (⟨h23_, hr_⟩ | ⟨h23_, z24_, h26_, h25_, r27_, hs31_, h30_, r32_, hs36_, h35_, h37_, hr_⟩)⟩)⟩
  all_goals
    obtain rfl : j10_ = 181 + 9 * v.toInt.toNat := by omega
    rw [← e9_]
    have sb : 0 ≤ (u &&& (7 : Int32)).toInt ∧ (u &&& (7 : Int32)).toInt ≤ 7 := by rw [and7]; omega
    have g := rind hL_16 (fun x => 1 ≤ x.toInt ∧ ∀ j : Int, 1 ≤ j → j < x.toInt → ¬ (0 ≤ onI z8_.toInt (u &&& (7 : Int32)).toInt j ∧ HdS (M.1 (50, 0, 0)) v.toInt.toNat (onI z8_.toInt (u &&& (7 : Int32)).toInt j) = 2)) ⟨by omega, fun j h1 h2 => by omega⟩ (fun x z hp hst => by
      (try dsimp only at hp hst ⊢)
      unfold ST_X12_fullAhead_16 at hst
      rcases hst with ⟨p_hv0_16, p_hv1_16, p_h14_, p_z15_, p_h17_, p_h16_, p_r18_, p_hs22_, p_h21_, p_h23_, p_z24_, p_h26_, p_h25_, p_r27_, p_hs31_, p_h30_, p_r32_, p_hs36_, p_h35_, p_h37_, p_z38_, p_h39_, p_hq_v4_16y⟩
      rw [p_h17_] at p_h21_
      rw [p_h26_] at p_h30_
      have c1 := on_spec p_h21_.1 h12_ sb (by omega)
      have c2 := on_spec p_h30_.1 h12_ sb (by omega)
      have hd := x12held p_hs36_ hv (by omega)
      rw [p_hq_v4_16y]
      refine ⟨by omega, fun j h1 h2 => ?_⟩
      by_cases e : j = x.toInt
      · rw [e, ← c2, ← hd]; exact fun q => p_h37_ q.2
      · exact hp.2 j h1 (by omega))
    (try dsimp only at g)
  · rw [hr_, il_0]
    exact Or.inr ⟨rfl, fun j h1 h2 => g.2 j h1 (by omega)⟩
  · rw [h17_] at h21_
    have c1 := on_spec h21_.1 h12_ sb (by omega)
    rw [hr_, il_0]
    refine Or.inr ⟨rfl, fun j h1 h2 q => ?_⟩
    by_cases z : j < v4_16.toInt
    · exact g.2 j h1 z q
    · have := onI_out h12_ sb (j := v4_16.toInt) (k := j) (by omega) (by omega)
      omega
  · rw [h17_] at h21_
    rw [h26_] at h30_
    have c1 := on_spec h21_.1 h12_ sb (by omega)
    have c2 := on_spec h30_.1 h12_ sb (by omega)
    have hd := x12held hs36_ hv (by omega)
    rw [hr_]
    exact Or.inl ⟨g.1, by omega, g.2, by omega, by rw [← c2, ← hd]; exact h37_⟩
