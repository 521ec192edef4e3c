section
/-! how fast one may go -/
def TriP (N y : Int) : Prop := 0 ≤ y ∧ y ≤ 9 ∧ (∀ j : Int, 0 ≤ j → j < y → (j + 1) * (j + 2) / 2 ≤ N) ∧ (y = 9 ∨ N < (y + 1) * (y + 2) / 2)
theorem TriP_uniq {N y z : Int} (h : TriP N y) (g : TriP N z) : y = z := by
  obtain ⟨h1, h2, h3, h4⟩ := h
  obtain ⟨g1, g2, g3, g4⟩ := g
  rcases Int.lt_trichotomy y z with e | e | e
  · have := g3 y h1 e
    rcases h4 with h4 | h4 <;> omega
  · exact e
  · have := h3 z g1 e
    rcases g4 with g4 | g4 <;> omega
theorem tri_ {k z1 z2 z3 z4 : Int32} (hk : 0 ≤ k.toInt ∧ k.toInt < 9) (h1 : z1.toInt = k.toInt + 1) (h2 : z2.toInt = k.toInt + 2) (h3 : z3 = z1 * z2) (h4 : z4 = z3 / (2 : Int32)) : z4.toInt = (k.toInt + 1) * (k.toInt + 2) / 2 := by
  have i2 : (2 : Int32).toInt = 2 := by decide
  rw [h4, h3]
  obtain e | e | e | e | e | e | e | e | e : k.toInt = 0 ∨ k.toInt = 1 ∨ k.toInt = 2 ∨ k.toInt = 3 ∨ k.toInt = 4 ∨ k.toInt = 5 ∨ k.toInt = 6 ∨ k.toInt = 7 ∨ k.toInt = 8 := by omega
  all_goals
    rw [e] at h1 h2 ⊢
    exact divI (mulI h1 h2 (by first | decide | simp | (dsimp only; omega)) (by first | decide | simp | (dsimp only; omega))) i2 (by first | decide | simp | (dsimp only; omega)) (by first | decide | simp | (dsimp only; omega))
def FreeP (H : Int → Int) (c s y : Int) : Prop := 0 ≤ y ∧ y ≤ 15 ∧ (∀ j : Int, 1 ≤ j → j ≤ y → 0 ≤ onI c s j ∧ H (onI c s j) = 1) ∧ (y = 15 ∨ ¬ (0 ≤ onI c s (y + 1) ∧ H (onI c s (y + 1)) = 1))
theorem FreeP_uniq {H : Int → Int} {c s y z : Int} (h : FreeP H c s y) (g : FreeP H c s z) : y = z := by
  obtain ⟨h1, h2, h3, h4⟩ := h
  obtain ⟨g1, g2, g3, g4⟩ := g
  rcases Int.lt_trichotomy y z with e | e | e
  · have := g3 (y + 1) (by omega) (by omega)
    rcases h4 with h4 | h4
    · omega
    · exact absurd this h4
  · exact e
  · have := h3 (z + 1) (by omega) (by omega)
    rcases g4 with g4 | g4
    · omega
    · exact absurd this g4
theorem x9free {w : Nat} {M : mM} {r : Int32} {n : Nat → Int32} (h : SP_X9_yardsHeldFree 0 w M r) (hc : M.1 (9, 0, w) 1 = n (181 + 9 * w)) (hs : M.1 (9, 0, w) 2 = n (182 + 9 * w)) (cb : 0 ≤ (n (181 + 9 * w)).toInt ∧ (n (181 + 9 * w)).toInt ≤ 191) (sb : 0 ≤ (n (182 + 9 * w)).toInt ∧ (n (182 + 9 * w)).toInt ≤ 7) (hh : ∀ k, k < 192 → M.1 (40, 0, w) k = n (495 + 384 * w + k) ∧ M.1 (41, 0, w) k = n (687 + 384 * w + k)) : FreeP (HdS n w) (n (181 + 9 * w)).toInt (n (182 + 9 * w)).toInt r.toInt := by
  have q0 := il_0
  have hd : ∀ (x z : Int32), SP_X9_held 0 w x M z → (0 ≤ x.toInt ∧ z.toInt = HdS n w x.toInt) ∨ (¬ (0 ≤ x.toInt ∧ x.toInt ≤ 191) ∧ z.toInt = 0) := fun x z hz => by
    rcases x9held hz with H | H
    · left
      have g := hh x.toInt.toNat (by omega)
      refine ⟨H.1.1, ?_⟩
      rw [H.2, g.1, g.2]; rfl
    · exact Or.inr H
  have one : ∀ (i z r9 r14 : Int32), 0 ≤ i.toInt → i.toInt < 15 → z.toInt = i.toInt + 1 → SP_X7_cellFrom (M.1 (9, 0, w) 1) (M.1 (9, 0, w) 2) z M r9 → r9.toInt ≤ 191 → SP_X9_held 0 w r9 M r14 → (r14.toInt = 1 ↔ (0 ≤ onI (n (181 + 9 * w)).toInt (n (182 + 9 * w)).toInt (i.toInt + 1) ∧ HdS n w (onI (n (181 + 9 * w)).toInt (n (182 + 9 * w)).toInt (i.toInt + 1)) = 1)) := fun i z r9 r14 i0 i1 hz hf rb hk => by
    rw [hc, hs] at hf
    have cf := cF_spec hf
    rw [hz] at cf
    have H := hd _ _ hk
    rcases cf with cf | cf
    · rw [← cf.2]
      rcases H with H | H
      · rw [← H.2]
        exact ⟨fun q => ⟨H.1, q⟩, fun q => q.2⟩
      · exact ⟨fun q => by omega, fun q => by omega⟩
    · omega
  unfold SP_X9_yardsHeldFree at h
  rcases h with ⟨v1_2, hv0_2, hv1_2, hL_2, (⟨h2_, hr_⟩ | ⟨h2_, z3_, e4_, z5_, e6_, z7_, h8_, r9_, hs13_, h12_, r14_, hs18_, h19_, hr_⟩)⟩
  all_goals
    have g := rind hL_2 (fun x => 0 ≤ x.toInt ∧ ∀ j : Int, 1 ≤ j → j ≤ x.toInt → 0 ≤ onI (n (181 + 9 * w)).toInt (n (182 + 9 * w)).toInt j ∧ HdS n w (onI (n (181 + 9 * w)).toInt (n (182 + 9 * w)).toInt j) = 1) ⟨by omega, fun j h1 h2 => by omega⟩ (fun x z hp hst => by
      (try dsimp only at hp hst ⊢)
      unfold ST_X9_yardsHeldFree_2 at hst
      obtain ⟨p_hv0_2, p_hv1_2, p_h2_, p_z3_, p_e4_, p_z5_, p_e6_, p_z7_, p_h8_, p_r9_, p_hs13_, p_h12_, p_r14_, p_hs18_, p_h19_, p_z20_, p_h21_, p_hq_v1_2y⟩ := hst
      have o := (one x p_z7_ p_r9_ p_r14_ p_hv0_2 p_h2_ p_h8_ (by rw [← p_e4_, ← p_e6_]; exact p_hs13_) p_h12_.2 p_hs18_).1 p_h19_
      rw [p_hq_v1_2y]
      refine ⟨by omega, fun j h1 h2 => ?_⟩
      by_cases e : j = x.toInt + 1
      · rw [e]; exact o
      · exact hp.2 j h1 (by omega))
    (try dsimp only at g)
    rw [hr_]
  · exact ⟨g.1, hv1_2, g.2, Or.inl (by omega)⟩
  · have o := one v1_2 z7_ r9_ r14_ hv0_2 h2_ h8_ (by rw [← e4_, ← e6_]; exact hs13_) h12_.2 hs18_
    exact ⟨g.1, hv1_2, g.2, Or.inr (fun q => h19_ (o.2 q))⟩
theorem x10sure {v : Int32} {M M' : mM} {r : Int32} {n : Nat → Int32} (h : SP_X10_sureYards 0 v M r M') (hR : WRR 0 M.1 n) (hN : NW5 n) (hv : 0 ≤ v.toInt ∧ v.toInt < nWa n) : ∃ y : Int32, HyP n (occ 0 M.1) v.toInt.toNat (n (181 + 9 * v.toInt.toNat)) (n (182 + 9 * v.toInt.toNat)) y.toInt ∧ 0 ≤ y.toInt ∧ ((y.toInt = 0 ∧ FreeP (HdS n v.toInt.toNat) (n (181 + 9 * v.toInt.toNat)).toInt (n (182 + 9 * v.toInt.toNat)).toInt r.toInt) ∨ (0 < y.toInt ∧ r.toInt = y.toInt - 1)) := by
  have nw := nWa_b hN
  have ec := eT hR.2.2.1.1
  have w1 := (hR.2.2.1.2 v.toInt.toNat (by omega)).1
  have wh := (hR.2.2.1.2 v.toInt.toNat (by omega)).2
  have k1 := w1 1 (by omega)
  have k2 := w1 2 (by omega)
  rw [show 180 + 9 * v.toInt.toNat + 1 = 181 + 9 * v.toInt.toNat by omega] at k1
  rw [show 180 + 9 * v.toInt.toNat + 2 = 182 + 9 * v.toInt.toNat by omega] at k2
  have cb := ((hN.1 (181 + 9 * v.toInt.toNat)).2.2.2.2.2.2.2 (by omega) (by omega)).2.1 (by omega)
  have fb := ((hN.1 (182 + 9 * v.toInt.toNat)).2.2.2.2.2.2.2 (by omega) (by omega)).2.2 (by omega)
  unfold SP_X10_sureYards at h
  rcases h with (⟨hs5_, h4_, j7_, h8_, h9_, z10_, e11_, z12_, e13_, M15_, -, hF19_, r14_, hs21_, h17_, (⟨h22_, r23_, hs27_, hr_, hM_⟩ | ⟨h22_, z28_, h29_, hr_, hM_⟩)⟩ | ⟨hs5_, hr_, hM_⟩)
  · obtain rfl : j7_ = v.toInt.toNat := by omega
    rw [k1] at e11_
    rw [k2] at e13_
    subst e11_ e13_
    have H := x10heard hs21_ hR hN hv cb fb
    have fr : ∀ (c : rf) (k : Nat), c.1 = 9 ∨ c.1 = 40 ∨ c.1 = 41 → M15_.1 c k = M.1 c k := fun c k a => hF19_ c k (fun q => by simp only [S_c_X10_heardYards, or_false] at q; omega)
    refine ⟨r14_, H, by omega, Or.inl ⟨by omega, ?_⟩⟩
    rw [hr_]
    exact x9free hs27_ (by rw [fr _ _ (by simp)]; exact k1) (by rw [fr _ _ (by simp)]; exact k2) cb fb (fun k hk => by rw [fr _ _ (by simp), fr _ _ (by simp)]; exact wh k hk)
  · obtain rfl : j7_ = v.toInt.toNat := by omega
    rw [k1] at e11_
    rw [k2] at e13_
    subst e11_ e13_
    have H := x10heard hs21_ hR hN hv cb fb
    exact ⟨r14_, H, by omega, Or.inr ⟨h22_, by rw [hr_]; exact h29_⟩⟩
  · have q0 := il_0
    have := x10has hs5_
    unfold nWa at hv nw
    exfalso
    omega
theorem triC {N k : Int32} (h : RCH (fun x_ y_ => ST_X11_safe_28 N x_ y_) (0 : Int32) k) : 0 ≤ k.toInt ∧ k.toInt ≤ 9 ∧ ∀ j : Int, 0 ≤ j → j < k.toInt → (j + 1) * (j + 2) / 2 ≤ N.toInt := by
  have q0 := il_0
  refine rind h (fun k => 0 ≤ k.toInt ∧ k.toInt ≤ 9 ∧ ∀ j : Int, 0 ≤ j → j < k.toInt → (j + 1) * (j + 2) / 2 ≤ N.toInt) ⟨by omega, by omega, fun j h1 h2 => by omega⟩ (fun x z hp hst => ?_)
  (try dsimp only at hp hst ⊢)
  unfold ST_X11_safe_28 at hst
  obtain ⟨p_hv0_28, p_hv1_28, p_h16_, p_z17_, p_h18_, p_z19_, p_h20_, p_z21_, p_h22_, p_z23_, p_h24_, p_h25_, p_z26_, p_h27_, p_hq_v3_28y⟩ := hst
  have t := tri_ ⟨p_hv0_28, p_h16_⟩ p_h18_ p_h20_ p_h22_ p_h24_
  rw [p_hq_v3_28y]
  refine ⟨by omega, by omega, fun j h1 h2 => ?_⟩
  by_cases e : j = x.toInt
  · rw [e, ← t]; exact p_h25_
  · exact hp.2.2 j h1 (by omega)
theorem triD {N k : Int32} (h : RCH (fun x_ y_ => ST_X12_safe_113 N x_ y_) (0 : Int32) k) : 0 ≤ k.toInt ∧ k.toInt ≤ 9 ∧ ∀ j : Int, 0 ≤ j → j < k.toInt → (j + 1) * (j + 2) / 2 ≤ N.toInt := by
  have q0 := il_0
  refine rind h (fun k => 0 ≤ k.toInt ∧ k.toInt ≤ 9 ∧ ∀ j : Int, 0 ≤ j → j < k.toInt → (j + 1) * (j + 2) / 2 ≤ N.toInt) ⟨by omega, by omega, fun j h1 h2 => by omega⟩ (fun x z hp hst => ?_)
  (try dsimp only at hp hst ⊢)
  unfold ST_X12_safe_113 at hst
  obtain ⟨p_hv0_113, p_hv1_113, p_h43_, p_z44_, p_h45_, p_z46_, p_h47_, p_z48_, p_h49_, p_z50_, p_h51_, p_h52_, p_z53_, p_h54_, p_hq_v6_113y⟩ := hst
  have t := tri_ ⟨p_hv0_113, p_h43_⟩ p_h45_ p_h47_ p_h49_ p_h51_
  rw [p_hq_v6_113y]
  refine ⟨by omega, by omega, fun j h1 h2 => ?_⟩
  by_cases e : j = x.toInt
  · rw [e, ← t]; exact p_h52_
  · exact hp.2.2 j h1 (by omega)
theorem triDb {N k : Int32} (h : RCH (fun x_ y_ => ST_X12_safe_113b N x_ y_) (0 : Int32) k) : 0 ≤ k.toInt ∧ k.toInt ≤ 9 ∧ ∀ j : Int, 0 ≤ j → j < k.toInt → (j + 1) * (j + 2) / 2 ≤ N.toInt := by
  have q0 := il_0
  refine rind h (fun k => 0 ≤ k.toInt ∧ k.toInt ≤ 9 ∧ ∀ j : Int, 0 ≤ j → j < k.toInt → (j + 1) * (j + 2) / 2 ≤ N.toInt) ⟨by omega, by omega, fun j h1 h2 => by omega⟩ (fun x z hp hst => ?_)
  (try dsimp only at hp hst ⊢)
  unfold ST_X12_safe_113b at hst
  obtain ⟨p_hv0_113, p_hv1_113, p_h58_, p_z59_, p_h60_, p_z61_, p_h62_, p_z63_, p_h64_, p_z65_, p_h66_, p_h67_, p_z68_, p_h69_, p_hq_v6_113y⟩ := hst
  have t := tri_ ⟨p_hv0_113, p_h58_⟩ p_h60_ p_h62_ p_h64_ p_h66_
  rw [p_hq_v6_113y]
  refine ⟨by omega, by omega, fun j h1 h2 => ?_⟩
  by_cases e : j = x.toInt
  · rw [e, ← t]; exact p_h67_
  · exact hp.2.2 j h1 (by omega)
theorem triDc {N k : Int32} (h : RCH (fun x_ y_ => ST_X12_safe_113c N x_ y_) (0 : Int32) k) : 0 ≤ k.toInt ∧ k.toInt ≤ 9 ∧ ∀ j : Int, 0 ≤ j → j < k.toInt → (j + 1) * (j + 2) / 2 ≤ N.toInt := by
  have q0 := il_0
  refine rind h (fun k => 0 ≤ k.toInt ∧ k.toInt ≤ 9 ∧ ∀ j : Int, 0 ≤ j → j < k.toInt → (j + 1) * (j + 2) / 2 ≤ N.toInt) ⟨by omega, by omega, fun j h1 h2 => by omega⟩ (fun x z hp hst => ?_)
  (try dsimp only at hp hst ⊢)
  unfold ST_X12_safe_113c at hst
  obtain ⟨p_hv0_113, p_hv1_113, p_h79_, p_z80_, p_h81_, p_z82_, p_h83_, p_z84_, p_h85_, p_z86_, p_h87_, p_h88_, p_z89_, p_h90_, p_hq_v6_113y⟩ := hst
  have t := tri_ ⟨p_hv0_113, p_h79_⟩ p_h81_ p_h83_ p_h85_ p_h87_
  rw [p_hq_v6_113y]
  refine ⟨by omega, by omega, fun j h1 h2 => ?_⟩
  by_cases e : j = x.toInt
  · rw [e, ← t]; exact p_h88_
  · exact hp.2.2 j h1 (by omega)
theorem triDd {N k : Int32} (h : RCH (fun x_ y_ => ST_X12_safe_113d N x_ y_) (0 : Int32) k) : 0 ≤ k.toInt ∧ k.toInt ≤ 9 ∧ ∀ j : Int, 0 ≤ j → j < k.toInt → (j + 1) * (j + 2) / 2 ≤ N.toInt := by
  have q0 := il_0
  refine rind h (fun k => 0 ≤ k.toInt ∧ k.toInt ≤ 9 ∧ ∀ j : Int, 0 ≤ j → j < k.toInt → (j + 1) * (j + 2) / 2 ≤ N.toInt) ⟨by omega, by omega, fun j h1 h2 => by omega⟩ (fun x z hp hst => ?_)
  (try dsimp only at hp hst ⊢)
  unfold ST_X12_safe_113d at hst
  obtain ⟨p_hv0_113, p_hv1_113, p_h105_, p_z106_, p_h107_, p_z108_, p_h109_, p_z110_, p_h111_, p_z112_, p_h113_, p_h114_, p_z115_, p_h116_, p_hq_v6_113y⟩ := hst
  have t := tri_ ⟨p_hv0_113, p_h105_⟩ p_h107_ p_h109_ p_h111_ p_h113_
  rw [p_hq_v6_113y]
  refine ⟨by omega, by omega, fun j h1 h2 => ?_⟩
  by_cases e : j = x.toInt
  · rw [e, ← t]; exact p_h114_
  · exact hp.2.2 j h1 (by omega)
theorem x12fr {v z14 z26 x : Int32} {M : mM} (h : RCH (fun x_ y_ => ST_X12_safe_65 v z14 z26 M x_ y_) (0 : Int32) x) (hv : 0 ≤ v.toInt ∧ v.toInt ≤ 7) (cb : 0 ≤ z14.toInt ∧ z14.toInt ≤ 191) (sb : 0 ≤ z26.toInt ∧ z26.toInt ≤ 7) : 0 ≤ x.toInt ∧ ∀ j : Int, 1 ≤ j → j ≤ x.toInt → 0 ≤ onI z14.toInt z26.toInt j ∧ HdS (M.1 (50, 0, 0)) v.toInt.toNat (onI z14.toInt z26.toInt j) = 1 := by
  have q0 := il_0
  refine rind h (fun x => 0 ≤ x.toInt ∧ ∀ j : Int, 1 ≤ j → j ≤ x.toInt → 0 ≤ onI z14.toInt z26.toInt j ∧ HdS (M.1 (50, 0, 0)) v.toInt.toNat (onI z14.toInt z26.toInt j) = 1) ⟨by omega, fun j h1 h2 => by omega⟩ (fun x z hp hst => ?_)
  (try dsimp only at hp hst ⊢)
  unfold ST_X12_safe_65 at hst
  obtain ⟨p_hv0_65, p_hv1_65, p_hv2_65, p_h56_, p_z70_, p_h71_, p_r72_, p_hs76_, p_h75_, p_h77_, p_z91_, p_h92_, p_r93_, p_hs97_, p_h96_, p_r98_, p_hs102_, p_h101_, p_h103_, p_z117_, p_h118_, p_hq_v5_65y⟩ := hst
  have c1 := on_spec p_h75_.1 cb sb (by omega)
  have c2 := on_spec p_h96_.1 cb sb (by omega)
  rw [p_h71_] at c1
  rw [p_h92_] at c2
  have hd := x12held p_hs102_ hv (by omega)
  rw [p_hq_v5_65y]
  refine ⟨by omega, fun j h1 h2 => ?_⟩
  by_cases e : j = x.toInt + 1
  · rw [e, ← c1]; exact ⟨p_h77_, by rw [c1, ← c2, ← hd]; exact p_h103_⟩
  · exact hp.2 j h1 (by omega)
theorem an_26 {v : Int32} {M M1 D D2 : mM} {r1 r2 : Int32} (h1 : SP_X11_safe v M r1 M1) (h2 : SP_X12_safe v D r2 D2) (hR : RW 0 M.1 (D.1 (50, 0, 0))) (hD : InvD D) (hu : (D.1 (12, 0, 0) 7).toInt = -1) : r1 = r2 := by
  have q0 := il_0
  have q1 := il_1
  have i2 : (2 : Int32).toInt = 2 := by decide
  have bT := eT hR.1.2.1.1
  have bW := eT hR.1.2.2.1.1
  have nT := nTh_b hD.2.1
  have nW := nWa_b hD.2.1
  unfold nTh at nT
  unfold nWa at nW
  unfold SP_X11_safe at h1
  rcases h1 with (⟨c_hs5_, c_h4_, c_M8_, -, c_hF12_, c_r7_, c_hs14_, c_v3_28, c_hv0_28, c_hv1_28, c_hL_28, (⟨c_h16_, c_hr_, c_hM_⟩ | ⟨c_h16_, c_z17_, c_h18_, c_z19_, c_h20_, c_z21_, c_h22_, c_z23_, c_h24_, c_h25_, c_hr_, c_hM_⟩)⟩ | ⟨c_hs5_, c_M30_, -, c_hF34_, c_r29_, c_hs36_, c_hr_, c_hM_⟩)
  · have qc_hs5_ := x10has c_hs5_
    have yrc_ := eT c_hr_
    unfold SP_X12_safe at h2
    rcases h2 with (⟨d_hs5_, d_h4_, d_r7_, d_hs11_, d_h10_, d_z12_, d_h13_, d_j16_, d_h17_, d_z14_, d_e15_, d_h18_, d_r19_, d_hs23_, d_h22_, d_z24_, d_h25_, d_j28_, d_h29_, d_z26_, d_e27_, d_h30_, d_M32_, -, d_hF36_, d_r31_, d_hs38_, d_h34_, d_z39_, d_h40_, (⟨d_h41_, d_v6_113, d_hv0_113, d_hv1_113, d_hL_113, (⟨d_h43_, d_hr_, d_hM_⟩ | ⟨d_h43_, d_z44_, d_h45_, d_z46_, d_h47_, d_z48_, d_h49_, d_z50_, d_h51_, d_h52_, d_hr_, d_hM_⟩)⟩ | ⟨d_h41_, d_v5_65, d_hv0_65, d_hv1_65, d_hv2_65, d_hL_65, (⟨d_h56_, d_v6_113, d_hv0_113, d_hv1_113, d_hL_113, (⟨d_h58_, d_hr_, d_hM_⟩ | ⟨d_h58_, d_z59_, d_h60_, d_z61_, d_h62_, d_z63_, d_h64_, d_z65_, d_h66_, d_h67_, d_hr_, d_hM_⟩)⟩ | ⟨d_h56_, d_z70_, d_h71_, d_r72_, d_hs76_, d_h75_, (⟨d_h77_, d_v6_113, d_hv0_113, d_hv1_113, d_hL_113, (⟨d_h79_, d_hr_, d_hM_⟩ | ⟨d_h79_, d_z80_, d_h81_, d_z82_, d_h83_, d_z84_, d_h85_, d_z86_, d_h87_, d_h88_, d_hr_, d_hM_⟩)⟩ | ⟨d_h77_, d_z91_, d_h92_, d_r93_, d_hs97_, d_h96_, d_r98_, d_hs102_, d_h101_, d_h103_, d_v6_113, d_hv0_113, d_hv1_113, d_hL_113, (⟨d_h105_, d_hr_, d_hM_⟩ | ⟨d_h105_, d_z106_, d_h107_, d_z108_, d_h109_, d_z110_, d_h111_, d_z112_, d_h113_, d_h114_, d_hr_, d_hM_⟩)⟩)⟩)⟩)⟩ | ⟨d_hs5_, d_M121_, -, d_hF125_, d_r120_, d_hs127_, d_h123_, d_hr_, d_hM_⟩)
    · obtain rfl : d_j16_ = 181 + 9 * v.toInt.toNat := by omega
      obtain rfl : d_j28_ = 182 + 9 * v.toInt.toNat := by omega
      have qd_hs5_ := is2x d_hs5_
      have yd_e15_ := eT d_e15_
      have yd_e27_ := eT d_e27_
      have yrd_ := eT d_hr_
      have hv : 0 ≤ v.toInt ∧ v.toInt < nWa (D.1 (50, 0, 0)) := by unfold nWa; omega
      subst d_e15_ d_e27_
      have hX : ∀ w, w < 3 → ∀ i : Nat, (i : Int) < (D.1 (50, 0, 0) (345 + 50 * w)).toInt → cOK (nnU w) (D.1 (50, 0, 0) (346 + 50 * w + i)) := fun w hw i hi => ((hR.1.2.2.2.1 w hw).2 i hi).2
      obtain ⟨y, Y1, Y2, Y3⟩ := x10sure c_hs14_ hR.1 hD.2.1 hv
      have E2 := x12heard d_hs38_ hR.1.2.2.2.2.1 hD hX hv d_h18_ d_h30_ (Or.inr ⟨hu, rfl⟩)
      have ey := HyP_uniq Y1 E2
      have e50 : d_M32_.1 (50, 0, 0) = D.1 (50, 0, 0) := funext fun k => d_hF36_ _ _ (by simp [S_c_X12_heardFrom])
      have TC : TriP c_r7_.toInt c_v3_28.toInt := ⟨(triC c_hL_28).1, (triC c_hL_28).2.1, (triC c_hL_28).2.2, Or.inl (by have := (triC c_hL_28).2.1; omega)⟩
      have TD : TriP d_z39_.toInt d_v6_113.toInt := ⟨(triD d_hL_113).1, (triD d_hL_113).2.1, (triD d_hL_113).2.2, Or.inl (by have := (triD d_hL_113).2.1; omega)⟩
      rcases Y3 with Y3 | Y3
      · omega
      · rw [show c_r7_.toInt = d_z39_.toInt by omega] at TC
        rw [c_hr_, d_hr_]
        exact i32e (TriP_uniq TC TD)
    · obtain rfl : d_j16_ = 181 + 9 * v.toInt.toNat := by omega
      obtain rfl : d_j28_ = 182 + 9 * v.toInt.toNat := by omega
      have qd_hs5_ := is2x d_hs5_
      have yd_e15_ := eT d_e15_
      have yd_e27_ := eT d_e27_
      have yrd_ := eT d_hr_
      have hv : 0 ≤ v.toInt ∧ v.toInt < nWa (D.1 (50, 0, 0)) := by unfold nWa; omega
      subst d_e15_ d_e27_
      have hX : ∀ w, w < 3 → ∀ i : Nat, (i : Int) < (D.1 (50, 0, 0) (345 + 50 * w)).toInt → cOK (nnU w) (D.1 (50, 0, 0) (346 + 50 * w + i)) := fun w hw i hi => ((hR.1.2.2.2.1 w hw).2 i hi).2
      obtain ⟨y, Y1, Y2, Y3⟩ := x10sure c_hs14_ hR.1 hD.2.1 hv
      have E2 := x12heard d_hs38_ hR.1.2.2.2.2.1 hD hX hv d_h18_ d_h30_ (Or.inr ⟨hu, rfl⟩)
      have ey := HyP_uniq Y1 E2
      have e50 : d_M32_.1 (50, 0, 0) = D.1 (50, 0, 0) := funext fun k => d_hF36_ _ _ (by simp [S_c_X12_heardFrom])
      have TC : TriP c_r7_.toInt c_v3_28.toInt := ⟨(triC c_hL_28).1, (triC c_hL_28).2.1, (triC c_hL_28).2.2, Or.inl (by have := (triC c_hL_28).2.1; omega)⟩
      have TD : TriP d_z39_.toInt d_v6_113.toInt := ⟨(triD d_hL_113).1, (triD d_hL_113).2.1, (triD d_hL_113).2.2, Or.inr (by rw [← tri_ ⟨(triD d_hL_113).1, d_h43_⟩ d_h45_ d_h47_ d_h49_ d_h51_]; exact d_h52_)⟩
      rcases Y3 with Y3 | Y3
      · omega
      · rw [show c_r7_.toInt = d_z39_.toInt by omega] at TC
        rw [c_hr_, d_hr_]
        exact i32e (TriP_uniq TC TD)
    · obtain rfl : d_j16_ = 181 + 9 * v.toInt.toNat := by omega
      obtain rfl : d_j28_ = 182 + 9 * v.toInt.toNat := by omega
      have qd_hs5_ := is2x d_hs5_
      have yd_e15_ := eT d_e15_
      have yd_e27_ := eT d_e27_
      have yrd_ := eT d_hr_
      have hv : 0 ≤ v.toInt ∧ v.toInt < nWa (D.1 (50, 0, 0)) := by unfold nWa; omega
      subst d_e15_ d_e27_
      have hX : ∀ w, w < 3 → ∀ i : Nat, (i : Int) < (D.1 (50, 0, 0) (345 + 50 * w)).toInt → cOK (nnU w) (D.1 (50, 0, 0) (346 + 50 * w + i)) := fun w hw i hi => ((hR.1.2.2.2.1 w hw).2 i hi).2
      obtain ⟨y, Y1, Y2, Y3⟩ := x10sure c_hs14_ hR.1 hD.2.1 hv
      have E2 := x12heard d_hs38_ hR.1.2.2.2.2.1 hD hX hv d_h18_ d_h30_ (Or.inr ⟨hu, rfl⟩)
      have ey := HyP_uniq Y1 E2
      have e50 : d_M32_.1 (50, 0, 0) = D.1 (50, 0, 0) := funext fun k => d_hF36_ _ _ (by simp [S_c_X12_heardFrom])
      have TC : TriP c_r7_.toInt c_v3_28.toInt := ⟨(triC c_hL_28).1, (triC c_hL_28).2.1, (triC c_hL_28).2.2, Or.inl (by have := (triC c_hL_28).2.1; omega)⟩
      have TD : TriP d_v5_65.toInt d_v6_113.toInt := ⟨(triDb d_hL_113).1, (triDb d_hL_113).2.1, (triDb d_hL_113).2.2, Or.inl (by have := (triDb d_hL_113).2.1; omega)⟩
      have F := x12fr d_hL_65 (by omega) d_h18_ d_h30_
      rw [e50] at F
      have FD : FreeP (HdS (D.1 (50, 0, 0)) v.toInt.toNat) (D.1 (50, 0, 0) (181 + 9 * v.toInt.toNat)).toInt (D.1 (50, 0, 0) (182 + 9 * v.toInt.toNat)).toInt d_v5_65.toInt := ⟨F.1, by omega, F.2, Or.inl (by omega)⟩
      rcases Y3 with Y3 | Y3
      · rw [FreeP_uniq Y3.2 FD] at TC
        rw [c_hr_, d_hr_]
        exact i32e (TriP_uniq TC TD)
      · omega
    · obtain rfl : d_j16_ = 181 + 9 * v.toInt.toNat := by omega
      obtain rfl : d_j28_ = 182 + 9 * v.toInt.toNat := by omega
      have qd_hs5_ := is2x d_hs5_
      have yd_e15_ := eT d_e15_
      have yd_e27_ := eT d_e27_
      have yrd_ := eT d_hr_
      have hv : 0 ≤ v.toInt ∧ v.toInt < nWa (D.1 (50, 0, 0)) := by unfold nWa; omega
      subst d_e15_ d_e27_
      have hX : ∀ w, w < 3 → ∀ i : Nat, (i : Int) < (D.1 (50, 0, 0) (345 + 50 * w)).toInt → cOK (nnU w) (D.1 (50, 0, 0) (346 + 50 * w + i)) := fun w hw i hi => ((hR.1.2.2.2.1 w hw).2 i hi).2
      obtain ⟨y, Y1, Y2, Y3⟩ := x10sure c_hs14_ hR.1 hD.2.1 hv
      have E2 := x12heard d_hs38_ hR.1.2.2.2.2.1 hD hX hv d_h18_ d_h30_ (Or.inr ⟨hu, rfl⟩)
      have ey := HyP_uniq Y1 E2
      have e50 : d_M32_.1 (50, 0, 0) = D.1 (50, 0, 0) := funext fun k => d_hF36_ _ _ (by simp [S_c_X12_heardFrom])
      have TC : TriP c_r7_.toInt c_v3_28.toInt := ⟨(triC c_hL_28).1, (triC c_hL_28).2.1, (triC c_hL_28).2.2, Or.inl (by have := (triC c_hL_28).2.1; omega)⟩
      have TD : TriP d_v5_65.toInt d_v6_113.toInt := ⟨(triDb d_hL_113).1, (triDb d_hL_113).2.1, (triDb d_hL_113).2.2, Or.inr (by rw [← tri_ ⟨(triDb d_hL_113).1, d_h58_⟩ d_h60_ d_h62_ d_h64_ d_h66_]; exact d_h67_)⟩
      have F := x12fr d_hL_65 (by omega) d_h18_ d_h30_
      rw [e50] at F
      have FD : FreeP (HdS (D.1 (50, 0, 0)) v.toInt.toNat) (D.1 (50, 0, 0) (181 + 9 * v.toInt.toNat)).toInt (D.1 (50, 0, 0) (182 + 9 * v.toInt.toNat)).toInt d_v5_65.toInt := ⟨F.1, by omega, F.2, Or.inl (by omega)⟩
      rcases Y3 with Y3 | Y3
      · rw [FreeP_uniq Y3.2 FD] at TC
        rw [c_hr_, d_hr_]
        exact i32e (TriP_uniq TC TD)
      · omega
    · obtain rfl : d_j16_ = 181 + 9 * v.toInt.toNat := by omega
      obtain rfl : d_j28_ = 182 + 9 * v.toInt.toNat := by omega
      have qd_hs5_ := is2x d_hs5_
      have yd_e15_ := eT d_e15_
      have yd_e27_ := eT d_e27_
      have yrd_ := eT d_hr_
      have hv : 0 ≤ v.toInt ∧ v.toInt < nWa (D.1 (50, 0, 0)) := by unfold nWa; omega
      subst d_e15_ d_e27_
      have hX : ∀ w, w < 3 → ∀ i : Nat, (i : Int) < (D.1 (50, 0, 0) (345 + 50 * w)).toInt → cOK (nnU w) (D.1 (50, 0, 0) (346 + 50 * w + i)) := fun w hw i hi => ((hR.1.2.2.2.1 w hw).2 i hi).2
      obtain ⟨y, Y1, Y2, Y3⟩ := x10sure c_hs14_ hR.1 hD.2.1 hv
      have E2 := x12heard d_hs38_ hR.1.2.2.2.2.1 hD hX hv d_h18_ d_h30_ (Or.inr ⟨hu, rfl⟩)
      have ey := HyP_uniq Y1 E2
      have e50 : d_M32_.1 (50, 0, 0) = D.1 (50, 0, 0) := funext fun k => d_hF36_ _ _ (by simp [S_c_X12_heardFrom])
      have TC : TriP c_r7_.toInt c_v3_28.toInt := ⟨(triC c_hL_28).1, (triC c_hL_28).2.1, (triC c_hL_28).2.2, Or.inl (by have := (triC c_hL_28).2.1; omega)⟩
      have TD : TriP d_v5_65.toInt d_v6_113.toInt := ⟨(triDc d_hL_113).1, (triDc d_hL_113).2.1, (triDc d_hL_113).2.2, Or.inl (by have := (triDc d_hL_113).2.1; omega)⟩
      have F := x12fr d_hL_65 (by omega) d_h18_ d_h30_
      rw [e50] at F
      have c1 := on_spec d_h75_.1 d_h18_ d_h30_ (by omega)
      rw [d_h71_] at c1
      have FD : FreeP (HdS (D.1 (50, 0, 0)) v.toInt.toNat) (D.1 (50, 0, 0) (181 + 9 * v.toInt.toNat)).toInt (D.1 (50, 0, 0) (182 + 9 * v.toInt.toNat)).toInt d_v5_65.toInt := ⟨F.1, by omega, F.2, Or.inr (fun q => by rw [← c1] at q; omega)⟩
      rcases Y3 with Y3 | Y3
      · rw [FreeP_uniq Y3.2 FD] at TC
        rw [c_hr_, d_hr_]
        exact i32e (TriP_uniq TC TD)
      · omega
    · obtain rfl : d_j16_ = 181 + 9 * v.toInt.toNat := by omega
      obtain rfl : d_j28_ = 182 + 9 * v.toInt.toNat := by omega
      have qd_hs5_ := is2x d_hs5_
      have yd_e15_ := eT d_e15_
      have yd_e27_ := eT d_e27_
      have yrd_ := eT d_hr_
      have hv : 0 ≤ v.toInt ∧ v.toInt < nWa (D.1 (50, 0, 0)) := by unfold nWa; omega
      subst d_e15_ d_e27_
      have hX : ∀ w, w < 3 → ∀ i : Nat, (i : Int) < (D.1 (50, 0, 0) (345 + 50 * w)).toInt → cOK (nnU w) (D.1 (50, 0, 0) (346 + 50 * w + i)) := fun w hw i hi => ((hR.1.2.2.2.1 w hw).2 i hi).2
      obtain ⟨y, Y1, Y2, Y3⟩ := x10sure c_hs14_ hR.1 hD.2.1 hv
      have E2 := x12heard d_hs38_ hR.1.2.2.2.2.1 hD hX hv d_h18_ d_h30_ (Or.inr ⟨hu, rfl⟩)
      have ey := HyP_uniq Y1 E2
      have e50 : d_M32_.1 (50, 0, 0) = D.1 (50, 0, 0) := funext fun k => d_hF36_ _ _ (by simp [S_c_X12_heardFrom])
      have TC : TriP c_r7_.toInt c_v3_28.toInt := ⟨(triC c_hL_28).1, (triC c_hL_28).2.1, (triC c_hL_28).2.2, Or.inl (by have := (triC c_hL_28).2.1; omega)⟩
      have TD : TriP d_v5_65.toInt d_v6_113.toInt := ⟨(triDc d_hL_113).1, (triDc d_hL_113).2.1, (triDc d_hL_113).2.2, Or.inr (by rw [← tri_ ⟨(triDc d_hL_113).1, d_h79_⟩ d_h81_ d_h83_ d_h85_ d_h87_]; exact d_h88_)⟩
      have F := x12fr d_hL_65 (by omega) d_h18_ d_h30_
      rw [e50] at F
      have c1 := on_spec d_h75_.1 d_h18_ d_h30_ (by omega)
      rw [d_h71_] at c1
      have FD : FreeP (HdS (D.1 (50, 0, 0)) v.toInt.toNat) (D.1 (50, 0, 0) (181 + 9 * v.toInt.toNat)).toInt (D.1 (50, 0, 0) (182 + 9 * v.toInt.toNat)).toInt d_v5_65.toInt := ⟨F.1, by omega, F.2, Or.inr (fun q => by rw [← c1] at q; omega)⟩
      rcases Y3 with Y3 | Y3
      · rw [FreeP_uniq Y3.2 FD] at TC
        rw [c_hr_, d_hr_]
        exact i32e (TriP_uniq TC TD)
      · omega
    · obtain rfl : d_j16_ = 181 + 9 * v.toInt.toNat := by omega
      obtain rfl : d_j28_ = 182 + 9 * v.toInt.toNat := by omega
      have qd_hs5_ := is2x d_hs5_
      have yd_e15_ := eT d_e15_
      have yd_e27_ := eT d_e27_
      have yrd_ := eT d_hr_
      have hv : 0 ≤ v.toInt ∧ v.toInt < nWa (D.1 (50, 0, 0)) := by unfold nWa; omega
      subst d_e15_ d_e27_
      have hX : ∀ w, w < 3 → ∀ i : Nat, (i : Int) < (D.1 (50, 0, 0) (345 + 50 * w)).toInt → cOK (nnU w) (D.1 (50, 0, 0) (346 + 50 * w + i)) := fun w hw i hi => ((hR.1.2.2.2.1 w hw).2 i hi).2
      obtain ⟨y, Y1, Y2, Y3⟩ := x10sure c_hs14_ hR.1 hD.2.1 hv
      have E2 := x12heard d_hs38_ hR.1.2.2.2.2.1 hD hX hv d_h18_ d_h30_ (Or.inr ⟨hu, rfl⟩)
      have ey := HyP_uniq Y1 E2
      have e50 : d_M32_.1 (50, 0, 0) = D.1 (50, 0, 0) := funext fun k => d_hF36_ _ _ (by simp [S_c_X12_heardFrom])
      have TC : TriP c_r7_.toInt c_v3_28.toInt := ⟨(triC c_hL_28).1, (triC c_hL_28).2.1, (triC c_hL_28).2.2, Or.inl (by have := (triC c_hL_28).2.1; omega)⟩
      have TD : TriP d_v5_65.toInt d_v6_113.toInt := ⟨(triDd d_hL_113).1, (triDd d_hL_113).2.1, (triDd d_hL_113).2.2, Or.inl (by have := (triDd d_hL_113).2.1; omega)⟩
      have F := x12fr d_hL_65 (by omega) d_h18_ d_h30_
      rw [e50] at F
      have c1 := on_spec d_h75_.1 d_h18_ d_h30_ (by omega)
      rw [d_h71_] at c1
      have c2 := on_spec d_h96_.1 d_h18_ d_h30_ (by omega)
      rw [d_h92_] at c2
      have hd := x12held d_hs102_ (by omega) (by omega)
      rw [e50] at hd
      have FD : FreeP (HdS (D.1 (50, 0, 0)) v.toInt.toNat) (D.1 (50, 0, 0) (181 + 9 * v.toInt.toNat)).toInt (D.1 (50, 0, 0) (182 + 9 * v.toInt.toNat)).toInt d_v5_65.toInt := ⟨F.1, by omega, F.2, Or.inr (fun q => d_h103_ (by rw [hd, c2]; exact q.2))⟩
      rcases Y3 with Y3 | Y3
      · rw [FreeP_uniq Y3.2 FD] at TC
        rw [c_hr_, d_hr_]
        exact i32e (TriP_uniq TC TD)
      · omega
    · obtain rfl : d_j16_ = 181 + 9 * v.toInt.toNat := by omega
      obtain rfl : d_j28_ = 182 + 9 * v.toInt.toNat := by omega
      have qd_hs5_ := is2x d_hs5_
      have yd_e15_ := eT d_e15_
      have yd_e27_ := eT d_e27_
      have yrd_ := eT d_hr_
      have hv : 0 ≤ v.toInt ∧ v.toInt < nWa (D.1 (50, 0, 0)) := by unfold nWa; omega
      subst d_e15_ d_e27_
      have hX : ∀ w, w < 3 → ∀ i : Nat, (i : Int) < (D.1 (50, 0, 0) (345 + 50 * w)).toInt → cOK (nnU w) (D.1 (50, 0, 0) (346 + 50 * w + i)) := fun w hw i hi => ((hR.1.2.2.2.1 w hw).2 i hi).2
      obtain ⟨y, Y1, Y2, Y3⟩ := x10sure c_hs14_ hR.1 hD.2.1 hv
      have E2 := x12heard d_hs38_ hR.1.2.2.2.2.1 hD hX hv d_h18_ d_h30_ (Or.inr ⟨hu, rfl⟩)
      have ey := HyP_uniq Y1 E2
      have e50 : d_M32_.1 (50, 0, 0) = D.1 (50, 0, 0) := funext fun k => d_hF36_ _ _ (by simp [S_c_X12_heardFrom])
      have TC : TriP c_r7_.toInt c_v3_28.toInt := ⟨(triC c_hL_28).1, (triC c_hL_28).2.1, (triC c_hL_28).2.2, Or.inl (by have := (triC c_hL_28).2.1; omega)⟩
      have TD : TriP d_v5_65.toInt d_v6_113.toInt := ⟨(triDd d_hL_113).1, (triDd d_hL_113).2.1, (triDd d_hL_113).2.2, Or.inr (by rw [← tri_ ⟨(triDd d_hL_113).1, d_h105_⟩ d_h107_ d_h109_ d_h111_ d_h113_]; exact d_h114_)⟩
      have F := x12fr d_hL_65 (by omega) d_h18_ d_h30_
      rw [e50] at F
      have c1 := on_spec d_h75_.1 d_h18_ d_h30_ (by omega)
      rw [d_h71_] at c1
      have c2 := on_spec d_h96_.1 d_h18_ d_h30_ (by omega)
      rw [d_h92_] at c2
      have hd := x12held d_hs102_ (by omega) (by omega)
      rw [e50] at hd
      have FD : FreeP (HdS (D.1 (50, 0, 0)) v.toInt.toNat) (D.1 (50, 0, 0) (181 + 9 * v.toInt.toNat)).toInt (D.1 (50, 0, 0) (182 + 9 * v.toInt.toNat)).toInt d_v5_65.toInt := ⟨F.1, by omega, F.2, Or.inr (fun q => d_h103_ (by rw [hd, c2]; exact q.2))⟩
      rcases Y3 with Y3 | Y3
      · rw [FreeP_uniq Y3.2 FD] at TC
        rw [c_hr_, d_hr_]
        exact i32e (TriP_uniq TC TD)
      · omega
    · have qd_hs5_ := is2x d_hs5_
      have yrd_ := eT d_hr_
      exfalso; omega
  · have qc_hs5_ := x10has c_hs5_
    have yrc_ := eT c_hr_
    unfold SP_X12_safe at h2
    rcases h2 with (⟨d_hs5_, d_h4_, d_r7_, d_hs11_, d_h10_, d_z12_, d_h13_, d_j16_, d_h17_, d_z14_, d_e15_, d_h18_, d_r19_, d_hs23_, d_h22_, d_z24_, d_h25_, d_j28_, d_h29_, d_z26_, d_e27_, d_h30_, d_M32_, -, d_hF36_, d_r31_, d_hs38_, d_h34_, d_z39_, d_h40_, (⟨d_h41_, d_v6_113, d_hv0_113, d_hv1_113, d_hL_113, (⟨d_h43_, d_hr_, d_hM_⟩ | ⟨d_h43_, d_z44_, d_h45_, d_z46_, d_h47_, d_z48_, d_h49_, d_z50_, d_h51_, d_h52_, d_hr_, d_hM_⟩)⟩ | ⟨d_h41_, d_v5_65, d_hv0_65, d_hv1_65, d_hv2_65, d_hL_65, (⟨d_h56_, d_v6_113, d_hv0_113, d_hv1_113, d_hL_113, (⟨d_h58_, d_hr_, d_hM_⟩ | ⟨d_h58_, d_z59_, d_h60_, d_z61_, d_h62_, d_z63_, d_h64_, d_z65_, d_h66_, d_h67_, d_hr_, d_hM_⟩)⟩ | ⟨d_h56_, d_z70_, d_h71_, d_r72_, d_hs76_, d_h75_, (⟨d_h77_, d_v6_113, d_hv0_113, d_hv1_113, d_hL_113, (⟨d_h79_, d_hr_, d_hM_⟩ | ⟨d_h79_, d_z80_, d_h81_, d_z82_, d_h83_, d_z84_, d_h85_, d_z86_, d_h87_, d_h88_, d_hr_, d_hM_⟩)⟩ | ⟨d_h77_, d_z91_, d_h92_, d_r93_, d_hs97_, d_h96_, d_r98_, d_hs102_, d_h101_, d_h103_, d_v6_113, d_hv0_113, d_hv1_113, d_hL_113, (⟨d_h105_, d_hr_, d_hM_⟩ | ⟨d_h105_, d_z106_, d_h107_, d_z108_, d_h109_, d_z110_, d_h111_, d_z112_, d_h113_, d_h114_, d_hr_, d_hM_⟩)⟩)⟩)⟩)⟩ | ⟨d_hs5_, d_M121_, -, d_hF125_, d_r120_, d_hs127_, d_h123_, d_hr_, d_hM_⟩)
    · obtain rfl : d_j16_ = 181 + 9 * v.toInt.toNat := by omega
      obtain rfl : d_j28_ = 182 + 9 * v.toInt.toNat := by omega
      have qd_hs5_ := is2x d_hs5_
      have yd_e15_ := eT d_e15_
      have yd_e27_ := eT d_e27_
      have yrd_ := eT d_hr_
      have hv : 0 ≤ v.toInt ∧ v.toInt < nWa (D.1 (50, 0, 0)) := by unfold nWa; omega
      subst d_e15_ d_e27_
      have hX : ∀ w, w < 3 → ∀ i : Nat, (i : Int) < (D.1 (50, 0, 0) (345 + 50 * w)).toInt → cOK (nnU w) (D.1 (50, 0, 0) (346 + 50 * w + i)) := fun w hw i hi => ((hR.1.2.2.2.1 w hw).2 i hi).2
      obtain ⟨y, Y1, Y2, Y3⟩ := x10sure c_hs14_ hR.1 hD.2.1 hv
      have E2 := x12heard d_hs38_ hR.1.2.2.2.2.1 hD hX hv d_h18_ d_h30_ (Or.inr ⟨hu, rfl⟩)
      have ey := HyP_uniq Y1 E2
      have e50 : d_M32_.1 (50, 0, 0) = D.1 (50, 0, 0) := funext fun k => d_hF36_ _ _ (by simp [S_c_X12_heardFrom])
      have TC : TriP c_r7_.toInt c_v3_28.toInt := ⟨(triC c_hL_28).1, (triC c_hL_28).2.1, (triC c_hL_28).2.2, Or.inr (by rw [← tri_ ⟨(triC c_hL_28).1, c_h16_⟩ c_h18_ c_h20_ c_h22_ c_h24_]; exact c_h25_)⟩
      have TD : TriP d_z39_.toInt d_v6_113.toInt := ⟨(triD d_hL_113).1, (triD d_hL_113).2.1, (triD d_hL_113).2.2, Or.inl (by have := (triD d_hL_113).2.1; omega)⟩
      rcases Y3 with Y3 | Y3
      · omega
      · rw [show c_r7_.toInt = d_z39_.toInt by omega] at TC
        rw [c_hr_, d_hr_]
        exact i32e (TriP_uniq TC TD)
    · obtain rfl : d_j16_ = 181 + 9 * v.toInt.toNat := by omega
      obtain rfl : d_j28_ = 182 + 9 * v.toInt.toNat := by omega
      have qd_hs5_ := is2x d_hs5_
      have yd_e15_ := eT d_e15_
      have yd_e27_ := eT d_e27_
      have yrd_ := eT d_hr_
      have hv : 0 ≤ v.toInt ∧ v.toInt < nWa (D.1 (50, 0, 0)) := by unfold nWa; omega
      subst d_e15_ d_e27_
      have hX : ∀ w, w < 3 → ∀ i : Nat, (i : Int) < (D.1 (50, 0, 0) (345 + 50 * w)).toInt → cOK (nnU w) (D.1 (50, 0, 0) (346 + 50 * w + i)) := fun w hw i hi => ((hR.1.2.2.2.1 w hw).2 i hi).2
      obtain ⟨y, Y1, Y2, Y3⟩ := x10sure c_hs14_ hR.1 hD.2.1 hv
      have E2 := x12heard d_hs38_ hR.1.2.2.2.2.1 hD hX hv d_h18_ d_h30_ (Or.inr ⟨hu, rfl⟩)
      have ey := HyP_uniq Y1 E2
      have e50 : d_M32_.1 (50, 0, 0) = D.1 (50, 0, 0) := funext fun k => d_hF36_ _ _ (by simp [S_c_X12_heardFrom])
      have TC : TriP c_r7_.toInt c_v3_28.toInt := ⟨(triC c_hL_28).1, (triC c_hL_28).2.1, (triC c_hL_28).2.2, Or.inr (by rw [← tri_ ⟨(triC c_hL_28).1, c_h16_⟩ c_h18_ c_h20_ c_h22_ c_h24_]; exact c_h25_)⟩
      have TD : TriP d_z39_.toInt d_v6_113.toInt := ⟨(triD d_hL_113).1, (triD d_hL_113).2.1, (triD d_hL_113).2.2, Or.inr (by rw [← tri_ ⟨(triD d_hL_113).1, d_h43_⟩ d_h45_ d_h47_ d_h49_ d_h51_]; exact d_h52_)⟩
      rcases Y3 with Y3 | Y3
      · omega
      · rw [show c_r7_.toInt = d_z39_.toInt by omega] at TC
        rw [c_hr_, d_hr_]
        exact i32e (TriP_uniq TC TD)
    · obtain rfl : d_j16_ = 181 + 9 * v.toInt.toNat := by omega
      obtain rfl : d_j28_ = 182 + 9 * v.toInt.toNat := by omega
      have qd_hs5_ := is2x d_hs5_
      have yd_e15_ := eT d_e15_
      have yd_e27_ := eT d_e27_
      have yrd_ := eT d_hr_
      have hv : 0 ≤ v.toInt ∧ v.toInt < nWa (D.1 (50, 0, 0)) := by unfold nWa; omega
      subst d_e15_ d_e27_
      have hX : ∀ w, w < 3 → ∀ i : Nat, (i : Int) < (D.1 (50, 0, 0) (345 + 50 * w)).toInt → cOK (nnU w) (D.1 (50, 0, 0) (346 + 50 * w + i)) := fun w hw i hi => ((hR.1.2.2.2.1 w hw).2 i hi).2
      obtain ⟨y, Y1, Y2, Y3⟩ := x10sure c_hs14_ hR.1 hD.2.1 hv
      have E2 := x12heard d_hs38_ hR.1.2.2.2.2.1 hD hX hv d_h18_ d_h30_ (Or.inr ⟨hu, rfl⟩)
      have ey := HyP_uniq Y1 E2
      have e50 : d_M32_.1 (50, 0, 0) = D.1 (50, 0, 0) := funext fun k => d_hF36_ _ _ (by simp [S_c_X12_heardFrom])
      have TC : TriP c_r7_.toInt c_v3_28.toInt := ⟨(triC c_hL_28).1, (triC c_hL_28).2.1, (triC c_hL_28).2.2, Or.inr (by rw [← tri_ ⟨(triC c_hL_28).1, c_h16_⟩ c_h18_ c_h20_ c_h22_ c_h24_]; exact c_h25_)⟩
      have TD : TriP d_v5_65.toInt d_v6_113.toInt := ⟨(triDb d_hL_113).1, (triDb d_hL_113).2.1, (triDb d_hL_113).2.2, Or.inl (by have := (triDb d_hL_113).2.1; omega)⟩
      have F := x12fr d_hL_65 (by omega) d_h18_ d_h30_
      rw [e50] at F
      have FD : FreeP (HdS (D.1 (50, 0, 0)) v.toInt.toNat) (D.1 (50, 0, 0) (181 + 9 * v.toInt.toNat)).toInt (D.1 (50, 0, 0) (182 + 9 * v.toInt.toNat)).toInt d_v5_65.toInt := ⟨F.1, by omega, F.2, Or.inl (by omega)⟩
      rcases Y3 with Y3 | Y3
      · rw [FreeP_uniq Y3.2 FD] at TC
        rw [c_hr_, d_hr_]
        exact i32e (TriP_uniq TC TD)
      · omega
    · obtain rfl : d_j16_ = 181 + 9 * v.toInt.toNat := by omega
      obtain rfl : d_j28_ = 182 + 9 * v.toInt.toNat := by omega
      have qd_hs5_ := is2x d_hs5_
      have yd_e15_ := eT d_e15_
      have yd_e27_ := eT d_e27_
      have yrd_ := eT d_hr_
      have hv : 0 ≤ v.toInt ∧ v.toInt < nWa (D.1 (50, 0, 0)) := by unfold nWa; omega
      subst d_e15_ d_e27_
      have hX : ∀ w, w < 3 → ∀ i : Nat, (i : Int) < (D.1 (50, 0, 0) (345 + 50 * w)).toInt → cOK (nnU w) (D.1 (50, 0, 0) (346 + 50 * w + i)) := fun w hw i hi => ((hR.1.2.2.2.1 w hw).2 i hi).2
      obtain ⟨y, Y1, Y2, Y3⟩ := x10sure c_hs14_ hR.1 hD.2.1 hv
      have E2 := x12heard d_hs38_ hR.1.2.2.2.2.1 hD hX hv d_h18_ d_h30_ (Or.inr ⟨hu, rfl⟩)
      have ey := HyP_uniq Y1 E2
      have e50 : d_M32_.1 (50, 0, 0) = D.1 (50, 0, 0) := funext fun k => d_hF36_ _ _ (by simp [S_c_X12_heardFrom])
      have TC : TriP c_r7_.toInt c_v3_28.toInt := ⟨(triC c_hL_28).1, (triC c_hL_28).2.1, (triC c_hL_28).2.2, Or.inr (by rw [← tri_ ⟨(triC c_hL_28).1, c_h16_⟩ c_h18_ c_h20_ c_h22_ c_h24_]; exact c_h25_)⟩
      have TD : TriP d_v5_65.toInt d_v6_113.toInt := ⟨(triDb d_hL_113).1, (triDb d_hL_113).2.1, (triDb d_hL_113).2.2, Or.inr (by rw [← tri_ ⟨(triDb d_hL_113).1, d_h58_⟩ d_h60_ d_h62_ d_h64_ d_h66_]; exact d_h67_)⟩
      have F := x12fr d_hL_65 (by omega) d_h18_ d_h30_
      rw [e50] at F
      have FD : FreeP (HdS (D.1 (50, 0, 0)) v.toInt.toNat) (D.1 (50, 0, 0) (181 + 9 * v.toInt.toNat)).toInt (D.1 (50, 0, 0) (182 + 9 * v.toInt.toNat)).toInt d_v5_65.toInt := ⟨F.1, by omega, F.2, Or.inl (by omega)⟩
      rcases Y3 with Y3 | Y3
      · rw [FreeP_uniq Y3.2 FD] at TC
        rw [c_hr_, d_hr_]
        exact i32e (TriP_uniq TC TD)
      · omega
    · obtain rfl : d_j16_ = 181 + 9 * v.toInt.toNat := by omega
      obtain rfl : d_j28_ = 182 + 9 * v.toInt.toNat := by omega
      have qd_hs5_ := is2x d_hs5_
      have yd_e15_ := eT d_e15_
      have yd_e27_ := eT d_e27_
      have yrd_ := eT d_hr_
      have hv : 0 ≤ v.toInt ∧ v.toInt < nWa (D.1 (50, 0, 0)) := by unfold nWa; omega
      subst d_e15_ d_e27_
      have hX : ∀ w, w < 3 → ∀ i : Nat, (i : Int) < (D.1 (50, 0, 0) (345 + 50 * w)).toInt → cOK (nnU w) (D.1 (50, 0, 0) (346 + 50 * w + i)) := fun w hw i hi => ((hR.1.2.2.2.1 w hw).2 i hi).2
      obtain ⟨y, Y1, Y2, Y3⟩ := x10sure c_hs14_ hR.1 hD.2.1 hv
      have E2 := x12heard d_hs38_ hR.1.2.2.2.2.1 hD hX hv d_h18_ d_h30_ (Or.inr ⟨hu, rfl⟩)
      have ey := HyP_uniq Y1 E2
      have e50 : d_M32_.1 (50, 0, 0) = D.1 (50, 0, 0) := funext fun k => d_hF36_ _ _ (by simp [S_c_X12_heardFrom])
      have TC : TriP c_r7_.toInt c_v3_28.toInt := ⟨(triC c_hL_28).1, (triC c_hL_28).2.1, (triC c_hL_28).2.2, Or.inr (by rw [← tri_ ⟨(triC c_hL_28).1, c_h16_⟩ c_h18_ c_h20_ c_h22_ c_h24_]; exact c_h25_)⟩
      have TD : TriP d_v5_65.toInt d_v6_113.toInt := ⟨(triDc d_hL_113).1, (triDc d_hL_113).2.1, (triDc d_hL_113).2.2, Or.inl (by have := (triDc d_hL_113).2.1; omega)⟩
      have F := x12fr d_hL_65 (by omega) d_h18_ d_h30_
      rw [e50] at F
      have c1 := on_spec d_h75_.1 d_h18_ d_h30_ (by omega)
      rw [d_h71_] at c1
      have FD : FreeP (HdS (D.1 (50, 0, 0)) v.toInt.toNat) (D.1 (50, 0, 0) (181 + 9 * v.toInt.toNat)).toInt (D.1 (50, 0, 0) (182 + 9 * v.toInt.toNat)).toInt d_v5_65.toInt := ⟨F.1, by omega, F.2, Or.inr (fun q => by rw [← c1] at q; omega)⟩
      rcases Y3 with Y3 | Y3
      · rw [FreeP_uniq Y3.2 FD] at TC
        rw [c_hr_, d_hr_]
        exact i32e (TriP_uniq TC TD)
      · omega
    · obtain rfl : d_j16_ = 181 + 9 * v.toInt.toNat := by omega
      obtain rfl : d_j28_ = 182 + 9 * v.toInt.toNat := by omega
      have qd_hs5_ := is2x d_hs5_
      have yd_e15_ := eT d_e15_
      have yd_e27_ := eT d_e27_
      have yrd_ := eT d_hr_
      have hv : 0 ≤ v.toInt ∧ v.toInt < nWa (D.1 (50, 0, 0)) := by unfold nWa; omega
      subst d_e15_ d_e27_
      have hX : ∀ w, w < 3 → ∀ i : Nat, (i : Int) < (D.1 (50, 0, 0) (345 + 50 * w)).toInt → cOK (nnU w) (D.1 (50, 0, 0) (346 + 50 * w + i)) := fun w hw i hi => ((hR.1.2.2.2.1 w hw).2 i hi).2
      obtain ⟨y, Y1, Y2, Y3⟩ := x10sure c_hs14_ hR.1 hD.2.1 hv
      have E2 := x12heard d_hs38_ hR.1.2.2.2.2.1 hD hX hv d_h18_ d_h30_ (Or.inr ⟨hu, rfl⟩)
      have ey := HyP_uniq Y1 E2
      have e50 : d_M32_.1 (50, 0, 0) = D.1 (50, 0, 0) := funext fun k => d_hF36_ _ _ (by simp [S_c_X12_heardFrom])
      have TC : TriP c_r7_.toInt c_v3_28.toInt := ⟨(triC c_hL_28).1, (triC c_hL_28).2.1, (triC c_hL_28).2.2, Or.inr (by rw [← tri_ ⟨(triC c_hL_28).1, c_h16_⟩ c_h18_ c_h20_ c_h22_ c_h24_]; exact c_h25_)⟩
      have TD : TriP d_v5_65.toInt d_v6_113.toInt := ⟨(triDc d_hL_113).1, (triDc d_hL_113).2.1, (triDc d_hL_113).2.2, Or.inr (by rw [← tri_ ⟨(triDc d_hL_113).1, d_h79_⟩ d_h81_ d_h83_ d_h85_ d_h87_]; exact d_h88_)⟩
      have F := x12fr d_hL_65 (by omega) d_h18_ d_h30_
      rw [e50] at F
      have c1 := on_spec d_h75_.1 d_h18_ d_h30_ (by omega)
      rw [d_h71_] at c1
      have FD : FreeP (HdS (D.1 (50, 0, 0)) v.toInt.toNat) (D.1 (50, 0, 0) (181 + 9 * v.toInt.toNat)).toInt (D.1 (50, 0, 0) (182 + 9 * v.toInt.toNat)).toInt d_v5_65.toInt := ⟨F.1, by omega, F.2, Or.inr (fun q => by rw [← c1] at q; omega)⟩
      rcases Y3 with Y3 | Y3
      · rw [FreeP_uniq Y3.2 FD] at TC
        rw [c_hr_, d_hr_]
        exact i32e (TriP_uniq TC TD)
      · omega
    · obtain rfl : d_j16_ = 181 + 9 * v.toInt.toNat := by omega
      obtain rfl : d_j28_ = 182 + 9 * v.toInt.toNat := by omega
      have qd_hs5_ := is2x d_hs5_
      have yd_e15_ := eT d_e15_
      have yd_e27_ := eT d_e27_
      have yrd_ := eT d_hr_
      have hv : 0 ≤ v.toInt ∧ v.toInt < nWa (D.1 (50, 0, 0)) := by unfold nWa; omega
      subst d_e15_ d_e27_
      have hX : ∀ w, w < 3 → ∀ i : Nat, (i : Int) < (D.1 (50, 0, 0) (345 + 50 * w)).toInt → cOK (nnU w) (D.1 (50, 0, 0) (346 + 50 * w + i)) := fun w hw i hi => ((hR.1.2.2.2.1 w hw).2 i hi).2
      obtain ⟨y, Y1, Y2, Y3⟩ := x10sure c_hs14_ hR.1 hD.2.1 hv
      have E2 := x12heard d_hs38_ hR.1.2.2.2.2.1 hD hX hv d_h18_ d_h30_ (Or.inr ⟨hu, rfl⟩)
      have ey := HyP_uniq Y1 E2
      have e50 : d_M32_.1 (50, 0, 0) = D.1 (50, 0, 0) := funext fun k => d_hF36_ _ _ (by simp [S_c_X12_heardFrom])
      have TC : TriP c_r7_.toInt c_v3_28.toInt := ⟨(triC c_hL_28).1, (triC c_hL_28).2.1, (triC c_hL_28).2.2, Or.inr (by rw [← tri_ ⟨(triC c_hL_28).1, c_h16_⟩ c_h18_ c_h20_ c_h22_ c_h24_]; exact c_h25_)⟩
      have TD : TriP d_v5_65.toInt d_v6_113.toInt := ⟨(triDd d_hL_113).1, (triDd d_hL_113).2.1, (triDd d_hL_113).2.2, Or.inl (by have := (triDd d_hL_113).2.1; omega)⟩
      have F := x12fr d_hL_65 (by omega) d_h18_ d_h30_
      rw [e50] at F
      have c1 := on_spec d_h75_.1 d_h18_ d_h30_ (by omega)
      rw [d_h71_] at c1
      have c2 := on_spec d_h96_.1 d_h18_ d_h30_ (by omega)
      rw [d_h92_] at c2
      have hd := x12held d_hs102_ (by omega) (by omega)
      rw [e50] at hd
      have FD : FreeP (HdS (D.1 (50, 0, 0)) v.toInt.toNat) (D.1 (50, 0, 0) (181 + 9 * v.toInt.toNat)).toInt (D.1 (50, 0, 0) (182 + 9 * v.toInt.toNat)).toInt d_v5_65.toInt := ⟨F.1, by omega, F.2, Or.inr (fun q => d_h103_ (by rw [hd, c2]; exact q.2))⟩
      rcases Y3 with Y3 | Y3
      · rw [FreeP_uniq Y3.2 FD] at TC
        rw [c_hr_, d_hr_]
        exact i32e (TriP_uniq TC TD)
      · omega
    · obtain rfl : d_j16_ = 181 + 9 * v.toInt.toNat := by omega
      obtain rfl : d_j28_ = 182 + 9 * v.toInt.toNat := by omega
      have qd_hs5_ := is2x d_hs5_
      have yd_e15_ := eT d_e15_
      have yd_e27_ := eT d_e27_
      have yrd_ := eT d_hr_
      have hv : 0 ≤ v.toInt ∧ v.toInt < nWa (D.1 (50, 0, 0)) := by unfold nWa; omega
      subst d_e15_ d_e27_
      have hX : ∀ w, w < 3 → ∀ i : Nat, (i : Int) < (D.1 (50, 0, 0) (345 + 50 * w)).toInt → cOK (nnU w) (D.1 (50, 0, 0) (346 + 50 * w + i)) := fun w hw i hi => ((hR.1.2.2.2.1 w hw).2 i hi).2
      obtain ⟨y, Y1, Y2, Y3⟩ := x10sure c_hs14_ hR.1 hD.2.1 hv
      have E2 := x12heard d_hs38_ hR.1.2.2.2.2.1 hD hX hv d_h18_ d_h30_ (Or.inr ⟨hu, rfl⟩)
      have ey := HyP_uniq Y1 E2
      have e50 : d_M32_.1 (50, 0, 0) = D.1 (50, 0, 0) := funext fun k => d_hF36_ _ _ (by simp [S_c_X12_heardFrom])
      have TC : TriP c_r7_.toInt c_v3_28.toInt := ⟨(triC c_hL_28).1, (triC c_hL_28).2.1, (triC c_hL_28).2.2, Or.inr (by rw [← tri_ ⟨(triC c_hL_28).1, c_h16_⟩ c_h18_ c_h20_ c_h22_ c_h24_]; exact c_h25_)⟩
      have TD : TriP d_v5_65.toInt d_v6_113.toInt := ⟨(triDd d_hL_113).1, (triDd d_hL_113).2.1, (triDd d_hL_113).2.2, Or.inr (by rw [← tri_ ⟨(triDd d_hL_113).1, d_h105_⟩ d_h107_ d_h109_ d_h111_ d_h113_]; exact d_h114_)⟩
      have F := x12fr d_hL_65 (by omega) d_h18_ d_h30_
      rw [e50] at F
      have c1 := on_spec d_h75_.1 d_h18_ d_h30_ (by omega)
      rw [d_h71_] at c1
      have c2 := on_spec d_h96_.1 d_h18_ d_h30_ (by omega)
      rw [d_h92_] at c2
      have hd := x12held d_hs102_ (by omega) (by omega)
      rw [e50] at hd
      have FD : FreeP (HdS (D.1 (50, 0, 0)) v.toInt.toNat) (D.1 (50, 0, 0) (181 + 9 * v.toInt.toNat)).toInt (D.1 (50, 0, 0) (182 + 9 * v.toInt.toNat)).toInt d_v5_65.toInt := ⟨F.1, by omega, F.2, Or.inr (fun q => d_h103_ (by rw [hd, c2]; exact q.2))⟩
      rcases Y3 with Y3 | Y3
      · rw [FreeP_uniq Y3.2 FD] at TC
        rw [c_hr_, d_hr_]
        exact i32e (TriP_uniq TC TD)
      · omega
    · have qd_hs5_ := is2x d_hs5_
      have yrd_ := eT d_hr_
      exfalso; omega
  · have qc_hs5_ := x10has c_hs5_
    have qc_hs36_ := err1 c_hs36_
    have yrc_ := eT c_hr_
    unfold SP_X12_safe at h2
    rcases h2 with (⟨d_hs5_, d_h4_, d_r7_, d_hs11_, d_h10_, d_z12_, d_h13_, d_j16_, d_h17_, d_z14_, d_e15_, d_h18_, d_r19_, d_hs23_, d_h22_, d_z24_, d_h25_, d_j28_, d_h29_, d_z26_, d_e27_, d_h30_, d_M32_, -, d_hF36_, d_r31_, d_hs38_, d_h34_, d_z39_, d_h40_, (⟨d_h41_, d_v6_113, d_hv0_113, d_hv1_113, d_hL_113, (⟨d_h43_, d_hr_, d_hM_⟩ | ⟨d_h43_, d_z44_, d_h45_, d_z46_, d_h47_, d_z48_, d_h49_, d_z50_, d_h51_, d_h52_, d_hr_, d_hM_⟩)⟩ | ⟨d_h41_, d_v5_65, d_hv0_65, d_hv1_65, d_hv2_65, d_hL_65, (⟨d_h56_, d_v6_113, d_hv0_113, d_hv1_113, d_hL_113, (⟨d_h58_, d_hr_, d_hM_⟩ | ⟨d_h58_, d_z59_, d_h60_, d_z61_, d_h62_, d_z63_, d_h64_, d_z65_, d_h66_, d_h67_, d_hr_, d_hM_⟩)⟩ | ⟨d_h56_, d_z70_, d_h71_, d_r72_, d_hs76_, d_h75_, (⟨d_h77_, d_v6_113, d_hv0_113, d_hv1_113, d_hL_113, (⟨d_h79_, d_hr_, d_hM_⟩ | ⟨d_h79_, d_z80_, d_h81_, d_z82_, d_h83_, d_z84_, d_h85_, d_z86_, d_h87_, d_h88_, d_hr_, d_hM_⟩)⟩ | ⟨d_h77_, d_z91_, d_h92_, d_r93_, d_hs97_, d_h96_, d_r98_, d_hs102_, d_h101_, d_h103_, d_v6_113, d_hv0_113, d_hv1_113, d_hL_113, (⟨d_h105_, d_hr_, d_hM_⟩ | ⟨d_h105_, d_z106_, d_h107_, d_z108_, d_h109_, d_z110_, d_h111_, d_z112_, d_h113_, d_h114_, d_hr_, d_hM_⟩)⟩)⟩)⟩)⟩ | ⟨d_hs5_, d_M121_, -, d_hF125_, d_r120_, d_hs127_, d_h123_, d_hr_, d_hM_⟩)
    · obtain rfl : d_j16_ = 181 + 9 * v.toInt.toNat := by omega
      obtain rfl : d_j28_ = 182 + 9 * v.toInt.toNat := by omega
      have qd_hs5_ := is2x d_hs5_
      have yd_e15_ := eT d_e15_
      have yd_e27_ := eT d_e27_
      have yrd_ := eT d_hr_
      exfalso; omega
    · obtain rfl : d_j16_ = 181 + 9 * v.toInt.toNat := by omega
      obtain rfl : d_j28_ = 182 + 9 * v.toInt.toNat := by omega
      have qd_hs5_ := is2x d_hs5_
      have yd_e15_ := eT d_e15_
      have yd_e27_ := eT d_e27_
      have yrd_ := eT d_hr_
      exfalso; omega
    · obtain rfl : d_j16_ = 181 + 9 * v.toInt.toNat := by omega
      obtain rfl : d_j28_ = 182 + 9 * v.toInt.toNat := by omega
      have qd_hs5_ := is2x d_hs5_
      have yd_e15_ := eT d_e15_
      have yd_e27_ := eT d_e27_
      have yrd_ := eT d_hr_
      exfalso; omega
    · obtain rfl : d_j16_ = 181 + 9 * v.toInt.toNat := by omega
      obtain rfl : d_j28_ = 182 + 9 * v.toInt.toNat := by omega
      have qd_hs5_ := is2x d_hs5_
      have yd_e15_ := eT d_e15_
      have yd_e27_ := eT d_e27_
      have yrd_ := eT d_hr_
      exfalso; omega
    · obtain rfl : d_j16_ = 181 + 9 * v.toInt.toNat := by omega
      obtain rfl : d_j28_ = 182 + 9 * v.toInt.toNat := by omega
      have qd_hs5_ := is2x d_hs5_
      have yd_e15_ := eT d_e15_
      have yd_e27_ := eT d_e27_
      have yrd_ := eT d_hr_
      exfalso; omega
    · obtain rfl : d_j16_ = 181 + 9 * v.toInt.toNat := by omega
      obtain rfl : d_j28_ = 182 + 9 * v.toInt.toNat := by omega
      have qd_hs5_ := is2x d_hs5_
      have yd_e15_ := eT d_e15_
      have yd_e27_ := eT d_e27_
      have yrd_ := eT d_hr_
      exfalso; omega
    · obtain rfl : d_j16_ = 181 + 9 * v.toInt.toNat := by omega
      obtain rfl : d_j28_ = 182 + 9 * v.toInt.toNat := by omega
      have qd_hs5_ := is2x d_hs5_
      have yd_e15_ := eT d_e15_
      have yd_e27_ := eT d_e27_
      have yrd_ := eT d_hr_
      exfalso; omega
    · obtain rfl : d_j16_ = 181 + 9 * v.toInt.toNat := by omega
      obtain rfl : d_j28_ = 182 + 9 * v.toInt.toNat := by omega
      have qd_hs5_ := is2x d_hs5_
      have yd_e15_ := eT d_e15_
      have yd_e27_ := eT d_e27_
      have yrd_ := eT d_hr_
      exfalso; omega
    · have qd_hs5_ := is2x d_hs5_
      have yrd_ := eT d_hr_
      exact i32e (by omega)
end
section
/-! the calls step by step, the full relation -/
theorem sy_0 {v : Int32} {u : Int32} {M M1 M2 : mM} {r1 r2 : Int32} (h : RY M.1) (hD0 : InvD M) (hD : InvD M1) (hD2 : InvD M2) (hF1 : FR S_c_X11_thing M M1) (hs1 : SP_X11_thing v u M r1 M1) (hF2 : FR S_c_X12_thing_ M1 M2) (hs2 : SP_X12_thing_ v u M1 r2 M2) : RY M2.1 ∧ r1 = r2 := by
  have hx := (st_0 h.1 hD0 hF1 hs1 hF2 hs2).1
  have s1 : cC S_c_X11_thing := fun c k q => by simp only [S_c_X11_thing, or_false] at q; omega
  have s2 : cD S_c_X12_thing_ := fun c k q => by simp only [S_c_X12_thing_, or_false] at q; omega
  have c1 : ∀ (c : rf) (k : Nat), c.1 = 12 ∨ 50 ≤ c.1 → M1.1 c k = M.1 c k := fun c k a => hF1 c k (fun q => s1 c k q a)
  have c2 : ∀ (c : rf) (k : Nat), ¬ (c.1 = 12 ∨ 50 ≤ c.1) → M2.1 c k = M1.1 c k := fun c k a => hF2 c k (fun q => a (s2 c k q))
  have e50 : M1.1 (50, 0, 0) = M.1 (50, 0, 0) := funext fun k => c1 _ _ (by simp)
  have hR : RW 0 M.1 (M1.1 (50, 0, 0)) := by rw [e50]; exact h.2.2.1
  have hu : (M1.1 (12, 0, 0) 7).toInt = -1 := by rw [c1 _ _ (by simp)]; exact h.2.1
  have h7 : (M2.1 (12, 0, 0) 7).toInt = -1 := by rw [hF2 (12, 0, 0) 7 (fun q => by simp only [S_c_X12_thing_, or_false] at q; omega)]; exact hu
  have B := cb_0 hs1 hs2 hR hD hu
  exact ⟨RY_of h hF1 hF2 s1 s2 hx hD2.2.1 hD2.2.2.1 h7 B.1 (Or.inl ⟨hF2 _ _ (fun q => by simp only [S_c_X12_thing_, or_false] at q; omega), fun c k a b q => by unfold wR at a; simp only [S_c_X11_thing, or_false] at q; omega, fun k q => by simp only [S_c_X12_thing_, or_false] at q; omega⟩) (SHR_keep h.2.2.2.2 (fun c k a => hF1 c k (fun q => by simp only [S_c_X11_thing, or_false] at q; omega)) (fun c k a => by rw [hF2 c k (fun q => by simp only [S_c_X12_thing_, or_false] at q; omega), c1 c k (by omega)])), B.2⟩
theorem sy_1 {v : Int32} {u : Int32} {M M1 M2 : mM} {r1 r2 : Int32} (h : RY M.1) (hD0 : InvD M) (hD : InvD M1) (hD2 : InvD M2) (hF1 : FR S_c_X11_thingIs M M1) (hs1 : SP_X11_thingIs v u M r1 M1) (hF2 : FR S_c_X12_thingIs M1 M2) (hs2 : SP_X12_thingIs v u M1 r2 M2) : RY M2.1 ∧ True := by
  have hx := (st_1 h.1 hD0 hF1 hs1 hF2 hs2).1
  have s1 : cC S_c_X11_thingIs := fun c k q => by simp only [S_c_X11_thingIs, or_false] at q; omega
  have s2 : cD S_c_X12_thingIs := fun c k q => by simp only [S_c_X12_thingIs, or_false] at q; omega
  have c1 : ∀ (c : rf) (k : Nat), c.1 = 12 ∨ 50 ≤ c.1 → M1.1 c k = M.1 c k := fun c k a => hF1 c k (fun q => s1 c k q a)
  have c2 : ∀ (c : rf) (k : Nat), ¬ (c.1 = 12 ∨ 50 ≤ c.1) → M2.1 c k = M1.1 c k := fun c k a => hF2 c k (fun q => a (s2 c k q))
  have e50 : M1.1 (50, 0, 0) = M.1 (50, 0, 0) := funext fun k => c1 _ _ (by simp)
  have hR : RW 0 M.1 (M1.1 (50, 0, 0)) := by rw [e50]; exact h.2.2.1
  have hu : (M1.1 (12, 0, 0) 7).toInt = -1 := by rw [c1 _ _ (by simp)]; exact h.2.1
  have h7 : (M2.1 (12, 0, 0) 7).toInt = -1 := by rw [hF2 (12, 0, 0) 7 (fun q => by simp only [S_c_X12_thingIs, or_false] at q; omega)]; exact hu
  exact ⟨RY_fr h hF1 hF2 s1 s2 hx hD2.2.1 hD2.2.2.1 (fun c k a b q => by unfold wR at a; simp only [S_c_X11_thingIs, or_false] at q; omega) (fun c k a q => by rcases a with rfl | rfl | ⟨rfl, rfl⟩ | a | a | a <;> (simp only [S_c_X12_thingIs, or_false] at q <;> omega)) (fun c k a q => by simp only [S_c_X11_thingIs, or_false] at q; omega) h7, trivial⟩
theorem sy_2 {v : Int32} {u : Int32} {t : Int32} {M M1 M2 : mM} {r1 r2 : Int32} (h : RY M.1) (hD0 : InvD M) (hD : InvD M1) (hD2 : InvD M2) (hF1 : FR S_c_X11_moves M M1) (hs1 : SP_X11_moves v u t M r1 M1) (hF2 : FR S_c_X12_moves M1 M2) (hs2 : SP_X12_moves v u t M1 r2 M2) : RY M2.1 ∧ r1 = r2 := by
  have hx := (st_2 h.1 hD0 hF1 hs1 hF2 hs2).1
  have s1 : cC S_c_X11_moves := fun c k q => by simp only [S_c_X11_moves, or_false] at q; omega
  have s2 : cD S_c_X12_moves := fun c k q => by simp only [S_c_X12_moves, or_false] at q; omega
  have c1 : ∀ (c : rf) (k : Nat), c.1 = 12 ∨ 50 ≤ c.1 → M1.1 c k = M.1 c k := fun c k a => hF1 c k (fun q => s1 c k q a)
  have c2 : ∀ (c : rf) (k : Nat), ¬ (c.1 = 12 ∨ 50 ≤ c.1) → M2.1 c k = M1.1 c k := fun c k a => hF2 c k (fun q => a (s2 c k q))
  have e50 : M1.1 (50, 0, 0) = M.1 (50, 0, 0) := funext fun k => c1 _ _ (by simp)
  have hR : RW 0 M.1 (M1.1 (50, 0, 0)) := by rw [e50]; exact h.2.2.1
  have hu : (M1.1 (12, 0, 0) 7).toInt = -1 := by rw [c1 _ _ (by simp)]; exact h.2.1
  have h7 : (M2.1 (12, 0, 0) 7).toInt = -1 := by rw [hF2 (12, 0, 0) 7 (fun q => by simp only [S_c_X12_moves, or_false] at q; omega)]; exact hu
  have B := cb_2 hs1 hs2 hR hD hu
  exact ⟨RY_of h hF1 hF2 s1 s2 hx hD2.2.1 hD2.2.2.1 h7 B.1 (Or.inl ⟨hF2 _ _ (fun q => by simp only [S_c_X12_moves, or_false] at q; omega), fun c k a b q => by unfold wR at a; simp only [S_c_X11_moves, or_false] at q; omega, fun k q => by simp only [S_c_X12_moves, or_false] at q; omega⟩) (SHR_keep h.2.2.2.2 (fun c k a => hF1 c k (fun q => by simp only [S_c_X11_moves, or_false] at q; omega)) (fun c k a => by rw [hF2 c k (fun q => by simp only [S_c_X12_moves, or_false] at q; omega), c1 c k (by omega)])), B.2⟩
theorem sy_3 {v : Int32} {M M1 M2 : mM} {r1 r2 : Int32} (h : RY M.1) (hD0 : InvD M) (hD : InvD M1) (hD2 : InvD M2) (hF1 : FR S_c_X11_away M M1) (hs1 : SP_X11_away v M r1 M1) (hF2 : FR S_c_X12_away M1 M2) (hs2 : SP_X12_away v M1 r2 M2) : RY M2.1 ∧ r1 = r2 := by
  have hx := (st_3 h.1 hD0 hF1 hs1 hF2 hs2).1
  have s1 : cC S_c_X11_away := fun c k q => by simp only [S_c_X11_away, or_false] at q; omega
  have s2 : cD S_c_X12_away := fun c k q => by simp only [S_c_X12_away, or_false] at q; omega
  have c1 : ∀ (c : rf) (k : Nat), c.1 = 12 ∨ 50 ≤ c.1 → M1.1 c k = M.1 c k := fun c k a => hF1 c k (fun q => s1 c k q a)
  have c2 : ∀ (c : rf) (k : Nat), ¬ (c.1 = 12 ∨ 50 ≤ c.1) → M2.1 c k = M1.1 c k := fun c k a => hF2 c k (fun q => a (s2 c k q))
  have e50 : M1.1 (50, 0, 0) = M.1 (50, 0, 0) := funext fun k => c1 _ _ (by simp)
  have hR : RW 0 M.1 (M1.1 (50, 0, 0)) := by rw [e50]; exact h.2.2.1
  have hu : (M1.1 (12, 0, 0) 7).toInt = -1 := by rw [c1 _ _ (by simp)]; exact h.2.1
  have h7 : (M2.1 (12, 0, 0) 7).toInt = -1 := by rw [hF2 (12, 0, 0) 7 (fun q => by simp only [S_c_X12_away, or_false] at q; omega)]; exact hu
  have B := cb_3 hs1 hs2 hR hD hu
  exact ⟨RY_of h hF1 hF2 s1 s2 hx hD2.2.1 hD2.2.2.1 h7 B.1 (Or.inl ⟨hF2 _ _ (fun q => by simp only [S_c_X12_away, or_false] at q; omega), fun c k a b q => by unfold wR at a; simp only [S_c_X11_away, or_false] at q; omega, fun k q => by simp only [S_c_X12_away, or_false] at q; omega⟩) (SHR_keep h.2.2.2.2 (fun c k a => hF1 c k (fun q => by simp only [S_c_X11_away, or_false] at q; omega)) (fun c k a => by rw [hF2 c k (fun q => by simp only [S_c_X12_away, or_false] at q; omega), c1 c k (by omega)])), B.2⟩
theorem sy_4 {v : Int32} {u : Int32} {t : Int32} {M M1 M2 : mM} {r1 r2 : Int32} (h : RY M.1) (hD0 : InvD M) (hD : InvD M1) (hD2 : InvD M2) (hF1 : FR S_c_X11_kind M M1) (hs1 : SP_X11_kind v u t M r1 M1) (hF2 : FR S_c_X12_kind M1 M2) (hs2 : SP_X12_kind v u t M1 r2 M2) : RY M2.1 ∧ True := by
  have hx := (st_4 h.1 hD0 hF1 hs1 hF2 hs2).1
  have s1 : cC S_c_X11_kind := fun c k q => by simp only [S_c_X11_kind, or_false] at q; omega
  have s2 : cD S_c_X12_kind := fun c k q => by simp only [S_c_X12_kind, or_false] at q; omega
  have c1 : ∀ (c : rf) (k : Nat), c.1 = 12 ∨ 50 ≤ c.1 → M1.1 c k = M.1 c k := fun c k a => hF1 c k (fun q => s1 c k q a)
  have c2 : ∀ (c : rf) (k : Nat), ¬ (c.1 = 12 ∨ 50 ≤ c.1) → M2.1 c k = M1.1 c k := fun c k a => hF2 c k (fun q => a (s2 c k q))
  have e50 : M1.1 (50, 0, 0) = M.1 (50, 0, 0) := funext fun k => c1 _ _ (by simp)
  have hR : RW 0 M.1 (M1.1 (50, 0, 0)) := by rw [e50]; exact h.2.2.1
  have hu : (M1.1 (12, 0, 0) 7).toInt = -1 := by rw [c1 _ _ (by simp)]; exact h.2.1
  have h7 : (M2.1 (12, 0, 0) 7).toInt = -1 := by rw [hF2 (12, 0, 0) 7 (fun q => by simp only [S_c_X12_kind, or_false] at q; omega)]; exact hu
  have hL : LWR 0 M1.1 (M2.1 (50, 0, 0)) := LWR_keep (LWR_rx hx) (fun r k hr => (c2 _ _ (by dsimp only; omega)).symm) (fun _ _ => rfl)
  exact ⟨RY_of h hF1 hF2 s1 s2 hx hD2.2.1 hD2.2.2.1 h7 (cb_4 hF1 hs2 hR hD hL) (Or.inl ⟨hF2 _ _ (fun q => by simp only [S_c_X12_kind, or_false] at q; omega), fun c k a b q => by unfold wR at a; simp only [S_c_X11_kind, or_false] at q; omega, fun k q => by simp only [S_c_X12_kind, or_false] at q; omega⟩) (SHR_keep h.2.2.2.2 (fun c k a => hF1 c k (fun q => by simp only [S_c_X11_kind, or_false] at q; omega)) (fun c k a => by rw [hF2 c k (fun q => by simp only [S_c_X12_kind, or_false] at q; omega), c1 c k (by omega)])), trivial⟩
theorem sy_5 {v : Int32} {M M1 M2 : mM} {r1 r2 : Int32} (h : RY M.1) (hD0 : InvD M) (hD : InvD M1) (hD2 : InvD M2) (hF1 : FR S_c_X11_at M M1) (hs1 : SP_X11_at v M r1 M1) (hF2 : FR S_c_X12_at M1 M2) (hs2 : SP_X12_at v M1 r2 M2) : RY M2.1 ∧ True := by
  have hx := (st_5 h.1 hD0 hF1 hs1 hF2 hs2).1
  have s1 : cC S_c_X11_at := fun c k q => by simp only [S_c_X11_at, or_false] at q; omega
  have s2 : cD S_c_X12_at := fun c k q => by simp only [S_c_X12_at, or_false] at q; omega
  have c1 : ∀ (c : rf) (k : Nat), c.1 = 12 ∨ 50 ≤ c.1 → M1.1 c k = M.1 c k := fun c k a => hF1 c k (fun q => s1 c k q a)
  have c2 : ∀ (c : rf) (k : Nat), ¬ (c.1 = 12 ∨ 50 ≤ c.1) → M2.1 c k = M1.1 c k := fun c k a => hF2 c k (fun q => a (s2 c k q))
  have e50 : M1.1 (50, 0, 0) = M.1 (50, 0, 0) := funext fun k => c1 _ _ (by simp)
  have hR : RW 0 M.1 (M1.1 (50, 0, 0)) := by rw [e50]; exact h.2.2.1
  have hu : (M1.1 (12, 0, 0) 7).toInt = -1 := by rw [c1 _ _ (by simp)]; exact h.2.1
  have h7 : (M2.1 (12, 0, 0) 7).toInt = -1 := by rw [hF2 (12, 0, 0) 7 (fun q => by simp only [S_c_X12_at, or_false] at q; omega)]; exact hu
  exact ⟨RY_fr h hF1 hF2 s1 s2 hx hD2.2.1 hD2.2.2.1 (fun c k a b q => by unfold wR at a; simp only [S_c_X11_at, or_false] at q; omega) (fun c k a q => by rcases a with rfl | rfl | ⟨rfl, rfl⟩ | a | a | a <;> (simp only [S_c_X12_at, or_false] at q <;> omega)) (fun c k a q => by simp only [S_c_X11_at, or_false] at q; omega) h7, trivial⟩
theorem sy_6 {v : Int32} {u : Int32} {M M1 M2 : mM} {r1 r2 : Int32} (h : RY M.1) (hD0 : InvD M) (hD : InvD M1) (hD2 : InvD M2) (hF1 : FR S_c_X11_lays M M1) (hs1 : SP_X11_lays v u M r1 M1) (hF2 : FR S_c_X12_lays M1 M2) (hs2 : SP_X12_lays v u M1 r2 M2) : RY M2.1 ∧ r1 = r2 := by
  have hx := (st_6 h.1 hD0 hF1 hs1 hF2 hs2).1
  have s1 : cC S_c_X11_lays := fun c k q => by simp only [S_c_X11_lays, or_false] at q; omega
  have s2 : cD S_c_X12_lays := fun c k q => by simp only [S_c_X12_lays, or_false] at q; omega
  have c1 : ∀ (c : rf) (k : Nat), c.1 = 12 ∨ 50 ≤ c.1 → M1.1 c k = M.1 c k := fun c k a => hF1 c k (fun q => s1 c k q a)
  have c2 : ∀ (c : rf) (k : Nat), ¬ (c.1 = 12 ∨ 50 ≤ c.1) → M2.1 c k = M1.1 c k := fun c k a => hF2 c k (fun q => a (s2 c k q))
  have e50 : M1.1 (50, 0, 0) = M.1 (50, 0, 0) := funext fun k => c1 _ _ (by simp)
  have hR : RW 0 M.1 (M1.1 (50, 0, 0)) := by rw [e50]; exact h.2.2.1
  have hu : (M1.1 (12, 0, 0) 7).toInt = -1 := by rw [c1 _ _ (by simp)]; exact h.2.1
  have h7 : (M2.1 (12, 0, 0) 7).toInt = -1 := by rw [hF2 (12, 0, 0) 7 (fun q => by simp only [S_c_X12_lays, or_false] at q; omega)]; exact hu
  have B := cb_6 hs1 hs2 hR hD hu (SHR_keep h.2.2.2.2 (fun _ _ _ => rfl) (fun c k a => c1 c k (by omega)))
  exact ⟨RY_of h hF1 hF2 s1 s2 hx hD2.2.1 hD2.2.2.1 h7 B.1 (Or.inl ⟨hF2 _ _ (fun q => by simp only [S_c_X12_lays, or_false] at q; omega), fun c k a b q => by unfold wR at a; simp only [S_c_X11_lays, or_false] at q; omega, fun k q => by simp only [S_c_X12_lays, or_false] at q; omega⟩) (SHR_keep h.2.2.2.2 (fun c k a => hF1 c k (fun q => by simp only [S_c_X11_lays, or_false] at q; omega)) (fun c k a => by rw [hF2 c k (fun q => by simp only [S_c_X12_lays, or_false] at q; omega), c1 c k (by omega)])), B.2⟩
theorem sy_7 {v : Int32} {u : Int32} {M M1 M2 : mM} {r1 r2 : Int32} (h : RY M.1) (hD0 : InvD M) (hD : InvD M1) (hD2 : InvD M2) (hF1 : FR S_c_X11_air M M1) (hs1 : SP_X11_air v u M r1 M1) (hF2 : FR S_c_X12_air M1 M2) (hs2 : SP_X12_air v u M1 r2 M2) : RY M2.1 ∧ True := by
  have hx := (st_7 h.1 hD0 hF1 hs1 hF2 hs2).1
  have s1 : cC S_c_X11_air := fun c k q => by simp only [S_c_X11_air, or_false] at q; omega
  have s2 : cD S_c_X12_air := fun c k q => by simp only [S_c_X12_air, or_false] at q; omega
  have c1 : ∀ (c : rf) (k : Nat), c.1 = 12 ∨ 50 ≤ c.1 → M1.1 c k = M.1 c k := fun c k a => hF1 c k (fun q => s1 c k q a)
  have c2 : ∀ (c : rf) (k : Nat), ¬ (c.1 = 12 ∨ 50 ≤ c.1) → M2.1 c k = M1.1 c k := fun c k a => hF2 c k (fun q => a (s2 c k q))
  have e50 : M1.1 (50, 0, 0) = M.1 (50, 0, 0) := funext fun k => c1 _ _ (by simp)
  have hR : RW 0 M.1 (M1.1 (50, 0, 0)) := by rw [e50]; exact h.2.2.1
  have hu : (M1.1 (12, 0, 0) 7).toInt = -1 := by rw [c1 _ _ (by simp)]; exact h.2.1
  have h7 : (M2.1 (12, 0, 0) 7).toInt = -1 := by rw [hF2 (12, 0, 0) 7 (fun q => by simp only [S_c_X12_air, or_false] at q; omega)]; exact hu
  have hL : LWR 0 M1.1 (M2.1 (50, 0, 0)) := LWR_keep (LWR_rx hx) (fun r k hr => (c2 _ _ (by dsimp only; omega)).symm) (fun _ _ => rfl)
  exact ⟨RY_of h hF1 hF2 s1 s2 hx hD2.2.1 hD2.2.2.1 h7 (cb_7 hF1 hs2 hR hD hL) (Or.inl ⟨hF2 _ _ (fun q => by simp only [S_c_X12_air, or_false] at q; omega), fun c k a b q => by unfold wR at a; simp only [S_c_X11_air, or_false] at q; omega, fun k q => by simp only [S_c_X12_air, or_false] at q; omega⟩) (SHR_keep h.2.2.2.2 (fun c k a => hF1 c k (fun q => by simp only [S_c_X11_air, or_false] at q; omega)) (fun c k a => by rw [hF2 c k (fun q => by simp only [S_c_X12_air, or_false] at q; omega), c1 c k (by omega)])), trivial⟩
theorem sy_8 {v : Int32} {u : Int32} {t : Int32} {M M1 M2 : mM} {r1 r2 : Int32} (h : RY M.1) (hD0 : InvD M) (hD : InvD M1) (hD2 : InvD M2) (hF1 : FR S_c_X11_walker M M1) (hs1 : SP_X11_walker v u t M r1 M1) (hF2 : FR S_c_X12_walker M1 M2) (hs2 : SP_X12_walker v u t M1 r2 M2) : RY M2.1 ∧ r1 = r2 := by
  have hx := (st_8 h.1 hD0 hF1 hs1 hF2 hs2).1
  have s1 : cC S_c_X11_walker := fun c k q => by simp only [S_c_X11_walker, or_false] at q; omega
  have s2 : cD S_c_X12_walker := fun c k q => by simp only [S_c_X12_walker, or_false] at q; omega
  have c1 : ∀ (c : rf) (k : Nat), c.1 = 12 ∨ 50 ≤ c.1 → M1.1 c k = M.1 c k := fun c k a => hF1 c k (fun q => s1 c k q a)
  have c2 : ∀ (c : rf) (k : Nat), ¬ (c.1 = 12 ∨ 50 ≤ c.1) → M2.1 c k = M1.1 c k := fun c k a => hF2 c k (fun q => a (s2 c k q))
  have e50 : M1.1 (50, 0, 0) = M.1 (50, 0, 0) := funext fun k => c1 _ _ (by simp)
  have hR : RW 0 M.1 (M1.1 (50, 0, 0)) := by rw [e50]; exact h.2.2.1
  have hu : (M1.1 (12, 0, 0) 7).toInt = -1 := by rw [c1 _ _ (by simp)]; exact h.2.1
  have h7 : (M2.1 (12, 0, 0) 7).toInt = -1 := by rw [hF2 (12, 0, 0) 7 (fun q => by simp only [S_c_X12_walker, or_false] at q; omega)]; exact hu
  have B := cb_8 hs1 hs2 hR hD hu
  exact ⟨RY_of h hF1 hF2 s1 s2 hx hD2.2.1 hD2.2.2.1 h7 B.1 (Or.inl ⟨hF2 _ _ (fun q => by simp only [S_c_X12_walker, or_false] at q; omega), fun c k a b q => by unfold wR at a; simp only [S_c_X11_walker, or_false] at q; omega, fun k q => by simp only [S_c_X12_walker, or_false] at q; omega⟩) (SHR_keep h.2.2.2.2 (fun c k a => hF1 c k (fun q => by simp only [S_c_X11_walker, or_false] at q; omega)) (fun c k a => by rw [hF2 c k (fun q => by simp only [S_c_X12_walker, or_false] at q; omega), c1 c k (by omega)])), B.2⟩
theorem sy_9 {v : Int32} {u : Int32} {M M1 M2 : mM} {r1 r2 : Int32} (h : RY M.1) (hD0 : InvD M) (hD : InvD M1) (hD2 : InvD M2) (hF1 : FR S_c_X11_walkerIs M M1) (hs1 : SP_X11_walkerIs v u M r1 M1) (hF2 : FR S_c_X12_walkerIs M1 M2) (hs2 : SP_X12_walkerIs v u M1 r2 M2) : RY M2.1 ∧ True := by
  have hx := (st_9 h.1 hD0 hF1 hs1 hF2 hs2).1
  have s1 : cC S_c_X11_walkerIs := fun c k q => by simp only [S_c_X11_walkerIs, or_false] at q; omega
  have s2 : cD S_c_X12_walkerIs := fun c k q => by simp only [S_c_X12_walkerIs, or_false] at q; omega
  have c1 : ∀ (c : rf) (k : Nat), c.1 = 12 ∨ 50 ≤ c.1 → M1.1 c k = M.1 c k := fun c k a => hF1 c k (fun q => s1 c k q a)
  have c2 : ∀ (c : rf) (k : Nat), ¬ (c.1 = 12 ∨ 50 ≤ c.1) → M2.1 c k = M1.1 c k := fun c k a => hF2 c k (fun q => a (s2 c k q))
  have e50 : M1.1 (50, 0, 0) = M.1 (50, 0, 0) := funext fun k => c1 _ _ (by simp)
  have hR : RW 0 M.1 (M1.1 (50, 0, 0)) := by rw [e50]; exact h.2.2.1
  have hu : (M1.1 (12, 0, 0) 7).toInt = -1 := by rw [c1 _ _ (by simp)]; exact h.2.1
  have h7 : (M2.1 (12, 0, 0) 7).toInt = -1 := by rw [hF2 (12, 0, 0) 7 (fun q => by simp only [S_c_X12_walkerIs, or_false] at q; omega)]; exact hu
  exact ⟨RY_fr h hF1 hF2 s1 s2 hx hD2.2.1 hD2.2.2.1 (fun c k a b q => by unfold wR at a; simp only [S_c_X11_walkerIs, or_false] at q; omega) (fun c k a q => by rcases a with rfl | rfl | ⟨rfl, rfl⟩ | a | a | a <;> (simp only [S_c_X12_walkerIs, or_false] at q <;> omega)) (fun c k a q => by simp only [S_c_X11_walkerIs, or_false] at q; omega) h7, trivial⟩
theorem sy_10 {v : Int32} {u : Int32} {M M1 M2 : mM} {r1 r2 : Int32} (h : RY M.1) (hD0 : InvD M) (hD : InvD M1) (hD2 : InvD M2) (hF1 : FR S_c_X11_as M M1) (hs1 : SP_X11_as v u M r1 M1) (hF2 : FR S_c_X12_as M1 M2) (hs2 : SP_X12_as v u M1 r2 M2) : RY M2.1 ∧ True := by
  have hx := (st_10 h.1 hD0 hF1 hs1 hF2 hs2).1
  have s1 : cC S_c_X11_as := fun c k q => by simp only [S_c_X11_as, or_false] at q; omega
  have s2 : cD S_c_X12_as := fun c k q => by simp only [S_c_X12_as, or_false] at q; omega
  have c1 : ∀ (c : rf) (k : Nat), c.1 = 12 ∨ 50 ≤ c.1 → M1.1 c k = M.1 c k := fun c k a => hF1 c k (fun q => s1 c k q a)
  have c2 : ∀ (c : rf) (k : Nat), ¬ (c.1 = 12 ∨ 50 ≤ c.1) → M2.1 c k = M1.1 c k := fun c k a => hF2 c k (fun q => a (s2 c k q))
  have e50 : M1.1 (50, 0, 0) = M.1 (50, 0, 0) := funext fun k => c1 _ _ (by simp)
  have hR : RW 0 M.1 (M1.1 (50, 0, 0)) := by rw [e50]; exact h.2.2.1
  have hu : (M1.1 (12, 0, 0) 7).toInt = -1 := by rw [c1 _ _ (by simp)]; exact h.2.1
  have h7 : (M2.1 (12, 0, 0) 7).toInt = -1 := by rw [hF2 (12, 0, 0) 7 (fun q => by simp only [S_c_X12_as, or_false] at q; omega)]; exact hu
  exact ⟨RY_fr h hF1 hF2 s1 s2 hx hD2.2.1 hD2.2.2.1 (fun c k a b q => by unfold wR at a; simp only [S_c_X11_as, or_false] at q; omega) (fun c k a q => by rcases a with rfl | rfl | ⟨rfl, rfl⟩ | a | a | a <;> (simp only [S_c_X12_as, or_false] at q <;> omega)) (fun c k a q => by simp only [S_c_X11_as, or_false] at q; omega) h7, trivial⟩
theorem sy_11 {v : Int32} {u : Int32} {t : Int32} {s : Int32} {M M1 M2 : mM} {r1 r2 : Int32} (h : RY M.1) (hD0 : InvD M) (hD : InvD M1) (hD2 : InvD M2) (hF1 : FR S_c_X11_habit M M1) (hs1 : SP_X11_habit v u t s M r1 M1) (hF2 : FR S_c_X12_habit M1 M2) (hs2 : SP_X12_habit v u t s M1 r2 M2) : RY M2.1 ∧ r1 = r2 := by
  have hx := (st_11 h.1 hD0 hF1 hs1 hF2 hs2).1
  have s1 : cC S_c_X11_habit := fun c k q => by simp only [S_c_X11_habit, or_false] at q; omega
  have s2 : cD S_c_X12_habit := fun c k q => by simp only [S_c_X12_habit, or_false] at q; omega
  have c1 : ∀ (c : rf) (k : Nat), c.1 = 12 ∨ 50 ≤ c.1 → M1.1 c k = M.1 c k := fun c k a => hF1 c k (fun q => s1 c k q a)
  have c2 : ∀ (c : rf) (k : Nat), ¬ (c.1 = 12 ∨ 50 ≤ c.1) → M2.1 c k = M1.1 c k := fun c k a => hF2 c k (fun q => a (s2 c k q))
  have e50 : M1.1 (50, 0, 0) = M.1 (50, 0, 0) := funext fun k => c1 _ _ (by simp)
  have hR : RW 0 M.1 (M1.1 (50, 0, 0)) := by rw [e50]; exact h.2.2.1
  have hu : (M1.1 (12, 0, 0) 7).toInt = -1 := by rw [c1 _ _ (by simp)]; exact h.2.1
  have h7 : (M2.1 (12, 0, 0) 7).toInt = -1 := by rw [hF2 (12, 0, 0) 7 (fun q => by simp only [S_c_X12_habit, or_false] at q; omega)]; exact hu
  have B := cb_11 hs1 hs2 hR hD hu
  exact ⟨RY_of h hF1 hF2 s1 s2 hx hD2.2.1 hD2.2.2.1 h7 B.1 (Or.inl ⟨hF2 _ _ (fun q => by simp only [S_c_X12_habit, or_false] at q; omega), fun c k a b q => by unfold wR at a; simp only [S_c_X11_habit, or_false] at q; omega, fun k q => by simp only [S_c_X12_habit, or_false] at q; omega⟩) (SHR_keep h.2.2.2.2 (fun c k a => hF1 c k (fun q => by simp only [S_c_X11_habit, or_false] at q; omega)) (fun c k a => by rw [hF2 c k (fun q => by simp only [S_c_X12_habit, or_false] at q; omega), c1 c k (by omega)])), B.2⟩
theorem sy_12 {v : Int32} {u : Int32} {M M1 M2 : mM} {r1 r2 : Int32} (h : RY M.1) (hD0 : InvD M) (hD : InvD M1) (hD2 : InvD M2) (hF1 : FR S_c_X11_face M M1) (hs1 : SP_X11_face v u M r1 M1) (hF2 : FR S_c_X12_face M1 M2) (hs2 : SP_X12_face v u M1 r2 M2) : RY M2.1 ∧ r1 = r2 := by
  have hx := (st_12 h.1 hD0 hF1 hs1 hF2 hs2).1
  have s1 : cC S_c_X11_face := fun c k q => by simp only [S_c_X11_face, or_false] at q; omega
  have s2 : cD S_c_X12_face := fun c k q => by simp only [S_c_X12_face, or_false] at q; omega
  have c1 : ∀ (c : rf) (k : Nat), c.1 = 12 ∨ 50 ≤ c.1 → M1.1 c k = M.1 c k := fun c k a => hF1 c k (fun q => s1 c k q a)
  have c2 : ∀ (c : rf) (k : Nat), ¬ (c.1 = 12 ∨ 50 ≤ c.1) → M2.1 c k = M1.1 c k := fun c k a => hF2 c k (fun q => a (s2 c k q))
  have e50 : M1.1 (50, 0, 0) = M.1 (50, 0, 0) := funext fun k => c1 _ _ (by simp)
  have hR : RW 0 M.1 (M1.1 (50, 0, 0)) := by rw [e50]; exact h.2.2.1
  have hu : (M1.1 (12, 0, 0) 7).toInt = -1 := by rw [c1 _ _ (by simp)]; exact h.2.1
  have h7 : (M2.1 (12, 0, 0) 7).toInt = -1 := by rw [hF2 (12, 0, 0) 7 (fun q => by simp only [S_c_X12_face, or_false] at q; omega)]; exact hu
  have B := cb_12 hs1 hs2 hR hD hu
  exact ⟨RY_of h hF1 hF2 s1 s2 hx hD2.2.1 hD2.2.2.1 h7 B.1 (Or.inl ⟨hF2 _ _ (fun q => by simp only [S_c_X12_face, or_false] at q; omega), fun c k a b q => by unfold wR at a; simp only [S_c_X11_face, or_false] at q; omega, fun k q => by simp only [S_c_X12_face, or_false] at q; omega⟩) (SHR_keep h.2.2.2.2 (fun c k a => hF1 c k (fun q => by simp only [S_c_X11_face, or_false] at q; omega)) (fun c k a => by rw [hF2 c k (fun q => by simp only [S_c_X12_face, or_false] at q; omega), c1 c k (by omega)])), B.2⟩
theorem sy_13 {v : Int32} {u : Int32} {M M1 M2 : mM} {r1 r2 : Int32} (h : RY M.1) (hD0 : InvD M) (hD : InvD M1) (hD2 : InvD M2) (hF1 : FR S_c_X11_goes M M1) (hs1 : SP_X11_goes v u M r1 M1) (hF2 : FR S_c_X12_goes M1 M2) (hs2 : SP_X12_goes v u M1 r2 M2) (hub : 0 ≤ u.toInt ∧ u.toInt ≤ 1) : RY M2.1 ∧ r1 = r2 := by
  have hx := (st_13 h.1 hD0 hF1 hs1 hF2 hs2).1
  have s1 : cC S_c_X11_goes := fun c k q => by simp only [S_c_X11_goes, or_false] at q; omega
  have s2 : cD S_c_X12_goes := fun c k q => by simp only [S_c_X12_goes, or_false] at q; omega
  have c1 : ∀ (c : rf) (k : Nat), c.1 = 12 ∨ 50 ≤ c.1 → M1.1 c k = M.1 c k := fun c k a => hF1 c k (fun q => s1 c k q a)
  have c2 : ∀ (c : rf) (k : Nat), ¬ (c.1 = 12 ∨ 50 ≤ c.1) → M2.1 c k = M1.1 c k := fun c k a => hF2 c k (fun q => a (s2 c k q))
  have e50 : M1.1 (50, 0, 0) = M.1 (50, 0, 0) := funext fun k => c1 _ _ (by simp)
  have hR : RW 0 M.1 (M1.1 (50, 0, 0)) := by rw [e50]; exact h.2.2.1
  have hu : (M1.1 (12, 0, 0) 7).toInt = -1 := by rw [c1 _ _ (by simp)]; exact h.2.1
  have h7 : (M2.1 (12, 0, 0) 7).toInt = -1 := by rw [hF2 (12, 0, 0) 7 (fun q => by simp only [S_c_X12_goes, or_false] at q; omega)]; exact hu
  have B := cb_13 hs1 hs2 hR hD hu hub
  exact ⟨RY_of h hF1 hF2 s1 s2 hx hD2.2.1 hD2.2.2.1 h7 B.1 (Or.inl ⟨hF2 _ _ (fun q => by simp only [S_c_X12_goes, or_false] at q; omega), fun c k a b q => by unfold wR at a; simp only [S_c_X11_goes, or_false] at q; omega, fun k q => by simp only [S_c_X12_goes, or_false] at q; omega⟩) (SHR_keep h.2.2.2.2 (fun c k a => hF1 c k (fun q => by simp only [S_c_X11_goes, or_false] at q; omega)) (fun c k a => by rw [hF2 c k (fun q => by simp only [S_c_X12_goes, or_false] at q; omega), c1 c k (by omega)])), B.2⟩
theorem sy_14 {v : Int64} {u : Int32} {M M1 M2 : mM} {r1 r2 : Int32} (h : RY M.1) (hD0 : InvD M) (hD : InvD M1) (hD2 : InvD M2) (hF1 : FR S_c_X11_feed M M1) (hs1 : SP_X11_feed v u M r1 M1) (hF2 : FR S_c_X12_feed M1 M2) (hs2 : SP_X12_feed v u M1 r2 M2) : RY M2.1 ∧ r1 = r2 := by
  have hx := (st_14 h.1 hD0 hF1 hs1 hF2 hs2).1
  have s1 : cC S_c_X11_feed := fun c k q => by simp only [S_c_X11_feed, or_false] at q; omega
  have s2 : cD S_c_X12_feed := fun c k q => by simp only [S_c_X12_feed, or_false] at q; omega
  have c1 : ∀ (c : rf) (k : Nat), c.1 = 12 ∨ 50 ≤ c.1 → M1.1 c k = M.1 c k := fun c k a => hF1 c k (fun q => s1 c k q a)
  have c2 : ∀ (c : rf) (k : Nat), ¬ (c.1 = 12 ∨ 50 ≤ c.1) → M2.1 c k = M1.1 c k := fun c k a => hF2 c k (fun q => a (s2 c k q))
  have e50 : M1.1 (50, 0, 0) = M.1 (50, 0, 0) := funext fun k => c1 _ _ (by simp)
  have hR : RW 0 M.1 (M1.1 (50, 0, 0)) := by rw [e50]; exact h.2.2.1
  have hu : (M1.1 (12, 0, 0) 7).toInt = -1 := by rw [c1 _ _ (by simp)]; exact h.2.1
  have h7 : (M2.1 (12, 0, 0) 7).toInt = -1 := by rw [hF2 (12, 0, 0) 7 (fun q => by simp only [S_c_X12_feed, or_false] at q; omega)]; exact hu
  have B := cb_14 hs1 hs2 hR hD hu (show M.1 (5, 0, 0) 1 = M1.1 (50, 0, 0) 4 from ((RXzg h.1 (d := (50, 0, 0)) (j := 4) (by unfold PRz; simp) (by simp)).trans (c1 _ _ (by simp)).symm))
  exact ⟨RY_of h hF1 hF2 s1 s2 hx hD2.2.1 hD2.2.2.1 h7 B.1 (Or.inl ⟨hF2 _ _ (fun q => by simp only [S_c_X12_feed, or_false] at q; omega), fun c k a b q => by unfold wR at a; simp only [S_c_X11_feed, or_false] at q; omega, fun k q => by simp only [S_c_X12_feed, or_false] at q; omega⟩) (SHR_keep h.2.2.2.2 (fun c k a => hF1 c k (fun q => by simp only [S_c_X11_feed, or_false] at q; omega)) (fun c k a => by rw [hF2 c k (fun q => by simp only [S_c_X12_feed, or_false] at q; omega), c1 c k (by omega)])), B.2⟩
theorem sy_15 {v : Int32} {M M1 M2 : mM} {r1 r2 : Int32} (h : RY M.1) (hD0 : InvD M) (hD : InvD M1) (hD2 : InvD M2) (hF1 : FR S_c_X11_text M M1) (hs1 : SP_X11_text v M r1 M1) (hF2 : FR S_c_X12_text_ M1 M2) (hs2 : SP_X12_text_ v M1 r2 M2) : RY M2.1 ∧ r1 = r2 := by
  have hx := (st_15 h.1 hD0 hF1 hs1 hF2 hs2).1
  have s1 : cC S_c_X11_text := fun c k q => by simp only [S_c_X11_text, or_false] at q; omega
  have s2 : cD S_c_X12_text_ := fun c k q => by simp only [S_c_X12_text_, or_false] at q; omega
  have c1 : ∀ (c : rf) (k : Nat), c.1 = 12 ∨ 50 ≤ c.1 → M1.1 c k = M.1 c k := fun c k a => hF1 c k (fun q => s1 c k q a)
  have c2 : ∀ (c : rf) (k : Nat), ¬ (c.1 = 12 ∨ 50 ≤ c.1) → M2.1 c k = M1.1 c k := fun c k a => hF2 c k (fun q => a (s2 c k q))
  have e50 : M1.1 (50, 0, 0) = M.1 (50, 0, 0) := funext fun k => c1 _ _ (by simp)
  have hR : RW 0 M.1 (M1.1 (50, 0, 0)) := by rw [e50]; exact h.2.2.1
  have hu : (M1.1 (12, 0, 0) 7).toInt = -1 := by rw [c1 _ _ (by simp)]; exact h.2.1
  have h7 : (M2.1 (12, 0, 0) 7).toInt = -1 := by rw [hF2 (12, 0, 0) 7 (fun q => by simp only [S_c_X12_text_, or_false] at q; omega)]; exact hu
  have B := cb_text hs1 hs2 hR hD (show M.1 (5, 0, 0) 1 = M1.1 (50, 0, 0) 4 from ((RXzg h.1 (d := (50, 0, 0)) (j := 4) (by unfold PRz; simp) (by simp)).trans (c1 _ _ (by simp)).symm))
  exact ⟨RY_of h hF1 hF2 s1 s2 hx hD2.2.1 hD2.2.2.1 h7 B.1 (Or.inl ⟨hF2 _ _ (fun q => by simp only [S_c_X12_text_, or_false] at q; omega), fun c k a b q => by unfold wR at a; simp only [S_c_X11_text, or_false] at q; omega, fun k q => by simp only [S_c_X12_text_, or_false] at q; omega⟩) (SHR_keep h.2.2.2.2 (fun c k a => hF1 c k (fun q => by simp only [S_c_X11_text, or_false] at q; omega)) (fun c k a => by rw [hF2 c k (fun q => by simp only [S_c_X12_text_, or_false] at q; omega), c1 c k (by omega)])), B.2⟩
theorem sy_16 {v : Int32} {u : Int32} {t : Int32} {s : Int32} {M M1 M2 : mM} {r1 r2 : Int32} (h : RY M.1) (hD0 : InvD M) (hD : InvD M1) (hD2 : InvD M2) (hF1 : FR S_c_X11_echo M M1) (hs1 : SP_X11_echo v u t s M r1 M1) (hF2 : FR S_c_X12_echo M1 M2) (hs2 : SP_X12_echo v u t s M1 r2 M2) : RY M2.1 ∧ True := by
  have hx := (st_16 h.1 hD0 hF1 hs1 hF2 hs2).1
  have s1 : cC S_c_X11_echo := fun c k q => by simp only [S_c_X11_echo, or_false] at q; omega
  have s2 : cD S_c_X12_echo := fun c k q => by simp only [S_c_X12_echo, or_false] at q; omega
  have c1 : ∀ (c : rf) (k : Nat), c.1 = 12 ∨ 50 ≤ c.1 → M1.1 c k = M.1 c k := fun c k a => hF1 c k (fun q => s1 c k q a)
  have c2 : ∀ (c : rf) (k : Nat), ¬ (c.1 = 12 ∨ 50 ≤ c.1) → M2.1 c k = M1.1 c k := fun c k a => hF2 c k (fun q => a (s2 c k q))
  have e50 : M1.1 (50, 0, 0) = M.1 (50, 0, 0) := funext fun k => c1 _ _ (by simp)
  have hR : RW 0 M.1 (M1.1 (50, 0, 0)) := by rw [e50]; exact h.2.2.1
  have hu : (M1.1 (12, 0, 0) 7).toInt = -1 := by rw [c1 _ _ (by simp)]; exact h.2.1
  have h7 : (M2.1 (12, 0, 0) 7).toInt = -1 := by rw [hF2 (12, 0, 0) 7 (fun q => by simp only [S_c_X12_echo, or_false] at q; omega)]; exact hu
  exact ⟨RY_fr h hF1 hF2 s1 s2 hx hD2.2.1 hD2.2.2.1 (fun c k a b q => by unfold wR at a; simp only [S_c_X11_echo, or_false] at q; omega) (fun c k a q => by rcases a with rfl | rfl | ⟨rfl, rfl⟩ | a | a | a <;> (simp only [S_c_X12_echo, or_false] at q <;> omega)) (fun c k a q => by simp only [S_c_X11_echo, or_false] at q; omega) h7, trivial⟩
theorem sy_17 {v : Int32} {M M1 M2 : mM} {r1 r2 : Int32} (h : RY M.1) (hD0 : InvD M) (hD : InvD M1) (hD2 : InvD M2) (hF1 : FR S_c_X11_click M M1) (hs1 : SP_X11_click v M r1 M1) (hF2 : FR S_c_X12_click M1 M2) (hs2 : SP_X12_click v M1 r2 M2) : RY M2.1 ∧ r1 = r2 := by
  have hx := (st_17 h.1 hD0 hF1 hs1 hF2 hs2).1
  have s1 : cC S_c_X11_click := fun c k q => by simp only [S_c_X11_click, or_false] at q; omega
  have s2 : cD S_c_X12_click := fun c k q => by simp only [S_c_X12_click, or_false] at q; omega
  have c1 : ∀ (c : rf) (k : Nat), c.1 = 12 ∨ 50 ≤ c.1 → M1.1 c k = M.1 c k := fun c k a => hF1 c k (fun q => s1 c k q a)
  have c2 : ∀ (c : rf) (k : Nat), ¬ (c.1 = 12 ∨ 50 ≤ c.1) → M2.1 c k = M1.1 c k := fun c k a => hF2 c k (fun q => a (s2 c k q))
  have e50 : M1.1 (50, 0, 0) = M.1 (50, 0, 0) := funext fun k => c1 _ _ (by simp)
  have hR : RW 0 M.1 (M1.1 (50, 0, 0)) := by rw [e50]; exact h.2.2.1
  have hu : (M1.1 (12, 0, 0) 7).toInt = -1 := by rw [c1 _ _ (by simp)]; exact h.2.1
  have h7 : (M2.1 (12, 0, 0) 7).toInt = -1 := by rw [hF2 (12, 0, 0) 7 (fun q => by simp only [S_c_X12_click, or_false] at q; omega)]; exact hu
  have B := cb_17 hs1 hs2 hR hD hu
  exact ⟨RY_of h hF1 hF2 s1 s2 hx hD2.2.1 hD2.2.2.1 h7 B.1 (Or.inl ⟨hF2 _ _ (fun q => by simp only [S_c_X12_click, or_false] at q; omega), fun c k a b q => by unfold wR at a; simp only [S_c_X11_click, or_false] at q; omega, fun k q => by simp only [S_c_X12_click, or_false] at q; omega⟩) (SHR_keep h.2.2.2.2 (fun c k a => hF1 c k (fun q => by simp only [S_c_X11_click, or_false] at q; omega)) (fun c k a => by rw [hF2 c k (fun q => by simp only [S_c_X12_click, or_false] at q; omega), c1 c k (by omega)])), B.2⟩
theorem sy_18 {v : Int32} {u : Int32} {t : Int32} {M M1 M2 : mM} {r1 r2 : Int32} (h : RY M.1) (hD0 : InvD M) (hD : InvD M1) (hD2 : InvD M2) (hF1 : FR S_c_X11_head M M1) (hs1 : SP_X11_head v u t M r1 M1) (hF2 : FR S_c_X12_head M1 M2) (hs2 : SP_X12_head v u t M1 r2 M2) : RY M2.1 ∧ True := by
  have hx := (st_18 h.1 hD0 hF1 hs1 hF2 hs2).1
  have s1 : cC S_c_X11_head := fun c k q => by simp only [S_c_X11_head, or_false] at q; omega
  have s2 : cD S_c_X12_head := fun c k q => by simp only [S_c_X12_head, or_false] at q; omega
  have c1 : ∀ (c : rf) (k : Nat), c.1 = 12 ∨ 50 ≤ c.1 → M1.1 c k = M.1 c k := fun c k a => hF1 c k (fun q => s1 c k q a)
  have c2 : ∀ (c : rf) (k : Nat), ¬ (c.1 = 12 ∨ 50 ≤ c.1) → M2.1 c k = M1.1 c k := fun c k a => hF2 c k (fun q => a (s2 c k q))
  have e50 : M1.1 (50, 0, 0) = M.1 (50, 0, 0) := funext fun k => c1 _ _ (by simp)
  have hR : RW 0 M.1 (M1.1 (50, 0, 0)) := by rw [e50]; exact h.2.2.1
  have hu : (M1.1 (12, 0, 0) 7).toInt = -1 := by rw [c1 _ _ (by simp)]; exact h.2.1
  have h7 : (M2.1 (12, 0, 0) 7).toInt = -1 := by rw [hF2 (12, 0, 0) 7 (fun q => by simp only [S_c_X12_head, or_false] at q; omega)]; exact hu
  exact ⟨RY_fr h hF1 hF2 s1 s2 hx hD2.2.1 hD2.2.2.1 (fun c k a b q => by unfold wR at a; simp only [S_c_X11_head, or_false] at q; omega) (fun c k a q => by rcases a with rfl | rfl | ⟨rfl, rfl⟩ | a | a | a <;> (simp only [S_c_X12_head, or_false] at q <;> omega)) (fun c k a q => by simp only [S_c_X11_head, or_false] at q; omega) h7, trivial⟩
theorem sy_19 {v : Int32} {u : Int32} {M M1 M2 : mM} {r1 r2 : Int32} (h : RY M.1) (hD0 : InvD M) (hD : InvD M1) (hD2 : InvD M2) (hF1 : FR S_c_X11_heads M M1) (hs1 : SP_X11_heads v u M r1 M1) (hF2 : FR S_c_X12_heads M1 M2) (hs2 : SP_X12_heads v u M1 r2 M2) : RY M2.1 ∧ True := by
  have hx := (st_19 h.1 hD0 hF1 hs1 hF2 hs2).1
  have s1 : cC S_c_X11_heads := fun c k q => by simp only [S_c_X11_heads, or_false] at q; omega
  have s2 : cD S_c_X12_heads := fun c k q => by simp only [S_c_X12_heads, or_false] at q; omega
  have c1 : ∀ (c : rf) (k : Nat), c.1 = 12 ∨ 50 ≤ c.1 → M1.1 c k = M.1 c k := fun c k a => hF1 c k (fun q => s1 c k q a)
  have c2 : ∀ (c : rf) (k : Nat), ¬ (c.1 = 12 ∨ 50 ≤ c.1) → M2.1 c k = M1.1 c k := fun c k a => hF2 c k (fun q => a (s2 c k q))
  have e50 : M1.1 (50, 0, 0) = M.1 (50, 0, 0) := funext fun k => c1 _ _ (by simp)
  have hR : RW 0 M.1 (M1.1 (50, 0, 0)) := by rw [e50]; exact h.2.2.1
  have hu : (M1.1 (12, 0, 0) 7).toInt = -1 := by rw [c1 _ _ (by simp)]; exact h.2.1
  have h7 : (M2.1 (12, 0, 0) 7).toInt = -1 := by rw [hF2 (12, 0, 0) 7 (fun q => by simp only [S_c_X12_heads, or_false] at q; omega)]; exact hu
  exact ⟨RY_fr h hF1 hF2 s1 s2 hx hD2.2.1 hD2.2.2.1 (fun c k a b q => by unfold wR at a; simp only [S_c_X11_heads, or_false] at q; omega) (fun c k a q => by rcases a with rfl | rfl | ⟨rfl, rfl⟩ | a | a | a <;> (simp only [S_c_X12_heads, or_false] at q <;> omega)) (fun c k a q => by simp only [S_c_X11_heads, or_false] at q; omega) h7, trivial⟩
theorem sy_20 {v : Int32} {u : Int32} {t : Int32} {s : Int32} {q : Int32} {M M1 M2 : mM} {r1 r2 : Int32} (h : RY M.1) (hD0 : InvD M) (hD : InvD M1) (hD2 : InvD M2) (hF1 : FR S_c_X11_alike M M1) (hs1 : SP_X11_alike v u t s q M r1 M1) (hF2 : FR S_c_X12_alike M1 M2) (hs2 : SP_X12_alike v u t s q M1 r2 M2) : RY M2.1 ∧ True := by
  have hx := (st_20 h.1 hD0 hF1 hs1 hF2 hs2).1
  have s1 : cC S_c_X11_alike := fun c k q => by simp only [S_c_X11_alike, or_false] at q; omega
  have s2 : cD S_c_X12_alike := fun c k q => by simp only [S_c_X12_alike, or_false] at q; omega
  have c1 : ∀ (c : rf) (k : Nat), c.1 = 12 ∨ 50 ≤ c.1 → M1.1 c k = M.1 c k := fun c k a => hF1 c k (fun q => s1 c k q a)
  have c2 : ∀ (c : rf) (k : Nat), ¬ (c.1 = 12 ∨ 50 ≤ c.1) → M2.1 c k = M1.1 c k := fun c k a => hF2 c k (fun q => a (s2 c k q))
  have e50 : M1.1 (50, 0, 0) = M.1 (50, 0, 0) := funext fun k => c1 _ _ (by simp)
  have hR : RW 0 M.1 (M1.1 (50, 0, 0)) := by rw [e50]; exact h.2.2.1
  have hu : (M1.1 (12, 0, 0) 7).toInt = -1 := by rw [c1 _ _ (by simp)]; exact h.2.1
  have h7 : (M2.1 (12, 0, 0) 7).toInt = -1 := by rw [hF2 (12, 0, 0) 7 (fun q => by simp only [S_c_X12_alike, or_false] at q; omega)]; exact hu
  exact ⟨RY_fr h hF1 hF2 s1 s2 hx hD2.2.1 hD2.2.2.1 (fun c k a b q => by unfold wR at a; simp only [S_c_X11_alike, or_false] at q; omega) (fun c k a q => by rcases a with rfl | rfl | ⟨rfl, rfl⟩ | a | a | a <;> (simp only [S_c_X12_alike, or_false] at q <;> omega)) (fun c k a q => by simp only [S_c_X11_alike, or_false] at q; omega) h7, trivial⟩
theorem sy_21 {v : Int32} {u : Int32} {t : Int32} {s : Int32} {M M1 M2 : mM} {r1 r2 : Int32} (h : RY M.1) (hD0 : InvD M) (hD : InvD M1) (hD2 : InvD M2) (hF1 : FR S_c_X11_least M M1) (hs1 : SP_X11_least v u t s M r1 M1) (hF2 : FR S_c_X12_least M1 M2) (hs2 : SP_X12_least v u t s M1 r2 M2) : RY M2.1 ∧ True := by
  have hx := (st_21 h.1 hD0 hF1 hs1 hF2 hs2).1
  have s1 : cC S_c_X11_least := fun c k q => by simp only [S_c_X11_least, or_false] at q; omega
  have s2 : cD S_c_X12_least := fun c k q => by simp only [S_c_X12_least, or_false] at q; omega
  have c1 : ∀ (c : rf) (k : Nat), c.1 = 12 ∨ 50 ≤ c.1 → M1.1 c k = M.1 c k := fun c k a => hF1 c k (fun q => s1 c k q a)
  have c2 : ∀ (c : rf) (k : Nat), ¬ (c.1 = 12 ∨ 50 ≤ c.1) → M2.1 c k = M1.1 c k := fun c k a => hF2 c k (fun q => a (s2 c k q))
  have e50 : M1.1 (50, 0, 0) = M.1 (50, 0, 0) := funext fun k => c1 _ _ (by simp)
  have hR : RW 0 M.1 (M1.1 (50, 0, 0)) := by rw [e50]; exact h.2.2.1
  have hu : (M1.1 (12, 0, 0) 7).toInt = -1 := by rw [c1 _ _ (by simp)]; exact h.2.1
  have h7 : (M2.1 (12, 0, 0) 7).toInt = -1 := by rw [hF2 (12, 0, 0) 7 (fun q => by simp only [S_c_X12_least, or_false] at q; omega)]; exact hu
  exact ⟨RY_fr h hF1 hF2 s1 s2 hx hD2.2.1 hD2.2.2.1 (fun c k a b q => by unfold wR at a; simp only [S_c_X11_least, or_false] at q; omega) (fun c k a q => by rcases a with rfl | rfl | ⟨rfl, rfl⟩ | a | a | a <;> (simp only [S_c_X12_least, or_false] at q <;> omega)) (fun c k a q => by simp only [S_c_X11_least, or_false] at q; omega) h7, trivial⟩
theorem sy_22 {v : Int32} {u : Int32} {t : Int32} {M M1 M2 : mM} {r1 r2 : Int32} (h : RY M.1) (hD0 : InvD M) (hD : InvD M1) (hD2 : InvD M2) (hF1 : FR S_c_X11_farthest M M1) (hs1 : SP_X11_farthest v u t M r1 M1) (hF2 : FR S_c_X12_farthest M1 M2) (hs2 : SP_X12_farthest v u t M1 r2 M2) : RY M2.1 ∧ True := by
  have hx := (st_22 h.1 hD0 hF1 hs1 hF2 hs2).1
  have s1 : cC S_c_X11_farthest := fun c k q => by simp only [S_c_X11_farthest, or_false] at q; omega
  have s2 : cD S_c_X12_farthest := fun c k q => by simp only [S_c_X12_farthest, or_false] at q; omega
  have c1 : ∀ (c : rf) (k : Nat), c.1 = 12 ∨ 50 ≤ c.1 → M1.1 c k = M.1 c k := fun c k a => hF1 c k (fun q => s1 c k q a)
  have c2 : ∀ (c : rf) (k : Nat), ¬ (c.1 = 12 ∨ 50 ≤ c.1) → M2.1 c k = M1.1 c k := fun c k a => hF2 c k (fun q => a (s2 c k q))
  have e50 : M1.1 (50, 0, 0) = M.1 (50, 0, 0) := funext fun k => c1 _ _ (by simp)
  have hR : RW 0 M.1 (M1.1 (50, 0, 0)) := by rw [e50]; exact h.2.2.1
  have hu : (M1.1 (12, 0, 0) 7).toInt = -1 := by rw [c1 _ _ (by simp)]; exact h.2.1
  have h7 : (M2.1 (12, 0, 0) 7).toInt = -1 := by rw [hF2 (12, 0, 0) 7 (fun q => by simp only [S_c_X12_farthest, or_false] at q; omega)]; exact hu
  exact ⟨RY_fr h hF1 hF2 s1 s2 hx hD2.2.1 hD2.2.2.1 (fun c k a b q => by unfold wR at a; simp only [S_c_X11_farthest, or_false] at q; omega) (fun c k a q => by rcases a with rfl | rfl | ⟨rfl, rfl⟩ | a | a | a <;> (simp only [S_c_X12_farthest, or_false] at q <;> omega)) (fun c k a q => by simp only [S_c_X11_farthest, or_false] at q; omega) h7, trivial⟩
theorem sy_23 {v : Int32} {u : Int32} {t : Int32} {s : Int32} {M M1 M2 : mM} {r1 r2 : Int32} (h : RY M.1) (hD0 : InvD M) (hD : InvD M1) (hD2 : InvD M2) (hF1 : FR S_c_X11_spots M M1) (hs1 : SP_X11_spots v u t s M r1 M1) (hF2 : FR S_c_X12_spots M1 M2) (hs2 : SP_X12_spots v u t s M1 r2 M2) : RY M2.1 ∧ True := by
  have hx := (st_23 h.1 hD0 hF1 hs1 hF2 hs2).1
  have s1 : cC S_c_X11_spots := fun c k q => by simp only [S_c_X11_spots, or_false] at q; omega
  have s2 : cD S_c_X12_spots := fun c k q => by simp only [S_c_X12_spots, or_false] at q; omega
  have c1 : ∀ (c : rf) (k : Nat), c.1 = 12 ∨ 50 ≤ c.1 → M1.1 c k = M.1 c k := fun c k a => hF1 c k (fun q => s1 c k q a)
  have c2 : ∀ (c : rf) (k : Nat), ¬ (c.1 = 12 ∨ 50 ≤ c.1) → M2.1 c k = M1.1 c k := fun c k a => hF2 c k (fun q => a (s2 c k q))
  have e50 : M1.1 (50, 0, 0) = M.1 (50, 0, 0) := funext fun k => c1 _ _ (by simp)
  have hR : RW 0 M.1 (M1.1 (50, 0, 0)) := by rw [e50]; exact h.2.2.1
  have hu : (M1.1 (12, 0, 0) 7).toInt = -1 := by rw [c1 _ _ (by simp)]; exact h.2.1
  have h7 : (M2.1 (12, 0, 0) 7).toInt = -1 := USP_X12_spots hs2 hu
  exact ⟨RY_fr h hF1 hF2 s1 s2 hx hD2.2.1 hD2.2.2.1 (fun c k a b q => by unfold wR at a; simp only [S_c_X11_spots, or_false] at q; omega) (fun c k a q => by rcases a with rfl | rfl | ⟨rfl, rfl⟩ | a | a | a <;> (simp only [S_c_X12_spots, or_false] at q <;> omega)) (fun c k a q => by simp only [S_c_X11_spots, or_false] at q; omega) h7, trivial⟩
theorem sy_24 {v : Int32} {M M1 M2 : mM} {r1 r2 : Int32} (h : RY M.1) (hD0 : InvD M) (hD : InvD M1) (hD2 : InvD M2) (hF1 : FR S_c_X11_tenths M M1) (hs1 : SP_X11_tenths v M r1 M1) (hF2 : FR S_c_X12_tenths M1 M2) (hs2 : SP_X12_tenths v M1 r2 M2) : RY M2.1 ∧ r1 = r2 := by
  have hx := (st_24 h.1 hD0 hF1 hs1 hF2 hs2).1
  have s1 : cC S_c_X11_tenths := fun c k q => by simp only [S_c_X11_tenths, or_false] at q; omega
  have s2 : cD S_c_X12_tenths := fun c k q => by simp only [S_c_X12_tenths, or_false] at q; omega
  have c1 : ∀ (c : rf) (k : Nat), c.1 = 12 ∨ 50 ≤ c.1 → M1.1 c k = M.1 c k := fun c k a => hF1 c k (fun q => s1 c k q a)
  have c2 : ∀ (c : rf) (k : Nat), ¬ (c.1 = 12 ∨ 50 ≤ c.1) → M2.1 c k = M1.1 c k := fun c k a => hF2 c k (fun q => a (s2 c k q))
  have e50 : M1.1 (50, 0, 0) = M.1 (50, 0, 0) := funext fun k => c1 _ _ (by simp)
  have hR : RW 0 M.1 (M1.1 (50, 0, 0)) := by rw [e50]; exact h.2.2.1
  have hu : (M1.1 (12, 0, 0) 7).toInt = -1 := by rw [c1 _ _ (by simp)]; exact h.2.1
  have h7 : (M2.1 (12, 0, 0) 7).toInt = -1 := by rw [hF2 (12, 0, 0) 7 (fun q => by simp only [S_c_X12_tenths, or_false] at q; omega)]; exact hu
  have B := cb_24 hs1 hs2 hR hD hu
  exact ⟨RY_of h hF1 hF2 s1 s2 hx hD2.2.1 hD2.2.2.1 h7 B.1 (Or.inl ⟨hF2 _ _ (fun q => by simp only [S_c_X12_tenths, or_false] at q; omega), fun c k a b q => by unfold wR at a; simp only [S_c_X11_tenths, or_false] at q; omega, fun k q => by simp only [S_c_X12_tenths, or_false] at q; omega⟩) (SHR_keep h.2.2.2.2 (fun c k a => hF1 c k (fun q => by simp only [S_c_X11_tenths, or_false] at q; omega)) (fun c k a => by rw [hF2 c k (fun q => by simp only [S_c_X12_tenths, or_false] at q; omega), c1 c k (by omega)])), B.2⟩
theorem sy_25 {v : Int32} {u : Int32} {t : Int32} {M M1 M2 : mM} {r1 r2 : Int32} (h : RY M.1) (hD0 : InvD M) (hD : InvD M1) (hD2 : InvD M2) (hF1 : FR S_c_X11_way M M1) (hs1 : SP_X11_way v u t M r1 M1) (hF2 : FR S_c_X12_way M1 M2) (hs2 : SP_X12_way v u t M1 r2 M2) : RY M2.1 ∧ True := by
  have hx := (st_25 h.1 hD0 hF1 hs1 hF2 hs2).1
  have s1 : cC S_c_X11_way := fun c k q => by simp only [S_c_X11_way, or_false] at q; omega
  have s2 : cD S_c_X12_way := fun c k q => by simp only [S_c_X12_way, or_false] at q; omega
  have c1 : ∀ (c : rf) (k : Nat), c.1 = 12 ∨ 50 ≤ c.1 → M1.1 c k = M.1 c k := fun c k a => hF1 c k (fun q => s1 c k q a)
  have c2 : ∀ (c : rf) (k : Nat), ¬ (c.1 = 12 ∨ 50 ≤ c.1) → M2.1 c k = M1.1 c k := fun c k a => hF2 c k (fun q => a (s2 c k q))
  have e50 : M1.1 (50, 0, 0) = M.1 (50, 0, 0) := funext fun k => c1 _ _ (by simp)
  have hR : RW 0 M.1 (M1.1 (50, 0, 0)) := by rw [e50]; exact h.2.2.1
  have hu : (M1.1 (12, 0, 0) 7).toInt = -1 := by rw [c1 _ _ (by simp)]; exact h.2.1
  have h7 : (M2.1 (12, 0, 0) 7).toInt = -1 := by rw [hF2 (12, 0, 0) 7 (fun q => by simp only [S_c_X12_way, or_false] at q; omega)]; exact hu
  exact ⟨RY_fr h hF1 hF2 s1 s2 hx hD2.2.1 hD2.2.2.1 (fun c k a b q => by unfold wR at a; simp only [S_c_X11_way, or_false] at q; omega) (fun c k a q => by rcases a with rfl | rfl | ⟨rfl, rfl⟩ | a | a | a <;> (simp only [S_c_X12_way, or_false] at q <;> omega)) (fun c k a q => by simp only [S_c_X11_way, or_false] at q; omega) h7, trivial⟩
theorem sy_26 {v : Int32} {M M1 M2 : mM} {r1 r2 : Int32} (h : RY M.1) (hD0 : InvD M) (hD : InvD M1) (hD2 : InvD M2) (hF1 : FR S_c_X11_safe M M1) (hs1 : SP_X11_safe v M r1 M1) (hF2 : FR S_c_X12_safe M1 M2) (hs2 : SP_X12_safe v M1 r2 M2) : RY M2.1 ∧ r1 = r2 := by
  have hx := (st_26 h.1 hD0 hF1 hs1 hF2 hs2).1
  have s1 : cC S_c_X11_safe := fun c k q => by simp only [S_c_X11_safe, or_false] at q; omega
  have s2 : cD S_c_X12_safe := fun c k q => by simp only [S_c_X12_safe, or_false] at q; omega
  have c1 : ∀ (c : rf) (k : Nat), c.1 = 12 ∨ 50 ≤ c.1 → M1.1 c k = M.1 c k := fun c k a => hF1 c k (fun q => s1 c k q a)
  have c2 : ∀ (c : rf) (k : Nat), ¬ (c.1 = 12 ∨ 50 ≤ c.1) → M2.1 c k = M1.1 c k := fun c k a => hF2 c k (fun q => a (s2 c k q))
  have e50 : M1.1 (50, 0, 0) = M.1 (50, 0, 0) := funext fun k => c1 _ _ (by simp)
  have hR : RW 0 M.1 (M1.1 (50, 0, 0)) := by rw [e50]; exact h.2.2.1
  have hu : (M1.1 (12, 0, 0) 7).toInt = -1 := by rw [c1 _ _ (by simp)]; exact h.2.1
  have h7 : (M2.1 (12, 0, 0) 7).toInt = -1 := by rw [hF2 (12, 0, 0) 7 (fun q => by simp only [S_c_X12_safe, or_false] at q; omega)]; exact hu
  exact ⟨RY_fr h hF1 hF2 s1 s2 hx hD2.2.1 hD2.2.2.1 (fun c k a b q => by unfold wR at a; simp only [S_c_X11_safe, or_false] at q; omega) (fun c k a q => by rcases a with rfl | rfl | ⟨rfl, rfl⟩ | a | a | a <;> (simp only [S_c_X12_safe, or_false] at q <;> omega)) (fun c k a q => by simp only [S_c_X11_safe, or_false] at q; omega) h7, an_26 hs1 hs2 hR hD hu⟩
theorem sy_27 {v : Int32} {u : Int32} {t : Int32} {M M1 M2 : mM} {r1 r2 : Int32} (h : RY M.1) (hD0 : InvD M) (hD : InvD M1) (hD2 : InvD M2) (hF1 : FR S_c_X11_lesson M M1) (hs1 : SP_X11_lesson v u t M r1 M1) (hF2 : FR S_c_X12_lesson M1 M2) (hs2 : SP_X12_lesson v u t M1 r2 M2) : RY M2.1 ∧ r1 = r2 := by
  have hx := (st_27 h.1 hD0 hF1 hs1 hF2 hs2).1
  have s1 : cC S_c_X11_lesson := fun c k q => by simp only [S_c_X11_lesson, or_false] at q; omega
  have s2 : cD S_c_X12_lesson := fun c k q => by simp only [S_c_X12_lesson, or_false] at q; omega
  have c1 : ∀ (c : rf) (k : Nat), c.1 = 12 ∨ 50 ≤ c.1 → M1.1 c k = M.1 c k := fun c k a => hF1 c k (fun q => s1 c k q a)
  have c2 : ∀ (c : rf) (k : Nat), ¬ (c.1 = 12 ∨ 50 ≤ c.1) → M2.1 c k = M1.1 c k := fun c k a => hF2 c k (fun q => a (s2 c k q))
  have e50 : M1.1 (50, 0, 0) = M.1 (50, 0, 0) := funext fun k => c1 _ _ (by simp)
  have hR : RW 0 M.1 (M1.1 (50, 0, 0)) := by rw [e50]; exact h.2.2.1
  have hu : (M1.1 (12, 0, 0) 7).toInt = -1 := by rw [c1 _ _ (by simp)]; exact h.2.1
  have h7 : (M2.1 (12, 0, 0) 7).toInt = -1 := by rw [hF2 (12, 0, 0) 7 (fun q => by simp only [S_c_X12_lesson, or_false] at q; omega)]; exact hu
  have B := cb_27 hs1 hs2 hR hD hu (show M.1 (3, 0, 0) 3 = M1.1 (50, 0, 0) 3 from ((RXzg h.1 (d := (50, 0, 0)) (j := 3) (by unfold PRz; simp) (by simp)).trans (c1 _ _ (by simp)).symm))
  exact ⟨RY_of h hF1 hF2 s1 s2 hx hD2.2.1 hD2.2.2.1 h7 B.1 (Or.inl ⟨hF2 _ _ (fun q => by simp only [S_c_X12_lesson, or_false] at q; omega), fun c k a b q => by unfold wR at a; simp only [S_c_X11_lesson, or_false] at q; omega, fun k q => by simp only [S_c_X12_lesson, or_false] at q; omega⟩) (SHR_keep h.2.2.2.2 (fun c k a => hF1 c k (fun q => by simp only [S_c_X11_lesson, or_false] at q; omega)) (fun c k a => by rw [hF2 c k (fun q => by simp only [S_c_X12_lesson, or_false] at q; omega), c1 c k (by omega)])), B.2⟩
theorem sy_28 {v : Int32} {u : Int32} {t : Int32} {M M1 M2 : mM} {r1 r2 : Int32} (h : RY M.1) (hD0 : InvD M) (hD : InvD M1) (hD2 : InvD M2) (hF1 : FR S_c_X11_learn M M1) (hs1 : SP_X11_learn v u t M r1 M1) (hF2 : FR S_c_X12_learn M1 M2) (hs2 : SP_X12_learn v u t M1 r2 M2) : RY M2.1 ∧ True := by
  have hx := (st_28 h.1 hD0 hF1 hs1 hF2 hs2).1
  have s1 : cC S_c_X11_learn := fun c k q => by simp only [S_c_X11_learn, or_false] at q; omega
  have s2 : cD S_c_X12_learn := fun c k q => by simp only [S_c_X12_learn, or_false] at q; omega
  have c1 : ∀ (c : rf) (k : Nat), c.1 = 12 ∨ 50 ≤ c.1 → M1.1 c k = M.1 c k := fun c k a => hF1 c k (fun q => s1 c k q a)
  have c2 : ∀ (c : rf) (k : Nat), ¬ (c.1 = 12 ∨ 50 ≤ c.1) → M2.1 c k = M1.1 c k := fun c k a => hF2 c k (fun q => a (s2 c k q))
  have e50 : M1.1 (50, 0, 0) = M.1 (50, 0, 0) := funext fun k => c1 _ _ (by simp)
  have hR : RW 0 M.1 (M1.1 (50, 0, 0)) := by rw [e50]; exact h.2.2.1
  have hu : (M1.1 (12, 0, 0) 7).toInt = -1 := by rw [c1 _ _ (by simp)]; exact h.2.1
  have h7 : (M2.1 (12, 0, 0) 7).toInt = -1 := by rw [hF2 (12, 0, 0) 7 (fun q => by simp only [S_c_X12_learn, or_false] at q; omega)]; exact hu
  have hN : NW5 (M.1 (50, 0, 0)) := hD0.2.1
  have e2 : M2.1 (50, 0, 0) = M.1 (50, 0, 0) := funext fun k => by rw [hF2 _ _ (fun q => by simp only [S_c_X12_learn, or_false] at q; omega), c1 _ _ (by simp)]
  refine ⟨RY_of h hF1 hF2 s1 s2 hx hD2.2.1 hD2.2.2.1 h7 ?_ (Or.inl ⟨hF2 _ _ (fun q => by simp only [S_c_X12_learn, or_false] at q; omega), fun c k a b q => by unfold wR at a; simp only [S_c_X11_learn, or_false] at q; omega, fun k q => by simp only [S_c_X12_learn, or_false] at q; omega⟩) (SHR_keep h.2.2.2.2 (fun c k a => hF1 c k (fun q => by simp only [S_c_X11_learn, or_false] at q; omega)) (fun c k a => by rw [hF2 c k (fun q => by simp only [S_c_X12_learn, or_false] at q; omega), c1 c k (by omega)])), trivial⟩
  rw [e2]
  exact RW_rest h.2.2.1 hN (fun c k a b => hF1 c k (fun q => by unfold wR at a; simp only [S_c_X11_learn, or_false] at q; omega)) (fun _ _ _ => rfl) (LER_keep h.2.2.1.2.1 (n345_b hN).1.2 (fun r k hr => hF1 _ _ (fun q => by simp only [S_c_X11_learn, or_false] at q; omega)) (fun _ _ => rfl)) (TAR_keep h.2.2.1.2.2.1 (n345_b hN).2.1.2 (fun k => hF1 _ _ (fun q => by simp only [S_c_X11_learn, or_false] at q; omega)) (fun _ _ => rfl)) (WTR_keep h.2.2.1.2.2.2 (n345_b hN).2.2.2 (fun k => hF1 _ _ (fun q => by simp only [S_c_X11_learn, or_false] at q; omega)) (fun _ _ => rfl))
theorem sy_29 {v : Int32} {u : Int32} {t : Int32} {s : Int32} {M M1 M2 : mM} {r1 r2 : Int32} (h : RY M.1) (hD0 : InvD M) (hD : InvD M1) (hD2 : InvD M2) (hF1 : FR S_c_X11_posts M M1) (hs1 : SP_X11_posts v u t s M r1 M1) (hF2 : FR S_c_X12_posts M1 M2) (hs2 : SP_X12_posts v u t s M1 r2 M2) : RY M2.1 ∧ True := by
  have hx := (st_29 h.1 hD0 hF1 hs1 hF2 hs2).1
  have s1 : cC S_c_X11_posts := fun c k q => by simp only [S_c_X11_posts, or_false] at q; omega
  have s2 : cD S_c_X12_posts := fun c k q => by simp only [S_c_X12_posts, or_false] at q; omega
  have c1 : ∀ (c : rf) (k : Nat), c.1 = 12 ∨ 50 ≤ c.1 → M1.1 c k = M.1 c k := fun c k a => hF1 c k (fun q => s1 c k q a)
  have c2 : ∀ (c : rf) (k : Nat), ¬ (c.1 = 12 ∨ 50 ≤ c.1) → M2.1 c k = M1.1 c k := fun c k a => hF2 c k (fun q => a (s2 c k q))
  have e50 : M1.1 (50, 0, 0) = M.1 (50, 0, 0) := funext fun k => c1 _ _ (by simp)
  have hR : RW 0 M.1 (M1.1 (50, 0, 0)) := by rw [e50]; exact h.2.2.1
  have hu : (M1.1 (12, 0, 0) 7).toInt = -1 := by rw [c1 _ _ (by simp)]; exact h.2.1
  have h7 : (M2.1 (12, 0, 0) 7).toInt = -1 := USP_X12_posts hs2 hu
  exact ⟨RY_fr h hF1 hF2 s1 s2 hx hD2.2.1 hD2.2.2.1 (fun c k a b q => by unfold wR at a; simp only [S_c_X11_posts, or_false] at q; omega) (fun c k a q => by rcases a with rfl | rfl | ⟨rfl, rfl⟩ | a | a | a <;> (simp only [S_c_X12_posts, or_false] at q <;> omega)) (fun c k a q => by simp only [S_c_X11_posts, or_false] at q; omega) h7, trivial⟩
theorem sy_30 {v : Int32} {u : Int32} {t : Int32} {M M1 M2 : mM} {r1 r2 : Int32} (h : RY M.1) (hD0 : InvD M) (hD : InvD M1) (hD2 : InvD M2) (hF1 : FR S_c_X11_voice M M1) (hs1 : SP_X11_voice v u t M r1 M1) (hF2 : FR S_c_X12_voice M1 M2) (hs2 : SP_X12_voice v u t M1 r2 M2) : RY M2.1 ∧ True := by
  have hx := (st_30 h.1 hD0 hF1 hs1 hF2 hs2).1
  have s1 : cC S_c_X11_voice := fun c k q => by simp only [S_c_X11_voice, or_false] at q; omega
  have s2 : cD S_c_X12_voice := fun c k q => by simp only [S_c_X12_voice, or_false] at q; omega
  have c1 : ∀ (c : rf) (k : Nat), c.1 = 12 ∨ 50 ≤ c.1 → M1.1 c k = M.1 c k := fun c k a => hF1 c k (fun q => s1 c k q a)
  have c2 : ∀ (c : rf) (k : Nat), ¬ (c.1 = 12 ∨ 50 ≤ c.1) → M2.1 c k = M1.1 c k := fun c k a => hF2 c k (fun q => a (s2 c k q))
  have e50 : M1.1 (50, 0, 0) = M.1 (50, 0, 0) := funext fun k => c1 _ _ (by simp)
  have hR : RW 0 M.1 (M1.1 (50, 0, 0)) := by rw [e50]; exact h.2.2.1
  have hu : (M1.1 (12, 0, 0) 7).toInt = -1 := by rw [c1 _ _ (by simp)]; exact h.2.1
  have h7 : (M2.1 (12, 0, 0) 7).toInt = -1 := by rw [hF2 (12, 0, 0) 7 (fun q => by simp only [S_c_X12_voice, or_false] at q; omega)]; exact hu
  exact ⟨RY_fr h hF1 hF2 s1 s2 hx hD2.2.1 hD2.2.2.1 (fun c k a b q => by unfold wR at a; simp only [S_c_X11_voice, or_false] at q; omega) (fun c k a q => by rcases a with rfl | rfl | ⟨rfl, rfl⟩ | a | a | a <;> (simp only [S_c_X12_voice, or_false] at q <;> omega)) (fun c k a q => by simp only [S_c_X11_voice, or_false] at q; omega) h7, trivial⟩
theorem sy_31 {v : Int32} {M M1 M2 : mM} {r1 r2 : Int32} (h : RY M.1) (hD0 : InvD M) (hD : InvD M1) (hD2 : InvD M2) (hF1 : FR S_c_X11_trace M M1) (hs1 : SP_X11_trace v M r1 M1) (hF2 : FR S_c_X12_trace M1 M2) (hs2 : SP_X12_trace v M1 r2 M2) : RY M2.1 ∧ True := by
  have hx := (st_31 h.1 hD0 hF1 hs1 hF2 hs2).1
  have s1 : cC S_c_X11_trace := fun c k q => by simp only [S_c_X11_trace, or_false] at q; omega
  have s2 : cD S_c_X12_trace := fun c k q => by simp only [S_c_X12_trace, or_false] at q; omega
  have c1 : ∀ (c : rf) (k : Nat), c.1 = 12 ∨ 50 ≤ c.1 → M1.1 c k = M.1 c k := fun c k a => hF1 c k (fun q => s1 c k q a)
  have c2 : ∀ (c : rf) (k : Nat), ¬ (c.1 = 12 ∨ 50 ≤ c.1) → M2.1 c k = M1.1 c k := fun c k a => hF2 c k (fun q => a (s2 c k q))
  have e50 : M1.1 (50, 0, 0) = M.1 (50, 0, 0) := funext fun k => c1 _ _ (by simp)
  have hR : RW 0 M.1 (M1.1 (50, 0, 0)) := by rw [e50]; exact h.2.2.1
  have hu : (M1.1 (12, 0, 0) 7).toInt = -1 := by rw [c1 _ _ (by simp)]; exact h.2.1
  have h7 : (M2.1 (12, 0, 0) 7).toInt = -1 := by rw [hF2 (12, 0, 0) 7 (fun q => by simp only [S_c_X12_trace, or_false] at q; omega)]; exact hu
  exact ⟨RY_fr h hF1 hF2 s1 s2 hx hD2.2.1 hD2.2.2.1 (fun c k a b q => by unfold wR at a; simp only [S_c_X11_trace, or_false] at q; omega) (fun c k a q => by rcases a with rfl | rfl | ⟨rfl, rfl⟩ | a | a | a <;> (simp only [S_c_X12_trace, or_false] at q <;> omega)) (fun c k a q => by simp only [S_c_X11_trace, or_false] at q; omega) h7, trivial⟩
theorem sy_32 {v : Int32} {u : Int32} {t : Int32} {M M1 M2 : mM} {r1 r2 : Int32} (h : RY M.1) (hD0 : InvD M) (hD : InvD M1) (hD2 : InvD M2) (hF1 : FR S_c_X11_sheet M M1) (hs1 : SP_X11_sheet v u t M r1 M1) (hF2 : FR S_c_X12_sheet M1 M2) (hs2 : SP_X12_sheet v u t M1 r2 M2) : RY M2.1 ∧ True := by
  have hx := (st_32 h.1 hD0 hF1 hs1 hF2 hs2).1
  have s1 : cC S_c_X11_sheet := fun c k q => by simp only [S_c_X11_sheet, or_false] at q; omega
  have s2 : cD S_c_X12_sheet := fun c k q => by simp only [S_c_X12_sheet, or_false] at q; omega
  have c1 : ∀ (c : rf) (k : Nat), c.1 = 12 ∨ 50 ≤ c.1 → M1.1 c k = M.1 c k := fun c k a => hF1 c k (fun q => s1 c k q a)
  have c2 : ∀ (c : rf) (k : Nat), ¬ (c.1 = 12 ∨ 50 ≤ c.1) → M2.1 c k = M1.1 c k := fun c k a => hF2 c k (fun q => a (s2 c k q))
  have e50 : M1.1 (50, 0, 0) = M.1 (50, 0, 0) := funext fun k => c1 _ _ (by simp)
  have hR : RW 0 M.1 (M1.1 (50, 0, 0)) := by rw [e50]; exact h.2.2.1
  have hu : (M1.1 (12, 0, 0) 7).toInt = -1 := by rw [c1 _ _ (by simp)]; exact h.2.1
  have h7 : (M2.1 (12, 0, 0) 7).toInt = -1 := by rw [hF2 (12, 0, 0) 7 (fun q => by simp only [S_c_X12_sheet, or_false] at q; omega)]; exact hu
  have e2 : M2.1 (50, 0, 0) = M.1 (50, 0, 0) := funext fun k => by rw [hF2 _ _ (fun q => by simp only [S_c_X12_sheet, or_false] at q; omega), c1 _ _ (by simp)]
  have hS : SHR M.1 M1.1 := SHR_keep h.2.2.2.2 (fun _ _ _ => rfl) (fun c k a => c1 c k (by omega))
  have hB : ∀ w, w < 4 → M1.1 (6, 0, w) 0 = M2.1 (66, 0, 0) w ∧ M1.1 (6, 0, w) 1 = M2.1 (67, 0, 0) w := fun w hw => ⟨by rw [← c2 _ _ (by simp)]; exact RXzg hx (Pz_6a hw) (by simp), by rw [← c2 _ _ (by simp)]; exact RXzg hx (Pz_6b hw) (by simp)⟩
  have sh := sh_32 hs1 hs2 hS hD hD2 hB
  refine ⟨RY_of h hF1 hF2 s1 s2 hx hD2.2.1 hD2.2.2.1 h7 ?_ (Or.inl ⟨hF2 _ _ (fun q => by simp only [S_c_X12_sheet, or_false] at q; omega), fun c k a b q => by unfold wR at a; simp only [S_c_X11_sheet, or_false] at q; omega, fun k q => by simp only [S_c_X12_sheet, or_false] at q; omega⟩) sh, trivial⟩
  rw [e2]
  exact RW_same h.2.2.1 hD0.2.1 (fun c k a b => hF1 c k (fun q => by unfold wR at a; simp only [S_c_X11_sheet, or_false] at q; omega))
theorem sy_33 {v : Int32} {u : Int32} {t : Int32} {M M1 M2 : mM} {r1 r2 : Int32} (h : RY M.1) (hD0 : InvD M) (hD : InvD M1) (hD2 : InvD M2) (hF1 : FR S_c_X11_put M M1) (hs1 : SP_X11_put v u t M r1 M1) (hF2 : FR S_c_X12_put M1 M2) (hs2 : SP_X12_put v u t M1 r2 M2) : RY M2.1 ∧ True := by
  have hx := (st_33 h.1 hD0 hF1 hs1 hF2 hs2).1
  have s1 : cC S_c_X11_put := fun c k q => by simp only [S_c_X11_put, or_false] at q; omega
  have s2 : cD S_c_X12_put := fun c k q => by simp only [S_c_X12_put, or_false] at q; omega
  have c1 : ∀ (c : rf) (k : Nat), c.1 = 12 ∨ 50 ≤ c.1 → M1.1 c k = M.1 c k := fun c k a => hF1 c k (fun q => s1 c k q a)
  have c2 : ∀ (c : rf) (k : Nat), ¬ (c.1 = 12 ∨ 50 ≤ c.1) → M2.1 c k = M1.1 c k := fun c k a => hF2 c k (fun q => a (s2 c k q))
  have e50 : M1.1 (50, 0, 0) = M.1 (50, 0, 0) := funext fun k => c1 _ _ (by simp)
  have hR : RW 0 M.1 (M1.1 (50, 0, 0)) := by rw [e50]; exact h.2.2.1
  have hu : (M1.1 (12, 0, 0) 7).toInt = -1 := by rw [c1 _ _ (by simp)]; exact h.2.1
  have h7 : (M2.1 (12, 0, 0) 7).toInt = -1 := by rw [hF2 (12, 0, 0) 7 (fun q => by simp only [S_c_X12_put, or_false] at q; omega)]; exact hu
  have e2 : M2.1 (50, 0, 0) = M.1 (50, 0, 0) := funext fun k => by rw [hF2 _ _ (fun q => by simp only [S_c_X12_put, or_false] at q; omega), c1 _ _ (by simp)]
  have hS : SHR M.1 M1.1 := SHR_keep h.2.2.2.2 (fun _ _ _ => rfl) (fun c k a => c1 c k (by omega))
  have sh := sh_33 hs1 hs2 hS hD
  refine ⟨RY_of h hF1 hF2 s1 s2 hx hD2.2.1 hD2.2.2.1 h7 ?_ (Or.inl ⟨hF2 _ _ (fun q => by simp only [S_c_X12_put, or_false] at q; omega), fun c k a b q => by unfold wR at a; simp only [S_c_X11_put, or_false] at q; omega, fun k q => by simp only [S_c_X12_put, or_false] at q; omega⟩) sh, trivial⟩
  rw [e2]
  exact RW_same h.2.2.1 hD0.2.1 (fun c k a b => hF1 c k (fun q => by unfold wR at a; simp only [S_c_X11_put, or_false] at q; omega))
theorem sy_34 {v : Int32} {u : Int32} {t : Int32} {s : Int32} {q : Int32} {M M1 M2 : mM} {r1 r2 : Int32} (h : RY M.1) (hD0 : InvD M) (hD : InvD M1) (hD2 : InvD M2) (hF1 : FR S_c_X11_move M M1) (hs1 : SP_X11_move v u t s q M r1 M1) (hF2 : FR S_c_X12_move M1 M2) (hs2 : SP_X12_move v u t s q M1 r2 M2) : RY M2.1 ∧ True := by
  have hx := (st_34 h.1 hD0 hF1 hs1 hF2 hs2).1
  have s1 : cC S_c_X11_move := fun c k q => by simp only [S_c_X11_move, or_false] at q; omega
  have s2 : cD S_c_X12_move := fun c k q => by simp only [S_c_X12_move, or_false] at q; omega
  have c1 : ∀ (c : rf) (k : Nat), c.1 = 12 ∨ 50 ≤ c.1 → M1.1 c k = M.1 c k := fun c k a => hF1 c k (fun q => s1 c k q a)
  have c2 : ∀ (c : rf) (k : Nat), ¬ (c.1 = 12 ∨ 50 ≤ c.1) → M2.1 c k = M1.1 c k := fun c k a => hF2 c k (fun q => a (s2 c k q))
  have e50 : M1.1 (50, 0, 0) = M.1 (50, 0, 0) := funext fun k => c1 _ _ (by simp)
  have hR : RW 0 M.1 (M1.1 (50, 0, 0)) := by rw [e50]; exact h.2.2.1
  have hu : (M1.1 (12, 0, 0) 7).toInt = -1 := by rw [c1 _ _ (by simp)]; exact h.2.1
  have h7 : (M2.1 (12, 0, 0) 7).toInt = -1 := by rw [hF2 (12, 0, 0) 7 (fun q => by simp only [S_c_X12_move, or_false] at q; omega)]; exact hu
  have e2 : M2.1 (50, 0, 0) = M.1 (50, 0, 0) := funext fun k => by rw [hF2 _ _ (fun q => by simp only [S_c_X12_move, or_false] at q; omega), c1 _ _ (by simp)]
  have hS : SHR M.1 M1.1 := SHR_keep h.2.2.2.2 (fun _ _ _ => rfl) (fun c k a => c1 c k (by omega))
  have sh := sh_34 hs1 hs2 hS hD
  refine ⟨RY_of h hF1 hF2 s1 s2 hx hD2.2.1 hD2.2.2.1 h7 ?_ (Or.inl ⟨hF2 _ _ (fun q => by simp only [S_c_X12_move, or_false] at q; omega), fun c k a b q => by unfold wR at a; simp only [S_c_X11_move, or_false] at q; omega, fun k q => by simp only [S_c_X12_move, or_false] at q; omega⟩) sh, trivial⟩
  rw [e2]
  exact RW_same h.2.2.1 hD0.2.1 (fun c k a b => hF1 c k (fun q => by unfold wR at a; simp only [S_c_X11_move, or_false] at q; omega))
theorem sy_35 {M M1 M2 : mM} {r1 r2 : Int32} (h : RY M.1) (hD0 : InvD M) (hD : InvD M1) (hD2 : InvD M2) (hF1 : FR S_c_X11_image M M1) (hs1 : SP_X11_image M r1 M1) (hF2 : FR S_c_X12_image M1 M2) (hs2 : SP_X12_image M1 r2 M2) : RY M2.1 ∧ r1 = r2 := by
  have hx := (st_35 h.1 hD0 hF1 hs1 hF2 hs2).1
  have s1 : cC S_c_X11_image := fun c k q => by simp only [S_c_X11_image, or_false] at q; omega
  have s2 : cD S_c_X12_image := fun c k q => by simp only [S_c_X12_image, or_false] at q; omega
  have c1 : ∀ (c : rf) (k : Nat), c.1 = 12 ∨ 50 ≤ c.1 → M1.1 c k = M.1 c k := fun c k a => hF1 c k (fun q => s1 c k q a)
  have c2 : ∀ (c : rf) (k : Nat), ¬ (c.1 = 12 ∨ 50 ≤ c.1) → M2.1 c k = M1.1 c k := fun c k a => hF2 c k (fun q => a (s2 c k q))
  have e50 : M1.1 (50, 0, 0) = M.1 (50, 0, 0) := funext fun k => c1 _ _ (by simp)
  have hR : RW 0 M.1 (M1.1 (50, 0, 0)) := by rw [e50]; exact h.2.2.1
  have hu : (M1.1 (12, 0, 0) 7).toInt = -1 := by rw [c1 _ _ (by simp)]; exact h.2.1
  have h7 : (M2.1 (12, 0, 0) 7).toInt = -1 := by rw [hF2 (12, 0, 0) 7 (fun q => by simp only [S_c_X12_image, or_false] at q; omega)]; exact hu
  have B := cb_35 hs1 hs2 hR hD (show M.1 (5, 0, 0) 1 = M1.1 (50, 0, 0) 4 from ((RXzg h.1 (d := (50, 0, 0)) (j := 4) (by unfold PRz; simp) (by simp)).trans (c1 _ _ (by simp)).symm)) (show M.1 (5, 0, 1) 1 = M1.1 (50, 0, 0) 5 from ((RXzg h.1 (d := (50, 0, 0)) (j := 5) (by unfold PRz; simp) (by simp)).trans (c1 _ _ (by simp)).symm)) (show M.1 (11, 0, 0) 8 = M1.1 (12, 0, 0) 3 from (RXzg h.1 (d := (12, 0, 0)) (j := 3) (by unfold PRz; simp) (by simp)).trans (c1 _ _ (by simp)).symm)
  exact ⟨RY_of h hF1 hF2 s1 s2 hx hD2.2.1 hD2.2.2.1 h7 B.1 (Or.inr (fun _ => B.2.1)) (SHR_keep h.2.2.2.2 (fun c k a => hF1 c k (fun q => by simp only [S_c_X11_image, or_false] at q; omega)) (fun c k a => by rw [hF2 c k (fun q => by simp only [S_c_X12_image, or_false] at q; omega), c1 c k (by omega)])), B.2.2⟩
theorem sy_36 {M M1 M2 : mM} {r1 r2 : Int32} (h : RY M.1) (hD0 : InvD M) (hD : InvD M1) (hD2 : InvD M2) (hF1 : FR S_c_X11_restore M M1) (hs1 : SP_X11_restore M r1 M1) (hF2 : FR S_c_X12_restore M1 M2) (hs2 : SP_X12_restore M1 r2 M2) : RY M2.1 ∧ r1 = r2 := by
  have hx := (st_36 h.1 hD0 hF1 hs1 hF2 hs2).1
  have s1 : cC S_c_X11_restore := fun c k q => by simp only [S_c_X11_restore, or_false] at q; omega
  have s2 : cD S_c_X12_restore := fun c k q => by simp only [S_c_X12_restore, or_false] at q; omega
  have c1 : ∀ (c : rf) (k : Nat), c.1 = 12 ∨ 50 ≤ c.1 → M1.1 c k = M.1 c k := fun c k a => hF1 c k (fun q => s1 c k q a)
  have c2 : ∀ (c : rf) (k : Nat), ¬ (c.1 = 12 ∨ 50 ≤ c.1) → M2.1 c k = M1.1 c k := fun c k a => hF2 c k (fun q => a (s2 c k q))
  have e50 : M1.1 (50, 0, 0) = M.1 (50, 0, 0) := funext fun k => c1 _ _ (by simp)
  have hR : RW 0 M.1 (M1.1 (50, 0, 0)) := by rw [e50]; exact h.2.2.1
  have hu : (M1.1 (12, 0, 0) 7).toInt = -1 := by rw [c1 _ _ (by simp)]; exact h.2.1
  have h7 : (M2.1 (12, 0, 0) 7).toInt = -1 := by rw [hF2 (12, 0, 0) 7 (fun q => by simp only [S_c_X12_restore, or_false] at q; omega)]; exact hu
  have e51 : M1.1 (51, 0, 0) = M.1 (51, 0, 0) := funext fun k => c1 _ _ (by simp)
  have hI : ¬ (M1.1 (12, 0, 0) 3).toInt = 0 → RW 1 M.1 (M1.1 (51, 0, 0)) ∧ M.1 (5, 1, 0) 1 = M1.1 (51, 0, 0) 4 ∧ M.1 (5, 1, 1) 1 = M1.1 (51, 0, 0) 5 := fun q => by
    rw [c1 (12, 0, 0) 3 (by simp)] at q
    rw [e51]
    exact ⟨h.2.2.2.1 q, h.1 _ _ _ _ (by unfold PRz; simp) (fun _ => q), h.1 _ _ _ _ (by unfold PRz; simp) (fun _ => q)⟩
  have B := cb_36 hs1 hs2 hR hD (show M.1 (11, 0, 0) 8 = M1.1 (12, 0, 0) 3 from (RXzg h.1 (d := (12, 0, 0)) (j := 3) (by unfold PRz; simp) (by simp)).trans (c1 _ _ (by simp)).symm) hI
  have i3 : M2.1 (12, 0, 0) 3 = M1.1 (12, 0, 0) 3 := hF2 _ _ (fun q => by simp only [S_c_X12_restore, or_false] at q; omega)
  exact ⟨RY_of h hF1 hF2 s1 s2 hx hD2.2.1 hD2.2.2.1 h7 B.1 (Or.inr (fun q => B.2.1 (by rw [← i3]; exact q))) (SHR_keep h.2.2.2.2 (fun c k a => hF1 c k (fun q => by simp only [S_c_X11_restore, or_false] at q; omega)) (fun c k a => by rw [hF2 c k (fun q => by simp only [S_c_X12_restore, or_false] at q; omega), c1 c k (by omega)])), B.2.2⟩
theorem sy_37 {v : Int32} {M M1 M2 : mM} {r1 r2 : Int32} (h : RY M.1) (hD0 : InvD M) (hD : InvD M1) (hD2 : InvD M2) (hF1 : FR S_c_X11_tell M M1) (hs1 : SP_X11_tell v M r1 M1) (hF2 : FR S_c_X12_tell M1 M2) (hs2 : SP_X12_tell v M1 r2 M2) : RY M2.1 ∧ r1 = r2 := by
  have hx := (st_37 h.1 hD0 hF1 hs1 hF2 hs2).1
  have s1 : cC S_c_X11_tell := fun c k q => by simp only [S_c_X11_tell, or_false] at q; omega
  have s2 : cD S_c_X12_tell := fun c k q => by simp only [S_c_X12_tell, or_false] at q; omega
  have c1 : ∀ (c : rf) (k : Nat), c.1 = 12 ∨ 50 ≤ c.1 → M1.1 c k = M.1 c k := fun c k a => hF1 c k (fun q => s1 c k q a)
  have c2 : ∀ (c : rf) (k : Nat), ¬ (c.1 = 12 ∨ 50 ≤ c.1) → M2.1 c k = M1.1 c k := fun c k a => hF2 c k (fun q => a (s2 c k q))
  have e50 : M1.1 (50, 0, 0) = M.1 (50, 0, 0) := funext fun k => c1 _ _ (by simp)
  have hR : RW 0 M.1 (M1.1 (50, 0, 0)) := by rw [e50]; exact h.2.2.1
  have hu : (M1.1 (12, 0, 0) 7).toInt = -1 := by rw [c1 _ _ (by simp)]; exact h.2.1
  have h7 : (M2.1 (12, 0, 0) 7).toInt = -1 := by rw [hF2 (12, 0, 0) 7 (fun q => by simp only [S_c_X12_tell, or_false] at q; omega)]; exact hu
  have B := cb_37 hs1 hs2 hR hD hu (show M.1 (5, 0, 1) 1 = M1.1 (50, 0, 0) 5 from ((RXzg h.1 (d := (50, 0, 0)) (j := 5) (by unfold PRz; simp) (by simp)).trans (c1 _ _ (by simp)).symm))
  exact ⟨RY_of h hF1 hF2 s1 s2 hx hD2.2.1 hD2.2.2.1 h7 B.1 (Or.inl ⟨hF2 _ _ (fun q => by simp only [S_c_X12_tell, or_false] at q; omega), fun c k a b q => by unfold wR at a; simp only [S_c_X11_tell, or_false] at q; omega, fun k q => by simp only [S_c_X12_tell, or_false] at q; omega⟩) (SHR_keep h.2.2.2.2 (fun c k a => hF1 c k (fun q => by simp only [S_c_X11_tell, or_false] at q; omega)) (fun c k a => by rw [hF2 c k (fun q => by simp only [S_c_X12_tell, or_false] at q; omega), c1 c k (by omega)])), B.2⟩
theorem sy_38 {v : Int32} {M M1 M2 : mM} {r1 r2 : Int32} (h : RY M.1) (hD0 : InvD M) (hD : InvD M1) (hD2 : InvD M2) (hF1 : FR S_c_X11_check M M1) (hs1 : SP_X11_check v M r1 M1) (hF2 : FR S_c_X12_check M1 M2) (hs2 : SP_X12_check v M1 r2 M2) : RY M2.1 ∧ r1 = r2 := by
  have hx := (st_38 h.1 hD0 hF1 hs1 hF2 hs2).1
  have s1 : cC S_c_X11_check := fun c k q => by simp only [S_c_X11_check, or_false] at q; omega
  have s2 : cD S_c_X12_check := fun c k q => by simp only [S_c_X12_check, or_false] at q; omega
  have c1 : ∀ (c : rf) (k : Nat), c.1 = 12 ∨ 50 ≤ c.1 → M1.1 c k = M.1 c k := fun c k a => hF1 c k (fun q => s1 c k q a)
  have c2 : ∀ (c : rf) (k : Nat), ¬ (c.1 = 12 ∨ 50 ≤ c.1) → M2.1 c k = M1.1 c k := fun c k a => hF2 c k (fun q => a (s2 c k q))
  have e50 : M1.1 (50, 0, 0) = M.1 (50, 0, 0) := funext fun k => c1 _ _ (by simp)
  have hR : RW 0 M.1 (M1.1 (50, 0, 0)) := by rw [e50]; exact h.2.2.1
  have hu : (M1.1 (12, 0, 0) 7).toInt = -1 := by rw [c1 _ _ (by simp)]; exact h.2.1
  have h7 : (M2.1 (12, 0, 0) 7).toInt = -1 := by rw [hF2 (12, 0, 0) 7 (fun q => by simp only [S_c_X12_check, or_false] at q; omega)]; exact hu
  have B := cb_38 hs1 hs2 hR hD hu (show M.1 (5, 0, 0) 1 = M1.1 (50, 0, 0) 4 from ((RXzg h.1 (d := (50, 0, 0)) (j := 4) (by unfold PRz; simp) (by simp)).trans (c1 _ _ (by simp)).symm)) (show M.1 (5, 0, 1) 1 = M1.1 (50, 0, 0) 5 from ((RXzg h.1 (d := (50, 0, 0)) (j := 5) (by unfold PRz; simp) (by simp)).trans (c1 _ _ (by simp)).symm))
  exact ⟨RY_of h hF1 hF2 s1 s2 hx hD2.2.1 hD2.2.2.1 h7 B.1 (Or.inl ⟨hF2 _ _ (fun q => by simp only [S_c_X12_check, or_false] at q; omega), fun c k a b q => by unfold wR at a; simp only [S_c_X11_check, or_false] at q; omega, fun k q => by simp only [S_c_X12_check, or_false] at q; omega⟩) (SHR_keep h.2.2.2.2 (fun c k a => hF1 c k (fun q => by simp only [S_c_X11_check, or_false] at q; omega)) (fun c k a => by rw [hF2 c k (fun q => by simp only [S_c_X12_check, or_false] at q; omega), c1 c k (by omega)])), B.2⟩
theorem sy_39 {v : Int32} {M M1 M2 : mM} {r1 r2 : Int32} (h : RY M.1) (hD0 : InvD M) (hD : InvD M1) (hD2 : InvD M2) (hF1 : FR S_c_X11_count M M1) (hs1 : SP_X11_count v M r1 M1) (hF2 : FR S_c_X12_count M1 M2) (hs2 : SP_X12_count v M1 r2 M2) : RY M2.1 ∧ True := by
  have hx := (st_39 h.1 hD0 hF1 hs1 hF2 hs2).1
  have s1 : cC S_c_X11_count := fun c k q => by simp only [S_c_X11_count, or_false] at q; omega
  have s2 : cD S_c_X12_count := fun c k q => by simp only [S_c_X12_count, or_false] at q; omega
  have c1 : ∀ (c : rf) (k : Nat), c.1 = 12 ∨ 50 ≤ c.1 → M1.1 c k = M.1 c k := fun c k a => hF1 c k (fun q => s1 c k q a)
  have c2 : ∀ (c : rf) (k : Nat), ¬ (c.1 = 12 ∨ 50 ≤ c.1) → M2.1 c k = M1.1 c k := fun c k a => hF2 c k (fun q => a (s2 c k q))
  have e50 : M1.1 (50, 0, 0) = M.1 (50, 0, 0) := funext fun k => c1 _ _ (by simp)
  have hR : RW 0 M.1 (M1.1 (50, 0, 0)) := by rw [e50]; exact h.2.2.1
  have hu : (M1.1 (12, 0, 0) 7).toInt = -1 := by rw [c1 _ _ (by simp)]; exact h.2.1
  have h7 : (M2.1 (12, 0, 0) 7).toInt = -1 := by rw [hF2 (12, 0, 0) 7 (fun q => by simp only [S_c_X12_count, or_false] at q; omega)]; exact hu
  exact ⟨RY_fr h hF1 hF2 s1 s2 hx hD2.2.1 hD2.2.2.1 (fun c k a b q => by unfold wR at a; simp only [S_c_X11_count, or_false] at q; omega) (fun c k a q => by rcases a with rfl | rfl | ⟨rfl, rfl⟩ | a | a | a <;> (simp only [S_c_X12_count, or_false] at q <;> omega)) (fun c k a q => by simp only [S_c_X11_count, or_false] at q; omega) h7, trivial⟩
theorem sy_40 {v : Int32} {M M1 M2 : mM} {r1 r2 : Int32} (h : RY M.1) (hD0 : InvD M) (hD : InvD M1) (hD2 : InvD M2) (hF1 : FR S_c_X11_told M M1) (hs1 : SP_X11_told v M r1 M1) (hF2 : FR S_c_X12_told M1 M2) (hs2 : SP_X12_told v M1 r2 M2) : RY M2.1 ∧ True := by
  have hx := (st_40 h.1 hD0 hF1 hs1 hF2 hs2).1
  have s1 : cC S_c_X11_told := fun c k q => by simp only [S_c_X11_told, or_false] at q; omega
  have s2 : cD S_c_X12_told := fun c k q => by simp only [S_c_X12_told, or_false] at q; omega
  have c1 : ∀ (c : rf) (k : Nat), c.1 = 12 ∨ 50 ≤ c.1 → M1.1 c k = M.1 c k := fun c k a => hF1 c k (fun q => s1 c k q a)
  have c2 : ∀ (c : rf) (k : Nat), ¬ (c.1 = 12 ∨ 50 ≤ c.1) → M2.1 c k = M1.1 c k := fun c k a => hF2 c k (fun q => a (s2 c k q))
  have e50 : M1.1 (50, 0, 0) = M.1 (50, 0, 0) := funext fun k => c1 _ _ (by simp)
  have hR : RW 0 M.1 (M1.1 (50, 0, 0)) := by rw [e50]; exact h.2.2.1
  have hu : (M1.1 (12, 0, 0) 7).toInt = -1 := by rw [c1 _ _ (by simp)]; exact h.2.1
  have h7 : (M2.1 (12, 0, 0) 7).toInt = -1 := by rw [hF2 (12, 0, 0) 7 (fun q => by simp only [S_c_X12_told, or_false] at q; omega)]; exact hu
  exact ⟨RY_fr h hF1 hF2 s1 s2 hx hD2.2.1 hD2.2.2.1 (fun c k a b q => by unfold wR at a; simp only [S_c_X11_told, or_false] at q; omega) (fun c k a q => by rcases a with rfl | rfl | ⟨rfl, rfl⟩ | a | a | a <;> (simp only [S_c_X12_told, or_false] at q <;> omega)) (fun c k a q => by simp only [S_c_X11_told, or_false] at q; omega) h7, trivial⟩
end
