section
/-! how fast one may go -/
def TriP (N y : Int) : Prop := 0 ≤ y ∧ y ≤ 9 ∧ (∀ j : Int, 0 ≤ j → j < y → (j + 1) * (j + 2) / 2 ≤ N) ∧ (y = 9 ∨ N < (y + 1) * (y + 2) / 2)
theorem TriP_uniq {N y z : Int} (h : TriP N y) (g : TriP N z) : y = z := by
  obtain ⟨h1, h2, h3, h4⟩ := h
  obtain ⟨g1, g2, g3, g4⟩ := g
  rcases Int.lt_trichotomy y z with e | e | e
  · have := g3 y h1 e
    rcases h4 with h4 | h4 <;> omega
  · exact e
  · have := h3 z g1 e
    rcases g4 with g4 | g4 <;> omega
theorem tri_ {k z1 z2 z3 z4 : Int32} (hk : 0 ≤ k.toInt ∧ k.toInt < 9) (h1 : z1.toInt = k.toInt + 1) (h2 : z2.toInt = k.toInt + 2) (h3 : z3 = z1 * z2) (h4 : z4 = z3 / (2 : Int32)) : z4.toInt = (k.toInt + 1) * (k.toInt + 2) / 2 := by
  have i2 : (2 : Int32).toInt = 2 := by decide
  rw [h4, h3]
  obtain e | e | e | e | e | e | e | e | e : k.toInt = 0 ∨ k.toInt = 1 ∨ k.toInt = 2 ∨ k.toInt = 3 ∨ k.toInt = 4 ∨ k.toInt = 5 ∨ k.toInt = 6 ∨ k.toInt = 7 ∨ k.toInt = 8 := by omega
  all_goals
    rw [e] at h1 h2 ⊢
    exact divI (mulI h1 h2 (by first | decide | simp | (dsimp only; omega)) (by first | decide | simp | (dsimp only; omega))) i2 (by first | decide | simp | (dsimp only; omega)) (by first | decide | simp | (dsimp only; omega))
def FreeP (H : Int → Int) (c s y : Int) : Prop := 0 ≤ y ∧ y ≤ 15 ∧ (∀ j : Int, 1 ≤ j → j ≤ y → 0 ≤ onI c s j ∧ H (onI c s j) = 1) ∧ (y = 15 ∨ ¬ (0 ≤ onI c s (y + 1) ∧ H (onI c s (y + 1)) = 1))
theorem FreeP_uniq {H : Int → Int} {c s y z : Int} (h : FreeP H c s y) (g : FreeP H c s z) : y = z := by
  obtain ⟨h1, h2, h3, h4⟩ := h
  obtain ⟨g1, g2, g3, g4⟩ := g
  rcases Int.lt_trichotomy y z with e | e | e
  · have := g3 (y + 1) (by omega) (by omega)
    rcases h4 with h4 | h4
    · omega
    · exact absurd this h4
  · exact e
  · have := h3 (z + 1) (by omega) (by omega)
    rcases g4 with g4 | g4
    · omega
    · exact absurd this g4
theorem x9free {w : Nat} {M : mM} {r : Int32} {n : Nat → Int32} (h : SP_X9_yardsHeldFree 0 w M r) (hc : M.1 (9, 0, w) 1 = n (181 + 9 * w)) (hs : M.1 (9, 0, w) 2 = n (182 + 9 * w)) (cb : 0 ≤ (n (181 + 9 * w)).toInt ∧ (n (181 + 9 * w)).toInt ≤ 191) (sb : 0 ≤ (n (182 + 9 * w)).toInt ∧ (n (182 + 9 * w)).toInt ≤ 7) (hh : ∀ k, k < 192 → M.1 (40, 0, w) k = n (495 + 384 * w + k) ∧ M.1 (41, 0, w) k = n (687 + 384 * w + k)) : FreeP (HdS n w) (n (181 + 9 * w)).toInt (n (182 + 9 * w)).toInt r.toInt := by
  have q0 := il_0
  have hd : ∀ (x z : Int32), SP_X9_held 0 w x M z → (0 ≤ x.toInt ∧ z.toInt = HdS n w x.toInt) ∨ (¬ (0 ≤ x.toInt ∧ x.toInt ≤ 191) ∧ z.toInt = 0) := fun x z hz => by
    rcases x9held hz with H | H
    · left
      have g := hh x.toInt.toNat (by omega)
      refine ⟨H.1.1, ?_⟩
      rw [H.2, g.1, g.2]; rfl
    · exact Or.inr H
  have one : ∀ (i z r9 r14 : Int32), 0 ≤ i.toInt → i.toInt < 15 → z.toInt = i.toInt + 1 → SP_X7_cellFrom (M.1 (9, 0, w) 1) (M.1 (9, 0, w) 2) z M r9 → r9.toInt ≤ 191 → SP_X9_held 0 w r9 M r14 → (r14.toInt = 1 ↔ (0 ≤ onI (n (181 + 9 * w)).toInt (n (182 + 9 * w)).toInt (i.toInt + 1) ∧ HdS n w (onI (n (181 + 9 * w)).toInt (n (182 + 9 * w)).toInt (i.toInt + 1)) = 1)) := fun i z r9 r14 i0 i1 hz hf rb hk => by
    rw [hc, hs] at hf
    have cf := cF_spec hf
    rw [hz] at cf
    have H := hd _ _ hk
    rcases cf with cf | cf
    · rw [← cf.2]
      rcases H with H | H
      · rw [← H.2]
        exact ⟨fun q => ⟨H.1, q⟩, fun q => q.2⟩
      · exact ⟨fun q => by omega, fun q => by omega⟩
    · omega
  unfold SP_X9_yardsHeldFree at h
  rcases h with ⟨v1_2, hv0_2, hv1_2, hL_2, (⟨h2_, hr_⟩ | ⟨h2_, z3_, e4_, z5_, e6_, z7_, h8_, r9_, hs13_, h12_, r14_, hs18_, h19_, hr_⟩)⟩
  all_goals
    have g := rind hL_2 (fun x => 0 ≤ x.toInt ∧ ∀ j : Int, 1 ≤ j → j ≤ x.toInt → 0 ≤ onI (n (181 + 9 * w)).toInt (n (182 + 9 * w)).toInt j ∧ HdS n w (onI (n (181 + 9 * w)).toInt (n (182 + 9 * w)).toInt j) = 1) ⟨by omega, fun j h1 h2 => by omega⟩ (fun x z hp hst => by
      (try dsimp only at hp hst ⊢)
      unfold ST_X9_yardsHeldFree_2 at hst
      obtain ⟨p_hv0_2, p_hv1_2, p_h2_, p_z3_, p_e4_, p_z5_, p_e6_, p_z7_, p_h8_, p_r9_, p_hs13_, p_h12_, p_r14_, p_hs18_, p_h19_, p_z20_, p_h21_, p_hq_v1_2y⟩ := hst
      have o := (one x p_z7_ p_r9_ p_r14_ p_hv0_2 p_h2_ p_h8_ (by rw [← p_e4_, ← p_e6_]; exact p_hs13_) p_h12_.2 p_hs18_).1 p_h19_
      rw [p_hq_v1_2y]
      refine ⟨by omega, fun j h1 h2 => ?_⟩
      by_cases e : j = x.toInt + 1
      · rw [e]; exact o
      · exact hp.2 j h1 (by omega))
    (try dsimp only at g)
    rw [hr_]
  · exact ⟨g.1, hv1_2, g.2, Or.inl (by omega)⟩
  · have o := one v1_2 z7_ r9_ r14_ hv0_2 h2_ h8_ (by rw [← e4_, ← e6_]; exact hs13_) h12_.2 hs18_
    exact ⟨g.1, hv1_2, g.2, Or.inr (fun q => h19_ (o.2 q))⟩
theorem x10sure {v : Int32} {M M' : mM} {r : Int32} {n : Nat → Int32} (h : SP_X10_sureYards 0 v M r M') (hR : WRR 0 M.1 n) (hN : NW5 n) (hv : 0 ≤ v.toInt ∧ v.toInt < nWa n) : ∃ y : Int32, HyP n (occ 0 M.1) v.toInt.toNat (n (181 + 9 * v.toInt.toNat)) (n (182 + 9 * v.toInt.toNat)) y.toInt ∧ 0 ≤ y.toInt ∧ ((y.toInt = 0 ∧ FreeP (HdS n v.toInt.toNat) (n (181 + 9 * v.toInt.toNat)).toInt (n (182 + 9 * v.toInt.toNat)).toInt r.toInt) ∨ (0 < y.toInt ∧ r.toInt = y.toInt - 1)) := by
  have nw := nWa_b hN
  have ec := eT hR.2.2.1.1
  have w1 := (hR.2.2.1.2 v.toInt.toNat (by omega)).1
  have wh := (hR.2.2.1.2 v.toInt.toNat (by omega)).2
  have k1 := w1 1 (by omega)
  have k2 := w1 2 (by omega)
  rw [show 180 + 9 * v.toInt.toNat + 1 = 181 + 9 * v.toInt.toNat by omega] at k1
  rw [show 180 + 9 * v.toInt.toNat + 2 = 182 + 9 * v.toInt.toNat by omega] at k2
  have cb := ((hN.1 (181 + 9 * v.toInt.toNat)).2.2.2.2.2.2.2 (by omega) (by omega)).2.1 (by omega)
  have fb := ((hN.1 (182 + 9 * v.toInt.toNat)).2.2.2.2.2.2.2 (by omega) (by omega)).2.2 (by omega)
  unfold SP_X10_sureYards at h
  rcases h with (⟨hs5_, h4_, j7_, h8_, h9_, z10_, e11_, z12_, e13_, M15_, -, hF19_, r14_, hs21_, h17_, (⟨h22_, r23_, hs27_, hr_, hM_⟩ | ⟨h22_, z28_, h29_, hr_, hM_⟩)⟩ | ⟨hs5_, hr_, hM_⟩)
  · obtain rfl : j7_ = v.toInt.toNat := by omega
    rw [k1] at e11_
    rw [k2] at e13_
    subst e11_ e13_
    have H := x10heard hs21_ hR hN hv cb fb
    have fr : ∀ (c : rf) (k : Nat), c.1 = 9 ∨ c.1 = 40 ∨ c.1 = 41 → M15_.1 c k = M.1 c k := fun c k a => hF19_ c k (fun q => by simp only [S_c_X10_heardYards, or_false] at q; omega)
    refine ⟨r14_, H, by omega, Or.inl ⟨by omega, ?_⟩⟩
    rw [hr_]
    exact x9free hs27_ (by rw [fr _ _ (by simp)]; exact k1) (by rw [fr _ _ (by simp)]; exact k2) cb fb (fun k hk => by rw [fr _ _ (by simp), fr _ _ (by simp)]; exact wh k hk)
  · obtain rfl : j7_ = v.toInt.toNat := by omega
    rw [k1] at e11_
    rw [k2] at e13_
    subst e11_ e13_
    have H := x10heard hs21_ hR hN hv cb fb
    exact ⟨r14_, H, by omega, Or.inr ⟨h22_, by rw [hr_]; exact h29_⟩⟩
  · have := x10has hs5_
    unfold nWa at hv
    exfalso
    omega
theorem triC {N k : Int32} (h : RCH (fun x_ y_ => ST_X11_safe_28 N x_ y_) (0 : Int32) k) : 0 ≤ k.toInt ∧ k.toInt ≤ 9 ∧ ∀ j : Int, 0 ≤ j → j < k.toInt → (j + 1) * (j + 2) / 2 ≤ N.toInt := by
  have q0 := il_0
  refine rind h (fun k => 0 ≤ k.toInt ∧ k.toInt ≤ 9 ∧ ∀ j : Int, 0 ≤ j → j < k.toInt → (j + 1) * (j + 2) / 2 ≤ N.toInt) ⟨by omega, by omega, fun j h1 h2 => by omega⟩ (fun x z hp hst => ?_)
  (try dsimp only at hp hst ⊢)
  unfold ST_X11_safe_28 at hst
  obtain ⟨p_hv0_28, p_hv1_28, p_h16_, p_z17_, p_h18_, p_z19_, p_h20_, p_z21_, p_h22_, p_z23_, p_h24_, p_h25_, p_z26_, p_h27_, p_hq_v3_28y⟩ := hst
  have t := tri_ ⟨p_hv0_28, p_h16_⟩ p_h18_ p_h20_ p_h22_ p_h24_
  rw [p_hq_v3_28y]
  refine ⟨by omega, by omega, fun j h1 h2 => ?_⟩
  by_cases e : j = x.toInt
  · rw [e, ← t]; exact p_h25_
  · exact hp.2.2 j h1 (by omega)
theorem triD {N k : Int32} (h : RCH (fun x_ y_ => ST_X12_safe_113 N x_ y_) (0 : Int32) k) : 0 ≤ k.toInt ∧ k.toInt ≤ 9 ∧ ∀ j : Int, 0 ≤ j → j < k.toInt → (j + 1) * (j + 2) / 2 ≤ N.toInt := by
  have q0 := il_0
  refine rind h (fun k => 0 ≤ k.toInt ∧ k.toInt ≤ 9 ∧ ∀ j : Int, 0 ≤ j → j < k.toInt → (j + 1) * (j + 2) / 2 ≤ N.toInt) ⟨by omega, by omega, fun j h1 h2 => by omega⟩ (fun x z hp hst => ?_)
  (try dsimp only at hp hst ⊢)
  unfold ST_X12_safe_113 at hst
  obtain ⟨p_hv0_113, p_hv1_113, p_h43_, p_z44_, p_h45_, p_z46_, p_h47_, p_z48_, p_h49_, p_z50_, p_h51_, p_h52_, p_z53_, p_h54_, p_hq_v6_113y⟩ := hst
  have t := tri_ ⟨p_hv0_113, p_h43_⟩ p_h45_ p_h47_ p_h49_ p_h51_
  rw [p_hq_v6_113y]
  refine ⟨by omega, by omega, fun j h1 h2 => ?_⟩
  by_cases e : j = x.toInt
  · rw [e, ← t]; exact p_h52_
  · exact hp.2.2 j h1 (by omega)
theorem triDb {N k : Int32} (h : RCH (fun x_ y_ => ST_X12_safe_113b N x_ y_) (0 : Int32) k) : 0 ≤ k.toInt ∧ k.toInt ≤ 9 ∧ ∀ j : Int, 0 ≤ j → j < k.toInt → (j + 1) * (j + 2) / 2 ≤ N.toInt := by
  have q0 := il_0
  refine rind h (fun k => 0 ≤ k.toInt ∧ k.toInt ≤ 9 ∧ ∀ j : Int, 0 ≤ j → j < k.toInt → (j + 1) * (j + 2) / 2 ≤ N.toInt) ⟨by omega, by omega, fun j h1 h2 => by omega⟩ (fun x z hp hst => ?_)
  (try dsimp only at hp hst ⊢)
  unfold ST_X12_safe_113b at hst
  obtain ⟨p_hv0_113, p_hv1_113, p_h58_, p_z59_, p_h60_, p_z61_, p_h62_, p_z63_, p_h64_, p_z65_, p_h66_, p_h67_, p_z68_, p_h69_, p_hq_v6_113y⟩ := hst
  have t := tri_ ⟨p_hv0_113, p_h58_⟩ p_h60_ p_h62_ p_h64_ p_h66_
  rw [p_hq_v6_113y]
  refine ⟨by omega, by omega, fun j h1 h2 => ?_⟩
  by_cases e : j = x.toInt
  · rw [e, ← t]; exact p_h67_
  · exact hp.2.2 j h1 (by omega)
theorem triDc {N k : Int32} (h : RCH (fun x_ y_ => ST_X12_safe_113c N x_ y_) (0 : Int32) k) : 0 ≤ k.toInt ∧ k.toInt ≤ 9 ∧ ∀ j : Int, 0 ≤ j → j < k.toInt → (j + 1) * (j + 2) / 2 ≤ N.toInt := by
  have q0 := il_0
  refine rind h (fun k => 0 ≤ k.toInt ∧ k.toInt ≤ 9 ∧ ∀ j : Int, 0 ≤ j → j < k.toInt → (j + 1) * (j + 2) / 2 ≤ N.toInt) ⟨by omega, by omega, fun j h1 h2 => by omega⟩ (fun x z hp hst => ?_)
  (try dsimp only at hp hst ⊢)
  unfold ST_X12_safe_113c at hst
  obtain ⟨p_hv0_113, p_hv1_113, p_h79_, p_z80_, p_h81_, p_z82_, p_h83_, p_z84_, p_h85_, p_z86_, p_h87_, p_h88_, p_z89_, p_h90_, p_hq_v6_113y⟩ := hst
  have t := tri_ ⟨p_hv0_113, p_h79_⟩ p_h81_ p_h83_ p_h85_ p_h87_
  rw [p_hq_v6_113y]
  refine ⟨by omega, by omega, fun j h1 h2 => ?_⟩
  by_cases e : j = x.toInt
  · rw [e, ← t]; exact p_h88_
  · exact hp.2.2 j h1 (by omega)
theorem triDd {N k : Int32} (h : RCH (fun x_ y_ => ST_X12_safe_113d N x_ y_) (0 : Int32) k) : 0 ≤ k.toInt ∧ k.toInt ≤ 9 ∧ ∀ j : Int, 0 ≤ j → j < k.toInt → (j + 1) * (j + 2) / 2 ≤ N.toInt := by
  have q0 := il_0
  refine rind h (fun k => 0 ≤ k.toInt ∧ k.toInt ≤ 9 ∧ ∀ j : Int, 0 ≤ j → j < k.toInt → (j + 1) * (j + 2) / 2 ≤ N.toInt) ⟨by omega, by omega, fun j h1 h2 => by omega⟩ (fun x z hp hst => ?_)
  (try dsimp only at hp hst ⊢)
  unfold ST_X12_safe_113d at hst
  obtain ⟨p_hv0_113, p_hv1_113, p_h105_, p_z106_, p_h107_, p_z108_, p_h109_, p_z110_, p_h111_, p_z112_, p_h113_, p_h114_, p_z115_, p_h116_, p_hq_v6_113y⟩ := hst
  have t := tri_ ⟨p_hv0_113, p_h105_⟩ p_h107_ p_h109_ p_h111_ p_h113_
  rw [p_hq_v6_113y]
  refine ⟨by omega, by omega, fun j h1 h2 => ?_⟩
  by_cases e : j = x.toInt
  · rw [e, ← t]; exact p_h114_
  · exact hp.2.2 j h1 (by omega)
theorem x12fr {v z14 z26 x : Int32} {M : mM} (h : RCH (fun x_ y_ => ST_X12_safe_65 v z14 z26 M x_ y_) (0 : Int32) x) (hv : 0 ≤ v.toInt ∧ v.toInt ≤ 7) (cb : 0 ≤ z14.toInt ∧ z14.toInt ≤ 191) (sb : 0 ≤ z26.toInt ∧ z26.toInt ≤ 7) : 0 ≤ x.toInt ∧ ∀ j : Int, 1 ≤ j → j ≤ x.toInt → 0 ≤ onI z14.toInt z26.toInt j ∧ HdS (M.1 (50, 0, 0)) v.toInt.toNat (onI z14.toInt z26.toInt j) = 1 := by
  have q0 := il_0
  refine rind h (fun x => 0 ≤ x.toInt ∧ ∀ j : Int, 1 ≤ j → j ≤ x.toInt → 0 ≤ onI z14.toInt z26.toInt j ∧ HdS (M.1 (50, 0, 0)) v.toInt.toNat (onI z14.toInt z26.toInt j) = 1) ⟨by omega, fun j h1 h2 => by omega⟩ (fun x z hp hst => ?_)
  (try dsimp only at hp hst ⊢)
  unfold ST_X12_safe_65 at hst
  obtain ⟨p_hv0_65, p_hv1_65, p_hv2_65, p_h56_, p_z70_, p_h71_, p_r72_, p_hs76_, p_h75_, p_h77_, p_z91_, p_h92_, p_r93_, p_hs97_, p_h96_, p_r98_, p_hs102_, p_h101_, p_h103_, p_z117_, p_h118_, p_hq_v5_65y⟩ := hst
  have c1 := on_spec p_h75_.1 cb sb (by omega)
  have c2 := on_spec p_h96_.1 cb sb (by omega)
  rw [p_h71_] at c1
  rw [p_h92_] at c2
  have hd := x12held p_hs102_ hv (by omega)
  rw [p_hq_v5_65y]
  refine ⟨by omega, fun j h1 h2 => ?_⟩
  by_cases e : j = x.toInt + 1
  · rw [e, ← c1]; exact ⟨p_h77_, by rw [c1, ← c2, ← hd]; exact p_h103_⟩
  · exact hp.2 j h1 (by omega)
theorem an_26 {v : Int32} {M M1 D D2 : mM} {r1 r2 : Int32} (h1 : SP_X11_safe v M r1 M1) (h2 : SP_X12_safe v D r2 D2) (hR : RW 0 M.1 (D.1 (50, 0, 0))) (hD : InvD D) (hu : (D.1 (12, 0, 0) 7).toInt = -1) : r1 = r2 := by
  have q0 := il_0
  have q1 := il_1
  have bT := eT hR.1.2.1.1
  have bW := eT hR.1.2.2.1.1
  have nT := nTh_b hD.2.1
  have nW := nWa_b hD.2.1
  unfold nTh at nT
  unfold nWa at nW
  unfold SP_X11_safe at h1
  rcases h1 with (⟨c_hs5_, c_h4_, c_M8_, -, c_hF12_, c_r7_, c_hs14_, c_v3_28, c_hv0_28, c_hv1_28, c_hL_28, (⟨c_h16_, c_hr_, c_hM_⟩ | ⟨c_h16_, c_z17_, c_h18_, c_z19_, c_h20_, c_z21_, c_h22_, c_z23_, c_h24_, c_h25_, c_hr_, c_hM_⟩)⟩ | ⟨c_hs5_, c_M30_, -, c_hF34_, c_r29_, c_hs36_, c_hr_, c_hM_⟩)
  · have qc_hs5_ := x10has c_hs5_
    have yrc_ := eT c_hr_
    unfold SP_X12_safe at h2
    rcases h2 with (⟨d_hs5_, d_h4_, d_r7_, d_hs11_, d_h10_, d_z12_, d_h13_, d_j16_, d_h17_, d_z14_, d_e15_, d_h18_, d_r19_, d_hs23_, d_h22_, d_z24_, d_h25_, d_j28_, d_h29_, d_z26_, d_e27_, d_h30_, d_M32_, -, d_hF36_, d_r31_, d_hs38_, d_h34_, d_z39_, d_h40_, (⟨d_h41_, d_v6_113, d_hv0_113, d_hv1_113, d_hL_113, (⟨d_h43_, d_hr_, d_hM_⟩ | ⟨d_h43_, d_z44_, d_h45_, d_z46_, d_h47_, d_z48_, d_h49_, d_z50_, d_h51_, d_h52_, d_hr_, d_hM_⟩)⟩ | ⟨d_h41_, d_v5_65, d_hv0_65, d_hv1_65, d_hv2_65, d_hL_65, (⟨d_h56_, d_v6_113, d_hv0_113, d_hv1_113, d_hL_113, (⟨d_h58_, d_hr_, d_hM_⟩ | ⟨d_h58_, d_z59_, d_h60_, d_z61_, d_h62_, d_z63_, d_h64_, d_z65_, d_h66_, d_h67_, d_hr_, d_hM_⟩)⟩ | ⟨d_h56_, d_z70_, d_h71_, d_r72_, d_hs76_, d_h75_, (⟨d_h77_, d_v6_113, d_hv0_113, d_hv1_113, d_hL_113, (⟨d_h79_, d_hr_, d_hM_⟩ | ⟨d_h79_, d_z80_, d_h81_, d_z82_, d_h83_, d_z84_, d_h85_, d_z86_, d_h87_, d_h88_, d_hr_, d_hM_⟩)⟩ | ⟨d_h77_, d_z91_, d_h92_, d_r93_, d_hs97_, d_h96_, d_r98_, d_hs102_, d_h101_, d_h103_, d_v6_113, d_hv0_113, d_hv1_113, d_hL_113, (⟨d_h105_, d_hr_, d_hM_⟩ | ⟨d_h105_, d_z106_, d_h107_, d_z108_, d_h109_, d_z110_, d_h111_, d_z112_, d_h113_, d_h114_, d_hr_, d_hM_⟩)⟩)⟩)⟩)⟩ | ⟨d_hs5_, d_M121_, -, d_hF125_, d_r120_, d_hs127_, d_h123_, d_hr_, d_hM_⟩)
    · obtain rfl : d_j16_ = 181 + 9 * v.toInt.toNat := by omega
      obtain rfl : d_j28_ = 182 + 9 * v.toInt.toNat := by omega
      have qd_hs5_ := is2x d_hs5_
      have yd_e15_ := eT d_e15_
      have yd_e27_ := eT d_e27_
      have yrd_ := eT d_hr_
      have hv : 0 ≤ v.toInt ∧ v.toInt < nWa (D.1 (50, 0, 0)) := by unfold nWa; omega
      obtain rfl : d_j16_ = 181 + 9 * v.toInt.toNat := by omega
      obtain rfl : d_j28_ = 182 + 9 * v.toInt.toNat := by omega
      subst d_e15_ d_e27_
      have hX : ∀ w, w < 3 → ∀ i : Nat, (i : Int) < (D.1 (50, 0, 0) (345 + 50 * w)).toInt → cOK (nnU w) (D.1 (50, 0, 0) (346 + 50 * w + i)) := fun w hw i hi => ((hR.1.2.2.2.1 w hw).2 i hi).2
      obtain ⟨y, Y1, Y2, Y3⟩ := x10sure c_hs14_ hR.1 hD.2.1 hv
      have E2 := x12heard d_hs38_ hR.1.2.2.2.2.1 hD hX hv d_h18_ d_h30_ (Or.inr ⟨hu, rfl⟩)
      have ey := HyP_uniq Y1 E2
      have e50 : d_M32_.1 (50, 0, 0) = D.1 (50, 0, 0) := funext fun k => d_hF36_ _ _ (by simp [S_c_X12_heardFrom])
      have TC : TriP c_r7_.toInt c_v3_28.toInt := ⟨(triC c_hL_28).1, (triC c_hL_28).2.1, (triC c_hL_28).2.2, Or.inl (by have := (triC c_hL_28).2.1; omega)⟩
      have TD : TriP d_z39_.toInt d_v6_113.toInt := ⟨(triD d_hL_113).1, (triD d_hL_113).2.1, (triD d_hL_113).2.2, Or.inl (by have := (triD d_hL_113).2.1; omega)⟩
      rcases Y3 with Y3 | Y3
      · omega
      · rw [show c_r7_.toInt = d_z39_.toInt by omega] at TC
        rw [c_hr_, d_hr_]
        exact i32e (TriP_uniq TC TD)
    · obtain rfl : d_j16_ = 181 + 9 * v.toInt.toNat := by omega
      obtain rfl : d_j28_ = 182 + 9 * v.toInt.toNat := by omega
      have qd_hs5_ := is2x d_hs5_
      have yd_e15_ := eT d_e15_
      have yd_e27_ := eT d_e27_
      have yrd_ := eT d_hr_
      have hv : 0 ≤ v.toInt ∧ v.toInt < nWa (D.1 (50, 0, 0)) := by unfold nWa; omega
      obtain rfl : d_j16_ = 181 + 9 * v.toInt.toNat := by omega
      obtain rfl : d_j28_ = 182 + 9 * v.toInt.toNat := by omega
      subst d_e15_ d_e27_
      have hX : ∀ w, w < 3 → ∀ i : Nat, (i : Int) < (D.1 (50, 0, 0) (345 + 50 * w)).toInt → cOK (nnU w) (D.1 (50, 0, 0) (346 + 50 * w + i)) := fun w hw i hi => ((hR.1.2.2.2.1 w hw).2 i hi).2
      obtain ⟨y, Y1, Y2, Y3⟩ := x10sure c_hs14_ hR.1 hD.2.1 hv
      have E2 := x12heard d_hs38_ hR.1.2.2.2.2.1 hD hX hv d_h18_ d_h30_ (Or.inr ⟨hu, rfl⟩)
      have ey := HyP_uniq Y1 E2
      have e50 : d_M32_.1 (50, 0, 0) = D.1 (50, 0, 0) := funext fun k => d_hF36_ _ _ (by simp [S_c_X12_heardFrom])
      have TC : TriP c_r7_.toInt c_v3_28.toInt := ⟨(triC c_hL_28).1, (triC c_hL_28).2.1, (triC c_hL_28).2.2, Or.inl (by have := (triC c_hL_28).2.1; omega)⟩
      have TD : TriP d_z39_.toInt d_v6_113.toInt := ⟨(triD d_hL_113).1, (triD d_hL_113).2.1, (triD d_hL_113).2.2, Or.inr (by rw [← tri_ ⟨(triD d_hL_113).1, d_h43_⟩ d_h45_ d_h47_ d_h49_ d_h51_]; exact d_h52_)⟩
      rcases Y3 with Y3 | Y3
      · omega
      · rw [show c_r7_.toInt = d_z39_.toInt by omega] at TC
        rw [c_hr_, d_hr_]
        exact i32e (TriP_uniq TC TD)
    · obtain rfl : d_j16_ = 181 + 9 * v.toInt.toNat := by omega
      obtain rfl : d_j28_ = 182 + 9 * v.toInt.toNat := by omega
      have qd_hs5_ := is2x d_hs5_
      have yd_e15_ := eT d_e15_
      have yd_e27_ := eT d_e27_
      have yrd_ := eT d_hr_
      have hv : 0 ≤ v.toInt ∧ v.toInt < nWa (D.1 (50, 0, 0)) := by unfold nWa; omega
      obtain rfl : d_j16_ = 181 + 9 * v.toInt.toNat := by omega
      obtain rfl : d_j28_ = 182 + 9 * v.toInt.toNat := by omega
      subst d_e15_ d_e27_
      have hX : ∀ w, w < 3 → ∀ i : Nat, (i : Int) < (D.1 (50, 0, 0) (345 + 50 * w)).toInt → cOK (nnU w) (D.1 (50, 0, 0) (346 + 50 * w + i)) := fun w hw i hi => ((hR.1.2.2.2.1 w hw).2 i hi).2
      obtain ⟨y, Y1, Y2, Y3⟩ := x10sure c_hs14_ hR.1 hD.2.1 hv
      have E2 := x12heard d_hs38_ hR.1.2.2.2.2.1 hD hX hv d_h18_ d_h30_ (Or.inr ⟨hu, rfl⟩)
      have ey := HyP_uniq Y1 E2
      have e50 : d_M32_.1 (50, 0, 0) = D.1 (50, 0, 0) := funext fun k => d_hF36_ _ _ (by simp [S_c_X12_heardFrom])
      have TC : TriP c_r7_.toInt c_v3_28.toInt := ⟨(triC c_hL_28).1, (triC c_hL_28).2.1, (triC c_hL_28).2.2, Or.inl (by have := (triC c_hL_28).2.1; omega)⟩
      have TD : TriP d_v5_65.toInt d_v6_113.toInt := ⟨(triDb d_hL_113).1, (triDb d_hL_113).2.1, (triDb d_hL_113).2.2, Or.inl (by have := (triDb d_hL_113).2.1; omega)⟩
      have F := x12fr d_hL_65 (by omega) d_h18_ d_h30_
      rw [e50] at F
      have FD : FreeP (HdS (D.1 (50, 0, 0)) v.toInt.toNat) (D.1 (50, 0, 0) (181 + 9 * v.toInt.toNat)).toInt (D.1 (50, 0, 0) (182 + 9 * v.toInt.toNat)).toInt d_v5_65.toInt := ⟨F.1, by omega, F.2, Or.inl (by omega)⟩
      rcases Y3 with Y3 | Y3
      · rw [FreeP_uniq Y3.2 FD] at TC
        rw [c_hr_, d_hr_]
        exact i32e (TriP_uniq TC TD)
      · omega
    · obtain rfl : d_j16_ = 181 + 9 * v.toInt.toNat := by omega
      obtain rfl : d_j28_ = 182 + 9 * v.toInt.toNat := by omega
      have qd_hs5_ := is2x d_hs5_
      have yd_e15_ := eT d_e15_
      have yd_e27_ := eT d_e27_
      have yrd_ := eT d_hr_
      have hv : 0 ≤ v.toInt ∧ v.toInt < nWa (D.1 (50, 0, 0)) := by unfold nWa; omega
      obtain rfl : d_j16_ = 181 + 9 * v.toInt.toNat := by omega
      obtain rfl : d_j28_ = 182 + 9 * v.toInt.toNat := by omega
      subst d_e15_ d_e27_
      have hX : ∀ w, w < 3 → ∀ i : Nat, (i : Int) < (D.1 (50, 0, 0) (345 + 50 * w)).toInt → cOK (nnU w) (D.1 (50, 0, 0) (346 + 50 * w + i)) := fun w hw i hi => ((hR.1.2.2.2.1 w hw).2 i hi).2
      obtain ⟨y, Y1, Y2, Y3⟩ := x10sure c_hs14_ hR.1 hD.2.1 hv
      have E2 := x12heard d_hs38_ hR.1.2.2.2.2.1 hD hX hv d_h18_ d_h30_ (Or.inr ⟨hu, rfl⟩)
      have ey := HyP_uniq Y1 E2
      have e50 : d_M32_.1 (50, 0, 0) = D.1 (50, 0, 0) := funext fun k => d_hF36_ _ _ (by simp [S_c_X12_heardFrom])
      have TC : TriP c_r7_.toInt c_v3_28.toInt := ⟨(triC c_hL_28).1, (triC c_hL_28).2.1, (triC c_hL_28).2.2, Or.inl (by have := (triC c_hL_28).2.1; omega)⟩
      have TD : TriP d_v5_65.toInt d_v6_113.toInt := ⟨(triDb d_hL_113).1, (triDb d_hL_113).2.1, (triDb d_hL_113).2.2, Or.inr (by rw [← tri_ ⟨(triDb d_hL_113).1, d_h58_⟩ d_h60_ d_h62_ d_h64_ d_h66_]; exact d_h67_)⟩
      have F := x12fr d_hL_65 (by omega) d_h18_ d_h30_
      rw [e50] at F
      have FD : FreeP (HdS (D.1 (50, 0, 0)) v.toInt.toNat) (D.1 (50, 0, 0) (181 + 9 * v.toInt.toNat)).toInt (D.1 (50, 0, 0) (182 + 9 * v.toInt.toNat)).toInt d_v5_65.toInt := ⟨F.1, by omega, F.2, Or.inl (by omega)⟩
      rcases Y3 with Y3 | Y3
      · rw [FreeP_uniq Y3.2 FD] at TC
        rw [c_hr_, d_hr_]
        exact i32e (TriP_uniq TC TD)
      · omega
    · obtain rfl : d_j16_ = 181 + 9 * v.toInt.toNat := by omega
      obtain rfl : d_j28_ = 182 + 9 * v.toInt.toNat := by omega
      have qd_hs5_ := is2x d_hs5_
      have yd_e15_ := eT d_e15_
      have yd_e27_ := eT d_e27_
      have yrd_ := eT d_hr_
      have hv : 0 ≤ v.toInt ∧ v.toInt < nWa (D.1 (50, 0, 0)) := by unfold nWa; omega
      obtain rfl : d_j16_ = 181 + 9 * v.toInt.toNat := by omega
      obtain rfl : d_j28_ = 182 + 9 * v.toInt.toNat := by omega
      subst d_e15_ d_e27_
      have hX : ∀ w, w < 3 → ∀ i : Nat, (i : Int) < (D.1 (50, 0, 0) (345 + 50 * w)).toInt → cOK (nnU w) (D.1 (50, 0, 0) (346 + 50 * w + i)) := fun w hw i hi => ((hR.1.2.2.2.1 w hw).2 i hi).2
      obtain ⟨y, Y1, Y2, Y3⟩ := x10sure c_hs14_ hR.1 hD.2.1 hv
      have E2 := x12heard d_hs38_ hR.1.2.2.2.2.1 hD hX hv d_h18_ d_h30_ (Or.inr ⟨hu, rfl⟩)
      have ey := HyP_uniq Y1 E2
      have e50 : d_M32_.1 (50, 0, 0) = D.1 (50, 0, 0) := funext fun k => d_hF36_ _ _ (by simp [S_c_X12_heardFrom])
      have TC : TriP c_r7_.toInt c_v3_28.toInt := ⟨(triC c_hL_28).1, (triC c_hL_28).2.1, (triC c_hL_28).2.2, Or.inl (by have := (triC c_hL_28).2.1; omega)⟩
      have TD : TriP d_v5_65.toInt d_v6_113.toInt := ⟨(triDc d_hL_113).1, (triDc d_hL_113).2.1, (triDc d_hL_113).2.2, Or.inl (by have := (triDc d_hL_113).2.1; omega)⟩
      have F := x12fr d_hL_65 (by omega) d_h18_ d_h30_
      rw [e50] at F
      have c1 := on_spec d_h75_.1 d_h18_ d_h30_ (by omega)
      rw [d_h71_] at c1
      have FD : FreeP (HdS (D.1 (50, 0, 0)) v.toInt.toNat) (D.1 (50, 0, 0) (181 + 9 * v.toInt.toNat)).toInt (D.1 (50, 0, 0) (182 + 9 * v.toInt.toNat)).toInt d_v5_65.toInt := ⟨F.1, by omega, F.2, Or.inr (fun q => by rw [← c1] at q; omega)⟩
      rcases Y3 with Y3 | Y3
      · rw [FreeP_uniq Y3.2 FD] at TC
        rw [c_hr_, d_hr_]
        exact i32e (TriP_uniq TC TD)
      · omega
    · obtain rfl : d_j16_ = 181 + 9 * v.toInt.toNat := by omega
      obtain rfl : d_j28_ = 182 + 9 * v.toInt.toNat := by omega
      have qd_hs5_ := is2x d_hs5_
      have yd_e15_ := eT d_e15_
      have yd_e27_ := eT d_e27_
      have yrd_ := eT d_hr_
      have hv : 0 ≤ v.toInt ∧ v.toInt < nWa (D.1 (50, 0, 0)) := by unfold nWa; omega
      obtain rfl : d_j16_ = 181 + 9 * v.toInt.toNat := by omega
      obtain rfl : d_j28_ = 182 + 9 * v.toInt.toNat := by omega
      subst d_e15_ d_e27_
      have hX : ∀ w, w < 3 → ∀ i : Nat, (i : Int) < (D.1 (50, 0, 0) (345 + 50 * w)).toInt → cOK (nnU w) (D.1 (50, 0, 0) (346 + 50 * w + i)) := fun w hw i hi => ((hR.1.2.2.2.1 w hw).2 i hi).2
      obtain ⟨y, Y1, Y2, Y3⟩ := x10sure c_hs14_ hR.1 hD.2.1 hv
      have E2 := x12heard d_hs38_ hR.1.2.2.2.2.1 hD hX hv d_h18_ d_h30_ (Or.inr ⟨hu, rfl⟩)
      have ey := HyP_uniq Y1 E2
      have e50 : d_M32_.1 (50, 0, 0) = D.1 (50, 0, 0) := funext fun k => d_hF36_ _ _ (by simp [S_c_X12_heardFrom])
      have TC : TriP c_r7_.toInt c_v3_28.toInt := ⟨(triC c_hL_28).1, (triC c_hL_28).2.1, (triC c_hL_28).2.2, Or.inl (by have := (triC c_hL_28).2.1; omega)⟩
      have TD : TriP d_v5_65.toInt d_v6_113.toInt := ⟨(triDc d_hL_113).1, (triDc d_hL_113).2.1, (triDc d_hL_113).2.2, Or.inr (by rw [← tri_ ⟨(triDc d_hL_113).1, d_h79_⟩ d_h81_ d_h83_ d_h85_ d_h87_]; exact d_h88_)⟩
      have F := x12fr d_hL_65 (by omega) d_h18_ d_h30_
      rw [e50] at F
      have c1 := on_spec d_h75_.1 d_h18_ d_h30_ (by omega)
      rw [d_h71_] at c1
      have FD : FreeP (HdS (D.1 (50, 0, 0)) v.toInt.toNat) (D.1 (50, 0, 0) (181 + 9 * v.toInt.toNat)).toInt (D.1 (50, 0, 0) (182 + 9 * v.toInt.toNat)).toInt d_v5_65.toInt := ⟨F.1, by omega, F.2, Or.inr (fun q => by rw [← c1] at q; omega)⟩
      rcases Y3 with Y3 | Y3
      · rw [FreeP_uniq Y3.2 FD] at TC
        rw [c_hr_, d_hr_]
        exact i32e (TriP_uniq TC TD)
      · omega
    · obtain rfl : d_j16_ = 181 + 9 * v.toInt.toNat := by omega
      obtain rfl : d_j28_ = 182 + 9 * v.toInt.toNat := by omega
      have qd_hs5_ := is2x d_hs5_
      have yd_e15_ := eT d_e15_
      have yd_e27_ := eT d_e27_
      have yrd_ := eT d_hr_
      have hv : 0 ≤ v.toInt ∧ v.toInt < nWa (D.1 (50, 0, 0)) := by unfold nWa; omega
      obtain rfl : d_j16_ = 181 + 9 * v.toInt.toNat := by omega
      obtain rfl : d_j28_ = 182 + 9 * v.toInt.toNat := by omega
      subst d_e15_ d_e27_
      have hX : ∀ w, w < 3 → ∀ i : Nat, (i : Int) < (D.1 (50, 0, 0) (345 + 50 * w)).toInt → cOK (nnU w) (D.1 (50, 0, 0) (346 + 50 * w + i)) := fun w hw i hi => ((hR.1.2.2.2.1 w hw).2 i hi).2
      obtain ⟨y, Y1, Y2, Y3⟩ := x10sure c_hs14_ hR.1 hD.2.1 hv
      have E2 := x12heard d_hs38_ hR.1.2.2.2.2.1 hD hX hv d_h18_ d_h30_ (Or.inr ⟨hu, rfl⟩)
      have ey := HyP_uniq Y1 E2
      have e50 : d_M32_.1 (50, 0, 0) = D.1 (50, 0, 0) := funext fun k => d_hF36_ _ _ (by simp [S_c_X12_heardFrom])
      have TC : TriP c_r7_.toInt c_v3_28.toInt := ⟨(triC c_hL_28).1, (triC c_hL_28).2.1, (triC c_hL_28).2.2, Or.inl (by have := (triC c_hL_28).2.1; omega)⟩
      have TD : TriP d_v5_65.toInt d_v6_113.toInt := ⟨(triDd d_hL_113).1, (triDd d_hL_113).2.1, (triDd d_hL_113).2.2, Or.inl (by have := (triDd d_hL_113).2.1; omega)⟩
      have F := x12fr d_hL_65 (by omega) d_h18_ d_h30_
      rw [e50] at F
      have c1 := on_spec d_h75_.1 d_h18_ d_h30_ (by omega)
      rw [d_h71_] at c1
      have c2 := on_spec d_h96_.1 d_h18_ d_h30_ (by omega)
      rw [d_h92_] at c2
      have hd := x12held d_hs102_ (by omega) (by omega)
      rw [e50] at hd
      have FD : FreeP (HdS (D.1 (50, 0, 0)) v.toInt.toNat) (D.1 (50, 0, 0) (181 + 9 * v.toInt.toNat)).toInt (D.1 (50, 0, 0) (182 + 9 * v.toInt.toNat)).toInt d_v5_65.toInt := ⟨F.1, by omega, F.2, Or.inr (fun q => d_h103_ (by rw [hd, c2]; exact q.2))⟩
      rcases Y3 with Y3 | Y3
      · rw [FreeP_uniq Y3.2 FD] at TC
        rw [c_hr_, d_hr_]
        exact i32e (TriP_uniq TC TD)
      · omega
    · obtain rfl : d_j16_ = 181 + 9 * v.toInt.toNat := by omega
      obtain rfl : d_j28_ = 182 + 9 * v.toInt.toNat := by omega
      have qd_hs5_ := is2x d_hs5_
      have yd_e15_ := eT d_e15_
      have yd_e27_ := eT d_e27_
      have yrd_ := eT d_hr_
      have hv : 0 ≤ v.toInt ∧ v.toInt < nWa (D.1 (50, 0, 0)) := by unfold nWa; omega
      obtain rfl : d_j16_ = 181 + 9 * v.toInt.toNat := by omega
      obtain rfl : d_j28_ = 182 + 9 * v.toInt.toNat := by omega
      subst d_e15_ d_e27_
      have hX : ∀ w, w < 3 → ∀ i : Nat, (i : Int) < (D.1 (50, 0, 0) (345 + 50 * w)).toInt → cOK (nnU w) (D.1 (50, 0, 0) (346 + 50 * w + i)) := fun w hw i hi => ((hR.1.2.2.2.1 w hw).2 i hi).2
      obtain ⟨y, Y1, Y2, Y3⟩ := x10sure c_hs14_ hR.1 hD.2.1 hv
      have E2 := x12heard d_hs38_ hR.1.2.2.2.2.1 hD hX hv d_h18_ d_h30_ (Or.inr ⟨hu, rfl⟩)
      have ey := HyP_uniq Y1 E2
      have e50 : d_M32_.1 (50, 0, 0) = D.1 (50, 0, 0) := funext fun k => d_hF36_ _ _ (by simp [S_c_X12_heardFrom])
      have TC : TriP c_r7_.toInt c_v3_28.toInt := ⟨(triC c_hL_28).1, (triC c_hL_28).2.1, (triC c_hL_28).2.2, Or.inl (by have := (triC c_hL_28).2.1; omega)⟩
      have TD : TriP d_v5_65.toInt d_v6_113.toInt := ⟨(triDd d_hL_113).1, (triDd d_hL_113).2.1, (triDd d_hL_113).2.2, Or.inr (by rw [← tri_ ⟨(triDd d_hL_113).1, d_h105_⟩ d_h107_ d_h109_ d_h111_ d_h113_]; exact d_h114_)⟩
      have F := x12fr d_hL_65 (by omega) d_h18_ d_h30_
      rw [e50] at F
      have c1 := on_spec d_h75_.1 d_h18_ d_h30_ (by omega)
      rw [d_h71_] at c1
      have c2 := on_spec d_h96_.1 d_h18_ d_h30_ (by omega)
      rw [d_h92_] at c2
      have hd := x12held d_hs102_ (by omega) (by omega)
      rw [e50] at hd
      have FD : FreeP (HdS (D.1 (50, 0, 0)) v.toInt.toNat) (D.1 (50, 0, 0) (181 + 9 * v.toInt.toNat)).toInt (D.1 (50, 0, 0) (182 + 9 * v.toInt.toNat)).toInt d_v5_65.toInt := ⟨F.1, by omega, F.2, Or.inr (fun q => d_h103_ (by rw [hd, c2]; exact q.2))⟩
      rcases Y3 with Y3 | Y3
      · rw [FreeP_uniq Y3.2 FD] at TC
        rw [c_hr_, d_hr_]
        exact i32e (TriP_uniq TC TD)
      · omega
    · have qd_hs5_ := is2x d_hs5_
      have yrd_ := eT d_hr_
      exfalso; omega
  · have qc_hs5_ := x10has c_hs5_
    have yrc_ := eT c_hr_
    unfold SP_X12_safe at h2
    rcases h2 with (⟨d_hs5_, d_h4_, d_r7_, d_hs11_, d_h10_, d_z12_, d_h13_, d_j16_, d_h17_, d_z14_, d_e15_, d_h18_, d_r19_, d_hs23_, d_h22_, d_z24_, d_h25_, d_j28_, d_h29_, d_z26_, d_e27_, d_h30_, d_M32_, -, d_hF36_, d_r31_, d_hs38_, d_h34_, d_z39_, d_h40_, (⟨d_h41_, d_v6_113, d_hv0_113, d_hv1_113, d_hL_113, (⟨d_h43_, d_hr_, d_hM_⟩ | ⟨d_h43_, d_z44_, d_h45_, d_z46_, d_h47_, d_z48_, d_h49_, d_z50_, d_h51_, d_h52_, d_hr_, d_hM_⟩)⟩ | ⟨d_h41_, d_v5_65, d_hv0_65, d_hv1_65, d_hv2_65, d_hL_65, (⟨d_h56_, d_v6_113, d_hv0_113, d_hv1_113, d_hL_113, (⟨d_h58_, d_hr_, d_hM_⟩ | ⟨d_h58_, d_z59_, d_h60_, d_z61_, d_h62_, d_z63_, d_h64_, d_z65_, d_h66_, d_h67_, d_hr_, d_hM_⟩)⟩ | ⟨d_h56_, d_z70_, d_h71_, d_r72_, d_hs76_, d_h75_, (⟨d_h77_, d_v6_113, d_hv0_113, d_hv1_113, d_hL_113, (⟨d_h79_, d_hr_, d_hM_⟩ | ⟨d_h79_, d_z80_, d_h81_, d_z82_, d_h83_, d_z84_, d_h85_, d_z86_, d_h87_, d_h88_, d_hr_, d_hM_⟩)⟩ | ⟨d_h77_, d_z91_, d_h92_, d_r93_, d_hs97_, d_h96_, d_r98_, d_hs102_, d_h101_, d_h103_, d_v6_113, d_hv0_113, d_hv1_113, d_hL_113, (⟨d_h105_, d_hr_, d_hM_⟩ | ⟨d_h105_, d_z106_, d_h107_, d_z108_, d_h109_, d_z110_, d_h111_, d_z112_, d_h113_, d_h114_, d_hr_, d_hM_⟩)⟩)⟩)⟩)⟩ | ⟨d_hs5_, d_M121_, -, d_hF125_, d_r120_, d_hs127_, d_h123_, d_hr_, d_hM_⟩)
    · obtain rfl : d_j16_ = 181 + 9 * v.toInt.toNat := by omega
      obtain rfl : d_j28_ = 182 + 9 * v.toInt.toNat := by omega
      have qd_hs5_ := is2x d_hs5_
      have yd_e15_ := eT d_e15_
      have yd_e27_ := eT d_e27_
      have yrd_ := eT d_hr_
      have hv : 0 ≤ v.toInt ∧ v.toInt < nWa (D.1 (50, 0, 0)) := by unfold nWa; omega
      obtain rfl : d_j16_ = 181 + 9 * v.toInt.toNat := by omega
      obtain rfl : d_j28_ = 182 + 9 * v.toInt.toNat := by omega
      subst d_e15_ d_e27_
      have hX : ∀ w, w < 3 → ∀ i : Nat, (i : Int) < (D.1 (50, 0, 0) (345 + 50 * w)).toInt → cOK (nnU w) (D.1 (50, 0, 0) (346 + 50 * w + i)) := fun w hw i hi => ((hR.1.2.2.2.1 w hw).2 i hi).2
      obtain ⟨y, Y1, Y2, Y3⟩ := x10sure c_hs14_ hR.1 hD.2.1 hv
      have E2 := x12heard d_hs38_ hR.1.2.2.2.2.1 hD hX hv d_h18_ d_h30_ (Or.inr ⟨hu, rfl⟩)
      have ey := HyP_uniq Y1 E2
      have e50 : d_M32_.1 (50, 0, 0) = D.1 (50, 0, 0) := funext fun k => d_hF36_ _ _ (by simp [S_c_X12_heardFrom])
      have TC : TriP c_r7_.toInt c_v3_28.toInt := ⟨(triC c_hL_28).1, (triC c_hL_28).2.1, (triC c_hL_28).2.2, Or.inr (by rw [← tri_ ⟨(triC c_hL_28).1, c_h16_⟩ c_h18_ c_h20_ c_h22_ c_h24_]; exact c_h25_)⟩
      have TD : TriP d_z39_.toInt d_v6_113.toInt := ⟨(triD d_hL_113).1, (triD d_hL_113).2.1, (triD d_hL_113).2.2, Or.inl (by have := (triD d_hL_113).2.1; omega)⟩
      rcases Y3 with Y3 | Y3
      · omega
      · rw [show c_r7_.toInt = d_z39_.toInt by omega] at TC
        rw [c_hr_, d_hr_]
        exact i32e (TriP_uniq TC TD)
    · obtain rfl : d_j16_ = 181 + 9 * v.toInt.toNat := by omega
      obtain rfl : d_j28_ = 182 + 9 * v.toInt.toNat := by omega
      have qd_hs5_ := is2x d_hs5_
      have yd_e15_ := eT d_e15_
      have yd_e27_ := eT d_e27_
      have yrd_ := eT d_hr_
      have hv : 0 ≤ v.toInt ∧ v.toInt < nWa (D.1 (50, 0, 0)) := by unfold nWa; omega
      obtain rfl : d_j16_ = 181 + 9 * v.toInt.toNat := by omega
      obtain rfl : d_j28_ = 182 + 9 * v.toInt.toNat := by omega
      subst d_e15_ d_e27_
      have hX : ∀ w, w < 3 → ∀ i : Nat, (i : Int) < (D.1 (50, 0, 0) (345 + 50 * w)).toInt → cOK (nnU w) (D.1 (50, 0, 0) (346 + 50 * w + i)) := fun w hw i hi => ((hR.1.2.2.2.1 w hw).2 i hi).2
      obtain ⟨y, Y1, Y2, Y3⟩ := x10sure c_hs14_ hR.1 hD.2.1 hv
      have E2 := x12heard d_hs38_ hR.1.2.2.2.2.1 hD hX hv d_h18_ d_h30_ (Or.inr ⟨hu, rfl⟩)
      have ey := HyP_uniq Y1 E2
      have e50 : d_M32_.1 (50, 0, 0) = D.1 (50, 0, 0) := funext fun k => d_hF36_ _ _ (by simp [S_c_X12_heardFrom])
      have TC : TriP c_r7_.toInt c_v3_28.toInt := ⟨(triC c_hL_28).1, (triC c_hL_28).2.1, (triC c_hL_28).2.2, Or.inr (by rw [← tri_ ⟨(triC c_hL_28).1, c_h16_⟩ c_h18_ c_h20_ c_h22_ c_h24_]; exact c_h25_)⟩
      have TD : TriP d_z39_.toInt d_v6_113.toInt := ⟨(triD d_hL_113).1, (triD d_hL_113).2.1, (triD d_hL_113).2.2, Or.inr (by rw [← tri_ ⟨(triD d_hL_113).1, d_h43_⟩ d_h45_ d_h47_ d_h49_ d_h51_]; exact d_h52_)⟩
      rcases Y3 with Y3 | Y3
      · omega
      · rw [show c_r7_.toInt = d_z39_.toInt by omega] at TC
        rw [c_hr_, d_hr_]
        exact i32e (TriP_uniq TC TD)
    · obtain rfl : d_j16_ = 181 + 9 * v.toInt.toNat := by omega
      obtain rfl : d_j28_ = 182 + 9 * v.toInt.toNat := by omega
      have qd_hs5_ := is2x d_hs5_
      have yd_e15_ := eT d_e15_
      have yd_e27_ := eT d_e27_
      have yrd_ := eT d_hr_
      have hv : 0 ≤ v.toInt ∧ v.toInt < nWa (D.1 (50, 0, 0)) := by unfold nWa; omega
      obtain rfl : d_j16_ = 181 + 9 * v.toInt.toNat := by omega
      obtain rfl : d_j28_ = 182 + 9 * v.toInt.toNat := by omega
      subst d_e15_ d_e27_
      have hX : ∀ w, w < 3 → ∀ i : Nat, (i : Int) < (D.1 (50, 0, 0) (345 + 50 * w)).toInt → cOK (nnU w) (D.1 (50, 0, 0) (346 + 50 * w + i)) := fun w hw i hi => ((hR.1.2.2.2.1 w hw).2 i hi).2
      obtain ⟨y, Y1, Y2, Y3⟩ := x10sure c_hs14_ hR.1 hD.2.1 hv
      have E2 := x12heard d_hs38_ hR.1.2.2.2.2.1 hD hX hv d_h18_ d_h30_ (Or.inr ⟨hu, rfl⟩)
      have ey := HyP_uniq Y1 E2
      have e50 : d_M32_.1 (50, 0, 0) = D.1 (50, 0, 0) := funext fun k => d_hF36_ _ _ (by simp [S_c_X12_heardFrom])
      have TC : TriP c_r7_.toInt c_v3_28.toInt := ⟨(triC c_hL_28).1, (triC c_hL_28).2.1, (triC c_hL_28).2.2, Or.inr (by rw [← tri_ ⟨(triC c_hL_28).1, c_h16_⟩ c_h18_ c_h20_ c_h22_ c_h24_]; exact c_h25_)⟩
      have TD : TriP d_v5_65.toInt d_v6_113.toInt := ⟨(triDb d_hL_113).1, (triDb d_hL_113).2.1, (triDb d_hL_113).2.2, Or.inl (by have := (triDb d_hL_113).2.1; omega)⟩
      have F := x12fr d_hL_65 (by omega) d_h18_ d_h30_
      rw [e50] at F
      have FD : FreeP (HdS (D.1 (50, 0, 0)) v.toInt.toNat) (D.1 (50, 0, 0) (181 + 9 * v.toInt.toNat)).toInt (D.1 (50, 0, 0) (182 + 9 * v.toInt.toNat)).toInt d_v5_65.toInt := ⟨F.1, by omega, F.2, Or.inl (by omega)⟩
      rcases Y3 with Y3 | Y3
      · rw [FreeP_uniq Y3.2 FD] at TC
        rw [c_hr_, d_hr_]
        exact i32e (TriP_uniq TC TD)
      · omega
    · obtain rfl : d_j16_ = 181 + 9 * v.toInt.toNat := by omega
      obtain rfl : d_j28_ = 182 + 9 * v.toInt.toNat := by omega
      have qd_hs5_ := is2x d_hs5_
      have yd_e15_ := eT d_e15_
      have yd_e27_ := eT d_e27_
      have yrd_ := eT d_hr_
      have hv : 0 ≤ v.toInt ∧ v.toInt < nWa (D.1 (50, 0, 0)) := by unfold nWa; omega
      obtain rfl : d_j16_ = 181 + 9 * v.toInt.toNat := by omega
      obtain rfl : d_j28_ = 182 + 9 * v.toInt.toNat := by omega
      subst d_e15_ d_e27_
      have hX : ∀ w, w < 3 → ∀ i : Nat, (i : Int) < (D.1 (50, 0, 0) (345 + 50 * w)).toInt → cOK (nnU w) (D.1 (50, 0, 0) (346 + 50 * w + i)) := fun w hw i hi => ((hR.1.2.2.2.1 w hw).2 i hi).2
      obtain ⟨y, Y1, Y2, Y3⟩ := x10sure c_hs14_ hR.1 hD.2.1 hv
      have E2 := x12heard d_hs38_ hR.1.2.2.2.2.1 hD hX hv d_h18_ d_h30_ (Or.inr ⟨hu, rfl⟩)
      have ey := HyP_uniq Y1 E2
      have e50 : d_M32_.1 (50, 0, 0) = D.1 (50, 0, 0) := funext fun k => d_hF36_ _ _ (by simp [S_c_X12_heardFrom])
      have TC : TriP c_r7_.toInt c_v3_28.toInt := ⟨(triC c_hL_28).1, (triC c_hL_28).2.1, (triC c_hL_28).2.2, Or.inr (by rw [← tri_ ⟨(triC c_hL_28).1, c_h16_⟩ c_h18_ c_h20_ c_h22_ c_h24_]; exact c_h25_)⟩
      have TD : TriP d_v5_65.toInt d_v6_113.toInt := ⟨(triDb d_hL_113).1, (triDb d_hL_113).2.1, (triDb d_hL_113).2.2, Or.inr (by rw [← tri_ ⟨(triDb d_hL_113).1, d_h58_⟩ d_h60_ d_h62_ d_h64_ d_h66_]; exact d_h67_)⟩
      have F := x12fr d_hL_65 (by omega) d_h18_ d_h30_
      rw [e50] at F
      have FD : FreeP (HdS (D.1 (50, 0, 0)) v.toInt.toNat) (D.1 (50, 0, 0) (181 + 9 * v.toInt.toNat)).toInt (D.1 (50, 0, 0) (182 + 9 * v.toInt.toNat)).toInt d_v5_65.toInt := ⟨F.1, by omega, F.2, Or.inl (by omega)⟩
      rcases Y3 with Y3 | Y3
      · rw [FreeP_uniq Y3.2 FD] at TC
        rw [c_hr_, d_hr_]
        exact i32e (TriP_uniq TC TD)
      · omega
    · obtain rfl : d_j16_ = 181 + 9 * v.toInt.toNat := by omega
      obtain rfl : d_j28_ = 182 + 9 * v.toInt.toNat := by omega
      have qd_hs5_ := is2x d_hs5_
      have yd_e15_ := eT d_e15_
      have yd_e27_ := eT d_e27_
      have yrd_ := eT d_hr_
      have hv : 0 ≤ v.toInt ∧ v.toInt < nWa (D.1 (50, 0, 0)) := by unfold nWa; omega
      obtain rfl : d_j16_ = 181 + 9 * v.toInt.toNat := by omega
      obtain rfl : d_j28_ = 182 + 9 * v.toInt.toNat := by omega
      subst d_e15_ d_e27_
      have hX : ∀ w, w < 3 → ∀ i : Nat, (i : Int) < (D.1 (50, 0, 0) (345 + 50 * w)).toInt → cOK (nnU w) (D.1 (50, 0, 0) (346 + 50 * w + i)) := fun w hw i hi => ((hR.1.2.2.2.1 w hw).2 i hi).2
      obtain ⟨y, Y1, Y2, Y3⟩ := x10sure c_hs14_ hR.1 hD.2.1 hv
      have E2 := x12heard d_hs38_ hR.1.2.2.2.2.1 hD hX hv d_h18_ d_h30_ (Or.inr ⟨hu, rfl⟩)
      have ey := HyP_uniq Y1 E2
      have e50 : d_M32_.1 (50, 0, 0) = D.1 (50, 0, 0) := funext fun k => d_hF36_ _ _ (by simp [S_c_X12_heardFrom])
      have TC : TriP c_r7_.toInt c_v3_28.toInt := ⟨(triC c_hL_28).1, (triC c_hL_28).2.1, (triC c_hL_28).2.2, Or.inr (by rw [← tri_ ⟨(triC c_hL_28).1, c_h16_⟩ c_h18_ c_h20_ c_h22_ c_h24_]; exact c_h25_)⟩
      have TD : TriP d_v5_65.toInt d_v6_113.toInt := ⟨(triDc d_hL_113).1, (triDc d_hL_113).2.1, (triDc d_hL_113).2.2, Or.inl (by have := (triDc d_hL_113).2.1; omega)⟩
      have F := x12fr d_hL_65 (by omega) d_h18_ d_h30_
      rw [e50] at F
      have c1 := on_spec d_h75_.1 d_h18_ d_h30_ (by omega)
      rw [d_h71_] at c1
      have FD : FreeP (HdS (D.1 (50, 0, 0)) v.toInt.toNat) (D.1 (50, 0, 0) (181 + 9 * v.toInt.toNat)).toInt (D.1 (50, 0, 0) (182 + 9 * v.toInt.toNat)).toInt d_v5_65.toInt := ⟨F.1, by omega, F.2, Or.inr (fun q => by rw [← c1] at q; omega)⟩
      rcases Y3 with Y3 | Y3
      · rw [FreeP_uniq Y3.2 FD] at TC
        rw [c_hr_, d_hr_]
        exact i32e (TriP_uniq TC TD)
      · omega
    · obtain rfl : d_j16_ = 181 + 9 * v.toInt.toNat := by omega
      obtain rfl : d_j28_ = 182 + 9 * v.toInt.toNat := by omega
      have qd_hs5_ := is2x d_hs5_
      have yd_e15_ := eT d_e15_
      have yd_e27_ := eT d_e27_
      have yrd_ := eT d_hr_
      have hv : 0 ≤ v.toInt ∧ v.toInt < nWa (D.1 (50, 0, 0)) := by unfold nWa; omega
      obtain rfl : d_j16_ = 181 + 9 * v.toInt.toNat := by omega
      obtain rfl : d_j28_ = 182 + 9 * v.toInt.toNat := by omega
      subst d_e15_ d_e27_
      have hX : ∀ w, w < 3 → ∀ i : Nat, (i : Int) < (D.1 (50, 0, 0) (345 + 50 * w)).toInt → cOK (nnU w) (D.1 (50, 0, 0) (346 + 50 * w + i)) := fun w hw i hi => ((hR.1.2.2.2.1 w hw).2 i hi).2
      obtain ⟨y, Y1, Y2, Y3⟩ := x10sure c_hs14_ hR.1 hD.2.1 hv
      have E2 := x12heard d_hs38_ hR.1.2.2.2.2.1 hD hX hv d_h18_ d_h30_ (Or.inr ⟨hu, rfl⟩)
      have ey := HyP_uniq Y1 E2
      have e50 : d_M32_.1 (50, 0, 0) = D.1 (50, 0, 0) := funext fun k => d_hF36_ _ _ (by simp [S_c_X12_heardFrom])
      have TC : TriP c_r7_.toInt c_v3_28.toInt := ⟨(triC c_hL_28).1, (triC c_hL_28).2.1, (triC c_hL_28).2.2, Or.inr (by rw [← tri_ ⟨(triC c_hL_28).1, c_h16_⟩ c_h18_ c_h20_ c_h22_ c_h24_]; exact c_h25_)⟩
      have TD : TriP d_v5_65.toInt d_v6_113.toInt := ⟨(triDc d_hL_113).1, (triDc d_hL_113).2.1, (triDc d_hL_113).2.2, Or.inr (by rw [← tri_ ⟨(triDc d_hL_113).1, d_h79_⟩ d_h81_ d_h83_ d_h85_ d_h87_]; exact d_h88_)⟩
      have F := x12fr d_hL_65 (by omega) d_h18_ d_h30_
      rw [e50] at F
      have c1 := on_spec d_h75_.1 d_h18_ d_h30_ (by omega)
      rw [d_h71_] at c1
      have FD : FreeP (HdS (D.1 (50, 0, 0)) v.toInt.toNat) (D.1 (50, 0, 0) (181 + 9 * v.toInt.toNat)).toInt (D.1 (50, 0, 0) (182 + 9 * v.toInt.toNat)).toInt d_v5_65.toInt := ⟨F.1, by omega, F.2, Or.inr (fun q => by rw [← c1] at q; omega)⟩
      rcases Y3 with Y3 | Y3
      · rw [FreeP_uniq Y3.2 FD] at TC
        rw [c_hr_, d_hr_]
        exact i32e (TriP_uniq TC TD)
      · omega
    · obtain rfl : d_j16_ = 181 + 9 * v.toInt.toNat := by omega
      obtain rfl : d_j28_ = 182 + 9 * v.toInt.toNat := by omega
      have qd_hs5_ := is2x d_hs5_
      have yd_e15_ := eT d_e15_
      have yd_e27_ := eT d_e27_
      have yrd_ := eT d_hr_
      have hv : 0 ≤ v.toInt ∧ v.toInt < nWa (D.1 (50, 0, 0)) := by unfold nWa; omega
      obtain rfl : d_j16_ = 181 + 9 * v.toInt.toNat := by omega
      obtain rfl : d_j28_ = 182 + 9 * v.toInt.toNat := by omega
      subst d_e15_ d_e27_
      have hX : ∀ w, w < 3 → ∀ i : Nat, (i : Int) < (D.1 (50, 0, 0) (345 + 50 * w)).toInt → cOK (nnU w) (D.1 (50, 0, 0) (346 + 50 * w + i)) := fun w hw i hi => ((hR.1.2.2.2.1 w hw).2 i hi).2
      obtain ⟨y, Y1, Y2, Y3⟩ := x10sure c_hs14_ hR.1 hD.2.1 hv
      have E2 := x12heard d_hs38_ hR.1.2.2.2.2.1 hD hX hv d_h18_ d_h30_ (Or.inr ⟨hu, rfl⟩)
      have ey := HyP_uniq Y1 E2
      have e50 : d_M32_.1 (50, 0, 0) = D.1 (50, 0, 0) := funext fun k => d_hF36_ _ _ (by simp [S_c_X12_heardFrom])
      have TC : TriP c_r7_.toInt c_v3_28.toInt := ⟨(triC c_hL_28).1, (triC c_hL_28).2.1, (triC c_hL_28).2.2, Or.inr (by rw [← tri_ ⟨(triC c_hL_28).1, c_h16_⟩ c_h18_ c_h20_ c_h22_ c_h24_]; exact c_h25_)⟩
      have TD : TriP d_v5_65.toInt d_v6_113.toInt := ⟨(triDd d_hL_113).1, (triDd d_hL_113).2.1, (triDd d_hL_113).2.2, Or.inl (by have := (triDd d_hL_113).2.1; omega)⟩
      have F := x12fr d_hL_65 (by omega) d_h18_ d_h30_
      rw [e50] at F
      have c1 := on_spec d_h75_.1 d_h18_ d_h30_ (by omega)
      rw [d_h71_] at c1
      have c2 := on_spec d_h96_.1 d_h18_ d_h30_ (by omega)
      rw [d_h92_] at c2
      have hd := x12held d_hs102_ (by omega) (by omega)
      rw [e50] at hd
      have FD : FreeP (HdS (D.1 (50, 0, 0)) v.toInt.toNat) (D.1 (50, 0, 0) (181 + 9 * v.toInt.toNat)).toInt (D.1 (50, 0, 0) (182 + 9 * v.toInt.toNat)).toInt d_v5_65.toInt := ⟨F.1, by omega, F.2, Or.inr (fun q => d_h103_ (by rw [hd, c2]; exact q.2))⟩
      rcases Y3 with Y3 | Y3
      · rw [FreeP_uniq Y3.2 FD] at TC
        rw [c_hr_, d_hr_]
        exact i32e (TriP_uniq TC TD)
      · omega
    · obtain rfl : d_j16_ = 181 + 9 * v.toInt.toNat := by omega
      obtain rfl : d_j28_ = 182 + 9 * v.toInt.toNat := by omega
      have qd_hs5_ := is2x d_hs5_
      have yd_e15_ := eT d_e15_
      have yd_e27_ := eT d_e27_
      have yrd_ := eT d_hr_
      have hv : 0 ≤ v.toInt ∧ v.toInt < nWa (D.1 (50, 0, 0)) := by unfold nWa; omega
      obtain rfl : d_j16_ = 181 + 9 * v.toInt.toNat := by omega
      obtain rfl : d_j28_ = 182 + 9 * v.toInt.toNat := by omega
      subst d_e15_ d_e27_
      have hX : ∀ w, w < 3 → ∀ i : Nat, (i : Int) < (D.1 (50, 0, 0) (345 + 50 * w)).toInt → cOK (nnU w) (D.1 (50, 0, 0) (346 + 50 * w + i)) := fun w hw i hi => ((hR.1.2.2.2.1 w hw).2 i hi).2
      obtain ⟨y, Y1, Y2, Y3⟩ := x10sure c_hs14_ hR.1 hD.2.1 hv
      have E2 := x12heard d_hs38_ hR.1.2.2.2.2.1 hD hX hv d_h18_ d_h30_ (Or.inr ⟨hu, rfl⟩)
      have ey := HyP_uniq Y1 E2
      have e50 : d_M32_.1 (50, 0, 0) = D.1 (50, 0, 0) := funext fun k => d_hF36_ _ _ (by simp [S_c_X12_heardFrom])
      have TC : TriP c_r7_.toInt c_v3_28.toInt := ⟨(triC c_hL_28).1, (triC c_hL_28).2.1, (triC c_hL_28).2.2, Or.inr (by rw [← tri_ ⟨(triC c_hL_28).1, c_h16_⟩ c_h18_ c_h20_ c_h22_ c_h24_]; exact c_h25_)⟩
      have TD : TriP d_v5_65.toInt d_v6_113.toInt := ⟨(triDd d_hL_113).1, (triDd d_hL_113).2.1, (triDd d_hL_113).2.2, Or.inr (by rw [← tri_ ⟨(triDd d_hL_113).1, d_h105_⟩ d_h107_ d_h109_ d_h111_ d_h113_]; exact d_h114_)⟩
      have F := x12fr d_hL_65 (by omega) d_h18_ d_h30_
      rw [e50] at F
      have c1 := on_spec d_h75_.1 d_h18_ d_h30_ (by omega)
      rw [d_h71_] at c1
      have c2 := on_spec d_h96_.1 d_h18_ d_h30_ (by omega)
      rw [d_h92_] at c2
      have hd := x12held d_hs102_ (by omega) (by omega)
      rw [e50] at hd
      have FD : FreeP (HdS (D.1 (50, 0, 0)) v.toInt.toNat) (D.1 (50, 0, 0) (181 + 9 * v.toInt.toNat)).toInt (D.1 (50, 0, 0) (182 + 9 * v.toInt.toNat)).toInt d_v5_65.toInt := ⟨F.1, by omega, F.2, Or.inr (fun q => d_h103_ (by rw [hd, c2]; exact q.2))⟩
      rcases Y3 with Y3 | Y3
      · rw [FreeP_uniq Y3.2 FD] at TC
        rw [c_hr_, d_hr_]
        exact i32e (TriP_uniq TC TD)
      · omega
    · have qd_hs5_ := is2x d_hs5_
      have yrd_ := eT d_hr_
      exfalso; omega
  · have qc_hs5_ := x10has c_hs5_
    have qc_hs36_ := err1 c_hs36_
    have yrc_ := eT c_hr_
    unfold SP_X12_safe at h2
    rcases h2 with (⟨d_hs5_, d_h4_, d_r7_, d_hs11_, d_h10_, d_z12_, d_h13_, d_j16_, d_h17_, d_z14_, d_e15_, d_h18_, d_r19_, d_hs23_, d_h22_, d_z24_, d_h25_, d_j28_, d_h29_, d_z26_, d_e27_, d_h30_, d_M32_, -, d_hF36_, d_r31_, d_hs38_, d_h34_, d_z39_, d_h40_, (⟨d_h41_, d_v6_113, d_hv0_113, d_hv1_113, d_hL_113, (⟨d_h43_, d_hr_, d_hM_⟩ | ⟨d_h43_, d_z44_, d_h45_, d_z46_, d_h47_, d_z48_, d_h49_, d_z50_, d_h51_, d_h52_, d_hr_, d_hM_⟩)⟩ | ⟨d_h41_, d_v5_65, d_hv0_65, d_hv1_65, d_hv2_65, d_hL_65, (⟨d_h56_, d_v6_113, d_hv0_113, d_hv1_113, d_hL_113, (⟨d_h58_, d_hr_, d_hM_⟩ | ⟨d_h58_, d_z59_, d_h60_, d_z61_, d_h62_, d_z63_, d_h64_, d_z65_, d_h66_, d_h67_, d_hr_, d_hM_⟩)⟩ | ⟨d_h56_, d_z70_, d_h71_, d_r72_, d_hs76_, d_h75_, (⟨d_h77_, d_v6_113, d_hv0_113, d_hv1_113, d_hL_113, (⟨d_h79_, d_hr_, d_hM_⟩ | ⟨d_h79_, d_z80_, d_h81_, d_z82_, d_h83_, d_z84_, d_h85_, d_z86_, d_h87_, d_h88_, d_hr_, d_hM_⟩)⟩ | ⟨d_h77_, d_z91_, d_h92_, d_r93_, d_hs97_, d_h96_, d_r98_, d_hs102_, d_h101_, d_h103_, d_v6_113, d_hv0_113, d_hv1_113, d_hL_113, (⟨d_h105_, d_hr_, d_hM_⟩ | ⟨d_h105_, d_z106_, d_h107_, d_z108_, d_h109_, d_z110_, d_h111_, d_z112_, d_h113_, d_h114_, d_hr_, d_hM_⟩)⟩)⟩)⟩)⟩ | ⟨d_hs5_, d_M121_, -, d_hF125_, d_r120_, d_hs127_, d_h123_, d_hr_, d_hM_⟩)
    · obtain rfl : d_j16_ = 181 + 9 * v.toInt.toNat := by omega
      obtain rfl : d_j28_ = 182 + 9 * v.toInt.toNat := by omega
      have qd_hs5_ := is2x d_hs5_
      have yd_e15_ := eT d_e15_
      have yd_e27_ := eT d_e27_
      have yrd_ := eT d_hr_
      exfalso; omega
    · obtain rfl : d_j16_ = 181 + 9 * v.toInt.toNat := by omega
      obtain rfl : d_j28_ = 182 + 9 * v.toInt.toNat := by omega
      have qd_hs5_ := is2x d_hs5_
      have yd_e15_ := eT d_e15_
      have yd_e27_ := eT d_e27_
      have yrd_ := eT d_hr_
      exfalso; omega
    · obtain rfl : d_j16_ = 181 + 9 * v.toInt.toNat := by omega
      obtain rfl : d_j28_ = 182 + 9 * v.toInt.toNat := by omega
      have qd_hs5_ := is2x d_hs5_
      have yd_e15_ := eT d_e15_
      have yd_e27_ := eT d_e27_
      have yrd_ := eT d_hr_
      exfalso; omega
    · obtain rfl : d_j16_ = 181 + 9 * v.toInt.toNat := by omega
      obtain rfl : d_j28_ = 182 + 9 * v.toInt.toNat := by omega
      have qd_hs5_ := is2x d_hs5_
      have yd_e15_ := eT d_e15_
      have yd_e27_ := eT d_e27_
      have yrd_ := eT d_hr_
      exfalso; omega
    · obtain rfl : d_j16_ = 181 + 9 * v.toInt.toNat := by omega
      obtain rfl : d_j28_ = 182 + 9 * v.toInt.toNat := by omega
      have qd_hs5_ := is2x d_hs5_
      have yd_e15_ := eT d_e15_
      have yd_e27_ := eT d_e27_
      have yrd_ := eT d_hr_
      exfalso; omega
    · obtain rfl : d_j16_ = 181 + 9 * v.toInt.toNat := by omega
      obtain rfl : d_j28_ = 182 + 9 * v.toInt.toNat := by omega
      have qd_hs5_ := is2x d_hs5_
      have yd_e15_ := eT d_e15_
      have yd_e27_ := eT d_e27_
      have yrd_ := eT d_hr_
      exfalso; omega
    · obtain rfl : d_j16_ = 181 + 9 * v.toInt.toNat := by omega
      obtain rfl : d_j28_ = 182 + 9 * v.toInt.toNat := by omega
      have qd_hs5_ := is2x d_hs5_
      have yd_e15_ := eT d_e15_
      have yd_e27_ := eT d_e27_
      have yrd_ := eT d_hr_
      exfalso; omega
    · obtain rfl : d_j16_ = 181 + 9 * v.toInt.toNat := by omega
      obtain rfl : d_j28_ = 182 + 9 * v.toInt.toNat := by omega
      have qd_hs5_ := is2x d_hs5_
      have yd_e15_ := eT d_e15_
      have yd_e27_ := eT d_e27_
      have yrd_ := eT d_hr_
      exfalso; omega
    · have qd_hs5_ := is2x d_hs5_
      have yrd_ := eT d_hr_
      exact i32e (by omega)
end
section
/-! the least click, the farthest yard -/
def LeP (P : Int → Prop) (B r : Int) : Prop := (1 ≤ r ∧ r ≤ B ∧ (∀ j : Int, 1 ≤ j → j < r → ¬ P j) ∧ P r) ∨ (r = 0 ∧ ∀ j : Int, 1 ≤ j → j ≤ B → ¬ P j)
theorem LeP_uniq {P : Int → Prop} {B y z : Int} (h : LeP P B y) (g : LeP P B z) : y = z := by
  rcases h with ⟨h1, h2, h3, h4⟩ | ⟨h1, h2⟩ <;> rcases g with ⟨g1, g2, g3, g4⟩ | ⟨g1, g2⟩
  · rcases Int.lt_trichotomy y z with e | e | e
    · exact absurd h4 (g3 y h1 e)
    · exact e
    · exact absurd g4 (h3 z g1 e)
  · exact absurd h4 (g2 y h1 h2)
  · exact absurd g4 (h2 z g1 g2)
  · rw [h1, g1]
def FaP (P : Int → Prop) (R r : Int) : Prop := (1 ≤ r ∧ r ≤ R ∧ (∀ j : Int, r < j → j ≤ R → ¬ P j) ∧ P r) ∨ (r = 0 ∧ ∀ j : Int, 1 ≤ j → j ≤ R → ¬ P j)
theorem FaP_uniq {P : Int → Prop} {B y z : Int} (h : FaP P B y) (g : FaP P B z) : y = z := by
  rcases h with ⟨h1, h2, h3, h4⟩ | ⟨h1, h2⟩ <;> rcases g with ⟨g1, g2, g3, g4⟩ | ⟨g1, g2⟩
  · rcases Int.lt_trichotomy y z with e | e | e
    · exact absurd g4 (h3 z e g2)
    · exact e
    · exact absurd h4 (g3 y e h2)
  · exact absurd h4 (g2 y h1 h2)
  · exact absurd g4 (h2 z g1 g2)
  · rw [h1, g1]
theorem ofT (x : Int32) : x = Int32.ofInt x.toInt := (Int32.ofInt_toInt x).symm
/-- heard, of a pitch and a loudness as numbers -/
def hePL (n : Nat → Int32) (ears k : Int) (y : Int32) (p l : Int) : Prop := heS n ears k.toNat (Int32.ofInt p) (Int32.ofInt l) 0 y
theorem hePL_of {n : Nat → Int32} {ears k : Int} {y p l : Int32} : heS n ears k.toNat p l 0 y ↔ hePL n ears k y p.toInt l.toInt := by
  unfold hePL
  rw [← ofT, ← ofT]
theorem x2hePL {b : Nat} {v u t s : Int32} {M M' : mM} {r : Int32} {n : Nat → Int32} {p l : Int} (h : SP_X2_hears b v u t s 0 M r M') (hR : WRR b M.1 n) (hN : NW5 n) (hu : 0 ≤ u.toInt ∧ u.toInt ≤ 4) (hs : 0 ≤ s.toInt ∧ s.toInt ≤ 16) (ht : t.toInt = 100 * p + l) (hp : 0 ≤ p ∧ p ≤ 9) (hl : 0 ≤ l ∧ l ≤ 99) : (r.toInt = 1 ∧ hePL n v.toInt u.toInt s p l) ∨ (r.toInt = 0 ∧ ¬ hePL n v.toInt u.toInt s p l) := by
  have q0 := il_0
  have i100 : (100 : Int32).toInt = 100 := by decide
  have H := x2hears h hR.1 hR.2.2.2.1 hN.2 hu hs (by omega)
  have a : (t / (100 : Int32)).toInt = p := by
    have := divI (x := t) (y := (100 : Int32)) rfl i100 (by omega) (by omega)
    omega
  have c : (t - t / (100 : Int32) * (100 : Int32)).toInt = l := by
    have := remI (x := t) (y := (100 : Int32)) rfl i100 (by omega) (by omega)
    omega
  rw [hePL_of, a, c] at H
  exact H
theorem x12hePL {q v u t p : Int32} {M M' : mM} {r : Int32} (h : SP_X12_isHeard q v u t 0 p M r M') (hD : InvD M) (hx : ∀ w, w < 3 → ∀ i : Nat, (i : Int) < (M.1 (50, 0, 0) (345 + 50 * w)).toInt → cOK (nnU w) (M.1 (50, 0, 0) (346 + 50 * w + i))) (hv : 0 ≤ v.toInt ∧ v.toInt ≤ 4) (hp : 0 ≤ p.toInt ∧ p.toInt ≤ 16) : (r.toInt = 1 ∧ hePL (M.1 (50, 0, 0)) q.toInt v.toInt p u.toInt t.toInt) ∨ (r.toInt = 0 ∧ ¬ hePL (M.1 (50, 0, 0)) q.toInt v.toInt p u.toInt t.toInt) := by
  have q0 := il_0
  have H := x12isHeard h hD hx hv (by omega) hp
  rw [hePL_of] at H
  exact H
theorem x2leP {b : Nat} {v u t : Int32} {M M' : mM} {r : Int32} {n : Nat → Int32} (h : SP_X2_leastPitch b v u t M r M') (hR : WRR b M.1 n) (hN : NW5 n) (hv : 0 ≤ v.toInt ∧ v.toInt ≤ 9) (hu : 0 ≤ u.toInt ∧ u.toInt ≤ 4) (ht : 0 ≤ t.toInt ∧ t.toInt ≤ 16) : LeP (fun j => hePL n v.toInt u.toInt t j 99) 9 r.toInt := by
  have q0 := il_0
  have q1 := il_1
  have wr : ∀ M2 : mM, FR (S_c_X2_leastPitch b) M M2 → WRR b M2.1 n := fun M2 hF => WRR_q hR hN (fun c k a d => hF c k (fun q => by simp only [S_c_X2_leastPitch, or_false] at q; omega))
  unfold SP_X2_leastPitch at h
  rcases h with ⟨v4_3, hv0_3, hv1_3, M_3, hL_3, -, hF_3, (⟨h2_, hr_, hM_⟩ | ⟨h2_, z3_, h4_, z5_, h6_, M8_, -, hF12_, r7_, hs14_, h10_, h15_, hr_, hM_⟩)⟩
  all_goals
    have g := rind hL_3 (fun x => 1 ≤ x.1.toInt ∧ ∀ j : Int, 1 ≤ j → j < x.1.toInt → ¬ (fun j => hePL n v.toInt u.toInt t j 99) j) ⟨by dsimp only; omega, fun j h1 h2 => by dsimp only at h2; omega⟩ (fun x z hp hst => by
      obtain ⟨x1, x2⟩ := x
      obtain ⟨z1, z2⟩ := z
      (try dsimp only at hp hst ⊢)
      unfold ST_X2_leastPitch_3 at hst
      obtain ⟨p_hv0_3, p_hv1_3, -, p_hF_3, p_h2_, p_z3_, p_h4_, p_z5_, p_h6_, p_M8_, -, p_hF12_, p_r7_, p_hs14_, p_h10_, p_h15_, p_z16_, p_h17_, p_hq_v4_3y, p_hM_⟩ := hst
      have ct : p_z5_.toInt = 100 * x1.toInt + 99 := by omega
      have H := x2hePL (p := x1.toInt) (l := 99) p_hs14_ (wr _ p_hF_3) hN hu ht ct (by omega) (by omega)
      rw [p_hq_v4_3y]
      refine ⟨by omega, fun j h1 h2 => ?_⟩
      by_cases e : j = x1.toInt
      · rw [e]
        rcases H with H | H
        · omega
        · exact H.2
      · exact hp.2 j h1 (by omega))
    (try dsimp only at g)
  · exact Or.inr ⟨by rw [hr_]; exact il_0, fun j h1 h2 => g.2 j h1 (by omega)⟩
  · have ct : z5_.toInt = 100 * v4_3.toInt + 99 := by omega
    have H := x2hePL (p := v4_3.toInt) (l := 99) hs14_ (wr _ hF_3) hN hu ht ct (by omega) (by omega)
    rw [hr_]
    rcases H with H | H
    · exact Or.inl ⟨g.1, by omega, g.2, H.2⟩
    · omega
theorem x2leL {b : Nat} {v u t : Int32} {M M' : mM} {r : Int32} {n : Nat → Int32} (h : SP_X2_leastLoudness b v u t M r M') (hR : WRR b M.1 n) (hN : NW5 n) (hv : 0 ≤ v.toInt ∧ v.toInt ≤ 9) (hu : 0 ≤ u.toInt ∧ u.toInt ≤ 4) (ht : 0 ≤ t.toInt ∧ t.toInt ≤ 16) : LeP (fun j => hePL n v.toInt u.toInt t (if v.toInt ≤ 9 then v.toInt else 9) j) 99 r.toInt := by
  have q0 := il_0
  have q1 := il_1
  have wr : ∀ M2 : mM, FR (S_c_X2_leastLoudness b) M M2 → WRR b M2.1 n := fun M2 hF => WRR_q hR hN (fun c k a d => hF c k (fun q => by simp only [S_c_X2_leastLoudness, or_false] at q; omega))
  unfold SP_X2_leastLoudness at h
  rcases h with ⟨v4_3, hv0_3, hv1_3, M_3, hL_3, -, hF_3, (⟨h2_, hr_, hM_⟩ | ⟨h2_, z3_, h4_, z5_, h6_, z7_, h8_, M10_, -, hF14_, r9_, hs16_, h12_, h17_, hr_, hM_⟩)⟩
  all_goals
    have g := rind hL_3 (fun x => 1 ≤ x.1.toInt ∧ ∀ j : Int, 1 ≤ j → j < x.1.toInt → ¬ (fun j => hePL n v.toInt u.toInt t (if v.toInt ≤ 9 then v.toInt else 9) j) j) ⟨by dsimp only; omega, fun j h1 h2 => by dsimp only at h2; omega⟩ (fun x z hp hst => by
      obtain ⟨x1, x2⟩ := x
      obtain ⟨z1, z2⟩ := z
      (try dsimp only at hp hst ⊢)
      unfold ST_X2_leastLoudness_3 at hst
      obtain ⟨p_hv0_3, p_hv1_3, -, p_hF_3, p_h2_, p_z3_, p_h4_, p_z5_, p_h6_, p_z7_, p_h8_, p_M10_, -, p_hF14_, p_r9_, p_hs16_, p_h12_, p_h17_, p_z18_, p_h19_, p_hq_v4_3y, p_hM_⟩ := hst
      have i100 : (100 : Int32).toInt = 100 := by decide
      have z3e : p_z3_.toInt = (if v.toInt ≤ 9 then v.toInt else 9) := by rw [if_pos hv.2]; omega
      have m5 : p_z5_.toInt = 100 * p_z3_.toInt := by rw [p_h6_]; exact mulI i100 rfl (by omega) (by omega)
      have m7 : p_z7_.toInt = p_z5_.toInt + x1.toInt := by rw [p_h8_]; exact addI rfl rfl (by omega) (by omega)
      have ct : p_z7_.toInt = 100 * (if v.toInt ≤ 9 then v.toInt else 9) + x1.toInt := by rw [← z3e]; omega
      have zb : 0 ≤ (if v.toInt ≤ 9 then v.toInt else 9) ∧ (if v.toInt ≤ 9 then v.toInt else 9) ≤ 9 := by rw [if_pos hv.2]; exact hv
      have H := x2hePL (p := (if v.toInt ≤ 9 then v.toInt else 9)) (l := x1.toInt) p_hs16_ (wr _ p_hF_3) hN hu ht ct zb (by omega)
      rw [p_hq_v4_3y]
      refine ⟨by omega, fun j h1 h2 => ?_⟩
      by_cases e : j = x1.toInt
      · rw [e]
        rcases H with H | H
        · omega
        · exact H.2
      · exact hp.2 j h1 (by omega))
    (try dsimp only at g)
  · exact Or.inr ⟨by rw [hr_]; exact il_0, fun j h1 h2 => g.2 j h1 (by omega)⟩
  · have i100 : (100 : Int32).toInt = 100 := by decide
    have z3e : z3_.toInt = (if v.toInt ≤ 9 then v.toInt else 9) := by rw [if_pos hv.2]; omega
    have m5 : z5_.toInt = 100 * z3_.toInt := by rw [h6_]; exact mulI i100 rfl (by omega) (by omega)
    have m7 : z7_.toInt = z5_.toInt + v4_3.toInt := by rw [h8_]; exact addI rfl rfl (by omega) (by omega)
    have ct : z7_.toInt = 100 * (if v.toInt ≤ 9 then v.toInt else 9) + v4_3.toInt := by rw [← z3e]; omega
    have zb : 0 ≤ (if v.toInt ≤ 9 then v.toInt else 9) ∧ (if v.toInt ≤ 9 then v.toInt else 9) ≤ 9 := by rw [if_pos hv.2]; exact hv
    have H := x2hePL (p := (if v.toInt ≤ 9 then v.toInt else 9)) (l := v4_3.toInt) hs16_ (wr _ hF_3) hN hu ht ct zb (by omega)
    rw [hr_]
    rcases H with H | H
    · exact Or.inl ⟨g.1, by omega, g.2, H.2⟩
    · omega
theorem x12leL {v u t s x : Int32} {D D2 : mM} (h : RCH (fun x_ y_ : Int32 × mM => ST_X12_least_57 v u t s D x_.1 x_.2 y_.1 y_.2) ((1 : Int32), D) (x, D2)) (hX : ∀ w, w < 3 → ∀ i : Nat, (i : Int) < (D.1 (50, 0, 0) (345 + 50 * w)).toInt → cOK (nnU w) (D.1 (50, 0, 0) (346 + 50 * w + i))) (hv : 0 ≤ v.toInt ∧ v.toInt ≤ 7) (hu : 0 ≤ u.toInt ∧ u.toInt ≤ 4) (ht : 0 ≤ t.toInt ∧ t.toInt ≤ 16) : 1 ≤ x.toInt ∧ (s.toInt = 0 → x.toInt ≤ 10) ∧ (¬ s.toInt = 0 → x.toInt ≤ 100) ∧ ∀ j : Int, 1 ≤ j → j < x.toInt → (s.toInt = 0 → ¬ hePL (D.1 (50, 0, 0)) (earsI (D.1 (50, 0, 0) (180 + 9 * v.toInt.toNat)).toInt) u.toInt t j 99) ∧ (¬ s.toInt = 0 → ¬ hePL (D.1 (50, 0, 0)) (earsI (D.1 (50, 0, 0) (180 + 9 * v.toInt.toNat)).toInt) u.toInt t (if earsI (D.1 (50, 0, 0) (180 + 9 * v.toInt.toNat)).toInt ≤ 9 then earsI (D.1 (50, 0, 0) (180 + 9 * v.toInt.toNat)).toInt else 9) j) := by
  have q0 := il_0
  have q1 := il_1
  have i99 : (99 : Int32).toInt = 99 := by decide
  refine rind h (fun x : Int32 × mM => 1 ≤ x.1.toInt ∧ (s.toInt = 0 → x.1.toInt ≤ 10) ∧ (¬ s.toInt = 0 → x.1.toInt ≤ 100) ∧ ∀ j : Int, 1 ≤ j → j < x.1.toInt → (s.toInt = 0 → ¬ hePL (D.1 (50, 0, 0)) (earsI (D.1 (50, 0, 0) (180 + 9 * v.toInt.toNat)).toInt) u.toInt t j 99) ∧ (¬ s.toInt = 0 → ¬ hePL (D.1 (50, 0, 0)) (earsI (D.1 (50, 0, 0) (180 + 9 * v.toInt.toNat)).toInt) u.toInt t (if earsI (D.1 (50, 0, 0) (180 + 9 * v.toInt.toNat)).toInt ≤ 9 then earsI (D.1 (50, 0, 0) (180 + 9 * v.toInt.toNat)).toInt else 9) j)) ⟨by dsimp only; omega, fun _ => by dsimp only; omega, fun _ => by dsimp only; omega, fun j h1 h2 => by dsimp only at h2; omega⟩ (fun x z hp hst => ?_)
  obtain ⟨x1, x2⟩ := x
  obtain ⟨z1, z2⟩ := z
  (try dsimp only at hp hst ⊢)
  unfold ST_X12_least_57 at hst
  rcases hst with ⟨p_hv0_57, p_hI_57, p_hF_57, (⟨p_h40_, p_h41_, p_r50_, p_hs54_, p_h53_, p_h55_, p_r56_, p_hs60_, p_h59_, p_z61_, p_h62_, p_h63_, p_M65_, -, p_hF69_, p_r64_, p_hs71_, p_h67_, p_h72_, p_z73_, p_h74_, p_hq_v5_57y, p_hM_⟩ | ⟨p_h40_, p_h75_, p_r84_, p_hs88_, p_h87_, p_h89_, p_h90_, p_M92_, -, p_hF96_, p_r91_, p_hs98_, p_h94_, p_h99_, p_z100_, p_h101_, p_hq_v5_57y, p_hM_⟩)⟩
  · have e50 : x2.1 (50, 0, 0) = D.1 (50, 0, 0) := funext fun k => p_hF_57 _ _ (by simp [S_c_X12_least])
    have E1 := x12ears p_hs54_ hv
    have E2 := x12ears p_hs60_ hv
    rw [e50] at E1 E2
    have H := x12hePL p_hs71_ p_hI_57 (by rw [e50]; exact hX) hu ht
    have z61 : p_z61_.toInt = (if earsI (D.1 (50, 0, 0) (180 + 9 * v.toInt.toNat)).toInt ≤ 9 then earsI (D.1 (50, 0, 0) (180 + 9 * v.toInt.toNat)).toInt else 9) := by split <;> omega
    rw [e50, E1, z61] at H
    rw [p_hq_v5_57y]
    refine ⟨by omega, fun q => absurd q p_h40_, fun _ => by omega, fun j h1 h2 => ⟨fun q => absurd q p_h40_, fun _ => ?_⟩⟩
    by_cases e : j = x1.toInt
    · rw [e]
      rcases H with H | H
      · omega
      · exact H.2
    · exact (hp.2.2.2 j h1 (by omega)).2 p_h40_
  · have e50 : x2.1 (50, 0, 0) = D.1 (50, 0, 0) := funext fun k => p_hF_57 _ _ (by simp [S_c_X12_least])
    have E1 := x12ears p_hs88_ hv
    rw [e50] at E1
    have H := x12hePL p_hs98_ p_hI_57 (by rw [e50]; exact hX) hu ht
    rw [e50, E1, i99] at H
    rw [p_hq_v5_57y]
    refine ⟨by omega, fun _ => by omega, fun q => absurd p_h40_ q, fun j h1 h2 => ⟨fun _ => ?_, fun q => absurd p_h40_ q⟩⟩
    by_cases e : j = x1.toInt
    · rw [e]
      rcases H with H | H
      · omega
      · exact H.2
    · exact (hp.2.2.2 j h1 (by omega)).1 p_h40_
theorem an_21 {v : Int32} {u : Int32} {t : Int32} {s : Int32} {M M1 D D2 : mM} {r1 r2 : Int32} (h1 : SP_X11_least v u t s M r1 M1) (h2 : SP_X12_least v u t s D r2 D2) (hR : RW 0 M.1 (D.1 (50, 0, 0))) (hD : InvD D) (hu : (D.1 (12, 0, 0) 7).toInt = -1) : r1 = r2 := by
  have q0 := il_0
  have q1 := il_1
  have bT := eT hR.1.2.1.1
  have bW := eT hR.1.2.2.1.1
  have nT := nTh_b hD.2.1
  have nW := nWa_b hD.2.1
  unfold nTh at nT
  unfold nWa at nW
  unfold SP_X11_least at h1
  rcases h1 with (⟨c_hs5_, c_h4_, (⟨c_hs11_, c_h10_, (⟨c_hs17_, c_h16_, (⟨c_hs23_, c_h22_, c_j25_, c_h26_, c_h27_, c_r28_, c_hs32_, c_h31_, (⟨c_h33_, (⟨c_h34_, c_r35_, c_hs39_, c_h38_, c_M41_, -, c_hF45_, c_r40_, c_hs47_, (⟨c_h48_, c_hr_, c_hM_⟩ | ⟨c_h48_, c_M50_, -, c_hF54_, c_r49_, c_hs56_, c_hr_, c_hM_⟩)⟩ | ⟨c_h34_, c_r57_, c_hs61_, c_h60_, c_M63_, -, c_hF67_, c_r62_, c_hs69_, (⟨c_h70_, c_hr_, c_hM_⟩ | ⟨c_h70_, c_M72_, -, c_hF76_, c_r71_, c_hs78_, c_hr_, c_hM_⟩)⟩)⟩ | ⟨c_h33_, c_M80_, -, c_hF84_, c_r79_, c_hs86_, c_hr_, c_hM_⟩)⟩ | ⟨c_hs23_, c_h22_, c_M89_, -, c_hF93_, c_r88_, c_hs95_, c_hr_, c_hM_⟩)⟩ | ⟨c_hs17_, c_h16_, c_M98_, -, c_hF102_, c_r97_, c_hs104_, c_hr_, c_hM_⟩)⟩ | ⟨c_hs11_, c_h10_, c_M107_, -, c_hF111_, c_r106_, c_hs113_, c_hr_, c_hM_⟩)⟩ | ⟨c_hs5_, c_M116_, -, c_hF120_, c_r115_, c_hs122_, c_hr_, c_hM_⟩)
  · obtain rfl : c_j25_ = v.toInt.toNat := by omega
    have qc_hs5_ := x10has c_hs5_
    have yrc_ := eT c_hr_
    unfold SP_X12_least at h2
    rcases h2 with (⟨d_hs5_, d_h4_, (⟨d_hs11_, d_h10_, (⟨d_hs17_, d_h16_, (⟨d_hs23_, d_h22_, d_r25_, d_hs29_, d_h28_, (⟨d_h30_, d_M32_, -, d_hF36_, d_r31_, d_hs38_, d_h34_, d_hr_, d_hM_⟩ | ⟨d_h30_, d_v5_57, d_hv0_57, d_M_57, d_hL_57, d_hI_57, d_hF_57, (⟨d_h40_, (⟨d_h41_, d_M43_, -, d_hF47_, d_r42_, d_hs49_, d_h45_, d_hr_, d_hM_⟩ | ⟨d_h41_, d_r50_, d_hs54_, d_h53_, d_h55_, d_r56_, d_hs60_, d_h59_, d_z61_, d_h62_, d_h63_, d_M65_, -, d_hF69_, d_r64_, d_hs71_, d_h67_, d_h72_, d_hr_, d_hM_⟩)⟩ | ⟨d_h40_, (⟨d_h75_, d_M77_, -, d_hF81_, d_r76_, d_hs83_, d_h79_, d_hr_, d_hM_⟩ | ⟨d_h75_, d_r84_, d_hs88_, d_h87_, d_h89_, d_h90_, d_M92_, -, d_hF96_, d_r91_, d_hs98_, d_h94_, d_h99_, d_hr_, d_hM_⟩)⟩)⟩)⟩ | ⟨d_hs23_, d_h22_, d_M104_, -, d_hF108_, d_r103_, d_hs110_, d_h106_, d_hr_, d_hM_⟩)⟩ | ⟨d_hs17_, d_h16_, d_M113_, -, d_hF117_, d_r112_, d_hs119_, d_h115_, d_hr_, d_hM_⟩)⟩ | ⟨d_hs11_, d_h10_, d_M122_, -, d_hF126_, d_r121_, d_hs128_, d_h124_, d_hr_, d_hM_⟩)⟩ | ⟨d_hs5_, d_M131_, -, d_hF135_, d_r130_, d_hs137_, d_h133_, d_hr_, d_hM_⟩)
    · have qd_hs5_ := is2x d_hs5_
      have yrd_ := eT d_hr_
      have hv : 0 ≤ v.toInt ∧ v.toInt < nWa (D.1 (50, 0, 0)) := by unfold nWa; omega
      have kb := ((hD.2.1.1 (180 + 9 * v.toInt.toNat)).2.2.2.2.2.2.2 (by omega) (by omega)).1 (by omega)
      have g0 : M.1 (9, 0, v.toInt.toNat) 0 = D.1 (50, 0, 0) (180 + 9 * v.toInt.toNat) := (hR.1.2.2.1.2 v.toInt.toNat (by omega)).1 0 (by omega)
      have rC := x9reach c_hs32_ (by rw [g0]; exact kb)
      rw [g0] at rC
      have rD := x12reach d_hs29_ (by omega)
      exfalso; omega
    · have qd_hs5_ := is2x d_hs5_
      have yrd_ := eT d_hr_
      have hv : 0 ≤ v.toInt ∧ v.toInt < nWa (D.1 (50, 0, 0)) := by unfold nWa; omega
      have kb := ((hD.2.1.1 (180 + 9 * v.toInt.toNat)).2.2.2.2.2.2.2 (by omega) (by omega)).1 (by omega)
      have g0 : M.1 (9, 0, v.toInt.toNat) 0 = D.1 (50, 0, 0) (180 + 9 * v.toInt.toNat) := (hR.1.2.2.1.2 v.toInt.toNat (by omega)).1 0 (by omega)
      have rC := x9reach c_hs32_ (by rw [g0]; exact kb)
      rw [g0] at rC
      have rD := x12reach d_hs29_ (by omega)
      have hX : ∀ w, w < 3 → ∀ i : Nat, (i : Int) < (D.1 (50, 0, 0) (345 + 50 * w)).toInt → cOK (nnU w) (D.1 (50, 0, 0) (346 + 50 * w + i)) := fun w hw i hi => ((hR.1.2.2.2.1 w hw).2 i hi).2
      have eC := x9ears c_hs39_ (by rw [g0]; exact kb)
      rw [g0] at eC
      have LC := x2leL c_hs47_ hR.1 hD.2.1 (by omega) (by omega) (by omega)
      rw [eC] at LC
      have LD := x12leL d_hL_57 hX (by omega) (by omega) (by omega)
      have TD : LeP (fun j => hePL (D.1 (50, 0, 0)) (earsI (D.1 (50, 0, 0) (180 + 9 * v.toInt.toNat)).toInt) u.toInt t (if earsI (D.1 (50, 0, 0) (180 + 9 * v.toInt.toNat)).toInt ≤ 9 then earsI (D.1 (50, 0, 0) (180 + 9 * v.toInt.toNat)).toInt else 9) j) 99 0 := Or.inr ⟨rfl, fun j h1 h2 => (LD.2.2.2 j h1 (by omega)).2 d_h40_⟩
      have ee := LeP_uniq LC TD
      exfalso; omega
    · have qd_hs5_ := is2x d_hs5_
      have yrd_ := eT d_hr_
      have hv : 0 ≤ v.toInt ∧ v.toInt < nWa (D.1 (50, 0, 0)) := by unfold nWa; omega
      have kb := ((hD.2.1.1 (180 + 9 * v.toInt.toNat)).2.2.2.2.2.2.2 (by omega) (by omega)).1 (by omega)
      have g0 : M.1 (9, 0, v.toInt.toNat) 0 = D.1 (50, 0, 0) (180 + 9 * v.toInt.toNat) := (hR.1.2.2.1.2 v.toInt.toNat (by omega)).1 0 (by omega)
      have rC := x9reach c_hs32_ (by rw [g0]; exact kb)
      rw [g0] at rC
      have rD := x12reach d_hs29_ (by omega)
      have hX : ∀ w, w < 3 → ∀ i : Nat, (i : Int) < (D.1 (50, 0, 0) (345 + 50 * w)).toInt → cOK (nnU w) (D.1 (50, 0, 0) (346 + 50 * w + i)) := fun w hw i hi => ((hR.1.2.2.2.1 w hw).2 i hi).2
      have eC := x9ears c_hs39_ (by rw [g0]; exact kb)
      rw [g0] at eC
      have LC := x2leL c_hs47_ hR.1 hD.2.1 (by omega) (by omega) (by omega)
      rw [eC] at LC
      have LD := x12leL d_hL_57 hX (by omega) (by omega) (by omega)
      have e50 : d_M_57.1 (50, 0, 0) = D.1 (50, 0, 0) := funext fun k => d_hF_57 _ _ (by simp [S_c_X12_least])
      have H := x12hePL d_hs71_ d_hI_57 (by rw [e50]; exact hX) (by omega) (by omega)
      have E0 := x12ears d_hs54_ (by omega)
      have E1 := x12ears d_hs60_ (by omega)
      rw [e50] at E0 E1
      have z61 : d_z61_.toInt = (if earsI (D.1 (50, 0, 0) (180 + 9 * v.toInt.toNat)).toInt ≤ 9 then earsI (D.1 (50, 0, 0) (180 + 9 * v.toInt.toNat)).toInt else 9) := by split <;> omega
      rw [e50, E0, z61] at H
      have TD : LeP (fun j => hePL (D.1 (50, 0, 0)) (earsI (D.1 (50, 0, 0) (180 + 9 * v.toInt.toNat)).toInt) u.toInt t (if earsI (D.1 (50, 0, 0) (180 + 9 * v.toInt.toNat)).toInt ≤ 9 then earsI (D.1 (50, 0, 0) (180 + 9 * v.toInt.toNat)).toInt else 9) j) 99 d_v5_57.toInt := Or.inl ⟨LD.1, by omega, fun j h1 h2 => (LD.2.2.2 j h1 h2).2 d_h40_, (H.resolve_right (fun q => by omega)).2⟩
      have ee := LeP_uniq LC TD
      rw [c_hr_, d_hr_]
      exact i32e ee
    · have qd_hs5_ := is2x d_hs5_
      have yrd_ := eT d_hr_
      have hv : 0 ≤ v.toInt ∧ v.toInt < nWa (D.1 (50, 0, 0)) := by unfold nWa; omega
      have kb := ((hD.2.1.1 (180 + 9 * v.toInt.toNat)).2.2.2.2.2.2.2 (by omega) (by omega)).1 (by omega)
      have g0 : M.1 (9, 0, v.toInt.toNat) 0 = D.1 (50, 0, 0) (180 + 9 * v.toInt.toNat) := (hR.1.2.2.1.2 v.toInt.toNat (by omega)).1 0 (by omega)
      have rC := x9reach c_hs32_ (by rw [g0]; exact kb)
      rw [g0] at rC
      have rD := x12reach d_hs29_ (by omega)
      exfalso; omega
    · have qd_hs5_ := is2x d_hs5_
      have yrd_ := eT d_hr_
      have hv : 0 ≤ v.toInt ∧ v.toInt < nWa (D.1 (50, 0, 0)) := by unfold nWa; omega
      have kb := ((hD.2.1.1 (180 + 9 * v.toInt.toNat)).2.2.2.2.2.2.2 (by omega) (by omega)).1 (by omega)
      have g0 : M.1 (9, 0, v.toInt.toNat) 0 = D.1 (50, 0, 0) (180 + 9 * v.toInt.toNat) := (hR.1.2.2.1.2 v.toInt.toNat (by omega)).1 0 (by omega)
      have rC := x9reach c_hs32_ (by rw [g0]; exact kb)
      rw [g0] at rC
      have rD := x12reach d_hs29_ (by omega)
      exfalso; omega
    · have qd_hs5_ := is2x d_hs5_
      have yrd_ := eT d_hr_
      exfalso; omega
    · have qd_hs5_ := is2x d_hs5_
      have yrd_ := eT d_hr_
      exfalso; omega
    · have qd_hs5_ := is2x d_hs5_
      have yrd_ := eT d_hr_
      exfalso; omega
    · have qd_hs5_ := is2x d_hs5_
      have yrd_ := eT d_hr_
      exfalso; omega
  · obtain rfl : c_j25_ = v.toInt.toNat := by omega
    have qc_hs5_ := x10has c_hs5_
    have qc_hs56_ := err2 c_hs56_
    have yrc_ := eT c_hr_
    unfold SP_X12_least at h2
    rcases h2 with (⟨d_hs5_, d_h4_, (⟨d_hs11_, d_h10_, (⟨d_hs17_, d_h16_, (⟨d_hs23_, d_h22_, d_r25_, d_hs29_, d_h28_, (⟨d_h30_, d_M32_, -, d_hF36_, d_r31_, d_hs38_, d_h34_, d_hr_, d_hM_⟩ | ⟨d_h30_, d_v5_57, d_hv0_57, d_M_57, d_hL_57, d_hI_57, d_hF_57, (⟨d_h40_, (⟨d_h41_, d_M43_, -, d_hF47_, d_r42_, d_hs49_, d_h45_, d_hr_, d_hM_⟩ | ⟨d_h41_, d_r50_, d_hs54_, d_h53_, d_h55_, d_r56_, d_hs60_, d_h59_, d_z61_, d_h62_, d_h63_, d_M65_, -, d_hF69_, d_r64_, d_hs71_, d_h67_, d_h72_, d_hr_, d_hM_⟩)⟩ | ⟨d_h40_, (⟨d_h75_, d_M77_, -, d_hF81_, d_r76_, d_hs83_, d_h79_, d_hr_, d_hM_⟩ | ⟨d_h75_, d_r84_, d_hs88_, d_h87_, d_h89_, d_h90_, d_M92_, -, d_hF96_, d_r91_, d_hs98_, d_h94_, d_h99_, d_hr_, d_hM_⟩)⟩)⟩)⟩ | ⟨d_hs23_, d_h22_, d_M104_, -, d_hF108_, d_r103_, d_hs110_, d_h106_, d_hr_, d_hM_⟩)⟩ | ⟨d_hs17_, d_h16_, d_M113_, -, d_hF117_, d_r112_, d_hs119_, d_h115_, d_hr_, d_hM_⟩)⟩ | ⟨d_hs11_, d_h10_, d_M122_, -, d_hF126_, d_r121_, d_hs128_, d_h124_, d_hr_, d_hM_⟩)⟩ | ⟨d_hs5_, d_M131_, -, d_hF135_, d_r130_, d_hs137_, d_h133_, d_hr_, d_hM_⟩)
    · have qd_hs5_ := is2x d_hs5_
      have yrd_ := eT d_hr_
      have hv : 0 ≤ v.toInt ∧ v.toInt < nWa (D.1 (50, 0, 0)) := by unfold nWa; omega
      have kb := ((hD.2.1.1 (180 + 9 * v.toInt.toNat)).2.2.2.2.2.2.2 (by omega) (by omega)).1 (by omega)
      have g0 : M.1 (9, 0, v.toInt.toNat) 0 = D.1 (50, 0, 0) (180 + 9 * v.toInt.toNat) := (hR.1.2.2.1.2 v.toInt.toNat (by omega)).1 0 (by omega)
      have rC := x9reach c_hs32_ (by rw [g0]; exact kb)
      rw [g0] at rC
      have rD := x12reach d_hs29_ (by omega)
      exfalso; omega
    · have qd_hs5_ := is2x d_hs5_
      have yrd_ := eT d_hr_
      have hv : 0 ≤ v.toInt ∧ v.toInt < nWa (D.1 (50, 0, 0)) := by unfold nWa; omega
      have kb := ((hD.2.1.1 (180 + 9 * v.toInt.toNat)).2.2.2.2.2.2.2 (by omega) (by omega)).1 (by omega)
      have g0 : M.1 (9, 0, v.toInt.toNat) 0 = D.1 (50, 0, 0) (180 + 9 * v.toInt.toNat) := (hR.1.2.2.1.2 v.toInt.toNat (by omega)).1 0 (by omega)
      have rC := x9reach c_hs32_ (by rw [g0]; exact kb)
      rw [g0] at rC
      have rD := x12reach d_hs29_ (by omega)
      have hX : ∀ w, w < 3 → ∀ i : Nat, (i : Int) < (D.1 (50, 0, 0) (345 + 50 * w)).toInt → cOK (nnU w) (D.1 (50, 0, 0) (346 + 50 * w + i)) := fun w hw i hi => ((hR.1.2.2.2.1 w hw).2 i hi).2
      have eC := x9ears c_hs39_ (by rw [g0]; exact kb)
      rw [g0] at eC
      have LC := x2leL c_hs47_ hR.1 hD.2.1 (by omega) (by omega) (by omega)
      rw [eC] at LC
      have LD := x12leL d_hL_57 hX (by omega) (by omega) (by omega)
      have TD : LeP (fun j => hePL (D.1 (50, 0, 0)) (earsI (D.1 (50, 0, 0) (180 + 9 * v.toInt.toNat)).toInt) u.toInt t (if earsI (D.1 (50, 0, 0) (180 + 9 * v.toInt.toNat)).toInt ≤ 9 then earsI (D.1 (50, 0, 0) (180 + 9 * v.toInt.toNat)).toInt else 9) j) 99 0 := Or.inr ⟨rfl, fun j h1 h2 => (LD.2.2.2 j h1 (by omega)).2 d_h40_⟩
      have ee := LeP_uniq LC TD
      exact i32e (by omega)
    · have qd_hs5_ := is2x d_hs5_
      have yrd_ := eT d_hr_
      have hv : 0 ≤ v.toInt ∧ v.toInt < nWa (D.1 (50, 0, 0)) := by unfold nWa; omega
      have kb := ((hD.2.1.1 (180 + 9 * v.toInt.toNat)).2.2.2.2.2.2.2 (by omega) (by omega)).1 (by omega)
      have g0 : M.1 (9, 0, v.toInt.toNat) 0 = D.1 (50, 0, 0) (180 + 9 * v.toInt.toNat) := (hR.1.2.2.1.2 v.toInt.toNat (by omega)).1 0 (by omega)
      have rC := x9reach c_hs32_ (by rw [g0]; exact kb)
      rw [g0] at rC
      have rD := x12reach d_hs29_ (by omega)
      have hX : ∀ w, w < 3 → ∀ i : Nat, (i : Int) < (D.1 (50, 0, 0) (345 + 50 * w)).toInt → cOK (nnU w) (D.1 (50, 0, 0) (346 + 50 * w + i)) := fun w hw i hi => ((hR.1.2.2.2.1 w hw).2 i hi).2
      have eC := x9ears c_hs39_ (by rw [g0]; exact kb)
      rw [g0] at eC
      have LC := x2leL c_hs47_ hR.1 hD.2.1 (by omega) (by omega) (by omega)
      rw [eC] at LC
      have LD := x12leL d_hL_57 hX (by omega) (by omega) (by omega)
      have e50 : d_M_57.1 (50, 0, 0) = D.1 (50, 0, 0) := funext fun k => d_hF_57 _ _ (by simp [S_c_X12_least])
      have H := x12hePL d_hs71_ d_hI_57 (by rw [e50]; exact hX) (by omega) (by omega)
      have E0 := x12ears d_hs54_ (by omega)
      have E1 := x12ears d_hs60_ (by omega)
      rw [e50] at E0 E1
      have z61 : d_z61_.toInt = (if earsI (D.1 (50, 0, 0) (180 + 9 * v.toInt.toNat)).toInt ≤ 9 then earsI (D.1 (50, 0, 0) (180 + 9 * v.toInt.toNat)).toInt else 9) := by split <;> omega
      rw [e50, E0, z61] at H
      have TD : LeP (fun j => hePL (D.1 (50, 0, 0)) (earsI (D.1 (50, 0, 0) (180 + 9 * v.toInt.toNat)).toInt) u.toInt t (if earsI (D.1 (50, 0, 0) (180 + 9 * v.toInt.toNat)).toInt ≤ 9 then earsI (D.1 (50, 0, 0) (180 + 9 * v.toInt.toNat)).toInt else 9) j) 99 d_v5_57.toInt := Or.inl ⟨LD.1, by omega, fun j h1 h2 => (LD.2.2.2 j h1 h2).2 d_h40_, (H.resolve_right (fun q => by omega)).2⟩
      have ee := LeP_uniq LC TD
      exfalso; omega
    · have qd_hs5_ := is2x d_hs5_
      have yrd_ := eT d_hr_
      have hv : 0 ≤ v.toInt ∧ v.toInt < nWa (D.1 (50, 0, 0)) := by unfold nWa; omega
      have kb := ((hD.2.1.1 (180 + 9 * v.toInt.toNat)).2.2.2.2.2.2.2 (by omega) (by omega)).1 (by omega)
      have g0 : M.1 (9, 0, v.toInt.toNat) 0 = D.1 (50, 0, 0) (180 + 9 * v.toInt.toNat) := (hR.1.2.2.1.2 v.toInt.toNat (by omega)).1 0 (by omega)
      have rC := x9reach c_hs32_ (by rw [g0]; exact kb)
      rw [g0] at rC
      have rD := x12reach d_hs29_ (by omega)
      exfalso; omega
    · have qd_hs5_ := is2x d_hs5_
      have yrd_ := eT d_hr_
      have hv : 0 ≤ v.toInt ∧ v.toInt < nWa (D.1 (50, 0, 0)) := by unfold nWa; omega
      have kb := ((hD.2.1.1 (180 + 9 * v.toInt.toNat)).2.2.2.2.2.2.2 (by omega) (by omega)).1 (by omega)
      have g0 : M.1 (9, 0, v.toInt.toNat) 0 = D.1 (50, 0, 0) (180 + 9 * v.toInt.toNat) := (hR.1.2.2.1.2 v.toInt.toNat (by omega)).1 0 (by omega)
      have rC := x9reach c_hs32_ (by rw [g0]; exact kb)
      rw [g0] at rC
      have rD := x12reach d_hs29_ (by omega)
      exfalso; omega
    · have qd_hs5_ := is2x d_hs5_
      have yrd_ := eT d_hr_
      exfalso; omega
    · have qd_hs5_ := is2x d_hs5_
      have yrd_ := eT d_hr_
      exfalso; omega
    · have qd_hs5_ := is2x d_hs5_
      have yrd_ := eT d_hr_
      exfalso; omega
    · have qd_hs5_ := is2x d_hs5_
      have yrd_ := eT d_hr_
      exfalso; omega
  · obtain rfl : c_j25_ = v.toInt.toNat := by omega
    have qc_hs5_ := x10has c_hs5_
    have yrc_ := eT c_hr_
    unfold SP_X12_least at h2
    rcases h2 with (⟨d_hs5_, d_h4_, (⟨d_hs11_, d_h10_, (⟨d_hs17_, d_h16_, (⟨d_hs23_, d_h22_, d_r25_, d_hs29_, d_h28_, (⟨d_h30_, d_M32_, -, d_hF36_, d_r31_, d_hs38_, d_h34_, d_hr_, d_hM_⟩ | ⟨d_h30_, d_v5_57, d_hv0_57, d_M_57, d_hL_57, d_hI_57, d_hF_57, (⟨d_h40_, (⟨d_h41_, d_M43_, -, d_hF47_, d_r42_, d_hs49_, d_h45_, d_hr_, d_hM_⟩ | ⟨d_h41_, d_r50_, d_hs54_, d_h53_, d_h55_, d_r56_, d_hs60_, d_h59_, d_z61_, d_h62_, d_h63_, d_M65_, -, d_hF69_, d_r64_, d_hs71_, d_h67_, d_h72_, d_hr_, d_hM_⟩)⟩ | ⟨d_h40_, (⟨d_h75_, d_M77_, -, d_hF81_, d_r76_, d_hs83_, d_h79_, d_hr_, d_hM_⟩ | ⟨d_h75_, d_r84_, d_hs88_, d_h87_, d_h89_, d_h90_, d_M92_, -, d_hF96_, d_r91_, d_hs98_, d_h94_, d_h99_, d_hr_, d_hM_⟩)⟩)⟩)⟩ | ⟨d_hs23_, d_h22_, d_M104_, -, d_hF108_, d_r103_, d_hs110_, d_h106_, d_hr_, d_hM_⟩)⟩ | ⟨d_hs17_, d_h16_, d_M113_, -, d_hF117_, d_r112_, d_hs119_, d_h115_, d_hr_, d_hM_⟩)⟩ | ⟨d_hs11_, d_h10_, d_M122_, -, d_hF126_, d_r121_, d_hs128_, d_h124_, d_hr_, d_hM_⟩)⟩ | ⟨d_hs5_, d_M131_, -, d_hF135_, d_r130_, d_hs137_, d_h133_, d_hr_, d_hM_⟩)
    · have qd_hs5_ := is2x d_hs5_
      have yrd_ := eT d_hr_
      have hv : 0 ≤ v.toInt ∧ v.toInt < nWa (D.1 (50, 0, 0)) := by unfold nWa; omega
      have kb := ((hD.2.1.1 (180 + 9 * v.toInt.toNat)).2.2.2.2.2.2.2 (by omega) (by omega)).1 (by omega)
      have g0 : M.1 (9, 0, v.toInt.toNat) 0 = D.1 (50, 0, 0) (180 + 9 * v.toInt.toNat) := (hR.1.2.2.1.2 v.toInt.toNat (by omega)).1 0 (by omega)
      have rC := x9reach c_hs32_ (by rw [g0]; exact kb)
      rw [g0] at rC
      have rD := x12reach d_hs29_ (by omega)
      exfalso; omega
    · have qd_hs5_ := is2x d_hs5_
      have yrd_ := eT d_hr_
      have hv : 0 ≤ v.toInt ∧ v.toInt < nWa (D.1 (50, 0, 0)) := by unfold nWa; omega
      have kb := ((hD.2.1.1 (180 + 9 * v.toInt.toNat)).2.2.2.2.2.2.2 (by omega) (by omega)).1 (by omega)
      have g0 : M.1 (9, 0, v.toInt.toNat) 0 = D.1 (50, 0, 0) (180 + 9 * v.toInt.toNat) := (hR.1.2.2.1.2 v.toInt.toNat (by omega)).1 0 (by omega)
      have rC := x9reach c_hs32_ (by rw [g0]; exact kb)
      rw [g0] at rC
      have rD := x12reach d_hs29_ (by omega)
      exfalso; omega
    · have qd_hs5_ := is2x d_hs5_
      have yrd_ := eT d_hr_
      have hv : 0 ≤ v.toInt ∧ v.toInt < nWa (D.1 (50, 0, 0)) := by unfold nWa; omega
      have kb := ((hD.2.1.1 (180 + 9 * v.toInt.toNat)).2.2.2.2.2.2.2 (by omega) (by omega)).1 (by omega)
      have g0 : M.1 (9, 0, v.toInt.toNat) 0 = D.1 (50, 0, 0) (180 + 9 * v.toInt.toNat) := (hR.1.2.2.1.2 v.toInt.toNat (by omega)).1 0 (by omega)
      have rC := x9reach c_hs32_ (by rw [g0]; exact kb)
      rw [g0] at rC
      have rD := x12reach d_hs29_ (by omega)
      exfalso; omega
    · have qd_hs5_ := is2x d_hs5_
      have yrd_ := eT d_hr_
      have hv : 0 ≤ v.toInt ∧ v.toInt < nWa (D.1 (50, 0, 0)) := by unfold nWa; omega
      have kb := ((hD.2.1.1 (180 + 9 * v.toInt.toNat)).2.2.2.2.2.2.2 (by omega) (by omega)).1 (by omega)
      have g0 : M.1 (9, 0, v.toInt.toNat) 0 = D.1 (50, 0, 0) (180 + 9 * v.toInt.toNat) := (hR.1.2.2.1.2 v.toInt.toNat (by omega)).1 0 (by omega)
      have rC := x9reach c_hs32_ (by rw [g0]; exact kb)
      rw [g0] at rC
      have rD := x12reach d_hs29_ (by omega)
      have hX : ∀ w, w < 3 → ∀ i : Nat, (i : Int) < (D.1 (50, 0, 0) (345 + 50 * w)).toInt → cOK (nnU w) (D.1 (50, 0, 0) (346 + 50 * w + i)) := fun w hw i hi => ((hR.1.2.2.2.1 w hw).2 i hi).2
      have eC := x9ears c_hs61_ (by rw [g0]; exact kb)
      rw [g0] at eC
      have LC := x2leP c_hs69_ hR.1 hD.2.1 (by omega) (by omega) (by omega)
      rw [eC] at LC
      have LD := x12leL d_hL_57 hX (by omega) (by omega) (by omega)
      have TD : LeP (fun j => hePL (D.1 (50, 0, 0)) (earsI (D.1 (50, 0, 0) (180 + 9 * v.toInt.toNat)).toInt) u.toInt t j 99) 9 0 := Or.inr ⟨rfl, fun j h1 h2 => (LD.2.2.2 j h1 (by omega)).1 d_h40_⟩
      have ee := LeP_uniq LC TD
      exfalso; omega
    · have qd_hs5_ := is2x d_hs5_
      have yrd_ := eT d_hr_
      have hv : 0 ≤ v.toInt ∧ v.toInt < nWa (D.1 (50, 0, 0)) := by unfold nWa; omega
      have kb := ((hD.2.1.1 (180 + 9 * v.toInt.toNat)).2.2.2.2.2.2.2 (by omega) (by omega)).1 (by omega)
      have g0 : M.1 (9, 0, v.toInt.toNat) 0 = D.1 (50, 0, 0) (180 + 9 * v.toInt.toNat) := (hR.1.2.2.1.2 v.toInt.toNat (by omega)).1 0 (by omega)
      have rC := x9reach c_hs32_ (by rw [g0]; exact kb)
      rw [g0] at rC
      have rD := x12reach d_hs29_ (by omega)
      have hX : ∀ w, w < 3 → ∀ i : Nat, (i : Int) < (D.1 (50, 0, 0) (345 + 50 * w)).toInt → cOK (nnU w) (D.1 (50, 0, 0) (346 + 50 * w + i)) := fun w hw i hi => ((hR.1.2.2.2.1 w hw).2 i hi).2
      have eC := x9ears c_hs61_ (by rw [g0]; exact kb)
      rw [g0] at eC
      have LC := x2leP c_hs69_ hR.1 hD.2.1 (by omega) (by omega) (by omega)
      rw [eC] at LC
      have LD := x12leL d_hL_57 hX (by omega) (by omega) (by omega)
      have e50 : d_M_57.1 (50, 0, 0) = D.1 (50, 0, 0) := funext fun k => d_hF_57 _ _ (by simp [S_c_X12_least])
      have H := x12hePL d_hs98_ d_hI_57 (by rw [e50]; exact hX) (by omega) (by omega)
      have E0 := x12ears d_hs88_ (by omega)
      rw [e50] at E0
      have i99 : (99 : Int32).toInt = 99 := by decide
      rw [e50, E0, i99] at H
      have TD : LeP (fun j => hePL (D.1 (50, 0, 0)) (earsI (D.1 (50, 0, 0) (180 + 9 * v.toInt.toNat)).toInt) u.toInt t j 99) 9 d_v5_57.toInt := Or.inl ⟨LD.1, by omega, fun j h1 h2 => (LD.2.2.2 j h1 h2).1 d_h40_, (H.resolve_right (fun q => by omega)).2⟩
      have ee := LeP_uniq LC TD
      rw [c_hr_, d_hr_]
      exact i32e ee
    · have qd_hs5_ := is2x d_hs5_
      have yrd_ := eT d_hr_
      exfalso; omega
    · have qd_hs5_ := is2x d_hs5_
      have yrd_ := eT d_hr_
      exfalso; omega
    · have qd_hs5_ := is2x d_hs5_
      have yrd_ := eT d_hr_
      exfalso; omega
    · have qd_hs5_ := is2x d_hs5_
      have yrd_ := eT d_hr_
      exfalso; omega
  · obtain rfl : c_j25_ = v.toInt.toNat := by omega
    have qc_hs5_ := x10has c_hs5_
    have qc_hs78_ := err2 c_hs78_
    have yrc_ := eT c_hr_
    unfold SP_X12_least at h2
    rcases h2 with (⟨d_hs5_, d_h4_, (⟨d_hs11_, d_h10_, (⟨d_hs17_, d_h16_, (⟨d_hs23_, d_h22_, d_r25_, d_hs29_, d_h28_, (⟨d_h30_, d_M32_, -, d_hF36_, d_r31_, d_hs38_, d_h34_, d_hr_, d_hM_⟩ | ⟨d_h30_, d_v5_57, d_hv0_57, d_M_57, d_hL_57, d_hI_57, d_hF_57, (⟨d_h40_, (⟨d_h41_, d_M43_, -, d_hF47_, d_r42_, d_hs49_, d_h45_, d_hr_, d_hM_⟩ | ⟨d_h41_, d_r50_, d_hs54_, d_h53_, d_h55_, d_r56_, d_hs60_, d_h59_, d_z61_, d_h62_, d_h63_, d_M65_, -, d_hF69_, d_r64_, d_hs71_, d_h67_, d_h72_, d_hr_, d_hM_⟩)⟩ | ⟨d_h40_, (⟨d_h75_, d_M77_, -, d_hF81_, d_r76_, d_hs83_, d_h79_, d_hr_, d_hM_⟩ | ⟨d_h75_, d_r84_, d_hs88_, d_h87_, d_h89_, d_h90_, d_M92_, -, d_hF96_, d_r91_, d_hs98_, d_h94_, d_h99_, d_hr_, d_hM_⟩)⟩)⟩)⟩ | ⟨d_hs23_, d_h22_, d_M104_, -, d_hF108_, d_r103_, d_hs110_, d_h106_, d_hr_, d_hM_⟩)⟩ | ⟨d_hs17_, d_h16_, d_M113_, -, d_hF117_, d_r112_, d_hs119_, d_h115_, d_hr_, d_hM_⟩)⟩ | ⟨d_hs11_, d_h10_, d_M122_, -, d_hF126_, d_r121_, d_hs128_, d_h124_, d_hr_, d_hM_⟩)⟩ | ⟨d_hs5_, d_M131_, -, d_hF135_, d_r130_, d_hs137_, d_h133_, d_hr_, d_hM_⟩)
    · have qd_hs5_ := is2x d_hs5_
      have yrd_ := eT d_hr_
      have hv : 0 ≤ v.toInt ∧ v.toInt < nWa (D.1 (50, 0, 0)) := by unfold nWa; omega
      have kb := ((hD.2.1.1 (180 + 9 * v.toInt.toNat)).2.2.2.2.2.2.2 (by omega) (by omega)).1 (by omega)
      have g0 : M.1 (9, 0, v.toInt.toNat) 0 = D.1 (50, 0, 0) (180 + 9 * v.toInt.toNat) := (hR.1.2.2.1.2 v.toInt.toNat (by omega)).1 0 (by omega)
      have rC := x9reach c_hs32_ (by rw [g0]; exact kb)
      rw [g0] at rC
      have rD := x12reach d_hs29_ (by omega)
      exfalso; omega
    · have qd_hs5_ := is2x d_hs5_
      have yrd_ := eT d_hr_
      have hv : 0 ≤ v.toInt ∧ v.toInt < nWa (D.1 (50, 0, 0)) := by unfold nWa; omega
      have kb := ((hD.2.1.1 (180 + 9 * v.toInt.toNat)).2.2.2.2.2.2.2 (by omega) (by omega)).1 (by omega)
      have g0 : M.1 (9, 0, v.toInt.toNat) 0 = D.1 (50, 0, 0) (180 + 9 * v.toInt.toNat) := (hR.1.2.2.1.2 v.toInt.toNat (by omega)).1 0 (by omega)
      have rC := x9reach c_hs32_ (by rw [g0]; exact kb)
      rw [g0] at rC
      have rD := x12reach d_hs29_ (by omega)
      exfalso; omega
    · have qd_hs5_ := is2x d_hs5_
      have yrd_ := eT d_hr_
      have hv : 0 ≤ v.toInt ∧ v.toInt < nWa (D.1 (50, 0, 0)) := by unfold nWa; omega
      have kb := ((hD.2.1.1 (180 + 9 * v.toInt.toNat)).2.2.2.2.2.2.2 (by omega) (by omega)).1 (by omega)
      have g0 : M.1 (9, 0, v.toInt.toNat) 0 = D.1 (50, 0, 0) (180 + 9 * v.toInt.toNat) := (hR.1.2.2.1.2 v.toInt.toNat (by omega)).1 0 (by omega)
      have rC := x9reach c_hs32_ (by rw [g0]; exact kb)
      rw [g0] at rC
      have rD := x12reach d_hs29_ (by omega)
      exfalso; omega
    · have qd_hs5_ := is2x d_hs5_
      have yrd_ := eT d_hr_
      have hv : 0 ≤ v.toInt ∧ v.toInt < nWa (D.1 (50, 0, 0)) := by unfold nWa; omega
      have kb := ((hD.2.1.1 (180 + 9 * v.toInt.toNat)).2.2.2.2.2.2.2 (by omega) (by omega)).1 (by omega)
      have g0 : M.1 (9, 0, v.toInt.toNat) 0 = D.1 (50, 0, 0) (180 + 9 * v.toInt.toNat) := (hR.1.2.2.1.2 v.toInt.toNat (by omega)).1 0 (by omega)
      have rC := x9reach c_hs32_ (by rw [g0]; exact kb)
      rw [g0] at rC
      have rD := x12reach d_hs29_ (by omega)
      have hX : ∀ w, w < 3 → ∀ i : Nat, (i : Int) < (D.1 (50, 0, 0) (345 + 50 * w)).toInt → cOK (nnU w) (D.1 (50, 0, 0) (346 + 50 * w + i)) := fun w hw i hi => ((hR.1.2.2.2.1 w hw).2 i hi).2
      have eC := x9ears c_hs61_ (by rw [g0]; exact kb)
      rw [g0] at eC
      have LC := x2leP c_hs69_ hR.1 hD.2.1 (by omega) (by omega) (by omega)
      rw [eC] at LC
      have LD := x12leL d_hL_57 hX (by omega) (by omega) (by omega)
      have TD : LeP (fun j => hePL (D.1 (50, 0, 0)) (earsI (D.1 (50, 0, 0) (180 + 9 * v.toInt.toNat)).toInt) u.toInt t j 99) 9 0 := Or.inr ⟨rfl, fun j h1 h2 => (LD.2.2.2 j h1 (by omega)).1 d_h40_⟩
      have ee := LeP_uniq LC TD
      exact i32e (by omega)
    · have qd_hs5_ := is2x d_hs5_
      have yrd_ := eT d_hr_
      have hv : 0 ≤ v.toInt ∧ v.toInt < nWa (D.1 (50, 0, 0)) := by unfold nWa; omega
      have kb := ((hD.2.1.1 (180 + 9 * v.toInt.toNat)).2.2.2.2.2.2.2 (by omega) (by omega)).1 (by omega)
      have g0 : M.1 (9, 0, v.toInt.toNat) 0 = D.1 (50, 0, 0) (180 + 9 * v.toInt.toNat) := (hR.1.2.2.1.2 v.toInt.toNat (by omega)).1 0 (by omega)
      have rC := x9reach c_hs32_ (by rw [g0]; exact kb)
      rw [g0] at rC
      have rD := x12reach d_hs29_ (by omega)
      have hX : ∀ w, w < 3 → ∀ i : Nat, (i : Int) < (D.1 (50, 0, 0) (345 + 50 * w)).toInt → cOK (nnU w) (D.1 (50, 0, 0) (346 + 50 * w + i)) := fun w hw i hi => ((hR.1.2.2.2.1 w hw).2 i hi).2
      have eC := x9ears c_hs61_ (by rw [g0]; exact kb)
      rw [g0] at eC
      have LC := x2leP c_hs69_ hR.1 hD.2.1 (by omega) (by omega) (by omega)
      rw [eC] at LC
      have LD := x12leL d_hL_57 hX (by omega) (by omega) (by omega)
      have e50 : d_M_57.1 (50, 0, 0) = D.1 (50, 0, 0) := funext fun k => d_hF_57 _ _ (by simp [S_c_X12_least])
      have H := x12hePL d_hs98_ d_hI_57 (by rw [e50]; exact hX) (by omega) (by omega)
      have E0 := x12ears d_hs88_ (by omega)
      rw [e50] at E0
      have i99 : (99 : Int32).toInt = 99 := by decide
      rw [e50, E0, i99] at H
      have TD : LeP (fun j => hePL (D.1 (50, 0, 0)) (earsI (D.1 (50, 0, 0) (180 + 9 * v.toInt.toNat)).toInt) u.toInt t j 99) 9 d_v5_57.toInt := Or.inl ⟨LD.1, by omega, fun j h1 h2 => (LD.2.2.2 j h1 h2).1 d_h40_, (H.resolve_right (fun q => by omega)).2⟩
      have ee := LeP_uniq LC TD
      exfalso; omega
    · have qd_hs5_ := is2x d_hs5_
      have yrd_ := eT d_hr_
      exfalso; omega
    · have qd_hs5_ := is2x d_hs5_
      have yrd_ := eT d_hr_
      exfalso; omega
    · have qd_hs5_ := is2x d_hs5_
      have yrd_ := eT d_hr_
      exfalso; omega
    · have qd_hs5_ := is2x d_hs5_
      have yrd_ := eT d_hr_
      exfalso; omega
  · obtain rfl : c_j25_ = v.toInt.toNat := by omega
    have qc_hs5_ := x10has c_hs5_
    have qc_hs86_ := err2 c_hs86_
    have yrc_ := eT c_hr_
    unfold SP_X12_least at h2
    rcases h2 with (⟨d_hs5_, d_h4_, (⟨d_hs11_, d_h10_, (⟨d_hs17_, d_h16_, (⟨d_hs23_, d_h22_, d_r25_, d_hs29_, d_h28_, (⟨d_h30_, d_M32_, -, d_hF36_, d_r31_, d_hs38_, d_h34_, d_hr_, d_hM_⟩ | ⟨d_h30_, d_v5_57, d_hv0_57, d_M_57, d_hL_57, d_hI_57, d_hF_57, (⟨d_h40_, (⟨d_h41_, d_M43_, -, d_hF47_, d_r42_, d_hs49_, d_h45_, d_hr_, d_hM_⟩ | ⟨d_h41_, d_r50_, d_hs54_, d_h53_, d_h55_, d_r56_, d_hs60_, d_h59_, d_z61_, d_h62_, d_h63_, d_M65_, -, d_hF69_, d_r64_, d_hs71_, d_h67_, d_h72_, d_hr_, d_hM_⟩)⟩ | ⟨d_h40_, (⟨d_h75_, d_M77_, -, d_hF81_, d_r76_, d_hs83_, d_h79_, d_hr_, d_hM_⟩ | ⟨d_h75_, d_r84_, d_hs88_, d_h87_, d_h89_, d_h90_, d_M92_, -, d_hF96_, d_r91_, d_hs98_, d_h94_, d_h99_, d_hr_, d_hM_⟩)⟩)⟩)⟩ | ⟨d_hs23_, d_h22_, d_M104_, -, d_hF108_, d_r103_, d_hs110_, d_h106_, d_hr_, d_hM_⟩)⟩ | ⟨d_hs17_, d_h16_, d_M113_, -, d_hF117_, d_r112_, d_hs119_, d_h115_, d_hr_, d_hM_⟩)⟩ | ⟨d_hs11_, d_h10_, d_M122_, -, d_hF126_, d_r121_, d_hs128_, d_h124_, d_hr_, d_hM_⟩)⟩ | ⟨d_hs5_, d_M131_, -, d_hF135_, d_r130_, d_hs137_, d_h133_, d_hr_, d_hM_⟩)
    · have qd_hs5_ := is2x d_hs5_
      have yrd_ := eT d_hr_
      have hv : 0 ≤ v.toInt ∧ v.toInt < nWa (D.1 (50, 0, 0)) := by unfold nWa; omega
      have kb := ((hD.2.1.1 (180 + 9 * v.toInt.toNat)).2.2.2.2.2.2.2 (by omega) (by omega)).1 (by omega)
      have g0 : M.1 (9, 0, v.toInt.toNat) 0 = D.1 (50, 0, 0) (180 + 9 * v.toInt.toNat) := (hR.1.2.2.1.2 v.toInt.toNat (by omega)).1 0 (by omega)
      have rC := x9reach c_hs32_ (by rw [g0]; exact kb)
      rw [g0] at rC
      have rD := x12reach d_hs29_ (by omega)
      exact i32e (by omega)
    · have qd_hs5_ := is2x d_hs5_
      have yrd_ := eT d_hr_
      have hv : 0 ≤ v.toInt ∧ v.toInt < nWa (D.1 (50, 0, 0)) := by unfold nWa; omega
      have kb := ((hD.2.1.1 (180 + 9 * v.toInt.toNat)).2.2.2.2.2.2.2 (by omega) (by omega)).1 (by omega)
      have g0 : M.1 (9, 0, v.toInt.toNat) 0 = D.1 (50, 0, 0) (180 + 9 * v.toInt.toNat) := (hR.1.2.2.1.2 v.toInt.toNat (by omega)).1 0 (by omega)
      have rC := x9reach c_hs32_ (by rw [g0]; exact kb)
      rw [g0] at rC
      have rD := x12reach d_hs29_ (by omega)
      exfalso; omega
    · have qd_hs5_ := is2x d_hs5_
      have yrd_ := eT d_hr_
      have hv : 0 ≤ v.toInt ∧ v.toInt < nWa (D.1 (50, 0, 0)) := by unfold nWa; omega
      have kb := ((hD.2.1.1 (180 + 9 * v.toInt.toNat)).2.2.2.2.2.2.2 (by omega) (by omega)).1 (by omega)
      have g0 : M.1 (9, 0, v.toInt.toNat) 0 = D.1 (50, 0, 0) (180 + 9 * v.toInt.toNat) := (hR.1.2.2.1.2 v.toInt.toNat (by omega)).1 0 (by omega)
      have rC := x9reach c_hs32_ (by rw [g0]; exact kb)
      rw [g0] at rC
      have rD := x12reach d_hs29_ (by omega)
      exfalso; omega
    · have qd_hs5_ := is2x d_hs5_
      have yrd_ := eT d_hr_
      have hv : 0 ≤ v.toInt ∧ v.toInt < nWa (D.1 (50, 0, 0)) := by unfold nWa; omega
      have kb := ((hD.2.1.1 (180 + 9 * v.toInt.toNat)).2.2.2.2.2.2.2 (by omega) (by omega)).1 (by omega)
      have g0 : M.1 (9, 0, v.toInt.toNat) 0 = D.1 (50, 0, 0) (180 + 9 * v.toInt.toNat) := (hR.1.2.2.1.2 v.toInt.toNat (by omega)).1 0 (by omega)
      have rC := x9reach c_hs32_ (by rw [g0]; exact kb)
      rw [g0] at rC
      have rD := x12reach d_hs29_ (by omega)
      exfalso; omega
    · have qd_hs5_ := is2x d_hs5_
      have yrd_ := eT d_hr_
      have hv : 0 ≤ v.toInt ∧ v.toInt < nWa (D.1 (50, 0, 0)) := by unfold nWa; omega
      have kb := ((hD.2.1.1 (180 + 9 * v.toInt.toNat)).2.2.2.2.2.2.2 (by omega) (by omega)).1 (by omega)
      have g0 : M.1 (9, 0, v.toInt.toNat) 0 = D.1 (50, 0, 0) (180 + 9 * v.toInt.toNat) := (hR.1.2.2.1.2 v.toInt.toNat (by omega)).1 0 (by omega)
      have rC := x9reach c_hs32_ (by rw [g0]; exact kb)
      rw [g0] at rC
      have rD := x12reach d_hs29_ (by omega)
      exfalso; omega
    · have qd_hs5_ := is2x d_hs5_
      have yrd_ := eT d_hr_
      exfalso; omega
    · have qd_hs5_ := is2x d_hs5_
      have yrd_ := eT d_hr_
      exfalso; omega
    · have qd_hs5_ := is2x d_hs5_
      have yrd_ := eT d_hr_
      exfalso; omega
    · have qd_hs5_ := is2x d_hs5_
      have yrd_ := eT d_hr_
      exfalso; omega
  · have qc_hs5_ := x10has c_hs5_
    have qc_hs95_ := err1 c_hs95_
    have yrc_ := eT c_hr_
    unfold SP_X12_least at h2
    rcases h2 with (⟨d_hs5_, d_h4_, (⟨d_hs11_, d_h10_, (⟨d_hs17_, d_h16_, (⟨d_hs23_, d_h22_, d_r25_, d_hs29_, d_h28_, (⟨d_h30_, d_M32_, -, d_hF36_, d_r31_, d_hs38_, d_h34_, d_hr_, d_hM_⟩ | ⟨d_h30_, d_v5_57, d_hv0_57, d_M_57, d_hL_57, d_hI_57, d_hF_57, (⟨d_h40_, (⟨d_h41_, d_M43_, -, d_hF47_, d_r42_, d_hs49_, d_h45_, d_hr_, d_hM_⟩ | ⟨d_h41_, d_r50_, d_hs54_, d_h53_, d_h55_, d_r56_, d_hs60_, d_h59_, d_z61_, d_h62_, d_h63_, d_M65_, -, d_hF69_, d_r64_, d_hs71_, d_h67_, d_h72_, d_hr_, d_hM_⟩)⟩ | ⟨d_h40_, (⟨d_h75_, d_M77_, -, d_hF81_, d_r76_, d_hs83_, d_h79_, d_hr_, d_hM_⟩ | ⟨d_h75_, d_r84_, d_hs88_, d_h87_, d_h89_, d_h90_, d_M92_, -, d_hF96_, d_r91_, d_hs98_, d_h94_, d_h99_, d_hr_, d_hM_⟩)⟩)⟩)⟩ | ⟨d_hs23_, d_h22_, d_M104_, -, d_hF108_, d_r103_, d_hs110_, d_h106_, d_hr_, d_hM_⟩)⟩ | ⟨d_hs17_, d_h16_, d_M113_, -, d_hF117_, d_r112_, d_hs119_, d_h115_, d_hr_, d_hM_⟩)⟩ | ⟨d_hs11_, d_h10_, d_M122_, -, d_hF126_, d_r121_, d_hs128_, d_h124_, d_hr_, d_hM_⟩)⟩ | ⟨d_hs5_, d_M131_, -, d_hF135_, d_r130_, d_hs137_, d_h133_, d_hr_, d_hM_⟩)
    · have qd_hs5_ := is2x d_hs5_
      have yrd_ := eT d_hr_
      exfalso; omega
    · have qd_hs5_ := is2x d_hs5_
      have yrd_ := eT d_hr_
      exfalso; omega
    · have qd_hs5_ := is2x d_hs5_
      have yrd_ := eT d_hr_
      exfalso; omega
    · have qd_hs5_ := is2x d_hs5_
      have yrd_ := eT d_hr_
      exfalso; omega
    · have qd_hs5_ := is2x d_hs5_
      have yrd_ := eT d_hr_
      exfalso; omega
    · have qd_hs5_ := is2x d_hs5_
      have yrd_ := eT d_hr_
      exact i32e (by omega)
    · have qd_hs5_ := is2x d_hs5_
      have yrd_ := eT d_hr_
      exact i32e (by omega)
    · have qd_hs5_ := is2x d_hs5_
      have yrd_ := eT d_hr_
      exact i32e (by omega)
    · have qd_hs5_ := is2x d_hs5_
      have yrd_ := eT d_hr_
      exact i32e (by omega)
  · have qc_hs5_ := x10has c_hs5_
    have qc_hs104_ := err1 c_hs104_
    have yrc_ := eT c_hr_
    unfold SP_X12_least at h2
    rcases h2 with (⟨d_hs5_, d_h4_, (⟨d_hs11_, d_h10_, (⟨d_hs17_, d_h16_, (⟨d_hs23_, d_h22_, d_r25_, d_hs29_, d_h28_, (⟨d_h30_, d_M32_, -, d_hF36_, d_r31_, d_hs38_, d_h34_, d_hr_, d_hM_⟩ | ⟨d_h30_, d_v5_57, d_hv0_57, d_M_57, d_hL_57, d_hI_57, d_hF_57, (⟨d_h40_, (⟨d_h41_, d_M43_, -, d_hF47_, d_r42_, d_hs49_, d_h45_, d_hr_, d_hM_⟩ | ⟨d_h41_, d_r50_, d_hs54_, d_h53_, d_h55_, d_r56_, d_hs60_, d_h59_, d_z61_, d_h62_, d_h63_, d_M65_, -, d_hF69_, d_r64_, d_hs71_, d_h67_, d_h72_, d_hr_, d_hM_⟩)⟩ | ⟨d_h40_, (⟨d_h75_, d_M77_, -, d_hF81_, d_r76_, d_hs83_, d_h79_, d_hr_, d_hM_⟩ | ⟨d_h75_, d_r84_, d_hs88_, d_h87_, d_h89_, d_h90_, d_M92_, -, d_hF96_, d_r91_, d_hs98_, d_h94_, d_h99_, d_hr_, d_hM_⟩)⟩)⟩)⟩ | ⟨d_hs23_, d_h22_, d_M104_, -, d_hF108_, d_r103_, d_hs110_, d_h106_, d_hr_, d_hM_⟩)⟩ | ⟨d_hs17_, d_h16_, d_M113_, -, d_hF117_, d_r112_, d_hs119_, d_h115_, d_hr_, d_hM_⟩)⟩ | ⟨d_hs11_, d_h10_, d_M122_, -, d_hF126_, d_r121_, d_hs128_, d_h124_, d_hr_, d_hM_⟩)⟩ | ⟨d_hs5_, d_M131_, -, d_hF135_, d_r130_, d_hs137_, d_h133_, d_hr_, d_hM_⟩)
    · have qd_hs5_ := is2x d_hs5_
      have yrd_ := eT d_hr_
      exfalso; omega
    · have qd_hs5_ := is2x d_hs5_
      have yrd_ := eT d_hr_
      exfalso; omega
    · have qd_hs5_ := is2x d_hs5_
      have yrd_ := eT d_hr_
      exfalso; omega
    · have qd_hs5_ := is2x d_hs5_
      have yrd_ := eT d_hr_
      exfalso; omega
    · have qd_hs5_ := is2x d_hs5_
      have yrd_ := eT d_hr_
      exfalso; omega
    · have qd_hs5_ := is2x d_hs5_
      have yrd_ := eT d_hr_
      exact i32e (by omega)
    · have qd_hs5_ := is2x d_hs5_
      have yrd_ := eT d_hr_
      exact i32e (by omega)
    · have qd_hs5_ := is2x d_hs5_
      have yrd_ := eT d_hr_
      exact i32e (by omega)
    · have qd_hs5_ := is2x d_hs5_
      have yrd_ := eT d_hr_
      exact i32e (by omega)
  · have qc_hs5_ := x10has c_hs5_
    have qc_hs113_ := err1 c_hs113_
    have yrc_ := eT c_hr_
    unfold SP_X12_least at h2
    rcases h2 with (⟨d_hs5_, d_h4_, (⟨d_hs11_, d_h10_, (⟨d_hs17_, d_h16_, (⟨d_hs23_, d_h22_, d_r25_, d_hs29_, d_h28_, (⟨d_h30_, d_M32_, -, d_hF36_, d_r31_, d_hs38_, d_h34_, d_hr_, d_hM_⟩ | ⟨d_h30_, d_v5_57, d_hv0_57, d_M_57, d_hL_57, d_hI_57, d_hF_57, (⟨d_h40_, (⟨d_h41_, d_M43_, -, d_hF47_, d_r42_, d_hs49_, d_h45_, d_hr_, d_hM_⟩ | ⟨d_h41_, d_r50_, d_hs54_, d_h53_, d_h55_, d_r56_, d_hs60_, d_h59_, d_z61_, d_h62_, d_h63_, d_M65_, -, d_hF69_, d_r64_, d_hs71_, d_h67_, d_h72_, d_hr_, d_hM_⟩)⟩ | ⟨d_h40_, (⟨d_h75_, d_M77_, -, d_hF81_, d_r76_, d_hs83_, d_h79_, d_hr_, d_hM_⟩ | ⟨d_h75_, d_r84_, d_hs88_, d_h87_, d_h89_, d_h90_, d_M92_, -, d_hF96_, d_r91_, d_hs98_, d_h94_, d_h99_, d_hr_, d_hM_⟩)⟩)⟩)⟩ | ⟨d_hs23_, d_h22_, d_M104_, -, d_hF108_, d_r103_, d_hs110_, d_h106_, d_hr_, d_hM_⟩)⟩ | ⟨d_hs17_, d_h16_, d_M113_, -, d_hF117_, d_r112_, d_hs119_, d_h115_, d_hr_, d_hM_⟩)⟩ | ⟨d_hs11_, d_h10_, d_M122_, -, d_hF126_, d_r121_, d_hs128_, d_h124_, d_hr_, d_hM_⟩)⟩ | ⟨d_hs5_, d_M131_, -, d_hF135_, d_r130_, d_hs137_, d_h133_, d_hr_, d_hM_⟩)
    · have qd_hs5_ := is2x d_hs5_
      have yrd_ := eT d_hr_
      exfalso; omega
    · have qd_hs5_ := is2x d_hs5_
      have yrd_ := eT d_hr_
      exfalso; omega
    · have qd_hs5_ := is2x d_hs5_
      have yrd_ := eT d_hr_
      exfalso; omega
    · have qd_hs5_ := is2x d_hs5_
      have yrd_ := eT d_hr_
      exfalso; omega
    · have qd_hs5_ := is2x d_hs5_
      have yrd_ := eT d_hr_
      exfalso; omega
    · have qd_hs5_ := is2x d_hs5_
      have yrd_ := eT d_hr_
      exact i32e (by omega)
    · have qd_hs5_ := is2x d_hs5_
      have yrd_ := eT d_hr_
      exact i32e (by omega)
    · have qd_hs5_ := is2x d_hs5_
      have yrd_ := eT d_hr_
      exact i32e (by omega)
    · have qd_hs5_ := is2x d_hs5_
      have yrd_ := eT d_hr_
      exact i32e (by omega)
  · have qc_hs5_ := x10has c_hs5_
    have qc_hs122_ := err1 c_hs122_
    have yrc_ := eT c_hr_
    unfold SP_X12_least at h2
    rcases h2 with (⟨d_hs5_, d_h4_, (⟨d_hs11_, d_h10_, (⟨d_hs17_, d_h16_, (⟨d_hs23_, d_h22_, d_r25_, d_hs29_, d_h28_, (⟨d_h30_, d_M32_, -, d_hF36_, d_r31_, d_hs38_, d_h34_, d_hr_, d_hM_⟩ | ⟨d_h30_, d_v5_57, d_hv0_57, d_M_57, d_hL_57, d_hI_57, d_hF_57, (⟨d_h40_, (⟨d_h41_, d_M43_, -, d_hF47_, d_r42_, d_hs49_, d_h45_, d_hr_, d_hM_⟩ | ⟨d_h41_, d_r50_, d_hs54_, d_h53_, d_h55_, d_r56_, d_hs60_, d_h59_, d_z61_, d_h62_, d_h63_, d_M65_, -, d_hF69_, d_r64_, d_hs71_, d_h67_, d_h72_, d_hr_, d_hM_⟩)⟩ | ⟨d_h40_, (⟨d_h75_, d_M77_, -, d_hF81_, d_r76_, d_hs83_, d_h79_, d_hr_, d_hM_⟩ | ⟨d_h75_, d_r84_, d_hs88_, d_h87_, d_h89_, d_h90_, d_M92_, -, d_hF96_, d_r91_, d_hs98_, d_h94_, d_h99_, d_hr_, d_hM_⟩)⟩)⟩)⟩ | ⟨d_hs23_, d_h22_, d_M104_, -, d_hF108_, d_r103_, d_hs110_, d_h106_, d_hr_, d_hM_⟩)⟩ | ⟨d_hs17_, d_h16_, d_M113_, -, d_hF117_, d_r112_, d_hs119_, d_h115_, d_hr_, d_hM_⟩)⟩ | ⟨d_hs11_, d_h10_, d_M122_, -, d_hF126_, d_r121_, d_hs128_, d_h124_, d_hr_, d_hM_⟩)⟩ | ⟨d_hs5_, d_M131_, -, d_hF135_, d_r130_, d_hs137_, d_h133_, d_hr_, d_hM_⟩)
    · have qd_hs5_ := is2x d_hs5_
      have yrd_ := eT d_hr_
      exfalso; omega
    · have qd_hs5_ := is2x d_hs5_
      have yrd_ := eT d_hr_
      exfalso; omega
    · have qd_hs5_ := is2x d_hs5_
      have yrd_ := eT d_hr_
      exfalso; omega
    · have qd_hs5_ := is2x d_hs5_
      have yrd_ := eT d_hr_
      exfalso; omega
    · have qd_hs5_ := is2x d_hs5_
      have yrd_ := eT d_hr_
      exfalso; omega
    · have qd_hs5_ := is2x d_hs5_
      have yrd_ := eT d_hr_
      exact i32e (by omega)
    · have qd_hs5_ := is2x d_hs5_
      have yrd_ := eT d_hr_
      exact i32e (by omega)
    · have qd_hs5_ := is2x d_hs5_
      have yrd_ := eT d_hr_
      exact i32e (by omega)
    · have qd_hs5_ := is2x d_hs5_
      have yrd_ := eT d_hr_
      exact i32e (by omega)
theorem x11fa {v u t x R : Int32} {M M2 : mM} {n : Nat → Int32} (h : RCH (fun x_ y_ : Int32 × mM => ST_X11_farthest_49 u t M v.toInt.toNat x_.1 x_.2 y_.1 y_.2) (R, M) (x, M2)) (hR : WRR 0 M.1 n) (hN : NW5 n) (hv : 0 ≤ v.toInt ∧ v.toInt < nWa n) (hu : 0 ≤ u.toInt ∧ u.toInt ≤ 4) (ht : 100 ≤ t.toInt ∧ t.toInt ≤ 999) (hb : 0 ≤ R.toInt ∧ R.toInt ≤ 12) : x.toInt ≤ R.toInt ∧ 0 ≤ x.toInt ∧ ∀ j : Int, x.toInt < j → j ≤ R.toInt → ¬ (fun j => hePL n (earsI (n (180 + 9 * v.toInt.toNat)).toInt) u.toInt (Int32.ofInt j) (t.toInt / 100) (t.toInt % 100)) j := by
  have q0 := il_0
  have q1 := il_1
  have nw := nWa_b hN
  have g0 : M.1 (9, 0, v.toInt.toNat) 0 = n (180 + 9 * v.toInt.toNat) := (hR.2.2.1.2 v.toInt.toNat (by omega)).1 0 (by omega)
  have kb := ((hN.1 (180 + 9 * v.toInt.toNat)).2.2.2.2.2.2.2 (by omega) (by omega)).1 (by omega)
  have wr : ∀ M2 : mM, FR (S_c_X11_farthest) M M2 → WRR 0 M2.1 n ∧ M2.1 (9, 0, v.toInt.toNat) 0 = n (180 + 9 * v.toInt.toNat) := fun M2 hF => ⟨WRR_q hR hN (fun c k a d => hF c k (fun q => by simp only [S_c_X11_farthest, or_false] at q; omega)), by rw [← g0]; exact hF _ _ (fun q => by simp only [S_c_X11_farthest, or_false] at q; omega)⟩
  refine rind h (fun x : Int32 × mM => x.1.toInt ≤ R.toInt ∧ 0 ≤ x.1.toInt ∧ ∀ j : Int, x.1.toInt < j → j ≤ R.toInt → ¬ (fun j => hePL n (earsI (n (180 + 9 * v.toInt.toNat)).toInt) u.toInt (Int32.ofInt j) (t.toInt / 100) (t.toInt % 100)) j) ⟨by dsimp only; omega, by dsimp only; omega, fun j h1 h2 => by dsimp only at h1; omega⟩ (fun x z hp hst => ?_)
  obtain ⟨x1, x2⟩ := x
  obtain ⟨z1, z2⟩ := z
  (try dsimp only at hp hst ⊢)
  unfold ST_X11_farthest_49 at hst
  obtain ⟨-, p_hF_49, p_h28_, p_r37_, p_hs41_, p_h40_, p_M43_, -, p_hF47_, p_r42_, p_hs49_, p_h45_, p_h50_, p_z51_, p_h52_, p_hq_v5_49y, p_hM_⟩ := hst
  have W := wr _ p_hF_49
  have E := x9ears p_hs41_ (by rw [W.2]; exact kb)
  rw [W.2] at E
  have H := x2hePL (p := t.toInt / 100) (l := t.toInt % 100) p_hs49_ W.1 hN hu (by omega) (by omega) (by omega) (by omega)
  rw [E, ofT x1] at H
  rw [p_hq_v5_49y]
  refine ⟨by omega, by omega, fun j h1 h2 => ?_⟩
  by_cases e : j = x1.toInt
  · rw [e]
    rcases H with H | H
    · omega
    · exact H.2
  · exact hp.2.2 j (by omega) h2
theorem x12fa {v u t x R : Int32} {D D2 : mM} (h : RCH (fun x_ y_ : Int32 × mM => ST_X12_farthest_40 v u t D x_.1 x_.2 y_.1 y_.2) (R, D) (x, D2)) (hX : ∀ w, w < 3 → ∀ i : Nat, (i : Int) < (D.1 (50, 0, 0) (345 + 50 * w)).toInt → cOK (nnU w) (D.1 (50, 0, 0) (346 + 50 * w + i))) (hv : 0 ≤ v.toInt ∧ v.toInt ≤ 7) (hu : 0 ≤ u.toInt ∧ u.toInt ≤ 4) (ht : 100 ≤ t.toInt ∧ t.toInt ≤ 999) (hb : 0 ≤ R.toInt ∧ R.toInt ≤ 12) : x.toInt ≤ R.toInt ∧ 0 ≤ x.toInt ∧ ∀ j : Int, x.toInt < j → j ≤ R.toInt → ¬ (fun j => hePL (D.1 (50, 0, 0)) (earsI ((D.1 (50, 0, 0)) (180 + 9 * v.toInt.toNat)).toInt) u.toInt (Int32.ofInt j) (t.toInt / 100) (t.toInt % 100)) j := by
  have q0 := il_0
  have q1 := il_1
  refine rind h (fun x : Int32 × mM => x.1.toInt ≤ R.toInt ∧ 0 ≤ x.1.toInt ∧ ∀ j : Int, x.1.toInt < j → j ≤ R.toInt → ¬ (fun j => hePL (D.1 (50, 0, 0)) (earsI ((D.1 (50, 0, 0)) (180 + 9 * v.toInt.toNat)).toInt) u.toInt (Int32.ofInt j) (t.toInt / 100) (t.toInt % 100)) j) ⟨by dsimp only; omega, by dsimp only; omega, fun j h1 h2 => by dsimp only at h1; omega⟩ (fun x z hp hst => ?_)
  obtain ⟨x1, x2⟩ := x
  obtain ⟨z1, z2⟩ := z
  (try dsimp only at hp hst ⊢)
  unfold ST_X12_farthest_40 at hst
  obtain ⟨p_hv0_40, p_hI_40, p_hF_40, p_h25_, p_r34_, p_hs38_, p_h37_, p_z39_, p_h40_, p_z41_, p_h42_, p_M44_, -, p_hF48_, p_r43_, p_hs50_, p_h46_, p_h51_, p_z52_, p_h53_, p_hq_v4_40y, p_hM_⟩ := hst
  have e50 : x2.1 (50, 0, 0) = D.1 (50, 0, 0) := funext fun k => p_hF_40 _ _ (by simp [S_c_X12_farthest])
  have E := x12ears p_hs38_ hv
  rw [e50] at E
  have H := x12hePL p_hs50_ p_hI_40 (by rw [e50]; exact hX) hu (by omega)
  rw [e50, E, p_h40_, p_h42_, ofT x1] at H
  rw [p_hq_v4_40y]
  refine ⟨by omega, by omega, fun j h1 h2 => ?_⟩
  by_cases e : j = x1.toInt
  · rw [e]
    rcases H with H | H
    · omega
    · exact H.2
  · exact hp.2.2 j (by omega) h2
theorem an_22 {v : Int32} {u : Int32} {t : Int32} {M M1 D D2 : mM} {r1 r2 : Int32} (h1 : SP_X11_farthest v u t M r1 M1) (h2 : SP_X12_farthest v u t D r2 D2) (hR : RW 0 M.1 (D.1 (50, 0, 0))) (hD : InvD D) (hu : (D.1 (12, 0, 0) 7).toInt = -1) : r1 = r2 := by
  have q0 := il_0
  have q1 := il_1
  have bT := eT hR.1.2.1.1
  have bW := eT hR.1.2.2.1.1
  have nT := nTh_b hD.2.1
  have nW := nWa_b hD.2.1
  unfold nTh at nT
  unfold nWa at nW
  unfold SP_X11_farthest at h1
  rcases h1 with (⟨c_hs5_, c_h4_, (⟨c_hs11_, c_h10_, c_r13_, c_hs17_, c_h16_, (⟨c_h18_, c_j19_, c_h20_, c_h21_, c_r22_, c_hs26_, c_h25_, c_v5_49, c_M_49, c_hL_49, -, c_hF_49, (⟨c_h28_, c_M30_, -, c_hF34_, c_r29_, c_hs36_, c_hr_, c_hM_⟩ | ⟨c_h28_, c_r37_, c_hs41_, c_h40_, c_M43_, -, c_hF47_, c_r42_, c_hs49_, c_h45_, c_h50_, c_hr_, c_hM_⟩)⟩ | ⟨c_h18_, c_M54_, -, c_hF58_, c_r53_, c_hs60_, c_hr_, c_hM_⟩)⟩ | ⟨c_hs11_, c_h10_, c_M63_, -, c_hF67_, c_r62_, c_hs69_, c_hr_, c_hM_⟩)⟩ | ⟨c_hs5_, c_M72_, -, c_hF76_, c_r71_, c_hs78_, c_hr_, c_hM_⟩)
  · obtain rfl : c_j19_ = v.toInt.toNat := by omega
    have qc_hs5_ := x10has c_hs5_
    have qc_hs17_ := x2clk c_hs17_
    have qc_hs36_ := err2 c_hs36_
    have yrc_ := eT c_hr_
    unfold SP_X12_farthest at h2
    rcases h2 with (⟨d_hs5_, d_h4_, (⟨d_hs11_, d_h10_, (⟨d_hs17_, d_h16_, d_r19_, d_hs23_, d_h22_, d_v4_40, d_hv0_40, d_M_40, d_hL_40, d_hI_40, d_hF_40, (⟨d_h25_, d_M27_, -, d_hF31_, d_r26_, d_hs33_, d_h29_, d_hr_, d_hM_⟩ | ⟨d_h25_, d_r34_, d_hs38_, d_h37_, d_z39_, d_h40_, d_z41_, d_h42_, d_M44_, -, d_hF48_, d_r43_, d_hs50_, d_h46_, d_h51_, d_hr_, d_hM_⟩)⟩ | ⟨d_hs17_, d_M56_, -, d_hF60_, d_r55_, d_hs62_, d_h58_, d_hr_, d_hM_⟩)⟩ | ⟨d_hs11_, d_h10_, d_M65_, -, d_hF69_, d_r64_, d_hs71_, d_h67_, d_hr_, d_hM_⟩)⟩ | ⟨d_hs5_, d_M74_, -, d_hF78_, d_r73_, d_hs80_, d_h76_, d_hr_, d_hM_⟩)
    · have qd_hs5_ := is2x d_hs5_
      have qd_hs17_ := x12clk d_hs17_
      have yrd_ := eT d_hr_
      have hv : 0 ≤ v.toInt ∧ v.toInt < nWa (D.1 (50, 0, 0)) := by unfold nWa; omega
      have kb := ((hD.2.1.1 (180 + 9 * v.toInt.toNat)).2.2.2.2.2.2.2 (by omega) (by omega)).1 (by omega)
      have g0 : M.1 (9, 0, v.toInt.toNat) 0 = D.1 (50, 0, 0) (180 + 9 * v.toInt.toNat) := (hR.1.2.2.1.2 v.toInt.toNat (by omega)).1 0 (by omega)
      have rC := x9reach c_hs26_ (by rw [g0]; exact kb)
      rw [g0] at rC
      have rD := x12reach d_hs23_ (by omega)
      obtain rfl : c_r22_ = d_r19_ := i32e (by omega)
      have hX : ∀ w, w < 3 → ∀ i : Nat, (i : Int) < (D.1 (50, 0, 0) (345 + 50 * w)).toInt → cOK (nnU w) (D.1 (50, 0, 0) (346 + 50 * w + i)) := fun w hw i hi => ((hR.1.2.2.2.1 w hw).2 i hi).2
      have FC := x11fa c_hL_49 hR.1 hD.2.1 hv (by omega) (by omega) (by omega)
      have FD := x12fa d_hL_40 hX (by omega) (by omega) (by omega) (by omega)
      have TC : FaP (fun j => hePL (D.1 (50, 0, 0)) (earsI ((D.1 (50, 0, 0)) (180 + 9 * v.toInt.toNat)).toInt) u.toInt (Int32.ofInt j) (t.toInt / 100) (t.toInt % 100)) c_r22_.toInt 0 := Or.inr ⟨rfl, fun j h1 h2 => FC.2.2 j (by omega) h2⟩
      have TD : FaP (fun j => hePL (D.1 (50, 0, 0)) (earsI ((D.1 (50, 0, 0)) (180 + 9 * v.toInt.toNat)).toInt) u.toInt (Int32.ofInt j) (t.toInt / 100) (t.toInt % 100)) c_r22_.toInt 0 := Or.inr ⟨rfl, fun j h1 h2 => FD.2.2 j (by omega) h2⟩
      have ee := FaP_uniq TC TD
      exact i32e (by omega)
    · have qd_hs5_ := is2x d_hs5_
      have qd_hs17_ := x12clk d_hs17_
      have yrd_ := eT d_hr_
      have hv : 0 ≤ v.toInt ∧ v.toInt < nWa (D.1 (50, 0, 0)) := by unfold nWa; omega
      have kb := ((hD.2.1.1 (180 + 9 * v.toInt.toNat)).2.2.2.2.2.2.2 (by omega) (by omega)).1 (by omega)
      have g0 : M.1 (9, 0, v.toInt.toNat) 0 = D.1 (50, 0, 0) (180 + 9 * v.toInt.toNat) := (hR.1.2.2.1.2 v.toInt.toNat (by omega)).1 0 (by omega)
      have rC := x9reach c_hs26_ (by rw [g0]; exact kb)
      rw [g0] at rC
      have rD := x12reach d_hs23_ (by omega)
      obtain rfl : c_r22_ = d_r19_ := i32e (by omega)
      have hX : ∀ w, w < 3 → ∀ i : Nat, (i : Int) < (D.1 (50, 0, 0) (345 + 50 * w)).toInt → cOK (nnU w) (D.1 (50, 0, 0) (346 + 50 * w + i)) := fun w hw i hi => ((hR.1.2.2.2.1 w hw).2 i hi).2
      have FC := x11fa c_hL_49 hR.1 hD.2.1 hv (by omega) (by omega) (by omega)
      have FD := x12fa d_hL_40 hX (by omega) (by omega) (by omega) (by omega)
      have TC : FaP (fun j => hePL (D.1 (50, 0, 0)) (earsI ((D.1 (50, 0, 0)) (180 + 9 * v.toInt.toNat)).toInt) u.toInt (Int32.ofInt j) (t.toInt / 100) (t.toInt % 100)) c_r22_.toInt 0 := Or.inr ⟨rfl, fun j h1 h2 => FC.2.2 j (by omega) h2⟩
      have e50 : d_M_40.1 (50, 0, 0) = D.1 (50, 0, 0) := funext fun k => d_hF_40 _ _ (by simp [S_c_X12_farthest])
      have ED := x12ears d_hs38_ (by omega)
      rw [e50] at ED
      have HH := x12hePL d_hs50_ d_hI_40 (by rw [e50]; exact hX) (by omega) (by omega)
      rw [e50, ED, d_h40_, d_h42_, ofT d_v4_40] at HH
      have TD : FaP (fun j => hePL (D.1 (50, 0, 0)) (earsI ((D.1 (50, 0, 0)) (180 + 9 * v.toInt.toNat)).toInt) u.toInt (Int32.ofInt j) (t.toInt / 100) (t.toInt % 100)) c_r22_.toInt d_v4_40.toInt := Or.inl ⟨d_h25_, FD.1, FD.2.2, (HH.resolve_right (fun q => by omega)).2⟩
      have ee := FaP_uniq TC TD
      exfalso; omega
    · have qd_hs5_ := is2x d_hs5_
      have qd_hs17_ := x12clk d_hs17_
      have yrd_ := eT d_hr_
      exfalso; omega
    · have qd_hs5_ := is2x d_hs5_
      have yrd_ := eT d_hr_
      exfalso; omega
    · have qd_hs5_ := is2x d_hs5_
      have yrd_ := eT d_hr_
      exfalso; omega
  · obtain rfl : c_j19_ = v.toInt.toNat := by omega
    have qc_hs5_ := x10has c_hs5_
    have qc_hs17_ := x2clk c_hs17_
    have yrc_ := eT c_hr_
    unfold SP_X12_farthest at h2
    rcases h2 with (⟨d_hs5_, d_h4_, (⟨d_hs11_, d_h10_, (⟨d_hs17_, d_h16_, d_r19_, d_hs23_, d_h22_, d_v4_40, d_hv0_40, d_M_40, d_hL_40, d_hI_40, d_hF_40, (⟨d_h25_, d_M27_, -, d_hF31_, d_r26_, d_hs33_, d_h29_, d_hr_, d_hM_⟩ | ⟨d_h25_, d_r34_, d_hs38_, d_h37_, d_z39_, d_h40_, d_z41_, d_h42_, d_M44_, -, d_hF48_, d_r43_, d_hs50_, d_h46_, d_h51_, d_hr_, d_hM_⟩)⟩ | ⟨d_hs17_, d_M56_, -, d_hF60_, d_r55_, d_hs62_, d_h58_, d_hr_, d_hM_⟩)⟩ | ⟨d_hs11_, d_h10_, d_M65_, -, d_hF69_, d_r64_, d_hs71_, d_h67_, d_hr_, d_hM_⟩)⟩ | ⟨d_hs5_, d_M74_, -, d_hF78_, d_r73_, d_hs80_, d_h76_, d_hr_, d_hM_⟩)
    · have qd_hs5_ := is2x d_hs5_
      have qd_hs17_ := x12clk d_hs17_
      have yrd_ := eT d_hr_
      have hv : 0 ≤ v.toInt ∧ v.toInt < nWa (D.1 (50, 0, 0)) := by unfold nWa; omega
      have kb := ((hD.2.1.1 (180 + 9 * v.toInt.toNat)).2.2.2.2.2.2.2 (by omega) (by omega)).1 (by omega)
      have g0 : M.1 (9, 0, v.toInt.toNat) 0 = D.1 (50, 0, 0) (180 + 9 * v.toInt.toNat) := (hR.1.2.2.1.2 v.toInt.toNat (by omega)).1 0 (by omega)
      have rC := x9reach c_hs26_ (by rw [g0]; exact kb)
      rw [g0] at rC
      have rD := x12reach d_hs23_ (by omega)
      obtain rfl : c_r22_ = d_r19_ := i32e (by omega)
      have hX : ∀ w, w < 3 → ∀ i : Nat, (i : Int) < (D.1 (50, 0, 0) (345 + 50 * w)).toInt → cOK (nnU w) (D.1 (50, 0, 0) (346 + 50 * w + i)) := fun w hw i hi => ((hR.1.2.2.2.1 w hw).2 i hi).2
      have FC := x11fa c_hL_49 hR.1 hD.2.1 hv (by omega) (by omega) (by omega)
      have FD := x12fa d_hL_40 hX (by omega) (by omega) (by omega) (by omega)
      have W1 : WRR 0 c_M_49.1 (D.1 (50, 0, 0)) := WRR_q hR.1 hD.2.1 (fun c k a d => c_hF_49 c k (fun q => by simp only [S_c_X11_farthest, or_false] at q; omega))
      have W2 : c_M_49.1 (9, 0, v.toInt.toNat) 0 = D.1 (50, 0, 0) (180 + 9 * v.toInt.toNat) := by rw [← g0]; exact c_hF_49 _ _ (fun q => by simp only [S_c_X11_farthest, or_false] at q; omega)
      have EC := x9ears c_hs41_ (by rw [W2]; exact kb)
      rw [W2] at EC
      have HC := x2hePL (p := t.toInt / 100) (l := t.toInt % 100) c_hs49_ W1 hD.2.1 (by omega) (by omega) (by omega) (by omega) (by omega)
      rw [EC, ofT c_v5_49] at HC
      have TC : FaP (fun j => hePL (D.1 (50, 0, 0)) (earsI ((D.1 (50, 0, 0)) (180 + 9 * v.toInt.toNat)).toInt) u.toInt (Int32.ofInt j) (t.toInt / 100) (t.toInt % 100)) c_r22_.toInt c_v5_49.toInt := Or.inl ⟨c_h28_, FC.1, FC.2.2, (HC.resolve_right (fun q => by omega)).2⟩
      have TD : FaP (fun j => hePL (D.1 (50, 0, 0)) (earsI ((D.1 (50, 0, 0)) (180 + 9 * v.toInt.toNat)).toInt) u.toInt (Int32.ofInt j) (t.toInt / 100) (t.toInt % 100)) c_r22_.toInt 0 := Or.inr ⟨rfl, fun j h1 h2 => FD.2.2 j (by omega) h2⟩
      have ee := FaP_uniq TC TD
      exfalso; omega
    · have qd_hs5_ := is2x d_hs5_
      have qd_hs17_ := x12clk d_hs17_
      have yrd_ := eT d_hr_
      have hv : 0 ≤ v.toInt ∧ v.toInt < nWa (D.1 (50, 0, 0)) := by unfold nWa; omega
      have kb := ((hD.2.1.1 (180 + 9 * v.toInt.toNat)).2.2.2.2.2.2.2 (by omega) (by omega)).1 (by omega)
      have g0 : M.1 (9, 0, v.toInt.toNat) 0 = D.1 (50, 0, 0) (180 + 9 * v.toInt.toNat) := (hR.1.2.2.1.2 v.toInt.toNat (by omega)).1 0 (by omega)
      have rC := x9reach c_hs26_ (by rw [g0]; exact kb)
      rw [g0] at rC
      have rD := x12reach d_hs23_ (by omega)
      obtain rfl : c_r22_ = d_r19_ := i32e (by omega)
      have hX : ∀ w, w < 3 → ∀ i : Nat, (i : Int) < (D.1 (50, 0, 0) (345 + 50 * w)).toInt → cOK (nnU w) (D.1 (50, 0, 0) (346 + 50 * w + i)) := fun w hw i hi => ((hR.1.2.2.2.1 w hw).2 i hi).2
      have FC := x11fa c_hL_49 hR.1 hD.2.1 hv (by omega) (by omega) (by omega)
      have FD := x12fa d_hL_40 hX (by omega) (by omega) (by omega) (by omega)
      have W1 : WRR 0 c_M_49.1 (D.1 (50, 0, 0)) := WRR_q hR.1 hD.2.1 (fun c k a d => c_hF_49 c k (fun q => by simp only [S_c_X11_farthest, or_false] at q; omega))
      have W2 : c_M_49.1 (9, 0, v.toInt.toNat) 0 = D.1 (50, 0, 0) (180 + 9 * v.toInt.toNat) := by rw [← g0]; exact c_hF_49 _ _ (fun q => by simp only [S_c_X11_farthest, or_false] at q; omega)
      have EC := x9ears c_hs41_ (by rw [W2]; exact kb)
      rw [W2] at EC
      have HC := x2hePL (p := t.toInt / 100) (l := t.toInt % 100) c_hs49_ W1 hD.2.1 (by omega) (by omega) (by omega) (by omega) (by omega)
      rw [EC, ofT c_v5_49] at HC
      have TC : FaP (fun j => hePL (D.1 (50, 0, 0)) (earsI ((D.1 (50, 0, 0)) (180 + 9 * v.toInt.toNat)).toInt) u.toInt (Int32.ofInt j) (t.toInt / 100) (t.toInt % 100)) c_r22_.toInt c_v5_49.toInt := Or.inl ⟨c_h28_, FC.1, FC.2.2, (HC.resolve_right (fun q => by omega)).2⟩
      have e50 : d_M_40.1 (50, 0, 0) = D.1 (50, 0, 0) := funext fun k => d_hF_40 _ _ (by simp [S_c_X12_farthest])
      have ED := x12ears d_hs38_ (by omega)
      rw [e50] at ED
      have HH := x12hePL d_hs50_ d_hI_40 (by rw [e50]; exact hX) (by omega) (by omega)
      rw [e50, ED, d_h40_, d_h42_, ofT d_v4_40] at HH
      have TD : FaP (fun j => hePL (D.1 (50, 0, 0)) (earsI ((D.1 (50, 0, 0)) (180 + 9 * v.toInt.toNat)).toInt) u.toInt (Int32.ofInt j) (t.toInt / 100) (t.toInt % 100)) c_r22_.toInt d_v4_40.toInt := Or.inl ⟨d_h25_, FD.1, FD.2.2, (HH.resolve_right (fun q => by omega)).2⟩
      have ee := FaP_uniq TC TD
      rw [c_hr_, d_hr_]
      exact i32e ee
    · have qd_hs5_ := is2x d_hs5_
      have qd_hs17_ := x12clk d_hs17_
      have yrd_ := eT d_hr_
      exfalso; omega
    · have qd_hs5_ := is2x d_hs5_
      have yrd_ := eT d_hr_
      exfalso; omega
    · have qd_hs5_ := is2x d_hs5_
      have yrd_ := eT d_hr_
      exfalso; omega
  · have qc_hs5_ := x10has c_hs5_
    have qc_hs17_ := x2clk c_hs17_
    have qc_hs60_ := err1 c_hs60_
    have yrc_ := eT c_hr_
    unfold SP_X12_farthest at h2
    rcases h2 with (⟨d_hs5_, d_h4_, (⟨d_hs11_, d_h10_, (⟨d_hs17_, d_h16_, d_r19_, d_hs23_, d_h22_, d_v4_40, d_hv0_40, d_M_40, d_hL_40, d_hI_40, d_hF_40, (⟨d_h25_, d_M27_, -, d_hF31_, d_r26_, d_hs33_, d_h29_, d_hr_, d_hM_⟩ | ⟨d_h25_, d_r34_, d_hs38_, d_h37_, d_z39_, d_h40_, d_z41_, d_h42_, d_M44_, -, d_hF48_, d_r43_, d_hs50_, d_h46_, d_h51_, d_hr_, d_hM_⟩)⟩ | ⟨d_hs17_, d_M56_, -, d_hF60_, d_r55_, d_hs62_, d_h58_, d_hr_, d_hM_⟩)⟩ | ⟨d_hs11_, d_h10_, d_M65_, -, d_hF69_, d_r64_, d_hs71_, d_h67_, d_hr_, d_hM_⟩)⟩ | ⟨d_hs5_, d_M74_, -, d_hF78_, d_r73_, d_hs80_, d_h76_, d_hr_, d_hM_⟩)
    · have qd_hs5_ := is2x d_hs5_
      have qd_hs17_ := x12clk d_hs17_
      have yrd_ := eT d_hr_
      exfalso; omega
    · have qd_hs5_ := is2x d_hs5_
      have qd_hs17_ := x12clk d_hs17_
      have yrd_ := eT d_hr_
      exfalso; omega
    · have qd_hs5_ := is2x d_hs5_
      have qd_hs17_ := x12clk d_hs17_
      have yrd_ := eT d_hr_
      exact i32e (by omega)
    · have qd_hs5_ := is2x d_hs5_
      have yrd_ := eT d_hr_
      exact i32e (by omega)
    · have qd_hs5_ := is2x d_hs5_
      have yrd_ := eT d_hr_
      exact i32e (by omega)
  · have qc_hs5_ := x10has c_hs5_
    have qc_hs69_ := err1 c_hs69_
    have yrc_ := eT c_hr_
    unfold SP_X12_farthest at h2
    rcases h2 with (⟨d_hs5_, d_h4_, (⟨d_hs11_, d_h10_, (⟨d_hs17_, d_h16_, d_r19_, d_hs23_, d_h22_, d_v4_40, d_hv0_40, d_M_40, d_hL_40, d_hI_40, d_hF_40, (⟨d_h25_, d_M27_, -, d_hF31_, d_r26_, d_hs33_, d_h29_, d_hr_, d_hM_⟩ | ⟨d_h25_, d_r34_, d_hs38_, d_h37_, d_z39_, d_h40_, d_z41_, d_h42_, d_M44_, -, d_hF48_, d_r43_, d_hs50_, d_h46_, d_h51_, d_hr_, d_hM_⟩)⟩ | ⟨d_hs17_, d_M56_, -, d_hF60_, d_r55_, d_hs62_, d_h58_, d_hr_, d_hM_⟩)⟩ | ⟨d_hs11_, d_h10_, d_M65_, -, d_hF69_, d_r64_, d_hs71_, d_h67_, d_hr_, d_hM_⟩)⟩ | ⟨d_hs5_, d_M74_, -, d_hF78_, d_r73_, d_hs80_, d_h76_, d_hr_, d_hM_⟩)
    · have qd_hs5_ := is2x d_hs5_
      have qd_hs17_ := x12clk d_hs17_
      have yrd_ := eT d_hr_
      exfalso; omega
    · have qd_hs5_ := is2x d_hs5_
      have qd_hs17_ := x12clk d_hs17_
      have yrd_ := eT d_hr_
      exfalso; omega
    · have qd_hs5_ := is2x d_hs5_
      have qd_hs17_ := x12clk d_hs17_
      have yrd_ := eT d_hr_
      exact i32e (by omega)
    · have qd_hs5_ := is2x d_hs5_
      have yrd_ := eT d_hr_
      exact i32e (by omega)
    · have qd_hs5_ := is2x d_hs5_
      have yrd_ := eT d_hr_
      exact i32e (by omega)
  · have qc_hs5_ := x10has c_hs5_
    have qc_hs78_ := err1 c_hs78_
    have yrc_ := eT c_hr_
    unfold SP_X12_farthest at h2
    rcases h2 with (⟨d_hs5_, d_h4_, (⟨d_hs11_, d_h10_, (⟨d_hs17_, d_h16_, d_r19_, d_hs23_, d_h22_, d_v4_40, d_hv0_40, d_M_40, d_hL_40, d_hI_40, d_hF_40, (⟨d_h25_, d_M27_, -, d_hF31_, d_r26_, d_hs33_, d_h29_, d_hr_, d_hM_⟩ | ⟨d_h25_, d_r34_, d_hs38_, d_h37_, d_z39_, d_h40_, d_z41_, d_h42_, d_M44_, -, d_hF48_, d_r43_, d_hs50_, d_h46_, d_h51_, d_hr_, d_hM_⟩)⟩ | ⟨d_hs17_, d_M56_, -, d_hF60_, d_r55_, d_hs62_, d_h58_, d_hr_, d_hM_⟩)⟩ | ⟨d_hs11_, d_h10_, d_M65_, -, d_hF69_, d_r64_, d_hs71_, d_h67_, d_hr_, d_hM_⟩)⟩ | ⟨d_hs5_, d_M74_, -, d_hF78_, d_r73_, d_hs80_, d_h76_, d_hr_, d_hM_⟩)
    · have qd_hs5_ := is2x d_hs5_
      have qd_hs17_ := x12clk d_hs17_
      have yrd_ := eT d_hr_
      exfalso; omega
    · have qd_hs5_ := is2x d_hs5_
      have qd_hs17_ := x12clk d_hs17_
      have yrd_ := eT d_hr_
      exfalso; omega
    · have qd_hs5_ := is2x d_hs5_
      have qd_hs17_ := x12clk d_hs17_
      have yrd_ := eT d_hr_
      exact i32e (by omega)
    · have qd_hs5_ := is2x d_hs5_
      have yrd_ := eT d_hr_
      exact i32e (by omega)
    · have qd_hs5_ := is2x d_hs5_
      have yrd_ := eT d_hr_
      exact i32e (by omega)
end
