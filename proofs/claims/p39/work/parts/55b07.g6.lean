/-! what comes back from a side -/
def FrS (o : Nat → Int) (w x : Int) : Prop := o x.toNat = -1 ∨ o x.toNat = 100 + w
def FrM (o : Nat → Int) (w x : Int) : Prop := o x.toNat = -1 ∨ (o x.toNat = 100 + w ∧ 100 ≤ o x.toNat)
def EchoP (F : Int → Prop) (c s R y : Int) : Prop := (1 ≤ y ∧ y ≤ R ∧ (∀ j : Int, 1 ≤ j → j < y → 0 ≤ onI c s j ∧ F (onI c s j)) ∧ 0 ≤ onI c s y ∧ ¬ F (onI c s y)) ∨
  (y = 0 ∧ ((∀ j : Int, 1 ≤ j → j ≤ R → 0 ≤ onI c s j ∧ F (onI c s j)) ∨ ∃ e : Int, 1 ≤ e ∧ e ≤ R ∧ (∀ j : Int, 1 ≤ j → j < e → 0 ≤ onI c s j ∧ F (onI c s j)) ∧ onI c s e < 0))
theorem EchoP_uniq {F : Int → Prop} {c s R y z : Int} (h : EchoP F c s R y) (g : EchoP F c s R z) : y = z := by
  have key : ∀ {a b : Int}, (1 ≤ a ∧ a ≤ R ∧ (∀ j : Int, 1 ≤ j → j < a → 0 ≤ onI c s j ∧ F (onI c s j)) ∧ 0 ≤ onI c s a ∧ ¬ F (onI c s a)) → (1 ≤ b ∧ b ≤ R ∧ (∀ j : Int, 1 ≤ j → j < b → 0 ≤ onI c s j ∧ F (onI c s j)) ∧ 0 ≤ onI c s b ∧ ¬ F (onI c s b)) → ¬ a < b := fun h g q => h.2.2.2.2 (g.2.2.1 _ h.1 q).2
  have key2 : ∀ {a : Int}, (1 ≤ a ∧ a ≤ R ∧ (∀ j : Int, 1 ≤ j → j < a → 0 ≤ onI c s j ∧ F (onI c s j)) ∧ 0 ≤ onI c s a ∧ ¬ F (onI c s a)) → ((∀ j : Int, 1 ≤ j → j ≤ R → 0 ≤ onI c s j ∧ F (onI c s j)) ∨ ∃ e : Int, 1 ≤ e ∧ e ≤ R ∧ (∀ j : Int, 1 ≤ j → j < e → 0 ≤ onI c s j ∧ F (onI c s j)) ∧ onI c s e < 0) → False := fun {a} h g => by
    rcases g with g | ⟨e, e1, e2, e3, e4⟩
    · exact h.2.2.2.2 (g a h.1 h.2.1).2
    · rcases Int.lt_trichotomy e a with q | q | q
      · have := (h.2.2.1 e e1 q).1; omega
      · have := h.2.2.2.1; rw [← q] at this; omega
      · exact h.2.2.2.2 (e3 a h.1 q).2
  rcases h with h | h <;> rcases g with g | g
  · have a := key h g
    have b := key g h
    omega
  · exact (key2 h g.2).elim
  · exact (key2 g h.2).elim
  · rw [h.1, g.1]
theorem EchoP_cong {F G : Int → Prop} {c s R y : Int} (e : ∀ j : Int, 1 ≤ j → j ≤ R → 0 ≤ onI c s j → (F (onI c s j) ↔ G (onI c s j))) (h : EchoP F c s R y) : EchoP G c s R y := by
  have k : ∀ {a : Int}, a ≤ R + 1 → (∀ j : Int, 1 ≤ j → j < a → 0 ≤ onI c s j ∧ F (onI c s j)) → (∀ j : Int, 1 ≤ j → j < a → 0 ≤ onI c s j ∧ G (onI c s j)) := fun ha h j h1 h2 => ⟨(h j h1 h2).1, (e j h1 (by omega) (h j h1 h2).1).mp (h j h1 h2).2⟩
  rcases h with ⟨h1, h2, h3, h4, h5⟩ | ⟨h1, h2 | ⟨d, h2, h3, h4, h5⟩⟩
  · exact Or.inl ⟨h1, h2, k (by omega) h3, h4, fun q => h5 ((e y h1 h2 h4).mpr q)⟩
  · exact Or.inr ⟨h1, Or.inl (fun j a b => ⟨(h2 j a b).1, (e j a b (h2 j a b).1).mp (h2 j a b).2⟩)⟩
  · exact Or.inr ⟨h1, Or.inr ⟨d, h2, h3, k (by omega) h4, h5⟩⟩
theorem x10has {b : Nat} {v : Int32} {M : mM} {r : Int32} (h : SP_X10_hasWalker b v M r) : (r.toInt = 1 ∧ 0 ≤ v.toInt ∧ v.toInt < (M.1 (10, b, 0) 6).toInt ∧ v.toInt < 8) ∨ (r.toInt = 0 ∧ ¬ (0 ≤ v.toInt ∧ v.toInt < (M.1 (10, b, 0) 6).toInt ∧ v.toInt < 8)) := by
  have q0 := il_0
  have q1 := il_1
  unfold SP_X10_hasWalker at h
  rcases h with (⟨h1_, hr_⟩ | ⟨h1_, z2_, e3_, (⟨h4_, hr_⟩ | ⟨h4_, (⟨h5_, hr_⟩ | ⟨h5_, hr_⟩)⟩)⟩)
  · have := eT hr_; omega
  · have := eT hr_; have := eT e3_; omega
  · have := eT hr_; have := eT e3_; omega
  · have := eT hr_; have := eT e3_; omega
theorem x10echo {b : Nat} {v u t : Int32} {M : mM} {r : Int32} (h : SP_X10_echoYards b v u t M r) (hv : 0 ≤ v.toInt ∧ v.toInt ≤ 7 ∧ v.toInt < (M.1 (10, b, 0) 6).toInt) (hk : 0 ≤ (M.1 (9, b, v.toInt.toNat) 0).toInt ∧ (M.1 (9, b, v.toInt.toNat) 0).toInt ≤ 7) (hu : 0 ≤ u.toInt ∧ u.toInt ≤ 191) (ht : 0 ≤ t.toInt ∧ t.toInt ≤ 7) : EchoP (FrS (occ b M.1) v.toInt) u.toInt t.toInt (reachI (M.1 (9, b, v.toInt.toNat) 0).toInt) r.toInt := by
  have q0 := il_0
  have q1 := il_1
  have rb := reachI_b (M.1 (9, b, v.toInt.toNat) 0).toInt
  have G : ∀ (R x : Int32), RCH (fun x_ y_ => ST_X10_echoYards_26 b v u t M R x_ y_) (1 : Int32) x → R.toInt ≤ 12 → 1 ≤ x.toInt ∧ ∀ j : Int, 1 ≤ j → j < x.toInt → 0 ≤ onI u.toInt t.toInt j ∧ FrS (occ b M.1) v.toInt (onI u.toInt t.toInt j) := fun R x hL hR =>
    rind hL (fun x => 1 ≤ x.toInt ∧ ∀ j : Int, 1 ≤ j → j < x.toInt → 0 ≤ onI u.toInt t.toInt j ∧ FrS (occ b M.1) v.toInt (onI u.toInt t.toInt j)) ⟨by omega, fun j h1 h2 => by omega⟩ (fun x z hp hst => by
      (try dsimp only at hp hst ⊢)
      unfold ST_X10_echoYards_26 at hst
      rcases hst with ⟨p_hv0_26, p_h16_, p_r17_, p_hs21_, p_h20_, p_h22_, p_r23_, p_hs27_, p_h26_, p_h28_, p_z29_, p_h30_, p_hq_v5_26y⟩
      have cf := cF_spec p_hs21_
      have bt := x10but p_hs27_ ⟨hv.1, hv.2.1⟩
      rw [p_hq_v5_26y]
      refine ⟨by omega, fun j h1 h2 => ?_⟩
      by_cases e : j = x.toInt
      · have e2 : p_r17_.toInt = onI u.toInt t.toInt x.toInt := by omega
        rw [e, ← e2]
        exact ⟨p_h22_, by unfold FrS; omega⟩
      · exact hp.2 j h1 (by omega))
  unfold SP_X10_echoYards at h
  rcases h with (⟨hs5_, h4_, j7_, h8_, h9_, r10_, hs14_, h13_, v5_26, hv0_26, hL_26, (⟨h16_, hr_⟩ | ⟨h16_, r17_, hs21_, h20_, (⟨h22_, r23_, hs27_, h26_, h28_, hr_⟩ | ⟨h22_, hr_⟩)⟩)⟩ | ⟨hs5_, v5_26, hv0_26, hL_26, h33_, hr_⟩)
  · obtain rfl : j7_ = v.toInt.toNat := by omega
    have a := x9reach hs14_ hk
    have g := G _ _ hL_26 (by omega)
    rw [hr_, il_0]
    exact Or.inr ⟨rfl, Or.inl (fun j h1 h2 => g.2 j h1 (by omega))⟩
  · obtain rfl : j7_ = v.toInt.toNat := by omega
    have a := x9reach hs14_ hk
    have g := G _ _ hL_26 (by omega)
    have cf := cF_spec hs21_
    have bt := x10but hs27_ ⟨hv.1, hv.2.1⟩
    have e2 : r17_.toInt = onI u.toInt t.toInt v5_26.toInt := by omega
    rw [hr_]
    exact Or.inl ⟨g.1, by omega, g.2, by omega, by rw [← e2]; unfold FrS; omega⟩
  · obtain rfl : j7_ = v.toInt.toNat := by omega
    have a := x9reach hs14_ hk
    have g := G _ _ hL_26 (by omega)
    have cf := cF_spec hs21_
    have e2 : r17_.toInt = onI u.toInt t.toInt v5_26.toInt := by omega
    rw [hr_, il_0]
    exact Or.inr ⟨rfl, Or.inr ⟨v5_26.toInt, g.1, by omega, g.2, by omega⟩⟩
  · have := x10has hs5_
    omega
theorem x12echo {b : Nat} {q : rf → Nat → Int32} {v u t : Int32} {M : mM} {r : Int32} (h : SP_X12_echoFrom v u t M r) (hO : OCC b q (M.1 (50, 0, 0))) (hu : 0 ≤ v.toInt ∧ v.toInt ≤ 191) (hs : 0 ≤ u.toInt ∧ u.toInt ≤ 7) (ht : 0 ≤ t.toInt ∧ t.toInt ≤ 12) (hn : -1 ≤ (M.1 (12, 0, 0) 7).toInt) : EchoP (FrM (occ b q) (M.1 (12, 0, 0) 7).toInt) v.toInt u.toInt t.toInt r.toInt := by
  have q0 := il_0
  have q1 := il_1
  unfold SP_X12_echoFrom at h
  rcases h with ⟨v4_3, hv0_3, hv1_3, hv2_3, hL_3, (⟨h2_, hr_⟩ | ⟨h2_, r3_, hs7_, h6_, (⟨h8_, hr_⟩ | ⟨h8_, h9_, r10_, hs14_, h13_, r15_, hs19_, h18_, h20_, hr_⟩)⟩)⟩
  all_goals
    have g := rind hL_3 (fun x => 1 ≤ x.toInt ∧ ∀ j : Int, 1 ≤ j → j < x.toInt → 0 ≤ onI v.toInt u.toInt j ∧ FrM (occ b q) (M.1 (12, 0, 0) 7).toInt (onI v.toInt u.toInt j)) ⟨by omega, fun j h1 h2 => by omega⟩ (fun x z hp hst => by
      (try dsimp only at hp hst ⊢)
      unfold ST_X12_echoFrom_3 at hst
      rcases hst with ⟨p_hv0_3, p_hv1_3, p_hv2_3, p_h2_, p_r3_, p_hs7_, p_h6_, p_h8_, p_h9_, p_r10_, p_hs14_, p_h13_, p_r15_, p_hs19_, p_h18_, p_h20_, p_z21_, p_h22_, p_hq_v4_3y⟩
      have c1 := on_spec p_h6_.1 hu hs (by omega)
      have c2 := on_spec p_h13_.1 hu hs (by omega)
      have bt := x12free p_hs19_ hO (by omega) hn
      rw [p_hq_v4_3y]
      refine ⟨by omega, fun j h1 h2 => ?_⟩
      by_cases e : j = x.toInt
      · rw [e, ← c2]
        exact ⟨by omega, by unfold FrM; omega⟩
      · exact hp.2 j h1 (by omega))
    (try dsimp only at g)
  · rw [hr_, il_0]
    exact Or.inr ⟨rfl, Or.inl (fun j h1 h2 => g.2 j h1 (by omega))⟩
  · have c1 := on_spec h6_.1 hu hs (by omega)
    rw [hr_, il_0]
    exact Or.inr ⟨rfl, Or.inr ⟨v4_3.toInt, g.1, by omega, g.2, by omega⟩⟩
  · have c1 := on_spec h6_.1 hu hs (by omega)
    have c2 := on_spec h13_.1 hu hs (by omega)
    have bt := x12free hs19_ hO (by omega) hn
    rw [hr_]
    exact Or.inl ⟨g.1, by omega, g.2, by omega, by rw [← c2]; unfold FrM; omega⟩
/-- the kind in a cell -/
def kindS (n : Nat → Int32) (o : Nat → Int) (x : Int) : Int := if 0 ≤ o x.toNat ∧ o x.toNat < nTh n then (n (20 + 4 * (o x.toNat).toNat)).toInt else 3
theorem x7has {b : Nat} {v : Int32} {M : mM} {r : Int32} (h : SP_X7_hasThing b v M r) : (r.toInt = 1 ∧ 0 ≤ v.toInt ∧ v.toInt < (M.1 (7, b, 0) 5).toInt ∧ v.toInt < 40) ∨ (r.toInt = 0 ∧ ¬ (0 ≤ v.toInt ∧ v.toInt < (M.1 (7, b, 0) 5).toInt ∧ v.toInt < 40)) := by
  have q0 := il_0
  have q1 := il_1
  unfold SP_X7_hasThing at h
  rcases h with (⟨h1_, hr_⟩ | ⟨h1_, z2_, e3_, (⟨h4_, hr_⟩ | ⟨h4_, (⟨h5_, hr_⟩ | ⟨h5_, hr_⟩)⟩)⟩)
  · have := eT hr_; omega
  · have := eT hr_; have := eT e3_; omega
  · have := eT hr_; have := eT e3_; omega
  · have := eT hr_; have := eT e3_; omega
theorem nTh_b {n : Nat → Int32} (h : NW5 n) : 0 ≤ nTh n ∧ nTh n ≤ 40 := (h.1 1).1 rfl
theorem nWa_b {n : Nat → Int32} (h : NW5 n) : 0 ≤ nWa n ∧ nWa n ≤ 8 := (h.1 2).2.1 rfl
theorem kindS_b {n : Nat → Int32} {o : Nat → Int} {x : Int} (h : NW5 n) : 0 ≤ kindS n o x ∧ kindS n o x ≤ 4 := by
  unfold kindS
  have := nTh_b h
  split
  · rename_i g
    exact ((h.1 (20 + 4 * (o x.toNat).toNat)).2.2.2.2.2.2.1 (by omega) (by omega)).1 (by omega)
  · omega
theorem x7kindIn {b : Nat} {v : Int32} {M : mM} {r : Int32} {n : Nat → Int32} (h : SP_X7_kindIn b v M r) (hv : 0 ≤ v.toInt ∧ v.toInt ≤ 191) (hT : THR b M.1 n) (hN : NW5 n) : r.toInt = kindS n (occ b M.1) v.toInt := by
  have q0 := il_0
  have q1 := il_1
  have q3 : (3 : Int32).toInt = 3 := by decide
  have nb := nTh_b hN
  have e1 := eT hT.1
  unfold nTh at nb
  unfold kindS occ
  unfold SP_X7_kindIn at h
  rcases h with (⟨hs5_, h4_, j9_, h10_, z7_, e8_, (⟨hs15_, h14_, j19_, h20_, z17_, e18_, hr_⟩ | ⟨hs15_, hr_⟩)⟩ | ⟨hs5_, h4_, hs27_, hr_⟩)
  · obtain rfl : j9_ = v.toInt.toNat := by omega
    have g := x7has hs15_
    have y := eT e8_
    rw [if_pos (by unfold nTh; omega), hr_, e18_, (hT.2 j19_ (by unfold nTh; omega)).1]
    rw [show j19_ = (M.1 (35, b, 0) v.toInt.toNat).toInt.toNat by omega]
  · obtain rfl : j9_ = v.toInt.toNat := by omega
    have g := x7has hs15_
    have y := eT e8_
    rw [if_neg (by unfold nTh; omega), hr_, q3]
  · omega
theorem x12kindIn {b : Nat} {q : rf → Nat → Int32} {v : Int32} {M : mM} {r : Int32} (h : SP_X12_kindIn v M r) (hO : OCC b q (M.1 (50, 0, 0))) (hv : 0 ≤ v.toInt ∧ v.toInt ≤ 191) (hn : -1 ≤ (M.1 (12, 0, 0) 7).toInt) (hf : ¬ FrM (occ b q) (M.1 (12, 0, 0) 7).toInt v.toInt) (hD : InvD M) : r.toInt = kindS (M.1 (50, 0, 0)) (occ b q) v.toInt := by
  have q3 : (3 : Int32).toInt = 3 := by decide
  have o3 := hO.2.2 v.toInt.toNat (by omega)
  have nb := nTh_b hD.2.1
  unfold FrM at hf
  unfold kindS
  unfold SP_X12_kindIn at h
  rcases h with ⟨r1_, hs5_, h4_, (⟨h6_, hr_⟩ | ⟨h6_, r7_, hs11_, h10_, z12_, h13_, j16_, h17_, z14_, e15_, h18_, hr_⟩)⟩
  all_goals
    have a := x12in hs5_ hO hv hn
    rw [if_neg (by omega)] at a
  · rw [if_neg (by omega), hr_, q3]
  · rw [if_pos (by omega), hr_, e15_, show j16_ = 20 + 4 * (occ b q v.toInt.toNat).toNat by omega]
/-- what a walker would hear by its own click from a cell, by sides -/
def HyP (n : Nat → Int32) (o : Nat → Int) (w : Nat) (c s : Int32) (r : Int) : Prop := ∃ y : Int32, EchoP (FrS o w) c.toInt s.toInt (reachI (n (180 + 9 * w)).toInt) y.toInt ∧
  ((y.toInt = 0 ∧ r = 0) ∨ (¬ y.toInt = 0 ∧ ((r = y.toInt ∧ heS n (earsI (n (180 + 9 * w)).toInt) (kindS n o (onI c.toInt s.toInt y.toInt)).toNat (n (183 + 9 * w)) (n (184 + 9 * w)) s y) ∨ (r = 0 ∧ ¬ heS n (earsI (n (180 + 9 * w)).toInt) (kindS n o (onI c.toInt s.toInt y.toInt)).toNat (n (183 + 9 * w)) (n (184 + 9 * w)) s y))))
theorem HyP_uniq {n : Nat → Int32} {o : Nat → Int} {w : Nat} {c s : Int32} {r z : Int} (h : HyP n o w c s r) (g : HyP n o w c s z) : r = z := by
  obtain ⟨y, h1, h2⟩ := h
  obtain ⟨y', g1, g2⟩ := g
  obtain rfl : y = y' := i32e (EchoP_uniq h1 g1)
  rcases h2 with h2 | ⟨h2, h3 | h3⟩ <;> rcases g2 with g2 | ⟨g2, g3 | g3⟩
  · omega
  · omega
  · omega
  · omega
  · omega
  · exact absurd h3.2 g3.2
  · omega
  · exact absurd g3.2 h3.2
  · omega
theorem own_pl {p l z a : Int32} (h1 : a = (100 : Int32) * p) (h2 : z = a + l) (hp : 1 ≤ p.toInt ∧ p.toInt ≤ 9) (hl : 1 ≤ l.toInt ∧ l.toInt ≤ 99) : z / (100 : Int32) = p ∧ z - z / (100 : Int32) * (100 : Int32) = l := by
  have i100 : (100 : Int32).toInt = 100 := by decide
  have e1 : a.toInt = 100 * p.toInt := by rw [h1]; exact mulI i100 rfl (by omega) (by omega)
  have e2 : z.toInt = 100 * p.toInt + l.toInt := by rw [h2]; exact addI e1 rfl (by omega) (by omega)
  have d := divI (x := z) (y := (100 : Int32)) rfl i100 (by omega) (by omega)
  have m := remI (x := z) (y := (100 : Int32)) rfl i100 (by omega) (by omega)
  exact ⟨i32e (by omega), i32e (by omega)⟩
def WRR (b : Nat) (q : rf → Nat → Int32) (n : Nat → Int32) : Prop := LWR b q n ∧ THR b q n ∧ WAR b q n ∧ TXR b q n ∧ OCC b q n ∧ MIR n
theorem x10heard {b : Nat} {v u t : Int32} {M M' : mM} {r : Int32} {n : Nat → Int32} (h : SP_X10_heardYards b v u t M r M') (hR : WRR b M.1 n) (hN : NW5 n) (hv : 0 ≤ v.toInt ∧ v.toInt < nWa n) (hu : 0 ≤ u.toInt ∧ u.toInt ≤ 191) (ht : 0 ≤ t.toInt ∧ t.toInt ≤ 7) : HyP n (occ b M.1) v.toInt.toNat u t r.toInt := by
  have q0 := il_0
  obtain ⟨hL, hT, hW, hX, hO, hM⟩ := hR
  have nw := nWa_b hN
  have ec := eT hW.1
  have w1 := (hW.2 v.toInt.toNat (by omega)).1
  have k0 := w1 0 (by omega)
  have k3 := w1 3 (by omega)
  have k4 := w1 4 (by omega)
  simp only [Nat.add_zero] at k0
  have kb := ((hN.1 (180 + 9 * v.toInt.toNat)).2.2.2.2.2.2.2 (by omega) (by omega)).1 (by omega)
  have mp := hM.1 v.toInt.toNat (by omega)
  unfold HyP
  unfold nWa at hv nw
  unfold SP_X10_heardYards at h
  obtain ⟨r1_, hs5_, h4_, h⟩ := h
  have E := x10echo hs5_ ⟨hv.1, by omega, by omega⟩ (by rw [k0]; exact kb) hu ht
  rw [k0] at E
  have ev : FrS (occ b M.1) v.toInt = FrS (occ b M.1) ((v.toInt.toNat : Nat) : Int) := by rw [show ((v.toInt.toNat : Nat) : Int) = v.toInt by omega]
  rw [ev] at E
  refine ⟨r1_, E, ?_⟩
  rcases h with ⟨h6_, hr_, -⟩ | ⟨h6_, h⟩
  · exact Or.inl ⟨h6_, by rw [hr_]; exact il_0⟩
  · right
    refine ⟨h6_, ?_⟩
    rcases h with ⟨hs11_, h10_, j13_, h14_, h15_, r16_, hs20_, h19_, r21_, hs25_, r26_, hs30_, h29_, r31_, hs35_, M37_, hI40_, hF41_, r36_, hs43_, h39_, h⟩ | ⟨hs11_, hr_, -⟩
    · obtain rfl : j13_ = v.toInt.toNat := by omega
      have cf := cF_spec hs20_
      have e16 : r16_.toInt = onI u.toInt t.toInt r1_.toInt := by omega
      have c16 : 0 ≤ r16_.toInt := by
        unfold EchoP at E
        omega
      have kk := x7kindIn hs25_ ⟨c16, h19_.2⟩ hT hN
      have kb2 := kindS_b (o := occ b M.1) (x := r16_.toInt) hN
      have ee := x9ears hs30_ (by rw [k0]; exact kb)
      rw [k0] at ee
      have oc : r31_ / (100 : Int32) = n (183 + 9 * v.toInt.toNat) ∧ r31_ - r31_ / (100 : Int32) * (100 : Int32) = n (184 + 9 * v.toInt.toNat) := by
        unfold SP_X9_ownClick at hs35_
        rcases hs35_ with ⟨z1_, e2_, z3_, h4_, z5_, e6_, z7_, h8_, hr_⟩
        rw [k3, show 180 + 9 * v.toInt.toNat + 3 = 183 + 9 * v.toInt.toNat by omega] at e2_
        rw [k4, show 180 + 9 * v.toInt.toNat + 4 = 184 + 9 * v.toInt.toNat by omega] at e6_
        rw [← e2_, ← e6_, hr_]
        exact own_pl h4_ h8_ (by rw [e2_]; exact mp.1) (by rw [e6_]; exact mp.2)
      have hh := x2hears hs43_ hL hX hN.2 (by omega) (by omega) ht
      rw [oc.2, oc.1, ee, kk, e16] at hh
      rcases h with ⟨h44_, hr_, -⟩ | ⟨h44_, hr_, -⟩
      · exact Or.inr ⟨by rw [hr_]; exact il_0, (hh.resolve_left (fun q => by omega)).2⟩
      · exact Or.inl ⟨by rw [hr_], (hh.resolve_right (fun q => by omega)).2⟩
    · have := x10has hs11_
      omega
theorem x12heard {b : Nat} {q : rf → Nat → Int32} {v u t : Int32} {M M' : mM} {r : Int32} (h : SP_X12_heardFrom v u t M r M') (hO : OCC b q (M.1 (50, 0, 0))) (hD : InvD M) (hx : ∀ w, w < 3 → ∀ i : Nat, (i : Int) < (M.1 (50, 0, 0) (345 + 50 * w)).toInt → cOK (nnU w) (M.1 (50, 0, 0) (346 + 50 * w + i))) (hv : 0 ≤ v.toInt ∧ v.toInt < nWa (M.1 (50, 0, 0))) (hu : 0 ≤ u.toInt ∧ u.toInt ≤ 191) (ht : 0 ≤ t.toInt ∧ t.toInt ≤ 7)
    (hn : (M.1 (12, 0, 0) 7).toInt = v.toInt ∨ ((M.1 (12, 0, 0) 7).toInt = -1 ∧ u.toInt = wcl (M.1 (50, 0, 0)) v.toInt.toNat)) : HyP (M.1 (50, 0, 0)) (occ b q) v.toInt.toNat u t r.toInt := by
  have q0 := il_0
  have nw := nWa_b hD.2.1
  have nT := nTh_b hD.2.1
  have fr : ∀ j : Int, 1 ≤ j → j ≤ 12 → 0 ≤ onI u.toInt t.toInt j → (FrM (occ b q) (M.1 (12, 0, 0) 7).toInt (onI u.toInt t.toInt j) ↔ FrS (occ b q) ((v.toInt.toNat : Nat) : Int) (onI u.toInt t.toInt j)) := fun j h1 h2 h3 => by
    have b := onI_b (c := u.toInt) (s := t.toInt) (y := j)
    have o3 := hO.2.2 (onI u.toInt t.toInt j).toNat (by omega)
    unfold FrM FrS
    rcases hn with hn | ⟨hn, hc⟩
    · omega
    · have ne := onI_ne hu ht ⟨h1, (by omega : j ≤ 15)⟩
      refine ⟨fun z => by omega, fun z => ?_⟩
      rcases o3 with o | o | o
      · omega
      · omega
      · rcases z with z | z
        · omega
        · exfalso
          have e := o.2.2
          rw [z, show (100 + ((v.toInt.toNat : Nat) : Int) - 100).toNat = v.toInt.toNat by omega, ← hc] at e
          omega
  unfold HyP
  unfold SP_X12_heardFrom at h
  obtain ⟨r1_, hs5_, h4_, r6_, hs10_, h9_, r11_, hs15_, h14_, h⟩ := h
  have rr := x12reach hs5_ ⟨hv.1, by omega⟩
  have E := x12echo hs10_ hO hu ht h4_ (by omega)
  have E2 := EchoP_cong (fun j a c d => fr j a (by omega) d) E
  rw [rr] at E2
  refine ⟨r6_, E2, ?_⟩
  rcases h with ⟨h16_, hr_, -⟩ | ⟨h16_, r18_, hs22_, h21_, r23_, hs27_, h26_, r28_, hs32_, h31_, z33_, h34_, j37_, h38_, z35_, e36_, z39_, h40_, j43_, h44_, z41_, e42_, M46_, hI49_, hF50_, r45_, hs52_, h48_, h⟩
  · exact Or.inl ⟨by omega, by rw [hr_]; exact il_0⟩
  · right
    refine ⟨by omega, ?_⟩
    have e23 := on_spec h26_.1 hu ht (by omega)
    have nf : 0 ≤ r23_.toInt ∧ ¬ FrM (occ b q) (M.1 (12, 0, 0) 7).toInt r23_.toInt := by
      rw [e23]
      rcases E with E | E
      · exact E.2.2.2
      · omega
    have kk := x12kindIn hs32_ hO ⟨nf.1, by omega⟩ (by omega) nf.2 hD
    have kb2 := kindS_b (n := M.1 (50, 0, 0)) (o := occ b q) (x := r23_.toInt) hD.2.1
    have ee := x12ears hs22_ ⟨hv.1, by omega⟩
    have hh := x12isHeard hs52_ hD hx (by omega) ht (by omega)
    rw [ee, kk, e23, e36_, e42_, show j37_ = 183 + 9 * v.toInt.toNat by omega, show j43_ = 184 + 9 * v.toInt.toNat by omega] at hh
    rcases h with ⟨h53_, hr_, -⟩ | ⟨h53_, hr_, -⟩
    · exact Or.inr ⟨by rw [hr_]; exact il_0, (hh.resolve_left (fun q => by omega)).2⟩
    · exact Or.inl ⟨by rw [hr_], (hh.resolve_right (fun q => by omega)).2⟩
