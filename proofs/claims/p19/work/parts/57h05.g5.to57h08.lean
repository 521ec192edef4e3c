section
/-! kinds of walkers -/
def reachI (k : Int) : Int := if k = 0 then 3 else if k = 1 then 12 else if k = 2 then 1 else if k = 3 then 6 else if k = 4 then 0 else if k = 5 then 6 else if k = 6 then 5 else 10
def earsI (k : Int) : Int := if k = 6 then 5 else 9
def speedI (k : Int) : Int := if k = 7 then 2 else 1
def abI (k : Int) : Int := if k ≤ 0 then -1 else if k = 5 ∨ k = 7 then 1 else if k = 6 then 3 else 0
def dpI (k : Int) : Int := if k < 0 then 0 else if k = 0 then 1 else if k ≤ 4 then 2 else 3
def undP (k o : Int) : Prop := 0 ≤ k ∧ (o = k ∨ o = 0 ∨ ((k = 5 ∨ k = 7) ∧ o = 1) ∨ (k = 6 ∧ o = 3))
theorem tbl_re : ∀ j : Nat, j < 8 → (([3, 12, 1, 6, 0, 6, 5, 10] : List Int32).getD j 0).toInt = reachI (j : Int) := by decide +kernel
theorem tbl_ears : ∀ j : Nat, j < 8 → (([9, 9, 9, 9, 9, 9, 5, 9] : List Int32).getD j 0).toInt = earsI (j : Int) := by decide +kernel
theorem tbl_spd : ∀ j : Nat, j < 8 → (([1, 1, 1, 1, 1, 1, 1, 2] : List Int32).getD j 0).toInt = speedI (j : Int) := by decide +kernel
theorem tbl_abv : ∀ j : Nat, j < 8 → (([-1, 0, 0, 0, 0, 1, 3, 1] : List Int32).getD j 0).toInt = abI (j : Int) := by decide +kernel
theorem reachI_b (k : Int) : 0 ≤ reachI k ∧ reachI k ≤ 12 := by
  unfold reachI
  repeat' split
  all_goals omega
theorem x9reach {b w : Nat} {M : mM} {r : Int32} (h : SP_X9_reach b w M r) (hk : 0 ≤ (M.1 (9, b, w) 0).toInt ∧ (M.1 (9, b, w) 0).toInt ≤ 7) : r.toInt = reachI (M.1 (9, b, w) 0).toInt := by
  refine xE_SP_X9_reach h (fun z1_ e2_ => ⟨(fun h3_ hr_ => ?_), (fun h3_ => ⟨(fun h6_ hr_ => ?_), (fun h6_ j11_ h12_ z9_ e10_ h13_ hr_ => ?_)⟩)⟩)
  · have := eT e2_; omega
  · have := eT e2_; omega
  · have y := eT e2_
    rw [eT hr_, e10_, tbl_re j11_ (by omega), h12_, y]
theorem x9ears {b w : Nat} {M : mM} {r : Int32} (h : SP_X9_ears b w M r) (hk : 0 ≤ (M.1 (9, b, w) 0).toInt ∧ (M.1 (9, b, w) 0).toInt ≤ 7) : r.toInt = earsI (M.1 (9, b, w) 0).toInt := by
  refine xE_SP_X9_ears h (fun z1_ e2_ => ⟨(fun h3_ hr_ => ?_), (fun h3_ => ⟨(fun h6_ hr_ => ?_), (fun h6_ j11_ h12_ z9_ e10_ h13_ hr_ => ?_)⟩)⟩)
  · have := eT e2_; omega
  · have := eT e2_; omega
  · have y := eT e2_
    rw [eT hr_, e10_, tbl_ears j11_ (by omega), h12_, y]
theorem x9speed {b w : Nat} {M : mM} {r : Int32} (h : SP_X9_speed b w M r) (hk : 0 ≤ (M.1 (9, b, w) 0).toInt ∧ (M.1 (9, b, w) 0).toInt ≤ 7) : r.toInt = speedI (M.1 (9, b, w) 0).toInt := by
  refine xE_SP_X9_speed h (fun z1_ e2_ => ⟨(fun h3_ hr_ => ?_), (fun h3_ => ⟨(fun h6_ hr_ => ?_), (fun h6_ j11_ h12_ z9_ e10_ h13_ hr_ => ?_)⟩)⟩)
  · have := eT e2_; omega
  · have := eT e2_; omega
  · have y := eT e2_
    rw [eT hr_, e10_, tbl_spd j11_ (by omega), h12_, y]
theorem x9above {v : Int32} {M : mM} {r : Int32} (h : SP_X9_kindAbove v M r) (hv : -1 ≤ v.toInt ∧ v.toInt ≤ 7) : r.toInt = abI v.toInt := by
  have qm := il_m1
  unfold abI
  refine xE_SP_X9_kindAbove h ⟨(fun h1_ hr_ => ?_), (fun h1_ => ⟨(fun h2_ hr_ => ?_), (fun h2_ j5_ h6_ z3_ e4_ hr_ => ?_)⟩)⟩
  · have := eT hr_; rw [if_pos (by omega)]; omega
  · omega
  · have e := tbl_abv j5_ (by omega)
    rw [← e4_, ← hr_, h6_] at e
    exact e
theorem und_step {k x o a : Int} (hx : 0 ≤ x ∧ x ≤ 7) (hn : ¬ x = o) (ha : a = abI x) (h : undP k o ↔ undP x o) : undP k o ↔ undP a o := by
  rw [h, ha]
  unfold undP abI
  repeat' split
  all_goals omega
theorem dp3 (k : Int) : 0 ≤ dpI k ∧ dpI k ≤ 3 := by
  unfold dpI
  repeat' split
  all_goals omega
theorem ab_rng (k : Int) : -1 ≤ abI k ∧ abI k ≤ 7 := by
  unfold abI
  repeat' split
  all_goals omega
theorem dp_ab {k : Int} (h : 0 ≤ k) (h7 : k ≤ 7) : dpI (abI k) + 1 ≤ dpI k := by
  rcases (show k = 0 ∨ k = 1 ∨ k = 2 ∨ k = 3 ∨ k = 4 ∨ k = 5 ∨ k = 6 ∨ k = 7 by omega) with rfl | rfl | rfl | rfl | rfl | rfl | rfl | rfl <;> decide
theorem x9isOf {b w : Nat} {v : Int32} {M : mM} {r : Int32} (h : SP_X9_isOf b w v M r) (hk : 0 ≤ (M.1 (9, b, w) 0).toInt ∧ (M.1 (9, b, w) 0).toInt ≤ 7) : (r.toInt = 1 ∧ undP (M.1 (9, b, w) 0).toInt v.toInt) ∨ (r.toInt = 0 ∧ ¬ undP (M.1 (9, b, w) 0).toInt v.toInt) := by
  have q0 := il_0
  have q1 := il_1
  refine xE_SP_X9_isOf h (fun z1_ e2_ v3_7 hv0_7 hv1_7 v2_7 hL_7 => ⟨(fun h4_ hr_ => ?_), (fun h4_ => ⟨(fun h5_ hr_ => ?_), (fun h5_ h6_ hr_ => ?_)⟩)⟩)
  all_goals
    have g := rind hL_7 (fun z => 0 ≤ z.1.toInt ∧ (-1 ≤ z.2.toInt ∧ z.2.toInt ≤ 7) ∧ z.1.toInt + dpI z.2.toInt ≤ 3 ∧ (undP (M.1 (9, b, w) 0).toInt v.toInt ↔ undP z.2.toInt v.toInt)) (by
      have y := eT e2_
      (try dsimp only)
      refine ⟨by omega, by omega, ?_, by rw [y]⟩
      first
        | (rw [il_0, Int.zero_add]; exact (dp3 _).2)
        | (unfold dpI; repeat' split; all_goals omega)) (fun x z hp hst => by
      obtain ⟨x1, x2⟩ := x
      obtain ⟨z1, z2⟩ := z
      (try dsimp only at hp hst ⊢)
      refine xE_ST_X9_isOf_7 hst (fun p_hv0_7 p_hv1_7 p_h4_ p_h5_ p_h6_ p_r7_ p_hs11_ p_z12_ p_h13_ p_hq_v3_7y p_hq_v2_7y => ?_)
      have a := x9above p_hs11_ hp.2.1
      rw [p_hq_v3_7y, p_hq_v2_7y]
      refine ⟨by omega, ?_, ?_, und_step ⟨p_h5_, hp.2.1.2⟩ p_h6_ a hp.2.2.2⟩
      · rw [a]
        exact ab_rng _
      · have d := hp.2.2.1
        rw [a, p_h13_]
        have e := dp_ab p_h5_ hp.2.1.2
        omega)
    (try dsimp only at g)
  · have := eT hr_
    have d := g.2.2.1
    unfold dpI at d
    repeat' split at d
    all_goals omega
  · have := eT hr_
    right
    refine ⟨by omega, fun u => ?_⟩
    have := g.2.2.2.mp u
    unfold undP at this
    omega
  · have := eT hr_
    left
    refine ⟨by omega, g.2.2.2.mpr ?_⟩
    unfold undP
    omega
theorem x12above {v : Int32} {M : mM} {r : Int32} (h : SP_X12_above v M r) (hv : 0 ≤ v.toInt ∧ v.toInt ≤ 7) : r.toInt = abI v.toInt := by
  have qm := il_m1
  have q0 := il_0
  have q1 := il_1
  have q3 : (3 : Int32).toInt = 3 := by decide
  unfold abI
  refine xE_SP_X12_above h ⟨(fun h1_ => ⟨(fun h2_ hr_ => ?_), (fun h2_ => ⟨(fun h3_ => ⟨(fun h4_ hr_ => ?_), (fun h4_ hr_ => ?_)⟩), (fun h3_ hr_ => ?_)⟩)⟩), (fun h1_ hr_ => ?_)⟩
  all_goals
    have := eT hr_
    repeat' split
    all_goals omega
theorem x12isUnder {v u : Int32} {M : mM} {r : Int32} (h : SP_X12_isUnder v u M r) (hk : 0 ≤ v.toInt ∧ v.toInt ≤ 7) : (r.toInt = 1 ∧ undP v.toInt u.toInt) ∨ (r.toInt = 0 ∧ ¬ undP v.toInt u.toInt) := by
  have q0 := il_0
  have q1 := il_1
  refine xE_SP_X12_isUnder h (fun v2_2 hL_2 => ⟨(fun h2_ h3_ hr_ => ?_), (fun h2_ h4_ h5_ hr_ => ?_)⟩)
  all_goals
    have g := rind hL_2 (fun z => (-1 ≤ z.toInt ∧ z.toInt ≤ 7) ∧ (undP v.toInt u.toInt ↔ undP z.toInt u.toInt)) ⟨by omega, Iff.rfl⟩ (fun x z hp hst => by
      (try dsimp only at hp hst ⊢)
      refine xE_ST_X12_isUnder_2 hst (fun p_h2_ p_h4_ p_r6_ p_hs10_ p_h9_ p_hq_v2_2y => ?_)
      have a := x12above p_hs10_ ⟨p_h2_, hp.1.2⟩
      rw [p_hq_v2_2y]
      refine ⟨?_, und_step ⟨p_h2_, hp.1.2⟩ p_h4_ a hp.2⟩
      rw [a]
      unfold abI
      repeat' split
      all_goals omega)
    (try dsimp only at g)
  · have := eT hr_
    right
    refine ⟨by omega, fun u => ?_⟩
    have := g.2.mp u
    unfold undP at this
    omega
  · have := eT hr_
    left
    refine ⟨by omega, g.2.mpr ?_⟩
    unfold undP
    omega
theorem x12kindOf {v : Int32} {M : mM} {r : Int32} (h : SP_X12_kindOf v M r) (hv : 0 ≤ v.toInt ∧ v.toInt ≤ 7) : r = M.1 (50, 0, 0) (180 + 9 * v.toInt.toNat) := by
  refine xE_SP_X12_kindOf h (fun r1_ hs5_ h4_ z6_ h7_ j10_ h11_ z8_ e9_ h12_ hr_ => ?_)
  obtain rfl : j10_ = 180 + 9 * v.toInt.toNat := by omega
  rw [hr_, e9_]
theorem x12reachOf {v : Int32} {M : mM} {r : Int32} (h : SP_X12_reachOf v M r) (hv : 0 ≤ v.toInt ∧ v.toInt ≤ 7) : r.toInt = reachI v.toInt := by
  have i3 : (3 : Int32).toInt = 3 := by decide
  have i0 := il_0
  have i1 := il_1
  unfold reachI
  refine xE_SP_X12_reachOf h ⟨(fun e1_ hr_ => ?_), (fun e1_ r2_ hs6_ h5_ z7_ h8_ hr_ => ?_), (fun e1_ hr_ => ?_), (fun e1_ r9_ hs13_ h12_ z14_ h15_ hr_ => ?_), (fun e1_ hr_ => ?_), (fun e1_ r16_ hs20_ h19_ z21_ h22_ hr_ => ?_), (fun e1_ r23_ hs27_ h26_ z28_ h29_ hr_ => ?_), (fun e1_ r30_ hs34_ h33_ z35_ h36_ hr_ => ?_)⟩
  all_goals
    have := eT hr_
    repeat' split
    all_goals omega
theorem x12reach {v : Int32} {M : mM} {r : Int32} (h : SP_X12_reach v M r) (hv : 0 ≤ v.toInt ∧ v.toInt ≤ 7) : r.toInt = reachI (M.1 (50, 0, 0) (180 + 9 * v.toInt.toNat)).toInt := by
  refine xE_SP_X12_reach h (fun r1_ hs5_ h4_ r6_ hs10_ h9_ hr_ => ?_)
  have a := x12kindOf hs5_ hv
  have c := x12reachOf hs10_ h4_
  rw [hr_, c, a]
theorem x12ears {v : Int32} {M : mM} {r : Int32} (h : SP_X12_ears v M r) (hv : 0 ≤ v.toInt ∧ v.toInt ≤ 7) : r.toInt = earsI (M.1 (50, 0, 0) (180 + 9 * v.toInt.toNat)).toInt := by
  have i5 : (5 : Int32).toInt = 5 := by decide
  have i9 : (9 : Int32).toInt = 9 := by decide
  refine xE_SP_X12_ears h (fun r1_ hs5_ h4_ => ⟨(fun h6_ hr_ => ?_), (fun h6_ hr_ => ?_)⟩)
  all_goals
    have a := x12kindOf hs5_ hv
    rw [← a]
    unfold earsI
    have := eT hr_
    split <;> omega
end
section
/-! what comes back from a side -/
def FrS (o : Nat → Int) (w x : Int) : Prop := o x.toNat = -1 ∨ o x.toNat = 100 + w
def FrM (o : Nat → Int) (w x : Int) : Prop := o x.toNat = -1 ∨ (o x.toNat = 100 + w ∧ 100 ≤ o x.toNat)
def EchoP (F : Int → Prop) (c s R y : Int) : Prop := (1 ≤ y ∧ y ≤ R ∧ (∀ j : Int, 1 ≤ j → j < y → 0 ≤ onI c s j ∧ F (onI c s j)) ∧ 0 ≤ onI c s y ∧ ¬ F (onI c s y)) ∨
  (y = 0 ∧ ((∀ j : Int, 1 ≤ j → j ≤ R → 0 ≤ onI c s j ∧ F (onI c s j)) ∨ ∃ e : Int, 1 ≤ e ∧ e ≤ R ∧ (∀ j : Int, 1 ≤ j → j < e → 0 ≤ onI c s j ∧ F (onI c s j)) ∧ onI c s e < 0))
theorem EchoP_uniq {F : Int → Prop} {c s R y z : Int} (h : EchoP F c s R y) (g : EchoP F c s R z) : y = z := by
  have key : ∀ {a b : Int}, (1 ≤ a ∧ a ≤ R ∧ (∀ j : Int, 1 ≤ j → j < a → 0 ≤ onI c s j ∧ F (onI c s j)) ∧ 0 ≤ onI c s a ∧ ¬ F (onI c s a)) → (1 ≤ b ∧ b ≤ R ∧ (∀ j : Int, 1 ≤ j → j < b → 0 ≤ onI c s j ∧ F (onI c s j)) ∧ 0 ≤ onI c s b ∧ ¬ F (onI c s b)) → ¬ a < b := fun h g q => h.2.2.2.2 (g.2.2.1 _ h.1 q).2
  have key2 : ∀ {a : Int}, (1 ≤ a ∧ a ≤ R ∧ (∀ j : Int, 1 ≤ j → j < a → 0 ≤ onI c s j ∧ F (onI c s j)) ∧ 0 ≤ onI c s a ∧ ¬ F (onI c s a)) → ((∀ j : Int, 1 ≤ j → j ≤ R → 0 ≤ onI c s j ∧ F (onI c s j)) ∨ ∃ e : Int, 1 ≤ e ∧ e ≤ R ∧ (∀ j : Int, 1 ≤ j → j < e → 0 ≤ onI c s j ∧ F (onI c s j)) ∧ onI c s e < 0) → False := fun {a} h g => by
    rcases g with g | ⟨e, e1, e2, e3, e4⟩
    · exact h.2.2.2.2 (g a h.1 h.2.1).2
    · rcases Int.lt_trichotomy e a with q | q | q
      · have := (h.2.2.1 e e1 q).1; omega
      · have := h.2.2.2.1; rw [← q] at this; omega
      · exact h.2.2.2.2 (e3 a h.1 q).2
  rcases h with h | h <;> rcases g with g | g
  · have a := key h g
    have b := key g h
    omega
  · exact (key2 h g.2).elim
  · exact (key2 g h.2).elim
  · rw [h.1, g.1]
theorem EchoP_cong {F G : Int → Prop} {c s R y : Int} (e : ∀ j : Int, 1 ≤ j → j ≤ R → 0 ≤ onI c s j → (F (onI c s j) ↔ G (onI c s j))) (h : EchoP F c s R y) : EchoP G c s R y := by
  have k : ∀ {a : Int}, a ≤ R + 1 → (∀ j : Int, 1 ≤ j → j < a → 0 ≤ onI c s j ∧ F (onI c s j)) → (∀ j : Int, 1 ≤ j → j < a → 0 ≤ onI c s j ∧ G (onI c s j)) := fun ha h j h1 h2 => ⟨(h j h1 h2).1, (e j h1 (by omega) (h j h1 h2).1).mp (h j h1 h2).2⟩
  rcases h with ⟨h1, h2, h3, h4, h5⟩ | ⟨h1, h2 | ⟨d, h2, h3, h4, h5⟩⟩
  · exact Or.inl ⟨h1, h2, k (by omega) h3, h4, fun q => h5 ((e y h1 h2 h4).mpr q)⟩
  · exact Or.inr ⟨h1, Or.inl (fun j a b => ⟨(h2 j a b).1, (e j a b (h2 j a b).1).mp (h2 j a b).2⟩)⟩
  · exact Or.inr ⟨h1, Or.inr ⟨d, h2, h3, k (by omega) h4, h5⟩⟩
theorem x10has {b : Nat} {v : Int32} {M : mM} {r : Int32} (h : SP_X10_hasWalker b v M r) : (r.toInt = 1 ∧ 0 ≤ v.toInt ∧ v.toInt < (M.1 (10, b, 0) 6).toInt ∧ v.toInt < 8) ∨ (r.toInt = 0 ∧ ¬ (0 ≤ v.toInt ∧ v.toInt < (M.1 (10, b, 0) 6).toInt ∧ v.toInt < 8)) := by
  have q0 := il_0
  have q1 := il_1
  refine xE_SP_X10_hasWalker h ⟨(fun h1_ hr_ => ?_), (fun h1_ z2_ e3_ => ⟨(fun h4_ hr_ => ?_), (fun h4_ => ⟨(fun h5_ hr_ => ?_), (fun h5_ hr_ => ?_)⟩)⟩)⟩
  · have := eT hr_; omega
  · have := eT hr_; have := eT e3_; omega
  · have := eT hr_; have := eT e3_; omega
  · have := eT hr_; have := eT e3_; omega
theorem x10echo {b : Nat} {v u t : Int32} {M : mM} {r : Int32} (h : SP_X10_echoYards b v u t M r) (hv : 0 ≤ v.toInt ∧ v.toInt ≤ 7 ∧ v.toInt < (M.1 (10, b, 0) 6).toInt) (hk : 0 ≤ (M.1 (9, b, v.toInt.toNat) 0).toInt ∧ (M.1 (9, b, v.toInt.toNat) 0).toInt ≤ 7) (hu : 0 ≤ u.toInt ∧ u.toInt ≤ 191) (ht : 0 ≤ t.toInt ∧ t.toInt ≤ 7) : EchoP (FrS (occ b M.1) v.toInt) u.toInt t.toInt (reachI (M.1 (9, b, v.toInt.toNat) 0).toInt) r.toInt := by
  have q0 := il_0
  have q1 := il_1
  have rb := reachI_b (M.1 (9, b, v.toInt.toNat) 0).toInt
  have G : ∀ (R x : Int32), RCH (fun x_ y_ => ST_X10_echoYards_26 b v u t M R x_ y_) (1 : Int32) x → R.toInt ≤ 12 → 1 ≤ x.toInt ∧ ∀ j : Int, 1 ≤ j → j < x.toInt → 0 ≤ onI u.toInt t.toInt j ∧ FrS (occ b M.1) v.toInt (onI u.toInt t.toInt j) := fun R x hL hR =>
    rind hL (fun x => 1 ≤ x.toInt ∧ ∀ j : Int, 1 ≤ j → j < x.toInt → 0 ≤ onI u.toInt t.toInt j ∧ FrS (occ b M.1) v.toInt (onI u.toInt t.toInt j)) ⟨by omega, fun j h1 h2 => by omega⟩ (fun x z hp hst => by
      (try dsimp only at hp hst ⊢)
      refine xE_ST_X10_echoYards_26 hst (fun p_hv0_26 p_h16_ p_r17_ p_hs21_ p_h20_ p_h22_ p_r23_ p_hs27_ p_h26_ p_h28_ p_z29_ p_h30_ p_hq_v5_26y => ?_)
      have cf := cF_spec p_hs21_
      have bt := x10but p_hs27_ ⟨hv.1, hv.2.1⟩
      rw [p_hq_v5_26y]
      refine ⟨by omega, fun j h1 h2 => ?_⟩
      by_cases e : j = x.toInt
      · have e2 : p_r17_.toInt = onI u.toInt t.toInt x.toInt := by omega
        rw [e, ← e2]
        exact ⟨p_h22_, by unfold FrS; omega⟩
      · exact hp.2 j h1 (by omega))
  refine xE_SP_X10_echoYards h ⟨(fun hs5_ h4_ j7_ h8_ h9_ r10_ hs14_ h13_ v5_26 hv0_26 hL_26 => ⟨(fun h16_ hr_ => ?_), (fun h16_ r17_ hs21_ h20_ => ⟨(fun h22_ r23_ hs27_ h26_ h28_ hr_ => ?_), (fun h22_ hr_ => ?_)⟩)⟩), (fun hs5_ v5_26 hv0_26 hL_26 h33_ hr_ => ?_)⟩
  · obtain rfl : j7_ = v.toInt.toNat := by omega
    have a := x9reach hs14_ hk
    have g := G _ _ hL_26 (by omega)
    rw [hr_, il_0]
    exact Or.inr ⟨rfl, Or.inl (fun j h1 h2 => g.2 j h1 (by omega))⟩
  · obtain rfl : j7_ = v.toInt.toNat := by omega
    have a := x9reach hs14_ hk
    have g := G _ _ hL_26 (by omega)
    have cf := cF_spec hs21_
    have bt := x10but hs27_ ⟨hv.1, hv.2.1⟩
    have e2 : r17_.toInt = onI u.toInt t.toInt v5_26.toInt := by omega
    rw [hr_]
    exact Or.inl ⟨g.1, by omega, g.2, by omega, by rw [← e2]; unfold FrS; omega⟩
  · obtain rfl : j7_ = v.toInt.toNat := by omega
    have a := x9reach hs14_ hk
    have g := G _ _ hL_26 (by omega)
    have cf := cF_spec hs21_
    have e2 : r17_.toInt = onI u.toInt t.toInt v5_26.toInt := by omega
    rw [hr_, il_0]
    exact Or.inr ⟨rfl, Or.inr ⟨v5_26.toInt, g.1, by omega, g.2, by omega⟩⟩
  · have := x10has hs5_
    omega
theorem x12echo {b : Nat} {q : rf → Nat → Int32} {v u t : Int32} {M : mM} {r : Int32} (h : SP_X12_echoFrom v u t M r) (hO : OCC b q (M.1 (50, 0, 0))) (hu : 0 ≤ v.toInt ∧ v.toInt ≤ 191) (hs : 0 ≤ u.toInt ∧ u.toInt ≤ 7) (ht : 0 ≤ t.toInt ∧ t.toInt ≤ 12) (hn : -1 ≤ (M.1 (12, 0, 0) 7).toInt) : EchoP (FrM (occ b q) (M.1 (12, 0, 0) 7).toInt) v.toInt u.toInt t.toInt r.toInt := by
  have q0 := il_0
  have q1 := il_1
  refine xE_SP_X12_echoFrom h (fun v4_3 hv0_3 hv1_3 hv2_3 hL_3 => ?_)
  have g := rind hL_3 (fun x => 1 ≤ x.toInt ∧ ∀ j : Int, 1 ≤ j → j < x.toInt → 0 ≤ onI v.toInt u.toInt j ∧ FrM (occ b q) (M.1 (12, 0, 0) 7).toInt (onI v.toInt u.toInt j)) ⟨by omega, fun j h1 h2 => by omega⟩ (fun x z hp hst => by
    (try dsimp only at hp hst ⊢)
    refine xE_ST_X12_echoFrom_3 hst (fun p_hv0_3 p_hv1_3 p_hv2_3 p_h2_ p_r3_ p_hs7_ p_h6_ p_h8_ p_h9_ p_r10_ p_hs14_ p_h13_ p_r15_ p_hs19_ p_h18_ p_h20_ p_z21_ p_h22_ p_hq_v4_3y => ?_)
    have c1 := on_spec p_h6_.1 hu hs (by omega)
    have c2 := on_spec p_h13_.1 hu hs (by omega)
    have bt := x12free p_hs19_ hO (by omega) hn
    rw [p_hq_v4_3y]
    refine ⟨by omega, fun j h1 h2 => ?_⟩
    by_cases e : j = x.toInt
    · rw [e, ← c2]
      exact ⟨by omega, by unfold FrM; omega⟩
    · exact hp.2 j h1 (by omega))
  (try dsimp only at g)
  refine ⟨(fun h2_ hr_ => ?_), (fun h2_ r3_ hs7_ h6_ => ⟨(fun h8_ hr_ => ?_), (fun h8_ h9_ r10_ hs14_ h13_ r15_ hs19_ h18_ h20_ hr_ => ?_)⟩)⟩
  · rw [hr_, il_0]
    exact Or.inr ⟨rfl, Or.inl (fun j h1 h2 => g.2 j h1 (by omega))⟩
  · have c1 := on_spec h6_.1 hu hs (by omega)
    rw [hr_, il_0]
    exact Or.inr ⟨rfl, Or.inr ⟨v4_3.toInt, g.1, by omega, g.2, by omega⟩⟩
  · have c1 := on_spec h6_.1 hu hs (by omega)
    have c2 := on_spec h13_.1 hu hs (by omega)
    have bt := x12free hs19_ hO (by omega) hn
    rw [hr_]
    exact Or.inl ⟨g.1, by omega, g.2, by omega, by rw [← c2]; unfold FrM; omega⟩
/-- the kind in a cell -/
def kindS (n : Nat → Int32) (o : Nat → Int) (x : Int) : Int := if 0 ≤ o x.toNat ∧ o x.toNat < nTh n then (n (20 + 4 * (o x.toNat).toNat)).toInt else 3
theorem x7has {b : Nat} {v : Int32} {M : mM} {r : Int32} (h : SP_X7_hasThing b v M r) : (r.toInt = 1 ∧ 0 ≤ v.toInt ∧ v.toInt < (M.1 (7, b, 0) 5).toInt ∧ v.toInt < 40) ∨ (r.toInt = 0 ∧ ¬ (0 ≤ v.toInt ∧ v.toInt < (M.1 (7, b, 0) 5).toInt ∧ v.toInt < 40)) := by
  have q0 := il_0
  have q1 := il_1
  refine xE_SP_X7_hasThing h ⟨(fun h1_ hr_ => ?_), (fun h1_ z2_ e3_ => ⟨(fun h4_ hr_ => ?_), (fun h4_ => ⟨(fun h5_ hr_ => ?_), (fun h5_ hr_ => ?_)⟩)⟩)⟩
  · have := eT hr_; omega
  · have := eT hr_; have := eT e3_; omega
  · have := eT hr_; have := eT e3_; omega
  · have := eT hr_; have := eT e3_; omega
theorem nTh_b {n : Nat → Int32} (h : NW5 n) : 0 ≤ nTh n ∧ nTh n ≤ 40 := (h.1 1).1 rfl
theorem nWa_b {n : Nat → Int32} (h : NW5 n) : 0 ≤ nWa n ∧ nWa n ≤ 8 := (h.1 2).2.1 rfl
theorem kindS_b {n : Nat → Int32} {o : Nat → Int} {x : Int} (h : NW5 n) : 0 ≤ kindS n o x ∧ kindS n o x ≤ 4 := by
  unfold kindS
  have := nTh_b h
  split
  · rename_i g
    exact ((h.1 (20 + 4 * (o x.toNat).toNat)).2.2.2.2.2.2.1 (by omega) (by omega)).1 (by omega)
  · omega
theorem x7kindIn {b : Nat} {v : Int32} {M : mM} {r : Int32} {n : Nat → Int32} (h : SP_X7_kindIn b v M r) (hv : 0 ≤ v.toInt ∧ v.toInt ≤ 191) (hT : THR b M.1 n) (hN : NW5 n) : r.toInt = kindS n (occ b M.1) v.toInt := by
  have q0 := il_0
  have q1 := il_1
  have q3 : (3 : Int32).toInt = 3 := by decide
  have nb := nTh_b hN
  have e1 := eT hT.1
  unfold nTh at nb
  unfold kindS occ
  refine xE_SP_X7_kindIn h ⟨(fun hs5_ h4_ j9_ h10_ z7_ e8_ => ⟨(fun hs15_ h14_ j19_ h20_ z17_ e18_ hr_ => ?_), (fun hs15_ hr_ => ?_)⟩), (fun hs5_ h4_ hs27_ hr_ => ?_)⟩
  · obtain rfl : j9_ = v.toInt.toNat := by omega
    have g := x7has hs15_
    have y := eT e8_
    rw [if_pos (by unfold nTh; omega), hr_, e18_, (hT.2 j19_ (by unfold nTh; omega)).1]
    rw [show j19_ = (M.1 (35, b, 0) v.toInt.toNat).toInt.toNat by omega]
  · obtain rfl : j9_ = v.toInt.toNat := by omega
    have g := x7has hs15_
    have y := eT e8_
    rw [if_neg (by unfold nTh; omega), hr_, q3]
  · omega
theorem x12kindIn {b : Nat} {q : rf → Nat → Int32} {v : Int32} {M : mM} {r : Int32} (h : SP_X12_kindIn v M r) (hO : OCC b q (M.1 (50, 0, 0))) (hv : 0 ≤ v.toInt ∧ v.toInt ≤ 191) (hn : -1 ≤ (M.1 (12, 0, 0) 7).toInt) (hf : ¬ FrM (occ b q) (M.1 (12, 0, 0) 7).toInt v.toInt) (hD : InvD M) : r.toInt = kindS (M.1 (50, 0, 0)) (occ b q) v.toInt := by
  have q3 : (3 : Int32).toInt = 3 := by decide
  have o3 := hO.2.2 v.toInt.toNat (by omega)
  have nb := nTh_b hD.2.1
  unfold FrM at hf
  unfold kindS
  refine xE_SP_X12_kindIn h (fun r1_ hs5_ h4_ => ⟨(fun h6_ hr_ => ?_), (fun h6_ r7_ hs11_ h10_ z12_ h13_ j16_ h17_ z14_ e15_ h18_ hr_ => ?_)⟩)
  all_goals
    have a := x12in hs5_ hO hv hn
    rw [if_neg (by omega)] at a
  · rw [if_neg (by omega), hr_, q3]
  · rw [if_pos (by omega), hr_, e15_, show j16_ = 20 + 4 * (occ b q v.toInt.toNat).toNat by omega]
/-- what a walker would hear by its own click from a cell, by sides -/
def HyP (n : Nat → Int32) (o : Nat → Int) (w : Nat) (c s : Int32) (r : Int) : Prop := ∃ y : Int32, EchoP (FrS o w) c.toInt s.toInt (reachI (n (180 + 9 * w)).toInt) y.toInt ∧
  ((y.toInt = 0 ∧ r = 0) ∨ (¬ y.toInt = 0 ∧ ((r = y.toInt ∧ heS n (earsI (n (180 + 9 * w)).toInt) (kindS n o (onI c.toInt s.toInt y.toInt)).toNat (n (183 + 9 * w)) (n (184 + 9 * w)) s y) ∨ (r = 0 ∧ ¬ heS n (earsI (n (180 + 9 * w)).toInt) (kindS n o (onI c.toInt s.toInt y.toInt)).toNat (n (183 + 9 * w)) (n (184 + 9 * w)) s y))))
theorem HyP_uniq {n : Nat → Int32} {o : Nat → Int} {w : Nat} {c s : Int32} {r z : Int} (h : HyP n o w c s r) (g : HyP n o w c s z) : r = z := by
  obtain ⟨y, h1, h2⟩ := h
  obtain ⟨y', g1, g2⟩ := g
  obtain rfl : y = y' := i32e (EchoP_uniq h1 g1)
  rcases h2 with h2 | ⟨h2, h3 | h3⟩ <;> rcases g2 with g2 | ⟨g2, g3 | g3⟩
  · omega
  · omega
  · omega
  · omega
  · omega
  · exact absurd h3.2 g3.2
  · omega
  · exact absurd g3.2 h3.2
  · omega
theorem own_pl {p l z a : Int32} (h1 : a = (100 : Int32) * p) (h2 : z = a + l) (hp : 1 ≤ p.toInt ∧ p.toInt ≤ 9) (hl : 1 ≤ l.toInt ∧ l.toInt ≤ 99) : z / (100 : Int32) = p ∧ z - z / (100 : Int32) * (100 : Int32) = l := by
  have i100 : (100 : Int32).toInt = 100 := by decide
  have e1 : a.toInt = 100 * p.toInt := by rw [h1]; exact mulI i100 rfl (by omega) (by omega)
  have e2 : z.toInt = 100 * p.toInt + l.toInt := by rw [h2]; exact addI e1 rfl (by omega) (by omega)
  have d := divI (x := z) (y := (100 : Int32)) rfl i100 (by omega) (by omega)
  have m := remI (x := z) (y := (100 : Int32)) rfl i100 (by omega) (by omega)
  exact ⟨i32e (by omega), i32e (by omega)⟩
def WRR (b : Nat) (q : rf → Nat → Int32) (n : Nat → Int32) : Prop := LWR b q n ∧ THR b q n ∧ WAR b q n ∧ TXR b q n ∧ OCC b q n ∧ MIR n
theorem x10heard {b : Nat} {v u t : Int32} {M M' : mM} {r : Int32} {n : Nat → Int32} (h : SP_X10_heardYards b v u t M r M') (hR : WRR b M.1 n) (hN : NW5 n) (hv : 0 ≤ v.toInt ∧ v.toInt < nWa n) (hu : 0 ≤ u.toInt ∧ u.toInt ≤ 191) (ht : 0 ≤ t.toInt ∧ t.toInt ≤ 7) : HyP n (occ b M.1) v.toInt.toNat u t r.toInt := by
  have q0 := il_0
  obtain ⟨hL, hT, hW, hX, hO, hM⟩ := hR
  have nw := nWa_b hN
  have ec := eT hW.1
  have w1 := (hW.2 v.toInt.toNat (by omega)).1
  have k0 := w1 0 (by omega)
  have k3 := w1 3 (by omega)
  have k4 := w1 4 (by omega)
  simp only [Nat.add_zero] at k0
  have kb := ((hN.1 (180 + 9 * v.toInt.toNat)).2.2.2.2.2.2.2 (by omega) (by omega)).1 (by omega)
  have mp := hM.1 v.toInt.toNat (by omega)
  unfold HyP
  unfold nWa at hv nw
  unfold SP_X10_heardYards at h
  obtain ⟨r1_, hs5_, h4_, h⟩ := h
  have E := x10echo hs5_ ⟨hv.1, by omega, by omega⟩ (by rw [k0]; exact kb) hu ht
  rw [k0] at E
  have ev : FrS (occ b M.1) v.toInt = FrS (occ b M.1) ((v.toInt.toNat : Nat) : Int) := by rw [show ((v.toInt.toNat : Nat) : Int) = v.toInt by omega]
  rw [ev] at E
  refine ⟨r1_, E, ?_⟩
  rcases h with ⟨h6_, hr_, -⟩ | ⟨h6_, h⟩
  · exact Or.inl ⟨h6_, by rw [hr_]; exact il_0⟩
  · right
    refine ⟨h6_, ?_⟩
    rcases h with ⟨hs11_, h10_, j13_, h14_, h15_, r16_, hs20_, h19_, r21_, hs25_, r26_, hs30_, h29_, r31_, hs35_, M37_, hI40_, hF41_, r36_, hs43_, h39_, h⟩ | ⟨hs11_, hr_, -⟩
    · obtain rfl : j13_ = v.toInt.toNat := by omega
      have cf := cF_spec hs20_
      have e16 : r16_.toInt = onI u.toInt t.toInt r1_.toInt := by omega
      have c16 : 0 ≤ r16_.toInt := by
        unfold EchoP at E
        omega
      have kk := x7kindIn hs25_ ⟨c16, h19_.2⟩ hT hN
      have kb2 := kindS_b (o := occ b M.1) (x := r16_.toInt) hN
      have ee := x9ears hs30_ (by rw [k0]; exact kb)
      rw [k0] at ee
      have oc : r31_ / (100 : Int32) = n (183 + 9 * v.toInt.toNat) ∧ r31_ - r31_ / (100 : Int32) * (100 : Int32) = n (184 + 9 * v.toInt.toNat) := by
        refine xE_SP_X9_ownClick hs35_ (fun z1_ e2_ z3_ h4_ z5_ e6_ z7_ h8_ hr_ => ?_)
        rw [k3, show 180 + 9 * v.toInt.toNat + 3 = 183 + 9 * v.toInt.toNat by omega] at e2_
        rw [k4, show 180 + 9 * v.toInt.toNat + 4 = 184 + 9 * v.toInt.toNat by omega] at e6_
        rw [← e2_, ← e6_, hr_]
        exact own_pl h4_ h8_ (by rw [e2_]; exact mp.1) (by rw [e6_]; exact mp.2)
      have hh := x2hears hs43_ hL hX hN.2 (by omega) (by omega) ht
      rw [oc.2, oc.1, ee, kk, e16] at hh
      rcases h with ⟨h44_, hr_, -⟩ | ⟨h44_, hr_, -⟩
      · exact Or.inr ⟨by rw [hr_]; exact il_0, (hh.resolve_left (fun q => by omega)).2⟩
      · exact Or.inl ⟨by rw [hr_], (hh.resolve_right (fun q => by omega)).2⟩
    · have := x10has hs11_
      omega
theorem x12heard {b : Nat} {q : rf → Nat → Int32} {v u t : Int32} {M M' : mM} {r : Int32} (h : SP_X12_heardFrom v u t M r M') (hO : OCC b q (M.1 (50, 0, 0))) (hD : InvD M) (hx : ∀ w, w < 3 → ∀ i : Nat, (i : Int) < (M.1 (50, 0, 0) (345 + 50 * w)).toInt → cOK (nnU w) (M.1 (50, 0, 0) (346 + 50 * w + i))) (hv : 0 ≤ v.toInt ∧ v.toInt < nWa (M.1 (50, 0, 0))) (hu : 0 ≤ u.toInt ∧ u.toInt ≤ 191) (ht : 0 ≤ t.toInt ∧ t.toInt ≤ 7)
    (hn : (M.1 (12, 0, 0) 7).toInt = v.toInt ∨ ((M.1 (12, 0, 0) 7).toInt = -1 ∧ u.toInt = wcl (M.1 (50, 0, 0)) v.toInt.toNat)) : HyP (M.1 (50, 0, 0)) (occ b q) v.toInt.toNat u t r.toInt := by
  have q0 := il_0
  have nw := nWa_b hD.2.1
  have nT := nTh_b hD.2.1
  have fr : ∀ j : Int, 1 ≤ j → j ≤ 12 → 0 ≤ onI u.toInt t.toInt j → (FrM (occ b q) (M.1 (12, 0, 0) 7).toInt (onI u.toInt t.toInt j) ↔ FrS (occ b q) ((v.toInt.toNat : Nat) : Int) (onI u.toInt t.toInt j)) := fun j h1 h2 h3 => by
    have b := onI_b (c := u.toInt) (s := t.toInt) (y := j)
    have o3 := hO.2.2 (onI u.toInt t.toInt j).toNat (by omega)
    unfold FrM FrS
    rcases hn with hn | ⟨hn, hc⟩
    · omega
    · have ne := onI_ne hu ht ⟨h1, (by omega : j ≤ 15)⟩
      refine ⟨fun z => by omega, fun z => ?_⟩
      rcases o3 with o | o | o
      · omega
      · omega
      · rcases z with z | z
        · omega
        · exfalso
          have e := o.2.2
          rw [z, show (100 + ((v.toInt.toNat : Nat) : Int) - 100).toNat = v.toInt.toNat by omega, ← hc] at e
          omega
  unfold HyP
  unfold SP_X12_heardFrom at h
  obtain ⟨r1_, hs5_, h4_, r6_, hs10_, h9_, r11_, hs15_, h14_, h⟩ := h
  have rr := x12reach hs5_ ⟨hv.1, by omega⟩
  have E := x12echo hs10_ hO hu ht h4_ (by omega)
  have E2 := EchoP_cong (fun j a c d => fr j a (by omega) d) E
  rw [rr] at E2
  refine ⟨r6_, E2, ?_⟩
  rcases h with ⟨h16_, hr_, -⟩ | ⟨h16_, r18_, hs22_, h21_, r23_, hs27_, h26_, r28_, hs32_, h31_, z33_, h34_, j37_, h38_, z35_, e36_, z39_, h40_, j43_, h44_, z41_, e42_, M46_, hI49_, hF50_, r45_, hs52_, h48_, h⟩
  · exact Or.inl ⟨by omega, by rw [hr_]; exact il_0⟩
  · right
    refine ⟨by omega, ?_⟩
    have e23 := on_spec h26_.1 hu ht (by omega)
    have nf : 0 ≤ r23_.toInt ∧ ¬ FrM (occ b q) (M.1 (12, 0, 0) 7).toInt r23_.toInt := by
      rw [e23]
      rcases E with E | E
      · exact E.2.2.2
      · omega
    have kk := x12kindIn hs32_ hO ⟨nf.1, by omega⟩ (by omega) nf.2 hD
    have kb2 := kindS_b (n := M.1 (50, 0, 0)) (o := occ b q) (x := r23_.toInt) hD.2.1
    have ee := x12ears hs22_ ⟨hv.1, by omega⟩
    have hh := x12isHeard hs52_ hD hx (by omega) ht (by omega)
    rw [ee, kk, e23, e36_, e42_, show j37_ = 183 + 9 * v.toInt.toNat by omega, show j43_ = 184 + 9 * v.toInt.toNat by omega] at hh
    rcases h with ⟨h53_, hr_, -⟩ | ⟨h53_, hr_, -⟩
    · exact Or.inr ⟨by rw [hr_]; exact il_0, (hh.resolve_left (fun q => by omega)).2⟩
    · exact Or.inl ⟨by rw [hr_], (hh.resolve_right (fun q => by omega)).2⟩
end
section
/-! what is kept -/
theorem LWR_keep {b : Nat} {q q2 : rf → Nat → Int32} {n n2 : Nat → Int32} (h : LWR b q n) (hq : ∀ (r k : Nat), r = 10 ∧ k = 7 ∨ r = 2 ∨ r = 26 ∨ r = 27 → q2 (r, b, 0) k = q (r, b, 0) k) (hn : ∀ j, j = 0 ∨ (6 ≤ j ∧ j < 20) → n2 j = n j) : LWR b q2 n2 :=
  ⟨by rw [hq 10 7 (by simp), hn 0 (by omega)]; exact h.1, fun k hk => by rw [hq 2 k (by simp), hn _ (by omega)]; exact h.2.1 k hk, fun k hk => by rw [hq 26 k (by simp), hq 27 k (by simp), hn _ (by omega), hn _ (by omega)]; exact h.2.2 k hk⟩
theorem THR_keep {b : Nat} {q q2 : rf → Nat → Int32} {n n2 : Nat → Int32} (h : THR b q n) (hb : nTh n ≤ 40) (hq : ∀ (r k : Nat), r = 7 ∧ k = 5 ∨ r = 36 ∨ r = 37 ∨ r = 38 ∨ r = 39 → q2 (r, b, 0) k = q (r, b, 0) k) (hn : ∀ j, j = 1 ∨ (20 ≤ j ∧ j < 180) → n2 j = n j) : THR b q2 n2 := by
  have e : nTh n2 = nTh n := by unfold nTh; rw [hn 1 (by omega)]
  refine ⟨by rw [hq 7 5 (by simp), hn 1 (by omega)]; exact h.1, fun t ht => ?_⟩
  rw [e] at ht
  rw [hq 36 t (by simp), hq 37 t (by simp), hq 38 t (by simp), hq 39 t (by simp), hn _ (by omega), hn _ (by omega), hn _ (by omega), hn _ (by omega)]
  exact h.2 t ht
theorem WAR_keep {b : Nat} {q q2 : rf → Nat → Int32} {n n2 : Nat → Int32} (h : WAR b q n) (hb : nWa n ≤ 8) (hq : ∀ (r w k : Nat), r = 9 ∨ r = 40 ∨ r = 41 → q2 (r, b, w) k = q (r, b, w) k) (hc : q2 (10, b, 0) 6 = q (10, b, 0) 6) (hn : ∀ j, j = 2 ∨ (180 ≤ j ∧ j < 252) ∨ (495 ≤ j ∧ j < 3567) → n2 j = n j) : WAR b q2 n2 := by
  have e : nWa n2 = nWa n := by unfold nWa; rw [hn 2 (by omega)]
  refine ⟨by rw [hc, hn 2 (by omega)]; exact h.1, fun w hw => ?_⟩
  rw [e] at hw
  refine ⟨fun k hk => ?_, fun c hc => ?_⟩
  · rw [hq 9 w k (by simp), hn _ (by omega)]; exact (h.2 w hw).1 k hk
  · rw [hq 40 w c (by simp), hq 41 w c (by simp), hn _ (by omega), hn _ (by omega)]; exact (h.2 w hw).2 c hc
theorem TXR_keep {b : Nat} {q q2 : rf → Nat → Int32} {n n2 : Nat → Int32} (h : TXR b q n) (hz : ∀ u, u < 3 → (n (345 + 50 * u)).toInt ≤ 48) (hq : ∀ (r u k : Nat), r = 1 ∨ r = 24 → u < 3 → q2 (r, b, u) k = q (r, b, u) k) (hn : ∀ j, 345 ≤ j → j < 495 → n2 j = n j) : TXR b q2 n2 := fun u hu => by
  have hs := hz u hu
  rw [hq 1 u 2 (by simp) hu, hn _ (by omega) (by omega)]
  refine ⟨(h u hu).1, fun i hi => ?_⟩
  rw [hq 24 u i (by simp) hu, hn _ (by omega) (by omega)]
  exact (h u hu).2 i hi
theorem OCC_keep {b : Nat} {q q2 : rf → Nat → Int32} {n n2 : Nat → Int32} (h : OCC b q n) (ht : nTh n ≤ 40) (hw : nWa n ≤ 8) (hq : ∀ k, q2 (35, b, 0) k = q (35, b, 0) k) (hn1 : ∀ j, j = 1 ∨ (20 ≤ j ∧ j < 180 ∧ j % 4 = 1) → n2 j = n j) (hn2 : ∀ j, j = 2 ∨ (180 ≤ j ∧ j < 252 ∧ j % 9 = 1) → n2 j = n j) : OCC b q2 n2 := by
  have eo : occ b q2 = occ b q := funext fun k => by unfold occ; rw [hq]
  have et : nTh n2 = nTh n := by unfold nTh; rw [hn1 1 (by omega)]
  have ew : nWa n2 = nWa n := by unfold nWa; rw [hn2 2 (by omega)]
  have tc : ∀ t : Nat, (t : Int) < nTh n → tcl n2 t = tcl n t := fun t h => by unfold tcl; rw [hn1 _ (by omega)]
  have wc : ∀ t : Nat, (t : Int) < nWa n → wcl n2 t = wcl n t := fun t h => by unfold wcl; rw [hn2 _ (by omega)]
  obtain ⟨h1, h2, h3⟩ := h
  unfold OCC
  rw [eo, et, ew]
  refine ⟨fun t a c => ?_, fun w a => ?_, fun c hc => ?_⟩
  · rw [tc t a] at c ⊢; exact h1 t a c
  · rw [wc w a]; exact h2 w a
  · rcases h3 c hc with o | ⟨o1, o2, o3⟩ | ⟨o1, o2, o3⟩
    · exact Or.inl o
    · exact Or.inr (Or.inl ⟨o1, o2, by rw [tc _ (by omega)]; exact o3⟩)
    · exact Or.inr (Or.inr ⟨o1, o2, by rw [wc _ (by omega)]; exact o3⟩)
theorem MIR_keep {n n2 : Nat → Int32} (h : MIR n) (ht : nTh n ≤ 40) (hb : nWa n ≤ 8) (hn : ∀ j, j = 1 ∨ j = 2 ∨ (20 ≤ j ∧ j < 180 ∧ (j % 4 = 0 ∨ j % 4 = 3)) ∨ (180 ≤ j ∧ j < 252 ∧ (j % 9 = 3 ∨ j % 9 = 4)) → n2 j = n j) (hz : ∀ w : Nat, nWa n ≤ (w : Int) → w < 8 → (∀ k, k < 9 → n2 (180 + 9 * w + k) = n (180 + 9 * w + k)) ∧ (∀ c, c < 384 → n2 (495 + 384 * w + c) = n (495 + 384 * w + c))) : MIR n2 := by
  have et : nTh n2 = nTh n := by unfold nTh; rw [hn 1 (by omega)]
  have ew : nWa n2 = nWa n := by unfold nWa; rw [hn 2 (by omega)]
  obtain ⟨h1, h2, h3⟩ := h
  unfold MIR
  rw [et, ew]
  refine ⟨fun w hw => ?_, fun t hh => ?_, fun w a c => ⟨fun k hk => ?_, fun k hk => ?_⟩⟩
  · rw [hn _ (by omega), hn _ (by omega)]; exact h1 w hw
  · rw [hn _ (by omega), hn _ (by omega)]; exact h2 t hh
  · rw [(hz w a c).1 k hk]; exact (h3 w a c).1 k hk
  · rw [(hz w a c).2 k hk]; exact (h3 w a c).2 k hk
theorem TXz {n : Nat → Int32} (h : NW5 n) : ∀ u, u < 3 → (n (345 + 50 * u)).toInt ≤ 48 := fun u hu => by
  obtain ⟨m, D, h1, h2, h3⟩ := h.2 u hu
  omega
/-- scratch cells of the class change -/
theorem WRR_q {b : Nat} {q q2 : rf → Nat → Int32} {n : Nat → Int32} (h : WRR b q n) (hN : NW5 n) (hq : ∀ (c : rf) (k : Nat), c.1 ≠ 25 → c.1 ≠ 29 → q2 c k = q c k) : WRR b q2 n :=
  ⟨LWR_keep h.1 (fun r k hr => hq _ _ (by dsimp only; omega) (by dsimp only; omega)) (fun _ _ => rfl),
   THR_keep h.2.1 (nTh_b hN).2 (fun r k hr => hq _ _ (by dsimp only; omega) (by dsimp only; omega)) (fun _ _ => rfl),
   WAR_keep h.2.2.1 (nWa_b hN).2 (fun r w k hr => hq _ _ (by dsimp only; omega) (by dsimp only; omega)) (hq _ _ (by first | decide | simp | (dsimp only; omega)) (by first | decide | simp | (dsimp only; omega))) (fun _ _ => rfl),
   TXR_keep h.2.2.2.1 (TXz hN) (fun r u k hr hu => hq _ _ (by dsimp only; omega) (by dsimp only; omega)) (fun _ _ _ => rfl),
   OCC_keep h.2.2.2.2.1 (nTh_b hN).2 (nWa_b hN).2 (fun k => hq _ _ (by first | decide | simp | (dsimp only; omega)) (by first | decide | simp | (dsimp only; omega))) (fun _ _ => rfl) (fun _ _ => rfl), h.2.2.2.2.2⟩
theorem updN {f : Nat → Int32} {k j : Nat} {x : Int32} (h : ¬ j = k) : upd f k x j = f j := if_neg h
theorem updE {f : Nat → Int32} {k j : Nat} {x : Int32} (h : j = k) : upd f k x j = x := if_pos h
/-! two loops that go along with each other -/
theorem RTC_cnt {α : Type} {S : α → α → Prop} {f : α → Int} {N : Int} (hS : ∀ x z, S x z → f x < N ∧ f z = f x + 1) {a : α} : ∀ (n : Nat) (z : α), RTC S a n z → f z = f a + n ∧ (0 < n → f z ≤ N)
  | 0, z, h => by
    have e : a = z := h
    subst e
    exact ⟨by omega, fun q => absurd q (Nat.lt_irrefl 0)⟩
  | n + 1, z, h => by
    obtain ⟨x, h1, h2⟩ := h
    have ih := RTC_cnt hS n x h1
    have s := hS x z h2
    exact ⟨by omega, fun _ => by omega⟩
theorem lock {α β : Type} {S : α → α → Prop} {T : β → β → Prop} (f : α → Int) (g : β → Int) (R : α → β → Prop) (N : Int) {a z : α} {b w : β} (ha : RCH S a z) (hb : RCH T b w)
    (hS : ∀ x z, S x z → f x < N ∧ f z = f x + 1) (hT : ∀ x z, T x z → g x < N ∧ g z = g x + 1) (h0 : R a b) (hf : f a = g b) (hz : N ≤ f z) (hw : N ≤ g w)
    (hst : ∀ x z y w, R x y → f x = g y → S x z → T y w → R z w) : R z w := by
  obtain ⟨n, hn⟩ := ha
  obtain ⟨m, hm⟩ := hb
  have c1 := RTC_cnt hS _ _ hn
  have c2 := RTC_cnt hT _ _ hm
  have e : n = m := by
    rcases Nat.eq_zero_or_pos n with q | q <;> rcases Nat.eq_zero_or_pos m with p | p
    · omega
    · have := c2.2 p; omega
    · have := c1.2 q; omega
    · have := c2.2 p; have := c1.2 q; omega
  subst e
  clear c1 c2 hz hw
  induction n generalizing z w with
  | zero =>
    have e1 : a = z := hn
    have e2 : b = w := hm
    subst e1 e2
    exact h0
  | succ n ih =>
    obtain ⟨x, h1, h2⟩ := hn
    obtain ⟨y, g1, g2⟩ := hm
    have d1 := (RTC_cnt hS _ _ h1).1
    have d2 := (RTC_cnt hT _ _ g1).1
    exact hst x z y w (ih h1 g1) (by omega) h2 g2
end
section
/-! things go on -/
theorem OCC_move {b : Nat} {q q2 : rf → Nat → Int32} {n : Nat → Int32} {t : Nat} {x : Int32} {to c0 : Nat} (h : OCC b q n) (hN : nTh n ≤ 40) (hW : nWa n ≤ 8) (ht : (t : Int) < nTh n) (h0 : tcl n t = (c0 : Int)) (hx : x.toInt = (to : Int)) (hto : to < 192) (hf : occ b q to = -1)
    (ho : ∀ k, occ b q2 k = if k = to then (t : Int) else if k = c0 then -1 else occ b q k) : OCC b q2 (upd n (21 + 4 * t) x) := by
  obtain ⟨h1, h2, h3⟩ := h
  have o0 := h1 t ht (by omega)
  rw [h0, Int.toNat_natCast] at o0
  have et : nTh (upd n (21 + 4 * t) x) = nTh n := by unfold nTh; rw [updN (by omega)]
  have ew : nWa (upd n (21 + 4 * t) x) = nWa n := by unfold nWa; rw [updN (by omega)]
  have tE : tcl (upd n (21 + 4 * t) x) t = (to : Int) := by unfold tcl; rw [updE rfl]; exact hx
  have tN : ∀ s : Nat, ¬ s = t → tcl (upd n (21 + 4 * t) x) s = tcl n s := fun s hs => by unfold tcl; rw [updN (by omega)]
  have wN : ∀ w : Nat, wcl (upd n (21 + 4 * t) x) w = wcl n w := fun w => by unfold wcl; rw [updN (by omega)]
  unfold OCC
  rw [et, ew]
  refine ⟨fun s hs hp => ?_, fun w hw => ?_, fun c hc => ?_⟩
  · by_cases e : s = t
    · rw [e, tE, ho, if_pos (by omega)]
    · rw [tN s e] at hp ⊢
      have g := h1 s hs hp
      rw [ho, if_neg (fun z => by rw [z] at g; omega), if_neg (fun z => by rw [z] at g; omega)]
      exact g
  · rw [wN]
    have g := h2 w hw
    rw [ho, if_neg (fun z => by rw [z] at g; omega), if_neg (fun z => by rw [z] at g; omega)]
    exact g
  · rw [ho]
    by_cases e : c = to
    · rw [if_pos e]
      exact Or.inr (Or.inl ⟨by omega, ht, by rw [Int.toNat_natCast, tE, e]⟩)
    · rw [if_neg e]
      by_cases e2 : c = c0
      · rw [if_pos e2]; exact Or.inl rfl
      · rw [if_neg e2]
        rcases h3 c hc with o | ⟨o1, o2, o3⟩ | ⟨o1, o2, o3⟩
        · exact Or.inl o
        · refine Or.inr (Or.inl ⟨o1, o2, ?_⟩)
          rw [tN _ (fun z => by rw [z, h0] at o3; omega)]
          exact o3
        · exact Or.inr (Or.inr ⟨o1, o2, by rw [wN]; exact o3⟩)
theorem THR_one {b : Nat} {q q2 : rf → Nat → Int32} {n : Nat → Int32} {t f : Nat} {x : Int32} (h : THR b q n) (hN : nTh n ≤ 40) (hf : f < 4) (h7 : q2 (7, b, 0) 5 = q (7, b, 0) 5) (hq : ∀ g k, g < 4 → q2 (36 + g, b, 0) k = if g = f ∧ k = t then x else q (36 + g, b, 0) k) : THR b q2 (upd n (20 + 4 * t + f) x) := by
  have et : nTh (upd n (20 + 4 * t + f) x) = nTh n := by unfold nTh; rw [updN (by omega)]
  refine ⟨by rw [h7, updN (by omega)]; exact h.1, fun s hs => ?_⟩
  rw [et] at hs
  have g := h.2 s hs
  have one : ∀ g, g < 4 → q (36 + g, b, 0) s = n (20 + g + 4 * s) → q2 (36 + g, b, 0) s = upd n (20 + 4 * t + f) x (20 + g + 4 * s) := fun g hg e => by
    rw [hq g s hg]
    by_cases z : g = f ∧ s = t
    · rw [if_pos z, updE (by omega)]
    · rw [if_neg z, updN (by omega)]; exact e
  exact ⟨one 0 (by omega) g.1, one 1 (by omega) g.2.1, one 2 (by omega) g.2.2.1, one 3 (by omega) g.2.2.2⟩
/-- a thing turns about -/
theorem WRR_turn {b : Nat} {M D : mM} {t : Nat} {x : Int32} (h : WRR b M.1 (D.1 (50, 0, 0))) (hN : NW5 (D.1 (50, 0, 0))) (ht : (t : Int) < nTh (D.1 (50, 0, 0))) : WRR b (up M (38, b, 0) t x).1 ((up D (50, 0, 0) (22 + 4 * t) x).1 (50, 0, 0)) := by
  have b1 := nTh_b hN
  have b2 := nWa_b hN
  rw [up_row]
  have nn : ∀ j, ¬ j = 22 + 4 * t → upd (D.1 (50, 0, 0)) (22 + 4 * t) x j = D.1 (50, 0, 0) j := fun j hj => updN hj
  refine ⟨LWR_keep h.1 (fun r k hr => zupR rfl (by dsimp only; omega)) (fun j hj => nn j (by omega)), ?_, WAR_keep h.2.2.1 b2.2 (fun r w k hr => zupR rfl (by dsimp only; omega)) (zupR rfl (by first | decide | simp | (dsimp only; omega))) (fun j hj => nn j (by omega)),
    TXR_keep h.2.2.2.1 (TXz hN) (fun r u k hr hu => zupR rfl (by dsimp only; omega)) (fun j h1 h2 => nn j (by omega)), OCC_keep h.2.2.2.2.1 b1.2 b2.2 (fun k => zupR rfl (by simp)) (fun j hj => nn j (by omega)) (fun j hj => nn j (by omega)), MIR_keep h.2.2.2.2.2 b1.2 b2.2 (fun j hj => nn j (by omega)) (fun w h1 h2 => ⟨fun k hk => nn _ (by omega), fun c hc => nn _ (by omega)⟩)⟩
  have g := THR_one (q2 := (up M (38, b, 0) t x).1) (t := t) (f := 2) (x := x) h.2.1 b1.2 (by omega) (zupR rfl (by simp)) (fun g k hg => by
    by_cases e : g = 2 ∧ k = t
    · rw [if_pos e]; exact zupE rfl (by rw [e.1]) e.2
    · rw [if_neg e]; exact zupN rfl (fun z => e ⟨by have := congrArg (fun c : rf => c.1) z.1; dsimp only at this; omega, z.2⟩))
  rw [show 20 + 4 * t + 2 = 22 + 4 * t by omega] at g
  exact g
/-- a thing goes to the next cell -/
theorem WRR_move {b : Nat} {M D : mM} {t to c0 : Nat} {x i : Int32} (h : WRR b M.1 (D.1 (50, 0, 0))) (hN : NW5 (D.1 (50, 0, 0))) (ht : (t : Int) < nTh (D.1 (50, 0, 0))) (hi : i.toInt = (t : Int)) (h0 : tcl (D.1 (50, 0, 0)) t = (c0 : Int)) (hx : x.toInt = (to : Int)) (hto : to < 192) (hf : occ b M.1 to = -1) :
    WRR b (up (up (up M (35, b, 0) c0 (-1)) (35, b, 0) to i) (37, b, 0) t x).1 ((up D (50, 0, 0) (21 + 4 * t) x).1 (50, 0, 0)) := by
  have b1 := nTh_b hN
  have b2 := nWa_b hN
  rw [up_row]
  have nn : ∀ j, ¬ j = 21 + 4 * t → upd (D.1 (50, 0, 0)) (21 + 4 * t) x j = D.1 (50, 0, 0) j := fun j hj => updN hj
  have qq : ∀ (c : rf) (k : Nat), ¬ c.1 = 35 → ¬ c.1 = 37 → (up (up (up M (35, b, 0) c0 (-1)) (35, b, 0) to i) (37, b, 0) t x).1 c k = M.1 c k := fun c k h1 h2 => by
    rw [zupR rfl h2, zupR rfl h1, zupR rfl h1]
  refine ⟨LWR_keep h.1 (fun r k hr => qq _ _ (by dsimp only; omega) (by dsimp only; omega)) (fun j hj => nn j (by omega)), ?_, WAR_keep h.2.2.1 b2.2 (fun r w k hr => qq _ _ (by dsimp only; omega) (by dsimp only; omega)) (qq _ _ (by simp) (by simp)) (fun j hj => nn j (by omega)),
    TXR_keep h.2.2.2.1 (TXz hN) (fun r u k hr hu => qq _ _ (by dsimp only; omega) (by dsimp only; omega)) (fun j h1 h2 => nn j (by omega)), ?_, MIR_keep h.2.2.2.2.2 b1.2 b2.2 (fun j hj => nn j (by omega)) (fun w h1 h2 => ⟨fun k hk => nn _ (by omega), fun c hc => nn _ (by omega)⟩)⟩
  · have g := THR_one (q2 := (up (up (up M (35, b, 0) c0 (-1)) (35, b, 0) to i) (37, b, 0) t x).1) (t := t) (f := 1) (x := x) h.2.1 b1.2 (by omega) (qq _ _ (by simp) (by simp)) (fun g k hg => by
      by_cases e : g = 1 ∧ k = t
      · rw [if_pos e]; exact zupE rfl (by rw [e.1]) e.2
      · rw [if_neg e, zupN rfl (fun z => e ⟨by have := congrArg (fun c : rf => c.1) z.1; dsimp only at this; omega, z.2⟩), zupR rfl (by dsimp only; omega), zupR rfl (by dsimp only; omega)])
    rw [show 20 + 4 * t + 1 = 21 + 4 * t by omega] at g
    exact g
  · refine OCC_move h.2.2.2.2.1 b1.2 b2.2 ht h0 hx hto hf (fun k => ?_)
    unfold occ
    rw [zupR (c' := (35, b, 0)) rfl (by simp)]
    by_cases e : k = to
    · rw [if_pos e, zupE rfl rfl e]; exact hi
    · rw [if_neg e, zupN rfl (fun z => e z.2)]
      by_cases e2 : k = c0
      · rw [if_pos e2, zupE rfl rfl e2]; exact il_m1
      · rw [if_neg e2, zupN rfl (fun z => e2 z.2)]
theorem x7settle {b : Nat} {v u : Int32} {M M' : mM} (h : SP_X7_settle b v u M M') (hv : 0 ≤ v.toInt ∧ v.toInt ≤ 191) : M' = up M (35, b, 0) v.toInt.toNat u := by
  refine xE_SP_X7_settle h ⟨(fun hs5_ h4_ j9_ h10_ M7_ hM8_ hM_ => ?_), (fun hs5_ h4_ hM_ => ?_)⟩
  · obtain rfl : j9_ = v.toInt.toNat := by omega
    rw [hM_, hM8_]
  · omega
def goC (now step cell : Int32) : Prop := 0 ≤ cell.toInt ∧ 0 < step.toInt ∧ (now - now / step * step).toInt = 0
theorem thC {b : Nat} {now i i2 : Int32} {Mz M M' : mM} (h : ST_X7_letThingsGo_2 b now Mz i M i2 M') (hs : 0 ≤ (M.1 (38, b, 0) i.toInt.toNat).toInt ∧ (M.1 (38, b, 0) i.toInt.toNat).toInt ≤ 7) (hc : (M.1 (37, b, 0) i.toInt.toNat).toInt ≤ 191) :
    (¬ goC now (M.1 (39, b, 0) i.toInt.toNat) (M.1 (37, b, 0) i.toInt.toNat) ∧ M' = M) ∨ (goC now (M.1 (39, b, 0) i.toInt.toNat) (M.1 (37, b, 0) i.toInt.toNat) ∧ ∃ r : Int32, r.toInt = onI (M.1 (37, b, 0) i.toInt.toNat).toInt (M.1 (38, b, 0) i.toInt.toNat).toInt 1 ∧
      (((0 ≤ r.toInt ∧ r.toInt ≤ 191 ∧ occ b M.1 r.toInt.toNat = -1) ∧ M' = up (up (up M (35, b, 0) (M.1 (37, b, 0) i.toInt.toNat).toInt.toNat (-1)) (35, b, 0) r.toInt.toNat i) (37, b, 0) i.toInt.toNat r) ∨
       (¬ (0 ≤ r.toInt ∧ r.toInt ≤ 191 ∧ occ b M.1 r.toInt.toNat = -1) ∧ M' = up M (38, b, 0) i.toInt.toNat ((M.1 (38, b, 0) i.toInt.toNat + (4 : Int32)) &&& (7 : Int32))))) := by
  have q0 := il_0
  have q1 := il_1
  unfold goC
  refine xE_ST_X7_letThingsGo_2 h (fun hv0_2 _ hF_2 z2_ e3_ h4_ h5_ j8_ h9_ z6_ e7_ j12_ h13_ z10_ e11_ => ⟨(fun h14_ z15_ h16_ hq_v2_2y hM_ => ?_), (fun h14_ => ⟨(fun h17_ z18_ h19_ hq_v2_2y hM_ => ?_), (fun h17_ z20_ h21_ => ⟨(fun h22_ z23_ h24_ hq_v2_2y hM_ => ?_), (fun h22_ M25_ _ hF29_ hs31_ z32_ h33_ hq_v2_2y hM_ => ?_)⟩)⟩)⟩)
  · obtain rfl : j12_ = i.toInt.toNat := by omega
    have := eT e11_
    exact Or.inl ⟨by omega, hM_⟩
  · obtain rfl : j8_ = i.toInt.toNat := by omega
    have := eT e7_
    exact Or.inl ⟨by omega, hM_⟩
  · obtain rfl : j8_ = i.toInt.toNat := by omega
    rw [h21_, e7_] at h22_
    exact Or.inl ⟨by omega, hM_⟩
  · obtain rfl : j8_ = i.toInt.toNat := by omega
    obtain rfl : j12_ = i.toInt.toNat := by omega
    have y1 := eT e7_
    have y2 := eT e11_
    rw [h21_, e7_] at h22_
    refine Or.inr ⟨⟨by omega, by omega, h22_⟩, ?_⟩
    refine xE_SP_X7_letThingGo hs31_ ⟨(fun k_hs5_ k_h4_ k_j9_ k_h10_ k_z7_ k_e8_ k_j13_ k_h14_ k_z11_ k_e12_ k_r15_ k_hs19_ k_h18_ => ⟨(fun k_hs24_ k_h23_ k_j28_ k_h29_ k_z26_ k_e27_ k_M30_ _ k_hF34_ k_hs36_ k_M37_ _ k_hF41_ k_hs43_ k_j46_ k_h47_ k_M44_ k_hM45_ k_hM_ => ?_), (fun k_hs24_ k_j53_ k_h54_ k_z51_ k_e52_ k_z55_ k_h56_ k_z57_ k_h59_ k_h58_ k_j62_ k_h63_ k_M60_ k_hM61_ k_hM_ => ?_)⟩), (fun k_hs5_ k_hM_ => ?_)⟩
    · obtain rfl : k_j9_ = i.toInt.toNat := by omega
      obtain rfl : k_j13_ = i.toInt.toNat := by omega
      obtain rfl : k_j28_ = i.toInt.toNat := by omega
      obtain rfl : k_j46_ = i.toInt.toNat := by omega
      have cf := cF_spec k_hs19_
      rw [k_e8_, k_e12_] at cf
      have fr := x7free k_hs24_
      have r1 : k_r15_.toInt = onI (M.1 (37, b, 0) i.toInt.toNat).toInt (M.1 (38, b, 0) i.toInt.toNat).toInt 1 := by
        rcases cf with cf | cf
        · rw [cf.2, q1]
        · omega
      have s1 := x7settle k_hs36_ (by rw [k_e27_]; omega)
      have s2 := x7settle k_hs43_ k_h23_
      refine ⟨k_r15_, r1, Or.inl ⟨by omega, ?_⟩⟩
      rw [hM_, k_hM_, k_hM45_, s2, s1, k_e27_]
    · obtain rfl : k_j9_ = i.toInt.toNat := by omega
      obtain rfl : k_j13_ = i.toInt.toNat := by omega
      obtain rfl : k_j53_ = i.toInt.toNat := by omega
      obtain rfl : k_j62_ = i.toInt.toNat := by omega
      have cf := cF_spec k_hs19_
      rw [k_e8_, k_e12_] at cf
      have fr := x7free k_hs24_
      have r1 : k_r15_.toInt = onI (M.1 (37, b, 0) i.toInt.toNat).toInt (M.1 (38, b, 0) i.toInt.toNat).toInt 1 := by
        rcases cf with cf | cf
        · rw [cf.2, q1]
        · omega
      refine ⟨k_r15_, r1, Or.inr ⟨by omega, ?_⟩⟩
      rw [hM_, k_hM_, k_hM61_, k_h59_, k_h56_, k_e52_]
    · have g := x7has k_hs5_
      have y3 := eT e3_
      omega
def goD (now kind step cell : Int32) : Prop := 3 ≤ kind.toInt ∧ ¬ step.toInt = 0 ∧ 0 ≤ cell.toInt ∧ (now - now / step * step).toInt = 0
theorem thD {b : Nat} {q : rf → Nat → Int32} {i : Int32} {D D2 : mM} (h : SP_X12_thingGoes i D D2) (hO : OCC b q (D.1 (50, 0, 0))) (hu : (D.1 (12, 0, 0) 7).toInt = -1) (hi : 0 ≤ i.toInt ∧ i.toInt ≤ 39) :
    (¬ goD (D.1 (50, 0, 0) 0) (D.1 (50, 0, 0) (20 + 4 * i.toInt.toNat)) (D.1 (50, 0, 0) (23 + 4 * i.toInt.toNat)) (D.1 (50, 0, 0) (21 + 4 * i.toInt.toNat)) ∧ D2 = D) ∨
    (goD (D.1 (50, 0, 0) 0) (D.1 (50, 0, 0) (20 + 4 * i.toInt.toNat)) (D.1 (50, 0, 0) (23 + 4 * i.toInt.toNat)) (D.1 (50, 0, 0) (21 + 4 * i.toInt.toNat)) ∧ ∃ r : Int32, r.toInt = onI (D.1 (50, 0, 0) (21 + 4 * i.toInt.toNat)).toInt (D.1 (50, 0, 0) (22 + 4 * i.toInt.toNat)).toInt 1 ∧
      (((0 ≤ r.toInt ∧ r.toInt ≤ 191 ∧ occ b q r.toInt.toNat = -1) ∧ D2 = up D (50, 0, 0) (21 + 4 * i.toInt.toNat) r) ∨
       (¬ (0 ≤ r.toInt ∧ r.toInt ≤ 191 ∧ occ b q r.toInt.toNat = -1) ∧ D2 = up D (50, 0, 0) (22 + 4 * i.toInt.toNat) ((D.1 (50, 0, 0) (22 + 4 * i.toInt.toNat) + (4 : Int32)) &&& (7 : Int32))))) := by
  have q1 := il_1
  have q4 : (4 : Int32).toInt = 4 := by decide
  unfold goD
  unfold SP_X12_thingGoes at h
  obtain ⟨r1_, hs5_, h4_, z6_, h7_, j10_, h11_, z8_, e9_, r12_, hs16_, h15_, z17_, h18_, j21_, h22_, z19_, e20_, h23_, r24_, hs28_, h27_, z29_, h30_, j33_, h34_, z31_, e32_, h35_, h⟩ := h
  obtain rfl : j10_ = 23 + 4 * i.toInt.toNat := by omega
  obtain rfl : j21_ = 21 + 4 * i.toInt.toNat := by omega
  obtain rfl : j33_ = 20 + 4 * i.toInt.toNat := by omega
  rw [← e9_, ← e20_, ← e32_]
  rcases h with ⟨h36_, hM_⟩ | ⟨h36_, h⟩
  · exact Or.inl ⟨by omega, hM_⟩
  rcases h with ⟨h37_, hM_⟩ | ⟨h37_, h⟩
  · exact Or.inl ⟨by omega, hM_⟩
  rcases h with ⟨h38_, hM_⟩ | ⟨h38_, z39_, e40_, z41_, h42_, h⟩
  · exact Or.inl ⟨by omega, hM_⟩
  rw [← e40_, ← h42_]
  rcases h with ⟨h43_, r44_, hs48_, h47_, z49_, h50_, j53_, h54_, z51_, e52_, h55_, r56_, hs60_, h59_, h⟩ | ⟨h43_, hM_⟩
  · refine Or.inr ⟨⟨h36_, h37_, h38_, h43_⟩, r56_, ?_⟩
    obtain rfl : j53_ = 22 + 4 * i.toInt.toNat := by omega
    rw [← e52_]
    have on := on_spec h59_.1 ⟨h38_, h23_.2⟩ h55_ (by omega)
    rw [q1] at on
    refine ⟨on, ?_⟩
    have tn : ∀ {z a x j : Int32}, z = D.1 (50, 0, 0) (22 + 4 * i.toInt.toNat) → a.toInt = z.toInt + 4 → 0 ≤ z.toInt ∧ z.toInt ≤ 7 → x = a &&& (7 : Int32) → x = (z51_ + (4 : Int32)) &&& (7 : Int32) := fun {z a x j} hz ha hb hx => by
      have e : a = z51_ + (4 : Int32) := i32e (by rw [ha, addI (x := z51_) rfl q4 (by omega) (by omega), e52_, hz])
      rw [hx, e]
    rcases h with ⟨h61_, r62_, hs66_, h65_, z67_, h68_, r69_, hs73_, h72_, z74_, h75_, j78_, h79_, z76_, e77_, h80_, z81_, h82_, z83_, h85_, h84_, j88_, h89_, M86_, hM87_, hM_⟩ | ⟨h61_, r92_, hs96_, h95_, h⟩
    · refine Or.inr ⟨by omega, ?_⟩
      obtain rfl : j78_ = 22 + 4 * i.toInt.toNat := by omega
      obtain rfl : j88_ = 22 + 4 * i.toInt.toNat := by omega
      rw [hM_, hM87_, tn (j := 0) e77_ h82_ h80_ h85_]
    · have fr := x12free hs96_ hO (by omega) (by omega)
      rcases h with ⟨h97_, r98_, hs102_, h101_, z103_, h104_, r105_, hs109_, h108_, z110_, h111_, j114_, h115_, z112_, e113_, h116_, z117_, h118_, z119_, h121_, h120_, j124_, h125_, M122_, hM123_, hM_⟩ | ⟨h97_, r128_, hs132_, h131_, z133_, h134_, j137_, h138_, M135_, hM136_, hM_⟩
      · refine Or.inr ⟨by omega, ?_⟩
        obtain rfl : j114_ = 22 + 4 * i.toInt.toNat := by omega
        obtain rfl : j124_ = 22 + 4 * i.toInt.toNat := by omega
        rw [hM_, hM123_, tn (j := 0) e113_ h118_ h116_ h121_]
      · refine Or.inl ⟨by omega, ?_⟩
        obtain rfl : j137_ = 21 + 4 * i.toInt.toNat := by omega
        rw [hM_, hM136_]
  · exact Or.inl ⟨fun z => h43_ z.2.2.2, hM_⟩
theorem th_step {b : Nat} {now i i2 : Int32} {Mz M M' D D2 : mM} (h1 : ST_X7_letThingsGo_2 b now Mz i M i2 M') (h2 : SP_X12_thingGoes i D D2) (hR : WRR b M.1 (D.1 (50, 0, 0))) (hD : InvD D) (hu : (D.1 (12, 0, 0) 7).toInt = -1) (hnow : now = D.1 (50, 0, 0) 0) (hi : 0 ≤ i.toInt ∧ i.toInt < nTh (D.1 (50, 0, 0))) : WRR b M'.1 (D2.1 (50, 0, 0)) ∧ (∀ j, j < 20 → D2.1 (50, 0, 0) j = D.1 (50, 0, 0) j) ∧ ∀ (d : rf) (k : Nat), d.1 ≠ 50 → D2.1 d k = D.1 d k := by
  have b1 := nTh_b hD.2.1
  have T := hR.2.1.2 i.toInt.toNat (by omega)
  have P1 := ((hD.2.1.1 (21 + 4 * i.toInt.toNat)).2.2.2.2.2.2.1 (by omega) (by omega)).2.1 (by omega)
  have P2 := ((hD.2.1.1 (22 + 4 * i.toInt.toNat)).2.2.2.2.2.2.1 (by omega) (by omega)).2.2 (by omega)
  have MI := hR.2.2.2.2.2.2.1 i.toInt.toNat (by omega)
  have c := thC h1 (by rw [T.2.2.1]; exact P2) (by rw [T.2.1]; exact P1.2)
  have d := thD h2 hR.2.2.2.2.1 hu (by omega)
  rw [T.2.1, T.2.2.1, T.2.2.2, hnow] at c
  have go : goC (D.1 (50, 0, 0) 0) (D.1 (50, 0, 0) (23 + 4 * i.toInt.toNat)) (D.1 (50, 0, 0) (21 + 4 * i.toInt.toNat)) ↔ goD (D.1 (50, 0, 0) 0) (D.1 (50, 0, 0) (20 + 4 * i.toInt.toNat)) (D.1 (50, 0, 0) (23 + 4 * i.toInt.toNat)) (D.1 (50, 0, 0) (21 + 4 * i.toInt.toNat)) := by
    unfold goC goD
    omega
  rcases c with ⟨c1, c2⟩ | ⟨c1, r, c2, c3⟩ <;> rcases d with ⟨d1, d2⟩ | ⟨d1, r', d2, d3⟩
  · rw [c2, d2]; exact ⟨hR, fun _ _ => rfl, fun _ _ _ => rfl⟩
  · exact absurd (go.mpr d1) c1
  · exact absurd (go.mp c1) d1
  · obtain rfl : r = r' := i32e (c2.trans d2.symm)
    rcases c3 with ⟨c3, c4⟩ | ⟨c3, c4⟩ <;> rcases d3 with ⟨d3, d4⟩ | ⟨d3, d4⟩
    · rw [c4, d4]
      refine ⟨WRR_move hR hD.2.1 (by omega) (by omega) ?_ (by omega) (by omega) c3.2.2, fun j hj => by rw [up_row, updN (by omega)], fun d k hd => by rw [up_other _ _ (fun z => hd (by rw [z]))]⟩
      unfold tcl
      unfold goD at d1
      omega
    · exact absurd c3 d3
    · exact absurd d3 c3
    · rw [c4, d4]
      exact ⟨WRR_turn hR hD.2.1 (by omega), fun j hj => by rw [up_row, updN (by omega)], fun d k hd => by rw [up_other _ _ (fun z => hd (by rw [z]))]⟩
end
