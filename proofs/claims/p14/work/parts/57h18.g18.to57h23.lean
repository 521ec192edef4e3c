section
/-! the two parses -/
def nxT (f : Nat → Int32) (N p q r : Int) : Prop := p ≤ q ∧ (∀ j : Nat, p ≤ (j : Int) → (j : Int) < q → (j : Int) < N ∧ (f (273 + j)).toInt = 32) ∧ ((q < N ∧ r = (f (273 + q.toNat)).toInt ∧ ¬ r = 32) ∨ (N ≤ q ∧ r = -1))
theorem nxT_lt {f : Nat → Int32} {N p q r q2 r2 : Int} (hp : 0 ≤ p) (h : nxT f N p q r) (g : nxT f N p q2 r2) : ¬ q < q2 := fun z => by
  have b := g.2.1 q.toNat (by have := h.1; omega) (by have := h.1; omega)
  rcases h.2.2 with a | a
  · rw [← a.2.1] at b; exact a.2.2 b.2
  · have := h.1; omega
theorem nxT_uniq {f : Nat → Int32} {N p q r q2 r2 : Int} (hp : 0 ≤ p) (h : nxT f N p q r) (g : nxT f N p q2 r2) : q = q2 ∧ r = r2 := by
  have e : q = q2 := by
    have a := nxT_lt hp h g
    have b := nxT_lt hp g h
    omega
  subst e
  refine ⟨rfl, ?_⟩
  rcases h.2.2 with a | a <;> rcases g.2.2 with b | b
  · rw [a.2.1, b.2.1]
  · omega
  · omega
  · rw [a.2, b.2]
theorem nxT_idem {f : Nat → Int32} {N p q r : Int} (h : nxT f N p q r) : nxT f N q q r := ⟨by omega, fun j a b => by omega, h.2.2⟩
/-- what both read -/
def TPE (C D : mM) : Prop := C.1 (5, 0, 0) 1 = D.1 (50, 0, 0) 4 ∧ (0 ≤ (D.1 (50, 0, 0) 4).toInt ∧ (D.1 (50, 0, 0) 4).toInt ≤ 48) ∧ (∀ i : Nat, (i : Int) < (D.1 (50, 0, 0) 4).toInt → C.1 (33, 0, 0) i = D.1 (50, 0, 0) (273 + i) ∧ 0 ≤ (D.1 (50, 0, 0) (273 + i)).toInt ∧ (D.1 (50, 0, 0) (273 + i)).toInt ≤ 255) ∧ (C.1 (4, 0, 0) 2).toInt = (D.1 (12, 0, 0) 10).toInt + 1 ∧ (0 ≤ (D.1 (12, 0, 0) 10).toInt ∧ (D.1 (12, 0, 0) 10).toInt ≤ 2)
theorem TPE_fr {C C2 D D2 : mM} (h : TPE C D) (hc : FR S_reader C C2) (hd : FR S_par D D2) : TPE C2 D2 := by
  have c1 : ∀ (c : rf) (k : Nat), c.1 = 5 ∨ c.1 = 33 ∨ (c.1 = 4 ∧ k = 2) → C2.1 c k = C.1 c k := fun c k q => hc c k (fun z => by simp only [S_reader, or_false] at z; omega)
  have d1 : ∀ (c : rf) (k : Nat), c.1 = 50 ∨ (c.1 = 12 ∧ k = 10) → D2.1 c k = D.1 c k := fun c k q => hd c k (fun z => by simp only [S_par, or_false] at z; omega)
  unfold TPE
  rw [c1 _ _ (by simp), c1 (4, 0, 0) 2 (by simp), d1 (50, 0, 0) 4 (by simp), d1 (12, 0, 0) 10 (by simp)]
  refine ⟨h.1, h.2.1, fun i hi => ?_, h.2.2.2⟩
  rw [c1 _ _ (by simp), d1 _ _ (by simp)]
  exact h.2.2.1 i hi
theorem x5get {v r : Int32} {M : mM} (h : SP_X5_get 0 0 v M r) (hv : 0 ≤ v.toInt ∧ v.toInt < (M.1 (5, 0, 0) 1).toInt) (h48 : (M.1 (5, 0, 0) 1).toInt ≤ 48) : r = M.1 (33, 0, 0) v.toInt.toNat := by
  have rl0 : ((rl 0 : Nat) : Int) = 48 := by decide
  refine xE_SP_X5_get h ⟨(fun h1_ hr_ => ?_), (fun h1_ z2_ e3_ => ⟨(fun h4_ hr_ => ?_), (fun h4_ z5_ h6_ => ⟨(fun h7_ hr_ => ?_), (fun h7_ j10_ h11_ z8_ e9_ hr_ => ?_)⟩)⟩)⟩
  · omega
  · have := eT e3_; omega
  · have := eT e3_; omega
  · obtain rfl : j10_ = v.toInt.toNat := by omega
    rw [hr_, e9_]
theorem x4next {C C2 D : mM} {r : Int32} (h : SP_X4_next C r C2) (hT : TPE C D) (hp : 0 ≤ (C.1 (4, 0, 0) 3).toInt ∧ (C.1 (4, 0, 0) 3).toInt ≤ (D.1 (50, 0, 0) 4).toInt) : nxT (D.1 (50, 0, 0)) (D.1 (50, 0, 0) 4).toInt (C.1 (4, 0, 0) 3).toInt (C2.1 (4, 0, 0) 3).toInt r.toInt ∧ (C2.1 (4, 0, 0) 3).toInt ≤ (D.1 (50, 0, 0) 4).toInt ∧ ∀ (c : rf) (k : Nat), ¬ (c = (4, 0, 0) ∧ k = 3) → C2.1 c k = C.1 c k := by
  have i32 : (32 : Int32).toInt = 32 := by decide
  have im := il_m1
  have hc := eT hT.1
  have hb := hT.2.1
  refine xE_SP_X4_next h (fun M_0 hL_0 _ hF_0 z2_ e3_ z4_ e5_ => ?_)
  have g := rind hL_0 (fun z => (C.1 (4, 0, 0) 3).toInt ≤ (z.1 (4, 0, 0) 3).toInt ∧ (z.1 (4, 0, 0) 3).toInt ≤ (D.1 (50, 0, 0) 4).toInt ∧ (∀ j : Nat, (C.1 (4, 0, 0) 3).toInt ≤ (j : Int) → (j : Int) < (z.1 (4, 0, 0) 3).toInt → (j : Int) < (D.1 (50, 0, 0) 4).toInt ∧ (D.1 (50, 0, 0) (273 + j)).toInt = 32) ∧ ∀ (c : rf) (k : Nat), ¬ (c = (4, 0, 0) ∧ k = 3) → z.1 c k = C.1 c k) ⟨Int.le_refl _, hp.2, fun j a b => by omega, fun _ _ _ => rfl⟩ (fun x z p st => by
    (try dsimp only at p st ⊢)
    obtain ⟨p1, p2, p3, p4⟩ := p
    refine xE_ST_X4_next_0 st (fun _ k_hF_0 k_z2_ k_e3_ k_z4_ k_e5_ k_h6_ k_r21_ k_hs25_ k_h26_ k_z41_ k_h42_ k_M43_ k_hM44_ k_hM_ => ?_)
    have c5 : x.1 (5, 0, 0) 1 = C.1 (5, 0, 0) 1 := p4 _ _ (by simp)
    have y1 := eT k_e3_
    have y2 := eT k_e5_
    rw [c5] at y2
    have ge := x5get k_hs25_ (by rw [c5]; omega) (by rw [c5]; omega)
    have cell := hT.2.2.1 k_z2_.toInt.toNat (by omega)
    rw [ge, p4 _ _ (by simp), cell.1] at k_h26_
    rw [k_hM_, zupE k_hM44_ rfl rfl]
    refine ⟨by omega, by omega, fun j a b => ?_, fun c k q => by rw [zupN k_hM44_ q]; exact p4 c k q⟩
    by_cases e : (j : Int) = k_z2_.toInt
    · rw [show j = k_z2_.toInt.toNat by omega]
      exact ⟨by omega, k_h26_⟩
    · exact p3 j a (by omega))
  (try dsimp only at g)
  obtain ⟨g1, g2, g3, g4⟩ := g
  have y1 := eT e3_
  have y2 := eT e5_
  rw [g4 _ _ (by simp)] at y2
  refine ⟨(fun h6_ => ⟨(fun h11_ hr_ hM_ => ?_), (fun h11_ r14_ hs18_ hr_ hM_ => ?_)⟩), (fun h6_ r21_ hs25_ h26_ => ⟨(fun h31_ hr_ hM_ => ?_), (fun h31_ r34_ hs38_ hr_ hM_ => ?_)⟩)⟩
  all_goals
    rw [hM_]
    refine ⟨⟨g1, g3, ?_⟩, g2, g4⟩
  · have := eT hr_; right; omega
  · omega
  · omega
  · have ge := x5get hs25_ (by rw [g4 _ _ (by simp)]; omega) (by rw [g4 _ _ (by simp)]; omega)
    have ge2 := x5get hs38_ (by rw [g4 _ _ (by simp)]; omega) (by rw [g4 _ _ (by simp)]; omega)
    have cell := hT.2.2.1 z2_.toInt.toNat (by omega)
    rw [ge, g4 _ _ (by simp), cell.1] at h26_
    left
    refine ⟨by omega, ?_, ?_⟩
    · rw [hr_, ge2, g4 _ _ (by simp), cell.1, show z2_.toInt.toNat = (M_0.1 (4, 0, 0) 3).toInt.toNat by omega]
    · rw [hr_, ge2, g4 _ _ (by simp), cell.1]; exact h26_
theorem x12here {s : Int} {W : Nat} {a T : Int} {D D2 : mM} {r : Int32} (h : SP_X12_here s W a T D r D2) (hp : 0 ≤ (D.1 (12, 0, 0) 9).toInt ∧ (D.1 (12, 0, 0) 9).toInt ≤ (D.1 (50, 0, 0) 4).toInt) :
    (¬ (D.1 (12, 0, 0) 13).toInt = 0 ∧ r.toInt = -1 ∧ (∀ (c : rf) (k : Nat), D2.1 c k = D.1 c k)) ∨ ((D.1 (12, 0, 0) 13).toInt = 0 ∧ nxT (D.1 (50, 0, 0)) (D.1 (50, 0, 0) 4).toInt (D.1 (12, 0, 0) 9).toInt (D2.1 (12, 0, 0) 9).toInt r.toInt ∧ (D2.1 (12, 0, 0) 9).toInt ≤ (D.1 (50, 0, 0) 4).toInt ∧ ∀ (c : rf) (k : Nat), ¬ (c = (12, 0, 0) ∧ k = 9) → D2.1 c k = D.1 c k) := by
  have im := il_m1
  refine xE_SP_X12_here h (fun M_0 hL_0 _ hF_0 z2_ e3_ h4_ => ?_)
  have g := rind hL_0 (fun z => (D.1 (12, 0, 0) 9).toInt ≤ (z.1 (12, 0, 0) 9).toInt ∧ (z.1 (12, 0, 0) 9).toInt ≤ (D.1 (50, 0, 0) 4).toInt ∧ (∀ j : Nat, (D.1 (12, 0, 0) 9).toInt ≤ (j : Int) → (j : Int) < (z.1 (12, 0, 0) 9).toInt → (j : Int) < (D.1 (50, 0, 0) 4).toInt ∧ (D.1 (50, 0, 0) (273 + j)).toInt = 32) ∧ (∀ (c : rf) (k : Nat), ¬ (c = (12, 0, 0) ∧ k = 9) → z.1 c k = D.1 c k) ∧ (¬ (D.1 (12, 0, 0) 13).toInt = 0 → ∀ (c : rf) (k : Nat), z.1 c k = D.1 c k)) ⟨Int.le_refl _, hp.2, fun j a b => by omega, fun _ _ _ => rfl, fun _ _ _ => rfl⟩ (fun x z p st => by
    (try dsimp only at p st ⊢)
    obtain ⟨p1, p2, p3, p4, p5⟩ := p
    refine xE_ST_X12_here_0 st (fun _ k_hF_0 k_z2_ k_e3_ k_h4_ k_h5_ k_z9_ k_e10_ k_h11_ k_z12_ k_e13_ k_h14_ k_h15_ k_z35_ k_h36_ k_j39_ k_h40_ k_z37_ k_e38_ k_h41_ k_z61_ k_h62_ k_M63_ k_hM64_ k_h68_ k_hM_ => ?_)
    have y0 := eT k_e3_
    rw [p4 _ _ (by simp)] at y0
    have y1 := eT k_e10_
    have y2 := eT k_e13_
    rw [p4 _ _ (by simp)] at y2
    rw [k_e38_, p4 _ _ (by simp)] at k_h41_
    rw [k_hM_, zupE k_hM64_ rfl rfl]
    refine ⟨by omega, by omega, fun j a b => ?_, fun c k q => by rw [zupN k_hM64_ q]; exact p4 c k q, fun q => absurd (by omega) q⟩
    by_cases e : (j : Int) = k_z9_.toInt
    · rw [show 273 + j = k_j39_ by omega]
      exact ⟨by omega, k_h41_⟩
    · exact p3 j a (by omega))
  (try dsimp only at g)
  obtain ⟨g1, g2, g3, g4, g5⟩ := g
  have y0 := eT e3_
  rw [g4 _ _ (by simp)] at y0
  refine ⟨(fun h5_ h8_ hr_ hM_ => ?_), (fun h5_ z9_ e10_ h11_ z12_ e13_ h14_ => ⟨(fun h15_ h18_ z21_ e22_ h23_ => ⟨(fun h24_ hr_ hM_ => ?_), (fun h24_ z27_ h28_ j31_ h32_ z29_ e30_ hr_ hM_ => ?_)⟩), (fun h15_ z35_ h36_ j39_ h40_ z37_ e38_ h41_ h44_ z47_ e48_ h49_ => ⟨(fun h50_ hr_ hM_ => ?_), (fun h50_ z53_ h54_ j57_ h58_ z55_ e56_ hr_ hM_ => ?_)⟩)⟩)⟩
  all_goals
    rw [hM_]
  · left
    exact ⟨by omega, by rw [hr_]; exact im, g5 (by omega)⟩
  all_goals
    right
    have y1 := eT e10_
    have y2 := eT e13_
    rw [g4 _ _ (by simp)] at y2
    refine ⟨by omega, ⟨g1, g3, ?_⟩, g2, g4⟩
  · have := eT hr_; right; omega
  · have y3 := eT e22_
    rw [g4 _ _ (by simp)] at y3
    omega
  · have y3 := eT e48_
    rw [g4 _ _ (by simp)] at y3
    omega
  · left
    have e1 : z37_ = z55_ := by rw [e38_, e56_, show j39_ = j57_ by omega]
    rw [e1] at h41_
    refine ⟨by omega, ?_, by rw [hr_]; exact h41_⟩
    rw [hr_, e56_, g4 _ _ (by simp), show j57_ = 273 + (M_0.1 (12, 0, 0) 9).toInt.toNat by omega]
theorem x12takes {v : Int32} {s : Int} {W : Nat} {a T : Int} {D D2 : mM} {r : Int32} (h : SP_X12_takes v s W a T D r D2) (hv : 0 ≤ v.toInt) (hp : 0 ≤ (D.1 (12, 0, 0) 9).toInt ∧ (D.1 (12, 0, 0) 9).toInt ≤ (D.1 (50, 0, 0) 4).toInt) :
    (∀ (c : rf) (k : Nat), ¬ (c = (12, 0, 0) ∧ k = 9) → D2.1 c k = D.1 c k) ∧ ((¬ (D.1 (12, 0, 0) 13).toInt = 0 ∧ r.toInt = 0 ∧ (D2.1 (12, 0, 0) 9).toInt = (D.1 (12, 0, 0) 9).toInt) ∨ ((D.1 (12, 0, 0) 13).toInt = 0 ∧ ∃ q c : Int, nxT (D.1 (50, 0, 0)) (D.1 (50, 0, 0) 4).toInt (D.1 (12, 0, 0) 9).toInt q c ∧ q ≤ (D.1 (50, 0, 0) 4).toInt ∧ ((c = v.toInt ∧ r.toInt = 1 ∧ (D2.1 (12, 0, 0) 9).toInt = q + 1) ∨ (¬ c = v.toInt ∧ r.toInt = 0 ∧ (D2.1 (12, 0, 0) 9).toInt = q)))) := by
  have q0 := il_0
  have q1 := il_1
  refine xE_SP_X12_takes h (fun M2_ _ hF6_ r1_ hs8_ h10_ => ⟨(fun h11_ z12_ e13_ h14_ z16_ h17_ M18_ hM19_ h22_ hr_ hM_ => ?_), (fun h11_ z27_ e28_ h29_ h30_ h31_ z33_ h34_ M35_ hM36_ h40_ hr_ hM_ => ?_)⟩)
  · have y := eT e13_
    have yr := eT hr_
    rcases x12here hs8_ hp with g | g
    · refine ⟨fun c k q => by rw [hM_, zupN hM19_ q]; exact g.2.2 c k, Or.inl ⟨g.1, by omega, ?_⟩⟩
      rw [hM_, zupE hM19_ rfl rfl, h17_, y, g.2.2]; omega
    · refine ⟨fun c k q => by rw [hM_, zupN hM19_ q]; exact g.2.2.2 c k q, Or.inr ⟨g.1, (M2_.1 (12, 0, 0) 9).toInt, r1_.toInt, g.2.1, g.2.2.1, Or.inr ⟨h11_, by omega, ?_⟩⟩⟩
      rw [hM_, zupE hM19_ rfl rfl, h17_, y]; omega
  · have y := eT e28_
    have yr := eT hr_
    rcases x12here hs8_ hp with g | g
    · omega
    · refine ⟨fun c k q => by rw [hM_, zupN hM36_ q]; exact g.2.2.2 c k q, Or.inr ⟨g.1, (M2_.1 (12, 0, 0) 9).toInt, r1_.toInt, g.2.1, g.2.2.1, Or.inl ⟨h11_, by omega, ?_⟩⟩⟩
      rw [hM_, zupE hM36_ rfl rfl, h34_, y]
theorem x4fail {C C2 : mM} (h : SP_X4_fail C C2) : (0 ≤ (C.1 (4, 0, 0) 4).toInt ∧ C2 = C) ∨ ((C.1 (4, 0, 0) 4).toInt < 0 ∧ C2 = up C (4, 0, 0) 4 (C.1 (4, 0, 0) 3)) := by
  refine xE_SP_X4_fail h (fun z1_ e2_ => ⟨(fun h3_ hM_ => ?_), (fun h3_ z4_ e5_ M6_ hM7_ hM_ => ?_)⟩)
  · have := eT e2_; exact Or.inl ⟨by omega, hM_⟩
  · have := eT e2_; exact Or.inr ⟨by omega, by rw [hM_, hM7_, e5_]⟩
theorem x1add {v : Int32} {C C2 : mM} (h : SP_X1_add 3 0 v C C2) (hs : 0 ≤ (C.1 (1, 3, 0) 2).toInt ∧ (C.1 (1, 3, 0) 2).toInt < 48) : (C2.1 (1, 3, 0) 2).toInt = (C.1 (1, 3, 0) 2).toInt + 1 ∧ C2.1 (24, 3, 0) = upd (C.1 (24, 3, 0)) (C.1 (1, 3, 0) 2).toInt.toNat v ∧ ∀ (c : rf) (k : Nat), ¬ c = (24, 3, 0) → ¬ (c = (1, 3, 0) ∧ k = 2) → C2.1 c k = C.1 c k := by
  refine xE_SP_X1_add h (fun z1_ e2_ => ⟨(fun h3_ hM_ => ?_), (fun h3_ => ⟨(fun h6_ hM_ => ?_), (fun h6_ j11_ h12_ M9_ hM10_ z15_ e16_ z17_ h18_ M19_ hM20_ hM_ => ?_)⟩)⟩)
  · have := eT e2_; omega
  · have := eT e2_; omega
  · have y := eT e2_
    obtain rfl : j11_ = z1_.toInt.toNat := by omega
    have e15 : z15_ = z1_ := by rw [e16_, zupR hM10_ (by simp), e2_]
    rw [e15] at h18_
    have ez := add1 h18_ (by omega)
    refine ⟨?_, ?_, fun c k q1 q2 => ?_⟩
    · rw [hM_, zupE hM20_ rfl rfl]; omega
    · rw [hM_, hM20_, up_other _ _ (by simp), hM10_, up_row, e2_]
    · rw [hM_, zupN hM20_ q2, hM10_, up_other _ _ q1]
theorem x1addF {v : Int32} {C C2 : mM} (h : SP_X1_add 3 0 v C C2) : C2.1 (4, 0, 0) = C.1 (4, 0, 0) := by
  refine xE_SP_X1_add h (fun z1_ e2_ => ⟨(fun h3_ hM_ => ?_), (fun h3_ => ⟨(fun h6_ hM_ => ?_), (fun h6_ j11_ h12_ M9_ hM10_ z15_ e16_ z17_ h18_ M19_ hM20_ hM_ => ?_)⟩)⟩)
  · rw [hM_]
  · rw [hM_]
  · rw [hM_, hM20_, up_other _ _ (by simp), hM10_, up_other _ _ (by simp)]
theorem x12codes {v : Int32} {s : Int} {W : Nat} {a T : Int} {E : Nat} {D D2 : mM} (h : SP_X12_codes v s W a T E D D2) : (¬ (D.1 (12, 0, 0) 13).toInt = 0 ∧ D2 = D) ∨ ((D.1 (12, 0, 0) 13).toInt = 0 ∧ (D2.1 (12, 0, 0) 14).toInt = (D.1 (12, 0, 0) 14).toInt + 1 ∧ D2.1 (57, 0, 0) = upd (D.1 (57, 0, 0)) (D.1 (12, 0, 0) 14).toInt.toNat v ∧ ∀ (c : rf) (k : Nat), ¬ c = (57, 0, 0) → ¬ (c = (12, 0, 0) ∧ k = 14) → D2.1 c k = D.1 c k) := by
  refine xE_SP_X12_codes h (fun z2_ e3_ h4_ => ⟨(fun h5_ hM_ => ?_), (fun h5_ z6_ e7_ h8_ h9_ j13_ h14_ M11_ hM12_ z19_ e20_ h21_ h22_ h23_ z24_ h25_ M26_ hM27_ h30_ hM_ => ?_)⟩)
  · have := eT e3_; exact Or.inl ⟨by omega, hM_⟩
  · have y0 := eT e3_
    have y1 := eT e7_
    obtain rfl : j13_ = z6_.toInt.toNat := by omega
    refine Or.inr ⟨by omega, ?_, ?_, fun c k q1 q2 => ?_⟩
    · rw [hM_, zupE hM27_ rfl rfl]; omega
    · rw [hM_, hM27_, up_other _ _ (by simp), hM12_, up_row, e7_]
    · rw [hM_, zupN hM27_ q2, hM12_, up_other _ _ q1]
/-- both alike: not wrong so far; or wrong at one place -/
def POK (e : Int) (C D : mM) : Prop := (C.1 (4, 0, 0) 4).toInt < 0 ∧ (D.1 (12, 0, 0) 13).toInt = 0 ∧ (C.1 (4, 0, 0) 3).toInt = (D.1 (12, 0, 0) 9).toInt ∧ (0 ≤ (D.1 (12, 0, 0) 9).toInt ∧ (D.1 (12, 0, 0) 9).toInt ≤ (D.1 (50, 0, 0) 4).toInt) ∧ (C.1 (4, 0, 0) 6 = D.1 (12, 0, 0) 12 ∧ 0 ≤ (D.1 (12, 0, 0) 12).toInt ∧ (D.1 (12, 0, 0) 12).toInt ≤ (D.1 (12, 0, 0) 14).toInt) ∧ (C.1 (1, 3, 0) 2).toInt = (D.1 (12, 0, 0) 14).toInt ∧ 0 ≤ (D.1 (12, 0, 0) 14).toInt ∧ (D.1 (12, 0, 0) 14).toInt ≤ (D.1 (12, 0, 0) 9).toInt + e ∧ (C.1 (4, 0, 0) 5).toInt = (D.1 (12, 0, 0) 11).toInt ∧
  ∀ i : Nat, (i : Int) < (D.1 (12, 0, 0) 14).toInt → (C.1 (24, 3, 0) i).toInt = cmI (D.1 (57, 0, 0) i).toInt ∧ cOK (nnU (D.1 (12, 0, 0) 10).toInt.toNat) (D.1 (57, 0, 0) i)
def PBD (C D : mM) : Prop := 0 ≤ (C.1 (4, 0, 0) 4).toInt ∧ ¬ (D.1 (12, 0, 0) 13).toInt = 0 ∧ (C.1 (4, 0, 0) 4).toInt = (D.1 (12, 0, 0) 9).toInt ∧ (D.1 (12, 0, 0) 9).toInt ≤ (D.1 (50, 0, 0) 4).toInt
def PRL (e : Int) (C D : mM) : Prop := TPE C D ∧ (POK e C D ∨ PBD C D)
theorem PRL_at {e : Int} {C D : mM} (h : PRL e C D) : 0 ≤ (D.1 (12, 0, 0) 9).toInt ∧ (D.1 (12, 0, 0) 9).toInt ≤ (D.1 (50, 0, 0) 4).toInt := by
  rcases h.2 with h | h
  · exact h.2.2.2.1
  · unfold PBD at h; omega
theorem POK_mono {e e2 : Int} {C D : mM} (h : POK e C D) (he : e ≤ e2) : POK e2 C D := by
  obtain ⟨h1, h2, h3, h4, h5, h6, h7, h8, h9, h10⟩ := h
  exact ⟨h1, h2, h3, h4, h5, h6, h7, by omega, h9, h10⟩
/-- one more code on both sides -/
theorem POK_code {e : Int} {C C2 D D2 : mM} {v w : Int32} {s : Int} {W : Nat} {a T : Int} {E : Nat} (h : POK e C D) (h48 : (D.1 (50, 0, 0) 4).toInt ≤ 48) (he : e < 0) (hc : SP_X1_add 3 0 v C C2) (hd : SP_X12_codes w s W a T E D D2) (hv : v.toInt = cmI w.toInt) (hw : cOK (nnU (D.1 (12, 0, 0) 10).toInt.toNat) w) : POK (e + 1) C2 D2 := by
  obtain ⟨h1, h2, h3, h4, h5, h6, h7, h8, h9, h10⟩ := h
  obtain ⟨c1, c2, c3⟩ := x1add hc (by omega)
  rcases x12codes hd with d | ⟨-, d1, d2, d3⟩
  · exact absurd h2 d.1
  · have k : ∀ j, ¬ j = 14 → D2.1 (12, 0, 0) j = D.1 (12, 0, 0) j := fun j hj => d3 _ _ (by simp) (fun z => hj z.2)
    have kc : ∀ j, C2.1 (4, 0, 0) j = C.1 (4, 0, 0) j := fun j => c3 _ _ (by simp) (fun z => by simp at z)
    unfold POK
    rw [kc, kc, kc, kc, k 13 (by omega), k 9 (by omega), k 12 (by omega), k 11 (by omega), k 10 (by omega), d3 (50, 0, 0) 4 (by simp) (by simp)]
    refine ⟨h1, h2, h3, h4, ⟨h5.1, h5.2.1, by omega⟩, by omega, by omega, by omega, h9, fun i hi => ?_⟩
    rw [c2, d2, show (C.1 (1, 3, 0) 2).toInt.toNat = (D.1 (12, 0, 0) 14).toInt.toNat by omega]
    by_cases z : i = (D.1 (12, 0, 0) 14).toInt.toNat
    · rw [updE z, updE z]; exact ⟨hv, hw⟩
    · rw [updN z, updN z]; exact h10 i (by omega)
end
section
/-! the two parses: signs, loops -/
def PRX (e : Int) (C C2 D D2 : mM) : Prop := PRL e C2 D2 ∧ (D.1 (12, 0, 0) 9).toInt ≤ (D2.1 (12, 0, 0) 9).toInt
def opT (c : Int) : Int := if c = 42 then 2005 else if c = 47 then 2006 else if c = 37 then 2007 else 0
def opU (c : Int) : Int := if c = 43 then 2003 else if c = 45 then 2004 else 0
def opV (c : Int) : Int := if c = 60 then 2000 else if c = 61 then 2001 else if c = 62 then 2002 else 0
def GOP (g : Int → Int) : Prop := ∀ c, g c = 0 ∨ (0 ≤ c ∧ c ≤ 62 ∧ 2000 ≤ g c ∧ g c < 2008 ∧ cmI (g c) = 2000 + c)
theorem gopT : GOP opT := fun c => by
  unfold opT
  split
  · rename_i h; subst h; right; decide
  · split
    · rename_i h; subst h; right; decide
    · split
      · rename_i h; subst h; right; decide
      · left; rfl
theorem gopU : GOP opU := fun c => by
  unfold opU
  split
  · rename_i h; subst h; right; decide
  · split
    · rename_i h; subst h; right; decide
    · left; rfl
theorem gopV : GOP opV := fun c => by
  unfold opV
  split
  · rename_i h; subst h; right; decide
  · split
    · rename_i h; subst h; right; decide
    · split
      · rename_i h; subst h; right; decide
      · left; rfl
def ATb (D : mM) : Prop := 0 ≤ (D.1 (12, 0, 0) 9).toInt ∧ (D.1 (12, 0, 0) 9).toInt ≤ (D.1 (50, 0, 0) 4).toInt
/-- blanks were read, no sign of these -/
def MISs (P : Int → Prop) (D D2 : mM) : Prop := (∀ (c : rf) (k : Nat), ¬ (c = (12, 0, 0) ∧ k = 9) → D2.1 c k = D.1 c k) ∧ ((¬ (D.1 (12, 0, 0) 13).toInt = 0 ∧ (D2.1 (12, 0, 0) 9).toInt = (D.1 (12, 0, 0) 9).toInt) ∨ ((D.1 (12, 0, 0) 13).toInt = 0 ∧ ∃ q c : Int, nxT (D.1 (50, 0, 0)) (D.1 (50, 0, 0) 4).toInt (D.1 (12, 0, 0) 9).toInt q c ∧ q ≤ (D.1 (50, 0, 0) 4).toInt ∧ P c ∧ (D2.1 (12, 0, 0) 9).toInt = q))
def OPQ (g : Int → Int) (D : mM) (v : Int32) (D2 : mM) : Prop := (∀ (c : rf) (k : Nat), ¬ (c = (12, 0, 0) ∧ k = 9) → D2.1 c k = D.1 c k) ∧ ((¬ (D.1 (12, 0, 0) 13).toInt = 0 ∧ v.toInt = 0 ∧ (D2.1 (12, 0, 0) 9).toInt = (D.1 (12, 0, 0) 9).toInt) ∨ ((D.1 (12, 0, 0) 13).toInt = 0 ∧ ∃ q c : Int, nxT (D.1 (50, 0, 0)) (D.1 (50, 0, 0) 4).toInt (D.1 (12, 0, 0) 9).toInt q c ∧ q ≤ (D.1 (50, 0, 0) 4).toInt ∧ ((g c = 0 ∧ v.toInt = 0 ∧ (D2.1 (12, 0, 0) 9).toInt = q) ∨ (¬ g c = 0 ∧ v.toInt = g c ∧ (D2.1 (12, 0, 0) 9).toInt = q + 1))))
theorem mis1 {k : Int32} {s : Int} {W : Nat} {a T : Int} {D D2 : mM} (h : SP_X12_takes k s W a T D 0 D2) (hk : 0 ≤ k.toInt) (hb : ATb D) : MISs (fun c => ¬ c = k.toInt) D D2 := by
  have q0 := il_0
  obtain ⟨h1, h2 | ⟨h2, q, c, h3, h4, h5 | h5⟩⟩ := x12takes h hk hb
  · exact ⟨h1, Or.inl ⟨h2.1, h2.2.2⟩⟩
  · omega
  · exact ⟨h1, Or.inr ⟨h2, q, c, h3, h4, h5.1, h5.2.2⟩⟩
theorem MISs_b {P : Int → Prop} {D D2 : mM} (h : MISs P D D2) (hb : ATb D) : ATb D2 := by
  unfold ATb at hb ⊢
  rw [h.1 (50, 0, 0) 4 (by simp)]
  rcases h.2 with h2 | ⟨h2, q, c, h3, h4, h5, h6⟩
  · omega
  · have := h3.1; omega
theorem mis2 {P : Int → Prop} {k : Int32} {s : Int} {W : Nat} {a T : Int} {D Da D2 : mM} (m : MISs P D Da) (h : SP_X12_takes k s W a T Da 0 D2) (hk : 0 ≤ k.toInt) (hb : ATb D) : MISs (fun c => P c ∧ ¬ c = k.toInt) D D2 := by
  have n := mis1 h hk (MISs_b m hb)
  have row : Da.1 (50, 0, 0) = D.1 (50, 0, 0) := funext fun j => m.1 _ _ (by simp)
  have w13 : Da.1 (12, 0, 0) 13 = D.1 (12, 0, 0) 13 := m.1 _ _ (by simp)
  refine ⟨fun c k q => (n.1 c k q).trans (m.1 c k q), ?_⟩
  have n2 := n.2
  rw [row, w13] at n2
  rcases m.2 with m2 | ⟨m2, q, c, m3, m4, m5, m6⟩ <;> rcases n2 with n2 | ⟨n2, q2, c2, n3, n4, n5, n6⟩
  · exact Or.inl ⟨m2.1, by omega⟩
  · exact absurd n2 m2.1
  · exact absurd m2 n2.1
  · rw [m6] at n3
    have u := nxT_uniq (by have := m3.1; have := hb.1; omega) (nxT_idem m3) n3
    exact Or.inr ⟨m2, q, c, m3, m4, ⟨m5, by rw [u.2]; exact n5⟩, by omega⟩
theorem hit1 {g : Int → Int} {k v : Int32} {s : Int} {W : Nat} {a T : Int} {D D2 : mM} (h : SP_X12_takes k s W a T D 1 D2) (hk : 0 ≤ k.toInt) (hb : ATb D) (hg : ¬ g k.toInt = 0 ∧ v.toInt = g k.toInt) : OPQ g D v D2 := by
  have q1 := il_1
  obtain ⟨h1, h2 | ⟨h2, q, c, h3, h4, h5 | h5⟩⟩ := x12takes h hk hb
  · omega
  · exact ⟨h1, Or.inr ⟨h2, q, c, h3, h4, Or.inr ⟨by rw [h5.1]; exact hg.1, by rw [h5.1]; exact hg.2, h5.2.2⟩⟩⟩
  · omega
theorem hit2 {g : Int → Int} {P : Int → Prop} {k v : Int32} {s : Int} {W : Nat} {a T : Int} {D Da D2 : mM} (m : MISs P D Da) (h : SP_X12_takes k s W a T Da 1 D2) (hk : 0 ≤ k.toInt) (hb : ATb D) (hg : ¬ g k.toInt = 0 ∧ v.toInt = g k.toInt) : OPQ g D v D2 := by
  have n := hit1 (g := g) (v := v) h hk (MISs_b m hb) hg
  have row : Da.1 (50, 0, 0) = D.1 (50, 0, 0) := funext fun j => m.1 _ _ (by simp)
  have w13 : Da.1 (12, 0, 0) 13 = D.1 (12, 0, 0) 13 := m.1 _ _ (by simp)
  refine ⟨fun c k q => (n.1 c k q).trans (m.1 c k q), ?_⟩
  have n2 := n.2
  rw [row, w13] at n2
  rcases m.2 with m2 | ⟨m2, q, c, m3, m4, m5, m6⟩ <;> rcases n2 with n2 | ⟨n2, q2, c2, n3, n4, n5⟩
  · exact Or.inl ⟨m2.1, n2.2.1, by omega⟩
  · exact absurd n2 m2.1
  · exact absurd m2 n2.1
  · rw [m6] at n3
    have u := nxT_uniq (by have := m3.1; have := hb.1; omega) (nxT_idem m3) n3
    rw [← u.1, ← u.2] at n5
    exact Or.inr ⟨m2, q, c, m3, m4, n5⟩
theorem mis0 {g : Int → Int} {P : Int → Prop} {D D2 : mM} {v : Int32} (m : MISs P D D2) (hp : ∀ c, P c → g c = 0) (hv : v.toInt = 0) : OPQ g D v D2 := by
  refine ⟨m.1, ?_⟩
  rcases m.2 with m2 | ⟨m2, q, c, m3, m4, m5, m6⟩
  · exact Or.inl ⟨m2.1, hv, m2.2⟩
  · exact Or.inr ⟨m2, q, c, m3, m4, Or.inl ⟨hp c m5, hv, m6⟩⟩
theorem OPQ_b {g : Int → Int} (hg : GOP g) {D D2 : mM} {v : Int32} (h : OPQ g D v D2) (hb : ATb D) (h48 : (D.1 (50, 0, 0) 4).toInt ≤ 48) : ATb D2 := by
  unfold ATb at hb ⊢
  rw [h.1 (50, 0, 0) 4 (by simp)]
  rcases h.2 with h2 | ⟨h2, q, c, h3, h4, h5 | h5⟩
  · omega
  · have := h3.1; omega
  · have h6 := hg c
    have h7 := h3.1
    rcases h3.2.2 with h8 | h8 <;> omega
/-- the class's loop over signs, a step and its end -/
def LCs (g : Int → Int) (ONE : mM → mM → Prop) (x y : Int32 × mM) : Prop := x.1.toInt < 48 ∧ (x.2.1 (4, 0, 0) 4).toInt < 0 ∧ ∃ (r w z : Int32) (Cn Ci Ca : mM), SP_X4_next x.2 r Cn ∧ ¬ g r.toInt = 0 ∧ z = Cn.1 (4, 0, 0) 3 + (1 : Int32) ∧ Ci = up Cn (4, 0, 0) 3 z ∧ FR S_reader Ci Ca ∧ ONE Ci Ca ∧ w.toInt = 2000 + r.toInt ∧ SP_X1_add 3 0 w Ca y.2 ∧ y.1.toInt = x.1.toInt + 1
def LCf (g : Int → Int) (x : Int32 × mM) (C : mM) : Prop := (48 ≤ x.1.toInt ∧ C = x.2) ∨ (0 ≤ (x.2.1 (4, 0, 0) 4).toInt ∧ C = x.2) ∨ ((x.2.1 (4, 0, 0) 4).toInt < 0 ∧ ∃ r : Int32, SP_X4_next x.2 r C ∧ g r.toInt = 0)
def LDs (OPR : mM → Int32 → mM → Prop) (ONE : mM → mM → Prop) (x y : Int32 × mM) : Prop := 0 < x.1.toInt ∧ ∃ (Dm Dc : mM) (s : Int) (W : Nat) (a T : Int) (E : Nat), FR S_par x.2 Dm ∧ ONE x.2 Dm ∧ SP_X12_codes x.1 s W a T E Dm Dc ∧ OPR Dc y.1 y.2
/-- both write a sign's code, wrong or not -/
theorem PRL_code {e : Int} {C C2 D D2 : mM} {v w : Int32} {s : Int} {W : Nat} {a T : Int} {E : Nat} (h : PRL (e - 1) C D) (he : e ≤ 0) (hc : SP_X1_add 3 0 v C C2) (hd : SP_X12_codes w s W a T E D D2) (hv : v.toInt = cmI w.toInt) (hw : 2000 ≤ w.toInt) : PRX e C C2 D D2 := by
  rcases h with ⟨t, h | h⟩
  · have g := POK_code h t.2.1.2 (by omega) hc hd hv ⟨by omega, fun q => by omega⟩
    rw [show e - 1 + 1 = e by omega] at g
    have cd := x12codes hd
    have ca := x1add hc (by have z0 := t.2.1; obtain ⟨-, -, -, z4, -, z6, z7, z8, -⟩ := h; omega)
    rcases cd with d | ⟨-, d1, d2, d3⟩
    · exact absurd h.2.1 d.1
    · refine ⟨⟨?_, Or.inl g⟩, by rw [d3 (12, 0, 0) 9 (by simp) (by simp)]; exact Int.le_refl _⟩
      unfold TPE
      rw [ca.2.2 _ _ (by simp) (by simp), ca.2.2 (4, 0, 0) 2 (by simp) (by simp), d3 (50, 0, 0) 4 (by simp) (by simp), d3 (12, 0, 0) 10 (by simp) (by simp)]
      refine ⟨t.1, t.2.1, fun i hi => ?_, t.2.2.2⟩
      rw [ca.2.2 _ _ (by simp) (by simp), d3 _ _ (by simp) (by simp)]
      exact t.2.2.1 i hi
  · have f := x1addF hc
    rcases x12codes hd with d | d
    · rw [d.2]
      refine ⟨⟨?_, Or.inr ?_⟩, Int.le_refl _⟩
      · have k : ∀ (c : rf) (k : Nat), c.1 = 5 ∨ c.1 = 33 → C2.1 c k = C.1 c k := fun c k q => by
          refine xE_SP_X1_add hc (fun z1_ e2_ => ⟨(fun h3_ hM_ => ?_), (fun h3_ => ⟨(fun h6_ hM_ => ?_), (fun h6_ j11_ h12_ M9_ hM10_ z15_ e16_ z17_ h18_ M19_ hM20_ hM_ => ?_)⟩)⟩)
          · rw [hM_]
          · rw [hM_]
          · rw [hM_, hM20_, up_other _ _ (fun z => by rw [z] at q; simp at q), hM10_, up_other _ _ (fun z => by rw [z] at q; simp at q)]
        unfold TPE
        rw [k _ _ (by simp), f]
        refine ⟨t.1, t.2.1, fun i hi => ?_, t.2.2.2⟩
        rw [k _ _ (by simp)]
        exact t.2.2.1 i hi
      · unfold PBD at h ⊢
        rw [f]; exact h
    · exact absurd d.1 h.2.1
def BOTH (ONE ONE2 : mM → mM → Prop) : Prop := ∀ (e : Int) (C C2 D D2 : mM), e ≤ 0 → PRL e C D → ONE C C2 → ONE2 D D2 → FR S_reader C C2 → FR S_par D D2 → PRX e C C2 D D2
theorem loop_both {g : Int → Int} (hg : GOP g) {OPR : mM → Int32 → mM → Prop} (hP : ∀ (D : mM) (v : Int32) (D2 : mM), ATb D → OPR D v D2 → OPQ g D v D2) {ONE ONE2 : mM → mM → Prop} (hO : BOTH ONE ONE2) {e : Int} (he : e ≤ 0) {C1 D1 C2 D0 : mM} {z w : Int32 × mM} {v0 : Int32} (h : PRL e C1 D1)
    (hc : RCH (LCs g ONE) ((0 : Int32), C1) z) (hf : LCf g z C2) (h0 : OPR D1 v0 D0) (hd : RCH (LDs OPR ONE2) (v0, D0) w) (hw : w.1.toInt ≤ 0) : PRX e C1 C2 D1 w.2 := by
  have q0 := il_0
  have L := lockE (fun x y : Int32 × mM => ∃ D : mM, PRL e x.2 D ∧ OPR D y.1 y.2 ∧ (0 ≤ x.1.toInt ∧ x.1.toInt ≤ (D.1 (12, 0, 0) 9).toInt) ∧ (D1.1 (12, 0, 0) 9).toInt ≤ (D.1 (12, 0, 0) 9).toInt) hc hd ⟨D1, h, h0, by dsimp only; have := PRL_at h; omega, Int.le_refl _⟩
    (fun x z y w r s t => by
      obtain ⟨D, r1, r2, r3, r4⟩ := r
      obtain ⟨s1, s2, rr, ww, zz, Cn, Ci, Ca, s3, s4, s5, s6, s7, s8, s9, s10, s11⟩ := s
      obtain ⟨t1, Dm, Dc, t2, t3, t4, t5, t6, t7, t8, t9, t10⟩ := t
      have ab := PRL_at r1
      have op := hP D y.1 y.2 ab r2
      have T := r1.1
      rcases r1.2 with k | k
      · have nx := x4next s3 T (by have := k.2.2.1; omega)
        rw [k.2.2.1] at nx
        obtain ⟨op1, op2⟩ := op
        rcases op2 with op2 | ⟨op2, q, c, op3, op4, op5⟩
        · exact absurd k.2.1 op2.1
        · have u := nxT_uniq ab.1 nx.1 op3
          have gc := hg c
          rw [u.2] at s4
          rcases op5 with op5 | op5
          · exact absurd op5.1 s4
          · have gr := gc.resolve_left s4
            have qN : q < (D.1 (50, 0, 0) 4).toInt := by rcases op3.2.2 with z | z <;> omega
            have qp := op3.1
            have hz : zz.toInt = q + 1 := by rw [s5, addI (x := Cn.1 (4, 0, 0) 3) rfl il_1 (by omega) (by have := T.2.1; omega)]; omega
            have kc : ∀ (c : rf) (k : Nat), ¬ (c = (4, 0, 0) ∧ k = 3) → Ci.1 c k = x.2.1 c k := fun c k q => by rw [s6, zupN rfl q]; exact nx.2.2 c k q
            have p3 : (Ci.1 (4, 0, 0) 3).toInt = q + 1 := by rw [s6, zupE rfl rfl rfl]; exact hz
            have T2 : TPE Ci y.2 := by
              unfold TPE
              rw [kc _ _ (by simp), kc (4, 0, 0) 2 (by simp), op1 (50, 0, 0) 4 (by simp), op1 (12, 0, 0) 10 (by simp)]
              refine ⟨T.1, T.2.1, fun i hi => ?_, T.2.2.2⟩
              rw [kc _ _ (by simp), op1 _ _ (by simp)]
              exact T.2.2.1 i hi
            have K : POK (e - 1) Ci y.2 := by
              obtain ⟨k1, k2, k3, k4, k5, k6, k7, k8, k9, k10⟩ := k
              unfold POK
              rw [kc (4, 0, 0) 4 (by simp), kc (4, 0, 0) 6 (by simp), kc (1, 3, 0) 2 (by simp), kc (4, 0, 0) 5 (by simp), op1 (12, 0, 0) 13 (by simp), op1 (12, 0, 0) 12 (by simp), op1 (12, 0, 0) 14 (by simp), op1 (12, 0, 0) 11 (by simp), op1 (12, 0, 0) 10 (by simp), op1 (50, 0, 0) 4 (by simp)]
              refine ⟨k1, k2, by omega, by omega, k5, k6, k7, by omega, k9, fun i hi => ?_⟩
              rw [kc _ _ (by simp), op1 _ _ (by simp)]
              exact k10 i hi
            have R := hO (e - 1) Ci Ca y.2 Dm (by omega) ⟨T2, Or.inl K⟩ s8 t8 s7 t7
            have S := PRL_code R.1 he s10 t9 (by rw [s9, u.2, op5.2.1]; omega) (by omega)
            have m1 := R.2
            have m2 := S.2
            exact ⟨Dc, S.1, t10, by omega, by omega⟩
      · have := k.1; omega)
    (fun y y' r t => by
      obtain ⟨D, r1, r2, r3, r4⟩ := r
      obtain ⟨t1, -⟩ := t
      have ab := PRL_at r1
      have op := hP D y.1 y.2 ab r2
      have T := r1.1
      obtain ⟨op1, op2⟩ := op
      rcases op2 with op2 | ⟨op2, q, c, op3, op4, op5 | op5⟩
      · omega
      · omega
      · have gc := (hg c).resolve_left op5.1
        have qN : q < (D.1 (50, 0, 0) 4).toInt := by rcases op3.2.2 with z | z <;> omega
        have qp := op3.1
        rcases r1.2 with k | k
        · rcases hf with hf | hf | ⟨hf, rr, hf2, hf3⟩
          · have := T.2.1; omega
          · have := k.1; omega
          · have nx := x4next hf2 T (by have := k.2.2.1; omega)
            rw [k.2.2.1] at nx
            have u := nxT_uniq ab.1 nx.1 op3
            rw [u.2] at hf3
            exact op5.1 hf3
        · exact absurd op2 k.2.1)
    (fun x x' r s => by
      obtain ⟨D, r1, r2, r3, r4⟩ := r
      obtain ⟨s1, s2, rr, ww, zz, Cn, Ci, Ca, s3, s4, -⟩ := s
      have ab := PRL_at r1
      have op := hP D w.1 w.2 ab r2
      have T := r1.1
      rcases r1.2 with k | k
      · have nx := x4next s3 T (by have := k.2.2.1; omega)
        rw [k.2.2.1] at nx
        obtain ⟨op1, op2⟩ := op
        rcases op2 with op2 | ⟨op2, q, c, op3, op4, op5 | op5⟩
        · exact absurd k.2.1 op2.1
        · have u := nxT_uniq ab.1 nx.1 op3
          rw [u.2] at s4
          exact s4 op5.1
        · have gc := (hg c).resolve_left op5.1
          omega
      · have := k.1; omega)
  obtain ⟨D, r1, r2, r3, r4⟩ := L
  have ab := PRL_at r1
  have op := hP D w.1 w.2 ab r2
  have T := r1.1
  obtain ⟨op1, op2⟩ := op
  -- the class's end
  have E : ∃ q : Int, (D.1 (12, 0, 0) 9).toInt ≤ q ∧ (w.2.1 (12, 0, 0) 9).toInt = q ∧ ((PBD z.2 D ∧ C2 = z.2 ∧ q = (D.1 (12, 0, 0) 9).toInt) ∨ (POK e z.2 D ∧ q ≤ (D.1 (50, 0, 0) 4).toInt ∧ (C2.1 (4, 0, 0) 3).toInt = q ∧ ∀ (c : rf) (k : Nat), ¬ (c = (4, 0, 0) ∧ k = 3) → C2.1 c k = z.2.1 c k)) := by
    rcases r1.2 with k | k
    · rcases op2 with op2 | ⟨op2, q, c, op3, op4, op5 | op5⟩
      · exact absurd k.2.1 op2.1
      · refine ⟨q, op3.1, op5.2.2, Or.inr ⟨k, op4, ?_⟩⟩
        have qp := op3.1
        rcases hf with hf | hf | ⟨hf, rr, hf2, hf3⟩
        · have := T.2.1
          have := k.2.2.1
          rw [hf.2]
          exact ⟨by omega, fun _ _ _ => rfl⟩
        · have := k.1; omega
        · have nx := x4next hf2 T (by have := k.2.2.1; omega)
          rw [k.2.2.1] at nx
          have u := nxT_uniq ab.1 nx.1 op3
          exact ⟨u.1, nx.2.2⟩
      · have gc := (hg c).resolve_left op5.1
        omega
    · refine ⟨(D.1 (12, 0, 0) 9).toInt, Int.le_refl _, ?_, Or.inl ⟨k, ?_, rfl⟩⟩
      · rcases op2 with op2 | op2
        · exact op2.2.2
        · exact absurd op2.1 k.2.1
      · rcases hf with hf | hf | hf
        · exact hf.2
        · exact hf.2
        · have := k.1; omega
  obtain ⟨q, e1, e2, e3⟩ := E
  refine ⟨?_, by omega⟩
  rcases e3 with ⟨k, e3, e4⟩ | ⟨k, e3, e4, e5⟩
  · rw [e3]
    refine ⟨?_, Or.inr ?_⟩
    · unfold TPE at T ⊢
      rw [op1 (50, 0, 0) 4 (by simp), op1 (12, 0, 0) 10 (by simp)]
      refine ⟨T.1, T.2.1, fun i hi => ?_, T.2.2.2⟩
      rw [op1 _ _ (by simp)]
      exact T.2.2.1 i hi
    · unfold PBD at k ⊢
      rw [op1 (12, 0, 0) 13 (by simp), op1 (50, 0, 0) 4 (by simp)]
      exact ⟨k.1, k.2.1, by omega, by omega⟩
  · refine ⟨?_, Or.inl ?_⟩
    · unfold TPE at T ⊢
      rw [e5 _ _ (by simp), e5 (4, 0, 0) 2 (by simp), op1 (50, 0, 0) 4 (by simp), op1 (12, 0, 0) 10 (by simp)]
      refine ⟨T.1, T.2.1, fun i hi => ?_, T.2.2.2⟩
      rw [e5 _ _ (by simp), op1 _ _ (by simp)]
      exact T.2.2.1 i hi
    · obtain ⟨k1, k2, k3, k4, k5, k6, k7, k8, k9, k10⟩ := k
      unfold POK
      rw [e5 (4, 0, 0) 4 (by simp), e5 (4, 0, 0) 6 (by simp), e5 (1, 3, 0) 2 (by simp), e5 (4, 0, 0) 5 (by simp), op1 (12, 0, 0) 13 (by simp), op1 (12, 0, 0) 12 (by simp), op1 (12, 0, 0) 14 (by simp), op1 (12, 0, 0) 11 (by simp), op1 (12, 0, 0) 10 (by simp), op1 (50, 0, 0) 4 (by simp)]
      refine ⟨k1, k2, by omega, by omega, k5, k6, k7, by omega, k9, fun i hi => ?_⟩
      rw [e5 _ _ (by simp), op1 _ _ (by simp)]
      exact k10 i hi
/-! expect and must -/
set_option maxHeartbeats 2000000 in
theorem expect_both {v : Int32} {s : Int} {W : Nat} {a T : Int} {e : Int} {C C2 D D2 : mM} (h1 : SP_X4_expect v C C2) (h2 : SP_X12_must v s W a T D D2) (hv : 0 ≤ v.toInt) (h : PRL e C D) (hc0 : FR S_c_X4_expect C C2) (hd0 : FR S_must D D2) : PRX e C C2 D D2 := by
  have hc : FR S_reader C C2 := fun c k q => hc0 c k (fun z => q (Or.elim z (fun a => Or.inl a) (fun z => Or.elim z (fun a => Or.inr (Or.inl a)) False.elim)))
  have hd : FR S_par D D2 := fun c k q => hd0 c k (fun z => q (Or.elim z (fun a => Or.inl a) (fun z => Or.elim z (fun a => Or.inr (Or.inr (Or.inr (Or.inl a)))) False.elim)))
  have q0 := il_0
  have q1 := il_1
  have T := h.1
  have ab := PRL_at h
  have T2 := TPE_fr T hc hd
  -- the model
  have M : (∀ (c : rf) (k : Nat), ¬ (c = (12, 0, 0) ∧ (k = 9 ∨ k = 13)) → D2.1 c k = D.1 c k) ∧ ((¬ (D.1 (12, 0, 0) 13).toInt = 0 ∧ (D2.1 (12, 0, 0) 13).toInt = 1 ∧ (D2.1 (12, 0, 0) 9).toInt = (D.1 (12, 0, 0) 9).toInt) ∨ ((D.1 (12, 0, 0) 13).toInt = 0 ∧ ∃ q c : Int, nxT (D.1 (50, 0, 0)) (D.1 (50, 0, 0) 4).toInt (D.1 (12, 0, 0) 9).toInt q c ∧ q ≤ (D.1 (50, 0, 0) 4).toInt ∧ ((c = v.toInt ∧ (D2.1 (12, 0, 0) 13).toInt = 0 ∧ (D2.1 (12, 0, 0) 9).toInt = q + 1) ∨ (¬ c = v.toInt ∧ (D2.1 (12, 0, 0) 13).toInt = 1 ∧ (D2.1 (12, 0, 0) 9).toInt = q)))) := by
    refine xE_SP_X12_must h2 (fun M2_ _ hF6_ => ⟨(fun hs8_ M12_ hM13_ h16_ hM_ => ?_), (fun hs8_ M20_ hM21_ h24_ hM_ => ?_)⟩)
    · obtain ⟨t1, t2⟩ := x12takes hs8_ hv ab
      refine ⟨fun c k q => by rw [hM_, zupN hM13_ (fun z => q ⟨z.1, Or.inr z.2⟩)]; exact t1 c k (fun z => q ⟨z.1, Or.inl z.2⟩), ?_⟩
      rw [hM_, zupE hM13_ rfl rfl, zupN (c' := (12, 0, 0)) (k' := 9) hM13_ (by simp)]
      rcases t2 with t2 | ⟨t2, q, c, t3, t4, t5 | t5⟩
      · omega
      · exact Or.inr ⟨t2, q, c, t3, t4, Or.inl ⟨t5.1, q0, t5.2.2⟩⟩
      · omega
    · obtain ⟨t1, t2⟩ := x12takes hs8_ hv ab
      refine ⟨fun c k q => by rw [hM_, zupN hM21_ (fun z => q ⟨z.1, Or.inr z.2⟩)]; exact t1 c k (fun z => q ⟨z.1, Or.inl z.2⟩), ?_⟩
      rw [hM_, zupE hM21_ rfl rfl, zupN (c' := (12, 0, 0)) (k' := 9) hM21_ (by simp)]
      rcases t2 with t2 | ⟨t2, q, c, t3, t4, t5 | t5⟩
      · exact Or.inl ⟨t2.1, q1, t2.2.2⟩
      · omega
      · exact Or.inr ⟨t2, q, c, t3, t4, Or.inr ⟨t5.1, q1, t5.2.2⟩⟩
  obtain ⟨m1, m2⟩ := M
  have N4 : D2.1 (50, 0, 0) 4 = D.1 (50, 0, 0) 4 := m1 _ _ (by simp)
  rcases h.2 with k | k
  · rcases m2 with m2 | ⟨m2, q, c, m3, m4, m5⟩
    · exact absurd k.2.1 m2.1
    · obtain ⟨k1, k2, k3, k4, k5, k6, k7, k8, k9, k10⟩ := k
      have qp := m3.1
      refine xE_SP_X4_expect h1 (fun M2_ _ hF6_ r1_ hs8_ => ⟨(fun h10_ z11_ e12_ z13_ h14_ M15_ hM16_ hM_ => ?_), (fun h10_ M20_ _ hF24_ hs26_ hM_ => ?_)⟩)
      · have nx := x4next hs8_ T (by omega)
        rw [k3] at nx
        have u := nxT_uniq ab.1 nx.1 m3
        rcases m5 with m5 | m5
        · have qN : q < (D.1 (50, 0, 0) 4).toInt := by rcases m3.2.2 with z | z <;> omega
          have hz : z13_.toInt = q + 1 := by rw [h14_, addI (x := z11_) rfl il_1 (by rw [e12_]; omega) (by rw [e12_]; have := T.2.1; omega), e12_]; omega
          have kc : ∀ (c : rf) (k : Nat), ¬ (c = (4, 0, 0) ∧ k = 3) → C2.1 c k = C.1 c k := fun c k q => by rw [hM_, zupN hM16_ q]; exact nx.2.2 c k q
          refine ⟨⟨T2, Or.inl ?_⟩, by omega⟩
          unfold POK
          rw [kc (4, 0, 0) 4 (by simp), kc (4, 0, 0) 6 (by simp), kc (1, 3, 0) 2 (by simp), kc (4, 0, 0) 5 (by simp), m1 (12, 0, 0) 12 (by simp), m1 (12, 0, 0) 14 (by simp), m1 (12, 0, 0) 11 (by simp), m1 (12, 0, 0) 10 (by simp), N4, show (C2.1 (4, 0, 0) 3).toInt = q + 1 by rw [hM_, zupE hM16_ rfl rfl]; exact hz]
          refine ⟨k1, m5.2.1, by omega, by omega, k5, k6, k7, by omega, k9, fun i hi => ?_⟩
          rw [kc _ _ (by simp), m1 _ _ (by simp)]
          exact k10 i hi
        · omega
      · have nx := x4next hs8_ T (by omega)
        rw [k3] at nx
        have u := nxT_uniq ab.1 nx.1 m3
        rcases m5 with m5 | m5
        · omega
        · have f4 : M2_.1 (4, 0, 0) 4 = C.1 (4, 0, 0) 4 := nx.2.2 _ _ (by simp)
          rcases x4fail hs26_ with f | f
          · rw [f4] at f; omega
          · refine ⟨⟨T2, Or.inr ?_⟩, by omega⟩
            unfold PBD
            rw [N4, hM_, f.2, up_same]
            omega
  · rcases m2 with m2 | m2
    · have f4 : C2.1 (4, 0, 0) 4 = C.1 (4, 0, 0) 4 := by
        have nf : ∀ {r : Int32} {Cn : mM}, SP_X4_next C r Cn → Cn.1 (4, 0, 0) 4 = C.1 (4, 0, 0) 4 := fun {r Cn} hn => by
          unfold SP_X4_next at hn
          obtain ⟨M_0, hL_0, hI_0, hF_0, z2_, e3_, z4_, e5_, hn⟩ := hn
          have fr : M_0.1 (4, 0, 0) 4 = C.1 (4, 0, 0) 4 := hF_0 _ _ (by simp [S_c_X4_next])
          rcases hn with ⟨-, ⟨-, -, hM_⟩ | ⟨-, r14_, -, -, hM_⟩⟩ | ⟨-, r21_, -, -, ⟨-, -, hM_⟩ | ⟨-, r34_, -, -, hM_⟩⟩
          all_goals (rw [hM_]; exact fr)
        refine xE_SP_X4_expect h1 (fun M2_ _ hF6_ r1_ hs8_ => ⟨(fun h10_ z11_ e12_ z13_ h14_ M15_ hM16_ hM_ => ?_), (fun h10_ M20_ _ hF24_ hs26_ hM_ => ?_)⟩)
        · rw [hM_, zupN hM16_ (by simp)]; exact nf hs8_
        · have n4 := nf hs8_
          rcases x4fail hs26_ with f | f
          · rw [hM_, f.2]; exact n4
          · rw [n4] at f; have := k.1; omega
      refine ⟨⟨T2, Or.inr ?_⟩, by omega⟩
      have := k.2.2
      unfold PBD
      rw [N4, f4]
      exact ⟨k.1, by omega, by omega, by omega⟩
    · exact absurd m2.1 k.2.1
end
section
/-! letters -/
def nmL (u j : Nat) : Int32 := if u = 0 then ([108, 111, 121, 112] : List Int32).getD j 0 else if u = 1 then ([115, 110, 116] : List Int32).getD j 0 else ([102, 108, 114, 98, 116] : List Int32).getD j 0
theorem nmL_uniq {u i j : Nat} (hu : u < 3) (hi : i < nnU u) (hj : j < nnU u) (h : (nmL u i).toInt = (nmL u j).toInt) : i = j := by
  have a : ((List.range 3).all fun u => (List.range 5).all fun i => (List.range 5).all fun j => !(decide (i < nnU u) && decide (j < nnU u) && decide ((nmL u i).toInt = (nmL u j).toInt)) || decide (i = j)) = true := by decide +kernel
  have b : nnU u ≤ 5 := by
    unfold nnU
    split
    · omega
    · split <;> omega
  rw [List.all_eq_true] at a
  have a1 := a u (List.mem_range.mpr hu)
  rw [List.all_eq_true] at a1
  have a2 := a1 i (List.mem_range.mpr (by omega))
  rw [List.all_eq_true] at a2
  have a3 := a2 j (List.mem_range.mpr (by omega))
  by_cases e : i = j
  · exact e
  · simp [hi, hj, h, e] at a3
theorem nmL_b {u j : Nat} (hu : u < 3) (hj : j < nnU u) : 97 ≤ (nmL u j).toInt ∧ (nmL u j).toInt ≤ 127 := by
  have a : ∀ u : Nat, u < 3 → ∀ j : Nat, j < 5 → j < nnU u → 97 ≤ (nmL u j).toInt ∧ (nmL u j).toInt ≤ 127 := by decide +kernel
  have b : nnU u ≤ 5 := by
    unfold nnU
    split
    · omega
    · split <;> omega
  exact a u hu j (by omega) hj
theorem b8 {x : Int32} (hx : 0 ≤ x.toInt ∧ x.toInt ≤ 127) : x.toInt8.toInt32 = x := by
  have a : ∀ i : Nat, i < 128 → (Int32.ofNat i).toInt8.toInt32 = Int32.ofNat i ∧ (Int32.ofNat i).toInt = (i : Int) := by decide +kernel
  have b := a x.toInt.toNat (by omega)
  have e : x = Int32.ofNat x.toInt.toNat := i32e (by rw [b.2]; omega)
  rw [e]
  exact b.1
theorem b16 {x : Int32} (hx : 0 ≤ x.toInt ∧ x.toInt ≤ 127) : (x.toUInt32 % 65536).toInt32 = x := by
  have a : ∀ i : Nat, i < 128 → ((Int32.ofNat i).toUInt32 % 65536).toInt32 = Int32.ofNat i ∧ (Int32.ofNat i).toInt = (i : Int) := by decide +kernel
  have b := a x.toInt.toNat (by omega)
  have e : x = Int32.ofNat x.toInt.toNat := i32e (by rw [b.2]; omega)
  rw [e]
  exact b.1
def NLq (u n : Nat) (x z : Int32) : Prop := (0 ≤ z.toInt ∧ z.toInt < (n : Int) ∧ (nmL u z.toInt.toNat).toInt = x.toInt) ∨ (z.toInt = -1 ∧ ∀ j : Nat, j < n → ¬ (nmL u j).toInt = x.toInt)
theorem ixo0 {x z : Int32} {M : mM} (h : IXO 1 x z M) (hx : 0 ≤ x.toInt ∧ x.toInt ≤ 127) : NLq 0 4 x z := by
  have im := il_m1
  have q0 := il_0
  have qn : (4 : Int32).toInt = 4 := by decide
  have h : SP_S_indexOf_1 x M z := h
  refine xE_SP_S_indexOf_1 h (fun r1_ hs5_ hr_ => ?_)
  have ha_ := hs5_
  have hra_ := hr_
  refine xE_SP_S_indexOf2_1 ha_ (fun a_hs5_ a_hs11_ a_r12_ a_hs16_ a_hr_ => ?_)
  refine xE_SP_SL_indexOf_1 a_hs16_ (fun b_r1_ b_hs5_ b_h4_ => ⟨(fun b_h6_ b_z7_ b_h8_ b_z9_ b_h10_ => ⟨(fun b_h11_ b_r12_ b_hs16_ b_hr_ => ?_), (fun b_h11_ b_hr_ => ?_)⟩), (fun b_h6_ b_hr_ => ?_)⟩)
  · refine xE_SP_SL_indexOfChar_1 b_hs16_ (fun c_z1_ c_h2_ c_v5_7 c_hv0_7 c_hL_7 => ⟨(fun c_h4_ c_hr_ => ?_), (fun c_h4_ c_z5_j c_z5_k c_z5_ c_z5_h c_h6_ c_hr_ => ?_)⟩)
    all_goals
      have g := rind c_hL_7 (fun t => 0 ≤ t.toInt ∧ t.toInt ≤ 4 ∧ ∀ j : Nat, (j : Int) < t.toInt → ¬ (nmL 0 j).toInt = x.toInt) ⟨by omega, by omega, fun j hj => by omega⟩ (fun s t p st => by
        (try dsimp only at p st ⊢)
        obtain ⟨p1, p2, p3⟩ := p
        refine xE_ST_SL_indexOfChar_1_7 st (fun k_hv0_7 k_h4_ k_z5_j k_z5_k k_z5_ k_z5_h k_h6_ k_z7_ k_h8_ k_hq_v5_7y => ?_)
        rw [c_h2_, b8 hx] at k_h6_
        have ey := eT k_hq_v5_7y
        refine ⟨by omega, by omega, fun j hj => ?_⟩
        by_cases e : (j : Int) = s.toInt
        · obtain rfl : j = k_z5_j := by omega
          rw [k_z5_h] at k_h6_
          exact k_h6_
        · exact p3 j (by omega))
      (try dsimp only at g)
      obtain ⟨g1, g2, g3⟩ := g
      have er := eT c_hr_
      have eb := eT b_hr_
      have ea := eT a_hr_
      have e0 := eT hra_
    · exact Or.inr ⟨by omega, fun j hj => g3 j (by omega)⟩
    · left
      refine ⟨by omega, by omega, ?_⟩
      rw [c_h2_, b8 hx, c_z5_h] at c_h6_
      rw [show z.toInt.toNat = c_z5_j by omega]
      exact c_h6_
  · omega
  · refine xE_SP_SL_canEncode_0 b_hs5_ ⟨(fun d_h1_ d_hr_ => ?_), (fun d_h1_ => ⟨(fun d_h2_ d_hr_ => ?_), (fun d_h2_ d_hr_ => ?_)⟩)⟩
    · omega
    · omega
    · have := eT d_hr_
      have := il_1
      omega
theorem chx4 {v z : Int32} {M : mM} (h : CHX 4 v z M) (hv : 0 ≤ v.toInt ∧ v.toInt < 4) : z = nmL 0 v.toInt.toNat := by
  have h : SP_S_charAt_4 v M z := h
  refine xE_SP_S_charAt_4 h (fun hs5_ r7_ hs11_ h10_ hr_ => ?_)
  refine xE_SP_SL_charAt_4 hs11_ (fun k_z1_j k_z1_k k_z1_ k_z1_h k_z2_ k_h4_ k_h3_ k_z5_ k_h6_ k_h7_ k_hr_ => ?_)
  obtain rfl : k_z1_j = v.toInt.toNat := by omega
  have hj : v.toInt.toNat < 4 := by omega
  rw [hr_, k_hr_, k_h6_, k_h4_, k_z1_h]
  exact (show ∀ j : Nat, j < 4 → ((([108, 111, 121, 112] : List Int32).getD j 0 &&& (255 : Int32)).toUInt32 % 65536).toInt32 = nmL 0 j by decide +kernel) _ hj
theorem ixo1 {x z : Int32} {M : mM} (h : IXO 2 x z M) (hx : 0 ≤ x.toInt ∧ x.toInt ≤ 127) : NLq 1 3 x z := by
  have im := il_m1
  have q0 := il_0
  have qn : (3 : Int32).toInt = 3 := by decide
  have h : SP_S_indexOf_2 x M z := h
  refine xE_SP_S_indexOf_2 h (fun r1_ hs5_ hr_ => ?_)
  have ha_ := hs5_
  have hra_ := hr_
  refine xE_SP_S_indexOf2_2 ha_ (fun a_hs5_ a_hs11_ a_r12_ a_hs16_ a_hr_ => ?_)
  refine xE_SP_SL_indexOf_2 a_hs16_ (fun b_r1_ b_hs5_ b_h4_ => ⟨(fun b_h6_ b_z7_ b_h8_ b_z9_ b_h10_ => ⟨(fun b_h11_ b_r12_ b_hs16_ b_hr_ => ?_), (fun b_h11_ b_hr_ => ?_)⟩), (fun b_h6_ b_hr_ => ?_)⟩)
  · refine xE_SP_SL_indexOfChar_2 b_hs16_ (fun c_z1_ c_h2_ c_v5_7 c_hv0_7 c_hL_7 => ⟨(fun c_h4_ c_hr_ => ?_), (fun c_h4_ c_z5_j c_z5_k c_z5_ c_z5_h c_h6_ c_hr_ => ?_)⟩)
    all_goals
      have g := rind c_hL_7 (fun t => 0 ≤ t.toInt ∧ t.toInt ≤ 3 ∧ ∀ j : Nat, (j : Int) < t.toInt → ¬ (nmL 1 j).toInt = x.toInt) ⟨by omega, by omega, fun j hj => by omega⟩ (fun s t p st => by
        (try dsimp only at p st ⊢)
        obtain ⟨p1, p2, p3⟩ := p
        refine xE_ST_SL_indexOfChar_2_7 st (fun k_hv0_7 k_h4_ k_z5_j k_z5_k k_z5_ k_z5_h k_h6_ k_z7_ k_h8_ k_hq_v5_7y => ?_)
        rw [c_h2_, b8 hx] at k_h6_
        have ey := eT k_hq_v5_7y
        refine ⟨by omega, by omega, fun j hj => ?_⟩
        by_cases e : (j : Int) = s.toInt
        · obtain rfl : j = k_z5_j := by omega
          rw [k_z5_h] at k_h6_
          exact k_h6_
        · exact p3 j (by omega))
      (try dsimp only at g)
      obtain ⟨g1, g2, g3⟩ := g
      have er := eT c_hr_
      have eb := eT b_hr_
      have ea := eT a_hr_
      have e0 := eT hra_
    · exact Or.inr ⟨by omega, fun j hj => g3 j (by omega)⟩
    · left
      refine ⟨by omega, by omega, ?_⟩
      rw [c_h2_, b8 hx, c_z5_h] at c_h6_
      rw [show z.toInt.toNat = c_z5_j by omega]
      exact c_h6_
  · omega
  · refine xE_SP_SL_canEncode_0 b_hs5_ ⟨(fun d_h1_ d_hr_ => ?_), (fun d_h1_ => ⟨(fun d_h2_ d_hr_ => ?_), (fun d_h2_ d_hr_ => ?_)⟩)⟩
    · omega
    · omega
    · have := eT d_hr_
      have := il_1
      omega
theorem chx5 {v z : Int32} {M : mM} (h : CHX 5 v z M) (hv : 0 ≤ v.toInt ∧ v.toInt < 3) : z = nmL 1 v.toInt.toNat := by
  have h : SP_S_charAt_5 v M z := h
  refine xE_SP_S_charAt_5 h (fun hs5_ r7_ hs11_ h10_ hr_ => ?_)
  refine xE_SP_SL_charAt_5 hs11_ (fun k_z1_j k_z1_k k_z1_ k_z1_h k_z2_ k_h4_ k_h3_ k_z5_ k_h6_ k_h7_ k_hr_ => ?_)
  obtain rfl : k_z1_j = v.toInt.toNat := by omega
  have hj : v.toInt.toNat < 3 := by omega
  rw [hr_, k_hr_, k_h6_, k_h4_, k_z1_h]
  exact (show ∀ j : Nat, j < 3 → ((([115, 110, 116] : List Int32).getD j 0 &&& (255 : Int32)).toUInt32 % 65536).toInt32 = nmL 1 j by decide +kernel) _ hj
theorem ixo2 {x z : Int32} {M : mM} (h : IXO 3 x z M) (hx : 0 ≤ x.toInt ∧ x.toInt ≤ 127) : NLq 2 5 x z := by
  have im := il_m1
  have q0 := il_0
  have qn : (5 : Int32).toInt = 5 := by decide
  have h : SP_S_indexOf_3 x M z := h
  refine xE_SP_S_indexOf_3 h (fun r1_ hs5_ hr_ => ?_)
  have ha_ := hs5_
  have hra_ := hr_
  refine xE_SP_S_indexOf2_3 ha_ (fun a_hs5_ a_hs11_ a_r12_ a_hs16_ a_hr_ => ?_)
  refine xE_SP_SL_indexOf_3 a_hs16_ (fun b_r1_ b_hs5_ b_h4_ => ⟨(fun b_h6_ b_z7_ b_h8_ b_z9_ b_h10_ => ⟨(fun b_h11_ b_r12_ b_hs16_ b_hr_ => ?_), (fun b_h11_ b_hr_ => ?_)⟩), (fun b_h6_ b_hr_ => ?_)⟩)
  · refine xE_SP_SL_indexOfChar_3 b_hs16_ (fun c_z1_ c_h2_ c_v5_7 c_hv0_7 c_hL_7 => ⟨(fun c_h4_ c_hr_ => ?_), (fun c_h4_ c_z5_j c_z5_k c_z5_ c_z5_h c_h6_ c_hr_ => ?_)⟩)
    all_goals
      have g := rind c_hL_7 (fun t => 0 ≤ t.toInt ∧ t.toInt ≤ 5 ∧ ∀ j : Nat, (j : Int) < t.toInt → ¬ (nmL 2 j).toInt = x.toInt) ⟨by omega, by omega, fun j hj => by omega⟩ (fun s t p st => by
        (try dsimp only at p st ⊢)
        obtain ⟨p1, p2, p3⟩ := p
        refine xE_ST_SL_indexOfChar_3_7 st (fun k_hv0_7 k_h4_ k_z5_j k_z5_k k_z5_ k_z5_h k_h6_ k_z7_ k_h8_ k_hq_v5_7y => ?_)
        rw [c_h2_, b8 hx] at k_h6_
        have ey := eT k_hq_v5_7y
        refine ⟨by omega, by omega, fun j hj => ?_⟩
        by_cases e : (j : Int) = s.toInt
        · obtain rfl : j = k_z5_j := by omega
          rw [k_z5_h] at k_h6_
          exact k_h6_
        · exact p3 j (by omega))
      (try dsimp only at g)
      obtain ⟨g1, g2, g3⟩ := g
      have er := eT c_hr_
      have eb := eT b_hr_
      have ea := eT a_hr_
      have e0 := eT hra_
    · exact Or.inr ⟨by omega, fun j hj => g3 j (by omega)⟩
    · left
      refine ⟨by omega, by omega, ?_⟩
      rw [c_h2_, b8 hx, c_z5_h] at c_h6_
      rw [show z.toInt.toNat = c_z5_j by omega]
      exact c_h6_
  · omega
  · refine xE_SP_SL_canEncode_0 b_hs5_ ⟨(fun d_h1_ d_hr_ => ?_), (fun d_h1_ => ⟨(fun d_h2_ d_hr_ => ?_), (fun d_h2_ d_hr_ => ?_)⟩)⟩
    · omega
    · omega
    · have := eT d_hr_
      have := il_1
      omega
theorem chx6 {v z : Int32} {M : mM} (h : CHX 6 v z M) (hv : 0 ≤ v.toInt ∧ v.toInt < 5) : z = nmL 2 v.toInt.toNat := by
  have h : SP_S_charAt_6 v M z := h
  refine xE_SP_S_charAt_6 h (fun hs5_ r7_ hs11_ h10_ hr_ => ?_)
  refine xE_SP_SL_charAt_6 hs11_ (fun k_z1_j k_z1_k k_z1_ k_z1_h k_z2_ k_h4_ k_h3_ k_z5_ k_h6_ k_h7_ k_hr_ => ?_)
  obtain rfl : k_z1_j = v.toInt.toNat := by omega
  have hj : v.toInt.toNat < 5 := by omega
  rw [hr_, k_hr_, k_h6_, k_h4_, k_z1_h]
  exact (show ∀ j : Nat, j < 5 → ((([102, 108, 114, 98, 116] : List Int32).getD j 0 &&& (255 : Int32)).toUInt32 % 65536).toInt32 = nmL 2 j by decide +kernel) _ hj
theorem x12name {v r : Int32} {D : mM} (h : SP_X12_nameOf v D r) (hu : 0 ≤ (D.1 (12, 0, 0) 10).toInt ∧ (D.1 (12, 0, 0) 10).toInt ≤ 2) : NLq (D.1 (12, 0, 0) 10).toInt.toNat (nnU (D.1 (12, 0, 0) 10).toInt.toNat) v r := by
  have im := il_m1
  have q0 := il_0
  refine xE_SP_X12_nameOf h ⟨(fun h1_ v3_4 hv0_4 v2_4 hv1_4 hv2_4 hL_4 z3_ e4_ h5_ h6_ h7_ hr_ => ?_), (fun h1_ v3_4 hv0_4 v2_4 hv1_4 hv2_4 hL_4 z17_ e18_ h19_ h20_ h21_ hr_ => ?_), (fun h1_ v3_4 hv0_4 v2_4 hv1_4 hv2_4 hL_4 z31_ e32_ h33_ h34_ h35_ hr_ => ?_)⟩
  · have g := rind hL_4 (fun t => 0 ≤ t.1.toInt ∧ t.1.toInt ≤ 4 ∧ ((0 ≤ t.2.toInt ∧ t.2.toInt < t.1.toInt ∧ (nmL 0 t.2.toInt.toNat).toInt = v.toInt) ∨ (t.2.toInt = -1 ∧ ∀ j : Nat, (j : Int) < t.1.toInt → ¬ (nmL 0 j).toInt = v.toInt))) ⟨by dsimp only; omega, by dsimp only; omega, Or.inr ⟨im, fun j hj => by dsimp only at hj; omega⟩⟩ (fun s t p st => by
      (try dsimp only at p st ⊢)
      obtain ⟨p1, p2, p3⟩ := p
      refine xE_ST_X12_nameOf_4 st (fun k_hv0_4 k_hv1_4 k_hv2_4 k_z3_ k_e4_ k_h5_ k_h6_ k_h7_ k_z10_ k_z10_h => ⟨(fun k_h11_ k_z12_ k_h13_ k_hq_v3_4y k_hq_v2_4y => ?_), (fun k_h11_ k_z14_ k_h15_ k_hq_v3_4y k_hq_v2_4y => ?_)⟩)
      · have cx := chx4 k_z10_h ⟨p1, k_h7_⟩
        have e1 := eT k_hq_v3_4y
        have e2 := eT k_hq_v2_4y
        rw [cx] at k_h11_
        refine ⟨by omega, by omega, ?_⟩
        rcases p3 with p3 | p3
        · left
          rw [k_hq_v2_4y]
          exact ⟨p3.1, by omega, p3.2.2⟩
        · right
          refine ⟨by omega, fun j hj => ?_⟩
          by_cases e : (j : Int) = s.1.toInt
          · rw [show j = s.1.toInt.toNat by omega]; exact k_h11_
          · exact p3.2 j (by omega)
      · have cx := chx4 k_z10_h ⟨p1, k_h7_⟩
        have e1 := eT k_hq_v3_4y
        have e2 := eT k_hq_v2_4y
        rw [cx] at k_h11_
        refine ⟨by omega, by omega, Or.inl ⟨by omega, by omega, ?_⟩⟩
        rw [k_hq_v2_4y]
        exact k_h11_)
    (try dsimp only at g)
    obtain ⟨g1, g2, g3⟩ := g
    have eu : (D.1 (12, 0, 0) 10).toInt.toNat = 0 := by omega
    rw [eu, show nnU 0 = 4 by decide]
    unfold NLq
    rw [hr_]
    rcases g3 with g3 | g3
    · exact Or.inl ⟨g3.1, by omega, g3.2.2⟩
    · exact Or.inr ⟨g3.1, fun j hj => g3.2 j (by omega)⟩
  · have g := rind hL_4 (fun t => 0 ≤ t.1.toInt ∧ t.1.toInt ≤ 3 ∧ ((0 ≤ t.2.toInt ∧ t.2.toInt < t.1.toInt ∧ (nmL 1 t.2.toInt.toNat).toInt = v.toInt) ∨ (t.2.toInt = -1 ∧ ∀ j : Nat, (j : Int) < t.1.toInt → ¬ (nmL 1 j).toInt = v.toInt))) ⟨by dsimp only; omega, by dsimp only; omega, Or.inr ⟨im, fun j hj => by dsimp only at hj; omega⟩⟩ (fun s t p st => by
      (try dsimp only at p st ⊢)
      obtain ⟨p1, p2, p3⟩ := p
      refine xE_ST_X12_nameOf_4b st (fun k_hv0_4 k_hv1_4 k_hv2_4 k_z17_ k_e18_ k_h19_ k_h20_ k_h21_ k_z24_ k_z24_h => ⟨(fun k_h25_ k_z26_ k_h27_ k_hq_v3_4y k_hq_v2_4y => ?_), (fun k_h25_ k_z28_ k_h29_ k_hq_v3_4y k_hq_v2_4y => ?_)⟩)
      · have cx := chx5 k_z24_h ⟨p1, k_h21_⟩
        have e1 := eT k_hq_v3_4y
        have e2 := eT k_hq_v2_4y
        rw [cx] at k_h25_
        refine ⟨by omega, by omega, ?_⟩
        rcases p3 with p3 | p3
        · left
          rw [k_hq_v2_4y]
          exact ⟨p3.1, by omega, p3.2.2⟩
        · right
          refine ⟨by omega, fun j hj => ?_⟩
          by_cases e : (j : Int) = s.1.toInt
          · rw [show j = s.1.toInt.toNat by omega]; exact k_h25_
          · exact p3.2 j (by omega)
      · have cx := chx5 k_z24_h ⟨p1, k_h21_⟩
        have e1 := eT k_hq_v3_4y
        have e2 := eT k_hq_v2_4y
        rw [cx] at k_h25_
        refine ⟨by omega, by omega, Or.inl ⟨by omega, by omega, ?_⟩⟩
        rw [k_hq_v2_4y]
        exact k_h25_)
    (try dsimp only at g)
    obtain ⟨g1, g2, g3⟩ := g
    have eu : (D.1 (12, 0, 0) 10).toInt.toNat = 1 := by omega
    rw [eu, show nnU 1 = 3 by decide]
    unfold NLq
    rw [hr_]
    rcases g3 with g3 | g3
    · exact Or.inl ⟨g3.1, by omega, g3.2.2⟩
    · exact Or.inr ⟨g3.1, fun j hj => g3.2 j (by omega)⟩
  · have g := rind hL_4 (fun t => 0 ≤ t.1.toInt ∧ t.1.toInt ≤ 5 ∧ ((0 ≤ t.2.toInt ∧ t.2.toInt < t.1.toInt ∧ (nmL 2 t.2.toInt.toNat).toInt = v.toInt) ∨ (t.2.toInt = -1 ∧ ∀ j : Nat, (j : Int) < t.1.toInt → ¬ (nmL 2 j).toInt = v.toInt))) ⟨by dsimp only; omega, by dsimp only; omega, Or.inr ⟨im, fun j hj => by dsimp only at hj; omega⟩⟩ (fun s t p st => by
      (try dsimp only at p st ⊢)
      obtain ⟨p1, p2, p3⟩ := p
      refine xE_ST_X12_nameOf_4c st (fun k_hv0_4 k_hv1_4 k_hv2_4 k_z31_ k_e32_ k_h33_ k_h34_ k_h35_ k_z38_ k_z38_h => ⟨(fun k_h39_ k_z40_ k_h41_ k_hq_v3_4y k_hq_v2_4y => ?_), (fun k_h39_ k_z42_ k_h43_ k_hq_v3_4y k_hq_v2_4y => ?_)⟩)
      · have cx := chx6 k_z38_h ⟨p1, k_h35_⟩
        have e1 := eT k_hq_v3_4y
        have e2 := eT k_hq_v2_4y
        rw [cx] at k_h39_
        refine ⟨by omega, by omega, ?_⟩
        rcases p3 with p3 | p3
        · left
          rw [k_hq_v2_4y]
          exact ⟨p3.1, by omega, p3.2.2⟩
        · right
          refine ⟨by omega, fun j hj => ?_⟩
          by_cases e : (j : Int) = s.1.toInt
          · rw [show j = s.1.toInt.toNat by omega]; exact k_h39_
          · exact p3.2 j (by omega)
      · have cx := chx6 k_z38_h ⟨p1, k_h35_⟩
        have e1 := eT k_hq_v3_4y
        have e2 := eT k_hq_v2_4y
        rw [cx] at k_h39_
        refine ⟨by omega, by omega, Or.inl ⟨by omega, by omega, ?_⟩⟩
        rw [k_hq_v2_4y]
        exact k_h39_)
    (try dsimp only at g)
    obtain ⟨g1, g2, g3⟩ := g
    have eu : (D.1 (12, 0, 0) 10).toInt.toNat = 2 := by omega
    rw [eu, show nnU 2 = 5 by decide]
    unfold NLq
    rw [hr_]
    rcases g3 with g3 | g3
    · exact Or.inl ⟨g3.1, by omega, g3.2.2⟩
    · exact Or.inr ⟨g3.1, fun j hj => g3.2 j (by omega)⟩
/-- a code more, at a new place -/
theorem POK_mk {e p : Int} {C C2 D D2 : mM} {v w : Int32} (h : POK e C D) (hp : (D.1 (12, 0, 0) 9).toInt + 1 ≤ p ∧ p ≤ (D.1 (50, 0, 0) 4).toInt)
    (c1 : (C2.1 (4, 0, 0) 3).toInt = p ∧ C2.1 (4, 0, 0) 6 = C.1 (4, 0, 0) 6 + (1 : Int32) ∧ C2.1 (4, 0, 0) 4 = C.1 (4, 0, 0) 4 ∧ C2.1 (4, 0, 0) 5 = C.1 (4, 0, 0) 5 ∧ (C2.1 (1, 3, 0) 2).toInt = (C.1 (1, 3, 0) 2).toInt + 1 ∧ C2.1 (24, 3, 0) = upd (C.1 (24, 3, 0)) (C.1 (1, 3, 0) 2).toInt.toNat v)
    (d1 : (D2.1 (12, 0, 0) 9).toInt = p ∧ D2.1 (12, 0, 0) 12 = D.1 (12, 0, 0) 12 + (1 : Int32) ∧ (D2.1 (12, 0, 0) 13).toInt = 0 ∧ D2.1 (12, 0, 0) 11 = D.1 (12, 0, 0) 11 ∧ D2.1 (12, 0, 0) 10 = D.1 (12, 0, 0) 10 ∧ (D2.1 (12, 0, 0) 14).toInt = (D.1 (12, 0, 0) 14).toInt + 1 ∧ D2.1 (57, 0, 0) = upd (D.1 (57, 0, 0)) (D.1 (12, 0, 0) 14).toInt.toNat w ∧ D2.1 (50, 0, 0) 4 = D.1 (50, 0, 0) 4)
    (hv : v.toInt = cmI w.toInt) (hw : cOK (nnU (D.1 (12, 0, 0) 10).toInt.toNat) w) (h48 : (D.1 (12, 0, 0) 14).toInt < 48) : POK e C2 D2 := by
  obtain ⟨h1, h2, h3, h4, h5, h6, h7, h8, h9, h10⟩ := h
  obtain ⟨c1, c2, c3, c4, c5, c6⟩ := c1
  obtain ⟨d1, d2, d3, d4, d5, d6, d7, d8⟩ := d1
  unfold POK
  have e12 := addI (x := D.1 (12, 0, 0) 12) rfl il_1 (by omega) (by omega)
  rw [c3, c2, c4, d2, d4, d5, d8, h5.1]
  refine ⟨h1, d3, by omega, by omega, ⟨rfl, by omega, by omega⟩, by omega, by omega, by omega, h9, fun i hi => ?_⟩
  rw [c6, d7, h6]
  by_cases z : i = (D.1 (12, 0, 0) 14).toInt.toNat
  · rw [updE z, updE z]; exact ⟨hv, hw⟩
  · rw [updN z, updN z]; exact h10 i (by omega)
theorem cmI_lo {c : Int} (h : c < 2000) : cmI c = c := by
  unfold cmI
  rw [if_neg (by omega), if_neg (by omega), if_neg (by omega), if_neg (by omega), if_neg (by omega), if_neg (by omega), if_neg (by omega), if_neg (by omega), if_neg (by omega), if_neg (by omega)]
/-- the two readers of a number -/
def NUc (C : mM) (x y : Int32 × Int32 × mM) : Prop := ST_X4_readNumber_4 C x.1 x.2.1 x.2.2 y.1 y.2.1 y.2.2
def NUd (s : Int) (W : Nat) (a T : Int) (D : mM) (x y : Int32 × Int32 × mM) : Prop := ST_X12_one_46 s W a T D x.1 x.2.1 x.2.2 y.1 y.2.1 y.2.2
def NUR (C D : mM) (x y : Int32 × Int32 × mM) : Prop := x.1.toInt = y.1.toInt ∧ (0 ≤ y.1.toInt ∧ y.1.toInt ≤ 3) ∧ x.2.1.toInt = y.2.1.toInt ∧ ((y.1.toInt = 0 ∧ y.2.1.toInt = 0) ∨ (y.1.toInt = 1 ∧ 0 ≤ y.2.1.toInt ∧ y.2.1.toInt ≤ 9) ∨ (y.1.toInt = 2 ∧ 0 ≤ y.2.1.toInt ∧ y.2.1.toInt ≤ 99) ∨ (y.1.toInt = 3 ∧ 0 ≤ y.2.1.toInt ∧ y.2.1.toInt ≤ 999)) ∧ (x.2.2.1 (4, 0, 0) 3).toInt = (D.1 (12, 0, 0) 9).toInt + y.1.toInt ∧ (y.2.2.1 (12, 0, 0) 9).toInt = (D.1 (12, 0, 0) 9).toInt + y.1.toInt ∧ (y.2.2.1 (12, 0, 0) 9).toInt ≤ (D.1 (50, 0, 0) 4).toInt ∧ (∀ (c : rf) (k : Nat), ¬ (c = (4, 0, 0) ∧ k = 3) → x.2.2.1 c k = C.1 c k) ∧ (∀ (c : rf) (k : Nat), ¬ (c = (12, 0, 0) ∧ k = 9) → y.2.2.1 c k = D.1 c k)
/-- the digit that both read -/
theorem digC {C D x : mM} {v r z : Int32} (hT : TPE C D) (hx : ∀ (c : rf) (k : Nat), ¬ (c = (4, 0, 0) ∧ k = 3) → x.1 c k = C.1 c k) (h : SP_X5_get 0 0 v x r) (hv : 0 ≤ v.toInt ∧ v.toInt < (D.1 (50, 0, 0) 4).toInt) (hz : z = r - (48 : Int32)) : z.toInt = (D.1 (50, 0, 0) (273 + v.toInt.toNat)).toInt - 48 := by
  have q48 : (48 : Int32).toInt = 48 := by decide
  have hc := eT hT.1
  have g := x5get h (by rw [hx _ _ (by simp)]; omega) (by rw [hx _ _ (by simp)]; have := hT.2.1; omega)
  have cell := hT.2.2.1 v.toInt.toNat (by omega)
  rw [hx _ _ (by simp), cell.1] at g
  rw [hz, g, subI (x := D.1 (50, 0, 0) (273 + v.toInt.toNat)) rfl q48 (by omega) (by omega)]
theorem num_lock {C D : mM} {s : Int} {W : Nat} {a T : Int} {z w : Int32 × Int32 × mM} (hT : TPE C D) (h0 : (C.1 (4, 0, 0) 3).toInt = (D.1 (12, 0, 0) 9).toInt ∧ 0 ≤ (D.1 (12, 0, 0) 9).toInt ∧ (D.1 (12, 0, 0) 9).toInt ≤ (D.1 (50, 0, 0) 4).toInt) {C0 D0 : mM}
    (hc : RCH (NUc C0) ((0 : Int32), (0 : Int32), C) z) (hd : RCH (NUd s W a T D0) ((0 : Int32), (0 : Int32), D) w)
    (fc : 3 ≤ z.1.toInt ∨ (z.1.toInt < 3 ∧ ((z.2.2.1 (5, 0, 0) 1).toInt ≤ (z.2.2.1 (4, 0, 0) 3).toInt ∨ ((z.2.2.1 (4, 0, 0) 3).toInt < (z.2.2.1 (5, 0, 0) 1).toInt ∧ ∃ r y : Int32, SP_X5_get 0 0 (z.2.2.1 (4, 0, 0) 3) z.2.2 r ∧ y = r - (48 : Int32) ∧ (y.toInt < 0 ∨ 9 < y.toInt)))))
    (fd : 3 ≤ w.1.toInt ∨ (w.1.toInt < 3 ∧ ((w.2.2.1 (50, 0, 0) 4).toInt ≤ (w.2.2.1 (12, 0, 0) 9).toInt ∨ ((w.2.2.1 (12, 0, 0) 9).toInt < (w.2.2.1 (50, 0, 0) 4).toInt ∧ ¬ (48 ≤ (w.2.2.1 (50, 0, 0) (273 + (w.2.2.1 (12, 0, 0) 9).toInt.toNat)).toInt ∧ (w.2.2.1 (50, 0, 0) (273 + (w.2.2.1 (12, 0, 0) 9).toInt.toNat)).toInt ≤ 57))))) : NUR C D z w := by
  have q0 := il_0
  have q10 : (10 : Int32).toInt = 10 := by decide
  have hN := eT hT.1
  refine lockE (NUR C D) hc hd ⟨rfl, by (try dsimp only); omega, rfl, Or.inl ⟨q0, q0⟩, by dsimp only; omega, by dsimp only; omega, by dsimp only; omega, fun _ _ _ => rfl, fun _ _ _ => rfl⟩ ?_ ?_ ?_
  · intro x z y w r st tt
    obtain ⟨r1, r2, r3, r4, r5, r6, r7, r8, r9⟩ := r
    unfold NUc at st
    unfold NUd at tt
    refine xE_ST_X4_readNumber_4 st (fun s_hv0_4 s_hv1_4 _ s_hF_4 s_h2_ s_z20_ s_e21_ s_z22_ s_e23_ s_h24_ s_r45_ s_hs49_ s_z50_ s_h51_ s_h52_ s_h70_ s_z71_ s_h72_ s_z73_ s_h74_ s_z77_ s_h78_ s_M79_ s_hM80_ s_z84_ s_h85_ s_hq_v2_4y s_hq_v1_4y s_hM_ => ?_)
    refine xE_ST_X12_one_46 tt (fun t_hv0_46 t_hv1_46 t_hv2_46 _ t_hF_46 t_h49_ t_z70_ t_e71_ t_h72_ t_z73_ t_e74_ t_h75_ t_h76_ t_z99_ t_h100_ t_j103_ t_h104_ t_z101_ t_e102_ t_hs109_ t_h108_ t_z111_ t_h112_ t_z115_ t_h116_ t_j119_ t_h120_ t_z117_ t_e118_ t_h121_ t_z122_ t_h123_ t_z124_ t_h125_ t_z128_ t_h129_ t_M130_ t_hM131_ t_h135_ t_z136_ t_h137_ t_hq_v3_46y t_hq_v2_46y t_hM_ => ?_)
    have w1 := eT s_e21_
    have w2 := eT s_e23_
    rw [r8 _ _ (by simp)] at w2
    have v1 := eT t_e71_
    have v2 := eT t_e74_
    rw [r9 _ _ (by simp)] at v2
    have dg := digC hT r8 s_hs49_ (by omega) s_h51_
    obtain rfl : t_j119_ = 273 + s_z20_.toInt.toNat := by omega
    have v3 := eT t_e118_
    rw [r9 _ _ (by simp)] at v3
    have m1 : s_z71_.toInt = 10 * x.2.1.toInt := by rw [s_h72_, mulI q10 rfl (by omega) (by omega)]
    have m2 : s_z73_.toInt = 10 * x.2.1.toInt + s_z50_.toInt := by rw [s_h74_, addI m1 rfl (by omega) (by omega)]
    have k1 := eT s_hq_v2_4y
    have k2 := eT s_hq_v1_4y
    have k3 := eT t_hq_v3_46y
    have k4 := eT t_hq_v2_46y
    refine ⟨by omega, by omega, by omega, by omega, ?_, ?_, ?_, fun c k q => ?_, fun c k q => ?_⟩
    · rw [s_hM_, zupE s_hM80_ rfl rfl]; omega
    · rw [t_hM_, zupE t_hM131_ rfl rfl]; omega
    · rw [t_hM_, zupE t_hM131_ rfl rfl]; omega
    · rw [s_hM_, zupN s_hM80_ q]; exact r8 c k q
    · rw [t_hM_, zupN t_hM131_ q]; exact r9 c k q
  · intro y y' r tt
    obtain ⟨r1, r2, r3, r4, r5, r6, r7, r8, r9⟩ := r
    unfold NUd at tt
    refine xE_ST_X12_one_46 tt (fun t_hv0_46 t_hv1_46 t_hv2_46 _ t_hF_46 t_h49_ t_z70_ t_e71_ t_h72_ t_z73_ t_e74_ t_h75_ t_h76_ t_z99_ t_h100_ t_j103_ t_h104_ t_z101_ t_e102_ t_hs109_ t_h108_ t_z111_ t_h112_ t_z115_ t_h116_ t_j119_ t_h120_ t_z117_ t_e118_ t_h121_ t_z122_ t_h123_ t_z124_ t_h125_ t_z128_ t_h129_ t_M130_ t_hM131_ t_h135_ t_z136_ t_h137_ t_hq_v3_46y t_hq_v2_46y t_hM_ => ?_)
    have v1 := eT t_e71_
    have v2 := eT t_e74_
    have v3 := eT t_e102_
    rw [r9 _ _ (by simp)] at v2 v3
    rcases fc with f | ⟨f, f2 | ⟨f2, rr, yy, f3, f4, f5⟩⟩
    · omega
    · rw [r8 (5, 0, 0) 1 (by simp)] at f2; omega
    · rw [r8 (5, 0, 0) 1 (by simp)] at f2
      have dg := digC hT r8 f3 (by omega) f4
      rw [show t_j103_ = 273 + (z.2.2.1 (4, 0, 0) 3).toInt.toNat by omega] at v3
      omega
  · intro x x' r st
    obtain ⟨r1, r2, r3, r4, r5, r6, r7, r8, r9⟩ := r
    unfold NUc at st
    refine xE_ST_X4_readNumber_4 st (fun s_hv0_4 s_hv1_4 _ s_hF_4 s_h2_ s_z20_ s_e21_ s_z22_ s_e23_ s_h24_ s_r45_ s_hs49_ s_z50_ s_h51_ s_h52_ s_h70_ s_z71_ s_h72_ s_z73_ s_h74_ s_z77_ s_h78_ s_M79_ s_hM80_ s_z84_ s_h85_ s_hq_v2_4y s_hq_v1_4y s_hM_ => ?_)
    have w1 := eT s_e21_
    have w2 := eT s_e23_
    rw [r8 _ _ (by simp)] at w2
    have dg := digC hT r8 s_hs49_ (by omega) s_h51_
    rcases fd with f | ⟨f, f2 | ⟨f2, f3⟩⟩
    · omega
    · rw [r9 (50, 0, 0) 4 (by simp)] at f2; omega
    · rw [r9 (50, 0, 0) 4 (by simp)] at f2
      rw [r9 (50, 0, 0) _ (by simp), show (w.2.2.1 (12, 0, 0) 9).toInt.toNat = s_z20_.toInt.toNat by omega] at f3
      omega
end
section
/-! numbers -/
theorem num_fin {e : Int} {C D C2 D2 M3 Da : mM} {x y : Int32 × Int32 × mM} {zc zd : Int32} {s : Int} {W : Nat} {a T : Int} {E : Nat} (hT : TPE C D) (h : POK e C D) (he : e ≤ 0) (r : NUR C D x y) (hy : ¬ y.1.toInt = 0) (h1 : SP_X1_add 3 0 x.2.1 x.2.2 M3) (hz : zc = M3.1 (4, 0, 0) 6) (h2 : C2 = up M3 (4, 0, 0) 6 (zc + (1 : Int32)))
    (d1 : SP_X12_codes y.2.1 s W a T E y.2.2 Da) (dz : zd = Da.1 (12, 0, 0) 12) (d2 : D2 = up Da (12, 0, 0) 12 (zd + (1 : Int32))) : TPE C2 D2 ∧ POK e C2 D2 ∧ (D.1 (12, 0, 0) 9).toInt ≤ (D2.1 (12, 0, 0) 9).toInt := by
  obtain ⟨r1, r2, r3, r4, r5, r6, r7, r8, r9⟩ := r
  have h0 := h
  obtain ⟨-, p2, p3, p4, -, p6, p7, p8, p9, -⟩ := h0
  have T1 := hT.2.1
  have a1 := x1add h1 (by rw [r8 (1, 3, 0) 2 (by simp)]; omega)
  rcases x12codes d1 with g | ⟨g, g1, g2, g3⟩
  · exact absurd (by rw [r9 _ _ (by simp)]; exact p2) g.1
  · have rc : x.2.2.1 (24, 3, 0) = C.1 (24, 3, 0) := funext fun j => r8 _ _ (by simp)
    have rd : y.2.2.1 (57, 0, 0) = D.1 (57, 0, 0) := funext fun j => r9 _ _ (by simp)
    have c1 : ∀ (c : rf) (k : Nat), ¬ c = (24, 3, 0) → ¬ (c = (1, 3, 0) ∧ k = 2) → ¬ (c = (4, 0, 0) ∧ (k = 3 ∨ k = 6)) → C2.1 c k = C.1 c k := fun c k q1 q2 q3 => by
      rw [zupN h2 (fun z => q3 ⟨z.1, Or.inr z.2⟩), a1.2.2 c k q1 q2]; exact r8 c k (fun z => q3 ⟨z.1, Or.inl z.2⟩)
    have e1 : ∀ (c : rf) (k : Nat), ¬ c = (57, 0, 0) → ¬ (c = (12, 0, 0) ∧ (k = 9 ∨ k = 12 ∨ k = 14)) → D2.1 c k = D.1 c k := fun c k q1 q3 => by
      rw [zupN d2 (fun z => q3 ⟨z.1, Or.inr (Or.inl z.2)⟩), g3 c k q1 (fun z => q3 ⟨z.1, Or.inr (Or.inr z.2)⟩)]; exact r9 c k (fun z => q3 ⟨z.1, Or.inl z.2⟩)
    have D9 : (D2.1 (12, 0, 0) 9).toInt = (D.1 (12, 0, 0) 9).toInt + y.1.toInt := by rw [zupN d2 (by simp), g3 _ _ (by simp) (by simp)]; exact r6
    have c14 : y.2.2.1 (12, 0, 0) 14 = D.1 (12, 0, 0) 14 := r9 _ _ (by simp)
    refine ⟨?_, POK_mk (p := (D.1 (12, 0, 0) 9).toInt + y.1.toInt) (v := x.2.1) (w := y.2.1) h (by omega) ⟨?_, ?_, c1 _ _ (by simp) (by simp) (by simp), c1 _ _ (by simp) (by simp) (by simp), ?_, ?_⟩ ⟨D9, ?_, by rw [e1 _ _ (by simp) (by simp)]; exact p2, e1 _ _ (by simp) (by simp), e1 _ _ (by simp) (by simp), ?_, ?_, e1 _ _ (by simp) (by simp)⟩ ?_ ?_ (by omega), by omega⟩
    · unfold TPE
      rw [c1 _ _ (by simp) (by simp) (by simp), c1 (4, 0, 0) 2 (by simp) (by simp) (by simp), e1 (50, 0, 0) 4 (by simp) (by simp), e1 (12, 0, 0) 10 (by simp) (by simp)]
      refine ⟨hT.1, hT.2.1, fun i hi => ?_, hT.2.2.2⟩
      rw [c1 _ _ (by simp) (by simp) (by simp), e1 _ _ (by simp) (by simp)]
      exact hT.2.2.1 i hi
    · rw [zupN h2 (by simp), a1.2.2 _ _ (by simp) (by simp)]; exact r5
    · rw [zupE h2 rfl rfl, hz, a1.2.2 _ _ (by simp) (by simp), r8 _ _ (by simp)]
    · rw [zupN h2 (by simp), a1.1, r8 (1, 3, 0) 2 (by simp)]
    · rw [show C2.1 (24, 3, 0) = M3.1 (24, 3, 0) from funext fun j => zupN h2 (by simp), a1.2.1, rc, r8 (1, 3, 0) 2 (by simp)]
    · rw [zupE d2 rfl rfl, dz, g3 _ _ (by simp) (by simp), r9 _ _ (by simp)]
    · rw [zupN d2 (by simp), g1, c14]
    · rw [show D2.1 (57, 0, 0) = Da.1 (57, 0, 0) from funext fun j => zupN d2 (by simp), g2, rd, c14]
    · rw [r3, cmI_lo (by omega)]
    · exact ⟨by omega, fun _ => by omega⟩
theorem number_both {e : Int} {C D C2 D2 Da D0 : mM} {w : Int32 × Int32 × mM} {zd : Int32} {s s' : Int} {W W' : Nat} {a a' T T' : Int} {E : Nat} (hT : TPE C D) (h : POK e C D) (he : e ≤ 0) (h1 : SP_X4_readNumber C C2) (hd : RCH (NUd s W a T D0) ((0 : Int32), (0 : Int32), D) w) (hy : ¬ w.1.toInt = 0)
    (fd : 3 ≤ w.1.toInt ∨ (w.1.toInt < 3 ∧ ((w.2.2.1 (50, 0, 0) 4).toInt ≤ (w.2.2.1 (12, 0, 0) 9).toInt ∨ ((w.2.2.1 (12, 0, 0) 9).toInt < (w.2.2.1 (50, 0, 0) 4).toInt ∧ ¬ (48 ≤ (w.2.2.1 (50, 0, 0) (273 + (w.2.2.1 (12, 0, 0) 9).toInt.toNat)).toInt ∧ (w.2.2.1 (50, 0, 0) (273 + (w.2.2.1 (12, 0, 0) 9).toInt.toNat)).toInt ≤ 57)))))
    (d1 : SP_X12_codes w.2.1 s' W' a' T' E w.2.2 Da) (dz : zd = Da.1 (12, 0, 0) 12) (d2 : D2 = up Da (12, 0, 0) 12 (zd + (1 : Int32))) : TPE C2 D2 ∧ POK e C2 D2 ∧ (D.1 (12, 0, 0) 9).toInt ≤ (D2.1 (12, 0, 0) 9).toInt := by
  have h0 : (C.1 (4, 0, 0) 3).toInt = (D.1 (12, 0, 0) 9).toInt ∧ 0 ≤ (D.1 (12, 0, 0) 9).toInt ∧ (D.1 (12, 0, 0) 9).toInt ≤ (D.1 (50, 0, 0) 4).toInt := ⟨h.2.2.1, h.2.2.2.1⟩
  refine xE_SP_X4_readNumber h1 (fun v2_4 hv0_4 hv1_4 v1_4 M_4 hL_4 _ hF_4 => ⟨(fun h2_ M3_ _ hF7_ hs9_ z11_ e12_ z13_ h14_ M15_ hM16_ hM_ => ?_), (fun h2_ z20_ e21_ z22_ e23_ => ⟨(fun h24_ M26_ _ hF30_ hs32_ z34_ e35_ z36_ h37_ M38_ hM39_ hM_ => ?_), (fun h24_ r45_ hs49_ z50_ h51_ => ⟨(fun h52_ M53_ _ hF57_ hs59_ z61_ e62_ z63_ h64_ M65_ hM66_ hM_ => ?_), (fun h52_ h70_ M86_ _ hF90_ hs92_ z94_ e95_ z96_ h97_ M98_ hM99_ hM_ => ?_)⟩)⟩)⟩)
  · have L := num_lock (z := (v2_4, v1_4, M_4)) (C0 := C) hT h0 hL_4 hd (Or.inl h2_) fd
    exact num_fin hT h he L hy hs9_ e12_ (by rw [hM_, hM16_, h14_]) d1 dz d2
  · have L := num_lock (z := (v2_4, v1_4, M_4)) (C0 := C) hT h0 hL_4 hd (Or.inr ⟨h2_, Or.inl (by rw [← e21_, ← e23_]; exact h24_)⟩) fd
    exact num_fin hT h he L hy hs32_ e35_ (by rw [hM_, hM39_, h37_]) d1 dz d2
  · have L := num_lock (z := (v2_4, v1_4, M_4)) (C0 := C) hT h0 hL_4 hd (Or.inr ⟨h2_, Or.inr ⟨by rw [← e21_, ← e23_]; exact h24_, r45_, z50_, by rw [← e21_]; exact hs49_, h51_, Or.inl h52_⟩⟩) fd
    exact num_fin hT h he L hy hs59_ e62_ (by rw [hM_, hM66_, h64_]) d1 dz d2
  · have L := num_lock (z := (v2_4, v1_4, M_4)) (C0 := C) hT h0 hL_4 hd (Or.inr ⟨h2_, Or.inr ⟨by rw [← e21_, ← e23_]; exact h24_, r45_, z50_, by rw [← e21_]; exact hs49_, h51_, Or.inr h70_⟩⟩) fd
    exact num_fin hT h he L hy hs92_ e95_ (by rw [hM_, hM99_, h97_]) d1 dz d2
/-! fails -/
theorem PBD_bad {e : Int} {C D C2 D2 : mM} (hT : TPE C D) (h : POK e C D) (hc : SP_X4_fail C C2) (k13 : ¬ (D2.1 (12, 0, 0) 13).toInt = 0) (kd : ∀ (c : rf) (k : Nat), ¬ (c = (12, 0, 0) ∧ k = 13) → D2.1 c k = D.1 c k) : PRX e C C2 D D2 := by
  obtain ⟨p1, p2, p3, p4, -⟩ := h
  rcases x4fail hc with f | f
  · omega
  · refine ⟨⟨?_, Or.inr ?_⟩, by rw [kd (12, 0, 0) 9 (by simp)]; exact Int.le_refl _⟩
    · unfold TPE
      rw [zupR f.2 (by simp), zupN (k' := 2) f.2 (by simp), kd (50, 0, 0) 4 (by simp), kd (12, 0, 0) 10 (by simp)]
      refine ⟨hT.1, hT.2.1, fun i hi => ?_, hT.2.2.2⟩
      rw [zupR f.2 (by simp), kd _ _ (by simp)]
      exact hT.2.2.1 i hi
    · unfold PBD
      rw [zupE f.2 rfl rfl, kd (12, 0, 0) 9 (by simp), kd (50, 0, 0) 4 (by simp)]
      omega
/-- in a wrong text nothing more is read -/
theorem PBD_keep {e : Int} {C D C2 D2 : mM} (hT : TPE C2 D2) (h : PBD C D) (kc : C2.1 (4, 0, 0) 4 = C.1 (4, 0, 0) 4) (k13 : ¬ (D2.1 (12, 0, 0) 13).toInt = 0) (k9 : D2.1 (12, 0, 0) 9 = D.1 (12, 0, 0) 9) (k4 : D2.1 (50, 0, 0) 4 = D.1 (50, 0, 0) 4) : PRX e C C2 D D2 := by
  refine ⟨⟨hT, Or.inr ?_⟩, by rw [k9]; exact Int.le_refl _⟩
  unfold PBD at h ⊢
  rw [kc, k9, k4]
  exact ⟨h.1, k13, h.2.2⟩
/-! names -/
theorem nm_fin {e : Int} {C D C2 D2 Ma M3 Da Db Dc : mM} {z r zc z0 v w zd zp zq : Int32} {s : Int} {W : Nat} {a T : Int} {E : Nat} (hT : TPE C D) (h : POK e C D) (he : e ≤ 0) (qN : (D.1 (12, 0, 0) 9).toInt < (D.1 (50, 0, 0) 4).toInt) (zr : z = r) (hr : 0 ≤ r.toInt ∧ r.toInt < (nnU (D.1 (12, 0, 0) 10).toInt.toNat : Int) ∧ r.toInt ≤ 4)
    (a0 : z0 = C.1 (4, 0, 0) 3) (a1 : Ma = up C (4, 0, 0) 3 (z0 + (1 : Int32))) (av : v = (1000 : Int32) + z) (a2 : SP_X1_add 3 0 v Ma M3) (hz : zc = M3.1 (4, 0, 0) 6) (h2 : C2 = up M3 (4, 0, 0) 6 (zc + (1 : Int32)))
    (b1 : Da = up D (12, 0, 0) 13 0) (bw : w.toInt = 1000 + r.toInt) (d1 : SP_X12_codes w s W a T E Da Db) (dz : zd = Db.1 (12, 0, 0) 12) (d2 : Dc = up Db (12, 0, 0) 12 (zd + (1 : Int32))) (bp : zp = Dc.1 (12, 0, 0) 9) (bq : zq.toInt = zp.toInt + 1) (d3 : D2 = up Dc (12, 0, 0) 9 zq) : PRX e C C2 D D2 := by
  have q0 := il_0
  have q1k : (1000 : Int32).toInt = 1000 := by decide
  have h0 := h
  obtain ⟨-, p2, p3, p4, -, p6, p7, p8, p9, -⟩ := h0
  have T1 := hT.2.1
  have x1 := x1add a2 (by rw [a1, up_other _ _ (by simp)]; omega)
  rcases x12codes d1 with g | ⟨g, g1, g2, g3⟩
  · exact absurd (by rw [b1, up_same]; exact q0) g.1
  · have ky : ∀ (c : rf) (k : Nat), ¬ (c = (4, 0, 0) ∧ k = 3) → Ma.1 c k = C.1 c k := fun c k q => zupN a1 q
    have kx : ∀ (c : rf) (k : Nat), ¬ (c = (12, 0, 0) ∧ k = 13) → Da.1 c k = D.1 c k := fun c k q => zupN b1 q
    have rc : Ma.1 (24, 3, 0) = C.1 (24, 3, 0) := funext fun j => ky _ _ (by simp)
    have rd : Da.1 (57, 0, 0) = D.1 (57, 0, 0) := funext fun j => kx _ _ (by simp)
    have c1 : ∀ (c : rf) (k : Nat), ¬ c = (24, 3, 0) → ¬ (c = (1, 3, 0) ∧ k = 2) → ¬ (c = (4, 0, 0) ∧ (k = 3 ∨ k = 6)) → C2.1 c k = C.1 c k := fun c k q1 q2 q3 => by
      rw [zupN h2 (fun z => q3 ⟨z.1, Or.inr z.2⟩), x1.2.2 c k q1 q2]; exact ky c k (fun z => q3 ⟨z.1, Or.inl z.2⟩)
    have e1 : ∀ (c : rf) (k : Nat), ¬ c = (57, 0, 0) → ¬ (c = (12, 0, 0) ∧ (k = 9 ∨ k = 12 ∨ k = 13 ∨ k = 14)) → D2.1 c k = D.1 c k := fun c k q1 q3 => by
      rw [zupN d3 (fun z => q3 ⟨z.1, Or.inl z.2⟩), zupN d2 (fun z => q3 ⟨z.1, Or.inr (Or.inl z.2)⟩), g3 c k q1 (fun z => q3 ⟨z.1, Or.inr (Or.inr (Or.inr z.2))⟩)]; exact kx c k (fun z => q3 ⟨z.1, Or.inr (Or.inr (Or.inl z.2))⟩)
    have z9 : zp.toInt = (D.1 (12, 0, 0) 9).toInt := by rw [bp, zupN d2 (by simp), g3 _ _ (by simp) (by simp), kx _ _ (by simp)]
    have D9 : (D2.1 (12, 0, 0) 9).toInt = (D.1 (12, 0, 0) 9).toInt + 1 := by rw [zupE d3 rfl rfl]; omega
    have zz := eT a0
    have K : POK e C2 D2 := POK_mk (p := (D.1 (12, 0, 0) 9).toInt + 1) (v := v) (w := w) h (by omega) ⟨by rw [zupN h2 (by simp), x1.2.2 _ _ (by simp) (by simp), zupE a1 rfl rfl, addI (x := z0) rfl il_1 (by omega) (by omega)]; omega, by rw [zupE h2 rfl rfl, hz, x1.2.2 _ _ (by simp) (by simp), ky _ _ (by simp)], c1 _ _ (by simp) (by simp) (by simp), c1 _ _ (by simp) (by simp) (by simp), by rw [zupN h2 (by simp), x1.1, ky _ _ (by simp)], by rw [show C2.1 (24, 3, 0) = M3.1 (24, 3, 0) from funext fun j => zupN h2 (by simp), x1.2.1, rc, ky _ _ (by simp)]⟩
      ⟨D9, by rw [zupN d3 (by simp), zupE d2 rfl rfl, dz, g3 _ _ (by simp) (by simp), kx _ _ (by simp)], by rw [zupN d3 (by simp), zupN d2 (by simp), g3 _ _ (by simp) (by simp), b1, up_same]; exact q0, e1 _ _ (by simp) (by simp), e1 _ _ (by simp) (by simp), by rw [zupN d3 (by simp), zupN d2 (by simp), g1, kx _ _ (by simp)], by rw [show D2.1 (57, 0, 0) = Db.1 (57, 0, 0) from funext fun j => by rw [zupN d3 (by simp), zupN d2 (by simp)], g2, rd, kx (12, 0, 0) 14 (by simp)], e1 _ _ (by simp) (by simp)⟩
      (by rw [av, addI q1k (show z.toInt = r.toInt by rw [zr]) (by omega) (by omega), bw, cmI_lo (by omega)]) ⟨by omega, fun _ => by omega⟩ (by omega)
    refine ⟨⟨?_, Or.inl K⟩, by omega⟩
    unfold TPE
    rw [c1 _ _ (by simp) (by simp) (by simp), c1 (4, 0, 0) 2 (by simp) (by simp) (by simp), e1 (50, 0, 0) 4 (by simp) (by simp), e1 (12, 0, 0) 10 (by simp) (by simp)]
    refine ⟨hT.1, hT.2.1, fun i hi => ?_, hT.2.2.2⟩
    rw [c1 _ _ (by simp) (by simp) (by simp), e1 _ _ (by simp) (by simp)]
    exact hT.2.2.1 i hi

def NAg (z : Int32) (C C2 : mM) : Prop := ∃ (z0 w zc : Int32) (Ma M3 : mM), z0 = C.1 (4, 0, 0) 3 ∧ Ma = up C (4, 0, 0) 3 (z0 + (1 : Int32)) ∧ w = (1000 : Int32) + z ∧ SP_X1_add 3 0 w Ma M3 ∧ zc = M3.1 (4, 0, 0) 6 ∧ C2 = up M3 (4, 0, 0) 6 (zc + (1 : Int32))
theorem name_c {v : Int32} {C C2 : mM} {u : Nat} (h : SP_X4_readName v C C2) (hu : (C.1 (4, 0, 0) 2).toInt = (u : Int) + 1) : (((v.toInt < 0 ∨ 127 < v.toInt) ∨ ∀ j : Nat, j < nnU u → ¬ (nmL u j).toInt = v.toInt) ∧ SP_X4_fail C C2) ∨ ((0 ≤ v.toInt ∧ v.toInt ≤ 127) ∧ ∃ z : Int32, (0 ≤ z.toInt ∧ z.toInt < (nnU u : Int) ∧ (nmL u z.toInt.toNat).toInt = v.toInt) ∧ NAg z C C2) := by
  have q1 := il_1
  have q2 : (2 : Int32).toInt = 2 := by decide
  have q3 : (3 : Int32).toInt = 3 := by decide
  refine xE_SP_X4_readName h ⟨(fun h1_ M3_ _ hF7_ hs9_ hM_ => ?_), (fun h1_ => ⟨(fun h12_ => ⟨(fun h13_ z14_ h15_ z16_ z16_h => ⟨(fun h17_ z18_ e19_ z20_ h21_ M22_ hM23_ z28_ h29_ _ M30_ _ hF34_ hs36_ z39_ e40_ z41_ h42_ M43_ hM44_ hM_ => ?_), (fun h17_ M49_ _ hF53_ hs55_ hM_ => ?_)⟩), (fun h13_ z58_ h59_ z60_ z60_h => ⟨(fun h61_ z62_ e63_ z64_ h65_ M66_ hM67_ z72_ h73_ _ M74_ _ hF78_ hs80_ z83_ e84_ z85_ h86_ M87_ hM88_ hM_ => ?_), (fun h61_ M93_ _ hF97_ hs99_ hM_ => ?_)⟩), (fun h13_ z102_ h103_ z104_ z104_h => ⟨(fun h105_ z106_ e107_ z108_ h109_ M110_ hM111_ z116_ h117_ _ M118_ _ hF122_ hs124_ z127_ e128_ z129_ h130_ M131_ hM132_ hM_ => ?_), (fun h105_ M137_ _ hF141_ hs143_ hM_ => ?_)⟩)⟩), (fun h12_ M147_ _ hF151_ hs153_ hM_ => ?_)⟩)⟩
  · left
    exact ⟨Or.inl (Or.inl h1_), by rw [hM_]; exact hs9_⟩
  · obtain rfl : u = 0 := by have := eT h13_; omega
    rw [h15_, b16 ⟨h1_, h12_⟩] at z16_h
    have nm := ixo0 z16_h ⟨h1_, h12_⟩
    rcases nm with nm | nm
    · right
      exact ⟨⟨h1_, h12_⟩, z16_, ⟨nm.1, by rw [show nnU 0 = 4 by decide]; exact nm.2.1, nm.2.2⟩, z18_, z28_, z39_, M22_, M30_, e19_, by rw [hM23_, h21_], h29_, hs36_, e40_, by rw [hM_, hM44_, h42_]⟩
    · omega
  · obtain rfl : u = 0 := by have := eT h13_; omega
    rw [h15_, b16 ⟨h1_, h12_⟩] at z16_h
    have nm := ixo0 z16_h ⟨h1_, h12_⟩
    rcases nm with nm | nm
    · omega
    · left
      exact ⟨Or.inr (by rw [show nnU 0 = 4 by decide]; exact nm.2), by rw [hM_]; exact hs55_⟩
  · obtain rfl : u = 1 := by have := eT h13_; omega
    rw [h59_, b16 ⟨h1_, h12_⟩] at z60_h
    have nm := ixo1 z60_h ⟨h1_, h12_⟩
    rcases nm with nm | nm
    · right
      exact ⟨⟨h1_, h12_⟩, z60_, ⟨nm.1, by rw [show nnU 1 = 3 by decide]; exact nm.2.1, nm.2.2⟩, z62_, z72_, z83_, M66_, M74_, e63_, by rw [hM67_, h65_], h73_, hs80_, e84_, by rw [hM_, hM88_, h86_]⟩
    · omega
  · obtain rfl : u = 1 := by have := eT h13_; omega
    rw [h59_, b16 ⟨h1_, h12_⟩] at z60_h
    have nm := ixo1 z60_h ⟨h1_, h12_⟩
    rcases nm with nm | nm
    · omega
    · left
      exact ⟨Or.inr (by rw [show nnU 1 = 3 by decide]; exact nm.2), by rw [hM_]; exact hs99_⟩
  · obtain rfl : u = 2 := by have := eT h13_; omega
    rw [h103_, b16 ⟨h1_, h12_⟩] at z104_h
    have nm := ixo2 z104_h ⟨h1_, h12_⟩
    rcases nm with nm | nm
    · right
      exact ⟨⟨h1_, h12_⟩, z104_, ⟨nm.1, by rw [show nnU 2 = 5 by decide]; exact nm.2.1, nm.2.2⟩, z106_, z116_, z127_, M110_, M118_, e107_, by rw [hM111_, h109_], h117_, hs124_, e128_, by rw [hM_, hM132_, h130_]⟩
    · omega
  · obtain rfl : u = 2 := by have := eT h13_; omega
    rw [h103_, b16 ⟨h1_, h12_⟩] at z104_h
    have nm := ixo2 z104_h ⟨h1_, h12_⟩
    rcases nm with nm | nm
    · omega
    · left
      exact ⟨Or.inr (by rw [show nnU 2 = 5 by decide]; exact nm.2), by rw [hM_]; exact hs143_⟩
  · left
    exact ⟨Or.inl (Or.inr h12_), by rw [hM_]; exact hs153_⟩
end
section
/-! opened -/
theorem PRL_mono {e e2 : Int} {C D : mM} (h : PRL e C D) (he : e ≤ e2) : PRL e2 C D := by
  rcases h with ⟨t, h | h⟩
  · exact ⟨t, Or.inl (POK_mono h he)⟩
  · exact ⟨t, Or.inr h⟩
theorem TPE_kc {C D C2 D2 : mM} (hT : TPE C D) (kc : ∀ (c : rf) (k : Nat), ¬ (c = (4, 0, 0) ∧ ¬ k = 2) → C2.1 c k = C.1 c k) (kd : ∀ (c : rf) (k : Nat), ¬ (c = (12, 0, 0) ∧ ¬ k = 10) → D2.1 c k = D.1 c k) : TPE C2 D2 := by
  unfold TPE
  rw [kc _ _ (by simp), kc (4, 0, 0) 2 (by simp), kd (50, 0, 0) 4 (by simp), kd (12, 0, 0) 10 (by simp)]
  refine ⟨hT.1, hT.2.1, fun i hi => ?_, hT.2.2.2⟩
  rw [kc _ _ (by simp), kd _ _ (by simp)]
  exact hT.2.2.1 i hi
theorem PRL_open {e : Int} {C D C9 C20 D7 D30 D47 : mM} {z1 z7 z16 z24 z28 z40 z45 : Int32} (hT : TPE C D) (h : POK e C D) (qN : (D.1 (12, 0, 0) 9).toInt < (D.1 (50, 0, 0) 4).toInt)
    (a1 : z1 = C.1 (4, 0, 0) 5) (a2 : z7.toInt = z1.toInt + 1) (a3 : C9 = up C (4, 0, 0) 5 z7) (a4 : z16 = C9.1 (4, 0, 0) 3) (a5 : C20 = up C9 (4, 0, 0) 3 (z16 + (1 : Int32)))
    (b1 : D7 = up D (12, 0, 0) 13 0) (b2 : z24 = D7.1 (12, 0, 0) 11) (b3 : z28.toInt = z24.toInt + 1) (b4 : D30 = up D7 (12, 0, 0) 11 z28) (b5 : z40 = D30.1 (12, 0, 0) 9) (b6 : z45.toInt = z40.toInt + 1) (b7 : D47 = up D30 (12, 0, 0) 9 z45) : PRL (e - 1) C20 D47 ∧ (D47.1 (12, 0, 0) 9).toInt = (D.1 (12, 0, 0) 9).toInt + 1 := by
  have q0 := il_0
  obtain ⟨p1, p2, p3, p4, p5, p6, p7, p8, p9, p10⟩ := h
  have T1 := hT.2.1
  have kc : ∀ (c : rf) (k : Nat), ¬ (c = (4, 0, 0) ∧ (k = 3 ∨ k = 5)) → C20.1 c k = C.1 c k := fun c k q => by
    rw [zupN a5 (fun z => q ⟨z.1, Or.inl z.2⟩), zupN a3 (fun z => q ⟨z.1, Or.inr z.2⟩)]
  have kd : ∀ (c : rf) (k : Nat), ¬ (c = (12, 0, 0) ∧ (k = 9 ∨ k = 11 ∨ k = 13)) → D47.1 c k = D.1 c k := fun c k q => by
    rw [zupN b7 (fun z => q ⟨z.1, Or.inl z.2⟩), zupN b4 (fun z => q ⟨z.1, Or.inr (Or.inl z.2)⟩), zupN b1 (fun z => q ⟨z.1, Or.inr (Or.inr z.2)⟩)]
  have y1 := eT a1
  have y2 : z16.toInt = (D.1 (12, 0, 0) 9).toInt := by rw [a4, zupN a3 (by simp)]; exact p3
  have y3 : z24.toInt = (D.1 (12, 0, 0) 11).toInt := by rw [b2, zupN b1 (by simp)]
  have y4 : z40.toInt = (D.1 (12, 0, 0) 9).toInt := by rw [b5, zupN b4 (by simp), zupN b1 (by simp)]
  have C3 : (C20.1 (4, 0, 0) 3).toInt = (D.1 (12, 0, 0) 9).toInt + 1 := by rw [zupE a5 rfl rfl, addI (x := z16) rfl il_1 (by omega) (by omega)]; omega
  have C5 : (C20.1 (4, 0, 0) 5).toInt = z7.toInt := by rw [zupN a5 (by simp), zupE a3 rfl rfl]
  have D9 : (D47.1 (12, 0, 0) 9).toInt = (D.1 (12, 0, 0) 9).toInt + 1 := by rw [zupE b7 rfl rfl]; omega
  have D11 : (D47.1 (12, 0, 0) 11).toInt = z28.toInt := by rw [zupN b7 (by simp), zupE b4 rfl rfl]
  have D13 : (D47.1 (12, 0, 0) 13).toInt = 0 := by rw [zupN b7 (by simp), zupN b4 (by simp), zupE b1 rfl rfl]; exact q0
  refine ⟨⟨TPE_kc hT (fun c k q => kc c k (fun z => q ⟨z.1, by omega⟩)) (fun c k q => kd c k (fun z => q ⟨z.1, by omega⟩)), Or.inl ?_⟩, D9⟩
  unfold POK
  rw [kc (4, 0, 0) 4 (by simp), kc (4, 0, 0) 6 (by simp), kc (1, 3, 0) 2 (by simp), kd (12, 0, 0) 12 (by simp), kd (12, 0, 0) 14 (by simp), kd (12, 0, 0) 10 (by simp), kd (50, 0, 0) 4 (by simp)]
  refine ⟨p1, D13, by omega, by omega, p5, p6, p7, by omega, by omega, fun i hi => ?_⟩
  rw [kc _ _ (by simp), kd _ _ (by simp)]
  exact p10 i hi
theorem PRX_close {e : Int} {C C2 C3 D D2 D3 : mM} {z z' : Int32} (h : PRX e C C2 D D2) (hc : C3 = up C2 (4, 0, 0) 5 z) (hd : D3 = up D2 (12, 0, 0) 11 z') (hz : (C2.1 (4, 0, 0) 5).toInt = (D2.1 (12, 0, 0) 11).toInt → z.toInt = z'.toInt) : PRX e C C3 D D3 := by
  obtain ⟨⟨t, h⟩, h9⟩ := h
  refine ⟨⟨TPE_kc t (fun c k q => zupN hc (fun y => q ⟨y.1, by omega⟩)) (fun c k q => zupN hd (fun y => q ⟨y.1, by omega⟩)), ?_⟩, by rw [zupN hd (by simp)]; exact h9⟩
  rcases h with h | h
  · left
    obtain ⟨p1, p2, p3, p4, p5, p6, p7, p8, p9, p10⟩ := h
    unfold POK
    rw [zupN (k' := 4) hc (by simp), zupN (k' := 3) hc (by simp), zupN (k' := 6) hc (by simp), zupR (c' := (1, 3, 0)) hc (by simp), zupE (k' := 5) hc rfl rfl, zupN (k' := 13) hd (by simp), zupN (k' := 9) hd (by simp), zupN (k' := 12) hd (by simp), zupN (k' := 14) hd (by simp), zupN (k' := 10) hd (by simp), zupE (k' := 11) hd rfl rfl, zupR (c' := (50, 0, 0)) hd (by simp)]
    refine ⟨p1, p2, p3, p4, p5, p6, p7, p8, hz p9, fun i hi => ?_⟩
    rw [zupR hc (by simp), zupR hd (by simp)]
    exact p10 i hi
  · right
    unfold PBD at h ⊢
    rw [zupN (k' := 4) hc (by simp), zupN (k' := 13) hd (by simp), zupN (k' := 9) hd (by simp), zupR (c' := (50, 0, 0)) hd (by simp)]
    exact h
theorem opened_both {N N2 m : Nat} {QA QB QA2 QB2 : mM → mM → Prop} (hA : BOTH QA QA2) (hB : BOTH QB QB2) {e : Int} {v : Int32} {s : Int} {W : Nat} {a T : Int} {C C2 D D2 : mM} (h1 : SP_X4_readOpened N m QA QB v C C2) (h2 : SP_X12_opens N2 m QA2 QB2 v s W a T D D2) (hT : TPE C D) (h : POK e C D) (he : e ≤ 0) (qN : (D.1 (12, 0, 0) 9).toInt < (D.1 (50, 0, 0) 4).toInt) : PRX e C C2 D D2 := by
  have q0 := il_0
  have q1 := il_1
  have i41 : (41 : Int32).toInt = 41 := by decide
  have i58 : (58 : Int32).toInt = 58 := by decide
  have i63 : (63 : Int32).toInt = 63 := by decide
  have i93 : (93 : Int32).toInt = 93 := by decide
  have i9 : (2009 : Int32).toInt = 2009 := by decide
  have i8 : (2008 : Int32).toInt = 2008 := by decide
  have c9 : (2063 : Int32).toInt = cmI 2009 := by decide
  have c8 : (2126 : Int32).toInt = cmI 2008 := by decide
  have dep := h.2.2.2.2.2.2.2.2.1
  refine xE_SP_X4_readOpened h1 (fun c_z1_ c_e2_ c_h3_ => ⟨(fun c_h4_ c_z7_ c_h8_ c_M9_ c_hM10_ c_z16_ c_e17_ c_z18_ c_h19_ c_M20_ c_hM21_ => ⟨(fun c_h27_ => ⟨(fun c_h28_ _ c_M29_ _ c_hF33_ c_hs35_ c_h31_ c_M38_ _ c_hF42_ c_hs44_ c_M48_ _ c_hF52_ c_hs54_ c_h50_ c_M57_ _ c_hF61_ c_hs63_ c_M67_ _ c_hF71_ c_hs73_ c_h69_ c_M76_ _ c_hF80_ c_hs82_ c_M86_ _ c_hF90_ c_hs92_ c_z96_ c_e97_ c_h98_ c_z99_ c_h100_ c_M101_ c_hM102_ c_hM_ => ?_), (fun c_h28_ _ c_M108_ _ c_hF112_ c_hs114_ c_h110_ c_M117_ _ c_hF121_ c_hs123_ c_z127_ c_e128_ c_h129_ c_z130_ c_h131_ c_M132_ c_hM133_ c_hM_ => ?_)⟩), (fun c_h27_ _ c_M139_ _ c_hF143_ c_hs145_ c_h141_ c_M148_ _ c_hF152_ c_hs154_ c_z158_ c_e159_ c_h160_ c_z161_ c_h162_ c_M163_ c_hM164_ c_hM_ => ?_)⟩), (fun c_h4_ c_M170_ _ c_hF174_ c_hs176_ c_hM_ => ?_)⟩)
  · refine xE_SP_X12_opens h2 (fun d_z2_ d_e3_ d_h4_ d_h5_ => ⟨(fun d_h6_ d_M7_ d_hM8_ d_z17_ d_e18_ d_h19_ d_h20_ d_h21_ d_h22_ d_h23_ d_z24_ d_e25_ d_h26_ d_h27_ d_z28_ d_h29_ d_M30_ d_hM31_ d_z40_ d_e41_ d_h42_ d_h43_ d_h44_ d_z45_ d_h46_ d_M47_ d_hM48_ => ⟨(fun d_h55_ => ⟨(fun d_h56_ _ d_M57_ _ d_hF61_ d_hs63_ d_M66_ _ d_hF70_ d_hs72_ d_M74_ _ d_hF78_ d_hs80_ d_M83_ _ d_hF87_ d_hs89_ d_M91_ _ d_hF95_ d_hs97_ d_M100_ _ d_hF104_ d_hs106_ d_M108_ _ d_hF112_ d_hs114_ d_h110_ d_z116_ d_e117_ d_h118_ d_h119_ d_z120_ d_h121_ d_M122_ d_hM123_ d_hM_ => ?_), (fun d_h56_ _ d_M128_ _ d_hF132_ d_hs134_ d_M137_ _ d_hF141_ d_hs143_ d_h139_ d_z145_ d_e146_ d_h147_ d_h148_ d_z149_ d_h150_ d_M151_ d_hM152_ d_hM_ => ?_)⟩), (fun d_h55_ _ d_M157_ _ d_hF161_ d_hs163_ d_M166_ _ d_hF170_ d_hs172_ d_h168_ d_z174_ d_e175_ d_h176_ d_h177_ d_z178_ d_h179_ d_M180_ d_hM181_ d_hM_ => ?_)⟩), (fun d_h6_ d_M186_ d_hM187_ d_h193_ d_z196_ d_e197_ d_h198_ d_h199_ d_h200_ d_h201_ d_hM_ => ?_)⟩)
    · have op := PRL_open hT h qN c_e2_ c_h8_ c_hM10_ c_e17_ (show c_M20_ = up c_M9_ (4, 0, 0) 3 (c_z16_ + (1 : Int32)) by rw [c_hM21_, c_h19_]) d_hM8_ d_e25_ d_h29_ d_hM31_ d_e41_ d_h46_ d_hM48_
      have a1 := hB (e - 1) _ _ _ _ (by omega) op.1 c_hs35_ d_hs63_ c_hF33_ d_hF61_
      have a2 := expect_both c_hs44_ d_hs72_ (by omega) a1.1 c_hF42_ d_hF70_
      have a3 := hB (e - 1) _ _ _ _ (by omega) a2.1 c_hs54_ d_hs80_ c_hF52_ d_hF78_
      have a4 := expect_both c_hs63_ d_hs89_ (by omega) a3.1 c_hF61_ d_hF87_
      have a5 := hB (e - 1) _ _ _ _ (by omega) a4.1 c_hs73_ d_hs97_ c_hF71_ d_hF95_
      have a6 := expect_both c_hs82_ d_hs106_ (by omega) a5.1 c_hF80_ d_hF104_
      have a7 := PRL_code a6.1 he c_hs92_ d_hs114_ (by rw [i9]; exact c9) (by omega)
      have w1 := eT c_e97_
      have w2 := eT d_e117_
      rw [c_hM_, d_hM_]
      refine PRX_close ⟨a7.1, ?_⟩ c_hM102_ d_hM123_ (fun q => by omega)
      have := op.2
      have := a1.2
      have := a2.2
      have := a3.2
      have := a4.2
      have := a5.2
      have := a6.2
      have := a7.2
      omega
    · omega
    · omega
    · have := eT c_e2_
      have := eT d_e3_
      omega
  · refine xE_SP_X12_opens h2 (fun d_z2_ d_e3_ d_h4_ d_h5_ => ⟨(fun d_h6_ d_M7_ d_hM8_ d_z17_ d_e18_ d_h19_ d_h20_ d_h21_ d_h22_ d_h23_ d_z24_ d_e25_ d_h26_ d_h27_ d_z28_ d_h29_ d_M30_ d_hM31_ d_z40_ d_e41_ d_h42_ d_h43_ d_h44_ d_z45_ d_h46_ d_M47_ d_hM48_ => ⟨(fun d_h55_ => ⟨(fun d_h56_ _ d_M57_ _ d_hF61_ d_hs63_ d_M66_ _ d_hF70_ d_hs72_ d_M74_ _ d_hF78_ d_hs80_ d_M83_ _ d_hF87_ d_hs89_ d_M91_ _ d_hF95_ d_hs97_ d_M100_ _ d_hF104_ d_hs106_ d_M108_ _ d_hF112_ d_hs114_ d_h110_ d_z116_ d_e117_ d_h118_ d_h119_ d_z120_ d_h121_ d_M122_ d_hM123_ d_hM_ => ?_), (fun d_h56_ _ d_M128_ _ d_hF132_ d_hs134_ d_M137_ _ d_hF141_ d_hs143_ d_h139_ d_z145_ d_e146_ d_h147_ d_h148_ d_z149_ d_h150_ d_M151_ d_hM152_ d_hM_ => ?_)⟩), (fun d_h55_ _ d_M157_ _ d_hF161_ d_hs163_ d_M166_ _ d_hF170_ d_hs172_ d_h168_ d_z174_ d_e175_ d_h176_ d_h177_ d_z178_ d_h179_ d_M180_ d_hM181_ d_hM_ => ?_)⟩), (fun d_h6_ d_M186_ d_hM187_ d_h193_ d_z196_ d_e197_ d_h198_ d_h199_ d_h200_ d_h201_ d_hM_ => ?_)⟩)
    · omega
    · have op := PRL_open hT h qN c_e2_ c_h8_ c_hM10_ c_e17_ (show c_M20_ = up c_M9_ (4, 0, 0) 3 (c_z16_ + (1 : Int32)) by rw [c_hM21_, c_h19_]) d_hM8_ d_e25_ d_h29_ d_hM31_ d_e41_ d_h46_ d_hM48_
      have a1 := hB (e - 1) _ _ _ _ (by omega) op.1 c_hs114_ d_hs134_ c_hF112_ d_hF132_
      have a2 := expect_both c_hs123_ d_hs143_ (by omega) a1.1 c_hF121_ d_hF141_
      have w1 := eT c_e128_
      have w2 := eT d_e146_
      rw [c_hM_, d_hM_]
      refine PRX_close ⟨PRL_mono a2.1 (by omega), ?_⟩ c_hM133_ d_hM152_ (fun q => by omega)
      have := op.2
      have := a1.2
      have := a2.2
      omega
    · omega
    · have := eT c_e2_
      have := eT d_e3_
      omega
  · refine xE_SP_X12_opens h2 (fun d_z2_ d_e3_ d_h4_ d_h5_ => ⟨(fun d_h6_ d_M7_ d_hM8_ d_z17_ d_e18_ d_h19_ d_h20_ d_h21_ d_h22_ d_h23_ d_z24_ d_e25_ d_h26_ d_h27_ d_z28_ d_h29_ d_M30_ d_hM31_ d_z40_ d_e41_ d_h42_ d_h43_ d_h44_ d_z45_ d_h46_ d_M47_ d_hM48_ => ⟨(fun d_h55_ => ⟨(fun d_h56_ _ d_M57_ _ d_hF61_ d_hs63_ d_M66_ _ d_hF70_ d_hs72_ d_M74_ _ d_hF78_ d_hs80_ d_M83_ _ d_hF87_ d_hs89_ d_M91_ _ d_hF95_ d_hs97_ d_M100_ _ d_hF104_ d_hs106_ d_M108_ _ d_hF112_ d_hs114_ d_h110_ d_z116_ d_e117_ d_h118_ d_h119_ d_z120_ d_h121_ d_M122_ d_hM123_ d_hM_ => ?_), (fun d_h56_ _ d_M128_ _ d_hF132_ d_hs134_ d_M137_ _ d_hF141_ d_hs143_ d_h139_ d_z145_ d_e146_ d_h147_ d_h148_ d_z149_ d_h150_ d_M151_ d_hM152_ d_hM_ => ?_)⟩), (fun d_h55_ _ d_M157_ _ d_hF161_ d_hs163_ d_M166_ _ d_hF170_ d_hs172_ d_h168_ d_z174_ d_e175_ d_h176_ d_h177_ d_z178_ d_h179_ d_M180_ d_hM181_ d_hM_ => ?_)⟩), (fun d_h6_ d_M186_ d_hM187_ d_h193_ d_z196_ d_e197_ d_h198_ d_h199_ d_h200_ d_h201_ d_hM_ => ?_)⟩)
    · omega
    · omega
    · have op := PRL_open hT h qN c_e2_ c_h8_ c_hM10_ c_e17_ (show c_M20_ = up c_M9_ (4, 0, 0) 3 (c_z16_ + (1 : Int32)) by rw [c_hM21_, c_h19_]) d_hM8_ d_e25_ d_h29_ d_hM31_ d_e41_ d_h46_ d_hM48_
      have a1 := hA (e - 1) _ _ _ _ (by omega) op.1 c_hs145_ d_hs163_ c_hF143_ d_hF161_
      have a7 := PRL_code a1.1 he c_hs154_ d_hs172_ (by rw [i8]; exact c8) (by omega)
      have w1 := eT c_e159_
      have w2 := eT d_e175_
      rw [c_hM_, d_hM_]
      refine PRX_close ⟨a7.1, ?_⟩ c_hM164_ d_hM181_ (fun q => by omega)
      have := op.2
      have := a1.2
      have := a7.2
      omega
    · have := eT c_e2_
      have := eT d_e3_
      omega
  · have w1 := eT c_e2_
    refine xE_SP_X12_opens h2 (fun d_z2_ d_e3_ d_h4_ d_h5_ => ⟨(fun d_h6_ d_M7_ d_hM8_ d_z17_ d_e18_ d_h19_ d_h20_ d_h21_ d_h22_ d_h23_ d_z24_ d_e25_ d_h26_ d_h27_ d_z28_ d_h29_ d_M30_ d_hM31_ d_z40_ d_e41_ d_h42_ d_h43_ d_h44_ d_z45_ d_h46_ d_M47_ d_hM48_ => ⟨(fun d_h55_ => ⟨(fun d_h56_ _ d_M57_ _ d_hF61_ d_hs63_ d_M66_ _ d_hF70_ d_hs72_ d_M74_ _ d_hF78_ d_hs80_ d_M83_ _ d_hF87_ d_hs89_ d_M91_ _ d_hF95_ d_hs97_ d_M100_ _ d_hF104_ d_hs106_ d_M108_ _ d_hF112_ d_hs114_ d_h110_ d_z116_ d_e117_ d_h118_ d_h119_ d_z120_ d_h121_ d_M122_ d_hM123_ d_hM_ => ?_), (fun d_h56_ _ d_M128_ _ d_hF132_ d_hs134_ d_M137_ _ d_hF141_ d_hs143_ d_h139_ d_z145_ d_e146_ d_h147_ d_h148_ d_z149_ d_h150_ d_M151_ d_hM152_ d_hM_ => ?_)⟩), (fun d_h55_ _ d_M157_ _ d_hF161_ d_hs163_ d_M166_ _ d_hF170_ d_hs172_ d_h168_ d_z174_ d_e175_ d_h176_ d_h177_ d_z178_ d_h179_ d_M180_ d_hM181_ d_hM_ => ?_)⟩), (fun d_h6_ d_M186_ d_hM187_ d_h193_ d_z196_ d_e197_ d_h198_ d_h199_ d_h200_ d_h201_ d_hM_ => ?_)⟩)
    · have := eT d_e3_; omega
    · have := eT d_e3_; omega
    · have := eT d_e3_; omega
    · rw [c_hM_, d_hM_]
      exact PBD_bad hT h c_hs176_ (by rw [zupE d_hM187_ rfl rfl, q1]; omega) (fun c k q => zupN d_hM187_ q)
end
section
/-! one -/
theorem PRX_pre {e : Int} {C C' C2 D D' D2 : mM} (h : PRX e C' C2 D' D2) (h9 : (D.1 (12, 0, 0) 9).toInt ≤ (D'.1 (12, 0, 0) 9).toInt) : PRX e C C2 D D2 := ⟨h.1, Int.le_trans h9 h.2⟩
theorem one_start {e : Int} {C M5 D M2 : mM} {r r1 : Int32} {s : Int} {W : Nat} {a T : Int} (hT : TPE C D) (k : POK e C D) (h1 : SP_X4_next C r M5) (h2 : SP_X12_here s W a T D r1 M2) : r = r1 ∧ TPE M5 M2 ∧ POK e M5 M2 ∧ (D.1 (12, 0, 0) 9).toInt ≤ (M2.1 (12, 0, 0) 9).toInt ∧ (0 ≤ r1.toInt → (M2.1 (12, 0, 0) 9).toInt < (M2.1 (50, 0, 0) 4).toInt ∧ (M2.1 (50, 0, 0) (273 + (M2.1 (12, 0, 0) 9).toInt.toNat)).toInt = r1.toInt) := by
  obtain ⟨k1, k2, k3, k4, k5, k6, k7, k8, k9, k10⟩ := k
  have nx := x4next h1 hT (by omega)
  rw [k3] at nx
  obtain ⟨n1, n2, n3⟩ := nx
  rcases x12here h2 k4 with g | ⟨-, g1, g2, g3⟩
  · exact absurd k2 g.1
  · have u := nxT_uniq k4.1 n1 g1
    have g11 := g1.1
    refine ⟨i32e u.2, TPE_kc hT (fun c k q => n3 c k (fun z => q ⟨z.1, by omega⟩)) (fun c k q => g3 c k (fun z => q ⟨z.1, by omega⟩)), ?_, g1.1, fun q => ?_⟩
    · unfold POK
      rw [n3 (4, 0, 0) 4 (by simp), n3 (4, 0, 0) 6 (by simp), n3 (1, 3, 0) 2 (by simp), n3 (4, 0, 0) 5 (by simp), g3 (12, 0, 0) 13 (by simp), g3 (12, 0, 0) 12 (by simp), g3 (12, 0, 0) 14 (by simp), g3 (12, 0, 0) 11 (by simp), g3 (12, 0, 0) 10 (by simp), g3 (50, 0, 0) 4 (by simp)]
      refine ⟨k1, k2, u.1, by omega, k5, k6, k7, by omega, k9, fun i hi => ?_⟩
      rw [n3 _ _ (by simp), g3 _ _ (by simp)]
      exact k10 i hi
    · rw [g3 (50, 0, 0) 4 (by simp), g3 (50, 0, 0) _ (by simp)]
      rcases g1.2.2 with z | z
      · exact ⟨z.1, z.2.1.symm⟩
      · omega
/-- a name on both sides -/
theorem name_both {v : Int32} {C C2 D : mM} (h1 : SP_X4_readName v C C2) (hT : TPE C D) {P : Prop}
    (hbad : SP_X4_fail C C2 → ((v.toInt < 0 ∨ 127 < v.toInt) ∨ ∀ j : Nat, j < nnU (D.1 (12, 0, 0) 10).toInt.toNat → ¬ (nmL (D.1 (12, 0, 0) 10).toInt.toNat j).toInt = v.toInt) → P)
    (hgood : ∀ z : Int32, 0 ≤ z.toInt → z.toInt < (nnU (D.1 (12, 0, 0) 10).toInt.toNat : Int) → (nmL (D.1 (12, 0, 0) 10).toInt.toNat z.toInt.toNat).toInt = v.toInt → NAg z C C2 → P) : P := by
  rcases name_c (u := (D.1 (12, 0, 0) 10).toInt.toNat) h1 (by have := hT.2.2.2; omega) with g | ⟨-, z, g1, g2⟩
  · exact hbad g.2 g.1
  · exact hgood z g1.1 g1.2.1 g1.2.2 g2
theorem one_both {N N2 m : Nat} {QA QB QA2 QB2 : mM → mM → Prop} (hA : BOTH QA QA2) (hB : BOTH QB QB2) : BOTH (SP_X4_readOne N m QA QB) (fun D D2 => ∃ (s : Int) (W : Nat) (a T : Int), SP_X12_one N2 m QA2 QB2 s W a T D D2) := by
  intro e C C2 D D2 he h h1 h2 hf hg
  obtain ⟨s, W, a, T, h2⟩ := h2
  have q0 := il_0
  have q1 := il_1
  have T0 := h.1
  have ab := PRL_at h
  have T2 := TPE_fr T0 hf hg
  rcases h.2 with k | k
  · have k4 := k.1
    refine xE_SP_X4_readOne h1 (fun c_z1_ c_e2_ => ⟨(fun c_h3_ c_M5_ _ c_hF9_ c_r4_ c_hs11_ => ⟨(fun c_h15_ => ⟨(fun c_h16_ c_M17_ _ c_hF21_ c_hs23_ c_h19_ c_hM_ => ?_), (fun c_h16_ => ⟨(fun c_h26_ c_M27_ _ c_hF31_ c_hs33_ c_h29_ c_hM_ => ?_), (fun c_h26_ c_h36_ c_M37_ _ c_hF41_ c_hs43_ c_hM_ => ?_)⟩)⟩), (fun c_h15_ => ⟨(fun c_h47_ c_h48_ c_h49_ => ⟨(fun c_h50_ c_M51_ _ c_hF55_ c_hs57_ c_hM_ => ?_), (fun c_h50_ c_M61_ _ c_hF65_ c_hs67_ c_h63_ c_hM_ => ?_)⟩), (fun c_h47_ c_M70_ _ c_hF74_ c_hs76_ c_hM_ => ?_)⟩)⟩), (fun c_h3_ c_hM_ => ?_)⟩)
    · refine xE_SP_X12_one h2 (fun d_M2_ _ d_hF6_ d_r1_ d_hs8_ d_h11_ => ⟨(fun d_h12_ d_M17_ _ d_hF21_ d_hs23_ d_h24_ d_hM_ => ?_), (fun d_h12_ => ⟨(fun d_h26_ d_M31_ _ d_hF35_ d_hs37_ d_h38_ d_hM_ => ?_), (fun d_h26_ => ⟨(fun d_h40_ => ⟨(fun d_hs45_ d_h44_ d_v3_46 d_hv0_46 d_v2_46 d_hv1_46 d_M_46 d_hv2_46 d_hL_46 _ d_hF_46 => ⟨(fun d_h49_ d_h50_ d_M52_ _ d_hF56_ d_hs58_ d_h54_ d_z60_ d_e61_ d_z62_ d_h63_ d_M64_ d_hM65_ d_hM_ => ?_), (fun d_h49_ d_z70_ d_e71_ d_h72_ d_z73_ d_e74_ d_h75_ => ⟨(fun d_h76_ d_h77_ d_M79_ _ d_hF83_ d_hs85_ d_h81_ d_z87_ d_e88_ d_z89_ d_h90_ d_M91_ d_hM92_ d_hM_ => ?_), (fun d_h76_ d_z99_ d_h100_ d_j103_ d_h104_ d_z101_ d_e102_ d_hs109_ d_h108_ d_h139_ d_M141_ _ d_hF145_ d_hs147_ d_h143_ d_z149_ d_e150_ d_z151_ d_h152_ d_M153_ d_hM154_ d_hM_ => ?_)⟩)⟩), (fun d_hs45_ d_h44_ => ⟨(fun d_h160_ d_r165_ d_hs169_ d_h168_ d_z170_ d_e171_ d_h172_ d_h173_ => ⟨(fun d_h174_ d_M175_ d_hM176_ d_h182_ d_z185_ d_e186_ d_h187_ d_h188_ d_h189_ d_h190_ d_hM_ => ?_), (fun d_h174_ => ⟨(fun d_h191_ d_M192_ d_hM193_ d_z202_ d_e203_ d_h204_ d_h205_ d_h206_ d_h207_ d_z208_ d_h209_ _ d_M210_ _ d_hF214_ d_hs216_ d_z222_ d_e223_ d_z224_ d_h225_ d_M226_ d_hM227_ d_z236_ d_e237_ d_h238_ d_h239_ d_h240_ d_z241_ d_h242_ d_M243_ d_hM244_ d_h250_ d_hM_ => ?_), (fun d_h191_ d_M251_ d_hM252_ d_h258_ d_z261_ d_e262_ d_h263_ d_h264_ d_h265_ d_h266_ d_hM_ => ?_)⟩)⟩), (fun d_h160_ d_z267_ d_e268_ d_h269_ => ⟨(fun d_h270_ d_M271_ d_hM272_ d_h276_ d_z279_ d_e280_ d_h281_ d_h282_ d_h283_ d_h284_ d_hM_ => ?_), (fun d_h270_ d_M286_ d_hM287_ d_h291_ d_z294_ d_e295_ d_h296_ d_h297_ d_h298_ d_h299_ d_hM_ => ?_)⟩)⟩)⟩), (fun d_h40_ d_M304_ _ d_hF308_ d_hs310_ d_h311_ d_hM_ => ?_)⟩)⟩)⟩)
      · obtain ⟨rfl, s1, s2, s3, s4⟩ := one_start T0 k c_hs11_ d_hs8_
        rw [c_hM_, d_hM_]
        exact PRX_pre (opened_both hA hB c_hs23_ d_hs23_ s1 s2 he (s4 (by omega)).1) s3
      · obtain ⟨rfl, s1, s2, s3, s4⟩ := one_start T0 k c_hs11_ d_hs8_
        omega
      · obtain ⟨rfl, s1, s2, s3, s4⟩ := one_start T0 k c_hs11_ d_hs8_
        omega
      · obtain ⟨rfl, s1, s2, s3, s4⟩ := one_start T0 k c_hs11_ d_hs8_
        omega
      · obtain ⟨rfl, s1, s2, s3, s4⟩ := one_start T0 k c_hs11_ d_hs8_
        omega
      · obtain ⟨rfl, s1, s2, s3, s4⟩ := one_start T0 k c_hs11_ d_hs8_
        have := eT d_h173_
        omega
      · obtain ⟨rfl, s1, s2, s3, s4⟩ := one_start T0 k c_hs11_ d_hs8_
        omega
      · obtain ⟨rfl, s1, s2, s3, s4⟩ := one_start T0 k c_hs11_ d_hs8_
        omega
      · obtain ⟨rfl, s1, s2, s3, s4⟩ := one_start T0 k c_hs11_ d_hs8_
        have := eT d_e268_
        have := s2.2.1
        omega
      · obtain ⟨rfl, s1, s2, s3, s4⟩ := one_start T0 k c_hs11_ d_hs8_
        omega
      · obtain ⟨rfl, s1, s2, s3, s4⟩ := one_start T0 k c_hs11_ d_hs8_
        omega
    · refine xE_SP_X12_one h2 (fun d_M2_ _ d_hF6_ d_r1_ d_hs8_ d_h11_ => ⟨(fun d_h12_ d_M17_ _ d_hF21_ d_hs23_ d_h24_ d_hM_ => ?_), (fun d_h12_ => ⟨(fun d_h26_ d_M31_ _ d_hF35_ d_hs37_ d_h38_ d_hM_ => ?_), (fun d_h26_ => ⟨(fun d_h40_ => ⟨(fun d_hs45_ d_h44_ d_v3_46 d_hv0_46 d_v2_46 d_hv1_46 d_M_46 d_hv2_46 d_hL_46 _ d_hF_46 => ⟨(fun d_h49_ d_h50_ d_M52_ _ d_hF56_ d_hs58_ d_h54_ d_z60_ d_e61_ d_z62_ d_h63_ d_M64_ d_hM65_ d_hM_ => ?_), (fun d_h49_ d_z70_ d_e71_ d_h72_ d_z73_ d_e74_ d_h75_ => ⟨(fun d_h76_ d_h77_ d_M79_ _ d_hF83_ d_hs85_ d_h81_ d_z87_ d_e88_ d_z89_ d_h90_ d_M91_ d_hM92_ d_hM_ => ?_), (fun d_h76_ d_z99_ d_h100_ d_j103_ d_h104_ d_z101_ d_e102_ d_hs109_ d_h108_ d_h139_ d_M141_ _ d_hF145_ d_hs147_ d_h143_ d_z149_ d_e150_ d_z151_ d_h152_ d_M153_ d_hM154_ d_hM_ => ?_)⟩)⟩), (fun d_hs45_ d_h44_ => ⟨(fun d_h160_ d_r165_ d_hs169_ d_h168_ d_z170_ d_e171_ d_h172_ d_h173_ => ⟨(fun d_h174_ d_M175_ d_hM176_ d_h182_ d_z185_ d_e186_ d_h187_ d_h188_ d_h189_ d_h190_ d_hM_ => ?_), (fun d_h174_ => ⟨(fun d_h191_ d_M192_ d_hM193_ d_z202_ d_e203_ d_h204_ d_h205_ d_h206_ d_h207_ d_z208_ d_h209_ _ d_M210_ _ d_hF214_ d_hs216_ d_z222_ d_e223_ d_z224_ d_h225_ d_M226_ d_hM227_ d_z236_ d_e237_ d_h238_ d_h239_ d_h240_ d_z241_ d_h242_ d_M243_ d_hM244_ d_h250_ d_hM_ => ?_), (fun d_h191_ d_M251_ d_hM252_ d_h258_ d_z261_ d_e262_ d_h263_ d_h264_ d_h265_ d_h266_ d_hM_ => ?_)⟩)⟩), (fun d_h160_ d_z267_ d_e268_ d_h269_ => ⟨(fun d_h270_ d_M271_ d_hM272_ d_h276_ d_z279_ d_e280_ d_h281_ d_h282_ d_h283_ d_h284_ d_hM_ => ?_), (fun d_h270_ d_M286_ d_hM287_ d_h291_ d_z294_ d_e295_ d_h296_ d_h297_ d_h298_ d_h299_ d_hM_ => ?_)⟩)⟩)⟩), (fun d_h40_ d_M304_ _ d_hF308_ d_hs310_ d_h311_ d_hM_ => ?_)⟩)⟩)⟩)
      · obtain ⟨rfl, s1, s2, s3, s4⟩ := one_start T0 k c_hs11_ d_hs8_
        omega
      · obtain ⟨rfl, s1, s2, s3, s4⟩ := one_start T0 k c_hs11_ d_hs8_
        rw [c_hM_, d_hM_]
        exact PRX_pre (opened_both hA hB c_hs33_ d_hs37_ s1 s2 he (s4 (by omega)).1) s3
      · obtain ⟨rfl, s1, s2, s3, s4⟩ := one_start T0 k c_hs11_ d_hs8_
        omega
      · obtain ⟨rfl, s1, s2, s3, s4⟩ := one_start T0 k c_hs11_ d_hs8_
        omega
      · obtain ⟨rfl, s1, s2, s3, s4⟩ := one_start T0 k c_hs11_ d_hs8_
        omega
      · obtain ⟨rfl, s1, s2, s3, s4⟩ := one_start T0 k c_hs11_ d_hs8_
        have := eT d_h173_
        omega
      · obtain ⟨rfl, s1, s2, s3, s4⟩ := one_start T0 k c_hs11_ d_hs8_
        omega
      · obtain ⟨rfl, s1, s2, s3, s4⟩ := one_start T0 k c_hs11_ d_hs8_
        omega
      · obtain ⟨rfl, s1, s2, s3, s4⟩ := one_start T0 k c_hs11_ d_hs8_
        have := eT d_e268_
        have := s2.2.1
        omega
      · obtain ⟨rfl, s1, s2, s3, s4⟩ := one_start T0 k c_hs11_ d_hs8_
        omega
      · obtain ⟨rfl, s1, s2, s3, s4⟩ := one_start T0 k c_hs11_ d_hs8_
        omega
    · refine xE_SP_X12_one h2 (fun d_M2_ _ d_hF6_ d_r1_ d_hs8_ d_h11_ => ⟨(fun d_h12_ d_M17_ _ d_hF21_ d_hs23_ d_h24_ d_hM_ => ?_), (fun d_h12_ => ⟨(fun d_h26_ d_M31_ _ d_hF35_ d_hs37_ d_h38_ d_hM_ => ?_), (fun d_h26_ => ⟨(fun d_h40_ => ⟨(fun d_hs45_ d_h44_ d_v3_46 d_hv0_46 d_v2_46 d_hv1_46 d_M_46 d_hv2_46 d_hL_46 _ d_hF_46 => ⟨(fun d_h49_ d_h50_ d_M52_ _ d_hF56_ d_hs58_ d_h54_ d_z60_ d_e61_ d_z62_ d_h63_ d_M64_ d_hM65_ d_hM_ => ?_), (fun d_h49_ d_z70_ d_e71_ d_h72_ d_z73_ d_e74_ d_h75_ => ⟨(fun d_h76_ d_h77_ d_M79_ _ d_hF83_ d_hs85_ d_h81_ d_z87_ d_e88_ d_z89_ d_h90_ d_M91_ d_hM92_ d_hM_ => ?_), (fun d_h76_ d_z99_ d_h100_ d_j103_ d_h104_ d_z101_ d_e102_ d_hs109_ d_h108_ d_h139_ d_M141_ _ d_hF145_ d_hs147_ d_h143_ d_z149_ d_e150_ d_z151_ d_h152_ d_M153_ d_hM154_ d_hM_ => ?_)⟩)⟩), (fun d_hs45_ d_h44_ => ⟨(fun d_h160_ d_r165_ d_hs169_ d_h168_ d_z170_ d_e171_ d_h172_ d_h173_ => ⟨(fun d_h174_ d_M175_ d_hM176_ d_h182_ d_z185_ d_e186_ d_h187_ d_h188_ d_h189_ d_h190_ d_hM_ => ?_), (fun d_h174_ => ⟨(fun d_h191_ d_M192_ d_hM193_ d_z202_ d_e203_ d_h204_ d_h205_ d_h206_ d_h207_ d_z208_ d_h209_ _ d_M210_ _ d_hF214_ d_hs216_ d_z222_ d_e223_ d_z224_ d_h225_ d_M226_ d_hM227_ d_z236_ d_e237_ d_h238_ d_h239_ d_h240_ d_z241_ d_h242_ d_M243_ d_hM244_ d_h250_ d_hM_ => ?_), (fun d_h191_ d_M251_ d_hM252_ d_h258_ d_z261_ d_e262_ d_h263_ d_h264_ d_h265_ d_h266_ d_hM_ => ?_)⟩)⟩), (fun d_h160_ d_z267_ d_e268_ d_h269_ => ⟨(fun d_h270_ d_M271_ d_hM272_ d_h276_ d_z279_ d_e280_ d_h281_ d_h282_ d_h283_ d_h284_ d_hM_ => ?_), (fun d_h270_ d_M286_ d_hM287_ d_h291_ d_z294_ d_e295_ d_h296_ d_h297_ d_h298_ d_h299_ d_hM_ => ?_)⟩)⟩)⟩), (fun d_h40_ d_M304_ _ d_hF308_ d_hs310_ d_h311_ d_hM_ => ?_)⟩)⟩)⟩)
      · obtain ⟨rfl, s1, s2, s3, s4⟩ := one_start T0 k c_hs11_ d_hs8_
        omega
      · obtain ⟨rfl, s1, s2, s3, s4⟩ := one_start T0 k c_hs11_ d_hs8_
        omega
      · obtain ⟨rfl, s1, s2, s3, s4⟩ := one_start T0 k c_hs11_ d_hs8_
        omega
      · obtain ⟨rfl, s1, s2, s3, s4⟩ := one_start T0 k c_hs11_ d_hs8_
        omega
      · obtain ⟨rfl, s1, s2, s3, s4⟩ := one_start T0 k c_hs11_ d_hs8_
        omega
      · obtain ⟨rfl, s1, s2, s3, s4⟩ := one_start T0 k c_hs11_ d_hs8_
        have := eT d_h173_
        omega
      · obtain ⟨rfl, s1, s2, s3, s4⟩ := one_start T0 k c_hs11_ d_hs8_
        rw [c_hM_]
        have nm := x12name d_hs169_ s1.2.2.2.2
        refine name_both c_hs43_ s1 (fun _ b => ?_) (fun z g1 g2 g3 g4 => ?_)
        · exfalso
          rcases nm with nm | nm
          · have lb := nmL_b (u := (d_M2_.1 (12, 0, 0) 10).toInt.toNat) (j := d_r165_.toInt.toNat) (by have := s1.2.2.2.2; omega) (by omega)
            rcases b with b | b
            · omega
            · exact b _ (by omega) nm.2.2
          · omega
        · rcases nm with nm | nm
          · have zz : z = d_r165_ := i32e (by have := nmL_uniq (u := (d_M2_.1 (12, 0, 0) 10).toInt.toNat) (i := z.toInt.toNat) (j := d_r165_.toInt.toNat) (by have := s1.2.2.2.2; omega) (by omega) (by omega) (g3.trans nm.2.2.symm); omega)
            obtain ⟨z0, w, zc, Ma, M3, y1, y2, y3, y4, y5, y6⟩ := g4
            exact PRX_pre (nm_fin s1 s2 he (s4 d_h160_).1 zz ⟨by omega, nm.2.1, by omega⟩ y1 y2 y3 y4 y5 y6 d_hM193_ d_h209_ d_hs216_ d_e223_ (by rw [d_hM227_, d_h225_]) d_e237_ d_h242_ (by rw [d_hM_, d_hM244_])) s3
          · omega
      · obtain ⟨rfl, s1, s2, s3, s4⟩ := one_start T0 k c_hs11_ d_hs8_
        rw [c_hM_]
        have nm := x12name d_hs169_ s1.2.2.2.2
        refine name_both c_hs43_ s1 (fun b _ => ?_) (fun z g1 g2 g3 g4 => ?_)
        · rw [d_hM_]
          exact PRX_pre (PBD_bad s1 s2 b (by rw [zupE d_hM252_ rfl rfl, q1]; omega) (fun c k q => zupN d_hM252_ q)) s3
        · exfalso
          rcases nm with nm | nm
          · omega
          · exact nm.2 _ (by omega) g3
      · obtain ⟨rfl, s1, s2, s3, s4⟩ := one_start T0 k c_hs11_ d_hs8_
        have := eT d_e268_
        have := s2.2.1
        omega
      · obtain ⟨rfl, s1, s2, s3, s4⟩ := one_start T0 k c_hs11_ d_hs8_
        rw [c_hM_]
        refine name_both c_hs43_ s1 (fun b _ => ?_) (fun z g1 g2 g3 g4 => ?_)
        · rw [d_hM_]
          exact PRX_pre (PBD_bad s1 s2 b (by rw [zupE d_hM287_ rfl rfl, q1]; omega) (fun c k q => zupN d_hM287_ q)) s3
        · exfalso
          have lb := nmL_b (u := (d_M2_.1 (12, 0, 0) 10).toInt.toNat) (j := z.toInt.toNat) (by have := s1.2.2.2.2; omega) (by omega)
          omega
      · obtain ⟨rfl, s1, s2, s3, s4⟩ := one_start T0 k c_hs11_ d_hs8_
        omega
    · refine xE_SP_X12_one h2 (fun d_M2_ _ d_hF6_ d_r1_ d_hs8_ d_h11_ => ⟨(fun d_h12_ d_M17_ _ d_hF21_ d_hs23_ d_h24_ d_hM_ => ?_), (fun d_h12_ => ⟨(fun d_h26_ d_M31_ _ d_hF35_ d_hs37_ d_h38_ d_hM_ => ?_), (fun d_h26_ => ⟨(fun d_h40_ => ⟨(fun d_hs45_ d_h44_ d_v3_46 d_hv0_46 d_v2_46 d_hv1_46 d_M_46 d_hv2_46 d_hL_46 _ d_hF_46 => ⟨(fun d_h49_ d_h50_ d_M52_ _ d_hF56_ d_hs58_ d_h54_ d_z60_ d_e61_ d_z62_ d_h63_ d_M64_ d_hM65_ d_hM_ => ?_), (fun d_h49_ d_z70_ d_e71_ d_h72_ d_z73_ d_e74_ d_h75_ => ⟨(fun d_h76_ d_h77_ d_M79_ _ d_hF83_ d_hs85_ d_h81_ d_z87_ d_e88_ d_z89_ d_h90_ d_M91_ d_hM92_ d_hM_ => ?_), (fun d_h76_ d_z99_ d_h100_ d_j103_ d_h104_ d_z101_ d_e102_ d_hs109_ d_h108_ d_h139_ d_M141_ _ d_hF145_ d_hs147_ d_h143_ d_z149_ d_e150_ d_z151_ d_h152_ d_M153_ d_hM154_ d_hM_ => ?_)⟩)⟩), (fun d_hs45_ d_h44_ => ⟨(fun d_h160_ d_r165_ d_hs169_ d_h168_ d_z170_ d_e171_ d_h172_ d_h173_ => ⟨(fun d_h174_ d_M175_ d_hM176_ d_h182_ d_z185_ d_e186_ d_h187_ d_h188_ d_h189_ d_h190_ d_hM_ => ?_), (fun d_h174_ => ⟨(fun d_h191_ d_M192_ d_hM193_ d_z202_ d_e203_ d_h204_ d_h205_ d_h206_ d_h207_ d_z208_ d_h209_ _ d_M210_ _ d_hF214_ d_hs216_ d_z222_ d_e223_ d_z224_ d_h225_ d_M226_ d_hM227_ d_z236_ d_e237_ d_h238_ d_h239_ d_h240_ d_z241_ d_h242_ d_M243_ d_hM244_ d_h250_ d_hM_ => ?_), (fun d_h191_ d_M251_ d_hM252_ d_h258_ d_z261_ d_e262_ d_h263_ d_h264_ d_h265_ d_h266_ d_hM_ => ?_)⟩)⟩), (fun d_h160_ d_z267_ d_e268_ d_h269_ => ⟨(fun d_h270_ d_M271_ d_hM272_ d_h276_ d_z279_ d_e280_ d_h281_ d_h282_ d_h283_ d_h284_ d_hM_ => ?_), (fun d_h270_ d_M286_ d_hM287_ d_h291_ d_z294_ d_e295_ d_h296_ d_h297_ d_h298_ d_h299_ d_hM_ => ?_)⟩)⟩)⟩), (fun d_h40_ d_M304_ _ d_hF308_ d_hs310_ d_h311_ d_hM_ => ?_)⟩)⟩)⟩)
      · obtain ⟨rfl, s1, s2, s3, s4⟩ := one_start T0 k c_hs11_ d_hs8_
        omega
      · obtain ⟨rfl, s1, s2, s3, s4⟩ := one_start T0 k c_hs11_ d_hs8_
        omega
      · obtain ⟨rfl, s1, s2, s3, s4⟩ := one_start T0 k c_hs11_ d_hs8_
        omega
      · obtain ⟨rfl, s1, s2, s3, s4⟩ := one_start T0 k c_hs11_ d_hs8_
        omega
      · obtain ⟨rfl, s1, s2, s3, s4⟩ := one_start T0 k c_hs11_ d_hs8_
        omega
      · obtain ⟨rfl, s1, s2, s3, s4⟩ := one_start T0 k c_hs11_ d_hs8_
        have := eT d_h173_
        omega
      · obtain ⟨rfl, s1, s2, s3, s4⟩ := one_start T0 k c_hs11_ d_hs8_
        rw [c_hM_]
        have nm := x12name d_hs169_ s1.2.2.2.2
        refine name_both c_hs57_ s1 (fun _ b => ?_) (fun z g1 g2 g3 g4 => ?_)
        · exfalso
          rcases nm with nm | nm
          · have lb := nmL_b (u := (d_M2_.1 (12, 0, 0) 10).toInt.toNat) (j := d_r165_.toInt.toNat) (by have := s1.2.2.2.2; omega) (by omega)
            rcases b with b | b
            · omega
            · exact b _ (by omega) nm.2.2
          · omega
        · rcases nm with nm | nm
          · have zz : z = d_r165_ := i32e (by have := nmL_uniq (u := (d_M2_.1 (12, 0, 0) 10).toInt.toNat) (i := z.toInt.toNat) (j := d_r165_.toInt.toNat) (by have := s1.2.2.2.2; omega) (by omega) (by omega) (g3.trans nm.2.2.symm); omega)
            obtain ⟨z0, w, zc, Ma, M3, y1, y2, y3, y4, y5, y6⟩ := g4
            exact PRX_pre (nm_fin s1 s2 he (s4 d_h160_).1 zz ⟨by omega, nm.2.1, by omega⟩ y1 y2 y3 y4 y5 y6 d_hM193_ d_h209_ d_hs216_ d_e223_ (by rw [d_hM227_, d_h225_]) d_e237_ d_h242_ (by rw [d_hM_, d_hM244_])) s3
          · omega
      · obtain ⟨rfl, s1, s2, s3, s4⟩ := one_start T0 k c_hs11_ d_hs8_
        rw [c_hM_]
        have nm := x12name d_hs169_ s1.2.2.2.2
        refine name_both c_hs57_ s1 (fun b _ => ?_) (fun z g1 g2 g3 g4 => ?_)
        · rw [d_hM_]
          exact PRX_pre (PBD_bad s1 s2 b (by rw [zupE d_hM252_ rfl rfl, q1]; omega) (fun c k q => zupN d_hM252_ q)) s3
        · exfalso
          rcases nm with nm | nm
          · omega
          · exact nm.2 _ (by omega) g3
      · obtain ⟨rfl, s1, s2, s3, s4⟩ := one_start T0 k c_hs11_ d_hs8_
        have := eT d_e268_
        have := s2.2.1
        omega
      · obtain ⟨rfl, s1, s2, s3, s4⟩ := one_start T0 k c_hs11_ d_hs8_
        rw [c_hM_]
        refine name_both c_hs57_ s1 (fun b _ => ?_) (fun z g1 g2 g3 g4 => ?_)
        · rw [d_hM_]
          exact PRX_pre (PBD_bad s1 s2 b (by rw [zupE d_hM287_ rfl rfl, q1]; omega) (fun c k q => zupN d_hM287_ q)) s3
        · exfalso
          have lb := nmL_b (u := (d_M2_.1 (12, 0, 0) 10).toInt.toNat) (j := z.toInt.toNat) (by have := s1.2.2.2.2; omega) (by omega)
          omega
      · obtain ⟨rfl, s1, s2, s3, s4⟩ := one_start T0 k c_hs11_ d_hs8_
        omega
    · refine xE_SP_X12_one h2 (fun d_M2_ _ d_hF6_ d_r1_ d_hs8_ d_h11_ => ⟨(fun d_h12_ d_M17_ _ d_hF21_ d_hs23_ d_h24_ d_hM_ => ?_), (fun d_h12_ => ⟨(fun d_h26_ d_M31_ _ d_hF35_ d_hs37_ d_h38_ d_hM_ => ?_), (fun d_h26_ => ⟨(fun d_h40_ => ⟨(fun d_hs45_ d_h44_ d_v3_46 d_hv0_46 d_v2_46 d_hv1_46 d_M_46 d_hv2_46 d_hL_46 _ d_hF_46 => ⟨(fun d_h49_ d_h50_ d_M52_ _ d_hF56_ d_hs58_ d_h54_ d_z60_ d_e61_ d_z62_ d_h63_ d_M64_ d_hM65_ d_hM_ => ?_), (fun d_h49_ d_z70_ d_e71_ d_h72_ d_z73_ d_e74_ d_h75_ => ⟨(fun d_h76_ d_h77_ d_M79_ _ d_hF83_ d_hs85_ d_h81_ d_z87_ d_e88_ d_z89_ d_h90_ d_M91_ d_hM92_ d_hM_ => ?_), (fun d_h76_ d_z99_ d_h100_ d_j103_ d_h104_ d_z101_ d_e102_ d_hs109_ d_h108_ d_h139_ d_M141_ _ d_hF145_ d_hs147_ d_h143_ d_z149_ d_e150_ d_z151_ d_h152_ d_M153_ d_hM154_ d_hM_ => ?_)⟩)⟩), (fun d_hs45_ d_h44_ => ⟨(fun d_h160_ d_r165_ d_hs169_ d_h168_ d_z170_ d_e171_ d_h172_ d_h173_ => ⟨(fun d_h174_ d_M175_ d_hM176_ d_h182_ d_z185_ d_e186_ d_h187_ d_h188_ d_h189_ d_h190_ d_hM_ => ?_), (fun d_h174_ => ⟨(fun d_h191_ d_M192_ d_hM193_ d_z202_ d_e203_ d_h204_ d_h205_ d_h206_ d_h207_ d_z208_ d_h209_ _ d_M210_ _ d_hF214_ d_hs216_ d_z222_ d_e223_ d_z224_ d_h225_ d_M226_ d_hM227_ d_z236_ d_e237_ d_h238_ d_h239_ d_h240_ d_z241_ d_h242_ d_M243_ d_hM244_ d_h250_ d_hM_ => ?_), (fun d_h191_ d_M251_ d_hM252_ d_h258_ d_z261_ d_e262_ d_h263_ d_h264_ d_h265_ d_h266_ d_hM_ => ?_)⟩)⟩), (fun d_h160_ d_z267_ d_e268_ d_h269_ => ⟨(fun d_h270_ d_M271_ d_hM272_ d_h276_ d_z279_ d_e280_ d_h281_ d_h282_ d_h283_ d_h284_ d_hM_ => ?_), (fun d_h270_ d_M286_ d_hM287_ d_h291_ d_z294_ d_e295_ d_h296_ d_h297_ d_h298_ d_h299_ d_hM_ => ?_)⟩)⟩)⟩), (fun d_h40_ d_M304_ _ d_hF308_ d_hs310_ d_h311_ d_hM_ => ?_)⟩)⟩)⟩)
      · obtain ⟨rfl, s1, s2, s3, s4⟩ := one_start T0 k c_hs11_ d_hs8_
        omega
      · obtain ⟨rfl, s1, s2, s3, s4⟩ := one_start T0 k c_hs11_ d_hs8_
        omega
      · obtain ⟨rfl, s1, s2, s3, s4⟩ := one_start T0 k c_hs11_ d_hs8_
        omega
      · obtain ⟨rfl, s1, s2, s3, s4⟩ := one_start T0 k c_hs11_ d_hs8_
        omega
      · obtain ⟨rfl, s1, s2, s3, s4⟩ := one_start T0 k c_hs11_ d_hs8_
        omega
      · obtain ⟨rfl, s1, s2, s3, s4⟩ := one_start T0 k c_hs11_ d_hs8_
        have := eT d_h173_
        omega
      · obtain ⟨rfl, s1, s2, s3, s4⟩ := one_start T0 k c_hs11_ d_hs8_
        omega
      · obtain ⟨rfl, s1, s2, s3, s4⟩ := one_start T0 k c_hs11_ d_hs8_
        omega
      · obtain ⟨rfl, s1, s2, s3, s4⟩ := one_start T0 k c_hs11_ d_hs8_
        have := eT d_e268_
        have := s2.2.1
        omega
      · obtain ⟨rfl, s1, s2, s3, s4⟩ := one_start T0 k c_hs11_ d_hs8_
        omega
      · obtain ⟨rfl, s1, s2, s3, s4⟩ := one_start T0 k c_hs11_ d_hs8_
        rw [c_hM_, d_hM_]
        exact PRX_pre (opened_both hA hB c_hs67_ d_hs310_ s1 s2 he (s4 (by omega)).1) s3
    · refine xE_SP_X12_one h2 (fun d_M2_ _ d_hF6_ d_r1_ d_hs8_ d_h11_ => ⟨(fun d_h12_ d_M17_ _ d_hF21_ d_hs23_ d_h24_ d_hM_ => ?_), (fun d_h12_ => ⟨(fun d_h26_ d_M31_ _ d_hF35_ d_hs37_ d_h38_ d_hM_ => ?_), (fun d_h26_ => ⟨(fun d_h40_ => ⟨(fun d_hs45_ d_h44_ d_v3_46 d_hv0_46 d_v2_46 d_hv1_46 d_M_46 d_hv2_46 d_hL_46 _ d_hF_46 => ⟨(fun d_h49_ d_h50_ d_M52_ _ d_hF56_ d_hs58_ d_h54_ d_z60_ d_e61_ d_z62_ d_h63_ d_M64_ d_hM65_ d_hM_ => ?_), (fun d_h49_ d_z70_ d_e71_ d_h72_ d_z73_ d_e74_ d_h75_ => ⟨(fun d_h76_ d_h77_ d_M79_ _ d_hF83_ d_hs85_ d_h81_ d_z87_ d_e88_ d_z89_ d_h90_ d_M91_ d_hM92_ d_hM_ => ?_), (fun d_h76_ d_z99_ d_h100_ d_j103_ d_h104_ d_z101_ d_e102_ d_hs109_ d_h108_ d_h139_ d_M141_ _ d_hF145_ d_hs147_ d_h143_ d_z149_ d_e150_ d_z151_ d_h152_ d_M153_ d_hM154_ d_hM_ => ?_)⟩)⟩), (fun d_hs45_ d_h44_ => ⟨(fun d_h160_ d_r165_ d_hs169_ d_h168_ d_z170_ d_e171_ d_h172_ d_h173_ => ⟨(fun d_h174_ d_M175_ d_hM176_ d_h182_ d_z185_ d_e186_ d_h187_ d_h188_ d_h189_ d_h190_ d_hM_ => ?_), (fun d_h174_ => ⟨(fun d_h191_ d_M192_ d_hM193_ d_z202_ d_e203_ d_h204_ d_h205_ d_h206_ d_h207_ d_z208_ d_h209_ _ d_M210_ _ d_hF214_ d_hs216_ d_z222_ d_e223_ d_z224_ d_h225_ d_M226_ d_hM227_ d_z236_ d_e237_ d_h238_ d_h239_ d_h240_ d_z241_ d_h242_ d_M243_ d_hM244_ d_h250_ d_hM_ => ?_), (fun d_h191_ d_M251_ d_hM252_ d_h258_ d_z261_ d_e262_ d_h263_ d_h264_ d_h265_ d_h266_ d_hM_ => ?_)⟩)⟩), (fun d_h160_ d_z267_ d_e268_ d_h269_ => ⟨(fun d_h270_ d_M271_ d_hM272_ d_h276_ d_z279_ d_e280_ d_h281_ d_h282_ d_h283_ d_h284_ d_hM_ => ?_), (fun d_h270_ d_M286_ d_hM287_ d_h291_ d_z294_ d_e295_ d_h296_ d_h297_ d_h298_ d_h299_ d_hM_ => ?_)⟩)⟩)⟩), (fun d_h40_ d_M304_ _ d_hF308_ d_hs310_ d_h311_ d_hM_ => ?_)⟩)⟩)⟩)
      · obtain ⟨rfl, s1, s2, s3, s4⟩ := one_start T0 k c_hs11_ d_hs8_
        omega
      · obtain ⟨rfl, s1, s2, s3, s4⟩ := one_start T0 k c_hs11_ d_hs8_
        omega
      · obtain ⟨rfl, s1, s2, s3, s4⟩ := one_start T0 k c_hs11_ d_hs8_
        have nb := number_both (w := (d_v3_46, d_v2_46, d_M_46)) (D0 := D) s1 s2 he c_hs76_ d_hL_46 d_h50_ (Or.inl d_h49_) d_hs58_ d_e61_ (show D2 = up d_M52_ (12, 0, 0) 12 (d_z60_ + (1 : Int32)) by rw [d_hM_, d_hM65_, d_h63_])
        rw [c_hM_]
        exact PRX_pre (C' := C) ⟨⟨nb.1, Or.inl nb.2.1⟩, nb.2.2⟩ s3
      · obtain ⟨rfl, s1, s2, s3, s4⟩ := one_start T0 k c_hs11_ d_hs8_
        have nb := number_both (w := (d_v3_46, d_v2_46, d_M_46)) (D0 := D) s1 s2 he c_hs76_ d_hL_46 d_h77_ (Or.inr ⟨d_h49_, Or.inl (by rw [← d_e71_, ← d_e74_]; exact d_h76_)⟩) d_hs85_ d_e88_ (show D2 = up d_M79_ (12, 0, 0) 12 (d_z87_ + (1 : Int32)) by rw [d_hM_, d_hM92_, d_h90_])
        rw [c_hM_]
        exact PRX_pre (C' := C) ⟨⟨nb.1, Or.inl nb.2.1⟩, nb.2.2⟩ s3
      · obtain ⟨rfl, s1, s2, s3, s4⟩ := one_start T0 k c_hs11_ d_hs8_
        have nb := number_both (w := (d_v3_46, d_v2_46, d_M_46)) (D0 := D) s1 s2 he c_hs76_ d_hL_46 d_h139_ (Or.inr ⟨d_h49_, Or.inr ⟨by rw [← d_e71_, ← d_e74_]; exact d_h76_, by rw [← d_e71_, show 273 + d_z70_.toInt.toNat = d_j103_ by omega, ← d_e102_]; exact d_h108_⟩⟩) d_hs147_ d_e150_ (show D2 = up d_M141_ (12, 0, 0) 12 (d_z149_ + (1 : Int32)) by rw [d_hM_, d_hM154_, d_h152_])
        rw [c_hM_]
        exact PRX_pre (C' := C) ⟨⟨nb.1, Or.inl nb.2.1⟩, nb.2.2⟩ s3
      · obtain ⟨rfl, s1, s2, s3, s4⟩ := one_start T0 k c_hs11_ d_hs8_
        have := eT d_h173_
        omega
      · obtain ⟨rfl, s1, s2, s3, s4⟩ := one_start T0 k c_hs11_ d_hs8_
        omega
      · obtain ⟨rfl, s1, s2, s3, s4⟩ := one_start T0 k c_hs11_ d_hs8_
        omega
      · obtain ⟨rfl, s1, s2, s3, s4⟩ := one_start T0 k c_hs11_ d_hs8_
        have := eT d_e268_
        have := s2.2.1
        omega
      · obtain ⟨rfl, s1, s2, s3, s4⟩ := one_start T0 k c_hs11_ d_hs8_
        omega
      · obtain ⟨rfl, s1, s2, s3, s4⟩ := one_start T0 k c_hs11_ d_hs8_
        omega
    · have := eT c_e2_
      omega
  · have k13 := k.2.1
    have c4 := k.1
    have cz : C2.1 (4, 0, 0) 4 = C.1 (4, 0, 0) 4 := by
      refine xE_SP_X4_readOne h1 (fun c_z1_ c_e2_ => ⟨(fun c_h3_ c_M5_ _ c_hF9_ c_r4_ c_hs11_ => ⟨(fun c_h15_ => ⟨(fun c_h16_ c_M17_ _ c_hF21_ c_hs23_ c_h19_ c_hM_ => ?_), (fun c_h16_ => ⟨(fun c_h26_ c_M27_ _ c_hF31_ c_hs33_ c_h29_ c_hM_ => ?_), (fun c_h26_ c_h36_ c_M37_ _ c_hF41_ c_hs43_ c_hM_ => ?_)⟩)⟩), (fun c_h15_ => ⟨(fun c_h47_ c_h48_ c_h49_ => ⟨(fun c_h50_ c_M51_ _ c_hF55_ c_hs57_ c_hM_ => ?_), (fun c_h50_ c_M61_ _ c_hF65_ c_hs67_ c_h63_ c_hM_ => ?_)⟩), (fun c_h47_ c_M70_ _ c_hF74_ c_hs76_ c_hM_ => ?_)⟩)⟩), (fun c_h3_ c_hM_ => ?_)⟩)
      · have := eT c_e2_
        omega
      · have := eT c_e2_
        omega
      · have := eT c_e2_
        omega
      · have := eT c_e2_
        omega
      · have := eT c_e2_
        omega
      · have := eT c_e2_
        omega
      · rw [c_hM_]
    have nh : ∀ {r1 : Int32} {M2 : mM} {s' : Int} {W' : Nat} {a' T' : Int}, SP_X12_here s' W' a' T' D r1 M2 → r1.toInt = -1 ∧ ∀ (c : rf) (k : Nat), M2.1 c k = D.1 c k := fun hh => by
      rcases x12here hh ab with g | g
      · exact g.2
      · exact absurd g.1 k13
    refine xE_SP_X12_one h2 (fun d_M2_ _ d_hF6_ d_r1_ d_hs8_ d_h11_ => ⟨(fun d_h12_ d_M17_ _ d_hF21_ d_hs23_ d_h24_ d_hM_ => ?_), (fun d_h12_ => ⟨(fun d_h26_ d_M31_ _ d_hF35_ d_hs37_ d_h38_ d_hM_ => ?_), (fun d_h26_ => ⟨(fun d_h40_ => ⟨(fun d_hs45_ d_h44_ d_v3_46 d_hv0_46 d_v2_46 d_hv1_46 d_M_46 d_hv2_46 d_hL_46 _ d_hF_46 => ⟨(fun d_h49_ d_h50_ d_M52_ _ d_hF56_ d_hs58_ d_h54_ d_z60_ d_e61_ d_z62_ d_h63_ d_M64_ d_hM65_ d_hM_ => ?_), (fun d_h49_ d_z70_ d_e71_ d_h72_ d_z73_ d_e74_ d_h75_ => ⟨(fun d_h76_ d_h77_ d_M79_ _ d_hF83_ d_hs85_ d_h81_ d_z87_ d_e88_ d_z89_ d_h90_ d_M91_ d_hM92_ d_hM_ => ?_), (fun d_h76_ d_z99_ d_h100_ d_j103_ d_h104_ d_z101_ d_e102_ d_hs109_ d_h108_ d_h139_ d_M141_ _ d_hF145_ d_hs147_ d_h143_ d_z149_ d_e150_ d_z151_ d_h152_ d_M153_ d_hM154_ d_hM_ => ?_)⟩)⟩), (fun d_hs45_ d_h44_ => ⟨(fun d_h160_ d_r165_ d_hs169_ d_h168_ d_z170_ d_e171_ d_h172_ d_h173_ => ⟨(fun d_h174_ d_M175_ d_hM176_ d_h182_ d_z185_ d_e186_ d_h187_ d_h188_ d_h189_ d_h190_ d_hM_ => ?_), (fun d_h174_ => ⟨(fun d_h191_ d_M192_ d_hM193_ d_z202_ d_e203_ d_h204_ d_h205_ d_h206_ d_h207_ d_z208_ d_h209_ _ d_M210_ _ d_hF214_ d_hs216_ d_z222_ d_e223_ d_z224_ d_h225_ d_M226_ d_hM227_ d_z236_ d_e237_ d_h238_ d_h239_ d_h240_ d_z241_ d_h242_ d_M243_ d_hM244_ d_h250_ d_hM_ => ?_), (fun d_h191_ d_M251_ d_hM252_ d_h258_ d_z261_ d_e262_ d_h263_ d_h264_ d_h265_ d_h266_ d_hM_ => ?_)⟩)⟩), (fun d_h160_ d_z267_ d_e268_ d_h269_ => ⟨(fun d_h270_ d_M271_ d_hM272_ d_h276_ d_z279_ d_e280_ d_h281_ d_h282_ d_h283_ d_h284_ d_hM_ => ?_), (fun d_h270_ d_M286_ d_hM287_ d_h291_ d_z294_ d_e295_ d_h296_ d_h297_ d_h298_ d_h299_ d_hM_ => ?_)⟩)⟩)⟩), (fun d_h40_ d_M304_ _ d_hF308_ d_hs310_ d_h311_ d_hM_ => ?_)⟩)⟩)⟩)
    · have g := nh d_hs8_
      omega
    · have g := nh d_hs8_
      omega
    · have g := nh d_hs8_
      omega
    · have g := nh d_hs8_
      omega
    · have g := nh d_hs8_
      omega
    · have g := nh d_hs8_
      omega
    · have g := nh d_hs8_
      omega
    · have g := nh d_hs8_
      omega
    · have g := nh d_hs8_
      rw [d_hM_] at T2 ⊢
      exact PBD_keep T2 k cz (by rw [zupE d_hM272_ rfl rfl, q1]; omega) (by rw [zupN d_hM272_ (by simp)]; exact g.2 _ _) (by rw [zupN d_hM272_ (by simp)]; exact g.2 _ _)
    · have g := nh d_hs8_
      rw [d_hM_] at T2 ⊢
      exact PBD_keep T2 k cz (by rw [zupE d_hM287_ rfl rfl, q1]; omega) (by rw [zupN d_hM287_ (by simp)]; exact g.2 _ _) (by rw [zupN d_hM287_ (by simp)]; exact g.2 _ _)
    · have g := nh d_hs8_
      omega
end
