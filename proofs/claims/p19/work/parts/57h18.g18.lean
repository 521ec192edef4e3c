/-! the two parses -/
def nxT (f : Nat → Int32) (N p q r : Int) : Prop := p ≤ q ∧ (∀ j : Nat, p ≤ (j : Int) → (j : Int) < q → (j : Int) < N ∧ (f (273 + j)).toInt = 32) ∧ ((q < N ∧ r = (f (273 + q.toNat)).toInt ∧ ¬ r = 32) ∨ (N ≤ q ∧ r = -1))
theorem nxT_lt {f : Nat → Int32} {N p q r q2 r2 : Int} (hp : 0 ≤ p) (h : nxT f N p q r) (g : nxT f N p q2 r2) : ¬ q < q2 := fun z => by
  have b := g.2.1 q.toNat (by have := h.1; omega) (by have := h.1; omega)
  rcases h.2.2 with a | a
  · rw [← a.2.1] at b; exact a.2.2 b.2
  · have := h.1; omega
theorem nxT_uniq {f : Nat → Int32} {N p q r q2 r2 : Int} (hp : 0 ≤ p) (h : nxT f N p q r) (g : nxT f N p q2 r2) : q = q2 ∧ r = r2 := by
  have e : q = q2 := by
    have a := nxT_lt hp h g
    have b := nxT_lt hp g h
    omega
  subst e
  refine ⟨rfl, ?_⟩
  rcases h.2.2 with a | a <;> rcases g.2.2 with b | b
  · rw [a.2.1, b.2.1]
  · omega
  · omega
  · rw [a.2, b.2]
theorem nxT_idem {f : Nat → Int32} {N p q r : Int} (h : nxT f N p q r) : nxT f N q q r := ⟨by omega, fun j a b => by omega, h.2.2⟩
/-- what both read -/
def TPE (C D : mM) : Prop := C.1 (5, 0, 0) 1 = D.1 (50, 0, 0) 4 ∧ (0 ≤ (D.1 (50, 0, 0) 4).toInt ∧ (D.1 (50, 0, 0) 4).toInt ≤ 48) ∧ (∀ i : Nat, (i : Int) < (D.1 (50, 0, 0) 4).toInt → C.1 (33, 0, 0) i = D.1 (50, 0, 0) (273 + i) ∧ 0 ≤ (D.1 (50, 0, 0) (273 + i)).toInt ∧ (D.1 (50, 0, 0) (273 + i)).toInt ≤ 255) ∧ (C.1 (4, 0, 0) 2).toInt = (D.1 (12, 0, 0) 10).toInt + 1 ∧ (0 ≤ (D.1 (12, 0, 0) 10).toInt ∧ (D.1 (12, 0, 0) 10).toInt ≤ 2)
theorem TPE_fr {C C2 D D2 : mM} (h : TPE C D) (hc : FR S_reader C C2) (hd : FR S_par D D2) : TPE C2 D2 := by
  have c1 : ∀ (c : rf) (k : Nat), c.1 = 5 ∨ c.1 = 33 ∨ (c.1 = 4 ∧ k = 2) → C2.1 c k = C.1 c k := fun c k q => hc c k (fun z => by simp only [S_reader, or_false] at z; omega)
  have d1 : ∀ (c : rf) (k : Nat), c.1 = 50 ∨ (c.1 = 12 ∧ k = 10) → D2.1 c k = D.1 c k := fun c k q => hd c k (fun z => by simp only [S_par, or_false] at z; omega)
  unfold TPE
  rw [c1 _ _ (by simp), c1 (4, 0, 0) 2 (by simp), d1 (50, 0, 0) 4 (by simp), d1 (12, 0, 0) 10 (by simp)]
  refine ⟨h.1, h.2.1, fun i hi => ?_, h.2.2.2⟩
  rw [c1 _ _ (by simp), d1 _ _ (by simp)]
  exact h.2.2.1 i hi
theorem x5get {v r : Int32} {M : mM} (h : SP_X5_get 0 0 v M r) (hv : 0 ≤ v.toInt ∧ v.toInt < (M.1 (5, 0, 0) 1).toInt) (h48 : (M.1 (5, 0, 0) 1).toInt ≤ 48) : r = M.1 (33, 0, 0) v.toInt.toNat := by
  have rl0 : ((rl 0 : Nat) : Int) = 48 := by decide
  refine xE_SP_X5_get h ⟨(fun h1_ hr_ => ?_), (fun h1_ z2_ e3_ => ⟨(fun h4_ hr_ => ?_), (fun h4_ z5_ h6_ => ⟨(fun h7_ hr_ => ?_), (fun h7_ j10_ h11_ z8_ e9_ hr_ => ?_)⟩)⟩)⟩
  · omega
  · have := eT e3_; omega
  · have := eT e3_; omega
  · obtain rfl : j10_ = v.toInt.toNat := by omega
    rw [hr_, e9_]
theorem x4next {C C2 D : mM} {r : Int32} (h : SP_X4_next C r C2) (hT : TPE C D) (hp : 0 ≤ (C.1 (4, 0, 0) 3).toInt ∧ (C.1 (4, 0, 0) 3).toInt ≤ (D.1 (50, 0, 0) 4).toInt) : nxT (D.1 (50, 0, 0)) (D.1 (50, 0, 0) 4).toInt (C.1 (4, 0, 0) 3).toInt (C2.1 (4, 0, 0) 3).toInt r.toInt ∧ (C2.1 (4, 0, 0) 3).toInt ≤ (D.1 (50, 0, 0) 4).toInt ∧ ∀ (c : rf) (k : Nat), ¬ (c = (4, 0, 0) ∧ k = 3) → C2.1 c k = C.1 c k := by
  have i32 : (32 : Int32).toInt = 32 := by decide
  have im := il_m1
  have hc := eT hT.1
  have hb := hT.2.1
  refine xE_SP_X4_next h (fun M_0 hL_0 _ hF_0 z2_ e3_ z4_ e5_ => ?_)
  have g := rind hL_0 (fun z => (C.1 (4, 0, 0) 3).toInt ≤ (z.1 (4, 0, 0) 3).toInt ∧ (z.1 (4, 0, 0) 3).toInt ≤ (D.1 (50, 0, 0) 4).toInt ∧ (∀ j : Nat, (C.1 (4, 0, 0) 3).toInt ≤ (j : Int) → (j : Int) < (z.1 (4, 0, 0) 3).toInt → (j : Int) < (D.1 (50, 0, 0) 4).toInt ∧ (D.1 (50, 0, 0) (273 + j)).toInt = 32) ∧ ∀ (c : rf) (k : Nat), ¬ (c = (4, 0, 0) ∧ k = 3) → z.1 c k = C.1 c k) ⟨Int.le_refl _, hp.2, fun j a b => by omega, fun _ _ _ => rfl⟩ (fun x z p st => by
    (try dsimp only at p st ⊢)
    obtain ⟨p1, p2, p3, p4⟩ := p
    refine xE_ST_X4_next_0 st (fun _ k_hF_0 k_z2_ k_e3_ k_z4_ k_e5_ k_h6_ k_r21_ k_hs25_ k_h26_ k_z41_ k_h42_ k_M43_ k_hM44_ k_hM_ => ?_)
    have c5 : x.1 (5, 0, 0) 1 = C.1 (5, 0, 0) 1 := p4 _ _ (by simp)
    have y1 := eT k_e3_
    have y2 := eT k_e5_
    rw [c5] at y2
    have ge := x5get k_hs25_ (by rw [c5]; omega) (by rw [c5]; omega)
    have cell := hT.2.2.1 k_z2_.toInt.toNat (by omega)
    rw [ge, p4 _ _ (by simp), cell.1] at k_h26_
    rw [k_hM_, zupE k_hM44_ rfl rfl]
    refine ⟨by omega, by omega, fun j a b => ?_, fun c k q => by rw [zupN k_hM44_ q]; exact p4 c k q⟩
    by_cases e : (j : Int) = k_z2_.toInt
    · rw [show j = k_z2_.toInt.toNat by omega]
      exact ⟨by omega, k_h26_⟩
    · exact p3 j a (by omega))
  (try dsimp only at g)
  obtain ⟨g1, g2, g3, g4⟩ := g
  have y1 := eT e3_
  have y2 := eT e5_
  rw [g4 _ _ (by simp)] at y2
  refine ⟨(fun h6_ => ⟨(fun h11_ hr_ hM_ => ?_), (fun h11_ r14_ hs18_ hr_ hM_ => ?_)⟩), (fun h6_ r21_ hs25_ h26_ => ⟨(fun h31_ hr_ hM_ => ?_), (fun h31_ r34_ hs38_ hr_ hM_ => ?_)⟩)⟩
  all_goals
    rw [hM_]
    refine ⟨⟨g1, g3, ?_⟩, g2, g4⟩
  · have := eT hr_; right; omega
  · omega
  · omega
  · have ge := x5get hs25_ (by rw [g4 _ _ (by simp)]; omega) (by rw [g4 _ _ (by simp)]; omega)
    have ge2 := x5get hs38_ (by rw [g4 _ _ (by simp)]; omega) (by rw [g4 _ _ (by simp)]; omega)
    have cell := hT.2.2.1 z2_.toInt.toNat (by omega)
    rw [ge, g4 _ _ (by simp), cell.1] at h26_
    left
    refine ⟨by omega, ?_, ?_⟩
    · rw [hr_, ge2, g4 _ _ (by simp), cell.1, show z2_.toInt.toNat = (M_0.1 (4, 0, 0) 3).toInt.toNat by omega]
    · rw [hr_, ge2, g4 _ _ (by simp), cell.1]; exact h26_
theorem x12here {s : Int} {W : Nat} {a T : Int} {D D2 : mM} {r : Int32} (h : SP_X12_here s W a T D r D2) (hp : 0 ≤ (D.1 (12, 0, 0) 9).toInt ∧ (D.1 (12, 0, 0) 9).toInt ≤ (D.1 (50, 0, 0) 4).toInt) :
    (¬ (D.1 (12, 0, 0) 13).toInt = 0 ∧ r.toInt = -1 ∧ (∀ (c : rf) (k : Nat), D2.1 c k = D.1 c k)) ∨ ((D.1 (12, 0, 0) 13).toInt = 0 ∧ nxT (D.1 (50, 0, 0)) (D.1 (50, 0, 0) 4).toInt (D.1 (12, 0, 0) 9).toInt (D2.1 (12, 0, 0) 9).toInt r.toInt ∧ (D2.1 (12, 0, 0) 9).toInt ≤ (D.1 (50, 0, 0) 4).toInt ∧ ∀ (c : rf) (k : Nat), ¬ (c = (12, 0, 0) ∧ k = 9) → D2.1 c k = D.1 c k) := by
  have im := il_m1
  refine xE_SP_X12_here h (fun M_0 hL_0 _ hF_0 z2_ e3_ h4_ => ?_)
  have g := rind hL_0 (fun z => (D.1 (12, 0, 0) 9).toInt ≤ (z.1 (12, 0, 0) 9).toInt ∧ (z.1 (12, 0, 0) 9).toInt ≤ (D.1 (50, 0, 0) 4).toInt ∧ (∀ j : Nat, (D.1 (12, 0, 0) 9).toInt ≤ (j : Int) → (j : Int) < (z.1 (12, 0, 0) 9).toInt → (j : Int) < (D.1 (50, 0, 0) 4).toInt ∧ (D.1 (50, 0, 0) (273 + j)).toInt = 32) ∧ (∀ (c : rf) (k : Nat), ¬ (c = (12, 0, 0) ∧ k = 9) → z.1 c k = D.1 c k) ∧ (¬ (D.1 (12, 0, 0) 13).toInt = 0 → ∀ (c : rf) (k : Nat), z.1 c k = D.1 c k)) ⟨Int.le_refl _, hp.2, fun j a b => by omega, fun _ _ _ => rfl, fun _ _ _ => rfl⟩ (fun x z p st => by
    (try dsimp only at p st ⊢)
    obtain ⟨p1, p2, p3, p4, p5⟩ := p
    refine xE_ST_X12_here_0 st (fun _ k_hF_0 k_z2_ k_e3_ k_h4_ k_h5_ k_z9_ k_e10_ k_h11_ k_z12_ k_e13_ k_h14_ k_h15_ k_z35_ k_h36_ k_j39_ k_h40_ k_z37_ k_e38_ k_h41_ k_z61_ k_h62_ k_M63_ k_hM64_ k_h68_ k_hM_ => ?_)
    have y0 := eT k_e3_
    rw [p4 _ _ (by simp)] at y0
    have y1 := eT k_e10_
    have y2 := eT k_e13_
    rw [p4 _ _ (by simp)] at y2
    rw [k_e38_, p4 _ _ (by simp)] at k_h41_
    rw [k_hM_, zupE k_hM64_ rfl rfl]
    refine ⟨by omega, by omega, fun j a b => ?_, fun c k q => by rw [zupN k_hM64_ q]; exact p4 c k q, fun q => absurd (by omega) q⟩
    by_cases e : (j : Int) = k_z9_.toInt
    · rw [show 273 + j = k_j39_ by omega]
      exact ⟨by omega, k_h41_⟩
    · exact p3 j a (by omega))
  (try dsimp only at g)
  obtain ⟨g1, g2, g3, g4, g5⟩ := g
  have y0 := eT e3_
  rw [g4 _ _ (by simp)] at y0
  refine ⟨(fun h5_ h8_ hr_ hM_ => ?_), (fun h5_ z9_ e10_ h11_ z12_ e13_ h14_ => ⟨(fun h15_ h18_ z21_ e22_ h23_ => ⟨(fun h24_ hr_ hM_ => ?_), (fun h24_ z27_ h28_ j31_ h32_ z29_ e30_ hr_ hM_ => ?_)⟩), (fun h15_ z35_ h36_ j39_ h40_ z37_ e38_ h41_ h44_ z47_ e48_ h49_ => ⟨(fun h50_ hr_ hM_ => ?_), (fun h50_ z53_ h54_ j57_ h58_ z55_ e56_ hr_ hM_ => ?_)⟩)⟩)⟩
  all_goals
    rw [hM_]
  · left
    exact ⟨by omega, by rw [hr_]; exact im, g5 (by omega)⟩
  all_goals
    right
    have y1 := eT e10_
    have y2 := eT e13_
    rw [g4 _ _ (by simp)] at y2
    refine ⟨by omega, ⟨g1, g3, ?_⟩, g2, g4⟩
  · have := eT hr_; right; omega
  · have y3 := eT e22_
    rw [g4 _ _ (by simp)] at y3
    omega
  · have y3 := eT e48_
    rw [g4 _ _ (by simp)] at y3
    omega
  · left
    have e1 : z37_ = z55_ := by rw [e38_, e56_, show j39_ = j57_ by omega]
    rw [e1] at h41_
    refine ⟨by omega, ?_, by rw [hr_]; exact h41_⟩
    rw [hr_, e56_, g4 _ _ (by simp), show j57_ = 273 + (M_0.1 (12, 0, 0) 9).toInt.toNat by omega]
theorem x12takes {v : Int32} {s : Int} {W : Nat} {a T : Int} {D D2 : mM} {r : Int32} (h : SP_X12_takes v s W a T D r D2) (hv : 0 ≤ v.toInt) (hp : 0 ≤ (D.1 (12, 0, 0) 9).toInt ∧ (D.1 (12, 0, 0) 9).toInt ≤ (D.1 (50, 0, 0) 4).toInt) :
    (∀ (c : rf) (k : Nat), ¬ (c = (12, 0, 0) ∧ k = 9) → D2.1 c k = D.1 c k) ∧ ((¬ (D.1 (12, 0, 0) 13).toInt = 0 ∧ r.toInt = 0 ∧ (D2.1 (12, 0, 0) 9).toInt = (D.1 (12, 0, 0) 9).toInt) ∨ ((D.1 (12, 0, 0) 13).toInt = 0 ∧ ∃ q c : Int, nxT (D.1 (50, 0, 0)) (D.1 (50, 0, 0) 4).toInt (D.1 (12, 0, 0) 9).toInt q c ∧ q ≤ (D.1 (50, 0, 0) 4).toInt ∧ ((c = v.toInt ∧ r.toInt = 1 ∧ (D2.1 (12, 0, 0) 9).toInt = q + 1) ∨ (¬ c = v.toInt ∧ r.toInt = 0 ∧ (D2.1 (12, 0, 0) 9).toInt = q)))) := by
  have q0 := il_0
  have q1 := il_1
  refine xE_SP_X12_takes h (fun M2_ _ hF6_ r1_ hs8_ h10_ => ⟨(fun h11_ z12_ e13_ h14_ z16_ h17_ M18_ hM19_ h22_ hr_ hM_ => ?_), (fun h11_ z27_ e28_ h29_ h30_ h31_ z33_ h34_ M35_ hM36_ h40_ hr_ hM_ => ?_)⟩)
  · have y := eT e13_
    have yr := eT hr_
    rcases x12here hs8_ hp with g | g
    · refine ⟨fun c k q => by rw [hM_, zupN hM19_ q]; exact g.2.2 c k, Or.inl ⟨g.1, by omega, ?_⟩⟩
      rw [hM_, zupE hM19_ rfl rfl, h17_, y, g.2.2]; omega
    · refine ⟨fun c k q => by rw [hM_, zupN hM19_ q]; exact g.2.2.2 c k q, Or.inr ⟨g.1, (M2_.1 (12, 0, 0) 9).toInt, r1_.toInt, g.2.1, g.2.2.1, Or.inr ⟨h11_, by omega, ?_⟩⟩⟩
      rw [hM_, zupE hM19_ rfl rfl, h17_, y]; omega
  · have y := eT e28_
    have yr := eT hr_
    rcases x12here hs8_ hp with g | g
    · omega
    · refine ⟨fun c k q => by rw [hM_, zupN hM36_ q]; exact g.2.2.2 c k q, Or.inr ⟨g.1, (M2_.1 (12, 0, 0) 9).toInt, r1_.toInt, g.2.1, g.2.2.1, Or.inl ⟨h11_, by omega, ?_⟩⟩⟩
      rw [hM_, zupE hM36_ rfl rfl, h34_, y]
theorem x4fail {C C2 : mM} (h : SP_X4_fail C C2) : (0 ≤ (C.1 (4, 0, 0) 4).toInt ∧ C2 = C) ∨ ((C.1 (4, 0, 0) 4).toInt < 0 ∧ C2 = up C (4, 0, 0) 4 (C.1 (4, 0, 0) 3)) := by
  refine xE_SP_X4_fail h (fun z1_ e2_ => ⟨(fun h3_ hM_ => ?_), (fun h3_ z4_ e5_ M6_ hM7_ hM_ => ?_)⟩)
  · have := eT e2_; exact Or.inl ⟨by omega, hM_⟩
  · have := eT e2_; exact Or.inr ⟨by omega, by rw [hM_, hM7_, e5_]⟩
theorem x1add {v : Int32} {C C2 : mM} (h : SP_X1_add 3 0 v C C2) (hs : 0 ≤ (C.1 (1, 3, 0) 2).toInt ∧ (C.1 (1, 3, 0) 2).toInt < 48) : (C2.1 (1, 3, 0) 2).toInt = (C.1 (1, 3, 0) 2).toInt + 1 ∧ C2.1 (24, 3, 0) = upd (C.1 (24, 3, 0)) (C.1 (1, 3, 0) 2).toInt.toNat v ∧ ∀ (c : rf) (k : Nat), ¬ c = (24, 3, 0) → ¬ (c = (1, 3, 0) ∧ k = 2) → C2.1 c k = C.1 c k := by
  refine xE_SP_X1_add h (fun z1_ e2_ => ⟨(fun h3_ hM_ => ?_), (fun h3_ => ⟨(fun h6_ hM_ => ?_), (fun h6_ j11_ h12_ M9_ hM10_ z15_ e16_ z17_ h18_ M19_ hM20_ hM_ => ?_)⟩)⟩)
  · have := eT e2_; omega
  · have := eT e2_; omega
  · have y := eT e2_
    obtain rfl : j11_ = z1_.toInt.toNat := by omega
    have e15 : z15_ = z1_ := by rw [e16_, zupR hM10_ (by simp), e2_]
    rw [e15] at h18_
    have ez := add1 h18_ (by omega)
    refine ⟨?_, ?_, fun c k q1 q2 => ?_⟩
    · rw [hM_, zupE hM20_ rfl rfl]; omega
    · rw [hM_, hM20_, up_other _ _ (by simp), hM10_, up_row, e2_]
    · rw [hM_, zupN hM20_ q2, hM10_, up_other _ _ q1]
theorem x1addF {v : Int32} {C C2 : mM} (h : SP_X1_add 3 0 v C C2) : C2.1 (4, 0, 0) = C.1 (4, 0, 0) := by
  refine xE_SP_X1_add h (fun z1_ e2_ => ⟨(fun h3_ hM_ => ?_), (fun h3_ => ⟨(fun h6_ hM_ => ?_), (fun h6_ j11_ h12_ M9_ hM10_ z15_ e16_ z17_ h18_ M19_ hM20_ hM_ => ?_)⟩)⟩)
  · rw [hM_]
  · rw [hM_]
  · rw [hM_, hM20_, up_other _ _ (by simp), hM10_, up_other _ _ (by simp)]
theorem x12codes {v : Int32} {s : Int} {W : Nat} {a T : Int} {E : Nat} {D D2 : mM} (h : SP_X12_codes v s W a T E D D2) : (¬ (D.1 (12, 0, 0) 13).toInt = 0 ∧ D2 = D) ∨ ((D.1 (12, 0, 0) 13).toInt = 0 ∧ (D2.1 (12, 0, 0) 14).toInt = (D.1 (12, 0, 0) 14).toInt + 1 ∧ D2.1 (57, 0, 0) = upd (D.1 (57, 0, 0)) (D.1 (12, 0, 0) 14).toInt.toNat v ∧ ∀ (c : rf) (k : Nat), ¬ c = (57, 0, 0) → ¬ (c = (12, 0, 0) ∧ k = 14) → D2.1 c k = D.1 c k) := by
  refine xE_SP_X12_codes h (fun z2_ e3_ h4_ => ⟨(fun h5_ hM_ => ?_), (fun h5_ z6_ e7_ h8_ h9_ j13_ h14_ M11_ hM12_ z19_ e20_ h21_ h22_ h23_ z24_ h25_ M26_ hM27_ h30_ hM_ => ?_)⟩)
  · have := eT e3_; exact Or.inl ⟨by omega, hM_⟩
  · have y0 := eT e3_
    have y1 := eT e7_
    obtain rfl : j13_ = z6_.toInt.toNat := by omega
    refine Or.inr ⟨by omega, ?_, ?_, fun c k q1 q2 => ?_⟩
    · rw [hM_, zupE hM27_ rfl rfl]; omega
    · rw [hM_, hM27_, up_other _ _ (by simp), hM12_, up_row, e7_]
    · rw [hM_, zupN hM27_ q2, hM12_, up_other _ _ q1]
/-- both alike: not wrong so far; or wrong at one place -/
def POK (e : Int) (C D : mM) : Prop := (C.1 (4, 0, 0) 4).toInt < 0 ∧ (D.1 (12, 0, 0) 13).toInt = 0 ∧ (C.1 (4, 0, 0) 3).toInt = (D.1 (12, 0, 0) 9).toInt ∧ (0 ≤ (D.1 (12, 0, 0) 9).toInt ∧ (D.1 (12, 0, 0) 9).toInt ≤ (D.1 (50, 0, 0) 4).toInt) ∧ (C.1 (4, 0, 0) 6 = D.1 (12, 0, 0) 12 ∧ 0 ≤ (D.1 (12, 0, 0) 12).toInt ∧ (D.1 (12, 0, 0) 12).toInt ≤ (D.1 (12, 0, 0) 14).toInt) ∧ (C.1 (1, 3, 0) 2).toInt = (D.1 (12, 0, 0) 14).toInt ∧ 0 ≤ (D.1 (12, 0, 0) 14).toInt ∧ (D.1 (12, 0, 0) 14).toInt ≤ (D.1 (12, 0, 0) 9).toInt + e ∧ (C.1 (4, 0, 0) 5).toInt = (D.1 (12, 0, 0) 11).toInt ∧
  ∀ i : Nat, (i : Int) < (D.1 (12, 0, 0) 14).toInt → (C.1 (24, 3, 0) i).toInt = cmI (D.1 (57, 0, 0) i).toInt ∧ cOK (nnU (D.1 (12, 0, 0) 10).toInt.toNat) (D.1 (57, 0, 0) i)
def PBD (C D : mM) : Prop := 0 ≤ (C.1 (4, 0, 0) 4).toInt ∧ ¬ (D.1 (12, 0, 0) 13).toInt = 0 ∧ (C.1 (4, 0, 0) 4).toInt = (D.1 (12, 0, 0) 9).toInt ∧ (D.1 (12, 0, 0) 9).toInt ≤ (D.1 (50, 0, 0) 4).toInt
def PRL (e : Int) (C D : mM) : Prop := TPE C D ∧ (POK e C D ∨ PBD C D)
theorem PRL_at {e : Int} {C D : mM} (h : PRL e C D) : 0 ≤ (D.1 (12, 0, 0) 9).toInt ∧ (D.1 (12, 0, 0) 9).toInt ≤ (D.1 (50, 0, 0) 4).toInt := by
  rcases h.2 with h | h
  · exact h.2.2.2.1
  · unfold PBD at h; omega
theorem POK_mono {e e2 : Int} {C D : mM} (h : POK e C D) (he : e ≤ e2) : POK e2 C D := by
  obtain ⟨h1, h2, h3, h4, h5, h6, h7, h8, h9, h10⟩ := h
  exact ⟨h1, h2, h3, h4, h5, h6, h7, by omega, h9, h10⟩
/-- one more code on both sides -/
theorem POK_code {e : Int} {C C2 D D2 : mM} {v w : Int32} {s : Int} {W : Nat} {a T : Int} {E : Nat} (h : POK e C D) (h48 : (D.1 (50, 0, 0) 4).toInt ≤ 48) (he : e < 0) (hc : SP_X1_add 3 0 v C C2) (hd : SP_X12_codes w s W a T E D D2) (hv : v.toInt = cmI w.toInt) (hw : cOK (nnU (D.1 (12, 0, 0) 10).toInt.toNat) w) : POK (e + 1) C2 D2 := by
  obtain ⟨h1, h2, h3, h4, h5, h6, h7, h8, h9, h10⟩ := h
  obtain ⟨c1, c2, c3⟩ := x1add hc (by omega)
  rcases x12codes hd with d | ⟨-, d1, d2, d3⟩
  · exact absurd h2 d.1
  · have k : ∀ j, ¬ j = 14 → D2.1 (12, 0, 0) j = D.1 (12, 0, 0) j := fun j hj => d3 _ _ (by simp) (fun z => hj z.2)
    have kc : ∀ j, C2.1 (4, 0, 0) j = C.1 (4, 0, 0) j := fun j => c3 _ _ (by simp) (fun z => by simp at z)
    unfold POK
    rw [kc, kc, kc, kc, k 13 (by omega), k 9 (by omega), k 12 (by omega), k 11 (by omega), k 10 (by omega), d3 (50, 0, 0) 4 (by simp) (by simp)]
    refine ⟨h1, h2, h3, h4, ⟨h5.1, h5.2.1, by omega⟩, by omega, by omega, by omega, h9, fun i hi => ?_⟩
    rw [c2, d2, show (C.1 (1, 3, 0) 2).toInt.toNat = (D.1 (12, 0, 0) 14).toInt.toNat by omega]
    by_cases z : i = (D.1 (12, 0, 0) 14).toInt.toNat
    · rw [updE z, updE z]; exact ⟨hv, hw⟩
    · rw [updN z, updN z]; exact h10 i (by omega)

