section
/-! posts(): who would hear whom, which posts -/
theorem or0 (x : Int32) : x ||| (0 : Int32) = x := b_extL (fun i _ => by rw [b_or, b_0, Bool.or_false])
theorem and0 (x : Int32) : ((0 : Int32) &&& x).toInt = 0 := by
  have e : (0 : Int32) &&& x = 0 := b_extL (fun i _ => by rw [b_and, b_0, Bool.false_and])
  rw [e]; rfl
theorem andc (x y : Int32) : x &&& y = y &&& x := b_extL (fun i _ => by rw [b_and, b_and, Bool.and_comm])
def pcS (v : Int32) : Nat → Int
  | 0 => 0
  | k + 1 => pcS v k + ((v >>> (nI k &&& 31)) &&& (1 : Int32)).toInt
def JI5 (v : Int32) : Int32 := v - (iushrX v (1 : Int32) &&& (1431655765 : Int32))
def JI13 (v : Int32) : Int32 := (JI5 v &&& (858993459 : Int32)) + (iushrX (JI5 v) (2 : Int32) &&& (858993459 : Int32))
def JI19 (v : Int32) : Int32 := (JI13 v + iushrX (JI13 v) (4 : Int32)) &&& (252645135 : Int32)
def JI23 (v : Int32) : Int32 := JI19 v + iushrX (JI19 v) (8 : Int32)
def JIF (v : Int32) : Int32 := (JI23 v + iushrX (JI23 v) (16 : Int32)) &&& (63 : Int32)
theorem jiF {v r : Int32} {M : mM} (h : SP_JI_bitCount v M r) : r = JIF v := by
  refine xE_SP_JI_bitCount h (fun z1_ h2_ z3_ h4_ z5_ h6_ z7_ h8_ z9_ h10_ z11_ h12_ z13_ h14_ z15_ h16_ z17_ h18_ z19_ h20_ z21_ h22_ z23_ h24_ z25_ h26_ z27_ h28_ z29_ h31_ h30_ hr_ => ?_)
  have a5 : z5_ = JI5 v := by rw [h6_, h4_, h2_]; rfl
  have a13 : z13_ = JI13 v := by rw [h14_, h8_, h12_, h10_, a5]; rfl
  have a19 : z19_ = JI19 v := by rw [h20_, h18_, h16_, a13]; rfl
  have a23 : z23_ = JI23 v := by rw [h24_, h22_, a19]; rfl
  rw [hr_, h31_, h28_, h26_, a23]; rfl
theorem ji_tab : ∀ k : Nat, k < 256 → (JIF (nI k)).toInt = pcS (nI k) 8 := by decide +kernel
theorem jiP {v r : Int32} {M : mM} (h : SP_JI_bitCount v M r) (hv : 0 ≤ v.toInt ∧ v.toInt ≤ 255) : r.toInt = pcS v 8 := by
  have e : v = nI v.toInt.toNat := nI_of_toInt (by omega)
  have t := ji_tab v.toInt.toNat (by omega)
  rw [← e] at t
  rw [jiF h]
  exact t
theorem bitsP {v r : Int32} {M : mM} (h : SP_X12_bits v M r) : r.toInt = pcS v 8 := by
  have q0 := il_0
  refine xE_SP_X12_bits h (fun v2_4 hv0_4 hv1_4 v1_4 hL_4 h2_ hr_ => ?_)
  have g := rind hL_4 (fun z => (0 ≤ z.1.toInt ∧ z.1.toInt ≤ 8) ∧ z.2.toInt = pcS v z.1.toInt.toNat ∧ 0 ≤ pcS v z.1.toInt.toNat ∧ pcS v z.1.toInt.toNat ≤ z.1.toInt) (by
    (try dsimp only)
    rw [q0]
    exact ⟨by omega, rfl, Int.le_refl 0, Int.le_refl 0⟩) (fun x z p st => by
    (try dsimp only at p st ⊢)
    obtain ⟨p1, p2, p3, p4⟩ := p
    refine xE_ST_X12_bits_4 st (fun k_hv0_4 k_hv1_4 k_h2_ k_z3_ k_h4_ k_z5_ k_h7_ k_h6_ k_z8_ k_h9_ k_z10_ k_h11_ k_hq_v2_4y k_hq_v1_4y => ?_)
    have e := eT k_hq_v2_4y
    have e1 := eT k_hq_v1_4y
    have en : x.1 = nI x.1.toInt.toNat := nI_of_toInt (by omega)
    have s1 : pcS v (x.1.toInt.toNat + 1) = pcS v x.1.toInt.toNat + k_z5_.toInt := by
      rw [k_h7_, k_h4_]
      show pcS v x.1.toInt.toNat + ((v >>> (nI x.1.toInt.toNat &&& 31)) &&& (1 : Int32)).toInt = _
      rw [← en]
    have s2 : k_z8_.toInt = x.2.toInt + k_z5_.toInt := by rw [k_h9_]; exact addI rfl rfl (by omega) (by omega)
    rw [show z.1.toInt.toNat = x.1.toInt.toNat + 1 by omega, s1]
    exact ⟨by omega, by omega, by omega, by omega⟩)
  (try dsimp only at g)
  rw [hr_, g.2.1, show v2_4.toInt.toNat = 8 by omega]
/-! rays -/
theorem sd8 {s : Int} (h : 0 ≤ s ∧ s ≤ 7) : (s = 0 ∧ dxI s = 0 ∧ dyI s = -1) ∨ (s = 1 ∧ dxI s = 1 ∧ dyI s = -1) ∨ (s = 2 ∧ dxI s = 1 ∧ dyI s = 0) ∨ (s = 3 ∧ dxI s = 1 ∧ dyI s = 1) ∨ (s = 4 ∧ dxI s = 0 ∧ dyI s = 1) ∨ (s = 5 ∧ dxI s = -1 ∧ dyI s = 1) ∨ (s = 6 ∧ dxI s = -1 ∧ dyI s = 0) ∨ (s = 7 ∧ dxI s = -1 ∧ dyI s = -1) := by
  rcases side8 h with rfl | rfl | rfl | rfl | rfl | rfl | rfl | rfl
  all_goals decide
theorem on_xy {c s y : Int} (h : 0 ≤ onI c s y) : onI c s y % 16 = c % 16 + y * dxI s ∧ onI c s y / 16 = c / 16 + y * dyI s := by
  unfold onI at h ⊢
  by_cases q : 0 ≤ c % 16 + y * dxI s ∧ c % 16 + y * dxI s ≤ 15 ∧ 0 ≤ c / 16 + y * dyI s ∧ c / 16 + y * dyI s ≤ 11
  · rw [if_pos q]
    omega
  · rw [if_neg q] at h
    omega
theorem on_inj {c s y s' y' : Int} (hs : 0 ≤ s ∧ s ≤ 7) (hs' : 0 ≤ s' ∧ s' ≤ 7) (hy : 1 ≤ y) (hy' : 1 ≤ y') (h : 0 ≤ onI c s y) (e : onI c s y = onI c s' y') : s = s' ∧ y = y' := by
  have a := on_xy h
  have b := on_xy (c := c) (s := s') (y := y') (by omega)
  rw [← e] at b
  have e1 : y * dxI s = y' * dxI s' := by omega
  have e2 : y * dyI s = y' * dyI s' := by omega
  clear a b h e
  rcases sd8 hs with ⟨p1, p2, p3⟩ | ⟨p1, p2, p3⟩ | ⟨p1, p2, p3⟩ | ⟨p1, p2, p3⟩ | ⟨p1, p2, p3⟩ | ⟨p1, p2, p3⟩ | ⟨p1, p2, p3⟩ | ⟨p1, p2, p3⟩
  all_goals (
    rw [p2] at e1
    rw [p3] at e2
    rcases sd8 hs' with ⟨r1, r2, r3⟩ | ⟨r1, r2, r3⟩ | ⟨r1, r2, r3⟩ | ⟨r1, r2, r3⟩ | ⟨r1, r2, r3⟩ | ⟨r1, r2, r3⟩ | ⟨r1, r2, r3⟩ | ⟨r1, r2, r3⟩)
  all_goals (
    rw [r2] at e1
    rw [r3] at e2
    omega)
def HIT (F : Int → Prop) (c t R s y : Int) : Prop := (1 ≤ y ∧ y ≤ R) ∧ (∀ j : Int, 1 ≤ j → j ≤ y → 0 ≤ onI c s j ∧ F (onI c s j)) ∧ onI c s y = t
def HRD (n : Nat → Int32) (w : Nat) (s y : Int) : Prop := heS n (earsI (n (180 + 9 * w)).toInt) 1 (n (183 + 9 * w)) (n (184 + 9 * w)) (Int32.ofInt s) (Int32.ofInt y)
def RES (n : Nat → Int32) (F : Int → Prop) (w : Nat) (c t k : Int) : Prop := ∃ s y : Int, (0 ≤ s ∧ s < k) ∧ HIT F c t (reachI (n (180 + 9 * w)).toInt) s y ∧ HRD n w s y
def RESi (n : Nat → Int32) (F : Int → Prop) (w : Nat) (c t k m : Int) : Prop := RES n F w c t k ∨ ∃ y : Int, y < m ∧ HIT F c t (reachI (n (180 + 9 * w)).toInt) k y ∧ HRD n w k y
theorem HIT_inj {F : Int → Prop} {c t R s y s' y' : Int} (hs : 0 ≤ s ∧ s ≤ 7) (hs' : 0 ≤ s' ∧ s' ≤ 7) (h : HIT F c t R s y) (g : HIT F c t R s' y') : s = s' ∧ y = y' :=
  on_inj hs hs' h.1.1 g.1.1 (h.2.1 y h.1.1 (Int.le_refl _)).1 (h.2.2.trans g.2.2.symm)
theorem RESi_no {n : Nat → Int32} {F : Int → Prop} {w : Nat} {c t k m m' : Int} (e : m' = m + 1) (hno : ¬ HIT F c t (reachI (n (180 + 9 * w)).toInt) k m) : RESi n F w c t k m' ↔ RESi n F w c t k m := by
  constructor
  · rintro (h | ⟨y, h1, h2, h3⟩)
    · exact Or.inl h
    · by_cases q : y = m
      · rw [q] at h2
        exact absurd h2 hno
      · exact Or.inr ⟨y, by omega, h2, h3⟩
  · rintro (h | ⟨y, h1, h2, h3⟩)
    · exact Or.inl h
    · exact Or.inr ⟨y, by omega, h2, h3⟩
theorem RESi_yes {n : Nat → Int32} {F : Int → Prop} {w : Nat} {c t k m m' : Int} (e : m' = m + 1) (hk : 0 ≤ k ∧ k ≤ 7) (hit : HIT F c t (reachI (n (180 + 9 * w)).toInt) k m) : RESi n F w c t k m' ↔ HRD n w k m := by
  constructor
  · rintro (⟨s, y, h1, h2, h3⟩ | ⟨y, h1, h2, h3⟩)
    · have i := HIT_inj ⟨h1.1, by omega⟩ hk h2 hit
      exact absurd i.1 (by omega)
    · have i := HIT_inj hk hk h2 hit
      rw [i.2] at h3
      exact h3
  · intro h
    exact Or.inr ⟨m, by omega, hit, h⟩
theorem RES_next {n : Nat → Int32} {F : Int → Prop} {w : Nat} {c t k k' m : Int} (e : k' = k + 1) (h0 : 0 ≤ k) (hno : ∀ y, m ≤ y → ¬ HIT F c t (reachI (n (180 + 9 * w)).toInt) k y) : RES n F w c t k' ↔ RESi n F w c t k m := by
  constructor
  · rintro ⟨s, y, h1, h2, h3⟩
    by_cases q : s = k
    · rw [q] at h2 h3
      by_cases q2 : y < m
      · exact Or.inr ⟨y, q2, h2, h3⟩
      · exact absurd h2 (hno y (by omega))
    · exact Or.inl ⟨s, y, ⟨h1.1, by omega⟩, h2, h3⟩
  · rintro (⟨s, y, h1, h2, h3⟩ | ⟨y, h1, h2, h3⟩)
    · exact ⟨s, y, ⟨h1.1, by omega⟩, h2, h3⟩
    · exact ⟨k, y, ⟨h0, by omega⟩, h2, h3⟩
theorem rayC {v c t s y : Int32} {w : Nat} {M0 M M2 : mM} (h : RCH (fun x_ y_ => ST_X0_wouldHear_31 0 v c t M0 w s x_.1 x_.2 y_.1 y_.2) ((1 : Int32), M) (y, M2)) (hv : 0 ≤ v.toInt ∧ v.toInt ≤ 7) (hc : 0 ≤ c.toInt ∧ c.toInt ≤ 191) (hs : 0 ≤ s.toInt ∧ s.toInt ≤ 7) : M2 = M ∧ 1 ≤ y.toInt ∧ ∀ j : Int, 1 ≤ j → j < y.toInt → 0 ≤ onI c.toInt s.toInt j ∧ FrS (occ 0 M.1) v.toInt (onI c.toInt s.toInt j) ∧ ¬ onI c.toInt s.toInt j = t.toInt := by
  have q1 := il_1
  have g := rind h (fun z => z.2 = M ∧ 1 ≤ z.1.toInt ∧ ∀ j : Int, 1 ≤ j → j < z.1.toInt → 0 ≤ onI c.toInt s.toInt j ∧ FrS (occ 0 M.1) v.toInt (onI c.toInt s.toInt j) ∧ ¬ onI c.toInt s.toInt j = t.toInt) ⟨rfl, by dsimp only; omega, fun j h1 h2 => by dsimp only at h2; omega⟩ (fun x z p st => by
    (try dsimp only at p st ⊢)
    obtain ⟨p1, p2, p3⟩ := p
    refine xE_ST_X0_wouldHear_31 st (fun k_hv0_31 _ k_hF_31 k_r13_ k_hs17_ k_h16_ k_h18_ k_r21_ k_hs25_ k_h24_ k_r26_ k_hs30_ k_h29_ k_h31_ k_h32_ k_z33_ k_h34_ k_hq_v6_31y k_hM_ => ?_)
    have e := eT k_hq_v6_31y
    have cs := cF_spec k_hs25_
    have fb := x10but k_hs30_ hv
    rw [p1] at fb
    have on : k_r21_.toInt = onI c.toInt s.toInt x.1.toInt := by omega
    refine ⟨by rw [k_hM_]; exact p1, by omega, fun j h1 h2 => ?_⟩
    by_cases q : j < x.1.toInt
    · exact p3 j h1 q
    · have ej : j = x.1.toInt := by omega
      rw [ej, ← on]
      rcases fb with fb | fb
      · exact ⟨by omega, fb.2.2, k_h32_⟩
      · exact absurd fb.1 k_h31_)
  exact g
theorem sidesC {v c t s : Int32} {w : Nat} {R : Int} {M0 M M2 : mM} (h : RCH (fun x_ y_ => ST_X0_wouldHear_21 0 v c t M0 w x_.1 x_.2 y_.1 y_.2) ((0 : Int32), M) (s, M2)) (hv : 0 ≤ v.toInt ∧ v.toInt ≤ 7) (hc : 0 ≤ c.toInt ∧ c.toInt ≤ 191) (hr : ∀ (r : Int32) (N : mM), N = M → SP_X9_reach 0 w N r → r.toInt = R) : M2 = M ∧ 0 ≤ s.toInt ∧ ∀ s' y : Int, 0 ≤ s' → s' < s.toInt → ¬ HIT (FrS (occ 0 M.1) v.toInt) c.toInt t.toInt R s' y := by
  have q0 := il_0
  have g := rind h (fun z => z.2 = M ∧ 0 ≤ z.1.toInt ∧ ∀ s' y : Int, 0 ≤ s' → s' < z.1.toInt → ¬ HIT (FrS (occ 0 M.1) v.toInt) c.toInt t.toInt R s' y) ⟨rfl, by dsimp only; omega, fun s' y h1 h2 => by dsimp only at h2; omega⟩ (fun x z p st => by
    (try dsimp only at p st ⊢)
    obtain ⟨p1, p2, p3⟩ := p
    refine xE_ST_X0_wouldHear_21 st (fun k_hv0_21 k_hv1_21 _ k_hF_21 k_h11_ k_v6_31 k_hv0_31 k_M_31 k_hL_31 _ k_hF_31 k_r13_ k_hs17_ k_h16_ => ⟨(fun k_h18_ k_z19_ k_h20_ k_hq_v5_21y k_hM_ => ?_), (fun k_h18_ k_r21_ k_hs25_ k_h24_ k_r26_ k_hs30_ k_h29_ k_h31_ k_z53_ k_h54_ k_hq_v5_21y k_hM_ => ?_)⟩)
    · have e := eT k_hq_v5_21y
      have L := rayC k_hL_31 hv hc (by omega)
      obtain ⟨l1, l2, l3⟩ := L
      have rr := hr _ _ (l1.trans p1) k_hs17_
      refine ⟨by rw [k_hM_, l1]; exact p1, by omega, fun s' y h1 h2 hh => ?_⟩
      by_cases q : s' < x.1.toInt
      · exact p3 s' y h1 q hh
      · have es : s' = x.1.toInt := by omega
        rw [es] at hh
        exact (l3 y hh.1.1 (by have := hh.1.2; omega)).2.2 hh.2.2
    · have e := eT k_hq_v5_21y
      have L := rayC k_hL_31 hv hc (by omega)
      obtain ⟨l1, l2, l3⟩ := L
      have rr := hr _ _ (l1.trans p1) k_hs17_
      have cs := cF_spec k_hs25_
      have fb := x10but k_hs30_ hv
      rw [l1, p1] at fb
      have on : k_r21_.toInt = onI c.toInt x.1.toInt k_v6_31.toInt := by omega
      refine ⟨by rw [k_hM_, l1]; exact p1, by omega, fun s' y h1 h2 hh => ?_⟩
      by_cases q : s' < x.1.toInt
      · exact p3 s' y h1 q hh
      · have es : s' = x.1.toInt := by omega
        rw [es] at hh
        by_cases q2 : y < k_v6_31.toInt
        · exact (l3 y hh.1.1 q2).2.2 hh.2.2
        · have f := hh.2.1 k_v6_31.toInt l2 (by omega)
          rw [← on] at f
          rcases fb with fb | fb
          · omega
          · exact fb.2 ⟨by omega, f.2⟩)
  exact g
theorem x9own {w : Nat} {r : Int32} {M : mM} {n : Nat → Int32} (h : SP_X9_ownClick 0 w M r) (k3 : M.1 (9, 0, w) 3 = n (183 + 9 * w)) (k4 : M.1 (9, 0, w) 4 = n (184 + 9 * w)) (mp : (1 ≤ (n (183 + 9 * w)).toInt ∧ (n (183 + 9 * w)).toInt ≤ 9) ∧ (1 ≤ (n (184 + 9 * w)).toInt ∧ (n (184 + 9 * w)).toInt ≤ 99)) : r / (100 : Int32) = n (183 + 9 * w) ∧ r - r / (100 : Int32) * (100 : Int32) = n (184 + 9 * w) := by
  refine xE_SP_X9_ownClick h (fun z1_ e2_ z3_ h4_ z5_ e6_ z7_ h8_ hr_ => ?_)
  rw [k3] at e2_
  rw [k4] at e6_
  rw [← e2_, ← e6_, hr_]
  exact own_pl h4_ h8_ (by rw [e2_]; exact mp.1) (by rw [e6_]; exact mp.2)
theorem x0would {v c t r : Int32} {M M' : mM} {n : Nat → Int32} (h : SP_X0_wouldHear 0 v c t M r M') (hR : WRR 0 M.1 n) (hN : NW5 n) (hv : 0 ≤ v.toInt ∧ v.toInt < nWa n) (hc : 0 ≤ c.toInt ∧ c.toInt ≤ 191) : (r.toInt = 1 ∧ RES n (FrS (occ 0 M.1) v.toInt) v.toInt.toNat c.toInt t.toInt 8) ∨ (r.toInt = 0 ∧ ¬ RES n (FrS (occ 0 M.1) v.toInt) v.toInt.toNat c.toInt t.toInt 8) := by
  have q0 := il_0
  have q1 := il_1
  obtain ⟨hL, hT, hW, hX, hO, hM⟩ := hR
  have nw := nWa_b hN
  have ec := eT hW.1
  have w1 := (hW.2 v.toInt.toNat (by omega)).1
  have k0 := w1 0 (by omega)
  have k3 := w1 3 (by omega)
  have k4 := w1 4 (by omega)
  simp only [Nat.add_zero] at k0
  rw [show 180 + 9 * v.toInt.toNat + 3 = 183 + 9 * v.toInt.toNat by omega] at k3
  rw [show 180 + 9 * v.toInt.toNat + 4 = 184 + 9 * v.toInt.toNat by omega] at k4
  have kb := ((hN.1 (180 + 9 * v.toInt.toNat)).2.2.2.2.2.2.2 (by omega) (by omega)).1 (by omega)
  have mp := hM.1 v.toInt.toNat (by omega)
  have v7 : 0 ≤ v.toInt ∧ v.toInt ≤ 7 := by omega
  have hr : ∀ (r : Int32) (N : mM), N = M → SP_X9_reach 0 v.toInt.toNat N r → r.toInt = reachI (n (180 + 9 * v.toInt.toNat)).toInt := fun r N e hh => by
    rw [e] at hh
    rw [x9reach hh (by rw [k0]; exact kb), k0]
  unfold nWa at hv nw
  refine xE_SP_X0_wouldHear h ⟨(fun hs5_ h4_ j7_ h8_ h9_ v5_21 hv0_21 hv1_21 M_21 hL_21 _ hF_21 => ⟨(fun h11_ hr_ hM_ => ?_), (fun h11_ v6_31 hv0_31 M_31 hL_31 _ hF_31 r13_ hs17_ h16_ h18_ r21_ hs25_ h24_ r26_ hs30_ h29_ h31_ h32_ r35_ hs39_ h38_ r40_ hs44_ M46_ _ hF50_ r45_ hs52_ h48_ hr_ hM_ => ?_)⟩), (fun hs5_ hr_ hM_ => ?_)⟩
  · obtain rfl : j7_ = v.toInt.toNat := by omega
    have S := sidesC hL_21 v7 hc hr
    right
    refine ⟨by rw [hr_]; exact q0, fun z => ?_⟩
    obtain ⟨s, y, z1, z2, -⟩ := z
    exact S.2.2 s y z1.1 (by omega) z2
  · obtain rfl : j7_ = v.toInt.toNat := by omega
    have S := sidesC hL_21 v7 hc hr
    obtain ⟨s1, s2, s3⟩ := S
    have L := rayC hL_31 v7 hc (by omega)
    obtain ⟨l1, l2, l3⟩ := L
    have eM : M_31 = M := l1.trans s1
    rw [s1] at l3
    have rr := hr _ _ eM hs17_
    rw [eM] at hs30_ hs39_ hs44_ hs52_
    have cs := cF_spec hs25_
    have fb := x10but hs30_ v7
    have on : r21_.toInt = onI c.toInt v5_21.toInt v6_31.toInt := by omega
    have hit : HIT (FrS (occ 0 M.1) v.toInt) c.toInt t.toInt (reachI (n (180 + 9 * v.toInt.toNat)).toInt) v5_21.toInt v6_31.toInt := by
      refine ⟨by omega, fun j h1 h2 => ?_, by rw [← on]; exact h32_⟩
      by_cases q : j < v6_31.toInt
      · exact ⟨(l3 j h1 q).1, (l3 j h1 q).2.1⟩
      · rw [show j = v6_31.toInt by omega, ← on]
        rcases fb with fb | fb
        · exact ⟨by omega, fb.2.2⟩
        · exact absurd fb.1 h31_
    have ee := x9ears hs39_ (by rw [k0]; exact kb)
    rw [k0] at ee
    have oc := x9own hs44_ k3 k4 mp
    have hh := x2hears hs52_ hL hX hN.2 (by omega) (by omega) (by omega)
    rw [oc.2, oc.1, ee, show (1 : Int32).toInt.toNat = 1 by omega] at hh
    have hd : heS n (earsI (n (180 + 9 * v.toInt.toNat)).toInt) 1 (n (183 + 9 * v.toInt.toNat)) (n (184 + 9 * v.toInt.toNat)) v5_21 v6_31 ↔ HRD n v.toInt.toNat v5_21.toInt v6_31.toInt := by
      unfold HRD
      rw [← ofT v5_21, ← ofT v6_31]
    rw [hr_]
    rcases hh with hh | hh
    · exact Or.inl ⟨hh.1, v5_21.toInt, v6_31.toInt, by omega, hit, hd.mp hh.2⟩
    · refine Or.inr ⟨hh.1, fun z => ?_⟩
      obtain ⟨s, y, z1, z2, z3⟩ := z
      have i := HIT_inj ⟨z1.1, by omega⟩ (by omega) z2 hit
      rw [i.1, i.2] at z3
      exact hh.2 (hd.mpr z3)
  · have := x10has hs5_
    exfalso
    omega
theorem rayD {v c t r1 s b5 y8 y7 y5 : Int32} {D0 D D2 : mM} {q : rf → Nat → Int32} {n : Nat → Int32} (h : RCH (fun x_ y_ => ST_X12_isPost_26 v c t D0 r1 s x_.1 x_.2.1 x_.2.2.1 x_.2.2.2 y_.1 y_.2.1 y_.2.2.1 y_.2.2.2) ((1 : Int32), (1 : Int32), b5, D) (y8, y7, y5, D2)) (hn : D.1 (50, 0, 0) = n) (h7 : (D.1 (12, 0, 0) 7).toInt = v.toInt) (hO : OCC 0 q n) (hX : ∀ w, w < 3 → ∀ i : Nat, (i : Int) < (n (345 + 50 * w)).toInt → cOK (nnU w) (n (346 + 50 * w + i)))
    (hv : 0 ≤ v.toInt ∧ v.toInt ≤ 7) (hc : 0 ≤ c.toInt ∧ c.toInt ≤ 191) (hs : 0 ≤ s.toInt ∧ s.toInt ≤ 7) (hr1 : r1.toInt = 180 + 9 * v.toInt) (hb : b5.toInt = 1 ↔ RES n (FrS (occ 0 q) v.toInt) v.toInt.toNat c.toInt t.toInt s.toInt) :
    D2.1 (50, 0, 0) = n ∧ (D2.1 (12, 0, 0) 7).toInt = v.toInt ∧ 1 ≤ y8.toInt ∧ (y5.toInt = 1 ↔ RESi n (FrS (occ 0 q) v.toInt) v.toInt.toNat c.toInt t.toInt s.toInt y8.toInt) ∧ (¬ y7.toInt = 0 → ∀ j : Int, 1 ≤ j → j < y8.toInt → 0 ≤ onI c.toInt s.toInt j ∧ FrS (occ 0 q) v.toInt (onI c.toInt s.toInt j)) ∧ (y7.toInt = 0 → ∃ j : Int, 1 ≤ j ∧ j < y8.toInt ∧ ¬ FrS (occ 0 q) v.toInt (onI c.toInt s.toInt j)) := by
  have q0 := il_0
  have q1 := il_1
  have g := rind h (fun z => z.2.2.2.1 (50, 0, 0) = n ∧ (z.2.2.2.1 (12, 0, 0) 7).toInt = v.toInt ∧ 1 ≤ z.1.toInt ∧ (z.2.2.1.toInt = 1 ↔ RESi n (FrS (occ 0 q) v.toInt) v.toInt.toNat c.toInt t.toInt s.toInt z.1.toInt) ∧ (¬ z.2.1.toInt = 0 → ∀ j : Int, 1 ≤ j → j < z.1.toInt → 0 ≤ onI c.toInt s.toInt j ∧ FrS (occ 0 q) v.toInt (onI c.toInt s.toInt j)) ∧ (z.2.1.toInt = 0 → ∃ j : Int, 1 ≤ j ∧ j < z.1.toInt ∧ ¬ FrS (occ 0 q) v.toInt (onI c.toInt s.toInt j))) (by
    (try dsimp only)
    rw [q1]
    refine ⟨hn, h7, by omega, hb.trans ?_, fun _ j h1 h2 => by omega, fun z => absurd z (by omega)⟩
    constructor
    · exact Or.inl
    · rintro (z | ⟨y, z1, z2, -⟩)
      · exact z
      · exact absurd z2.1.1 (by omega)) (fun x z p st => by
    obtain ⟨x8, x7, x5, XM⟩ := x
    obtain ⟨z8, z7, z5, ZM⟩ := z
    (try dsimp only at p st ⊢)
    obtain ⟨p1, p2, p3, p4, p5, p6⟩ := p
    refine xE_ST_X12_isPost_26 st (fun k_hv0_26 k_hv1_26 k_hv2_26 k_hI_26 k_hF_26 k_r9_ k_hs13_ k_h12_ k_h14_ k_h17_ k_r20_ k_hs24_ k_h23_ k_h25_ k_r28_ k_hs32_ k_h31_ k_r33_ k_hs37_ k_h36_ => ⟨(fun k_h38_ k_z39_ k_h40_ k_hq_v8_26y k_hq_v7_26y k_hq_v5_26y k_hM_ => ?_), (fun k_h38_ k_r41_ k_hs45_ k_h44_ => ⟨(fun k_h46_ k_z47_ k_h48_ k_hq_v8_26y k_hq_v7_26y k_hq_v5_26y k_hM_ => ?_), (fun k_h46_ k_r49_ k_hs53_ k_h52_ k_z54_ k_h55_ k_j58_ k_h59_ k_z56_ k_e57_ k_z60_ k_h61_ k_j64_ k_h65_ k_z62_ k_e63_ k_M67_ k_hI70_ k_hF71_ k_r66_ k_hs73_ k_h69_ k_z74_ k_h75_ k_hq_v8_26y k_hq_v7_26y k_hq_v5_26y k_hM_ => ?_)⟩)⟩)
    · have o20 := on_spec k_h23_.1 hc hs (by omega)
      have o28 := on_spec k_h31_.1 hc hs (by omega)
      have fr := x12free k_hs37_ (b := 0) (q := q) (by rw [p1]; exact hO) (by omega) (by omega)
      rw [p2, o28] at fr
      have e8 := eT k_hq_v8_26y
      have e7 := eT k_hq_v7_26y
      have nf : ¬ FrS (occ 0 q) v.toInt (onI c.toInt s.toInt x8.toInt) := fun z => by
        unfold FrS at z
        rcases fr with fr | fr
        · omega
        · exact fr.2 (by omega)
      rw [k_hM_, k_hq_v5_26y]
      refine ⟨p1, p2, by omega, p4.trans (RESi_no (m := x8.toInt) (by omega) (fun z => nf (z.2.1 x8.toInt p3 (Int.le_refl _)).2)).symm, fun z => absurd z (by omega), fun _ => ⟨x8.toInt, by omega, by omega, nf⟩⟩
    · have o20 := on_spec k_h23_.1 hc hs (by omega)
      have o28 := on_spec k_h31_.1 hc hs (by omega)
      have o41 := on_spec k_h44_.1 hc hs (by omega)
      have fr := x12free k_hs37_ (b := 0) (q := q) (by rw [p1]; exact hO) (by omega) (by omega)
      rw [p2, o28] at fr
      have e8 := eT k_hq_v8_26y
      have e7 := eT k_hq_v7_26y
      have yf : FrS (occ 0 q) v.toInt (onI c.toInt s.toInt x8.toInt) := by
        unfold FrS
        rcases fr with fr | fr
        · omega
        · omega
      rw [k_hM_, k_hq_v5_26y]
      refine ⟨p1, p2, by omega, p4.trans (RESi_no (m := x8.toInt) (by omega) (fun z => by have := z.2.2; omega)).symm, fun _ j h1 h2 => ?_, fun z => absurd z (by omega)⟩
      by_cases qj : j < x8.toInt
      · exact p5 k_h17_ j h1 qj
      · rw [show j = x8.toInt by omega]
        exact ⟨by omega, yf⟩
    · have o20 := on_spec k_h23_.1 hc hs (by omega)
      have o28 := on_spec k_h31_.1 hc hs (by omega)
      have o41 := on_spec k_h44_.1 hc hs (by omega)
      have fr := x12free k_hs37_ (b := 0) (q := q) (by rw [p1]; exact hO) (by omega) (by omega)
      rw [p2, o28] at fr
      have rr := x12reach k_hs13_ hv
      rw [p1] at rr
      have e8 := eT k_hq_v8_26y
      have e7 := eT k_hq_v7_26y
      have yf : FrS (occ 0 q) v.toInt (onI c.toInt s.toInt x8.toInt) := by
        unfold FrS
        rcases fr with fr | fr
        · omega
        · omega
      have all : ∀ j : Int, 1 ≤ j → j ≤ x8.toInt → 0 ≤ onI c.toInt s.toInt j ∧ FrS (occ 0 q) v.toInt (onI c.toInt s.toInt j) := fun j h1 h2 => by
        by_cases qj : j < x8.toInt
        · exact p5 k_h17_ j h1 qj
        · rw [show j = x8.toInt by omega]
          exact ⟨by omega, yf⟩
      have hit : HIT (FrS (occ 0 q) v.toInt) c.toInt t.toInt (reachI (n (180 + 9 * v.toInt.toNat)).toInt) s.toInt x8.toInt := ⟨by omega, all, by omega⟩
      have ee := x12ears k_hs53_ hv
      rw [p1] at ee
      have hh := x12isHeard k_hs73_ k_hI_26 (by rw [p1]; exact hX) (by omega) hs (by omega)
      rw [p1, ee, k_e57_, k_e63_, p1, show k_j58_ = 183 + 9 * v.toInt.toNat by omega, show k_j64_ = 184 + 9 * v.toInt.toNat by omega, show (1 : Int32).toInt.toNat = 1 by omega] at hh
      have hd : heS n (earsI (n (180 + 9 * v.toInt.toNat)).toInt) 1 (n (183 + 9 * v.toInt.toNat)) (n (184 + 9 * v.toInt.toNat)) s x8 ↔ HRD n v.toInt.toNat s.toInt x8.toInt := by
        unfold HRD
        rw [← ofT s, ← ofT x8]
      have r1' : k_r66_.toInt = 1 ↔ HRD n v.toInt.toNat s.toInt x8.toInt := by
        rcases hh with hh | hh
        · exact ⟨fun _ => hd.mp hh.2, fun _ => hh.1⟩
        · exact ⟨fun z => absurd z (by omega), fun z => absurd (hd.mpr z) hh.2⟩
      rw [k_hM_, k_hq_v5_26y]
      refine ⟨(funext fun k => k_hF71_ _ _ (by simp [S_c_X12_isHeard])).trans p1, by rw [k_hF71_ _ _ (by simp [S_c_X12_isHeard])]; exact p2, by omega, r1'.trans (RESi_yes (m := x8.toInt) (by omega) hs hit).symm, fun _ j h1 h2 => all j h1 (by omega), fun z => absurd z (by omega)⟩)
  exact g
theorem x12post {v c t r : Int32} {D D2 : mM} {q : rf → Nat → Int32} {n : Nat → Int32} (h : SP_X12_isPost v c t D r D2) (hn : D.1 (50, 0, 0) = n) (h7 : (D.1 (12, 0, 0) 7).toInt = v.toInt) (hO : OCC 0 q n) (hX : ∀ w, w < 3 → ∀ i : Nat, (i : Int) < (n (345 + 50 * w)).toInt → cOK (nnU w) (n (346 + 50 * w + i))) (hv : 0 ≤ v.toInt ∧ v.toInt ≤ 7) (hc : 0 ≤ c.toInt ∧ c.toInt ≤ 191) :
    (D2.1 (12, 0, 0) 7).toInt = v.toInt ∧ (r.toInt = 1 ↔ RES n (FrS (occ 0 q) v.toInt) v.toInt.toNat c.toInt t.toInt 8) := by
  have q0 := il_0
  refine xE_SP_X12_isPost h (fun r1_ hs5_ h4_ v6_13 hv0_13 hv1_13 v5_13 hv2_13 M_13 hL_13 _ hF_13 h7_ hr_ hM_ => ?_)
  have g := rind hL_13 (fun z => z.2.2.1 (50, 0, 0) = n ∧ (z.2.2.1 (12, 0, 0) 7).toInt = v.toInt ∧ 0 ≤ z.1.toInt ∧ (z.2.1.toInt = 1 ↔ RES n (FrS (occ 0 q) v.toInt) v.toInt.toNat c.toInt t.toInt z.1.toInt)) (by
    (try dsimp only)
    rw [q0]
    refine ⟨hn, h7, by omega, fun z => absurd z (by omega), fun z => ?_⟩
    obtain ⟨s, y, z1, -⟩ := z
    exact absurd z1.2 (by omega)) (fun x z p st => by
    obtain ⟨x6, x5, XM⟩ := x
    obtain ⟨z6, z5, ZM⟩ := z
    (try dsimp only at p st ⊢)
    obtain ⟨p1, p2, p3, p4⟩ := p
    refine xE_ST_X12_isPost_13 st (fun k_hv0_13 k_hv1_13 k_hv2_13 _ k_hF_13 k_h7_ k_v8_26 k_hv0_26 k_v5_26 k_hv1_26 k_v7_26 k_hv2_26 k_M_26 k_hL_26 _ k_hF_26 k_r9_ k_hs13_ k_h12_ => ⟨(fun k_h14_ k_z15_ k_h16_ k_hq_v6_13y k_hq_v5_13y k_hM_ => ?_), (fun k_h14_ => ⟨(fun k_h17_ k_z18_ k_h19_ k_hq_v6_13y k_hq_v5_13y k_hM_ => ?_), (fun k_h17_ k_r20_ k_hs24_ k_h23_ k_h25_ k_z26_ k_h27_ k_hq_v6_13y k_hq_v5_13y k_hM_ => ?_)⟩)⟩)
    · have L := rayD k_hL_26 p1 p2 hO hX hv hc (by omega) h4_ p4
      obtain ⟨l1, l2, l3, l4, l5, l6⟩ := L
      have rr := x12reach k_hs13_ hv
      rw [l1] at rr
      have e6 := eT k_hq_v6_13y
      rw [k_hM_, k_hq_v5_13y]
      exact ⟨l1, l2, by omega, l4.trans (RES_next (by omega) p3 (fun y hy hh => by have := hh.1.2; omega)).symm⟩
    · have L := rayD k_hL_26 p1 p2 hO hX hv hc (by omega) h4_ p4
      obtain ⟨l1, l2, l3, l4, l5, l6⟩ := L
      have e6 := eT k_hq_v6_13y
      rw [k_hM_, k_hq_v5_13y]
      refine ⟨l1, l2, by omega, l4.trans (RES_next (by omega) p3 (fun y hy hh => ?_)).symm⟩
      obtain ⟨j, j1, j2, j3⟩ := l6 k_h17_
      exact j3 (hh.2.1 j j1 (by omega)).2
    · have L := rayD k_hL_26 p1 p2 hO hX hv hc (by omega) h4_ p4
      obtain ⟨l1, l2, l3, l4, l5, l6⟩ := L
      have e6 := eT k_hq_v6_13y
      have o20 := on_spec k_h23_.1 hc (by omega) (by omega)
      rw [k_hM_, k_hq_v5_13y]
      refine ⟨l1, l2, by omega, l4.trans (RES_next (by omega) p3 (fun y hy hh => ?_)).symm⟩
      have f := hh.2.1 k_v8_26.toInt l3 hy
      omega)
  (try dsimp only at g)
  obtain ⟨g1, g2, g3, g4⟩ := g
  rw [hr_, hM_]
  rw [show v6_13.toInt = 8 by omega] at g4
  exact ⟨g2, g4⟩
/-! the sheets' cells -/
def CLS (p : rf → Nat → Int32) (w : Nat) : Prop := (1 ≤ (p (67, 0, 0) w).toInt ∧ (p (67, 0, 0) w).toInt ≤ 8) ∧ ∀ i : Nat, (i : Int) < (p (67, 0, 0) w).toInt → 0 ≤ (p (68, 0, 0) (24 * w + i)).toInt ∧ (p (68, 0, 0) (24 * w + i)).toInt ≤ 191
theorem holdsC {w : Nat} {r : Int32} {M : mM} {p : rf → Nat → Int32} (h : SP_X6_holdsFewCells w M r) (hS : SHR M.1 p) (hw : w < 4) : (r.toInt = 0 ∧ ¬ CLS p w) ∨ (r.toInt = 1 ∧ CLS p w) := by
  have q0 := il_0
  have q1 := il_1
  obtain ⟨s0, s1, s2⟩ := hS w hw
  have es := eT s1
  have num : ∀ {v r : Int32}, SP_X6_numberAt w v M r → 0 ≤ v.toInt → v.toInt < (M.1 (6, 0, w) 1).toInt → r = p (68, 0, 0) (24 * w + v.toInt.toNat) := fun {v r} a b c => by
    rw [x6num a ⟨b, c⟩]
    exact s2 _ (by omega)
  unfold CLS
  refine xE_SP_X6_holdsFewCells h (fun z1_ e2_ h3_ => ⟨(fun h4_ hr_ => ?_), (fun h4_ => ⟨(fun h7_ v1_21 hv0_21 hL_21 => ⟨(fun h11_ hr_ => ?_), (fun h11_ r12_ hs16_ hs21_ h20_ hr_ => ?_)⟩), (fun h7_ hr_ => ?_)⟩)⟩)
  · have e := eT e2_
    have er := eT hr_
    exact Or.inl ⟨by omega, fun z => by omega⟩
  · have e := eT e2_
    have er := eT hr_
    have g := rind hL_21 (fun z : Int32 => 0 ≤ z.toInt ∧ ∀ i : Nat, (i : Int) < z.toInt → 0 ≤ (p (68, 0, 0) (24 * w + i)).toInt ∧ (p (68, 0, 0) (24 * w + i)).toInt ≤ 191) ⟨by omega, fun i hi => by omega⟩ (fun x z q st => by
      obtain ⟨p1, p2⟩ := q
      refine xE_ST_X6_holdsFewCells_21 st (fun k_hv0_21 k_h11_ k_r12_ k_hs16_ k_hs21_ k_h20_ k_z23_ k_h24_ k_hq_v1_21y => ?_)
      have e1 := eT k_hq_v1_21y
      have nn := num k_hs16_ p1 (by omega)
      refine ⟨by omega, fun i hi => ?_⟩
      by_cases q : (i : Int) = x.toInt
      · rw [show i = x.toInt.toNat by omega, ← nn]
        exact k_h20_
      · exact p2 i (by omega))
    exact Or.inr ⟨by omega, by omega, fun i hi => g.2 i (by omega)⟩
  · have e := eT e2_
    have er := eT hr_
    have nn := num hs16_ hv0_21 (by omega)
    refine Or.inl ⟨by omega, fun z => h20_ ?_⟩
    rw [nn]
    exact z.2 _ (by omega)
  · have e := eT e2_
    have er := eT hr_
    exact Or.inl ⟨by omega, fun z => by omega⟩
theorem areC0 {v r : Int32} {M : mM} (h : SP_X12_areCells v 0 M r) (hv : 0 ≤ v.toInt ∧ v.toInt ≤ 3) : (r.toInt = 0 ∧ ¬ CLS M.1 v.toInt.toNat) ∨ (r.toInt = 1 ∧ CLS M.1 v.toInt.toNat) := by
  have q0 := il_0
  have q1 := il_1
  have in1 : ∀ {k y a : Int32}, RCH (fun x_ y_ => ST_X12_areCells_50 v 0 M k x_.1 x_.2 y_.1 y_.2) ((0 : Int32), (1 : Int32)) (y, a) → a.toInt = 1 := fun {k y a} hL => by
    have g := rind hL (fun z => z.2.toInt = 1) (by dsimp only; exact q1) (fun x z p st => by
      (try dsimp only at p st ⊢)
      refine xE_ST_X12_areCells_50 st (fun k_hv0_50 k_hv1_50 k_hv2_50 k_h34_ => ⟨(fun k_h37_ k_z38_ k_h39_ k_hq_v5_50y k_hq_v3_50y => ?_), (fun k_h37_ => ⟨(fun k_h40_ k_z41_ k_h42_ k_hq_v5_50y k_hq_v3_50y => ?_), (fun k_h40_ k_z43_ k_h44_ k_z45_ k_h46_ k_j49_ k_h50_ k_z47_ k_e48_ k_z51_ k_h52_ k_z53_ k_h54_ k_j57_ k_h58_ k_z55_ k_e56_ => ⟨(fun k_h59_ k_z60_ k_h61_ k_hq_v5_50y k_hq_v3_50y => ?_), (fun k_h59_ k_z62_ k_h63_ k_hq_v5_50y k_hq_v3_50y => ?_)⟩)⟩)⟩)
      · omega
      · have := eT k_hq_v3_50y; omega
      · omega
      · omega)
    exact g
  have in0 : ∀ {k y a : Int32}, RCH (fun x_ y_ => ST_X12_areCells_50b v 0 M k x_.1 x_.2 y_.1 y_.2) ((0 : Int32), (0 : Int32)) (y, a) → a.toInt = 0 := fun {k y a} hL => by
    have g := rind hL (fun z => z.2.toInt = 0) (by dsimp only; exact q0) (fun x z p st => by
      (try dsimp only at p st ⊢)
      refine xE_ST_X12_areCells_50b st (fun k_hv0_50 k_hv1_50 k_hv2_50 k_h65_ => ⟨(fun k_h68_ k_z69_ k_h70_ k_hq_v5_50y k_hq_v3_50y => ?_), (fun k_h68_ => ⟨(fun k_h71_ k_z72_ k_h73_ k_hq_v5_50y k_hq_v3_50y => ?_), (fun k_h71_ k_z74_ k_h75_ k_z76_ k_h77_ k_j80_ k_h81_ k_z78_ k_e79_ k_z82_ k_h83_ k_z84_ k_h85_ k_j88_ k_h89_ k_z86_ k_e87_ => ⟨(fun k_h90_ k_z91_ k_h92_ k_hq_v5_50y k_hq_v3_50y => ?_), (fun k_h90_ k_z93_ k_h94_ k_hq_v5_50y k_hq_v3_50y => ?_)⟩)⟩)⟩)
      · have := eT k_hq_v3_50y; omega
      · omega
      · omega
      · omega)
    exact g
  unfold CLS
  have loop : ∀ {y a : Int32}, RCH (fun x_ y_ => ST_X12_areCells_16 v 0 M x_.1 x_.2 y_.1 y_.2) ((0 : Int32), (1 : Int32)) (y, a) → (0 ≤ y.toInt ∧ (y.toInt ≤ (M.1 (67, 0, 0) v.toInt.toNat).toInt ∨ y.toInt = 0)) ∧ ((a.toInt = 1 ∧ ∀ i : Nat, (i : Int) < y.toInt → 0 ≤ (M.1 (68, 0, 0) (24 * v.toInt.toNat + i)).toInt ∧ (M.1 (68, 0, 0) (24 * v.toInt.toNat + i)).toInt ≤ 191) ∨ (a.toInt = 0 ∧ ∃ i : Nat, (i : Int) < y.toInt ∧ ¬ (0 ≤ (M.1 (68, 0, 0) (24 * v.toInt.toNat + i)).toInt ∧ (M.1 (68, 0, 0) (24 * v.toInt.toNat + i)).toInt ≤ 191))) := fun {y a} hL => by
    have g := rind hL (fun z => (0 ≤ z.1.toInt ∧ (z.1.toInt ≤ (M.1 (67, 0, 0) v.toInt.toNat).toInt ∨ z.1.toInt = 0)) ∧ ((z.2.toInt = 1 ∧ ∀ i : Nat, (i : Int) < z.1.toInt → 0 ≤ (M.1 (68, 0, 0) (24 * v.toInt.toNat + i)).toInt ∧ (M.1 (68, 0, 0) (24 * v.toInt.toNat + i)).toInt ≤ 191) ∨ (z.2.toInt = 0 ∧ ∃ i : Nat, (i : Int) < z.1.toInt ∧ ¬ (0 ≤ (M.1 (68, 0, 0) (24 * v.toInt.toNat + i)).toInt ∧ (M.1 (68, 0, 0) (24 * v.toInt.toNat + i)).toInt ≤ 191)))) ⟨by dsimp only; omega, Or.inl ⟨by dsimp only; exact q1, fun i hi => by dsimp only at hi; omega⟩⟩ (fun x z p st => by
      (try dsimp only at p st ⊢)
      obtain ⟨p1, p2⟩ := p
      refine xE_ST_X12_areCells_16 st (fun k_hv0_16 k_hv1_16 k_hv2_16 k_hv3_16 k_j14_ k_h15_ k_z12_ k_e13_ k_h16_ k_h17_ k_h18_ k_h19_ k_z20_ k_h21_ k_z22_ k_h23_ k_j26_ k_h27_ k_z24_ k_e25_ => ⟨(fun k_hs32_ k_h31_ k_v5_50 k_hv0_50 k_hv1_50 k_v3_50 k_hv2_50 k_hL_50 k_h34_ k_z35_ k_h36_ k_hq_v4_16y k_hq_v3_16y => ?_), (fun k_hs32_ k_h31_ k_v5_50 k_hv0_50 k_hv1_50 k_v3_50 k_hv2_50 k_hL_50 k_h65_ k_z66_ k_h67_ k_hq_v4_16y k_hq_v3_16y => ?_)⟩)
      · have e1 := eT k_hq_v4_16y
        have e3 := eT k_hq_v3_16y
        have em := eT k_e13_
        rw [show k_j14_ = v.toInt.toNat by omega] at em
        have a1 := in1 k_hL_50
        refine ⟨by omega, Or.inl ⟨by omega, fun i hi => ?_⟩⟩
        rcases p2 with p2 | p2
        · by_cases q : (i : Int) = x.1.toInt
          · rw [show 24 * v.toInt.toNat + i = k_j26_ by omega, ← k_e25_]
            exact k_h31_
          · exact p2.2 i (by omega)
        · exact absurd p2.1 k_h18_
      · have e1 := eT k_hq_v4_16y
        have e3 := eT k_hq_v3_16y
        have em := eT k_e13_
        rw [show k_j14_ = v.toInt.toNat by omega] at em
        have a1 := in0 k_hL_50
        refine ⟨by omega, Or.inr ⟨by omega, x.1.toInt.toNat, by omega, ?_⟩⟩
        rw [show 24 * v.toInt.toNat + x.1.toInt.toNat = k_j26_ by omega, ← k_e25_]
        exact k_h31_)
    exact g
  refine xE_SP_X12_areCells h (fun j3_ h4_ z1_ e2_ h5_ => ⟨(fun hs10_ h9_ v4_16 hv0_16 hv1_16 v3_16 hv2_16 hv3_16 hL_16 j14_ h15_ z12_ e13_ h16_ => ⟨(fun h17_ hr_ => ?_), (fun h17_ h18_ hr_ => ?_)⟩), (fun hs10_ h9_ v4_16 hv0_16 hv1_16 v3_16 hv2_16 hv3_16 hL_16 j98_ h99_ z96_ e97_ h100_ => ⟨(fun h101_ hr_ => ?_), (fun h101_ h102_ hr_ => ?_)⟩)⟩)
  · have e := eT e2_
    rw [show j3_ = v.toInt.toNat by omega] at e
    have e2 := eT e13_
    rw [show j14_ = v.toInt.toNat by omega] at e2
    have er := eT hr_
    have g := loop hL_16
    have g1 := g.1
    have g0 := g.2
    clear g
    rcases g0 with g2 | g2
    · exact Or.inr ⟨by omega, by omega, fun i hi => g2.2 i (by omega)⟩
    · obtain ⟨g3, i, g4, g5⟩ := g2
      exact Or.inl ⟨by omega, fun z => g5 (z.2 i (by omega))⟩
  · have e := eT e2_
    rw [show j3_ = v.toInt.toNat by omega] at e
    have e2 := eT e13_
    rw [show j14_ = v.toInt.toNat by omega] at e2
    have er := eT hr_
    have g := loop hL_16
    have g1 := g.1
    have g0 := g.2
    clear g
    rcases g0 with g2 | g2
    · exact absurd g2.1 (by omega)
    · obtain ⟨g3, i, g4, g5⟩ := g2
      exact Or.inl ⟨by omega, fun z => g5 (z.2 i (by omega))⟩
  · have e := eT e2_
    rw [show j3_ = v.toInt.toNat by omega] at e
    have er := eT hr_
    have g := rind hL_16 (fun z => z.2.toInt = 0) (by dsimp only; exact q0) (fun x z p st => by
      (try dsimp only at p st ⊢)
      refine xE_ST_X12_areCells_16b st (fun k_hv0_16 k_hv1_16 k_hv2_16 k_hv3_16 k_j98_ k_h99_ k_z96_ k_e97_ k_h100_ k_h101_ k_h102_ k_h103_ k_z104_ k_h105_ k_z106_ k_h107_ k_j110_ k_h111_ k_z108_ k_e109_ => ⟨(fun k_hs116_ k_h115_ k_v5_50 k_hv0_50 k_hv1_50 k_v3_50 k_hv2_50 k_hL_50 k_h118_ k_z119_ k_h120_ k_hq_v4_16y k_hq_v3_16y => ?_), (fun k_hs116_ k_h115_ k_v5_50 k_hv0_50 k_hv1_50 k_v3_50 k_hv2_50 k_hL_50 k_h149_ k_z150_ k_h151_ k_hq_v4_16y k_hq_v3_16y => ?_)⟩)
      all_goals (exfalso; omega))
    (try dsimp only at g)
    exact Or.inl ⟨by omega, fun z => h9_ (by omega)⟩
  · have e := eT e2_
    rw [show j3_ = v.toInt.toNat by omega] at e
    have er := eT hr_
    exact Or.inl ⟨by omega, fun z => h9_ (by omega)⟩
/-! the best of masks -/
def BST (P : Int → Prop) (pc : Int → Int) (k b : Int) : Prop := (b ≤ 0 ∧ ∀ m, 1 ≤ m → m < k → ¬ P m) ∨ ((1 ≤ b ∧ b < k) ∧ P b ∧ (∀ m, 1 ≤ m → m < k → P m → pc b ≤ pc m) ∧ (∀ m, 1 ≤ m → m < b → P m → pc b < pc m))
theorem BST_uniq {P : Int → Prop} {pc : Int → Int} {k b b' : Int} (h : BST P pc k b) (g : BST P pc k b') : (b ≤ 0 ∧ b' ≤ 0) ∨ (1 ≤ b ∧ b = b') := by
  rcases h with ⟨h1, h2⟩ | ⟨h1, h2, h3, h4⟩
  · rcases g with ⟨g1, g2⟩ | ⟨g1, g2, g3, g4⟩
    · exact Or.inl ⟨h1, g1⟩
    · exact absurd g2 (h2 b' g1.1 g1.2)
  · rcases g with ⟨g1, g2⟩ | ⟨g1, g2, g3, g4⟩
    · exact absurd h2 (g2 b h1.1 h1.2)
    · right
      refine ⟨h1.1, ?_⟩
      rcases Int.lt_trichotomy b b' with q | q | q
      · have a1 := g4 b h1.1 q h2
        have a2 := h3 b' g1.1 g1.2 g2
        omega
      · exact q
      · have a1 := h4 b' g1.1 q g2
        have a2 := g3 b h1.1 h1.2 h2
        omega
theorem BST_no {P : Int → Prop} {pc : Int → Int} {k k' b : Int} (h : BST P pc k b) (e : k' = k + 1) (hn : 1 ≤ k → ¬ P k) : BST P pc k' b := by
  have nx : ∀ m, 1 ≤ m → m < k' → P m → m < k := fun m a c d => by
    by_cases q : m = k
    · rw [q] at a d
      exact absurd d (hn a)
    · omega
  rcases h with ⟨h1, h2⟩ | ⟨h1, h2, h3, h4⟩
  · exact Or.inl ⟨h1, fun m a c d => h2 m a (nx m a c d) d⟩
  · exact Or.inr ⟨by omega, h2, fun m a c d => h3 m a (nx m a c d) d, h4⟩
theorem BST_keep {P : Int → Prop} {pc : Int → Int} {k k' b : Int} (h : BST P pc k b) (e : k' = k + 1) (hb : 1 ≤ b) (hn : pc b ≤ pc k) : BST P pc k' b := by
  rcases h with ⟨h1, h2⟩ | ⟨h1, h2, h3, h4⟩
  · omega
  · refine Or.inr ⟨by omega, h2, fun m a c d => ?_, h4⟩
    by_cases q : m = k
    · rw [q]; exact hn
    · exact h3 m a (by omega) d
theorem BST_first {P : Int → Prop} {pc : Int → Int} {k k' b : Int} (h : BST P pc k b) (e : k' = k + 1) (hb : b ≤ 0) (hk : 1 ≤ k) (hP : P k) : BST P pc k' k := by
  rcases h with ⟨h1, h2⟩ | ⟨h1, h2, h3, h4⟩
  · refine Or.inr ⟨by omega, hP, fun m a c d => ?_, fun m a c d => absurd d (h2 m a c)⟩
    by_cases q : m = k
    · rw [q]; exact Int.le_refl _
    · exact absurd d (h2 m a (by omega))
  · omega
theorem BST_better {P : Int → Prop} {pc : Int → Int} {k k' b : Int} (h : BST P pc k b) (e : k' = k + 1) (hb : 1 ≤ b) (hP : P k) (hn : pc k < pc b) : BST P pc k' k := by
  rcases h with ⟨h1, h2⟩ | ⟨h1, h2, h3, h4⟩
  · omega
  · refine Or.inr ⟨by omega, hP, fun m a c d => ?_, fun m a c d => by have := h3 m a c d; omega⟩
    by_cases q : m = k
    · rw [q]; exact Int.le_refl _
    · have := h3 m a (by omega) d
      omega
theorem BST_ext {P : Int → Prop} {pc : Int → Int} {k k' b : Int} (h : BST P pc k b) (hk : k ≤ k') (hn : ∀ m, k ≤ m → ¬ P m) : BST P pc k' b := by
  have nx : ∀ m, P m → m < k := fun m d => by
    rcases Int.lt_or_le m k with q | q
    · exact q
    · exact absurd d (hn m q)
  rcases h with ⟨h1, h2⟩ | ⟨h1, h2, h3, h4⟩
  · exact Or.inl ⟨h1, fun m a c d => h2 m a (nx m d) d⟩
  · exact Or.inr ⟨by omega, h2, fun m a c d => h3 m a (nx m d) d, h4⟩
def SRV (f : Nat → Int32) (T : Int) (m : Int32) : Prop := ∀ i : Nat, (i : Int) < T → ¬ (m &&& f i).toInt = 0
theorem SRV_cong {f g : Nat → Int32} {T : Int} {m : Int32} (h : ∀ i : Nat, (i : Int) < T → f i = g i) : SRV f T m ↔ SRV g T m := by
  constructor
  · intro a i hi
    rw [← h i hi]; exact a i hi
  · intro a i hi
    rw [h i hi]; exact a i hi
def PPm (f : Nat → Int32) (T U : Int) (m : Int) : Prop := m < U ∧ SRV f T (Int32.ofInt m)
def pcI (m : Int) : Int := pcS (Int32.ofInt m) 8
theorem servesC {v u r : Int32} {M : mM} (h : SP_X0_servesAll v u M r) (hu : u.toInt ≤ 8) : (r.toInt = 0 ∧ ¬ SRV (M.1 (23, 0, 0)) u.toInt v) ∨ (r.toInt = 1 ∧ SRV (M.1 (23, 0, 0)) u.toInt v) := by
  have q0 := il_0
  have q1 := il_1
  have loop : ∀ {y : Int32}, RCH (fun x_ y_ => ST_X0_servesAll_2 v u M x_ y_) (0 : Int32) y → 0 ≤ y.toInt ∧ ∀ i : Nat, (i : Int) < y.toInt → ¬ (v &&& M.1 (23, 0, 0) i).toInt = 0 := fun {y} hL => by
    have g := rind hL (fun z : Int32 => 0 ≤ z.toInt ∧ ∀ i : Nat, (i : Int) < z.toInt → ¬ (v &&& M.1 (23, 0, 0) i).toInt = 0) ⟨by omega, fun i hi => by omega⟩ (fun x z p st => by
      obtain ⟨p1, p2⟩ := p
      refine xE_ST_X0_servesAll_2 st (fun k_hv0_2 k_h2_ k_h3_ k_j6_ k_h7_ k_z4_ k_e5_ k_z8_ k_h9_ k_h10_ k_z11_ k_h12_ k_hq_v3_2y => ?_)
      have e := eT k_hq_v3_2y
      refine ⟨by omega, fun i hi => ?_⟩
      by_cases q : (i : Int) = x.toInt
      · rw [show i = k_j6_ by omega, ← k_e5_, ← k_h9_]
        exact k_h10_
      · exact p2 i (by omega))
    exact g
  refine xE_SP_X0_servesAll h (fun v3_2 hv0_2 hL_2 => ⟨(fun h2_ hr_ => ?_), (fun h2_ => ⟨(fun h3_ hr_ => ?_), (fun h3_ j6_ h7_ z4_ e5_ z8_ h9_ h10_ hr_ => ?_)⟩)⟩)
  · have g := loop hL_2
    have er := eT hr_
    exact Or.inr ⟨by omega, fun i hi => g.2 i (by omega)⟩
  · have g := loop hL_2
    have er := eT hr_
    exact Or.inr ⟨by omega, fun i hi => g.2 i (by omega)⟩
  · have er := eT hr_
    refine Or.inl ⟨by omega, fun z => z j6_ (by omega) ?_⟩
    rw [← e5_, ← h9_]
    exact h10_
theorem servesD {t m y a : Int32} {M : mM} (h : RCH (fun x_ y_ => ST_X12_posts_223 t M m x_.1 x_.2 y_.1 y_.2) ((0 : Int32), (1 : Int32)) (y, a)) (hy : (M.1 (67, 0, 0) t.toInt.toNat).toInt ≤ y.toInt) (ht : 0 ≤ t.toInt) (h0 : 0 ≤ (M.1 (67, 0, 0) t.toInt.toNat).toInt) : (a.toInt = 0 ∧ ¬ SRV (M.1 (64, 0, 0)) (M.1 (67, 0, 0) t.toInt.toNat).toInt m) ∨ (a.toInt = 1 ∧ SRV (M.1 (64, 0, 0)) (M.1 (67, 0, 0) t.toInt.toNat).toInt m) := by
  have q0 := il_0
  have q1 := il_1
  have g := rind h (fun z => (0 ≤ z.1.toInt ∧ z.1.toInt ≤ (M.1 (67, 0, 0) t.toInt.toNat).toInt) ∧ ((z.2.toInt = 1 ∧ ∀ i : Nat, (i : Int) < z.1.toInt → ¬ (m &&& M.1 (64, 0, 0) i).toInt = 0) ∨ (z.2.toInt = 0 ∧ ∃ i : Nat, (i : Int) < z.1.toInt ∧ (m &&& M.1 (64, 0, 0) i).toInt = 0))) ⟨by dsimp only; omega, Or.inl ⟨by dsimp only; exact q1, fun i hi => by dsimp only at hi; omega⟩⟩ (fun x z p st => by
    (try dsimp only at p st ⊢)
    obtain ⟨p1, p2⟩ := p
    refine xE_ST_X12_posts_223 st (fun k_hv0_223 k_hv1_223 k_j105_ k_h106_ k_z103_ k_e104_ k_h107_ k_h108_ k_h109_ => ⟨(fun k_h131_ k_z132_ k_h133_ k_hq_v8_223y k_hq_v7_223y => ?_), (fun k_h131_ k_j136_ k_h137_ k_z134_ k_e135_ k_z138_ k_h139_ => ⟨(fun k_h140_ k_z141_ k_h142_ k_hq_v8_223y k_hq_v7_223y => ?_), (fun k_h140_ k_z143_ k_h144_ k_hq_v8_223y k_hq_v7_223y => ?_)⟩)⟩)
    · have e1 := eT k_hq_v8_223y
      have e2 := eT k_hq_v7_223y
      have em := eT k_e104_
      rw [show k_j105_ = t.toInt.toNat by omega] at em
      refine ⟨by omega, Or.inr ⟨by omega, ?_⟩⟩
      rcases p2 with p2 | p2
      · exact absurd p2.1 (by omega)
      · obtain ⟨-, i, i1, i2⟩ := p2
        exact ⟨i, by omega, i2⟩
    · have e1 := eT k_hq_v8_223y
      have e2 := eT k_hq_v7_223y
      have em := eT k_e104_
      rw [show k_j105_ = t.toInt.toNat by omega] at em
      refine ⟨by omega, Or.inr ⟨by omega, k_j136_, by omega, ?_⟩⟩
      rw [andc, ← k_e135_, ← k_h139_]
      exact k_h140_
    · have e1 := eT k_hq_v8_223y
      have e2 := eT k_hq_v7_223y
      have em := eT k_e104_
      rw [show k_j105_ = t.toInt.toNat by omega] at em
      refine ⟨by omega, Or.inl ⟨by omega, fun i hi => ?_⟩⟩
      rcases p2 with p2 | p2
      · by_cases q : (i : Int) = x.1.toInt
        · rw [show i = k_j136_ by omega, andc, ← k_e135_, ← k_h139_]
          exact k_h140_
        · exact p2.2 i (by omega)
      · exact absurd p2.1 (by omega))
  (try dsimp only at g)
  obtain ⟨g1, g2⟩ := g
  rcases g2 with g2 | g2
  · exact Or.inr ⟨g2.1, fun i hi => g2.2 i (by omega)⟩
  · obtain ⟨g3, i, g4, g5⟩ := g2
    exact Or.inl ⟨g3, fun z => z i (by omega) g5⟩
end
section
/-! posts() on both sides -/
def PCX (v u t : Int32) (C0 D0 : mM) (n : Nat → Int32) : Prop := WRR 0 C0.1 n ∧ NW5 n ∧ D0.1 (50, 0, 0) = n ∧ SHR C0.1 D0.1 ∧ (0 ≤ v.toInt ∧ v.toInt < nWa n) ∧ (0 ≤ u.toInt ∧ u.toInt ≤ 3) ∧ (0 ≤ t.toInt ∧ t.toInt ≤ 3) ∧ CLS D0.1 u.toInt.toNat ∧ CLS D0.1 t.toInt.toNat
theorem marks_in {v u t i i' y y' : Int32} {wu wt : Nat} {C0 D0 A A2 B B2 : mM} {n : Nat → Int32} (hX : PCX v u t C0 D0 n) (hwu : (wu : Int) = u.toInt) (hwt : (wt : Int) = t.toInt) (hii : i.toInt = i'.toInt) (hi : 0 ≤ i.toInt ∧ i.toInt < (D0.1 (67, 0, 0) t.toInt.toNat).toInt)
    (h1 : RCH (fun x_ y_ => ST_X0_choosePosts_31 0 wu wt v C0 i x_.1 x_.2 y_.1 y_.2) ((0 : Int32), A) (y, A2)) (h2 : RCH (fun x_ y_ => ST_X12_posts_120 v u t D0 i' x_.1 x_.2 y_.1 y_.2) ((0 : Int32), B) (y', B2)) (hm : ∀ k : Nat, (k : Int) ≤ i.toInt → A.1 (23, 0, 0) k = B.1 (64, 0, 0) k) (h7 : (B.1 (12, 0, 0) 7).toInt = v.toInt)
    (fc : (D0.1 (67, 0, 0) u.toInt.toNat).toInt ≤ y.toInt ∨ 8 ≤ y.toInt) (fd : (D0.1 (67, 0, 0) u.toInt.toNat).toInt ≤ y'.toInt) : (∀ k : Nat, (k : Int) ≤ i.toInt → A2.1 (23, 0, 0) k = B2.1 (64, 0, 0) k) ∧ (B2.1 (12, 0, 0) 7).toInt = v.toInt := by
  obtain rfl : i = i' := i32e hii
  obtain ⟨hR, hN, hn, hS, hv, hu, ht, cu, ct⟩ := hX
  have q0 := il_0
  have nw := nWa_b hN
  have eu : u.toInt.toNat = wu := by omega
  have et : t.toInt.toNat = wt := by omega
  rw [eu] at cu fc fd
  rw [et] at ct hi
  have g := lockE (fun (x : Int32 × mM) (y : Int32 × mM) => x.1 = y.1 ∧ 0 ≤ x.1.toInt ∧ (∀ k : Nat, (k : Int) ≤ i.toInt → x.2.1 (23, 0, 0) k = y.2.1 (64, 0, 0) k) ∧ (y.2.1 (12, 0, 0) 7).toInt = v.toInt) h1 h2 ⟨rfl, by dsimp only; omega, hm, h7⟩ (fun x z y w r s1 s2 => by
    obtain ⟨x1, XM⟩ := x
    obtain ⟨z1, ZM⟩ := z
    obtain ⟨y1, YM⟩ := y
    obtain ⟨w1, WM⟩ := w
    (try dsimp only at r s1 s2 ⊢)
    obtain ⟨r1, r2, r3, r4⟩ := r
    subst r1
    have tail : ∀ {c_z174_ c_r183_ c_r188_ c_r193_ d_z167_ d_z169_ d_z171_ d_z175_ d_z177_ d_z179_ d_r183_ : Int32} {c_M194_ d_M184_ : mM} {d_j173_ d_j181_ : Nat}, FR (S_c_X0_choosePosts 0 wu wt) C0 XM → FR S_c_X12_posts D0 YM → c_z174_ = XM.1 (6, 0, wu) 1 → x1.toInt < c_z174_.toInt → SP_X6_numberAt wt i XM c_r183_ → SP_X6_numberAt wu x1 XM c_r188_ → SP_X0_wouldHear 0 v c_r183_ c_r188_ XM c_r193_ c_M194_ → d_z167_.toInt = 24 * t.toInt → d_z169_.toInt = d_z167_.toInt + i.toInt → (d_j173_ : Int) = d_z169_.toInt → d_z171_ = YM.1 (68, 0, 0) d_j173_ → d_z175_.toInt = 24 * u.toInt → d_z177_.toInt = d_z175_.toInt + x1.toInt → (d_j181_ : Int) = d_z177_.toInt → d_z179_ = YM.1 (68, 0, 0) d_j181_ → SP_X12_isPost v d_z171_ d_z179_ YM d_r183_ d_M184_ → (d_M184_.1 (12, 0, 0) 7).toInt = v.toInt ∧ (c_r193_.toInt = 1 ↔ d_r183_.toInt = 1) ∧ (c_r193_.toInt = 0 ∨ c_r193_.toInt = 1) := fun {c_z174_ c_r183_ c_r188_ c_r193_ d_z167_ d_z169_ d_z171_ d_z175_ d_z177_ d_z179_ d_r183_ c_M194_ d_M184_ d_j173_ d_j181_} F1 F2 a1 a2 a3 a4 a5 b1 b2 b3 b4 b5 b6 b7 b8 b9 => by
      have W : WRR 0 XM.1 n := WRR_same hR hN (fun c k a b => F1 c k (fun q => by unfold wR at a; simp only [S_c_X0_choosePosts, or_false] at q; omega))
      have c6 : ∀ w, XM.1 (6, 0, w) 1 = C0.1 (6, 0, w) 1 := fun w => F1 _ _ (by simp [S_c_X0_choosePosts])
      have c34 : ∀ w k, XM.1 (34, 0, w) k = C0.1 (34, 0, w) k := fun w k => F1 _ _ (by simp [S_c_X0_choosePosts])
      have d50 : YM.1 (50, 0, 0) = n := (funext fun k => F2 _ _ (by simp [S_c_X12_posts])).trans hn
      have d68 : ∀ k, YM.1 (68, 0, 0) k = D0.1 (68, 0, 0) k := fun k => F2 _ _ (by simp [S_c_X12_posts])
      have su := hS wu (by omega)
      have stt := hS wt (by omega)
      have e6u := eT (c6 wu)
      have e6t := eT (c6 wt)
      have e7u := eT su.2.1
      have e7t := eT stt.2.1
      have ea1 := eT a1
      have n1 := x6num a3 (by omega)
      have n2 := x6num a4 (by omega)
      rw [c34, stt.2.2 _ (by omega)] at n1
      rw [c34, su.2.2 _ (by omega)] at n2
      have m1 : d_z171_ = c_r183_ := by rw [b4, d68, n1, show d_j173_ = 24 * wt + i.toInt.toNat by omega]
      have m2 : d_z179_ = c_r188_ := by rw [b8, d68, n2, show d_j181_ = 24 * wu + x1.toInt.toNat by omega]
      have bt := ct.2 i.toInt.toNat (by omega)
      rw [← n1] at bt
      rw [m1, m2] at b9
      have X := x0would a5 W hN hv bt
      have Y := x12post b9 d50 r4 W.2.2.2.2.1 (fun w hw i hi => ((W.2.2.2.1 w hw).2 i hi).2) (by omega) bt
      refine ⟨Y.1, ?_, by omega⟩
      rcases X with X | X
      · exact ⟨fun _ => Y.2.mpr X.2, fun _ => X.1⟩
      · exact ⟨fun z => absurd z (by omega), fun z => absurd (Y.2.mp z) X.2⟩
    refine xE_ST_X0_choosePosts_31 s1 (fun c_hv0_31 _ c_hF_31 c_z174_ c_e175_ c_h176_ c_h177_ c_h180_ c_r183_ c_hs187_ c_r188_ c_hs192_ c_M194_ _ c_hF198_ c_r193_ c_hs200_ c_h196_ => ⟨(fun c_h201_ c_z202_ c_h203_ c_hq_v6_31y c_hM_ => ?_), (fun c_h201_ c_j206_ c_h207_ c_z204_ c_e205_ c_z208_ c_h209_ c_z210_ c_h211_ c_j214_ c_h215_ c_M212_ c_hM213_ c_z218_ c_h219_ c_hq_v6_31y c_hM_ => ?_)⟩)
    · refine xE_ST_X12_posts_120 s2 (fun d_hv0_120 _ d_hF_120 d_j156_ d_h157_ d_z154_ d_e155_ d_h158_ d_h159_ d_h160_ d_j165_ d_h166_ d_z163_ d_e164_ d_z167_ d_h168_ d_z169_ d_h170_ d_j173_ d_h174_ d_z171_ d_e172_ d_z175_ d_h176_ d_z177_ d_h178_ d_j181_ d_h182_ d_z179_ d_e180_ d_M184_ _ d_hF188_ d_r183_ d_hs190_ d_h186_ => ⟨(fun d_h193_ d_z194_ d_h195_ d_j198_ d_h199_ d_M196_ d_hM197_ d_z204_ d_h205_ d_hq_v6_120y d_hM_ => ?_), (fun d_h193_ d_z206_ d_h207_ d_z208_ d_h209_ d_j212_ d_h213_ d_M210_ d_hM211_ d_z218_ d_h219_ d_hq_v6_120y d_hM_ => ?_)⟩)
      · have T := tail c_hF_31 d_hF_120 c_e175_ c_h177_ c_hs187_ c_hs192_ c_hs200_ d_h168_ d_h170_ d_h174_ d_e172_ d_h176_ d_h178_ d_h182_ d_e180_ d_hs190_
        obtain ⟨t1, t2, t3⟩ := T
        have e1 := eT c_hq_v6_31y
        have e2 := eT d_hq_v6_120y
        rw [c_hM_, d_hM_]
        refine ⟨i32e (by omega), by omega, fun k hk => ?_, by rw [zupN d_hM197_ (fun z => cne (by omega) z.1)]; exact t1⟩
        rw [c_hF198_ _ _ (by simp [S_c_X0_wouldHear])]
        by_cases q : k = d_j198_
        · rw [zupE d_hM197_ rfl q, d_h195_, or0, d_e164_, show d_j165_ = k by omega]
          exact r3 k hk
        · rw [zupN d_hM197_ (fun z => q z.2), d_hF188_ _ _ (by simp [S_c_X12_isPost])]
          exact r3 k hk
      · have T := tail c_hF_31 d_hF_120 c_e175_ c_h177_ c_hs187_ c_hs192_ c_hs200_ d_h168_ d_h170_ d_h174_ d_e172_ d_h176_ d_h178_ d_h182_ d_e180_ d_hs190_
        exfalso
        omega
    · refine xE_ST_X12_posts_120 s2 (fun d_hv0_120 _ d_hF_120 d_j156_ d_h157_ d_z154_ d_e155_ d_h158_ d_h159_ d_h160_ d_j165_ d_h166_ d_z163_ d_e164_ d_z167_ d_h168_ d_z169_ d_h170_ d_j173_ d_h174_ d_z171_ d_e172_ d_z175_ d_h176_ d_z177_ d_h178_ d_j181_ d_h182_ d_z179_ d_e180_ d_M184_ _ d_hF188_ d_r183_ d_hs190_ d_h186_ => ⟨(fun d_h193_ d_z194_ d_h195_ d_j198_ d_h199_ d_M196_ d_hM197_ d_z204_ d_h205_ d_hq_v6_120y d_hM_ => ?_), (fun d_h193_ d_z206_ d_h207_ d_z208_ d_h209_ d_j212_ d_h213_ d_M210_ d_hM211_ d_z218_ d_h219_ d_hq_v6_120y d_hM_ => ?_)⟩)
      · have T := tail c_hF_31 d_hF_120 c_e175_ c_h177_ c_hs187_ c_hs192_ c_hs200_ d_h168_ d_h170_ d_h174_ d_e172_ d_h176_ d_h178_ d_h182_ d_e180_ d_hs190_
        exfalso
        omega
      · have T := tail c_hF_31 d_hF_120 c_e175_ c_h177_ c_hs187_ c_hs192_ c_hs200_ d_h168_ d_h170_ d_h174_ d_e172_ d_h176_ d_h178_ d_h182_ d_e180_ d_hs190_
        obtain ⟨t1, t2, t3⟩ := T
        have e1 := eT c_hq_v6_31y
        have e2 := eT d_hq_v6_120y
        rw [c_hM_, d_hM_]
        refine ⟨i32e (by omega), by omega, fun k hk => ?_, by rw [zupN d_hM211_ (fun z => cne (by omega) z.1)]; exact t1⟩
        by_cases q : k = d_j212_
        · rw [zupE d_hM211_ rfl q, zupE c_hM213_ rfl (by omega), c_h211_, d_h209_, c_h209_, d_h207_, c_e205_, d_e164_, c_hF198_ _ _ (by simp [S_c_X0_wouldHear]), show d_j165_ = k by omega, show c_j206_ = k by omega, r3 k hk]
        · rw [zupN d_hM211_ (fun z => q z.2), zupN c_hM213_ (fun z => by have := z.2; omega), d_hF188_ _ _ (by simp [S_c_X12_isPost]), c_hF198_ _ _ (by simp [S_c_X0_wouldHear])]
          exact r3 k hk) (fun y y' r s2 => by
    obtain ⟨y1, YM⟩ := y
    (try dsimp only at r s2)
    obtain ⟨r1, r2, -⟩ := r
    have er := eT r1
    have a : ∀ {z : Int32} {j : Nat}, FR S_c_X12_posts D0 YM → (j : Int) = u.toInt → z = YM.1 (67, 0, 0) j → y1.toInt < z.toInt → z.toInt ≤ 8 → False := fun {z j} F b c d e => by
      rw [F _ _ (by simp [S_c_X12_posts]), show j = wu by omega] at c
      have ec := eT c
      omega
    refine xE_ST_X12_posts_120 s2 (fun d_hv0_120 _ d_hF_120 d_j156_ d_h157_ d_z154_ d_e155_ d_h158_ d_h159_ d_h160_ d_j165_ d_h166_ d_z163_ d_e164_ d_z167_ d_h168_ d_z169_ d_h170_ d_j173_ d_h174_ d_z171_ d_e172_ d_z175_ d_h176_ d_z177_ d_h178_ d_j181_ d_h182_ d_z179_ d_e180_ d_M184_ _ d_hF188_ d_r183_ d_hs190_ d_h186_ => ⟨(fun d_h193_ d_z194_ d_h195_ d_j198_ d_h199_ d_M196_ d_hM197_ d_z204_ d_h205_ d_hq_v6_120y d_hM_ => ?_), (fun d_h193_ d_z206_ d_h207_ d_z208_ d_h209_ d_j212_ d_h213_ d_M210_ d_hM211_ d_z218_ d_h219_ d_hq_v6_120y d_hM_ => ?_)⟩)
    · exact a d_hF_120 d_h157_ d_e155_ d_h160_ d_h159_
    · exact a d_hF_120 d_h157_ d_e155_ d_h160_ d_h159_) (fun x x' r s1 => by
    obtain ⟨x1, XM⟩ := x
    (try dsimp only at r s1)
    obtain ⟨r1, r2, -⟩ := r
    have er := eT r1
    have a : ∀ {z : Int32}, FR (S_c_X0_choosePosts 0 wu wt) C0 XM → z = XM.1 (6, 0, wu) 1 → x1.toInt < z.toInt → False := fun {z} F c d => by
      rw [F _ _ (by simp [S_c_X0_choosePosts]), (hS wu (by omega)).2.1] at c
      have ec := eT c
      omega
    refine xE_ST_X0_choosePosts_31 s1 (fun c_hv0_31 _ c_hF_31 c_z174_ c_e175_ c_h176_ c_h177_ c_h180_ c_r183_ c_hs187_ c_r188_ c_hs192_ c_M194_ _ c_hF198_ c_r193_ c_hs200_ c_h196_ => ⟨(fun c_h201_ c_z202_ c_h203_ c_hq_v6_31y c_hM_ => ?_), (fun c_h201_ c_j206_ c_h207_ c_z204_ c_e205_ c_z208_ c_h209_ c_z210_ c_h211_ c_j214_ c_h215_ c_M212_ c_hM213_ c_z218_ c_h219_ c_hq_v6_31y c_hM_ => ?_)⟩)
    · exact a c_hF_31 c_e175_ c_h177_
    · exact a c_hF_31 c_e175_ c_h177_)
  exact ⟨g.2.2.1, g.2.2.2⟩
theorem marks {v u t y y' : Int32} {wu wt : Nat} {C0 D0 A A2 B B2 : mM} {n : Nat → Int32} (hX : PCX v u t C0 D0 n) (hwu : (wu : Int) = u.toInt) (hwt : (wt : Int) = t.toInt)
    (h1 : RCH (fun x_ y_ => ST_X0_choosePosts_3 0 wu wt v C0 x_.1 x_.2 y_.1 y_.2) ((0 : Int32), A) (y, A2)) (h2 : RCH (fun x_ y_ => ST_X12_posts_98 v u t D0 x_.1 x_.2 y_.1 y_.2) ((0 : Int32), B) (y', B2)) (h7 : (B.1 (12, 0, 0) 7).toInt = v.toInt)
    (fc : (D0.1 (67, 0, 0) t.toInt.toNat).toInt ≤ y.toInt ∨ 8 ≤ y.toInt) (fd : (D0.1 (67, 0, 0) t.toInt.toNat).toInt ≤ y'.toInt) : ∀ k : Nat, (k : Int) < (D0.1 (67, 0, 0) t.toInt.toNat).toInt → A2.1 (23, 0, 0) k = B2.1 (64, 0, 0) k := by
  have hX0 := hX
  obtain ⟨hR, hN, hn, hS, hv, hu, ht, cu, ct⟩ := hX
  have q0 := il_0
  have eu : u.toInt.toNat = wu := by omega
  have et : t.toInt.toNat = wt := by omega
  have c8 := ct.1
  have g := lockE (fun (x : Int32 × mM) (y : Int32 × mM) => x.1 = y.1 ∧ 0 ≤ x.1.toInt ∧ (∀ k : Nat, (k : Int) < x.1.toInt → x.2.1 (23, 0, 0) k = y.2.1 (64, 0, 0) k) ∧ (y.2.1 (12, 0, 0) 7).toInt = v.toInt) h1 h2 ⟨rfl, by dsimp only; omega, fun k hk => by dsimp only at hk; omega, h7⟩ (fun x z y w r s1 s2 => by
    obtain ⟨x1, XM⟩ := x
    obtain ⟨z1, ZM⟩ := z
    obtain ⟨y1, YM⟩ := y
    obtain ⟨w1, WM⟩ := w
    (try dsimp only at r s1 s2 ⊢)
    obtain ⟨r1, r2, r3, r4⟩ := r
    subst r1
    refine xE_ST_X12_posts_98 s2 (fun d_hv0_98 _ d_hF_98 d_j64_ d_h65_ d_z62_ d_e63_ d_h66_ d_h67_ d_h68_ d_j147_ d_h148_ d_M145_ d_hM146_ d_v6_120 d_hv0_120 d_M_120 d_hL_120 _ d_hF_120 d_j156_ d_h157_ d_z154_ d_e155_ d_h158_ d_h159_ d_h160_ d_z161_ d_h162_ d_hq_v5_98y d_hM_ => ?_)
    have szd : (D0.1 (67, 0, 0) u.toInt.toNat).toInt ≤ d_v6_120.toInt := by
      rw [d_hF_120 _ _ (by simp [S_c_X12_posts]), show d_j156_ = u.toInt.toNat by omega] at d_e155_
      have := eT d_e155_
      omega
    have sz2 : x1.toInt < (D0.1 (67, 0, 0) t.toInt.toNat).toInt := by
      rw [d_hF_98 _ _ (by simp [S_c_X12_posts]), show d_j64_ = t.toInt.toNat by omega] at d_e63_
      have := eT d_e63_
      omega
    refine xE_ST_X0_choosePosts_3 s1 (fun c_hv0_3 _ c_hF_3 c_z2_ c_e3_ c_h4_ c_h5_ c_h86_ c_j169_ c_h170_ c_M167_ c_hM168_ c_v6_31 c_hv0_31 c_M_31 c_hL_31 _ c_hF_31 c_z174_ c_e175_ c_h176_ => ⟨(fun c_h177_ c_z178_ c_h179_ c_hq_v5_3y c_hM_ => ?_), (fun c_h177_ c_h180_ c_z181_ c_h182_ c_hq_v5_3y c_hM_ => ?_)⟩)
    · have e1 := eT c_hq_v5_3y
      have e2 := eT d_hq_v5_98y
      have szc : (D0.1 (67, 0, 0) u.toInt.toNat).toInt ≤ c_v6_31.toInt := by
        rw [c_hF_31 _ _ (by simp [S_c_X0_choosePosts]), (hS wu (by omega)).2.1, ← eu] at c_e175_
        have := eT c_e175_
        omega
      have I := marks_in hX0 hwu hwt rfl ⟨r2, sz2⟩ c_hL_31 d_hL_120 (fun k hk => by
        by_cases q : k = d_j147_
        · rw [zupE d_hM146_ rfl q, zupE c_hM168_ rfl (by omega)]
        · rw [zupN d_hM146_ (fun z => q z.2), zupN c_hM168_ (fun z => by have := z.2; omega)]
          exact r3 k (by omega)) (by rw [zupN d_hM146_ (fun z => cne (by omega) z.1)]; exact r4) (Or.inl szc) szd
      rw [c_hM_, d_hM_]
      exact ⟨i32e (by omega), by omega, fun k hk => I.1 k (by omega), I.2⟩
    · have e1 := eT c_hq_v5_3y
      have e2 := eT d_hq_v5_98y
      have I := marks_in hX0 hwu hwt rfl ⟨r2, sz2⟩ c_hL_31 d_hL_120 (fun k hk => by
        by_cases q : k = d_j147_
        · rw [zupE d_hM146_ rfl q, zupE c_hM168_ rfl (by omega)]
        · rw [zupN d_hM146_ (fun z => q z.2), zupN c_hM168_ (fun z => by have := z.2; omega)]
          exact r3 k (by omega)) (by rw [zupN d_hM146_ (fun z => cne (by omega) z.1)]; exact r4) (Or.inr c_h180_) szd
      rw [c_hM_, d_hM_]
      exact ⟨i32e (by omega), by omega, fun k hk => I.1 k (by omega), I.2⟩) (fun y y' r s2 => by
    obtain ⟨y1, YM⟩ := y
    (try dsimp only at r s2)
    obtain ⟨r1, r2, -⟩ := r
    have er := eT r1
    refine xE_ST_X12_posts_98 s2 (fun d_hv0_98 _ d_hF_98 d_j64_ d_h65_ d_z62_ d_e63_ d_h66_ d_h67_ d_h68_ d_j147_ d_h148_ d_M145_ d_hM146_ d_v6_120 d_hv0_120 d_M_120 d_hL_120 _ d_hF_120 d_j156_ d_h157_ d_z154_ d_e155_ d_h158_ d_h159_ d_h160_ d_z161_ d_h162_ d_hq_v5_98y d_hM_ => ?_)
    rw [d_hF_98 _ _ (by simp [S_c_X12_posts]), show d_j64_ = t.toInt.toNat by omega] at d_e63_
    have := eT d_e63_
    omega) (fun x x' r s1 => by
    obtain ⟨x1, XM⟩ := x
    (try dsimp only at r s1)
    obtain ⟨r1, r2, -⟩ := r
    have er := eT r1
    have a : ∀ {z : Int32}, FR (S_c_X0_choosePosts 0 wu wt) C0 XM → z = XM.1 (6, 0, wt) 1 → x1.toInt < z.toInt → False := fun {z} F c d => by
      rw [F _ _ (by simp [S_c_X0_choosePosts]), (hS wt (by omega)).2.1, ← et] at c
      have ec := eT c
      omega
    refine xE_ST_X0_choosePosts_3 s1 (fun c_hv0_3 _ c_hF_3 c_z2_ c_e3_ c_h4_ c_h5_ c_h86_ c_j169_ c_h170_ c_M167_ c_hM168_ c_v6_31 c_hv0_31 c_M_31 c_hL_31 _ c_hF_31 c_z174_ c_e175_ c_h176_ => ⟨(fun c_h177_ c_z178_ c_h179_ c_hq_v5_3y c_hM_ => ?_), (fun c_h177_ c_h180_ c_z181_ c_h182_ c_hq_v5_3y c_hM_ => ?_)⟩)
    · exact a c_hF_3 c_e3_ c_h5_
    · exact a c_hF_3 c_e3_ c_h5_)
  (try dsimp only at g)
  obtain ⟨g1, g2, g3, g4⟩ := g
  have er := eT g1
  exact fun k hk => g3 k (by omega)
theorem pw_tab : ∀ k : Nat, k < 9 → ((1 : Int32) <<< (nI k &&& 31)).toInt ≤ 256 := by decide +kernel
theorem pw256 {z : Int32} (h : 0 ≤ z.toInt ∧ z.toInt ≤ 8) : ((1 : Int32) <<< (z &&& 31)).toInt ≤ 256 := by
  have e : z = nI z.toInt.toNat := nI_of_toInt (by omega)
  have t := pw_tab z.toInt.toNat (by omega)
  rw [← e] at t
  exact t
theorem pickC {wu wt : Nat} {C0 A A2 : mM} {y zu zt : Int32} (h : RCH (fun x_ y_ => ST_X0_choosePosts_102 0 wu wt C0 x_.1 x_.2 y_.1 y_.2) ((1 : Int32), A) (y, A2)) (h0 : (A.1 (0, 0, 0) 5).toInt = 0) (hu : A.1 (6, 0, wu) 1 = zu) (ht : A.1 (6, 0, wt) 1 = zt) (ht8 : zt.toInt ≤ 8) (hy : 256 ≤ y.toInt) : (0 ≤ (A2.1 (0, 0, 0) 5).toInt ∧ (A2.1 (0, 0, 0) 5).toInt ≤ 255) ∧ BST (PPm (A.1 (23, 0, 0)) zt.toInt ((1 : Int32) <<< (zu &&& 31)).toInt) pcI 256 (A2.1 (0, 0, 0) 5).toInt := by
  have q1 := il_1
  have pcV : ∀ v : Int32, pcI v.toInt = pcS v 8 := fun v => by unfold pcI; rw [← ofT v]
  have ppV : ∀ v : Int32, PPm (A.1 (23, 0, 0)) zt.toInt ((1 : Int32) <<< (zu &&& 31)).toInt v.toInt ↔ v.toInt < ((1 : Int32) <<< (zu &&& 31)).toInt ∧ SRV (A.1 (23, 0, 0)) zt.toInt v := fun v => by unfold PPm; rw [← ofT v]
  have g := rind h (fun z => ((1 ≤ z.1.toInt ∧ z.1.toInt ≤ 256) ∧ 0 ≤ (z.2.1 (0, 0, 0) 5).toInt ∧ (z.2.1 (0, 0, 0) 5).toInt ≤ 255) ∧ (∀ (c : rf) (k : Nat), ¬ (c = (0, 0, 0) ∧ k = 5) → z.2.1 c k = A.1 c k) ∧ BST (PPm (A.1 (23, 0, 0)) zt.toInt ((1 : Int32) <<< (zu &&& 31)).toInt) pcI z.1.toInt (z.2.1 (0, 0, 0) 5).toInt) ⟨by dsimp only; omega, fun _ _ _ => rfl, Or.inl ⟨by dsimp only; omega, fun m a b => by dsimp only at b; omega⟩⟩ (fun x z p st => by
    obtain ⟨x1, XM⟩ := x
    obtain ⟨z1, ZM⟩ := z
    (try dsimp only at p st ⊢)
    obtain ⟨p1, p2, p3⟩ := p
    have u6 : XM.1 (6, 0, wu) 1 = zu := (p2 _ _ (fun z => cne (by omega) z.1)).trans hu
    have t6 : XM.1 (6, 0, wt) 1 = zt := (p2 _ _ (fun z => cne (by omega) z.1)).trans ht
    have f23 : XM.1 (23, 0, 0) = A.1 (23, 0, 0) := funext fun k => p2 _ _ (fun z => cne (by omega) z.1)
    have up5 : ∀ {N : mM}, N = up XM (0, 0, 0) 5 x1 → (N.1 (0, 0, 0) 5).toInt = x1.toInt ∧ ∀ (c : rf) (k : Nat), ¬ (c = (0, 0, 0) ∧ k = 5) → N.1 c k = A.1 c k := fun {N} e => ⟨by rw [zupE e rfl rfl], fun c k hc => by rw [zupN e hc]; exact p2 c k hc⟩
    have srv : ∀ {zz r : Int32}, SP_X0_servesAll x1 zz XM r → zz = zt → (r.toInt = 0 ∧ ¬ SRV (A.1 (23, 0, 0)) zt.toInt x1) ∨ (r.toInt = 1 ∧ SRV (A.1 (23, 0, 0)) zt.toInt x1) := fun {zz r} a b => by
      rw [b] at a
      have S := servesC a ht8
      rw [f23] at S
      exact S
    refine xE_ST_X0_choosePosts_102 st (fun k_hv0_102 k_hv1_102 _ k_hF_102 k_h11_ k_z15_ k_e16_ => ⟨(fun k_h17_ k_z19_ k_e20_ k_h21_ k_z22_ k_h23_ => ⟨(fun k_h24_ k_z25_ k_h26_ k_hq_v5_102y k_hM_ => ?_), (fun k_h24_ k_z27_ k_e28_ k_h29_ k_r30_ k_hs34_ k_h33_ => ⟨(fun k_h35_ k_z36_ k_h37_ k_hq_v5_102y k_hM_ => ?_), (fun k_h35_ k_M38_ k_hM39_ k_z42_ k_h43_ k_hq_v5_102y k_hM_ => ?_)⟩)⟩), (fun k_h17_ k_r44_ k_hs48_ k_r51_ k_hs55_ => ⟨(fun k_h56_ k_z58_ k_h59_ k_hq_v5_102y k_hM_ => ?_), (fun k_h56_ k_z61_ k_e62_ k_h63_ k_z64_ k_h65_ => ⟨(fun k_h66_ k_z67_ k_h68_ k_hq_v5_102y k_hM_ => ?_), (fun k_h66_ k_z69_ k_e70_ k_h71_ k_r72_ k_hs76_ k_h75_ => ⟨(fun k_h77_ k_z78_ k_h79_ k_hq_v5_102y k_hM_ => ?_), (fun k_h77_ k_M80_ k_hM81_ k_z84_ k_h85_ k_hq_v5_102y k_hM_ => ?_)⟩)⟩)⟩)⟩)
    · have e := eT k_hq_v5_102y
      rw [k_e20_, u6] at k_h23_
      rw [k_h23_] at k_h24_
      rw [k_hM_]
      exact ⟨by omega, p2, BST_no p3 (by omega) (fun _ z => by have := ((ppV x1).mp z).1; omega)⟩
    · have e := eT k_hq_v5_102y
      have S := srv k_hs34_ (k_e28_.trans t6)
      rw [k_hM_]
      refine ⟨by omega, p2, BST_no p3 (by omega) (fun _ z => ?_)⟩
      rcases S with S | S
      · exact S.2 ((ppV x1).mp z).2
      · omega
    · have e := eT k_hq_v5_102y
      have e15 := eT k_e16_
      rw [k_e20_, u6] at k_h23_
      rw [k_h23_] at k_h24_
      have S := srv k_hs34_ (k_e28_.trans t6)
      have U := up5 k_hM39_
      rw [k_hM_, U.1]
      refine ⟨by omega, U.2, BST_first p3 (by omega) (by omega) (by omega) ((ppV x1).mpr ⟨k_h24_, ?_⟩)⟩
      rcases S with S | S
      · omega
      · exact S.2
    · have e := eT k_hq_v5_102y
      have e15 := eT k_e16_
      have c1 := jiP k_hs48_ (by omega)
      have c2 := jiP k_hs55_ (by omega)
      rw [k_hM_]
      refine ⟨by omega, p2, BST_keep p3 (by omega) (by omega) ?_⟩
      rw [pcV x1, ← k_e16_, pcV k_z15_, ← c1, ← c2]
      exact k_h56_
    · have e := eT k_hq_v5_102y
      rw [k_e62_, u6] at k_h65_
      rw [k_h65_] at k_h66_
      rw [k_hM_]
      exact ⟨by omega, p2, BST_no p3 (by omega) (fun _ z => by have := ((ppV x1).mp z).1; omega)⟩
    · have e := eT k_hq_v5_102y
      have S := srv k_hs76_ (k_e70_.trans t6)
      rw [k_hM_]
      refine ⟨by omega, p2, BST_no p3 (by omega) (fun _ z => ?_)⟩
      rcases S with S | S
      · exact S.2 ((ppV x1).mp z).2
      · omega
    · have e := eT k_hq_v5_102y
      have e15 := eT k_e16_
      rw [k_e62_, u6] at k_h65_
      rw [k_h65_] at k_h66_
      have S := srv k_hs76_ (k_e70_.trans t6)
      have c1 := jiP k_hs48_ (by omega)
      have c2 := jiP k_hs55_ (by omega)
      have U := up5 k_hM81_
      rw [k_hM_, U.1]
      refine ⟨by omega, U.2, BST_better p3 (by omega) (by omega) ((ppV x1).mpr ⟨k_h66_, ?_⟩) ?_⟩
      · rcases S with S | S
        · omega
        · exact S.2
      · rw [pcV x1, ← k_e16_, pcV k_z15_, ← c1, ← c2]
        exact k_h56_)
  (try dsimp only at g)
  obtain ⟨g1, g2, g3⟩ := g
  rw [show y.toInt = 256 by omega] at g3
  exact ⟨g1.2, g3⟩
theorem pickD {u t y b : Int32} {M : mM} (h : RCH (fun x_ y_ => ST_X12_posts_204 u t M x_.1 x_.2 y_.1 y_.2) ((0 : Int32), ((-1) : Int32)) (y, b)) (hu : 0 ≤ u.toInt) (ht : 0 ≤ t.toInt) (h1 : 1 ≤ (M.1 (67, 0, 0) t.toInt.toNat).toInt) (hy : ((1 : Int32) <<< (M.1 (67, 0, 0) u.toInt.toNat &&& 31)).toInt ≤ y.toInt) (hU : 1 ≤ ((1 : Int32) <<< (M.1 (67, 0, 0) u.toInt.toNat &&& 31)).toInt) : (b.toInt = -1 ∨ 1 ≤ b.toInt) ∧ BST (PPm (M.1 (64, 0, 0)) (M.1 (67, 0, 0) t.toInt.toNat).toInt ((1 : Int32) <<< (M.1 (67, 0, 0) u.toInt.toNat &&& 31)).toInt) pcI ((1 : Int32) <<< (M.1 (67, 0, 0) u.toInt.toNat &&& 31)).toInt b.toInt := by
  have q0 := il_0
  have qm := il_m1
  have pcV : ∀ v : Int32, pcI v.toInt = pcS v 8 := fun v => by unfold pcI; rw [← ofT v]
  have ppV : ∀ v : Int32, PPm (M.1 (64, 0, 0)) (M.1 (67, 0, 0) t.toInt.toNat).toInt ((1 : Int32) <<< (M.1 (67, 0, 0) u.toInt.toNat &&& 31)).toInt v.toInt ↔ v.toInt < ((1 : Int32) <<< (M.1 (67, 0, 0) u.toInt.toNat &&& 31)).toInt ∧ SRV (M.1 (64, 0, 0)) (M.1 (67, 0, 0) t.toInt.toNat).toInt v := fun v => by unfold PPm; rw [← ofT v]
  have g := rind h (fun z => ((0 ≤ z.1.toInt ∧ z.1.toInt ≤ ((1 : Int32) <<< (M.1 (67, 0, 0) u.toInt.toNat &&& 31)).toInt) ∧ (z.2.toInt = -1 ∨ 1 ≤ z.2.toInt)) ∧ BST (PPm (M.1 (64, 0, 0)) (M.1 (67, 0, 0) t.toInt.toNat).toInt ((1 : Int32) <<< (M.1 (67, 0, 0) u.toInt.toNat &&& 31)).toInt) pcI z.1.toInt z.2.toInt) ⟨by dsimp only; omega, Or.inl ⟨by dsimp only; omega, fun m a b => by dsimp only at b; omega⟩⟩ (fun x z p st => by
    obtain ⟨x1, x2⟩ := x
    obtain ⟨z1, z2⟩ := z
    (try dsimp only at p st ⊢)
    obtain ⟨p1, p3⟩ := p
    have srv : ∀ {j : Nat} {zz a b : Int32}, RCH (fun x_ y_ => ST_X12_posts_223 t M x1 x_.1 x_.2 y_.1 y_.2) ((0 : Int32), (1 : Int32)) (a, b) → (j : Int) = t.toInt → zz = M.1 (67, 0, 0) j → zz.toInt ≤ a.toInt → (b.toInt = 0 ∧ ¬ SRV (M.1 (64, 0, 0)) (M.1 (67, 0, 0) t.toInt.toNat).toInt x1) ∨ (b.toInt = 1 ∧ SRV (M.1 (64, 0, 0)) (M.1 (67, 0, 0) t.toInt.toNat).toInt x1) := fun {j zz a b} c d e f => by
      rw [show j = t.toInt.toNat by omega] at e
      rw [e] at f
      exact servesD c f ht (by omega)
    have pw : ∀ {j : Nat} {zz z : Int32}, (j : Int) = u.toInt → zz = M.1 (67, 0, 0) j → z = (1 : Int32) <<< (zz &&& 31) → z.toInt = ((1 : Int32) <<< (M.1 (67, 0, 0) u.toInt.toNat &&& 31)).toInt := fun {j zz z} a b c => by
      rw [c, b, show j = u.toInt.toNat by omega]
    have no0 : SRV (M.1 (64, 0, 0)) (M.1 (67, 0, 0) t.toInt.toNat).toInt x1 → 1 ≤ x1.toInt := fun s => by
      by_cases q : x1.toInt = 0
      · have e : x1 = 0 := i32e (by omega)
        rw [e] at s
        exact absurd (and0 _) (s 0 (by omega))
      · omega
    refine xE_ST_X12_posts_204 st (fun k_hv0_204 k_j78_ k_h79_ k_z76_ k_e77_ k_h80_ k_h81_ k_z82_ k_h83_ k_h84_ k_v8_223 k_hv0_223 k_v7_223 k_hv1_223 k_hL_223 k_j105_ k_h106_ k_z103_ k_e104_ k_h107_ k_h108_ k_h109_ => ⟨(fun k_h110_ k_z111_ k_h112_ k_hq_v6_204y k_hq_v5_204y => ?_), (fun k_h110_ => ⟨(fun k_h113_ k_z114_ k_h115_ k_hq_v6_204y k_hq_v5_204y => ?_), (fun k_h113_ _ k_r116_ k_hs120_ k_r121_ k_hs125_ => ⟨(fun k_h126_ k_z127_ k_h128_ k_hq_v6_204y k_hq_v5_204y => ?_), (fun k_h126_ k_z129_ k_h130_ k_hq_v6_204y k_hq_v5_204y => ?_)⟩)⟩)⟩)
    · have e1 := eT k_hq_v6_204y
      have w := pw k_h79_ k_e77_ k_h83_
      have S := srv k_hL_223 k_h106_ k_e104_ k_h109_
      rw [k_hq_v5_204y]
      refine ⟨by omega, BST_no p3 (by omega) (fun _ z => ?_)⟩
      rcases S with S | S
      · exact S.2 ((ppV x1).mp z).2
      · omega
    · have e1 := eT k_hq_v6_204y
      have w := pw k_h79_ k_e77_ k_h83_
      have S := srv k_hL_223 k_h106_ k_e104_ k_h109_
      rw [k_hq_v5_204y]
      rcases S with S | S
      · exact absurd S.1 k_h110_
      · have n1 := no0 S.2
        exact ⟨by omega, BST_first p3 (by omega) (by omega) n1 ((ppV x1).mpr ⟨by omega, S.2⟩)⟩
    · have e1 := eT k_hq_v6_204y
      have w := pw k_h79_ k_e77_ k_h83_
      have c1 := bitsP k_hs120_
      have c2 := bitsP k_hs125_
      rw [k_hq_v5_204y]
      refine ⟨by omega, BST_keep p3 (by omega) (by omega) ?_⟩
      rw [pcV x1, pcV x2, ← c1, ← c2]
      exact k_h126_
    · have e1 := eT k_hq_v6_204y
      have w := pw k_h79_ k_e77_ k_h83_
      have S := srv k_hL_223 k_h106_ k_e104_ k_h109_
      have c1 := bitsP k_hs120_
      have c2 := bitsP k_hs125_
      rw [k_hq_v5_204y]
      rcases S with S | S
      · exact absurd S.1 k_h110_
      · have n1 := no0 S.2
        refine ⟨by omega, BST_better p3 (by omega) (by omega) ((ppV x1).mpr ⟨by omega, S.2⟩) ?_⟩
        rw [pcV x1, pcV x2, ← c1, ← c2]
        exact k_h126_)
  (try dsimp only at g)
  obtain ⟨g1, g3⟩ := g
  rw [show y.toInt = ((1 : Int32) <<< (M.1 (67, 0, 0) u.toInt.toNat &&& 31)).toInt by omega] at g3
  exact ⟨g1.2, g3⟩
theorem pw1_tab : ∀ k : Nat, k < 9 → 1 ≤ ((1 : Int32) <<< (nI k &&& 31)).toInt := by decide +kernel
theorem pw1 {z : Int32} (h : 0 ≤ z.toInt ∧ z.toInt ≤ 8) : 1 ≤ ((1 : Int32) <<< (z &&& 31)).toInt := by
  have e : z = nI z.toInt.toNat := nI_of_toInt (by omega)
  have t := pw1_tab z.toInt.toNat (by omega)
  rw [← e] at t
  exact t
/-- what both choose -/
theorem choose_both {v u t r y y' b : Int32} {wu wt : Nat} {C0 C2 D0 B B2 B3 : mM} {n : Nat → Int32} (hX : PCX v u t C0 D0 n) (hwu : (wu : Int) = u.toInt) (hwt : (wt : Int) = t.toInt) (h1 : SP_X0_choosePosts 0 wu wt v C0 r C2) (hB : B = up D0 (12, 0, 0) 7 v)
    (h2 : RCH (fun x_ y_ => ST_X12_posts_98 v u t D0 x_.1 x_.2 y_.1 y_.2) ((0 : Int32), B) (y', B2)) (hF : FR S_c_X12_posts D0 B2) (fd : (D0.1 (67, 0, 0) t.toInt.toNat).toInt ≤ y'.toInt) (hB3 : B3 = up B2 (12, 0, 0) 7 (-1)) (h3 : RCH (fun x_ y_ => ST_X12_posts_204 u t B3 x_.1 x_.2 y_.1 y_.2) ((0 : Int32), ((-1) : Int32)) (y, b)) (fy : ((1 : Int32) <<< (D0.1 (67, 0, 0) u.toInt.toNat &&& 31)).toInt ≤ y.toInt) :
    (r.toInt = 0 ∧ b.toInt < 0) ∨ (r.toInt = 1 ∧ 0 ≤ b.toInt ∧ C2.1 (0, 0, 0) 5 = b ∧ b.toInt ≤ 255) := by
  have hX0 := hX
  obtain ⟨hR, hN, hn, hS, hv, hu, ht, cu, ct⟩ := hX
  have q0 := il_0
  have q1 := il_1
  have eu : u.toInt.toNat = wu := by omega
  have et : t.toInt.toNat = wt := by omega
  have d67 : ∀ k, B3.1 (67, 0, 0) k = D0.1 (67, 0, 0) k := fun k => by rw [zupN hB3 (fun z => cne (by omega) z.1)]; exact hF _ _ (by simp [S_c_X12_posts])
  have d64 : B3.1 (64, 0, 0) = B2.1 (64, 0, 0) := funext fun k => zupN hB3 (fun z => cne (by omega) z.1)
  have c8 := ct.1
  have cu8 := cu.1
  have P := pickD h3 hu.1 ht.1 (by rw [d67]; omega) (by rw [d67]; exact fy) (by rw [d67]; exact pw1 (by omega))
  rw [d67, d67, d64] at P
  have h7 : (B.1 (12, 0, 0) 7).toInt = v.toInt := by rw [zupE hB rfl rfl]
  have su : C0.1 (6, 0, wu) 1 = D0.1 (67, 0, 0) u.toInt.toNat := by rw [eu]; exact (hS wu (by omega)).2.1
  have stt : C0.1 (6, 0, wt) 1 = D0.1 (67, 0, 0) t.toInt.toNat := by rw [et]; exact (hS wt (by omega)).2.1
  have fin : ∀ {A N N2 : mM} {k k2 : Int32}, RCH (fun x_ y_ => ST_X0_choosePosts_3 0 wu wt v C0 x_.1 x_.2 y_.1 y_.2) ((0 : Int32), C0) (k, A) → FR (S_c_X0_choosePosts 0 wu wt) C0 A → ((D0.1 (67, 0, 0) t.toInt.toNat).toInt ≤ k.toInt ∨ 8 ≤ k.toInt) → N = up A (0, 0, 0) 5 0 → RCH (fun x_ y_ => ST_X0_choosePosts_102 0 wu wt C0 x_.1 x_.2 y_.1 y_.2) ((1 : Int32), N) (k2, N2) → 256 ≤ k2.toInt → ((N2.1 (0, 0, 0) 5).toInt = 0 ∧ b.toInt < 0) ∨ (¬ (N2.1 (0, 0, 0) 5).toInt = 0 ∧ 0 ≤ b.toInt ∧ N2.1 (0, 0, 0) 5 = b ∧ b.toInt ≤ 255) := fun {A N N2 k k2} a1 aF a2 a3 a4 a5 => by
    have mk := marks hX0 hwu hwt a1 h2 h7 a2 fd
    have n6 : ∀ w, N.1 (6, 0, w) 1 = C0.1 (6, 0, w) 1 := fun w => by rw [zupN a3 (fun z => cne (by omega) z.1)]; exact aF _ _ (by simp [S_c_X0_choosePosts])
    have n23 : N.1 (23, 0, 0) = A.1 (23, 0, 0) := funext fun k => zupN a3 (fun z => cne (by omega) z.1)
    have C := pickC (zu := D0.1 (67, 0, 0) u.toInt.toNat) (zt := D0.1 (67, 0, 0) t.toInt.toNat) a4 (by rw [zupE a3 rfl rfl]; exact q0) (by rw [n6]; exact su) (by rw [n6]; exact stt) (by omega) a5
    rw [n23] at C
    have pe : PPm (A.1 (23, 0, 0)) (D0.1 (67, 0, 0) t.toInt.toNat).toInt ((1 : Int32) <<< (D0.1 (67, 0, 0) u.toInt.toNat &&& 31)).toInt = PPm (B2.1 (64, 0, 0)) (D0.1 (67, 0, 0) t.toInt.toNat).toInt ((1 : Int32) <<< (D0.1 (67, 0, 0) u.toInt.toNat &&& 31)).toInt := funext fun m => propext (by
      unfold PPm
      exact and_congr Iff.rfl (SRV_cong mk))
    rw [pe] at C
    have U := BST_uniq C.2 (BST_ext P.2 (pw256 (by omega)) (fun m hm z => by have := z.1; omega))
    rcases U with U | U
    · exact Or.inl ⟨by omega, by omega⟩
    · exact Or.inr ⟨by omega, by omega, i32e U.2, by omega⟩
  have sz : ∀ {A : mM} {z : Int32}, FR (S_c_X0_choosePosts 0 wu wt) C0 A → z = A.1 (6, 0, wt) 1 → z.toInt = (D0.1 (67, 0, 0) t.toInt.toNat).toInt := fun {A z} a b => by
    rw [b, a _ _ (by simp [S_c_X0_choosePosts]), stt]
  refine xE_SP_X0_choosePosts h1 (fun v5_3 hv0_3 M_3 hL_3 _ hF_3 z2_ e3_ h4_ => ⟨(fun h5_ M6_ hM7_ v5_102 hv0_102 hv1_102 M_102 hL_102 _ hF_102 h11_ z12_ e13_ => ⟨(fun h14_ hr_ hM_ => ?_), (fun h14_ hr_ hM_ => ?_)⟩), (fun h5_ h86_ M87_ hM88_ v5_102 hv0_102 hv1_102 M_102 hL_102 _ hF_102 h92_ z93_ e94_ => ⟨(fun h95_ hr_ hM_ => ?_), (fun h95_ hr_ hM_ => ?_)⟩)⟩)
  · have s := sz hF_3 e3_
    have G := fin hL_3 hF_3 (Or.inl (by omega)) hM7_ hL_102 h11_
    have e := eT e13_
    have er := eT hr_
    rw [hM_]
    rcases G with G | G
    · exact Or.inl ⟨by omega, G.2⟩
    · exact absurd (by omega) G.1
  · have s := sz hF_3 e3_
    have G := fin hL_3 hF_3 (Or.inl (by omega)) hM7_ hL_102 h11_
    have e := eT e13_
    have er := eT hr_
    rw [hM_]
    rcases G with G | G
    · exact absurd G.1 (by omega)
    · exact Or.inr ⟨by omega, G.2.1, G.2.2.1, G.2.2.2⟩
  · have s := sz hF_3 e3_
    exfalso
    omega
  · have s := sz hF_3 e3_
    exfalso
    omega
def PVAL (v u t s : Int32) (n : Nat → Int32) : Prop := (0 ≤ v.toInt ∧ v.toInt < nWa n) ∧ (0 ≤ u.toInt ∧ u.toInt ≤ 3) ∧ (0 ≤ t.toInt ∧ t.toInt ≤ 3) ∧ (0 ≤ s.toInt ∧ s.toInt ≤ 1)
def PMIS (u t : Int32) (p : rf → Nat → Int32) : Prop := (p (66, 0, 0) u.toInt.toNat).toInt = 0 ∨ (p (66, 0, 0) t.toInt.toNat).toInt = 0
def PCEL (u t : Int32) (p : rf → Nat → Int32) : Prop := CLS p u.toInt.toNat ∧ CLS p t.toInt.toNat
theorem postsCl {v u t s r1 : Int32} {M M1 : mM} {n : Nat → Int32} {p : rf → Nat → Int32} (h : SP_X11_posts v u t s M r1 M1) (hW : (M.1 (10, 0, 0) 6).toInt = nWa n) (hw8 : nWa n ≤ 8) (hS : SHR M.1 p) : (¬ PVAL v u t s n ∧ r1.toInt = -1000001) ∨ (PVAL v u t s n ∧ PMIS u t p ∧ r1.toInt = -1000002) ∨ (PVAL v u t s n ∧ ¬ PMIS u t p ∧ ¬ PCEL u t p ∧ r1.toInt = -1000005) ∨
    (PVAL v u t s n ∧ ¬ PMIS u t p ∧ PCEL u t p ∧ ∃ (wu wt : Nat) (r : Int32) (C : mM), (wu : Int) = u.toInt ∧ (wt : Int) = t.toInt ∧ SP_X0_choosePosts 0 wu wt v M r C ∧ ((¬ r.toInt = 0 ∧ ¬ s.toInt = 0 ∧ r1 = C.1 (0, 0, 0) 5) ∨ (¬ r.toInt = 0 ∧ s.toInt = 0 ∧ SP_JI_bitCount (C.1 (0, 0, 0) 5) C r1) ∨ (r.toInt = 0 ∧ r1.toInt = -1000003))) := by
  have q0 := il_0
  have q1 := il_1
  have mis : ∀ {j : Nat} {x r : Int32}, (j : Int) = x.toInt → j < 4 → SP_X6_isMissing j M r → (r.toInt = 1 ∧ (p (66, 0, 0) x.toInt.toNat).toInt = 0) ∨ (r.toInt = 0 ∧ ¬ (p (66, 0, 0) x.toInt.toNat).toInt = 0) := fun {j x r} a b c => by
    have m := x6miss c
    rw [(hS j b).1, show j = x.toInt.toNat by omega] at m
    exact m
  have few : ∀ {j : Nat} {x r : Int32}, (j : Int) = x.toInt → j < 4 → SP_X6_holdsFewCells j M r → (r.toInt = 0 ∧ ¬ CLS p x.toInt.toNat) ∨ (r.toInt = 1 ∧ CLS p x.toInt.toNat) := fun {j x r} a b c => by
    have m := holdsC c hS b
    rw [show j = x.toInt.toNat by omega] at m
    exact m
  have wk : ∀ {r : Int32}, SP_X10_hasWalker 0 v M r → (r.toInt = 1 ∧ 0 ≤ v.toInt ∧ v.toInt < nWa n) ∨ (r.toInt = 0 ∧ ¬ (0 ≤ v.toInt ∧ v.toInt < nWa n)) := fun {r} a => by
    have := x10has a
    omega
  unfold PVAL PMIS PCEL
  refine xE_SP_X11_posts h ⟨(fun hs5_ h4_ => ⟨(fun hs11_ h10_ => ⟨(fun hs17_ h16_ => ⟨(fun hs23_ h22_ j25_ h26_ h27_ r28_ hs32_ h31_ => ⟨(fun h33_ M35_ _ hF39_ r34_ hs41_ hr_ hM_ => ?_), (fun h33_ j42_ h43_ h44_ r45_ hs49_ h48_ => ⟨(fun h50_ j51_ h52_ h53_ r54_ hs58_ h57_ => ⟨(fun h59_ M61_ _ hF65_ r60_ hs67_ hr_ hM_ => ?_), (fun h59_ j68_ h69_ h70_ r71_ hs75_ h74_ => ⟨(fun h76_ j77_ h78_ h79_ j80_ h81_ h82_ M84_ _ hF88_ r83_ hs90_ h86_ => ⟨(fun h91_ => ⟨(fun h92_ z93_ e94_ hr_ hM_ => ?_), (fun h92_ z95_ e96_ r97_ hs101_ hr_ hM_ => ?_)⟩), (fun h91_ M103_ _ hF107_ r102_ hs109_ hr_ hM_ => ?_)⟩), (fun h76_ M111_ _ hF115_ r110_ hs117_ hr_ hM_ => ?_)⟩)⟩), (fun h50_ M119_ _ hF123_ r118_ hs125_ hr_ hM_ => ?_)⟩)⟩), (fun hs23_ h22_ M128_ _ hF132_ r127_ hs134_ hr_ hM_ => ?_)⟩), (fun hs17_ h16_ M137_ _ hF141_ r136_ hs143_ hr_ hM_ => ?_)⟩), (fun hs11_ h10_ M146_ _ hF150_ r145_ hs152_ hr_ hM_ => ?_)⟩), (fun hs5_ M155_ _ hF159_ r154_ hs161_ hr_ hM_ => ?_)⟩
  · have W := wk hs5_
    have m1 := mis h26_ h27_ hs32_
    exact Or.inr (Or.inl ⟨⟨by omega, h10_, h16_, h22_⟩, Or.inl (by omega), by rw [hr_]; exact err2 hs41_⟩)
  · have W := wk hs5_
    have m1 := mis h26_ h27_ hs32_
    have m2 := mis h43_ h44_ hs49_
    have f1 := few h52_ h53_ hs58_
    refine Or.inr (Or.inr (Or.inl ⟨⟨by omega, h10_, h16_, h22_⟩, fun z => by omega, fun z => ?_, by rw [hr_]; exact err5 hs67_⟩))
    rcases f1 with f1 | f1
    · exact f1.2 z.1
    · omega
  · have W := wk hs5_
    have m1 := mis h26_ h27_ hs32_
    have m2 := mis h43_ h44_ hs49_
    have f1 := few h52_ h53_ hs58_
    have f2 := few h69_ h70_ hs75_
    exact Or.inr (Or.inr (Or.inr ⟨⟨by omega, h10_, h16_, h22_⟩, fun z => by omega, ⟨(f1.resolve_left (fun z => h59_ z.1)).2, (f2.resolve_left (fun z => h76_ z.1)).2⟩, _, _, _, _, h78_, h81_, hs90_, Or.inl ⟨h91_, h92_, by rw [hr_, e94_]⟩⟩))
  · have W := wk hs5_
    have m1 := mis h26_ h27_ hs32_
    have m2 := mis h43_ h44_ hs49_
    have f1 := few h52_ h53_ hs58_
    have f2 := few h69_ h70_ hs75_
    rw [e96_, ← hr_] at hs101_
    exact Or.inr (Or.inr (Or.inr ⟨⟨by omega, h10_, h16_, h22_⟩, fun z => by omega, ⟨(f1.resolve_left (fun z => h59_ z.1)).2, (f2.resolve_left (fun z => h76_ z.1)).2⟩, _, _, _, _, h78_, h81_, hs90_, Or.inr (Or.inl ⟨h91_, h92_, hs101_⟩)⟩))
  · have W := wk hs5_
    have m1 := mis h26_ h27_ hs32_
    have m2 := mis h43_ h44_ hs49_
    have f1 := few h52_ h53_ hs58_
    have f2 := few h69_ h70_ hs75_
    exact Or.inr (Or.inr (Or.inr ⟨⟨by omega, h10_, h16_, h22_⟩, fun z => by omega, ⟨(f1.resolve_left (fun z => h59_ z.1)).2, (f2.resolve_left (fun z => h76_ z.1)).2⟩, _, _, _, _, h78_, h81_, hs90_, Or.inr (Or.inr ⟨h91_, by rw [hr_]; exact err3 hs109_⟩)⟩))
  · have W := wk hs5_
    have m1 := mis h26_ h27_ hs32_
    have m2 := mis h43_ h44_ hs49_
    have f2 := few h69_ h70_ hs75_
    refine Or.inr (Or.inr (Or.inl ⟨⟨by omega, h10_, h16_, h22_⟩, fun z => by omega, fun z => ?_, by rw [hr_]; exact err5 hs117_⟩))
    rcases f2 with f2 | f2
    · exact f2.2 z.2
    · omega
  · have W := wk hs5_
    have m2 := mis h43_ h44_ hs49_
    exact Or.inr (Or.inl ⟨⟨by omega, h10_, h16_, h22_⟩, Or.inr (by omega), by rw [hr_]; exact err2 hs125_⟩)
  · exact Or.inl ⟨fun z => h22_ z.2.2.2, by rw [hr_]; exact err1 hs134_⟩
  · exact Or.inl ⟨fun z => h16_ z.2.2.1, by rw [hr_]; exact err1 hs143_⟩
  · exact Or.inl ⟨fun z => h10_ z.2.1, by rw [hr_]; exact err1 hs152_⟩
  · have W := wk hs5_
    exact Or.inl ⟨fun z => by have := z.1; omega, by rw [hr_]; exact err1 hs161_⟩
theorem postD {v u t s r2 : Int32} {D D2 : mM} (h : SP_X12_posts v u t s D r2 D2) : (¬ PVAL v u t s (D.1 (50, 0, 0)) ∧ r2.toInt = -1000001) ∨ (PVAL v u t s (D.1 (50, 0, 0)) ∧ PMIS u t D.1 ∧ r2.toInt = -1000002) ∨ (PVAL v u t s (D.1 (50, 0, 0)) ∧ ¬ PMIS u t D.1 ∧ ¬ PCEL u t D.1 ∧ r2.toInt = -1000005) ∨
    (PVAL v u t s (D.1 (50, 0, 0)) ∧ ¬ PMIS u t D.1 ∧ PCEL u t D.1 ∧ ∃ (B B2 B3 : mM) (y' y b : Int32), B = up D (12, 0, 0) 7 v ∧ RCH (fun x_ y_ => ST_X12_posts_98 v u t D x_.1 x_.2 y_.1 y_.2) ((0 : Int32), B) (y', B2) ∧ FR S_c_X12_posts D B2 ∧ (D.1 (67, 0, 0) t.toInt.toNat).toInt ≤ y'.toInt ∧ B3 = up B2 (12, 0, 0) 7 (-1) ∧ RCH (fun x_ y_ => ST_X12_posts_204 u t B3 x_.1 x_.2 y_.1 y_.2) ((0 : Int32), ((-1) : Int32)) (y, b) ∧ ((1 : Int32) <<< (D.1 (67, 0, 0) u.toInt.toNat &&& 31)).toInt ≤ y.toInt ∧ ((0 ≤ b.toInt ∧ ¬ s.toInt = 0 ∧ r2 = b) ∨ (0 ≤ b.toInt ∧ s.toInt = 0 ∧ r2.toInt = pcS b 8) ∨ (b.toInt < 0 ∧ r2.toInt = -1000003))) := by
  have q0 := il_0
  have q1 := il_1
  have wk : ∀ {r : Int32}, SP_is2 v D r → (r.toInt = 1 ∧ 0 ≤ v.toInt ∧ v.toInt < nWa (D.1 (50, 0, 0))) ∨ (r.toInt = 0 ∧ ¬ (0 ≤ v.toInt ∧ v.toInt < nWa (D.1 (50, 0, 0)))) := fun {r} a => is2x a
  have sizes : ∀ {j64_ j78_ : Nat} {z62_ z76_ z82_ y' y : Int32} {B2 B3 : mM}, FR S_c_X12_posts D B2 → B3 = up B2 (12, 0, 0) 7 (-1) → (j64_ : Int) = t.toInt → z62_ = B2.1 (67, 0, 0) j64_ → z62_.toInt ≤ y'.toInt → (j78_ : Int) = u.toInt → z76_ = B3.1 (67, 0, 0) j78_ → z82_ = (1 : Int32) <<< (z76_ &&& 31) → z82_.toInt ≤ y.toInt → (D.1 (67, 0, 0) t.toInt.toNat).toInt ≤ y'.toInt ∧ ((1 : Int32) <<< (D.1 (67, 0, 0) u.toInt.toNat &&& 31)).toInt ≤ y.toInt := fun {j64_ j78_ z62_ z76_ z82_ y' y B2 B3} F hB a1 a2 a3 b1 b2 b3 b4 => by
    rw [F _ _ (by simp [S_c_X12_posts]), show j64_ = t.toInt.toNat by omega] at a2
    rw [zupN hB (fun z => cne (by omega) z.1), F _ _ (by simp [S_c_X12_posts]), show j78_ = u.toInt.toNat by omega] at b2
    rw [a2] at a3
    rw [b3, b2] at b4
    exact ⟨a3, b4⟩
  have ej : ∀ {j : Nat} {x z : Int32}, (j : Int) = x.toInt → z = D.1 (66, 0, 0) j → z.toInt = (D.1 (66, 0, 0) x.toInt.toNat).toInt := fun {j x z} a b => by rw [b, show j = x.toInt.toNat by omega]
  unfold PVAL PMIS PCEL
  refine xE_SP_X12_posts h ⟨(fun hs5_ h4_ => ⟨(fun hs11_ h10_ => ⟨(fun hs17_ h16_ => ⟨(fun hs23_ h22_ j27_ h28_ z25_ e26_ => ⟨(fun h29_ M31_ _ hF35_ r30_ hs37_ h33_ hr_ hM_ => ?_), (fun h29_ j40_ h41_ z38_ e39_ => ⟨(fun h42_ => ⟨(fun hs47_ h46_ => ⟨(fun hs53_ h52_ M55_ hM56_ v5_98 hv0_98 M_98 hL_98 _ hF_98 j64_ h65_ z62_ e63_ h66_ h67_ h68_ M69_ hM70_ v6_204 hv0_204 v5_204 hL_204 j78_ h79_ z76_ e77_ h80_ h81_ z82_ h83_ h84_ => ⟨(fun h85_ => ⟨(fun h86_ hr_ hM_ => ?_), (fun h86_ _ r87_ hs91_ hr_ hM_ => ?_)⟩), (fun h85_ _ M93_ _ hF97_ r92_ hs99_ h95_ hr_ hM_ => ?_)⟩), (fun hs53_ M222_ _ hF226_ r221_ hs228_ h224_ hr_ hM_ => ?_)⟩), (fun hs47_ M232_ _ hF236_ r231_ hs238_ h234_ hr_ hM_ => ?_)⟩), (fun h42_ M240_ _ hF244_ r239_ hs246_ h242_ hr_ hM_ => ?_)⟩)⟩), (fun hs23_ h22_ M249_ _ hF253_ r248_ hs255_ h251_ hr_ hM_ => ?_)⟩), (fun hs17_ h16_ M258_ _ hF262_ r257_ hs264_ h260_ hr_ hM_ => ?_)⟩), (fun hs11_ h10_ M267_ _ hF271_ r266_ hs273_ h269_ hr_ hM_ => ?_)⟩), (fun hs5_ M276_ _ hF280_ r275_ hs282_ h278_ hr_ hM_ => ?_)⟩
  · have W := wk hs5_
    have m1 := ej h28_ e26_
    exact Or.inr (Or.inl ⟨⟨by omega, h10_, h16_, h22_⟩, Or.inl (by omega), by rw [hr_]; exact h33_⟩)
  · have W := wk hs5_
    have m1 := ej h28_ e26_
    have m2 := ej h41_ e39_
    have f1 := areC0 hs47_ h10_
    have f2 := areC0 hs53_ h16_
    have S := sizes hF_98 hM70_ h65_ e63_ h68_ h79_ e77_ h83_ h84_
    exact Or.inr (Or.inr (Or.inr ⟨⟨by omega, h10_, h16_, h22_⟩, fun z => by omega, ⟨(f1.resolve_left (fun z => by omega)).2, (f2.resolve_left (fun z => by omega)).2⟩, _, _, _, _, _, _, hM56_, hL_98, hF_98, S.1, hM70_, hL_204, S.2, Or.inl ⟨h85_, h86_, hr_⟩⟩))
  · have W := wk hs5_
    have m1 := ej h28_ e26_
    have m2 := ej h41_ e39_
    have f1 := areC0 hs47_ h10_
    have f2 := areC0 hs53_ h16_
    have S := sizes hF_98 hM70_ h65_ e63_ h68_ h79_ e77_ h83_ h84_
    exact Or.inr (Or.inr (Or.inr ⟨⟨by omega, h10_, h16_, h22_⟩, fun z => by omega, ⟨(f1.resolve_left (fun z => by omega)).2, (f2.resolve_left (fun z => by omega)).2⟩, _, _, _, _, _, _, hM56_, hL_98, hF_98, S.1, hM70_, hL_204, S.2, Or.inr (Or.inl ⟨h85_, h86_, by rw [hr_]; exact bitsP hs91_⟩)⟩))
  · have W := wk hs5_
    have m1 := ej h28_ e26_
    have m2 := ej h41_ e39_
    have f1 := areC0 hs47_ h10_
    have f2 := areC0 hs53_ h16_
    have S := sizes hF_98 hM70_ h65_ e63_ h68_ h79_ e77_ h83_ h84_
    exact Or.inr (Or.inr (Or.inr ⟨⟨by omega, h10_, h16_, h22_⟩, fun z => by omega, ⟨(f1.resolve_left (fun z => by omega)).2, (f2.resolve_left (fun z => by omega)).2⟩, _, _, _, _, _, _, hM56_, hL_98, hF_98, S.1, hM70_, hL_204, S.2, Or.inr (Or.inr ⟨h85_, by rw [hr_]; exact h95_⟩)⟩))
  · have W := wk hs5_
    have m1 := ej h28_ e26_
    have m2 := ej h41_ e39_
    have f2 := areC0 hs53_ h16_
    refine Or.inr (Or.inr (Or.inl ⟨⟨by omega, h10_, h16_, h22_⟩, fun z => by omega, fun z => ?_, by rw [hr_]; exact h224_⟩))
    rcases f2 with f2 | f2
    · exact f2.2 z.2
    · omega
  · have W := wk hs5_
    have m1 := ej h28_ e26_
    have m2 := ej h41_ e39_
    have f1 := areC0 hs47_ h10_
    refine Or.inr (Or.inr (Or.inl ⟨⟨by omega, h10_, h16_, h22_⟩, fun z => by omega, fun z => ?_, by rw [hr_]; exact h234_⟩))
    rcases f1 with f1 | f1
    · exact f1.2 z.1
    · omega
  · have W := wk hs5_
    have m2 := ej h41_ e39_
    exact Or.inr (Or.inl ⟨⟨by omega, h10_, h16_, h22_⟩, Or.inr (by omega), by rw [hr_]; exact h242_⟩)
  · exact Or.inl ⟨fun z => h22_ z.2.2.2, by rw [hr_]; exact h251_⟩
  · exact Or.inl ⟨fun z => h16_ z.2.2.1, by rw [hr_]; exact h260_⟩
  · exact Or.inl ⟨fun z => h10_ z.2.1, by rw [hr_]; exact h269_⟩
  · have W := wk hs5_
    exact Or.inl ⟨fun z => by have := z.1; omega, by rw [hr_]; exact h278_⟩
theorem an_29 {v : Int32} {u : Int32} {t : Int32} {s : Int32} {M M1 D D2 : mM} {r1 r2 : Int32} (h1 : SP_X11_posts v u t s M r1 M1) (h2 : SP_X12_posts v u t s D r2 D2) (hR : RW 0 M.1 (D.1 (50, 0, 0))) (hD : InvD D) (hu : (D.1 (12, 0, 0) 7).toInt = -1) (hS : SHR M.1 D.1) : r1 = r2 := by
  have q0 := il_0
  have q1 := il_1
  have bW := eT hR.1.2.2.1.1
  have nW := nWa_b hD.2.1
  have a := postsCl (n := D.1 (50, 0, 0)) (p := D.1) h1 bW nW.2 hS
  have b := postD h2
  rcases a with ⟨a1, a2⟩ | ⟨a1, a2, a3⟩ | ⟨a1, a2, a3, a4⟩ | ⟨a1, a2, a3, wu, wt, r, C, c1, c2, c3, c4⟩
  · rcases b with ⟨b1, b2⟩ | ⟨b1, -⟩ | ⟨b1, -⟩ | ⟨b1, -⟩
    · exact i32e (by omega)
    · exact absurd b1 a1
    · exact absurd b1 a1
    · exact absurd b1 a1
  · rcases b with ⟨b1, -⟩ | ⟨b1, b2, b3⟩ | ⟨b1, b2, -⟩ | ⟨b1, b2, -⟩
    · exact absurd a1 b1
    · exact i32e (by omega)
    · exact absurd a2 b2
    · exact absurd a2 b2
  · rcases b with ⟨b1, -⟩ | ⟨b1, b2, b3⟩ | ⟨b1, b2, b3, b4⟩ | ⟨b1, b2, b3, -⟩
    · exact absurd a1 b1
    · exact absurd b2 a2
    · exact i32e (by omega)
    · exact absurd b3 a3
  · rcases b with ⟨b1, -⟩ | ⟨b1, b2, b3⟩ | ⟨b1, b2, b3, b4⟩ | ⟨b1, b2, b3, B, B2, B3, y', y, b, d1, d2, d3, d4, d5, d6, d7, d8⟩
    · exact absurd a1 b1
    · exact absurd b2 a2
    · exact absurd a3 b3
    · have X : PCX v u t M D (D.1 (50, 0, 0)) := ⟨hR.1, hD.2.1, rfl, hS, a1.1, a1.2.1, a1.2.2.1, a3.1, a3.2⟩
      have G := choose_both X c1 c2 c3 d1 d2 d3 d4 d5 d6 d7
      rcases G with ⟨g1, g2⟩ | ⟨g1, g2, g3, g4⟩
      · rcases c4 with c | c | c
        · exact absurd g1 c.1
        · exact absurd g1 c.1
        · rcases d8 with d | d | d
          · exact absurd d.1 (by omega)
          · exact absurd d.1 (by omega)
          · exact i32e (by omega)
      · rcases c4 with c | c | c
        · rcases d8 with d | d | d
          · rw [c.2.2, d.2.2, g3]
          · exact absurd d.2.1 c.2.1
          · exact absurd d.1 (by omega)
        · rcases d8 with d | d | d
          · exact absurd c.2.1 d.2.1
          · have cc := c.2.2
            rw [g3] at cc
            have J := jiP cc (by omega)
            exact i32e (by omega)
          · exact absurd d.1 (by omega)
        · omega
end
section
/-! the calls step by step, the full relation -/
theorem sy_0 {v : Int32} {u : Int32} {M M1 M2 : mM} {r1 r2 : Int32} (h : RY M.1) (hD0 : InvD M) (hD : InvD M1) (hD2 : InvD M2) (hF1 : FR S_c_X11_thing M M1) (hs1 : SP_X11_thing v u M r1 M1) (hF2 : FR S_c_X12_thing_ M1 M2) (hs2 : SP_X12_thing_ v u M1 r2 M2) : RY M2.1 ∧ r1 = r2 := by
  have hx := (st_0 h.1 hD0 hF1 hs1 hF2 hs2).1
  have s1 : cC S_c_X11_thing := fun c k q => by simp only [S_c_X11_thing, or_false] at q; omega
  have s2 : cD S_c_X12_thing_ := fun c k q => by simp only [S_c_X12_thing_, or_false] at q; omega
  have c1 : ∀ (c : rf) (k : Nat), c.1 = 12 ∨ 50 ≤ c.1 → M1.1 c k = M.1 c k := fun c k a => hF1 c k (fun q => s1 c k q a)
  have c2 : ∀ (c : rf) (k : Nat), ¬ (c.1 = 12 ∨ 50 ≤ c.1) → M2.1 c k = M1.1 c k := fun c k a => hF2 c k (fun q => a (s2 c k q))
  have e50 : M1.1 (50, 0, 0) = M.1 (50, 0, 0) := funext fun k => c1 _ _ (by simp)
  have hR : RW 0 M.1 (M1.1 (50, 0, 0)) := by rw [e50]; exact h.2.2.1
  have hu : (M1.1 (12, 0, 0) 7).toInt = -1 := by rw [c1 _ _ (by simp)]; exact h.2.1
  have h7 : (M2.1 (12, 0, 0) 7).toInt = -1 := by rw [hF2 (12, 0, 0) 7 (fun q => by simp only [S_c_X12_thing_, or_false] at q; omega)]; exact hu
  have B := cb_0 hs1 hs2 hR hD hu
  exact ⟨RY_of h hF1 hF2 s1 s2 hx hD2.2.1 hD2.2.2.1 h7 B.1 (Or.inl ⟨hF2 _ _ (fun q => by simp only [S_c_X12_thing_, or_false] at q; omega), fun c k a b q => by unfold wR at a; simp only [S_c_X11_thing, or_false] at q; omega, fun k q => by simp only [S_c_X12_thing_, or_false] at q; omega⟩) (SHR_keep h.2.2.2.2 (fun c k a => hF1 c k (fun q => by simp only [S_c_X11_thing, or_false] at q; omega)) (fun c k a => by rw [hF2 c k (fun q => by simp only [S_c_X12_thing_, or_false] at q; omega), c1 c k (by omega)])), B.2⟩
theorem sy_1 {v : Int32} {u : Int32} {M M1 M2 : mM} {r1 r2 : Int32} (h : RY M.1) (hD0 : InvD M) (hD : InvD M1) (hD2 : InvD M2) (hF1 : FR S_c_X11_thingIs M M1) (hs1 : SP_X11_thingIs v u M r1 M1) (hF2 : FR S_c_X12_thingIs M1 M2) (hs2 : SP_X12_thingIs v u M1 r2 M2) : RY M2.1 ∧ True := by
  have hx := (st_1 h.1 hD0 hF1 hs1 hF2 hs2).1
  have s1 : cC S_c_X11_thingIs := fun c k q => by simp only [S_c_X11_thingIs, or_false] at q; omega
  have s2 : cD S_c_X12_thingIs := fun c k q => by simp only [S_c_X12_thingIs, or_false] at q; omega
  have c1 : ∀ (c : rf) (k : Nat), c.1 = 12 ∨ 50 ≤ c.1 → M1.1 c k = M.1 c k := fun c k a => hF1 c k (fun q => s1 c k q a)
  have c2 : ∀ (c : rf) (k : Nat), ¬ (c.1 = 12 ∨ 50 ≤ c.1) → M2.1 c k = M1.1 c k := fun c k a => hF2 c k (fun q => a (s2 c k q))
  have e50 : M1.1 (50, 0, 0) = M.1 (50, 0, 0) := funext fun k => c1 _ _ (by simp)
  have hR : RW 0 M.1 (M1.1 (50, 0, 0)) := by rw [e50]; exact h.2.2.1
  have hu : (M1.1 (12, 0, 0) 7).toInt = -1 := by rw [c1 _ _ (by simp)]; exact h.2.1
  have h7 : (M2.1 (12, 0, 0) 7).toInt = -1 := by rw [hF2 (12, 0, 0) 7 (fun q => by simp only [S_c_X12_thingIs, or_false] at q; omega)]; exact hu
  exact ⟨RY_fr h hF1 hF2 s1 s2 hx hD2.2.1 hD2.2.2.1 (fun c k a b q => by unfold wR at a; simp only [S_c_X11_thingIs, or_false] at q; omega) (fun c k a q => by rcases a with rfl | rfl | ⟨rfl, rfl⟩ | a | a | a <;> (simp only [S_c_X12_thingIs, or_false] at q <;> omega)) (fun c k a q => by simp only [S_c_X11_thingIs, or_false] at q; omega) h7, trivial⟩
theorem sy_2 {v : Int32} {u : Int32} {t : Int32} {M M1 M2 : mM} {r1 r2 : Int32} (h : RY M.1) (hD0 : InvD M) (hD : InvD M1) (hD2 : InvD M2) (hF1 : FR S_c_X11_moves M M1) (hs1 : SP_X11_moves v u t M r1 M1) (hF2 : FR S_c_X12_moves M1 M2) (hs2 : SP_X12_moves v u t M1 r2 M2) : RY M2.1 ∧ r1 = r2 := by
  have hx := (st_2 h.1 hD0 hF1 hs1 hF2 hs2).1
  have s1 : cC S_c_X11_moves := fun c k q => by simp only [S_c_X11_moves, or_false] at q; omega
  have s2 : cD S_c_X12_moves := fun c k q => by simp only [S_c_X12_moves, or_false] at q; omega
  have c1 : ∀ (c : rf) (k : Nat), c.1 = 12 ∨ 50 ≤ c.1 → M1.1 c k = M.1 c k := fun c k a => hF1 c k (fun q => s1 c k q a)
  have c2 : ∀ (c : rf) (k : Nat), ¬ (c.1 = 12 ∨ 50 ≤ c.1) → M2.1 c k = M1.1 c k := fun c k a => hF2 c k (fun q => a (s2 c k q))
  have e50 : M1.1 (50, 0, 0) = M.1 (50, 0, 0) := funext fun k => c1 _ _ (by simp)
  have hR : RW 0 M.1 (M1.1 (50, 0, 0)) := by rw [e50]; exact h.2.2.1
  have hu : (M1.1 (12, 0, 0) 7).toInt = -1 := by rw [c1 _ _ (by simp)]; exact h.2.1
  have h7 : (M2.1 (12, 0, 0) 7).toInt = -1 := by rw [hF2 (12, 0, 0) 7 (fun q => by simp only [S_c_X12_moves, or_false] at q; omega)]; exact hu
  have B := cb_2 hs1 hs2 hR hD hu
  exact ⟨RY_of h hF1 hF2 s1 s2 hx hD2.2.1 hD2.2.2.1 h7 B.1 (Or.inl ⟨hF2 _ _ (fun q => by simp only [S_c_X12_moves, or_false] at q; omega), fun c k a b q => by unfold wR at a; simp only [S_c_X11_moves, or_false] at q; omega, fun k q => by simp only [S_c_X12_moves, or_false] at q; omega⟩) (SHR_keep h.2.2.2.2 (fun c k a => hF1 c k (fun q => by simp only [S_c_X11_moves, or_false] at q; omega)) (fun c k a => by rw [hF2 c k (fun q => by simp only [S_c_X12_moves, or_false] at q; omega), c1 c k (by omega)])), B.2⟩
theorem sy_3 {v : Int32} {M M1 M2 : mM} {r1 r2 : Int32} (h : RY M.1) (hD0 : InvD M) (hD : InvD M1) (hD2 : InvD M2) (hF1 : FR S_c_X11_away M M1) (hs1 : SP_X11_away v M r1 M1) (hF2 : FR S_c_X12_away M1 M2) (hs2 : SP_X12_away v M1 r2 M2) : RY M2.1 ∧ r1 = r2 := by
  have hx := (st_3 h.1 hD0 hF1 hs1 hF2 hs2).1
  have s1 : cC S_c_X11_away := fun c k q => by simp only [S_c_X11_away, or_false] at q; omega
  have s2 : cD S_c_X12_away := fun c k q => by simp only [S_c_X12_away, or_false] at q; omega
  have c1 : ∀ (c : rf) (k : Nat), c.1 = 12 ∨ 50 ≤ c.1 → M1.1 c k = M.1 c k := fun c k a => hF1 c k (fun q => s1 c k q a)
  have c2 : ∀ (c : rf) (k : Nat), ¬ (c.1 = 12 ∨ 50 ≤ c.1) → M2.1 c k = M1.1 c k := fun c k a => hF2 c k (fun q => a (s2 c k q))
  have e50 : M1.1 (50, 0, 0) = M.1 (50, 0, 0) := funext fun k => c1 _ _ (by simp)
  have hR : RW 0 M.1 (M1.1 (50, 0, 0)) := by rw [e50]; exact h.2.2.1
  have hu : (M1.1 (12, 0, 0) 7).toInt = -1 := by rw [c1 _ _ (by simp)]; exact h.2.1
  have h7 : (M2.1 (12, 0, 0) 7).toInt = -1 := by rw [hF2 (12, 0, 0) 7 (fun q => by simp only [S_c_X12_away, or_false] at q; omega)]; exact hu
  have B := cb_3 hs1 hs2 hR hD hu
  exact ⟨RY_of h hF1 hF2 s1 s2 hx hD2.2.1 hD2.2.2.1 h7 B.1 (Or.inl ⟨hF2 _ _ (fun q => by simp only [S_c_X12_away, or_false] at q; omega), fun c k a b q => by unfold wR at a; simp only [S_c_X11_away, or_false] at q; omega, fun k q => by simp only [S_c_X12_away, or_false] at q; omega⟩) (SHR_keep h.2.2.2.2 (fun c k a => hF1 c k (fun q => by simp only [S_c_X11_away, or_false] at q; omega)) (fun c k a => by rw [hF2 c k (fun q => by simp only [S_c_X12_away, or_false] at q; omega), c1 c k (by omega)])), B.2⟩
theorem sy_4 {v : Int32} {u : Int32} {t : Int32} {M M1 M2 : mM} {r1 r2 : Int32} (h : RY M.1) (hD0 : InvD M) (hD : InvD M1) (hD2 : InvD M2) (hF1 : FR S_c_X11_kind M M1) (hs1 : SP_X11_kind v u t M r1 M1) (hF2 : FR S_c_X12_kind M1 M2) (hs2 : SP_X12_kind v u t M1 r2 M2) : RY M2.1 ∧ True := by
  have hx := (st_4 h.1 hD0 hF1 hs1 hF2 hs2).1
  have s1 : cC S_c_X11_kind := fun c k q => by simp only [S_c_X11_kind, or_false] at q; omega
  have s2 : cD S_c_X12_kind := fun c k q => by simp only [S_c_X12_kind, or_false] at q; omega
  have c1 : ∀ (c : rf) (k : Nat), c.1 = 12 ∨ 50 ≤ c.1 → M1.1 c k = M.1 c k := fun c k a => hF1 c k (fun q => s1 c k q a)
  have c2 : ∀ (c : rf) (k : Nat), ¬ (c.1 = 12 ∨ 50 ≤ c.1) → M2.1 c k = M1.1 c k := fun c k a => hF2 c k (fun q => a (s2 c k q))
  have e50 : M1.1 (50, 0, 0) = M.1 (50, 0, 0) := funext fun k => c1 _ _ (by simp)
  have hR : RW 0 M.1 (M1.1 (50, 0, 0)) := by rw [e50]; exact h.2.2.1
  have hu : (M1.1 (12, 0, 0) 7).toInt = -1 := by rw [c1 _ _ (by simp)]; exact h.2.1
  have h7 : (M2.1 (12, 0, 0) 7).toInt = -1 := by rw [hF2 (12, 0, 0) 7 (fun q => by simp only [S_c_X12_kind, or_false] at q; omega)]; exact hu
  have hL : LWR 0 M1.1 (M2.1 (50, 0, 0)) := LWR_keep (LWR_rx hx) (fun r k hr => (c2 _ _ (by dsimp only; omega)).symm) (fun _ _ => rfl)
  exact ⟨RY_of h hF1 hF2 s1 s2 hx hD2.2.1 hD2.2.2.1 h7 (cb_4 hF1 hs2 hR hD hL) (Or.inl ⟨hF2 _ _ (fun q => by simp only [S_c_X12_kind, or_false] at q; omega), fun c k a b q => by unfold wR at a; simp only [S_c_X11_kind, or_false] at q; omega, fun k q => by simp only [S_c_X12_kind, or_false] at q; omega⟩) (SHR_keep h.2.2.2.2 (fun c k a => hF1 c k (fun q => by simp only [S_c_X11_kind, or_false] at q; omega)) (fun c k a => by rw [hF2 c k (fun q => by simp only [S_c_X12_kind, or_false] at q; omega), c1 c k (by omega)])), trivial⟩
theorem sy_5 {v : Int32} {M M1 M2 : mM} {r1 r2 : Int32} (h : RY M.1) (hD0 : InvD M) (hD : InvD M1) (hD2 : InvD M2) (hF1 : FR S_c_X11_at M M1) (hs1 : SP_X11_at v M r1 M1) (hF2 : FR S_c_X12_at M1 M2) (hs2 : SP_X12_at v M1 r2 M2) : RY M2.1 ∧ True := by
  have hx := (st_5 h.1 hD0 hF1 hs1 hF2 hs2).1
  have s1 : cC S_c_X11_at := fun c k q => by simp only [S_c_X11_at, or_false] at q; omega
  have s2 : cD S_c_X12_at := fun c k q => by simp only [S_c_X12_at, or_false] at q; omega
  have c1 : ∀ (c : rf) (k : Nat), c.1 = 12 ∨ 50 ≤ c.1 → M1.1 c k = M.1 c k := fun c k a => hF1 c k (fun q => s1 c k q a)
  have c2 : ∀ (c : rf) (k : Nat), ¬ (c.1 = 12 ∨ 50 ≤ c.1) → M2.1 c k = M1.1 c k := fun c k a => hF2 c k (fun q => a (s2 c k q))
  have e50 : M1.1 (50, 0, 0) = M.1 (50, 0, 0) := funext fun k => c1 _ _ (by simp)
  have hR : RW 0 M.1 (M1.1 (50, 0, 0)) := by rw [e50]; exact h.2.2.1
  have hu : (M1.1 (12, 0, 0) 7).toInt = -1 := by rw [c1 _ _ (by simp)]; exact h.2.1
  have h7 : (M2.1 (12, 0, 0) 7).toInt = -1 := by rw [hF2 (12, 0, 0) 7 (fun q => by simp only [S_c_X12_at, or_false] at q; omega)]; exact hu
  exact ⟨RY_fr h hF1 hF2 s1 s2 hx hD2.2.1 hD2.2.2.1 (fun c k a b q => by unfold wR at a; simp only [S_c_X11_at, or_false] at q; omega) (fun c k a q => by rcases a with rfl | rfl | ⟨rfl, rfl⟩ | a | a | a <;> (simp only [S_c_X12_at, or_false] at q <;> omega)) (fun c k a q => by simp only [S_c_X11_at, or_false] at q; omega) h7, trivial⟩
theorem sy_6 {v : Int32} {u : Int32} {M M1 M2 : mM} {r1 r2 : Int32} (h : RY M.1) (hD0 : InvD M) (hD : InvD M1) (hD2 : InvD M2) (hF1 : FR S_c_X11_lays M M1) (hs1 : SP_X11_lays v u M r1 M1) (hF2 : FR S_c_X12_lays M1 M2) (hs2 : SP_X12_lays v u M1 r2 M2) : RY M2.1 ∧ r1 = r2 := by
  have hx := (st_6 h.1 hD0 hF1 hs1 hF2 hs2).1
  have s1 : cC S_c_X11_lays := fun c k q => by simp only [S_c_X11_lays, or_false] at q; omega
  have s2 : cD S_c_X12_lays := fun c k q => by simp only [S_c_X12_lays, or_false] at q; omega
  have c1 : ∀ (c : rf) (k : Nat), c.1 = 12 ∨ 50 ≤ c.1 → M1.1 c k = M.1 c k := fun c k a => hF1 c k (fun q => s1 c k q a)
  have c2 : ∀ (c : rf) (k : Nat), ¬ (c.1 = 12 ∨ 50 ≤ c.1) → M2.1 c k = M1.1 c k := fun c k a => hF2 c k (fun q => a (s2 c k q))
  have e50 : M1.1 (50, 0, 0) = M.1 (50, 0, 0) := funext fun k => c1 _ _ (by simp)
  have hR : RW 0 M.1 (M1.1 (50, 0, 0)) := by rw [e50]; exact h.2.2.1
  have hu : (M1.1 (12, 0, 0) 7).toInt = -1 := by rw [c1 _ _ (by simp)]; exact h.2.1
  have h7 : (M2.1 (12, 0, 0) 7).toInt = -1 := by rw [hF2 (12, 0, 0) 7 (fun q => by simp only [S_c_X12_lays, or_false] at q; omega)]; exact hu
  have B := cb_6 hs1 hs2 hR hD hu (SHR_keep h.2.2.2.2 (fun _ _ _ => rfl) (fun c k a => c1 c k (by omega)))
  exact ⟨RY_of h hF1 hF2 s1 s2 hx hD2.2.1 hD2.2.2.1 h7 B.1 (Or.inl ⟨hF2 _ _ (fun q => by simp only [S_c_X12_lays, or_false] at q; omega), fun c k a b q => by unfold wR at a; simp only [S_c_X11_lays, or_false] at q; omega, fun k q => by simp only [S_c_X12_lays, or_false] at q; omega⟩) (SHR_keep h.2.2.2.2 (fun c k a => hF1 c k (fun q => by simp only [S_c_X11_lays, or_false] at q; omega)) (fun c k a => by rw [hF2 c k (fun q => by simp only [S_c_X12_lays, or_false] at q; omega), c1 c k (by omega)])), B.2⟩
theorem sy_7 {v : Int32} {u : Int32} {M M1 M2 : mM} {r1 r2 : Int32} (h : RY M.1) (hD0 : InvD M) (hD : InvD M1) (hD2 : InvD M2) (hF1 : FR S_c_X11_air M M1) (hs1 : SP_X11_air v u M r1 M1) (hF2 : FR S_c_X12_air M1 M2) (hs2 : SP_X12_air v u M1 r2 M2) : RY M2.1 ∧ True := by
  have hx := (st_7 h.1 hD0 hF1 hs1 hF2 hs2).1
  have s1 : cC S_c_X11_air := fun c k q => by simp only [S_c_X11_air, or_false] at q; omega
  have s2 : cD S_c_X12_air := fun c k q => by simp only [S_c_X12_air, or_false] at q; omega
  have c1 : ∀ (c : rf) (k : Nat), c.1 = 12 ∨ 50 ≤ c.1 → M1.1 c k = M.1 c k := fun c k a => hF1 c k (fun q => s1 c k q a)
  have c2 : ∀ (c : rf) (k : Nat), ¬ (c.1 = 12 ∨ 50 ≤ c.1) → M2.1 c k = M1.1 c k := fun c k a => hF2 c k (fun q => a (s2 c k q))
  have e50 : M1.1 (50, 0, 0) = M.1 (50, 0, 0) := funext fun k => c1 _ _ (by simp)
  have hR : RW 0 M.1 (M1.1 (50, 0, 0)) := by rw [e50]; exact h.2.2.1
  have hu : (M1.1 (12, 0, 0) 7).toInt = -1 := by rw [c1 _ _ (by simp)]; exact h.2.1
  have h7 : (M2.1 (12, 0, 0) 7).toInt = -1 := by rw [hF2 (12, 0, 0) 7 (fun q => by simp only [S_c_X12_air, or_false] at q; omega)]; exact hu
  have hL : LWR 0 M1.1 (M2.1 (50, 0, 0)) := LWR_keep (LWR_rx hx) (fun r k hr => (c2 _ _ (by dsimp only; omega)).symm) (fun _ _ => rfl)
  exact ⟨RY_of h hF1 hF2 s1 s2 hx hD2.2.1 hD2.2.2.1 h7 (cb_7 hF1 hs2 hR hD hL) (Or.inl ⟨hF2 _ _ (fun q => by simp only [S_c_X12_air, or_false] at q; omega), fun c k a b q => by unfold wR at a; simp only [S_c_X11_air, or_false] at q; omega, fun k q => by simp only [S_c_X12_air, or_false] at q; omega⟩) (SHR_keep h.2.2.2.2 (fun c k a => hF1 c k (fun q => by simp only [S_c_X11_air, or_false] at q; omega)) (fun c k a => by rw [hF2 c k (fun q => by simp only [S_c_X12_air, or_false] at q; omega), c1 c k (by omega)])), trivial⟩
theorem sy_8 {v : Int32} {u : Int32} {t : Int32} {M M1 M2 : mM} {r1 r2 : Int32} (h : RY M.1) (hD0 : InvD M) (hD : InvD M1) (hD2 : InvD M2) (hF1 : FR S_c_X11_walker M M1) (hs1 : SP_X11_walker v u t M r1 M1) (hF2 : FR S_c_X12_walker M1 M2) (hs2 : SP_X12_walker v u t M1 r2 M2) : RY M2.1 ∧ r1 = r2 := by
  have hx := (st_8 h.1 hD0 hF1 hs1 hF2 hs2).1
  have s1 : cC S_c_X11_walker := fun c k q => by simp only [S_c_X11_walker, or_false] at q; omega
  have s2 : cD S_c_X12_walker := fun c k q => by simp only [S_c_X12_walker, or_false] at q; omega
  have c1 : ∀ (c : rf) (k : Nat), c.1 = 12 ∨ 50 ≤ c.1 → M1.1 c k = M.1 c k := fun c k a => hF1 c k (fun q => s1 c k q a)
  have c2 : ∀ (c : rf) (k : Nat), ¬ (c.1 = 12 ∨ 50 ≤ c.1) → M2.1 c k = M1.1 c k := fun c k a => hF2 c k (fun q => a (s2 c k q))
  have e50 : M1.1 (50, 0, 0) = M.1 (50, 0, 0) := funext fun k => c1 _ _ (by simp)
  have hR : RW 0 M.1 (M1.1 (50, 0, 0)) := by rw [e50]; exact h.2.2.1
  have hu : (M1.1 (12, 0, 0) 7).toInt = -1 := by rw [c1 _ _ (by simp)]; exact h.2.1
  have h7 : (M2.1 (12, 0, 0) 7).toInt = -1 := by rw [hF2 (12, 0, 0) 7 (fun q => by simp only [S_c_X12_walker, or_false] at q; omega)]; exact hu
  have B := cb_8 hs1 hs2 hR hD hu
  exact ⟨RY_of h hF1 hF2 s1 s2 hx hD2.2.1 hD2.2.2.1 h7 B.1 (Or.inl ⟨hF2 _ _ (fun q => by simp only [S_c_X12_walker, or_false] at q; omega), fun c k a b q => by unfold wR at a; simp only [S_c_X11_walker, or_false] at q; omega, fun k q => by simp only [S_c_X12_walker, or_false] at q; omega⟩) (SHR_keep h.2.2.2.2 (fun c k a => hF1 c k (fun q => by simp only [S_c_X11_walker, or_false] at q; omega)) (fun c k a => by rw [hF2 c k (fun q => by simp only [S_c_X12_walker, or_false] at q; omega), c1 c k (by omega)])), B.2⟩
theorem sy_9 {v : Int32} {u : Int32} {M M1 M2 : mM} {r1 r2 : Int32} (h : RY M.1) (hD0 : InvD M) (hD : InvD M1) (hD2 : InvD M2) (hF1 : FR S_c_X11_walkerIs M M1) (hs1 : SP_X11_walkerIs v u M r1 M1) (hF2 : FR S_c_X12_walkerIs M1 M2) (hs2 : SP_X12_walkerIs v u M1 r2 M2) : RY M2.1 ∧ True := by
  have hx := (st_9 h.1 hD0 hF1 hs1 hF2 hs2).1
  have s1 : cC S_c_X11_walkerIs := fun c k q => by simp only [S_c_X11_walkerIs, or_false] at q; omega
  have s2 : cD S_c_X12_walkerIs := fun c k q => by simp only [S_c_X12_walkerIs, or_false] at q; omega
  have c1 : ∀ (c : rf) (k : Nat), c.1 = 12 ∨ 50 ≤ c.1 → M1.1 c k = M.1 c k := fun c k a => hF1 c k (fun q => s1 c k q a)
  have c2 : ∀ (c : rf) (k : Nat), ¬ (c.1 = 12 ∨ 50 ≤ c.1) → M2.1 c k = M1.1 c k := fun c k a => hF2 c k (fun q => a (s2 c k q))
  have e50 : M1.1 (50, 0, 0) = M.1 (50, 0, 0) := funext fun k => c1 _ _ (by simp)
  have hR : RW 0 M.1 (M1.1 (50, 0, 0)) := by rw [e50]; exact h.2.2.1
  have hu : (M1.1 (12, 0, 0) 7).toInt = -1 := by rw [c1 _ _ (by simp)]; exact h.2.1
  have h7 : (M2.1 (12, 0, 0) 7).toInt = -1 := by rw [hF2 (12, 0, 0) 7 (fun q => by simp only [S_c_X12_walkerIs, or_false] at q; omega)]; exact hu
  exact ⟨RY_fr h hF1 hF2 s1 s2 hx hD2.2.1 hD2.2.2.1 (fun c k a b q => by unfold wR at a; simp only [S_c_X11_walkerIs, or_false] at q; omega) (fun c k a q => by rcases a with rfl | rfl | ⟨rfl, rfl⟩ | a | a | a <;> (simp only [S_c_X12_walkerIs, or_false] at q <;> omega)) (fun c k a q => by simp only [S_c_X11_walkerIs, or_false] at q; omega) h7, trivial⟩
theorem sy_10 {v : Int32} {u : Int32} {M M1 M2 : mM} {r1 r2 : Int32} (h : RY M.1) (hD0 : InvD M) (hD : InvD M1) (hD2 : InvD M2) (hF1 : FR S_c_X11_as M M1) (hs1 : SP_X11_as v u M r1 M1) (hF2 : FR S_c_X12_as M1 M2) (hs2 : SP_X12_as v u M1 r2 M2) : RY M2.1 ∧ True := by
  have hx := (st_10 h.1 hD0 hF1 hs1 hF2 hs2).1
  have s1 : cC S_c_X11_as := fun c k q => by simp only [S_c_X11_as, or_false] at q; omega
  have s2 : cD S_c_X12_as := fun c k q => by simp only [S_c_X12_as, or_false] at q; omega
  have c1 : ∀ (c : rf) (k : Nat), c.1 = 12 ∨ 50 ≤ c.1 → M1.1 c k = M.1 c k := fun c k a => hF1 c k (fun q => s1 c k q a)
  have c2 : ∀ (c : rf) (k : Nat), ¬ (c.1 = 12 ∨ 50 ≤ c.1) → M2.1 c k = M1.1 c k := fun c k a => hF2 c k (fun q => a (s2 c k q))
  have e50 : M1.1 (50, 0, 0) = M.1 (50, 0, 0) := funext fun k => c1 _ _ (by simp)
  have hR : RW 0 M.1 (M1.1 (50, 0, 0)) := by rw [e50]; exact h.2.2.1
  have hu : (M1.1 (12, 0, 0) 7).toInt = -1 := by rw [c1 _ _ (by simp)]; exact h.2.1
  have h7 : (M2.1 (12, 0, 0) 7).toInt = -1 := by rw [hF2 (12, 0, 0) 7 (fun q => by simp only [S_c_X12_as, or_false] at q; omega)]; exact hu
  exact ⟨RY_fr h hF1 hF2 s1 s2 hx hD2.2.1 hD2.2.2.1 (fun c k a b q => by unfold wR at a; simp only [S_c_X11_as, or_false] at q; omega) (fun c k a q => by rcases a with rfl | rfl | ⟨rfl, rfl⟩ | a | a | a <;> (simp only [S_c_X12_as, or_false] at q <;> omega)) (fun c k a q => by simp only [S_c_X11_as, or_false] at q; omega) h7, trivial⟩
theorem sy_11 {v : Int32} {u : Int32} {t : Int32} {s : Int32} {M M1 M2 : mM} {r1 r2 : Int32} (h : RY M.1) (hD0 : InvD M) (hD : InvD M1) (hD2 : InvD M2) (hF1 : FR S_c_X11_habit M M1) (hs1 : SP_X11_habit v u t s M r1 M1) (hF2 : FR S_c_X12_habit M1 M2) (hs2 : SP_X12_habit v u t s M1 r2 M2) : RY M2.1 ∧ r1 = r2 := by
  have hx := (st_11 h.1 hD0 hF1 hs1 hF2 hs2).1
  have s1 : cC S_c_X11_habit := fun c k q => by simp only [S_c_X11_habit, or_false] at q; omega
  have s2 : cD S_c_X12_habit := fun c k q => by simp only [S_c_X12_habit, or_false] at q; omega
  have c1 : ∀ (c : rf) (k : Nat), c.1 = 12 ∨ 50 ≤ c.1 → M1.1 c k = M.1 c k := fun c k a => hF1 c k (fun q => s1 c k q a)
  have c2 : ∀ (c : rf) (k : Nat), ¬ (c.1 = 12 ∨ 50 ≤ c.1) → M2.1 c k = M1.1 c k := fun c k a => hF2 c k (fun q => a (s2 c k q))
  have e50 : M1.1 (50, 0, 0) = M.1 (50, 0, 0) := funext fun k => c1 _ _ (by simp)
  have hR : RW 0 M.1 (M1.1 (50, 0, 0)) := by rw [e50]; exact h.2.2.1
  have hu : (M1.1 (12, 0, 0) 7).toInt = -1 := by rw [c1 _ _ (by simp)]; exact h.2.1
  have h7 : (M2.1 (12, 0, 0) 7).toInt = -1 := by rw [hF2 (12, 0, 0) 7 (fun q => by simp only [S_c_X12_habit, or_false] at q; omega)]; exact hu
  have B := cb_11 hs1 hs2 hR hD hu
  exact ⟨RY_of h hF1 hF2 s1 s2 hx hD2.2.1 hD2.2.2.1 h7 B.1 (Or.inl ⟨hF2 _ _ (fun q => by simp only [S_c_X12_habit, or_false] at q; omega), fun c k a b q => by unfold wR at a; simp only [S_c_X11_habit, or_false] at q; omega, fun k q => by simp only [S_c_X12_habit, or_false] at q; omega⟩) (SHR_keep h.2.2.2.2 (fun c k a => hF1 c k (fun q => by simp only [S_c_X11_habit, or_false] at q; omega)) (fun c k a => by rw [hF2 c k (fun q => by simp only [S_c_X12_habit, or_false] at q; omega), c1 c k (by omega)])), B.2⟩
theorem sy_12 {v : Int32} {u : Int32} {M M1 M2 : mM} {r1 r2 : Int32} (h : RY M.1) (hD0 : InvD M) (hD : InvD M1) (hD2 : InvD M2) (hF1 : FR S_c_X11_face M M1) (hs1 : SP_X11_face v u M r1 M1) (hF2 : FR S_c_X12_face M1 M2) (hs2 : SP_X12_face v u M1 r2 M2) : RY M2.1 ∧ r1 = r2 := by
  have hx := (st_12 h.1 hD0 hF1 hs1 hF2 hs2).1
  have s1 : cC S_c_X11_face := fun c k q => by simp only [S_c_X11_face, or_false] at q; omega
  have s2 : cD S_c_X12_face := fun c k q => by simp only [S_c_X12_face, or_false] at q; omega
  have c1 : ∀ (c : rf) (k : Nat), c.1 = 12 ∨ 50 ≤ c.1 → M1.1 c k = M.1 c k := fun c k a => hF1 c k (fun q => s1 c k q a)
  have c2 : ∀ (c : rf) (k : Nat), ¬ (c.1 = 12 ∨ 50 ≤ c.1) → M2.1 c k = M1.1 c k := fun c k a => hF2 c k (fun q => a (s2 c k q))
  have e50 : M1.1 (50, 0, 0) = M.1 (50, 0, 0) := funext fun k => c1 _ _ (by simp)
  have hR : RW 0 M.1 (M1.1 (50, 0, 0)) := by rw [e50]; exact h.2.2.1
  have hu : (M1.1 (12, 0, 0) 7).toInt = -1 := by rw [c1 _ _ (by simp)]; exact h.2.1
  have h7 : (M2.1 (12, 0, 0) 7).toInt = -1 := by rw [hF2 (12, 0, 0) 7 (fun q => by simp only [S_c_X12_face, or_false] at q; omega)]; exact hu
  have B := cb_12 hs1 hs2 hR hD hu
  exact ⟨RY_of h hF1 hF2 s1 s2 hx hD2.2.1 hD2.2.2.1 h7 B.1 (Or.inl ⟨hF2 _ _ (fun q => by simp only [S_c_X12_face, or_false] at q; omega), fun c k a b q => by unfold wR at a; simp only [S_c_X11_face, or_false] at q; omega, fun k q => by simp only [S_c_X12_face, or_false] at q; omega⟩) (SHR_keep h.2.2.2.2 (fun c k a => hF1 c k (fun q => by simp only [S_c_X11_face, or_false] at q; omega)) (fun c k a => by rw [hF2 c k (fun q => by simp only [S_c_X12_face, or_false] at q; omega), c1 c k (by omega)])), B.2⟩
theorem sy_13 {v : Int32} {u : Int32} {M M1 M2 : mM} {r1 r2 : Int32} (h : RY M.1) (hD0 : InvD M) (hD : InvD M1) (hD2 : InvD M2) (hF1 : FR S_c_X11_goes M M1) (hs1 : SP_X11_goes v u M r1 M1) (hF2 : FR S_c_X12_goes M1 M2) (hs2 : SP_X12_goes v u M1 r2 M2) (hub : 0 ≤ u.toInt ∧ u.toInt ≤ 1) : RY M2.1 ∧ r1 = r2 := by
  have hx := (st_13 h.1 hD0 hF1 hs1 hF2 hs2).1
  have s1 : cC S_c_X11_goes := fun c k q => by simp only [S_c_X11_goes, or_false] at q; omega
  have s2 : cD S_c_X12_goes := fun c k q => by simp only [S_c_X12_goes, or_false] at q; omega
  have c1 : ∀ (c : rf) (k : Nat), c.1 = 12 ∨ 50 ≤ c.1 → M1.1 c k = M.1 c k := fun c k a => hF1 c k (fun q => s1 c k q a)
  have c2 : ∀ (c : rf) (k : Nat), ¬ (c.1 = 12 ∨ 50 ≤ c.1) → M2.1 c k = M1.1 c k := fun c k a => hF2 c k (fun q => a (s2 c k q))
  have e50 : M1.1 (50, 0, 0) = M.1 (50, 0, 0) := funext fun k => c1 _ _ (by simp)
  have hR : RW 0 M.1 (M1.1 (50, 0, 0)) := by rw [e50]; exact h.2.2.1
  have hu : (M1.1 (12, 0, 0) 7).toInt = -1 := by rw [c1 _ _ (by simp)]; exact h.2.1
  have h7 : (M2.1 (12, 0, 0) 7).toInt = -1 := by rw [hF2 (12, 0, 0) 7 (fun q => by simp only [S_c_X12_goes, or_false] at q; omega)]; exact hu
  have B := cb_13 hs1 hs2 hR hD hu hub
  exact ⟨RY_of h hF1 hF2 s1 s2 hx hD2.2.1 hD2.2.2.1 h7 B.1 (Or.inl ⟨hF2 _ _ (fun q => by simp only [S_c_X12_goes, or_false] at q; omega), fun c k a b q => by unfold wR at a; simp only [S_c_X11_goes, or_false] at q; omega, fun k q => by simp only [S_c_X12_goes, or_false] at q; omega⟩) (SHR_keep h.2.2.2.2 (fun c k a => hF1 c k (fun q => by simp only [S_c_X11_goes, or_false] at q; omega)) (fun c k a => by rw [hF2 c k (fun q => by simp only [S_c_X12_goes, or_false] at q; omega), c1 c k (by omega)])), B.2⟩
theorem sy_14 {v : Int64} {u : Int32} {M M1 M2 : mM} {r1 r2 : Int32} (h : RY M.1) (hD0 : InvD M) (hD : InvD M1) (hD2 : InvD M2) (hF1 : FR S_c_X11_feed M M1) (hs1 : SP_X11_feed v u M r1 M1) (hF2 : FR S_c_X12_feed M1 M2) (hs2 : SP_X12_feed v u M1 r2 M2) : RY M2.1 ∧ r1 = r2 := by
  have hx := (st_14 h.1 hD0 hF1 hs1 hF2 hs2).1
  have s1 : cC S_c_X11_feed := fun c k q => by simp only [S_c_X11_feed, or_false] at q; omega
  have s2 : cD S_c_X12_feed := fun c k q => by simp only [S_c_X12_feed, or_false] at q; omega
  have c1 : ∀ (c : rf) (k : Nat), c.1 = 12 ∨ 50 ≤ c.1 → M1.1 c k = M.1 c k := fun c k a => hF1 c k (fun q => s1 c k q a)
  have c2 : ∀ (c : rf) (k : Nat), ¬ (c.1 = 12 ∨ 50 ≤ c.1) → M2.1 c k = M1.1 c k := fun c k a => hF2 c k (fun q => a (s2 c k q))
  have e50 : M1.1 (50, 0, 0) = M.1 (50, 0, 0) := funext fun k => c1 _ _ (by simp)
  have hR : RW 0 M.1 (M1.1 (50, 0, 0)) := by rw [e50]; exact h.2.2.1
  have hu : (M1.1 (12, 0, 0) 7).toInt = -1 := by rw [c1 _ _ (by simp)]; exact h.2.1
  have h7 : (M2.1 (12, 0, 0) 7).toInt = -1 := by rw [hF2 (12, 0, 0) 7 (fun q => by simp only [S_c_X12_feed, or_false] at q; omega)]; exact hu
  have B := cb_14 hs1 hs2 hR hD hu (show M.1 (5, 0, 0) 1 = M1.1 (50, 0, 0) 4 from ((RXzg h.1 (d := (50, 0, 0)) (j := 4) (by unfold PRz; simp) (by simp)).trans (c1 _ _ (by simp)).symm))
  exact ⟨RY_of h hF1 hF2 s1 s2 hx hD2.2.1 hD2.2.2.1 h7 B.1 (Or.inl ⟨hF2 _ _ (fun q => by simp only [S_c_X12_feed, or_false] at q; omega), fun c k a b q => by unfold wR at a; simp only [S_c_X11_feed, or_false] at q; omega, fun k q => by simp only [S_c_X12_feed, or_false] at q; omega⟩) (SHR_keep h.2.2.2.2 (fun c k a => hF1 c k (fun q => by simp only [S_c_X11_feed, or_false] at q; omega)) (fun c k a => by rw [hF2 c k (fun q => by simp only [S_c_X12_feed, or_false] at q; omega), c1 c k (by omega)])), B.2⟩
theorem sy_15 {v : Int32} {M M1 M2 : mM} {r1 r2 : Int32} (h : RY M.1) (hD0 : InvD M) (hD : InvD M1) (hD2 : InvD M2) (hF1 : FR S_c_X11_text M M1) (hs1 : SP_X11_text v M r1 M1) (hF2 : FR S_c_X12_text_ M1 M2) (hs2 : SP_X12_text_ v M1 r2 M2) : RY M2.1 ∧ r1 = r2 := by
  have hx := (st_15 h.1 hD0 hF1 hs1 hF2 hs2).1
  have s1 : cC S_c_X11_text := fun c k q => by simp only [S_c_X11_text, or_false] at q; omega
  have s2 : cD S_c_X12_text_ := fun c k q => by simp only [S_c_X12_text_, or_false] at q; omega
  have c1 : ∀ (c : rf) (k : Nat), c.1 = 12 ∨ 50 ≤ c.1 → M1.1 c k = M.1 c k := fun c k a => hF1 c k (fun q => s1 c k q a)
  have c2 : ∀ (c : rf) (k : Nat), ¬ (c.1 = 12 ∨ 50 ≤ c.1) → M2.1 c k = M1.1 c k := fun c k a => hF2 c k (fun q => a (s2 c k q))
  have e50 : M1.1 (50, 0, 0) = M.1 (50, 0, 0) := funext fun k => c1 _ _ (by simp)
  have hR : RW 0 M.1 (M1.1 (50, 0, 0)) := by rw [e50]; exact h.2.2.1
  have hu : (M1.1 (12, 0, 0) 7).toInt = -1 := by rw [c1 _ _ (by simp)]; exact h.2.1
  have h7 : (M2.1 (12, 0, 0) 7).toInt = -1 := by rw [hF2 (12, 0, 0) 7 (fun q => by simp only [S_c_X12_text_, or_false] at q; omega)]; exact hu
  have B := cb_text hs1 hs2 hR hD (show M.1 (5, 0, 0) 1 = M1.1 (50, 0, 0) 4 from ((RXzg h.1 (d := (50, 0, 0)) (j := 4) (by unfold PRz; simp) (by simp)).trans (c1 _ _ (by simp)).symm))
  exact ⟨RY_of h hF1 hF2 s1 s2 hx hD2.2.1 hD2.2.2.1 h7 B.1 (Or.inl ⟨hF2 _ _ (fun q => by simp only [S_c_X12_text_, or_false] at q; omega), fun c k a b q => by unfold wR at a; simp only [S_c_X11_text, or_false] at q; omega, fun k q => by simp only [S_c_X12_text_, or_false] at q; omega⟩) (SHR_keep h.2.2.2.2 (fun c k a => hF1 c k (fun q => by simp only [S_c_X11_text, or_false] at q; omega)) (fun c k a => by rw [hF2 c k (fun q => by simp only [S_c_X12_text_, or_false] at q; omega), c1 c k (by omega)])), B.2⟩
theorem sy_16 {v : Int32} {u : Int32} {t : Int32} {s : Int32} {M M1 M2 : mM} {r1 r2 : Int32} (h : RY M.1) (hD0 : InvD M) (hD : InvD M1) (hD2 : InvD M2) (hF1 : FR S_c_X11_echo M M1) (hs1 : SP_X11_echo v u t s M r1 M1) (hF2 : FR S_c_X12_echo M1 M2) (hs2 : SP_X12_echo v u t s M1 r2 M2) : RY M2.1 ∧ True := by
  have hx := (st_16 h.1 hD0 hF1 hs1 hF2 hs2).1
  have s1 : cC S_c_X11_echo := fun c k q => by simp only [S_c_X11_echo, or_false] at q; omega
  have s2 : cD S_c_X12_echo := fun c k q => by simp only [S_c_X12_echo, or_false] at q; omega
  have c1 : ∀ (c : rf) (k : Nat), c.1 = 12 ∨ 50 ≤ c.1 → M1.1 c k = M.1 c k := fun c k a => hF1 c k (fun q => s1 c k q a)
  have c2 : ∀ (c : rf) (k : Nat), ¬ (c.1 = 12 ∨ 50 ≤ c.1) → M2.1 c k = M1.1 c k := fun c k a => hF2 c k (fun q => a (s2 c k q))
  have e50 : M1.1 (50, 0, 0) = M.1 (50, 0, 0) := funext fun k => c1 _ _ (by simp)
  have hR : RW 0 M.1 (M1.1 (50, 0, 0)) := by rw [e50]; exact h.2.2.1
  have hu : (M1.1 (12, 0, 0) 7).toInt = -1 := by rw [c1 _ _ (by simp)]; exact h.2.1
  have h7 : (M2.1 (12, 0, 0) 7).toInt = -1 := by rw [hF2 (12, 0, 0) 7 (fun q => by simp only [S_c_X12_echo, or_false] at q; omega)]; exact hu
  exact ⟨RY_fr h hF1 hF2 s1 s2 hx hD2.2.1 hD2.2.2.1 (fun c k a b q => by unfold wR at a; simp only [S_c_X11_echo, or_false] at q; omega) (fun c k a q => by rcases a with rfl | rfl | ⟨rfl, rfl⟩ | a | a | a <;> (simp only [S_c_X12_echo, or_false] at q <;> omega)) (fun c k a q => by simp only [S_c_X11_echo, or_false] at q; omega) h7, trivial⟩
theorem sy_17 {v : Int32} {M M1 M2 : mM} {r1 r2 : Int32} (h : RY M.1) (hD0 : InvD M) (hD : InvD M1) (hD2 : InvD M2) (hF1 : FR S_c_X11_click M M1) (hs1 : SP_X11_click v M r1 M1) (hF2 : FR S_c_X12_click M1 M2) (hs2 : SP_X12_click v M1 r2 M2) : RY M2.1 ∧ r1 = r2 := by
  have hx := (st_17 h.1 hD0 hF1 hs1 hF2 hs2).1
  have s1 : cC S_c_X11_click := fun c k q => by simp only [S_c_X11_click, or_false] at q; omega
  have s2 : cD S_c_X12_click := fun c k q => by simp only [S_c_X12_click, or_false] at q; omega
  have c1 : ∀ (c : rf) (k : Nat), c.1 = 12 ∨ 50 ≤ c.1 → M1.1 c k = M.1 c k := fun c k a => hF1 c k (fun q => s1 c k q a)
  have c2 : ∀ (c : rf) (k : Nat), ¬ (c.1 = 12 ∨ 50 ≤ c.1) → M2.1 c k = M1.1 c k := fun c k a => hF2 c k (fun q => a (s2 c k q))
  have e50 : M1.1 (50, 0, 0) = M.1 (50, 0, 0) := funext fun k => c1 _ _ (by simp)
  have hR : RW 0 M.1 (M1.1 (50, 0, 0)) := by rw [e50]; exact h.2.2.1
  have hu : (M1.1 (12, 0, 0) 7).toInt = -1 := by rw [c1 _ _ (by simp)]; exact h.2.1
  have h7 : (M2.1 (12, 0, 0) 7).toInt = -1 := by rw [hF2 (12, 0, 0) 7 (fun q => by simp only [S_c_X12_click, or_false] at q; omega)]; exact hu
  have B := cb_17 hs1 hs2 hR hD hu
  exact ⟨RY_of h hF1 hF2 s1 s2 hx hD2.2.1 hD2.2.2.1 h7 B.1 (Or.inl ⟨hF2 _ _ (fun q => by simp only [S_c_X12_click, or_false] at q; omega), fun c k a b q => by unfold wR at a; simp only [S_c_X11_click, or_false] at q; omega, fun k q => by simp only [S_c_X12_click, or_false] at q; omega⟩) (SHR_keep h.2.2.2.2 (fun c k a => hF1 c k (fun q => by simp only [S_c_X11_click, or_false] at q; omega)) (fun c k a => by rw [hF2 c k (fun q => by simp only [S_c_X12_click, or_false] at q; omega), c1 c k (by omega)])), B.2⟩
theorem sy_18 {v : Int32} {u : Int32} {t : Int32} {M M1 M2 : mM} {r1 r2 : Int32} (h : RY M.1) (hD0 : InvD M) (hD : InvD M1) (hD2 : InvD M2) (hF1 : FR S_c_X11_head M M1) (hs1 : SP_X11_head v u t M r1 M1) (hF2 : FR S_c_X12_head M1 M2) (hs2 : SP_X12_head v u t M1 r2 M2) : RY M2.1 ∧ True := by
  have hx := (st_18 h.1 hD0 hF1 hs1 hF2 hs2).1
  have s1 : cC S_c_X11_head := fun c k q => by simp only [S_c_X11_head, or_false] at q; omega
  have s2 : cD S_c_X12_head := fun c k q => by simp only [S_c_X12_head, or_false] at q; omega
  have c1 : ∀ (c : rf) (k : Nat), c.1 = 12 ∨ 50 ≤ c.1 → M1.1 c k = M.1 c k := fun c k a => hF1 c k (fun q => s1 c k q a)
  have c2 : ∀ (c : rf) (k : Nat), ¬ (c.1 = 12 ∨ 50 ≤ c.1) → M2.1 c k = M1.1 c k := fun c k a => hF2 c k (fun q => a (s2 c k q))
  have e50 : M1.1 (50, 0, 0) = M.1 (50, 0, 0) := funext fun k => c1 _ _ (by simp)
  have hR : RW 0 M.1 (M1.1 (50, 0, 0)) := by rw [e50]; exact h.2.2.1
  have hu : (M1.1 (12, 0, 0) 7).toInt = -1 := by rw [c1 _ _ (by simp)]; exact h.2.1
  have h7 : (M2.1 (12, 0, 0) 7).toInt = -1 := by rw [hF2 (12, 0, 0) 7 (fun q => by simp only [S_c_X12_head, or_false] at q; omega)]; exact hu
  exact ⟨RY_fr h hF1 hF2 s1 s2 hx hD2.2.1 hD2.2.2.1 (fun c k a b q => by unfold wR at a; simp only [S_c_X11_head, or_false] at q; omega) (fun c k a q => by rcases a with rfl | rfl | ⟨rfl, rfl⟩ | a | a | a <;> (simp only [S_c_X12_head, or_false] at q <;> omega)) (fun c k a q => by simp only [S_c_X11_head, or_false] at q; omega) h7, trivial⟩
theorem sy_19 {v : Int32} {u : Int32} {M M1 M2 : mM} {r1 r2 : Int32} (h : RY M.1) (hD0 : InvD M) (hD : InvD M1) (hD2 : InvD M2) (hF1 : FR S_c_X11_heads M M1) (hs1 : SP_X11_heads v u M r1 M1) (hF2 : FR S_c_X12_heads M1 M2) (hs2 : SP_X12_heads v u M1 r2 M2) : RY M2.1 ∧ True := by
  have hx := (st_19 h.1 hD0 hF1 hs1 hF2 hs2).1
  have s1 : cC S_c_X11_heads := fun c k q => by simp only [S_c_X11_heads, or_false] at q; omega
  have s2 : cD S_c_X12_heads := fun c k q => by simp only [S_c_X12_heads, or_false] at q; omega
  have c1 : ∀ (c : rf) (k : Nat), c.1 = 12 ∨ 50 ≤ c.1 → M1.1 c k = M.1 c k := fun c k a => hF1 c k (fun q => s1 c k q a)
  have c2 : ∀ (c : rf) (k : Nat), ¬ (c.1 = 12 ∨ 50 ≤ c.1) → M2.1 c k = M1.1 c k := fun c k a => hF2 c k (fun q => a (s2 c k q))
  have e50 : M1.1 (50, 0, 0) = M.1 (50, 0, 0) := funext fun k => c1 _ _ (by simp)
  have hR : RW 0 M.1 (M1.1 (50, 0, 0)) := by rw [e50]; exact h.2.2.1
  have hu : (M1.1 (12, 0, 0) 7).toInt = -1 := by rw [c1 _ _ (by simp)]; exact h.2.1
  have h7 : (M2.1 (12, 0, 0) 7).toInt = -1 := by rw [hF2 (12, 0, 0) 7 (fun q => by simp only [S_c_X12_heads, or_false] at q; omega)]; exact hu
  exact ⟨RY_fr h hF1 hF2 s1 s2 hx hD2.2.1 hD2.2.2.1 (fun c k a b q => by unfold wR at a; simp only [S_c_X11_heads, or_false] at q; omega) (fun c k a q => by rcases a with rfl | rfl | ⟨rfl, rfl⟩ | a | a | a <;> (simp only [S_c_X12_heads, or_false] at q <;> omega)) (fun c k a q => by simp only [S_c_X11_heads, or_false] at q; omega) h7, trivial⟩
theorem sy_20 {v : Int32} {u : Int32} {t : Int32} {s : Int32} {q : Int32} {M M1 M2 : mM} {r1 r2 : Int32} (h : RY M.1) (hD0 : InvD M) (hD : InvD M1) (hD2 : InvD M2) (hF1 : FR S_c_X11_alike M M1) (hs1 : SP_X11_alike v u t s q M r1 M1) (hF2 : FR S_c_X12_alike M1 M2) (hs2 : SP_X12_alike v u t s q M1 r2 M2) : RY M2.1 ∧ True := by
  have hx := (st_20 h.1 hD0 hF1 hs1 hF2 hs2).1
  have s1 : cC S_c_X11_alike := fun c k q => by simp only [S_c_X11_alike, or_false] at q; omega
  have s2 : cD S_c_X12_alike := fun c k q => by simp only [S_c_X12_alike, or_false] at q; omega
  have c1 : ∀ (c : rf) (k : Nat), c.1 = 12 ∨ 50 ≤ c.1 → M1.1 c k = M.1 c k := fun c k a => hF1 c k (fun q => s1 c k q a)
  have c2 : ∀ (c : rf) (k : Nat), ¬ (c.1 = 12 ∨ 50 ≤ c.1) → M2.1 c k = M1.1 c k := fun c k a => hF2 c k (fun q => a (s2 c k q))
  have e50 : M1.1 (50, 0, 0) = M.1 (50, 0, 0) := funext fun k => c1 _ _ (by simp)
  have hR : RW 0 M.1 (M1.1 (50, 0, 0)) := by rw [e50]; exact h.2.2.1
  have hu : (M1.1 (12, 0, 0) 7).toInt = -1 := by rw [c1 _ _ (by simp)]; exact h.2.1
  have h7 : (M2.1 (12, 0, 0) 7).toInt = -1 := by rw [hF2 (12, 0, 0) 7 (fun q => by simp only [S_c_X12_alike, or_false] at q; omega)]; exact hu
  exact ⟨RY_fr h hF1 hF2 s1 s2 hx hD2.2.1 hD2.2.2.1 (fun c k a b q => by unfold wR at a; simp only [S_c_X11_alike, or_false] at q; omega) (fun c k a q => by rcases a with rfl | rfl | ⟨rfl, rfl⟩ | a | a | a <;> (simp only [S_c_X12_alike, or_false] at q <;> omega)) (fun c k a q => by simp only [S_c_X11_alike, or_false] at q; omega) h7, trivial⟩
theorem sy_21 {v : Int32} {u : Int32} {t : Int32} {s : Int32} {M M1 M2 : mM} {r1 r2 : Int32} (h : RY M.1) (hD0 : InvD M) (hD : InvD M1) (hD2 : InvD M2) (hF1 : FR S_c_X11_least M M1) (hs1 : SP_X11_least v u t s M r1 M1) (hF2 : FR S_c_X12_least M1 M2) (hs2 : SP_X12_least v u t s M1 r2 M2) : RY M2.1 ∧ True := by
  have hx := (st_21 h.1 hD0 hF1 hs1 hF2 hs2).1
  have s1 : cC S_c_X11_least := fun c k q => by simp only [S_c_X11_least, or_false] at q; omega
  have s2 : cD S_c_X12_least := fun c k q => by simp only [S_c_X12_least, or_false] at q; omega
  have c1 : ∀ (c : rf) (k : Nat), c.1 = 12 ∨ 50 ≤ c.1 → M1.1 c k = M.1 c k := fun c k a => hF1 c k (fun q => s1 c k q a)
  have c2 : ∀ (c : rf) (k : Nat), ¬ (c.1 = 12 ∨ 50 ≤ c.1) → M2.1 c k = M1.1 c k := fun c k a => hF2 c k (fun q => a (s2 c k q))
  have e50 : M1.1 (50, 0, 0) = M.1 (50, 0, 0) := funext fun k => c1 _ _ (by simp)
  have hR : RW 0 M.1 (M1.1 (50, 0, 0)) := by rw [e50]; exact h.2.2.1
  have hu : (M1.1 (12, 0, 0) 7).toInt = -1 := by rw [c1 _ _ (by simp)]; exact h.2.1
  have h7 : (M2.1 (12, 0, 0) 7).toInt = -1 := by rw [hF2 (12, 0, 0) 7 (fun q => by simp only [S_c_X12_least, or_false] at q; omega)]; exact hu
  exact ⟨RY_fr h hF1 hF2 s1 s2 hx hD2.2.1 hD2.2.2.1 (fun c k a b q => by unfold wR at a; simp only [S_c_X11_least, or_false] at q; omega) (fun c k a q => by rcases a with rfl | rfl | ⟨rfl, rfl⟩ | a | a | a <;> (simp only [S_c_X12_least, or_false] at q <;> omega)) (fun c k a q => by simp only [S_c_X11_least, or_false] at q; omega) h7, trivial⟩
theorem sy_22 {v : Int32} {u : Int32} {t : Int32} {M M1 M2 : mM} {r1 r2 : Int32} (h : RY M.1) (hD0 : InvD M) (hD : InvD M1) (hD2 : InvD M2) (hF1 : FR S_c_X11_farthest M M1) (hs1 : SP_X11_farthest v u t M r1 M1) (hF2 : FR S_c_X12_farthest M1 M2) (hs2 : SP_X12_farthest v u t M1 r2 M2) : RY M2.1 ∧ True := by
  have hx := (st_22 h.1 hD0 hF1 hs1 hF2 hs2).1
  have s1 : cC S_c_X11_farthest := fun c k q => by simp only [S_c_X11_farthest, or_false] at q; omega
  have s2 : cD S_c_X12_farthest := fun c k q => by simp only [S_c_X12_farthest, or_false] at q; omega
  have c1 : ∀ (c : rf) (k : Nat), c.1 = 12 ∨ 50 ≤ c.1 → M1.1 c k = M.1 c k := fun c k a => hF1 c k (fun q => s1 c k q a)
  have c2 : ∀ (c : rf) (k : Nat), ¬ (c.1 = 12 ∨ 50 ≤ c.1) → M2.1 c k = M1.1 c k := fun c k a => hF2 c k (fun q => a (s2 c k q))
  have e50 : M1.1 (50, 0, 0) = M.1 (50, 0, 0) := funext fun k => c1 _ _ (by simp)
  have hR : RW 0 M.1 (M1.1 (50, 0, 0)) := by rw [e50]; exact h.2.2.1
  have hu : (M1.1 (12, 0, 0) 7).toInt = -1 := by rw [c1 _ _ (by simp)]; exact h.2.1
  have h7 : (M2.1 (12, 0, 0) 7).toInt = -1 := by rw [hF2 (12, 0, 0) 7 (fun q => by simp only [S_c_X12_farthest, or_false] at q; omega)]; exact hu
  exact ⟨RY_fr h hF1 hF2 s1 s2 hx hD2.2.1 hD2.2.2.1 (fun c k a b q => by unfold wR at a; simp only [S_c_X11_farthest, or_false] at q; omega) (fun c k a q => by rcases a with rfl | rfl | ⟨rfl, rfl⟩ | a | a | a <;> (simp only [S_c_X12_farthest, or_false] at q <;> omega)) (fun c k a q => by simp only [S_c_X11_farthest, or_false] at q; omega) h7, trivial⟩
theorem sy_23 {v : Int32} {u : Int32} {t : Int32} {s : Int32} {M M1 M2 : mM} {r1 r2 : Int32} (h : RY M.1) (hD0 : InvD M) (hD : InvD M1) (hD2 : InvD M2) (hF1 : FR S_c_X11_spots M M1) (hs1 : SP_X11_spots v u t s M r1 M1) (hF2 : FR S_c_X12_spots M1 M2) (hs2 : SP_X12_spots v u t s M1 r2 M2) : RY M2.1 ∧ True := by
  have hx := (st_23 h.1 hD0 hF1 hs1 hF2 hs2).1
  have s1 : cC S_c_X11_spots := fun c k q => by simp only [S_c_X11_spots, or_false] at q; omega
  have s2 : cD S_c_X12_spots := fun c k q => by simp only [S_c_X12_spots, or_false] at q; omega
  have c1 : ∀ (c : rf) (k : Nat), c.1 = 12 ∨ 50 ≤ c.1 → M1.1 c k = M.1 c k := fun c k a => hF1 c k (fun q => s1 c k q a)
  have c2 : ∀ (c : rf) (k : Nat), ¬ (c.1 = 12 ∨ 50 ≤ c.1) → M2.1 c k = M1.1 c k := fun c k a => hF2 c k (fun q => a (s2 c k q))
  have e50 : M1.1 (50, 0, 0) = M.1 (50, 0, 0) := funext fun k => c1 _ _ (by simp)
  have hR : RW 0 M.1 (M1.1 (50, 0, 0)) := by rw [e50]; exact h.2.2.1
  have hu : (M1.1 (12, 0, 0) 7).toInt = -1 := by rw [c1 _ _ (by simp)]; exact h.2.1
  have h7 : (M2.1 (12, 0, 0) 7).toInt = -1 := USP_X12_spots hs2 hu
  exact ⟨RY_fr h hF1 hF2 s1 s2 hx hD2.2.1 hD2.2.2.1 (fun c k a b q => by unfold wR at a; simp only [S_c_X11_spots, or_false] at q; omega) (fun c k a q => by rcases a with rfl | rfl | ⟨rfl, rfl⟩ | a | a | a <;> (simp only [S_c_X12_spots, or_false] at q <;> omega)) (fun c k a q => by simp only [S_c_X11_spots, or_false] at q; omega) h7, trivial⟩
theorem sy_24 {v : Int32} {M M1 M2 : mM} {r1 r2 : Int32} (h : RY M.1) (hD0 : InvD M) (hD : InvD M1) (hD2 : InvD M2) (hF1 : FR S_c_X11_tenths M M1) (hs1 : SP_X11_tenths v M r1 M1) (hF2 : FR S_c_X12_tenths M1 M2) (hs2 : SP_X12_tenths v M1 r2 M2) : RY M2.1 ∧ r1 = r2 := by
  have hx := (st_24 h.1 hD0 hF1 hs1 hF2 hs2).1
  have s1 : cC S_c_X11_tenths := fun c k q => by simp only [S_c_X11_tenths, or_false] at q; omega
  have s2 : cD S_c_X12_tenths := fun c k q => by simp only [S_c_X12_tenths, or_false] at q; omega
  have c1 : ∀ (c : rf) (k : Nat), c.1 = 12 ∨ 50 ≤ c.1 → M1.1 c k = M.1 c k := fun c k a => hF1 c k (fun q => s1 c k q a)
  have c2 : ∀ (c : rf) (k : Nat), ¬ (c.1 = 12 ∨ 50 ≤ c.1) → M2.1 c k = M1.1 c k := fun c k a => hF2 c k (fun q => a (s2 c k q))
  have e50 : M1.1 (50, 0, 0) = M.1 (50, 0, 0) := funext fun k => c1 _ _ (by simp)
  have hR : RW 0 M.1 (M1.1 (50, 0, 0)) := by rw [e50]; exact h.2.2.1
  have hu : (M1.1 (12, 0, 0) 7).toInt = -1 := by rw [c1 _ _ (by simp)]; exact h.2.1
  have h7 : (M2.1 (12, 0, 0) 7).toInt = -1 := by rw [hF2 (12, 0, 0) 7 (fun q => by simp only [S_c_X12_tenths, or_false] at q; omega)]; exact hu
  have B := cb_24 hs1 hs2 hR hD hu
  exact ⟨RY_of h hF1 hF2 s1 s2 hx hD2.2.1 hD2.2.2.1 h7 B.1 (Or.inl ⟨hF2 _ _ (fun q => by simp only [S_c_X12_tenths, or_false] at q; omega), fun c k a b q => by unfold wR at a; simp only [S_c_X11_tenths, or_false] at q; omega, fun k q => by simp only [S_c_X12_tenths, or_false] at q; omega⟩) (SHR_keep h.2.2.2.2 (fun c k a => hF1 c k (fun q => by simp only [S_c_X11_tenths, or_false] at q; omega)) (fun c k a => by rw [hF2 c k (fun q => by simp only [S_c_X12_tenths, or_false] at q; omega), c1 c k (by omega)])), B.2⟩
theorem sy_25 {v : Int32} {u : Int32} {t : Int32} {M M1 M2 : mM} {r1 r2 : Int32} (h : RY M.1) (hD0 : InvD M) (hD : InvD M1) (hD2 : InvD M2) (hF1 : FR S_c_X11_way M M1) (hs1 : SP_X11_way v u t M r1 M1) (hF2 : FR S_c_X12_way M1 M2) (hs2 : SP_X12_way v u t M1 r2 M2) : RY M2.1 ∧ True := by
  have hx := (st_25 h.1 hD0 hF1 hs1 hF2 hs2).1
  have s1 : cC S_c_X11_way := fun c k q => by simp only [S_c_X11_way, or_false] at q; omega
  have s2 : cD S_c_X12_way := fun c k q => by simp only [S_c_X12_way, or_false] at q; omega
  have c1 : ∀ (c : rf) (k : Nat), c.1 = 12 ∨ 50 ≤ c.1 → M1.1 c k = M.1 c k := fun c k a => hF1 c k (fun q => s1 c k q a)
  have c2 : ∀ (c : rf) (k : Nat), ¬ (c.1 = 12 ∨ 50 ≤ c.1) → M2.1 c k = M1.1 c k := fun c k a => hF2 c k (fun q => a (s2 c k q))
  have e50 : M1.1 (50, 0, 0) = M.1 (50, 0, 0) := funext fun k => c1 _ _ (by simp)
  have hR : RW 0 M.1 (M1.1 (50, 0, 0)) := by rw [e50]; exact h.2.2.1
  have hu : (M1.1 (12, 0, 0) 7).toInt = -1 := by rw [c1 _ _ (by simp)]; exact h.2.1
  have h7 : (M2.1 (12, 0, 0) 7).toInt = -1 := by rw [hF2 (12, 0, 0) 7 (fun q => by simp only [S_c_X12_way, or_false] at q; omega)]; exact hu
  exact ⟨RY_fr h hF1 hF2 s1 s2 hx hD2.2.1 hD2.2.2.1 (fun c k a b q => by unfold wR at a; simp only [S_c_X11_way, or_false] at q; omega) (fun c k a q => by rcases a with rfl | rfl | ⟨rfl, rfl⟩ | a | a | a <;> (simp only [S_c_X12_way, or_false] at q <;> omega)) (fun c k a q => by simp only [S_c_X11_way, or_false] at q; omega) h7, trivial⟩
theorem sy_26 {v : Int32} {M M1 M2 : mM} {r1 r2 : Int32} (h : RY M.1) (hD0 : InvD M) (hD : InvD M1) (hD2 : InvD M2) (hF1 : FR S_c_X11_safe M M1) (hs1 : SP_X11_safe v M r1 M1) (hF2 : FR S_c_X12_safe M1 M2) (hs2 : SP_X12_safe v M1 r2 M2) : RY M2.1 ∧ True := by
  have hx := (st_26 h.1 hD0 hF1 hs1 hF2 hs2).1
  have s1 : cC S_c_X11_safe := fun c k q => by simp only [S_c_X11_safe, or_false] at q; omega
  have s2 : cD S_c_X12_safe := fun c k q => by simp only [S_c_X12_safe, or_false] at q; omega
  have c1 : ∀ (c : rf) (k : Nat), c.1 = 12 ∨ 50 ≤ c.1 → M1.1 c k = M.1 c k := fun c k a => hF1 c k (fun q => s1 c k q a)
  have c2 : ∀ (c : rf) (k : Nat), ¬ (c.1 = 12 ∨ 50 ≤ c.1) → M2.1 c k = M1.1 c k := fun c k a => hF2 c k (fun q => a (s2 c k q))
  have e50 : M1.1 (50, 0, 0) = M.1 (50, 0, 0) := funext fun k => c1 _ _ (by simp)
  have hR : RW 0 M.1 (M1.1 (50, 0, 0)) := by rw [e50]; exact h.2.2.1
  have hu : (M1.1 (12, 0, 0) 7).toInt = -1 := by rw [c1 _ _ (by simp)]; exact h.2.1
  have h7 : (M2.1 (12, 0, 0) 7).toInt = -1 := by rw [hF2 (12, 0, 0) 7 (fun q => by simp only [S_c_X12_safe, or_false] at q; omega)]; exact hu
  exact ⟨RY_fr h hF1 hF2 s1 s2 hx hD2.2.1 hD2.2.2.1 (fun c k a b q => by unfold wR at a; simp only [S_c_X11_safe, or_false] at q; omega) (fun c k a q => by rcases a with rfl | rfl | ⟨rfl, rfl⟩ | a | a | a <;> (simp only [S_c_X12_safe, or_false] at q <;> omega)) (fun c k a q => by simp only [S_c_X11_safe, or_false] at q; omega) h7, trivial⟩
theorem sy_27 {v : Int32} {u : Int32} {t : Int32} {M M1 M2 : mM} {r1 r2 : Int32} (h : RY M.1) (hD0 : InvD M) (hD : InvD M1) (hD2 : InvD M2) (hF1 : FR S_c_X11_lesson M M1) (hs1 : SP_X11_lesson v u t M r1 M1) (hF2 : FR S_c_X12_lesson M1 M2) (hs2 : SP_X12_lesson v u t M1 r2 M2) : RY M2.1 ∧ r1 = r2 := by
  have hx := (st_27 h.1 hD0 hF1 hs1 hF2 hs2).1
  have s1 : cC S_c_X11_lesson := fun c k q => by simp only [S_c_X11_lesson, or_false] at q; omega
  have s2 : cD S_c_X12_lesson := fun c k q => by simp only [S_c_X12_lesson, or_false] at q; omega
  have c1 : ∀ (c : rf) (k : Nat), c.1 = 12 ∨ 50 ≤ c.1 → M1.1 c k = M.1 c k := fun c k a => hF1 c k (fun q => s1 c k q a)
  have c2 : ∀ (c : rf) (k : Nat), ¬ (c.1 = 12 ∨ 50 ≤ c.1) → M2.1 c k = M1.1 c k := fun c k a => hF2 c k (fun q => a (s2 c k q))
  have e50 : M1.1 (50, 0, 0) = M.1 (50, 0, 0) := funext fun k => c1 _ _ (by simp)
  have hR : RW 0 M.1 (M1.1 (50, 0, 0)) := by rw [e50]; exact h.2.2.1
  have hu : (M1.1 (12, 0, 0) 7).toInt = -1 := by rw [c1 _ _ (by simp)]; exact h.2.1
  have h7 : (M2.1 (12, 0, 0) 7).toInt = -1 := by rw [hF2 (12, 0, 0) 7 (fun q => by simp only [S_c_X12_lesson, or_false] at q; omega)]; exact hu
  have B := cb_27 hs1 hs2 hR hD hu (show M.1 (3, 0, 0) 3 = M1.1 (50, 0, 0) 3 from ((RXzg h.1 (d := (50, 0, 0)) (j := 3) (by unfold PRz; simp) (by simp)).trans (c1 _ _ (by simp)).symm))
  exact ⟨RY_of h hF1 hF2 s1 s2 hx hD2.2.1 hD2.2.2.1 h7 B.1 (Or.inl ⟨hF2 _ _ (fun q => by simp only [S_c_X12_lesson, or_false] at q; omega), fun c k a b q => by unfold wR at a; simp only [S_c_X11_lesson, or_false] at q; omega, fun k q => by simp only [S_c_X12_lesson, or_false] at q; omega⟩) (SHR_keep h.2.2.2.2 (fun c k a => hF1 c k (fun q => by simp only [S_c_X11_lesson, or_false] at q; omega)) (fun c k a => by rw [hF2 c k (fun q => by simp only [S_c_X12_lesson, or_false] at q; omega), c1 c k (by omega)])), B.2⟩
theorem sy_28 {v : Int32} {u : Int32} {t : Int32} {M M1 M2 : mM} {r1 r2 : Int32} (h : RY M.1) (hD0 : InvD M) (hD : InvD M1) (hD2 : InvD M2) (hF1 : FR S_c_X11_learn M M1) (hs1 : SP_X11_learn v u t M r1 M1) (hF2 : FR S_c_X12_learn M1 M2) (hs2 : SP_X12_learn v u t M1 r2 M2) : RY M2.1 ∧ True := by
  have hx := (st_28 h.1 hD0 hF1 hs1 hF2 hs2).1
  have s1 : cC S_c_X11_learn := fun c k q => by simp only [S_c_X11_learn, or_false] at q; omega
  have s2 : cD S_c_X12_learn := fun c k q => by simp only [S_c_X12_learn, or_false] at q; omega
  have c1 : ∀ (c : rf) (k : Nat), c.1 = 12 ∨ 50 ≤ c.1 → M1.1 c k = M.1 c k := fun c k a => hF1 c k (fun q => s1 c k q a)
  have c2 : ∀ (c : rf) (k : Nat), ¬ (c.1 = 12 ∨ 50 ≤ c.1) → M2.1 c k = M1.1 c k := fun c k a => hF2 c k (fun q => a (s2 c k q))
  have e50 : M1.1 (50, 0, 0) = M.1 (50, 0, 0) := funext fun k => c1 _ _ (by simp)
  have hR : RW 0 M.1 (M1.1 (50, 0, 0)) := by rw [e50]; exact h.2.2.1
  have hu : (M1.1 (12, 0, 0) 7).toInt = -1 := by rw [c1 _ _ (by simp)]; exact h.2.1
  have h7 : (M2.1 (12, 0, 0) 7).toInt = -1 := by rw [hF2 (12, 0, 0) 7 (fun q => by simp only [S_c_X12_learn, or_false] at q; omega)]; exact hu
  have hN : NW5 (M.1 (50, 0, 0)) := hD0.2.1
  have e2 : M2.1 (50, 0, 0) = M.1 (50, 0, 0) := funext fun k => by rw [hF2 _ _ (fun q => by simp only [S_c_X12_learn, or_false] at q; omega), c1 _ _ (by simp)]
  refine ⟨RY_of h hF1 hF2 s1 s2 hx hD2.2.1 hD2.2.2.1 h7 ?_ (Or.inl ⟨hF2 _ _ (fun q => by simp only [S_c_X12_learn, or_false] at q; omega), fun c k a b q => by unfold wR at a; simp only [S_c_X11_learn, or_false] at q; omega, fun k q => by simp only [S_c_X12_learn, or_false] at q; omega⟩) (SHR_keep h.2.2.2.2 (fun c k a => hF1 c k (fun q => by simp only [S_c_X11_learn, or_false] at q; omega)) (fun c k a => by rw [hF2 c k (fun q => by simp only [S_c_X12_learn, or_false] at q; omega), c1 c k (by omega)])), trivial⟩
  rw [e2]
  exact RW_rest h.2.2.1 hN (fun c k a b => hF1 c k (fun q => by unfold wR at a; simp only [S_c_X11_learn, or_false] at q; omega)) (fun _ _ _ => rfl) (LER_keep h.2.2.1.2.1 (n345_b hN).1.2 (fun r k hr => hF1 _ _ (fun q => by simp only [S_c_X11_learn, or_false] at q; omega)) (fun _ _ => rfl)) (TAR_keep h.2.2.1.2.2.1 (n345_b hN).2.1.2 (fun k => hF1 _ _ (fun q => by simp only [S_c_X11_learn, or_false] at q; omega)) (fun _ _ => rfl)) (WTR_keep h.2.2.1.2.2.2 (n345_b hN).2.2.2 (fun k => hF1 _ _ (fun q => by simp only [S_c_X11_learn, or_false] at q; omega)) (fun _ _ => rfl))
theorem sy_29 {v : Int32} {u : Int32} {t : Int32} {s : Int32} {M M1 M2 : mM} {r1 r2 : Int32} (h : RY M.1) (hD0 : InvD M) (hD : InvD M1) (hD2 : InvD M2) (hF1 : FR S_c_X11_posts M M1) (hs1 : SP_X11_posts v u t s M r1 M1) (hF2 : FR S_c_X12_posts M1 M2) (hs2 : SP_X12_posts v u t s M1 r2 M2) : RY M2.1 ∧ r1 = r2 := by
  have hx := (st_29 h.1 hD0 hF1 hs1 hF2 hs2).1
  have s1 : cC S_c_X11_posts := fun c k q => by simp only [S_c_X11_posts, or_false] at q; omega
  have s2 : cD S_c_X12_posts := fun c k q => by simp only [S_c_X12_posts, or_false] at q; omega
  have c1 : ∀ (c : rf) (k : Nat), c.1 = 12 ∨ 50 ≤ c.1 → M1.1 c k = M.1 c k := fun c k a => hF1 c k (fun q => s1 c k q a)
  have c2 : ∀ (c : rf) (k : Nat), ¬ (c.1 = 12 ∨ 50 ≤ c.1) → M2.1 c k = M1.1 c k := fun c k a => hF2 c k (fun q => a (s2 c k q))
  have e50 : M1.1 (50, 0, 0) = M.1 (50, 0, 0) := funext fun k => c1 _ _ (by simp)
  have hR : RW 0 M.1 (M1.1 (50, 0, 0)) := by rw [e50]; exact h.2.2.1
  have hu : (M1.1 (12, 0, 0) 7).toInt = -1 := by rw [c1 _ _ (by simp)]; exact h.2.1
  have h7 : (M2.1 (12, 0, 0) 7).toInt = -1 := USP_X12_posts hs2 hu
  exact ⟨RY_fr h hF1 hF2 s1 s2 hx hD2.2.1 hD2.2.2.1 (fun c k a b q => by unfold wR at a; simp only [S_c_X11_posts, or_false] at q; omega) (fun c k a q => by rcases a with rfl | rfl | ⟨rfl, rfl⟩ | a | a | a <;> (simp only [S_c_X12_posts, or_false] at q <;> omega)) (fun c k a q => by simp only [S_c_X11_posts, or_false] at q; omega) h7, an_29 hs1 hs2 hR hD hu (SHR_keep h.2.2.2.2 (fun _ _ _ => rfl) (fun c k a => c1 c k (by omega)))⟩
theorem sy_30 {v : Int32} {u : Int32} {t : Int32} {M M1 M2 : mM} {r1 r2 : Int32} (h : RY M.1) (hD0 : InvD M) (hD : InvD M1) (hD2 : InvD M2) (hF1 : FR S_c_X11_voice M M1) (hs1 : SP_X11_voice v u t M r1 M1) (hF2 : FR S_c_X12_voice M1 M2) (hs2 : SP_X12_voice v u t M1 r2 M2) : RY M2.1 ∧ True := by
  have hx := (st_30 h.1 hD0 hF1 hs1 hF2 hs2).1
  have s1 : cC S_c_X11_voice := fun c k q => by simp only [S_c_X11_voice, or_false] at q; omega
  have s2 : cD S_c_X12_voice := fun c k q => by simp only [S_c_X12_voice, or_false] at q; omega
  have c1 : ∀ (c : rf) (k : Nat), c.1 = 12 ∨ 50 ≤ c.1 → M1.1 c k = M.1 c k := fun c k a => hF1 c k (fun q => s1 c k q a)
  have c2 : ∀ (c : rf) (k : Nat), ¬ (c.1 = 12 ∨ 50 ≤ c.1) → M2.1 c k = M1.1 c k := fun c k a => hF2 c k (fun q => a (s2 c k q))
  have e50 : M1.1 (50, 0, 0) = M.1 (50, 0, 0) := funext fun k => c1 _ _ (by simp)
  have hR : RW 0 M.1 (M1.1 (50, 0, 0)) := by rw [e50]; exact h.2.2.1
  have hu : (M1.1 (12, 0, 0) 7).toInt = -1 := by rw [c1 _ _ (by simp)]; exact h.2.1
  have h7 : (M2.1 (12, 0, 0) 7).toInt = -1 := by rw [hF2 (12, 0, 0) 7 (fun q => by simp only [S_c_X12_voice, or_false] at q; omega)]; exact hu
  exact ⟨RY_fr h hF1 hF2 s1 s2 hx hD2.2.1 hD2.2.2.1 (fun c k a b q => by unfold wR at a; simp only [S_c_X11_voice, or_false] at q; omega) (fun c k a q => by rcases a with rfl | rfl | ⟨rfl, rfl⟩ | a | a | a <;> (simp only [S_c_X12_voice, or_false] at q <;> omega)) (fun c k a q => by simp only [S_c_X11_voice, or_false] at q; omega) h7, trivial⟩
theorem sy_31 {v : Int32} {M M1 M2 : mM} {r1 r2 : Int32} (h : RY M.1) (hD0 : InvD M) (hD : InvD M1) (hD2 : InvD M2) (hF1 : FR S_c_X11_trace M M1) (hs1 : SP_X11_trace v M r1 M1) (hF2 : FR S_c_X12_trace M1 M2) (hs2 : SP_X12_trace v M1 r2 M2) : RY M2.1 ∧ True := by
  have hx := (st_31 h.1 hD0 hF1 hs1 hF2 hs2).1
  have s1 : cC S_c_X11_trace := fun c k q => by simp only [S_c_X11_trace, or_false] at q; omega
  have s2 : cD S_c_X12_trace := fun c k q => by simp only [S_c_X12_trace, or_false] at q; omega
  have c1 : ∀ (c : rf) (k : Nat), c.1 = 12 ∨ 50 ≤ c.1 → M1.1 c k = M.1 c k := fun c k a => hF1 c k (fun q => s1 c k q a)
  have c2 : ∀ (c : rf) (k : Nat), ¬ (c.1 = 12 ∨ 50 ≤ c.1) → M2.1 c k = M1.1 c k := fun c k a => hF2 c k (fun q => a (s2 c k q))
  have e50 : M1.1 (50, 0, 0) = M.1 (50, 0, 0) := funext fun k => c1 _ _ (by simp)
  have hR : RW 0 M.1 (M1.1 (50, 0, 0)) := by rw [e50]; exact h.2.2.1
  have hu : (M1.1 (12, 0, 0) 7).toInt = -1 := by rw [c1 _ _ (by simp)]; exact h.2.1
  have h7 : (M2.1 (12, 0, 0) 7).toInt = -1 := by rw [hF2 (12, 0, 0) 7 (fun q => by simp only [S_c_X12_trace, or_false] at q; omega)]; exact hu
  exact ⟨RY_fr h hF1 hF2 s1 s2 hx hD2.2.1 hD2.2.2.1 (fun c k a b q => by unfold wR at a; simp only [S_c_X11_trace, or_false] at q; omega) (fun c k a q => by rcases a with rfl | rfl | ⟨rfl, rfl⟩ | a | a | a <;> (simp only [S_c_X12_trace, or_false] at q <;> omega)) (fun c k a q => by simp only [S_c_X11_trace, or_false] at q; omega) h7, trivial⟩
theorem sy_32 {v : Int32} {u : Int32} {t : Int32} {M M1 M2 : mM} {r1 r2 : Int32} (h : RY M.1) (hD0 : InvD M) (hD : InvD M1) (hD2 : InvD M2) (hF1 : FR S_c_X11_sheet M M1) (hs1 : SP_X11_sheet v u t M r1 M1) (hF2 : FR S_c_X12_sheet M1 M2) (hs2 : SP_X12_sheet v u t M1 r2 M2) : RY M2.1 ∧ True := by
  have hx := (st_32 h.1 hD0 hF1 hs1 hF2 hs2).1
  have s1 : cC S_c_X11_sheet := fun c k q => by simp only [S_c_X11_sheet, or_false] at q; omega
  have s2 : cD S_c_X12_sheet := fun c k q => by simp only [S_c_X12_sheet, or_false] at q; omega
  have c1 : ∀ (c : rf) (k : Nat), c.1 = 12 ∨ 50 ≤ c.1 → M1.1 c k = M.1 c k := fun c k a => hF1 c k (fun q => s1 c k q a)
  have c2 : ∀ (c : rf) (k : Nat), ¬ (c.1 = 12 ∨ 50 ≤ c.1) → M2.1 c k = M1.1 c k := fun c k a => hF2 c k (fun q => a (s2 c k q))
  have e50 : M1.1 (50, 0, 0) = M.1 (50, 0, 0) := funext fun k => c1 _ _ (by simp)
  have hR : RW 0 M.1 (M1.1 (50, 0, 0)) := by rw [e50]; exact h.2.2.1
  have hu : (M1.1 (12, 0, 0) 7).toInt = -1 := by rw [c1 _ _ (by simp)]; exact h.2.1
  have h7 : (M2.1 (12, 0, 0) 7).toInt = -1 := by rw [hF2 (12, 0, 0) 7 (fun q => by simp only [S_c_X12_sheet, or_false] at q; omega)]; exact hu
  have e2 : M2.1 (50, 0, 0) = M.1 (50, 0, 0) := funext fun k => by rw [hF2 _ _ (fun q => by simp only [S_c_X12_sheet, or_false] at q; omega), c1 _ _ (by simp)]
  have hS : SHR M.1 M1.1 := SHR_keep h.2.2.2.2 (fun _ _ _ => rfl) (fun c k a => c1 c k (by omega))
  have hB : ∀ w, w < 4 → M1.1 (6, 0, w) 0 = M2.1 (66, 0, 0) w ∧ M1.1 (6, 0, w) 1 = M2.1 (67, 0, 0) w := fun w hw => ⟨by rw [← c2 _ _ (by simp)]; exact RXzg hx (Pz_6a hw) (by simp), by rw [← c2 _ _ (by simp)]; exact RXzg hx (Pz_6b hw) (by simp)⟩
  have sh := sh_32 hs1 hs2 hS hD hD2 hB
  refine ⟨RY_of h hF1 hF2 s1 s2 hx hD2.2.1 hD2.2.2.1 h7 ?_ (Or.inl ⟨hF2 _ _ (fun q => by simp only [S_c_X12_sheet, or_false] at q; omega), fun c k a b q => by unfold wR at a; simp only [S_c_X11_sheet, or_false] at q; omega, fun k q => by simp only [S_c_X12_sheet, or_false] at q; omega⟩) sh, trivial⟩
  rw [e2]
  exact RW_same h.2.2.1 hD0.2.1 (fun c k a b => hF1 c k (fun q => by unfold wR at a; simp only [S_c_X11_sheet, or_false] at q; omega))
theorem sy_33 {v : Int32} {u : Int32} {t : Int32} {M M1 M2 : mM} {r1 r2 : Int32} (h : RY M.1) (hD0 : InvD M) (hD : InvD M1) (hD2 : InvD M2) (hF1 : FR S_c_X11_put M M1) (hs1 : SP_X11_put v u t M r1 M1) (hF2 : FR S_c_X12_put M1 M2) (hs2 : SP_X12_put v u t M1 r2 M2) : RY M2.1 ∧ True := by
  have hx := (st_33 h.1 hD0 hF1 hs1 hF2 hs2).1
  have s1 : cC S_c_X11_put := fun c k q => by simp only [S_c_X11_put, or_false] at q; omega
  have s2 : cD S_c_X12_put := fun c k q => by simp only [S_c_X12_put, or_false] at q; omega
  have c1 : ∀ (c : rf) (k : Nat), c.1 = 12 ∨ 50 ≤ c.1 → M1.1 c k = M.1 c k := fun c k a => hF1 c k (fun q => s1 c k q a)
  have c2 : ∀ (c : rf) (k : Nat), ¬ (c.1 = 12 ∨ 50 ≤ c.1) → M2.1 c k = M1.1 c k := fun c k a => hF2 c k (fun q => a (s2 c k q))
  have e50 : M1.1 (50, 0, 0) = M.1 (50, 0, 0) := funext fun k => c1 _ _ (by simp)
  have hR : RW 0 M.1 (M1.1 (50, 0, 0)) := by rw [e50]; exact h.2.2.1
  have hu : (M1.1 (12, 0, 0) 7).toInt = -1 := by rw [c1 _ _ (by simp)]; exact h.2.1
  have h7 : (M2.1 (12, 0, 0) 7).toInt = -1 := by rw [hF2 (12, 0, 0) 7 (fun q => by simp only [S_c_X12_put, or_false] at q; omega)]; exact hu
  have e2 : M2.1 (50, 0, 0) = M.1 (50, 0, 0) := funext fun k => by rw [hF2 _ _ (fun q => by simp only [S_c_X12_put, or_false] at q; omega), c1 _ _ (by simp)]
  have hS : SHR M.1 M1.1 := SHR_keep h.2.2.2.2 (fun _ _ _ => rfl) (fun c k a => c1 c k (by omega))
  have sh := sh_33 hs1 hs2 hS hD
  refine ⟨RY_of h hF1 hF2 s1 s2 hx hD2.2.1 hD2.2.2.1 h7 ?_ (Or.inl ⟨hF2 _ _ (fun q => by simp only [S_c_X12_put, or_false] at q; omega), fun c k a b q => by unfold wR at a; simp only [S_c_X11_put, or_false] at q; omega, fun k q => by simp only [S_c_X12_put, or_false] at q; omega⟩) sh, trivial⟩
  rw [e2]
  exact RW_same h.2.2.1 hD0.2.1 (fun c k a b => hF1 c k (fun q => by unfold wR at a; simp only [S_c_X11_put, or_false] at q; omega))
theorem sy_34 {v : Int32} {u : Int32} {t : Int32} {s : Int32} {q : Int32} {M M1 M2 : mM} {r1 r2 : Int32} (h : RY M.1) (hD0 : InvD M) (hD : InvD M1) (hD2 : InvD M2) (hF1 : FR S_c_X11_move M M1) (hs1 : SP_X11_move v u t s q M r1 M1) (hF2 : FR S_c_X12_move M1 M2) (hs2 : SP_X12_move v u t s q M1 r2 M2) : RY M2.1 ∧ True := by
  have hx := (st_34 h.1 hD0 hF1 hs1 hF2 hs2).1
  have s1 : cC S_c_X11_move := fun c k q => by simp only [S_c_X11_move, or_false] at q; omega
  have s2 : cD S_c_X12_move := fun c k q => by simp only [S_c_X12_move, or_false] at q; omega
  have c1 : ∀ (c : rf) (k : Nat), c.1 = 12 ∨ 50 ≤ c.1 → M1.1 c k = M.1 c k := fun c k a => hF1 c k (fun q => s1 c k q a)
  have c2 : ∀ (c : rf) (k : Nat), ¬ (c.1 = 12 ∨ 50 ≤ c.1) → M2.1 c k = M1.1 c k := fun c k a => hF2 c k (fun q => a (s2 c k q))
  have e50 : M1.1 (50, 0, 0) = M.1 (50, 0, 0) := funext fun k => c1 _ _ (by simp)
  have hR : RW 0 M.1 (M1.1 (50, 0, 0)) := by rw [e50]; exact h.2.2.1
  have hu : (M1.1 (12, 0, 0) 7).toInt = -1 := by rw [c1 _ _ (by simp)]; exact h.2.1
  have h7 : (M2.1 (12, 0, 0) 7).toInt = -1 := by rw [hF2 (12, 0, 0) 7 (fun q => by simp only [S_c_X12_move, or_false] at q; omega)]; exact hu
  have e2 : M2.1 (50, 0, 0) = M.1 (50, 0, 0) := funext fun k => by rw [hF2 _ _ (fun q => by simp only [S_c_X12_move, or_false] at q; omega), c1 _ _ (by simp)]
  have hS : SHR M.1 M1.1 := SHR_keep h.2.2.2.2 (fun _ _ _ => rfl) (fun c k a => c1 c k (by omega))
  have sh := sh_34 hs1 hs2 hS hD
  refine ⟨RY_of h hF1 hF2 s1 s2 hx hD2.2.1 hD2.2.2.1 h7 ?_ (Or.inl ⟨hF2 _ _ (fun q => by simp only [S_c_X12_move, or_false] at q; omega), fun c k a b q => by unfold wR at a; simp only [S_c_X11_move, or_false] at q; omega, fun k q => by simp only [S_c_X12_move, or_false] at q; omega⟩) sh, trivial⟩
  rw [e2]
  exact RW_same h.2.2.1 hD0.2.1 (fun c k a b => hF1 c k (fun q => by unfold wR at a; simp only [S_c_X11_move, or_false] at q; omega))
theorem sy_35 {M M1 M2 : mM} {r1 r2 : Int32} (h : RY M.1) (hD0 : InvD M) (hD : InvD M1) (hD2 : InvD M2) (hF1 : FR S_c_X11_image M M1) (hs1 : SP_X11_image M r1 M1) (hF2 : FR S_c_X12_image M1 M2) (hs2 : SP_X12_image M1 r2 M2) : RY M2.1 ∧ r1 = r2 := by
  have hx := (st_35 h.1 hD0 hF1 hs1 hF2 hs2).1
  have s1 : cC S_c_X11_image := fun c k q => by simp only [S_c_X11_image, or_false] at q; omega
  have s2 : cD S_c_X12_image := fun c k q => by simp only [S_c_X12_image, or_false] at q; omega
  have c1 : ∀ (c : rf) (k : Nat), c.1 = 12 ∨ 50 ≤ c.1 → M1.1 c k = M.1 c k := fun c k a => hF1 c k (fun q => s1 c k q a)
  have c2 : ∀ (c : rf) (k : Nat), ¬ (c.1 = 12 ∨ 50 ≤ c.1) → M2.1 c k = M1.1 c k := fun c k a => hF2 c k (fun q => a (s2 c k q))
  have e50 : M1.1 (50, 0, 0) = M.1 (50, 0, 0) := funext fun k => c1 _ _ (by simp)
  have hR : RW 0 M.1 (M1.1 (50, 0, 0)) := by rw [e50]; exact h.2.2.1
  have hu : (M1.1 (12, 0, 0) 7).toInt = -1 := by rw [c1 _ _ (by simp)]; exact h.2.1
  have h7 : (M2.1 (12, 0, 0) 7).toInt = -1 := by rw [hF2 (12, 0, 0) 7 (fun q => by simp only [S_c_X12_image, or_false] at q; omega)]; exact hu
  have B := cb_35 hs1 hs2 hR hD (show M.1 (5, 0, 0) 1 = M1.1 (50, 0, 0) 4 from ((RXzg h.1 (d := (50, 0, 0)) (j := 4) (by unfold PRz; simp) (by simp)).trans (c1 _ _ (by simp)).symm)) (show M.1 (5, 0, 1) 1 = M1.1 (50, 0, 0) 5 from ((RXzg h.1 (d := (50, 0, 0)) (j := 5) (by unfold PRz; simp) (by simp)).trans (c1 _ _ (by simp)).symm)) (show M.1 (11, 0, 0) 8 = M1.1 (12, 0, 0) 3 from (RXzg h.1 (d := (12, 0, 0)) (j := 3) (by unfold PRz; simp) (by simp)).trans (c1 _ _ (by simp)).symm)
  exact ⟨RY_of h hF1 hF2 s1 s2 hx hD2.2.1 hD2.2.2.1 h7 B.1 (Or.inr (fun _ => B.2.1)) (SHR_keep h.2.2.2.2 (fun c k a => hF1 c k (fun q => by simp only [S_c_X11_image, or_false] at q; omega)) (fun c k a => by rw [hF2 c k (fun q => by simp only [S_c_X12_image, or_false] at q; omega), c1 c k (by omega)])), B.2.2⟩
theorem sy_36 {M M1 M2 : mM} {r1 r2 : Int32} (h : RY M.1) (hD0 : InvD M) (hD : InvD M1) (hD2 : InvD M2) (hF1 : FR S_c_X11_restore M M1) (hs1 : SP_X11_restore M r1 M1) (hF2 : FR S_c_X12_restore M1 M2) (hs2 : SP_X12_restore M1 r2 M2) : RY M2.1 ∧ r1 = r2 := by
  have hx := (st_36 h.1 hD0 hF1 hs1 hF2 hs2).1
  have s1 : cC S_c_X11_restore := fun c k q => by simp only [S_c_X11_restore, or_false] at q; omega
  have s2 : cD S_c_X12_restore := fun c k q => by simp only [S_c_X12_restore, or_false] at q; omega
  have c1 : ∀ (c : rf) (k : Nat), c.1 = 12 ∨ 50 ≤ c.1 → M1.1 c k = M.1 c k := fun c k a => hF1 c k (fun q => s1 c k q a)
  have c2 : ∀ (c : rf) (k : Nat), ¬ (c.1 = 12 ∨ 50 ≤ c.1) → M2.1 c k = M1.1 c k := fun c k a => hF2 c k (fun q => a (s2 c k q))
  have e50 : M1.1 (50, 0, 0) = M.1 (50, 0, 0) := funext fun k => c1 _ _ (by simp)
  have hR : RW 0 M.1 (M1.1 (50, 0, 0)) := by rw [e50]; exact h.2.2.1
  have hu : (M1.1 (12, 0, 0) 7).toInt = -1 := by rw [c1 _ _ (by simp)]; exact h.2.1
  have h7 : (M2.1 (12, 0, 0) 7).toInt = -1 := by rw [hF2 (12, 0, 0) 7 (fun q => by simp only [S_c_X12_restore, or_false] at q; omega)]; exact hu
  have e51 : M1.1 (51, 0, 0) = M.1 (51, 0, 0) := funext fun k => c1 _ _ (by simp)
  have hI : ¬ (M1.1 (12, 0, 0) 3).toInt = 0 → RW 1 M.1 (M1.1 (51, 0, 0)) ∧ M.1 (5, 1, 0) 1 = M1.1 (51, 0, 0) 4 ∧ M.1 (5, 1, 1) 1 = M1.1 (51, 0, 0) 5 := fun q => by
    rw [c1 (12, 0, 0) 3 (by simp)] at q
    rw [e51]
    exact ⟨h.2.2.2.1 q, h.1 _ _ _ _ (by unfold PRz; simp) (fun _ => q), h.1 _ _ _ _ (by unfold PRz; simp) (fun _ => q)⟩
  have B := cb_36 hs1 hs2 hR hD (show M.1 (11, 0, 0) 8 = M1.1 (12, 0, 0) 3 from (RXzg h.1 (d := (12, 0, 0)) (j := 3) (by unfold PRz; simp) (by simp)).trans (c1 _ _ (by simp)).symm) hI
  have i3 : M2.1 (12, 0, 0) 3 = M1.1 (12, 0, 0) 3 := hF2 _ _ (fun q => by simp only [S_c_X12_restore, or_false] at q; omega)
  exact ⟨RY_of h hF1 hF2 s1 s2 hx hD2.2.1 hD2.2.2.1 h7 B.1 (Or.inr (fun q => B.2.1 (by rw [← i3]; exact q))) (SHR_keep h.2.2.2.2 (fun c k a => hF1 c k (fun q => by simp only [S_c_X11_restore, or_false] at q; omega)) (fun c k a => by rw [hF2 c k (fun q => by simp only [S_c_X12_restore, or_false] at q; omega), c1 c k (by omega)])), B.2.2⟩
theorem sy_37 {v : Int32} {M M1 M2 : mM} {r1 r2 : Int32} (h : RY M.1) (hD0 : InvD M) (hD : InvD M1) (hD2 : InvD M2) (hF1 : FR S_c_X11_tell M M1) (hs1 : SP_X11_tell v M r1 M1) (hF2 : FR S_c_X12_tell M1 M2) (hs2 : SP_X12_tell v M1 r2 M2) : RY M2.1 ∧ r1 = r2 := by
  have hx := (st_37 h.1 hD0 hF1 hs1 hF2 hs2).1
  have s1 : cC S_c_X11_tell := fun c k q => by simp only [S_c_X11_tell, or_false] at q; omega
  have s2 : cD S_c_X12_tell := fun c k q => by simp only [S_c_X12_tell, or_false] at q; omega
  have c1 : ∀ (c : rf) (k : Nat), c.1 = 12 ∨ 50 ≤ c.1 → M1.1 c k = M.1 c k := fun c k a => hF1 c k (fun q => s1 c k q a)
  have c2 : ∀ (c : rf) (k : Nat), ¬ (c.1 = 12 ∨ 50 ≤ c.1) → M2.1 c k = M1.1 c k := fun c k a => hF2 c k (fun q => a (s2 c k q))
  have e50 : M1.1 (50, 0, 0) = M.1 (50, 0, 0) := funext fun k => c1 _ _ (by simp)
  have hR : RW 0 M.1 (M1.1 (50, 0, 0)) := by rw [e50]; exact h.2.2.1
  have hu : (M1.1 (12, 0, 0) 7).toInt = -1 := by rw [c1 _ _ (by simp)]; exact h.2.1
  have h7 : (M2.1 (12, 0, 0) 7).toInt = -1 := by rw [hF2 (12, 0, 0) 7 (fun q => by simp only [S_c_X12_tell, or_false] at q; omega)]; exact hu
  have B := cb_37 hs1 hs2 hR hD hu (show M.1 (5, 0, 1) 1 = M1.1 (50, 0, 0) 5 from ((RXzg h.1 (d := (50, 0, 0)) (j := 5) (by unfold PRz; simp) (by simp)).trans (c1 _ _ (by simp)).symm))
  exact ⟨RY_of h hF1 hF2 s1 s2 hx hD2.2.1 hD2.2.2.1 h7 B.1 (Or.inl ⟨hF2 _ _ (fun q => by simp only [S_c_X12_tell, or_false] at q; omega), fun c k a b q => by unfold wR at a; simp only [S_c_X11_tell, or_false] at q; omega, fun k q => by simp only [S_c_X12_tell, or_false] at q; omega⟩) (SHR_keep h.2.2.2.2 (fun c k a => hF1 c k (fun q => by simp only [S_c_X11_tell, or_false] at q; omega)) (fun c k a => by rw [hF2 c k (fun q => by simp only [S_c_X12_tell, or_false] at q; omega), c1 c k (by omega)])), B.2⟩
theorem sy_38 {v : Int32} {M M1 M2 : mM} {r1 r2 : Int32} (h : RY M.1) (hD0 : InvD M) (hD : InvD M1) (hD2 : InvD M2) (hF1 : FR S_c_X11_check M M1) (hs1 : SP_X11_check v M r1 M1) (hF2 : FR S_c_X12_check M1 M2) (hs2 : SP_X12_check v M1 r2 M2) : RY M2.1 ∧ r1 = r2 := by
  have hx := (st_38 h.1 hD0 hF1 hs1 hF2 hs2).1
  have s1 : cC S_c_X11_check := fun c k q => by simp only [S_c_X11_check, or_false] at q; omega
  have s2 : cD S_c_X12_check := fun c k q => by simp only [S_c_X12_check, or_false] at q; omega
  have c1 : ∀ (c : rf) (k : Nat), c.1 = 12 ∨ 50 ≤ c.1 → M1.1 c k = M.1 c k := fun c k a => hF1 c k (fun q => s1 c k q a)
  have c2 : ∀ (c : rf) (k : Nat), ¬ (c.1 = 12 ∨ 50 ≤ c.1) → M2.1 c k = M1.1 c k := fun c k a => hF2 c k (fun q => a (s2 c k q))
  have e50 : M1.1 (50, 0, 0) = M.1 (50, 0, 0) := funext fun k => c1 _ _ (by simp)
  have hR : RW 0 M.1 (M1.1 (50, 0, 0)) := by rw [e50]; exact h.2.2.1
  have hu : (M1.1 (12, 0, 0) 7).toInt = -1 := by rw [c1 _ _ (by simp)]; exact h.2.1
  have h7 : (M2.1 (12, 0, 0) 7).toInt = -1 := by rw [hF2 (12, 0, 0) 7 (fun q => by simp only [S_c_X12_check, or_false] at q; omega)]; exact hu
  have B := cb_38 hs1 hs2 hR hD hu (show M.1 (5, 0, 0) 1 = M1.1 (50, 0, 0) 4 from ((RXzg h.1 (d := (50, 0, 0)) (j := 4) (by unfold PRz; simp) (by simp)).trans (c1 _ _ (by simp)).symm)) (show M.1 (5, 0, 1) 1 = M1.1 (50, 0, 0) 5 from ((RXzg h.1 (d := (50, 0, 0)) (j := 5) (by unfold PRz; simp) (by simp)).trans (c1 _ _ (by simp)).symm))
  exact ⟨RY_of h hF1 hF2 s1 s2 hx hD2.2.1 hD2.2.2.1 h7 B.1 (Or.inl ⟨hF2 _ _ (fun q => by simp only [S_c_X12_check, or_false] at q; omega), fun c k a b q => by unfold wR at a; simp only [S_c_X11_check, or_false] at q; omega, fun k q => by simp only [S_c_X12_check, or_false] at q; omega⟩) (SHR_keep h.2.2.2.2 (fun c k a => hF1 c k (fun q => by simp only [S_c_X11_check, or_false] at q; omega)) (fun c k a => by rw [hF2 c k (fun q => by simp only [S_c_X12_check, or_false] at q; omega), c1 c k (by omega)])), B.2⟩
theorem sy_39 {v : Int32} {M M1 M2 : mM} {r1 r2 : Int32} (h : RY M.1) (hD0 : InvD M) (hD : InvD M1) (hD2 : InvD M2) (hF1 : FR S_c_X11_count M M1) (hs1 : SP_X11_count v M r1 M1) (hF2 : FR S_c_X12_count M1 M2) (hs2 : SP_X12_count v M1 r2 M2) : RY M2.1 ∧ True := by
  have hx := (st_39 h.1 hD0 hF1 hs1 hF2 hs2).1
  have s1 : cC S_c_X11_count := fun c k q => by simp only [S_c_X11_count, or_false] at q; omega
  have s2 : cD S_c_X12_count := fun c k q => by simp only [S_c_X12_count, or_false] at q; omega
  have c1 : ∀ (c : rf) (k : Nat), c.1 = 12 ∨ 50 ≤ c.1 → M1.1 c k = M.1 c k := fun c k a => hF1 c k (fun q => s1 c k q a)
  have c2 : ∀ (c : rf) (k : Nat), ¬ (c.1 = 12 ∨ 50 ≤ c.1) → M2.1 c k = M1.1 c k := fun c k a => hF2 c k (fun q => a (s2 c k q))
  have e50 : M1.1 (50, 0, 0) = M.1 (50, 0, 0) := funext fun k => c1 _ _ (by simp)
  have hR : RW 0 M.1 (M1.1 (50, 0, 0)) := by rw [e50]; exact h.2.2.1
  have hu : (M1.1 (12, 0, 0) 7).toInt = -1 := by rw [c1 _ _ (by simp)]; exact h.2.1
  have h7 : (M2.1 (12, 0, 0) 7).toInt = -1 := by rw [hF2 (12, 0, 0) 7 (fun q => by simp only [S_c_X12_count, or_false] at q; omega)]; exact hu
  exact ⟨RY_fr h hF1 hF2 s1 s2 hx hD2.2.1 hD2.2.2.1 (fun c k a b q => by unfold wR at a; simp only [S_c_X11_count, or_false] at q; omega) (fun c k a q => by rcases a with rfl | rfl | ⟨rfl, rfl⟩ | a | a | a <;> (simp only [S_c_X12_count, or_false] at q <;> omega)) (fun c k a q => by simp only [S_c_X11_count, or_false] at q; omega) h7, trivial⟩
theorem sy_40 {v : Int32} {M M1 M2 : mM} {r1 r2 : Int32} (h : RY M.1) (hD0 : InvD M) (hD : InvD M1) (hD2 : InvD M2) (hF1 : FR S_c_X11_told M M1) (hs1 : SP_X11_told v M r1 M1) (hF2 : FR S_c_X12_told M1 M2) (hs2 : SP_X12_told v M1 r2 M2) : RY M2.1 ∧ True := by
  have hx := (st_40 h.1 hD0 hF1 hs1 hF2 hs2).1
  have s1 : cC S_c_X11_told := fun c k q => by simp only [S_c_X11_told, or_false] at q; omega
  have s2 : cD S_c_X12_told := fun c k q => by simp only [S_c_X12_told, or_false] at q; omega
  have c1 : ∀ (c : rf) (k : Nat), c.1 = 12 ∨ 50 ≤ c.1 → M1.1 c k = M.1 c k := fun c k a => hF1 c k (fun q => s1 c k q a)
  have c2 : ∀ (c : rf) (k : Nat), ¬ (c.1 = 12 ∨ 50 ≤ c.1) → M2.1 c k = M1.1 c k := fun c k a => hF2 c k (fun q => a (s2 c k q))
  have e50 : M1.1 (50, 0, 0) = M.1 (50, 0, 0) := funext fun k => c1 _ _ (by simp)
  have hR : RW 0 M.1 (M1.1 (50, 0, 0)) := by rw [e50]; exact h.2.2.1
  have hu : (M1.1 (12, 0, 0) 7).toInt = -1 := by rw [c1 _ _ (by simp)]; exact h.2.1
  have h7 : (M2.1 (12, 0, 0) 7).toInt = -1 := by rw [hF2 (12, 0, 0) 7 (fun q => by simp only [S_c_X12_told, or_false] at q; omega)]; exact hu
  exact ⟨RY_fr h hF1 hF2 s1 s2 hx hD2.2.1 hD2.2.2.1 (fun c k a b q => by unfold wR at a; simp only [S_c_X11_told, or_false] at q; omega) (fun c k a q => by rcases a with rfl | rfl | ⟨rfl, rfl⟩ | a | a | a <;> (simp only [S_c_X12_told, or_false] at q <;> omega)) (fun c k a q => by simp only [S_c_X11_told, or_false] at q; omega) h7, trivial⟩
end
