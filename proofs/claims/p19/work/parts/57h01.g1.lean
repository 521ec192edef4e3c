/-! cells and sides -/
def dxI (s : Int) : Int := if s = 1 ∨ s = 2 ∨ s = 3 then 1 else if s = 5 ∨ s = 6 ∨ s = 7 then -1 else 0
def dyI (s : Int) : Int := if s = 0 ∨ s = 1 ∨ s = 7 then -1 else if s = 3 ∨ s = 4 ∨ s = 5 then 1 else 0
def onI (c s y : Int) : Int := if 0 ≤ c % 16 + y * dxI s ∧ c % 16 + y * dxI s ≤ 15 ∧ 0 ≤ c / 16 + y * dyI s ∧ c / 16 + y * dyI s ≤ 11 then 16 * (c / 16 + y * dyI s) + (c % 16 + y * dxI s) else -1
theorem side8 {s : Int} (h : 0 ≤ s ∧ s ≤ 7) : s = 0 ∨ s = 1 ∨ s = 2 ∨ s = 3 ∨ s = 4 ∨ s = 5 ∨ s = 6 ∨ s = 7 := by omega
theorem dx_b (s : Int) : -1 ≤ dxI s ∧ dxI s ≤ 1 := by unfold dxI; split <;> (try split) <;> omega
theorem dy_b (s : Int) : -1 ≤ dyI s ∧ dyI s ≤ 1 := by unfold dyI; split <;> (try split) <;> omega
theorem tbl_dx : ∀ j : Nat, j < 8 → (([0, 1, 1, 1, 0, -1, -1, -1] : List Int32).getD j 0).toInt = dxI (j : Int) := by decide +kernel
theorem tbl_dy : ∀ j : Nat, j < 8 → (([-1, -1, 0, 1, 1, 1, 0, -1] : List Int32).getD j 0).toInt = dyI (j : Int) := by decide +kernel
theorem mul_b {y d : Int} (hy : 0 ≤ y ∧ y ≤ 16) (hd : -1 ≤ d ∧ d ≤ 1) : -16 ≤ y * d ∧ y * d ≤ 16 := by
  obtain h | h | h : d = -1 ∨ d = 0 ∨ d = 1 := by omega
  all_goals (rw [h]; omega)
theorem cx_spec {v s y a b c z : Int32} {j : Nat} (h1 : a.toInt = v.toInt % 16) (hj : (j : Int) = s.toInt) (e : b = ([0, 1, 1, 1, 0, -1, -1, -1] : List Int32).getD j 0) (h2 : c = y * b) (h3 : z = a + c) (hs : 0 ≤ s.toInt ∧ s.toInt ≤ 7) (hy : 0 ≤ y.toInt ∧ y.toInt ≤ 16) : z.toInt = v.toInt % 16 + y.toInt * dxI s.toInt := by
  have e1 : b.toInt = dxI s.toInt := by rw [e, tbl_dx j (by omega), hj]
  have b1 := dx_b s.toInt
  have b2 := mul_b hy b1
  have e2 : c.toInt = y.toInt * dxI s.toInt := by rw [h2]; exact mulI rfl e1 (by omega) (by omega)
  rw [h3]; exact addI h1 e2 (by omega) (by omega)
theorem cy_spec {v s y a b c z : Int32} {j : Nat} (h1 : a.toInt = v.toInt / 16) (hv : 0 ≤ v.toInt ∧ v.toInt ≤ 191) (hj : (j : Int) = s.toInt) (e : b = ([-1, -1, 0, 1, 1, 1, 0, -1] : List Int32).getD j 0) (h2 : c = y * b) (h3 : z = a + c) (hs : 0 ≤ s.toInt ∧ s.toInt ≤ 7) (hy : 0 ≤ y.toInt ∧ y.toInt ≤ 16) : z.toInt = v.toInt / 16 + y.toInt * dyI s.toInt := by
  have e1 : b.toInt = dyI s.toInt := by rw [e, tbl_dy j (by omega), hj]
  have b1 := dy_b s.toInt
  have b2 := mul_b hy b1
  have e2 : c.toInt = y.toInt * dyI s.toInt := by rw [h2]; exact mulI rfl e1 (by omega) (by omega)
  rw [h3]; exact addI h1 e2 (by omega) (by omega)
theorem cF_spec {v s y : Int32} {M : mM} {r : Int32} (h : SP_X7_cellFrom v s y M r) : (((0 ≤ v.toInt ∧ v.toInt ≤ 191) ∧ (0 ≤ s.toInt ∧ s.toInt ≤ 7) ∧ (0 ≤ y.toInt ∧ y.toInt ≤ 16)) ∧ r.toInt = onI v.toInt s.toInt y.toInt) ∨ (¬ ((0 ≤ v.toInt ∧ v.toInt ≤ 191) ∧ (0 ≤ s.toInt ∧ s.toInt ≤ 7) ∧ (0 ≤ y.toInt ∧ y.toInt ≤ 16)) ∧ r.toInt = -1) := by
  have qm := il_m1
  refine xE_SP_X7_cellFrom h ⟨(fun hs5_ h4_ => ⟨(fun hs11_ h10_ => ⟨(fun h13_ hr_ => ?_), (fun h13_ => ⟨(fun h14_ z15_ h16_ j19_ h20_ z17_ e18_ z21_ h22_ z23_ h24_ z25_ h26_ j29_ h30_ z27_ e28_ z31_ h32_ z33_ h34_ => ⟨(fun h35_ hr_ => ?_), (fun h35_ => ⟨(fun h36_ hr_ => ?_), (fun h36_ => ⟨(fun h37_ hr_ => ?_), (fun h37_ => ⟨(fun h38_ z39_ h40_ z41_ h42_ hr_ => ?_), (fun h38_ hr_ => ?_)⟩)⟩)⟩)⟩), (fun h14_ hr_ => ?_)⟩)⟩), (fun hs11_ h10_ hr_ => ?_)⟩), (fun hs5_ h4_ hr_ => ?_)⟩
  · have := eT hr_; omega
  iterate 5
    · left
      refine ⟨by omega, ?_⟩
      have X := cx_spec h16_ h20_ e18_ h22_ h24_ h10_ (by omega)
      have Y := cy_spec h26_ h4_ h30_ e28_ h32_ h34_ h10_ (by omega)
      have := eT hr_
      unfold onI
      rw [← X, ← Y]
      split <;> omega
  · have := eT hr_; omega
  · have := eT hr_; omega
  · have := eT hr_; omega
theorem tbl_EA : ∀ j : Nat, j < 8 → (EAq.getD j 0).toInt = dxI (j : Int) := by decide +kernel
theorem tbl_SO : ∀ j : Nat, j < 8 → (SOq.getD j 0).toInt = dyI (j : Int) := by decide +kernel
theorem onX_spec {c s y : Int32} (hc : 0 ≤ c.toInt ∧ c.toInt ≤ 191) (hs : 0 ≤ s.toInt ∧ s.toInt ≤ 7) (hy : 0 ≤ y.toInt ∧ y.toInt ≤ 16) : (onX c s y).toInt = c.toInt % 16 + y.toInt * dxI s.toInt := by
  have e1 : (EAq.getD s.toInt.toNat 0).toInt = dxI s.toInt := by rw [tbl_EA _ (by omega), show ((s.toInt.toNat : Nat) : Int) = s.toInt by omega]
  have b1 := dx_b s.toInt
  have b2 := mul_b hy b1
  have i16 : (16 : Int32).toInt = 16 := by decide
  have e2 : (y * EAq.getD s.toInt.toNat 0).toInt = y.toInt * dxI s.toInt := mulI rfl e1 (by omega) (by omega)
  have e3 : (c - c / 16 * 16).toInt = c.toInt % 16 := remI rfl i16 (by omega) (by omega)
  unfold onX
  exact addI e3 e2 (by omega) (by omega)
theorem onY_spec {c s y : Int32} (hc : 0 ≤ c.toInt ∧ c.toInt ≤ 191) (hs : 0 ≤ s.toInt ∧ s.toInt ≤ 7) (hy : 0 ≤ y.toInt ∧ y.toInt ≤ 16) : (onY c s y).toInt = c.toInt / 16 + y.toInt * dyI s.toInt := by
  have e1 : (SOq.getD s.toInt.toNat 0).toInt = dyI s.toInt := by rw [tbl_SO _ (by omega), show ((s.toInt.toNat : Nat) : Int) = s.toInt by omega]
  have b1 := dy_b s.toInt
  have b2 := mul_b hy b1
  have i16 : (16 : Int32).toInt = 16 := by decide
  have e2 : (y * SOq.getD s.toInt.toNat 0).toInt = y.toInt * dyI s.toInt := mulI rfl e1 (by omega) (by omega)
  have e3 : (c / 16).toInt = c.toInt / 16 := divI rfl i16 (by omega) (by omega)
  unfold onY
  exact addI e3 e2 (by omega) (by omega)
theorem on_spec {c s y r : Int32} (h : onP c s y r) (hc : 0 ≤ c.toInt ∧ c.toInt ≤ 191) (hs : 0 ≤ s.toInt ∧ s.toInt ≤ 7) (hy : 0 ≤ y.toInt ∧ y.toInt ≤ 16) : r.toInt = onI c.toInt s.toInt y.toInt := by
  have X := onX_spec hc hs hy
  have Y := onY_spec hc hs hy
  unfold onP onIn at h
  unfold onI
  rw [← X, ← Y]
  split <;> omega
/-- a cell some yards on is another one -/
theorem onI_ne {c s y : Int} (hc : 0 ≤ c ∧ c ≤ 191) (hs : 0 ≤ s ∧ s ≤ 7) (hy : 1 ≤ y ∧ y ≤ 15) : onI c s y ≠ c := by
  unfold onI
  split
  · rename_i h
    obtain e | e | e | e | e | e | e | e := side8 hs
    all_goals
      subst e
      simp only [dxI, dyI] at h ⊢
      simp at h ⊢
      omega
  · omega
theorem onI_b {c s y : Int} : -1 ≤ onI c s y ∧ onI c s y ≤ 191 := by
  unfold onI
  split <;> omega
/-! who is in a cell: the class's row, the model's lists -/
def occ (b : Nat) (m : rf → Nat → Int32) (c : Nat) : Int := (m (35, b, 0) c).toInt
def tcl (n : Nat → Int32) (t : Nat) : Int := (n (21 + 4 * t)).toInt
def wcl (n : Nat → Int32) (w : Nat) : Int := (n (181 + 9 * w)).toInt
def nTh (n : Nat → Int32) : Int := (n 1).toInt
def nWa (n : Nat → Int32) : Int := (n 2).toInt
def OCC (b : Nat) (q : rf → Nat → Int32) (n : Nat → Int32) : Prop :=
  (∀ t : Nat, (t : Int) < nTh n → 0 ≤ tcl n t → occ b q (tcl n t).toNat = t) ∧
  (∀ w : Nat, (w : Int) < nWa n → occ b q (wcl n w).toNat = 100 + w) ∧
  (∀ c : Nat, c < 192 → occ b q c = -1 ∨ (0 ≤ occ b q c ∧ occ b q c < nTh n ∧ tcl n (occ b q c).toNat = c) ∨ (100 ≤ occ b q c ∧ occ b q c < 100 + nWa n ∧ wcl n (occ b q c - 100).toNat = c))
theorem in2 {v z : Int32} {M : mM} (h : RCH (fun x_ y_ => ST_X12_in_2 v M x_ y_) (0 : Int32) z) : 0 ≤ z.toInt ∧ ∀ t : Nat, (t : Int) < z.toInt → ¬ tcl (M.1 (50, 0, 0)) t = v.toInt := by
  have q0 := il_0
  exact RCH.ind (P := fun x : Int32 => 0 ≤ x.toInt ∧ ∀ t : Nat, (t : Int) < x.toInt → ¬ tcl (M.1 (50, 0, 0)) t = v.toInt) ⟨by omega, fun t ht => by omega⟩ (fun x z hp hst => by
    (try dsimp only at hp hst ⊢)
    refine xE_ST_X12_in_2 hst (fun p_hv0_2 p_z2_ p_e3_ p_h4_ p_h5_ p_r33_ p_hs37_ p_h36_ p_z38_ p_h39_ p_j42_ p_h43_ p_z40_ p_e41_ p_h44_ p_h45_ p_z46_ p_h47_ p_hq_v2_2y => ?_)
    refine ⟨by rw [p_hq_v2_2y]; omega, fun t ht => ?_⟩
    rw [p_hq_v2_2y] at ht
    by_cases e : (t : Int) = x.toInt
    · obtain rfl : p_j42_ = 21 + 4 * t := by omega
      unfold tcl
      rw [← p_e41_]; exact p_h45_
    · exact hp.2 t (by omega)) h
theorem in38 {v z : Int32} {M : mM} (h : RCH (fun x_ y_ => ST_X12_in_38 v M x_ y_) (0 : Int32) z) : 0 ≤ z.toInt ∧ ∀ w : Nat, (w : Int) < z.toInt → (¬ wcl (M.1 (50, 0, 0)) w = v.toInt ∨ (w : Int) = (M.1 (12, 0, 0) 7).toInt) := by
  have q0 := il_0
  exact RCH.ind (P := fun x : Int32 => 0 ≤ x.toInt ∧ ∀ w : Nat, (w : Int) < x.toInt → (¬ wcl (M.1 (50, 0, 0)) w = v.toInt ∨ (w : Int) = (M.1 (12, 0, 0) 7).toInt)) ⟨by omega, fun t ht => by omega⟩ (fun x z hp hst => by
    (try dsimp only at hp hst ⊢)
    refine xE_ST_X12_in_38 hst (fun p_hv0_38 p_z7_ p_e8_ p_h9_ p_h10_ p_r11_ p_hs15_ p_h14_ p_z16_ p_h17_ p_j20_ p_h21_ p_z18_ p_e19_ p_h22_ => ⟨(fun p_h23_ p_z24_ p_h25_ p_hq_v2_38y => ?_), (fun p_h23_ p_z26_ p_e27_ p_h28_ p_z29_ p_h30_ p_hq_v2_38y => ?_)⟩)
    · refine ⟨by rw [p_hq_v2_38y]; omega, fun t ht => ?_⟩
      rw [p_hq_v2_38y] at ht
      by_cases e : (t : Int) = x.toInt
      · obtain rfl : p_j20_ = 181 + 9 * t := by omega
        unfold wcl
        rw [← p_e19_]; exact Or.inl p_h23_
      · exact hp.2 t (by omega)
    · refine ⟨by rw [p_hq_v2_38y]; omega, fun t ht => ?_⟩
      rw [p_hq_v2_38y] at ht
      by_cases e : (t : Int) = x.toInt
      · right; rw [e, p_h28_, p_e27_]
      · exact hp.2 t (by omega)) h
/-- who is in a cell, by the model, where one walker isn't seen -/
theorem x12in {v : Int32} {M : mM} {r : Int32} {b : Nat} {q : rf → Nat → Int32} (h : SP_X12_in v M r) (hO : OCC b q (M.1 (50, 0, 0))) (hv : 0 ≤ v.toInt ∧ v.toInt ≤ 191) (hu : -1 ≤ (M.1 (12, 0, 0) 7).toInt) :
    r.toInt = if occ b q v.toInt.toNat = 100 + (M.1 (12, 0, 0) 7).toInt ∧ 100 ≤ occ b q v.toInt.toNat then -1 else occ b q v.toInt.toNat := by
  have qm := il_m1
  obtain ⟨o1, o2, o3⟩ := hO
  have o3 := o3 v.toInt.toNat (by omega)
  refine xE_SP_X12_in h (fun v2_2 hv0_2 hL_2 z2_ e3_ h4_ => ⟨(fun h5_ v2_38 hv0_38 hL_38 z7_ e8_ h9_ => ⟨(fun h10_ hr_ => ?_), (fun h10_ r11_ hs15_ h14_ z16_ h17_ j20_ h21_ z18_ e19_ h22_ h23_ z26_ e27_ h28_ z31_ h32_ hr_ => ?_)⟩), (fun h5_ r33_ hs37_ h36_ z38_ h39_ j42_ h43_ z40_ e41_ h44_ h45_ hr_ => ?_)⟩)
  · have a := in2 hL_2
    have c := in38 hL_38
    have y1 := eT e3_
    have y2 := eT e8_
    have yr := eT hr_
    unfold nTh nWa at o3
    rcases o3 with o3 | ⟨o3, o4, o5⟩ | ⟨o3, o4, o5⟩
    · rw [if_neg (by omega)]; omega
    · exact absurd o5 (by have := a.2 (occ b q v.toInt.toNat).toNat (by omega); omega)
    · have := c.2 (occ b q v.toInt.toNat - 100).toNat (by omega)
      rw [if_pos (by omega)]; omega
  · have y2 := eT e8_
    have y3 := eT e27_
    have yr := eT hr_
    have g := o2 v2_38.toInt.toNat (by unfold nWa; omega)
    have e : wcl (M.1 (50, 0, 0)) v2_38.toInt.toNat = v.toInt := by
      unfold wcl
      rw [show 181 + 9 * v2_38.toInt.toNat = j20_ by omega, ← e19_]; exact h23_
    rw [e] at g
    rw [if_neg (by omega)]; omega
  · have y1 := eT e3_
    have yr := eT hr_
    have e : tcl (M.1 (50, 0, 0)) v2_2.toInt.toNat = v.toInt := by
      unfold tcl
      rw [show 21 + 4 * v2_2.toInt.toNat = j42_ by omega, ← e41_]; exact h45_
    have g := o1 v2_2.toInt.toNat (by unfold nTh; omega) (by omega)
    rw [e] at g
    rw [if_neg (by omega)]; omega
theorem x12free {v : Int32} {M : mM} {r : Int32} {b : Nat} {q : rf → Nat → Int32} (h : SP_X12_isFree v M r) (hO : OCC b q (M.1 (50, 0, 0))) (hv : 0 ≤ v.toInt ∧ v.toInt ≤ 191) (hu : -1 ≤ (M.1 (12, 0, 0) 7).toInt) :
    (r.toInt = 1 ∧ (occ b q v.toInt.toNat = -1 ∨ (occ b q v.toInt.toNat = 100 + (M.1 (12, 0, 0) 7).toInt ∧ 100 ≤ occ b q v.toInt.toNat))) ∨ (r.toInt = 0 ∧ ¬ (occ b q v.toInt.toNat = -1 ∨ (occ b q v.toInt.toNat = 100 + (M.1 (12, 0, 0) 7).toInt ∧ 100 ≤ occ b q v.toInt.toNat))) := by
  have q0 := il_0
  have q1 := il_1
  have o3 := hO.2.2 v.toInt.toNat (by omega)
  refine xE_SP_X12_isFree h (fun r1_ hs5_ h4_ => ⟨(fun h6_ hr_ => ?_), (fun h6_ hr_ => ?_)⟩)
  all_goals
    have a := x12in hs5_ hO hv hu
    have yr := eT hr_
    split at a <;> omega
theorem x7free {b : Nat} {v : Int32} {M : mM} {r : Int32} (h : SP_X7_isFree b v M r) : (r.toInt = 1 ∧ (0 ≤ v.toInt ∧ v.toInt ≤ 191) ∧ occ b M.1 v.toInt.toNat = -1) ∨ (r.toInt = 0 ∧ ¬ ((0 ≤ v.toInt ∧ v.toInt ≤ 191) ∧ occ b M.1 v.toInt.toNat = -1)) := by
  have q0 := il_0
  have q1 := il_1
  unfold occ
  refine xE_SP_X7_isFree h ⟨(fun hs5_ h4_ j9_ h10_ z7_ e8_ => ⟨(fun h11_ hr_ => ?_), (fun h11_ hr_ => ?_)⟩), (fun hs5_ h4_ hr_ => ?_)⟩
  · obtain rfl : j9_ = v.toInt.toNat := by omega
    have := eT e8_; have := eT hr_; omega
  · obtain rfl : j9_ = v.toInt.toNat := by omega
    have := eT e8_; have := eT hr_; omega
  · have := eT hr_; omega
theorem x10but {b : Nat} {v u : Int32} {M : mM} {r : Int32} (h : SP_X10_isFreeBut b v u M r) (hv : 0 ≤ v.toInt ∧ v.toInt ≤ 7) : (r.toInt = 1 ∧ (0 ≤ u.toInt ∧ u.toInt ≤ 191) ∧ (occ b M.1 u.toInt.toNat = -1 ∨ occ b M.1 u.toInt.toNat = 100 + v.toInt)) ∨ (r.toInt = 0 ∧ ¬ ((0 ≤ u.toInt ∧ u.toInt ≤ 191) ∧ (occ b M.1 u.toInt.toNat = -1 ∨ occ b M.1 u.toInt.toNat = 100 + v.toInt))) := by
  have q0 := il_0
  have q1 := il_1
  have i100 : (100 : Int32).toInt = 100 := by decide
  unfold occ
  refine xE_SP_X10_isFreeBut h ⟨(fun h1_ hr_ => ?_), (fun h1_ => ⟨(fun h2_ j5_ h6_ z3_ e4_ => ⟨(fun h7_ hr_ => ?_), (fun h7_ z8_ h9_ => ⟨(fun h10_ hr_ => ?_), (fun h10_ hr_ => ?_)⟩)⟩), (fun h2_ hr_ => ?_)⟩)⟩
  · have := eT hr_; omega
  · obtain rfl : j5_ = u.toInt.toNat := by omega
    have := eT e4_; have := eT hr_; omega
  · obtain rfl : j5_ = u.toInt.toNat := by omega
    have a : z8_.toInt = 100 + v.toInt := by rw [h9_]; exact addI i100 rfl (by omega) (by omega)
    have := eT e4_; have := eT hr_; omega
  · obtain rfl : j5_ = u.toInt.toNat := by omega
    have a : z8_.toInt = 100 + v.toInt := by rw [h9_]; exact addI i100 rfl (by omega) (by omega)
    have := eT e4_; have := eT hr_; omega
  · have := eT hr_; omega
