section
/-! cells and sides -/
def dxI (s : Int) : Int := if s = 1 ∨ s = 2 ∨ s = 3 then 1 else if s = 5 ∨ s = 6 ∨ s = 7 then -1 else 0
def dyI (s : Int) : Int := if s = 0 ∨ s = 1 ∨ s = 7 then -1 else if s = 3 ∨ s = 4 ∨ s = 5 then 1 else 0
def onI (c s y : Int) : Int := if 0 ≤ c % 16 + y * dxI s ∧ c % 16 + y * dxI s ≤ 15 ∧ 0 ≤ c / 16 + y * dyI s ∧ c / 16 + y * dyI s ≤ 11 then 16 * (c / 16 + y * dyI s) + (c % 16 + y * dxI s) else -1
theorem side8 {s : Int} (h : 0 ≤ s ∧ s ≤ 7) : s = 0 ∨ s = 1 ∨ s = 2 ∨ s = 3 ∨ s = 4 ∨ s = 5 ∨ s = 6 ∨ s = 7 := by omega
theorem dx_b (s : Int) : -1 ≤ dxI s ∧ dxI s ≤ 1 := by unfold dxI; split <;> (try split) <;> omega
theorem dy_b (s : Int) : -1 ≤ dyI s ∧ dyI s ≤ 1 := by unfold dyI; split <;> (try split) <;> omega
theorem tbl_dx : ∀ j : Nat, j < 8 → (([0, 1, 1, 1, 0, -1, -1, -1] : List Int32).getD j 0).toInt = dxI (j : Int) := by decide +kernel
theorem tbl_dy : ∀ j : Nat, j < 8 → (([-1, -1, 0, 1, 1, 1, 0, -1] : List Int32).getD j 0).toInt = dyI (j : Int) := by decide +kernel
theorem mul_b {y d : Int} (hy : 0 ≤ y ∧ y ≤ 16) (hd : -1 ≤ d ∧ d ≤ 1) : -16 ≤ y * d ∧ y * d ≤ 16 := by
  obtain h | h | h : d = -1 ∨ d = 0 ∨ d = 1 := by omega
  all_goals (rw [h]; omega)
theorem cx_spec {v s y a b c z : Int32} {j : Nat} (h1 : a.toInt = v.toInt % 16) (hj : (j : Int) = s.toInt) (e : b = ([0, 1, 1, 1, 0, -1, -1, -1] : List Int32).getD j 0) (h2 : c = y * b) (h3 : z = a + c) (hs : 0 ≤ s.toInt ∧ s.toInt ≤ 7) (hy : 0 ≤ y.toInt ∧ y.toInt ≤ 16) : z.toInt = v.toInt % 16 + y.toInt * dxI s.toInt := by
  have e1 : b.toInt = dxI s.toInt := by rw [e, tbl_dx j (by omega), hj]
  have b1 := dx_b s.toInt
  have b2 := mul_b hy b1
  have e2 : c.toInt = y.toInt * dxI s.toInt := by rw [h2]; exact mulI rfl e1 (by omega) (by omega)
  rw [h3]; exact addI h1 e2 (by omega) (by omega)
theorem cy_spec {v s y a b c z : Int32} {j : Nat} (h1 : a.toInt = v.toInt / 16) (hv : 0 ≤ v.toInt ∧ v.toInt ≤ 191) (hj : (j : Int) = s.toInt) (e : b = ([-1, -1, 0, 1, 1, 1, 0, -1] : List Int32).getD j 0) (h2 : c = y * b) (h3 : z = a + c) (hs : 0 ≤ s.toInt ∧ s.toInt ≤ 7) (hy : 0 ≤ y.toInt ∧ y.toInt ≤ 16) : z.toInt = v.toInt / 16 + y.toInt * dyI s.toInt := by
  have e1 : b.toInt = dyI s.toInt := by rw [e, tbl_dy j (by omega), hj]
  have b1 := dy_b s.toInt
  have b2 := mul_b hy b1
  have e2 : c.toInt = y.toInt * dyI s.toInt := by rw [h2]; exact mulI rfl e1 (by omega) (by omega)
  rw [h3]; exact addI h1 e2 (by omega) (by omega)
theorem cF_spec {v s y : Int32} {M : mM} {r : Int32} (h : SP_X7_cellFrom v s y M r) : (((0 ≤ v.toInt ∧ v.toInt ≤ 191) ∧ (0 ≤ s.toInt ∧ s.toInt ≤ 7) ∧ (0 ≤ y.toInt ∧ y.toInt ≤ 16)) ∧ r.toInt = onI v.toInt s.toInt y.toInt) ∨ (¬ ((0 ≤ v.toInt ∧ v.toInt ≤ 191) ∧ (0 ≤ s.toInt ∧ s.toInt ≤ 7) ∧ (0 ≤ y.toInt ∧ y.toInt ≤ 16)) ∧ r.toInt = -1) := by
  have qm := il_m1
  refine xE_SP_X7_cellFrom h ⟨(fun hs5_ h4_ => ⟨(fun hs11_ h10_ => ⟨(fun h13_ hr_ => ?_), (fun h13_ => ⟨(fun h14_ z15_ h16_ j19_ h20_ z17_ e18_ z21_ h22_ z23_ h24_ z25_ h26_ j29_ h30_ z27_ e28_ z31_ h32_ z33_ h34_ => ⟨(fun h35_ hr_ => ?_), (fun h35_ => ⟨(fun h36_ hr_ => ?_), (fun h36_ => ⟨(fun h37_ hr_ => ?_), (fun h37_ => ⟨(fun h38_ z39_ h40_ z41_ h42_ hr_ => ?_), (fun h38_ hr_ => ?_)⟩)⟩)⟩)⟩), (fun h14_ hr_ => ?_)⟩)⟩), (fun hs11_ h10_ hr_ => ?_)⟩), (fun hs5_ h4_ hr_ => ?_)⟩
  · have := eT hr_; omega
  iterate 5
    · left
      refine ⟨by omega, ?_⟩
      have X := cx_spec h16_ h20_ e18_ h22_ h24_ h10_ (by omega)
      have Y := cy_spec h26_ h4_ h30_ e28_ h32_ h34_ h10_ (by omega)
      have := eT hr_
      unfold onI
      rw [← X, ← Y]
      split <;> omega
  · have := eT hr_; omega
  · have := eT hr_; omega
  · have := eT hr_; omega
theorem tbl_EA : ∀ j : Nat, j < 8 → (EAq.getD j 0).toInt = dxI (j : Int) := by decide +kernel
theorem tbl_SO : ∀ j : Nat, j < 8 → (SOq.getD j 0).toInt = dyI (j : Int) := by decide +kernel
theorem onX_spec {c s y : Int32} (hc : 0 ≤ c.toInt ∧ c.toInt ≤ 191) (hs : 0 ≤ s.toInt ∧ s.toInt ≤ 7) (hy : 0 ≤ y.toInt ∧ y.toInt ≤ 16) : (onX c s y).toInt = c.toInt % 16 + y.toInt * dxI s.toInt := by
  have e1 : (EAq.getD s.toInt.toNat 0).toInt = dxI s.toInt := by rw [tbl_EA _ (by omega), show ((s.toInt.toNat : Nat) : Int) = s.toInt by omega]
  have b1 := dx_b s.toInt
  have b2 := mul_b hy b1
  have i16 : (16 : Int32).toInt = 16 := by decide
  have e2 : (y * EAq.getD s.toInt.toNat 0).toInt = y.toInt * dxI s.toInt := mulI rfl e1 (by omega) (by omega)
  have e3 : (c - c / 16 * 16).toInt = c.toInt % 16 := remI rfl i16 (by omega) (by omega)
  unfold onX
  exact addI e3 e2 (by omega) (by omega)
theorem onY_spec {c s y : Int32} (hc : 0 ≤ c.toInt ∧ c.toInt ≤ 191) (hs : 0 ≤ s.toInt ∧ s.toInt ≤ 7) (hy : 0 ≤ y.toInt ∧ y.toInt ≤ 16) : (onY c s y).toInt = c.toInt / 16 + y.toInt * dyI s.toInt := by
  have e1 : (SOq.getD s.toInt.toNat 0).toInt = dyI s.toInt := by rw [tbl_SO _ (by omega), show ((s.toInt.toNat : Nat) : Int) = s.toInt by omega]
  have b1 := dy_b s.toInt
  have b2 := mul_b hy b1
  have i16 : (16 : Int32).toInt = 16 := by decide
  have e2 : (y * SOq.getD s.toInt.toNat 0).toInt = y.toInt * dyI s.toInt := mulI rfl e1 (by omega) (by omega)
  have e3 : (c / 16).toInt = c.toInt / 16 := divI rfl i16 (by omega) (by omega)
  unfold onY
  exact addI e3 e2 (by omega) (by omega)
theorem on_spec {c s y r : Int32} (h : onP c s y r) (hc : 0 ≤ c.toInt ∧ c.toInt ≤ 191) (hs : 0 ≤ s.toInt ∧ s.toInt ≤ 7) (hy : 0 ≤ y.toInt ∧ y.toInt ≤ 16) : r.toInt = onI c.toInt s.toInt y.toInt := by
  have X := onX_spec hc hs hy
  have Y := onY_spec hc hs hy
  unfold onP onIn at h
  unfold onI
  rw [← X, ← Y]
  split <;> omega
/-- a cell some yards on is another one -/
theorem onI_ne {c s y : Int} (hc : 0 ≤ c ∧ c ≤ 191) (hs : 0 ≤ s ∧ s ≤ 7) (hy : 1 ≤ y ∧ y ≤ 15) : onI c s y ≠ c := by
  unfold onI
  split
  · rename_i h
    obtain e | e | e | e | e | e | e | e := side8 hs
    all_goals
      subst e
      simp only [dxI, dyI] at h ⊢
      simp at h ⊢
      omega
  · omega
theorem onI_b {c s y : Int} : -1 ≤ onI c s y ∧ onI c s y ≤ 191 := by
  unfold onI
  split <;> omega
/-! who is in a cell: the class's row, the model's lists -/
def occ (b : Nat) (m : rf → Nat → Int32) (c : Nat) : Int := (m (35, b, 0) c).toInt
def tcl (n : Nat → Int32) (t : Nat) : Int := (n (21 + 4 * t)).toInt
def wcl (n : Nat → Int32) (w : Nat) : Int := (n (181 + 9 * w)).toInt
def nTh (n : Nat → Int32) : Int := (n 1).toInt
def nWa (n : Nat → Int32) : Int := (n 2).toInt
def OCC (b : Nat) (q : rf → Nat → Int32) (n : Nat → Int32) : Prop :=
  (∀ t : Nat, (t : Int) < nTh n → 0 ≤ tcl n t → occ b q (tcl n t).toNat = t) ∧
  (∀ w : Nat, (w : Int) < nWa n → occ b q (wcl n w).toNat = 100 + w) ∧
  (∀ c : Nat, c < 192 → occ b q c = -1 ∨ (0 ≤ occ b q c ∧ occ b q c < nTh n ∧ tcl n (occ b q c).toNat = c) ∨ (100 ≤ occ b q c ∧ occ b q c < 100 + nWa n ∧ wcl n (occ b q c - 100).toNat = c))
theorem in2 {v z : Int32} {M : mM} (h : RCH (fun x_ y_ => ST_X12_in_2 v M x_ y_) (0 : Int32) z) : 0 ≤ z.toInt ∧ ∀ t : Nat, (t : Int) < z.toInt → ¬ tcl (M.1 (50, 0, 0)) t = v.toInt := by
  have q0 := il_0
  exact RCH.ind (P := fun x : Int32 => 0 ≤ x.toInt ∧ ∀ t : Nat, (t : Int) < x.toInt → ¬ tcl (M.1 (50, 0, 0)) t = v.toInt) ⟨by omega, fun t ht => by omega⟩ (fun x z hp hst => by
    (try dsimp only at hp hst ⊢)
    refine xE_ST_X12_in_2 hst (fun p_hv0_2 p_z2_ p_e3_ p_h4_ p_h5_ p_r33_ p_hs37_ p_h36_ p_z38_ p_h39_ p_j42_ p_h43_ p_z40_ p_e41_ p_h44_ p_h45_ p_z46_ p_h47_ p_hq_v2_2y => ?_)
    refine ⟨by rw [p_hq_v2_2y]; omega, fun t ht => ?_⟩
    rw [p_hq_v2_2y] at ht
    by_cases e : (t : Int) = x.toInt
    · obtain rfl : p_j42_ = 21 + 4 * t := by omega
      unfold tcl
      rw [← p_e41_]; exact p_h45_
    · exact hp.2 t (by omega)) h
theorem in38 {v z : Int32} {M : mM} (h : RCH (fun x_ y_ => ST_X12_in_38 v M x_ y_) (0 : Int32) z) : 0 ≤ z.toInt ∧ ∀ w : Nat, (w : Int) < z.toInt → (¬ wcl (M.1 (50, 0, 0)) w = v.toInt ∨ (w : Int) = (M.1 (12, 0, 0) 7).toInt) := by
  have q0 := il_0
  exact RCH.ind (P := fun x : Int32 => 0 ≤ x.toInt ∧ ∀ w : Nat, (w : Int) < x.toInt → (¬ wcl (M.1 (50, 0, 0)) w = v.toInt ∨ (w : Int) = (M.1 (12, 0, 0) 7).toInt)) ⟨by omega, fun t ht => by omega⟩ (fun x z hp hst => by
    (try dsimp only at hp hst ⊢)
    refine xE_ST_X12_in_38 hst (fun p_hv0_38 p_z7_ p_e8_ p_h9_ p_h10_ p_r11_ p_hs15_ p_h14_ p_z16_ p_h17_ p_j20_ p_h21_ p_z18_ p_e19_ p_h22_ => ⟨(fun p_h23_ p_z24_ p_h25_ p_hq_v2_38y => ?_), (fun p_h23_ p_z26_ p_e27_ p_h28_ p_z29_ p_h30_ p_hq_v2_38y => ?_)⟩)
    · refine ⟨by rw [p_hq_v2_38y]; omega, fun t ht => ?_⟩
      rw [p_hq_v2_38y] at ht
      by_cases e : (t : Int) = x.toInt
      · obtain rfl : p_j20_ = 181 + 9 * t := by omega
        unfold wcl
        rw [← p_e19_]; exact Or.inl p_h23_
      · exact hp.2 t (by omega)
    · refine ⟨by rw [p_hq_v2_38y]; omega, fun t ht => ?_⟩
      rw [p_hq_v2_38y] at ht
      by_cases e : (t : Int) = x.toInt
      · right; rw [e, p_h28_, p_e27_]
      · exact hp.2 t (by omega)) h
/-- who is in a cell, by the model, where one walker isn't seen -/
theorem x12in {v : Int32} {M : mM} {r : Int32} {b : Nat} {q : rf → Nat → Int32} (h : SP_X12_in v M r) (hO : OCC b q (M.1 (50, 0, 0))) (hv : 0 ≤ v.toInt ∧ v.toInt ≤ 191) (hu : -1 ≤ (M.1 (12, 0, 0) 7).toInt) :
    r.toInt = if occ b q v.toInt.toNat = 100 + (M.1 (12, 0, 0) 7).toInt ∧ 100 ≤ occ b q v.toInt.toNat then -1 else occ b q v.toInt.toNat := by
  have qm := il_m1
  obtain ⟨o1, o2, o3⟩ := hO
  have o3 := o3 v.toInt.toNat (by omega)
  refine xE_SP_X12_in h (fun v2_2 hv0_2 hL_2 z2_ e3_ h4_ => ⟨(fun h5_ v2_38 hv0_38 hL_38 z7_ e8_ h9_ => ⟨(fun h10_ hr_ => ?_), (fun h10_ r11_ hs15_ h14_ z16_ h17_ j20_ h21_ z18_ e19_ h22_ h23_ z26_ e27_ h28_ z31_ h32_ hr_ => ?_)⟩), (fun h5_ r33_ hs37_ h36_ z38_ h39_ j42_ h43_ z40_ e41_ h44_ h45_ hr_ => ?_)⟩)
  · have a := in2 hL_2
    have c := in38 hL_38
    have y1 := eT e3_
    have y2 := eT e8_
    have yr := eT hr_
    unfold nTh nWa at o3
    rcases o3 with o3 | ⟨o3, o4, o5⟩ | ⟨o3, o4, o5⟩
    · rw [if_neg (by omega)]; omega
    · exact absurd o5 (by have := a.2 (occ b q v.toInt.toNat).toNat (by omega); omega)
    · have := c.2 (occ b q v.toInt.toNat - 100).toNat (by omega)
      rw [if_pos (by omega)]; omega
  · have y2 := eT e8_
    have y3 := eT e27_
    have yr := eT hr_
    have g := o2 v2_38.toInt.toNat (by unfold nWa; omega)
    have e : wcl (M.1 (50, 0, 0)) v2_38.toInt.toNat = v.toInt := by
      unfold wcl
      rw [show 181 + 9 * v2_38.toInt.toNat = j20_ by omega, ← e19_]; exact h23_
    rw [e] at g
    rw [if_neg (by omega)]; omega
  · have y1 := eT e3_
    have yr := eT hr_
    have e : tcl (M.1 (50, 0, 0)) v2_2.toInt.toNat = v.toInt := by
      unfold tcl
      rw [show 21 + 4 * v2_2.toInt.toNat = j42_ by omega, ← e41_]; exact h45_
    have g := o1 v2_2.toInt.toNat (by unfold nTh; omega) (by omega)
    rw [e] at g
    rw [if_neg (by omega)]; omega
theorem x12free {v : Int32} {M : mM} {r : Int32} {b : Nat} {q : rf → Nat → Int32} (h : SP_X12_isFree v M r) (hO : OCC b q (M.1 (50, 0, 0))) (hv : 0 ≤ v.toInt ∧ v.toInt ≤ 191) (hu : -1 ≤ (M.1 (12, 0, 0) 7).toInt) :
    (r.toInt = 1 ∧ (occ b q v.toInt.toNat = -1 ∨ (occ b q v.toInt.toNat = 100 + (M.1 (12, 0, 0) 7).toInt ∧ 100 ≤ occ b q v.toInt.toNat))) ∨ (r.toInt = 0 ∧ ¬ (occ b q v.toInt.toNat = -1 ∨ (occ b q v.toInt.toNat = 100 + (M.1 (12, 0, 0) 7).toInt ∧ 100 ≤ occ b q v.toInt.toNat))) := by
  have q0 := il_0
  have q1 := il_1
  have o3 := hO.2.2 v.toInt.toNat (by omega)
  refine xE_SP_X12_isFree h (fun r1_ hs5_ h4_ => ⟨(fun h6_ hr_ => ?_), (fun h6_ hr_ => ?_)⟩)
  all_goals
    have a := x12in hs5_ hO hv hu
    have yr := eT hr_
    split at a <;> omega
theorem x7free {b : Nat} {v : Int32} {M : mM} {r : Int32} (h : SP_X7_isFree b v M r) : (r.toInt = 1 ∧ (0 ≤ v.toInt ∧ v.toInt ≤ 191) ∧ occ b M.1 v.toInt.toNat = -1) ∨ (r.toInt = 0 ∧ ¬ ((0 ≤ v.toInt ∧ v.toInt ≤ 191) ∧ occ b M.1 v.toInt.toNat = -1)) := by
  have q0 := il_0
  have q1 := il_1
  unfold occ
  refine xE_SP_X7_isFree h ⟨(fun hs5_ h4_ j9_ h10_ z7_ e8_ => ⟨(fun h11_ hr_ => ?_), (fun h11_ hr_ => ?_)⟩), (fun hs5_ h4_ hr_ => ?_)⟩
  · obtain rfl : j9_ = v.toInt.toNat := by omega
    have := eT e8_; have := eT hr_; omega
  · obtain rfl : j9_ = v.toInt.toNat := by omega
    have := eT e8_; have := eT hr_; omega
  · have := eT hr_; omega
theorem x10but {b : Nat} {v u : Int32} {M : mM} {r : Int32} (h : SP_X10_isFreeBut b v u M r) (hv : 0 ≤ v.toInt ∧ v.toInt ≤ 7) : (r.toInt = 1 ∧ (0 ≤ u.toInt ∧ u.toInt ≤ 191) ∧ (occ b M.1 u.toInt.toNat = -1 ∨ occ b M.1 u.toInt.toNat = 100 + v.toInt)) ∨ (r.toInt = 0 ∧ ¬ ((0 ≤ u.toInt ∧ u.toInt ≤ 191) ∧ (occ b M.1 u.toInt.toNat = -1 ∨ occ b M.1 u.toInt.toNat = 100 + v.toInt))) := by
  have q0 := il_0
  have q1 := il_1
  have i100 : (100 : Int32).toInt = 100 := by decide
  unfold occ
  refine xE_SP_X10_isFreeBut h ⟨(fun h1_ hr_ => ?_), (fun h1_ => ⟨(fun h2_ j5_ h6_ z3_ e4_ => ⟨(fun h7_ hr_ => ?_), (fun h7_ z8_ h9_ => ⟨(fun h10_ hr_ => ?_), (fun h10_ hr_ => ?_)⟩)⟩), (fun h2_ hr_ => ?_)⟩)⟩
  · have := eT hr_; omega
  · obtain rfl : j5_ = u.toInt.toNat := by omega
    have := eT e4_; have := eT hr_; omega
  · obtain rfl : j5_ = u.toInt.toNat := by omega
    have a : z8_.toInt = 100 + v.toInt := by rw [h9_]; exact addI i100 rfl (by omega) (by omega)
    have := eT e4_; have := eT hr_; omega
  · obtain rfl : j5_ = u.toInt.toNat := by omega
    have a : z8_.toInt = 100 + v.toInt := by rw [h9_]; exact addI i100 rfl (by omega) (by omega)
    have := eT e4_; have := eT hr_; omega
  · have := eT hr_; omega
end
section
/-! what a text gives: codes of the model's row, a pile -/
def cmI (c : Int) : Int := if c = 2000 then 2060 else if c = 2001 then 2061 else if c = 2002 then 2062 else if c = 2003 then 2043 else if c = 2004 then 2045 else if c = 2005 then 2042 else if c = 2006 then 2047 else if c = 2007 then 2037 else if c = 2008 then 2126 else if c = 2009 then 2063 else c
def dnS (c : Int) (x y : Int32) : Int32 := if c = 2000 then (if x.toInt < y.toInt then 1 else 0) else if c = 2001 then (if x.toInt = y.toInt then 1 else 0) else if c = 2002 then (if y.toInt < x.toInt then 1 else 0) else if c = 2003 then x + y else if c = 2004 then x - y else if c = 2005 then x * y else if c = 2006 then (if y.toInt = 0 then 0 else x / y) else (if y.toInt = 0 then 0 else x - x / y * y)
def svS (v : Nat → Int32) (c : Int32) (p : Nat × (Nat → Int32)) : Nat × (Nat → Int32) :=
  if c.toInt < 2000 then (p.1 + 1, upd p.2 p.1 (if c.toInt < 1000 then c else v (c.toInt - 1000).toNat))
  else if c.toInt = 2008 then (p.1, upd p.2 (p.1 - 1) (-(p.2 (p.1 - 1))))
  else if c.toInt = 2009 then (p.1 - 2, upd p.2 (p.1 - 3) (if (p.2 (p.1 - 3)).toInt = 0 then p.2 (p.1 - 1) else p.2 (p.1 - 2)))
  else (p.1 - 1, upd p.2 (p.1 - 2) (dnS c.toInt (p.2 (p.1 - 2)) (p.2 (p.1 - 1))))
def evS (f : Nat → Int32) (a : Nat) (v : Nat → Int32) : Nat → Nat × (Nat → Int32)
  | 0 => (0, fun _ => 0)
  | n + 1 => svS v (f (a + n)) (evS f a v n)
theorem sv_push {v : Nat → Int32} {c : Int32} {p : Nat × (Nat → Int32)} (h : c.toInt < 2000) : svS v c p = (p.1 + 1, upd p.2 p.1 (if c.toInt < 1000 then c else v (c.toInt - 1000).toNat)) := if_pos h
theorem sv_neg {v : Nat → Int32} {c : Int32} {p : Nat × (Nat → Int32)} (h : c.toInt = 2008) : svS v c p = (p.1, upd p.2 (p.1 - 1) (-(p.2 (p.1 - 1)))) := by
  unfold svS
  rw [if_neg (by omega), if_pos h]
theorem sv_cho {v : Nat → Int32} {c : Int32} {p : Nat × (Nat → Int32)} (h : c.toInt = 2009) : svS v c p = (p.1 - 2, upd p.2 (p.1 - 3) (if (p.2 (p.1 - 3)).toInt = 0 then p.2 (p.1 - 1) else p.2 (p.1 - 2))) := by
  unfold svS
  rw [if_neg (by omega), if_neg (by omega), if_pos h]
theorem sv_bin {v : Nat → Int32} {c : Int32} {p : Nat × (Nat → Int32)} (h : 2000 ≤ c.toInt ∧ c.toInt < 2008) : svS v c p = (p.1 - 1, upd p.2 (p.1 - 2) (dnS c.toInt (p.2 (p.1 - 2)) (p.2 (p.1 - 1)))) := by
  unfold svS
  rw [if_neg (by omega), if_neg (by omega), if_neg (by omega)]
theorem dn_0 {c : Int} {x y : Int32} (h : c = 2000) : dnS c x y = (if x.toInt < y.toInt then 1 else 0) := if_pos h
theorem dn_1 {c : Int} {x y : Int32} (h : c = 2001) : dnS c x y = (if x.toInt = y.toInt then 1 else 0) := by
  unfold dnS
  rw [if_neg (by omega), if_pos h]
theorem dn_2 {c : Int} {x y : Int32} (h : c = 2002) : dnS c x y = (if y.toInt < x.toInt then 1 else 0) := by
  unfold dnS
  rw [if_neg (by omega), if_neg (by omega), if_pos h]
theorem dn_3 {c : Int} {x y : Int32} (h : c = 2003) : dnS c x y = x + y := by
  unfold dnS
  rw [if_neg (by omega), if_neg (by omega), if_neg (by omega), if_pos h]
theorem dn_4 {c : Int} {x y : Int32} (h : c = 2004) : dnS c x y = x - y := by
  unfold dnS
  rw [if_neg (by omega), if_neg (by omega), if_neg (by omega), if_neg (by omega), if_pos h]
theorem dn_5 {c : Int} {x y : Int32} (h : c = 2005) : dnS c x y = x * y := by
  unfold dnS
  rw [if_neg (by omega), if_neg (by omega), if_neg (by omega), if_neg (by omega), if_neg (by omega), if_pos h]
theorem dn_6 {c : Int} {x y : Int32} (h : c = 2006) : dnS c x y = (if y.toInt = 0 then 0 else x / y) := by
  unfold dnS
  rw [if_neg (by omega), if_neg (by omega), if_neg (by omega), if_neg (by omega), if_neg (by omega), if_neg (by omega), if_pos h]
theorem dn_7 {c : Int} {x y : Int32} (h : 2007 ≤ c ∨ c < 2000) : dnS c x y = (if y.toInt = 0 then 0 else x - x / y * y) := by
  unfold dnS
  rw [if_neg (by omega), if_neg (by omega), if_neg (by omega), if_neg (by omega), if_neg (by omega), if_neg (by omega), if_neg (by omega)]
/-- piles that are alike below the top -/
def AGs (p q : Nat × (Nat → Int32)) : Prop := p.1 = q.1 ∧ ∀ i, i < p.1 → p.2 i = q.2 i
theorem AGs_upd {p q : Nat × (Nat → Int32)} {k t : Nat} {x y : Int32} (h : AGs p q) (hk : t ≤ p.1 + 1 ∧ (t = p.1 + 1 → k = p.1)) (hx : x = y) : AGs (t, upd p.2 k x) (t, upd q.2 k y) := by
  refine ⟨rfl, fun i hi => ?_⟩
  replace hi : i < t := hi
  show upd p.2 k x i = upd q.2 k y i
  unfold upd
  by_cases e : i = k
  · rw [if_pos e, if_pos e]; exact hx
  · rw [if_neg e, if_neg e]; exact h.2 i (by omega)
def cOK (nn : Int) (c : Int32) : Prop := 0 ≤ c.toInt ∧ (c.toInt < 2000 → c.toInt < 1000 + nn)
theorem sv_ag {v v' : Nat → Int32} {nn : Nat} {c : Int32} {p q : Nat × (Nat → Int32)} (h : AGs p q) (hv : ∀ i, i < nn → v i = v' i) (hc : cOK nn c) (hd : c.toInt < 2000 ∨ (c.toInt = 2008 ∧ 1 ≤ p.1) ∨ (c.toInt = 2009 ∧ 3 ≤ p.1) ∨ (2000 ≤ c.toInt ∧ c.toInt < 2008 ∧ 2 ≤ p.1)) : AGs (svS v c p) (svS v' c q) := by
  unfold cOK at hc
  rcases hd with d | d | d | d
  · rw [sv_push d, sv_push d, ← h.1]
    refine AGs_upd h (by omega) ?_
    by_cases e : c.toInt < 1000
    · rw [if_pos e, if_pos e]
    · rw [if_neg e, if_neg e]; exact hv _ (by omega)
  · rw [sv_neg d.1, sv_neg d.1, ← h.1]
    exact AGs_upd h (by omega) (by rw [h.2 _ (by omega)])
  · rw [sv_cho d.1, sv_cho d.1, ← h.1]
    exact AGs_upd h (by omega) (by rw [h.2 _ (by omega), h.2 (p.1 - 1) (by omega), h.2 (p.1 - 2) (by omega)])
  · rw [sv_bin ⟨d.1, d.2.1⟩, sv_bin ⟨d.1, d.2.1⟩, ← h.1]
    exact AGs_upd h (by omega) (by rw [h.2 _ (by omega), h.2 (p.1 - 1) (by omega)])
theorem AGs.refl {p : Nat × (Nat → Int32)} : AGs p p := ⟨rfl, fun _ _ => rfl⟩
theorem dpt_sv {f : Nat → Int32} {a : Nat} {v : Nat → Int32} {m D : Nat} (h : dpt f a m = some D) : ∀ n : Nat, n ≤ m → dpt f a n = some (evS f a v n).1
  | 0, _ => rfl
  | n + 1, hn => by
    have ih := dpt_sv (v := v) h n (by omega)
    have nx := dpt_next ih (by omega) h
    show _ = some (svS v (f (a + n)) (evS f a v n)).1
    rcases nx with ⟨q1, q2, q3⟩ | ⟨q1, q2, q3⟩ | ⟨q1, q2, q3⟩ | ⟨q1, q2, q3, q4⟩
    · rw [q3, sv_push (by omega)]
    · rw [q3, sv_neg q1]
    · rw [q3, sv_cho q1]
    · rw [q4, sv_bin ⟨q1, q2⟩]
/-- one code, where the pile is no more than the spec's -/
theorem dpt_ok {f : Nat → Int32} {a : Nat} {v : Nat → Int32} {m D : Nat} (h : dpt f a m = some D) {n : Nat} (hn : n < m) : (0 ≤ (f (a + n)).toInt ∧ (f (a + n)).toInt < 1005) ∨ ((f (a + n)).toInt = 2008 ∧ 1 ≤ (evS f a v n).1) ∨ ((f (a + n)).toInt = 2009 ∧ 3 ≤ (evS f a v n).1) ∨ (2000 ≤ (f (a + n)).toInt ∧ (f (a + n)).toInt < 2008 ∧ 2 ≤ (evS f a v n).1) := by
  have nx := dpt_next (dpt_sv (v := v) h n (by omega)) hn h
  rcases nx with ⟨q1, q2, q3⟩ | ⟨q1, q2, q3⟩ | ⟨q1, q2, q3⟩ | ⟨q1, q2, q3, q4⟩
  · exact Or.inl ⟨q1, q2⟩
  · exact Or.inr (Or.inl ⟨q1, q2⟩)
  · exact Or.inr (Or.inr (Or.inl ⟨q1, q2⟩))
  · exact Or.inr (Or.inr (Or.inr ⟨q1, q2, q3⟩))
theorem dpt_pos {f : Nat → Int32} {a : Nat} {v : Nat → Int32} {m D : Nat} (h : dpt f a m = some D) : ∀ n : Nat, n < m → 1 ≤ (evS f a v (n + 1)).1
  | 0, hn => by
    have nx := dpt_ok (v := v) h hn
    show 1 ≤ (svS v (f (a + 0)) (evS f a v 0)).1
    have e0 : (evS f a v 0).1 = 0 := rfl
    rw [e0] at nx
    rw [sv_push (by omega)]; omega
  | n + 1, hn => by
    have ih := dpt_pos (v := v) h n (by omega)
    have nx := dpt_ok (v := v) h hn
    show 1 ≤ (svS v (f (a + (n + 1))) (evS f a v (n + 1))).1
    rcases nx with q | q | q | q
    · rw [sv_push (by omega)]; omega
    · rw [sv_neg q.1]; exact ih
    · rw [sv_cho q.1]; show 1 ≤ _ - 2; omega
    · rw [sv_bin ⟨q.1, q.2.1⟩]; show 1 ≤ _ - 1; omega
/-- what a text gives -/
def evR (n : Nat → Int32) (u : Nat) (v : Nat → Int32) : Int32 := (evS n (346 + 50 * u) v (n (345 + 50 * u)).toInt.toNat).2 0
theorem cm_lo {c : Int} (h : c < 1005) : cmI c = c := by
  unfold cmI
  rw [if_neg (by omega), if_neg (by omega), if_neg (by omega), if_neg (by omega), if_neg (by omega), if_neg (by omega), if_neg (by omega), if_neg (by omega), if_neg (by omega), if_neg (by omega)]
theorem wk_cm {z c : Int32} {t : Int} (h : z.toInt = cmI c.toInt) (hd : (0 ≤ c.toInt ∧ c.toInt < 1005 ∧ t < 48) ∨ (c.toInt = 2008 ∧ 1 ≤ t) ∨ (c.toInt = 2009 ∧ 3 ≤ t) ∨ (2000 ≤ c.toInt ∧ c.toInt < 2008 ∧ 2 ≤ t)) :
    (z.toInt = c.toInt ∧ 0 ≤ c.toInt ∧ c.toInt < 1005 ∧ t < 48) ∨ (z.toInt = 2126 ∧ c.toInt = 2008 ∧ 1 ≤ t) ∨ (z.toInt = 2063 ∧ c.toInt = 2009 ∧ 3 ≤ t) ∨ (2 ≤ t ∧ ((z.toInt = 2060 ∧ c.toInt = 2000) ∨ (z.toInt = 2061 ∧ c.toInt = 2001) ∨ (z.toInt = 2062 ∧ c.toInt = 2002) ∨ (z.toInt = 2043 ∧ c.toInt = 2003) ∨ (z.toInt = 2045 ∧ c.toInt = 2004) ∨ (z.toInt = 2042 ∧ c.toInt = 2005) ∨ (z.toInt = 2047 ∧ c.toInt = 2006) ∨ (z.toInt = 2037 ∧ c.toInt = 2007))) := by
  rcases hd with d | d | d | d
  · exact Or.inl ⟨h.trans (cm_lo d.2.1), d⟩
  · exact Or.inr (Or.inl ⟨h.trans (by rw [d.1]; decide), d⟩)
  · exact Or.inr (Or.inr (Or.inl ⟨h.trans (by rw [d.1]; decide), d⟩))
  · refine Or.inr (Or.inr (Or.inr ⟨d.2.2, ?_⟩))
    by_cases e0 : c.toInt = 2000
    · exact Or.inl ⟨h.trans (by rw [e0]; decide), e0⟩
    refine Or.inr ?_
    by_cases e1 : c.toInt = 2001
    · exact Or.inl ⟨h.trans (by rw [e1]; decide), e1⟩
    refine Or.inr ?_
    by_cases e2 : c.toInt = 2002
    · exact Or.inl ⟨h.trans (by rw [e2]; decide), e2⟩
    refine Or.inr ?_
    by_cases e3 : c.toInt = 2003
    · exact Or.inl ⟨h.trans (by rw [e3]; decide), e3⟩
    refine Or.inr ?_
    by_cases e4 : c.toInt = 2004
    · exact Or.inl ⟨h.trans (by rw [e4]; decide), e4⟩
    refine Or.inr ?_
    by_cases e5 : c.toInt = 2005
    · exact Or.inl ⟨h.trans (by rw [e5]; decide), e5⟩
    refine Or.inr ?_
    by_cases e6 : c.toInt = 2006
    · exact Or.inl ⟨h.trans (by rw [e6]; decide), e6⟩
    refine Or.inr ?_
    have e7 : c.toInt = 2007 := by omega
    exact ⟨h.trans (by rw [e7]; decide), e7⟩
def HKc (z c : Int32) (t : Int) : Prop := (z.toInt = c.toInt ∧ 0 ≤ c.toInt ∧ c.toInt < 1005 ∧ t < 48) ∨ (z.toInt = 2126 ∧ c.toInt = 2008 ∧ 1 ≤ t) ∨ (z.toInt = 2063 ∧ c.toInt = 2009 ∧ 3 ≤ t) ∨ (2 ≤ t ∧ ((z.toInt = 2060 ∧ c.toInt = 2000) ∨ (z.toInt = 2061 ∧ c.toInt = 2001) ∨ (z.toInt = 2062 ∧ c.toInt = 2002) ∨ (z.toInt = 2043 ∧ c.toInt = 2003) ∨ (z.toInt = 2045 ∧ c.toInt = 2004) ∨ (z.toInt = 2042 ∧ c.toInt = 2005) ∨ (z.toInt = 2047 ∧ c.toInt = 2006) ∨ (z.toInt = 2037 ∧ c.toInt = 2007)))
theorem HKc.low {z c : Int32} {t : Int} (h : HKc z c t) (l : z.toInt < 2000) : c.toInt < 2000 ∧ z.toInt = c.toInt ∧ 0 ≤ c.toInt ∧ c.toInt < 1005 ∧ t < 48 := by
  rcases h with h | h | h | ⟨h2, h | h | h | h | h | h | h | h⟩ <;> omega
theorem HKc.lowD {z c : Int32} {t : Int} (h : HKc z c t) (l : z.toInt < 2000) (g : 48 ≤ t) : False := by
  have := h.low l; omega
theorem HKc.neg {z c : Int32} {t : Int} (h : HKc z c t) (l : z.toInt = 2126) : c.toInt = 2008 ∧ 1 ≤ t := by
  rcases h with h | h | h | ⟨h2, h | h | h | h | h | h | h | h⟩ <;> omega
theorem HKc.negD {z c : Int32} {t : Int} (h : HKc z c t) (l : z.toInt = 2126) (g : t < 1) : False := by
  have := h.neg l; omega
theorem HKc.cho {z c : Int32} {t : Int} (h : HKc z c t) (l : z.toInt = 2063) : c.toInt = 2009 ∧ 3 ≤ t := by
  rcases h with h | h | h | ⟨h2, h | h | h | h | h | h | h | h⟩ <;> omega
theorem HKc.choD {z c : Int32} {t : Int} (h : HKc z c t) (l : z.toInt = 2063) (g : t < 3) : False := by
  have := h.cho l; omega
theorem HKc.two {z c : Int32} {t : Int} (h : HKc z c t) (l : 2000 ≤ z.toInt) (n1 : ¬ z.toInt = 2126) (n2 : ¬ z.toInt = 2063) (g : t < 2) : False := by
  rcases h with h | h | h | ⟨h2, h | h | h | h | h | h | h | h⟩ <;> omega
theorem HKc.op {z c x : Int32} {t k m : Int} (h : HKc z c t) (e : x.toInt = z.toInt - 2000) (f : x.toInt = k) (g : (k = 60 ∧ m = 2000) ∨ (k = 61 ∧ m = 2001) ∨ (k = 62 ∧ m = 2002) ∨ (k = 43 ∧ m = 2003) ∨ (k = 45 ∧ m = 2004) ∨ (k = 42 ∧ m = 2005) ∨ (k = 47 ∧ m = 2006)) : c.toInt = m ∧ 2 ≤ t := by
  rcases h with h | h | h | ⟨h2, h | h | h | h | h | h | h | h⟩ <;> rcases g with g | g | g | g | g | g | g <;> omega
theorem HKc.dead {z c x : Int32} {t k : Int} (h : HKc z c t) (e : x.toInt = z.toInt - 2000) (f : x.toInt = k) (g : 0 ≤ k ∧ k ≠ 60 ∧ k ≠ 61 ∧ k ≠ 62 ∧ k ≠ 43 ∧ k ≠ 45 ∧ k ≠ 42 ∧ k ≠ 47 ∧ k ≠ 37 ∧ k ≠ 126 ∧ k ≠ 63) : False := by
  obtain ⟨g0, g1, g2, g3, g4, g5, g6, g7, g8, g9, g10⟩ := g
  rcases h with h | h | h | ⟨h2, h | h | h | h | h | h | h | h⟩
  · omega
  · exact g9 (by omega)
  · exact g10 (by omega)
  · exact g1 (by omega)
  · exact g2 (by omega)
  · exact g3 (by omega)
  · exact g4 (by omega)
  · exact g5 (by omega)
  · exact g6 (by omega)
  · exact g7 (by omega)
  · exact g8 (by omega)
theorem HKc.dflt {z c x : Int32} {t : Int} (h : HKc z c t) (l : 2000 ≤ z.toInt) (n1 : ¬ z.toInt = 2126) (n2 : ¬ z.toInt = 2063) (e : x.toInt = z.toInt - 2000) (g1 : ¬ x.toInt = 60) (g2 : ¬ x.toInt = 61) (g3 : ¬ x.toInt = 62) (g4 : ¬ x.toInt = 43) (g5 : ¬ x.toInt = 45) (g6 : ¬ x.toInt = 42) (g7 : ¬ x.toInt = 47) : c.toInt = 2007 ∧ 2 ≤ t := by
  rcases h with h | h | h | ⟨h2, h | h | h | h | h | h | h | h⟩
  · exfalso; omega
  · exact absurd h.1 n1
  · exact absurd h.1 n2
  · exact absurd (show x.toInt = 60 by omega) g1
  · exact absurd (show x.toInt = 61 by omega) g2
  · exact absurd (show x.toInt = 62 by omega) g3
  · exact absurd (show x.toInt = 43 by omega) g4
  · exact absurd (show x.toInt = 45 by omega) g5
  · exact absurd (show x.toInt = 42 by omega) g6
  · exact absurd (show x.toInt = 47 by omega) g7
  · exact ⟨h.2, h2⟩
def wkG (b w b2 : Nat) (c : Int32) (i t : Int32) (M : mM) (i' t' : Int32) (M' : mM) : Prop := i'.toInt = i.toInt + 1 ∧ t'.toInt = ((svS (fun j => M.1 (29, b2, 0) j) c (t.toInt.toNat, M.1 (25, b, w))).1 : Int) ∧ M'.1 (25, b, w) = (svS (fun j => M.1 (29, b2, 0) j) c (t.toInt.toNat, M.1 (25, b, w))).2
theorem jn_ {j : Nat} {x : Int} (h : (j : Int) = x) : j = x.toNat := by omega
theorem hk_at {b w j : Nat} {M : mM} {z c i : Int32} {t : Int} (hk : HKc (M.1 (24, b, w) i.toInt.toNat) c t) (h : (j : Int) = i.toInt) (e : z = M.1 (24, b, w) j) : HKc z c t := by
  obtain rfl := jn_ h
  rw [e]; exact hk
theorem ex_e {α : Sort _} {p : α → Prop} {C : Prop} (h : ∃ x, p x) (f : ∀ x, p x → C) : C := h.elim f
theorem an_e {a b C : Prop} (h : a ∧ b) (f : a → b → C) : C := f h.1 h.2
theorem or_e {a b C : Prop} (h : a ∨ b) (f : a → C) (g : b → C) : C := h.elim f g
theorem wk_p1 {b w b2 : Nat} {v3_4 v2_4 v3_4y v2_4y c : Int32} {M_4 M_4y : mM} {j14_ : Nat} {z12_ : Int32} {z16_ : Int32} {z24_ : Int32} {z26_ : Int32} {j30_ : Nat} {z28_ : Int32} {j34_ : Nat} {z32_ : Int32} {z39_ : Int32} {z41_ : Int32} {j45_ : Nat} {M43_ : mM} {z49_ : Int32} (ec : c.toInt = 2005 ∧ 2 ≤ v2_4.toInt) (hv0_4 : 0 ≤ v3_4.toInt) (hv1_4 : 0 ≤ v2_4.toInt) (hv2_4 : v2_4.toInt ≤ 48) (h15_ : (j14_ : Int) = v3_4.toInt) (e13_ : z12_ = M_4.1 (24, b, w) j14_) (h17_ : z16_ = z12_ - (1000 : Int32)) (h18_ : 2000 ≤ z12_.toInt) (h21_ : 2 ≤ v2_4.toInt) (h25_ : z24_.toInt = v2_4.toInt + (-1)) (h27_ : z26_.toInt = z24_.toInt - 1) (h31_ : (j30_ : Int) = z26_.toInt) (e29_ : z28_ = M_4.1 (25, b, w) j30_) (h35_ : (j34_ : Int) = z24_.toInt) (e33_ : z32_ = M_4.1 (25, b, w) j34_) (h40_ : z39_ = z28_ * z32_) (h42_ : z41_.toInt = z24_.toInt - 1) (h46_ : (j45_ : Int) = z41_.toInt) (hM44_ : M43_ = up M_4 (25, b, w) j45_ z39_) (h50_ : z49_.toInt = v3_4.toInt + 1) (hq_v3_4y : v3_4y = z49_) (hq_v2_4y : v2_4y = z24_) (hM_ : M_4y = M43_) : wkG b w b2 c v3_4 v2_4 M_4 v3_4y v2_4y M_4y := by
  have i1000 : (1000 : Int32).toInt = 1000 := by decide
  have i0 := il_0
  unfold wkG
  obtain ⟨ec, ek⟩ := ec
  obtain rfl : j45_ = v2_4.toInt.toNat - 2 := by omega
  obtain rfl : j30_ = v2_4.toInt.toNat - 2 := by omega
  obtain rfl : j34_ = v2_4.toInt.toNat - 1 := by omega
  rw [sv_bin (by omega)]
  refine ⟨by rw [hq_v3_4y]; omega, by rw [hq_v2_4y]; show _ = ((v2_4.toInt.toNat - 1 : Nat) : Int); omega, ?_⟩
  rw [hM_, hM44_, up_row, dn_5 (by omega)]
  show upd _ _ _ = upd _ _ _
  (try dsimp only)
  subst e29_ e33_
  rw [h40_]
theorem wk_p2 {b w b2 : Nat} {v3_4 v2_4 v3_4y v2_4y c : Int32} {M_4 M_4y : mM} {j14_ : Nat} {z12_ : Int32} {z16_ : Int32} {z24_ : Int32} {z26_ : Int32} {j30_ : Nat} {z28_ : Int32} {j34_ : Nat} {z32_ : Int32} {z51_ : Int32} {z53_ : Int32} {j57_ : Nat} {M55_ : mM} {z61_ : Int32} (ec : c.toInt = 2003 ∧ 2 ≤ v2_4.toInt) (hv0_4 : 0 ≤ v3_4.toInt) (hv1_4 : 0 ≤ v2_4.toInt) (hv2_4 : v2_4.toInt ≤ 48) (h15_ : (j14_ : Int) = v3_4.toInt) (e13_ : z12_ = M_4.1 (24, b, w) j14_) (h17_ : z16_ = z12_ - (1000 : Int32)) (h18_ : 2000 ≤ z12_.toInt) (h21_ : 2 ≤ v2_4.toInt) (h25_ : z24_.toInt = v2_4.toInt + (-1)) (h27_ : z26_.toInt = z24_.toInt - 1) (h31_ : (j30_ : Int) = z26_.toInt) (e29_ : z28_ = M_4.1 (25, b, w) j30_) (h35_ : (j34_ : Int) = z24_.toInt) (e33_ : z32_ = M_4.1 (25, b, w) j34_) (h52_ : z51_ = z28_ + z32_) (h54_ : z53_.toInt = z24_.toInt - 1) (h58_ : (j57_ : Int) = z53_.toInt) (hM56_ : M55_ = up M_4 (25, b, w) j57_ z51_) (h62_ : z61_.toInt = v3_4.toInt + 1) (hq_v3_4y : v3_4y = z61_) (hq_v2_4y : v2_4y = z24_) (hM_ : M_4y = M55_) : wkG b w b2 c v3_4 v2_4 M_4 v3_4y v2_4y M_4y := by
  have i1000 : (1000 : Int32).toInt = 1000 := by decide
  have i0 := il_0
  unfold wkG
  obtain ⟨ec, ek⟩ := ec
  obtain rfl : j57_ = v2_4.toInt.toNat - 2 := by omega
  obtain rfl : j30_ = v2_4.toInt.toNat - 2 := by omega
  obtain rfl : j34_ = v2_4.toInt.toNat - 1 := by omega
  rw [sv_bin (by omega)]
  refine ⟨by rw [hq_v3_4y]; omega, by rw [hq_v2_4y]; show _ = ((v2_4.toInt.toNat - 1 : Nat) : Int); omega, ?_⟩
  rw [hM_, hM56_, up_row, dn_3 (by omega)]
  show upd _ _ _ = upd _ _ _
  (try dsimp only)
  subst e29_ e33_
  rw [h52_]
theorem wk_p5 {b w b2 : Nat} {v3_4 v2_4 v3_4y v2_4y c : Int32} {M_4 M_4y : mM} {j14_ : Nat} {z12_ : Int32} {z16_ : Int32} {z24_ : Int32} {z26_ : Int32} {j30_ : Nat} {z28_ : Int32} {j34_ : Nat} {z32_ : Int32} {z86_ : Int32} {z88_ : Int32} {j92_ : Nat} {M90_ : mM} {z96_ : Int32} (ec : c.toInt = 2004 ∧ 2 ≤ v2_4.toInt) (hv0_4 : 0 ≤ v3_4.toInt) (hv1_4 : 0 ≤ v2_4.toInt) (hv2_4 : v2_4.toInt ≤ 48) (h15_ : (j14_ : Int) = v3_4.toInt) (e13_ : z12_ = M_4.1 (24, b, w) j14_) (h17_ : z16_ = z12_ - (1000 : Int32)) (h18_ : 2000 ≤ z12_.toInt) (h21_ : 2 ≤ v2_4.toInt) (h25_ : z24_.toInt = v2_4.toInt + (-1)) (h27_ : z26_.toInt = z24_.toInt - 1) (h31_ : (j30_ : Int) = z26_.toInt) (e29_ : z28_ = M_4.1 (25, b, w) j30_) (h35_ : (j34_ : Int) = z24_.toInt) (e33_ : z32_ = M_4.1 (25, b, w) j34_) (h87_ : z86_ = z28_ - z32_) (h89_ : z88_.toInt = z24_.toInt - 1) (h93_ : (j92_ : Int) = z88_.toInt) (hM91_ : M90_ = up M_4 (25, b, w) j92_ z86_) (h97_ : z96_.toInt = v3_4.toInt + 1) (hq_v3_4y : v3_4y = z96_) (hq_v2_4y : v2_4y = z24_) (hM_ : M_4y = M90_) : wkG b w b2 c v3_4 v2_4 M_4 v3_4y v2_4y M_4y := by
  have i1000 : (1000 : Int32).toInt = 1000 := by decide
  have i0 := il_0
  unfold wkG
  obtain ⟨ec, ek⟩ := ec
  obtain rfl : j92_ = v2_4.toInt.toNat - 2 := by omega
  obtain rfl : j30_ = v2_4.toInt.toNat - 2 := by omega
  obtain rfl : j34_ = v2_4.toInt.toNat - 1 := by omega
  rw [sv_bin (by omega)]
  refine ⟨by rw [hq_v3_4y]; omega, by rw [hq_v2_4y]; show _ = ((v2_4.toInt.toNat - 1 : Nat) : Int); omega, ?_⟩
  rw [hM_, hM91_, up_row, dn_4 (by omega)]
  show upd _ _ _ = upd _ _ _
  (try dsimp only)
  subst e29_ e33_
  rw [h87_]
theorem wk_p8 {b w b2 : Nat} {v3_4 v2_4 v3_4y v2_4y c : Int32} {M_4 M_4y : mM} {j14_ : Nat} {z12_ : Int32} {z16_ : Int32} {z24_ : Int32} {z26_ : Int32} {j30_ : Nat} {z28_ : Int32} {j34_ : Nat} {z32_ : Int32} {z122_ : Int32} {z124_ : Int32} {j128_ : Nat} {M126_ : mM} {z132_ : Int32} (ec : c.toInt = 2006 ∧ 2 ≤ v2_4.toInt) (hv0_4 : 0 ≤ v3_4.toInt) (hv1_4 : 0 ≤ v2_4.toInt) (hv2_4 : v2_4.toInt ≤ 48) (h15_ : (j14_ : Int) = v3_4.toInt) (e13_ : z12_ = M_4.1 (24, b, w) j14_) (h17_ : z16_ = z12_ - (1000 : Int32)) (h18_ : 2000 ≤ z12_.toInt) (h21_ : 2 ≤ v2_4.toInt) (h25_ : z24_.toInt = v2_4.toInt + (-1)) (h27_ : z26_.toInt = z24_.toInt - 1) (h31_ : (j30_ : Int) = z26_.toInt) (e29_ : z28_ = M_4.1 (25, b, w) j30_) (h35_ : (j34_ : Int) = z24_.toInt) (e33_ : z32_ = M_4.1 (25, b, w) j34_) (h121_ : ¬ z32_.toInt = 0) (h123_ : z122_ = z28_ / z32_) (h125_ : z124_.toInt = z24_.toInt - 1) (h129_ : (j128_ : Int) = z124_.toInt) (hM127_ : M126_ = up M_4 (25, b, w) j128_ z122_) (h133_ : z132_.toInt = v3_4.toInt + 1) (hq_v3_4y : v3_4y = z132_) (hq_v2_4y : v2_4y = z24_) (hM_ : M_4y = M126_) : wkG b w b2 c v3_4 v2_4 M_4 v3_4y v2_4y M_4y := by
  have i1000 : (1000 : Int32).toInt = 1000 := by decide
  have i0 := il_0
  unfold wkG
  obtain ⟨ec, ek⟩ := ec
  obtain rfl : j128_ = v2_4.toInt.toNat - 2 := by omega
  obtain rfl : j30_ = v2_4.toInt.toNat - 2 := by omega
  obtain rfl : j34_ = v2_4.toInt.toNat - 1 := by omega
  rw [sv_bin (by omega)]
  refine ⟨by rw [hq_v3_4y]; omega, by rw [hq_v2_4y]; show _ = ((v2_4.toInt.toNat - 1 : Nat) : Int); omega, ?_⟩
  rw [hM_, hM127_, up_row, dn_6 (by omega)]
  show upd _ _ _ = upd _ _ _
  (try dsimp only)
  subst e29_ e33_
  rw [if_neg h121_, h123_]
theorem wk_p9 {b w b2 : Nat} {v3_4 v2_4 v3_4y v2_4y c : Int32} {M_4 M_4y : mM} {j14_ : Nat} {z12_ : Int32} {z16_ : Int32} {z24_ : Int32} {z26_ : Int32} {j30_ : Nat} {z28_ : Int32} {j34_ : Nat} {z32_ : Int32} {z134_ : Int32} {j138_ : Nat} {M136_ : mM} {z142_ : Int32} (ec : c.toInt = 2006 ∧ 2 ≤ v2_4.toInt) (hv0_4 : 0 ≤ v3_4.toInt) (hv1_4 : 0 ≤ v2_4.toInt) (hv2_4 : v2_4.toInt ≤ 48) (h15_ : (j14_ : Int) = v3_4.toInt) (e13_ : z12_ = M_4.1 (24, b, w) j14_) (h17_ : z16_ = z12_ - (1000 : Int32)) (h18_ : 2000 ≤ z12_.toInt) (h21_ : 2 ≤ v2_4.toInt) (h25_ : z24_.toInt = v2_4.toInt + (-1)) (h27_ : z26_.toInt = z24_.toInt - 1) (h31_ : (j30_ : Int) = z26_.toInt) (e29_ : z28_ = M_4.1 (25, b, w) j30_) (h35_ : (j34_ : Int) = z24_.toInt) (e33_ : z32_ = M_4.1 (25, b, w) j34_) (h121_ : z32_.toInt = 0) (h135_ : z134_.toInt = z24_.toInt - 1) (h139_ : (j138_ : Int) = z134_.toInt) (hM137_ : M136_ = up M_4 (25, b, w) j138_ 0) (h143_ : z142_.toInt = v3_4.toInt + 1) (hq_v3_4y : v3_4y = z142_) (hq_v2_4y : v2_4y = z24_) (hM_ : M_4y = M136_) : wkG b w b2 c v3_4 v2_4 M_4 v3_4y v2_4y M_4y := by
  have i1000 : (1000 : Int32).toInt = 1000 := by decide
  have i0 := il_0
  unfold wkG
  obtain ⟨ec, ek⟩ := ec
  obtain rfl : j138_ = v2_4.toInt.toNat - 2 := by omega
  obtain rfl : j30_ = v2_4.toInt.toNat - 2 := by omega
  obtain rfl : j34_ = v2_4.toInt.toNat - 1 := by omega
  rw [sv_bin (by omega)]
  refine ⟨by rw [hq_v3_4y]; omega, by rw [hq_v2_4y]; show _ = ((v2_4.toInt.toNat - 1 : Nat) : Int); omega, ?_⟩
  rw [hM_, hM137_, up_row, dn_6 (by omega)]
  show upd _ _ _ = upd _ _ _
  (try dsimp only)
  subst e29_ e33_
  rw [if_pos h121_]
theorem wk_p34 {b w b2 : Nat} {v3_4 v2_4 v3_4y v2_4y c : Int32} {M_4 M_4y : mM} {j14_ : Nat} {z12_ : Int32} {z16_ : Int32} {z24_ : Int32} {z26_ : Int32} {j30_ : Nat} {z28_ : Int32} {j34_ : Nat} {z32_ : Int32} {z421_ : Int32} {j425_ : Nat} {M423_ : mM} {z429_ : Int32} (ec : c.toInt = 2000 ∧ 2 ≤ v2_4.toInt) (hv0_4 : 0 ≤ v3_4.toInt) (hv1_4 : 0 ≤ v2_4.toInt) (hv2_4 : v2_4.toInt ≤ 48) (h15_ : (j14_ : Int) = v3_4.toInt) (e13_ : z12_ = M_4.1 (24, b, w) j14_) (h17_ : z16_ = z12_ - (1000 : Int32)) (h18_ : 2000 ≤ z12_.toInt) (h21_ : 2 ≤ v2_4.toInt) (h25_ : z24_.toInt = v2_4.toInt + (-1)) (h27_ : z26_.toInt = z24_.toInt - 1) (h31_ : (j30_ : Int) = z26_.toInt) (e29_ : z28_ = M_4.1 (25, b, w) j30_) (h35_ : (j34_ : Int) = z24_.toInt) (e33_ : z32_ = M_4.1 (25, b, w) j34_) (h420_ : z32_.toInt ≤ z28_.toInt) (h422_ : z421_.toInt = z24_.toInt - 1) (h426_ : (j425_ : Int) = z421_.toInt) (hM424_ : M423_ = up M_4 (25, b, w) j425_ 0) (h430_ : z429_.toInt = v3_4.toInt + 1) (hq_v3_4y : v3_4y = z429_) (hq_v2_4y : v2_4y = z24_) (hM_ : M_4y = M423_) : wkG b w b2 c v3_4 v2_4 M_4 v3_4y v2_4y M_4y := by
  have i1000 : (1000 : Int32).toInt = 1000 := by decide
  have i0 := il_0
  unfold wkG
  obtain ⟨ec, ek⟩ := ec
  obtain rfl : j425_ = v2_4.toInt.toNat - 2 := by omega
  obtain rfl : j30_ = v2_4.toInt.toNat - 2 := by omega
  obtain rfl : j34_ = v2_4.toInt.toNat - 1 := by omega
  rw [sv_bin (by omega)]
  refine ⟨by rw [hq_v3_4y]; omega, by rw [hq_v2_4y]; show _ = ((v2_4.toInt.toNat - 1 : Nat) : Int); omega, ?_⟩
  rw [hM_, hM424_, up_row, dn_0 (by omega)]
  show upd _ _ _ = upd _ _ _
  (try dsimp only)
  subst e29_ e33_
  first | rw [if_pos (by omega)] | rw [if_neg (by omega)]
theorem wk_p35 {b w b2 : Nat} {v3_4 v2_4 v3_4y v2_4y c : Int32} {M_4 M_4y : mM} {j14_ : Nat} {z12_ : Int32} {z16_ : Int32} {z24_ : Int32} {z26_ : Int32} {j30_ : Nat} {z28_ : Int32} {j34_ : Nat} {z32_ : Int32} {z431_ : Int32} {j435_ : Nat} {M433_ : mM} {z439_ : Int32} (ec : c.toInt = 2000 ∧ 2 ≤ v2_4.toInt) (hv0_4 : 0 ≤ v3_4.toInt) (hv1_4 : 0 ≤ v2_4.toInt) (hv2_4 : v2_4.toInt ≤ 48) (h15_ : (j14_ : Int) = v3_4.toInt) (e13_ : z12_ = M_4.1 (24, b, w) j14_) (h17_ : z16_ = z12_ - (1000 : Int32)) (h18_ : 2000 ≤ z12_.toInt) (h21_ : 2 ≤ v2_4.toInt) (h25_ : z24_.toInt = v2_4.toInt + (-1)) (h27_ : z26_.toInt = z24_.toInt - 1) (h31_ : (j30_ : Int) = z26_.toInt) (e29_ : z28_ = M_4.1 (25, b, w) j30_) (h35_ : (j34_ : Int) = z24_.toInt) (e33_ : z32_ = M_4.1 (25, b, w) j34_) (h420_ : z28_.toInt < z32_.toInt) (h432_ : z431_.toInt = z24_.toInt - 1) (h436_ : (j435_ : Int) = z431_.toInt) (hM434_ : M433_ = up M_4 (25, b, w) j435_ 1) (h440_ : z439_.toInt = v3_4.toInt + 1) (hq_v3_4y : v3_4y = z439_) (hq_v2_4y : v2_4y = z24_) (hM_ : M_4y = M433_) : wkG b w b2 c v3_4 v2_4 M_4 v3_4y v2_4y M_4y := by
  have i1000 : (1000 : Int32).toInt = 1000 := by decide
  have i0 := il_0
  unfold wkG
  obtain ⟨ec, ek⟩ := ec
  obtain rfl : j435_ = v2_4.toInt.toNat - 2 := by omega
  obtain rfl : j30_ = v2_4.toInt.toNat - 2 := by omega
  obtain rfl : j34_ = v2_4.toInt.toNat - 1 := by omega
  rw [sv_bin (by omega)]
  refine ⟨by rw [hq_v3_4y]; omega, by rw [hq_v2_4y]; show _ = ((v2_4.toInt.toNat - 1 : Nat) : Int); omega, ?_⟩
  rw [hM_, hM434_, up_row, dn_0 (by omega)]
  show upd _ _ _ = upd _ _ _
  (try dsimp only)
  subst e29_ e33_
  first | rw [if_pos (by omega)] | rw [if_neg (by omega)]
theorem wk_p36 {b w b2 : Nat} {v3_4 v2_4 v3_4y v2_4y c : Int32} {M_4 M_4y : mM} {j14_ : Nat} {z12_ : Int32} {z16_ : Int32} {z24_ : Int32} {z26_ : Int32} {j30_ : Nat} {z28_ : Int32} {j34_ : Nat} {z32_ : Int32} {z442_ : Int32} {j446_ : Nat} {M444_ : mM} {z450_ : Int32} (ec : c.toInt = 2001 ∧ 2 ≤ v2_4.toInt) (hv0_4 : 0 ≤ v3_4.toInt) (hv1_4 : 0 ≤ v2_4.toInt) (hv2_4 : v2_4.toInt ≤ 48) (h15_ : (j14_ : Int) = v3_4.toInt) (e13_ : z12_ = M_4.1 (24, b, w) j14_) (h17_ : z16_ = z12_ - (1000 : Int32)) (h18_ : 2000 ≤ z12_.toInt) (h21_ : 2 ≤ v2_4.toInt) (h25_ : z24_.toInt = v2_4.toInt + (-1)) (h27_ : z26_.toInt = z24_.toInt - 1) (h31_ : (j30_ : Int) = z26_.toInt) (e29_ : z28_ = M_4.1 (25, b, w) j30_) (h35_ : (j34_ : Int) = z24_.toInt) (e33_ : z32_ = M_4.1 (25, b, w) j34_) (h441_ : ¬ z28_.toInt = z32_.toInt) (h443_ : z442_.toInt = z24_.toInt - 1) (h447_ : (j446_ : Int) = z442_.toInt) (hM445_ : M444_ = up M_4 (25, b, w) j446_ 0) (h451_ : z450_.toInt = v3_4.toInt + 1) (hq_v3_4y : v3_4y = z450_) (hq_v2_4y : v2_4y = z24_) (hM_ : M_4y = M444_) : wkG b w b2 c v3_4 v2_4 M_4 v3_4y v2_4y M_4y := by
  have i1000 : (1000 : Int32).toInt = 1000 := by decide
  have i0 := il_0
  unfold wkG
  obtain ⟨ec, ek⟩ := ec
  obtain rfl : j446_ = v2_4.toInt.toNat - 2 := by omega
  obtain rfl : j30_ = v2_4.toInt.toNat - 2 := by omega
  obtain rfl : j34_ = v2_4.toInt.toNat - 1 := by omega
  rw [sv_bin (by omega)]
  refine ⟨by rw [hq_v3_4y]; omega, by rw [hq_v2_4y]; show _ = ((v2_4.toInt.toNat - 1 : Nat) : Int); omega, ?_⟩
  rw [hM_, hM445_, up_row, dn_1 (by omega)]
  show upd _ _ _ = upd _ _ _
  (try dsimp only)
  subst e29_ e33_
  first | rw [if_pos (by omega)] | rw [if_neg (by omega)]
theorem wk_p37 {b w b2 : Nat} {v3_4 v2_4 v3_4y v2_4y c : Int32} {M_4 M_4y : mM} {j14_ : Nat} {z12_ : Int32} {z16_ : Int32} {z24_ : Int32} {z26_ : Int32} {j30_ : Nat} {z28_ : Int32} {j34_ : Nat} {z32_ : Int32} {z452_ : Int32} {j456_ : Nat} {M454_ : mM} {z460_ : Int32} (ec : c.toInt = 2001 ∧ 2 ≤ v2_4.toInt) (hv0_4 : 0 ≤ v3_4.toInt) (hv1_4 : 0 ≤ v2_4.toInt) (hv2_4 : v2_4.toInt ≤ 48) (h15_ : (j14_ : Int) = v3_4.toInt) (e13_ : z12_ = M_4.1 (24, b, w) j14_) (h17_ : z16_ = z12_ - (1000 : Int32)) (h18_ : 2000 ≤ z12_.toInt) (h21_ : 2 ≤ v2_4.toInt) (h25_ : z24_.toInt = v2_4.toInt + (-1)) (h27_ : z26_.toInt = z24_.toInt - 1) (h31_ : (j30_ : Int) = z26_.toInt) (e29_ : z28_ = M_4.1 (25, b, w) j30_) (h35_ : (j34_ : Int) = z24_.toInt) (e33_ : z32_ = M_4.1 (25, b, w) j34_) (h441_ : z28_.toInt = z32_.toInt) (h453_ : z452_.toInt = z24_.toInt - 1) (h457_ : (j456_ : Int) = z452_.toInt) (hM455_ : M454_ = up M_4 (25, b, w) j456_ 1) (h461_ : z460_.toInt = v3_4.toInt + 1) (hq_v3_4y : v3_4y = z460_) (hq_v2_4y : v2_4y = z24_) (hM_ : M_4y = M454_) : wkG b w b2 c v3_4 v2_4 M_4 v3_4y v2_4y M_4y := by
  have i1000 : (1000 : Int32).toInt = 1000 := by decide
  have i0 := il_0
  unfold wkG
  obtain ⟨ec, ek⟩ := ec
  obtain rfl : j456_ = v2_4.toInt.toNat - 2 := by omega
  obtain rfl : j30_ = v2_4.toInt.toNat - 2 := by omega
  obtain rfl : j34_ = v2_4.toInt.toNat - 1 := by omega
  rw [sv_bin (by omega)]
  refine ⟨by rw [hq_v3_4y]; omega, by rw [hq_v2_4y]; show _ = ((v2_4.toInt.toNat - 1 : Nat) : Int); omega, ?_⟩
  rw [hM_, hM455_, up_row, dn_1 (by omega)]
  show upd _ _ _ = upd _ _ _
  (try dsimp only)
  subst e29_ e33_
  first | rw [if_pos (by omega)] | rw [if_neg (by omega)]
theorem wk_p38 {b w b2 : Nat} {v3_4 v2_4 v3_4y v2_4y c : Int32} {M_4 M_4y : mM} {j14_ : Nat} {z12_ : Int32} {z16_ : Int32} {z24_ : Int32} {z26_ : Int32} {j30_ : Nat} {z28_ : Int32} {j34_ : Nat} {z32_ : Int32} {z463_ : Int32} {j467_ : Nat} {M465_ : mM} {z471_ : Int32} (ec : c.toInt = 2002 ∧ 2 ≤ v2_4.toInt) (hv0_4 : 0 ≤ v3_4.toInt) (hv1_4 : 0 ≤ v2_4.toInt) (hv2_4 : v2_4.toInt ≤ 48) (h15_ : (j14_ : Int) = v3_4.toInt) (e13_ : z12_ = M_4.1 (24, b, w) j14_) (h17_ : z16_ = z12_ - (1000 : Int32)) (h18_ : 2000 ≤ z12_.toInt) (h21_ : 2 ≤ v2_4.toInt) (h25_ : z24_.toInt = v2_4.toInt + (-1)) (h27_ : z26_.toInt = z24_.toInt - 1) (h31_ : (j30_ : Int) = z26_.toInt) (e29_ : z28_ = M_4.1 (25, b, w) j30_) (h35_ : (j34_ : Int) = z24_.toInt) (e33_ : z32_ = M_4.1 (25, b, w) j34_) (h462_ : z28_.toInt ≤ z32_.toInt) (h464_ : z463_.toInt = z24_.toInt - 1) (h468_ : (j467_ : Int) = z463_.toInt) (hM466_ : M465_ = up M_4 (25, b, w) j467_ 0) (h472_ : z471_.toInt = v3_4.toInt + 1) (hq_v3_4y : v3_4y = z471_) (hq_v2_4y : v2_4y = z24_) (hM_ : M_4y = M465_) : wkG b w b2 c v3_4 v2_4 M_4 v3_4y v2_4y M_4y := by
  have i1000 : (1000 : Int32).toInt = 1000 := by decide
  have i0 := il_0
  unfold wkG
  obtain ⟨ec, ek⟩ := ec
  obtain rfl : j467_ = v2_4.toInt.toNat - 2 := by omega
  obtain rfl : j30_ = v2_4.toInt.toNat - 2 := by omega
  obtain rfl : j34_ = v2_4.toInt.toNat - 1 := by omega
  rw [sv_bin (by omega)]
  refine ⟨by rw [hq_v3_4y]; omega, by rw [hq_v2_4y]; show _ = ((v2_4.toInt.toNat - 1 : Nat) : Int); omega, ?_⟩
  rw [hM_, hM466_, up_row, dn_2 (by omega)]
  show upd _ _ _ = upd _ _ _
  (try dsimp only)
  subst e29_ e33_
  first | rw [if_pos (by omega)] | rw [if_neg (by omega)]
theorem wk_p39 {b w b2 : Nat} {v3_4 v2_4 v3_4y v2_4y c : Int32} {M_4 M_4y : mM} {j14_ : Nat} {z12_ : Int32} {z16_ : Int32} {z24_ : Int32} {z26_ : Int32} {j30_ : Nat} {z28_ : Int32} {j34_ : Nat} {z32_ : Int32} {z473_ : Int32} {j477_ : Nat} {M475_ : mM} {z481_ : Int32} (ec : c.toInt = 2002 ∧ 2 ≤ v2_4.toInt) (hv0_4 : 0 ≤ v3_4.toInt) (hv1_4 : 0 ≤ v2_4.toInt) (hv2_4 : v2_4.toInt ≤ 48) (h15_ : (j14_ : Int) = v3_4.toInt) (e13_ : z12_ = M_4.1 (24, b, w) j14_) (h17_ : z16_ = z12_ - (1000 : Int32)) (h18_ : 2000 ≤ z12_.toInt) (h21_ : 2 ≤ v2_4.toInt) (h25_ : z24_.toInt = v2_4.toInt + (-1)) (h27_ : z26_.toInt = z24_.toInt - 1) (h31_ : (j30_ : Int) = z26_.toInt) (e29_ : z28_ = M_4.1 (25, b, w) j30_) (h35_ : (j34_ : Int) = z24_.toInt) (e33_ : z32_ = M_4.1 (25, b, w) j34_) (h462_ : z32_.toInt < z28_.toInt) (h474_ : z473_.toInt = z24_.toInt - 1) (h478_ : (j477_ : Int) = z473_.toInt) (hM476_ : M475_ = up M_4 (25, b, w) j477_ 1) (h482_ : z481_.toInt = v3_4.toInt + 1) (hq_v3_4y : v3_4y = z481_) (hq_v2_4y : v2_4y = z24_) (hM_ : M_4y = M475_) : wkG b w b2 c v3_4 v2_4 M_4 v3_4y v2_4y M_4y := by
  have i1000 : (1000 : Int32).toInt = 1000 := by decide
  have i0 := il_0
  unfold wkG
  obtain ⟨ec, ek⟩ := ec
  obtain rfl : j477_ = v2_4.toInt.toNat - 2 := by omega
  obtain rfl : j30_ = v2_4.toInt.toNat - 2 := by omega
  obtain rfl : j34_ = v2_4.toInt.toNat - 1 := by omega
  rw [sv_bin (by omega)]
  refine ⟨by rw [hq_v3_4y]; omega, by rw [hq_v2_4y]; show _ = ((v2_4.toInt.toNat - 1 : Nat) : Int); omega, ?_⟩
  rw [hM_, hM476_, up_row, dn_2 (by omega)]
  show upd _ _ _ = upd _ _ _
  (try dsimp only)
  subst e29_ e33_
  first | rw [if_pos (by omega)] | rw [if_neg (by omega)]
theorem wk_p40 {b w b2 : Nat} {v3_4 v2_4 v3_4y v2_4y c : Int32} {M_4 M_4y : mM} {j14_ : Nat} {z12_ : Int32} {z16_ : Int32} {z24_ : Int32} {z26_ : Int32} {j30_ : Nat} {z28_ : Int32} {j34_ : Nat} {z32_ : Int32} {z484_ : Int32} {z486_ : Int32} {j490_ : Nat} {M488_ : mM} {z494_ : Int32} (ec : c.toInt = 2007 ∧ 2 ≤ v2_4.toInt) (hv0_4 : 0 ≤ v3_4.toInt) (hv1_4 : 0 ≤ v2_4.toInt) (hv2_4 : v2_4.toInt ≤ 48) (h15_ : (j14_ : Int) = v3_4.toInt) (e13_ : z12_ = M_4.1 (24, b, w) j14_) (h17_ : z16_ = z12_ - (1000 : Int32)) (h18_ : 2000 ≤ z12_.toInt) (h21_ : 2 ≤ v2_4.toInt) (h25_ : z24_.toInt = v2_4.toInt + (-1)) (h27_ : z26_.toInt = z24_.toInt - 1) (h31_ : (j30_ : Int) = z26_.toInt) (e29_ : z28_ = M_4.1 (25, b, w) j30_) (h35_ : (j34_ : Int) = z24_.toInt) (e33_ : z32_ = M_4.1 (25, b, w) j34_) (h483_ : ¬ z32_.toInt = 0) (h485_ : z484_ = z28_ - z28_ / z32_ * z32_) (h487_ : z486_.toInt = z24_.toInt - 1) (h491_ : (j490_ : Int) = z486_.toInt) (hM489_ : M488_ = up M_4 (25, b, w) j490_ z484_) (h495_ : z494_.toInt = v3_4.toInt + 1) (hq_v3_4y : v3_4y = z494_) (hq_v2_4y : v2_4y = z24_) (hM_ : M_4y = M488_) : wkG b w b2 c v3_4 v2_4 M_4 v3_4y v2_4y M_4y := by
  have i1000 : (1000 : Int32).toInt = 1000 := by decide
  have i0 := il_0
  unfold wkG
  obtain ⟨ec, ek⟩ := ec
  obtain rfl : j490_ = v2_4.toInt.toNat - 2 := by omega
  obtain rfl : j30_ = v2_4.toInt.toNat - 2 := by omega
  obtain rfl : j34_ = v2_4.toInt.toNat - 1 := by omega
  rw [sv_bin (by omega)]
  refine ⟨by rw [hq_v3_4y]; omega, by rw [hq_v2_4y]; show _ = ((v2_4.toInt.toNat - 1 : Nat) : Int); omega, ?_⟩
  rw [hM_, hM489_, up_row, dn_7 (by omega)]
  show upd _ _ _ = upd _ _ _
  (try dsimp only)
  subst e29_ e33_
  rw [if_neg h483_, h485_]
theorem wk_p41 {b w b2 : Nat} {v3_4 v2_4 v3_4y v2_4y c : Int32} {M_4 M_4y : mM} {j14_ : Nat} {z12_ : Int32} {z16_ : Int32} {z24_ : Int32} {z26_ : Int32} {j30_ : Nat} {z28_ : Int32} {j34_ : Nat} {z32_ : Int32} {z496_ : Int32} {j500_ : Nat} {M498_ : mM} {z504_ : Int32} (ec : c.toInt = 2007 ∧ 2 ≤ v2_4.toInt) (hv0_4 : 0 ≤ v3_4.toInt) (hv1_4 : 0 ≤ v2_4.toInt) (hv2_4 : v2_4.toInt ≤ 48) (h15_ : (j14_ : Int) = v3_4.toInt) (e13_ : z12_ = M_4.1 (24, b, w) j14_) (h17_ : z16_ = z12_ - (1000 : Int32)) (h18_ : 2000 ≤ z12_.toInt) (h21_ : 2 ≤ v2_4.toInt) (h25_ : z24_.toInt = v2_4.toInt + (-1)) (h27_ : z26_.toInt = z24_.toInt - 1) (h31_ : (j30_ : Int) = z26_.toInt) (e29_ : z28_ = M_4.1 (25, b, w) j30_) (h35_ : (j34_ : Int) = z24_.toInt) (e33_ : z32_ = M_4.1 (25, b, w) j34_) (h483_ : z32_.toInt = 0) (h497_ : z496_.toInt = z24_.toInt - 1) (h501_ : (j500_ : Int) = z496_.toInt) (hM499_ : M498_ = up M_4 (25, b, w) j500_ 0) (h505_ : z504_.toInt = v3_4.toInt + 1) (hq_v3_4y : v3_4y = z504_) (hq_v2_4y : v2_4y = z24_) (hM_ : M_4y = M498_) : wkG b w b2 c v3_4 v2_4 M_4 v3_4y v2_4y M_4y := by
  have i1000 : (1000 : Int32).toInt = 1000 := by decide
  have i0 := il_0
  unfold wkG
  obtain ⟨ec, ek⟩ := ec
  obtain rfl : j500_ = v2_4.toInt.toNat - 2 := by omega
  obtain rfl : j30_ = v2_4.toInt.toNat - 2 := by omega
  obtain rfl : j34_ = v2_4.toInt.toNat - 1 := by omega
  rw [sv_bin (by omega)]
  refine ⟨by rw [hq_v3_4y]; omega, by rw [hq_v2_4y]; show _ = ((v2_4.toInt.toNat - 1 : Nat) : Int); omega, ?_⟩
  rw [hM_, hM499_, up_row, dn_7 (by omega)]
  show upd _ _ _ = upd _ _ _
  (try dsimp only)
  subst e29_ e33_
  rw [if_pos h483_]
theorem wk_p45 {b w b2 : Nat} {v3_4 v2_4 v3_4y v2_4y c : Int32} {M_4 M_4y : mM} {j14_ : Nat} {z12_ : Int32} {z16_ : Int32} {z547_ : Int32} {z549_ : Int32} {z551_ : Int32} {j555_ : Nat} {z553_ : Int32} {z558_ : Int32} {j562_ : Nat} {z560_ : Int32} {j566_ : Nat} {M564_ : mM} {z570_ : Int32} (ec : c.toInt = 2009 ∧ 3 ≤ v2_4.toInt) (hv0_4 : 0 ≤ v3_4.toInt) (hv1_4 : 0 ≤ v2_4.toInt) (hv2_4 : v2_4.toInt ≤ 48) (h15_ : (j14_ : Int) = v3_4.toInt) (e13_ : z12_ = M_4.1 (24, b, w) j14_) (h17_ : z16_ = z12_ - (1000 : Int32)) (h18_ : 2000 ≤ z12_.toInt) (h20_ : z12_.toInt = 2063) (h506_ : 3 ≤ v2_4.toInt) (h548_ : z547_.toInt = v2_4.toInt + (-2)) (h550_ : z549_.toInt = z547_.toInt - 1) (h552_ : z551_.toInt = z547_.toInt - 1) (h556_ : (j555_ : Int) = z551_.toInt) (e554_ : z553_ = M_4.1 (25, b, w) j555_) (h557_ : z553_.toInt = 0) (h559_ : z558_.toInt = z547_.toInt + 1) (h563_ : (j562_ : Int) = z558_.toInt) (e561_ : z560_ = M_4.1 (25, b, w) j562_) (h567_ : (j566_ : Int) = z549_.toInt) (hM565_ : M564_ = up M_4 (25, b, w) j566_ z560_) (h571_ : z570_.toInt = v3_4.toInt + 1) (hq_v3_4y : v3_4y = z570_) (hq_v2_4y : v2_4y = z547_) (hM_ : M_4y = M564_) : wkG b w b2 c v3_4 v2_4 M_4 v3_4y v2_4y M_4y := by
  have i1000 : (1000 : Int32).toInt = 1000 := by decide
  have i0 := il_0
  unfold wkG
  obtain ⟨ec, ek⟩ := ec
  obtain rfl : j566_ = v2_4.toInt.toNat - 3 := by omega
  obtain rfl : j562_ = v2_4.toInt.toNat - 1 := by omega
  obtain rfl : j555_ = v2_4.toInt.toNat - 3 := by omega
  rw [sv_cho ec]
  refine ⟨by rw [hq_v3_4y]; omega, by rw [hq_v2_4y]; show _ = ((v2_4.toInt.toNat - 2 : Nat) : Int); omega, ?_⟩
  rw [hM_, hM565_, up_row, e561_]
  show upd _ _ _ = upd _ _ _
  (try dsimp only)
  rw [if_pos (by rw [← e554_]; exact h557_)]
theorem wk_p46 {b w b2 : Nat} {v3_4 v2_4 v3_4y v2_4y c : Int32} {M_4 M_4y : mM} {j14_ : Nat} {z12_ : Int32} {z16_ : Int32} {z547_ : Int32} {z549_ : Int32} {z551_ : Int32} {j555_ : Nat} {z553_ : Int32} {j574_ : Nat} {z572_ : Int32} {j578_ : Nat} {M576_ : mM} {z582_ : Int32} (ec : c.toInt = 2009 ∧ 3 ≤ v2_4.toInt) (hv0_4 : 0 ≤ v3_4.toInt) (hv1_4 : 0 ≤ v2_4.toInt) (hv2_4 : v2_4.toInt ≤ 48) (h15_ : (j14_ : Int) = v3_4.toInt) (e13_ : z12_ = M_4.1 (24, b, w) j14_) (h17_ : z16_ = z12_ - (1000 : Int32)) (h18_ : 2000 ≤ z12_.toInt) (h20_ : z12_.toInt = 2063) (h506_ : 3 ≤ v2_4.toInt) (h548_ : z547_.toInt = v2_4.toInt + (-2)) (h550_ : z549_.toInt = z547_.toInt - 1) (h552_ : z551_.toInt = z547_.toInt - 1) (h556_ : (j555_ : Int) = z551_.toInt) (e554_ : z553_ = M_4.1 (25, b, w) j555_) (h557_ : ¬ z553_.toInt = 0) (h575_ : (j574_ : Int) = z547_.toInt) (e573_ : z572_ = M_4.1 (25, b, w) j574_) (h579_ : (j578_ : Int) = z549_.toInt) (hM577_ : M576_ = up M_4 (25, b, w) j578_ z572_) (h583_ : z582_.toInt = v3_4.toInt + 1) (hq_v3_4y : v3_4y = z582_) (hq_v2_4y : v2_4y = z547_) (hM_ : M_4y = M576_) : wkG b w b2 c v3_4 v2_4 M_4 v3_4y v2_4y M_4y := by
  have i1000 : (1000 : Int32).toInt = 1000 := by decide
  have i0 := il_0
  unfold wkG
  obtain ⟨ec, ek⟩ := ec
  obtain rfl : j578_ = v2_4.toInt.toNat - 3 := by omega
  obtain rfl : j574_ = v2_4.toInt.toNat - 2 := by omega
  obtain rfl : j555_ = v2_4.toInt.toNat - 3 := by omega
  rw [sv_cho ec]
  refine ⟨by rw [hq_v3_4y]; omega, by rw [hq_v2_4y]; show _ = ((v2_4.toInt.toNat - 2 : Nat) : Int); omega, ?_⟩
  rw [hM_, hM577_, up_row, e573_]
  show upd _ _ _ = upd _ _ _
  (try dsimp only)
  rw [if_neg (by rw [← e554_]; exact h557_)]
theorem wk_p48 {b w b2 : Nat} {v3_4 v2_4 v3_4y v2_4y c : Int32} {M_4 M_4y : mM} {j14_ : Nat} {z12_ : Int32} {z16_ : Int32} {z589_ : Int32} {z591_ : Int32} {j595_ : Nat} {z593_ : Int32} {z597_ : Int32} {j601_ : Nat} {M599_ : mM} {z605_ : Int32} (ec : c.toInt = 2008 ∧ 1 ≤ v2_4.toInt) (hv0_4 : 0 ≤ v3_4.toInt) (hv1_4 : 0 ≤ v2_4.toInt) (hv2_4 : v2_4.toInt ≤ 48) (h15_ : (j14_ : Int) = v3_4.toInt) (e13_ : z12_ = M_4.1 (24, b, w) j14_) (h17_ : z16_ = z12_ - (1000 : Int32)) (h18_ : 2000 ≤ z12_.toInt) (h19_ : z12_.toInt = 2126) (h584_ : 1 ≤ v2_4.toInt) (h590_ : z589_.toInt = v2_4.toInt - 1) (h592_ : z591_.toInt = v2_4.toInt - 1) (h596_ : (j595_ : Int) = z591_.toInt) (e594_ : z593_ = M_4.1 (25, b, w) j595_) (h598_ : z597_ = -z593_) (h602_ : (j601_ : Int) = z589_.toInt) (hM600_ : M599_ = up M_4 (25, b, w) j601_ z597_) (h606_ : z605_.toInt = v3_4.toInt + 1) (hq_v3_4y : v3_4y = z605_) (hq_v2_4y : v2_4y = v2_4) (hM_ : M_4y = M599_) : wkG b w b2 c v3_4 v2_4 M_4 v3_4y v2_4y M_4y := by
  have i1000 : (1000 : Int32).toInt = 1000 := by decide
  have i0 := il_0
  unfold wkG
  obtain ⟨ec, ek⟩ := ec
  obtain rfl : j601_ = v2_4.toInt.toNat - 1 := by omega
  obtain rfl : j595_ = v2_4.toInt.toNat - 1 := by omega
  rw [sv_neg ec]
  refine ⟨by rw [hq_v3_4y]; omega, by rw [hq_v2_4y]; show _ = ((v2_4.toInt.toNat : Nat) : Int); omega, ?_⟩
  rw [hM_, hM600_, up_row, h598_, e594_]
theorem wk_p90 {b w b2 : Nat} {v3_4 v2_4 v3_4y v2_4y c : Int32} {M_4 M_4y : mM} {j14_ : Nat} {z12_ : Int32} {z16_ : Int32} {j1097_ : Nat} {M1095_ : mM} {z1101_ : Int32} {z1103_ : Int32} (ec : c.toInt < 2000 ∧ z12_.toInt = c.toInt ∧ 0 ≤ c.toInt ∧ c.toInt < 1005 ∧ v2_4.toInt < 48) (hv0_4 : 0 ≤ v3_4.toInt) (hv1_4 : 0 ≤ v2_4.toInt) (hv2_4 : v2_4.toInt ≤ 48) (h15_ : (j14_ : Int) = v3_4.toInt) (e13_ : z12_ = M_4.1 (24, b, w) j14_) (h17_ : z16_ = z12_ - (1000 : Int32)) (h18_ : z12_.toInt < 2000) (h607_ : v2_4.toInt < 48) (h1093_ : 0 ≤ z16_.toInt) (h1094_ : 5 ≤ z16_.toInt) (h1098_ : (j1097_ : Int) = v2_4.toInt) (hM1096_ : M1095_ = up M_4 (25, b, w) j1097_ 0) (h1102_ : z1101_.toInt = v2_4.toInt + 1) (h1104_ : z1103_.toInt = v3_4.toInt + 1) (hq_v3_4y : v3_4y = z1103_) (hq_v2_4y : v2_4y = z1101_) (hM_ : M_4y = M1095_) : wkG b w b2 c v3_4 v2_4 M_4 v3_4y v2_4y M_4y := by
  have i1000 : (1000 : Int32).toInt = 1000 := by decide
  have i0 := il_0
  unfold wkG
  obtain ⟨ec, ek1, ek2, ek3, ek4⟩ := ec
  exfalso; have := subI (x := z12_) (y := (1000 : Int32)) rfl i1000 (by omega) (by omega); rw [← h17_] at this; omega
theorem wk_p91 {b w b2 : Nat} {v3_4 v2_4 v3_4y v2_4y c : Int32} {M_4 M_4y : mM} {j14_ : Nat} {z12_ : Int32} {z16_ : Int32} {j1107_ : Nat} {z1105_ : Int32} {j1111_ : Nat} {M1109_ : mM} {z1115_ : Int32} {z1117_ : Int32} (ec : c.toInt < 2000 ∧ z12_.toInt = c.toInt ∧ 0 ≤ c.toInt ∧ c.toInt < 1005 ∧ v2_4.toInt < 48) (hv0_4 : 0 ≤ v3_4.toInt) (hv1_4 : 0 ≤ v2_4.toInt) (hv2_4 : v2_4.toInt ≤ 48) (h15_ : (j14_ : Int) = v3_4.toInt) (e13_ : z12_ = M_4.1 (24, b, w) j14_) (h17_ : z16_ = z12_ - (1000 : Int32)) (h18_ : z12_.toInt < 2000) (h607_ : v2_4.toInt < 48) (h1093_ : 0 ≤ z16_.toInt) (h1094_ : z16_.toInt < 5) (h1108_ : (j1107_ : Int) = z16_.toInt) (e1106_ : z1105_ = M_4.1 (29, b2, 0) j1107_) (h1112_ : (j1111_ : Int) = v2_4.toInt) (hM1110_ : M1109_ = up M_4 (25, b, w) j1111_ z1105_) (h1116_ : z1115_.toInt = v2_4.toInt + 1) (h1118_ : z1117_.toInt = v3_4.toInt + 1) (hq_v3_4y : v3_4y = z1117_) (hq_v2_4y : v2_4y = z1115_) (hM_ : M_4y = M1109_) : wkG b w b2 c v3_4 v2_4 M_4 v3_4y v2_4y M_4y := by
  have i1000 : (1000 : Int32).toInt = 1000 := by decide
  have i0 := il_0
  unfold wkG
  obtain ⟨ec, ek1, ek2, ek3, ek4⟩ := ec
  obtain rfl : j1111_ = v2_4.toInt.toNat := by omega
  rw [sv_push ec]
  refine ⟨by rw [hq_v3_4y]; omega, by rw [hq_v2_4y]; show _ = ((v2_4.toInt.toNat + 1 : Nat) : Int); omega, ?_⟩
  rw [hM_, hM1110_, up_row]
  show upd _ _ _ = upd _ _ _
  have := subI (x := z12_) (y := (1000 : Int32)) rfl i1000 (by omega) (by omega)
  rw [← h17_] at this
  obtain rfl : j1107_ = (c.toInt - 1000).toNat := by omega
  rw [if_neg (by omega), e1106_]
theorem wk_p92 {b w b2 : Nat} {v3_4 v2_4 v3_4y v2_4y c : Int32} {M_4 M_4y : mM} {j14_ : Nat} {z12_ : Int32} {z16_ : Int32} {j1121_ : Nat} {M1119_ : mM} {z1125_ : Int32} {z1127_ : Int32} (ec : c.toInt < 2000 ∧ z12_.toInt = c.toInt ∧ 0 ≤ c.toInt ∧ c.toInt < 1005 ∧ v2_4.toInt < 48) (hv0_4 : 0 ≤ v3_4.toInt) (hv1_4 : 0 ≤ v2_4.toInt) (hv2_4 : v2_4.toInt ≤ 48) (h15_ : (j14_ : Int) = v3_4.toInt) (e13_ : z12_ = M_4.1 (24, b, w) j14_) (h17_ : z16_ = z12_ - (1000 : Int32)) (h18_ : z12_.toInt < 2000) (h607_ : v2_4.toInt < 48) (h1093_ : z16_.toInt < 0) (h1122_ : (j1121_ : Int) = v2_4.toInt) (hM1120_ : M1119_ = up M_4 (25, b, w) j1121_ z12_) (h1126_ : z1125_.toInt = v2_4.toInt + 1) (h1128_ : z1127_.toInt = v3_4.toInt + 1) (hq_v3_4y : v3_4y = z1127_) (hq_v2_4y : v2_4y = z1125_) (hM_ : M_4y = M1119_) : wkG b w b2 c v3_4 v2_4 M_4 v3_4y v2_4y M_4y := by
  have i1000 : (1000 : Int32).toInt = 1000 := by decide
  have i0 := il_0
  unfold wkG
  obtain ⟨ec, ek1, ek2, ek3, ek4⟩ := ec
  obtain rfl : j1121_ = v2_4.toInt.toNat := by omega
  rw [sv_push ec]
  refine ⟨by rw [hq_v3_4y]; omega, by rw [hq_v2_4y]; show _ = ((v2_4.toInt.toNat + 1 : Nat) : Int); omega, ?_⟩
  rw [hM_, hM1120_, up_row]
  show upd _ _ _ = upd _ _ _
  have := subI (x := z12_) (y := (1000 : Int32)) rfl i1000 (by omega) (by omega)
  rw [← h17_] at this
  rw [if_pos (by omega), show z12_ = c from i32e (by omega)]
theorem wk_step {b w b2 : Nat} {Mz : mM} {v3_4 v2_4 v3_4y v2_4y : Int32} {M_4 M_4y : mM} (h : ST_X1_work_4 b w b2 Mz v3_4 v2_4 M_4 v3_4y v2_4y M_4y) {c : Int32} (hc : (M_4.1 (24, b, w) v3_4.toInt.toNat).toInt = cmI c.toInt) (hd : (0 ≤ c.toInt ∧ c.toInt < 1005 ∧ v2_4.toInt < 48) ∨ (c.toInt = 2008 ∧ 1 ≤ v2_4.toInt) ∨ (c.toInt = 2009 ∧ 3 ≤ v2_4.toInt) ∨ (2000 ≤ c.toInt ∧ c.toInt < 2008 ∧ 2 ≤ v2_4.toInt)) : wkG b w b2 c v3_4 v2_4 M_4 v3_4y v2_4y M_4y := by
  have hk : HKc (M_4.1 (24, b, w) v3_4.toInt.toNat) c v2_4.toInt := wk_cm hc hd
  clear hd hc
  have x0_ := h
  unfold ST_X1_work_4 at x0_
  exact an_e x0_ (fun hv0_4 x1_ => an_e x1_ (fun hv1_4 x2_ => an_e x2_ (fun hv2_4 x3_ => an_e x3_ (fun hI_4 x4_ => an_e x4_ (fun hF_4 x5_ => ex_e x5_ (fun z2_ x6_ => an_e x6_ (fun e3_ x7_ => an_e x7_ (fun h4_ x8_ => an_e x8_ (fun h8_ x9_ => ex_e x9_ (fun j14_ x10_ => an_e x10_ (fun h15_ x11_ => ex_e x11_ (fun z12_ x12_ => an_e x12_ (fun e13_ x13_ => ex_e x13_ (fun z16_ x14_ => an_e x14_ (fun h17_ x15_ => or_e x15_ (fun x16_ => an_e x16_ (fun h18_ x17_ => or_e x17_ (fun x18_ => an_e x18_ (fun h19_ x19_ => or_e x19_ (fun x20_ => an_e x20_ (fun h20_ x21_ => or_e x21_ (fun x22_ => an_e x22_ (fun h21_ x23_ => ex_e x23_ (fun z22_ x24_ => an_e x24_ (fun h23_ x25_ => an_e x25_ (fun hq_v3_4y x26_ => an_e x26_ (fun hq_v2_4y x27_ => (fun hM_ => ((hk_at hk h15_ e13_).two h18_ h19_ h20_ h21_).elim) x27_)))))) (fun x22_ => an_e x22_ (fun h21_ x23_ => ex_e x23_ (fun z24_ x24_ => an_e x24_ (fun h25_ x25_ => ex_e x25_ (fun z26_ x26_ => an_e x26_ (fun h27_ x27_ => ex_e x27_ (fun j30_ x28_ => an_e x28_ (fun h31_ x29_ => ex_e x29_ (fun z28_ x30_ => an_e x30_ (fun e29_ x31_ => ex_e x31_ (fun j34_ x32_ => an_e x32_ (fun h35_ x33_ => ex_e x33_ (fun z32_ x34_ => an_e x34_ (fun e33_ x35_ => ex_e x35_ (fun z36_ x36_ => an_e x36_ (fun h37_ x37_ => or_e x37_ (fun x38_ => an_e x38_ (fun e38_ x39_ => ex_e x39_ (fun z39_ x40_ => an_e x40_ (fun h40_ x41_ => ex_e x41_ (fun z41_ x42_ => an_e x42_ (fun h42_ x43_ => ex_e x43_ (fun j45_ x44_ => an_e x44_ (fun h46_ x45_ => ex_e x45_ (fun M43_ x46_ => an_e x46_ (fun hM44_ x47_ => ex_e x47_ (fun z49_ x48_ => an_e x48_ (fun h50_ x49_ => an_e x49_ (fun hq_v3_4y x50_ => an_e x50_ (fun hq_v2_4y x51_ => (fun hM_ => wk_p1 ((hk_at hk h15_ e13_).op (m := 2005) h37_ e38_ (by decide)) hv0_4 hv1_4 hv2_4 h15_ e13_ h17_ h18_ h21_ h25_ h27_ h31_ e29_ h35_ e33_ h40_ h42_ h46_ hM44_ h50_ hq_v3_4y hq_v2_4y hM_) x51_)))))))))))))) (fun x38_ => or_e x38_ (fun x39_ => an_e x39_ (fun e38_ x40_ => ex_e x40_ (fun z51_ x41_ => an_e x41_ (fun h52_ x42_ => ex_e x42_ (fun z53_ x43_ => an_e x43_ (fun h54_ x44_ => ex_e x44_ (fun j57_ x45_ => an_e x45_ (fun h58_ x46_ => ex_e x46_ (fun M55_ x47_ => an_e x47_ (fun hM56_ x48_ => ex_e x48_ (fun z61_ x49_ => an_e x49_ (fun h62_ x50_ => an_e x50_ (fun hq_v3_4y x51_ => an_e x51_ (fun hq_v2_4y x52_ => (fun hM_ => wk_p2 ((hk_at hk h15_ e13_).op (m := 2003) h37_ e38_ (by decide)) hv0_4 hv1_4 hv2_4 h15_ e13_ h17_ h18_ h21_ h25_ h27_ h31_ e29_ h35_ e33_ h52_ h54_ h58_ hM56_ h62_ hq_v3_4y hq_v2_4y hM_) x52_)))))))))))))) (fun x39_ => or_e x39_ (fun x40_ => an_e x40_ (fun e38_ x41_ => or_e x41_ (fun x42_ => an_e x42_ (fun h63_ x43_ => ex_e x43_ (fun z64_ x44_ => an_e x44_ (fun h65_ x45_ => ex_e x45_ (fun z66_ x46_ => an_e x46_ (fun h67_ x47_ => ex_e x47_ (fun j70_ x48_ => an_e x48_ (fun h71_ x49_ => ex_e x49_ (fun M68_ x50_ => an_e x50_ (fun hM69_ x51_ => ex_e x51_ (fun z74_ x52_ => an_e x52_ (fun h75_ x53_ => an_e x53_ (fun hq_v3_4y x54_ => an_e x54_ (fun hq_v2_4y x55_ => (fun hM_ => ((hk_at hk h15_ e13_).dead h37_ e38_ (by decide)).elim) x55_)))))))))))))) (fun x42_ => an_e x42_ (fun h63_ x43_ => ex_e x43_ (fun z76_ x44_ => an_e x44_ (fun h77_ x45_ => ex_e x45_ (fun j80_ x46_ => an_e x46_ (fun h81_ x47_ => ex_e x47_ (fun M78_ x48_ => an_e x48_ (fun hM79_ x49_ => ex_e x49_ (fun z84_ x50_ => an_e x50_ (fun h85_ x51_ => an_e x51_ (fun hq_v3_4y x52_ => an_e x52_ (fun hq_v2_4y x53_ => (fun hM_ => ((hk_at hk h15_ e13_).dead h37_ e38_ (by decide)).elim) x53_)))))))))))))) (fun x40_ => or_e x40_ (fun x41_ => an_e x41_ (fun e38_ x42_ => ex_e x42_ (fun z86_ x43_ => an_e x43_ (fun h87_ x44_ => ex_e x44_ (fun z88_ x45_ => an_e x45_ (fun h89_ x46_ => ex_e x46_ (fun j92_ x47_ => an_e x47_ (fun h93_ x48_ => ex_e x48_ (fun M90_ x49_ => an_e x49_ (fun hM91_ x50_ => ex_e x50_ (fun z96_ x51_ => an_e x51_ (fun h97_ x52_ => an_e x52_ (fun hq_v3_4y x53_ => an_e x53_ (fun hq_v2_4y x54_ => (fun hM_ => wk_p5 ((hk_at hk h15_ e13_).op (m := 2004) h37_ e38_ (by decide)) hv0_4 hv1_4 hv2_4 h15_ e13_ h17_ h18_ h21_ h25_ h27_ h31_ e29_ h35_ e33_ h87_ h89_ h93_ hM91_ h97_ hq_v3_4y hq_v2_4y hM_) x54_)))))))))))))) (fun x41_ => or_e x41_ (fun x42_ => an_e x42_ (fun e38_ x43_ => or_e x43_ (fun x44_ => an_e x44_ (fun h98_ x45_ => ex_e x45_ (fun z99_ x46_ => an_e x46_ (fun h100_ x47_ => ex_e x47_ (fun z101_ x48_ => an_e x48_ (fun h102_ x49_ => ex_e x49_ (fun j105_ x50_ => an_e x50_ (fun h106_ x51_ => ex_e x51_ (fun M103_ x52_ => an_e x52_ (fun hM104_ x53_ => ex_e x53_ (fun z109_ x54_ => an_e x54_ (fun h110_ x55_ => an_e x55_ (fun hq_v3_4y x56_ => an_e x56_ (fun hq_v2_4y x57_ => (fun hM_ => ((hk_at hk h15_ e13_).dead h37_ e38_ (by decide)).elim) x57_)))))))))))))) (fun x44_ => an_e x44_ (fun h98_ x45_ => ex_e x45_ (fun z111_ x46_ => an_e x46_ (fun h112_ x47_ => ex_e x47_ (fun j115_ x48_ => an_e x48_ (fun h116_ x49_ => ex_e x49_ (fun M113_ x50_ => an_e x50_ (fun hM114_ x51_ => ex_e x51_ (fun z119_ x52_ => an_e x52_ (fun h120_ x53_ => an_e x53_ (fun hq_v3_4y x54_ => an_e x54_ (fun hq_v2_4y x55_ => (fun hM_ => ((hk_at hk h15_ e13_).dead h37_ e38_ (by decide)).elim) x55_)))))))))))))) (fun x42_ => or_e x42_ (fun x43_ => an_e x43_ (fun e38_ x44_ => or_e x44_ (fun x45_ => an_e x45_ (fun h121_ x46_ => ex_e x46_ (fun z122_ x47_ => an_e x47_ (fun h123_ x48_ => ex_e x48_ (fun z124_ x49_ => an_e x49_ (fun h125_ x50_ => ex_e x50_ (fun j128_ x51_ => an_e x51_ (fun h129_ x52_ => ex_e x52_ (fun M126_ x53_ => an_e x53_ (fun hM127_ x54_ => ex_e x54_ (fun z132_ x55_ => an_e x55_ (fun h133_ x56_ => an_e x56_ (fun hq_v3_4y x57_ => an_e x57_ (fun hq_v2_4y x58_ => (fun hM_ => wk_p8 ((hk_at hk h15_ e13_).op (m := 2006) h37_ e38_ (by decide)) hv0_4 hv1_4 hv2_4 h15_ e13_ h17_ h18_ h21_ h25_ h27_ h31_ e29_ h35_ e33_ h121_ h123_ h125_ h129_ hM127_ h133_ hq_v3_4y hq_v2_4y hM_) x58_)))))))))))))) (fun x45_ => an_e x45_ (fun h121_ x46_ => ex_e x46_ (fun z134_ x47_ => an_e x47_ (fun h135_ x48_ => ex_e x48_ (fun j138_ x49_ => an_e x49_ (fun h139_ x50_ => ex_e x50_ (fun M136_ x51_ => an_e x51_ (fun hM137_ x52_ => ex_e x52_ (fun z142_ x53_ => an_e x53_ (fun h143_ x54_ => an_e x54_ (fun hq_v3_4y x55_ => an_e x55_ (fun hq_v2_4y x56_ => (fun hM_ => wk_p9 ((hk_at hk h15_ e13_).op (m := 2006) h37_ e38_ (by decide)) hv0_4 hv1_4 hv2_4 h15_ e13_ h17_ h18_ h21_ h25_ h27_ h31_ e29_ h35_ e33_ h121_ h135_ h139_ hM137_ h143_ hq_v3_4y hq_v2_4y hM_) x56_)))))))))))))) (fun x43_ => or_e x43_ (fun x44_ => an_e x44_ (fun e38_ x45_ => or_e x45_ (fun x46_ => an_e x46_ (fun h144_ x47_ => ex_e x47_ (fun z145_ x48_ => an_e x48_ (fun h146_ x49_ => ex_e x49_ (fun z147_ x50_ => an_e x50_ (fun h148_ x51_ => ex_e x51_ (fun j151_ x52_ => an_e x52_ (fun h152_ x53_ => ex_e x53_ (fun M149_ x54_ => an_e x54_ (fun hM150_ x55_ => ex_e x55_ (fun z155_ x56_ => an_e x56_ (fun h156_ x57_ => an_e x57_ (fun hq_v3_4y x58_ => an_e x58_ (fun hq_v2_4y x59_ => (fun hM_ => ((hk_at hk h15_ e13_).dead h37_ e38_ (by decide)).elim) x59_)))))))))))))) (fun x46_ => an_e x46_ (fun h144_ x47_ => ex_e x47_ (fun z157_ x48_ => an_e x48_ (fun h158_ x49_ => ex_e x49_ (fun j161_ x50_ => an_e x50_ (fun h162_ x51_ => ex_e x51_ (fun M159_ x52_ => an_e x52_ (fun hM160_ x53_ => ex_e x53_ (fun z165_ x54_ => an_e x54_ (fun h166_ x55_ => an_e x55_ (fun hq_v3_4y x56_ => an_e x56_ (fun hq_v2_4y x57_ => (fun hM_ => ((hk_at hk h15_ e13_).dead h37_ e38_ (by decide)).elim) x57_)))))))))))))) (fun x44_ => or_e x44_ (fun x45_ => an_e x45_ (fun e38_ x46_ => or_e x46_ (fun x47_ => an_e x47_ (fun h167_ x48_ => ex_e x48_ (fun z168_ x49_ => an_e x49_ (fun h169_ x50_ => ex_e x50_ (fun z170_ x51_ => an_e x51_ (fun h171_ x52_ => ex_e x52_ (fun j174_ x53_ => an_e x53_ (fun h175_ x54_ => ex_e x54_ (fun M172_ x55_ => an_e x55_ (fun hM173_ x56_ => ex_e x56_ (fun z178_ x57_ => an_e x57_ (fun h179_ x58_ => an_e x58_ (fun hq_v3_4y x59_ => an_e x59_ (fun hq_v2_4y x60_ => (fun hM_ => ((hk_at hk h15_ e13_).dead h37_ e38_ (by decide)).elim) x60_)))))))))))))) (fun x47_ => an_e x47_ (fun h167_ x48_ => ex_e x48_ (fun z180_ x49_ => an_e x49_ (fun h181_ x50_ => ex_e x50_ (fun j184_ x51_ => an_e x51_ (fun h185_ x52_ => ex_e x52_ (fun M182_ x53_ => an_e x53_ (fun hM183_ x54_ => ex_e x54_ (fun z188_ x55_ => an_e x55_ (fun h189_ x56_ => an_e x56_ (fun hq_v3_4y x57_ => an_e x57_ (fun hq_v2_4y x58_ => (fun hM_ => ((hk_at hk h15_ e13_).dead h37_ e38_ (by decide)).elim) x58_)))))))))))))) (fun x45_ => or_e x45_ (fun x46_ => an_e x46_ (fun e38_ x47_ => or_e x47_ (fun x48_ => an_e x48_ (fun h190_ x49_ => ex_e x49_ (fun z191_ x50_ => an_e x50_ (fun h192_ x51_ => ex_e x51_ (fun z193_ x52_ => an_e x52_ (fun h194_ x53_ => ex_e x53_ (fun j197_ x54_ => an_e x54_ (fun h198_ x55_ => ex_e x55_ (fun M195_ x56_ => an_e x56_ (fun hM196_ x57_ => ex_e x57_ (fun z201_ x58_ => an_e x58_ (fun h202_ x59_ => an_e x59_ (fun hq_v3_4y x60_ => an_e x60_ (fun hq_v2_4y x61_ => (fun hM_ => ((hk_at hk h15_ e13_).dead h37_ e38_ (by decide)).elim) x61_)))))))))))))) (fun x48_ => an_e x48_ (fun h190_ x49_ => ex_e x49_ (fun z203_ x50_ => an_e x50_ (fun h204_ x51_ => ex_e x51_ (fun j207_ x52_ => an_e x52_ (fun h208_ x53_ => ex_e x53_ (fun M205_ x54_ => an_e x54_ (fun hM206_ x55_ => ex_e x55_ (fun z211_ x56_ => an_e x56_ (fun h212_ x57_ => an_e x57_ (fun hq_v3_4y x58_ => an_e x58_ (fun hq_v2_4y x59_ => (fun hM_ => ((hk_at hk h15_ e13_).dead h37_ e38_ (by decide)).elim) x59_)))))))))))))) (fun x46_ => or_e x46_ (fun x47_ => an_e x47_ (fun e38_ x48_ => or_e x48_ (fun x49_ => an_e x49_ (fun h213_ x50_ => ex_e x50_ (fun z214_ x51_ => an_e x51_ (fun h215_ x52_ => ex_e x52_ (fun z216_ x53_ => an_e x53_ (fun h217_ x54_ => ex_e x54_ (fun j220_ x55_ => an_e x55_ (fun h221_ x56_ => ex_e x56_ (fun M218_ x57_ => an_e x57_ (fun hM219_ x58_ => ex_e x58_ (fun z224_ x59_ => an_e x59_ (fun h225_ x60_ => an_e x60_ (fun hq_v3_4y x61_ => an_e x61_ (fun hq_v2_4y x62_ => (fun hM_ => ((hk_at hk h15_ e13_).dead h37_ e38_ (by decide)).elim) x62_)))))))))))))) (fun x49_ => an_e x49_ (fun h213_ x50_ => ex_e x50_ (fun z226_ x51_ => an_e x51_ (fun h227_ x52_ => ex_e x52_ (fun j230_ x53_ => an_e x53_ (fun h231_ x54_ => ex_e x54_ (fun M228_ x55_ => an_e x55_ (fun hM229_ x56_ => ex_e x56_ (fun z234_ x57_ => an_e x57_ (fun h235_ x58_ => an_e x58_ (fun hq_v3_4y x59_ => an_e x59_ (fun hq_v2_4y x60_ => (fun hM_ => ((hk_at hk h15_ e13_).dead h37_ e38_ (by decide)).elim) x60_)))))))))))))) (fun x47_ => or_e x47_ (fun x48_ => an_e x48_ (fun e38_ x49_ => or_e x49_ (fun x50_ => an_e x50_ (fun h236_ x51_ => ex_e x51_ (fun z237_ x52_ => an_e x52_ (fun h238_ x53_ => ex_e x53_ (fun z239_ x54_ => an_e x54_ (fun h240_ x55_ => ex_e x55_ (fun j243_ x56_ => an_e x56_ (fun h244_ x57_ => ex_e x57_ (fun M241_ x58_ => an_e x58_ (fun hM242_ x59_ => ex_e x59_ (fun z247_ x60_ => an_e x60_ (fun h248_ x61_ => an_e x61_ (fun hq_v3_4y x62_ => an_e x62_ (fun hq_v2_4y x63_ => (fun hM_ => ((hk_at hk h15_ e13_).dead h37_ e38_ (by decide)).elim) x63_)))))))))))))) (fun x50_ => an_e x50_ (fun h236_ x51_ => ex_e x51_ (fun z249_ x52_ => an_e x52_ (fun h250_ x53_ => ex_e x53_ (fun j253_ x54_ => an_e x54_ (fun h254_ x55_ => ex_e x55_ (fun M251_ x56_ => an_e x56_ (fun hM252_ x57_ => ex_e x57_ (fun z257_ x58_ => an_e x58_ (fun h258_ x59_ => an_e x59_ (fun hq_v3_4y x60_ => an_e x60_ (fun hq_v2_4y x61_ => (fun hM_ => ((hk_at hk h15_ e13_).dead h37_ e38_ (by decide)).elim) x61_)))))))))))))) (fun x48_ => or_e x48_ (fun x49_ => an_e x49_ (fun e38_ x50_ => or_e x50_ (fun x51_ => an_e x51_ (fun h259_ x52_ => ex_e x52_ (fun z260_ x53_ => an_e x53_ (fun h261_ x54_ => ex_e x54_ (fun z262_ x55_ => an_e x55_ (fun h263_ x56_ => ex_e x56_ (fun j266_ x57_ => an_e x57_ (fun h267_ x58_ => ex_e x58_ (fun M264_ x59_ => an_e x59_ (fun hM265_ x60_ => ex_e x60_ (fun z270_ x61_ => an_e x61_ (fun h271_ x62_ => an_e x62_ (fun hq_v3_4y x63_ => an_e x63_ (fun hq_v2_4y x64_ => (fun hM_ => ((hk_at hk h15_ e13_).dead h37_ e38_ (by decide)).elim) x64_)))))))))))))) (fun x51_ => an_e x51_ (fun h259_ x52_ => ex_e x52_ (fun z272_ x53_ => an_e x53_ (fun h273_ x54_ => ex_e x54_ (fun j276_ x55_ => an_e x55_ (fun h277_ x56_ => ex_e x56_ (fun M274_ x57_ => an_e x57_ (fun hM275_ x58_ => ex_e x58_ (fun z280_ x59_ => an_e x59_ (fun h281_ x60_ => an_e x60_ (fun hq_v3_4y x61_ => an_e x61_ (fun hq_v2_4y x62_ => (fun hM_ => ((hk_at hk h15_ e13_).dead h37_ e38_ (by decide)).elim) x62_)))))))))))))) (fun x49_ => or_e x49_ (fun x50_ => an_e x50_ (fun e38_ x51_ => or_e x51_ (fun x52_ => an_e x52_ (fun h282_ x53_ => ex_e x53_ (fun z283_ x54_ => an_e x54_ (fun h284_ x55_ => ex_e x55_ (fun z285_ x56_ => an_e x56_ (fun h286_ x57_ => ex_e x57_ (fun j289_ x58_ => an_e x58_ (fun h290_ x59_ => ex_e x59_ (fun M287_ x60_ => an_e x60_ (fun hM288_ x61_ => ex_e x61_ (fun z293_ x62_ => an_e x62_ (fun h294_ x63_ => an_e x63_ (fun hq_v3_4y x64_ => an_e x64_ (fun hq_v2_4y x65_ => (fun hM_ => ((hk_at hk h15_ e13_).dead h37_ e38_ (by decide)).elim) x65_)))))))))))))) (fun x52_ => an_e x52_ (fun h282_ x53_ => ex_e x53_ (fun z295_ x54_ => an_e x54_ (fun h296_ x55_ => ex_e x55_ (fun j299_ x56_ => an_e x56_ (fun h300_ x57_ => ex_e x57_ (fun M297_ x58_ => an_e x58_ (fun hM298_ x59_ => ex_e x59_ (fun z303_ x60_ => an_e x60_ (fun h304_ x61_ => an_e x61_ (fun hq_v3_4y x62_ => an_e x62_ (fun hq_v2_4y x63_ => (fun hM_ => ((hk_at hk h15_ e13_).dead h37_ e38_ (by decide)).elim) x63_)))))))))))))) (fun x50_ => or_e x50_ (fun x51_ => an_e x51_ (fun e38_ x52_ => or_e x52_ (fun x53_ => an_e x53_ (fun h305_ x54_ => ex_e x54_ (fun z306_ x55_ => an_e x55_ (fun h307_ x56_ => ex_e x56_ (fun z308_ x57_ => an_e x57_ (fun h309_ x58_ => ex_e x58_ (fun j312_ x59_ => an_e x59_ (fun h313_ x60_ => ex_e x60_ (fun M310_ x61_ => an_e x61_ (fun hM311_ x62_ => ex_e x62_ (fun z316_ x63_ => an_e x63_ (fun h317_ x64_ => an_e x64_ (fun hq_v3_4y x65_ => an_e x65_ (fun hq_v2_4y x66_ => (fun hM_ => ((hk_at hk h15_ e13_).dead h37_ e38_ (by decide)).elim) x66_)))))))))))))) (fun x53_ => an_e x53_ (fun h305_ x54_ => ex_e x54_ (fun z318_ x55_ => an_e x55_ (fun h319_ x56_ => ex_e x56_ (fun j322_ x57_ => an_e x57_ (fun h323_ x58_ => ex_e x58_ (fun M320_ x59_ => an_e x59_ (fun hM321_ x60_ => ex_e x60_ (fun z326_ x61_ => an_e x61_ (fun h327_ x62_ => an_e x62_ (fun hq_v3_4y x63_ => an_e x63_ (fun hq_v2_4y x64_ => (fun hM_ => ((hk_at hk h15_ e13_).dead h37_ e38_ (by decide)).elim) x64_)))))))))))))) (fun x51_ => or_e x51_ (fun x52_ => an_e x52_ (fun e38_ x53_ => or_e x53_ (fun x54_ => an_e x54_ (fun h328_ x55_ => ex_e x55_ (fun z329_ x56_ => an_e x56_ (fun h330_ x57_ => ex_e x57_ (fun z331_ x58_ => an_e x58_ (fun h332_ x59_ => ex_e x59_ (fun j335_ x60_ => an_e x60_ (fun h336_ x61_ => ex_e x61_ (fun M333_ x62_ => an_e x62_ (fun hM334_ x63_ => ex_e x63_ (fun z339_ x64_ => an_e x64_ (fun h340_ x65_ => an_e x65_ (fun hq_v3_4y x66_ => an_e x66_ (fun hq_v2_4y x67_ => (fun hM_ => ((hk_at hk h15_ e13_).dead h37_ e38_ (by decide)).elim) x67_)))))))))))))) (fun x54_ => an_e x54_ (fun h328_ x55_ => ex_e x55_ (fun z341_ x56_ => an_e x56_ (fun h342_ x57_ => ex_e x57_ (fun j345_ x58_ => an_e x58_ (fun h346_ x59_ => ex_e x59_ (fun M343_ x60_ => an_e x60_ (fun hM344_ x61_ => ex_e x61_ (fun z349_ x62_ => an_e x62_ (fun h350_ x63_ => an_e x63_ (fun hq_v3_4y x64_ => an_e x64_ (fun hq_v2_4y x65_ => (fun hM_ => ((hk_at hk h15_ e13_).dead h37_ e38_ (by decide)).elim) x65_)))))))))))))) (fun x52_ => or_e x52_ (fun x53_ => an_e x53_ (fun e38_ x54_ => or_e x54_ (fun x55_ => an_e x55_ (fun h351_ x56_ => ex_e x56_ (fun z352_ x57_ => an_e x57_ (fun h353_ x58_ => ex_e x58_ (fun z354_ x59_ => an_e x59_ (fun h355_ x60_ => ex_e x60_ (fun j358_ x61_ => an_e x61_ (fun h359_ x62_ => ex_e x62_ (fun M356_ x63_ => an_e x63_ (fun hM357_ x64_ => ex_e x64_ (fun z362_ x65_ => an_e x65_ (fun h363_ x66_ => an_e x66_ (fun hq_v3_4y x67_ => an_e x67_ (fun hq_v2_4y x68_ => (fun hM_ => ((hk_at hk h15_ e13_).dead h37_ e38_ (by decide)).elim) x68_)))))))))))))) (fun x55_ => an_e x55_ (fun h351_ x56_ => ex_e x56_ (fun z364_ x57_ => an_e x57_ (fun h365_ x58_ => ex_e x58_ (fun j368_ x59_ => an_e x59_ (fun h369_ x60_ => ex_e x60_ (fun M366_ x61_ => an_e x61_ (fun hM367_ x62_ => ex_e x62_ (fun z372_ x63_ => an_e x63_ (fun h373_ x64_ => an_e x64_ (fun hq_v3_4y x65_ => an_e x65_ (fun hq_v2_4y x66_ => (fun hM_ => ((hk_at hk h15_ e13_).dead h37_ e38_ (by decide)).elim) x66_)))))))))))))) (fun x53_ => or_e x53_ (fun x54_ => an_e x54_ (fun e38_ x55_ => or_e x55_ (fun x56_ => an_e x56_ (fun h374_ x57_ => ex_e x57_ (fun z375_ x58_ => an_e x58_ (fun h376_ x59_ => ex_e x59_ (fun z377_ x60_ => an_e x60_ (fun h378_ x61_ => ex_e x61_ (fun j381_ x62_ => an_e x62_ (fun h382_ x63_ => ex_e x63_ (fun M379_ x64_ => an_e x64_ (fun hM380_ x65_ => ex_e x65_ (fun z385_ x66_ => an_e x66_ (fun h386_ x67_ => an_e x67_ (fun hq_v3_4y x68_ => an_e x68_ (fun hq_v2_4y x69_ => (fun hM_ => ((hk_at hk h15_ e13_).dead h37_ e38_ (by decide)).elim) x69_)))))))))))))) (fun x56_ => an_e x56_ (fun h374_ x57_ => ex_e x57_ (fun z387_ x58_ => an_e x58_ (fun h388_ x59_ => ex_e x59_ (fun j391_ x60_ => an_e x60_ (fun h392_ x61_ => ex_e x61_ (fun M389_ x62_ => an_e x62_ (fun hM390_ x63_ => ex_e x63_ (fun z395_ x64_ => an_e x64_ (fun h396_ x65_ => an_e x65_ (fun hq_v3_4y x66_ => an_e x66_ (fun hq_v2_4y x67_ => (fun hM_ => ((hk_at hk h15_ e13_).dead h37_ e38_ (by decide)).elim) x67_)))))))))))))) (fun x54_ => or_e x54_ (fun x55_ => an_e x55_ (fun e38_ x56_ => or_e x56_ (fun x57_ => an_e x57_ (fun h397_ x58_ => ex_e x58_ (fun z398_ x59_ => an_e x59_ (fun h399_ x60_ => ex_e x60_ (fun z400_ x61_ => an_e x61_ (fun h401_ x62_ => ex_e x62_ (fun j404_ x63_ => an_e x63_ (fun h405_ x64_ => ex_e x64_ (fun M402_ x65_ => an_e x65_ (fun hM403_ x66_ => ex_e x66_ (fun z408_ x67_ => an_e x67_ (fun h409_ x68_ => an_e x68_ (fun hq_v3_4y x69_ => an_e x69_ (fun hq_v2_4y x70_ => (fun hM_ => ((hk_at hk h15_ e13_).dead h37_ e38_ (by decide)).elim) x70_)))))))))))))) (fun x57_ => an_e x57_ (fun h397_ x58_ => ex_e x58_ (fun z410_ x59_ => an_e x59_ (fun h411_ x60_ => ex_e x60_ (fun j414_ x61_ => an_e x61_ (fun h415_ x62_ => ex_e x62_ (fun M412_ x63_ => an_e x63_ (fun hM413_ x64_ => ex_e x64_ (fun z418_ x65_ => an_e x65_ (fun h419_ x66_ => an_e x66_ (fun hq_v3_4y x67_ => an_e x67_ (fun hq_v2_4y x68_ => (fun hM_ => ((hk_at hk h15_ e13_).dead h37_ e38_ (by decide)).elim) x68_)))))))))))))) (fun x55_ => or_e x55_ (fun x56_ => an_e x56_ (fun e38_ x57_ => or_e x57_ (fun x58_ => an_e x58_ (fun h420_ x59_ => ex_e x59_ (fun z421_ x60_ => an_e x60_ (fun h422_ x61_ => ex_e x61_ (fun j425_ x62_ => an_e x62_ (fun h426_ x63_ => ex_e x63_ (fun M423_ x64_ => an_e x64_ (fun hM424_ x65_ => ex_e x65_ (fun z429_ x66_ => an_e x66_ (fun h430_ x67_ => an_e x67_ (fun hq_v3_4y x68_ => an_e x68_ (fun hq_v2_4y x69_ => (fun hM_ => wk_p34 ((hk_at hk h15_ e13_).op (m := 2000) h37_ e38_ (by decide)) hv0_4 hv1_4 hv2_4 h15_ e13_ h17_ h18_ h21_ h25_ h27_ h31_ e29_ h35_ e33_ h420_ h422_ h426_ hM424_ h430_ hq_v3_4y hq_v2_4y hM_) x69_)))))))))))) (fun x58_ => an_e x58_ (fun h420_ x59_ => ex_e x59_ (fun z431_ x60_ => an_e x60_ (fun h432_ x61_ => ex_e x61_ (fun j435_ x62_ => an_e x62_ (fun h436_ x63_ => ex_e x63_ (fun M433_ x64_ => an_e x64_ (fun hM434_ x65_ => ex_e x65_ (fun z439_ x66_ => an_e x66_ (fun h440_ x67_ => an_e x67_ (fun hq_v3_4y x68_ => an_e x68_ (fun hq_v2_4y x69_ => (fun hM_ => wk_p35 ((hk_at hk h15_ e13_).op (m := 2000) h37_ e38_ (by decide)) hv0_4 hv1_4 hv2_4 h15_ e13_ h17_ h18_ h21_ h25_ h27_ h31_ e29_ h35_ e33_ h420_ h432_ h436_ hM434_ h440_ hq_v3_4y hq_v2_4y hM_) x69_)))))))))))))) (fun x56_ => or_e x56_ (fun x57_ => an_e x57_ (fun e38_ x58_ => or_e x58_ (fun x59_ => an_e x59_ (fun h441_ x60_ => ex_e x60_ (fun z442_ x61_ => an_e x61_ (fun h443_ x62_ => ex_e x62_ (fun j446_ x63_ => an_e x63_ (fun h447_ x64_ => ex_e x64_ (fun M444_ x65_ => an_e x65_ (fun hM445_ x66_ => ex_e x66_ (fun z450_ x67_ => an_e x67_ (fun h451_ x68_ => an_e x68_ (fun hq_v3_4y x69_ => an_e x69_ (fun hq_v2_4y x70_ => (fun hM_ => wk_p36 ((hk_at hk h15_ e13_).op (m := 2001) h37_ e38_ (by decide)) hv0_4 hv1_4 hv2_4 h15_ e13_ h17_ h18_ h21_ h25_ h27_ h31_ e29_ h35_ e33_ h441_ h443_ h447_ hM445_ h451_ hq_v3_4y hq_v2_4y hM_) x70_)))))))))))) (fun x59_ => an_e x59_ (fun h441_ x60_ => ex_e x60_ (fun z452_ x61_ => an_e x61_ (fun h453_ x62_ => ex_e x62_ (fun j456_ x63_ => an_e x63_ (fun h457_ x64_ => ex_e x64_ (fun M454_ x65_ => an_e x65_ (fun hM455_ x66_ => ex_e x66_ (fun z460_ x67_ => an_e x67_ (fun h461_ x68_ => an_e x68_ (fun hq_v3_4y x69_ => an_e x69_ (fun hq_v2_4y x70_ => (fun hM_ => wk_p37 ((hk_at hk h15_ e13_).op (m := 2001) h37_ e38_ (by decide)) hv0_4 hv1_4 hv2_4 h15_ e13_ h17_ h18_ h21_ h25_ h27_ h31_ e29_ h35_ e33_ h441_ h453_ h457_ hM455_ h461_ hq_v3_4y hq_v2_4y hM_) x70_)))))))))))))) (fun x57_ => or_e x57_ (fun x58_ => an_e x58_ (fun e38_ x59_ => or_e x59_ (fun x60_ => an_e x60_ (fun h462_ x61_ => ex_e x61_ (fun z463_ x62_ => an_e x62_ (fun h464_ x63_ => ex_e x63_ (fun j467_ x64_ => an_e x64_ (fun h468_ x65_ => ex_e x65_ (fun M465_ x66_ => an_e x66_ (fun hM466_ x67_ => ex_e x67_ (fun z471_ x68_ => an_e x68_ (fun h472_ x69_ => an_e x69_ (fun hq_v3_4y x70_ => an_e x70_ (fun hq_v2_4y x71_ => (fun hM_ => wk_p38 ((hk_at hk h15_ e13_).op (m := 2002) h37_ e38_ (by decide)) hv0_4 hv1_4 hv2_4 h15_ e13_ h17_ h18_ h21_ h25_ h27_ h31_ e29_ h35_ e33_ h462_ h464_ h468_ hM466_ h472_ hq_v3_4y hq_v2_4y hM_) x71_)))))))))))) (fun x60_ => an_e x60_ (fun h462_ x61_ => ex_e x61_ (fun z473_ x62_ => an_e x62_ (fun h474_ x63_ => ex_e x63_ (fun j477_ x64_ => an_e x64_ (fun h478_ x65_ => ex_e x65_ (fun M475_ x66_ => an_e x66_ (fun hM476_ x67_ => ex_e x67_ (fun z481_ x68_ => an_e x68_ (fun h482_ x69_ => an_e x69_ (fun hq_v3_4y x70_ => an_e x70_ (fun hq_v2_4y x71_ => (fun hM_ => wk_p39 ((hk_at hk h15_ e13_).op (m := 2002) h37_ e38_ (by decide)) hv0_4 hv1_4 hv2_4 h15_ e13_ h17_ h18_ h21_ h25_ h27_ h31_ e29_ h35_ e33_ h462_ h474_ h478_ hM476_ h482_ hq_v3_4y hq_v2_4y hM_) x71_)))))))))))))) (fun x58_ => an_e x58_ (fun e38_ x59_ => or_e x59_ (fun x60_ => an_e x60_ (fun h483_ x61_ => ex_e x61_ (fun z484_ x62_ => an_e x62_ (fun h485_ x63_ => ex_e x63_ (fun z486_ x64_ => an_e x64_ (fun h487_ x65_ => ex_e x65_ (fun j490_ x66_ => an_e x66_ (fun h491_ x67_ => ex_e x67_ (fun M488_ x68_ => an_e x68_ (fun hM489_ x69_ => ex_e x69_ (fun z494_ x70_ => an_e x70_ (fun h495_ x71_ => an_e x71_ (fun hq_v3_4y x72_ => an_e x72_ (fun hq_v2_4y x73_ => (fun hM_ => wk_p40 ((hk_at hk h15_ e13_).dflt h18_ h19_ h20_ h37_ e38_.2.2.2.2.2.2.2.2.2.2.2.2.2.2.2.2.2.2.1 e38_.2.2.2.2.2.2.2.2.2.2.2.2.2.2.2.2.2.2.2.1 e38_.2.2.2.2.2.2.2.2.2.2.2.2.2.2.2.2.2.2.2.2 e38_.2.1 e38_.2.2.2.1 e38_.1 e38_.2.2.2.2.2.1) hv0_4 hv1_4 hv2_4 h15_ e13_ h17_ h18_ h21_ h25_ h27_ h31_ e29_ h35_ e33_ h483_ h485_ h487_ h491_ hM489_ h495_ hq_v3_4y hq_v2_4y hM_) x73_)))))))))))))) (fun x60_ => an_e x60_ (fun h483_ x61_ => ex_e x61_ (fun z496_ x62_ => an_e x62_ (fun h497_ x63_ => ex_e x63_ (fun j500_ x64_ => an_e x64_ (fun h501_ x65_ => ex_e x65_ (fun M498_ x66_ => an_e x66_ (fun hM499_ x67_ => ex_e x67_ (fun z504_ x68_ => an_e x68_ (fun h505_ x69_ => an_e x69_ (fun hq_v3_4y x70_ => an_e x70_ (fun hq_v2_4y x71_ => (fun hM_ => wk_p41 ((hk_at hk h15_ e13_).dflt h18_ h19_ h20_ h37_ e38_.2.2.2.2.2.2.2.2.2.2.2.2.2.2.2.2.2.2.1 e38_.2.2.2.2.2.2.2.2.2.2.2.2.2.2.2.2.2.2.2.1 e38_.2.2.2.2.2.2.2.2.2.2.2.2.2.2.2.2.2.2.2.2 e38_.2.1 e38_.2.2.2.1 e38_.1 e38_.2.2.2.2.2.1) hv0_4 hv1_4 hv2_4 h15_ e13_ h17_ h18_ h21_ h25_ h27_ h31_ e29_ h35_ e33_ h483_ h497_ h501_ hM499_ h505_ hq_v3_4y hq_v2_4y hM_) x71_)))))))))))))))))))))))))))))))))))))))))))))))))))) (fun x20_ => an_e x20_ (fun h20_ x21_ => or_e x21_ (fun x22_ => an_e x22_ (fun h506_ x23_ => or_e x23_ (fun x24_ => an_e x24_ (fun h507_ x25_ => ex_e x25_ (fun z508_ x26_ => an_e x26_ (fun h509_ x27_ => an_e x27_ (fun hq_v3_4y x28_ => an_e x28_ (fun hq_v2_4y x29_ => (fun hM_ => ((hk_at hk h15_ e13_).choD h20_ h506_).elim) x29_)))))) (fun x24_ => an_e x24_ (fun h507_ x25_ => ex_e x25_ (fun z510_ x26_ => an_e x26_ (fun h511_ x27_ => ex_e x27_ (fun z512_ x28_ => an_e x28_ (fun h513_ x29_ => ex_e x29_ (fun j516_ x30_ => an_e x30_ (fun h517_ x31_ => ex_e x31_ (fun z514_ x32_ => an_e x32_ (fun e515_ x33_ => ex_e x33_ (fun j520_ x34_ => an_e x34_ (fun h521_ x35_ => ex_e x35_ (fun z518_ x36_ => an_e x36_ (fun e519_ x37_ => ex_e x37_ (fun z522_ x38_ => an_e x38_ (fun h523_ x39_ => or_e x39_ (fun x40_ => an_e x40_ (fun h524_ x41_ => ex_e x41_ (fun z525_ x42_ => an_e x42_ (fun h526_ x43_ => ex_e x43_ (fun z527_ x44_ => an_e x44_ (fun h528_ x45_ => ex_e x45_ (fun j531_ x46_ => an_e x46_ (fun h532_ x47_ => ex_e x47_ (fun M529_ x48_ => an_e x48_ (fun hM530_ x49_ => ex_e x49_ (fun z535_ x50_ => an_e x50_ (fun h536_ x51_ => an_e x51_ (fun hq_v3_4y x52_ => an_e x52_ (fun hq_v2_4y x53_ => (fun hM_ => ((hk_at hk h15_ e13_).choD h20_ h506_).elim) x53_)))))))))))))) (fun x40_ => an_e x40_ (fun h524_ x41_ => ex_e x41_ (fun z537_ x42_ => an_e x42_ (fun h538_ x43_ => ex_e x43_ (fun j541_ x44_ => an_e x44_ (fun h542_ x45_ => ex_e x45_ (fun M539_ x46_ => an_e x46_ (fun hM540_ x47_ => ex_e x47_ (fun z545_ x48_ => an_e x48_ (fun h546_ x49_ => an_e x49_ (fun hq_v3_4y x50_ => an_e x50_ (fun hq_v2_4y x51_ => (fun hM_ => ((hk_at hk h15_ e13_).choD h20_ h506_).elim) x51_)))))))))))))))))))))))))))))) (fun x22_ => an_e x22_ (fun h506_ x23_ => ex_e x23_ (fun z547_ x24_ => an_e x24_ (fun h548_ x25_ => ex_e x25_ (fun z549_ x26_ => an_e x26_ (fun h550_ x27_ => ex_e x27_ (fun z551_ x28_ => an_e x28_ (fun h552_ x29_ => ex_e x29_ (fun j555_ x30_ => an_e x30_ (fun h556_ x31_ => ex_e x31_ (fun z553_ x32_ => an_e x32_ (fun e554_ x33_ => or_e x33_ (fun x34_ => an_e x34_ (fun h557_ x35_ => ex_e x35_ (fun z558_ x36_ => an_e x36_ (fun h559_ x37_ => ex_e x37_ (fun j562_ x38_ => an_e x38_ (fun h563_ x39_ => ex_e x39_ (fun z560_ x40_ => an_e x40_ (fun e561_ x41_ => ex_e x41_ (fun j566_ x42_ => an_e x42_ (fun h567_ x43_ => ex_e x43_ (fun M564_ x44_ => an_e x44_ (fun hM565_ x45_ => ex_e x45_ (fun z570_ x46_ => an_e x46_ (fun h571_ x47_ => an_e x47_ (fun hq_v3_4y x48_ => an_e x48_ (fun hq_v2_4y x49_ => (fun hM_ => wk_p45 ((hk_at hk h15_ e13_).cho h20_) hv0_4 hv1_4 hv2_4 h15_ e13_ h17_ h18_ h20_ h506_ h548_ h550_ h552_ h556_ e554_ h557_ h559_ h563_ e561_ h567_ hM565_ h571_ hq_v3_4y hq_v2_4y hM_) x49_)))))))))))))))) (fun x34_ => an_e x34_ (fun h557_ x35_ => ex_e x35_ (fun j574_ x36_ => an_e x36_ (fun h575_ x37_ => ex_e x37_ (fun z572_ x38_ => an_e x38_ (fun e573_ x39_ => ex_e x39_ (fun j578_ x40_ => an_e x40_ (fun h579_ x41_ => ex_e x41_ (fun M576_ x42_ => an_e x42_ (fun hM577_ x43_ => ex_e x43_ (fun z582_ x44_ => an_e x44_ (fun h583_ x45_ => an_e x45_ (fun hq_v3_4y x46_ => an_e x46_ (fun hq_v2_4y x47_ => (fun hM_ => wk_p46 ((hk_at hk h15_ e13_).cho h20_) hv0_4 hv1_4 hv2_4 h15_ e13_ h17_ h18_ h20_ h506_ h548_ h550_ h552_ h556_ e554_ h557_ h575_ e573_ h579_ hM577_ h583_ hq_v3_4y hq_v2_4y hM_) x47_)))))))))))))))))))))))))))))) (fun x18_ => an_e x18_ (fun h19_ x19_ => or_e x19_ (fun x20_ => an_e x20_ (fun h584_ x21_ => an_e x21_ (fun h585_ x22_ => an_e x22_ (fun h586_ x23_ => ex_e x23_ (fun z587_ x24_ => an_e x24_ (fun h588_ x25_ => an_e x25_ (fun hq_v3_4y x26_ => an_e x26_ (fun hq_v2_4y x27_ => (fun hM_ => ((hk_at hk h15_ e13_).negD h19_ h584_).elim) x27_)))))))) (fun x20_ => an_e x20_ (fun h584_ x21_ => ex_e x21_ (fun z589_ x22_ => an_e x22_ (fun h590_ x23_ => ex_e x23_ (fun z591_ x24_ => an_e x24_ (fun h592_ x25_ => ex_e x25_ (fun j595_ x26_ => an_e x26_ (fun h596_ x27_ => ex_e x27_ (fun z593_ x28_ => an_e x28_ (fun e594_ x29_ => ex_e x29_ (fun z597_ x30_ => an_e x30_ (fun h598_ x31_ => ex_e x31_ (fun j601_ x32_ => an_e x32_ (fun h602_ x33_ => ex_e x33_ (fun M599_ x34_ => an_e x34_ (fun hM600_ x35_ => ex_e x35_ (fun z605_ x36_ => an_e x36_ (fun h606_ x37_ => an_e x37_ (fun hq_v3_4y x38_ => an_e x38_ (fun hq_v2_4y x39_ => (fun hM_ => wk_p48 ((hk_at hk h15_ e13_).neg h19_) hv0_4 hv1_4 hv2_4 h15_ e13_ h17_ h18_ h19_ h584_ h590_ h592_ h596_ e594_ h598_ h602_ hM600_ h606_ hq_v3_4y hq_v2_4y hM_) x39_)))))))))))))))))))))))) (fun x16_ => an_e x16_ (fun h18_ x17_ => or_e x17_ (fun x18_ => an_e x18_ (fun h607_ x19_ => an_e x19_ (fun h608_ x20_ => an_e x20_ (fun h609_ x21_ => an_e x21_ (fun h610_ x22_ => ex_e x22_ (fun z611_ x23_ => an_e x23_ (fun h612_ x24_ => ex_e x24_ (fun z613_ x25_ => an_e x25_ (fun h614_ x26_ => ex_e x26_ (fun j617_ x27_ => an_e x27_ (fun h618_ x28_ => ex_e x28_ (fun z615_ x29_ => an_e x29_ (fun e616_ x30_ => ex_e x30_ (fun j621_ x31_ => an_e x31_ (fun h622_ x32_ => ex_e x32_ (fun z619_ x33_ => an_e x33_ (fun e620_ x34_ => ex_e x34_ (fun z623_ x35_ => an_e x35_ (fun h624_ x36_ => or_e x36_ (fun x37_ => an_e x37_ (fun e625_ x38_ => ex_e x38_ (fun z626_ x39_ => an_e x39_ (fun h627_ x40_ => ex_e x40_ (fun z628_ x41_ => an_e x41_ (fun h629_ x42_ => ex_e x42_ (fun j632_ x43_ => an_e x43_ (fun h633_ x44_ => ex_e x44_ (fun M630_ x45_ => an_e x45_ (fun hM631_ x46_ => ex_e x46_ (fun z636_ x47_ => an_e x47_ (fun h637_ x48_ => an_e x48_ (fun hq_v3_4y x49_ => an_e x49_ (fun hq_v2_4y x50_ => (fun hM_ => ((hk_at hk h15_ e13_).lowD h18_ h607_).elim) x50_)))))))))))))) (fun x37_ => or_e x37_ (fun x38_ => an_e x38_ (fun e625_ x39_ => ex_e x39_ (fun z638_ x40_ => an_e x40_ (fun h639_ x41_ => ex_e x41_ (fun z640_ x42_ => an_e x42_ (fun h641_ x43_ => ex_e x43_ (fun j644_ x44_ => an_e x44_ (fun h645_ x45_ => ex_e x45_ (fun M642_ x46_ => an_e x46_ (fun hM643_ x47_ => ex_e x47_ (fun z648_ x48_ => an_e x48_ (fun h649_ x49_ => an_e x49_ (fun hq_v3_4y x50_ => an_e x50_ (fun hq_v2_4y x51_ => (fun hM_ => ((hk_at hk h15_ e13_).lowD h18_ h607_).elim) x51_)))))))))))))) (fun x38_ => or_e x38_ (fun x39_ => an_e x39_ (fun e625_ x40_ => or_e x40_ (fun x41_ => an_e x41_ (fun h650_ x42_ => ex_e x42_ (fun z651_ x43_ => an_e x43_ (fun h652_ x44_ => ex_e x44_ (fun z653_ x45_ => an_e x45_ (fun h654_ x46_ => ex_e x46_ (fun j657_ x47_ => an_e x47_ (fun h658_ x48_ => ex_e x48_ (fun M655_ x49_ => an_e x49_ (fun hM656_ x50_ => ex_e x50_ (fun z661_ x51_ => an_e x51_ (fun h662_ x52_ => an_e x52_ (fun hq_v3_4y x53_ => an_e x53_ (fun hq_v2_4y x54_ => (fun hM_ => ((hk_at hk h15_ e13_).lowD h18_ h607_).elim) x54_)))))))))))))) (fun x41_ => an_e x41_ (fun h650_ x42_ => ex_e x42_ (fun z663_ x43_ => an_e x43_ (fun h664_ x44_ => ex_e x44_ (fun j667_ x45_ => an_e x45_ (fun h668_ x46_ => ex_e x46_ (fun M665_ x47_ => an_e x47_ (fun hM666_ x48_ => ex_e x48_ (fun z671_ x49_ => an_e x49_ (fun h672_ x50_ => an_e x50_ (fun hq_v3_4y x51_ => an_e x51_ (fun hq_v2_4y x52_ => (fun hM_ => ((hk_at hk h15_ e13_).lowD h18_ h607_).elim) x52_)))))))))))))) (fun x39_ => or_e x39_ (fun x40_ => an_e x40_ (fun e625_ x41_ => ex_e x41_ (fun z673_ x42_ => an_e x42_ (fun h674_ x43_ => ex_e x43_ (fun z675_ x44_ => an_e x44_ (fun h676_ x45_ => ex_e x45_ (fun j679_ x46_ => an_e x46_ (fun h680_ x47_ => ex_e x47_ (fun M677_ x48_ => an_e x48_ (fun hM678_ x49_ => ex_e x49_ (fun z683_ x50_ => an_e x50_ (fun h684_ x51_ => an_e x51_ (fun hq_v3_4y x52_ => an_e x52_ (fun hq_v2_4y x53_ => (fun hM_ => ((hk_at hk h15_ e13_).lowD h18_ h607_).elim) x53_)))))))))))))) (fun x40_ => or_e x40_ (fun x41_ => an_e x41_ (fun e625_ x42_ => or_e x42_ (fun x43_ => an_e x43_ (fun h685_ x44_ => ex_e x44_ (fun z686_ x45_ => an_e x45_ (fun h687_ x46_ => ex_e x46_ (fun z688_ x47_ => an_e x47_ (fun h689_ x48_ => ex_e x48_ (fun j692_ x49_ => an_e x49_ (fun h693_ x50_ => ex_e x50_ (fun M690_ x51_ => an_e x51_ (fun hM691_ x52_ => ex_e x52_ (fun z696_ x53_ => an_e x53_ (fun h697_ x54_ => an_e x54_ (fun hq_v3_4y x55_ => an_e x55_ (fun hq_v2_4y x56_ => (fun hM_ => ((hk_at hk h15_ e13_).lowD h18_ h607_).elim) x56_)))))))))))))) (fun x43_ => an_e x43_ (fun h685_ x44_ => ex_e x44_ (fun z698_ x45_ => an_e x45_ (fun h699_ x46_ => ex_e x46_ (fun j702_ x47_ => an_e x47_ (fun h703_ x48_ => ex_e x48_ (fun M700_ x49_ => an_e x49_ (fun hM701_ x50_ => ex_e x50_ (fun z706_ x51_ => an_e x51_ (fun h707_ x52_ => an_e x52_ (fun hq_v3_4y x53_ => an_e x53_ (fun hq_v2_4y x54_ => (fun hM_ => ((hk_at hk h15_ e13_).lowD h18_ h607_).elim) x54_)))))))))))))) (fun x41_ => or_e x41_ (fun x42_ => an_e x42_ (fun e625_ x43_ => or_e x43_ (fun x44_ => an_e x44_ (fun h708_ x45_ => ex_e x45_ (fun z709_ x46_ => an_e x46_ (fun h710_ x47_ => ex_e x47_ (fun z711_ x48_ => an_e x48_ (fun h712_ x49_ => ex_e x49_ (fun j715_ x50_ => an_e x50_ (fun h716_ x51_ => ex_e x51_ (fun M713_ x52_ => an_e x52_ (fun hM714_ x53_ => ex_e x53_ (fun z719_ x54_ => an_e x54_ (fun h720_ x55_ => an_e x55_ (fun hq_v3_4y x56_ => an_e x56_ (fun hq_v2_4y x57_ => (fun hM_ => ((hk_at hk h15_ e13_).lowD h18_ h607_).elim) x57_)))))))))))))) (fun x44_ => an_e x44_ (fun h708_ x45_ => ex_e x45_ (fun z721_ x46_ => an_e x46_ (fun h722_ x47_ => ex_e x47_ (fun j725_ x48_ => an_e x48_ (fun h726_ x49_ => ex_e x49_ (fun M723_ x50_ => an_e x50_ (fun hM724_ x51_ => ex_e x51_ (fun z729_ x52_ => an_e x52_ (fun h730_ x53_ => an_e x53_ (fun hq_v3_4y x54_ => an_e x54_ (fun hq_v2_4y x55_ => (fun hM_ => ((hk_at hk h15_ e13_).lowD h18_ h607_).elim) x55_)))))))))))))) (fun x42_ => or_e x42_ (fun x43_ => an_e x43_ (fun e625_ x44_ => or_e x44_ (fun x45_ => an_e x45_ (fun h731_ x46_ => ex_e x46_ (fun z732_ x47_ => an_e x47_ (fun h733_ x48_ => ex_e x48_ (fun z734_ x49_ => an_e x49_ (fun h735_ x50_ => ex_e x50_ (fun j738_ x51_ => an_e x51_ (fun h739_ x52_ => ex_e x52_ (fun M736_ x53_ => an_e x53_ (fun hM737_ x54_ => ex_e x54_ (fun z742_ x55_ => an_e x55_ (fun h743_ x56_ => an_e x56_ (fun hq_v3_4y x57_ => an_e x57_ (fun hq_v2_4y x58_ => (fun hM_ => ((hk_at hk h15_ e13_).lowD h18_ h607_).elim) x58_)))))))))))))) (fun x45_ => an_e x45_ (fun h731_ x46_ => ex_e x46_ (fun z744_ x47_ => an_e x47_ (fun h745_ x48_ => ex_e x48_ (fun j748_ x49_ => an_e x49_ (fun h749_ x50_ => ex_e x50_ (fun M746_ x51_ => an_e x51_ (fun hM747_ x52_ => ex_e x52_ (fun z752_ x53_ => an_e x53_ (fun h753_ x54_ => an_e x54_ (fun hq_v3_4y x55_ => an_e x55_ (fun hq_v2_4y x56_ => (fun hM_ => ((hk_at hk h15_ e13_).lowD h18_ h607_).elim) x56_)))))))))))))) (fun x43_ => or_e x43_ (fun x44_ => an_e x44_ (fun e625_ x45_ => or_e x45_ (fun x46_ => an_e x46_ (fun h754_ x47_ => ex_e x47_ (fun z755_ x48_ => an_e x48_ (fun h756_ x49_ => ex_e x49_ (fun z757_ x50_ => an_e x50_ (fun h758_ x51_ => ex_e x51_ (fun j761_ x52_ => an_e x52_ (fun h762_ x53_ => ex_e x53_ (fun M759_ x54_ => an_e x54_ (fun hM760_ x55_ => ex_e x55_ (fun z765_ x56_ => an_e x56_ (fun h766_ x57_ => an_e x57_ (fun hq_v3_4y x58_ => an_e x58_ (fun hq_v2_4y x59_ => (fun hM_ => ((hk_at hk h15_ e13_).lowD h18_ h607_).elim) x59_)))))))))))))) (fun x46_ => an_e x46_ (fun h754_ x47_ => ex_e x47_ (fun z767_ x48_ => an_e x48_ (fun h768_ x49_ => ex_e x49_ (fun j771_ x50_ => an_e x50_ (fun h772_ x51_ => ex_e x51_ (fun M769_ x52_ => an_e x52_ (fun hM770_ x53_ => ex_e x53_ (fun z775_ x54_ => an_e x54_ (fun h776_ x55_ => an_e x55_ (fun hq_v3_4y x56_ => an_e x56_ (fun hq_v2_4y x57_ => (fun hM_ => ((hk_at hk h15_ e13_).lowD h18_ h607_).elim) x57_)))))))))))))) (fun x44_ => or_e x44_ (fun x45_ => an_e x45_ (fun e625_ x46_ => or_e x46_ (fun x47_ => an_e x47_ (fun h777_ x48_ => ex_e x48_ (fun z778_ x49_ => an_e x49_ (fun h779_ x50_ => ex_e x50_ (fun z780_ x51_ => an_e x51_ (fun h781_ x52_ => ex_e x52_ (fun j784_ x53_ => an_e x53_ (fun h785_ x54_ => ex_e x54_ (fun M782_ x55_ => an_e x55_ (fun hM783_ x56_ => ex_e x56_ (fun z788_ x57_ => an_e x57_ (fun h789_ x58_ => an_e x58_ (fun hq_v3_4y x59_ => an_e x59_ (fun hq_v2_4y x60_ => (fun hM_ => ((hk_at hk h15_ e13_).lowD h18_ h607_).elim) x60_)))))))))))))) (fun x47_ => an_e x47_ (fun h777_ x48_ => ex_e x48_ (fun z790_ x49_ => an_e x49_ (fun h791_ x50_ => ex_e x50_ (fun j794_ x51_ => an_e x51_ (fun h795_ x52_ => ex_e x52_ (fun M792_ x53_ => an_e x53_ (fun hM793_ x54_ => ex_e x54_ (fun z798_ x55_ => an_e x55_ (fun h799_ x56_ => an_e x56_ (fun hq_v3_4y x57_ => an_e x57_ (fun hq_v2_4y x58_ => (fun hM_ => ((hk_at hk h15_ e13_).lowD h18_ h607_).elim) x58_)))))))))))))) (fun x45_ => or_e x45_ (fun x46_ => an_e x46_ (fun e625_ x47_ => or_e x47_ (fun x48_ => an_e x48_ (fun h800_ x49_ => ex_e x49_ (fun z801_ x50_ => an_e x50_ (fun h802_ x51_ => ex_e x51_ (fun z803_ x52_ => an_e x52_ (fun h804_ x53_ => ex_e x53_ (fun j807_ x54_ => an_e x54_ (fun h808_ x55_ => ex_e x55_ (fun M805_ x56_ => an_e x56_ (fun hM806_ x57_ => ex_e x57_ (fun z811_ x58_ => an_e x58_ (fun h812_ x59_ => an_e x59_ (fun hq_v3_4y x60_ => an_e x60_ (fun hq_v2_4y x61_ => (fun hM_ => ((hk_at hk h15_ e13_).lowD h18_ h607_).elim) x61_)))))))))))))) (fun x48_ => an_e x48_ (fun h800_ x49_ => ex_e x49_ (fun z813_ x50_ => an_e x50_ (fun h814_ x51_ => ex_e x51_ (fun j817_ x52_ => an_e x52_ (fun h818_ x53_ => ex_e x53_ (fun M815_ x54_ => an_e x54_ (fun hM816_ x55_ => ex_e x55_ (fun z821_ x56_ => an_e x56_ (fun h822_ x57_ => an_e x57_ (fun hq_v3_4y x58_ => an_e x58_ (fun hq_v2_4y x59_ => (fun hM_ => ((hk_at hk h15_ e13_).lowD h18_ h607_).elim) x59_)))))))))))))) (fun x46_ => or_e x46_ (fun x47_ => an_e x47_ (fun e625_ x48_ => or_e x48_ (fun x49_ => an_e x49_ (fun h823_ x50_ => ex_e x50_ (fun z824_ x51_ => an_e x51_ (fun h825_ x52_ => ex_e x52_ (fun z826_ x53_ => an_e x53_ (fun h827_ x54_ => ex_e x54_ (fun j830_ x55_ => an_e x55_ (fun h831_ x56_ => ex_e x56_ (fun M828_ x57_ => an_e x57_ (fun hM829_ x58_ => ex_e x58_ (fun z834_ x59_ => an_e x59_ (fun h835_ x60_ => an_e x60_ (fun hq_v3_4y x61_ => an_e x61_ (fun hq_v2_4y x62_ => (fun hM_ => ((hk_at hk h15_ e13_).lowD h18_ h607_).elim) x62_)))))))))))))) (fun x49_ => an_e x49_ (fun h823_ x50_ => ex_e x50_ (fun z836_ x51_ => an_e x51_ (fun h837_ x52_ => ex_e x52_ (fun j840_ x53_ => an_e x53_ (fun h841_ x54_ => ex_e x54_ (fun M838_ x55_ => an_e x55_ (fun hM839_ x56_ => ex_e x56_ (fun z844_ x57_ => an_e x57_ (fun h845_ x58_ => an_e x58_ (fun hq_v3_4y x59_ => an_e x59_ (fun hq_v2_4y x60_ => (fun hM_ => ((hk_at hk h15_ e13_).lowD h18_ h607_).elim) x60_)))))))))))))) (fun x47_ => or_e x47_ (fun x48_ => an_e x48_ (fun e625_ x49_ => or_e x49_ (fun x50_ => an_e x50_ (fun h846_ x51_ => ex_e x51_ (fun z847_ x52_ => an_e x52_ (fun h848_ x53_ => ex_e x53_ (fun z849_ x54_ => an_e x54_ (fun h850_ x55_ => ex_e x55_ (fun j853_ x56_ => an_e x56_ (fun h854_ x57_ => ex_e x57_ (fun M851_ x58_ => an_e x58_ (fun hM852_ x59_ => ex_e x59_ (fun z857_ x60_ => an_e x60_ (fun h858_ x61_ => an_e x61_ (fun hq_v3_4y x62_ => an_e x62_ (fun hq_v2_4y x63_ => (fun hM_ => ((hk_at hk h15_ e13_).lowD h18_ h607_).elim) x63_)))))))))))))) (fun x50_ => an_e x50_ (fun h846_ x51_ => ex_e x51_ (fun z859_ x52_ => an_e x52_ (fun h860_ x53_ => ex_e x53_ (fun j863_ x54_ => an_e x54_ (fun h864_ x55_ => ex_e x55_ (fun M861_ x56_ => an_e x56_ (fun hM862_ x57_ => ex_e x57_ (fun z867_ x58_ => an_e x58_ (fun h868_ x59_ => an_e x59_ (fun hq_v3_4y x60_ => an_e x60_ (fun hq_v2_4y x61_ => (fun hM_ => ((hk_at hk h15_ e13_).lowD h18_ h607_).elim) x61_)))))))))))))) (fun x48_ => or_e x48_ (fun x49_ => an_e x49_ (fun e625_ x50_ => or_e x50_ (fun x51_ => an_e x51_ (fun h869_ x52_ => ex_e x52_ (fun z870_ x53_ => an_e x53_ (fun h871_ x54_ => ex_e x54_ (fun z872_ x55_ => an_e x55_ (fun h873_ x56_ => ex_e x56_ (fun j876_ x57_ => an_e x57_ (fun h877_ x58_ => ex_e x58_ (fun M874_ x59_ => an_e x59_ (fun hM875_ x60_ => ex_e x60_ (fun z880_ x61_ => an_e x61_ (fun h881_ x62_ => an_e x62_ (fun hq_v3_4y x63_ => an_e x63_ (fun hq_v2_4y x64_ => (fun hM_ => ((hk_at hk h15_ e13_).lowD h18_ h607_).elim) x64_)))))))))))))) (fun x51_ => an_e x51_ (fun h869_ x52_ => ex_e x52_ (fun z882_ x53_ => an_e x53_ (fun h883_ x54_ => ex_e x54_ (fun j886_ x55_ => an_e x55_ (fun h887_ x56_ => ex_e x56_ (fun M884_ x57_ => an_e x57_ (fun hM885_ x58_ => ex_e x58_ (fun z890_ x59_ => an_e x59_ (fun h891_ x60_ => an_e x60_ (fun hq_v3_4y x61_ => an_e x61_ (fun hq_v2_4y x62_ => (fun hM_ => ((hk_at hk h15_ e13_).lowD h18_ h607_).elim) x62_)))))))))))))) (fun x49_ => or_e x49_ (fun x50_ => an_e x50_ (fun e625_ x51_ => or_e x51_ (fun x52_ => an_e x52_ (fun h892_ x53_ => ex_e x53_ (fun z893_ x54_ => an_e x54_ (fun h894_ x55_ => ex_e x55_ (fun z895_ x56_ => an_e x56_ (fun h896_ x57_ => ex_e x57_ (fun j899_ x58_ => an_e x58_ (fun h900_ x59_ => ex_e x59_ (fun M897_ x60_ => an_e x60_ (fun hM898_ x61_ => ex_e x61_ (fun z903_ x62_ => an_e x62_ (fun h904_ x63_ => an_e x63_ (fun hq_v3_4y x64_ => an_e x64_ (fun hq_v2_4y x65_ => (fun hM_ => ((hk_at hk h15_ e13_).lowD h18_ h607_).elim) x65_)))))))))))))) (fun x52_ => an_e x52_ (fun h892_ x53_ => ex_e x53_ (fun z905_ x54_ => an_e x54_ (fun h906_ x55_ => ex_e x55_ (fun j909_ x56_ => an_e x56_ (fun h910_ x57_ => ex_e x57_ (fun M907_ x58_ => an_e x58_ (fun hM908_ x59_ => ex_e x59_ (fun z913_ x60_ => an_e x60_ (fun h914_ x61_ => an_e x61_ (fun hq_v3_4y x62_ => an_e x62_ (fun hq_v2_4y x63_ => (fun hM_ => ((hk_at hk h15_ e13_).lowD h18_ h607_).elim) x63_)))))))))))))) (fun x50_ => or_e x50_ (fun x51_ => an_e x51_ (fun e625_ x52_ => or_e x52_ (fun x53_ => an_e x53_ (fun h915_ x54_ => ex_e x54_ (fun z916_ x55_ => an_e x55_ (fun h917_ x56_ => ex_e x56_ (fun z918_ x57_ => an_e x57_ (fun h919_ x58_ => ex_e x58_ (fun j922_ x59_ => an_e x59_ (fun h923_ x60_ => ex_e x60_ (fun M920_ x61_ => an_e x61_ (fun hM921_ x62_ => ex_e x62_ (fun z926_ x63_ => an_e x63_ (fun h927_ x64_ => an_e x64_ (fun hq_v3_4y x65_ => an_e x65_ (fun hq_v2_4y x66_ => (fun hM_ => ((hk_at hk h15_ e13_).lowD h18_ h607_).elim) x66_)))))))))))))) (fun x53_ => an_e x53_ (fun h915_ x54_ => ex_e x54_ (fun z928_ x55_ => an_e x55_ (fun h929_ x56_ => ex_e x56_ (fun j932_ x57_ => an_e x57_ (fun h933_ x58_ => ex_e x58_ (fun M930_ x59_ => an_e x59_ (fun hM931_ x60_ => ex_e x60_ (fun z936_ x61_ => an_e x61_ (fun h937_ x62_ => an_e x62_ (fun hq_v3_4y x63_ => an_e x63_ (fun hq_v2_4y x64_ => (fun hM_ => ((hk_at hk h15_ e13_).lowD h18_ h607_).elim) x64_)))))))))))))) (fun x51_ => or_e x51_ (fun x52_ => an_e x52_ (fun e625_ x53_ => or_e x53_ (fun x54_ => an_e x54_ (fun h938_ x55_ => ex_e x55_ (fun z939_ x56_ => an_e x56_ (fun h940_ x57_ => ex_e x57_ (fun z941_ x58_ => an_e x58_ (fun h942_ x59_ => ex_e x59_ (fun j945_ x60_ => an_e x60_ (fun h946_ x61_ => ex_e x61_ (fun M943_ x62_ => an_e x62_ (fun hM944_ x63_ => ex_e x63_ (fun z949_ x64_ => an_e x64_ (fun h950_ x65_ => an_e x65_ (fun hq_v3_4y x66_ => an_e x66_ (fun hq_v2_4y x67_ => (fun hM_ => ((hk_at hk h15_ e13_).lowD h18_ h607_).elim) x67_)))))))))))))) (fun x54_ => an_e x54_ (fun h938_ x55_ => ex_e x55_ (fun z951_ x56_ => an_e x56_ (fun h952_ x57_ => ex_e x57_ (fun j955_ x58_ => an_e x58_ (fun h956_ x59_ => ex_e x59_ (fun M953_ x60_ => an_e x60_ (fun hM954_ x61_ => ex_e x61_ (fun z959_ x62_ => an_e x62_ (fun h960_ x63_ => an_e x63_ (fun hq_v3_4y x64_ => an_e x64_ (fun hq_v2_4y x65_ => (fun hM_ => ((hk_at hk h15_ e13_).lowD h18_ h607_).elim) x65_)))))))))))))) (fun x52_ => or_e x52_ (fun x53_ => an_e x53_ (fun e625_ x54_ => or_e x54_ (fun x55_ => an_e x55_ (fun h961_ x56_ => ex_e x56_ (fun z962_ x57_ => an_e x57_ (fun h963_ x58_ => ex_e x58_ (fun z964_ x59_ => an_e x59_ (fun h965_ x60_ => ex_e x60_ (fun j968_ x61_ => an_e x61_ (fun h969_ x62_ => ex_e x62_ (fun M966_ x63_ => an_e x63_ (fun hM967_ x64_ => ex_e x64_ (fun z972_ x65_ => an_e x65_ (fun h973_ x66_ => an_e x66_ (fun hq_v3_4y x67_ => an_e x67_ (fun hq_v2_4y x68_ => (fun hM_ => ((hk_at hk h15_ e13_).lowD h18_ h607_).elim) x68_)))))))))))))) (fun x55_ => an_e x55_ (fun h961_ x56_ => ex_e x56_ (fun z974_ x57_ => an_e x57_ (fun h975_ x58_ => ex_e x58_ (fun j978_ x59_ => an_e x59_ (fun h979_ x60_ => ex_e x60_ (fun M976_ x61_ => an_e x61_ (fun hM977_ x62_ => ex_e x62_ (fun z982_ x63_ => an_e x63_ (fun h983_ x64_ => an_e x64_ (fun hq_v3_4y x65_ => an_e x65_ (fun hq_v2_4y x66_ => (fun hM_ => ((hk_at hk h15_ e13_).lowD h18_ h607_).elim) x66_)))))))))))))) (fun x53_ => or_e x53_ (fun x54_ => an_e x54_ (fun e625_ x55_ => or_e x55_ (fun x56_ => an_e x56_ (fun h984_ x57_ => ex_e x57_ (fun z985_ x58_ => an_e x58_ (fun h986_ x59_ => ex_e x59_ (fun z987_ x60_ => an_e x60_ (fun h988_ x61_ => ex_e x61_ (fun j991_ x62_ => an_e x62_ (fun h992_ x63_ => ex_e x63_ (fun M989_ x64_ => an_e x64_ (fun hM990_ x65_ => ex_e x65_ (fun z995_ x66_ => an_e x66_ (fun h996_ x67_ => an_e x67_ (fun hq_v3_4y x68_ => an_e x68_ (fun hq_v2_4y x69_ => (fun hM_ => ((hk_at hk h15_ e13_).lowD h18_ h607_).elim) x69_)))))))))))))) (fun x56_ => an_e x56_ (fun h984_ x57_ => ex_e x57_ (fun z997_ x58_ => an_e x58_ (fun h998_ x59_ => ex_e x59_ (fun j1001_ x60_ => an_e x60_ (fun h1002_ x61_ => ex_e x61_ (fun M999_ x62_ => an_e x62_ (fun hM1000_ x63_ => ex_e x63_ (fun z1005_ x64_ => an_e x64_ (fun h1006_ x65_ => an_e x65_ (fun hq_v3_4y x66_ => an_e x66_ (fun hq_v2_4y x67_ => (fun hM_ => ((hk_at hk h15_ e13_).lowD h18_ h607_).elim) x67_)))))))))))))) (fun x54_ => or_e x54_ (fun x55_ => an_e x55_ (fun e625_ x56_ => or_e x56_ (fun x57_ => an_e x57_ (fun h1007_ x58_ => ex_e x58_ (fun z1008_ x59_ => an_e x59_ (fun h1009_ x60_ => ex_e x60_ (fun j1012_ x61_ => an_e x61_ (fun h1013_ x62_ => ex_e x62_ (fun M1010_ x63_ => an_e x63_ (fun hM1011_ x64_ => ex_e x64_ (fun z1016_ x65_ => an_e x65_ (fun h1017_ x66_ => an_e x66_ (fun hq_v3_4y x67_ => an_e x67_ (fun hq_v2_4y x68_ => (fun hM_ => ((hk_at hk h15_ e13_).lowD h18_ h607_).elim) x68_)))))))))))) (fun x57_ => an_e x57_ (fun h1007_ x58_ => ex_e x58_ (fun z1018_ x59_ => an_e x59_ (fun h1019_ x60_ => ex_e x60_ (fun j1022_ x61_ => an_e x61_ (fun h1023_ x62_ => ex_e x62_ (fun M1020_ x63_ => an_e x63_ (fun hM1021_ x64_ => ex_e x64_ (fun z1026_ x65_ => an_e x65_ (fun h1027_ x66_ => an_e x66_ (fun hq_v3_4y x67_ => an_e x67_ (fun hq_v2_4y x68_ => (fun hM_ => ((hk_at hk h15_ e13_).lowD h18_ h607_).elim) x68_)))))))))))))) (fun x55_ => or_e x55_ (fun x56_ => an_e x56_ (fun e625_ x57_ => or_e x57_ (fun x58_ => an_e x58_ (fun h1028_ x59_ => ex_e x59_ (fun z1029_ x60_ => an_e x60_ (fun h1030_ x61_ => ex_e x61_ (fun j1033_ x62_ => an_e x62_ (fun h1034_ x63_ => ex_e x63_ (fun M1031_ x64_ => an_e x64_ (fun hM1032_ x65_ => ex_e x65_ (fun z1037_ x66_ => an_e x66_ (fun h1038_ x67_ => an_e x67_ (fun hq_v3_4y x68_ => an_e x68_ (fun hq_v2_4y x69_ => (fun hM_ => ((hk_at hk h15_ e13_).lowD h18_ h607_).elim) x69_)))))))))))) (fun x58_ => an_e x58_ (fun h1028_ x59_ => ex_e x59_ (fun z1039_ x60_ => an_e x60_ (fun h1040_ x61_ => ex_e x61_ (fun j1043_ x62_ => an_e x62_ (fun h1044_ x63_ => ex_e x63_ (fun M1041_ x64_ => an_e x64_ (fun hM1042_ x65_ => ex_e x65_ (fun z1047_ x66_ => an_e x66_ (fun h1048_ x67_ => an_e x67_ (fun hq_v3_4y x68_ => an_e x68_ (fun hq_v2_4y x69_ => (fun hM_ => ((hk_at hk h15_ e13_).lowD h18_ h607_).elim) x69_)))))))))))))) (fun x56_ => or_e x56_ (fun x57_ => an_e x57_ (fun e625_ x58_ => or_e x58_ (fun x59_ => an_e x59_ (fun h1049_ x60_ => ex_e x60_ (fun z1050_ x61_ => an_e x61_ (fun h1051_ x62_ => ex_e x62_ (fun j1054_ x63_ => an_e x63_ (fun h1055_ x64_ => ex_e x64_ (fun M1052_ x65_ => an_e x65_ (fun hM1053_ x66_ => ex_e x66_ (fun z1058_ x67_ => an_e x67_ (fun h1059_ x68_ => an_e x68_ (fun hq_v3_4y x69_ => an_e x69_ (fun hq_v2_4y x70_ => (fun hM_ => ((hk_at hk h15_ e13_).lowD h18_ h607_).elim) x70_)))))))))))) (fun x59_ => an_e x59_ (fun h1049_ x60_ => ex_e x60_ (fun z1060_ x61_ => an_e x61_ (fun h1061_ x62_ => ex_e x62_ (fun j1064_ x63_ => an_e x63_ (fun h1065_ x64_ => ex_e x64_ (fun M1062_ x65_ => an_e x65_ (fun hM1063_ x66_ => ex_e x66_ (fun z1068_ x67_ => an_e x67_ (fun h1069_ x68_ => an_e x68_ (fun hq_v3_4y x69_ => an_e x69_ (fun hq_v2_4y x70_ => (fun hM_ => ((hk_at hk h15_ e13_).lowD h18_ h607_).elim) x70_)))))))))))))) (fun x57_ => an_e x57_ (fun e625_ x58_ => or_e x58_ (fun x59_ => an_e x59_ (fun h1070_ x60_ => ex_e x60_ (fun z1071_ x61_ => an_e x61_ (fun h1072_ x62_ => ex_e x62_ (fun z1073_ x63_ => an_e x63_ (fun h1074_ x64_ => ex_e x64_ (fun j1077_ x65_ => an_e x65_ (fun h1078_ x66_ => ex_e x66_ (fun M1075_ x67_ => an_e x67_ (fun hM1076_ x68_ => ex_e x68_ (fun z1081_ x69_ => an_e x69_ (fun h1082_ x70_ => an_e x70_ (fun hq_v3_4y x71_ => an_e x71_ (fun hq_v2_4y x72_ => (fun hM_ => ((hk_at hk h15_ e13_).lowD h18_ h607_).elim) x72_)))))))))))))) (fun x59_ => an_e x59_ (fun h1070_ x60_ => ex_e x60_ (fun z1083_ x61_ => an_e x61_ (fun h1084_ x62_ => ex_e x62_ (fun j1087_ x63_ => an_e x63_ (fun h1088_ x64_ => ex_e x64_ (fun M1085_ x65_ => an_e x65_ (fun hM1086_ x66_ => ex_e x66_ (fun z1091_ x67_ => an_e x67_ (fun h1092_ x68_ => an_e x68_ (fun hq_v3_4y x69_ => an_e x69_ (fun hq_v2_4y x70_ => (fun hM_ => ((hk_at hk h15_ e13_).lowD h18_ h607_).elim) x70_))))))))))))))))))))))))))))))))))))))))))))))))))))) (fun x18_ => an_e x18_ (fun h607_ x19_ => or_e x19_ (fun x20_ => an_e x20_ (fun h1093_ x21_ => or_e x21_ (fun x22_ => an_e x22_ (fun h1094_ x23_ => ex_e x23_ (fun j1097_ x24_ => an_e x24_ (fun h1098_ x25_ => ex_e x25_ (fun M1095_ x26_ => an_e x26_ (fun hM1096_ x27_ => ex_e x27_ (fun z1101_ x28_ => an_e x28_ (fun h1102_ x29_ => ex_e x29_ (fun z1103_ x30_ => an_e x30_ (fun h1104_ x31_ => an_e x31_ (fun hq_v3_4y x32_ => an_e x32_ (fun hq_v2_4y x33_ => (fun hM_ => wk_p90 ((hk_at hk h15_ e13_).low h18_) hv0_4 hv1_4 hv2_4 h15_ e13_ h17_ h18_ h607_ h1093_ h1094_ h1098_ hM1096_ h1102_ h1104_ hq_v3_4y hq_v2_4y hM_) x33_)))))))))))) (fun x22_ => an_e x22_ (fun h1094_ x23_ => ex_e x23_ (fun j1107_ x24_ => an_e x24_ (fun h1108_ x25_ => ex_e x25_ (fun z1105_ x26_ => an_e x26_ (fun e1106_ x27_ => ex_e x27_ (fun j1111_ x28_ => an_e x28_ (fun h1112_ x29_ => ex_e x29_ (fun M1109_ x30_ => an_e x30_ (fun hM1110_ x31_ => ex_e x31_ (fun z1115_ x32_ => an_e x32_ (fun h1116_ x33_ => ex_e x33_ (fun z1117_ x34_ => an_e x34_ (fun h1118_ x35_ => an_e x35_ (fun hq_v3_4y x36_ => an_e x36_ (fun hq_v2_4y x37_ => (fun hM_ => wk_p91 ((hk_at hk h15_ e13_).low h18_) hv0_4 hv1_4 hv2_4 h15_ e13_ h17_ h18_ h607_ h1093_ h1094_ h1108_ e1106_ h1112_ hM1110_ h1116_ h1118_ hq_v3_4y hq_v2_4y hM_) x37_)))))))))))))))))) (fun x20_ => an_e x20_ (fun h1093_ x21_ => ex_e x21_ (fun j1121_ x22_ => an_e x22_ (fun h1122_ x23_ => ex_e x23_ (fun M1119_ x24_ => an_e x24_ (fun hM1120_ x25_ => ex_e x25_ (fun z1125_ x26_ => an_e x26_ (fun h1126_ x27_ => ex_e x27_ (fun z1127_ x28_ => an_e x28_ (fun h1128_ x29_ => an_e x29_ (fun hq_v3_4y x30_ => an_e x30_ (fun hq_v2_4y x31_ => (fun hM_ => wk_p92 ((hk_at hk h15_ e13_).low h18_) hv0_4 hv1_4 hv2_4 h15_ e13_ h17_ h18_ h607_ h1093_ h1122_ hM1120_ h1126_ h1128_ hq_v3_4y hq_v2_4y hM_) x31_)))))))))))))))))))))))))))))))
theorem fr_eq {S : rf → Nat → Prop} {M M1 M2 : mM} (h : FR S M M1) (e : M2 = M1) : FR S M M2 := by rw [e]; exact h
theorem wk_fr {b w b2 : Nat} {Mz : mM} {v3_4 v2_4 v3_4y v2_4y : Int32} {M_4 M_4y : mM} (h : ST_X1_work_4 b w b2 Mz v3_4 v2_4 M_4 v3_4y v2_4y M_4y) : FR (S_c_X1_work b w b2) Mz M_4y := by
  have x0_ := h
  unfold ST_X1_work_4 at x0_
  exact an_e x0_ (fun hv0_4 x1_ => an_e x1_ (fun hv1_4 x2_ => an_e x2_ (fun hv2_4 x3_ => an_e x3_ (fun hI_4 x4_ => an_e x4_ (fun hF_4 x5_ => ex_e x5_ (fun z2_ x6_ => an_e x6_ (fun e3_ x7_ => an_e x7_ (fun h4_ x8_ => an_e x8_ (fun h8_ x9_ => ex_e x9_ (fun j14_ x10_ => an_e x10_ (fun h15_ x11_ => ex_e x11_ (fun z12_ x12_ => an_e x12_ (fun e13_ x13_ => ex_e x13_ (fun z16_ x14_ => an_e x14_ (fun h17_ x15_ => or_e x15_ (fun x16_ => an_e x16_ (fun h18_ x17_ => or_e x17_ (fun x18_ => an_e x18_ (fun h19_ x19_ => or_e x19_ (fun x20_ => an_e x20_ (fun h20_ x21_ => or_e x21_ (fun x22_ => an_e x22_ (fun h21_ x23_ => ex_e x23_ (fun z22_ x24_ => an_e x24_ (fun h23_ x25_ => an_e x25_ (fun hq_v3_4y x26_ => an_e x26_ (fun hq_v2_4y x27_ => (fun hM_ => fr_eq hF_4 hM_) x27_)))))) (fun x22_ => an_e x22_ (fun h21_ x23_ => ex_e x23_ (fun z24_ x24_ => an_e x24_ (fun h25_ x25_ => ex_e x25_ (fun z26_ x26_ => an_e x26_ (fun h27_ x27_ => ex_e x27_ (fun j30_ x28_ => an_e x28_ (fun h31_ x29_ => ex_e x29_ (fun z28_ x30_ => an_e x30_ (fun e29_ x31_ => ex_e x31_ (fun j34_ x32_ => an_e x32_ (fun h35_ x33_ => ex_e x33_ (fun z32_ x34_ => an_e x34_ (fun e33_ x35_ => ex_e x35_ (fun z36_ x36_ => an_e x36_ (fun h37_ x37_ => or_e x37_ (fun x38_ => an_e x38_ (fun e38_ x39_ => ex_e x39_ (fun z39_ x40_ => an_e x40_ (fun h40_ x41_ => ex_e x41_ (fun z41_ x42_ => an_e x42_ (fun h42_ x43_ => ex_e x43_ (fun j45_ x44_ => an_e x44_ (fun h46_ x45_ => ex_e x45_ (fun M43_ x46_ => an_e x46_ (fun hM44_ x47_ => ex_e x47_ (fun z49_ x48_ => an_e x48_ (fun h50_ x49_ => an_e x49_ (fun hq_v3_4y x50_ => an_e x50_ (fun hq_v2_4y x51_ => (fun hM_ => fr_eq (FR.put hF_4 hM44_ (Or.inl ⟨rfl, rfl, rfl⟩)) hM_) x51_)))))))))))))) (fun x38_ => or_e x38_ (fun x39_ => an_e x39_ (fun e38_ x40_ => ex_e x40_ (fun z51_ x41_ => an_e x41_ (fun h52_ x42_ => ex_e x42_ (fun z53_ x43_ => an_e x43_ (fun h54_ x44_ => ex_e x44_ (fun j57_ x45_ => an_e x45_ (fun h58_ x46_ => ex_e x46_ (fun M55_ x47_ => an_e x47_ (fun hM56_ x48_ => ex_e x48_ (fun z61_ x49_ => an_e x49_ (fun h62_ x50_ => an_e x50_ (fun hq_v3_4y x51_ => an_e x51_ (fun hq_v2_4y x52_ => (fun hM_ => fr_eq (FR.put hF_4 hM56_ (Or.inl ⟨rfl, rfl, rfl⟩)) hM_) x52_)))))))))))))) (fun x39_ => or_e x39_ (fun x40_ => an_e x40_ (fun e38_ x41_ => or_e x41_ (fun x42_ => an_e x42_ (fun h63_ x43_ => ex_e x43_ (fun z64_ x44_ => an_e x44_ (fun h65_ x45_ => ex_e x45_ (fun z66_ x46_ => an_e x46_ (fun h67_ x47_ => ex_e x47_ (fun j70_ x48_ => an_e x48_ (fun h71_ x49_ => ex_e x49_ (fun M68_ x50_ => an_e x50_ (fun hM69_ x51_ => ex_e x51_ (fun z74_ x52_ => an_e x52_ (fun h75_ x53_ => an_e x53_ (fun hq_v3_4y x54_ => an_e x54_ (fun hq_v2_4y x55_ => (fun hM_ => fr_eq (FR.put hF_4 hM69_ (Or.inl ⟨rfl, rfl, rfl⟩)) hM_) x55_)))))))))))))) (fun x42_ => an_e x42_ (fun h63_ x43_ => ex_e x43_ (fun z76_ x44_ => an_e x44_ (fun h77_ x45_ => ex_e x45_ (fun j80_ x46_ => an_e x46_ (fun h81_ x47_ => ex_e x47_ (fun M78_ x48_ => an_e x48_ (fun hM79_ x49_ => ex_e x49_ (fun z84_ x50_ => an_e x50_ (fun h85_ x51_ => an_e x51_ (fun hq_v3_4y x52_ => an_e x52_ (fun hq_v2_4y x53_ => (fun hM_ => fr_eq (FR.put hF_4 hM79_ (Or.inl ⟨rfl, rfl, rfl⟩)) hM_) x53_)))))))))))))) (fun x40_ => or_e x40_ (fun x41_ => an_e x41_ (fun e38_ x42_ => ex_e x42_ (fun z86_ x43_ => an_e x43_ (fun h87_ x44_ => ex_e x44_ (fun z88_ x45_ => an_e x45_ (fun h89_ x46_ => ex_e x46_ (fun j92_ x47_ => an_e x47_ (fun h93_ x48_ => ex_e x48_ (fun M90_ x49_ => an_e x49_ (fun hM91_ x50_ => ex_e x50_ (fun z96_ x51_ => an_e x51_ (fun h97_ x52_ => an_e x52_ (fun hq_v3_4y x53_ => an_e x53_ (fun hq_v2_4y x54_ => (fun hM_ => fr_eq (FR.put hF_4 hM91_ (Or.inl ⟨rfl, rfl, rfl⟩)) hM_) x54_)))))))))))))) (fun x41_ => or_e x41_ (fun x42_ => an_e x42_ (fun e38_ x43_ => or_e x43_ (fun x44_ => an_e x44_ (fun h98_ x45_ => ex_e x45_ (fun z99_ x46_ => an_e x46_ (fun h100_ x47_ => ex_e x47_ (fun z101_ x48_ => an_e x48_ (fun h102_ x49_ => ex_e x49_ (fun j105_ x50_ => an_e x50_ (fun h106_ x51_ => ex_e x51_ (fun M103_ x52_ => an_e x52_ (fun hM104_ x53_ => ex_e x53_ (fun z109_ x54_ => an_e x54_ (fun h110_ x55_ => an_e x55_ (fun hq_v3_4y x56_ => an_e x56_ (fun hq_v2_4y x57_ => (fun hM_ => fr_eq (FR.put hF_4 hM104_ (Or.inl ⟨rfl, rfl, rfl⟩)) hM_) x57_)))))))))))))) (fun x44_ => an_e x44_ (fun h98_ x45_ => ex_e x45_ (fun z111_ x46_ => an_e x46_ (fun h112_ x47_ => ex_e x47_ (fun j115_ x48_ => an_e x48_ (fun h116_ x49_ => ex_e x49_ (fun M113_ x50_ => an_e x50_ (fun hM114_ x51_ => ex_e x51_ (fun z119_ x52_ => an_e x52_ (fun h120_ x53_ => an_e x53_ (fun hq_v3_4y x54_ => an_e x54_ (fun hq_v2_4y x55_ => (fun hM_ => fr_eq (FR.put hF_4 hM114_ (Or.inl ⟨rfl, rfl, rfl⟩)) hM_) x55_)))))))))))))) (fun x42_ => or_e x42_ (fun x43_ => an_e x43_ (fun e38_ x44_ => or_e x44_ (fun x45_ => an_e x45_ (fun h121_ x46_ => ex_e x46_ (fun z122_ x47_ => an_e x47_ (fun h123_ x48_ => ex_e x48_ (fun z124_ x49_ => an_e x49_ (fun h125_ x50_ => ex_e x50_ (fun j128_ x51_ => an_e x51_ (fun h129_ x52_ => ex_e x52_ (fun M126_ x53_ => an_e x53_ (fun hM127_ x54_ => ex_e x54_ (fun z132_ x55_ => an_e x55_ (fun h133_ x56_ => an_e x56_ (fun hq_v3_4y x57_ => an_e x57_ (fun hq_v2_4y x58_ => (fun hM_ => fr_eq (FR.put hF_4 hM127_ (Or.inl ⟨rfl, rfl, rfl⟩)) hM_) x58_)))))))))))))) (fun x45_ => an_e x45_ (fun h121_ x46_ => ex_e x46_ (fun z134_ x47_ => an_e x47_ (fun h135_ x48_ => ex_e x48_ (fun j138_ x49_ => an_e x49_ (fun h139_ x50_ => ex_e x50_ (fun M136_ x51_ => an_e x51_ (fun hM137_ x52_ => ex_e x52_ (fun z142_ x53_ => an_e x53_ (fun h143_ x54_ => an_e x54_ (fun hq_v3_4y x55_ => an_e x55_ (fun hq_v2_4y x56_ => (fun hM_ => fr_eq (FR.put hF_4 hM137_ (Or.inl ⟨rfl, rfl, rfl⟩)) hM_) x56_)))))))))))))) (fun x43_ => or_e x43_ (fun x44_ => an_e x44_ (fun e38_ x45_ => or_e x45_ (fun x46_ => an_e x46_ (fun h144_ x47_ => ex_e x47_ (fun z145_ x48_ => an_e x48_ (fun h146_ x49_ => ex_e x49_ (fun z147_ x50_ => an_e x50_ (fun h148_ x51_ => ex_e x51_ (fun j151_ x52_ => an_e x52_ (fun h152_ x53_ => ex_e x53_ (fun M149_ x54_ => an_e x54_ (fun hM150_ x55_ => ex_e x55_ (fun z155_ x56_ => an_e x56_ (fun h156_ x57_ => an_e x57_ (fun hq_v3_4y x58_ => an_e x58_ (fun hq_v2_4y x59_ => (fun hM_ => fr_eq (FR.put hF_4 hM150_ (Or.inl ⟨rfl, rfl, rfl⟩)) hM_) x59_)))))))))))))) (fun x46_ => an_e x46_ (fun h144_ x47_ => ex_e x47_ (fun z157_ x48_ => an_e x48_ (fun h158_ x49_ => ex_e x49_ (fun j161_ x50_ => an_e x50_ (fun h162_ x51_ => ex_e x51_ (fun M159_ x52_ => an_e x52_ (fun hM160_ x53_ => ex_e x53_ (fun z165_ x54_ => an_e x54_ (fun h166_ x55_ => an_e x55_ (fun hq_v3_4y x56_ => an_e x56_ (fun hq_v2_4y x57_ => (fun hM_ => fr_eq (FR.put hF_4 hM160_ (Or.inl ⟨rfl, rfl, rfl⟩)) hM_) x57_)))))))))))))) (fun x44_ => or_e x44_ (fun x45_ => an_e x45_ (fun e38_ x46_ => or_e x46_ (fun x47_ => an_e x47_ (fun h167_ x48_ => ex_e x48_ (fun z168_ x49_ => an_e x49_ (fun h169_ x50_ => ex_e x50_ (fun z170_ x51_ => an_e x51_ (fun h171_ x52_ => ex_e x52_ (fun j174_ x53_ => an_e x53_ (fun h175_ x54_ => ex_e x54_ (fun M172_ x55_ => an_e x55_ (fun hM173_ x56_ => ex_e x56_ (fun z178_ x57_ => an_e x57_ (fun h179_ x58_ => an_e x58_ (fun hq_v3_4y x59_ => an_e x59_ (fun hq_v2_4y x60_ => (fun hM_ => fr_eq (FR.put hF_4 hM173_ (Or.inl ⟨rfl, rfl, rfl⟩)) hM_) x60_)))))))))))))) (fun x47_ => an_e x47_ (fun h167_ x48_ => ex_e x48_ (fun z180_ x49_ => an_e x49_ (fun h181_ x50_ => ex_e x50_ (fun j184_ x51_ => an_e x51_ (fun h185_ x52_ => ex_e x52_ (fun M182_ x53_ => an_e x53_ (fun hM183_ x54_ => ex_e x54_ (fun z188_ x55_ => an_e x55_ (fun h189_ x56_ => an_e x56_ (fun hq_v3_4y x57_ => an_e x57_ (fun hq_v2_4y x58_ => (fun hM_ => fr_eq (FR.put hF_4 hM183_ (Or.inl ⟨rfl, rfl, rfl⟩)) hM_) x58_)))))))))))))) (fun x45_ => or_e x45_ (fun x46_ => an_e x46_ (fun e38_ x47_ => or_e x47_ (fun x48_ => an_e x48_ (fun h190_ x49_ => ex_e x49_ (fun z191_ x50_ => an_e x50_ (fun h192_ x51_ => ex_e x51_ (fun z193_ x52_ => an_e x52_ (fun h194_ x53_ => ex_e x53_ (fun j197_ x54_ => an_e x54_ (fun h198_ x55_ => ex_e x55_ (fun M195_ x56_ => an_e x56_ (fun hM196_ x57_ => ex_e x57_ (fun z201_ x58_ => an_e x58_ (fun h202_ x59_ => an_e x59_ (fun hq_v3_4y x60_ => an_e x60_ (fun hq_v2_4y x61_ => (fun hM_ => fr_eq (FR.put hF_4 hM196_ (Or.inl ⟨rfl, rfl, rfl⟩)) hM_) x61_)))))))))))))) (fun x48_ => an_e x48_ (fun h190_ x49_ => ex_e x49_ (fun z203_ x50_ => an_e x50_ (fun h204_ x51_ => ex_e x51_ (fun j207_ x52_ => an_e x52_ (fun h208_ x53_ => ex_e x53_ (fun M205_ x54_ => an_e x54_ (fun hM206_ x55_ => ex_e x55_ (fun z211_ x56_ => an_e x56_ (fun h212_ x57_ => an_e x57_ (fun hq_v3_4y x58_ => an_e x58_ (fun hq_v2_4y x59_ => (fun hM_ => fr_eq (FR.put hF_4 hM206_ (Or.inl ⟨rfl, rfl, rfl⟩)) hM_) x59_)))))))))))))) (fun x46_ => or_e x46_ (fun x47_ => an_e x47_ (fun e38_ x48_ => or_e x48_ (fun x49_ => an_e x49_ (fun h213_ x50_ => ex_e x50_ (fun z214_ x51_ => an_e x51_ (fun h215_ x52_ => ex_e x52_ (fun z216_ x53_ => an_e x53_ (fun h217_ x54_ => ex_e x54_ (fun j220_ x55_ => an_e x55_ (fun h221_ x56_ => ex_e x56_ (fun M218_ x57_ => an_e x57_ (fun hM219_ x58_ => ex_e x58_ (fun z224_ x59_ => an_e x59_ (fun h225_ x60_ => an_e x60_ (fun hq_v3_4y x61_ => an_e x61_ (fun hq_v2_4y x62_ => (fun hM_ => fr_eq (FR.put hF_4 hM219_ (Or.inl ⟨rfl, rfl, rfl⟩)) hM_) x62_)))))))))))))) (fun x49_ => an_e x49_ (fun h213_ x50_ => ex_e x50_ (fun z226_ x51_ => an_e x51_ (fun h227_ x52_ => ex_e x52_ (fun j230_ x53_ => an_e x53_ (fun h231_ x54_ => ex_e x54_ (fun M228_ x55_ => an_e x55_ (fun hM229_ x56_ => ex_e x56_ (fun z234_ x57_ => an_e x57_ (fun h235_ x58_ => an_e x58_ (fun hq_v3_4y x59_ => an_e x59_ (fun hq_v2_4y x60_ => (fun hM_ => fr_eq (FR.put hF_4 hM229_ (Or.inl ⟨rfl, rfl, rfl⟩)) hM_) x60_)))))))))))))) (fun x47_ => or_e x47_ (fun x48_ => an_e x48_ (fun e38_ x49_ => or_e x49_ (fun x50_ => an_e x50_ (fun h236_ x51_ => ex_e x51_ (fun z237_ x52_ => an_e x52_ (fun h238_ x53_ => ex_e x53_ (fun z239_ x54_ => an_e x54_ (fun h240_ x55_ => ex_e x55_ (fun j243_ x56_ => an_e x56_ (fun h244_ x57_ => ex_e x57_ (fun M241_ x58_ => an_e x58_ (fun hM242_ x59_ => ex_e x59_ (fun z247_ x60_ => an_e x60_ (fun h248_ x61_ => an_e x61_ (fun hq_v3_4y x62_ => an_e x62_ (fun hq_v2_4y x63_ => (fun hM_ => fr_eq (FR.put hF_4 hM242_ (Or.inl ⟨rfl, rfl, rfl⟩)) hM_) x63_)))))))))))))) (fun x50_ => an_e x50_ (fun h236_ x51_ => ex_e x51_ (fun z249_ x52_ => an_e x52_ (fun h250_ x53_ => ex_e x53_ (fun j253_ x54_ => an_e x54_ (fun h254_ x55_ => ex_e x55_ (fun M251_ x56_ => an_e x56_ (fun hM252_ x57_ => ex_e x57_ (fun z257_ x58_ => an_e x58_ (fun h258_ x59_ => an_e x59_ (fun hq_v3_4y x60_ => an_e x60_ (fun hq_v2_4y x61_ => (fun hM_ => fr_eq (FR.put hF_4 hM252_ (Or.inl ⟨rfl, rfl, rfl⟩)) hM_) x61_)))))))))))))) (fun x48_ => or_e x48_ (fun x49_ => an_e x49_ (fun e38_ x50_ => or_e x50_ (fun x51_ => an_e x51_ (fun h259_ x52_ => ex_e x52_ (fun z260_ x53_ => an_e x53_ (fun h261_ x54_ => ex_e x54_ (fun z262_ x55_ => an_e x55_ (fun h263_ x56_ => ex_e x56_ (fun j266_ x57_ => an_e x57_ (fun h267_ x58_ => ex_e x58_ (fun M264_ x59_ => an_e x59_ (fun hM265_ x60_ => ex_e x60_ (fun z270_ x61_ => an_e x61_ (fun h271_ x62_ => an_e x62_ (fun hq_v3_4y x63_ => an_e x63_ (fun hq_v2_4y x64_ => (fun hM_ => fr_eq (FR.put hF_4 hM265_ (Or.inl ⟨rfl, rfl, rfl⟩)) hM_) x64_)))))))))))))) (fun x51_ => an_e x51_ (fun h259_ x52_ => ex_e x52_ (fun z272_ x53_ => an_e x53_ (fun h273_ x54_ => ex_e x54_ (fun j276_ x55_ => an_e x55_ (fun h277_ x56_ => ex_e x56_ (fun M274_ x57_ => an_e x57_ (fun hM275_ x58_ => ex_e x58_ (fun z280_ x59_ => an_e x59_ (fun h281_ x60_ => an_e x60_ (fun hq_v3_4y x61_ => an_e x61_ (fun hq_v2_4y x62_ => (fun hM_ => fr_eq (FR.put hF_4 hM275_ (Or.inl ⟨rfl, rfl, rfl⟩)) hM_) x62_)))))))))))))) (fun x49_ => or_e x49_ (fun x50_ => an_e x50_ (fun e38_ x51_ => or_e x51_ (fun x52_ => an_e x52_ (fun h282_ x53_ => ex_e x53_ (fun z283_ x54_ => an_e x54_ (fun h284_ x55_ => ex_e x55_ (fun z285_ x56_ => an_e x56_ (fun h286_ x57_ => ex_e x57_ (fun j289_ x58_ => an_e x58_ (fun h290_ x59_ => ex_e x59_ (fun M287_ x60_ => an_e x60_ (fun hM288_ x61_ => ex_e x61_ (fun z293_ x62_ => an_e x62_ (fun h294_ x63_ => an_e x63_ (fun hq_v3_4y x64_ => an_e x64_ (fun hq_v2_4y x65_ => (fun hM_ => fr_eq (FR.put hF_4 hM288_ (Or.inl ⟨rfl, rfl, rfl⟩)) hM_) x65_)))))))))))))) (fun x52_ => an_e x52_ (fun h282_ x53_ => ex_e x53_ (fun z295_ x54_ => an_e x54_ (fun h296_ x55_ => ex_e x55_ (fun j299_ x56_ => an_e x56_ (fun h300_ x57_ => ex_e x57_ (fun M297_ x58_ => an_e x58_ (fun hM298_ x59_ => ex_e x59_ (fun z303_ x60_ => an_e x60_ (fun h304_ x61_ => an_e x61_ (fun hq_v3_4y x62_ => an_e x62_ (fun hq_v2_4y x63_ => (fun hM_ => fr_eq (FR.put hF_4 hM298_ (Or.inl ⟨rfl, rfl, rfl⟩)) hM_) x63_)))))))))))))) (fun x50_ => or_e x50_ (fun x51_ => an_e x51_ (fun e38_ x52_ => or_e x52_ (fun x53_ => an_e x53_ (fun h305_ x54_ => ex_e x54_ (fun z306_ x55_ => an_e x55_ (fun h307_ x56_ => ex_e x56_ (fun z308_ x57_ => an_e x57_ (fun h309_ x58_ => ex_e x58_ (fun j312_ x59_ => an_e x59_ (fun h313_ x60_ => ex_e x60_ (fun M310_ x61_ => an_e x61_ (fun hM311_ x62_ => ex_e x62_ (fun z316_ x63_ => an_e x63_ (fun h317_ x64_ => an_e x64_ (fun hq_v3_4y x65_ => an_e x65_ (fun hq_v2_4y x66_ => (fun hM_ => fr_eq (FR.put hF_4 hM311_ (Or.inl ⟨rfl, rfl, rfl⟩)) hM_) x66_)))))))))))))) (fun x53_ => an_e x53_ (fun h305_ x54_ => ex_e x54_ (fun z318_ x55_ => an_e x55_ (fun h319_ x56_ => ex_e x56_ (fun j322_ x57_ => an_e x57_ (fun h323_ x58_ => ex_e x58_ (fun M320_ x59_ => an_e x59_ (fun hM321_ x60_ => ex_e x60_ (fun z326_ x61_ => an_e x61_ (fun h327_ x62_ => an_e x62_ (fun hq_v3_4y x63_ => an_e x63_ (fun hq_v2_4y x64_ => (fun hM_ => fr_eq (FR.put hF_4 hM321_ (Or.inl ⟨rfl, rfl, rfl⟩)) hM_) x64_)))))))))))))) (fun x51_ => or_e x51_ (fun x52_ => an_e x52_ (fun e38_ x53_ => or_e x53_ (fun x54_ => an_e x54_ (fun h328_ x55_ => ex_e x55_ (fun z329_ x56_ => an_e x56_ (fun h330_ x57_ => ex_e x57_ (fun z331_ x58_ => an_e x58_ (fun h332_ x59_ => ex_e x59_ (fun j335_ x60_ => an_e x60_ (fun h336_ x61_ => ex_e x61_ (fun M333_ x62_ => an_e x62_ (fun hM334_ x63_ => ex_e x63_ (fun z339_ x64_ => an_e x64_ (fun h340_ x65_ => an_e x65_ (fun hq_v3_4y x66_ => an_e x66_ (fun hq_v2_4y x67_ => (fun hM_ => fr_eq (FR.put hF_4 hM334_ (Or.inl ⟨rfl, rfl, rfl⟩)) hM_) x67_)))))))))))))) (fun x54_ => an_e x54_ (fun h328_ x55_ => ex_e x55_ (fun z341_ x56_ => an_e x56_ (fun h342_ x57_ => ex_e x57_ (fun j345_ x58_ => an_e x58_ (fun h346_ x59_ => ex_e x59_ (fun M343_ x60_ => an_e x60_ (fun hM344_ x61_ => ex_e x61_ (fun z349_ x62_ => an_e x62_ (fun h350_ x63_ => an_e x63_ (fun hq_v3_4y x64_ => an_e x64_ (fun hq_v2_4y x65_ => (fun hM_ => fr_eq (FR.put hF_4 hM344_ (Or.inl ⟨rfl, rfl, rfl⟩)) hM_) x65_)))))))))))))) (fun x52_ => or_e x52_ (fun x53_ => an_e x53_ (fun e38_ x54_ => or_e x54_ (fun x55_ => an_e x55_ (fun h351_ x56_ => ex_e x56_ (fun z352_ x57_ => an_e x57_ (fun h353_ x58_ => ex_e x58_ (fun z354_ x59_ => an_e x59_ (fun h355_ x60_ => ex_e x60_ (fun j358_ x61_ => an_e x61_ (fun h359_ x62_ => ex_e x62_ (fun M356_ x63_ => an_e x63_ (fun hM357_ x64_ => ex_e x64_ (fun z362_ x65_ => an_e x65_ (fun h363_ x66_ => an_e x66_ (fun hq_v3_4y x67_ => an_e x67_ (fun hq_v2_4y x68_ => (fun hM_ => fr_eq (FR.put hF_4 hM357_ (Or.inl ⟨rfl, rfl, rfl⟩)) hM_) x68_)))))))))))))) (fun x55_ => an_e x55_ (fun h351_ x56_ => ex_e x56_ (fun z364_ x57_ => an_e x57_ (fun h365_ x58_ => ex_e x58_ (fun j368_ x59_ => an_e x59_ (fun h369_ x60_ => ex_e x60_ (fun M366_ x61_ => an_e x61_ (fun hM367_ x62_ => ex_e x62_ (fun z372_ x63_ => an_e x63_ (fun h373_ x64_ => an_e x64_ (fun hq_v3_4y x65_ => an_e x65_ (fun hq_v2_4y x66_ => (fun hM_ => fr_eq (FR.put hF_4 hM367_ (Or.inl ⟨rfl, rfl, rfl⟩)) hM_) x66_)))))))))))))) (fun x53_ => or_e x53_ (fun x54_ => an_e x54_ (fun e38_ x55_ => or_e x55_ (fun x56_ => an_e x56_ (fun h374_ x57_ => ex_e x57_ (fun z375_ x58_ => an_e x58_ (fun h376_ x59_ => ex_e x59_ (fun z377_ x60_ => an_e x60_ (fun h378_ x61_ => ex_e x61_ (fun j381_ x62_ => an_e x62_ (fun h382_ x63_ => ex_e x63_ (fun M379_ x64_ => an_e x64_ (fun hM380_ x65_ => ex_e x65_ (fun z385_ x66_ => an_e x66_ (fun h386_ x67_ => an_e x67_ (fun hq_v3_4y x68_ => an_e x68_ (fun hq_v2_4y x69_ => (fun hM_ => fr_eq (FR.put hF_4 hM380_ (Or.inl ⟨rfl, rfl, rfl⟩)) hM_) x69_)))))))))))))) (fun x56_ => an_e x56_ (fun h374_ x57_ => ex_e x57_ (fun z387_ x58_ => an_e x58_ (fun h388_ x59_ => ex_e x59_ (fun j391_ x60_ => an_e x60_ (fun h392_ x61_ => ex_e x61_ (fun M389_ x62_ => an_e x62_ (fun hM390_ x63_ => ex_e x63_ (fun z395_ x64_ => an_e x64_ (fun h396_ x65_ => an_e x65_ (fun hq_v3_4y x66_ => an_e x66_ (fun hq_v2_4y x67_ => (fun hM_ => fr_eq (FR.put hF_4 hM390_ (Or.inl ⟨rfl, rfl, rfl⟩)) hM_) x67_)))))))))))))) (fun x54_ => or_e x54_ (fun x55_ => an_e x55_ (fun e38_ x56_ => or_e x56_ (fun x57_ => an_e x57_ (fun h397_ x58_ => ex_e x58_ (fun z398_ x59_ => an_e x59_ (fun h399_ x60_ => ex_e x60_ (fun z400_ x61_ => an_e x61_ (fun h401_ x62_ => ex_e x62_ (fun j404_ x63_ => an_e x63_ (fun h405_ x64_ => ex_e x64_ (fun M402_ x65_ => an_e x65_ (fun hM403_ x66_ => ex_e x66_ (fun z408_ x67_ => an_e x67_ (fun h409_ x68_ => an_e x68_ (fun hq_v3_4y x69_ => an_e x69_ (fun hq_v2_4y x70_ => (fun hM_ => fr_eq (FR.put hF_4 hM403_ (Or.inl ⟨rfl, rfl, rfl⟩)) hM_) x70_)))))))))))))) (fun x57_ => an_e x57_ (fun h397_ x58_ => ex_e x58_ (fun z410_ x59_ => an_e x59_ (fun h411_ x60_ => ex_e x60_ (fun j414_ x61_ => an_e x61_ (fun h415_ x62_ => ex_e x62_ (fun M412_ x63_ => an_e x63_ (fun hM413_ x64_ => ex_e x64_ (fun z418_ x65_ => an_e x65_ (fun h419_ x66_ => an_e x66_ (fun hq_v3_4y x67_ => an_e x67_ (fun hq_v2_4y x68_ => (fun hM_ => fr_eq (FR.put hF_4 hM413_ (Or.inl ⟨rfl, rfl, rfl⟩)) hM_) x68_)))))))))))))) (fun x55_ => or_e x55_ (fun x56_ => an_e x56_ (fun e38_ x57_ => or_e x57_ (fun x58_ => an_e x58_ (fun h420_ x59_ => ex_e x59_ (fun z421_ x60_ => an_e x60_ (fun h422_ x61_ => ex_e x61_ (fun j425_ x62_ => an_e x62_ (fun h426_ x63_ => ex_e x63_ (fun M423_ x64_ => an_e x64_ (fun hM424_ x65_ => ex_e x65_ (fun z429_ x66_ => an_e x66_ (fun h430_ x67_ => an_e x67_ (fun hq_v3_4y x68_ => an_e x68_ (fun hq_v2_4y x69_ => (fun hM_ => fr_eq (FR.put hF_4 hM424_ (Or.inl ⟨rfl, rfl, rfl⟩)) hM_) x69_)))))))))))) (fun x58_ => an_e x58_ (fun h420_ x59_ => ex_e x59_ (fun z431_ x60_ => an_e x60_ (fun h432_ x61_ => ex_e x61_ (fun j435_ x62_ => an_e x62_ (fun h436_ x63_ => ex_e x63_ (fun M433_ x64_ => an_e x64_ (fun hM434_ x65_ => ex_e x65_ (fun z439_ x66_ => an_e x66_ (fun h440_ x67_ => an_e x67_ (fun hq_v3_4y x68_ => an_e x68_ (fun hq_v2_4y x69_ => (fun hM_ => fr_eq (FR.put hF_4 hM434_ (Or.inl ⟨rfl, rfl, rfl⟩)) hM_) x69_)))))))))))))) (fun x56_ => or_e x56_ (fun x57_ => an_e x57_ (fun e38_ x58_ => or_e x58_ (fun x59_ => an_e x59_ (fun h441_ x60_ => ex_e x60_ (fun z442_ x61_ => an_e x61_ (fun h443_ x62_ => ex_e x62_ (fun j446_ x63_ => an_e x63_ (fun h447_ x64_ => ex_e x64_ (fun M444_ x65_ => an_e x65_ (fun hM445_ x66_ => ex_e x66_ (fun z450_ x67_ => an_e x67_ (fun h451_ x68_ => an_e x68_ (fun hq_v3_4y x69_ => an_e x69_ (fun hq_v2_4y x70_ => (fun hM_ => fr_eq (FR.put hF_4 hM445_ (Or.inl ⟨rfl, rfl, rfl⟩)) hM_) x70_)))))))))))) (fun x59_ => an_e x59_ (fun h441_ x60_ => ex_e x60_ (fun z452_ x61_ => an_e x61_ (fun h453_ x62_ => ex_e x62_ (fun j456_ x63_ => an_e x63_ (fun h457_ x64_ => ex_e x64_ (fun M454_ x65_ => an_e x65_ (fun hM455_ x66_ => ex_e x66_ (fun z460_ x67_ => an_e x67_ (fun h461_ x68_ => an_e x68_ (fun hq_v3_4y x69_ => an_e x69_ (fun hq_v2_4y x70_ => (fun hM_ => fr_eq (FR.put hF_4 hM455_ (Or.inl ⟨rfl, rfl, rfl⟩)) hM_) x70_)))))))))))))) (fun x57_ => or_e x57_ (fun x58_ => an_e x58_ (fun e38_ x59_ => or_e x59_ (fun x60_ => an_e x60_ (fun h462_ x61_ => ex_e x61_ (fun z463_ x62_ => an_e x62_ (fun h464_ x63_ => ex_e x63_ (fun j467_ x64_ => an_e x64_ (fun h468_ x65_ => ex_e x65_ (fun M465_ x66_ => an_e x66_ (fun hM466_ x67_ => ex_e x67_ (fun z471_ x68_ => an_e x68_ (fun h472_ x69_ => an_e x69_ (fun hq_v3_4y x70_ => an_e x70_ (fun hq_v2_4y x71_ => (fun hM_ => fr_eq (FR.put hF_4 hM466_ (Or.inl ⟨rfl, rfl, rfl⟩)) hM_) x71_)))))))))))) (fun x60_ => an_e x60_ (fun h462_ x61_ => ex_e x61_ (fun z473_ x62_ => an_e x62_ (fun h474_ x63_ => ex_e x63_ (fun j477_ x64_ => an_e x64_ (fun h478_ x65_ => ex_e x65_ (fun M475_ x66_ => an_e x66_ (fun hM476_ x67_ => ex_e x67_ (fun z481_ x68_ => an_e x68_ (fun h482_ x69_ => an_e x69_ (fun hq_v3_4y x70_ => an_e x70_ (fun hq_v2_4y x71_ => (fun hM_ => fr_eq (FR.put hF_4 hM476_ (Or.inl ⟨rfl, rfl, rfl⟩)) hM_) x71_)))))))))))))) (fun x58_ => an_e x58_ (fun e38_ x59_ => or_e x59_ (fun x60_ => an_e x60_ (fun h483_ x61_ => ex_e x61_ (fun z484_ x62_ => an_e x62_ (fun h485_ x63_ => ex_e x63_ (fun z486_ x64_ => an_e x64_ (fun h487_ x65_ => ex_e x65_ (fun j490_ x66_ => an_e x66_ (fun h491_ x67_ => ex_e x67_ (fun M488_ x68_ => an_e x68_ (fun hM489_ x69_ => ex_e x69_ (fun z494_ x70_ => an_e x70_ (fun h495_ x71_ => an_e x71_ (fun hq_v3_4y x72_ => an_e x72_ (fun hq_v2_4y x73_ => (fun hM_ => fr_eq (FR.put hF_4 hM489_ (Or.inl ⟨rfl, rfl, rfl⟩)) hM_) x73_)))))))))))))) (fun x60_ => an_e x60_ (fun h483_ x61_ => ex_e x61_ (fun z496_ x62_ => an_e x62_ (fun h497_ x63_ => ex_e x63_ (fun j500_ x64_ => an_e x64_ (fun h501_ x65_ => ex_e x65_ (fun M498_ x66_ => an_e x66_ (fun hM499_ x67_ => ex_e x67_ (fun z504_ x68_ => an_e x68_ (fun h505_ x69_ => an_e x69_ (fun hq_v3_4y x70_ => an_e x70_ (fun hq_v2_4y x71_ => (fun hM_ => fr_eq (FR.put hF_4 hM499_ (Or.inl ⟨rfl, rfl, rfl⟩)) hM_) x71_)))))))))))))))))))))))))))))))))))))))))))))))))))) (fun x20_ => an_e x20_ (fun h20_ x21_ => or_e x21_ (fun x22_ => an_e x22_ (fun h506_ x23_ => or_e x23_ (fun x24_ => an_e x24_ (fun h507_ x25_ => ex_e x25_ (fun z508_ x26_ => an_e x26_ (fun h509_ x27_ => an_e x27_ (fun hq_v3_4y x28_ => an_e x28_ (fun hq_v2_4y x29_ => (fun hM_ => fr_eq hF_4 hM_) x29_)))))) (fun x24_ => an_e x24_ (fun h507_ x25_ => ex_e x25_ (fun z510_ x26_ => an_e x26_ (fun h511_ x27_ => ex_e x27_ (fun z512_ x28_ => an_e x28_ (fun h513_ x29_ => ex_e x29_ (fun j516_ x30_ => an_e x30_ (fun h517_ x31_ => ex_e x31_ (fun z514_ x32_ => an_e x32_ (fun e515_ x33_ => ex_e x33_ (fun j520_ x34_ => an_e x34_ (fun h521_ x35_ => ex_e x35_ (fun z518_ x36_ => an_e x36_ (fun e519_ x37_ => ex_e x37_ (fun z522_ x38_ => an_e x38_ (fun h523_ x39_ => or_e x39_ (fun x40_ => an_e x40_ (fun h524_ x41_ => ex_e x41_ (fun z525_ x42_ => an_e x42_ (fun h526_ x43_ => ex_e x43_ (fun z527_ x44_ => an_e x44_ (fun h528_ x45_ => ex_e x45_ (fun j531_ x46_ => an_e x46_ (fun h532_ x47_ => ex_e x47_ (fun M529_ x48_ => an_e x48_ (fun hM530_ x49_ => ex_e x49_ (fun z535_ x50_ => an_e x50_ (fun h536_ x51_ => an_e x51_ (fun hq_v3_4y x52_ => an_e x52_ (fun hq_v2_4y x53_ => (fun hM_ => fr_eq (FR.put hF_4 hM530_ (Or.inl ⟨rfl, rfl, rfl⟩)) hM_) x53_)))))))))))))) (fun x40_ => an_e x40_ (fun h524_ x41_ => ex_e x41_ (fun z537_ x42_ => an_e x42_ (fun h538_ x43_ => ex_e x43_ (fun j541_ x44_ => an_e x44_ (fun h542_ x45_ => ex_e x45_ (fun M539_ x46_ => an_e x46_ (fun hM540_ x47_ => ex_e x47_ (fun z545_ x48_ => an_e x48_ (fun h546_ x49_ => an_e x49_ (fun hq_v3_4y x50_ => an_e x50_ (fun hq_v2_4y x51_ => (fun hM_ => fr_eq (FR.put hF_4 hM540_ (Or.inl ⟨rfl, rfl, rfl⟩)) hM_) x51_)))))))))))))))))))))))))))))) (fun x22_ => an_e x22_ (fun h506_ x23_ => ex_e x23_ (fun z547_ x24_ => an_e x24_ (fun h548_ x25_ => ex_e x25_ (fun z549_ x26_ => an_e x26_ (fun h550_ x27_ => ex_e x27_ (fun z551_ x28_ => an_e x28_ (fun h552_ x29_ => ex_e x29_ (fun j555_ x30_ => an_e x30_ (fun h556_ x31_ => ex_e x31_ (fun z553_ x32_ => an_e x32_ (fun e554_ x33_ => or_e x33_ (fun x34_ => an_e x34_ (fun h557_ x35_ => ex_e x35_ (fun z558_ x36_ => an_e x36_ (fun h559_ x37_ => ex_e x37_ (fun j562_ x38_ => an_e x38_ (fun h563_ x39_ => ex_e x39_ (fun z560_ x40_ => an_e x40_ (fun e561_ x41_ => ex_e x41_ (fun j566_ x42_ => an_e x42_ (fun h567_ x43_ => ex_e x43_ (fun M564_ x44_ => an_e x44_ (fun hM565_ x45_ => ex_e x45_ (fun z570_ x46_ => an_e x46_ (fun h571_ x47_ => an_e x47_ (fun hq_v3_4y x48_ => an_e x48_ (fun hq_v2_4y x49_ => (fun hM_ => fr_eq (FR.put hF_4 hM565_ (Or.inl ⟨rfl, rfl, rfl⟩)) hM_) x49_)))))))))))))))) (fun x34_ => an_e x34_ (fun h557_ x35_ => ex_e x35_ (fun j574_ x36_ => an_e x36_ (fun h575_ x37_ => ex_e x37_ (fun z572_ x38_ => an_e x38_ (fun e573_ x39_ => ex_e x39_ (fun j578_ x40_ => an_e x40_ (fun h579_ x41_ => ex_e x41_ (fun M576_ x42_ => an_e x42_ (fun hM577_ x43_ => ex_e x43_ (fun z582_ x44_ => an_e x44_ (fun h583_ x45_ => an_e x45_ (fun hq_v3_4y x46_ => an_e x46_ (fun hq_v2_4y x47_ => (fun hM_ => fr_eq (FR.put hF_4 hM577_ (Or.inl ⟨rfl, rfl, rfl⟩)) hM_) x47_)))))))))))))))))))))))))))))) (fun x18_ => an_e x18_ (fun h19_ x19_ => or_e x19_ (fun x20_ => an_e x20_ (fun h584_ x21_ => an_e x21_ (fun h585_ x22_ => an_e x22_ (fun h586_ x23_ => ex_e x23_ (fun z587_ x24_ => an_e x24_ (fun h588_ x25_ => an_e x25_ (fun hq_v3_4y x26_ => an_e x26_ (fun hq_v2_4y x27_ => (fun hM_ => fr_eq hF_4 hM_) x27_)))))))) (fun x20_ => an_e x20_ (fun h584_ x21_ => ex_e x21_ (fun z589_ x22_ => an_e x22_ (fun h590_ x23_ => ex_e x23_ (fun z591_ x24_ => an_e x24_ (fun h592_ x25_ => ex_e x25_ (fun j595_ x26_ => an_e x26_ (fun h596_ x27_ => ex_e x27_ (fun z593_ x28_ => an_e x28_ (fun e594_ x29_ => ex_e x29_ (fun z597_ x30_ => an_e x30_ (fun h598_ x31_ => ex_e x31_ (fun j601_ x32_ => an_e x32_ (fun h602_ x33_ => ex_e x33_ (fun M599_ x34_ => an_e x34_ (fun hM600_ x35_ => ex_e x35_ (fun z605_ x36_ => an_e x36_ (fun h606_ x37_ => an_e x37_ (fun hq_v3_4y x38_ => an_e x38_ (fun hq_v2_4y x39_ => (fun hM_ => fr_eq (FR.put hF_4 hM600_ (Or.inl ⟨rfl, rfl, rfl⟩)) hM_) x39_)))))))))))))))))))))))) (fun x16_ => an_e x16_ (fun h18_ x17_ => or_e x17_ (fun x18_ => an_e x18_ (fun h607_ x19_ => an_e x19_ (fun h608_ x20_ => an_e x20_ (fun h609_ x21_ => an_e x21_ (fun h610_ x22_ => ex_e x22_ (fun z611_ x23_ => an_e x23_ (fun h612_ x24_ => ex_e x24_ (fun z613_ x25_ => an_e x25_ (fun h614_ x26_ => ex_e x26_ (fun j617_ x27_ => an_e x27_ (fun h618_ x28_ => ex_e x28_ (fun z615_ x29_ => an_e x29_ (fun e616_ x30_ => ex_e x30_ (fun j621_ x31_ => an_e x31_ (fun h622_ x32_ => ex_e x32_ (fun z619_ x33_ => an_e x33_ (fun e620_ x34_ => ex_e x34_ (fun z623_ x35_ => an_e x35_ (fun h624_ x36_ => or_e x36_ (fun x37_ => an_e x37_ (fun e625_ x38_ => ex_e x38_ (fun z626_ x39_ => an_e x39_ (fun h627_ x40_ => ex_e x40_ (fun z628_ x41_ => an_e x41_ (fun h629_ x42_ => ex_e x42_ (fun j632_ x43_ => an_e x43_ (fun h633_ x44_ => ex_e x44_ (fun M630_ x45_ => an_e x45_ (fun hM631_ x46_ => ex_e x46_ (fun z636_ x47_ => an_e x47_ (fun h637_ x48_ => an_e x48_ (fun hq_v3_4y x49_ => an_e x49_ (fun hq_v2_4y x50_ => (fun hM_ => fr_eq (FR.put hF_4 hM631_ (Or.inl ⟨rfl, rfl, rfl⟩)) hM_) x50_)))))))))))))) (fun x37_ => or_e x37_ (fun x38_ => an_e x38_ (fun e625_ x39_ => ex_e x39_ (fun z638_ x40_ => an_e x40_ (fun h639_ x41_ => ex_e x41_ (fun z640_ x42_ => an_e x42_ (fun h641_ x43_ => ex_e x43_ (fun j644_ x44_ => an_e x44_ (fun h645_ x45_ => ex_e x45_ (fun M642_ x46_ => an_e x46_ (fun hM643_ x47_ => ex_e x47_ (fun z648_ x48_ => an_e x48_ (fun h649_ x49_ => an_e x49_ (fun hq_v3_4y x50_ => an_e x50_ (fun hq_v2_4y x51_ => (fun hM_ => fr_eq (FR.put hF_4 hM643_ (Or.inl ⟨rfl, rfl, rfl⟩)) hM_) x51_)))))))))))))) (fun x38_ => or_e x38_ (fun x39_ => an_e x39_ (fun e625_ x40_ => or_e x40_ (fun x41_ => an_e x41_ (fun h650_ x42_ => ex_e x42_ (fun z651_ x43_ => an_e x43_ (fun h652_ x44_ => ex_e x44_ (fun z653_ x45_ => an_e x45_ (fun h654_ x46_ => ex_e x46_ (fun j657_ x47_ => an_e x47_ (fun h658_ x48_ => ex_e x48_ (fun M655_ x49_ => an_e x49_ (fun hM656_ x50_ => ex_e x50_ (fun z661_ x51_ => an_e x51_ (fun h662_ x52_ => an_e x52_ (fun hq_v3_4y x53_ => an_e x53_ (fun hq_v2_4y x54_ => (fun hM_ => fr_eq (FR.put hF_4 hM656_ (Or.inl ⟨rfl, rfl, rfl⟩)) hM_) x54_)))))))))))))) (fun x41_ => an_e x41_ (fun h650_ x42_ => ex_e x42_ (fun z663_ x43_ => an_e x43_ (fun h664_ x44_ => ex_e x44_ (fun j667_ x45_ => an_e x45_ (fun h668_ x46_ => ex_e x46_ (fun M665_ x47_ => an_e x47_ (fun hM666_ x48_ => ex_e x48_ (fun z671_ x49_ => an_e x49_ (fun h672_ x50_ => an_e x50_ (fun hq_v3_4y x51_ => an_e x51_ (fun hq_v2_4y x52_ => (fun hM_ => fr_eq (FR.put hF_4 hM666_ (Or.inl ⟨rfl, rfl, rfl⟩)) hM_) x52_)))))))))))))) (fun x39_ => or_e x39_ (fun x40_ => an_e x40_ (fun e625_ x41_ => ex_e x41_ (fun z673_ x42_ => an_e x42_ (fun h674_ x43_ => ex_e x43_ (fun z675_ x44_ => an_e x44_ (fun h676_ x45_ => ex_e x45_ (fun j679_ x46_ => an_e x46_ (fun h680_ x47_ => ex_e x47_ (fun M677_ x48_ => an_e x48_ (fun hM678_ x49_ => ex_e x49_ (fun z683_ x50_ => an_e x50_ (fun h684_ x51_ => an_e x51_ (fun hq_v3_4y x52_ => an_e x52_ (fun hq_v2_4y x53_ => (fun hM_ => fr_eq (FR.put hF_4 hM678_ (Or.inl ⟨rfl, rfl, rfl⟩)) hM_) x53_)))))))))))))) (fun x40_ => or_e x40_ (fun x41_ => an_e x41_ (fun e625_ x42_ => or_e x42_ (fun x43_ => an_e x43_ (fun h685_ x44_ => ex_e x44_ (fun z686_ x45_ => an_e x45_ (fun h687_ x46_ => ex_e x46_ (fun z688_ x47_ => an_e x47_ (fun h689_ x48_ => ex_e x48_ (fun j692_ x49_ => an_e x49_ (fun h693_ x50_ => ex_e x50_ (fun M690_ x51_ => an_e x51_ (fun hM691_ x52_ => ex_e x52_ (fun z696_ x53_ => an_e x53_ (fun h697_ x54_ => an_e x54_ (fun hq_v3_4y x55_ => an_e x55_ (fun hq_v2_4y x56_ => (fun hM_ => fr_eq (FR.put hF_4 hM691_ (Or.inl ⟨rfl, rfl, rfl⟩)) hM_) x56_)))))))))))))) (fun x43_ => an_e x43_ (fun h685_ x44_ => ex_e x44_ (fun z698_ x45_ => an_e x45_ (fun h699_ x46_ => ex_e x46_ (fun j702_ x47_ => an_e x47_ (fun h703_ x48_ => ex_e x48_ (fun M700_ x49_ => an_e x49_ (fun hM701_ x50_ => ex_e x50_ (fun z706_ x51_ => an_e x51_ (fun h707_ x52_ => an_e x52_ (fun hq_v3_4y x53_ => an_e x53_ (fun hq_v2_4y x54_ => (fun hM_ => fr_eq (FR.put hF_4 hM701_ (Or.inl ⟨rfl, rfl, rfl⟩)) hM_) x54_)))))))))))))) (fun x41_ => or_e x41_ (fun x42_ => an_e x42_ (fun e625_ x43_ => or_e x43_ (fun x44_ => an_e x44_ (fun h708_ x45_ => ex_e x45_ (fun z709_ x46_ => an_e x46_ (fun h710_ x47_ => ex_e x47_ (fun z711_ x48_ => an_e x48_ (fun h712_ x49_ => ex_e x49_ (fun j715_ x50_ => an_e x50_ (fun h716_ x51_ => ex_e x51_ (fun M713_ x52_ => an_e x52_ (fun hM714_ x53_ => ex_e x53_ (fun z719_ x54_ => an_e x54_ (fun h720_ x55_ => an_e x55_ (fun hq_v3_4y x56_ => an_e x56_ (fun hq_v2_4y x57_ => (fun hM_ => fr_eq (FR.put hF_4 hM714_ (Or.inl ⟨rfl, rfl, rfl⟩)) hM_) x57_)))))))))))))) (fun x44_ => an_e x44_ (fun h708_ x45_ => ex_e x45_ (fun z721_ x46_ => an_e x46_ (fun h722_ x47_ => ex_e x47_ (fun j725_ x48_ => an_e x48_ (fun h726_ x49_ => ex_e x49_ (fun M723_ x50_ => an_e x50_ (fun hM724_ x51_ => ex_e x51_ (fun z729_ x52_ => an_e x52_ (fun h730_ x53_ => an_e x53_ (fun hq_v3_4y x54_ => an_e x54_ (fun hq_v2_4y x55_ => (fun hM_ => fr_eq (FR.put hF_4 hM724_ (Or.inl ⟨rfl, rfl, rfl⟩)) hM_) x55_)))))))))))))) (fun x42_ => or_e x42_ (fun x43_ => an_e x43_ (fun e625_ x44_ => or_e x44_ (fun x45_ => an_e x45_ (fun h731_ x46_ => ex_e x46_ (fun z732_ x47_ => an_e x47_ (fun h733_ x48_ => ex_e x48_ (fun z734_ x49_ => an_e x49_ (fun h735_ x50_ => ex_e x50_ (fun j738_ x51_ => an_e x51_ (fun h739_ x52_ => ex_e x52_ (fun M736_ x53_ => an_e x53_ (fun hM737_ x54_ => ex_e x54_ (fun z742_ x55_ => an_e x55_ (fun h743_ x56_ => an_e x56_ (fun hq_v3_4y x57_ => an_e x57_ (fun hq_v2_4y x58_ => (fun hM_ => fr_eq (FR.put hF_4 hM737_ (Or.inl ⟨rfl, rfl, rfl⟩)) hM_) x58_)))))))))))))) (fun x45_ => an_e x45_ (fun h731_ x46_ => ex_e x46_ (fun z744_ x47_ => an_e x47_ (fun h745_ x48_ => ex_e x48_ (fun j748_ x49_ => an_e x49_ (fun h749_ x50_ => ex_e x50_ (fun M746_ x51_ => an_e x51_ (fun hM747_ x52_ => ex_e x52_ (fun z752_ x53_ => an_e x53_ (fun h753_ x54_ => an_e x54_ (fun hq_v3_4y x55_ => an_e x55_ (fun hq_v2_4y x56_ => (fun hM_ => fr_eq (FR.put hF_4 hM747_ (Or.inl ⟨rfl, rfl, rfl⟩)) hM_) x56_)))))))))))))) (fun x43_ => or_e x43_ (fun x44_ => an_e x44_ (fun e625_ x45_ => or_e x45_ (fun x46_ => an_e x46_ (fun h754_ x47_ => ex_e x47_ (fun z755_ x48_ => an_e x48_ (fun h756_ x49_ => ex_e x49_ (fun z757_ x50_ => an_e x50_ (fun h758_ x51_ => ex_e x51_ (fun j761_ x52_ => an_e x52_ (fun h762_ x53_ => ex_e x53_ (fun M759_ x54_ => an_e x54_ (fun hM760_ x55_ => ex_e x55_ (fun z765_ x56_ => an_e x56_ (fun h766_ x57_ => an_e x57_ (fun hq_v3_4y x58_ => an_e x58_ (fun hq_v2_4y x59_ => (fun hM_ => fr_eq (FR.put hF_4 hM760_ (Or.inl ⟨rfl, rfl, rfl⟩)) hM_) x59_)))))))))))))) (fun x46_ => an_e x46_ (fun h754_ x47_ => ex_e x47_ (fun z767_ x48_ => an_e x48_ (fun h768_ x49_ => ex_e x49_ (fun j771_ x50_ => an_e x50_ (fun h772_ x51_ => ex_e x51_ (fun M769_ x52_ => an_e x52_ (fun hM770_ x53_ => ex_e x53_ (fun z775_ x54_ => an_e x54_ (fun h776_ x55_ => an_e x55_ (fun hq_v3_4y x56_ => an_e x56_ (fun hq_v2_4y x57_ => (fun hM_ => fr_eq (FR.put hF_4 hM770_ (Or.inl ⟨rfl, rfl, rfl⟩)) hM_) x57_)))))))))))))) (fun x44_ => or_e x44_ (fun x45_ => an_e x45_ (fun e625_ x46_ => or_e x46_ (fun x47_ => an_e x47_ (fun h777_ x48_ => ex_e x48_ (fun z778_ x49_ => an_e x49_ (fun h779_ x50_ => ex_e x50_ (fun z780_ x51_ => an_e x51_ (fun h781_ x52_ => ex_e x52_ (fun j784_ x53_ => an_e x53_ (fun h785_ x54_ => ex_e x54_ (fun M782_ x55_ => an_e x55_ (fun hM783_ x56_ => ex_e x56_ (fun z788_ x57_ => an_e x57_ (fun h789_ x58_ => an_e x58_ (fun hq_v3_4y x59_ => an_e x59_ (fun hq_v2_4y x60_ => (fun hM_ => fr_eq (FR.put hF_4 hM783_ (Or.inl ⟨rfl, rfl, rfl⟩)) hM_) x60_)))))))))))))) (fun x47_ => an_e x47_ (fun h777_ x48_ => ex_e x48_ (fun z790_ x49_ => an_e x49_ (fun h791_ x50_ => ex_e x50_ (fun j794_ x51_ => an_e x51_ (fun h795_ x52_ => ex_e x52_ (fun M792_ x53_ => an_e x53_ (fun hM793_ x54_ => ex_e x54_ (fun z798_ x55_ => an_e x55_ (fun h799_ x56_ => an_e x56_ (fun hq_v3_4y x57_ => an_e x57_ (fun hq_v2_4y x58_ => (fun hM_ => fr_eq (FR.put hF_4 hM793_ (Or.inl ⟨rfl, rfl, rfl⟩)) hM_) x58_)))))))))))))) (fun x45_ => or_e x45_ (fun x46_ => an_e x46_ (fun e625_ x47_ => or_e x47_ (fun x48_ => an_e x48_ (fun h800_ x49_ => ex_e x49_ (fun z801_ x50_ => an_e x50_ (fun h802_ x51_ => ex_e x51_ (fun z803_ x52_ => an_e x52_ (fun h804_ x53_ => ex_e x53_ (fun j807_ x54_ => an_e x54_ (fun h808_ x55_ => ex_e x55_ (fun M805_ x56_ => an_e x56_ (fun hM806_ x57_ => ex_e x57_ (fun z811_ x58_ => an_e x58_ (fun h812_ x59_ => an_e x59_ (fun hq_v3_4y x60_ => an_e x60_ (fun hq_v2_4y x61_ => (fun hM_ => fr_eq (FR.put hF_4 hM806_ (Or.inl ⟨rfl, rfl, rfl⟩)) hM_) x61_)))))))))))))) (fun x48_ => an_e x48_ (fun h800_ x49_ => ex_e x49_ (fun z813_ x50_ => an_e x50_ (fun h814_ x51_ => ex_e x51_ (fun j817_ x52_ => an_e x52_ (fun h818_ x53_ => ex_e x53_ (fun M815_ x54_ => an_e x54_ (fun hM816_ x55_ => ex_e x55_ (fun z821_ x56_ => an_e x56_ (fun h822_ x57_ => an_e x57_ (fun hq_v3_4y x58_ => an_e x58_ (fun hq_v2_4y x59_ => (fun hM_ => fr_eq (FR.put hF_4 hM816_ (Or.inl ⟨rfl, rfl, rfl⟩)) hM_) x59_)))))))))))))) (fun x46_ => or_e x46_ (fun x47_ => an_e x47_ (fun e625_ x48_ => or_e x48_ (fun x49_ => an_e x49_ (fun h823_ x50_ => ex_e x50_ (fun z824_ x51_ => an_e x51_ (fun h825_ x52_ => ex_e x52_ (fun z826_ x53_ => an_e x53_ (fun h827_ x54_ => ex_e x54_ (fun j830_ x55_ => an_e x55_ (fun h831_ x56_ => ex_e x56_ (fun M828_ x57_ => an_e x57_ (fun hM829_ x58_ => ex_e x58_ (fun z834_ x59_ => an_e x59_ (fun h835_ x60_ => an_e x60_ (fun hq_v3_4y x61_ => an_e x61_ (fun hq_v2_4y x62_ => (fun hM_ => fr_eq (FR.put hF_4 hM829_ (Or.inl ⟨rfl, rfl, rfl⟩)) hM_) x62_)))))))))))))) (fun x49_ => an_e x49_ (fun h823_ x50_ => ex_e x50_ (fun z836_ x51_ => an_e x51_ (fun h837_ x52_ => ex_e x52_ (fun j840_ x53_ => an_e x53_ (fun h841_ x54_ => ex_e x54_ (fun M838_ x55_ => an_e x55_ (fun hM839_ x56_ => ex_e x56_ (fun z844_ x57_ => an_e x57_ (fun h845_ x58_ => an_e x58_ (fun hq_v3_4y x59_ => an_e x59_ (fun hq_v2_4y x60_ => (fun hM_ => fr_eq (FR.put hF_4 hM839_ (Or.inl ⟨rfl, rfl, rfl⟩)) hM_) x60_)))))))))))))) (fun x47_ => or_e x47_ (fun x48_ => an_e x48_ (fun e625_ x49_ => or_e x49_ (fun x50_ => an_e x50_ (fun h846_ x51_ => ex_e x51_ (fun z847_ x52_ => an_e x52_ (fun h848_ x53_ => ex_e x53_ (fun z849_ x54_ => an_e x54_ (fun h850_ x55_ => ex_e x55_ (fun j853_ x56_ => an_e x56_ (fun h854_ x57_ => ex_e x57_ (fun M851_ x58_ => an_e x58_ (fun hM852_ x59_ => ex_e x59_ (fun z857_ x60_ => an_e x60_ (fun h858_ x61_ => an_e x61_ (fun hq_v3_4y x62_ => an_e x62_ (fun hq_v2_4y x63_ => (fun hM_ => fr_eq (FR.put hF_4 hM852_ (Or.inl ⟨rfl, rfl, rfl⟩)) hM_) x63_)))))))))))))) (fun x50_ => an_e x50_ (fun h846_ x51_ => ex_e x51_ (fun z859_ x52_ => an_e x52_ (fun h860_ x53_ => ex_e x53_ (fun j863_ x54_ => an_e x54_ (fun h864_ x55_ => ex_e x55_ (fun M861_ x56_ => an_e x56_ (fun hM862_ x57_ => ex_e x57_ (fun z867_ x58_ => an_e x58_ (fun h868_ x59_ => an_e x59_ (fun hq_v3_4y x60_ => an_e x60_ (fun hq_v2_4y x61_ => (fun hM_ => fr_eq (FR.put hF_4 hM862_ (Or.inl ⟨rfl, rfl, rfl⟩)) hM_) x61_)))))))))))))) (fun x48_ => or_e x48_ (fun x49_ => an_e x49_ (fun e625_ x50_ => or_e x50_ (fun x51_ => an_e x51_ (fun h869_ x52_ => ex_e x52_ (fun z870_ x53_ => an_e x53_ (fun h871_ x54_ => ex_e x54_ (fun z872_ x55_ => an_e x55_ (fun h873_ x56_ => ex_e x56_ (fun j876_ x57_ => an_e x57_ (fun h877_ x58_ => ex_e x58_ (fun M874_ x59_ => an_e x59_ (fun hM875_ x60_ => ex_e x60_ (fun z880_ x61_ => an_e x61_ (fun h881_ x62_ => an_e x62_ (fun hq_v3_4y x63_ => an_e x63_ (fun hq_v2_4y x64_ => (fun hM_ => fr_eq (FR.put hF_4 hM875_ (Or.inl ⟨rfl, rfl, rfl⟩)) hM_) x64_)))))))))))))) (fun x51_ => an_e x51_ (fun h869_ x52_ => ex_e x52_ (fun z882_ x53_ => an_e x53_ (fun h883_ x54_ => ex_e x54_ (fun j886_ x55_ => an_e x55_ (fun h887_ x56_ => ex_e x56_ (fun M884_ x57_ => an_e x57_ (fun hM885_ x58_ => ex_e x58_ (fun z890_ x59_ => an_e x59_ (fun h891_ x60_ => an_e x60_ (fun hq_v3_4y x61_ => an_e x61_ (fun hq_v2_4y x62_ => (fun hM_ => fr_eq (FR.put hF_4 hM885_ (Or.inl ⟨rfl, rfl, rfl⟩)) hM_) x62_)))))))))))))) (fun x49_ => or_e x49_ (fun x50_ => an_e x50_ (fun e625_ x51_ => or_e x51_ (fun x52_ => an_e x52_ (fun h892_ x53_ => ex_e x53_ (fun z893_ x54_ => an_e x54_ (fun h894_ x55_ => ex_e x55_ (fun z895_ x56_ => an_e x56_ (fun h896_ x57_ => ex_e x57_ (fun j899_ x58_ => an_e x58_ (fun h900_ x59_ => ex_e x59_ (fun M897_ x60_ => an_e x60_ (fun hM898_ x61_ => ex_e x61_ (fun z903_ x62_ => an_e x62_ (fun h904_ x63_ => an_e x63_ (fun hq_v3_4y x64_ => an_e x64_ (fun hq_v2_4y x65_ => (fun hM_ => fr_eq (FR.put hF_4 hM898_ (Or.inl ⟨rfl, rfl, rfl⟩)) hM_) x65_)))))))))))))) (fun x52_ => an_e x52_ (fun h892_ x53_ => ex_e x53_ (fun z905_ x54_ => an_e x54_ (fun h906_ x55_ => ex_e x55_ (fun j909_ x56_ => an_e x56_ (fun h910_ x57_ => ex_e x57_ (fun M907_ x58_ => an_e x58_ (fun hM908_ x59_ => ex_e x59_ (fun z913_ x60_ => an_e x60_ (fun h914_ x61_ => an_e x61_ (fun hq_v3_4y x62_ => an_e x62_ (fun hq_v2_4y x63_ => (fun hM_ => fr_eq (FR.put hF_4 hM908_ (Or.inl ⟨rfl, rfl, rfl⟩)) hM_) x63_)))))))))))))) (fun x50_ => or_e x50_ (fun x51_ => an_e x51_ (fun e625_ x52_ => or_e x52_ (fun x53_ => an_e x53_ (fun h915_ x54_ => ex_e x54_ (fun z916_ x55_ => an_e x55_ (fun h917_ x56_ => ex_e x56_ (fun z918_ x57_ => an_e x57_ (fun h919_ x58_ => ex_e x58_ (fun j922_ x59_ => an_e x59_ (fun h923_ x60_ => ex_e x60_ (fun M920_ x61_ => an_e x61_ (fun hM921_ x62_ => ex_e x62_ (fun z926_ x63_ => an_e x63_ (fun h927_ x64_ => an_e x64_ (fun hq_v3_4y x65_ => an_e x65_ (fun hq_v2_4y x66_ => (fun hM_ => fr_eq (FR.put hF_4 hM921_ (Or.inl ⟨rfl, rfl, rfl⟩)) hM_) x66_)))))))))))))) (fun x53_ => an_e x53_ (fun h915_ x54_ => ex_e x54_ (fun z928_ x55_ => an_e x55_ (fun h929_ x56_ => ex_e x56_ (fun j932_ x57_ => an_e x57_ (fun h933_ x58_ => ex_e x58_ (fun M930_ x59_ => an_e x59_ (fun hM931_ x60_ => ex_e x60_ (fun z936_ x61_ => an_e x61_ (fun h937_ x62_ => an_e x62_ (fun hq_v3_4y x63_ => an_e x63_ (fun hq_v2_4y x64_ => (fun hM_ => fr_eq (FR.put hF_4 hM931_ (Or.inl ⟨rfl, rfl, rfl⟩)) hM_) x64_)))))))))))))) (fun x51_ => or_e x51_ (fun x52_ => an_e x52_ (fun e625_ x53_ => or_e x53_ (fun x54_ => an_e x54_ (fun h938_ x55_ => ex_e x55_ (fun z939_ x56_ => an_e x56_ (fun h940_ x57_ => ex_e x57_ (fun z941_ x58_ => an_e x58_ (fun h942_ x59_ => ex_e x59_ (fun j945_ x60_ => an_e x60_ (fun h946_ x61_ => ex_e x61_ (fun M943_ x62_ => an_e x62_ (fun hM944_ x63_ => ex_e x63_ (fun z949_ x64_ => an_e x64_ (fun h950_ x65_ => an_e x65_ (fun hq_v3_4y x66_ => an_e x66_ (fun hq_v2_4y x67_ => (fun hM_ => fr_eq (FR.put hF_4 hM944_ (Or.inl ⟨rfl, rfl, rfl⟩)) hM_) x67_)))))))))))))) (fun x54_ => an_e x54_ (fun h938_ x55_ => ex_e x55_ (fun z951_ x56_ => an_e x56_ (fun h952_ x57_ => ex_e x57_ (fun j955_ x58_ => an_e x58_ (fun h956_ x59_ => ex_e x59_ (fun M953_ x60_ => an_e x60_ (fun hM954_ x61_ => ex_e x61_ (fun z959_ x62_ => an_e x62_ (fun h960_ x63_ => an_e x63_ (fun hq_v3_4y x64_ => an_e x64_ (fun hq_v2_4y x65_ => (fun hM_ => fr_eq (FR.put hF_4 hM954_ (Or.inl ⟨rfl, rfl, rfl⟩)) hM_) x65_)))))))))))))) (fun x52_ => or_e x52_ (fun x53_ => an_e x53_ (fun e625_ x54_ => or_e x54_ (fun x55_ => an_e x55_ (fun h961_ x56_ => ex_e x56_ (fun z962_ x57_ => an_e x57_ (fun h963_ x58_ => ex_e x58_ (fun z964_ x59_ => an_e x59_ (fun h965_ x60_ => ex_e x60_ (fun j968_ x61_ => an_e x61_ (fun h969_ x62_ => ex_e x62_ (fun M966_ x63_ => an_e x63_ (fun hM967_ x64_ => ex_e x64_ (fun z972_ x65_ => an_e x65_ (fun h973_ x66_ => an_e x66_ (fun hq_v3_4y x67_ => an_e x67_ (fun hq_v2_4y x68_ => (fun hM_ => fr_eq (FR.put hF_4 hM967_ (Or.inl ⟨rfl, rfl, rfl⟩)) hM_) x68_)))))))))))))) (fun x55_ => an_e x55_ (fun h961_ x56_ => ex_e x56_ (fun z974_ x57_ => an_e x57_ (fun h975_ x58_ => ex_e x58_ (fun j978_ x59_ => an_e x59_ (fun h979_ x60_ => ex_e x60_ (fun M976_ x61_ => an_e x61_ (fun hM977_ x62_ => ex_e x62_ (fun z982_ x63_ => an_e x63_ (fun h983_ x64_ => an_e x64_ (fun hq_v3_4y x65_ => an_e x65_ (fun hq_v2_4y x66_ => (fun hM_ => fr_eq (FR.put hF_4 hM977_ (Or.inl ⟨rfl, rfl, rfl⟩)) hM_) x66_)))))))))))))) (fun x53_ => or_e x53_ (fun x54_ => an_e x54_ (fun e625_ x55_ => or_e x55_ (fun x56_ => an_e x56_ (fun h984_ x57_ => ex_e x57_ (fun z985_ x58_ => an_e x58_ (fun h986_ x59_ => ex_e x59_ (fun z987_ x60_ => an_e x60_ (fun h988_ x61_ => ex_e x61_ (fun j991_ x62_ => an_e x62_ (fun h992_ x63_ => ex_e x63_ (fun M989_ x64_ => an_e x64_ (fun hM990_ x65_ => ex_e x65_ (fun z995_ x66_ => an_e x66_ (fun h996_ x67_ => an_e x67_ (fun hq_v3_4y x68_ => an_e x68_ (fun hq_v2_4y x69_ => (fun hM_ => fr_eq (FR.put hF_4 hM990_ (Or.inl ⟨rfl, rfl, rfl⟩)) hM_) x69_)))))))))))))) (fun x56_ => an_e x56_ (fun h984_ x57_ => ex_e x57_ (fun z997_ x58_ => an_e x58_ (fun h998_ x59_ => ex_e x59_ (fun j1001_ x60_ => an_e x60_ (fun h1002_ x61_ => ex_e x61_ (fun M999_ x62_ => an_e x62_ (fun hM1000_ x63_ => ex_e x63_ (fun z1005_ x64_ => an_e x64_ (fun h1006_ x65_ => an_e x65_ (fun hq_v3_4y x66_ => an_e x66_ (fun hq_v2_4y x67_ => (fun hM_ => fr_eq (FR.put hF_4 hM1000_ (Or.inl ⟨rfl, rfl, rfl⟩)) hM_) x67_)))))))))))))) (fun x54_ => or_e x54_ (fun x55_ => an_e x55_ (fun e625_ x56_ => or_e x56_ (fun x57_ => an_e x57_ (fun h1007_ x58_ => ex_e x58_ (fun z1008_ x59_ => an_e x59_ (fun h1009_ x60_ => ex_e x60_ (fun j1012_ x61_ => an_e x61_ (fun h1013_ x62_ => ex_e x62_ (fun M1010_ x63_ => an_e x63_ (fun hM1011_ x64_ => ex_e x64_ (fun z1016_ x65_ => an_e x65_ (fun h1017_ x66_ => an_e x66_ (fun hq_v3_4y x67_ => an_e x67_ (fun hq_v2_4y x68_ => (fun hM_ => fr_eq (FR.put hF_4 hM1011_ (Or.inl ⟨rfl, rfl, rfl⟩)) hM_) x68_)))))))))))) (fun x57_ => an_e x57_ (fun h1007_ x58_ => ex_e x58_ (fun z1018_ x59_ => an_e x59_ (fun h1019_ x60_ => ex_e x60_ (fun j1022_ x61_ => an_e x61_ (fun h1023_ x62_ => ex_e x62_ (fun M1020_ x63_ => an_e x63_ (fun hM1021_ x64_ => ex_e x64_ (fun z1026_ x65_ => an_e x65_ (fun h1027_ x66_ => an_e x66_ (fun hq_v3_4y x67_ => an_e x67_ (fun hq_v2_4y x68_ => (fun hM_ => fr_eq (FR.put hF_4 hM1021_ (Or.inl ⟨rfl, rfl, rfl⟩)) hM_) x68_)))))))))))))) (fun x55_ => or_e x55_ (fun x56_ => an_e x56_ (fun e625_ x57_ => or_e x57_ (fun x58_ => an_e x58_ (fun h1028_ x59_ => ex_e x59_ (fun z1029_ x60_ => an_e x60_ (fun h1030_ x61_ => ex_e x61_ (fun j1033_ x62_ => an_e x62_ (fun h1034_ x63_ => ex_e x63_ (fun M1031_ x64_ => an_e x64_ (fun hM1032_ x65_ => ex_e x65_ (fun z1037_ x66_ => an_e x66_ (fun h1038_ x67_ => an_e x67_ (fun hq_v3_4y x68_ => an_e x68_ (fun hq_v2_4y x69_ => (fun hM_ => fr_eq (FR.put hF_4 hM1032_ (Or.inl ⟨rfl, rfl, rfl⟩)) hM_) x69_)))))))))))) (fun x58_ => an_e x58_ (fun h1028_ x59_ => ex_e x59_ (fun z1039_ x60_ => an_e x60_ (fun h1040_ x61_ => ex_e x61_ (fun j1043_ x62_ => an_e x62_ (fun h1044_ x63_ => ex_e x63_ (fun M1041_ x64_ => an_e x64_ (fun hM1042_ x65_ => ex_e x65_ (fun z1047_ x66_ => an_e x66_ (fun h1048_ x67_ => an_e x67_ (fun hq_v3_4y x68_ => an_e x68_ (fun hq_v2_4y x69_ => (fun hM_ => fr_eq (FR.put hF_4 hM1042_ (Or.inl ⟨rfl, rfl, rfl⟩)) hM_) x69_)))))))))))))) (fun x56_ => or_e x56_ (fun x57_ => an_e x57_ (fun e625_ x58_ => or_e x58_ (fun x59_ => an_e x59_ (fun h1049_ x60_ => ex_e x60_ (fun z1050_ x61_ => an_e x61_ (fun h1051_ x62_ => ex_e x62_ (fun j1054_ x63_ => an_e x63_ (fun h1055_ x64_ => ex_e x64_ (fun M1052_ x65_ => an_e x65_ (fun hM1053_ x66_ => ex_e x66_ (fun z1058_ x67_ => an_e x67_ (fun h1059_ x68_ => an_e x68_ (fun hq_v3_4y x69_ => an_e x69_ (fun hq_v2_4y x70_ => (fun hM_ => fr_eq (FR.put hF_4 hM1053_ (Or.inl ⟨rfl, rfl, rfl⟩)) hM_) x70_)))))))))))) (fun x59_ => an_e x59_ (fun h1049_ x60_ => ex_e x60_ (fun z1060_ x61_ => an_e x61_ (fun h1061_ x62_ => ex_e x62_ (fun j1064_ x63_ => an_e x63_ (fun h1065_ x64_ => ex_e x64_ (fun M1062_ x65_ => an_e x65_ (fun hM1063_ x66_ => ex_e x66_ (fun z1068_ x67_ => an_e x67_ (fun h1069_ x68_ => an_e x68_ (fun hq_v3_4y x69_ => an_e x69_ (fun hq_v2_4y x70_ => (fun hM_ => fr_eq (FR.put hF_4 hM1063_ (Or.inl ⟨rfl, rfl, rfl⟩)) hM_) x70_)))))))))))))) (fun x57_ => an_e x57_ (fun e625_ x58_ => or_e x58_ (fun x59_ => an_e x59_ (fun h1070_ x60_ => ex_e x60_ (fun z1071_ x61_ => an_e x61_ (fun h1072_ x62_ => ex_e x62_ (fun z1073_ x63_ => an_e x63_ (fun h1074_ x64_ => ex_e x64_ (fun j1077_ x65_ => an_e x65_ (fun h1078_ x66_ => ex_e x66_ (fun M1075_ x67_ => an_e x67_ (fun hM1076_ x68_ => ex_e x68_ (fun z1081_ x69_ => an_e x69_ (fun h1082_ x70_ => an_e x70_ (fun hq_v3_4y x71_ => an_e x71_ (fun hq_v2_4y x72_ => (fun hM_ => fr_eq (FR.put hF_4 hM1076_ (Or.inl ⟨rfl, rfl, rfl⟩)) hM_) x72_)))))))))))))) (fun x59_ => an_e x59_ (fun h1070_ x60_ => ex_e x60_ (fun z1083_ x61_ => an_e x61_ (fun h1084_ x62_ => ex_e x62_ (fun j1087_ x63_ => an_e x63_ (fun h1088_ x64_ => ex_e x64_ (fun M1085_ x65_ => an_e x65_ (fun hM1086_ x66_ => ex_e x66_ (fun z1091_ x67_ => an_e x67_ (fun h1092_ x68_ => an_e x68_ (fun hq_v3_4y x69_ => an_e x69_ (fun hq_v2_4y x70_ => (fun hM_ => fr_eq (FR.put hF_4 hM1086_ (Or.inl ⟨rfl, rfl, rfl⟩)) hM_) x70_))))))))))))))))))))))))))))))))))))))))))))))))))))) (fun x18_ => an_e x18_ (fun h607_ x19_ => or_e x19_ (fun x20_ => an_e x20_ (fun h1093_ x21_ => or_e x21_ (fun x22_ => an_e x22_ (fun h1094_ x23_ => ex_e x23_ (fun j1097_ x24_ => an_e x24_ (fun h1098_ x25_ => ex_e x25_ (fun M1095_ x26_ => an_e x26_ (fun hM1096_ x27_ => ex_e x27_ (fun z1101_ x28_ => an_e x28_ (fun h1102_ x29_ => ex_e x29_ (fun z1103_ x30_ => an_e x30_ (fun h1104_ x31_ => an_e x31_ (fun hq_v3_4y x32_ => an_e x32_ (fun hq_v2_4y x33_ => (fun hM_ => fr_eq (FR.put hF_4 hM1096_ (Or.inl ⟨rfl, rfl, rfl⟩)) hM_) x33_)))))))))))) (fun x22_ => an_e x22_ (fun h1094_ x23_ => ex_e x23_ (fun j1107_ x24_ => an_e x24_ (fun h1108_ x25_ => ex_e x25_ (fun z1105_ x26_ => an_e x26_ (fun e1106_ x27_ => ex_e x27_ (fun j1111_ x28_ => an_e x28_ (fun h1112_ x29_ => ex_e x29_ (fun M1109_ x30_ => an_e x30_ (fun hM1110_ x31_ => ex_e x31_ (fun z1115_ x32_ => an_e x32_ (fun h1116_ x33_ => ex_e x33_ (fun z1117_ x34_ => an_e x34_ (fun h1118_ x35_ => an_e x35_ (fun hq_v3_4y x36_ => an_e x36_ (fun hq_v2_4y x37_ => (fun hM_ => fr_eq (FR.put hF_4 hM1110_ (Or.inl ⟨rfl, rfl, rfl⟩)) hM_) x37_)))))))))))))))))) (fun x20_ => an_e x20_ (fun h1093_ x21_ => ex_e x21_ (fun j1121_ x22_ => an_e x22_ (fun h1122_ x23_ => ex_e x23_ (fun M1119_ x24_ => an_e x24_ (fun hM1120_ x25_ => ex_e x25_ (fun z1125_ x26_ => an_e x26_ (fun h1126_ x27_ => ex_e x27_ (fun z1127_ x28_ => an_e x28_ (fun h1128_ x29_ => an_e x29_ (fun hq_v3_4y x30_ => an_e x30_ (fun hq_v2_4y x31_ => (fun hM_ => fr_eq (FR.put hF_4 hM1120_ (Or.inl ⟨rfl, rfl, rfl⟩)) hM_) x31_)))))))))))))))))))))))))))))))
theorem x12done {v u t : Int32} {M : mM} {r : Int32} (h : SP_X12_done v u t M r) : r = dnS v.toInt u t := by
  refine xE_SP_X12_done h ⟨(fun e1_ => ⟨(fun h2_ hr_ => ?_), (fun h2_ hr_ => ?_)⟩), (fun e1_ => ⟨(fun h3_ hr_ => ?_), (fun h3_ hr_ => ?_)⟩), (fun e1_ => ⟨(fun h4_ hr_ => ?_), (fun h4_ hr_ => ?_)⟩), (fun e1_ z5_ h6_ hr_ => ?_), (fun e1_ z7_ h8_ hr_ => ?_), (fun e1_ z9_ h10_ hr_ => ?_), (fun e1_ => ⟨(fun h11_ z12_ h13_ hr_ => ?_), (fun h11_ hr_ => ?_)⟩), (fun e1_ => ⟨(fun h14_ z15_ h16_ hr_ => ?_), (fun h14_ hr_ => ?_)⟩)⟩
  · rw [hr_, dn_0 e1_, if_neg (by omega)]
  · rw [hr_, dn_0 e1_, if_pos (by omega)]
  · rw [hr_, dn_1 e1_, if_neg (by omega)]
  · rw [hr_, dn_1 e1_, if_pos (by omega)]
  · rw [hr_, dn_2 e1_, if_neg (by omega)]
  · rw [hr_, dn_2 e1_, if_pos (by omega)]
  · rw [hr_, dn_3 e1_, h6_]
  · rw [hr_, dn_4 e1_, h8_]
  · rw [hr_, dn_5 e1_, h10_]
  · rw [hr_, dn_6 e1_, if_neg h11_, h13_]
  · rw [hr_, dn_6 e1_, if_pos h11_]
  · unfold dnS
    rw [if_neg (by omega), if_neg (by omega), if_neg (by omega), if_neg (by omega), if_neg (by omega), if_neg (by omega), if_neg (by omega), hr_, if_neg h14_, h16_]
  · unfold dnS
    rw [if_neg (by omega), if_neg (by omega), if_neg (by omega), if_neg (by omega), if_neg (by omega), if_neg (by omega), if_neg (by omega), hr_, if_pos h14_]
theorem AGs.trans_ {p q q' : Nat × (Nat → Int32)} (h : AGs p q) (e : q = q') : AGs p q' := e ▸ h

theorem S1_c {b w b2 : Nat} {M M' : mM} (h : FR (S_c_X1_work b w b2) M M') {c : rf} {k : Nat} (hc : c.1 ≠ 25) : M'.1 c k = M.1 c k := h c k (fun q => by simp only [S_c_X1_work, or_false] at q; exact hc q.1)
/-- the class works a text out -/
theorem x1work {b u b2 : Nat} {M M' : mM} {r : Int32} {n : Nat → Int32} {nn : Nat} {v : Nat → Int32} (h : SP_X1_work b u b2 M r M') (hu : u < 3)
    (hw : WT n) (hs : M.1 (1, b, u) 2 = n (345 + 50 * u)) (hx : ∀ i : Nat, (i : Int) < (n (345 + 50 * u)).toInt → (M.1 (24, b, u) i).toInt = cmI (n (346 + 50 * u + i)).toInt ∧ cOK nn (n (346 + 50 * u + i)))
    (hv : ∀ i, i < nn → M.1 (29, b2, 0) i = v i) (h0 : 0 < (n (345 + 50 * u)).toInt) : r = evR n u v := by
  obtain ⟨m, D, hm, hsz, hdp⟩ := hw u hu
  rw [show 345 + 50 * u + 1 = 346 + 50 * u by omega] at hdp
  have key : ∀ z : Int32 × Int32 × mM, RCH (fun x_ y_ => ST_X1_work_4 b u b2 M x_.1 x_.2.1 x_.2.2 y_.1 y_.2.1 y_.2.2) ((0 : Int32), (0 : Int32), M) z → 0 ≤ z.1.toInt ∧ z.1.toInt ≤ m ∧ FR (S_c_X1_work b u b2) M z.2.2 ∧ 0 ≤ z.2.1.toInt ∧ AGs (evS n (346 + 50 * u) v z.1.toInt.toNat) (z.2.1.toInt.toNat, z.2.2.1 (25, b, u)) := by
    intro z hz
    refine rind hz (fun z => 0 ≤ z.1.toInt ∧ z.1.toInt ≤ m ∧ FR (S_c_X1_work b u b2) M z.2.2 ∧ 0 ≤ z.2.1.toInt ∧ AGs (evS n (346 + 50 * u) v z.1.toInt.toNat) (z.2.1.toInt.toNat, z.2.2.1 (25, b, u))) ?_ ?_
    · have i0 := il_0
      refine ⟨by dsimp only; omega, by dsimp only; omega, FR.self, by dsimp only; omega, ?_⟩
      (try dsimp only)
      rw [il_0]
      exact ⟨rfl, fun i hi => absurd hi (Nat.not_lt_zero i)⟩
    · intro x z hp hst
      obtain ⟨x1, x2, x3⟩ := x
      obtain ⟨z1, z2, z3⟩ := z
      (try dsimp only at hp hst ⊢)
      obtain ⟨p1, p2, p3, p4, p5⟩ := hp
      have hlt : x1.toInt < m := by
        unfold ST_X1_work_4 at hst
        obtain ⟨-, -, -, -, hF, z2_, e3_, h4_, -⟩ := hst
        have := eT e3_
        rw [S1_c hF (by simp), hs] at this
        omega
      have hFR : FR (S_c_X1_work b u b2) M z3 := wk_fr hst
      have g := hx x1.toInt.toNat (by omega)
      have ok := dpt_ok (v := v) hdp (n := x1.toInt.toNat) (by omega)
      have tp := p5.1
      (try dsimp only at tp)
      have dl := dpt_le (dpt_sv (v := v) hdp x1.toInt.toNat (by omega))
      have st := wk_step hst (c := n (346 + 50 * u + x1.toInt.toNat)) (by rw [S1_c p3 (by simp)]; exact g.1) (by omega)
      unfold wkG at st
      refine ⟨by omega, by omega, hFR, by rw [st.2.1]; exact Int.natCast_nonneg _, ?_⟩
      rw [show z1.toInt.toNat = x1.toInt.toNat + 1 by omega, st.2.1, Int.toNat_natCast, st.2.2]
      show AGs (svS v (n (346 + 50 * u + x1.toInt.toNat)) (evS n (346 + 50 * u) v x1.toInt.toNat)) _
      exact sv_ag (nn := nn) p5 (fun i hi => by rw [S1_c p3 (by simp)]; exact (hv i hi).symm) g.2 (by omega)
  refine xE_SP_X1_work h (fun v3_4 hv0_4 v2_4 hv1_4 hv2_4 M_4 hL_4 _ hF_4 z2_ e3_ => ⟨(fun h4_ => ⟨(fun h5_ hr_ hM_ => ?_), (fun h5_ z6_ e7_ hr_ hM_ => ?_)⟩), (fun h4_ h8_ => ⟨(fun h9_ hr_ hM_ => ?_), (fun h9_ z10_ e11_ hr_ hM_ => ?_)⟩)⟩)
  all_goals
    have k := key _ hL_4
    (try dsimp only at k)
    obtain ⟨k1, k2, k3, k4, k5⟩ := k
    have y := eT e3_
    rw [S1_c k3 (by simp), hs] at y
    have e5 : v3_4.toInt.toNat = (n (345 + 50 * u)).toInt.toNat := by omega
    have po := dpt_pos (v := v) hdp ((n (345 + 50 * u)).toInt.toNat - 1) (by omega)
    rw [show (n (345 + 50 * u)).toInt.toNat - 1 + 1 = (n (345 + 50 * u)).toInt.toNat by omega] at po
    rw [e5] at k5
    have k6 := k5.1
    (try dsimp only at k6)
    first
      | (exfalso; omega)
      | (unfold evR; rw [hr_, k5.2 0 (by omega)]; assumption)
/-- the model works a text out -/
theorem x12given {w : Int32} {u : Nat} {M M' : mM} {r : Int32} {v : Nat → Int32} {nn : Nat} (h : SP_X12_given w M r M') (hD : InvD M) (hw : w.toInt = u ∧ u < 3)
    (hx : ∀ i : Nat, (i : Int) < (M.1 (50, 0, 0) (345 + 50 * u)).toInt → cOK nn (M.1 (50, 0, 0) (346 + 50 * u + i)))
    (hv : ∀ i, i < nn → M.1 (58, 0, 0) i = v i) (h0 : 0 < (M.1 (50, 0, 0) (345 + 50 * u)).toInt) : r = evR (M.1 (50, 0, 0)) u v := by
  obtain ⟨m, D, hm, hsz, hdp⟩ := hD.2.1.2 u hw.2
  rw [show 345 + 50 * u + 1 = 346 + 50 * u by omega] at hdp
  have q0 := il_0
  refine xE_SP_X12_given h (fun z1_ h2_ z3_ h4_ z5_ h6_ v4_16 hv0_16 hv1_16 v3_16 hv2_16 hv3_16 M_16 hv4_16 hL_16 _ hF_16 z8_ h9_ j12_ h13_ z10_ e11_ h14_ z15_ h16_ h17_ z18_ e19_ hr_ hM_ => ?_)
  have ea : z5_.toInt.toNat = 346 + 50 * u := by omega
  have g50 : M_16.1 (50, 0, 0) = M.1 (50, 0, 0) := funext fun j => hF_16 _ _ (by simp [S_c_X12_given])
  have key : ∀ z : Int32 × Int32 × mM, RCH (fun x_ y_ => ST_X12_given_16 M z5_ x_.1 x_.2.1 x_.2.2 y_.1 y_.2.1 y_.2.2) (z5_, (0 : Int32), M) z → z5_.toInt ≤ z.1.toInt ∧ z.1.toInt ≤ z5_.toInt + m ∧ (∀ (c : rf) (k : Nat), c.1 ≠ 59 → z.2.2.1 c k = M.1 c k) ∧ z.2.1.toInt = ((evS (M.1 (50, 0, 0)) (346 + 50 * u) v (z.1.toInt - z5_.toInt).toNat).1 : Int) ∧ AGs (evS (M.1 (50, 0, 0)) (346 + 50 * u) v (z.1.toInt - z5_.toInt).toNat) (z.2.1.toInt.toNat, z.2.2.1 (59, 0, 0)) := by
    intro z hz
    refine rind hz (fun z => z5_.toInt ≤ z.1.toInt ∧ z.1.toInt ≤ z5_.toInt + m ∧ (∀ (c : rf) (k : Nat), c.1 ≠ 59 → z.2.2.1 c k = M.1 c k) ∧ z.2.1.toInt = ((evS (M.1 (50, 0, 0)) (346 + 50 * u) v (z.1.toInt - z5_.toInt).toNat).1 : Int) ∧ AGs (evS (M.1 (50, 0, 0)) (346 + 50 * u) v (z.1.toInt - z5_.toInt).toNat) (z.2.1.toInt.toNat, z.2.2.1 (59, 0, 0))) ?_ ?_
    · refine ⟨by dsimp only; omega, by dsimp only; omega, fun _ _ _ => rfl, ?_, ?_⟩
      · (try dsimp only)
        rw [Int.sub_self, il_0]; rfl
      · (try dsimp only)
        rw [Int.sub_self, il_0]
        exact ⟨rfl, fun i hi => absurd hi (Nat.not_lt_zero i)⟩
    · intro x z hp hst
      obtain ⟨x1, x2, x3⟩ := x
      obtain ⟨z1, z2, z3⟩ := z
      (try dsimp only at hp hst ⊢)
      obtain ⟨p1, p2, p3, p4, p5⟩ := hp
      have row : x3.1 (50, 0, 0) = M.1 (50, 0, 0) := funext fun j => p3 _ _ (by decide)
      refine xE_ST_X12_given_16 hst (fun w_hv0_16 w_hv1_16 w_hv2_16 w_hv3_16 w_hv4_16 _ w_hF_16 w_z8_ w_h9_ w_j12_ w_h13_ w_z10_ w_e11_ w_h14_ w_z15_ w_h16_ w_h17_ w_j22_ w_h23_ w_z20_ w_e21_ w_h24_ => ?_)
      have hn : (x1.toInt - z5_.toInt).toNat < m := by
        have y := eT w_e11_
        rw [row, show w_j12_ = 345 + 50 * u by omega, hsz] at y
        omega
      have ok := dpt_ok (v := v) hdp hn
      obtain rfl : w_j22_ = 346 + 50 * u + (x1.toInt - z5_.toInt).toNat := by omega
      have y := eT w_e21_
      rw [row] at y
      have cg := hx (x1.toInt - z5_.toInt).toNat (by omega)
      refine ⟨(fun w_h25_ w_h25_x w_h26_ w_h27_ => ⟨(fun w_h28_ w_z29_ w_h30_ w_j33_ w_h34_ w_z31_ w_e32_ w_j37_ w_h38_ w_M35_ w_hM36_ w_z42_ w_h43_ w_z44_ w_h45_ w_hq_v4_16y w_hq_v3_16y w_hM_ => ?_), (fun w_h28_ w_j48_ w_h49_ w_M46_ w_hM47_ w_z53_ w_h54_ w_z55_ w_h56_ w_hq_v4_16y w_hq_v3_16y w_hM_ => ?_)⟩), (fun w_h25_ w_h26_ w_h57_ w_h58_ w_z59_ w_h60_ w_z61_ w_h62_ w_j65_ w_h66_ w_z63_ w_e64_ w_z67_ w_h68_ w_j71_ w_h72_ w_M69_ w_hM70_ w_z76_ w_h77_ w_hq_v4_16y w_hq_v3_16y w_hM_ => ?_), (fun w_h25_ w_h26_ w_h78_ w_h79_ w_h80_ w_z81_ w_h82_ w_z83_ w_h84_ w_z85_ w_h86_ w_j89_ w_h90_ w_z87_ w_e88_ => ⟨(fun w_h91_ w_z92_ w_h93_ w_j96_ w_h97_ w_z94_ w_e95_ w_j100_ w_h101_ w_M98_ w_hM99_ w_z105_ w_h106_ w_hq_v4_16y w_hq_v3_16y w_hM_ => ?_), (fun w_h91_ w_j109_ w_h110_ w_z107_ w_e108_ w_j113_ w_h114_ w_M111_ w_hM112_ w_z118_ w_h119_ w_hq_v4_16y w_hq_v3_16y w_hM_ => ?_)⟩), (fun w_h25_ w_h26_ w_h120_ w_h121_ w_h122_ w_z123_ w_h124_ w_z125_ w_h126_ w_z127_ w_h128_ w_j131_ w_h132_ w_z129_ w_e130_ w_j135_ w_h136_ w_z133_ w_e134_ w_r137_ w_hs141_ w_j144_ w_h145_ w_M142_ w_hM143_ w_z149_ w_h150_ w_hq_v4_16y w_hq_v3_16y w_hM_ => ?_)⟩
      · have en : (z1.toInt - z5_.toInt).toNat = (x1.toInt - z5_.toInt).toNat + 1 := by rw [w_hq_v4_16y]; omega
        rw [en]
        show _ ∧ _ ∧ _ ∧ z2.toInt = ((svS v (M.1 (50, 0, 0) (346 + 50 * u + (x1.toInt - z5_.toInt).toNat)) (evS (M.1 (50, 0, 0)) (346 + 50 * u) v (x1.toInt - z5_.toInt).toNat)).1 : Int) ∧ AGs (svS v (M.1 (50, 0, 0) (346 + 50 * u + (x1.toInt - z5_.toInt).toNat)) (evS (M.1 (50, 0, 0)) (346 + 50 * u) v (x1.toInt - z5_.toInt).toNat)) (z2.toInt.toNat, z3.1 (59, 0, 0))
        refine ⟨by rw [w_hq_v4_16y]; omega, by rw [w_hq_v4_16y]; omega, fun c k hc => by rw [w_hM_, w_hM36_, up_other _ _ (fun q => hc (by rw [q]))]; exact p3 c k hc, ?_, ?_⟩
        · rw [sv_push (by omega), w_hq_v3_16y]
          (try dsimp only)
          omega
        · obtain rfl : w_j37_ = x2.toInt.toNat := by omega
          have sa := sv_ag (v := v) (v' := fun i => M.1 (58, 0, 0) i) (nn := nn) (c := M.1 (50, 0, 0) (346 + 50 * u + (x1.toInt - z5_.toInt).toNat)) p5 (fun i hi => (hv i hi).symm) cg (by omega)
          rw [sv_push (v := fun i => M.1 (58, 0, 0) i) (by omega)] at sa
          refine sa.trans_ ?_
          rw [w_hM_, w_hM36_, up_row, show z2.toInt.toNat = x2.toInt.toNat + 1 by have e_ := eT w_hq_v3_16y; omega]
          (try dsimp only)
          rw [if_neg (by omega), w_e32_, p3 _ _ (by decide), show w_j33_ = ((M.1 (50, 0, 0) (346 + 50 * u + (x1.toInt - z5_.toInt).toNat)).toInt - 1000).toNat by omega]
      · have en : (z1.toInt - z5_.toInt).toNat = (x1.toInt - z5_.toInt).toNat + 1 := by rw [w_hq_v4_16y]; omega
        rw [en]
        show _ ∧ _ ∧ _ ∧ z2.toInt = ((svS v (M.1 (50, 0, 0) (346 + 50 * u + (x1.toInt - z5_.toInt).toNat)) (evS (M.1 (50, 0, 0)) (346 + 50 * u) v (x1.toInt - z5_.toInt).toNat)).1 : Int) ∧ AGs (svS v (M.1 (50, 0, 0) (346 + 50 * u + (x1.toInt - z5_.toInt).toNat)) (evS (M.1 (50, 0, 0)) (346 + 50 * u) v (x1.toInt - z5_.toInt).toNat)) (z2.toInt.toNat, z3.1 (59, 0, 0))
        refine ⟨by rw [w_hq_v4_16y]; omega, by rw [w_hq_v4_16y]; omega, fun c k hc => by rw [w_hM_, w_hM47_, up_other _ _ (fun q => hc (by rw [q]))]; exact p3 c k hc, ?_, ?_⟩
        · rw [sv_push (by omega), w_hq_v3_16y]
          (try dsimp only)
          omega
        · obtain rfl : w_j48_ = x2.toInt.toNat := by omega
          have sa := sv_ag (v := v) (v' := fun i => M.1 (58, 0, 0) i) (nn := nn) (c := M.1 (50, 0, 0) (346 + 50 * u + (x1.toInt - z5_.toInt).toNat)) p5 (fun i hi => (hv i hi).symm) cg (by omega)
          rw [sv_push (v := fun i => M.1 (58, 0, 0) i) (by omega)] at sa
          refine sa.trans_ ?_
          rw [w_hM_, w_hM47_, up_row, show z2.toInt.toNat = x2.toInt.toNat + 1 by have e_ := eT w_hq_v3_16y; omega]
          (try dsimp only)
          rw [if_pos (by omega), w_e21_, row]
      · have en : (z1.toInt - z5_.toInt).toNat = (x1.toInt - z5_.toInt).toNat + 1 := by rw [w_hq_v4_16y]; omega
        rw [en]
        show _ ∧ _ ∧ _ ∧ z2.toInt = ((svS v (M.1 (50, 0, 0) (346 + 50 * u + (x1.toInt - z5_.toInt).toNat)) (evS (M.1 (50, 0, 0)) (346 + 50 * u) v (x1.toInt - z5_.toInt).toNat)).1 : Int) ∧ AGs (svS v (M.1 (50, 0, 0) (346 + 50 * u + (x1.toInt - z5_.toInt).toNat)) (evS (M.1 (50, 0, 0)) (346 + 50 * u) v (x1.toInt - z5_.toInt).toNat)) (z2.toInt.toNat, z3.1 (59, 0, 0))
        refine ⟨by rw [w_hq_v4_16y]; omega, by rw [w_hq_v4_16y]; omega, fun c k hc => by rw [w_hM_, w_hM70_, up_other _ _ (fun q => hc (by rw [q]))]; exact p3 c k hc, ?_, ?_⟩
        · rw [sv_neg (by omega), w_hq_v3_16y]
          (try dsimp only)
          omega
        · obtain rfl : w_j71_ = x2.toInt.toNat - 1 := by omega
          have sa := sv_ag (v := v) (v' := fun i => M.1 (58, 0, 0) i) (nn := nn) (c := M.1 (50, 0, 0) (346 + 50 * u + (x1.toInt - z5_.toInt).toNat)) p5 (fun i hi => (hv i hi).symm) cg (by omega)
          rw [sv_neg (v := fun i => M.1 (58, 0, 0) i) (by omega)] at sa
          refine sa.trans_ ?_
          rw [w_hM_, w_hM70_, up_row, show z2.toInt.toNat = x2.toInt.toNat by have e_ := eT w_hq_v3_16y; omega]
          (try dsimp only)
          rw [w_h68_, w_e64_, show w_j65_ = x2.toInt.toNat - 1 by omega]
      · have en : (z1.toInt - z5_.toInt).toNat = (x1.toInt - z5_.toInt).toNat + 1 := by rw [w_hq_v4_16y]; omega
        rw [en]
        show _ ∧ _ ∧ _ ∧ z2.toInt = ((svS v (M.1 (50, 0, 0) (346 + 50 * u + (x1.toInt - z5_.toInt).toNat)) (evS (M.1 (50, 0, 0)) (346 + 50 * u) v (x1.toInt - z5_.toInt).toNat)).1 : Int) ∧ AGs (svS v (M.1 (50, 0, 0) (346 + 50 * u + (x1.toInt - z5_.toInt).toNat)) (evS (M.1 (50, 0, 0)) (346 + 50 * u) v (x1.toInt - z5_.toInt).toNat)) (z2.toInt.toNat, z3.1 (59, 0, 0))
        refine ⟨by rw [w_hq_v4_16y]; omega, by rw [w_hq_v4_16y]; omega, fun c k hc => by rw [w_hM_, w_hM99_, up_other _ _ (fun q => hc (by rw [q]))]; exact p3 c k hc, ?_, ?_⟩
        · rw [sv_cho (by omega), w_hq_v3_16y]
          (try dsimp only)
          omega
        · obtain rfl : w_j100_ = x2.toInt.toNat - 3 := by omega
          have sa := sv_ag (v := v) (v' := fun i => M.1 (58, 0, 0) i) (nn := nn) (c := M.1 (50, 0, 0) (346 + 50 * u + (x1.toInt - z5_.toInt).toNat)) p5 (fun i hi => (hv i hi).symm) cg (by omega)
          rw [sv_cho (v := fun i => M.1 (58, 0, 0) i) (by omega)] at sa
          refine sa.trans_ ?_
          rw [w_hM_, w_hM99_, up_row, show z2.toInt.toNat = x2.toInt.toNat - 2 by have e_ := eT w_hq_v3_16y; omega]
          (try dsimp only)
          rw [show w_j89_ = x2.toInt.toNat - 3 by omega] at w_e88_
          rw [if_pos (by rw [← w_e88_]; exact w_h91_), w_e95_, show w_j96_ = x2.toInt.toNat - 1 by omega]
      · have en : (z1.toInt - z5_.toInt).toNat = (x1.toInt - z5_.toInt).toNat + 1 := by rw [w_hq_v4_16y]; omega
        rw [en]
        show _ ∧ _ ∧ _ ∧ z2.toInt = ((svS v (M.1 (50, 0, 0) (346 + 50 * u + (x1.toInt - z5_.toInt).toNat)) (evS (M.1 (50, 0, 0)) (346 + 50 * u) v (x1.toInt - z5_.toInt).toNat)).1 : Int) ∧ AGs (svS v (M.1 (50, 0, 0) (346 + 50 * u + (x1.toInt - z5_.toInt).toNat)) (evS (M.1 (50, 0, 0)) (346 + 50 * u) v (x1.toInt - z5_.toInt).toNat)) (z2.toInt.toNat, z3.1 (59, 0, 0))
        refine ⟨by rw [w_hq_v4_16y]; omega, by rw [w_hq_v4_16y]; omega, fun c k hc => by rw [w_hM_, w_hM112_, up_other _ _ (fun q => hc (by rw [q]))]; exact p3 c k hc, ?_, ?_⟩
        · rw [sv_cho (by omega), w_hq_v3_16y]
          (try dsimp only)
          omega
        · obtain rfl : w_j113_ = x2.toInt.toNat - 3 := by omega
          have sa := sv_ag (v := v) (v' := fun i => M.1 (58, 0, 0) i) (nn := nn) (c := M.1 (50, 0, 0) (346 + 50 * u + (x1.toInt - z5_.toInt).toNat)) p5 (fun i hi => (hv i hi).symm) cg (by omega)
          rw [sv_cho (v := fun i => M.1 (58, 0, 0) i) (by omega)] at sa
          refine sa.trans_ ?_
          rw [w_hM_, w_hM112_, up_row, show z2.toInt.toNat = x2.toInt.toNat - 2 by have e_ := eT w_hq_v3_16y; omega]
          (try dsimp only)
          rw [show w_j89_ = x2.toInt.toNat - 3 by omega] at w_e88_
          rw [if_neg (by rw [← w_e88_]; exact w_h91_), w_e108_, show w_j109_ = x2.toInt.toNat - 2 by omega]
      · have en : (z1.toInt - z5_.toInt).toNat = (x1.toInt - z5_.toInt).toNat + 1 := by rw [w_hq_v4_16y]; omega
        rw [en]
        show _ ∧ _ ∧ _ ∧ z2.toInt = ((svS v (M.1 (50, 0, 0) (346 + 50 * u + (x1.toInt - z5_.toInt).toNat)) (evS (M.1 (50, 0, 0)) (346 + 50 * u) v (x1.toInt - z5_.toInt).toNat)).1 : Int) ∧ AGs (svS v (M.1 (50, 0, 0) (346 + 50 * u + (x1.toInt - z5_.toInt).toNat)) (evS (M.1 (50, 0, 0)) (346 + 50 * u) v (x1.toInt - z5_.toInt).toNat)) (z2.toInt.toNat, z3.1 (59, 0, 0))
        refine ⟨by rw [w_hq_v4_16y]; omega, by rw [w_hq_v4_16y]; omega, fun c k hc => by rw [w_hM_, w_hM143_, up_other _ _ (fun q => hc (by rw [q]))]; exact p3 c k hc, ?_, ?_⟩
        · rw [sv_bin (by omega), w_hq_v3_16y]
          (try dsimp only)
          omega
        · obtain rfl : w_j144_ = x2.toInt.toNat - 2 := by omega
          have sa := sv_ag (v := v) (v' := fun i => M.1 (58, 0, 0) i) (nn := nn) (c := M.1 (50, 0, 0) (346 + 50 * u + (x1.toInt - z5_.toInt).toNat)) p5 (fun i hi => (hv i hi).symm) cg (by omega)
          rw [sv_bin (v := fun i => M.1 (58, 0, 0) i) (by omega)] at sa
          refine sa.trans_ ?_
          rw [w_hM_, w_hM143_, up_row, show z2.toInt.toNat = x2.toInt.toNat - 1 by have e_ := eT w_hq_v3_16y; omega]
          (try dsimp only)
          rw [x12done w_hs141_, w_e130_, w_e134_, show w_j131_ = x2.toInt.toNat - 2 by omega, show w_j135_ = x2.toInt.toNat - 1 by omega, w_e21_, row]
  have k := key _ hL_16
  (try dsimp only at k)
  obtain ⟨k1, k2, k3, k4, k5⟩ := k
  have y := eT e11_
  rw [g50, show j12_ = 345 + 50 * u by omega, hsz] at y
  rw [show (v4_16.toInt - z5_.toInt).toNat = m by omega] at k5
  have po := dpt_pos (v := v) hdp (m - 1) (by omega)
  rw [show m - 1 + 1 = m by omega] at po
  unfold evR
  rw [hsz, Int.toNat_natCast, k5.2 0 (by omega), hr_, e19_]
end
section
/-! class and model row: who is alike -/
def nnU (u : Nat) : Nat := if u = 0 then 4 else if u = 1 then 3 else 5
def LWR (b : Nat) (q : rf → Nat → Int32) (n : Nat → Int32) : Prop := q (10, b, 0) 7 = n 0 ∧ (∀ k, k < 3 → q (2, b, 0) k = n (6 + k)) ∧ (∀ k, k < 5 → q (26, b, 0) k = n (9 + k) ∧ q (27, b, 0) k = n (14 + k))
def THR (b : Nat) (q : rf → Nat → Int32) (n : Nat → Int32) : Prop := q (7, b, 0) 5 = n 1 ∧ ∀ t : Nat, (t : Int) < nTh n → q (36, b, 0) t = n (20 + 4 * t) ∧ q (37, b, 0) t = n (21 + 4 * t) ∧ q (38, b, 0) t = n (22 + 4 * t) ∧ q (39, b, 0) t = n (23 + 4 * t)
def WAR (b : Nat) (q : rf → Nat → Int32) (n : Nat → Int32) : Prop := q (10, b, 0) 6 = n 2 ∧ ∀ w : Nat, (w : Int) < nWa n → (∀ k, k < 9 → q (9, b, w) k = n (180 + 9 * w + k)) ∧ (∀ c, c < 192 → q (40, b, w) c = n (495 + 384 * w + c) ∧ q (41, b, w) c = n (687 + 384 * w + c))
def TXR (b : Nat) (q : rf → Nat → Int32) (n : Nat → Int32) : Prop := ∀ u, u < 3 → q (1, b, u) 2 = n (345 + 50 * u) ∧ ∀ i : Nat, (i : Int) < (n (345 + 50 * u)).toInt → (q (24, b, u) i).toInt = cmI (n (346 + 50 * u + i)).toInt ∧ cOK (nnU u) (n (346 + 50 * u + i))
/-- of the model's row alone -/
def MIR (n : Nat → Int32) : Prop := (∀ w : Nat, (w : Int) < nWa n → (1 ≤ (n (183 + 9 * w)).toInt ∧ (n (183 + 9 * w)).toInt ≤ 9) ∧ (1 ≤ (n (184 + 9 * w)).toInt ∧ (n (184 + 9 * w)).toInt ≤ 99)) ∧
  (∀ t : Nat, (t : Int) < nTh n → 0 ≤ (n (23 + 4 * t)).toInt ∧ ((n (20 + 4 * t)).toInt < 3 → (n (23 + 4 * t)).toInt = 0)) ∧
  (∀ w : Nat, nWa n ≤ (w : Int) → w < 8 → (∀ k, k < 9 → n (180 + 9 * w + k) = 0) ∧ (∀ c, c < 384 → n (495 + 384 * w + c) = 0))
/-! strength, heard -/
theorem ofIe {x : Int32} {z : Int} (h : x.toInt = z) : x = Int32.ofInt z := by rw [← h, Int32.ofInt_toInt]
def clS (t s : Int32) : Int := if s.toInt = 1 then (if t.toInt < 0 then 0 else if 999 < t.toInt then 999 else t.toInt) / 2 else (if t.toInt < 0 then 0 else if 999 < t.toInt then 999 else t.toInt)
def raV (n : Nat → Int32) (k : Nat) (p l y : Int32) : Nat → Int32 := fun i => if i = 0 then l else if i = 1 then n (9 + k) else if i = 2 then y else p
def raS (n : Nat → Int32) (k : Nat) (p l y : Int32) : Int32 := if (n 345).toInt ≤ 0 then l * n (9 + k) / (50 : Int32) - (2 : Int32) * y else evR n 0 (raV n k p l y)
def strI (n : Nat → Int32) (k : Nat) (p l y : Int32) : Int := if p.toInt < (n (14 + k)).toInt then 0 else clS (raS n k p l y) (n 8)
theorem cl1 {t z z2 s : Int32} (h1 : (z.toInt = 999 ∧ 999 ≤ t.toInt) ∨ (z.toInt = t.toInt ∧ t.toInt ≤ 999)) (h2 : (z2.toInt = 0 ∧ z.toInt ≤ 0) ∨ (z2.toInt = z.toInt ∧ 0 ≤ z.toInt)) (h3 : ¬ s.toInt = 1) : z2.toInt = clS t s := by
  unfold clS
  rw [if_neg h3]
  repeat' split
  all_goals omega
theorem cl2 {t z z2 z3 s : Int32} (h1 : (z.toInt = 999 ∧ 999 ≤ t.toInt) ∨ (z.toInt = t.toInt ∧ t.toInt ≤ 999)) (h2 : (z2.toInt = 0 ∧ z.toInt ≤ 0) ∨ (z2.toInt = z.toInt ∧ 0 ≤ z.toInt)) (h3 : s.toInt = 1) (h4 : z3.toInt = z2.toInt / 2) : z3.toInt = clS t s := by
  unfold clS
  rw [if_pos h3, h4]
  repeat' split
  all_goals omega
theorem x1given {b w : Nat} {M : mM} {r : Int32} (h : SP_X1_isGiven b w M r) : (r.toInt = 0 ∧ (M.1 (1, b, w) 2).toInt ≤ 0) ∨ (r.toInt = 1 ∧ 0 < (M.1 (1, b, w) 2).toInt) := by
  have q0 := il_0
  have q1 := il_1
  refine xE_SP_X1_isGiven h (fun z1_ e2_ => ⟨(fun h3_ hr_ => ?_), (fun h3_ hr_ => ?_)⟩)
  all_goals (have y1 := eT e2_; have y2 := eT hr_; omega)
theorem x12has {u : Nat} {v : Int32} {M : mM} {r : Int32} (h : SP_X12_hasText v M r) (hv : v.toInt = u) : (r.toInt = 0 ∧ (M.1 (50, 0, 0) (345 + 50 * u)).toInt ≤ 0) ∨ (r.toInt = 1 ∧ 0 < (M.1 (50, 0, 0) (345 + 50 * u)).toInt) := by
  have q0 := il_0
  have q1 := il_1
  refine xE_SP_X12_hasText h (fun z1_ h2_ z3_ h4_ j7_ h8_ z5_ e6_ => ⟨(fun h9_ hr_ => ?_), (fun h9_ hr_ => ?_)⟩)
  all_goals
    obtain rfl : j7_ = 345 + 50 * u := by omega
    have y1 := eT e6_
    have y2 := eT hr_
    omega
theorem sval {M M1 M2 M3 M4 : mM} {c : rf} {a0 a1 a2 a3 : Int32} (h1 : M1 = up M c 0 a0) (h2 : M2 = up M1 c 1 a1) (h3 : M3 = up M2 c 2 a2) (h4 : M4 = up M3 c 3 a3) : ∀ i, i < 4 → M4.1 c i = if i = 0 then a0 else if i = 1 then a1 else if i = 2 then a2 else a3 := fun i hi => by
  obtain rfl | rfl | rfl | rfl : i = 0 ∨ i = 1 ∨ i = 2 ∨ i = 3 := by omega
  · rw [zupN h4 (by simp), zupN h3 (by simp), zupN h2 (by simp), zupE h1 rfl rfl]; rfl
  · rw [zupN h4 (by simp), zupN h3 (by simp), zupE h2 rfl rfl]; rfl
  · rw [zupN h4 (by simp), zupE h3 rfl rfl]; rfl
  · rw [zupE h4 rfl rfl]; rfl
theorem x2strength {b : Nat} {v u t : Int32} {M M' : mM} {r : Int32} {n : Nat → Int32} (h : SP_X2_strength b v u t M r M') (hL : LWR b M.1 n) (hT : TXR b M.1 n) (hW : WT n) (hv : 0 ≤ v.toInt ∧ v.toInt ≤ 4) : r.toInt = strI n v.toInt.toNat (u / 100) (u - u / (100 : Int32) * (100 : Int32)) t := by
  have q0 := il_0
  obtain ⟨-, l2, l3⟩ := hL
  have T := hT 0 (by omega)
  simp only [Nat.mul_zero, Nat.add_zero] at T
  have s8 := l2 2 (by omega)
  unfold strI
  refine xE_SP_X2_strength h (fun z1_ h2_ z3_ h4_ => ⟨(fun h5_ hr_ hM_ => ?_), (fun h5_ => ⟨(fun h6_ hr_ hM_ => ?_), (fun h6_ j9_ h10_ z7_ e8_ => ⟨(fun h11_ j14_ h15_ z12_ e13_ z16_ h17_ z18_ h19_ z20_ h21_ z22_ h23_ r24_ hs28_ h27_ => ⟨(fun h29_ z30_ h31_ z32_ h33_ z34_ e35_ => ⟨(fun h36_ hr_ hM_ => ?_), (fun h36_ z37_ h38_ hr_ hM_ => ?_)⟩), (fun h29_ M39_ hM40_ j45_ h46_ z43_ e44_ M47_ hM48_ M51_ hM52_ M55_ hM56_ _ M60_ _ hF64_ r59_ hs66_ z67_ h68_ z69_ h70_ z71_ e72_ => ⟨(fun h73_ hr_ hM_ => ?_), (fun h73_ z74_ h75_ hr_ hM_ => ?_)⟩)⟩), (fun h11_ hr_ hM_ => ?_)⟩)⟩)⟩)
  · omega
  · omega
  · obtain rfl : j9_ = v.toInt.toNat := by omega
    obtain rfl : j14_ = v.toInt.toNat := by omega
    have y0 := eT e8_
    rw [(l3 _ (by omega)).2] at y0
    have g := x1given hs28_
    rw [T.1] at g
    rw [h2_] at h11_
    rw [if_neg (by omega), hr_]
    have er : z22_ = raS n v.toInt.toNat (u / 100) (u - u / (100 : Int32) * (100 : Int32)) t := by
      unfold raS
      rw [if_pos (show (n 345).toInt ≤ 0 by omega), h23_, h21_, h19_, h17_, e13_, (l3 _ (by omega)).1, h4_]
    rw [← er]
    exact cl1 h31_ h33_ (by rw [← s8, ← e35_]; exact h36_)
  · obtain rfl : j9_ = v.toInt.toNat := by omega
    obtain rfl : j14_ = v.toInt.toNat := by omega
    have y0 := eT e8_
    rw [(l3 _ (by omega)).2] at y0
    have g := x1given hs28_
    rw [T.1] at g
    rw [h2_] at h11_
    rw [if_neg (by omega), hr_]
    have er : z22_ = raS n v.toInt.toNat (u / 100) (u - u / (100 : Int32) * (100 : Int32)) t := by
      unfold raS
      rw [if_pos (show (n 345).toInt ≤ 0 by omega), h23_, h21_, h19_, h17_, e13_, (l3 _ (by omega)).1, h4_]
    rw [← er]
    exact cl2 h31_ h33_ (by rw [← s8, ← e35_]; exact h36_) h38_
  · obtain rfl : j9_ = v.toInt.toNat := by omega
    obtain rfl : j14_ = v.toInt.toNat := by omega
    obtain rfl : j45_ = v.toInt.toNat := by omega
    have y0 := eT e8_
    rw [(l3 _ (by omega)).2] at y0
    have g := x1given hs28_
    rw [T.1] at g
    rw [h2_] at h11_
    have er : r59_ = raS n v.toInt.toNat (u / 100) (u - u / (100 : Int32) * (100 : Int32)) t := by
      unfold raS
      rw [if_neg (show ¬ (n 345).toInt ≤ 0 by omega)]
      have k : ∀ (c : rf) (j : Nat), c.1 ≠ 29 → M55_.1 c j = M.1 c j := fun c j hc => by
        rw [zupR hM56_ hc, zupR hM52_ hc, zupR hM48_ hc, zupR hM40_ hc]
      refine x1work (nn := 4) hs66_ (by omega) hW (by rw [k _ _ (by first | decide | simp | (dsimp only; omega))]; exact T.1) (fun i hi => by rw [k _ _ (by first | decide | simp | (dsimp only; omega))]; exact T.2 i hi) (fun i hi => ?_) (show 0 < (n 345).toInt by omega)
      rw [sval hM40_ hM48_ hM52_ hM56_ i hi, e44_, zupR hM40_ (by first | decide | simp | (dsimp only; omega)), (l3 _ (by omega)).1, h4_, h2_]; rfl
    rw [if_neg (by omega), hr_, ← er]
    have s9 : M60_.1 (2, b, 0) 2 = n 8 := by rw [S1_c hF64_ (by first | decide | simp | (dsimp only; omega)), zupR hM56_ (by first | decide | simp | (dsimp only; omega)), zupR hM52_ (by first | decide | simp | (dsimp only; omega)), zupR hM48_ (by first | decide | simp | (dsimp only; omega)), zupR hM40_ (by first | decide | simp | (dsimp only; omega))]; exact s8
    exact cl1 h68_ h70_ (by rw [← s9, ← e72_]; exact h73_)
  · obtain rfl : j9_ = v.toInt.toNat := by omega
    obtain rfl : j14_ = v.toInt.toNat := by omega
    obtain rfl : j45_ = v.toInt.toNat := by omega
    have y0 := eT e8_
    rw [(l3 _ (by omega)).2] at y0
    have g := x1given hs28_
    rw [T.1] at g
    rw [h2_] at h11_
    have er : r59_ = raS n v.toInt.toNat (u / 100) (u - u / (100 : Int32) * (100 : Int32)) t := by
      unfold raS
      rw [if_neg (show ¬ (n 345).toInt ≤ 0 by omega)]
      have k : ∀ (c : rf) (j : Nat), c.1 ≠ 29 → M55_.1 c j = M.1 c j := fun c j hc => by
        rw [zupR hM56_ hc, zupR hM52_ hc, zupR hM48_ hc, zupR hM40_ hc]
      refine x1work (nn := 4) hs66_ (by omega) hW (by rw [k _ _ (by first | decide | simp | (dsimp only; omega))]; exact T.1) (fun i hi => by rw [k _ _ (by first | decide | simp | (dsimp only; omega))]; exact T.2 i hi) (fun i hi => ?_) (show 0 < (n 345).toInt by omega)
      rw [sval hM40_ hM48_ hM52_ hM56_ i hi, e44_, zupR hM40_ (by first | decide | simp | (dsimp only; omega)), (l3 _ (by omega)).1, h4_, h2_]; rfl
    rw [if_neg (by omega), hr_, ← er]
    have s9 : M60_.1 (2, b, 0) 2 = n 8 := by rw [S1_c hF64_ (by first | decide | simp | (dsimp only; omega)), zupR hM56_ (by first | decide | simp | (dsimp only; omega)), zupR hM52_ (by first | decide | simp | (dsimp only; omega)), zupR hM48_ (by first | decide | simp | (dsimp only; omega)), zupR hM40_ (by first | decide | simp | (dsimp only; omega))]; exact s8
    exact cl2 h68_ h70_ (by rw [← s9, ← e72_]; exact h73_) h75_
  · obtain rfl : j9_ = v.toInt.toNat := by omega
    have y0 := eT e8_
    rw [(l3 _ (by omega)).2] at y0
    rw [h2_] at h11_
    rw [if_pos (by omega), hr_]; exact il_0
theorem x12strength {v u t s : Int32} {M M' : mM} {r : Int32} (h : SP_X12_strength v u t s M r M') (hD : InvD M) (hx : ∀ i : Nat, (i : Int) < (M.1 (50, 0, 0) 345).toInt → cOK 4 (M.1 (50, 0, 0) (346 + i))) (hv : 0 ≤ v.toInt ∧ v.toInt ≤ 4) : r.toInt = strI (M.1 (50, 0, 0)) v.toInt.toNat u t s := by
  have q0 := il_0
  unfold strI
  unfold SP_X12_strength at h
  obtain ⟨z1_, h2_, j5_, h6_, z3_, e4_, M7_, hM8_, M11_, hM12_, M15_, hM16_, M19_, hM20_, hI21_, r23_, hs27_, h26_, h⟩ := h
  obtain rfl : j5_ = 9 + v.toInt.toNat := by omega
  have k : ∀ (c : rf) (j : Nat), c.1 ≠ 58 → M19_.1 c j = M.1 c j := fun c j hc => by
    rw [zupR hM20_ hc, zupR hM16_ hc, zupR hM12_ hc, zupR hM8_ hc]
  have k50 : M19_.1 (50, 0, 0) = M.1 (50, 0, 0) := funext fun j => k _ _ (by first | decide | simp | (dsimp only; omega))
  have g := x12has (u := 0) hs27_ (by first | decide | simp | (dsimp only; omega))
  rw [k50] at g
  simp only [Nat.mul_zero, Nat.add_zero] at g
  rcases h with ⟨h28_, z29_, h30_, z31_, h32_, z33_, h34_, z35_, h36_, z37_, h38_, z39_, h40_, z41_, e42_, h⟩ | ⟨h28_, M61_, -, hF65_, r60_, hs67_, z68_, h69_, z70_, h71_, z72_, e73_, h⟩
  · have er : z35_ = raS (M.1 (50, 0, 0)) v.toInt.toNat u t s := by
      unfold raS
      rw [if_pos (by omega), h36_, h34_, h32_, h30_, e4_]
    have s9 : z41_ = M.1 (50, 0, 0) 8 := by rw [e42_, k50]
    rcases h with ⟨h43_, z44_, h45_, j48_, h49_, z46_, e47_, h⟩ | ⟨h43_, z51_, h52_, z53_, h54_, j57_, h58_, z55_, e56_, h⟩
    · obtain rfl : j48_ = 14 + v.toInt.toNat := by omega
      rw [k50] at e47_
      have y := eT e47_
      rcases h with ⟨h50_, hr_, hM_⟩ | ⟨h50_, hr_, hM_⟩
      · rw [if_neg (by omega), hr_, ← er]
        exact cl1 h38_ h40_ (by rw [← s9]; exact h43_)
      · rw [if_pos (by omega), hr_]; exact il_0
    · obtain rfl : j57_ = 14 + v.toInt.toNat := by omega
      rw [k50] at e56_
      have y := eT e56_
      rcases h with ⟨h50_, hr_, hM_⟩ | ⟨h50_, hr_, hM_⟩
      · rw [if_neg (by omega), hr_, ← er]
        exact cl2 h38_ h40_ (by rw [← s9]; exact h43_) h52_
      · rw [if_pos (by omega), hr_]; exact il_0
  · have er : r60_ = raS (M.1 (50, 0, 0)) v.toInt.toNat u t s := by
      unfold raS
      rw [if_neg (by omega), ← k50]
      refine x12given (nn := 4) hs67_ hI21_ ⟨by decide, by omega⟩ (fun i hi => ?_) (fun i hi => ?_) (by rw [k50]; simp only [Nat.mul_zero, Nat.add_zero]; omega)
      · rw [k50] at hi ⊢
        simp only [Nat.mul_zero, Nat.add_zero] at hi ⊢
        exact hx i hi
      · rw [sval hM8_ hM12_ hM16_ hM20_ i hi, e4_]
        unfold raV
        rw [k50]
    have g50 : M61_.1 (50, 0, 0) = M.1 (50, 0, 0) := (funext fun j => hF65_ _ _ (by simp [S_c_X12_given])).trans k50
    rw [g50] at e73_
    rcases h with ⟨h43_, z44_, h45_, j48_, h49_, z46_, e47_, h⟩ | ⟨h43_, z51_, h52_, z53_, h54_, j57_, h58_, z55_, e56_, h⟩
    · obtain rfl : j48_ = 14 + v.toInt.toNat := by omega
      rw [g50] at e47_
      have y := eT e47_
      rcases h with ⟨h50_, hr_, hM_⟩ | ⟨h50_, hr_, hM_⟩
      · rw [if_neg (by omega), hr_, ← er]
        exact cl1 h69_ h71_ (by rw [← e73_]; exact h43_)
      · rw [if_pos (by omega), hr_]; exact il_0
    · obtain rfl : j57_ = 14 + v.toInt.toNat := by omega
      rw [g50] at e56_
      have y := eT e56_
      rcases h with ⟨h50_, hr_, hM_⟩ | ⟨h50_, hr_, hM_⟩
      · rw [if_neg (by omega), hr_, ← er]
        exact cl2 h69_ h71_ (by rw [← e73_]; exact h43_) h52_
      · rw [if_pos (by omega), hr_]; exact il_0
end
section
/-! late, heard -/
def lateN (s y : Int) : Int := if s % 2 = 1 then 8 * y else 6 * y
theorem emod_bits (a : Int32) (k : Nat) (hk : k ≤ 30) : ((a.toBitVec.toNat % 2 ^ k : Nat) : Int) = a.toInt % ((2 ^ k : Nat) : Int) := by
  have h : a.toInt = a.toBitVec.toInt := rfl
  have hd : (2 ^ k : Nat) ∣ 2 ^ 32 := Nat.pow_dvd_pow 2 (by omega)
  obtain ⟨d, hd⟩ := hd
  rw [h, BitVec.toInt_eq_toNat_cond]
  split
  · exact Int.natCast_emod _ _
  · rw [hd]
    rw [Int.natCast_emod, Int.natCast_mul, Int.sub_mul_emod_self_left]
theorem and_mod (a : Int32) {m : Int32} (k : Nat) (hm : m.toBitVec.toNat = 2 ^ k - 1) (hk : k ≤ 30) : (a &&& m).toInt = a.toInt % ((2 ^ k : Nat) : Int) := by
  have h3 : 2 ^ k ≤ 2 ^ 30 := Nat.pow_le_pow_right (by first | decide | simp | (dsimp only; omega)) hk
  have h4 := Nat.mod_lt a.toBitVec.toNat (Nat.two_pow_pos k)
  rw [pk_and a k hm, nI_toInt (by omega), emod_bits a k hk]
theorem and1 {v : Int32} (h : 0 ≤ v.toInt ∧ v.toInt ≤ 7) : (v &&& (1 : Int32)).toInt = v.toInt % 2 := and_mod v 1 (by first | decide | simp | (dsimp only; omega)) (by omega)
theorem and3 (v : Int32) : (v &&& (3 : Int32)).toInt = v.toInt % 4 := and_mod v 2 (by first | decide | simp | (dsimp only; omega)) (by omega)
theorem and7 (v : Int32) : (v &&& (7 : Int32)).toInt = v.toInt % 8 := and_mod v 3 (by first | decide | simp | (dsimp only; omega)) (by omega)
theorem x2late {v u : Int32} {M : mM} {r : Int32} (h : SP_X2_late v u M r) (hv : 0 ≤ v.toInt ∧ v.toInt ≤ 7) (hu : 0 ≤ u.toInt ∧ u.toInt ≤ 16) : r.toInt = lateN v.toInt u.toInt := by
  have i6 : (6 : Int32).toInt = 6 := by decide
  have i8 : (8 : Int32).toInt = 8 := by decide
  unfold lateN
  have a := and1 hv
  refine xE_SP_X2_late h (fun z1_ h3_ h2_ => ⟨(fun h4_ z5_ h6_ hr_ => ?_), (fun h4_ z7_ h8_ hr_ => ?_)⟩)
  · rw [← h3_] at a
    rw [hr_, h6_, mulI rfl i6 (by omega) (by omega), if_neg (by omega)]; omega
  · rw [← h3_] at a
    rw [hr_, h8_, mulI rfl i8 (by omega) (by omega), if_pos (by omega)]; omega
theorem x12late {v u : Int32} {M : mM} {r : Int32} (h : SP_X12_late v u M r) (hv : 0 ≤ v.toInt ∧ v.toInt ≤ 7) (hu : 0 ≤ u.toInt ∧ u.toInt ≤ 16) : r.toInt = lateN v.toInt u.toInt := by
  have i6 : (6 : Int32).toInt = 6 := by decide
  have i8 : (8 : Int32).toInt = 8 := by decide
  have i2 : (2 : Int32).toInt = 2 := by decide
  unfold lateN
  have a := remI (x := v) (y := (2 : Int32)) rfl i2 hv.1 (by omega)
  refine xE_SP_X12_late h (fun z1_ h2_ => ⟨(fun h3_ z4_ h5_ hr_ => ?_), (fun h3_ z6_ h7_ hr_ => ?_)⟩)
  · rw [← h2_] at a
    rw [hr_, h5_, mulI i6 rfl (by omega) (by omega), if_neg (by omega)]
  · rw [← h2_] at a
    rw [hr_, h7_, mulI i8 rfl (by omega) (by omega), if_pos (by omega)]
def heV (n : Nat → Int32) (la st : Int32) : Nat → Int32 := fun i => if i = 0 then st else if i = 1 then n 6 else la
def hdS (n : Nat → Int32) (ears p : Int) (la st : Int32) : Prop := p ≤ ears ∧ (n 7).toInt < la.toInt ∧ ¬ st.toInt = 0 ∧ (((n 395).toInt ≤ 0 ∧ (n 6).toInt < st.toInt) ∨ (0 < (n 395).toInt ∧ ¬ (evR n 1 (heV n la st)).toInt = 0))
theorem sval3 {M M1 M2 M3 : mM} {c : rf} {a0 a1 a2 : Int32} (h1 : M1 = up M c 0 a0) (h2 : M2 = up M1 c 1 a1) (h3 : M3 = up M2 c 2 a2) : ∀ i, i < 3 → M3.1 c i = if i = 0 then a0 else if i = 1 then a1 else a2 := fun i hi => by
  obtain rfl | rfl | rfl : i = 0 ∨ i = 1 ∨ i = 2 := by omega
  · rw [zupN h3 (by simp), zupN h2 (by simp), zupE h1 rfl rfl]; rfl
  · rw [zupN h3 (by simp), zupE h2 rfl rfl]; rfl
  · rw [zupE h3 rfl rfl]; rfl
theorem x2isHeard {b : Nat} {v u t s : Int32} {M M' : mM} {r : Int32} {n : Nat → Int32} (h : SP_X2_isHeard b v u t s M r M') (hL : LWR b M.1 n) (hT : TXR b M.1 n) (hW : WT n) : (r.toInt = 1 ∧ hdS n v.toInt (u / (100 : Int32)).toInt t s) ∨ (r.toInt = 0 ∧ ¬ hdS n v.toInt (u / (100 : Int32)).toInt t s) := by
  have q0 := il_0
  have q1 := il_1
  obtain ⟨-, l2, l3⟩ := hL
  have T := hT 1 (by omega)
  simp only [Nat.mul_one, Nat.reduceAdd] at T
  have s6 : M.1 (2, b, 0) 0 = n 6 := l2 0 (by omega)
  have s7 : M.1 (2, b, 0) 1 = n 7 := l2 1 (by omega)
  unfold hdS
  refine xE_SP_X2_isHeard h (fun z1_ h2_ => ⟨(fun h3_ hr_ hM_ => ?_), (fun h3_ z4_ e5_ => ⟨(fun h6_ hr_ hM_ => ?_), (fun h6_ => ⟨(fun h7_ r8_ hs12_ h11_ => ⟨(fun h13_ M14_ hM15_ z18_ e19_ M20_ hM21_ M24_ hM25_ _ M29_ _ hF33_ r28_ hs35_ => ⟨(fun h36_ hr_ hM_ => ?_), (fun h36_ hr_ hM_ => ?_)⟩), (fun h13_ z37_ e38_ => ⟨(fun h39_ hr_ hM_ => ?_), (fun h39_ hr_ hM_ => ?_)⟩)⟩), (fun h7_ hr_ hM_ => ?_)⟩)⟩)⟩)
  · have := eT hr_; rw [h2_] at h3_; omega
  · have := eT hr_; have y := eT e5_; rw [s7] at y; omega
  · have g := x1given hs12_
    rw [T.1] at g
    have y := eT e5_; rw [s7] at y
    rw [h2_] at h3_
    have k : ∀ (c : rf) (j : Nat), c.1 ≠ 29 → M24_.1 c j = M.1 c j := fun c j hc => by
      rw [zupR hM25_ hc, zupR hM21_ hc, zupR hM15_ hc]
    have er : r28_ = evR n 1 (heV n t s) := by
      refine x1work (nn := 3) hs35_ (by omega) hW (by rw [k _ _ (by first | decide | simp | (dsimp only; omega))]; exact T.1) (fun i hi => by rw [k _ _ (by first | decide | simp | (dsimp only; omega))]; exact T.2 i hi) (fun i hi => ?_) (show 0 < (n 395).toInt by omega)
      rw [sval3 hM15_ hM21_ hM25_ i hi, e19_, zupR hM15_ (by first | decide | simp | (dsimp only; omega)), s6]; rfl
    have := eT hr_
    rw [er] at h36_
    omega
  · have g := x1given hs12_
    rw [T.1] at g
    have y := eT e5_; rw [s7] at y
    rw [h2_] at h3_
    have k : ∀ (c : rf) (j : Nat), c.1 ≠ 29 → M24_.1 c j = M.1 c j := fun c j hc => by
      rw [zupR hM25_ hc, zupR hM21_ hc, zupR hM15_ hc]
    have er : r28_ = evR n 1 (heV n t s) := by
      refine x1work (nn := 3) hs35_ (by omega) hW (by rw [k _ _ (by first | decide | simp | (dsimp only; omega))]; exact T.1) (fun i hi => by rw [k _ _ (by first | decide | simp | (dsimp only; omega))]; exact T.2 i hi) (fun i hi => ?_) (show 0 < (n 395).toInt by omega)
      rw [sval3 hM15_ hM21_ hM25_ i hi, e19_, zupR hM15_ (by first | decide | simp | (dsimp only; omega)), s6]; rfl
    have := eT hr_
    rw [er] at h36_
    omega
  · have g := x1given hs12_
    rw [T.1] at g
    have y := eT e5_; rw [s7] at y
    have y2 := eT e38_; rw [s6] at y2
    rw [h2_] at h3_
    have := eT hr_
    omega
  · have g := x1given hs12_
    rw [T.1] at g
    have y := eT e5_; rw [s7] at y
    have y2 := eT e38_; rw [s6] at y2
    rw [h2_] at h3_
    have := eT hr_
    omega
  · have := eT hr_; omega
/-- whether a kind would be heard, by both -/
def heS (n : Nat → Int32) (ears : Int) (k : Nat) (p l s y : Int32) : Prop := hdS n ears p.toInt (Int32.ofInt (lateN s.toInt y.toInt)) (Int32.ofInt (strI n k p l y))
theorem x2hears {b : Nat} {v u t s q : Int32} {M M' : mM} {r : Int32} {n : Nat → Int32} (h : SP_X2_hears b v u t s q M r M') (hL : LWR b M.1 n) (hT : TXR b M.1 n) (hW : WT n) (hu : 0 ≤ u.toInt ∧ u.toInt ≤ 4) (hs : 0 ≤ s.toInt ∧ s.toInt ≤ 16) (hq : 0 ≤ q.toInt ∧ q.toInt ≤ 7) :
    (r.toInt = 1 ∧ heS n v.toInt u.toInt.toNat (t / (100 : Int32)) (t - t / (100 : Int32) * (100 : Int32)) q s) ∨ (r.toInt = 0 ∧ ¬ heS n v.toInt u.toInt.toNat (t / (100 : Int32)) (t - t / (100 : Int32) * (100 : Int32)) q s) := by
  unfold heS
  refine xE_SP_X2_hears h (fun r1_ hs5_ M7_ _ hF11_ r6_ hs13_ M15_ _ hF19_ r14_ hs21_ h17_ hr_ hM_ => ?_)
  have a := x2late hs5_ hq hs
  have c := x2strength hs13_ hL hT hW hu
  have k : ∀ (d : rf) (j : Nat), d.1 ≠ 29 → d.1 ≠ 25 → M7_.1 d j = M.1 d j := fun d j h1 h2 => hF11_ d j (fun q => by simp only [S_c_X2_strength, or_false] at q; omega)
  have g := x2isHeard (n := n) hs21_ ⟨by rw [k _ _ (by first | decide | simp | (dsimp only; omega)) (by first | decide | simp | (dsimp only; omega))]; exact hL.1, fun j hj => by rw [k _ _ (by simp) (by simp)]; exact hL.2.1 j hj, fun j hj => by rw [k _ _ (by simp) (by simp), k _ _ (by simp) (by simp)]; exact hL.2.2 j hj⟩ (fun w hw => ⟨by rw [k _ _ (by simp) (by simp)]; exact (hT w hw).1, fun i hi => by rw [k _ _ (by simp) (by simp)]; exact (hT w hw).2 i hi⟩) hW
  rw [← ofIe a, ← ofIe c, hr_]
  exact g
theorem x12isHeard {q v u t s p : Int32} {M M' : mM} {r : Int32} (h : SP_X12_isHeard q v u t s p M r M') (hD : InvD M) (hx : ∀ w, w < 3 → ∀ i : Nat, (i : Int) < (M.1 (50, 0, 0) (345 + 50 * w)).toInt → cOK (nnU w) (M.1 (50, 0, 0) (346 + 50 * w + i))) (hv : 0 ≤ v.toInt ∧ v.toInt ≤ 4) (hs : 0 ≤ s.toInt ∧ s.toInt ≤ 7) (hp : 0 ≤ p.toInt ∧ p.toInt ≤ 16) :
    (r.toInt = 1 ∧ heS (M.1 (50, 0, 0)) q.toInt v.toInt.toNat u t s p) ∨ (r.toInt = 0 ∧ ¬ heS (M.1 (50, 0, 0)) q.toInt v.toInt.toNat u t s p) := by
  have q0 := il_0
  have q1 := il_1
  unfold heS
  unfold SP_X12_isHeard at h
  obtain ⟨r1_, hs5_, M7_, hI10_, hF11_, r6_, hs13_, h⟩ := h
  have a := x12late hs5_ hs hp
  have x0 := hx 0 (by omega)
  simp only [Nat.mul_zero, Nat.add_zero] at x0
  have c := x12strength hs13_ hD x0 hv
  rw [← ofIe a, ← ofIe c]
  have k7 : M7_.1 (50, 0, 0) = M.1 (50, 0, 0) := funext fun j => hF11_ _ _ (by simp [S_c_X12_strength])
  unfold hdS
  rcases h with ⟨h14_, hr_, -⟩ | ⟨h14_, z15_, e16_, h⟩
  · have := eT hr_; omega
  · rw [k7] at e16_
    have y7 := eT e16_
    rcases h with ⟨h17_, hr_, -⟩ | ⟨h17_, h⟩
    · have := eT hr_; omega
    · rcases h with ⟨h18_, M19_, hM20_, z23_, e24_, M25_, hM26_, M29_, hM30_, hI31_, r33_, hs37_, h36_, h⟩ | ⟨h18_, hr_, -⟩
      · have k29 : ∀ (d : rf) (j : Nat), d.1 ≠ 58 → M29_.1 d j = M7_.1 d j := fun d j hc => by
          rw [zupR hM30_ hc, zupR hM26_ hc, zupR hM20_ hc]
        have k50 : M29_.1 (50, 0, 0) = M.1 (50, 0, 0) := (funext fun j => k29 _ _ (by first | decide | simp | (dsimp only; omega))).trans k7
        have g := x12has (u := 1) hs37_ (by first | decide | simp | (dsimp only; omega))
        rw [k50] at g
        simp only [Nat.mul_one, Nat.reduceAdd] at g
        rcases h with ⟨h38_, z39_, e40_, h⟩ | ⟨h38_, M43_, hI46_, hF47_, r42_, hs49_, h⟩
        · rw [k50] at e40_
          have y6 := eT e40_
          rcases h with ⟨h41_, hr_, -⟩ | ⟨h41_, hr_, -⟩
          · have := eT hr_; omega
          · have := eT hr_; omega
        · have er : r42_ = evR (M.1 (50, 0, 0)) 1 (heV (M.1 (50, 0, 0)) r1_ r6_) := by
            rw [← k50]
            refine x12given (nn := 3) hs49_ hI31_ ⟨by decide, by omega⟩ (fun i hi => ?_) (fun i hi => ?_) (by rw [k50]; simp only [Nat.mul_one, Nat.reduceAdd]; omega)
            · rw [k50] at hi ⊢
              exact hx 1 (by omega) i hi
            · rw [sval3 hM20_ hM26_ hM30_ i hi, e24_, zupR hM20_ (by first | decide | simp | (dsimp only; omega)), k7, k50]
              unfold heV
              rfl
          rcases h with ⟨h50_, hr_, -⟩ | ⟨h50_, hr_, -⟩
          · have := eT hr_; rw [er] at h50_; omega
          · have := eT hr_; rw [er] at h50_; omega
      · have := eT hr_; omega
end
section
/-! kinds of walkers -/
def reachI (k : Int) : Int := if k = 0 then 3 else if k = 1 then 12 else if k = 2 then 1 else if k = 3 then 6 else if k = 4 then 0 else if k = 5 then 6 else if k = 6 then 5 else 10
def earsI (k : Int) : Int := if k = 6 then 5 else 9
def speedI (k : Int) : Int := if k = 7 then 2 else 1
def abI (k : Int) : Int := if k ≤ 0 then -1 else if k = 5 ∨ k = 7 then 1 else if k = 6 then 3 else 0
def dpI (k : Int) : Int := if k < 0 then 0 else if k = 0 then 1 else if k ≤ 4 then 2 else 3
def undP (k o : Int) : Prop := 0 ≤ k ∧ (o = k ∨ o = 0 ∨ ((k = 5 ∨ k = 7) ∧ o = 1) ∨ (k = 6 ∧ o = 3))
theorem tbl_re : ∀ j : Nat, j < 8 → (([3, 12, 1, 6, 0, 6, 5, 10] : List Int32).getD j 0).toInt = reachI (j : Int) := by decide +kernel
theorem tbl_ears : ∀ j : Nat, j < 8 → (([9, 9, 9, 9, 9, 9, 5, 9] : List Int32).getD j 0).toInt = earsI (j : Int) := by decide +kernel
theorem tbl_spd : ∀ j : Nat, j < 8 → (([1, 1, 1, 1, 1, 1, 1, 2] : List Int32).getD j 0).toInt = speedI (j : Int) := by decide +kernel
theorem tbl_abv : ∀ j : Nat, j < 8 → (([-1, 0, 0, 0, 0, 1, 3, 1] : List Int32).getD j 0).toInt = abI (j : Int) := by decide +kernel
theorem reachI_b (k : Int) : 0 ≤ reachI k ∧ reachI k ≤ 12 := by
  unfold reachI
  repeat' split
  all_goals omega
theorem x9reach {b w : Nat} {M : mM} {r : Int32} (h : SP_X9_reach b w M r) (hk : 0 ≤ (M.1 (9, b, w) 0).toInt ∧ (M.1 (9, b, w) 0).toInt ≤ 7) : r.toInt = reachI (M.1 (9, b, w) 0).toInt := by
  refine xE_SP_X9_reach h (fun z1_ e2_ => ⟨(fun h3_ hr_ => ?_), (fun h3_ => ⟨(fun h6_ hr_ => ?_), (fun h6_ j11_ h12_ z9_ e10_ h13_ hr_ => ?_)⟩)⟩)
  · have := eT e2_; omega
  · have := eT e2_; omega
  · have y := eT e2_
    rw [eT hr_, e10_, tbl_re j11_ (by omega), h12_, y]
theorem x9ears {b w : Nat} {M : mM} {r : Int32} (h : SP_X9_ears b w M r) (hk : 0 ≤ (M.1 (9, b, w) 0).toInt ∧ (M.1 (9, b, w) 0).toInt ≤ 7) : r.toInt = earsI (M.1 (9, b, w) 0).toInt := by
  refine xE_SP_X9_ears h (fun z1_ e2_ => ⟨(fun h3_ hr_ => ?_), (fun h3_ => ⟨(fun h6_ hr_ => ?_), (fun h6_ j11_ h12_ z9_ e10_ h13_ hr_ => ?_)⟩)⟩)
  · have := eT e2_; omega
  · have := eT e2_; omega
  · have y := eT e2_
    rw [eT hr_, e10_, tbl_ears j11_ (by omega), h12_, y]
theorem x9speed {b w : Nat} {M : mM} {r : Int32} (h : SP_X9_speed b w M r) (hk : 0 ≤ (M.1 (9, b, w) 0).toInt ∧ (M.1 (9, b, w) 0).toInt ≤ 7) : r.toInt = speedI (M.1 (9, b, w) 0).toInt := by
  refine xE_SP_X9_speed h (fun z1_ e2_ => ⟨(fun h3_ hr_ => ?_), (fun h3_ => ⟨(fun h6_ hr_ => ?_), (fun h6_ j11_ h12_ z9_ e10_ h13_ hr_ => ?_)⟩)⟩)
  · have := eT e2_; omega
  · have := eT e2_; omega
  · have y := eT e2_
    rw [eT hr_, e10_, tbl_spd j11_ (by omega), h12_, y]
theorem x9above {v : Int32} {M : mM} {r : Int32} (h : SP_X9_kindAbove v M r) (hv : -1 ≤ v.toInt ∧ v.toInt ≤ 7) : r.toInt = abI v.toInt := by
  have qm := il_m1
  unfold abI
  refine xE_SP_X9_kindAbove h ⟨(fun h1_ hr_ => ?_), (fun h1_ => ⟨(fun h2_ hr_ => ?_), (fun h2_ j5_ h6_ z3_ e4_ hr_ => ?_)⟩)⟩
  · have := eT hr_; rw [if_pos (by omega)]; omega
  · omega
  · have e := tbl_abv j5_ (by omega)
    rw [← e4_, ← hr_, h6_] at e
    exact e
theorem und_step {k x o a : Int} (hx : 0 ≤ x ∧ x ≤ 7) (hn : ¬ x = o) (ha : a = abI x) (h : undP k o ↔ undP x o) : undP k o ↔ undP a o := by
  rw [h, ha]
  unfold undP abI
  repeat' split
  all_goals omega
theorem dp3 (k : Int) : 0 ≤ dpI k ∧ dpI k ≤ 3 := by
  unfold dpI
  repeat' split
  all_goals omega
theorem ab_rng (k : Int) : -1 ≤ abI k ∧ abI k ≤ 7 := by
  unfold abI
  repeat' split
  all_goals omega
theorem dp_ab {k : Int} (h : 0 ≤ k) (h7 : k ≤ 7) : dpI (abI k) + 1 ≤ dpI k := by
  rcases (show k = 0 ∨ k = 1 ∨ k = 2 ∨ k = 3 ∨ k = 4 ∨ k = 5 ∨ k = 6 ∨ k = 7 by omega) with rfl | rfl | rfl | rfl | rfl | rfl | rfl | rfl <;> decide
theorem x9isOf {b w : Nat} {v : Int32} {M : mM} {r : Int32} (h : SP_X9_isOf b w v M r) (hk : 0 ≤ (M.1 (9, b, w) 0).toInt ∧ (M.1 (9, b, w) 0).toInt ≤ 7) : (r.toInt = 1 ∧ undP (M.1 (9, b, w) 0).toInt v.toInt) ∨ (r.toInt = 0 ∧ ¬ undP (M.1 (9, b, w) 0).toInt v.toInt) := by
  have q0 := il_0
  have q1 := il_1
  refine xE_SP_X9_isOf h (fun z1_ e2_ v3_7 hv0_7 hv1_7 v2_7 hL_7 => ⟨(fun h4_ hr_ => ?_), (fun h4_ => ⟨(fun h5_ hr_ => ?_), (fun h5_ h6_ hr_ => ?_)⟩)⟩)
  all_goals
    have g := rind hL_7 (fun z => 0 ≤ z.1.toInt ∧ (-1 ≤ z.2.toInt ∧ z.2.toInt ≤ 7) ∧ z.1.toInt + dpI z.2.toInt ≤ 3 ∧ (undP (M.1 (9, b, w) 0).toInt v.toInt ↔ undP z.2.toInt v.toInt)) (by
      have y := eT e2_
      (try dsimp only)
      refine ⟨by omega, by omega, ?_, by rw [y]⟩
      first
        | (rw [il_0, Int.zero_add]; exact (dp3 _).2)
        | (unfold dpI; repeat' split; all_goals omega)) (fun x z hp hst => by
      obtain ⟨x1, x2⟩ := x
      obtain ⟨z1, z2⟩ := z
      (try dsimp only at hp hst ⊢)
      refine xE_ST_X9_isOf_7 hst (fun p_hv0_7 p_hv1_7 p_h4_ p_h5_ p_h6_ p_r7_ p_hs11_ p_z12_ p_h13_ p_hq_v3_7y p_hq_v2_7y => ?_)
      have a := x9above p_hs11_ hp.2.1
      rw [p_hq_v3_7y, p_hq_v2_7y]
      refine ⟨by omega, ?_, ?_, und_step ⟨p_h5_, hp.2.1.2⟩ p_h6_ a hp.2.2.2⟩
      · rw [a]
        exact ab_rng _
      · have d := hp.2.2.1
        rw [a, p_h13_]
        have e := dp_ab p_h5_ hp.2.1.2
        omega)
    (try dsimp only at g)
  · have := eT hr_
    have d := g.2.2.1
    unfold dpI at d
    repeat' split at d
    all_goals omega
  · have := eT hr_
    right
    refine ⟨by omega, fun u => ?_⟩
    have := g.2.2.2.mp u
    unfold undP at this
    omega
  · have := eT hr_
    left
    refine ⟨by omega, g.2.2.2.mpr ?_⟩
    unfold undP
    omega
theorem x12above {v : Int32} {M : mM} {r : Int32} (h : SP_X12_above v M r) (hv : 0 ≤ v.toInt ∧ v.toInt ≤ 7) : r.toInt = abI v.toInt := by
  have qm := il_m1
  have q0 := il_0
  have q1 := il_1
  have q3 : (3 : Int32).toInt = 3 := by decide
  unfold abI
  refine xE_SP_X12_above h ⟨(fun h1_ => ⟨(fun h2_ hr_ => ?_), (fun h2_ => ⟨(fun h3_ => ⟨(fun h4_ hr_ => ?_), (fun h4_ hr_ => ?_)⟩), (fun h3_ hr_ => ?_)⟩)⟩), (fun h1_ hr_ => ?_)⟩
  all_goals
    have := eT hr_
    repeat' split
    all_goals omega
theorem x12isUnder {v u : Int32} {M : mM} {r : Int32} (h : SP_X12_isUnder v u M r) (hk : 0 ≤ v.toInt ∧ v.toInt ≤ 7) : (r.toInt = 1 ∧ undP v.toInt u.toInt) ∨ (r.toInt = 0 ∧ ¬ undP v.toInt u.toInt) := by
  have q0 := il_0
  have q1 := il_1
  refine xE_SP_X12_isUnder h (fun v2_2 hL_2 => ⟨(fun h2_ h3_ hr_ => ?_), (fun h2_ h4_ h5_ hr_ => ?_)⟩)
  all_goals
    have g := rind hL_2 (fun z => (-1 ≤ z.toInt ∧ z.toInt ≤ 7) ∧ (undP v.toInt u.toInt ↔ undP z.toInt u.toInt)) ⟨by omega, Iff.rfl⟩ (fun x z hp hst => by
      (try dsimp only at hp hst ⊢)
      refine xE_ST_X12_isUnder_2 hst (fun p_h2_ p_h4_ p_r6_ p_hs10_ p_h9_ p_hq_v2_2y => ?_)
      have a := x12above p_hs10_ ⟨p_h2_, hp.1.2⟩
      rw [p_hq_v2_2y]
      refine ⟨?_, und_step ⟨p_h2_, hp.1.2⟩ p_h4_ a hp.2⟩
      rw [a]
      unfold abI
      repeat' split
      all_goals omega)
    (try dsimp only at g)
  · have := eT hr_
    right
    refine ⟨by omega, fun u => ?_⟩
    have := g.2.mp u
    unfold undP at this
    omega
  · have := eT hr_
    left
    refine ⟨by omega, g.2.mpr ?_⟩
    unfold undP
    omega
theorem x12kindOf {v : Int32} {M : mM} {r : Int32} (h : SP_X12_kindOf v M r) (hv : 0 ≤ v.toInt ∧ v.toInt ≤ 7) : r = M.1 (50, 0, 0) (180 + 9 * v.toInt.toNat) := by
  refine xE_SP_X12_kindOf h (fun r1_ hs5_ h4_ z6_ h7_ j10_ h11_ z8_ e9_ h12_ hr_ => ?_)
  obtain rfl : j10_ = 180 + 9 * v.toInt.toNat := by omega
  rw [hr_, e9_]
theorem x12reachOf {v : Int32} {M : mM} {r : Int32} (h : SP_X12_reachOf v M r) (hv : 0 ≤ v.toInt ∧ v.toInt ≤ 7) : r.toInt = reachI v.toInt := by
  have i3 : (3 : Int32).toInt = 3 := by decide
  have i0 := il_0
  have i1 := il_1
  unfold reachI
  refine xE_SP_X12_reachOf h ⟨(fun e1_ hr_ => ?_), (fun e1_ r2_ hs6_ h5_ z7_ h8_ hr_ => ?_), (fun e1_ hr_ => ?_), (fun e1_ r9_ hs13_ h12_ z14_ h15_ hr_ => ?_), (fun e1_ hr_ => ?_), (fun e1_ r16_ hs20_ h19_ z21_ h22_ hr_ => ?_), (fun e1_ r23_ hs27_ h26_ z28_ h29_ hr_ => ?_), (fun e1_ r30_ hs34_ h33_ z35_ h36_ hr_ => ?_)⟩
  all_goals
    have := eT hr_
    repeat' split
    all_goals omega
theorem x12reach {v : Int32} {M : mM} {r : Int32} (h : SP_X12_reach v M r) (hv : 0 ≤ v.toInt ∧ v.toInt ≤ 7) : r.toInt = reachI (M.1 (50, 0, 0) (180 + 9 * v.toInt.toNat)).toInt := by
  refine xE_SP_X12_reach h (fun r1_ hs5_ h4_ r6_ hs10_ h9_ hr_ => ?_)
  have a := x12kindOf hs5_ hv
  have c := x12reachOf hs10_ h4_
  rw [hr_, c, a]
theorem x12ears {v : Int32} {M : mM} {r : Int32} (h : SP_X12_ears v M r) (hv : 0 ≤ v.toInt ∧ v.toInt ≤ 7) : r.toInt = earsI (M.1 (50, 0, 0) (180 + 9 * v.toInt.toNat)).toInt := by
  have i5 : (5 : Int32).toInt = 5 := by decide
  have i9 : (9 : Int32).toInt = 9 := by decide
  refine xE_SP_X12_ears h (fun r1_ hs5_ h4_ => ⟨(fun h6_ hr_ => ?_), (fun h6_ hr_ => ?_)⟩)
  all_goals
    have a := x12kindOf hs5_ hv
    rw [← a]
    unfold earsI
    have := eT hr_
    split <;> omega
end
section
/-! what comes back from a side -/
def FrS (o : Nat → Int) (w x : Int) : Prop := o x.toNat = -1 ∨ o x.toNat = 100 + w
def FrM (o : Nat → Int) (w x : Int) : Prop := o x.toNat = -1 ∨ (o x.toNat = 100 + w ∧ 100 ≤ o x.toNat)
def EchoP (F : Int → Prop) (c s R y : Int) : Prop := (1 ≤ y ∧ y ≤ R ∧ (∀ j : Int, 1 ≤ j → j < y → 0 ≤ onI c s j ∧ F (onI c s j)) ∧ 0 ≤ onI c s y ∧ ¬ F (onI c s y)) ∨
  (y = 0 ∧ ((∀ j : Int, 1 ≤ j → j ≤ R → 0 ≤ onI c s j ∧ F (onI c s j)) ∨ ∃ e : Int, 1 ≤ e ∧ e ≤ R ∧ (∀ j : Int, 1 ≤ j → j < e → 0 ≤ onI c s j ∧ F (onI c s j)) ∧ onI c s e < 0))
theorem EchoP_uniq {F : Int → Prop} {c s R y z : Int} (h : EchoP F c s R y) (g : EchoP F c s R z) : y = z := by
  have key : ∀ {a b : Int}, (1 ≤ a ∧ a ≤ R ∧ (∀ j : Int, 1 ≤ j → j < a → 0 ≤ onI c s j ∧ F (onI c s j)) ∧ 0 ≤ onI c s a ∧ ¬ F (onI c s a)) → (1 ≤ b ∧ b ≤ R ∧ (∀ j : Int, 1 ≤ j → j < b → 0 ≤ onI c s j ∧ F (onI c s j)) ∧ 0 ≤ onI c s b ∧ ¬ F (onI c s b)) → ¬ a < b := fun h g q => h.2.2.2.2 (g.2.2.1 _ h.1 q).2
  have key2 : ∀ {a : Int}, (1 ≤ a ∧ a ≤ R ∧ (∀ j : Int, 1 ≤ j → j < a → 0 ≤ onI c s j ∧ F (onI c s j)) ∧ 0 ≤ onI c s a ∧ ¬ F (onI c s a)) → ((∀ j : Int, 1 ≤ j → j ≤ R → 0 ≤ onI c s j ∧ F (onI c s j)) ∨ ∃ e : Int, 1 ≤ e ∧ e ≤ R ∧ (∀ j : Int, 1 ≤ j → j < e → 0 ≤ onI c s j ∧ F (onI c s j)) ∧ onI c s e < 0) → False := fun {a} h g => by
    rcases g with g | ⟨e, e1, e2, e3, e4⟩
    · exact h.2.2.2.2 (g a h.1 h.2.1).2
    · rcases Int.lt_trichotomy e a with q | q | q
      · have := (h.2.2.1 e e1 q).1; omega
      · have := h.2.2.2.1; rw [← q] at this; omega
      · exact h.2.2.2.2 (e3 a h.1 q).2
  rcases h with h | h <;> rcases g with g | g
  · have a := key h g
    have b := key g h
    omega
  · exact (key2 h g.2).elim
  · exact (key2 g h.2).elim
  · rw [h.1, g.1]
theorem EchoP_cong {F G : Int → Prop} {c s R y : Int} (e : ∀ j : Int, 1 ≤ j → j ≤ R → 0 ≤ onI c s j → (F (onI c s j) ↔ G (onI c s j))) (h : EchoP F c s R y) : EchoP G c s R y := by
  have k : ∀ {a : Int}, a ≤ R + 1 → (∀ j : Int, 1 ≤ j → j < a → 0 ≤ onI c s j ∧ F (onI c s j)) → (∀ j : Int, 1 ≤ j → j < a → 0 ≤ onI c s j ∧ G (onI c s j)) := fun ha h j h1 h2 => ⟨(h j h1 h2).1, (e j h1 (by omega) (h j h1 h2).1).mp (h j h1 h2).2⟩
  rcases h with ⟨h1, h2, h3, h4, h5⟩ | ⟨h1, h2 | ⟨d, h2, h3, h4, h5⟩⟩
  · exact Or.inl ⟨h1, h2, k (by omega) h3, h4, fun q => h5 ((e y h1 h2 h4).mpr q)⟩
  · exact Or.inr ⟨h1, Or.inl (fun j a b => ⟨(h2 j a b).1, (e j a b (h2 j a b).1).mp (h2 j a b).2⟩)⟩
  · exact Or.inr ⟨h1, Or.inr ⟨d, h2, h3, k (by omega) h4, h5⟩⟩
theorem x10has {b : Nat} {v : Int32} {M : mM} {r : Int32} (h : SP_X10_hasWalker b v M r) : (r.toInt = 1 ∧ 0 ≤ v.toInt ∧ v.toInt < (M.1 (10, b, 0) 6).toInt ∧ v.toInt < 8) ∨ (r.toInt = 0 ∧ ¬ (0 ≤ v.toInt ∧ v.toInt < (M.1 (10, b, 0) 6).toInt ∧ v.toInt < 8)) := by
  have q0 := il_0
  have q1 := il_1
  refine xE_SP_X10_hasWalker h ⟨(fun h1_ hr_ => ?_), (fun h1_ z2_ e3_ => ⟨(fun h4_ hr_ => ?_), (fun h4_ => ⟨(fun h5_ hr_ => ?_), (fun h5_ hr_ => ?_)⟩)⟩)⟩
  · have := eT hr_; omega
  · have := eT hr_; have := eT e3_; omega
  · have := eT hr_; have := eT e3_; omega
  · have := eT hr_; have := eT e3_; omega
theorem x10echo {b : Nat} {v u t : Int32} {M : mM} {r : Int32} (h : SP_X10_echoYards b v u t M r) (hv : 0 ≤ v.toInt ∧ v.toInt ≤ 7 ∧ v.toInt < (M.1 (10, b, 0) 6).toInt) (hk : 0 ≤ (M.1 (9, b, v.toInt.toNat) 0).toInt ∧ (M.1 (9, b, v.toInt.toNat) 0).toInt ≤ 7) (hu : 0 ≤ u.toInt ∧ u.toInt ≤ 191) (ht : 0 ≤ t.toInt ∧ t.toInt ≤ 7) : EchoP (FrS (occ b M.1) v.toInt) u.toInt t.toInt (reachI (M.1 (9, b, v.toInt.toNat) 0).toInt) r.toInt := by
  have q0 := il_0
  have q1 := il_1
  have rb := reachI_b (M.1 (9, b, v.toInt.toNat) 0).toInt
  have G : ∀ (R x : Int32), RCH (fun x_ y_ => ST_X10_echoYards_26 b v u t M R x_ y_) (1 : Int32) x → R.toInt ≤ 12 → 1 ≤ x.toInt ∧ ∀ j : Int, 1 ≤ j → j < x.toInt → 0 ≤ onI u.toInt t.toInt j ∧ FrS (occ b M.1) v.toInt (onI u.toInt t.toInt j) := fun R x hL hR =>
    rind hL (fun x => 1 ≤ x.toInt ∧ ∀ j : Int, 1 ≤ j → j < x.toInt → 0 ≤ onI u.toInt t.toInt j ∧ FrS (occ b M.1) v.toInt (onI u.toInt t.toInt j)) ⟨by omega, fun j h1 h2 => by omega⟩ (fun x z hp hst => by
      (try dsimp only at hp hst ⊢)
      refine xE_ST_X10_echoYards_26 hst (fun p_hv0_26 p_h16_ p_r17_ p_hs21_ p_h20_ p_h22_ p_r23_ p_hs27_ p_h26_ p_h28_ p_z29_ p_h30_ p_hq_v5_26y => ?_)
      have cf := cF_spec p_hs21_
      have bt := x10but p_hs27_ ⟨hv.1, hv.2.1⟩
      rw [p_hq_v5_26y]
      refine ⟨by omega, fun j h1 h2 => ?_⟩
      by_cases e : j = x.toInt
      · have e2 : p_r17_.toInt = onI u.toInt t.toInt x.toInt := by omega
        rw [e, ← e2]
        exact ⟨p_h22_, by unfold FrS; omega⟩
      · exact hp.2 j h1 (by omega))
  refine xE_SP_X10_echoYards h ⟨(fun hs5_ h4_ j7_ h8_ h9_ r10_ hs14_ h13_ v5_26 hv0_26 hL_26 => ⟨(fun h16_ hr_ => ?_), (fun h16_ r17_ hs21_ h20_ => ⟨(fun h22_ r23_ hs27_ h26_ h28_ hr_ => ?_), (fun h22_ hr_ => ?_)⟩)⟩), (fun hs5_ v5_26 hv0_26 hL_26 h33_ hr_ => ?_)⟩
  · obtain rfl : j7_ = v.toInt.toNat := by omega
    have a := x9reach hs14_ hk
    have g := G _ _ hL_26 (by omega)
    rw [hr_, il_0]
    exact Or.inr ⟨rfl, Or.inl (fun j h1 h2 => g.2 j h1 (by omega))⟩
  · obtain rfl : j7_ = v.toInt.toNat := by omega
    have a := x9reach hs14_ hk
    have g := G _ _ hL_26 (by omega)
    have cf := cF_spec hs21_
    have bt := x10but hs27_ ⟨hv.1, hv.2.1⟩
    have e2 : r17_.toInt = onI u.toInt t.toInt v5_26.toInt := by omega
    rw [hr_]
    exact Or.inl ⟨g.1, by omega, g.2, by omega, by rw [← e2]; unfold FrS; omega⟩
  · obtain rfl : j7_ = v.toInt.toNat := by omega
    have a := x9reach hs14_ hk
    have g := G _ _ hL_26 (by omega)
    have cf := cF_spec hs21_
    have e2 : r17_.toInt = onI u.toInt t.toInt v5_26.toInt := by omega
    rw [hr_, il_0]
    exact Or.inr ⟨rfl, Or.inr ⟨v5_26.toInt, g.1, by omega, g.2, by omega⟩⟩
  · have := x10has hs5_
    omega
theorem x12echo {b : Nat} {q : rf → Nat → Int32} {v u t : Int32} {M : mM} {r : Int32} (h : SP_X12_echoFrom v u t M r) (hO : OCC b q (M.1 (50, 0, 0))) (hu : 0 ≤ v.toInt ∧ v.toInt ≤ 191) (hs : 0 ≤ u.toInt ∧ u.toInt ≤ 7) (ht : 0 ≤ t.toInt ∧ t.toInt ≤ 12) (hn : -1 ≤ (M.1 (12, 0, 0) 7).toInt) : EchoP (FrM (occ b q) (M.1 (12, 0, 0) 7).toInt) v.toInt u.toInt t.toInt r.toInt := by
  have q0 := il_0
  have q1 := il_1
  refine xE_SP_X12_echoFrom h (fun v4_3 hv0_3 hv1_3 hv2_3 hL_3 => ?_)
  have g := rind hL_3 (fun x => 1 ≤ x.toInt ∧ ∀ j : Int, 1 ≤ j → j < x.toInt → 0 ≤ onI v.toInt u.toInt j ∧ FrM (occ b q) (M.1 (12, 0, 0) 7).toInt (onI v.toInt u.toInt j)) ⟨by omega, fun j h1 h2 => by omega⟩ (fun x z hp hst => by
    (try dsimp only at hp hst ⊢)
    refine xE_ST_X12_echoFrom_3 hst (fun p_hv0_3 p_hv1_3 p_hv2_3 p_h2_ p_r3_ p_hs7_ p_h6_ p_h8_ p_h9_ p_r10_ p_hs14_ p_h13_ p_r15_ p_hs19_ p_h18_ p_h20_ p_z21_ p_h22_ p_hq_v4_3y => ?_)
    have c1 := on_spec p_h6_.1 hu hs (by omega)
    have c2 := on_spec p_h13_.1 hu hs (by omega)
    have bt := x12free p_hs19_ hO (by omega) hn
    rw [p_hq_v4_3y]
    refine ⟨by omega, fun j h1 h2 => ?_⟩
    by_cases e : j = x.toInt
    · rw [e, ← c2]
      exact ⟨by omega, by unfold FrM; omega⟩
    · exact hp.2 j h1 (by omega))
  (try dsimp only at g)
  refine ⟨(fun h2_ hr_ => ?_), (fun h2_ r3_ hs7_ h6_ => ⟨(fun h8_ hr_ => ?_), (fun h8_ h9_ r10_ hs14_ h13_ r15_ hs19_ h18_ h20_ hr_ => ?_)⟩)⟩
  · rw [hr_, il_0]
    exact Or.inr ⟨rfl, Or.inl (fun j h1 h2 => g.2 j h1 (by omega))⟩
  · have c1 := on_spec h6_.1 hu hs (by omega)
    rw [hr_, il_0]
    exact Or.inr ⟨rfl, Or.inr ⟨v4_3.toInt, g.1, by omega, g.2, by omega⟩⟩
  · have c1 := on_spec h6_.1 hu hs (by omega)
    have c2 := on_spec h13_.1 hu hs (by omega)
    have bt := x12free hs19_ hO (by omega) hn
    rw [hr_]
    exact Or.inl ⟨g.1, by omega, g.2, by omega, by rw [← c2]; unfold FrM; omega⟩
/-- the kind in a cell -/
def kindS (n : Nat → Int32) (o : Nat → Int) (x : Int) : Int := if 0 ≤ o x.toNat ∧ o x.toNat < nTh n then (n (20 + 4 * (o x.toNat).toNat)).toInt else 3
theorem x7has {b : Nat} {v : Int32} {M : mM} {r : Int32} (h : SP_X7_hasThing b v M r) : (r.toInt = 1 ∧ 0 ≤ v.toInt ∧ v.toInt < (M.1 (7, b, 0) 5).toInt ∧ v.toInt < 40) ∨ (r.toInt = 0 ∧ ¬ (0 ≤ v.toInt ∧ v.toInt < (M.1 (7, b, 0) 5).toInt ∧ v.toInt < 40)) := by
  have q0 := il_0
  have q1 := il_1
  refine xE_SP_X7_hasThing h ⟨(fun h1_ hr_ => ?_), (fun h1_ z2_ e3_ => ⟨(fun h4_ hr_ => ?_), (fun h4_ => ⟨(fun h5_ hr_ => ?_), (fun h5_ hr_ => ?_)⟩)⟩)⟩
  · have := eT hr_; omega
  · have := eT hr_; have := eT e3_; omega
  · have := eT hr_; have := eT e3_; omega
  · have := eT hr_; have := eT e3_; omega
theorem nTh_b {n : Nat → Int32} (h : NW5 n) : 0 ≤ nTh n ∧ nTh n ≤ 40 := (h.1 1).1 rfl
theorem nWa_b {n : Nat → Int32} (h : NW5 n) : 0 ≤ nWa n ∧ nWa n ≤ 8 := (h.1 2).2.1 rfl
theorem kindS_b {n : Nat → Int32} {o : Nat → Int} {x : Int} (h : NW5 n) : 0 ≤ kindS n o x ∧ kindS n o x ≤ 4 := by
  unfold kindS
  have := nTh_b h
  split
  · rename_i g
    exact ((h.1 (20 + 4 * (o x.toNat).toNat)).2.2.2.2.2.2.1 (by omega) (by omega)).1 (by omega)
  · omega
theorem x7kindIn {b : Nat} {v : Int32} {M : mM} {r : Int32} {n : Nat → Int32} (h : SP_X7_kindIn b v M r) (hv : 0 ≤ v.toInt ∧ v.toInt ≤ 191) (hT : THR b M.1 n) (hN : NW5 n) : r.toInt = kindS n (occ b M.1) v.toInt := by
  have q0 := il_0
  have q1 := il_1
  have q3 : (3 : Int32).toInt = 3 := by decide
  have nb := nTh_b hN
  have e1 := eT hT.1
  unfold nTh at nb
  unfold kindS occ
  refine xE_SP_X7_kindIn h ⟨(fun hs5_ h4_ j9_ h10_ z7_ e8_ => ⟨(fun hs15_ h14_ j19_ h20_ z17_ e18_ hr_ => ?_), (fun hs15_ hr_ => ?_)⟩), (fun hs5_ h4_ hs27_ hr_ => ?_)⟩
  · obtain rfl : j9_ = v.toInt.toNat := by omega
    have g := x7has hs15_
    have y := eT e8_
    rw [if_pos (by unfold nTh; omega), hr_, e18_, (hT.2 j19_ (by unfold nTh; omega)).1]
    rw [show j19_ = (M.1 (35, b, 0) v.toInt.toNat).toInt.toNat by omega]
  · obtain rfl : j9_ = v.toInt.toNat := by omega
    have g := x7has hs15_
    have y := eT e8_
    rw [if_neg (by unfold nTh; omega), hr_, q3]
  · omega
theorem x12kindIn {b : Nat} {q : rf → Nat → Int32} {v : Int32} {M : mM} {r : Int32} (h : SP_X12_kindIn v M r) (hO : OCC b q (M.1 (50, 0, 0))) (hv : 0 ≤ v.toInt ∧ v.toInt ≤ 191) (hn : -1 ≤ (M.1 (12, 0, 0) 7).toInt) (hf : ¬ FrM (occ b q) (M.1 (12, 0, 0) 7).toInt v.toInt) (hD : InvD M) : r.toInt = kindS (M.1 (50, 0, 0)) (occ b q) v.toInt := by
  have q3 : (3 : Int32).toInt = 3 := by decide
  have o3 := hO.2.2 v.toInt.toNat (by omega)
  have nb := nTh_b hD.2.1
  unfold FrM at hf
  unfold kindS
  refine xE_SP_X12_kindIn h (fun r1_ hs5_ h4_ => ⟨(fun h6_ hr_ => ?_), (fun h6_ r7_ hs11_ h10_ z12_ h13_ j16_ h17_ z14_ e15_ h18_ hr_ => ?_)⟩)
  all_goals
    have a := x12in hs5_ hO hv hn
    rw [if_neg (by omega)] at a
  · rw [if_neg (by omega), hr_, q3]
  · rw [if_pos (by omega), hr_, e15_, show j16_ = 20 + 4 * (occ b q v.toInt.toNat).toNat by omega]
/-- what a walker would hear by its own click from a cell, by sides -/
def HyP (n : Nat → Int32) (o : Nat → Int) (w : Nat) (c s : Int32) (r : Int) : Prop := ∃ y : Int32, EchoP (FrS o w) c.toInt s.toInt (reachI (n (180 + 9 * w)).toInt) y.toInt ∧
  ((y.toInt = 0 ∧ r = 0) ∨ (¬ y.toInt = 0 ∧ ((r = y.toInt ∧ heS n (earsI (n (180 + 9 * w)).toInt) (kindS n o (onI c.toInt s.toInt y.toInt)).toNat (n (183 + 9 * w)) (n (184 + 9 * w)) s y) ∨ (r = 0 ∧ ¬ heS n (earsI (n (180 + 9 * w)).toInt) (kindS n o (onI c.toInt s.toInt y.toInt)).toNat (n (183 + 9 * w)) (n (184 + 9 * w)) s y))))
theorem HyP_uniq {n : Nat → Int32} {o : Nat → Int} {w : Nat} {c s : Int32} {r z : Int} (h : HyP n o w c s r) (g : HyP n o w c s z) : r = z := by
  obtain ⟨y, h1, h2⟩ := h
  obtain ⟨y', g1, g2⟩ := g
  obtain rfl : y = y' := i32e (EchoP_uniq h1 g1)
  rcases h2 with h2 | ⟨h2, h3 | h3⟩ <;> rcases g2 with g2 | ⟨g2, g3 | g3⟩
  · omega
  · omega
  · omega
  · omega
  · omega
  · exact absurd h3.2 g3.2
  · omega
  · exact absurd g3.2 h3.2
  · omega
theorem own_pl {p l z a : Int32} (h1 : a = (100 : Int32) * p) (h2 : z = a + l) (hp : 1 ≤ p.toInt ∧ p.toInt ≤ 9) (hl : 1 ≤ l.toInt ∧ l.toInt ≤ 99) : z / (100 : Int32) = p ∧ z - z / (100 : Int32) * (100 : Int32) = l := by
  have i100 : (100 : Int32).toInt = 100 := by decide
  have e1 : a.toInt = 100 * p.toInt := by rw [h1]; exact mulI i100 rfl (by omega) (by omega)
  have e2 : z.toInt = 100 * p.toInt + l.toInt := by rw [h2]; exact addI e1 rfl (by omega) (by omega)
  have d := divI (x := z) (y := (100 : Int32)) rfl i100 (by omega) (by omega)
  have m := remI (x := z) (y := (100 : Int32)) rfl i100 (by omega) (by omega)
  exact ⟨i32e (by omega), i32e (by omega)⟩
def WRR (b : Nat) (q : rf → Nat → Int32) (n : Nat → Int32) : Prop := LWR b q n ∧ THR b q n ∧ WAR b q n ∧ TXR b q n ∧ OCC b q n ∧ MIR n
theorem x10heard {b : Nat} {v u t : Int32} {M M' : mM} {r : Int32} {n : Nat → Int32} (h : SP_X10_heardYards b v u t M r M') (hR : WRR b M.1 n) (hN : NW5 n) (hv : 0 ≤ v.toInt ∧ v.toInt < nWa n) (hu : 0 ≤ u.toInt ∧ u.toInt ≤ 191) (ht : 0 ≤ t.toInt ∧ t.toInt ≤ 7) : HyP n (occ b M.1) v.toInt.toNat u t r.toInt := by
  have q0 := il_0
  obtain ⟨hL, hT, hW, hX, hO, hM⟩ := hR
  have nw := nWa_b hN
  have ec := eT hW.1
  have w1 := (hW.2 v.toInt.toNat (by omega)).1
  have k0 := w1 0 (by omega)
  have k3 := w1 3 (by omega)
  have k4 := w1 4 (by omega)
  simp only [Nat.add_zero] at k0
  have kb := ((hN.1 (180 + 9 * v.toInt.toNat)).2.2.2.2.2.2.2 (by omega) (by omega)).1 (by omega)
  have mp := hM.1 v.toInt.toNat (by omega)
  unfold HyP
  unfold nWa at hv nw
  unfold SP_X10_heardYards at h
  obtain ⟨r1_, hs5_, h4_, h⟩ := h
  have E := x10echo hs5_ ⟨hv.1, by omega, by omega⟩ (by rw [k0]; exact kb) hu ht
  rw [k0] at E
  have ev : FrS (occ b M.1) v.toInt = FrS (occ b M.1) ((v.toInt.toNat : Nat) : Int) := by rw [show ((v.toInt.toNat : Nat) : Int) = v.toInt by omega]
  rw [ev] at E
  refine ⟨r1_, E, ?_⟩
  rcases h with ⟨h6_, hr_, -⟩ | ⟨h6_, h⟩
  · exact Or.inl ⟨h6_, by rw [hr_]; exact il_0⟩
  · right
    refine ⟨h6_, ?_⟩
    rcases h with ⟨hs11_, h10_, j13_, h14_, h15_, r16_, hs20_, h19_, r21_, hs25_, r26_, hs30_, h29_, r31_, hs35_, M37_, hI40_, hF41_, r36_, hs43_, h39_, h⟩ | ⟨hs11_, hr_, -⟩
    · obtain rfl : j13_ = v.toInt.toNat := by omega
      have cf := cF_spec hs20_
      have e16 : r16_.toInt = onI u.toInt t.toInt r1_.toInt := by omega
      have c16 : 0 ≤ r16_.toInt := by
        unfold EchoP at E
        omega
      have kk := x7kindIn hs25_ ⟨c16, h19_.2⟩ hT hN
      have kb2 := kindS_b (o := occ b M.1) (x := r16_.toInt) hN
      have ee := x9ears hs30_ (by rw [k0]; exact kb)
      rw [k0] at ee
      have oc : r31_ / (100 : Int32) = n (183 + 9 * v.toInt.toNat) ∧ r31_ - r31_ / (100 : Int32) * (100 : Int32) = n (184 + 9 * v.toInt.toNat) := by
        refine xE_SP_X9_ownClick hs35_ (fun z1_ e2_ z3_ h4_ z5_ e6_ z7_ h8_ hr_ => ?_)
        rw [k3, show 180 + 9 * v.toInt.toNat + 3 = 183 + 9 * v.toInt.toNat by omega] at e2_
        rw [k4, show 180 + 9 * v.toInt.toNat + 4 = 184 + 9 * v.toInt.toNat by omega] at e6_
        rw [← e2_, ← e6_, hr_]
        exact own_pl h4_ h8_ (by rw [e2_]; exact mp.1) (by rw [e6_]; exact mp.2)
      have hh := x2hears hs43_ hL hX hN.2 (by omega) (by omega) ht
      rw [oc.2, oc.1, ee, kk, e16] at hh
      rcases h with ⟨h44_, hr_, -⟩ | ⟨h44_, hr_, -⟩
      · exact Or.inr ⟨by rw [hr_]; exact il_0, (hh.resolve_left (fun q => by omega)).2⟩
      · exact Or.inl ⟨by rw [hr_], (hh.resolve_right (fun q => by omega)).2⟩
    · have := x10has hs11_
      omega
theorem x12heard {b : Nat} {q : rf → Nat → Int32} {v u t : Int32} {M M' : mM} {r : Int32} (h : SP_X12_heardFrom v u t M r M') (hO : OCC b q (M.1 (50, 0, 0))) (hD : InvD M) (hx : ∀ w, w < 3 → ∀ i : Nat, (i : Int) < (M.1 (50, 0, 0) (345 + 50 * w)).toInt → cOK (nnU w) (M.1 (50, 0, 0) (346 + 50 * w + i))) (hv : 0 ≤ v.toInt ∧ v.toInt < nWa (M.1 (50, 0, 0))) (hu : 0 ≤ u.toInt ∧ u.toInt ≤ 191) (ht : 0 ≤ t.toInt ∧ t.toInt ≤ 7)
    (hn : (M.1 (12, 0, 0) 7).toInt = v.toInt ∨ ((M.1 (12, 0, 0) 7).toInt = -1 ∧ u.toInt = wcl (M.1 (50, 0, 0)) v.toInt.toNat)) : HyP (M.1 (50, 0, 0)) (occ b q) v.toInt.toNat u t r.toInt := by
  have q0 := il_0
  have nw := nWa_b hD.2.1
  have nT := nTh_b hD.2.1
  have fr : ∀ j : Int, 1 ≤ j → j ≤ 12 → 0 ≤ onI u.toInt t.toInt j → (FrM (occ b q) (M.1 (12, 0, 0) 7).toInt (onI u.toInt t.toInt j) ↔ FrS (occ b q) ((v.toInt.toNat : Nat) : Int) (onI u.toInt t.toInt j)) := fun j h1 h2 h3 => by
    have b := onI_b (c := u.toInt) (s := t.toInt) (y := j)
    have o3 := hO.2.2 (onI u.toInt t.toInt j).toNat (by omega)
    unfold FrM FrS
    rcases hn with hn | ⟨hn, hc⟩
    · omega
    · have ne := onI_ne hu ht ⟨h1, (by omega : j ≤ 15)⟩
      refine ⟨fun z => by omega, fun z => ?_⟩
      rcases o3 with o | o | o
      · omega
      · omega
      · rcases z with z | z
        · omega
        · exfalso
          have e := o.2.2
          rw [z, show (100 + ((v.toInt.toNat : Nat) : Int) - 100).toNat = v.toInt.toNat by omega, ← hc] at e
          omega
  unfold HyP
  unfold SP_X12_heardFrom at h
  obtain ⟨r1_, hs5_, h4_, r6_, hs10_, h9_, r11_, hs15_, h14_, h⟩ := h
  have rr := x12reach hs5_ ⟨hv.1, by omega⟩
  have E := x12echo hs10_ hO hu ht h4_ (by omega)
  have E2 := EchoP_cong (fun j a c d => fr j a (by omega) d) E
  rw [rr] at E2
  refine ⟨r6_, E2, ?_⟩
  rcases h with ⟨h16_, hr_, -⟩ | ⟨h16_, r18_, hs22_, h21_, r23_, hs27_, h26_, r28_, hs32_, h31_, z33_, h34_, j37_, h38_, z35_, e36_, z39_, h40_, j43_, h44_, z41_, e42_, M46_, hI49_, hF50_, r45_, hs52_, h48_, h⟩
  · exact Or.inl ⟨by omega, by rw [hr_]; exact il_0⟩
  · right
    refine ⟨by omega, ?_⟩
    have e23 := on_spec h26_.1 hu ht (by omega)
    have nf : 0 ≤ r23_.toInt ∧ ¬ FrM (occ b q) (M.1 (12, 0, 0) 7).toInt r23_.toInt := by
      rw [e23]
      rcases E with E | E
      · exact E.2.2.2
      · omega
    have kk := x12kindIn hs32_ hO ⟨nf.1, by omega⟩ (by omega) nf.2 hD
    have kb2 := kindS_b (n := M.1 (50, 0, 0)) (o := occ b q) (x := r23_.toInt) hD.2.1
    have ee := x12ears hs22_ ⟨hv.1, by omega⟩
    have hh := x12isHeard hs52_ hD hx (by omega) ht (by omega)
    rw [ee, kk, e23, e36_, e42_, show j37_ = 183 + 9 * v.toInt.toNat by omega, show j43_ = 184 + 9 * v.toInt.toNat by omega] at hh
    rcases h with ⟨h53_, hr_, -⟩ | ⟨h53_, hr_, -⟩
    · exact Or.inr ⟨by rw [hr_]; exact il_0, (hh.resolve_left (fun q => by omega)).2⟩
    · exact Or.inl ⟨by rw [hr_], (hh.resolve_right (fun q => by omega)).2⟩
end
section
/-! what is kept -/
theorem LWR_keep {b : Nat} {q q2 : rf → Nat → Int32} {n n2 : Nat → Int32} (h : LWR b q n) (hq : ∀ (r k : Nat), r = 10 ∧ k = 7 ∨ r = 2 ∨ r = 26 ∨ r = 27 → q2 (r, b, 0) k = q (r, b, 0) k) (hn : ∀ j, j = 0 ∨ (6 ≤ j ∧ j < 20) → n2 j = n j) : LWR b q2 n2 :=
  ⟨by rw [hq 10 7 (by simp), hn 0 (by omega)]; exact h.1, fun k hk => by rw [hq 2 k (by simp), hn _ (by omega)]; exact h.2.1 k hk, fun k hk => by rw [hq 26 k (by simp), hq 27 k (by simp), hn _ (by omega), hn _ (by omega)]; exact h.2.2 k hk⟩
theorem THR_keep {b : Nat} {q q2 : rf → Nat → Int32} {n n2 : Nat → Int32} (h : THR b q n) (hb : nTh n ≤ 40) (hq : ∀ (r k : Nat), r = 7 ∧ k = 5 ∨ r = 36 ∨ r = 37 ∨ r = 38 ∨ r = 39 → q2 (r, b, 0) k = q (r, b, 0) k) (hn : ∀ j, j = 1 ∨ (20 ≤ j ∧ j < 180) → n2 j = n j) : THR b q2 n2 := by
  have e : nTh n2 = nTh n := by unfold nTh; rw [hn 1 (by omega)]
  refine ⟨by rw [hq 7 5 (by simp), hn 1 (by omega)]; exact h.1, fun t ht => ?_⟩
  rw [e] at ht
  rw [hq 36 t (by simp), hq 37 t (by simp), hq 38 t (by simp), hq 39 t (by simp), hn _ (by omega), hn _ (by omega), hn _ (by omega), hn _ (by omega)]
  exact h.2 t ht
theorem WAR_keep {b : Nat} {q q2 : rf → Nat → Int32} {n n2 : Nat → Int32} (h : WAR b q n) (hb : nWa n ≤ 8) (hq : ∀ (r w k : Nat), r = 9 ∨ r = 40 ∨ r = 41 → q2 (r, b, w) k = q (r, b, w) k) (hc : q2 (10, b, 0) 6 = q (10, b, 0) 6) (hn : ∀ j, j = 2 ∨ (180 ≤ j ∧ j < 252) ∨ (495 ≤ j ∧ j < 3567) → n2 j = n j) : WAR b q2 n2 := by
  have e : nWa n2 = nWa n := by unfold nWa; rw [hn 2 (by omega)]
  refine ⟨by rw [hc, hn 2 (by omega)]; exact h.1, fun w hw => ?_⟩
  rw [e] at hw
  refine ⟨fun k hk => ?_, fun c hc => ?_⟩
  · rw [hq 9 w k (by simp), hn _ (by omega)]; exact (h.2 w hw).1 k hk
  · rw [hq 40 w c (by simp), hq 41 w c (by simp), hn _ (by omega), hn _ (by omega)]; exact (h.2 w hw).2 c hc
theorem TXR_keep {b : Nat} {q q2 : rf → Nat → Int32} {n n2 : Nat → Int32} (h : TXR b q n) (hz : ∀ u, u < 3 → (n (345 + 50 * u)).toInt ≤ 48) (hq : ∀ (r u k : Nat), r = 1 ∨ r = 24 → u < 3 → q2 (r, b, u) k = q (r, b, u) k) (hn : ∀ j, 345 ≤ j → j < 495 → n2 j = n j) : TXR b q2 n2 := fun u hu => by
  have hs := hz u hu
  rw [hq 1 u 2 (by simp) hu, hn _ (by omega) (by omega)]
  refine ⟨(h u hu).1, fun i hi => ?_⟩
  rw [hq 24 u i (by simp) hu, hn _ (by omega) (by omega)]
  exact (h u hu).2 i hi
theorem OCC_keep {b : Nat} {q q2 : rf → Nat → Int32} {n n2 : Nat → Int32} (h : OCC b q n) (ht : nTh n ≤ 40) (hw : nWa n ≤ 8) (hq : ∀ k, q2 (35, b, 0) k = q (35, b, 0) k) (hn1 : ∀ j, j = 1 ∨ (20 ≤ j ∧ j < 180 ∧ j % 4 = 1) → n2 j = n j) (hn2 : ∀ j, j = 2 ∨ (180 ≤ j ∧ j < 252 ∧ j % 9 = 1) → n2 j = n j) : OCC b q2 n2 := by
  have eo : occ b q2 = occ b q := funext fun k => by unfold occ; rw [hq]
  have et : nTh n2 = nTh n := by unfold nTh; rw [hn1 1 (by omega)]
  have ew : nWa n2 = nWa n := by unfold nWa; rw [hn2 2 (by omega)]
  have tc : ∀ t : Nat, (t : Int) < nTh n → tcl n2 t = tcl n t := fun t h => by unfold tcl; rw [hn1 _ (by omega)]
  have wc : ∀ t : Nat, (t : Int) < nWa n → wcl n2 t = wcl n t := fun t h => by unfold wcl; rw [hn2 _ (by omega)]
  obtain ⟨h1, h2, h3⟩ := h
  unfold OCC
  rw [eo, et, ew]
  refine ⟨fun t a c => ?_, fun w a => ?_, fun c hc => ?_⟩
  · rw [tc t a] at c ⊢; exact h1 t a c
  · rw [wc w a]; exact h2 w a
  · rcases h3 c hc with o | ⟨o1, o2, o3⟩ | ⟨o1, o2, o3⟩
    · exact Or.inl o
    · exact Or.inr (Or.inl ⟨o1, o2, by rw [tc _ (by omega)]; exact o3⟩)
    · exact Or.inr (Or.inr ⟨o1, o2, by rw [wc _ (by omega)]; exact o3⟩)
theorem MIR_keep {n n2 : Nat → Int32} (h : MIR n) (ht : nTh n ≤ 40) (hb : nWa n ≤ 8) (hn : ∀ j, j = 1 ∨ j = 2 ∨ (20 ≤ j ∧ j < 180 ∧ (j % 4 = 0 ∨ j % 4 = 3)) ∨ (180 ≤ j ∧ j < 252 ∧ (j % 9 = 3 ∨ j % 9 = 4)) → n2 j = n j) (hz : ∀ w : Nat, nWa n ≤ (w : Int) → w < 8 → (∀ k, k < 9 → n2 (180 + 9 * w + k) = n (180 + 9 * w + k)) ∧ (∀ c, c < 384 → n2 (495 + 384 * w + c) = n (495 + 384 * w + c))) : MIR n2 := by
  have et : nTh n2 = nTh n := by unfold nTh; rw [hn 1 (by omega)]
  have ew : nWa n2 = nWa n := by unfold nWa; rw [hn 2 (by omega)]
  obtain ⟨h1, h2, h3⟩ := h
  unfold MIR
  rw [et, ew]
  refine ⟨fun w hw => ?_, fun t hh => ?_, fun w a c => ⟨fun k hk => ?_, fun k hk => ?_⟩⟩
  · rw [hn _ (by omega), hn _ (by omega)]; exact h1 w hw
  · rw [hn _ (by omega), hn _ (by omega)]; exact h2 t hh
  · rw [(hz w a c).1 k hk]; exact (h3 w a c).1 k hk
  · rw [(hz w a c).2 k hk]; exact (h3 w a c).2 k hk
theorem TXz {n : Nat → Int32} (h : NW5 n) : ∀ u, u < 3 → (n (345 + 50 * u)).toInt ≤ 48 := fun u hu => by
  obtain ⟨m, D, h1, h2, h3⟩ := h.2 u hu
  omega
/-- scratch cells of the class change -/
theorem WRR_q {b : Nat} {q q2 : rf → Nat → Int32} {n : Nat → Int32} (h : WRR b q n) (hN : NW5 n) (hq : ∀ (c : rf) (k : Nat), c.1 ≠ 25 → c.1 ≠ 29 → q2 c k = q c k) : WRR b q2 n :=
  ⟨LWR_keep h.1 (fun r k hr => hq _ _ (by dsimp only; omega) (by dsimp only; omega)) (fun _ _ => rfl),
   THR_keep h.2.1 (nTh_b hN).2 (fun r k hr => hq _ _ (by dsimp only; omega) (by dsimp only; omega)) (fun _ _ => rfl),
   WAR_keep h.2.2.1 (nWa_b hN).2 (fun r w k hr => hq _ _ (by dsimp only; omega) (by dsimp only; omega)) (hq _ _ (by first | decide | simp | (dsimp only; omega)) (by first | decide | simp | (dsimp only; omega))) (fun _ _ => rfl),
   TXR_keep h.2.2.2.1 (TXz hN) (fun r u k hr hu => hq _ _ (by dsimp only; omega) (by dsimp only; omega)) (fun _ _ _ => rfl),
   OCC_keep h.2.2.2.2.1 (nTh_b hN).2 (nWa_b hN).2 (fun k => hq _ _ (by first | decide | simp | (dsimp only; omega)) (by first | decide | simp | (dsimp only; omega))) (fun _ _ => rfl) (fun _ _ => rfl), h.2.2.2.2.2⟩
theorem updN {f : Nat → Int32} {k j : Nat} {x : Int32} (h : ¬ j = k) : upd f k x j = f j := if_neg h
theorem updE {f : Nat → Int32} {k j : Nat} {x : Int32} (h : j = k) : upd f k x j = x := if_pos h
/-! two loops that go along with each other -/
theorem RTC_cnt {α : Type} {S : α → α → Prop} {f : α → Int} {N : Int} (hS : ∀ x z, S x z → f x < N ∧ f z = f x + 1) {a : α} : ∀ (n : Nat) (z : α), RTC S a n z → f z = f a + n ∧ (0 < n → f z ≤ N)
  | 0, z, h => by
    have e : a = z := h
    subst e
    exact ⟨by omega, fun q => absurd q (Nat.lt_irrefl 0)⟩
  | n + 1, z, h => by
    obtain ⟨x, h1, h2⟩ := h
    have ih := RTC_cnt hS n x h1
    have s := hS x z h2
    exact ⟨by omega, fun _ => by omega⟩
theorem lock {α β : Type} {S : α → α → Prop} {T : β → β → Prop} (f : α → Int) (g : β → Int) (R : α → β → Prop) (N : Int) {a z : α} {b w : β} (ha : RCH S a z) (hb : RCH T b w)
    (hS : ∀ x z, S x z → f x < N ∧ f z = f x + 1) (hT : ∀ x z, T x z → g x < N ∧ g z = g x + 1) (h0 : R a b) (hf : f a = g b) (hz : N ≤ f z) (hw : N ≤ g w)
    (hst : ∀ x z y w, R x y → f x = g y → S x z → T y w → R z w) : R z w := by
  obtain ⟨n, hn⟩ := ha
  obtain ⟨m, hm⟩ := hb
  have c1 := RTC_cnt hS _ _ hn
  have c2 := RTC_cnt hT _ _ hm
  have e : n = m := by
    rcases Nat.eq_zero_or_pos n with q | q <;> rcases Nat.eq_zero_or_pos m with p | p
    · omega
    · have := c2.2 p; omega
    · have := c1.2 q; omega
    · have := c2.2 p; have := c1.2 q; omega
  subst e
  clear c1 c2 hz hw
  induction n generalizing z w with
  | zero =>
    have e1 : a = z := hn
    have e2 : b = w := hm
    subst e1 e2
    exact h0
  | succ n ih =>
    obtain ⟨x, h1, h2⟩ := hn
    obtain ⟨y, g1, g2⟩ := hm
    have d1 := (RTC_cnt hS _ _ h1).1
    have d2 := (RTC_cnt hT _ _ g1).1
    exact hst x z y w (ih h1 g1) (by omega) h2 g2
end
section
/-! things go on -/
theorem OCC_move {b : Nat} {q q2 : rf → Nat → Int32} {n : Nat → Int32} {t : Nat} {x : Int32} {to c0 : Nat} (h : OCC b q n) (hN : nTh n ≤ 40) (hW : nWa n ≤ 8) (ht : (t : Int) < nTh n) (h0 : tcl n t = (c0 : Int)) (hx : x.toInt = (to : Int)) (hto : to < 192) (hf : occ b q to = -1)
    (ho : ∀ k, occ b q2 k = if k = to then (t : Int) else if k = c0 then -1 else occ b q k) : OCC b q2 (upd n (21 + 4 * t) x) := by
  obtain ⟨h1, h2, h3⟩ := h
  have o0 := h1 t ht (by omega)
  rw [h0, Int.toNat_natCast] at o0
  have et : nTh (upd n (21 + 4 * t) x) = nTh n := by unfold nTh; rw [updN (by omega)]
  have ew : nWa (upd n (21 + 4 * t) x) = nWa n := by unfold nWa; rw [updN (by omega)]
  have tE : tcl (upd n (21 + 4 * t) x) t = (to : Int) := by unfold tcl; rw [updE rfl]; exact hx
  have tN : ∀ s : Nat, ¬ s = t → tcl (upd n (21 + 4 * t) x) s = tcl n s := fun s hs => by unfold tcl; rw [updN (by omega)]
  have wN : ∀ w : Nat, wcl (upd n (21 + 4 * t) x) w = wcl n w := fun w => by unfold wcl; rw [updN (by omega)]
  unfold OCC
  rw [et, ew]
  refine ⟨fun s hs hp => ?_, fun w hw => ?_, fun c hc => ?_⟩
  · by_cases e : s = t
    · rw [e, tE, ho, if_pos (by omega)]
    · rw [tN s e] at hp ⊢
      have g := h1 s hs hp
      rw [ho, if_neg (fun z => by rw [z] at g; omega), if_neg (fun z => by rw [z] at g; omega)]
      exact g
  · rw [wN]
    have g := h2 w hw
    rw [ho, if_neg (fun z => by rw [z] at g; omega), if_neg (fun z => by rw [z] at g; omega)]
    exact g
  · rw [ho]
    by_cases e : c = to
    · rw [if_pos e]
      exact Or.inr (Or.inl ⟨by omega, ht, by rw [Int.toNat_natCast, tE, e]⟩)
    · rw [if_neg e]
      by_cases e2 : c = c0
      · rw [if_pos e2]; exact Or.inl rfl
      · rw [if_neg e2]
        rcases h3 c hc with o | ⟨o1, o2, o3⟩ | ⟨o1, o2, o3⟩
        · exact Or.inl o
        · refine Or.inr (Or.inl ⟨o1, o2, ?_⟩)
          rw [tN _ (fun z => by rw [z, h0] at o3; omega)]
          exact o3
        · exact Or.inr (Or.inr ⟨o1, o2, by rw [wN]; exact o3⟩)
theorem THR_one {b : Nat} {q q2 : rf → Nat → Int32} {n : Nat → Int32} {t f : Nat} {x : Int32} (h : THR b q n) (hN : nTh n ≤ 40) (hf : f < 4) (h7 : q2 (7, b, 0) 5 = q (7, b, 0) 5) (hq : ∀ g k, g < 4 → q2 (36 + g, b, 0) k = if g = f ∧ k = t then x else q (36 + g, b, 0) k) : THR b q2 (upd n (20 + 4 * t + f) x) := by
  have et : nTh (upd n (20 + 4 * t + f) x) = nTh n := by unfold nTh; rw [updN (by omega)]
  refine ⟨by rw [h7, updN (by omega)]; exact h.1, fun s hs => ?_⟩
  rw [et] at hs
  have g := h.2 s hs
  have one : ∀ g, g < 4 → q (36 + g, b, 0) s = n (20 + g + 4 * s) → q2 (36 + g, b, 0) s = upd n (20 + 4 * t + f) x (20 + g + 4 * s) := fun g hg e => by
    rw [hq g s hg]
    by_cases z : g = f ∧ s = t
    · rw [if_pos z, updE (by omega)]
    · rw [if_neg z, updN (by omega)]; exact e
  exact ⟨one 0 (by omega) g.1, one 1 (by omega) g.2.1, one 2 (by omega) g.2.2.1, one 3 (by omega) g.2.2.2⟩
/-- a thing turns about -/
theorem WRR_turn {b : Nat} {M D : mM} {t : Nat} {x : Int32} (h : WRR b M.1 (D.1 (50, 0, 0))) (hN : NW5 (D.1 (50, 0, 0))) (ht : (t : Int) < nTh (D.1 (50, 0, 0))) : WRR b (up M (38, b, 0) t x).1 ((up D (50, 0, 0) (22 + 4 * t) x).1 (50, 0, 0)) := by
  have b1 := nTh_b hN
  have b2 := nWa_b hN
  rw [up_row]
  have nn : ∀ j, ¬ j = 22 + 4 * t → upd (D.1 (50, 0, 0)) (22 + 4 * t) x j = D.1 (50, 0, 0) j := fun j hj => updN hj
  refine ⟨LWR_keep h.1 (fun r k hr => zupR rfl (by dsimp only; omega)) (fun j hj => nn j (by omega)), ?_, WAR_keep h.2.2.1 b2.2 (fun r w k hr => zupR rfl (by dsimp only; omega)) (zupR rfl (by first | decide | simp | (dsimp only; omega))) (fun j hj => nn j (by omega)),
    TXR_keep h.2.2.2.1 (TXz hN) (fun r u k hr hu => zupR rfl (by dsimp only; omega)) (fun j h1 h2 => nn j (by omega)), OCC_keep h.2.2.2.2.1 b1.2 b2.2 (fun k => zupR rfl (by simp)) (fun j hj => nn j (by omega)) (fun j hj => nn j (by omega)), MIR_keep h.2.2.2.2.2 b1.2 b2.2 (fun j hj => nn j (by omega)) (fun w h1 h2 => ⟨fun k hk => nn _ (by omega), fun c hc => nn _ (by omega)⟩)⟩
  have g := THR_one (q2 := (up M (38, b, 0) t x).1) (t := t) (f := 2) (x := x) h.2.1 b1.2 (by omega) (zupR rfl (by simp)) (fun g k hg => by
    by_cases e : g = 2 ∧ k = t
    · rw [if_pos e]; exact zupE rfl (by rw [e.1]) e.2
    · rw [if_neg e]; exact zupN rfl (fun z => e ⟨by have := congrArg (fun c : rf => c.1) z.1; dsimp only at this; omega, z.2⟩))
  rw [show 20 + 4 * t + 2 = 22 + 4 * t by omega] at g
  exact g
/-- a thing goes to the next cell -/
theorem WRR_move {b : Nat} {M D : mM} {t to c0 : Nat} {x i : Int32} (h : WRR b M.1 (D.1 (50, 0, 0))) (hN : NW5 (D.1 (50, 0, 0))) (ht : (t : Int) < nTh (D.1 (50, 0, 0))) (hi : i.toInt = (t : Int)) (h0 : tcl (D.1 (50, 0, 0)) t = (c0 : Int)) (hx : x.toInt = (to : Int)) (hto : to < 192) (hf : occ b M.1 to = -1) :
    WRR b (up (up (up M (35, b, 0) c0 (-1)) (35, b, 0) to i) (37, b, 0) t x).1 ((up D (50, 0, 0) (21 + 4 * t) x).1 (50, 0, 0)) := by
  have b1 := nTh_b hN
  have b2 := nWa_b hN
  rw [up_row]
  have nn : ∀ j, ¬ j = 21 + 4 * t → upd (D.1 (50, 0, 0)) (21 + 4 * t) x j = D.1 (50, 0, 0) j := fun j hj => updN hj
  have qq : ∀ (c : rf) (k : Nat), ¬ c.1 = 35 → ¬ c.1 = 37 → (up (up (up M (35, b, 0) c0 (-1)) (35, b, 0) to i) (37, b, 0) t x).1 c k = M.1 c k := fun c k h1 h2 => by
    rw [zupR rfl h2, zupR rfl h1, zupR rfl h1]
  refine ⟨LWR_keep h.1 (fun r k hr => qq _ _ (by dsimp only; omega) (by dsimp only; omega)) (fun j hj => nn j (by omega)), ?_, WAR_keep h.2.2.1 b2.2 (fun r w k hr => qq _ _ (by dsimp only; omega) (by dsimp only; omega)) (qq _ _ (by simp) (by simp)) (fun j hj => nn j (by omega)),
    TXR_keep h.2.2.2.1 (TXz hN) (fun r u k hr hu => qq _ _ (by dsimp only; omega) (by dsimp only; omega)) (fun j h1 h2 => nn j (by omega)), ?_, MIR_keep h.2.2.2.2.2 b1.2 b2.2 (fun j hj => nn j (by omega)) (fun w h1 h2 => ⟨fun k hk => nn _ (by omega), fun c hc => nn _ (by omega)⟩)⟩
  · have g := THR_one (q2 := (up (up (up M (35, b, 0) c0 (-1)) (35, b, 0) to i) (37, b, 0) t x).1) (t := t) (f := 1) (x := x) h.2.1 b1.2 (by omega) (qq _ _ (by simp) (by simp)) (fun g k hg => by
      by_cases e : g = 1 ∧ k = t
      · rw [if_pos e]; exact zupE rfl (by rw [e.1]) e.2
      · rw [if_neg e, zupN rfl (fun z => e ⟨by have := congrArg (fun c : rf => c.1) z.1; dsimp only at this; omega, z.2⟩), zupR rfl (by dsimp only; omega), zupR rfl (by dsimp only; omega)])
    rw [show 20 + 4 * t + 1 = 21 + 4 * t by omega] at g
    exact g
  · refine OCC_move h.2.2.2.2.1 b1.2 b2.2 ht h0 hx hto hf (fun k => ?_)
    unfold occ
    rw [zupR (c' := (35, b, 0)) rfl (by simp)]
    by_cases e : k = to
    · rw [if_pos e, zupE rfl rfl e]; exact hi
    · rw [if_neg e, zupN rfl (fun z => e z.2)]
      by_cases e2 : k = c0
      · rw [if_pos e2, zupE rfl rfl e2]; exact il_m1
      · rw [if_neg e2, zupN rfl (fun z => e2 z.2)]
theorem x7settle {b : Nat} {v u : Int32} {M M' : mM} (h : SP_X7_settle b v u M M') (hv : 0 ≤ v.toInt ∧ v.toInt ≤ 191) : M' = up M (35, b, 0) v.toInt.toNat u := by
  refine xE_SP_X7_settle h ⟨(fun hs5_ h4_ j9_ h10_ M7_ hM8_ hM_ => ?_), (fun hs5_ h4_ hM_ => ?_)⟩
  · obtain rfl : j9_ = v.toInt.toNat := by omega
    rw [hM_, hM8_]
  · omega
def goC (now step cell : Int32) : Prop := 0 ≤ cell.toInt ∧ 0 < step.toInt ∧ (now - now / step * step).toInt = 0
theorem thC {b : Nat} {now i i2 : Int32} {Mz M M' : mM} (h : ST_X7_letThingsGo_2 b now Mz i M i2 M') (hs : 0 ≤ (M.1 (38, b, 0) i.toInt.toNat).toInt ∧ (M.1 (38, b, 0) i.toInt.toNat).toInt ≤ 7) (hc : (M.1 (37, b, 0) i.toInt.toNat).toInt ≤ 191) :
    (¬ goC now (M.1 (39, b, 0) i.toInt.toNat) (M.1 (37, b, 0) i.toInt.toNat) ∧ M' = M) ∨ (goC now (M.1 (39, b, 0) i.toInt.toNat) (M.1 (37, b, 0) i.toInt.toNat) ∧ ∃ r : Int32, r.toInt = onI (M.1 (37, b, 0) i.toInt.toNat).toInt (M.1 (38, b, 0) i.toInt.toNat).toInt 1 ∧
      (((0 ≤ r.toInt ∧ r.toInt ≤ 191 ∧ occ b M.1 r.toInt.toNat = -1) ∧ M' = up (up (up M (35, b, 0) (M.1 (37, b, 0) i.toInt.toNat).toInt.toNat (-1)) (35, b, 0) r.toInt.toNat i) (37, b, 0) i.toInt.toNat r) ∨
       (¬ (0 ≤ r.toInt ∧ r.toInt ≤ 191 ∧ occ b M.1 r.toInt.toNat = -1) ∧ M' = up M (38, b, 0) i.toInt.toNat ((M.1 (38, b, 0) i.toInt.toNat + (4 : Int32)) &&& (7 : Int32))))) := by
  have q0 := il_0
  have q1 := il_1
  unfold goC
  refine xE_ST_X7_letThingsGo_2 h (fun hv0_2 _ hF_2 z2_ e3_ h4_ h5_ j8_ h9_ z6_ e7_ j12_ h13_ z10_ e11_ => ⟨(fun h14_ z15_ h16_ hq_v2_2y hM_ => ?_), (fun h14_ => ⟨(fun h17_ z18_ h19_ hq_v2_2y hM_ => ?_), (fun h17_ z20_ h21_ => ⟨(fun h22_ z23_ h24_ hq_v2_2y hM_ => ?_), (fun h22_ M25_ _ hF29_ hs31_ z32_ h33_ hq_v2_2y hM_ => ?_)⟩)⟩)⟩)
  · obtain rfl : j12_ = i.toInt.toNat := by omega
    have := eT e11_
    exact Or.inl ⟨by omega, hM_⟩
  · obtain rfl : j8_ = i.toInt.toNat := by omega
    have := eT e7_
    exact Or.inl ⟨by omega, hM_⟩
  · obtain rfl : j8_ = i.toInt.toNat := by omega
    rw [h21_, e7_] at h22_
    exact Or.inl ⟨by omega, hM_⟩
  · obtain rfl : j8_ = i.toInt.toNat := by omega
    obtain rfl : j12_ = i.toInt.toNat := by omega
    have y1 := eT e7_
    have y2 := eT e11_
    rw [h21_, e7_] at h22_
    refine Or.inr ⟨⟨by omega, by omega, h22_⟩, ?_⟩
    refine xE_SP_X7_letThingGo hs31_ ⟨(fun k_hs5_ k_h4_ k_j9_ k_h10_ k_z7_ k_e8_ k_j13_ k_h14_ k_z11_ k_e12_ k_r15_ k_hs19_ k_h18_ => ⟨(fun k_hs24_ k_h23_ k_j28_ k_h29_ k_z26_ k_e27_ k_M30_ _ k_hF34_ k_hs36_ k_M37_ _ k_hF41_ k_hs43_ k_j46_ k_h47_ k_M44_ k_hM45_ k_hM_ => ?_), (fun k_hs24_ k_j53_ k_h54_ k_z51_ k_e52_ k_z55_ k_h56_ k_z57_ k_h59_ k_h58_ k_j62_ k_h63_ k_M60_ k_hM61_ k_hM_ => ?_)⟩), (fun k_hs5_ k_hM_ => ?_)⟩
    · obtain rfl : k_j9_ = i.toInt.toNat := by omega
      obtain rfl : k_j13_ = i.toInt.toNat := by omega
      obtain rfl : k_j28_ = i.toInt.toNat := by omega
      obtain rfl : k_j46_ = i.toInt.toNat := by omega
      have cf := cF_spec k_hs19_
      rw [k_e8_, k_e12_] at cf
      have fr := x7free k_hs24_
      have r1 : k_r15_.toInt = onI (M.1 (37, b, 0) i.toInt.toNat).toInt (M.1 (38, b, 0) i.toInt.toNat).toInt 1 := by
        rcases cf with cf | cf
        · rw [cf.2, q1]
        · omega
      have s1 := x7settle k_hs36_ (by rw [k_e27_]; omega)
      have s2 := x7settle k_hs43_ k_h23_
      refine ⟨k_r15_, r1, Or.inl ⟨by omega, ?_⟩⟩
      rw [hM_, k_hM_, k_hM45_, s2, s1, k_e27_]
    · obtain rfl : k_j9_ = i.toInt.toNat := by omega
      obtain rfl : k_j13_ = i.toInt.toNat := by omega
      obtain rfl : k_j53_ = i.toInt.toNat := by omega
      obtain rfl : k_j62_ = i.toInt.toNat := by omega
      have cf := cF_spec k_hs19_
      rw [k_e8_, k_e12_] at cf
      have fr := x7free k_hs24_
      have r1 : k_r15_.toInt = onI (M.1 (37, b, 0) i.toInt.toNat).toInt (M.1 (38, b, 0) i.toInt.toNat).toInt 1 := by
        rcases cf with cf | cf
        · rw [cf.2, q1]
        · omega
      refine ⟨k_r15_, r1, Or.inr ⟨by omega, ?_⟩⟩
      rw [hM_, k_hM_, k_hM61_, k_h59_, k_h56_, k_e52_]
    · have g := x7has k_hs5_
      have y3 := eT e3_
      omega
def goD (now kind step cell : Int32) : Prop := 3 ≤ kind.toInt ∧ ¬ step.toInt = 0 ∧ 0 ≤ cell.toInt ∧ (now - now / step * step).toInt = 0
theorem thD {b : Nat} {q : rf → Nat → Int32} {i : Int32} {D D2 : mM} (h : SP_X12_thingGoes i D D2) (hO : OCC b q (D.1 (50, 0, 0))) (hu : (D.1 (12, 0, 0) 7).toInt = -1) (hi : 0 ≤ i.toInt ∧ i.toInt ≤ 39) :
    (¬ goD (D.1 (50, 0, 0) 0) (D.1 (50, 0, 0) (20 + 4 * i.toInt.toNat)) (D.1 (50, 0, 0) (23 + 4 * i.toInt.toNat)) (D.1 (50, 0, 0) (21 + 4 * i.toInt.toNat)) ∧ D2 = D) ∨
    (goD (D.1 (50, 0, 0) 0) (D.1 (50, 0, 0) (20 + 4 * i.toInt.toNat)) (D.1 (50, 0, 0) (23 + 4 * i.toInt.toNat)) (D.1 (50, 0, 0) (21 + 4 * i.toInt.toNat)) ∧ ∃ r : Int32, r.toInt = onI (D.1 (50, 0, 0) (21 + 4 * i.toInt.toNat)).toInt (D.1 (50, 0, 0) (22 + 4 * i.toInt.toNat)).toInt 1 ∧
      (((0 ≤ r.toInt ∧ r.toInt ≤ 191 ∧ occ b q r.toInt.toNat = -1) ∧ D2 = up D (50, 0, 0) (21 + 4 * i.toInt.toNat) r) ∨
       (¬ (0 ≤ r.toInt ∧ r.toInt ≤ 191 ∧ occ b q r.toInt.toNat = -1) ∧ D2 = up D (50, 0, 0) (22 + 4 * i.toInt.toNat) ((D.1 (50, 0, 0) (22 + 4 * i.toInt.toNat) + (4 : Int32)) &&& (7 : Int32))))) := by
  have q1 := il_1
  have q4 : (4 : Int32).toInt = 4 := by decide
  unfold goD
  unfold SP_X12_thingGoes at h
  obtain ⟨r1_, hs5_, h4_, z6_, h7_, j10_, h11_, z8_, e9_, r12_, hs16_, h15_, z17_, h18_, j21_, h22_, z19_, e20_, h23_, r24_, hs28_, h27_, z29_, h30_, j33_, h34_, z31_, e32_, h35_, h⟩ := h
  obtain rfl : j10_ = 23 + 4 * i.toInt.toNat := by omega
  obtain rfl : j21_ = 21 + 4 * i.toInt.toNat := by omega
  obtain rfl : j33_ = 20 + 4 * i.toInt.toNat := by omega
  rw [← e9_, ← e20_, ← e32_]
  rcases h with ⟨h36_, hM_⟩ | ⟨h36_, h⟩
  · exact Or.inl ⟨by omega, hM_⟩
  rcases h with ⟨h37_, hM_⟩ | ⟨h37_, h⟩
  · exact Or.inl ⟨by omega, hM_⟩
  rcases h with ⟨h38_, hM_⟩ | ⟨h38_, z39_, e40_, z41_, h42_, h⟩
  · exact Or.inl ⟨by omega, hM_⟩
  rw [← e40_, ← h42_]
  rcases h with ⟨h43_, r44_, hs48_, h47_, z49_, h50_, j53_, h54_, z51_, e52_, h55_, r56_, hs60_, h59_, h⟩ | ⟨h43_, hM_⟩
  · refine Or.inr ⟨⟨h36_, h37_, h38_, h43_⟩, r56_, ?_⟩
    obtain rfl : j53_ = 22 + 4 * i.toInt.toNat := by omega
    rw [← e52_]
    have on := on_spec h59_.1 ⟨h38_, h23_.2⟩ h55_ (by omega)
    rw [q1] at on
    refine ⟨on, ?_⟩
    have tn : ∀ {z a x j : Int32}, z = D.1 (50, 0, 0) (22 + 4 * i.toInt.toNat) → a.toInt = z.toInt + 4 → 0 ≤ z.toInt ∧ z.toInt ≤ 7 → x = a &&& (7 : Int32) → x = (z51_ + (4 : Int32)) &&& (7 : Int32) := fun {z a x j} hz ha hb hx => by
      have e : a = z51_ + (4 : Int32) := i32e (by rw [ha, addI (x := z51_) rfl q4 (by omega) (by omega), e52_, hz])
      rw [hx, e]
    rcases h with ⟨h61_, r62_, hs66_, h65_, z67_, h68_, r69_, hs73_, h72_, z74_, h75_, j78_, h79_, z76_, e77_, h80_, z81_, h82_, z83_, h85_, h84_, j88_, h89_, M86_, hM87_, hM_⟩ | ⟨h61_, r92_, hs96_, h95_, h⟩
    · refine Or.inr ⟨by omega, ?_⟩
      obtain rfl : j78_ = 22 + 4 * i.toInt.toNat := by omega
      obtain rfl : j88_ = 22 + 4 * i.toInt.toNat := by omega
      rw [hM_, hM87_, tn (j := 0) e77_ h82_ h80_ h85_]
    · have fr := x12free hs96_ hO (by omega) (by omega)
      rcases h with ⟨h97_, r98_, hs102_, h101_, z103_, h104_, r105_, hs109_, h108_, z110_, h111_, j114_, h115_, z112_, e113_, h116_, z117_, h118_, z119_, h121_, h120_, j124_, h125_, M122_, hM123_, hM_⟩ | ⟨h97_, r128_, hs132_, h131_, z133_, h134_, j137_, h138_, M135_, hM136_, hM_⟩
      · refine Or.inr ⟨by omega, ?_⟩
        obtain rfl : j114_ = 22 + 4 * i.toInt.toNat := by omega
        obtain rfl : j124_ = 22 + 4 * i.toInt.toNat := by omega
        rw [hM_, hM123_, tn (j := 0) e113_ h118_ h116_ h121_]
      · refine Or.inl ⟨by omega, ?_⟩
        obtain rfl : j137_ = 21 + 4 * i.toInt.toNat := by omega
        rw [hM_, hM136_]
  · exact Or.inl ⟨fun z => h43_ z.2.2.2, hM_⟩
theorem th_step {b : Nat} {now i i2 : Int32} {Mz M M' D D2 : mM} (h1 : ST_X7_letThingsGo_2 b now Mz i M i2 M') (h2 : SP_X12_thingGoes i D D2) (hR : WRR b M.1 (D.1 (50, 0, 0))) (hD : InvD D) (hu : (D.1 (12, 0, 0) 7).toInt = -1) (hnow : now = D.1 (50, 0, 0) 0) (hi : 0 ≤ i.toInt ∧ i.toInt < nTh (D.1 (50, 0, 0))) : WRR b M'.1 (D2.1 (50, 0, 0)) ∧ (∀ j, j < 20 → D2.1 (50, 0, 0) j = D.1 (50, 0, 0) j) ∧ ∀ (d : rf) (k : Nat), d.1 ≠ 50 → D2.1 d k = D.1 d k := by
  have b1 := nTh_b hD.2.1
  have T := hR.2.1.2 i.toInt.toNat (by omega)
  have P1 := ((hD.2.1.1 (21 + 4 * i.toInt.toNat)).2.2.2.2.2.2.1 (by omega) (by omega)).2.1 (by omega)
  have P2 := ((hD.2.1.1 (22 + 4 * i.toInt.toNat)).2.2.2.2.2.2.1 (by omega) (by omega)).2.2 (by omega)
  have MI := hR.2.2.2.2.2.2.1 i.toInt.toNat (by omega)
  have c := thC h1 (by rw [T.2.2.1]; exact P2) (by rw [T.2.1]; exact P1.2)
  have d := thD h2 hR.2.2.2.2.1 hu (by omega)
  rw [T.2.1, T.2.2.1, T.2.2.2, hnow] at c
  have go : goC (D.1 (50, 0, 0) 0) (D.1 (50, 0, 0) (23 + 4 * i.toInt.toNat)) (D.1 (50, 0, 0) (21 + 4 * i.toInt.toNat)) ↔ goD (D.1 (50, 0, 0) 0) (D.1 (50, 0, 0) (20 + 4 * i.toInt.toNat)) (D.1 (50, 0, 0) (23 + 4 * i.toInt.toNat)) (D.1 (50, 0, 0) (21 + 4 * i.toInt.toNat)) := by
    unfold goC goD
    omega
  rcases c with ⟨c1, c2⟩ | ⟨c1, r, c2, c3⟩ <;> rcases d with ⟨d1, d2⟩ | ⟨d1, r', d2, d3⟩
  · rw [c2, d2]; exact ⟨hR, fun _ _ => rfl, fun _ _ _ => rfl⟩
  · exact absurd (go.mpr d1) c1
  · exact absurd (go.mp c1) d1
  · obtain rfl : r = r' := i32e (c2.trans d2.symm)
    rcases c3 with ⟨c3, c4⟩ | ⟨c3, c4⟩ <;> rcases d3 with ⟨d3, d4⟩ | ⟨d3, d4⟩
    · rw [c4, d4]
      refine ⟨WRR_move hR hD.2.1 (by omega) (by omega) ?_ (by omega) (by omega) c3.2.2, fun j hj => by rw [up_row, updN (by omega)], fun d k hd => by rw [up_other _ _ (fun z => hd (by rw [z]))]⟩
      unfold tcl
      unfold goD at d1
      omega
    · exact absurd c3 d3
    · exact absurd d3 c3
    · rw [c4, d4]
      exact ⟨WRR_turn hR hD.2.1 (by omega), fun j hj => by rw [up_row, updN (by omega)], fun d k hd => by rw [up_other _ _ (fun z => hd (by rw [z]))]⟩
end
